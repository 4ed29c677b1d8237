theorem gMk_nil {B : zS} : gMk B [] 0 := by
  intro u _ _
  rw [zbt_0]
  constructor
  · intro h; cases h
  · rintro ⟨m, hm, _⟩
    cases hm
section X6
variable {σ : zS} {Q : Int → zS → Prop}
set_option maxRecDepth 100000 in
theorem x_gather_out {t n : Int} (hB : Bd (bX σ)) (h0 : 0 ≤ t) (h1 : t < 16) (h2 : 0 ≤ n) (h3 : n < 10) (hr : ∀ p, 0 ≤ p → p < t → rOK σ n p)
    (h : ∀ σ1, zsm [3, 28] σ σ1 → 0 ≤ σ1 3 6 → gX σ1 = gGiv (bX σ) (rX σ n) t → gV (bX σ) n t (gX σ1) → Q 0 σ1) :
    ∀ (c : Nat) (i : Int) (σ1 : zS) (x : Int) (l5 l6 l7 l8 : Option zW), 0 ≤ i → i ≤ gPc (bX σ) t → (gPc (bX σ) t - i).toNat = c → zsm [3, 28] σ σ1 → 0 ≤ σ1 3 6 → gX σ1 = ((zl (gPa (bX σ) t) i).flatMap (rX σ n)).foldl (gAdd (bX σ)) [] → gV (bX σ) n t (gX σ1) → gMk (bX σ) (gX σ1) x →
      zV 21 zF Q 10 [some (.inr 3), some (.inl t), some (.inl n), some (.inl x), some (.inl i), l5, l6, l7, l8] [] σ1 := by
  have hp := gPc_le hB h0 h1
  intro c
  induction c with
  | zero =>
    intro i σ1 x l5 l6 l7 l8 hi0 hi1 hic hs hg0 hg hgv hmk
    have eB : bX σ1 = bX σ := bX_sm hs (by decide)
    have hB1 : Bd (bX σ1) := by rw [eB]; exact hB
    refine zv_21 100 ?_
    simp only [zs_21_0, zs_21_1, zs_21_2, zs_21_5, zs_21_6, zs_21_7, zs_21_8, zs_21_10, zs_21_12, zs_21_13, zs_21_16, zs_21_17, zs_21_20, zs_21_23, zs_21_24, zs_21_27, zs_21_28, zs_21_30, zs_21_33, zs_21_35, zs_21_36, zs_21_38, zs_21_40, zs_21_41, zs_21_43, zs_21_44, zs_21_47, zs_21_50, zs_21_51, zs_21_53, zs_21_54, zs_21_56, zs_21_59, zs_21_61, zs_21_62, zs_21_63, zs_21_66, zs_21_69, zs_21_71, zs_21_72, zs_21_73, zs_21_75, zs_21_76, zs_21_78, zs_21_79, zs_21_82, zs_21_83, zs_21_85, zs_21_88, zs_21_91, zs_21_92, zs_21_94, zs_21_95, zs_21_96, zs_21_97, zs_21_100, zs_21_101, zs_21_104, zs_21_106, zs_21_107, zs_21_108, zs_21_109, zs_21_112, zs_21_113, zs_21_114, zs_21_117, zs_21_120, zs_21_123, zs_21_126, zs_21_129, zs_21_10h, zs_21_38h, za_17, za_28, zg_2_1, zg_3_0, zg_3_1, zg_3_5, zg_3_6, zp_3_6, zrc_17, zrc_18, zrc_22, zrc_46, zrc_47, zli_0, zli_s, zlr_0, zlr_s, zls_0, zls_s, z1i_e, z2i_e, z1r_e, zir_e, ziir_e, z1v_e, z2v_e, zone_e, znil_e, zsp_0, zsp_s, zlz_0, zlz_1, zlz_2, zlz_3, zlz_4, zswp_0, zswp_s, true_and, and_true, implies_true, true_or, or_true, Int.reduceEq, Int.reduceLT, Int.reduceLE, Int.reduceNeg, not_true_eq_false, not_false_eq_true, false_implies, true_implies, zr_e, zwr_o, zwr_s, Nat.reduceEqDiff]
    refine x_parentCount hB1 h0 h1 ?_
    rw [eB]
    have e : i = gPc (bX σ) t := by omega
    refine ⟨by omega, by omega, fun a => ?_, fun a => by omega⟩
    refine h σ1 hs hg0 ?_ hgv
    rw [hg, e]
    rfl
  | succ c ih =>
    intro i σ1 x l5 l6 l7 l8 hi0 hi1 hic hs hg0 hg hgv hmk
    have eB : bX σ1 = bX σ := bX_sm hs (by decide)
    have hB1 : Bd (bX σ1) := by rw [eB]; exact hB
    have hpa := gPa_lt hB h0 h1 hi0 (show i < gPc (bX σ) t by omega)
    have hro := hr _ hpa.1 hpa.2
    refine zv_21 100 ?_
    simp only [zs_21_0, zs_21_1, zs_21_2, zs_21_5, zs_21_6, zs_21_7, zs_21_8, zs_21_10, zs_21_12, zs_21_13, zs_21_16, zs_21_17, zs_21_20, zs_21_23, zs_21_24, zs_21_27, zs_21_28, zs_21_30, zs_21_33, zs_21_35, zs_21_36, zs_21_38, zs_21_40, zs_21_41, zs_21_43, zs_21_44, zs_21_47, zs_21_50, zs_21_51, zs_21_53, zs_21_54, zs_21_56, zs_21_59, zs_21_61, zs_21_62, zs_21_63, zs_21_66, zs_21_69, zs_21_71, zs_21_72, zs_21_73, zs_21_75, zs_21_76, zs_21_78, zs_21_79, zs_21_82, zs_21_83, zs_21_85, zs_21_88, zs_21_91, zs_21_92, zs_21_94, zs_21_95, zs_21_96, zs_21_97, zs_21_100, zs_21_101, zs_21_104, zs_21_106, zs_21_107, zs_21_108, zs_21_109, zs_21_112, zs_21_113, zs_21_114, zs_21_117, zs_21_120, zs_21_123, zs_21_126, zs_21_129, zs_21_10h, zs_21_38h, za_17, za_28, zg_2_1, zg_3_0, zg_3_1, zg_3_5, zg_3_6, zp_3_6, zrc_17, zrc_18, zrc_22, zrc_46, zrc_47, zli_0, zli_s, zlr_0, zlr_s, zls_0, zls_s, z1i_e, z2i_e, z1r_e, zir_e, ziir_e, z1v_e, z2v_e, zone_e, znil_e, zsp_0, zsp_s, zlz_0, zlz_1, zlz_2, zlz_3, zlz_4, zswp_0, zswp_s, true_and, and_true, implies_true, true_or, or_true, Int.reduceEq, Int.reduceLT, Int.reduceLE, Int.reduceNeg, not_true_eq_false, not_false_eq_true, false_implies, true_implies, zr_e, zwr_o, zwr_s, Nat.reduceEqDiff]
    refine x_parentCount hB1 h0 h1 ?_
    rw [eB]
    refine ⟨by omega, by omega, fun a => by omega, fun a => ?_⟩
    refine x_parentAt hB1 h0 h1 hi0 (by rw [eB]; omega) ?_
    rw [eB]
    have hro1 : rOK σ1 n (gPa (bX σ) t i) := rOK_sm hs (by decide) (by decide) (by decide) hro
    have er : rX σ1 = rX σ := rX_sm hs (by decide) (by decide)
    refine x_gather_in (σ := σ1) (p := gPa (bX σ) t i) hB1 h0 h1 h2 h3 hpa.1 hpa.2 hro1 (gX σ1) ?_ _ 0 σ1 x _ _ (by omega) hro1.1 rfl zsm_rf hg0 ?_ (by rw [eB]; exact hgv) (by rw [eB]; exact hmk)
    · intro σ2 x2 l6 l7 l8 hs2 hg02 hg2 hgv2 hmk2
      rw [eB] at hgv2 hmk2 hg2
      refine ih (i + 1) σ2 x2 _ _ _ _ (by omega) (by omega) (by omega) (zsm_tr hs hs2 (by decide)) hg02 ?_ hgv2 hmk2
      rw [hg2, zl_s hi0, List.flatMap_append, List.foldl_append, ← hg, er]
      simp
    · rw [zl_0 (by omega)]; rfl
set_option maxRecDepth 100000 in
theorem x_gather {t n : Int} (hB : Bd (bX σ)) (h0 : 0 ≤ t) (h1 : t < 16) (h2 : 0 ≤ n) (h3 : n < 10) (hr : ∀ p, 0 ≤ p → p < t → rOK σ n p)
    (h : ∀ σ1, zsm [3, 28] σ σ1 → 0 ≤ σ1 3 6 → gX σ1 = gGiv (bX σ) (rX σ n) t → gV (bX σ) n t (gX σ1) → Q 0 σ1) : zM 21 zF [.inr 3, .inl t, .inl n] σ Q := by
  have hp := gPc_le hB h0 h1
  refine ze_21 100 ?_
  simp only [zs_21_0, zs_21_1, zs_21_2, zs_21_5, zs_21_6, zs_21_7, zs_21_8, zs_21_10, zs_21_12, zs_21_13, zs_21_16, zs_21_17, zs_21_20, zs_21_23, zs_21_24, zs_21_27, zs_21_28, zs_21_30, zs_21_33, zs_21_35, zs_21_36, zs_21_38, zs_21_40, zs_21_41, zs_21_43, zs_21_44, zs_21_47, zs_21_50, zs_21_51, zs_21_53, zs_21_54, zs_21_56, zs_21_59, zs_21_61, zs_21_62, zs_21_63, zs_21_66, zs_21_69, zs_21_71, zs_21_72, zs_21_73, zs_21_75, zs_21_76, zs_21_78, zs_21_79, zs_21_82, zs_21_83, zs_21_85, zs_21_88, zs_21_91, zs_21_92, zs_21_94, zs_21_95, zs_21_96, zs_21_97, zs_21_100, zs_21_101, zs_21_104, zs_21_106, zs_21_107, zs_21_108, zs_21_109, zs_21_112, zs_21_113, zs_21_114, zs_21_117, zs_21_120, zs_21_123, zs_21_126, zs_21_129, za_17, za_28, zg_2_1, zg_3_0, zg_3_1, zg_3_5, zg_3_6, zp_3_6, zrc_17, zrc_18, zrc_22, zrc_46, zrc_47, zli_0, zli_s, zlr_0, zlr_s, zls_0, zls_s, z1i_e, z2i_e, z1r_e, zir_e, ziir_e, z1v_e, z2v_e, zone_e, znil_e, zsp_0, zsp_s, zlz_0, zlz_1, zlz_2, zlz_3, zlz_4, zswp_0, zswp_s, true_and, and_true, implies_true, true_or, or_true, Int.reduceEq, Int.reduceLT, Int.reduceLE, Int.reduceNeg, not_true_eq_false, not_false_eq_true, false_implies, true_implies, zr_e, zwr_o, zwr_s, Nat.reduceEqDiff]
  have e : gX (zwr σ 3 6 0) = [] := by
    simp only [gX]
    exact zl_0 (by rw [zwr_s]; omega)
  refine x_gather_out hB h0 h1 h2 h3 hr h _ 0 (zwr σ 3 6 0) 0 _ _ _ _ (by omega) (by omega) rfl (zsm_wr zsm_rf (by decide)) (by rw [zwr_s]; omega) ?_ (by rw [e]; exact gV_nil) (by rw [e]; exact gMk_nil)
  rw [e, zl_0 (by omega)]
  rfl
/-! what the given ones say together -/
set_option maxRecDepth 100000 in
theorem x_cbg_loop (hB : Bd (bX σ)) (h0 : 0 ≤ σ 3 6) (h1 : σ 3 6 ≤ 16) (hv : ∀ m, m ∈ gX σ → 0 ≤ m ∧ m < 60) (k1 : (gX σ).any (gCb (bX σ)) = true → Q 1 σ) (k0 : (gX σ).any (gCb (bX σ)) = false → Q 0 σ) :
    ∀ (c : Nat) (i : Int) (l2 : Option zW), 0 ≤ i → i ≤ σ 3 6 → (σ 3 6 - i).toNat = c → (∀ j, 0 ≤ j → j < i → gCb (bX σ) (σ 28 j) = false) → zV 23 zF Q 2 [some (.inr 3), some (.inl i), l2] [] σ := by
  intro c
  induction c with
  | zero =>
    intro i l2 hi0 hi1 hic hno
    refine zv_23 100 ?_
    simp only [zs_23_0, zs_23_1, zs_23_2, zs_23_3, zs_23_4, zs_23_7, zs_23_10, zs_23_11, zs_23_14, zs_23_17, zs_23_18, zs_23_21, zs_23_22, zs_23_23, zs_23_24, zs_23_25, zs_23_26, zs_23_27, zs_23_30, zs_23_31, zs_23_32, zs_23_35, zs_23_36, zs_23_39, zs_23_42, zs_23_43, zs_23_46, zs_23_49, zs_23_50, zs_23_53, zs_23_54, zs_23_55, zs_23_56, zs_23_57, zs_23_58, zs_23_61, zs_23_62, zs_23_63, zs_23_66, zs_23_69, zs_23_70, zs_23_2h, za_17, za_18, za_28, za_6, zg_1_1, zg_2_1, zg_2_2, zg_3_0, zg_3_1, zg_3_5, zg_3_6, zli_0, zli_s, zlr_0, zlr_s, zls_0, zls_s, z1i_e, z2i_e, z1r_e, zir_e, ziir_e, z1v_e, z2v_e, zone_e, znil_e, zsp_0, zsp_s, zlz_0, zlz_1, zlz_2, zlz_3, zlz_4, zswp_0, zswp_s, true_and, and_true, implies_true, true_or, or_true, Int.reduceEq, Int.reduceLT, Int.reduceLE, Int.reduceNeg, not_true_eq_false, not_false_eq_true, false_implies, true_implies, zr_e, zwr_o, zwr_s, Nat.reduceEqDiff]
    refine ⟨by omega, by omega, fun a => k0 ?_, fun a => by omega⟩
    rw [List.any_eq_false]
    intro m hm
    obtain ⟨j, j0, j1, rfl⟩ := zl_mem.mp hm
    rw [hno j j0 (by omega)]
    decide
  | succ c ih =>
    intro i l2 hi0 hi1 hic hno
    have hm := hv (σ 28 i) (zl_mem.mpr ⟨i, hi0, by omega, rfl⟩)
    have hme : 0 ≤ σ 17 (σ 28 i) ∧ σ 17 (σ 28 i) ≤ 15 ∧ 0 ≤ σ 18 (σ 28 i) ∧ σ 18 (σ 28 i) ≤ 4 ∧ _ := hB.me _ hm.1 hm.2
    have hk : 0 ≤ σ 6 (σ 17 (σ 28 i)) ∧ σ 6 (σ 17 (σ 28 i)) ≤ 2 := hB.kind (σ 17 (σ 28 i)) (by omega) (by omega)
    have ecb : gCb (bX σ) (σ 28 i) = ((decide (σ 18 (σ 28 i) = 1) || decide (σ 18 (σ 28 i) = 4)) && !decide (σ 6 (σ 17 (σ 28 i)) = 2)) := rfl
    have hin : σ 28 i ∈ gX σ := zl_mem.mpr ⟨i, hi0, by omega, rfl⟩
    have yes : (σ 18 (σ 28 i) = 1 ∨ σ 18 (σ 28 i) = 4) → ¬ σ 6 (σ 17 (σ 28 i)) = 2 → Q 1 σ := by
      intro a b
      refine k1 (List.any_eq_true.mpr ⟨_, hin, ?_⟩)
      rw [ecb]
      simp [a, b]
    have no : ¬ ((σ 18 (σ 28 i) = 1 ∨ σ 18 (σ 28 i) = 4) ∧ ¬ σ 6 (σ 17 (σ 28 i)) = 2) → ∀ l2, zV 23 zF Q 2 [some (.inr 3), some (.inl (i + 1)), l2] [] σ := by
      intro a l2
      refine ih (i + 1) l2 (by omega) (by omega) (by omega) (fun j j0 j1 => ?_)
      by_cases e : j = i
      · rw [e, ecb]
        simp only [Bool.and_eq_false_iff, Bool.or_eq_false_iff, decide_eq_false_iff_not, Bool.not_eq_false', decide_eq_true_eq]
        omega
      · exact hno j j0 (by omega)
    refine zv_23 100 ?_
    simp only [zs_23_0, zs_23_1, zs_23_2, zs_23_3, zs_23_4, zs_23_7, zs_23_10, zs_23_11, zs_23_14, zs_23_17, zs_23_18, zs_23_21, zs_23_22, zs_23_23, zs_23_24, zs_23_25, zs_23_26, zs_23_27, zs_23_30, zs_23_31, zs_23_32, zs_23_35, zs_23_36, zs_23_39, zs_23_42, zs_23_43, zs_23_46, zs_23_49, zs_23_50, zs_23_53, zs_23_54, zs_23_55, zs_23_56, zs_23_57, zs_23_58, zs_23_61, zs_23_62, zs_23_63, zs_23_66, zs_23_69, zs_23_70, zs_23_2h, za_17, za_18, za_28, za_6, zg_1_1, zg_2_1, zg_2_2, zg_3_0, zg_3_1, zg_3_5, zg_3_6, zli_0, zli_s, zlr_0, zlr_s, zls_0, zls_s, z1i_e, z2i_e, z1r_e, zir_e, ziir_e, z1v_e, z2v_e, zone_e, znil_e, zsp_0, zsp_s, zlz_0, zlz_1, zlz_2, zlz_3, zlz_4, zswp_0, zswp_s, true_and, and_true, implies_true, true_or, or_true, Int.reduceEq, Int.reduceLT, Int.reduceLE, Int.reduceNeg, not_true_eq_false, not_false_eq_true, false_implies, true_implies, zr_e, zwr_o, zwr_s, Nat.reduceEqDiff]
    repeat' first | omega | (apply yes <;> omega) | (apply no; omega) | apply And.intro | intro _
set_option maxRecDepth 100000 in
theorem x_cbg (hB : Bd (bX σ)) (h0 : 0 ≤ σ 3 6) (h1 : σ 3 6 ≤ 16) (hv : ∀ m, m ∈ gX σ → 0 ≤ m ∧ m < 60) (k1 : (gX σ).any (gCb (bX σ)) = true → Q 1 σ) (k0 : (gX σ).any (gCb (bX σ)) = false → Q 0 σ) : zM 23 zF [.inr 3] σ Q := by
  refine ze_23 100 ?_
  simp only [zs_23_0, zs_23_1, zs_23_2, zs_23_3, zs_23_4, zs_23_7, zs_23_10, zs_23_11, zs_23_14, zs_23_17, zs_23_18, zs_23_21, zs_23_22, zs_23_23, zs_23_24, zs_23_25, zs_23_26, zs_23_27, zs_23_30, zs_23_31, zs_23_32, zs_23_35, zs_23_36, zs_23_39, zs_23_42, zs_23_43, zs_23_46, zs_23_49, zs_23_50, zs_23_53, zs_23_54, zs_23_55, zs_23_56, zs_23_57, zs_23_58, zs_23_61, zs_23_62, zs_23_63, zs_23_66, zs_23_69, zs_23_70, za_17, za_18, za_28, za_6, zg_1_1, zg_2_1, zg_2_2, zg_3_0, zg_3_1, zg_3_5, zg_3_6, zli_0, zli_s, zlr_0, zlr_s, zls_0, zls_s, z1i_e, z2i_e, z1r_e, zir_e, ziir_e, z1v_e, z2v_e, zone_e, znil_e, zsp_0, zsp_s, zlz_0, zlz_1, zlz_2, zlz_3, zlz_4, zswp_0, zswp_s, true_and, and_true, implies_true, true_or, or_true, Int.reduceEq, Int.reduceLT, Int.reduceLE, Int.reduceNeg, not_true_eq_false, not_false_eq_true, false_implies, true_implies, zr_e, zwr_o, zwr_s, Nat.reduceEqDiff]
  exact x_cbg_loop hB h0 h1 hv k1 k0 _ 0 _ (by omega) (by omega) rfl (fun j _ _ => by omega)
set_option maxRecDepth 100000 in
theorem x_aog_loop (hB : Bd (bX σ)) (h0 : 0 ≤ σ 3 6) (h1 : σ 3 6 ≤ 16) (hv : ∀ m, m ∈ gX σ → 0 ≤ m ∧ m < 60) (k : Q (gOr (fun i => σ 12 (σ 17 (σ 28 i))) (σ 3 6).toNat) σ) :
    ∀ (c : Nat) (i : Int), 0 ≤ i → i ≤ σ 3 6 → (σ 3 6 - i).toNat = c → zV 24 zF Q 4 [some (.inr 3), some (.inl (gOr (fun i => σ 12 (σ 17 (σ 28 i))) i.toNat)), some (.inl i)] [] σ := by
  intro c
  induction c with
  | zero =>
    intro i hi0 hi1 hic
    refine zv_24 100 ?_
    simp only [zs_24_0, zs_24_1, zs_24_2, zs_24_3, zs_24_4, zs_24_5, zs_24_6, zs_24_9, zs_24_12, zs_24_13, zs_24_14, zs_24_17, zs_24_20, zs_24_21, zs_24_24, zs_24_27, zs_24_28, zs_24_31, zs_24_32, zs_24_33, zs_24_34, zs_24_35, zs_24_36, zs_24_37, zs_24_40, zs_24_43, zs_24_44, zs_24_4h, za_12, za_17, za_28, zg_1_7, zg_2_1, zg_3_0, zg_3_1, zg_3_5, zg_3_6, zli_0, zli_s, zlr_0, zlr_s, zls_0, zls_s, z1i_e, z2i_e, z1r_e, zir_e, ziir_e, z1v_e, z2v_e, zone_e, znil_e, zsp_0, zsp_s, zlz_0, zlz_1, zlz_2, zlz_3, zlz_4, zswp_0, zswp_s, true_and, and_true, implies_true, true_or, or_true, Int.reduceEq, Int.reduceLT, Int.reduceLE, Int.reduceNeg, not_true_eq_false, not_false_eq_true, false_implies, true_implies, zr_e, zwr_o, zwr_s, Nat.reduceEqDiff]
    refine ⟨by omega, by omega, fun a => ?_, fun a => by omega⟩
    have e : i = σ 3 6 := by omega
    rw [e]
    exact k
  | succ c ih =>
    intro i hi0 hi1 hic
    have hm := hv (σ 28 i) (zl_mem.mpr ⟨i, hi0, by omega, rfl⟩)
    have hme : 0 ≤ σ 17 (σ 28 i) ∧ σ 17 (σ 28 i) ≤ 15 ∧ _ := hB.me _ hm.1 hm.2
    refine zv_24 100 ?_
    simp only [zs_24_0, zs_24_1, zs_24_2, zs_24_3, zs_24_4, zs_24_5, zs_24_6, zs_24_9, zs_24_12, zs_24_13, zs_24_14, zs_24_17, zs_24_20, zs_24_21, zs_24_24, zs_24_27, zs_24_28, zs_24_31, zs_24_32, zs_24_33, zs_24_34, zs_24_35, zs_24_36, zs_24_37, zs_24_40, zs_24_43, zs_24_44, zs_24_4h, za_12, za_17, za_28, zg_1_7, zg_2_1, zg_3_0, zg_3_1, zg_3_5, zg_3_6, zli_0, zli_s, zlr_0, zlr_s, zls_0, zls_s, z1i_e, z2i_e, z1r_e, zir_e, ziir_e, z1v_e, z2v_e, zone_e, znil_e, zsp_0, zsp_s, zlz_0, zlz_1, zlz_2, zlz_3, zlz_4, zswp_0, zswp_s, true_and, and_true, implies_true, true_or, or_true, Int.reduceEq, Int.reduceLT, Int.reduceLE, Int.reduceNeg, not_true_eq_false, not_false_eq_true, false_implies, true_implies, zr_e, zwr_o, zwr_s, Nat.reduceEqDiff]
    refine ⟨by omega, by omega, fun a => by omega, fun a => ⟨by omega, by omega, by omega, by omega, by omega, by omega, ?_⟩⟩
    have := ih (i + 1) (by omega) (by omega) (by omega)
    rw [gOr_s hi0] at this
    exact this
set_option maxRecDepth 100000 in
theorem x_aog (hB : Bd (bX σ)) (h0 : 0 ≤ σ 3 6) (h1 : σ 3 6 ≤ 16) (hv : ∀ m, m ∈ gX σ → 0 ≤ m ∧ m < 60) (k : Q (gOr (fun i => σ 12 (σ 17 (σ 28 i))) (σ 3 6).toNat) σ) : zM 24 zF [.inr 3] σ Q := by
  refine ze_24 100 ?_
  simp only [zs_24_0, zs_24_1, zs_24_2, zs_24_3, zs_24_4, zs_24_5, zs_24_6, zs_24_9, zs_24_12, zs_24_13, zs_24_14, zs_24_17, zs_24_20, zs_24_21, zs_24_24, zs_24_27, zs_24_28, zs_24_31, zs_24_32, zs_24_33, zs_24_34, zs_24_35, zs_24_36, zs_24_37, zs_24_40, zs_24_43, zs_24_44, za_12, za_17, za_28, zg_1_7, zg_2_1, zg_3_0, zg_3_1, zg_3_5, zg_3_6, zli_0, zli_s, zlr_0, zlr_s, zls_0, zls_s, z1i_e, z2i_e, z1r_e, zir_e, ziir_e, z1v_e, z2v_e, zone_e, znil_e, zsp_0, zsp_s, zlz_0, zlz_1, zlz_2, zlz_3, zlz_4, zswp_0, zswp_s, true_and, and_true, implies_true, true_or, or_true, Int.reduceEq, Int.reduceLT, Int.reduceLE, Int.reduceNeg, not_true_eq_false, not_false_eq_true, false_implies, true_implies, zr_e, zwr_o, zwr_s, Nat.reduceEqDiff]
  exact x_aog_loop hB h0 h1 hv k _ 0 (by omega) (by omega) rfl
end X6
