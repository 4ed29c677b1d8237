/-! Holdings: rows by name and type -/
def rX (σ : zS) (n t : Int) : List Int := zl (fun i => σ 27 ((n * 16 + t) * 16 + i)) (σ 26 (n * 16 + t))
def gX (σ : zS) : List Int := zl (σ 28) (σ 3 6)
/-- a settled row -/
def rOK (σ : zS) (n t : Int) : Prop := 0 ≤ σ 26 (n * 16 + t) ∧ σ 26 (n * 16 + t) ≤ 16 ∧ gV (bX σ) n (t + 1) (rX σ n t)
theorem rX_sm {σ σ' : zS} {L : List Nat} (h : zsm L σ σ') (h1 : 26 ∉ L) (h2 : 27 ∉ L) : rX σ' = rX σ := by
  funext n t
  simp only [rX, h 26 h1, h 27 h2]
theorem rOK_sm {σ σ' : zS} {L : List Nat} {n t : Int} (h : zsm L σ σ') (h1 : 26 ∉ L) (h2 : 27 ∉ L) (hL : ∀ c, c ∈ [1, 2, 6, 7, 8, 9, 10, 11, 14, 15, 17, 18, 19, 20, 21, 22, 23, 24] → c ∉ L) (hr : rOK σ n t) : rOK σ' n t := by
  unfold rOK at hr ⊢
  rw [h 26 h1, rX_sm h h1 h2, bX_sm h hL]
  exact hr
section X5
variable {σ : zS} {Q : Int → zS → Prop}
set_option maxRecDepth 100000 in
theorem x_countOf {t n : Int} (h0 : 0 ≤ t) (h1 : t < 16) (h2 : 0 ≤ n) (h3 : n < 10) (h : Q (σ 26 (n * 16 + t)) σ) : zM 17 zF [.inr 3, .inl t, .inl n] σ Q := by
  refine ze_17 100 ?_
  simp only [zs_17_0, zs_17_1, zs_17_4, zs_17_5, zs_17_7, zs_17_8, zs_17_9, zs_17_10, zs_17_11, za_26, zg_3_3, zli_0, zli_s, zlr_0, zlr_s, zls_0, zls_s, z1i_e, z2i_e, z1r_e, zir_e, ziir_e, z1v_e, z2v_e, zone_e, znil_e, zsp_0, zsp_s, zlz_0, zlz_1, zlz_2, zlz_3, zlz_4, zswp_0, zswp_s, true_and, and_true, implies_true, true_or, or_true, Int.reduceEq, Int.reduceLT, Int.reduceLE, Int.reduceNeg, not_true_eq_false, not_false_eq_true, false_implies, true_implies, zr_e, zwr_o, zwr_s, Nat.reduceEqDiff]
  exact ⟨by omega, by omega, h⟩
set_option maxRecDepth 100000 in
theorem x_heldAt {t n i : Int} (h0 : 0 ≤ t) (h1 : t < 16) (h2 : 0 ≤ n) (h3 : n < 10) (h4 : 0 ≤ i) (h5 : i < 16) (h : Q (σ 27 ((n * 16 + t) * 16 + i)) σ) : zM 18 zF [.inr 3, .inl t, .inl n, .inl i] σ Q := by
  refine ze_18 100 ?_
  simp only [zs_18_0, zs_18_1, zs_18_4, zs_18_5, zs_18_7, zs_18_8, zs_18_9, zs_18_10, zs_18_12, zs_18_13, zs_18_14, zs_18_15, zs_18_16, za_27, zg_3_4, zli_0, zli_s, zlr_0, zlr_s, zls_0, zls_s, z1i_e, z2i_e, z1r_e, zir_e, ziir_e, z1v_e, z2v_e, zone_e, znil_e, zsp_0, zsp_s, zlz_0, zlz_1, zlz_2, zlz_3, zlz_4, zswp_0, zswp_s, true_and, and_true, implies_true, true_or, or_true, Int.reduceEq, Int.reduceLT, Int.reduceLE, Int.reduceNeg, not_true_eq_false, not_false_eq_true, false_implies, true_implies, zr_e, zwr_o, zwr_s, Nat.reduceEqDiff]
  exact ⟨by omega, by omega, h⟩
set_option maxRecDepth 100000 in
theorem x_isHandedOn {m : Int} (hB : Bd (bX σ)) (h2 : 0 ≤ m) (h3 : m < 60) (h1 : gHand (bX σ) m = true → Q 1 σ) (h0 : gHand (bX σ) m = false → Q 0 σ) : zM 22 zF [.inr 3, .inl m] σ Q := by
  have hm : 0 ≤ σ 17 m ∧ σ 17 m ≤ 15 ∧ 0 ≤ σ 18 m ∧ σ 18 m ≤ 4 ∧ _ := hB.me m h2 h3
  have hk : 0 ≤ σ 6 (σ 17 m) ∧ σ 6 (σ 17 m) ≤ 2 := hB.kind (σ 17 m) (by omega) (by omega)
  have e1 : (¬ σ 18 m = 3 ∧ ¬ (σ 18 m = 2 ∧ σ 6 (σ 17 m) = 2)) → Q 1 σ := fun a => h1 (by simp only [gHand, bX, Bool.and_eq_true, Bool.not_eq_true', decide_eq_false_iff_not, Bool.and_eq_false_iff]; exact ⟨a.1, by omega⟩)
  have e0 : ¬ (¬ σ 18 m = 3 ∧ ¬ (σ 18 m = 2 ∧ σ 6 (σ 17 m) = 2)) → Q 0 σ := fun a => h0 (by
    cases hb : gHand (bX σ) m with
    | false => rfl
    | true =>
      simp only [gHand, bX, Bool.and_eq_true, Bool.not_eq_true', decide_eq_false_iff_not, Bool.and_eq_false_iff] at hb
      omega)
  refine ze_22 100 ?_
  simp only [zs_22_0, zs_22_1, zs_22_4, zs_22_7, zs_22_8, zs_22_9, zs_22_10, zs_22_11, zs_22_12, zs_22_15, zs_22_16, zs_22_17, zs_22_20, zs_22_21, zs_22_24, zs_22_27, zs_22_28, zs_22_31, zs_22_34, zs_22_35, zs_22_36, zs_22_37, zs_22_38, zs_22_41, zs_22_42, zs_22_45, zs_22_46, za_17, za_18, za_6, zg_1_1, zg_2_1, zg_2_2, zg_3_0, zg_3_1, zli_0, zli_s, zlr_0, zlr_s, zls_0, zls_s, z1i_e, z2i_e, z1r_e, zir_e, ziir_e, z1v_e, z2v_e, zone_e, znil_e, zsp_0, zsp_s, zlz_0, zlz_1, zlz_2, zlz_3, zlz_4, zswp_0, zswp_s, true_and, and_true, implies_true, true_or, or_true, Int.reduceEq, Int.reduceLT, Int.reduceLE, Int.reduceNeg, not_true_eq_false, not_false_eq_true, false_implies, true_implies, zr_e, zwr_o, zwr_s, Nat.reduceEqDiff]
  (repeat' first | apply And.intro | intro _) <;> first | omega | (apply e1; omega) | (apply e0; omega)
set_option maxRecDepth 100000 in
theorem x_hold {t n m : Int} (h0 : 0 ≤ t) (h1 : t < 16) (h2 : 0 ≤ n) (h3 : n < 10) (h4 : 0 ≤ σ 26 (n * 16 + t)) (h5 : σ 26 (n * 16 + t) < 16) (h : Q 0 (zwr (zwr σ 27 ((n * 16 + t) * 16 + σ 26 (n * 16 + t)) m) 26 (n * 16 + t) (σ 26 (n * 16 + t) + 1))) : zM 20 zF [.inr 3, .inl t, .inl n, .inl m] σ Q := by
  refine ze_20 100 ?_
  simp only [zs_20_0, zs_20_1, zs_20_3, zs_20_4, zs_20_5, zs_20_6, zs_20_8, zs_20_9, zs_20_12, zs_20_14, zs_20_16, zs_20_17, zs_20_18, zs_20_21, zs_20_23, zs_20_24, zs_20_25, zs_20_26, zs_20_27, zs_20_28, zs_20_31, zs_20_33, zs_20_34, zs_20_35, zs_20_36, zs_20_37, zs_20_38, za_26, za_27, zg_3_3, zg_3_4, zli_0, zli_s, zlr_0, zlr_s, zls_0, zls_s, z1i_e, z2i_e, z1r_e, zir_e, ziir_e, z1v_e, z2v_e, zone_e, znil_e, zsp_0, zsp_s, zlz_0, zlz_1, zlz_2, zlz_3, zlz_4, zswp_0, zswp_s, true_and, and_true, implies_true, true_or, or_true, Int.reduceEq, Int.reduceLT, Int.reduceLE, Int.reduceNeg, not_true_eq_false, not_false_eq_true, false_implies, true_implies, zr_e, zwr_o, zwr_s, Nat.reduceEqDiff]
  exact ⟨by omega, by omega, by omega, by omega, by omega, by omega, by omega, by omega, h⟩
/-! gather -/
/-- the mask of the types of the members of a list -/
def gMk (B : zS) (l : List Int) (x : Int) : Prop := ∀ u, 0 ≤ u → u < 16 → (zbt x u = true ↔ ∃ m, m ∈ l ∧ B 6 m = u)
set_option maxRecDepth 100000 in
theorem x_gather_in {t n i p : Int} (hB : Bd (bX σ)) (h0 : 0 ≤ t) (h1 : t < 16) (h2 : 0 ≤ n) (h3 : n < 10) (hp0 : 0 ≤ p) (hp1 : p < t) (hr : rOK σ n p) (acc0 : List Int)
    (hK : ∀ (σ1 : zS) (x : Int) (l6 l7 l8 : Option zW), zsm [3, 28] σ σ1 → 0 ≤ σ1 3 6 → gX σ1 = (rX σ n p).foldl (gAdd (bX σ)) acc0 → gV (bX σ) n t (gX σ1) → gMk (bX σ) (gX σ1) x → zV 21 zF Q 10 [some (.inr 3), some (.inl t), some (.inl n), some (.inl x), some (.inl (i + 1)), some (.inl p), l6, l7, l8] [] σ1) :
    ∀ (c : Nat) (k : Int) (σ1 : zS) (x : Int) (l7 l8 : Option zW), 0 ≤ k → k ≤ σ 26 (n * 16 + p) → (σ 26 (n * 16 + p) - k).toNat = c → zsm [3, 28] σ σ1 → 0 ≤ σ1 3 6 → gX σ1 = (zl (fun i => σ 27 ((n * 16 + p) * 16 + i)) k).foldl (gAdd (bX σ)) acc0 → gV (bX σ) n t (gX σ1) → gMk (bX σ) (gX σ1) x →
      zV 21 zF Q 38 [some (.inr 3), some (.inl t), some (.inl n), some (.inl x), some (.inl i), some (.inl p), some (.inl k), l7, l8] [] σ1 := by
  obtain ⟨hr1, hr2, hr3⟩ := hr
  have hnn : 1 ≤ σ 1 0 ∧ σ 1 0 ≤ 16 ∧ 3 ≤ σ 2 0 ∧ σ 2 0 ≤ 60 := hB.n
  intro c
  induction c with
  | zero =>
    intro k σ1 x l7 l8 hk0 hk1 hkc hs hg0 hg hgv hmk
    have e26 : σ1 26 = σ 26 := hs 26 (by decide)
    refine zv_21 100 ?_
    simp only [zs_21_0, zs_21_1, zs_21_2, zs_21_5, zs_21_6, zs_21_7, zs_21_8, zs_21_10, zs_21_12, zs_21_13, zs_21_16, zs_21_17, zs_21_20, zs_21_23, zs_21_24, zs_21_27, zs_21_28, zs_21_30, zs_21_33, zs_21_35, zs_21_36, zs_21_38, zs_21_40, zs_21_41, zs_21_43, zs_21_44, zs_21_47, zs_21_50, zs_21_51, zs_21_53, zs_21_54, zs_21_56, zs_21_59, zs_21_61, zs_21_62, zs_21_63, zs_21_66, zs_21_69, zs_21_71, zs_21_72, zs_21_73, zs_21_75, zs_21_76, zs_21_78, zs_21_79, zs_21_82, zs_21_83, zs_21_85, zs_21_88, zs_21_91, zs_21_92, zs_21_94, zs_21_95, zs_21_96, zs_21_97, zs_21_100, zs_21_101, zs_21_104, zs_21_106, zs_21_107, zs_21_108, zs_21_109, zs_21_112, zs_21_113, zs_21_114, zs_21_117, zs_21_120, zs_21_123, zs_21_126, zs_21_129, zs_21_10h, zs_21_38h, za_17, za_28, zg_2_1, zg_3_0, zg_3_1, zg_3_5, zg_3_6, zp_3_6, zrc_17, zrc_18, zrc_22, zrc_46, zrc_47, zli_0, zli_s, zlr_0, zlr_s, zls_0, zls_s, z1i_e, z2i_e, z1r_e, zir_e, ziir_e, z1v_e, z2v_e, zone_e, znil_e, zsp_0, zsp_s, zlz_0, zlz_1, zlz_2, zlz_3, zlz_4, zswp_0, zswp_s, true_and, and_true, implies_true, true_or, or_true, Int.reduceEq, Int.reduceLT, Int.reduceLE, Int.reduceNeg, not_true_eq_false, not_false_eq_true, false_implies, true_implies, zr_e, zwr_o, zwr_s, Nat.reduceEqDiff]
    refine x_countOf hp0 (by omega) h2 h3 ?_
    rw [e26]
    have e : k = σ 26 (n * 16 + p) := by omega
    refine ⟨by omega, by omega, fun a => ?_, fun a => by omega⟩
    refine hK σ1 x _ _ _ hs hg0 ?_ hgv hmk
    rw [hg, e]
    rfl
  | succ c ih =>
    intro k σ1 x l7 l8 hk0 hk1 hkc hs hg0 hg hgv hmk
    have e26 : σ1 26 = σ 26 := hs 26 (by decide)
    have e27 : σ1 27 = σ 27 := hs 27 (by decide)
    have e17 : σ1 17 = σ 17 := hs 17 (by decide)
    have eB : bX σ1 = bX σ := bX_sm hs (by decide)
    have hB1 : Bd (bX σ1) := by rw [eB]; exact hB
    have hv := hr3.2 (σ 27 ((n * 16 + p) * 16 + k)) (zl_mem.mpr ⟨k, hk0, by omega, rfl⟩)
    have hv2 : 0 ≤ σ 17 (σ 27 ((n * 16 + p) * 16 + k)) ∧ σ 17 (σ 27 ((n * 16 + p) * 16 + k)) ≤ 15 ∧ _ := hB.me _ hv.1 (by have := hv.2.1; simp only [bX] at this; omega)
    have hlen := gV_len hgv h0 hB
    have hcl : (gX σ1).length = σ1 3 6 := zl_len hg0
    have hm60 : σ 27 ((n * 16 + p) * 16 + k) < 60 := by have := hv.2.1; simp only [bX] at this; omega
    have hnext : (zl (fun i => σ 27 ((n * 16 + p) * 16 + i)) (k + 1)).foldl (gAdd (bX σ)) acc0 = gAdd (bX σ) (gX σ1) (σ 27 ((n * 16 + p) * 16 + k)) := by
      rw [zl_s hk0, List.foldl_append, ← hg]
      rfl
    have hgv2 := gV_add hgv hv.1 hv.2.1 hv.2.2.1 (by omega)
    refine zv_21 100 ?_
    simp only [zs_21_0, zs_21_1, zs_21_2, zs_21_5, zs_21_6, zs_21_7, zs_21_8, zs_21_10, zs_21_12, zs_21_13, zs_21_16, zs_21_17, zs_21_20, zs_21_23, zs_21_24, zs_21_27, zs_21_28, zs_21_30, zs_21_33, zs_21_35, zs_21_36, zs_21_38, zs_21_40, zs_21_41, zs_21_43, zs_21_44, zs_21_47, zs_21_50, zs_21_51, zs_21_53, zs_21_54, zs_21_56, zs_21_59, zs_21_61, zs_21_62, zs_21_63, zs_21_66, zs_21_69, zs_21_71, zs_21_72, zs_21_73, zs_21_75, zs_21_76, zs_21_78, zs_21_79, zs_21_82, zs_21_83, zs_21_85, zs_21_88, zs_21_91, zs_21_92, zs_21_94, zs_21_95, zs_21_96, zs_21_97, zs_21_100, zs_21_101, zs_21_104, zs_21_106, zs_21_107, zs_21_108, zs_21_109, zs_21_112, zs_21_113, zs_21_114, zs_21_117, zs_21_120, zs_21_123, zs_21_126, zs_21_129, zs_21_10h, zs_21_38h, za_17, za_28, zg_2_1, zg_3_0, zg_3_1, zg_3_5, zg_3_6, zp_3_6, zrc_17, zrc_18, zrc_22, zrc_46, zrc_47, zli_0, zli_s, zlr_0, zlr_s, zls_0, zls_s, z1i_e, z2i_e, z1r_e, zir_e, ziir_e, z1v_e, z2v_e, zone_e, znil_e, zsp_0, zsp_s, zlz_0, zlz_1, zlz_2, zlz_3, zlz_4, zswp_0, zswp_s, true_and, and_true, implies_true, true_or, or_true, Int.reduceEq, Int.reduceLT, Int.reduceLE, Int.reduceNeg, not_true_eq_false, not_false_eq_true, false_implies, true_implies, zr_e, zwr_o, zwr_s, Nat.reduceEqDiff]
    refine x_countOf hp0 (by omega) h2 h3 ?_
    rw [e26]
    refine ⟨by omega, by omega, fun a => by omega, fun a => ?_⟩
    refine x_heldAt hp0 (by omega) h2 h3 hk0 (by omega) ?_
    rw [e27]
    generalize σ 27 ((n * 16 + p) * 16 + k) = m at *
    rw [e17]
    have hz := zand_one (a := x) (p := σ 17 m) (by omega) (by omega)
    have hzr := zr_zand x (zshl 1 (σ 17 m))
    have hin : zbt x (σ 17 m) = true ↔ m ∈ gX σ1 := by
      rw [hmk (σ 17 m) (by omega) (by omega)]
      constructor
      · rintro ⟨m', hm', e⟩
        have h5 := (hgv.2 m' hm').2.2.1
        have h6 := hv.2.2.1
        have e : bX σ 6 m' = bX σ 6 m := e
        rw [e, h6] at h5
        rw [h5]; exact hm'
      · intro hm'
        exact ⟨m, hm', rfl⟩
    have hstay : m ∈ gX σ1 ∨ gHand (bX σ) m = false → gAdd (bX σ) (gX σ1) m = gX σ1 := by
      intro hc
      unfold gAdd
      rw [if_neg]
      intro hc2
      simp only [Bool.and_eq_true, Bool.not_eq_true', decide_eq_false_iff_not] at hc2
      rcases hc with hc | hc
      · exact hc2.2 hc
      · rw [hc] at hc2; exact absurd hc2.1 (by decide)
    refine ⟨hv.1, by omega, hzr, fun a1 => ?_, fun a1 => ?_⟩
    · have hin2 : m ∈ gX σ1 := hin.mp (by cases hb : zbt x (σ 17 m) with | true => rfl | false => exact absurd (hz.mpr hb) a1)
      have e1 := hstay (Or.inl hin2)
      refine ih (k + 1) σ1 x _ _ (by omega) (by omega) (by omega) hs hg0 ?_ hgv hmk
      rw [hnext, e1]
    · have hnin : m ∉ gX σ1 := fun h => by have := hin.mpr h; rw [hz.mp a1] at this; cases this
      refine x_isHandedOn hB1 hv.1 hm60 (fun b => ?_) (fun b => ?_)
      · rw [eB] at b
        have e1 : gAdd (bX σ) (gX σ1) m = gX σ1 ++ [m] := by
          unfold gAdd
          rw [if_pos]
          simp [b, hnin]
        simp only [zs_21_0, zs_21_1, zs_21_2, zs_21_5, zs_21_6, zs_21_7, zs_21_8, zs_21_10, zs_21_12, zs_21_13, zs_21_16, zs_21_17, zs_21_20, zs_21_23, zs_21_24, zs_21_27, zs_21_28, zs_21_30, zs_21_33, zs_21_35, zs_21_36, zs_21_38, zs_21_40, zs_21_41, zs_21_43, zs_21_44, zs_21_47, zs_21_50, zs_21_51, zs_21_53, zs_21_54, zs_21_56, zs_21_59, zs_21_61, zs_21_62, zs_21_63, zs_21_66, zs_21_69, zs_21_71, zs_21_72, zs_21_73, zs_21_75, zs_21_76, zs_21_78, zs_21_79, zs_21_82, zs_21_83, zs_21_85, zs_21_88, zs_21_91, zs_21_92, zs_21_94, zs_21_95, zs_21_96, zs_21_97, zs_21_100, zs_21_101, zs_21_104, zs_21_106, zs_21_107, zs_21_108, zs_21_109, zs_21_112, zs_21_113, zs_21_114, zs_21_117, zs_21_120, zs_21_123, zs_21_126, zs_21_129, za_17, za_28, zg_2_1, zg_3_0, zg_3_1, zg_3_5, zg_3_6, zp_3_6, zrc_17, zrc_18, zrc_22, zrc_46, zrc_47, zli_0, zli_s, zlr_0, zlr_s, zls_0, zls_s, z1i_e, z2i_e, z1r_e, zir_e, ziir_e, z1v_e, z2v_e, zone_e, znil_e, zsp_0, zsp_s, zlz_0, zlz_1, zlz_2, zlz_3, zlz_4, zswp_0, zswp_s, true_and, and_true, implies_true, true_or, or_true, Int.reduceEq, Int.reduceLT, Int.reduceLE, Int.reduceNeg, not_true_eq_false, not_false_eq_true, false_implies, true_implies, zr_e, zwr_o, zwr_s, Nat.reduceEqDiff]
        have hs2 : zsm [3, 28] σ (zwr (zwr σ1 28 (σ1 3 6) m) 3 6 (σ1 3 6 + 1)) := zsm_wr (zsm_wr hs (by decide)) (by decide)
        have eg : gX (zwr (zwr σ1 28 (σ1 3 6) m) 3 6 (σ1 3 6 + 1)) = gX σ1 ++ [m] := by
          simp only [gX]
          rw [zwr_s, zwr_o (by decide), zl_s hg0, zwr_s]
          congr 1
          exact zl_congr (fun j j0 j1 => by simp only [zwr, true_and]; rw [if_neg (by omega)])
        refine ⟨by omega, by omega, ?_⟩
        refine ih (k + 1) _ _ _ _ (by omega) (by omega) (by omega) hs2 (by rw [zwr_s]; omega) ?_ ?_ ?_
        · rw [eg, hnext, e1]
        · rw [eg, ← e1]; exact hgv2
        · rw [eg]
          intro u u0 u1
          rw [zbt_or, zbt_shl (by omega) (by omega) u0 (by omega), Bool.or_eq_true, hmk u u0 u1, decide_eq_true_eq]
          constructor
          · rintro (⟨m', h1, h2⟩ | h)
            · exact ⟨m', List.mem_append_left _ h1, h2⟩
            · exact ⟨m, by simp, h.symm⟩
          · rintro ⟨m', h1, h2⟩
            rcases List.mem_append.mp h1 with h1 | h1
            · exact Or.inl ⟨m', h1, h2⟩
            · rw [List.mem_singleton.mp h1] at h2
              exact Or.inr h2.symm
      · rw [eB] at b
        have e1 := hstay (Or.inr b)
        simp only [zs_21_0, zs_21_1, zs_21_2, zs_21_5, zs_21_6, zs_21_7, zs_21_8, zs_21_10, zs_21_12, zs_21_13, zs_21_16, zs_21_17, zs_21_20, zs_21_23, zs_21_24, zs_21_27, zs_21_28, zs_21_30, zs_21_33, zs_21_35, zs_21_36, zs_21_38, zs_21_40, zs_21_41, zs_21_43, zs_21_44, zs_21_47, zs_21_50, zs_21_51, zs_21_53, zs_21_54, zs_21_56, zs_21_59, zs_21_61, zs_21_62, zs_21_63, zs_21_66, zs_21_69, zs_21_71, zs_21_72, zs_21_73, zs_21_75, zs_21_76, zs_21_78, zs_21_79, zs_21_82, zs_21_83, zs_21_85, zs_21_88, zs_21_91, zs_21_92, zs_21_94, zs_21_95, zs_21_96, zs_21_97, zs_21_100, zs_21_101, zs_21_104, zs_21_106, zs_21_107, zs_21_108, zs_21_109, zs_21_112, zs_21_113, zs_21_114, zs_21_117, zs_21_120, zs_21_123, zs_21_126, zs_21_129, za_17, za_28, zg_2_1, zg_3_0, zg_3_1, zg_3_5, zg_3_6, zp_3_6, zrc_17, zrc_18, zrc_22, zrc_46, zrc_47, zli_0, zli_s, zlr_0, zlr_s, zls_0, zls_s, z1i_e, z2i_e, z1r_e, zir_e, ziir_e, z1v_e, z2v_e, zone_e, znil_e, zsp_0, zsp_s, zlz_0, zlz_1, zlz_2, zlz_3, zlz_4, zswp_0, zswp_s, true_and, and_true, implies_true, true_or, or_true, Int.reduceEq, Int.reduceLT, Int.reduceLE, Int.reduceNeg, not_true_eq_false, not_false_eq_true, false_implies, true_implies, zr_e, zwr_o, zwr_s, Nat.reduceEqDiff]
        refine ih (k + 1) σ1 x _ _ (by omega) (by omega) (by omega) hs hg0 ?_ hgv hmk
        rw [hnext, e1]
end X5
