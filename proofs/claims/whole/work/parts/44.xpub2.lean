section XP2
variable {σ : zS} {Q : Int → zS → Prop}
theorem IX_mem {σ' : zS} {t n s r : Int} (hI : IX σ) (h1 : 0 ≤ t) (h2 : t < σ 1 0) (h3 : 0 ≤ n) (h4 : n < 10) (h5 : 0 ≤ s) (h6 : s ≤ 4) (h7 : 0 ≤ r) (h8 : r ≤ 3) (h9 : σ 2 0 < 60) (h10 : σ 24 (10 * t + n) = -4)
    (hs : zsm [2, 17, 18, 23, 24, 25] σ σ') (e : bX σ' = oMem (bX σ) t n s r) (e25 : σ' 25 = zwr σ 25 n 0 25) : IX σ' := by
  obtain ⟨hB, hA, hF, hc⟩ := hI
  have hnn : 1 ≤ σ 1 0 ∧ σ 1 0 ≤ 16 ∧ 3 ≤ σ 2 0 ∧ σ 2 0 ≤ 60 := hB.n
  have hB' : Bd (bX σ') := by rw [e]; exact Bd_mem hB h1 h2 h3 h4 h5 h6 h7 h8 h9 h10
  have er : rX σ' = rX σ := rX_sm hs (by decide) (by decide)
  have e1 : σ' 1 = σ 1 := hs 1 (by decide)
  refine ⟨hB', fun u u0 u1 => ?_, ⟨fun n' a b => ?_, by rw [hs 26 (by decide)]; exact hF.2.1, fun n' a b hf => ?_⟩, by rw [hs 5 (by decide)]; exact hc⟩
  · rw [e1] at u1
    exact AXt_base (by rw [e]; rfl) (by rw [e]; rfl) (by rw [e]; rfl) (by rw [e]; rfl) (hs 12 (by decide)) (hs 13 (by decide)) (hA u u0 u1)
  · rw [e25]
    simp only [zwr, true_and]
    split
    · exact Or.inl rfl
    · exact hF.1 n' a b
  · rw [e25] at hf
    simp only [zwr, true_and] at hf
    by_cases en : n' = n
    · rw [if_pos en] at hf; omega
    · rw [if_neg en] at hf
      intro u u0 u1
      rw [e1] at u1
      have hold := hF.2.2 n' a b hf
      obtain ⟨⟨r1, r2, r3⟩, r4⟩ := hold u u0 u1
      refine ⟨⟨by rw [hs 26 (by decide)]; exact r1, by rw [hs 26 (by decide)]; exact r2, by rw [er, e]; exact gV_mem hB en h3 h4 a b r3⟩, ?_⟩
      rw [er, e, hs 12 (by decide), gHad_mem hB en u0 (by omega) h3 h4 a b (fun p p0 p1 => (hold p p0 (by omega)).1.2.2)]
      exact r4
set_option maxRecDepth 100000 in
theorem xp_member {t n s r : Int} (hI : IX σ) (ht : zr t) (hn : zr n) (hs : zr s) (hr : zr r)
    (hbad : ¬ (0 < t ∧ t < σ 1 0 ∧ 0 ≤ n ∧ n < 10 ∧ ((s = 0 ∧ (σ 6 t = 2 ∨ σ 6 t = 1)) ∨ (s = 4 ∧ ¬ σ 6 t = 2) ∨ s = 1 ∨ s = 2 ∨ s = 3) ∧ 0 ≤ r ∧ r ≤ 3) → Q (-1) σ)
    (hno : (0 < t ∧ t < σ 1 0 ∧ 0 ≤ n ∧ n < 10 ∧ ((s = 0 ∧ (σ 6 t = 2 ∨ σ 6 t = 1)) ∨ (s = 4 ∧ ¬ σ 6 t = 2) ∨ s = 1 ∨ s = 2 ∨ s = 3) ∧ 0 ≤ r ∧ r ≤ 3) → ¬ σ 24 (10 * t + n) = -4 → Q (-2) σ)
    (hfull : (0 < t ∧ t < σ 1 0 ∧ 0 ≤ n ∧ n < 10 ∧ ((s = 0 ∧ (σ 6 t = 2 ∨ σ 6 t = 1)) ∨ (s = 4 ∧ ¬ σ 6 t = 2) ∨ s = 1 ∨ s = 2 ∨ s = 3) ∧ 0 ≤ r ∧ r ≤ 3) → σ 24 (10 * t + n) = -4 → 60 ≤ σ 2 0 → Q (-3) σ)
    (hok : (0 < t ∧ t < σ 1 0 ∧ 0 ≤ n ∧ n < 10 ∧ ((s = 0 ∧ (σ 6 t = 2 ∨ σ 6 t = 1)) ∨ (s = 4 ∧ ¬ σ 6 t = 2) ∨ s = 1 ∨ s = 2 ∨ s = 3) ∧ 0 ≤ r ∧ r ≤ 3) → σ 24 (10 * t + n) = -4 → σ 2 0 < 60 → ∀ σ', zX σ σ' → IX σ' → σ' 5 = σ 5 → bX σ' = oMem (bX σ) t n s r → Q (σ 2 0) σ') : zM 60 zF [.inr 0, .inl t, .inl n, .inl s, .inl r] σ Q := by
  have hnn := hI.n
  have ht' := ht
  have hn' := hn
  have hs' := hs
  simp only [zr] at ht hn hs hr
  refine ze_60 200 ?_
  simp only [zs_60_0, zs_60_1, zs_60_4, zs_60_5, zs_60_8, zs_60_9, zs_60_12, zs_60_15, zs_60_16, zs_60_19, zs_60_22, zs_60_23, zs_60_24, zs_60_25, zs_60_28, zs_60_29, zs_60_30, zs_60_33, zs_60_36, zs_60_38, zs_60_41, zs_60_43, zs_60_44, zs_60_47, zs_60_48, zs_60_49, zs_60_50, zs_60_53, zs_60_54, zs_60_55, zs_60_58, zs_60_60, zs_60_63, zs_60_65, zs_60_66, zs_60_67, zs_60_70, zs_60_73, zs_60_75, zs_60_78, zs_60_80, zs_60_81, zs_60_82, zs_60_85, zs_60_86, zs_60_89, zs_60_90, zs_60_93, zs_60_94, zs_60_95, zs_60_96, zs_60_98, zs_60_101, zg_0_0, zg_0_1, zg_0_2, zg_2_0, zrc_14, zrc_32, zrc_34, zrc_36, zrc_39, zli_0, zli_s, zlr_0, zlr_s, zls_0, zls_s, z1i_e, z2i_e, z1r_e, zir_e, ziir_e, z1v_e, z2v_e, zone_e, znil_e, zsp_0, zsp_s, zlz_0, zlz_1, zlz_2, zlz_3, zlz_4, zswp_0, zswp_s, true_and, and_true, implies_true, true_or, or_true, Int.reduceEq, Int.reduceLT, Int.reduceLE, Int.reduceNeg, not_true_eq_false, not_false_eq_true, false_implies, true_implies, zr_e, zwr_o, zwr_s, Nat.reduceEqDiff]
  refine ⟨ht, fun a => hbad (by omega), fun a => ?_⟩
  refine x_exists hI.1 ht' (fun b1 b2 => ?_) (fun b => ?_)
  · simp only [zs_60_0, zs_60_1, zs_60_4, zs_60_5, zs_60_8, zs_60_9, zs_60_12, zs_60_15, zs_60_16, zs_60_19, zs_60_22, zs_60_23, zs_60_24, zs_60_25, zs_60_28, zs_60_29, zs_60_30, zs_60_33, zs_60_36, zs_60_38, zs_60_41, zs_60_43, zs_60_44, zs_60_47, zs_60_48, zs_60_49, zs_60_50, zs_60_53, zs_60_54, zs_60_55, zs_60_58, zs_60_60, zs_60_63, zs_60_65, zs_60_66, zs_60_67, zs_60_70, zs_60_73, zs_60_75, zs_60_78, zs_60_80, zs_60_81, zs_60_82, zs_60_85, zs_60_86, zs_60_89, zs_60_90, zs_60_93, zs_60_94, zs_60_95, zs_60_96, zs_60_98, zs_60_101, zg_0_0, zg_0_1, zg_0_2, zg_2_0, zrc_14, zrc_32, zrc_34, zrc_36, zrc_39, zli_0, zli_s, zlr_0, zlr_s, zls_0, zls_s, z1i_e, z2i_e, z1r_e, zir_e, ziir_e, z1v_e, z2v_e, zone_e, znil_e, zsp_0, zsp_s, zlz_0, zlz_1, zlz_2, zlz_3, zlz_4, zswp_0, zswp_s, true_and, and_true, implies_true, true_or, or_true, Int.reduceEq, Int.reduceLT, Int.reduceLE, Int.reduceNeg, not_true_eq_false, not_false_eq_true, false_implies, true_implies, zr_e, zwr_o, zwr_s, Nat.reduceEqDiff]
    refine x_isName hn' (fun c1 c2 => ?_) (fun c => ?_)
    · simp only [zs_60_0, zs_60_1, zs_60_4, zs_60_5, zs_60_8, zs_60_9, zs_60_12, zs_60_15, zs_60_16, zs_60_19, zs_60_22, zs_60_23, zs_60_24, zs_60_25, zs_60_28, zs_60_29, zs_60_30, zs_60_33, zs_60_36, zs_60_38, zs_60_41, zs_60_43, zs_60_44, zs_60_47, zs_60_48, zs_60_49, zs_60_50, zs_60_53, zs_60_54, zs_60_55, zs_60_58, zs_60_60, zs_60_63, zs_60_65, zs_60_66, zs_60_67, zs_60_70, zs_60_73, zs_60_75, zs_60_78, zs_60_80, zs_60_81, zs_60_82, zs_60_85, zs_60_86, zs_60_89, zs_60_90, zs_60_93, zs_60_94, zs_60_95, zs_60_96, zs_60_98, zs_60_101, zg_0_0, zg_0_1, zg_0_2, zg_2_0, zrc_14, zrc_32, zrc_34, zrc_36, zrc_39, zli_0, zli_s, zlr_0, zlr_s, zls_0, zls_s, z1i_e, z2i_e, z1r_e, zir_e, ziir_e, z1v_e, z2v_e, zone_e, znil_e, zsp_0, zsp_s, zlz_0, zlz_1, zlz_2, zlz_3, zlz_4, zswp_0, zswp_s, true_and, and_true, implies_true, true_or, or_true, Int.reduceEq, Int.reduceLT, Int.reduceLE, Int.reduceNeg, not_true_eq_false, not_false_eq_true, false_implies, true_implies, zr_e, zwr_o, zwr_s, Nat.reduceEqDiff]
      have how : σ 24 (10 * t + n) = -4 ∨ (0 ≤ σ 24 (10 * t + n) ∧ σ 24 (10 * t + n) < σ 2 0) := hI.1.ow (10 * t + n) (by omega) (by omega)
      refine x_takesSort hI.1 b1 (by omega) hs' (fun d => ?_) (fun d => ?_)
      · simp only [zs_60_0, zs_60_1, zs_60_4, zs_60_5, zs_60_8, zs_60_9, zs_60_12, zs_60_15, zs_60_16, zs_60_19, zs_60_22, zs_60_23, zs_60_24, zs_60_25, zs_60_28, zs_60_29, zs_60_30, zs_60_33, zs_60_36, zs_60_38, zs_60_41, zs_60_43, zs_60_44, zs_60_47, zs_60_48, zs_60_49, zs_60_50, zs_60_53, zs_60_54, zs_60_55, zs_60_58, zs_60_60, zs_60_63, zs_60_65, zs_60_66, zs_60_67, zs_60_70, zs_60_73, zs_60_75, zs_60_78, zs_60_80, zs_60_81, zs_60_82, zs_60_85, zs_60_86, zs_60_89, zs_60_90, zs_60_93, zs_60_94, zs_60_95, zs_60_96, zs_60_98, zs_60_101, zg_0_0, zg_0_1, zg_0_2, zg_2_0, zrc_14, zrc_32, zrc_34, zrc_36, zrc_39, zli_0, zli_s, zlr_0, zlr_s, zls_0, zls_s, z1i_e, z2i_e, z1r_e, zir_e, ziir_e, z1v_e, z2v_e, zone_e, znil_e, zsp_0, zsp_s, zlz_0, zlz_1, zlz_2, zlz_3, zlz_4, zswp_0, zswp_s, true_and, and_true, implies_true, true_or, or_true, Int.reduceEq, Int.reduceLT, Int.reduceLE, Int.reduceNeg, not_true_eq_false, not_false_eq_true, false_implies, true_implies, zr_e, zwr_o, zwr_s, Nat.reduceEqDiff]
        refine ⟨hr, fun e => hbad (by omega), fun e => ⟨hr, fun g => ?_, fun g => hbad (by omega)⟩⟩
        have ok : 0 < t ∧ t < σ 1 0 ∧ 0 ≤ n ∧ n < 10 ∧ ((s = 0 ∧ (σ 6 t = 2 ∨ σ 6 t = 1)) ∨ (s = 4 ∧ ¬ σ 6 t = 2) ∨ s = 1 ∨ s = 2 ∨ s = 3) ∧ 0 ≤ r ∧ r ≤ 3 := ⟨by omega, b2, c1, c2, d, e, by omega⟩
        refine x_ownOf b1 (by omega) c1 c2 ?_
        refine ⟨by omega, fun i => ⟨by omega, fun j => ?_, fun j => hfull ok i j⟩, fun i => hno ok i⟩
        refine x_forget c1 c2 ?_
        have hs1 : zsm [25] σ (zwr σ 25 n 0) := zsm_wr zsm_rf (by decide)
        have eB : bX (zwr σ 25 n 0) = bX σ := bX_sm hs1 (by decide)
        have e2 : zwr σ 25 n 0 2 = σ 2 := hs1 2 (by decide)
        refine x_mappend (dom := zF) b1 (by omega) c1 c2 (by rw [e2]; omega) (by rw [e2]; omega) ?_
        have e := bX_mem (σ := zwr σ 25 n 0) (t := t) (n := n) (s := s) (r := r)
        rw [eB] at e
        have hz : zsm [2, 17, 18, 23, 24, 25] σ (zwr (zwr (zwr (zwr (zwr (zwr σ 25 n 0) 17 (zwr σ 25 n 0 2 0) t) 18 (zwr σ 25 n 0 2 0) s) 23 (zwr σ 25 n 0 2 0) r) 24 (10 * t + n) (zwr σ 25 n 0 2 0)) 2 0 (zwr σ 25 n 0 2 0 + 1)) := zsm_wr (zsm_wr (zsm_wr (zsm_wr (zsm_wr (zsm_wr zsm_rf (by decide)) (by decide)) (by decide)) (by decide)) (by decide)) (by decide)
        have er : Q (σ 2 0) (zwr (zwr (zwr (zwr (zwr (zwr σ 25 n 0) 17 (zwr σ 25 n 0 2 0) t) 18 (zwr σ 25 n 0 2 0) s) 23 (zwr σ 25 n 0 2 0) r) 24 (10 * t + n) (zwr σ 25 n 0 2 0)) 2 0 (zwr σ 25 n 0 2 0 + 1)) := by
          refine hok ok i j _ (zX_sm hz (by decide)) ?_ (hz 5 (by decide)) e
          refine IX_mem hI (by omega) b2 c1 c2 (by omega) (by omega) (by omega) (by omega) j i hz e ?_
          rw [zwr_o (by decide), zwr_o (by decide), zwr_o (by decide), zwr_o (by decide), zwr_o (by decide)]
        rw [e2] at er ⊢
        exact er
      · simp only [zs_60_0, zs_60_1, zs_60_4, zs_60_5, zs_60_8, zs_60_9, zs_60_12, zs_60_15, zs_60_16, zs_60_19, zs_60_22, zs_60_23, zs_60_24, zs_60_25, zs_60_28, zs_60_29, zs_60_30, zs_60_33, zs_60_36, zs_60_38, zs_60_41, zs_60_43, zs_60_44, zs_60_47, zs_60_48, zs_60_49, zs_60_50, zs_60_53, zs_60_54, zs_60_55, zs_60_58, zs_60_60, zs_60_63, zs_60_65, zs_60_66, zs_60_67, zs_60_70, zs_60_73, zs_60_75, zs_60_78, zs_60_80, zs_60_81, zs_60_82, zs_60_85, zs_60_86, zs_60_89, zs_60_90, zs_60_93, zs_60_94, zs_60_95, zs_60_96, zs_60_98, zs_60_101, zg_0_0, zg_0_1, zg_0_2, zg_2_0, zrc_14, zrc_32, zrc_34, zrc_36, zrc_39, zli_0, zli_s, zlr_0, zlr_s, zls_0, zls_s, z1i_e, z2i_e, z1r_e, zir_e, ziir_e, z1v_e, z2v_e, zone_e, znil_e, zsp_0, zsp_s, zlz_0, zlz_1, zlz_2, zlz_3, zlz_4, zswp_0, zswp_s, true_and, and_true, implies_true, true_or, or_true, Int.reduceEq, Int.reduceLT, Int.reduceLE, Int.reduceNeg, not_true_eq_false, not_false_eq_true, false_implies, true_implies, zr_e, zwr_o, zwr_s, Nat.reduceEqDiff]
        exact hbad (by omega)
    · simp only [zs_60_0, zs_60_1, zs_60_4, zs_60_5, zs_60_8, zs_60_9, zs_60_12, zs_60_15, zs_60_16, zs_60_19, zs_60_22, zs_60_23, zs_60_24, zs_60_25, zs_60_28, zs_60_29, zs_60_30, zs_60_33, zs_60_36, zs_60_38, zs_60_41, zs_60_43, zs_60_44, zs_60_47, zs_60_48, zs_60_49, zs_60_50, zs_60_53, zs_60_54, zs_60_55, zs_60_58, zs_60_60, zs_60_63, zs_60_65, zs_60_66, zs_60_67, zs_60_70, zs_60_73, zs_60_75, zs_60_78, zs_60_80, zs_60_81, zs_60_82, zs_60_85, zs_60_86, zs_60_89, zs_60_90, zs_60_93, zs_60_94, zs_60_95, zs_60_96, zs_60_98, zs_60_101, zg_0_0, zg_0_1, zg_0_2, zg_2_0, zrc_14, zrc_32, zrc_34, zrc_36, zrc_39, zli_0, zli_s, zlr_0, zlr_s, zls_0, zls_s, z1i_e, z2i_e, z1r_e, zir_e, ziir_e, z1v_e, z2v_e, zone_e, znil_e, zsp_0, zsp_s, zlz_0, zlz_1, zlz_2, zlz_3, zlz_4, zswp_0, zswp_s, true_and, and_true, implies_true, true_or, or_true, Int.reduceEq, Int.reduceLT, Int.reduceLE, Int.reduceNeg, not_true_eq_false, not_false_eq_true, false_implies, true_implies, zr_e, zwr_o, zwr_s, Nat.reduceEqDiff]
      exact hbad (by omega)
  · simp only [zs_60_0, zs_60_1, zs_60_4, zs_60_5, zs_60_8, zs_60_9, zs_60_12, zs_60_15, zs_60_16, zs_60_19, zs_60_22, zs_60_23, zs_60_24, zs_60_25, zs_60_28, zs_60_29, zs_60_30, zs_60_33, zs_60_36, zs_60_38, zs_60_41, zs_60_43, zs_60_44, zs_60_47, zs_60_48, zs_60_49, zs_60_50, zs_60_53, zs_60_54, zs_60_55, zs_60_58, zs_60_60, zs_60_63, zs_60_65, zs_60_66, zs_60_67, zs_60_70, zs_60_73, zs_60_75, zs_60_78, zs_60_80, zs_60_81, zs_60_82, zs_60_85, zs_60_86, zs_60_89, zs_60_90, zs_60_93, zs_60_94, zs_60_95, zs_60_96, zs_60_98, zs_60_101, zg_0_0, zg_0_1, zg_0_2, zg_2_0, zrc_14, zrc_32, zrc_34, zrc_36, zrc_39, zli_0, zli_s, zlr_0, zlr_s, zls_0, zls_s, z1i_e, z2i_e, z1r_e, zir_e, ziir_e, z1v_e, z2v_e, zone_e, znil_e, zsp_0, zsp_s, zlz_0, zlz_1, zlz_2, zlz_3, zlz_4, zswp_0, zswp_s, true_and, and_true, implies_true, true_or, or_true, Int.reduceEq, Int.reduceLT, Int.reduceLE, Int.reduceNeg, not_true_eq_false, not_false_eq_true, false_implies, true_implies, zr_e, zwr_o, zwr_s, Nat.reduceEqDiff]
    exact hbad (by omega)
/-- which calls may be told -/
abbrev gCall (B : zS) (k u n : Int) : Prop := k = 0 ∨ ((k = 1 ∨ k = 2) ∧ 0 ≤ n ∧ n < 10) ∨ (k = 3 ∧ 0 ≤ n ∧ n < 10 ∧ 0 ≤ u ∧ u < B 16 0 ∧ B 0 u = 2) ∨ (k = 4 ∧ 0 ≤ n ∧ n < 10 ∧ 0 ≤ u ∧ u < B 16 0)
set_option maxRecDepth 100000 in
theorem x_isCall {k u n : Int} (hI : IX σ) (hk : zr k) (hu : zr u) (hn : zr n) (k1 : gCall (bX σ) k u n → Q 1 σ) (k0 : ¬ gCall (bX σ) k u n → Q 0 σ) : zM 74 zF [.inr 0, .inl k, .inl u, .inl n] σ Q := by
  have e : gCall (bX σ) k u n ↔ (k = 0 ∨ ((k = 1 ∨ k = 2) ∧ 0 ≤ n ∧ n < 10) ∨ (k = 3 ∧ 0 ≤ n ∧ n < 10 ∧ 0 ≤ u ∧ u < σ 1 0 ∧ σ 6 u = 2) ∨ (k = 4 ∧ 0 ≤ n ∧ n < 10 ∧ 0 ≤ u ∧ u < σ 1 0)) := Iff.rfl
  rw [e] at k1 k0
  have hk' := hk
  simp only [zr] at hk
  refine ze_74 200 ?_
  simp only [zs_74_0, zs_74_1, zs_74_36, zs_74_37, zs_74_38, zs_74_39, zs_74_42, zs_74_43, zs_74_44, zs_74_47, zs_74_50, zs_74_51, zs_74_54, zs_74_55, zs_74_58, zs_74_61, zs_74_62, zs_74_65, zs_74_66, zs_74_67, zs_74_68, zs_74_71, zs_74_74, zs_74_75, zs_74_78, zs_74_79, zs_74_82, zs_74_85, zs_74_86, zs_74_89, zs_74_90, zs_74_91, zs_74_92, zg_0_0, zrc_36, zrc_37, zli_0, zli_s, zlr_0, zlr_s, zls_0, zls_s, z1i_e, z2i_e, z1r_e, zir_e, ziir_e, z1v_e, z2v_e, zone_e, znil_e, zsp_0, zsp_s, zlz_0, zlz_1, zlz_2, zlz_3, zlz_4, zswp_0, zswp_s, true_and, and_true, implies_true, true_or, or_true, Int.reduceEq, Int.reduceLT, Int.reduceLE, Int.reduceNeg, not_true_eq_false, not_false_eq_true, false_implies, true_implies, zr_e, zwr_o, zwr_s, Nat.reduceEqDiff]
  refine ⟨hk, fun a => k1 (by omega), fun a => ⟨fun b => ?_, fun b => ⟨fun c => ?_, fun c => ⟨fun d => ?_, fun d => ⟨fun g => ?_, fun g => k0 (by omega)⟩⟩⟩⟩⟩
  · refine x_isName hn (fun p q => ⟨by omega, k1 (by omega)⟩) (fun p => ⟨by omega, k0 (by omega)⟩)
  · refine x_isName hn (fun p q => ⟨by omega, k1 (by omega)⟩) (fun p => ⟨by omega, k0 (by omega)⟩)
  · refine x_isName hn (fun p q => ?_) (fun p => ?_)
    · simp only [zs_74_0, zs_74_1, zs_74_36, zs_74_37, zs_74_38, zs_74_39, zs_74_42, zs_74_43, zs_74_44, zs_74_47, zs_74_50, zs_74_51, zs_74_54, zs_74_55, zs_74_58, zs_74_61, zs_74_62, zs_74_65, zs_74_66, zs_74_67, zs_74_68, zs_74_71, zs_74_74, zs_74_75, zs_74_78, zs_74_79, zs_74_82, zs_74_85, zs_74_86, zs_74_89, zs_74_90, zs_74_91, zs_74_92, zg_0_0, zrc_36, zrc_37, zli_0, zli_s, zlr_0, zlr_s, zls_0, zls_s, z1i_e, z2i_e, z1r_e, zir_e, ziir_e, z1v_e, z2v_e, zone_e, znil_e, zsp_0, zsp_s, zlz_0, zlz_1, zlz_2, zlz_3, zlz_4, zswp_0, zswp_s, true_and, and_true, implies_true, true_or, or_true, Int.reduceEq, Int.reduceLT, Int.reduceLE, Int.reduceNeg, not_true_eq_false, not_false_eq_true, false_implies, true_implies, zr_e, zwr_o, zwr_s, Nat.reduceEqDiff]
      refine x_isFace hI.1 hu (fun x y z => ?_) (fun x => ?_)
      · simp only [zs_74_0, zs_74_1, zs_74_36, zs_74_37, zs_74_38, zs_74_39, zs_74_42, zs_74_43, zs_74_44, zs_74_47, zs_74_50, zs_74_51, zs_74_54, zs_74_55, zs_74_58, zs_74_61, zs_74_62, zs_74_65, zs_74_66, zs_74_67, zs_74_68, zs_74_71, zs_74_74, zs_74_75, zs_74_78, zs_74_79, zs_74_82, zs_74_85, zs_74_86, zs_74_89, zs_74_90, zs_74_91, zs_74_92, zg_0_0, zrc_36, zrc_37, zli_0, zli_s, zlr_0, zlr_s, zls_0, zls_s, z1i_e, z2i_e, z1r_e, zir_e, ziir_e, z1v_e, z2v_e, zone_e, znil_e, zsp_0, zsp_s, zlz_0, zlz_1, zlz_2, zlz_3, zlz_4, zswp_0, zswp_s, true_and, and_true, implies_true, true_or, or_true, Int.reduceEq, Int.reduceLT, Int.reduceLE, Int.reduceNeg, not_true_eq_false, not_false_eq_true, false_implies, true_implies, zr_e, zwr_o, zwr_s, Nat.reduceEqDiff]
        exact k1 (by omega)
      · simp only [zs_74_0, zs_74_1, zs_74_36, zs_74_37, zs_74_38, zs_74_39, zs_74_42, zs_74_43, zs_74_44, zs_74_47, zs_74_50, zs_74_51, zs_74_54, zs_74_55, zs_74_58, zs_74_61, zs_74_62, zs_74_65, zs_74_66, zs_74_67, zs_74_68, zs_74_71, zs_74_74, zs_74_75, zs_74_78, zs_74_79, zs_74_82, zs_74_85, zs_74_86, zs_74_89, zs_74_90, zs_74_91, zs_74_92, zg_0_0, zrc_36, zrc_37, zli_0, zli_s, zlr_0, zlr_s, zls_0, zls_s, z1i_e, z2i_e, z1r_e, zir_e, ziir_e, z1v_e, z2v_e, zone_e, znil_e, zsp_0, zsp_s, zlz_0, zlz_1, zlz_2, zlz_3, zlz_4, zswp_0, zswp_s, true_and, and_true, implies_true, true_or, or_true, Int.reduceEq, Int.reduceLT, Int.reduceLE, Int.reduceNeg, not_true_eq_false, not_false_eq_true, false_implies, true_implies, zr_e, zwr_o, zwr_s, Nat.reduceEqDiff]
        refine k0 (fun z => ?_)
        rcases z with z | z | z | z
        · omega
        · omega
        · exact x z.2.2.2.1 z.2.2.2.2.1 z.2.2.2.2.2
        · omega
    · simp only [zs_74_0, zs_74_1, zs_74_36, zs_74_37, zs_74_38, zs_74_39, zs_74_42, zs_74_43, zs_74_44, zs_74_47, zs_74_50, zs_74_51, zs_74_54, zs_74_55, zs_74_58, zs_74_61, zs_74_62, zs_74_65, zs_74_66, zs_74_67, zs_74_68, zs_74_71, zs_74_74, zs_74_75, zs_74_78, zs_74_79, zs_74_82, zs_74_85, zs_74_86, zs_74_89, zs_74_90, zs_74_91, zs_74_92, zg_0_0, zrc_36, zrc_37, zli_0, zli_s, zlr_0, zlr_s, zls_0, zls_s, z1i_e, z2i_e, z1r_e, zir_e, ziir_e, z1v_e, z2v_e, zone_e, znil_e, zsp_0, zsp_s, zlz_0, zlz_1, zlz_2, zlz_3, zlz_4, zswp_0, zswp_s, true_and, and_true, implies_true, true_or, or_true, Int.reduceEq, Int.reduceLT, Int.reduceLE, Int.reduceNeg, not_true_eq_false, not_false_eq_true, false_implies, true_implies, zr_e, zwr_o, zwr_s, Nat.reduceEqDiff]
      exact k0 (by omega)
  · refine x_isName hn (fun p q => ?_) (fun p => ?_)
    · simp only [zs_74_0, zs_74_1, zs_74_36, zs_74_37, zs_74_38, zs_74_39, zs_74_42, zs_74_43, zs_74_44, zs_74_47, zs_74_50, zs_74_51, zs_74_54, zs_74_55, zs_74_58, zs_74_61, zs_74_62, zs_74_65, zs_74_66, zs_74_67, zs_74_68, zs_74_71, zs_74_74, zs_74_75, zs_74_78, zs_74_79, zs_74_82, zs_74_85, zs_74_86, zs_74_89, zs_74_90, zs_74_91, zs_74_92, zg_0_0, zrc_36, zrc_37, zli_0, zli_s, zlr_0, zlr_s, zls_0, zls_s, z1i_e, z2i_e, z1r_e, zir_e, ziir_e, z1v_e, z2v_e, zone_e, znil_e, zsp_0, zsp_s, zlz_0, zlz_1, zlz_2, zlz_3, zlz_4, zswp_0, zswp_s, true_and, and_true, implies_true, true_or, or_true, Int.reduceEq, Int.reduceLT, Int.reduceLE, Int.reduceNeg, not_true_eq_false, not_false_eq_true, false_implies, true_implies, zr_e, zwr_o, zwr_s, Nat.reduceEqDiff]
      refine x_exists hI.1 hu (fun x y => ?_) (fun x => ?_)
      · simp only [zs_74_0, zs_74_1, zs_74_36, zs_74_37, zs_74_38, zs_74_39, zs_74_42, zs_74_43, zs_74_44, zs_74_47, zs_74_50, zs_74_51, zs_74_54, zs_74_55, zs_74_58, zs_74_61, zs_74_62, zs_74_65, zs_74_66, zs_74_67, zs_74_68, zs_74_71, zs_74_74, zs_74_75, zs_74_78, zs_74_79, zs_74_82, zs_74_85, zs_74_86, zs_74_89, zs_74_90, zs_74_91, zs_74_92, zg_0_0, zrc_36, zrc_37, zli_0, zli_s, zlr_0, zlr_s, zls_0, zls_s, z1i_e, z2i_e, z1r_e, zir_e, ziir_e, z1v_e, z2v_e, zone_e, znil_e, zsp_0, zsp_s, zlz_0, zlz_1, zlz_2, zlz_3, zlz_4, zswp_0, zswp_s, true_and, and_true, implies_true, true_or, or_true, Int.reduceEq, Int.reduceLT, Int.reduceLE, Int.reduceNeg, not_true_eq_false, not_false_eq_true, false_implies, true_implies, zr_e, zwr_o, zwr_s, Nat.reduceEqDiff]
        exact k1 (by omega)
      · simp only [zs_74_0, zs_74_1, zs_74_36, zs_74_37, zs_74_38, zs_74_39, zs_74_42, zs_74_43, zs_74_44, zs_74_47, zs_74_50, zs_74_51, zs_74_54, zs_74_55, zs_74_58, zs_74_61, zs_74_62, zs_74_65, zs_74_66, zs_74_67, zs_74_68, zs_74_71, zs_74_74, zs_74_75, zs_74_78, zs_74_79, zs_74_82, zs_74_85, zs_74_86, zs_74_89, zs_74_90, zs_74_91, zs_74_92, zg_0_0, zrc_36, zrc_37, zli_0, zli_s, zlr_0, zlr_s, zls_0, zls_s, z1i_e, z2i_e, z1r_e, zir_e, ziir_e, z1v_e, z2v_e, zone_e, znil_e, zsp_0, zsp_s, zlz_0, zlz_1, zlz_2, zlz_3, zlz_4, zswp_0, zswp_s, true_and, and_true, implies_true, true_or, or_true, Int.reduceEq, Int.reduceLT, Int.reduceLE, Int.reduceNeg, not_true_eq_false, not_false_eq_true, false_implies, true_implies, zr_e, zwr_o, zwr_s, Nat.reduceEqDiff]
        exact k0 (by omega)
    · simp only [zs_74_0, zs_74_1, zs_74_36, zs_74_37, zs_74_38, zs_74_39, zs_74_42, zs_74_43, zs_74_44, zs_74_47, zs_74_50, zs_74_51, zs_74_54, zs_74_55, zs_74_58, zs_74_61, zs_74_62, zs_74_65, zs_74_66, zs_74_67, zs_74_68, zs_74_71, zs_74_74, zs_74_75, zs_74_78, zs_74_79, zs_74_82, zs_74_85, zs_74_86, zs_74_89, zs_74_90, zs_74_91, zs_74_92, zg_0_0, zrc_36, zrc_37, zli_0, zli_s, zlr_0, zlr_s, zls_0, zls_s, z1i_e, z2i_e, z1r_e, zir_e, ziir_e, z1v_e, z2v_e, zone_e, znil_e, zsp_0, zsp_s, zlz_0, zlz_1, zlz_2, zlz_3, zlz_4, zswp_0, zswp_s, true_and, and_true, implies_true, true_or, or_true, Int.reduceEq, Int.reduceLT, Int.reduceLE, Int.reduceNeg, not_true_eq_false, not_false_eq_true, false_implies, true_implies, zr_e, zwr_o, zwr_s, Nat.reduceEqDiff]
      exact k0 (by omega)
set_option maxRecDepth 100000 in
theorem xp_does {m a k u n : Int} (hI : IX σ) (hm : zr m) (ha : zr a) (hk : zr k) (hu : zr u) (hn : zr n)
    (hbad : ¬ (0 ≤ m ∧ m < σ 2 0 ∧ ¬ σ 18 m = 0 ∧ -1000 ≤ a ∧ a ≤ 1000 ∧ gCall (bX σ) k u n) → Q (-1) σ)
    (hok : 0 ≤ m → m < σ 2 0 → ¬ σ 18 m = 0 → -1000 ≤ a → a ≤ 1000 → gCall (bX σ) k u n → ∀ σ', zX σ σ' → IX σ' → σ' 5 = σ 5 → bX σ' = oDoes (bX σ) m a k u n → Q 1 σ') : zM 61 zF [.inr 0, .inl m, .inl a, .inl k, .inl u, .inl n] σ Q := by
  have hnn := hI.n
  have hm' := hm
  simp only [zr] at hm ha
  refine ze_61 200 ?_
  simp only [zs_61_0, zs_61_1, zs_61_4, zs_61_5, zs_61_8, zs_61_11, zs_61_12, zs_61_15, zs_61_18, zs_61_19, zs_61_20, zs_61_23, zs_61_24, zs_61_25, zs_61_26, zs_61_29, zs_61_32, zs_61_33, zs_61_36, zs_61_39, zs_61_40, zs_61_41, zs_61_43, zs_61_45, zs_61_48, zs_61_51, zs_61_52, zs_61_53, zs_61_54, zs_61_57, zs_61_58, zs_61_59, zs_61_60, zs_61_62, zs_61_64, zs_61_67, zs_61_68, za_18, zg_0_1, zg_2_2, zrc_31, zrc_33, zrc_74, zli_0, zli_s, zlr_0, zlr_s, zls_0, zls_s, z1i_e, z2i_e, z1r_e, zir_e, ziir_e, z1v_e, z2v_e, zone_e, znil_e, zsp_0, zsp_s, zlz_0, zlz_1, zlz_2, zlz_3, zlz_4, zswp_0, zswp_s, true_and, and_true, implies_true, true_or, or_true, Int.reduceEq, Int.reduceLT, Int.reduceLE, Int.reduceNeg, not_true_eq_false, not_false_eq_true, false_implies, true_implies, zr_e, zwr_o, zwr_s, Nat.reduceEqDiff]
  refine x_mexists hI.1 hm' (fun b1 b2 => ?_) (fun b => ?_)
  · have hb := mB (m := m) hI.1 b1 (by omega)
    simp only [zs_61_0, zs_61_1, zs_61_4, zs_61_5, zs_61_8, zs_61_11, zs_61_12, zs_61_15, zs_61_18, zs_61_19, zs_61_20, zs_61_23, zs_61_24, zs_61_25, zs_61_26, zs_61_29, zs_61_32, zs_61_33, zs_61_36, zs_61_39, zs_61_40, zs_61_41, zs_61_43, zs_61_45, zs_61_48, zs_61_51, zs_61_52, zs_61_53, zs_61_54, zs_61_57, zs_61_58, zs_61_59, zs_61_60, zs_61_62, zs_61_64, zs_61_67, zs_61_68, za_18, zg_0_1, zg_2_2, zrc_31, zrc_33, zrc_74, zli_0, zli_s, zlr_0, zlr_s, zls_0, zls_s, z1i_e, z2i_e, z1r_e, zir_e, ziir_e, z1v_e, z2v_e, zone_e, znil_e, zsp_0, zsp_s, zlz_0, zlz_1, zlz_2, zlz_3, zlz_4, zswp_0, zswp_s, true_and, and_true, implies_true, true_or, or_true, Int.reduceEq, Int.reduceLT, Int.reduceLE, Int.reduceNeg, not_true_eq_false, not_false_eq_true, false_implies, true_implies, zr_e, zwr_o, zwr_s, Nat.reduceEqDiff]
    refine ⟨b1, by omega, by omega, fun c => ?_, fun c => hbad (by omega)⟩
    refine ⟨ha, fun d => hbad (by omega), fun d => ⟨ha, fun e => hbad (by omega), fun e => ?_⟩⟩
    refine x_isCall hI hk hu hn (fun g => ?_) (fun g => ?_)
    · simp only [zs_61_0, zs_61_1, zs_61_4, zs_61_5, zs_61_8, zs_61_11, zs_61_12, zs_61_15, zs_61_18, zs_61_19, zs_61_20, zs_61_23, zs_61_24, zs_61_25, zs_61_26, zs_61_29, zs_61_32, zs_61_33, zs_61_36, zs_61_39, zs_61_40, zs_61_41, zs_61_43, zs_61_45, zs_61_48, zs_61_51, zs_61_52, zs_61_53, zs_61_54, zs_61_57, zs_61_58, zs_61_59, zs_61_60, zs_61_62, zs_61_64, zs_61_67, zs_61_68, za_18, zg_0_1, zg_2_2, zrc_31, zrc_33, zrc_74, zli_0, zli_s, zlr_0, zlr_s, zls_0, zls_s, z1i_e, z2i_e, z1r_e, zir_e, ziir_e, z1v_e, z2v_e, zone_e, znil_e, zsp_0, zsp_s, zlz_0, zlz_1, zlz_2, zlz_3, zlz_4, zswp_0, zswp_s, true_and, and_true, implies_true, true_or, or_true, Int.reduceEq, Int.reduceLT, Int.reduceLE, Int.reduceNeg, not_true_eq_false, not_false_eq_true, false_implies, true_implies, zr_e, zwr_o, zwr_s, Nat.reduceEqDiff]
      refine x_tell b1 (by omega) ?_
      have hz : zsm [19, 20, 21, 22] σ (zwr (zwr (zwr (zwr σ 19 m a) 20 m k) 21 m u) 22 m n) := zsm_wr (zsm_wr (zsm_wr (zsm_wr zsm_rf (by decide)) (by decide)) (by decide)) (by decide)
      have eb := bX_does (σ := σ) (m := m) (a := a) (k := k) (u := u) (n := n)
      refine hok b1 b2 c d e g _ (zX_sm hz (by decide)) ?_ (hz 5 (by decide)) eb
      have g' : k = 0 ∨ ((k = 1 ∨ k = 2) ∧ 0 ≤ n ∧ n < 10) ∨ (k = 3 ∧ 0 ≤ n ∧ n < 10 ∧ 0 ≤ u ∧ u < σ 1 0 ∧ σ 6 u = 2) ∨ (k = 4 ∧ 0 ≤ n ∧ n < 10 ∧ 0 ≤ u ∧ u < σ 1 0) := g
      exact IX_keep hI (by rw [eb]; exact Bd_does hI.1 b1 b2 d e (by omega) (by omega) hu hn (by omega) (fun z => ⟨by omega, show u < σ 1 0 by omega, show σ 6 u = 2 by omega⟩) (fun z => ⟨by omega, show u < σ 1 0 by omega⟩)) (by rw [eb]; rfl) (by rw [eb]; rfl) (by rw [eb]; rfl) (by rw [eb]; rfl) (by rw [eb]; rfl) (by rw [eb]; rfl) (by rw [eb]; rfl) (by rw [eb]; rfl) (by rw [hz 1 (by decide)]) (hz 12 (by decide)) (hz 13 (by decide)) (hz 25 (by decide)) (hz 26 (by decide)) (hz 27 (by decide)) (hz 5 (by decide))
    · simp only [zs_61_0, zs_61_1, zs_61_4, zs_61_5, zs_61_8, zs_61_11, zs_61_12, zs_61_15, zs_61_18, zs_61_19, zs_61_20, zs_61_23, zs_61_24, zs_61_25, zs_61_26, zs_61_29, zs_61_32, zs_61_33, zs_61_36, zs_61_39, zs_61_40, zs_61_41, zs_61_43, zs_61_45, zs_61_48, zs_61_51, zs_61_52, zs_61_53, zs_61_54, zs_61_57, zs_61_58, zs_61_59, zs_61_60, zs_61_62, zs_61_64, zs_61_67, zs_61_68, za_18, zg_0_1, zg_2_2, zrc_31, zrc_33, zrc_74, zli_0, zli_s, zlr_0, zlr_s, zls_0, zls_s, z1i_e, z2i_e, z1r_e, zir_e, ziir_e, z1v_e, z2v_e, zone_e, znil_e, zsp_0, zsp_s, zlz_0, zlz_1, zlz_2, zlz_3, zlz_4, zswp_0, zswp_s, true_and, and_true, implies_true, true_or, or_true, Int.reduceEq, Int.reduceLT, Int.reduceLE, Int.reduceNeg, not_true_eq_false, not_false_eq_true, false_implies, true_implies, zr_e, zwr_o, zwr_s, Nat.reduceEqDiff]
      exact hbad (fun z => g z.2.2.2.2.2)
  · simp only [zs_61_0, zs_61_1, zs_61_4, zs_61_5, zs_61_8, zs_61_11, zs_61_12, zs_61_15, zs_61_18, zs_61_19, zs_61_20, zs_61_23, zs_61_24, zs_61_25, zs_61_26, zs_61_29, zs_61_32, zs_61_33, zs_61_36, zs_61_39, zs_61_40, zs_61_41, zs_61_43, zs_61_45, zs_61_48, zs_61_51, zs_61_52, zs_61_53, zs_61_54, zs_61_57, zs_61_58, zs_61_59, zs_61_60, zs_61_62, zs_61_64, zs_61_67, zs_61_68, za_18, zg_0_1, zg_2_2, zrc_31, zrc_33, zrc_74, zli_0, zli_s, zlr_0, zlr_s, zls_0, zls_s, z1i_e, z2i_e, z1r_e, zir_e, ziir_e, z1v_e, z2v_e, zone_e, znil_e, zsp_0, zsp_s, zlz_0, zlz_1, zlz_2, zlz_3, zlz_4, zswp_0, zswp_s, true_and, and_true, implies_true, true_or, or_true, Int.reduceEq, Int.reduceLT, Int.reduceLE, Int.reduceNeg, not_true_eq_false, not_false_eq_true, false_implies, true_implies, zr_e, zwr_o, zwr_s, Nat.reduceEqDiff]
    exact hbad (by omega)
theorem bX_con {σ : zS} {t c v : Int} : bX (zwr (zwr σ 14 (4 * t + c) 1) 15 (4 * t + c) v) = oCon (bX σ) t c v := by
  funext k i
  match k with
  | 0 => simp [bX, bM, oCon, zwr]
  | 1 => simp [bX, bM, oCon, zwr]
  | 2 => simp [bX, bM, oCon, zwr]
  | 3 => simp [bX, bM, oCon, zwr]
  | 4 => simp [bX, bM, oCon, zwr]
  | 5 => simp [bX, bM, oCon, zwr]
  | 6 => simp [bX, bM, oCon, zwr]
  | 7 => simp [bX, bM, oCon, zwr]
  | 8 => simp [bX, bM, oCon, zwr]
  | 9 => simp [bX, bM, oCon, zwr]
  | 10 => simp [bX, bM, oCon, zwr]
  | 11 => simp [bX, bM, oCon, zwr]
  | 12 => simp [bX, bM, oCon, zwr]
  | 13 => simp [bX, bM, oCon, zwr]
  | 14 => simp [bX, bM, oCon, zwr]
  | 15 => simp [bX, bM, oCon, zwr]
  | 16 => simp [bX, bM, oCon, zwr]
  | 17 => simp [bX, bM, oCon, zwr]
  | n + 18 => rfl
set_option maxRecDepth 100000 in
theorem xp_constant {t c v : Int} (hI : IX σ) (ht : zr t) (hc : zr c) (hv : zr v) (hbad : ¬ (0 ≤ t ∧ t < σ 1 0 ∧ 0 ≤ c ∧ c < 4) → Q (-1) σ)
    (hno : 0 ≤ t → t < σ 1 0 → 0 ≤ c → c < 4 → ¬ σ 14 (4 * t + c) = 0 → Q (-2) σ)
    (hok : 0 ≤ t → t < σ 1 0 → 0 ≤ c → c < 4 → σ 14 (4 * t + c) = 0 → ∀ σ', zX σ σ' → IX σ' → σ' 5 = σ 5 → bX σ' = oCon (bX σ) t c v → Q 1 σ') : zM 62 zF [.inr 0, .inl t, .inl c, .inl v] σ Q := by
  have hnn := hI.n
  refine ze_62 200 ?_
  simp only [zs_62_0, zs_62_1, zs_62_4, zs_62_5, zs_62_8, zs_62_11, zs_62_12, zs_62_15, zs_62_18, zs_62_19, zs_62_20, zs_62_21, zs_62_24, zs_62_25, zs_62_26, zs_62_27, zs_62_30, zs_62_33, zs_62_34, zs_62_37, zs_62_39, zg_0_0, zrc_36, zrc_52, zli_0, zli_s, zlr_0, zlr_s, zls_0, zls_s, z1i_e, z2i_e, z1r_e, zir_e, ziir_e, z1v_e, z2v_e, zone_e, znil_e, zsp_0, zsp_s, zlz_0, zlz_1, zlz_2, zlz_3, zlz_4, zswp_0, zswp_s, true_and, and_true, implies_true, true_or, or_true, Int.reduceEq, Int.reduceLT, Int.reduceLE, Int.reduceNeg, not_true_eq_false, not_false_eq_true, false_implies, true_implies, zr_e, zwr_o, zwr_s, Nat.reduceEqDiff]
  refine x_exists hI.1 ht (fun b1 b2 => ?_) (fun b => ?_)
  · simp only [zs_62_0, zs_62_1, zs_62_4, zs_62_5, zs_62_8, zs_62_11, zs_62_12, zs_62_15, zs_62_18, zs_62_19, zs_62_20, zs_62_21, zs_62_24, zs_62_25, zs_62_26, zs_62_27, zs_62_30, zs_62_33, zs_62_34, zs_62_37, zs_62_39, zg_0_0, zrc_36, zrc_52, zli_0, zli_s, zlr_0, zlr_s, zls_0, zls_s, z1i_e, z2i_e, z1r_e, zir_e, ziir_e, z1v_e, z2v_e, zone_e, znil_e, zsp_0, zsp_s, zlz_0, zlz_1, zlz_2, zlz_3, zlz_4, zswp_0, zswp_s, true_and, and_true, implies_true, true_or, or_true, Int.reduceEq, Int.reduceLT, Int.reduceLE, Int.reduceNeg, not_true_eq_false, not_false_eq_true, false_implies, true_implies, zr_e, zwr_o, zwr_s, Nat.reduceEqDiff]
    refine x_isConst hc (fun c1 c2 => ?_) (fun c => ?_)
    · simp only [zs_62_0, zs_62_1, zs_62_4, zs_62_5, zs_62_8, zs_62_11, zs_62_12, zs_62_15, zs_62_18, zs_62_19, zs_62_20, zs_62_21, zs_62_24, zs_62_25, zs_62_26, zs_62_27, zs_62_30, zs_62_33, zs_62_34, zs_62_37, zs_62_39, zg_0_0, zrc_36, zrc_52, zli_0, zli_s, zlr_0, zlr_s, zls_0, zls_s, z1i_e, z2i_e, z1r_e, zir_e, ziir_e, z1v_e, z2v_e, zone_e, znil_e, zsp_0, zsp_s, zlz_0, zlz_1, zlz_2, zlz_3, zlz_4, zswp_0, zswp_s, true_and, and_true, implies_true, true_or, or_true, Int.reduceEq, Int.reduceLT, Int.reduceLE, Int.reduceNeg, not_true_eq_false, not_false_eq_true, false_implies, true_implies, zr_e, zwr_o, zwr_s, Nat.reduceEqDiff]
      refine x_tellConstant hI.1 (by omega) (by omega) (fun d => ?_) (fun d => ?_)
      · rw [Int.mul_comm t 4] at d ⊢
        simp only [zs_62_0, zs_62_1, zs_62_4, zs_62_5, zs_62_8, zs_62_11, zs_62_12, zs_62_15, zs_62_18, zs_62_19, zs_62_20, zs_62_21, zs_62_24, zs_62_25, zs_62_26, zs_62_27, zs_62_30, zs_62_33, zs_62_34, zs_62_37, zs_62_39, zg_0_0, zrc_36, zrc_52, zli_0, zli_s, zlr_0, zlr_s, zls_0, zls_s, z1i_e, z2i_e, z1r_e, zir_e, ziir_e, z1v_e, z2v_e, zone_e, znil_e, zsp_0, zsp_s, zlz_0, zlz_1, zlz_2, zlz_3, zlz_4, zswp_0, zswp_s, true_and, and_true, implies_true, true_or, or_true, Int.reduceEq, Int.reduceLT, Int.reduceLE, Int.reduceNeg, not_true_eq_false, not_false_eq_true, false_implies, true_implies, zr_e, zwr_o, zwr_s, Nat.reduceEqDiff]
        have hz : zsm [14, 15] σ (zwr (zwr σ 14 (4 * t + c) 1) 15 (4 * t + c) v) := zsm_wr (zsm_wr zsm_rf (by decide)) (by decide)
        have eb := bX_con (σ := σ) (t := t) (c := c) (v := v)
        refine hok b1 b2 c1 c2 d _ (zX_sm hz (by decide)) ?_ (hz 5 (by decide)) eb
        exact IX_keep hI (by rw [eb]; exact Bd_con hI.1 hv) (by rw [eb]; rfl) (by rw [eb]; rfl) (by rw [eb]; rfl) (by rw [eb]; rfl) (by rw [eb]; rfl) (by rw [eb]; rfl) (by rw [eb]; rfl) (by rw [eb]; rfl) (by rw [hz 1 (by decide)]) (hz 12 (by decide)) (hz 13 (by decide)) (hz 25 (by decide)) (hz 26 (by decide)) (hz 27 (by decide)) (hz 5 (by decide))
      · rw [Int.mul_comm t 4] at d
        simp only [zs_62_0, zs_62_1, zs_62_4, zs_62_5, zs_62_8, zs_62_11, zs_62_12, zs_62_15, zs_62_18, zs_62_19, zs_62_20, zs_62_21, zs_62_24, zs_62_25, zs_62_26, zs_62_27, zs_62_30, zs_62_33, zs_62_34, zs_62_37, zs_62_39, zg_0_0, zrc_36, zrc_52, zli_0, zli_s, zlr_0, zlr_s, zls_0, zls_s, z1i_e, z2i_e, z1r_e, zir_e, ziir_e, z1v_e, z2v_e, zone_e, znil_e, zsp_0, zsp_s, zlz_0, zlz_1, zlz_2, zlz_3, zlz_4, zswp_0, zswp_s, true_and, and_true, implies_true, true_or, or_true, Int.reduceEq, Int.reduceLT, Int.reduceLE, Int.reduceNeg, not_true_eq_false, not_false_eq_true, false_implies, true_implies, zr_e, zwr_o, zwr_s, Nat.reduceEqDiff]
        exact hno b1 b2 c1 c2 d
    · simp only [zs_62_0, zs_62_1, zs_62_4, zs_62_5, zs_62_8, zs_62_11, zs_62_12, zs_62_15, zs_62_18, zs_62_19, zs_62_20, zs_62_21, zs_62_24, zs_62_25, zs_62_26, zs_62_27, zs_62_30, zs_62_33, zs_62_34, zs_62_37, zs_62_39, zg_0_0, zrc_36, zrc_52, zli_0, zli_s, zlr_0, zlr_s, zls_0, zls_s, z1i_e, z2i_e, z1r_e, zir_e, ziir_e, z1v_e, z2v_e, zone_e, znil_e, zsp_0, zsp_s, zlz_0, zlz_1, zlz_2, zlz_3, zlz_4, zswp_0, zswp_s, true_and, and_true, implies_true, true_or, or_true, Int.reduceEq, Int.reduceLT, Int.reduceLE, Int.reduceNeg, not_true_eq_false, not_false_eq_true, false_implies, true_implies, zr_e, zwr_o, zwr_s, Nat.reduceEqDiff]
      exact hbad (by omega)
  · simp only [zs_62_0, zs_62_1, zs_62_4, zs_62_5, zs_62_8, zs_62_11, zs_62_12, zs_62_15, zs_62_18, zs_62_19, zs_62_20, zs_62_21, zs_62_24, zs_62_25, zs_62_26, zs_62_27, zs_62_30, zs_62_33, zs_62_34, zs_62_37, zs_62_39, zg_0_0, zrc_36, zrc_52, zli_0, zli_s, zlr_0, zlr_s, zls_0, zls_s, z1i_e, z2i_e, z1r_e, zir_e, ziir_e, z1v_e, z2v_e, zone_e, znil_e, zsp_0, zsp_s, zlz_0, zlz_1, zlz_2, zlz_3, zlz_4, zswp_0, zswp_s, true_and, and_true, implies_true, true_or, or_true, Int.reduceEq, Int.reduceLT, Int.reduceLE, Int.reduceNeg, not_true_eq_false, not_false_eq_true, false_implies, true_implies, zr_e, zwr_o, zwr_s, Nat.reduceEqDiff]
    exact hbad (by omega)
end XP2
