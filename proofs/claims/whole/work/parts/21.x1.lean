/-! TypeTable: what its methods answer -/
section X1
variable {σ : zS} {Q : Int → zS → Prop}
set_option maxRecDepth 100000 in
theorem x_exists {t : Int} (hB : Bd (bX σ)) (ht : zr t) (h1 : 0 ≤ t → t < σ 1 0 → Q 1 σ) (h0 : t < 0 ∨ σ 1 0 ≤ t → Q 0 σ) : zM 36 zF [.inr 1, .inl t] σ Q := by
  refine ze_36 100 ?_
  have hn : 1 ≤ σ 1 0 ∧ σ 1 0 ≤ 16 ∧ _ := hB.n
  simp only [zr] at ht
  simp only [zs_36_0, zs_36_1, zs_36_4, zs_36_5, zs_36_6, zs_36_9, zs_36_12, zs_36_13, zs_36_16, zs_36_17, zg_1_0, zli_0, zli_s, zlr_0, zlr_s, zls_0, zls_s, z1i_e, z2i_e, z1r_e, zir_e, ziir_e, z1v_e, z2v_e, zone_e, znil_e, zsp_0, zsp_s, zlz_0, zlz_1, zlz_2, zlz_3, zlz_4, zswp_0, zswp_s, true_and, and_true, implies_true, true_or, or_true, Int.reduceEq, Int.reduceLT, Int.reduceLE, Int.reduceNeg, not_true_eq_false, not_false_eq_true, false_implies, true_implies, zr_e, zwr_o, zwr_s, Nat.reduceEqDiff]
  refine ⟨ht, fun a => h0 (by omega), fun a => ⟨ht, by omega, fun b => h0 (by omega), fun b => h1 a b⟩⟩
set_option maxRecDepth 100000 in
theorem x_isFace {t : Int} (hB : Bd (bX σ)) (ht : zr t) (h1 : 0 ≤ t → t < σ 1 0 → σ 6 t = 2 → Q 1 σ) (h0 : (0 ≤ t → t < σ 1 0 → ¬ σ 6 t = 2) → Q 0 σ) : zM 37 zF [.inr 1, .inl t] σ Q := by
  refine ze_37 100 ?_
  have hn : 1 ≤ σ 1 0 ∧ σ 1 0 ≤ 16 ∧ _ := hB.n
  simp only [zs_37_0, zs_37_1, zs_37_2, zs_37_5, zs_37_8, zs_37_9, zs_37_12, zs_37_13, zs_37_14, zs_37_15, zs_37_18, zs_37_19, zs_37_22, zs_37_23, za_6, zg_1_1, zrc_36, zli_0, zli_s, zlr_0, zlr_s, zls_0, zls_s, z1i_e, z2i_e, z1r_e, zir_e, ziir_e, z1v_e, z2v_e, zone_e, znil_e, zsp_0, zsp_s, zlz_0, zlz_1, zlz_2, zlz_3, zlz_4, zswp_0, zswp_s, true_and, and_true, implies_true, true_or, or_true, Int.reduceEq, Int.reduceLT, Int.reduceLE, Int.reduceNeg, not_true_eq_false, not_false_eq_true, false_implies, true_implies, zr_e, zwr_o, zwr_s, Nat.reduceEqDiff]
  refine x_exists hB ht (fun a b => ?_) (fun a => ?_)
  · have hk : 0 ≤ σ 6 t ∧ σ 6 t ≤ 2 := hB.kind t a (by omega)
    simp only [zs_37_0, zs_37_1, zs_37_2, zs_37_5, zs_37_8, zs_37_9, zs_37_12, zs_37_13, zs_37_14, zs_37_15, zs_37_18, zs_37_19, zs_37_22, zs_37_23, za_6, zg_1_1, zrc_36, zli_0, zli_s, zlr_0, zlr_s, zls_0, zls_s, z1i_e, z2i_e, z1r_e, zir_e, ziir_e, z1v_e, z2v_e, zone_e, znil_e, zsp_0, zsp_s, zlz_0, zlz_1, zlz_2, zlz_3, zlz_4, zswp_0, zswp_s, true_and, and_true, implies_true, true_or, or_true, Int.reduceEq, Int.reduceLT, Int.reduceLE, Int.reduceNeg, not_true_eq_false, not_false_eq_true, false_implies, true_implies, zr_e, zwr_o, zwr_s, Nat.reduceEqDiff]
    refine ⟨by omega, by omega, by omega, fun c => h0 (fun _ _ => c), fun c => h1 a b c⟩
  · simp only [zs_37_0, zs_37_1, zs_37_2, zs_37_5, zs_37_8, zs_37_9, zs_37_12, zs_37_13, zs_37_14, zs_37_15, zs_37_18, zs_37_19, zs_37_22, zs_37_23, za_6, zg_1_1, zrc_36, zli_0, zli_s, zlr_0, zlr_s, zls_0, zls_s, z1i_e, z2i_e, z1r_e, zir_e, ziir_e, z1v_e, z2v_e, zone_e, znil_e, zsp_0, zsp_s, zlz_0, zlz_1, zlz_2, zlz_3, zlz_4, zswp_0, zswp_s, true_and, and_true, implies_true, true_or, or_true, Int.reduceEq, Int.reduceLT, Int.reduceLE, Int.reduceNeg, not_true_eq_false, not_false_eq_true, false_implies, true_implies, zr_e, zwr_o, zwr_s, Nat.reduceEqDiff]
    exact h0 (by omega)
set_option maxRecDepth 100000 in
theorem x_isClass {t : Int} (hB : Bd (bX σ)) (ht : zr t) (h1 : 0 ≤ t → t < σ 1 0 → ¬ σ 6 t = 2 → Q 1 σ) (h0 : (0 ≤ t → t < σ 1 0 → σ 6 t = 2) → Q 0 σ) : zM 38 zF [.inr 1, .inl t] σ Q := by
  refine ze_38 100 ?_
  have hn : 1 ≤ σ 1 0 ∧ σ 1 0 ≤ 16 ∧ _ := hB.n
  simp only [zs_38_0, zs_38_1, zs_38_2, zs_38_5, zs_38_8, zs_38_9, zs_38_12, zs_38_13, zs_38_14, zs_38_15, zs_38_18, zs_38_19, zs_38_22, zs_38_23, za_6, zg_1_1, zrc_36, zli_0, zli_s, zlr_0, zlr_s, zls_0, zls_s, z1i_e, z2i_e, z1r_e, zir_e, ziir_e, z1v_e, z2v_e, zone_e, znil_e, zsp_0, zsp_s, zlz_0, zlz_1, zlz_2, zlz_3, zlz_4, zswp_0, zswp_s, true_and, and_true, implies_true, true_or, or_true, Int.reduceEq, Int.reduceLT, Int.reduceLE, Int.reduceNeg, not_true_eq_false, not_false_eq_true, false_implies, true_implies, zr_e, zwr_o, zwr_s, Nat.reduceEqDiff]
  refine x_exists hB ht (fun a b => ?_) (fun a => ?_)
  · have hk : 0 ≤ σ 6 t ∧ σ 6 t ≤ 2 := hB.kind t a (by omega)
    simp only [zs_38_0, zs_38_1, zs_38_2, zs_38_5, zs_38_8, zs_38_9, zs_38_12, zs_38_13, zs_38_14, zs_38_15, zs_38_18, zs_38_19, zs_38_22, zs_38_23, za_6, zg_1_1, zrc_36, zli_0, zli_s, zlr_0, zlr_s, zls_0, zls_s, z1i_e, z2i_e, z1r_e, zir_e, ziir_e, z1v_e, z2v_e, zone_e, znil_e, zsp_0, zsp_s, zlz_0, zlz_1, zlz_2, zlz_3, zlz_4, zswp_0, zswp_s, true_and, and_true, implies_true, true_or, or_true, Int.reduceEq, Int.reduceLT, Int.reduceLE, Int.reduceNeg, not_true_eq_false, not_false_eq_true, false_implies, true_implies, zr_e, zwr_o, zwr_s, Nat.reduceEqDiff]
    refine ⟨by omega, by omega, by omega, fun c => h0 (fun _ _ => c), fun c => h1 a b c⟩
  · simp only [zs_38_0, zs_38_1, zs_38_2, zs_38_5, zs_38_8, zs_38_9, zs_38_12, zs_38_13, zs_38_14, zs_38_15, zs_38_18, zs_38_19, zs_38_22, zs_38_23, za_6, zg_1_1, zrc_36, zli_0, zli_s, zlr_0, zlr_s, zls_0, zls_s, z1i_e, z2i_e, z1r_e, zir_e, ziir_e, z1v_e, z2v_e, zone_e, znil_e, zsp_0, zsp_s, zlz_0, zlz_1, zlz_2, zlz_3, zlz_4, zswp_0, zswp_s, true_and, and_true, implies_true, true_or, or_true, Int.reduceEq, Int.reduceLT, Int.reduceLE, Int.reduceNeg, not_true_eq_false, not_false_eq_true, false_implies, true_implies, zr_e, zwr_o, zwr_s, Nat.reduceEqDiff]
    exact h0 (by omega)
set_option maxRecDepth 100000 in
theorem x_takesSort {t so : Int} (hB : Bd (bX σ)) (h2 : 0 ≤ t) (h3 : t < 16) (hs : zr so) (h1 : (so = 0 ∧ (σ 6 t = 2 ∨ σ 6 t = 1)) ∨ (so = 4 ∧ ¬ σ 6 t = 2) ∨ so = 1 ∨ so = 2 ∨ so = 3 → Q 1 σ) (h0 : ¬ ((so = 0 ∧ (σ 6 t = 2 ∨ σ 6 t = 1)) ∨ (so = 4 ∧ ¬ σ 6 t = 2) ∨ so = 1 ∨ so = 2 ∨ so = 3) → Q 0 σ) : zM 39 zF [.inr 1, .inl t, .inl so] σ Q := by
  refine ze_39 100 ?_
  have hk : 0 ≤ σ 6 t ∧ σ 6 t ≤ 2 := hB.kind t h2 h3
  simp only [zr] at hs
  simp only [zs_39_0, zs_39_1, zs_39_28, zs_39_29, zs_39_32, zs_39_33, zs_39_34, zs_39_35, zs_39_38, zs_39_39, zs_39_42, zs_39_43, zs_39_44, zs_39_45, zs_39_48, zs_39_49, zs_39_52, zs_39_53, zs_39_54, zs_39_55, zs_39_58, zs_39_59, zs_39_60, zs_39_61, zs_39_64, zs_39_65, zs_39_68, zs_39_69, zs_39_70, zs_39_71, zs_39_72, zs_39_75, zs_39_76, zs_39_77, zs_39_80, zs_39_81, zs_39_82, zs_39_85, zs_39_86, zs_39_89, zs_39_90, za_6, zg_1_1, zli_0, zli_s, zlr_0, zlr_s, zls_0, zls_s, z1i_e, z2i_e, z1r_e, zir_e, ziir_e, z1v_e, z2v_e, zone_e, znil_e, zsp_0, zsp_s, zlz_0, zlz_1, zlz_2, zlz_3, zlz_4, zswp_0, zswp_s, true_and, and_true, implies_true, true_or, or_true, Int.reduceEq, Int.reduceLT, Int.reduceLE, Int.reduceNeg, not_true_eq_false, not_false_eq_true, false_implies, true_implies, zr_e, zwr_o, zwr_s, Nat.reduceEqDiff]
  (repeat' first | apply And.intro | intro _) <;> first | omega | (apply h1; omega) | (apply h0; omega)
set_option maxRecDepth 100000 in
theorem x_faceAt {t i : Int} (h0 : 0 ≤ t * 4 + i) (h1 : t * 4 + i < 64) (h : Q (σ 11 (t * 4 + i)) σ) : zM 43 zF [.inr 1, .inl t, .inl i] σ Q := by
  refine ze_43 100 ?_
  simp only [zs_43_0, zs_43_1, zs_43_4, zs_43_5, zs_43_6, zs_43_7, zs_43_8, zs_43_9, zs_43_10, za_11, zg_1_6, zli_0, zli_s, zlr_0, zlr_s, zls_0, zls_s, z1i_e, z2i_e, z1r_e, zir_e, ziir_e, z1v_e, z2v_e, zone_e, znil_e, zsp_0, zsp_s, zlz_0, zlz_1, zlz_2, zlz_3, zlz_4, zswp_0, zswp_s, true_and, and_true, implies_true, true_or, or_true, Int.reduceEq, Int.reduceLT, Int.reduceLE, Int.reduceNeg, not_true_eq_false, not_false_eq_true, false_implies, true_implies, zr_e, zwr_o, zwr_s, Nat.reduceEqDiff]
  exact ⟨h0, h1, h⟩
set_option maxRecDepth 100000 in
theorem x_hasSuper {t : Int} (hB : Bd (bX σ)) (h2 : 0 ≤ t) (h3 : t < 16) (h1 : ¬ (t = 0 ∨ σ 6 t = 2) → Q 1 σ) (h0 : (t = 0 ∨ σ 6 t = 2) → Q 0 σ) : zM 45 zF [.inr 1, .inl t] σ Q := by
  refine ze_45 100 ?_
  have hk : 0 ≤ σ 6 t ∧ σ 6 t ≤ 2 := hB.kind t h2 h3
  simp only [zs_45_0, zs_45_1, zs_45_4, zs_45_5, zs_45_8, zs_45_9, zs_45_10, zs_45_11, zs_45_14, zs_45_15, zs_45_18, zs_45_19, za_6, zg_1_1, zli_0, zli_s, zlr_0, zlr_s, zls_0, zls_s, z1i_e, z2i_e, z1r_e, zir_e, ziir_e, z1v_e, z2v_e, zone_e, znil_e, zsp_0, zsp_s, zlz_0, zlz_1, zlz_2, zlz_3, zlz_4, zswp_0, zswp_s, true_and, and_true, implies_true, true_or, or_true, Int.reduceEq, Int.reduceLT, Int.reduceLE, Int.reduceNeg, not_true_eq_false, not_false_eq_true, false_implies, true_implies, zr_e, zwr_o, zwr_s, Nat.reduceEqDiff]
  (repeat' first | apply And.intro | intro _) <;> first | omega | (apply h1; omega) | (apply h0; omega)
set_option maxRecDepth 100000 in
theorem x_parentCount {t : Int} (hB : Bd (bX σ)) (h2 : 0 ≤ t) (h3 : t < 16) (h : Q (gPc (bX σ) t) σ) : zM 46 zF [.inr 1, .inl t] σ Q := by
  refine ze_46 100 ?_
  simp only [zs_46_0, zs_46_1, zs_46_2, zs_46_5, zs_46_8, zs_46_9, zs_46_10, zs_46_13, zs_46_14, zs_46_15, zs_46_16, zs_46_19, zs_46_20, zs_46_23, zs_46_24, zs_46_25, za_8, zg_1_3, zrc_45, zli_0, zli_s, zlr_0, zlr_s, zls_0, zls_s, z1i_e, z2i_e, z1r_e, zir_e, ziir_e, z1v_e, z2v_e, zone_e, znil_e, zsp_0, zsp_s, zlz_0, zlz_1, zlz_2, zlz_3, zlz_4, zswp_0, zswp_s, true_and, and_true, implies_true, true_or, or_true, Int.reduceEq, Int.reduceLT, Int.reduceLE, Int.reduceNeg, not_true_eq_false, not_false_eq_true, false_implies, true_implies, zr_e, zwr_o, zwr_s, Nat.reduceEqDiff]
  refine x_hasSuper hB h2 h3 (fun a => ?_) (fun a => ?_)
  · have e : gPc (bX σ) t = σ 8 t + 1 := gPc_n (B := bX σ) a
    rw [e] at h
    simp only [zs_46_0, zs_46_1, zs_46_2, zs_46_5, zs_46_8, zs_46_9, zs_46_10, zs_46_13, zs_46_14, zs_46_15, zs_46_16, zs_46_19, zs_46_20, zs_46_23, zs_46_24, zs_46_25, za_8, zg_1_3, zrc_45, zli_0, zli_s, zlr_0, zlr_s, zls_0, zls_s, z1i_e, z2i_e, z1r_e, zir_e, ziir_e, z1v_e, z2v_e, zone_e, znil_e, zsp_0, zsp_s, zlz_0, zlz_1, zlz_2, zlz_3, zlz_4, zswp_0, zswp_s, true_and, and_true, implies_true, true_or, or_true, Int.reduceEq, Int.reduceLT, Int.reduceLE, Int.reduceNeg, not_true_eq_false, not_false_eq_true, false_implies, true_implies, zr_e, zwr_o, zwr_s, Nat.reduceEqDiff]
    exact ⟨h2, h3, by rw [Int.add_comm]; exact h⟩
  · have e : gPc (bX σ) t = σ 8 t := gPc_p (B := bX σ) a
    rw [e] at h
    simp only [zs_46_0, zs_46_1, zs_46_2, zs_46_5, zs_46_8, zs_46_9, zs_46_10, zs_46_13, zs_46_14, zs_46_15, zs_46_16, zs_46_19, zs_46_20, zs_46_23, zs_46_24, zs_46_25, za_8, zg_1_3, zrc_45, zli_0, zli_s, zlr_0, zlr_s, zls_0, zls_s, z1i_e, z2i_e, z1r_e, zir_e, ziir_e, z1v_e, z2v_e, zone_e, znil_e, zsp_0, zsp_s, zlz_0, zlz_1, zlz_2, zlz_3, zlz_4, zswp_0, zswp_s, true_and, and_true, implies_true, true_or, or_true, Int.reduceEq, Int.reduceLT, Int.reduceLE, Int.reduceNeg, not_true_eq_false, not_false_eq_true, false_implies, true_implies, zr_e, zwr_o, zwr_s, Nat.reduceEqDiff]
    exact ⟨h2, h3, h⟩
set_option maxRecDepth 100000 in
theorem x_parentAt {t i : Int} (hB : Bd (bX σ)) (h2 : 0 ≤ t) (h3 : t < 16) (h4 : 0 ≤ i) (h5 : i < gPc (bX σ) t) (h : Q (gPa (bX σ) t i) σ) : zM 47 zF [.inr 1, .inl t, .inl i] σ Q := by
  refine ze_47 100 ?_
  have hf : 0 ≤ σ 8 t ∧ σ 8 t ≤ 4 := hB.fc t h2 h3
  simp only [zs_47_0, zs_47_1, zs_47_2, zs_47_5, zs_47_8, zs_47_9, zs_47_10, zs_47_11, zs_47_14, zs_47_15, zs_47_16, zs_47_19, zs_47_20, zs_47_23, zs_47_24, zs_47_25, zs_47_28, zs_47_29, zs_47_30, zs_47_31, zs_47_32, zs_47_33, zs_47_36, za_7, zg_1_2, zrc_43, zrc_45, zli_0, zli_s, zlr_0, zlr_s, zls_0, zls_s, z1i_e, z2i_e, z1r_e, zir_e, ziir_e, z1v_e, z2v_e, zone_e, znil_e, zsp_0, zsp_s, zlz_0, zlz_1, zlz_2, zlz_3, zlz_4, zswp_0, zswp_s, true_and, and_true, implies_true, true_or, or_true, Int.reduceEq, Int.reduceLT, Int.reduceLE, Int.reduceNeg, not_true_eq_false, not_false_eq_true, false_implies, true_implies, zr_e, zwr_o, zwr_s, Nat.reduceEqDiff]
  refine x_hasSuper hB h2 h3 (fun a => ?_) (fun a => ?_)
  · have e : gPc (bX σ) t = σ 8 t + 1 := gPc_n (B := bX σ) a
    rw [e] at h5
    simp only [zs_47_0, zs_47_1, zs_47_2, zs_47_5, zs_47_8, zs_47_9, zs_47_10, zs_47_11, zs_47_14, zs_47_15, zs_47_16, zs_47_19, zs_47_20, zs_47_23, zs_47_24, zs_47_25, zs_47_28, zs_47_29, zs_47_30, zs_47_31, zs_47_32, zs_47_33, zs_47_36, za_7, zg_1_2, zrc_43, zrc_45, zli_0, zli_s, zlr_0, zlr_s, zls_0, zls_s, z1i_e, z2i_e, z1r_e, zir_e, ziir_e, z1v_e, z2v_e, zone_e, znil_e, zsp_0, zsp_s, zlz_0, zlz_1, zlz_2, zlz_3, zlz_4, zswp_0, zswp_s, true_and, and_true, implies_true, true_or, or_true, Int.reduceEq, Int.reduceLT, Int.reduceLE, Int.reduceNeg, not_true_eq_false, not_false_eq_true, false_implies, true_implies, zr_e, zwr_o, zwr_s, Nat.reduceEqDiff]
    refine ⟨by omega, fun c => ?_, fun c => ?_⟩
    · have e2 : gPa (bX σ) t i = σ 11 (4 * t + (i - 1)) := gPa_n (B := bX σ) a c
      rw [e2] at h
      exact x_faceAt (by omega) (by omega) (by rw [Int.mul_comm t 4]; exact h)
    · have e2 : gPa (bX σ) t i = σ 7 t := gPa_n0 (B := bX σ) a c
      rw [e2] at h
      exact ⟨h2, h3, h⟩
  · have e : gPc (bX σ) t = σ 8 t := gPc_p (B := bX σ) a
    rw [e] at h5
    have e2 : gPa (bX σ) t i = σ 11 (4 * t + i) := gPa_p (B := bX σ) a
    rw [e2] at h
    simp only [zs_47_0, zs_47_1, zs_47_2, zs_47_5, zs_47_8, zs_47_9, zs_47_10, zs_47_11, zs_47_14, zs_47_15, zs_47_16, zs_47_19, zs_47_20, zs_47_23, zs_47_24, zs_47_25, zs_47_28, zs_47_29, zs_47_30, zs_47_31, zs_47_32, zs_47_33, zs_47_36, za_7, zg_1_2, zrc_43, zrc_45, zli_0, zli_s, zlr_0, zlr_s, zls_0, zls_s, z1i_e, z2i_e, z1r_e, zir_e, ziir_e, z1v_e, z2v_e, zone_e, znil_e, zsp_0, zsp_s, zlz_0, zlz_1, zlz_2, zlz_3, zlz_4, zswp_0, zswp_s, true_and, and_true, implies_true, true_or, or_true, Int.reduceEq, Int.reduceLT, Int.reduceLE, Int.reduceNeg, not_true_eq_false, not_false_eq_true, false_implies, true_implies, zr_e, zwr_o, zwr_s, Nat.reduceEqDiff]
    exact x_faceAt (by omega) (by omega) (by rw [Int.mul_comm t 4]; exact h)
set_option maxRecDepth 100000 in
theorem x_constantOf {t c : Int} (h0 : 0 ≤ t * 4 + c) (h1 : t * 4 + c < 64) (h : Q (σ 15 (t * 4 + c)) σ) : zM 53 zF [.inr 1, .inl t, .inl c] σ Q := by
  refine ze_53 100 ?_
  simp only [zs_53_0, zs_53_1, zs_53_4, zs_53_5, zs_53_6, zs_53_7, zs_53_8, zs_53_9, zs_53_10, za_15, zg_1_10, zli_0, zli_s, zlr_0, zlr_s, zls_0, zls_s, z1i_e, z2i_e, z1r_e, zir_e, ziir_e, z1v_e, z2v_e, zone_e, znil_e, zsp_0, zsp_s, zlz_0, zlz_1, zlz_2, zlz_3, zlz_4, zswp_0, zswp_s, true_and, and_true, implies_true, true_or, or_true, Int.reduceEq, Int.reduceLT, Int.reduceLE, Int.reduceNeg, not_true_eq_false, not_false_eq_true, false_implies, true_implies, zr_e, zwr_o, zwr_s, Nat.reduceEqDiff]
  exact ⟨h0, h1, h⟩
set_option maxRecDepth 100000 in
theorem x_isFaceOf_loop {t f : Int} (hB : Bd (bX σ)) (h2 : 0 ≤ t) (h3 : t < 16) (hf : zr f) (h1 : ∀ j, 0 ≤ j → j < σ 8 t → σ 11 (4 * t + j) = f → Q 1 σ) (h0 : (∀ j, 0 ≤ j → j < σ 8 t → ¬ σ 11 (4 * t + j) = f) → Q 0 σ) :
    ∀ (k : Nat) (i : Int), 0 ≤ i → i ≤ σ 8 t → (σ 8 t - i).toNat = k → (∀ j, 0 ≤ j → j < i → ¬ σ 11 (4 * t + j) = f) → zV 44 zF Q 2 [some (.inr 1), some (.inl t), some (.inl f), some (.inl i)] [] σ := by
  have hfc : 0 ≤ σ 8 t ∧ σ 8 t ≤ 4 := hB.fc t h2 h3
  intro k
  induction k with
  | zero =>
    intro i hi hi2 hk hno
    refine zv_44 100 ?_
    simp only [zs_44_0, zs_44_1, zs_44_2, zs_44_3, zs_44_4, zs_44_7, zs_44_8, zs_44_9, zs_44_12, zs_44_13, zs_44_14, zs_44_15, zs_44_18, zs_44_19, zs_44_22, zs_44_23, zs_44_24, zs_44_27, zs_44_30, zs_44_31, zs_44_2h, za_8, zg_1_3, zrc_43, zli_0, zli_s, zlr_0, zlr_s, zls_0, zls_s, z1i_e, z2i_e, z1r_e, zir_e, ziir_e, z1v_e, z2v_e, zone_e, znil_e, zsp_0, zsp_s, zlz_0, zlz_1, zlz_2, zlz_3, zlz_4, zswp_0, zswp_s, true_and, and_true, implies_true, true_or, or_true, Int.reduceEq, Int.reduceLT, Int.reduceLE, Int.reduceNeg, not_true_eq_false, not_false_eq_true, false_implies, true_implies, zr_e, zwr_o, zwr_s, Nat.reduceEqDiff]
    refine ⟨by omega, by omega, by omega, by omega, fun a => h0 (fun j hj hj2 => hno j hj (by omega)), fun a => by omega⟩
  | succ k ih =>
    intro i hi hi2 hk hno
    refine zv_44 100 ?_
    simp only [zs_44_0, zs_44_1, zs_44_2, zs_44_3, zs_44_4, zs_44_7, zs_44_8, zs_44_9, zs_44_12, zs_44_13, zs_44_14, zs_44_15, zs_44_18, zs_44_19, zs_44_22, zs_44_23, zs_44_24, zs_44_27, zs_44_30, zs_44_31, zs_44_2h, za_8, zg_1_3, zrc_43, zli_0, zli_s, zlr_0, zlr_s, zls_0, zls_s, z1i_e, z2i_e, z1r_e, zir_e, ziir_e, z1v_e, z2v_e, zone_e, znil_e, zsp_0, zsp_s, zlz_0, zlz_1, zlz_2, zlz_3, zlz_4, zswp_0, zswp_s, true_and, and_true, implies_true, true_or, or_true, Int.reduceEq, Int.reduceLT, Int.reduceLE, Int.reduceNeg, not_true_eq_false, not_false_eq_true, false_implies, true_implies, zr_e, zwr_o, zwr_s, Nat.reduceEqDiff]
    refine ⟨by omega, by omega, by omega, by omega, fun a => by omega, fun a => ?_⟩
    refine x_faceAt (by omega) (by omega) ?_
    have hj : 0 ≤ σ 11 (4 * t + i) ∧ σ 11 (4 * t + i) ≤ 15 := hB.fj (4 * t + i) (by omega) (by omega)
    rw [Int.mul_comm t 4]
    simp only [zr] at hf
    refine ⟨by omega, hf, fun b => ?_, fun b => ?_⟩
    · refine ih (i + 1) (by omega) (by omega) (by omega) (fun j hj hj2 => ?_)
      by_cases e : j = i
      · rw [e]; exact b
      · exact hno j hj (by omega)
    · exact h1 i hi a b
set_option maxRecDepth 100000 in
theorem x_isFaceOf {t f : Int} (hB : Bd (bX σ)) (h2 : 0 ≤ t) (h3 : t < 16) (hf : zr f) (h1 : ∀ j, 0 ≤ j → j < σ 8 t → σ 11 (4 * t + j) = f → Q 1 σ) (h0 : (∀ j, 0 ≤ j → j < σ 8 t → ¬ σ 11 (4 * t + j) = f) → Q 0 σ) : zM 44 zF [.inr 1, .inl t, .inl f] σ Q := by
  have hfc : 0 ≤ σ 8 t ∧ σ 8 t ≤ 4 := hB.fc t h2 h3
  refine ze_44 100 ?_
  simp only [zs_44_0, zs_44_1, zs_44_2, zs_44_3, zs_44_4, zs_44_7, zs_44_8, zs_44_9, zs_44_12, zs_44_13, zs_44_14, zs_44_15, zs_44_18, zs_44_19, zs_44_22, zs_44_23, zs_44_24, zs_44_27, zs_44_30, zs_44_31, za_8, zg_1_3, zrc_43, zli_0, zli_s, zlr_0, zlr_s, zls_0, zls_s, z1i_e, z2i_e, z1r_e, zir_e, ziir_e, z1v_e, z2v_e, zone_e, znil_e, zsp_0, zsp_s, zlz_0, zlz_1, zlz_2, zlz_3, zlz_4, zswp_0, zswp_s, true_and, and_true, implies_true, true_or, or_true, Int.reduceEq, Int.reduceLT, Int.reduceLE, Int.reduceNeg, not_true_eq_false, not_false_eq_true, false_implies, true_implies, zr_e, zwr_o, zwr_s, Nat.reduceEqDiff]
  exact x_isFaceOf_loop hB h2 h3 hf h1 h0 _ 0 (by omega) (by omega) rfl (fun j _ _ => by omega)
set_option maxRecDepth 100000 in
theorem x_tellConstant {t c v : Int} (hB : Bd (bX σ)) (h2 : 0 ≤ t * 4 + c) (h3 : t * 4 + c < 64) (h1 : σ 14 (t * 4 + c) = 0 → Q 1 (zwr (zwr σ 14 (t * 4 + c) 1) 15 (t * 4 + c) v)) (h0 : ¬ σ 14 (t * 4 + c) = 0 → Q 0 σ) : zM 52 zF [.inr 1, .inl t, .inl c, .inl v] σ Q := by
  refine ze_52 100 ?_
  have hk : (σ 14 (t * 4 + c) = 0 ∨ σ 14 (t * 4 + c) = 1) ∧ _ := hB.co (t * 4 + c) h2 h3
  simp only [zs_52_0, zs_52_1, zs_52_2, zs_52_3, zs_52_4, zs_52_5, zs_52_7, zs_52_8, zs_52_11, zs_52_13, zs_52_14, zs_52_17, zs_52_18, zs_52_19, zs_52_20, zs_52_23, zs_52_25, zs_52_26, zs_52_27, zs_52_28, zs_52_31, zs_52_33, zs_52_34, zs_52_35, zs_52_36, za_14, za_15, zg_1_10, zg_1_9, zli_0, zli_s, zlr_0, zlr_s, zls_0, zls_s, z1i_e, z2i_e, z1r_e, zir_e, ziir_e, z1v_e, z2v_e, zone_e, znil_e, zsp_0, zsp_s, zlz_0, zlz_1, zlz_2, zlz_3, zlz_4, zswp_0, zswp_s, true_and, and_true, implies_true, true_or, or_true, Int.reduceEq, Int.reduceLT, Int.reduceLE, Int.reduceNeg, not_true_eq_false, not_false_eq_true, false_implies, true_implies, zr_e, zwr_o, zwr_s, Nat.reduceEqDiff]
  refine ⟨h2, h3, by omega, fun a => ?_, fun a => ?_⟩
  · exact ⟨h2, h3, h2, h3, h1 a⟩
  · exact h0 a
end X1
