section X11
variable {σ : zS} {Q : Int → zS → Prop}
set_option maxRecDepth 100000 in
theorem x_staticOf_loop {n t : Int} (hB : Bd (bX σ)) (h0 : 0 ≤ t) (h1 : t < 16) (h2 : 0 ≤ n) (h3 : n < 10) (hr : rOK σ n t) :
    ∀ (k : Nat) (i : Int) (l4 : Option zW), 0 ≤ i → i ≤ σ 26 (n * 16 + t) → (σ 26 (n * 16 + t) - i).toNat = k → Q (gSt (bX σ) (zd (fun i => σ 27 ((n * 16 + t) * 16 + i)) i k)) σ →
      zV 26 zF Q 2 [some (.inr 3), some (.inl t), some (.inl n), some (.inl i), l4] [] σ := by
  have hc := hr.1
  have hc2 := hr.2.1
  intro k
  induction k with
  | zero =>
    intro i l4 i0 i1 ik hQ
    simp only [zd, gSt] at hQ
    refine zv_26 200 ?_
    simp only [zs_26_0, zs_26_1, zs_26_2, zs_26_3, zs_26_4, zs_26_5, zs_26_6, zs_26_9, zs_26_12, zs_26_13, zs_26_14, zs_26_15, zs_26_16, zs_26_19, zs_26_21, zs_26_22, zs_26_25, zs_26_28, zs_26_30, zs_26_31, zs_26_32, zs_26_35, zs_26_37, zs_26_38, zs_26_41, zs_26_44, zs_26_46, zs_26_2h, za_18, zg_2_2, zg_3_1, zrc_17, zrc_18, zli_0, zli_s, zlr_0, zlr_s, zls_0, zls_s, z1i_e, z2i_e, z1r_e, zir_e, ziir_e, z1v_e, z2v_e, zone_e, znil_e, zsp_0, zsp_s, zlz_0, zlz_1, zlz_2, zlz_3, zlz_4, zswp_0, zswp_s, true_and, and_true, implies_true, true_or, or_true, Int.reduceEq, Int.reduceLT, Int.reduceLE, Int.reduceNeg, not_true_eq_false, not_false_eq_true, false_implies, true_implies, zr_e, zwr_o, zwr_s, Nat.reduceEqDiff]
    refine x_countOf h0 h1 h2 h3 ?_
    exact ⟨by omega, by omega, fun a => hQ, fun a => by omega⟩
  | succ k ih =>
    intro i l4 i0 i1 ik hQ
    have hm := rOK_m hB hr i0 (by omega)
    have hb := mB hB hm.1 hm.2.2
    simp only [zd, gSt] at hQ
    refine zv_26 200 ?_
    simp only [zs_26_0, zs_26_1, zs_26_2, zs_26_3, zs_26_4, zs_26_5, zs_26_6, zs_26_9, zs_26_12, zs_26_13, zs_26_14, zs_26_15, zs_26_16, zs_26_19, zs_26_21, zs_26_22, zs_26_25, zs_26_28, zs_26_30, zs_26_31, zs_26_32, zs_26_35, zs_26_37, zs_26_38, zs_26_41, zs_26_44, zs_26_46, zs_26_2h, za_18, zg_2_2, zg_3_1, zrc_17, zrc_18, zli_0, zli_s, zlr_0, zlr_s, zls_0, zls_s, z1i_e, z2i_e, z1r_e, zir_e, ziir_e, z1v_e, z2v_e, zone_e, znil_e, zsp_0, zsp_s, zlz_0, zlz_1, zlz_2, zlz_3, zlz_4, zswp_0, zswp_s, true_and, and_true, implies_true, true_or, or_true, Int.reduceEq, Int.reduceLT, Int.reduceLE, Int.reduceNeg, not_true_eq_false, not_false_eq_true, false_implies, true_implies, zr_e, zwr_o, zwr_s, Nat.reduceEqDiff]
    refine x_countOf h0 h1 h2 h3 ?_
    refine ⟨by omega, by omega, fun a => by omega, fun a => ?_⟩
    refine x_heldAt h0 h1 h2 h3 i0 (by omega) ?_
    generalize σ 27 ((n * 16 + t) * 16 + i) = m at *
    by_cases c : σ 18 m = 2
    · rw [if_pos (show bX σ 7 m = 2 from c)] at hQ
      exact ⟨by omega, by omega, by omega, fun b => absurd c b, fun b => hQ⟩
    · rw [if_neg (show ¬ bX σ 7 m = 2 from c)] at hQ
      exact ⟨by omega, by omega, by omega, fun b => ih (i + 1) _ (by omega) (by omega) (by omega) hQ, fun b => absurd b c⟩
set_option maxRecDepth 100000 in
theorem x_staticOf {n t : Int} (hB : Bd (bX σ)) (h0 : 0 ≤ t) (h1 : t < 16) (h2 : 0 ≤ n) (h3 : n < 10) (hr : rOK σ n t) (h : Q (gSt (bX σ) (rX σ n t)) σ) : zM 26 zF [.inr 3, .inl t, .inl n] σ Q := by
  refine ze_26 200 ?_
  simp only [zs_26_0, zs_26_1, zs_26_2, zs_26_3, zs_26_4, zs_26_5, zs_26_6, zs_26_9, zs_26_12, zs_26_13, zs_26_14, zs_26_15, zs_26_16, zs_26_19, zs_26_21, zs_26_22, zs_26_25, zs_26_28, zs_26_30, zs_26_31, zs_26_32, zs_26_35, zs_26_37, zs_26_38, zs_26_41, zs_26_44, zs_26_46, za_18, zg_2_2, zg_3_1, zrc_17, zrc_18, zli_0, zli_s, zlr_0, zlr_s, zls_0, zls_s, z1i_e, z2i_e, z1r_e, zir_e, ziir_e, z1v_e, z2v_e, zone_e, znil_e, zsp_0, zsp_s, zlz_0, zlz_1, zlz_2, zlz_3, zlz_4, zswp_0, zswp_s, true_and, and_true, implies_true, true_or, or_true, Int.reduceEq, Int.reduceLT, Int.reduceLE, Int.reduceNeg, not_true_eq_false, not_false_eq_true, false_implies, true_implies, zr_e, zwr_o, zwr_s, Nat.reduceEqDiff]
  refine x_staticOf_loop hB h0 h1 h2 h3 hr _ 0 _ (by omega) hr.1 rfl ?_
  rw [Int.sub_zero, ← zl_zd]
  exact h
set_option maxRecDepth 100000 in
theorem x_holdsSort_loop {n t s : Int} (hB : Bd (bX σ)) (h0 : 0 ≤ t) (h1 : t < 16) (h2 : 0 ≤ n) (h3 : n < 10) (hs : zr s) (hr : rOK σ n t) :
    ∀ (k : Nat) (i : Int), 0 ≤ i → i ≤ σ 26 (n * 16 + t) → (σ 26 (n * 16 + t) - i).toNat = k → (gSo (bX σ) s (zd (fun i => σ 27 ((n * 16 + t) * 16 + i)) i k) = true → Q 1 σ) → (gSo (bX σ) s (zd (fun i => σ 27 ((n * 16 + t) * 16 + i)) i k) = false → Q 0 σ) →
      zV 27 zF Q 3 [some (.inr 3), some (.inl t), some (.inl n), some (.inl s), some (.inl i)] [] σ := by
  have hc := hr.1
  have hc2 := hr.2.1
  simp only [zr] at hs
  intro k
  induction k with
  | zero =>
    intro i i0 i1 ik hQ hQ0
    refine zv_27 200 ?_
    simp only [zs_27_0, zs_27_1, zs_27_3, zs_27_5, zs_27_6, zs_27_7, zs_27_8, zs_27_11, zs_27_14, zs_27_15, zs_27_18, zs_27_21, zs_27_22, zs_27_23, zs_27_24, zs_27_26, zs_27_29, zs_27_30, zs_27_31, zs_27_34, zs_27_35, zs_27_36, zs_27_39, zs_27_42, zs_27_43, zs_27_3h, za_18, zg_2_2, zg_3_1, zrc_17, zrc_18, zli_0, zli_s, zlr_0, zlr_s, zls_0, zls_s, z1i_e, z2i_e, z1r_e, zir_e, ziir_e, z1v_e, z2v_e, zone_e, znil_e, zsp_0, zsp_s, zlz_0, zlz_1, zlz_2, zlz_3, zlz_4, zswp_0, zswp_s, true_and, and_true, implies_true, true_or, or_true, Int.reduceEq, Int.reduceLT, Int.reduceLE, Int.reduceNeg, not_true_eq_false, not_false_eq_true, false_implies, true_implies, zr_e, zwr_o, zwr_s, Nat.reduceEqDiff]
    refine x_countOf h0 h1 h2 h3 ?_
    exact ⟨by omega, by omega, fun a => hQ0 rfl, fun a => by omega⟩
  | succ k ih =>
    intro i i0 i1 ik hQ hQ0
    have hm := rOK_m hB hr i0 (by omega)
    have hb := mB hB hm.1 hm.2.2
    simp only [zd, gSo] at hQ hQ0
    refine zv_27 200 ?_
    simp only [zs_27_0, zs_27_1, zs_27_3, zs_27_5, zs_27_6, zs_27_7, zs_27_8, zs_27_11, zs_27_14, zs_27_15, zs_27_18, zs_27_21, zs_27_22, zs_27_23, zs_27_24, zs_27_26, zs_27_29, zs_27_30, zs_27_31, zs_27_34, zs_27_35, zs_27_36, zs_27_39, zs_27_42, zs_27_43, zs_27_3h, za_18, zg_2_2, zg_3_1, zrc_17, zrc_18, zli_0, zli_s, zlr_0, zlr_s, zls_0, zls_s, z1i_e, z2i_e, z1r_e, zir_e, ziir_e, z1v_e, z2v_e, zone_e, znil_e, zsp_0, zsp_s, zlz_0, zlz_1, zlz_2, zlz_3, zlz_4, zswp_0, zswp_s, true_and, and_true, implies_true, true_or, or_true, Int.reduceEq, Int.reduceLT, Int.reduceLE, Int.reduceNeg, not_true_eq_false, not_false_eq_true, false_implies, true_implies, zr_e, zwr_o, zwr_s, Nat.reduceEqDiff]
    refine x_countOf h0 h1 h2 h3 ?_
    refine ⟨by omega, by omega, fun a => by omega, fun a => ?_⟩
    refine x_heldAt h0 h1 h2 h3 i0 (by omega) ?_
    generalize σ 27 ((n * 16 + t) * 16 + i) = m at *
    by_cases c : σ 18 m = s
    · rw [if_pos (show bX σ 7 m = s from c)] at hQ
      exact ⟨by omega, by omega, by omega, by omega, fun b => absurd c b, fun b => hQ rfl⟩
    · rw [if_neg (show ¬ bX σ 7 m = s from c)] at hQ hQ0
      exact ⟨by omega, by omega, by omega, by omega, fun b => ih (i + 1) (by omega) (by omega) (by omega) hQ hQ0, fun b => absurd b c⟩
set_option maxRecDepth 100000 in
theorem x_holdsSort {n t s : Int} (hB : Bd (bX σ)) (h0 : 0 ≤ t) (h1 : t < 16) (h2 : 0 ≤ n) (h3 : n < 10) (hs : zr s) (hr : rOK σ n t) (k1 : gSo (bX σ) s (rX σ n t) = true → Q 1 σ) (k0 : gSo (bX σ) s (rX σ n t) = false → Q 0 σ) : zM 27 zF [.inr 3, .inl t, .inl n, .inl s] σ Q := by
  refine ze_27 200 ?_
  simp only [zs_27_0, zs_27_1, zs_27_3, zs_27_5, zs_27_6, zs_27_7, zs_27_8, zs_27_11, zs_27_14, zs_27_15, zs_27_18, zs_27_21, zs_27_22, zs_27_23, zs_27_24, zs_27_26, zs_27_29, zs_27_30, zs_27_31, zs_27_34, zs_27_35, zs_27_36, zs_27_39, zs_27_42, zs_27_43, za_18, zg_2_2, zg_3_1, zrc_17, zrc_18, zli_0, zli_s, zlr_0, zlr_s, zls_0, zls_s, z1i_e, z2i_e, z1r_e, zir_e, ziir_e, z1v_e, z2v_e, zone_e, znil_e, zsp_0, zsp_s, zlz_0, zlz_1, zlz_2, zlz_3, zlz_4, zswp_0, zswp_s, true_and, and_true, implies_true, true_or, or_true, Int.reduceEq, Int.reduceLT, Int.reduceLE, Int.reduceNeg, not_true_eq_false, not_false_eq_true, false_implies, true_implies, zr_e, zwr_o, zwr_s, Nat.reduceEqDiff]
  have e : rX σ n t = zd (fun i => σ 27 ((n * 16 + t) * 16 + i)) 0 (σ 26 (n * 16 + t)).toNat := zl_zd
  rw [e] at k1 k0
  refine x_holdsSort_loop hB h0 h1 h2 h3 hs hr _ 0 (by omega) hr.1 rfl ?_ ?_
  · rw [Int.sub_zero]; exact k1
  · rw [Int.sub_zero]; exact k0
set_option maxRecDepth 100000 in
theorem x_servesAll_loop {n t m : Int} (hB : Bd (bX σ)) (h0 : 0 ≤ t) (h1 : t < 16) (h2 : 0 ≤ n) (h3 : n < 10) (m0 : 0 ≤ m) (m1 : m < 60) (hr : rOK σ n t) :
    ∀ (k : Nat) (i : Int), 0 ≤ i → i ≤ σ 26 (n * 16 + t) → (σ 26 (n * 16 + t) - i).toNat = k → (gSa (bX σ) m (zd (fun i => σ 27 ((n * 16 + t) * 16 + i)) i k) = true → Q 1 σ) → (gSa (bX σ) m (zd (fun i => σ 27 ((n * 16 + t) * 16 + i)) i k) = false → Q 0 σ) →
      zV 30 zF Q 3 [some (.inr 3), some (.inl m), some (.inl t), some (.inl n), some (.inl i)] [] σ := by
  have hc := hr.1
  have hc2 := hr.2.1
  intro k
  induction k with
  | zero =>
    intro i i0 i1 ik hQ hQ0
    refine zv_30 200 ?_
    simp only [zs_30_0, zs_30_1, zs_30_3, zs_30_5, zs_30_6, zs_30_7, zs_30_8, zs_30_11, zs_30_14, zs_30_15, zs_30_18, zs_30_19, zs_30_20, zs_30_21, zs_30_22, zs_30_24, zs_30_27, zs_30_30, zs_30_33, zs_30_34, zs_30_35, zs_30_38, zs_30_41, zs_30_42, zs_30_3h, zg_3_1, zrc_17, zrc_18, zrc_35, zli_0, zli_s, zlr_0, zlr_s, zls_0, zls_s, z1i_e, z2i_e, z1r_e, zir_e, ziir_e, z1v_e, z2v_e, zone_e, znil_e, zsp_0, zsp_s, zlz_0, zlz_1, zlz_2, zlz_3, zlz_4, zswp_0, zswp_s, true_and, and_true, implies_true, true_or, or_true, Int.reduceEq, Int.reduceLT, Int.reduceLE, Int.reduceNeg, not_true_eq_false, not_false_eq_true, false_implies, true_implies, zr_e, zwr_o, zwr_s, Nat.reduceEqDiff]
    refine x_countOf h0 h1 h2 h3 ?_
    exact ⟨by omega, by omega, fun a => hQ rfl, fun a => by omega⟩
  | succ k ih =>
    intro i i0 i1 ik hQ hQ0
    have hm := rOK_m hB hr i0 (by omega)
    simp only [zd, gSa] at hQ hQ0
    refine zv_30 200 ?_
    simp only [zs_30_0, zs_30_1, zs_30_3, zs_30_5, zs_30_6, zs_30_7, zs_30_8, zs_30_11, zs_30_14, zs_30_15, zs_30_18, zs_30_19, zs_30_20, zs_30_21, zs_30_22, zs_30_24, zs_30_27, zs_30_30, zs_30_33, zs_30_34, zs_30_35, zs_30_38, zs_30_41, zs_30_42, zs_30_3h, zg_3_1, zrc_17, zrc_18, zrc_35, zli_0, zli_s, zlr_0, zlr_s, zls_0, zls_s, z1i_e, z2i_e, z1r_e, zir_e, ziir_e, z1v_e, z2v_e, zone_e, znil_e, zsp_0, zsp_s, zlz_0, zlz_1, zlz_2, zlz_3, zlz_4, zswp_0, zswp_s, true_and, and_true, implies_true, true_or, or_true, Int.reduceEq, Int.reduceLT, Int.reduceLE, Int.reduceNeg, not_true_eq_false, not_false_eq_true, false_implies, true_implies, zr_e, zwr_o, zwr_s, Nat.reduceEqDiff]
    refine x_countOf h0 h1 h2 h3 ?_
    refine ⟨by omega, by omega, fun a => by omega, fun a => ?_⟩
    refine x_heldAt h0 h1 h2 h3 i0 (by omega) ?_
    refine x_serves hB m0 m1 hm.1 hm.2.2 (fun b => ?_) (fun b => ?_)
    · unfold gSv at b
      rw [if_pos b] at hQ hQ0
      simp only [zs_30_0, zs_30_1, zs_30_3, zs_30_5, zs_30_6, zs_30_7, zs_30_8, zs_30_11, zs_30_14, zs_30_15, zs_30_18, zs_30_19, zs_30_20, zs_30_21, zs_30_22, zs_30_24, zs_30_27, zs_30_30, zs_30_33, zs_30_34, zs_30_35, zs_30_38, zs_30_41, zs_30_42, zg_3_1, zrc_17, zrc_18, zrc_35, zli_0, zli_s, zlr_0, zlr_s, zls_0, zls_s, z1i_e, z2i_e, z1r_e, zir_e, ziir_e, z1v_e, z2v_e, zone_e, znil_e, zsp_0, zsp_s, zlz_0, zlz_1, zlz_2, zlz_3, zlz_4, zswp_0, zswp_s, true_and, and_true, implies_true, true_or, or_true, Int.reduceEq, Int.reduceLT, Int.reduceLE, Int.reduceNeg, not_true_eq_false, not_false_eq_true, false_implies, true_implies, zr_e, zwr_o, zwr_s, Nat.reduceEqDiff]
      exact ih (i + 1) (by omega) (by omega) (by omega) hQ hQ0
    · unfold gSv at b
      rw [if_neg b] at hQ hQ0
      simp only [zs_30_0, zs_30_1, zs_30_3, zs_30_5, zs_30_6, zs_30_7, zs_30_8, zs_30_11, zs_30_14, zs_30_15, zs_30_18, zs_30_19, zs_30_20, zs_30_21, zs_30_22, zs_30_24, zs_30_27, zs_30_30, zs_30_33, zs_30_34, zs_30_35, zs_30_38, zs_30_41, zs_30_42, zg_3_1, zrc_17, zrc_18, zrc_35, zli_0, zli_s, zlr_0, zlr_s, zls_0, zls_s, z1i_e, z2i_e, z1r_e, zir_e, ziir_e, z1v_e, z2v_e, zone_e, znil_e, zsp_0, zsp_s, zlz_0, zlz_1, zlz_2, zlz_3, zlz_4, zswp_0, zswp_s, true_and, and_true, implies_true, true_or, or_true, Int.reduceEq, Int.reduceLT, Int.reduceLE, Int.reduceNeg, not_true_eq_false, not_false_eq_true, false_implies, true_implies, zr_e, zwr_o, zwr_s, Nat.reduceEqDiff]
      exact hQ0 rfl
set_option maxRecDepth 100000 in
theorem x_servesAll {n t m : Int} (hB : Bd (bX σ)) (h0 : 0 ≤ t) (h1 : t < 16) (h2 : 0 ≤ n) (h3 : n < 10) (m0 : 0 ≤ m) (m1 : m < 60) (hr : rOK σ n t) (k1 : gSa (bX σ) m (rX σ n t) = true → Q 1 σ) (k0 : gSa (bX σ) m (rX σ n t) = false → Q 0 σ) : zM 30 zF [.inr 3, .inl m, .inl t, .inl n] σ Q := by
  refine ze_30 200 ?_
  simp only [zs_30_0, zs_30_1, zs_30_3, zs_30_5, zs_30_6, zs_30_7, zs_30_8, zs_30_11, zs_30_14, zs_30_15, zs_30_18, zs_30_19, zs_30_20, zs_30_21, zs_30_22, zs_30_24, zs_30_27, zs_30_30, zs_30_33, zs_30_34, zs_30_35, zs_30_38, zs_30_41, zs_30_42, zg_3_1, zrc_17, zrc_18, zrc_35, zli_0, zli_s, zlr_0, zlr_s, zls_0, zls_s, z1i_e, z2i_e, z1r_e, zir_e, ziir_e, z1v_e, z2v_e, zone_e, znil_e, zsp_0, zsp_s, zlz_0, zlz_1, zlz_2, zlz_3, zlz_4, zswp_0, zswp_s, true_and, and_true, implies_true, true_or, or_true, Int.reduceEq, Int.reduceLT, Int.reduceLE, Int.reduceNeg, not_true_eq_false, not_false_eq_true, false_implies, true_implies, zr_e, zwr_o, zwr_s, Nat.reduceEqDiff]
  have e : rX σ n t = zd (fun i => σ 27 ((n * 16 + t) * 16 + i)) 0 (σ 26 (n * 16 + t)).toNat := zl_zd
  rw [e] at k1 k0
  refine x_servesAll_loop hB h0 h1 h2 h3 m0 m1 hr _ 0 (by omega) hr.1 rfl ?_ ?_
  · rw [Int.sub_zero]; exact k1
  · rw [Int.sub_zero]; exact k0
set_option maxRecDepth 100000 in
theorem x_firstServing_loop {n t : Int} (hB : Bd (bX σ)) (h0 : 0 ≤ t) (h1 : t < 16) (h2 : 0 ≤ n) (h3 : n < 10) (hr : rOK σ n t) :
    ∀ (k : Nat) (i : Int) (l4 : Option zW), 0 ≤ i → i ≤ σ 26 (n * 16 + t) → (σ 26 (n * 16 + t) - i).toNat = k → Q (gFs (bX σ) (rX σ n t) (zd (fun i => σ 27 ((n * 16 + t) * 16 + i)) i k)) σ →
      zV 29 zF Q 2 [some (.inr 3), some (.inl t), some (.inl n), some (.inl i), l4] [] σ := by
  have hc := hr.1
  have hc2 := hr.2.1
  intro k
  induction k with
  | zero =>
    intro i l4 i0 i1 ik hQ
    simp only [zd, gFs] at hQ
    refine zv_29 200 ?_
    simp only [zs_29_0, zs_29_1, zs_29_2, zs_29_3, zs_29_4, zs_29_5, zs_29_6, zs_29_9, zs_29_12, zs_29_13, zs_29_14, zs_29_15, zs_29_16, zs_29_19, zs_29_21, zs_29_22, zs_29_24, zs_29_25, zs_29_26, zs_29_29, zs_29_32, zs_29_34, zs_29_35, zs_29_38, zs_29_41, zs_29_43, zs_29_2h, zrc_17, zrc_18, zrc_30, zli_0, zli_s, zlr_0, zlr_s, zls_0, zls_s, z1i_e, z2i_e, z1r_e, zir_e, ziir_e, z1v_e, z2v_e, zone_e, znil_e, zsp_0, zsp_s, zlz_0, zlz_1, zlz_2, zlz_3, zlz_4, zswp_0, zswp_s, true_and, and_true, implies_true, true_or, or_true, Int.reduceEq, Int.reduceLT, Int.reduceLE, Int.reduceNeg, not_true_eq_false, not_false_eq_true, false_implies, true_implies, zr_e, zwr_o, zwr_s, Nat.reduceEqDiff]
    refine x_countOf h0 h1 h2 h3 ?_
    exact ⟨by omega, by omega, fun a => hQ, fun a => by omega⟩
  | succ k ih =>
    intro i l4 i0 i1 ik hQ
    have hm := rOK_m hB hr i0 (by omega)
    simp only [zd, gFs] at hQ
    refine zv_29 200 ?_
    simp only [zs_29_0, zs_29_1, zs_29_2, zs_29_3, zs_29_4, zs_29_5, zs_29_6, zs_29_9, zs_29_12, zs_29_13, zs_29_14, zs_29_15, zs_29_16, zs_29_19, zs_29_21, zs_29_22, zs_29_24, zs_29_25, zs_29_26, zs_29_29, zs_29_32, zs_29_34, zs_29_35, zs_29_38, zs_29_41, zs_29_43, zs_29_2h, zrc_17, zrc_18, zrc_30, zli_0, zli_s, zlr_0, zlr_s, zls_0, zls_s, z1i_e, z2i_e, z1r_e, zir_e, ziir_e, z1v_e, z2v_e, zone_e, znil_e, zsp_0, zsp_s, zlz_0, zlz_1, zlz_2, zlz_3, zlz_4, zswp_0, zswp_s, true_and, and_true, implies_true, true_or, or_true, Int.reduceEq, Int.reduceLT, Int.reduceLE, Int.reduceNeg, not_true_eq_false, not_false_eq_true, false_implies, true_implies, zr_e, zwr_o, zwr_s, Nat.reduceEqDiff]
    refine x_countOf h0 h1 h2 h3 ?_
    refine ⟨by omega, by omega, fun a => by omega, fun a => ?_⟩
    refine x_heldAt h0 h1 h2 h3 i0 (by omega) ?_
    refine x_servesAll hB h0 h1 h2 h3 hm.1 hm.2.2 hr (fun b => ?_) (fun b => ?_)
    · rw [if_pos b] at hQ
      simp only [zs_29_0, zs_29_1, zs_29_2, zs_29_3, zs_29_4, zs_29_5, zs_29_6, zs_29_9, zs_29_12, zs_29_13, zs_29_14, zs_29_15, zs_29_16, zs_29_19, zs_29_21, zs_29_22, zs_29_24, zs_29_25, zs_29_26, zs_29_29, zs_29_32, zs_29_34, zs_29_35, zs_29_38, zs_29_41, zs_29_43, zrc_17, zrc_18, zrc_30, zli_0, zli_s, zlr_0, zlr_s, zls_0, zls_s, z1i_e, z2i_e, z1r_e, zir_e, ziir_e, z1v_e, z2v_e, zone_e, znil_e, zsp_0, zsp_s, zlz_0, zlz_1, zlz_2, zlz_3, zlz_4, zswp_0, zswp_s, true_and, and_true, implies_true, true_or, or_true, Int.reduceEq, Int.reduceLT, Int.reduceLE, Int.reduceNeg, not_true_eq_false, not_false_eq_true, false_implies, true_implies, zr_e, zwr_o, zwr_s, Nat.reduceEqDiff]
      exact hQ
    · rw [if_neg (by rw [b]; decide)] at hQ
      simp only [zs_29_0, zs_29_1, zs_29_2, zs_29_3, zs_29_4, zs_29_5, zs_29_6, zs_29_9, zs_29_12, zs_29_13, zs_29_14, zs_29_15, zs_29_16, zs_29_19, zs_29_21, zs_29_22, zs_29_24, zs_29_25, zs_29_26, zs_29_29, zs_29_32, zs_29_34, zs_29_35, zs_29_38, zs_29_41, zs_29_43, zrc_17, zrc_18, zrc_30, zli_0, zli_s, zlr_0, zlr_s, zls_0, zls_s, z1i_e, z2i_e, z1r_e, zir_e, ziir_e, z1v_e, z2v_e, zone_e, znil_e, zsp_0, zsp_s, zlz_0, zlz_1, zlz_2, zlz_3, zlz_4, zswp_0, zswp_s, true_and, and_true, implies_true, true_or, or_true, Int.reduceEq, Int.reduceLT, Int.reduceLE, Int.reduceNeg, not_true_eq_false, not_false_eq_true, false_implies, true_implies, zr_e, zwr_o, zwr_s, Nat.reduceEqDiff]
      exact ih (i + 1) _ (by omega) (by omega) (by omega) hQ
set_option maxRecDepth 100000 in
theorem x_firstServing {n t : Int} (hB : Bd (bX σ)) (h0 : 0 ≤ t) (h1 : t < 16) (h2 : 0 ≤ n) (h3 : n < 10) (hr : rOK σ n t) (h : Q (gFs (bX σ) (rX σ n t) (rX σ n t)) σ) : zM 29 zF [.inr 3, .inl t, .inl n] σ Q := by
  refine ze_29 200 ?_
  simp only [zs_29_0, zs_29_1, zs_29_2, zs_29_3, zs_29_4, zs_29_5, zs_29_6, zs_29_9, zs_29_12, zs_29_13, zs_29_14, zs_29_15, zs_29_16, zs_29_19, zs_29_21, zs_29_22, zs_29_24, zs_29_25, zs_29_26, zs_29_29, zs_29_32, zs_29_34, zs_29_35, zs_29_38, zs_29_41, zs_29_43, zrc_17, zrc_18, zrc_30, zli_0, zli_s, zlr_0, zlr_s, zls_0, zls_s, z1i_e, z2i_e, z1r_e, zir_e, ziir_e, z1v_e, z2v_e, zone_e, znil_e, zsp_0, zsp_s, zlz_0, zlz_1, zlz_2, zlz_3, zlz_4, zswp_0, zswp_s, true_and, and_true, implies_true, true_or, or_true, Int.reduceEq, Int.reduceLT, Int.reduceLE, Int.reduceNeg, not_true_eq_false, not_false_eq_true, false_implies, true_implies, zr_e, zwr_o, zwr_s, Nat.reduceEqDiff]
  refine x_firstServing_loop hB h0 h1 h2 h3 hr _ 0 _ (by omega) hr.1 rfl ?_
  rw [Int.sub_zero, ← zl_zd]
  exact h
/-- the only name of an abstract member, from a name on -/
def gOn (B : zS) (H : Int → List Int) (only : Int) (n : Int) : Nat → Int
  | 0 => only
  | k + 1 => if gSo B 0 (H n) = true then (if only = -4 then gOn B H n (n + 1) k else -4) else gOn B H only (n + 1) k
set_option maxRecDepth 100000 in
theorem x_onlyAbs_loop {f : Int} (hB : Bd (bX σ)) (h0 : 0 ≤ f) (h1 : f < 16) (hr : ∀ n, 0 ≤ n → n < 10 → rOK σ n f) :
    ∀ (k : Nat) (n only : Int), 3 ≤ n → n ≤ 10 → (10 - n).toNat = k → (only = -4 ∨ (0 ≤ only ∧ only < 10)) → Q (gOn (bX σ) (fun n => rX σ n f) only n k) σ →
      zV 28 zF Q 5 [some (.inr 3), some (.inl f), some (.inl only), some (.inl n)] [] σ := by
  intro k
  induction k with
  | zero =>
    intro n only n0 n1 nk ho hQ
    refine zv_28 200 ?_
    simp only [zs_28_0, zs_28_2, zs_28_3, zs_28_4, zs_28_5, zs_28_6, zs_28_8, zs_28_11, zs_28_12, zs_28_13, zs_28_14, zs_28_15, zs_28_18, zs_28_21, zs_28_22, zs_28_24, zs_28_27, zs_28_29, zs_28_30, zs_28_31, zs_28_32, zs_28_35, zs_28_38, zs_28_39, zs_28_5h, zrc_27, zli_0, zli_s, zlr_0, zlr_s, zls_0, zls_s, z1i_e, z2i_e, z1r_e, zir_e, ziir_e, z1v_e, z2v_e, zone_e, znil_e, zsp_0, zsp_s, zlz_0, zlz_1, zlz_2, zlz_3, zlz_4, zswp_0, zswp_s, true_and, and_true, implies_true, true_or, or_true, Int.reduceEq, Int.reduceLT, Int.reduceLE, Int.reduceNeg, not_true_eq_false, not_false_eq_true, false_implies, true_implies, zr_e, zwr_o, zwr_s, Nat.reduceEqDiff]
    exact ⟨by omega, fun a => hQ, fun a => by omega⟩
  | succ k ih =>
    intro n only n0 n1 nk ho hQ
    simp only [gOn] at hQ
    refine zv_28 200 ?_
    simp only [zs_28_0, zs_28_2, zs_28_3, zs_28_4, zs_28_5, zs_28_6, zs_28_8, zs_28_11, zs_28_12, zs_28_13, zs_28_14, zs_28_15, zs_28_18, zs_28_21, zs_28_22, zs_28_24, zs_28_27, zs_28_29, zs_28_30, zs_28_31, zs_28_32, zs_28_35, zs_28_38, zs_28_39, zs_28_5h, zrc_27, zli_0, zli_s, zlr_0, zlr_s, zls_0, zls_s, z1i_e, z2i_e, z1r_e, zir_e, ziir_e, z1v_e, z2v_e, zone_e, znil_e, zsp_0, zsp_s, zlz_0, zlz_1, zlz_2, zlz_3, zlz_4, zswp_0, zswp_s, true_and, and_true, implies_true, true_or, or_true, Int.reduceEq, Int.reduceLT, Int.reduceLE, Int.reduceNeg, not_true_eq_false, not_false_eq_true, false_implies, true_implies, zr_e, zwr_o, zwr_s, Nat.reduceEqDiff]
    refine ⟨by omega, fun a => by omega, fun a => ?_⟩
    refine x_holdsSort hB h0 h1 (by omega) (by omega) zr_0 (hr n (by omega) (by omega)) (fun b => ?_) (fun b => ?_)
    · rw [if_pos b] at hQ
      simp only [zs_28_0, zs_28_2, zs_28_3, zs_28_4, zs_28_5, zs_28_6, zs_28_8, zs_28_11, zs_28_12, zs_28_13, zs_28_14, zs_28_15, zs_28_18, zs_28_21, zs_28_22, zs_28_24, zs_28_27, zs_28_29, zs_28_30, zs_28_31, zs_28_32, zs_28_35, zs_28_38, zs_28_39, zrc_27, zli_0, zli_s, zlr_0, zlr_s, zls_0, zls_s, z1i_e, z2i_e, z1r_e, zir_e, ziir_e, z1v_e, z2v_e, zone_e, znil_e, zsp_0, zsp_s, zlz_0, zlz_1, zlz_2, zlz_3, zlz_4, zswp_0, zswp_s, true_and, and_true, implies_true, true_or, or_true, Int.reduceEq, Int.reduceLT, Int.reduceLE, Int.reduceNeg, not_true_eq_false, not_false_eq_true, false_implies, true_implies, zr_e, zwr_o, zwr_s, Nat.reduceEqDiff]
      by_cases c : only = -4
      · rw [if_pos c] at hQ
        exact ⟨by omega, fun d => ih (n + 1) n (by omega) (by omega) (by omega) (by omega) hQ, fun d => absurd c d⟩
      · rw [if_neg c] at hQ
        exact ⟨by omega, fun d => absurd d c, fun d => hQ⟩
    · rw [if_neg (by rw [b]; decide)] at hQ
      simp only [zs_28_0, zs_28_2, zs_28_3, zs_28_4, zs_28_5, zs_28_6, zs_28_8, zs_28_11, zs_28_12, zs_28_13, zs_28_14, zs_28_15, zs_28_18, zs_28_21, zs_28_22, zs_28_24, zs_28_27, zs_28_29, zs_28_30, zs_28_31, zs_28_32, zs_28_35, zs_28_38, zs_28_39, zrc_27, zli_0, zli_s, zlr_0, zlr_s, zls_0, zls_s, z1i_e, z2i_e, z1r_e, zir_e, ziir_e, z1v_e, z2v_e, zone_e, znil_e, zsp_0, zsp_s, zlz_0, zlz_1, zlz_2, zlz_3, zlz_4, zswp_0, zswp_s, true_and, and_true, implies_true, true_or, or_true, Int.reduceEq, Int.reduceLT, Int.reduceLE, Int.reduceNeg, not_true_eq_false, not_false_eq_true, false_implies, true_implies, zr_e, zwr_o, zwr_s, Nat.reduceEqDiff]
      exact ih (n + 1) only (by omega) (by omega) (by omega) ho hQ
set_option maxRecDepth 100000 in
theorem x_onlyAbs {f : Int} (hB : Bd (bX σ)) (h0 : 0 ≤ f) (h1 : f < 16) (hr : ∀ n, 0 ≤ n → n < 10 → rOK σ n f) (h : Q (gOn (bX σ) (fun n => rX σ n f) (-4) 3 7) σ) : zM 28 zF [.inr 3, .inl f] σ Q := by
  refine ze_28 200 ?_
  simp only [zs_28_0, zs_28_2, zs_28_3, zs_28_4, zs_28_5, zs_28_6, zs_28_8, zs_28_11, zs_28_12, zs_28_13, zs_28_14, zs_28_15, zs_28_18, zs_28_21, zs_28_22, zs_28_24, zs_28_27, zs_28_29, zs_28_30, zs_28_31, zs_28_32, zs_28_35, zs_28_38, zs_28_39, zrc_27, zli_0, zli_s, zlr_0, zlr_s, zls_0, zls_s, z1i_e, z2i_e, z1r_e, zir_e, ziir_e, z1v_e, z2v_e, zone_e, znil_e, zsp_0, zsp_s, zlz_0, zlz_1, zlz_2, zlz_3, zlz_4, zswp_0, zswp_s, true_and, and_true, implies_true, true_or, or_true, Int.reduceEq, Int.reduceLT, Int.reduceLE, Int.reduceNeg, not_true_eq_false, not_false_eq_true, false_implies, true_implies, zr_e, zwr_o, zwr_s, Nat.reduceEqDiff]
  exact x_onlyAbs_loop hB h0 h1 hr 7 3 (-4) (by omega) (by omega) (by omega) (by omega) h
end X11
