section X14
variable {σ : zS} {Q : Int → zS → Prop}
set_option maxRecDepth 100000 in
theorem x_superRunning {t n : Int} (hB : Bd (bX σ)) (h0 : 0 ≤ t) (h1 : t < σ 1 0) (h2 : 0 ≤ n) (h3 : n < 10) (hR : ∀ n t, 0 ≤ n → n < 10 → 0 ≤ t → t < σ 1 0 → rOK σ n t)
    (k1 : ¬ (t = 0 ∨ σ 6 t = 2) → 0 ≤ gRX (bX σ) (rX σ n (σ 7 t)) 0 (-4) 0 → Q 1 σ) (k0 : (t = 0 ∨ σ 6 t = 2) ∨ gRX (bX σ) (rX σ n (σ 7 t)) 0 (-4) 0 < 0 → Q 0 σ) : zM 10 zF [.inr 4, .inl t, .inl n] σ Q := by
  have hnn : 1 ≤ σ 1 0 ∧ σ 1 0 ≤ 16 ∧ _ := hB.n
  have hs : 0 ≤ σ 7 t ∧ σ 7 t ≤ 15 ∧ (0 < t → σ 7 t < t) := hB.sup t h0 (by omega)
  refine ze_10 100 ?_
  simp only [zs_10_0, zs_10_1, zs_10_4, zs_10_5, zs_10_8, zs_10_11, zs_10_12, zs_10_15, zs_10_16, zs_10_19, zs_10_22, zs_10_23, zs_10_24, zs_10_25, zs_10_28, zs_10_31, zs_10_32, zs_10_35, zs_10_36, za_7, zg_1_2, zg_4_0, zg_4_2, zrc_25, zrc_45, zli_0, zli_s, zlr_0, zlr_s, zls_0, zls_s, z1i_e, z2i_e, z1r_e, zir_e, ziir_e, z1v_e, z2v_e, zone_e, znil_e, zsp_0, zsp_s, zlz_0, zlz_1, zlz_2, zlz_3, zlz_4, zswp_0, zswp_s, true_and, and_true, implies_true, true_or, or_true, Int.reduceEq, Int.reduceLT, Int.reduceLE, Int.reduceNeg, not_true_eq_false, not_false_eq_true, false_implies, true_implies, zr_e, zwr_o, zwr_s, Nat.reduceEqDiff]
  refine x_hasSuper hB h0 (by omega) (fun a => ?_) (fun a => ?_)
  · simp only [zs_10_0, zs_10_1, zs_10_4, zs_10_5, zs_10_8, zs_10_11, zs_10_12, zs_10_15, zs_10_16, zs_10_19, zs_10_22, zs_10_23, zs_10_24, zs_10_25, zs_10_28, zs_10_31, zs_10_32, zs_10_35, zs_10_36, za_7, zg_1_2, zg_4_0, zg_4_2, zrc_25, zrc_45, zli_0, zli_s, zlr_0, zlr_s, zls_0, zls_s, z1i_e, z2i_e, z1r_e, zir_e, ziir_e, z1v_e, z2v_e, zone_e, znil_e, zsp_0, zsp_s, zlz_0, zlz_1, zlz_2, zlz_3, zlz_4, zswp_0, zswp_s, true_and, and_true, implies_true, true_or, or_true, Int.reduceEq, Int.reduceLT, Int.reduceLE, Int.reduceNeg, not_true_eq_false, not_false_eq_true, false_implies, true_implies, zr_e, zwr_o, zwr_s, Nat.reduceEqDiff]
    refine ⟨h0, by omega, ?_⟩
    have hr := hR n (σ 7 t) h2 h3 (by omega) (by omega)
    have hz := gRX_r (B := bX σ) (rX σ n (σ 7 t)) 0 (-4) 0 (rX_60 hB hr) (Or.inl rfl)
    refine x_runner hB (by omega) (by omega) h2 h3 hr ?_
    exact ⟨by omega, fun b => k0 (Or.inr b), fun b => k1 a b⟩
  · simp only [zs_10_0, zs_10_1, zs_10_4, zs_10_5, zs_10_8, zs_10_11, zs_10_12, zs_10_15, zs_10_16, zs_10_19, zs_10_22, zs_10_23, zs_10_24, zs_10_25, zs_10_28, zs_10_31, zs_10_32, zs_10_35, zs_10_36, za_7, zg_1_2, zg_4_0, zg_4_2, zrc_25, zrc_45, zli_0, zli_s, zlr_0, zlr_s, zls_0, zls_s, z1i_e, z2i_e, z1r_e, zir_e, ziir_e, z1v_e, z2v_e, zone_e, znil_e, zsp_0, zsp_s, zlz_0, zlz_1, zlz_2, zlz_3, zlz_4, zswp_0, zswp_s, true_and, and_true, implies_true, true_or, or_true, Int.reduceEq, Int.reduceLT, Int.reduceLE, Int.reduceNeg, not_true_eq_false, not_false_eq_true, false_implies, true_implies, zr_e, zwr_o, zwr_s, Nat.reduceEqDiff]
    exact k0 (Or.inl a)
set_option maxRecDepth 100000 in
theorem x_faceCall {t f n : Int} (hB : Bd (bX σ)) (h0 : 0 ≤ t) (h1 : t < σ 1 0) (h2 : 0 ≤ n) (h3 : n < 10) (f0 : 0 ≤ f) (f1 : f < σ 1 0) (hR : ∀ n t, 0 ≤ n → n < 10 → 0 ≤ t → t < σ 1 0 → rOK σ n t)
    (h : Q (if f ∉ zl (fun j => σ 11 (4 * t + j)) (σ 8 t) ∨ zbt (σ 13 t) f = true then 11 else if gRX (bX σ) (rX σ n f) 0 (-4) 0 < 0 then 12 else 0) σ) : zM 11 zF [.inr 4, .inl t, .inl f, .inl n] σ Q := by
  have hnn : 1 ≤ σ 1 0 ∧ σ 1 0 ≤ 16 ∧ _ := hB.n
  refine ze_11 100 ?_
  simp only [zs_11_0, zs_11_1, zs_11_4, zs_11_5, zs_11_6, zs_11_9, zs_11_12, zs_11_13, zs_11_16, zs_11_17, zs_11_18, zs_11_21, zs_11_24, zs_11_26, zs_11_27, zs_11_28, zs_11_31, zs_11_32, zs_11_33, zs_11_36, zs_11_39, zs_11_40, zs_11_43, zs_11_45, zg_4_0, zg_4_2, zrc_25, zrc_44, zrc_49, zli_0, zli_s, zlr_0, zlr_s, zls_0, zls_s, z1i_e, z2i_e, z1r_e, zir_e, ziir_e, z1v_e, z2v_e, zone_e, znil_e, zsp_0, zsp_s, zlz_0, zlz_1, zlz_2, zlz_3, zlz_4, zswp_0, zswp_s, true_and, and_true, implies_true, true_or, or_true, Int.reduceEq, Int.reduceLT, Int.reduceLE, Int.reduceNeg, not_true_eq_false, not_false_eq_true, false_implies, true_implies, zr_e, zwr_o, zwr_s, Nat.reduceEqDiff]
  refine x_isFaceOf hB h0 (by omega) ⟨by omega, by omega⟩ (fun j j0 j1 e => ?_) (fun a => ?_)
  · have hin : f ∈ zl (fun j => σ 11 (4 * t + j)) (σ 8 t) := zl_mem.mpr ⟨j, j0, j1, e⟩
    simp only [zs_11_0, zs_11_1, zs_11_4, zs_11_5, zs_11_6, zs_11_9, zs_11_12, zs_11_13, zs_11_16, zs_11_17, zs_11_18, zs_11_21, zs_11_24, zs_11_26, zs_11_27, zs_11_28, zs_11_31, zs_11_32, zs_11_33, zs_11_36, zs_11_39, zs_11_40, zs_11_43, zs_11_45, zg_4_0, zg_4_2, zrc_25, zrc_44, zrc_49, zli_0, zli_s, zlr_0, zlr_s, zls_0, zls_s, z1i_e, z2i_e, z1r_e, zir_e, ziir_e, z1v_e, z2v_e, zone_e, znil_e, zsp_0, zsp_s, zlz_0, zlz_1, zlz_2, zlz_3, zlz_4, zswp_0, zswp_s, true_and, and_true, implies_true, true_or, or_true, Int.reduceEq, Int.reduceLT, Int.reduceLE, Int.reduceNeg, not_true_eq_false, not_false_eq_true, false_implies, true_implies, zr_e, zwr_o, zwr_s, Nat.reduceEqDiff]
    refine x_hasAncP h0 (by omega) f0 (by omega) (fun b => ?_) (fun b => ?_)
    · rw [if_pos (Or.inr b)] at h
      simp only [zs_11_0, zs_11_1, zs_11_4, zs_11_5, zs_11_6, zs_11_9, zs_11_12, zs_11_13, zs_11_16, zs_11_17, zs_11_18, zs_11_21, zs_11_24, zs_11_26, zs_11_27, zs_11_28, zs_11_31, zs_11_32, zs_11_33, zs_11_36, zs_11_39, zs_11_40, zs_11_43, zs_11_45, zg_4_0, zg_4_2, zrc_25, zrc_44, zrc_49, zli_0, zli_s, zlr_0, zlr_s, zls_0, zls_s, z1i_e, z2i_e, z1r_e, zir_e, ziir_e, z1v_e, z2v_e, zone_e, znil_e, zsp_0, zsp_s, zlz_0, zlz_1, zlz_2, zlz_3, zlz_4, zswp_0, zswp_s, true_and, and_true, implies_true, true_or, or_true, Int.reduceEq, Int.reduceLT, Int.reduceLE, Int.reduceNeg, not_true_eq_false, not_false_eq_true, false_implies, true_implies, zr_e, zwr_o, zwr_s, Nat.reduceEqDiff]
      exact h
    · rw [if_neg (by intro z; rcases z with z | z; exact z hin; rw [b] at z; cases z)] at h
      simp only [zs_11_0, zs_11_1, zs_11_4, zs_11_5, zs_11_6, zs_11_9, zs_11_12, zs_11_13, zs_11_16, zs_11_17, zs_11_18, zs_11_21, zs_11_24, zs_11_26, zs_11_27, zs_11_28, zs_11_31, zs_11_32, zs_11_33, zs_11_36, zs_11_39, zs_11_40, zs_11_43, zs_11_45, zg_4_0, zg_4_2, zrc_25, zrc_44, zrc_49, zli_0, zli_s, zlr_0, zlr_s, zls_0, zls_s, z1i_e, z2i_e, z1r_e, zir_e, ziir_e, z1v_e, z2v_e, zone_e, znil_e, zsp_0, zsp_s, zlz_0, zlz_1, zlz_2, zlz_3, zlz_4, zswp_0, zswp_s, true_and, and_true, implies_true, true_or, or_true, Int.reduceEq, Int.reduceLT, Int.reduceLE, Int.reduceNeg, not_true_eq_false, not_false_eq_true, false_implies, true_implies, zr_e, zwr_o, zwr_s, Nat.reduceEqDiff]
      have hr := hR n f h2 h3 f0 f1
      have hz := gRX_r (B := bX σ) (rX σ n f) 0 (-4) 0 (rX_60 hB hr) (Or.inl rfl)
      refine x_runner hB f0 (by omega) h2 h3 hr ?_
      by_cases c : gRX (bX σ) (rX σ n f) 0 (-4) 0 < 0
      · rw [if_pos c] at h
        exact ⟨by omega, fun d => h, fun d => by omega⟩
      · rw [if_neg c] at h
        exact ⟨by omega, fun d => by omega, fun d => h⟩
  · rw [if_pos (Or.inl (fun z => by obtain ⟨j, j0, j1, e⟩ := zl_mem.mp z; exact a j j0 j1 e))] at h
    simp only [zs_11_0, zs_11_1, zs_11_4, zs_11_5, zs_11_6, zs_11_9, zs_11_12, zs_11_13, zs_11_16, zs_11_17, zs_11_18, zs_11_21, zs_11_24, zs_11_26, zs_11_27, zs_11_28, zs_11_31, zs_11_32, zs_11_33, zs_11_36, zs_11_39, zs_11_40, zs_11_43, zs_11_45, zg_4_0, zg_4_2, zrc_25, zrc_44, zrc_49, zli_0, zli_s, zlr_0, zlr_s, zls_0, zls_s, z1i_e, z2i_e, z1r_e, zir_e, ziir_e, z1v_e, z2v_e, zone_e, znil_e, zsp_0, zsp_s, zlz_0, zlz_1, zlz_2, zlz_3, zlz_4, zswp_0, zswp_s, true_and, and_true, implies_true, true_or, or_true, Int.reduceEq, Int.reduceLT, Int.reduceLE, Int.reduceNeg, not_true_eq_false, not_false_eq_true, false_implies, true_implies, zr_e, zwr_o, zwr_s, Nat.reduceEqDiff]
    exact h
set_option maxRecDepth 100000 in
theorem x_faultOfCall {t m : Int} (hB : Bd (bX σ)) (h0 : 0 ≤ t) (h1 : t < σ 1 0) (m0 : 0 ≤ m) (m1 : m < σ 2 0) (hR : ∀ n t, 0 ≤ n → n < 10 → 0 ≤ t → t < σ 1 0 → rOK σ n t)
    (h : Q (gFc (bX σ) (rX σ) (σ 13) t m) σ) : zM 9 zF [.inr 4, .inl t, .inl m] σ Q := by
  have hnn : 1 ≤ σ 1 0 ∧ σ 1 0 ≤ 16 ∧ 3 ≤ σ 2 0 ∧ σ 2 0 ≤ 60 := hB.n
  have hb := mB (m := m) hB m0 (by omega)
  have hme : _ ∧ _ ∧ _ ∧ _ ∧ _ ∧ _ ∧ _ ∧ _ ∧ 0 ≤ σ 20 m ∧ σ 20 m ≤ 4 ∧ zr (σ 21 m) ∧ zr (σ 22 m) := hB.me m m0 (by omega)
  have hmm : _ ∧ _ ∧ (¬ σ 20 m = 0 → 0 ≤ σ 22 m ∧ σ 22 m ≤ 9) ∧ (σ 20 m = 3 → 0 ≤ σ 21 m ∧ σ 21 m < σ 1 0 ∧ σ 6 (σ 21 m) = 2) ∧ (σ 20 m = 4 → 0 ≤ σ 21 m ∧ σ 21 m < σ 1 0) := hB.mm m m0 m1
  obtain ⟨-, -, c1, c2, c3⟩ := hmm
  have hk := hme.2.2.2.2.2.2.2.2.1
  have hk2 := hme.2.2.2.2.2.2.2.2.2.1
  have e : gFc (bX σ) (rX σ) (σ 13) t m = if σ 18 m = 2 ∧ ¬ σ 20 m = 0 ∧ ¬ σ 20 m = 4 then 9
    else if σ 20 m = 1 then (if (rX σ (σ 22 m) t).length = 0 then 10 else 0)
    else if σ 20 m = 2 then (if (t = 0 ∨ σ 6 t = 2) ∨ gRX (bX σ) (rX σ (σ 22 m) (σ 7 t)) 0 (-4) 0 < 0 then 10 else 0)
    else if σ 20 m = 3 then (if σ 21 m ∉ zl (fun j => σ 11 (4 * t + j)) (σ 8 t) ∨ zbt (σ 13 t) (σ 21 m) = true then 11 else if gRX (bX σ) (rX σ (σ 22 m) (σ 21 m)) 0 (-4) 0 < 0 then 12 else 0)
    else if σ 20 m = 4 then (if gSt (bX σ) (rX σ (σ 22 m) (σ 21 m)) < 0 then 12 else 0)
    else 0 := rfl
  rw [e] at h
  have k9 : σ 18 m = 2 → ¬ σ 20 m = 0 → ¬ σ 20 m = 4 → Q 9 σ := fun a b c => by rw [if_pos ⟨a, b, c⟩] at h; exact h
  have kr : ¬ (σ 18 m = 2 ∧ ¬ σ 20 m = 0 ∧ ¬ σ 20 m = 4) →
    ((σ 20 m = 1 → zM 17 zF [.inr 3, .inl t, .inl (σ 22 m)] σ fun r σ' => (-2147483648 ≤ r ∧ r < 2147483648) ∧ (¬ r = 0 → Q 0 σ') ∧ (r = 0 → Q 10 σ')) ∧
     (σ 20 m = 2 → zM 10 zF [.inr 4, .inl t, .inl (σ 22 m)] σ fun r σ' => (-2147483648 ≤ r ∧ r < 2147483648) ∧ (r = 0 → Q 10 σ') ∧ (¬ r = 0 → Q 0 σ')) ∧
     (σ 20 m = 3 → zM 11 zF [.inr 4, .inl t, .inl (σ 21 m), .inl (σ 22 m)] σ fun r σ' => Q r σ') ∧
     (σ 20 m = 4 → zM 26 zF [.inr 3, .inl (σ 21 m), .inl (σ 22 m)] σ fun r σ' => (-2147483648 ≤ r ∧ r < 2147483648) ∧ (r < 0 → Q 12 σ') ∧ (0 ≤ r → Q 0 σ')) ∧
     (σ 20 m = 0 → Q 0 σ)) := by
    intro a
    rw [if_neg a] at h
    refine ⟨fun b => ?_, fun b => ?_, fun b => ?_, fun b => ?_, fun b => ?_⟩
    · rw [if_pos b] at h
      have hc := c1 (by omega)
      have hr := hR (σ 22 m) t hc.1 (by omega) h0 h1
      have hl : ((rX σ (σ 22 m) t).length : Int) = σ 26 (σ 22 m * 16 + t) := zl_len hr.1
      have hr1 := hr.1
      have hr2 := hr.2.1
      refine x_countOf h0 (by omega) hc.1 (by omega) ?_
      by_cases c : (rX σ (σ 22 m) t).length = 0
      · rw [if_pos c] at h
        exact ⟨by omega, fun d => by omega, fun d => h⟩
      · rw [if_neg c] at h
        exact ⟨by omega, fun d => h, fun d => by omega⟩
    · rw [if_neg (by omega), if_pos b] at h
      have hc := c1 (by omega)
      refine x_superRunning hB h0 h1 hc.1 (by omega) hR (fun c d => ?_) (fun c => ?_)
      · rw [if_neg (fun z => by rcases z with z | z; exact c z; omega)] at h
        exact ⟨by omega, fun z => by omega, fun z => h⟩
      · rw [if_pos c] at h
        exact ⟨by omega, fun z => h, fun z => absurd rfl z⟩
    · rw [if_neg (by omega), if_neg (by omega), if_pos b] at h
      have hc := c1 (by omega)
      have hc2 := c2 b
      exact x_faceCall hB h0 h1 hc.1 (by omega) hc2.1 hc2.2.1 hR h
    · rw [if_neg (by omega), if_neg (by omega), if_neg (by omega), if_pos b] at h
      have hc := c1 (by omega)
      have hc3 := c3 b
      have hr := hR (σ 22 m) (σ 21 m) hc.1 (by omega) hc3.1 hc3.2
      have hz := gSt_r (B := bX σ) (rX σ (σ 22 m) (σ 21 m)) (rX_60 hB hr)
      refine x_staticOf hB hc3.1 (by omega) hc.1 (by omega) hr ?_
      by_cases c : gSt (bX σ) (rX σ (σ 22 m) (σ 21 m)) < 0
      · rw [if_pos c] at h
        exact ⟨by omega, fun d => h, fun d => by omega⟩
      · rw [if_neg c] at h
        exact ⟨by omega, fun d => by omega, fun d => h⟩
    · rw [if_neg (by omega), if_neg (by omega), if_neg (by omega), if_neg (by omega)] at h
      exact h
  refine ze_9 200 ?_
  simp only [zs_9_0, zs_9_1, zs_9_4, zs_9_7, zs_9_8, zs_9_9, zs_9_10, zs_9_11, zs_9_14, zs_9_17, zs_9_18, zs_9_19, zs_9_21, zs_9_22, zs_9_25, zs_9_28, zs_9_29, zs_9_30, zs_9_31, zs_9_34, zs_9_35, zs_9_38, zs_9_39, zs_9_40, zs_9_43, zs_9_45, zs_9_46, zs_9_47, zs_9_76, zs_9_77, zs_9_80, zs_9_81, zs_9_83, zs_9_86, zs_9_89, zs_9_91, zs_9_94, zs_9_95, zs_9_96, zs_9_97, zs_9_98, zs_9_100, zs_9_103, zs_9_106, zs_9_107, zs_9_110, zs_9_112, zs_9_113, zs_9_114, zs_9_115, zs_9_116, zs_9_119, zs_9_122, zs_9_123, zs_9_124, zs_9_126, zs_9_129, zs_9_130, zs_9_131, zs_9_134, zs_9_135, zs_9_138, zs_9_141, zs_9_142, zs_9_143, zs_9_145, zs_9_148, zs_9_151, zs_9_152, zs_9_155, zs_9_157, zs_9_158, zs_9_159, za_18, za_20, za_21, za_22, zg_2_2, zg_2_4, zg_2_5, zg_2_6, zg_4_1, zg_4_2, zrc_10, zrc_11, zrc_17, zrc_26, zli_0, zli_s, zlr_0, zlr_s, zls_0, zls_s, z1i_e, z2i_e, z1r_e, zir_e, ziir_e, z1v_e, z2v_e, zone_e, znil_e, zsp_0, zsp_s, zlz_0, zlz_1, zlz_2, zlz_3, zlz_4, zswp_0, zswp_s, true_and, and_true, implies_true, true_or, or_true, Int.reduceEq, Int.reduceLT, Int.reduceLE, Int.reduceNeg, not_true_eq_false, not_false_eq_true, false_implies, true_implies, zr_e, zwr_o, zwr_s, Nat.reduceEqDiff]
  have key : ∀ a : ¬ (σ 18 m = 2 ∧ ¬ σ 20 m = 0 ∧ ¬ σ 20 m = 4), True := fun _ => trivial
  repeat' first
    | omega
    | (apply k9 <;> omega)
    | exact (kr (by omega)).1 (by omega)
    | exact (kr (by omega)).2.1 (by omega)
    | exact (kr (by omega)).2.2.1 (by omega)
    | exact (kr (by omega)).2.2.2.1 (by omega)
    | exact (kr (by omega)).2.2.2.2 (by omega)
    | apply And.intro
    | intro _
set_option maxRecDepth 100000 in
theorem x_addSealed_loop {t : Int} (hB : Bd (bX σ)) (h0 : 0 ≤ t) (h1 : t < 16) (hf : 0 ≤ σ 4 5) (hf1 : σ 4 5 + 4 ≤ 174)
    (h : ∀ σ', zsm [4, 29, 30] σ σ' → 0 ≤ σ' 4 5 → fX σ' = fX σ ++ (zl (fun j => σ 11 (4 * t + j)) (σ 8 t)).flatMap (gSe (bX σ) t) → Q 0 σ') :
    ∀ (k : Nat) (i : Int) (σ2 : zS) (l3 : Option zW), 0 ≤ i → i ≤ σ 8 t → (σ 8 t - i).toNat = k → zsm [4, 29, 30] σ σ2 → 0 ≤ σ2 4 5 → σ2 4 5 ≤ σ 4 5 + i → fX σ2 = fX σ ++ (zl (fun j => σ 11 (4 * t + j)) i).flatMap (gSe (bX σ) t) →
      zV 12 zF Q 2 [some (.inr 4), some (.inl t), some (.inl i), l3] [] σ2 := by
  have hfc : 0 ≤ σ 8 t ∧ σ 8 t ≤ 4 := hB.fc t h0 h1
  intro k
  induction k with
  | zero =>
    intro i σ2 l3 i0 i1 ik hs hc0 hc1 hfx
    have e8 : σ2 8 = σ 8 := hs 8 (by decide)
    refine zv_12 200 ?_
    simp only [zs_12_0, zs_12_1, zs_12_2, zs_12_3, zs_12_4, zs_12_7, zs_12_10, zs_12_11, zs_12_12, zs_12_15, zs_12_16, zs_12_19, zs_12_20, zs_12_21, zs_12_24, zs_12_25, zs_12_26, zs_12_29, zs_12_32, zs_12_33, zs_12_34, zs_12_37, zs_12_38, zs_12_41, zs_12_42, zs_12_43, zs_12_46, zs_12_49, zs_12_50, zs_12_52, zs_12_53, zs_12_56, zs_12_59, zs_12_62, zs_12_2h, za_10, za_8, zg_1_3, zg_1_5, zg_4_0, zrc_4, zrc_43, zrc_50, zli_0, zli_s, zlr_0, zlr_s, zls_0, zls_s, z1i_e, z2i_e, z1r_e, zir_e, ziir_e, z1v_e, z2v_e, zone_e, znil_e, zsp_0, zsp_s, zlz_0, zlz_1, zlz_2, zlz_3, zlz_4, zswp_0, zswp_s, true_and, and_true, implies_true, true_or, or_true, Int.reduceEq, Int.reduceLT, Int.reduceLE, Int.reduceNeg, not_true_eq_false, not_false_eq_true, false_implies, true_implies, zr_e, zwr_o, zwr_s, Nat.reduceEqDiff]
    rw [e8]
    refine ⟨h0, h1, by omega, by omega, fun a => h σ2 hs hc0 ?_, fun a => by omega⟩
    rw [hfx, show i = σ 8 t by omega]
  | succ k ih =>
    intro i σ2 l3 i0 i1 ik hs hc0 hc1 hfx
    have e8 : σ2 8 = σ 8 := hs 8 (by decide)
    have e10 : σ2 10 = σ 10 := hs 10 (by decide)
    have e11 : σ2 11 = σ 11 := hs 11 (by decide)
    have e9 : σ2 9 = σ 9 := hs 9 (by decide)
    have hj : 0 ≤ σ 11 (4 * t + i) ∧ σ 11 (4 * t + i) ≤ 15 := hB.fj (4 * t + i) (by omega) (by omega)
    have hse : (σ 10 (σ 11 (4 * t + i)) = 0 ∨ σ 10 (σ 11 (4 * t + i)) = 1) ∧ _ := hB.se _ hj.1 (by omega)
    refine zv_12 200 ?_
    simp only [zs_12_0, zs_12_1, zs_12_2, zs_12_3, zs_12_4, zs_12_7, zs_12_10, zs_12_11, zs_12_12, zs_12_15, zs_12_16, zs_12_19, zs_12_20, zs_12_21, zs_12_24, zs_12_25, zs_12_26, zs_12_29, zs_12_32, zs_12_33, zs_12_34, zs_12_37, zs_12_38, zs_12_41, zs_12_42, zs_12_43, zs_12_46, zs_12_49, zs_12_50, zs_12_52, zs_12_53, zs_12_56, zs_12_59, zs_12_62, zs_12_2h, za_10, za_8, zg_1_3, zg_1_5, zg_4_0, zrc_4, zrc_43, zrc_50, zli_0, zli_s, zlr_0, zlr_s, zls_0, zls_s, z1i_e, z2i_e, z1r_e, zir_e, ziir_e, z1v_e, z2v_e, zone_e, znil_e, zsp_0, zsp_s, zlz_0, zlz_1, zlz_2, zlz_3, zlz_4, zswp_0, zswp_s, true_and, and_true, implies_true, true_or, or_true, Int.reduceEq, Int.reduceLT, Int.reduceLE, Int.reduceNeg, not_true_eq_false, not_false_eq_true, false_implies, true_implies, zr_e, zwr_o, zwr_s, Nat.reduceEqDiff]
    rw [e8]
    refine ⟨h0, h1, by omega, by omega, fun a => by omega, fun a => ?_⟩
    refine x_faceAt (by omega) (by omega) ?_
    rw [Int.mul_comm t 4, e11]
    rw [e10]
    generalize hff : σ 11 (4 * t + i) = f at *
    have stay : gSe (bX σ) t f = [] → ∀ l3, zV 12 zF Q 2 [some (.inr 4), some (.inl t), some (.inl (i + 1)), l3] [] σ2 := by
      intro hz l3
      refine ih (i + 1) σ2 l3 (by omega) (by omega) (by omega) hs hc0 (by omega) ?_
      rw [hfx, zl_s i0, List.flatMap_append, hff]
      simp [hz]
    have eg : gSe (bX σ) t f = gIf (if ¬ σ 10 f = 0 ∧ zbt (σ 9 f) t = false then 13 else 0) f := rfl
    refine ⟨hj.1, by omega, by omega, fun b => ?_, fun b => ?_⟩
    · exact stay (by rw [eg, if_neg (fun z => z.1 b)]; rfl) _
    · refine x_permits hj.1 (by omega) h0 h1 (fun c => ?_) (fun c => ?_)
      · rw [e9] at c
        simp only [zs_12_0, zs_12_1, zs_12_2, zs_12_3, zs_12_4, zs_12_7, zs_12_10, zs_12_11, zs_12_12, zs_12_15, zs_12_16, zs_12_19, zs_12_20, zs_12_21, zs_12_24, zs_12_25, zs_12_26, zs_12_29, zs_12_32, zs_12_33, zs_12_34, zs_12_37, zs_12_38, zs_12_41, zs_12_42, zs_12_43, zs_12_46, zs_12_49, zs_12_50, zs_12_52, zs_12_53, zs_12_56, zs_12_59, zs_12_62, za_10, za_8, zg_1_3, zg_1_5, zg_4_0, zrc_4, zrc_43, zrc_50, zli_0, zli_s, zlr_0, zlr_s, zls_0, zls_s, z1i_e, z2i_e, z1r_e, zir_e, ziir_e, z1v_e, z2v_e, zone_e, znil_e, zsp_0, zsp_s, zlz_0, zlz_1, zlz_2, zlz_3, zlz_4, zswp_0, zswp_s, true_and, and_true, implies_true, true_or, or_true, Int.reduceEq, Int.reduceLT, Int.reduceLE, Int.reduceNeg, not_true_eq_false, not_false_eq_true, false_implies, true_implies, zr_e, zwr_o, zwr_s, Nat.reduceEqDiff]
        exact stay (by rw [eg, if_neg (fun z => by rw [c] at z; cases z.2)]; rfl) _
      · rw [e9] at c
        simp only [zs_12_0, zs_12_1, zs_12_2, zs_12_3, zs_12_4, zs_12_7, zs_12_10, zs_12_11, zs_12_12, zs_12_15, zs_12_16, zs_12_19, zs_12_20, zs_12_21, zs_12_24, zs_12_25, zs_12_26, zs_12_29, zs_12_32, zs_12_33, zs_12_34, zs_12_37, zs_12_38, zs_12_41, zs_12_42, zs_12_43, zs_12_46, zs_12_49, zs_12_50, zs_12_52, zs_12_53, zs_12_56, zs_12_59, zs_12_62, za_10, za_8, zg_1_3, zg_1_5, zg_4_0, zrc_4, zrc_43, zrc_50, zli_0, zli_s, zlr_0, zlr_s, zls_0, zls_s, z1i_e, z2i_e, z1r_e, zir_e, ziir_e, z1v_e, z2v_e, zone_e, znil_e, zsp_0, zsp_s, zlz_0, zlz_1, zlz_2, zlz_3, zlz_4, zswp_0, zswp_s, true_and, and_true, implies_true, true_or, or_true, Int.reduceEq, Int.reduceLT, Int.reduceLE, Int.reduceNeg, not_true_eq_false, not_false_eq_true, false_implies, true_implies, zr_e, zwr_o, zwr_s, Nat.reduceEqDiff]
        refine x_addIfAny ⟨by decide, by decide⟩ hc0 (by omega) ?_
        intro σ3 hs3 hc3 hf3
        have hl := fX_len hc0 hc3 hf3
        have hl2 := gIf_len 13 f
        refine ih (i + 1) σ3 _ (by omega) (by omega) (by omega) (zsm_tr hs hs3 (by decide)) hc3 (by omega) ?_
        rw [hf3, hfx, zl_s i0, List.flatMap_append, hff, List.append_assoc]
        simp [eg, b, c]
set_option maxRecDepth 100000 in
theorem x_addSealed {t : Int} (hB : Bd (bX σ)) (h0 : 0 ≤ t) (h1 : t < 16) (hf : 0 ≤ σ 4 5) (hf1 : σ 4 5 + 4 ≤ 174)
    (h : ∀ σ', zsm [4, 29, 30] σ σ' → 0 ≤ σ' 4 5 → fX σ' = fX σ ++ (zl (fun j => σ 11 (4 * t + j)) (σ 8 t)).flatMap (gSe (bX σ) t) → Q 0 σ') : zM 12 zF [.inr 4, .inl t] σ Q := by
  have hfc : 0 ≤ σ 8 t ∧ σ 8 t ≤ 4 := hB.fc t h0 h1
  refine ze_12 200 ?_
  simp only [zs_12_0, zs_12_1, zs_12_2, zs_12_3, zs_12_4, zs_12_7, zs_12_10, zs_12_11, zs_12_12, zs_12_15, zs_12_16, zs_12_19, zs_12_20, zs_12_21, zs_12_24, zs_12_25, zs_12_26, zs_12_29, zs_12_32, zs_12_33, zs_12_34, zs_12_37, zs_12_38, zs_12_41, zs_12_42, zs_12_43, zs_12_46, zs_12_49, zs_12_50, zs_12_52, zs_12_53, zs_12_56, zs_12_59, zs_12_62, za_10, za_8, zg_1_3, zg_1_5, zg_4_0, zrc_4, zrc_43, zrc_50, zli_0, zli_s, zlr_0, zlr_s, zls_0, zls_s, z1i_e, z2i_e, z1r_e, zir_e, ziir_e, z1v_e, z2v_e, zone_e, znil_e, zsp_0, zsp_s, zlz_0, zlz_1, zlz_2, zlz_3, zlz_4, zswp_0, zswp_s, true_and, and_true, implies_true, true_or, or_true, Int.reduceEq, Int.reduceLT, Int.reduceLE, Int.reduceNeg, not_true_eq_false, not_false_eq_true, false_implies, true_implies, zr_e, zwr_o, zwr_s, Nat.reduceEqDiff]
  exact x_addSealed_loop hB h0 h1 hf hf1 h _ 0 σ _ (by omega) (by omega) rfl zsm_rf hf (by omega) (by rw [zl_0 (by omega)]; simp)
end X14
