/-! MemberTable -/
section X4
variable {σ : zS} {Q : Int → zS → Prop}
set_option maxRecDepth 100000 in
theorem x_mexists {m : Int} (hB : Bd (bX σ)) (ht : zr m) (h1 : 0 ≤ m → m < σ 2 0 → Q 1 σ) (h0 : m < 0 ∨ σ 2 0 ≤ m → Q 0 σ) : zM 31 zF [.inr 2, .inl m] σ Q := by
  refine ze_31 100 ?_
  have hn : _ ∧ _ ∧ 3 ≤ σ 2 0 ∧ σ 2 0 ≤ 60 := hB.n
  simp only [zr] at ht
  simp only [zs_31_0, zs_31_1, zs_31_4, zs_31_5, zs_31_6, zs_31_9, zs_31_12, zs_31_13, zs_31_16, zs_31_17, zg_2_0, zli_0, zli_s, zlr_0, zlr_s, zls_0, zls_s, z1i_e, z2i_e, z1r_e, zir_e, ziir_e, z1v_e, z2v_e, zone_e, znil_e, zsp_0, zsp_s, zlz_0, zlz_1, zlz_2, zlz_3, zlz_4, zswp_0, zswp_s, true_and, and_true, implies_true, true_or, or_true, Int.reduceEq, Int.reduceLT, Int.reduceLE, Int.reduceNeg, not_true_eq_false, not_false_eq_true, false_implies, true_implies, zr_e, zwr_o, zwr_s, Nat.reduceEqDiff]
  refine ⟨ht, fun a => h0 (by omega), fun a => ⟨ht, by omega, fun b => h0 (by omega), fun b => h1 a b⟩⟩
theorem bX_mem {σ : zS} {t n s r : Int} : bX (zwr (zwr (zwr (zwr (zwr σ 17 (σ 2 0) t) 18 (σ 2 0) s) 23 (σ 2 0) r) 24 (10 * t + n) (σ 2 0)) 2 0 (σ 2 0 + 1)) = oMem (bX σ) t n s r := by
  funext c i
  match c with
  | 0 => simp [bX, bM, oMem, zwr]
  | 1 => simp [bX, bM, oMem, zwr]
  | 2 => simp [bX, bM, oMem, zwr]
  | 3 => simp [bX, bM, oMem, zwr]
  | 4 => simp [bX, bM, oMem, zwr]
  | 5 => simp [bX, bM, oMem, zwr]
  | 6 => simp [bX, bM, oMem, zwr]
  | 7 => simp [bX, bM, oMem, zwr]
  | 8 => simp [bX, bM, oMem, zwr]
  | 9 => simp [bX, bM, oMem, zwr]
  | 10 => simp [bX, bM, oMem, zwr]
  | 11 => simp [bX, bM, oMem, zwr]
  | 12 => simp [bX, bM, oMem, zwr]
  | 13 => simp [bX, bM, oMem, zwr]
  | 14 => simp [bX, bM, oMem, zwr]
  | 15 => simp [bX, bM, oMem, zwr]
  | 16 => simp [bX, bM, oMem, zwr]
  | 17 => simp [bX, bM, oMem, zwr]
  | n + 18 => rfl
set_option maxRecDepth 100000 in
theorem x_mappend {dom : Nat → Bool} {t n s r : Int} (h1 : 0 ≤ t) (h2 : t < 16) (h3 : 0 ≤ n) (h4 : n < 10) (h5 : 0 ≤ σ 2 0) (h6 : σ 2 0 < 60) (h : Q (σ 2 0) (zwr (zwr (zwr (zwr (zwr σ 17 (σ 2 0) t) 18 (σ 2 0) s) 23 (σ 2 0) r) 24 (10 * t + n) (σ 2 0)) 2 0 (σ 2 0 + 1))) : zM 32 zF [.inr 2, .inl t, .inl n, .inl s, .inl r] σ Q := by
  refine ze_32 100 ?_
  simp only [zs_32_0, zs_32_1, zs_32_4, zs_32_6, zs_32_7, zs_32_10, zs_32_12, zs_32_13, zs_32_14, zs_32_15, zs_32_18, zs_32_20, zs_32_21, zs_32_22, zs_32_23, zs_32_26, zs_32_28, zs_32_30, zs_32_31, zs_32_32, zs_32_35, zs_32_36, zs_32_38, zs_32_39, zs_32_40, zs_32_41, zs_32_43, zs_32_44, zs_32_45, zs_32_46, zs_32_49, zs_32_50, zs_32_51, zs_32_54, zs_32_56, za_17, za_18, za_23, za_24, zg_2_0, zg_2_1, zg_2_2, zg_2_7, zg_2_8, zp_2_0, zli_0, zli_s, zlr_0, zlr_s, zls_0, zls_s, z1i_e, z2i_e, z1r_e, zir_e, ziir_e, z1v_e, z2v_e, zone_e, znil_e, zsp_0, zsp_s, zlz_0, zlz_1, zlz_2, zlz_3, zlz_4, zswp_0, zswp_s, true_and, and_true, implies_true, true_or, or_true, Int.reduceEq, Int.reduceLT, Int.reduceLE, Int.reduceNeg, not_true_eq_false, not_false_eq_true, false_implies, true_implies, zr_e, zwr_o, zwr_s, Nat.reduceEqDiff]
  rw [Int.mul_comm t 10]
  exact ⟨by omega, by omega, by omega, by omega, by omega, by omega, by omega, by omega, h⟩
theorem bX_does {σ : zS} {m a k u n : Int} : bX (zwr (zwr (zwr (zwr σ 19 m a) 20 m k) 21 m u) 22 m n) = oDoes (bX σ) m a k u n := by
  funext c i
  match c with
  | 0 => simp [bX, bM, oDoes, zwr]
  | 1 => simp [bX, bM, oDoes, zwr]
  | 2 => simp [bX, bM, oDoes, zwr]
  | 3 => simp [bX, bM, oDoes, zwr]
  | 4 => simp [bX, bM, oDoes, zwr]
  | 5 => simp [bX, bM, oDoes, zwr]
  | 6 => simp [bX, bM, oDoes, zwr]
  | 7 => simp [bX, bM, oDoes, zwr]
  | 8 => simp [bX, bM, oDoes, zwr]
  | 9 => simp [bX, bM, oDoes, zwr]
  | 10 => simp [bX, bM, oDoes, zwr]
  | 11 => simp [bX, bM, oDoes, zwr]
  | 12 => simp [bX, bM, oDoes, zwr]
  | 13 => simp [bX, bM, oDoes, zwr]
  | 14 => simp [bX, bM, oDoes, zwr]
  | 15 => simp [bX, bM, oDoes, zwr]
  | 16 => simp [bX, bM, oDoes, zwr]
  | 17 => simp [bX, bM, oDoes, zwr]
  | n + 18 => rfl
set_option maxRecDepth 100000 in
theorem x_tell {m a k u n : Int} (h1 : 0 ≤ m) (h2 : m < 60) (h : Q 0 (zwr (zwr (zwr (zwr σ 19 m a) 20 m k) 21 m u) 22 m n)) : zM 33 zF [.inr 2, .inl m, .inl a, .inl k, .inl u, .inl n] σ Q := by
  refine ze_33 100 ?_
  simp only [zs_33_0, zs_33_1, zs_33_4, zs_33_5, zs_33_6, zs_33_7, zs_33_8, zs_33_11, zs_33_12, zs_33_13, zs_33_14, zs_33_15, zs_33_18, zs_33_19, zs_33_21, zs_33_22, zs_33_23, zs_33_26, zs_33_27, zs_33_29, zs_33_30, za_19, za_20, za_21, za_22, zg_2_3, zg_2_4, zg_2_5, zg_2_6, zli_0, zli_s, zlr_0, zlr_s, zls_0, zls_s, z1i_e, z2i_e, z1r_e, zir_e, ziir_e, z1v_e, z2v_e, zone_e, znil_e, zsp_0, zsp_s, zlz_0, zlz_1, zlz_2, zlz_3, zlz_4, zswp_0, zswp_s, true_and, and_true, implies_true, true_or, or_true, Int.reduceEq, Int.reduceLT, Int.reduceLE, Int.reduceNeg, not_true_eq_false, not_false_eq_true, false_implies, true_implies, zr_e, zwr_o, zwr_s, Nat.reduceEqDiff]
  exact ⟨h1, h2, h1, h2, h1, h2, h1, h2, h⟩
set_option maxRecDepth 100000 in
theorem x_ownOf {t n : Int} (h1 : 0 ≤ t) (h2 : t < 16) (h3 : 0 ≤ n) (h4 : n < 10) (h : Q (σ 24 (10 * t + n)) σ) : zM 34 zF [.inr 2, .inl t, .inl n] σ Q := by
  refine ze_34 100 ?_
  simp only [zs_34_0, zs_34_1, zs_34_4, zs_34_5, zs_34_7, zs_34_8, zs_34_9, zs_34_10, zs_34_11, za_24, zg_2_8, zli_0, zli_s, zlr_0, zlr_s, zls_0, zls_s, z1i_e, z2i_e, z1r_e, zir_e, ziir_e, z1v_e, z2v_e, zone_e, znil_e, zsp_0, zsp_s, zlz_0, zlz_1, zlz_2, zlz_3, zlz_4, zswp_0, zswp_s, true_and, and_true, implies_true, true_or, or_true, Int.reduceEq, Int.reduceLT, Int.reduceLE, Int.reduceNeg, not_true_eq_false, not_false_eq_true, false_implies, true_implies, zr_e, zwr_o, zwr_s, Nat.reduceEqDiff]
  rw [Int.mul_comm t 10]
  exact ⟨by omega, by omega, h⟩
/-- a result serves for another -/
def gSv (B : zS) (m o : Int) : Prop := B 8 m = B 8 o ∨ B 8 o = 0 ∨ (B 8 m = 3 ∧ B 8 o = 1)
set_option maxRecDepth 100000 in
theorem x_serves {m o : Int} (hB : Bd (bX σ)) (h2 : 0 ≤ m) (h3 : m < 60) (h4 : 0 ≤ o) (h5 : o < 60) (h1 : gSv (bX σ) m o → Q 1 σ) (h0 : ¬ gSv (bX σ) m o → Q 0 σ) : zM 35 zF [.inr 2, .inl m, .inl o] σ Q := by
  have e : gSv (bX σ) m o ↔ (σ 23 m = σ 23 o ∨ σ 23 o = 0 ∨ (σ 23 m = 3 ∧ σ 23 o = 1)) := Iff.rfl
  have hm : _ ∧ _ ∧ _ ∧ _ ∧ 0 ≤ σ 23 m ∧ σ 23 m ≤ 3 ∧ _ := hB.me m h2 h3
  have ho : _ ∧ _ ∧ _ ∧ _ ∧ 0 ≤ σ 23 o ∧ σ 23 o ≤ 3 ∧ _ := hB.me o h4 h5
  rw [e] at h1 h0
  refine ze_35 100 ?_
  simp only [zs_35_0, zs_35_1, zs_35_4, zs_35_5, zs_35_6, zs_35_7, zs_35_8, zs_35_11, zs_35_12, zs_35_13, zs_35_15, zs_35_16, zs_35_18, zs_35_21, zs_35_23, zs_35_26, zs_35_27, zs_35_28, zs_35_31, zs_35_33, zs_35_34, zs_35_37, zs_35_38, zs_35_41, zs_35_42, za_23, zg_2_7, zli_0, zli_s, zlr_0, zlr_s, zls_0, zls_s, z1i_e, z2i_e, z1r_e, zir_e, ziir_e, z1v_e, z2v_e, zone_e, znil_e, zsp_0, zsp_s, zlz_0, zlz_1, zlz_2, zlz_3, zlz_4, zswp_0, zswp_s, true_and, and_true, implies_true, true_or, or_true, Int.reduceEq, Int.reduceLT, Int.reduceLE, Int.reduceNeg, not_true_eq_false, not_false_eq_true, false_implies, true_implies, zr_e, zwr_o, zwr_s, Nat.reduceEqDiff]
  (repeat' first | apply And.intro | intro _) <;> first | omega | (apply h1; omega) | (apply h0; omega)
end X4
