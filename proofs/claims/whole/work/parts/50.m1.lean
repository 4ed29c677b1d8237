/-! the reference: leaves -/
section M1
variable {σ : zS} {Q : Int → zS → Prop}
set_option maxRecDepth 100000 in
theorem m_in {v a b : Int} (hv : zr v) (ha : zr a) (hb : zr b) (k1 : a ≤ v → v ≤ b → Q 1 σ) (k0 : v < a ∨ b < v → Q 0 σ) : zM 77 zF [.inl v, .inl a, .inl b] σ Q := by
  simp only [zr] at hv ha hb
  refine ze_77 100 ?_
  simp only [zs_77_0, zs_77_1, zs_77_2, zs_77_5, zs_77_6, zs_77_7, zs_77_10, zs_77_11, zs_77_14, zs_77_15, zli_0, zli_s, zlr_0, zlr_s, zls_0, zls_s, z1i_e, z2i_e, z1r_e, zir_e, ziir_e, z1v_e, z2v_e, zone_e, znil_e, zsp_0, zsp_s, zlz_0, zlz_1, zlz_2, zlz_3, zlz_4, zswp_0, zswp_s, true_and, and_true, implies_true, true_or, or_true, Int.reduceEq, Int.reduceLT, Int.reduceLE, Int.reduceNeg, not_true_eq_false, not_false_eq_true, false_implies, true_implies, zr_e, zwr_o, zwr_s, Nat.reduceEqDiff]
  repeat' first | omega | (apply k1 <;> omega) | (apply k0; omega) | apply And.intro | intro _
set_option maxRecDepth 100000 in
theorem m_isType {t : Int} (hB : Bd (bM σ)) (ht : zr t) (k1 : 0 ≤ t → t < σ 31 0 → Q 1 σ) (k0 : t < 0 ∨ σ 31 0 ≤ t → Q 0 σ) : zM 78 zF [.inr 31, .inl t] σ Q := by
  have hn : 1 ≤ σ 31 0 ∧ σ 31 0 ≤ 16 ∧ _ := hB.n
  refine ze_78 100 ?_
  simp only [zs_78_0, zs_78_1, zs_78_2, zs_78_3, zs_78_6, zs_78_7, zs_78_8, zs_78_11, zg_31_0, zli_0, zli_s, zlr_0, zlr_s, zls_0, zls_s, z1i_e, z2i_e, z1r_e, zir_e, ziir_e, z1v_e, z2v_e, zone_e, znil_e, zsp_0, zsp_s, zlz_0, zlz_1, zlz_2, zlz_3, zlz_4, zswp_0, zswp_s, true_and, and_true, implies_true, true_or, or_true, Int.reduceEq, Int.reduceLT, Int.reduceLE, Int.reduceNeg, not_true_eq_false, not_false_eq_true, false_implies, true_implies, zr_e, zwr_o, zwr_s, Nat.reduceEqDiff]
  exact m_in ht zr_0 ⟨by omega, by omega⟩ (fun a b => ⟨by omega, k1 a (by omega)⟩) (fun a => ⟨by omega, k0 (by omega)⟩)
set_option maxRecDepth 100000 in
theorem m_isFace {t : Int} (hB : Bd (bM σ)) (ht : zr t) (k1 : 0 ≤ t → t < σ 31 0 → σ 32 t = 2 → Q 1 σ) (k0 : (0 ≤ t → t < σ 31 0 → ¬ σ 32 t = 2) → Q 0 σ) : zM 79 zF [.inr 31, .inl t] σ Q := by
  have hn : 1 ≤ σ 31 0 ∧ σ 31 0 ≤ 16 ∧ _ := hB.n
  refine ze_79 100 ?_
  simp only [zs_79_0, zs_79_1, zs_79_2, zs_79_5, zs_79_8, zs_79_9, zs_79_12, zs_79_13, zs_79_14, zs_79_15, zs_79_18, zs_79_19, zs_79_22, zs_79_23, za_32, zg_31_1, zrc_78, zli_0, zli_s, zlr_0, zlr_s, zls_0, zls_s, z1i_e, z2i_e, z1r_e, zir_e, ziir_e, z1v_e, z2v_e, zone_e, znil_e, zsp_0, zsp_s, zlz_0, zlz_1, zlz_2, zlz_3, zlz_4, zswp_0, zswp_s, true_and, and_true, implies_true, true_or, or_true, Int.reduceEq, Int.reduceLT, Int.reduceLE, Int.reduceNeg, not_true_eq_false, not_false_eq_true, false_implies, true_implies, zr_e, zwr_o, zwr_s, Nat.reduceEqDiff]
  refine m_isType hB ht (fun a b => ?_) (fun a => ?_)
  · have hk : 0 ≤ σ 32 t ∧ σ 32 t ≤ 2 := hB.kind t a (by omega)
    simp only [zs_79_0, zs_79_1, zs_79_2, zs_79_5, zs_79_8, zs_79_9, zs_79_12, zs_79_13, zs_79_14, zs_79_15, zs_79_18, zs_79_19, zs_79_22, zs_79_23, za_32, zg_31_1, zrc_78, zli_0, zli_s, zlr_0, zlr_s, zls_0, zls_s, z1i_e, z2i_e, z1r_e, zir_e, ziir_e, z1v_e, z2v_e, zone_e, znil_e, zsp_0, zsp_s, zlz_0, zlz_1, zlz_2, zlz_3, zlz_4, zswp_0, zswp_s, true_and, and_true, implies_true, true_or, or_true, Int.reduceEq, Int.reduceLT, Int.reduceLE, Int.reduceNeg, not_true_eq_false, not_false_eq_true, false_implies, true_implies, zr_e, zwr_o, zwr_s, Nat.reduceEqDiff]
    refine ⟨a, by omega, by omega, fun c => k0 (fun _ _ => c), fun c => k1 a b c⟩
  · simp only [zs_79_0, zs_79_1, zs_79_2, zs_79_5, zs_79_8, zs_79_9, zs_79_12, zs_79_13, zs_79_14, zs_79_15, zs_79_18, zs_79_19, zs_79_22, zs_79_23, za_32, zg_31_1, zrc_78, zli_0, zli_s, zlr_0, zlr_s, zls_0, zls_s, z1i_e, z2i_e, z1r_e, zir_e, ziir_e, z1v_e, z2v_e, zone_e, znil_e, zsp_0, zsp_s, zlz_0, zlz_1, zlz_2, zlz_3, zlz_4, zswp_0, zswp_s, true_and, and_true, implies_true, true_or, or_true, Int.reduceEq, Int.reduceLT, Int.reduceLE, Int.reduceNeg, not_true_eq_false, not_false_eq_true, false_implies, true_implies, zr_e, zwr_o, zwr_s, Nat.reduceEqDiff]
    exact k0 (by omega)
set_option maxRecDepth 100000 in
theorem m_parents {t : Int} (hB : Bd (bM σ)) (h0 : 0 ≤ t) (h1 : t < 16) (h : Q (gPc (bM σ) t) σ) : zM 82 zF [.inr 31, .inl t] σ Q := by
  have hk : 0 ≤ σ 32 t ∧ σ 32 t ≤ 2 := hB.kind t h0 h1
  have ep : t = 0 ∨ σ 32 t = 2 → Q (σ 35 t + 0) σ := fun a => by
    have e : gPc (bM σ) t = σ 35 t := gPc_p (B := bM σ) a
    rw [Int.add_zero, ← e]; exact h
  have en : ¬ (t = 0 ∨ σ 32 t = 2) → Q (σ 35 t + 1) σ := fun a => by
    have e : gPc (bM σ) t = σ 35 t + 1 := gPc_n (B := bM σ) a
    rw [← e]; exact h
  refine ze_82 100 ?_
  simp only [zs_82_0, zs_82_1, zs_82_4, zs_82_5, zs_82_6, zs_82_7, zs_82_10, zs_82_11, zs_82_14, zs_82_15, zs_82_16, zs_82_17, zs_82_20, zs_82_21, zs_82_24, zs_82_25, zs_82_26, za_32, za_35, zg_31_1, zg_31_4, zli_0, zli_s, zlr_0, zlr_s, zls_0, zls_s, z1i_e, z2i_e, z1r_e, zir_e, ziir_e, z1v_e, z2v_e, zone_e, znil_e, zsp_0, zsp_s, zlz_0, zlz_1, zlz_2, zlz_3, zlz_4, zswp_0, zswp_s, true_and, and_true, implies_true, true_or, or_true, Int.reduceEq, Int.reduceLT, Int.reduceLE, Int.reduceNeg, not_true_eq_false, not_false_eq_true, false_implies, true_implies, zr_e, zwr_o, zwr_s, Nat.reduceEqDiff]
  repeat' first | omega | (apply ep; omega) | (apply en; omega) | apply And.intro | intro _
set_option maxRecDepth 100000 in
theorem m_parent {t i : Int} (hB : Bd (bM σ)) (h0 : 0 ≤ t) (h1 : t < 16) (i0 : 0 ≤ i) (i1 : i < gPc (bM σ) t) (h : Q (gPa (bM σ) t i) σ) : zM 83 zF [.inr 31, .inl t, .inl i] σ Q := by
  have hk : 0 ≤ σ 32 t ∧ σ 32 t ≤ 2 := hB.kind t h0 h1
  have hf : 0 ≤ σ 35 t ∧ σ 35 t ≤ 4 := hB.fc t h0 h1
  have ep : t = 0 ∨ σ 32 t = 2 → Q (σ 34 (4 * t + i - 0)) σ ∧ i < σ 35 t := fun a => by
    have e : gPa (bM σ) t i = σ 34 (4 * t + i) := gPa_p (B := bM σ) a
    have e2 : gPc (bM σ) t = σ 35 t := gPc_p (B := bM σ) a
    rw [Int.sub_zero, ← e]; exact ⟨h, by omega⟩
  have en : ¬ (t = 0 ∨ σ 32 t = 2) → ¬ i = 0 → Q (σ 34 (4 * t + i - 1)) σ ∧ i < σ 35 t + 1 := fun a c => by
    have e : gPa (bM σ) t i = σ 34 (4 * t + (i - 1)) := gPa_n (B := bM σ) a c
    have e2 : gPc (bM σ) t = σ 35 t + 1 := gPc_n (B := bM σ) a
    rw [show 4 * t + i - 1 = 4 * t + (i - 1) by omega, ← e]; exact ⟨h, by omega⟩
  have en0 : ¬ (t = 0 ∨ σ 32 t = 2) → i = 0 → Q (σ 33 t) σ := fun a c => by
    have e : gPa (bM σ) t i = σ 33 t := gPa_n0 (B := bM σ) a c
    rw [← e]; exact h
  refine ze_83 100 ?_
  simp only [zs_83_0, zs_83_1, zs_83_4, zs_83_5, zs_83_8, zs_83_9, zs_83_10, zs_83_11, zs_83_14, zs_83_15, zs_83_18, zs_83_19, zs_83_20, zs_83_21, zs_83_24, zs_83_25, zs_83_28, zs_83_29, zs_83_32, zs_83_33, zs_83_34, zs_83_37, zs_83_38, zs_83_41, zs_83_42, zs_83_43, zs_83_44, zs_83_45, zs_83_46, zs_83_47, zs_83_50, zs_83_51, zs_83_54, zs_83_55, zs_83_56, zs_83_57, za_32, za_33, za_34, zg_31_1, zg_31_2, zg_31_3, zli_0, zli_s, zlr_0, zlr_s, zls_0, zls_s, z1i_e, z2i_e, z1r_e, zir_e, ziir_e, z1v_e, z2v_e, zone_e, znil_e, zsp_0, zsp_s, zlz_0, zlz_1, zlz_2, zlz_3, zlz_4, zswp_0, zswp_s, true_and, and_true, implies_true, true_or, or_true, Int.reduceEq, Int.reduceLT, Int.reduceLE, Int.reduceNeg, not_true_eq_false, not_false_eq_true, false_implies, true_implies, zr_e, zwr_o, zwr_s, Nat.reduceEqDiff]
  repeat' first | omega | (have := (ep (by omega)).2; omega) | (have := (en (by omega) (by omega)).2; omega) | exact (ep (by omega)).1 | exact (en (by omega) (by omega)).1 | (apply en0 <;> omega) | apply And.intro | intro _
set_option maxRecDepth 100000 in
theorem m_serves {r q : Int} (hr : zr r) (hq : zr q) (k1 : (r = q ∨ q = 0 ∨ (r = 3 ∧ q = 1)) → Q 1 σ) (k0 : ¬ (r = q ∨ q = 0 ∨ (r = 3 ∧ q = 1)) → Q 0 σ) : zM 89 zF [.inl r, .inl q] σ Q := by
  simp only [zr] at hr hq
  refine ze_89 100 ?_
  simp only [zs_89_0, zs_89_1, zs_89_2, zs_89_5, zs_89_6, zs_89_9, zs_89_10, zs_89_11, zs_89_14, zs_89_15, zs_89_16, zs_89_19, zs_89_20, zs_89_23, zs_89_24, zli_0, zli_s, zlr_0, zlr_s, zls_0, zls_s, z1i_e, z2i_e, z1r_e, zir_e, ziir_e, z1v_e, z2v_e, zone_e, znil_e, zsp_0, zsp_s, zlz_0, zlz_1, zlz_2, zlz_3, zlz_4, zswp_0, zswp_s, true_and, and_true, implies_true, true_or, or_true, Int.reduceEq, Int.reduceLT, Int.reduceLE, Int.reduceNeg, not_true_eq_false, not_false_eq_true, false_implies, true_implies, zr_e, zwr_o, zwr_s, Nat.reduceEqDiff]
  repeat' first | omega | (apply k1; omega) | (apply k0; omega) | apply And.intro | intro _
set_option maxRecDepth 100000 in
theorem m_addType {k : Int} (h0 : 0 ≤ σ 31 0) (h1 : σ 31 0 < 16) (h : Q 0 (zwr (zwr (zwr σ 32 (σ 31 0) k) 31 0 (σ 31 0 + 1)) 31 19 0)) : zM 80 zF [.inr 31, .inl k] σ Q := by
  refine ze_80 100 ?_
  simp only [zs_80_0, zs_80_1, zs_80_4, zs_80_5, zs_80_8, zs_80_9, zs_80_10, zs_80_11, zs_80_12, zs_80_15, zs_80_16, zs_80_17, zs_80_20, zs_80_21, zs_80_22, zs_80_25, za_32, zg_31_0, zg_31_1, zp_31_0, zp_31_19, zli_0, zli_s, zlr_0, zlr_s, zls_0, zls_s, z1i_e, z2i_e, z1r_e, zir_e, ziir_e, z1v_e, z2v_e, zone_e, znil_e, zsp_0, zsp_s, zlz_0, zlz_1, zlz_2, zlz_3, zlz_4, zswp_0, zswp_s, true_and, and_true, implies_true, true_or, or_true, Int.reduceEq, Int.reduceLT, Int.reduceLE, Int.reduceNeg, not_true_eq_false, not_false_eq_true, false_implies, true_implies, zr_e, zwr_o, zwr_s, Nat.reduceEqDiff]
  exact ⟨h0, h1, h⟩
set_option maxRecDepth 100000 in
theorem m_addMember {t n s r : Int} (h1 : 0 ≤ t) (h2 : t < 16) (h3 : 0 ≤ n) (h4 : n < 10) (h5 : 0 ≤ σ 31 7) (h6 : σ 31 7 < 60) (h : Q 0 (zwr (zwr (zwr (zwr (zwr (zwr (zwr σ 38 (σ 31 7) t) 39 (σ 31 7) n) 40 (σ 31 7) s) 41 (σ 31 7) r) 46 (10 * t + n) (σ 31 7)) 31 7 (σ 31 7 + 1)) 31 19 0)) : zM 81 zF [.inr 31, .inl t, .inl n, .inl s, .inl r] σ Q := by
  refine ze_81 100 ?_
  simp only [zs_81_0, zs_81_1, zs_81_4, zs_81_5, zs_81_8, zs_81_9, zs_81_10, zs_81_11, zs_81_14, zs_81_15, zs_81_18, zs_81_19, zs_81_20, zs_81_21, zs_81_24, zs_81_25, zs_81_28, zs_81_29, zs_81_30, zs_81_31, zs_81_34, zs_81_35, zs_81_38, zs_81_40, zs_81_41, zs_81_42, zs_81_45, zs_81_47, zs_81_48, zs_81_49, zs_81_50, zs_81_51, zs_81_52, zs_81_55, zs_81_56, zs_81_57, zs_81_58, zs_81_61, zs_81_62, zs_81_63, zs_81_66, zs_81_67, zs_81_68, zs_81_71, za_38, za_39, za_40, za_41, za_46, zg_31_10, zg_31_11, zg_31_16, zg_31_7, zg_31_8, zg_31_9, zp_31_19, zp_31_7, zli_0, zli_s, zlr_0, zlr_s, zls_0, zls_s, z1i_e, z2i_e, z1r_e, zir_e, ziir_e, z1v_e, z2v_e, zone_e, znil_e, zsp_0, zsp_s, zlz_0, zlz_1, zlz_2, zlz_3, zlz_4, zswp_0, zswp_s, true_and, and_true, implies_true, true_or, or_true, Int.reduceEq, Int.reduceLT, Int.reduceLE, Int.reduceNeg, not_true_eq_false, not_false_eq_true, false_implies, true_implies, zr_e, zwr_o, zwr_s, Nat.reduceEqDiff]
  exact ⟨by omega, by omega, by omega, by omega, by omega, by omega, by omega, by omega, by omega, by omega, h⟩
end M1
