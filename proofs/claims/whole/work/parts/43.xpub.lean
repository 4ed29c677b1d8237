/-! the public methods of X, first those that change something -/
section XP
variable {σ : zS} {Q : Int → zS → Prop}
theorem IX.n (h : IX σ) : 1 ≤ σ 1 0 ∧ σ 1 0 ≤ 16 ∧ 3 ≤ σ 2 0 ∧ σ 2 0 ≤ 60 := h.1.n
set_option maxRecDepth 100000 in
theorem xp_type {k : Int} (hI : IX σ) (hk : zr k) (hbad : k < 0 ∨ 2 < k → Q (-1) σ) (hfull : 0 ≤ k → k ≤ 2 → 16 ≤ σ 1 0 → Q (-3) σ)
    (hok : 0 ≤ k → k ≤ 2 → σ 1 0 < 16 → ∀ σ', zX σ σ' → IX σ' → σ' 5 = σ 5 → bX σ' = oType (bX σ) k → Q (σ 1 0) σ') : zM 56 zF [.inr 0, .inl k] σ Q := by
  have hn := hI.n
  simp only [zr] at hk
  refine ze_56 100 ?_
  simp only [zs_56_0, zs_56_1, zs_56_4, zs_56_5, zs_56_6, zs_56_9, zs_56_10, zs_56_11, zs_56_12, zs_56_15, zs_56_18, zs_56_20, zs_56_23, zs_56_25, zs_56_26, zs_56_27, zs_56_30, zs_56_33, zs_56_34, zs_56_37, zs_56_38, zs_56_41, zg_0_0, zg_0_2, zg_1_0, zrc_13, zrc_40, zli_0, zli_s, zlr_0, zlr_s, zls_0, zls_s, z1i_e, z2i_e, z1r_e, zir_e, ziir_e, z1v_e, z2v_e, zone_e, znil_e, zsp_0, zsp_s, zlz_0, zlz_1, zlz_2, zlz_3, zlz_4, zswp_0, zswp_s, true_and, and_true, implies_true, true_or, or_true, Int.reduceEq, Int.reduceLT, Int.reduceLE, Int.reduceNeg, not_true_eq_false, not_false_eq_true, false_implies, true_implies, zr_e, zwr_o, zwr_s, Nat.reduceEqDiff]
  refine ⟨hk, fun a => hbad (by omega), fun a => ⟨hk, fun b => ⟨by omega, fun c => ?_, fun c => hfull a (by omega) c⟩, fun b => hbad (by omega)⟩⟩
  refine x_forgetAll ?_
  intro σ1 hs1 h25
  have eB : bX σ1 = bX σ := bX_sm hs1 (by decide)
  have e1 : σ1 1 = σ 1 := hs1 1 (by decide)
  refine x_append (by rw [eB]; exact hI.1) (fun u u0 u1 => ?_) (by rw [e1]; omega) a (by omega) ?_
  · rw [e1] at u1
    exact AXt_base (by rw [eB]) (by rw [eB]) (by rw [eB]) (by rw [eB]) (hs1 12 (by decide)) (hs1 13 (by decide)) (hI.2.1 u u0 u1)
  · intro σ2 hs2 e2 hA2
    rw [eB] at e2
    rw [e1]
    refine hok a (by omega) c σ2 ?_ ⟨?_, hA2, ?_, ?_⟩ ?_ e2
    · intro c hc
      rw [zX_sm hs2 (by decide) c hc, zX_sm hs1 (by decide) c hc]
    · rw [e2]; exact Bd_type hI.1 c a (by omega)
    · exact FX_stale (by rw [hs2 25 (by decide)]; exact h25) (by rw [hs2 26 (by decide), hs1 26 (by decide)]) hI.2.2.1
    · rw [hs2 5 (by decide), hs1 5 (by decide)]; exact hI.2.2.2
    · rw [hs2 5 (by decide), hs1 5 (by decide)]
set_option maxRecDepth 100000 in
theorem xp_extend {t s : Int} (hI : IX σ) (ht : zr t) (hs : zr s) (hbad : ¬ (0 < t ∧ t < σ 1 0 ∧ ¬ σ 6 t = 2 ∧ 0 ≤ s ∧ s < t ∧ ¬ σ 6 s = 2) → Q (-1) σ)
    (hok : 0 < t → t < σ 1 0 → ¬ σ 6 t = 2 → 0 ≤ s → s < t → ¬ σ 6 s = 2 → ∀ σ', zX σ σ' → IX σ' → σ' 5 = σ 5 → bX σ' = oExt (bX σ) t s → Q (σ 7 t) σ') : zM 57 zF [.inr 0, .inl t, .inl s] σ Q := by
  have hn := hI.n
  have ht' := ht
  have hs' := hs
  simp only [zr] at ht hs
  refine ze_57 100 ?_
  simp only [zs_57_0, zs_57_1, zs_57_4, zs_57_5, zs_57_8, zs_57_9, zs_57_12, zs_57_15, zs_57_16, zs_57_19, zs_57_20, zs_57_23, zs_57_26, zs_57_27, zs_57_28, zs_57_31, zs_57_32, zs_57_33, zs_57_34, zs_57_37, zs_57_40, zs_57_41, zs_57_44, zs_57_45, zs_57_46, zs_57_49, zg_0_0, zg_0_2, zrc_13, zrc_38, zrc_41, zli_0, zli_s, zlr_0, zlr_s, zls_0, zls_s, z1i_e, z2i_e, z1r_e, zir_e, ziir_e, z1v_e, z2v_e, zone_e, znil_e, zsp_0, zsp_s, zlz_0, zlz_1, zlz_2, zlz_3, zlz_4, zswp_0, zswp_s, true_and, and_true, implies_true, true_or, or_true, Int.reduceEq, Int.reduceLT, Int.reduceLE, Int.reduceNeg, not_true_eq_false, not_false_eq_true, false_implies, true_implies, zr_e, zwr_o, zwr_s, Nat.reduceEqDiff]
  refine ⟨ht, fun a => hbad (by omega), fun a => ?_⟩
  refine x_isClass hI.1 ht' (fun b1 b2 b3 => ?_) (fun b => ?_)
  · simp only [zs_57_0, zs_57_1, zs_57_4, zs_57_5, zs_57_8, zs_57_9, zs_57_12, zs_57_15, zs_57_16, zs_57_19, zs_57_20, zs_57_23, zs_57_26, zs_57_27, zs_57_28, zs_57_31, zs_57_32, zs_57_33, zs_57_34, zs_57_37, zs_57_40, zs_57_41, zs_57_44, zs_57_45, zs_57_46, zs_57_49, zg_0_0, zg_0_2, zrc_13, zrc_38, zrc_41, zli_0, zli_s, zlr_0, zlr_s, zls_0, zls_s, z1i_e, z2i_e, z1r_e, zir_e, ziir_e, z1v_e, z2v_e, zone_e, znil_e, zsp_0, zsp_s, zlz_0, zlz_1, zlz_2, zlz_3, zlz_4, zswp_0, zswp_s, true_and, and_true, implies_true, true_or, or_true, Int.reduceEq, Int.reduceLT, Int.reduceLE, Int.reduceNeg, not_true_eq_false, not_false_eq_true, false_implies, true_implies, zr_e, zwr_o, zwr_s, Nat.reduceEqDiff]
    refine x_isClass hI.1 hs' (fun d1 d2 d3 => ?_) (fun d => ?_)
    · simp only [zs_57_0, zs_57_1, zs_57_4, zs_57_5, zs_57_8, zs_57_9, zs_57_12, zs_57_15, zs_57_16, zs_57_19, zs_57_20, zs_57_23, zs_57_26, zs_57_27, zs_57_28, zs_57_31, zs_57_32, zs_57_33, zs_57_34, zs_57_37, zs_57_40, zs_57_41, zs_57_44, zs_57_45, zs_57_46, zs_57_49, zg_0_0, zg_0_2, zrc_13, zrc_38, zrc_41, zli_0, zli_s, zlr_0, zlr_s, zls_0, zls_s, z1i_e, z2i_e, z1r_e, zir_e, ziir_e, z1v_e, z2v_e, zone_e, znil_e, zsp_0, zsp_s, zlz_0, zlz_1, zlz_2, zlz_3, zlz_4, zswp_0, zswp_s, true_and, and_true, implies_true, true_or, or_true, Int.reduceEq, Int.reduceLT, Int.reduceLE, Int.reduceNeg, not_true_eq_false, not_false_eq_true, false_implies, true_implies, zr_e, zwr_o, zwr_s, Nat.reduceEqDiff]
      refine ⟨hs, ht, fun e => ?_, fun e => hbad (by omega)⟩
      refine x_forgetAll ?_
      intro σ1 hs1 h25
      have eB : bX σ1 = bX σ := bX_sm hs1 (by decide)
      have e1 : σ1 1 = σ 1 := hs1 1 (by decide)
      refine x_changeSuper (by rw [eB]; exact hI.1) (fun u u0 u1 => ?_) (by omega) (by rw [e1]; omega) d1 e ?_
      · rw [e1] at u1
        exact AXt_base (by rw [eB]) (by rw [eB]) (by rw [eB]) (by rw [eB]) (hs1 12 (by decide)) (hs1 13 (by decide)) (hI.2.1 u u0 u1)
      · intro σ2 hs2 e2 hA2
        rw [eB] at e2
        rw [hs1 7 (by decide)]
        refine hok (by omega) b2 b3 d1 e d3 σ2 ?_ ⟨?_, hA2, ?_, ?_⟩ ?_ e2
        · intro c hc
          rw [zX_sm hs2 (by decide) c hc, zX_sm hs1 (by decide) c hc]
        · rw [e2]; exact Bd_ext hI.1 (by omega) (by omega) d1 e
        · exact FX_stale (by rw [hs2 25 (by decide)]; exact h25) (by rw [hs2 26 (by decide), hs1 26 (by decide)]) hI.2.2.1
        · rw [hs2 5 (by decide), hs1 5 (by decide)]; exact hI.2.2.2
        · rw [hs2 5 (by decide), hs1 5 (by decide)]
    · simp only [zs_57_0, zs_57_1, zs_57_4, zs_57_5, zs_57_8, zs_57_9, zs_57_12, zs_57_15, zs_57_16, zs_57_19, zs_57_20, zs_57_23, zs_57_26, zs_57_27, zs_57_28, zs_57_31, zs_57_32, zs_57_33, zs_57_34, zs_57_37, zs_57_40, zs_57_41, zs_57_44, zs_57_45, zs_57_46, zs_57_49, zg_0_0, zg_0_2, zrc_13, zrc_38, zrc_41, zli_0, zli_s, zlr_0, zlr_s, zls_0, zls_s, z1i_e, z2i_e, z1r_e, zir_e, ziir_e, z1v_e, z2v_e, zone_e, znil_e, zsp_0, zsp_s, zlz_0, zlz_1, zlz_2, zlz_3, zlz_4, zswp_0, zswp_s, true_and, and_true, implies_true, true_or, or_true, Int.reduceEq, Int.reduceLT, Int.reduceLE, Int.reduceNeg, not_true_eq_false, not_false_eq_true, false_implies, true_implies, zr_e, zwr_o, zwr_s, Nat.reduceEqDiff]
      exact hbad (fun z => z.2.2.2.2.2 (d z.2.2.2.1 (by omega)))
  · simp only [zs_57_0, zs_57_1, zs_57_4, zs_57_5, zs_57_8, zs_57_9, zs_57_12, zs_57_15, zs_57_16, zs_57_19, zs_57_20, zs_57_23, zs_57_26, zs_57_27, zs_57_28, zs_57_31, zs_57_32, zs_57_33, zs_57_34, zs_57_37, zs_57_40, zs_57_41, zs_57_44, zs_57_45, zs_57_46, zs_57_49, zg_0_0, zg_0_2, zrc_13, zrc_38, zrc_41, zli_0, zli_s, zlr_0, zlr_s, zls_0, zls_s, z1i_e, z2i_e, z1r_e, zir_e, ziir_e, z1v_e, z2v_e, zone_e, znil_e, zsp_0, zsp_s, zlz_0, zlz_1, zlz_2, zlz_3, zlz_4, zswp_0, zswp_s, true_and, and_true, implies_true, true_or, or_true, Int.reduceEq, Int.reduceLT, Int.reduceLE, Int.reduceNeg, not_true_eq_false, not_false_eq_true, false_implies, true_implies, zr_e, zwr_o, zwr_s, Nat.reduceEqDiff]
    exact hbad (fun z => z.2.2.1 (b (by omega) z.2.1))
set_option maxRecDepth 100000 in
theorem xp_face {t f : Int} (hI : IX σ) (ht : zr t) (hf : zr f) (hbad : ¬ (0 < t ∧ t < σ 1 0 ∧ 0 ≤ f ∧ f < t ∧ σ 6 f = 2) → Q (-1) σ)
    (hno : 0 < t → t < σ 1 0 → 0 ≤ f → f < t → σ 6 f = 2 → ∀ j, 0 ≤ j → j < σ 8 t → σ 11 (4 * t + j) = f → Q (-2) σ)
    (hfull : 0 < t → t < σ 1 0 → 0 ≤ f → f < t → σ 6 f = 2 → (∀ j, 0 ≤ j → j < σ 8 t → ¬ σ 11 (4 * t + j) = f) → 4 ≤ σ 8 t → Q (-3) σ)
    (hok : 0 < t → t < σ 1 0 → 0 ≤ f → f < t → σ 6 f = 2 → (∀ j, 0 ≤ j → j < σ 8 t → ¬ σ 11 (4 * t + j) = f) → σ 8 t < 4 → ∀ σ', zX σ σ' → IX σ' → σ' 5 = σ 5 → bX σ' = oFace (bX σ) t f → Q (σ 8 t + 1) σ') : zM 58 zF [.inr 0, .inl t, .inl f] σ Q := by
  have hn := hI.n
  have ht' := ht
  have hf' := hf
  simp only [zr] at ht hf
  refine ze_58 100 ?_
  simp only [zs_58_0, zs_58_1, zs_58_4, zs_58_5, zs_58_8, zs_58_9, zs_58_12, zs_58_15, zs_58_16, zs_58_19, zs_58_20, zs_58_23, zs_58_26, zs_58_27, zs_58_28, zs_58_31, zs_58_32, zs_58_33, zs_58_34, zs_58_37, zs_58_38, zs_58_39, zs_58_42, zs_58_45, zs_58_47, zs_58_48, zs_58_49, zs_58_52, zs_58_55, zs_58_56, zs_58_57, zs_58_58, zs_58_61, zs_58_63, zs_58_64, zs_58_65, zs_58_68, zs_58_71, zs_58_72, zs_58_75, zs_58_76, zs_58_77, zs_58_80, za_8, zg_0_0, zg_0_2, zg_1_3, zrc_13, zrc_36, zrc_37, zrc_42, zrc_44, zli_0, zli_s, zlr_0, zlr_s, zls_0, zls_s, z1i_e, z2i_e, z1r_e, zir_e, ziir_e, z1v_e, z2v_e, zone_e, znil_e, zsp_0, zsp_s, zlz_0, zlz_1, zlz_2, zlz_3, zlz_4, zswp_0, zswp_s, true_and, and_true, implies_true, true_or, or_true, Int.reduceEq, Int.reduceLT, Int.reduceLE, Int.reduceNeg, not_true_eq_false, not_false_eq_true, false_implies, true_implies, zr_e, zwr_o, zwr_s, Nat.reduceEqDiff]
  refine ⟨ht, fun a => hbad (by omega), fun a => ?_⟩
  refine x_exists hI.1 ht' (fun b1 b2 => ?_) (fun b => ?_)
  · simp only [zs_58_0, zs_58_1, zs_58_4, zs_58_5, zs_58_8, zs_58_9, zs_58_12, zs_58_15, zs_58_16, zs_58_19, zs_58_20, zs_58_23, zs_58_26, zs_58_27, zs_58_28, zs_58_31, zs_58_32, zs_58_33, zs_58_34, zs_58_37, zs_58_38, zs_58_39, zs_58_42, zs_58_45, zs_58_47, zs_58_48, zs_58_49, zs_58_52, zs_58_55, zs_58_56, zs_58_57, zs_58_58, zs_58_61, zs_58_63, zs_58_64, zs_58_65, zs_58_68, zs_58_71, zs_58_72, zs_58_75, zs_58_76, zs_58_77, zs_58_80, za_8, zg_0_0, zg_0_2, zg_1_3, zrc_13, zrc_36, zrc_37, zrc_42, zrc_44, zli_0, zli_s, zlr_0, zlr_s, zls_0, zls_s, z1i_e, z2i_e, z1r_e, zir_e, ziir_e, z1v_e, z2v_e, zone_e, znil_e, zsp_0, zsp_s, zlz_0, zlz_1, zlz_2, zlz_3, zlz_4, zswp_0, zswp_s, true_and, and_true, implies_true, true_or, or_true, Int.reduceEq, Int.reduceLT, Int.reduceLE, Int.reduceNeg, not_true_eq_false, not_false_eq_true, false_implies, true_implies, zr_e, zwr_o, zwr_s, Nat.reduceEqDiff]
    refine x_isFace hI.1 hf' (fun d1 d2 d3 => ?_) (fun d => ?_)
    · simp only [zs_58_0, zs_58_1, zs_58_4, zs_58_5, zs_58_8, zs_58_9, zs_58_12, zs_58_15, zs_58_16, zs_58_19, zs_58_20, zs_58_23, zs_58_26, zs_58_27, zs_58_28, zs_58_31, zs_58_32, zs_58_33, zs_58_34, zs_58_37, zs_58_38, zs_58_39, zs_58_42, zs_58_45, zs_58_47, zs_58_48, zs_58_49, zs_58_52, zs_58_55, zs_58_56, zs_58_57, zs_58_58, zs_58_61, zs_58_63, zs_58_64, zs_58_65, zs_58_68, zs_58_71, zs_58_72, zs_58_75, zs_58_76, zs_58_77, zs_58_80, za_8, zg_0_0, zg_0_2, zg_1_3, zrc_13, zrc_36, zrc_37, zrc_42, zrc_44, zli_0, zli_s, zlr_0, zlr_s, zls_0, zls_s, z1i_e, z2i_e, z1r_e, zir_e, ziir_e, z1v_e, z2v_e, zone_e, znil_e, zsp_0, zsp_s, zlz_0, zlz_1, zlz_2, zlz_3, zlz_4, zswp_0, zswp_s, true_and, and_true, implies_true, true_or, or_true, Int.reduceEq, Int.reduceLT, Int.reduceLE, Int.reduceNeg, not_true_eq_false, not_false_eq_true, false_implies, true_implies, zr_e, zwr_o, zwr_s, Nat.reduceEqDiff]
      refine ⟨hf, ht, fun e => ?_, fun e => hbad (by omega)⟩
      have hfc : 0 ≤ σ 8 t ∧ σ 8 t ≤ 4 := hI.1.fc t b1 (by omega)
      refine x_isFaceOf hI.1 b1 (by omega) hf' (fun j j0 j1 j2 => ?_) (fun g => ?_)
      · simp only [zs_58_0, zs_58_1, zs_58_4, zs_58_5, zs_58_8, zs_58_9, zs_58_12, zs_58_15, zs_58_16, zs_58_19, zs_58_20, zs_58_23, zs_58_26, zs_58_27, zs_58_28, zs_58_31, zs_58_32, zs_58_33, zs_58_34, zs_58_37, zs_58_38, zs_58_39, zs_58_42, zs_58_45, zs_58_47, zs_58_48, zs_58_49, zs_58_52, zs_58_55, zs_58_56, zs_58_57, zs_58_58, zs_58_61, zs_58_63, zs_58_64, zs_58_65, zs_58_68, zs_58_71, zs_58_72, zs_58_75, zs_58_76, zs_58_77, zs_58_80, za_8, zg_0_0, zg_0_2, zg_1_3, zrc_13, zrc_36, zrc_37, zrc_42, zrc_44, zli_0, zli_s, zlr_0, zlr_s, zls_0, zls_s, z1i_e, z2i_e, z1r_e, zir_e, ziir_e, z1v_e, z2v_e, zone_e, znil_e, zsp_0, zsp_s, zlz_0, zlz_1, zlz_2, zlz_3, zlz_4, zswp_0, zswp_s, true_and, and_true, implies_true, true_or, or_true, Int.reduceEq, Int.reduceLT, Int.reduceLE, Int.reduceNeg, not_true_eq_false, not_false_eq_true, false_implies, true_implies, zr_e, zwr_o, zwr_s, Nat.reduceEqDiff]
        exact hno (by omega) b2 d1 e d3 j j0 j1 j2
      · simp only [zs_58_0, zs_58_1, zs_58_4, zs_58_5, zs_58_8, zs_58_9, zs_58_12, zs_58_15, zs_58_16, zs_58_19, zs_58_20, zs_58_23, zs_58_26, zs_58_27, zs_58_28, zs_58_31, zs_58_32, zs_58_33, zs_58_34, zs_58_37, zs_58_38, zs_58_39, zs_58_42, zs_58_45, zs_58_47, zs_58_48, zs_58_49, zs_58_52, zs_58_55, zs_58_56, zs_58_57, zs_58_58, zs_58_61, zs_58_63, zs_58_64, zs_58_65, zs_58_68, zs_58_71, zs_58_72, zs_58_75, zs_58_76, zs_58_77, zs_58_80, za_8, zg_0_0, zg_0_2, zg_1_3, zrc_13, zrc_36, zrc_37, zrc_42, zrc_44, zli_0, zli_s, zlr_0, zlr_s, zls_0, zls_s, z1i_e, z2i_e, z1r_e, zir_e, ziir_e, z1v_e, z2v_e, zone_e, znil_e, zsp_0, zsp_s, zlz_0, zlz_1, zlz_2, zlz_3, zlz_4, zswp_0, zswp_s, true_and, and_true, implies_true, true_or, or_true, Int.reduceEq, Int.reduceLT, Int.reduceLE, Int.reduceNeg, not_true_eq_false, not_false_eq_true, false_implies, true_implies, zr_e, zwr_o, zwr_s, Nat.reduceEqDiff]
        refine ⟨b1, by omega, by omega, fun z => ?_, fun z => hfull (by omega) b2 d1 e d3 g z⟩
        refine x_forgetAll ?_
        intro σ1 hs1 h25
        have eB : bX σ1 = bX σ := bX_sm hs1 (by decide)
        have e1 : σ1 1 = σ 1 := hs1 1 (by decide)
        refine x_appendFace (by rw [eB]; exact hI.1) (fun u u0 u1 => ?_) (by omega) (by rw [e1]; omega) d1 e (by rw [hs1 6 (by decide)]; exact d3) (by rw [hs1 8 (by decide)]; exact z) ?_
        · rw [e1] at u1
          exact AXt_base (by rw [eB]) (by rw [eB]) (by rw [eB]) (by rw [eB]) (hs1 12 (by decide)) (hs1 13 (by decide)) (hI.2.1 u u0 u1)
        · intro σ2 hs2 e2 hA2
          rw [eB] at e2
          rw [hs1 8 (by decide)]
          refine hok (by omega) b2 d1 e d3 g z σ2 ?_ ⟨?_, hA2, ?_, ?_⟩ ?_ e2
          · intro c hc
            rw [zX_sm hs2 (by decide) c hc, zX_sm hs1 (by decide) c hc]
          · rw [e2]; exact Bd_face hI.1 (by omega) b2 d1 e d3 z
          · exact FX_stale (by rw [hs2 25 (by decide)]; exact h25) (by rw [hs2 26 (by decide), hs1 26 (by decide)]) hI.2.2.1
          · rw [hs2 5 (by decide), hs1 5 (by decide)]; exact hI.2.2.2
          · rw [hs2 5 (by decide), hs1 5 (by decide)]
    · simp only [zs_58_0, zs_58_1, zs_58_4, zs_58_5, zs_58_8, zs_58_9, zs_58_12, zs_58_15, zs_58_16, zs_58_19, zs_58_20, zs_58_23, zs_58_26, zs_58_27, zs_58_28, zs_58_31, zs_58_32, zs_58_33, zs_58_34, zs_58_37, zs_58_38, zs_58_39, zs_58_42, zs_58_45, zs_58_47, zs_58_48, zs_58_49, zs_58_52, zs_58_55, zs_58_56, zs_58_57, zs_58_58, zs_58_61, zs_58_63, zs_58_64, zs_58_65, zs_58_68, zs_58_71, zs_58_72, zs_58_75, zs_58_76, zs_58_77, zs_58_80, za_8, zg_0_0, zg_0_2, zg_1_3, zrc_13, zrc_36, zrc_37, zrc_42, zrc_44, zli_0, zli_s, zlr_0, zlr_s, zls_0, zls_s, z1i_e, z2i_e, z1r_e, zir_e, ziir_e, z1v_e, z2v_e, zone_e, znil_e, zsp_0, zsp_s, zlz_0, zlz_1, zlz_2, zlz_3, zlz_4, zswp_0, zswp_s, true_and, and_true, implies_true, true_or, or_true, Int.reduceEq, Int.reduceLT, Int.reduceLE, Int.reduceNeg, not_true_eq_false, not_false_eq_true, false_implies, true_implies, zr_e, zwr_o, zwr_s, Nat.reduceEqDiff]
      exact hbad (fun z => d z.2.2.1 (by omega) z.2.2.2.2)
  · simp only [zs_58_0, zs_58_1, zs_58_4, zs_58_5, zs_58_8, zs_58_9, zs_58_12, zs_58_15, zs_58_16, zs_58_19, zs_58_20, zs_58_23, zs_58_26, zs_58_27, zs_58_28, zs_58_31, zs_58_32, zs_58_33, zs_58_34, zs_58_37, zs_58_38, zs_58_39, zs_58_42, zs_58_45, zs_58_47, zs_58_48, zs_58_49, zs_58_52, zs_58_55, zs_58_56, zs_58_57, zs_58_58, zs_58_61, zs_58_63, zs_58_64, zs_58_65, zs_58_68, zs_58_71, zs_58_72, zs_58_75, zs_58_76, zs_58_77, zs_58_80, za_8, zg_0_0, zg_0_2, zg_1_3, zrc_13, zrc_36, zrc_37, zrc_42, zrc_44, zli_0, zli_s, zlr_0, zlr_s, zls_0, zls_s, z1i_e, z2i_e, z1r_e, zir_e, ziir_e, z1v_e, z2v_e, zone_e, znil_e, zsp_0, zsp_s, zlz_0, zlz_1, zlz_2, zlz_3, zlz_4, zswp_0, zswp_s, true_and, and_true, implies_true, true_or, or_true, Int.reduceEq, Int.reduceLT, Int.reduceLE, Int.reduceNeg, not_true_eq_false, not_false_eq_true, false_implies, true_implies, zr_e, zwr_o, zwr_s, Nat.reduceEqDiff]
    exact hbad (by omega)
theorem bX_seal {σ : zS} {f t : Int} (h : ¬ t = -4) : bX (zwr (zwr σ 10 f 1) 9 f (zor (σ 9 f) (zshl 1 t))) = oSeal (bX σ) f t := by
  funext c i
  match c with
  | 0 => simp [bX, oSeal, zwr]
  | 1 => simp [bX, oSeal, zwr]
  | 2 => simp [bX, oSeal, zwr]
  | 3 => simp [bX, oSeal, zwr]
  | 4 => simp [bX, oSeal, zwr]
  | 5 => simp [bX, oSeal, zwr, h]
  | 6 => simp [bX, oSeal, zwr]
  | 7 => simp [bX, oSeal, zwr]
  | 8 => simp [bX, oSeal, zwr]
  | 9 => simp [bX, oSeal, zwr]
  | 10 => simp [bX, oSeal, zwr]
  | 11 => simp [bX, oSeal, zwr]
  | 12 => simp [bX, oSeal, zwr]
  | 13 => simp [bX, oSeal, zwr]
  | 14 => simp [bX, oSeal, zwr]
  | 15 => simp [bX, oSeal, zwr]
  | 16 => simp [bX, oSeal, zwr]
  | 17 => simp [bX, oSeal, zwr]
  | n + 18 => rfl
theorem bX_seal0 {σ : zS} {f : Int} : bX (zwr σ 10 f 1) = oSeal (bX σ) f (-4) := by
  funext c i
  match c with
  | 0 => simp [bX, oSeal, zwr]
  | 1 => simp [bX, oSeal, zwr]
  | 2 => simp [bX, oSeal, zwr]
  | 3 => simp [bX, oSeal, zwr]
  | 4 => simp [bX, oSeal, zwr]
  | 5 =>
    simp only [bX, oSeal, if_true]
    rw [zwr_o (by decide)]
    by_cases e : i = f
    · rw [if_pos e, e]
    · rw [if_neg e]
  | 6 => simp [bX, oSeal, zwr]
  | 7 => simp [bX, oSeal, zwr]
  | 8 => simp [bX, oSeal, zwr]
  | 9 => simp [bX, oSeal, zwr]
  | 10 => simp [bX, oSeal, zwr]
  | 11 => simp [bX, oSeal, zwr]
  | 12 => simp [bX, oSeal, zwr]
  | 13 => simp [bX, oSeal, zwr]
  | 14 => simp [bX, oSeal, zwr]
  | 15 => simp [bX, oSeal, zwr]
  | 16 => simp [bX, oSeal, zwr]
  | 17 => simp [bX, oSeal, zwr]
  | n + 18 => rfl
set_option maxRecDepth 100000 in
theorem xp_seal {f t : Int} (hI : IX σ) (hf : zr f) (ht : zr t) (hbad : ¬ (0 ≤ f ∧ f < σ 1 0 ∧ σ 6 f = 2 ∧ (t = -4 ∨ (0 ≤ t ∧ t < σ 1 0 ∧ f < t))) → Q (-1) σ)
    (hok : 0 ≤ f → f < σ 1 0 → σ 6 f = 2 → (t = -4 ∨ (0 ≤ t ∧ t < σ 1 0 ∧ f < t)) → ∀ σ', zX σ σ' → IX σ' → σ' 5 = σ 5 → bX σ' = oSeal (bX σ) f t → Q 1 σ') : zM 59 zF [.inr 0, .inl f, .inl t] σ Q := by
  have hn := hI.n
  have hf' := hf
  have ht' := ht
  simp only [zr] at ht hf
  have fin : ∀ σ', zsm [9, 10] σ σ' → bX σ' = oSeal (bX σ) f t → IX σ' := by
    intro σ' hs e
    exact IX_keep hI (by rw [e]; exact Bd_seal hI.1) (by rw [e]; rfl) (by rw [e]; rfl) (by rw [e]; rfl) (by rw [e]; rfl) (by rw [e]; rfl) (by rw [e]; rfl) (by rw [e]; rfl) (by rw [e]; rfl) (by rw [hs 1 (by decide)]) (hs 12 (by decide)) (hs 13 (by decide)) (hs 25 (by decide)) (hs 26 (by decide)) (hs 27 (by decide)) (hs 5 (by decide))
  refine ze_59 100 ?_
  simp only [zs_59_0, zs_59_1, zs_59_4, zs_59_5, zs_59_8, zs_59_11, zs_59_12, zs_59_13, zs_59_14, zs_59_16, zs_59_19, zs_59_20, zs_59_23, zs_59_24, zs_59_27, zs_59_30, zs_59_31, zs_59_32, zs_59_35, zs_59_36, zs_59_37, zs_59_38, zs_59_41, zs_59_44, zs_59_45, zs_59_46, zs_59_47, zs_59_48, zs_59_50, zs_59_53, zs_59_54, zs_59_57, zs_59_60, zs_59_61, zs_59_62, zs_59_63, zs_59_64, zs_59_65, zs_59_66, zs_59_67, zs_59_68, zs_59_69, za_10, za_9, zg_0_0, zg_1_4, zg_1_5, zrc_36, zrc_37, zli_0, zli_s, zlr_0, zlr_s, zls_0, zls_s, z1i_e, z2i_e, z1r_e, zir_e, ziir_e, z1v_e, z2v_e, zone_e, znil_e, zsp_0, zsp_s, zlz_0, zlz_1, zlz_2, zlz_3, zlz_4, zswp_0, zswp_s, true_and, and_true, implies_true, true_or, or_true, Int.reduceEq, Int.reduceLT, Int.reduceLE, Int.reduceNeg, not_true_eq_false, not_false_eq_true, false_implies, true_implies, zr_e, zwr_o, zwr_s, Nat.reduceEqDiff]
  refine x_isFace hI.1 hf' (fun b1 b2 b3 => ?_) (fun b => ?_)
  · simp only [zs_59_0, zs_59_1, zs_59_4, zs_59_5, zs_59_8, zs_59_11, zs_59_12, zs_59_13, zs_59_14, zs_59_16, zs_59_19, zs_59_20, zs_59_23, zs_59_24, zs_59_27, zs_59_30, zs_59_31, zs_59_32, zs_59_35, zs_59_36, zs_59_37, zs_59_38, zs_59_41, zs_59_44, zs_59_45, zs_59_46, zs_59_47, zs_59_48, zs_59_50, zs_59_53, zs_59_54, zs_59_57, zs_59_60, zs_59_61, zs_59_62, zs_59_63, zs_59_64, zs_59_65, zs_59_66, zs_59_67, zs_59_68, zs_59_69, za_10, za_9, zg_0_0, zg_1_4, zg_1_5, zrc_36, zrc_37, zli_0, zli_s, zlr_0, zlr_s, zls_0, zls_s, z1i_e, z2i_e, z1r_e, zir_e, ziir_e, z1v_e, z2v_e, zone_e, znil_e, zsp_0, zsp_s, zlz_0, zlz_1, zlz_2, zlz_3, zlz_4, zswp_0, zswp_s, true_and, and_true, implies_true, true_or, or_true, Int.reduceEq, Int.reduceLT, Int.reduceLE, Int.reduceNeg, not_true_eq_false, not_false_eq_true, false_implies, true_implies, zr_e, zwr_o, zwr_s, Nat.reduceEqDiff]
    refine ⟨ht, fun a => ?_, fun a => ?_⟩
    · have hs : zsm [9, 10] σ (zwr σ 10 f 1) := zsm_wr zsm_rf (by decide)
      have e : bX (zwr σ 10 f 1) = oSeal (bX σ) f t := by rw [a]; exact bX_seal0
      refine ⟨b1, by omega, ht, fun d => ?_, fun d => ?_⟩
      · exact hok b1 b2 b3 (Or.inl a) _ (zX_sm hs (by decide)) (fin _ hs e) (hs 5 (by decide)) e
      · exact absurd a d
    · refine x_exists hI.1 ht' (fun c1 c2 => ?_) (fun c => ?_)
      · simp only [zs_59_0, zs_59_1, zs_59_4, zs_59_5, zs_59_8, zs_59_11, zs_59_12, zs_59_13, zs_59_14, zs_59_16, zs_59_19, zs_59_20, zs_59_23, zs_59_24, zs_59_27, zs_59_30, zs_59_31, zs_59_32, zs_59_35, zs_59_36, zs_59_37, zs_59_38, zs_59_41, zs_59_44, zs_59_45, zs_59_46, zs_59_47, zs_59_48, zs_59_50, zs_59_53, zs_59_54, zs_59_57, zs_59_60, zs_59_61, zs_59_62, zs_59_63, zs_59_64, zs_59_65, zs_59_66, zs_59_67, zs_59_68, zs_59_69, za_10, za_9, zg_0_0, zg_1_4, zg_1_5, zrc_36, zrc_37, zli_0, zli_s, zlr_0, zlr_s, zls_0, zls_s, z1i_e, z2i_e, z1r_e, zir_e, ziir_e, z1v_e, z2v_e, zone_e, znil_e, zsp_0, zsp_s, zlz_0, zlz_1, zlz_2, zlz_3, zlz_4, zswp_0, zswp_s, true_and, and_true, implies_true, true_or, or_true, Int.reduceEq, Int.reduceLT, Int.reduceLE, Int.reduceNeg, not_true_eq_false, not_false_eq_true, false_implies, true_implies, zr_e, zwr_o, zwr_s, Nat.reduceEqDiff]
        refine ⟨ht, hf, fun d => ?_, fun d => hbad (by omega)⟩
        have hs : zsm [9, 10] σ (zwr (zwr σ 10 f 1) 9 f (zor (σ 9 f) (zshl 1 t))) := zsm_wr (zsm_wr zsm_rf (by decide)) (by decide)
        have e := bX_seal (σ := σ) (f := f) a
        refine ⟨b1, by omega, ht, fun g => absurd g a, fun g => ⟨by omega, by omega, by omega, by omega, ?_⟩⟩
        exact hok b1 b2 b3 (Or.inr ⟨c1, c2, d⟩) _ (zX_sm hs (by decide)) (fin _ hs e) (hs 5 (by decide)) e
      · simp only [zs_59_0, zs_59_1, zs_59_4, zs_59_5, zs_59_8, zs_59_11, zs_59_12, zs_59_13, zs_59_14, zs_59_16, zs_59_19, zs_59_20, zs_59_23, zs_59_24, zs_59_27, zs_59_30, zs_59_31, zs_59_32, zs_59_35, zs_59_36, zs_59_37, zs_59_38, zs_59_41, zs_59_44, zs_59_45, zs_59_46, zs_59_47, zs_59_48, zs_59_50, zs_59_53, zs_59_54, zs_59_57, zs_59_60, zs_59_61, zs_59_62, zs_59_63, zs_59_64, zs_59_65, zs_59_66, zs_59_67, zs_59_68, zs_59_69, za_10, za_9, zg_0_0, zg_1_4, zg_1_5, zrc_36, zrc_37, zli_0, zli_s, zlr_0, zlr_s, zls_0, zls_s, z1i_e, z2i_e, z1r_e, zir_e, ziir_e, z1v_e, z2v_e, zone_e, znil_e, zsp_0, zsp_s, zlz_0, zlz_1, zlz_2, zlz_3, zlz_4, zswp_0, zswp_s, true_and, and_true, implies_true, true_or, or_true, Int.reduceEq, Int.reduceLT, Int.reduceLE, Int.reduceNeg, not_true_eq_false, not_false_eq_true, false_implies, true_implies, zr_e, zwr_o, zwr_s, Nat.reduceEqDiff]
        exact hbad (by omega)
  · simp only [zs_59_0, zs_59_1, zs_59_4, zs_59_5, zs_59_8, zs_59_11, zs_59_12, zs_59_13, zs_59_14, zs_59_16, zs_59_19, zs_59_20, zs_59_23, zs_59_24, zs_59_27, zs_59_30, zs_59_31, zs_59_32, zs_59_35, zs_59_36, zs_59_37, zs_59_38, zs_59_41, zs_59_44, zs_59_45, zs_59_46, zs_59_47, zs_59_48, zs_59_50, zs_59_53, zs_59_54, zs_59_57, zs_59_60, zs_59_61, zs_59_62, zs_59_63, zs_59_64, zs_59_65, zs_59_66, zs_59_67, zs_59_68, zs_59_69, za_10, za_9, zg_0_0, zg_1_4, zg_1_5, zrc_36, zrc_37, zli_0, zli_s, zlr_0, zlr_s, zls_0, zls_s, z1i_e, z2i_e, z1r_e, zir_e, ziir_e, z1v_e, z2v_e, zone_e, znil_e, zsp_0, zsp_s, zlz_0, zlz_1, zlz_2, zlz_3, zlz_4, zswp_0, zswp_s, true_and, and_true, implies_true, true_or, or_true, Int.reduceEq, Int.reduceLT, Int.reduceLE, Int.reduceNeg, not_true_eq_false, not_false_eq_true, false_implies, true_implies, zr_e, zwr_o, zwr_s, Nat.reduceEqDiff]
    exact hbad (fun z => b z.1 z.2.1 z.2.2.1)
end XP
