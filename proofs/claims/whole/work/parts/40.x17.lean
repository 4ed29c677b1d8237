section X18
variable {σ : zS} {Q : Int → zS → Prop}
set_option maxRecDepth 100000 in
theorem x_perform_loop {t n : Int} (hB : Bd (bX σ)) (hR : AllR σ) (h0 : 0 ≤ t) (h1 : t < σ 1 0) (R : Int × Int × Int × Int)
    (h : ∀ σ', zsm [5] σ σ' → σ' 5 3 = 1 → σ' 5 4 = R.2.2.1 → σ' 5 5 = R.2.1 → σ' 5 6 = (if 0 ≤ R.2.2.2 then -8 else R.2.2.2) → Q R.1 σ') :
    ∀ (k : Nat) (st s nx la : Int) (σ2 : zS), 0 ≤ st → st ≤ 30 → (30 - st).toNat = k → zsm [5] σ σ2 → σ2 5 5 = la → nxOK σ nx → gPf (bX σ) (rX σ) t k nx s la st = R →
      zV 0 zF Q 22 [some (.inr 5), some (.inl t), some (.inl n), some (.inl s), some (.inl st), some (.inl nx)] [] σ2 := by
  have hnn : 1 ≤ σ 1 0 ∧ σ 1 0 ≤ 16 ∧ 3 ≤ σ 2 0 ∧ σ 2 0 ≤ 60 := hB.n
  have fin : ∀ (σ2 : zS) (s la st nx v : Int), zsm [5] σ σ2 → σ2 5 5 = la → R = (s, la, st, nx) → v = (if 0 ≤ nx then -8 else nx) → Q s (zwr (zwr (zwr σ2 5 4 st) 5 6 v) 5 3 1) := by
    intro σ2 s la st nx v hs e5 eR ev
    subst eR
    refine h _ (zsm_wr (zsm_wr (zsm_wr hs (by decide)) (by decide)) (by decide)) ?_ ?_ ?_ ?_
    · simp [zwr]
    · simp [zwr]
    · simp [zwr, e5]
    · simp [zwr, ev]
  intro k
  induction k with
  | zero =>
    intro st s nx la σ2 s0 s1 sk hs e5 hnx hR2
    unfold nxOK at hnx
    simp only [gPf] at hR2
    refine zv_0 200 ?_
    simp only [zs_0_0, zs_0_1, zs_0_2, zs_0_3, zs_0_5, zs_0_6, zs_0_9, zs_0_10, zs_0_11, zs_0_14, zs_0_16, zs_0_17, zs_0_19, zs_0_22, zs_0_24, zs_0_27, zs_0_29, zs_0_31, zs_0_34, zs_0_37, zs_0_38, zs_0_39, zs_0_42, zs_0_45, zs_0_47, zs_0_48, zs_0_49, zs_0_50, zs_0_51, zs_0_53, zs_0_56, zs_0_57, zs_0_59, zs_0_60, zs_0_63, zs_0_65, zs_0_68, zs_0_69, zs_0_71, zs_0_74, zs_0_75, zs_0_77, zs_0_80, zs_0_82, zs_0_85, zs_0_87, zs_0_90, zs_0_91, zs_0_92, zs_0_95, zs_0_96, zs_0_22h, za_19, zg_2_3, zg_5_1, zg_5_2, zp_5_3, zp_5_4, zp_5_5, zp_5_6, zrc_1, zrc_25, zli_0, zli_s, zlr_0, zlr_s, zls_0, zls_s, z1i_e, z2i_e, z1r_e, zir_e, ziir_e, z1v_e, z2v_e, zone_e, znil_e, zsp_0, zsp_s, zlz_0, zlz_1, zlz_2, zlz_3, zlz_4, zswp_0, zswp_s, true_and, and_true, implies_true, true_or, or_true, Int.reduceEq, Int.reduceLT, Int.reduceLE, Int.reduceNeg, not_true_eq_false, not_false_eq_true, false_implies, true_implies, zr_e, zwr_o, zwr_s, Nat.reduceEqDiff]
    refine ⟨by omega, fun a => ?_, fun a => ⟨by omega, fun b => ?_, fun b => by omega⟩⟩
    · exact ⟨by omega, fun c => fin σ2 s la st nx _ hs e5 hR2.symm (by rw [if_neg (by omega)]), fun c => by omega⟩
    · exact ⟨by omega, fun c => by omega, fun c => fin σ2 s la st nx _ hs e5 hR2.symm (by rw [if_pos c])⟩
  | succ k ih =>
    intro st s nx la σ2 s0 s1 sk hs e5 hnx hR2
    have hnx0 := hnx
    unfold nxOK at hnx
    simp only [gPf] at hR2
    have e19 : σ2 19 = σ 19 := hs 19 (by decide)
    have eB : bX σ2 = bX σ := bX_sm hs (by decide)
    have er : rX σ2 = rX σ := rX_sm hs (by decide) (by decide)
    refine zv_0 200 ?_
    simp only [zs_0_0, zs_0_1, zs_0_2, zs_0_3, zs_0_5, zs_0_6, zs_0_9, zs_0_10, zs_0_11, zs_0_14, zs_0_16, zs_0_17, zs_0_19, zs_0_22, zs_0_24, zs_0_27, zs_0_29, zs_0_31, zs_0_34, zs_0_37, zs_0_38, zs_0_39, zs_0_42, zs_0_45, zs_0_47, zs_0_48, zs_0_49, zs_0_50, zs_0_51, zs_0_53, zs_0_56, zs_0_57, zs_0_59, zs_0_60, zs_0_63, zs_0_65, zs_0_68, zs_0_69, zs_0_71, zs_0_74, zs_0_75, zs_0_77, zs_0_80, zs_0_82, zs_0_85, zs_0_87, zs_0_90, zs_0_91, zs_0_92, zs_0_95, zs_0_96, zs_0_22h, za_19, zg_2_3, zg_5_1, zg_5_2, zp_5_3, zp_5_4, zp_5_5, zp_5_6, zrc_1, zrc_25, zli_0, zli_s, zlr_0, zlr_s, zls_0, zls_s, z1i_e, z2i_e, z1r_e, zir_e, ziir_e, z1v_e, z2v_e, zone_e, znil_e, zsp_0, zsp_s, zlz_0, zlz_1, zlz_2, zlz_3, zlz_4, zswp_0, zswp_s, true_and, and_true, implies_true, true_or, or_true, Int.reduceEq, Int.reduceLT, Int.reduceLE, Int.reduceNeg, not_true_eq_false, not_false_eq_true, false_implies, true_implies, zr_e, zwr_o, zwr_s, Nat.reduceEqDiff]
    by_cases c : nx < 0
    · rw [if_pos c] at hR2
      exact ⟨by omega, fun a => ⟨by omega, fun d => fin σ2 s la st nx _ hs e5 hR2.symm (by rw [if_neg (by omega)]), fun d => by omega⟩, fun a => by omega⟩
    · rw [if_neg c] at hR2
      refine ⟨by omega, fun a => by omega, fun a => ⟨by omega, fun b => by omega, fun b => ⟨by omega, by omega, ?_⟩⟩⟩
      rw [e19]
      have hs2 : zsm [5] σ (zwr σ2 5 5 nx) := zsm_wr hs (by decide)
      have eB2 : bX (zwr σ2 5 5 nx) = bX σ := bX_sm hs2 (by decide)
      have er2 : rX (zwr σ2 5 5 nx) = rX σ := rX_sm hs2 (by decide) (by decide)
      refine x_following (by rw [eB2]; exact hB) (fun n' t' a0 a1 a2 a3 => rOK_sm hs2 (by decide) (by decide) (by decide) (hR n' t' a0 a1 a2 (by rw [hs2 1 (by decide)] at a3; exact a3))) h0 (by rw [hs2 1 (by decide)]; exact h1) a (by rw [hs2 2 (by decide)]; exact hnx.2) ?_
      rw [eB2, er2]
      refine ih (st + 1) _ _ nx _ (by omega) (by omega) (by omega) hs2 zwr_s (nx_ok hB hR h0 h1 a hnx.2) hR2
set_option maxRecDepth 100000 in
theorem x_perform {t n : Int} (hB : Bd (bX σ)) (hR : AllR σ) (h0 : 0 ≤ t) (h1 : t < σ 1 0) (h2 : 0 ≤ n) (h3 : n < 10)
    (h : ∀ σ', zsm [5] σ σ' → σ' 5 3 = 1 → σ' 5 4 = (gPf (bX σ) (rX σ) t 30 (gRX (bX σ) (rX σ n t) 0 (-4) 0) 0 (-4) 0).2.2.1 → σ' 5 5 = (gPf (bX σ) (rX σ) t 30 (gRX (bX σ) (rX σ n t) 0 (-4) 0) 0 (-4) 0).2.1 → σ' 5 6 = (if 0 ≤ (gPf (bX σ) (rX σ) t 30 (gRX (bX σ) (rX σ n t) 0 (-4) 0) 0 (-4) 0).2.2.2 then -8 else (gPf (bX σ) (rX σ) t 30 (gRX (bX σ) (rX σ n t) 0 (-4) 0) 0 (-4) 0).2.2.2) → Q (gPf (bX σ) (rX σ) t 30 (gRX (bX σ) (rX σ n t) 0 (-4) 0) 0 (-4) 0).1 σ') : zM 0 zF [.inr 5, .inl t, .inl n] σ Q := by
  have hnn : 1 ≤ σ 1 0 ∧ σ 1 0 ≤ 16 ∧ 3 ≤ σ 2 0 ∧ σ 2 0 ≤ 60 := hB.n
  have hr := hR n t h2 h3 h0 h1
  refine ze_0 200 ?_
  simp only [zs_0_0, zs_0_1, zs_0_2, zs_0_3, zs_0_5, zs_0_6, zs_0_9, zs_0_10, zs_0_11, zs_0_14, zs_0_16, zs_0_17, zs_0_19, zs_0_22, zs_0_24, zs_0_27, zs_0_29, zs_0_31, zs_0_34, zs_0_37, zs_0_38, zs_0_39, zs_0_42, zs_0_45, zs_0_47, zs_0_48, zs_0_49, zs_0_50, zs_0_51, zs_0_53, zs_0_56, zs_0_57, zs_0_59, zs_0_60, zs_0_63, zs_0_65, zs_0_68, zs_0_69, zs_0_71, zs_0_74, zs_0_75, zs_0_77, zs_0_80, zs_0_82, zs_0_85, zs_0_87, zs_0_90, zs_0_91, zs_0_92, zs_0_95, zs_0_96, za_19, zg_2_3, zg_5_1, zg_5_2, zp_5_3, zp_5_4, zp_5_5, zp_5_6, zrc_1, zrc_25, zli_0, zli_s, zlr_0, zlr_s, zls_0, zls_s, z1i_e, z2i_e, z1r_e, zir_e, ziir_e, z1v_e, z2v_e, zone_e, znil_e, zsp_0, zsp_s, zlz_0, zlz_1, zlz_2, zlz_3, zlz_4, zswp_0, zswp_s, true_and, and_true, implies_true, true_or, or_true, Int.reduceEq, Int.reduceLT, Int.reduceLE, Int.reduceNeg, not_true_eq_false, not_false_eq_true, false_implies, true_implies, zr_e, zwr_o, zwr_s, Nat.reduceEqDiff]
  refine x_runner hB h0 (by omega) h2 h3 hr ?_
  exact x_perform_loop hB hR h0 h1 _ h 30 0 0 _ (-4) _ (by omega) (by omega) (by omega) (zsm_wr zsm_rf (by decide)) zwr_s (run_ok hB hr) rfl
/-! InterfaceRules itself: what it keeps -/
def IX (σ : zS) : Prop := Bd (bX σ) ∧ (∀ u, 0 ≤ u → u < σ 1 0 → AXt σ u) ∧ FX σ ∧ (σ 5 3 = 0 ∨ σ 5 3 = 1) ∧ zr (σ 5 4) ∧ zr (σ 5 5) ∧ zr (σ 5 6)
theorem FX_stale {σ σ' : zS} (h25 : ∀ n, 0 ≤ n → n < 10 → σ' 25 n = 0) (h26 : σ' 26 = σ 26) (h : FX σ) : FX σ' := by
  refine ⟨fun n a b => Or.inl (h25 n a b), by rw [h26]; exact h.2.1, fun n a b c => ?_⟩
  have := h25 n a b
  omega
set_option maxRecDepth 100000 in
theorem x_isName {n : Int} (hn : zr n) (k1 : 0 ≤ n → n < 10 → Q 1 σ) (k0 : n < 0 ∨ 10 ≤ n → Q 0 σ) : zM 75 zF [.inl n] σ Q := by
  refine ze_75 100 ?_
  simp only [zr] at hn
  simp only [zs_75_0, zs_75_1, zs_75_4, zs_75_5, zs_75_7, zs_75_10, zs_75_11, zs_75_14, zs_75_15, zli_0, zli_s, zlr_0, zlr_s, zls_0, zls_s, z1i_e, z2i_e, z1r_e, zir_e, ziir_e, z1v_e, z2v_e, zone_e, znil_e, zsp_0, zsp_s, zlz_0, zlz_1, zlz_2, zlz_3, zlz_4, zswp_0, zswp_s, true_and, and_true, implies_true, true_or, or_true, Int.reduceEq, Int.reduceLT, Int.reduceLE, Int.reduceNeg, not_true_eq_false, not_false_eq_true, false_implies, true_implies, zr_e, zwr_o, zwr_s, Nat.reduceEqDiff]
  repeat' first | omega | (apply k1 <;> omega) | (apply k0; omega) | apply And.intro | intro _
set_option maxRecDepth 100000 in
theorem x_isConst {n : Int} (hn : zr n) (k1 : 0 ≤ n → n < 4 → Q 1 σ) (k0 : n < 0 ∨ 4 ≤ n → Q 0 σ) : zM 76 zF [.inl n] σ Q := by
  refine ze_76 100 ?_
  simp only [zr] at hn
  simp only [zs_76_0, zs_76_1, zs_76_4, zs_76_5, zs_76_6, zs_76_9, zs_76_10, zs_76_13, zs_76_14, zli_0, zli_s, zlr_0, zlr_s, zls_0, zls_s, z1i_e, z2i_e, z1r_e, zir_e, ziir_e, z1v_e, z2v_e, zone_e, znil_e, zsp_0, zsp_s, zlz_0, zlz_1, zlz_2, zlz_3, zlz_4, zswp_0, zswp_s, true_and, and_true, implies_true, true_or, or_true, Int.reduceEq, Int.reduceLT, Int.reduceLE, Int.reduceNeg, not_true_eq_false, not_false_eq_true, false_implies, true_implies, zr_e, zwr_o, zwr_s, Nat.reduceEqDiff]
  repeat' first | omega | (apply k1 <;> omega) | (apply k0; omega) | apply And.intro | intro _
end X18
