/-- what settling a row leaves as it was -/
def rFr (σ σ' : zS) (n t : Int) : Prop := zsm [3, 26, 27, 28] σ σ' ∧ (∀ j, ¬ j = n * 16 + t → σ' 26 j = σ 26 j) ∧ (∀ j, j < (n * 16 + t) * 16 ∨ (n * 16 + t) * 16 + 16 ≤ j → σ' 27 j = σ 27 j)
theorem any_gOr {σ : zS} {h : Int} (h0 : 0 ≤ σ 3 6) : zbt (gOr (fun i => σ 12 (σ 17 (σ 28 i))) (σ 3 6).toNat) h = (gX σ).any (fun g => zbt (σ 12 (σ 17 g)) h) := by
  have e : zbt (gOr (fun i => σ 12 (σ 17 (σ 28 i))) (σ 3 6).toNat) h = true ↔ (gX σ).any (fun g => zbt (σ 12 (σ 17 g)) h) = true := by
    rw [gOr_bit, List.any_eq_true]
    constructor
    · rintro ⟨i, i0, i1, hb⟩
      exact ⟨σ 28 i, zl_mem.mpr ⟨i, i0, by omega, rfl⟩, hb⟩
    · rintro ⟨g, hg, hb⟩
      obtain ⟨i, i0, i1, rfl⟩ := zl_mem.mp hg
      exact ⟨i, i0, by omega, hb⟩
  cases h1 : zbt (gOr (fun i => σ 12 (σ 17 (σ 28 i))) (σ 3 6).toNat) h with
  | true => exact (e.mp h1).symm
  | false =>
    cases h2 : (gX σ).any (fun g => zbt (σ 12 (σ 17 g)) h) with
    | true => rw [e.mpr h2] at h1; cases h1
    | false => rfl
theorem rX_push {σ : zS} {n t m : Int} (h : 0 ≤ σ 26 (n * 16 + t)) : rX (zwr (zwr σ 27 ((n * 16 + t) * 16 + σ 26 (n * 16 + t)) m) 26 (n * 16 + t) (σ 26 (n * 16 + t) + 1)) n t = rX σ n t ++ [m] := by
  simp only [rX]
  rw [zwr_s, zwr_o (by decide), zl_s h, zwr_s]
  congr 1
  exact zl_congr (fun j j0 j1 => by simp only [zwr, true_and]; rw [if_neg (by omega)])
section X7
variable {σ : zS} {Q : Int → zS → Prop}
set_option maxRecDepth 100000 in
theorem x_settleR_loop {σ1 : zS} {t n cb ov : Int} {l3 : Option zW} (hB : Bd (bX σ1)) (h0 : 0 ≤ t) (h1 : t < 16) (h2 : 0 ≤ n) (h3 : n < 10) (hg0 : 0 ≤ σ1 3 6) (hg1 : σ1 3 6 ≤ 15) (hv : ∀ m, m ∈ gX σ1 → 0 ≤ m ∧ m < 60)
    (hcb : (cb = 1 ∧ (gX σ1).any (gCb (bX σ1)) = true) ∨ (cb = 0 ∧ (gX σ1).any (gCb (bX σ1)) = false)) (hov : ∀ h, zbt ov h = (gX σ1).any (fun g => zbt (σ1 12 (σ1 17 g)) h))
    (hK : ∀ σ', rFr σ1 σ' n t → 0 ≤ σ' 26 (n * 16 + t) → σ' 26 (n * 16 + t) ≤ 16 → rX σ' n t = (gX σ1).filter (fun m => !gLs (bX σ1) (σ1 12) (gX σ1) m) → Q 0 σ') :
    ∀ (c : Nat) (i : Int) (σ2 : zS) (l7 l8 : Option zW), 0 ≤ i → i ≤ σ1 3 6 → (σ1 3 6 - i).toNat = c → rFr σ1 σ2 n t → σ2 3 = σ1 3 → σ2 28 = σ1 28 → 0 ≤ σ2 26 (n * 16 + t) → σ2 26 (n * 16 + t) ≤ i → rX σ2 n t = (zl (σ1 28) i).filter (fun m => !gLs (bX σ1) (σ1 12) (gX σ1) m) →
      zV 19 zF Q 57 [some (.inr 3), some (.inl t), some (.inl n), l3, some (.inl cb), some (.inl ov), some (.inl i), l7, l8] [] σ2 := by
  intro c
  induction c with
  | zero =>
    intro i σ2 l7 l8 hi0 hi1 hic hf e3 e28 hc0 hc1 hr
    refine zv_19 200 ?_
    simp only [zs_19_0, zs_19_1, zs_19_4, zs_19_5, zs_19_7, zs_19_8, zs_19_9, zs_19_10, zs_19_11, zs_19_12, zs_19_13, zs_19_16, zs_19_17, zs_19_18, zs_19_21, zs_19_22, zs_19_23, zs_19_25, zs_19_28, zs_19_29, zs_19_30, zs_19_31, zs_19_32, zs_19_35, zs_19_36, zs_19_37, zs_19_38, zs_19_39, zs_19_42, zs_19_43, zs_19_46, zs_19_48, zs_19_49, zs_19_52, zs_19_54, zs_19_55, zs_19_57, zs_19_59, zs_19_60, zs_19_63, zs_19_66, zs_19_67, zs_19_70, zs_19_73, zs_19_74, zs_19_77, zs_19_79, zs_19_80, zs_19_81, zs_19_83, zs_19_85, zs_19_88, zs_19_89, zs_19_92, zs_19_95, zs_19_97, zs_19_98, zs_19_99, zs_19_102, zs_19_104, zs_19_106, zs_19_107, zs_19_108, zs_19_109, zs_19_112, zs_19_113, zs_19_116, zs_19_117, zs_19_119, zs_19_121, zs_19_124, zs_19_125, zs_19_126, zs_19_127, zs_19_128, zs_19_131, zs_19_133, zs_19_134, zs_19_137, zs_19_140, zs_19_143, zs_19_57h, za_17, za_26, za_28, za_6, zg_1_1, zg_2_1, zg_3_0, zg_3_1, zg_3_3, zg_3_5, zg_3_6, zrc_20, zrc_21, zrc_23, zrc_24, zrc_34, zli_0, zli_s, zlr_0, zlr_s, zls_0, zls_s, z1i_e, z2i_e, z1r_e, zir_e, ziir_e, z1v_e, z2v_e, zone_e, znil_e, zsp_0, zsp_s, zlz_0, zlz_1, zlz_2, zlz_3, zlz_4, zswp_0, zswp_s, true_and, and_true, implies_true, true_or, or_true, Int.reduceEq, Int.reduceLT, Int.reduceLE, Int.reduceNeg, not_true_eq_false, not_false_eq_true, false_implies, true_implies, zr_e, zwr_o, zwr_s, Nat.reduceEqDiff]
    rw [e3]
    refine ⟨by omega, by omega, fun a => ?_, fun a => by omega⟩
    refine hK σ2 hf hc0 (by omega) ?_
    rw [hr, show i = σ1 3 6 by omega]
    rfl
  | succ c ih =>
    intro i σ2 l7 l8 hi0 hi1 hic hf e3 e28 hc0 hc1 hr
    have e17 : σ2 17 = σ1 17 := hf.1 17 (by decide)
    have e6 : σ2 6 = σ1 6 := hf.1 6 (by decide)
    have hm := hv (σ1 28 i) (zl_mem.mpr ⟨i, hi0, by omega, rfl⟩)
    have hme : 0 ≤ σ1 17 (σ1 28 i) ∧ σ1 17 (σ1 28 i) ≤ 15 ∧ _ := hB.me _ hm.1 hm.2
    have hk : 0 ≤ σ1 6 (σ1 17 (σ1 28 i)) ∧ σ1 6 (σ1 17 (σ1 28 i)) ≤ 2 := hB.kind (σ1 17 (σ1 28 i)) (by omega) (by omega)
    have els : gLs (bX σ1) (σ1 12) (gX σ1) (σ1 28 i) = (((gX σ1).any (gCb (bX σ1)) && decide (σ1 6 (σ1 17 (σ1 28 i)) = 2)) || zbt ov (σ1 17 (σ1 28 i))) := by rw [hov]; rfl
    have lost : gLs (bX σ1) (σ1 12) (gX σ1) (σ1 28 i) = true → ∀ l7 l8, zV 19 zF Q 57 [some (.inr 3), some (.inl t), some (.inl n), l3, some (.inl cb), some (.inl ov), some (.inl (i + 1)), l7, l8] [] σ2 := by
      intro hl l7 l8
      refine ih (i + 1) σ2 l7 l8 (by omega) (by omega) (by omega) hf e3 e28 hc0 (by omega) ?_
      rw [zl_s hi0, List.filter_append, ← hr, List.filter_cons_of_neg (by simp [hl])]
      simp
    have kept : gLs (bX σ1) (σ1 12) (gX σ1) (σ1 28 i) = false → ∀ l7 l8, zV 19 zF Q 57 [some (.inr 3), some (.inl t), some (.inl n), l3, some (.inl cb), some (.inl ov), some (.inl (i + 1)), l7, l8] [] (zwr (zwr σ2 27 ((n * 16 + t) * 16 + σ2 26 (n * 16 + t)) (σ1 28 i)) 26 (n * 16 + t) (σ2 26 (n * 16 + t) + 1)) := by
      intro hl l7 l8
      refine ih (i + 1) _ l7 l8 (by omega) (by omega) (by omega) ⟨zsm_wr (zsm_wr hf.1 (by decide)) (by decide), fun j hj => ?_, fun j hj => ?_⟩ (by rw [zwr_o (by decide), zwr_o (by decide)]; exact e3) (by rw [zwr_o (by decide), zwr_o (by decide)]; exact e28) (by rw [zwr_s]; omega) (by rw [zwr_s]; omega) ?_
      · simp only [zwr, true_and, if_neg hj, show ¬ ((26 : Nat) = 27) by decide, false_and, if_false]
        exact hf.2.1 j hj
      · simp only [zwr, true_and, show ¬ ((27 : Nat) = 26) by decide, false_and, if_false]
        rw [if_neg (by omega)]
        exact hf.2.2 j hj
      · rw [rX_push hc0, hr, zl_s hi0, List.filter_append, List.filter_cons_of_pos (by simp [hl])]
        simp
    have hbit := zand_shr (a := ov) (u := σ1 17 (σ1 28 i)) (by omega) (by omega)
    refine zv_19 200 ?_
    simp only [zs_19_0, zs_19_1, zs_19_4, zs_19_5, zs_19_7, zs_19_8, zs_19_9, zs_19_10, zs_19_11, zs_19_12, zs_19_13, zs_19_16, zs_19_17, zs_19_18, zs_19_21, zs_19_22, zs_19_23, zs_19_25, zs_19_28, zs_19_29, zs_19_30, zs_19_31, zs_19_32, zs_19_35, zs_19_36, zs_19_37, zs_19_38, zs_19_39, zs_19_42, zs_19_43, zs_19_46, zs_19_48, zs_19_49, zs_19_52, zs_19_54, zs_19_55, zs_19_57, zs_19_59, zs_19_60, zs_19_63, zs_19_66, zs_19_67, zs_19_70, zs_19_73, zs_19_74, zs_19_77, zs_19_79, zs_19_80, zs_19_81, zs_19_83, zs_19_85, zs_19_88, zs_19_89, zs_19_92, zs_19_95, zs_19_97, zs_19_98, zs_19_99, zs_19_102, zs_19_104, zs_19_106, zs_19_107, zs_19_108, zs_19_109, zs_19_112, zs_19_113, zs_19_116, zs_19_117, zs_19_119, zs_19_121, zs_19_124, zs_19_125, zs_19_126, zs_19_127, zs_19_128, zs_19_131, zs_19_133, zs_19_134, zs_19_137, zs_19_140, zs_19_143, zs_19_57h, za_17, za_26, za_28, za_6, zg_1_1, zg_2_1, zg_3_0, zg_3_1, zg_3_3, zg_3_5, zg_3_6, zrc_20, zrc_21, zrc_23, zrc_24, zrc_34, zli_0, zli_s, zlr_0, zlr_s, zls_0, zls_s, z1i_e, z2i_e, z1r_e, zir_e, ziir_e, z1v_e, z2v_e, zone_e, znil_e, zsp_0, zsp_s, zlz_0, zlz_1, zlz_2, zlz_3, zlz_4, zswp_0, zswp_s, true_and, and_true, implies_true, true_or, or_true, Int.reduceEq, Int.reduceLT, Int.reduceLE, Int.reduceNeg, not_true_eq_false, not_false_eq_true, false_implies, true_implies, zr_e, zwr_o, zwr_s, Nat.reduceEqDiff]
    rw [e3, e28, e17, e6, hbit]
    generalize hw : σ1 17 (σ1 28 i) = w at *
    have hcb01 : cb = 0 ∨ cb = 1 := by omega
    rcases hcb with ⟨rfl, hc⟩ | ⟨rfl, hc⟩ <;> rw [hc] at els <;> cases hz : zbt ov w <;> rw [hz] at els <;> by_cases hk2 : σ1 6 w = 2 <;> simp only [hk2, Bool.true_and, Bool.false_and, decide_true, decide_false, Bool.or_true, Bool.or_false, Bool.true_or, Bool.false_or] at els
    all_goals simp only [hk2, Bool.false_eq_true, if_true, if_false, Int.reduceEq, not_true_eq_false, not_false_eq_true, false_implies, true_implies, implies_true, and_true, true_and]
    all_goals first
      | exact ⟨by omega, by omega, fun a => by omega, fun a => by
          refine ⟨by omega, by omega, by omega, by omega, ?_⟩
          repeat' first | omega | (apply lost; exact els) | (refine x_hold h0 h1 h2 h3 hc0 (by omega) ?_; apply kept; exact els) | apply And.intro | intro _⟩
end X7
