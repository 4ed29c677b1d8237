/-! the reference: constants that are seen, faces of one abstract member -/
section M12
variable {σ : zS} {Q : Int → zS → Prop}
set_option maxHeartbeats 8000000 in
set_option maxRecDepth 100000 in
theorem m_see_in {of c t : Int} (hB : Bd (bM σ)) (h0 : 0 ≤ t) (h1 : t < 16) (c0 : 0 ≤ c) (c1 : c < 4) (hS : ∀ p, 0 ≤ p → p < t → sVal (σ 54 p))
    (h : ∀ l4 l5 l6, zV 108 zF Q 2 [some (.inr 31), some (.inl of), some (.inl c), some (.inl (t + 1)), l4, l5, l6] [] (zwr σ 54 t (gSeT (bM σ) c (σ 54) t))) :
    ∀ (q : Nat) (k : Int) (l6 : Option zW), 0 ≤ k → k ≤ gPc (bM σ) t → (gPc (bM σ) t - k).toNat = q → zV 108 zF Q 14 [some (.inr 31), some (.inl of), some (.inl c), some (.inl t), some (.inl (gSee (fun i => σ 54 (gPa (bM σ) t i)) k.toNat)), some (.inl k), l6] [] σ := by
  have hp := gPc_le hB h0 h1
  have hco : (σ 47 (4 * t + c) = 0 ∨ σ 47 (4 * t + c) = 1) ∧ _ := hB.co (4 * t + c) (by omega) (by omega)
  have hco := hco.1
  intro q
  induction q with
  | zero =>
    intro k l6 k0 k1 kq
    have e : k = gPc (bM σ) t := by omega
    subst e
    refine zv_108 200 ?_
    simp only [zs_108_0, zs_108_1, zs_108_2, zs_108_3, zs_108_4, zs_108_7, zs_108_9, zs_108_11, zs_108_12, zs_108_14, zs_108_16, zs_108_17, zs_108_18, zs_108_21, zs_108_24, zs_108_25, zs_108_28, zs_108_29, zs_108_30, zs_108_32, zs_108_35, zs_108_36, zs_108_38, zs_108_40, zs_108_42, zs_108_45, zs_108_47, zs_108_49, zs_108_52, zs_108_54, zs_108_57, zs_108_59, zs_108_62, zs_108_64, zs_108_66, zs_108_69, zs_108_71, zs_108_74, zs_108_76, zs_108_79, zs_108_81, zs_108_84, zs_108_86, zs_108_88, zs_108_91, zs_108_94, zs_108_95, zs_108_98, zs_108_99, zs_108_100, zs_108_103, zs_108_104, zs_108_105, zs_108_106, zs_108_107, zs_108_108, zs_108_109, zs_108_112, zs_108_113, zs_108_116, zs_108_118, zs_108_119, zs_108_122, zs_108_125, zs_108_126, zs_108_129, zs_108_130, zs_108_131, zs_108_2h, zs_108_14h, za_47, za_54, zg_31_17, zg_31_33, zrc_82, zrc_83, zli_0, zli_s, zlr_0, zlr_s, zls_0, zls_s, z1i_e, z2i_e, z1r_e, zir_e, ziir_e, z1v_e, z2v_e, zone_e, znil_e, zsp_0, zsp_s, zlz_0, zlz_1, zlz_2, zlz_3, zlz_4, zswp_0, zswp_s, true_and, and_true, implies_true, true_or, or_true, Int.reduceEq, Int.reduceLT, Int.reduceLE, Int.reduceNeg, not_true_eq_false, not_false_eq_true, false_implies, true_implies, zr_e, zwr_o, zwr_s, Nat.reduceEqDiff]
    refine m_parents hB h0 h1 ?_
    refine ⟨by omega, by omega, fun a => ⟨by omega, by omega, by omega, fun b => ⟨h0, h1, ?_⟩, fun b => ⟨h0, h1, ?_⟩⟩, fun a => False.elim (by omega)⟩
    · have e : gSeT (bM σ) c (σ 54) t = gSee (fun i => σ 54 (gPa (bM σ) t i)) (gPc (bM σ) t).toNat := if_pos b
      rw [← e]
      exact h _ _ _
    · have e : gSeT (bM σ) c (σ 54) t = t := if_neg b
      have h := h (some (.inl (gSee (fun i => σ 54 (gPa (bM σ) t i)) (gPc (bM σ) t).toNat))) (some (.inl (gPc (bM σ) t))) l6
      rw [e] at h
      exact h
  | succ q ih =>
    intro k l6 k0 k1 kq
    have hl := gPa_lt hB h0 h1 k0 (show k < gPc (bM σ) t by omega)
    have ih := ih (k + 1) (some (.inl (σ 54 (gPa (bM σ) t k)))) (by omega) (by omega) (by omega)
    rw [gSee_s k0] at ih
    have hs : sVal (gSee (fun i => σ 54 (gPa (bM σ) t i)) k.toNat) := sVal_see (fun i i0 i1 => by
      have := gPa_lt hB h0 h1 i0 (show i < gPc (bM σ) t by omega)
      exact hS _ this.1 this.2)
    have hpv := hS _ hl.1 hl.2
    have hkp : k < gPc (bM σ) t := by omega
    have hk2 : -2147483648 ≤ k ∧ k < 2147483648 := by omega
    have hk3 : -2147483648 ≤ gPc (bM σ) t ∧ gPc (bM σ) t < 2147483648 := by omega
    generalize gSee (fun i => σ 54 (gPa (bM σ) t i)) k.toNat = s at *
    refine zv_108 200 ?_
    simp only [zs_108_0, zs_108_1, zs_108_2, zs_108_3, zs_108_4, zs_108_7, zs_108_9, zs_108_11, zs_108_12, zs_108_14, zs_108_16, zs_108_17, zs_108_18, zs_108_21, zs_108_24, zs_108_25, zs_108_28, zs_108_29, zs_108_30, zs_108_32, zs_108_35, zs_108_36, zs_108_38, zs_108_40, zs_108_42, zs_108_45, zs_108_47, zs_108_49, zs_108_52, zs_108_54, zs_108_57, zs_108_59, zs_108_62, zs_108_64, zs_108_66, zs_108_69, zs_108_71, zs_108_74, zs_108_76, zs_108_79, zs_108_81, zs_108_84, zs_108_86, zs_108_88, zs_108_91, zs_108_94, zs_108_95, zs_108_98, zs_108_99, zs_108_100, zs_108_103, zs_108_104, zs_108_105, zs_108_106, zs_108_107, zs_108_108, zs_108_109, zs_108_112, zs_108_113, zs_108_116, zs_108_118, zs_108_119, zs_108_122, zs_108_125, zs_108_126, zs_108_129, zs_108_130, zs_108_131, zs_108_2h, zs_108_14h, za_47, za_54, zg_31_17, zg_31_33, zrc_82, zrc_83, zli_0, zli_s, zlr_0, zlr_s, zls_0, zls_s, z1i_e, z2i_e, z1r_e, zir_e, ziir_e, z1v_e, z2v_e, zone_e, znil_e, zsp_0, zsp_s, zlz_0, zlz_1, zlz_2, zlz_3, zlz_4, zswp_0, zswp_s, true_and, and_true, implies_true, true_or, or_true, Int.reduceEq, Int.reduceLT, Int.reduceLE, Int.reduceNeg, not_true_eq_false, not_false_eq_true, false_implies, true_implies, zr_e, zwr_o, zwr_s, Nat.reduceEqDiff]
    refine m_parents hB h0 h1 ?_
    refine ⟨hk2, hk3, fun a => absurd hkp (Int.not_lt.mpr a), fun a => ?_⟩
    refine m_parent hB h0 h1 k0 a ?_
    generalize gPa (bM σ) t k = pp at *
    have hl2 : 0 ≤ pp ∧ pp < 16 := by omega
    generalize hv : σ 54 pp = v at *
    unfold sVal at hs hpv
    have k2 : (s = -2 ∨ v = -2 ∨ (0 ≤ s ∧ 0 ≤ v ∧ ¬ s = v)) → gS1 s v = -2 := by
      intro z
      unfold gS1
      split
      · omega
      · split
        · rfl
        · omega
    have ks : 0 ≤ s → ¬ v = -2 → (v < 0 ∨ s = v) → gS1 s v = s := by
      intro z1 z2 z3
      unfold gS1
      rw [if_neg (by omega)]
      split
      · omega
      · rfl
    have kv : s < 0 → ¬ s = -2 → gS1 s v = v := by
      intro z1 z2
      unfold gS1
      rw [if_pos (by omega)]
    have i2 : (s = -2 ∨ v = -2 ∨ (0 ≤ s ∧ 0 ≤ v ∧ ¬ s = v)) → zV 108 zF Q 14 [some (.inr 31), some (.inl of), some (.inl c), some (.inl t), some (.inl (-2)), some (.inl (k + 1)), some (.inl v)] [] σ := fun z => by
      have := k2 z
      rw [this] at ih
      exact ih
    have is : 0 ≤ s → ¬ v = -2 → (v < 0 ∨ s = v) → zV 108 zF Q 14 [some (.inr 31), some (.inl of), some (.inl c), some (.inl t), some (.inl s), some (.inl (k + 1)), some (.inl v)] [] σ := fun z1 z2 z3 => by
      have := ks z1 z2 z3
      rw [this] at ih
      exact ih
    have iv : s < 0 → ¬ s = -2 → zV 108 zF Q 14 [some (.inr 31), some (.inl of), some (.inl c), some (.inl t), some (.inl v), some (.inl (k + 1)), some (.inl v)] [] σ := fun z1 z2 => by
      have := kv z1 z2
      rw [this] at ih
      exact ih
    clear ih k2 ks kv h hS
    have zs : -2147483648 ≤ s ∧ s < 2147483648 := by omega
    have zv : -2147483648 ≤ v ∧ v < 2147483648 := by omega
    refine ⟨hl2.1, hl2.2, zs, fun a1 => i2 (Or.inl a1), fun a1 => ⟨zv, fun a2 => i2 (Or.inr (Or.inl a2)), fun a2 => ⟨zs, fun a3 => ⟨zs, fun _ => iv a3 a1, fun a4 => absurd a3 (Int.not_lt.mpr a4)⟩, fun a3 => ⟨zv, fun a4 => ⟨zs, fun a5 => absurd a5 (Int.not_lt.mpr a3), fun _ => is a3 a2 (Or.inl a4)⟩, fun a4 => ⟨zs, zv, fun a5 => ⟨zs, fun a6 => absurd a6 (Int.not_lt.mpr a3), fun _ => is a3 a2 (Or.inr a5)⟩, fun a5 => i2 (Or.inr (Or.inr ⟨a3, a4, a5⟩))⟩⟩⟩⟩⟩
set_option maxRecDepth 100000 in
theorem m_see_loop {t c : Int} (hB : Bd (bM σ)) (h0 : 0 ≤ t) (h1 : t < 16) (c0 : 0 ≤ c) (c1 : c < 4)
    (h : ∀ σ', zmm [54] [] σ σ' → (∀ u, 0 ≤ u → u ≤ t → sVal (σ' 54 u) ∧ σ' 54 u = gSeT (bM σ) c (σ' 54) u) → Q (σ' 54 t) σ') :
    ∀ (k : Nat) (u : Int) (σ2 : zS) (l4 l5 l6 : Option zW), 0 ≤ u → u ≤ t + 1 → (t + 1 - u).toNat = k → zmm [54] [] σ σ2 → (∀ v, 0 ≤ v → v < u → sVal (σ2 54 v) ∧ σ2 54 v = gSeT (bM σ) c (σ2 54) v) → zV 108 zF Q 2 [some (.inr 31), some (.inl t), some (.inl c), some (.inl u), l4, l5, l6] [] σ2 := by
  intro k
  induction k with
  | zero =>
    intro u σ2 l4 l5 l6 u0 u1 uk hs hv
    refine zv_108 100 ?_
    simp only [zs_108_0, zs_108_1, zs_108_2, zs_108_3, zs_108_4, zs_108_7, zs_108_9, zs_108_11, zs_108_12, zs_108_14, zs_108_16, zs_108_17, zs_108_18, zs_108_21, zs_108_24, zs_108_25, zs_108_28, zs_108_29, zs_108_30, zs_108_32, zs_108_35, zs_108_36, zs_108_38, zs_108_40, zs_108_42, zs_108_45, zs_108_47, zs_108_49, zs_108_52, zs_108_54, zs_108_57, zs_108_59, zs_108_62, zs_108_64, zs_108_66, zs_108_69, zs_108_71, zs_108_74, zs_108_76, zs_108_79, zs_108_81, zs_108_84, zs_108_86, zs_108_88, zs_108_91, zs_108_94, zs_108_95, zs_108_98, zs_108_99, zs_108_100, zs_108_103, zs_108_104, zs_108_105, zs_108_106, zs_108_107, zs_108_108, zs_108_109, zs_108_112, zs_108_113, zs_108_116, zs_108_118, zs_108_119, zs_108_122, zs_108_125, zs_108_126, zs_108_129, zs_108_130, zs_108_131, zs_108_2h, zs_108_14h, za_47, za_54, zg_31_17, zg_31_33, zrc_82, zrc_83, zli_0, zli_s, zlr_0, zlr_s, zls_0, zls_s, z1i_e, z2i_e, z1r_e, zir_e, ziir_e, z1v_e, z2v_e, zone_e, znil_e, zsp_0, zsp_s, zlz_0, zlz_1, zlz_2, zlz_3, zlz_4, zswp_0, zswp_s, true_and, and_true, implies_true, true_or, or_true, Int.reduceEq, Int.reduceLT, Int.reduceLE, Int.reduceNeg, not_true_eq_false, not_false_eq_true, false_implies, true_implies, zr_e, zwr_o, zwr_s, Nat.reduceEqDiff]
    refine ⟨by omega, by omega, fun a => ⟨h0, h1, ?_⟩, fun a => False.elim (by omega)⟩
    exact h σ2 hs (fun v v0 v1 => hv v v0 (by omega))
  | succ k ih =>
    intro u σ2 l4 l5 l6 u0 u1 uk hs hv
    have eB : bM σ2 = bM σ := bM_mm hs (by decide) (by decide) (by decide)
    have hp := gPc_le hB u0 (show u < 16 by omega)
    refine zv_108 100 ?_
    simp only [zs_108_0, zs_108_1, zs_108_2, zs_108_3, zs_108_4, zs_108_7, zs_108_9, zs_108_11, zs_108_12, zs_108_14, zs_108_16, zs_108_17, zs_108_18, zs_108_21, zs_108_24, zs_108_25, zs_108_28, zs_108_29, zs_108_30, zs_108_32, zs_108_35, zs_108_36, zs_108_38, zs_108_40, zs_108_42, zs_108_45, zs_108_47, zs_108_49, zs_108_52, zs_108_54, zs_108_57, zs_108_59, zs_108_62, zs_108_64, zs_108_66, zs_108_69, zs_108_71, zs_108_74, zs_108_76, zs_108_79, zs_108_81, zs_108_84, zs_108_86, zs_108_88, zs_108_91, zs_108_94, zs_108_95, zs_108_98, zs_108_99, zs_108_100, zs_108_103, zs_108_104, zs_108_105, zs_108_106, zs_108_107, zs_108_108, zs_108_109, zs_108_112, zs_108_113, zs_108_116, zs_108_118, zs_108_119, zs_108_122, zs_108_125, zs_108_126, zs_108_129, zs_108_130, zs_108_131, zs_108_2h, zs_108_14h, za_47, za_54, zg_31_17, zg_31_33, zrc_82, zrc_83, zli_0, zli_s, zlr_0, zlr_s, zls_0, zls_s, z1i_e, z2i_e, z1r_e, zir_e, ziir_e, z1v_e, z2v_e, zone_e, znil_e, zsp_0, zsp_s, zlz_0, zlz_1, zlz_2, zlz_3, zlz_4, zswp_0, zswp_s, true_and, and_true, implies_true, true_or, or_true, Int.reduceEq, Int.reduceLT, Int.reduceLE, Int.reduceNeg, not_true_eq_false, not_false_eq_true, false_implies, true_implies, zr_e, zwr_o, zwr_s, Nat.reduceEqDiff]
    refine ⟨by omega, by omega, fun a => False.elim (by omega), fun a => ?_⟩
    refine m_see_in (σ := σ2) (by rw [eB]; exact hB) u0 (by omega) c0 c1 (fun p p0 p1 => (hv p p0 p1).1) ?_ _ 0 _ (by omega) (by rw [eB]; exact hp.1) rfl
    intro l4 l5 l6
    rw [eB]
    have hx : sVal (gSeT (bM σ) c (σ2 54) u) := by
      unfold gSeT
      split
      · exact sVal_see (fun j a b => by
          have := gPa_lt hB u0 (show u < 16 by omega) a (show j < gPc (bM σ) u by omega)
          exact (hv _ this.1 this.2).1)
      · exact Or.inr (Or.inr ⟨u0, by omega⟩)
    generalize hxe : gSeT (bM σ) c (σ2 54) u = x at *
    refine ih (u + 1) _ _ _ _ (by omega) (by omega) (by omega) (zmm_wr hs (by decide) (by decide)) ?_
    intro v v0 v1
    have hsame : ∀ w, 0 ≤ w → w ≤ u → gSeT (bM σ) c (zwr σ2 54 u x 54) w = gSeT (bM σ) c (σ2 54) w := by
      intro w w0 w1
      unfold gSeT
      congr 1
      refine gSee_congr _ (fun i i0 i1 => ?_)
      have hl := gPa_lt hB w0 (show w < 16 by omega) i0 (show i < gPc (bM σ) w by omega)
      simp only [zwr, true_and]
      rw [if_neg (by omega)]
    by_cases ev : v = u
    · rw [ev, hsame u u0 (by omega), zwr_s]
      exact ⟨hx, hxe.symm⟩
    · rw [hsame v v0 (by omega)]
      simp only [zwr, true_and, if_neg ev]
      exact hv v v0 (by omega)
set_option maxRecDepth 100000 in
theorem m_seesOf {t c : Int} (hB : Bd (bM σ)) (h0 : 0 ≤ t) (h1 : t < 16) (c0 : 0 ≤ c) (c1 : c < 4)
    (h : ∀ σ', zmm [54] [] σ σ' → sVal (aSee (bM σ) t c) → Q (aSee (bM σ) t c) σ') : zM 108 zF [.inr 31, .inl t, .inl c] σ Q := by
  refine ze_108 100 ?_
  simp only [zs_108_0, zs_108_1, zs_108_2, zs_108_3, zs_108_4, zs_108_7, zs_108_9, zs_108_11, zs_108_12, zs_108_14, zs_108_16, zs_108_17, zs_108_18, zs_108_21, zs_108_24, zs_108_25, zs_108_28, zs_108_29, zs_108_30, zs_108_32, zs_108_35, zs_108_36, zs_108_38, zs_108_40, zs_108_42, zs_108_45, zs_108_47, zs_108_49, zs_108_52, zs_108_54, zs_108_57, zs_108_59, zs_108_62, zs_108_64, zs_108_66, zs_108_69, zs_108_71, zs_108_74, zs_108_76, zs_108_79, zs_108_81, zs_108_84, zs_108_86, zs_108_88, zs_108_91, zs_108_94, zs_108_95, zs_108_98, zs_108_99, zs_108_100, zs_108_103, zs_108_104, zs_108_105, zs_108_106, zs_108_107, zs_108_108, zs_108_109, zs_108_112, zs_108_113, zs_108_116, zs_108_118, zs_108_119, zs_108_122, zs_108_125, zs_108_126, zs_108_129, zs_108_130, zs_108_131, za_47, za_54, zg_31_17, zg_31_33, zrc_82, zrc_83, zli_0, zli_s, zlr_0, zlr_s, zls_0, zls_s, z1i_e, z2i_e, z1r_e, zir_e, ziir_e, z1v_e, z2v_e, zone_e, znil_e, zsp_0, zsp_s, zlz_0, zlz_1, zlz_2, zlz_3, zlz_4, zswp_0, zswp_s, true_and, and_true, implies_true, true_or, or_true, Int.reduceEq, Int.reduceLT, Int.reduceLE, Int.reduceNeg, not_true_eq_false, not_false_eq_true, false_implies, true_implies, zr_e, zwr_o, zwr_s, Nat.reduceEqDiff]
  refine m_see_loop hB h0 h1 c0 c1 ?_ _ 0 σ _ _ _ (by omega) (by omega) rfl zmm_rf (fun v _ _ => False.elim (by omega))
  intro σ' hs hS
  have e : σ' 54 t = aSee (bM σ) t c := see_k hB h1 (fun u u0 u1 => (hS u u0 u1).2) 16 t h0 (by omega) (by omega)
  have := (hS t h0 (by omega)).1
  rw [e] at this ⊢
  exact h σ' hs this
theorem gSo_split {B : zS} {s : Int} : ∀ (l1 l2 : List Int), gSo B s (l1 ++ l2) = (gSo B s l1 || gSo B s l2)
  | [], l2 => by simp [gSo]
  | a :: l1, l2 => by
    simp only [List.cons_append, gSo]
    split
    · rfl
    · exact gSo_split l1 l2
set_option maxRecDepth 100000 in
theorem m_fun_c {f only many n : Int} {l5 l6 : Option zW} (hB : Bd (bM σ)) (h0 : 0 ≤ f) (h1 : f < 16) (n0 : 0 ≤ n) (n1 : n < 10) (eo : only = 10 * f + n) (hr : mOK σ n f)
    (h : Q (if gSo (bM σ) 1 (rM σ n f) = true then -4 else gFs (bM σ) (rM σ n f) (rM σ n f)) σ) :
    ∀ (q : Nat) (i : Int), 0 ≤ i → i ≤ σ 53 only → (σ 53 only - i).toNat = q → gSo (bM σ) 1 (zl (fun i => σ 52 (16 * (10 * f + n) + i)) i) = false → zV 107 zF Q 141 [some (.inr 31), some (.inl f), some (.inl only), some (.inl many), some (.inl i), l5, l6] [] σ := by
  subst eo
  have hr1 := hr.1
  have hr2 := hr.2.1
  intro q
  induction q with
  | zero =>
    intro i i0 i1 iq hg
    have e : i = σ 53 (10 * f + n) := by omega
    have hg2 : gSo (bM σ) 1 (rM σ n f) = false := by rw [e] at hg; exact hg
    rw [if_neg (by rw [hg2]; decide)] at h
    refine zv_107 200 ?_
    simp only [zs_107_0, zs_107_1, zs_107_2, zs_107_5, zs_107_8, zs_107_9, zs_107_10, zs_107_11, zs_107_14, zs_107_16, zs_107_17, zs_107_18, zs_107_19, zs_107_20, zs_107_22, zs_107_24, zs_107_26, zs_107_29, zs_107_30, zs_107_32, zs_107_33, zs_107_35, zs_107_37, zs_107_38, zs_107_41, zs_107_43, zs_107_44, zs_107_45, zs_107_47, zs_107_48, zs_107_49, zs_107_52, zs_107_54, zs_107_55, zs_107_58, zs_107_59, zs_107_62, zs_107_64, zs_107_66, zs_107_67, zs_107_68, zs_107_70, zs_107_71, zs_107_72, zs_107_74, zs_107_75, zs_107_76, zs_107_77, zs_107_80, zs_107_81, zs_107_84, zs_107_85, zs_107_86, zs_107_88, zs_107_91, zs_107_94, zs_107_96, zs_107_99, zs_107_101, zs_107_102, zs_107_103, zs_107_105, zs_107_106, zs_107_109, zs_107_110, zs_107_111, zs_107_112, zs_107_114, zs_107_117, zs_107_118, zs_107_121, zs_107_122, zs_107_123, zs_107_124, zs_107_127, zs_107_130, zs_107_131, zs_107_132, zs_107_135, zs_107_137, zs_107_138, zs_107_139, zs_107_141, zs_107_143, zs_107_144, zs_107_147, zs_107_148, zs_107_149, zs_107_152, zs_107_153, zs_107_156, zs_107_157, zs_107_160, zs_107_162, zs_107_163, zs_107_164, zs_107_166, zs_107_167, zs_107_168, zs_107_169, zs_107_170, zs_107_173, zs_107_175, zs_107_176, zs_107_179, zs_107_182, zs_107_183, zs_107_184, zs_107_187, zs_107_22h, zs_107_35h, zs_107_141h, za_40, za_52, za_53, zg_31_10, zg_31_23, zg_31_24, zrc_79, zrc_84, zrc_90, zli_0, zli_s, zlr_0, zlr_s, zls_0, zls_s, z1i_e, z2i_e, z1r_e, zir_e, ziir_e, z1v_e, z2v_e, zone_e, znil_e, zsp_0, zsp_s, zlz_0, zlz_1, zlz_2, zlz_3, zlz_4, zswp_0, zswp_s, true_and, and_true, implies_true, true_or, or_true, Int.reduceEq, Int.reduceLT, Int.reduceLE, Int.reduceNeg, not_true_eq_false, not_false_eq_true, false_implies, true_implies, zr_e, zwr_o, zwr_s, Nat.reduceEqDiff]
    refine ⟨by omega, by omega, by omega, by omega, fun a => m_server hB h0 h1 n0 n1 hr h, fun a => False.elim (by omega)⟩
  | succ q ih =>
    intro i i0 i1 iq hg
    have hm := mOK_m hB hr i0 (by omega)
    have hb := mM hB hm.1 hm.2.2
    have hin : σ 52 (16 * (10 * f + n) + i) ∈ rM σ n f := show _ ∈ zl (fun i => σ 52 (16 * (10 * f + n) + i)) (σ 53 (10 * f + n)) from zl_mem.mpr ⟨i, i0, by omega, rfl⟩
    refine zv_107 200 ?_
    simp only [zs_107_0, zs_107_1, zs_107_2, zs_107_5, zs_107_8, zs_107_9, zs_107_10, zs_107_11, zs_107_14, zs_107_16, zs_107_17, zs_107_18, zs_107_19, zs_107_20, zs_107_22, zs_107_24, zs_107_26, zs_107_29, zs_107_30, zs_107_32, zs_107_33, zs_107_35, zs_107_37, zs_107_38, zs_107_41, zs_107_43, zs_107_44, zs_107_45, zs_107_47, zs_107_48, zs_107_49, zs_107_52, zs_107_54, zs_107_55, zs_107_58, zs_107_59, zs_107_62, zs_107_64, zs_107_66, zs_107_67, zs_107_68, zs_107_70, zs_107_71, zs_107_72, zs_107_74, zs_107_75, zs_107_76, zs_107_77, zs_107_80, zs_107_81, zs_107_84, zs_107_85, zs_107_86, zs_107_88, zs_107_91, zs_107_94, zs_107_96, zs_107_99, zs_107_101, zs_107_102, zs_107_103, zs_107_105, zs_107_106, zs_107_109, zs_107_110, zs_107_111, zs_107_112, zs_107_114, zs_107_117, zs_107_118, zs_107_121, zs_107_122, zs_107_123, zs_107_124, zs_107_127, zs_107_130, zs_107_131, zs_107_132, zs_107_135, zs_107_137, zs_107_138, zs_107_139, zs_107_141, zs_107_143, zs_107_144, zs_107_147, zs_107_148, zs_107_149, zs_107_152, zs_107_153, zs_107_156, zs_107_157, zs_107_160, zs_107_162, zs_107_163, zs_107_164, zs_107_166, zs_107_167, zs_107_168, zs_107_169, zs_107_170, zs_107_173, zs_107_175, zs_107_176, zs_107_179, zs_107_182, zs_107_183, zs_107_184, zs_107_187, zs_107_22h, zs_107_35h, zs_107_141h, za_40, za_52, za_53, zg_31_10, zg_31_23, zg_31_24, zrc_79, zrc_84, zrc_90, zli_0, zli_s, zlr_0, zlr_s, zls_0, zls_s, z1i_e, z2i_e, z1r_e, zir_e, ziir_e, z1v_e, z2v_e, zone_e, znil_e, zsp_0, zsp_s, zlz_0, zlz_1, zlz_2, zlz_3, zlz_4, zswp_0, zswp_s, true_and, and_true, implies_true, true_or, or_true, Int.reduceEq, Int.reduceLT, Int.reduceLE, Int.reduceNeg, not_true_eq_false, not_false_eq_true, false_implies, true_implies, zr_e, zwr_o, zwr_s, Nat.reduceEqDiff]
    refine ⟨by omega, by omega, by omega, by omega, fun a => False.elim (by omega), fun a => ⟨by omega, by omega, hm.1, hm.2.2, by omega, fun b => ?_, fun b => ?_⟩⟩
    · refine ih (i + 1) (by omega) (by omega) (by omega) ?_
      rw [zl_s i0, gSo_split, hg]
      simp only [gSo, Bool.false_or]
      exact if_neg b
    · have : gSo (bM σ) 1 (rM σ n f) = true := by
        have key : ∀ l : List Int, ∀ x, x ∈ l → bM σ 7 x = 1 → gSo (bM σ) 1 l = true := by
          intro l
          induction l with
          | nil => intro x hx; cases hx
          | cons y l ihl =>
            intro x hx e
            simp only [gSo]
            split
            · rfl
            · rename_i hy
              rcases List.mem_cons.mp hx with e2 | e2
              · rw [e2] at e; exact absurd e hy
              · exact ihl x e2 e
        exact key _ _ hin b
      rw [if_pos this] at h
      exact h
set_option maxRecDepth 100000 in
theorem m_fun_b {f only many n : Int} (hB : Bd (bM σ)) (h0 : 0 ≤ f) (h1 : f < 16) (n0 : 0 ≤ n) (n1 : n < 10) (hr : mOK σ n f)
    (k1 : gSo (bM σ) 0 (rM σ n f) = true → ∀ l5 l6, zV 107 zF Q 22 [some (.inr 31), some (.inl f), some (.inl (10 * f + n)), some (.inl (many + 1)), some (.inl (n + 1)), l5, l6] [] σ)
    (k0 : gSo (bM σ) 0 (rM σ n f) = false → ∀ l5 l6, zV 107 zF Q 22 [some (.inr 31), some (.inl f), some (.inl only), some (.inl many), some (.inl (n + 1)), l5, l6] [] σ) :
    ∀ (q : Nat) (i any : Int), 0 ≤ i → i ≤ σ 53 (10 * f + n) → (σ 53 (10 * f + n) - i).toNat = q → ((any = 1 ∧ gSo (bM σ) 0 (rM σ n f) = true) ∨ (any = 0 ∧ gSo (bM σ) 0 (zl (fun i => σ 52 (16 * (10 * f + n) + i)) i) = false)) → zV 107 zF Q 35 [some (.inr 31), some (.inl f), some (.inl only), some (.inl many), some (.inl n), some (.inl any), some (.inl i)] [] σ := by
  have hr1 := hr.1
  have hr2 := hr.2.1
  intro q
  induction q with
  | zero =>
    intro i any i0 i1 iq hg
    have e : i = σ 53 (10 * f + n) := by omega
    have a01 : any = 0 ∨ any = 1 := by omega
    refine zv_107 200 ?_
    simp only [zs_107_0, zs_107_1, zs_107_2, zs_107_5, zs_107_8, zs_107_9, zs_107_10, zs_107_11, zs_107_14, zs_107_16, zs_107_17, zs_107_18, zs_107_19, zs_107_20, zs_107_22, zs_107_24, zs_107_26, zs_107_29, zs_107_30, zs_107_32, zs_107_33, zs_107_35, zs_107_37, zs_107_38, zs_107_41, zs_107_43, zs_107_44, zs_107_45, zs_107_47, zs_107_48, zs_107_49, zs_107_52, zs_107_54, zs_107_55, zs_107_58, zs_107_59, zs_107_62, zs_107_64, zs_107_66, zs_107_67, zs_107_68, zs_107_70, zs_107_71, zs_107_72, zs_107_74, zs_107_75, zs_107_76, zs_107_77, zs_107_80, zs_107_81, zs_107_84, zs_107_85, zs_107_86, zs_107_88, zs_107_91, zs_107_94, zs_107_96, zs_107_99, zs_107_101, zs_107_102, zs_107_103, zs_107_105, zs_107_106, zs_107_109, zs_107_110, zs_107_111, zs_107_112, zs_107_114, zs_107_117, zs_107_118, zs_107_121, zs_107_122, zs_107_123, zs_107_124, zs_107_127, zs_107_130, zs_107_131, zs_107_132, zs_107_135, zs_107_137, zs_107_138, zs_107_139, zs_107_141, zs_107_143, zs_107_144, zs_107_147, zs_107_148, zs_107_149, zs_107_152, zs_107_153, zs_107_156, zs_107_157, zs_107_160, zs_107_162, zs_107_163, zs_107_164, zs_107_166, zs_107_167, zs_107_168, zs_107_169, zs_107_170, zs_107_173, zs_107_175, zs_107_176, zs_107_179, zs_107_182, zs_107_183, zs_107_184, zs_107_187, zs_107_22h, zs_107_35h, zs_107_141h, za_40, za_52, za_53, zg_31_10, zg_31_23, zg_31_24, zrc_79, zrc_84, zrc_90, zli_0, zli_s, zlr_0, zlr_s, zls_0, zls_s, z1i_e, z2i_e, z1r_e, zir_e, ziir_e, z1v_e, z2v_e, zone_e, znil_e, zsp_0, zsp_s, zlz_0, zlz_1, zlz_2, zlz_3, zlz_4, zswp_0, zswp_s, true_and, and_true, implies_true, true_or, or_true, Int.reduceEq, Int.reduceLT, Int.reduceLE, Int.reduceNeg, not_true_eq_false, not_false_eq_true, false_implies, true_implies, zr_e, zwr_o, zwr_s, Nat.reduceEqDiff]
    refine ⟨by omega, by omega, by omega, by omega, fun a => ⟨by omega, fun b => ⟨by omega, fun _ => ?_, fun c => absurd b c⟩, fun b => ⟨by omega, fun c => absurd c b, fun _ => ?_⟩⟩, fun a => False.elim (by omega)⟩
    · rw [Int.add_zero]
      refine k0 ?_ _ _
      rcases hg with hg | hg
      · exact False.elim (by omega)
      · have := hg.2
        rw [e] at this
        exact this
    · refine k1 ?_ _ _
      rcases hg with hg | hg
      · exact hg.2
      · exact False.elim (by omega)
  | succ q ih =>
    intro i any i0 i1 iq hg
    have a01 : any = 0 ∨ any = 1 := by omega
    have zo := zor01 a01
    have hm := mOK_m hB hr i0 (by omega)
    have hb := mM hB hm.1 hm.2.2
    have hin : σ 52 (16 * (10 * f + n) + i) ∈ rM σ n f := show _ ∈ zl (fun i => σ 52 (16 * (10 * f + n) + i)) (σ 53 (10 * f + n)) from zl_mem.mpr ⟨i, i0, by omega, rfl⟩
    refine zv_107 200 ?_
    simp only [zs_107_0, zs_107_1, zs_107_2, zs_107_5, zs_107_8, zs_107_9, zs_107_10, zs_107_11, zs_107_14, zs_107_16, zs_107_17, zs_107_18, zs_107_19, zs_107_20, zs_107_22, zs_107_24, zs_107_26, zs_107_29, zs_107_30, zs_107_32, zs_107_33, zs_107_35, zs_107_37, zs_107_38, zs_107_41, zs_107_43, zs_107_44, zs_107_45, zs_107_47, zs_107_48, zs_107_49, zs_107_52, zs_107_54, zs_107_55, zs_107_58, zs_107_59, zs_107_62, zs_107_64, zs_107_66, zs_107_67, zs_107_68, zs_107_70, zs_107_71, zs_107_72, zs_107_74, zs_107_75, zs_107_76, zs_107_77, zs_107_80, zs_107_81, zs_107_84, zs_107_85, zs_107_86, zs_107_88, zs_107_91, zs_107_94, zs_107_96, zs_107_99, zs_107_101, zs_107_102, zs_107_103, zs_107_105, zs_107_106, zs_107_109, zs_107_110, zs_107_111, zs_107_112, zs_107_114, zs_107_117, zs_107_118, zs_107_121, zs_107_122, zs_107_123, zs_107_124, zs_107_127, zs_107_130, zs_107_131, zs_107_132, zs_107_135, zs_107_137, zs_107_138, zs_107_139, zs_107_141, zs_107_143, zs_107_144, zs_107_147, zs_107_148, zs_107_149, zs_107_152, zs_107_153, zs_107_156, zs_107_157, zs_107_160, zs_107_162, zs_107_163, zs_107_164, zs_107_166, zs_107_167, zs_107_168, zs_107_169, zs_107_170, zs_107_173, zs_107_175, zs_107_176, zs_107_179, zs_107_182, zs_107_183, zs_107_184, zs_107_187, zs_107_22h, zs_107_35h, zs_107_141h, za_40, za_52, za_53, zg_31_10, zg_31_23, zg_31_24, zrc_79, zrc_84, zrc_90, zli_0, zli_s, zlr_0, zlr_s, zls_0, zls_s, z1i_e, z2i_e, z1r_e, zir_e, ziir_e, z1v_e, z2v_e, zone_e, znil_e, zsp_0, zsp_s, zlz_0, zlz_1, zlz_2, zlz_3, zlz_4, zswp_0, zswp_s, true_and, and_true, implies_true, true_or, or_true, Int.reduceEq, Int.reduceLT, Int.reduceLE, Int.reduceNeg, not_true_eq_false, not_false_eq_true, false_implies, true_implies, zr_e, zwr_o, zwr_s, Nat.reduceEqDiff]
    rw [zo.1, zo.2]
    refine ⟨by omega, by omega, by omega, by omega, fun a => False.elim (by omega), fun a => ⟨by omega, by omega, hm.1, hm.2.2, by omega, fun b => ?_, fun b => ?_⟩⟩
    · refine ih (i + 1) any (by omega) (by omega) (by omega) ?_
      rcases hg with hg | ⟨hg1, hg2⟩
      · exact Or.inl hg
      · refine Or.inr ⟨hg1, ?_⟩
        rw [zl_s i0, gSo_split, hg2]
        simp only [gSo, Bool.false_or]
        exact if_neg b
    · refine ih (i + 1) 1 (by omega) (by omega) (by omega) (Or.inl ⟨rfl, ?_⟩)
      have key : ∀ l : List Int, ∀ x, x ∈ l → bM σ 7 x = 0 → gSo (bM σ) 0 l = true := by
        intro l
        induction l with
        | nil => intro x hx; cases hx
        | cons y l ihl =>
          intro x hx e
          simp only [gSo]
          split
          · rfl
          · rename_i hy
            rcases List.mem_cons.mp hx with e2 | e2
            · rw [e2] at e; exact absurd e hy
            · exact ihl x e2 e
      exact key _ _ hin b
set_option maxRecDepth 100000 in
theorem m_fun_a {f : Int} (hB : Bd (bM σ)) (h0 : 0 ≤ f) (h1 : f < 16) (hr : ∀ n, 0 ≤ n → n < 10 → mOK σ n f) (w : Int)
    (hQ : Q (if w = -4 then -4 else if gSo (bM σ) 1 (rM σ w f) = true then -4 else gFs (bM σ) (rM σ w f) (rM σ w f)) σ) :
    ∀ (k : Nat) (n only many : Int) (l5 l6 : Option zW), 3 ≤ n → n ≤ 10 → (10 - n).toNat = k → 0 ≤ many → many ≤ n → ((many = 0 ∧ w = gOn (bM σ) (fun n => rM σ n f) (-4) n k) ∨ (∃ o, many = 1 ∧ 3 ≤ o ∧ o < 10 ∧ only = 10 * f + o ∧ w = gOn (bM σ) (fun n => rM σ n f) o n k) ∨ (2 ≤ many ∧ w = -4)) →
      zV 107 zF Q 22 [some (.inr 31), some (.inl f), some (.inl only), some (.inl many), some (.inl n), l5, l6] [] σ := by
  intro k
  induction k with
  | zero =>
    intro n only many l5 l6 n0 n1 nk m0 m1 hi
    have e : n = 10 := by omega
    subst e
    refine zv_107 200 ?_
    simp only [zs_107_0, zs_107_1, zs_107_2, zs_107_5, zs_107_8, zs_107_9, zs_107_10, zs_107_11, zs_107_14, zs_107_16, zs_107_17, zs_107_18, zs_107_19, zs_107_20, zs_107_22, zs_107_24, zs_107_26, zs_107_29, zs_107_30, zs_107_32, zs_107_33, zs_107_35, zs_107_37, zs_107_38, zs_107_41, zs_107_43, zs_107_44, zs_107_45, zs_107_47, zs_107_48, zs_107_49, zs_107_52, zs_107_54, zs_107_55, zs_107_58, zs_107_59, zs_107_62, zs_107_64, zs_107_66, zs_107_67, zs_107_68, zs_107_70, zs_107_71, zs_107_72, zs_107_74, zs_107_75, zs_107_76, zs_107_77, zs_107_80, zs_107_81, zs_107_84, zs_107_85, zs_107_86, zs_107_88, zs_107_91, zs_107_94, zs_107_96, zs_107_99, zs_107_101, zs_107_102, zs_107_103, zs_107_105, zs_107_106, zs_107_109, zs_107_110, zs_107_111, zs_107_112, zs_107_114, zs_107_117, zs_107_118, zs_107_121, zs_107_122, zs_107_123, zs_107_124, zs_107_127, zs_107_130, zs_107_131, zs_107_132, zs_107_135, zs_107_137, zs_107_138, zs_107_139, zs_107_141, zs_107_143, zs_107_144, zs_107_147, zs_107_148, zs_107_149, zs_107_152, zs_107_153, zs_107_156, zs_107_157, zs_107_160, zs_107_162, zs_107_163, zs_107_164, zs_107_166, zs_107_167, zs_107_168, zs_107_169, zs_107_170, zs_107_173, zs_107_175, zs_107_176, zs_107_179, zs_107_182, zs_107_183, zs_107_184, zs_107_187, zs_107_22h, zs_107_35h, zs_107_141h, za_40, za_52, za_53, zg_31_10, zg_31_23, zg_31_24, zrc_79, zrc_84, zrc_90, zli_0, zli_s, zlr_0, zlr_s, zls_0, zls_s, z1i_e, z2i_e, z1r_e, zir_e, ziir_e, z1v_e, z2v_e, zone_e, znil_e, zsp_0, zsp_s, zlz_0, zlz_1, zlz_2, zlz_3, zlz_4, zswp_0, zswp_s, true_and, and_true, implies_true, true_or, or_true, Int.reduceEq, Int.reduceLT, Int.reduceLE, Int.reduceNeg, not_true_eq_false, not_false_eq_true, false_implies, true_implies, zr_e, zwr_o, zwr_s, Nat.reduceEqDiff]
    refine ⟨by omega, fun b => ?_, fun b => ?_⟩
    · rcases hi with hi | ⟨o, e1, o0, o1, eo, ew⟩ | hi
      · exact False.elim (by omega)
      · simp only [gOn] at ew
        rw [ew, if_neg (by omega)] at hQ
        have hro := hr o (by omega) o1
        refine m_fun_c hB h0 h1 (by omega) o1 eo hro hQ _ 0 (by omega) (by rw [eo]; exact hro.1) rfl ?_
        rw [zl_0 (by omega)]
        rfl
      · exact False.elim (by omega)
    · rcases hi with hi | ⟨o, e1, -⟩ | hi
      · have ew := hi.2
        simp only [gOn] at ew
        rw [if_pos ew] at hQ
        exact hQ
      · exact absurd e1 b
      · rw [if_pos hi.2] at hQ
        exact hQ
  | succ k ih =>
    intro n only many l5 l6 n0 n1 nk m0 m1 hi
    have n10 : n < 10 := by clear hi; omega
    have zk : (10 - (n + 1)).toNat = k := by clear hi; omega
    have hm3 : 3 ≤ n + 1 ∧ n + 1 ≤ 10 ∧ 0 ≤ many + 1 ∧ many + 1 ≤ n + 1 ∧ many ≤ n + 1 := by clear hi; omega
    have hrn := hr n (by clear hi; omega) n10
    refine zv_107 200 ?_
    simp only [zs_107_0, zs_107_1, zs_107_2, zs_107_5, zs_107_8, zs_107_9, zs_107_10, zs_107_11, zs_107_14, zs_107_16, zs_107_17, zs_107_18, zs_107_19, zs_107_20, zs_107_22, zs_107_24, zs_107_26, zs_107_29, zs_107_30, zs_107_32, zs_107_33, zs_107_35, zs_107_37, zs_107_38, zs_107_41, zs_107_43, zs_107_44, zs_107_45, zs_107_47, zs_107_48, zs_107_49, zs_107_52, zs_107_54, zs_107_55, zs_107_58, zs_107_59, zs_107_62, zs_107_64, zs_107_66, zs_107_67, zs_107_68, zs_107_70, zs_107_71, zs_107_72, zs_107_74, zs_107_75, zs_107_76, zs_107_77, zs_107_80, zs_107_81, zs_107_84, zs_107_85, zs_107_86, zs_107_88, zs_107_91, zs_107_94, zs_107_96, zs_107_99, zs_107_101, zs_107_102, zs_107_103, zs_107_105, zs_107_106, zs_107_109, zs_107_110, zs_107_111, zs_107_112, zs_107_114, zs_107_117, zs_107_118, zs_107_121, zs_107_122, zs_107_123, zs_107_124, zs_107_127, zs_107_130, zs_107_131, zs_107_132, zs_107_135, zs_107_137, zs_107_138, zs_107_139, zs_107_141, zs_107_143, zs_107_144, zs_107_147, zs_107_148, zs_107_149, zs_107_152, zs_107_153, zs_107_156, zs_107_157, zs_107_160, zs_107_162, zs_107_163, zs_107_164, zs_107_166, zs_107_167, zs_107_168, zs_107_169, zs_107_170, zs_107_173, zs_107_175, zs_107_176, zs_107_179, zs_107_182, zs_107_183, zs_107_184, zs_107_187, zs_107_22h, zs_107_35h, zs_107_141h, za_40, za_52, za_53, zg_31_10, zg_31_23, zg_31_24, zrc_79, zrc_84, zrc_90, zli_0, zli_s, zlr_0, zlr_s, zls_0, zls_s, z1i_e, z2i_e, z1r_e, zir_e, ziir_e, z1v_e, z2v_e, zone_e, znil_e, zsp_0, zsp_s, zlz_0, zlz_1, zlz_2, zlz_3, zlz_4, zswp_0, zswp_s, true_and, and_true, implies_true, true_or, or_true, Int.reduceEq, Int.reduceLT, Int.reduceLE, Int.reduceNeg, not_true_eq_false, not_false_eq_true, false_implies, true_implies, zr_e, zwr_o, zwr_s, Nat.reduceEqDiff]
    refine ⟨by clear hi; omega, fun a => absurd n10 (Int.not_lt.mpr a), fun a => ?_⟩
    refine m_fun_b hB h0 h1 (by clear hi; omega) n10 hrn (fun b l5 l6 => ?_) (fun b l5 l6 => ?_) _ 0 0 (by omega) hrn.1 rfl (Or.inr ⟨rfl, by rw [zl_0 (by omega)]; rfl⟩)
    · refine ih (n + 1) (10 * f + n) (many + 1) l5 l6 hm3.1 hm3.2.1 zk hm3.2.2.1 hm3.2.2.2.1 ?_
      rcases hi with ⟨e1, ew⟩ | ⟨o, e1, o0, o1, eo, ew⟩ | ⟨e1, ew⟩
      · simp only [gOn] at ew
        rw [if_pos b, if_pos trivial] at ew
        exact Or.inr (Or.inl ⟨n, by omega, n0, n10, rfl, ew⟩)
      · simp only [gOn] at ew
        rw [if_pos b, if_neg (by omega)] at ew
        exact Or.inr (Or.inr ⟨by omega, ew⟩)
      · exact Or.inr (Or.inr ⟨by omega, ew⟩)
    · refine ih (n + 1) only many l5 l6 hm3.1 hm3.2.1 zk m0 hm3.2.2.2.2 ?_
      have bf : ¬ gSo (bM σ) 0 (rM σ n f) = true := by rw [b]; decide
      rcases hi with ⟨e1, ew⟩ | ⟨o, e1, o0, o1, eo, ew⟩ | ⟨e1, ew⟩
      · simp only [gOn] at ew
        rw [if_neg bf] at ew
        exact Or.inl ⟨e1, ew⟩
      · simp only [gOn] at ew
        rw [if_neg bf] at ew
        exact Or.inr (Or.inl ⟨o, e1, o0, o1, eo, ew⟩)
      · exact Or.inr (Or.inr ⟨e1, ew⟩)
end M12
