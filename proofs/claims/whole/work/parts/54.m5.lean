/-! what a type runs, as the reference finds it -/
def gRM (B : zS) : List Int → Int → Int → Int → Int → Int
  | [], ma, one, bo, un => if ma = 1 ∧ B 7 one = 1 then one else -4 - (if ma = 0 then 1 else if 1 < ma ∧ ¬ bo = 0 ∧ un = 0 then 2 else 3)
  | m :: l, ma, one, bo, un => if B 7 m = 2 ∨ B 7 m = 3 then gRM B l ma one bo un else if ¬ B 0 (B 6 m) = 2 ∧ ¬ B 7 m = 0 then m else gRM B l (ma + 1) m (if B 7 m = 1 then 1 else bo) (if B 0 (B 6 m) = 2 then un else 1)
theorem gRM_gRX {B : zS} : ∀ (l : List Int) (al one bX bM ac : Int), (∀ m, m ∈ l → 0 ≤ m) → 0 ≤ al → ((bX = -4 ∧ bM = 0 ∧ (al = 1 → ¬ B 7 one = 1)) ∨ (¬ bX = -4 ∧ bM = 1 ∧ 1 ≤ al ∧ (al = 1 → bX = one ∧ B 7 one = 1))) → gRM B l al one bM ac = gRX B l al bX ac
  | [], al, one, bX, bM, ac, _, h0, h => by
    simp only [gRM, gRX]
    rcases h with ⟨rfl, rfl, h1⟩ | ⟨h1, rfl, h2, h3⟩
    · rw [if_neg (fun z => h1 z.1 z.2)]
      by_cases e : al = 0
      · rw [if_pos e, if_pos e]; rfl
      · rw [if_neg e, if_neg e, if_neg (by omega), if_pos rfl]; rfl
    · have e0 : ¬ al = 0 := by omega
      by_cases e : al = 1
      · have := h3 e
        simp only [e0, h1, e, this.2, and_self, if_true, if_false, Int.reduceEq]
        exact this.1.symm
      · by_cases e2 : ac = 0
        · have e3 : 1 < al ∧ ¬ (1 : Int) = 0 ∧ ac = 0 := ⟨by omega, by omega, e2⟩
          simp only [e0, h1, e, e2, e3, false_and, if_true, if_false]
          simp [show 1 < al by omega]
        · simp only [e0, h1, e, e2, false_and, and_false, if_true, if_false]
          rfl
  | m :: l, al, one, bX, bM, ac, hl, h0, h => by
    have hm := hl m (by simp)
    have hl2 : ∀ x, x ∈ l → 0 ≤ x := fun x hx => hl x (by simp [hx])
    simp only [gRM, gRX]
    split
    · exact gRM_gRX l al one bX bM ac hl2 h0 h
    · split
      · rfl
      · refine gRM_gRX l _ _ _ _ _ hl2 (by omega) ?_
        by_cases e : B 7 m = 1
        · rw [if_pos e, if_pos e]
          exact Or.inr ⟨by omega, rfl, by omega, fun _ => ⟨rfl, e⟩⟩
        · rw [if_neg e, if_neg e]
          rcases h with ⟨a, b, c⟩ | ⟨a, b, c, d⟩
          · exact Or.inl ⟨a, b, fun _ => e⟩
          · exact Or.inr ⟨a, b, by omega, fun z => by omega⟩
section M5
variable {σ : zS} {Q : Int → zS → Prop}
theorem mOK_m {n t i : Int} (hB : Bd (bM σ)) (hr : mOK σ n t) (h0 : 0 ≤ i) (h1 : i < σ 53 (10 * t + n)) : 0 ≤ σ 52 (16 * (10 * t + n) + i) ∧ σ 52 (16 * (10 * t + n) + i) < σ 31 7 ∧ σ 52 (16 * (10 * t + n) + i) < 60 := by
  have := hr.2.2.2 (σ 52 (16 * (10 * t + n) + i)) (show _ ∈ zl (fun i => σ 52 (16 * (10 * t + n) + i)) (σ 53 (10 * t + n)) from zl_mem.mpr ⟨i, h0, h1, rfl⟩)
  have h2 : σ 52 (16 * (10 * t + n) + i) < σ 31 7 := this.2.1
  have hnn : _ ∧ _ ∧ _ ∧ σ 31 7 ≤ 60 := hB.n
  exact ⟨this.1, h2, by omega⟩
set_option maxHeartbeats 8000000 in
set_option maxRecDepth 100000 in
theorem m_runs_loop {t n : Int} (hB : Bd (bM σ)) (h0 : 0 ≤ t) (h1 : t < 16) (h2 : 0 ≤ n) (h3 : n < 10) (hr : mOK σ n t) :
    ∀ (k : Nat) (i ma one bo un : Int) (l9 l10 : Option zW), 0 ≤ i → i ≤ σ 53 (10 * t + n) → (σ 53 (10 * t + n) - i).toNat = k → 0 ≤ ma → ma ≤ i → (ma = 0 ∨ (0 ≤ one ∧ one < 60)) → (bo = 0 ∨ bo = 1) → (un = 0 ∨ un = 1) → Q (gRM (bM σ) (zd (fun i => σ 52 (16 * (10 * t + n) + i)) i k) ma one bo un) σ →
      zV 88 zF Q 23 [some (.inr 31), some (.inl t), some (.inl n), some (.inl (10 * t + n)), some (.inl ma), some (.inl one), some (.inl bo), some (.inl un), some (.inl i), l9, l10] [] σ := by
  have hc := hr.1
  have hc2 := hr.2.1
  intro k
  induction k with
  | zero =>
    intro i ma one bo un l9 l10 i0 i1 ik m0 m1 ho hbo hun hQ
    have hQ : Q (if ma = 1 ∧ σ 40 one = 1 then one else -4 - (if ma = 0 then 1 else if 1 < ma ∧ ¬ bo = 0 ∧ un = 0 then 2 else 3)) σ := hQ
    refine zv_88 200 ?_
    simp only [zs_88_0, zs_88_2, zs_88_3, zs_88_4, zs_88_5, zs_88_6, zs_88_7, zs_88_8, zs_88_10, zs_88_12, zs_88_14, zs_88_15, zs_88_17, zs_88_18, zs_88_20, zs_88_21, zs_88_23, zs_88_25, zs_88_26, zs_88_29, zs_88_30, zs_88_31, zs_88_34, zs_88_35, zs_88_38, zs_88_40, zs_88_41, zs_88_42, zs_88_44, zs_88_45, zs_88_46, zs_88_48, zs_88_49, zs_88_52, zs_88_54, zs_88_55, zs_88_56, zs_88_59, zs_88_60, zs_88_63, zs_88_65, zs_88_66, zs_88_67, zs_88_70, zs_88_71, zs_88_74, zs_88_75, zs_88_78, zs_88_80, zs_88_81, zs_88_82, zs_88_83, zs_88_86, zs_88_87, zs_88_90, zs_88_91, zs_88_93, zs_88_95, zs_88_98, zs_88_99, zs_88_102, zs_88_104, zs_88_105, zs_88_108, zs_88_110, zs_88_111, zs_88_114, zs_88_116, zs_88_118, zs_88_120, zs_88_121, zs_88_124, zs_88_126, zs_88_127, zs_88_128, zs_88_131, zs_88_132, zs_88_135, zs_88_136, zs_88_137, zs_88_139, zs_88_141, zs_88_143, zs_88_144, zs_88_146, zs_88_149, zs_88_152, zs_88_154, zs_88_155, zs_88_158, zs_88_159, zs_88_162, zs_88_164, zs_88_165, zs_88_166, zs_88_169, zs_88_171, zs_88_172, zs_88_174, zs_88_176, zs_88_179, zs_88_180, zs_88_183, zs_88_185, zs_88_186, zs_88_189, zs_88_191, zs_88_194, zs_88_196, zs_88_199, zs_88_200, zs_88_203, zs_88_204, zs_88_205, zs_88_23h, za_32, za_38, za_40, za_52, za_53, zg_31_1, zg_31_10, zg_31_23, zg_31_24, zg_31_8, zli_0, zli_s, zlr_0, zlr_s, zls_0, zls_s, z1i_e, z2i_e, z1r_e, zir_e, ziir_e, z1v_e, z2v_e, zone_e, znil_e, zsp_0, zsp_s, zlz_0, zlz_1, zlz_2, zlz_3, zlz_4, zswp_0, zswp_s, true_and, and_true, implies_true, true_or, or_true, Int.reduceEq, Int.reduceLT, Int.reduceLE, Int.reduceNeg, not_true_eq_false, not_false_eq_true, false_implies, true_implies, zr_e, zwr_o, zwr_s, Nat.reduceEqDiff]
    have kOne : ma = 1 → σ 40 one = 1 → Q one σ := fun a b => by rw [if_pos ⟨a, b⟩] at hQ; exact hQ
    have k1 : ma = 0 → Q (-4 - 1) σ := fun a => by rw [if_neg (by omega), if_pos a] at hQ; exact hQ
    have k2 : 1 < ma → ¬ bo = 0 → un = 0 → Q (-4 - 2) σ := fun a b c => by rw [if_neg (by omega), if_neg (by omega), if_pos ⟨a, b, c⟩] at hQ; exact hQ
    have k3 : ¬ ma = 0 → ¬ (ma = 1 ∧ σ 40 one = 1) → ¬ (1 < ma ∧ ¬ bo = 0 ∧ un = 0) → Q (-4 - 3) σ := fun a b c => by rw [if_neg b, if_neg a, if_neg c] at hQ; exact hQ
    by_cases hma : ma = 1
    · have hb := mM (m := one) hB (by omega) (by omega)
      repeat' first | apply And.intro | (apply kOne <;> omega) | (apply k1; omega) | (apply k2 <;> omega) | (apply k3 <;> omega) | intro _ | omega
    · repeat' first | apply And.intro | (apply kOne <;> omega) | (apply k1; omega) | (apply k2 <;> omega) | (apply k3 <;> omega) | intro _ | omega
  | succ k ih =>
    intro i ma one bo un l9 l10 i0 i1 ik m0 m1 ho hbo hun hQ
    have hm := mOK_m hB hr i0 (by omega)
    have hb := mM hB hm.1 hm.2.2
    simp only [zd, gRM] at hQ
    have hz := zor01 hbo
    have hz2 := zor01 hun
    generalize hg : σ 52 (16 * (10 * t + n) + i) = m at *
    have hQ : Q (if σ 40 m = 2 ∨ σ 40 m = 3 then gRM (bM σ) (zd (fun i => σ 52 (16 * (10 * t + n) + i)) (i + 1) k) ma one bo un else if ¬ σ 32 (σ 38 m) = 2 ∧ ¬ σ 40 m = 0 then m else gRM (bM σ) (zd (fun i => σ 52 (16 * (10 * t + n) + i)) (i + 1) k) (ma + 1) m (if σ 40 m = 1 then 1 else bo) (if σ 32 (σ 38 m) = 2 then un else 1)) σ := hQ
    have skip : σ 40 m = 2 ∨ σ 40 m = 3 → ∀ l9 l10, zV 88 zF Q 23 [some (.inr 31), some (.inl t), some (.inl n), some (.inl (10 * t + n)), some (.inl ma), some (.inl one), some (.inl bo), some (.inl un), some (.inl (i + 1)), l9, l10] [] σ := by
      intro c l9 l10
      rw [if_pos c] at hQ
      exact ih (i + 1) ma one bo un l9 l10 (by omega) (by omega) (by omega) m0 (by omega) ho hbo hun hQ
    have fnd : ¬ (σ 40 m = 2 ∨ σ 40 m = 3) → ¬ σ 32 (σ 38 m) = 2 ∧ ¬ σ 40 m = 0 → Q m σ := by
      intro c c2
      rw [if_neg c, if_pos c2] at hQ
      exact hQ
    have go : ¬ (σ 40 m = 2 ∨ σ 40 m = 3) → ¬ (¬ σ 32 (σ 38 m) = 2 ∧ ¬ σ 40 m = 0) → ∀ bo' un', bo' = (if σ 40 m = 1 then 1 else bo) → un' = (if σ 32 (σ 38 m) = 2 then un else 1) → ∀ l9 l10, zV 88 zF Q 23 [some (.inr 31), some (.inl t), some (.inl n), some (.inl (10 * t + n)), some (.inl (ma + 1)), some (.inl m), some (.inl bo'), some (.inl un'), some (.inl (i + 1)), l9, l10] [] σ := by
      intro c c2 bo' un' e1 e2 l9 l10
      rw [if_neg c, if_neg c2, ← e1, ← e2] at hQ
      refine ih (i + 1) (ma + 1) m bo' un' l9 l10 (by omega) (by omega) (by omega) (by omega) (by omega) (Or.inr ⟨hm.1, hm.2.2⟩) ?_ ?_ hQ
      · rw [e1]; split <;> omega
      · rw [e2]; split <;> omega
    clear hQ ih
    refine zv_88 200 ?_
    simp only [zs_88_0, zs_88_2, zs_88_3, zs_88_4, zs_88_5, zs_88_6, zs_88_7, zs_88_8, zs_88_10, zs_88_12, zs_88_14, zs_88_15, zs_88_17, zs_88_18, zs_88_20, zs_88_21, zs_88_23, zs_88_25, zs_88_26, zs_88_29, zs_88_30, zs_88_31, zs_88_34, zs_88_35, zs_88_38, zs_88_40, zs_88_41, zs_88_42, zs_88_44, zs_88_45, zs_88_46, zs_88_48, zs_88_49, zs_88_52, zs_88_54, zs_88_55, zs_88_56, zs_88_59, zs_88_60, zs_88_63, zs_88_65, zs_88_66, zs_88_67, zs_88_70, zs_88_71, zs_88_74, zs_88_75, zs_88_78, zs_88_80, zs_88_81, zs_88_82, zs_88_83, zs_88_86, zs_88_87, zs_88_90, zs_88_91, zs_88_93, zs_88_95, zs_88_98, zs_88_99, zs_88_102, zs_88_104, zs_88_105, zs_88_108, zs_88_110, zs_88_111, zs_88_114, zs_88_116, zs_88_118, zs_88_120, zs_88_121, zs_88_124, zs_88_126, zs_88_127, zs_88_128, zs_88_131, zs_88_132, zs_88_135, zs_88_136, zs_88_137, zs_88_139, zs_88_141, zs_88_143, zs_88_144, zs_88_146, zs_88_149, zs_88_152, zs_88_154, zs_88_155, zs_88_158, zs_88_159, zs_88_162, zs_88_164, zs_88_165, zs_88_166, zs_88_169, zs_88_171, zs_88_172, zs_88_174, zs_88_176, zs_88_179, zs_88_180, zs_88_183, zs_88_185, zs_88_186, zs_88_189, zs_88_191, zs_88_194, zs_88_196, zs_88_199, zs_88_200, zs_88_203, zs_88_204, zs_88_205, zs_88_23h, za_32, za_38, za_40, za_52, za_53, zg_31_1, zg_31_10, zg_31_23, zg_31_24, zg_31_8, zli_0, zli_s, zlr_0, zlr_s, zls_0, zls_s, z1i_e, z2i_e, z1r_e, zir_e, ziir_e, z1v_e, z2v_e, zone_e, znil_e, zsp_0, zsp_s, zlz_0, zlz_1, zlz_2, zlz_3, zlz_4, zswp_0, zswp_s, true_and, and_true, implies_true, true_or, or_true, Int.reduceEq, Int.reduceLT, Int.reduceLE, Int.reduceNeg, not_true_eq_false, not_false_eq_true, false_implies, true_implies, zr_e, zwr_o, zwr_s, Nat.reduceEqDiff]
    rw [hg, hz.1, hz.2, hz2.1, hz2.2]
    clear ho hbo hun hz hz2 hr
    repeat' first | apply And.intro | (apply skip; omega) | (apply fnd <;> omega) | (apply go <;> first | omega | (rw [if_pos (by omega)]) | (rw [if_neg (by omega)])) | intro _ | omega
set_option maxRecDepth 100000 in
theorem m_runsOf {t n : Int} (hB : Bd (bM σ)) (h0 : 0 ≤ t) (h1 : t < 16) (h2 : 0 ≤ n) (h3 : n < 10) (hr : mOK σ n t) (h : Q (gRX (bM σ) (rM σ n t) 0 (-4) 0) σ) : zM 88 zF [.inr 31, .inl t, .inl n] σ Q := by
  refine ze_88 200 ?_
  simp only [zs_88_0, zs_88_2, zs_88_3, zs_88_4, zs_88_5, zs_88_6, zs_88_7, zs_88_8, zs_88_10, zs_88_12, zs_88_14, zs_88_15, zs_88_17, zs_88_18, zs_88_20, zs_88_21, zs_88_23, zs_88_25, zs_88_26, zs_88_29, zs_88_30, zs_88_31, zs_88_34, zs_88_35, zs_88_38, zs_88_40, zs_88_41, zs_88_42, zs_88_44, zs_88_45, zs_88_46, zs_88_48, zs_88_49, zs_88_52, zs_88_54, zs_88_55, zs_88_56, zs_88_59, zs_88_60, zs_88_63, zs_88_65, zs_88_66, zs_88_67, zs_88_70, zs_88_71, zs_88_74, zs_88_75, zs_88_78, zs_88_80, zs_88_81, zs_88_82, zs_88_83, zs_88_86, zs_88_87, zs_88_90, zs_88_91, zs_88_93, zs_88_95, zs_88_98, zs_88_99, zs_88_102, zs_88_104, zs_88_105, zs_88_108, zs_88_110, zs_88_111, zs_88_114, zs_88_116, zs_88_118, zs_88_120, zs_88_121, zs_88_124, zs_88_126, zs_88_127, zs_88_128, zs_88_131, zs_88_132, zs_88_135, zs_88_136, zs_88_137, zs_88_139, zs_88_141, zs_88_143, zs_88_144, zs_88_146, zs_88_149, zs_88_152, zs_88_154, zs_88_155, zs_88_158, zs_88_159, zs_88_162, zs_88_164, zs_88_165, zs_88_166, zs_88_169, zs_88_171, zs_88_172, zs_88_174, zs_88_176, zs_88_179, zs_88_180, zs_88_183, zs_88_185, zs_88_186, zs_88_189, zs_88_191, zs_88_194, zs_88_196, zs_88_199, zs_88_200, zs_88_203, zs_88_204, zs_88_205, za_32, za_38, za_40, za_52, za_53, zg_31_1, zg_31_10, zg_31_23, zg_31_24, zg_31_8, zli_0, zli_s, zlr_0, zlr_s, zls_0, zls_s, z1i_e, z2i_e, z1r_e, zir_e, ziir_e, z1v_e, z2v_e, zone_e, znil_e, zsp_0, zsp_s, zlz_0, zlz_1, zlz_2, zlz_3, zlz_4, zswp_0, zswp_s, true_and, and_true, implies_true, true_or, or_true, Int.reduceEq, Int.reduceLT, Int.reduceLE, Int.reduceNeg, not_true_eq_false, not_false_eq_true, false_implies, true_implies, zr_e, zwr_o, zwr_s, Nat.reduceEqDiff]
  refine m_runs_loop hB h0 h1 h2 h3 hr _ 0 0 (-4) 0 0 _ _ (by omega) hr.1 rfl (by omega) (by omega) (Or.inl rfl) (Or.inl rfl) (Or.inl rfl) ?_
  rw [Int.sub_zero, ← zl_zd]
  have e := gRM_gRX (B := bM σ) (rM σ n t) 0 (-4) (-4) 0 0 (fun m hm => (hr.2.2.2 m hm).1) (by omega) (Or.inl ⟨rfl, rfl, fun z => by omega⟩)
  show Q (gRM (bM σ) (rM σ n t) 0 (-4) 0 0) σ
  rw [e]
  exact h
end M5
