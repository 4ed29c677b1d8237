/-! a row from a place on -/
def zd (f : Int → Int) (i : Int) : Nat → List Int
  | 0 => []
  | k + 1 => f i :: zd f (i + 1) k
theorem zd_eq (f : Int → Int) (k : Nat) : ∀ i : Int, zd f i k = (List.range k).map (fun j : Nat => f (i + (j : Int))) := by
  induction k with
  | zero => intro i; rfl
  | succ k ih =>
    intro i
    rw [zd, ih, List.range_succ_eq_map]
    simp only [List.map_cons, List.map_map]
    congr 1
    · simp
    · apply List.map_congr_left
      intro j _
      simp only [Function.comp]
      congr 1
      omega
theorem zl_zd {f : Int → Int} {c : Int} : zl f c = zd f 0 c.toNat := by
  rw [zd_eq, zl]
  simp
/-! what a type runs, as X finds it -/
def gRX (B : zS) : List Int → Int → Int → Int → Int
  | [], al, bo, ac => if al = 0 then -5 else if bo = -4 then -7 else if al = 1 then bo else if ac = 0 then -6 else -7
  | m :: l, al, bo, ac => if B 7 m = 2 ∨ B 7 m = 3 then gRX B l al bo ac else if ¬ B 0 (B 6 m) = 2 ∧ ¬ B 7 m = 0 then m else gRX B l (al + 1) (if B 7 m = 1 then m else bo) (if B 0 (B 6 m) = 2 then ac else 1)
def gSt (B : zS) : List Int → Int
  | [] => -5
  | m :: l => if B 7 m = 2 then m else gSt B l
def gSo (B : zS) (s : Int) : List Int → Bool
  | [] => false
  | m :: l => if B 7 m = s then true else gSo B s l
def gSa (B : zS) (m : Int) : List Int → Bool
  | [] => true
  | o :: l => if B 8 m = B 8 o ∨ B 8 o = 0 ∨ (B 8 m = 3 ∧ B 8 o = 1) then gSa B m l else false
def gFs (B : zS) (l0 : List Int) : List Int → Int
  | [] => -4
  | m :: l => if gSa B m l0 = true then m else gFs B l0 l
theorem zor01 {a : Int} (h : a = 0 ∨ a = 1) : zor a 0 = a ∧ zor a 1 = 1 := by
  rcases h with rfl | rfl <;> exact ⟨by decide +kernel, by decide +kernel⟩
section X10
variable {σ : zS} {Q : Int → zS → Prop}
theorem rOK_m {n t i : Int} (hB : Bd (bX σ)) (hr : rOK σ n t) (h0 : 0 ≤ i) (h1 : i < σ 26 (n * 16 + t)) : 0 ≤ σ 27 ((n * 16 + t) * 16 + i) ∧ σ 27 ((n * 16 + t) * 16 + i) < σ 2 0 ∧ σ 27 ((n * 16 + t) * 16 + i) < 60 := by
  have := hr.2.2.2 (σ 27 ((n * 16 + t) * 16 + i)) (zl_mem.mpr ⟨i, h0, h1, rfl⟩)
  have h2 : σ 27 ((n * 16 + t) * 16 + i) < σ 2 0 := this.2.1
  have hnn : _ ∧ _ ∧ _ ∧ σ 2 0 ≤ 60 := hB.n
  exact ⟨this.1, h2, by omega⟩
theorem mB {m : Int} (hB : Bd (bX σ)) (h0 : 0 ≤ m) (h1 : m < 60) : (0 ≤ σ 17 m ∧ σ 17 m ≤ 15 ∧ 0 ≤ σ 18 m ∧ σ 18 m ≤ 4) ∧ (0 ≤ σ 6 (σ 17 m) ∧ σ 6 (σ 17 m) ≤ 2) ∧ (0 ≤ σ 23 m ∧ σ 23 m ≤ 3) := by
  have hme : 0 ≤ σ 17 m ∧ σ 17 m ≤ 15 ∧ 0 ≤ σ 18 m ∧ σ 18 m ≤ 4 ∧ 0 ≤ σ 23 m ∧ σ 23 m ≤ 3 ∧ _ := hB.me m h0 h1
  have hk : 0 ≤ σ 6 (σ 17 m) ∧ σ 6 (σ 17 m) ≤ 2 := hB.kind (σ 17 m) (by omega) (by omega)
  omega
set_option maxRecDepth 100000 in
theorem x_runner_loop {n t : Int} (hB : Bd (bX σ)) (h0 : 0 ≤ t) (h1 : t < 16) (h2 : 0 ≤ n) (h3 : n < 10) (hr : rOK σ n t) :
    ∀ (k : Nat) (i al bo ac : Int) (l7 l8 l9 : Option zW), 0 ≤ i → i ≤ σ 26 (n * 16 + t) → (σ 26 (n * 16 + t) - i).toNat = k → 0 ≤ al → al ≤ i → (bo = -4 ∨ (0 ≤ bo ∧ bo < 60)) → (ac = 0 ∨ ac = 1) → Q (gRX (bX σ) (zd (fun i => σ 27 ((n * 16 + t) * 16 + i)) i k) al bo ac) σ →
      zV 25 zF Q 12 [some (.inr 3), some (.inl t), some (.inl n), some (.inl al), some (.inl bo), some (.inl ac), some (.inl i), l7, l8, l9] [] σ := by
  have hc := hr.1
  have hc2 := hr.2.1
  intro k
  induction k with
  | zero =>
    intro i al bo ac l7 l8 l9 i0 i1 ik al0 al1 hbo hac hQ
    simp only [zd, gRX] at hQ
    refine zv_25 200 ?_
    simp only [zs_25_0, zs_25_1, zs_25_2, zs_25_4, zs_25_6, zs_25_7, zs_25_9, zs_25_10, zs_25_12, zs_25_14, zs_25_15, zs_25_16, zs_25_17, zs_25_20, zs_25_23, zs_25_24, zs_25_25, zs_25_26, zs_25_28, zs_25_31, zs_25_33, zs_25_34, zs_25_37, zs_25_40, zs_25_42, zs_25_43, zs_25_45, zs_25_47, zs_25_48, zs_25_51, zs_25_53, zs_25_54, zs_25_57, zs_25_60, zs_25_61, zs_25_64, zs_25_67, zs_25_68, zs_25_71, zs_25_74, zs_25_76, zs_25_77, zs_25_78, zs_25_79, zs_25_82, zs_25_83, zs_25_86, zs_25_87, zs_25_89, zs_25_91, zs_25_94, zs_25_96, zs_25_99, zs_25_101, zs_25_102, zs_25_105, zs_25_107, zs_25_108, zs_25_111, zs_25_113, zs_25_116, zs_25_118, zs_25_120, zs_25_122, zs_25_125, zs_25_127, zs_25_130, zs_25_131, zs_25_134, zs_25_135, zs_25_137, zs_25_140, zs_25_143, zs_25_144, zs_25_147, zs_25_149, zs_25_150, zs_25_152, zs_25_154, zs_25_157, zs_25_159, zs_25_160, zs_25_161, zs_25_162, zs_25_165, zs_25_167, zs_25_168, zs_25_170, zs_25_173, zs_25_175, zs_25_178, zs_25_180, zs_25_12h, za_17, za_18, za_6, zg_1_1, zg_2_1, zg_2_2, zg_3_0, zg_3_1, zrc_17, zrc_18, zli_0, zli_s, zlr_0, zlr_s, zls_0, zls_s, z1i_e, z2i_e, z1r_e, zir_e, ziir_e, z1v_e, z2v_e, zone_e, znil_e, zsp_0, zsp_s, zlz_0, zlz_1, zlz_2, zlz_3, zlz_4, zswp_0, zswp_s, true_and, and_true, implies_true, true_or, or_true, Int.reduceEq, Int.reduceLT, Int.reduceLE, Int.reduceNeg, not_true_eq_false, not_false_eq_true, false_implies, true_implies, zr_e, zwr_o, zwr_s, Nat.reduceEqDiff]
    refine x_countOf h0 h1 h2 h3 ?_
    refine ⟨by omega, by omega, fun a => ?_, fun a => by omega⟩
    by_cases c1 : al = 0
    · rw [if_pos c1] at hQ
      exact ⟨by omega, fun b => absurd c1 b, fun b => hQ⟩
    · rw [if_neg c1] at hQ
      refine ⟨by omega, fun b => ?_, fun b => absurd b c1⟩
      by_cases c2 : bo = -4
      · rw [if_pos c2] at hQ
        exact ⟨by omega, fun b => absurd c2 b, fun b => hQ⟩
      · rw [if_neg c2] at hQ
        refine ⟨by omega, fun b => ?_, fun b => absurd b c2⟩
        by_cases c3 : al = 1
        · rw [if_pos c3] at hQ
          exact ⟨by omega, fun b => absurd c3 b, fun b => hQ⟩
        · rw [if_neg c3] at hQ
          refine ⟨by omega, fun b => ?_, fun b => absurd b c3⟩
          by_cases c4 : ac = 0
          · rw [if_pos c4] at hQ
            exact ⟨by omega, fun b => hQ, fun b => absurd c4 b⟩
          · rw [if_neg c4] at hQ
            exact ⟨by omega, fun b => absurd b c4, fun b => hQ⟩
  | succ k ih =>
    intro i al bo ac l7 l8 l9 i0 i1 ik al0 al1 hbo hac hQ
    have hm := rOK_m hB hr i0 (by omega)
    have hb := mB hB hm.1 hm.2.2
    simp only [zd, gRX] at hQ
    refine zv_25 200 ?_
    simp only [zs_25_0, zs_25_1, zs_25_2, zs_25_4, zs_25_6, zs_25_7, zs_25_9, zs_25_10, zs_25_12, zs_25_14, zs_25_15, zs_25_16, zs_25_17, zs_25_20, zs_25_23, zs_25_24, zs_25_25, zs_25_26, zs_25_28, zs_25_31, zs_25_33, zs_25_34, zs_25_37, zs_25_40, zs_25_42, zs_25_43, zs_25_45, zs_25_47, zs_25_48, zs_25_51, zs_25_53, zs_25_54, zs_25_57, zs_25_60, zs_25_61, zs_25_64, zs_25_67, zs_25_68, zs_25_71, zs_25_74, zs_25_76, zs_25_77, zs_25_78, zs_25_79, zs_25_82, zs_25_83, zs_25_86, zs_25_87, zs_25_89, zs_25_91, zs_25_94, zs_25_96, zs_25_99, zs_25_101, zs_25_102, zs_25_105, zs_25_107, zs_25_108, zs_25_111, zs_25_113, zs_25_116, zs_25_118, zs_25_120, zs_25_122, zs_25_125, zs_25_127, zs_25_130, zs_25_131, zs_25_134, zs_25_135, zs_25_137, zs_25_140, zs_25_143, zs_25_144, zs_25_147, zs_25_149, zs_25_150, zs_25_152, zs_25_154, zs_25_157, zs_25_159, zs_25_160, zs_25_161, zs_25_162, zs_25_165, zs_25_167, zs_25_168, zs_25_170, zs_25_173, zs_25_175, zs_25_178, zs_25_180, zs_25_12h, za_17, za_18, za_6, zg_1_1, zg_2_1, zg_2_2, zg_3_0, zg_3_1, zrc_17, zrc_18, zli_0, zli_s, zlr_0, zlr_s, zls_0, zls_s, z1i_e, z2i_e, z1r_e, zir_e, ziir_e, z1v_e, z2v_e, zone_e, znil_e, zsp_0, zsp_s, zlz_0, zlz_1, zlz_2, zlz_3, zlz_4, zswp_0, zswp_s, true_and, and_true, implies_true, true_or, or_true, Int.reduceEq, Int.reduceLT, Int.reduceLE, Int.reduceNeg, not_true_eq_false, not_false_eq_true, false_implies, true_implies, zr_e, zwr_o, zwr_s, Nat.reduceEqDiff]
    refine x_countOf h0 h1 h2 h3 ?_
    refine ⟨by omega, by omega, fun a => by omega, fun a => ?_⟩
    refine x_heldAt h0 h1 h2 h3 i0 (by omega) ?_
    generalize σ 27 ((n * 16 + t) * 16 + i) = m at *
    have hQ : Q (if σ 18 m = 2 ∨ σ 18 m = 3 then gRX (bX σ) (zd (fun i => σ 27 ((n * 16 + t) * 16 + i)) (i + 1) k) al bo ac else if ¬ σ 6 (σ 17 m) = 2 ∧ ¬ σ 18 m = 0 then m else gRX (bX σ) (zd (fun i => σ 27 ((n * 16 + t) * 16 + i)) (i + 1) k) (al + 1) (if σ 18 m = 1 then m else bo) (if σ 6 (σ 17 m) = 2 then ac else 1)) σ := hQ
    have skip : σ 18 m = 2 ∨ σ 18 m = 3 → ∀ l7 l8 l9, zV 25 zF Q 12 [some (.inr 3), some (.inl t), some (.inl n), some (.inl al), some (.inl bo), some (.inl ac), some (.inl (i + 1)), l7, l8, l9] [] σ := by
      intro c l7 l8 l9
      rw [if_pos c] at hQ
      exact ih (i + 1) al bo ac l7 l8 l9 (by omega) (by omega) (by omega) al0 (by omega) hbo hac hQ
    have fnd : ¬ (σ 18 m = 2 ∨ σ 18 m = 3) → ¬ σ 6 (σ 17 m) = 2 ∧ ¬ σ 18 m = 0 → Q m σ := by
      intro c c2
      rw [if_neg c, if_pos c2] at hQ
      exact hQ
    have go : ¬ (σ 18 m = 2 ∨ σ 18 m = 3) → ¬ (¬ σ 6 (σ 17 m) = 2 ∧ ¬ σ 18 m = 0) → ∀ bo' ac', bo' = (if σ 18 m = 1 then m else bo) → ac' = (if σ 6 (σ 17 m) = 2 then ac else 1) → ∀ l7 l8 l9, zV 25 zF Q 12 [some (.inr 3), some (.inl t), some (.inl n), some (.inl (al + 1)), some (.inl bo'), some (.inl ac'), some (.inl (i + 1)), l7, l8, l9] [] σ := by
      intro c c2 bo' ac' e1 e2 l7 l8 l9
      rw [if_neg c, if_neg c2, ← e1, ← e2] at hQ
      refine ih (i + 1) (al + 1) bo' ac' l7 l8 l9 (by omega) (by omega) (by omega) (by omega) (by omega) ?_ ?_ hQ
      · rw [e1]; split <;> omega
      · rw [e2]; split <;> omega
    repeat' first | omega | (apply skip; omega) | (apply fnd <;> omega) | (apply go <;> first | omega | (rw [if_pos (by omega)]) | (rw [if_neg (by omega)])) | apply And.intro | intro _
set_option maxRecDepth 100000 in
theorem x_runner {n t : Int} (hB : Bd (bX σ)) (h0 : 0 ≤ t) (h1 : t < 16) (h2 : 0 ≤ n) (h3 : n < 10) (hr : rOK σ n t) (h : Q (gRX (bX σ) (rX σ n t) 0 (-4) 0) σ) : zM 25 zF [.inr 3, .inl t, .inl n] σ Q := by
  refine ze_25 200 ?_
  simp only [zs_25_0, zs_25_1, zs_25_2, zs_25_4, zs_25_6, zs_25_7, zs_25_9, zs_25_10, zs_25_12, zs_25_14, zs_25_15, zs_25_16, zs_25_17, zs_25_20, zs_25_23, zs_25_24, zs_25_25, zs_25_26, zs_25_28, zs_25_31, zs_25_33, zs_25_34, zs_25_37, zs_25_40, zs_25_42, zs_25_43, zs_25_45, zs_25_47, zs_25_48, zs_25_51, zs_25_53, zs_25_54, zs_25_57, zs_25_60, zs_25_61, zs_25_64, zs_25_67, zs_25_68, zs_25_71, zs_25_74, zs_25_76, zs_25_77, zs_25_78, zs_25_79, zs_25_82, zs_25_83, zs_25_86, zs_25_87, zs_25_89, zs_25_91, zs_25_94, zs_25_96, zs_25_99, zs_25_101, zs_25_102, zs_25_105, zs_25_107, zs_25_108, zs_25_111, zs_25_113, zs_25_116, zs_25_118, zs_25_120, zs_25_122, zs_25_125, zs_25_127, zs_25_130, zs_25_131, zs_25_134, zs_25_135, zs_25_137, zs_25_140, zs_25_143, zs_25_144, zs_25_147, zs_25_149, zs_25_150, zs_25_152, zs_25_154, zs_25_157, zs_25_159, zs_25_160, zs_25_161, zs_25_162, zs_25_165, zs_25_167, zs_25_168, zs_25_170, zs_25_173, zs_25_175, zs_25_178, zs_25_180, za_17, za_18, za_6, zg_1_1, zg_2_1, zg_2_2, zg_3_0, zg_3_1, zrc_17, zrc_18, zli_0, zli_s, zlr_0, zlr_s, zls_0, zls_s, z1i_e, z2i_e, z1r_e, zir_e, ziir_e, z1v_e, z2v_e, zone_e, znil_e, zsp_0, zsp_s, zlz_0, zlz_1, zlz_2, zlz_3, zlz_4, zswp_0, zswp_s, true_and, and_true, implies_true, true_or, or_true, Int.reduceEq, Int.reduceLT, Int.reduceLE, Int.reduceNeg, not_true_eq_false, not_false_eq_true, false_implies, true_implies, zr_e, zwr_o, zwr_s, Nat.reduceEqDiff]
  refine x_runner_loop hB h0 h1 h2 h3 hr _ 0 0 (-4) 0 _ _ _ (by omega) hr.1 rfl (by omega) (by omega) (by omega) (by omega) ?_
  rw [Int.sub_zero, ← zl_zd]
  exact h
end X10
