/-! the reference calls, from body to body -/
section M11
variable {σ : zS} {Q : Int → zS → Prop}
theorem gRX_s {B : zS} : ∀ (l : List Int) (al bo ac : Int), (0 ≤ bo → ¬ B 7 bo = 2) → 0 ≤ gRX B l al bo ac → ¬ B 7 (gRX B l al bo ac) = 2
  | [], al, bo, ac, hb => by
    simp only [gRX]
    intro h
    repeat' split at h
    all_goals first | omega | skip
    all_goals simp_all
  | m :: l, al, bo, ac, hb => by
    simp only [gRX]
    split
    · exact gRX_s l al bo ac hb
    · rename_i hn
      split
      · intro _ z
        exact hn (Or.inl z)
      · refine gRX_s l _ _ _ ?_
        split
        · rename_i h1
          intro _ z
          omega
        · exact hb
theorem gRX_b {B : zS} {l : List Int} (hN : 0 ≤ B 17 0) (hl : ∀ x, x ∈ l → 0 ≤ x ∧ x < B 17 0) : -7 ≤ gRX B l 0 (-4) 0 ∧ gRX B l 0 (-4) 0 < B 17 0 := by
  rcases gRX_m (B := B) l 0 (-4) 0 with h | h | h | h | h
  · omega
  · omega
  · omega
  · omega
  · have := hl _ h
    omega
theorem gSt_b {B : zS} (hN : 0 ≤ B 17 0) : ∀ {l : List Int}, (∀ x, x ∈ l → 0 ≤ x ∧ x < B 17 0) → (-7 ≤ gSt B l ∧ gSt B l < B 17 0 ∧ (0 ≤ gSt B l → B 7 (gSt B l) = 2))
  | [], _ => by simp only [gSt]; omega
  | m :: l, hl => by
    have hm := hl m (by simp)
    simp only [gSt]
    split
    · rename_i h
      exact ⟨by omega, hm.2, fun _ => h⟩
    · exact gSt_b hN (fun x hx => hl x (by simp [hx]))
theorem nx_okB {B : zS} {H : Int → Int → List Int} {t m : Int} (hB : Bd B) (hH : ∀ n u, 0 ≤ n → n < 10 → 0 ≤ u → u < B 16 0 → ∀ x, x ∈ H n u → 0 ≤ x ∧ x < B 17 0) (h0 : 0 ≤ t) (h1 : t < B 16 0) (m0 : 0 ≤ m) (m1 : m < B 17 0) :
    -7 ≤ gNx B H t m ∧ gNx B H t m < B 17 0 ∧ (0 ≤ gNx B H t m → (B 10 m = 4 → B 7 (gNx B H t m) = 2) ∧ (¬ B 10 m = 4 → ¬ B 7 (gNx B H t m) = 2 ∧ ¬ B 7 m = 2)) := by
  have hnn := hB.n
  have hme := hB.me m m0 (by omega)
  obtain ⟨g1, -, c1, c2, c3⟩ := hB.mm m m0 m1
  have hs := hB.sup (B 6 m) hme.1 (by omega)
  have hk := hme.2.2.2.2.2.2.2.2.1
  have hk2 := hme.2.2.2.2.2.2.2.2.2.1
  have ho := hme.1
  have ho2 := hme.2.1
  clear hme
  have hN : 0 ≤ B 17 0 := by omega
  have run : ∀ n u, 0 ≤ n → n < 10 → 0 ≤ u → u < B 16 0 → ¬ B 7 m = 2 → ¬ B 10 m = 4 → -7 ≤ gRX B (H n u) 0 (-4) 0 ∧ gRX B (H n u) 0 (-4) 0 < B 17 0 ∧ (0 ≤ gRX B (H n u) 0 (-4) 0 → (B 10 m = 4 → B 7 (gRX B (H n u) 0 (-4) 0) = 2) ∧ (¬ B 10 m = 4 → ¬ B 7 (gRX B (H n u) 0 (-4) 0) = 2 ∧ ¬ B 7 m = 2)) := by
    intro n u n0 n1 u0 u1 h7 h4
    have hb := gRX_b hN (hH n u n0 n1 u0 u1)
    exact ⟨hb.1, hb.2, fun z => ⟨fun z2 => absurd z2 h4, fun _ => ⟨gRX_s (H n u) 0 (-4) 0 (fun z => absurd z (by decide)) z, h7⟩⟩⟩
  unfold gNx
  by_cases a0 : B 10 m = 0
  · rw [if_pos a0]; exact ⟨by decide, by omega, fun z => absurd z (by decide)⟩
  rw [if_neg a0]
  have hn := c1 a0
  by_cases a4 : B 10 m = 4
  · rw [if_pos a4]
    have := c3 a4
    have hb := gSt_b hN (hH _ _ hn.1 (show B 12 m < 10 by omega) this.1 this.2)
    exact ⟨hb.1, hb.2.1, fun z => ⟨fun _ => hb.2.2 z, fun z2 => absurd a4 z2⟩⟩
  rw [if_neg a4]
  by_cases as : B 7 m = 2
  · rw [if_pos as]; exact ⟨by decide, by omega, fun z => absurd z (by decide)⟩
  rw [if_neg as]
  by_cases a1 : B 10 m = 1
  · rw [if_pos a1]
    split
    · rename_i hc
      have how := hB.ow (10 * B 6 m + B 12 m) (by omega) (by omega)
      have hq : 0 ≤ B 13 (10 * B 6 m + B 12 m) ∧ B 13 (10 * B 6 m + B 12 m) < B 17 0 := by omega
      exact ⟨by omega, hq.2, fun z => ⟨fun z2 => absurd z2 a4, fun _ => ⟨by omega, as⟩⟩⟩
    · exact run _ _ hn.1 (by omega) h0 h1 as a4
  rw [if_neg a1]
  by_cases a2 : B 10 m = 2
  · rw [if_pos a2]
    split
    · exact ⟨by decide, by omega, fun z => absurd z (by decide)⟩
    · exact run _ _ hn.1 (by omega) hs.1 (by omega) as a4
  rw [if_neg a2]
  have := c2 (by omega)
  exact run _ _ hn.1 (by omega) this.1 this.2.1 as a4
theorem rM_b (hF : FM σ) : ∀ n u, 0 ≤ n → n < 10 → 0 ≤ u → u < bM σ 16 0 → ∀ x, x ∈ rM σ n u → 0 ≤ x ∧ x < bM σ 17 0 := by
  intro n u n0 n1 u0 u1 x hx
  have := (hF.2 n u n0 n1 u0 u1).1.2.2.2 x hx
  exact ⟨this.1, this.2.1⟩
set_option maxRecDepth 100000 in
theorem m_next {t m o : Int} (hB : Bd (bM σ)) (hF : FM σ) (h0 : 0 ≤ t) (h1 : t < σ 31 0) (m0 : 0 ≤ m) (m1 : m < σ 31 7) (hc : ¬ σ 43 m = 0) (ho : (o = 0 ∧ σ 40 m = 2) ∨ (o = 1 ∧ ¬ σ 40 m = 2))
    (h : Q (gNx (bM σ) (rM σ) t m) σ) : zM 112 zF [.inr 31, .inl t, .inl m, .inl o] σ Q := by
  have hnn : 1 ≤ σ 31 0 ∧ σ 31 0 ≤ 16 ∧ 3 ≤ σ 31 7 ∧ σ 31 7 ≤ 60 := hB.n
  have hme : 0 ≤ σ 38 m ∧ σ 38 m ≤ 15 ∧ 0 ≤ σ 40 m ∧ σ 40 m ≤ 4 ∧ _ ∧ _ ∧ _ ∧ _ ∧ 0 ≤ σ 43 m ∧ σ 43 m ≤ 4 ∧ _ := hB.me m m0 (by omega)
  have hmm : σ 38 m < σ 31 0 ∧ _ ∧ (¬ σ 43 m = 0 → 0 ≤ σ 45 m ∧ σ 45 m ≤ 9) ∧ (σ 43 m = 3 → 0 ≤ σ 44 m ∧ σ 44 m < σ 31 0 ∧ σ 32 (σ 44 m) = 2) ∧ (σ 43 m = 4 → 0 ≤ σ 44 m ∧ σ 44 m < σ 31 0) := hB.mm m m0 m1
  obtain ⟨g1, -, c1, c2, c3⟩ := hmm
  have hk := hme.2.2.2.2.2.2.2.2.1
  have hk2 := hme.2.2.2.2.2.2.2.2.2.1
  have p0 := hme.1
  have p1 := hme.2.1
  have hz40 := hme.2.2.1
  have hz40b := hme.2.2.2.1
  clear hme
  have c1 := c1 hc
  have hks : 0 ≤ σ 32 (σ 38 m) ∧ σ 32 (σ 38 m) ≤ 2 := hB.kind (σ 38 m) p0 (by omega)
  have hsu : 0 ≤ σ 33 (σ 38 m) ∧ σ 33 (σ 38 m) ≤ 15 ∧ (0 < σ 38 m → σ 33 (σ 38 m) < σ 38 m) := hB.sup (σ 38 m) p0 (by omega)
  have how : σ 46 (10 * σ 38 m + σ 45 m) = -4 ∨ (0 ≤ σ 46 (10 * σ 38 m + σ 45 m) ∧ σ 46 (10 * σ 38 m + σ 45 m) < σ 31 7) := hB.ow (10 * σ 38 m + σ 45 m) (by omega) (by omega)
  have e : gNx (bM σ) (rM σ) t m = if σ 43 m = 0 then -4
  else if σ 43 m = 4 then gSt (bM σ) (rM σ (σ 45 m) (σ 44 m))
  else if σ 40 m = 2 then -5
  else if σ 43 m = 1 then (if ¬ σ 46 (10 * σ 38 m + σ 45 m) = -4 ∧ σ 40 (σ 46 (10 * σ 38 m + σ 45 m)) = 3 then σ 46 (10 * σ 38 m + σ 45 m) else gRX (bM σ) (rM σ (σ 45 m) t) 0 (-4) 0)
  else if σ 43 m = 2 then (if σ 38 m = 0 ∨ σ 32 (σ 38 m) = 2 then -5 else gRX (bM σ) (rM σ (σ 45 m) (σ 33 (σ 38 m))) 0 (-4) 0)
  else gRX (bM σ) (rM σ (σ 45 m) (σ 44 m)) 0 (-4) 0 := rfl
  rw [e, if_neg hc] at h
  clear e
  have m60 : m < 60 := by omega
  have z43 : -2147483648 ≤ σ 43 m ∧ σ 43 m < 2147483648 := by omega
  have zo : -2147483648 ≤ o ∧ o < 2147483648 := by omega
  have zx : 0 ≤ 10 * σ 38 m + σ 45 m ∧ 10 * σ 38 m + σ 45 m < 160 := by omega
  have z46 : -2147483648 ≤ σ 46 (10 * σ 38 m + σ 45 m) ∧ σ 46 (10 * σ 38 m + σ 45 m) < 2147483648 := by omega
  have p16 : σ 38 m < 16 := by omega
  have z32 : -2147483648 ≤ σ 32 (σ 38 m) ∧ σ 32 (σ 38 m) < 2147483648 := by omega
  have z38 : -2147483648 ≤ σ 38 m ∧ σ 38 m < 2147483648 := by omega
  have c10 : σ 45 m < 10 := by omega
  have rT := (hF.2 (σ 45 m) t c1.1 c10 h0 h1).1
  have t16 : t < 16 := by omega
  refine ze_112 200 ?_
  simp only [zs_112_0, zs_112_1, zs_112_4, zs_112_5, zs_112_6, zs_112_8, zs_112_9, zs_112_12, zs_112_13, zs_112_14, zs_112_16, zs_112_17, zs_112_20, zs_112_21, zs_112_22, zs_112_24, zs_112_26, zs_112_27, zs_112_30, zs_112_31, zs_112_32, zs_112_35, zs_112_36, zs_112_37, zs_112_39, zs_112_42, zs_112_44, zs_112_46, zs_112_48, zs_112_51, zs_112_53, zs_112_56, zs_112_58, zs_112_59, zs_112_60, zs_112_63, zs_112_65, zs_112_66, zs_112_69, zs_112_70, zs_112_73, zs_112_75, zs_112_76, zs_112_77, zs_112_80, zs_112_82, zs_112_85, zs_112_87, zs_112_88, zs_112_90, zs_112_91, zs_112_94, zs_112_95, zs_112_98, zs_112_100, zs_112_102, zs_112_103, zs_112_105, zs_112_106, zs_112_107, zs_112_109, zs_112_111, zs_112_113, zs_112_116, zs_112_117, zs_112_120, zs_112_122, zs_112_123, zs_112_124, zs_112_127, zs_112_129, zs_112_132, zs_112_133, zs_112_134, zs_112_136, zs_112_139, zs_112_140, zs_112_141, zs_112_143, zs_112_144, zs_112_147, zs_112_148, zs_112_151, zs_112_153, zs_112_154, zs_112_157, zs_112_158, zs_112_161, zs_112_162, zs_112_163, zs_112_165, zs_112_168, za_32, za_33, za_38, za_40, za_43, za_44, za_45, za_46, zg_31_1, zg_31_10, zg_31_13, zg_31_14, zg_31_15, zg_31_16, zg_31_2, zg_31_8, zrc_88, zrc_94, zli_0, zli_s, zlr_0, zlr_s, zls_0, zls_s, z1i_e, z2i_e, z1r_e, zir_e, ziir_e, z1v_e, z2v_e, zone_e, znil_e, zsp_0, zsp_s, zlz_0, zlz_1, zlz_2, zlz_3, zlz_4, zswp_0, zswp_s, true_and, and_true, implies_true, true_or, or_true, Int.reduceEq, Int.reduceLT, Int.reduceLE, Int.reduceNeg, not_true_eq_false, not_false_eq_true, false_implies, true_implies, zr_e, zwr_o, zwr_s, Nat.reduceEqDiff]
  refine ⟨m0, m60, m0, m60, m0, m60, z43, fun a => ⟨zo, fun b => ?_, fun b => ⟨z43, fun d => ⟨z43, fun f => ⟨z43, fun g => ⟨m0, m60, ?_⟩, fun g => absurd g d⟩, fun f => ⟨zx.1, zx.2, z46, fun g => ?_, fun g => ?_⟩⟩, fun d => ⟨p0, p16, z32, fun f => ?_, fun f => ⟨z38, fun g => ⟨z43, fun i => ⟨z43, fun j => absurd d j, fun j => ⟨p0, p16, ?_⟩⟩, fun i => absurd (i.symm.trans d) (by decide)⟩, fun g => ?_⟩⟩⟩⟩, fun a => ⟨m0, m60, ?_⟩⟩
  · rw [if_neg a, if_pos (show σ 40 m = 2 by omega)] at h
    exact h
  · rw [if_neg a, if_neg (show ¬ σ 40 m = 2 by omega), if_neg f, if_neg d] at h
    have := c2 (by omega)
    exact m_runsOf hB this.1 (by omega) c1.1 c10 (hF.2 (σ 45 m) (σ 44 m) c1.1 c10 this.1 this.2.1).1 h
  · rw [if_neg a, if_neg (show ¬ σ 40 m = 2 by omega), if_pos f, if_neg (fun z => z.1 g)] at h
    exact m_runsOf hB h0 t16 c1.1 c10 rT h
  · rw [if_neg a, if_neg (show ¬ σ 40 m = 2 by omega), if_pos f] at h
    have q0 : 0 ≤ σ 46 (10 * σ 38 m + σ 45 m) ∧ σ 46 (10 * σ 38 m + σ 45 m) < 60 := by omega
    have hq := mM hB q0.1 q0.2
    refine ⟨q0.1, q0.2, by omega, fun i => ?_, fun i => ?_⟩
    · rw [if_neg (fun z => i z.2)] at h
      exact m_runsOf hB h0 t16 c1.1 c10 rT h
    · rw [if_pos ⟨g, i⟩] at h
      exact h
  · rw [if_neg a, if_neg (show ¬ σ 40 m = 2 by omega), if_neg (show ¬ σ 43 m = 1 by omega), if_pos d, if_pos (Or.inr f)] at h
    exact h
  · rw [if_neg a, if_neg (show ¬ σ 40 m = 2 by omega), if_neg (show ¬ σ 43 m = 1 by omega), if_pos d, if_neg (show ¬ (σ 38 m = 0 ∨ σ 32 (σ 38 m) = 2) by omega)] at h
    exact m_runsOf hB hsu.1 (by omega) c1.1 c10 (hF.2 (σ 45 m) (σ 33 (σ 38 m)) c1.1 c10 hsu.1 (by omega)).1 h
  · rw [if_neg a, if_neg (show ¬ σ 40 m = 2 by omega), if_neg (show ¬ σ 43 m = 1 by omega), if_pos d, if_pos (Or.inl g)] at h
    exact h
  · have hc3 := c3 a
    have hr := (hF.2 (σ 45 m) (σ 44 m) c1.1 c10 hc3.1 hc3.2).1
    have hz := gSt_r (B := bM σ) (rM σ (σ 45 m) (σ 44 m)) (rM_60 hB hr)
    rw [if_pos a] at h
    refine m_staticOf hB hc3.1 (by omega) c1.1 c10 hr ?_
    rw [gSM_gSt hB c1.1 c10 (RM_e hF c1.1 c10) hc3.1 hc3.2]
    by_cases c : gSt (bM σ) (rM σ (σ 45 m) (σ 44 m)) < 0
    · rw [if_pos c]
      rw [show gSt (bM σ) (rM σ (σ 45 m) (σ 44 m)) = -5 by omega] at h
      exact ⟨by omega, fun d => absurd rfl d, fun d => h⟩
    · rw [if_neg c]
      exact ⟨by omega, fun d => h, fun d => False.elim (by omega)⟩
theorem gPf_neg {B : zS} {H : Int → Int → List Int} {t : Int} : ∀ (k : Nat) (nx s la st : Int), nx < 0 → gPf B H t k nx s la st = (s, la, st, nx)
  | 0, nx, s, la, st, _ => rfl
  | k + 1, nx, s, la, st, h => by simp only [gPf]; rw [if_pos h]
set_option maxRecDepth 100000 in
theorem m_call_end {t n s o m : Int} {l7 : Option zW} (h : Q s σ) : zV 113 zF Q 70 [some (.inr 31), some (.inl t), some (.inl n), some (.inl s), some (.inl o), some (.inl 0), some (.inl m), l7] [] σ := by
  refine zv_113 200 ?_
  simp only [zs_113_0, zs_113_1, zs_113_2, zs_113_5, zs_113_8, zs_113_9, zs_113_12, zs_113_13, zs_113_14, zs_113_17, zs_113_18, zs_113_19, zs_113_21, zs_113_24, zs_113_27, zs_113_28, zs_113_29, zs_113_30, zs_113_33, zs_113_34, zs_113_35, zs_113_38, zs_113_39, zs_113_40, zs_113_43, zs_113_44, zs_113_45, zs_113_48, zs_113_49, zs_113_51, zs_113_54, zs_113_55, zs_113_56, zs_113_57, zs_113_59, zs_113_60, zs_113_62, zs_113_63, zs_113_64, zs_113_65, zs_113_68, zs_113_70, zs_113_72, zs_113_75, zs_113_77, zs_113_80, zs_113_81, zs_113_84, zs_113_86, zs_113_89, zs_113_90, zs_113_92, zs_113_95, zs_113_97, zs_113_99, zs_113_100, zs_113_103, zs_113_104, zs_113_107, zs_113_108, zs_113_110, zs_113_113, zs_113_114, zs_113_115, zs_113_118, zs_113_119, zs_113_120, zs_113_123, zs_113_124, zs_113_126, zs_113_129, zs_113_130, zs_113_131, zs_113_134, zs_113_136, zs_113_137, zs_113_138, zs_113_139, zs_113_140, zs_113_143, zs_113_145, zs_113_146, zs_113_149, zs_113_150, zs_113_153, zs_113_154, zs_113_156, zs_113_158, zs_113_161, zs_113_162, zs_113_163, zs_113_165, zs_113_167, zs_113_170, zs_113_172, zs_113_174, zs_113_175, zs_113_178, zs_113_180, zs_113_181, zs_113_182, zs_113_185, zs_113_186, zs_113_189, zs_113_190, zs_113_191, zs_113_193, zs_113_195, zs_113_197, zs_113_200, zs_113_201, zs_113_70h, za_32, za_42, za_43, zg_31_1, zg_31_12, zg_31_13, zg_31_27, zp_31_25, zp_31_26, zp_31_27, zp_31_28, zrc_112, zrc_78, zrc_84, zrc_88, zli_0, zli_s, zlr_0, zlr_s, zls_0, zls_s, z1i_e, z2i_e, z1r_e, zir_e, ziir_e, z1v_e, z2v_e, zone_e, znil_e, zsp_0, zsp_s, zlz_0, zlz_1, zlz_2, zlz_3, zlz_4, zswp_0, zswp_s, true_and, and_true, implies_true, true_or, or_true, Int.reduceEq, Int.reduceLT, Int.reduceLE, Int.reduceNeg, not_true_eq_false, not_false_eq_true, false_implies, true_implies, zr_e, zwr_o, zwr_s, Nat.reduceEqDiff]
  exact h
set_option maxRecDepth 100000 in
theorem m_call_loop {t n : Int} (hB : Bd (bM σ)) (hF : FM σ) (h0 : 0 ≤ t) (h1 : t < σ 31 0) (P : Int × Int × Int × Int)
    (h : ∀ σ', zmm [] [26, 27, 28] σ σ' → σ' 31 27 = P.2.2.1 → σ' 31 28 = P.2.1 → σ' 31 26 = (if 0 ≤ P.2.2.2 then 4 else -4 - P.2.2.2) → Q P.1 σ') :
    ∀ (k : Nat) (m s la st o : Int) (σ2 : zS) (l7 : Option zW), st + k = 30 → 0 ≤ st → -7 ≤ m → m < σ 31 7 → (0 ≤ m → (o = 0 ∧ σ 40 m = 2) ∨ (o = 1 ∧ ¬ σ 40 m = 2)) → zmm [] [26, 27, 28] σ σ2 → σ2 31 27 = st → σ2 31 28 = la → σ2 31 26 = 0 → gPf (bM σ) (rM σ) t k m s la st = P →
      zV 113 zF Q 70 [some (.inr 31), some (.inl t), some (.inl n), some (.inl s), some (.inl o), some (.inl 1), some (.inl m), l7] [] σ2 := by
  have hnn : 1 ≤ σ 31 0 ∧ σ 31 0 ≤ 16 ∧ 3 ≤ σ 31 7 ∧ σ 31 7 ≤ 60 := hB.n
  have done : ∀ (m s la st o v : Int) (σ2 : zS) (l7 : Option zW), zmm [] [26, 27, 28] σ σ2 → σ2 31 27 = st → σ2 31 28 = la → P = (s, la, st, m) → v = (if 0 ≤ m then 4 else -4 - m) → zV 113 zF Q 70 [some (.inr 31), some (.inl t), some (.inl n), some (.inl s), some (.inl o), some (.inl 0), some (.inl m), l7] [] (zwr σ2 31 26 v) := by
    intro m s la st o v σ2 l7 hs e27 e28 eP ev
    refine m_call_end ?_
    have := h (zwr σ2 31 26 v) (zmm_wf hs (by decide)) (by rw [eP]; simp [zwr, e27]) (by rw [eP]; simp [zwr, e28]) (by rw [eP]; simp [zwr, ev])
    rw [eP] at this
    exact this
  intro k
  induction k with
  | zero =>
    intro m s la st o σ2 l7 hk s0 m0 m1 ho hs e27 e28 e26 hP
    simp only [gPf] at hP
    have zm : -2147483648 ≤ m ∧ m < 2147483648 := by omega
    have est : st = 30 := by omega
    refine zv_113 200 ?_
    simp only [zs_113_0, zs_113_1, zs_113_2, zs_113_5, zs_113_8, zs_113_9, zs_113_12, zs_113_13, zs_113_14, zs_113_17, zs_113_18, zs_113_19, zs_113_21, zs_113_24, zs_113_27, zs_113_28, zs_113_29, zs_113_30, zs_113_33, zs_113_34, zs_113_35, zs_113_38, zs_113_39, zs_113_40, zs_113_43, zs_113_44, zs_113_45, zs_113_48, zs_113_49, zs_113_51, zs_113_54, zs_113_55, zs_113_56, zs_113_57, zs_113_59, zs_113_60, zs_113_62, zs_113_63, zs_113_64, zs_113_65, zs_113_68, zs_113_70, zs_113_72, zs_113_75, zs_113_77, zs_113_80, zs_113_81, zs_113_84, zs_113_86, zs_113_89, zs_113_90, zs_113_92, zs_113_95, zs_113_97, zs_113_99, zs_113_100, zs_113_103, zs_113_104, zs_113_107, zs_113_108, zs_113_110, zs_113_113, zs_113_114, zs_113_115, zs_113_118, zs_113_119, zs_113_120, zs_113_123, zs_113_124, zs_113_126, zs_113_129, zs_113_130, zs_113_131, zs_113_134, zs_113_136, zs_113_137, zs_113_138, zs_113_139, zs_113_140, zs_113_143, zs_113_145, zs_113_146, zs_113_149, zs_113_150, zs_113_153, zs_113_154, zs_113_156, zs_113_158, zs_113_161, zs_113_162, zs_113_163, zs_113_165, zs_113_167, zs_113_170, zs_113_172, zs_113_174, zs_113_175, zs_113_178, zs_113_180, zs_113_181, zs_113_182, zs_113_185, zs_113_186, zs_113_189, zs_113_190, zs_113_191, zs_113_193, zs_113_195, zs_113_197, zs_113_200, zs_113_201, zs_113_70h, za_32, za_42, za_43, zg_31_1, zg_31_12, zg_31_13, zg_31_27, zp_31_25, zp_31_26, zp_31_27, zp_31_28, zrc_112, zrc_78, zrc_84, zrc_88, zli_0, zli_s, zlr_0, zlr_s, zls_0, zls_s, z1i_e, z2i_e, z1r_e, zir_e, ziir_e, z1v_e, z2v_e, zone_e, znil_e, zsp_0, zsp_s, zlz_0, zlz_1, zlz_2, zlz_3, zlz_4, zswp_0, zswp_s, true_and, and_true, implies_true, true_or, or_true, Int.reduceEq, Int.reduceLT, Int.reduceLE, Int.reduceNeg, not_true_eq_false, not_false_eq_true, false_implies, true_implies, zr_e, zwr_o, zwr_s, Nat.reduceEqDiff]
    rw [e27]
    refine ⟨zm, fun a => ⟨zm, fun b => absurd a (Int.not_lt.mpr b), fun b => ?_⟩, fun a => ⟨by omega, fun b => absurd est b, fun b => ⟨zm, fun c => ?_, fun c => absurd c (Int.not_lt.mpr a)⟩⟩⟩
    · exact done m s la st o (-4 - m) σ2 l7 hs e27 e28 hP.symm (by rw [if_neg (by omega)])
    · exact done m s la st o 4 σ2 l7 hs e27 e28 hP.symm (by rw [if_pos c])
  | succ k ih =>
    intro m s la st o σ2 l7 hk s0 m0 m1 ho hs e27 e28 e26 hP
    have zm : -2147483648 ≤ m ∧ m < 2147483648 := by omega
    have est : ¬ st = 30 := by omega
    have zst : -2147483648 ≤ st ∧ st < 2147483648 := by omega
    have e42 : σ2 42 = σ 42 := hs.1 42 (by decide) (by decide)
    have e43 : σ2 43 = σ 43 := hs.1 43 (by decide) (by decide)
    refine zv_113 200 ?_
    simp only [zs_113_0, zs_113_1, zs_113_2, zs_113_5, zs_113_8, zs_113_9, zs_113_12, zs_113_13, zs_113_14, zs_113_17, zs_113_18, zs_113_19, zs_113_21, zs_113_24, zs_113_27, zs_113_28, zs_113_29, zs_113_30, zs_113_33, zs_113_34, zs_113_35, zs_113_38, zs_113_39, zs_113_40, zs_113_43, zs_113_44, zs_113_45, zs_113_48, zs_113_49, zs_113_51, zs_113_54, zs_113_55, zs_113_56, zs_113_57, zs_113_59, zs_113_60, zs_113_62, zs_113_63, zs_113_64, zs_113_65, zs_113_68, zs_113_70, zs_113_72, zs_113_75, zs_113_77, zs_113_80, zs_113_81, zs_113_84, zs_113_86, zs_113_89, zs_113_90, zs_113_92, zs_113_95, zs_113_97, zs_113_99, zs_113_100, zs_113_103, zs_113_104, zs_113_107, zs_113_108, zs_113_110, zs_113_113, zs_113_114, zs_113_115, zs_113_118, zs_113_119, zs_113_120, zs_113_123, zs_113_124, zs_113_126, zs_113_129, zs_113_130, zs_113_131, zs_113_134, zs_113_136, zs_113_137, zs_113_138, zs_113_139, zs_113_140, zs_113_143, zs_113_145, zs_113_146, zs_113_149, zs_113_150, zs_113_153, zs_113_154, zs_113_156, zs_113_158, zs_113_161, zs_113_162, zs_113_163, zs_113_165, zs_113_167, zs_113_170, zs_113_172, zs_113_174, zs_113_175, zs_113_178, zs_113_180, zs_113_181, zs_113_182, zs_113_185, zs_113_186, zs_113_189, zs_113_190, zs_113_191, zs_113_193, zs_113_195, zs_113_197, zs_113_200, zs_113_201, zs_113_70h, za_32, za_42, za_43, zg_31_1, zg_31_12, zg_31_13, zg_31_27, zp_31_25, zp_31_26, zp_31_27, zp_31_28, zrc_112, zrc_78, zrc_84, zrc_88, zli_0, zli_s, zlr_0, zlr_s, zls_0, zls_s, z1i_e, z2i_e, z1r_e, zir_e, ziir_e, z1v_e, z2v_e, zone_e, znil_e, zsp_0, zsp_s, zlz_0, zlz_1, zlz_2, zlz_3, zlz_4, zswp_0, zswp_s, true_and, and_true, implies_true, true_or, or_true, Int.reduceEq, Int.reduceLT, Int.reduceLE, Int.reduceNeg, not_true_eq_false, not_false_eq_true, false_implies, true_implies, zr_e, zwr_o, zwr_s, Nat.reduceEqDiff]
    rw [e27, e42, e43]
    refine ⟨zm, fun a => ⟨zm, fun b => absurd a (Int.not_lt.mpr b), fun b => ?_⟩, fun a => ⟨zst, fun b => ?_, fun b => absurd b est⟩⟩
    · refine done m s la st o (-4 - m) σ2 l7 hs e27 e28 ?_ (by rw [if_neg (by omega)])
      rw [← hP, gPf_neg _ _ _ _ _ a]
    · simp only [gPf] at hP
      rw [if_neg (Int.not_lt.mpr a)] at hP
      have m60 : m < 60 := by omega
      have hme : _ ∧ _ ∧ _ ∧ _ ∧ _ ∧ _ ∧ _ ∧ _ ∧ 0 ≤ σ 43 m ∧ σ 43 m ≤ 4 ∧ _ := hB.me m a m60
      have k0 := hme.2.2.2.2.2.2.2.2.1
      have k4 := hme.2.2.2.2.2.2.2.2.2.1
      clear hme
      have z43 : -2147483648 ≤ σ 43 m ∧ σ 43 m < 2147483648 := by omega
      have ho := ho a
      have hs3 : zmm [] [26, 27, 28] σ (zwr (zwr σ2 31 27 (st + 1)) 31 28 m) := zmm_wf (zmm_wf hs (by decide)) (by decide)
      have f27 : zwr (zwr σ2 31 27 (st + 1)) 31 28 m 31 27 = st + 1 := by simp [zwr]
      have f28 : zwr (zwr σ2 31 27 (st + 1)) 31 28 m 31 28 = m := by simp [zwr]
      have f26 : zwr (zwr σ2 31 27 (st + 1)) 31 28 m 31 26 = 0 := by simp [zwr, e26]
      generalize zwr (zwr σ2 31 27 (st + 1)) 31 28 m = σ3 at *
      refine ⟨a, m60, a, m60, z43, fun c => ?_, fun c => ?_⟩
      · have c0 : bM σ 10 m = 0 := Int.le_antisymm c k0
        have en : gNx (bM σ) (rM σ) t m = -4 := by rw [gNx, if_pos c0]
        rw [en, gPf_neg _ _ _ _ _ (by decide)] at hP
        refine m_call_end ?_
        have := h σ3 hs3 (by rw [f27, ← hP]) (by rw [f28, ← hP]) (by rw [f26, ← hP]; rfl)
        rw [← hP] at this
        exact this
      · have eB : bM σ3 = bM σ := bM_mm hs3 (by decide) (by decide) (by decide)
        have er : rM σ3 = rM σ := rM_mm hs3 (by decide) (by decide)
        have hF3 : FM σ3 := FM_sm hB hs3 (by decide) (by decide) (by decide) hF
        have c0 : ¬ σ 43 m = 0 := by omega
        have hok := nx_okB hB (rM_b hF) h0 h1 a m1
        have nxt : ∀ o', (σ 43 m = 4 → o' = 0) → (¬ σ 43 m = 4 → o' = o) → ∀ l7, zV 113 zF Q 70 [some (.inr 31), some (.inl t), some (.inl n), some (.inl (s + σ 42 m)), some (.inl o'), some (.inl 1), some (.inl (gNx (bM σ) (rM σ) t m)), l7] [] σ3 := by
          intro o' q1 q2 l7
          refine ih _ _ m (st + 1) o' σ3 l7 (by omega) (by omega) hok.1 hok.2.1 (fun z => ?_) hs3 f27 f28 f26 hP
          have hq := hok.2.2 z
          by_cases c4 : σ 43 m = 4
          · exact Or.inl ⟨q1 c4, hq.1 c4⟩
          · have hq2 := hq.2 c4
            refine Or.inr ⟨?_, hq2.1⟩
            rw [q2 c4]
            rcases ho with ho | ho
            · exact absurd ho.2 hq2.2
            · exact ho.1
        have zo := zand1 (a := o) (by omega)
        clear ih hok
        refine m_next (σ := σ3) (by rw [eB]; exact hB) hF3 h0 (by rw [hs3.2 0 (by decide)]; exact h1) a (by rw [hs3.2 7 (by decide)]; exact m1) (by rw [hs3.1 43 (by decide) (by decide)]; exact c0) (by rw [hs3.1 40 (by decide) (by decide)]; exact ho) ?_
        rw [eB, er, hs3.1 43 (by decide) (by decide), zo.1, zo.2]
        exact ⟨a, m60, z43, fun d => nxt 0 (fun _ => rfl) (fun z => absurd d z) _, fun d => nxt o (fun z => absurd z d) (fun _ => rfl) _⟩
end M11
