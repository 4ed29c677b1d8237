def rM (σ : zS) (n t : Int) : List Int := hM σ (10 * t + n)
def mOK (σ : zS) (n t : Int) : Prop := 0 ≤ σ 53 (10 * t + n) ∧ σ 53 (10 * t + n) ≤ 16 ∧ gV (bM σ) n (t + 1) (rM σ n t)
/-- only the given row x has changed -/
def gFr (σ σ' : zS) (x : Int) : Prop := zmm [50, 51] [] σ σ' ∧ (∀ j, ¬ j = x → σ' 51 j = σ 51 j) ∧ ∀ j, j < 16 * x ∨ 16 * x + 16 ≤ j → σ' 50 j = σ 50 j
def lFr (σ σ' : zS) (x : Int) : Prop := zmm [50, 51, 52, 53] [] σ σ' ∧ (∀ j, ¬ j = x → σ' 51 j = σ 51 j ∧ σ' 53 j = σ 53 j) ∧ ∀ j, j < 16 * x ∨ 16 * x + 16 ≤ j → σ' 50 j = σ 50 j ∧ σ' 52 j = σ 52 j
theorem gFr_rf {σ : zS} {x : Int} : gFr σ σ x := ⟨zmm_rf, fun _ _ => rfl, fun _ _ => rfl⟩
theorem gFr_B {σ σ' : zS} {x : Int} (h : gFr σ σ' x) : bM σ' = bM σ := bM_mm h.1 (by decide) (by decide) (by decide)
theorem lFr_B {σ σ' : zS} {x : Int} (h : lFr σ σ' x) : bM σ' = bM σ := bM_mm h.1 (by decide) (by decide) (by decide)
theorem lFr_row {σ σ' : zS} {x y : Int} (h : lFr σ σ' x) (hy : ¬ y = x) (hc : σ 53 y ≤ 16) : hM σ' y = hM σ y := by
  simp only [hM]
  rw [(h.2.1 y hy).2]
  exact zl_congr (fun i i0 i1 => (h.2.2 _ (by omega)).2)
theorem lFr_giv {σ σ' : zS} {x y : Int} (h : lFr σ σ' x) (hy : ¬ y = x) (hc : σ 51 y ≤ 16) : gM σ' y = gM σ y := by
  simp only [gM]
  rw [(h.2.1 y hy).1]
  exact zl_congr (fun i i0 i1 => (h.2.2 _ (by omega)).1)
theorem gM_push {σ : zS} {x m : Int} (h : 0 ≤ σ 51 x) : gM (zwr (zwr σ 50 (16 * x + σ 51 x) m) 51 x (σ 51 x + 1)) x = gM σ x ++ [m] := by
  simp only [gM]
  rw [zwr_s, zwr_o (by decide), zl_s h, zwr_s]
  congr 1
  exact zl_congr (fun j j0 j1 => by simp only [zwr, true_and]; rw [if_neg (by omega)])
theorem hM_push {σ : zS} {x m : Int} (h : 0 ≤ σ 53 x) : hM (zwr (zwr σ 52 (16 * x + σ 53 x) m) 53 x (σ 53 x + 1)) x = hM σ x ++ [m] := by
  simp only [hM]
  rw [zwr_s, zwr_o (by decide), zl_s h, zwr_s]
  congr 1
  exact zl_congr (fun j j0 j1 => by simp only [zwr, true_and]; rw [if_neg (by omega)])
section M3
variable {σ : zS} {Q : Int → zS → Prop}
set_option maxRecDepth 100000 in
theorem m_list_in {t n k p : Int} (hB : Bd (bM σ)) (h0 : 0 ≤ t) (h1 : t < 16) (h2 : 0 ≤ n) (h3 : n < 10) (p0 : 0 ≤ p) (p1 : p < t) (hr : mOK σ n p) (acc0 : List Int)
    (hK : ∀ (σ1 : zS) (l6 : Option zW), gFr σ σ1 (10 * t + n) → 0 ≤ σ1 51 (10 * t + n) → gM σ1 (10 * t + n) = (rM σ n p).foldl (gAdd (bM σ)) acc0 → gV (bM σ) n t (gM σ1 (10 * t + n)) → zV 85 zF Q 24 [some (.inr 31), some (.inl t), some (.inl n), some (.inl (10 * t + n)), some (.inl (k + 1)), some (.inl (10 * p + n)), l6] [] σ1) :
    ∀ (c : Nat) (i : Int) (σ1 : zS), 0 ≤ i → i ≤ σ 53 (10 * p + n) → (σ 53 (10 * p + n) - i).toNat = c → gFr σ σ1 (10 * t + n) → 0 ≤ σ1 51 (10 * t + n) → gM σ1 (10 * t + n) = (zl (fun i => σ 52 (16 * (10 * p + n) + i)) i).foldl (gAdd (bM σ)) acc0 → gV (bM σ) n t (gM σ1 (10 * t + n)) →
      zV 85 zF Q 51 [some (.inr 31), some (.inl t), some (.inl n), some (.inl (10 * t + n)), some (.inl k), some (.inl (10 * p + n)), some (.inl i)] [] σ1 := by
  obtain ⟨hr1, hr2, hr3⟩ := hr
  have hnn : 1 ≤ σ 31 0 ∧ σ 31 0 ≤ 16 ∧ 3 ≤ σ 31 7 ∧ σ 31 7 ≤ 60 := hB.n
  intro c
  induction c with
  | zero =>
    intro i σ1 i0 i1 ic hf hg0 hg hgv
    have e53 : σ1 53 = σ 53 := hf.1.1 53 (by decide) (by decide)
    refine zv_85 200 ?_
    simp only [zs_85_0, zs_85_2, zs_85_3, zs_85_4, zs_85_5, zs_85_6, zs_85_7, zs_85_8, zs_85_11, zs_85_12, zs_85_13, zs_85_14, zs_85_15, zs_85_18, zs_85_19, zs_85_20, zs_85_21, zs_85_22, zs_85_24, zs_85_26, zs_85_27, zs_85_28, zs_85_31, zs_85_34, zs_85_36, zs_85_37, zs_85_38, zs_85_40, zs_85_43, zs_85_44, zs_85_45, zs_85_46, zs_85_48, zs_85_49, zs_85_51, zs_85_53, zs_85_54, zs_85_57, zs_85_59, zs_85_60, zs_85_63, zs_85_64, zs_85_65, zs_85_66, zs_85_69, zs_85_71, zs_85_73, zs_85_74, zs_85_76, zs_85_77, zs_85_78, zs_85_81, zs_85_84, zs_85_87, zs_85_90, zs_85_93, zs_85_94, zs_85_97, zs_85_98, zs_85_99, zs_85_101, zs_85_104, zs_85_105, zs_85_108, zs_85_110, zs_85_111, zs_85_112, zs_85_113, zs_85_116, zs_85_117, zs_85_118, zs_85_119, zs_85_120, zs_85_123, zs_85_124, zs_85_125, zs_85_126, zs_85_127, zs_85_128, zs_85_130, zs_85_132, zs_85_133, zs_85_136, zs_85_137, zs_85_138, zs_85_141, zs_85_142, zs_85_143, zs_85_144, zs_85_147, zs_85_149, zs_85_150, zs_85_151, zs_85_153, zs_85_154, zs_85_155, zs_85_158, zs_85_161, zs_85_162, zs_85_165, zs_85_167, zs_85_168, zs_85_169, zs_85_170, zs_85_173, zs_85_174, zs_85_175, zs_85_176, zs_85_177, zs_85_180, zs_85_182, zs_85_183, zs_85_184, zs_85_186, zs_85_187, zs_85_188, zs_85_189, zs_85_190, zs_85_193, zs_85_194, zs_85_195, zs_85_196, zs_85_197, zs_85_198, zs_85_199, zs_85_202, zs_85_205, zs_85_24h, zs_85_51h, zs_85_130h, za_46, za_50, za_51, za_52, za_53, zg_31_16, zg_31_21, zg_31_22, zg_31_23, zg_31_24, zrc_82, zrc_83, zrc_86, zrc_87, zli_0, zli_s, zlr_0, zlr_s, zls_0, zls_s, z1i_e, z2i_e, z1r_e, zir_e, ziir_e, z1v_e, z2v_e, zone_e, znil_e, zsp_0, zsp_s, zlz_0, zlz_1, zlz_2, zlz_3, zlz_4, zswp_0, zswp_s, true_and, and_true, implies_true, true_or, or_true, Int.reduceEq, Int.reduceLT, Int.reduceLE, Int.reduceNeg, not_true_eq_false, not_false_eq_true, false_implies, true_implies, zr_e, zwr_o, zwr_s, Nat.reduceEqDiff]
    rw [e53]
    refine ⟨by omega, by omega, by omega, by omega, fun a => ?_, fun a => by omega⟩
    refine hK σ1 _ hf hg0 ?_ hgv
    rw [hg, show i = σ 53 (10 * p + n) by omega]
    rfl
  | succ c ih =>
    intro i σ1 i0 i1 ic hf hg0 hg hgv
    have e53 : σ1 53 = σ 53 := hf.1.1 53 (by decide) (by decide)
    have e52 : σ1 52 = σ 52 := hf.1.1 52 (by decide) (by decide)
    have eB := gFr_B hf
    have hv := hr3.2 (σ 52 (16 * (10 * p + n) + i)) (show σ 52 (16 * (10 * p + n) + i) ∈ zl (fun i => σ 52 (16 * (10 * p + n) + i)) (σ 53 (10 * p + n)) from zl_mem.mpr ⟨i, i0, by omega, rfl⟩)
    have hm60 : σ 52 (16 * (10 * p + n) + i) < 60 := by have h5 : _ < σ 31 7 := hv.2.1; omega
    have hlen := gV_len hgv h0 hB
    have hcl : (gM σ1 (10 * t + n)).length = σ1 51 (10 * t + n) := zl_len hg0
    have hnext : (zl (fun i => σ 52 (16 * (10 * p + n) + i)) (i + 1)).foldl (gAdd (bM σ)) acc0 = gAdd (bM σ) (gM σ1 (10 * t + n)) (σ 52 (16 * (10 * p + n) + i)) := by
      rw [zl_s i0, List.foldl_append, ← hg]
      rfl
    have hgv2 := gV_add hgv hv.1 hv.2.1 hv.2.2.1 (by omega)
    refine zv_85 200 ?_
    simp only [zs_85_0, zs_85_2, zs_85_3, zs_85_4, zs_85_5, zs_85_6, zs_85_7, zs_85_8, zs_85_11, zs_85_12, zs_85_13, zs_85_14, zs_85_15, zs_85_18, zs_85_19, zs_85_20, zs_85_21, zs_85_22, zs_85_24, zs_85_26, zs_85_27, zs_85_28, zs_85_31, zs_85_34, zs_85_36, zs_85_37, zs_85_38, zs_85_40, zs_85_43, zs_85_44, zs_85_45, zs_85_46, zs_85_48, zs_85_49, zs_85_51, zs_85_53, zs_85_54, zs_85_57, zs_85_59, zs_85_60, zs_85_63, zs_85_64, zs_85_65, zs_85_66, zs_85_69, zs_85_71, zs_85_73, zs_85_74, zs_85_76, zs_85_77, zs_85_78, zs_85_81, zs_85_84, zs_85_87, zs_85_90, zs_85_93, zs_85_94, zs_85_97, zs_85_98, zs_85_99, zs_85_101, zs_85_104, zs_85_105, zs_85_108, zs_85_110, zs_85_111, zs_85_112, zs_85_113, zs_85_116, zs_85_117, zs_85_118, zs_85_119, zs_85_120, zs_85_123, zs_85_124, zs_85_125, zs_85_126, zs_85_127, zs_85_128, zs_85_130, zs_85_132, zs_85_133, zs_85_136, zs_85_137, zs_85_138, zs_85_141, zs_85_142, zs_85_143, zs_85_144, zs_85_147, zs_85_149, zs_85_150, zs_85_151, zs_85_153, zs_85_154, zs_85_155, zs_85_158, zs_85_161, zs_85_162, zs_85_165, zs_85_167, zs_85_168, zs_85_169, zs_85_170, zs_85_173, zs_85_174, zs_85_175, zs_85_176, zs_85_177, zs_85_180, zs_85_182, zs_85_183, zs_85_184, zs_85_186, zs_85_187, zs_85_188, zs_85_189, zs_85_190, zs_85_193, zs_85_194, zs_85_195, zs_85_196, zs_85_197, zs_85_198, zs_85_199, zs_85_202, zs_85_205, zs_85_24h, zs_85_51h, zs_85_130h, za_46, za_50, za_51, za_52, za_53, zg_31_16, zg_31_21, zg_31_22, zg_31_23, zg_31_24, zrc_82, zrc_83, zrc_86, zrc_87, zli_0, zli_s, zlr_0, zlr_s, zls_0, zls_s, z1i_e, z2i_e, z1r_e, zir_e, ziir_e, z1v_e, z2v_e, zone_e, znil_e, zsp_0, zsp_s, zlz_0, zlz_1, zlz_2, zlz_3, zlz_4, zswp_0, zswp_s, true_and, and_true, implies_true, true_or, or_true, Int.reduceEq, Int.reduceLT, Int.reduceLE, Int.reduceNeg, not_true_eq_false, not_false_eq_true, false_implies, true_implies, zr_e, zwr_o, zwr_s, Nat.reduceEqDiff]
    rw [e53, e52]
    refine ⟨by omega, by omega, by omega, by omega, fun a => by omega, fun a => ⟨by omega, by omega, ?_⟩⟩
    refine m_give (by rw [eB]; exact hB) (by omega) (by omega) hv.1 hm60 hg0 (by omega) (fun g hgm => by have := hgv.2 g hgm; have h5 : g < σ 31 7 := this.2.1; omega) (fun a1 a2 => ?_) (fun a1 => ?_)
    · rw [eB] at a1
      have e1 : gAdd (bM σ) (gM σ1 (10 * t + n)) (σ 52 (16 * (10 * p + n) + i)) = gM σ1 (10 * t + n) ++ [σ 52 (16 * (10 * p + n) + i)] := by
        unfold gAdd
        rw [if_pos]
        simp [a1, a2]
      have ep := gM_push (σ := σ1) (x := 10 * t + n) (m := σ 52 (16 * (10 * p + n) + i)) hg0
      refine ih (i + 1) _ (by omega) (by omega) (by omega) ⟨zmm_wr (zmm_wr hf.1 (by decide) (by decide)) (by decide) (by decide), fun j hj => ?_, fun j hj => ?_⟩ (by rw [zwr_s]; omega) ?_ ?_
      · simp only [zwr, true_and, if_neg hj, show ¬ ((51 : Nat) = 50) by decide, false_and, if_false]
        exact hf.2.1 j hj
      · simp only [zwr, true_and, show ¬ ((50 : Nat) = 51) by decide, false_and, if_false]
        rw [if_neg (by omega)]
        exact hf.2.2 j hj
      · rw [ep, hnext, e1]
      · rw [ep, ← e1]; exact hgv2
    · rw [eB] at a1
      have e1 : gAdd (bM σ) (gM σ1 (10 * t + n)) (σ 52 (16 * (10 * p + n) + i)) = gM σ1 (10 * t + n) := by
        unfold gAdd
        rw [if_neg]
        intro z
        simp only [Bool.and_eq_true, Bool.not_eq_true', decide_eq_false_iff_not] at z
        rcases a1 with b | b
        · rw [b] at z; exact absurd z.1 (by decide)
        · exact z.2 b
      refine ih (i + 1) σ1 (by omega) (by omega) (by omega) hf hg0 ?_ hgv
      rw [hnext, e1]
set_option maxRecDepth 100000 in
theorem m_list_had {σ1 : zS} {t n : Int} (hB : Bd (bM σ1)) (x0 : 0 ≤ 10 * t + n) (x1 : 10 * t + n < 160) (hg0 : 0 ≤ σ1 51 (10 * t + n)) (hg1 : σ1 51 (10 * t + n) ≤ 15) (hz : ∀ g, g ∈ gM σ1 (10 * t + n) → 0 ≤ g ∧ g < 60)
    (h : ∀ σ', lFr σ1 σ' (10 * t + n) → σ' 51 = σ1 51 → σ' 50 = σ1 50 → 0 ≤ σ' 53 (10 * t + n) → σ' 53 (10 * t + n) ≤ 16 → hM σ' (10 * t + n) = (gM σ1 (10 * t + n)).filter (fun m => !gLM (bM σ1) (σ1 49) (gM σ1 (10 * t + n)) m) → Q 0 σ') :
    ∀ (c : Nat) (i : Int) (σ2 : zS) (l5 l6 : Option zW), 0 ≤ i → i ≤ σ1 51 (10 * t + n) → (σ1 51 (10 * t + n) - i).toNat = c → lFr σ1 σ2 (10 * t + n) → σ2 51 = σ1 51 → σ2 50 = σ1 50 → 0 ≤ σ2 53 (10 * t + n) → σ2 53 (10 * t + n) ≤ i → hM σ2 (10 * t + n) = (zl (fun i => σ1 50 (16 * (10 * t + n) + i)) i).filter (fun m => !gLM (bM σ1) (σ1 49) (gM σ1 (10 * t + n)) m) →
      zV 85 zF Q 130 [some (.inr 31), some (.inl t), some (.inl n), some (.inl (10 * t + n)), some (.inl i), l5, l6] [] σ2 := by
  generalize 10 * t + n = x at *
  intro c
  induction c with
  | zero =>
    intro i σ2 l5 l6 i0 i1 ic hf e51 e50 hc0 hc1 hh
    refine zv_85 200 ?_
    simp only [zs_85_0, zs_85_2, zs_85_3, zs_85_4, zs_85_5, zs_85_6, zs_85_7, zs_85_8, zs_85_11, zs_85_12, zs_85_13, zs_85_14, zs_85_15, zs_85_18, zs_85_19, zs_85_20, zs_85_21, zs_85_22, zs_85_24, zs_85_26, zs_85_27, zs_85_28, zs_85_31, zs_85_34, zs_85_36, zs_85_37, zs_85_38, zs_85_40, zs_85_43, zs_85_44, zs_85_45, zs_85_46, zs_85_48, zs_85_49, zs_85_51, zs_85_53, zs_85_54, zs_85_57, zs_85_59, zs_85_60, zs_85_63, zs_85_64, zs_85_65, zs_85_66, zs_85_69, zs_85_71, zs_85_73, zs_85_74, zs_85_76, zs_85_77, zs_85_78, zs_85_81, zs_85_84, zs_85_87, zs_85_90, zs_85_93, zs_85_94, zs_85_97, zs_85_98, zs_85_99, zs_85_101, zs_85_104, zs_85_105, zs_85_108, zs_85_110, zs_85_111, zs_85_112, zs_85_113, zs_85_116, zs_85_117, zs_85_118, zs_85_119, zs_85_120, zs_85_123, zs_85_124, zs_85_125, zs_85_126, zs_85_127, zs_85_128, zs_85_130, zs_85_132, zs_85_133, zs_85_136, zs_85_137, zs_85_138, zs_85_141, zs_85_142, zs_85_143, zs_85_144, zs_85_147, zs_85_149, zs_85_150, zs_85_151, zs_85_153, zs_85_154, zs_85_155, zs_85_158, zs_85_161, zs_85_162, zs_85_165, zs_85_167, zs_85_168, zs_85_169, zs_85_170, zs_85_173, zs_85_174, zs_85_175, zs_85_176, zs_85_177, zs_85_180, zs_85_182, zs_85_183, zs_85_184, zs_85_186, zs_85_187, zs_85_188, zs_85_189, zs_85_190, zs_85_193, zs_85_194, zs_85_195, zs_85_196, zs_85_197, zs_85_198, zs_85_199, zs_85_202, zs_85_205, zs_85_24h, zs_85_51h, zs_85_130h, za_46, za_50, za_51, za_52, za_53, zg_31_16, zg_31_21, zg_31_22, zg_31_23, zg_31_24, zrc_82, zrc_83, zrc_86, zrc_87, zli_0, zli_s, zlr_0, zlr_s, zls_0, zls_s, z1i_e, z2i_e, z1r_e, zir_e, ziir_e, z1v_e, z2v_e, zone_e, znil_e, zsp_0, zsp_s, zlz_0, zlz_1, zlz_2, zlz_3, zlz_4, zswp_0, zswp_s, true_and, and_true, implies_true, true_or, or_true, Int.reduceEq, Int.reduceLT, Int.reduceLE, Int.reduceNeg, not_true_eq_false, not_false_eq_true, false_implies, true_implies, zr_e, zwr_o, zwr_s, Nat.reduceEqDiff]
    rw [e51]
    refine ⟨by omega, by omega, by omega, by omega, fun a => ?_, fun a => by omega⟩
    refine h σ2 hf e51 e50 hc0 (by omega) ?_
    rw [hh, show i = σ1 51 x by omega]
    rfl
  | succ c ih =>
    intro i σ2 l5 l6 i0 i1 ic hf e51 e50 hc0 hc1 hh
    have eB := lFr_B hf
    have e49 : σ2 49 = σ1 49 := hf.1.1 49 (by decide) (by decide)
    have hm := hz (σ1 50 (16 * x + i)) (zl_mem.mpr ⟨i, i0, by omega, rfl⟩)
    have eg : gM σ2 x = gM σ1 x := by simp only [gM, e50, e51]
    refine zv_85 200 ?_
    simp only [zs_85_0, zs_85_2, zs_85_3, zs_85_4, zs_85_5, zs_85_6, zs_85_7, zs_85_8, zs_85_11, zs_85_12, zs_85_13, zs_85_14, zs_85_15, zs_85_18, zs_85_19, zs_85_20, zs_85_21, zs_85_22, zs_85_24, zs_85_26, zs_85_27, zs_85_28, zs_85_31, zs_85_34, zs_85_36, zs_85_37, zs_85_38, zs_85_40, zs_85_43, zs_85_44, zs_85_45, zs_85_46, zs_85_48, zs_85_49, zs_85_51, zs_85_53, zs_85_54, zs_85_57, zs_85_59, zs_85_60, zs_85_63, zs_85_64, zs_85_65, zs_85_66, zs_85_69, zs_85_71, zs_85_73, zs_85_74, zs_85_76, zs_85_77, zs_85_78, zs_85_81, zs_85_84, zs_85_87, zs_85_90, zs_85_93, zs_85_94, zs_85_97, zs_85_98, zs_85_99, zs_85_101, zs_85_104, zs_85_105, zs_85_108, zs_85_110, zs_85_111, zs_85_112, zs_85_113, zs_85_116, zs_85_117, zs_85_118, zs_85_119, zs_85_120, zs_85_123, zs_85_124, zs_85_125, zs_85_126, zs_85_127, zs_85_128, zs_85_130, zs_85_132, zs_85_133, zs_85_136, zs_85_137, zs_85_138, zs_85_141, zs_85_142, zs_85_143, zs_85_144, zs_85_147, zs_85_149, zs_85_150, zs_85_151, zs_85_153, zs_85_154, zs_85_155, zs_85_158, zs_85_161, zs_85_162, zs_85_165, zs_85_167, zs_85_168, zs_85_169, zs_85_170, zs_85_173, zs_85_174, zs_85_175, zs_85_176, zs_85_177, zs_85_180, zs_85_182, zs_85_183, zs_85_184, zs_85_186, zs_85_187, zs_85_188, zs_85_189, zs_85_190, zs_85_193, zs_85_194, zs_85_195, zs_85_196, zs_85_197, zs_85_198, zs_85_199, zs_85_202, zs_85_205, zs_85_24h, zs_85_51h, zs_85_130h, za_46, za_50, za_51, za_52, za_53, zg_31_16, zg_31_21, zg_31_22, zg_31_23, zg_31_24, zrc_82, zrc_83, zrc_86, zrc_87, zli_0, zli_s, zlr_0, zlr_s, zls_0, zls_s, z1i_e, z2i_e, z1r_e, zir_e, ziir_e, z1v_e, z2v_e, zone_e, znil_e, zsp_0, zsp_s, zlz_0, zlz_1, zlz_2, zlz_3, zlz_4, zswp_0, zswp_s, true_and, and_true, implies_true, true_or, or_true, Int.reduceEq, Int.reduceLT, Int.reduceLE, Int.reduceNeg, not_true_eq_false, not_false_eq_true, false_implies, true_implies, zr_e, zwr_o, zwr_s, Nat.reduceEqDiff]
    rw [e51, e50]
    refine ⟨by omega, by omega, by omega, by omega, fun a => by omega, fun a => ⟨by omega, by omega, ?_⟩⟩
    refine m_isLost (by rw [eB]; exact hB) x0 x1 hm.1 hm.2 (by rw [e51]; omega) (by rw [e51]; omega) (by rw [eg]; exact hz) (fun b => ?_) (fun b => ?_)
    · rw [eB, e49, eg] at b
      simp only [zs_85_0, zs_85_2, zs_85_3, zs_85_4, zs_85_5, zs_85_6, zs_85_7, zs_85_8, zs_85_11, zs_85_12, zs_85_13, zs_85_14, zs_85_15, zs_85_18, zs_85_19, zs_85_20, zs_85_21, zs_85_22, zs_85_24, zs_85_26, zs_85_27, zs_85_28, zs_85_31, zs_85_34, zs_85_36, zs_85_37, zs_85_38, zs_85_40, zs_85_43, zs_85_44, zs_85_45, zs_85_46, zs_85_48, zs_85_49, zs_85_51, zs_85_53, zs_85_54, zs_85_57, zs_85_59, zs_85_60, zs_85_63, zs_85_64, zs_85_65, zs_85_66, zs_85_69, zs_85_71, zs_85_73, zs_85_74, zs_85_76, zs_85_77, zs_85_78, zs_85_81, zs_85_84, zs_85_87, zs_85_90, zs_85_93, zs_85_94, zs_85_97, zs_85_98, zs_85_99, zs_85_101, zs_85_104, zs_85_105, zs_85_108, zs_85_110, zs_85_111, zs_85_112, zs_85_113, zs_85_116, zs_85_117, zs_85_118, zs_85_119, zs_85_120, zs_85_123, zs_85_124, zs_85_125, zs_85_126, zs_85_127, zs_85_128, zs_85_130, zs_85_132, zs_85_133, zs_85_136, zs_85_137, zs_85_138, zs_85_141, zs_85_142, zs_85_143, zs_85_144, zs_85_147, zs_85_149, zs_85_150, zs_85_151, zs_85_153, zs_85_154, zs_85_155, zs_85_158, zs_85_161, zs_85_162, zs_85_165, zs_85_167, zs_85_168, zs_85_169, zs_85_170, zs_85_173, zs_85_174, zs_85_175, zs_85_176, zs_85_177, zs_85_180, zs_85_182, zs_85_183, zs_85_184, zs_85_186, zs_85_187, zs_85_188, zs_85_189, zs_85_190, zs_85_193, zs_85_194, zs_85_195, zs_85_196, zs_85_197, zs_85_198, zs_85_199, zs_85_202, zs_85_205, za_46, za_50, za_51, za_52, za_53, zg_31_16, zg_31_21, zg_31_22, zg_31_23, zg_31_24, zrc_82, zrc_83, zrc_86, zrc_87, zli_0, zli_s, zlr_0, zlr_s, zls_0, zls_s, z1i_e, z2i_e, z1r_e, zir_e, ziir_e, z1v_e, z2v_e, zone_e, znil_e, zsp_0, zsp_s, zlz_0, zlz_1, zlz_2, zlz_3, zlz_4, zswp_0, zswp_s, true_and, and_true, implies_true, true_or, or_true, Int.reduceEq, Int.reduceLT, Int.reduceLE, Int.reduceNeg, not_true_eq_false, not_false_eq_true, false_implies, true_implies, zr_e, zwr_o, zwr_s, Nat.reduceEqDiff]
      refine ih (i + 1) σ2 _ _ (by omega) (by omega) (by omega) hf e51 e50 hc0 (by omega) ?_
      rw [zl_s i0, List.filter_append, ← hh, List.filter_cons_of_neg (by simp [b])]
      simp
    · rw [eB, e49, eg] at b
      simp only [zs_85_0, zs_85_2, zs_85_3, zs_85_4, zs_85_5, zs_85_6, zs_85_7, zs_85_8, zs_85_11, zs_85_12, zs_85_13, zs_85_14, zs_85_15, zs_85_18, zs_85_19, zs_85_20, zs_85_21, zs_85_22, zs_85_24, zs_85_26, zs_85_27, zs_85_28, zs_85_31, zs_85_34, zs_85_36, zs_85_37, zs_85_38, zs_85_40, zs_85_43, zs_85_44, zs_85_45, zs_85_46, zs_85_48, zs_85_49, zs_85_51, zs_85_53, zs_85_54, zs_85_57, zs_85_59, zs_85_60, zs_85_63, zs_85_64, zs_85_65, zs_85_66, zs_85_69, zs_85_71, zs_85_73, zs_85_74, zs_85_76, zs_85_77, zs_85_78, zs_85_81, zs_85_84, zs_85_87, zs_85_90, zs_85_93, zs_85_94, zs_85_97, zs_85_98, zs_85_99, zs_85_101, zs_85_104, zs_85_105, zs_85_108, zs_85_110, zs_85_111, zs_85_112, zs_85_113, zs_85_116, zs_85_117, zs_85_118, zs_85_119, zs_85_120, zs_85_123, zs_85_124, zs_85_125, zs_85_126, zs_85_127, zs_85_128, zs_85_130, zs_85_132, zs_85_133, zs_85_136, zs_85_137, zs_85_138, zs_85_141, zs_85_142, zs_85_143, zs_85_144, zs_85_147, zs_85_149, zs_85_150, zs_85_151, zs_85_153, zs_85_154, zs_85_155, zs_85_158, zs_85_161, zs_85_162, zs_85_165, zs_85_167, zs_85_168, zs_85_169, zs_85_170, zs_85_173, zs_85_174, zs_85_175, zs_85_176, zs_85_177, zs_85_180, zs_85_182, zs_85_183, zs_85_184, zs_85_186, zs_85_187, zs_85_188, zs_85_189, zs_85_190, zs_85_193, zs_85_194, zs_85_195, zs_85_196, zs_85_197, zs_85_198, zs_85_199, zs_85_202, zs_85_205, za_46, za_50, za_51, za_52, za_53, zg_31_16, zg_31_21, zg_31_22, zg_31_23, zg_31_24, zrc_82, zrc_83, zrc_86, zrc_87, zli_0, zli_s, zlr_0, zlr_s, zls_0, zls_s, z1i_e, z2i_e, z1r_e, zir_e, ziir_e, z1v_e, z2v_e, zone_e, znil_e, zsp_0, zsp_s, zlz_0, zlz_1, zlz_2, zlz_3, zlz_4, zswp_0, zswp_s, true_and, and_true, implies_true, true_or, or_true, Int.reduceEq, Int.reduceLT, Int.reduceLE, Int.reduceNeg, not_true_eq_false, not_false_eq_true, false_implies, true_implies, zr_e, zwr_o, zwr_s, Nat.reduceEqDiff]
      rw [e50]
      refine ⟨by omega, by omega, by omega, by omega, by omega, by omega, by omega, by omega, by omega, by omega, ?_⟩
      refine ih (i + 1) _ _ _ (by omega) (by omega) (by omega) ⟨zmm_wr (zmm_wr hf.1 (by decide) (by decide)) (by decide) (by decide), fun j hj => ?_, fun j hj => ?_⟩ ?_ ?_ (by rw [zwr_s]; omega) (by rw [zwr_s]; omega) ?_
      · refine ⟨?_, ?_⟩
        · rw [zwr_o (by decide), zwr_o (by decide)]; exact (hf.2.1 j hj).1
        · simp only [zwr, true_and, if_neg hj, show ¬ ((53 : Nat) = 52) by decide, false_and, if_false]
          exact (hf.2.1 j hj).2
      · refine ⟨?_, ?_⟩
        · rw [zwr_o (by decide), zwr_o (by decide)]; exact (hf.2.2 j hj).1
        · simp only [zwr, true_and, show ¬ ((52 : Nat) = 53) by decide, false_and, if_false]
          rw [if_neg (by omega)]
          exact (hf.2.2 j hj).2
      · rw [zwr_o (by decide), zwr_o (by decide)]; exact e51
      · rw [zwr_o (by decide), zwr_o (by decide)]; exact e50
      · rw [hM_push hc0, hh, zl_s i0, List.filter_append, List.filter_cons_of_pos (by simp [b])]
        simp
theorem gV_cong {B B' : zS} (h : B' = B) {n u : Int} {l : List Int} (hv : gV B n u l) : gV B' n u l := by rw [h]; exact hv
/-- what the reference has of a name -/
noncomputable def gHM (B : zS) (A : Int → Int) (H : Int → List Int) (t n : Int) : List Int := if B 13 (10 * t + n) = -4 then (gGiv B H t).filter (fun m => !gLM B A (gGiv B H t) m) else [B 13 (10 * t + n)]
set_option maxRecDepth 100000 in
theorem m_list_out {t n : Int} (hB : Bd (bM σ)) (h0 : 0 ≤ t) (h1 : t < 16) (h2 : 0 ≤ n) (h3 : n < 10) (hr : ∀ p, 0 ≤ p → p < t → mOK σ n p) (hc53 : σ 53 (10 * t + n) = 0)
    (h : ∀ σ', lFr σ σ' (10 * t + n) → gM σ' (10 * t + n) = gGiv (bM σ) (rM σ n) t → 0 ≤ σ' 51 (10 * t + n) → σ' 51 (10 * t + n) ≤ 16 → hM σ' (10 * t + n) = gHM (bM σ) (σ 49) (rM σ n) t n → 0 ≤ σ' 53 (10 * t + n) → σ' 53 (10 * t + n) ≤ 16 → Q 0 σ') :
    ∀ (c : Nat) (k : Int) (σ1 : zS) (l5 l6 : Option zW), 0 ≤ k → k ≤ gPc (bM σ) t → (gPc (bM σ) t - k).toNat = c → gFr σ σ1 (10 * t + n) → 0 ≤ σ1 51 (10 * t + n) → gM σ1 (10 * t + n) = ((zl (gPa (bM σ) t) k).flatMap (rM σ n)).foldl (gAdd (bM σ)) [] → gV (bM σ) n t (gM σ1 (10 * t + n)) →
      zV 85 zF Q 24 [some (.inr 31), some (.inl t), some (.inl n), some (.inl (10 * t + n)), some (.inl k), l5, l6] [] σ1 := by
  have hp := gPc_le hB h0 h1
  have hnn : 1 ≤ σ 31 0 ∧ σ 31 0 ≤ 16 ∧ 3 ≤ σ 31 7 ∧ σ 31 7 ≤ 60 := hB.n
  intro c
  induction c with
  | zero =>
    intro k σ1 l5 l6 k0 k1 kc hf hg0 hg hgv
    have eB := gFr_B hf
    have hB1 : Bd (bM σ1) := by rw [eB]; exact hB
    have e46 : σ1 46 = σ 46 := hf.1.1 46 (by decide) (by decide)
    have e53 : σ1 53 = σ 53 := hf.1.1 53 (by decide) (by decide)
    have e52 : σ1 52 = σ 52 := hf.1.1 52 (by decide) (by decide)
    have e49 : σ1 49 = σ 49 := hf.1.1 49 (by decide) (by decide)
    have how : σ 46 (10 * t + n) = -4 ∨ (0 ≤ σ 46 (10 * t + n) ∧ σ 46 (10 * t + n) < σ 31 7) := hB.ow (10 * t + n) (by omega) (by omega)
    have eg : gM σ1 (10 * t + n) = gGiv (bM σ) (rM σ n) t := by rw [hg, show k = gPc (bM σ) t by omega]; rfl
    have hlen := gV_len hgv h0 hB
    have hcl : (gM σ1 (10 * t + n)).length = σ1 51 (10 * t + n) := zl_len hg0
    have hz : ∀ g, g ∈ gM σ1 (10 * t + n) → 0 ≤ g ∧ g < 60 := fun g hgm => by have := hgv.2 g hgm; have h5 : g < σ 31 7 := this.2.1; omega
    have l1 : lFr σ σ1 (10 * t + n) := ⟨zmm_tr zmm_rf hf.1 (by decide) (by decide), fun j hj => ⟨hf.2.1 j hj, by rw [e53]⟩, fun j hj => ⟨hf.2.2 j hj, by rw [e52]⟩⟩
    refine zv_85 200 ?_
    simp only [zs_85_0, zs_85_2, zs_85_3, zs_85_4, zs_85_5, zs_85_6, zs_85_7, zs_85_8, zs_85_11, zs_85_12, zs_85_13, zs_85_14, zs_85_15, zs_85_18, zs_85_19, zs_85_20, zs_85_21, zs_85_22, zs_85_24, zs_85_26, zs_85_27, zs_85_28, zs_85_31, zs_85_34, zs_85_36, zs_85_37, zs_85_38, zs_85_40, zs_85_43, zs_85_44, zs_85_45, zs_85_46, zs_85_48, zs_85_49, zs_85_51, zs_85_53, zs_85_54, zs_85_57, zs_85_59, zs_85_60, zs_85_63, zs_85_64, zs_85_65, zs_85_66, zs_85_69, zs_85_71, zs_85_73, zs_85_74, zs_85_76, zs_85_77, zs_85_78, zs_85_81, zs_85_84, zs_85_87, zs_85_90, zs_85_93, zs_85_94, zs_85_97, zs_85_98, zs_85_99, zs_85_101, zs_85_104, zs_85_105, zs_85_108, zs_85_110, zs_85_111, zs_85_112, zs_85_113, zs_85_116, zs_85_117, zs_85_118, zs_85_119, zs_85_120, zs_85_123, zs_85_124, zs_85_125, zs_85_126, zs_85_127, zs_85_128, zs_85_130, zs_85_132, zs_85_133, zs_85_136, zs_85_137, zs_85_138, zs_85_141, zs_85_142, zs_85_143, zs_85_144, zs_85_147, zs_85_149, zs_85_150, zs_85_151, zs_85_153, zs_85_154, zs_85_155, zs_85_158, zs_85_161, zs_85_162, zs_85_165, zs_85_167, zs_85_168, zs_85_169, zs_85_170, zs_85_173, zs_85_174, zs_85_175, zs_85_176, zs_85_177, zs_85_180, zs_85_182, zs_85_183, zs_85_184, zs_85_186, zs_85_187, zs_85_188, zs_85_189, zs_85_190, zs_85_193, zs_85_194, zs_85_195, zs_85_196, zs_85_197, zs_85_198, zs_85_199, zs_85_202, zs_85_205, zs_85_24h, zs_85_51h, zs_85_130h, za_46, za_50, za_51, za_52, za_53, zg_31_16, zg_31_21, zg_31_22, zg_31_23, zg_31_24, zrc_82, zrc_83, zrc_86, zrc_87, zli_0, zli_s, zlr_0, zlr_s, zls_0, zls_s, z1i_e, z2i_e, z1r_e, zir_e, ziir_e, z1v_e, z2v_e, zone_e, znil_e, zsp_0, zsp_s, zlz_0, zlz_1, zlz_2, zlz_3, zlz_4, zswp_0, zswp_s, true_and, and_true, implies_true, true_or, or_true, Int.reduceEq, Int.reduceLT, Int.reduceLE, Int.reduceNeg, not_true_eq_false, not_false_eq_true, false_implies, true_implies, zr_e, zwr_o, zwr_s, Nat.reduceEqDiff]
    refine m_parents hB1 h0 h1 ?_
    rw [eB, e46]
    refine ⟨by omega, by omega, fun a => ⟨by omega, by omega, by omega, fun b => ?_, fun b => ?_⟩, fun a => by omega⟩
    · refine m_list_had hB1 (by omega) (by omega) hg0 (by omega) hz ?_ _ 0 σ1 _ _ (by omega) hg0 rfl ⟨zmm_rf, fun _ _ => ⟨rfl, rfl⟩, fun _ _ => ⟨rfl, rfl⟩⟩ rfl rfl (by rw [e53, hc53]; omega) (by rw [e53, hc53]; omega) ?_
      · intro σ' hl e51 e50 c0 c1 hh
        have l2 : lFr σ σ' (10 * t + n) := ⟨zmm_tr l1.1 hl.1 (by decide) (by decide), fun j hj => ⟨by rw [(hl.2.1 j hj).1, (l1.2.1 j hj).1], by rw [(hl.2.1 j hj).2, (l1.2.1 j hj).2]⟩, fun j hj => ⟨by rw [(hl.2.2 j hj).1, (l1.2.2 j hj).1], by rw [(hl.2.2 j hj).2, (l1.2.2 j hj).2]⟩⟩
        have eg2 : gM σ' (10 * t + n) = gM σ1 (10 * t + n) := by simp only [gM, e50, e51]
        refine h σ' l2 (by rw [eg2, eg]) (by rw [e51]; exact hg0) (by rw [e51]; omega) ?_ c0 c1
        rw [hh, eB, e49, eg, gHM, if_pos (show bM σ 13 (10 * t + n) = -4 from b)]
      · simp only [hM]
        rw [e53, hc53, zl_0 (by omega), zl_0 (by omega)]
        rfl
    · refine ⟨by omega, by omega, by omega, by omega, by omega, by omega, ?_⟩
      have eh : hM (zwr (zwr σ1 52 (16 * (10 * t + n)) (σ 46 (10 * t + n))) 53 (10 * t + n) 1) (10 * t + n) = [σ 46 (10 * t + n)] := by
        simp only [hM]
        rw [zwr_s, zwr_o (by decide)]
        have : zl (fun i => zwr σ1 52 (16 * (10 * t + n)) (σ 46 (10 * t + n)) 52 (16 * (10 * t + n) + i)) (0 + 1) = [σ 46 (10 * t + n)] := by
          rw [zl_s (by omega), zl_0 (by omega), Int.add_zero, zwr_s]
          rfl
        exact this
      refine h (zwr (zwr σ1 52 (16 * (10 * t + n)) (σ 46 (10 * t + n))) 53 (10 * t + n) 1) ⟨zmm_wr (zmm_wr l1.1 (by decide) (by decide)) (by decide) (by decide), fun j hj => ⟨?_, ?_⟩, fun j hj => ⟨?_, ?_⟩⟩ ?_ ?_ ?_ ?_ ?_ ?_
      · rw [zwr_o (by decide), zwr_o (by decide)]; exact (l1.2.1 j hj).1
      · simp only [zwr, true_and, if_neg hj, show ¬ ((53 : Nat) = 52) by decide, false_and, if_false]
        exact (l1.2.1 j hj).2
      · rw [zwr_o (by decide), zwr_o (by decide)]; exact (l1.2.2 j hj).1
      · simp only [zwr, true_and, show ¬ ((52 : Nat) = 53) by decide, false_and, if_false]
        rw [if_neg (by omega)]
        exact (l1.2.2 j hj).2
      · rw [← eg]
        simp only [gM]
        rw [zwr_o (by decide), zwr_o (by decide), zwr_o (by decide), zwr_o (by decide)]
      · rw [zwr_o (by decide), zwr_o (by decide)]; exact hg0
      · rw [zwr_o (by decide), zwr_o (by decide)]; omega
      · rw [eh, gHM, if_neg (show ¬ bM σ 13 (10 * t + n) = -4 from b)]
        rfl
      · rw [zwr_s]; omega
      · rw [zwr_s]; omega
  | succ c ih =>
    intro k σ1 l5 l6 k0 k1 kc hf hg0 hg hgv
    have eB := gFr_B hf
    have hB1 : Bd (bM σ1) := by rw [eB]; exact hB
    have hpa := gPa_lt hB h0 h1 k0 (show k < gPc (bM σ) t by omega)
    have hro := hr _ hpa.1 hpa.2
    have e53 : σ1 53 = σ 53 := hf.1.1 53 (by decide) (by decide)
    have e52 : σ1 52 = σ 52 := hf.1.1 52 (by decide) (by decide)
    have er : rM σ1 = rM σ := by funext n' t'; simp only [rM, hM, e52, e53]
    have hro1 : mOK σ1 n (gPa (bM σ) t k) := ⟨by rw [e53]; exact hro.1, by rw [e53]; exact hro.2.1, by rw [er, eB]; exact hro.2.2⟩
    refine zv_85 200 ?_
    simp only [zs_85_0, zs_85_2, zs_85_3, zs_85_4, zs_85_5, zs_85_6, zs_85_7, zs_85_8, zs_85_11, zs_85_12, zs_85_13, zs_85_14, zs_85_15, zs_85_18, zs_85_19, zs_85_20, zs_85_21, zs_85_22, zs_85_24, zs_85_26, zs_85_27, zs_85_28, zs_85_31, zs_85_34, zs_85_36, zs_85_37, zs_85_38, zs_85_40, zs_85_43, zs_85_44, zs_85_45, zs_85_46, zs_85_48, zs_85_49, zs_85_51, zs_85_53, zs_85_54, zs_85_57, zs_85_59, zs_85_60, zs_85_63, zs_85_64, zs_85_65, zs_85_66, zs_85_69, zs_85_71, zs_85_73, zs_85_74, zs_85_76, zs_85_77, zs_85_78, zs_85_81, zs_85_84, zs_85_87, zs_85_90, zs_85_93, zs_85_94, zs_85_97, zs_85_98, zs_85_99, zs_85_101, zs_85_104, zs_85_105, zs_85_108, zs_85_110, zs_85_111, zs_85_112, zs_85_113, zs_85_116, zs_85_117, zs_85_118, zs_85_119, zs_85_120, zs_85_123, zs_85_124, zs_85_125, zs_85_126, zs_85_127, zs_85_128, zs_85_130, zs_85_132, zs_85_133, zs_85_136, zs_85_137, zs_85_138, zs_85_141, zs_85_142, zs_85_143, zs_85_144, zs_85_147, zs_85_149, zs_85_150, zs_85_151, zs_85_153, zs_85_154, zs_85_155, zs_85_158, zs_85_161, zs_85_162, zs_85_165, zs_85_167, zs_85_168, zs_85_169, zs_85_170, zs_85_173, zs_85_174, zs_85_175, zs_85_176, zs_85_177, zs_85_180, zs_85_182, zs_85_183, zs_85_184, zs_85_186, zs_85_187, zs_85_188, zs_85_189, zs_85_190, zs_85_193, zs_85_194, zs_85_195, zs_85_196, zs_85_197, zs_85_198, zs_85_199, zs_85_202, zs_85_205, zs_85_24h, zs_85_51h, zs_85_130h, za_46, za_50, za_51, za_52, za_53, zg_31_16, zg_31_21, zg_31_22, zg_31_23, zg_31_24, zrc_82, zrc_83, zrc_86, zrc_87, zli_0, zli_s, zlr_0, zlr_s, zls_0, zls_s, z1i_e, z2i_e, z1r_e, zir_e, ziir_e, z1v_e, z2v_e, zone_e, znil_e, zsp_0, zsp_s, zlz_0, zlz_1, zlz_2, zlz_3, zlz_4, zswp_0, zswp_s, true_and, and_true, implies_true, true_or, or_true, Int.reduceEq, Int.reduceLT, Int.reduceLE, Int.reduceNeg, not_true_eq_false, not_false_eq_true, false_implies, true_implies, zr_e, zwr_o, zwr_s, Nat.reduceEqDiff]
    refine m_parents hB1 h0 h1 ?_
    rw [eB]
    refine ⟨by omega, by omega, fun a => by omega, fun a => ?_⟩
    refine m_parent hB1 h0 h1 k0 (by rw [eB]; omega) ?_
    rw [eB]
    refine m_list_in (σ := σ1) (p := gPa (bM σ) t k) hB1 h0 h1 h2 h3 hpa.1 hpa.2 hro1 (gM σ1 (10 * t + n)) ?_ _ 0 σ1 (by omega) hro1.1 rfl gFr_rf hg0 ?_ (by rw [eB]; exact hgv)
    · intro σ2 l6 hf2 hg02 hg2 hgv2
      rw [eB] at hgv2 hg2
      refine ih (k + 1) σ2 _ _ (by omega) (by omega) (by omega) ⟨zmm_tr hf.1 hf2.1 (by decide) (by decide), fun j hj => by rw [hf2.2.1 j hj, hf.2.1 j hj], fun j hj => by rw [hf2.2.2 j hj, hf.2.2 j hj]⟩ hg02 ?_ hgv2
      rw [hg2, zl_s k0, List.flatMap_append, List.foldl_append, ← hg, er]
      simp
    · rw [zl_0 (by omega)]; rfl
set_option maxRecDepth 100000 in
theorem m_list {t n : Int} (hB : Bd (bM σ)) (h0 : 0 ≤ t) (h1 : t < 16) (h2 : 0 ≤ n) (h3 : n < 10) (hr : ∀ p, 0 ≤ p → p < t → mOK σ n p)
    (h : ∀ σ', lFr σ σ' (10 * t + n) → gM σ' (10 * t + n) = gGiv (bM σ) (rM σ n) t → 0 ≤ σ' 51 (10 * t + n) → σ' 51 (10 * t + n) ≤ 16 → hM σ' (10 * t + n) = gHM (bM σ) (σ 49) (rM σ n) t n → 0 ≤ σ' 53 (10 * t + n) → σ' 53 (10 * t + n) ≤ 16 → Q 0 σ') : zM 85 zF [.inr 31, .inl t, .inl n] σ Q := by
  have hp := gPc_le hB h0 h1
  have fa : lFr σ (zwr (zwr σ 51 (10 * t + n) 0) 53 (10 * t + n) 0) (10 * t + n) := by
    refine ⟨zmm_wr (zmm_wr zmm_rf (by decide) (by decide)) (by decide) (by decide), fun j hj => ⟨?_, ?_⟩, fun j hj => ⟨?_, ?_⟩⟩
    · simp [zwr, hj]
    · simp [zwr, hj]
    · simp [zwr]
    · simp [zwr]
  have eB := lFr_B fa
  have er : ∀ p, 0 ≤ p → p < t → rM (zwr (zwr σ 51 (10 * t + n) 0) 53 (10 * t + n) 0) n p = rM σ n p := fun p p0 p1 => lFr_row fa (by omega) (hr p p0 p1).2.1
  have eg : gGiv (bM σ) (rM (zwr (zwr σ 51 (10 * t + n) 0) 53 (10 * t + n) 0) n) t = gGiv (bM σ) (rM σ n) t := gGiv_congr hB h0 h1 er
  have e0 : gM (zwr (zwr σ 51 (10 * t + n) 0) 53 (10 * t + n) 0) (10 * t + n) = [] := by
    simp only [gM]
    exact zl_0 (by simp [zwr])
  refine ze_85 200 ?_
  simp only [zs_85_0, zs_85_2, zs_85_3, zs_85_4, zs_85_5, zs_85_6, zs_85_7, zs_85_8, zs_85_11, zs_85_12, zs_85_13, zs_85_14, zs_85_15, zs_85_18, zs_85_19, zs_85_20, zs_85_21, zs_85_22, zs_85_24, zs_85_26, zs_85_27, zs_85_28, zs_85_31, zs_85_34, zs_85_36, zs_85_37, zs_85_38, zs_85_40, zs_85_43, zs_85_44, zs_85_45, zs_85_46, zs_85_48, zs_85_49, zs_85_51, zs_85_53, zs_85_54, zs_85_57, zs_85_59, zs_85_60, zs_85_63, zs_85_64, zs_85_65, zs_85_66, zs_85_69, zs_85_71, zs_85_73, zs_85_74, zs_85_76, zs_85_77, zs_85_78, zs_85_81, zs_85_84, zs_85_87, zs_85_90, zs_85_93, zs_85_94, zs_85_97, zs_85_98, zs_85_99, zs_85_101, zs_85_104, zs_85_105, zs_85_108, zs_85_110, zs_85_111, zs_85_112, zs_85_113, zs_85_116, zs_85_117, zs_85_118, zs_85_119, zs_85_120, zs_85_123, zs_85_124, zs_85_125, zs_85_126, zs_85_127, zs_85_128, zs_85_130, zs_85_132, zs_85_133, zs_85_136, zs_85_137, zs_85_138, zs_85_141, zs_85_142, zs_85_143, zs_85_144, zs_85_147, zs_85_149, zs_85_150, zs_85_151, zs_85_153, zs_85_154, zs_85_155, zs_85_158, zs_85_161, zs_85_162, zs_85_165, zs_85_167, zs_85_168, zs_85_169, zs_85_170, zs_85_173, zs_85_174, zs_85_175, zs_85_176, zs_85_177, zs_85_180, zs_85_182, zs_85_183, zs_85_184, zs_85_186, zs_85_187, zs_85_188, zs_85_189, zs_85_190, zs_85_193, zs_85_194, zs_85_195, zs_85_196, zs_85_197, zs_85_198, zs_85_199, zs_85_202, zs_85_205, za_46, za_50, za_51, za_52, za_53, zg_31_16, zg_31_21, zg_31_22, zg_31_23, zg_31_24, zrc_82, zrc_83, zrc_86, zrc_87, zli_0, zli_s, zlr_0, zlr_s, zls_0, zls_s, z1i_e, z2i_e, z1r_e, zir_e, ziir_e, z1v_e, z2v_e, zone_e, znil_e, zsp_0, zsp_s, zlz_0, zlz_1, zlz_2, zlz_3, zlz_4, zswp_0, zswp_s, true_and, and_true, implies_true, true_or, or_true, Int.reduceEq, Int.reduceLT, Int.reduceLE, Int.reduceNeg, not_true_eq_false, not_false_eq_true, false_implies, true_implies, zr_e, zwr_o, zwr_s, Nat.reduceEqDiff]
  refine ⟨by omega, by omega, by omega, by omega, ?_⟩
  refine m_list_out (σ := zwr (zwr σ 51 (10 * t + n) 0) 53 (10 * t + n) 0) (by rw [eB]; exact hB) h0 h1 h2 h3 (fun p p0 p1 => ?_) zwr_s ?_ _ 0 _ _ _ (by omega) (by rw [eB]; omega) rfl gFr_rf (by simp [zwr]) ?_ (by rw [e0]; exact gV_nil)
  · have hm := hr p p0 p1
    refine ⟨by rw [(fa.2.1 _ (by omega)).2]; exact hm.1, by rw [(fa.2.1 _ (by omega)).2]; exact hm.2.1, ?_⟩
    rw [eB, er p p0 p1]
    exact hm.2.2
  · intro σ' hl hg c0 c1 hh d0 d1
    have l2 : lFr σ σ' (10 * t + n) := ⟨zmm_tr fa.1 hl.1 (by decide) (by decide), fun j hj => ⟨by rw [(hl.2.1 j hj).1, (fa.2.1 j hj).1], by rw [(hl.2.1 j hj).2, (fa.2.1 j hj).2]⟩, fun j hj => ⟨by rw [(hl.2.2 j hj).1, (fa.2.2 j hj).1], by rw [(hl.2.2 j hj).2, (fa.2.2 j hj).2]⟩⟩
    rw [eB, eg] at hg
    rw [eB] at hh
    refine h σ' l2 hg c0 c1 ?_ d0 d1
    rw [hh]
    unfold gHM
    rw [eg, zwr_o (by decide), zwr_o (by decide)]
  · rw [e0, zl_0 (by omega)]
    rfl
end M3
