/-! faults of a type, as the reference counts them -/
theorem fMs_sm {σ σ' : zS} {L : List Nat} {Fs : List Int} {F : List (Int × Int)} (hs : zmm L Fs σ σ') (h1 : (29 : Int) ∉ Fs) (h2 : (30 : Int) ∉ Fs) (h3 : (31 : Int) ∉ Fs) (h4 : (32 : Int) ∉ Fs) (h : fMs σ F) : fMs σ' F := by
  unfold fMs at h ⊢
  rw [hs.2 29 h1, hs.2 30 h2, hs.2 31 h3, hs.2 32 h4]
  exact h
section M7
variable {σ : zS} {Q : Int → zS → Prop}
set_option maxRecDepth 100000 in
theorem m_own_loop {t m n : Int} {l4 : Option zW} {F : List (Int × Int)} (hB : Bd (bM σ)) (m0 : 0 ≤ m) (m1 : m < 60) (x0 : 0 ≤ 10 * t + n) (x1 : 10 * t + n < 160) (c0 : 0 ≤ σ 51 (10 * t + n)) (c1 : σ 51 (10 * t + n) ≤ 16) (hz : ∀ g, g ∈ gM σ (10 * t + n) → 0 ≤ g ∧ g < 60) (hw : zr (σ 31 29)) (hF : (F.length : Int) < 10000)
    (h : ∀ σ', zmm [] [30, 31, 32] σ σ' → fMs σ' (F ++ (gM σ (10 * t + n)).flatMap (fun g => gIf (gFa (bM σ) m g) m)) → Q 0 σ') :
    ∀ (c : Nat) (i : Int) (σ1 : zS) (l7 l8 : Option zW), 0 ≤ i → i ≤ σ 51 (10 * t + n) → (σ 51 (10 * t + n) - i).toNat = c → zmm [] [30, 31, 32] σ σ1 → fMs σ1 (F ++ (zl (fun i => σ 50 (16 * (10 * t + n) + i)) i).flatMap (fun g => gIf (gFa (bM σ) m g) m)) →
      zV 92 zF Q 86 [some (.inr 31), some (.inl t), some (.inl m), some (.inl n), l4, some (.inl (10 * t + n)), some (.inl i), l7, l8] [] σ1 := by
  have hmb := mM hB m0 m1
  intro c
  induction c with
  | zero =>
    intro i σ1 l7 l8 i0 i1 ic hs hf
    refine zv_92 200 ?_
    simp only [zs_92_0, zs_92_1, zs_92_4, zs_92_5, zs_92_6, zs_92_7, zs_92_8, zs_92_11, zs_92_12, zs_92_13, zs_92_14, zs_92_17, zs_92_18, zs_92_21, zs_92_22, zs_92_24, zs_92_26, zs_92_29, zs_92_30, zs_92_31, zs_92_34, zs_92_35, zs_92_38, zs_92_39, zs_92_40, zs_92_41, zs_92_44, zs_92_45, zs_92_46, zs_92_49, zs_92_50, zs_92_53, zs_92_54, zs_92_55, zs_92_56, zs_92_59, zs_92_60, zs_92_63, zs_92_64, zs_92_65, zs_92_66, zs_92_69, zs_92_70, zs_92_71, zs_92_72, zs_92_75, zs_92_77, zs_92_78, zs_92_79, zs_92_80, zs_92_81, zs_92_83, zs_92_84, zs_92_86, zs_92_88, zs_92_89, zs_92_92, zs_92_94, zs_92_95, zs_92_98, zs_92_99, zs_92_102, zs_92_104, zs_92_106, zs_92_107, zs_92_109, zs_92_110, zs_92_111, zs_92_113, zs_92_114, zs_92_117, zs_92_118, zs_92_119, zs_92_120, zs_92_123, zs_92_124, zs_92_127, zs_92_128, zs_92_131, zs_92_132, zs_92_133, zs_92_134, zs_92_137, zs_92_138, zs_92_141, zs_92_142, zs_92_143, zs_92_146, zs_92_148, zs_92_149, zs_92_150, zs_92_153, zs_92_154, zs_92_157, zs_92_158, zs_92_161, zs_92_162, zs_92_165, zs_92_166, zs_92_169, zs_92_171, zs_92_172, zs_92_173, zs_92_176, zs_92_177, zs_92_180, zs_92_181, zs_92_184, zs_92_185, zs_92_186, zs_92_187, zs_92_190, zs_92_192, zs_92_193, zs_92_196, zs_92_199, zs_92_200, zs_92_203, zs_92_204, zs_92_206, zs_92_208, zs_92_211, zs_92_212, zs_92_214, zs_92_215, zs_92_218, zs_92_221, zs_92_224, zs_92_86h, za_32, za_39, za_40, za_41, za_50, za_51, zg_31_1, zg_31_10, zg_31_11, zg_31_21, zg_31_22, zg_31_9, zrc_91, zli_0, zli_s, zlr_0, zlr_s, zls_0, zls_s, z1i_e, z2i_e, z1r_e, zir_e, ziir_e, z1v_e, z2v_e, zone_e, znil_e, zsp_0, zsp_s, zlz_0, zlz_1, zlz_2, zlz_3, zlz_4, zswp_0, zswp_s, true_and, and_true, implies_true, true_or, or_true, Int.reduceEq, Int.reduceLT, Int.reduceLE, Int.reduceNeg, not_true_eq_false, not_false_eq_true, false_implies, true_implies, zr_e, zwr_o, zwr_s, Nat.reduceEqDiff]
    rw [hs.1 51 (by decide) (by decide)]
    refine ⟨by omega, by omega, by omega, by omega, fun a => h σ1 hs ?_, fun a => by omega⟩
    rw [show i = σ 51 (10 * t + n) by omega] at hf
    exact hf
  | succ c ih =>
    intro i σ1 l7 l8 i0 i1 ic hs hf
    have eB : bM σ1 = bM σ := bM_mm hs (by decide) (by decide) (by decide)
    have e40 : σ1 40 = σ 40 := hs.1 40 (by decide) (by decide)
    have e41 : σ1 41 = σ 41 := hs.1 41 (by decide) (by decide)
    have hg := hz (σ 50 (16 * (10 * t + n) + i)) (zl_mem.mpr ⟨i, i0, by omega, rfl⟩)
    have hgb := mM hB hg.1 hg.2
    have hlen : (((zl (fun i => σ 50 (16 * (10 * t + n) + i)) i).flatMap (fun g => gIf (gFa (bM σ) m g) m)).length : Int) ≤ i := by
      have h1 := fm_len (f := fun g => gIf (gFa (bM σ) m g) m) (fun x => gIf_len _ _) (zl (fun i => σ 50 (16 * (10 * t + n) + i)) i)
      have h2 : ((zl (fun i => σ 50 (16 * (10 * t + n) + i)) i).length : Int) = i := zl_len i0
      omega
    have hstep : ∀ v, gIf (gFa (bM σ) m (σ 50 (16 * (10 * t + n) + i))) m = v → F ++ (zl (fun i => σ 50 (16 * (10 * t + n) + i)) (i + 1)).flatMap (fun g => gIf (gFa (bM σ) m g) m) = (F ++ (zl (fun i => σ 50 (16 * (10 * t + n) + i)) i).flatMap (fun g => gIf (gFa (bM σ) m g) m)) ++ v := by
      intro v hv
      rw [zl_s i0, List.flatMap_append, List.append_assoc]
      simp [hv]
    have e : gFa (bM σ) m (σ 50 (16 * (10 * t + n) + i)) = if σ 40 m = 3 then 4 else if ¬ (σ 40 m = 2 ↔ σ 40 (σ 50 (16 * (10 * t + n) + i)) = 2) then 2 else if σ 40 (σ 50 (16 * (10 * t + n) + i)) = 4 then 3 else if σ 41 m = σ 41 (σ 50 (16 * (10 * t + n) + i)) ∨ σ 41 (σ 50 (16 * (10 * t + n) + i)) = 0 ∨ (σ 41 m = 3 ∧ σ 41 (σ 50 (16 * (10 * t + n) + i)) = 1) then 0 else 5 := rfl
    have hbad : ∀ v, gFa (bM σ) m (σ 50 (16 * (10 * t + n) + i)) = v → ¬ v = 0 → ∀ l7 l8, zM 91 zF [.inr 31, .inl v, .inl m] σ1 fun _ σ' => zV 92 zF Q 86 [some (.inr 31), some (.inl t), some (.inl m), some (.inl n), l4, some (.inl (10 * t + n)), some (.inl (i + 1)), l7, l8] [] σ' := by
      intro v hv hv0 l7 l8
      refine m_fault (by rw [hs.2 29 (by decide)]; exact hw) (by rw [List.length_append]; omega) hf ?_
      intro σ2 hs2 hf2
      refine ih (i + 1) σ2 l7 l8 (by omega) (by omega) (by omega) (zmm_tr hs hs2 (by decide) (by decide)) ?_
      rw [hstep _ (by rw [hv, gIf, if_neg hv0])]
      exact hf2
    have hgood : gFa (bM σ) m (σ 50 (16 * (10 * t + n) + i)) = 0 → ∀ l7 l8, zV 92 zF Q 86 [some (.inr 31), some (.inl t), some (.inl m), some (.inl n), l4, some (.inl (10 * t + n)), some (.inl (i + 1)), l7, l8] [] σ1 := by
      intro hv l7 l8
      refine ih (i + 1) σ1 l7 l8 (by omega) (by omega) (by omega) hs ?_
      rw [hstep [] (by rw [hv]; rfl), List.append_nil]
      exact hf
    generalize hgg : σ 50 (16 * (10 * t + n) + i) = g at *
    have q4 : σ 40 m = 3 → ∀ l7 l8, zM 91 zF [.inr 31, .inl 4, .inl m] σ1 fun _ σ' => zV 92 zF Q 86 [some (.inr 31), some (.inl t), some (.inl m), some (.inl n), l4, some (.inl (10 * t + n)), some (.inl (i + 1)), l7, l8] [] σ' := fun a => hbad 4 (by rw [e, if_pos a]) (by omega)
    have q2 : ¬ σ 40 m = 3 → ¬ (σ 40 m = 2 ↔ σ 40 g = 2) → ∀ l7 l8, zM 91 zF [.inr 31, .inl 2, .inl m] σ1 fun _ σ' => zV 92 zF Q 86 [some (.inr 31), some (.inl t), some (.inl m), some (.inl n), l4, some (.inl (10 * t + n)), some (.inl (i + 1)), l7, l8] [] σ' := fun a b => hbad 2 (by rw [e, if_neg a, if_pos b]) (by omega)
    have q3 : ¬ σ 40 m = 3 → (σ 40 m = 2 ↔ σ 40 g = 2) → σ 40 g = 4 → ∀ l7 l8, zM 91 zF [.inr 31, .inl 3, .inl m] σ1 fun _ σ' => zV 92 zF Q 86 [some (.inr 31), some (.inl t), some (.inl m), some (.inl n), l4, some (.inl (10 * t + n)), some (.inl (i + 1)), l7, l8] [] σ' := fun a b c => hbad 3 (by rw [e, if_neg a, if_neg (by simpa using b), if_pos c]) (by omega)
    have q0 : ¬ σ 40 m = 3 → (σ 40 m = 2 ↔ σ 40 g = 2) → ¬ σ 40 g = 4 → (σ 41 m = σ 41 g ∨ σ 41 g = 0 ∨ (σ 41 m = 3 ∧ σ 41 g = 1)) → ∀ l7 l8, zV 92 zF Q 86 [some (.inr 31), some (.inl t), some (.inl m), some (.inl n), l4, some (.inl (10 * t + n)), some (.inl (i + 1)), l7, l8] [] σ1 := fun a b c d => hgood (by rw [e, if_neg a, if_neg (by simpa using b), if_neg c, if_pos d])
    have q5 : ¬ σ 40 m = 3 → (σ 40 m = 2 ↔ σ 40 g = 2) → ¬ σ 40 g = 4 → ¬ (σ 41 m = σ 41 g ∨ σ 41 g = 0 ∨ (σ 41 m = 3 ∧ σ 41 g = 1)) → ∀ l7 l8, zM 91 zF [.inr 31, .inl 5, .inl m] σ1 fun _ σ' => zV 92 zF Q 86 [some (.inr 31), some (.inl t), some (.inl m), some (.inl n), l4, some (.inl (10 * t + n)), some (.inl (i + 1)), l7, l8] [] σ' := fun a b c d => hbad 5 (by rw [e, if_neg a, if_neg (by simpa using b), if_neg c, if_neg d]) (by omega)
    clear hbad hgood e hstep ih h hz hf
    refine zv_92 200 ?_
    simp only [zs_92_0, zs_92_1, zs_92_4, zs_92_5, zs_92_6, zs_92_7, zs_92_8, zs_92_11, zs_92_12, zs_92_13, zs_92_14, zs_92_17, zs_92_18, zs_92_21, zs_92_22, zs_92_24, zs_92_26, zs_92_29, zs_92_30, zs_92_31, zs_92_34, zs_92_35, zs_92_38, zs_92_39, zs_92_40, zs_92_41, zs_92_44, zs_92_45, zs_92_46, zs_92_49, zs_92_50, zs_92_53, zs_92_54, zs_92_55, zs_92_56, zs_92_59, zs_92_60, zs_92_63, zs_92_64, zs_92_65, zs_92_66, zs_92_69, zs_92_70, zs_92_71, zs_92_72, zs_92_75, zs_92_77, zs_92_78, zs_92_79, zs_92_80, zs_92_81, zs_92_83, zs_92_84, zs_92_86, zs_92_88, zs_92_89, zs_92_92, zs_92_94, zs_92_95, zs_92_98, zs_92_99, zs_92_102, zs_92_104, zs_92_106, zs_92_107, zs_92_109, zs_92_110, zs_92_111, zs_92_113, zs_92_114, zs_92_117, zs_92_118, zs_92_119, zs_92_120, zs_92_123, zs_92_124, zs_92_127, zs_92_128, zs_92_131, zs_92_132, zs_92_133, zs_92_134, zs_92_137, zs_92_138, zs_92_141, zs_92_142, zs_92_143, zs_92_146, zs_92_148, zs_92_149, zs_92_150, zs_92_153, zs_92_154, zs_92_157, zs_92_158, zs_92_161, zs_92_162, zs_92_165, zs_92_166, zs_92_169, zs_92_171, zs_92_172, zs_92_173, zs_92_176, zs_92_177, zs_92_180, zs_92_181, zs_92_184, zs_92_185, zs_92_186, zs_92_187, zs_92_190, zs_92_192, zs_92_193, zs_92_196, zs_92_199, zs_92_200, zs_92_203, zs_92_204, zs_92_206, zs_92_208, zs_92_211, zs_92_212, zs_92_214, zs_92_215, zs_92_218, zs_92_221, zs_92_224, zs_92_86h, za_32, za_39, za_40, za_41, za_50, za_51, zg_31_1, zg_31_10, zg_31_11, zg_31_21, zg_31_22, zg_31_9, zrc_91, zli_0, zli_s, zlr_0, zlr_s, zls_0, zls_s, z1i_e, z2i_e, z1r_e, zir_e, ziir_e, z1v_e, z2v_e, zone_e, znil_e, zsp_0, zsp_s, zlz_0, zlz_1, zlz_2, zlz_3, zlz_4, zswp_0, zswp_s, true_and, and_true, implies_true, true_or, or_true, Int.reduceEq, Int.reduceLT, Int.reduceLE, Int.reduceNeg, not_true_eq_false, not_false_eq_true, false_implies, true_implies, zr_e, zwr_o, zwr_s, Nat.reduceEqDiff]
    rw [hs.1 51 (by decide) (by decide), hs.1 50 (by decide) (by decide), hgg, e40, e41]
    repeat' first | apply And.intro | (apply q4; omega) | (apply q2 <;> omega) | (apply q3 <;> omega) | (apply q0 <;> first | assumption | omega) | (apply q5 <;> first | assumption | omega) | (refine m_serves ⟨by omega, by omega⟩ ⟨by omega, by omega⟩ (fun d => ?_) (fun d => ?_)) | intro _ | omega
set_option maxRecDepth 100000 in
theorem m_ownFaults {t n : Int} {F : List (Int × Int)} (hI : IM σ) (hFM : FM σ) (h0 : 0 ≤ t) (h1 : t < σ 31 0) (h2 : 0 ≤ n) (h3 : n < 10) (ho : ¬ σ 46 (10 * t + n) = -4) (hw : zr (σ 31 29)) (hF : (F.length : Int) < 9000) (hf : fMs σ F)
    (h : ∀ σ', zmm [] [30, 31, 32] σ σ' → fMs σ' (F ++ gFo (bM σ) (rM σ n) t n) → Q 0 σ') : zM 92 zF [.inr 31, .inl t, .inl (σ 46 (10 * t + n))] σ Q := by
  have hnn := hI.n
  have hB := hI.1
  have how : σ 46 (10 * t + n) = -4 ∨ (0 ≤ σ 46 (10 * t + n) ∧ σ 46 (10 * t + n) < σ 31 7) := hB.ow (10 * t + n) (by omega) (by omega)
  have hown : σ 38 (σ 46 (10 * t + n)) = t := hB.oo t n h0 (by omega) h2 h3 ho
  have hnm : σ 39 (σ 46 (10 * t + n)) = n := hI.2.2.2.2.2.2 t n h0 (by omega) h2 h3 ho
  have hrow := hFM.2 n t h2 h3 h0 h1
  obtain ⟨-, -, c0, c1, hg⟩ := hrow
  have hgv : gV (bM σ) n t (gM σ (10 * t + n)) := by
    rw [hg]
    exact gV_giv hB h0 (by omega) (fun p p0 p1 => (hFM.2 n p h2 h3 p0 (by omega)).1.2.2)
  have hz : ∀ g, g ∈ gM σ (10 * t + n) → 0 ≤ g ∧ g < 60 := fun g hgm => by have := hgv.2 g hgm; have h5 : g < σ 31 7 := this.2.1; omega
  have hfo : gFo (bM σ) (rM σ n) t n = gIf (if σ 32 t = 2 ∧ gAR n (σ 40 (σ 46 (10 * t + n))) then 1 else 0) (σ 46 (10 * t + n)) ++ (gGiv (bM σ) (rM σ n) t).flatMap (fun g => gIf (gFa (bM σ) (σ 46 (10 * t + n)) g) (σ 46 (10 * t + n))) := rfl
  rw [hfo, ← hg] at h
  generalize σ 46 (10 * t + n) = o at *
  have hob := mM (m := o) hB (by omega) (by omega)
  have hk : 0 ≤ σ 32 t ∧ σ 32 t ≤ 2 := hB.kind t h0 (by omega)
  have rest : ∀ σ1, zmm [] [30, 31, 32] σ σ1 → fMs σ1 (F ++ gIf (if σ 32 t = 2 ∧ gAR n (σ 40 o) then 1 else 0) o) → ∀ l4 l7 l8, zV 92 zF Q 86 [some (.inr 31), some (.inl t), some (.inl o), some (.inl n), l4, some (.inl (10 * t + n)), some (.inl 0), l7, l8] [] σ1 := by
    intro σ1 hs1 hf1 l4 l7 l8
    have eB : bM σ1 = bM σ := bM_mm hs1 (by decide) (by decide) (by decide)
    have e50 := hs1.1 50 (by decide) (by decide)
    have e51 := hs1.1 51 (by decide) (by decide)
    have eg : gM σ1 = gM σ := by funext x; simp only [gM, e50, e51]
    have hl := gIf_len (if σ 32 t = 2 ∧ gAR n (σ 40 o) then 1 else 0) o
    refine m_own_loop (σ := σ1) (F := F ++ gIf (if σ 32 t = 2 ∧ gAR n (σ 40 o) then 1 else 0) o) (by rw [eB]; exact hB) (by omega) (by omega) (by omega) (by omega) (by rw [e51]; exact c0) (by rw [e51]; exact c1) (by rw [eg]; exact hz) (by rw [hs1.2 29 (by decide)]; exact hw) (by rw [List.length_append]; omega) ?_ _ 0 σ1 _ _ (by omega) (by rw [e51]; exact c0) rfl zmm_rf (by rw [zl_0 (by omega)]; simpa using hf1)
    intro σ2 hs2 hf2
    refine h σ2 (zmm_tr hs1 hs2 (by decide) (by decide)) ?_
    rw [eB, eg, List.append_assoc] at hf2
    exact hf2
  have r1 : σ 32 t = 2 → gAR n (σ 40 o) → ∀ l4 l7 l8, zM 91 zF [.inr 31, .inl 1, .inl o] σ fun _ σ' => zV 92 zF Q 86 [some (.inr 31), some (.inl t), some (.inl o), some (.inl n), l4, some (.inl (10 * t + n)), some (.inl 0), l7, l8] [] σ' := by
    intro a b l4 l7 l8
    refine m_fault hw (by omega) hf ?_
    intro σ1 hs1 hf1
    refine rest σ1 hs1 ?_ l4 l7 l8
    rw [if_pos ⟨a, b⟩]
    exact hf1
  have r0 : ¬ (σ 32 t = 2 ∧ gAR n (σ 40 o)) → ∀ l4 l7 l8, zV 92 zF Q 86 [some (.inr 31), some (.inl t), some (.inl o), some (.inl n), l4, some (.inl (10 * t + n)), some (.inl 0), l7, l8] [] σ := by
    intro a l4 l7 l8
    refine rest σ zmm_rf ?_ l4 l7 l8
    rw [if_neg a, gIf, if_pos rfl, List.append_nil]
    exact hf
  unfold gAR at r1 r0
  refine ze_92 200 ?_
  simp only [zs_92_0, zs_92_1, zs_92_4, zs_92_5, zs_92_6, zs_92_7, zs_92_8, zs_92_11, zs_92_12, zs_92_13, zs_92_14, zs_92_17, zs_92_18, zs_92_21, zs_92_22, zs_92_24, zs_92_26, zs_92_29, zs_92_30, zs_92_31, zs_92_34, zs_92_35, zs_92_38, zs_92_39, zs_92_40, zs_92_41, zs_92_44, zs_92_45, zs_92_46, zs_92_49, zs_92_50, zs_92_53, zs_92_54, zs_92_55, zs_92_56, zs_92_59, zs_92_60, zs_92_63, zs_92_64, zs_92_65, zs_92_66, zs_92_69, zs_92_70, zs_92_71, zs_92_72, zs_92_75, zs_92_77, zs_92_78, zs_92_79, zs_92_80, zs_92_81, zs_92_83, zs_92_84, zs_92_86, zs_92_88, zs_92_89, zs_92_92, zs_92_94, zs_92_95, zs_92_98, zs_92_99, zs_92_102, zs_92_104, zs_92_106, zs_92_107, zs_92_109, zs_92_110, zs_92_111, zs_92_113, zs_92_114, zs_92_117, zs_92_118, zs_92_119, zs_92_120, zs_92_123, zs_92_124, zs_92_127, zs_92_128, zs_92_131, zs_92_132, zs_92_133, zs_92_134, zs_92_137, zs_92_138, zs_92_141, zs_92_142, zs_92_143, zs_92_146, zs_92_148, zs_92_149, zs_92_150, zs_92_153, zs_92_154, zs_92_157, zs_92_158, zs_92_161, zs_92_162, zs_92_165, zs_92_166, zs_92_169, zs_92_171, zs_92_172, zs_92_173, zs_92_176, zs_92_177, zs_92_180, zs_92_181, zs_92_184, zs_92_185, zs_92_186, zs_92_187, zs_92_190, zs_92_192, zs_92_193, zs_92_196, zs_92_199, zs_92_200, zs_92_203, zs_92_204, zs_92_206, zs_92_208, zs_92_211, zs_92_212, zs_92_214, zs_92_215, zs_92_218, zs_92_221, zs_92_224, za_32, za_39, za_40, za_41, za_50, za_51, zg_31_1, zg_31_10, zg_31_11, zg_31_21, zg_31_22, zg_31_9, zrc_91, zli_0, zli_s, zlr_0, zlr_s, zls_0, zls_s, z1i_e, z2i_e, z1r_e, zir_e, ziir_e, z1v_e, z2v_e, zone_e, znil_e, zsp_0, zsp_s, zlz_0, zlz_1, zlz_2, zlz_3, zlz_4, zswp_0, zswp_s, true_and, and_true, implies_true, true_or, or_true, Int.reduceEq, Int.reduceLT, Int.reduceLE, Int.reduceNeg, not_true_eq_false, not_false_eq_true, false_implies, true_implies, zr_e, zwr_o, zwr_s, Nat.reduceEqDiff]
  rw [hnm]
  repeat' first | apply And.intro | (apply r1 <;> omega) | (apply r0; omega) | intro _ | omega
end M7
