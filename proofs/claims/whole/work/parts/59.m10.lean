/-! the reference looks for faults -/
section M10
variable {σ : zS} {Q : Int → zS → Prop}
theorem rM_mm {σ' : zS} {L : List Nat} {Fs : List Int} (hs : zmm L Fs σ σ') (h52 : 52 ∉ L) (h53 : 53 ∉ L) : rM σ' = rM σ := by
  funext n t; simp only [rM, hM, hs.1 52 h52 (by decide), hs.1 53 h53 (by decide)]
theorem IM_sm {σ' : zS} (hI : IM σ) (hs : zmm [54] [29, 30, 31, 32] σ σ') : IM σ' := by
  have eB : bM σ' = bM σ := bM_mm hs (by decide) (by decide) (by decide)
  obtain ⟨h1, h2, h3⟩ := hI
  refine ⟨by rw [eB]; exact h1, ?_, ?_⟩
  · rw [hs.2 19 (by decide)]
    rcases h2 with h2 | h2
    · exact Or.inl h2
    · exact Or.inr ⟨h2.1, FM_sm h1 hs (by decide) (by decide) (by decide) h2.2⟩
  · rw [hs.2 25 (by decide), hs.2 26 (by decide), hs.2 27 (by decide), hs.2 28 (by decide), hs.1 39 (by decide) (by decide), hs.1 46 (by decide) (by decide)]
    exact h3
theorem w3 {σ' : zS} (hs : zmm [] [30, 31, 32] σ σ') : zmm [54] [29, 30, 31, 32] σ σ' := zmm_tr zmm_rf hs (by decide) (by decide)
theorem gFc_0 {B : zS} {H : Int → Int → List Int} {PA : Int → Int} {t m : Int} : 0 ≤ gFc B H PA t m ∧ gFc B H PA t m ≤ 12 := by
  unfold gFc
  repeat' split
  all_goals exact ⟨by decide, by decide⟩
set_option maxRecDepth 100000 in
theorem m_look_D {t i : Int} {L : List (Int × Int)} (hB : Bd (bM σ)) (h0 : 0 ≤ t) (h1 : t < 16) (hw : zr (σ 31 29)) (hL : (L.length : Int) ≤ 8000)
    (h : ∀ σ', zmm [] [30, 31, 32] σ σ' → fMs σ' (L ++ (zl (fun j => σ 34 (4 * t + j)) (σ 35 t)).flatMap (gSe (bM σ) t)) → Q 0 σ') :
    ∀ (q : Nat) (k : Int) (σ2 : zS) (l4 : Option zW), 0 ≤ k → k ≤ σ 35 t → (σ 35 t - k).toNat = q → zmm [] [30, 31, 32] σ σ2 → fMs σ2 (L ++ (zl (fun j => σ 34 (4 * t + j)) k).flatMap (gSe (bM σ) t)) →
      zV 96 zF Q 157 [some (.inr 31), some (.inl t), some (.inl i), some (.inl k), l4] [] σ2 := by
  have hfc : 0 ≤ σ 35 t ∧ σ 35 t ≤ 4 := hB.fc t h0 h1
  intro q
  induction q with
  | zero =>
    intro k σ2 l4 k0 k1 kq hs hf
    have e35 : σ2 35 = σ 35 := hs.1 35 (by decide) (by decide)
    refine zv_96 200 ?_
    simp only [zs_96_0, zs_96_1, zs_96_4, zs_96_5, zs_96_6, zs_96_9, zs_96_10, zs_96_11, zs_96_14, zs_96_15, zs_96_16, zs_96_17, zs_96_19, zs_96_22, zs_96_23, zs_96_26, zs_96_28, zs_96_29, zs_96_30, zs_96_31, zs_96_32, zs_96_33, zs_96_35, zs_96_38, zs_96_39, zs_96_40, zs_96_41, zs_96_44, zs_96_46, zs_96_47, zs_96_48, zs_96_49, zs_96_50, zs_96_51, zs_96_54, zs_96_57, zs_96_60, zs_96_61, zs_96_62, zs_96_63, zs_96_65, zs_96_68, zs_96_69, zs_96_72, zs_96_74, zs_96_75, zs_96_76, zs_96_77, zs_96_78, zs_96_79, zs_96_81, zs_96_84, zs_96_85, zs_96_86, zs_96_87, zs_96_90, zs_96_93, zs_96_96, zs_96_97, zs_96_98, zs_96_99, zs_96_100, zs_96_103, zs_96_106, zs_96_107, zs_96_110, zs_96_111, zs_96_112, zs_96_113, zs_96_116, zs_96_117, zs_96_120, zs_96_121, zs_96_122, zs_96_125, zs_96_126, zs_96_127, zs_96_128, zs_96_131, zs_96_134, zs_96_135, zs_96_137, zs_96_139, zs_96_142, zs_96_143, zs_96_145, zs_96_146, zs_96_149, zs_96_152, zs_96_155, zs_96_156, zs_96_157, zs_96_158, zs_96_159, zs_96_162, zs_96_163, zs_96_164, zs_96_167, zs_96_168, zs_96_171, zs_96_172, zs_96_173, zs_96_174, zs_96_175, zs_96_176, zs_96_177, zs_96_179, zs_96_180, zs_96_183, zs_96_185, zs_96_186, zs_96_189, zs_96_190, zs_96_193, zs_96_195, zs_96_196, zs_96_197, zs_96_198, zs_96_199, zs_96_200, zs_96_203, zs_96_204, zs_96_206, zs_96_208, zs_96_211, zs_96_214, zs_96_217, zs_96_16h, zs_96_62h, zs_96_98h, zs_96_157h, za_34, za_35, za_36, za_37, za_38, za_43, za_46, zg_31_13, zg_31_16, zg_31_3, zg_31_4, zg_31_5, zg_31_6, zg_31_7, zg_31_8, zp_31_29, zp_31_30, zrc_84, zrc_91, zrc_92, zrc_93, zrc_95, zli_0, zli_s, zlr_0, zlr_s, zls_0, zls_s, z1i_e, z2i_e, z1r_e, zir_e, ziir_e, z1v_e, z2v_e, zone_e, znil_e, zsp_0, zsp_s, zlz_0, zlz_1, zlz_2, zlz_3, zlz_4, zswp_0, zswp_s, true_and, and_true, implies_true, true_or, or_true, Int.reduceEq, Int.reduceLT, Int.reduceLE, Int.reduceNeg, not_true_eq_false, not_false_eq_true, false_implies, true_implies, zr_e, zwr_o, zwr_s, Nat.reduceEqDiff]
    rw [e35]
    refine ⟨h0, h1, by omega, by omega, fun a => h σ2 hs ?_, fun a => by omega⟩
    rw [show k = σ 35 t by omega] at hf
    exact hf
  | succ q ih =>
    intro k σ2 l4 k0 k1 kq hs hf
    have e35 : σ2 35 = σ 35 := hs.1 35 (by decide) (by decide)
    have e34 : σ2 34 = σ 34 := hs.1 34 (by decide) (by decide)
    have e36 : σ2 36 = σ 36 := hs.1 36 (by decide) (by decide)
    have e37 : σ2 37 = σ 37 := hs.1 37 (by decide) (by decide)
    have hj : 0 ≤ σ 34 (4 * t + k) ∧ σ 34 (4 * t + k) ≤ 15 := hB.fj (4 * t + k) (by omega) (by omega)
    have hse : (σ 36 (σ 34 (4 * t + k)) = 0 ∨ σ 36 (σ 34 (4 * t + k)) = 1) ∧ _ := hB.se _ hj.1 (by omega)
    have hse := hse.1
    have hbit := zand_shr (a := σ 37 (σ 34 (4 * t + k))) (u := t) (by omega) (by omega)
    have eg : gSe (bM σ) t (σ 34 (4 * t + k)) = gIf (if ¬ σ 36 (σ 34 (4 * t + k)) = 0 ∧ zbt (σ 37 (σ 34 (4 * t + k))) t = false then 13 else 0) (σ 34 (4 * t + k)) := rfl
    have step : ∀ σ3 l4, zmm [] [30, 31, 32] σ σ3 → fMs σ3 ((L ++ (zl (fun j => σ 34 (4 * t + j)) k).flatMap (gSe (bM σ) t)) ++ gSe (bM σ) t (σ 34 (4 * t + k))) → zV 96 zF Q 157 [some (.inr 31), some (.inl t), some (.inl i), some (.inl (k + 1)), l4] [] σ3 := by
      intro σ3 l4 hs3 hf3
      refine ih (k + 1) σ3 l4 (by omega) (by omega) (by omega) hs3 ?_
      rw [zl_s k0, List.flatMap_append, ← List.append_assoc]
      simpa using hf3
    have no : ¬ (¬ σ 36 (σ 34 (4 * t + k)) = 0 ∧ zbt (σ 37 (σ 34 (4 * t + k))) t = false) → ∀ l4, zV 96 zF Q 157 [some (.inr 31), some (.inl t), some (.inl i), some (.inl (k + 1)), l4] [] σ2 := by
      intro z l4
      refine step σ2 l4 hs ?_
      rw [eg, if_neg z, gIf, if_pos rfl, List.append_nil]
      exact hf
    have hlen := fm_len (f := gSe (bM σ) t) (fun x => gIf_len _ x) (zl (fun j => σ 34 (4 * t + j)) k)
    have hll : ((zl (fun j => σ 34 (4 * t + j)) k).length : Int) = k := zl_len k0
    refine zv_96 200 ?_
    simp only [zs_96_0, zs_96_1, zs_96_4, zs_96_5, zs_96_6, zs_96_9, zs_96_10, zs_96_11, zs_96_14, zs_96_15, zs_96_16, zs_96_17, zs_96_19, zs_96_22, zs_96_23, zs_96_26, zs_96_28, zs_96_29, zs_96_30, zs_96_31, zs_96_32, zs_96_33, zs_96_35, zs_96_38, zs_96_39, zs_96_40, zs_96_41, zs_96_44, zs_96_46, zs_96_47, zs_96_48, zs_96_49, zs_96_50, zs_96_51, zs_96_54, zs_96_57, zs_96_60, zs_96_61, zs_96_62, zs_96_63, zs_96_65, zs_96_68, zs_96_69, zs_96_72, zs_96_74, zs_96_75, zs_96_76, zs_96_77, zs_96_78, zs_96_79, zs_96_81, zs_96_84, zs_96_85, zs_96_86, zs_96_87, zs_96_90, zs_96_93, zs_96_96, zs_96_97, zs_96_98, zs_96_99, zs_96_100, zs_96_103, zs_96_106, zs_96_107, zs_96_110, zs_96_111, zs_96_112, zs_96_113, zs_96_116, zs_96_117, zs_96_120, zs_96_121, zs_96_122, zs_96_125, zs_96_126, zs_96_127, zs_96_128, zs_96_131, zs_96_134, zs_96_135, zs_96_137, zs_96_139, zs_96_142, zs_96_143, zs_96_145, zs_96_146, zs_96_149, zs_96_152, zs_96_155, zs_96_156, zs_96_157, zs_96_158, zs_96_159, zs_96_162, zs_96_163, zs_96_164, zs_96_167, zs_96_168, zs_96_171, zs_96_172, zs_96_173, zs_96_174, zs_96_175, zs_96_176, zs_96_177, zs_96_179, zs_96_180, zs_96_183, zs_96_185, zs_96_186, zs_96_189, zs_96_190, zs_96_193, zs_96_195, zs_96_196, zs_96_197, zs_96_198, zs_96_199, zs_96_200, zs_96_203, zs_96_204, zs_96_206, zs_96_208, zs_96_211, zs_96_214, zs_96_217, zs_96_16h, zs_96_62h, zs_96_98h, zs_96_157h, za_34, za_35, za_36, za_37, za_38, za_43, za_46, zg_31_13, zg_31_16, zg_31_3, zg_31_4, zg_31_5, zg_31_6, zg_31_7, zg_31_8, zp_31_29, zp_31_30, zrc_84, zrc_91, zrc_92, zrc_93, zrc_95, zli_0, zli_s, zlr_0, zlr_s, zls_0, zls_s, z1i_e, z2i_e, z1r_e, zir_e, ziir_e, z1v_e, z2v_e, zone_e, znil_e, zsp_0, zsp_s, zlz_0, zlz_1, zlz_2, zlz_3, zlz_4, zswp_0, zswp_s, true_and, and_true, implies_true, true_or, or_true, Int.reduceEq, Int.reduceLT, Int.reduceLE, Int.reduceNeg, not_true_eq_false, not_false_eq_true, false_implies, true_implies, zr_e, zwr_o, zwr_s, Nat.reduceEqDiff]
    rw [e35, e34, e36, e37, hbit]
    refine ⟨h0, h1, by omega, by omega, fun a => False.elim (by omega), fun a => ⟨by omega, by omega, hj.1, by omega, by omega, fun b => no (fun z => z.1 b) _, fun b => ⟨hj.1, by omega, ?_, fun d => ?_, fun d => ?_⟩⟩⟩
    · split <;> omega
    · refine no (fun z => ?_) _
      rw [z.2, if_neg (by decide)] at d
      exact d rfl
    · refine m_fault (by rw [hs.2 29 (by decide)]; exact hw) (by rw [List.length_append]; omega) hf ?_
      intro σ3 hs3 hf3
      refine step σ3 _ (zmm_tr hs hs3 (by decide) (by decide)) ?_
      have hb : zbt (σ 37 (σ 34 (4 * t + k))) t = false := by
        cases hb : zbt (σ 37 (σ 34 (4 * t + k))) t with
        | false => rfl
        | true => rw [hb, if_pos rfl] at d; omega
      rw [eg, if_pos ⟨b, hb⟩]
      exact hf3
set_option maxRecDepth 100000 in
theorem m_look_C {t i : Int} {L : List (Int × Int)} (hB : Bd (bM σ)) (hF : FM σ) (h0 : 0 ≤ t) (h1 : t < σ 31 0) (hw : zr (σ 31 29)) (hL : (L.length : Int) ≤ 7000)
    (h : ∀ σ', zmm [] [30, 31, 32] σ σ' → fMs σ' (L ++ ((zi (σ 31 7)).flatMap (gCC (bM σ) (rM σ) (pM σ) t) ++ (zl (fun j => σ 34 (4 * t + j)) (σ 35 t)).flatMap (gSe (bM σ) t))) → Q 0 σ') :
    ∀ (q : Nat) (m : Int) (σ2 : zS) (l4 : Option zW), 0 ≤ m → m ≤ σ 31 7 → (σ 31 7 - m).toNat = q → zmm [] [30, 31, 32] σ σ2 → fMs σ2 (L ++ (zi m).flatMap (gCC (bM σ) (rM σ) (pM σ) t)) →
      zV 96 zF Q 98 [some (.inr 31), some (.inl t), some (.inl i), some (.inl m), l4] [] σ2 := by
  have hnn : 1 ≤ σ 31 0 ∧ σ 31 0 ≤ 16 ∧ 3 ≤ σ 31 7 ∧ σ 31 7 ≤ 60 := hB.n
  have hcl : ∀ m, 0 ≤ m → (((zi m).flatMap (gCC (bM σ) (rM σ) (pM σ) t)).length : Int) ≤ m := by
    intro m m0
    have hlen := fm_len (f := gCC (bM σ) (rM σ) (pM σ) t) (fun x => by unfold gCC; split; exact gIf_len _ x; simp) (zi m)
    have hll : ((zi m).length : Int) = m := zl_len m0
    omega
  intro q
  induction q with
  | zero =>
    intro m σ2 l4 m0 m1 mq hs hf
    have e7 : σ2 31 7 = σ 31 7 := hs.2 7 (by decide)
    have eB : bM σ2 = bM σ := bM_mm hs (by decide) (by decide) (by decide)
    have e35 : σ2 35 = σ 35 := hs.1 35 (by decide) (by decide)
    have e34 : σ2 34 = σ 34 := hs.1 34 (by decide) (by decide)
    have hc := hcl m m0
    have hfc : 0 ≤ σ 35 t ∧ _ := hB.fc t h0 (by omega)
    refine zv_96 200 ?_
    simp only [zs_96_0, zs_96_1, zs_96_4, zs_96_5, zs_96_6, zs_96_9, zs_96_10, zs_96_11, zs_96_14, zs_96_15, zs_96_16, zs_96_17, zs_96_19, zs_96_22, zs_96_23, zs_96_26, zs_96_28, zs_96_29, zs_96_30, zs_96_31, zs_96_32, zs_96_33, zs_96_35, zs_96_38, zs_96_39, zs_96_40, zs_96_41, zs_96_44, zs_96_46, zs_96_47, zs_96_48, zs_96_49, zs_96_50, zs_96_51, zs_96_54, zs_96_57, zs_96_60, zs_96_61, zs_96_62, zs_96_63, zs_96_65, zs_96_68, zs_96_69, zs_96_72, zs_96_74, zs_96_75, zs_96_76, zs_96_77, zs_96_78, zs_96_79, zs_96_81, zs_96_84, zs_96_85, zs_96_86, zs_96_87, zs_96_90, zs_96_93, zs_96_96, zs_96_97, zs_96_98, zs_96_99, zs_96_100, zs_96_103, zs_96_106, zs_96_107, zs_96_110, zs_96_111, zs_96_112, zs_96_113, zs_96_116, zs_96_117, zs_96_120, zs_96_121, zs_96_122, zs_96_125, zs_96_126, zs_96_127, zs_96_128, zs_96_131, zs_96_134, zs_96_135, zs_96_137, zs_96_139, zs_96_142, zs_96_143, zs_96_145, zs_96_146, zs_96_149, zs_96_152, zs_96_155, zs_96_156, zs_96_157, zs_96_158, zs_96_159, zs_96_162, zs_96_163, zs_96_164, zs_96_167, zs_96_168, zs_96_171, zs_96_172, zs_96_173, zs_96_174, zs_96_175, zs_96_176, zs_96_177, zs_96_179, zs_96_180, zs_96_183, zs_96_185, zs_96_186, zs_96_189, zs_96_190, zs_96_193, zs_96_195, zs_96_196, zs_96_197, zs_96_198, zs_96_199, zs_96_200, zs_96_203, zs_96_204, zs_96_206, zs_96_208, zs_96_211, zs_96_214, zs_96_217, zs_96_16h, zs_96_62h, zs_96_98h, zs_96_157h, za_34, za_35, za_36, za_37, za_38, za_43, za_46, zg_31_13, zg_31_16, zg_31_3, zg_31_4, zg_31_5, zg_31_6, zg_31_7, zg_31_8, zp_31_29, zp_31_30, zrc_84, zrc_91, zrc_92, zrc_93, zrc_95, zli_0, zli_s, zlr_0, zlr_s, zls_0, zls_s, z1i_e, z2i_e, z1r_e, zir_e, ziir_e, z1v_e, z2v_e, zone_e, znil_e, zsp_0, zsp_s, zlz_0, zlz_1, zlz_2, zlz_3, zlz_4, zswp_0, zswp_s, true_and, and_true, implies_true, true_or, or_true, Int.reduceEq, Int.reduceLT, Int.reduceLE, Int.reduceNeg, not_true_eq_false, not_false_eq_true, false_implies, true_implies, zr_e, zwr_o, zwr_s, Nat.reduceEqDiff]
    rw [e7]
    refine ⟨by omega, by omega, fun a => ?_, fun a => False.elim (by omega)⟩
    refine m_look_D (σ := σ2) (L := L ++ (zi m).flatMap (gCC (bM σ) (rM σ) (pM σ) t)) (by rw [eB]; exact hB) h0 (by omega) (by rw [hs.2 29 (by decide)]; exact hw) (by rw [List.length_append]; omega) ?_ _ 0 σ2 _ (by omega) (by rw [e35]; exact hfc.1) rfl zmm_rf (by rw [zl_0 (by omega)]; simpa using hf)
    intro σ3 hs3 hf3
    rw [eB, e35, e34, show m = σ 31 7 by omega, List.append_assoc] at hf3
    exact h σ3 (zmm_tr hs hs3 (by decide) (by decide)) hf3
  | succ q ih =>
    intro m σ2 l4 m0 m1 mq hs hf
    have e7 : σ2 31 7 = σ 31 7 := hs.2 7 (by decide)
    have e0 : σ2 31 0 = σ 31 0 := hs.2 0 (by decide)
    have eB : bM σ2 = bM σ := bM_mm hs (by decide) (by decide) (by decide)
    have e38 : σ2 38 = σ 38 := hs.1 38 (by decide) (by decide)
    have e43 : σ2 43 = σ 43 := hs.1 43 (by decide) (by decide)
    have er : rM σ2 = rM σ := rM_mm hs (by decide) (by decide)
    have ep : pM σ2 = pM σ := by funext u; simp only [pM, eB, hs.1 49 (by decide) (by decide)]
    have hF2 : FM σ2 := FM_sm hB hs (by decide) (by decide) (by decide) hF
    have hc := hcl m m0
    have hme : 0 ≤ σ 38 m ∧ σ 38 m ≤ 15 ∧ _ ∧ _ ∧ _ ∧ _ ∧ _ ∧ _ ∧ 0 ≤ σ 43 m ∧ σ 43 m ≤ 4 ∧ _ := hB.me m m0 (by omega)
    have hk1 := hme.2.2.2.2.2.2.2.2.1
    have hk2 := hme.2.2.2.2.2.2.2.2.2.1
    have ho := hme.1
    have ho2 := hme.2.1
    have step : ∀ σ3 l4, zmm [] [30, 31, 32] σ σ3 → fMs σ3 ((L ++ (zi m).flatMap (gCC (bM σ) (rM σ) (pM σ) t)) ++ gCC (bM σ) (rM σ) (pM σ) t m) → zV 96 zF Q 98 [some (.inr 31), some (.inl t), some (.inl i), some (.inl (m + 1)), l4] [] σ3 := by
      intro σ3 l4 hs3 hf3
      refine ih (m + 1) σ3 l4 (by omega) (by omega) (by omega) hs3 ?_
      rw [zi_s m0, List.flatMap_append, ← List.append_assoc]
      simpa using hf3
    have z1 : -2147483648 ≤ m ∧ m < 2147483648 := by omega
    have z2 : -2147483648 ≤ σ 31 7 ∧ σ 31 7 < 2147483648 := by omega
    have z3 : -2147483648 ≤ σ 38 m ∧ σ 38 m < 2147483648 := by omega
    have z4 : -2147483648 ≤ t ∧ t < 2147483648 := by omega
    have z5 : -2147483648 ≤ σ 43 m ∧ σ 43 m < 2147483648 := by omega
    have m60 : m < 60 := by omega
    have mlt : m < σ 31 7 := by omega
    have t16 : t < σ2 31 0 := by omega
    have hLL : ((L ++ (zi m).flatMap (gCC (bM σ) (rM σ) (pM σ) t)).length : Int) < 100000 := by rw [List.length_append]; omega
    clear ih
    refine zv_96 200 ?_
    simp only [zs_96_0, zs_96_1, zs_96_4, zs_96_5, zs_96_6, zs_96_9, zs_96_10, zs_96_11, zs_96_14, zs_96_15, zs_96_16, zs_96_17, zs_96_19, zs_96_22, zs_96_23, zs_96_26, zs_96_28, zs_96_29, zs_96_30, zs_96_31, zs_96_32, zs_96_33, zs_96_35, zs_96_38, zs_96_39, zs_96_40, zs_96_41, zs_96_44, zs_96_46, zs_96_47, zs_96_48, zs_96_49, zs_96_50, zs_96_51, zs_96_54, zs_96_57, zs_96_60, zs_96_61, zs_96_62, zs_96_63, zs_96_65, zs_96_68, zs_96_69, zs_96_72, zs_96_74, zs_96_75, zs_96_76, zs_96_77, zs_96_78, zs_96_79, zs_96_81, zs_96_84, zs_96_85, zs_96_86, zs_96_87, zs_96_90, zs_96_93, zs_96_96, zs_96_97, zs_96_98, zs_96_99, zs_96_100, zs_96_103, zs_96_106, zs_96_107, zs_96_110, zs_96_111, zs_96_112, zs_96_113, zs_96_116, zs_96_117, zs_96_120, zs_96_121, zs_96_122, zs_96_125, zs_96_126, zs_96_127, zs_96_128, zs_96_131, zs_96_134, zs_96_135, zs_96_137, zs_96_139, zs_96_142, zs_96_143, zs_96_145, zs_96_146, zs_96_149, zs_96_152, zs_96_155, zs_96_156, zs_96_157, zs_96_158, zs_96_159, zs_96_162, zs_96_163, zs_96_164, zs_96_167, zs_96_168, zs_96_171, zs_96_172, zs_96_173, zs_96_174, zs_96_175, zs_96_176, zs_96_177, zs_96_179, zs_96_180, zs_96_183, zs_96_185, zs_96_186, zs_96_189, zs_96_190, zs_96_193, zs_96_195, zs_96_196, zs_96_197, zs_96_198, zs_96_199, zs_96_200, zs_96_203, zs_96_204, zs_96_206, zs_96_208, zs_96_211, zs_96_214, zs_96_217, zs_96_16h, zs_96_62h, zs_96_98h, zs_96_157h, za_34, za_35, za_36, za_37, za_38, za_43, za_46, zg_31_13, zg_31_16, zg_31_3, zg_31_4, zg_31_5, zg_31_6, zg_31_7, zg_31_8, zp_31_29, zp_31_30, zrc_84, zrc_91, zrc_92, zrc_93, zrc_95, zli_0, zli_s, zlr_0, zlr_s, zls_0, zls_s, z1i_e, z2i_e, z1r_e, zir_e, ziir_e, z1v_e, z2v_e, zone_e, znil_e, zsp_0, zsp_s, zlz_0, zlz_1, zlz_2, zlz_3, zlz_4, zswp_0, zswp_s, true_and, and_true, implies_true, true_or, or_true, Int.reduceEq, Int.reduceLT, Int.reduceLE, Int.reduceNeg, not_true_eq_false, not_false_eq_true, false_implies, true_implies, zr_e, zwr_o, zwr_s, Nat.reduceEqDiff]
    rw [e7, e38, e43]
    refine ⟨z1, z2, fun a => absurd mlt (Int.not_lt.mpr a), fun a => ⟨m0, m60, z3, z4, fun b => ?_, fun b => ⟨m0, m60, z5, fun d => ?_, fun d => ?_⟩⟩⟩
    · refine step σ2 _ hs ?_
      rw [gCC, if_neg (show ¬ bM σ 6 m = t from b), List.append_nil]
      exact hf
    · refine step σ2 _ hs ?_
      have e0 : bM σ 10 m = 0 := Int.le_antisymm d hk1
      have eg : gFc (bM σ) (rM σ) (pM σ) t m = 0 := by unfold gFc; simp [e0]
      rw [gCC, if_pos (show bM σ 6 m = t from b), eg, gIf, if_pos rfl, List.append_nil]
      exact hf
    · refine m_callFault (σ := σ2) (by rw [eB]; exact hB) hF2 h0 t16 m0 (by rw [e7]; exact mlt) (by rw [e43]; exact fun z => absurd d (by rw [z]; decide)) ?_
      rw [eB, er, ep]
      have hg := gFc_0 (B := bM σ) (H := rM σ) (PA := pM σ) (t := t) (m := m)
      have egc : gCC (bM σ) (rM σ) (pM σ) t m = gIf (gFc (bM σ) (rM σ) (pM σ) t m) m := by rw [gCC, if_pos (show bM σ 6 m = t from b)]
      generalize gFc (bM σ) (rM σ) (pM σ) t m = g at *
      refine ⟨⟨Int.le_trans (by decide) hg.1, Int.lt_of_le_of_lt hg.2 (by decide)⟩, fun g0 => ?_, fun g0 => ?_⟩
      · refine step σ2 _ hs ?_
        rw [egc, show g = 0 from Int.le_antisymm g0 hg.1, gIf, if_pos rfl, List.append_nil]
        exact hf
      · refine m_fault (by rw [hs.2 29 (by decide)]; exact hw) hLL hf ?_
        intro σ3 hs3 hf3
        refine step σ3 _ (zmm_tr hs hs3 (by decide) (by decide)) ?_
        rw [egc, gIf, if_neg (fun z => by rw [z] at g0; exact absurd g0 (by decide))]
        exact hf3
set_option maxRecDepth 100000 in
theorem m_look_B {t i : Int} {L : List (Int × Int)} (hB : Bd (bM σ)) (hF : FM σ) (h0 : 0 ≤ t) (h1 : t < σ 31 0) (hw : zr (σ 31 29)) (hL : (L.length : Int) ≤ 6000)
    (h : ∀ σ' l4, zmm [] [30, 31, 32] σ σ' → fMs σ' (L ++ (zi 10).flatMap (gCB (bM σ) (rM σ) t)) → ((zi 10).flatMap (gCB (bM σ) (rM σ) t)).length ≤ (30 : Int) → zV 96 zF Q 98 [some (.inr 31), some (.inl t), some (.inl i), some (.inl 0), l4] [] σ') :
    ∀ (q : Nat) (n : Int) (σ2 : zS) (l4 : Option zW), 0 ≤ n → n ≤ 10 → (10 - n).toNat = q → zmm [] [30, 31, 32] σ σ2 → fMs σ2 (L ++ (zi n).flatMap (gCB (bM σ) (rM σ) t)) → ((zi n).flatMap (gCB (bM σ) (rM σ) t)).length ≤ 3 * n →
      zV 96 zF Q 62 [some (.inr 31), some (.inl t), some (.inl i), some (.inl n), l4] [] σ2 := by
  have hnn : 1 ≤ σ 31 0 ∧ σ 31 0 ≤ 16 ∧ 3 ≤ σ 31 7 ∧ σ 31 7 ≤ 60 := hB.n
  intro q
  induction q with
  | zero =>
    intro n σ2 l4 n0 n1 nq hs hf hl
    have e : n = 10 := by omega
    subst e
    refine zv_96 200 ?_
    simp only [zs_96_0, zs_96_1, zs_96_4, zs_96_5, zs_96_6, zs_96_9, zs_96_10, zs_96_11, zs_96_14, zs_96_15, zs_96_16, zs_96_17, zs_96_19, zs_96_22, zs_96_23, zs_96_26, zs_96_28, zs_96_29, zs_96_30, zs_96_31, zs_96_32, zs_96_33, zs_96_35, zs_96_38, zs_96_39, zs_96_40, zs_96_41, zs_96_44, zs_96_46, zs_96_47, zs_96_48, zs_96_49, zs_96_50, zs_96_51, zs_96_54, zs_96_57, zs_96_60, zs_96_61, zs_96_62, zs_96_63, zs_96_65, zs_96_68, zs_96_69, zs_96_72, zs_96_74, zs_96_75, zs_96_76, zs_96_77, zs_96_78, zs_96_79, zs_96_81, zs_96_84, zs_96_85, zs_96_86, zs_96_87, zs_96_90, zs_96_93, zs_96_96, zs_96_97, zs_96_98, zs_96_99, zs_96_100, zs_96_103, zs_96_106, zs_96_107, zs_96_110, zs_96_111, zs_96_112, zs_96_113, zs_96_116, zs_96_117, zs_96_120, zs_96_121, zs_96_122, zs_96_125, zs_96_126, zs_96_127, zs_96_128, zs_96_131, zs_96_134, zs_96_135, zs_96_137, zs_96_139, zs_96_142, zs_96_143, zs_96_145, zs_96_146, zs_96_149, zs_96_152, zs_96_155, zs_96_156, zs_96_157, zs_96_158, zs_96_159, zs_96_162, zs_96_163, zs_96_164, zs_96_167, zs_96_168, zs_96_171, zs_96_172, zs_96_173, zs_96_174, zs_96_175, zs_96_176, zs_96_177, zs_96_179, zs_96_180, zs_96_183, zs_96_185, zs_96_186, zs_96_189, zs_96_190, zs_96_193, zs_96_195, zs_96_196, zs_96_197, zs_96_198, zs_96_199, zs_96_200, zs_96_203, zs_96_204, zs_96_206, zs_96_208, zs_96_211, zs_96_214, zs_96_217, zs_96_16h, zs_96_62h, zs_96_98h, zs_96_157h, za_34, za_35, za_36, za_37, za_38, za_43, za_46, zg_31_13, zg_31_16, zg_31_3, zg_31_4, zg_31_5, zg_31_6, zg_31_7, zg_31_8, zp_31_29, zp_31_30, zrc_84, zrc_91, zrc_92, zrc_93, zrc_95, zli_0, zli_s, zlr_0, zlr_s, zls_0, zls_s, z1i_e, z2i_e, z1r_e, zir_e, ziir_e, z1v_e, z2v_e, zone_e, znil_e, zsp_0, zsp_s, zlz_0, zlz_1, zlz_2, zlz_3, zlz_4, zswp_0, zswp_s, true_and, and_true, implies_true, true_or, or_true, Int.reduceEq, Int.reduceLT, Int.reduceLE, Int.reduceNeg, not_true_eq_false, not_false_eq_true, false_implies, true_implies, zr_e, zwr_o, zwr_s, Nat.reduceEqDiff]
    exact h σ2 _ hs hf hl
  | succ q ih =>
    intro n σ2 l4 n0 n1 nq hs hf hl
    have eB : bM σ2 = bM σ := bM_mm hs (by decide) (by decide) (by decide)
    have er : rM σ2 = rM σ := rM_mm hs (by decide) (by decide)
    have e46 : σ2 46 = σ 46 := hs.1 46 (by decide) (by decide)
    have hF2 : FM σ2 := FM_sm hB hs (by decide) (by decide) (by decide) hF
    have e0 : σ2 31 0 = σ 31 0 := hs.2 0 (by decide)
    have how : σ 46 (10 * t + n) = -4 ∨ (0 ≤ σ 46 (10 * t + n) ∧ σ 46 (10 * t + n) < σ 31 7) := hB.ow (10 * t + n) (by omega) (by omega)
    have step : ∀ σ3 l4, zmm [] [30, 31, 32] σ σ3 → fMs σ3 ((L ++ (zi n).flatMap (gCB (bM σ) (rM σ) t)) ++ gCB (bM σ) (rM σ) t n) → ((gCB (bM σ) (rM σ) t n).length : Int) ≤ 3 → zV 96 zF Q 62 [some (.inr 31), some (.inl t), some (.inl i), some (.inl (n + 1)), l4] [] σ3 := by
      intro σ3 l4 hs3 hf3 hl3
      refine ih (n + 1) σ3 l4 (by omega) (by omega) (by omega) hs3 ?_ ?_
      · rw [zi_s n0, List.flatMap_append, ← List.append_assoc]
        simpa using hf3
      · rw [zi_s n0, List.flatMap_append, List.length_append]
        simp only [List.flatMap_cons, List.flatMap_nil, List.append_nil]
        omega
    have hx : 0 ≤ 10 * t + n ∧ 10 * t + n < 160 := by omega
    have hz : -2147483648 ≤ σ 46 (10 * t + n) ∧ σ 46 (10 * t + n) < 2147483648 := by omega
    have hzn : -2147483648 ≤ n ∧ n < 2147483648 := by omega
    have n10 : n < 10 := by omega
    have t16 : t < 16 := by omega
    have hr2 := (hF2.2 n t n0 n10 h0 (by omega)).1
    have hLL : ((L ++ (zi n).flatMap (gCB (bM σ) (rM σ) t)).length : Int) < 9000 := by rw [List.length_append]; omega
    clear ih
    refine zv_96 200 ?_
    simp only [zs_96_0, zs_96_1, zs_96_4, zs_96_5, zs_96_6, zs_96_9, zs_96_10, zs_96_11, zs_96_14, zs_96_15, zs_96_16, zs_96_17, zs_96_19, zs_96_22, zs_96_23, zs_96_26, zs_96_28, zs_96_29, zs_96_30, zs_96_31, zs_96_32, zs_96_33, zs_96_35, zs_96_38, zs_96_39, zs_96_40, zs_96_41, zs_96_44, zs_96_46, zs_96_47, zs_96_48, zs_96_49, zs_96_50, zs_96_51, zs_96_54, zs_96_57, zs_96_60, zs_96_61, zs_96_62, zs_96_63, zs_96_65, zs_96_68, zs_96_69, zs_96_72, zs_96_74, zs_96_75, zs_96_76, zs_96_77, zs_96_78, zs_96_79, zs_96_81, zs_96_84, zs_96_85, zs_96_86, zs_96_87, zs_96_90, zs_96_93, zs_96_96, zs_96_97, zs_96_98, zs_96_99, zs_96_100, zs_96_103, zs_96_106, zs_96_107, zs_96_110, zs_96_111, zs_96_112, zs_96_113, zs_96_116, zs_96_117, zs_96_120, zs_96_121, zs_96_122, zs_96_125, zs_96_126, zs_96_127, zs_96_128, zs_96_131, zs_96_134, zs_96_135, zs_96_137, zs_96_139, zs_96_142, zs_96_143, zs_96_145, zs_96_146, zs_96_149, zs_96_152, zs_96_155, zs_96_156, zs_96_157, zs_96_158, zs_96_159, zs_96_162, zs_96_163, zs_96_164, zs_96_167, zs_96_168, zs_96_171, zs_96_172, zs_96_173, zs_96_174, zs_96_175, zs_96_176, zs_96_177, zs_96_179, zs_96_180, zs_96_183, zs_96_185, zs_96_186, zs_96_189, zs_96_190, zs_96_193, zs_96_195, zs_96_196, zs_96_197, zs_96_198, zs_96_199, zs_96_200, zs_96_203, zs_96_204, zs_96_206, zs_96_208, zs_96_211, zs_96_214, zs_96_217, zs_96_16h, zs_96_62h, zs_96_98h, zs_96_157h, za_34, za_35, za_36, za_37, za_38, za_43, za_46, zg_31_13, zg_31_16, zg_31_3, zg_31_4, zg_31_5, zg_31_6, zg_31_7, zg_31_8, zp_31_29, zp_31_30, zrc_84, zrc_91, zrc_92, zrc_93, zrc_95, zli_0, zli_s, zlr_0, zlr_s, zls_0, zls_s, z1i_e, z2i_e, z1r_e, zir_e, ziir_e, z1v_e, z2v_e, zone_e, znil_e, zsp_0, zsp_s, zlz_0, zlz_1, zlz_2, zlz_3, zlz_4, zswp_0, zswp_s, true_and, and_true, implies_true, true_or, or_true, Int.reduceEq, Int.reduceLT, Int.reduceLE, Int.reduceNeg, not_true_eq_false, not_false_eq_true, false_implies, true_implies, zr_e, zwr_o, zwr_s, Nat.reduceEqDiff]
    rw [e46]
    refine ⟨hzn, fun a => absurd n10 (Int.not_lt.mpr a), fun a => ⟨hx.1, hx.2, hz, fun b => ?_, fun b => ?_⟩⟩
    · have eg : gCB (bM σ) (rM σ) t n = [] := if_neg (show ¬ bM σ 13 (10 * t + n) = -4 from b)
      refine step σ2 _ hs ?_ (by rw [eg]; decide)
      rw [eg, List.append_nil]
      exact hf
    · have eg : gCB (bM σ) (rM σ) t n = gFi (bM σ) (rM σ n t) t n := if_pos (show bM σ 13 (10 * t + n) = -4 from b)
      refine m_nameFaults (σ := σ2) (by rw [eB]; exact hB) h0 t16 n0 n10 hr2 (by rw [hs.2 29 (by decide)]; exact hw) hLL hf ?_
      intro σ3 hs3 hf3
      rw [eB, er, ← eg] at hf3
      exact step σ3 _ (zmm_tr hs hs3 (by decide) (by decide)) hf3 (by rw [eg]; exact gFi_len)
set_option maxRecDepth 100000 in
theorem m_look_A {t i : Int} (hI : IM σ) (hF : FM σ) (h0 : 0 ≤ t) (h1 : t < σ 31 0) (hw : zr (σ 31 29))
    (h : ∀ σ' l4, zmm [] [30, 31, 32] σ σ' → fMs σ' ((zi 10).flatMap (gCA (bM σ) (rM σ) t)) → ((zi 10).flatMap (gCA (bM σ) (rM σ) t)).length ≤ (160 : Int) → zV 96 zF Q 62 [some (.inr 31), some (.inl t), some (.inl i), some (.inl 0), l4] [] σ') :
    ∀ (q : Nat) (n : Int) (σ2 : zS) (l4 : Option zW), 0 ≤ n → n ≤ 10 → (10 - n).toNat = q → zmm [] [30, 31, 32] σ σ2 → fMs σ2 ((zi n).flatMap (gCA (bM σ) (rM σ) t)) → ((zi n).flatMap (gCA (bM σ) (rM σ) t)).length ≤ 16 * n →
      zV 96 zF Q 16 [some (.inr 31), some (.inl t), some (.inl i), some (.inl n), l4] [] σ2 := by
  have hB := hI.1
  have hnn : 1 ≤ σ 31 0 ∧ σ 31 0 ≤ 16 ∧ 3 ≤ σ 31 7 ∧ σ 31 7 ≤ 60 := hB.n
  intro q
  induction q with
  | zero =>
    intro n σ2 l4 n0 n1 nq hs hf hl
    have e : n = 10 := by omega
    subst e
    refine zv_96 200 ?_
    simp only [zs_96_0, zs_96_1, zs_96_4, zs_96_5, zs_96_6, zs_96_9, zs_96_10, zs_96_11, zs_96_14, zs_96_15, zs_96_16, zs_96_17, zs_96_19, zs_96_22, zs_96_23, zs_96_26, zs_96_28, zs_96_29, zs_96_30, zs_96_31, zs_96_32, zs_96_33, zs_96_35, zs_96_38, zs_96_39, zs_96_40, zs_96_41, zs_96_44, zs_96_46, zs_96_47, zs_96_48, zs_96_49, zs_96_50, zs_96_51, zs_96_54, zs_96_57, zs_96_60, zs_96_61, zs_96_62, zs_96_63, zs_96_65, zs_96_68, zs_96_69, zs_96_72, zs_96_74, zs_96_75, zs_96_76, zs_96_77, zs_96_78, zs_96_79, zs_96_81, zs_96_84, zs_96_85, zs_96_86, zs_96_87, zs_96_90, zs_96_93, zs_96_96, zs_96_97, zs_96_98, zs_96_99, zs_96_100, zs_96_103, zs_96_106, zs_96_107, zs_96_110, zs_96_111, zs_96_112, zs_96_113, zs_96_116, zs_96_117, zs_96_120, zs_96_121, zs_96_122, zs_96_125, zs_96_126, zs_96_127, zs_96_128, zs_96_131, zs_96_134, zs_96_135, zs_96_137, zs_96_139, zs_96_142, zs_96_143, zs_96_145, zs_96_146, zs_96_149, zs_96_152, zs_96_155, zs_96_156, zs_96_157, zs_96_158, zs_96_159, zs_96_162, zs_96_163, zs_96_164, zs_96_167, zs_96_168, zs_96_171, zs_96_172, zs_96_173, zs_96_174, zs_96_175, zs_96_176, zs_96_177, zs_96_179, zs_96_180, zs_96_183, zs_96_185, zs_96_186, zs_96_189, zs_96_190, zs_96_193, zs_96_195, zs_96_196, zs_96_197, zs_96_198, zs_96_199, zs_96_200, zs_96_203, zs_96_204, zs_96_206, zs_96_208, zs_96_211, zs_96_214, zs_96_217, zs_96_16h, zs_96_62h, zs_96_98h, zs_96_157h, za_34, za_35, za_36, za_37, za_38, za_43, za_46, zg_31_13, zg_31_16, zg_31_3, zg_31_4, zg_31_5, zg_31_6, zg_31_7, zg_31_8, zp_31_29, zp_31_30, zrc_84, zrc_91, zrc_92, zrc_93, zrc_95, zli_0, zli_s, zlr_0, zlr_s, zls_0, zls_s, z1i_e, z2i_e, z1r_e, zir_e, ziir_e, z1v_e, z2v_e, zone_e, znil_e, zsp_0, zsp_s, zlz_0, zlz_1, zlz_2, zlz_3, zlz_4, zswp_0, zswp_s, true_and, and_true, implies_true, true_or, or_true, Int.reduceEq, Int.reduceLT, Int.reduceLE, Int.reduceNeg, not_true_eq_false, not_false_eq_true, false_implies, true_implies, zr_e, zwr_o, zwr_s, Nat.reduceEqDiff]
    exact h σ2 _ hs hf hl
  | succ q ih =>
    intro n σ2 l4 n0 n1 nq hs hf hl
    have eB : bM σ2 = bM σ := bM_mm hs (by decide) (by decide) (by decide)
    have er : rM σ2 = rM σ := rM_mm hs (by decide) (by decide)
    have e46 : σ2 46 = σ 46 := hs.1 46 (by decide) (by decide)
    have hF2 : FM σ2 := FM_sm hB hs (by decide) (by decide) (by decide) hF
    have hI2 : IM σ2 := IM_sm hI (w3 hs)
    have e0 : σ2 31 0 = σ 31 0 := hs.2 0 (by decide)
    have how : σ 46 (10 * t + n) = -4 ∨ (0 ≤ σ 46 (10 * t + n) ∧ σ 46 (10 * t + n) < σ 31 7) := hB.ow (10 * t + n) (by omega) (by omega)
    have step : ∀ σ3 l4, zmm [] [30, 31, 32] σ σ3 → fMs σ3 (((zi n).flatMap (gCA (bM σ) (rM σ) t)) ++ gCA (bM σ) (rM σ) t n) → ((gCA (bM σ) (rM σ) t n).length : Int) ≤ 16 → zV 96 zF Q 16 [some (.inr 31), some (.inl t), some (.inl i), some (.inl (n + 1)), l4] [] σ3 := by
      intro σ3 l4 hs3 hf3 hl3
      refine ih (n + 1) σ3 l4 (by omega) (by omega) (by omega) hs3 ?_ ?_
      · rw [zi_s n0, List.flatMap_append]
        simpa using hf3
      · rw [zi_s n0, List.flatMap_append, List.length_append]
        simp only [List.flatMap_cons, List.flatMap_nil, List.append_nil]
        omega
    have hx : 0 ≤ 10 * t + n ∧ 10 * t + n < 160 := by omega
    have hz : -2147483648 ≤ σ 46 (10 * t + n) ∧ σ 46 (10 * t + n) < 2147483648 := by omega
    have hzn : -2147483648 ≤ n ∧ n < 2147483648 := by omega
    have n10 : n < 10 := by omega
    have t16 : t < 16 := by omega
    have t2 : t < σ2 31 0 := by omega
    have hLL : (((zi n).flatMap (gCA (bM σ) (rM σ) t)).length : Int) < 9000 := by omega
    have hV : ∀ p, 0 ≤ p → p < t → gV (bM σ) n (p + 1) (rM σ n p) := fun p p0 p1 => (hF.2 n p n0 n10 p0 (by omega)).1.2.2
    clear ih
    refine zv_96 200 ?_
    simp only [zs_96_0, zs_96_1, zs_96_4, zs_96_5, zs_96_6, zs_96_9, zs_96_10, zs_96_11, zs_96_14, zs_96_15, zs_96_16, zs_96_17, zs_96_19, zs_96_22, zs_96_23, zs_96_26, zs_96_28, zs_96_29, zs_96_30, zs_96_31, zs_96_32, zs_96_33, zs_96_35, zs_96_38, zs_96_39, zs_96_40, zs_96_41, zs_96_44, zs_96_46, zs_96_47, zs_96_48, zs_96_49, zs_96_50, zs_96_51, zs_96_54, zs_96_57, zs_96_60, zs_96_61, zs_96_62, zs_96_63, zs_96_65, zs_96_68, zs_96_69, zs_96_72, zs_96_74, zs_96_75, zs_96_76, zs_96_77, zs_96_78, zs_96_79, zs_96_81, zs_96_84, zs_96_85, zs_96_86, zs_96_87, zs_96_90, zs_96_93, zs_96_96, zs_96_97, zs_96_98, zs_96_99, zs_96_100, zs_96_103, zs_96_106, zs_96_107, zs_96_110, zs_96_111, zs_96_112, zs_96_113, zs_96_116, zs_96_117, zs_96_120, zs_96_121, zs_96_122, zs_96_125, zs_96_126, zs_96_127, zs_96_128, zs_96_131, zs_96_134, zs_96_135, zs_96_137, zs_96_139, zs_96_142, zs_96_143, zs_96_145, zs_96_146, zs_96_149, zs_96_152, zs_96_155, zs_96_156, zs_96_157, zs_96_158, zs_96_159, zs_96_162, zs_96_163, zs_96_164, zs_96_167, zs_96_168, zs_96_171, zs_96_172, zs_96_173, zs_96_174, zs_96_175, zs_96_176, zs_96_177, zs_96_179, zs_96_180, zs_96_183, zs_96_185, zs_96_186, zs_96_189, zs_96_190, zs_96_193, zs_96_195, zs_96_196, zs_96_197, zs_96_198, zs_96_199, zs_96_200, zs_96_203, zs_96_204, zs_96_206, zs_96_208, zs_96_211, zs_96_214, zs_96_217, zs_96_16h, zs_96_62h, zs_96_98h, zs_96_157h, za_34, za_35, za_36, za_37, za_38, za_43, za_46, zg_31_13, zg_31_16, zg_31_3, zg_31_4, zg_31_5, zg_31_6, zg_31_7, zg_31_8, zp_31_29, zp_31_30, zrc_84, zrc_91, zrc_92, zrc_93, zrc_95, zli_0, zli_s, zlr_0, zlr_s, zls_0, zls_s, z1i_e, z2i_e, z1r_e, zir_e, ziir_e, z1v_e, z2v_e, zone_e, znil_e, zsp_0, zsp_s, zlz_0, zlz_1, zlz_2, zlz_3, zlz_4, zswp_0, zswp_s, true_and, and_true, implies_true, true_or, or_true, Int.reduceEq, Int.reduceLT, Int.reduceLE, Int.reduceNeg, not_true_eq_false, not_false_eq_true, false_implies, true_implies, zr_e, zwr_o, zwr_s, Nat.reduceEqDiff]
    refine ⟨hzn, fun a => absurd n10 (Int.not_lt.mpr a), fun a => ⟨hx.1, hx.2, by rw [e46]; exact hz, fun b => ?_, fun b => ⟨hx.1, hx.2, ?_⟩⟩⟩
    · rw [e46] at b
      have eg : gCA (bM σ) (rM σ) t n = [] := if_pos (show bM σ 13 (10 * t + n) = -4 from b)
      refine step σ2 _ hs ?_ (by rw [eg]; decide)
      rw [eg, List.append_nil]
      exact hf
    · refine m_ownFaults (σ := σ2) hI2 hF2 h0 t2 n0 n10 b (by rw [hs.2 29 (by decide)]; exact hw) hLL hf ?_
      rw [e46] at b
      have eg : gCA (bM σ) (rM σ) t n = gFo (bM σ) (rM σ n) t n := if_neg (show ¬ bM σ 13 (10 * t + n) = -4 from b)
      intro σ3 hs3 hf3
      rw [eB, er, ← eg] at hf3
      exact step σ3 _ (zmm_tr hs hs3 (by decide) (by decide)) hf3 (by rw [eg]; exact gFo_len hB h0 t16 hV)
set_option maxRecDepth 100000 in
theorem m_look {t i : Int} (hI : IM σ) (h0 : 0 ≤ t) (h1 : t < σ 31 0) (hi : zr i)
    (h : ∀ σ', zmm [49, 50, 51, 52, 53] [19, 29, 30, 31, 32] σ σ' → IM σ' → FM σ' → σ' 31 29 = i → fMs σ' (cCol (bM σ) t) → Q 0 σ') : zM 96 zF [.inr 31, .inl t, .inl i] σ Q := by
  have hnn := hI.n
  refine ze_96 200 ?_
  simp only [zs_96_0, zs_96_1, zs_96_4, zs_96_5, zs_96_6, zs_96_9, zs_96_10, zs_96_11, zs_96_14, zs_96_15, zs_96_16, zs_96_17, zs_96_19, zs_96_22, zs_96_23, zs_96_26, zs_96_28, zs_96_29, zs_96_30, zs_96_31, zs_96_32, zs_96_33, zs_96_35, zs_96_38, zs_96_39, zs_96_40, zs_96_41, zs_96_44, zs_96_46, zs_96_47, zs_96_48, zs_96_49, zs_96_50, zs_96_51, zs_96_54, zs_96_57, zs_96_60, zs_96_61, zs_96_62, zs_96_63, zs_96_65, zs_96_68, zs_96_69, zs_96_72, zs_96_74, zs_96_75, zs_96_76, zs_96_77, zs_96_78, zs_96_79, zs_96_81, zs_96_84, zs_96_85, zs_96_86, zs_96_87, zs_96_90, zs_96_93, zs_96_96, zs_96_97, zs_96_98, zs_96_99, zs_96_100, zs_96_103, zs_96_106, zs_96_107, zs_96_110, zs_96_111, zs_96_112, zs_96_113, zs_96_116, zs_96_117, zs_96_120, zs_96_121, zs_96_122, zs_96_125, zs_96_126, zs_96_127, zs_96_128, zs_96_131, zs_96_134, zs_96_135, zs_96_137, zs_96_139, zs_96_142, zs_96_143, zs_96_145, zs_96_146, zs_96_149, zs_96_152, zs_96_155, zs_96_156, zs_96_157, zs_96_158, zs_96_159, zs_96_162, zs_96_163, zs_96_164, zs_96_167, zs_96_168, zs_96_171, zs_96_172, zs_96_173, zs_96_174, zs_96_175, zs_96_176, zs_96_177, zs_96_179, zs_96_180, zs_96_183, zs_96_185, zs_96_186, zs_96_189, zs_96_190, zs_96_193, zs_96_195, zs_96_196, zs_96_197, zs_96_198, zs_96_199, zs_96_200, zs_96_203, zs_96_204, zs_96_206, zs_96_208, zs_96_211, zs_96_214, zs_96_217, za_34, za_35, za_36, za_37, za_38, za_43, za_46, zg_31_13, zg_31_16, zg_31_3, zg_31_4, zg_31_5, zg_31_6, zg_31_7, zg_31_8, zp_31_29, zp_31_30, zrc_84, zrc_91, zrc_92, zrc_93, zrc_95, zli_0, zli_s, zlr_0, zlr_s, zls_0, zls_s, z1i_e, z2i_e, z1r_e, zir_e, ziir_e, z1v_e, z2v_e, zone_e, znil_e, zsp_0, zsp_s, zlz_0, zlz_1, zlz_2, zlz_3, zlz_4, zswp_0, zswp_s, true_and, and_true, implies_true, true_or, or_true, Int.reduceEq, Int.reduceLT, Int.reduceLE, Int.reduceNeg, not_true_eq_false, not_false_eq_true, false_implies, true_implies, zr_e, zwr_o, zwr_s, Nat.reduceEqDiff]
  refine m_freshen hI ?_
  intro σ1 hs1 hI1 hF1
  have hw1 : zmm [54] [29, 30, 31, 32] σ1 (zwr (zwr σ1 31 29 i) 31 30 0) := zmm_wf (zmm_wf zmm_rf (by decide)) (by decide)
  have hs2 : zmm [49, 50, 51, 52, 53] [19, 29, 30, 31, 32] σ (zwr (zwr σ1 31 29 i) 31 30 0) := zmm_wf (zmm_wf (zmm_tr zmm_rf hs1 (by decide) (by decide)) (by decide)) (by decide)
  have hI2 : IM (zwr (zwr σ1 31 29 i) 31 30 0) := IM_sm hI1 hw1
  have hF2 : FM (zwr (zwr σ1 31 29 i) 31 30 0) := FM_sm hI1.1 hw1 (by decide) (by decide) (by decide) hF1
  have e29 : zwr (zwr σ1 31 29 i) 31 30 0 31 29 = i := by simp [zwr]
  have e30 : zwr (zwr σ1 31 29 i) 31 30 0 31 30 = 0 := by simp [zwr]
  generalize hg : zwr (zwr σ1 31 29 i) 31 30 0 = σ2 at *
  have eB : bM σ2 = bM σ := bM_mm hs2 (by decide) (by decide) (by decide)
  have e0 : σ2 31 0 = σ 31 0 := hs2.2 0 (by decide)
  have hnn2 := hI2.n
  have hf0 : fMs σ2 [] := ⟨by rw [e30]; rfl, fun a b => absurd (Int.lt_of_le_of_lt a b) (by decide)⟩
  have ec : gCol (bM σ2) (rM σ2) (pM σ2) t = cCol (bM σ) t := by
    rw [← eB]
    exact gCol_c hI2.1 h0 (show t < σ2 31 0 by omega) (fun n u n0 n1 u0 u1 => RM_c hI2.1 hF2 n0 n1 u0 u1) (PM_c hI2.1 hF2 h0 (by omega))
  have hw : zr (σ2 31 29) := by rw [e29]; exact hi
  refine m_look_A hI2 hF2 h0 (by omega) hw ?_ _ 0 σ2 _ (by omega) (by omega) rfl zmm_rf hf0 (by rw [zi_0]; simp)
  intro σ3 l4 hs3 hf3 hl3
  have eB3 : bM σ3 = bM σ2 := bM_mm hs3 (by decide) (by decide) (by decide)
  refine m_look_B hI2.1 hF2 h0 (by omega) hw (L := (zi 10).flatMap (gCA (bM σ2) (rM σ2) t)) (by omega) ?_ _ 0 σ3 _ (by omega) (by omega) rfl hs3 (by rw [zi_0]; simpa using hf3) (by rw [zi_0]; simp)
  intro σ4 l4 hs4 hf4 hl4
  refine m_look_C hI2.1 hF2 h0 (by omega) hw (L := (zi 10).flatMap (gCA (bM σ2) (rM σ2) t) ++ (zi 10).flatMap (gCB (bM σ2) (rM σ2) t)) (by rw [List.length_append]; omega) ?_ _ 0 σ4 _ (by omega) (by omega) rfl hs4 (by rw [zi_0]; simpa using hf4)
  intro σ5 hs5 hf5
  refine h σ5 (zmm_tr hs2 hs5 (by decide) (by decide)) (IM_sm hI2 (w3 hs5)) (FM_sm hI2.1 hs5 (by decide) (by decide) (by decide) hF2) (by rw [hs5.2 29 (by decide), e29]) ?_
  rw [← ec, gCol]
  rw [List.append_assoc] at hf5
  exact hf5
end M10
