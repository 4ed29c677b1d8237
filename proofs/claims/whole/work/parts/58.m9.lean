/-! the reference's rows are the canonical -/
section M9
variable {σ : zS} {Q : Int → zS → Prop}
theorem AM_c (hB : Bd (bM σ)) (hF : FM σ) {t : Int} (h0 : 0 ≤ t) (h1 : t < σ 31 0) : σ 49 t = cAn (bM σ) t := anc_c hB (A := σ 49) (fun u u0 u1 => hF.1 u u0 u1) h0 h1
theorem RM_c (hB : Bd (bM σ)) (hF : FM σ) {n t : Int} (n0 : 0 ≤ n) (n1 : n < 10) (h0 : 0 ≤ t) (h1 : t < σ 31 0) : rM σ n t = cRow (bM σ) n t :=
  row_c hB (A := σ 49) (fun u u0 u1 => AM_c hB hF u0 u1) (fun t t0 t1 => (hF.2 n t n0 n1 t0 t1).1.2.2) (fun t t0 t1 => (hF.2 n t n0 n1 t0 t1).2.1) h0 h1
/-- ancestors of parents -/
noncomputable def pM (σ : zS) (t : Int) : Int := gOr (fun i => σ 49 (gPa (bM σ) t i)) (gPc (bM σ) t).toNat
theorem PM_c (hB : Bd (bM σ)) (hF : FM σ) {t : Int} (h0 : 0 ≤ t) (h1 : t < σ 31 0) : pM σ t = cPA (bM σ) t := by
  have hnn : 1 ≤ σ 31 0 ∧ σ 31 0 ≤ 16 ∧ _ := hB.n
  unfold pM cPA
  refine gOr_congr (fun i i0 i1 => ?_)
  have hl := gPa_lt hB h0 (show t < 16 by omega) i0 (show i < gPc (bM σ) t by omega)
  exact AM_c hB hF hl.1 (by omega)
theorem fold_mem {B : zS} {m : Int} : ∀ (l acc : List Int), m ∈ l.foldl (gAdd B) acc → m ∈ acc ∨ (m ∈ l ∧ gHand B m = true)
  | [], acc, h => Or.inl h
  | a :: l, acc, h => by
    rw [List.foldl_cons] at h
    rcases fold_mem l _ h with h1 | h1
    · unfold gAdd at h1
      split at h1
      · rename_i hc
        rw [Bool.and_eq_true] at hc
        rcases List.mem_append.mp h1 with h2 | h2
        · exact Or.inl h2
        · have e : m = a := by simpa using h2
          exact Or.inr ⟨by simp [e], by rw [e]; exact hc.1⟩
      · exact Or.inl h1
    · exact Or.inr ⟨by simp [h1.1], h1.2⟩
theorem giv_mem {B : zS} {H : Int → List Int} {t m : Int} (h : m ∈ gGiv B H t) : gHand B m = true ∧ ∃ i, 0 ≤ i ∧ i < gPc B t ∧ m ∈ H (gPa B t i) := by
  rcases fold_mem _ _ h with h1 | h1
  · cases h1
  · refine ⟨h1.2, ?_⟩
    obtain ⟨p, hp, hm⟩ := List.mem_flatMap.mp h1.1
    obtain ⟨i, i0, i1, rfl⟩ := zl_mem.mp hp
    exact ⟨i, i0, i1, hm⟩
/-- a face has members of faces alone -/
theorem face_row {B : zS} {A : Int → Int} {H : Int → List Int} {n : Int} (hB : Bd B) (n0 : 0 ≤ n) (n1 : n < 10) (hH : ∀ t, 0 ≤ t → t < B 16 0 → H t = gHad B A H t n) :
    ∀ (k : Nat) (t : Int), 0 ≤ t → t < B 16 0 → t < k → B 0 t = 2 → ∀ m, m ∈ H t → B 0 (B 6 m) = 2
  | 0, t, h0, _, h, _ => by omega
  | k + 1, t, h0, h1, h, hk => by
    have hn := hB.n
    intro m hm
    rw [hH t h0 h1] at hm
    unfold gHad at hm
    split at hm
    · obtain ⟨-, i, i0, i1, hm⟩ := giv_mem (List.mem_filter.mp hm).1
      rw [gPc_p (Or.inr hk)] at i1
      have hfa := hB.fa t i h0 (by omega) i0 i1
      have hfc := hB.fc t h0 (by omega)
      have hj := hB.fj (4 * t + i) (by omega) (by omega)
      rw [gPa_p (Or.inr hk)] at hm
      exact face_row hB n0 n1 hH k _ hj.1 (by omega) (by omega) hfa.2 m hm
    · rename_i ho
      have e : m = B 13 (10 * t + n) := by simpa using hm
      rw [e, hB.oo t n h0 (by omega) n0 n1 ho]
      exact hk
theorem gSt_none {B : zS} : ∀ (l : List Int), (∀ m, m ∈ l → ¬ B 7 m = 2) → gSt B l = -5
  | [], _ => rfl
  | a :: l, h => by
    simp only [gSt]
    rw [if_neg (h a (by simp))]
    exact gSt_none l (fun m hm => h m (by simp [hm]))
theorem gSM_gSt {B : zS} {A : Int → Int} {H : Int → List Int} {n t : Int} (hB : Bd B) (n0 : 0 ≤ n) (n1 : n < 10) (hH : ∀ t, 0 ≤ t → t < B 16 0 → H t = gHad B A H t n) (h0 : 0 ≤ t) (h1 : t < B 16 0) : gSM B (H t) t n = if gSt B (H t) < 0 then -4 else gSt B (H t) := by
  have hn := hB.n
  have ho := hB.ow (10 * t + n) (by omega) (by omega)
  have e := hH t h0 h1
  unfold gHad at e
  unfold gSM
  by_cases hw : B 13 (10 * t + n) = -4
  · rw [if_neg (fun z => z.1 hw)]
    by_cases hk : B 0 t = 2
    · rw [if_pos hk, gSt_none, if_pos (by decide)]
      intro m hm
      have h2 := face_row hB n0 n1 hH 16 t h0 h1 (by omega) hk m hm
      rw [e, if_pos hw] at hm
      have h3 := (giv_mem (List.mem_filter.mp hm).1).1
      simp only [gHand, Bool.and_eq_true, Bool.not_eq_true', decide_eq_false_iff_not, Bool.and_eq_false_iff] at h3
      intro z
      rcases h3.2 with h4 | h4
      · exact h4 z
      · exact h4 h2
    · rw [if_neg hk]
  · rw [e, if_neg hw]
    by_cases hs : B 7 (B 13 (10 * t + n)) = 2
    · have e2 : gSt B [B 13 (10 * t + n)] = B 13 (10 * t + n) := if_pos hs
      rw [e2, if_pos ⟨hw, hs⟩, if_neg (by omega)]
    · have e2 : gSt B [B 13 (10 * t + n)] = -5 := if_neg hs
      rw [e2, if_neg (fun z => hs z.2)]
      simp
theorem RM_e (hF : FM σ) {n : Int} (n0 : 0 ≤ n) (n1 : n < 10) : ∀ t, 0 ≤ t → t < bM σ 16 0 → rM σ n t = gHad (bM σ) (σ 49) (rM σ n) t n := fun t t0 t1 => (hF.2 n t n0 n1 t0 t1).2.1
theorem rM_60 {n t : Int} (hB : Bd (bM σ)) (hr : mOK σ n t) : ∀ m, m ∈ rM σ n t → 0 ≤ m ∧ m < 60 := by
  intro m hm
  have h1 := hr.2.2.2 m hm
  have h2 : m < σ 31 7 := h1.2.1
  have hnn : _ ∧ _ ∧ _ ∧ σ 31 7 ≤ 60 := hB.n
  omega
theorem zand1 {a : Int} (h : a = 0 ∨ a = 1) : zand a 1 = a ∧ zand a 0 = 0 := by
  have za := zand_b h (show (1 : Int) = 0 ∨ (1 : Int) = 1 from Or.inr rfl)
  have zb := zand_b h (show (0 : Int) = 0 ∨ (0 : Int) = 1 from Or.inl rfl)
  refine ⟨?_, ?_⟩
  · rw [za]; rcases h with e | e <;> rw [e] <;> rfl
  · rw [zb]; simp
set_option maxRecDepth 100000 in
theorem m_cf2 {t m c n u : Int} (hB : Bd (bM σ)) (hF : FM σ) (h0 : 0 ≤ t) (h1 : t < σ 31 0) (n0 : 0 ≤ n) (n1 : n < 10) (u0 : 0 ≤ u) (u1 : u < σ 31 0)
    (k1 : u ∉ zl (fun j => σ 34 (4 * t + j)) (σ 35 t) ∨ zbt (pM σ t) u = true → Q 11 σ) (k2 : u ∈ zl (fun j => σ 34 (4 * t + j)) (σ 35 t) → zbt (pM σ t) u = false → Q (if gRX (bM σ) (rM σ n u) 0 (-4) 0 < 0 then 12 else 0) σ) :
    ∀ (q : Nat) (k its : Int), 0 ≤ k → k ≤ gPc (bM σ) t → (gPc (bM σ) t - k).toNat = q → ((its = 1 ∧ u ∈ zl (fun j => σ 34 (4 * t + j)) (σ 35 t) ∧ ∀ j, 0 ≤ j → j < k → zbt (σ 49 (gPa (bM σ) t j)) u = false) ∨ (its = 0 ∧ (u ∉ zl (fun j => σ 34 (4 * t + j)) (σ 35 t) ∨ zbt (pM σ t) u = true))) →
      zV 95 zF Q 186 [some (.inr 31), some (.inl t), some (.inl m), some (.inl c), some (.inl n), some (.inl u), some (.inl its), some (.inl k)] [] σ := by
  have hnn : 1 ≤ σ 31 0 ∧ σ 31 0 ≤ 16 ∧ _ := hB.n
  have hp := gPc_le hB h0 (show t < 16 by omega)
  intro q
  induction q with
  | zero =>
    intro k its k0 k1' kq hi
    have hr := (hF.2 n u n0 n1 u0 u1).1
    have hz := gRX_r (B := bM σ) (rM σ n u) 0 (-4) 0 (rM_60 hB hr) (Or.inl rfl)
    refine zv_95 200 ?_
    simp only [zs_95_0, zs_95_1, zs_95_4, zs_95_5, zs_95_6, zs_95_7, zs_95_8, zs_95_11, zs_95_12, zs_95_13, zs_95_15, zs_95_16, zs_95_19, zs_95_20, zs_95_21, zs_95_23, zs_95_24, zs_95_27, zs_95_28, zs_95_29, zs_95_30, zs_95_33, zs_95_34, zs_95_35, zs_95_38, zs_95_40, zs_95_41, zs_95_42, zs_95_43, zs_95_46, zs_95_47, zs_95_50, zs_95_52, zs_95_53, zs_95_54, zs_95_56, zs_95_57, zs_95_58, zs_95_61, zs_95_63, zs_95_66, zs_95_67, zs_95_68, zs_95_69, zs_95_70, zs_95_73, zs_95_74, zs_95_77, zs_95_78, zs_95_79, zs_95_80, zs_95_83, zs_95_84, zs_95_87, zs_95_88, zs_95_89, zs_95_92, zs_95_93, zs_95_94, zs_95_96, zs_95_99, zs_95_102, zs_95_104, zs_95_107, zs_95_108, zs_95_109, zs_95_110, zs_95_111, zs_95_114, zs_95_115, zs_95_117, zs_95_119, zs_95_122, zs_95_124, zs_95_127, zs_95_129, zs_95_132, zs_95_133, zs_95_134, zs_95_135, zs_95_137, zs_95_138, zs_95_140, zs_95_142, zs_95_143, zs_95_146, zs_95_147, zs_95_148, zs_95_151, zs_95_153, zs_95_154, zs_95_157, zs_95_158, zs_95_159, zs_95_160, zs_95_162, zs_95_163, zs_95_164, zs_95_166, zs_95_169, zs_95_170, zs_95_173, zs_95_174, zs_95_175, zs_95_177, zs_95_180, zs_95_183, zs_95_184, zs_95_186, zs_95_188, zs_95_189, zs_95_190, zs_95_193, zs_95_196, zs_95_198, zs_95_199, zs_95_200, zs_95_202, zs_95_205, zs_95_207, zs_95_210, zs_95_211, zs_95_214, zs_95_215, zs_95_216, zs_95_218, zs_95_221, zs_95_222, zs_95_224, zs_95_225, zs_95_226, zs_95_227, zs_95_230, zs_95_231, zs_95_234, zs_95_235, zs_95_236, zs_95_238, zs_95_241, zs_95_244, zs_95_246, zs_95_249, zs_95_251, zs_95_254, zs_95_255, zs_95_257, zs_95_259, zs_95_262, zs_95_265, zs_95_267, zs_95_270, zs_95_271, zs_95_140h, zs_95_186h, za_32, za_33, za_34, za_35, za_40, za_43, za_44, za_45, za_49, za_53, zg_31_1, zg_31_10, zg_31_13, zg_31_14, zg_31_15, zg_31_2, zg_31_20, zg_31_24, zg_31_3, zg_31_4, zrc_82, zrc_83, zrc_88, zrc_94, zli_0, zli_s, zlr_0, zlr_s, zls_0, zls_s, z1i_e, z2i_e, z1r_e, zir_e, ziir_e, z1v_e, z2v_e, zone_e, znil_e, zsp_0, zsp_s, zlz_0, zlz_1, zlz_2, zlz_3, zlz_4, zswp_0, zswp_s, true_and, and_true, implies_true, true_or, or_true, Int.reduceEq, Int.reduceLT, Int.reduceLE, Int.reduceNeg, not_true_eq_false, not_false_eq_true, false_implies, true_implies, zr_e, zwr_o, zwr_s, Nat.reduceEqDiff]
    refine m_parents hB h0 (by omega) ?_
    refine ⟨by omega, by omega, fun a => ⟨by omega, fun b => ?_, fun b => ?_⟩, fun a => by omega⟩
    · rcases hi with ⟨-, i1, i2⟩ | hi
      · have k2 := k2 i1 (by
          cases hb : zbt (pM σ t) u with
          | false => rfl
          | true =>
            rw [pM, gOr_bit] at hb
            obtain ⟨i, i0, i3, hb⟩ := hb
            rw [i2 i i0 (by omega)] at hb
            cases hb)
        refine m_runsOf hB u0 (by omega) n0 n1 hr ?_
        by_cases d : gRX (bM σ) (rM σ n u) 0 (-4) 0 < 0
        · rw [if_pos d] at k2
          exact ⟨by omega, fun z => by omega, fun z => k2⟩
        · rw [if_neg d] at k2
          exact ⟨by omega, fun z => k2, fun z => by omega⟩
      · exact absurd hi.1 b
    · rcases hi with ⟨i0, -, -⟩ | hi
      · omega
      · exact k1 hi.2
  | succ q ih =>
    intro k its k0 k1' kq hi
    have hl := gPa_lt hB h0 (show t < 16 by omega) k0 (show k < gPc (bM σ) t by omega)
    have hi01 : its = 0 ∨ its = 1 := by omega
    have za := zand1 hi01
    have hself : zbt (σ 49 u) u = false := by
      cases hb : zbt (σ 49 u) u with
      | false => rfl
      | true =>
        have := anc_bit hB (show σ 31 0 ≤ 16 by omega) (fun v v0 v1 => hF.1 v v0 v1) 16 u u u0 u1 (by omega) u0 (by omega) hb
        omega
    have keep : zbt (σ 49 (gPa (bM σ) t k)) u = false → zV 95 zF Q 186 [some (.inr 31), some (.inl t), some (.inl m), some (.inl c), some (.inl n), some (.inl u), some (.inl its), some (.inl (k + 1))] [] σ := by
      intro hb
      refine ih (k + 1) its (by omega) (by omega) (by omega) ?_
      rcases hi with ⟨i0, i1, i2⟩ | hi
      · refine Or.inl ⟨i0, i1, fun j j0 j1 => ?_⟩
        by_cases e : j = k
        · rw [e]; exact hb
        · exact i2 j j0 (by omega)
      · exact Or.inr hi
    have hbit := zand_shr (a := σ 49 (gPa (bM σ) t k)) (u := u) (by omega) (by omega)
    refine zv_95 200 ?_
    simp only [zs_95_0, zs_95_1, zs_95_4, zs_95_5, zs_95_6, zs_95_7, zs_95_8, zs_95_11, zs_95_12, zs_95_13, zs_95_15, zs_95_16, zs_95_19, zs_95_20, zs_95_21, zs_95_23, zs_95_24, zs_95_27, zs_95_28, zs_95_29, zs_95_30, zs_95_33, zs_95_34, zs_95_35, zs_95_38, zs_95_40, zs_95_41, zs_95_42, zs_95_43, zs_95_46, zs_95_47, zs_95_50, zs_95_52, zs_95_53, zs_95_54, zs_95_56, zs_95_57, zs_95_58, zs_95_61, zs_95_63, zs_95_66, zs_95_67, zs_95_68, zs_95_69, zs_95_70, zs_95_73, zs_95_74, zs_95_77, zs_95_78, zs_95_79, zs_95_80, zs_95_83, zs_95_84, zs_95_87, zs_95_88, zs_95_89, zs_95_92, zs_95_93, zs_95_94, zs_95_96, zs_95_99, zs_95_102, zs_95_104, zs_95_107, zs_95_108, zs_95_109, zs_95_110, zs_95_111, zs_95_114, zs_95_115, zs_95_117, zs_95_119, zs_95_122, zs_95_124, zs_95_127, zs_95_129, zs_95_132, zs_95_133, zs_95_134, zs_95_135, zs_95_137, zs_95_138, zs_95_140, zs_95_142, zs_95_143, zs_95_146, zs_95_147, zs_95_148, zs_95_151, zs_95_153, zs_95_154, zs_95_157, zs_95_158, zs_95_159, zs_95_160, zs_95_162, zs_95_163, zs_95_164, zs_95_166, zs_95_169, zs_95_170, zs_95_173, zs_95_174, zs_95_175, zs_95_177, zs_95_180, zs_95_183, zs_95_184, zs_95_186, zs_95_188, zs_95_189, zs_95_190, zs_95_193, zs_95_196, zs_95_198, zs_95_199, zs_95_200, zs_95_202, zs_95_205, zs_95_207, zs_95_210, zs_95_211, zs_95_214, zs_95_215, zs_95_216, zs_95_218, zs_95_221, zs_95_222, zs_95_224, zs_95_225, zs_95_226, zs_95_227, zs_95_230, zs_95_231, zs_95_234, zs_95_235, zs_95_236, zs_95_238, zs_95_241, zs_95_244, zs_95_246, zs_95_249, zs_95_251, zs_95_254, zs_95_255, zs_95_257, zs_95_259, zs_95_262, zs_95_265, zs_95_267, zs_95_270, zs_95_271, zs_95_140h, zs_95_186h, za_32, za_33, za_34, za_35, za_40, za_43, za_44, za_45, za_49, za_53, zg_31_1, zg_31_10, zg_31_13, zg_31_14, zg_31_15, zg_31_2, zg_31_20, zg_31_24, zg_31_3, zg_31_4, zrc_82, zrc_83, zrc_88, zrc_94, zli_0, zli_s, zlr_0, zlr_s, zls_0, zls_s, z1i_e, z2i_e, z1r_e, zir_e, ziir_e, z1v_e, z2v_e, zone_e, znil_e, zsp_0, zsp_s, zlz_0, zlz_1, zlz_2, zlz_3, zlz_4, zswp_0, zswp_s, true_and, and_true, implies_true, true_or, or_true, Int.reduceEq, Int.reduceLT, Int.reduceLE, Int.reduceNeg, not_true_eq_false, not_false_eq_true, false_implies, true_implies, zr_e, zwr_o, zwr_s, Nat.reduceEqDiff]
    rw [za.1, za.2]
    refine m_parents hB h0 (by omega) ?_
    refine ⟨by omega, by omega, fun a => by omega, fun a => ?_⟩
    refine m_parent hB h0 (by omega) k0 a ?_
    refine ⟨by omega, by omega, fun b => keep (by rw [b]; exact hself), fun b => ?_⟩
    refine m_parent hB h0 (by omega) k0 a ?_
    rw [hbit]
    cases hb : zbt (σ 49 (gPa (bM σ) t k)) u with
    | false =>
      rw [if_neg (by decide)]
      exact ⟨by omega, by omega, by omega, fun z => absurd rfl z, fun z => keep hb⟩
    | true =>
      rw [if_pos rfl]
      refine ⟨by omega, by omega, by omega, fun z => ?_, fun z => by omega⟩
      refine ih (k + 1) 0 (by omega) (by omega) (by omega) (Or.inr ⟨rfl, Or.inr ?_⟩)
      rw [pM, gOr_bit]
      exact ⟨k, k0, by omega, hb⟩
set_option maxRecDepth 100000 in
theorem m_cf1 {t m c n u : Int} (hB : Bd (bM σ)) (h0 : 0 ≤ t) (h1 : t < σ 31 0) (hu : zr u)
    (k1 : ∀ its, ((its = 1 ∧ u ∈ zl (fun j => σ 34 (4 * t + j)) (σ 35 t)) ∨ (its = 0 ∧ u ∉ zl (fun j => σ 34 (4 * t + j)) (σ 35 t))) → zV 95 zF Q 186 [some (.inr 31), some (.inl t), some (.inl m), some (.inl c), some (.inl n), some (.inl u), some (.inl its), some (.inl 0)] [] σ) :
    ∀ (q : Nat) (k its : Int), 0 ≤ k → k ≤ σ 35 t → (σ 35 t - k).toNat = q → ((its = 1 ∧ u ∈ zl (fun j => σ 34 (4 * t + j)) (σ 35 t)) ∨ (its = 0 ∧ u ∉ zl (fun j => σ 34 (4 * t + j)) k)) →
      zV 95 zF Q 140 [some (.inr 31), some (.inl t), some (.inl m), some (.inl c), some (.inl n), some (.inl u), some (.inl its), some (.inl k)] [] σ := by
  have hnn : 1 ≤ σ 31 0 ∧ σ 31 0 ≤ 16 ∧ _ := hB.n
  have hfc : 0 ≤ σ 35 t ∧ σ 35 t ≤ 4 := hB.fc t h0 (by omega)
  simp only [zr] at hu
  intro q
  induction q with
  | zero =>
    intro k its k0 k1' kq hi
    refine zv_95 200 ?_
    simp only [zs_95_0, zs_95_1, zs_95_4, zs_95_5, zs_95_6, zs_95_7, zs_95_8, zs_95_11, zs_95_12, zs_95_13, zs_95_15, zs_95_16, zs_95_19, zs_95_20, zs_95_21, zs_95_23, zs_95_24, zs_95_27, zs_95_28, zs_95_29, zs_95_30, zs_95_33, zs_95_34, zs_95_35, zs_95_38, zs_95_40, zs_95_41, zs_95_42, zs_95_43, zs_95_46, zs_95_47, zs_95_50, zs_95_52, zs_95_53, zs_95_54, zs_95_56, zs_95_57, zs_95_58, zs_95_61, zs_95_63, zs_95_66, zs_95_67, zs_95_68, zs_95_69, zs_95_70, zs_95_73, zs_95_74, zs_95_77, zs_95_78, zs_95_79, zs_95_80, zs_95_83, zs_95_84, zs_95_87, zs_95_88, zs_95_89, zs_95_92, zs_95_93, zs_95_94, zs_95_96, zs_95_99, zs_95_102, zs_95_104, zs_95_107, zs_95_108, zs_95_109, zs_95_110, zs_95_111, zs_95_114, zs_95_115, zs_95_117, zs_95_119, zs_95_122, zs_95_124, zs_95_127, zs_95_129, zs_95_132, zs_95_133, zs_95_134, zs_95_135, zs_95_137, zs_95_138, zs_95_140, zs_95_142, zs_95_143, zs_95_146, zs_95_147, zs_95_148, zs_95_151, zs_95_153, zs_95_154, zs_95_157, zs_95_158, zs_95_159, zs_95_160, zs_95_162, zs_95_163, zs_95_164, zs_95_166, zs_95_169, zs_95_170, zs_95_173, zs_95_174, zs_95_175, zs_95_177, zs_95_180, zs_95_183, zs_95_184, zs_95_186, zs_95_188, zs_95_189, zs_95_190, zs_95_193, zs_95_196, zs_95_198, zs_95_199, zs_95_200, zs_95_202, zs_95_205, zs_95_207, zs_95_210, zs_95_211, zs_95_214, zs_95_215, zs_95_216, zs_95_218, zs_95_221, zs_95_222, zs_95_224, zs_95_225, zs_95_226, zs_95_227, zs_95_230, zs_95_231, zs_95_234, zs_95_235, zs_95_236, zs_95_238, zs_95_241, zs_95_244, zs_95_246, zs_95_249, zs_95_251, zs_95_254, zs_95_255, zs_95_257, zs_95_259, zs_95_262, zs_95_265, zs_95_267, zs_95_270, zs_95_271, zs_95_140h, zs_95_186h, za_32, za_33, za_34, za_35, za_40, za_43, za_44, za_45, za_49, za_53, zg_31_1, zg_31_10, zg_31_13, zg_31_14, zg_31_15, zg_31_2, zg_31_20, zg_31_24, zg_31_3, zg_31_4, zrc_82, zrc_83, zrc_88, zrc_94, zli_0, zli_s, zlr_0, zlr_s, zls_0, zls_s, z1i_e, z2i_e, z1r_e, zir_e, ziir_e, z1v_e, z2v_e, zone_e, znil_e, zsp_0, zsp_s, zlz_0, zlz_1, zlz_2, zlz_3, zlz_4, zswp_0, zswp_s, true_and, and_true, implies_true, true_or, or_true, Int.reduceEq, Int.reduceLT, Int.reduceLE, Int.reduceNeg, not_true_eq_false, not_false_eq_true, false_implies, true_implies, zr_e, zwr_o, zwr_s, Nat.reduceEqDiff]
    refine ⟨h0, by omega, by omega, by omega, fun a => k1 its ?_, fun a => by omega⟩
    rw [show k = σ 35 t by omega] at hi
    exact hi
  | succ q ih =>
    intro k its k0 k1' kq hi
    have hi01 : its = 0 ∨ its = 1 := by omega
    have za := zor01 hi01
    have hj : 0 ≤ σ 34 (4 * t + k) ∧ σ 34 (4 * t + k) ≤ 15 := hB.fj (4 * t + k) (by omega) (by omega)
    refine zv_95 200 ?_
    simp only [zs_95_0, zs_95_1, zs_95_4, zs_95_5, zs_95_6, zs_95_7, zs_95_8, zs_95_11, zs_95_12, zs_95_13, zs_95_15, zs_95_16, zs_95_19, zs_95_20, zs_95_21, zs_95_23, zs_95_24, zs_95_27, zs_95_28, zs_95_29, zs_95_30, zs_95_33, zs_95_34, zs_95_35, zs_95_38, zs_95_40, zs_95_41, zs_95_42, zs_95_43, zs_95_46, zs_95_47, zs_95_50, zs_95_52, zs_95_53, zs_95_54, zs_95_56, zs_95_57, zs_95_58, zs_95_61, zs_95_63, zs_95_66, zs_95_67, zs_95_68, zs_95_69, zs_95_70, zs_95_73, zs_95_74, zs_95_77, zs_95_78, zs_95_79, zs_95_80, zs_95_83, zs_95_84, zs_95_87, zs_95_88, zs_95_89, zs_95_92, zs_95_93, zs_95_94, zs_95_96, zs_95_99, zs_95_102, zs_95_104, zs_95_107, zs_95_108, zs_95_109, zs_95_110, zs_95_111, zs_95_114, zs_95_115, zs_95_117, zs_95_119, zs_95_122, zs_95_124, zs_95_127, zs_95_129, zs_95_132, zs_95_133, zs_95_134, zs_95_135, zs_95_137, zs_95_138, zs_95_140, zs_95_142, zs_95_143, zs_95_146, zs_95_147, zs_95_148, zs_95_151, zs_95_153, zs_95_154, zs_95_157, zs_95_158, zs_95_159, zs_95_160, zs_95_162, zs_95_163, zs_95_164, zs_95_166, zs_95_169, zs_95_170, zs_95_173, zs_95_174, zs_95_175, zs_95_177, zs_95_180, zs_95_183, zs_95_184, zs_95_186, zs_95_188, zs_95_189, zs_95_190, zs_95_193, zs_95_196, zs_95_198, zs_95_199, zs_95_200, zs_95_202, zs_95_205, zs_95_207, zs_95_210, zs_95_211, zs_95_214, zs_95_215, zs_95_216, zs_95_218, zs_95_221, zs_95_222, zs_95_224, zs_95_225, zs_95_226, zs_95_227, zs_95_230, zs_95_231, zs_95_234, zs_95_235, zs_95_236, zs_95_238, zs_95_241, zs_95_244, zs_95_246, zs_95_249, zs_95_251, zs_95_254, zs_95_255, zs_95_257, zs_95_259, zs_95_262, zs_95_265, zs_95_267, zs_95_270, zs_95_271, zs_95_140h, zs_95_186h, za_32, za_33, za_34, za_35, za_40, za_43, za_44, za_45, za_49, za_53, zg_31_1, zg_31_10, zg_31_13, zg_31_14, zg_31_15, zg_31_2, zg_31_20, zg_31_24, zg_31_3, zg_31_4, zrc_82, zrc_83, zrc_88, zrc_94, zli_0, zli_s, zlr_0, zlr_s, zls_0, zls_s, z1i_e, z2i_e, z1r_e, zir_e, ziir_e, z1v_e, z2v_e, zone_e, znil_e, zsp_0, zsp_s, zlz_0, zlz_1, zlz_2, zlz_3, zlz_4, zswp_0, zswp_s, true_and, and_true, implies_true, true_or, or_true, Int.reduceEq, Int.reduceLT, Int.reduceLE, Int.reduceNeg, not_true_eq_false, not_false_eq_true, false_implies, true_implies, zr_e, zwr_o, zwr_s, Nat.reduceEqDiff]
    refine ⟨h0, by omega, by omega, by omega, fun a => by omega, fun a => ⟨by omega, by omega, by omega, by omega, fun b => ?_, fun b => ?_⟩⟩
    · rw [za.1]
      refine ih (k + 1) its (by omega) (by omega) (by omega) ?_
      rcases hi with hi | ⟨i0, i1⟩
      · exact Or.inl hi
      · refine Or.inr ⟨i0, ?_⟩
        rw [zl_s k0, List.mem_append]
        rintro (z | z)
        · exact i1 z
        · exact b (List.mem_singleton.mp z).symm
    · rw [za.2]
      exact ih (k + 1) 1 (by omega) (by omega) (by omega) (Or.inl ⟨rfl, zl_mem.mpr ⟨k, k0, a, b⟩⟩)
set_option maxHeartbeats 8000000 in
set_option maxRecDepth 100000 in
theorem m_callFault {t m : Int} (hB : Bd (bM σ)) (hF : FM σ) (h0 : 0 ≤ t) (h1 : t < σ 31 0) (m0 : 0 ≤ m) (m1 : m < σ 31 7) (hc : ¬ σ 43 m = 0)
    (h : Q (gFc (bM σ) (rM σ) (pM σ) t m) σ) : zM 95 zF [.inr 31, .inl t, .inl m] σ Q := by
  have hnn : 1 ≤ σ 31 0 ∧ σ 31 0 ≤ 16 ∧ 3 ≤ σ 31 7 ∧ σ 31 7 ≤ 60 := hB.n
  have hb := mM (m := m) hB m0 (by omega)
  have hme : _ ∧ _ ∧ _ ∧ _ ∧ _ ∧ _ ∧ _ ∧ _ ∧ 0 ≤ σ 43 m ∧ σ 43 m ≤ 4 ∧ zr (σ 44 m) ∧ zr (σ 45 m) := hB.me m m0 (by omega)
  have hmm : _ ∧ _ ∧ (¬ σ 43 m = 0 → 0 ≤ σ 45 m ∧ σ 45 m ≤ 9) ∧ (σ 43 m = 3 → 0 ≤ σ 44 m ∧ σ 44 m < σ 31 0 ∧ σ 32 (σ 44 m) = 2) ∧ (σ 43 m = 4 → 0 ≤ σ 44 m ∧ σ 44 m < σ 31 0) := hB.mm m m0 m1
  obtain ⟨-, -, c1, c2, c3⟩ := hmm
  have hk := hme.2.2.2.2.2.2.2.2.1
  have hk2 := hme.2.2.2.2.2.2.2.2.2.1
  have hz44 := hme.2.2.2.2.2.2.2.2.2.2.1
  have hks : 0 ≤ σ 32 t ∧ σ 32 t ≤ 2 := hB.kind t h0 (by omega)
  have hsu : 0 ≤ σ 33 t ∧ σ 33 t ≤ 15 ∧ (0 < t → σ 33 t < t) := hB.sup t h0 (by omega)
  have hfc : 0 ≤ σ 35 t ∧ σ 35 t ≤ 4 := hB.fc t h0 (by omega)
  have hp := gPc_le hB h0 (show t < 16 by omega)
  have c1 := c1 hc
  have e : gFc (bM σ) (rM σ) (pM σ) t m = if σ 40 m = 2 ∧ ¬ σ 43 m = 0 ∧ ¬ σ 43 m = 4 then 9
    else if σ 43 m = 1 then (if (rM σ (σ 45 m) t).length = 0 then 10 else 0)
    else if σ 43 m = 2 then (if (t = 0 ∨ σ 32 t = 2) ∨ gRX (bM σ) (rM σ (σ 45 m) (σ 33 t)) 0 (-4) 0 < 0 then 10 else 0)
    else if σ 43 m = 3 then (if σ 44 m ∉ zl (fun j => σ 34 (4 * t + j)) (σ 35 t) ∨ zbt (pM σ t) (σ 44 m) = true then 11 else if gRX (bM σ) (rM σ (σ 45 m) (σ 44 m)) 0 (-4) 0 < 0 then 12 else 0)
    else if σ 43 m = 4 then (if gSt (bM σ) (rM σ (σ 45 m) (σ 44 m)) < 0 then 12 else 0)
    else 0 := rfl
  rw [e] at h
  have hr := (hF.2 (σ 45 m) t c1.1 (by omega) h0 h1).1
  have hlen : ((zl (fun i => σ 52 (16 * (10 * t + σ 45 m) + i)) (σ 53 (10 * t + σ 45 m))).length : Int) = σ 53 (10 * t + σ 45 m) := zl_len hr.1
  have hlen : ((rM σ (σ 45 m) t).length : Int) = σ 53 (10 * t + σ 45 m) := hlen
  have hr1 := hr.1
  have hr2 := hr.2.1
  have kk : ∀ P : Prop, ¬ σ 43 m = 1 → ¬ σ 43 m = 2 → ¬ σ 43 m = 4 → (σ 43 m = 3 → P) → P := fun P a b c d => d (by omega)
  have hz43 : -2147483648 ≤ σ 43 m ∧ σ 43 m < 2147483648 := by omega
  have hz40 : -2147483648 ≤ σ 40 m ∧ σ 40 m < 2147483648 := by omega
  have m60 : m < 60 := by omega
  have t16 : t < 16 := by omega
  have hzt : -2147483648 ≤ t ∧ t < 2147483648 := by omega
  have hz32 : -2147483648 ≤ σ 32 t ∧ σ 32 t < 2147483648 := by omega
  have hx : 0 ≤ 10 * t + σ 45 m ∧ 10 * t + σ 45 m < 160 := by omega
  have hz53 : -2147483648 ≤ σ 53 (10 * t + σ 45 m) ∧ σ 53 (10 * t + σ 45 m) < 2147483648 := by omega
  have k9 : σ 40 m = 2 → σ 43 m < 4 → Q 9 σ := fun a b => by rw [if_pos ⟨a, hc, by omega⟩] at h; exact h
  have kr : ¬ (σ 40 m = 2 ∧ ¬ σ 43 m = 0 ∧ ¬ σ 43 m = 4) →
    ((σ 43 m = 1 → (¬ σ 53 (10 * t + σ 45 m) = 0 → Q 0 σ) ∧ (σ 53 (10 * t + σ 45 m) = 0 → Q 10 σ)) ∧
     (σ 43 m = 2 → (σ 32 t = 2 → Q 10 σ) ∧ (t = 0 → Q 10 σ) ∧ (¬ σ 32 t = 2 → ¬ t = 0 → zM 88 zF [.inr 31, .inl (σ 33 t), .inl (σ 45 m)] σ fun r σ' => (-2147483648 ≤ r ∧ r < 2147483648) ∧ (0 ≤ r → Q 0 σ') ∧ (r < 0 → Q 10 σ'))) ∧
     (σ 43 m = 3 → zV 95 zF Q 140 [some (.inr 31), some (.inl t), some (.inl m), some (.inl (σ 43 m)), some (.inl (σ 45 m)), some (.inl (σ 44 m)), some (.inl 0), some (.inl 0)] [] σ) ∧
     (σ 43 m = 4 → zM 94 zF [.inr 31, .inl (σ 44 m), .inl (σ 45 m)] σ fun r σ' => (-2147483648 ≤ r ∧ r < 2147483648) ∧ (¬ r = -4 → Q 0 σ') ∧ (r = -4 → Q 12 σ'))) := by
    intro a
    rw [if_neg a] at h
    refine ⟨fun b => ?_, fun b => ?_, fun b => ?_, fun b => ?_⟩
    · rw [if_pos b] at h
      by_cases c : (rM σ (σ 45 m) t).length = 0
      · rw [if_pos c] at h
        exact ⟨fun d => by omega, fun d => h⟩
      · rw [if_neg c] at h
        exact ⟨fun d => h, fun d => by omega⟩
    · rw [if_neg (by omega), if_pos b] at h
      refine ⟨fun d => ?_, fun d => ?_, fun d d2 => ?_⟩
      · rw [if_pos (Or.inl (Or.inr d))] at h; exact h
      · rw [if_pos (Or.inl (Or.inl d))] at h; exact h
      · have hr := (hF.2 (σ 45 m) (σ 33 t) c1.1 (by omega) hsu.1 (by omega)).1
        have hz := gRX_r (B := bM σ) (rM σ (σ 45 m) (σ 33 t)) 0 (-4) 0 (rM_60 hB hr) (Or.inl rfl)
        refine m_runsOf hB hsu.1 (by omega) c1.1 (by omega) hr ?_
        refine ⟨by omega, fun z => ?_, fun z => ?_⟩
        · rw [if_neg (by omega)] at h; exact h
        · rw [if_pos (Or.inr z)] at h; exact h
    · rw [if_neg (by omega), if_neg (by omega), if_pos b] at h
      have hc2 := c2 b
      refine m_cf1 hB h0 h1 hz44 ?_ _ 0 0 (by omega) (by omega) rfl (Or.inr ⟨rfl, by rw [zl_0 (by omega)]; simp⟩)
      intro its hi
      refine m_cf2 hB hF h0 h1 c1.1 (by omega) hc2.1 hc2.2.1 (fun z => ?_) (fun z1 z2 => ?_) _ 0 its (by omega) hp.1 rfl ?_
      · rw [if_pos z] at h; exact h
      · rw [if_neg (fun z => by rcases z with z | z; exact z z1; rw [z2] at z; cases z)] at h; exact h
      · rcases hi with ⟨i0, i1⟩ | ⟨i0, i1⟩
        · exact Or.inl ⟨i0, i1, fun j j0 j1 => by omega⟩
        · exact Or.inr ⟨i0, Or.inl i1⟩
    · rw [if_neg (by omega), if_neg (by omega), if_neg (by omega), if_pos b] at h
      have hc3 := c3 b
      have hr := (hF.2 (σ 45 m) (σ 44 m) c1.1 (by omega) hc3.1 hc3.2).1
      have hz := gSt_r (B := bM σ) (rM σ (σ 45 m) (σ 44 m)) (rM_60 hB hr)
      refine m_staticOf hB hc3.1 (by omega) c1.1 (by omega) hr ?_
      rw [gSM_gSt hB c1.1 (by omega) (RM_e hF c1.1 (by omega)) hc3.1 hc3.2]
      by_cases c : gSt (bM σ) (rM σ (σ 45 m) (σ 44 m)) < 0
      · rw [if_pos c] at h
        rw [if_pos c]
        exact ⟨by omega, fun d => absurd rfl d, fun d => h⟩
      · rw [if_neg c] at h
        rw [if_neg c]
        exact ⟨by omega, fun d => h, fun d => by omega⟩
  clear h e
  refine ze_95 200 ?_
  simp only [zs_95_0, zs_95_1, zs_95_4, zs_95_5, zs_95_6, zs_95_7, zs_95_8, zs_95_11, zs_95_12, zs_95_13, zs_95_15, zs_95_16, zs_95_19, zs_95_20, zs_95_21, zs_95_23, zs_95_24, zs_95_27, zs_95_28, zs_95_29, zs_95_30, zs_95_33, zs_95_34, zs_95_35, zs_95_38, zs_95_40, zs_95_41, zs_95_42, zs_95_43, zs_95_46, zs_95_47, zs_95_50, zs_95_52, zs_95_53, zs_95_54, zs_95_56, zs_95_57, zs_95_58, zs_95_61, zs_95_63, zs_95_66, zs_95_67, zs_95_68, zs_95_69, zs_95_70, zs_95_73, zs_95_74, zs_95_77, zs_95_78, zs_95_79, zs_95_80, zs_95_83, zs_95_84, zs_95_87, zs_95_88, zs_95_89, zs_95_92, zs_95_93, zs_95_94, zs_95_96, zs_95_99, zs_95_102, zs_95_104, zs_95_107, zs_95_108, zs_95_109, zs_95_110, zs_95_111, zs_95_114, zs_95_115, zs_95_117, zs_95_119, zs_95_122, zs_95_124, zs_95_127, zs_95_129, zs_95_132, zs_95_133, zs_95_134, zs_95_135, zs_95_137, zs_95_138, zs_95_140, zs_95_142, zs_95_143, zs_95_146, zs_95_147, zs_95_148, zs_95_151, zs_95_153, zs_95_154, zs_95_157, zs_95_158, zs_95_159, zs_95_160, zs_95_162, zs_95_163, zs_95_164, zs_95_166, zs_95_169, zs_95_170, zs_95_173, zs_95_174, zs_95_175, zs_95_177, zs_95_180, zs_95_183, zs_95_184, zs_95_186, zs_95_188, zs_95_189, zs_95_190, zs_95_193, zs_95_196, zs_95_198, zs_95_199, zs_95_200, zs_95_202, zs_95_205, zs_95_207, zs_95_210, zs_95_211, zs_95_214, zs_95_215, zs_95_216, zs_95_218, zs_95_221, zs_95_222, zs_95_224, zs_95_225, zs_95_226, zs_95_227, zs_95_230, zs_95_231, zs_95_234, zs_95_235, zs_95_236, zs_95_238, zs_95_241, zs_95_244, zs_95_246, zs_95_249, zs_95_251, zs_95_254, zs_95_255, zs_95_257, zs_95_259, zs_95_262, zs_95_265, zs_95_267, zs_95_270, zs_95_271, za_32, za_33, za_34, za_35, za_40, za_43, za_44, za_45, za_49, za_53, zg_31_1, zg_31_10, zg_31_13, zg_31_14, zg_31_15, zg_31_2, zg_31_20, zg_31_24, zg_31_3, zg_31_4, zrc_82, zrc_83, zrc_88, zrc_94, zli_0, zli_s, zlr_0, zlr_s, zls_0, zls_s, z1i_e, z2i_e, z1r_e, zir_e, ziir_e, z1v_e, z2v_e, zone_e, znil_e, zsp_0, zsp_s, zlz_0, zlz_1, zlz_2, zlz_3, zlz_4, zswp_0, zswp_s, true_and, and_true, implies_true, true_or, or_true, Int.reduceEq, Int.reduceLT, Int.reduceLE, Int.reduceNeg, not_true_eq_false, not_false_eq_true, false_implies, true_implies, zr_e, zwr_o, zwr_s, Nat.reduceEqDiff]
  refine ⟨m0, m60, m0, m60, m0, m60, m0, m60, hz40, fun a => ?_, fun a => ⟨hz43, fun a2 => ?_, fun a2 => k9 a a2⟩⟩
  · have kr := kr (fun z => a z.1)
    refine ⟨hz43, fun b => ⟨hz43, fun b2 => ⟨hz43, fun b3 => kk _ b b2 b3 kr.2.2.1, kr.2.2.2⟩, fun b2 => ?_⟩, fun b => ?_⟩
    · have kr := kr.2.1 b2
      exact ⟨h0, t16, hz32, kr.1, fun d => ⟨hzt, kr.2.1, fun d2 => ⟨h0, t16, kr.2.2 d d2⟩⟩⟩
    · have kr := kr.1 b
      exact ⟨hx.1, hx.2, hz53, kr.1, kr.2⟩
  · have e4 : σ 43 m = 4 := Int.le_antisymm hk2 a2
    have kr := kr (fun z => z.2.2 e4)
    exact ⟨hz43, fun b => ⟨hz43, fun b2 => ⟨hz43, fun b3 => absurd e4 b3, kr.2.2.2⟩, fun b2 => absurd (e4.symm.trans b2) (by decide)⟩, fun b => absurd (e4.symm.trans b) (by decide)⟩
end M9
