/-! all cells but L, and of the reference's own fields all but Fs, stay -/
def zmm (L : List Nat) (Fs : List Int) (σ σ' : zS) : Prop := (∀ c, c ∉ L → ¬ c = 31 → σ' c = σ c) ∧ ∀ j, j ∉ Fs → σ' 31 j = σ 31 j
theorem zmm_rf {L : List Nat} {Fs : List Int} {σ : zS} : zmm L Fs σ σ := ⟨fun _ _ _ => rfl, fun _ _ => rfl⟩
theorem zmm_wr {L : List Nat} {Fs : List Int} {σ σ' : zS} {k : Nat} {i v : Int} (h : zmm L Fs σ σ') (hk : k ∈ L) (h31 : ¬ k = 31) : zmm L Fs σ (zwr σ' k i v) := by
  refine ⟨fun c hc h3 => ?_, fun j hj => ?_⟩
  · rw [← h.1 c hc h3]
    exact zwr_ne c (fun e => hc (e ▸ hk))
  · rw [zwr_o (fun e => h31 e.symm)]
    exact h.2 j hj
theorem zmm_wf {L : List Nat} {Fs : List Int} {σ σ' : zS} {i v : Int} (h : zmm L Fs σ σ') (hk : i ∈ Fs) : zmm L Fs σ (zwr σ' 31 i v) := by
  refine ⟨fun c hc h3 => ?_, fun j hj => ?_⟩
  · rw [zwr_o h3]
    exact h.1 c hc h3
  · simp only [zwr, true_and]
    rw [if_neg (show ¬ j = i from fun e => hj (e ▸ hk))]
    exact h.2 j hj
theorem zmm_tr {L L' : List Nat} {Fs Fs' : List Int} {σ σ' σ'' : zS} (h : zmm L Fs σ σ') (h2 : zmm L' Fs' σ' σ'') (hL : ∀ c, c ∈ L' → c ∈ L) (hF : ∀ c, c ∈ Fs' → c ∈ Fs) : zmm L Fs σ σ'' :=
  ⟨fun c hc h3 => by rw [h2.1 c (fun e => hc (hL c e)) h3, h.1 c hc h3], fun j hj => by rw [h2.2 j (fun e => hj (hF j e)), h.2 j hj]⟩
theorem bM_mm {σ σ' : zS} {L : List Nat} {Fs : List Int} (h : zmm L Fs σ σ') (hL : ∀ c, c ∈ [32, 33, 34, 35, 36, 37, 38, 40, 41, 42, 43, 44, 45, 46, 47, 48] → c ∉ L) (h0 : (0 : Int) ∉ Fs) (h7 : (7 : Int) ∉ Fs) : bM σ' = bM σ := by
  funext c
  match c with
  | 0 => exact h.1 32 (hL _ (by decide)) (by decide)
  | 1 => exact h.1 33 (hL _ (by decide)) (by decide)
  | 2 => exact h.1 35 (hL _ (by decide)) (by decide)
  | 3 => exact h.1 34 (hL _ (by decide)) (by decide)
  | 4 => exact h.1 36 (hL _ (by decide)) (by decide)
  | 5 => exact h.1 37 (hL _ (by decide)) (by decide)
  | 6 => exact h.1 38 (hL _ (by decide)) (by decide)
  | 7 => exact h.1 40 (hL _ (by decide)) (by decide)
  | 8 => exact h.1 41 (hL _ (by decide)) (by decide)
  | 9 => exact h.1 42 (hL _ (by decide)) (by decide)
  | 10 => exact h.1 43 (hL _ (by decide)) (by decide)
  | 11 => exact h.1 44 (hL _ (by decide)) (by decide)
  | 12 => exact h.1 45 (hL _ (by decide)) (by decide)
  | 13 => exact h.1 46 (hL _ (by decide)) (by decide)
  | 14 => exact h.1 47 (hL _ (by decide)) (by decide)
  | 15 => exact h.1 48 (hL _ (by decide)) (by decide)
  | 16 => funext i; exact h.2 0 h0
  | 17 => funext i; exact h.2 7 h7
  | n + 18 => rfl
def gM (σ : zS) (x : Int) : List Int := zl (fun i => σ 50 (16 * x + i)) (σ 51 x)
def hM (σ : zS) (x : Int) : List Int := zl (fun i => σ 52 (16 * x + i)) (σ 53 x)
theorem mM {σ : zS} {m : Int} (hB : Bd (bM σ)) (h0 : 0 ≤ m) (h1 : m < 60) : (0 ≤ σ 38 m ∧ σ 38 m ≤ 15 ∧ 0 ≤ σ 40 m ∧ σ 40 m ≤ 4) ∧ (0 ≤ σ 32 (σ 38 m) ∧ σ 32 (σ 38 m) ≤ 2) ∧ (0 ≤ σ 41 m ∧ σ 41 m ≤ 3) := by
  have hme : 0 ≤ σ 38 m ∧ σ 38 m ≤ 15 ∧ 0 ≤ σ 40 m ∧ σ 40 m ≤ 4 ∧ 0 ≤ σ 41 m ∧ σ 41 m ≤ 3 ∧ _ := hB.me m h0 h1
  have hk : 0 ≤ σ 32 (σ 38 m) ∧ σ 32 (σ 38 m) ≤ 2 := hB.kind (σ 38 m) (by omega) (by omega)
  omega
section M2
variable {σ : zS} {Q : Int → zS → Prop}
set_option maxRecDepth 100000 in
theorem m_give_loop {x m : Int} (hB : Bd (bM σ)) (x0 : 0 ≤ x) (x1 : x < 160) (m0 : 0 ≤ m) (m1 : m < 60) (c0 : 0 ≤ σ 51 x) (c1 : σ 51 x < 16) (hz : ∀ g, g ∈ gM σ x → 0 ≤ g ∧ g < 60)
    (k1 : gHand (bM σ) m = true → m ∉ gM σ x → Q 0 (zwr (zwr σ 50 (16 * x + σ 51 x) m) 51 x (σ 51 x + 1))) (k0 : gHand (bM σ) m = false ∨ m ∈ gM σ x → Q 0 σ) :
    ∀ (k : Nat) (i gv : Int), 0 ≤ i → i ≤ σ 51 x → (σ 51 x - i).toNat = k → ((gv = 1 ∧ gHand (bM σ) m = true ∧ ∀ j, 0 ≤ j → j < i → ¬ σ 50 (16 * x + j) = m) ∨ (gv = 0 ∧ (gHand (bM σ) m = false ∨ m ∈ gM σ x))) →
      zV 86 zF Q 44 [some (.inr 31), some (.inl x), some (.inl m), some (.inl gv), some (.inl i)] [] σ := by
  intro k
  induction k with
  | zero =>
    intro i gv i0 i1 ik hg
    refine zv_86 200 ?_
    simp only [zs_86_0, zs_86_1, zs_86_4, zs_86_5, zs_86_6, zs_86_7, zs_86_10, zs_86_11, zs_86_14, zs_86_15, zs_86_16, zs_86_17, zs_86_20, zs_86_21, zs_86_24, zs_86_25, zs_86_28, zs_86_29, zs_86_30, zs_86_31, zs_86_32, zs_86_35, zs_86_36, zs_86_39, zs_86_40, zs_86_41, zs_86_42, zs_86_44, zs_86_46, zs_86_47, zs_86_50, zs_86_51, zs_86_52, zs_86_55, zs_86_56, zs_86_57, zs_86_60, zs_86_62, zs_86_63, zs_86_64, zs_86_66, zs_86_67, zs_86_68, zs_86_69, zs_86_72, zs_86_73, zs_86_76, zs_86_77, zs_86_78, zs_86_79, zs_86_82, zs_86_85, zs_86_86, zs_86_89, zs_86_90, zs_86_93, zs_86_95, zs_86_96, zs_86_97, zs_86_98, zs_86_101, zs_86_102, zs_86_103, zs_86_104, zs_86_105, zs_86_106, zs_86_107, zs_86_110, zs_86_111, zs_86_112, zs_86_113, zs_86_114, zs_86_115, zs_86_116, zs_86_44h, za_32, za_38, za_40, za_50, za_51, zg_31_1, zg_31_10, zg_31_21, zg_31_22, zg_31_8, zli_0, zli_s, zlr_0, zlr_s, zls_0, zls_s, z1i_e, z2i_e, z1r_e, zir_e, ziir_e, z1v_e, z2v_e, zone_e, znil_e, zsp_0, zsp_s, zlz_0, zlz_1, zlz_2, zlz_3, zlz_4, zswp_0, zswp_s, true_and, and_true, implies_true, true_or, or_true, Int.reduceEq, Int.reduceLT, Int.reduceLE, Int.reduceNeg, not_true_eq_false, not_false_eq_true, false_implies, true_implies, zr_e, zwr_o, zwr_s, Nat.reduceEqDiff]
    refine ⟨x0, x1, by omega, by omega, fun a => ?_, fun a => by omega⟩
    rcases hg with ⟨rfl, h1, h2⟩ | ⟨rfl, h1⟩
    · refine ⟨by omega, fun b => by omega, fun b => ⟨x0, x1, by omega, by omega, x0, x1, x0, x1, k1 h1 (fun z => ?_)⟩⟩
      obtain ⟨j, j0, j1, e⟩ := zl_mem.mp z
      exact h2 j j0 (by omega) e
    · exact ⟨by omega, fun b => k0 h1, fun b => absurd rfl b⟩
  | succ k ih =>
    intro i gv i0 i1 ik hg
    have hgi := hz (σ 50 (16 * x + i)) (zl_mem.mpr ⟨i, i0, by omega, rfl⟩)
    have hg01 : gv = 0 ∨ gv = 1 := by omega
    have za := zand_b hg01 (show (1 : Int) = 0 ∨ (1 : Int) = 1 from Or.inr rfl)
    have zb := zand_b hg01 (show (0 : Int) = 0 ∨ (0 : Int) = 1 from Or.inl rfl)
    have ea : zand gv 1 = gv := by rw [za]; rcases hg01 with e | e <;> rw [e] <;> rfl
    have eb : zand gv 0 = 0 := by rw [zb]; simp
    refine zv_86 200 ?_
    simp only [zs_86_0, zs_86_1, zs_86_4, zs_86_5, zs_86_6, zs_86_7, zs_86_10, zs_86_11, zs_86_14, zs_86_15, zs_86_16, zs_86_17, zs_86_20, zs_86_21, zs_86_24, zs_86_25, zs_86_28, zs_86_29, zs_86_30, zs_86_31, zs_86_32, zs_86_35, zs_86_36, zs_86_39, zs_86_40, zs_86_41, zs_86_42, zs_86_44, zs_86_46, zs_86_47, zs_86_50, zs_86_51, zs_86_52, zs_86_55, zs_86_56, zs_86_57, zs_86_60, zs_86_62, zs_86_63, zs_86_64, zs_86_66, zs_86_67, zs_86_68, zs_86_69, zs_86_72, zs_86_73, zs_86_76, zs_86_77, zs_86_78, zs_86_79, zs_86_82, zs_86_85, zs_86_86, zs_86_89, zs_86_90, zs_86_93, zs_86_95, zs_86_96, zs_86_97, zs_86_98, zs_86_101, zs_86_102, zs_86_103, zs_86_104, zs_86_105, zs_86_106, zs_86_107, zs_86_110, zs_86_111, zs_86_112, zs_86_113, zs_86_114, zs_86_115, zs_86_116, zs_86_44h, za_32, za_38, za_40, za_50, za_51, zg_31_1, zg_31_10, zg_31_21, zg_31_22, zg_31_8, zli_0, zli_s, zlr_0, zlr_s, zls_0, zls_s, z1i_e, z2i_e, z1r_e, zir_e, ziir_e, z1v_e, z2v_e, zone_e, znil_e, zsp_0, zsp_s, zlz_0, zlz_1, zlz_2, zlz_3, zlz_4, zswp_0, zswp_s, true_and, and_true, implies_true, true_or, or_true, Int.reduceEq, Int.reduceLT, Int.reduceLE, Int.reduceNeg, not_true_eq_false, not_false_eq_true, false_implies, true_implies, zr_e, zwr_o, zwr_s, Nat.reduceEqDiff]
    rw [ea, eb]
    refine ⟨x0, x1, by omega, by omega, fun a => by omega, fun a => ⟨by omega, by omega, by omega, by omega, fun b => ?_, fun b => ?_⟩⟩
    · refine ih (i + 1) 0 (by omega) (by omega) (by omega) (Or.inr ⟨rfl, Or.inr (zl_mem.mpr ⟨i, i0, by omega, b⟩)⟩)
    · refine ih (i + 1) gv (by omega) (by omega) (by omega) ?_
      rcases hg with ⟨h1, h2, h3⟩ | h1
      · refine Or.inl ⟨h1, h2, fun j j0 j1 => ?_⟩
        by_cases e : j = i
        · rw [e]; exact b
        · exact h3 j j0 (by omega)
      · exact Or.inr h1
set_option maxRecDepth 100000 in
theorem m_give {x m : Int} (hB : Bd (bM σ)) (x0 : 0 ≤ x) (x1 : x < 160) (m0 : 0 ≤ m) (m1 : m < 60) (c0 : 0 ≤ σ 51 x) (c1 : σ 51 x < 16) (hz : ∀ g, g ∈ gM σ x → 0 ≤ g ∧ g < 60)
    (k1 : gHand (bM σ) m = true → m ∉ gM σ x → Q 0 (zwr (zwr σ 50 (16 * x + σ 51 x) m) 51 x (σ 51 x + 1))) (k0 : gHand (bM σ) m = false ∨ m ∈ gM σ x → Q 0 σ) : zM 86 zF [.inr 31, .inl x, .inl m] σ Q := by
  have hb := mM hB m0 m1
  have e1 : (¬ σ 40 m = 3 ∧ ¬ (σ 40 m = 2 ∧ σ 32 (σ 38 m) = 2)) → zV 86 zF Q 44 [some (.inr 31), some (.inl x), some (.inl m), some (.inl 1), some (.inl 0)] [] σ := fun a =>
    m_give_loop hB x0 x1 m0 m1 c0 c1 hz k1 k0 _ 0 1 (by omega) c0 rfl (Or.inl ⟨rfl, (by simp only [gHand, bM, Bool.and_eq_true, Bool.not_eq_true', decide_eq_false_iff_not, Bool.and_eq_false_iff]; exact ⟨a.1, by omega⟩), fun j _ _ => by omega⟩)
  have e0 : ¬ (¬ σ 40 m = 3 ∧ ¬ (σ 40 m = 2 ∧ σ 32 (σ 38 m) = 2)) → zV 86 zF Q 44 [some (.inr 31), some (.inl x), some (.inl m), some (.inl 0), some (.inl 0)] [] σ := fun a =>
    m_give_loop hB x0 x1 m0 m1 c0 c1 hz k1 k0 _ 0 0 (by omega) c0 rfl (Or.inr ⟨rfl, Or.inl (by
      cases hb : gHand (bM σ) m with
      | false => rfl
      | true =>
        simp only [gHand, bM, Bool.and_eq_true, Bool.not_eq_true', decide_eq_false_iff_not, Bool.and_eq_false_iff] at hb
        omega)⟩)
  refine ze_86 200 ?_
  simp only [zs_86_0, zs_86_1, zs_86_4, zs_86_5, zs_86_6, zs_86_7, zs_86_10, zs_86_11, zs_86_14, zs_86_15, zs_86_16, zs_86_17, zs_86_20, zs_86_21, zs_86_24, zs_86_25, zs_86_28, zs_86_29, zs_86_30, zs_86_31, zs_86_32, zs_86_35, zs_86_36, zs_86_39, zs_86_40, zs_86_41, zs_86_42, zs_86_44, zs_86_46, zs_86_47, zs_86_50, zs_86_51, zs_86_52, zs_86_55, zs_86_56, zs_86_57, zs_86_60, zs_86_62, zs_86_63, zs_86_64, zs_86_66, zs_86_67, zs_86_68, zs_86_69, zs_86_72, zs_86_73, zs_86_76, zs_86_77, zs_86_78, zs_86_79, zs_86_82, zs_86_85, zs_86_86, zs_86_89, zs_86_90, zs_86_93, zs_86_95, zs_86_96, zs_86_97, zs_86_98, zs_86_101, zs_86_102, zs_86_103, zs_86_104, zs_86_105, zs_86_106, zs_86_107, zs_86_110, zs_86_111, zs_86_112, zs_86_113, zs_86_114, zs_86_115, zs_86_116, za_32, za_38, za_40, za_50, za_51, zg_31_1, zg_31_10, zg_31_21, zg_31_22, zg_31_8, zli_0, zli_s, zlr_0, zlr_s, zls_0, zls_s, z1i_e, z2i_e, z1r_e, zir_e, ziir_e, z1v_e, z2v_e, zone_e, znil_e, zsp_0, zsp_s, zlz_0, zlz_1, zlz_2, zlz_3, zlz_4, zswp_0, zswp_s, true_and, and_true, implies_true, true_or, or_true, Int.reduceEq, Int.reduceLT, Int.reduceLE, Int.reduceNeg, not_true_eq_false, not_false_eq_true, false_implies, true_implies, zr_e, zwr_o, zwr_s, Nat.reduceEqDiff]
  repeat' first | omega | (apply e1; omega) | (apply e0; omega) | apply And.intro | intro _
/-- lost, as the reference finds it -/
def gLM (B : zS) (A : Int → Int) (G : List Int) (m : Int) : Bool := G.any (fun g => !decide (g = m) && ((decide (B 0 (B 6 m) = 2) && gCb B g) || zbt (A (B 6 g)) (B 6 m)))
set_option maxRecDepth 100000 in
theorem m_isLost_loop {x m : Int} (hB : Bd (bM σ)) (x0 : 0 ≤ x) (x1 : x < 160) (m0 : 0 ≤ m) (m1 : m < 60) (c0 : 0 ≤ σ 51 x) (c1 : σ 51 x ≤ 16) (hz : ∀ g, g ∈ gM σ x → 0 ≤ g ∧ g < 60)
    (k1 : gLM (bM σ) (σ 49) (gM σ x) m = true → Q 1 σ) (k0 : gLM (bM σ) (σ 49) (gM σ x) m = false → Q 0 σ) :
    ∀ (k : Nat) (i lo : Int) (l5 l6 : Option zW), 0 ≤ i → i ≤ σ 51 x → (σ 51 x - i).toNat = k → ((lo = 1 ∧ gLM (bM σ) (σ 49) (gM σ x) m = true) ∨ (lo = 0 ∧ ∀ j, 0 ≤ j → j < i → (!decide (σ 50 (16 * x + j) = m) && ((decide (σ 32 (σ 38 m) = 2) && gCb (bM σ) (σ 50 (16 * x + j))) || zbt (σ 49 (σ 38 (σ 50 (16 * x + j)))) (σ 38 m))) = false)) →
      zV 87 zF Q 5 [some (.inr 31), some (.inl x), some (.inl m), some (.inl lo), some (.inl i), l5, l6] [] σ := by
  have hb := mM hB m0 m1
  intro k
  induction k with
  | zero =>
    intro i lo l5 l6 i0 i1 ik hl
    refine zv_87 200 ?_
    simp only [zs_87_0, zs_87_1, zs_87_2, zs_87_3, zs_87_5, zs_87_7, zs_87_8, zs_87_11, zs_87_12, zs_87_13, zs_87_16, zs_87_17, zs_87_20, zs_87_22, zs_87_23, zs_87_24, zs_87_26, zs_87_27, zs_87_28, zs_87_30, zs_87_31, zs_87_34, zs_87_35, zs_87_38, zs_87_40, zs_87_41, zs_87_42, zs_87_43, zs_87_46, zs_87_47, zs_87_50, zs_87_52, zs_87_53, zs_87_54, zs_87_57, zs_87_58, zs_87_61, zs_87_63, zs_87_64, zs_87_65, zs_87_68, zs_87_69, zs_87_72, zs_87_73, zs_87_75, zs_87_76, zs_87_78, zs_87_79, zs_87_82, zs_87_83, zs_87_86, zs_87_87, zs_87_90, zs_87_91, zs_87_92, zs_87_93, zs_87_94, zs_87_97, zs_87_99, zs_87_102, zs_87_103, zs_87_106, zs_87_107, zs_87_110, zs_87_112, zs_87_113, zs_87_114, zs_87_115, zs_87_118, zs_87_119, zs_87_120, zs_87_121, zs_87_122, zs_87_123, zs_87_124, zs_87_127, zs_87_128, zs_87_131, zs_87_132, zs_87_133, zs_87_134, zs_87_137, zs_87_140, zs_87_141, zs_87_5h, za_32, za_38, za_40, za_49, za_50, za_51, zg_31_1, zg_31_10, zg_31_20, zg_31_21, zg_31_22, zg_31_8, zli_0, zli_s, zlr_0, zlr_s, zls_0, zls_s, z1i_e, z2i_e, z1r_e, zir_e, ziir_e, z1v_e, z2v_e, zone_e, znil_e, zsp_0, zsp_s, zlz_0, zlz_1, zlz_2, zlz_3, zlz_4, zswp_0, zswp_s, true_and, and_true, implies_true, true_or, or_true, Int.reduceEq, Int.reduceLT, Int.reduceLE, Int.reduceNeg, not_true_eq_false, not_false_eq_true, false_implies, true_implies, zr_e, zwr_o, zwr_s, Nat.reduceEqDiff]
    refine ⟨x0, x1, by omega, by omega, fun a => ?_, fun a => by omega⟩
    rcases hl with ⟨rfl, h⟩ | ⟨rfl, h⟩
    · exact ⟨by omega, k1 h⟩
    · refine ⟨by omega, k0 ?_⟩
      unfold gLM
      rw [List.any_eq_false]
      intro g hg
      obtain ⟨j, j0, j1, rfl⟩ := zl_mem.mp hg
      have := h j j0 (by omega)
      exact fun z => by rw [show (!decide (σ 50 (16 * x + j) = m) && ((decide (bM σ 0 (bM σ 6 m) = 2) && gCb (bM σ) (σ 50 (16 * x + j))) || zbt (σ 49 (bM σ 6 (σ 50 (16 * x + j)))) (bM σ 6 m))) = false from this] at z; cases z
  | succ k ih =>
    intro i lo l5 l6 i0 i1 ik hl
    have hgi := hz (σ 50 (16 * x + i)) (zl_mem.mpr ⟨i, i0, by omega, rfl⟩)
    have hin : σ 50 (16 * x + i) ∈ gM σ x := zl_mem.mpr ⟨i, i0, by omega, rfl⟩
    have hgb := mM hB hgi.1 hgi.2
    have hl01 : lo = 0 ∨ lo = 1 := by omega
    have z1 := zor01 hl01
    have hbit := zand_shr (a := σ 49 (σ 38 (σ 50 (16 * x + i)))) (u := σ 38 m) (by omega) (by omega)
    have hcb : gCb (bM σ) (σ 50 (16 * x + i)) = ((decide (σ 40 (σ 50 (16 * x + i)) = 1) || decide (σ 40 (σ 50 (16 * x + i)) = 4)) && !decide (σ 32 (σ 38 (σ 50 (16 * x + i))) = 2)) := rfl
    have yes : (!decide (σ 50 (16 * x + i) = m) && ((decide (σ 32 (σ 38 m) = 2) && gCb (bM σ) (σ 50 (16 * x + i))) || zbt (σ 49 (σ 38 (σ 50 (16 * x + i)))) (σ 38 m))) = true → ∀ l5 l6, zV 87 zF Q 5 [some (.inr 31), some (.inl x), some (.inl m), some (.inl 1), some (.inl (i + 1)), l5, l6] [] σ := by
      intro a l5 l6
      refine ih (i + 1) 1 l5 l6 (by omega) (by omega) (by omega) (Or.inl ⟨rfl, ?_⟩)
      unfold gLM
      rw [List.any_eq_true]
      exact ⟨_, hin, a⟩
    have no : (!decide (σ 50 (16 * x + i) = m) && ((decide (σ 32 (σ 38 m) = 2) && gCb (bM σ) (σ 50 (16 * x + i))) || zbt (σ 49 (σ 38 (σ 50 (16 * x + i)))) (σ 38 m))) = false → ∀ l5 l6, zV 87 zF Q 5 [some (.inr 31), some (.inl x), some (.inl m), some (.inl lo), some (.inl (i + 1)), l5, l6] [] σ := by
      intro a l5 l6
      refine ih (i + 1) lo l5 l6 (by omega) (by omega) (by omega) ?_
      rcases hl with h | ⟨h1, h2⟩
      · exact Or.inl h
      · refine Or.inr ⟨h1, fun j j0 j1 => ?_⟩
        by_cases e : j = i
        · rw [e]; exact a
        · exact h2 j j0 (by omega)
    rw [hcb] at yes no
    generalize hg : σ 50 (16 * x + i) = g at *
    obtain ⟨v, hv, hv2⟩ : ∃ v : Int, (if zbt (σ 49 (σ 38 g)) (σ 38 m) = true then (1 : Int) else 0) = v ∧ ((v = 1 ∧ zbt (σ 49 (σ 38 g)) (σ 38 m) = true) ∨ (v = 0 ∧ zbt (σ 49 (σ 38 g)) (σ 38 m) = false)) := by
      refine ⟨_, rfl, ?_⟩
      cases h : zbt (σ 49 (σ 38 g)) (σ 38 m)
      · exact Or.inr ⟨by simp, rfl⟩
      · exact Or.inl ⟨by simp, rfl⟩
    have yes2 : (¬ g = m ∧ ((σ 32 (σ 38 m) = 2 ∧ (σ 40 g = 1 ∨ σ 40 g = 4) ∧ ¬ σ 32 (σ 38 g) = 2) ∨ v = 1)) → ∀ l5 l6, zV 87 zF Q 5 [some (.inr 31), some (.inl x), some (.inl m), some (.inl 1), some (.inl (i + 1)), l5, l6] [] σ := by
      intro a
      refine yes ?_
      simp only [Bool.and_eq_true, Bool.or_eq_true, Bool.not_eq_true', decide_eq_true_eq, decide_eq_false_iff_not]
      rcases hv2 with ⟨_, h⟩ | ⟨h', _⟩
      · exact ⟨a.1, Or.inr h⟩
      · refine ⟨a.1, Or.inl ?_⟩
        rcases a.2 with b | b
        · exact b
        · omega
    have no2 : ¬ (¬ g = m ∧ ((σ 32 (σ 38 m) = 2 ∧ (σ 40 g = 1 ∨ σ 40 g = 4) ∧ ¬ σ 32 (σ 38 g) = 2) ∨ v = 1)) → ∀ l5 l6, zV 87 zF Q 5 [some (.inr 31), some (.inl x), some (.inl m), some (.inl lo), some (.inl (i + 1)), l5, l6] [] σ := by
      intro a
      refine no ?_
      cases hq : (!decide (g = m) && (decide (σ 32 (σ 38 m) = 2) && ((decide (σ 40 g = 1) || decide (σ 40 g = 4)) && !decide (σ 32 (σ 38 g) = 2)) || zbt (σ 49 (σ 38 g)) (σ 38 m))) with
      | false => rfl
      | true =>
        simp only [Bool.and_eq_true, Bool.or_eq_true, Bool.not_eq_true', decide_eq_true_eq, decide_eq_false_iff_not] at hq
        exfalso
        apply a
        refine ⟨hq.1, ?_⟩
        rcases hq.2 with b | b
        · exact Or.inl b
        · rcases hv2 with ⟨h, _⟩ | ⟨_, h⟩
          · exact Or.inr h
          · rw [h] at b; cases b
    clear yes no hcb hl ih hz k1 k0
    refine zv_87 200 ?_
    simp only [zs_87_0, zs_87_1, zs_87_2, zs_87_3, zs_87_5, zs_87_7, zs_87_8, zs_87_11, zs_87_12, zs_87_13, zs_87_16, zs_87_17, zs_87_20, zs_87_22, zs_87_23, zs_87_24, zs_87_26, zs_87_27, zs_87_28, zs_87_30, zs_87_31, zs_87_34, zs_87_35, zs_87_38, zs_87_40, zs_87_41, zs_87_42, zs_87_43, zs_87_46, zs_87_47, zs_87_50, zs_87_52, zs_87_53, zs_87_54, zs_87_57, zs_87_58, zs_87_61, zs_87_63, zs_87_64, zs_87_65, zs_87_68, zs_87_69, zs_87_72, zs_87_73, zs_87_75, zs_87_76, zs_87_78, zs_87_79, zs_87_82, zs_87_83, zs_87_86, zs_87_87, zs_87_90, zs_87_91, zs_87_92, zs_87_93, zs_87_94, zs_87_97, zs_87_99, zs_87_102, zs_87_103, zs_87_106, zs_87_107, zs_87_110, zs_87_112, zs_87_113, zs_87_114, zs_87_115, zs_87_118, zs_87_119, zs_87_120, zs_87_121, zs_87_122, zs_87_123, zs_87_124, zs_87_127, zs_87_128, zs_87_131, zs_87_132, zs_87_133, zs_87_134, zs_87_137, zs_87_140, zs_87_141, zs_87_5h, za_32, za_38, za_40, za_49, za_50, za_51, zg_31_1, zg_31_10, zg_31_20, zg_31_21, zg_31_22, zg_31_8, zli_0, zli_s, zlr_0, zlr_s, zls_0, zls_s, z1i_e, z2i_e, z1r_e, zir_e, ziir_e, z1v_e, z2v_e, zone_e, znil_e, zsp_0, zsp_s, zlz_0, zlz_1, zlz_2, zlz_3, zlz_4, zswp_0, zswp_s, true_and, and_true, implies_true, true_or, or_true, Int.reduceEq, Int.reduceLT, Int.reduceLE, Int.reduceNeg, not_true_eq_false, not_false_eq_true, false_implies, true_implies, zr_e, zwr_o, zwr_s, Nat.reduceEqDiff]
    rw [z1.1, z1.2, hg, hbit, hv]
    have hv01 : v = 0 ∨ v = 1 := by omega
    repeat' first | omega | (apply yes2; omega) | (apply no2; omega) | apply And.intro | intro _
set_option maxRecDepth 100000 in
theorem m_isLost {x m : Int} (hB : Bd (bM σ)) (x0 : 0 ≤ x) (x1 : x < 160) (m0 : 0 ≤ m) (m1 : m < 60) (c0 : 0 ≤ σ 51 x) (c1 : σ 51 x ≤ 16) (hz : ∀ g, g ∈ gM σ x → 0 ≤ g ∧ g < 60)
    (k1 : gLM (bM σ) (σ 49) (gM σ x) m = true → Q 1 σ) (k0 : gLM (bM σ) (σ 49) (gM σ x) m = false → Q 0 σ) : zM 87 zF [.inr 31, .inl x, .inl m] σ Q := by
  refine ze_87 200 ?_
  simp only [zs_87_0, zs_87_1, zs_87_2, zs_87_3, zs_87_5, zs_87_7, zs_87_8, zs_87_11, zs_87_12, zs_87_13, zs_87_16, zs_87_17, zs_87_20, zs_87_22, zs_87_23, zs_87_24, zs_87_26, zs_87_27, zs_87_28, zs_87_30, zs_87_31, zs_87_34, zs_87_35, zs_87_38, zs_87_40, zs_87_41, zs_87_42, zs_87_43, zs_87_46, zs_87_47, zs_87_50, zs_87_52, zs_87_53, zs_87_54, zs_87_57, zs_87_58, zs_87_61, zs_87_63, zs_87_64, zs_87_65, zs_87_68, zs_87_69, zs_87_72, zs_87_73, zs_87_75, zs_87_76, zs_87_78, zs_87_79, zs_87_82, zs_87_83, zs_87_86, zs_87_87, zs_87_90, zs_87_91, zs_87_92, zs_87_93, zs_87_94, zs_87_97, zs_87_99, zs_87_102, zs_87_103, zs_87_106, zs_87_107, zs_87_110, zs_87_112, zs_87_113, zs_87_114, zs_87_115, zs_87_118, zs_87_119, zs_87_120, zs_87_121, zs_87_122, zs_87_123, zs_87_124, zs_87_127, zs_87_128, zs_87_131, zs_87_132, zs_87_133, zs_87_134, zs_87_137, zs_87_140, zs_87_141, za_32, za_38, za_40, za_49, za_50, za_51, zg_31_1, zg_31_10, zg_31_20, zg_31_21, zg_31_22, zg_31_8, zli_0, zli_s, zlr_0, zlr_s, zls_0, zls_s, z1i_e, z2i_e, z1r_e, zir_e, ziir_e, z1v_e, z2v_e, zone_e, znil_e, zsp_0, zsp_s, zlz_0, zlz_1, zlz_2, zlz_3, zlz_4, zswp_0, zswp_s, true_and, and_true, implies_true, true_or, or_true, Int.reduceEq, Int.reduceLT, Int.reduceLE, Int.reduceNeg, not_true_eq_false, not_false_eq_true, false_implies, true_implies, zr_e, zwr_o, zwr_s, Nat.reduceEqDiff]
  exact m_isLost_loop hB x0 x1 m0 m1 c0 c1 hz k1 k0 _ 0 0 _ _ (by omega) c0 rfl (Or.inr ⟨rfl, fun j _ _ => by omega⟩)
end M2
