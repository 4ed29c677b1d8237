section M6
variable {σ : zS} {Q : Int → zS → Prop}
theorem gSa_split {B : zS} {m : Int} : ∀ (l1 l2 : List Int), gSa B m (l1 ++ l2) = (gSa B m l1 && gSa B m l2)
  | [], l2 => by simp [gSa]
  | a :: l1, l2 => by
    simp only [List.cons_append, gSa]
    split
    · exact gSa_split l1 l2
    · rfl
set_option maxRecDepth 100000 in
theorem m_server_in {t n i m : Int} (hB : Bd (bM σ)) (x0 : 0 ≤ 10 * t + n) (x1 : 10 * t + n < 160) (hr : mOK σ n t) (i0 : 0 ≤ i) (i1 : i < σ 53 (10 * t + n)) (em : σ 52 (16 * (10 * t + n) + i) = m)
    (k1 : gSa (bM σ) m (rM σ n t) = true → Q m σ) (k0 : gSa (bM σ) m (rM σ n t) = false → ∀ l3 l4, zV 90 zF Q 2 [some (.inr 31), some (.inl (10 * t + n)), some (.inl (i + 1)), l3, l4] [] σ) :
    ∀ (c : Nat) (k al : Int), 0 ≤ k → k ≤ σ 53 (10 * t + n) → (σ 53 (10 * t + n) - k).toNat = c → ((al = 1 ∧ gSa (bM σ) m (zl (fun i => σ 52 (16 * (10 * t + n) + i)) k) = true) ∨ (al = 0 ∧ gSa (bM σ) m (zl (fun i => σ 52 (16 * (10 * t + n) + i)) k) = false)) →
      zV 90 zF Q 17 [some (.inr 31), some (.inl (10 * t + n)), some (.inl i), some (.inl al), some (.inl k)] [] σ := by
  have hc := hr.1
  have hc2 := hr.2.1
  have hm := mOK_m hB hr i0 i1
  rw [em] at hm
  have hmb := mM hB hm.1 hm.2.2
  intro c
  induction c with
  | zero =>
    intro k al k0' k1' kc hal
    have e : k = σ 53 (10 * t + n) := by omega
    rw [e] at hal
    refine zv_90 200 ?_
    simp only [zs_90_0, zs_90_1, zs_90_2, zs_90_3, zs_90_4, zs_90_7, zs_90_8, zs_90_9, zs_90_12, zs_90_13, zs_90_14, zs_90_15, zs_90_17, zs_90_19, zs_90_20, zs_90_23, zs_90_24, zs_90_25, zs_90_28, zs_90_29, zs_90_30, zs_90_33, zs_90_34, zs_90_37, zs_90_39, zs_90_40, zs_90_41, zs_90_42, zs_90_43, zs_90_44, zs_90_45, zs_90_46, zs_90_49, zs_90_50, zs_90_53, zs_90_55, zs_90_56, zs_90_57, zs_90_59, zs_90_60, zs_90_61, zs_90_62, zs_90_65, zs_90_66, zs_90_67, zs_90_70, zs_90_73, zs_90_74, zs_90_77, zs_90_78, zs_90_81, zs_90_83, zs_90_84, zs_90_85, zs_90_86, zs_90_87, zs_90_88, zs_90_89, zs_90_92, zs_90_95, zs_90_97, zs_90_2h, zs_90_17h, za_41, za_52, za_53, zg_31_11, zg_31_23, zg_31_24, zli_0, zli_s, zlr_0, zlr_s, zls_0, zls_s, z1i_e, z2i_e, z1r_e, zir_e, ziir_e, z1v_e, z2v_e, zone_e, znil_e, zsp_0, zsp_s, zlz_0, zlz_1, zlz_2, zlz_3, zlz_4, zswp_0, zswp_s, true_and, and_true, implies_true, true_or, or_true, Int.reduceEq, Int.reduceLT, Int.reduceLE, Int.reduceNeg, not_true_eq_false, not_false_eq_true, false_implies, true_implies, zr_e, zwr_o, zwr_s, Nat.reduceEqDiff]
    refine ⟨x0, x1, by omega, by omega, fun a => ?_, fun a => by omega⟩
    rcases hal with ⟨rfl, h⟩ | ⟨rfl, h⟩
    · refine ⟨by omega, fun b => by omega, fun b => ⟨by omega, by omega, ?_⟩⟩
      rw [em]
      exact k1 h
    · exact ⟨by omega, fun b => k0 h _ _, fun b => absurd rfl b⟩
  | succ c ih =>
    intro k al k0' k1' kc hal
    have ho := mOK_m hB hr k0' (by omega)
    have hob := mM hB ho.1 ho.2.2
    have hal01 : al = 0 ∨ al = 1 := by omega
    have za := zand_b hal01 (show (1 : Int) = 0 ∨ (1 : Int) = 1 from Or.inr rfl)
    have zb := zand_b hal01 (show (0 : Int) = 0 ∨ (0 : Int) = 1 from Or.inl rfl)
    have ea : zand al 1 = al := by rw [za]; rcases hal01 with e | e <;> rw [e] <;> rfl
    have eb : zand al 0 = 0 := by rw [zb]; simp
    have hs : ∀ b, gSa (bM σ) m [σ 52 (16 * (10 * t + n) + k)] = b → gSa (bM σ) m (zl (fun i => σ 52 (16 * (10 * t + n) + i)) (k + 1)) = (gSa (bM σ) m (zl (fun i => σ 52 (16 * (10 * t + n) + i)) k) && b) := fun b hb => by rw [zl_s k0', gSa_split, hb]
    refine zv_90 200 ?_
    simp only [zs_90_0, zs_90_1, zs_90_2, zs_90_3, zs_90_4, zs_90_7, zs_90_8, zs_90_9, zs_90_12, zs_90_13, zs_90_14, zs_90_15, zs_90_17, zs_90_19, zs_90_20, zs_90_23, zs_90_24, zs_90_25, zs_90_28, zs_90_29, zs_90_30, zs_90_33, zs_90_34, zs_90_37, zs_90_39, zs_90_40, zs_90_41, zs_90_42, zs_90_43, zs_90_44, zs_90_45, zs_90_46, zs_90_49, zs_90_50, zs_90_53, zs_90_55, zs_90_56, zs_90_57, zs_90_59, zs_90_60, zs_90_61, zs_90_62, zs_90_65, zs_90_66, zs_90_67, zs_90_70, zs_90_73, zs_90_74, zs_90_77, zs_90_78, zs_90_81, zs_90_83, zs_90_84, zs_90_85, zs_90_86, zs_90_87, zs_90_88, zs_90_89, zs_90_92, zs_90_95, zs_90_97, zs_90_2h, zs_90_17h, za_41, za_52, za_53, zg_31_11, zg_31_23, zg_31_24, zli_0, zli_s, zlr_0, zlr_s, zls_0, zls_s, z1i_e, z2i_e, z1r_e, zir_e, ziir_e, z1v_e, z2v_e, zone_e, znil_e, zsp_0, zsp_s, zlz_0, zlz_1, zlz_2, zlz_3, zlz_4, zswp_0, zswp_s, true_and, and_true, implies_true, true_or, or_true, Int.reduceEq, Int.reduceLT, Int.reduceLE, Int.reduceNeg, not_true_eq_false, not_false_eq_true, false_implies, true_implies, zr_e, zwr_o, zwr_s, Nat.reduceEqDiff]
    rw [em]
    refine ⟨x0, x1, by omega, by omega, fun a => by omega, fun a => ⟨by omega, by omega, by omega, by omega, by omega, by omega, by omega, by omega, ?_⟩⟩
    refine m_serves ⟨by omega, by omega⟩ ⟨by omega, by omega⟩ (fun d => ?_) (fun d => ?_)
    · rw [ea]
      have h1 : gSa (bM σ) m [σ 52 (16 * (10 * t + n) + k)] = true := by
        simp only [gSa]
        exact if_pos d
      refine ih (k + 1) al (by omega) (by omega) (by omega) ?_
      rw [hs _ h1, Bool.and_true]
      exact hal
    · rw [eb]
      have h1 : gSa (bM σ) m [σ 52 (16 * (10 * t + n) + k)] = false := by
        simp only [gSa]
        exact if_neg d
      refine ih (k + 1) 0 (by omega) (by omega) (by omega) (Or.inr ⟨rfl, ?_⟩)
      rw [hs _ h1, Bool.and_false]
set_option maxRecDepth 100000 in
theorem m_server_out {t n : Int} (hB : Bd (bM σ)) (x0 : 0 ≤ 10 * t + n) (x1 : 10 * t + n < 160) (hr : mOK σ n t) :
    ∀ (c : Nat) (i : Int) (l3 l4 : Option zW), 0 ≤ i → i ≤ σ 53 (10 * t + n) → (σ 53 (10 * t + n) - i).toNat = c → Q (gFs (bM σ) (rM σ n t) (zd (fun i => σ 52 (16 * (10 * t + n) + i)) i c)) σ →
      zV 90 zF Q 2 [some (.inr 31), some (.inl (10 * t + n)), some (.inl i), l3, l4] [] σ := by
  have hc := hr.1
  have hc2 := hr.2.1
  intro c
  induction c with
  | zero =>
    intro i l3 l4 i0 i1 ic hQ
    refine zv_90 200 ?_
    simp only [zs_90_0, zs_90_1, zs_90_2, zs_90_3, zs_90_4, zs_90_7, zs_90_8, zs_90_9, zs_90_12, zs_90_13, zs_90_14, zs_90_15, zs_90_17, zs_90_19, zs_90_20, zs_90_23, zs_90_24, zs_90_25, zs_90_28, zs_90_29, zs_90_30, zs_90_33, zs_90_34, zs_90_37, zs_90_39, zs_90_40, zs_90_41, zs_90_42, zs_90_43, zs_90_44, zs_90_45, zs_90_46, zs_90_49, zs_90_50, zs_90_53, zs_90_55, zs_90_56, zs_90_57, zs_90_59, zs_90_60, zs_90_61, zs_90_62, zs_90_65, zs_90_66, zs_90_67, zs_90_70, zs_90_73, zs_90_74, zs_90_77, zs_90_78, zs_90_81, zs_90_83, zs_90_84, zs_90_85, zs_90_86, zs_90_87, zs_90_88, zs_90_89, zs_90_92, zs_90_95, zs_90_97, zs_90_2h, zs_90_17h, za_41, za_52, za_53, zg_31_11, zg_31_23, zg_31_24, zli_0, zli_s, zlr_0, zlr_s, zls_0, zls_s, z1i_e, z2i_e, z1r_e, zir_e, ziir_e, z1v_e, z2v_e, zone_e, znil_e, zsp_0, zsp_s, zlz_0, zlz_1, zlz_2, zlz_3, zlz_4, zswp_0, zswp_s, true_and, and_true, implies_true, true_or, or_true, Int.reduceEq, Int.reduceLT, Int.reduceLE, Int.reduceNeg, not_true_eq_false, not_false_eq_true, false_implies, true_implies, zr_e, zwr_o, zwr_s, Nat.reduceEqDiff]
    exact ⟨x0, x1, by omega, by omega, fun a => hQ, fun a => by omega⟩
  | succ c ih =>
    intro i l3 l4 i0 i1 ic hQ
    simp only [zd, gFs] at hQ
    refine zv_90 200 ?_
    simp only [zs_90_0, zs_90_1, zs_90_2, zs_90_3, zs_90_4, zs_90_7, zs_90_8, zs_90_9, zs_90_12, zs_90_13, zs_90_14, zs_90_15, zs_90_17, zs_90_19, zs_90_20, zs_90_23, zs_90_24, zs_90_25, zs_90_28, zs_90_29, zs_90_30, zs_90_33, zs_90_34, zs_90_37, zs_90_39, zs_90_40, zs_90_41, zs_90_42, zs_90_43, zs_90_44, zs_90_45, zs_90_46, zs_90_49, zs_90_50, zs_90_53, zs_90_55, zs_90_56, zs_90_57, zs_90_59, zs_90_60, zs_90_61, zs_90_62, zs_90_65, zs_90_66, zs_90_67, zs_90_70, zs_90_73, zs_90_74, zs_90_77, zs_90_78, zs_90_81, zs_90_83, zs_90_84, zs_90_85, zs_90_86, zs_90_87, zs_90_88, zs_90_89, zs_90_92, zs_90_95, zs_90_97, zs_90_2h, zs_90_17h, za_41, za_52, za_53, zg_31_11, zg_31_23, zg_31_24, zli_0, zli_s, zlr_0, zlr_s, zls_0, zls_s, z1i_e, z2i_e, z1r_e, zir_e, ziir_e, z1v_e, z2v_e, zone_e, znil_e, zsp_0, zsp_s, zlz_0, zlz_1, zlz_2, zlz_3, zlz_4, zswp_0, zswp_s, true_and, and_true, implies_true, true_or, or_true, Int.reduceEq, Int.reduceLT, Int.reduceLE, Int.reduceNeg, not_true_eq_false, not_false_eq_true, false_implies, true_implies, zr_e, zwr_o, zwr_s, Nat.reduceEqDiff]
    refine ⟨x0, x1, by omega, by omega, fun a => by omega, fun a => ?_⟩
    refine m_server_in hB x0 x1 hr i0 a rfl (fun b => ?_) (fun b => ?_) _ 0 1 (by omega) hc rfl (Or.inl ⟨rfl, by rw [zl_0 (by omega)]; rfl⟩)
    · rw [if_pos b] at hQ
      exact hQ
    · rw [if_neg (by rw [b]; decide)] at hQ
      exact fun l3 l4 => ih (i + 1) l3 l4 (by omega) (by omega) (by omega) hQ
set_option maxRecDepth 100000 in
theorem m_server {t n : Int} (hB : Bd (bM σ)) (h0 : 0 ≤ t) (h1 : t < 16) (h2 : 0 ≤ n) (h3 : n < 10) (hr : mOK σ n t) (h : Q (gFs (bM σ) (rM σ n t) (rM σ n t)) σ) : zM 90 zF [.inr 31, .inl (10 * t + n)] σ Q := by
  refine ze_90 200 ?_
  simp only [zs_90_0, zs_90_1, zs_90_2, zs_90_3, zs_90_4, zs_90_7, zs_90_8, zs_90_9, zs_90_12, zs_90_13, zs_90_14, zs_90_15, zs_90_17, zs_90_19, zs_90_20, zs_90_23, zs_90_24, zs_90_25, zs_90_28, zs_90_29, zs_90_30, zs_90_33, zs_90_34, zs_90_37, zs_90_39, zs_90_40, zs_90_41, zs_90_42, zs_90_43, zs_90_44, zs_90_45, zs_90_46, zs_90_49, zs_90_50, zs_90_53, zs_90_55, zs_90_56, zs_90_57, zs_90_59, zs_90_60, zs_90_61, zs_90_62, zs_90_65, zs_90_66, zs_90_67, zs_90_70, zs_90_73, zs_90_74, zs_90_77, zs_90_78, zs_90_81, zs_90_83, zs_90_84, zs_90_85, zs_90_86, zs_90_87, zs_90_88, zs_90_89, zs_90_92, zs_90_95, zs_90_97, za_41, za_52, za_53, zg_31_11, zg_31_23, zg_31_24, zli_0, zli_s, zlr_0, zlr_s, zls_0, zls_s, z1i_e, z2i_e, z1r_e, zir_e, ziir_e, z1v_e, z2v_e, zone_e, znil_e, zsp_0, zsp_s, zlz_0, zlz_1, zlz_2, zlz_3, zlz_4, zswp_0, zswp_s, true_and, and_true, implies_true, true_or, or_true, Int.reduceEq, Int.reduceLT, Int.reduceLE, Int.reduceNeg, not_true_eq_false, not_false_eq_true, false_implies, true_implies, zr_e, zwr_o, zwr_s, Nat.reduceEqDiff]
  refine m_server_out hB (by omega) (by omega) hr _ 0 _ _ (by omega) hr.1 rfl ?_
  rw [Int.sub_zero, ← zl_zd]
  exact h
/-- a static one, as the reference finds it -/
def gSM (B : zS) (l : List Int) (s n : Int) : Int := if ¬ B 13 (10 * s + n) = -4 ∧ B 7 (B 13 (10 * s + n)) = 2 then B 13 (10 * s + n) else if B 0 s = 2 then -4 else if gSt B l < 0 then -4 else gSt B l
set_option maxRecDepth 100000 in
theorem m_static_loop {s n : Int} {l3 : Option zW} (hB : Bd (bM σ)) (h0 : 0 ≤ s) (h1 : s < 16) (x0 : 0 ≤ 10 * s + n) (x1 : 10 * s + n < 160) (hr : mOK σ n s) (hk : ¬ σ 32 s = 2) :
    ∀ (c : Nat) (i : Int), 0 ≤ i → i ≤ σ 53 (10 * s + n) → (σ 53 (10 * s + n) - i).toNat = c → Q (if gSt (bM σ) (zd (fun i => σ 52 (16 * (10 * s + n) + i)) i c) < 0 then -4 else gSt (bM σ) (zd (fun i => σ 52 (16 * (10 * s + n) + i)) i c)) σ →
      zV 94 zF Q 41 [some (.inr 31), some (.inl s), some (.inl n), l3, some (.inl (10 * s + n)), some (.inl i)] [] σ := by
  have hc := hr.1
  have hc2 := hr.2.1
  have hks : 0 ≤ σ 32 s ∧ σ 32 s ≤ 2 := hB.kind s h0 h1
  intro c
  induction c with
  | zero =>
    intro i i0 i1 ic hQ
    simp only [zd, gSt] at hQ
    refine zv_94 200 ?_
    simp only [zs_94_0, zs_94_1, zs_94_4, zs_94_6, zs_94_7, zs_94_8, zs_94_9, zs_94_10, zs_94_11, zs_94_12, zs_94_13, zs_94_15, zs_94_18, zs_94_19, zs_94_22, zs_94_23, zs_94_24, zs_94_25, zs_94_28, zs_94_29, zs_94_30, zs_94_32, zs_94_33, zs_94_34, zs_94_35, zs_94_36, zs_94_38, zs_94_39, zs_94_41, zs_94_43, zs_94_44, zs_94_47, zs_94_49, zs_94_50, zs_94_53, zs_94_54, zs_94_57, zs_94_58, zs_94_59, zs_94_60, zs_94_63, zs_94_64, zs_94_67, zs_94_68, zs_94_71, zs_94_73, zs_94_75, zs_94_76, zs_94_78, zs_94_79, zs_94_80, zs_94_81, zs_94_82, zs_94_85, zs_94_86, zs_94_89, zs_94_91, zs_94_93, zs_94_94, zs_94_96, zs_94_97, zs_94_98, zs_94_99, zs_94_102, zs_94_105, zs_94_107, zs_94_41h, za_32, za_40, za_46, za_52, za_53, zg_31_1, zg_31_10, zg_31_16, zg_31_23, zg_31_24, zli_0, zli_s, zlr_0, zlr_s, zls_0, zls_s, z1i_e, z2i_e, z1r_e, zir_e, ziir_e, z1v_e, z2v_e, zone_e, znil_e, zsp_0, zsp_s, zlz_0, zlz_1, zlz_2, zlz_3, zlz_4, zswp_0, zswp_s, true_and, and_true, implies_true, true_or, or_true, Int.reduceEq, Int.reduceLT, Int.reduceLE, Int.reduceNeg, not_true_eq_false, not_false_eq_true, false_implies, true_implies, zr_e, zwr_o, zwr_s, Nat.reduceEqDiff]
    exact ⟨x0, x1, by omega, by omega, fun a => hQ, fun a => by omega⟩
  | succ c ih =>
    intro i i0 i1 ic hQ
    have hm := mOK_m hB hr i0 (by omega)
    have hb := mM hB hm.1 hm.2.2
    simp only [zd, gSt] at hQ
    refine zv_94 200 ?_
    simp only [zs_94_0, zs_94_1, zs_94_4, zs_94_6, zs_94_7, zs_94_8, zs_94_9, zs_94_10, zs_94_11, zs_94_12, zs_94_13, zs_94_15, zs_94_18, zs_94_19, zs_94_22, zs_94_23, zs_94_24, zs_94_25, zs_94_28, zs_94_29, zs_94_30, zs_94_32, zs_94_33, zs_94_34, zs_94_35, zs_94_36, zs_94_38, zs_94_39, zs_94_41, zs_94_43, zs_94_44, zs_94_47, zs_94_49, zs_94_50, zs_94_53, zs_94_54, zs_94_57, zs_94_58, zs_94_59, zs_94_60, zs_94_63, zs_94_64, zs_94_67, zs_94_68, zs_94_71, zs_94_73, zs_94_75, zs_94_76, zs_94_78, zs_94_79, zs_94_80, zs_94_81, zs_94_82, zs_94_85, zs_94_86, zs_94_89, zs_94_91, zs_94_93, zs_94_94, zs_94_96, zs_94_97, zs_94_98, zs_94_99, zs_94_102, zs_94_105, zs_94_107, zs_94_41h, za_32, za_40, za_46, za_52, za_53, zg_31_1, zg_31_10, zg_31_16, zg_31_23, zg_31_24, zli_0, zli_s, zlr_0, zlr_s, zls_0, zls_s, z1i_e, z2i_e, z1r_e, zir_e, ziir_e, z1v_e, z2v_e, zone_e, znil_e, zsp_0, zsp_s, zlz_0, zlz_1, zlz_2, zlz_3, zlz_4, zswp_0, zswp_s, true_and, and_true, implies_true, true_or, or_true, Int.reduceEq, Int.reduceLT, Int.reduceLE, Int.reduceNeg, not_true_eq_false, not_false_eq_true, false_implies, true_implies, zr_e, zwr_o, zwr_s, Nat.reduceEqDiff]
    refine ⟨x0, x1, by omega, by omega, fun a => by omega, fun a => ⟨h0, h1, by omega, fun b => absurd b hk, fun b => ⟨by omega, by omega, by omega, by omega, by omega, fun d => ?_, fun d => ⟨by omega, by omega, ?_⟩⟩⟩⟩
    · rw [if_neg (show ¬ bM σ 7 (σ 52 (16 * (10 * s + n) + i)) = 2 from d)] at hQ
      exact ih (i + 1) (by omega) (by omega) (by omega) hQ
    · rw [if_pos (show bM σ 7 (σ 52 (16 * (10 * s + n) + i)) = 2 from d), if_neg (by omega)] at hQ
      exact hQ
set_option maxRecDepth 100000 in
theorem m_staticOf {s n : Int} (hB : Bd (bM σ)) (h0 : 0 ≤ s) (h1 : s < 16) (h2 : 0 ≤ n) (h3 : n < 10) (hr : mOK σ n s) (h : Q (gSM (bM σ) (rM σ n s) s n) σ) : zM 94 zF [.inr 31, .inl s, .inl n] σ Q := by
  have hnn : 1 ≤ σ 31 0 ∧ σ 31 0 ≤ 16 ∧ 3 ≤ σ 31 7 ∧ σ 31 7 ≤ 60 := hB.n
  have hks : 0 ≤ σ 32 s ∧ σ 32 s ≤ 2 := hB.kind s h0 h1
  have hc := hr.1
  have hc2 := hr.2.1
  have how : σ 46 (10 * s + n) = -4 ∨ (0 ≤ σ 46 (10 * s + n) ∧ σ 46 (10 * s + n) < σ 31 7) := hB.ow (10 * s + n) (by omega) (by omega)
  have h : Q (if ¬ σ 46 (10 * s + n) = -4 ∧ σ 40 (σ 46 (10 * s + n)) = 2 then σ 46 (10 * s + n) else if σ 32 s = 2 then -4 else if gSt (bM σ) (rM σ n s) < 0 then -4 else gSt (bM σ) (rM σ n s)) σ := h
  have loop : ¬ (¬ σ 46 (10 * s + n) = -4 ∧ σ 40 (σ 46 (10 * s + n)) = 2) → ∀ l3, zV 94 zF Q 41 [some (.inr 31), some (.inl s), some (.inl n), l3, some (.inl (10 * s + n)), some (.inl 0)] [] σ := by
    intro a l3
    rw [if_neg a] at h
    by_cases hk : σ 32 s = 2
    · rw [if_pos hk] at h
      refine zv_94 200 ?_
      simp only [zs_94_0, zs_94_1, zs_94_4, zs_94_6, zs_94_7, zs_94_8, zs_94_9, zs_94_10, zs_94_11, zs_94_12, zs_94_13, zs_94_15, zs_94_18, zs_94_19, zs_94_22, zs_94_23, zs_94_24, zs_94_25, zs_94_28, zs_94_29, zs_94_30, zs_94_32, zs_94_33, zs_94_34, zs_94_35, zs_94_36, zs_94_38, zs_94_39, zs_94_41, zs_94_43, zs_94_44, zs_94_47, zs_94_49, zs_94_50, zs_94_53, zs_94_54, zs_94_57, zs_94_58, zs_94_59, zs_94_60, zs_94_63, zs_94_64, zs_94_67, zs_94_68, zs_94_71, zs_94_73, zs_94_75, zs_94_76, zs_94_78, zs_94_79, zs_94_80, zs_94_81, zs_94_82, zs_94_85, zs_94_86, zs_94_89, zs_94_91, zs_94_93, zs_94_94, zs_94_96, zs_94_97, zs_94_98, zs_94_99, zs_94_102, zs_94_105, zs_94_107, zs_94_41h, za_32, za_40, za_46, za_52, za_53, zg_31_1, zg_31_10, zg_31_16, zg_31_23, zg_31_24, zli_0, zli_s, zlr_0, zlr_s, zls_0, zls_s, z1i_e, z2i_e, z1r_e, zir_e, ziir_e, z1v_e, z2v_e, zone_e, znil_e, zsp_0, zsp_s, zlz_0, zlz_1, zlz_2, zlz_3, zlz_4, zswp_0, zswp_s, true_and, and_true, implies_true, true_or, or_true, Int.reduceEq, Int.reduceLT, Int.reduceLE, Int.reduceNeg, not_true_eq_false, not_false_eq_true, false_implies, true_implies, zr_e, zwr_o, zwr_s, Nat.reduceEqDiff]
      exact ⟨by omega, by omega, by omega, fun b => h, fun b => ⟨h0, h1, by omega, fun d => h, fun d => absurd hk d⟩⟩
    · rw [if_neg hk] at h
      refine m_static_loop hB h0 h1 (by omega) (by omega) hr hk _ 0 (by omega) hc rfl ?_
      rw [Int.sub_zero, ← zl_zd]
      exact h
  refine ze_94 200 ?_
  simp only [zs_94_0, zs_94_1, zs_94_4, zs_94_6, zs_94_7, zs_94_8, zs_94_9, zs_94_10, zs_94_11, zs_94_12, zs_94_13, zs_94_15, zs_94_18, zs_94_19, zs_94_22, zs_94_23, zs_94_24, zs_94_25, zs_94_28, zs_94_29, zs_94_30, zs_94_32, zs_94_33, zs_94_34, zs_94_35, zs_94_36, zs_94_38, zs_94_39, zs_94_41, zs_94_43, zs_94_44, zs_94_47, zs_94_49, zs_94_50, zs_94_53, zs_94_54, zs_94_57, zs_94_58, zs_94_59, zs_94_60, zs_94_63, zs_94_64, zs_94_67, zs_94_68, zs_94_71, zs_94_73, zs_94_75, zs_94_76, zs_94_78, zs_94_79, zs_94_80, zs_94_81, zs_94_82, zs_94_85, zs_94_86, zs_94_89, zs_94_91, zs_94_93, zs_94_94, zs_94_96, zs_94_97, zs_94_98, zs_94_99, zs_94_102, zs_94_105, zs_94_107, za_32, za_40, za_46, za_52, za_53, zg_31_1, zg_31_10, zg_31_16, zg_31_23, zg_31_24, zli_0, zli_s, zlr_0, zlr_s, zls_0, zls_s, z1i_e, z2i_e, z1r_e, zir_e, ziir_e, z1v_e, z2v_e, zone_e, znil_e, zsp_0, zsp_s, zlz_0, zlz_1, zlz_2, zlz_3, zlz_4, zswp_0, zswp_s, true_and, and_true, implies_true, true_or, or_true, Int.reduceEq, Int.reduceLT, Int.reduceLE, Int.reduceNeg, not_true_eq_false, not_false_eq_true, false_implies, true_implies, zr_e, zwr_o, zwr_s, Nat.reduceEqDiff]
  refine ⟨by omega, by omega, by omega, fun a => loop (fun z => z.1 a) _, fun a => ?_⟩
  have hb := mM (m := σ 46 (10 * s + n)) hB (by omega) (by omega)
  refine ⟨by omega, by omega, by omega, fun b => loop (fun z => b z.2) _, fun b => ?_⟩
  rw [if_pos ⟨a, b⟩] at h
  exact h
/-! faults, counted -/
def fMs (σ : zS) (L : List (Int × Int)) : Prop := σ 31 30 = L.length ∧ (0 ≤ σ 31 29 → σ 31 29 < L.length → (σ 31 31, σ 31 32) = L.getD (σ 31 29).toNat (0, 0))
set_option maxRecDepth 100000 in
theorem m_fault {c n : Int} {L : List (Int × Int)} (hw : zr (σ 31 29)) (hL : (L.length : Int) < 100000) (hf : fMs σ L) (h : ∀ σ', zmm [] [30, 31, 32] σ σ' → fMs σ' (L ++ [(c, n)]) → Q 0 σ') : zM 91 zF [.inr 31, .inl c, .inl n] σ Q := by
  obtain ⟨f1, f2⟩ := hf
  simp only [zr] at hw
  refine ze_91 100 ?_
  simp only [zs_91_0, zs_91_1, zs_91_4, zs_91_5, zs_91_8, zs_91_11, zs_91_12, zs_91_13, zs_91_16, zs_91_17, zs_91_18, zs_91_21, zs_91_22, zs_91_23, zs_91_26, zs_91_27, zs_91_28, zs_91_31, zg_31_29, zg_31_30, zp_31_30, zp_31_31, zp_31_32, zli_0, zli_s, zlr_0, zlr_s, zls_0, zls_s, z1i_e, z2i_e, z1r_e, zir_e, ziir_e, z1v_e, z2v_e, zone_e, znil_e, zsp_0, zsp_s, zlz_0, zlz_1, zlz_2, zlz_3, zlz_4, zswp_0, zswp_s, true_and, and_true, implies_true, true_or, or_true, Int.reduceEq, Int.reduceLT, Int.reduceLE, Int.reduceNeg, not_true_eq_false, not_false_eq_true, false_implies, true_implies, zr_e, zwr_o, zwr_s, Nat.reduceEqDiff]
  have e30 : ∀ v x y : Int, zwr (zwr σ 31 31 x) 31 32 y 31 30 = σ 31 30 := fun v x y => by simp [zwr]
  refine ⟨by omega, hw, fun a => ?_, fun a => ?_⟩
  · refine h _ (zmm_wf zmm_rf (by decide)) ⟨?_, fun g1 g2 => ?_⟩
    · rw [zwr_s, List.length_append]
      simp only [List.length_singleton]
      omega
    · have e29 : zwr σ 31 30 (σ 31 30 + 1) 31 29 = σ 31 29 := by simp [zwr]
      rw [e29] at g1 g2 ⊢
      rw [List.length_append] at g2
      simp only [List.length_singleton] at g2
      have hlt : σ 31 29 < L.length := by omega
      have := f2 g1 hlt
      have e31 : zwr σ 31 30 (σ 31 30 + 1) 31 31 = σ 31 31 := by simp [zwr]
      have e32 : zwr σ 31 30 (σ 31 30 + 1) 31 32 = σ 31 32 := by simp [zwr]
      rw [e31, e32, this]
      simp only [List.getD_eq_getElem?_getD]
      rw [List.getElem?_append_left (by omega)]
  · have e30 : zwr (zwr σ 31 31 c) 31 32 n 31 30 = σ 31 30 := by simp [zwr]
    rw [e30]
    refine h _ (zmm_wf (zmm_wf (zmm_wf zmm_rf (by decide)) (by decide)) (by decide)) ⟨?_, fun g1 g2 => ?_⟩
    · rw [zwr_s, List.length_append]
      simp only [List.length_singleton]
      omega
    · have e29 : zwr (zwr (zwr σ 31 31 c) 31 32 n) 31 30 (σ 31 30 + 1) 31 29 = σ 31 29 := by simp [zwr]
      have e31 : zwr (zwr (zwr σ 31 31 c) 31 32 n) 31 30 (σ 31 30 + 1) 31 31 = c := by simp [zwr]
      have e32 : zwr (zwr (zwr σ 31 31 c) 31 32 n) 31 30 (σ 31 30 + 1) 31 32 = n := by simp [zwr]
      rw [e29, e31, e32]
      have : (σ 31 29).toNat = L.length := by omega
      simp [this]
end M6
