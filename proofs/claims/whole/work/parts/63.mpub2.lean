/-! the reference's public methods that answer questions -/
section MP2
variable {σ : zS} {Q : Int → zS → Prop}
theorem fr_all {σ' : zS} (hs : zmm [49, 50, 51, 52, 53] [19] σ σ') : zN σ σ' ∧ mL σ σ' ∧ bM σ' = bM σ ∧ σ' 31 0 = σ 31 0 ∧ σ' 31 7 = σ 31 7 := ⟨zN_mm hs (by decide), mL_mm hs (by decide), bM_mm hs (by decide) (by decide) (by decide), hs.2 0 (by decide), hs.2 7 (by decide)⟩
set_option maxRecDepth 100000 in
theorem mp_has {t n i : Int} (hI : IM σ) (ht : zr t) (hn : zr n) (hi : zr i) (hbad : ¬ (0 ≤ t ∧ t < σ 31 0 ∧ 0 ≤ n ∧ n < 10) → Q (-1) σ)
    (hok : 0 ≤ t → t < σ 31 0 → 0 ≤ n → n < 10 → ∀ σ', zN σ σ' → IM σ' → mL σ σ' → bM σ' = bM σ → Q (aHas (bM σ) t n i) σ') : zM 104 zF [.inr 31, .inl t, .inl n, .inl i] σ Q := by
  have hnn := hI.n
  have hi' := hi
  simp only [zr] at hi
  refine ze_104 200 ?_
  simp only [zs_104_0, zs_104_1, zs_104_2, zs_104_5, zs_104_8, zs_104_9, zs_104_10, zs_104_12, zs_104_15, zs_104_18, zs_104_19, zs_104_20, zs_104_21, zs_104_24, zs_104_26, zs_104_27, zs_104_28, zs_104_29, zs_104_30, zs_104_32, zs_104_33, zs_104_35, zs_104_38, zs_104_39, zs_104_42, zs_104_44, zs_104_45, zs_104_48, zs_104_49, zs_104_50, zs_104_51, zs_104_54, zs_104_56, zs_104_57, zs_104_58, zs_104_59, zs_104_62, zs_104_65, zs_104_66, zs_104_69, zs_104_71, zs_104_73, zs_104_74, zs_104_75, zs_104_76, zs_104_77, zs_104_80, zs_104_81, za_52, za_53, zg_31_23, zg_31_24, zrc_78, zrc_84, zli_0, zli_s, zlr_0, zlr_s, zls_0, zls_s, z1i_e, z2i_e, z1r_e, zir_e, ziir_e, z1v_e, z2v_e, zone_e, znil_e, zsp_0, zsp_s, zlz_0, zlz_1, zlz_2, zlz_3, zlz_4, zswp_0, zswp_s, true_and, and_true, implies_true, true_or, or_true, Int.reduceEq, Int.reduceLT, Int.reduceLE, Int.reduceNeg, not_true_eq_false, not_false_eq_true, false_implies, true_implies, zr_e, zwr_o, zwr_s, Nat.reduceEqDiff]
  refine m_isType hI.1 ht (fun b1 b2 => ?_) (fun b => ?_)
  · simp only [zs_104_0, zs_104_1, zs_104_2, zs_104_5, zs_104_8, zs_104_9, zs_104_10, zs_104_12, zs_104_15, zs_104_18, zs_104_19, zs_104_20, zs_104_21, zs_104_24, zs_104_26, zs_104_27, zs_104_28, zs_104_29, zs_104_30, zs_104_32, zs_104_33, zs_104_35, zs_104_38, zs_104_39, zs_104_42, zs_104_44, zs_104_45, zs_104_48, zs_104_49, zs_104_50, zs_104_51, zs_104_54, zs_104_56, zs_104_57, zs_104_58, zs_104_59, zs_104_62, zs_104_65, zs_104_66, zs_104_69, zs_104_71, zs_104_73, zs_104_74, zs_104_75, zs_104_76, zs_104_77, zs_104_80, zs_104_81, za_52, za_53, zg_31_23, zg_31_24, zrc_78, zrc_84, zli_0, zli_s, zlr_0, zlr_s, zls_0, zls_s, z1i_e, z2i_e, z1r_e, zir_e, ziir_e, z1v_e, z2v_e, zone_e, znil_e, zsp_0, zsp_s, zlz_0, zlz_1, zlz_2, zlz_3, zlz_4, zswp_0, zswp_s, true_and, and_true, implies_true, true_or, or_true, Int.reduceEq, Int.reduceLT, Int.reduceLE, Int.reduceNeg, not_true_eq_false, not_false_eq_true, false_implies, true_implies, zr_e, zwr_o, zwr_s, Nat.reduceEqDiff]
    refine m_in hn zr_0 ⟨by decide, by decide⟩ (fun c1 c2 => ?_) (fun c => ?_)
    · simp only [zs_104_0, zs_104_1, zs_104_2, zs_104_5, zs_104_8, zs_104_9, zs_104_10, zs_104_12, zs_104_15, zs_104_18, zs_104_19, zs_104_20, zs_104_21, zs_104_24, zs_104_26, zs_104_27, zs_104_28, zs_104_29, zs_104_30, zs_104_32, zs_104_33, zs_104_35, zs_104_38, zs_104_39, zs_104_42, zs_104_44, zs_104_45, zs_104_48, zs_104_49, zs_104_50, zs_104_51, zs_104_54, zs_104_56, zs_104_57, zs_104_58, zs_104_59, zs_104_62, zs_104_65, zs_104_66, zs_104_69, zs_104_71, zs_104_73, zs_104_74, zs_104_75, zs_104_76, zs_104_77, zs_104_80, zs_104_81, za_52, za_53, zg_31_23, zg_31_24, zrc_78, zrc_84, zli_0, zli_s, zlr_0, zlr_s, zls_0, zls_s, z1i_e, z2i_e, z1r_e, zir_e, ziir_e, z1v_e, z2v_e, zone_e, znil_e, zsp_0, zsp_s, zlz_0, zlz_1, zlz_2, zlz_3, zlz_4, zswp_0, zswp_s, true_and, and_true, implies_true, true_or, or_true, Int.reduceEq, Int.reduceLT, Int.reduceLE, Int.reduceNeg, not_true_eq_false, not_false_eq_true, false_implies, true_implies, zr_e, zwr_o, zwr_s, Nat.reduceEqDiff]
      refine m_freshen hI ?_
      intro σ1 hs hI1 hF1
      obtain ⟨f1, f2, eB, e0, e7⟩ := fr_all hs
      have hr := (hF1.2 n t c1 (by omega) b1 (by omega)).1
      have hrow : rM σ1 n t = cRow (bM σ) n t := by rw [← eB]; exact RM_c hI1.1 hF1 c1 (by omega) b1 (by omega)
      have hfin := hok b1 b2 c1 (by omega) σ1 f1 hI1 f2 eB
      have hlen : ((rM σ1 n t).length : Int) = σ1 53 (10 * t + n) := show ((zl (fun i => σ1 52 (16 * (10 * t + n) + i)) (σ1 53 (10 * t + n))).length : Int) = _ from zl_len hr.1
      have hr1 := hr.1
      have hr2 := hr.2.1
      unfold aHas at hfin
      rw [← hrow, hlen] at hfin
      refine ⟨hi, fun d => ?_, fun d => ⟨by omega, by omega, ?_⟩⟩
      · rw [if_neg d] at hfin
        refine ⟨by omega, by omega, ?_⟩
        refine m_in hi' zr_0 ⟨by omega, by omega⟩ (fun e1 e2 => ?_) (fun e => ?_)
        · rw [if_pos ⟨e1, by omega⟩] at hfin
          have eg : (rM σ1 n t).getD i.toNat (-1) = σ1 52 (16 * (10 * t + n) + i) := show (zl (fun i => σ1 52 (16 * (10 * t + n) + i)) (σ1 53 (10 * t + n))).getD i.toNat (-1) = _ from zl_get e1 (by omega)
          rw [eg] at hfin
          simp only [zs_104_0, zs_104_1, zs_104_2, zs_104_5, zs_104_8, zs_104_9, zs_104_10, zs_104_12, zs_104_15, zs_104_18, zs_104_19, zs_104_20, zs_104_21, zs_104_24, zs_104_26, zs_104_27, zs_104_28, zs_104_29, zs_104_30, zs_104_32, zs_104_33, zs_104_35, zs_104_38, zs_104_39, zs_104_42, zs_104_44, zs_104_45, zs_104_48, zs_104_49, zs_104_50, zs_104_51, zs_104_54, zs_104_56, zs_104_57, zs_104_58, zs_104_59, zs_104_62, zs_104_65, zs_104_66, zs_104_69, zs_104_71, zs_104_73, zs_104_74, zs_104_75, zs_104_76, zs_104_77, zs_104_80, zs_104_81, za_52, za_53, zg_31_23, zg_31_24, zrc_78, zrc_84, zli_0, zli_s, zlr_0, zlr_s, zls_0, zls_s, z1i_e, z2i_e, z1r_e, zir_e, ziir_e, z1v_e, z2v_e, zone_e, znil_e, zsp_0, zsp_s, zlz_0, zlz_1, zlz_2, zlz_3, zlz_4, zswp_0, zswp_s, true_and, and_true, implies_true, true_or, or_true, Int.reduceEq, Int.reduceLT, Int.reduceLE, Int.reduceNeg, not_true_eq_false, not_false_eq_true, false_implies, true_implies, zr_e, zwr_o, zwr_s, Nat.reduceEqDiff]
          exact ⟨by omega, by omega, hfin⟩
        · rw [if_neg (by omega)] at hfin
          simp only [zs_104_0, zs_104_1, zs_104_2, zs_104_5, zs_104_8, zs_104_9, zs_104_10, zs_104_12, zs_104_15, zs_104_18, zs_104_19, zs_104_20, zs_104_21, zs_104_24, zs_104_26, zs_104_27, zs_104_28, zs_104_29, zs_104_30, zs_104_32, zs_104_33, zs_104_35, zs_104_38, zs_104_39, zs_104_42, zs_104_44, zs_104_45, zs_104_48, zs_104_49, zs_104_50, zs_104_51, zs_104_54, zs_104_56, zs_104_57, zs_104_58, zs_104_59, zs_104_62, zs_104_65, zs_104_66, zs_104_69, zs_104_71, zs_104_73, zs_104_74, zs_104_75, zs_104_76, zs_104_77, zs_104_80, zs_104_81, za_52, za_53, zg_31_23, zg_31_24, zrc_78, zrc_84, zli_0, zli_s, zlr_0, zlr_s, zls_0, zls_s, z1i_e, z2i_e, z1r_e, zir_e, ziir_e, z1v_e, z2v_e, zone_e, znil_e, zsp_0, zsp_s, zlz_0, zlz_1, zlz_2, zlz_3, zlz_4, zswp_0, zswp_s, true_and, and_true, implies_true, true_or, or_true, Int.reduceEq, Int.reduceLT, Int.reduceLE, Int.reduceNeg, not_true_eq_false, not_false_eq_true, false_implies, true_implies, zr_e, zwr_o, zwr_s, Nat.reduceEqDiff]
          exact hfin
      · rw [if_pos d] at hfin
        exact hfin
    · simp only [zs_104_0, zs_104_1, zs_104_2, zs_104_5, zs_104_8, zs_104_9, zs_104_10, zs_104_12, zs_104_15, zs_104_18, zs_104_19, zs_104_20, zs_104_21, zs_104_24, zs_104_26, zs_104_27, zs_104_28, zs_104_29, zs_104_30, zs_104_32, zs_104_33, zs_104_35, zs_104_38, zs_104_39, zs_104_42, zs_104_44, zs_104_45, zs_104_48, zs_104_49, zs_104_50, zs_104_51, zs_104_54, zs_104_56, zs_104_57, zs_104_58, zs_104_59, zs_104_62, zs_104_65, zs_104_66, zs_104_69, zs_104_71, zs_104_73, zs_104_74, zs_104_75, zs_104_76, zs_104_77, zs_104_80, zs_104_81, za_52, za_53, zg_31_23, zg_31_24, zrc_78, zrc_84, zli_0, zli_s, zlr_0, zlr_s, zls_0, zls_s, z1i_e, z2i_e, z1r_e, zir_e, ziir_e, z1v_e, z2v_e, zone_e, znil_e, zsp_0, zsp_s, zlz_0, zlz_1, zlz_2, zlz_3, zlz_4, zswp_0, zswp_s, true_and, and_true, implies_true, true_or, or_true, Int.reduceEq, Int.reduceLT, Int.reduceLE, Int.reduceNeg, not_true_eq_false, not_false_eq_true, false_implies, true_implies, zr_e, zwr_o, zwr_s, Nat.reduceEqDiff]
      exact hbad (by omega)
  · simp only [zs_104_0, zs_104_1, zs_104_2, zs_104_5, zs_104_8, zs_104_9, zs_104_10, zs_104_12, zs_104_15, zs_104_18, zs_104_19, zs_104_20, zs_104_21, zs_104_24, zs_104_26, zs_104_27, zs_104_28, zs_104_29, zs_104_30, zs_104_32, zs_104_33, zs_104_35, zs_104_38, zs_104_39, zs_104_42, zs_104_44, zs_104_45, zs_104_48, zs_104_49, zs_104_50, zs_104_51, zs_104_54, zs_104_56, zs_104_57, zs_104_58, zs_104_59, zs_104_62, zs_104_65, zs_104_66, zs_104_69, zs_104_71, zs_104_73, zs_104_74, zs_104_75, zs_104_76, zs_104_77, zs_104_80, zs_104_81, za_52, za_53, zg_31_23, zg_31_24, zrc_78, zrc_84, zli_0, zli_s, zlr_0, zlr_s, zls_0, zls_s, z1i_e, z2i_e, z1r_e, zir_e, ziir_e, z1v_e, z2v_e, zone_e, znil_e, zsp_0, zsp_s, zlz_0, zlz_1, zlz_2, zlz_3, zlz_4, zswp_0, zswp_s, true_and, and_true, implies_true, true_or, or_true, Int.reduceEq, Int.reduceLT, Int.reduceLE, Int.reduceNeg, not_true_eq_false, not_false_eq_true, false_implies, true_implies, zr_e, zwr_o, zwr_s, Nat.reduceEqDiff]
    exact hbad (by omega)
set_option maxRecDepth 100000 in
theorem mp_runs {t n : Int} (hI : IM σ) (ht : zr t) (hn : zr n) (hbad : ¬ (0 ≤ t ∧ t < σ 31 0 ∧ 0 ≤ n ∧ n < 10) → Q (-1) σ)
    (hok : 0 ≤ t → t < σ 31 0 → 0 ≤ n → n < 10 → ∀ σ', zN σ σ' → IM σ' → mL σ σ' → bM σ' = bM σ → Q (aRun (bM σ) n t) σ') : zM 105 zF [.inr 31, .inl t, .inl n] σ Q := by
  have hnn := hI.n
  refine ze_105 200 ?_
  simp only [zs_105_0, zs_105_1, zs_105_2, zs_105_5, zs_105_8, zs_105_9, zs_105_10, zs_105_12, zs_105_15, zs_105_18, zs_105_19, zs_105_20, zs_105_21, zs_105_24, zs_105_25, zs_105_26, zs_105_27, zs_105_30, zrc_78, zrc_84, zrc_88, zli_0, zli_s, zlr_0, zlr_s, zls_0, zls_s, z1i_e, z2i_e, z1r_e, zir_e, ziir_e, z1v_e, z2v_e, zone_e, znil_e, zsp_0, zsp_s, zlz_0, zlz_1, zlz_2, zlz_3, zlz_4, zswp_0, zswp_s, true_and, and_true, implies_true, true_or, or_true, Int.reduceEq, Int.reduceLT, Int.reduceLE, Int.reduceNeg, not_true_eq_false, not_false_eq_true, false_implies, true_implies, zr_e, zwr_o, zwr_s, Nat.reduceEqDiff]
  refine m_isType hI.1 ht (fun b1 b2 => ?_) (fun b => ?_)
  · simp only [zs_105_0, zs_105_1, zs_105_2, zs_105_5, zs_105_8, zs_105_9, zs_105_10, zs_105_12, zs_105_15, zs_105_18, zs_105_19, zs_105_20, zs_105_21, zs_105_24, zs_105_25, zs_105_26, zs_105_27, zs_105_30, zrc_78, zrc_84, zrc_88, zli_0, zli_s, zlr_0, zlr_s, zls_0, zls_s, z1i_e, z2i_e, z1r_e, zir_e, ziir_e, z1v_e, z2v_e, zone_e, znil_e, zsp_0, zsp_s, zlz_0, zlz_1, zlz_2, zlz_3, zlz_4, zswp_0, zswp_s, true_and, and_true, implies_true, true_or, or_true, Int.reduceEq, Int.reduceLT, Int.reduceLE, Int.reduceNeg, not_true_eq_false, not_false_eq_true, false_implies, true_implies, zr_e, zwr_o, zwr_s, Nat.reduceEqDiff]
    refine m_in hn zr_0 ⟨by decide, by decide⟩ (fun c1 c2 => ?_) (fun c => ?_)
    · simp only [zs_105_0, zs_105_1, zs_105_2, zs_105_5, zs_105_8, zs_105_9, zs_105_10, zs_105_12, zs_105_15, zs_105_18, zs_105_19, zs_105_20, zs_105_21, zs_105_24, zs_105_25, zs_105_26, zs_105_27, zs_105_30, zrc_78, zrc_84, zrc_88, zli_0, zli_s, zlr_0, zlr_s, zls_0, zls_s, z1i_e, z2i_e, z1r_e, zir_e, ziir_e, z1v_e, z2v_e, zone_e, znil_e, zsp_0, zsp_s, zlz_0, zlz_1, zlz_2, zlz_3, zlz_4, zswp_0, zswp_s, true_and, and_true, implies_true, true_or, or_true, Int.reduceEq, Int.reduceLT, Int.reduceLE, Int.reduceNeg, not_true_eq_false, not_false_eq_true, false_implies, true_implies, zr_e, zwr_o, zwr_s, Nat.reduceEqDiff]
      refine m_freshen hI ?_
      intro σ1 hs hI1 hF1
      obtain ⟨f1, f2, eB, e0, e7⟩ := fr_all hs
      have hr := (hF1.2 n t c1 (by omega) b1 (by omega)).1
      have hrow : rM σ1 n t = cRow (bM σ) n t := by rw [← eB]; exact RM_c hI1.1 hF1 c1 (by omega) b1 (by omega)
      have hfin := hok b1 b2 c1 (by omega) σ1 f1 hI1 f2 eB
      refine m_runsOf hI1.1 b1 (by omega) c1 (by omega) hr ?_
      rw [hrow, eB]
      exact hfin
    · simp only [zs_105_0, zs_105_1, zs_105_2, zs_105_5, zs_105_8, zs_105_9, zs_105_10, zs_105_12, zs_105_15, zs_105_18, zs_105_19, zs_105_20, zs_105_21, zs_105_24, zs_105_25, zs_105_26, zs_105_27, zs_105_30, zrc_78, zrc_84, zrc_88, zli_0, zli_s, zlr_0, zlr_s, zls_0, zls_s, z1i_e, z2i_e, z1r_e, zir_e, ziir_e, z1v_e, z2v_e, zone_e, znil_e, zsp_0, zsp_s, zlz_0, zlz_1, zlz_2, zlz_3, zlz_4, zswp_0, zswp_s, true_and, and_true, implies_true, true_or, or_true, Int.reduceEq, Int.reduceLT, Int.reduceLE, Int.reduceNeg, not_true_eq_false, not_false_eq_true, false_implies, true_implies, zr_e, zwr_o, zwr_s, Nat.reduceEqDiff]
      exact hbad (by omega)
  · simp only [zs_105_0, zs_105_1, zs_105_2, zs_105_5, zs_105_8, zs_105_9, zs_105_10, zs_105_12, zs_105_15, zs_105_18, zs_105_19, zs_105_20, zs_105_21, zs_105_24, zs_105_25, zs_105_26, zs_105_27, zs_105_30, zrc_78, zrc_84, zrc_88, zli_0, zli_s, zlr_0, zlr_s, zls_0, zls_s, z1i_e, z2i_e, z1r_e, zir_e, ziir_e, z1v_e, z2v_e, zone_e, znil_e, zsp_0, zsp_s, zlz_0, zlz_1, zlz_2, zlz_3, zlz_4, zswp_0, zswp_s, true_and, and_true, implies_true, true_or, or_true, Int.reduceEq, Int.reduceLT, Int.reduceLE, Int.reduceNeg, not_true_eq_false, not_false_eq_true, false_implies, true_implies, zr_e, zwr_o, zwr_s, Nat.reduceEqDiff]
    exact hbad (by omega)
theorem lk_all {σ' : zS} (hs : zmm [49, 50, 51, 52, 53] [19, 29, 30, 31, 32] σ σ') : zN σ σ' ∧ mL σ σ' ∧ bM σ' = bM σ ∧ σ' 31 0 = σ 31 0 ∧ σ' 31 7 = σ 31 7 := ⟨zN_mm hs (by decide), mL_mm hs (by decide), bM_mm hs (by decide) (by decide) (by decide), hs.2 0 (by decide), hs.2 7 (by decide)⟩
theorem fm_lenk {f : Int → List (Int × Int)} {k : Int} (hk : 0 ≤ k) : ∀ l : List Int, (∀ x, x ∈ l → ((f x).length : Int) ≤ k) → ((l.flatMap f).length : Int) ≤ k * (l.length : Int)
  | [], _ => by simp
  | a :: l, h => by
    have h1 := h a (by simp)
    have h2 := fm_lenk hk l (fun x hx => h x (by simp [hx]))
    rw [List.flatMap_cons, List.length_append, List.length_cons]
    have e : k * ((l.length + 1 : Nat) : Int) = k * (l.length : Int) + k := by rw [Int.natCast_add, Int.mul_add]; simp
    rw [e]
    omega
theorem col_len {t : Int} (hB : Bd (bM σ)) (hF : FM σ) (h0 : 0 ≤ t) (h1 : t < σ 31 0) : ((cCol (bM σ) t).length : Int) ≤ 300 := by
  have hnn : 1 ≤ σ 31 0 ∧ σ 31 0 ≤ 16 ∧ 3 ≤ σ 31 7 ∧ σ 31 7 ≤ 60 := hB.n
  have hfc : 0 ≤ bM σ 2 t ∧ bM σ 2 t ≤ 4 := hB.fc t h0 (by omega)
  have hm : bM σ 17 0 = σ 31 7 := rfl
  rw [← gCol_c (H := rM σ) hB h0 (show t < bM σ 16 0 from h1) (fun n u n0 n1 u0 u1 => RM_c hB hF n0 n1 u0 u1) (PM_c hB hF h0 h1)]
  unfold gCol
  have l10 : ((zi 10).length : Int) = 10 := zl_len (by omega)
  have lm : ((zi (bM σ 17 0)).length : Int) = bM σ 17 0 := zl_len (by omega)
  have lf : ((zl (fun j => bM σ 3 (4 * t + j)) (bM σ 2 t)).length : Int) = bM σ 2 t := zl_len hfc.1
  have a1 := fm_lenk (f := gCA (bM σ) (rM σ) t) (k := 16) (by omega) (zi 10) (fun n hn => by
    obtain ⟨i, i0, i1, rfl⟩ := zl_mem.mp hn
    unfold gCA
    split
    · simp
    · exact gFo_len hB h0 (by omega) (fun p p0 p1 => (hF.2 i p i0 i1 p0 (by omega)).1.2.2))
  have a2 := fm_lenk (f := gCB (bM σ) (rM σ) t) (k := 3) (by omega) (zi 10) (fun n hn => by
    unfold gCB
    split
    · exact gFi_len
    · simp)
  have a3 := fm_len (f := gCC (bM σ) (rM σ) (pM σ) t) (fun x => by unfold gCC; split; exact gIf_len _ x; simp) (zi (bM σ 17 0))
  have a4 := fm_len (f := gSe (bM σ) t) (fun x => by unfold gSe; exact gIf_len _ x) (zl (fun j => bM σ 3 (4 * t + j)) (bM σ 2 t))
  rw [List.length_append, List.length_append, List.length_append]
  omega
set_option maxRecDepth 100000 in
theorem mp_faults {t i w : Int} (hI : IM σ) (ht : zr t) (hi : zr i) (hw : zr w) (hbad : ¬ (0 ≤ t ∧ t < σ 31 0) → Q (-1) σ)
    (hok : 0 ≤ t → t < σ 31 0 → ∀ σ', zN σ σ' → IM σ' → mL σ σ' → bM σ' = bM σ → Q (aFau (bM σ) t i w) σ') : zM 106 zF [.inr 31, .inl t, .inl i, .inl w] σ Q := by
  have hnn := hI.n
  have hi' := hi
  have hw' := hw
  simp only [zr] at hi hw
  refine ze_106 200 ?_
  simp only [zs_106_0, zs_106_1, zs_106_2, zs_106_5, zs_106_8, zs_106_9, zs_106_11, zs_106_14, zs_106_15, zs_106_16, zs_106_17, zs_106_20, zs_106_23, zs_106_24, zs_106_25, zs_106_26, zs_106_27, zs_106_28, zs_106_31, zs_106_32, zs_106_34, zs_106_37, zs_106_38, zs_106_41, zs_106_44, zs_106_45, zs_106_46, zs_106_47, zs_106_50, zs_106_51, zs_106_52, zs_106_55, zs_106_58, zs_106_59, zs_106_62, zs_106_63, zs_106_66, zs_106_69, zs_106_70, zs_106_73, zs_106_76, zs_106_77, zg_31_30, zg_31_31, zg_31_32, zrc_78, zrc_96, zli_0, zli_s, zlr_0, zlr_s, zls_0, zls_s, z1i_e, z2i_e, z1r_e, zir_e, ziir_e, z1v_e, z2v_e, zone_e, znil_e, zsp_0, zsp_s, zlz_0, zlz_1, zlz_2, zlz_3, zlz_4, zswp_0, zswp_s, true_and, and_true, implies_true, true_or, or_true, Int.reduceEq, Int.reduceLT, Int.reduceLE, Int.reduceNeg, not_true_eq_false, not_false_eq_true, false_implies, true_implies, zr_e, zwr_o, zwr_s, Nat.reduceEqDiff]
  refine m_isType hI.1 ht (fun b1 b2 => ?_) (fun b => ?_)
  · have look : i = -4 ∨ (0 ≤ w ∧ w ≤ 1) → ∀ σ1, zmm [49, 50, 51, 52, 53] [19, 29, 30, 31, 32] σ σ1 → IM σ1 → FM σ1 → σ1 31 29 = i → fMs σ1 (cCol (bM σ) t) → ((-2147483648 ≤ i ∧ i < 2147483648) ∧ (¬ i = -4 → zM 77 zF [.inl i, .inl 0, .inl (σ1 31 30 - 1)] σ1 (fun r σ' => (-2147483648 ≤ r ∧ r < 2147483648) ∧ (r = 0 → Q (-1) σ') ∧ (¬ r = 0 → (-2147483648 ≤ w ∧ w < 2147483648) ∧ (¬ w = 0 → Q (σ' 31 32) σ') ∧ (w = 0 → Q (σ' 31 31) σ')))) ∧ (i = -4 → Q (σ1 31 30) σ1)) := by
      intro hw1 σ1 hs hI1 hF1 e29 hf
      obtain ⟨f1, f2, eB, -, -⟩ := lk_all hs
      have hfin := hok b1 b2 σ1 f1 hI1 f2 eB
      obtain ⟨g1, g2⟩ := hf
      rw [e29] at g2
      unfold aFau at hfin
      have hcl := col_len hI1.1 hF1 b1 (by rw [(lk_all hs).2.2.2.1]; exact b2)
      rw [eB] at hcl
      generalize cCol (bM σ) t = L at *
      refine ⟨hi, fun d => ?_, fun d => ?_⟩
      · rw [if_neg d] at hfin
        refine m_in hi' zr_0 ⟨by omega, by omega⟩ (fun e1 e2 => ?_) (fun e => ?_)
        · have hL : i < (L.length : Int) := by omega
          rw [if_pos ⟨e1, hL, by omega, by omega⟩, ← g2 e1 hL] at hfin
          refine ⟨by omega, fun z => absurd z (by decide), fun _ => ⟨hw, fun z => ?_, fun z => ?_⟩⟩
          · rw [if_neg z] at hfin
            exact hfin
          · rw [if_pos z] at hfin
            exact hfin
        · rw [if_neg (by omega)] at hfin
          exact ⟨by omega, fun _ => hfin, fun z => absurd rfl z⟩
      · rw [if_pos d] at hfin
        rw [g1]
        exact hfin
    simp only [zs_106_0, zs_106_1, zs_106_2, zs_106_5, zs_106_8, zs_106_9, zs_106_11, zs_106_14, zs_106_15, zs_106_16, zs_106_17, zs_106_20, zs_106_23, zs_106_24, zs_106_25, zs_106_26, zs_106_27, zs_106_28, zs_106_31, zs_106_32, zs_106_34, zs_106_37, zs_106_38, zs_106_41, zs_106_44, zs_106_45, zs_106_46, zs_106_47, zs_106_50, zs_106_51, zs_106_52, zs_106_55, zs_106_58, zs_106_59, zs_106_62, zs_106_63, zs_106_66, zs_106_69, zs_106_70, zs_106_73, zs_106_76, zs_106_77, zg_31_30, zg_31_31, zg_31_32, zrc_78, zrc_96, zli_0, zli_s, zlr_0, zlr_s, zls_0, zls_s, z1i_e, z2i_e, z1r_e, zir_e, ziir_e, z1v_e, z2v_e, zone_e, znil_e, zsp_0, zsp_s, zlz_0, zlz_1, zlz_2, zlz_3, zlz_4, zswp_0, zswp_s, true_and, and_true, implies_true, true_or, or_true, Int.reduceEq, Int.reduceLT, Int.reduceLE, Int.reduceNeg, not_true_eq_false, not_false_eq_true, false_implies, true_implies, zr_e, zwr_o, zwr_s, Nat.reduceEqDiff]
    refine ⟨hi, fun d => m_look hI b1 b2 hi' (look (Or.inl d)), fun d => ?_⟩
    refine m_in hw' zr_0 ⟨by decide, by decide⟩ (fun c1 c2 => ?_) (fun c => ?_)
    · refine ⟨by omega, fun _ => m_look hI b1 b2 hi' (look (Or.inr ⟨c1, c2⟩)), fun z => absurd z (by decide)⟩
    · have hfin := hok b1 b2 σ zN_rf hI mL_rf rfl
      unfold aFau at hfin
      rw [if_neg d, if_neg (by omega)] at hfin
      exact ⟨by omega, fun z => absurd rfl z, fun _ => hfin⟩
  · simp only [zs_106_0, zs_106_1, zs_106_2, zs_106_5, zs_106_8, zs_106_9, zs_106_11, zs_106_14, zs_106_15, zs_106_16, zs_106_17, zs_106_20, zs_106_23, zs_106_24, zs_106_25, zs_106_26, zs_106_27, zs_106_28, zs_106_31, zs_106_32, zs_106_34, zs_106_37, zs_106_38, zs_106_41, zs_106_44, zs_106_45, zs_106_46, zs_106_47, zs_106_50, zs_106_51, zs_106_52, zs_106_55, zs_106_58, zs_106_59, zs_106_62, zs_106_63, zs_106_66, zs_106_69, zs_106_70, zs_106_73, zs_106_76, zs_106_77, zg_31_30, zg_31_31, zg_31_32, zrc_78, zrc_96, zli_0, zli_s, zlr_0, zlr_s, zls_0, zls_s, z1i_e, z2i_e, z1r_e, zir_e, ziir_e, z1v_e, z2v_e, zone_e, znil_e, zsp_0, zsp_s, zlz_0, zlz_1, zlz_2, zlz_3, zlz_4, zswp_0, zswp_s, true_and, and_true, implies_true, true_or, or_true, Int.reduceEq, Int.reduceLT, Int.reduceLE, Int.reduceNeg, not_true_eq_false, not_false_eq_true, false_implies, true_implies, zr_e, zwr_o, zwr_s, Nat.reduceEqDiff]
    exact hbad (by omega)
set_option maxRecDepth 100000 in
theorem mp_functional {f : Int} (hI : IM σ) (hf : zr f) (hbad : ¬ (0 ≤ f ∧ f < σ 31 0 ∧ σ 32 f = 2) → Q (-1) σ)
    (hok : 0 ≤ f → f < σ 31 0 → σ 32 f = 2 → ∀ σ', zN σ σ' → IM σ' → mL σ σ' → bM σ' = bM σ → Q (aFun (bM σ) f) σ') : zM 107 zF [.inr 31, .inl f] σ Q := by
  have hnn := hI.n
  refine ze_107 200 ?_
  simp only [zs_107_0, zs_107_1, zs_107_2, zs_107_5, zs_107_8, zs_107_9, zs_107_10, zs_107_11, zs_107_14, zs_107_16, zs_107_17, zs_107_18, zs_107_19, zs_107_20, zs_107_22, zs_107_24, zs_107_26, zs_107_29, zs_107_30, zs_107_32, zs_107_33, zs_107_35, zs_107_37, zs_107_38, zs_107_41, zs_107_43, zs_107_44, zs_107_45, zs_107_47, zs_107_48, zs_107_49, zs_107_52, zs_107_54, zs_107_55, zs_107_58, zs_107_59, zs_107_62, zs_107_64, zs_107_66, zs_107_67, zs_107_68, zs_107_70, zs_107_71, zs_107_72, zs_107_74, zs_107_75, zs_107_76, zs_107_77, zs_107_80, zs_107_81, zs_107_84, zs_107_85, zs_107_86, zs_107_88, zs_107_91, zs_107_94, zs_107_96, zs_107_99, zs_107_101, zs_107_102, zs_107_103, zs_107_105, zs_107_106, zs_107_109, zs_107_110, zs_107_111, zs_107_112, zs_107_114, zs_107_117, zs_107_118, zs_107_121, zs_107_122, zs_107_123, zs_107_124, zs_107_127, zs_107_130, zs_107_131, zs_107_132, zs_107_135, zs_107_137, zs_107_138, zs_107_139, zs_107_141, zs_107_143, zs_107_144, zs_107_147, zs_107_148, zs_107_149, zs_107_152, zs_107_153, zs_107_156, zs_107_157, zs_107_160, zs_107_162, zs_107_163, zs_107_164, zs_107_166, zs_107_167, zs_107_168, zs_107_169, zs_107_170, zs_107_173, zs_107_175, zs_107_176, zs_107_179, zs_107_182, zs_107_183, zs_107_184, zs_107_187, za_40, za_52, za_53, zg_31_10, zg_31_23, zg_31_24, zrc_79, zrc_84, zrc_90, zli_0, zli_s, zlr_0, zlr_s, zls_0, zls_s, z1i_e, z2i_e, z1r_e, zir_e, ziir_e, z1v_e, z2v_e, zone_e, znil_e, zsp_0, zsp_s, zlz_0, zlz_1, zlz_2, zlz_3, zlz_4, zswp_0, zswp_s, true_and, and_true, implies_true, true_or, or_true, Int.reduceEq, Int.reduceLT, Int.reduceLE, Int.reduceNeg, not_true_eq_false, not_false_eq_true, false_implies, true_implies, zr_e, zwr_o, zwr_s, Nat.reduceEqDiff]
  refine m_isFace hI.1 hf (fun b1 b2 b3 => ?_) (fun b => ?_)
  · simp only [zs_107_0, zs_107_1, zs_107_2, zs_107_5, zs_107_8, zs_107_9, zs_107_10, zs_107_11, zs_107_14, zs_107_16, zs_107_17, zs_107_18, zs_107_19, zs_107_20, zs_107_22, zs_107_24, zs_107_26, zs_107_29, zs_107_30, zs_107_32, zs_107_33, zs_107_35, zs_107_37, zs_107_38, zs_107_41, zs_107_43, zs_107_44, zs_107_45, zs_107_47, zs_107_48, zs_107_49, zs_107_52, zs_107_54, zs_107_55, zs_107_58, zs_107_59, zs_107_62, zs_107_64, zs_107_66, zs_107_67, zs_107_68, zs_107_70, zs_107_71, zs_107_72, zs_107_74, zs_107_75, zs_107_76, zs_107_77, zs_107_80, zs_107_81, zs_107_84, zs_107_85, zs_107_86, zs_107_88, zs_107_91, zs_107_94, zs_107_96, zs_107_99, zs_107_101, zs_107_102, zs_107_103, zs_107_105, zs_107_106, zs_107_109, zs_107_110, zs_107_111, zs_107_112, zs_107_114, zs_107_117, zs_107_118, zs_107_121, zs_107_122, zs_107_123, zs_107_124, zs_107_127, zs_107_130, zs_107_131, zs_107_132, zs_107_135, zs_107_137, zs_107_138, zs_107_139, zs_107_141, zs_107_143, zs_107_144, zs_107_147, zs_107_148, zs_107_149, zs_107_152, zs_107_153, zs_107_156, zs_107_157, zs_107_160, zs_107_162, zs_107_163, zs_107_164, zs_107_166, zs_107_167, zs_107_168, zs_107_169, zs_107_170, zs_107_173, zs_107_175, zs_107_176, zs_107_179, zs_107_182, zs_107_183, zs_107_184, zs_107_187, za_40, za_52, za_53, zg_31_10, zg_31_23, zg_31_24, zrc_79, zrc_84, zrc_90, zli_0, zli_s, zlr_0, zlr_s, zls_0, zls_s, z1i_e, z2i_e, z1r_e, zir_e, ziir_e, z1v_e, z2v_e, zone_e, znil_e, zsp_0, zsp_s, zlz_0, zlz_1, zlz_2, zlz_3, zlz_4, zswp_0, zswp_s, true_and, and_true, implies_true, true_or, or_true, Int.reduceEq, Int.reduceLT, Int.reduceLE, Int.reduceNeg, not_true_eq_false, not_false_eq_true, false_implies, true_implies, zr_e, zwr_o, zwr_s, Nat.reduceEqDiff]
    refine m_freshen hI ?_
    intro σ1 hs hI1 hF1
    obtain ⟨f1, f2, eB, e0, e7⟩ := fr_all hs
    have hfin := hok b1 b2 b3 σ1 f1 hI1 f2 eB
    have hrow : ∀ n, 0 ≤ n → n < 10 → rM σ1 n f = cRow (bM σ) n f := fun n n0 n1 => by rw [← eB]; exact RM_c hI1.1 hF1 n0 n1 b1 (by omega)
    have eo : gOn (bM σ1) (fun n => rM σ1 n f) (-4) 3 7 = gOn (bM σ) (fun n => cRow (bM σ) n f) (-4) 3 7 := by
      rw [eB]
      exact gOn_congr 7 (-4) 3 (fun j a b => hrow j (by omega) (by omega))
    unfold aFun at hfin
    have hr := gOn_r (B := bM σ) (H := fun n => cRow (bM σ) n f) 7 (-4) 3 (Or.inl rfl) (by omega) (by omega)
    refine m_fun_a hI1.1 b1 (by omega) (fun n n0 n1 => (hF1.2 n f n0 n1 b1 (by omega)).1) (gOn (bM σ) (fun n => cRow (bM σ) n f) (-4) 3 7) ?_ 7 3 _ 0 _ _ (by omega) (by omega) rfl (by omega) (by omega) (Or.inl ⟨rfl, eo.symm⟩)
    generalize gOn (bM σ) (fun n => cRow (bM σ) n f) (-4) 3 7 = w at *
    by_cases hw : w = -4
    · rw [if_pos hw] at hfin ⊢
      exact hfin
    · rw [if_neg hw] at hfin ⊢
      rw [hrow w (by omega) (by omega), eB]
      exact hfin
  · simp only [zs_107_0, zs_107_1, zs_107_2, zs_107_5, zs_107_8, zs_107_9, zs_107_10, zs_107_11, zs_107_14, zs_107_16, zs_107_17, zs_107_18, zs_107_19, zs_107_20, zs_107_22, zs_107_24, zs_107_26, zs_107_29, zs_107_30, zs_107_32, zs_107_33, zs_107_35, zs_107_37, zs_107_38, zs_107_41, zs_107_43, zs_107_44, zs_107_45, zs_107_47, zs_107_48, zs_107_49, zs_107_52, zs_107_54, zs_107_55, zs_107_58, zs_107_59, zs_107_62, zs_107_64, zs_107_66, zs_107_67, zs_107_68, zs_107_70, zs_107_71, zs_107_72, zs_107_74, zs_107_75, zs_107_76, zs_107_77, zs_107_80, zs_107_81, zs_107_84, zs_107_85, zs_107_86, zs_107_88, zs_107_91, zs_107_94, zs_107_96, zs_107_99, zs_107_101, zs_107_102, zs_107_103, zs_107_105, zs_107_106, zs_107_109, zs_107_110, zs_107_111, zs_107_112, zs_107_114, zs_107_117, zs_107_118, zs_107_121, zs_107_122, zs_107_123, zs_107_124, zs_107_127, zs_107_130, zs_107_131, zs_107_132, zs_107_135, zs_107_137, zs_107_138, zs_107_139, zs_107_141, zs_107_143, zs_107_144, zs_107_147, zs_107_148, zs_107_149, zs_107_152, zs_107_153, zs_107_156, zs_107_157, zs_107_160, zs_107_162, zs_107_163, zs_107_164, zs_107_166, zs_107_167, zs_107_168, zs_107_169, zs_107_170, zs_107_173, zs_107_175, zs_107_176, zs_107_179, zs_107_182, zs_107_183, zs_107_184, zs_107_187, za_40, za_52, za_53, zg_31_10, zg_31_23, zg_31_24, zrc_79, zrc_84, zrc_90, zli_0, zli_s, zlr_0, zlr_s, zls_0, zls_s, z1i_e, z2i_e, z1r_e, zir_e, ziir_e, z1v_e, z2v_e, zone_e, znil_e, zsp_0, zsp_s, zlz_0, zlz_1, zlz_2, zlz_3, zlz_4, zswp_0, zswp_s, true_and, and_true, implies_true, true_or, or_true, Int.reduceEq, Int.reduceLT, Int.reduceLE, Int.reduceNeg, not_true_eq_false, not_false_eq_true, false_implies, true_implies, zr_e, zwr_o, zwr_s, Nat.reduceEqDiff]
    exact hbad (fun z => b z.1 z.2.1 z.2.2)
set_option maxRecDepth 100000 in
theorem mp_sees {t c : Int} (hI : IM σ) (ht : zr t) (hc : zr c) (hbad : ¬ (0 ≤ t ∧ t < σ 31 0 ∧ 0 ≤ c ∧ c < 4) → Q (-1) σ)
    (hok : 0 ≤ t → t < σ 31 0 → 0 ≤ c → c < 4 → ∀ σ', zmm [54] [] σ σ' → sVal (aSee (bM σ) t c) → Q (aSee (bM σ) t c) σ') : zM 109 zF [.inr 31, .inl t, .inl c] σ Q := by
  have hnn := hI.n
  refine ze_109 200 ?_
  simp only [zs_109_0, zs_109_1, zs_109_2, zs_109_5, zs_109_8, zs_109_9, zs_109_10, zs_109_11, zs_109_14, zs_109_17, zs_109_18, zs_109_19, zs_109_20, zs_109_23, zs_109_26, zs_109_27, zrc_108, zrc_78, zli_0, zli_s, zlr_0, zlr_s, zls_0, zls_s, z1i_e, z2i_e, z1r_e, zir_e, ziir_e, z1v_e, z2v_e, zone_e, znil_e, zsp_0, zsp_s, zlz_0, zlz_1, zlz_2, zlz_3, zlz_4, zswp_0, zswp_s, true_and, and_true, implies_true, true_or, or_true, Int.reduceEq, Int.reduceLT, Int.reduceLE, Int.reduceNeg, not_true_eq_false, not_false_eq_true, false_implies, true_implies, zr_e, zwr_o, zwr_s, Nat.reduceEqDiff]
  refine m_isType hI.1 ht (fun b1 b2 => ?_) (fun b => ?_)
  · simp only [zs_109_0, zs_109_1, zs_109_2, zs_109_5, zs_109_8, zs_109_9, zs_109_10, zs_109_11, zs_109_14, zs_109_17, zs_109_18, zs_109_19, zs_109_20, zs_109_23, zs_109_26, zs_109_27, zrc_108, zrc_78, zli_0, zli_s, zlr_0, zlr_s, zls_0, zls_s, z1i_e, z2i_e, z1r_e, zir_e, ziir_e, z1v_e, z2v_e, zone_e, znil_e, zsp_0, zsp_s, zlz_0, zlz_1, zlz_2, zlz_3, zlz_4, zswp_0, zswp_s, true_and, and_true, implies_true, true_or, or_true, Int.reduceEq, Int.reduceLT, Int.reduceLE, Int.reduceNeg, not_true_eq_false, not_false_eq_true, false_implies, true_implies, zr_e, zwr_o, zwr_s, Nat.reduceEqDiff]
    refine m_in hc zr_0 ⟨by decide, by decide⟩ (fun c1 c2 => ?_) (fun c => ?_)
    · simp only [zs_109_0, zs_109_1, zs_109_2, zs_109_5, zs_109_8, zs_109_9, zs_109_10, zs_109_11, zs_109_14, zs_109_17, zs_109_18, zs_109_19, zs_109_20, zs_109_23, zs_109_26, zs_109_27, zrc_108, zrc_78, zli_0, zli_s, zlr_0, zlr_s, zls_0, zls_s, z1i_e, z2i_e, z1r_e, zir_e, ziir_e, z1v_e, z2v_e, zone_e, znil_e, zsp_0, zsp_s, zlz_0, zlz_1, zlz_2, zlz_3, zlz_4, zswp_0, zswp_s, true_and, and_true, implies_true, true_or, or_true, Int.reduceEq, Int.reduceLT, Int.reduceLE, Int.reduceNeg, not_true_eq_false, not_false_eq_true, false_implies, true_implies, zr_e, zwr_o, zwr_s, Nat.reduceEqDiff]
      exact m_seesOf hI.1 b1 (by omega) c1 (by omega) (fun σ' hs hv => hok b1 b2 c1 (by omega) σ' hs hv)
    · simp only [zs_109_0, zs_109_1, zs_109_2, zs_109_5, zs_109_8, zs_109_9, zs_109_10, zs_109_11, zs_109_14, zs_109_17, zs_109_18, zs_109_19, zs_109_20, zs_109_23, zs_109_26, zs_109_27, zrc_108, zrc_78, zli_0, zli_s, zlr_0, zlr_s, zls_0, zls_s, z1i_e, z2i_e, z1r_e, zir_e, ziir_e, z1v_e, z2v_e, zone_e, znil_e, zsp_0, zsp_s, zlz_0, zlz_1, zlz_2, zlz_3, zlz_4, zswp_0, zswp_s, true_and, and_true, implies_true, true_or, or_true, Int.reduceEq, Int.reduceLT, Int.reduceLE, Int.reduceNeg, not_true_eq_false, not_false_eq_true, false_implies, true_implies, zr_e, zwr_o, zwr_s, Nat.reduceEqDiff]
      exact hbad (by omega)
  · simp only [zs_109_0, zs_109_1, zs_109_2, zs_109_5, zs_109_8, zs_109_9, zs_109_10, zs_109_11, zs_109_14, zs_109_17, zs_109_18, zs_109_19, zs_109_20, zs_109_23, zs_109_26, zs_109_27, zrc_108, zrc_78, zli_0, zli_s, zlr_0, zlr_s, zls_0, zls_s, z1i_e, z2i_e, z1r_e, zir_e, ziir_e, z1v_e, z2v_e, zone_e, znil_e, zsp_0, zsp_s, zlz_0, zlz_1, zlz_2, zlz_3, zlz_4, zswp_0, zswp_s, true_and, and_true, implies_true, true_or, or_true, Int.reduceEq, Int.reduceLT, Int.reduceLE, Int.reduceNeg, not_true_eq_false, not_false_eq_true, false_implies, true_implies, zr_e, zwr_o, zwr_s, Nat.reduceEqDiff]
    exact hbad (by omega)
theorem s_all {σ' : zS} (hI : IM σ) (hs : zmm [54] [] σ σ') : zN σ σ' ∧ IM σ' ∧ mL σ σ' ∧ bM σ' = bM σ := ⟨zN_mm hs (by decide), IM_sm hI (zmm_tr zmm_rf hs (by decide) (by decide)), mL_mm hs (by decide), bM_mm hs (by decide) (by decide) (by decide)⟩
set_option maxRecDepth 100000 in
theorem mp_value {t c : Int} (hI : IM σ) (ht : zr t) (hc : zr c) (hbad : ¬ (0 ≤ t ∧ t < σ 31 0 ∧ 0 ≤ c ∧ c < 4) → Q 0 σ)
    (hok : 0 ≤ t → t < σ 31 0 → 0 ≤ c → c < 4 → ∀ σ', zN σ σ' → IM σ' → mL σ σ' → bM σ' = bM σ → Q (aVal (bM σ) t c) σ') : zM 110 zF [.inr 31, .inl t, .inl c] σ Q := by
  have hnn := hI.n
  refine ze_110 200 ?_
  simp only [zs_110_0, zs_110_1, zs_110_2, zs_110_3, zs_110_6, zs_110_7, zs_110_8, zs_110_11, zs_110_12, zs_110_15, zs_110_16, zs_110_19, zs_110_20, zs_110_21, zs_110_22, zs_110_23, zs_110_24, zs_110_25, za_48, zg_31_18, zrc_109, zli_0, zli_s, zlr_0, zlr_s, zls_0, zls_s, z1i_e, z2i_e, z1r_e, zir_e, ziir_e, z1v_e, z2v_e, zone_e, znil_e, zsp_0, zsp_s, zlz_0, zlz_1, zlz_2, zlz_3, zlz_4, zswp_0, zswp_s, true_and, and_true, implies_true, true_or, or_true, Int.reduceEq, Int.reduceLT, Int.reduceLE, Int.reduceNeg, not_true_eq_false, not_false_eq_true, false_implies, true_implies, zr_e, zwr_o, zwr_s, Nat.reduceEqDiff]
  refine mp_sees hI ht hc (fun z => ?_) (fun b1 b2 c1 c2 σ1 hs hv => ?_)
  · simp only [zs_110_0, zs_110_1, zs_110_2, zs_110_3, zs_110_6, zs_110_7, zs_110_8, zs_110_11, zs_110_12, zs_110_15, zs_110_16, zs_110_19, zs_110_20, zs_110_21, zs_110_22, zs_110_23, zs_110_24, zs_110_25, za_48, zg_31_18, zrc_109, zli_0, zli_s, zlr_0, zlr_s, zls_0, zls_s, z1i_e, z2i_e, z1r_e, zir_e, ziir_e, z1v_e, z2v_e, zone_e, znil_e, zsp_0, zsp_s, zlz_0, zlz_1, zlz_2, zlz_3, zlz_4, zswp_0, zswp_s, true_and, and_true, implies_true, true_or, or_true, Int.reduceEq, Int.reduceLT, Int.reduceLE, Int.reduceNeg, not_true_eq_false, not_false_eq_true, false_implies, true_implies, zr_e, zwr_o, zwr_s, Nat.reduceEqDiff]
    exact hbad z
  · obtain ⟨f1, f2, f3, eB⟩ := s_all hI hs
    have hfin := hok b1 b2 c1 c2 σ1 f1 f2 f3 eB
    unfold aVal at hfin
    unfold sVal at hv
    refine ⟨by omega, fun d => ?_, fun d => ?_⟩
    · rw [if_pos d] at hfin
      refine ⟨by omega, by omega, ?_⟩
      rw [hs.1 48 (by decide) (by decide)]
      exact hfin
    · rw [if_neg (by omega)] at hfin
      exact hfin
set_option maxRecDepth 100000 in
theorem mp_below {t u : Int} (hI : IM σ) (ht : zr t) (hu : zr u) (hbad : ¬ (0 ≤ t ∧ t < σ 31 0 ∧ 0 ≤ u ∧ u < σ 31 0) → Q (-1) σ)
    (hok : 0 ≤ t → t < σ 31 0 → 0 ≤ u → u < σ 31 0 → ∀ σ', zN σ σ' → IM σ' → mL σ σ' → bM σ' = bM σ → Q (aBel (bM σ) t u) σ') : zM 111 zF [.inr 31, .inl t, .inl u] σ Q := by
  have hnn := hI.n
  have ht' := ht
  have hu' := hu
  simp only [zr] at ht hu
  refine ze_111 200 ?_
  simp only [zs_111_0, zs_111_1, zs_111_2, zs_111_5, zs_111_8, zs_111_9, zs_111_10, zs_111_13, zs_111_16, zs_111_17, zs_111_18, zs_111_19, zs_111_22, zs_111_23, zs_111_24, zs_111_27, zs_111_28, zs_111_31, zs_111_32, zs_111_35, zs_111_36, zs_111_37, zs_111_38, zs_111_39, zs_111_40, zs_111_41, zs_111_42, zs_111_45, zs_111_46, zs_111_49, zs_111_50, za_49, zg_31_20, zrc_78, zrc_84, zli_0, zli_s, zlr_0, zlr_s, zls_0, zls_s, z1i_e, z2i_e, z1r_e, zir_e, ziir_e, z1v_e, z2v_e, zone_e, znil_e, zsp_0, zsp_s, zlz_0, zlz_1, zlz_2, zlz_3, zlz_4, zswp_0, zswp_s, true_and, and_true, implies_true, true_or, or_true, Int.reduceEq, Int.reduceLT, Int.reduceLE, Int.reduceNeg, not_true_eq_false, not_false_eq_true, false_implies, true_implies, zr_e, zwr_o, zwr_s, Nat.reduceEqDiff]
  refine m_isType hI.1 ht' (fun b1 b2 => ?_) (fun b => ?_)
  · simp only [zs_111_0, zs_111_1, zs_111_2, zs_111_5, zs_111_8, zs_111_9, zs_111_10, zs_111_13, zs_111_16, zs_111_17, zs_111_18, zs_111_19, zs_111_22, zs_111_23, zs_111_24, zs_111_27, zs_111_28, zs_111_31, zs_111_32, zs_111_35, zs_111_36, zs_111_37, zs_111_38, zs_111_39, zs_111_40, zs_111_41, zs_111_42, zs_111_45, zs_111_46, zs_111_49, zs_111_50, za_49, zg_31_20, zrc_78, zrc_84, zli_0, zli_s, zlr_0, zlr_s, zls_0, zls_s, z1i_e, z2i_e, z1r_e, zir_e, ziir_e, z1v_e, z2v_e, zone_e, znil_e, zsp_0, zsp_s, zlz_0, zlz_1, zlz_2, zlz_3, zlz_4, zswp_0, zswp_s, true_and, and_true, implies_true, true_or, or_true, Int.reduceEq, Int.reduceLT, Int.reduceLE, Int.reduceNeg, not_true_eq_false, not_false_eq_true, false_implies, true_implies, zr_e, zwr_o, zwr_s, Nat.reduceEqDiff]
    refine m_isType hI.1 hu' (fun c1 c2 => ?_) (fun c => ?_)
    · simp only [zs_111_0, zs_111_1, zs_111_2, zs_111_5, zs_111_8, zs_111_9, zs_111_10, zs_111_13, zs_111_16, zs_111_17, zs_111_18, zs_111_19, zs_111_22, zs_111_23, zs_111_24, zs_111_27, zs_111_28, zs_111_31, zs_111_32, zs_111_35, zs_111_36, zs_111_37, zs_111_38, zs_111_39, zs_111_40, zs_111_41, zs_111_42, zs_111_45, zs_111_46, zs_111_49, zs_111_50, za_49, zg_31_20, zrc_78, zrc_84, zli_0, zli_s, zlr_0, zlr_s, zls_0, zls_s, z1i_e, z2i_e, z1r_e, zir_e, ziir_e, z1v_e, z2v_e, zone_e, znil_e, zsp_0, zsp_s, zlz_0, zlz_1, zlz_2, zlz_3, zlz_4, zswp_0, zswp_s, true_and, and_true, implies_true, true_or, or_true, Int.reduceEq, Int.reduceLT, Int.reduceLE, Int.reduceNeg, not_true_eq_false, not_false_eq_true, false_implies, true_implies, zr_e, zwr_o, zwr_s, Nat.reduceEqDiff]
      refine m_freshen hI ?_
      intro σ1 hs hI1 hF1
      obtain ⟨f1, f2, eB, e0, e7⟩ := fr_all hs
      have hfin := hok b1 b2 c1 c2 σ1 f1 hI1 f2 eB
      unfold aBel at hfin
      rw [← eB, ← AM_c hI1.1 hF1 b1 (by omega)] at hfin
      have hbit := zand_shr (a := σ1 49 t) (u := u) (by omega) (by omega)
      rw [hbit]
      have yes : (t = u ∨ u = 0 ∨ zbt (σ1 49 t) u = true) → Q 1 σ1 := fun z => by rw [if_pos z] at hfin; exact hfin
      have no : ¬ t = u → ¬ u = 0 → zbt (σ1 49 t) u = false → Q 0 σ1 := fun z1 z2 z3 => by
        rw [if_neg (by rintro (z | z | z); exact z1 z; exact z2 z; rw [z3] at z; cases z)] at hfin
        exact hfin
      refine ⟨ht, hu, fun d => yes (Or.inl d), fun d => ⟨hu, fun e => yes (Or.inr (Or.inl e)), fun e => ⟨b1, by omega, ?_⟩⟩⟩
      cases hb : zbt (σ1 49 t) u
      · exact ⟨⟨by decide, by decide⟩, fun _ => no d e hb, fun z => absurd z (by decide)⟩
      · exact ⟨⟨by decide, by decide⟩, fun z => absurd rfl z, fun _ => yes (Or.inr (Or.inr hb))⟩
    · simp only [zs_111_0, zs_111_1, zs_111_2, zs_111_5, zs_111_8, zs_111_9, zs_111_10, zs_111_13, zs_111_16, zs_111_17, zs_111_18, zs_111_19, zs_111_22, zs_111_23, zs_111_24, zs_111_27, zs_111_28, zs_111_31, zs_111_32, zs_111_35, zs_111_36, zs_111_37, zs_111_38, zs_111_39, zs_111_40, zs_111_41, zs_111_42, zs_111_45, zs_111_46, zs_111_49, zs_111_50, za_49, zg_31_20, zrc_78, zrc_84, zli_0, zli_s, zlr_0, zlr_s, zls_0, zls_s, z1i_e, z2i_e, z1r_e, zir_e, ziir_e, z1v_e, z2v_e, zone_e, znil_e, zsp_0, zsp_s, zlz_0, zlz_1, zlz_2, zlz_3, zlz_4, zswp_0, zswp_s, true_and, and_true, implies_true, true_or, or_true, Int.reduceEq, Int.reduceLT, Int.reduceLE, Int.reduceNeg, not_true_eq_false, not_false_eq_true, false_implies, true_implies, zr_e, zwr_o, zwr_s, Nat.reduceEqDiff]
      exact hbad (by omega)
  · simp only [zs_111_0, zs_111_1, zs_111_2, zs_111_5, zs_111_8, zs_111_9, zs_111_10, zs_111_13, zs_111_16, zs_111_17, zs_111_18, zs_111_19, zs_111_22, zs_111_23, zs_111_24, zs_111_27, zs_111_28, zs_111_31, zs_111_32, zs_111_35, zs_111_36, zs_111_37, zs_111_38, zs_111_39, zs_111_40, zs_111_41, zs_111_42, zs_111_45, zs_111_46, zs_111_49, zs_111_50, za_49, zg_31_20, zrc_78, zrc_84, zli_0, zli_s, zlr_0, zlr_s, zls_0, zls_s, z1i_e, z2i_e, z1r_e, zir_e, ziir_e, z1v_e, z2v_e, zone_e, znil_e, zsp_0, zsp_s, zlz_0, zlz_1, zlz_2, zlz_3, zlz_4, zswp_0, zswp_s, true_and, and_true, implies_true, true_or, or_true, Int.reduceEq, Int.reduceLT, Int.reduceLE, Int.reduceNeg, not_true_eq_false, not_false_eq_true, false_implies, true_implies, zr_e, zwr_o, zwr_s, Nat.reduceEqDiff]
    exact hbad (by omega)
set_option maxRecDepth 100000 in
theorem mp_latest {w : Int} (hI : IM σ) (hw : zr w) (hbad : σ 31 25 = 0 ∨ w < 0 ∨ 2 < w → Q (-1) σ) (h0 : ¬ σ 31 25 = 0 → w = 0 → Q (σ 31 26) σ) (h1 : ¬ σ 31 25 = 0 → w = 1 → Q (σ 31 27) σ) (h2 : ¬ σ 31 25 = 0 → w = 2 → Q (σ 31 28) σ) : zM 114 zF [.inr 31, .inl w] σ Q := by
  have hp := hI.2.2.1
  have hw' := hw
  simp only [zr] at hw
  refine ze_114 200 ?_
  simp only [zs_114_0, zs_114_1, zs_114_4, zs_114_7, zs_114_8, zs_114_9, zs_114_10, zs_114_13, zs_114_16, zs_114_17, zs_114_18, zs_114_19, zs_114_22, zs_114_23, zs_114_26, zs_114_29, zs_114_30, zs_114_31, zs_114_34, zs_114_35, zs_114_38, zs_114_41, zs_114_42, zs_114_45, zg_31_25, zg_31_26, zg_31_27, zg_31_28, zli_0, zli_s, zlr_0, zlr_s, zls_0, zls_s, z1i_e, z2i_e, z1r_e, zir_e, ziir_e, z1v_e, z2v_e, zone_e, znil_e, zsp_0, zsp_s, zlz_0, zlz_1, zlz_2, zlz_3, zlz_4, zswp_0, zswp_s, true_and, and_true, implies_true, true_or, or_true, Int.reduceEq, Int.reduceLT, Int.reduceLE, Int.reduceNeg, not_true_eq_false, not_false_eq_true, false_implies, true_implies, zr_e, zwr_o, zwr_s, Nat.reduceEqDiff]
  refine ⟨by omega, fun a => hbad (Or.inl a), fun a => ?_⟩
  refine m_in hw' zr_0 ⟨by decide, by decide⟩ (fun c1 c2 => ?_) (fun c => ?_)
  · simp only [zs_114_0, zs_114_1, zs_114_4, zs_114_7, zs_114_8, zs_114_9, zs_114_10, zs_114_13, zs_114_16, zs_114_17, zs_114_18, zs_114_19, zs_114_22, zs_114_23, zs_114_26, zs_114_29, zs_114_30, zs_114_31, zs_114_34, zs_114_35, zs_114_38, zs_114_41, zs_114_42, zs_114_45, zg_31_25, zg_31_26, zg_31_27, zg_31_28, zli_0, zli_s, zlr_0, zlr_s, zls_0, zls_s, z1i_e, z2i_e, z1r_e, zir_e, ziir_e, z1v_e, z2v_e, zone_e, znil_e, zsp_0, zsp_s, zlz_0, zlz_1, zlz_2, zlz_3, zlz_4, zswp_0, zswp_s, true_and, and_true, implies_true, true_or, or_true, Int.reduceEq, Int.reduceLT, Int.reduceLE, Int.reduceNeg, not_true_eq_false, not_false_eq_true, false_implies, true_implies, zr_e, zwr_o, zwr_s, Nat.reduceEqDiff]
    repeat' first | omega | (apply hbad; omega) | (apply h0 <;> omega) | (apply h1 <;> omega) | (apply h2 <;> omega) | apply And.intro | intro _
  · simp only [zs_114_0, zs_114_1, zs_114_4, zs_114_7, zs_114_8, zs_114_9, zs_114_10, zs_114_13, zs_114_16, zs_114_17, zs_114_18, zs_114_19, zs_114_22, zs_114_23, zs_114_26, zs_114_29, zs_114_30, zs_114_31, zs_114_34, zs_114_35, zs_114_38, zs_114_41, zs_114_42, zs_114_45, zg_31_25, zg_31_26, zg_31_27, zg_31_28, zli_0, zli_s, zlr_0, zlr_s, zls_0, zls_s, z1i_e, z2i_e, z1r_e, zir_e, ziir_e, z1v_e, z2v_e, zone_e, znil_e, zsp_0, zsp_s, zlz_0, zlz_1, zlz_2, zlz_3, zlz_4, zswp_0, zswp_s, true_and, and_true, implies_true, true_or, or_true, Int.reduceEq, Int.reduceLT, Int.reduceLE, Int.reduceNeg, not_true_eq_false, not_false_eq_true, false_implies, true_implies, zr_e, zwr_o, zwr_s, Nat.reduceEqDiff]
    exact hbad (Or.inr (by omega))
theorem gPfM_congr {H : Int → Int → List Int} {t : Int} (hB : Bd (bM σ)) (hF : FM σ) (h0 : 0 ≤ t) (h1 : t < σ 31 0) (h : ∀ n u, 0 ≤ n → n < 10 → 0 ≤ u → u < σ 31 0 → rM σ n u = H n u) : ∀ (k : Nat) (nx s la st : Int), nx < σ 31 7 → gPf (bM σ) (rM σ) t k nx s la st = gPf (bM σ) H t k nx s la st
  | 0, _, _, _, _, _ => rfl
  | k + 1, nx, s, la, st, hn => by
    simp only [gPf]
    split
    · rfl
    · rename_i hneg
      have e := gNx_congr (B := bM σ) hB h0 h1 (show 0 ≤ nx by omega) (show nx < bM σ 17 0 from hn) h
      rw [← e]
      exact gPfM_congr hB hF h0 h1 h k _ _ _ _ (nx_okB hB (rM_b hF) h0 h1 (by omega) hn).2.1
theorem gPfM_r {t : Int} (hB : Bd (bM σ)) (hF : FM σ) (h0 : 0 ≤ t) (h1 : t < σ 31 0) : ∀ (k : Nat) (nx s la st : Int), -7 ≤ nx → nx < σ 31 7 → -4 ≤ la → la < 60 → 0 ≤ st → (-4 ≤ (gPf (bM σ) (rM σ) t k nx s la st).2.1 ∧ (gPf (bM σ) (rM σ) t k nx s la st).2.1 < 60 ∧ 0 ≤ (gPf (bM σ) (rM σ) t k nx s la st).2.2.1 ∧ (gPf (bM σ) (rM σ) t k nx s la st).2.2.1 ≤ st + k ∧ -7 ≤ (gPf (bM σ) (rM σ) t k nx s la st).2.2.2)
  | 0, nx, s, la, st, hn, hn2, l0, l1, s0 => by
    simp only [gPf]
    exact ⟨l0, l1, s0, by omega, hn⟩
  | k + 1, nx, s, la, st, hn, hn2, l0, l1, s0 => by
    have hnn : 1 ≤ σ 31 0 ∧ σ 31 0 ≤ 16 ∧ 3 ≤ σ 31 7 ∧ σ 31 7 ≤ 60 := hB.n
    simp only [gPf]
    split
    · exact ⟨l0, l1, s0, by show st ≤ _; omega, hn⟩
    · rename_i hneg
      have hx := nx_okB hB (rM_b hF) h0 h1 (show 0 ≤ nx by omega) hn2
      have := gPfM_r hB hF h0 h1 k (gNx (bM σ) (rM σ) t nx) (s + bM σ 9 nx) nx (st + 1) hx.1 hx.2.1 (by omega) (by omega) (by omega)
      refine ⟨this.1, this.2.1, this.2.2.1, by omega, this.2.2.2.2⟩
set_option maxRecDepth 100000 in
theorem mp_call {t n : Int} (hI : IM σ) (ht : zr t) (hn : zr n) (hbad : ¬ (0 ≤ t ∧ t < σ 31 0 ∧ σ 32 t = 0 ∧ 0 ≤ n ∧ n < 10) → Q (-1) σ)
    (hok : 0 ≤ t → t < σ 31 0 → σ 32 t = 0 → 0 ≤ n → n < 10 → ∀ σ', zN σ σ' → IM σ' → σ' 31 25 = 1 → σ' 31 27 = (aPf (bM σ) t n).2.2.1 → σ' 31 28 = (aPf (bM σ) t n).2.1 → σ' 31 26 = (if 0 ≤ (aPf (bM σ) t n).2.2.2 then 4 else -4 - (aPf (bM σ) t n).2.2.2) → bM σ' = bM σ → Q (aPf (bM σ) t n).1 σ') : zM 113 zF [.inr 31, .inl t, .inl n] σ Q := by
  have hnn := hI.n
  refine ze_113 200 ?_
  simp only [zs_113_0, zs_113_1, zs_113_2, zs_113_5, zs_113_8, zs_113_9, zs_113_12, zs_113_13, zs_113_14, zs_113_17, zs_113_18, zs_113_19, zs_113_21, zs_113_24, zs_113_27, zs_113_28, zs_113_29, zs_113_30, zs_113_33, zs_113_34, zs_113_35, zs_113_38, zs_113_39, zs_113_40, zs_113_43, zs_113_44, zs_113_45, zs_113_48, zs_113_49, zs_113_51, zs_113_54, zs_113_55, zs_113_56, zs_113_57, zs_113_59, zs_113_60, zs_113_62, zs_113_63, zs_113_64, zs_113_65, zs_113_68, zs_113_70, zs_113_72, zs_113_75, zs_113_77, zs_113_80, zs_113_81, zs_113_84, zs_113_86, zs_113_89, zs_113_90, zs_113_92, zs_113_95, zs_113_97, zs_113_99, zs_113_100, zs_113_103, zs_113_104, zs_113_107, zs_113_108, zs_113_110, zs_113_113, zs_113_114, zs_113_115, zs_113_118, zs_113_119, zs_113_120, zs_113_123, zs_113_124, zs_113_126, zs_113_129, zs_113_130, zs_113_131, zs_113_134, zs_113_136, zs_113_137, zs_113_138, zs_113_139, zs_113_140, zs_113_143, zs_113_145, zs_113_146, zs_113_149, zs_113_150, zs_113_153, zs_113_154, zs_113_156, zs_113_158, zs_113_161, zs_113_162, zs_113_163, zs_113_165, zs_113_167, zs_113_170, zs_113_172, zs_113_174, zs_113_175, zs_113_178, zs_113_180, zs_113_181, zs_113_182, zs_113_185, zs_113_186, zs_113_189, zs_113_190, zs_113_191, zs_113_193, zs_113_195, zs_113_197, zs_113_200, zs_113_201, za_32, za_42, za_43, zg_31_1, zg_31_12, zg_31_13, zg_31_27, zp_31_25, zp_31_26, zp_31_27, zp_31_28, zrc_112, zrc_78, zrc_84, zrc_88, zli_0, zli_s, zlr_0, zlr_s, zls_0, zls_s, z1i_e, z2i_e, z1r_e, zir_e, ziir_e, z1v_e, z2v_e, zone_e, znil_e, zsp_0, zsp_s, zlz_0, zlz_1, zlz_2, zlz_3, zlz_4, zswp_0, zswp_s, true_and, and_true, implies_true, true_or, or_true, Int.reduceEq, Int.reduceLT, Int.reduceLE, Int.reduceNeg, not_true_eq_false, not_false_eq_true, false_implies, true_implies, zr_e, zwr_o, zwr_s, Nat.reduceEqDiff]
  refine m_isType hI.1 ht (fun b1 b2 => ?_) (fun b => ?_)
  · have hk : 0 ≤ σ 32 t ∧ σ 32 t ≤ 2 := hI.1.kind t b1 (by omega)
    simp only [zs_113_0, zs_113_1, zs_113_2, zs_113_5, zs_113_8, zs_113_9, zs_113_12, zs_113_13, zs_113_14, zs_113_17, zs_113_18, zs_113_19, zs_113_21, zs_113_24, zs_113_27, zs_113_28, zs_113_29, zs_113_30, zs_113_33, zs_113_34, zs_113_35, zs_113_38, zs_113_39, zs_113_40, zs_113_43, zs_113_44, zs_113_45, zs_113_48, zs_113_49, zs_113_51, zs_113_54, zs_113_55, zs_113_56, zs_113_57, zs_113_59, zs_113_60, zs_113_62, zs_113_63, zs_113_64, zs_113_65, zs_113_68, zs_113_70, zs_113_72, zs_113_75, zs_113_77, zs_113_80, zs_113_81, zs_113_84, zs_113_86, zs_113_89, zs_113_90, zs_113_92, zs_113_95, zs_113_97, zs_113_99, zs_113_100, zs_113_103, zs_113_104, zs_113_107, zs_113_108, zs_113_110, zs_113_113, zs_113_114, zs_113_115, zs_113_118, zs_113_119, zs_113_120, zs_113_123, zs_113_124, zs_113_126, zs_113_129, zs_113_130, zs_113_131, zs_113_134, zs_113_136, zs_113_137, zs_113_138, zs_113_139, zs_113_140, zs_113_143, zs_113_145, zs_113_146, zs_113_149, zs_113_150, zs_113_153, zs_113_154, zs_113_156, zs_113_158, zs_113_161, zs_113_162, zs_113_163, zs_113_165, zs_113_167, zs_113_170, zs_113_172, zs_113_174, zs_113_175, zs_113_178, zs_113_180, zs_113_181, zs_113_182, zs_113_185, zs_113_186, zs_113_189, zs_113_190, zs_113_191, zs_113_193, zs_113_195, zs_113_197, zs_113_200, zs_113_201, za_32, za_42, za_43, zg_31_1, zg_31_12, zg_31_13, zg_31_27, zp_31_25, zp_31_26, zp_31_27, zp_31_28, zrc_112, zrc_78, zrc_84, zrc_88, zli_0, zli_s, zlr_0, zlr_s, zls_0, zls_s, z1i_e, z2i_e, z1r_e, zir_e, ziir_e, z1v_e, z2v_e, zone_e, znil_e, zsp_0, zsp_s, zlz_0, zlz_1, zlz_2, zlz_3, zlz_4, zswp_0, zswp_s, true_and, and_true, implies_true, true_or, or_true, Int.reduceEq, Int.reduceLT, Int.reduceLE, Int.reduceNeg, not_true_eq_false, not_false_eq_true, false_implies, true_implies, zr_e, zwr_o, zwr_s, Nat.reduceEqDiff]
    refine ⟨b1, by omega, by omega, fun d => hbad (by omega), fun d => ?_⟩
    refine m_in hn zr_0 ⟨by decide, by decide⟩ (fun c1 c2 => ?_) (fun c => ?_)
    · simp only [zs_113_0, zs_113_1, zs_113_2, zs_113_5, zs_113_8, zs_113_9, zs_113_12, zs_113_13, zs_113_14, zs_113_17, zs_113_18, zs_113_19, zs_113_21, zs_113_24, zs_113_27, zs_113_28, zs_113_29, zs_113_30, zs_113_33, zs_113_34, zs_113_35, zs_113_38, zs_113_39, zs_113_40, zs_113_43, zs_113_44, zs_113_45, zs_113_48, zs_113_49, zs_113_51, zs_113_54, zs_113_55, zs_113_56, zs_113_57, zs_113_59, zs_113_60, zs_113_62, zs_113_63, zs_113_64, zs_113_65, zs_113_68, zs_113_70, zs_113_72, zs_113_75, zs_113_77, zs_113_80, zs_113_81, zs_113_84, zs_113_86, zs_113_89, zs_113_90, zs_113_92, zs_113_95, zs_113_97, zs_113_99, zs_113_100, zs_113_103, zs_113_104, zs_113_107, zs_113_108, zs_113_110, zs_113_113, zs_113_114, zs_113_115, zs_113_118, zs_113_119, zs_113_120, zs_113_123, zs_113_124, zs_113_126, zs_113_129, zs_113_130, zs_113_131, zs_113_134, zs_113_136, zs_113_137, zs_113_138, zs_113_139, zs_113_140, zs_113_143, zs_113_145, zs_113_146, zs_113_149, zs_113_150, zs_113_153, zs_113_154, zs_113_156, zs_113_158, zs_113_161, zs_113_162, zs_113_163, zs_113_165, zs_113_167, zs_113_170, zs_113_172, zs_113_174, zs_113_175, zs_113_178, zs_113_180, zs_113_181, zs_113_182, zs_113_185, zs_113_186, zs_113_189, zs_113_190, zs_113_191, zs_113_193, zs_113_195, zs_113_197, zs_113_200, zs_113_201, za_32, za_42, za_43, zg_31_1, zg_31_12, zg_31_13, zg_31_27, zp_31_25, zp_31_26, zp_31_27, zp_31_28, zrc_112, zrc_78, zrc_84, zrc_88, zli_0, zli_s, zlr_0, zlr_s, zls_0, zls_s, z1i_e, z2i_e, z1r_e, zir_e, ziir_e, z1v_e, z2v_e, zone_e, znil_e, zsp_0, zsp_s, zlz_0, zlz_1, zlz_2, zlz_3, zlz_4, zswp_0, zswp_s, true_and, and_true, implies_true, true_or, or_true, Int.reduceEq, Int.reduceLT, Int.reduceLE, Int.reduceNeg, not_true_eq_false, not_false_eq_true, false_implies, true_implies, zr_e, zwr_o, zwr_s, Nat.reduceEqDiff]
      refine m_freshen hI ?_
      intro σ1 hs hI1 hF1
      obtain ⟨f1, f2, eB, e0, e7⟩ := fr_all hs
      have hz : zmm [] [25, 26, 27, 28] σ1 (zwr (zwr (zwr (zwr σ1 31 25 1) 31 26 0) 31 27 0) 31 28 (-4)) := zmm_wf (zmm_wf (zmm_wf (zmm_wf zmm_rf (by decide)) (by decide)) (by decide)) (by decide)
      have g25 : zwr (zwr (zwr (zwr σ1 31 25 1) 31 26 0) 31 27 0) 31 28 (-4) 31 25 = 1 := by simp [zwr]
      have g26 : zwr (zwr (zwr (zwr σ1 31 25 1) 31 26 0) 31 27 0) 31 28 (-4) 31 26 = 0 := by simp [zwr]
      have g27 : zwr (zwr (zwr (zwr σ1 31 25 1) 31 26 0) 31 27 0) 31 28 (-4) 31 27 = 0 := by simp [zwr]
      have g28 : zwr (zwr (zwr (zwr σ1 31 25 1) 31 26 0) 31 27 0) 31 28 (-4) 31 28 = -4 := by simp [zwr]
      generalize zwr (zwr (zwr (zwr σ1 31 25 1) 31 26 0) 31 27 0) 31 28 (-4) = σ2 at *
      have eB2 : bM σ2 = bM σ := by rw [bM_mm hz (by decide) (by decide) (by decide), eB]
      have hB2 : Bd (bM σ2) := by rw [eB2]; exact hI.1
      have hF2 : FM σ2 := FM_sm hI1.1 hz (by decide) (by decide) (by decide) hF1
      have e02 : σ2 31 0 = σ 31 0 := by rw [hz.2 0 (by decide), e0]
      have e72 : σ2 31 7 = σ 31 7 := by rw [hz.2 7 (by decide), e7]
      have b2' : t < σ2 31 0 := by rw [e02]; exact b2
      have hr := (hF2.2 n t c1 (by omega) b1 b2').1
      have hb := gRX_b (B := bM σ2) (l := rM σ2 n t) (show 0 ≤ σ2 31 7 by omega) (rM_b hF2 n t c1 (by omega) b1 b2')
      have hso := gRX_s (B := bM σ2) (rM σ2 n t) 0 (-4) 0 (fun z => absurd z (by decide))
      have hP : gPf (bM σ2) (rM σ2) t 30 (gRX (bM σ2) (rM σ2 n t) 0 (-4) 0) 0 (-4) 0 = aPf (bM σ) t n := by
        rw [gPfM_congr (H := cRow (bM σ)) hB2 hF2 b1 b2' (fun n u n0 n1 u0 u1 => by rw [← eB2]; exact RM_c hB2 hF2 n0 n1 u0 u1) 30 _ 0 (-4) 0 hb.2, RM_c hB2 hF2 c1 (by omega) b1 b2', eB2]
        rfl
      have hrg := gPfM_r hB2 hF2 b1 b2' 30 (gRX (bM σ2) (rM σ2 n t) 0 (-4) 0) 0 (-4) 0 hb.1 hb.2 (by omega) (by omega) (by omega)
      rw [hP] at hrg
      have hok := hok b1 b2 d c1 (by omega)
      refine m_runsOf hB2 b1 (by omega) c1 (by omega) hr ?_
      refine m_call_loop hB2 hF2 b1 b2' (aPf (bM σ) t n) ?_ 30 _ 0 (-4) 0 1 σ2 none (by decide) (by decide) hb.1 hb.2 (fun z => Or.inr ⟨rfl, hso z⟩) zmm_rf g27 g28 g26 hP
      intro σ3 hs3 h27 h28 h26
      have eB3 : bM σ3 = bM σ := by rw [bM_mm hs3 (by decide) (by decide) (by decide), eB2]
      have h25 : σ3 31 25 = 1 := by rw [hs3.2 25 (by decide), g25]
      refine hok σ3 (zN_tr f1 (zN_tr (zN_mm hz (by decide)) (zN_mm hs3 (by decide)))) ⟨by rw [eB3]; exact hI.1, ?_, Or.inr h25, ?_, ?_, ?_, ?_⟩ h25 h27 h28 h26 eB3
      · rw [hs3.2 19 (by decide), hz.2 19 (by decide)]
        rcases hI1.2.1 with z | z
        · exact Or.inl z
        · exact Or.inr ⟨z.1, FM_sm hB2 hs3 (by decide) (by decide) (by decide) hF2⟩
      · rw [h26]
        split
        · exact ⟨by decide, by decide⟩
        · exact ⟨by omega, by omega⟩
      · rw [h27]; exact ⟨by omega, by omega⟩
      · rw [h28]; exact ⟨by omega, by omega⟩
      · rw [hs3.1 39 (by decide) (by decide), hs3.1 46 (by decide) (by decide), hz.1 39 (by decide) (by decide), hz.1 46 (by decide) (by decide)]
        exact hI1.names
    · simp only [zs_113_0, zs_113_1, zs_113_2, zs_113_5, zs_113_8, zs_113_9, zs_113_12, zs_113_13, zs_113_14, zs_113_17, zs_113_18, zs_113_19, zs_113_21, zs_113_24, zs_113_27, zs_113_28, zs_113_29, zs_113_30, zs_113_33, zs_113_34, zs_113_35, zs_113_38, zs_113_39, zs_113_40, zs_113_43, zs_113_44, zs_113_45, zs_113_48, zs_113_49, zs_113_51, zs_113_54, zs_113_55, zs_113_56, zs_113_57, zs_113_59, zs_113_60, zs_113_62, zs_113_63, zs_113_64, zs_113_65, zs_113_68, zs_113_70, zs_113_72, zs_113_75, zs_113_77, zs_113_80, zs_113_81, zs_113_84, zs_113_86, zs_113_89, zs_113_90, zs_113_92, zs_113_95, zs_113_97, zs_113_99, zs_113_100, zs_113_103, zs_113_104, zs_113_107, zs_113_108, zs_113_110, zs_113_113, zs_113_114, zs_113_115, zs_113_118, zs_113_119, zs_113_120, zs_113_123, zs_113_124, zs_113_126, zs_113_129, zs_113_130, zs_113_131, zs_113_134, zs_113_136, zs_113_137, zs_113_138, zs_113_139, zs_113_140, zs_113_143, zs_113_145, zs_113_146, zs_113_149, zs_113_150, zs_113_153, zs_113_154, zs_113_156, zs_113_158, zs_113_161, zs_113_162, zs_113_163, zs_113_165, zs_113_167, zs_113_170, zs_113_172, zs_113_174, zs_113_175, zs_113_178, zs_113_180, zs_113_181, zs_113_182, zs_113_185, zs_113_186, zs_113_189, zs_113_190, zs_113_191, zs_113_193, zs_113_195, zs_113_197, zs_113_200, zs_113_201, za_32, za_42, za_43, zg_31_1, zg_31_12, zg_31_13, zg_31_27, zp_31_25, zp_31_26, zp_31_27, zp_31_28, zrc_112, zrc_78, zrc_84, zrc_88, zli_0, zli_s, zlr_0, zlr_s, zls_0, zls_s, z1i_e, z2i_e, z1r_e, zir_e, ziir_e, z1v_e, z2v_e, zone_e, znil_e, zsp_0, zsp_s, zlz_0, zlz_1, zlz_2, zlz_3, zlz_4, zswp_0, zswp_s, true_and, and_true, implies_true, true_or, or_true, Int.reduceEq, Int.reduceLT, Int.reduceLE, Int.reduceNeg, not_true_eq_false, not_false_eq_true, false_implies, true_implies, zr_e, zwr_o, zwr_s, Nat.reduceEqDiff]
      exact hbad (by omega)
  · simp only [zs_113_0, zs_113_1, zs_113_2, zs_113_5, zs_113_8, zs_113_9, zs_113_12, zs_113_13, zs_113_14, zs_113_17, zs_113_18, zs_113_19, zs_113_21, zs_113_24, zs_113_27, zs_113_28, zs_113_29, zs_113_30, zs_113_33, zs_113_34, zs_113_35, zs_113_38, zs_113_39, zs_113_40, zs_113_43, zs_113_44, zs_113_45, zs_113_48, zs_113_49, zs_113_51, zs_113_54, zs_113_55, zs_113_56, zs_113_57, zs_113_59, zs_113_60, zs_113_62, zs_113_63, zs_113_64, zs_113_65, zs_113_68, zs_113_70, zs_113_72, zs_113_75, zs_113_77, zs_113_80, zs_113_81, zs_113_84, zs_113_86, zs_113_89, zs_113_90, zs_113_92, zs_113_95, zs_113_97, zs_113_99, zs_113_100, zs_113_103, zs_113_104, zs_113_107, zs_113_108, zs_113_110, zs_113_113, zs_113_114, zs_113_115, zs_113_118, zs_113_119, zs_113_120, zs_113_123, zs_113_124, zs_113_126, zs_113_129, zs_113_130, zs_113_131, zs_113_134, zs_113_136, zs_113_137, zs_113_138, zs_113_139, zs_113_140, zs_113_143, zs_113_145, zs_113_146, zs_113_149, zs_113_150, zs_113_153, zs_113_154, zs_113_156, zs_113_158, zs_113_161, zs_113_162, zs_113_163, zs_113_165, zs_113_167, zs_113_170, zs_113_172, zs_113_174, zs_113_175, zs_113_178, zs_113_180, zs_113_181, zs_113_182, zs_113_185, zs_113_186, zs_113_189, zs_113_190, zs_113_191, zs_113_193, zs_113_195, zs_113_197, zs_113_200, zs_113_201, za_32, za_42, za_43, zg_31_1, zg_31_12, zg_31_13, zg_31_27, zp_31_25, zp_31_26, zp_31_27, zp_31_28, zrc_112, zrc_78, zrc_84, zrc_88, zli_0, zli_s, zlr_0, zlr_s, zls_0, zls_s, z1i_e, z2i_e, z1r_e, zir_e, ziir_e, z1v_e, z2v_e, zone_e, znil_e, zsp_0, zsp_s, zlz_0, zlz_1, zlz_2, zlz_3, zlz_4, zswp_0, zswp_s, true_and, and_true, implies_true, true_or, or_true, Int.reduceEq, Int.reduceLT, Int.reduceLE, Int.reduceNeg, not_true_eq_false, not_false_eq_true, false_implies, true_implies, zr_e, zwr_o, zwr_s, Nat.reduceEqDiff]
    exact hbad (by omega)
set_option maxRecDepth 100000 in
theorem m_told_loop {w : Int} (hI : IM σ) (h : ∀ σ', zmm [49, 50, 51, 52, 53] [19, 29, 30, 31, 32] σ σ' → IM σ' → Q (aCf (bM σ) (σ 31 0).toNat) σ') :
    ∀ (k : Nat) (t : Int) (σ2 : zS), 0 ≤ t → t ≤ σ 31 0 → (σ 31 0 - t).toNat = k → zmm [49, 50, 51, 52, 53] [19, 29, 30, 31, 32] σ σ2 → IM σ2 → zV 115 zF Q 36 [some (.inr 31), some (.inl w), some (.inl (aCf (bM σ) t.toNat)), some (.inl t)] [] σ2 := by
  have hnn := hI.n
  intro k
  induction k with
  | zero =>
    intro t σ2 t0 t1 tk hs hI2
    obtain ⟨-, -, -, e0, -⟩ := lk_all hs
    refine zv_115 200 ?_
    simp only [zs_115_0, zs_115_1, zs_115_2, zs_115_3, zs_115_6, zs_115_9, zs_115_10, zs_115_11, zs_115_12, zs_115_13, zs_115_16, zs_115_17, zs_115_20, zs_115_21, zs_115_24, zs_115_27, zs_115_28, zs_115_31, zs_115_32, zs_115_33, zs_115_34, zs_115_35, zs_115_36, zs_115_37, zs_115_38, zs_115_41, zs_115_44, zs_115_45, zs_115_46, zs_115_48, zs_115_51, zs_115_52, zs_115_53, zs_115_56, zs_115_59, zs_115_60, zs_115_63, zs_115_64, zs_115_65, zs_115_66, zs_115_69, zs_115_72, zs_115_73, zs_115_36h, zg_31_0, zg_31_30, zg_31_7, zrc_96, zli_0, zli_s, zlr_0, zlr_s, zls_0, zls_s, z1i_e, z2i_e, z1r_e, zir_e, ziir_e, z1v_e, z2v_e, zone_e, znil_e, zsp_0, zsp_s, zlz_0, zlz_1, zlz_2, zlz_3, zlz_4, zswp_0, zswp_s, true_and, and_true, implies_true, true_or, or_true, Int.reduceEq, Int.reduceLT, Int.reduceLE, Int.reduceNeg, not_true_eq_false, not_false_eq_true, false_implies, true_implies, zr_e, zwr_o, zwr_s, Nat.reduceEqDiff]
    rw [e0]
    refine ⟨by omega, by omega, fun a => ?_, fun a => False.elim (by omega)⟩
    have e : t = σ 31 0 := by omega
    rw [e]
    exact h σ2 hs hI2
  | succ k ih =>
    intro t σ2 t0 t1 tk hs hI2
    obtain ⟨-, -, eB, e0, -⟩ := lk_all hs
    have es : aCf (bM σ) (t + 1).toNat = aCf (bM σ) t.toNat + (if (cCol (bM σ) t).length = 0 then 1 else 0) := by
      have e : (t + 1).toNat = t.toNat + 1 := by omega
      have e2 : ((t.toNat : Nat) : Int) = t := by omega
      rw [e, aCf, e2]
    refine zv_115 200 ?_
    simp only [zs_115_0, zs_115_1, zs_115_2, zs_115_3, zs_115_6, zs_115_9, zs_115_10, zs_115_11, zs_115_12, zs_115_13, zs_115_16, zs_115_17, zs_115_20, zs_115_21, zs_115_24, zs_115_27, zs_115_28, zs_115_31, zs_115_32, zs_115_33, zs_115_34, zs_115_35, zs_115_36, zs_115_37, zs_115_38, zs_115_41, zs_115_44, zs_115_45, zs_115_46, zs_115_48, zs_115_51, zs_115_52, zs_115_53, zs_115_56, zs_115_59, zs_115_60, zs_115_63, zs_115_64, zs_115_65, zs_115_66, zs_115_69, zs_115_72, zs_115_73, zs_115_36h, zg_31_0, zg_31_30, zg_31_7, zrc_96, zli_0, zli_s, zlr_0, zlr_s, zls_0, zls_s, z1i_e, z2i_e, z1r_e, zir_e, ziir_e, z1v_e, z2v_e, zone_e, znil_e, zsp_0, zsp_s, zlz_0, zlz_1, zlz_2, zlz_3, zlz_4, zswp_0, zswp_s, true_and, and_true, implies_true, true_or, or_true, Int.reduceEq, Int.reduceLT, Int.reduceLE, Int.reduceNeg, not_true_eq_false, not_false_eq_true, false_implies, true_implies, zr_e, zwr_o, zwr_s, Nat.reduceEqDiff]
    rw [e0]
    refine ⟨by omega, by omega, fun a => False.elim (by omega), fun a => ?_⟩
    refine m_look hI2 t0 (by omega) ⟨by decide, by decide⟩ ?_
    intro σ3 hs3 hI3 hF3 _ hf
    have hs4 := zmm_tr hs hs3 (by decide) (by decide)
    obtain ⟨-, -, eB4, e04, -⟩ := lk_all hs4
    have hcl := col_len hI3.1 hF3 t0 (by omega)
    rw [eB4] at hcl
    have g1 := hf.1
    rw [eB] at g1
    have nx := ih (t + 1) σ3 (by omega) (by omega) (by omega) hs4 hI3
    rw [es] at nx
    clear ih
    refine ⟨by omega, fun b => ?_, fun b => ?_⟩
    · rw [if_neg (by omega)] at nx
      exact nx
    · rw [if_pos (by omega)] at nx
      exact nx
set_option maxRecDepth 100000 in
theorem mp_told {w : Int} (hI : IM σ) (hw : zr w) (hbad : w < 0 ∨ 2 < w → Q (-1) σ) (h0 : w = 0 → Q (σ 31 0) σ) (h1 : w = 1 → Q (σ 31 7) σ)
    (h2 : w = 2 → ∀ σ', zN σ σ' → IM σ' → mL σ σ' → bM σ' = bM σ → Q (aCf (bM σ) (σ 31 0).toNat) σ') : zM 115 zF [.inr 31, .inl w] σ Q := by
  have hnn := hI.n
  have hw' := hw
  simp only [zr] at hw
  refine ze_115 200 ?_
  simp only [zs_115_0, zs_115_1, zs_115_2, zs_115_3, zs_115_6, zs_115_9, zs_115_10, zs_115_11, zs_115_12, zs_115_13, zs_115_16, zs_115_17, zs_115_20, zs_115_21, zs_115_24, zs_115_27, zs_115_28, zs_115_31, zs_115_32, zs_115_33, zs_115_34, zs_115_35, zs_115_36, zs_115_37, zs_115_38, zs_115_41, zs_115_44, zs_115_45, zs_115_46, zs_115_48, zs_115_51, zs_115_52, zs_115_53, zs_115_56, zs_115_59, zs_115_60, zs_115_63, zs_115_64, zs_115_65, zs_115_66, zs_115_69, zs_115_72, zs_115_73, zg_31_0, zg_31_30, zg_31_7, zrc_96, zli_0, zli_s, zlr_0, zlr_s, zls_0, zls_s, z1i_e, z2i_e, z1r_e, zir_e, ziir_e, z1v_e, z2v_e, zone_e, znil_e, zsp_0, zsp_s, zlz_0, zlz_1, zlz_2, zlz_3, zlz_4, zswp_0, zswp_s, true_and, and_true, implies_true, true_or, or_true, Int.reduceEq, Int.reduceLT, Int.reduceLE, Int.reduceNeg, not_true_eq_false, not_false_eq_true, false_implies, true_implies, zr_e, zwr_o, zwr_s, Nat.reduceEqDiff]
  refine m_in hw' zr_0 ⟨by decide, by decide⟩ (fun c1 c2 => ?_) (fun c => ?_)
  · simp only [zs_115_0, zs_115_1, zs_115_2, zs_115_3, zs_115_6, zs_115_9, zs_115_10, zs_115_11, zs_115_12, zs_115_13, zs_115_16, zs_115_17, zs_115_20, zs_115_21, zs_115_24, zs_115_27, zs_115_28, zs_115_31, zs_115_32, zs_115_33, zs_115_34, zs_115_35, zs_115_36, zs_115_37, zs_115_38, zs_115_41, zs_115_44, zs_115_45, zs_115_46, zs_115_48, zs_115_51, zs_115_52, zs_115_53, zs_115_56, zs_115_59, zs_115_60, zs_115_63, zs_115_64, zs_115_65, zs_115_66, zs_115_69, zs_115_72, zs_115_73, zg_31_0, zg_31_30, zg_31_7, zrc_96, zli_0, zli_s, zlr_0, zlr_s, zls_0, zls_s, z1i_e, z2i_e, z1r_e, zir_e, ziir_e, z1v_e, z2v_e, zone_e, znil_e, zsp_0, zsp_s, zlz_0, zlz_1, zlz_2, zlz_3, zlz_4, zswp_0, zswp_s, true_and, and_true, implies_true, true_or, or_true, Int.reduceEq, Int.reduceLT, Int.reduceLE, Int.reduceNeg, not_true_eq_false, not_false_eq_true, false_implies, true_implies, zr_e, zwr_o, zwr_s, Nat.reduceEqDiff]
    refine ⟨hw, fun a => ?_, fun a => ⟨hw, fun b => h1 (by omega), fun b => h0 b⟩⟩
    refine m_told_loop hI ?_ _ 0 σ (by omega) (by omega) rfl zmm_rf hI
    intro σ1 hs hI1
    obtain ⟨f1, f2, eB, -, -⟩ := lk_all hs
    exact h2 (by omega) σ1 f1 hI1 f2 eB
  · simp only [zs_115_0, zs_115_1, zs_115_2, zs_115_3, zs_115_6, zs_115_9, zs_115_10, zs_115_11, zs_115_12, zs_115_13, zs_115_16, zs_115_17, zs_115_20, zs_115_21, zs_115_24, zs_115_27, zs_115_28, zs_115_31, zs_115_32, zs_115_33, zs_115_34, zs_115_35, zs_115_36, zs_115_37, zs_115_38, zs_115_41, zs_115_44, zs_115_45, zs_115_46, zs_115_48, zs_115_51, zs_115_52, zs_115_53, zs_115_56, zs_115_59, zs_115_60, zs_115_63, zs_115_64, zs_115_65, zs_115_66, zs_115_69, zs_115_72, zs_115_73, zg_31_0, zg_31_30, zg_31_7, zrc_96, zli_0, zli_s, zlr_0, zlr_s, zls_0, zls_s, z1i_e, z2i_e, z1r_e, zir_e, ziir_e, z1v_e, z2v_e, zone_e, znil_e, zsp_0, zsp_s, zlz_0, zlz_1, zlz_2, zlz_3, zlz_4, zswp_0, zswp_s, true_and, and_true, implies_true, true_or, or_true, Int.reduceEq, Int.reduceLT, Int.reduceLE, Int.reduceNeg, not_true_eq_false, not_false_eq_true, false_implies, true_implies, zr_e, zwr_o, zwr_s, Nat.reduceEqDiff]
    exact hbad (by omega)
end MP2
