/-! the public methods of X that answer questions -/
section XP3
variable {σ : zS} {Q : Int → zS → Prop}
theorem IX_fresh {σ' : zS} (hI : IX σ) (hs : zsm [3, 25, 26, 27, 28] σ σ') (hF : FX σ') : IX σ' := by
  have eB : bX σ' = bX σ := bX_sm hs (by decide)
  refine ⟨by rw [eB]; exact hI.1, fun u u0 u1 => ?_, hF, by rw [hs 5 (by decide)]; exact hI.2.2.2⟩
  rw [hs 1 (by decide)] at u1
  exact AXt_base (by rw [eB]) (by rw [eB]) (by rw [eB]) (by rw [eB]) (hs 12 (by decide)) (hs 13 (by decide)) (hI.2.1 u u0 u1)
theorem IX_sm {σ' : zS} {L : List Nat} (hI : IX σ) (hs : zsm L σ σ') (hL : ∀ c, c ∈ [1, 2, 5, 6, 7, 8, 9, 10, 11, 12, 13, 14, 15, 17, 18, 19, 20, 21, 22, 23, 24, 25, 26, 27] → c ∉ L) : IX σ' := by
  have eB : bX σ' = bX σ := bX_sm hs (fun c hc => hL c (by simp only [List.mem_cons, List.not_mem_nil, or_false] at hc ⊢; omega))
  exact IX_keep hI (by rw [eB]; exact hI.1) (by rw [eB]) (by rw [eB]) (by rw [eB]) (by rw [eB]) (by rw [eB]) (by rw [eB]) (by rw [eB]) (by rw [eB]) (by rw [hs 1 (hL 1 (by decide))]) (hs 12 (hL 12 (by decide))) (hs 13 (hL 13 (by decide))) (hs 25 (hL 25 (by decide))) (hs 26 (hL 26 (by decide))) (hs 27 (hL 27 (by decide))) (hs 5 (hL 5 (by decide)))
theorem IX.row (hI : IX σ) {n t : Int} (hf : σ 25 n = 1) (n0 : 0 ≤ n) (n1 : n < 10) (t0 : 0 ≤ t) (t1 : t < σ 1 0) : rOK σ n t ∧ rX σ n t = cRow (bX σ) n t :=
  ⟨(hI.2.2.1.2.2 n n0 n1 hf t t0 t1).1, RX_c hI.1 hI.2.1 (hI.2.2.1.2.2 n n0 n1 hf) t0 t1⟩
theorem IX.all (hI : IX σ) (hf : ∀ n, 0 ≤ n → n < 10 → σ 25 n = 1) : AllR σ := fun n t n0 n1 t0 t1 => (hI.row (hf n n0 n1) n0 n1 t0 t1).1
set_option maxRecDepth 100000 in
theorem xp_has {t n i : Int} (hI : IX σ) (ht : zr t) (hn : zr n) (hi : zr i) (hbad : ¬ (0 ≤ t ∧ t < σ 1 0 ∧ 0 ≤ n ∧ n < 10) → Q (-1) σ)
    (hok : 0 ≤ t → t < σ 1 0 → 0 ≤ n → n < 10 → ∀ σ', zX σ σ' → IX σ' → σ' 5 = σ 5 → bX σ' = bX σ → Q (aHas (bX σ) t n i) σ') : zM 63 zF [.inr 0, .inl t, .inl n, .inl i] σ Q := by
  have hnn := hI.n
  have hi' := hi
  simp only [zr] at hi
  refine ze_63 200 ?_
  simp only [zs_63_0, zs_63_1, zs_63_4, zs_63_5, zs_63_8, zs_63_11, zs_63_12, zs_63_15, zs_63_18, zs_63_19, zs_63_20, zs_63_21, zs_63_24, zs_63_25, zs_63_28, zs_63_29, zs_63_32, zs_63_33, zs_63_34, zs_63_37, zs_63_39, zs_63_40, zs_63_42, zs_63_45, zs_63_47, zs_63_48, zs_63_49, zs_63_52, zs_63_53, zs_63_55, zs_63_58, zs_63_59, zs_63_62, zs_63_63, zs_63_64, zs_63_65, zs_63_68, zs_63_71, zs_63_72, zg_0_0, zg_0_2, zrc_16, zrc_17, zrc_18, zrc_36, zli_0, zli_s, zlr_0, zlr_s, zls_0, zls_s, z1i_e, z2i_e, z1r_e, zir_e, ziir_e, z1v_e, z2v_e, zone_e, znil_e, zsp_0, zsp_s, zlz_0, zlz_1, zlz_2, zlz_3, zlz_4, zswp_0, zswp_s, true_and, and_true, implies_true, true_or, or_true, Int.reduceEq, Int.reduceLT, Int.reduceLE, Int.reduceNeg, not_true_eq_false, not_false_eq_true, false_implies, true_implies, zr_e, zwr_o, zwr_s, Nat.reduceEqDiff]
  refine x_exists hI.1 ht (fun b1 b2 => ?_) (fun b => ?_)
  · simp only [zs_63_0, zs_63_1, zs_63_4, zs_63_5, zs_63_8, zs_63_11, zs_63_12, zs_63_15, zs_63_18, zs_63_19, zs_63_20, zs_63_21, zs_63_24, zs_63_25, zs_63_28, zs_63_29, zs_63_32, zs_63_33, zs_63_34, zs_63_37, zs_63_39, zs_63_40, zs_63_42, zs_63_45, zs_63_47, zs_63_48, zs_63_49, zs_63_52, zs_63_53, zs_63_55, zs_63_58, zs_63_59, zs_63_62, zs_63_63, zs_63_64, zs_63_65, zs_63_68, zs_63_71, zs_63_72, zg_0_0, zg_0_2, zrc_16, zrc_17, zrc_18, zrc_36, zli_0, zli_s, zlr_0, zlr_s, zls_0, zls_s, z1i_e, z2i_e, z1r_e, zir_e, ziir_e, z1v_e, z2v_e, zone_e, znil_e, zsp_0, zsp_s, zlz_0, zlz_1, zlz_2, zlz_3, zlz_4, zswp_0, zswp_s, true_and, and_true, implies_true, true_or, or_true, Int.reduceEq, Int.reduceLT, Int.reduceLE, Int.reduceNeg, not_true_eq_false, not_false_eq_true, false_implies, true_implies, zr_e, zwr_o, zwr_s, Nat.reduceEqDiff]
    refine x_isName hn (fun c1 c2 => ?_) (fun c => ?_)
    · simp only [zs_63_0, zs_63_1, zs_63_4, zs_63_5, zs_63_8, zs_63_11, zs_63_12, zs_63_15, zs_63_18, zs_63_19, zs_63_20, zs_63_21, zs_63_24, zs_63_25, zs_63_28, zs_63_29, zs_63_32, zs_63_33, zs_63_34, zs_63_37, zs_63_39, zs_63_40, zs_63_42, zs_63_45, zs_63_47, zs_63_48, zs_63_49, zs_63_52, zs_63_53, zs_63_55, zs_63_58, zs_63_59, zs_63_62, zs_63_63, zs_63_64, zs_63_65, zs_63_68, zs_63_71, zs_63_72, zg_0_0, zg_0_2, zrc_16, zrc_17, zrc_18, zrc_36, zli_0, zli_s, zlr_0, zlr_s, zls_0, zls_s, z1i_e, z2i_e, z1r_e, zir_e, ziir_e, z1v_e, z2v_e, zone_e, znil_e, zsp_0, zsp_s, zlz_0, zlz_1, zlz_2, zlz_3, zlz_4, zswp_0, zswp_s, true_and, and_true, implies_true, true_or, or_true, Int.reduceEq, Int.reduceLT, Int.reduceLE, Int.reduceNeg, not_true_eq_false, not_false_eq_true, false_implies, true_implies, zr_e, zwr_o, zwr_s, Nat.reduceEqDiff]
      refine x_refresh hI.1 hI.2.2.1 c1 c2 ?_
      intro σ1 hs hF h1 hm
      have hI1 := IX_fresh hI hs hF
      have eB : bX σ1 = bX σ := bX_sm hs (by decide)
      obtain ⟨hr, hrow⟩ := hI1.row h1 c1 c2 b1 (by rw [hs 1 (by decide)]; exact b2)
      have hfin := hok b1 b2 c1 c2 σ1 (zX_sm hs (by decide)) hI1 (hs 5 (by decide)) eB
      have hlen : ((rX σ1 n t).length : Int) = σ1 26 (n * 16 + t) := zl_len hr.1
      have hr1 := hr.1
      have hr2 := hr.2.1
      rw [eB] at hrow
      unfold aHas at hfin
      rw [← hrow, hlen] at hfin
      refine x_countOf b1 (by omega) c1 c2 ?_
      refine ⟨hi, fun d => ?_, fun d => ?_⟩
      · rw [if_neg d] at hfin
        refine ⟨hi, fun e => ?_, fun e => ⟨hi, by omega, fun g => ?_, fun g => ?_⟩⟩
        · rw [if_neg (by omega)] at hfin
          exact hfin
        · rw [if_neg (by omega)] at hfin
          exact hfin
        · rw [if_pos ⟨e, g⟩, rX, zl_get e g] at hfin
          exact x_heldAt b1 (by omega) c1 c2 e (by omega) hfin
      · rw [if_pos d] at hfin
        exact hfin
    · simp only [zs_63_0, zs_63_1, zs_63_4, zs_63_5, zs_63_8, zs_63_11, zs_63_12, zs_63_15, zs_63_18, zs_63_19, zs_63_20, zs_63_21, zs_63_24, zs_63_25, zs_63_28, zs_63_29, zs_63_32, zs_63_33, zs_63_34, zs_63_37, zs_63_39, zs_63_40, zs_63_42, zs_63_45, zs_63_47, zs_63_48, zs_63_49, zs_63_52, zs_63_53, zs_63_55, zs_63_58, zs_63_59, zs_63_62, zs_63_63, zs_63_64, zs_63_65, zs_63_68, zs_63_71, zs_63_72, zg_0_0, zg_0_2, zrc_16, zrc_17, zrc_18, zrc_36, zli_0, zli_s, zlr_0, zlr_s, zls_0, zls_s, z1i_e, z2i_e, z1r_e, zir_e, ziir_e, z1v_e, z2v_e, zone_e, znil_e, zsp_0, zsp_s, zlz_0, zlz_1, zlz_2, zlz_3, zlz_4, zswp_0, zswp_s, true_and, and_true, implies_true, true_or, or_true, Int.reduceEq, Int.reduceLT, Int.reduceLE, Int.reduceNeg, not_true_eq_false, not_false_eq_true, false_implies, true_implies, zr_e, zwr_o, zwr_s, Nat.reduceEqDiff]
      exact hbad (by omega)
  · simp only [zs_63_0, zs_63_1, zs_63_4, zs_63_5, zs_63_8, zs_63_11, zs_63_12, zs_63_15, zs_63_18, zs_63_19, zs_63_20, zs_63_21, zs_63_24, zs_63_25, zs_63_28, zs_63_29, zs_63_32, zs_63_33, zs_63_34, zs_63_37, zs_63_39, zs_63_40, zs_63_42, zs_63_45, zs_63_47, zs_63_48, zs_63_49, zs_63_52, zs_63_53, zs_63_55, zs_63_58, zs_63_59, zs_63_62, zs_63_63, zs_63_64, zs_63_65, zs_63_68, zs_63_71, zs_63_72, zg_0_0, zg_0_2, zrc_16, zrc_17, zrc_18, zrc_36, zli_0, zli_s, zlr_0, zlr_s, zls_0, zls_s, z1i_e, z2i_e, z1r_e, zir_e, ziir_e, z1v_e, z2v_e, zone_e, znil_e, zsp_0, zsp_s, zlz_0, zlz_1, zlz_2, zlz_3, zlz_4, zswp_0, zswp_s, true_and, and_true, implies_true, true_or, or_true, Int.reduceEq, Int.reduceLT, Int.reduceLE, Int.reduceNeg, not_true_eq_false, not_false_eq_true, false_implies, true_implies, zr_e, zwr_o, zwr_s, Nat.reduceEqDiff]
    exact hbad (by omega)
set_option maxRecDepth 100000 in
theorem xp_runs {t n : Int} (hI : IX σ) (ht : zr t) (hn : zr n) (hbad : ¬ (0 ≤ t ∧ t < σ 1 0 ∧ 0 ≤ n ∧ n < 10) → Q (-1) σ)
    (hok : 0 ≤ t → t < σ 1 0 → 0 ≤ n → n < 10 → ∀ σ', zX σ σ' → IX σ' → σ' 5 = σ 5 → bX σ' = bX σ → Q (aRun (bX σ) n t) σ') : zM 64 zF [.inr 0, .inl t, .inl n] σ Q := by
  have hnn := hI.n
  refine ze_64 200 ?_
  simp only [zs_64_0, zs_64_1, zs_64_4, zs_64_5, zs_64_8, zs_64_11, zs_64_12, zs_64_15, zs_64_18, zs_64_19, zs_64_20, zs_64_21, zs_64_24, zs_64_25, zs_64_28, zs_64_29, zs_64_32, zs_64_33, zs_64_34, zs_64_37, zg_0_0, zg_0_2, zrc_16, zrc_25, zrc_36, zli_0, zli_s, zlr_0, zlr_s, zls_0, zls_s, z1i_e, z2i_e, z1r_e, zir_e, ziir_e, z1v_e, z2v_e, zone_e, znil_e, zsp_0, zsp_s, zlz_0, zlz_1, zlz_2, zlz_3, zlz_4, zswp_0, zswp_s, true_and, and_true, implies_true, true_or, or_true, Int.reduceEq, Int.reduceLT, Int.reduceLE, Int.reduceNeg, not_true_eq_false, not_false_eq_true, false_implies, true_implies, zr_e, zwr_o, zwr_s, Nat.reduceEqDiff]
  refine x_exists hI.1 ht (fun b1 b2 => ?_) (fun b => ?_)
  · simp only [zs_64_0, zs_64_1, zs_64_4, zs_64_5, zs_64_8, zs_64_11, zs_64_12, zs_64_15, zs_64_18, zs_64_19, zs_64_20, zs_64_21, zs_64_24, zs_64_25, zs_64_28, zs_64_29, zs_64_32, zs_64_33, zs_64_34, zs_64_37, zg_0_0, zg_0_2, zrc_16, zrc_25, zrc_36, zli_0, zli_s, zlr_0, zlr_s, zls_0, zls_s, z1i_e, z2i_e, z1r_e, zir_e, ziir_e, z1v_e, z2v_e, zone_e, znil_e, zsp_0, zsp_s, zlz_0, zlz_1, zlz_2, zlz_3, zlz_4, zswp_0, zswp_s, true_and, and_true, implies_true, true_or, or_true, Int.reduceEq, Int.reduceLT, Int.reduceLE, Int.reduceNeg, not_true_eq_false, not_false_eq_true, false_implies, true_implies, zr_e, zwr_o, zwr_s, Nat.reduceEqDiff]
    refine x_isName hn (fun c1 c2 => ?_) (fun c => ?_)
    · simp only [zs_64_0, zs_64_1, zs_64_4, zs_64_5, zs_64_8, zs_64_11, zs_64_12, zs_64_15, zs_64_18, zs_64_19, zs_64_20, zs_64_21, zs_64_24, zs_64_25, zs_64_28, zs_64_29, zs_64_32, zs_64_33, zs_64_34, zs_64_37, zg_0_0, zg_0_2, zrc_16, zrc_25, zrc_36, zli_0, zli_s, zlr_0, zlr_s, zls_0, zls_s, z1i_e, z2i_e, z1r_e, zir_e, ziir_e, z1v_e, z2v_e, zone_e, znil_e, zsp_0, zsp_s, zlz_0, zlz_1, zlz_2, zlz_3, zlz_4, zswp_0, zswp_s, true_and, and_true, implies_true, true_or, or_true, Int.reduceEq, Int.reduceLT, Int.reduceLE, Int.reduceNeg, not_true_eq_false, not_false_eq_true, false_implies, true_implies, zr_e, zwr_o, zwr_s, Nat.reduceEqDiff]
      refine x_refresh hI.1 hI.2.2.1 c1 c2 ?_
      intro σ1 hs hF h1 hm
      have hI1 := IX_fresh hI hs hF
      have eB : bX σ1 = bX σ := bX_sm hs (by decide)
      obtain ⟨hr, hrow⟩ := hI1.row h1 c1 c2 b1 (by rw [hs 1 (by decide)]; exact b2)
      have hfin := hok b1 b2 c1 c2 σ1 (zX_sm hs (by decide)) hI1 (hs 5 (by decide)) eB
      refine x_runner hI1.1 b1 (by omega) c1 c2 hr ?_
      rw [hrow, eB]
      exact hfin
    · simp only [zs_64_0, zs_64_1, zs_64_4, zs_64_5, zs_64_8, zs_64_11, zs_64_12, zs_64_15, zs_64_18, zs_64_19, zs_64_20, zs_64_21, zs_64_24, zs_64_25, zs_64_28, zs_64_29, zs_64_32, zs_64_33, zs_64_34, zs_64_37, zg_0_0, zg_0_2, zrc_16, zrc_25, zrc_36, zli_0, zli_s, zlr_0, zlr_s, zls_0, zls_s, z1i_e, z2i_e, z1r_e, zir_e, ziir_e, z1v_e, z2v_e, zone_e, znil_e, zsp_0, zsp_s, zlz_0, zlz_1, zlz_2, zlz_3, zlz_4, zswp_0, zswp_s, true_and, and_true, implies_true, true_or, or_true, Int.reduceEq, Int.reduceLT, Int.reduceLE, Int.reduceNeg, not_true_eq_false, not_false_eq_true, false_implies, true_implies, zr_e, zwr_o, zwr_s, Nat.reduceEqDiff]
      exact hbad (by omega)
  · simp only [zs_64_0, zs_64_1, zs_64_4, zs_64_5, zs_64_8, zs_64_11, zs_64_12, zs_64_15, zs_64_18, zs_64_19, zs_64_20, zs_64_21, zs_64_24, zs_64_25, zs_64_28, zs_64_29, zs_64_32, zs_64_33, zs_64_34, zs_64_37, zg_0_0, zg_0_2, zrc_16, zrc_25, zrc_36, zli_0, zli_s, zlr_0, zlr_s, zls_0, zls_s, z1i_e, z2i_e, z1r_e, zir_e, ziir_e, z1v_e, z2v_e, zone_e, znil_e, zsp_0, zsp_s, zlz_0, zlz_1, zlz_2, zlz_3, zlz_4, zswp_0, zswp_s, true_and, and_true, implies_true, true_or, or_true, Int.reduceEq, Int.reduceLT, Int.reduceLE, Int.reduceNeg, not_true_eq_false, not_false_eq_true, false_implies, true_implies, zr_e, zwr_o, zwr_s, Nat.reduceEqDiff]
    exact hbad (by omega)
theorem col_c {t : Int} (hI : IX σ) (hf : ∀ n, 0 ≤ n → n < 10 → σ 25 n = 1) (h0 : 0 ≤ t) (h1 : t < σ 1 0) : gCol (bX σ) (rX σ) (σ 13) t = cCol (bX σ) t :=
  gCol_c hI.1 h0 h1 (fun n u n0 n1 u0 u1 => (hI.row (hf n n0 n1) n0 n1 u0 u1).2) (PX_c hI.1 hI.2.1 h0 h1)
/-- an answer of faults -/
noncomputable def aFau (B : zS) (t i w : Int) : Int := if i = -4 then ((cCol B t).length : Int) else if 0 ≤ i ∧ i < ((cCol B t).length : Int) ∧ 0 ≤ w ∧ w ≤ 1 then (if w = 0 then ((cCol B t).getD i.toNat (0, 0)).1 else ((cCol B t).getD i.toNat (0, 0)).2) else -1
theorem zl2_get {f g : Int → Int} {c i : Int} (h0 : 0 ≤ i) (h1 : i < c) : (zl2 f g c).getD i.toNat (0, 0) = (f i, g i) := by
  have e : ((i.toNat : Nat) : Int) = i := by omega
  simp only [zl2, List.getD_eq_getElem?_getD, List.getElem?_map]
  rw [List.getElem?_range (by omega)]
  simp [e]
set_option maxRecDepth 100000 in
theorem xp_faults {t i w : Int} (hI : IX σ) (ht : zr t) (hi : zr i) (hw : zr w) (hbad : ¬ (0 ≤ t ∧ t < σ 1 0) → Q (-1) σ)
    (hok : 0 ≤ t → t < σ 1 0 → ∀ σ', zX σ σ' → IX σ' → σ' 5 = σ 5 → bX σ' = bX σ → Q (aFau (bX σ) t i w) σ') : zM 65 zF [.inr 0, .inl t, .inl i, .inl w] σ Q := by
  have hnn := hI.n
  simp only [zr] at hi hw
  refine ze_65 200 ?_
  simp only [zs_65_0, zs_65_1, zs_65_4, zs_65_5, zs_65_8, zs_65_11, zs_65_12, zs_65_13, zs_65_14, zs_65_17, zs_65_20, zs_65_21, zs_65_24, zs_65_25, zs_65_28, zs_65_30, zs_65_31, zs_65_33, zs_65_36, zs_65_38, zs_65_39, zs_65_40, zs_65_43, zs_65_44, zs_65_46, zs_65_49, zs_65_50, zs_65_53, zs_65_54, zs_65_55, zs_65_58, zs_65_59, zs_65_60, zs_65_61, zs_65_64, zs_65_65, zs_65_68, zs_65_71, zs_65_72, zs_65_73, zs_65_76, zs_65_77, zs_65_80, zs_65_83, zs_65_84, zs_65_85, za_29, za_30, zg_0_0, zg_0_2, zg_0_3, zg_4_3, zg_4_4, zrc_15, zrc_3, zrc_36, zli_0, zli_s, zlr_0, zlr_s, zls_0, zls_s, z1i_e, z2i_e, z1r_e, zir_e, ziir_e, z1v_e, z2v_e, zone_e, znil_e, zsp_0, zsp_s, zlz_0, zlz_1, zlz_2, zlz_3, zlz_4, zswp_0, zswp_s, true_and, and_true, implies_true, true_or, or_true, Int.reduceEq, Int.reduceLT, Int.reduceLE, Int.reduceNeg, not_true_eq_false, not_false_eq_true, false_implies, true_implies, zr_e, zwr_o, zwr_s, Nat.reduceEqDiff]
  refine x_exists hI.1 ht (fun b1 b2 => ?_) (fun b => ?_)
  · simp only [zs_65_0, zs_65_1, zs_65_4, zs_65_5, zs_65_8, zs_65_11, zs_65_12, zs_65_13, zs_65_14, zs_65_17, zs_65_20, zs_65_21, zs_65_24, zs_65_25, zs_65_28, zs_65_30, zs_65_31, zs_65_33, zs_65_36, zs_65_38, zs_65_39, zs_65_40, zs_65_43, zs_65_44, zs_65_46, zs_65_49, zs_65_50, zs_65_53, zs_65_54, zs_65_55, zs_65_58, zs_65_59, zs_65_60, zs_65_61, zs_65_64, zs_65_65, zs_65_68, zs_65_71, zs_65_72, zs_65_73, zs_65_76, zs_65_77, zs_65_80, zs_65_83, zs_65_84, zs_65_85, za_29, za_30, zg_0_0, zg_0_2, zg_0_3, zg_4_3, zg_4_4, zrc_15, zrc_3, zrc_36, zli_0, zli_s, zlr_0, zlr_s, zls_0, zls_s, z1i_e, z2i_e, z1r_e, zir_e, ziir_e, z1v_e, z2v_e, zone_e, znil_e, zsp_0, zsp_s, zlz_0, zlz_1, zlz_2, zlz_3, zlz_4, zswp_0, zswp_s, true_and, and_true, implies_true, true_or, or_true, Int.reduceEq, Int.reduceLT, Int.reduceLE, Int.reduceNeg, not_true_eq_false, not_false_eq_true, false_implies, true_implies, zr_e, zwr_o, zwr_s, Nat.reduceEqDiff]
    refine x_refreshAll hI.1 hI.2.2.1 ?_
    intro σ1 hs hF h1
    have hI1 := IX_fresh hI hs hF
    have eB : bX σ1 = bX σ := bX_sm hs (by decide)
    have b2' : t < σ1 1 0 := by rw [hs 1 (by decide)]; exact b2
    refine x_collect hI1.1 b1 b2' (hI1.all h1) ?_
    intro σ2 hs2 hc2 hsz hf2
    have hI2 := IX_sm hI1 hs2 (by decide)
    have eB2 : bX σ2 = bX σ := by rw [bX_sm hs2 (by decide), eB]
    rw [col_c hI1 h1 b1 b2', eB] at hf2
    have hlen : ((fX σ2).length : Int) = σ2 4 5 := zl2_len hc2
    have hfin := hok b1 b2 σ2 (fun c hc => by rw [zX_sm hs2 (by decide) c hc, zX_sm hs (by decide) c hc]) hI2 (by rw [hs2 5 (by decide), hs 5 (by decide)]) eB2
    unfold aFau at hfin
    rw [← hf2, hlen] at hfin
    refine ⟨hi, fun d => ?_, fun d => ?_⟩
    · rw [if_neg d] at hfin
      have good : 0 ≤ i → i < σ2 4 5 → 0 ≤ w → w ≤ 1 → Q (if w = 0 then σ2 29 i else σ2 30 i) σ2 := by
        intro g1 g2 g3 g4
        rw [if_pos ⟨g1, g2, g3, g4⟩, fX, zl2_get g1 g2] at hfin
        exact hfin
      have bad : ¬ (0 ≤ i ∧ i < σ2 4 5 ∧ 0 ≤ w ∧ w ≤ 1) → Q (-1) σ2 := by
        intro g
        rw [if_neg g] at hfin
        exact hfin
      have g0 : 0 ≤ i → i < σ2 4 5 → w = 0 → Q (σ2 29 i) σ2 := fun g1 g2 g3 => by
        have := good g1 g2 (by omega) (by omega)
        rw [if_pos g3] at this
        exact this
      have g1 : 0 ≤ i → i < σ2 4 5 → 0 ≤ w → w ≤ 1 → ¬ w = 0 → Q (σ2 30 i) σ2 := fun g1 g2 g3 g4 g5 => by
        have := good g1 g2 g3 g4
        rw [if_neg g5] at this
        exact this
      repeat' first | omega | (apply bad; omega) | (apply g0 <;> omega) | (apply g1 <;> omega) | apply And.intro | intro _
    · rw [if_pos d] at hfin
      exact hfin
  · simp only [zs_65_0, zs_65_1, zs_65_4, zs_65_5, zs_65_8, zs_65_11, zs_65_12, zs_65_13, zs_65_14, zs_65_17, zs_65_20, zs_65_21, zs_65_24, zs_65_25, zs_65_28, zs_65_30, zs_65_31, zs_65_33, zs_65_36, zs_65_38, zs_65_39, zs_65_40, zs_65_43, zs_65_44, zs_65_46, zs_65_49, zs_65_50, zs_65_53, zs_65_54, zs_65_55, zs_65_58, zs_65_59, zs_65_60, zs_65_61, zs_65_64, zs_65_65, zs_65_68, zs_65_71, zs_65_72, zs_65_73, zs_65_76, zs_65_77, zs_65_80, zs_65_83, zs_65_84, zs_65_85, za_29, za_30, zg_0_0, zg_0_2, zg_0_3, zg_4_3, zg_4_4, zrc_15, zrc_3, zrc_36, zli_0, zli_s, zlr_0, zlr_s, zls_0, zls_s, z1i_e, z2i_e, z1r_e, zir_e, ziir_e, z1v_e, z2v_e, zone_e, znil_e, zsp_0, zsp_s, zlz_0, zlz_1, zlz_2, zlz_3, zlz_4, zswp_0, zswp_s, true_and, and_true, implies_true, true_or, or_true, Int.reduceEq, Int.reduceLT, Int.reduceLE, Int.reduceNeg, not_true_eq_false, not_false_eq_true, false_implies, true_implies, zr_e, zwr_o, zwr_s, Nat.reduceEqDiff]
    exact hbad (by omega)
end XP3
