theorem gOn_congr {B : zS} {H H' : Int → List Int} : ∀ (k : Nat) (only n : Int), (∀ j, n ≤ j → j < n + k → H j = H' j) → gOn B H only n k = gOn B H' only n k
  | 0, _, _, _ => rfl
  | k + 1, only, n, h => by
    simp only [gOn]
    rw [h n (by omega) (by omega), gOn_congr k n (n + 1) (fun j a b => h j (by omega) (by omega)), gOn_congr k only (n + 1) (fun j a b => h j (by omega) (by omega))]
theorem gOn_r {B : zS} {H : Int → List Int} : ∀ (k : Nat) (only n : Int), (only = -4 ∨ (3 ≤ only ∧ only < 10)) → 3 ≤ n → n + k ≤ 10 → (gOn B H only n k = -4 ∨ (3 ≤ gOn B H only n k ∧ gOn B H only n k < 10))
  | 0, _, _, h, _, _ => h
  | k + 1, only, n, h, h1, h2 => by
    simp only [gOn]
    split
    · split
      · exact gOn_r k n (n + 1) (Or.inr ⟨h1, by omega⟩) (by omega) (by omega)
      · exact Or.inl rfl
    · exact gOn_r k only (n + 1) h (by omega) (by omega)
noncomputable def aFun (B : zS) (f : Int) : Int := if gOn B (fun n => cRow B n f) (-4) 3 7 = -4 then -4 else if gSo B 1 (cRow B (gOn B (fun n => cRow B n f) (-4) 3 7) f) = true then -4 else gFs B (cRow B (gOn B (fun n => cRow B n f) (-4) 3 7) f) (cRow B (gOn B (fun n => cRow B n f) (-4) 3 7) f)
noncomputable def cS (B : zS) (c : Int) : Nat → Int → Int
  | 0, _ => 0
  | k + 1, t => gSeT B c (cS B c k) t
theorem gSee_congr {f g : Int → Int} : ∀ k : Nat, (∀ i : Int, 0 ≤ i → i < k → f i = g i) → gSee f k = gSee g k
  | 0, _ => rfl
  | k + 1, h => by
    simp only [gSee]
    rw [gSee_congr k (fun i a b => h i a (by omega)), h k (by omega) (by omega)]
theorem see_k {B : zS} (hB : Bd B) {c t : Int} {S : Int → Int} (ht : t < 16) (hS : ∀ u, 0 ≤ u → u ≤ t → S u = gSeT B c S u) : ∀ (k : Nat) (u : Int), 0 ≤ u → u ≤ t → u < k → S u = cS B c k u
  | 0, u, h0, _, h => by omega
  | k + 1, u, h0, h1, h => by
    rw [hS u h0 h1, cS]
    unfold gSeT
    congr 1
    refine gSee_congr _ (fun i i0 i1 => ?_)
    have hl := gPa_lt hB h0 (show u < 16 by omega) i0 (show i < gPc B u by omega)
    exact see_k hB ht hS k (gPa B u i) hl.1 (by omega) (by omega)
noncomputable def aSee (B : zS) (t c : Int) : Int := cS B c 16 t
noncomputable def aVal (B : zS) (t c : Int) : Int := if 0 ≤ aSee B t c then B 15 (4 * aSee B t c + c) else 0
noncomputable def aBel (B : zS) (t u : Int) : Int := if t = u ∨ u = 0 ∨ zbt (cAn B t) u = true then 1 else 0
noncomputable def aPf (B : zS) (t n : Int) : Int × Int × Int × Int := gPf B (cRow B) t 30 (aRun B n t) 0 (-4) 0
noncomputable def aCf (B : zS) : Nat → Int
  | 0 => 0
  | k + 1 => aCf B k + (if (cCol B (k : Int)).length = 0 then 1 else 0)
section XP4
variable {σ : zS} {Q : Int → zS → Prop}
set_option maxRecDepth 100000 in
theorem xp_functional {f : Int} (hI : IX σ) (hf : zr f) (hbad : ¬ (0 ≤ f ∧ f < σ 1 0 ∧ σ 6 f = 2) → Q (-1) σ)
    (hok : 0 ≤ f → f < σ 1 0 → σ 6 f = 2 → ∀ σ', zX σ σ' → IX σ' → σ' 5 = σ 5 → bX σ' = bX σ → Q (aFun (bX σ) f) σ') : zM 66 zF [.inr 0, .inl f] σ Q := by
  have hnn := hI.n
  refine ze_66 200 ?_
  simp only [zs_66_0, zs_66_1, zs_66_4, zs_66_5, zs_66_8, zs_66_11, zs_66_12, zs_66_13, zs_66_14, zs_66_17, zs_66_20, zs_66_21, zs_66_24, zs_66_25, zs_66_28, zs_66_29, zs_66_30, zs_66_32, zs_66_35, zs_66_36, zs_66_39, zs_66_40, zs_66_41, zs_66_42, zs_66_45, zs_66_48, zs_66_50, zs_66_51, zs_66_52, zs_66_55, zs_66_56, zs_66_57, zs_66_60, zg_0_0, zg_0_2, zrc_15, zrc_27, zrc_28, zrc_29, zrc_37, zli_0, zli_s, zlr_0, zlr_s, zls_0, zls_s, z1i_e, z2i_e, z1r_e, zir_e, ziir_e, z1v_e, z2v_e, zone_e, znil_e, zsp_0, zsp_s, zlz_0, zlz_1, zlz_2, zlz_3, zlz_4, zswp_0, zswp_s, true_and, and_true, implies_true, true_or, or_true, Int.reduceEq, Int.reduceLT, Int.reduceLE, Int.reduceNeg, not_true_eq_false, not_false_eq_true, false_implies, true_implies, zr_e, zwr_o, zwr_s, Nat.reduceEqDiff]
  refine x_isFace hI.1 hf (fun b1 b2 b3 => ?_) (fun b => ?_)
  · simp only [zs_66_0, zs_66_1, zs_66_4, zs_66_5, zs_66_8, zs_66_11, zs_66_12, zs_66_13, zs_66_14, zs_66_17, zs_66_20, zs_66_21, zs_66_24, zs_66_25, zs_66_28, zs_66_29, zs_66_30, zs_66_32, zs_66_35, zs_66_36, zs_66_39, zs_66_40, zs_66_41, zs_66_42, zs_66_45, zs_66_48, zs_66_50, zs_66_51, zs_66_52, zs_66_55, zs_66_56, zs_66_57, zs_66_60, zg_0_0, zg_0_2, zrc_15, zrc_27, zrc_28, zrc_29, zrc_37, zli_0, zli_s, zlr_0, zlr_s, zls_0, zls_s, z1i_e, z2i_e, z1r_e, zir_e, ziir_e, z1v_e, z2v_e, zone_e, znil_e, zsp_0, zsp_s, zlz_0, zlz_1, zlz_2, zlz_3, zlz_4, zswp_0, zswp_s, true_and, and_true, implies_true, true_or, or_true, Int.reduceEq, Int.reduceLT, Int.reduceLE, Int.reduceNeg, not_true_eq_false, not_false_eq_true, false_implies, true_implies, zr_e, zwr_o, zwr_s, Nat.reduceEqDiff]
    refine x_refreshAll hI.1 hI.2.2.1 ?_
    intro σ1 hs hF h1
    have hI1 := IX_fresh hI hs hF
    have eB : bX σ1 = bX σ := bX_sm hs (by decide)
    have b2' : f < σ1 1 0 := by rw [hs 1 (by decide)]; exact b2
    have hrow : ∀ n, 0 ≤ n → n < 10 → rOK σ1 n f ∧ rX σ1 n f = cRow (bX σ) n f := fun n n0 n1 => by
      have := hI1.row (h1 n n0 n1) n0 n1 b1 b2'
      rw [eB] at this
      exact this
    have hfin := hok b1 b2 b3 σ1 (zX_sm hs (by decide)) hI1 (hs 5 (by decide)) eB
    refine x_onlyAbs hI1.1 b1 (by omega) (fun n n0 n1 => (hrow n n0 n1).1) ?_
    have eo : gOn (bX σ1) (fun n => rX σ1 n f) (-4) 3 7 = gOn (bX σ) (fun n => cRow (bX σ) n f) (-4) 3 7 := by
      rw [eB]
      exact gOn_congr 7 (-4) 3 (fun j a b => (hrow j (by omega) (by omega)).2)
    rw [eo]
    unfold aFun at hfin
    have hr := gOn_r (B := bX σ) (H := fun n => cRow (bX σ) n f) 7 (-4) 3 (Or.inl rfl) (by omega) (by omega)
    generalize gOn (bX σ) (fun n => cRow (bX σ) n f) (-4) 3 7 = w at *
    refine ⟨by omega, fun d => ?_, fun d => ?_⟩
    · rw [if_pos d] at hfin
      exact hfin
    · rw [if_neg d] at hfin
      obtain ⟨hr1, hr2⟩ := hrow w (by omega) (by omega)
      refine x_holdsSort hI1.1 b1 (by omega) (by omega) (by omega) ⟨by decide, by decide⟩ hr1 (fun g => ?_) (fun g => ?_)
      · rw [eB, hr2] at g
        rw [if_pos g] at hfin
        simp only [zs_66_0, zs_66_1, zs_66_4, zs_66_5, zs_66_8, zs_66_11, zs_66_12, zs_66_13, zs_66_14, zs_66_17, zs_66_20, zs_66_21, zs_66_24, zs_66_25, zs_66_28, zs_66_29, zs_66_30, zs_66_32, zs_66_35, zs_66_36, zs_66_39, zs_66_40, zs_66_41, zs_66_42, zs_66_45, zs_66_48, zs_66_50, zs_66_51, zs_66_52, zs_66_55, zs_66_56, zs_66_57, zs_66_60, zg_0_0, zg_0_2, zrc_15, zrc_27, zrc_28, zrc_29, zrc_37, zli_0, zli_s, zlr_0, zlr_s, zls_0, zls_s, z1i_e, z2i_e, z1r_e, zir_e, ziir_e, z1v_e, z2v_e, zone_e, znil_e, zsp_0, zsp_s, zlz_0, zlz_1, zlz_2, zlz_3, zlz_4, zswp_0, zswp_s, true_and, and_true, implies_true, true_or, or_true, Int.reduceEq, Int.reduceLT, Int.reduceLE, Int.reduceNeg, not_true_eq_false, not_false_eq_true, false_implies, true_implies, zr_e, zwr_o, zwr_s, Nat.reduceEqDiff]
        exact hfin
      · rw [eB, hr2] at g
        rw [if_neg (by rw [g]; decide)] at hfin
        simp only [zs_66_0, zs_66_1, zs_66_4, zs_66_5, zs_66_8, zs_66_11, zs_66_12, zs_66_13, zs_66_14, zs_66_17, zs_66_20, zs_66_21, zs_66_24, zs_66_25, zs_66_28, zs_66_29, zs_66_30, zs_66_32, zs_66_35, zs_66_36, zs_66_39, zs_66_40, zs_66_41, zs_66_42, zs_66_45, zs_66_48, zs_66_50, zs_66_51, zs_66_52, zs_66_55, zs_66_56, zs_66_57, zs_66_60, zg_0_0, zg_0_2, zrc_15, zrc_27, zrc_28, zrc_29, zrc_37, zli_0, zli_s, zlr_0, zlr_s, zls_0, zls_s, z1i_e, z2i_e, z1r_e, zir_e, ziir_e, z1v_e, z2v_e, zone_e, znil_e, zsp_0, zsp_s, zlz_0, zlz_1, zlz_2, zlz_3, zlz_4, zswp_0, zswp_s, true_and, and_true, implies_true, true_or, or_true, Int.reduceEq, Int.reduceLT, Int.reduceLE, Int.reduceNeg, not_true_eq_false, not_false_eq_true, false_implies, true_implies, zr_e, zwr_o, zwr_s, Nat.reduceEqDiff]
        refine x_firstServing hI1.1 b1 (by omega) (by omega) (by omega) hr1 ?_
        rw [eB, hr2]
        exact hfin
  · simp only [zs_66_0, zs_66_1, zs_66_4, zs_66_5, zs_66_8, zs_66_11, zs_66_12, zs_66_13, zs_66_14, zs_66_17, zs_66_20, zs_66_21, zs_66_24, zs_66_25, zs_66_28, zs_66_29, zs_66_30, zs_66_32, zs_66_35, zs_66_36, zs_66_39, zs_66_40, zs_66_41, zs_66_42, zs_66_45, zs_66_48, zs_66_50, zs_66_51, zs_66_52, zs_66_55, zs_66_56, zs_66_57, zs_66_60, zg_0_0, zg_0_2, zrc_15, zrc_27, zrc_28, zrc_29, zrc_37, zli_0, zli_s, zlr_0, zlr_s, zls_0, zls_s, z1i_e, z2i_e, z1r_e, zir_e, ziir_e, z1v_e, z2v_e, zone_e, znil_e, zsp_0, zsp_s, zlz_0, zlz_1, zlz_2, zlz_3, zlz_4, zswp_0, zswp_s, true_and, and_true, implies_true, true_or, or_true, Int.reduceEq, Int.reduceLT, Int.reduceLE, Int.reduceNeg, not_true_eq_false, not_false_eq_true, false_implies, true_implies, zr_e, zwr_o, zwr_s, Nat.reduceEqDiff]
    exact hbad (fun z => b z.1 z.2.1 z.2.2)
set_option maxRecDepth 100000 in
theorem xp_sees {t c : Int} (hI : IX σ) (ht : zr t) (hc : zr c) (hbad : ¬ (0 ≤ t ∧ t < σ 1 0 ∧ 0 ≤ c ∧ c < 4) → Q (-1) σ)
    (hok : 0 ≤ t → t < σ 1 0 → 0 ≤ c → c < 4 → ∀ σ', zX σ σ' → IX σ' → σ' 5 = σ 5 → bX σ' = bX σ → Q (aSee (bX σ) t c) σ') : zM 67 zF [.inr 0, .inl t, .inl c] σ Q := by
  have hnn := hI.n
  refine ze_67 200 ?_
  simp only [zs_67_0, zs_67_1, zs_67_4, zs_67_5, zs_67_8, zs_67_11, zs_67_12, zs_67_15, zs_67_18, zs_67_19, zs_67_20, zs_67_21, zs_67_24, zs_67_25, zs_67_26, zs_67_29, zg_0_0, zrc_36, zrc_54, zli_0, zli_s, zlr_0, zlr_s, zls_0, zls_s, z1i_e, z2i_e, z1r_e, zir_e, ziir_e, z1v_e, z2v_e, zone_e, znil_e, zsp_0, zsp_s, zlz_0, zlz_1, zlz_2, zlz_3, zlz_4, zswp_0, zswp_s, true_and, and_true, implies_true, true_or, or_true, Int.reduceEq, Int.reduceLT, Int.reduceLE, Int.reduceNeg, not_true_eq_false, not_false_eq_true, false_implies, true_implies, zr_e, zwr_o, zwr_s, Nat.reduceEqDiff]
  refine x_exists hI.1 ht (fun b1 b2 => ?_) (fun b => ?_)
  · simp only [zs_67_0, zs_67_1, zs_67_4, zs_67_5, zs_67_8, zs_67_11, zs_67_12, zs_67_15, zs_67_18, zs_67_19, zs_67_20, zs_67_21, zs_67_24, zs_67_25, zs_67_26, zs_67_29, zg_0_0, zrc_36, zrc_54, zli_0, zli_s, zlr_0, zlr_s, zls_0, zls_s, z1i_e, z2i_e, z1r_e, zir_e, ziir_e, z1v_e, z2v_e, zone_e, znil_e, zsp_0, zsp_s, zlz_0, zlz_1, zlz_2, zlz_3, zlz_4, zswp_0, zswp_s, true_and, and_true, implies_true, true_or, or_true, Int.reduceEq, Int.reduceLT, Int.reduceLE, Int.reduceNeg, not_true_eq_false, not_false_eq_true, false_implies, true_implies, zr_e, zwr_o, zwr_s, Nat.reduceEqDiff]
    refine x_isConst hc (fun c1 c2 => ?_) (fun c => ?_)
    · simp only [zs_67_0, zs_67_1, zs_67_4, zs_67_5, zs_67_8, zs_67_11, zs_67_12, zs_67_15, zs_67_18, zs_67_19, zs_67_20, zs_67_21, zs_67_24, zs_67_25, zs_67_26, zs_67_29, zg_0_0, zrc_36, zrc_54, zli_0, zli_s, zlr_0, zlr_s, zls_0, zls_s, z1i_e, z2i_e, z1r_e, zir_e, ziir_e, z1v_e, z2v_e, zone_e, znil_e, zsp_0, zsp_s, zlz_0, zlz_1, zlz_2, zlz_3, zlz_4, zswp_0, zswp_s, true_and, and_true, implies_true, true_or, or_true, Int.reduceEq, Int.reduceLT, Int.reduceLE, Int.reduceNeg, not_true_eq_false, not_false_eq_true, false_implies, true_implies, zr_e, zwr_o, zwr_s, Nat.reduceEqDiff]
      refine x_seen hI.1 b1 (by omega) c1 c2 ?_
      intro σ1 hs hS
      have e : σ1 16 t = aSee (bX σ) t c := see_k hI.1 (show t < 16 by omega) (fun u u0 u1 => (hS u u0 u1).2) 16 t b1 (by omega) (by omega)
      rw [e]
      exact hok b1 b2 c1 c2 σ1 (zX_sm hs (by decide)) (IX_sm hI hs (by decide)) (hs 5 (by decide)) (bX_sm hs (by decide))
    · simp only [zs_67_0, zs_67_1, zs_67_4, zs_67_5, zs_67_8, zs_67_11, zs_67_12, zs_67_15, zs_67_18, zs_67_19, zs_67_20, zs_67_21, zs_67_24, zs_67_25, zs_67_26, zs_67_29, zg_0_0, zrc_36, zrc_54, zli_0, zli_s, zlr_0, zlr_s, zls_0, zls_s, z1i_e, z2i_e, z1r_e, zir_e, ziir_e, z1v_e, z2v_e, zone_e, znil_e, zsp_0, zsp_s, zlz_0, zlz_1, zlz_2, zlz_3, zlz_4, zswp_0, zswp_s, true_and, and_true, implies_true, true_or, or_true, Int.reduceEq, Int.reduceLT, Int.reduceLE, Int.reduceNeg, not_true_eq_false, not_false_eq_true, false_implies, true_implies, zr_e, zwr_o, zwr_s, Nat.reduceEqDiff]
      exact hbad (by omega)
  · simp only [zs_67_0, zs_67_1, zs_67_4, zs_67_5, zs_67_8, zs_67_11, zs_67_12, zs_67_15, zs_67_18, zs_67_19, zs_67_20, zs_67_21, zs_67_24, zs_67_25, zs_67_26, zs_67_29, zg_0_0, zrc_36, zrc_54, zli_0, zli_s, zlr_0, zlr_s, zls_0, zls_s, z1i_e, z2i_e, z1r_e, zir_e, ziir_e, z1v_e, z2v_e, zone_e, znil_e, zsp_0, zsp_s, zlz_0, zlz_1, zlz_2, zlz_3, zlz_4, zswp_0, zswp_s, true_and, and_true, implies_true, true_or, or_true, Int.reduceEq, Int.reduceLT, Int.reduceLE, Int.reduceNeg, not_true_eq_false, not_false_eq_true, false_implies, true_implies, zr_e, zwr_o, zwr_s, Nat.reduceEqDiff]
    exact hbad (by omega)
set_option maxRecDepth 100000 in
theorem xp_value {t c : Int} (hI : IX σ) (ht : zr t) (hc : zr c) (hbad : ¬ (0 ≤ t ∧ t < σ 1 0 ∧ 0 ≤ c ∧ c < 4) → Q 0 σ)
    (hok : 0 ≤ t → t < σ 1 0 → 0 ≤ c → c < 4 → ∀ σ', zX σ σ' → IX σ' → σ' 5 = σ 5 → bX σ' = bX σ → Q (aVal (bX σ) t c) σ') : zM 68 zF [.inr 0, .inl t, .inl c] σ Q := by
  have hnn := hI.n
  refine ze_68 200 ?_
  simp only [zs_68_0, zs_68_1, zs_68_4, zs_68_5, zs_68_8, zs_68_11, zs_68_12, zs_68_15, zs_68_18, zs_68_19, zs_68_20, zs_68_21, zs_68_24, zs_68_25, zs_68_26, zs_68_29, zs_68_30, zs_68_31, zs_68_34, zs_68_35, zs_68_38, zs_68_39, zs_68_40, zs_68_43, zs_68_46, zs_68_47, zg_0_0, zrc_36, zrc_53, zrc_54, zli_0, zli_s, zlr_0, zlr_s, zls_0, zls_s, z1i_e, z2i_e, z1r_e, zir_e, ziir_e, z1v_e, z2v_e, zone_e, znil_e, zsp_0, zsp_s, zlz_0, zlz_1, zlz_2, zlz_3, zlz_4, zswp_0, zswp_s, true_and, and_true, implies_true, true_or, or_true, Int.reduceEq, Int.reduceLT, Int.reduceLE, Int.reduceNeg, not_true_eq_false, not_false_eq_true, false_implies, true_implies, zr_e, zwr_o, zwr_s, Nat.reduceEqDiff]
  refine x_exists hI.1 ht (fun b1 b2 => ?_) (fun b => ?_)
  · simp only [zs_68_0, zs_68_1, zs_68_4, zs_68_5, zs_68_8, zs_68_11, zs_68_12, zs_68_15, zs_68_18, zs_68_19, zs_68_20, zs_68_21, zs_68_24, zs_68_25, zs_68_26, zs_68_29, zs_68_30, zs_68_31, zs_68_34, zs_68_35, zs_68_38, zs_68_39, zs_68_40, zs_68_43, zs_68_46, zs_68_47, zg_0_0, zrc_36, zrc_53, zrc_54, zli_0, zli_s, zlr_0, zlr_s, zls_0, zls_s, z1i_e, z2i_e, z1r_e, zir_e, ziir_e, z1v_e, z2v_e, zone_e, znil_e, zsp_0, zsp_s, zlz_0, zlz_1, zlz_2, zlz_3, zlz_4, zswp_0, zswp_s, true_and, and_true, implies_true, true_or, or_true, Int.reduceEq, Int.reduceLT, Int.reduceLE, Int.reduceNeg, not_true_eq_false, not_false_eq_true, false_implies, true_implies, zr_e, zwr_o, zwr_s, Nat.reduceEqDiff]
    refine x_isConst hc (fun c1 c2 => ?_) (fun c => ?_)
    · simp only [zs_68_0, zs_68_1, zs_68_4, zs_68_5, zs_68_8, zs_68_11, zs_68_12, zs_68_15, zs_68_18, zs_68_19, zs_68_20, zs_68_21, zs_68_24, zs_68_25, zs_68_26, zs_68_29, zs_68_30, zs_68_31, zs_68_34, zs_68_35, zs_68_38, zs_68_39, zs_68_40, zs_68_43, zs_68_46, zs_68_47, zg_0_0, zrc_36, zrc_53, zrc_54, zli_0, zli_s, zlr_0, zlr_s, zls_0, zls_s, z1i_e, z2i_e, z1r_e, zir_e, ziir_e, z1v_e, z2v_e, zone_e, znil_e, zsp_0, zsp_s, zlz_0, zlz_1, zlz_2, zlz_3, zlz_4, zswp_0, zswp_s, true_and, and_true, implies_true, true_or, or_true, Int.reduceEq, Int.reduceLT, Int.reduceLE, Int.reduceNeg, not_true_eq_false, not_false_eq_true, false_implies, true_implies, zr_e, zwr_o, zwr_s, Nat.reduceEqDiff]
      refine x_seen hI.1 b1 (by omega) c1 c2 ?_
      intro σ1 hs hS
      have e : σ1 16 t = aSee (bX σ) t c := see_k hI.1 (show t < 16 by omega) (fun u u0 u1 => (hS u u0 u1).2) 16 t b1 (by omega) (by omega)
      have hv := (hS t b1 (by omega)).1
      have hfin := hok b1 b2 c1 c2 σ1 (zX_sm hs (by decide)) (IX_sm hI hs (by decide)) (hs 5 (by decide)) (bX_sm hs (by decide))
      unfold aVal at hfin
      rw [e] at hv ⊢
      unfold sVal at hv
      refine ⟨by omega, fun d => ?_, fun d => ?_⟩
      · rw [if_neg (by omega)] at hfin
        exact hfin
      · rw [if_pos d] at hfin
        refine x_constantOf (by omega) (by omega) ?_
        rw [hs 15 (by decide), Int.mul_comm]
        exact hfin
    · simp only [zs_68_0, zs_68_1, zs_68_4, zs_68_5, zs_68_8, zs_68_11, zs_68_12, zs_68_15, zs_68_18, zs_68_19, zs_68_20, zs_68_21, zs_68_24, zs_68_25, zs_68_26, zs_68_29, zs_68_30, zs_68_31, zs_68_34, zs_68_35, zs_68_38, zs_68_39, zs_68_40, zs_68_43, zs_68_46, zs_68_47, zg_0_0, zrc_36, zrc_53, zrc_54, zli_0, zli_s, zlr_0, zlr_s, zls_0, zls_s, z1i_e, z2i_e, z1r_e, zir_e, ziir_e, z1v_e, z2v_e, zone_e, znil_e, zsp_0, zsp_s, zlz_0, zlz_1, zlz_2, zlz_3, zlz_4, zswp_0, zswp_s, true_and, and_true, implies_true, true_or, or_true, Int.reduceEq, Int.reduceLT, Int.reduceLE, Int.reduceNeg, not_true_eq_false, not_false_eq_true, false_implies, true_implies, zr_e, zwr_o, zwr_s, Nat.reduceEqDiff]
      exact hbad (by omega)
  · simp only [zs_68_0, zs_68_1, zs_68_4, zs_68_5, zs_68_8, zs_68_11, zs_68_12, zs_68_15, zs_68_18, zs_68_19, zs_68_20, zs_68_21, zs_68_24, zs_68_25, zs_68_26, zs_68_29, zs_68_30, zs_68_31, zs_68_34, zs_68_35, zs_68_38, zs_68_39, zs_68_40, zs_68_43, zs_68_46, zs_68_47, zg_0_0, zrc_36, zrc_53, zrc_54, zli_0, zli_s, zlr_0, zlr_s, zls_0, zls_s, z1i_e, z2i_e, z1r_e, zir_e, ziir_e, z1v_e, z2v_e, zone_e, znil_e, zsp_0, zsp_s, zlz_0, zlz_1, zlz_2, zlz_3, zlz_4, zswp_0, zswp_s, true_and, and_true, implies_true, true_or, or_true, Int.reduceEq, Int.reduceLT, Int.reduceLE, Int.reduceNeg, not_true_eq_false, not_false_eq_true, false_implies, true_implies, zr_e, zwr_o, zwr_s, Nat.reduceEqDiff]
    exact hbad (by omega)
set_option maxRecDepth 100000 in
theorem xp_below {t u : Int} (hI : IX σ) (ht : zr t) (hu : zr u) (hbad : ¬ (0 ≤ t ∧ t < σ 1 0 ∧ 0 ≤ u ∧ u < σ 1 0) → Q (-1) σ)
    (hok : 0 ≤ t → t < σ 1 0 → 0 ≤ u → u < σ 1 0 → Q (aBel (bX σ) t u) σ) : zM 69 zF [.inr 0, .inl t, .inl u] σ Q := by
  have hnn := hI.n
  have ht' := ht
  have hu' := hu
  simp only [zr] at ht hu
  refine ze_69 200 ?_
  simp only [zs_69_0, zs_69_1, zs_69_4, zs_69_5, zs_69_8, zs_69_11, zs_69_12, zs_69_15, zs_69_16, zs_69_19, zs_69_22, zs_69_23, zs_69_24, zs_69_25, zs_69_26, zs_69_29, zs_69_30, zs_69_33, zs_69_34, zs_69_37, zs_69_38, zs_69_39, zs_69_42, zs_69_45, zs_69_46, zs_69_49, zs_69_50, zg_0_0, zrc_36, zrc_48, zli_0, zli_s, zlr_0, zlr_s, zls_0, zls_s, z1i_e, z2i_e, z1r_e, zir_e, ziir_e, z1v_e, z2v_e, zone_e, znil_e, zsp_0, zsp_s, zlz_0, zlz_1, zlz_2, zlz_3, zlz_4, zswp_0, zswp_s, true_and, and_true, implies_true, true_or, or_true, Int.reduceEq, Int.reduceLT, Int.reduceLE, Int.reduceNeg, not_true_eq_false, not_false_eq_true, false_implies, true_implies, zr_e, zwr_o, zwr_s, Nat.reduceEqDiff]
  refine x_exists hI.1 ht' (fun b1 b2 => ?_) (fun b => ?_)
  · simp only [zs_69_0, zs_69_1, zs_69_4, zs_69_5, zs_69_8, zs_69_11, zs_69_12, zs_69_15, zs_69_16, zs_69_19, zs_69_22, zs_69_23, zs_69_24, zs_69_25, zs_69_26, zs_69_29, zs_69_30, zs_69_33, zs_69_34, zs_69_37, zs_69_38, zs_69_39, zs_69_42, zs_69_45, zs_69_46, zs_69_49, zs_69_50, zg_0_0, zrc_36, zrc_48, zli_0, zli_s, zlr_0, zlr_s, zls_0, zls_s, z1i_e, z2i_e, z1r_e, zir_e, ziir_e, z1v_e, z2v_e, zone_e, znil_e, zsp_0, zsp_s, zlz_0, zlz_1, zlz_2, zlz_3, zlz_4, zswp_0, zswp_s, true_and, and_true, implies_true, true_or, or_true, Int.reduceEq, Int.reduceLT, Int.reduceLE, Int.reduceNeg, not_true_eq_false, not_false_eq_true, false_implies, true_implies, zr_e, zwr_o, zwr_s, Nat.reduceEqDiff]
    refine x_exists hI.1 hu' (fun c1 c2 => ?_) (fun c => ?_)
    · simp only [zs_69_0, zs_69_1, zs_69_4, zs_69_5, zs_69_8, zs_69_11, zs_69_12, zs_69_15, zs_69_16, zs_69_19, zs_69_22, zs_69_23, zs_69_24, zs_69_25, zs_69_26, zs_69_29, zs_69_30, zs_69_33, zs_69_34, zs_69_37, zs_69_38, zs_69_39, zs_69_42, zs_69_45, zs_69_46, zs_69_49, zs_69_50, zg_0_0, zrc_36, zrc_48, zli_0, zli_s, zlr_0, zlr_s, zls_0, zls_s, z1i_e, z2i_e, z1r_e, zir_e, ziir_e, z1v_e, z2v_e, zone_e, znil_e, zsp_0, zsp_s, zlz_0, zlz_1, zlz_2, zlz_3, zlz_4, zswp_0, zswp_s, true_and, and_true, implies_true, true_or, or_true, Int.reduceEq, Int.reduceLT, Int.reduceLE, Int.reduceNeg, not_true_eq_false, not_false_eq_true, false_implies, true_implies, zr_e, zwr_o, zwr_s, Nat.reduceEqDiff]
      have hfin := hok b1 b2 c1 c2
      unfold aBel at hfin
      rw [← AX_c hI.1 hI.2.1 b1 b2] at hfin
      have yes : (t = u ∨ u = 0 ∨ zbt (σ 12 t) u = true) → Q 1 σ := fun z => by rw [if_pos z] at hfin; exact hfin
      have no : ¬ t = u → ¬ u = 0 → zbt (σ 12 t) u = false → Q 0 σ := fun z1 z2 z3 => by
        rw [if_neg (by rintro (z | z | z); exact z1 z; exact z2 z; rw [z3] at z; cases z)] at hfin
        exact hfin
      refine ⟨ht, hu, fun d => yes (Or.inl d), fun d => ⟨hu, fun e => yes (Or.inr (Or.inl e)), fun e => ?_⟩⟩
      refine x_hasAncestor b1 (by omega) c1 (by omega) (fun g => ?_) (fun g => ?_)
      · simp only [zs_69_0, zs_69_1, zs_69_4, zs_69_5, zs_69_8, zs_69_11, zs_69_12, zs_69_15, zs_69_16, zs_69_19, zs_69_22, zs_69_23, zs_69_24, zs_69_25, zs_69_26, zs_69_29, zs_69_30, zs_69_33, zs_69_34, zs_69_37, zs_69_38, zs_69_39, zs_69_42, zs_69_45, zs_69_46, zs_69_49, zs_69_50, zg_0_0, zrc_36, zrc_48, zli_0, zli_s, zlr_0, zlr_s, zls_0, zls_s, z1i_e, z2i_e, z1r_e, zir_e, ziir_e, z1v_e, z2v_e, zone_e, znil_e, zsp_0, zsp_s, zlz_0, zlz_1, zlz_2, zlz_3, zlz_4, zswp_0, zswp_s, true_and, and_true, implies_true, true_or, or_true, Int.reduceEq, Int.reduceLT, Int.reduceLE, Int.reduceNeg, not_true_eq_false, not_false_eq_true, false_implies, true_implies, zr_e, zwr_o, zwr_s, Nat.reduceEqDiff]
        exact yes (Or.inr (Or.inr g))
      · simp only [zs_69_0, zs_69_1, zs_69_4, zs_69_5, zs_69_8, zs_69_11, zs_69_12, zs_69_15, zs_69_16, zs_69_19, zs_69_22, zs_69_23, zs_69_24, zs_69_25, zs_69_26, zs_69_29, zs_69_30, zs_69_33, zs_69_34, zs_69_37, zs_69_38, zs_69_39, zs_69_42, zs_69_45, zs_69_46, zs_69_49, zs_69_50, zg_0_0, zrc_36, zrc_48, zli_0, zli_s, zlr_0, zlr_s, zls_0, zls_s, z1i_e, z2i_e, z1r_e, zir_e, ziir_e, z1v_e, z2v_e, zone_e, znil_e, zsp_0, zsp_s, zlz_0, zlz_1, zlz_2, zlz_3, zlz_4, zswp_0, zswp_s, true_and, and_true, implies_true, true_or, or_true, Int.reduceEq, Int.reduceLT, Int.reduceLE, Int.reduceNeg, not_true_eq_false, not_false_eq_true, false_implies, true_implies, zr_e, zwr_o, zwr_s, Nat.reduceEqDiff]
        exact no d e g
    · simp only [zs_69_0, zs_69_1, zs_69_4, zs_69_5, zs_69_8, zs_69_11, zs_69_12, zs_69_15, zs_69_16, zs_69_19, zs_69_22, zs_69_23, zs_69_24, zs_69_25, zs_69_26, zs_69_29, zs_69_30, zs_69_33, zs_69_34, zs_69_37, zs_69_38, zs_69_39, zs_69_42, zs_69_45, zs_69_46, zs_69_49, zs_69_50, zg_0_0, zrc_36, zrc_48, zli_0, zli_s, zlr_0, zlr_s, zls_0, zls_s, z1i_e, z2i_e, z1r_e, zir_e, ziir_e, z1v_e, z2v_e, zone_e, znil_e, zsp_0, zsp_s, zlz_0, zlz_1, zlz_2, zlz_3, zlz_4, zswp_0, zswp_s, true_and, and_true, implies_true, true_or, or_true, Int.reduceEq, Int.reduceLT, Int.reduceLE, Int.reduceNeg, not_true_eq_false, not_false_eq_true, false_implies, true_implies, zr_e, zwr_o, zwr_s, Nat.reduceEqDiff]
      exact hbad (by omega)
  · simp only [zs_69_0, zs_69_1, zs_69_4, zs_69_5, zs_69_8, zs_69_11, zs_69_12, zs_69_15, zs_69_16, zs_69_19, zs_69_22, zs_69_23, zs_69_24, zs_69_25, zs_69_26, zs_69_29, zs_69_30, zs_69_33, zs_69_34, zs_69_37, zs_69_38, zs_69_39, zs_69_42, zs_69_45, zs_69_46, zs_69_49, zs_69_50, zg_0_0, zrc_36, zrc_48, zli_0, zli_s, zlr_0, zlr_s, zls_0, zls_s, z1i_e, z2i_e, z1r_e, zir_e, ziir_e, z1v_e, z2v_e, zone_e, znil_e, zsp_0, zsp_s, zlz_0, zlz_1, zlz_2, zlz_3, zlz_4, zswp_0, zswp_s, true_and, and_true, implies_true, true_or, or_true, Int.reduceEq, Int.reduceLT, Int.reduceLE, Int.reduceNeg, not_true_eq_false, not_false_eq_true, false_implies, true_implies, zr_e, zwr_o, zwr_s, Nat.reduceEqDiff]
    exact hbad (by omega)
theorem gNx_congr {B : zS} {H H' : Int → Int → List Int} {t m : Int} (hB : Bd B) (h0 : 0 ≤ t) (h1 : t < B 16 0) (m0 : 0 ≤ m) (m1 : m < B 17 0) (h : ∀ n u, 0 ≤ n → n < 10 → 0 ≤ u → u < B 16 0 → H n u = H' n u) : gNx B H t m = gNx B H' t m := by
  have hnn := hB.n
  have hme := hB.me m m0 (by omega)
  obtain ⟨g1, -, c1, c2, c3⟩ := hB.mm m m0 m1
  have hs := hB.sup (B 6 m) hme.1 (by omega)
  unfold gNx
  by_cases k0 : B 10 m = 0
  · rw [if_pos k0, if_pos k0]
  · rw [if_neg k0, if_neg k0]
    have hn := c1 k0
    by_cases k4 : B 10 m = 4
    · rw [if_pos k4, if_pos k4]
      have := c3 k4
      rw [h _ _ hn.1 (by omega) this.1 this.2]
    · rw [if_neg k4, if_neg k4, h _ t hn.1 (by omega) h0 h1]
      by_cases k2 : B 10 m = 2
      · simp only [k2, Int.reduceEq, if_false, if_true]
        by_cases z : B 6 m = 0 ∨ B 0 (B 6 m) = 2
        · rw [if_pos z, if_pos z]
        · rw [if_neg z, if_neg z, h _ (B 1 (B 6 m)) hn.1 (by omega) hs.1 (by omega)]
      · by_cases k1 : B 10 m = 1
        · simp [k1]
        · have := c2 (by omega)
          rw [h _ (B 11 m) hn.1 (by omega) this.1 this.2.1]
          simp [k1, k2]
theorem gPf_congr {H : Int → Int → List Int} {t : Int} (hB : Bd (bX σ)) (hR : AllR σ) (h0 : 0 ≤ t) (h1 : t < σ 1 0) (h : ∀ n u, 0 ≤ n → n < 10 → 0 ≤ u → u < σ 1 0 → rX σ n u = H n u) : ∀ (k : Nat) (nx s la st : Int), nxOK σ nx → gPf (bX σ) (rX σ) t k nx s la st = gPf (bX σ) H t k nx s la st
  | 0, _, _, _, _, _ => rfl
  | k + 1, nx, s, la, st, hn => by
    simp only [gPf]
    split
    · rfl
    · rename_i hneg
      have e := gNx_congr (B := bX σ) hB h0 h1 (show 0 ≤ nx by omega) (show nx < bX σ 17 0 from hn.2) h
      rw [← e]
      exact gPf_congr hB hR h0 h1 h k _ _ _ _ (nx_ok hB hR h0 h1 (by omega) hn.2)
theorem FX_sm {σ' : zS} {L : List Nat} (hF : FX σ) (hs : zsm L σ σ') (hL : ∀ c, c ∈ [1, 2, 6, 7, 8, 9, 10, 11, 12, 14, 15, 17, 18, 19, 20, 21, 22, 23, 24, 25, 26, 27] → c ∉ L) : FX σ' := by
  have eB : bX σ' = bX σ := bX_sm hs (fun c hc => hL c (by simp only [List.mem_cons, List.not_mem_nil, or_false] at hc ⊢; omega))
  have er : rX σ' = rX σ := rX_sm hs (hL 26 (by decide)) (hL 27 (by decide))
  refine ⟨by rw [hs 25 (hL 25 (by decide))]; exact hF.1, by rw [hs 26 (hL 26 (by decide))]; exact hF.2.1, fun n n0 n1 hf t t0 t1 => ?_⟩
  rw [hs 25 (hL 25 (by decide))] at hf
  rw [hs 1 (hL 1 (by decide))] at t1
  obtain ⟨⟨r1, r2, r3⟩, r4⟩ := hF.2.2 n n0 n1 hf t t0 t1
  refine ⟨⟨by rw [hs 26 (hL 26 (by decide))]; exact r1, by rw [hs 26 (hL 26 (by decide))]; exact r2, by rw [er, eB]; exact r3⟩, ?_⟩
  rw [er, eB, hs 12 (hL 12 (by decide))]
  exact r4
theorem gPf_r {t : Int} (hB : Bd (bX σ)) (hR : AllR σ) (h0 : 0 ≤ t) (h1 : t < σ 1 0) : ∀ (k : Nat) (nx s la st : Int), nxOK σ nx → -4 ≤ la → la < 60 → 0 ≤ st → (-4 ≤ (gPf (bX σ) (rX σ) t k nx s la st).2.1 ∧ (gPf (bX σ) (rX σ) t k nx s la st).2.1 < 60 ∧ 0 ≤ (gPf (bX σ) (rX σ) t k nx s la st).2.2.1 ∧ (gPf (bX σ) (rX σ) t k nx s la st).2.2.1 ≤ st + k ∧ nxOK σ (gPf (bX σ) (rX σ) t k nx s la st).2.2.2)
  | 0, nx, s, la, st, hn, l0, l1, s0 => by
    simp only [gPf]
    exact ⟨l0, l1, s0, by omega, hn⟩
  | k + 1, nx, s, la, st, hn, l0, l1, s0 => by
    have hnn : 1 ≤ σ 1 0 ∧ σ 1 0 ≤ 16 ∧ 3 ≤ σ 2 0 ∧ σ 2 0 ≤ 60 := hB.n
    simp only [gPf]
    split
    · exact ⟨l0, l1, s0, by show st ≤ _; omega, hn⟩
    · rename_i hneg
      have h2 := hn.2
      have := gPf_r hB hR h0 h1 k (gNx (bX σ) (rX σ) t nx) (s + bX σ 9 nx) nx (st + 1) (nx_ok hB hR h0 h1 (by omega) hn.2) (by omega) (by omega) (by omega)
      refine ⟨this.1, this.2.1, this.2.2.1, by omega, this.2.2.2.2⟩
set_option maxRecDepth 100000 in
theorem xp_call {t n : Int} (hI : IX σ) (ht : zr t) (hn : zr n) (hbad : ¬ (0 ≤ t ∧ t < σ 1 0 ∧ σ 6 t = 0 ∧ 0 ≤ n ∧ n < 10) → Q (-1) σ)
    (hok : 0 ≤ t → t < σ 1 0 → σ 6 t = 0 → 0 ≤ n → n < 10 → ∀ σ', zX σ σ' → IX σ' → σ' 5 3 = 1 → σ' 5 4 = (aPf (bX σ) t n).2.2.1 → σ' 5 5 = (aPf (bX σ) t n).2.1 → σ' 5 6 = (if 0 ≤ (aPf (bX σ) t n).2.2.2 then -8 else (aPf (bX σ) t n).2.2.2) → bX σ' = bX σ → Q (aPf (bX σ) t n).1 σ') : zM 70 zF [.inr 0, .inl t, .inl n] σ Q := by
  have hnn := hI.n
  refine ze_70 200 ?_
  simp only [zs_70_0, zs_70_1, zs_70_4, zs_70_5, zs_70_8, zs_70_11, zs_70_12, zs_70_15, zs_70_18, zs_70_19, zs_70_20, zs_70_23, zs_70_24, zs_70_27, zs_70_30, zs_70_31, zs_70_32, zs_70_33, zs_70_36, zs_70_39, zs_70_40, zs_70_43, zs_70_44, zs_70_45, zs_70_48, za_6, zg_0_0, zg_0_2, zg_0_4, zg_1_1, zrc_0, zrc_15, zrc_36, zli_0, zli_s, zlr_0, zlr_s, zls_0, zls_s, z1i_e, z2i_e, z1r_e, zir_e, ziir_e, z1v_e, z2v_e, zone_e, znil_e, zsp_0, zsp_s, zlz_0, zlz_1, zlz_2, zlz_3, zlz_4, zswp_0, zswp_s, true_and, and_true, implies_true, true_or, or_true, Int.reduceEq, Int.reduceLT, Int.reduceLE, Int.reduceNeg, not_true_eq_false, not_false_eq_true, false_implies, true_implies, zr_e, zwr_o, zwr_s, Nat.reduceEqDiff]
  refine x_exists hI.1 ht (fun b1 b2 => ?_) (fun b => ?_)
  · have hk : 0 ≤ σ 6 t ∧ σ 6 t ≤ 2 := hI.1.kind t b1 (by omega)
    simp only [zs_70_0, zs_70_1, zs_70_4, zs_70_5, zs_70_8, zs_70_11, zs_70_12, zs_70_15, zs_70_18, zs_70_19, zs_70_20, zs_70_23, zs_70_24, zs_70_27, zs_70_30, zs_70_31, zs_70_32, zs_70_33, zs_70_36, zs_70_39, zs_70_40, zs_70_43, zs_70_44, zs_70_45, zs_70_48, za_6, zg_0_0, zg_0_2, zg_0_4, zg_1_1, zrc_0, zrc_15, zrc_36, zli_0, zli_s, zlr_0, zlr_s, zls_0, zls_s, z1i_e, z2i_e, z1r_e, zir_e, ziir_e, z1v_e, z2v_e, zone_e, znil_e, zsp_0, zsp_s, zlz_0, zlz_1, zlz_2, zlz_3, zlz_4, zswp_0, zswp_s, true_and, and_true, implies_true, true_or, or_true, Int.reduceEq, Int.reduceLT, Int.reduceLE, Int.reduceNeg, not_true_eq_false, not_false_eq_true, false_implies, true_implies, zr_e, zwr_o, zwr_s, Nat.reduceEqDiff]
    refine ⟨b1, by omega, by omega, fun d => hbad (by omega), fun d => ?_⟩
    refine x_isName hn (fun c1 c2 => ?_) (fun c => ?_)
    · simp only [zs_70_0, zs_70_1, zs_70_4, zs_70_5, zs_70_8, zs_70_11, zs_70_12, zs_70_15, zs_70_18, zs_70_19, zs_70_20, zs_70_23, zs_70_24, zs_70_27, zs_70_30, zs_70_31, zs_70_32, zs_70_33, zs_70_36, zs_70_39, zs_70_40, zs_70_43, zs_70_44, zs_70_45, zs_70_48, za_6, zg_0_0, zg_0_2, zg_0_4, zg_1_1, zrc_0, zrc_15, zrc_36, zli_0, zli_s, zlr_0, zlr_s, zls_0, zls_s, z1i_e, z2i_e, z1r_e, zir_e, ziir_e, z1v_e, z2v_e, zone_e, znil_e, zsp_0, zsp_s, zlz_0, zlz_1, zlz_2, zlz_3, zlz_4, zswp_0, zswp_s, true_and, and_true, implies_true, true_or, or_true, Int.reduceEq, Int.reduceLT, Int.reduceLE, Int.reduceNeg, not_true_eq_false, not_false_eq_true, false_implies, true_implies, zr_e, zwr_o, zwr_s, Nat.reduceEqDiff]
      refine x_refreshAll hI.1 hI.2.2.1 ?_
      intro σ1 hs hF h1
      have hI1 := IX_fresh hI hs hF
      have eB : bX σ1 = bX σ := bX_sm hs (by decide)
      have b2' : t < σ1 1 0 := by rw [hs 1 (by decide)]; exact b2
      have hR := hI1.all h1
      have hr := hR n t c1 c2 b1 b2'
      have ep : gPf (bX σ1) (rX σ1) t 30 (gRX (bX σ1) (rX σ1 n t) 0 (-4) 0) 0 (-4) 0 = aPf (bX σ) t n := by
        have e1 := gPf_congr hI1.1 hR b1 b2' (fun n u n0 n1 u0 u1 => (hI1.row (h1 n n0 n1) n0 n1 u0 u1).2) 30 (gRX (bX σ1) (rX σ1 n t) 0 (-4) 0) 0 (-4) 0 (run_ok hI1.1 hr)
        rw [e1, (hI1.row (h1 n c1 c2) c1 c2 b1 b2').2, eB]
        rfl
      have hrg := gPf_r hI1.1 hR b1 b2' 30 (gRX (bX σ1) (rX σ1 n t) 0 (-4) 0) 0 (-4) 0 (run_ok hI1.1 hr) (by omega) (by omega) (by omega)
      refine x_perform hI1.1 hR b1 b2' c1 c2 ?_
      rw [ep] at hrg ⊢
      intro σ2 hs2 g3 g4 g5 g6
      have eB2 : bX σ2 = bX σ := by rw [bX_sm hs2 (by decide), eB]
      have hnn1 := hI1.n
      obtain ⟨q1, q2, q3, q4, q5⟩ := hrg
      unfold nxOK at q5
      have hI2 : IX σ2 := by
        refine ⟨by rw [eB2]; exact hI.1, fun u u0 u1 => ?_, FX_sm hI1.2.2.1 hs2 (by decide), Or.inr g3, ?_, ?_, ?_⟩
        · rw [hs2 1 (by decide)] at u1
          exact AXt_base (by rw [eB2, eB]) (by rw [eB2, eB]) (by rw [eB2, eB]) (by rw [eB2, eB]) (hs2 12 (by decide)) (hs2 13 (by decide)) (hI1.2.1 u u0 u1)
        · rw [g4]; exact ⟨by omega, by omega⟩
        · rw [g5]; exact ⟨by omega, by omega⟩
        · rw [g6]
          split
          · exact ⟨by decide, by decide⟩
          · exact ⟨by omega, by omega⟩
      exact hok b1 b2 d c1 c2 σ2 (fun c hc => by rw [zX_sm hs2 (by decide) c hc, zX_sm hs (by decide) c hc]) hI2 g3 g4 g5 g6 eB2
    · simp only [zs_70_0, zs_70_1, zs_70_4, zs_70_5, zs_70_8, zs_70_11, zs_70_12, zs_70_15, zs_70_18, zs_70_19, zs_70_20, zs_70_23, zs_70_24, zs_70_27, zs_70_30, zs_70_31, zs_70_32, zs_70_33, zs_70_36, zs_70_39, zs_70_40, zs_70_43, zs_70_44, zs_70_45, zs_70_48, za_6, zg_0_0, zg_0_2, zg_0_4, zg_1_1, zrc_0, zrc_15, zrc_36, zli_0, zli_s, zlr_0, zlr_s, zls_0, zls_s, z1i_e, z2i_e, z1r_e, zir_e, ziir_e, z1v_e, z2v_e, zone_e, znil_e, zsp_0, zsp_s, zlz_0, zlz_1, zlz_2, zlz_3, zlz_4, zswp_0, zswp_s, true_and, and_true, implies_true, true_or, or_true, Int.reduceEq, Int.reduceLT, Int.reduceLE, Int.reduceNeg, not_true_eq_false, not_false_eq_true, false_implies, true_implies, zr_e, zwr_o, zwr_s, Nat.reduceEqDiff]
      exact hbad (by omega)
  · simp only [zs_70_0, zs_70_1, zs_70_4, zs_70_5, zs_70_8, zs_70_11, zs_70_12, zs_70_15, zs_70_18, zs_70_19, zs_70_20, zs_70_23, zs_70_24, zs_70_27, zs_70_30, zs_70_31, zs_70_32, zs_70_33, zs_70_36, zs_70_39, zs_70_40, zs_70_43, zs_70_44, zs_70_45, zs_70_48, za_6, zg_0_0, zg_0_2, zg_0_4, zg_1_1, zrc_0, zrc_15, zrc_36, zli_0, zli_s, zlr_0, zlr_s, zls_0, zls_s, z1i_e, z2i_e, z1r_e, zir_e, ziir_e, z1v_e, z2v_e, zone_e, znil_e, zsp_0, zsp_s, zlz_0, zlz_1, zlz_2, zlz_3, zlz_4, zswp_0, zswp_s, true_and, and_true, implies_true, true_or, or_true, Int.reduceEq, Int.reduceLT, Int.reduceLE, Int.reduceNeg, not_true_eq_false, not_false_eq_true, false_implies, true_implies, zr_e, zwr_o, zwr_s, Nat.reduceEqDiff]
    exact hbad (by omega)
set_option maxRecDepth 100000 in
theorem xp_latest {w : Int} (hI : IX σ) (hw : zr w) (hbad : σ 5 3 = 0 ∨ w < 0 ∨ 2 < w → Q (-1) σ) (h0 : ¬ σ 5 3 = 0 → w = 0 → Q (-4 - σ 5 6) σ) (h1 : ¬ σ 5 3 = 0 → w = 1 → Q (σ 5 4) σ) (h2 : ¬ σ 5 3 = 0 → w = 2 → Q (σ 5 5) σ) : zM 71 zF [.inr 0, .inl w] σ Q := by
  have hp := hI.2.2.2.1
  simp only [zr] at hw
  refine ze_71 200 ?_
  simp only [zs_71_0, zs_71_1, zs_71_4, zs_71_7, zs_71_10, zs_71_11, zs_71_12, zs_71_13, zs_71_40, zs_71_42, zs_71_43, zs_71_46, zs_71_49, zs_71_50, zs_71_51, zs_71_52, zs_71_55, zs_71_58, zs_71_59, zs_71_60, zs_71_63, zs_71_66, zs_71_67, zs_71_68, zg_0_4, zg_5_3, zg_5_4, zg_5_5, zg_5_6, zli_0, zli_s, zlr_0, zlr_s, zls_0, zls_s, z1i_e, z2i_e, z1r_e, zir_e, ziir_e, z1v_e, z2v_e, zone_e, znil_e, zsp_0, zsp_s, zlz_0, zlz_1, zlz_2, zlz_3, zlz_4, zswp_0, zswp_s, true_and, and_true, implies_true, true_or, or_true, Int.reduceEq, Int.reduceLT, Int.reduceLE, Int.reduceNeg, not_true_eq_false, not_false_eq_true, false_implies, true_implies, zr_e, zwr_o, zwr_s, Nat.reduceEqDiff]
  repeat' first | omega | (apply hbad; omega) | (apply h0 <;> omega) | (apply h1 <;> omega) | (apply h2 <;> omega) | apply And.intro | intro _
set_option maxRecDepth 100000 in
theorem x_cf_loop (hI : IX σ) (hf : ∀ n, 0 ≤ n → n < 10 → σ 25 n = 1)
    (h : ∀ σ', zsm [3, 4, 28, 29, 30] σ σ' → Q (aCf (bX σ) (σ 1 0).toNat) σ') :
    ∀ (k : Nat) (t : Int) (σ2 : zS), 0 ≤ t → t ≤ σ 1 0 → (σ 1 0 - t).toNat = k → zsm [3, 4, 28, 29, 30] σ σ2 → zV 73 zF Q 4 [some (.inr 0), some (.inl (aCf (bX σ) t.toNat)), some (.inl t)] [] σ2 := by
  have hnn := hI.n
  intro k
  induction k with
  | zero =>
    intro t σ2 t0 t1 tk hs
    refine zv_73 200 ?_
    simp only [zs_73_0, zs_73_1, zs_73_2, zs_73_3, zs_73_4, zs_73_5, zs_73_6, zs_73_9, zs_73_12, zs_73_15, zs_73_16, zs_73_19, zs_73_20, zs_73_23, zs_73_26, zs_73_29, zs_73_32, zs_73_35, zs_73_36, zs_73_4h, zg_0_0, zg_0_3, zg_1_0, zrc_3, zli_0, zli_s, zlr_0, zlr_s, zls_0, zls_s, z1i_e, z2i_e, z1r_e, zir_e, ziir_e, z1v_e, z2v_e, zone_e, znil_e, zsp_0, zsp_s, zlz_0, zlz_1, zlz_2, zlz_3, zlz_4, zswp_0, zswp_s, true_and, and_true, implies_true, true_or, or_true, Int.reduceEq, Int.reduceLT, Int.reduceLE, Int.reduceNeg, not_true_eq_false, not_false_eq_true, false_implies, true_implies, zr_e, zwr_o, zwr_s, Nat.reduceEqDiff]
    rw [hs 1 (by decide)]
    refine ⟨by omega, by omega, fun a => ?_, fun a => by omega⟩
    have e : t = σ 1 0 := by omega
    rw [e]
    exact h σ2 hs
  | succ k ih =>
    intro t σ2 t0 t1 tk hs
    have hI2 := IX_sm hI hs (by decide)
    have eB : bX σ2 = bX σ := bX_sm hs (by decide)
    have hf2 : ∀ n, 0 ≤ n → n < 10 → σ2 25 n = 1 := fun n n0 n1 => by rw [hs 25 (by decide)]; exact hf n n0 n1
    have t2 : t < σ2 1 0 := by rw [hs 1 (by decide)]; omega
    have es : aCf (bX σ) (t + 1).toNat = aCf (bX σ) t.toNat + (if (cCol (bX σ) t).length = 0 then 1 else 0) := by
      have e : (t + 1).toNat = t.toNat + 1 := by omega
      have e2 : ((t.toNat : Nat) : Int) = t := by omega
      rw [e, aCf, e2]
    refine zv_73 200 ?_
    simp only [zs_73_0, zs_73_1, zs_73_2, zs_73_3, zs_73_4, zs_73_5, zs_73_6, zs_73_9, zs_73_12, zs_73_15, zs_73_16, zs_73_19, zs_73_20, zs_73_23, zs_73_26, zs_73_29, zs_73_32, zs_73_35, zs_73_36, zs_73_4h, zg_0_0, zg_0_3, zg_1_0, zrc_3, zli_0, zli_s, zlr_0, zlr_s, zls_0, zls_s, z1i_e, z2i_e, z1r_e, zir_e, ziir_e, z1v_e, z2v_e, zone_e, znil_e, zsp_0, zsp_s, zlz_0, zlz_1, zlz_2, zlz_3, zlz_4, zswp_0, zswp_s, true_and, and_true, implies_true, true_or, or_true, Int.reduceEq, Int.reduceLT, Int.reduceLE, Int.reduceNeg, not_true_eq_false, not_false_eq_true, false_implies, true_implies, zr_e, zwr_o, zwr_s, Nat.reduceEqDiff]
    rw [hs 1 (by decide)]
    refine ⟨by omega, by omega, fun a => by omega, fun a => ?_⟩
    refine x_collect hI2.1 t0 t2 (hI2.all hf2) ?_
    intro σ3 hs3 hc3 hd3 hf3
    rw [col_c hI2 hf2 t0 t2, eB] at hf3
    have hlen : ((fX σ3).length : Int) = σ3 4 5 := zl2_len hc3
    rw [hf3] at hlen
    have nx := ih (t + 1) σ3 (by omega) (by omega) (by omega) (zsm_tr hs hs3 (by decide))
    rw [es] at nx
    refine ⟨by omega, fun b => ?_, fun b => ?_⟩
    · rw [if_neg (by omega), Int.add_zero] at nx
      exact nx
    · rw [if_pos (by omega)] at nx
      exact nx
set_option maxRecDepth 100000 in
theorem xp_told {w : Int} (hI : IX σ) (hw : zr w) (hbad : w < 0 ∨ 2 < w → Q (-1) σ) (h0 : w = 0 → Q (σ 1 0) σ) (h1 : w = 1 → Q (σ 2 0) σ)
    (h2 : w = 2 → ∀ σ', zX σ σ' → IX σ' → σ' 5 = σ 5 → bX σ' = bX σ → Q (aCf (bX σ) (σ 1 0).toNat) σ') : zM 72 zF [.inr 0, .inl w] σ Q := by
  have hnn := hI.n
  simp only [zr] at hw
  refine ze_72 200 ?_
  simp only [zs_72_0, zs_72_1, zs_72_28, zs_72_29, zs_72_32, zs_72_35, zs_72_36, zs_72_37, zs_72_40, zs_72_43, zs_72_44, zs_72_45, zs_72_48, zs_72_51, zs_72_52, zs_72_55, zs_72_56, zs_72_57, zg_0_0, zg_0_1, zg_0_2, zg_1_0, zg_2_0, zrc_15, zrc_73, zli_0, zli_s, zlr_0, zlr_s, zls_0, zls_s, z1i_e, z2i_e, z1r_e, zir_e, ziir_e, z1v_e, z2v_e, zone_e, znil_e, zsp_0, zsp_s, zlz_0, zlz_1, zlz_2, zlz_3, zlz_4, zswp_0, zswp_s, true_and, and_true, implies_true, true_or, or_true, Int.reduceEq, Int.reduceLT, Int.reduceLE, Int.reduceNeg, not_true_eq_false, not_false_eq_true, false_implies, true_implies, zr_e, zwr_o, zwr_s, Nat.reduceEqDiff]
  refine ⟨hw, fun a => h0 a, fun a => ⟨fun b => h1 b, fun b => ⟨fun c => ?_, fun c => hbad (by omega)⟩⟩⟩
  refine x_refreshAll hI.1 hI.2.2.1 ?_
  intro σ1 hs hF hf
  refine ze_73 200 ?_
  simp only [zs_73_0, zs_73_1, zs_73_2, zs_73_3, zs_73_4, zs_73_5, zs_73_6, zs_73_9, zs_73_12, zs_73_15, zs_73_16, zs_73_19, zs_73_20, zs_73_23, zs_73_26, zs_73_29, zs_73_32, zs_73_35, zs_73_36, zg_0_0, zg_0_3, zg_1_0, zrc_3, zli_0, zli_s, zlr_0, zlr_s, zls_0, zls_s, z1i_e, z2i_e, z1r_e, zir_e, ziir_e, z1v_e, z2v_e, zone_e, znil_e, zsp_0, zsp_s, zlz_0, zlz_1, zlz_2, zlz_3, zlz_4, zswp_0, zswp_s, true_and, and_true, implies_true, true_or, or_true, Int.reduceEq, Int.reduceLT, Int.reduceLE, Int.reduceNeg, not_true_eq_false, not_false_eq_true, false_implies, true_implies, zr_e, zwr_o, zwr_s, Nat.reduceEqDiff]
  have hI1 := IX_fresh hI hs hF
  have eB : bX σ1 = bX σ := bX_sm hs (by decide)
  have e1 : σ1 1 = σ 1 := hs 1 (by decide)
  refine x_cf_loop hI1 hf ?_ _ 0 σ1 (by omega) (by rw [e1]; omega) rfl zsm_rf
  intro σ2 hs2
  rw [eB, e1]
  exact h2 c σ2 (fun c hc => by rw [zX_sm hs2 (by decide) c hc, zX_sm hs (by decide) c hc]) (IX_sm hI1 hs2 (by decide)) (by rw [hs2 5 (by decide), hs 5 (by decide)]) (by rw [bX_sm hs2 (by decide), eB])
end XP4
