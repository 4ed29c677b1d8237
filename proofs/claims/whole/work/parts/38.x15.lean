/-! constants that are seen -/
def gS1 (only one : Int) : Int := if only = -4 then one else if ¬ one = -4 ∧ ¬ one = only then -2 else only
def gSee (f : Int → Int) : Nat → Int
  | 0 => -4
  | k + 1 => gS1 (gSee f k) (f (k : Int))
theorem gSee_s {f : Int → Int} {i : Int} (h : 0 ≤ i) : gSee f (i + 1).toNat = gS1 (gSee f i.toNat) (f i) := by
  have e : (i + 1).toNat = i.toNat + 1 := by omega
  have e2 : ((i.toNat : Nat) : Int) = i := by omega
  rw [e, gSee, e2]
/-- what is seen in a type, by what its parents see -/
noncomputable def gSeT (B : zS) (c : Int) (S : Int → Int) (t : Int) : Int := if B 14 (4 * t + c) = 0 then gSee (fun i => S (gPa B t i)) (gPc B t).toNat else t
def sVal (x : Int) : Prop := x = -4 ∨ x = -2 ∨ (0 ≤ x ∧ x ≤ 15)
theorem sVal_1 {a b : Int} (ha : sVal a) (hb : sVal b) : sVal (gS1 a b) := by
  unfold sVal gS1 at *
  split
  · exact hb
  · split <;> omega
theorem sVal_see {f : Int → Int} {k : Nat} (h : ∀ i : Int, 0 ≤ i → i < k → sVal (f i)) : sVal (gSee f k) := by
  induction k with
  | zero => exact Or.inl rfl
  | succ k ih => exact sVal_1 (ih (fun i a b => h i a (by omega))) (h k (by omega) (by omega))
section X16
variable {σ : zS} {Q : Int → zS → Prop}
set_option maxRecDepth 100000 in
theorem x_seenBy_loop {t : Int} (hB : Bd (bX σ)) (h0 : 0 ≤ t) (h1 : t < 16) (hS : ∀ p, 0 ≤ p → p < t → sVal (σ 16 p)) (h : Q (gSee (fun i => σ 16 (gPa (bX σ) t i)) (gPc (bX σ) t).toNat) σ) :
    ∀ (k : Nat) (i : Int) (l4 : Option zW), 0 ≤ i → i ≤ gPc (bX σ) t → (gPc (bX σ) t - i).toNat = k → zV 55 zF Q 5 [some (.inr 1), some (.inl t), some (.inl (gSee (fun i => σ 16 (gPa (bX σ) t i)) i.toNat)), some (.inl i), l4] [] σ := by
  have hp := gPc_le hB h0 h1
  intro k
  induction k with
  | zero =>
    intro i l4 i0 i1 ik
    refine zv_55 100 ?_
    simp only [zs_55_0, zs_55_2, zs_55_3, zs_55_4, zs_55_5, zs_55_6, zs_55_7, zs_55_8, zs_55_11, zs_55_14, zs_55_15, zs_55_18, zs_55_19, zs_55_20, zs_55_21, zs_55_24, zs_55_25, zs_55_27, zs_55_28, zs_55_30, zs_55_33, zs_55_35, zs_55_36, zs_55_39, zs_55_41, zs_55_43, zs_55_46, zs_55_48, zs_55_49, zs_55_52, zs_55_54, zs_55_55, zs_55_58, zs_55_61, zs_55_62, zs_55_5h, za_16, zg_1_11, zrc_46, zrc_47, zli_0, zli_s, zlr_0, zlr_s, zls_0, zls_s, z1i_e, z2i_e, z1r_e, zir_e, ziir_e, z1v_e, z2v_e, zone_e, znil_e, zsp_0, zsp_s, zlz_0, zlz_1, zlz_2, zlz_3, zlz_4, zswp_0, zswp_s, true_and, and_true, implies_true, true_or, or_true, Int.reduceEq, Int.reduceLT, Int.reduceLE, Int.reduceNeg, not_true_eq_false, not_false_eq_true, false_implies, true_implies, zr_e, zwr_o, zwr_s, Nat.reduceEqDiff]
    refine x_parentCount hB h0 h1 ?_
    have e : i = gPc (bX σ) t := by omega
    refine ⟨by omega, by omega, fun a => ?_, fun a => by omega⟩
    rw [e]
    exact h
  | succ k ih =>
    intro i l4 i0 i1 ik
    have hpa := gPa_lt hB h0 h1 i0 (show i < gPc (bX σ) t by omega)
    have hv := hS _ hpa.1 hpa.2
    have hs : sVal (gSee (fun i => σ 16 (gPa (bX σ) t i)) i.toNat) := sVal_see (fun j a b => by
      have := gPa_lt hB h0 h1 a (show j < gPc (bX σ) t by omega)
      exact hS _ this.1 this.2)
    refine zv_55 100 ?_
    simp only [zs_55_0, zs_55_2, zs_55_3, zs_55_4, zs_55_5, zs_55_6, zs_55_7, zs_55_8, zs_55_11, zs_55_14, zs_55_15, zs_55_18, zs_55_19, zs_55_20, zs_55_21, zs_55_24, zs_55_25, zs_55_27, zs_55_28, zs_55_30, zs_55_33, zs_55_35, zs_55_36, zs_55_39, zs_55_41, zs_55_43, zs_55_46, zs_55_48, zs_55_49, zs_55_52, zs_55_54, zs_55_55, zs_55_58, zs_55_61, zs_55_62, zs_55_5h, za_16, zg_1_11, zrc_46, zrc_47, zli_0, zli_s, zlr_0, zlr_s, zls_0, zls_s, z1i_e, z2i_e, z1r_e, zir_e, ziir_e, z1v_e, z2v_e, zone_e, znil_e, zsp_0, zsp_s, zlz_0, zlz_1, zlz_2, zlz_3, zlz_4, zswp_0, zswp_s, true_and, and_true, implies_true, true_or, or_true, Int.reduceEq, Int.reduceLT, Int.reduceLE, Int.reduceNeg, not_true_eq_false, not_false_eq_true, false_implies, true_implies, zr_e, zwr_o, zwr_s, Nat.reduceEqDiff]
    refine x_parentCount hB h0 h1 ?_
    refine ⟨by omega, by omega, fun a => by omega, fun a => ?_⟩
    refine x_parentAt hB h0 h1 i0 (by omega) ?_
    have nx := fun l4 => ih (i + 1) l4 (by omega) (by omega) (by omega)
    rw [gSee_s i0] at nx
    generalize gSee (fun i => σ 16 (gPa (bX σ) t i)) i.toNat = s at *
    generalize gPa (bX σ) t i = p at *
    generalize σ 16 p = v at *
    unfold sVal at hv hs
    have n1 : s = -4 → ∀ l4, zV 55 zF Q 5 [some (.inr 1), some (.inl t), some (.inl v), some (.inl (i + 1)), l4] [] σ := by
      intro a l4
      have := nx l4
      rw [gS1, if_pos a] at this
      exact this
    have n2 : ¬ s = -4 → (¬ v = -4 ∧ ¬ v = s) → ∀ l4, zV 55 zF Q 5 [some (.inr 1), some (.inl t), some (.inl (-2)), some (.inl (i + 1)), l4] [] σ := by
      intro a b l4
      have := nx l4
      rw [gS1, if_neg a, if_pos b] at this
      exact this
    have n3 : ¬ s = -4 → ¬ (¬ v = -4 ∧ ¬ v = s) → ∀ l4, zV 55 zF Q 5 [some (.inr 1), some (.inl t), some (.inl s), some (.inl (i + 1)), l4] [] σ := by
      intro a b l4
      have := nx l4
      rw [gS1, if_neg a, if_neg b] at this
      exact this
    repeat' first | omega | (apply n1; omega) | (apply n2 <;> omega) | (apply n3 <;> omega) | apply And.intro | intro _
set_option maxRecDepth 100000 in
theorem x_seenBy {t : Int} (hB : Bd (bX σ)) (h0 : 0 ≤ t) (h1 : t < 16) (hS : ∀ p, 0 ≤ p → p < t → sVal (σ 16 p)) (h : Q (gSee (fun i => σ 16 (gPa (bX σ) t i)) (gPc (bX σ) t).toNat) σ) : zM 55 zF [.inr 1, .inl t] σ Q := by
  have hp := gPc_le hB h0 h1
  refine ze_55 100 ?_
  simp only [zs_55_0, zs_55_2, zs_55_3, zs_55_4, zs_55_5, zs_55_6, zs_55_7, zs_55_8, zs_55_11, zs_55_14, zs_55_15, zs_55_18, zs_55_19, zs_55_20, zs_55_21, zs_55_24, zs_55_25, zs_55_27, zs_55_28, zs_55_30, zs_55_33, zs_55_35, zs_55_36, zs_55_39, zs_55_41, zs_55_43, zs_55_46, zs_55_48, zs_55_49, zs_55_52, zs_55_54, zs_55_55, zs_55_58, zs_55_61, zs_55_62, za_16, zg_1_11, zrc_46, zrc_47, zli_0, zli_s, zlr_0, zlr_s, zls_0, zls_s, z1i_e, z2i_e, z1r_e, zir_e, ziir_e, z1v_e, z2v_e, zone_e, znil_e, zsp_0, zsp_s, zlz_0, zlz_1, zlz_2, zlz_3, zlz_4, zswp_0, zswp_s, true_and, and_true, implies_true, true_or, or_true, Int.reduceEq, Int.reduceLT, Int.reduceLE, Int.reduceNeg, not_true_eq_false, not_false_eq_true, false_implies, true_implies, zr_e, zwr_o, zwr_s, Nat.reduceEqDiff]
  exact x_seenBy_loop hB h0 h1 hS h _ 0 _ (by omega) (by omega) rfl
set_option maxRecDepth 100000 in
theorem x_seen_loop {t c : Int} (hB : Bd (bX σ)) (h0 : 0 ≤ t) (h1 : t < 16) (c0 : 0 ≤ c) (c1 : c < 4)
    (h : ∀ σ', zsm [16] σ σ' → (∀ u, 0 ≤ u → u ≤ t → sVal (σ' 16 u) ∧ σ' 16 u = gSeT (bX σ) c (σ' 16) u) → Q (σ' 16 t) σ') :
    ∀ (k : Nat) (u : Int) (σ2 : zS), 0 ≤ u → u ≤ t + 1 → (t + 1 - u).toNat = k → zsm [16] σ σ2 → (∀ v, 0 ≤ v → v < u → sVal (σ2 16 v) ∧ σ2 16 v = gSeT (bX σ) c (σ2 16) v) → zV 54 zF Q 2 [some (.inr 1), some (.inl t), some (.inl c), some (.inl u)] [] σ2 := by
  intro k
  induction k with
  | zero =>
    intro u σ2 u0 u1 uk hs hv
    refine zv_54 100 ?_
    simp only [zs_54_0, zs_54_1, zs_54_2, zs_54_3, zs_54_4, zs_54_7, zs_54_8, zs_54_11, zs_54_12, zs_54_13, zs_54_16, zs_54_17, zs_54_18, zs_54_19, zs_54_20, zs_54_21, zs_54_22, zs_54_25, zs_54_26, zs_54_29, zs_54_30, zs_54_31, zs_54_34, zs_54_35, zs_54_38, zs_54_41, zs_54_42, zs_54_45, zs_54_46, zs_54_47, zs_54_2h, za_14, za_16, zg_1_11, zg_1_9, zrc_55, zli_0, zli_s, zlr_0, zlr_s, zls_0, zls_s, z1i_e, z2i_e, z1r_e, zir_e, ziir_e, z1v_e, z2v_e, zone_e, znil_e, zsp_0, zsp_s, zlz_0, zlz_1, zlz_2, zlz_3, zlz_4, zswp_0, zswp_s, true_and, and_true, implies_true, true_or, or_true, Int.reduceEq, Int.reduceLT, Int.reduceLE, Int.reduceNeg, not_true_eq_false, not_false_eq_true, false_implies, true_implies, zr_e, zwr_o, zwr_s, Nat.reduceEqDiff]
    refine ⟨by omega, by omega, fun a => ⟨h0, h1, ?_⟩, fun a => by omega⟩
    exact h σ2 hs (fun v v0 v1 => hv v v0 (by omega))
  | succ k ih =>
    intro u σ2 u0 u1 uk hs hv
    have eB : bX σ2 = bX σ := bX_sm hs (by decide)
    have e14 : σ2 14 = σ 14 := hs 14 (by decide)
    have hco : (σ 14 (4 * u + c) = 0 ∨ σ 14 (4 * u + c) = 1) ∧ _ := hB.co (4 * u + c) (by omega) (by omega)
    have hp := gPc_le hB u0 (show u < 16 by omega)
    have hsee : ∀ x, sVal x → x = gSeT (bX σ) c (σ2 16) u → zV 54 zF Q 2 [some (.inr 1), some (.inl t), some (.inl c), some (.inl (u + 1))] [] (zwr σ2 16 u x) := by
      intro x hx e
      refine ih (u + 1) _ (by omega) (by omega) (by omega) (zsm_wr hs (by decide)) ?_
      intro v v0 v1
      have hsame : ∀ w, 0 ≤ w → w ≤ u → gSeT (bX σ) c (zwr σ2 16 u x 16) w = gSeT (bX σ) c (σ2 16) w := by
        intro w w0 w1
        unfold gSeT
        congr 1
        have : ∀ k : Nat, k ≤ (gPc (bX σ) w).toNat → gSee (fun i => zwr σ2 16 u x 16 (gPa (bX σ) w i)) k = gSee (fun i => σ2 16 (gPa (bX σ) w i)) k := by
          intro k
          induction k with
          | zero => intro _; rfl
          | succ k ihk =>
            intro hk
            have hl := gPa_lt hB w0 (show w < 16 by omega) (show (0 : Int) ≤ (k : Int) by omega) (show (k : Int) < gPc (bX σ) w by omega)
            simp only [gSee]
            rw [ihk (by omega)]
            simp only [zwr, true_and]
            rw [if_neg (by omega)]
        exact this _ (Nat.le_refl _)
      by_cases ev : v = u
      · rw [ev, hsame u u0 (by omega), zwr_s]
        exact ⟨hx, e⟩
      · rw [hsame v v0 (by omega)]
        simp only [zwr, true_and, if_neg ev]
        exact hv v v0 (by omega)
    refine zv_54 100 ?_
    simp only [zs_54_0, zs_54_1, zs_54_2, zs_54_3, zs_54_4, zs_54_7, zs_54_8, zs_54_11, zs_54_12, zs_54_13, zs_54_16, zs_54_17, zs_54_18, zs_54_19, zs_54_20, zs_54_21, zs_54_22, zs_54_25, zs_54_26, zs_54_29, zs_54_30, zs_54_31, zs_54_34, zs_54_35, zs_54_38, zs_54_41, zs_54_42, zs_54_45, zs_54_46, zs_54_47, zs_54_2h, za_14, za_16, zg_1_11, zg_1_9, zrc_55, zli_0, zli_s, zlr_0, zlr_s, zls_0, zls_s, z1i_e, z2i_e, z1r_e, zir_e, ziir_e, z1v_e, z2v_e, zone_e, znil_e, zsp_0, zsp_s, zlz_0, zlz_1, zlz_2, zlz_3, zlz_4, zswp_0, zswp_s, true_and, and_true, implies_true, true_or, or_true, Int.reduceEq, Int.reduceLT, Int.reduceLE, Int.reduceNeg, not_true_eq_false, not_false_eq_true, false_implies, true_implies, zr_e, zwr_o, zwr_s, Nat.reduceEqDiff]
    rw [Int.mul_comm u 4, e14]
    refine ⟨by omega, by omega, fun a => by omega, fun a => ⟨by omega, by omega, by omega, fun b => ?_, fun b => ?_⟩⟩
    · have e : gSeT (bX σ) c (σ2 16) u = gSee (fun i => σ2 16 (gPa (bX σ) u i)) (gPc (bX σ) u).toNat := if_pos b
      refine x_seenBy (by rw [eB]; exact hB) u0 (by omega) (fun p p0 p1 => (hv p p0 p1).1) ?_
      rw [eB, ← e]
      refine ⟨by omega, by omega, hsee _ ?_ rfl⟩
      rw [e]
      exact sVal_see (fun j a b => by
        have := gPa_lt hB u0 (show u < 16 by omega) a (show j < gPc (bX σ) u by omega)
        exact (hv _ this.1 this.2).1)
    · have e : gSeT (bX σ) c (σ2 16) u = u := if_neg b
      exact ⟨by omega, by omega, hsee u (Or.inr (Or.inr ⟨u0, by omega⟩)) e.symm⟩
set_option maxRecDepth 100000 in
theorem x_seen {t c : Int} (hB : Bd (bX σ)) (h0 : 0 ≤ t) (h1 : t < 16) (c0 : 0 ≤ c) (c1 : c < 4)
    (h : ∀ σ', zsm [16] σ σ' → (∀ u, 0 ≤ u → u ≤ t → sVal (σ' 16 u) ∧ σ' 16 u = gSeT (bX σ) c (σ' 16) u) → Q (σ' 16 t) σ') : zM 54 zF [.inr 1, .inl t, .inl c] σ Q := by
  refine ze_54 100 ?_
  simp only [zs_54_0, zs_54_1, zs_54_2, zs_54_3, zs_54_4, zs_54_7, zs_54_8, zs_54_11, zs_54_12, zs_54_13, zs_54_16, zs_54_17, zs_54_18, zs_54_19, zs_54_20, zs_54_21, zs_54_22, zs_54_25, zs_54_26, zs_54_29, zs_54_30, zs_54_31, zs_54_34, zs_54_35, zs_54_38, zs_54_41, zs_54_42, zs_54_45, zs_54_46, zs_54_47, za_14, za_16, zg_1_11, zg_1_9, zrc_55, zli_0, zli_s, zlr_0, zlr_s, zls_0, zls_s, z1i_e, z2i_e, z1r_e, zir_e, ziir_e, z1v_e, z2v_e, zone_e, znil_e, zsp_0, zsp_s, zlz_0, zlz_1, zlz_2, zlz_3, zlz_4, zswp_0, zswp_s, true_and, and_true, implies_true, true_or, or_true, Int.reduceEq, Int.reduceLT, Int.reduceLE, Int.reduceNeg, not_true_eq_false, not_false_eq_true, false_implies, true_implies, zr_e, zwr_o, zwr_s, Nat.reduceEqDiff]
  exact x_seen_loop hB h0 h1 c0 c1 h _ 0 σ (by omega) (by omega) rfl zsm_rf (fun v _ _ => by omega)
end X16
