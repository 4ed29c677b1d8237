/-! freshen -/
/-- the ancestors' equation -/
def ancEq (B : zS) (A : Int → Int) (t : Int) : Prop := A t = gOr (fun i => zor (zshl 1 (gPa B t i)) (A (gPa B t i))) (gPc B t).toNat
/-- bits of ancestors lie below the type -/
theorem anc_bit {B : zS} (hB : Bd B) {A : Int → Int} {T : Int} (hT : T ≤ 16) (hA : ∀ t, 0 ≤ t → t < T → ancEq B A t) : ∀ (k : Nat) (t u : Int), 0 ≤ t → t < T → t < k → 0 ≤ u → u < 32 → zbt (A t) u = true → u < t
  | 0, t, u, h0, _, h, _, _, _ => by omega
  | k + 1, t, u, h0, h1, h, u0, u1, hb => by
    rw [hA t h0 h1, gOr_bit] at hb
    obtain ⟨i, i0, i1, hb⟩ := hb
    have hl := gPa_lt hB h0 (show t < 16 by omega) i0 (show i < gPc B t by omega)
    rw [zbt_or, Bool.or_eq_true, zbt_shl hl.1 (by omega) u0 u1, decide_eq_true_eq] at hb
    rcases hb with hb | hb
    · omega
    · have := anc_bit hB hT hA k (gPa B t i) u hl.1 (by omega) (by omega) u0 u1 hb
      omega
theorem gLM_gLs {B : zS} {A : Int → Int} {G : List Int} {m n u : Int} (hB : Bd B) (hG : gV B n u G) (hm : m ∈ G) (hself : ∀ t, 0 ≤ t → t < u → zbt (A t) t = false) : gLM B A G m = gLs B A G m := by
  have hnn := hB.n
  have hmv := hG.2 m hm
  have hmo := hB.me m hmv.1 (by omega)
  have e : gLM B A G m = true ↔ gLs B A G m = true := by
    simp only [gLM, gLs, Bool.or_eq_true, Bool.and_eq_true, List.any_eq_true, decide_eq_true_eq, Bool.not_eq_true', decide_eq_false_iff_not]
    constructor
    · rintro ⟨g, hg, hne, (⟨h1, h2⟩ | h1)⟩
      · exact Or.inl ⟨⟨g, hg, h2⟩, h1⟩
      · exact Or.inr ⟨g, hg, h1⟩
    · rintro (⟨⟨g, hg, h2⟩, h1⟩ | ⟨g, hg, h1⟩)
      · refine ⟨g, hg, ?_, Or.inl ⟨h1, h2⟩⟩
        intro e
        rw [e] at h2
        simp only [gCb, Bool.and_eq_true, Bool.not_eq_true', decide_eq_false_iff_not] at h2
        exact h2.2 h1
      · refine ⟨g, hg, ?_, Or.inr h1⟩
        intro e
        rw [e, hself (B 6 m) hmo.1 hmv.2.2.2] at h1
        cases h1
  cases h1 : gLM B A G m with
  | true => exact (e.mp h1).symm
  | false =>
    cases h2 : gLs B A G m with
    | true => rw [e.mpr h2] at h1; cases h1
    | false => rfl
theorem gHM_gHad {B : zS} {A : Int → Int} {H : Int → List Int} {t n : Int} (hB : Bd B) (h0 : 0 ≤ t) (h1 : t < 16) (hV : ∀ p, 0 ≤ p → p < t → gV B n (p + 1) (H p)) (hA : ∀ u, 0 ≤ u → u < t → ancEq B A u) : gHM B A H t n = gHad B A H t n := by
  unfold gHM gHad
  split
  · apply List.filter_congr
    intro m hm
    rw [gLM_gLs hB (gV_giv hB h0 h1 hV) hm]
    intro u u0 u1
    cases hb : zbt (A u) u with
    | false => rfl
    | true =>
      have := anc_bit hB (show t ≤ 16 by omega) hA 16 u u u0 u1 (by omega) u0 (by omega) hb
      omega
  · rfl
/-- a type's part of the reference's rows -/
def mRow (σ : zS) (n t : Int) : Prop := mOK σ n t ∧ rM σ n t = gHad (bM σ) (σ 49) (rM σ n) t n ∧ 0 ≤ σ 51 (10 * t + n) ∧ σ 51 (10 * t + n) ≤ 16 ∧ gM σ (10 * t + n) = gGiv (bM σ) (rM σ n) t
theorem mRow_fr {σ σ' : zS} {n t n' t' : Int} (hB : Bd (bM σ)) (h : lFr σ σ' (10 * t + n)) (hne : ¬ 10 * t' + n' = 10 * t + n) (h0 : 0 ≤ t') (h1 : t' < 16) (hlow : ∀ p, 0 ≤ p → p < t' → rM σ' n' p = rM σ n' p) (hr : mRow σ n' t') : mRow σ' n' t' := by
  obtain ⟨⟨r1, r2, r3⟩, r4, r5, r6, r7⟩ := hr
  have eB := lFr_B h
  have er : rM σ' n' t' = rM σ n' t' := lFr_row h hne r2
  have e49 : σ' 49 = σ 49 := h.1.1 49 (by decide) (by decide)
  refine ⟨⟨by rw [(h.2.1 _ hne).2]; exact r1, by rw [(h.2.1 _ hne).2]; exact r2, by rw [er, eB]; exact r3⟩, ?_, by rw [(h.2.1 _ hne).1]; exact r5, by rw [(h.2.1 _ hne).1]; exact r6, ?_⟩
  · rw [er, eB, e49, r4]
    exact gHad_congr hB h0 h1 (fun p p0 p1 => (hlow p p0 p1).symm) rfl
  · rw [lFr_giv h hne r6, r7, eB]
    exact gGiv_congr hB h0 h1 (fun p p0 p1 => (hlow p p0 p1).symm)
section M4
variable {σ : zS} {Q : Int → zS → Prop}
set_option maxRecDepth 100000 in
theorem m_fresh_n {t : Int} (hB : Bd (bM σ)) (h0 : 0 ≤ t) (h1 : t < 16) (hA : ∀ u, 0 ≤ u → u ≤ t → ancEq (bM σ) (σ 49) u)
    (hK : ∀ σ', zmm [50, 51, 52, 53] [] σ σ' → (∀ n u, 0 ≤ n → n < 10 → 0 ≤ u → u ≤ t → mRow σ' n u) → zV 84 zF Q 15 [some (.inr 31), some (.inl (t + 1)), some (.inl 10)] [] σ') :
    ∀ (c : Nat) (n : Int) (σ1 : zS), 0 ≤ n → n ≤ 10 → (10 - n).toNat = c → zmm [50, 51, 52, 53] [] σ σ1 → (∀ n' u, 0 ≤ n' → n' < 10 → 0 ≤ u → u < t → mRow σ1 n' u) → (∀ n', 0 ≤ n' → n' < n → mRow σ1 n' t) →
      zV 84 zF Q 78 [some (.inr 31), some (.inl t), some (.inl n)] [] σ1 := by
  intro c
  induction c with
  | zero =>
    intro n σ1 n0 n1 nc hs hlow hcur
    refine zv_84 200 ?_
    simp only [zs_84_0, zs_84_1, zs_84_4, zs_84_7, zs_84_8, zs_84_9, zs_84_10, zs_84_13, zs_84_14, zs_84_15, zs_84_16, zs_84_17, zs_84_20, zs_84_23, zs_84_24, zs_84_27, zs_84_28, zs_84_29, zs_84_30, zs_84_31, zs_84_32, zs_84_33, zs_84_34, zs_84_35, zs_84_38, zs_84_41, zs_84_42, zs_84_45, zs_84_46, zs_84_47, zs_84_48, zs_84_49, zs_84_50, zs_84_51, zs_84_52, zs_84_55, zs_84_56, zs_84_57, zs_84_60, zs_84_61, zs_84_62, zs_84_63, zs_84_66, zs_84_67, zs_84_68, zs_84_69, zs_84_70, zs_84_73, zs_84_76, zs_84_77, zs_84_78, zs_84_79, zs_84_81, zs_84_84, zs_84_85, zs_84_86, zs_84_87, zs_84_90, zs_84_93, zs_84_96, zs_84_99, zs_84_102, zs_84_15h, zs_84_32h, zs_84_78h, za_49, zg_31_0, zg_31_19, zg_31_20, zp_31_19, zrc_82, zrc_83, zrc_85, zli_0, zli_s, zlr_0, zlr_s, zls_0, zls_s, z1i_e, z2i_e, z1r_e, zir_e, ziir_e, z1v_e, z2v_e, zone_e, znil_e, zsp_0, zsp_s, zlz_0, zlz_1, zlz_2, zlz_3, zlz_4, zswp_0, zswp_s, true_and, and_true, implies_true, true_or, or_true, Int.reduceEq, Int.reduceLT, Int.reduceLE, Int.reduceNeg, not_true_eq_false, not_false_eq_true, false_implies, true_implies, zr_e, zwr_o, zwr_s, Nat.reduceEqDiff]
    have e : n = 10 := by omega
    subst e
    refine hK σ1 hs (fun n' u a b c d => ?_)
    by_cases e : u = t
    · rw [e]; exact hcur n' a b
    · exact hlow n' u a b c (by omega)
  | succ c ih =>
    intro n σ1 n0 n1 nc hs hlow hcur
    have eB : bM σ1 = bM σ := bM_mm hs (by decide) (by decide) (by decide)
    have hB1 : Bd (bM σ1) := by rw [eB]; exact hB
    have e49 : σ1 49 = σ 49 := hs.1 49 (by decide) (by decide)
    refine zv_84 200 ?_
    simp only [zs_84_0, zs_84_1, zs_84_4, zs_84_7, zs_84_8, zs_84_9, zs_84_10, zs_84_13, zs_84_14, zs_84_15, zs_84_16, zs_84_17, zs_84_20, zs_84_23, zs_84_24, zs_84_27, zs_84_28, zs_84_29, zs_84_30, zs_84_31, zs_84_32, zs_84_33, zs_84_34, zs_84_35, zs_84_38, zs_84_41, zs_84_42, zs_84_45, zs_84_46, zs_84_47, zs_84_48, zs_84_49, zs_84_50, zs_84_51, zs_84_52, zs_84_55, zs_84_56, zs_84_57, zs_84_60, zs_84_61, zs_84_62, zs_84_63, zs_84_66, zs_84_67, zs_84_68, zs_84_69, zs_84_70, zs_84_73, zs_84_76, zs_84_77, zs_84_78, zs_84_79, zs_84_81, zs_84_84, zs_84_85, zs_84_86, zs_84_87, zs_84_90, zs_84_93, zs_84_96, zs_84_99, zs_84_102, zs_84_15h, zs_84_32h, zs_84_78h, za_49, zg_31_0, zg_31_19, zg_31_20, zp_31_19, zrc_82, zrc_83, zrc_85, zli_0, zli_s, zlr_0, zlr_s, zls_0, zls_s, z1i_e, z2i_e, z1r_e, zir_e, ziir_e, z1v_e, z2v_e, zone_e, znil_e, zsp_0, zsp_s, zlz_0, zlz_1, zlz_2, zlz_3, zlz_4, zswp_0, zswp_s, true_and, and_true, implies_true, true_or, or_true, Int.reduceEq, Int.reduceLT, Int.reduceLE, Int.reduceNeg, not_true_eq_false, not_false_eq_true, false_implies, true_implies, zr_e, zwr_o, zwr_s, Nat.reduceEqDiff]
    refine ⟨by omega, fun a => by omega, fun a => ?_⟩
    refine m_list hB1 h0 h1 n0 (by omega) (fun p p0 p1 => (hlow n p n0 (by omega) p0 p1).1) ?_
    intro σ2 hl hg c0 c1 hh d0 d1
    have eB2 : bM σ2 = bM σ := by rw [lFr_B hl, eB]
    have hrow : ∀ n' p, 0 ≤ n' → n' < 10 → 0 ≤ p → p < t → rM σ2 n' p = rM σ1 n' p := fun n' p a b p0 p1 => lFr_row hl (by omega) (hlow n' p a b p0 p1).1.2.1
    have hV : ∀ p, 0 ≤ p → p < t → gV (bM σ) n (p + 1) (rM σ1 n p) := fun p p0 p1 => by have := (hlow n p n0 (by omega) p0 p1).1.2.2; rw [eB] at this; exact this
    have eh : rM σ2 n t = gHad (bM σ) (σ 49) (rM σ1 n) t n := by
      show hM σ2 (10 * t + n) = _
      rw [hh, eB, e49]
      exact gHM_gHad hB h0 h1 hV (fun u u0 u1 => hA u u0 (by omega))
    refine ih (n + 1) σ2 (by omega) (by omega) (by omega) (zmm_tr hs hl.1 (by decide) (by decide)) (fun n' u a b c d => ?_) (fun n' a b => ?_)
    · exact mRow_fr hB1 hl (by omega) c (by omega) (fun p p0 p1 => hrow n' p a b p0 (by omega)) (hlow n' u a b c d)
    · by_cases e : n' = n
      · subst e
        refine ⟨⟨d0, d1, ?_⟩, ?_, c0, c1, ?_⟩
        · rw [eB2, eh]
          exact gV_had hB h0 h1 n0 (by omega) hV
        · rw [eh, eB2, hl.1.1 49 (by decide) (by decide), e49]
          exact gHad_congr hB h0 h1 (fun p p0 p1 => (hrow n' p n0 (by omega) p0 p1).symm) rfl
        · rw [hg, eB2, eB]
          exact gGiv_congr hB h0 h1 (fun p p0 p1 => (hrow n' p n0 (by omega) p0 p1).symm)
      · exact mRow_fr hB1 hl (by omega) h0 h1 (fun p p0 p1 => hrow n' p a (by omega) p0 p1) (hcur n' a (by omega))
end M4
