/-! freshen -/
/-- the ancestors' equation -/
def ancEq (B : zS) (A : Int → Int) (t : Int) : Prop := A t = gOr (fun i => zor (zshl 1 (gPa B t i)) (A (gPa B t i))) (gPc B t).toNat
/-- bits of ancestors lie below the type -/
theorem anc_bit {B : zS} (hB : Bd B) {A : Int → Int} {T : Int} (hT : T ≤ 16) (hA : ∀ t, 0 ≤ t → t < T → ancEq B A t) : ∀ (k : Nat) (t u : Int), 0 ≤ t → t < T → t < k → 0 ≤ u → u < 32 → zbt (A t) u = true → u < t
  | 0, t, u, h0, _, h, _, _, _ => by omega
  | k + 1, t, u, h0, h1, h, u0, u1, hb => by
    rw [hA t h0 h1, gOr_bit] at hb
    obtain ⟨i, i0, i1, hb⟩ := hb
    have hl := gPa_lt hB h0 (show t < 16 by omega) i0 (show i < gPc B t by omega)
    rw [zbt_or, Bool.or_eq_true, zbt_shl hl.1 (by omega) u0 u1, decide_eq_true_eq] at hb
    rcases hb with hb | hb
    · omega
    · have := anc_bit hB hT hA k (gPa B t i) u hl.1 (by omega) (by omega) u0 u1 hb
      omega
theorem gLM_gLs {B : zS} {A : Int → Int} {G : List Int} {m n u : Int} (hB : Bd B) (hG : gV B n u G) (hm : m ∈ G) (hself : ∀ t, 0 ≤ t → t < u → zbt (A t) t = false) : gLM B A G m = gLs B A G m := by
  have hnn := hB.n
  have hmv := hG.2 m hm
  have hmo := hB.me m hmv.1 (by omega)
  have e : gLM B A G m = true ↔ gLs B A G m = true := by
    simp only [gLM, gLs, Bool.or_eq_true, Bool.and_eq_true, List.any_eq_true, decide_eq_true_eq, Bool.not_eq_true', decide_eq_false_iff_not]
    constructor
    · rintro ⟨g, hg, hne, (⟨h1, h2⟩ | h1)⟩
      · exact Or.inl ⟨⟨g, hg, h2⟩, h1⟩
      · exact Or.inr ⟨g, hg, h1⟩
    · rintro (⟨⟨g, hg, h2⟩, h1⟩ | ⟨g, hg, h1⟩)
      · refine ⟨g, hg, ?_, Or.inl ⟨h1, h2⟩⟩
        intro e
        rw [e] at h2
        simp only [gCb, Bool.and_eq_true, Bool.not_eq_true', decide_eq_false_iff_not] at h2
        exact h2.2 h1
      · refine ⟨g, hg, ?_, Or.inr h1⟩
        intro e
        rw [e, hself (B 6 m) hmo.1 hmv.2.2.2] at h1
        cases h1
  cases h1 : gLM B A G m with
  | true => exact (e.mp h1).symm
  | false =>
    cases h2 : gLs B A G m with
    | true => rw [e.mpr h2] at h1; cases h1
    | false => rfl
theorem gHM_gHad {B : zS} {A : Int → Int} {H : Int → List Int} {t n : Int} (hB : Bd B) (h0 : 0 ≤ t) (h1 : t < 16) (hV : ∀ p, 0 ≤ p → p < t → gV B n (p + 1) (H p)) (hA : ∀ u, 0 ≤ u → u < t → ancEq B A u) : gHM B A H t n = gHad B A H t n := by
  unfold gHM gHad
  split
  · apply List.filter_congr
    intro m hm
    rw [gLM_gLs hB (gV_giv hB h0 h1 hV) hm]
    intro u u0 u1
    cases hb : zbt (A u) u with
    | false => rfl
    | true =>
      have := anc_bit hB (show t ≤ 16 by omega) hA 16 u u u0 u1 (by omega) u0 (by omega) hb
      omega
  · rfl
/-- a type's part of the reference's rows -/
def mRow (σ : zS) (n t : Int) : Prop := mOK σ n t ∧ rM σ n t = gHad (bM σ) (σ 49) (rM σ n) t n ∧ 0 ≤ σ 51 (10 * t + n) ∧ σ 51 (10 * t + n) ≤ 16 ∧ gM σ (10 * t + n) = gGiv (bM σ) (rM σ n) t
theorem mRow_fr {σ σ' : zS} {n t n' t' : Int} (hB : Bd (bM σ)) (h : lFr σ σ' (10 * t + n)) (hne : ¬ 10 * t' + n' = 10 * t + n) (h0 : 0 ≤ t') (h1 : t' < 16) (hlow : ∀ p, 0 ≤ p → p < t' → rM σ' n' p = rM σ n' p) (hr : mRow σ n' t') : mRow σ' n' t' := by
  obtain ⟨⟨r1, r2, r3⟩, r4, r5, r6, r7⟩ := hr
  have eB := lFr_B h
  have er : rM σ' n' t' = rM σ n' t' := lFr_row h hne r2
  have e49 : σ' 49 = σ 49 := h.1.1 49 (by decide) (by decide)
  refine ⟨⟨by rw [(h.2.1 _ hne).2]; exact r1, by rw [(h.2.1 _ hne).2]; exact r2, by rw [er, eB]; exact r3⟩, ?_, by rw [(h.2.1 _ hne).1]; exact r5, by rw [(h.2.1 _ hne).1]; exact r6, ?_⟩
  · rw [er, eB, e49, r4]
    exact gHad_congr hB h0 h1 (fun p p0 p1 => (hlow p p0 p1).symm) rfl
  · rw [lFr_giv h hne r6, r7, eB]
    exact gGiv_congr hB h0 h1 (fun p p0 p1 => (hlow p p0 p1).symm)
section M4
variable {σ : zS} {Q : Int → zS → Prop}
set_option maxRecDepth 100000 in
theorem m_fresh_n {t : Int} (hB : Bd (bM σ)) (h0 : 0 ≤ t) (h1 : t < 16) (hA : ∀ u, 0 ≤ u → u ≤ t → ancEq (bM σ) (σ 49) u)
    (hK : ∀ σ', zmm [50, 51, 52, 53] [] σ σ' → (∀ n u, 0 ≤ n → n < 10 → 0 ≤ u → u ≤ t → mRow σ' n u) → zV 84 zF Q 15 [some (.inr 31), some (.inl (t + 1)), some (.inl 10)] [] σ') :
    ∀ (c : Nat) (n : Int) (σ1 : zS), 0 ≤ n → n ≤ 10 → (10 - n).toNat = c → zmm [50, 51, 52, 53] [] σ σ1 → (∀ n' u, 0 ≤ n' → n' < 10 → 0 ≤ u → u < t → mRow σ1 n' u) → (∀ n', 0 ≤ n' → n' < n → mRow σ1 n' t) →
      zV 84 zF Q 78 [some (.inr 31), some (.inl t), some (.inl n)] [] σ1 := by
  intro c
  induction c with
  | zero =>
    intro n σ1 n0 n1 nc hs hlow hcur
    have e : n = 10 := by omega
    subst e
    refine zv_84 200 ?_
    simp only [zs_84_0, zs_84_1, zs_84_4, zs_84_7, zs_84_8, zs_84_9, zs_84_10, zs_84_13, zs_84_14, zs_84_15, zs_84_16, zs_84_17, zs_84_20, zs_84_23, zs_84_24, zs_84_27, zs_84_28, zs_84_29, zs_84_30, zs_84_31, zs_84_32, zs_84_33, zs_84_34, zs_84_35, zs_84_38, zs_84_41, zs_84_42, zs_84_45, zs_84_46, zs_84_47, zs_84_48, zs_84_49, zs_84_50, zs_84_51, zs_84_52, zs_84_55, zs_84_56, zs_84_57, zs_84_60, zs_84_61, zs_84_62, zs_84_63, zs_84_66, zs_84_67, zs_84_68, zs_84_69, zs_84_70, zs_84_73, zs_84_76, zs_84_77, zs_84_78, zs_84_79, zs_84_81, zs_84_84, zs_84_85, zs_84_86, zs_84_87, zs_84_90, zs_84_93, zs_84_96, zs_84_99, zs_84_102, zs_84_15h, zs_84_32h, zs_84_78h, za_49, zg_31_0, zg_31_19, zg_31_20, zp_31_19, zrc_82, zrc_83, zrc_85, zli_0, zli_s, zlr_0, zlr_s, zls_0, zls_s, z1i_e, z2i_e, z1r_e, zir_e, ziir_e, z1v_e, z2v_e, zone_e, znil_e, zsp_0, zsp_s, zlz_0, zlz_1, zlz_2, zlz_3, zlz_4, zswp_0, zswp_s, true_and, and_true, implies_true, true_or, or_true, Int.reduceEq, Int.reduceLT, Int.reduceLE, Int.reduceNeg, not_true_eq_false, not_false_eq_true, false_implies, true_implies, zr_e, zwr_o, zwr_s, Nat.reduceEqDiff]
    refine hK σ1 hs (fun n' u a b c d => ?_)
    by_cases e : u = t
    · rw [e]; exact hcur n' a b
    · exact hlow n' u a b c (by omega)
  | succ c ih =>
    intro n σ1 n0 n1 nc hs hlow hcur
    have eB : bM σ1 = bM σ := bM_mm hs (by decide) (by decide) (by decide)
    have hB1 : Bd (bM σ1) := by rw [eB]; exact hB
    have e49 : σ1 49 = σ 49 := hs.1 49 (by decide) (by decide)
    refine zv_84 200 ?_
    simp only [zs_84_0, zs_84_1, zs_84_4, zs_84_7, zs_84_8, zs_84_9, zs_84_10, zs_84_13, zs_84_14, zs_84_15, zs_84_16, zs_84_17, zs_84_20, zs_84_23, zs_84_24, zs_84_27, zs_84_28, zs_84_29, zs_84_30, zs_84_31, zs_84_32, zs_84_33, zs_84_34, zs_84_35, zs_84_38, zs_84_41, zs_84_42, zs_84_45, zs_84_46, zs_84_47, zs_84_48, zs_84_49, zs_84_50, zs_84_51, zs_84_52, zs_84_55, zs_84_56, zs_84_57, zs_84_60, zs_84_61, zs_84_62, zs_84_63, zs_84_66, zs_84_67, zs_84_68, zs_84_69, zs_84_70, zs_84_73, zs_84_76, zs_84_77, zs_84_78, zs_84_79, zs_84_81, zs_84_84, zs_84_85, zs_84_86, zs_84_87, zs_84_90, zs_84_93, zs_84_96, zs_84_99, zs_84_102, zs_84_15h, zs_84_32h, zs_84_78h, za_49, zg_31_0, zg_31_19, zg_31_20, zp_31_19, zrc_82, zrc_83, zrc_85, zli_0, zli_s, zlr_0, zlr_s, zls_0, zls_s, z1i_e, z2i_e, z1r_e, zir_e, ziir_e, z1v_e, z2v_e, zone_e, znil_e, zsp_0, zsp_s, zlz_0, zlz_1, zlz_2, zlz_3, zlz_4, zswp_0, zswp_s, true_and, and_true, implies_true, true_or, or_true, Int.reduceEq, Int.reduceLT, Int.reduceLE, Int.reduceNeg, not_true_eq_false, not_false_eq_true, false_implies, true_implies, zr_e, zwr_o, zwr_s, Nat.reduceEqDiff]
    refine ⟨by omega, fun a => by omega, fun a => ?_⟩
    refine m_list hB1 h0 h1 n0 (by omega) (fun p p0 p1 => (hlow n p n0 (by omega) p0 p1).1) ?_
    intro σ2 hl hg c0 c1 hh d0 d1
    have eB2 : bM σ2 = bM σ := by rw [lFr_B hl, eB]
    have hrow : ∀ n' p, 0 ≤ n' → n' < 10 → 0 ≤ p → p < t → rM σ2 n' p = rM σ1 n' p := fun n' p a b p0 p1 => lFr_row hl (by omega) (hlow n' p a b p0 p1).1.2.1
    have hV : ∀ p, 0 ≤ p → p < t → gV (bM σ) n (p + 1) (rM σ1 n p) := fun p p0 p1 => by have := (hlow n p n0 (by omega) p0 p1).1.2.2; rw [eB] at this; exact this
    have eh : rM σ2 n t = gHad (bM σ) (σ 49) (rM σ1 n) t n := by
      show hM σ2 (10 * t + n) = _
      rw [hh, eB, e49]
      exact gHM_gHad hB h0 h1 hV (fun u u0 u1 => hA u u0 (by omega))
    refine ih (n + 1) σ2 (by omega) (by omega) (by omega) (zmm_tr hs hl.1 (by decide) (by decide)) (fun n' u a b c d => ?_) (fun n' a b => ?_)
    · exact mRow_fr hB1 hl (by omega) c (by omega) (fun p p0 p1 => hrow n' p a b p0 (by omega)) (hlow n' u a b c d)
    · by_cases e : n' = n
      · subst e
        refine ⟨⟨d0, d1, ?_⟩, ?_, c0, c1, ?_⟩
        · rw [eB2, eh]
          exact gV_had hB h0 h1 n0 (by omega) hV
        · rw [eh, eB2, hl.1.1 49 (by decide) (by decide), e49]
          exact gHad_congr hB h0 h1 (fun p p0 p1 => (hrow n' p n0 (by omega) p0 p1).symm) rfl
        · rw [hg, eB2, eB]
          exact gGiv_congr hB h0 h1 (fun p p0 p1 => (hrow n' p n0 (by omega) p0 p1).symm)
      · exact mRow_fr hB1 hl (by omega) h0 h1 (fun p p0 p1 => hrow n' p a (by omega) p0 p1) (hcur n' a (by omega))
set_option maxRecDepth 100000 in
theorem m_fresh_a {t : Int} (hB : Bd (bM σ)) (h0 : 0 ≤ t) (h1 : t < 16)
    (hK : ∀ σ', zmm [49] [] σ σ' → (∀ u, ¬ u = t → σ' 49 u = σ 49 u) → σ' 49 t = gOr (fun i => zor (zshl 1 (gPa (bM σ) t i)) (σ 49 (gPa (bM σ) t i))) (gPc (bM σ) t).toNat → zV 84 zF Q 78 [some (.inr 31), some (.inl t), some (.inl 0)] [] σ') :
    ∀ (c : Nat) (k : Int) (σ1 : zS), 0 ≤ k → k ≤ gPc (bM σ) t → (gPc (bM σ) t - k).toNat = c → zmm [49] [] σ σ1 → (∀ u, ¬ u = t → σ1 49 u = σ 49 u) → σ1 49 t = gOr (fun i => zor (zshl 1 (gPa (bM σ) t i)) (σ 49 (gPa (bM σ) t i))) k.toNat →
      zV 84 zF Q 32 [some (.inr 31), some (.inl t), some (.inl k)] [] σ1 := by
  have hp := gPc_le hB h0 h1
  intro c
  induction c with
  | zero =>
    intro k σ1 k0 k1 kc hs hu ht
    have eB : bM σ1 = bM σ := bM_mm hs (by decide) (by decide) (by decide)
    refine zv_84 200 ?_
    simp only [zs_84_0, zs_84_1, zs_84_4, zs_84_7, zs_84_8, zs_84_9, zs_84_10, zs_84_13, zs_84_14, zs_84_15, zs_84_16, zs_84_17, zs_84_20, zs_84_23, zs_84_24, zs_84_27, zs_84_28, zs_84_29, zs_84_30, zs_84_31, zs_84_32, zs_84_33, zs_84_34, zs_84_35, zs_84_38, zs_84_41, zs_84_42, zs_84_45, zs_84_46, zs_84_47, zs_84_48, zs_84_49, zs_84_50, zs_84_51, zs_84_52, zs_84_55, zs_84_56, zs_84_57, zs_84_60, zs_84_61, zs_84_62, zs_84_63, zs_84_66, zs_84_67, zs_84_68, zs_84_69, zs_84_70, zs_84_73, zs_84_76, zs_84_77, zs_84_78, zs_84_79, zs_84_81, zs_84_84, zs_84_85, zs_84_86, zs_84_87, zs_84_90, zs_84_93, zs_84_96, zs_84_99, zs_84_102, zs_84_15h, zs_84_32h, zs_84_78h, za_49, zg_31_0, zg_31_19, zg_31_20, zp_31_19, zrc_82, zrc_83, zrc_85, zli_0, zli_s, zlr_0, zlr_s, zls_0, zls_s, z1i_e, z2i_e, z1r_e, zir_e, ziir_e, z1v_e, z2v_e, zone_e, znil_e, zsp_0, zsp_s, zlz_0, zlz_1, zlz_2, zlz_3, zlz_4, zswp_0, zswp_s, true_and, and_true, implies_true, true_or, or_true, Int.reduceEq, Int.reduceLT, Int.reduceLE, Int.reduceNeg, not_true_eq_false, not_false_eq_true, false_implies, true_implies, zr_e, zwr_o, zwr_s, Nat.reduceEqDiff]
    refine m_parents (by rw [eB]; exact hB) h0 h1 ?_
    rw [eB]
    refine ⟨by omega, by omega, fun a => ?_, fun a => by omega⟩
    exact hK σ1 hs hu (by rw [ht, show k = gPc (bM σ) t by omega])
  | succ c ih =>
    intro k σ1 k0 k1 kc hs hu ht
    have eB : bM σ1 = bM σ := bM_mm hs (by decide) (by decide) (by decide)
    have hB1 : Bd (bM σ1) := by rw [eB]; exact hB
    have hpa := gPa_lt hB h0 h1 k0 (show k < gPc (bM σ) t by omega)
    refine zv_84 200 ?_
    simp only [zs_84_0, zs_84_1, zs_84_4, zs_84_7, zs_84_8, zs_84_9, zs_84_10, zs_84_13, zs_84_14, zs_84_15, zs_84_16, zs_84_17, zs_84_20, zs_84_23, zs_84_24, zs_84_27, zs_84_28, zs_84_29, zs_84_30, zs_84_31, zs_84_32, zs_84_33, zs_84_34, zs_84_35, zs_84_38, zs_84_41, zs_84_42, zs_84_45, zs_84_46, zs_84_47, zs_84_48, zs_84_49, zs_84_50, zs_84_51, zs_84_52, zs_84_55, zs_84_56, zs_84_57, zs_84_60, zs_84_61, zs_84_62, zs_84_63, zs_84_66, zs_84_67, zs_84_68, zs_84_69, zs_84_70, zs_84_73, zs_84_76, zs_84_77, zs_84_78, zs_84_79, zs_84_81, zs_84_84, zs_84_85, zs_84_86, zs_84_87, zs_84_90, zs_84_93, zs_84_96, zs_84_99, zs_84_102, zs_84_15h, zs_84_32h, zs_84_78h, za_49, zg_31_0, zg_31_19, zg_31_20, zp_31_19, zrc_82, zrc_83, zrc_85, zli_0, zli_s, zlr_0, zlr_s, zls_0, zls_s, z1i_e, z2i_e, z1r_e, zir_e, ziir_e, z1v_e, z2v_e, zone_e, znil_e, zsp_0, zsp_s, zlz_0, zlz_1, zlz_2, zlz_3, zlz_4, zswp_0, zswp_s, true_and, and_true, implies_true, true_or, or_true, Int.reduceEq, Int.reduceLT, Int.reduceLE, Int.reduceNeg, not_true_eq_false, not_false_eq_true, false_implies, true_implies, zr_e, zwr_o, zwr_s, Nat.reduceEqDiff]
    refine m_parents hB1 h0 h1 ?_
    rw [eB]
    refine ⟨by omega, by omega, fun a => by omega, fun a => ⟨h0, h1, ?_⟩⟩
    refine m_parent hB1 h0 h1 k0 (by rw [eB]; omega) ?_
    refine ⟨Nat.le_of_ble_eq_true rfl, ?_⟩
    refine m_parent hB1 h0 h1 k0 (by rw [eB]; omega) ?_
    rw [eB]
    refine ⟨by omega, by omega, h0, h1, ?_⟩
    refine ih (k + 1) _ (by omega) (by omega) (by omega) (zmm_wr hs (by decide) (by decide)) (fun u hne => ?_) ?_
    · simp only [zwr, true_and, if_neg hne]
      exact hu u hne
    · rw [zwr_s, gOr_s k0, ht, hu (gPa (bM σ) t k) (by omega)]
def FM (σ : zS) : Prop := (∀ u, 0 ≤ u → u < σ 31 0 → ancEq (bM σ) (σ 49) u) ∧ ∀ n u, 0 ≤ n → n < 10 → 0 ≤ u → u < σ 31 0 → mRow σ n u
theorem ancEq_congr {B : zS} {A A' : Int → Int} {u : Int} (hB : Bd B) (h0 : 0 ≤ u) (h1 : u < 16) (h : ∀ v, 0 ≤ v → v ≤ u → A' v = A v) (he : ancEq B A u) : ancEq B A' u := by
  unfold ancEq at he ⊢
  rw [h u h0 (by omega), he]
  refine gOr_congr (fun i i0 i1 => ?_)
  have hl := gPa_lt hB h0 h1 i0 (show i < gPc B u by omega)
  rw [h _ hl.1 (by omega)]
theorem mRow_sm {σ σ' : zS} {L : List Nat} {Fs : List Int} {n t : Int} (hB : Bd (bM σ)) (h0 : 0 ≤ t) (h1 : t < 16) (hs : zmm L Fs σ σ') (eB : bM σ' = bM σ) (h50 : 50 ∉ L) (h51 : 51 ∉ L) (h52 : 52 ∉ L) (h53 : 53 ∉ L) (h49 : ∀ u, 0 ≤ u → u < t → σ' 49 u = σ 49 u) (hV : ∀ p, 0 ≤ p → p < t → gV (bM σ) n (p + 1) (rM σ n p)) (hr : mRow σ n t) : mRow σ' n t := by
  obtain ⟨⟨r1, r2, r3⟩, r4, r5, r6, r7⟩ := hr
  have e50 := hs.1 50 h50 (by decide)
  have e51 := hs.1 51 h51 (by decide)
  have e52 := hs.1 52 h52 (by decide)
  have e53 := hs.1 53 h53 (by decide)
  have er : rM σ' = rM σ := by funext n' t'; simp only [rM, hM, e52, e53]
  have eg : gM σ' = gM σ := by funext x; simp only [gM, e50, e51]
  refine ⟨⟨by rw [e53]; exact r1, by rw [e53]; exact r2, by rw [er, eB]; exact r3⟩, ?_, by rw [e51]; exact r5, by rw [e51]; exact r6, by rw [eg, er, eB]; exact r7⟩
  rw [er, eB, r4]
  exact gHad_c2 hB h0 h1 (fun p p0 p1 => hV p p0 p1) (fun _ _ _ => rfl) (fun u u0 u1 => (h49 u u0 u1).symm)
set_option maxRecDepth 100000 in
theorem m_fresh_o (hB : Bd (bM σ)) (h : ∀ σ', zmm [49, 50, 51, 52, 53] [] σ σ' → FM σ' → Q 0 σ') :
    ∀ (c : Nat) (t : Int) (σ1 : zS) (l2 : Option zW), 0 ≤ t → t ≤ σ 31 0 → (σ 31 0 - t).toNat = c → zmm [49, 50, 51, 52, 53] [] σ σ1 → (∀ u, 0 ≤ u → u < t → ancEq (bM σ) (σ1 49) u) → (∀ n u, 0 ≤ n → n < 10 → 0 ≤ u → u < t → mRow σ1 n u) →
      zV 84 zF Q 15 [some (.inr 31), some (.inl t), l2] [] σ1 := by
  have hnn : 1 ≤ σ 31 0 ∧ σ 31 0 ≤ 16 ∧ _ := hB.n
  intro c
  induction c with
  | zero =>
    intro t σ1 l2 t0 t1 tc hs hA hR
    have eB : bM σ1 = bM σ := bM_mm hs (by decide) (by decide) (by decide)
    have en : σ1 31 0 = σ 31 0 := hs.2 0 (by decide)
    refine zv_84 200 ?_
    simp only [zs_84_0, zs_84_1, zs_84_4, zs_84_7, zs_84_8, zs_84_9, zs_84_10, zs_84_13, zs_84_14, zs_84_15, zs_84_16, zs_84_17, zs_84_20, zs_84_23, zs_84_24, zs_84_27, zs_84_28, zs_84_29, zs_84_30, zs_84_31, zs_84_32, zs_84_33, zs_84_34, zs_84_35, zs_84_38, zs_84_41, zs_84_42, zs_84_45, zs_84_46, zs_84_47, zs_84_48, zs_84_49, zs_84_50, zs_84_51, zs_84_52, zs_84_55, zs_84_56, zs_84_57, zs_84_60, zs_84_61, zs_84_62, zs_84_63, zs_84_66, zs_84_67, zs_84_68, zs_84_69, zs_84_70, zs_84_73, zs_84_76, zs_84_77, zs_84_78, zs_84_79, zs_84_81, zs_84_84, zs_84_85, zs_84_86, zs_84_87, zs_84_90, zs_84_93, zs_84_96, zs_84_99, zs_84_102, zs_84_15h, zs_84_32h, zs_84_78h, za_49, zg_31_0, zg_31_19, zg_31_20, zp_31_19, zrc_82, zrc_83, zrc_85, zli_0, zli_s, zlr_0, zlr_s, zls_0, zls_s, z1i_e, z2i_e, z1r_e, zir_e, ziir_e, z1v_e, z2v_e, zone_e, znil_e, zsp_0, zsp_s, zlz_0, zlz_1, zlz_2, zlz_3, zlz_4, zswp_0, zswp_s, true_and, and_true, implies_true, true_or, or_true, Int.reduceEq, Int.reduceLT, Int.reduceLE, Int.reduceNeg, not_true_eq_false, not_false_eq_true, false_implies, true_implies, zr_e, zwr_o, zwr_s, Nat.reduceEqDiff]
    refine ⟨by omega, by omega, fun a => h σ1 hs ⟨fun u u0 u1 => ?_, fun n u a b c d => hR n u a b c (by omega)⟩, fun a => by omega⟩
    rw [eB]
    exact hA u u0 (by omega)
  | succ c ih =>
    intro t σ1 l2 t0 t1 tc hs hA hR
    have eB : bM σ1 = bM σ := bM_mm hs (by decide) (by decide) (by decide)
    have en : σ1 31 0 = σ 31 0 := hs.2 0 (by decide)
    have hs1 : zmm [49] [] σ1 (zwr σ1 49 t 0) := zmm_wr zmm_rf (by decide) (by decide)
    have eB1 : bM (zwr σ1 49 t 0) = bM σ := by rw [bM_mm hs1 (by decide) (by decide) (by decide), eB]
    have hp := gPc_le hB t0 (show t < 16 by omega)
    refine zv_84 200 ?_
    simp only [zs_84_0, zs_84_1, zs_84_4, zs_84_7, zs_84_8, zs_84_9, zs_84_10, zs_84_13, zs_84_14, zs_84_15, zs_84_16, zs_84_17, zs_84_20, zs_84_23, zs_84_24, zs_84_27, zs_84_28, zs_84_29, zs_84_30, zs_84_31, zs_84_32, zs_84_33, zs_84_34, zs_84_35, zs_84_38, zs_84_41, zs_84_42, zs_84_45, zs_84_46, zs_84_47, zs_84_48, zs_84_49, zs_84_50, zs_84_51, zs_84_52, zs_84_55, zs_84_56, zs_84_57, zs_84_60, zs_84_61, zs_84_62, zs_84_63, zs_84_66, zs_84_67, zs_84_68, zs_84_69, zs_84_70, zs_84_73, zs_84_76, zs_84_77, zs_84_78, zs_84_79, zs_84_81, zs_84_84, zs_84_85, zs_84_86, zs_84_87, zs_84_90, zs_84_93, zs_84_96, zs_84_99, zs_84_102, zs_84_15h, zs_84_32h, zs_84_78h, za_49, zg_31_0, zg_31_19, zg_31_20, zp_31_19, zrc_82, zrc_83, zrc_85, zli_0, zli_s, zlr_0, zlr_s, zls_0, zls_s, z1i_e, z2i_e, z1r_e, zir_e, ziir_e, z1v_e, z2v_e, zone_e, znil_e, zsp_0, zsp_s, zlz_0, zlz_1, zlz_2, zlz_3, zlz_4, zswp_0, zswp_s, true_and, and_true, implies_true, true_or, or_true, Int.reduceEq, Int.reduceLT, Int.reduceLE, Int.reduceNeg, not_true_eq_false, not_false_eq_true, false_implies, true_implies, zr_e, zwr_o, zwr_s, Nat.reduceEqDiff]
    refine ⟨by omega, by omega, fun a => by omega, fun a => ⟨t0, by omega, ?_⟩⟩
    refine m_fresh_a (σ := zwr σ1 49 t 0) (by rw [eB1]; exact hB) t0 (by omega) ?_ _ 0 (zwr σ1 49 t 0) (by omega) (by rw [eB1]; omega) rfl zmm_rf (fun _ _ => rfl) (by rw [zwr_s]; rfl)
    intro σ2 hs2 hu2 ht2
    rw [eB1] at ht2
    have eB2 : bM σ2 = bM σ := by rw [bM_mm hs2 (by decide) (by decide) (by decide), eB1]
    have hB2 : Bd (bM σ2) := by rw [eB2]; exact hB
    have hs12 : zmm [49] [] σ1 σ2 := zmm_tr hs1 hs2 (by decide) (by decide)
    have h49 : ∀ u, ¬ u = t → σ2 49 u = σ1 49 u := fun u hne => by
      rw [hu2 u hne]
      simp only [zwr, true_and, if_neg hne]
    have hA2 : ∀ u, 0 ≤ u → u ≤ t → ancEq (bM σ2) (σ2 49) u := by
      intro u u0 u1
      rw [eB2]
      by_cases e : u = t
      · subst e
        unfold ancEq
        rw [ht2]
        refine gOr_congr (fun i i0 i1 => ?_)
        have hl := gPa_lt hB u0 (show u < 16 by omega) i0 (show i < gPc (bM σ) u by omega)
        rw [hu2 _ (by omega)]
      · exact ancEq_congr hB u0 (by omega) (fun v v0 v1 => h49 v (by omega)) (hA u u0 (by omega))
    have hR2 : ∀ n u, 0 ≤ n → n < 10 → 0 ≤ u → u < t → mRow σ2 n u := fun n u n0 n1 u0 u1 =>
      mRow_sm (by rw [eB]; exact hB) u0 (by omega) hs12 (by rw [eB2, eB]) (by decide) (by decide) (by decide) (by decide) (fun v v0 v1 => h49 v (by omega)) (fun p p0 p1 => (hR n p n0 n1 p0 (by omega)).1.2.2) (hR n u n0 n1 u0 u1)
    refine m_fresh_n (σ := σ2) hB2 t0 (by omega) hA2 ?_ _ 0 σ2 (by omega) (by omega) rfl zmm_rf hR2 (fun n' a b => by omega)
    intro σ3 hs3 hR3
    refine ih (t + 1) σ3 _ (by omega) (by omega) (by omega) (zmm_tr (zmm_tr hs hs12 (by decide) (by decide)) hs3 (by decide) (by decide)) (fun u u0 u1 => ?_) (fun n u a b c d => hR3 n u a b c (by omega))
    rw [hs3.1 49 (by decide) (by decide), ← eB2]
    exact hA2 u u0 (by omega)
/-- what the reference keeps -/
def IM (σ : zS) : Prop := Bd (bM σ) ∧ (σ 31 19 = 0 ∨ (σ 31 19 = 1 ∧ FM σ)) ∧ (σ 31 25 = 0 ∨ σ 31 25 = 1) ∧ zr (σ 31 26) ∧ zr (σ 31 27) ∧ zr (σ 31 28) ∧ ∀ t n, 0 ≤ t → t < 16 → 0 ≤ n → n < 10 → ¬ σ 46 (10 * t + n) = -4 → σ 39 (σ 46 (10 * t + n)) = n
theorem IM.n (h : IM σ) : 1 ≤ σ 31 0 ∧ σ 31 0 ≤ 16 ∧ 3 ≤ σ 31 7 ∧ σ 31 7 ≤ 60 := h.1.n
theorem FM_sm {σ' : zS} {L : List Nat} {Fs : List Int} (hB : Bd (bM σ)) (hs : zmm L Fs σ σ') (hL : ∀ c, c ∈ [32, 33, 34, 35, 36, 37, 38, 40, 41, 42, 43, 44, 45, 46, 47, 48, 49, 50, 51, 52, 53] → c ∉ L) (h0 : (0 : Int) ∉ Fs) (h7 : (7 : Int) ∉ Fs) (hF : FM σ) : FM σ' := by
  have hnn : 1 ≤ σ 31 0 ∧ σ 31 0 ≤ 16 ∧ _ := hB.n
  have eB : bM σ' = bM σ := bM_mm hs (fun c hc => hL c (by simp only [List.mem_cons, List.not_mem_nil, or_false] at hc ⊢; omega)) h0 h7
  have en : σ' 31 0 = σ 31 0 := hs.2 0 h0
  have e49 : σ' 49 = σ 49 := hs.1 49 (hL 49 (by decide)) (by decide)
  refine ⟨fun u u0 u1 => ?_, fun n u n0 n1 u0 u1 => ?_⟩
  · rw [eB, e49]
    exact hF.1 u u0 (by omega)
  · exact mRow_sm hB u0 (by omega) hs eB (hL 50 (by decide)) (hL 51 (by decide)) (hL 52 (by decide)) (hL 53 (by decide)) (fun v _ _ => by rw [e49]) (fun p p0 p1 => (hF.2 n p n0 n1 p0 (by omega)).1.2.2) (hF.2 n u n0 n1 u0 (by omega))
set_option maxRecDepth 100000 in
theorem m_freshen (hI : IM σ) (h : ∀ σ', zmm [49, 50, 51, 52, 53] [19] σ σ' → IM σ' → FM σ' → Q 0 σ') : zM 84 zF [.inr 31] σ Q := by
  have hnn := hI.n
  refine ze_84 200 ?_
  simp only [zs_84_0, zs_84_1, zs_84_4, zs_84_7, zs_84_8, zs_84_9, zs_84_10, zs_84_13, zs_84_14, zs_84_15, zs_84_16, zs_84_17, zs_84_20, zs_84_23, zs_84_24, zs_84_27, zs_84_28, zs_84_29, zs_84_30, zs_84_31, zs_84_32, zs_84_33, zs_84_34, zs_84_35, zs_84_38, zs_84_41, zs_84_42, zs_84_45, zs_84_46, zs_84_47, zs_84_48, zs_84_49, zs_84_50, zs_84_51, zs_84_52, zs_84_55, zs_84_56, zs_84_57, zs_84_60, zs_84_61, zs_84_62, zs_84_63, zs_84_66, zs_84_67, zs_84_68, zs_84_69, zs_84_70, zs_84_73, zs_84_76, zs_84_77, zs_84_78, zs_84_79, zs_84_81, zs_84_84, zs_84_85, zs_84_86, zs_84_87, zs_84_90, zs_84_93, zs_84_96, zs_84_99, zs_84_102, za_49, zg_31_0, zg_31_19, zg_31_20, zp_31_19, zrc_82, zrc_83, zrc_85, zli_0, zli_s, zlr_0, zlr_s, zls_0, zls_s, z1i_e, z2i_e, z1r_e, zir_e, ziir_e, z1v_e, z2v_e, zone_e, znil_e, zsp_0, zsp_s, zlz_0, zlz_1, zlz_2, zlz_3, zlz_4, zswp_0, zswp_s, true_and, and_true, implies_true, true_or, or_true, Int.reduceEq, Int.reduceLT, Int.reduceLE, Int.reduceNeg, not_true_eq_false, not_false_eq_true, false_implies, true_implies, zr_e, zwr_o, zwr_s, Nat.reduceEqDiff]
  have hf := hI.2.1
  refine ⟨by omega, fun a => ?_, fun a => ?_⟩
  · have hs1 : zmm [49, 50, 51, 52, 53] [19] σ (zwr σ 31 19 1) := zmm_wf zmm_rf (by decide)
    have eB1 : bM (zwr σ 31 19 1) = bM σ := bM_mm hs1 (by decide) (by decide) (by decide)
    have en : zwr σ 31 19 1 31 0 = σ 31 0 := hs1.2 0 (by decide)
    refine m_fresh_o (σ := zwr σ 31 19 1) (by rw [eB1]; exact hI.1) ?_ _ 0 (zwr σ 31 19 1) _ (by omega) (by rw [en]; omega) rfl zmm_rf (fun u _ _ => by omega) (fun n u _ _ _ _ => by omega)
    intro σ2 hs2 hF2
    have hs : zmm [49, 50, 51, 52, 53] [19] σ σ2 := zmm_tr hs1 hs2 (by decide) (by decide)
    refine h σ2 hs ⟨?_, Or.inr ⟨?_, hF2⟩, ?_⟩ hF2
    · rw [bM_mm hs (by decide) (by decide) (by decide)]; exact hI.1
    · rw [hs2.2 19 (by decide), zwr_s]
    · rw [hs.2 25 (by decide), hs.2 26 (by decide), hs.2 27 (by decide), hs.2 28 (by decide), hs.1 39 (by decide) (by decide), hs.1 46 (by decide) (by decide)]
      exact hI.2.2
  · rcases hf with hf | hf
    · exact absurd hf a
    · exact h σ zmm_rf hI hf.2
end M4
