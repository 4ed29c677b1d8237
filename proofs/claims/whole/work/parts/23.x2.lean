/-! all cells but these stay -/
def zsm (L : List Nat) (σ σ' : zS) : Prop := ∀ c, c ∉ L → σ' c = σ c
theorem zsm_rf {L : List Nat} {σ : zS} : zsm L σ σ := fun _ _ => rfl
theorem zsm_wr {L : List Nat} {σ σ' : zS} {k : Nat} {i v : Int} (h : zsm L σ σ') (hk : k ∈ L) : zsm L σ (zwr σ' k i v) := by
  intro c hc
  rw [← h c hc]
  exact zwr_ne c (fun e => hc (e ▸ hk))
theorem zsm_tr {L L' : List Nat} {σ σ' σ'' : zS} (h : zsm L σ σ') (h2 : zsm L' σ' σ'') (hL : ∀ c ∈ L', c ∈ L) : zsm L σ σ'' := by
  intro c hc
  rw [h2 c (fun e => hc (hL c e)), h c hc]
theorem bX_eq {σ σ' : zS} (h : ∀ c, c ∈ [6, 7, 8, 9, 10, 11, 14, 15, 17, 18, 19, 20, 21, 22, 23, 24] → σ' c = σ c) (h1 : σ' 1 0 = σ 1 0) (h2 : σ' 2 0 = σ 2 0) : bX σ' = bX σ := by
  have e := fun c hc => h c hc
  funext c
  match c with
  | 0 => exact h 6 (by decide)
  | 1 => exact h 7 (by decide)
  | 2 => exact h 8 (by decide)
  | 3 => exact h 11 (by decide)
  | 4 => exact h 10 (by decide)
  | 5 => exact h 9 (by decide)
  | 6 => exact h 17 (by decide)
  | 7 => exact h 18 (by decide)
  | 8 => exact h 23 (by decide)
  | 9 => exact h 19 (by decide)
  | 10 => exact h 20 (by decide)
  | 11 => exact h 21 (by decide)
  | 12 => exact h 22 (by decide)
  | 13 => exact h 24 (by decide)
  | 14 => exact h 14 (by decide)
  | 15 => exact h 15 (by decide)
  | 16 => funext i; exact h1
  | 17 => funext i; exact h2
  | n + 18 => rfl
theorem bX_sm {σ σ' : zS} {L : List Nat} (h : zsm L σ σ') (hL : ∀ c, c ∈ [1, 2, 6, 7, 8, 9, 10, 11, 14, 15, 17, 18, 19, 20, 21, 22, 23, 24] → c ∉ L) : bX σ' = bX σ :=
  bX_eq (fun c hc => h c (hL c (by simp only [List.mem_cons] at hc ⊢; exact Or.inr (Or.inr hc)))) (by rw [h 1 (hL 1 (by decide))]) (by rw [h 2 (hL 2 (by decide))])
theorem gOr_s {f : Int → Int} {i : Int} (h : 0 ≤ i) : gOr f (i + 1).toNat = zor (gOr f i.toNat) (f i) := by
  have e : (i + 1).toNat = i.toNat + 1 := by omega
  have e2 : ((i.toNat : Nat) : Int) = i := by omega
  rw [e, gOr, e2]
/-! ancestors, as X keeps them -/
def AXt (σ : zS) (t : Int) : Prop := σ 13 t = gOr (fun j => σ 12 (gPa (bX σ) t j)) (gPc (bX σ) t).toNat ∧ σ 12 t = zor (gOr (fun j => zshl 1 (gPa (bX σ) t j)) (gPc (bX σ) t).toNat) (σ 13 t)
section X2
variable {Q : Int → zS → Prop}
set_option maxRecDepth 100000 in
theorem x_settle_in {σ : zS} {t fr : Int} (hB : Bd (bX σ)) (h2 : 0 ≤ t) (h3 : t < 16)
    (hK : ∀ l3 l4 l5 l6 : Option zW, zV 51 zF Q 2 [some (.inr 1), some (.inl fr), some (.inl (t + 1)), l3, l4, l5, l6] [] (zwr (zwr σ 13 t (gOr (fun j => σ 12 (gPa (bX σ) t j)) (gPc (bX σ) t).toNat)) 12 t (zor (gOr (fun j => zshl 1 (gPa (bX σ) t j)) (gPc (bX σ) t).toNat) (gOr (fun j => σ 12 (gPa (bX σ) t j)) (gPc (bX σ) t).toNat)))) :
    ∀ (k : Nat) (i : Int) (l6 : Option zW), 0 ≤ i → i ≤ gPc (bX σ) t → (gPc (bX σ) t - i).toNat = k →
      zV 51 zF Q 18 [some (.inr 1), some (.inl fr), some (.inl t), some (.inl (gOr (fun j => zshl 1 (gPa (bX σ) t j)) i.toNat)), some (.inl (gOr (fun j => σ 12 (gPa (bX σ) t j)) i.toNat)), some (.inl i), l6] [] σ := by
  have hp := gPc_le hB h2 h3
  intro k
  induction k with
  | zero =>
    intro i l6 hi hi2 hk
    have e : i = gPc (bX σ) t := by omega
    refine zv_51 100 ?_
    simp only [zs_51_0, zs_51_1, zs_51_2, zs_51_3, zs_51_4, zs_51_7, zs_51_10, zs_51_11, zs_51_12, zs_51_13, zs_51_15, zs_51_16, zs_51_18, zs_51_20, zs_51_21, zs_51_22, zs_51_25, zs_51_28, zs_51_29, zs_51_30, zs_51_32, zs_51_35, zs_51_37, zs_51_38, zs_51_39, zs_51_41, zs_51_42, zs_51_43, zs_51_44, zs_51_46, zs_51_47, zs_51_50, zs_51_52, zs_51_53, zs_51_54, zs_51_56, zs_51_59, zs_51_62, zs_51_63, zs_51_66, zs_51_67, zs_51_69, zs_51_70, zs_51_71, zs_51_74, zs_51_75, zs_51_76, zs_51_78, zs_51_79, zs_51_80, zs_51_83, zs_51_86, zs_51_2h, zs_51_18h, za_12, za_13, zg_1_0, zg_1_7, zg_1_8, zrc_46, zrc_47, zli_0, zli_s, zlr_0, zlr_s, zls_0, zls_s, z1i_e, z2i_e, z1r_e, zir_e, ziir_e, z1v_e, z2v_e, zone_e, znil_e, zsp_0, zsp_s, zlz_0, zlz_1, zlz_2, zlz_3, zlz_4, zswp_0, zswp_s, true_and, and_true, implies_true, true_or, or_true, Int.reduceEq, Int.reduceLT, Int.reduceLE, Int.reduceNeg, not_true_eq_false, not_false_eq_true, false_implies, true_implies, zr_e, zwr_o, zwr_s, Nat.reduceEqDiff]
    refine x_parentCount hB h2 h3 ?_
    refine ⟨by omega, by omega, fun a => ⟨h2, h3, h2, h3, ?_⟩, fun a => by omega⟩
    rw [e]
    exact hK _ _ _ _
  | succ k ih =>
    intro i l6 hi hi2 hk
    have hpa := gPa_lt hB h2 h3 hi (by omega)
    refine zv_51 100 ?_
    simp only [zs_51_0, zs_51_1, zs_51_2, zs_51_3, zs_51_4, zs_51_7, zs_51_10, zs_51_11, zs_51_12, zs_51_13, zs_51_15, zs_51_16, zs_51_18, zs_51_20, zs_51_21, zs_51_22, zs_51_25, zs_51_28, zs_51_29, zs_51_30, zs_51_32, zs_51_35, zs_51_37, zs_51_38, zs_51_39, zs_51_41, zs_51_42, zs_51_43, zs_51_44, zs_51_46, zs_51_47, zs_51_50, zs_51_52, zs_51_53, zs_51_54, zs_51_56, zs_51_59, zs_51_62, zs_51_63, zs_51_66, zs_51_67, zs_51_69, zs_51_70, zs_51_71, zs_51_74, zs_51_75, zs_51_76, zs_51_78, zs_51_79, zs_51_80, zs_51_83, zs_51_86, zs_51_2h, zs_51_18h, za_12, za_13, zg_1_0, zg_1_7, zg_1_8, zrc_46, zrc_47, zli_0, zli_s, zlr_0, zlr_s, zls_0, zls_s, z1i_e, z2i_e, z1r_e, zir_e, ziir_e, z1v_e, z2v_e, zone_e, znil_e, zsp_0, zsp_s, zlz_0, zlz_1, zlz_2, zlz_3, zlz_4, zswp_0, zswp_s, true_and, and_true, implies_true, true_or, or_true, Int.reduceEq, Int.reduceLT, Int.reduceLE, Int.reduceNeg, not_true_eq_false, not_false_eq_true, false_implies, true_implies, zr_e, zwr_o, zwr_s, Nat.reduceEqDiff]
    refine x_parentCount hB h2 h3 ?_
    refine ⟨by omega, by omega, fun a => by omega, fun a => ?_⟩
    refine x_parentAt hB h2 h3 hi (by omega) ?_
    refine ⟨by omega, by omega, ?_⟩
    have := ih (i + 1) (some (.inl (gPa (bX σ) t i))) (by omega) (by omega) (by omega)
    rw [gOr_s hi, gOr_s hi] at this
    exact this
set_option maxRecDepth 100000 in
theorem x_settle_out {σ : zS} {fr : Int} (hB : Bd (bX σ)) (h : ∀ σ', zsm [12, 13] σ σ' → (∀ u, 0 ≤ u → u < σ 1 0 → AXt σ' u) → Q 0 σ') :
    ∀ (k : Nat) (t : Int) (σ1 : zS) (l3 l4 l5 l6 : Option zW), 0 ≤ t → t ≤ σ 1 0 → (σ 1 0 - t).toNat = k → zsm [12, 13] σ σ1 → (∀ u, 0 ≤ u → u < t → AXt σ1 u) →
      zV 51 zF Q 2 [some (.inr 1), some (.inl fr), some (.inl t), l3, l4, l5, l6] [] σ1 := by
  have hn : 1 ≤ σ 1 0 ∧ σ 1 0 ≤ 16 ∧ _ := hB.n
  intro k
  induction k with
  | zero =>
    intro t σ1 l3 l4 l5 l6 h0 h1 hk hs hA
    have e1 : σ1 1 0 = σ 1 0 := by rw [hs 1 (by decide)]
    refine zv_51 100 ?_
    simp only [zs_51_0, zs_51_1, zs_51_2, zs_51_3, zs_51_4, zs_51_7, zs_51_10, zs_51_11, zs_51_12, zs_51_13, zs_51_15, zs_51_16, zs_51_18, zs_51_20, zs_51_21, zs_51_22, zs_51_25, zs_51_28, zs_51_29, zs_51_30, zs_51_32, zs_51_35, zs_51_37, zs_51_38, zs_51_39, zs_51_41, zs_51_42, zs_51_43, zs_51_44, zs_51_46, zs_51_47, zs_51_50, zs_51_52, zs_51_53, zs_51_54, zs_51_56, zs_51_59, zs_51_62, zs_51_63, zs_51_66, zs_51_67, zs_51_69, zs_51_70, zs_51_71, zs_51_74, zs_51_75, zs_51_76, zs_51_78, zs_51_79, zs_51_80, zs_51_83, zs_51_86, zs_51_2h, zs_51_18h, za_12, za_13, zg_1_0, zg_1_7, zg_1_8, zrc_46, zrc_47, zli_0, zli_s, zlr_0, zlr_s, zls_0, zls_s, z1i_e, z2i_e, z1r_e, zir_e, ziir_e, z1v_e, z2v_e, zone_e, znil_e, zsp_0, zsp_s, zlz_0, zlz_1, zlz_2, zlz_3, zlz_4, zswp_0, zswp_s, true_and, and_true, implies_true, true_or, or_true, Int.reduceEq, Int.reduceLT, Int.reduceLE, Int.reduceNeg, not_true_eq_false, not_false_eq_true, false_implies, true_implies, zr_e, zwr_o, zwr_s, Nat.reduceEqDiff]
    refine ⟨by omega, by omega, fun a => h σ1 hs (fun u hu hu2 => hA u hu (by omega)), fun a => by omega⟩
  | succ k ih =>
    intro t σ1 l3 l4 l5 l6 h0 h1 hk hs hA
    have e1 : σ1 1 0 = σ 1 0 := by rw [hs 1 (by decide)]
    have eB : bX σ1 = bX σ := bX_sm hs (by decide)
    have hB1 : Bd (bX σ1) := by rw [eB]; exact hB
    have hp := gPc_le hB1 h0 (t := t) (by omega)
    refine zv_51 100 ?_
    simp only [zs_51_0, zs_51_1, zs_51_2, zs_51_3, zs_51_4, zs_51_7, zs_51_10, zs_51_11, zs_51_12, zs_51_13, zs_51_15, zs_51_16, zs_51_18, zs_51_20, zs_51_21, zs_51_22, zs_51_25, zs_51_28, zs_51_29, zs_51_30, zs_51_32, zs_51_35, zs_51_37, zs_51_38, zs_51_39, zs_51_41, zs_51_42, zs_51_43, zs_51_44, zs_51_46, zs_51_47, zs_51_50, zs_51_52, zs_51_53, zs_51_54, zs_51_56, zs_51_59, zs_51_62, zs_51_63, zs_51_66, zs_51_67, zs_51_69, zs_51_70, zs_51_71, zs_51_74, zs_51_75, zs_51_76, zs_51_78, zs_51_79, zs_51_80, zs_51_83, zs_51_86, zs_51_2h, zs_51_18h, za_12, za_13, zg_1_0, zg_1_7, zg_1_8, zrc_46, zrc_47, zli_0, zli_s, zlr_0, zlr_s, zls_0, zls_s, z1i_e, z2i_e, z1r_e, zir_e, ziir_e, z1v_e, z2v_e, zone_e, znil_e, zsp_0, zsp_s, zlz_0, zlz_1, zlz_2, zlz_3, zlz_4, zswp_0, zswp_s, true_and, and_true, implies_true, true_or, or_true, Int.reduceEq, Int.reduceLT, Int.reduceLE, Int.reduceNeg, not_true_eq_false, not_false_eq_true, false_implies, true_implies, zr_e, zwr_o, zwr_s, Nat.reduceEqDiff]
    refine ⟨by omega, by omega, fun a => by omega, fun a => ?_⟩
    refine x_settle_in hB1 h0 (by omega) ?_ _ 0 l6 (by omega) (by omega) rfl
    intro l3 l4 l5 l6
    refine ih (t + 1) _ l3 l4 l5 l6 (by omega) (by omega) (by omega) (zsm_wr (zsm_wr hs (by decide)) (by decide)) ?_
    intro u hu hu2
    have eB2 : bX (zwr (zwr σ1 13 t (gOr (fun j => σ1 12 (gPa (bX σ1) t j)) (gPc (bX σ1) t).toNat)) 12 t (zor (gOr (fun j => zshl 1 (gPa (bX σ1) t j)) (gPc (bX σ1) t).toNat) (gOr (fun j => σ1 12 (gPa (bX σ1) t j)) (gPc (bX σ1) t).toNat))) = bX σ1 := bX_sm (zsm_wr (zsm_wr zsm_rf (L := [12, 13]) (by decide)) (by decide)) (by decide)
    have hpu : ∀ i : Int, 0 ≤ i → i < (gPc (bX σ1) u).toNat → gPa (bX σ1) u i < u := fun i hi1 hi2 => (gPa_lt hB1 hu (by omega) hi1 (by omega)).2
    unfold AXt
    rw [eB2]
    by_cases e : u = t
    · subst e
      refine ⟨?_, ?_⟩
      · simp only [zwr, and_self, if_true, if_false, show ¬ ((13 : Nat) = 12) by decide, false_and]
        refine gOr_congr (fun i hi1 hi2 => ?_)
        have := hpu i hi1 hi2
        rw [if_neg (by omega), if_neg (by omega)]
      · simp [zwr]
    · have := hA u hu (by omega)
      unfold AXt at this
      refine ⟨?_, ?_⟩
      · simp only [zwr, e, and_false, if_false]
        rw [this.1]
        refine gOr_congr (fun i hi1 hi2 => ?_)
        have := hpu i hi1 hi2
        rw [if_neg (by omega), if_neg (by omega)]
      · simp only [zwr, e, and_false, if_false]
        exact this.2
set_option maxRecDepth 100000 in
theorem x_settle {σ : zS} {fr : Int} (hB : Bd (bX σ)) (h0 : 0 ≤ fr) (h1 : fr ≤ σ 1 0) (hA : ∀ u, 0 ≤ u → u < fr → AXt σ u) (h : ∀ σ', zsm [12, 13] σ σ' → (∀ u, 0 ≤ u → u < σ 1 0 → AXt σ' u) → Q 0 σ') : zM 51 zF [.inr 1, .inl fr] σ Q := by
  refine ze_51 100 ?_
  simp only [zs_51_0, zs_51_1, zs_51_2, zs_51_3, zs_51_4, zs_51_7, zs_51_10, zs_51_11, zs_51_12, zs_51_13, zs_51_15, zs_51_16, zs_51_18, zs_51_20, zs_51_21, zs_51_22, zs_51_25, zs_51_28, zs_51_29, zs_51_30, zs_51_32, zs_51_35, zs_51_37, zs_51_38, zs_51_39, zs_51_41, zs_51_42, zs_51_43, zs_51_44, zs_51_46, zs_51_47, zs_51_50, zs_51_52, zs_51_53, zs_51_54, zs_51_56, zs_51_59, zs_51_62, zs_51_63, zs_51_66, zs_51_67, zs_51_69, zs_51_70, zs_51_71, zs_51_74, zs_51_75, zs_51_76, zs_51_78, zs_51_79, zs_51_80, zs_51_83, zs_51_86, za_12, za_13, zg_1_0, zg_1_7, zg_1_8, zrc_46, zrc_47, zli_0, zli_s, zlr_0, zlr_s, zls_0, zls_s, z1i_e, z2i_e, z1r_e, zir_e, ziir_e, z1v_e, z2v_e, zone_e, znil_e, zsp_0, zsp_s, zlz_0, zlz_1, zlz_2, zlz_3, zlz_4, zswp_0, zswp_s, true_and, and_true, implies_true, true_or, or_true, Int.reduceEq, Int.reduceLT, Int.reduceLE, Int.reduceNeg, not_true_eq_false, not_false_eq_true, false_implies, true_implies, zr_e, zwr_o, zwr_s, Nat.reduceEqDiff]
  exact x_settle_out hB h _ fr σ _ _ _ _ h0 h1 rfl zsm_rf hA
end X2
