theorem gHad_congr {B : zS} {A A' : Int → Int} {H H' : Int → List Int} {t n : Int} (hB : Bd B) (h0 : 0 ≤ t) (h1 : t < 16) (h : ∀ p, 0 ≤ p → p < t → H p = H' p) (hA : A = A') : gHad B A H t n = gHad B A' H' t n := by
  subst hA
  unfold gHad
  rw [gGiv_congr hB h0 h1 h]
/-- a row stays where its places stay -/
theorem rX_eq {σ σ' : zS} {n t : Int} (h1 : σ' 26 (n * 16 + t) = σ 26 (n * 16 + t)) (h2 : ∀ i, 0 ≤ i → i < σ 26 (n * 16 + t) → σ' 27 ((n * 16 + t) * 16 + i) = σ 27 ((n * 16 + t) * 16 + i)) : rX σ' n t = rX σ n t := by
  simp only [rX]
  rw [h1]
  exact zl_congr h2
theorem rX_fr {σ σ' : zS} {n t n' t' : Int} (h : rFr σ σ' n t) (hne : ¬ n' * 16 + t' = n * 16 + t) (hc : σ 26 (n' * 16 + t') ≤ 16) : rX σ' n' t' = rX σ n' t' := by
  refine rX_eq (h.2.1 _ hne) (fun i i0 i1 => h.2.2 _ ?_)
  omega
theorem rOK_fr {σ σ' : zS} {n t n' t' : Int} (h : rFr σ σ' n t) (hne : ¬ n' * 16 + t' = n * 16 + t) (hr : rOK σ n' t') : rOK σ' n' t' := by
  obtain ⟨r1, r2, r3⟩ := hr
  refine ⟨by rw [h.2.1 _ hne]; exact r1, by rw [h.2.1 _ hne]; exact r2, ?_⟩
  rw [bX_sm h.1 (by decide), rX_fr h hne r2]
  exact r3
section X8
variable {σ : zS} {Q : Int → zS → Prop}
set_option maxRecDepth 100000 in
theorem x_settleR {t n : Int} (hB : Bd (bX σ)) (h0 : 0 ≤ t) (h1 : t < 16) (h2 : 0 ≤ n) (h3 : n < 10) (hr : ∀ p, 0 ≤ p → p < t → rOK σ n p)
    (h : ∀ σ', rFr σ σ' n t → rX σ' n t = gHad (bX σ) (σ 12) (rX σ n) t n → rOK σ' n t → Q 0 σ') : zM 19 zF [.inr 3, .inl t, .inl n] σ Q := by
  have hnn : 1 ≤ σ 1 0 ∧ σ 1 0 ≤ 16 ∧ 3 ≤ σ 2 0 ∧ σ 2 0 ≤ 60 := hB.n
  have how : σ 24 (10 * t + n) = -4 ∨ (0 ≤ σ 24 (10 * t + n) ∧ σ 24 (10 * t + n) < σ 2 0) := hB.ow (10 * t + n) (by omega) (by omega)
  have hV : ∀ A, gV (bX σ) n (t + 1) (gHad (bX σ) A (rX σ n) t n) := fun A => gV_had hB h0 h1 h2 h3 (fun p p0 p1 => (hr p p0 p1).2.2)
  have fa : rFr σ (zwr σ 26 (n * 16 + t) 0) n t := ⟨zsm_wr zsm_rf (by decide), fun j hj => by simp only [zwr, true_and, if_neg hj], fun j _ => by rw [zwr_o (by decide)]⟩
  have eBa : bX (zwr σ 26 (n * 16 + t) 0) = bX σ := bX_sm fa.1 (by decide)
  have hBa : Bd (bX (zwr σ 26 (n * 16 + t) 0)) := by rw [eBa]; exact hB
  refine ze_19 200 ?_
  simp only [zs_19_0, zs_19_1, zs_19_4, zs_19_5, zs_19_7, zs_19_8, zs_19_9, zs_19_10, zs_19_11, zs_19_12, zs_19_13, zs_19_16, zs_19_17, zs_19_18, zs_19_21, zs_19_22, zs_19_23, zs_19_25, zs_19_28, zs_19_29, zs_19_30, zs_19_31, zs_19_32, zs_19_35, zs_19_36, zs_19_37, zs_19_38, zs_19_39, zs_19_42, zs_19_43, zs_19_46, zs_19_48, zs_19_49, zs_19_52, zs_19_54, zs_19_55, zs_19_57, zs_19_59, zs_19_60, zs_19_63, zs_19_66, zs_19_67, zs_19_70, zs_19_73, zs_19_74, zs_19_77, zs_19_79, zs_19_80, zs_19_81, zs_19_83, zs_19_85, zs_19_88, zs_19_89, zs_19_92, zs_19_95, zs_19_97, zs_19_98, zs_19_99, zs_19_102, zs_19_104, zs_19_106, zs_19_107, zs_19_108, zs_19_109, zs_19_112, zs_19_113, zs_19_116, zs_19_117, zs_19_119, zs_19_121, zs_19_124, zs_19_125, zs_19_126, zs_19_127, zs_19_128, zs_19_131, zs_19_133, zs_19_134, zs_19_137, zs_19_140, zs_19_143, za_17, za_26, za_28, za_6, zg_1_1, zg_2_1, zg_3_0, zg_3_1, zg_3_3, zg_3_5, zg_3_6, zrc_20, zrc_21, zrc_23, zrc_24, zrc_34, zli_0, zli_s, zlr_0, zlr_s, zls_0, zls_s, z1i_e, z2i_e, z1r_e, zir_e, ziir_e, z1v_e, z2v_e, zone_e, znil_e, zsp_0, zsp_s, zlz_0, zlz_1, zlz_2, zlz_3, zlz_4, zswp_0, zswp_s, true_and, and_true, implies_true, true_or, or_true, Int.reduceEq, Int.reduceLT, Int.reduceLE, Int.reduceNeg, not_true_eq_false, not_false_eq_true, false_implies, true_implies, zr_e, zwr_o, zwr_s, Nat.reduceEqDiff]
  refine ⟨by omega, by omega, ?_⟩
  refine x_ownOf h0 h1 h2 h3 ?_
  rw [zwr_o (by decide)]
  refine ⟨by omega, fun a => ?_, fun a => ?_⟩
  · refine x_gather hBa h0 h1 h2 h3 (fun p p0 p1 => rOK_fr fa (by omega) (hr p p0 p1)) ?_
    intro σ1 hs hg0 hg hgv
    have eB1 : bX σ1 = bX σ := by rw [bX_sm hs (by decide), eBa]
    have hB1 : Bd (bX σ1) := by rw [eB1]; exact hB
    have eg : gX σ1 = gGiv (bX σ) (rX σ n) t := by
      rw [hg, eBa]
      exact gGiv_congr hB h0 h1 (fun p p0 p1 => rX_fr fa (by omega) (hr p p0 p1).2.1)
    rw [eBa] at hgv
    have hlen := gV_len hgv h0 hB
    have hcl : (gX σ1).length = σ1 3 6 := zl_len hg0
    have hv : ∀ m, m ∈ gX σ1 → 0 ≤ m ∧ m < 60 := fun m hm => by
      have := hgv.2 m hm
      have h2 : m < σ 2 0 := this.2.1
      omega
    have e26 : σ1 26 (n * 16 + t) = 0 := by rw [hs 26 (by decide), zwr_s]
    have f1 : rFr σ σ1 n t := ⟨zsm_tr fa.1 (zsm_tr zsm_rf hs (L := [3, 26, 27, 28]) (by decide)) (by decide), fun j hj => by rw [hs 26 (by decide)]; exact fa.2.1 j hj, fun j hj => by rw [hs 27 (by decide)]; exact fa.2.2 j hj⟩
    have e12 : σ1 12 = σ 12 := f1.1 12 (by decide)
    have fin : ∀ σ', rFr σ1 σ' n t → 0 ≤ σ' 26 (n * 16 + t) → σ' 26 (n * 16 + t) ≤ 16 → rX σ' n t = (gX σ1).filter (fun m => !gLs (bX σ1) (σ1 12) (gX σ1) m) → Q 0 σ' := by
      intro σ' hf c0 c1 hrr
      have e : rX σ' n t = gHad (bX σ) (σ 12) (rX σ n) t n := by
        rw [hrr, eB1, e12, eg]
        unfold gHad
        rw [if_pos (show bX σ 13 (10 * t + n) = -4 from a)]
      have f' : rFr σ σ' n t := ⟨zsm_tr f1.1 hf.1 (by decide), fun j hj => by rw [hf.2.1 j hj, f1.2.1 j hj], fun j hj => by rw [hf.2.2 j hj, f1.2.2 j hj]⟩
      refine h σ' f' e ⟨c0, c1, ?_⟩
      rw [e, bX_sm f'.1 (by decide)]
      exact hV _
    have nil0 : rX σ1 n t = (zl (σ1 28) 0).filter (fun m => !gLs (bX σ1) (σ1 12) (gX σ1) m) := by
      simp only [rX]
      rw [e26, zl_0 (by omega), zl_0 (by omega)]
      rfl
    have go : ∀ cb, (cb = 1 ∧ (gX σ1).any (gCb (bX σ1)) = true) ∨ (cb = 0 ∧ (gX σ1).any (gCb (bX σ1)) = false) → ∀ (l3 l7 l8 : Option zW), zV 19 zF Q 57 [some (.inr 3), some (.inl t), some (.inl n), l3, some (.inl cb), some (.inl (gOr (fun i => σ1 12 (σ1 17 (σ1 28 i))) (σ1 3 6).toNat)), some (.inl 0), l7, l8] [] σ1 := by
      intro cb hcb l3 l7 l8
      exact x_settleR_loop hB1 h0 h1 h2 h3 hg0 (by omega) hv hcb (fun h => any_gOr hg0) fin _ 0 σ1 l7 l8 (by omega) (by omega) rfl ⟨zsm_rf, fun _ _ => rfl, fun _ _ => rfl⟩ rfl rfl (by omega) (by omega) nil0
    refine x_cbg hB1 hg0 (by omega) hv (fun b => ?_) (fun b => ?_)
    · exact x_aog hB1 hg0 (by omega) hv (go 1 (Or.inl ⟨rfl, b⟩) _ _ _)
    · exact x_aog hB1 hg0 (by omega) hv (go 0 (Or.inr ⟨rfl, b⟩) _ _ _)
  · have hc0 : zwr σ 26 (n * 16 + t) 0 26 (n * 16 + t) = 0 := zwr_s
    refine x_hold h0 h1 h2 h3 (by omega) (by omega) ?_
    have e := rX_push (σ := zwr σ 26 (n * 16 + t) 0) (n := n) (t := t) (m := σ 24 (10 * t + n)) (by omega)
    have e0 : rX (zwr σ 26 (n * 16 + t) 0) n t = [] := by
      simp only [rX]
      exact zl_0 (by omega)
    rw [e0, List.nil_append] at e
    have eh : gHad (bX σ) (σ 12) (rX σ n) t n = [σ 24 (10 * t + n)] := by
      unfold gHad
      rw [if_neg (show ¬ bX σ 13 (10 * t + n) = -4 from a)]
      rfl
    rw [hc0] at e ⊢
    have f' : rFr σ (zwr (zwr (zwr σ 26 (n * 16 + t) 0) 27 ((n * 16 + t) * 16 + 0) (σ 24 (10 * t + n))) 26 (n * 16 + t) (0 + 1)) n t := by
      refine ⟨zsm_wr (zsm_wr fa.1 (by decide)) (by decide), fun j hj => ?_, fun j hj => ?_⟩
      · simp [zwr, hj]
      · simp only [zwr, true_and, show ¬ ((27 : Nat) = 26) by decide, false_and, if_false]
        rw [if_neg (by omega)]
    refine h _ f' (by rw [e, eh]) ⟨by rw [zwr_s]; omega, by rw [zwr_s]; omega, ?_⟩
    rw [e, bX_sm f'.1 (by decide), ← eh]
    exact hV _
end X8
/-- a name's rows are settled -/
def RX (σ : zS) (n : Int) : Prop := ∀ t, 0 ≤ t → t < σ 1 0 → rOK σ n t ∧ rX σ n t = gHad (bX σ) (σ 12) (rX σ n) t n
/-- what X keeps of its rows -/
def FX (σ : zS) : Prop := (∀ n, 0 ≤ n → n < 10 → σ 25 n = 0 ∨ σ 25 n = 1) ∧ (∀ j, 0 ≤ j → j < 160 → 0 ≤ σ 26 j ∧ σ 26 j ≤ 16) ∧ ∀ n, 0 ≤ n → n < 10 → σ 25 n = 1 → RX σ n
section X9
variable {σ : zS} {Q : Int → zS → Prop}
set_option maxRecDepth 100000 in
theorem x_refresh_loop {n : Int} (hB : Bd (bX σ)) (h2 : 0 ≤ n) (h3 : n < 10)
    (h : ∀ σ2, zsm [3, 26, 27, 28] σ σ2 → (∀ j, j < n * 16 ∨ n * 16 + 16 ≤ j → σ2 26 j = σ 26 j) → (∀ j, j < n * 256 ∨ n * 256 + 256 ≤ j → σ2 27 j = σ 27 j) → (∀ j, 0 ≤ j → j < 160 → 0 ≤ σ2 26 j ∧ σ2 26 j ≤ 16) → RX σ2 n → Q 0 (zwr σ2 25 n 1)) :
    ∀ (c : Nat) (t : Int) (σ2 : zS), 0 ≤ t → t ≤ σ 1 0 → (σ 1 0 - t).toNat = c → zsm [3, 26, 27, 28] σ σ2 → (∀ j, j < n * 16 ∨ n * 16 + 16 ≤ j → σ2 26 j = σ 26 j) → (∀ j, j < n * 256 ∨ n * 256 + 256 ≤ j → σ2 27 j = σ 27 j) → (∀ j, 0 ≤ j → j < 160 → 0 ≤ σ2 26 j ∧ σ2 26 j ≤ 16) → (∀ u, 0 ≤ u → u < t → rOK σ2 n u ∧ rX σ2 n u = gHad (bX σ) (σ 12) (rX σ2 n) u n) →
      zV 16 zF Q 12 [some (.inr 3), some (.inl n), some (.inl t)] [] σ2 := by
  have hnn : 1 ≤ σ 1 0 ∧ σ 1 0 ≤ 16 ∧ _ := hB.n
  intro c
  induction c with
  | zero =>
    intro t σ2 t0 t1 tc hs h26 h27 hct hR
    have e1 : σ2 1 = σ 1 := hs 1 (by decide)
    have e12 : σ2 12 = σ 12 := hs 12 (by decide)
    have eB : bX σ2 = bX σ := bX_sm hs (by decide)
    refine zv_16 100 ?_
    simp only [zs_16_0, zs_16_1, zs_16_4, zs_16_5, zs_16_6, zs_16_9, zs_16_10, zs_16_11, zs_16_12, zs_16_13, zs_16_14, zs_16_17, zs_16_20, zs_16_23, zs_16_24, zs_16_25, zs_16_26, zs_16_29, zs_16_32, zs_16_35, zs_16_36, zs_16_39, zs_16_40, zs_16_41, zs_16_42, zs_16_12h, za_25, zg_1_0, zg_3_0, zg_3_2, zrc_19, zli_0, zli_s, zlr_0, zlr_s, zls_0, zls_s, z1i_e, z2i_e, z1r_e, zir_e, ziir_e, z1v_e, z2v_e, zone_e, znil_e, zsp_0, zsp_s, zlz_0, zlz_1, zlz_2, zlz_3, zlz_4, zswp_0, zswp_s, true_and, and_true, implies_true, true_or, or_true, Int.reduceEq, Int.reduceLT, Int.reduceLE, Int.reduceNeg, not_true_eq_false, not_false_eq_true, false_implies, true_implies, zr_e, zwr_o, zwr_s, Nat.reduceEqDiff]
    rw [e1]
    refine ⟨by omega, by omega, fun a => ⟨by omega, by omega, ?_⟩, fun a => by omega⟩
    refine h σ2 hs h26 h27 hct ?_
    intro u u0 u1
    rw [e1] at u1
    rw [eB, e12]
    exact hR u u0 (by omega)
  | succ c ih =>
    intro t σ2 t0 t1 tc hs h26 h27 hct hR
    have e1 : σ2 1 = σ 1 := hs 1 (by decide)
    have e12 : σ2 12 = σ 12 := hs 12 (by decide)
    have eB : bX σ2 = bX σ := bX_sm hs (by decide)
    have hB2 : Bd (bX σ2) := by rw [eB]; exact hB
    refine zv_16 100 ?_
    simp only [zs_16_0, zs_16_1, zs_16_4, zs_16_5, zs_16_6, zs_16_9, zs_16_10, zs_16_11, zs_16_12, zs_16_13, zs_16_14, zs_16_17, zs_16_20, zs_16_23, zs_16_24, zs_16_25, zs_16_26, zs_16_29, zs_16_32, zs_16_35, zs_16_36, zs_16_39, zs_16_40, zs_16_41, zs_16_42, zs_16_12h, za_25, zg_1_0, zg_3_0, zg_3_2, zrc_19, zli_0, zli_s, zlr_0, zlr_s, zls_0, zls_s, z1i_e, z2i_e, z1r_e, zir_e, ziir_e, z1v_e, z2v_e, zone_e, znil_e, zsp_0, zsp_s, zlz_0, zlz_1, zlz_2, zlz_3, zlz_4, zswp_0, zswp_s, true_and, and_true, implies_true, true_or, or_true, Int.reduceEq, Int.reduceLT, Int.reduceLE, Int.reduceNeg, not_true_eq_false, not_false_eq_true, false_implies, true_implies, zr_e, zwr_o, zwr_s, Nat.reduceEqDiff]
    rw [e1]
    refine ⟨by omega, by omega, fun a => by omega, fun a => ?_⟩
    refine x_settleR hB2 t0 (by omega) h2 h3 (fun p p0 p1 => (hR p p0 p1).1) ?_
    intro σ3 hf hr3 hok
    rw [eB, e12] at hr3
    refine ih (t + 1) σ3 (by omega) (by omega) (by omega) (zsm_tr hs hf.1 (by decide)) (fun j hj => ?_) (fun j hj => ?_) (fun j j0 j1 => ?_) (fun u u0 u1 => ?_)
    · rw [hf.2.1 j (by omega), h26 j hj]
    · rw [hf.2.2 j (by omega), h27 j hj]
    · by_cases e : j = n * 16 + t
      · rw [e]; exact ⟨hok.1, hok.2.1⟩
      · rw [hf.2.1 j e]; exact hct j j0 j1
    · have hrow : ∀ p, 0 ≤ p → p < t → rX σ3 n p = rX σ2 n p := fun p p0 p1 => rX_fr hf (by omega) (hR p p0 p1).1.2.1
      by_cases e : u = t
      · rw [e]
        refine ⟨hok, ?_⟩
        rw [hr3]
        exact gHad_congr hB t0 (by omega) (fun p p0 p1 => (hrow p p0 p1).symm) rfl
      · refine ⟨rOK_fr hf (by omega) (hR u u0 (by omega)).1, ?_⟩
        rw [hrow u u0 (by omega), (hR u u0 (by omega)).2]
        exact gHad_congr hB u0 (by omega) (fun p p0 p1 => (hrow p p0 (by omega)).symm) rfl
set_option maxRecDepth 100000 in
theorem x_refresh {n : Int} (hB : Bd (bX σ)) (hF : FX σ) (h2 : 0 ≤ n) (h3 : n < 10)
    (h : ∀ σ', zsm [3, 25, 26, 27, 28] σ σ' → FX σ' → σ' 25 n = 1 → (∀ n', 0 ≤ n' → n' < 10 → σ 25 n' = 1 → σ' 25 n' = 1) → Q 0 σ') : zM 16 zF [.inr 3, .inl n] σ Q := by
  have hnn : 1 ≤ σ 1 0 ∧ σ 1 0 ≤ 16 ∧ _ := hB.n
  have hf := hF.1 n h2 h3
  refine ze_16 100 ?_
  simp only [zs_16_0, zs_16_1, zs_16_4, zs_16_5, zs_16_6, zs_16_9, zs_16_10, zs_16_11, zs_16_12, zs_16_13, zs_16_14, zs_16_17, zs_16_20, zs_16_23, zs_16_24, zs_16_25, zs_16_26, zs_16_29, zs_16_32, zs_16_35, zs_16_36, zs_16_39, zs_16_40, zs_16_41, zs_16_42, za_25, zg_1_0, zg_3_0, zg_3_2, zrc_19, zli_0, zli_s, zlr_0, zlr_s, zls_0, zls_s, z1i_e, z2i_e, z1r_e, zir_e, ziir_e, z1v_e, z2v_e, zone_e, znil_e, zsp_0, zsp_s, zlz_0, zlz_1, zlz_2, zlz_3, zlz_4, zswp_0, zswp_s, true_and, and_true, implies_true, true_or, or_true, Int.reduceEq, Int.reduceLT, Int.reduceLE, Int.reduceNeg, not_true_eq_false, not_false_eq_true, false_implies, true_implies, zr_e, zwr_o, zwr_s, Nat.reduceEqDiff]
  refine ⟨by omega, by omega, by omega, fun a => ?_, fun a => ?_⟩
  · refine x_refresh_loop hB h2 h3 ?_ _ 0 σ (by omega) (by omega) rfl zsm_rf (fun _ _ => rfl) (fun _ _ => rfl) hF.2.1 (fun u u0 u1 => by omega)
    intro σ2 hs h26 h27 hct hR
    have e25 : σ2 25 = σ 25 := hs 25 (by decide)
    have hs' : zsm [3, 25, 26, 27, 28] σ2 (zwr σ2 25 n 1) := zsm_wr zsm_rf (by decide)
    have hsx : zsm [25] σ2 (zwr σ2 25 n 1) := zsm_wr zsm_rf (by decide)
    have eB2 : bX σ2 = bX σ := bX_sm hs (by decide)
    have eB3 : bX (zwr σ2 25 n 1) = bX σ2 := bX_sm hsx (by decide)
    have er : rX (zwr σ2 25 n 1) = rX σ2 := rX_sm hsx (by decide) (by decide)
    refine h _ (zsm_tr (zsm_tr zsm_rf hs (L := [3, 25, 26, 27, 28]) (by decide)) hs' (by decide)) ⟨?_, ?_, ?_⟩ zwr_s ?_
    · intro n' a0 a1
      by_cases e : n' = n
      · rw [e, zwr_s]; exact Or.inr rfl
      · simp only [zwr, true_and, if_neg e]
        rw [e25]
        exact hF.1 n' a0 a1
    · rw [zwr_o (by decide)]; exact hct
    · intro n' a0 a1 a2
      have key : RX σ2 n' := by
        by_cases e : n' = n
        · rw [e]; exact hR
        · have a3 : σ 25 n' = 1 := by
            simp only [zwr, true_and, if_neg e] at a2
            rw [e25] at a2
            exact a2
          have hold := hF.2.2 n' a0 a1 a3
          intro u u0 u1
          rw [hs 1 (by decide)] at u1
          have hrow : ∀ p, 0 ≤ p → p < σ 1 0 → rX σ2 n' p = rX σ n' p := fun p p0 p1 => by
            have := hF.2.1 (n' * 16 + p) (by omega) (by omega)
            exact rX_eq (h26 _ (by omega)) (fun i i0 i1 => h27 _ (by omega))
          obtain ⟨⟨r1, r2, r3⟩, r4⟩ := hold u u0 u1
          refine ⟨⟨by rw [h26 _ (by omega)]; exact r1, by rw [h26 _ (by omega)]; exact r2, by rw [hrow u u0 u1, eB2]; exact r3⟩, ?_⟩
          rw [hrow u u0 u1, r4, eB2, hs 12 (by decide)]
          exact gHad_congr hB u0 (by omega) (fun p p0 p1 => (hrow p p0 (by omega)).symm) rfl
      intro u u0 u1
      rw [zwr_o (by decide)] at u1
      obtain ⟨⟨r1, r2, r3⟩, r4⟩ := key u u0 u1
      refine ⟨⟨by rw [zwr_o (by decide)]; exact r1, by rw [zwr_o (by decide)]; exact r2, by rw [er, eB3]; exact r3⟩, ?_⟩
      rw [er, eB3, zwr_o (by decide)]
      exact r4
    · intro n' a0 a1 a2
      by_cases e : n' = n
      · rw [e, zwr_s]
      · simp only [zwr, true_and, if_neg e]
        rw [e25]
        exact a2
  · exact h σ zsm_rf hF (by omega) (fun _ _ _ h => h)
set_option maxRecDepth 100000 in
theorem x_refreshAll_loop (hB : Bd (bX σ)) (h : ∀ σ', zsm [3, 25, 26, 27, 28] σ σ' → FX σ' → (∀ n, 0 ≤ n → n < 10 → σ' 25 n = 1) → Q 0 σ') :
    ∀ (c : Nat) (n : Int) (σ2 : zS), 0 ≤ n → n ≤ 10 → (10 - n).toNat = c → zsm [3, 25, 26, 27, 28] σ σ2 → FX σ2 → (∀ n', 0 ≤ n' → n' < n → σ2 25 n' = 1) → zV 15 zF Q 2 [some (.inr 3), some (.inl n)] [] σ2 := by
  intro c
  induction c with
  | zero =>
    intro n σ2 n0 n1 nc hs hF ha
    refine zv_15 100 ?_
    simp only [zs_15_0, zs_15_1, zs_15_2, zs_15_3, zs_15_5, zs_15_8, zs_15_9, zs_15_10, zs_15_13, zs_15_16, zs_15_19, zs_15_2h, zrc_16, zli_0, zli_s, zlr_0, zlr_s, zls_0, zls_s, z1i_e, z2i_e, z1r_e, zir_e, ziir_e, z1v_e, z2v_e, zone_e, znil_e, zsp_0, zsp_s, zlz_0, zlz_1, zlz_2, zlz_3, zlz_4, zswp_0, zswp_s, true_and, and_true, implies_true, true_or, or_true, Int.reduceEq, Int.reduceLT, Int.reduceLE, Int.reduceNeg, not_true_eq_false, not_false_eq_true, false_implies, true_implies, zr_e, zwr_o, zwr_s, Nat.reduceEqDiff]
    refine ⟨by omega, fun a => h σ2 hs hF (fun n' a0 a1 => ha n' a0 (by omega)), fun a => by omega⟩
  | succ c ih =>
    intro n σ2 n0 n1 nc hs hF ha
    have eB : bX σ2 = bX σ := bX_sm hs (by decide)
    refine zv_15 100 ?_
    simp only [zs_15_0, zs_15_1, zs_15_2, zs_15_3, zs_15_5, zs_15_8, zs_15_9, zs_15_10, zs_15_13, zs_15_16, zs_15_19, zs_15_2h, zrc_16, zli_0, zli_s, zlr_0, zlr_s, zls_0, zls_s, z1i_e, z2i_e, z1r_e, zir_e, ziir_e, z1v_e, z2v_e, zone_e, znil_e, zsp_0, zsp_s, zlz_0, zlz_1, zlz_2, zlz_3, zlz_4, zswp_0, zswp_s, true_and, and_true, implies_true, true_or, or_true, Int.reduceEq, Int.reduceLT, Int.reduceLE, Int.reduceNeg, not_true_eq_false, not_false_eq_true, false_implies, true_implies, zr_e, zwr_o, zwr_s, Nat.reduceEqDiff]
    refine ⟨by omega, fun a => by omega, fun a => ?_⟩
    refine x_refresh (by rw [eB]; exact hB) hF n0 (by omega) ?_
    intro σ3 hs3 hF3 h1 hm
    refine ih (n + 1) σ3 (by omega) (by omega) (by omega) (zsm_tr hs hs3 (by decide)) hF3 (fun n' a0 a1 => ?_)
    by_cases e : n' = n
    · rw [e]; exact h1
    · exact hm n' a0 (by omega) (ha n' a0 (by omega))
set_option maxRecDepth 100000 in
theorem x_refreshAll (hB : Bd (bX σ)) (hF : FX σ) (h : ∀ σ', zsm [3, 25, 26, 27, 28] σ σ' → FX σ' → (∀ n, 0 ≤ n → n < 10 → σ' 25 n = 1) → Q 0 σ') : zM 15 zF [.inr 3] σ Q := by
  refine ze_15 100 ?_
  simp only [zs_15_0, zs_15_1, zs_15_2, zs_15_3, zs_15_5, zs_15_8, zs_15_9, zs_15_10, zs_15_13, zs_15_16, zs_15_19, zrc_16, zli_0, zli_s, zlr_0, zlr_s, zls_0, zls_s, z1i_e, z2i_e, z1r_e, zir_e, ziir_e, z1v_e, z2v_e, zone_e, znil_e, zsp_0, zsp_s, zlz_0, zlz_1, zlz_2, zlz_3, zlz_4, zswp_0, zswp_s, true_and, and_true, implies_true, true_or, or_true, Int.reduceEq, Int.reduceLT, Int.reduceLE, Int.reduceNeg, not_true_eq_false, not_false_eq_true, false_implies, true_implies, zr_e, zwr_o, zwr_s, Nat.reduceEqDiff]
  exact x_refreshAll_loop hB h _ 0 σ (by omega) (by omega) rfl zsm_rf hF (fun _ _ _ => by omega)
set_option maxRecDepth 100000 in
theorem x_forget {n : Int} (h2 : 0 ≤ n) (h3 : n < 10) (h : Q 0 (zwr σ 25 n 0)) : zM 14 zF [.inr 3, .inl n] σ Q := by
  refine ze_14 100 ?_
  simp only [zs_14_0, zs_14_1, zs_14_4, zs_14_5, zs_14_6, zs_14_7, za_25, zg_3_2, zli_0, zli_s, zlr_0, zlr_s, zls_0, zls_s, z1i_e, z2i_e, z1r_e, zir_e, ziir_e, z1v_e, z2v_e, zone_e, znil_e, zsp_0, zsp_s, zlz_0, zlz_1, zlz_2, zlz_3, zlz_4, zswp_0, zswp_s, true_and, and_true, implies_true, true_or, or_true, Int.reduceEq, Int.reduceLT, Int.reduceLE, Int.reduceNeg, not_true_eq_false, not_false_eq_true, false_implies, true_implies, zr_e, zwr_o, zwr_s, Nat.reduceEqDiff]
  exact ⟨h2, h3, h⟩
set_option maxRecDepth 100000 in
theorem x_forgetAll_loop (h : ∀ σ', zsm [25] σ σ' → (∀ n, 0 ≤ n → n < 10 → σ' 25 n = 0) → Q 0 σ') :
    ∀ (c : Nat) (n : Int) (σ2 : zS), 0 ≤ n → n ≤ 10 → (10 - n).toNat = c → zsm [25] σ σ2 → (∀ n', 0 ≤ n' → n' < n → σ2 25 n' = 0) → zV 13 zF Q 2 [some (.inr 3), some (.inl n)] [] σ2 := by
  intro c
  induction c with
  | zero =>
    intro n σ2 n0 n1 nc hs ha
    refine zv_13 100 ?_
    simp only [zs_13_0, zs_13_1, zs_13_2, zs_13_3, zs_13_5, zs_13_8, zs_13_9, zs_13_12, zs_13_13, zs_13_14, zs_13_15, zs_13_18, zs_13_21, zs_13_2h, za_25, zg_3_2, zli_0, zli_s, zlr_0, zlr_s, zls_0, zls_s, z1i_e, z2i_e, z1r_e, zir_e, ziir_e, z1v_e, z2v_e, zone_e, znil_e, zsp_0, zsp_s, zlz_0, zlz_1, zlz_2, zlz_3, zlz_4, zswp_0, zswp_s, true_and, and_true, implies_true, true_or, or_true, Int.reduceEq, Int.reduceLT, Int.reduceLE, Int.reduceNeg, not_true_eq_false, not_false_eq_true, false_implies, true_implies, zr_e, zwr_o, zwr_s, Nat.reduceEqDiff]
    refine ⟨by omega, fun a => h σ2 hs (fun n' a0 a1 => ha n' a0 (by omega)), fun a => by omega⟩
  | succ c ih =>
    intro n σ2 n0 n1 nc hs ha
    refine zv_13 100 ?_
    simp only [zs_13_0, zs_13_1, zs_13_2, zs_13_3, zs_13_5, zs_13_8, zs_13_9, zs_13_12, zs_13_13, zs_13_14, zs_13_15, zs_13_18, zs_13_21, zs_13_2h, za_25, zg_3_2, zli_0, zli_s, zlr_0, zlr_s, zls_0, zls_s, z1i_e, z2i_e, z1r_e, zir_e, ziir_e, z1v_e, z2v_e, zone_e, znil_e, zsp_0, zsp_s, zlz_0, zlz_1, zlz_2, zlz_3, zlz_4, zswp_0, zswp_s, true_and, and_true, implies_true, true_or, or_true, Int.reduceEq, Int.reduceLT, Int.reduceLE, Int.reduceNeg, not_true_eq_false, not_false_eq_true, false_implies, true_implies, zr_e, zwr_o, zwr_s, Nat.reduceEqDiff]
    refine ⟨by omega, fun a => by omega, fun a => ⟨by omega, by omega, ?_⟩⟩
    refine ih (n + 1) _ (by omega) (by omega) (by omega) (zsm_wr hs (by decide)) (fun n' a0 a1 => ?_)
    by_cases e : n' = n
    · rw [e, zwr_s]
    · simp only [zwr, true_and, if_neg e]
      exact ha n' a0 (by omega)
set_option maxRecDepth 100000 in
theorem x_forgetAll (h : ∀ σ', zsm [25] σ σ' → (∀ n, 0 ≤ n → n < 10 → σ' 25 n = 0) → Q 0 σ') : zM 13 zF [.inr 3] σ Q := by
  refine ze_13 100 ?_
  simp only [zs_13_0, zs_13_1, zs_13_2, zs_13_3, zs_13_5, zs_13_8, zs_13_9, zs_13_12, zs_13_13, zs_13_14, zs_13_15, zs_13_18, zs_13_21, za_25, zg_3_2, zli_0, zli_s, zlr_0, zlr_s, zls_0, zls_s, z1i_e, z2i_e, z1r_e, zir_e, ziir_e, z1v_e, z2v_e, zone_e, znil_e, zsp_0, zsp_s, zlz_0, zlz_1, zlz_2, zlz_3, zlz_4, zswp_0, zswp_s, true_and, and_true, implies_true, true_or, or_true, Int.reduceEq, Int.reduceLT, Int.reduceLE, Int.reduceNeg, not_true_eq_false, not_false_eq_true, false_implies, true_implies, zr_e, zwr_o, zwr_s, Nat.reduceEqDiff]
  exact x_forgetAll_loop h _ 0 σ (by omega) (by omega) rfl zsm_rf (fun _ _ _ => by omega)
end X9
