noncomputable def gFo (B : zS) (H : Int → List Int) (t n : Int) : List (Int × Int) := gIf (if B 0 t = 2 ∧ gAR n (B 7 (B 13 (10 * t + n))) then 1 else 0) (B 13 (10 * t + n)) ++ (gGiv B H t).flatMap (fun g => gIf (gFa B (B 13 (10 * t + n)) g) (B 13 (10 * t + n)))
def gFi (B : zS) (l : List Int) (t n : Int) : List (Int × Int) := gIf (if 2 ≤ (l.length : Int) ∧ gFs B l l = -4 then 6 else 0) n ++ (gIf (if gRX B l 0 (-4) 0 = -6 then 7 else 0) n ++ gIf (if gRX B l 0 (-4) 0 = -7 ∧ B 0 t = 0 then 8 else 0) n)
noncomputable def gFc (B : zS) (H : Int → Int → List Int) (PA : Int → Int) (t m : Int) : Int :=
  if B 7 m = 2 ∧ ¬ B 10 m = 0 ∧ ¬ B 10 m = 4 then 9
  else if B 10 m = 1 then (if (H (B 12 m) t).length = 0 then 10 else 0)
  else if B 10 m = 2 then (if (t = 0 ∨ B 0 t = 2) ∨ gRX B (H (B 12 m) (B 1 t)) 0 (-4) 0 < 0 then 10 else 0)
  else if B 10 m = 3 then (if B 11 m ∉ zl (fun j => B 3 (4 * t + j)) (B 2 t) ∨ zbt (PA t) (B 11 m) = true then 11 else if gRX B (H (B 12 m) (B 11 m)) 0 (-4) 0 < 0 then 12 else 0)
  else if B 10 m = 4 then (if gSt B (H (B 12 m) (B 11 m)) < 0 then 12 else 0)
  else 0
def gSe (B : zS) (t : Int) (f : Int) : List (Int × Int) := gIf (if ¬ B 4 f = 0 ∧ zbt (B 5 f) t = false then 13 else 0) f
theorem gRX_r {B : zS} : ∀ (l : List Int) (al bo ac : Int), (∀ m, m ∈ l → 0 ≤ m ∧ m < 60) → (bo = -4 ∨ (0 ≤ bo ∧ bo < 60)) → (gRX B l al bo ac = -5 ∨ gRX B l al bo ac = -6 ∨ gRX B l al bo ac = -7 ∨ (0 ≤ gRX B l al bo ac ∧ gRX B l al bo ac < 60))
  | [], al, bo, ac, _, hb => by
    simp only [gRX]
    repeat' split
    all_goals omega
  | m :: l, al, bo, ac, hl, hb => by
    have hm := hl m (by simp)
    simp only [gRX]
    split
    · exact gRX_r l al bo ac (fun x hx => hl x (by simp [hx])) hb
    · split
      · omega
      · exact gRX_r l _ _ _ (fun x hx => hl x (by simp [hx])) (by split <;> omega)
theorem gSt_r {B : zS} : ∀ (l : List Int), (∀ m, m ∈ l → 0 ≤ m ∧ m < 60) → (gSt B l = -5 ∨ (0 ≤ gSt B l ∧ gSt B l < 60))
  | [], _ => Or.inl rfl
  | m :: l, hl => by
    have hm := hl m (by simp)
    simp only [gSt]
    split
    · omega
    · exact gSt_r l (fun x hx => hl x (by simp [hx]))
theorem gFs_r {B : zS} {l0 : List Int} : ∀ (l : List Int), (∀ m, m ∈ l → 0 ≤ m ∧ m < 60) → (gFs B l0 l = -4 ∨ (0 ≤ gFs B l0 l ∧ gFs B l0 l < 60))
  | [], _ => Or.inl rfl
  | m :: l, hl => by
    have hm := hl m (by simp)
    simp only [gFs]
    split
    · omega
    · exact gFs_r l (fun x hx => hl x (by simp [hx]))
theorem rX_60 {σ : zS} {n t : Int} (hB : Bd (bX σ)) (hr : rOK σ n t) : ∀ m, m ∈ rX σ n t → 0 ≤ m ∧ m < 60 := by
  intro m hm
  have h1 := hr.2.2.2 m hm
  have h2 : m < σ 2 0 := h1.2.1
  have hnn : _ ∧ _ ∧ _ ∧ σ 2 0 ≤ 60 := hB.n
  omega
section X13
variable {σ : zS} {Q : Int → zS → Prop}
set_option maxRecDepth 100000 in
theorem x_addOwn_loop {σ1 : zS} {t n o : Int} (hB : Bd (bX σ1)) (o0 : 0 ≤ o) (o1 : o < 60) (hg0 : 0 ≤ σ1 3 6) (hg1 : σ1 3 6 ≤ 15) (hv : ∀ m, m ∈ gX σ1 → 0 ≤ m ∧ m < 60) (hf : 0 ≤ σ1 4 5) (hf1 : σ1 4 5 + 15 ≤ 174)
    (h : ∀ σ', zsm [4, 29, 30] σ1 σ' → 0 ≤ σ' 4 5 → fX σ' = fX σ1 ++ (gX σ1).flatMap (fun g => gIf (gFa (bX σ1) o g) o) → Q 0 σ') :
    ∀ (k : Nat) (i : Int) (σ2 : zS), 0 ≤ i → i ≤ σ1 3 6 → (σ1 3 6 - i).toNat = k → zsm [4, 29, 30] σ1 σ2 → 0 ≤ σ2 4 5 → σ2 4 5 ≤ σ1 4 5 + i → fX σ2 = fX σ1 ++ (zl (σ1 28) i).flatMap (fun g => gIf (gFa (bX σ1) o g) o) →
      zV 5 zF Q 47 [some (.inr 4), some (.inl t), some (.inl n), some (.inl o), some (.inl i)] [] σ2 := by
  intro k
  induction k with
  | zero =>
    intro i σ2 i0 i1 ik hs hc0 hc1 hfx
    have e3 : σ2 3 = σ1 3 := hs 3 (by decide)
    refine zv_5 200 ?_
    simp only [zs_5_0, zs_5_1, zs_5_4, zs_5_7, zs_5_8, zs_5_9, zs_5_10, zs_5_13, zs_5_14, zs_5_15, zs_5_18, zs_5_21, zs_5_22, zs_5_23, zs_5_26, zs_5_29, zs_5_30, zs_5_31, zs_5_32, zs_5_35, zs_5_36, zs_5_39, zs_5_40, zs_5_41, zs_5_44, zs_5_45, zs_5_47, zs_5_49, zs_5_50, zs_5_53, zs_5_56, zs_5_59, zs_5_60, zs_5_61, zs_5_62, zs_5_63, zs_5_66, zs_5_69, zs_5_71, zs_5_72, zs_5_75, zs_5_76, zs_5_79, zs_5_82, zs_5_85, zs_5_47h, za_18, za_28, za_6, zg_1_1, zg_2_2, zg_3_5, zg_3_6, zg_4_0, zg_4_1, zg_4_2, zrc_21, zrc_4, zrc_7, zli_0, zli_s, zlr_0, zlr_s, zls_0, zls_s, z1i_e, z2i_e, z1r_e, zir_e, ziir_e, z1v_e, z2v_e, zone_e, znil_e, zsp_0, zsp_s, zlz_0, zlz_1, zlz_2, zlz_3, zlz_4, zswp_0, zswp_s, true_and, and_true, implies_true, true_or, or_true, Int.reduceEq, Int.reduceLT, Int.reduceLE, Int.reduceNeg, not_true_eq_false, not_false_eq_true, false_implies, true_implies, zr_e, zwr_o, zwr_s, Nat.reduceEqDiff]
    rw [e3]
    refine ⟨by omega, by omega, fun a => h σ2 hs hc0 ?_, fun a => by omega⟩
    rw [hfx, show i = σ1 3 6 by omega]
    rfl
  | succ k ih =>
    intro i σ2 i0 i1 ik hs hc0 hc1 hfx
    have e3 : σ2 3 = σ1 3 := hs 3 (by decide)
    have e28 : σ2 28 = σ1 28 := hs 28 (by decide)
    have eB : bX σ2 = bX σ1 := bX_sm hs (by decide)
    have hm := hv (σ1 28 i) (zl_mem.mpr ⟨i, i0, by omega, rfl⟩)
    refine zv_5 200 ?_
    simp only [zs_5_0, zs_5_1, zs_5_4, zs_5_7, zs_5_8, zs_5_9, zs_5_10, zs_5_13, zs_5_14, zs_5_15, zs_5_18, zs_5_21, zs_5_22, zs_5_23, zs_5_26, zs_5_29, zs_5_30, zs_5_31, zs_5_32, zs_5_35, zs_5_36, zs_5_39, zs_5_40, zs_5_41, zs_5_44, zs_5_45, zs_5_47, zs_5_49, zs_5_50, zs_5_53, zs_5_56, zs_5_59, zs_5_60, zs_5_61, zs_5_62, zs_5_63, zs_5_66, zs_5_69, zs_5_71, zs_5_72, zs_5_75, zs_5_76, zs_5_79, zs_5_82, zs_5_85, zs_5_47h, za_18, za_28, za_6, zg_1_1, zg_2_2, zg_3_5, zg_3_6, zg_4_0, zg_4_1, zg_4_2, zrc_21, zrc_4, zrc_7, zli_0, zli_s, zlr_0, zlr_s, zls_0, zls_s, z1i_e, z2i_e, z1r_e, zir_e, ziir_e, z1v_e, z2v_e, zone_e, znil_e, zsp_0, zsp_s, zlz_0, zlz_1, zlz_2, zlz_3, zlz_4, zswp_0, zswp_s, true_and, and_true, implies_true, true_or, or_true, Int.reduceEq, Int.reduceLT, Int.reduceLE, Int.reduceNeg, not_true_eq_false, not_false_eq_true, false_implies, true_implies, zr_e, zwr_o, zwr_s, Nat.reduceEqDiff]
    rw [e3, e28]
    refine ⟨by omega, by omega, fun a => by omega, fun a => ⟨by omega, by omega, ?_⟩⟩
    refine x_faultAgainst (by rw [eB]; exact hB) o0 o1 hm.1 hm.2 ?_
    have hz : zr (gFa (bX σ2) o (σ1 28 i)) := by
      unfold gFa
      repeat' split
      all_goals exact ⟨by decide, by decide⟩
    refine x_addIfAny hz hc0 (by omega) ?_
    intro σ3 hs3 hc3 hfx3
    have hl : (σ3 4 5 : Int) ≤ σ2 4 5 + 1 := by
      have h1 : ((fX σ3).length : Int) = σ3 4 5 := zl2_len hc3
      have h2 : ((fX σ2).length : Int) = σ2 4 5 := zl2_len hc0
      have h3 := gIf_len (gFa (bX σ2) o (σ1 28 i)) o
      rw [hfx3, List.length_append] at h1
      omega
    refine ih (i + 1) σ3 (by omega) (by omega) (by omega) (zsm_tr hs hs3 (by decide)) hc3 (by omega) ?_
    rw [hfx3, hfx, zl_s i0, List.flatMap_append, eB, List.append_assoc]
    simp
set_option maxRecDepth 100000 in
theorem x_addOwn {t n : Int} (hB : Bd (bX σ)) (h0 : 0 ≤ t) (h1 : t < 16) (h2 : 0 ≤ n) (h3 : n < 10) (ho : ¬ σ 24 (10 * t + n) = -4) (hr : ∀ p, 0 ≤ p → p < t → rOK σ n p) (hf : 0 ≤ σ 4 5) (hf1 : σ 4 5 + 16 ≤ 174)
    (h : ∀ σ', zsm [3, 4, 28, 29, 30] σ σ' → 0 ≤ σ' 4 5 → fX σ' = fX σ ++ gFo (bX σ) (rX σ n) t n → Q 0 σ') : zM 5 zF [.inr 4, .inl t, .inl n, .inl (σ 24 (10 * t + n))] σ Q := by
  have hnn : 1 ≤ σ 1 0 ∧ σ 1 0 ≤ 16 ∧ 3 ≤ σ 2 0 ∧ σ 2 0 ≤ 60 := hB.n
  have how : σ 24 (10 * t + n) = -4 ∨ (0 ≤ σ 24 (10 * t + n) ∧ σ 24 (10 * t + n) < σ 2 0) := hB.ow (10 * t + n) (by omega) (by omega)
  have hfo : gFo (bX σ) (rX σ n) t n = gIf (if σ 6 t = 2 ∧ gAR n (σ 18 (σ 24 (10 * t + n))) then 1 else 0) (σ 24 (10 * t + n)) ++ (gGiv (bX σ) (rX σ n) t).flatMap (fun g => gIf (gFa (bX σ) (σ 24 (10 * t + n)) g) (σ 24 (10 * t + n))) := rfl
  rw [hfo] at h
  generalize σ 24 (10 * t + n) = o at *
  have hob := mB (m := o) hB (by omega) (by omega)
  have hk : 0 ≤ σ 6 t ∧ σ 6 t ≤ 2 := hB.kind t h0 h1
  -- behind the first fault
  have rest : ∀ σ1, zsm [4, 29, 30] σ σ1 → 0 ≤ σ1 4 5 → σ1 4 5 ≤ σ 4 5 + 1 → fX σ1 = fX σ ++ gIf (if σ 6 t = 2 ∧ gAR n (σ 18 o) then 1 else 0) o → zM 21 zF [.inr 3, .inl t, .inl n] σ1 fun _ σ' => zV 5 zF Q 47 [some (.inr 4), some (.inl t), some (.inl n), some (.inl o), some (.inl 0)] [] σ' := by
    intro σ1 hs hc0 hc1 hfx
    have eB : bX σ1 = bX σ := bX_sm hs (by decide)
    have er : rX σ1 = rX σ := rX_sm hs (by decide) (by decide)
    refine x_gather (by rw [eB]; exact hB) h0 h1 h2 h3 (fun p p0 p1 => rOK_sm hs (by decide) (by decide) (by decide) (hr p p0 p1)) ?_
    intro σ2 hs2 hg0 hg hgv
    have eB2 : bX σ2 = bX σ := by rw [bX_sm hs2 (by decide), eB]
    rw [eB, er] at hg
    rw [eB] at hgv
    have hlen := gV_len hgv h0 hB
    have hcl : (gX σ2).length = σ2 3 6 := zl_len hg0
    have e4 : σ2 4 = σ1 4 := hs2 4 (by decide)
    have e29 : fX σ2 = fX σ1 := by simp only [fX, e4, hs2 29 (by decide), hs2 30 (by decide)]
    refine x_addOwn_loop (by rw [eB2]; exact hB) (by omega) (by omega) hg0 (by omega) (fun m hm => by have := hgv.2 m hm; have h5 : m < σ 2 0 := this.2.1; omega) (by rw [e4]; exact hc0) (by rw [e4]; omega) ?_ _ 0 σ2 (by omega) hg0 rfl zsm_rf (by rw [e4]; exact hc0) (by omega) (by rw [zl_0 (by omega)]; simp)
    intro σ3 hs3 hc3 hfx3
    refine h σ3 (zsm_tr (zsm_tr (zsm_tr zsm_rf hs (L := [3, 4, 28, 29, 30]) (by decide)) hs2 (by decide)) hs3 (by decide)) hc3 ?_
    rw [hfx3, e29, hfx, eB2, hg, List.append_assoc]
  refine ze_5 200 ?_
  simp only [zs_5_0, zs_5_1, zs_5_4, zs_5_7, zs_5_8, zs_5_9, zs_5_10, zs_5_13, zs_5_14, zs_5_15, zs_5_18, zs_5_21, zs_5_22, zs_5_23, zs_5_26, zs_5_29, zs_5_30, zs_5_31, zs_5_32, zs_5_35, zs_5_36, zs_5_39, zs_5_40, zs_5_41, zs_5_44, zs_5_45, zs_5_47, zs_5_49, zs_5_50, zs_5_53, zs_5_56, zs_5_59, zs_5_60, zs_5_61, zs_5_62, zs_5_63, zs_5_66, zs_5_69, zs_5_71, zs_5_72, zs_5_75, zs_5_76, zs_5_79, zs_5_82, zs_5_85, za_18, za_28, za_6, zg_1_1, zg_2_2, zg_3_5, zg_3_6, zg_4_0, zg_4_1, zg_4_2, zrc_21, zrc_4, zrc_7, zli_0, zli_s, zlr_0, zlr_s, zls_0, zls_s, z1i_e, z2i_e, z1r_e, zir_e, ziir_e, z1v_e, z2v_e, zone_e, znil_e, zsp_0, zsp_s, zlz_0, zlz_1, zlz_2, zlz_3, zlz_4, zswp_0, zswp_s, true_and, and_true, implies_true, true_or, or_true, Int.reduceEq, Int.reduceLT, Int.reduceLE, Int.reduceNeg, not_true_eq_false, not_false_eq_true, false_implies, true_implies, zr_e, zwr_o, zwr_s, Nat.reduceEqDiff]
  refine ⟨h0, h1, by omega, fun a => ?_, fun a => ⟨by omega, by omega, ?_⟩⟩
  · refine rest σ zsm_rf hf (by omega) ?_
    rw [if_neg (fun z => a z.1), gIf, if_pos rfl, List.append_nil]
  · refine x_againstRoot ⟨by omega, by omega⟩ ⟨by omega, by omega⟩ (fun b => ?_) (fun b => ?_)
    · simp only [zs_5_0, zs_5_1, zs_5_4, zs_5_7, zs_5_8, zs_5_9, zs_5_10, zs_5_13, zs_5_14, zs_5_15, zs_5_18, zs_5_21, zs_5_22, zs_5_23, zs_5_26, zs_5_29, zs_5_30, zs_5_31, zs_5_32, zs_5_35, zs_5_36, zs_5_39, zs_5_40, zs_5_41, zs_5_44, zs_5_45, zs_5_47, zs_5_49, zs_5_50, zs_5_53, zs_5_56, zs_5_59, zs_5_60, zs_5_61, zs_5_62, zs_5_63, zs_5_66, zs_5_69, zs_5_71, zs_5_72, zs_5_75, zs_5_76, zs_5_79, zs_5_82, zs_5_85, za_18, za_28, za_6, zg_1_1, zg_2_2, zg_3_5, zg_3_6, zg_4_0, zg_4_1, zg_4_2, zrc_21, zrc_4, zrc_7, zli_0, zli_s, zlr_0, zlr_s, zls_0, zls_s, z1i_e, z2i_e, z1r_e, zir_e, ziir_e, z1v_e, z2v_e, zone_e, znil_e, zsp_0, zsp_s, zlz_0, zlz_1, zlz_2, zlz_3, zlz_4, zswp_0, zswp_s, true_and, and_true, implies_true, true_or, or_true, Int.reduceEq, Int.reduceLT, Int.reduceLE, Int.reduceNeg, not_true_eq_false, not_false_eq_true, false_implies, true_implies, zr_e, zwr_o, zwr_s, Nat.reduceEqDiff]
      refine x_addIfAny ⟨by decide, by decide⟩ hf (by omega) ?_
      intro σ1 hs1 hc1 hfx1
      refine rest σ1 hs1 hc1 ?_ ?_
      · have h1 : ((fX σ1).length : Int) = σ1 4 5 := zl2_len hc1
        have h2 : ((fX σ).length : Int) = σ 4 5 := zl2_len hf
        have h3 := gIf_len 1 o
        rw [hfx1, List.length_append] at h1
        omega
      · rw [hfx1, if_pos ⟨a, b⟩]
    · simp only [zs_5_0, zs_5_1, zs_5_4, zs_5_7, zs_5_8, zs_5_9, zs_5_10, zs_5_13, zs_5_14, zs_5_15, zs_5_18, zs_5_21, zs_5_22, zs_5_23, zs_5_26, zs_5_29, zs_5_30, zs_5_31, zs_5_32, zs_5_35, zs_5_36, zs_5_39, zs_5_40, zs_5_41, zs_5_44, zs_5_45, zs_5_47, zs_5_49, zs_5_50, zs_5_53, zs_5_56, zs_5_59, zs_5_60, zs_5_61, zs_5_62, zs_5_63, zs_5_66, zs_5_69, zs_5_71, zs_5_72, zs_5_75, zs_5_76, zs_5_79, zs_5_82, zs_5_85, za_18, za_28, za_6, zg_1_1, zg_2_2, zg_3_5, zg_3_6, zg_4_0, zg_4_1, zg_4_2, zrc_21, zrc_4, zrc_7, zli_0, zli_s, zlr_0, zlr_s, zls_0, zls_s, z1i_e, z2i_e, z1r_e, zir_e, ziir_e, z1v_e, z2v_e, zone_e, znil_e, zsp_0, zsp_s, zlz_0, zlz_1, zlz_2, zlz_3, zlz_4, zswp_0, zswp_s, true_and, and_true, implies_true, true_or, or_true, Int.reduceEq, Int.reduceLT, Int.reduceLE, Int.reduceNeg, not_true_eq_false, not_false_eq_true, false_implies, true_implies, zr_e, zwr_o, zwr_s, Nat.reduceEqDiff]
      refine rest σ zsm_rf hf (by omega) ?_
      rw [if_neg (fun z => b z.2), gIf, if_pos rfl, List.append_nil]
theorem fX_len {σ' : zS} {L : List (Int × Int)} (h0 : 0 ≤ σ 4 5) (h1 : 0 ≤ σ' 4 5) (h : fX σ' = fX σ ++ L) : σ' 4 5 = σ 4 5 + L.length := by
  have a1 : ((fX σ').length : Int) = σ' 4 5 := zl2_len h1
  have a2 : ((fX σ).length : Int) = σ 4 5 := zl2_len h0
  rw [h, List.length_append] at a1
  omega
set_option maxRecDepth 100000 in
theorem x_addInherited {t n : Int} (hB : Bd (bX σ)) (h0 : 0 ≤ t) (h1 : t < 16) (h2 : 0 ≤ n) (h3 : n < 10) (hr : rOK σ n t) (hf : 0 ≤ σ 4 5) (hf1 : σ 4 5 + 3 ≤ 174)
    (h : ∀ σ', zsm [4, 29, 30] σ σ' → 0 ≤ σ' 4 5 → fX σ' = fX σ ++ gFi (bX σ) (rX σ n t) t n → Q 0 σ') : zM 8 zF [.inr 4, .inl t, .inl n] σ Q := by
  have hk : 0 ≤ σ 6 t ∧ σ 6 t ≤ 2 := hB.kind t h0 h1
  have hlen : ((rX σ n t).length : Int) = σ 26 (n * 16 + t) := zl_len hr.1
  have hrz := gRX_r (B := bX σ) (rX σ n t) 0 (-4) 0 (rX_60 hB hr) (Or.inl rfl)
  have hfz := gFs_r (B := bX σ) (l0 := rX σ n t) (rX σ n t) (rX_60 hB hr)
  unfold gFi at h
  have gi : ∀ c : Int, gIf 0 c = [] := fun c => rfl
  -- the last fault
  have last : ∀ σ1, zsm [4, 29, 30] σ σ1 → 0 ≤ σ1 4 5 → σ1 4 5 ≤ σ 4 5 + 2 → ∀ P, fX σ1 = fX σ ++ P → P = gIf (if 2 ≤ ((rX σ n t).length : Int) ∧ gFs (bX σ) (rX σ n t) (rX σ n t) = -4 then 6 else 0) n ++ gIf (if gRX (bX σ) (rX σ n t) 0 (-4) 0 = -6 then 7 else 0) n →
      (¬ gRX (bX σ) (rX σ n t) 0 (-4) 0 = -7 → Q 0 σ1) ∧ (gRX (bX σ) (rX σ n t) 0 (-4) 0 = -7 → 0 ≤ t ∧ t < 16 ∧ (-2147483648 ≤ σ1 6 t ∧ σ1 6 t < 2147483648) ∧ (¬ σ1 6 t = 0 → Q 0 σ1) ∧ (σ1 6 t = 0 → zM 4 zF [.inr 4, .inl 8, .inl n] σ1 fun _ σ' => Q 0 σ')) := by
    intro σ1 hs hc0 hc1 P hP eP
    have e6 : σ1 6 = σ 6 := hs 6 (by decide)
    subst eP
    rw [e6]
    refine ⟨fun a => h σ1 hs hc0 ?_, fun a => ⟨h0, h1, by omega, fun b => h σ1 hs hc0 ?_, fun b => ?_⟩⟩
    · rw [hP, if_neg (c := gRX (bX σ) (rX σ n t) 0 (-4) 0 = -7 ∧ bX σ 0 t = 0) (fun z => a z.1), gi, List.append_nil]
    · rw [hP, if_neg (c := gRX (bX σ) (rX σ n t) 0 (-4) 0 = -7 ∧ bX σ 0 t = 0) (fun z => b z.2), gi, List.append_nil]
    · refine x_addIfAny ⟨by decide, by decide⟩ hc0 (by omega) ?_
      intro σ2 hs2 hc2 hf2
      refine h σ2 (zsm_tr hs hs2 (by decide)) hc2 ?_
      rw [hf2, hP, if_pos (c := gRX (bX σ) (rX σ n t) 0 (-4) 0 = -7 ∧ bX σ 0 t = 0) ⟨a, b⟩, List.append_assoc, List.append_assoc]
  have mid : ∀ σ1, zsm [4, 29, 30] σ σ1 → 0 ≤ σ1 4 5 → σ1 4 5 ≤ σ 4 5 + 1 → fX σ1 = fX σ ++ gIf (if 2 ≤ ((rX σ n t).length : Int) ∧ gFs (bX σ) (rX σ n t) (rX σ n t) = -4 then 6 else 0) n →
      zM 25 zF [.inr 3, .inl t, .inl n] σ1 fun r σ' =>
            (-2147483648 ≤ r ∧ r < 2147483648) ∧
              (¬ r = -6 →
                  (-2147483648 ≤ r ∧ r < 2147483648) ∧
                    (¬ r = -7 → Q 0 σ') ∧
                      (r = -7 →
                        0 ≤ t ∧
                          t < 16 ∧
                            (-2147483648 ≤ σ' 6 t ∧ σ' 6 t < 2147483648) ∧
                              (¬ σ' 6 t = 0 → Q 0 σ') ∧
                                (σ' 6 t = 0 → zM 4 zF [.inr 4, .inl 8, .inl n] σ' fun _ σ' => Q 0 σ'))) ∧
                (r = -6 →
                  zM 4 zF [.inr 4, .inl 7, .inl n] σ' fun _ σ' =>
                    (-2147483648 ≤ r ∧ r < 2147483648) ∧
                      (¬ r = -7 → Q 0 σ') ∧
                        (r = -7 →
                          0 ≤ t ∧
                            t < 16 ∧
                              (-2147483648 ≤ σ' 6 t ∧ σ' 6 t < 2147483648) ∧
                                (¬ σ' 6 t = 0 → Q 0 σ') ∧
                                  (σ' 6 t = 0 → zM 4 zF [.inr 4, .inl 8, .inl n] σ' fun _ σ' => Q 0 σ'))) := by
    intro σ1 hs hc0 hc1 hfx
    have eB : bX σ1 = bX σ := bX_sm hs (by decide)
    have er : rX σ1 = rX σ := rX_sm hs (by decide) (by decide)
    refine x_runner (by rw [eB]; exact hB) h0 h1 h2 h3 (rOK_sm hs (by decide) (by decide) (by decide) hr) ?_
    rw [eB, er]
    refine ⟨by omega, fun a => ⟨by omega, ?_⟩, fun a => ?_⟩
    · exact last σ1 hs hc0 (by omega) _ hfx (by rw [if_neg a, gi, List.append_nil])
    · refine x_addIfAny ⟨by decide, by decide⟩ hc0 (by omega) ?_
      intro σ2 hs2 hc2 hf2
      have hl := fX_len hc0 hc2 hf2
      have hl2 := gIf_len 7 n
      refine ⟨by omega, ?_⟩
      refine last σ2 (zsm_tr hs hs2 (by decide)) hc2 (by omega) _ (by rw [hf2, hfx, List.append_assoc]) (by rw [if_pos a])
  refine ze_8 200 ?_
  simp only [zs_8_0, zs_8_1, zs_8_4, zs_8_5, zs_8_6, zs_8_9, zs_8_10, zs_8_13, zs_8_14, zs_8_17, zs_8_18, zs_8_19, zs_8_22, zs_8_24, zs_8_27, zs_8_28, zs_8_30, zs_8_31, zs_8_34, zs_8_35, zs_8_38, zs_8_39, zs_8_40, zs_8_43, zs_8_44, zs_8_45, zs_8_47, zs_8_50, zs_8_51, zs_8_53, zs_8_54, zs_8_57, zs_8_58, zs_8_60, zs_8_63, zs_8_64, zs_8_67, zs_8_70, zs_8_71, zs_8_72, zs_8_75, zs_8_76, zs_8_78, zs_8_79, zs_8_82, za_6, zg_1_1, zg_4_0, zg_4_2, zrc_17, zrc_25, zrc_29, zrc_4, zli_0, zli_s, zlr_0, zlr_s, zls_0, zls_s, z1i_e, z2i_e, z1r_e, zir_e, ziir_e, z1v_e, z2v_e, zone_e, znil_e, zsp_0, zsp_s, zlz_0, zlz_1, zlz_2, zlz_3, zlz_4, zswp_0, zswp_s, true_and, and_true, implies_true, true_or, or_true, Int.reduceEq, Int.reduceLT, Int.reduceLE, Int.reduceNeg, not_true_eq_false, not_false_eq_true, false_implies, true_implies, zr_e, zwr_o, zwr_s, Nat.reduceEqDiff]
  refine x_countOf h0 h1 h2 h3 ?_
  have hc2 := hr.2.1
  refine ⟨by omega, fun a => ?_, fun a => ?_⟩
  · refine mid σ zsm_rf hf (by omega) ?_
    rw [if_neg (fun z => by have := z.1; omega), gi, List.append_nil]
  · refine x_firstServing hB h0 h1 h2 h3 hr ?_
    refine ⟨by omega, fun b => ?_, fun b => ?_⟩
    · refine mid σ zsm_rf hf (by omega) ?_
      rw [if_neg (fun z => b z.2), gi, List.append_nil]
    · refine x_addIfAny ⟨by decide, by decide⟩ hf (by omega) ?_
      intro σ1 hs1 hc1 hf1'
      have hl := fX_len hf hc1 hf1'
      have hl2 := gIf_len 6 n
      refine mid σ1 hs1 hc1 (by omega) ?_
      rw [hf1', if_pos ⟨by omega, b⟩]
end X13
