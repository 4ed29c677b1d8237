theorem AXt_congr {σ σ1 : zS} {u : Int} (hpc : gPc (bX σ1) u = gPc (bX σ) u) (hpa : ∀ j, 0 ≤ j → j < gPc (bX σ) u → gPa (bX σ1) u j = gPa (bX σ) u j) (h12 : σ1 12 = σ 12) (h13 : σ1 13 = σ 13) (h : AXt σ u) : AXt σ1 u := by
  unfold AXt at h ⊢
  rw [hpc, h12, h13]
  have e1 : gOr (fun j => σ 12 (gPa (bX σ1) u j)) (gPc (bX σ) u).toNat = gOr (fun j => σ 12 (gPa (bX σ) u j)) (gPc (bX σ) u).toNat := gOr_congr (fun i a b => by rw [hpa i a (by omega)])
  have e2 : gOr (fun j => zshl 1 (gPa (bX σ1) u j)) (gPc (bX σ) u).toNat = gOr (fun j => zshl 1 (gPa (bX σ) u j)) (gPc (bX σ) u).toNat := gOr_congr (fun i a b => by rw [hpa i a (by omega)])
  rw [e1, e2]
  exact h
theorem gPc_type {B : zS} {k u : Int} (h : u < B 16 0) : gPc (oType B k) u = gPc B u := by
  simp only [gPc, oType]
  rw [if_neg (show ¬ u = B 16 0 by omega)]
theorem gPa_type {B : zS} {k u j : Int} (h : u < B 16 0) : gPa (oType B k) u j = gPa B u j := by
  simp only [gPa, oType]
  rw [if_neg (show ¬ u = B 16 0 by omega)]
theorem gPc_ext {B : zS} {t s u : Int} : gPc (oExt B t s) u = gPc B u := rfl
theorem gPa_ext {B : zS} {t s u j : Int} (h : ¬ u = t) : gPa (oExt B t s) u j = gPa B u j := by
  simp only [gPa, oExt]
  rw [if_neg h]
theorem gPc_face {B : zS} {t f u : Int} (h : ¬ u = t) : gPc (oFace B t f) u = gPc B u := by
  simp only [gPc, oFace]
  rw [if_neg h]
theorem gPa_face {B : zS} (hB : Bd B) {t f u j : Int} (h : ¬ u = t) (h0 : 0 ≤ u) (h1 : u < 16) (h2 : 0 ≤ t) (h3 : t < 16) (h4 : B 2 t < 4) (h5 : 0 ≤ j) (h6 : j < gPc B u) : gPa (oFace B t f) u j = gPa B u j := by
  have hc := hB.fc u h0 h1
  have ht := hB.fc t h2 h3
  unfold gPc at h6
  simp only [gPa, oFace]
  by_cases a : u = 0 ∨ B 0 u = 2
  · rw [if_pos a] at h6
    rw [if_pos a, if_pos a, if_neg (by omega)]
  · rw [if_neg a] at h6
    rw [if_neg a, if_neg a]
    by_cases c : j = 0
    · rw [if_pos c, if_pos c]
    · rw [if_neg c, if_neg c, if_neg (by omega)]
theorem bX_type {σ : zS} {k : Int} : bX (zwr (zwr σ 6 (σ 1 0) k) 1 0 (σ 1 0 + 1)) = oType (bX σ) k := by
  funext c i
  match c with
  | 0 => simp [bX, bM, oType, zwr]
  | 1 => simp [bX, bM, oType, zwr]
  | 2 => simp [bX, bM, oType, zwr]
  | 3 => simp [bX, bM, oType, zwr]
  | 4 => simp [bX, bM, oType, zwr]
  | 5 => simp [bX, bM, oType, zwr]
  | 6 => simp [bX, bM, oType, zwr]
  | 7 => simp [bX, bM, oType, zwr]
  | 8 => simp [bX, bM, oType, zwr]
  | 9 => simp [bX, bM, oType, zwr]
  | 10 => simp [bX, bM, oType, zwr]
  | 11 => simp [bX, bM, oType, zwr]
  | 12 => simp [bX, bM, oType, zwr]
  | 13 => simp [bX, bM, oType, zwr]
  | 14 => simp [bX, bM, oType, zwr]
  | 15 => simp [bX, bM, oType, zwr]
  | 16 => simp [bX, bM, oType, zwr]
  | 17 => simp [bX, bM, oType, zwr]
  | n + 18 => rfl
theorem bX_ext {σ : zS} {t s : Int} : bX (zwr σ 7 t s) = oExt (bX σ) t s := by
  funext c i
  match c with
  | 0 => simp [bX, bM, oExt, zwr]
  | 1 => simp [bX, bM, oExt, zwr]
  | 2 => simp [bX, bM, oExt, zwr]
  | 3 => simp [bX, bM, oExt, zwr]
  | 4 => simp [bX, bM, oExt, zwr]
  | 5 => simp [bX, bM, oExt, zwr]
  | 6 => simp [bX, bM, oExt, zwr]
  | 7 => simp [bX, bM, oExt, zwr]
  | 8 => simp [bX, bM, oExt, zwr]
  | 9 => simp [bX, bM, oExt, zwr]
  | 10 => simp [bX, bM, oExt, zwr]
  | 11 => simp [bX, bM, oExt, zwr]
  | 12 => simp [bX, bM, oExt, zwr]
  | 13 => simp [bX, bM, oExt, zwr]
  | 14 => simp [bX, bM, oExt, zwr]
  | 15 => simp [bX, bM, oExt, zwr]
  | 16 => simp [bX, bM, oExt, zwr]
  | 17 => simp [bX, bM, oExt, zwr]
  | n + 18 => rfl
theorem bX_face {σ : zS} {t f : Int} : bX (zwr (zwr σ 11 (4 * t + σ 8 t) f) 8 t (σ 8 t + 1)) = oFace (bX σ) t f := by
  funext c i
  match c with
  | 0 => simp [bX, bM, oFace, zwr]
  | 1 => simp [bX, bM, oFace, zwr]
  | 2 => simp [bX, bM, oFace, zwr]
  | 3 => simp [bX, bM, oFace, zwr]
  | 4 => simp [bX, bM, oFace, zwr]
  | 5 => simp [bX, bM, oFace, zwr]
  | 6 => simp [bX, bM, oFace, zwr]
  | 7 => simp [bX, bM, oFace, zwr]
  | 8 => simp [bX, bM, oFace, zwr]
  | 9 => simp [bX, bM, oFace, zwr]
  | 10 => simp [bX, bM, oFace, zwr]
  | 11 => simp [bX, bM, oFace, zwr]
  | 12 => simp [bX, bM, oFace, zwr]
  | 13 => simp [bX, bM, oFace, zwr]
  | 14 => simp [bX, bM, oFace, zwr]
  | 15 => simp [bX, bM, oFace, zwr]
  | 16 => simp [bX, bM, oFace, zwr]
  | 17 => simp [bX, bM, oFace, zwr]
  | n + 18 => rfl
section X3
variable {σ : zS} {Q : Int → zS → Prop}
set_option maxRecDepth 100000 in
theorem x_append {k : Int} (hB : Bd (bX σ)) (hA : ∀ u, 0 ≤ u → u < σ 1 0 → AXt σ u) (h1 : σ 1 0 < 16) (h2 : 0 ≤ k) (h3 : k ≤ 2) (h : ∀ σ', zsm [1, 6, 12, 13] σ σ' → bX σ' = oType (bX σ) k → (∀ u, 0 ≤ u → u < σ' 1 0 → AXt σ' u) → Q (σ 1 0) σ') : zM 40 zF [.inr 1, .inl k] σ Q := by
  have hn : 1 ≤ σ 1 0 ∧ σ 1 0 ≤ 16 ∧ _ := hB.n
  have e := bX_type (σ := σ) (k := k)
  refine ze_40 100 ?_
  simp only [zs_40_0, zs_40_1, zs_40_4, zs_40_5, zs_40_6, zs_40_9, zs_40_10, zs_40_11, zs_40_12, zs_40_13, zs_40_14, zs_40_17, zs_40_18, zs_40_19, zs_40_22, zs_40_23, zs_40_24, zs_40_27, zs_40_28, za_6, zg_1_0, zg_1_1, zp_1_0, zrc_51, zli_0, zli_s, zlr_0, zlr_s, zls_0, zls_s, z1i_e, z2i_e, z1r_e, zir_e, ziir_e, z1v_e, z2v_e, zone_e, znil_e, zsp_0, zsp_s, zlz_0, zlz_1, zlz_2, zlz_3, zlz_4, zswp_0, zswp_s, true_and, and_true, implies_true, true_or, or_true, Int.reduceEq, Int.reduceLT, Int.reduceLE, Int.reduceNeg, not_true_eq_false, not_false_eq_true, false_implies, true_implies, zr_e, zwr_o, zwr_s, Nat.reduceEqDiff]
  refine ⟨by omega, by omega, ?_⟩
  refine x_settle (by rw [e]; exact Bd_type hB h1 h2 h3) (by omega) (by simp [zwr]; omega) ?_ ?_
  · intro u a b
    refine AXt_congr ?_ ?_ ?_ ?_ (hA u a b)
    · rw [e]; exact gPc_type b
    · intro j _ _; rw [e]; exact gPa_type b
    · rw [zwr_o (by decide), zwr_o (by decide)]
    · rw [zwr_o (by decide), zwr_o (by decide)]
  · intro σ' hs hA'
    have e1 : σ' 1 = (zwr (zwr σ 6 (σ 1 0) k) 1 0 (σ 1 0 + 1)) 1 := hs 1 (by decide)
    refine h σ' (zsm_tr (zsm_wr (zsm_wr zsm_rf (by decide)) (by decide)) hs (by decide)) ?_ ?_
    · rw [bX_sm hs (by decide)]; exact e
    · rw [e1]; exact hA'
set_option maxRecDepth 100000 in
theorem x_changeSuper {t s : Int} (hB : Bd (bX σ)) (hA : ∀ u, 0 ≤ u → u < σ 1 0 → AXt σ u) (h1 : 0 < t) (h2 : t < σ 1 0) (h3 : 0 ≤ s) (h4 : s < t) (h : ∀ σ', zsm [7, 12, 13] σ σ' → bX σ' = oExt (bX σ) t s → (∀ u, 0 ≤ u → u < σ' 1 0 → AXt σ' u) → Q (σ 7 t) σ') : zM 41 zF [.inr 1, .inl t, .inl s] σ Q := by
  have hn : 1 ≤ σ 1 0 ∧ σ 1 0 ≤ 16 ∧ _ := hB.n
  have e := bX_ext (σ := σ) (t := t) (s := s)
  refine ze_41 100 ?_
  simp only [zs_41_0, zs_41_1, zs_41_4, zs_41_5, zs_41_6, zs_41_7, zs_41_8, zs_41_11, zs_41_12, zs_41_13, zs_41_14, zs_41_15, zs_41_16, zs_41_19, zs_41_20, za_7, zg_1_2, zrc_51, zli_0, zli_s, zlr_0, zlr_s, zls_0, zls_s, z1i_e, z2i_e, z1r_e, zir_e, ziir_e, z1v_e, z2v_e, zone_e, znil_e, zsp_0, zsp_s, zlz_0, zlz_1, zlz_2, zlz_3, zlz_4, zswp_0, zswp_s, true_and, and_true, implies_true, true_or, or_true, Int.reduceEq, Int.reduceLT, Int.reduceLE, Int.reduceNeg, not_true_eq_false, not_false_eq_true, false_implies, true_implies, zr_e, zwr_o, zwr_s, Nat.reduceEqDiff]
  refine ⟨by omega, by omega, by omega, by omega, ?_⟩
  refine x_settle (by rw [e]; exact Bd_ext hB h1 (by omega) h3 h4) (by omega) (by rw [zwr_o (by decide)]; omega) ?_ ?_
  · intro u a b
    refine AXt_congr ?_ ?_ ?_ ?_ (hA u a (by omega))
    · rw [e]; exact gPc_ext
    · intro j _ _; rw [e]; exact gPa_ext (by omega)
    · rw [zwr_o (by decide)]
    · rw [zwr_o (by decide)]
  · intro σ' hs hA'
    have e1 : σ' 1 = (zwr σ 7 t s) 1 := hs 1 (by decide)
    refine h σ' (zsm_tr (zsm_wr zsm_rf (by decide)) hs (by decide)) ?_ ?_
    · rw [bX_sm hs (by decide)]; exact e
    · rw [e1]; exact hA'
set_option maxRecDepth 100000 in
theorem x_appendFace {t f : Int} (hB : Bd (bX σ)) (hA : ∀ u, 0 ≤ u → u < σ 1 0 → AXt σ u) (h1 : 0 < t) (h2 : t < σ 1 0) (h3 : 0 ≤ f) (h4 : f < t) (h5 : σ 6 f = 2) (h6 : σ 8 t < 4) (h : ∀ σ', zsm [8, 11, 12, 13] σ σ' → bX σ' = oFace (bX σ) t f → (∀ u, 0 ≤ u → u < σ' 1 0 → AXt σ' u) → Q (σ 8 t + 1) σ') : zM 42 zF [.inr 1, .inl t, .inl f] σ Q := by
  have hn : 1 ≤ σ 1 0 ∧ σ 1 0 ≤ 16 ∧ _ := hB.n
  have hc : 0 ≤ σ 8 t ∧ σ 8 t ≤ 4 := hB.fc t (by omega) (by omega)
  have e := bX_face (σ := σ) (t := t) (f := f)
  refine ze_42 100 ?_
  simp only [zs_42_0, zs_42_1, zs_42_4, zs_42_5, zs_42_6, zs_42_7, zs_42_8, zs_42_11, zs_42_12, zs_42_13, zs_42_14, zs_42_15, zs_42_16, zs_42_17, zs_42_20, zs_42_21, zs_42_22, zs_42_23, zs_42_24, zs_42_25, zs_42_26, zs_42_27, zs_42_28, zs_42_31, zs_42_32, zs_42_35, zs_42_36, zs_42_37, za_11, za_8, zg_1_3, zg_1_6, zrc_51, zli_0, zli_s, zlr_0, zlr_s, zls_0, zls_s, z1i_e, z2i_e, z1r_e, zir_e, ziir_e, z1v_e, z2v_e, zone_e, znil_e, zsp_0, zsp_s, zlz_0, zlz_1, zlz_2, zlz_3, zlz_4, zswp_0, zswp_s, true_and, and_true, implies_true, true_or, or_true, Int.reduceEq, Int.reduceLT, Int.reduceLE, Int.reduceNeg, not_true_eq_false, not_false_eq_true, false_implies, true_implies, zr_e, zwr_o, zwr_s, Nat.reduceEqDiff]
  rw [Int.mul_comm t 4]
  refine ⟨by omega, by omega, by omega, by omega, by omega, by omega, by omega, by omega, ?_⟩
  refine x_settle (by rw [e]; exact Bd_face hB h1 h2 h3 h4 h5 h6) (by omega) (by rw [zwr_o (by decide), zwr_o (by decide)]; omega) ?_ ?_
  · intro u a b
    refine AXt_congr ?_ ?_ ?_ ?_ (hA u a (by omega))
    · rw [e]; exact gPc_face (by omega)
    · intro j a1 a2; rw [e]; exact gPa_face hB (by omega) a (by omega) (by omega) (by omega) h6 a1 a2
    · rw [zwr_o (by decide), zwr_o (by decide)]
    · rw [zwr_o (by decide), zwr_o (by decide)]
  · intro σ' hs hA'
    have e1 : σ' 1 = (zwr (zwr σ 11 (4 * t + σ 8 t) f) 8 t (σ 8 t + 1)) 1 := hs 1 (by decide)
    have e8 : σ' 8 = (zwr (zwr σ 11 (4 * t + σ 8 t) f) 8 t (σ 8 t + 1)) 8 := hs 8 (by decide)
    refine ⟨by omega, by omega, ?_⟩
    rw [e8, zwr_s]
    refine h σ' (zsm_tr (zsm_wr (zsm_wr zsm_rf (by decide)) (by decide)) hs (by decide)) ?_ ?_
    · rw [bX_sm hs (by decide)]; exact e
    · rw [e1]; exact hA'
set_option maxRecDepth 100000 in
theorem x_hasAncestor {t u : Int} (h2 : 0 ≤ t) (h3 : t < 16) (h4 : 0 ≤ u) (h5 : u < 16) (h1 : zbt (σ 12 t) u = true → Q 1 σ) (h0 : zbt (σ 12 t) u = false → Q 0 σ) : zM 48 zF [.inr 1, .inl t, .inl u] σ Q := by
  refine ze_48 100 ?_
  simp only [zs_48_0, zs_48_1, zs_48_4, zs_48_5, zs_48_6, zs_48_7, zs_48_8, zs_48_9, zs_48_10, zs_48_13, zs_48_14, zs_48_17, zs_48_18, za_12, zg_1_7, zli_0, zli_s, zlr_0, zlr_s, zls_0, zls_s, z1i_e, z2i_e, z1r_e, zir_e, ziir_e, z1v_e, z2v_e, zone_e, znil_e, zsp_0, zsp_s, zlz_0, zlz_1, zlz_2, zlz_3, zlz_4, zswp_0, zswp_s, true_and, and_true, implies_true, true_or, or_true, Int.reduceEq, Int.reduceLT, Int.reduceLE, Int.reduceNeg, not_true_eq_false, not_false_eq_true, false_implies, true_implies, zr_e, zwr_o, zwr_s, Nat.reduceEqDiff]
  rw [zand_shr h4 (by omega)]
  cases hb : zbt (σ 12 t) u with
  | true => simp only [if_true]; exact ⟨h2, h3, by omega, fun a => by omega, fun a => h1 hb⟩
  | false => simp only [Bool.false_eq_true, if_false]; exact ⟨h2, h3, by omega, fun a => h0 hb, fun a => absurd trivial a⟩
set_option maxRecDepth 100000 in
theorem x_hasAncP {t u : Int} (h2 : 0 ≤ t) (h3 : t < 16) (h4 : 0 ≤ u) (h5 : u < 16) (h1 : zbt (σ 13 t) u = true → Q 1 σ) (h0 : zbt (σ 13 t) u = false → Q 0 σ) : zM 49 zF [.inr 1, .inl t, .inl u] σ Q := by
  refine ze_49 100 ?_
  simp only [zs_49_0, zs_49_1, zs_49_4, zs_49_5, zs_49_6, zs_49_7, zs_49_8, zs_49_9, zs_49_10, zs_49_13, zs_49_14, zs_49_17, zs_49_18, za_13, zg_1_8, zli_0, zli_s, zlr_0, zlr_s, zls_0, zls_s, z1i_e, z2i_e, z1r_e, zir_e, ziir_e, z1v_e, z2v_e, zone_e, znil_e, zsp_0, zsp_s, zlz_0, zlz_1, zlz_2, zlz_3, zlz_4, zswp_0, zswp_s, true_and, and_true, implies_true, true_or, or_true, Int.reduceEq, Int.reduceLT, Int.reduceLE, Int.reduceNeg, not_true_eq_false, not_false_eq_true, false_implies, true_implies, zr_e, zwr_o, zwr_s, Nat.reduceEqDiff]
  rw [zand_shr h4 (by omega)]
  cases hb : zbt (σ 13 t) u with
  | true => simp only [if_true]; exact ⟨h2, h3, by omega, fun a => by omega, fun a => h1 hb⟩
  | false => simp only [Bool.false_eq_true, if_false]; exact ⟨h2, h3, by omega, fun a => h0 hb, fun a => absurd trivial a⟩
set_option maxRecDepth 100000 in
theorem x_permits {f t : Int} (h2 : 0 ≤ f) (h3 : f < 16) (h4 : 0 ≤ t) (h5 : t < 16) (h1 : zbt (σ 9 f) t = true → Q 1 σ) (h0 : zbt (σ 9 f) t = false → Q 0 σ) : zM 50 zF [.inr 1, .inl f, .inl t] σ Q := by
  refine ze_50 100 ?_
  simp only [zs_50_0, zs_50_1, zs_50_4, zs_50_5, zs_50_6, zs_50_7, zs_50_8, zs_50_9, zs_50_10, zs_50_13, zs_50_14, zs_50_17, zs_50_18, za_9, zg_1_4, zli_0, zli_s, zlr_0, zlr_s, zls_0, zls_s, z1i_e, z2i_e, z1r_e, zir_e, ziir_e, z1v_e, z2v_e, zone_e, znil_e, zsp_0, zsp_s, zlz_0, zlz_1, zlz_2, zlz_3, zlz_4, zswp_0, zswp_s, true_and, and_true, implies_true, true_or, or_true, Int.reduceEq, Int.reduceLT, Int.reduceLE, Int.reduceNeg, not_true_eq_false, not_false_eq_true, false_implies, true_implies, zr_e, zwr_o, zwr_s, Nat.reduceEqDiff]
  rw [zand_shr h4 (by omega)]
  cases hb : zbt (σ 9 f) t with
  | true => simp only [if_true]; exact ⟨h2, h3, by omega, fun a => by omega, fun a => h1 hb⟩
  | false => simp only [Bool.false_eq_true, if_false]; exact ⟨h2, h3, by omega, fun a => h0 hb, fun a => absurd trivial a⟩
end X3
