/-! faults: pairs of a code and a number -/
def zl2 (f g : Int → Int) (c : Int) : List (Int × Int) := (List.range c.toNat).map (fun i : Nat => (f (i : Int), g (i : Int)))
theorem zl2_s {f g : Int → Int} {c : Int} (h : 0 ≤ c) : zl2 f g (c + 1) = zl2 f g c ++ [(f c, g c)] := by
  have : (c + 1).toNat = c.toNat + 1 := by omega
  have e : ((c.toNat : Nat) : Int) = c := by omega
  simp [zl2, this, List.range_succ, e]
theorem zl2_congr {f g f' g' : Int → Int} {c : Int} (h : ∀ i, 0 ≤ i → i < c → f i = f' i ∧ g i = g' i) : zl2 f g c = zl2 f' g' c := by
  simp only [zl2]
  apply List.map_congr_left
  intro i hi
  have := List.mem_range.mp hi
  have := h i (by omega) (by omega)
  rw [this.1, this.2]
theorem zl2_len {f g : Int → Int} {c : Int} (h : 0 ≤ c) : ((zl2 f g c).length : Int) = c := by
  simp [zl2]
  omega
theorem zl2_0 {f g : Int → Int} : zl2 f g 0 = [] := rfl
def fX (σ : zS) : List (Int × Int) := zl2 (σ 29) (σ 30) (σ 4 5)
def gIf (c n : Int) : List (Int × Int) := if c = 0 then [] else [(c, n)]
theorem gIf_len (c n : Int) : ((gIf c n).length : Int) ≤ 1 := by
  unfold gIf
  split <;> simp
abbrev gAR (n s : Int) : Prop := (n = 2 ∧ ¬ s = 3 ∧ ¬ s = 2) ∨ (n < 2 ∧ s = 1)
noncomputable def gFa (B : zS) (own g : Int) : Int := if B 7 own = 3 then 4 else if ¬ (B 7 own = 2 ↔ B 7 g = 2) then 2 else if B 7 g = 4 then 3 else if B 8 own = B 8 g ∨ B 8 g = 0 ∨ (B 8 own = 3 ∧ B 8 g = 1) then 0 else 5
section X12
variable {σ : zS} {Q : Int → zS → Prop}
set_option maxRecDepth 100000 in
theorem x_addIfAny {c m : Int} (hc : zr c) (h0 : 0 ≤ σ 4 5) (h1 : σ 4 5 < 174) (h : ∀ σ', zsm [4, 29, 30] σ σ' → 0 ≤ σ' 4 5 → fX σ' = fX σ ++ gIf c m → Q 0 σ') : zM 4 zF [.inr 4, .inl c, .inl m] σ Q := by
  refine ze_4 100 ?_
  simp only [zr] at hc
  simp only [zs_4_0, zs_4_1, zs_4_4, zs_4_5, zs_4_8, zs_4_11, zs_4_14, zs_4_15, zs_4_18, zs_4_19, zs_4_22, zs_4_23, zs_4_24, zs_4_25, zs_4_28, zs_4_29, zs_4_32, zs_4_33, zs_4_34, zs_4_35, zs_4_36, zs_4_39, zs_4_40, zs_4_41, zs_4_44, za_29, za_30, zg_4_3, zg_4_4, zg_4_5, zp_4_5, zli_0, zli_s, zlr_0, zlr_s, zls_0, zls_s, z1i_e, z2i_e, z1r_e, zir_e, ziir_e, z1v_e, z2v_e, zone_e, znil_e, zsp_0, zsp_s, zlz_0, zlz_1, zlz_2, zlz_3, zlz_4, zswp_0, zswp_s, true_and, and_true, implies_true, true_or, or_true, Int.reduceEq, Int.reduceLT, Int.reduceLE, Int.reduceNeg, not_true_eq_false, not_false_eq_true, false_implies, true_implies, zr_e, zwr_o, zwr_s, Nat.reduceEqDiff]
  refine ⟨hc, fun a => ?_, fun a => ⟨by omega, fun b => by omega, fun b => ?_⟩⟩
  · refine h σ zsm_rf h0 ?_
    rw [gIf, if_pos a, List.append_nil]
  · refine ⟨by omega, by omega, by omega, by omega, ?_⟩
    refine h _ (zsm_wr (zsm_wr (zsm_wr zsm_rf (by decide)) (by decide)) (by decide)) (by rw [zwr_s]; omega) ?_
    rw [gIf, if_neg a]
    simp only [fX]
    have e29 : zwr (zwr (zwr σ 29 (σ 4 5) c) 30 (σ 4 5) m) 4 5 (σ 4 5 + 1) 29 = zwr σ 29 (σ 4 5) c 29 := by rw [zwr_o (by decide), zwr_o (by decide)]
    have e30 : zwr (zwr (zwr σ 29 (σ 4 5) c) 30 (σ 4 5) m) 4 5 (σ 4 5 + 1) 30 = zwr (zwr σ 29 (σ 4 5) c) 30 (σ 4 5) m 30 := zwr_o (by decide)
    rw [zwr_s, e29, e30, zl2_s h0, zwr_s, zwr_s]
    congr 1
    exact zl2_congr (fun j j0 j1 => ⟨by simp only [zwr, true_and]; rw [if_neg (by omega)], by simp only [zwr, true_and, show ¬ ((30 : Nat) = 29) by decide, false_and, if_false]; rw [if_neg (by omega)]⟩)
set_option maxRecDepth 100000 in
theorem x_againstRoot {n s : Int} (hn : zr n) (hs : zr s) (k1 : gAR n s → Q 1 σ) (k0 : ¬ gAR n s → Q 0 σ) : zM 6 zF [.inl n, .inl s] σ Q := by
  refine ze_6 100 ?_
  simp only [zr] at hn hs
  unfold gAR at k1 k0
  simp only [zs_6_0, zs_6_1, zs_6_2, zs_6_5, zs_6_6, zs_6_7, zs_6_10, zs_6_11, zs_6_12, zs_6_15, zs_6_16, zs_6_19, zs_6_20, zs_6_21, zs_6_22, zs_6_23, zs_6_26, zs_6_27, zs_6_28, zs_6_31, zs_6_32, zs_6_35, zs_6_36, zli_0, zli_s, zlr_0, zlr_s, zls_0, zls_s, z1i_e, z2i_e, z1r_e, zir_e, ziir_e, z1v_e, z2v_e, zone_e, znil_e, zsp_0, zsp_s, zlz_0, zlz_1, zlz_2, zlz_3, zlz_4, zswp_0, zswp_s, true_and, and_true, implies_true, true_or, or_true, Int.reduceEq, Int.reduceLT, Int.reduceLE, Int.reduceNeg, not_true_eq_false, not_false_eq_true, false_implies, true_implies, zr_e, zwr_o, zwr_s, Nat.reduceEqDiff]
  repeat' first | omega | (apply k1; omega) | (apply k0; omega) | apply And.intro | intro _
set_option maxRecDepth 100000 in
theorem x_faultAgainst {o g : Int} (hB : Bd (bX σ)) (h0 : 0 ≤ o) (h1 : o < 60) (h2 : 0 ≤ g) (h3 : g < 60) (h : Q (gFa (bX σ) o g) σ) : zM 7 zF [.inr 4, .inl o, .inl g] σ Q := by
  have ho := mB hB h0 h1
  have hg := mB hB h2 h3
  have e : gFa (bX σ) o g = if σ 18 o = 3 then 4 else if ¬ (σ 18 o = 2 ↔ σ 18 g = 2) then 2 else if σ 18 g = 4 then 3 else if σ 23 o = σ 23 g ∨ σ 23 g = 0 ∨ (σ 23 o = 3 ∧ σ 23 g = 1) then 0 else 5 := rfl
  have k4 : σ 18 o = 3 → Q 4 σ := fun a => by rw [e, if_pos a] at h; exact h
  have k2 : ¬ σ 18 o = 3 → ¬ (σ 18 o = 2 ↔ σ 18 g = 2) → Q 2 σ := fun a b => by rw [e, if_neg a, if_pos b] at h; exact h
  have k3 : ¬ σ 18 o = 3 → (σ 18 o = 2 ↔ σ 18 g = 2) → σ 18 g = 4 → Q 3 σ := fun a b c => by rw [e, if_neg a, if_neg (by simpa using b), if_pos c] at h; exact h
  have k0 : ¬ σ 18 o = 3 → (σ 18 o = 2 ↔ σ 18 g = 2) → ¬ σ 18 g = 4 → gSv (bX σ) o g → Q 0 σ := fun a b c d => by
    rw [e, if_neg a, if_neg (by simpa using b), if_neg c, if_pos (show σ 23 o = σ 23 g ∨ σ 23 g = 0 ∨ (σ 23 o = 3 ∧ σ 23 g = 1) from d)] at h; exact h
  have k5 : ¬ σ 18 o = 3 → (σ 18 o = 2 ↔ σ 18 g = 2) → ¬ σ 18 g = 4 → ¬ gSv (bX σ) o g → Q 5 σ := fun a b c d => by
    rw [e, if_neg a, if_neg (by simpa using b), if_neg c, if_neg (show ¬ (σ 23 o = σ 23 g ∨ σ 23 g = 0 ∨ (σ 23 o = 3 ∧ σ 23 g = 1)) from d)] at h; exact h
  refine ze_7 100 ?_
  simp only [zs_7_0, zs_7_1, zs_7_4, zs_7_7, zs_7_8, zs_7_9, zs_7_10, zs_7_11, zs_7_14, zs_7_17, zs_7_18, zs_7_19, zs_7_21, zs_7_22, zs_7_23, zs_7_26, zs_7_27, zs_7_28, zs_7_29, zs_7_30, zs_7_33, zs_7_34, zs_7_37, zs_7_38, zs_7_40, zs_7_41, zs_7_44, zs_7_45, zs_7_48, zs_7_49, zs_7_52, zs_7_53, zs_7_54, zs_7_56, zs_7_57, zs_7_60, zs_7_61, zs_7_62, zs_7_63, zs_7_66, zs_7_67, zs_7_68, zs_7_71, zs_7_74, zs_7_75, zs_7_78, zs_7_79, za_18, zg_2_2, zg_4_1, zrc_35, zli_0, zli_s, zlr_0, zlr_s, zls_0, zls_s, z1i_e, z2i_e, z1r_e, zir_e, ziir_e, z1v_e, z2v_e, zone_e, znil_e, zsp_0, zsp_s, zlz_0, zlz_1, zlz_2, zlz_3, zlz_4, zswp_0, zswp_s, true_and, and_true, implies_true, true_or, or_true, Int.reduceEq, Int.reduceLT, Int.reduceLE, Int.reduceNeg, not_true_eq_false, not_false_eq_true, false_implies, true_implies, zr_e, zwr_o, zwr_s, Nat.reduceEqDiff]
  repeat' first | omega | (apply k4; omega) | (apply k2 <;> omega) | (apply k3 <;> omega) | (apply k0 <;> first | assumption | omega) | (apply k5 <;> first | assumption | omega) | (refine x_serves hB h0 h1 h2 h3 (fun d => ?_) (fun d => ?_)) | apply And.intro | intro _
end X12
