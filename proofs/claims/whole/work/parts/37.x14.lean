noncomputable def gCA (B : zS) (H : Int → Int → List Int) (t n : Int) : List (Int × Int) := if B 13 (10 * t + n) = -4 then [] else gFo B (H n) t n
def gCB (B : zS) (H : Int → Int → List Int) (t n : Int) : List (Int × Int) := if B 13 (10 * t + n) = -4 then gFi B (H n t) t n else []
noncomputable def gCC (B : zS) (H : Int → Int → List Int) (PA : Int → Int) (t m : Int) : List (Int × Int) := if B 6 m = t then gIf (gFc B H PA t m) m else []
def zi (c : Int) : List Int := zl (fun i => i) c
noncomputable def gCol (B : zS) (H : Int → Int → List Int) (PA : Int → Int) (t : Int) : List (Int × Int) := (zi 10).flatMap (gCA B H t) ++ ((zi 10).flatMap (gCB B H t) ++ ((zi (B 17 0)).flatMap (gCC B H PA t) ++ (zl (fun j => B 3 (4 * t + j)) (B 2 t)).flatMap (gSe B t)))
theorem zi_s {c : Int} (h : 0 ≤ c) : zi (c + 1) = zi c ++ [c] := zl_s h
theorem zi_0 : zi 0 = [] := rfl
theorem pig2 : ∀ (L K : List Int), L.Nodup → (∀ x, x ∈ L → x ∈ K) → L.length ≤ K.length
  | [], K, _, _ => Nat.zero_le _
  | a :: L, K, hn, h => by
    have hn' := List.nodup_cons.mp hn
    have ha := h a (by simp)
    have := pig2 L (K.erase a) hn'.2 (fun x hx => (List.mem_erase_of_ne (show x ≠ a from fun e => hn'.1 (e ▸ hx))).mpr (h x (by simp [hx])))
    rw [List.length_erase_of_mem ha] at this
    have hp : 0 < K.length := List.length_pos_of_mem ha
    simp only [List.length_cons]
    omega
/-- how many of the first n names are the type's own -/
def gW (f : Int → Int) : Nat → Int
  | 0 => 0
  | k + 1 => gW f k + (if f (k : Int) = -4 then 0 else 1)
theorem gW_b (f : Int → Int) (k : Nat) : 0 ≤ gW f k ∧ gW f k ≤ k := by
  induction k with
  | zero => simp [gW]
  | succ k ih =>
    simp only [gW]
    split <;> omega
theorem gW_m (f : Int → Int) (k j : Nat) : gW f (k + j) ≤ gW f k + j := by
  induction j with
  | zero => simp
  | succ j ih =>
    have : k + (j + 1) = (k + j) + 1 := by omega
    rw [this, gW]
    split <;> omega
theorem gW_s {f : Int → Int} {n : Int} (h : 0 ≤ n) : gW f (n + 1).toNat = gW f n.toNat + (if f n = -4 then 0 else 1) := by
  have e : (n + 1).toNat = n.toNat + 1 := by omega
  have e2 : ((n.toNat : Nat) : Int) = n := by omega
  rw [e, gW, e2]
theorem gFo_len {B : zS} {H : Int → List Int} {t n : Int} (hB : Bd B) (h0 : 0 ≤ t) (h1 : t < 16) (hH : ∀ p, 0 ≤ p → p < t → gV B n (p + 1) (H p)) : ((gFo B H t n).length : Int) ≤ 16 := by
  have hl := gV_len (gV_giv hB h0 h1 hH) h0 hB
  have h2 := gIf_len (if B 0 t = 2 ∧ gAR n (B 7 (B 13 (10 * t + n))) then 1 else 0) (B 13 (10 * t + n))
  have key : ∀ (l : List Int) (o : Int), (((l.flatMap (fun g => gIf (gFa B o g) o)).length : Nat) : Int) ≤ l.length := by
    intro l o
    induction l with
    | nil => simp
    | cons a l ih =>
      have := gIf_len (gFa B o a) o
      rw [List.flatMap_cons, List.length_append, List.length_cons]
      omega
  have h3 := key (gGiv B H t) (B 13 (10 * t + n))
  unfold gFo
  rw [List.length_append]
  omega
theorem gFi_len {B : zS} {l : List Int} {t n : Int} : ((gFi B l t n).length : Int) ≤ 3 := by
  unfold gFi
  rw [List.length_append, List.length_append]
  have h1 := gIf_len (if 2 ≤ (l.length : Int) ∧ gFs B l l = -4 then 6 else 0) n
  have h2 := gIf_len (if gRX B l 0 (-4) 0 = -6 then 7 else 0) n
  have h3 := gIf_len (if gRX B l 0 (-4) 0 = -7 ∧ B 0 t = 0 then 8 else 0) n
  omega
/-- a type has at most ten members -/
theorem own10 {B : zS} (hB : Bd B) {t : Int} (h0 : 0 ≤ t) (h1 : t < 16) (m : Int) (hm : m ≤ B 17 0) : (((zi m).filter (fun x => decide (B 6 x = t))).length : Int) ≤ 10 := by
  have key := pig2 ((zi m).filter (fun x => decide (B 6 x = t))) (zl (fun n => B 13 (10 * t + n)) 10) ?_ ?_
  · have : (zl (fun n => B 13 (10 * t + n)) 10).length = 10 := by simp [zl]
    omega
  · refine List.Pairwise.filter _ ?_
    simp only [zi, zl]
    refine List.Pairwise.map _ ?_ List.nodup_range (R := fun a b => a ≠ b)
    intro a b hab e
    exact hab (by omega)
  · intro x hx
    obtain ⟨hx1, hx2⟩ := List.mem_filter.mp hx
    obtain ⟨i, i0, i1, rfl⟩ := zl_mem.mp hx1
    have e : B 6 i = t := by simpa using hx2
    obtain ⟨-, ⟨n, n0, n1, hn⟩, -⟩ := hB.mm i i0 (by omega)
    rw [e] at hn
    exact zl_mem.mpr ⟨n, n0, n1, hn⟩
theorem own_s {B : zS} {t m : Int} (h : 0 ≤ m) : (((zi (m + 1)).filter (fun x => decide (B 6 x = t))).length : Int) = ((zi m).filter (fun x => decide (B 6 x = t))).length + (if B 6 m = t then 1 else 0) := by
  rw [zi_s h, List.filter_append, List.length_append]
  by_cases e : B 6 m = t
  · rw [if_pos e, List.filter_cons_of_pos (by simp [e])]
    simp
  · rw [if_neg e, List.filter_cons_of_neg (by simp [e])]
    simp
theorem fm_len {f : Int → List (Int × Int)} (h : ∀ x, ((f x).length : Int) ≤ 1) : ∀ l : List Int, ((l.flatMap f).length : Int) ≤ l.length
  | [] => by simp
  | a :: l => by
    have := fm_len h l
    have := h a
    rw [List.flatMap_cons, List.length_append, List.length_cons]
    omega
section X15
variable {σ : zS} {Q : Int → zS → Prop}
theorem rOK_fx {σ' : zS} (hs : zsm [3, 4, 28, 29, 30] σ σ') (hR : ∀ n t, 0 ≤ n → n < 10 → 0 ≤ t → t < σ 1 0 → rOK σ n t) : ∀ n t, 0 ≤ n → n < 10 → 0 ≤ t → t < σ' 1 0 → rOK σ' n t := by
  intro n t n0 n1 t0 t1
  rw [hs 1 (by decide)] at t1
  exact rOK_sm hs (by decide) (by decide) (by decide) (hR n t n0 n1 t0 t1)
set_option maxRecDepth 100000 in
theorem x_col_C {t : Int} (hB : Bd (bX σ)) (h0 : 0 ≤ t) (h1 : t < σ 1 0) (hR : ∀ n t, 0 ≤ n → n < 10 → 0 ≤ t → t < σ 1 0 → rOK σ n t) (L : List (Int × Int))
    (h : ∀ σ', zsm [3, 4, 28, 29, 30] σ σ' → 0 ≤ σ' 4 5 → σ' 4 5 ≤ 174 → fX σ' = L ++ ((zi (σ 2 0)).flatMap (gCC (bX σ) (rX σ) (σ 13) t) ++ (zl (fun j => σ 11 (4 * t + j)) (σ 8 t)).flatMap (gSe (bX σ) t)) → Q (σ' 4 5) σ') :
    ∀ (k : Nat) (m : Int) (σ2 : zS) (l3 : Option zW), 0 ≤ m → m ≤ σ 2 0 → (σ 2 0 - m).toNat = k → zsm [3, 4, 28, 29, 30] σ σ2 → 0 ≤ σ2 4 5 → σ2 4 5 ≤ 160 + ((zi m).filter (fun x => decide (bX σ 6 x = t))).length → fX σ2 = L ++ (zi m).flatMap (gCC (bX σ) (rX σ) (σ 13) t) →
      zV 3 zF Q 78 [some (.inr 4), some (.inl t), some (.inl m), l3] [] σ2 := by
  have hnn : 1 ≤ σ 1 0 ∧ σ 1 0 ≤ 16 ∧ 3 ≤ σ 2 0 ∧ σ 2 0 ≤ 60 := hB.n
  intro k
  induction k with
  | zero =>
    intro m σ2 l3 m0 m1 mk hs hc0 hc1 hfx
    have e2 : σ2 2 = σ 2 := hs 2 (by decide)
    have eB : bX σ2 = bX σ := bX_sm hs (by decide)
    have h10 := own10 hB h0 (by omega) m m1
    refine zv_3 200 ?_
    simp only [zs_3_0, zs_3_1, zs_3_2, zs_3_5, zs_3_6, zs_3_7, zs_3_8, zs_3_10, zs_3_13, zs_3_14, zs_3_17, zs_3_18, zs_3_19, zs_3_22, zs_3_23, zs_3_24, zs_3_26, zs_3_29, zs_3_30, zs_3_31, zs_3_32, zs_3_33, zs_3_36, zs_3_39, zs_3_42, zs_3_43, zs_3_44, zs_3_45, zs_3_47, zs_3_50, zs_3_51, zs_3_54, zs_3_55, zs_3_56, zs_3_59, zs_3_61, zs_3_64, zs_3_65, zs_3_66, zs_3_67, zs_3_70, zs_3_73, zs_3_76, zs_3_77, zs_3_78, zs_3_79, zs_3_80, zs_3_83, zs_3_86, zs_3_89, zs_3_90, zs_3_93, zs_3_96, zs_3_97, zs_3_98, zs_3_99, zs_3_102, zs_3_103, zs_3_104, zs_3_105, zs_3_106, zs_3_109, zs_3_110, zs_3_113, zs_3_116, zs_3_119, zs_3_120, zs_3_121, zs_3_124, zs_3_125, zs_3_128, zs_3_7h, zs_3_44h, zs_3_78h, za_17, zg_2_0, zg_2_1, zg_4_1, zg_4_5, zp_4_5, zrc_12, zrc_34, zrc_4, zrc_5, zrc_8, zrc_9, zli_0, zli_s, zlr_0, zlr_s, zls_0, zls_s, z1i_e, z2i_e, z1r_e, zir_e, ziir_e, z1v_e, z2v_e, zone_e, znil_e, zsp_0, zsp_s, zlz_0, zlz_1, zlz_2, zlz_3, zlz_4, zswp_0, zswp_s, true_and, and_true, implies_true, true_or, or_true, Int.reduceEq, Int.reduceLT, Int.reduceLE, Int.reduceNeg, not_true_eq_false, not_false_eq_true, false_implies, true_implies, zr_e, zwr_o, zwr_s, Nat.reduceEqDiff]
    rw [e2]
    refine ⟨by omega, by omega, fun a => ?_, fun a => by omega⟩
    refine x_addSealed (by rw [eB]; exact hB) h0 (by omega) hc0 (by omega) ?_
    intro σ3 hs3 hc3 hf3
    have hl := fX_len hc0 hc3 hf3
    have hl2 := fm_len (f := gSe (bX σ2) t) (fun x => gIf_len _ x) (zl (fun j => σ2 11 (4 * t + j)) (σ2 8 t))
    have hfc : 0 ≤ σ 8 t ∧ σ 8 t ≤ 4 := hB.fc t h0 (by omega)
    have hl3 : ((zl (fun j => σ2 11 (4 * t + j)) (σ2 8 t)).length : Int) = σ2 8 t := zl_len (by rw [hs 8 (by decide)]; exact hfc.1)
    rw [hs 8 (by decide)] at hl3 hl2 hl
    refine h σ3 (zsm_tr hs hs3 (by decide)) hc3 (by omega) ?_
    rw [hf3, hfx, eB, hs 11 (by decide), hs 8 (by decide), show m = σ 2 0 by omega, List.append_assoc]
  | succ k ih =>
    intro m σ2 l3 m0 m1 mk hs hc0 hc1 hfx
    have e2 : σ2 2 = σ 2 := hs 2 (by decide)
    have e17 : σ2 17 = σ 17 := hs 17 (by decide)
    have eB : bX σ2 = bX σ := bX_sm hs (by decide)
    have er : rX σ2 = rX σ := rX_sm hs (by decide) (by decide)
    have h10 := own10 hB h0 (by omega) (m + 1) (show m + 1 ≤ bX σ 17 0 by show m + 1 ≤ σ 2 0; omega)
    have hos := own_s (B := bX σ) (t := t) m0
    have hme : 0 ≤ σ 17 m ∧ σ 17 m ≤ 15 ∧ _ := hB.me m m0 (by omega)
    refine zv_3 200 ?_
    simp only [zs_3_0, zs_3_1, zs_3_2, zs_3_5, zs_3_6, zs_3_7, zs_3_8, zs_3_10, zs_3_13, zs_3_14, zs_3_17, zs_3_18, zs_3_19, zs_3_22, zs_3_23, zs_3_24, zs_3_26, zs_3_29, zs_3_30, zs_3_31, zs_3_32, zs_3_33, zs_3_36, zs_3_39, zs_3_42, zs_3_43, zs_3_44, zs_3_45, zs_3_47, zs_3_50, zs_3_51, zs_3_54, zs_3_55, zs_3_56, zs_3_59, zs_3_61, zs_3_64, zs_3_65, zs_3_66, zs_3_67, zs_3_70, zs_3_73, zs_3_76, zs_3_77, zs_3_78, zs_3_79, zs_3_80, zs_3_83, zs_3_86, zs_3_89, zs_3_90, zs_3_93, zs_3_96, zs_3_97, zs_3_98, zs_3_99, zs_3_102, zs_3_103, zs_3_104, zs_3_105, zs_3_106, zs_3_109, zs_3_110, zs_3_113, zs_3_116, zs_3_119, zs_3_120, zs_3_121, zs_3_124, zs_3_125, zs_3_128, zs_3_7h, zs_3_44h, zs_3_78h, za_17, zg_2_0, zg_2_1, zg_4_1, zg_4_5, zp_4_5, zrc_12, zrc_34, zrc_4, zrc_5, zrc_8, zrc_9, zli_0, zli_s, zlr_0, zlr_s, zls_0, zls_s, z1i_e, z2i_e, z1r_e, zir_e, ziir_e, z1v_e, z2v_e, zone_e, znil_e, zsp_0, zsp_s, zlz_0, zlz_1, zlz_2, zlz_3, zlz_4, zswp_0, zswp_s, true_and, and_true, implies_true, true_or, or_true, Int.reduceEq, Int.reduceLT, Int.reduceLE, Int.reduceNeg, not_true_eq_false, not_false_eq_true, false_implies, true_implies, zr_e, zwr_o, zwr_s, Nat.reduceEqDiff]
    rw [e2, e17]
    refine ⟨by omega, by omega, fun a => by omega, fun a => ⟨by omega, by omega, by omega, by omega, fun b => ?_, fun b => ?_⟩⟩
    · rw [if_neg (show ¬ bX σ 6 m = t from b)] at hos
      refine ih (m + 1) σ2 _ (by omega) (by omega) (by omega) hs hc0 (by omega) ?_
      rw [hfx, zi_s m0, List.flatMap_append]
      simp [gCC, show ¬ bX σ 6 m = t from b]
    · rw [if_pos (show bX σ 6 m = t from b)] at hos
      refine x_faultOfCall (by rw [eB]; exact hB) h0 (by rw [hs 1 (by decide)]; exact h1) m0 (by rw [e2]; exact a) (rOK_fx hs hR) ?_
      rw [eB, er, hs 13 (by decide)]
      have hz : zr (gFc (bX σ) (rX σ) (σ 13) t m) := by
        unfold gFc
        repeat' split
        all_goals exact ⟨by decide, by decide⟩
      refine x_addIfAny hz hc0 (by omega) ?_
      intro σ3 hs3 hc3 hf3
      have hl := fX_len hc0 hc3 hf3
      have hl2 := gIf_len (gFc (bX σ) (rX σ) (σ 13) t m) m
      refine ih (m + 1) σ3 _ (by omega) (by omega) (by omega) (zsm_tr hs hs3 (by decide)) hc3 (by omega) ?_
      rw [hf3, hfx, zi_s m0, List.flatMap_append, List.append_assoc]
      simp [gCC, show bX σ 6 m = t from b]
set_option maxRecDepth 100000 in
theorem x_col_B {t : Int} (hB : Bd (bX σ)) (h0 : 0 ≤ t) (h1 : t < σ 1 0) (hR : ∀ n t, 0 ≤ n → n < 10 → 0 ≤ t → t < σ 1 0 → rOK σ n t) (L : List (Int × Int))
    (h : ∀ σ' (l3 : Option zW), zsm [3, 4, 28, 29, 30] σ σ' → 0 ≤ σ' 4 5 → σ' 4 5 ≤ 160 → fX σ' = L ++ (zi 10).flatMap (gCB (bX σ) (rX σ) t) → zV 3 zF Q 78 [some (.inr 4), some (.inl t), some (.inl 0), l3] [] σ') :
    ∀ (k : Nat) (n : Int) (σ2 : zS) (l3 : Option zW), 0 ≤ n → n ≤ 10 → (10 - n).toNat = k → zsm [3, 4, 28, 29, 30] σ σ2 → 0 ≤ σ2 4 5 → σ2 4 5 ≤ 16 * gW (fun n => σ 24 (10 * t + n)) 10 + 3 * (n - gW (fun n => σ 24 (10 * t + n)) n.toNat) → fX σ2 = L ++ (zi n).flatMap (gCB (bX σ) (rX σ) t) →
      zV 3 zF Q 44 [some (.inr 4), some (.inl t), some (.inl n), l3] [] σ2 := by
  have hnn : 1 ≤ σ 1 0 ∧ σ 1 0 ≤ 16 ∧ 3 ≤ σ 2 0 ∧ σ 2 0 ≤ 60 := hB.n
  have hw10 := gW_b (fun n => σ 24 (10 * t + n)) 10
  intro k
  induction k with
  | zero =>
    intro n σ2 l3 n0 n1 nk hs hc0 hc1 hfx
    have e : n = 10 := by omega
    subst e
    have hw : gW (fun n => σ 24 (10 * t + n)) (10 : Int).toNat = gW (fun n => σ 24 (10 * t + n)) 10 := rfl
    refine zv_3 200 ?_
    simp only [zs_3_0, zs_3_1, zs_3_2, zs_3_5, zs_3_6, zs_3_7, zs_3_8, zs_3_10, zs_3_13, zs_3_14, zs_3_17, zs_3_18, zs_3_19, zs_3_22, zs_3_23, zs_3_24, zs_3_26, zs_3_29, zs_3_30, zs_3_31, zs_3_32, zs_3_33, zs_3_36, zs_3_39, zs_3_42, zs_3_43, zs_3_44, zs_3_45, zs_3_47, zs_3_50, zs_3_51, zs_3_54, zs_3_55, zs_3_56, zs_3_59, zs_3_61, zs_3_64, zs_3_65, zs_3_66, zs_3_67, zs_3_70, zs_3_73, zs_3_76, zs_3_77, zs_3_78, zs_3_79, zs_3_80, zs_3_83, zs_3_86, zs_3_89, zs_3_90, zs_3_93, zs_3_96, zs_3_97, zs_3_98, zs_3_99, zs_3_102, zs_3_103, zs_3_104, zs_3_105, zs_3_106, zs_3_109, zs_3_110, zs_3_113, zs_3_116, zs_3_119, zs_3_120, zs_3_121, zs_3_124, zs_3_125, zs_3_128, zs_3_7h, zs_3_44h, zs_3_78h, za_17, zg_2_0, zg_2_1, zg_4_1, zg_4_5, zp_4_5, zrc_12, zrc_34, zrc_4, zrc_5, zrc_8, zrc_9, zli_0, zli_s, zlr_0, zlr_s, zls_0, zls_s, z1i_e, z2i_e, z1r_e, zir_e, ziir_e, z1v_e, z2v_e, zone_e, znil_e, zsp_0, zsp_s, zlz_0, zlz_1, zlz_2, zlz_3, zlz_4, zswp_0, zswp_s, true_and, and_true, implies_true, true_or, or_true, Int.reduceEq, Int.reduceLT, Int.reduceLE, Int.reduceNeg, not_true_eq_false, not_false_eq_true, false_implies, true_implies, zr_e, zwr_o, zwr_s, Nat.reduceEqDiff]
    exact h σ2 _ hs hc0 (by omega) hfx
  | succ k ih =>
    intro n σ2 l3 n0 n1 nk hs hc0 hc1 hfx
    have e24 : σ2 24 = σ 24 := hs 24 (by decide)
    have eB : bX σ2 = bX σ := bX_sm hs (by decide)
    have er : rX σ2 = rX σ := rX_sm hs (by decide) (by decide)
    have hws := gW_s (f := fun n => σ 24 (10 * t + n)) n0
    have hwm := gW_m (fun n => σ 24 (10 * t + n)) n.toNat (10 - n.toNat)
    have hwe : n.toNat + (10 - n.toNat) = 10 := by omega
    rw [hwe] at hwm
    have how : σ 24 (10 * t + n) = -4 ∨ (0 ≤ σ 24 (10 * t + n) ∧ σ 24 (10 * t + n) < σ 2 0) := hB.ow (10 * t + n) (by omega) (by omega)
    refine zv_3 200 ?_
    simp only [zs_3_0, zs_3_1, zs_3_2, zs_3_5, zs_3_6, zs_3_7, zs_3_8, zs_3_10, zs_3_13, zs_3_14, zs_3_17, zs_3_18, zs_3_19, zs_3_22, zs_3_23, zs_3_24, zs_3_26, zs_3_29, zs_3_30, zs_3_31, zs_3_32, zs_3_33, zs_3_36, zs_3_39, zs_3_42, zs_3_43, zs_3_44, zs_3_45, zs_3_47, zs_3_50, zs_3_51, zs_3_54, zs_3_55, zs_3_56, zs_3_59, zs_3_61, zs_3_64, zs_3_65, zs_3_66, zs_3_67, zs_3_70, zs_3_73, zs_3_76, zs_3_77, zs_3_78, zs_3_79, zs_3_80, zs_3_83, zs_3_86, zs_3_89, zs_3_90, zs_3_93, zs_3_96, zs_3_97, zs_3_98, zs_3_99, zs_3_102, zs_3_103, zs_3_104, zs_3_105, zs_3_106, zs_3_109, zs_3_110, zs_3_113, zs_3_116, zs_3_119, zs_3_120, zs_3_121, zs_3_124, zs_3_125, zs_3_128, zs_3_7h, zs_3_44h, zs_3_78h, za_17, zg_2_0, zg_2_1, zg_4_1, zg_4_5, zp_4_5, zrc_12, zrc_34, zrc_4, zrc_5, zrc_8, zrc_9, zli_0, zli_s, zlr_0, zlr_s, zls_0, zls_s, z1i_e, z2i_e, z1r_e, zir_e, ziir_e, z1v_e, z2v_e, zone_e, znil_e, zsp_0, zsp_s, zlz_0, zlz_1, zlz_2, zlz_3, zlz_4, zswp_0, zswp_s, true_and, and_true, implies_true, true_or, or_true, Int.reduceEq, Int.reduceLT, Int.reduceLE, Int.reduceNeg, not_true_eq_false, not_false_eq_true, false_implies, true_implies, zr_e, zwr_o, zwr_s, Nat.reduceEqDiff]
    refine ⟨by omega, fun a => by omega, fun a => ?_⟩
    refine x_ownOf h0 (by omega) n0 (by omega) ?_
    rw [e24]
    refine ⟨by omega, fun b => ?_, fun b => ?_⟩
    · rw [if_neg b] at hws
      refine ih (n + 1) σ2 _ (by omega) (by omega) (by omega) hs hc0 (by omega) ?_
      rw [hfx, zi_s n0, List.flatMap_append]
      simp [gCB, show ¬ bX σ 13 (10 * t + n) = -4 from b]
    · rw [if_pos b] at hws
      refine x_addInherited (by rw [eB]; exact hB) h0 (by omega) n0 (by omega) (rOK_fx hs hR n t n0 (by omega) h0 (by rw [hs 1 (by decide)]; exact h1)) hc0 (by omega) ?_
      intro σ3 hs3 hc3 hf3
      rw [eB, er] at hf3
      have hl := fX_len hc0 hc3 hf3
      have hl2 := gFi_len (B := bX σ) (l := rX σ n t) (t := t) (n := n)
      refine ih (n + 1) σ3 _ (by omega) (by omega) (by omega) (zsm_tr hs hs3 (by decide)) hc3 (by omega) ?_
      rw [hf3, hfx, zi_s n0, List.flatMap_append, List.append_assoc]
      simp [gCB, show bX σ 13 (10 * t + n) = -4 from b]
set_option maxRecDepth 100000 in
theorem x_col_A {t : Int} (hB : Bd (bX σ)) (h0 : 0 ≤ t) (h1 : t < σ 1 0) (hR : ∀ n t, 0 ≤ n → n < 10 → 0 ≤ t → t < σ 1 0 → rOK σ n t)
    (h : ∀ σ' (l3 : Option zW), zsm [3, 4, 28, 29, 30] σ σ' → 0 ≤ σ' 4 5 → σ' 4 5 ≤ 16 * gW (fun n => σ 24 (10 * t + n)) 10 → fX σ' = (zi 10).flatMap (gCA (bX σ) (rX σ) t) → zV 3 zF Q 44 [some (.inr 4), some (.inl t), some (.inl 0), l3] [] σ') :
    ∀ (k : Nat) (n : Int) (σ2 : zS) (l3 : Option zW), 0 ≤ n → n ≤ 10 → (10 - n).toNat = k → zsm [3, 4, 28, 29, 30] σ σ2 → 0 ≤ σ2 4 5 → σ2 4 5 ≤ 16 * gW (fun n => σ 24 (10 * t + n)) n.toNat → fX σ2 = (zi n).flatMap (gCA (bX σ) (rX σ) t) →
      zV 3 zF Q 7 [some (.inr 4), some (.inl t), some (.inl n), l3] [] σ2 := by
  have hnn : 1 ≤ σ 1 0 ∧ σ 1 0 ≤ 16 ∧ 3 ≤ σ 2 0 ∧ σ 2 0 ≤ 60 := hB.n
  intro k
  induction k with
  | zero =>
    intro n σ2 l3 n0 n1 nk hs hc0 hc1 hfx
    have e : n = 10 := by omega
    subst e
    refine zv_3 200 ?_
    simp only [zs_3_0, zs_3_1, zs_3_2, zs_3_5, zs_3_6, zs_3_7, zs_3_8, zs_3_10, zs_3_13, zs_3_14, zs_3_17, zs_3_18, zs_3_19, zs_3_22, zs_3_23, zs_3_24, zs_3_26, zs_3_29, zs_3_30, zs_3_31, zs_3_32, zs_3_33, zs_3_36, zs_3_39, zs_3_42, zs_3_43, zs_3_44, zs_3_45, zs_3_47, zs_3_50, zs_3_51, zs_3_54, zs_3_55, zs_3_56, zs_3_59, zs_3_61, zs_3_64, zs_3_65, zs_3_66, zs_3_67, zs_3_70, zs_3_73, zs_3_76, zs_3_77, zs_3_78, zs_3_79, zs_3_80, zs_3_83, zs_3_86, zs_3_89, zs_3_90, zs_3_93, zs_3_96, zs_3_97, zs_3_98, zs_3_99, zs_3_102, zs_3_103, zs_3_104, zs_3_105, zs_3_106, zs_3_109, zs_3_110, zs_3_113, zs_3_116, zs_3_119, zs_3_120, zs_3_121, zs_3_124, zs_3_125, zs_3_128, zs_3_7h, zs_3_44h, zs_3_78h, za_17, zg_2_0, zg_2_1, zg_4_1, zg_4_5, zp_4_5, zrc_12, zrc_34, zrc_4, zrc_5, zrc_8, zrc_9, zli_0, zli_s, zlr_0, zlr_s, zls_0, zls_s, z1i_e, z2i_e, z1r_e, zir_e, ziir_e, z1v_e, z2v_e, zone_e, znil_e, zsp_0, zsp_s, zlz_0, zlz_1, zlz_2, zlz_3, zlz_4, zswp_0, zswp_s, true_and, and_true, implies_true, true_or, or_true, Int.reduceEq, Int.reduceLT, Int.reduceLE, Int.reduceNeg, not_true_eq_false, not_false_eq_true, false_implies, true_implies, zr_e, zwr_o, zwr_s, Nat.reduceEqDiff]
    exact h σ2 _ hs hc0 hc1 hfx
  | succ k ih =>
    intro n σ2 l3 n0 n1 nk hs hc0 hc1 hfx
    have e24 : σ2 24 = σ 24 := hs 24 (by decide)
    have eB : bX σ2 = bX σ := bX_sm hs (by decide)
    have er : rX σ2 = rX σ := rX_sm hs (by decide) (by decide)
    have hws := gW_s (f := fun n => σ 24 (10 * t + n)) n0
    have hwb := gW_b (fun n => σ 24 (10 * t + n)) n.toNat
    have how : σ 24 (10 * t + n) = -4 ∨ (0 ≤ σ 24 (10 * t + n) ∧ σ 24 (10 * t + n) < σ 2 0) := hB.ow (10 * t + n) (by omega) (by omega)
    refine zv_3 200 ?_
    simp only [zs_3_0, zs_3_1, zs_3_2, zs_3_5, zs_3_6, zs_3_7, zs_3_8, zs_3_10, zs_3_13, zs_3_14, zs_3_17, zs_3_18, zs_3_19, zs_3_22, zs_3_23, zs_3_24, zs_3_26, zs_3_29, zs_3_30, zs_3_31, zs_3_32, zs_3_33, zs_3_36, zs_3_39, zs_3_42, zs_3_43, zs_3_44, zs_3_45, zs_3_47, zs_3_50, zs_3_51, zs_3_54, zs_3_55, zs_3_56, zs_3_59, zs_3_61, zs_3_64, zs_3_65, zs_3_66, zs_3_67, zs_3_70, zs_3_73, zs_3_76, zs_3_77, zs_3_78, zs_3_79, zs_3_80, zs_3_83, zs_3_86, zs_3_89, zs_3_90, zs_3_93, zs_3_96, zs_3_97, zs_3_98, zs_3_99, zs_3_102, zs_3_103, zs_3_104, zs_3_105, zs_3_106, zs_3_109, zs_3_110, zs_3_113, zs_3_116, zs_3_119, zs_3_120, zs_3_121, zs_3_124, zs_3_125, zs_3_128, zs_3_7h, zs_3_44h, zs_3_78h, za_17, zg_2_0, zg_2_1, zg_4_1, zg_4_5, zp_4_5, zrc_12, zrc_34, zrc_4, zrc_5, zrc_8, zrc_9, zli_0, zli_s, zlr_0, zlr_s, zls_0, zls_s, z1i_e, z2i_e, z1r_e, zir_e, ziir_e, z1v_e, z2v_e, zone_e, znil_e, zsp_0, zsp_s, zlz_0, zlz_1, zlz_2, zlz_3, zlz_4, zswp_0, zswp_s, true_and, and_true, implies_true, true_or, or_true, Int.reduceEq, Int.reduceLT, Int.reduceLE, Int.reduceNeg, not_true_eq_false, not_false_eq_true, false_implies, true_implies, zr_e, zwr_o, zwr_s, Nat.reduceEqDiff]
    refine ⟨by omega, fun a => by omega, fun a => ?_⟩
    refine x_ownOf h0 (by omega) n0 (by omega) ?_
    rw [e24]
    refine ⟨by omega, fun b => ?_, fun b => ?_⟩
    · rw [if_pos b] at hws
      refine ih (n + 1) σ2 _ (by omega) (by omega) (by omega) hs hc0 (by omega) ?_
      rw [hfx, zi_s n0, List.flatMap_append]
      simp [gCA, show bX σ 13 (10 * t + n) = -4 from b]
    · rw [if_neg b] at hws
      have hrr : ∀ p, 0 ≤ p → p < t → rOK σ n p := fun p p0 p1 => hR n p n0 (by omega) p0 (by omega)
      rw [← e24]
      refine x_addOwn (σ := σ2) (by rw [eB]; exact hB) h0 (by omega) n0 (by omega) (by rw [e24]; exact b) (fun p p0 p1 => rOK_sm hs (by decide) (by decide) (by decide) (hrr p p0 p1)) hc0 (by omega) ?_
      intro σ3 hs3 hc3 hf3
      rw [eB, er] at hf3
      have hl := fX_len hc0 hc3 hf3
      have hl2 := gFo_len (H := rX σ n) (n := n) hB h0 (by omega) (fun p p0 p1 => (hrr p p0 p1).2.2)
      refine ih (n + 1) σ3 _ (by omega) (by omega) (by omega) (zsm_tr hs hs3 (by decide)) hc3 (by omega) ?_
      rw [hf3, hfx, zi_s n0, List.flatMap_append]
      simp [gCA, show ¬ bX σ 13 (10 * t + n) = -4 from b]
set_option maxRecDepth 100000 in
theorem x_collect {t : Int} (hB : Bd (bX σ)) (h0 : 0 ≤ t) (h1 : t < σ 1 0) (hR : ∀ n t, 0 ≤ n → n < 10 → 0 ≤ t → t < σ 1 0 → rOK σ n t)
    (h : ∀ σ', zsm [3, 4, 28, 29, 30] σ σ' → 0 ≤ σ' 4 5 → σ' 4 5 ≤ 174 → fX σ' = gCol (bX σ) (rX σ) (σ 13) t → Q (σ' 4 5) σ') : zM 3 zF [.inr 4, .inl t] σ Q := by
  refine ze_3 200 ?_
  simp only [zs_3_0, zs_3_1, zs_3_2, zs_3_5, zs_3_6, zs_3_7, zs_3_8, zs_3_10, zs_3_13, zs_3_14, zs_3_17, zs_3_18, zs_3_19, zs_3_22, zs_3_23, zs_3_24, zs_3_26, zs_3_29, zs_3_30, zs_3_31, zs_3_32, zs_3_33, zs_3_36, zs_3_39, zs_3_42, zs_3_43, zs_3_44, zs_3_45, zs_3_47, zs_3_50, zs_3_51, zs_3_54, zs_3_55, zs_3_56, zs_3_59, zs_3_61, zs_3_64, zs_3_65, zs_3_66, zs_3_67, zs_3_70, zs_3_73, zs_3_76, zs_3_77, zs_3_78, zs_3_79, zs_3_80, zs_3_83, zs_3_86, zs_3_89, zs_3_90, zs_3_93, zs_3_96, zs_3_97, zs_3_98, zs_3_99, zs_3_102, zs_3_103, zs_3_104, zs_3_105, zs_3_106, zs_3_109, zs_3_110, zs_3_113, zs_3_116, zs_3_119, zs_3_120, zs_3_121, zs_3_124, zs_3_125, zs_3_128, za_17, zg_2_0, zg_2_1, zg_4_1, zg_4_5, zp_4_5, zrc_12, zrc_34, zrc_4, zrc_5, zrc_8, zrc_9, zli_0, zli_s, zlr_0, zlr_s, zls_0, zls_s, z1i_e, z2i_e, z1r_e, zir_e, ziir_e, z1v_e, z2v_e, zone_e, znil_e, zsp_0, zsp_s, zlz_0, zlz_1, zlz_2, zlz_3, zlz_4, zswp_0, zswp_s, true_and, and_true, implies_true, true_or, or_true, Int.reduceEq, Int.reduceLT, Int.reduceLE, Int.reduceNeg, not_true_eq_false, not_false_eq_true, false_implies, true_implies, zr_e, zwr_o, zwr_s, Nat.reduceEqDiff]
  have e0 : fX (zwr σ 4 5 0) = [] := by
    simp only [fX]
    rw [zwr_s]
    rfl
  refine x_col_A hB h0 h1 hR ?_ _ 0 (zwr σ 4 5 0) _ (by omega) (by omega) rfl (zsm_wr zsm_rf (by decide)) (by rw [zwr_s]; omega) (by rw [zwr_s]; have := gW_b (fun n => σ 24 (10 * t + n)) (0 : Int).toNat; omega) (by rw [e0]; rfl)
  intro σ1 l3 hs1 hc1 hd1 hf1
  refine x_col_B hB h0 h1 hR ((zi 10).flatMap (gCA (bX σ) (rX σ) t)) ?_ _ 0 σ1 _ (by omega) (by omega) rfl hs1 hc1 (by have := gW_b (fun n => σ 24 (10 * t + n)) (0 : Int).toNat; omega) (by rw [hf1, zi_0]; simp)
  intro σ2 l3 hs2 hc2 hd2 hf2
  refine x_col_C hB h0 h1 hR ((zi 10).flatMap (gCA (bX σ) (rX σ) t) ++ (zi 10).flatMap (gCB (bX σ) (rX σ) t)) ?_ _ 0 σ2 _ (by omega) (by have hnn : _ ∧ _ ∧ 3 ≤ σ 2 0 ∧ _ := hB.n; omega) rfl hs2 hc2 (by omega) (by rw [hf2, zi_0]; simp)
  intro σ3 hs3 hc3 hd3 hf3
  refine h σ3 hs3 hc3 hd3 ?_
  rw [hf3, gCol, List.append_assoc]
  rfl
end X15
