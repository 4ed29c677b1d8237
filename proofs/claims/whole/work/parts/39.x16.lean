/-! a call, from body to body -/
def gNx (B : zS) (H : Int → Int → List Int) (t m : Int) : Int :=
  if B 10 m = 0 then -4
  else if B 10 m = 4 then gSt B (H (B 12 m) (B 11 m))
  else if B 7 m = 2 then -5
  else if B 10 m = 1 then (if ¬ B 13 (10 * B 6 m + B 12 m) = -4 ∧ B 7 (B 13 (10 * B 6 m + B 12 m)) = 3 then B 13 (10 * B 6 m + B 12 m) else gRX B (H (B 12 m) t) 0 (-4) 0)
  else if B 10 m = 2 then (if B 6 m = 0 ∨ B 0 (B 6 m) = 2 then -5 else gRX B (H (B 12 m) (B 1 (B 6 m))) 0 (-4) 0)
  else gRX B (H (B 12 m) (B 11 m)) 0 (-4) 0
/-- sum, last, entered, next -/
def gPf (B : zS) (H : Int → Int → List Int) (t : Int) : Nat → Int → Int → Int → Int → Int × Int × Int × Int
  | 0, nx, s, la, st => (s, la, st, nx)
  | k + 1, nx, s, la, st => if nx < 0 then (s, la, st, nx) else gPf B H t k (gNx B H t nx) (s + B 9 nx) nx (st + 1)
/-- all rows are settled -/
def AllR (σ : zS) : Prop := ∀ n t, 0 ≤ n → n < 10 → 0 ≤ t → t < σ 1 0 → rOK σ n t
def nxOK (σ : zS) (x : Int) : Prop := -7 ≤ x ∧ x < σ 2 0
section X17
variable {σ : zS} {Q : Int → zS → Prop}
theorem gRX_m {B : zS} : ∀ (l : List Int) (al bo ac : Int), (gRX B l al bo ac = -5 ∨ gRX B l al bo ac = -6 ∨ gRX B l al bo ac = -7 ∨ gRX B l al bo ac = bo ∨ gRX B l al bo ac ∈ l)
  | [], al, bo, ac => by
    simp only [gRX]
    repeat' split
    all_goals simp
  | m :: l, al, bo, ac => by
    simp only [gRX]
    split
    · rcases gRX_m l al bo ac with h | h | h | h | h
      · exact Or.inl h
      · exact Or.inr (Or.inl h)
      · exact Or.inr (Or.inr (Or.inl h))
      · exact Or.inr (Or.inr (Or.inr (Or.inl h)))
      · exact Or.inr (Or.inr (Or.inr (Or.inr (List.mem_cons_of_mem _ h))))
    · split
      · exact Or.inr (Or.inr (Or.inr (Or.inr List.mem_cons_self)))
      · rcases gRX_m l (al + 1) (if B 7 m = 1 then m else bo) (if B 0 (B 6 m) = 2 then ac else 1) with h | h | h | h | h
        · exact Or.inl h
        · exact Or.inr (Or.inl h)
        · exact Or.inr (Or.inr (Or.inl h))
        · by_cases e : B 7 m = 1
          · rw [if_pos e] at h
            rw [if_pos e, h]
            exact Or.inr (Or.inr (Or.inr (Or.inr List.mem_cons_self)))
          · rw [if_neg e] at h
            rw [if_neg e]
            exact Or.inr (Or.inr (Or.inr (Or.inl h)))
        · exact Or.inr (Or.inr (Or.inr (Or.inr (List.mem_cons_of_mem _ h))))
theorem gSt_m {B : zS} : ∀ (l : List Int), (gSt B l = -5 ∨ (gSt B l ∈ l ∧ B 7 (gSt B l) = 2))
  | [] => Or.inl rfl
  | m :: l => by
    simp only [gSt]
    split
    · rename_i h
      exact Or.inr ⟨List.mem_cons_self, h⟩
    · rcases gSt_m l with h | h
      · exact Or.inl h
      · exact Or.inr ⟨List.mem_cons_of_mem _ h.1, h.2⟩
theorem run_ok {n t : Int} (hB : Bd (bX σ)) (hr : rOK σ n t) : nxOK σ (gRX (bX σ) (rX σ n t) 0 (-4) 0) := by
  have hnn : _ ∧ _ ∧ 3 ≤ σ 2 0 ∧ σ 2 0 ≤ 60 := hB.n
  unfold nxOK
  rcases gRX_m (B := bX σ) (rX σ n t) 0 (-4) 0 with h | h | h | h | h
  · omega
  · omega
  · omega
  · omega
  · have := hr.2.2.2 _ h
    have h2 : gRX (bX σ) (rX σ n t) 0 (-4) 0 < σ 2 0 := this.2.1
    omega
theorem st_ok {n t : Int} (hB : Bd (bX σ)) (hr : rOK σ n t) : nxOK σ (gSt (bX σ) (rX σ n t)) := by
  have hnn : _ ∧ _ ∧ 3 ≤ σ 2 0 ∧ σ 2 0 ≤ 60 := hB.n
  unfold nxOK
  rcases gSt_m (B := bX σ) (rX σ n t) with h | h
  · omega
  · have := hr.2.2.2 _ h.1
    have h2 : gSt (bX σ) (rX σ n t) < σ 2 0 := this.2.1
    omega
theorem nx_ok {t m : Int} (hB : Bd (bX σ)) (hR : AllR σ) (h0 : 0 ≤ t) (h1 : t < σ 1 0) (m0 : 0 ≤ m) (m1 : m < σ 2 0) : nxOK σ (gNx (bX σ) (rX σ) t m) := by
  have hnn : 1 ≤ σ 1 0 ∧ σ 1 0 ≤ 16 ∧ 3 ≤ σ 2 0 ∧ σ 2 0 ≤ 60 := hB.n
  have hme : 0 ≤ σ 17 m ∧ σ 17 m ≤ 15 ∧ _ ∧ _ ∧ _ ∧ _ ∧ _ ∧ _ ∧ 0 ≤ σ 20 m ∧ σ 20 m ≤ 4 ∧ _ := hB.me m m0 (by omega)
  obtain ⟨g1, -, c1, c2, c3⟩ := hB.mm m m0 m1
  have g1 : σ 17 m < σ 1 0 := g1
  have c1 : ¬ σ 20 m = 0 → 0 ≤ σ 22 m ∧ σ 22 m ≤ 9 := c1
  have c2 : σ 20 m = 3 → 0 ≤ σ 21 m ∧ σ 21 m < σ 1 0 ∧ σ 6 (σ 21 m) = 2 := c2
  have c3 : σ 20 m = 4 → 0 ≤ σ 21 m ∧ σ 21 m < σ 1 0 := c3
  have hk := hme.2.2.2.2.2.2.2.2.1
  have hk2 := hme.2.2.2.2.2.2.2.2.2.1
  have hs : 0 ≤ σ 7 (σ 17 m) ∧ σ 7 (σ 17 m) ≤ 15 ∧ (0 < σ 17 m → σ 7 (σ 17 m) < σ 17 m) := hB.sup (σ 17 m) hme.1 (by omega)
  show nxOK σ (if σ 20 m = 0 then -4
  else if σ 20 m = 4 then gSt (bX σ) (rX σ (σ 22 m) (σ 21 m))
  else if σ 18 m = 2 then -5
  else if σ 20 m = 1 then (if ¬ σ 24 (10 * σ 17 m + σ 22 m) = -4 ∧ σ 18 (σ 24 (10 * σ 17 m + σ 22 m)) = 3 then σ 24 (10 * σ 17 m + σ 22 m) else gRX (bX σ) (rX σ (σ 22 m) t) 0 (-4) 0)
  else if σ 20 m = 2 then (if σ 17 m = 0 ∨ σ 6 (σ 17 m) = 2 then -5 else gRX (bX σ) (rX σ (σ 22 m) (σ 7 (σ 17 m))) 0 (-4) 0)
  else gRX (bX σ) (rX σ (σ 22 m) (σ 21 m)) 0 (-4) 0)
  by_cases a0 : σ 20 m = 0
  · rw [if_pos a0]; unfold nxOK; omega
  rw [if_neg a0]
  have hn := c1 a0
  by_cases a4 : σ 20 m = 4
  · rw [if_pos a4]
    have := c3 a4
    exact st_ok hB (hR _ _ hn.1 (by omega) this.1 this.2)
  rw [if_neg a4]
  by_cases as : σ 18 m = 2
  · rw [if_pos as]; unfold nxOK; omega
  rw [if_neg as]
  by_cases a1 : σ 20 m = 1
  · rw [if_pos a1]
    split
    · rename_i hc
      have how : σ 24 (10 * σ 17 m + σ 22 m) = -4 ∨ (0 ≤ σ 24 (10 * σ 17 m + σ 22 m) ∧ σ 24 (10 * σ 17 m + σ 22 m) < σ 2 0) := hB.ow (10 * σ 17 m + σ 22 m) (by omega) (by omega)
      unfold nxOK
      omega
    · exact run_ok hB (hR _ _ hn.1 (by omega) h0 h1)
  rw [if_neg a1]
  by_cases a2 : σ 20 m = 2
  · rw [if_pos a2]
    split
    · unfold nxOK; omega
    · exact run_ok hB (hR _ _ hn.1 (by omega) (by omega) (by omega))
  rw [if_neg a2]
  have := c2 (by omega)
  exact run_ok hB (hR _ _ hn.1 (by omega) this.1 this.2.1)
set_option maxRecDepth 100000 in
theorem x_inside {o t n : Int} (hB : Bd (bX σ)) (hR : AllR σ) (o0 : 0 ≤ o) (o1 : o < 16) (h0 : 0 ≤ t) (h1 : t < σ 1 0) (h2 : 0 ≤ n) (h3 : n < 10)
    (h : Q (if ¬ σ 24 (10 * o + n) = -4 ∧ σ 18 (σ 24 (10 * o + n)) = 3 then σ 24 (10 * o + n) else gRX (bX σ) (rX σ n t) 0 (-4) 0) σ) : zM 2 zF [.inr 5, .inl o, .inl t, .inl n] σ Q := by
  have hnn : 1 ≤ σ 1 0 ∧ σ 1 0 ≤ 16 ∧ 3 ≤ σ 2 0 ∧ σ 2 0 ≤ 60 := hB.n
  have how : σ 24 (10 * o + n) = -4 ∨ (0 ≤ σ 24 (10 * o + n) ∧ σ 24 (10 * o + n) < σ 2 0) := hB.ow (10 * o + n) (by omega) (by omega)
  refine ze_2 100 ?_
  simp only [zs_2_0, zs_2_1, zs_2_4, zs_2_5, zs_2_6, zs_2_9, zs_2_11, zs_2_13, zs_2_15, zs_2_18, zs_2_19, zs_2_22, zs_2_25, zs_2_27, zs_2_28, zs_2_29, zs_2_32, zs_2_34, zs_2_35, zs_2_36, zs_2_39, zs_2_40, zs_2_41, zs_2_44, za_18, zg_2_2, zg_5_1, zg_5_2, zrc_25, zrc_34, zli_0, zli_s, zlr_0, zlr_s, zls_0, zls_s, z1i_e, z2i_e, z1r_e, zir_e, ziir_e, z1v_e, z2v_e, zone_e, znil_e, zsp_0, zsp_s, zlz_0, zlz_1, zlz_2, zlz_3, zlz_4, zswp_0, zswp_s, true_and, and_true, implies_true, true_or, or_true, Int.reduceEq, Int.reduceLT, Int.reduceLE, Int.reduceNeg, not_true_eq_false, not_false_eq_true, false_implies, true_implies, zr_e, zwr_o, zwr_s, Nat.reduceEqDiff]
  refine x_ownOf o0 o1 h2 h3 ?_
  generalize σ 24 (10 * o + n) = w at *
  have run : (w = -4 ∨ ¬ σ 18 w = 3) → zM 25 zF [.inr 3, .inl t, .inl n] σ fun r σ' => Q r σ' := by
    intro a
    rw [if_neg (by omega)] at h
    exact x_runner hB h0 (by omega) h2 h3 (hR n t h2 h3 h0 h1) h
  refine ⟨by omega, fun a => run (Or.inl a), fun a => ?_⟩
  have hb := mB (m := w) hB (by omega) (by omega)
  refine ⟨by omega, by omega, by omega, fun b => run (Or.inr b), fun b => ?_⟩
  rw [if_pos ⟨a, b⟩] at h
  exact h
set_option maxRecDepth 100000 in
theorem x_following {t m : Int} (hB : Bd (bX σ)) (hR : AllR σ) (h0 : 0 ≤ t) (h1 : t < σ 1 0) (m0 : 0 ≤ m) (m1 : m < σ 2 0) (h : Q (gNx (bX σ) (rX σ) t m) σ) : zM 1 zF [.inr 5, .inl m, .inl t] σ Q := by
  have hnn : 1 ≤ σ 1 0 ∧ σ 1 0 ≤ 16 ∧ 3 ≤ σ 2 0 ∧ σ 2 0 ≤ 60 := hB.n
  have hme : 0 ≤ σ 17 m ∧ σ 17 m ≤ 15 ∧ _ ∧ _ ∧ _ ∧ _ ∧ _ ∧ _ ∧ 0 ≤ σ 20 m ∧ σ 20 m ≤ 4 ∧ _ := hB.me m m0 (by omega)
  have hb := mB (m := m) hB m0 (by omega)
  obtain ⟨g1, -, c1, c2, c3⟩ := hB.mm m m0 m1
  have g1 : σ 17 m < σ 1 0 := g1
  have c1 : ¬ σ 20 m = 0 → 0 ≤ σ 22 m ∧ σ 22 m ≤ 9 := c1
  have c2 : σ 20 m = 3 → 0 ≤ σ 21 m ∧ σ 21 m < σ 1 0 ∧ σ 6 (σ 21 m) = 2 := c2
  have c3 : σ 20 m = 4 → 0 ≤ σ 21 m ∧ σ 21 m < σ 1 0 := c3
  have hk := hme.2.2.2.2.2.2.2.2.1
  have hk2 := hme.2.2.2.2.2.2.2.2.2.1
  have hs : 0 ≤ σ 7 (σ 17 m) ∧ σ 7 (σ 17 m) ≤ 15 ∧ (0 < σ 17 m → σ 7 (σ 17 m) < σ 17 m) := hB.sup (σ 17 m) hme.1 (by omega)
  have h : Q (if σ 20 m = 0 then -4
  else if σ 20 m = 4 then gSt (bX σ) (rX σ (σ 22 m) (σ 21 m))
  else if σ 18 m = 2 then -5
  else if σ 20 m = 1 then (if ¬ σ 24 (10 * σ 17 m + σ 22 m) = -4 ∧ σ 18 (σ 24 (10 * σ 17 m + σ 22 m)) = 3 then σ 24 (10 * σ 17 m + σ 22 m) else gRX (bX σ) (rX σ (σ 22 m) t) 0 (-4) 0)
  else if σ 20 m = 2 then (if σ 17 m = 0 ∨ σ 6 (σ 17 m) = 2 then -5 else gRX (bX σ) (rX σ (σ 22 m) (σ 7 (σ 17 m))) 0 (-4) 0)
  else gRX (bX σ) (rX σ (σ 22 m) (σ 21 m)) 0 (-4) 0) σ := h
  have k0 : σ 20 m = 0 → Q (-4) σ := fun a => by rw [if_pos a] at h; exact h
  have k4 : ¬ σ 20 m = 0 → σ 20 m = 4 → zM 26 zF [.inr 3, .inl (σ 21 m), .inl (σ 22 m)] σ fun r σ' => Q r σ' := fun a b => by
    rw [if_neg a, if_pos b] at h
    have hc := c1 a
    have hc3 := c3 b
    exact x_staticOf hB hc3.1 (by omega) hc.1 (by omega) (hR _ _ hc.1 (by omega) hc3.1 hc3.2) h
  have k5 : ¬ σ 20 m = 0 → ¬ σ 20 m = 4 → σ 18 m = 2 → Q (-5) σ := fun a b c => by rw [if_neg a, if_neg b, if_pos c] at h; exact h
  have k1 : ¬ σ 18 m = 2 → σ 20 m = 1 → zM 2 zF [.inr 5, .inl (σ 17 m), .inl t, .inl (σ 22 m)] σ fun r σ' => Q r σ' := fun a b => by
    rw [if_neg (by omega), if_neg (by omega), if_neg a, if_pos b] at h
    have hc := c1 (by omega)
    exact x_inside hB hR hme.1 (by omega) h0 h1 hc.1 (by omega) h
  have k2 : ¬ σ 18 m = 2 → σ 20 m = 2 → zM 45 zF [.inr 1, .inl (σ 17 m)] σ fun r σ' => (-2147483648 ≤ r ∧ r < 2147483648) ∧ (r = 0 → Q (-5) σ') ∧ (¬ r = 0 → 0 ≤ σ' 17 m ∧ True) := fun a b => by
    refine x_hasSuper hB hme.1 (by omega) (fun c => ⟨by omega, fun d => by omega, fun d => ⟨hme.1, trivial⟩⟩) (fun c => ?_)
    rw [if_neg (by omega), if_neg (by omega), if_neg a, if_neg (by omega), if_pos b, if_pos c] at h
    exact ⟨by omega, fun _ => h, fun d => absurd rfl d⟩
  have k3 : ¬ σ 18 m = 2 → σ 20 m = 3 → zM 25 zF [.inr 3, .inl (σ 21 m), .inl (σ 22 m)] σ fun r σ' => Q r σ' := fun a b => by
    rw [if_neg (by omega), if_neg (by omega), if_neg a, if_neg (by omega), if_neg (by omega)] at h
    have hc := c1 (by omega)
    have hc2 := c2 b
    exact x_runner hB hc2.1 (by omega) hc.1 (by omega) (hR _ _ hc.1 (by omega) hc2.1 hc2.2.1) h
  have k22 : ¬ σ 18 m = 2 → σ 20 m = 2 → ¬ (σ 17 m = 0 ∨ σ 6 (σ 17 m) = 2) → zM 25 zF [.inr 3, .inl (σ 7 (σ 17 m)), .inl (σ 22 m)] σ fun r σ' => Q r σ' := fun a b c => by
    rw [if_neg (by omega), if_neg (by omega), if_neg a, if_neg (by omega), if_pos b, if_neg c] at h
    have hc := c1 (by omega)
    exact x_runner hB (by omega) (by omega) hc.1 (by omega) (hR _ _ hc.1 (by omega) (by omega) (by omega)) h
  have k21 : ¬ σ 18 m = 2 → σ 20 m = 2 → (σ 17 m = 0 ∨ σ 6 (σ 17 m) = 2) → Q (-5) σ := fun a b c => by
    rw [if_neg (by omega), if_neg (by omega), if_neg a, if_neg (by omega), if_pos b, if_pos c] at h
    exact h
  refine ze_1 200 ?_
  simp only [zs_1_0, zs_1_1, zs_1_4, zs_1_7, zs_1_8, zs_1_9, zs_1_10, zs_1_11, zs_1_14, zs_1_17, zs_1_18, zs_1_19, zs_1_21, zs_1_22, zs_1_25, zs_1_27, zs_1_28, zs_1_29, zs_1_30, zs_1_33, zs_1_34, zs_1_37, zs_1_38, zs_1_41, zs_1_44, zs_1_45, zs_1_46, zs_1_48, zs_1_51, zs_1_52, zs_1_53, zs_1_56, zs_1_59, zs_1_60, zs_1_61, zs_1_62, zs_1_65, zs_1_67, zs_1_68, zs_1_69, zs_1_72, zs_1_75, zs_1_76, zs_1_77, zs_1_79, zs_1_80, zs_1_108, zs_1_109, zs_1_111, zs_1_112, zs_1_114, zs_1_117, zs_1_118, zs_1_119, zs_1_122, zs_1_124, zs_1_127, zs_1_130, zs_1_131, zs_1_134, zs_1_135, zs_1_138, zs_1_141, zs_1_143, zs_1_144, zs_1_146, zs_1_149, zs_1_152, zs_1_154, zs_1_155, zs_1_156, zs_1_159, zs_1_160, zs_1_163, zs_1_166, zs_1_167, zs_1_168, zs_1_170, zs_1_173, za_17, za_18, za_20, za_21, za_22, za_7, zg_1_2, zg_2_1, zg_2_2, zg_2_4, zg_2_5, zg_2_6, zg_5_0, zg_5_1, zg_5_2, zrc_2, zrc_25, zrc_26, zrc_45, zli_0, zli_s, zlr_0, zlr_s, zls_0, zls_s, z1i_e, z2i_e, z1r_e, zir_e, ziir_e, z1v_e, z2v_e, zone_e, znil_e, zsp_0, zsp_s, zlz_0, zlz_1, zlz_2, zlz_3, zlz_4, zswp_0, zswp_s, true_and, and_true, implies_true, true_or, or_true, Int.reduceEq, Int.reduceLT, Int.reduceLE, Int.reduceNeg, not_true_eq_false, not_false_eq_true, false_implies, true_implies, zr_e, zwr_o, zwr_s, Nat.reduceEqDiff]
  repeat' first
    | omega
    | (apply k0; omega)
    | (apply k4 <;> omega)
    | (apply k5 <;> omega)
    | (apply k1 <;> omega)
    | (apply k3 <;> omega)
    | (apply k22 <;> assumption)
    | (apply k21 <;> assumption)
    | (refine x_hasSuper hB hme.1 (by omega) (fun c => ?_) (fun c => ?_))
    | apply And.intro
    | intro _
end X17
