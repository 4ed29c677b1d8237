/-! what rests on which components -/
theorem gPc_base {B B' : zS} (h0 : B' 0 = B 0) (h2 : B' 2 = B 2) : gPc B' = gPc B := by
  funext t; simp only [gPc, h0, h2]
theorem gPa_base {B B' : zS} (h0 : B' 0 = B 0) (h1 : B' 1 = B 1) (h3 : B' 3 = B 3) : gPa B' = gPa B := by
  funext t i; simp only [gPa, h0, h1, h3]
theorem gAdd_base {B B' : zS} (h0 : B' 0 = B 0) (h6 : B' 6 = B 6) (h7 : B' 7 = B 7) : gAdd B' = gAdd B := by
  have e : gHand B' = gHand B := by funext m; simp only [gHand, h0, h6, h7]
  funext acc m; simp only [gAdd, e]
theorem gCb_base {B B' : zS} (h0 : B' 0 = B 0) (h6 : B' 6 = B 6) (h7 : B' 7 = B 7) : gCb B' = gCb B := by
  funext m; simp only [gCb, h0, h6, h7]
theorem gHad_base {B B' : zS} (h0 : B' 0 = B 0) (h1 : B' 1 = B 1) (h2 : B' 2 = B 2) (h3 : B' 3 = B 3) (h6 : B' 6 = B 6) (h7 : B' 7 = B 7) (h13 : B' 13 = B 13) : gHad B' = gHad B := by
  funext A H t n
  simp only [gHad, gGiv, gLs, gCb_base h0 h6 h7, gAdd_base h0 h6 h7, gPa_base h0 h1 h3, gPc_base h0 h2, h0, h6, h13]
theorem gV_base {B B' : zS} (h6 : B' 6 = B 6) (h13 : B' 13 = B 13) (h17 : B' 17 = B 17) : gV B' = gV B := by
  funext n u l
  simp only [gV, h6, h13, h17]
theorem AXt_base {σ σ' : zS} {u : Int} (h0 : bX σ' 0 = bX σ 0) (h1 : bX σ' 1 = bX σ 1) (h2 : bX σ' 2 = bX σ 2) (h3 : bX σ' 3 = bX σ 3) (h12 : σ' 12 = σ 12) (h13 : σ' 13 = σ 13) (h : AXt σ u) : AXt σ' u := by
  unfold AXt at h ⊢
  rw [gPa_base h0 h1 h3, gPc_base h0 h2, h12, h13]
  exact h
/-- a change that leaves types, members' places and rows -/
theorem IX_keep {σ σ' : zS} (hI : IX σ) (hB' : Bd (bX σ')) (h0 : bX σ' 0 = bX σ 0) (h1 : bX σ' 1 = bX σ 1) (h2 : bX σ' 2 = bX σ 2) (h3 : bX σ' 3 = bX σ 3) (h6 : bX σ' 6 = bX σ 6) (h7 : bX σ' 7 = bX σ 7) (hh13 : bX σ' 13 = bX σ 13) (h17 : bX σ' 17 = bX σ 17) (hn : σ' 1 0 = σ 1 0) (h12 : σ' 12 = σ 12) (h13 : σ' 13 = σ 13) (h25 : σ' 25 = σ 25) (h26 : σ' 26 = σ 26) (h27 : σ' 27 = σ 27) (h5 : σ' 5 = σ 5) : IX σ' := by
  obtain ⟨hB, hA, hF, hc⟩ := hI
  have er : rX σ' = rX σ := by funext n t; simp only [rX, h26, h27]
  refine ⟨hB', fun u u0 u1 => AXt_base h0 h1 h2 h3 h12 h13 (hA u u0 (by omega)), ⟨by rw [h25]; exact hF.1, by rw [h26]; exact hF.2.1, ?_⟩, by rw [h5]; exact hc⟩
  intro n n0 n1 hf
  rw [h25] at hf
  intro t t0 t1
  rw [hn] at t1
  obtain ⟨⟨r1, r2, r3⟩, r4⟩ := hF.2.2 n n0 n1 hf t t0 t1
  refine ⟨⟨by rw [h26]; exact r1, by rw [h26]; exact r2, by rw [er, gV_base h6 hh13 h17]; exact r3⟩, ?_⟩
  rw [er, gHad_base h0 h1 h2 h3 h6 h7 hh13, h12]
  exact r4
/-- rows of another name don't see a new member -/
theorem gHad_mem {B : zS} {t n s r n' t' : Int} {A : Int → Int} {H : Int → List Int} (hB : Bd B) (hne : ¬ n' = n) (h0 : 0 ≤ t') (h1 : t' < 16) (n0 : 0 ≤ n) (n1 : n < 10) (m0 : 0 ≤ n') (m1 : n' < 10) (hV : ∀ p, 0 ≤ p → p < t' → gV B n' (p + 1) (H p)) : gHad (oMem B t n s r) A H t' n' = gHad B A H t' n' := by
  have hnn := hB.n
  have own : oMem B t n s r 13 (10 * t' + n') = B 13 (10 * t' + n') := by
    show (if 10 * t' + n' = 10 * t + n then B 17 0 else B 13 (10 * t' + n')) = _
    rw [if_neg (by omega)]
  have e6 : ∀ m, m < B 17 0 → oMem B t n s r 6 m = B 6 m := fun m h => if_neg (by omega)
  have e7 : ∀ m, m < B 17 0 → oMem B t n s r 7 m = B 7 m := fun m h => if_neg (by omega)
  have eadd : ∀ (l acc : List Int), (∀ m, m ∈ l → m < B 17 0) → l.foldl (gAdd (oMem B t n s r)) acc = l.foldl (gAdd B) acc := by
    intro l
    induction l with
    | nil => intro acc _; rfl
    | cons a l ih =>
      intro acc hl
      have ha := hl a (by simp)
      rw [List.foldl_cons, List.foldl_cons]
      have : gAdd (oMem B t n s r) acc a = gAdd B acc a := by
        simp only [gAdd, gHand, e6 a ha, e7 a ha]
        rfl
      rw [this, ih _ (fun m hm => hl m (by simp [hm]))]
  have eg : gGiv (oMem B t n s r) H t' = gGiv B H t' := by
    unfold gGiv
    have e1 : gPa (oMem B t n s r) = gPa B := rfl
    have e2 : gPc (oMem B t n s r) = gPc B := rfl
    rw [e1, e2]
    apply eadd
    intro m hm
    obtain ⟨p, hp, hm⟩ := List.mem_flatMap.mp hm
    obtain ⟨i, a, b, rfl⟩ := zl_mem.mp hp
    have hl := gPa_lt hB h0 h1 a b
    exact ((hV _ hl.1 hl.2).2 m hm).2.1
  have hg := gV_giv hB h0 h1 hV
  unfold gHad
  rw [own, eg]
  split
  · apply List.filter_congr
    intro m hm
    have hm2 := (hg.2 m hm).2.1
    have k1 : ∀ g, g ∈ gGiv B H t' → gCb (oMem B t n s r) g = gCb B g := fun g hgm => by
      have := (hg.2 g hgm).2.1
      simp only [gCb, e6 g this, e7 g this]
      rfl
    have k2 : (gGiv B H t').any (fun g => zbt (A (oMem B t n s r 6 g)) (oMem B t n s r 6 m)) = (gGiv B H t').any (fun g => zbt (A (B 6 g)) (B 6 m)) := any_congr' _ (fun g hgm => by rw [e6 g (hg.2 g hgm).2.1, e6 m hm2])
    simp only [gLs]
    rw [any_congr' _ k1, k2, e6 m hm2]
    rfl
  · rfl
theorem gV_mem {B : zS} {t n s r n' u : Int} {l : List Int} (hB : Bd B) (hne : ¬ n' = n) (n0 : 0 ≤ n) (n1 : n < 10) (m0 : 0 ≤ n') (m1 : n' < 10) (h : gV B n' u l) : gV (oMem B t n s r) n' u l := by
  refine ⟨h.1, fun m hm => ?_⟩
  obtain ⟨a, b, c, d⟩ := h.2 m hm
  have e6 : oMem B t n s r 6 m = B 6 m := if_neg (by omega)
  have e17 : oMem B t n s r 17 0 = B 17 0 + 1 := rfl
  refine ⟨a, by omega, ?_, by rw [e6]; exact d⟩
  rw [e6]
  show (if 10 * B 6 m + n' = 10 * t + n then B 17 0 else B 13 (10 * B 6 m + n')) = m
  rw [if_neg (by omega)]
  exact c
def zX (σ σ' : zS) : Prop := ∀ c, 31 ≤ c → σ' c = σ c
theorem zX_sm {σ σ' : zS} {L : List Nat} (h : zsm L σ σ') (hL : ∀ c, c ∈ L → c < 31) : zX σ σ' := fun c hc => h c (fun e => by have := hL c e; omega)
theorem zX_rf {σ : zS} : zX σ σ := fun _ _ => rfl
