/-! ancestors and rows as functions of the base state -/
noncomputable def cA (B : zS) : Nat → Int → Int
  | 0, _ => 0
  | k + 1, t => gOr (fun i => zor (zshl 1 (gPa B t i)) (cA B k (gPa B t i))) (gPc B t).toNat
noncomputable def cAn (B : zS) : Int → Int := cA B 16
noncomputable def cPA (B : zS) (t : Int) : Int := gOr (fun i => cAn B (gPa B t i)) (gPc B t).toNat
noncomputable def cR (B : zS) : Nat → Int → Int → List Int
  | 0, _, _ => []
  | k + 1, t, n => gHad B (cAn B) (fun p => cR B k p n) t n
noncomputable def cRow (B : zS) (n t : Int) : List Int := cR B 16 t n
theorem anc_k {B : zS} (hB : Bd B) {A : Int → Int} (hA : ∀ t, 0 ≤ t → t < B 16 0 → A t = gOr (fun i => zor (zshl 1 (gPa B t i)) (A (gPa B t i))) (gPc B t).toNat) : ∀ (k : Nat) (t : Int), 0 ≤ t → t < B 16 0 → t < k → A t = cA B k t
  | 0, t, h0, _, h => by omega
  | k + 1, t, h0, h1, h => by
    have hn := hB.n
    rw [hA t h0 h1, cA]
    refine gOr_congr (fun i i0 i1 => ?_)
    have hl := gPa_lt hB h0 (show t < 16 by omega) i0 (show i < gPc B t by omega)
    rw [anc_k hB hA k (gPa B t i) hl.1 (by omega) (by omega)]
theorem anc_c {B : zS} (hB : Bd B) {A : Int → Int} (hA : ∀ t, 0 ≤ t → t < B 16 0 → A t = gOr (fun i => zor (zshl 1 (gPa B t i)) (A (gPa B t i))) (gPc B t).toNat) {t : Int} (h0 : 0 ≤ t) (h1 : t < B 16 0) : A t = cAn B t := by
  have hn := hB.n
  exact anc_k hB hA 16 t h0 h1 (by omega)
theorem any_congr' {f g : Int → Bool} : ∀ (l : List Int), (∀ x, x ∈ l → f x = g x) → l.any f = l.any g
  | [], _ => rfl
  | a :: l, h => by rw [List.any_cons, List.any_cons, h a (by simp), any_congr' l (fun x hx => h x (by simp [hx]))]
theorem gLs_congr {B : zS} {A A' : Int → Int} {G : List Int} {m : Int} (h : ∀ g, g ∈ G → A (B 6 g) = A' (B 6 g)) : gLs B A G m = gLs B A' G m := by
  unfold gLs
  rw [any_congr' (f := fun g => zbt (A (B 6 g)) (B 6 m)) (g := fun g => zbt (A' (B 6 g)) (B 6 m)) G (fun x hx => by rw [h x hx])]
theorem gHad_c2 {B : zS} {A A' : Int → Int} {H H' : Int → List Int} {t n : Int} (hB : Bd B) (h0 : 0 ≤ t) (h1 : t < 16) (hV : ∀ p, 0 ≤ p → p < t → gV B n (p + 1) (H p)) (h : ∀ p, 0 ≤ p → p < t → H p = H' p) (hA : ∀ u, 0 ≤ u → u < t → A u = A' u) : gHad B A H t n = gHad B A' H' t n := by
  have hnn := hB.n
  have hg := gV_giv hB h0 h1 hV
  unfold gHad
  rw [← gGiv_congr hB h0 h1 h]
  split
  · apply List.filter_congr
    intro m hm
    rw [gLs_congr (fun g hgm => ?_)]
    have := hg.2 g hgm
    have h2 := hB.me g this.1 (by omega)
    exact hA _ h2.1 this.2.2.2
  · rfl
theorem row_k {B : zS} (hB : Bd B) {A : Int → Int} {H : Int → List Int} {n : Int} (hA : ∀ u, 0 ≤ u → u < B 16 0 → A u = cAn B u) (hV : ∀ t, 0 ≤ t → t < B 16 0 → gV B n (t + 1) (H t)) (hH : ∀ t, 0 ≤ t → t < B 16 0 → H t = gHad B A H t n) : ∀ (k : Nat) (t : Int), 0 ≤ t → t < B 16 0 → t < k → H t = cR B k t n
  | 0, t, h0, _, h => by omega
  | k + 1, t, h0, h1, h => by
    have hn := hB.n
    rw [hH t h0 h1, cR]
    exact gHad_c2 hB h0 (by omega) (fun p p0 p1 => hV p p0 (by omega)) (fun p p0 p1 => row_k hB hA hV hH k p p0 (by omega) (by omega)) (fun u u0 u1 => hA u u0 (by omega))
theorem row_c {B : zS} (hB : Bd B) {A : Int → Int} {H : Int → List Int} {n : Int} (hA : ∀ u, 0 ≤ u → u < B 16 0 → A u = cAn B u) (hV : ∀ t, 0 ≤ t → t < B 16 0 → gV B n (t + 1) (H t)) (hH : ∀ t, 0 ≤ t → t < B 16 0 → H t = gHad B A H t n) {t : Int} (h0 : 0 ≤ t) (h1 : t < B 16 0) : H t = cRow B n t := by
  have hn := hB.n
  exact row_k hB hA hV hH 16 t h0 h1 (by omega)
/-- what X keeps is the canonical -/
theorem AX_c {σ : zS} (hB : Bd (bX σ)) (hA : ∀ u, 0 ≤ u → u < σ 1 0 → AXt σ u) {t : Int} (h0 : 0 ≤ t) (h1 : t < σ 1 0) : σ 12 t = cAn (bX σ) t := by
  refine anc_c hB (A := σ 12) (fun u u0 u1 => ?_) h0 h1
  have := hA u u0 u1
  rw [this.2, this.1, gOr_or]
theorem PX_c {σ : zS} (hB : Bd (bX σ)) (hA : ∀ u, 0 ≤ u → u < σ 1 0 → AXt σ u) {t : Int} (h0 : 0 ≤ t) (h1 : t < σ 1 0) : σ 13 t = cPA (bX σ) t := by
  have hnn : 1 ≤ σ 1 0 ∧ σ 1 0 ≤ 16 ∧ _ := hB.n
  rw [(hA t h0 h1).1, cPA]
  refine gOr_congr (fun i i0 i1 => ?_)
  have hl := gPa_lt hB h0 (show t < 16 by omega) i0 (show i < gPc (bX σ) t by omega)
  exact AX_c hB hA hl.1 (by omega)
theorem RX_c {σ : zS} {n : Int} (hB : Bd (bX σ)) (hA : ∀ u, 0 ≤ u → u < σ 1 0 → AXt σ u) (hR : RX σ n) {t : Int} (h0 : 0 ≤ t) (h1 : t < σ 1 0) : rX σ n t = cRow (bX σ) n t :=
  row_c hB (A := σ 12) (fun u u0 u1 => AX_c hB hA u0 u1) (fun t t0 t1 => (hR t t0 t1).1.2.2) (fun t t0 t1 => (hR t t0 t1).2) h0 h1
theorem zl_get {f : Int → Int} {c i : Int} (h0 : 0 ≤ i) (h1 : i < c) : (zl f c).getD i.toNat (-1) = f i := by
  have e : ((i.toNat : Nat) : Int) = i := by omega
  simp only [zl, List.getD_eq_getElem?_getD, List.getElem?_map]
  rw [List.getElem?_range (by omega)]
  simp [e]
/-! answers, as functions of the base state -/
noncomputable def aHas (B : zS) (t n i : Int) : Int := if i = -4 then ((cRow B n t).length : Int) else if 0 ≤ i ∧ i < ((cRow B n t).length : Int) then (cRow B n t).getD i.toNat (-1) else -1
noncomputable def aRun (B : zS) (n t : Int) : Int := gRX B (cRow B n t) 0 (-4) 0
/-- faults rest on the rows of the types below the count alone -/
noncomputable def cCol (B : zS) (t : Int) : List (Int × Int) := gCol B (cRow B) (cPA B) t
theorem fm_congr {α : Type} {f g : Int → List α} : ∀ (l : List Int), (∀ x, x ∈ l → f x = g x) → l.flatMap f = l.flatMap g
  | [], _ => rfl
  | a :: l, h => by rw [List.flatMap_cons, List.flatMap_cons, h a (by simp), fm_congr l (fun x hx => h x (by simp [hx]))]
theorem gCol_c {B : zS} (hB : Bd B) {H : Int → Int → List Int} {PA : Int → Int} {t : Int} (h0 : 0 ≤ t) (h1 : t < B 16 0) (hH : ∀ n u, 0 ≤ n → n < 10 → 0 ≤ u → u < B 16 0 → H n u = cRow B n u) (hP : PA t = cPA B t) : gCol B H PA t = cCol B t := by
  have hnn := hB.n
  unfold cCol gCol
  congr 1
  · apply fm_congr
    intro n hn
    obtain ⟨i, i0, i1, rfl⟩ := zl_mem.mp hn
    unfold gCA
    split
    · rfl
    · unfold gFo
      rw [gGiv_congr hB h0 (by omega) (fun p p0 p1 => hH i p i0 i1 p0 (by omega))]
  congr 1
  · apply fm_congr
    intro n hn
    obtain ⟨i, i0, i1, rfl⟩ := zl_mem.mp hn
    unfold gCB
    rw [hH i t i0 i1 h0 h1]
  congr 1
  · apply fm_congr
    intro m hm
    obtain ⟨i, i0, i1, rfl⟩ := zl_mem.mp hm
    unfold gCC
    split
    · rename_i ho
      congr 1
      have hme := hB.me i i0 (by omega)
      obtain ⟨g1, -, c1, c2, c3⟩ := hB.mm i i0 i1
      have hs := hB.sup t h0 (by omega)
      unfold gFc
      by_cases k0 : B 10 i = 0
      · simp [k0]
      · have hn := c1 k0
        rw [hH _ t hn.1 (by omega) h0 h1, hP]
        by_cases k2 : B 10 i = 2
        · simp only [k2, Int.reduceEq, if_false, if_true]
          by_cases t0 : t = 0
          · simp [t0]
          · rw [hH _ (B 1 t) hn.1 (by omega) hs.1 (by omega)]
        · by_cases k3 : B 10 i = 3
          · have := c2 k3
            rw [hH _ (B 11 i) hn.1 (by omega) this.1 this.2.1]
            simp [k3]
          · by_cases k4 : B 10 i = 4
            · have := c3 k4
              rw [hH _ (B 11 i) hn.1 (by omega) this.1 this.2]
              simp [k4]
            · simp [k2, k3, k4]
    · rfl
