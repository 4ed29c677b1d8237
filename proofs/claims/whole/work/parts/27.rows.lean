/-! members handed on, given, lost, had: lists -/
def gHand (B : zS) (m : Int) : Bool := !decide (B 7 m = 3) && !(decide (B 7 m = 2) && decide (B 0 (B 6 m) = 2))
def gAdd (B : zS) (acc : List Int) (m : Int) : List Int := if (gHand B m && !decide (m ∈ acc)) = true then acc ++ [m] else acc
noncomputable def gGiv (B : zS) (H : Int → List Int) (t : Int) : List Int := ((zl (gPa B t) (gPc B t)).flatMap H).foldl (gAdd B) []
def gCb (B : zS) (g : Int) : Bool := (decide (B 7 g = 1) || decide (B 7 g = 4)) && !decide (B 0 (B 6 g) = 2)
def gLs (B : zS) (A : Int → Int) (G : List Int) (m : Int) : Bool := (G.any (gCb B) && decide (B 0 (B 6 m) = 2)) || G.any (fun g => zbt (A (B 6 g)) (B 6 m))
noncomputable def gHad (B : zS) (A : Int → Int) (H : Int → List Int) (t n : Int) : List Int := if B 13 (10 * t + n) = -4 then (gGiv B H t).filter (fun m => !gLs B A (gGiv B H t) m) else [B 13 (10 * t + n)]
/-- members of the name n, each once, of types below u -/
def gV (B : zS) (n u : Int) (l : List Int) : Prop := l.Nodup ∧ ∀ m, m ∈ l → 0 ≤ m ∧ m < B 17 0 ∧ B 13 (10 * B 6 m + n) = m ∧ B 6 m < u
theorem pig : ∀ (N : Nat) (l : List Int), l.Nodup → (∀ x, x ∈ l → 0 ≤ x ∧ x < N) → l.length ≤ N
  | 0, l, _, h => by
    cases l with
    | nil => simp
    | cons a l => have := h a (by simp); omega
  | N + 1, l, hn, h => by
    have h1 := pig N (l.filter (fun x => !decide (x = (N : Int)))) (List.Pairwise.filter _ hn) (fun x hx => by
      have := List.mem_filter.mp hx
      have h2 := h x this.1
      have h3 : ¬ x = (N : Int) := by simpa using this.2
      omega)
    have h2 : l.length ≤ (l.filter (fun x => !decide (x = (N : Int)))).length + 1 := by
      clear h h1
      induction l with
      | nil => simp
      | cons a l ih =>
        have hn' := List.nodup_cons.mp hn
        by_cases e : a = (N : Int)
        · subst e
          have : l.filter (fun x => !decide (x = (N : Int))) = l := List.filter_eq_self.mpr (fun x hx => by
            have : ¬ x = (N : Int) := fun e => hn'.1 (e ▸ hx)
            simp [this])
          rw [List.filter_cons_of_neg (by simp), this]
          simp
        · rw [List.filter_cons_of_pos (by simp [e])]
          have := ih hn'.2
          simp only [List.length_cons]
          omega
    omega
theorem gV_len {B : zS} {n u : Int} {l : List Int} (h : gV B n u l) (h0 : 0 ≤ u) (hB : Bd B) : (l.length : Int) ≤ u := by
  have hnn := hB.n
  have key := pig u.toNat (l.map (B 6)) ?_ ?_
  · simp only [List.length_map] at key
    omega
  · have := h.1
    refine List.Pairwise.map _ ?_ ?_ (R := fun a b => ¬ B 6 a = B 6 b)
    · intro a b h; exact h
    · refine List.Pairwise.imp_of_mem ?_ this
      intro a b ha hb hab e
      have h1 := (h.2 a ha).2.2.1
      have h2 := (h.2 b hb).2.2.1
      rw [e] at h1
      exact hab (h1.symm.trans h2)
  · intro x hx
    obtain ⟨m, hm, rfl⟩ := List.mem_map.mp hx
    have := h.2 m hm
    have h2 := hB.me m this.1 (by omega)
    omega
theorem gV_add {B : zS} {n u m : Int} {l : List Int} (h : gV B n u l) (h1 : 0 ≤ m) (h2 : m < B 17 0) (h3 : B 13 (10 * B 6 m + n) = m) (h4 : B 6 m < u) : gV B n u (gAdd B l m) := by
  unfold gAdd
  split
  · rename_i hc
    simp only [Bool.and_eq_true, Bool.not_eq_true', decide_eq_false_iff_not] at hc
    refine ⟨?_, ?_⟩
    · rw [List.nodup_append]
      refine ⟨h.1, by simp, ?_⟩
      intro a ha b hb
      rw [List.mem_singleton.mp hb]
      exact fun e => hc.2 (e ▸ ha)
    · intro x hx
      rcases List.mem_append.mp hx with hx | hx
      · exact h.2 x hx
      · rw [List.mem_singleton.mp hx]
        exact ⟨h1, h2, h3, h4⟩
  · exact h
theorem gV_nil {B : zS} {n u : Int} : gV B n u [] := ⟨List.nodup_nil, fun m hm => by cases hm⟩
theorem gV_mono {B : zS} {n u v : Int} {l : List Int} (h : gV B n u l) (huv : u ≤ v) : gV B n v l := ⟨h.1, fun m hm => by have := h.2 m hm; exact ⟨this.1, this.2.1, this.2.2.1, by omega⟩⟩
theorem gV_fold {B : zS} {n u : Int} (l : List Int) : ∀ (acc : List Int), gV B n u acc → (∀ m, m ∈ l → 0 ≤ m ∧ m < B 17 0 ∧ B 13 (10 * B 6 m + n) = m ∧ B 6 m < u) → gV B n u (l.foldl (gAdd B) acc) := by
  induction l with
  | nil => intro acc h _; exact h
  | cons a l ih =>
    intro acc h hl
    have ha := hl a (by simp)
    exact ih _ (gV_add h ha.1 ha.2.1 ha.2.2.1 ha.2.2.2) (fun m hm => hl m (by simp [hm]))
theorem gV_giv {B : zS} {H : Int → List Int} {t n : Int} (hB : Bd B) (h0 : 0 ≤ t) (h1 : t < 16) (hH : ∀ p, 0 ≤ p → p < t → gV B n (p + 1) (H p)) : gV B n t (gGiv B H t) := by
  refine gV_fold _ _ gV_nil ?_
  intro m hm
  obtain ⟨p, hp, hm⟩ := List.mem_flatMap.mp hm
  obtain ⟨i, a, b, rfl⟩ := zl_mem.mp hp
  have hl := gPa_lt hB h0 h1 a b
  have := (hH _ hl.1 hl.2).2 m hm
  exact ⟨this.1, this.2.1, this.2.2.1, by omega⟩
theorem gV_had {B : zS} {A : Int → Int} {H : Int → List Int} {t n : Int} (hB : Bd B) (h0 : 0 ≤ t) (h1 : t < 16) (h2 : 0 ≤ n) (h3 : n < 10) (hH : ∀ p, 0 ≤ p → p < t → gV B n (p + 1) (H p)) : gV B n (t + 1) (gHad B A H t n) := by
  unfold gHad
  split
  · have h := gV_mono (gV_giv hB h0 h1 hH) (show t ≤ t + 1 by omega)
    exact ⟨List.Pairwise.filter _ h.1, fun m hm => h.2 m (List.mem_filter.mp hm).1⟩
  · rename_i ho
    have h := hB.ow (10 * t + n) (by omega) (by omega)
    have h4 := hB.oo t n h0 h1 h2 h3 ho
    refine ⟨by simp, fun m hm => ?_⟩
    rw [List.mem_singleton.mp hm, h4]
    exact ⟨by omega, by omega, rfl, by omega⟩
theorem zfm_congr {H H' : Int → List Int} : ∀ (l : List Int), (∀ p, p ∈ l → H p = H' p) → l.flatMap H = l.flatMap H'
  | [], _ => rfl
  | a :: l, h => by rw [List.flatMap_cons, List.flatMap_cons, h a (by simp), zfm_congr l (fun p hp => h p (by simp [hp]))]
/-- what is given and had rests on lesser types alone -/
theorem gGiv_congr {B : zS} {H H' : Int → List Int} {t : Int} (hB : Bd B) (h0 : 0 ≤ t) (h1 : t < 16) (h : ∀ p, 0 ≤ p → p < t → H p = H' p) : gGiv B H t = gGiv B H' t := by
  unfold gGiv
  congr 1
  apply zfm_congr
  intro p hp
  obtain ⟨i, a, b, rfl⟩ := zl_mem.mp hp
  have hl := gPa_lt hB h0 h1 a b
  exact h _ hl.1 hl.2
