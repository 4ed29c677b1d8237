/-! what the base state becomes -/
def oType (B : zS) (k : Int) : zS
  | 0 => fun i => if i = B 16 0 then k else B 0 i
  | 16 => fun _ => B 16 0 + 1
  | c => B c
def oExt (B : zS) (t s : Int) : zS
  | 1 => fun i => if i = t then s else B 1 i
  | c => B c
def oFace (B : zS) (t f : Int) : zS
  | 2 => fun i => if i = t then B 2 t + 1 else B 2 i
  | 3 => fun i => if i = 4 * t + B 2 t then f else B 3 i
  | c => B c
noncomputable def oSeal (B : zS) (f t : Int) : zS
  | 4 => fun i => if i = f then 1 else B 4 i
  | 5 => fun i => if i = f then (if t = -4 then B 5 f else zor (B 5 f) (zshl 1 t)) else B 5 i
  | c => B c
def oMem (B : zS) (t n s r : Int) : zS
  | 6 => fun i => if i = B 17 0 then t else B 6 i
  | 7 => fun i => if i = B 17 0 then s else B 7 i
  | 8 => fun i => if i = B 17 0 then r else B 8 i
  | 13 => fun i => if i = 10 * t + n then B 17 0 else B 13 i
  | 17 => fun _ => B 17 0 + 1
  | c => B c
def oDoes (B : zS) (m a k u n : Int) : zS
  | 9 => fun i => if i = m then a else B 9 i
  | 10 => fun i => if i = m then k else B 10 i
  | 11 => fun i => if i = m then u else B 11 i
  | 12 => fun i => if i = m then n else B 12 i
  | c => B c
def oCon (B : zS) (t c v : Int) : zS
  | 14 => fun i => if i = 4 * t + c then 1 else B 14 i
  | 15 => fun i => if i = 4 * t + c then v else B 15 i
  | c => B c
set_option maxHeartbeats 1000000 in
theorem Bd_type {B : zS} {k : Int} (h : Bd B) (h1 : B 16 0 < 16) (h2 : 0 ≤ k) (h3 : k ≤ 2) : Bd (oType B k) := by
  have hn := h.n
  refine ⟨?_, ?_, ?_, ?_, ?_, ?_, ?_, ?_, ?_, ?_, ?_, ?_, ?_, ?_, ?_⟩
  · simp only [oType]; omega
  · intro t a b; simp only [oType]; have := h.kind t a b; split <;> omega
  · exact h.sup
  · exact h.fc
  · exact h.fj
  · intro t i a b c d
    simp only [oType] at d ⊢
    have hf := h.fa t i a b c d
    refine ⟨hf.1, ?_⟩
    rw [if_neg ?_]
    · exact hf.2
    · intro e
      have := h.f0 t
      omega
  · exact h.se
  · exact h.me
  · intro m a b
    simp only [oType] at b ⊢
    obtain ⟨c1, c2, c3, c4, c5⟩ := h.mm m a b
    refine ⟨by omega, c2, c3, fun z => ?_, fun z => ?_⟩
    · have := c4 z
      refine ⟨by omega, by omega, ?_⟩
      rw [if_neg (by omega)]
      exact this.2.2
    · have := c5 z
      omega
  · exact h.ow
  · exact h.oo
  · exact h.co
  · simp only [oType]; rw [if_neg (by omega)]; exact h.k0
  · intro t a b; simp only [oType] at a ⊢; exact h.f0 t (by omega) b
  · exact h.c0
set_option maxHeartbeats 1000000 in
theorem Bd_ext {B : zS} {t s : Int} (h : Bd B) (h1 : 0 < t) (h2 : t < 16) (h3 : 0 ≤ s) (h4 : s < t) : Bd (oExt B t s) := by
  have hn := h.n
  refine ⟨?_, ?_, ?_, ?_, ?_, ?_, ?_, ?_, ?_, ?_, ?_, ?_, ?_, ?_, ?_⟩
  · exact h.n
  · exact h.kind
  · intro u a b
    simp only [oExt]
    have := h.sup u a b
    split <;> omega
  · exact h.fc
  · exact h.fj
  · exact h.fa
  · exact h.se
  · exact h.me
  · exact h.mm
  · exact h.ow
  · exact h.oo
  · exact h.co
  · exact h.k0
  · exact h.f0
  · exact h.c0
set_option maxHeartbeats 1000000 in
theorem Bd_face {B : zS} {t f : Int} (h : Bd B) (h1 : 0 < t) (h2 : t < B 16 0) (h3 : 0 ≤ f) (h4 : f < t) (h5 : B 0 f = 2) (h6 : B 2 t < 4) : Bd (oFace B t f) := by
  have hn := h.n
  refine ⟨?_, ?_, ?_, ?_, ?_, ?_, ?_, ?_, ?_, ?_, ?_, ?_, ?_, ?_, ?_⟩
  · exact h.n
  · exact h.kind
  · exact h.sup
  · intro u a b
    simp only [oFace]
    have := h.fc u a b
    have := h.fc t (by omega) (by omega)
    split <;> omega
  · intro j a b
    simp only [oFace]
    have := h.fj j a b
    split <;> omega
  · intro u i a b c d
    simp only [oFace] at d ⊢
    have hc := h.fc u a b
    have hct := h.fc t (by omega) (by omega)
    by_cases e : u = t
    · subst e
      rw [if_pos rfl] at d
      by_cases e2 : i = B 2 u
      · subst e2
        rw [if_pos rfl]
        exact ⟨h4, h5⟩
      · rw [if_neg (by omega)]
        exact h.fa u i a b c (by omega)
    · rw [if_neg e] at d
      rw [if_neg (by omega)]
      exact h.fa u i a b c d
  · exact h.se
  · exact h.me
  · exact h.mm
  · exact h.ow
  · exact h.oo
  · exact h.co
  · exact h.k0
  · intro u a b
    simp only [oFace] at a ⊢
    rw [if_neg (by omega)]
    exact h.f0 u a b
  · exact h.c0
set_option maxHeartbeats 1000000 in
theorem Bd_seal {B : zS} {f t : Int} (h : Bd B)  : Bd (oSeal B f t) := by
  have hn := h.n
  refine ⟨?_, ?_, ?_, ?_, ?_, ?_, ?_, ?_, ?_, ?_, ?_, ?_, ?_, ?_, ?_⟩
  · exact h.n
  · exact h.kind
  · exact h.sup
  · exact h.fc
  · exact h.fj
  · exact h.fa
  · intro u a b
    simp only [oSeal]
    have hs := h.se u a b
    by_cases e : u = f
    · subst e
      rw [if_pos rfl, if_pos rfl]
      refine ⟨Or.inr rfl, ?_⟩
      split
      · exact hs.2
      · exact zr_zor _ _
    · rw [if_neg e, if_neg e]
      exact hs
  · exact h.me
  · exact h.mm
  · exact h.ow
  · exact h.oo
  · exact h.co
  · exact h.k0
  · exact h.f0
  · exact h.c0
set_option maxHeartbeats 1000000 in
theorem Bd_mem {B : zS} {t n s r : Int} (h : Bd B) (h1 : 0 ≤ t) (h2 : t < B 16 0) (h3 : 0 ≤ n) (h4 : n < 10) (h5 : 0 ≤ s) (h6 : s ≤ 4) (h7 : 0 ≤ r) (h8 : r ≤ 3) (h9 : B 17 0 < 60) (h10 : B 13 (10 * t + n) = -4) : Bd (oMem B t n s r) := by
  have hn := h.n
  refine ⟨?_, ?_, ?_, ?_, ?_, ?_, ?_, ?_, ?_, ?_, ?_, ?_, ?_, ?_, ?_⟩
  · simp only [oMem]; omega
  · exact h.kind
  · exact h.sup
  · exact h.fc
  · exact h.fj
  · exact h.fa
  · exact h.se
  · intro m a b
    simp only [oMem]
    have := h.me m a b
    split <;> (refine ⟨?_, ?_, ?_, ?_, ?_, ?_, ?_, ?_, ?_, ?_, ?_, ?_⟩ <;> first | omega | exact this.2.2.2.2.2.2.2.2.2.2.1 | exact this.2.2.2.2.2.2.2.2.2.2.2)
  · intro m a b
    simp only [oMem] at b ⊢
    by_cases e : m = B 17 0
    · rw [if_pos e]
      have hc := h.c0 m (by omega) (by omega)
      refine ⟨h2, ⟨n, h3, h4, ?_⟩, fun z => absurd hc z, fun z => ?_, fun z => ?_⟩
      · rw [if_pos rfl]; exact e.symm
      · omega
      · omega
    · rw [if_neg e]
      obtain ⟨c1, ⟨n', d1, d2, d3⟩, c3, c4, c5⟩ := h.mm m a (by omega)
      refine ⟨c1, ⟨n', d1, d2, ?_⟩, c3, c4, c5⟩
      rw [if_neg ?_]
      · exact d3
      · intro e2
        rw [e2, h10] at d3
        omega
  · intro j a b
    simp only [oMem]
    have := h.ow j a b
    split <;> omega
  · intro u n' a b c d e
    simp only [oMem] at e ⊢
    by_cases e2 : 10 * u + n' = 10 * t + n
    · rw [if_pos e2, if_pos rfl]
      omega
    · rw [if_neg e2] at e ⊢
      have ho := h.ow (10 * u + n') (by omega) (by omega)
      rw [if_neg (by omega)]
      exact h.oo u n' a b c d e
  · exact h.co
  · exact h.k0
  · exact h.f0
  · intro m a b
    simp only [oMem] at a ⊢
    exact h.c0 m (by omega) b
set_option maxHeartbeats 1000000 in
theorem Bd_does {B : zS} {m a k u n : Int} (h : Bd B) (h1 : 0 ≤ m) (h2 : m < B 17 0) (h3 : -1000 ≤ a) (h4 : a ≤ 1000) (h5 : 0 ≤ k) (h6 : k ≤ 4) (hu : zr u) (hnn : zr n) (h7 : ¬ k = 0 → 0 ≤ n ∧ n ≤ 9) (h8 : k = 3 → 0 ≤ u ∧ u < B 16 0 ∧ B 0 u = 2) (h9 : k = 4 → 0 ≤ u ∧ u < B 16 0) : Bd (oDoes B m a k u n) := by
  have hn := h.n
  refine ⟨?_, ?_, ?_, ?_, ?_, ?_, ?_, ?_, ?_, ?_, ?_, ?_, ?_, ?_, ?_⟩
  · exact h.n
  · exact h.kind
  · exact h.sup
  · exact h.fc
  · exact h.fj
  · exact h.fa
  · exact h.se
  · intro i a b
    simp only [oDoes]
    obtain ⟨g1, g2, g3, g4, g5, g6, g7, g8, g9, g10, g11, g12⟩ := h.me i a b
    by_cases e : i = m
    · rw [if_pos e, if_pos e, if_pos e, if_pos e]
      exact ⟨g1, g2, g3, g4, g5, g6, h3, h4, h5, h6, hu, hnn⟩
    · rw [if_neg e, if_neg e, if_neg e, if_neg e]
      exact ⟨g1, g2, g3, g4, g5, g6, g7, g8, g9, g10, g11, g12⟩
  · intro i a b
    simp only [oDoes] at b ⊢
    obtain ⟨c1, c2, c3, c4, c5⟩ := h.mm i a b
    by_cases e : i = m
    · rw [if_pos e, if_pos e, if_pos e]
      exact ⟨c1, c2, h7, h8, h9⟩
    · rw [if_neg e, if_neg e, if_neg e]
      exact ⟨c1, c2, c3, c4, c5⟩
  · exact h.ow
  · exact h.oo
  · exact h.co
  · exact h.k0
  · exact h.f0
  · intro i a b
    simp only [oDoes] at a ⊢
    rw [if_neg (by omega)]
    exact h.c0 i a b
set_option maxHeartbeats 1000000 in
theorem Bd_con {B : zS} {t c v : Int} (h : Bd B) (hv : zr v) : Bd (oCon B t c v) := by
  have hn := h.n
  refine ⟨?_, ?_, ?_, ?_, ?_, ?_, ?_, ?_, ?_, ?_, ?_, ?_, ?_, ?_, ?_⟩
  · exact h.n
  · exact h.kind
  · exact h.sup
  · exact h.fc
  · exact h.fj
  · exact h.fa
  · exact h.se
  · exact h.me
  · exact h.mm
  · exact h.ow
  · exact h.oo
  · intro j a b
    simp only [oCon]
    have hs := h.co j a b
    by_cases e : j = 4 * t + c
    · rw [if_pos e, if_pos e]
      exact ⟨Or.inr rfl, hv⟩
    · rw [if_neg e, if_neg e]
      exact hs
  · exact h.k0
  · exact h.f0
  · exact h.c0
