/-! both sides, a call at a time -/
def EE (σ : zS) : Prop := IX σ ∧ IM σ ∧ bX σ = bM σ ∧ σ 5 3 = σ 31 25 ∧ (¬ σ 5 3 = 0 → -4 - σ 5 6 = σ 31 26 ∧ σ 5 4 = σ 31 27 ∧ σ 5 5 = σ 31 28)
theorem bX_N {σ σ' : zS} (h : zN σ σ') : bX σ' = bX σ := by
  funext c
  match c with
  | 0 => exact h 6 (by decide)
  | 1 => exact h 7 (by decide)
  | 2 => exact h 8 (by decide)
  | 3 => exact h 11 (by decide)
  | 4 => exact h 10 (by decide)
  | 5 => exact h 9 (by decide)
  | 6 => exact h 17 (by decide)
  | 7 => exact h 18 (by decide)
  | 8 => exact h 23 (by decide)
  | 9 => exact h 19 (by decide)
  | 10 => exact h 20 (by decide)
  | 11 => exact h 21 (by decide)
  | 12 => exact h 22 (by decide)
  | 13 => exact h 24 (by decide)
  | 14 => exact h 14 (by decide)
  | 15 => exact h 15 (by decide)
  | 16 => funext i; exact congrFun (h 1 (by decide)) 0
  | 17 => funext i; exact congrFun (h 2 (by decide)) 0
  | n + 18 => rfl
theorem IX_N {σ σ' : zS} (h : zN σ σ') (hI : IX σ) : IX σ' := by
  have eB := bX_N h
  exact IX_keep hI (by rw [eB]; exact hI.1) (by rw [eB]) (by rw [eB]) (by rw [eB]) (by rw [eB]) (by rw [eB]) (by rw [eB]) (by rw [eB]) (by rw [eB]) (by rw [h 1 (by decide)]) (h 12 (by decide)) (h 13 (by decide)) (h 25 (by decide)) (h 26 (by decide)) (h 27 (by decide)) (h 5 (by decide))
theorem mm_X {σ σ' : zS} (h : zX σ σ') : zmm (List.range 31) [] σ σ' := ⟨fun c hc _ => h c (Nat.not_lt.mp (fun z => hc (List.mem_range.mpr z))), fun j _ => by rw [h 31 (by decide)]⟩
theorem bM_X {σ σ' : zS} (h : zX σ σ') : bM σ' = bM σ := bM_mm (mm_X h) (by decide) (by decide) (by decide)
theorem IM_X {σ σ' : zS} (h : zX σ σ') (hI : IM σ) : IM σ' := by
  have eB := bM_X h
  obtain ⟨i1, i2, i3⟩ := hI
  refine ⟨by rw [eB]; exact i1, ?_, ?_⟩
  · rw [h 31 (by decide)]
    rcases i2 with z | z
    · exact Or.inl z
    · exact Or.inr ⟨z.1, FM_sm i1 (mm_X h) (by decide) (by decide) (by decide) z.2⟩
  · rw [h 31 (by decide), h 39 (by decide), h 46 (by decide)]
    exact i3
theorem EE_step {σ σ1 σ2 : zS} (hE : EE σ) (hx : zX σ σ1) (hI1 : IX σ1) (h5 : σ1 5 = σ 5) (hn : zN σ1 σ2) (hI2 : IM σ2) (hl : mL σ1 σ2) (hb : bX σ1 = bM σ2) : EE σ2 := by
  obtain ⟨-, -, -, e3, e4⟩ := hE
  obtain ⟨l1, l2, l3, l4⟩ := hl
  refine ⟨IX_N hn hI1, hI2, by rw [bX_N hn]; exact hb, ?_, fun z => ?_⟩
  · rw [hn 5 (by decide), h5, l1, hx 31 (by decide)]; exact e3
  · rw [hn 5 (by decide), h5] at z ⊢
    rw [l2, l3, l4, hx 31 (by decide)]
    exact e4 z
section PR
variable {σ : zS}
/-- the answers are the same, and both sides still agree -/
abbrev kEq (y : Nat) (as : List zW) (r : Int) (σ1 : zS) : Prop := zM y zF (.inr 31 :: as) σ1 (fun r' σ2 => r = r' ∧ EE σ2)
theorem EE.f (h : EE σ) : σ 1 0 = σ 31 0 ∧ σ 2 0 = σ 31 7 ∧ σ 6 = σ 32 ∧ σ 7 = σ 33 ∧ σ 8 = σ 35 ∧ σ 11 = σ 34 ∧ σ 18 = σ 40 ∧ σ 24 = σ 46 ∧ σ 14 = σ 47 :=
  ⟨congrFun (congrFun h.2.2.1 16) 0, congrFun (congrFun h.2.2.1 17) 0, congrFun h.2.2.1 0, congrFun h.2.2.1 1, congrFun h.2.2.1 2, congrFun h.2.2.1 3, congrFun h.2.2.1 7, congrFun h.2.2.1 13, congrFun h.2.2.1 14⟩
theorem p_type {k : Int} (hE : EE σ) (hk : zr k) : zM 56 zF [.inr 0, .inl k] σ (kEq 97 [.inl k]) := by
  obtain ⟨f0, f1, f2, f3, f4, f5, f6, f7, f8⟩ := hE.f
  refine xp_type hE.1 hk (fun a => ?_) (fun a b c => ?_) (fun a b c σ1 hx hI1 h5 hb => ?_)
  · exact mp_type hE.2.1 hk (fun _ => ⟨rfl, hE⟩) (fun z1 z2 => False.elim (by omega)) (fun z1 z2 => False.elim (by omega))
  · exact mp_type hE.2.1 hk (fun z => False.elim (by omega)) (fun _ _ _ => ⟨rfl, hE⟩) (fun z1 z2 z3 => False.elim (by omega))
  · have e31 : σ1 31 = σ 31 := hx 31 (by decide)
    refine mp_type (IM_X hx hE.2.1) hk (fun z => False.elim (by omega)) (fun z1 z2 z3 => False.elim (by rw [e31] at z3; omega)) (fun _ _ _ σ2 hn hI2 hl hb2 => ⟨by rw [e31]; exact f0, ?_⟩)
    exact EE_step hE hx hI1 h5 hn hI2 hl (by rw [hb, hb2, bM_X hx, hE.2.2.1])
theorem p_extend {t s : Int} (hE : EE σ) (ht : zr t) (hs : zr s) : zM 57 zF [.inr 0, .inl t, .inl s] σ (kEq 98 [.inl t, .inl s]) := by
  obtain ⟨f0, f1, f2, f3, f4, f5, f6, f7, f8⟩ := hE.f
  refine xp_extend hE.1 ht hs (fun a => ?_) (fun a1 a2 a3 a4 a5 a6 σ1 hx hI1 h5 hb => ?_)
  · rw [f0, f2] at a
    exact mp_extend hE.2.1 ht hs (fun _ => ⟨rfl, hE⟩) (fun z1 z2 z3 z4 z5 z6 => absurd ⟨z1, z2, z3, z4, z5, z6⟩ a)
  · have e31 : σ1 31 = σ 31 := hx 31 (by decide)
    rw [f0] at a2
    rw [f2] at a3 a6
    refine mp_extend (IM_X hx hE.2.1) ht hs (fun z => ?_) (fun _ _ _ _ _ _ σ2 hn hI2 hl hb2 => ⟨by rw [hx 33 (by decide), f3], ?_⟩)
    · rw [e31, hx 32 (by decide)] at z
      exact absurd ⟨a1, a2, a3, a4, a5, a6⟩ z
    · exact EE_step hE hx hI1 h5 hn hI2 hl (by rw [hb, hb2, bM_X hx, hE.2.2.1])
theorem p_face {t f : Int} (hE : EE σ) (ht : zr t) (hf : zr f) : zM 58 zF [.inr 0, .inl t, .inl f] σ (kEq 99 [.inl t, .inl f]) := by
  obtain ⟨f0, f1, f2, f3, f4, f5, f6, f7, f8⟩ := hE.f
  refine xp_face hE.1 ht hf (fun a => ?_) (fun a1 a2 a3 a4 a5 j j0 j1 j2 => ?_) (fun a1 a2 a3 a4 a5 a6 a7 => ?_) (fun a1 a2 a3 a4 a5 a6 a7 σ1 hx hI1 h5 hb => ?_)
  · rw [f0, f2] at a
    exact mp_face hE.2.1 ht hf (fun _ => ⟨rfl, hE⟩) (fun z1 z2 z3 z4 z5 => absurd ⟨z1, z2, z3, z4, z5⟩ a) (fun z1 z2 z3 z4 z5 => absurd ⟨z1, z2, z3, z4, z5⟩ a) (fun z1 z2 z3 z4 z5 => absurd ⟨z1, z2, z3, z4, z5⟩ a)
  · rw [f0] at a2
    rw [f2] at a5
    rw [f4] at j1
    rw [f5] at j2
    exact mp_face hE.2.1 ht hf (fun z => absurd ⟨a1, a2, a3, a4, a5⟩ z) (fun _ _ _ _ _ _ _ _ _ => ⟨rfl, hE⟩) (fun _ _ _ _ _ z => absurd j2 (z j j0 j1)) (fun _ _ _ _ _ z => absurd j2 (z j j0 j1))
  · rw [f0] at a2
    rw [f2] at a5
    rw [f4, f5] at a6
    rw [f4] at a7
    exact mp_face hE.2.1 ht hf (fun z => absurd ⟨a1, a2, a3, a4, a5⟩ z) (fun _ _ _ _ _ j j0 j1 j2 => absurd j2 (a6 j j0 j1)) (fun _ _ _ _ _ _ _ => ⟨rfl, hE⟩) (fun _ _ _ _ _ _ z => False.elim (by omega))
  · have e31 : σ1 31 = σ 31 := hx 31 (by decide)
    have e32 : σ1 32 = σ 32 := hx 32 (by decide)
    have e34 : σ1 34 = σ 34 := hx 34 (by decide)
    have e35 : σ1 35 = σ 35 := hx 35 (by decide)
    rw [f0, ← e31] at a2
    rw [f2, ← e32] at a5
    rw [f4, f5, ← e34, ← e35] at a6
    rw [f4, ← e35] at a7
    refine mp_face (IM_X hx hE.2.1) ht hf (fun z => absurd ⟨a1, a2, a3, a4, a5⟩ z) (fun _ _ _ _ _ j j0 j1 j2 => absurd j2 (a6 j j0 j1)) (fun _ _ _ _ _ _ z => False.elim (by omega)) (fun _ _ _ _ _ _ _ σ2 hn hI2 hl hb2 => ⟨by rw [e35, f4], ?_⟩)
    exact EE_step hE hx hI1 h5 hn hI2 hl (by rw [hb, hb2, bM_X hx, hE.2.2.1])
theorem p_seal {f t : Int} (hE : EE σ) (hf : zr f) (ht : zr t) : zM 59 zF [.inr 0, .inl f, .inl t] σ (kEq 100 [.inl f, .inl t]) := by
  obtain ⟨f0, f1, f2, f3, f4, f5, f6, f7, f8⟩ := hE.f
  refine xp_seal hE.1 hf ht (fun a => ?_) (fun a1 a2 a3 a4 σ1 hx hI1 h5 hb => ?_)
  · rw [f0, f2] at a
    exact mp_seal hE.2.1 hf ht (fun _ => ⟨rfl, hE⟩) (fun z1 z2 z3 z4 => absurd ⟨z1, z2, z3, z4⟩ a)
  · have e31 : σ1 31 = σ 31 := hx 31 (by decide)
    have e32 : σ1 32 = σ 32 := hx 32 (by decide)
    rw [f0, ← e31] at a2 a4
    rw [f2, ← e32] at a3
    refine mp_seal (IM_X hx hE.2.1) hf ht (fun z => absurd ⟨a1, a2, a3, a4⟩ z) (fun _ _ _ _ σ2 hn hI2 hl hb2 => ⟨rfl, ?_⟩)
    exact EE_step hE hx hI1 h5 hn hI2 hl (by rw [hb, hb2, bM_X hx, hE.2.2.1])
theorem p_member {t n s r : Int} (hE : EE σ) (ht : zr t) (hn : zr n) (hs : zr s) (hr : zr r) : zM 60 zF [.inr 0, .inl t, .inl n, .inl s, .inl r] σ (kEq 101 [.inl t, .inl n, .inl s, .inl r]) := by
  obtain ⟨f0, f1, f2, f3, f4, f5, f6, f7, f8⟩ := hE.f
  refine xp_member hE.1 ht hn hs hr (fun a => ?_) (fun a b => ?_) (fun a b c => ?_) (fun a b c σ1 hx hI1 h5 hb => ?_)
  · rw [f0, f2] at a
    exact mp_member hE.2.1 ht hn hs hr (fun _ => ⟨rfl, hE⟩) (fun z => absurd z a) (fun z => absurd z a) (fun z => absurd z a)
  · rw [f0, f2] at a
    rw [f7] at b
    exact mp_member hE.2.1 ht hn hs hr (fun z => absurd a z) (fun _ _ => ⟨rfl, hE⟩) (fun _ z => absurd z b) (fun _ z => absurd z b)
  · rw [f0, f2] at a
    rw [f7] at b
    rw [f1] at c
    exact mp_member hE.2.1 ht hn hs hr (fun z => absurd a z) (fun _ z => absurd b z) (fun _ _ _ => ⟨rfl, hE⟩) (fun _ _ z => False.elim (by omega))
  · have e31 : σ1 31 = σ 31 := hx 31 (by decide)
    have e32 : σ1 32 = σ 32 := hx 32 (by decide)
    have e46 : σ1 46 = σ 46 := hx 46 (by decide)
    rw [f0, f2, ← e31, ← e32] at a
    rw [f7, ← e46] at b
    rw [f1, ← e31] at c
    refine mp_member (IM_X hx hE.2.1) ht hn hs hr (fun z => absurd a z) (fun _ z => absurd b z) (fun _ _ z => False.elim (by omega)) (fun _ _ _ σ2 hn hI2 hl hb2 => ⟨by rw [e31, f1], ?_⟩)
    exact EE_step hE hx hI1 h5 hn hI2 hl (by rw [hb, hb2, bM_X hx, hE.2.2.1])
theorem p_does {m a k u n : Int} (hE : EE σ) (hm : zr m) (ha : zr a) (hk : zr k) (hu : zr u) (hn : zr n) : zM 61 zF [.inr 0, .inl m, .inl a, .inl k, .inl u, .inl n] σ (kEq 102 [.inl m, .inl a, .inl k, .inl u, .inl n]) := by
  obtain ⟨f0, f1, f2, f3, f4, f5, f6, f7, f8⟩ := hE.f
  refine xp_does hE.1 hm ha hk hu hn (fun z => ?_) (fun a1 a2 a3 a4 a5 a6 σ1 hx hI1 h5 hb => ?_)
  · rw [f1, f6, hE.2.2.1] at z
    exact mp_does hE.2.1 hm ha hk hu hn (fun _ => ⟨rfl, hE⟩) (fun z1 z2 z3 z4 z5 z6 => absurd ⟨z1, z2, z3, z4, z5, z6⟩ z)
  · have e31 : σ1 31 = σ 31 := hx 31 (by decide)
    have e40 : σ1 40 = σ 40 := hx 40 (by decide)
    have eB := bM_X hx
    rw [f1, ← e31] at a2
    rw [f6, ← e40] at a3
    rw [hE.2.2.1, ← eB] at a6
    refine mp_does (IM_X hx hE.2.1) hm ha hk hu hn (fun z => absurd ⟨a1, a2, a3, a4, a5, a6⟩ z) (fun _ _ _ _ _ _ σ2 hn hI2 hl hb2 => ⟨rfl, ?_⟩)
    exact EE_step hE hx hI1 h5 hn hI2 hl (by rw [hb, hb2, eB, hE.2.2.1])
theorem p_constant {t c v : Int} (hE : EE σ) (ht : zr t) (hc : zr c) (hv : zr v) : zM 62 zF [.inr 0, .inl t, .inl c, .inl v] σ (kEq 103 [.inl t, .inl c, .inl v]) := by
  obtain ⟨f0, f1, f2, f3, f4, f5, f6, f7, f8⟩ := hE.f
  refine xp_constant hE.1 ht hc hv (fun z => ?_) (fun a1 a2 a3 a4 a5 => ?_) (fun a1 a2 a3 a4 a5 σ1 hx hI1 h5 hb => ?_)
  · rw [f0] at z
    exact mp_constant hE.2.1 ht hc hv (fun _ => ⟨rfl, hE⟩) (fun z1 z2 z3 z4 => absurd ⟨z1, z2, z3, z4⟩ z) (fun z1 z2 z3 z4 => absurd ⟨z1, z2, z3, z4⟩ z)
  · rw [f0] at a2
    rw [f8] at a5
    exact mp_constant hE.2.1 ht hc hv (fun z => absurd ⟨a1, a2, a3, a4⟩ z) (fun _ _ _ _ _ => ⟨rfl, hE⟩) (fun _ _ _ _ z => absurd z a5)
  · have e31 : σ1 31 = σ 31 := hx 31 (by decide)
    have e47 : σ1 47 = σ 47 := hx 47 (by decide)
    rw [f0, ← e31] at a2
    rw [f8, ← e47] at a5
    refine mp_constant (IM_X hx hE.2.1) ht hc hv (fun z => absurd ⟨a1, a2, a3, a4⟩ z) (fun _ _ _ _ z => absurd a5 z) (fun _ _ _ _ _ σ2 hn hI2 hl hb2 => ⟨rfl, ?_⟩)
    exact EE_step hE hx hI1 h5 hn hI2 hl (by rw [hb, hb2, bM_X hx, hE.2.2.1])
theorem p_has {t n i : Int} (hE : EE σ) (ht : zr t) (hn : zr n) (hi : zr i) : zM 63 zF [.inr 0, .inl t, .inl n, .inl i] σ (kEq 104 [.inl t, .inl n, .inl i]) := by
  obtain ⟨f0, f1, f2, f3, f4, f5, f6, f7, f8⟩ := hE.f
  refine xp_has hE.1 ht hn hi (fun z => ?_) (fun a1 a2 a3 a4 σ1 hx hI1 h5 hb => ?_)
  · rw [f0] at z
    exact mp_has hE.2.1 ht hn hi (fun _ => ⟨rfl, hE⟩) (fun z1 z2 z3 z4 => absurd ⟨z1, z2, z3, z4⟩ z)
  · have e31 : σ1 31 = σ 31 := hx 31 (by decide)
    rw [f0, ← e31] at a2
    refine mp_has (IM_X hx hE.2.1) ht hn hi (fun z => absurd ⟨a1, a2, a3, a4⟩ z) (fun _ _ _ _ σ2 hn hI2 hl hb2 => ⟨by rw [bM_X hx, hE.2.2.1], ?_⟩)
    exact EE_step hE hx hI1 h5 hn hI2 hl (by rw [hb, hb2, bM_X hx, hE.2.2.1])
theorem p_runs {t n : Int} (hE : EE σ) (ht : zr t) (hn : zr n) : zM 64 zF [.inr 0, .inl t, .inl n] σ (kEq 105 [.inl t, .inl n]) := by
  obtain ⟨f0, f1, f2, f3, f4, f5, f6, f7, f8⟩ := hE.f
  refine xp_runs hE.1 ht hn (fun z => ?_) (fun a1 a2 a3 a4 σ1 hx hI1 h5 hb => ?_)
  · rw [f0] at z
    exact mp_runs hE.2.1 ht hn (fun _ => ⟨rfl, hE⟩) (fun z1 z2 z3 z4 => absurd ⟨z1, z2, z3, z4⟩ z)
  · have e31 : σ1 31 = σ 31 := hx 31 (by decide)
    rw [f0, ← e31] at a2
    refine mp_runs (IM_X hx hE.2.1) ht hn (fun z => absurd ⟨a1, a2, a3, a4⟩ z) (fun _ _ _ _ σ2 hn hI2 hl hb2 => ⟨by rw [bM_X hx, hE.2.2.1], ?_⟩)
    exact EE_step hE hx hI1 h5 hn hI2 hl (by rw [hb, hb2, bM_X hx, hE.2.2.1])
theorem p_faults {t i w : Int} (hE : EE σ) (ht : zr t) (hi : zr i) (hw : zr w) : zM 65 zF [.inr 0, .inl t, .inl i, .inl w] σ (kEq 106 [.inl t, .inl i, .inl w]) := by
  obtain ⟨f0, f1, f2, f3, f4, f5, f6, f7, f8⟩ := hE.f
  refine xp_faults hE.1 ht hi hw (fun z => ?_) (fun a1 a2 σ1 hx hI1 h5 hb => ?_)
  · rw [f0] at z
    exact mp_faults hE.2.1 ht hi hw (fun _ => ⟨rfl, hE⟩) (fun z1 z2 => absurd ⟨z1, z2⟩ z)
  · have e31 : σ1 31 = σ 31 := hx 31 (by decide)
    rw [f0, ← e31] at a2
    refine mp_faults (IM_X hx hE.2.1) ht hi hw (fun z => absurd ⟨a1, a2⟩ z) (fun _ _ σ2 hn hI2 hl hb2 => ⟨by rw [bM_X hx, hE.2.2.1], ?_⟩)
    exact EE_step hE hx hI1 h5 hn hI2 hl (by rw [hb, hb2, bM_X hx, hE.2.2.1])
theorem p_functional {f : Int} (hE : EE σ) (hf : zr f) : zM 66 zF [.inr 0, .inl f] σ (kEq 107 [.inl f]) := by
  obtain ⟨f0, f1, f2, f3, f4, f5, f6, f7, f8⟩ := hE.f
  refine xp_functional hE.1 hf (fun z => ?_) (fun a1 a2 a3 σ1 hx hI1 h5 hb => ?_)
  · rw [f0, f2] at z
    exact mp_functional hE.2.1 hf (fun _ => ⟨rfl, hE⟩) (fun z1 z2 z3 => absurd ⟨z1, z2, z3⟩ z)
  · have e31 : σ1 31 = σ 31 := hx 31 (by decide)
    have e32 : σ1 32 = σ 32 := hx 32 (by decide)
    rw [f0, ← e31] at a2
    rw [f2, ← e32] at a3
    refine mp_functional (IM_X hx hE.2.1) hf (fun z => absurd ⟨a1, a2, a3⟩ z) (fun _ _ _ σ2 hn hI2 hl hb2 => ⟨by rw [bM_X hx, hE.2.2.1], ?_⟩)
    exact EE_step hE hx hI1 h5 hn hI2 hl (by rw [hb, hb2, bM_X hx, hE.2.2.1])
theorem p_sees {t c : Int} (hE : EE σ) (ht : zr t) (hc : zr c) : zM 67 zF [.inr 0, .inl t, .inl c] σ (kEq 109 [.inl t, .inl c]) := by
  obtain ⟨f0, f1, f2, f3, f4, f5, f6, f7, f8⟩ := hE.f
  refine xp_sees hE.1 ht hc (fun z => ?_) (fun a1 a2 a3 a4 σ1 hx hI1 h5 hb => ?_)
  · rw [f0] at z
    exact mp_sees hE.2.1 ht hc (fun _ => ⟨rfl, hE⟩) (fun z1 z2 z3 z4 => absurd ⟨z1, z2, z3, z4⟩ z)
  · have e31 : σ1 31 = σ 31 := hx 31 (by decide)
    rw [f0, ← e31] at a2
    refine mp_sees (IM_X hx hE.2.1) ht hc (fun z => absurd ⟨a1, a2, a3, a4⟩ z) (fun _ _ _ _ σ2 hs _ => ⟨by rw [bM_X hx, hE.2.2.1], ?_⟩)
    obtain ⟨hn, hI2, hl, hb2⟩ := s_all (IM_X hx hE.2.1) hs
    exact EE_step hE hx hI1 h5 hn hI2 hl (by rw [hb, hb2, bM_X hx, hE.2.2.1])
theorem p_value {t c : Int} (hE : EE σ) (ht : zr t) (hc : zr c) : zM 68 zF [.inr 0, .inl t, .inl c] σ (kEq 110 [.inl t, .inl c]) := by
  obtain ⟨f0, f1, f2, f3, f4, f5, f6, f7, f8⟩ := hE.f
  refine xp_value hE.1 ht hc (fun z => ?_) (fun a1 a2 a3 a4 σ1 hx hI1 h5 hb => ?_)
  · rw [f0] at z
    exact mp_value hE.2.1 ht hc (fun _ => ⟨rfl, hE⟩) (fun z1 z2 z3 z4 => absurd ⟨z1, z2, z3, z4⟩ z)
  · have e31 : σ1 31 = σ 31 := hx 31 (by decide)
    rw [f0, ← e31] at a2
    refine mp_value (IM_X hx hE.2.1) ht hc (fun z => absurd ⟨a1, a2, a3, a4⟩ z) (fun _ _ _ _ σ2 hn hI2 hl hb2 => ⟨by rw [bM_X hx, hE.2.2.1], ?_⟩)
    exact EE_step hE hx hI1 h5 hn hI2 hl (by rw [hb, hb2, bM_X hx, hE.2.2.1])
theorem p_below {t u : Int} (hE : EE σ) (ht : zr t) (hu : zr u) : zM 69 zF [.inr 0, .inl t, .inl u] σ (kEq 111 [.inl t, .inl u]) := by
  obtain ⟨f0, f1, f2, f3, f4, f5, f6, f7, f8⟩ := hE.f
  refine xp_below hE.1 ht hu (fun z => ?_) (fun a1 a2 a3 a4 => ?_)
  · rw [f0] at z
    exact mp_below hE.2.1 ht hu (fun _ => ⟨rfl, hE⟩) (fun z1 z2 z3 z4 => absurd ⟨z1, z2, z3, z4⟩ z)
  · rw [f0] at a2 a4
    refine mp_below hE.2.1 ht hu (fun z => absurd ⟨a1, a2, a3, a4⟩ z) (fun _ _ _ _ σ2 hn hI2 hl hb2 => ⟨by rw [hE.2.2.1], ?_⟩)
    exact EE_step hE zX_rf hE.1 rfl hn hI2 hl (by rw [hb2, hE.2.2.1])
theorem p_call {t n : Int} (hE : EE σ) (ht : zr t) (hn : zr n) : zM 70 zF [.inr 0, .inl t, .inl n] σ (kEq 113 [.inl t, .inl n]) := by
  obtain ⟨f0, f1, f2, f3, f4, f5, f6, f7, f8⟩ := hE.f
  refine xp_call hE.1 ht hn (fun z => ?_) (fun a1 a2 a3 a4 a5 σ1 hx hI1 h3 h4 h5 h6 hb => ?_)
  · rw [f0, f2] at z
    exact mp_call hE.2.1 ht hn (fun _ => ⟨rfl, hE⟩) (fun z1 z2 z3 z4 z5 => absurd ⟨z1, z2, z3, z4, z5⟩ z)
  · have e31 : σ1 31 = σ 31 := hx 31 (by decide)
    have e32 : σ1 32 = σ 32 := hx 32 (by decide)
    rw [f0, ← e31] at a2
    rw [f2, ← e32] at a3
    refine mp_call (IM_X hx hE.2.1) ht hn (fun z => absurd ⟨a1, a2, a3, a4, a5⟩ z) (fun _ _ _ _ _ σ2 hn hI2 g25 g27 g28 g26 hb2 => ⟨by rw [bM_X hx, hE.2.2.1], ?_⟩)
    rw [bM_X hx, ← hE.2.2.1] at g27 g28 g26
    refine ⟨IX_N hn hI1, hI2, by rw [bX_N hn, hb, hb2, bM_X hx, hE.2.2.1], ?_, fun _ => ?_⟩
    · rw [hn 5 (by decide), h3, g25]
    · rw [hn 5 (by decide), h4, h5, h6, g26, g27, g28]
      refine ⟨?_, rfl, rfl⟩
      split
      · rfl
      · rfl
theorem p_latest {w : Int} (hE : EE σ) (hw : zr w) : zM 71 zF [.inr 0, .inl w] σ (kEq 114 [.inl w]) := by
  have e3 := hE.2.2.2.1
  have e4 := hE.2.2.2.2
  have hp := hE.1.2.2.2.1
  have bad : (σ 5 3 = 0 ∨ w < 0 ∨ 2 < w) → kEq 114 [.inl w] (-1) σ := fun z => mp_latest hE.2.1 hw (fun _ => ⟨rfl, hE⟩) (fun z1 z2 => False.elim (by clear e4; omega)) (fun z1 z2 => False.elim (by clear e4; omega)) (fun z1 z2 => False.elim (by clear e4; omega))
  refine xp_latest hE.1 hw bad (fun z1 z2 => ?_) (fun z1 z2 => ?_) (fun z1 z2 => ?_)
  · obtain ⟨g1, g2, g3⟩ := e4 z1
    exact mp_latest hE.2.1 hw (fun z => False.elim (by omega)) (fun _ _ => ⟨g1, hE⟩) (fun _ z => False.elim (by omega)) (fun _ z => False.elim (by omega))
  · obtain ⟨g1, g2, g3⟩ := e4 z1
    exact mp_latest hE.2.1 hw (fun z => False.elim (by omega)) (fun _ z => False.elim (by omega)) (fun _ _ => ⟨g2, hE⟩) (fun _ z => False.elim (by omega))
  · obtain ⟨g1, g2, g3⟩ := e4 z1
    exact mp_latest hE.2.1 hw (fun z => False.elim (by omega)) (fun _ z => False.elim (by omega)) (fun _ z => False.elim (by omega)) (fun _ _ => ⟨g3, hE⟩)
theorem p_told {w : Int} (hE : EE σ) (hw : zr w) : zM 72 zF [.inr 0, .inl w] σ (kEq 115 [.inl w]) := by
  obtain ⟨f0, f1, f2, f3, f4, f5, f6, f7, f8⟩ := hE.f
  refine xp_told hE.1 hw (fun z => ?_) (fun z => ?_) (fun z => ?_) (fun z σ1 hx hI1 h5 hb => ?_)
  · exact mp_told hE.2.1 hw (fun _ => ⟨rfl, hE⟩) (fun z1 => False.elim (by omega)) (fun z1 => False.elim (by omega)) (fun z1 => False.elim (by omega))
  · exact mp_told hE.2.1 hw (fun z1 => False.elim (by omega)) (fun _ => ⟨f0, hE⟩) (fun z1 => False.elim (by omega)) (fun z1 => False.elim (by omega))
  · exact mp_told hE.2.1 hw (fun z1 => False.elim (by omega)) (fun z1 => False.elim (by omega)) (fun _ => ⟨f1, hE⟩) (fun z1 => False.elim (by omega))
  · have e31 : σ1 31 = σ 31 := hx 31 (by decide)
    refine mp_told (IM_X hx hE.2.1) hw (fun z1 => False.elim (by omega)) (fun z1 => False.elim (by omega)) (fun z1 => False.elim (by omega)) (fun _ σ2 hn hI2 hl hb2 => ⟨by rw [bM_X hx, hE.2.2.1, f0, e31], ?_⟩)
    exact EE_step hE hx hI1 h5 hn hI2 hl (by rw [hb, hb2, bM_X hx, hE.2.2.1])
end PR
