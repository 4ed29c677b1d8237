theorem z_rk : ∀ y, y < 117 → zRk y ≤ 2 := by decide +kernel
theorem z_args {ad : Nat → Nat} {as : List zW} {i j : Nat} {v : zW} (h : as[j]? = some v) : (i + j, zc ad v) ∈ lv_args i (as.map (zc ad)) := by
  induction as generalizing i j with
  | nil => simp at h
  | cons a l ih =>
    simp only [List.map_cons, lv_args, zc_cat]
    cases j with
    | zero =>
      simp only [List.getElem?_cons_zero, Option.some.injEq] at h
      subst h
      simp
    | succ j =>
      simp only [List.getElem?_cons_succ] at h
      have := ih (i := i + 1) h
      rw [show i + 1 + j = i + (j + 1) by omega] at this
      exact List.mem_cons_of_mem _ (by simpa using this)
theorem z_lgs {as : List zW} {n j : Nat} {v : zW} (h : zlg (as.map some ++ List.replicate n none) j = some v) : as[j]? = some v := by
  induction as generalizing j with
  | nil =>
    exfalso
    simp only [List.map_nil, List.nil_append] at h
    induction n generalizing j with
    | zero => simp [zlg] at h
    | succ n ih =>
      rw [List.replicate_succ] at h
      cases j with
      | zero => simp [zlg] at h
      | succ j => simp only [zlg] at h; exact ih h
  | cons a l ih =>
    cases j with
    | zero => simp only [List.map_cons, List.cons_append, zlg] at h; simpa using h
    | succ j => simp only [List.map_cons, List.cons_append, zlg] at h; simpa using ih h
theorem z_sl (ad : Nat → Nat) (as : List zW) : (lg_sl (as.map (zc ad))).length = as.length := by
  induction as with
  | nil => rfl
  | cons a l ih =>
    simp only [lg_sl, List.map_cons, List.flatMap_cons, zc_cat, List.length_append, List.length_cons] at ih ⊢
    simp [ih]
    omega
/-- a method by its body -/
theorem zM_of {y : Nat} {dom : Nat → Bool} {as : List zW} {σ : zS} {Q : Int → zS → Prop} (hy : y < 117) (hlen : as.length ≤ zL y) (h : zV y dom Q 0 (as.map some ++ List.replicate (zL y - as.length) none) [] σ) : zM y dom as σ Q := by
  intro l D ad cI cZ sz
  obtain ⟨e1, e2, e3, e4, e5, e6⟩ := z_ye y hy
  refine Met.ofW (cc := zB y) (maxL := zL y) (ret := zRt (zRk y)) e2 rfl ?_
  intro p e s m args below meth c s₁ B hml hv
  obtain ⟨rfl, hsz, hP, hK, hD0⟩ := hv
  have hts := atoms_spec (ws := zws y) B.pre
  have hown := findClass_of_methodNamed B.named
  have hlocks := B.notSynchronized
  have hx := B.exec
  have hb := B.bytes
  have hr := B.returns
  subst hsz
  have hD := hD0.self (sz := s.heap.size)
  generalize hAe : va_A (zwd dom ad cI cZ σ) s.heap.size = A at hD ⊢
  have hA : ∀ q : Nat, s.heap.size ≤ q → A q := fun q h => by rw [← hAe]; exact Or.inr h
  have hl := lv_entry (as.map (zc ad)) (n := zL y) (by rw [z_sl]; exact hlen)
  rw [lg_entry_eq]
  refine h p l e s m _ below meth c D ad cI cZ A _ ⟨hx, hb, hml, by rw [← e1]; exact hown, fun w hw => hts w (List.mem_cons_of_mem _ hw), hK, hA⟩ ?_ s.heap [] _ hP hD va_S.rf ⟨hl.1, hl.2.1, fun q hq => ?_⟩
  · intro pc' H locs ls x σ' hend hfit hQ hP hD hS
    by_cases h0 : zRk y = 0
    · rw [zEnd, if_pos h0] at hend
      rw [zst, if_pos h0]
      rw [zfit, if_neg (by omega)] at hfit
      have hx0 := hfit h0
      subst hx0
      rw [h0] at hr
      exact W.vret hx hb hr (fun t ht hW => by rw [zQ, if_pos h0]; exact ⟨⟨σ', rfl, hQ, by rw [ht]; exact hP, va_K.moved hW.alike hK, hD⟩, hS.F ht⟩) hS.2.2 hend
    · rw [zEnd, if_neg h0] at hend
      rw [zst, if_neg h0]
      by_cases h1 : zRk y = 1
      · rw [h1] at hr
        exact W.iret hx hb hr (fun t ht hW => by rw [zQ, if_neg h0]; exact ⟨⟨_, σ', rfl, ⟨x, rfl, hQ⟩, by rw [ht]; exact hP, va_K.moved hW.alike hK, hD⟩, hS.F ht⟩) hS.2.2 hend
      · have hr2 : meth.sig.returnType = some .boolean := by rw [hr, zRt, if_neg h0, if_neg h1]
        have hn : narrow .boolean (.int (Int32.ofInt x)) = .int (Int32.ofInt x) := by
          have hk : zRk y = 2 := by
            have := z_rk y hy
            omega
          rw [zfit, if_pos hk] at hfit
          rcases hfit with rfl | rfl <;> decide +kernel
        exact W.zret hx hb hr2 hn (fun t ht hW => by rw [zQ, if_neg h0]; exact ⟨⟨_, σ', rfl, ⟨x, rfl, hQ⟩, by rw [ht]; exact hP, va_K.moved hW.alike hK, hD⟩, hS.F ht⟩) hS.2.2 hend
  · obtain ⟨j, v, h1, rfl⟩ := zloc_mem hq
    exact hl.2.2 _ (z_args (z_lgs h1))
