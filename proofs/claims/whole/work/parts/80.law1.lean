/-! THE CLAIM OUT OF ONE WALK OF THE LAW'S BODY. Your part is whole_start (and what it stands on); all else here is the same for every law, but numbers. -/
def R_law : String := "InterfaceRulesLaw"
def lw_P (b : Addr) (xs : List Int32) (args : Array Value) (s : State) : Prop := args = #[.ref b] ∧ s.IntsAt b xs ∧ xs.length ≤ 3072 ∧ (Jvm.Cond.and given_1 narrow_1).before args s = true
def lw_Q (_ : Array Value) (s : State) (o : Outcome) (t : State) : Prop := o = .returned (some (.int 1)) ∧ Framed s o t [] 55 10458
def lw_Z (below : List Frame) (a : Array Value) (s : State) : State → Prop := fun t => ∃ o, t.status = .running ∧ Ended t below o ∧ lw_Q a s o t
/-- the law's own end, with 1 on the stack, nothing written that was there before, its room as the claim has it -/
theorem lw_ret {p : Program} {l : Launch} {e : Env} {s : State} {m : MethodId} {below : List Frame} {meth : Method} {c : Code} {b : Nat} (hx : p.tables.exec = Jvm.exec) (hb : c.code = code) (hr : meth.sig.returnType = ret) (hlocks : meth.locks = false) {pc : Nat} {H : Heap} {ls : Array Slot} (hdg : decode code pc = .ok (.ireturn, 1)) : W p l e room_1 s m #[Value.ref b] below meth c H [] 55 10458 (lw_Z below #[Value.ref b] s) (F0 m pc ls [.int 1]) := by
  intro T hT X
  obtain ⟨fs, hret, hrun, hended, hW, hframe⟩ := X.leave (v := some (.int 1)) (hlocks := hlocks) (fun h => by rw [hr] at h; cases h)
  have hmeth' : T.vm.method? m = some meth := X.method'
  refine ⟨T.setFrames fs, ?_, .returned (some (.int 1)), hrun, hended, rfl, ⟨_, rfl⟩, hW, hframe⟩
  jvm_step X.here [X.here.top, hx, hb, hdg, hmeth', hr, ret, narrow_b1]
  (try refine ⟨rfl, ?_⟩); (try refine ⟨rfl, ?_⟩)
  first | (intro acts; rw [hret _ acts rfl rfl rfl]) | rw [hret _ _ rfl rfl rfl]
  exact Steps.refl _
/-- what holds at the law's entry: the machine, the code, the tables' words (any of lw_tbl by 'hts w (by decide +kernel)'), the script of L ints xs at the cell b, what the Statement gives of the start (any of its parts by flat_of_before) -/
def lw_At (p : Program) (s : State) (m : MethodId) (meth : Method) (c : Code) (b L : Nat) (xs : Nat → Int32) : Prop :=
  p.tables.exec = Jvm.exec ∧ c.code = code ∧ meth.sig.returnType = ret ∧ c.maxLocals = 4 ∧ s.vm.findClass R_law = some m.cls ∧ (∀ w ∈ lw_tbl, w.before #[Value.ref b] s = true) ∧ va_X b L xs s s.heap ∧ b < s.heap.size ∧ meth.locks = false ∧ (Jvm.Cond.and given_1 narrow_1).before #[Value.ref b] s = true

theorem k_arri {s : State} {args : Array Value} (h : (Cond.arrayClass .int).before args s = true) : ∃ cA : ClassId, ArrOfT s cA .int ∧ va_RA s cA .int := by
  obtain ⟨cA, kA, comp, h1, h2, h3⟩ := Cond.arrayClass_spec h
  exact ⟨cA, fun n z => ⟨fun k h => (by cases h), kA, h2, comp, h3⟩, h1⟩
theorem k_arrz {s : State} {args : Array Value} (h : (Cond.arrayClass .boolean).before args s = true) : ∃ cA : ClassId, ArrOfT s cA .boolean ∧ va_RA s cA .boolean := by
  obtain ⟨cA, kA, comp, h1, h2, h3⟩ := Cond.arrayClass_spec h
  exact ⟨cA, fun n z => ⟨fun k h => (by cases h), kA, h2, comp, h3⟩, h1⟩
theorem k_inst : ∀ ci, ci < 7 → Cond.instantiable (zRn ci) (zNf ci) ∈ lw_tbl := by decide +kernel
/-- the numbers that the machine gave, at the law's entry -/
theorem k_start {p : Program} {s : State} {m : MethodId} {meth : Method} {c : Code} {b L : Nat} {xs : Nat → Int32} (C0 : lw_At p s m meth c b L xs) : ∃ (D : va_G) (cI cZ : ClassId), kctx R_law code 4 p s m #[Value.ref b] c D cI cZ (fun q => s.heap.size ≤ q) := by
  obtain ⟨hx, hb, -, hml, hown, hts, -⟩ := C0
  have hz : ∀ w ∈ zT, w.before #[Value.ref b] s = true := fun w hw => hts w (List.mem_filter.mp hw).1
  obtain ⟨cI, i1, i2⟩ := k_arri (hz _ kT_i)
  obtain ⟨cZ, z1, z2⟩ := k_arrz (hz _ kT_z)
  have hk : ∀ ci : Nat, ∃ x : ClassId × (Nat → Nat), ci < 7 → u_Kn s (zRn ci) (zTn ci) (zNf ci) x.1 x.2 := by
    intro ci
    by_cases h : ci < 7
    · obtain ⟨cC, iS, hu⟩ := u_known (n := zNf ci) hts (z_inT ci h) (hts _ (k_inst ci h))
      exact ⟨(cC, iS), fun _ => hu⟩
    · exact ⟨(cI, fun _ => 0), fun z => absurd z h⟩
  obtain ⟨f, hf⟩ : ∃ f : Nat → ClassId × (Nat → Nat), ∀ ci, ci < 7 → u_Kn s (zRn ci) (zTn ci) (zNf ci) (f ci).1 (f ci).2 := ⟨fun ci => Classical.choose (hk ci), fun ci => Classical.choose_spec (hk ci)⟩
  refine ⟨(fun ci => (f ci).1, fun ci => (f ci).2), cI, cZ, hx, hb, hml, hown, hz, ⟨fun ci q hq => ?_, fun k q hq => ?_⟩, fun q h => h⟩
  · have hl : ci < 7 := (List.getElem?_eq_some_iff.mp hq).1
    have e := z_cl ci hl
    rw [hq] at e
    have e2 := Option.some.inj e
    subst e2
    exact hf ci hl
  · match k with
    | 0 => cases hq; exact ⟨i1, i2⟩
    | 1 => cases hq; exact ⟨z1, z2⟩
    | n + 2 => cases hq
section LW
variable {p : Program} {l : Launch} {e : Env} {s : State} {m : MethodId} {below : List Frame} {meth : Method} {c : Code} {QQ : State → Prop} {D : va_G} {cI cZ : ClassId} {A : Nat → Prop} {H : Heap} {locs : List Loc} {ls : Array Slot} {rest : List Value} {pc b L : Nat} {ad : Nat → Nat} {σ : zS} {xs : Nat → Int32} {i : Int}
/-- the law's locals -/
abbrev kL (ls : Array Slot) (ad : Nat → Nat) (b : Nat) (i : Int) : Prop := lv_has ls 4 [(3, .int (Int32.ofInt i)), (2, .ref (ad 31)), (1, .ref (ad 0)), (0, .ref b)]
def kA (xs : Nat → Int32) (i j : Int) : Int := (xs (i + j).toNat).toInt
theorem kA_r {j : Int} : zr (kA xs i j) := zr_of _
theorem lw_ld {j : Int} (hC : kctx R_law code 4 p s m #[Value.ref b] c D cI cZ A) (hX : va_X b L xs s s.heap) (hbl : b < s.heap.size) (hbA : ¬ A b) (hS : va_S A s.heap H locs) (hl : kL ls ad b i) (hi : 0 ≤ i) (hj : 0 ≤ j) (hij : i + j < L) (hL : L ≤ 3072)
    (d1 : decode code pc = .ok (.aload_n 0, 1)) (d2 : decode code (pc + 1) = .ok (.iload_n 3, 1)) (d3 : decode code (pc + 2) = .ok (.iconst j, 1)) (d4 : decode code (pc + 3) = .ok (.iadd, 1)) (d5 : decode code (pc + 4) = .ok (.iaload, 1))
    (kk : W p l e room_1 s m #[Value.ref b] below meth c H locs 55 10458 QQ (F0 m (pc + 5) ls (.int (Int32.ofInt (kA xs i j)) :: rest))) : W p l e room_1 s m #[Value.ref b] below meth c H locs 55 10458 QQ (F0 m pc ls rest) := by
  have hx := hC.1
  have hb := hC.2.1
  refine lv_aload_n hx hb d1 rfl (lv_at hl 3 rfl) ?_
  refine lv_iload_n hx hb d2 rfl (lv_at hl 0 rfl) ?_
  refine lv_iconst (v := Int32.ofInt j) hx hb d3 rfl ?_
  refine lv_iadd hx hb d4 ?_
  rw [← Int32.ofInt_add]
  refine va_sld hx hb hX hbl hbA hS (z_in (by omega) hij hL) d5 ?_
  rw [z_tn (by omega) (by omega)]
  rw [kA, Int32.ofInt_toInt] at kk
  exact kk
end LW
