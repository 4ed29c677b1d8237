/-! constructors: blocks of instructions over a world that grows -/
abbrev kctx (own : String) (cc : ByteArray) (nL : Nat) (p : Program) (s : State) (m : MethodId) (args : Array Value) (c : Code) (D : va_G) (cI cZ : ClassId) (A : Nat → Prop) : Prop :=
  p.tables.exec = Jvm.exec ∧ c.code = cc ∧ c.maxLocals = nL ∧ s.vm.findClass own = some m.cls ∧ (∀ w ∈ zT, w.before args s = true) ∧ va_K D vwCl [(cI, .int), (cZ, .boolean)] s ∧ ∀ q : Nat, s.heap.size ≤ q → A q
abbrev kW (D : va_G) (A : Nat → Prop) (s : State) (ws : va_W) (H : Heap) (locs : List Loc) : Prop := va_P D vwCl ws H ∧ va_D A ws ∧ va_S A s.heap H locs
theorem kT_i : Cond.arrayClass .int ∈ zT := z_T (by decide +kernel) rfl
theorem kT_z : Cond.arrayClass .boolean ∈ zT := z_T (by decide +kernel) rfl
section CT
variable {p : Program} {l : Launch} {e : Env} {R : Room} {s : State} {m : MethodId} {args : Array Value} {below : List Frame} {meth : Method} {c : Code} {QQ : State → Prop} {D : va_G} {cI cZ : ClassId} {A : Nat → Prop} {H : Heap} {locs : List Loc} {cc : ByteArray} {ls : Array Slot} {rest : List Value} {pc cells slots nL : Nat} {own : String}
/-- a new row of numbers into a field -/
theorem kc_arri {ci j index N : Nat} {n : Int32} {a : Nat} {fs : List Value} {tl : va_W} (hC : kctx (zRn ci) cc nL p s m args c D cI cZ A) (h7 : ci < 7) (hin : meth.name = "<init>") (hW : kW D A s ((a, .inr (ci, fs)) :: tl) H locs)
    (hn : ¬ n < 0) (hN : n.toNatClampNeg = N) (hN2 : N ≤ 2560) (hj : j < zNf ci) (hjl : j < fs.length) (hfin : (zTn ci j).2.2.2 = true) (hdecl : (zTn ci j).1 = zRn ci) (hty : zTy ci j = .array .int) (hlink : Cond.fieldLink (zRn ci) index (zTn ci j).1 (zTn ci j).2.1 (zTn ci j).2.2.1 ∈ zT)
    (hcells : cells + 1 ≤ R.cells) (hslots : slots + N ≤ R.slots) (hd1 : decode cc pc = .ok (.newarray .int, 2)) (hd2 : decode cc (pc + 2) = .ok (.putfield index, 3))
    (kk : ∀ (q : Nat) (H1 : Heap) (locs1 : List Loc), kW D A s ((a, .inr (ci, fs.set j (.ref q))) :: (tl ++ [(q, .inl (cI, N, .inl fun _ => Int32.ofInt 0))])) H1 locs1 → W p l e R s m args below meth c H1 locs1 (cells + 1) (slots + N) QQ (F0 m (pc + 5) ls rest)) :
    W p l e R s m args below meth c H locs cells slots QQ (F0 m pc ls (.int n :: .ref a :: rest)) := by
  obtain ⟨hx, hb, -, hown, hts, hK, hA⟩ := hC
  obtain ⟨hP, hD, hS⟩ := hW
  refine va_newa (atype := .int) (a0 := (N, .inl fun _ => Int32.ofInt 0)) (ty := .int) hx hb (hts _ kT_i) rfl hK hP hD hS hA (fun cA => rfl) hn hN (by simp only [componentBytes]; omega) hcells hslots hd1 (fun q cA H1 hK1 hP1 hD1 hS1 => ?_)
  have e1 : va_RA s cI .int := (hK.2 0 _ rfl).2
  have e2 : va_RA s cA .int := (hK1.2 2 _ rfl).2
  have e3 : cA = cI := by
    have a1 := va_nm_int e1
    rw [va_nm_int e2] at a1
    exact Option.some.inj a1
  subst e3
  refine va_putF (D := D) (ci := ci) (v := .ref q) (ty := .array .int) (C := zRn ci) (T := zTn ci) (N := zNf ci) hx hb hts (z_inTT ci h7) (zTy ci) (z_ty ci h7) (z_nm ci h7) hown hK hP1 hD1 hS1 0 rfl (z_cl ci h7) j hj (hts _ hlink) (fun _ h9 => h9) hfin hin hdecl (by rw [← hty]; exact z_ty ci h7 j hj) rfl rfl hjl hd2 (fun H2 locs2 hP2 hD2 hS2 => ?_)
  exact kk q H2 locs2 ⟨hP2, hD2, hS2⟩
theorem kc_arrz {ci j index N : Nat} {n : Int32} {a : Nat} {fs : List Value} {tl : va_W} (hC : kctx (zRn ci) cc nL p s m args c D cI cZ A) (h7 : ci < 7) (hin : meth.name = "<init>") (hW : kW D A s ((a, .inr (ci, fs)) :: tl) H locs)
    (hn : ¬ n < 0) (hN : n.toNatClampNeg = N) (hN2 : N ≤ 2560) (hj : j < zNf ci) (hjl : j < fs.length) (hfin : (zTn ci j).2.2.2 = true) (hdecl : (zTn ci j).1 = zRn ci) (hty : zTy ci j = .array .boolean) (hlink : Cond.fieldLink (zRn ci) index (zTn ci j).1 (zTn ci j).2.1 (zTn ci j).2.2.1 ∈ zT)
    (hcells : cells + 1 ≤ R.cells) (hslots : slots + N ≤ R.slots) (hd1 : decode cc pc = .ok (.newarray .boolean, 2)) (hd2 : decode cc (pc + 2) = .ok (.putfield index, 3))
    (kk : ∀ (q : Nat) (H1 : Heap) (locs1 : List Loc), kW D A s ((a, .inr (ci, fs.set j (.ref q))) :: (tl ++ [(q, .inl (cZ, N, .inl fun _ => Int32.ofInt 0))])) H1 locs1 → W p l e R s m args below meth c H1 locs1 (cells + 1) (slots + N) QQ (F0 m (pc + 5) ls rest)) :
    W p l e R s m args below meth c H locs cells slots QQ (F0 m pc ls (.int n :: .ref a :: rest)) := by
  obtain ⟨hx, hb, -, hown, hts, hK, hA⟩ := hC
  obtain ⟨hP, hD, hS⟩ := hW
  refine va_newa (atype := .boolean) (a0 := (N, .inl fun _ => Int32.ofInt 0)) (ty := .boolean) hx hb (hts _ kT_z) rfl hK hP hD hS hA (fun cA => rfl) hn hN (by simp only [componentBytes]; omega) hcells hslots hd1 (fun q cA H1 hK1 hP1 hD1 hS1 => ?_)
  have e1 : va_RA s cZ .boolean := (hK.2 1 _ rfl).2
  have e2 : va_RA s cA .boolean := (hK1.2 2 _ rfl).2
  have e3 : cA = cZ := by
    have a1 := va_nm_boolean e1
    rw [va_nm_boolean e2] at a1
    exact Option.some.inj a1
  subst e3
  refine va_putF (D := D) (ci := ci) (v := .ref q) (ty := .array .boolean) (C := zRn ci) (T := zTn ci) (N := zNf ci) hx hb hts (z_inTT ci h7) (zTy ci) (z_ty ci h7) (z_nm ci h7) hown hK hP1 hD1 hS1 0 rfl (z_cl ci h7) j hj (hts _ hlink) (fun _ h9 => h9) hfin hin hdecl (by rw [← hty]; exact z_ty ci h7 j hj) rfl rfl hjl hd2 (fun H2 locs2 hP2 hD2 hS2 => ?_)
  exact kk q H2 locs2 ⟨hP2, hD2, hS2⟩
/-- a reference that is there into a final field -/
theorem kc_putr {ci j index q : Nat} {a : Nat} {fs : List Value} {tl : va_W} {C2 : String} (hC : kctx (zRn ci) cc nL p s m args c D cI cZ A) (h7 : ci < 7) (hin : meth.name = "<init>") (hW : kW D A s ((a, .inr (ci, fs)) :: tl) H locs)
    (hj : j < zNf ci) (hjl : j < fs.length) (hfin : (zTn ci j).2.2.2 = true) (hdecl : (zTn ci j).1 = zRn ci) (hty : zTy ci j = .object C2) (hlink : Cond.fieldLink (zRn ci) index (zTn ci j).1 (zTn ci j).2.1 (zTn ci j).2.2.1 ∈ zT)
    (hd2 : decode cc pc = .ok (.putfield index, 3))
    (kk : ∀ (H1 : Heap) (locs1 : List Loc), kW D A s ((a, .inr (ci, fs.set j (.ref q))) :: tl) H1 locs1 → W p l e R s m args below meth c H1 locs1 cells slots QQ (F0 m (pc + 3) ls rest)) :
    W p l e R s m args below meth c H locs cells slots QQ (F0 m pc ls (.ref q :: .ref a :: rest)) := by
  obtain ⟨hx, hb, -, hown, hts, hK, hA⟩ := hC
  obtain ⟨hP, hD, hS⟩ := hW
  refine va_putF (D := D) (ci := ci) (v := .ref q) (ty := .object C2) (C := zRn ci) (T := zTn ci) (N := zNf ci) hx hb hts (z_inTT ci h7) (zTy ci) (z_ty ci h7) (z_nm ci h7) hown hK hP hD hS 0 rfl (z_cl ci h7) j hj (hts _ hlink) (fun _ h9 => h9) hfin hin hdecl (by rw [← hty]; exact z_ty ci h7 j hj) rfl rfl hjl hd2 (fun H2 locs2 hP2 hD2 hS2 => ?_)
  exact kk H2 locs2 ⟨hP2, hD2, hS2⟩
/-- a field of the object at the head of the world -/
theorem kc_get {ci j index : Nat} {v : Value} {a : Nat} {fs : List Value} {tl : va_W} (hC : kctx (zRn ci) cc nL p s m args c D cI cZ A) (h7 : ci < 7) (hW : kW D A s ((a, .inr (ci, fs)) :: tl) H locs)
    (hj : j < zNf ci) (hv : fs[j]? = some v) (hlink : Cond.fieldLink (zRn ci) index (zTn ci j).1 (zTn ci j).2.1 (zTn ci j).2.2.1 ∈ zT)
    (hd2 : decode cc pc = .ok (.getfield index, 3)) (kk : W p l e R s m args below meth c H locs cells slots QQ (F0 m (pc + 3) ls (v :: rest))) :
    W p l e R s m args below meth c H locs cells slots QQ (F0 m pc ls (.ref a :: rest)) := by
  obtain ⟨hx, hb, -, hown, hts, hK, hA⟩ := hC
  obtain ⟨hP, hD, hS⟩ := hW
  exact va_get (D := D) (ci := ci) (v := v) (C := zRn ci) (T := zTn ci) (N := zNf ci) hx hb hts (z_inTT ci h7) hown hK hP 0 rfl (z_cl ci h7) j hj (hts _ hlink) (fun _ h9 => h9) hv hd2 kk
/-- Object's own constructor -/
theorem kc_obj {idx : Nat} {a : Nat} (hC : kctx own cc nL p s m args c D cI cZ A) (hlink : Cond.methodLink own idx objectInit ∈ zT) (hi : Cond.instanceMethod objectInit ∈ zT) (hc : Cond.code objectInit ⟨#[0xb1]⟩ 1 none ∈ zT) (hsz : ls.size = nL) (hd : decode cc pc = .ok (.invokespecial idx, 3)) (hf : 1 ≤ R.frames) (hl : 12 ≤ R.locals)
    (kk : W p l e R s m args below meth c H locs cells slots QQ (F0 m (pc + 3) ls [])) : W p l e R s m args below meth c H locs cells slots QQ (F0 m pc ls [.ref a]) := by
  obtain ⟨hx, hb, hml, hown, hts, hK, hA⟩ := hC
  refine W.objInit hx hb hown (hts _ hlink) (hts _ hi) (hts _ hc) rfl (by rw [hml]; exact hsz) rfl hd hf (by simpa using hl) ?_
  exact W.eq (g2 := F0 m (pc + 3) ls []) rfl kk
end CT
