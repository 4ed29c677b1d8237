/-! constructors of rows and references alone -/
set_option maxHeartbeats 8000000 in
set_option maxRecDepth 100000 in
/-- Caller() -/
theorem c_Caller (l : Launch) (D : va_G) (cI cZ : ClassId) (a sz : Nat) (r1 : Nat) (r2 : Nat) (r3 : Nat) : Met l yX0_init (.code yX0_init cX0_init 4 none :: zT) { frames := 1, cells := 0, slots := 0, locals := 12 }
    (va_Pc [.ref a, .ref r1, .ref r2, .ref r3] (fun U => U.heap.size = sz ∧ va_P D vwCl [(a, .inr (0, [.null, .null, .null, .int (Int32.ofInt 0), .int (Int32.ofInt 0), .int (Int32.ofInt 0), .int (Int32.ofInt 0)]))] U.heap ∧ va_K D vwCl [(cI, .int), (cZ, .boolean)] U ∧ va_D (fun _ => True) [(a, .inr (0, [.null, .null, .null, .int (Int32.ofInt 0), .int (Int32.ofInt 0), .int (Int32.ofInt 0), .int (Int32.ofInt 0)]))]))
    (va_Qv (fun ad : Nat → Nat => ad 5 = a ∧ ad 1 = r1 ∧ ad 2 = r2 ∧ ad 3 = r3) (fun ad t => va_P D vwCl (zwd dC ad cI cZ z00) t.heap ∧ va_K D vwCl [(cI, .int), (cZ, .boolean)] t ∧ va_D (va_A [(a, .inr (0, [.null, .null, .null, .int (Int32.ofInt 0), .int (Int32.ofInt 0), .int (Int32.ofInt 0), .int (Int32.ofInt 0)]))] sz) (zwd dC ad cI cZ z00)) (va_A [(a, .inr (0, [.null, .null, .null, .int (Int32.ofInt 0), .int (Int32.ofInt 0), .int (Int32.ofInt 0), .int (Int32.ofInt 0)]))] sz)) 0 0 (va_A [(a, .inr (0, [.null, .null, .null, .int (Int32.ofInt 0), .int (Int32.ofInt 0), .int (Int32.ofInt 0), .int (Int32.ofInt 0)]))] sz) := by
  refine Met.ofW (cc := cX0_init) (maxL := 4) (ret := none) (by decide) rfl ?_
  intro p e s m args below meth c s₁ B hml hv
  obtain ⟨rfl, hsz, hP, hK, hD0⟩ := hv
  have hx := B.exec
  have hb := B.bytes
  have hr := B.returns
  have hts := atoms_spec (ws := .code yX0_init cX0_init 4 none :: zT) B.pre
  have hown : s.vm.findClass (zRn 0) = some m.cls := findClass_of_methodNamed B.named
  have hin : meth.name = "<init>" := (name_of_methodNamed B.named B.method).1
  subst hsz
  have hD := hD0.self (sz := s.heap.size)
  generalize hAe : va_A [(a, .inr (0, [.null, .null, .null, .int (Int32.ofInt 0), .int (Int32.ofInt 0), .int (Int32.ofInt 0), .int (Int32.ofInt 0)]))] s.heap.size = A at hD ⊢
  have hA : ∀ q : Nat, s.heap.size ≤ q → A q := fun q h => by rw [← hAe]; exact Or.inr h
  have hC : kctx (zRn 0) cX0_init 4 p s m ([.ref a, .ref r1, .ref r2, .ref r3] : List Value).toArray c D cI cZ A := ⟨hx, hb, hml, hown, fun w hw => hts w (List.mem_cons_of_mem _ hw), hK, hA⟩
  have hW : kW D A s [(a, .inr (0, [.null, .null, .null, .int (Int32.ofInt 0), .int (Int32.ofInt 0), .int (Int32.ofInt 0), .int (Int32.ofInt 0)]))] s.heap [] := ⟨hP, hD, va_S.rf⟩
  have hl := lv_entry ([.ref a, .ref r1, .ref r2, .ref r3]) (n := 4) (Nat.le_of_ble_eq_true rfl)
  rw [lg_entry_eq]
  generalize (lg_sl ([.ref a, .ref r1, .ref r2, .ref r3]) ++ List.replicate (4 - (lg_sl ([.ref a, .ref r1, .ref r2, .ref r3])).length) Slot.unset).toArray = ls at hl ⊢
  have hl : lv_has ls 4 [(0, .ref a), (1, .ref r1), (2, .ref r2), (3, .ref r3)] := hl
  refine lv_aload_n hx hb dX0_init_0 rfl (lv_at hl 0 rfl) ?_
  refine kc_obj hC ko_0 ko_i ko_c hl.1 dX0_init_1 (Nat.le_of_ble_eq_true rfl) (Nat.le_of_ble_eq_true rfl) ?_
  refine lv_aload_n hx hb dX0_init_4 rfl (lv_at hl 0 rfl) ?_
  refine lv_aload_n hx hb dX0_init_5 rfl (lv_at hl 1 rfl) ?_
  refine kc_putr (j := 0) (q := r1) hC (by decide) hin hW (by decide) (Nat.le_of_ble_eq_true rfl) rfl rfl rfl kl_0_9 dX0_init_6 (fun H locs hW => ?_)
  replace hW : kW D A s [(a, .inr (0, [.ref r1, .null, .null, .int (Int32.ofInt 0), .int (Int32.ofInt 0), .int (Int32.ofInt 0), .int (Int32.ofInt 0)]))] H locs := hW
  refine lv_aload_n hx hb dX0_init_9 rfl (lv_at hl 0 rfl) ?_
  refine lv_aload_n hx hb dX0_init_10 rfl (lv_at hl 2 rfl) ?_
  refine kc_putr (j := 1) (q := r2) hC (by decide) hin hW (by decide) (Nat.le_of_ble_eq_true rfl) rfl rfl rfl kl_0_15 dX0_init_11 (fun H locs hW => ?_)
  replace hW : kW D A s [(a, .inr (0, [.ref r1, .ref r2, .null, .int (Int32.ofInt 0), .int (Int32.ofInt 0), .int (Int32.ofInt 0), .int (Int32.ofInt 0)]))] H locs := hW
  refine lv_aload_n hx hb dX0_init_14 rfl (lv_at hl 0 rfl) ?_
  refine lv_aload_n hx hb dX0_init_15 rfl (lv_at hl 3 rfl) ?_
  refine kc_putr (j := 2) (q := r3) hC (by decide) hin hW (by decide) (Nat.le_of_ble_eq_true rfl) rfl rfl rfl kl_0_19 dX0_init_16 (fun H locs hW => ?_)
  replace hW : kW D A s [(a, .inr (0, [.ref r1, .ref r2, .ref r3, .int (Int32.ofInt 0), .int (Int32.ofInt 0), .int (Int32.ofInt 0), .int (Int32.ofInt 0)]))] H locs := hW
  obtain ⟨ad, had⟩ : ∃ ad : Nat → Nat, ad = fun k => if k = 5 then a else if k = 1 then r1 else if k = 2 then r2 else if k = 3 then r3 else 0 := ⟨_, rfl⟩
  have e5 : ad 5 = a := by rw [had]; rfl
  have e1 : ad 1 = r1 := by rw [had]; rfl
  have e2 : ad 2 = r2 := by rw [had]; rfl
  have e3 : ad 3 = r3 := by rw [had]; rfl
  have hZ : kW D A s (zwd dC ad cI cZ z00) H locs := by
    rw [zwd_0, e5, e1, e2, e3]
    exact ⟨hW.1.sub [0] rfl, hW.2.1.sub [0] (by decide) rfl, hW.2.2⟩
  clear had
  exact W.vret hx hb hr (fun t ht hW2 => ⟨⟨ad, rfl, ⟨e5, e1, e2, e3⟩, by rw [ht]; exact hZ.1, va_K.moved hW2.alike hK, hZ.2.1⟩, hZ.2.2.F ht⟩) hZ.2.2.2.2 dX0_init_19
set_option maxHeartbeats 8000000 in
set_option maxRecDepth 100000 in
/-- FaultList() -/
theorem c_FaultList (l : Launch) (D : va_G) (cI cZ : ClassId) (a sz : Nat) (r1 : Nat) (r2 : Nat) (r3 : Nat) : Met l yX1_init (.code yX1_init cX1_init 4 none :: zT) { frames := 1, cells := 2, slots := 348, locals := 12 }
    (va_Pc [.ref a, .ref r1, .ref r2, .ref r3] (fun U => U.heap.size = sz ∧ va_P D vwCl [(a, .inr (1, [.null, .null, .null, .null, .null, .int (Int32.ofInt 0)]))] U.heap ∧ va_K D vwCl [(cI, .int), (cZ, .boolean)] U ∧ va_D (fun _ => True) [(a, .inr (1, [.null, .null, .null, .null, .null, .int (Int32.ofInt 0)]))]))
    (va_Qv (fun ad : Nat → Nat => ad 4 = a ∧ ad 1 = r1 ∧ ad 2 = r2 ∧ ad 3 = r3) (fun ad t => va_P D vwCl (zwd dF ad cI cZ z00) t.heap ∧ va_K D vwCl [(cI, .int), (cZ, .boolean)] t ∧ va_D (va_A [(a, .inr (1, [.null, .null, .null, .null, .null, .int (Int32.ofInt 0)]))] sz) (zwd dF ad cI cZ z00)) (va_A [(a, .inr (1, [.null, .null, .null, .null, .null, .int (Int32.ofInt 0)]))] sz)) 2 348 (va_A [(a, .inr (1, [.null, .null, .null, .null, .null, .int (Int32.ofInt 0)]))] sz) := by
  refine Met.ofW (cc := cX1_init) (maxL := 4) (ret := none) (by decide) rfl ?_
  intro p e s m args below meth c s₁ B hml hv
  obtain ⟨rfl, hsz, hP, hK, hD0⟩ := hv
  have hx := B.exec
  have hb := B.bytes
  have hr := B.returns
  have hts := atoms_spec (ws := .code yX1_init cX1_init 4 none :: zT) B.pre
  have hown : s.vm.findClass (zRn 1) = some m.cls := findClass_of_methodNamed B.named
  have hin : meth.name = "<init>" := (name_of_methodNamed B.named B.method).1
  subst hsz
  have hD := hD0.self (sz := s.heap.size)
  generalize hAe : va_A [(a, .inr (1, [.null, .null, .null, .null, .null, .int (Int32.ofInt 0)]))] s.heap.size = A at hD ⊢
  have hA : ∀ q : Nat, s.heap.size ≤ q → A q := fun q h => by rw [← hAe]; exact Or.inr h
  have hC : kctx (zRn 1) cX1_init 4 p s m ([.ref a, .ref r1, .ref r2, .ref r3] : List Value).toArray c D cI cZ A := ⟨hx, hb, hml, hown, fun w hw => hts w (List.mem_cons_of_mem _ hw), hK, hA⟩
  have hW : kW D A s [(a, .inr (1, [.null, .null, .null, .null, .null, .int (Int32.ofInt 0)]))] s.heap [] := ⟨hP, hD, va_S.rf⟩
  have hl := lv_entry ([.ref a, .ref r1, .ref r2, .ref r3]) (n := 4) (Nat.le_of_ble_eq_true rfl)
  rw [lg_entry_eq]
  generalize (lg_sl ([.ref a, .ref r1, .ref r2, .ref r3]) ++ List.replicate (4 - (lg_sl ([.ref a, .ref r1, .ref r2, .ref r3])).length) Slot.unset).toArray = ls at hl ⊢
  have hl : lv_has ls 4 [(0, .ref a), (1, .ref r1), (2, .ref r2), (3, .ref r3)] := hl
  refine lv_aload_n hx hb dX1_init_0 rfl (lv_at hl 0 rfl) ?_
  refine kc_obj hC ko_1 ko_i ko_c hl.1 dX1_init_1 (Nat.le_of_ble_eq_true rfl) (Nat.le_of_ble_eq_true rfl) ?_
  refine lv_aload_n hx hb dX1_init_4 rfl (lv_at hl 0 rfl) ?_
  refine lv_sipush (v := 174) hx hb dX1_init_5 (by decide) ?_
  refine kc_arri (N := 174) (j := 3) hC (by decide) hin hW (by decide) (by decide) (by decide) (by decide) (Nat.le_of_ble_eq_true rfl) rfl rfl rfl kl_1_9 (Nat.le_of_ble_eq_true rfl) (Nat.le_of_ble_eq_true rfl) dX1_init_8 dX1_init_10 (fun q29 H locs hW2 => ?_)
  clear hW
  have hW : kW D A s [(a, .inr (1, [.null, .null, .null, .ref q29, .null, .int (Int32.ofInt 0)])), (q29, .inl (cI, 174, .inl fun _ => Int32.ofInt 0))] H locs := hW2
  clear hW2
  refine lv_aload_n hx hb dX1_init_13 rfl (lv_at hl 0 rfl) ?_
  refine lv_sipush (v := 174) hx hb dX1_init_14 (by decide) ?_
  refine kc_arri (N := 174) (j := 4) hC (by decide) hin hW (by decide) (by decide) (by decide) (by decide) (Nat.le_of_ble_eq_true rfl) rfl rfl rfl kl_1_15 (Nat.le_of_ble_eq_true rfl) (Nat.le_of_ble_eq_true rfl) dX1_init_17 dX1_init_19 (fun q30 H locs hW2 => ?_)
  clear hW
  have hW : kW D A s [(a, .inr (1, [.null, .null, .null, .ref q29, .ref q30, .int (Int32.ofInt 0)])), (q29, .inl (cI, 174, .inl fun _ => Int32.ofInt 0)), (q30, .inl (cI, 174, .inl fun _ => Int32.ofInt 0))] H locs := hW2
  clear hW2
  refine lv_aload_n hx hb dX1_init_22 rfl (lv_at hl 0 rfl) ?_
  refine lv_aload_n hx hb dX1_init_23 rfl (lv_at hl 1 rfl) ?_
  refine kc_putr (j := 0) (q := r1) hC (by decide) hin hW (by decide) (Nat.le_of_ble_eq_true rfl) rfl rfl rfl kl_1_18 dX1_init_24 (fun H locs hW => ?_)
  replace hW : kW D A s [(a, .inr (1, [.ref r1, .null, .null, .ref q29, .ref q30, .int (Int32.ofInt 0)])), (q29, .inl (cI, 174, .inl fun _ => Int32.ofInt 0)), (q30, .inl (cI, 174, .inl fun _ => Int32.ofInt 0))] H locs := hW
  refine lv_aload_n hx hb dX1_init_27 rfl (lv_at hl 0 rfl) ?_
  refine lv_aload_n hx hb dX1_init_28 rfl (lv_at hl 2 rfl) ?_
  refine kc_putr (j := 1) (q := r2) hC (by decide) hin hW (by decide) (Nat.le_of_ble_eq_true rfl) rfl rfl rfl kl_1_22 dX1_init_29 (fun H locs hW => ?_)
  replace hW : kW D A s [(a, .inr (1, [.ref r1, .ref r2, .null, .ref q29, .ref q30, .int (Int32.ofInt 0)])), (q29, .inl (cI, 174, .inl fun _ => Int32.ofInt 0)), (q30, .inl (cI, 174, .inl fun _ => Int32.ofInt 0))] H locs := hW
  refine lv_aload_n hx hb dX1_init_32 rfl (lv_at hl 0 rfl) ?_
  refine lv_aload_n hx hb dX1_init_33 rfl (lv_at hl 3 rfl) ?_
  refine kc_putr (j := 2) (q := r3) hC (by decide) hin hW (by decide) (Nat.le_of_ble_eq_true rfl) rfl rfl rfl kl_1_26 dX1_init_34 (fun H locs hW => ?_)
  replace hW : kW D A s [(a, .inr (1, [.ref r1, .ref r2, .ref r3, .ref q29, .ref q30, .int (Int32.ofInt 0)])), (q29, .inl (cI, 174, .inl fun _ => Int32.ofInt 0)), (q30, .inl (cI, 174, .inl fun _ => Int32.ofInt 0))] H locs := hW
  obtain ⟨ad, had⟩ : ∃ ad : Nat → Nat, ad = fun k => if k = 4 then a else if k = 29 then q29 else if k = 30 then q30 else if k = 1 then r1 else if k = 2 then r2 else if k = 3 then r3 else 0 := ⟨_, rfl⟩
  have e4 : ad 4 = a := by rw [had]; rfl
  have e29 : ad 29 = q29 := by rw [had]; rfl
  have e30 : ad 30 = q30 := by rw [had]; rfl
  have e1 : ad 1 = r1 := by rw [had]; rfl
  have e2 : ad 2 = r2 := by rw [had]; rfl
  have e3 : ad 3 = r3 := by rw [had]; rfl
  have hZ : kW D A s (zwd dF ad cI cZ z00) H locs := by
    rw [zwd_1, e4, e29, e30, e1, e2, e3]
    exact ⟨hW.1.sub [0, 1, 2] rfl, hW.2.1.sub [0, 1, 2] (by decide) rfl, hW.2.2⟩
  clear had
  exact W.vret hx hb hr (fun t ht hW2 => ⟨⟨ad, rfl, ⟨e4, e1, e2, e3⟩, by rw [ht]; exact hZ.1, va_K.moved hW2.alike hK, hZ.2.1⟩, hZ.2.2.F ht⟩) hZ.2.2.2.2 dX1_init_37
set_option maxHeartbeats 8000000 in
set_option maxRecDepth 100000 in
/-- Holdings() -/
theorem c_Holdings (l : Launch) (D : va_G) (cI cZ : ClassId) (a sz : Nat) (r1 : Nat) (r2 : Nat) : Met l yX2_init (.code yX2_init cX2_init 3 none :: zT) { frames := 1, cells := 4, slots := 2746, locals := 12 }
    (va_Pc [.ref a, .ref r1, .ref r2] (fun U => U.heap.size = sz ∧ va_P D vwCl [(a, .inr (2, [.null, .null, .null, .null, .null, .null, .int (Int32.ofInt 0)]))] U.heap ∧ va_K D vwCl [(cI, .int), (cZ, .boolean)] U ∧ va_D (fun _ => True) [(a, .inr (2, [.null, .null, .null, .null, .null, .null, .int (Int32.ofInt 0)]))]))
    (va_Qv (fun ad : Nat → Nat => ad 3 = a ∧ ad 1 = r1 ∧ ad 2 = r2) (fun ad t => va_P D vwCl (zwd dH ad cI cZ z00) t.heap ∧ va_K D vwCl [(cI, .int), (cZ, .boolean)] t ∧ va_D (va_A [(a, .inr (2, [.null, .null, .null, .null, .null, .null, .int (Int32.ofInt 0)]))] sz) (zwd dH ad cI cZ z00)) (va_A [(a, .inr (2, [.null, .null, .null, .null, .null, .null, .int (Int32.ofInt 0)]))] sz)) 4 2746 (va_A [(a, .inr (2, [.null, .null, .null, .null, .null, .null, .int (Int32.ofInt 0)]))] sz) := by
  refine Met.ofW (cc := cX2_init) (maxL := 3) (ret := none) (by decide) rfl ?_
  intro p e s m args below meth c s₁ B hml hv
  obtain ⟨rfl, hsz, hP, hK, hD0⟩ := hv
  have hx := B.exec
  have hb := B.bytes
  have hr := B.returns
  have hts := atoms_spec (ws := .code yX2_init cX2_init 3 none :: zT) B.pre
  have hown : s.vm.findClass (zRn 2) = some m.cls := findClass_of_methodNamed B.named
  have hin : meth.name = "<init>" := (name_of_methodNamed B.named B.method).1
  subst hsz
  have hD := hD0.self (sz := s.heap.size)
  generalize hAe : va_A [(a, .inr (2, [.null, .null, .null, .null, .null, .null, .int (Int32.ofInt 0)]))] s.heap.size = A at hD ⊢
  have hA : ∀ q : Nat, s.heap.size ≤ q → A q := fun q h => by rw [← hAe]; exact Or.inr h
  have hC : kctx (zRn 2) cX2_init 3 p s m ([.ref a, .ref r1, .ref r2] : List Value).toArray c D cI cZ A := ⟨hx, hb, hml, hown, fun w hw => hts w (List.mem_cons_of_mem _ hw), hK, hA⟩
  have hW : kW D A s [(a, .inr (2, [.null, .null, .null, .null, .null, .null, .int (Int32.ofInt 0)]))] s.heap [] := ⟨hP, hD, va_S.rf⟩
  have hl := lv_entry ([.ref a, .ref r1, .ref r2]) (n := 3) (Nat.le_of_ble_eq_true rfl)
  rw [lg_entry_eq]
  generalize (lg_sl ([.ref a, .ref r1, .ref r2]) ++ List.replicate (3 - (lg_sl ([.ref a, .ref r1, .ref r2])).length) Slot.unset).toArray = ls at hl ⊢
  have hl : lv_has ls 3 [(0, .ref a), (1, .ref r1), (2, .ref r2)] := hl
  refine lv_aload_n hx hb dX2_init_0 rfl (lv_at hl 0 rfl) ?_
  refine kc_obj hC ko_2 ko_i ko_c hl.1 dX2_init_1 (Nat.le_of_ble_eq_true rfl) (Nat.le_of_ble_eq_true rfl) ?_
  refine lv_aload_n hx hb dX2_init_4 rfl (lv_at hl 0 rfl) ?_
  refine lv_bipush (v := 10) hx hb dX2_init_5 (by decide) ?_
  refine kc_arrz (N := 10) (j := 2) hC (by decide) hin hW (by decide) (by decide) (by decide) (by decide) (Nat.le_of_ble_eq_true rfl) rfl rfl rfl kl_2_9 (Nat.le_of_ble_eq_true rfl) (Nat.le_of_ble_eq_true rfl) dX2_init_7 dX2_init_9 (fun q25 H locs hW2 => ?_)
  clear hW
  have hW : kW D A s [(a, .inr (2, [.null, .null, .ref q25, .null, .null, .null, .int (Int32.ofInt 0)])), (q25, .inl (cZ, 10, .inl fun _ => Int32.ofInt 0))] H locs := hW2
  clear hW2
  refine lv_aload_n hx hb dX2_init_12 rfl (lv_at hl 0 rfl) ?_
  refine lv_sipush (v := 160) hx hb dX2_init_13 (by decide) ?_
  refine kc_arri (N := 160) (j := 3) hC (by decide) hin hW (by decide) (by decide) (by decide) (by decide) (Nat.le_of_ble_eq_true rfl) rfl rfl rfl kl_2_15 (Nat.le_of_ble_eq_true rfl) (Nat.le_of_ble_eq_true rfl) dX2_init_16 dX2_init_18 (fun q26 H locs hW2 => ?_)
  clear hW
  have hW : kW D A s [(a, .inr (2, [.null, .null, .ref q25, .ref q26, .null, .null, .int (Int32.ofInt 0)])), (q25, .inl (cZ, 10, .inl fun _ => Int32.ofInt 0)), (q26, .inl (cI, 160, .inl fun _ => Int32.ofInt 0))] H locs := hW2
  clear hW2
  refine lv_aload_n hx hb dX2_init_21 rfl (lv_at hl 0 rfl) ?_
  refine lv_sipush (v := 2560) hx hb dX2_init_22 (by decide) ?_
  refine kc_arri (N := 2560) (j := 4) hC (by decide) hin hW (by decide) (by decide) (by decide) (by decide) (Nat.le_of_ble_eq_true rfl) rfl rfl rfl kl_2_19 (Nat.le_of_ble_eq_true rfl) (Nat.le_of_ble_eq_true rfl) dX2_init_25 dX2_init_27 (fun q27 H locs hW2 => ?_)
  clear hW
  have hW : kW D A s [(a, .inr (2, [.null, .null, .ref q25, .ref q26, .ref q27, .null, .int (Int32.ofInt 0)])), (q25, .inl (cZ, 10, .inl fun _ => Int32.ofInt 0)), (q26, .inl (cI, 160, .inl fun _ => Int32.ofInt 0)), (q27, .inl (cI, 2560, .inl fun _ => Int32.ofInt 0))] H locs := hW2
  clear hW2
  refine lv_aload_n hx hb dX2_init_30 rfl (lv_at hl 0 rfl) ?_
  refine lv_bipush (v := 16) hx hb dX2_init_31 (by decide) ?_
  refine kc_arri (N := 16) (j := 5) hC (by decide) hin hW (by decide) (by decide) (by decide) (by decide) (Nat.le_of_ble_eq_true rfl) rfl rfl rfl kl_2_22 (Nat.le_of_ble_eq_true rfl) (Nat.le_of_ble_eq_true rfl) dX2_init_33 dX2_init_35 (fun q28 H locs hW2 => ?_)
  clear hW
  have hW : kW D A s [(a, .inr (2, [.null, .null, .ref q25, .ref q26, .ref q27, .ref q28, .int (Int32.ofInt 0)])), (q25, .inl (cZ, 10, .inl fun _ => Int32.ofInt 0)), (q26, .inl (cI, 160, .inl fun _ => Int32.ofInt 0)), (q27, .inl (cI, 2560, .inl fun _ => Int32.ofInt 0)), (q28, .inl (cI, 16, .inl fun _ => Int32.ofInt 0))] H locs := hW2
  clear hW2
  refine lv_aload_n hx hb dX2_init_38 rfl (lv_at hl 0 rfl) ?_
  refine lv_aload_n hx hb dX2_init_39 rfl (lv_at hl 1 rfl) ?_
  refine kc_putr (j := 0) (q := r1) hC (by decide) hin hW (by decide) (Nat.le_of_ble_eq_true rfl) rfl rfl rfl kl_2_25 dX2_init_40 (fun H locs hW => ?_)
  replace hW : kW D A s [(a, .inr (2, [.ref r1, .null, .ref q25, .ref q26, .ref q27, .ref q28, .int (Int32.ofInt 0)])), (q25, .inl (cZ, 10, .inl fun _ => Int32.ofInt 0)), (q26, .inl (cI, 160, .inl fun _ => Int32.ofInt 0)), (q27, .inl (cI, 2560, .inl fun _ => Int32.ofInt 0)), (q28, .inl (cI, 16, .inl fun _ => Int32.ofInt 0))] H locs := hW
  refine lv_aload_n hx hb dX2_init_43 rfl (lv_at hl 0 rfl) ?_
  refine lv_aload_n hx hb dX2_init_44 rfl (lv_at hl 2 rfl) ?_
  refine kc_putr (j := 1) (q := r2) hC (by decide) hin hW (by decide) (Nat.le_of_ble_eq_true rfl) rfl rfl rfl kl_2_29 dX2_init_45 (fun H locs hW => ?_)
  replace hW : kW D A s [(a, .inr (2, [.ref r1, .ref r2, .ref q25, .ref q26, .ref q27, .ref q28, .int (Int32.ofInt 0)])), (q25, .inl (cZ, 10, .inl fun _ => Int32.ofInt 0)), (q26, .inl (cI, 160, .inl fun _ => Int32.ofInt 0)), (q27, .inl (cI, 2560, .inl fun _ => Int32.ofInt 0)), (q28, .inl (cI, 16, .inl fun _ => Int32.ofInt 0))] H locs := hW
  obtain ⟨ad, had⟩ : ∃ ad : Nat → Nat, ad = fun k => if k = 3 then a else if k = 25 then q25 else if k = 26 then q26 else if k = 27 then q27 else if k = 28 then q28 else if k = 1 then r1 else if k = 2 then r2 else 0 := ⟨_, rfl⟩
  have e3 : ad 3 = a := by rw [had]; rfl
  have e25 : ad 25 = q25 := by rw [had]; rfl
  have e26 : ad 26 = q26 := by rw [had]; rfl
  have e27 : ad 27 = q27 := by rw [had]; rfl
  have e28 : ad 28 = q28 := by rw [had]; rfl
  have e1 : ad 1 = r1 := by rw [had]; rfl
  have e2 : ad 2 = r2 := by rw [had]; rfl
  have hZ : kW D A s (zwd dH ad cI cZ z00) H locs := by
    rw [zwd_2, e3, e25, e26, e27, e28, e1, e2]
    exact ⟨hW.1.sub [0, 1, 2, 3, 4] rfl, hW.2.1.sub [0, 1, 2, 3, 4] (by decide) rfl, hW.2.2⟩
  clear had
  exact W.vret hx hb hr (fun t ht hW2 => ⟨⟨ad, rfl, ⟨e3, e1, e2⟩, by rw [ht]; exact hZ.1, va_K.moved hW2.alike hK, hZ.2.1⟩, hZ.2.2.F ht⟩) hZ.2.2.2.2 dX2_init_48
def sTT : zS := zwr (zwr z00 6 0 0) 1 0 1
set_option maxHeartbeats 8000000 in
set_option maxRecDepth 100000 in
/-- TypeTable() -/
theorem c_TypeTable (l : Launch) (D : va_G) (cI cZ : ClassId) (a sz : Nat) : Met l yX4_init (.code yX4_init cX4_init 1 none :: zT) { frames := 1, cells := 11, slots := 320, locals := 12 }
    (va_Pc [.ref a] (fun U => U.heap.size = sz ∧ va_P D vwCl [(a, .inr (4, [.int (Int32.ofInt 0), .null, .null, .null, .null, .null, .null, .null, .null, .null, .null, .null]))] U.heap ∧ va_K D vwCl [(cI, .int), (cZ, .boolean)] U ∧ va_D (fun _ => True) [(a, .inr (4, [.int (Int32.ofInt 0), .null, .null, .null, .null, .null, .null, .null, .null, .null, .null, .null]))]))
    (va_Qv (fun ad : Nat → Nat => ad 1 = a) (fun ad t => va_P D vwCl (zwd dT ad cI cZ sTT) t.heap ∧ va_K D vwCl [(cI, .int), (cZ, .boolean)] t ∧ va_D (va_A [(a, .inr (4, [.int (Int32.ofInt 0), .null, .null, .null, .null, .null, .null, .null, .null, .null, .null, .null]))] sz) (zwd dT ad cI cZ sTT)) (va_A [(a, .inr (4, [.int (Int32.ofInt 0), .null, .null, .null, .null, .null, .null, .null, .null, .null, .null, .null]))] sz)) 11 320 (va_A [(a, .inr (4, [.int (Int32.ofInt 0), .null, .null, .null, .null, .null, .null, .null, .null, .null, .null, .null]))] sz) := by
  refine Met.ofW (cc := cX4_init) (maxL := 1) (ret := none) (by decide) rfl ?_
  intro p e s m args below meth c s₁ B hml hv
  obtain ⟨rfl, hsz, hP, hK, hD0⟩ := hv
  have hx := B.exec
  have hb := B.bytes
  have hr := B.returns
  have hts := atoms_spec (ws := .code yX4_init cX4_init 1 none :: zT) B.pre
  have hown : s.vm.findClass (zRn 4) = some m.cls := findClass_of_methodNamed B.named
  have hin : meth.name = "<init>" := (name_of_methodNamed B.named B.method).1
  subst hsz
  have hD := hD0.self (sz := s.heap.size)
  generalize hAe : va_A [(a, .inr (4, [.int (Int32.ofInt 0), .null, .null, .null, .null, .null, .null, .null, .null, .null, .null, .null]))] s.heap.size = A at hD ⊢
  have hA : ∀ q : Nat, s.heap.size ≤ q → A q := fun q h => by rw [← hAe]; exact Or.inr h
  have hC : kctx (zRn 4) cX4_init 1 p s m ([.ref a] : List Value).toArray c D cI cZ A := ⟨hx, hb, hml, hown, fun w hw => hts w (List.mem_cons_of_mem _ hw), hK, hA⟩
  have hW : kW D A s [(a, .inr (4, [.int (Int32.ofInt 0), .null, .null, .null, .null, .null, .null, .null, .null, .null, .null, .null]))] s.heap [] := ⟨hP, hD, va_S.rf⟩
  have hl := lv_entry ([.ref a]) (n := 1) (Nat.le_of_ble_eq_true rfl)
  rw [lg_entry_eq]
  generalize (lg_sl ([.ref a]) ++ List.replicate (1 - (lg_sl ([.ref a])).length) Slot.unset).toArray = ls at hl ⊢
  have hl : lv_has ls 1 [(0, .ref a)] := hl
  refine lv_aload_n hx hb dX4_init_0 rfl (lv_at hl 0 rfl) ?_
  refine kc_obj hC ko_4 ko_i ko_c hl.1 dX4_init_1 (Nat.le_of_ble_eq_true rfl) (Nat.le_of_ble_eq_true rfl) ?_
  refine lv_aload_n hx hb dX4_init_4 rfl (lv_at hl 0 rfl) ?_
  refine lv_bipush (v := 16) hx hb dX4_init_5 (by decide) ?_
  refine kc_arri (N := 16) (j := 1) hC (by decide) hin hW (by decide) (by decide) (by decide) (by decide) (Nat.le_of_ble_eq_true rfl) rfl rfl rfl kl_4_9 (Nat.le_of_ble_eq_true rfl) (Nat.le_of_ble_eq_true rfl) dX4_init_7 dX4_init_9 (fun q6 H locs hW2 => ?_)
  clear hW
  have hW : kW D A s [(a, .inr (4, [.int (Int32.ofInt 0), .ref q6, .null, .null, .null, .null, .null, .null, .null, .null, .null, .null])), (q6, .inl (cI, 16, .inl fun _ => Int32.ofInt 0))] H locs := hW2
  clear hW2
  refine lv_aload_n hx hb dX4_init_12 rfl (lv_at hl 0 rfl) ?_
  refine lv_bipush (v := 16) hx hb dX4_init_13 (by decide) ?_
  refine kc_arri (N := 16) (j := 2) hC (by decide) hin hW (by decide) (by decide) (by decide) (by decide) (Nat.le_of_ble_eq_true rfl) rfl rfl rfl kl_4_15 (Nat.le_of_ble_eq_true rfl) (Nat.le_of_ble_eq_true rfl) dX4_init_15 dX4_init_17 (fun q7 H locs hW2 => ?_)
  clear hW
  have hW : kW D A s [(a, .inr (4, [.int (Int32.ofInt 0), .ref q6, .ref q7, .null, .null, .null, .null, .null, .null, .null, .null, .null])), (q6, .inl (cI, 16, .inl fun _ => Int32.ofInt 0)), (q7, .inl (cI, 16, .inl fun _ => Int32.ofInt 0))] H locs := hW2
  clear hW2
  refine lv_aload_n hx hb dX4_init_20 rfl (lv_at hl 0 rfl) ?_
  refine lv_bipush (v := 16) hx hb dX4_init_21 (by decide) ?_
  refine kc_arri (N := 16) (j := 3) hC (by decide) hin hW (by decide) (by decide) (by decide) (by decide) (Nat.le_of_ble_eq_true rfl) rfl rfl rfl kl_4_18 (Nat.le_of_ble_eq_true rfl) (Nat.le_of_ble_eq_true rfl) dX4_init_23 dX4_init_25 (fun q8 H locs hW2 => ?_)
  clear hW
  have hW : kW D A s [(a, .inr (4, [.int (Int32.ofInt 0), .ref q6, .ref q7, .ref q8, .null, .null, .null, .null, .null, .null, .null, .null])), (q6, .inl (cI, 16, .inl fun _ => Int32.ofInt 0)), (q7, .inl (cI, 16, .inl fun _ => Int32.ofInt 0)), (q8, .inl (cI, 16, .inl fun _ => Int32.ofInt 0))] H locs := hW2
  clear hW2
  refine lv_aload_n hx hb dX4_init_28 rfl (lv_at hl 0 rfl) ?_
  refine lv_bipush (v := 16) hx hb dX4_init_29 (by decide) ?_
  refine kc_arri (N := 16) (j := 4) hC (by decide) hin hW (by decide) (by decide) (by decide) (by decide) (Nat.le_of_ble_eq_true rfl) rfl rfl rfl kl_4_21 (Nat.le_of_ble_eq_true rfl) (Nat.le_of_ble_eq_true rfl) dX4_init_31 dX4_init_33 (fun q9 H locs hW2 => ?_)
  clear hW
  have hW : kW D A s [(a, .inr (4, [.int (Int32.ofInt 0), .ref q6, .ref q7, .ref q8, .ref q9, .null, .null, .null, .null, .null, .null, .null])), (q6, .inl (cI, 16, .inl fun _ => Int32.ofInt 0)), (q7, .inl (cI, 16, .inl fun _ => Int32.ofInt 0)), (q8, .inl (cI, 16, .inl fun _ => Int32.ofInt 0)), (q9, .inl (cI, 16, .inl fun _ => Int32.ofInt 0))] H locs := hW2
  clear hW2
  refine lv_aload_n hx hb dX4_init_36 rfl (lv_at hl 0 rfl) ?_
  refine lv_bipush (v := 16) hx hb dX4_init_37 (by decide) ?_
  refine kc_arrz (N := 16) (j := 5) hC (by decide) hin hW (by decide) (by decide) (by decide) (by decide) (Nat.le_of_ble_eq_true rfl) rfl rfl rfl kl_4_24 (Nat.le_of_ble_eq_true rfl) (Nat.le_of_ble_eq_true rfl) dX4_init_39 dX4_init_41 (fun q10 H locs hW2 => ?_)
  clear hW
  have hW : kW D A s [(a, .inr (4, [.int (Int32.ofInt 0), .ref q6, .ref q7, .ref q8, .ref q9, .ref q10, .null, .null, .null, .null, .null, .null])), (q6, .inl (cI, 16, .inl fun _ => Int32.ofInt 0)), (q7, .inl (cI, 16, .inl fun _ => Int32.ofInt 0)), (q8, .inl (cI, 16, .inl fun _ => Int32.ofInt 0)), (q9, .inl (cI, 16, .inl fun _ => Int32.ofInt 0)), (q10, .inl (cZ, 16, .inl fun _ => Int32.ofInt 0))] H locs := hW2
  clear hW2
  refine lv_aload_n hx hb dX4_init_44 rfl (lv_at hl 0 rfl) ?_
  refine lv_bipush (v := 64) hx hb dX4_init_45 (by decide) ?_
  refine kc_arri (N := 64) (j := 6) hC (by decide) hin hW (by decide) (by decide) (by decide) (by decide) (Nat.le_of_ble_eq_true rfl) rfl rfl rfl kl_4_28 (Nat.le_of_ble_eq_true rfl) (Nat.le_of_ble_eq_true rfl) dX4_init_47 dX4_init_49 (fun q11 H locs hW2 => ?_)
  clear hW
  have hW : kW D A s [(a, .inr (4, [.int (Int32.ofInt 0), .ref q6, .ref q7, .ref q8, .ref q9, .ref q10, .ref q11, .null, .null, .null, .null, .null])), (q6, .inl (cI, 16, .inl fun _ => Int32.ofInt 0)), (q7, .inl (cI, 16, .inl fun _ => Int32.ofInt 0)), (q8, .inl (cI, 16, .inl fun _ => Int32.ofInt 0)), (q9, .inl (cI, 16, .inl fun _ => Int32.ofInt 0)), (q10, .inl (cZ, 16, .inl fun _ => Int32.ofInt 0)), (q11, .inl (cI, 64, .inl fun _ => Int32.ofInt 0))] H locs := hW2
  clear hW2
  refine lv_aload_n hx hb dX4_init_52 rfl (lv_at hl 0 rfl) ?_
  refine lv_bipush (v := 16) hx hb dX4_init_53 (by decide) ?_
  refine kc_arri (N := 16) (j := 7) hC (by decide) hin hW (by decide) (by decide) (by decide) (by decide) (Nat.le_of_ble_eq_true rfl) rfl rfl rfl kl_4_31 (Nat.le_of_ble_eq_true rfl) (Nat.le_of_ble_eq_true rfl) dX4_init_55 dX4_init_57 (fun q12 H locs hW2 => ?_)
  clear hW
  have hW : kW D A s [(a, .inr (4, [.int (Int32.ofInt 0), .ref q6, .ref q7, .ref q8, .ref q9, .ref q10, .ref q11, .ref q12, .null, .null, .null, .null])), (q6, .inl (cI, 16, .inl fun _ => Int32.ofInt 0)), (q7, .inl (cI, 16, .inl fun _ => Int32.ofInt 0)), (q8, .inl (cI, 16, .inl fun _ => Int32.ofInt 0)), (q9, .inl (cI, 16, .inl fun _ => Int32.ofInt 0)), (q10, .inl (cZ, 16, .inl fun _ => Int32.ofInt 0)), (q11, .inl (cI, 64, .inl fun _ => Int32.ofInt 0)), (q12, .inl (cI, 16, .inl fun _ => Int32.ofInt 0))] H locs := hW2
  clear hW2
  refine lv_aload_n hx hb dX4_init_60 rfl (lv_at hl 0 rfl) ?_
  refine lv_bipush (v := 16) hx hb dX4_init_61 (by decide) ?_
  refine kc_arri (N := 16) (j := 8) hC (by decide) hin hW (by decide) (by decide) (by decide) (by decide) (Nat.le_of_ble_eq_true rfl) rfl rfl rfl kl_4_34 (Nat.le_of_ble_eq_true rfl) (Nat.le_of_ble_eq_true rfl) dX4_init_63 dX4_init_65 (fun q13 H locs hW2 => ?_)
  clear hW
  have hW : kW D A s [(a, .inr (4, [.int (Int32.ofInt 0), .ref q6, .ref q7, .ref q8, .ref q9, .ref q10, .ref q11, .ref q12, .ref q13, .null, .null, .null])), (q6, .inl (cI, 16, .inl fun _ => Int32.ofInt 0)), (q7, .inl (cI, 16, .inl fun _ => Int32.ofInt 0)), (q8, .inl (cI, 16, .inl fun _ => Int32.ofInt 0)), (q9, .inl (cI, 16, .inl fun _ => Int32.ofInt 0)), (q10, .inl (cZ, 16, .inl fun _ => Int32.ofInt 0)), (q11, .inl (cI, 64, .inl fun _ => Int32.ofInt 0)), (q12, .inl (cI, 16, .inl fun _ => Int32.ofInt 0)), (q13, .inl (cI, 16, .inl fun _ => Int32.ofInt 0))] H locs := hW2
  clear hW2
  refine lv_aload_n hx hb dX4_init_68 rfl (lv_at hl 0 rfl) ?_
  refine lv_bipush (v := 64) hx hb dX4_init_69 (by decide) ?_
  refine kc_arrz (N := 64) (j := 9) hC (by decide) hin hW (by decide) (by decide) (by decide) (by decide) (Nat.le_of_ble_eq_true rfl) rfl rfl rfl kl_4_37 (Nat.le_of_ble_eq_true rfl) (Nat.le_of_ble_eq_true rfl) dX4_init_71 dX4_init_73 (fun q14 H locs hW2 => ?_)
  clear hW
  have hW : kW D A s [(a, .inr (4, [.int (Int32.ofInt 0), .ref q6, .ref q7, .ref q8, .ref q9, .ref q10, .ref q11, .ref q12, .ref q13, .ref q14, .null, .null])), (q6, .inl (cI, 16, .inl fun _ => Int32.ofInt 0)), (q7, .inl (cI, 16, .inl fun _ => Int32.ofInt 0)), (q8, .inl (cI, 16, .inl fun _ => Int32.ofInt 0)), (q9, .inl (cI, 16, .inl fun _ => Int32.ofInt 0)), (q10, .inl (cZ, 16, .inl fun _ => Int32.ofInt 0)), (q11, .inl (cI, 64, .inl fun _ => Int32.ofInt 0)), (q12, .inl (cI, 16, .inl fun _ => Int32.ofInt 0)), (q13, .inl (cI, 16, .inl fun _ => Int32.ofInt 0)), (q14, .inl (cZ, 64, .inl fun _ => Int32.ofInt 0))] H locs := hW2
  clear hW2
  refine lv_aload_n hx hb dX4_init_76 rfl (lv_at hl 0 rfl) ?_
  refine lv_bipush (v := 64) hx hb dX4_init_77 (by decide) ?_
  refine kc_arri (N := 64) (j := 10) hC (by decide) hin hW (by decide) (by decide) (by decide) (by decide) (Nat.le_of_ble_eq_true rfl) rfl rfl rfl kl_4_40 (Nat.le_of_ble_eq_true rfl) (Nat.le_of_ble_eq_true rfl) dX4_init_79 dX4_init_81 (fun q15 H locs hW2 => ?_)
  clear hW
  have hW : kW D A s [(a, .inr (4, [.int (Int32.ofInt 0), .ref q6, .ref q7, .ref q8, .ref q9, .ref q10, .ref q11, .ref q12, .ref q13, .ref q14, .ref q15, .null])), (q6, .inl (cI, 16, .inl fun _ => Int32.ofInt 0)), (q7, .inl (cI, 16, .inl fun _ => Int32.ofInt 0)), (q8, .inl (cI, 16, .inl fun _ => Int32.ofInt 0)), (q9, .inl (cI, 16, .inl fun _ => Int32.ofInt 0)), (q10, .inl (cZ, 16, .inl fun _ => Int32.ofInt 0)), (q11, .inl (cI, 64, .inl fun _ => Int32.ofInt 0)), (q12, .inl (cI, 16, .inl fun _ => Int32.ofInt 0)), (q13, .inl (cI, 16, .inl fun _ => Int32.ofInt 0)), (q14, .inl (cZ, 64, .inl fun _ => Int32.ofInt 0)), (q15, .inl (cI, 64, .inl fun _ => Int32.ofInt 0))] H locs := hW2
  clear hW2
  refine lv_aload_n hx hb dX4_init_84 rfl (lv_at hl 0 rfl) ?_
  refine lv_bipush (v := 16) hx hb dX4_init_85 (by decide) ?_
  refine kc_arri (N := 16) (j := 11) hC (by decide) hin hW (by decide) (by decide) (by decide) (by decide) (Nat.le_of_ble_eq_true rfl) rfl rfl rfl kl_4_43 (Nat.le_of_ble_eq_true rfl) (Nat.le_of_ble_eq_true rfl) dX4_init_87 dX4_init_89 (fun q16 H locs hW2 => ?_)
  clear hW
  have hW : kW D A s [(a, .inr (4, [.int (Int32.ofInt 0), .ref q6, .ref q7, .ref q8, .ref q9, .ref q10, .ref q11, .ref q12, .ref q13, .ref q14, .ref q15, .ref q16])), (q6, .inl (cI, 16, .inl fun _ => Int32.ofInt 0)), (q7, .inl (cI, 16, .inl fun _ => Int32.ofInt 0)), (q8, .inl (cI, 16, .inl fun _ => Int32.ofInt 0)), (q9, .inl (cI, 16, .inl fun _ => Int32.ofInt 0)), (q10, .inl (cZ, 16, .inl fun _ => Int32.ofInt 0)), (q11, .inl (cI, 64, .inl fun _ => Int32.ofInt 0)), (q12, .inl (cI, 16, .inl fun _ => Int32.ofInt 0)), (q13, .inl (cI, 16, .inl fun _ => Int32.ofInt 0)), (q14, .inl (cZ, 64, .inl fun _ => Int32.ofInt 0)), (q15, .inl (cI, 64, .inl fun _ => Int32.ofInt 0)), (q16, .inl (cI, 16, .inl fun _ => Int32.ofInt 0))] H locs := hW2
  clear hW2
  obtain ⟨ad, had⟩ : ∃ ad : Nat → Nat, ad = fun k => if k = 1 then a else if k = 6 then q6 else if k = 7 then q7 else if k = 8 then q8 else if k = 9 then q9 else if k = 10 then q10 else if k = 11 then q11 else if k = 12 then q12 else if k = 13 then q13 else if k = 14 then q14 else if k = 15 then q15 else if k = 16 then q16 else 0 := ⟨_, rfl⟩
  have e1 : ad 1 = a := by rw [had]; rfl
  have e6 : ad 6 = q6 := by rw [had]; rfl
  have e7 : ad 7 = q7 := by rw [had]; rfl
  have e8 : ad 8 = q8 := by rw [had]; rfl
  have e9 : ad 9 = q9 := by rw [had]; rfl
  have e10 : ad 10 = q10 := by rw [had]; rfl
  have e11 : ad 11 = q11 := by rw [had]; rfl
  have e12 : ad 12 = q12 := by rw [had]; rfl
  have e13 : ad 13 = q13 := by rw [had]; rfl
  have e14 : ad 14 = q14 := by rw [had]; rfl
  have e15 : ad 15 = q15 := by rw [had]; rfl
  have e16 : ad 16 = q16 := by rw [had]; rfl
  have hZ : kW D A s (zwd dT ad cI cZ z00) H locs := by
    rw [zwd_4, e1, e6, e7, e8, e9, e10, e11, e12, e13, e14, e15, e16]
    exact ⟨hW.1.sub [0, 1, 2, 3, 4, 5, 6, 7, 8, 9, 10, 11] rfl, hW.2.1.sub [0, 1, 2, 3, 4, 5, 6, 7, 8, 9, 10, 11] (by decide) rfl, hW.2.2⟩
  clear had
  refine lv_aload_n hx hb dX4_init_92 rfl (lv_at hl 0 rfl) ?_
  subst e1
  refine kc_getz (j := 1) (r := 1) hC (by decide) hZ ⟨by decide, by decide, by decide⟩ (by decide) kl_4_9 dX4_init_93 ?_
  refine lv_iconst (v := Int32.ofInt 0) hx hb dX4_init_96 rfl ?_
  refine lv_iconst (v := Int32.ofInt 0) hx hb dX4_init_97 rfl ?_
  refine kc_iast (r := 6) (x := 0) (i := 0) hC hZ dX4_init_98 ⟨by decide, by decide, by decide⟩ (by decide) (by decide) (fun H locs hZ => ?_)
  refine lv_aload_n hx hb dX4_init_99 rfl (lv_at hl 0 rfl) ?_
  refine lv_iconst (v := Int32.ofInt 1) hx hb dX4_init_100 rfl ?_
  refine kc_puti (j := 0) (r := 1) (x := 1) hC (by decide) hZ dX4_init_101 (by decide) kl_4_46 rfl ⟨by decide, by decide, by decide⟩ (by decide) (fun z => absurd z (by decide)) (fun H locs hZ => ?_)
  exact W.vret hx hb hr (fun t ht hW2 => ⟨⟨ad, rfl, rfl, by rw [ht]; exact hZ.1, va_K.moved hW2.alike hK, hZ.2.1⟩, hZ.2.2.F ht⟩) hZ.2.2.2.2 dX4_init_104
