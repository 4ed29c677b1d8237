/-! InterfaceRules made -/
def dX (k : Nat) : Bool := Nat.ble k 30
theorem zdm_X : zdm dX = List.range 31 := by decide +kernel
theorem zwd_X {ad : Nat → Nat} {cI cZ : ClassId} {σ : zS} : zwd dX ad cI cZ σ = [(ad 0, .inr (5, [.ref (ad 1), .ref (ad 2), .ref (ad 3), .ref (ad 4), .ref (ad 5)])), (ad 1, .inr (4, [.int (Int32.ofInt (σ 1 0)), .ref (ad 6), .ref (ad 7), .ref (ad 8), .ref (ad 9), .ref (ad 10), .ref (ad 11), .ref (ad 12), .ref (ad 13), .ref (ad 14), .ref (ad 15), .ref (ad 16)])), (ad 2, .inr (3, [.int (Int32.ofInt (σ 2 0)), .ref (ad 17), .ref (ad 18), .ref (ad 19), .ref (ad 20), .ref (ad 21), .ref (ad 22), .ref (ad 23), .ref (ad 24)])), (ad 3, .inr (2, [.ref (ad 1), .ref (ad 2), .ref (ad 25), .ref (ad 26), .ref (ad 27), .ref (ad 28), .int (Int32.ofInt (σ 3 6))])), (ad 4, .inr (1, [.ref (ad 1), .ref (ad 2), .ref (ad 3), .ref (ad 29), .ref (ad 30), .int (Int32.ofInt (σ 4 5))])), (ad 5, .inr (0, [.ref (ad 1), .ref (ad 2), .ref (ad 3), .int (Int32.ofInt (σ 5 3)), .int (Int32.ofInt (σ 5 4)), .int (Int32.ofInt (σ 5 5)), .int (Int32.ofInt (σ 5 6))])), (ad 6, .inl (cI, 16, .inl fun j => Int32.ofInt (σ 6 (j : Int)))), (ad 7, .inl (cI, 16, .inl fun j => Int32.ofInt (σ 7 (j : Int)))), (ad 8, .inl (cI, 16, .inl fun j => Int32.ofInt (σ 8 (j : Int)))), (ad 9, .inl (cI, 16, .inl fun j => Int32.ofInt (σ 9 (j : Int)))), (ad 10, .inl (cZ, 16, .inl fun j => Int32.ofInt (σ 10 (j : Int)))), (ad 11, .inl (cI, 64, .inl fun j => Int32.ofInt (σ 11 (j : Int)))), (ad 12, .inl (cI, 16, .inl fun j => Int32.ofInt (σ 12 (j : Int)))), (ad 13, .inl (cI, 16, .inl fun j => Int32.ofInt (σ 13 (j : Int)))), (ad 14, .inl (cZ, 64, .inl fun j => Int32.ofInt (σ 14 (j : Int)))), (ad 15, .inl (cI, 64, .inl fun j => Int32.ofInt (σ 15 (j : Int)))), (ad 16, .inl (cI, 16, .inl fun j => Int32.ofInt (σ 16 (j : Int)))), (ad 17, .inl (cI, 60, .inl fun j => Int32.ofInt (σ 17 (j : Int)))), (ad 18, .inl (cI, 60, .inl fun j => Int32.ofInt (σ 18 (j : Int)))), (ad 19, .inl (cI, 60, .inl fun j => Int32.ofInt (σ 19 (j : Int)))), (ad 20, .inl (cI, 60, .inl fun j => Int32.ofInt (σ 20 (j : Int)))), (ad 21, .inl (cI, 60, .inl fun j => Int32.ofInt (σ 21 (j : Int)))), (ad 22, .inl (cI, 60, .inl fun j => Int32.ofInt (σ 22 (j : Int)))), (ad 23, .inl (cI, 60, .inl fun j => Int32.ofInt (σ 23 (j : Int)))), (ad 24, .inl (cI, 160, .inl fun j => Int32.ofInt (σ 24 (j : Int)))), (ad 25, .inl (cZ, 10, .inl fun j => Int32.ofInt (σ 25 (j : Int)))), (ad 26, .inl (cI, 160, .inl fun j => Int32.ofInt (σ 26 (j : Int)))), (ad 27, .inl (cI, 2560, .inl fun j => Int32.ofInt (σ 27 (j : Int)))), (ad 28, .inl (cI, 16, .inl fun j => Int32.ofInt (σ 28 (j : Int)))), (ad 29, .inl (cI, 174, .inl fun j => Int32.ofInt (σ 29 (j : Int)))), (ad 30, .inl (cI, 174, .inl fun j => Int32.ofInt (σ 30 (j : Int))))] := by
  rw [zwd, zdm_X]
  rfl
def sX0 : zS := fun c => if dT c then sTT c else if dB c then sMT c else z00 c
theorem kn_5_9 : Cond.classLink (zRn 5) 9 (zRn 4) ∈ zT := z_T (by decide +kernel) rfl
theorem kn_4i : Cond.instantiable (zRn 4) (zNf 4) ∈ zT := z_T (by decide +kernel) rfl
theorem kn_4n : Cond.initialized (zRn 4) ∈ zT := z_T (by decide +kernel) rfl
theorem kn_5_16 : Cond.classLink (zRn 5) 16 (zRn 3) ∈ zT := z_T (by decide +kernel) rfl
theorem kn_3i : Cond.instantiable (zRn 3) (zNf 3) ∈ zT := z_T (by decide +kernel) rfl
theorem kn_3n : Cond.initialized (zRn 3) ∈ zT := z_T (by decide +kernel) rfl
theorem kn_5_23 : Cond.classLink (zRn 5) 23 (zRn 2) ∈ zT := z_T (by decide +kernel) rfl
theorem kn_2i : Cond.instantiable (zRn 2) (zNf 2) ∈ zT := z_T (by decide +kernel) rfl
theorem kn_2n : Cond.initialized (zRn 2) ∈ zT := z_T (by decide +kernel) rfl
theorem kn_5_32 : Cond.classLink (zRn 5) 32 (zRn 1) ∈ zT := z_T (by decide +kernel) rfl
theorem kn_1i : Cond.instantiable (zRn 1) (zNf 1) ∈ zT := z_T (by decide +kernel) rfl
theorem kn_1n : Cond.initialized (zRn 1) ∈ zT := z_T (by decide +kernel) rfl
theorem kn_5_41 : Cond.classLink (zRn 5) 41 (zRn 0) ∈ zT := z_T (by decide +kernel) rfl
theorem kn_0i : Cond.instantiable (zRn 0) (zNf 0) ∈ zT := z_T (by decide +kernel) rfl
theorem kn_0n : Cond.initialized (zRn 0) ∈ zT := z_T (by decide +kernel) rfl
theorem kn_5_11 : Cond.methodLink (zRn 5) 11 yX4_init ∈ zT := z_T (by decide +kernel) rfl
theorem kn_4m : Cond.instanceMethod yX4_init ∈ zT := z_T (by decide +kernel) rfl
theorem kn_4c : Cond.code yX4_init cX4_init 1 none ∈ zT := z_T (by decide +kernel) rfl
theorem kn_4d : yX4_init.cls ≠ "java/lang/invoke/MethodHandle" ∧ yX4_init.cls ≠ "java/lang/invoke/VarHandle" ∧ (parseMethodDescriptor yX4_init.desc).map (fun d => d.parameters.length) = some 0 := by decide +kernel
theorem kn_5_18 : Cond.methodLink (zRn 5) 18 yX3_init ∈ zT := z_T (by decide +kernel) rfl
theorem kn_3m : Cond.instanceMethod yX3_init ∈ zT := z_T (by decide +kernel) rfl
theorem kn_3c : Cond.code yX3_init cX3_init 1 none ∈ zT := z_T (by decide +kernel) rfl
theorem kn_3d : yX3_init.cls ≠ "java/lang/invoke/MethodHandle" ∧ yX3_init.cls ≠ "java/lang/invoke/VarHandle" ∧ (parseMethodDescriptor yX3_init.desc).map (fun d => d.parameters.length) = some 0 := by decide +kernel
theorem kn_5_25 : Cond.methodLink (zRn 5) 25 yX2_init ∈ zT := z_T (by decide +kernel) rfl
theorem kn_2m : Cond.instanceMethod yX2_init ∈ zT := z_T (by decide +kernel) rfl
theorem kn_2c : Cond.code yX2_init cX2_init 3 none ∈ zT := z_T (by decide +kernel) rfl
theorem kn_2d : yX2_init.cls ≠ "java/lang/invoke/MethodHandle" ∧ yX2_init.cls ≠ "java/lang/invoke/VarHandle" ∧ (parseMethodDescriptor yX2_init.desc).map (fun d => d.parameters.length) = some 2 := by decide +kernel
theorem kn_5_34 : Cond.methodLink (zRn 5) 34 yX1_init ∈ zT := z_T (by decide +kernel) rfl
theorem kn_1m : Cond.instanceMethod yX1_init ∈ zT := z_T (by decide +kernel) rfl
theorem kn_1c : Cond.code yX1_init cX1_init 4 none ∈ zT := z_T (by decide +kernel) rfl
theorem kn_1d : yX1_init.cls ≠ "java/lang/invoke/MethodHandle" ∧ yX1_init.cls ≠ "java/lang/invoke/VarHandle" ∧ (parseMethodDescriptor yX1_init.desc).map (fun d => d.parameters.length) = some 3 := by decide +kernel
theorem kn_5_43 : Cond.methodLink (zRn 5) 43 yX0_init ∈ zT := z_T (by decide +kernel) rfl
theorem kn_0m : Cond.instanceMethod yX0_init ∈ zT := z_T (by decide +kernel) rfl
theorem kn_0c : Cond.code yX0_init cX0_init 4 none ∈ zT := z_T (by decide +kernel) rfl
theorem kn_0d : yX0_init.cls ≠ "java/lang/invoke/MethodHandle" ∧ yX0_init.cls ≠ "java/lang/invoke/VarHandle" ∧ (parseMethodDescriptor yX0_init.desc).map (fun d => d.parameters.length) = some 3 := by decide +kernel
set_option maxHeartbeats 8000000 in
set_option maxRecDepth 100000 in
/-- InterfaceRules() -/
theorem c_Rules (l : Launch) (D : va_G) (cI cZ : ClassId) (a sz : Nat) : Met l yX5_init (.code yX5_init cX5_init 1 none :: zT) { frames := 2, cells := 30, slots := 4035, locals := 80 }
    (va_Pc [.ref a] (fun U => U.heap.size = sz ∧ va_P D vwCl [(a, .inr (5, [.null, .null, .null, .null, .null]))] U.heap ∧ va_K D vwCl [(cI, .int), (cZ, .boolean)] U ∧ va_D (fun _ => True) [(a, .inr (5, [.null, .null, .null, .null, .null]))]))
    (va_Qv (fun ad : Nat → Nat => ad 0 = a) (fun ad t => va_P D vwCl (zwd dX ad cI cZ sX0) t.heap ∧ va_K D vwCl [(cI, .int), (cZ, .boolean)] t ∧ va_D (va_A [(a, .inr (5, [.null, .null, .null, .null, .null]))] sz) (zwd dX ad cI cZ sX0)) (va_A [(a, .inr (5, [.null, .null, .null, .null, .null]))] sz)) 30 4035 (va_A [(a, .inr (5, [.null, .null, .null, .null, .null]))] sz) := by
  refine Met.ofW (cc := cX5_init) (maxL := 1) (ret := none) (by decide) rfl ?_
  intro p e s m args below meth c s₁ B hml hv
  obtain ⟨rfl, hsz, hP, hK, hD0⟩ := hv
  have hx := B.exec
  have hb := B.bytes
  have hr := B.returns
  have hts := atoms_spec (ws := .code yX5_init cX5_init 1 none :: zT) B.pre
  have hown : s.vm.findClass (zRn 5) = some m.cls := findClass_of_methodNamed B.named
  have hin : meth.name = "<init>" := (name_of_methodNamed B.named B.method).1
  subst hsz
  have hD := hD0.self (sz := s.heap.size)
  generalize hAe : va_A [(a, .inr (5, [.null, .null, .null, .null, .null]))] s.heap.size = A at hD ⊢
  have hA : ∀ q : Nat, s.heap.size ≤ q → A q := fun q h => by rw [← hAe]; exact Or.inr h
  have hC : kctx (zRn 5) cX5_init 1 p s m ([.ref a] : List Value).toArray c D cI cZ A := ⟨hx, hb, hml, hown, fun w hw => hts w (List.mem_cons_of_mem _ hw), hK, hA⟩
  have hW : kW D A s [(a, .inr (5, [.null, .null, .null, .null, .null]))] s.heap [] := ⟨hP, hD, va_S.rf⟩
  have hl := lv_entry ([.ref a]) (n := 1) (Nat.le_of_ble_eq_true rfl)
  rw [lg_entry_eq]
  generalize (lg_sl ([.ref a]) ++ List.replicate (1 - (lg_sl ([.ref a])).length) Slot.unset).toArray = ls at hl ⊢
  have hl : lv_has ls 1 [(0, .ref a)] := hl
  refine lv_aload_n hx hb dX5_init_0 rfl (lv_at hl 0 rfl) ?_
  refine kc_obj hC ko_5 ko_i ko_c hl.1 dX5_init_1 (Nat.le_of_ble_eq_true rfl) (Nat.le_of_ble_eq_true rfl) ?_
  refine lv_aload_n hx hb dX5_init_4 rfl (lv_at hl 0 rfl) ?_
  refine kc_new (cn := 4) (fs := [.int (Int32.ofInt 0), .null, .null, .null, .null, .null, .null, .null, .null, .null, .null, .null]) hC hW (by decide) kn_5_9 kn_4i kn_4n (by decide) (Nat.le_of_ble_eq_true rfl) (Nat.le_of_ble_eq_true rfl) dX5_init_5 (fun p1 H hW2 => ?_)
  clear hW
  refine lv_dup hx hb dX5_init_8 rfl ?_
  refine kc_init (ws := (a, .inr (5, [.null, .null, .null, .null, .null])) :: []) (n := 0) (As := []) (rest := [.ref p1, .ref a]) (w1 := fun ad => zwd dT ad cI cZ sTT) hC hW2 (c_TypeTable l D cI cZ p1 H.size) kn_4c kn_4n kn_5_11 kn_4m rfl kn_4d rfl (Nat.le_of_ble_eq_true rfl) (Nat.le_of_ble_eq_true rfl) (Nat.le_of_ble_eq_true rfl) (Nat.le_of_ble_eq_true rfl) hl.1 (Nat.le_of_ble_eq_true rfl) dX5_init_9 rfl (fun ad1 H locs ha1 hW3 => ?_)
  clear hW2
  have hW : kW D A s ((a, .inr (5, [.null, .null, .null, .null, .null])) :: ([] ++ zwd dT ad1 cI cZ sTT)) H locs := hW3
  clear hW3
  refine kc_putr (j := 0) (q := p1) (tl := ([] ++ zwd dT ad1 cI cZ sTT)) hC (by decide) hin hW (by decide) (Nat.le_of_ble_eq_true rfl) rfl rfl rfl kl_5_12 dX5_init_12 (fun H locs hW2 => ?_)
  clear hW
  have hW : kW D A s ((a, .inr (5, [.ref p1, .null, .null, .null, .null])) :: ([] ++ zwd dT ad1 cI cZ sTT)) H locs := hW2
  clear hW2
  refine lv_aload_n hx hb dX5_init_15 rfl (lv_at hl 0 rfl) ?_
  refine kc_new (cn := 3) (fs := [.int (Int32.ofInt 0), .null, .null, .null, .null, .null, .null, .null, .null]) hC hW (by decide) kn_5_16 kn_3i kn_3n (by decide) (Nat.le_of_ble_eq_true rfl) (Nat.le_of_ble_eq_true rfl) dX5_init_16 (fun p2 H hW2 => ?_)
  clear hW
  refine lv_dup hx hb dX5_init_19 rfl ?_
  refine kc_init (ws := (a, .inr (5, [.ref p1, .null, .null, .null, .null])) :: ([] ++ zwd dT ad1 cI cZ sTT)) (n := 0) (As := []) (rest := [.ref p2, .ref a]) (w1 := fun ad => zwd dB ad cI cZ sMT) hC hW2 (c_MemberTable l D cI cZ p2 H.size) kn_3c kn_3n kn_5_18 kn_3m rfl kn_3d rfl (Nat.le_of_ble_eq_true rfl) (Nat.le_of_ble_eq_true rfl) (Nat.le_of_ble_eq_true rfl) (Nat.le_of_ble_eq_true rfl) hl.1 (Nat.le_of_ble_eq_true rfl) dX5_init_20 rfl (fun ad2 H locs ha2 hW3 => ?_)
  clear hW2
  have hW : kW D A s ((a, .inr (5, [.ref p1, .null, .null, .null, .null])) :: (([] ++ zwd dT ad1 cI cZ sTT) ++ zwd dB ad2 cI cZ sMT)) H locs := hW3
  clear hW3
  refine kc_putr (j := 1) (q := p2) (tl := (([] ++ zwd dT ad1 cI cZ sTT) ++ zwd dB ad2 cI cZ sMT)) hC (by decide) hin hW (by decide) (Nat.le_of_ble_eq_true rfl) rfl rfl rfl kl_5_19 dX5_init_23 (fun H locs hW2 => ?_)
  clear hW
  have hW : kW D A s ((a, .inr (5, [.ref p1, .ref p2, .null, .null, .null])) :: (([] ++ zwd dT ad1 cI cZ sTT) ++ zwd dB ad2 cI cZ sMT)) H locs := hW2
  clear hW2
  refine lv_aload_n hx hb dX5_init_26 rfl (lv_at hl 0 rfl) ?_
  refine kc_new (cn := 2) (fs := [.null, .null, .null, .null, .null, .null, .int (Int32.ofInt 0)]) hC hW (by decide) kn_5_23 kn_2i kn_2n (by decide) (Nat.le_of_ble_eq_true rfl) (Nat.le_of_ble_eq_true rfl) dX5_init_27 (fun p3 H hW2 => ?_)
  clear hW
  refine lv_dup hx hb dX5_init_30 rfl ?_
  have hWg : kW D A s ((a, .inr (5, [.ref p1, .ref p2, .null, .null, .null])) :: ((([] ++ zwd dT ad1 cI cZ sTT) ++ zwd dB ad2 cI cZ sMT) ++ [(p3, .inr (2, [.null, .null, .null, .null, .null, .null, .int (Int32.ofInt 0)]))])) H locs := hW2
  refine lv_aload_n hx hb dX5_init_31 rfl (lv_at hl 0 rfl) ?_
  refine kc_get (j := 0) (v := .ref p1) hC (by decide) hWg (by decide) rfl kl_5_12 dX5_init_32 ?_
  refine lv_aload_n hx hb dX5_init_35 rfl (lv_at hl 0 rfl) ?_
  refine kc_get (j := 1) (v := .ref p2) hC (by decide) hWg (by decide) rfl kl_5_19 dX5_init_36 ?_
  refine kc_init (ws := (a, .inr (5, [.ref p1, .ref p2, .null, .null, .null])) :: (([] ++ zwd dT ad1 cI cZ sTT) ++ zwd dB ad2 cI cZ sMT)) (n := 2) (As := [.ref p1, .ref p2]) (rest := [.ref p3, .ref a]) (w1 := fun ad => zwd dH ad cI cZ z00) hC hW2 (c_Holdings l D cI cZ p3 H.size p1 p2) kn_2c kn_2n kn_5_25 kn_2m rfl kn_2d rfl (Nat.le_of_ble_eq_true rfl) (Nat.le_of_ble_eq_true rfl) (Nat.le_of_ble_eq_true rfl) (Nat.le_of_ble_eq_true rfl) hl.1 (Nat.le_of_ble_eq_true rfl) dX5_init_39 rfl (fun ad3 H locs ha3 hW3 => ?_)
  clear hW2
  have hW : kW D A s ((a, .inr (5, [.ref p1, .ref p2, .null, .null, .null])) :: ((([] ++ zwd dT ad1 cI cZ sTT) ++ zwd dB ad2 cI cZ sMT) ++ zwd dH ad3 cI cZ z00)) H locs := hW3
  clear hW3
  refine kc_putr (j := 2) (q := p3) (tl := ((([] ++ zwd dT ad1 cI cZ sTT) ++ zwd dB ad2 cI cZ sMT) ++ zwd dH ad3 cI cZ z00)) hC (by decide) hin hW (by decide) (Nat.le_of_ble_eq_true rfl) rfl rfl rfl kl_5_28 dX5_init_42 (fun H locs hW2 => ?_)
  clear hW
  have hW : kW D A s ((a, .inr (5, [.ref p1, .ref p2, .ref p3, .null, .null])) :: ((([] ++ zwd dT ad1 cI cZ sTT) ++ zwd dB ad2 cI cZ sMT) ++ zwd dH ad3 cI cZ z00)) H locs := hW2
  clear hW2
  refine lv_aload_n hx hb dX5_init_45 rfl (lv_at hl 0 rfl) ?_
  refine kc_new (cn := 1) (fs := [.null, .null, .null, .null, .null, .int (Int32.ofInt 0)]) hC hW (by decide) kn_5_32 kn_1i kn_1n (by decide) (Nat.le_of_ble_eq_true rfl) (Nat.le_of_ble_eq_true rfl) dX5_init_46 (fun p4 H hW2 => ?_)
  clear hW
  refine lv_dup hx hb dX5_init_49 rfl ?_
  have hWg : kW D A s ((a, .inr (5, [.ref p1, .ref p2, .ref p3, .null, .null])) :: (((([] ++ zwd dT ad1 cI cZ sTT) ++ zwd dB ad2 cI cZ sMT) ++ zwd dH ad3 cI cZ z00) ++ [(p4, .inr (1, [.null, .null, .null, .null, .null, .int (Int32.ofInt 0)]))])) H locs := hW2
  refine lv_aload_n hx hb dX5_init_50 rfl (lv_at hl 0 rfl) ?_
  refine kc_get (j := 0) (v := .ref p1) hC (by decide) hWg (by decide) rfl kl_5_12 dX5_init_51 ?_
  refine lv_aload_n hx hb dX5_init_54 rfl (lv_at hl 0 rfl) ?_
  refine kc_get (j := 1) (v := .ref p2) hC (by decide) hWg (by decide) rfl kl_5_19 dX5_init_55 ?_
  refine lv_aload_n hx hb dX5_init_58 rfl (lv_at hl 0 rfl) ?_
  refine kc_get (j := 2) (v := .ref p3) hC (by decide) hWg (by decide) rfl kl_5_28 dX5_init_59 ?_
  refine kc_init (ws := (a, .inr (5, [.ref p1, .ref p2, .ref p3, .null, .null])) :: ((([] ++ zwd dT ad1 cI cZ sTT) ++ zwd dB ad2 cI cZ sMT) ++ zwd dH ad3 cI cZ z00)) (n := 3) (As := [.ref p1, .ref p2, .ref p3]) (rest := [.ref p4, .ref a]) (w1 := fun ad => zwd dF ad cI cZ z00) hC hW2 (c_FaultList l D cI cZ p4 H.size p1 p2 p3) kn_1c kn_1n kn_5_34 kn_1m rfl kn_1d rfl (Nat.le_of_ble_eq_true rfl) (Nat.le_of_ble_eq_true rfl) (Nat.le_of_ble_eq_true rfl) (Nat.le_of_ble_eq_true rfl) hl.1 (Nat.le_of_ble_eq_true rfl) dX5_init_62 rfl (fun ad4 H locs ha4 hW3 => ?_)
  clear hW2
  have hW : kW D A s ((a, .inr (5, [.ref p1, .ref p2, .ref p3, .null, .null])) :: (((([] ++ zwd dT ad1 cI cZ sTT) ++ zwd dB ad2 cI cZ sMT) ++ zwd dH ad3 cI cZ z00) ++ zwd dF ad4 cI cZ z00)) H locs := hW3
  clear hW3
  refine kc_putr (j := 3) (q := p4) (tl := (((([] ++ zwd dT ad1 cI cZ sTT) ++ zwd dB ad2 cI cZ sMT) ++ zwd dH ad3 cI cZ z00) ++ zwd dF ad4 cI cZ z00)) hC (by decide) hin hW (by decide) (Nat.le_of_ble_eq_true rfl) rfl rfl rfl kl_5_37 dX5_init_65 (fun H locs hW2 => ?_)
  clear hW
  have hW : kW D A s ((a, .inr (5, [.ref p1, .ref p2, .ref p3, .ref p4, .null])) :: (((([] ++ zwd dT ad1 cI cZ sTT) ++ zwd dB ad2 cI cZ sMT) ++ zwd dH ad3 cI cZ z00) ++ zwd dF ad4 cI cZ z00)) H locs := hW2
  clear hW2
  refine lv_aload_n hx hb dX5_init_68 rfl (lv_at hl 0 rfl) ?_
  refine kc_new (cn := 0) (fs := [.null, .null, .null, .int (Int32.ofInt 0), .int (Int32.ofInt 0), .int (Int32.ofInt 0), .int (Int32.ofInt 0)]) hC hW (by decide) kn_5_41 kn_0i kn_0n (by decide) (Nat.le_of_ble_eq_true rfl) (Nat.le_of_ble_eq_true rfl) dX5_init_69 (fun p5 H hW2 => ?_)
  clear hW
  refine lv_dup hx hb dX5_init_72 rfl ?_
  have hWg : kW D A s ((a, .inr (5, [.ref p1, .ref p2, .ref p3, .ref p4, .null])) :: ((((([] ++ zwd dT ad1 cI cZ sTT) ++ zwd dB ad2 cI cZ sMT) ++ zwd dH ad3 cI cZ z00) ++ zwd dF ad4 cI cZ z00) ++ [(p5, .inr (0, [.null, .null, .null, .int (Int32.ofInt 0), .int (Int32.ofInt 0), .int (Int32.ofInt 0), .int (Int32.ofInt 0)]))])) H locs := hW2
  refine lv_aload_n hx hb dX5_init_73 rfl (lv_at hl 0 rfl) ?_
  refine kc_get (j := 0) (v := .ref p1) hC (by decide) hWg (by decide) rfl kl_5_12 dX5_init_74 ?_
  refine lv_aload_n hx hb dX5_init_77 rfl (lv_at hl 0 rfl) ?_
  refine kc_get (j := 1) (v := .ref p2) hC (by decide) hWg (by decide) rfl kl_5_19 dX5_init_78 ?_
  refine lv_aload_n hx hb dX5_init_81 rfl (lv_at hl 0 rfl) ?_
  refine kc_get (j := 2) (v := .ref p3) hC (by decide) hWg (by decide) rfl kl_5_28 dX5_init_82 ?_
  refine kc_init (ws := (a, .inr (5, [.ref p1, .ref p2, .ref p3, .ref p4, .null])) :: (((([] ++ zwd dT ad1 cI cZ sTT) ++ zwd dB ad2 cI cZ sMT) ++ zwd dH ad3 cI cZ z00) ++ zwd dF ad4 cI cZ z00)) (n := 3) (As := [.ref p1, .ref p2, .ref p3]) (rest := [.ref p5, .ref a]) (w1 := fun ad => zwd dC ad cI cZ z00) hC hW2 (c_Caller l D cI cZ p5 H.size p1 p2 p3) kn_0c kn_0n kn_5_43 kn_0m rfl kn_0d rfl (Nat.le_of_ble_eq_true rfl) (Nat.le_of_ble_eq_true rfl) (Nat.le_of_ble_eq_true rfl) (Nat.le_of_ble_eq_true rfl) hl.1 (Nat.le_of_ble_eq_true rfl) dX5_init_85 rfl (fun ad5 H locs ha5 hW3 => ?_)
  clear hW2
  have hW : kW D A s ((a, .inr (5, [.ref p1, .ref p2, .ref p3, .ref p4, .null])) :: ((((([] ++ zwd dT ad1 cI cZ sTT) ++ zwd dB ad2 cI cZ sMT) ++ zwd dH ad3 cI cZ z00) ++ zwd dF ad4 cI cZ z00) ++ zwd dC ad5 cI cZ z00)) H locs := hW3
  clear hW3
  refine kc_putr (j := 4) (q := p5) (tl := ((((([] ++ zwd dT ad1 cI cZ sTT) ++ zwd dB ad2 cI cZ sMT) ++ zwd dH ad3 cI cZ z00) ++ zwd dF ad4 cI cZ z00) ++ zwd dC ad5 cI cZ z00)) hC (by decide) hin hW (by decide) (Nat.le_of_ble_eq_true rfl) rfl rfl rfl kl_5_44 dX5_init_88 (fun H locs hW2 => ?_)
  clear hW
  have hW : kW D A s ((a, .inr (5, [.ref p1, .ref p2, .ref p3, .ref p4, .ref p5])) :: ((((([] ++ zwd dT ad1 cI cZ sTT) ++ zwd dB ad2 cI cZ sMT) ++ zwd dH ad3 cI cZ z00) ++ zwd dF ad4 cI cZ z00) ++ zwd dC ad5 cI cZ z00)) H locs := hW2
  clear hW2
  obtain ⟨ad, had⟩ : ∃ ad : Nat → Nat, ad = fun k => if k = 0 then a else if dT k then ad1 k else if dB k then ad2 k else if dH k then ad3 k else if dF k then ad4 k else ad5 k := ⟨_, rfl⟩
  have e0 : ad 0 = a := by rw [had]; rfl
  have e1 : ad 1 = ad1 1 := by rw [had]; rfl
  have e2 : ad 2 = ad2 2 := by rw [had]; rfl
  have e3 : ad 3 = ad3 3 := by rw [had]; rfl
  have e4 : ad 4 = ad4 4 := by rw [had]; rfl
  have e5 : ad 5 = ad5 5 := by rw [had]; rfl
  have e6 : ad 6 = ad1 6 := by rw [had]; rfl
  have e7 : ad 7 = ad1 7 := by rw [had]; rfl
  have e8 : ad 8 = ad1 8 := by rw [had]; rfl
  have e9 : ad 9 = ad1 9 := by rw [had]; rfl
  have e10 : ad 10 = ad1 10 := by rw [had]; rfl
  have e11 : ad 11 = ad1 11 := by rw [had]; rfl
  have e12 : ad 12 = ad1 12 := by rw [had]; rfl
  have e13 : ad 13 = ad1 13 := by rw [had]; rfl
  have e14 : ad 14 = ad1 14 := by rw [had]; rfl
  have e15 : ad 15 = ad1 15 := by rw [had]; rfl
  have e16 : ad 16 = ad1 16 := by rw [had]; rfl
  have e17 : ad 17 = ad2 17 := by rw [had]; rfl
  have e18 : ad 18 = ad2 18 := by rw [had]; rfl
  have e19 : ad 19 = ad2 19 := by rw [had]; rfl
  have e20 : ad 20 = ad2 20 := by rw [had]; rfl
  have e21 : ad 21 = ad2 21 := by rw [had]; rfl
  have e22 : ad 22 = ad2 22 := by rw [had]; rfl
  have e23 : ad 23 = ad2 23 := by rw [had]; rfl
  have e24 : ad 24 = ad2 24 := by rw [had]; rfl
  have e25 : ad 25 = ad3 25 := by rw [had]; rfl
  have e26 : ad 26 = ad3 26 := by rw [had]; rfl
  have e27 : ad 27 = ad3 27 := by rw [had]; rfl
  have e28 : ad 28 = ad3 28 := by rw [had]; rfl
  have e29 : ad 29 = ad4 29 := by rw [had]; rfl
  have e30 : ad 30 = ad4 30 := by rw [had]; rfl
  have hZ : kW D A s (zwd dX ad cI cZ sX0) H locs := by
    rw [List.nil_append, zwd_4, zwd_3, zwd_2, zwd_1, zwd_0, ha3.2.1, ha3.2.2, ha4.2.1, ha4.2.2.1, ha4.2.2.2, ha5.2.1, ha5.2.2.1, ha5.2.2.2, ha1, ha2, ha3.1, ha4.1, ha5.1] at hW
    rw [zwd_X, e0, e1, e2, e3, e4, e5, e6, e7, e8, e9, e10, e11, e12, e13, e14, e15, e16, e17, e18, e19, e20, e21, e22, e23, e24, e25, e26, e27, e28, e29, e30, ha1, ha2, ha3.1, ha4.1, ha5.1]
    exact ⟨hW.1.sub [0, 1, 13, 22, 27, 30, 2, 3, 4, 5, 6, 7, 8, 9, 10, 11, 12, 14, 15, 16, 17, 18, 19, 20, 21, 23, 24, 25, 26, 28, 29] rfl, hW.2.1.sub [0, 1, 13, 22, 27, 30, 2, 3, 4, 5, 6, 7, 8, 9, 10, 11, 12, 14, 15, 16, 17, 18, 19, 20, 21, 23, 24, 25, 26, 28, 29] (by decide) rfl, hW.2.2⟩
  exact W.vret hx hb hr (fun t ht hW2 => ⟨⟨ad, rfl, e0, by rw [ht]; exact hZ.1, va_K.moved hW2.alike hK, hZ.2.1⟩, hZ.2.2.F ht⟩) hZ.2.2.2.2 dX5_init_91
