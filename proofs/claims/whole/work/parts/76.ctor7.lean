/-! the reference made -/
section CMT
variable {p : Program} {l : Launch} {e : Env} {R : Room} {s : State} {m : MethodId} {args : Array Value} {below : List Frame} {meth : Method} {c : Code} {QQ : State → Prop} {D : va_G} {cI cZ : ClassId} {A : Nat → Prop} {cells slots : Nat} {ad : Nat → Nat}
theorem c_M_loop (hC : kctx (zRn 6) cX6_init 2 p s m args c D cI cZ A)
    (kk : ∀ (H : Heap) (locs : List Loc) (ls : Array Slot), kW D A s (zwd dM ad cI cZ (sOwn z00 160)) H locs → lv_has ls 2 [(1, .int (Int32.ofInt 160)), (0, .ref (ad 31))] → W p l e R s m args below meth c H locs cells slots QQ (F0 m 216 ls [])) :
    ∀ (k : Nat) (i : Int) (H : Heap) (locs : List Loc) (ls : Array Slot), 0 ≤ i → i ≤ 160 → (160 - i).toNat = k → kW D A s (zwd dM ad cI cZ (sOwn z00 i)) H locs → lv_has ls 2 [(1, .int (Int32.ofInt i)), (0, .ref (ad 31))] → W p l e R s m args below meth c H locs cells slots QQ (F0 m 195 ls []) := by
  have hx := hC.1
  have hb := hC.2.1
  intro k
  induction k with
  | zero =>
    intro i H locs ls i0 i1 ik hZ hl
    have e : i = 160 := by omega
    subst e
    refine lv_iload_n hx hb dX6_init_195 rfl (lv_at hl 0 rfl) ?_
    refine lv_sipush (v := Int32.ofInt 160) hx hb dX6_init_196 (by decide) ?_
    refine lv_icmp_ge (tgt := 216) hx hb dX6_init_199 rfl (fun _ => kk H locs ls hZ hl) (fun z => absurd (by decide) z)
  | succ k ih =>
    intro i H locs ls i0 i1 ik hZ hl
    refine lv_iload_n hx hb dX6_init_195 rfl (lv_at hl 0 rfl) ?_
    refine lv_sipush (v := Int32.ofInt 160) hx hb dX6_init_196 (by decide) ?_
    refine lv_icmp_ge (tgt := 216) hx hb dX6_init_199 rfl (fun z => ?_) (fun z => ?_)
    · rw [zr_le ⟨by decide, by decide⟩ ⟨by omega, by omega⟩] at z
      exact False.elim (by omega)
    · refine lv_aload_n hx hb dX6_init_202 rfl (lv_at hl 1 rfl) ?_
      refine kc_getz (j := 16) (r := 31) hC (by decide) hZ ⟨by decide, by decide, by decide⟩ (by decide) kl_6_53 dX6_init_203 ?_
      refine lv_iload_n hx hb dX6_init_206 rfl (lv_at hl 0 rfl) ?_
      refine lv_bipush (v := Int32.ofInt (-4)) hx hb dX6_init_207 (by decide) ?_
      refine kc_iast (r := 46) (x := -4) (i := i) hC hZ dX6_init_209 ⟨by decide, by decide, by decide⟩ i0 (show i < 160 by omega) (fun H locs hZ => ?_)
      refine lv_iinc (k := 0) (v := Int32.ofInt (i + 1)) hx hb dX6_init_210 hl rfl (Int32.ofInt_add i 1).symm (by decide) rfl (fun ls hl => ?_)
      refine lv_goto (tgt := 195) hx hb dX6_init_213 rfl ?_
      rw [sOwn_s i0] at hZ
      exact ih (i + 1) H locs ls (by omega) (by omega) (by omega) hZ hl
end CMT
set_option maxHeartbeats 8000000 in
set_option maxRecDepth 100000 in
/-- the reference -/
theorem c_Model (l : Launch) (D : va_G) (cI cZ : ClassId) (a sz : Nat) : Met l yX6_init (.code yX6_init cX6_init 2 none :: zT) { frames := 1, cells := 23, slots := 6384, locals := 40 }
    (va_Pc [.ref a] (fun U => U.heap.size = sz ∧ va_P D vwCl [(a, .inr (6, [.int (Int32.ofInt 0), .null, .null, .null, .null, .null, .null, .int (Int32.ofInt 0), .null, .null, .null, .null, .null, .null, .null, .null, .null, .null, .null, .int (Int32.ofInt 0), .null, .null, .null, .null, .null, .int (Int32.ofInt 0), .int (Int32.ofInt 0), .int (Int32.ofInt 0), .int (Int32.ofInt 0), .int (Int32.ofInt 0), .int (Int32.ofInt 0), .int (Int32.ofInt 0), .int (Int32.ofInt 0), .null]))] U.heap ∧ va_K D vwCl [(cI, .int), (cZ, .boolean)] U ∧ va_D (fun _ => True) [(a, .inr (6, [.int (Int32.ofInt 0), .null, .null, .null, .null, .null, .null, .int (Int32.ofInt 0), .null, .null, .null, .null, .null, .null, .null, .null, .null, .null, .null, .int (Int32.ofInt 0), .null, .null, .null, .null, .null, .int (Int32.ofInt 0), .int (Int32.ofInt 0), .int (Int32.ofInt 0), .int (Int32.ofInt 0), .int (Int32.ofInt 0), .int (Int32.ofInt 0), .int (Int32.ofInt 0), .int (Int32.ofInt 0), .null]))]))
    (va_Qv (fun ad : Nat → Nat => ad 31 = a) (fun ad t => va_P D vwCl (zwd dM ad cI cZ sMM) t.heap ∧ va_K D vwCl [(cI, .int), (cZ, .boolean)] t ∧ va_D (va_A [(a, .inr (6, [.int (Int32.ofInt 0), .null, .null, .null, .null, .null, .null, .int (Int32.ofInt 0), .null, .null, .null, .null, .null, .null, .null, .null, .null, .null, .null, .int (Int32.ofInt 0), .null, .null, .null, .null, .null, .int (Int32.ofInt 0), .int (Int32.ofInt 0), .int (Int32.ofInt 0), .int (Int32.ofInt 0), .int (Int32.ofInt 0), .int (Int32.ofInt 0), .int (Int32.ofInt 0), .int (Int32.ofInt 0), .null]))] sz) (zwd dM ad cI cZ sMM)) (va_A [(a, .inr (6, [.int (Int32.ofInt 0), .null, .null, .null, .null, .null, .null, .int (Int32.ofInt 0), .null, .null, .null, .null, .null, .null, .null, .null, .null, .null, .null, .int (Int32.ofInt 0), .null, .null, .null, .null, .null, .int (Int32.ofInt 0), .int (Int32.ofInt 0), .int (Int32.ofInt 0), .int (Int32.ofInt 0), .int (Int32.ofInt 0), .int (Int32.ofInt 0), .int (Int32.ofInt 0), .int (Int32.ofInt 0), .null]))] sz)) 23 6384 (va_A [(a, .inr (6, [.int (Int32.ofInt 0), .null, .null, .null, .null, .null, .null, .int (Int32.ofInt 0), .null, .null, .null, .null, .null, .null, .null, .null, .null, .null, .null, .int (Int32.ofInt 0), .null, .null, .null, .null, .null, .int (Int32.ofInt 0), .int (Int32.ofInt 0), .int (Int32.ofInt 0), .int (Int32.ofInt 0), .int (Int32.ofInt 0), .int (Int32.ofInt 0), .int (Int32.ofInt 0), .int (Int32.ofInt 0), .null]))] sz) := by
  refine Met.ofW (cc := cX6_init) (maxL := 2) (ret := none) (by decide) rfl ?_
  intro p e s m args below meth c s₁ B hml hv
  obtain ⟨rfl, hsz, hP, hK, hD0⟩ := hv
  have hx := B.exec
  have hb := B.bytes
  have hr := B.returns
  have hts := atoms_spec (ws := .code yX6_init cX6_init 2 none :: zT) B.pre
  have hown : s.vm.findClass (zRn 6) = some m.cls := findClass_of_methodNamed B.named
  have hin : meth.name = "<init>" := (name_of_methodNamed B.named B.method).1
  subst hsz
  have hD := hD0.self (sz := s.heap.size)
  generalize hAe : va_A [(a, .inr (6, [.int (Int32.ofInt 0), .null, .null, .null, .null, .null, .null, .int (Int32.ofInt 0), .null, .null, .null, .null, .null, .null, .null, .null, .null, .null, .null, .int (Int32.ofInt 0), .null, .null, .null, .null, .null, .int (Int32.ofInt 0), .int (Int32.ofInt 0), .int (Int32.ofInt 0), .int (Int32.ofInt 0), .int (Int32.ofInt 0), .int (Int32.ofInt 0), .int (Int32.ofInt 0), .int (Int32.ofInt 0), .null]))] s.heap.size = A at hD ⊢
  have hA : ∀ q : Nat, s.heap.size ≤ q → A q := fun q h => by rw [← hAe]; exact Or.inr h
  have hC : kctx (zRn 6) cX6_init 2 p s m ([.ref a] : List Value).toArray c D cI cZ A := ⟨hx, hb, hml, hown, fun w hw => hts w (List.mem_cons_of_mem _ hw), hK, hA⟩
  have hW : kW D A s [(a, .inr (6, [.int (Int32.ofInt 0), .null, .null, .null, .null, .null, .null, .int (Int32.ofInt 0), .null, .null, .null, .null, .null, .null, .null, .null, .null, .null, .null, .int (Int32.ofInt 0), .null, .null, .null, .null, .null, .int (Int32.ofInt 0), .int (Int32.ofInt 0), .int (Int32.ofInt 0), .int (Int32.ofInt 0), .int (Int32.ofInt 0), .int (Int32.ofInt 0), .int (Int32.ofInt 0), .int (Int32.ofInt 0), .null]))] s.heap [] := ⟨hP, hD, va_S.rf⟩
  have hl := lv_entry ([.ref a]) (n := 2) (Nat.le_of_ble_eq_true rfl)
  rw [lg_entry_eq]
  generalize (lg_sl ([.ref a]) ++ List.replicate (2 - (lg_sl ([.ref a])).length) Slot.unset).toArray = ls at hl ⊢
  have hl : lv_has ls 2 [(0, .ref a)] := hl
  refine lv_aload_n hx hb dX6_init_0 rfl (lv_at hl 0 rfl) ?_
  refine kc_obj hC ko_6 ko_i ko_c hl.1 dX6_init_1 (Nat.le_of_ble_eq_true rfl) (Nat.le_of_ble_eq_true rfl) ?_
  refine lv_aload_n hx hb dX6_init_4 rfl (lv_at hl 0 rfl) ?_
  refine lv_bipush (v := 16) hx hb dX6_init_5 (by decide) ?_
  refine kc_arri (N := 16) (j := 1) hC (by decide) hin hW (by decide) (by decide) (by decide) (by decide) (Nat.le_of_ble_eq_true rfl) rfl rfl rfl kl_6_7 (Nat.le_of_ble_eq_true rfl) (Nat.le_of_ble_eq_true rfl) dX6_init_7 dX6_init_9 (fun q32 H locs hW2 => ?_)
  clear hW
  have hW : kW D A s [(a, .inr (6, [.int (Int32.ofInt 0), .ref q32, .null, .null, .null, .null, .null, .int (Int32.ofInt 0), .null, .null, .null, .null, .null, .null, .null, .null, .null, .null, .null, .int (Int32.ofInt 0), .null, .null, .null, .null, .null, .int (Int32.ofInt 0), .int (Int32.ofInt 0), .int (Int32.ofInt 0), .int (Int32.ofInt 0), .int (Int32.ofInt 0), .int (Int32.ofInt 0), .int (Int32.ofInt 0), .int (Int32.ofInt 0), .null])), (q32, .inl (cI, 16, .inl fun _ => Int32.ofInt 0))] H locs := hW2
  clear hW2
  refine lv_aload_n hx hb dX6_init_12 rfl (lv_at hl 0 rfl) ?_
  refine lv_bipush (v := 16) hx hb dX6_init_13 (by decide) ?_
  refine kc_arri (N := 16) (j := 2) hC (by decide) hin hW (by decide) (by decide) (by decide) (by decide) (Nat.le_of_ble_eq_true rfl) rfl rfl rfl kl_6_13 (Nat.le_of_ble_eq_true rfl) (Nat.le_of_ble_eq_true rfl) dX6_init_15 dX6_init_17 (fun q33 H locs hW2 => ?_)
  clear hW
  have hW : kW D A s [(a, .inr (6, [.int (Int32.ofInt 0), .ref q32, .ref q33, .null, .null, .null, .null, .int (Int32.ofInt 0), .null, .null, .null, .null, .null, .null, .null, .null, .null, .null, .null, .int (Int32.ofInt 0), .null, .null, .null, .null, .null, .int (Int32.ofInt 0), .int (Int32.ofInt 0), .int (Int32.ofInt 0), .int (Int32.ofInt 0), .int (Int32.ofInt 0), .int (Int32.ofInt 0), .int (Int32.ofInt 0), .int (Int32.ofInt 0), .null])), (q32, .inl (cI, 16, .inl fun _ => Int32.ofInt 0)), (q33, .inl (cI, 16, .inl fun _ => Int32.ofInt 0))] H locs := hW2
  clear hW2
  refine lv_aload_n hx hb dX6_init_20 rfl (lv_at hl 0 rfl) ?_
  refine lv_bipush (v := 64) hx hb dX6_init_21 (by decide) ?_
  refine kc_arri (N := 64) (j := 3) hC (by decide) hin hW (by decide) (by decide) (by decide) (by decide) (Nat.le_of_ble_eq_true rfl) rfl rfl rfl kl_6_16 (Nat.le_of_ble_eq_true rfl) (Nat.le_of_ble_eq_true rfl) dX6_init_23 dX6_init_25 (fun q34 H locs hW2 => ?_)
  clear hW
  have hW : kW D A s [(a, .inr (6, [.int (Int32.ofInt 0), .ref q32, .ref q33, .ref q34, .null, .null, .null, .int (Int32.ofInt 0), .null, .null, .null, .null, .null, .null, .null, .null, .null, .null, .null, .int (Int32.ofInt 0), .null, .null, .null, .null, .null, .int (Int32.ofInt 0), .int (Int32.ofInt 0), .int (Int32.ofInt 0), .int (Int32.ofInt 0), .int (Int32.ofInt 0), .int (Int32.ofInt 0), .int (Int32.ofInt 0), .int (Int32.ofInt 0), .null])), (q32, .inl (cI, 16, .inl fun _ => Int32.ofInt 0)), (q33, .inl (cI, 16, .inl fun _ => Int32.ofInt 0)), (q34, .inl (cI, 64, .inl fun _ => Int32.ofInt 0))] H locs := hW2
  clear hW2
  refine lv_aload_n hx hb dX6_init_28 rfl (lv_at hl 0 rfl) ?_
  refine lv_bipush (v := 16) hx hb dX6_init_29 (by decide) ?_
  refine kc_arri (N := 16) (j := 4) hC (by decide) hin hW (by decide) (by decide) (by decide) (by decide) (Nat.le_of_ble_eq_true rfl) rfl rfl rfl kl_6_19 (Nat.le_of_ble_eq_true rfl) (Nat.le_of_ble_eq_true rfl) dX6_init_31 dX6_init_33 (fun q35 H locs hW2 => ?_)
  clear hW
  have hW : kW D A s [(a, .inr (6, [.int (Int32.ofInt 0), .ref q32, .ref q33, .ref q34, .ref q35, .null, .null, .int (Int32.ofInt 0), .null, .null, .null, .null, .null, .null, .null, .null, .null, .null, .null, .int (Int32.ofInt 0), .null, .null, .null, .null, .null, .int (Int32.ofInt 0), .int (Int32.ofInt 0), .int (Int32.ofInt 0), .int (Int32.ofInt 0), .int (Int32.ofInt 0), .int (Int32.ofInt 0), .int (Int32.ofInt 0), .int (Int32.ofInt 0), .null])), (q32, .inl (cI, 16, .inl fun _ => Int32.ofInt 0)), (q33, .inl (cI, 16, .inl fun _ => Int32.ofInt 0)), (q34, .inl (cI, 64, .inl fun _ => Int32.ofInt 0)), (q35, .inl (cI, 16, .inl fun _ => Int32.ofInt 0))] H locs := hW2
  clear hW2
  refine lv_aload_n hx hb dX6_init_36 rfl (lv_at hl 0 rfl) ?_
  refine lv_bipush (v := 16) hx hb dX6_init_37 (by decide) ?_
  refine kc_arrz (N := 16) (j := 5) hC (by decide) hin hW (by decide) (by decide) (by decide) (by decide) (Nat.le_of_ble_eq_true rfl) rfl rfl rfl kl_6_22 (Nat.le_of_ble_eq_true rfl) (Nat.le_of_ble_eq_true rfl) dX6_init_39 dX6_init_41 (fun q36 H locs hW2 => ?_)
  clear hW
  have hW : kW D A s [(a, .inr (6, [.int (Int32.ofInt 0), .ref q32, .ref q33, .ref q34, .ref q35, .ref q36, .null, .int (Int32.ofInt 0), .null, .null, .null, .null, .null, .null, .null, .null, .null, .null, .null, .int (Int32.ofInt 0), .null, .null, .null, .null, .null, .int (Int32.ofInt 0), .int (Int32.ofInt 0), .int (Int32.ofInt 0), .int (Int32.ofInt 0), .int (Int32.ofInt 0), .int (Int32.ofInt 0), .int (Int32.ofInt 0), .int (Int32.ofInt 0), .null])), (q32, .inl (cI, 16, .inl fun _ => Int32.ofInt 0)), (q33, .inl (cI, 16, .inl fun _ => Int32.ofInt 0)), (q34, .inl (cI, 64, .inl fun _ => Int32.ofInt 0)), (q35, .inl (cI, 16, .inl fun _ => Int32.ofInt 0)), (q36, .inl (cZ, 16, .inl fun _ => Int32.ofInt 0))] H locs := hW2
  clear hW2
  refine lv_aload_n hx hb dX6_init_44 rfl (lv_at hl 0 rfl) ?_
  refine lv_bipush (v := 16) hx hb dX6_init_45 (by decide) ?_
  refine kc_arri (N := 16) (j := 6) hC (by decide) hin hW (by decide) (by decide) (by decide) (by decide) (Nat.le_of_ble_eq_true rfl) rfl rfl rfl kl_6_26 (Nat.le_of_ble_eq_true rfl) (Nat.le_of_ble_eq_true rfl) dX6_init_47 dX6_init_49 (fun q37 H locs hW2 => ?_)
  clear hW
  have hW : kW D A s [(a, .inr (6, [.int (Int32.ofInt 0), .ref q32, .ref q33, .ref q34, .ref q35, .ref q36, .ref q37, .int (Int32.ofInt 0), .null, .null, .null, .null, .null, .null, .null, .null, .null, .null, .null, .int (Int32.ofInt 0), .null, .null, .null, .null, .null, .int (Int32.ofInt 0), .int (Int32.ofInt 0), .int (Int32.ofInt 0), .int (Int32.ofInt 0), .int (Int32.ofInt 0), .int (Int32.ofInt 0), .int (Int32.ofInt 0), .int (Int32.ofInt 0), .null])), (q32, .inl (cI, 16, .inl fun _ => Int32.ofInt 0)), (q33, .inl (cI, 16, .inl fun _ => Int32.ofInt 0)), (q34, .inl (cI, 64, .inl fun _ => Int32.ofInt 0)), (q35, .inl (cI, 16, .inl fun _ => Int32.ofInt 0)), (q36, .inl (cZ, 16, .inl fun _ => Int32.ofInt 0)), (q37, .inl (cI, 16, .inl fun _ => Int32.ofInt 0))] H locs := hW2
  clear hW2
  refine lv_aload_n hx hb dX6_init_52 rfl (lv_at hl 0 rfl) ?_
  refine lv_bipush (v := 60) hx hb dX6_init_53 (by decide) ?_
  refine kc_arri (N := 60) (j := 8) hC (by decide) hin hW (by decide) (by decide) (by decide) (by decide) (Nat.le_of_ble_eq_true rfl) rfl rfl rfl kl_6_29 (Nat.le_of_ble_eq_true rfl) (Nat.le_of_ble_eq_true rfl) dX6_init_55 dX6_init_57 (fun q38 H locs hW2 => ?_)
  clear hW
  have hW : kW D A s [(a, .inr (6, [.int (Int32.ofInt 0), .ref q32, .ref q33, .ref q34, .ref q35, .ref q36, .ref q37, .int (Int32.ofInt 0), .ref q38, .null, .null, .null, .null, .null, .null, .null, .null, .null, .null, .int (Int32.ofInt 0), .null, .null, .null, .null, .null, .int (Int32.ofInt 0), .int (Int32.ofInt 0), .int (Int32.ofInt 0), .int (Int32.ofInt 0), .int (Int32.ofInt 0), .int (Int32.ofInt 0), .int (Int32.ofInt 0), .int (Int32.ofInt 0), .null])), (q32, .inl (cI, 16, .inl fun _ => Int32.ofInt 0)), (q33, .inl (cI, 16, .inl fun _ => Int32.ofInt 0)), (q34, .inl (cI, 64, .inl fun _ => Int32.ofInt 0)), (q35, .inl (cI, 16, .inl fun _ => Int32.ofInt 0)), (q36, .inl (cZ, 16, .inl fun _ => Int32.ofInt 0)), (q37, .inl (cI, 16, .inl fun _ => Int32.ofInt 0)), (q38, .inl (cI, 60, .inl fun _ => Int32.ofInt 0))] H locs := hW2
  clear hW2
  refine lv_aload_n hx hb dX6_init_60 rfl (lv_at hl 0 rfl) ?_
  refine lv_bipush (v := 60) hx hb dX6_init_61 (by decide) ?_
  refine kc_arri (N := 60) (j := 9) hC (by decide) hin hW (by decide) (by decide) (by decide) (by decide) (Nat.le_of_ble_eq_true rfl) rfl rfl rfl kl_6_32 (Nat.le_of_ble_eq_true rfl) (Nat.le_of_ble_eq_true rfl) dX6_init_63 dX6_init_65 (fun q39 H locs hW2 => ?_)
  clear hW
  have hW : kW D A s [(a, .inr (6, [.int (Int32.ofInt 0), .ref q32, .ref q33, .ref q34, .ref q35, .ref q36, .ref q37, .int (Int32.ofInt 0), .ref q38, .ref q39, .null, .null, .null, .null, .null, .null, .null, .null, .null, .int (Int32.ofInt 0), .null, .null, .null, .null, .null, .int (Int32.ofInt 0), .int (Int32.ofInt 0), .int (Int32.ofInt 0), .int (Int32.ofInt 0), .int (Int32.ofInt 0), .int (Int32.ofInt 0), .int (Int32.ofInt 0), .int (Int32.ofInt 0), .null])), (q32, .inl (cI, 16, .inl fun _ => Int32.ofInt 0)), (q33, .inl (cI, 16, .inl fun _ => Int32.ofInt 0)), (q34, .inl (cI, 64, .inl fun _ => Int32.ofInt 0)), (q35, .inl (cI, 16, .inl fun _ => Int32.ofInt 0)), (q36, .inl (cZ, 16, .inl fun _ => Int32.ofInt 0)), (q37, .inl (cI, 16, .inl fun _ => Int32.ofInt 0)), (q38, .inl (cI, 60, .inl fun _ => Int32.ofInt 0)), (q39, .inl (cI, 60, .inl fun _ => Int32.ofInt 0))] H locs := hW2
  clear hW2
  refine lv_aload_n hx hb dX6_init_68 rfl (lv_at hl 0 rfl) ?_
  refine lv_bipush (v := 60) hx hb dX6_init_69 (by decide) ?_
  refine kc_arri (N := 60) (j := 10) hC (by decide) hin hW (by decide) (by decide) (by decide) (by decide) (Nat.le_of_ble_eq_true rfl) rfl rfl rfl kl_6_35 (Nat.le_of_ble_eq_true rfl) (Nat.le_of_ble_eq_true rfl) dX6_init_71 dX6_init_73 (fun q40 H locs hW2 => ?_)
  clear hW
  have hW : kW D A s [(a, .inr (6, [.int (Int32.ofInt 0), .ref q32, .ref q33, .ref q34, .ref q35, .ref q36, .ref q37, .int (Int32.ofInt 0), .ref q38, .ref q39, .ref q40, .null, .null, .null, .null, .null, .null, .null, .null, .int (Int32.ofInt 0), .null, .null, .null, .null, .null, .int (Int32.ofInt 0), .int (Int32.ofInt 0), .int (Int32.ofInt 0), .int (Int32.ofInt 0), .int (Int32.ofInt 0), .int (Int32.ofInt 0), .int (Int32.ofInt 0), .int (Int32.ofInt 0), .null])), (q32, .inl (cI, 16, .inl fun _ => Int32.ofInt 0)), (q33, .inl (cI, 16, .inl fun _ => Int32.ofInt 0)), (q34, .inl (cI, 64, .inl fun _ => Int32.ofInt 0)), (q35, .inl (cI, 16, .inl fun _ => Int32.ofInt 0)), (q36, .inl (cZ, 16, .inl fun _ => Int32.ofInt 0)), (q37, .inl (cI, 16, .inl fun _ => Int32.ofInt 0)), (q38, .inl (cI, 60, .inl fun _ => Int32.ofInt 0)), (q39, .inl (cI, 60, .inl fun _ => Int32.ofInt 0)), (q40, .inl (cI, 60, .inl fun _ => Int32.ofInt 0))] H locs := hW2
  clear hW2
  refine lv_aload_n hx hb dX6_init_76 rfl (lv_at hl 0 rfl) ?_
  refine lv_bipush (v := 60) hx hb dX6_init_77 (by decide) ?_
  refine kc_arri (N := 60) (j := 11) hC (by decide) hin hW (by decide) (by decide) (by decide) (by decide) (Nat.le_of_ble_eq_true rfl) rfl rfl rfl kl_6_38 (Nat.le_of_ble_eq_true rfl) (Nat.le_of_ble_eq_true rfl) dX6_init_79 dX6_init_81 (fun q41 H locs hW2 => ?_)
  clear hW
  have hW : kW D A s [(a, .inr (6, [.int (Int32.ofInt 0), .ref q32, .ref q33, .ref q34, .ref q35, .ref q36, .ref q37, .int (Int32.ofInt 0), .ref q38, .ref q39, .ref q40, .ref q41, .null, .null, .null, .null, .null, .null, .null, .int (Int32.ofInt 0), .null, .null, .null, .null, .null, .int (Int32.ofInt 0), .int (Int32.ofInt 0), .int (Int32.ofInt 0), .int (Int32.ofInt 0), .int (Int32.ofInt 0), .int (Int32.ofInt 0), .int (Int32.ofInt 0), .int (Int32.ofInt 0), .null])), (q32, .inl (cI, 16, .inl fun _ => Int32.ofInt 0)), (q33, .inl (cI, 16, .inl fun _ => Int32.ofInt 0)), (q34, .inl (cI, 64, .inl fun _ => Int32.ofInt 0)), (q35, .inl (cI, 16, .inl fun _ => Int32.ofInt 0)), (q36, .inl (cZ, 16, .inl fun _ => Int32.ofInt 0)), (q37, .inl (cI, 16, .inl fun _ => Int32.ofInt 0)), (q38, .inl (cI, 60, .inl fun _ => Int32.ofInt 0)), (q39, .inl (cI, 60, .inl fun _ => Int32.ofInt 0)), (q40, .inl (cI, 60, .inl fun _ => Int32.ofInt 0)), (q41, .inl (cI, 60, .inl fun _ => Int32.ofInt 0))] H locs := hW2
  clear hW2
  refine lv_aload_n hx hb dX6_init_84 rfl (lv_at hl 0 rfl) ?_
  refine lv_bipush (v := 60) hx hb dX6_init_85 (by decide) ?_
  refine kc_arri (N := 60) (j := 12) hC (by decide) hin hW (by decide) (by decide) (by decide) (by decide) (Nat.le_of_ble_eq_true rfl) rfl rfl rfl kl_6_41 (Nat.le_of_ble_eq_true rfl) (Nat.le_of_ble_eq_true rfl) dX6_init_87 dX6_init_89 (fun q42 H locs hW2 => ?_)
  clear hW
  have hW : kW D A s [(a, .inr (6, [.int (Int32.ofInt 0), .ref q32, .ref q33, .ref q34, .ref q35, .ref q36, .ref q37, .int (Int32.ofInt 0), .ref q38, .ref q39, .ref q40, .ref q41, .ref q42, .null, .null, .null, .null, .null, .null, .int (Int32.ofInt 0), .null, .null, .null, .null, .null, .int (Int32.ofInt 0), .int (Int32.ofInt 0), .int (Int32.ofInt 0), .int (Int32.ofInt 0), .int (Int32.ofInt 0), .int (Int32.ofInt 0), .int (Int32.ofInt 0), .int (Int32.ofInt 0), .null])), (q32, .inl (cI, 16, .inl fun _ => Int32.ofInt 0)), (q33, .inl (cI, 16, .inl fun _ => Int32.ofInt 0)), (q34, .inl (cI, 64, .inl fun _ => Int32.ofInt 0)), (q35, .inl (cI, 16, .inl fun _ => Int32.ofInt 0)), (q36, .inl (cZ, 16, .inl fun _ => Int32.ofInt 0)), (q37, .inl (cI, 16, .inl fun _ => Int32.ofInt 0)), (q38, .inl (cI, 60, .inl fun _ => Int32.ofInt 0)), (q39, .inl (cI, 60, .inl fun _ => Int32.ofInt 0)), (q40, .inl (cI, 60, .inl fun _ => Int32.ofInt 0)), (q41, .inl (cI, 60, .inl fun _ => Int32.ofInt 0)), (q42, .inl (cI, 60, .inl fun _ => Int32.ofInt 0))] H locs := hW2
  clear hW2
  refine lv_aload_n hx hb dX6_init_92 rfl (lv_at hl 0 rfl) ?_
  refine lv_bipush (v := 60) hx hb dX6_init_93 (by decide) ?_
  refine kc_arri (N := 60) (j := 13) hC (by decide) hin hW (by decide) (by decide) (by decide) (by decide) (Nat.le_of_ble_eq_true rfl) rfl rfl rfl kl_6_44 (Nat.le_of_ble_eq_true rfl) (Nat.le_of_ble_eq_true rfl) dX6_init_95 dX6_init_97 (fun q43 H locs hW2 => ?_)
  clear hW
  have hW : kW D A s [(a, .inr (6, [.int (Int32.ofInt 0), .ref q32, .ref q33, .ref q34, .ref q35, .ref q36, .ref q37, .int (Int32.ofInt 0), .ref q38, .ref q39, .ref q40, .ref q41, .ref q42, .ref q43, .null, .null, .null, .null, .null, .int (Int32.ofInt 0), .null, .null, .null, .null, .null, .int (Int32.ofInt 0), .int (Int32.ofInt 0), .int (Int32.ofInt 0), .int (Int32.ofInt 0), .int (Int32.ofInt 0), .int (Int32.ofInt 0), .int (Int32.ofInt 0), .int (Int32.ofInt 0), .null])), (q32, .inl (cI, 16, .inl fun _ => Int32.ofInt 0)), (q33, .inl (cI, 16, .inl fun _ => Int32.ofInt 0)), (q34, .inl (cI, 64, .inl fun _ => Int32.ofInt 0)), (q35, .inl (cI, 16, .inl fun _ => Int32.ofInt 0)), (q36, .inl (cZ, 16, .inl fun _ => Int32.ofInt 0)), (q37, .inl (cI, 16, .inl fun _ => Int32.ofInt 0)), (q38, .inl (cI, 60, .inl fun _ => Int32.ofInt 0)), (q39, .inl (cI, 60, .inl fun _ => Int32.ofInt 0)), (q40, .inl (cI, 60, .inl fun _ => Int32.ofInt 0)), (q41, .inl (cI, 60, .inl fun _ => Int32.ofInt 0)), (q42, .inl (cI, 60, .inl fun _ => Int32.ofInt 0)), (q43, .inl (cI, 60, .inl fun _ => Int32.ofInt 0))] H locs := hW2
  clear hW2
  refine lv_aload_n hx hb dX6_init_100 rfl (lv_at hl 0 rfl) ?_
  refine lv_bipush (v := 60) hx hb dX6_init_101 (by decide) ?_
  refine kc_arri (N := 60) (j := 14) hC (by decide) hin hW (by decide) (by decide) (by decide) (by decide) (Nat.le_of_ble_eq_true rfl) rfl rfl rfl kl_6_47 (Nat.le_of_ble_eq_true rfl) (Nat.le_of_ble_eq_true rfl) dX6_init_103 dX6_init_105 (fun q44 H locs hW2 => ?_)
  clear hW
  have hW : kW D A s [(a, .inr (6, [.int (Int32.ofInt 0), .ref q32, .ref q33, .ref q34, .ref q35, .ref q36, .ref q37, .int (Int32.ofInt 0), .ref q38, .ref q39, .ref q40, .ref q41, .ref q42, .ref q43, .ref q44, .null, .null, .null, .null, .int (Int32.ofInt 0), .null, .null, .null, .null, .null, .int (Int32.ofInt 0), .int (Int32.ofInt 0), .int (Int32.ofInt 0), .int (Int32.ofInt 0), .int (Int32.ofInt 0), .int (Int32.ofInt 0), .int (Int32.ofInt 0), .int (Int32.ofInt 0), .null])), (q32, .inl (cI, 16, .inl fun _ => Int32.ofInt 0)), (q33, .inl (cI, 16, .inl fun _ => Int32.ofInt 0)), (q34, .inl (cI, 64, .inl fun _ => Int32.ofInt 0)), (q35, .inl (cI, 16, .inl fun _ => Int32.ofInt 0)), (q36, .inl (cZ, 16, .inl fun _ => Int32.ofInt 0)), (q37, .inl (cI, 16, .inl fun _ => Int32.ofInt 0)), (q38, .inl (cI, 60, .inl fun _ => Int32.ofInt 0)), (q39, .inl (cI, 60, .inl fun _ => Int32.ofInt 0)), (q40, .inl (cI, 60, .inl fun _ => Int32.ofInt 0)), (q41, .inl (cI, 60, .inl fun _ => Int32.ofInt 0)), (q42, .inl (cI, 60, .inl fun _ => Int32.ofInt 0)), (q43, .inl (cI, 60, .inl fun _ => Int32.ofInt 0)), (q44, .inl (cI, 60, .inl fun _ => Int32.ofInt 0))] H locs := hW2
  clear hW2
  refine lv_aload_n hx hb dX6_init_108 rfl (lv_at hl 0 rfl) ?_
  refine lv_bipush (v := 60) hx hb dX6_init_109 (by decide) ?_
  refine kc_arri (N := 60) (j := 15) hC (by decide) hin hW (by decide) (by decide) (by decide) (by decide) (Nat.le_of_ble_eq_true rfl) rfl rfl rfl kl_6_50 (Nat.le_of_ble_eq_true rfl) (Nat.le_of_ble_eq_true rfl) dX6_init_111 dX6_init_113 (fun q45 H locs hW2 => ?_)
  clear hW
  have hW : kW D A s [(a, .inr (6, [.int (Int32.ofInt 0), .ref q32, .ref q33, .ref q34, .ref q35, .ref q36, .ref q37, .int (Int32.ofInt 0), .ref q38, .ref q39, .ref q40, .ref q41, .ref q42, .ref q43, .ref q44, .ref q45, .null, .null, .null, .int (Int32.ofInt 0), .null, .null, .null, .null, .null, .int (Int32.ofInt 0), .int (Int32.ofInt 0), .int (Int32.ofInt 0), .int (Int32.ofInt 0), .int (Int32.ofInt 0), .int (Int32.ofInt 0), .int (Int32.ofInt 0), .int (Int32.ofInt 0), .null])), (q32, .inl (cI, 16, .inl fun _ => Int32.ofInt 0)), (q33, .inl (cI, 16, .inl fun _ => Int32.ofInt 0)), (q34, .inl (cI, 64, .inl fun _ => Int32.ofInt 0)), (q35, .inl (cI, 16, .inl fun _ => Int32.ofInt 0)), (q36, .inl (cZ, 16, .inl fun _ => Int32.ofInt 0)), (q37, .inl (cI, 16, .inl fun _ => Int32.ofInt 0)), (q38, .inl (cI, 60, .inl fun _ => Int32.ofInt 0)), (q39, .inl (cI, 60, .inl fun _ => Int32.ofInt 0)), (q40, .inl (cI, 60, .inl fun _ => Int32.ofInt 0)), (q41, .inl (cI, 60, .inl fun _ => Int32.ofInt 0)), (q42, .inl (cI, 60, .inl fun _ => Int32.ofInt 0)), (q43, .inl (cI, 60, .inl fun _ => Int32.ofInt 0)), (q44, .inl (cI, 60, .inl fun _ => Int32.ofInt 0)), (q45, .inl (cI, 60, .inl fun _ => Int32.ofInt 0))] H locs := hW2
  clear hW2
  refine lv_aload_n hx hb dX6_init_116 rfl (lv_at hl 0 rfl) ?_
  refine lv_sipush (v := 160) hx hb dX6_init_117 (by decide) ?_
  refine kc_arri (N := 160) (j := 16) hC (by decide) hin hW (by decide) (by decide) (by decide) (by decide) (Nat.le_of_ble_eq_true rfl) rfl rfl rfl kl_6_53 (Nat.le_of_ble_eq_true rfl) (Nat.le_of_ble_eq_true rfl) dX6_init_120 dX6_init_122 (fun q46 H locs hW2 => ?_)
  clear hW
  have hW : kW D A s [(a, .inr (6, [.int (Int32.ofInt 0), .ref q32, .ref q33, .ref q34, .ref q35, .ref q36, .ref q37, .int (Int32.ofInt 0), .ref q38, .ref q39, .ref q40, .ref q41, .ref q42, .ref q43, .ref q44, .ref q45, .ref q46, .null, .null, .int (Int32.ofInt 0), .null, .null, .null, .null, .null, .int (Int32.ofInt 0), .int (Int32.ofInt 0), .int (Int32.ofInt 0), .int (Int32.ofInt 0), .int (Int32.ofInt 0), .int (Int32.ofInt 0), .int (Int32.ofInt 0), .int (Int32.ofInt 0), .null])), (q32, .inl (cI, 16, .inl fun _ => Int32.ofInt 0)), (q33, .inl (cI, 16, .inl fun _ => Int32.ofInt 0)), (q34, .inl (cI, 64, .inl fun _ => Int32.ofInt 0)), (q35, .inl (cI, 16, .inl fun _ => Int32.ofInt 0)), (q36, .inl (cZ, 16, .inl fun _ => Int32.ofInt 0)), (q37, .inl (cI, 16, .inl fun _ => Int32.ofInt 0)), (q38, .inl (cI, 60, .inl fun _ => Int32.ofInt 0)), (q39, .inl (cI, 60, .inl fun _ => Int32.ofInt 0)), (q40, .inl (cI, 60, .inl fun _ => Int32.ofInt 0)), (q41, .inl (cI, 60, .inl fun _ => Int32.ofInt 0)), (q42, .inl (cI, 60, .inl fun _ => Int32.ofInt 0)), (q43, .inl (cI, 60, .inl fun _ => Int32.ofInt 0)), (q44, .inl (cI, 60, .inl fun _ => Int32.ofInt 0)), (q45, .inl (cI, 60, .inl fun _ => Int32.ofInt 0)), (q46, .inl (cI, 160, .inl fun _ => Int32.ofInt 0))] H locs := hW2
  clear hW2
  refine lv_aload_n hx hb dX6_init_125 rfl (lv_at hl 0 rfl) ?_
  refine lv_bipush (v := 64) hx hb dX6_init_126 (by decide) ?_
  refine kc_arrz (N := 64) (j := 17) hC (by decide) hin hW (by decide) (by decide) (by decide) (by decide) (Nat.le_of_ble_eq_true rfl) rfl rfl rfl kl_6_56 (Nat.le_of_ble_eq_true rfl) (Nat.le_of_ble_eq_true rfl) dX6_init_128 dX6_init_130 (fun q47 H locs hW2 => ?_)
  clear hW
  have hW : kW D A s [(a, .inr (6, [.int (Int32.ofInt 0), .ref q32, .ref q33, .ref q34, .ref q35, .ref q36, .ref q37, .int (Int32.ofInt 0), .ref q38, .ref q39, .ref q40, .ref q41, .ref q42, .ref q43, .ref q44, .ref q45, .ref q46, .ref q47, .null, .int (Int32.ofInt 0), .null, .null, .null, .null, .null, .int (Int32.ofInt 0), .int (Int32.ofInt 0), .int (Int32.ofInt 0), .int (Int32.ofInt 0), .int (Int32.ofInt 0), .int (Int32.ofInt 0), .int (Int32.ofInt 0), .int (Int32.ofInt 0), .null])), (q32, .inl (cI, 16, .inl fun _ => Int32.ofInt 0)), (q33, .inl (cI, 16, .inl fun _ => Int32.ofInt 0)), (q34, .inl (cI, 64, .inl fun _ => Int32.ofInt 0)), (q35, .inl (cI, 16, .inl fun _ => Int32.ofInt 0)), (q36, .inl (cZ, 16, .inl fun _ => Int32.ofInt 0)), (q37, .inl (cI, 16, .inl fun _ => Int32.ofInt 0)), (q38, .inl (cI, 60, .inl fun _ => Int32.ofInt 0)), (q39, .inl (cI, 60, .inl fun _ => Int32.ofInt 0)), (q40, .inl (cI, 60, .inl fun _ => Int32.ofInt 0)), (q41, .inl (cI, 60, .inl fun _ => Int32.ofInt 0)), (q42, .inl (cI, 60, .inl fun _ => Int32.ofInt 0)), (q43, .inl (cI, 60, .inl fun _ => Int32.ofInt 0)), (q44, .inl (cI, 60, .inl fun _ => Int32.ofInt 0)), (q45, .inl (cI, 60, .inl fun _ => Int32.ofInt 0)), (q46, .inl (cI, 160, .inl fun _ => Int32.ofInt 0)), (q47, .inl (cZ, 64, .inl fun _ => Int32.ofInt 0))] H locs := hW2
  clear hW2
  refine lv_aload_n hx hb dX6_init_133 rfl (lv_at hl 0 rfl) ?_
  refine lv_bipush (v := 64) hx hb dX6_init_134 (by decide) ?_
  refine kc_arri (N := 64) (j := 18) hC (by decide) hin hW (by decide) (by decide) (by decide) (by decide) (Nat.le_of_ble_eq_true rfl) rfl rfl rfl kl_6_59 (Nat.le_of_ble_eq_true rfl) (Nat.le_of_ble_eq_true rfl) dX6_init_136 dX6_init_138 (fun q48 H locs hW2 => ?_)
  clear hW
  have hW : kW D A s [(a, .inr (6, [.int (Int32.ofInt 0), .ref q32, .ref q33, .ref q34, .ref q35, .ref q36, .ref q37, .int (Int32.ofInt 0), .ref q38, .ref q39, .ref q40, .ref q41, .ref q42, .ref q43, .ref q44, .ref q45, .ref q46, .ref q47, .ref q48, .int (Int32.ofInt 0), .null, .null, .null, .null, .null, .int (Int32.ofInt 0), .int (Int32.ofInt 0), .int (Int32.ofInt 0), .int (Int32.ofInt 0), .int (Int32.ofInt 0), .int (Int32.ofInt 0), .int (Int32.ofInt 0), .int (Int32.ofInt 0), .null])), (q32, .inl (cI, 16, .inl fun _ => Int32.ofInt 0)), (q33, .inl (cI, 16, .inl fun _ => Int32.ofInt 0)), (q34, .inl (cI, 64, .inl fun _ => Int32.ofInt 0)), (q35, .inl (cI, 16, .inl fun _ => Int32.ofInt 0)), (q36, .inl (cZ, 16, .inl fun _ => Int32.ofInt 0)), (q37, .inl (cI, 16, .inl fun _ => Int32.ofInt 0)), (q38, .inl (cI, 60, .inl fun _ => Int32.ofInt 0)), (q39, .inl (cI, 60, .inl fun _ => Int32.ofInt 0)), (q40, .inl (cI, 60, .inl fun _ => Int32.ofInt 0)), (q41, .inl (cI, 60, .inl fun _ => Int32.ofInt 0)), (q42, .inl (cI, 60, .inl fun _ => Int32.ofInt 0)), (q43, .inl (cI, 60, .inl fun _ => Int32.ofInt 0)), (q44, .inl (cI, 60, .inl fun _ => Int32.ofInt 0)), (q45, .inl (cI, 60, .inl fun _ => Int32.ofInt 0)), (q46, .inl (cI, 160, .inl fun _ => Int32.ofInt 0)), (q47, .inl (cZ, 64, .inl fun _ => Int32.ofInt 0)), (q48, .inl (cI, 64, .inl fun _ => Int32.ofInt 0))] H locs := hW2
  clear hW2
  refine lv_aload_n hx hb dX6_init_141 rfl (lv_at hl 0 rfl) ?_
  refine lv_bipush (v := 16) hx hb dX6_init_142 (by decide) ?_
  refine kc_arri (N := 16) (j := 20) hC (by decide) hin hW (by decide) (by decide) (by decide) (by decide) (Nat.le_of_ble_eq_true rfl) rfl rfl rfl kl_6_62 (Nat.le_of_ble_eq_true rfl) (Nat.le_of_ble_eq_true rfl) dX6_init_144 dX6_init_146 (fun q49 H locs hW2 => ?_)
  clear hW
  have hW : kW D A s [(a, .inr (6, [.int (Int32.ofInt 0), .ref q32, .ref q33, .ref q34, .ref q35, .ref q36, .ref q37, .int (Int32.ofInt 0), .ref q38, .ref q39, .ref q40, .ref q41, .ref q42, .ref q43, .ref q44, .ref q45, .ref q46, .ref q47, .ref q48, .int (Int32.ofInt 0), .ref q49, .null, .null, .null, .null, .int (Int32.ofInt 0), .int (Int32.ofInt 0), .int (Int32.ofInt 0), .int (Int32.ofInt 0), .int (Int32.ofInt 0), .int (Int32.ofInt 0), .int (Int32.ofInt 0), .int (Int32.ofInt 0), .null])), (q32, .inl (cI, 16, .inl fun _ => Int32.ofInt 0)), (q33, .inl (cI, 16, .inl fun _ => Int32.ofInt 0)), (q34, .inl (cI, 64, .inl fun _ => Int32.ofInt 0)), (q35, .inl (cI, 16, .inl fun _ => Int32.ofInt 0)), (q36, .inl (cZ, 16, .inl fun _ => Int32.ofInt 0)), (q37, .inl (cI, 16, .inl fun _ => Int32.ofInt 0)), (q38, .inl (cI, 60, .inl fun _ => Int32.ofInt 0)), (q39, .inl (cI, 60, .inl fun _ => Int32.ofInt 0)), (q40, .inl (cI, 60, .inl fun _ => Int32.ofInt 0)), (q41, .inl (cI, 60, .inl fun _ => Int32.ofInt 0)), (q42, .inl (cI, 60, .inl fun _ => Int32.ofInt 0)), (q43, .inl (cI, 60, .inl fun _ => Int32.ofInt 0)), (q44, .inl (cI, 60, .inl fun _ => Int32.ofInt 0)), (q45, .inl (cI, 60, .inl fun _ => Int32.ofInt 0)), (q46, .inl (cI, 160, .inl fun _ => Int32.ofInt 0)), (q47, .inl (cZ, 64, .inl fun _ => Int32.ofInt 0)), (q48, .inl (cI, 64, .inl fun _ => Int32.ofInt 0)), (q49, .inl (cI, 16, .inl fun _ => Int32.ofInt 0))] H locs := hW2
  clear hW2
  refine lv_aload_n hx hb dX6_init_149 rfl (lv_at hl 0 rfl) ?_
  refine lv_sipush (v := 2560) hx hb dX6_init_150 (by decide) ?_
  refine kc_arri (N := 2560) (j := 21) hC (by decide) hin hW (by decide) (by decide) (by decide) (by decide) (Nat.le_of_ble_eq_true rfl) rfl rfl rfl kl_6_65 (Nat.le_of_ble_eq_true rfl) (Nat.le_of_ble_eq_true rfl) dX6_init_153 dX6_init_155 (fun q50 H locs hW2 => ?_)
  clear hW
  have hW : kW D A s [(a, .inr (6, [.int (Int32.ofInt 0), .ref q32, .ref q33, .ref q34, .ref q35, .ref q36, .ref q37, .int (Int32.ofInt 0), .ref q38, .ref q39, .ref q40, .ref q41, .ref q42, .ref q43, .ref q44, .ref q45, .ref q46, .ref q47, .ref q48, .int (Int32.ofInt 0), .ref q49, .ref q50, .null, .null, .null, .int (Int32.ofInt 0), .int (Int32.ofInt 0), .int (Int32.ofInt 0), .int (Int32.ofInt 0), .int (Int32.ofInt 0), .int (Int32.ofInt 0), .int (Int32.ofInt 0), .int (Int32.ofInt 0), .null])), (q32, .inl (cI, 16, .inl fun _ => Int32.ofInt 0)), (q33, .inl (cI, 16, .inl fun _ => Int32.ofInt 0)), (q34, .inl (cI, 64, .inl fun _ => Int32.ofInt 0)), (q35, .inl (cI, 16, .inl fun _ => Int32.ofInt 0)), (q36, .inl (cZ, 16, .inl fun _ => Int32.ofInt 0)), (q37, .inl (cI, 16, .inl fun _ => Int32.ofInt 0)), (q38, .inl (cI, 60, .inl fun _ => Int32.ofInt 0)), (q39, .inl (cI, 60, .inl fun _ => Int32.ofInt 0)), (q40, .inl (cI, 60, .inl fun _ => Int32.ofInt 0)), (q41, .inl (cI, 60, .inl fun _ => Int32.ofInt 0)), (q42, .inl (cI, 60, .inl fun _ => Int32.ofInt 0)), (q43, .inl (cI, 60, .inl fun _ => Int32.ofInt 0)), (q44, .inl (cI, 60, .inl fun _ => Int32.ofInt 0)), (q45, .inl (cI, 60, .inl fun _ => Int32.ofInt 0)), (q46, .inl (cI, 160, .inl fun _ => Int32.ofInt 0)), (q47, .inl (cZ, 64, .inl fun _ => Int32.ofInt 0)), (q48, .inl (cI, 64, .inl fun _ => Int32.ofInt 0)), (q49, .inl (cI, 16, .inl fun _ => Int32.ofInt 0)), (q50, .inl (cI, 2560, .inl fun _ => Int32.ofInt 0))] H locs := hW2
  clear hW2
  refine lv_aload_n hx hb dX6_init_158 rfl (lv_at hl 0 rfl) ?_
  refine lv_sipush (v := 160) hx hb dX6_init_159 (by decide) ?_
  refine kc_arri (N := 160) (j := 22) hC (by decide) hin hW (by decide) (by decide) (by decide) (by decide) (Nat.le_of_ble_eq_true rfl) rfl rfl rfl kl_6_68 (Nat.le_of_ble_eq_true rfl) (Nat.le_of_ble_eq_true rfl) dX6_init_162 dX6_init_164 (fun q51 H locs hW2 => ?_)
  clear hW
  have hW : kW D A s [(a, .inr (6, [.int (Int32.ofInt 0), .ref q32, .ref q33, .ref q34, .ref q35, .ref q36, .ref q37, .int (Int32.ofInt 0), .ref q38, .ref q39, .ref q40, .ref q41, .ref q42, .ref q43, .ref q44, .ref q45, .ref q46, .ref q47, .ref q48, .int (Int32.ofInt 0), .ref q49, .ref q50, .ref q51, .null, .null, .int (Int32.ofInt 0), .int (Int32.ofInt 0), .int (Int32.ofInt 0), .int (Int32.ofInt 0), .int (Int32.ofInt 0), .int (Int32.ofInt 0), .int (Int32.ofInt 0), .int (Int32.ofInt 0), .null])), (q32, .inl (cI, 16, .inl fun _ => Int32.ofInt 0)), (q33, .inl (cI, 16, .inl fun _ => Int32.ofInt 0)), (q34, .inl (cI, 64, .inl fun _ => Int32.ofInt 0)), (q35, .inl (cI, 16, .inl fun _ => Int32.ofInt 0)), (q36, .inl (cZ, 16, .inl fun _ => Int32.ofInt 0)), (q37, .inl (cI, 16, .inl fun _ => Int32.ofInt 0)), (q38, .inl (cI, 60, .inl fun _ => Int32.ofInt 0)), (q39, .inl (cI, 60, .inl fun _ => Int32.ofInt 0)), (q40, .inl (cI, 60, .inl fun _ => Int32.ofInt 0)), (q41, .inl (cI, 60, .inl fun _ => Int32.ofInt 0)), (q42, .inl (cI, 60, .inl fun _ => Int32.ofInt 0)), (q43, .inl (cI, 60, .inl fun _ => Int32.ofInt 0)), (q44, .inl (cI, 60, .inl fun _ => Int32.ofInt 0)), (q45, .inl (cI, 60, .inl fun _ => Int32.ofInt 0)), (q46, .inl (cI, 160, .inl fun _ => Int32.ofInt 0)), (q47, .inl (cZ, 64, .inl fun _ => Int32.ofInt 0)), (q48, .inl (cI, 64, .inl fun _ => Int32.ofInt 0)), (q49, .inl (cI, 16, .inl fun _ => Int32.ofInt 0)), (q50, .inl (cI, 2560, .inl fun _ => Int32.ofInt 0)), (q51, .inl (cI, 160, .inl fun _ => Int32.ofInt 0))] H locs := hW2
  clear hW2
  refine lv_aload_n hx hb dX6_init_167 rfl (lv_at hl 0 rfl) ?_
  refine lv_sipush (v := 2560) hx hb dX6_init_168 (by decide) ?_
  refine kc_arri (N := 2560) (j := 23) hC (by decide) hin hW (by decide) (by decide) (by decide) (by decide) (Nat.le_of_ble_eq_true rfl) rfl rfl rfl kl_6_71 (Nat.le_of_ble_eq_true rfl) (Nat.le_of_ble_eq_true rfl) dX6_init_171 dX6_init_173 (fun q52 H locs hW2 => ?_)
  clear hW
  have hW : kW D A s [(a, .inr (6, [.int (Int32.ofInt 0), .ref q32, .ref q33, .ref q34, .ref q35, .ref q36, .ref q37, .int (Int32.ofInt 0), .ref q38, .ref q39, .ref q40, .ref q41, .ref q42, .ref q43, .ref q44, .ref q45, .ref q46, .ref q47, .ref q48, .int (Int32.ofInt 0), .ref q49, .ref q50, .ref q51, .ref q52, .null, .int (Int32.ofInt 0), .int (Int32.ofInt 0), .int (Int32.ofInt 0), .int (Int32.ofInt 0), .int (Int32.ofInt 0), .int (Int32.ofInt 0), .int (Int32.ofInt 0), .int (Int32.ofInt 0), .null])), (q32, .inl (cI, 16, .inl fun _ => Int32.ofInt 0)), (q33, .inl (cI, 16, .inl fun _ => Int32.ofInt 0)), (q34, .inl (cI, 64, .inl fun _ => Int32.ofInt 0)), (q35, .inl (cI, 16, .inl fun _ => Int32.ofInt 0)), (q36, .inl (cZ, 16, .inl fun _ => Int32.ofInt 0)), (q37, .inl (cI, 16, .inl fun _ => Int32.ofInt 0)), (q38, .inl (cI, 60, .inl fun _ => Int32.ofInt 0)), (q39, .inl (cI, 60, .inl fun _ => Int32.ofInt 0)), (q40, .inl (cI, 60, .inl fun _ => Int32.ofInt 0)), (q41, .inl (cI, 60, .inl fun _ => Int32.ofInt 0)), (q42, .inl (cI, 60, .inl fun _ => Int32.ofInt 0)), (q43, .inl (cI, 60, .inl fun _ => Int32.ofInt 0)), (q44, .inl (cI, 60, .inl fun _ => Int32.ofInt 0)), (q45, .inl (cI, 60, .inl fun _ => Int32.ofInt 0)), (q46, .inl (cI, 160, .inl fun _ => Int32.ofInt 0)), (q47, .inl (cZ, 64, .inl fun _ => Int32.ofInt 0)), (q48, .inl (cI, 64, .inl fun _ => Int32.ofInt 0)), (q49, .inl (cI, 16, .inl fun _ => Int32.ofInt 0)), (q50, .inl (cI, 2560, .inl fun _ => Int32.ofInt 0)), (q51, .inl (cI, 160, .inl fun _ => Int32.ofInt 0)), (q52, .inl (cI, 2560, .inl fun _ => Int32.ofInt 0))] H locs := hW2
  clear hW2
  refine lv_aload_n hx hb dX6_init_176 rfl (lv_at hl 0 rfl) ?_
  refine lv_sipush (v := 160) hx hb dX6_init_177 (by decide) ?_
  refine kc_arri (N := 160) (j := 24) hC (by decide) hin hW (by decide) (by decide) (by decide) (by decide) (Nat.le_of_ble_eq_true rfl) rfl rfl rfl kl_6_74 (Nat.le_of_ble_eq_true rfl) (Nat.le_of_ble_eq_true rfl) dX6_init_180 dX6_init_182 (fun q53 H locs hW2 => ?_)
  clear hW
  have hW : kW D A s [(a, .inr (6, [.int (Int32.ofInt 0), .ref q32, .ref q33, .ref q34, .ref q35, .ref q36, .ref q37, .int (Int32.ofInt 0), .ref q38, .ref q39, .ref q40, .ref q41, .ref q42, .ref q43, .ref q44, .ref q45, .ref q46, .ref q47, .ref q48, .int (Int32.ofInt 0), .ref q49, .ref q50, .ref q51, .ref q52, .ref q53, .int (Int32.ofInt 0), .int (Int32.ofInt 0), .int (Int32.ofInt 0), .int (Int32.ofInt 0), .int (Int32.ofInt 0), .int (Int32.ofInt 0), .int (Int32.ofInt 0), .int (Int32.ofInt 0), .null])), (q32, .inl (cI, 16, .inl fun _ => Int32.ofInt 0)), (q33, .inl (cI, 16, .inl fun _ => Int32.ofInt 0)), (q34, .inl (cI, 64, .inl fun _ => Int32.ofInt 0)), (q35, .inl (cI, 16, .inl fun _ => Int32.ofInt 0)), (q36, .inl (cZ, 16, .inl fun _ => Int32.ofInt 0)), (q37, .inl (cI, 16, .inl fun _ => Int32.ofInt 0)), (q38, .inl (cI, 60, .inl fun _ => Int32.ofInt 0)), (q39, .inl (cI, 60, .inl fun _ => Int32.ofInt 0)), (q40, .inl (cI, 60, .inl fun _ => Int32.ofInt 0)), (q41, .inl (cI, 60, .inl fun _ => Int32.ofInt 0)), (q42, .inl (cI, 60, .inl fun _ => Int32.ofInt 0)), (q43, .inl (cI, 60, .inl fun _ => Int32.ofInt 0)), (q44, .inl (cI, 60, .inl fun _ => Int32.ofInt 0)), (q45, .inl (cI, 60, .inl fun _ => Int32.ofInt 0)), (q46, .inl (cI, 160, .inl fun _ => Int32.ofInt 0)), (q47, .inl (cZ, 64, .inl fun _ => Int32.ofInt 0)), (q48, .inl (cI, 64, .inl fun _ => Int32.ofInt 0)), (q49, .inl (cI, 16, .inl fun _ => Int32.ofInt 0)), (q50, .inl (cI, 2560, .inl fun _ => Int32.ofInt 0)), (q51, .inl (cI, 160, .inl fun _ => Int32.ofInt 0)), (q52, .inl (cI, 2560, .inl fun _ => Int32.ofInt 0)), (q53, .inl (cI, 160, .inl fun _ => Int32.ofInt 0))] H locs := hW2
  clear hW2
  refine lv_aload_n hx hb dX6_init_185 rfl (lv_at hl 0 rfl) ?_
  refine lv_bipush (v := 16) hx hb dX6_init_186 (by decide) ?_
  refine kc_arri (N := 16) (j := 33) hC (by decide) hin hW (by decide) (by decide) (by decide) (by decide) (Nat.le_of_ble_eq_true rfl) rfl rfl rfl kl_6_77 (Nat.le_of_ble_eq_true rfl) (Nat.le_of_ble_eq_true rfl) dX6_init_188 dX6_init_190 (fun q54 H locs hW2 => ?_)
  clear hW
  have hW : kW D A s [(a, .inr (6, [.int (Int32.ofInt 0), .ref q32, .ref q33, .ref q34, .ref q35, .ref q36, .ref q37, .int (Int32.ofInt 0), .ref q38, .ref q39, .ref q40, .ref q41, .ref q42, .ref q43, .ref q44, .ref q45, .ref q46, .ref q47, .ref q48, .int (Int32.ofInt 0), .ref q49, .ref q50, .ref q51, .ref q52, .ref q53, .int (Int32.ofInt 0), .int (Int32.ofInt 0), .int (Int32.ofInt 0), .int (Int32.ofInt 0), .int (Int32.ofInt 0), .int (Int32.ofInt 0), .int (Int32.ofInt 0), .int (Int32.ofInt 0), .ref q54])), (q32, .inl (cI, 16, .inl fun _ => Int32.ofInt 0)), (q33, .inl (cI, 16, .inl fun _ => Int32.ofInt 0)), (q34, .inl (cI, 64, .inl fun _ => Int32.ofInt 0)), (q35, .inl (cI, 16, .inl fun _ => Int32.ofInt 0)), (q36, .inl (cZ, 16, .inl fun _ => Int32.ofInt 0)), (q37, .inl (cI, 16, .inl fun _ => Int32.ofInt 0)), (q38, .inl (cI, 60, .inl fun _ => Int32.ofInt 0)), (q39, .inl (cI, 60, .inl fun _ => Int32.ofInt 0)), (q40, .inl (cI, 60, .inl fun _ => Int32.ofInt 0)), (q41, .inl (cI, 60, .inl fun _ => Int32.ofInt 0)), (q42, .inl (cI, 60, .inl fun _ => Int32.ofInt 0)), (q43, .inl (cI, 60, .inl fun _ => Int32.ofInt 0)), (q44, .inl (cI, 60, .inl fun _ => Int32.ofInt 0)), (q45, .inl (cI, 60, .inl fun _ => Int32.ofInt 0)), (q46, .inl (cI, 160, .inl fun _ => Int32.ofInt 0)), (q47, .inl (cZ, 64, .inl fun _ => Int32.ofInt 0)), (q48, .inl (cI, 64, .inl fun _ => Int32.ofInt 0)), (q49, .inl (cI, 16, .inl fun _ => Int32.ofInt 0)), (q50, .inl (cI, 2560, .inl fun _ => Int32.ofInt 0)), (q51, .inl (cI, 160, .inl fun _ => Int32.ofInt 0)), (q52, .inl (cI, 2560, .inl fun _ => Int32.ofInt 0)), (q53, .inl (cI, 160, .inl fun _ => Int32.ofInt 0)), (q54, .inl (cI, 16, .inl fun _ => Int32.ofInt 0))] H locs := hW2
  clear hW2
  obtain ⟨ad, had⟩ : ∃ ad : Nat → Nat, ad = fun k => if k = 31 then a else if k = 32 then q32 else if k = 33 then q33 else if k = 34 then q34 else if k = 35 then q35 else if k = 36 then q36 else if k = 37 then q37 else if k = 38 then q38 else if k = 39 then q39 else if k = 40 then q40 else if k = 41 then q41 else if k = 42 then q42 else if k = 43 then q43 else if k = 44 then q44 else if k = 45 then q45 else if k = 46 then q46 else if k = 47 then q47 else if k = 48 then q48 else if k = 49 then q49 else if k = 50 then q50 else if k = 51 then q51 else if k = 52 then q52 else if k = 53 then q53 else if k = 54 then q54 else 0 := ⟨_, rfl⟩
  have e31 : ad 31 = a := by rw [had]; rfl
  have e32 : ad 32 = q32 := by rw [had]; rfl
  have e33 : ad 33 = q33 := by rw [had]; rfl
  have e34 : ad 34 = q34 := by rw [had]; rfl
  have e35 : ad 35 = q35 := by rw [had]; rfl
  have e36 : ad 36 = q36 := by rw [had]; rfl
  have e37 : ad 37 = q37 := by rw [had]; rfl
  have e38 : ad 38 = q38 := by rw [had]; rfl
  have e39 : ad 39 = q39 := by rw [had]; rfl
  have e40 : ad 40 = q40 := by rw [had]; rfl
  have e41 : ad 41 = q41 := by rw [had]; rfl
  have e42 : ad 42 = q42 := by rw [had]; rfl
  have e43 : ad 43 = q43 := by rw [had]; rfl
  have e44 : ad 44 = q44 := by rw [had]; rfl
  have e45 : ad 45 = q45 := by rw [had]; rfl
  have e46 : ad 46 = q46 := by rw [had]; rfl
  have e47 : ad 47 = q47 := by rw [had]; rfl
  have e48 : ad 48 = q48 := by rw [had]; rfl
  have e49 : ad 49 = q49 := by rw [had]; rfl
  have e50 : ad 50 = q50 := by rw [had]; rfl
  have e51 : ad 51 = q51 := by rw [had]; rfl
  have e52 : ad 52 = q52 := by rw [had]; rfl
  have e53 : ad 53 = q53 := by rw [had]; rfl
  have e54 : ad 54 = q54 := by rw [had]; rfl
  have hZ : kW D A s (zwd dM ad cI cZ z00) H locs := by
    rw [zwd_6, e31, e32, e33, e34, e35, e36, e37, e38, e39, e40, e41, e42, e43, e44, e45, e46, e47, e48, e49, e50, e51, e52, e53, e54]
    exact ⟨hW.1.sub [0, 1, 2, 3, 4, 5, 6, 7, 8, 9, 10, 11, 12, 13, 14, 15, 16, 17, 18, 19, 20, 21, 22, 23] rfl, hW.2.1.sub [0, 1, 2, 3, 4, 5, 6, 7, 8, 9, 10, 11, 12, 13, 14, 15, 16, 17, 18, 19, 20, 21, 22, 23] (by decide) rfl, hW.2.2⟩
  clear had
  rw [← e31] at hl
  refine lv_iconst (v := Int32.ofInt 0) hx hb dX6_init_193 rfl ?_
  refine lv_istore_n hx hb dX6_init_194 rfl hl (by decide) rfl (fun ls hl => ?_)
  refine c_M_loop hC (fun H locs ls hZ hl => ?_) 160 0 H locs ls (by decide) (by decide) rfl (by rw [sOwn_0]; exact hZ) hl
  refine lv_aload_n hx hb dX6_init_216 rfl (lv_at hl 1 rfl) ?_
  refine lv_iconst (v := Int32.ofInt 0) hx hb dX6_init_217 rfl ?_
  refine kc_callv (y' := 80) (r := 31) (as := [.inl 0]) (rest := []) (Q' := fun _ σ1 => σ1 = sAT (sOwn z00 160)) hC hZ dX6_init_218 kl_6_80 (by decide) (by decide) zcw_80 (Nat.le_of_ble_eq_true rfl) (Nat.le_of_ble_eq_true rfl) (Nat.le_of_ble_eq_true rfl) (Nat.le_of_ble_eq_true rfl) (by decide) ⟨by decide, by decide, by decide⟩ hl.1 (Nat.le_of_ble_eq_true rfl) (d_addType (by rw [sOwn_n]; decide) (by rw [sOwn_n]; decide) rfl) rfl (fun x σ1 H locs hq hZ => ?_)
  subst hq
  rw [show kpu 80 x [] = [] from rfl]
  refine lv_iconst (v := Int32.ofInt 0) hx hb dX6_init_221 rfl ?_
  refine lv_istore_n hx hb dX6_init_222 rfl hl (by decide) rfl (fun ls hl => ?_)
  refine lv_iload_n hx hb dX6_init_223 rfl (lv_at hl 0 rfl) ?_
  refine lv_iconst (v := Int32.ofInt 3) hx hb dX6_init_224 rfl ?_
  refine lv_icmp_ge (tgt := 251) hx hb dX6_init_225 rfl (fun z => absurd z (by decide)) (fun _ => ?_)
  refine lv_aload_n hx hb dX6_init_228 rfl (lv_at hl 1 rfl) ?_
  refine lv_iconst (v := Int32.ofInt 0) hx hb dX6_init_229 rfl ?_
  refine lv_iload_n hx hb dX6_init_230 rfl (lv_at hl 0 rfl) ?_
  refine lv_iload_n hx hb dX6_init_231 rfl (lv_at hl 0 rfl) ?_
  refine lv_iconst (v := Int32.ofInt 2) hx hb dX6_init_232 rfl ?_
  refine lv_icmp_ne (tgt := 240) hx hb dX6_init_233 rfl (fun _ => ?_) (fun z => absurd z (by decide))
  refine lv_iconst (v := Int32.ofInt 1) hx hb dX6_init_240 rfl ?_
  refine lv_iconst (v := Int32.ofInt 0) hx hb dX6_init_241 rfl ?_
  refine kc_callv (y' := 81) (r := 31) (as := [.inl 0, .inl 0, .inl 1, .inl 0]) (rest := []) (Q' := fun _ σ1 => σ1 = sAM (sAT (sOwn z00 160)) 0 1) hC hZ dX6_init_242 kl_6_84 (by decide) (by decide) zcw_81 (Nat.le_of_ble_eq_true rfl) (Nat.le_of_ble_eq_true rfl) (Nat.le_of_ble_eq_true rfl) (Nat.le_of_ble_eq_true rfl) (by decide) ⟨by decide, by decide, by decide⟩ hl.1 (Nat.le_of_ble_eq_true rfl) (d_addMember (by decide) (by decide) (by decide) (by decide) (by rw [sAT_n, sOwn_n]; decide) (by rw [sAT_n, sOwn_n]; decide) rfl) rfl (fun x σ1 H locs hq hZ => ?_)
  subst hq
  rw [show kpu 81 x [] = [] from rfl]
  refine lv_iinc (k := 0) (v := Int32.ofInt 1) hx hb dX6_init_245 hl rfl (by decide) (by decide) rfl (fun ls hl => ?_)
  refine lv_goto (tgt := 223) hx hb dX6_init_248 rfl ?_
  refine lv_iload_n hx hb dX6_init_223 rfl (lv_at hl 0 rfl) ?_
  refine lv_iconst (v := Int32.ofInt 3) hx hb dX6_init_224 rfl ?_
  refine lv_icmp_ge (tgt := 251) hx hb dX6_init_225 rfl (fun z => absurd z (by decide)) (fun _ => ?_)
  refine lv_aload_n hx hb dX6_init_228 rfl (lv_at hl 1 rfl) ?_
  refine lv_iconst (v := Int32.ofInt 0) hx hb dX6_init_229 rfl ?_
  refine lv_iload_n hx hb dX6_init_230 rfl (lv_at hl 0 rfl) ?_
  refine lv_iload_n hx hb dX6_init_231 rfl (lv_at hl 0 rfl) ?_
  refine lv_iconst (v := Int32.ofInt 2) hx hb dX6_init_232 rfl ?_
  refine lv_icmp_ne (tgt := 240) hx hb dX6_init_233 rfl (fun _ => ?_) (fun z => absurd z (by decide))
  refine lv_iconst (v := Int32.ofInt 1) hx hb dX6_init_240 rfl ?_
  refine lv_iconst (v := Int32.ofInt 0) hx hb dX6_init_241 rfl ?_
  refine kc_callv (y' := 81) (r := 31) (as := [.inl 0, .inl 1, .inl 1, .inl 0]) (rest := []) (Q' := fun _ σ1 => σ1 = sAM (sAM (sAT (sOwn z00 160)) 0 1) 1 1) hC hZ dX6_init_242 kl_6_84 (by decide) (by decide) zcw_81 (Nat.le_of_ble_eq_true rfl) (Nat.le_of_ble_eq_true rfl) (Nat.le_of_ble_eq_true rfl) (Nat.le_of_ble_eq_true rfl) (by decide) ⟨by decide, by decide, by decide⟩ hl.1 (Nat.le_of_ble_eq_true rfl) (d_addMember (by decide) (by decide) (by decide) (by decide) (by rw [sAM_n, sAT_n, sOwn_n]; decide) (by rw [sAM_n, sAT_n, sOwn_n]; decide) rfl) rfl (fun x σ1 H locs hq hZ => ?_)
  subst hq
  rw [show kpu 81 x [] = [] from rfl]
  refine lv_iinc (k := 0) (v := Int32.ofInt 2) hx hb dX6_init_245 hl rfl (by decide) (by decide) rfl (fun ls hl => ?_)
  refine lv_goto (tgt := 223) hx hb dX6_init_248 rfl ?_
  refine lv_iload_n hx hb dX6_init_223 rfl (lv_at hl 0 rfl) ?_
  refine lv_iconst (v := Int32.ofInt 3) hx hb dX6_init_224 rfl ?_
  refine lv_icmp_ge (tgt := 251) hx hb dX6_init_225 rfl (fun z => absurd z (by decide)) (fun _ => ?_)
  refine lv_aload_n hx hb dX6_init_228 rfl (lv_at hl 1 rfl) ?_
  refine lv_iconst (v := Int32.ofInt 0) hx hb dX6_init_229 rfl ?_
  refine lv_iload_n hx hb dX6_init_230 rfl (lv_at hl 0 rfl) ?_
  refine lv_iload_n hx hb dX6_init_231 rfl (lv_at hl 0 rfl) ?_
  refine lv_iconst (v := Int32.ofInt 2) hx hb dX6_init_232 rfl ?_
  refine lv_icmp_ne (tgt := 240) hx hb dX6_init_233 rfl (fun z => absurd rfl z) (fun _ => ?_)
  refine lv_iconst (v := Int32.ofInt 4) hx hb dX6_init_236 rfl ?_
  refine lv_goto (tgt := 241) hx hb dX6_init_237 rfl ?_
  refine lv_iconst (v := Int32.ofInt 0) hx hb dX6_init_241 rfl ?_
  refine kc_callv (y' := 81) (r := 31) (as := [.inl 0, .inl 2, .inl 4, .inl 0]) (rest := []) (Q' := fun _ σ1 => σ1 = sAM (sAM (sAM (sAT (sOwn z00 160)) 0 1) 1 1) 2 4) hC hZ dX6_init_242 kl_6_84 (by decide) (by decide) zcw_81 (Nat.le_of_ble_eq_true rfl) (Nat.le_of_ble_eq_true rfl) (Nat.le_of_ble_eq_true rfl) (Nat.le_of_ble_eq_true rfl) (by decide) ⟨by decide, by decide, by decide⟩ hl.1 (Nat.le_of_ble_eq_true rfl) (d_addMember (by decide) (by decide) (by decide) (by decide) (by rw [sAM_n, sAM_n, sAT_n, sOwn_n]; decide) (by rw [sAM_n, sAM_n, sAT_n, sOwn_n]; decide) rfl) rfl (fun x σ1 H locs hq hZ => ?_)
  subst hq
  rw [show kpu 81 x [] = [] from rfl]
  refine lv_iinc (k := 0) (v := Int32.ofInt 3) hx hb dX6_init_245 hl rfl (by decide) (by decide) rfl (fun ls hl => ?_)
  refine lv_goto (tgt := 223) hx hb dX6_init_248 rfl ?_
  refine lv_iload_n hx hb dX6_init_223 rfl (lv_at hl 0 rfl) ?_
  refine lv_iconst (v := Int32.ofInt 3) hx hb dX6_init_224 rfl ?_
  refine lv_icmp_ge (tgt := 251) hx hb dX6_init_225 rfl (fun _ => ?_) (fun z => absurd (by decide) z)
  exact W.vret hx hb hr (fun t ht hW2 => ⟨⟨ad, rfl, e31, by rw [ht]; exact hZ.1, va_K.moved hW2.alike hK, hZ.2.1⟩, hZ.2.2.F ht⟩) hZ.2.2.2.2 dX6_init_251
