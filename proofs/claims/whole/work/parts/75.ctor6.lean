/-! constructors of the tables of members: MemberTable, and the reference -/
theorem kl_3_36 : Cond.methodLink (zRn 3) 36 (zY 116) ∈ zT := z_T (by decide +kernel) rfl
theorem kl_3_42 : Cond.methodLink (zRn 3) 42 (zY 32) ∈ zT := z_T (by decide +kernel) rfl
theorem kl_6_80 : Cond.methodLink (zRn 6) 80 (zY 80) ∈ zT := z_T (by decide +kernel) rfl
theorem kl_6_84 : Cond.methodLink (zRn 6) 84 (zY 81) ∈ zT := z_T (by decide +kernel) rfl
def sApp (σ : zS) (n s : Int) : zS := zwr (zwr (zwr (zwr (zwr σ 17 (σ 2 0) 0) 18 (σ 2 0) s) 23 (σ 2 0) 0) 24 (10 * 0 + n) (σ 2 0)) 2 0 (σ 2 0 + 1)
theorem sApp_n {σ : zS} {n s : Int} : sApp σ n s 2 0 = σ 2 0 + 1 := by simp [sApp, zwr]
theorem sFill_n {σ : zS} : sFill σ 2 0 = σ 2 0 := by simp [sFill]
def sMT : zS := sApp (sApp (sApp (sFill z00) 0 1) 1 1) 2 4
def sOwn (σ : zS) (i : Int) : zS := fun c j => if c = 46 ∧ 0 ≤ j ∧ j < i then -4 else σ c j
def sAT (σ : zS) : zS := zwr (zwr (zwr σ 32 (σ 31 0) 0) 31 0 (σ 31 0 + 1)) 31 19 0
def sAM (σ : zS) (n s : Int) : zS := zwr (zwr (zwr (zwr (zwr (zwr (zwr σ 38 (σ 31 7) 0) 39 (σ 31 7) n) 40 (σ 31 7) s) 41 (σ 31 7) 0) 46 (10 * 0 + n) (σ 31 7)) 31 7 (σ 31 7 + 1)) 31 19 0
theorem sAM_n {σ : zS} {n s : Int} : sAM σ n s 31 7 = σ 31 7 + 1 := by simp [sAM, zwr]
theorem sAT_n {σ : zS} : sAT σ 31 7 = σ 31 7 := by simp [sAT, zwr]
theorem sOwn_n {σ : zS} {i : Int} {j : Int} : sOwn σ i 31 j = σ 31 j := by simp [sOwn]
def sMM : zS := sAM (sAM (sAM (sAT (sOwn z00 160)) 0 1) 1 1) 2 4
theorem sOwn_s {σ : zS} {i : Int} (h : 0 ≤ i) : zwr (sOwn σ i) 46 i (-4) = sOwn σ (i + 1) := by
  funext c j
  simp only [zwr, sOwn]
  by_cases hc : c = 46
  · by_cases hj : j = i
    · rw [if_pos ⟨hc, hj⟩, if_pos ⟨hc, by omega, by omega⟩]
    · rw [if_neg (fun z => hj z.2)]
      by_cases hr : 0 ≤ j ∧ j < i
      · rw [if_pos ⟨hc, hr⟩, if_pos ⟨hc, by omega, by omega⟩]
      · rw [if_neg (fun z => hr z.2), if_neg (fun z => hr ⟨z.2.1, by omega⟩)]
  · rw [if_neg (fun z => hc z.1), if_neg (fun z => hc z.1), if_neg (fun z => hc z.1)]
theorem sOwn_0 {σ : zS} : sOwn σ 0 = σ := by
  funext c j
  simp only [sOwn]
  rw [if_neg (fun z => by omega)]
set_option maxHeartbeats 8000000 in
set_option maxRecDepth 100000 in
/-- MemberTable() -/
theorem c_MemberTable (l : Launch) (D : va_G) (cI cZ : ClassId) (a sz : Nat) : Met l yX3_init (.code yX3_init cX3_init 1 none :: zT) { frames := 1, cells := 8, slots := 580, locals := 40 }
    (va_Pc [.ref a] (fun U => U.heap.size = sz ∧ va_P D vwCl [(a, .inr (3, [.int (Int32.ofInt 0), .null, .null, .null, .null, .null, .null, .null, .null]))] U.heap ∧ va_K D vwCl [(cI, .int), (cZ, .boolean)] U ∧ va_D (fun _ => True) [(a, .inr (3, [.int (Int32.ofInt 0), .null, .null, .null, .null, .null, .null, .null, .null]))]))
    (va_Qv (fun ad : Nat → Nat => ad 2 = a) (fun ad t => va_P D vwCl (zwd dB ad cI cZ sMT) t.heap ∧ va_K D vwCl [(cI, .int), (cZ, .boolean)] t ∧ va_D (va_A [(a, .inr (3, [.int (Int32.ofInt 0), .null, .null, .null, .null, .null, .null, .null, .null]))] sz) (zwd dB ad cI cZ sMT)) (va_A [(a, .inr (3, [.int (Int32.ofInt 0), .null, .null, .null, .null, .null, .null, .null, .null]))] sz)) 8 580 (va_A [(a, .inr (3, [.int (Int32.ofInt 0), .null, .null, .null, .null, .null, .null, .null, .null]))] sz) := by
  refine Met.ofW (cc := cX3_init) (maxL := 1) (ret := none) (by decide) rfl ?_
  intro p e s m args below meth c s₁ B hml hv
  obtain ⟨rfl, hsz, hP, hK, hD0⟩ := hv
  have hx := B.exec
  have hb := B.bytes
  have hr := B.returns
  have hts := atoms_spec (ws := .code yX3_init cX3_init 1 none :: zT) B.pre
  have hown : s.vm.findClass (zRn 3) = some m.cls := findClass_of_methodNamed B.named
  have hin : meth.name = "<init>" := (name_of_methodNamed B.named B.method).1
  subst hsz
  have hD := hD0.self (sz := s.heap.size)
  generalize hAe : va_A [(a, .inr (3, [.int (Int32.ofInt 0), .null, .null, .null, .null, .null, .null, .null, .null]))] s.heap.size = A at hD ⊢
  have hA : ∀ q : Nat, s.heap.size ≤ q → A q := fun q h => by rw [← hAe]; exact Or.inr h
  have hC : kctx (zRn 3) cX3_init 1 p s m ([.ref a] : List Value).toArray c D cI cZ A := ⟨hx, hb, hml, hown, fun w hw => hts w (List.mem_cons_of_mem _ hw), hK, hA⟩
  have hW : kW D A s [(a, .inr (3, [.int (Int32.ofInt 0), .null, .null, .null, .null, .null, .null, .null, .null]))] s.heap [] := ⟨hP, hD, va_S.rf⟩
  have hl := lv_entry ([.ref a]) (n := 1) (Nat.le_of_ble_eq_true rfl)
  rw [lg_entry_eq]
  generalize (lg_sl ([.ref a]) ++ List.replicate (1 - (lg_sl ([.ref a])).length) Slot.unset).toArray = ls at hl ⊢
  have hl : lv_has ls 1 [(0, .ref a)] := hl
  refine lv_aload_n hx hb dX3_init_0 rfl (lv_at hl 0 rfl) ?_
  refine kc_obj hC ko_3 ko_i ko_c hl.1 dX3_init_1 (Nat.le_of_ble_eq_true rfl) (Nat.le_of_ble_eq_true rfl) ?_
  refine lv_aload_n hx hb dX3_init_4 rfl (lv_at hl 0 rfl) ?_
  refine lv_bipush (v := 60) hx hb dX3_init_5 (by decide) ?_
  refine kc_arri (N := 60) (j := 1) hC (by decide) hin hW (by decide) (by decide) (by decide) (by decide) (Nat.le_of_ble_eq_true rfl) rfl rfl rfl kl_3_9 (Nat.le_of_ble_eq_true rfl) (Nat.le_of_ble_eq_true rfl) dX3_init_7 dX3_init_9 (fun q17 H locs hW2 => ?_)
  clear hW
  have hW : kW D A s [(a, .inr (3, [.int (Int32.ofInt 0), .ref q17, .null, .null, .null, .null, .null, .null, .null])), (q17, .inl (cI, 60, .inl fun _ => Int32.ofInt 0))] H locs := hW2
  clear hW2
  refine lv_aload_n hx hb dX3_init_12 rfl (lv_at hl 0 rfl) ?_
  refine lv_bipush (v := 60) hx hb dX3_init_13 (by decide) ?_
  refine kc_arri (N := 60) (j := 2) hC (by decide) hin hW (by decide) (by decide) (by decide) (by decide) (Nat.le_of_ble_eq_true rfl) rfl rfl rfl kl_3_15 (Nat.le_of_ble_eq_true rfl) (Nat.le_of_ble_eq_true rfl) dX3_init_15 dX3_init_17 (fun q18 H locs hW2 => ?_)
  clear hW
  have hW : kW D A s [(a, .inr (3, [.int (Int32.ofInt 0), .ref q17, .ref q18, .null, .null, .null, .null, .null, .null])), (q17, .inl (cI, 60, .inl fun _ => Int32.ofInt 0)), (q18, .inl (cI, 60, .inl fun _ => Int32.ofInt 0))] H locs := hW2
  clear hW2
  refine lv_aload_n hx hb dX3_init_20 rfl (lv_at hl 0 rfl) ?_
  refine lv_bipush (v := 60) hx hb dX3_init_21 (by decide) ?_
  refine kc_arri (N := 60) (j := 3) hC (by decide) hin hW (by decide) (by decide) (by decide) (by decide) (Nat.le_of_ble_eq_true rfl) rfl rfl rfl kl_3_18 (Nat.le_of_ble_eq_true rfl) (Nat.le_of_ble_eq_true rfl) dX3_init_23 dX3_init_25 (fun q19 H locs hW2 => ?_)
  clear hW
  have hW : kW D A s [(a, .inr (3, [.int (Int32.ofInt 0), .ref q17, .ref q18, .ref q19, .null, .null, .null, .null, .null])), (q17, .inl (cI, 60, .inl fun _ => Int32.ofInt 0)), (q18, .inl (cI, 60, .inl fun _ => Int32.ofInt 0)), (q19, .inl (cI, 60, .inl fun _ => Int32.ofInt 0))] H locs := hW2
  clear hW2
  refine lv_aload_n hx hb dX3_init_28 rfl (lv_at hl 0 rfl) ?_
  refine lv_bipush (v := 60) hx hb dX3_init_29 (by decide) ?_
  refine kc_arri (N := 60) (j := 4) hC (by decide) hin hW (by decide) (by decide) (by decide) (by decide) (Nat.le_of_ble_eq_true rfl) rfl rfl rfl kl_3_21 (Nat.le_of_ble_eq_true rfl) (Nat.le_of_ble_eq_true rfl) dX3_init_31 dX3_init_33 (fun q20 H locs hW2 => ?_)
  clear hW
  have hW : kW D A s [(a, .inr (3, [.int (Int32.ofInt 0), .ref q17, .ref q18, .ref q19, .ref q20, .null, .null, .null, .null])), (q17, .inl (cI, 60, .inl fun _ => Int32.ofInt 0)), (q18, .inl (cI, 60, .inl fun _ => Int32.ofInt 0)), (q19, .inl (cI, 60, .inl fun _ => Int32.ofInt 0)), (q20, .inl (cI, 60, .inl fun _ => Int32.ofInt 0))] H locs := hW2
  clear hW2
  refine lv_aload_n hx hb dX3_init_36 rfl (lv_at hl 0 rfl) ?_
  refine lv_bipush (v := 60) hx hb dX3_init_37 (by decide) ?_
  refine kc_arri (N := 60) (j := 5) hC (by decide) hin hW (by decide) (by decide) (by decide) (by decide) (Nat.le_of_ble_eq_true rfl) rfl rfl rfl kl_3_24 (Nat.le_of_ble_eq_true rfl) (Nat.le_of_ble_eq_true rfl) dX3_init_39 dX3_init_41 (fun q21 H locs hW2 => ?_)
  clear hW
  have hW : kW D A s [(a, .inr (3, [.int (Int32.ofInt 0), .ref q17, .ref q18, .ref q19, .ref q20, .ref q21, .null, .null, .null])), (q17, .inl (cI, 60, .inl fun _ => Int32.ofInt 0)), (q18, .inl (cI, 60, .inl fun _ => Int32.ofInt 0)), (q19, .inl (cI, 60, .inl fun _ => Int32.ofInt 0)), (q20, .inl (cI, 60, .inl fun _ => Int32.ofInt 0)), (q21, .inl (cI, 60, .inl fun _ => Int32.ofInt 0))] H locs := hW2
  clear hW2
  refine lv_aload_n hx hb dX3_init_44 rfl (lv_at hl 0 rfl) ?_
  refine lv_bipush (v := 60) hx hb dX3_init_45 (by decide) ?_
  refine kc_arri (N := 60) (j := 6) hC (by decide) hin hW (by decide) (by decide) (by decide) (by decide) (Nat.le_of_ble_eq_true rfl) rfl rfl rfl kl_3_27 (Nat.le_of_ble_eq_true rfl) (Nat.le_of_ble_eq_true rfl) dX3_init_47 dX3_init_49 (fun q22 H locs hW2 => ?_)
  clear hW
  have hW : kW D A s [(a, .inr (3, [.int (Int32.ofInt 0), .ref q17, .ref q18, .ref q19, .ref q20, .ref q21, .ref q22, .null, .null])), (q17, .inl (cI, 60, .inl fun _ => Int32.ofInt 0)), (q18, .inl (cI, 60, .inl fun _ => Int32.ofInt 0)), (q19, .inl (cI, 60, .inl fun _ => Int32.ofInt 0)), (q20, .inl (cI, 60, .inl fun _ => Int32.ofInt 0)), (q21, .inl (cI, 60, .inl fun _ => Int32.ofInt 0)), (q22, .inl (cI, 60, .inl fun _ => Int32.ofInt 0))] H locs := hW2
  clear hW2
  refine lv_aload_n hx hb dX3_init_52 rfl (lv_at hl 0 rfl) ?_
  refine lv_bipush (v := 60) hx hb dX3_init_53 (by decide) ?_
  refine kc_arri (N := 60) (j := 7) hC (by decide) hin hW (by decide) (by decide) (by decide) (by decide) (Nat.le_of_ble_eq_true rfl) rfl rfl rfl kl_3_30 (Nat.le_of_ble_eq_true rfl) (Nat.le_of_ble_eq_true rfl) dX3_init_55 dX3_init_57 (fun q23 H locs hW2 => ?_)
  clear hW
  have hW : kW D A s [(a, .inr (3, [.int (Int32.ofInt 0), .ref q17, .ref q18, .ref q19, .ref q20, .ref q21, .ref q22, .ref q23, .null])), (q17, .inl (cI, 60, .inl fun _ => Int32.ofInt 0)), (q18, .inl (cI, 60, .inl fun _ => Int32.ofInt 0)), (q19, .inl (cI, 60, .inl fun _ => Int32.ofInt 0)), (q20, .inl (cI, 60, .inl fun _ => Int32.ofInt 0)), (q21, .inl (cI, 60, .inl fun _ => Int32.ofInt 0)), (q22, .inl (cI, 60, .inl fun _ => Int32.ofInt 0)), (q23, .inl (cI, 60, .inl fun _ => Int32.ofInt 0))] H locs := hW2
  clear hW2
  refine lv_aload_n hx hb dX3_init_60 rfl (lv_at hl 0 rfl) ?_
  refine lv_sipush (v := 160) hx hb dX3_init_61 (by decide) ?_
  refine kc_arri (N := 160) (j := 8) hC (by decide) hin hW (by decide) (by decide) (by decide) (by decide) (Nat.le_of_ble_eq_true rfl) rfl rfl rfl kl_3_33 (Nat.le_of_ble_eq_true rfl) (Nat.le_of_ble_eq_true rfl) dX3_init_64 dX3_init_66 (fun q24 H locs hW2 => ?_)
  clear hW
  have hW : kW D A s [(a, .inr (3, [.int (Int32.ofInt 0), .ref q17, .ref q18, .ref q19, .ref q20, .ref q21, .ref q22, .ref q23, .ref q24])), (q17, .inl (cI, 60, .inl fun _ => Int32.ofInt 0)), (q18, .inl (cI, 60, .inl fun _ => Int32.ofInt 0)), (q19, .inl (cI, 60, .inl fun _ => Int32.ofInt 0)), (q20, .inl (cI, 60, .inl fun _ => Int32.ofInt 0)), (q21, .inl (cI, 60, .inl fun _ => Int32.ofInt 0)), (q22, .inl (cI, 60, .inl fun _ => Int32.ofInt 0)), (q23, .inl (cI, 60, .inl fun _ => Int32.ofInt 0)), (q24, .inl (cI, 160, .inl fun _ => Int32.ofInt 0))] H locs := hW2
  clear hW2
  obtain ⟨ad, had⟩ : ∃ ad : Nat → Nat, ad = fun k => if k = 2 then a else if k = 17 then q17 else if k = 18 then q18 else if k = 19 then q19 else if k = 20 then q20 else if k = 21 then q21 else if k = 22 then q22 else if k = 23 then q23 else if k = 24 then q24 else 0 := ⟨_, rfl⟩
  have e2 : ad 2 = a := by rw [had]; rfl
  have e17 : ad 17 = q17 := by rw [had]; rfl
  have e18 : ad 18 = q18 := by rw [had]; rfl
  have e19 : ad 19 = q19 := by rw [had]; rfl
  have e20 : ad 20 = q20 := by rw [had]; rfl
  have e21 : ad 21 = q21 := by rw [had]; rfl
  have e22 : ad 22 = q22 := by rw [had]; rfl
  have e23 : ad 23 = q23 := by rw [had]; rfl
  have e24 : ad 24 = q24 := by rw [had]; rfl
  have hZ : kW D A s (zwd dB ad cI cZ z00) H locs := by
    rw [zwd_3, e2, e17, e18, e19, e20, e21, e22, e23, e24]
    exact ⟨hW.1.sub [0, 1, 2, 3, 4, 5, 6, 7, 8] rfl, hW.2.1.sub [0, 1, 2, 3, 4, 5, 6, 7, 8] (by decide) rfl, hW.2.2⟩
  clear had
  subst e2
  refine lv_aload_n hx hb dX3_init_69 rfl (lv_at hl 0 rfl) ?_
  refine kc_getz (j := 8) (r := 2) hC (by decide) hZ ⟨by decide, by decide, by decide⟩ (by decide) kl_3_33 dX3_init_70 ?_
  refine lv_bipush (v := Int32.ofInt (-4)) hx hb dX3_init_73 (by decide) ?_
  refine kc_calls (y' := 116) (as := [.inr 24, .inl (-4)]) (rest := []) (Q' := fun _ σ1 => σ1 = sFill z00) hC hZ dX3_init_75 kl_3_36 (by decide) (by decide) zcw_116 (Nat.le_of_ble_eq_true rfl) (Nat.le_of_ble_eq_true rfl) (Nat.le_of_ble_eq_true rfl) (Nat.le_of_ble_eq_true rfl) (by decide) hl.1 (Nat.le_of_ble_eq_true rfl) (b_fill rfl) rfl (fun x σ1 H locs hq hZ => ?_)
  subst hq
  rw [show kpu 116 x [] = [] from rfl]
  refine lv_aload_n hx hb dX3_init_78 rfl (lv_at hl 0 rfl) ?_
  refine lv_iconst (v := Int32.ofInt 0) hx hb dX3_init_79 rfl ?_
  refine lv_iconst (v := Int32.ofInt 0) hx hb dX3_init_80 rfl ?_
  refine lv_iconst (v := Int32.ofInt 1) hx hb dX3_init_81 rfl ?_
  refine lv_iconst (v := Int32.ofInt 0) hx hb dX3_init_82 rfl ?_
  refine kc_callv (y' := 32) (r := 2) (as := [.inl 0, .inl 0, .inl 1, .inl 0]) (rest := []) (Q' := fun _ σ1 => σ1 = sApp (sFill z00) 0 1) hC hZ dX3_init_83 kl_3_42 (by decide) (by decide) zcw_32 (Nat.le_of_ble_eq_true rfl) (Nat.le_of_ble_eq_true rfl) (Nat.le_of_ble_eq_true rfl) (Nat.le_of_ble_eq_true rfl) (by decide) ⟨by decide, by decide, by decide⟩ hl.1 (Nat.le_of_ble_eq_true rfl) (b_append (by decide) (by decide) (by decide) (by decide) (by rw [sFill_n]; decide) (by rw [sFill_n]; decide) rfl) rfl (fun x σ1 H locs hq hZ => ?_)
  subst hq
  rw [show kpu 32 x [] = [.int (Int32.ofInt x)] from rfl]
  refine lv_pop hx hb dX3_init_86 rfl ?_
  refine lv_aload_n hx hb dX3_init_87 rfl (lv_at hl 0 rfl) ?_
  refine lv_iconst (v := Int32.ofInt 0) hx hb dX3_init_88 rfl ?_
  refine lv_iconst (v := Int32.ofInt 1) hx hb dX3_init_89 rfl ?_
  refine lv_iconst (v := Int32.ofInt 1) hx hb dX3_init_90 rfl ?_
  refine lv_iconst (v := Int32.ofInt 0) hx hb dX3_init_91 rfl ?_
  refine kc_callv (y' := 32) (r := 2) (as := [.inl 0, .inl 1, .inl 1, .inl 0]) (rest := []) (Q' := fun _ σ1 => σ1 = sApp (sApp (sFill z00) 0 1) 1 1) hC hZ dX3_init_92 kl_3_42 (by decide) (by decide) zcw_32 (Nat.le_of_ble_eq_true rfl) (Nat.le_of_ble_eq_true rfl) (Nat.le_of_ble_eq_true rfl) (Nat.le_of_ble_eq_true rfl) (by decide) ⟨by decide, by decide, by decide⟩ hl.1 (Nat.le_of_ble_eq_true rfl) (b_append (by decide) (by decide) (by decide) (by decide) (by rw [sApp_n, sFill_n]; decide) (by rw [sApp_n, sFill_n]; decide) rfl) rfl (fun x σ1 H locs hq hZ => ?_)
  subst hq
  rw [show kpu 32 x [] = [.int (Int32.ofInt x)] from rfl]
  refine lv_pop hx hb dX3_init_95 rfl ?_
  refine lv_aload_n hx hb dX3_init_96 rfl (lv_at hl 0 rfl) ?_
  refine lv_iconst (v := Int32.ofInt 0) hx hb dX3_init_97 rfl ?_
  refine lv_iconst (v := Int32.ofInt 2) hx hb dX3_init_98 rfl ?_
  refine lv_iconst (v := Int32.ofInt 4) hx hb dX3_init_99 rfl ?_
  refine lv_iconst (v := Int32.ofInt 0) hx hb dX3_init_100 rfl ?_
  refine kc_callv (y' := 32) (r := 2) (as := [.inl 0, .inl 2, .inl 4, .inl 0]) (rest := []) (Q' := fun _ σ1 => σ1 = sApp (sApp (sApp (sFill z00) 0 1) 1 1) 2 4) hC hZ dX3_init_101 kl_3_42 (by decide) (by decide) zcw_32 (Nat.le_of_ble_eq_true rfl) (Nat.le_of_ble_eq_true rfl) (Nat.le_of_ble_eq_true rfl) (Nat.le_of_ble_eq_true rfl) (by decide) ⟨by decide, by decide, by decide⟩ hl.1 (Nat.le_of_ble_eq_true rfl) (b_append (by decide) (by decide) (by decide) (by decide) (by rw [sApp_n, sApp_n, sFill_n]; decide) (by rw [sApp_n, sApp_n, sFill_n]; decide) rfl) rfl (fun x σ1 H locs hq hZ => ?_)
  subst hq
  rw [show kpu 32 x [] = [.int (Int32.ofInt x)] from rfl]
  refine lv_pop hx hb dX3_init_104 rfl ?_
  exact W.vret hx hb hr (fun t ht hW2 => ⟨⟨ad, rfl, rfl, by rw [ht]; exact hZ.1, va_K.moved hW2.alike hK, hZ.2.1⟩, hZ.2.2.F ht⟩) hZ.2.2.2.2 dX3_init_105
