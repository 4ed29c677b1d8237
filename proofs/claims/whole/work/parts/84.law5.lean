/-! the law's loop, and its start -/
def zrok (k j : Nat) : Bool := match zref k j with
  | some r => decide (r < 31) == decide (k < 31)
  | none => true
theorem zrok_all : ∀ k, k < 55 → 2 ≤ zkind k → ∀ j, j < zlen k → zrok k j = true := by decide +kernel
theorem zrok_r {k j r : Nat} (h : zrok k j = true) (hr : zref k j = some r) : r < 31 ↔ k < 31 := by
  simp only [zrok, hr, beq_iff_eq, decide_eq_decide] at h
  exact h
theorem zcell_c2 {ad ad' : Nat → Nat} {cI cZ : ClassId} {σ σ' : zS} {k : Nat} (hk : k < 55) (h : σ k = σ' k) (hr : ∀ r, (r < 31 ↔ k < 31) → ad r = ad' r) : zcell ad cI cZ σ k = zcell ad' cI cZ σ' k := by
  unfold zcell
  rw [h]
  split
  · rfl
  · split
    · rfl
    · rename_i h0 h1
      congr 2
      apply List.map_congr_left
      intro j hj
      have hz := zrok_all k hk (by omega) j (List.mem_range.mp hj)
      unfold zfld
      cases hq : zref k j with
      | none => simp only [h]
      | some r => simp only; rw [hr r (zrok_r hz hq)]
theorem zdm_F : zdm zF = zdm dX ++ zdm dM := by decide +kernel
theorem dX_m : ∀ k ∈ zdm dX, k < 31 := by decide +kernel
theorem dM_m : ∀ k ∈ zdm dM, k < 55 ∧ ¬ k < 31 := by decide +kernel
theorem zwd_all {aX aM : Nat → Nat} {cI cZ : ClassId} : zwd zF (fun k => if k < 31 then aX k else aM k) cI cZ sAll = zwd dX aX cI cZ sX0 ++ zwd dM aM cI cZ sMM := by
  have h1 : (zdm dX).map (fun k => ((if k < 31 then aX k else aM k), zcell (fun k => if k < 31 then aX k else aM k) cI cZ sAll k)) = zwd dX aX cI cZ sX0 := by
    apply List.map_congr_left
    intro k hk
    have h := dX_m k hk
    rw [if_pos h, zcell_c2 (ad' := aX) (σ' := sX0) (by omega) (vx h) (fun r hr => if_pos (hr.mpr h))]
  have h2 : (zdm dM).map (fun k => ((if k < 31 then aX k else aM k), zcell (fun k => if k < 31 then aX k else aM k) cI cZ sAll k)) = zwd dM aM cI cZ sMM := by
    apply List.map_congr_left
    intro k hk
    have h := dM_m k hk
    rw [if_neg h.2, zcell_c2 (ad' := aM) (σ' := sMM) h.1 (vm h.2) (fun r hr => if_neg (fun z => h.2 (hr.mp z)))]
  rw [← h1, ← h2, zwd, zdm_F, List.map_append]
theorem kw_0 : Cond.classLink R_law 7 (zRn 5) ∈ zT := z_T (by decide +kernel) rfl
theorem kw_1 : Cond.instantiable (zRn 5) (zNf 5) ∈ zT := z_T (by decide +kernel) rfl
theorem kw_2 : Cond.initialized (zRn 5) ∈ zT := z_T (by decide +kernel) rfl
theorem kw_3 : Cond.methodLink R_law 9 yX5_init ∈ zT := z_T (by decide +kernel) rfl
theorem kw_4 : Cond.instanceMethod yX5_init ∈ zT := z_T (by decide +kernel) rfl
theorem kw_5 : Cond.code yX5_init cX5_init 1 none ∈ zT := z_T (by decide +kernel) rfl
theorem kw_6 : yX5_init.cls ≠ "java/lang/invoke/MethodHandle" ∧ yX5_init.cls ≠ "java/lang/invoke/VarHandle" ∧ (parseMethodDescriptor yX5_init.desc).map (fun d => d.parameters.length) = some 0 := by decide +kernel
theorem km_0 : Cond.classLink R_law 10 (zRn 6) ∈ zT := z_T (by decide +kernel) rfl
theorem km_1 : Cond.instantiable (zRn 6) (zNf 6) ∈ zT := z_T (by decide +kernel) rfl
theorem km_2 : Cond.initialized (zRn 6) ∈ zT := z_T (by decide +kernel) rfl
theorem km_3 : Cond.methodLink R_law 12 yX6_init ∈ zT := z_T (by decide +kernel) rfl
theorem km_4 : Cond.instanceMethod yX6_init ∈ zT := z_T (by decide +kernel) rfl
theorem km_5 : Cond.code yX6_init cX6_init 2 none ∈ zT := z_T (by decide +kernel) rfl
theorem km_6 : yX6_init.cls ≠ "java/lang/invoke/MethodHandle" ∧ yX6_init.cls ≠ "java/lang/invoke/VarHandle" ∧ (parseMethodDescriptor yX6_init.desc).map (fun d => d.parameters.length) = some 0 := by decide +kernel
section LW2
variable {p : Program} {l : Launch} {e : Env} {s : State} {m : MethodId} {below : List Frame} {meth : Method} {c : Code} {D : va_G} {cI cZ : ClassId} {A : Nat → Prop} {b L : Nat} {ad : Nat → Nat} {xs : Nat → Int32}
theorem lw_end (hC : kctx R_law code 4 p s m #[Value.ref b] c D cI cZ A) (hAr : ∀ q, A q → s.heap.size ≤ q) (hr : meth.sig.returnType = ret) (hlocks : meth.locks = false) {H : Heap} {locs : List Loc} {ls : Array Slot} {ws : va_W} (hW : kW D A s ws H locs) : W p l e room_1 s m #[Value.ref b] below meth c H locs 55 10458 (lw_Z below #[Value.ref b] s) (F0 m 723 ls []) := by
  refine lv_iconst (v := 1) hC.1 hC.2.1 dL_law_723 rfl ?_
  refine va_forget (fun q hq => hAr _ (hW.2.2.2.2 q hq)) ?_
  exact lw_ret hC.1 hC.2.1 hr hlocks dL_law_724
theorem lw_loop (hC : kctx R_law code 4 p s m #[Value.ref b] c D cI cZ A) (hAr : ∀ q, A q → s.heap.size ≤ q) (hr : meth.sig.returnType = ret) (hlocks : meth.locks = false) (hX : va_X b L xs s s.heap) (hbl : b < s.heap.size) (hL : L ≤ 3072) :
    ∀ (k : Nat) (i : Int) (σ : zS) (H : Heap) (locs : List Loc) (ls : Array Slot), 0 ≤ i → ((L : Int) - i).toNat ≤ k → i ≤ 3078 → kL ls ad b i → EE σ → kW D A s (zwd zF ad cI cZ σ) H locs → W p l e room_1 s m #[Value.ref b] below meth c H locs 55 10458 (lw_Z below #[Value.ref b] s) (F0 m 18 ls []) := by
  have hx := hC.1
  have hb := hC.2.1
  have hbA : ¬ A b := fun z => by have := hAr b z; omega
  have head : ∀ (i : Int) (σ : zS) (H : Heap) (locs : List Loc) (ls : Array Slot), 0 ≤ i → i ≤ 3078 → kL ls ad b i → kW D A s (zwd zF ad cI cZ σ) H locs → (i + 6 ≤ L → W p l e room_1 s m #[Value.ref b] below meth c H locs 55 10458 (lw_Z below #[Value.ref b] s) (F0 m 27 ls [])) → W p l e room_1 s m #[Value.ref b] below meth c H locs 55 10458 (lw_Z below #[Value.ref b] s) (F0 m 18 ls []) := by
    intro i σ H locs ls i0 i1 hl hW kk
    refine lv_iload_n hx hb dL_law_18 rfl (lv_at hl 0 rfl) ?_
    refine lv_aload_n hx hb dL_law_19 rfl (lv_at hl 3 rfl) ?_
    refine va_slen hx hb hX hbl hbA hW.2.2 dL_law_20 ?_
    refine lv_bipush (v := Int32.ofInt 6) hx hb dL_law_21 (by decide) ?_
    refine lv_isub hx hb dL_law_23 ?_
    have e1 : Int32.ofNat L - Int32.ofInt 6 = Int32.ofInt ((L : Int) - 6) := by
      rw [Int32.ofInt_sub]
      rfl
    rw [e1]
    refine lv_icmp_gt (tgt := 723) hx hb dL_law_24 rfl (fun _ => lw_end hC hAr hr hlocks hW) (fun z => kk ?_)
    rw [zr_lt ⟨by omega, by omega⟩ ⟨by omega, by omega⟩] at z
    omega
  intro k
  induction k with
  | zero =>
    intro i σ H locs ls i0 ik i1 hl hE hW
    exact head i σ H locs ls i0 i1 hl hW (fun z => False.elim (by omega))
  | succ k ih =>
    intro i σ H locs ls i0 ik i1 hl hE hW
    refine head i σ H locs ls i0 i1 hl hW (fun h6 => ?_)
    have nx : ∀ (σ1 : zS) (H1 : Heap) (locs1 : List Loc), EE σ1 → kW D A s (zwd zF ad cI cZ σ1) H1 locs1 → W p l e room_1 s m #[Value.ref b] below meth c H1 locs1 55 10458 (lw_Z below #[Value.ref b] s) (F0 m 717 ls []) := by
      intro σ1 H1 locs1 hE1 hW1
      refine lv_iinc (k := 0) (v := Int32.ofInt (i + 6)) hx hb dL_law_717 hl rfl (Int32.ofInt_add i 6).symm (by decide) rfl (fun ls hl => ?_)
      refine lv_goto (tgt := 18) hx hb dL_law_720 rfl ?_
      exact ih (i + 6) σ1 H1 locs1 ls (by omega) (by omega) (by omega) hl hE1 hW1
    clear ih head
    refine lv_aload_n hx hb dL_law_27 rfl (lv_at hl 3 rfl) ?_
    refine lv_iload_n hx hb dL_law_28 rfl (lv_at hl 0 rfl) ?_
    refine va_sld hx hb hX hbl hbA hW.2.2 (z_in i0 (by omega) hL) dL_law_29 ?_
    refine lv_bipush (v := 31) hx hb dL_law_30 (by decide) ?_
    refine lv_iand hx hb dL_law_32 ?_
    generalize xs (Int32.ofInt i).toNatClampNeg &&& 31 = x
    by_cases ho : x.toInt < 0 ∨ 16 < x.toInt
    · exact lv_tableOut (tgt := 717) hx hb dL_law_33 ho rfl (nx σ H locs hE hW)
    · rcases (show x.toInt = 0 ∨ x.toInt = 1 ∨ x.toInt = 2 ∨ x.toInt = 3 ∨ x.toInt = 4 ∨ x.toInt = 5 ∨ x.toInt = 6 ∨ x.toInt = 7 ∨ x.toInt = 8 ∨ x.toInt = 9 ∨ x.toInt = 10 ∨ x.toInt = 11 ∨ x.toInt = 12 ∨ x.toInt = 13 ∨ x.toInt = 14 ∨ x.toInt = 15 ∨ x.toInt = 16 by omega) with hv | hv | hv | hv | hv | hv | hv | hv | hv | hv | hv | hv | hv | hv | hv | hv | hv
      · refine lv_tableIn (tgt := 116) hx hb dL_law_33 (by omega) (by omega) (by rw [hv]; rfl) rfl ?_
        exact lw_type hC hX hbl hbA hL hl i0 h6 hE hW nx
      · refine lv_tableIn (tgt := 139) hx hb dL_law_33 (by omega) (by omega) (by rw [hv]; rfl) rfl ?_
        exact lw_extend hC hX hbl hbA hL hl i0 h6 hE hW nx
      · refine lv_tableIn (tgt := 172) hx hb dL_law_33 (by omega) (by omega) (by rw [hv]; rfl) rfl ?_
        exact lw_face hC hX hbl hbA hL hl i0 h6 hE hW nx
      · refine lv_tableIn (tgt := 205) hx hb dL_law_33 (by omega) (by omega) (by rw [hv]; rfl) rfl ?_
        exact lw_seal hC hX hbl hbA hL hl i0 h6 hE hW nx
      · refine lv_tableIn (tgt := 238) hx hb dL_law_33 (by omega) (by omega) (by rw [hv]; rfl) rfl ?_
        exact lw_member hC hX hbl hbA hL hl i0 h6 hE hW nx
      · refine lv_tableIn (tgt := 291) hx hb dL_law_33 (by omega) (by omega) (by rw [hv]; rfl) rfl ?_
        exact lw_does hC hX hbl hbA hL hl i0 h6 hE hW nx
      · refine lv_tableIn (tgt := 354) hx hb dL_law_33 (by omega) (by omega) (by rw [hv]; rfl) rfl ?_
        exact lw_constant hC hX hbl hbA hL hl i0 h6 hE hW nx
      · refine lv_tableIn (tgt := 397) hx hb dL_law_33 (by omega) (by omega) (by rw [hv]; rfl) rfl ?_
        exact lw_has hC hX hbl hbA hL hl i0 h6 hE hW nx
      · refine lv_tableIn (tgt := 440) hx hb dL_law_33 (by omega) (by omega) (by rw [hv]; rfl) rfl ?_
        exact lw_runs hC hX hbl hbA hL hl i0 h6 hE hW nx
      · refine lv_tableIn (tgt := 473) hx hb dL_law_33 (by omega) (by omega) (by rw [hv]; rfl) rfl ?_
        exact lw_faults hC hX hbl hbA hL hl i0 h6 hE hW nx
      · refine lv_tableIn (tgt := 516) hx hb dL_law_33 (by omega) (by omega) (by rw [hv]; rfl) rfl ?_
        exact lw_functional hC hX hbl hbA hL hl i0 h6 hE hW nx
      · refine lv_tableIn (tgt := 539) hx hb dL_law_33 (by omega) (by omega) (by rw [hv]; rfl) rfl ?_
        exact lw_sees hC hX hbl hbA hL hl i0 h6 hE hW nx
      · refine lv_tableIn (tgt := 572) hx hb dL_law_33 (by omega) (by omega) (by rw [hv]; rfl) rfl ?_
        exact lw_value hC hX hbl hbA hL hl i0 h6 hE hW nx
      · refine lv_tableIn (tgt := 605) hx hb dL_law_33 (by omega) (by omega) (by rw [hv]; rfl) rfl ?_
        exact lw_below hC hX hbl hbA hL hl i0 h6 hE hW nx
      · refine lv_tableIn (tgt := 638) hx hb dL_law_33 (by omega) (by omega) (by rw [hv]; rfl) rfl ?_
        exact lw_call hC hX hbl hbA hL hl i0 h6 hE hW nx
      · refine lv_tableIn (tgt := 671) hx hb dL_law_33 (by omega) (by omega) (by rw [hv]; rfl) rfl ?_
        exact lw_latest hC hX hbl hbA hL hl i0 h6 hE hW nx
      · refine lv_tableIn (tgt := 694) hx hb dL_law_33 (by omega) (by omega) (by rw [hv]; rfl) rfl ?_
        exact lw_told hC hX hbl hbA hL hl i0 h6 hE hW nx
end LW2
set_option maxHeartbeats 4000000 in
theorem whole_start {p : Program} {e : Env} {s : State} {m : MethodId} {below : List Frame} {meth : Method} {c : Code} (l : Launch) {b L : Nat} {xs : Nat → Int32} (hL : L ≤ 3072) (C0 : lw_At p s m meth c b L xs) : W p l e room_1 s m #[Value.ref b] below meth c s.heap [] 0 0 (lw_Z below #[Value.ref b] s) (entryFrame m ([Value.ref b] : List Value).toArray 4) := by
  obtain ⟨D, cI, cZ, hC⟩ := k_start C0
  obtain ⟨hx, hb, hr, hml, hown, hts, hX, hbl, hlocks, -⟩ := C0
  have hAr : ∀ q, (fun q => s.heap.size ≤ q) q → s.heap.size ≤ q := fun q h => h
  generalize hAe : (fun q => s.heap.size ≤ q) = A at hC hAr
  have hA : ∀ q : Nat, s.heap.size ≤ q → A q := fun q h => by rw [← hAe]; exact h
  have hK := hC.2.2.2.2.2.1
  have hW : kW D A s [] s.heap [] := ⟨fun k q h => (by cases h), ⟨fun i j p q h => (by cases h), fun k q h => (by cases h)⟩, va_S.rf⟩
  have hl := lv_entry ([.ref b]) (n := 4) (Nat.le_of_ble_eq_true rfl)
  rw [lg_entry_eq]
  generalize (lg_sl ([.ref b]) ++ List.replicate (4 - (lg_sl ([.ref b])).length) Slot.unset).toArray = ls at hl ⊢
  have hl : lv_has ls 4 [(0, .ref b)] := hl
  refine kc_new (cn := 5) (fs := [.null, .null, .null, .null, .null]) hC hW (by decide) kw_0 kw_1 kw_2 (by decide) (by decide) (by decide) dL_law_0 (fun q H hW => ?_)
  refine lv_dup hx hb dL_law_3 rfl ?_
  refine kc_init (ws := []) (n := 0) (As := []) (rest := [.ref q]) (w1 := fun ad => zwd dX ad cI cZ sX0) hC hW (c_Rules l D cI cZ q H.size) kw_5 kw_2 kw_3 kw_4 rfl kw_6 rfl (by decide) (by decide) (by decide) (by decide) hl.1 (show (1 : Nat) ≤ 8 by decide) dL_law_4 rfl (fun aX H locs hq hW => ?_)
  refine lv_astore_n hx hb dL_law_7 rfl hl (by decide) rfl (fun ls hl => ?_)
  have hW : kW D A s (zwd dX aX cI cZ sX0) H locs := hW
  refine kc_new (cn := 6) (fs := [.int (Int32.ofInt 0), .null, .null, .null, .null, .null, .null, .int (Int32.ofInt 0), .null, .null, .null, .null, .null, .null, .null, .null, .null, .null, .null, .int (Int32.ofInt 0), .null, .null, .null, .null, .null, .int (Int32.ofInt 0), .int (Int32.ofInt 0), .int (Int32.ofInt 0), .int (Int32.ofInt 0), .int (Int32.ofInt 0), .int (Int32.ofInt 0), .int (Int32.ofInt 0), .int (Int32.ofInt 0), .null]) hC hW (by decide) km_0 km_1 km_2 (by decide) (by decide) (by decide) dL_law_8 (fun q2 H hW => ?_)
  refine lv_dup hx hb dL_law_11 rfl ?_
  refine kc_init (ws := zwd dX aX cI cZ sX0) (n := 0) (As := []) (rest := [.ref q2]) (w1 := fun ad => zwd dM ad cI cZ sMM) hC hW (c_Model l D cI cZ q2 H.size) km_5 km_2 km_3 km_4 rfl km_6 rfl (by decide) (by decide) (by decide) (by decide) hl.1 (show (1 : Nat) ≤ 8 by decide) dL_law_12 rfl (fun aM H locs hq2 hW => ?_)
  refine lv_astore_n hx hb dL_law_15 rfl hl (by decide) rfl (fun ls hl => ?_)
  refine lv_iconst (v := Int32.ofInt 0) hx hb dL_law_16 rfl ?_
  refine lv_istore_n hx hb dL_law_17 rfl hl (by decide) rfl (fun ls hl => ?_)
  have hZ : kW D A s (zwd zF (fun k => if k < 31 then aX k else aM k) cI cZ sAll) H locs := by rw [zwd_all]; exact hW
  refine lw_loop (ad := fun k => if k < 31 then aX k else aM k) hC hAr hr hlocks hX hbl hL 3072 0 sAll H locs ls (by decide) (by omega) (by decide) ?_ EE_0 hZ
  have g0 : aX 0 = q := hq
  have g31 : aM 31 = q2 := hq2
  show lv_has ls 4 [(3, .int (Int32.ofInt 0)), (2, .ref (aM 31)), (1, .ref (aX 0)), (0, .ref b)]
  rw [g0, g31]
  exact hl
