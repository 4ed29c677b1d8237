/-! constructors and the law: calls and writes over a world of the shape -/
section CT2
variable {p : Program} {l : Launch} {e : Env} {R : Room} {s : State} {m : MethodId} {args : Array Value} {below : List Frame} {meth : Method} {c : Code} {QQ : State → Prop} {D : va_G} {cI cZ : ClassId} {A : Nat → Prop} {H : Heap} {locs : List Loc} {cc : ByteArray} {ls : Array Slot} {rest : List Value} {pc cells slots nL : Nat} {own : String} {dom : Nat → Bool} {ad : Nat → Nat} {σ : zS}
def kpu (y : Nat) (r : Int) (st : List Value) : List Value := if zRk y = 0 then st else .int (Int32.ofInt r) :: st
theorem kc_after {y' : Nat} {Q' : Int → zS → Prop} (hC : kctx own cc nL p s m args c D cI cZ A) (hW : kW D A s (zwd dom ad cI cZ σ) H locs)
    (k : ∀ (x : Int) (σ' : zS) (H1 : Heap) (locs1 : List Loc), Q' x σ' → kW D A s (zwd dom ad cI cZ σ') H1 locs1 → W p l e R s m args below meth c H1 locs1 cells slots QQ (F0 m (pc + 3) ls (kpu y' x rest)))
    {st0 : List Value} {av : Array Value} (hr : va_Run p l e R s m args below meth c H locs cells slots 0 0 (F0 m pc ls st0) rest (zQ y' Q' D dom ad cI cZ (va_A (zwd dom ad cI cZ σ) H.size) av) (va_A (zwd dom ad cI cZ σ) H.size)) : W p l e R s m args below meth c H locs cells slots QQ (F0 m pc ls st0) := by
  obtain ⟨hP, hD, hS⟩ := hW
  have hF := z_free hD hS hC.2.2.2.2.2.2
  by_cases h0 : zRk y' = 0
  · rw [zQ, if_pos h0] at hr
    refine va_callv hr hS (fun q _ h => hF q h) hF (fun u t H1 locs1 ht hvm hw hB hz1 hk1 hS1 => ?_)
    obtain ⟨hP1, -, -⟩ := hB
    rw [ht] at hP1
    have k := k 0 u H1 locs1 hw ⟨hP1, zwd_D u hD, hS1⟩
    rw [kpu, if_pos h0] at k
    exact k
  · rw [zQ, if_neg h0] at hr
    refine va_calli hr hS (fun q _ h => hF q h) hF (fun r u t H1 locs1 ht hvm hw hB hz1 hk1 hS1 => ?_)
    obtain ⟨hP1, -, -⟩ := hB
    rw [ht] at hP1
    obtain ⟨x, rfl, hQ⟩ := hw
    have k := k x u H1 locs1 hQ ⟨hP1, zwd_D u hD, hS1⟩
    rw [kpu, if_neg h0] at k
    exact k
theorem kc_callv {y' idx r : Nat} {as : List zW} {Q' : Int → zS → Prop} (hC : kctx own cc nL p s m args c D cI cZ A) (hW : kW D A s (zwd dom ad cI cZ σ) H locs) (h : decode cc pc = .ok (.invokevirtual idx, 3)) (hlink : Cond.methodLink own idx (zY y') ∈ zT) (hst : zSt y' = false) (hy : y' < 117) (hcw : Cond.code (zY y') (zB y') (zL y') (zRt (zRk y')) ∈ lw_tbl) (hfr : zFr y' + 1 ≤ R.frames) (hlo : 8 + (zL y' + 11) + zLo y' ≤ R.locals)
    (hcl : cells ≤ R.cells) (hsl : slots ≤ R.slots) (hn : as.length = zNa y') (ha : zac dom r (zO y' + 2)) (hsz : ls.size = nL) (hrest : (rest.map fun v => v.category).sum ≤ 8) (hM : zM y' dom (.inr r :: as) σ Q') {st0 : List Value} (hst0 : st0 = (as.map (zc ad)).reverse ++ .ref (ad r) :: rest)
    (k : ∀ (x : Int) (σ' : zS) (H1 : Heap) (locs1 : List Loc), Q' x σ' → kW D A s (zwd dom ad cI cZ σ') H1 locs1 → W p l e R s m args below meth c H1 locs1 cells slots QQ (F0 m (pc + 3) ls (kpu y' x rest))) : W p l e R s m args below meth c H locs cells slots QQ (F0 m pc ls st0) := by
  obtain ⟨hr, hd, hk⟩ := ha
  have hP := hW.1
  have hD := hW.2.1
  obtain ⟨q, hq, -⟩ := zwd_at (ad := ad) (cI := cI) (cZ := cZ) (σ := σ) hr hd
  obtain ⟨e1, e2, e3, e4, e5, e6⟩ := z_ye y' hy
  obtain ⟨i1, i2⟩ := z_in0 y' hy hst
  have hkd := z_kd r hr
  have hO : zO y' < 7 := by omega
  have hts := hC.2.2.2.2.1
  have hG : GoodIn zT (wsV own idx (zY y').cls (zY y') (zws y')) := z_goodin hcw (by
    intro w hw
    simp only [List.mem_cons, List.not_mem_nil, or_false] at hw
    rcases hw with rfl | rfl | rfl | rfl
    · exact hlink
    · exact z_T (List.mem_of_getElem? i1) rfl
    · exact z_T (List.mem_of_getElem? i2) rfl
    · rw [e1]; exact z_T (List.mem_of_getElem? (z_ini0 _ e6)) rfl)
  have cw : CallW R s args own (zY y').cls idx (zY y') (zB y') (zL y') (zRt (zRk y')) (zws y') (zrm y') 0 0 (zNa y') := cwV (zNa y') hts hG rfl rfl rfl ⟨rfl, e3, e4, e5⟩ ⟨hfr, hlo⟩
  have hn2 := z_nf r hr (by omega)
  rw [hk, Nat.add_sub_cancel] at hn2
  have he : zcell ad cI cZ σ r = .inr (zO y', (List.range (zNf (zO y'))).map (zfld ad σ r)) := by
    simp only [zcell, hk, hn2, Nat.add_sub_cancel]
    rw [if_neg (by omega), if_neg (by omega)]
  rw [he] at hq
  have hrc := va_recv hC.2.2.2.2.2.1 hP (z_cl _ hO) hq
  rw [← e1] at hrc
  refine kc_after hC hW k (va_runV (As := as.map (zc ad)) ⟨hC.1, hC.2.1, hC.2.2.1, hC.2.2.2.1, hts⟩ (hM l D ad cI cZ H.size) cw ⟨fun a U g mk q => by obtain ⟨q0, q1, qP, qK, qD⟩ := q; exact ⟨q0, q1, qP, va_K.moved (u := U) (U := U.calling g mk a) (Vm.Alike.refl U.vm) qK, qD⟩, hrc, fun U hU hW => ⟨rfl, by rw [hU], by rw [hU]; exact hP, va_K.moved hW.alike hC.2.2.2.2.2.1, hD.weaken (fun _ _ _ _ => trivial)⟩⟩ rfl (by simp [hn]) hsz hst0 (lv_room hrest) h ⟨hcl, hsl⟩)
theorem kc_calls {y' idx : Nat} {as : List zW} {Q' : Int → zS → Prop} (hC : kctx own cc nL p s m args c D cI cZ A) (hW : kW D A s (zwd dom ad cI cZ σ) H locs) (h : decode cc pc = .ok (.invokestatic idx, 3)) (hlink : Cond.methodLink own idx (zY y') ∈ zT) (hst : zSt y' = true) (hy : y' < 117) (hcw : Cond.code (zY y') (zB y') (zL y') (zRt (zRk y')) ∈ lw_tbl) (hfr : zFr y' + 1 ≤ R.frames) (hlo : 8 + (zL y' + 11) + zLo y' ≤ R.locals)
    (hcl : cells ≤ R.cells) (hsl : slots ≤ R.slots) (hn : as.length = zNa y') (hsz : ls.size = nL) (hrest : (rest.map fun v => v.category).sum ≤ 8) (hM : zM y' dom as σ Q') {st0 : List Value} (hst0 : st0 = (as.map (zc ad)).reverse ++ rest)
    (k : ∀ (x : Int) (σ' : zS) (H1 : Heap) (locs1 : List Loc), Q' x σ' → kW D A s (zwd dom ad cI cZ σ') H1 locs1 → W p l e R s m args below meth c H1 locs1 cells slots QQ (F0 m (pc + 3) ls (kpu y' x rest))) : W p l e R s m args below meth c H locs cells slots QQ (F0 m pc ls st0) := by
  have hP := hW.1
  have hD := hW.2.1
  obtain ⟨e1, e2, e3, e4, e5, e6⟩ := z_ye y' hy
  have i1 := z_st0 y' hy hst
  have hts := hC.2.2.2.2.1
  have hini : Cond.initialized (zY y').cls ∈ zT := by rw [e1]; exact z_T (List.mem_of_getElem? (z_ini0 _ e6)) rfl
  have hG : GoodIn zT (va_wsS own idx (zY y') (zws y')) := z_goodin hcw (by
    intro w hw
    simp only [List.mem_cons, List.not_mem_nil, or_false] at hw
    rcases hw with rfl | rfl | rfl
    · exact hlink
    · exact z_T (List.mem_of_getElem? i1) rfl
    · exact hini)
  have cw := va_cwS (R := R) (zNa y') hts hG (bytes := zB y') (maxL := zL y') (ret := zRt (zRk y')) (rm := zrm y') (mc := 0) (ms := 0) rfl rfl rfl ⟨e3, e4, e5⟩ ⟨hfr, hlo⟩
  refine kc_after hC hW k (va_runS (As := as.map (zc ad)) ⟨hC.1, hC.2.1, hC.2.2.1, hC.2.2.2.1, hts⟩ (hM l D ad cI cZ H.size) cw ⟨fun a U g mk q => by obtain ⟨q0, q1, qP, qK, qD⟩ := q; exact ⟨q0, q1, qP, va_K.moved (u := U) (U := U.calling g mk a) (Vm.Alike.refl U.vm) qK, qD⟩, fun U hU hW => ⟨rfl, by rw [hU], by rw [hU]; exact hP, va_K.moved hW.alike hC.2.2.2.2.2.1, hD.weaken (fun _ _ _ _ => trivial)⟩⟩ rfl (by simp [hn]) hsz hst0 (lv_room hrest) h ⟨hcl, hsl⟩)
/-- a field read -/
theorem kc_getz {ci j index r : Nat} (hC : kctx (zRn ci) cc nL p s m args c D cI cZ A) (h7 : ci < 7) (hW : kW D A s (zwd dom ad cI cZ σ) H locs) (ha : zac dom r (ci + 2)) (hj : j < zNf ci) (hlink : Cond.fieldLink (zRn ci) index (zTn ci j).1 (zTn ci j).2.1 (zTn ci j).2.2.1 ∈ zT)
    (hd2 : decode cc pc = .ok (.getfield index, 3)) (kk : W p l e R s m args below meth c H locs cells slots QQ (F0 m (pc + 3) ls (zfld ad σ r j :: rest))) :
    W p l e R s m args below meth c H locs cells slots QQ (F0 m pc ls (.ref (ad r) :: rest)) := by
  obtain ⟨hx, hb, -, hown, hts, hK, hA⟩ := hC
  obtain ⟨hP, hD, hS⟩ := hW
  obtain ⟨hr, hd, hk⟩ := ha
  obtain ⟨q, hq, -⟩ := zwd_at (ad := ad) (cI := cI) (cZ := cZ) (σ := σ) hr hd
  have hn2 := z_nf r hr (by omega)
  rw [hk, Nat.add_sub_cancel] at hn2
  have he : zcell ad cI cZ σ r = .inr (ci, (List.range (zNf ci)).map (zfld ad σ r)) := by
    simp only [zcell, hk, hn2, Nat.add_sub_cancel]
    rw [if_neg (by omega), if_neg (by omega)]
  rw [he] at hq
  exact va_get (D := D) (ci := ci) (v := zfld ad σ r j) (C := zRn ci) (T := zTn ci) (N := zNf ci) hx hb hts (z_inTT ci h7) hown hK hP q hq (z_cl ci h7) j hj (hts _ hlink) (fun _ h9 => h9) (by simp [hj]) hd2 kk
/-- a place of a row of numbers written -/
theorem kc_iast {x i : Int} {r : Nat} (hC : kctx own cc nL p s m args c D cI cZ A) (hW : kW D A s (zwd dom ad cI cZ σ) H locs) (h : decode cc pc = .ok (.iastore, 1)) (ha : zac dom r 0) (h0 : 0 ≤ i) (h1 : i < zlen r)
    (k : ∀ (H1 : Heap) (locs1 : List Loc), kW D A s (zwd dom ad cI cZ (zwr σ r i x)) H1 locs1 → W p l e R s m args below meth c H1 locs1 cells slots QQ (F0 m (pc + 1) ls rest)) : W p l e R s m args below meth c H locs cells slots QQ (F0 m pc ls (.int (Int32.ofInt x) :: .int (Int32.ofInt i) :: .ref (ad r) :: rest)) := by
  obtain ⟨hP, hD, hS⟩ := hW
  obtain ⟨hr, hd, hk⟩ := ha
  obtain ⟨q, hq, hset⟩ := zwd_at (ad := ad) (cI := cI) (cZ := cZ) (σ := σ) hr hd
  have hn := z_len r hr
  have he : ∀ σ : zS, zcell ad cI cZ σ r = .inl (cI, zlen r, .inl (fun j : Nat => Int32.ofInt (σ r (j : Int)))) := by intro σ; simp only [zcell, hk, if_true]
  have hs := hset (zwr σ r i x) zwr_ne
  rw [he] at hq hs
  refine va_iast hC.1 hC.2.1 hC.2.2.2.2.2.1 hP hD hS q 0 hq rfl (z_in h0 h1 (by omega)) h (fun H1 locs1 hP1 hD1 hS1 => ?_)
  rw [z_upd h0 (by omega), hs] at hP1 hD1
  exact k H1 locs1 ⟨hP1, hD1, hS1⟩
theorem kc_puti {ci j idx r : Nat} {x : Int} (hC : kctx (zRn ci) cc nL p s m args c D cI cZ A) (hci : ci < 7) (hW : kW D A s (zwd dom ad cI cZ σ) H locs) (h : decode cc pc = .ok (.putfield idx, 3)) (hj : j < zNf ci) (hlk : Cond.fieldLink (zRn ci) idx (zTn ci j).1 (zTn ci j).2.1 (zTn ci j).2.2.1 ∈ zT) (hfin : (zTn ci j).2.2.2 = false) (ha : zac dom r (ci + 2)) (hz : zref r j = none) (hx : zfb ci j x)
    (k : ∀ (H1 : Heap) (locs1 : List Loc), kW D A s (zwd dom ad cI cZ (zwr σ r (j : Int) x)) H1 locs1 → W p l e R s m args below meth c H1 locs1 cells slots QQ (F0 m (pc + 3) ls rest)) : W p l e R s m args below meth c H locs cells slots QQ (F0 m pc ls (.int (Int32.ofInt x) :: .ref (ad r) :: rest)) := by
  obtain ⟨hP, hD, hS⟩ := hW
  obtain ⟨hr, hd, hk⟩ := ha
  obtain ⟨q, hq, hset⟩ := zwd_at (ad := ad) (cI := cI) (cZ := cZ) (σ := σ) hr hd
  have hn := z_nf r hr (by omega)
  have hrt := z_rt r hr (by omega) j
  rw [hk, Nat.add_sub_cancel] at hn hrt
  have hnar := z_nar (hrt (by omega) hz) hx
  have he : ∀ σ : zS, zcell ad cI cZ σ r = .inr (ci, (List.range (zNf ci)).map (zfld ad σ r)) := by
    intro σ
    simp only [zcell, hk, hn, Nat.add_sub_cancel]
    rw [if_neg (by omega), if_neg (by omega)]
  have hs := hset (zwr σ r (j : Int) x) zwr_ne
  rw [he] at hq hs
  have hu : ((List.range (zNf ci)).map (zfld ad σ r)).set j (.int (Int32.ofInt x)) = (List.range (zNf ci)).map (zfld ad (zwr σ r (j : Int) x) r) := by
    apply List.ext_getElem?
    intro i
    by_cases hi : i = j
    · subst hi
      rw [List.getElem?_set_self (by simpa using hj), List.getElem?_map, List.getElem?_range hj]
      simp [zfld, hz, zwr]
    · rw [List.getElem?_set_ne (Ne.symm hi), List.getElem?_map, List.getElem?_map]
      by_cases hin : i < zNf ci
      · rw [List.getElem?_range hin]
        have hij : ¬ ((i : Int) = (j : Int)) := by omega
        simp [zfld, zwr, hij]
      · rw [List.getElem?_eq_none (by simpa using hin)]
        rfl
  refine va_put hC.1 hC.2.1 hC.2.2.2.2.1 (z_inTT ci hci) (zTy ci) (z_ty ci hci) (z_nm ci hci) hC.2.2.2.1 hC.2.2.2.2.2.1 hP hD hS q hq (z_cl ci hci) j hj (hC.2.2.2.2.1 _ hlk) (fun _ h9 => h9) hfin (z_ty ci hci j hj) hnar.1 hnar.2 (by simpa using hj) h (fun H1 locs1 hP1 hD1 hS1 => ?_)
  rw [hu, hs] at hP1 hD1
  exact k H1 locs1 ⟨hP1, hD1, hS1⟩
end CT2
