theorem z_sum (ad : Nat → Nat) (st : List zW) : ((st.map (zc ad)).map fun v => v.category).sum = st.length := by
  induction st with
  | nil => rfl
  | cons a l ih => simp only [List.map_cons, List.sum_cons, ih, zc_cat, List.length_cons]; omega
theorem z_free {A : Nat → Prop} {ws : va_W} {s : State} {H : Heap} {locs : List Loc} (hD : va_D A ws) (hS : va_S A s.heap H locs) (hA : ∀ q : Nat, s.heap.size ≤ q → A q) : ∀ q : Nat, va_A ws H.size q → A q := by
  intro q h
  rcases h with ⟨k, e, h⟩ | h
  · exact hD.2 k _ h
  · exact hA q (Nat.le_trans hS.1 h)
section ZV3
variable {y : Nat} {dom : Nat → Bool} {Q : Int → zS → Prop} {pc : Nat} {lv : List (Option zW)} {σ : zS}
theorem z_goodin {y' : Nat} {ws : List Cond} (hcw : Cond.code (zY y') (zB y') (zL y') (zRt (zRk y')) ∈ lw_tbl) (h : ∀ w ∈ ws, w ∈ zT) : GoodIn zT (ws ++ zws y') := by
  intro w hw
  have hw' : w ∈ zT := by
    rcases List.mem_append.mp hw with h1 | h1
    · exact h w h1
    · rcases List.mem_cons.mp h1 with rfl | h2
      · exact z_T hcw rfl
      · exact h2
  exact ⟨hw', good_of_word (List.mem_filter.mp hw').2⟩
/-- what comes behind a call, whatever its kind -/
theorem zV_after {y' : Nat} {rest : List zW} {Q' : Int → zS → Prop} (k : ∀ (x : Int) (σ' : zS), Q' x σ' → zV y dom Q (pc + 3) lv (zpu y' x rest) σ')
    {p : Program} {l : Launch} {e : Env} {s : State} {m : MethodId} {args : Array Value} {below : List Frame} {meth : Method} {c : Code} {D : va_G} {ad : Nat → Nat} {cI cZ : ClassId} {A : Nat → Prop} {QQ : State → Prop} {st0 : List Value}
    (hC : zctx y p s m args c D cI cZ A)
    (hR : ∀ (pc' : Nat) (H : Heap) (locs : List Loc) (ls : Array Slot) (x : Int) (σ' : zS), zEnd y pc' → zfit y x → Q x σ' → va_P D vwCl (zwd dom ad cI cZ σ') H → va_D A (zwd dom ad cI cZ σ') → va_S A s.heap H locs → W p l e (zrm y) s m args below meth c H locs 0 0 QQ (F0 m pc' ls (zst y x)))
    {H : Heap} {locs : List Loc} {ls : Array Slot} (hD : va_D A (zwd dom ad cI cZ σ)) (hS : va_S A s.heap H locs) (hl : lv_has ls (zL y) (zloc ad 0 lv)) {av : Array Value}
    (hr : va_Run p l e (zrm y) s m args below meth c H locs 0 0 0 0 (F0 m pc ls st0) (rest.map (zc ad)) (zQ y' Q' D dom ad cI cZ (va_A (zwd dom ad cI cZ σ) H.size) av) (va_A (zwd dom ad cI cZ σ) H.size)) : W p l e (zrm y) s m args below meth c H locs 0 0 QQ (F0 m pc ls st0) := by
  have hF := z_free hD hS hC.2.2.2.2.2.2
  by_cases h0 : zRk y' = 0
  · rw [zQ, if_pos h0] at hr
    refine va_callv hr hS (fun q _ h => hF q h) hF (fun u t H1 locs1 ht hvm hw hB hz1 hk1 hS1 => ?_)
    obtain ⟨hP1, -, -⟩ := hB
    rw [ht] at hP1
    have k := k 0 u hw
    rw [zpu, if_pos h0] at k
    exact k p l e s m args below meth c D ad cI cZ A QQ hC hR H1 locs1 ls hP1 (zwd_D u hD) hS1 hl
  · rw [zQ, if_neg h0] at hr
    refine va_calli hr hS (fun q _ h => hF q h) hF (fun r u t H1 locs1 ht hvm hw hB hz1 hk1 hS1 => ?_)
    obtain ⟨hP1, -, -⟩ := hB
    rw [ht] at hP1
    obtain ⟨x, rfl, hQ⟩ := hw
    have k := k x u hQ
    rw [zpu, if_neg h0] at k
    exact k p l e s m args below meth c D ad cI cZ A QQ hC hR H1 locs1 ls hP1 (zwd_D u hD) hS1 hl
theorem zV_callv {y' idx r : Nat} {as rest : List zW} {Q' : Int → zS → Prop} (h : decode (zB y) pc = .ok (.invokevirtual idx, 3)) (hc : (zO y, idx, y') ∈ zCs) (hy : y' < 117) (hcw : Cond.code (zY y') (zB y') (zL y') (zRt (zRk y')) ∈ lw_tbl) (hfr : zFr y' + 1 ≤ zFr y) (hlo : 8 + (zL y' + 11) + zLo y' ≤ zLo y)
    (hn : as.length = zNa y') (ha : zac dom r (zO y' + 2)) (hrest : rest.length ≤ 8) (hM : zM y' dom (.inr r :: as) σ Q') (k : ∀ (x : Int) (σ' : zS), Q' x σ' → zV y dom Q (pc + 3) lv (zpu y' x rest) σ') : zV y dom Q pc lv (as.reverse ++ .inr r :: rest) σ := by
  intro p l e s m args below meth c D ad cI cZ A QQ hC hR H locs ls hP hD hS hl
  obtain ⟨hr, hd, hk⟩ := ha
  obtain ⟨q, hq, -⟩ := zwd_at (ad := ad) (cI := cI) (cZ := cZ) (σ := σ) hr hd
  obtain ⟨hc1, hc2⟩ := z_cs0 _ hc
  obtain ⟨e1, e2, e3, e4, e5, e6⟩ := z_ye y' hy
  obtain ⟨i1, i2⟩ := z_in0 y' hy hc2
  have hkd := z_kd r hr
  have hO : zO y' < 7 := by omega
  have hts := hC.2.2.2.2.1
  have hG : GoodIn zT (wsV (zRn (zO y)) idx (zY y').cls (zY y') (zws y')) := z_goodin hcw (by
    intro w hw
    simp only [List.mem_cons, List.not_mem_nil, or_false] at hw
    rcases hw with rfl | rfl | rfl | rfl
    · exact z_T (List.mem_of_getElem? hc1) rfl
    · exact z_T (List.mem_of_getElem? i1) rfl
    · exact z_T (List.mem_of_getElem? i2) rfl
    · rw [e1]; exact z_T (List.mem_of_getElem? (z_ini0 _ e6)) rfl)
  have cw : CallW (zrm y) s args (zRn (zO y)) (zY y').cls idx (zY y') (zB y') (zL y') (zRt (zRk y')) (zws y') (zrm y') 0 0 (zNa y') := cwV (zNa y') hts hG rfl rfl rfl ⟨rfl, e3, e4, e5⟩ ⟨hfr, hlo⟩
  have hn2 := z_nf r hr (by omega)
  rw [hk, Nat.add_sub_cancel] at hn2
  have he : zcell ad cI cZ σ r = .inr (zO y', (List.range (zNf (zO y'))).map (zfld ad σ r)) := by
    simp only [zcell, hk, hn2, Nat.add_sub_cancel]
    rw [if_neg (by omega), if_neg (by omega)]
  rw [he] at hq
  have hrc := va_recv hC.2.2.2.2.2.1 hP (z_cl _ hO) hq
  rw [← e1] at hrc
  refine zV_after k hC hR hD hS hl (va_runV (As := as.map (zc ad)) ⟨hC.1, hC.2.1, hC.2.2.1, hC.2.2.2.1, hts⟩ (hM l D ad cI cZ H.size) cw ⟨fun a U g mk q => by obtain ⟨q0, q1, qP, qK, qD⟩ := q; exact ⟨q0, q1, qP, va_K.moved (u := U) (U := U.calling g mk a) (Vm.Alike.refl U.vm) qK, qD⟩, hrc, fun U hU hW => ⟨rfl, by rw [hU], by rw [hU]; exact hP, va_K.moved hW.alike hC.2.2.2.2.2.1, hD.weaken (fun _ _ _ _ => trivial)⟩⟩ rfl (by simp [hn]) hl.1 (by simp [zc]) (lv_room (by rw [z_sum]; exact hrest)) h ⟨Nat.zero_le _, Nat.zero_le _⟩)
theorem zV_calls {y' idx : Nat} {as rest : List zW} {Q' : Int → zS → Prop} (h : decode (zB y) pc = .ok (.invokestatic idx, 3)) (hc : (zO y, idx, y') ∈ zSs) (hy : y' < 117) (hcw : Cond.code (zY y') (zB y') (zL y') (zRt (zRk y')) ∈ lw_tbl) (hfr : zFr y' + 1 ≤ zFr y) (hlo : 8 + (zL y' + 11) + zLo y' ≤ zLo y)
    (hn : as.length = zNa y') (hrest : rest.length ≤ 8) (hM : zM y' dom as σ Q') (k : ∀ (x : Int) (σ' : zS), Q' x σ' → zV y dom Q (pc + 3) lv (zpu y' x rest) σ') : zV y dom Q pc lv (as.reverse ++ rest) σ := by
  intro p l e s m args below meth c D ad cI cZ A QQ hC hR H locs ls hP hD hS hl
  obtain ⟨hc1, hc2, hc3⟩ := z_ss0 _ hc
  obtain ⟨e1, e2, e3, e4, e5, e6⟩ := z_ye y' hy
  have i1 := z_st0 y' hy hc2
  have hts := hC.2.2.2.2.1
  have hG : GoodIn zT (wsS (zRn (zO y)) idx (zY y') (zws y')) := z_goodin hcw (by
    intro w hw
    simp only [List.mem_cons, List.not_mem_nil, or_false] at hw
    rcases hw with rfl | rfl | rfl
    · exact z_T (List.mem_of_getElem? hc1) rfl
    · exact z_T (List.mem_of_getElem? i1) rfl
    · dsimp only at hc3; rw [hc3, e1]; exact z_T (List.mem_of_getElem? (z_ini0 _ e6)) rfl)
  have cw := cwS (R := zrm y) (zNa y') hts hG (bytes := zB y') (maxL := zL y') (ret := zRt (zRk y')) (rm := zrm y') (mc := 0) (ms := 0) rfl rfl rfl ⟨hc3.symm, e3, e4, e5⟩ ⟨hfr, hlo⟩
  refine zV_after k hC hR hD hS hl (va_runS (As := as.map (zc ad)) ⟨hC.1, hC.2.1, hC.2.2.1, hC.2.2.2.1, hts⟩ (hM l D ad cI cZ H.size) cw ⟨fun a U g mk q => by obtain ⟨q0, q1, qP, qK, qD⟩ := q; exact ⟨q0, q1, qP, va_K.moved (u := U) (U := U.calling g mk a) (Vm.Alike.refl U.vm) qK, qD⟩, fun U hU hW => ⟨rfl, by rw [hU], by rw [hU]; exact hP, va_K.moved hW.alike hC.2.2.2.2.2.1, hD.weaken (fun _ _ _ _ => trivial)⟩⟩ rfl (by simp [hn]) hl.1 (by simp) (lv_room (by rw [z_sum]; exact hrest)) h ⟨Nat.zero_le _, Nat.zero_le _⟩)
end ZV3
