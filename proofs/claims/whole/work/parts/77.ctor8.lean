/-! new objects, and the calls of their constructors -/
theorem va_nd_of : ∀ (l : List Nat), l.Nodup → va_nd l = true
  | [], _ => rfl
  | a :: l, h => by
    rw [List.nodup_cons] at h
    simp only [va_nd, Bool.and_eq_true, decide_eq_true_eq]
    exact ⟨h.1, va_nd_of l h.2⟩
theorem k_range {ws : va_W} {x : Nat × va_E} : (List.range ws.length).map (fun i => (ws ++ [x])[i]?) = ws.map some := by
  apply List.ext_getElem?
  intro i
  by_cases hi : i < ws.length
  · rw [List.getElem?_map, List.getElem?_range hi, List.getElem?_map, Option.map_some, List.getElem?_append_left hi, List.getElem?_eq_getElem hi]
    rfl
  · rw [List.getElem?_eq_none (by simpa using hi), List.getElem?_eq_none (by simpa using hi)]
theorem k_good {y : MethodName} {bytes : ByteArray} {maxL : Nat} (h : Cond.code y bytes maxL none ∈ zT) : GoodIn zT (.code y bytes maxL none :: zT) := by
  intro w hw
  have hw' : w ∈ zT := by
    rcases List.mem_cons.mp hw with rfl | h2
    · exact h
    · exact h2
  exact ⟨hw', good_of_word (List.mem_filter.mp hw').2⟩
section CT3
variable {p : Program} {l : Launch} {e : Env} {R : Room} {s : State} {m : MethodId} {args : Array Value} {below : List Frame} {meth : Method} {c : Code} {QQ : State → Prop} {D : va_G} {cI cZ : ClassId} {A : Nat → Prop} {H : Heap} {locs : List Loc} {cc : ByteArray} {ls : Array Slot} {rest : List Value} {pc cells slots nL : Nat} {own : String} {ws : va_W}
theorem kc_new {cn index : Nat} {fs : List Value} (hC : kctx own cc nL p s m args c D cI cZ A) (hW : kW D A s ws H locs) (h7 : cn < 7) (hcl : Cond.classLink own index (zRn cn) ∈ zT) (hinst : Cond.instantiable (zRn cn) (zNf cn) ∈ zT) (hini : Cond.initialized (zRn cn) ∈ zT) (hfs : ∀ j, j < zNf cn → defaultValue (zTy cn j) = vp_V fs j)
    (hcells : cells + 1 ≤ R.cells) (hslots : slots + zNf cn ≤ R.slots) (hd : decode cc pc = .ok (.new index, 3))
    (kk : ∀ (q : Nat) (H1 : Heap), kW D A s (ws ++ [(q, .inr (cn, fs))]) H1 locs → W p l e R s m args below meth c H1 locs (cells + 1) (slots + zNf cn) QQ (F0 m (pc + 3) ls (.ref q :: rest))) : W p l e R s m args below meth c H locs cells slots QQ (F0 m pc ls rest) := by
  obtain ⟨hx, hb, -, hown, hts, hK, hA⟩ := hC
  obtain ⟨hP, hD, hS⟩ := hW
  exact va_new (ci := cn) (fs := fs) (C := zRn cn) (T := zTn cn) (N := zNf cn) hx hb hts (z_inTT cn h7) (zTy cn) (z_ty cn h7) hown (hts _ hcl) (hts _ hinst) (hts _ hini) hK hP hD hS hA (z_cl cn h7) hfs hcells hslots hd (fun q H1 hP1 hD1 hS1 => kk q H1 ⟨hP1, hD1, hS1⟩)
theorem kc_init {q cn index maxL n mc ms fr lo : Nat} {fs As : List Value} {y : MethodName} {bytes : ByteArray} {w1 : (Nat → Nat) → va_W} {post : (Nat → Nat) → Prop} (hC : kctx own cc nL p s m args c D cI cZ A) (hW : kW D A s (ws ++ [(q, .inr (cn, fs))]) H locs)
    (hM : Met l y (.code y bytes maxL none :: zT) { frames := fr, cells := mc, slots := ms, locals := lo } (va_Pc (.ref q :: As) (fun U => U.heap.size = H.size ∧ va_P D vwCl [(q, .inr (cn, fs))] U.heap ∧ va_K D vwCl [(cI, .int), (cZ, .boolean)] U ∧ va_D (fun _ => True) [(q, .inr (cn, fs))])) (va_Qv post (fun ad t => va_P D vwCl (w1 ad) t.heap ∧ va_K D vwCl [(cI, .int), (cZ, .boolean)] t ∧ va_D (va_A [(q, .inr (cn, fs))] H.size) (w1 ad)) (va_A [(q, .inr (cn, fs))] H.size)) mc ms (va_A [(q, .inr (cn, fs))] H.size))
    (hcode : Cond.code y bytes maxL none ∈ zT) (hini : Cond.initialized y.cls ∈ zT) (hlink : Cond.methodLink own index y ∈ zT) (hinst : Cond.instanceMethod y ∈ zT) (hname : y.name = "<init>") (hd : y.cls ≠ "java/lang/invoke/MethodHandle" ∧ y.cls ≠ "java/lang/invoke/VarHandle" ∧ (parseMethodDescriptor y.desc).map (fun d => d.parameters.length) = some n) (hn : As.length = n)
    (hfr : fr + 1 ≤ R.frames) (hlo : 8 + (maxL + 11) + lo ≤ R.locals) (hcl : cells + mc ≤ R.cells) (hsl : slots + ms ≤ R.slots) (hsz : ls.size = nL) (hrest : (rest.map fun v => v.category).sum ≤ 8) (hdg : decode cc pc = .ok (.invokespecial index, 3)) {st0 : List Value} (hst0 : st0 = As.reverse ++ .ref q :: rest)
    (kk : ∀ (ad : Nat → Nat) (H1 : Heap) (locs1 : List Loc), post ad → kW D A s (ws ++ w1 ad) H1 locs1 → W p l e R s m args below meth c H1 locs1 (cells + mc) (slots + ms) QQ (F0 m (pc + 3) ls rest)) : W p l e R s m args below meth c H locs cells slots QQ (F0 m pc ls st0) := by
  obtain ⟨hx, hb, hml, hown, hts, hK, hA⟩ := hC
  obtain ⟨hP, hD, hS⟩ := hW
  have pC : [ws.length].map (fun i => (ws ++ [(q, (.inr (cn, fs) : va_E))])[i]?) = [(q, (.inr (cn, fs) : va_E))].map some := by simp
  have pC2 : [ws.length].filterMap (fun i => (ws ++ [(q, (.inr (cn, fs) : va_E))])[i]?) = [(q, (.inr (cn, fs) : va_E))] := by simp
  have hPc : va_P D vwCl [(q, .inr (cn, fs))] H := hP.sub [ws.length] pC2
  have hDc : va_D A [(q, .inr (cn, fs))] := hD.sub [ws.length] rfl pC
  have hFc := va_free (wc := [(q, .inr (cn, fs))]) hD hS hA [ws.length] pC
  refine va_callv (va_runI (As := As) (rest := rest) ⟨hx, hb, hml, hown, hts⟩ hM (cwI n hts (k_good hcode) rfl rfl rfl (hts _ hini) (hts _ hlink) (hts _ hinst) hname hd ⟨hfr, hlo⟩) ⟨fun a U g mk q => by obtain ⟨q0, q1, qP, qK, qD⟩ := q; exact ⟨q0, q1, qP, va_K.moved (u := U) (U := U.calling g mk a) (Vm.Alike.refl U.vm) qK, qD⟩, fun U hU hW => ⟨rfl, by rw [hU], by rw [hU]; exact hPc, va_K.moved hW.alike hK, hDc.weaken (fun _ _ _ _ => trivial)⟩⟩ rfl hn hsz hst0 (lv_room hrest) hdg ⟨hcl, hsl⟩) hS (fun q _ h => hFc q h) hFc (fun ad t H1 locs1 ht hvm hw hB hz1 hk1 hS1 => ?_)
  obtain ⟨hP1, hK1, hD1⟩ := hB
  rw [ht] at hP1
  obtain ⟨hP2, hD2⟩ := va_join (wr := ws) (w1 := w1 ad) hP hD [ws.length] (List.range ws.length) pC k_range (va_nd_of _ List.nodup_range) (fun i hi => by have := List.mem_range.mp hi; simp; omega) hk1 hFc hP1 hD1
  exact kk ad H1 locs1 hw ⟨hP2, hD2, hS1⟩
end CT3
