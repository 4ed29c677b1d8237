/-! the law: a case a method -/
theorem kv_13 : Cond.methodLink R_law 13 (zY 56) ∈ zT := z_T (by decide +kernel) rfl
theorem kv_17 : Cond.methodLink R_law 17 (zY 97) ∈ zT := z_T (by decide +kernel) rfl
theorem lw_type {p : Program} {l : Launch} {e : Env} {s : State} {m : MethodId} {below : List Frame} {meth : Method} {c : Code} {QQ : State → Prop} {D : va_G} {cI cZ : ClassId} {A : Nat → Prop} {H : Heap} {locs : List Loc} {ls : Array Slot} {b L : Nat} {ad : Nat → Nat} {σ : zS} {xs : Nat → Int32} {i : Int} (hC : kctx R_law code 4 p s m #[Value.ref b] c D cI cZ A) (hX : va_X b L xs s s.heap) (hbl : b < s.heap.size) (hbA : ¬ A b) (hL : L ≤ 3072) (hl : kL ls ad b i) (hi : 0 ≤ i) (hi6 : i + 6 ≤ L) (hE : EE σ) (hW : kW D A s (zwd zF ad cI cZ σ) H locs)
    (kk : ∀ (σ1 : zS) (H1 : Heap) (locs1 : List Loc), EE σ1 → kW D A s (zwd zF ad cI cZ σ1) H1 locs1 → W p l e room_1 s m #[Value.ref b] below meth c H1 locs1 55 10458 QQ (F0 m 717 ls [])) : W p l e room_1 s m #[Value.ref b] below meth c H locs 55 10458 QQ (F0 m 116 ls []) := by
  have hx := hC.1
  have hb := hC.2.1
  refine lv_aload_n hx hb dL_law_116 rfl (lv_at hl 2 rfl) ?_
  refine lw_ld (j := 1) hC hX hbl hbA hW.2.2 hl hi (by decide) (by omega) hL dL_law_117 dL_law_118 dL_law_119 dL_law_120 dL_law_121 ?_
  refine kc_callv (y' := 56) (r := 0) (as := [.inl (kA xs i 1)]) (rest := []) hC hW dL_law_122 kv_13 (by decide) (by decide) zcw_56 (by decide) (by decide) (by decide) (by decide) rfl ⟨by decide, by decide, by decide⟩ hl.1 (by decide) (p_type hE kA_r) rfl (fun r σ1 H locs hq hW => ?_)
  rw [show kpu 56 r [] = [.int (Int32.ofInt r)] from rfl]
  refine lv_aload_n hx hb dL_law_125 rfl (lv_at hl 1 rfl) ?_
  refine lw_ld (j := 1) hC hX hbl hbA hW.2.2 hl hi (by decide) (by omega) hL dL_law_126 dL_law_127 dL_law_128 dL_law_129 dL_law_130 ?_
  refine kc_callv (y' := 97) (r := 31) (as := [.inl (kA xs i 1)]) (rest := [.int (Int32.ofInt r)]) hC hW dL_law_131 kv_17 (by decide) (by decide) zcw_97 (by decide) (by decide) (by decide) (by decide) rfl ⟨by decide, by decide, by decide⟩ hl.1 (show (1 : Nat) ≤ 8 by decide) hq rfl (fun r2 σ2 H locs hq hW => ?_)
  rw [show kpu 97 r2 [.int (Int32.ofInt r)] = [.int (Int32.ofInt r2), .int (Int32.ofInt r)] from rfl]
  exact lv_icmp_eq (tgt := 717) hx hb dL_law_134 rfl (fun _ => kk σ2 H locs hq.2 hW) (fun z => absurd (by rw [hq.1]) z)
theorem kv_18 : Cond.methodLink R_law 18 (zY 57) ∈ zT := z_T (by decide +kernel) rfl
theorem kv_22 : Cond.methodLink R_law 22 (zY 98) ∈ zT := z_T (by decide +kernel) rfl
theorem lw_extend {p : Program} {l : Launch} {e : Env} {s : State} {m : MethodId} {below : List Frame} {meth : Method} {c : Code} {QQ : State → Prop} {D : va_G} {cI cZ : ClassId} {A : Nat → Prop} {H : Heap} {locs : List Loc} {ls : Array Slot} {b L : Nat} {ad : Nat → Nat} {σ : zS} {xs : Nat → Int32} {i : Int} (hC : kctx R_law code 4 p s m #[Value.ref b] c D cI cZ A) (hX : va_X b L xs s s.heap) (hbl : b < s.heap.size) (hbA : ¬ A b) (hL : L ≤ 3072) (hl : kL ls ad b i) (hi : 0 ≤ i) (hi6 : i + 6 ≤ L) (hE : EE σ) (hW : kW D A s (zwd zF ad cI cZ σ) H locs)
    (kk : ∀ (σ1 : zS) (H1 : Heap) (locs1 : List Loc), EE σ1 → kW D A s (zwd zF ad cI cZ σ1) H1 locs1 → W p l e room_1 s m #[Value.ref b] below meth c H1 locs1 55 10458 QQ (F0 m 717 ls [])) : W p l e room_1 s m #[Value.ref b] below meth c H locs 55 10458 QQ (F0 m 139 ls []) := by
  have hx := hC.1
  have hb := hC.2.1
  refine lv_aload_n hx hb dL_law_139 rfl (lv_at hl 2 rfl) ?_
  refine lw_ld (j := 1) hC hX hbl hbA hW.2.2 hl hi (by decide) (by omega) hL dL_law_140 dL_law_141 dL_law_142 dL_law_143 dL_law_144 ?_
  refine lw_ld (j := 2) hC hX hbl hbA hW.2.2 hl hi (by decide) (by omega) hL dL_law_145 dL_law_146 dL_law_147 dL_law_148 dL_law_149 ?_
  refine kc_callv (y' := 57) (r := 0) (as := [.inl (kA xs i 1), .inl (kA xs i 2)]) (rest := []) hC hW dL_law_150 kv_18 (by decide) (by decide) zcw_57 (by decide) (by decide) (by decide) (by decide) rfl ⟨by decide, by decide, by decide⟩ hl.1 (by decide) (p_extend hE kA_r kA_r) rfl (fun r σ1 H locs hq hW => ?_)
  rw [show kpu 57 r [] = [.int (Int32.ofInt r)] from rfl]
  refine lv_aload_n hx hb dL_law_153 rfl (lv_at hl 1 rfl) ?_
  refine lw_ld (j := 1) hC hX hbl hbA hW.2.2 hl hi (by decide) (by omega) hL dL_law_154 dL_law_155 dL_law_156 dL_law_157 dL_law_158 ?_
  refine lw_ld (j := 2) hC hX hbl hbA hW.2.2 hl hi (by decide) (by omega) hL dL_law_159 dL_law_160 dL_law_161 dL_law_162 dL_law_163 ?_
  refine kc_callv (y' := 98) (r := 31) (as := [.inl (kA xs i 1), .inl (kA xs i 2)]) (rest := [.int (Int32.ofInt r)]) hC hW dL_law_164 kv_22 (by decide) (by decide) zcw_98 (by decide) (by decide) (by decide) (by decide) rfl ⟨by decide, by decide, by decide⟩ hl.1 (show (1 : Nat) ≤ 8 by decide) hq rfl (fun r2 σ2 H locs hq hW => ?_)
  rw [show kpu 98 r2 [.int (Int32.ofInt r)] = [.int (Int32.ofInt r2), .int (Int32.ofInt r)] from rfl]
  exact lv_icmp_eq (tgt := 717) hx hb dL_law_167 rfl (fun _ => kk σ2 H locs hq.2 hW) (fun z => absurd (by rw [hq.1]) z)
theorem kv_23 : Cond.methodLink R_law 23 (zY 58) ∈ zT := z_T (by decide +kernel) rfl
theorem kv_26 : Cond.methodLink R_law 26 (zY 99) ∈ zT := z_T (by decide +kernel) rfl
theorem lw_face {p : Program} {l : Launch} {e : Env} {s : State} {m : MethodId} {below : List Frame} {meth : Method} {c : Code} {QQ : State → Prop} {D : va_G} {cI cZ : ClassId} {A : Nat → Prop} {H : Heap} {locs : List Loc} {ls : Array Slot} {b L : Nat} {ad : Nat → Nat} {σ : zS} {xs : Nat → Int32} {i : Int} (hC : kctx R_law code 4 p s m #[Value.ref b] c D cI cZ A) (hX : va_X b L xs s s.heap) (hbl : b < s.heap.size) (hbA : ¬ A b) (hL : L ≤ 3072) (hl : kL ls ad b i) (hi : 0 ≤ i) (hi6 : i + 6 ≤ L) (hE : EE σ) (hW : kW D A s (zwd zF ad cI cZ σ) H locs)
    (kk : ∀ (σ1 : zS) (H1 : Heap) (locs1 : List Loc), EE σ1 → kW D A s (zwd zF ad cI cZ σ1) H1 locs1 → W p l e room_1 s m #[Value.ref b] below meth c H1 locs1 55 10458 QQ (F0 m 717 ls [])) : W p l e room_1 s m #[Value.ref b] below meth c H locs 55 10458 QQ (F0 m 172 ls []) := by
  have hx := hC.1
  have hb := hC.2.1
  refine lv_aload_n hx hb dL_law_172 rfl (lv_at hl 2 rfl) ?_
  refine lw_ld (j := 1) hC hX hbl hbA hW.2.2 hl hi (by decide) (by omega) hL dL_law_173 dL_law_174 dL_law_175 dL_law_176 dL_law_177 ?_
  refine lw_ld (j := 2) hC hX hbl hbA hW.2.2 hl hi (by decide) (by omega) hL dL_law_178 dL_law_179 dL_law_180 dL_law_181 dL_law_182 ?_
  refine kc_callv (y' := 58) (r := 0) (as := [.inl (kA xs i 1), .inl (kA xs i 2)]) (rest := []) hC hW dL_law_183 kv_23 (by decide) (by decide) zcw_58 (by decide) (by decide) (by decide) (by decide) rfl ⟨by decide, by decide, by decide⟩ hl.1 (by decide) (p_face hE kA_r kA_r) rfl (fun r σ1 H locs hq hW => ?_)
  rw [show kpu 58 r [] = [.int (Int32.ofInt r)] from rfl]
  refine lv_aload_n hx hb dL_law_186 rfl (lv_at hl 1 rfl) ?_
  refine lw_ld (j := 1) hC hX hbl hbA hW.2.2 hl hi (by decide) (by omega) hL dL_law_187 dL_law_188 dL_law_189 dL_law_190 dL_law_191 ?_
  refine lw_ld (j := 2) hC hX hbl hbA hW.2.2 hl hi (by decide) (by omega) hL dL_law_192 dL_law_193 dL_law_194 dL_law_195 dL_law_196 ?_
  refine kc_callv (y' := 99) (r := 31) (as := [.inl (kA xs i 1), .inl (kA xs i 2)]) (rest := [.int (Int32.ofInt r)]) hC hW dL_law_197 kv_26 (by decide) (by decide) zcw_99 (by decide) (by decide) (by decide) (by decide) rfl ⟨by decide, by decide, by decide⟩ hl.1 (show (1 : Nat) ≤ 8 by decide) hq rfl (fun r2 σ2 H locs hq hW => ?_)
  rw [show kpu 99 r2 [.int (Int32.ofInt r)] = [.int (Int32.ofInt r2), .int (Int32.ofInt r)] from rfl]
  exact lv_icmp_eq (tgt := 717) hx hb dL_law_200 rfl (fun _ => kk σ2 H locs hq.2 hW) (fun z => absurd (by rw [hq.1]) z)
theorem kv_27 : Cond.methodLink R_law 27 (zY 59) ∈ zT := z_T (by decide +kernel) rfl
theorem kv_30 : Cond.methodLink R_law 30 (zY 100) ∈ zT := z_T (by decide +kernel) rfl
theorem lw_seal {p : Program} {l : Launch} {e : Env} {s : State} {m : MethodId} {below : List Frame} {meth : Method} {c : Code} {QQ : State → Prop} {D : va_G} {cI cZ : ClassId} {A : Nat → Prop} {H : Heap} {locs : List Loc} {ls : Array Slot} {b L : Nat} {ad : Nat → Nat} {σ : zS} {xs : Nat → Int32} {i : Int} (hC : kctx R_law code 4 p s m #[Value.ref b] c D cI cZ A) (hX : va_X b L xs s s.heap) (hbl : b < s.heap.size) (hbA : ¬ A b) (hL : L ≤ 3072) (hl : kL ls ad b i) (hi : 0 ≤ i) (hi6 : i + 6 ≤ L) (hE : EE σ) (hW : kW D A s (zwd zF ad cI cZ σ) H locs)
    (kk : ∀ (σ1 : zS) (H1 : Heap) (locs1 : List Loc), EE σ1 → kW D A s (zwd zF ad cI cZ σ1) H1 locs1 → W p l e room_1 s m #[Value.ref b] below meth c H1 locs1 55 10458 QQ (F0 m 717 ls [])) : W p l e room_1 s m #[Value.ref b] below meth c H locs 55 10458 QQ (F0 m 205 ls []) := by
  have hx := hC.1
  have hb := hC.2.1
  refine lv_aload_n hx hb dL_law_205 rfl (lv_at hl 2 rfl) ?_
  refine lw_ld (j := 1) hC hX hbl hbA hW.2.2 hl hi (by decide) (by omega) hL dL_law_206 dL_law_207 dL_law_208 dL_law_209 dL_law_210 ?_
  refine lw_ld (j := 2) hC hX hbl hbA hW.2.2 hl hi (by decide) (by omega) hL dL_law_211 dL_law_212 dL_law_213 dL_law_214 dL_law_215 ?_
  refine kc_callv (y' := 59) (r := 0) (as := [.inl (kA xs i 1), .inl (kA xs i 2)]) (rest := []) hC hW dL_law_216 kv_27 (by decide) (by decide) zcw_59 (by decide) (by decide) (by decide) (by decide) rfl ⟨by decide, by decide, by decide⟩ hl.1 (by decide) (p_seal hE kA_r kA_r) rfl (fun r σ1 H locs hq hW => ?_)
  rw [show kpu 59 r [] = [.int (Int32.ofInt r)] from rfl]
  refine lv_aload_n hx hb dL_law_219 rfl (lv_at hl 1 rfl) ?_
  refine lw_ld (j := 1) hC hX hbl hbA hW.2.2 hl hi (by decide) (by omega) hL dL_law_220 dL_law_221 dL_law_222 dL_law_223 dL_law_224 ?_
  refine lw_ld (j := 2) hC hX hbl hbA hW.2.2 hl hi (by decide) (by omega) hL dL_law_225 dL_law_226 dL_law_227 dL_law_228 dL_law_229 ?_
  refine kc_callv (y' := 100) (r := 31) (as := [.inl (kA xs i 1), .inl (kA xs i 2)]) (rest := [.int (Int32.ofInt r)]) hC hW dL_law_230 kv_30 (by decide) (by decide) zcw_100 (by decide) (by decide) (by decide) (by decide) rfl ⟨by decide, by decide, by decide⟩ hl.1 (show (1 : Nat) ≤ 8 by decide) hq rfl (fun r2 σ2 H locs hq hW => ?_)
  rw [show kpu 100 r2 [.int (Int32.ofInt r)] = [.int (Int32.ofInt r2), .int (Int32.ofInt r)] from rfl]
  exact lv_icmp_eq (tgt := 717) hx hb dL_law_233 rfl (fun _ => kk σ2 H locs hq.2 hW) (fun z => absurd (by rw [hq.1]) z)
theorem kv_31 : Cond.methodLink R_law 31 (zY 60) ∈ zT := z_T (by decide +kernel) rfl
theorem kv_35 : Cond.methodLink R_law 35 (zY 101) ∈ zT := z_T (by decide +kernel) rfl
theorem lw_member {p : Program} {l : Launch} {e : Env} {s : State} {m : MethodId} {below : List Frame} {meth : Method} {c : Code} {QQ : State → Prop} {D : va_G} {cI cZ : ClassId} {A : Nat → Prop} {H : Heap} {locs : List Loc} {ls : Array Slot} {b L : Nat} {ad : Nat → Nat} {σ : zS} {xs : Nat → Int32} {i : Int} (hC : kctx R_law code 4 p s m #[Value.ref b] c D cI cZ A) (hX : va_X b L xs s s.heap) (hbl : b < s.heap.size) (hbA : ¬ A b) (hL : L ≤ 3072) (hl : kL ls ad b i) (hi : 0 ≤ i) (hi6 : i + 6 ≤ L) (hE : EE σ) (hW : kW D A s (zwd zF ad cI cZ σ) H locs)
    (kk : ∀ (σ1 : zS) (H1 : Heap) (locs1 : List Loc), EE σ1 → kW D A s (zwd zF ad cI cZ σ1) H1 locs1 → W p l e room_1 s m #[Value.ref b] below meth c H1 locs1 55 10458 QQ (F0 m 717 ls [])) : W p l e room_1 s m #[Value.ref b] below meth c H locs 55 10458 QQ (F0 m 238 ls []) := by
  have hx := hC.1
  have hb := hC.2.1
  refine lv_aload_n hx hb dL_law_238 rfl (lv_at hl 2 rfl) ?_
  refine lw_ld (j := 1) hC hX hbl hbA hW.2.2 hl hi (by decide) (by omega) hL dL_law_239 dL_law_240 dL_law_241 dL_law_242 dL_law_243 ?_
  refine lw_ld (j := 2) hC hX hbl hbA hW.2.2 hl hi (by decide) (by omega) hL dL_law_244 dL_law_245 dL_law_246 dL_law_247 dL_law_248 ?_
  refine lw_ld (j := 3) hC hX hbl hbA hW.2.2 hl hi (by decide) (by omega) hL dL_law_249 dL_law_250 dL_law_251 dL_law_252 dL_law_253 ?_
  refine lw_ld (j := 4) hC hX hbl hbA hW.2.2 hl hi (by decide) (by omega) hL dL_law_254 dL_law_255 dL_law_256 dL_law_257 dL_law_258 ?_
  refine kc_callv (y' := 60) (r := 0) (as := [.inl (kA xs i 1), .inl (kA xs i 2), .inl (kA xs i 3), .inl (kA xs i 4)]) (rest := []) hC hW dL_law_259 kv_31 (by decide) (by decide) zcw_60 (by decide) (by decide) (by decide) (by decide) rfl ⟨by decide, by decide, by decide⟩ hl.1 (by decide) (p_member hE kA_r kA_r kA_r kA_r) rfl (fun r σ1 H locs hq hW => ?_)
  rw [show kpu 60 r [] = [.int (Int32.ofInt r)] from rfl]
  refine lv_aload_n hx hb dL_law_262 rfl (lv_at hl 1 rfl) ?_
  refine lw_ld (j := 1) hC hX hbl hbA hW.2.2 hl hi (by decide) (by omega) hL dL_law_263 dL_law_264 dL_law_265 dL_law_266 dL_law_267 ?_
  refine lw_ld (j := 2) hC hX hbl hbA hW.2.2 hl hi (by decide) (by omega) hL dL_law_268 dL_law_269 dL_law_270 dL_law_271 dL_law_272 ?_
  refine lw_ld (j := 3) hC hX hbl hbA hW.2.2 hl hi (by decide) (by omega) hL dL_law_273 dL_law_274 dL_law_275 dL_law_276 dL_law_277 ?_
  refine lw_ld (j := 4) hC hX hbl hbA hW.2.2 hl hi (by decide) (by omega) hL dL_law_278 dL_law_279 dL_law_280 dL_law_281 dL_law_282 ?_
  refine kc_callv (y' := 101) (r := 31) (as := [.inl (kA xs i 1), .inl (kA xs i 2), .inl (kA xs i 3), .inl (kA xs i 4)]) (rest := [.int (Int32.ofInt r)]) hC hW dL_law_283 kv_35 (by decide) (by decide) zcw_101 (by decide) (by decide) (by decide) (by decide) rfl ⟨by decide, by decide, by decide⟩ hl.1 (show (1 : Nat) ≤ 8 by decide) hq rfl (fun r2 σ2 H locs hq hW => ?_)
  rw [show kpu 101 r2 [.int (Int32.ofInt r)] = [.int (Int32.ofInt r2), .int (Int32.ofInt r)] from rfl]
  exact lv_icmp_eq (tgt := 717) hx hb dL_law_286 rfl (fun _ => kk σ2 H locs hq.2 hW) (fun z => absurd (by rw [hq.1]) z)
theorem kv_36 : Cond.methodLink R_law 36 (zY 61) ∈ zT := z_T (by decide +kernel) rfl
theorem kv_40 : Cond.methodLink R_law 40 (zY 102) ∈ zT := z_T (by decide +kernel) rfl
theorem lw_does {p : Program} {l : Launch} {e : Env} {s : State} {m : MethodId} {below : List Frame} {meth : Method} {c : Code} {QQ : State → Prop} {D : va_G} {cI cZ : ClassId} {A : Nat → Prop} {H : Heap} {locs : List Loc} {ls : Array Slot} {b L : Nat} {ad : Nat → Nat} {σ : zS} {xs : Nat → Int32} {i : Int} (hC : kctx R_law code 4 p s m #[Value.ref b] c D cI cZ A) (hX : va_X b L xs s s.heap) (hbl : b < s.heap.size) (hbA : ¬ A b) (hL : L ≤ 3072) (hl : kL ls ad b i) (hi : 0 ≤ i) (hi6 : i + 6 ≤ L) (hE : EE σ) (hW : kW D A s (zwd zF ad cI cZ σ) H locs)
    (kk : ∀ (σ1 : zS) (H1 : Heap) (locs1 : List Loc), EE σ1 → kW D A s (zwd zF ad cI cZ σ1) H1 locs1 → W p l e room_1 s m #[Value.ref b] below meth c H1 locs1 55 10458 QQ (F0 m 717 ls [])) : W p l e room_1 s m #[Value.ref b] below meth c H locs 55 10458 QQ (F0 m 291 ls []) := by
  have hx := hC.1
  have hb := hC.2.1
  refine lv_aload_n hx hb dL_law_291 rfl (lv_at hl 2 rfl) ?_
  refine lw_ld (j := 1) hC hX hbl hbA hW.2.2 hl hi (by decide) (by omega) hL dL_law_292 dL_law_293 dL_law_294 dL_law_295 dL_law_296 ?_
  refine lw_ld (j := 2) hC hX hbl hbA hW.2.2 hl hi (by decide) (by omega) hL dL_law_297 dL_law_298 dL_law_299 dL_law_300 dL_law_301 ?_
  refine lw_ld (j := 3) hC hX hbl hbA hW.2.2 hl hi (by decide) (by omega) hL dL_law_302 dL_law_303 dL_law_304 dL_law_305 dL_law_306 ?_
  refine lw_ld (j := 4) hC hX hbl hbA hW.2.2 hl hi (by decide) (by omega) hL dL_law_307 dL_law_308 dL_law_309 dL_law_310 dL_law_311 ?_
  refine lw_ld (j := 5) hC hX hbl hbA hW.2.2 hl hi (by decide) (by omega) hL dL_law_312 dL_law_313 dL_law_314 dL_law_315 dL_law_316 ?_
  refine kc_callv (y' := 61) (r := 0) (as := [.inl (kA xs i 1), .inl (kA xs i 2), .inl (kA xs i 3), .inl (kA xs i 4), .inl (kA xs i 5)]) (rest := []) hC hW dL_law_317 kv_36 (by decide) (by decide) zcw_61 (by decide) (by decide) (by decide) (by decide) rfl ⟨by decide, by decide, by decide⟩ hl.1 (by decide) (p_does hE kA_r kA_r kA_r kA_r kA_r) rfl (fun r σ1 H locs hq hW => ?_)
  rw [show kpu 61 r [] = [.int (Int32.ofInt r)] from rfl]
  refine lv_aload_n hx hb dL_law_320 rfl (lv_at hl 1 rfl) ?_
  refine lw_ld (j := 1) hC hX hbl hbA hW.2.2 hl hi (by decide) (by omega) hL dL_law_321 dL_law_322 dL_law_323 dL_law_324 dL_law_325 ?_
  refine lw_ld (j := 2) hC hX hbl hbA hW.2.2 hl hi (by decide) (by omega) hL dL_law_326 dL_law_327 dL_law_328 dL_law_329 dL_law_330 ?_
  refine lw_ld (j := 3) hC hX hbl hbA hW.2.2 hl hi (by decide) (by omega) hL dL_law_331 dL_law_332 dL_law_333 dL_law_334 dL_law_335 ?_
  refine lw_ld (j := 4) hC hX hbl hbA hW.2.2 hl hi (by decide) (by omega) hL dL_law_336 dL_law_337 dL_law_338 dL_law_339 dL_law_340 ?_
  refine lw_ld (j := 5) hC hX hbl hbA hW.2.2 hl hi (by decide) (by omega) hL dL_law_341 dL_law_342 dL_law_343 dL_law_344 dL_law_345 ?_
  refine kc_callv (y' := 102) (r := 31) (as := [.inl (kA xs i 1), .inl (kA xs i 2), .inl (kA xs i 3), .inl (kA xs i 4), .inl (kA xs i 5)]) (rest := [.int (Int32.ofInt r)]) hC hW dL_law_346 kv_40 (by decide) (by decide) zcw_102 (by decide) (by decide) (by decide) (by decide) rfl ⟨by decide, by decide, by decide⟩ hl.1 (show (1 : Nat) ≤ 8 by decide) hq rfl (fun r2 σ2 H locs hq hW => ?_)
  rw [show kpu 102 r2 [.int (Int32.ofInt r)] = [.int (Int32.ofInt r2), .int (Int32.ofInt r)] from rfl]
  exact lv_icmp_eq (tgt := 717) hx hb dL_law_349 rfl (fun _ => kk σ2 H locs hq.2 hW) (fun z => absurd (by rw [hq.1]) z)
theorem kv_41 : Cond.methodLink R_law 41 (zY 62) ∈ zT := z_T (by decide +kernel) rfl
theorem kv_45 : Cond.methodLink R_law 45 (zY 103) ∈ zT := z_T (by decide +kernel) rfl
theorem lw_constant {p : Program} {l : Launch} {e : Env} {s : State} {m : MethodId} {below : List Frame} {meth : Method} {c : Code} {QQ : State → Prop} {D : va_G} {cI cZ : ClassId} {A : Nat → Prop} {H : Heap} {locs : List Loc} {ls : Array Slot} {b L : Nat} {ad : Nat → Nat} {σ : zS} {xs : Nat → Int32} {i : Int} (hC : kctx R_law code 4 p s m #[Value.ref b] c D cI cZ A) (hX : va_X b L xs s s.heap) (hbl : b < s.heap.size) (hbA : ¬ A b) (hL : L ≤ 3072) (hl : kL ls ad b i) (hi : 0 ≤ i) (hi6 : i + 6 ≤ L) (hE : EE σ) (hW : kW D A s (zwd zF ad cI cZ σ) H locs)
    (kk : ∀ (σ1 : zS) (H1 : Heap) (locs1 : List Loc), EE σ1 → kW D A s (zwd zF ad cI cZ σ1) H1 locs1 → W p l e room_1 s m #[Value.ref b] below meth c H1 locs1 55 10458 QQ (F0 m 717 ls [])) : W p l e room_1 s m #[Value.ref b] below meth c H locs 55 10458 QQ (F0 m 354 ls []) := by
  have hx := hC.1
  have hb := hC.2.1
  refine lv_aload_n hx hb dL_law_354 rfl (lv_at hl 2 rfl) ?_
  refine lw_ld (j := 1) hC hX hbl hbA hW.2.2 hl hi (by decide) (by omega) hL dL_law_355 dL_law_356 dL_law_357 dL_law_358 dL_law_359 ?_
  refine lw_ld (j := 2) hC hX hbl hbA hW.2.2 hl hi (by decide) (by omega) hL dL_law_360 dL_law_361 dL_law_362 dL_law_363 dL_law_364 ?_
  refine lw_ld (j := 3) hC hX hbl hbA hW.2.2 hl hi (by decide) (by omega) hL dL_law_365 dL_law_366 dL_law_367 dL_law_368 dL_law_369 ?_
  refine kc_callv (y' := 62) (r := 0) (as := [.inl (kA xs i 1), .inl (kA xs i 2), .inl (kA xs i 3)]) (rest := []) hC hW dL_law_370 kv_41 (by decide) (by decide) zcw_62 (by decide) (by decide) (by decide) (by decide) rfl ⟨by decide, by decide, by decide⟩ hl.1 (by decide) (p_constant hE kA_r kA_r kA_r) rfl (fun r σ1 H locs hq hW => ?_)
  rw [show kpu 62 r [] = [.int (Int32.ofInt r)] from rfl]
  refine lv_aload_n hx hb dL_law_373 rfl (lv_at hl 1 rfl) ?_
  refine lw_ld (j := 1) hC hX hbl hbA hW.2.2 hl hi (by decide) (by omega) hL dL_law_374 dL_law_375 dL_law_376 dL_law_377 dL_law_378 ?_
  refine lw_ld (j := 2) hC hX hbl hbA hW.2.2 hl hi (by decide) (by omega) hL dL_law_379 dL_law_380 dL_law_381 dL_law_382 dL_law_383 ?_
  refine lw_ld (j := 3) hC hX hbl hbA hW.2.2 hl hi (by decide) (by omega) hL dL_law_384 dL_law_385 dL_law_386 dL_law_387 dL_law_388 ?_
  refine kc_callv (y' := 103) (r := 31) (as := [.inl (kA xs i 1), .inl (kA xs i 2), .inl (kA xs i 3)]) (rest := [.int (Int32.ofInt r)]) hC hW dL_law_389 kv_45 (by decide) (by decide) zcw_103 (by decide) (by decide) (by decide) (by decide) rfl ⟨by decide, by decide, by decide⟩ hl.1 (show (1 : Nat) ≤ 8 by decide) hq rfl (fun r2 σ2 H locs hq hW => ?_)
  rw [show kpu 103 r2 [.int (Int32.ofInt r)] = [.int (Int32.ofInt r2), .int (Int32.ofInt r)] from rfl]
  exact lv_icmp_eq (tgt := 717) hx hb dL_law_392 rfl (fun _ => kk σ2 H locs hq.2 hW) (fun z => absurd (by rw [hq.1]) z)
theorem kv_46 : Cond.methodLink R_law 46 (zY 63) ∈ zT := z_T (by decide +kernel) rfl
theorem kv_49 : Cond.methodLink R_law 49 (zY 104) ∈ zT := z_T (by decide +kernel) rfl
theorem lw_has {p : Program} {l : Launch} {e : Env} {s : State} {m : MethodId} {below : List Frame} {meth : Method} {c : Code} {QQ : State → Prop} {D : va_G} {cI cZ : ClassId} {A : Nat → Prop} {H : Heap} {locs : List Loc} {ls : Array Slot} {b L : Nat} {ad : Nat → Nat} {σ : zS} {xs : Nat → Int32} {i : Int} (hC : kctx R_law code 4 p s m #[Value.ref b] c D cI cZ A) (hX : va_X b L xs s s.heap) (hbl : b < s.heap.size) (hbA : ¬ A b) (hL : L ≤ 3072) (hl : kL ls ad b i) (hi : 0 ≤ i) (hi6 : i + 6 ≤ L) (hE : EE σ) (hW : kW D A s (zwd zF ad cI cZ σ) H locs)
    (kk : ∀ (σ1 : zS) (H1 : Heap) (locs1 : List Loc), EE σ1 → kW D A s (zwd zF ad cI cZ σ1) H1 locs1 → W p l e room_1 s m #[Value.ref b] below meth c H1 locs1 55 10458 QQ (F0 m 717 ls [])) : W p l e room_1 s m #[Value.ref b] below meth c H locs 55 10458 QQ (F0 m 397 ls []) := by
  have hx := hC.1
  have hb := hC.2.1
  refine lv_aload_n hx hb dL_law_397 rfl (lv_at hl 2 rfl) ?_
  refine lw_ld (j := 1) hC hX hbl hbA hW.2.2 hl hi (by decide) (by omega) hL dL_law_398 dL_law_399 dL_law_400 dL_law_401 dL_law_402 ?_
  refine lw_ld (j := 2) hC hX hbl hbA hW.2.2 hl hi (by decide) (by omega) hL dL_law_403 dL_law_404 dL_law_405 dL_law_406 dL_law_407 ?_
  refine lw_ld (j := 3) hC hX hbl hbA hW.2.2 hl hi (by decide) (by omega) hL dL_law_408 dL_law_409 dL_law_410 dL_law_411 dL_law_412 ?_
  refine kc_callv (y' := 63) (r := 0) (as := [.inl (kA xs i 1), .inl (kA xs i 2), .inl (kA xs i 3)]) (rest := []) hC hW dL_law_413 kv_46 (by decide) (by decide) zcw_63 (by decide) (by decide) (by decide) (by decide) rfl ⟨by decide, by decide, by decide⟩ hl.1 (by decide) (p_has hE kA_r kA_r kA_r) rfl (fun r σ1 H locs hq hW => ?_)
  rw [show kpu 63 r [] = [.int (Int32.ofInt r)] from rfl]
  refine lv_aload_n hx hb dL_law_416 rfl (lv_at hl 1 rfl) ?_
  refine lw_ld (j := 1) hC hX hbl hbA hW.2.2 hl hi (by decide) (by omega) hL dL_law_417 dL_law_418 dL_law_419 dL_law_420 dL_law_421 ?_
  refine lw_ld (j := 2) hC hX hbl hbA hW.2.2 hl hi (by decide) (by omega) hL dL_law_422 dL_law_423 dL_law_424 dL_law_425 dL_law_426 ?_
  refine lw_ld (j := 3) hC hX hbl hbA hW.2.2 hl hi (by decide) (by omega) hL dL_law_427 dL_law_428 dL_law_429 dL_law_430 dL_law_431 ?_
  refine kc_callv (y' := 104) (r := 31) (as := [.inl (kA xs i 1), .inl (kA xs i 2), .inl (kA xs i 3)]) (rest := [.int (Int32.ofInt r)]) hC hW dL_law_432 kv_49 (by decide) (by decide) zcw_104 (by decide) (by decide) (by decide) (by decide) rfl ⟨by decide, by decide, by decide⟩ hl.1 (show (1 : Nat) ≤ 8 by decide) hq rfl (fun r2 σ2 H locs hq hW => ?_)
  rw [show kpu 104 r2 [.int (Int32.ofInt r)] = [.int (Int32.ofInt r2), .int (Int32.ofInt r)] from rfl]
  exact lv_icmp_eq (tgt := 717) hx hb dL_law_435 rfl (fun _ => kk σ2 H locs hq.2 hW) (fun z => absurd (by rw [hq.1]) z)
theorem kv_50 : Cond.methodLink R_law 50 (zY 64) ∈ zT := z_T (by decide +kernel) rfl
theorem kv_53 : Cond.methodLink R_law 53 (zY 105) ∈ zT := z_T (by decide +kernel) rfl
theorem lw_runs {p : Program} {l : Launch} {e : Env} {s : State} {m : MethodId} {below : List Frame} {meth : Method} {c : Code} {QQ : State → Prop} {D : va_G} {cI cZ : ClassId} {A : Nat → Prop} {H : Heap} {locs : List Loc} {ls : Array Slot} {b L : Nat} {ad : Nat → Nat} {σ : zS} {xs : Nat → Int32} {i : Int} (hC : kctx R_law code 4 p s m #[Value.ref b] c D cI cZ A) (hX : va_X b L xs s s.heap) (hbl : b < s.heap.size) (hbA : ¬ A b) (hL : L ≤ 3072) (hl : kL ls ad b i) (hi : 0 ≤ i) (hi6 : i + 6 ≤ L) (hE : EE σ) (hW : kW D A s (zwd zF ad cI cZ σ) H locs)
    (kk : ∀ (σ1 : zS) (H1 : Heap) (locs1 : List Loc), EE σ1 → kW D A s (zwd zF ad cI cZ σ1) H1 locs1 → W p l e room_1 s m #[Value.ref b] below meth c H1 locs1 55 10458 QQ (F0 m 717 ls [])) : W p l e room_1 s m #[Value.ref b] below meth c H locs 55 10458 QQ (F0 m 440 ls []) := by
  have hx := hC.1
  have hb := hC.2.1
  refine lv_aload_n hx hb dL_law_440 rfl (lv_at hl 2 rfl) ?_
  refine lw_ld (j := 1) hC hX hbl hbA hW.2.2 hl hi (by decide) (by omega) hL dL_law_441 dL_law_442 dL_law_443 dL_law_444 dL_law_445 ?_
  refine lw_ld (j := 2) hC hX hbl hbA hW.2.2 hl hi (by decide) (by omega) hL dL_law_446 dL_law_447 dL_law_448 dL_law_449 dL_law_450 ?_
  refine kc_callv (y' := 64) (r := 0) (as := [.inl (kA xs i 1), .inl (kA xs i 2)]) (rest := []) hC hW dL_law_451 kv_50 (by decide) (by decide) zcw_64 (by decide) (by decide) (by decide) (by decide) rfl ⟨by decide, by decide, by decide⟩ hl.1 (by decide) (p_runs hE kA_r kA_r) rfl (fun r σ1 H locs hq hW => ?_)
  rw [show kpu 64 r [] = [.int (Int32.ofInt r)] from rfl]
  refine lv_aload_n hx hb dL_law_454 rfl (lv_at hl 1 rfl) ?_
  refine lw_ld (j := 1) hC hX hbl hbA hW.2.2 hl hi (by decide) (by omega) hL dL_law_455 dL_law_456 dL_law_457 dL_law_458 dL_law_459 ?_
  refine lw_ld (j := 2) hC hX hbl hbA hW.2.2 hl hi (by decide) (by omega) hL dL_law_460 dL_law_461 dL_law_462 dL_law_463 dL_law_464 ?_
  refine kc_callv (y' := 105) (r := 31) (as := [.inl (kA xs i 1), .inl (kA xs i 2)]) (rest := [.int (Int32.ofInt r)]) hC hW dL_law_465 kv_53 (by decide) (by decide) zcw_105 (by decide) (by decide) (by decide) (by decide) rfl ⟨by decide, by decide, by decide⟩ hl.1 (show (1 : Nat) ≤ 8 by decide) hq rfl (fun r2 σ2 H locs hq hW => ?_)
  rw [show kpu 105 r2 [.int (Int32.ofInt r)] = [.int (Int32.ofInt r2), .int (Int32.ofInt r)] from rfl]
  exact lv_icmp_eq (tgt := 717) hx hb dL_law_468 rfl (fun _ => kk σ2 H locs hq.2 hW) (fun z => absurd (by rw [hq.1]) z)
theorem kv_54 : Cond.methodLink R_law 54 (zY 65) ∈ zT := z_T (by decide +kernel) rfl
theorem kv_57 : Cond.methodLink R_law 57 (zY 106) ∈ zT := z_T (by decide +kernel) rfl
theorem lw_faults {p : Program} {l : Launch} {e : Env} {s : State} {m : MethodId} {below : List Frame} {meth : Method} {c : Code} {QQ : State → Prop} {D : va_G} {cI cZ : ClassId} {A : Nat → Prop} {H : Heap} {locs : List Loc} {ls : Array Slot} {b L : Nat} {ad : Nat → Nat} {σ : zS} {xs : Nat → Int32} {i : Int} (hC : kctx R_law code 4 p s m #[Value.ref b] c D cI cZ A) (hX : va_X b L xs s s.heap) (hbl : b < s.heap.size) (hbA : ¬ A b) (hL : L ≤ 3072) (hl : kL ls ad b i) (hi : 0 ≤ i) (hi6 : i + 6 ≤ L) (hE : EE σ) (hW : kW D A s (zwd zF ad cI cZ σ) H locs)
    (kk : ∀ (σ1 : zS) (H1 : Heap) (locs1 : List Loc), EE σ1 → kW D A s (zwd zF ad cI cZ σ1) H1 locs1 → W p l e room_1 s m #[Value.ref b] below meth c H1 locs1 55 10458 QQ (F0 m 717 ls [])) : W p l e room_1 s m #[Value.ref b] below meth c H locs 55 10458 QQ (F0 m 473 ls []) := by
  have hx := hC.1
  have hb := hC.2.1
  refine lv_aload_n hx hb dL_law_473 rfl (lv_at hl 2 rfl) ?_
  refine lw_ld (j := 1) hC hX hbl hbA hW.2.2 hl hi (by decide) (by omega) hL dL_law_474 dL_law_475 dL_law_476 dL_law_477 dL_law_478 ?_
  refine lw_ld (j := 2) hC hX hbl hbA hW.2.2 hl hi (by decide) (by omega) hL dL_law_479 dL_law_480 dL_law_481 dL_law_482 dL_law_483 ?_
  refine lw_ld (j := 3) hC hX hbl hbA hW.2.2 hl hi (by decide) (by omega) hL dL_law_484 dL_law_485 dL_law_486 dL_law_487 dL_law_488 ?_
  refine kc_callv (y' := 65) (r := 0) (as := [.inl (kA xs i 1), .inl (kA xs i 2), .inl (kA xs i 3)]) (rest := []) hC hW dL_law_489 kv_54 (by decide) (by decide) zcw_65 (by decide) (by decide) (by decide) (by decide) rfl ⟨by decide, by decide, by decide⟩ hl.1 (by decide) (p_faults hE kA_r kA_r kA_r) rfl (fun r σ1 H locs hq hW => ?_)
  rw [show kpu 65 r [] = [.int (Int32.ofInt r)] from rfl]
  refine lv_aload_n hx hb dL_law_492 rfl (lv_at hl 1 rfl) ?_
  refine lw_ld (j := 1) hC hX hbl hbA hW.2.2 hl hi (by decide) (by omega) hL dL_law_493 dL_law_494 dL_law_495 dL_law_496 dL_law_497 ?_
  refine lw_ld (j := 2) hC hX hbl hbA hW.2.2 hl hi (by decide) (by omega) hL dL_law_498 dL_law_499 dL_law_500 dL_law_501 dL_law_502 ?_
  refine lw_ld (j := 3) hC hX hbl hbA hW.2.2 hl hi (by decide) (by omega) hL dL_law_503 dL_law_504 dL_law_505 dL_law_506 dL_law_507 ?_
  refine kc_callv (y' := 106) (r := 31) (as := [.inl (kA xs i 1), .inl (kA xs i 2), .inl (kA xs i 3)]) (rest := [.int (Int32.ofInt r)]) hC hW dL_law_508 kv_57 (by decide) (by decide) zcw_106 (by decide) (by decide) (by decide) (by decide) rfl ⟨by decide, by decide, by decide⟩ hl.1 (show (1 : Nat) ≤ 8 by decide) hq rfl (fun r2 σ2 H locs hq hW => ?_)
  rw [show kpu 106 r2 [.int (Int32.ofInt r)] = [.int (Int32.ofInt r2), .int (Int32.ofInt r)] from rfl]
  exact lv_icmp_eq (tgt := 717) hx hb dL_law_511 rfl (fun _ => kk σ2 H locs hq.2 hW) (fun z => absurd (by rw [hq.1]) z)
theorem kv_58 : Cond.methodLink R_law 58 (zY 66) ∈ zT := z_T (by decide +kernel) rfl
theorem kv_61 : Cond.methodLink R_law 61 (zY 107) ∈ zT := z_T (by decide +kernel) rfl
theorem lw_functional {p : Program} {l : Launch} {e : Env} {s : State} {m : MethodId} {below : List Frame} {meth : Method} {c : Code} {QQ : State → Prop} {D : va_G} {cI cZ : ClassId} {A : Nat → Prop} {H : Heap} {locs : List Loc} {ls : Array Slot} {b L : Nat} {ad : Nat → Nat} {σ : zS} {xs : Nat → Int32} {i : Int} (hC : kctx R_law code 4 p s m #[Value.ref b] c D cI cZ A) (hX : va_X b L xs s s.heap) (hbl : b < s.heap.size) (hbA : ¬ A b) (hL : L ≤ 3072) (hl : kL ls ad b i) (hi : 0 ≤ i) (hi6 : i + 6 ≤ L) (hE : EE σ) (hW : kW D A s (zwd zF ad cI cZ σ) H locs)
    (kk : ∀ (σ1 : zS) (H1 : Heap) (locs1 : List Loc), EE σ1 → kW D A s (zwd zF ad cI cZ σ1) H1 locs1 → W p l e room_1 s m #[Value.ref b] below meth c H1 locs1 55 10458 QQ (F0 m 717 ls [])) : W p l e room_1 s m #[Value.ref b] below meth c H locs 55 10458 QQ (F0 m 516 ls []) := by
  have hx := hC.1
  have hb := hC.2.1
  refine lv_aload_n hx hb dL_law_516 rfl (lv_at hl 2 rfl) ?_
  refine lw_ld (j := 1) hC hX hbl hbA hW.2.2 hl hi (by decide) (by omega) hL dL_law_517 dL_law_518 dL_law_519 dL_law_520 dL_law_521 ?_
  refine kc_callv (y' := 66) (r := 0) (as := [.inl (kA xs i 1)]) (rest := []) hC hW dL_law_522 kv_58 (by decide) (by decide) zcw_66 (by decide) (by decide) (by decide) (by decide) rfl ⟨by decide, by decide, by decide⟩ hl.1 (by decide) (p_functional hE kA_r) rfl (fun r σ1 H locs hq hW => ?_)
  rw [show kpu 66 r [] = [.int (Int32.ofInt r)] from rfl]
  refine lv_aload_n hx hb dL_law_525 rfl (lv_at hl 1 rfl) ?_
  refine lw_ld (j := 1) hC hX hbl hbA hW.2.2 hl hi (by decide) (by omega) hL dL_law_526 dL_law_527 dL_law_528 dL_law_529 dL_law_530 ?_
  refine kc_callv (y' := 107) (r := 31) (as := [.inl (kA xs i 1)]) (rest := [.int (Int32.ofInt r)]) hC hW dL_law_531 kv_61 (by decide) (by decide) zcw_107 (by decide) (by decide) (by decide) (by decide) rfl ⟨by decide, by decide, by decide⟩ hl.1 (show (1 : Nat) ≤ 8 by decide) hq rfl (fun r2 σ2 H locs hq hW => ?_)
  rw [show kpu 107 r2 [.int (Int32.ofInt r)] = [.int (Int32.ofInt r2), .int (Int32.ofInt r)] from rfl]
  exact lv_icmp_eq (tgt := 717) hx hb dL_law_534 rfl (fun _ => kk σ2 H locs hq.2 hW) (fun z => absurd (by rw [hq.1]) z)
theorem kv_62 : Cond.methodLink R_law 62 (zY 67) ∈ zT := z_T (by decide +kernel) rfl
theorem kv_65 : Cond.methodLink R_law 65 (zY 109) ∈ zT := z_T (by decide +kernel) rfl
theorem lw_sees {p : Program} {l : Launch} {e : Env} {s : State} {m : MethodId} {below : List Frame} {meth : Method} {c : Code} {QQ : State → Prop} {D : va_G} {cI cZ : ClassId} {A : Nat → Prop} {H : Heap} {locs : List Loc} {ls : Array Slot} {b L : Nat} {ad : Nat → Nat} {σ : zS} {xs : Nat → Int32} {i : Int} (hC : kctx R_law code 4 p s m #[Value.ref b] c D cI cZ A) (hX : va_X b L xs s s.heap) (hbl : b < s.heap.size) (hbA : ¬ A b) (hL : L ≤ 3072) (hl : kL ls ad b i) (hi : 0 ≤ i) (hi6 : i + 6 ≤ L) (hE : EE σ) (hW : kW D A s (zwd zF ad cI cZ σ) H locs)
    (kk : ∀ (σ1 : zS) (H1 : Heap) (locs1 : List Loc), EE σ1 → kW D A s (zwd zF ad cI cZ σ1) H1 locs1 → W p l e room_1 s m #[Value.ref b] below meth c H1 locs1 55 10458 QQ (F0 m 717 ls [])) : W p l e room_1 s m #[Value.ref b] below meth c H locs 55 10458 QQ (F0 m 539 ls []) := by
  have hx := hC.1
  have hb := hC.2.1
  refine lv_aload_n hx hb dL_law_539 rfl (lv_at hl 2 rfl) ?_
  refine lw_ld (j := 1) hC hX hbl hbA hW.2.2 hl hi (by decide) (by omega) hL dL_law_540 dL_law_541 dL_law_542 dL_law_543 dL_law_544 ?_
  refine lw_ld (j := 2) hC hX hbl hbA hW.2.2 hl hi (by decide) (by omega) hL dL_law_545 dL_law_546 dL_law_547 dL_law_548 dL_law_549 ?_
  refine kc_callv (y' := 67) (r := 0) (as := [.inl (kA xs i 1), .inl (kA xs i 2)]) (rest := []) hC hW dL_law_550 kv_62 (by decide) (by decide) zcw_67 (by decide) (by decide) (by decide) (by decide) rfl ⟨by decide, by decide, by decide⟩ hl.1 (by decide) (p_sees hE kA_r kA_r) rfl (fun r σ1 H locs hq hW => ?_)
  rw [show kpu 67 r [] = [.int (Int32.ofInt r)] from rfl]
  refine lv_aload_n hx hb dL_law_553 rfl (lv_at hl 1 rfl) ?_
  refine lw_ld (j := 1) hC hX hbl hbA hW.2.2 hl hi (by decide) (by omega) hL dL_law_554 dL_law_555 dL_law_556 dL_law_557 dL_law_558 ?_
  refine lw_ld (j := 2) hC hX hbl hbA hW.2.2 hl hi (by decide) (by omega) hL dL_law_559 dL_law_560 dL_law_561 dL_law_562 dL_law_563 ?_
  refine kc_callv (y' := 109) (r := 31) (as := [.inl (kA xs i 1), .inl (kA xs i 2)]) (rest := [.int (Int32.ofInt r)]) hC hW dL_law_564 kv_65 (by decide) (by decide) zcw_109 (by decide) (by decide) (by decide) (by decide) rfl ⟨by decide, by decide, by decide⟩ hl.1 (show (1 : Nat) ≤ 8 by decide) hq rfl (fun r2 σ2 H locs hq hW => ?_)
  rw [show kpu 109 r2 [.int (Int32.ofInt r)] = [.int (Int32.ofInt r2), .int (Int32.ofInt r)] from rfl]
  exact lv_icmp_eq (tgt := 717) hx hb dL_law_567 rfl (fun _ => kk σ2 H locs hq.2 hW) (fun z => absurd (by rw [hq.1]) z)
theorem kv_66 : Cond.methodLink R_law 66 (zY 68) ∈ zT := z_T (by decide +kernel) rfl
theorem kv_69 : Cond.methodLink R_law 69 (zY 110) ∈ zT := z_T (by decide +kernel) rfl
theorem lw_value {p : Program} {l : Launch} {e : Env} {s : State} {m : MethodId} {below : List Frame} {meth : Method} {c : Code} {QQ : State → Prop} {D : va_G} {cI cZ : ClassId} {A : Nat → Prop} {H : Heap} {locs : List Loc} {ls : Array Slot} {b L : Nat} {ad : Nat → Nat} {σ : zS} {xs : Nat → Int32} {i : Int} (hC : kctx R_law code 4 p s m #[Value.ref b] c D cI cZ A) (hX : va_X b L xs s s.heap) (hbl : b < s.heap.size) (hbA : ¬ A b) (hL : L ≤ 3072) (hl : kL ls ad b i) (hi : 0 ≤ i) (hi6 : i + 6 ≤ L) (hE : EE σ) (hW : kW D A s (zwd zF ad cI cZ σ) H locs)
    (kk : ∀ (σ1 : zS) (H1 : Heap) (locs1 : List Loc), EE σ1 → kW D A s (zwd zF ad cI cZ σ1) H1 locs1 → W p l e room_1 s m #[Value.ref b] below meth c H1 locs1 55 10458 QQ (F0 m 717 ls [])) : W p l e room_1 s m #[Value.ref b] below meth c H locs 55 10458 QQ (F0 m 572 ls []) := by
  have hx := hC.1
  have hb := hC.2.1
  refine lv_aload_n hx hb dL_law_572 rfl (lv_at hl 2 rfl) ?_
  refine lw_ld (j := 1) hC hX hbl hbA hW.2.2 hl hi (by decide) (by omega) hL dL_law_573 dL_law_574 dL_law_575 dL_law_576 dL_law_577 ?_
  refine lw_ld (j := 2) hC hX hbl hbA hW.2.2 hl hi (by decide) (by omega) hL dL_law_578 dL_law_579 dL_law_580 dL_law_581 dL_law_582 ?_
  refine kc_callv (y' := 68) (r := 0) (as := [.inl (kA xs i 1), .inl (kA xs i 2)]) (rest := []) hC hW dL_law_583 kv_66 (by decide) (by decide) zcw_68 (by decide) (by decide) (by decide) (by decide) rfl ⟨by decide, by decide, by decide⟩ hl.1 (by decide) (p_value hE kA_r kA_r) rfl (fun r σ1 H locs hq hW => ?_)
  rw [show kpu 68 r [] = [.int (Int32.ofInt r)] from rfl]
  refine lv_aload_n hx hb dL_law_586 rfl (lv_at hl 1 rfl) ?_
  refine lw_ld (j := 1) hC hX hbl hbA hW.2.2 hl hi (by decide) (by omega) hL dL_law_587 dL_law_588 dL_law_589 dL_law_590 dL_law_591 ?_
  refine lw_ld (j := 2) hC hX hbl hbA hW.2.2 hl hi (by decide) (by omega) hL dL_law_592 dL_law_593 dL_law_594 dL_law_595 dL_law_596 ?_
  refine kc_callv (y' := 110) (r := 31) (as := [.inl (kA xs i 1), .inl (kA xs i 2)]) (rest := [.int (Int32.ofInt r)]) hC hW dL_law_597 kv_69 (by decide) (by decide) zcw_110 (by decide) (by decide) (by decide) (by decide) rfl ⟨by decide, by decide, by decide⟩ hl.1 (show (1 : Nat) ≤ 8 by decide) hq rfl (fun r2 σ2 H locs hq hW => ?_)
  rw [show kpu 110 r2 [.int (Int32.ofInt r)] = [.int (Int32.ofInt r2), .int (Int32.ofInt r)] from rfl]
  exact lv_icmp_eq (tgt := 717) hx hb dL_law_600 rfl (fun _ => kk σ2 H locs hq.2 hW) (fun z => absurd (by rw [hq.1]) z)
theorem kv_70 : Cond.methodLink R_law 70 (zY 69) ∈ zT := z_T (by decide +kernel) rfl
theorem kv_73 : Cond.methodLink R_law 73 (zY 111) ∈ zT := z_T (by decide +kernel) rfl
theorem lw_below {p : Program} {l : Launch} {e : Env} {s : State} {m : MethodId} {below : List Frame} {meth : Method} {c : Code} {QQ : State → Prop} {D : va_G} {cI cZ : ClassId} {A : Nat → Prop} {H : Heap} {locs : List Loc} {ls : Array Slot} {b L : Nat} {ad : Nat → Nat} {σ : zS} {xs : Nat → Int32} {i : Int} (hC : kctx R_law code 4 p s m #[Value.ref b] c D cI cZ A) (hX : va_X b L xs s s.heap) (hbl : b < s.heap.size) (hbA : ¬ A b) (hL : L ≤ 3072) (hl : kL ls ad b i) (hi : 0 ≤ i) (hi6 : i + 6 ≤ L) (hE : EE σ) (hW : kW D A s (zwd zF ad cI cZ σ) H locs)
    (kk : ∀ (σ1 : zS) (H1 : Heap) (locs1 : List Loc), EE σ1 → kW D A s (zwd zF ad cI cZ σ1) H1 locs1 → W p l e room_1 s m #[Value.ref b] below meth c H1 locs1 55 10458 QQ (F0 m 717 ls [])) : W p l e room_1 s m #[Value.ref b] below meth c H locs 55 10458 QQ (F0 m 605 ls []) := by
  have hx := hC.1
  have hb := hC.2.1
  refine lv_aload_n hx hb dL_law_605 rfl (lv_at hl 2 rfl) ?_
  refine lw_ld (j := 1) hC hX hbl hbA hW.2.2 hl hi (by decide) (by omega) hL dL_law_606 dL_law_607 dL_law_608 dL_law_609 dL_law_610 ?_
  refine lw_ld (j := 2) hC hX hbl hbA hW.2.2 hl hi (by decide) (by omega) hL dL_law_611 dL_law_612 dL_law_613 dL_law_614 dL_law_615 ?_
  refine kc_callv (y' := 69) (r := 0) (as := [.inl (kA xs i 1), .inl (kA xs i 2)]) (rest := []) hC hW dL_law_616 kv_70 (by decide) (by decide) zcw_69 (by decide) (by decide) (by decide) (by decide) rfl ⟨by decide, by decide, by decide⟩ hl.1 (by decide) (p_below hE kA_r kA_r) rfl (fun r σ1 H locs hq hW => ?_)
  rw [show kpu 69 r [] = [.int (Int32.ofInt r)] from rfl]
  refine lv_aload_n hx hb dL_law_619 rfl (lv_at hl 1 rfl) ?_
  refine lw_ld (j := 1) hC hX hbl hbA hW.2.2 hl hi (by decide) (by omega) hL dL_law_620 dL_law_621 dL_law_622 dL_law_623 dL_law_624 ?_
  refine lw_ld (j := 2) hC hX hbl hbA hW.2.2 hl hi (by decide) (by omega) hL dL_law_625 dL_law_626 dL_law_627 dL_law_628 dL_law_629 ?_
  refine kc_callv (y' := 111) (r := 31) (as := [.inl (kA xs i 1), .inl (kA xs i 2)]) (rest := [.int (Int32.ofInt r)]) hC hW dL_law_630 kv_73 (by decide) (by decide) zcw_111 (by decide) (by decide) (by decide) (by decide) rfl ⟨by decide, by decide, by decide⟩ hl.1 (show (1 : Nat) ≤ 8 by decide) hq rfl (fun r2 σ2 H locs hq hW => ?_)
  rw [show kpu 111 r2 [.int (Int32.ofInt r)] = [.int (Int32.ofInt r2), .int (Int32.ofInt r)] from rfl]
  exact lv_icmp_eq (tgt := 717) hx hb dL_law_633 rfl (fun _ => kk σ2 H locs hq.2 hW) (fun z => absurd (by rw [hq.1]) z)
theorem kv_74 : Cond.methodLink R_law 74 (zY 70) ∈ zT := z_T (by decide +kernel) rfl
theorem kv_77 : Cond.methodLink R_law 77 (zY 113) ∈ zT := z_T (by decide +kernel) rfl
theorem lw_call {p : Program} {l : Launch} {e : Env} {s : State} {m : MethodId} {below : List Frame} {meth : Method} {c : Code} {QQ : State → Prop} {D : va_G} {cI cZ : ClassId} {A : Nat → Prop} {H : Heap} {locs : List Loc} {ls : Array Slot} {b L : Nat} {ad : Nat → Nat} {σ : zS} {xs : Nat → Int32} {i : Int} (hC : kctx R_law code 4 p s m #[Value.ref b] c D cI cZ A) (hX : va_X b L xs s s.heap) (hbl : b < s.heap.size) (hbA : ¬ A b) (hL : L ≤ 3072) (hl : kL ls ad b i) (hi : 0 ≤ i) (hi6 : i + 6 ≤ L) (hE : EE σ) (hW : kW D A s (zwd zF ad cI cZ σ) H locs)
    (kk : ∀ (σ1 : zS) (H1 : Heap) (locs1 : List Loc), EE σ1 → kW D A s (zwd zF ad cI cZ σ1) H1 locs1 → W p l e room_1 s m #[Value.ref b] below meth c H1 locs1 55 10458 QQ (F0 m 717 ls [])) : W p l e room_1 s m #[Value.ref b] below meth c H locs 55 10458 QQ (F0 m 638 ls []) := by
  have hx := hC.1
  have hb := hC.2.1
  refine lv_aload_n hx hb dL_law_638 rfl (lv_at hl 2 rfl) ?_
  refine lw_ld (j := 1) hC hX hbl hbA hW.2.2 hl hi (by decide) (by omega) hL dL_law_639 dL_law_640 dL_law_641 dL_law_642 dL_law_643 ?_
  refine lw_ld (j := 2) hC hX hbl hbA hW.2.2 hl hi (by decide) (by omega) hL dL_law_644 dL_law_645 dL_law_646 dL_law_647 dL_law_648 ?_
  refine kc_callv (y' := 70) (r := 0) (as := [.inl (kA xs i 1), .inl (kA xs i 2)]) (rest := []) hC hW dL_law_649 kv_74 (by decide) (by decide) zcw_70 (by decide) (by decide) (by decide) (by decide) rfl ⟨by decide, by decide, by decide⟩ hl.1 (by decide) (p_call hE kA_r kA_r) rfl (fun r σ1 H locs hq hW => ?_)
  rw [show kpu 70 r [] = [.int (Int32.ofInt r)] from rfl]
  refine lv_aload_n hx hb dL_law_652 rfl (lv_at hl 1 rfl) ?_
  refine lw_ld (j := 1) hC hX hbl hbA hW.2.2 hl hi (by decide) (by omega) hL dL_law_653 dL_law_654 dL_law_655 dL_law_656 dL_law_657 ?_
  refine lw_ld (j := 2) hC hX hbl hbA hW.2.2 hl hi (by decide) (by omega) hL dL_law_658 dL_law_659 dL_law_660 dL_law_661 dL_law_662 ?_
  refine kc_callv (y' := 113) (r := 31) (as := [.inl (kA xs i 1), .inl (kA xs i 2)]) (rest := [.int (Int32.ofInt r)]) hC hW dL_law_663 kv_77 (by decide) (by decide) zcw_113 (by decide) (by decide) (by decide) (by decide) rfl ⟨by decide, by decide, by decide⟩ hl.1 (show (1 : Nat) ≤ 8 by decide) hq rfl (fun r2 σ2 H locs hq hW => ?_)
  rw [show kpu 113 r2 [.int (Int32.ofInt r)] = [.int (Int32.ofInt r2), .int (Int32.ofInt r)] from rfl]
  exact lv_icmp_eq (tgt := 717) hx hb dL_law_666 rfl (fun _ => kk σ2 H locs hq.2 hW) (fun z => absurd (by rw [hq.1]) z)
theorem kv_78 : Cond.methodLink R_law 78 (zY 71) ∈ zT := z_T (by decide +kernel) rfl
theorem kv_81 : Cond.methodLink R_law 81 (zY 114) ∈ zT := z_T (by decide +kernel) rfl
theorem lw_latest {p : Program} {l : Launch} {e : Env} {s : State} {m : MethodId} {below : List Frame} {meth : Method} {c : Code} {QQ : State → Prop} {D : va_G} {cI cZ : ClassId} {A : Nat → Prop} {H : Heap} {locs : List Loc} {ls : Array Slot} {b L : Nat} {ad : Nat → Nat} {σ : zS} {xs : Nat → Int32} {i : Int} (hC : kctx R_law code 4 p s m #[Value.ref b] c D cI cZ A) (hX : va_X b L xs s s.heap) (hbl : b < s.heap.size) (hbA : ¬ A b) (hL : L ≤ 3072) (hl : kL ls ad b i) (hi : 0 ≤ i) (hi6 : i + 6 ≤ L) (hE : EE σ) (hW : kW D A s (zwd zF ad cI cZ σ) H locs)
    (kk : ∀ (σ1 : zS) (H1 : Heap) (locs1 : List Loc), EE σ1 → kW D A s (zwd zF ad cI cZ σ1) H1 locs1 → W p l e room_1 s m #[Value.ref b] below meth c H1 locs1 55 10458 QQ (F0 m 717 ls [])) : W p l e room_1 s m #[Value.ref b] below meth c H locs 55 10458 QQ (F0 m 671 ls []) := by
  have hx := hC.1
  have hb := hC.2.1
  refine lv_aload_n hx hb dL_law_671 rfl (lv_at hl 2 rfl) ?_
  refine lw_ld (j := 1) hC hX hbl hbA hW.2.2 hl hi (by decide) (by omega) hL dL_law_672 dL_law_673 dL_law_674 dL_law_675 dL_law_676 ?_
  refine kc_callv (y' := 71) (r := 0) (as := [.inl (kA xs i 1)]) (rest := []) hC hW dL_law_677 kv_78 (by decide) (by decide) zcw_71 (by decide) (by decide) (by decide) (by decide) rfl ⟨by decide, by decide, by decide⟩ hl.1 (by decide) (p_latest hE kA_r) rfl (fun r σ1 H locs hq hW => ?_)
  rw [show kpu 71 r [] = [.int (Int32.ofInt r)] from rfl]
  refine lv_aload_n hx hb dL_law_680 rfl (lv_at hl 1 rfl) ?_
  refine lw_ld (j := 1) hC hX hbl hbA hW.2.2 hl hi (by decide) (by omega) hL dL_law_681 dL_law_682 dL_law_683 dL_law_684 dL_law_685 ?_
  refine kc_callv (y' := 114) (r := 31) (as := [.inl (kA xs i 1)]) (rest := [.int (Int32.ofInt r)]) hC hW dL_law_686 kv_81 (by decide) (by decide) zcw_114 (by decide) (by decide) (by decide) (by decide) rfl ⟨by decide, by decide, by decide⟩ hl.1 (show (1 : Nat) ≤ 8 by decide) hq rfl (fun r2 σ2 H locs hq hW => ?_)
  rw [show kpu 114 r2 [.int (Int32.ofInt r)] = [.int (Int32.ofInt r2), .int (Int32.ofInt r)] from rfl]
  exact lv_icmp_eq (tgt := 717) hx hb dL_law_689 rfl (fun _ => kk σ2 H locs hq.2 hW) (fun z => absurd (by rw [hq.1]) z)
theorem kv_82 : Cond.methodLink R_law 82 (zY 72) ∈ zT := z_T (by decide +kernel) rfl
theorem kv_85 : Cond.methodLink R_law 85 (zY 115) ∈ zT := z_T (by decide +kernel) rfl
theorem lw_told {p : Program} {l : Launch} {e : Env} {s : State} {m : MethodId} {below : List Frame} {meth : Method} {c : Code} {QQ : State → Prop} {D : va_G} {cI cZ : ClassId} {A : Nat → Prop} {H : Heap} {locs : List Loc} {ls : Array Slot} {b L : Nat} {ad : Nat → Nat} {σ : zS} {xs : Nat → Int32} {i : Int} (hC : kctx R_law code 4 p s m #[Value.ref b] c D cI cZ A) (hX : va_X b L xs s s.heap) (hbl : b < s.heap.size) (hbA : ¬ A b) (hL : L ≤ 3072) (hl : kL ls ad b i) (hi : 0 ≤ i) (hi6 : i + 6 ≤ L) (hE : EE σ) (hW : kW D A s (zwd zF ad cI cZ σ) H locs)
    (kk : ∀ (σ1 : zS) (H1 : Heap) (locs1 : List Loc), EE σ1 → kW D A s (zwd zF ad cI cZ σ1) H1 locs1 → W p l e room_1 s m #[Value.ref b] below meth c H1 locs1 55 10458 QQ (F0 m 717 ls [])) : W p l e room_1 s m #[Value.ref b] below meth c H locs 55 10458 QQ (F0 m 694 ls []) := by
  have hx := hC.1
  have hb := hC.2.1
  refine lv_aload_n hx hb dL_law_694 rfl (lv_at hl 2 rfl) ?_
  refine lw_ld (j := 1) hC hX hbl hbA hW.2.2 hl hi (by decide) (by omega) hL dL_law_695 dL_law_696 dL_law_697 dL_law_698 dL_law_699 ?_
  refine kc_callv (y' := 72) (r := 0) (as := [.inl (kA xs i 1)]) (rest := []) hC hW dL_law_700 kv_82 (by decide) (by decide) zcw_72 (by decide) (by decide) (by decide) (by decide) rfl ⟨by decide, by decide, by decide⟩ hl.1 (by decide) (p_told hE kA_r) rfl (fun r σ1 H locs hq hW => ?_)
  rw [show kpu 72 r [] = [.int (Int32.ofInt r)] from rfl]
  refine lv_aload_n hx hb dL_law_703 rfl (lv_at hl 1 rfl) ?_
  refine lw_ld (j := 1) hC hX hbl hbA hW.2.2 hl hi (by decide) (by omega) hL dL_law_704 dL_law_705 dL_law_706 dL_law_707 dL_law_708 ?_
  refine kc_callv (y' := 115) (r := 31) (as := [.inl (kA xs i 1)]) (rest := [.int (Int32.ofInt r)]) hC hW dL_law_709 kv_85 (by decide) (by decide) zcw_115 (by decide) (by decide) (by decide) (by decide) rfl ⟨by decide, by decide, by decide⟩ hl.1 (show (1 : Nat) ≤ 8 by decide) hq rfl (fun r2 σ2 H locs hq hW => ?_)
  rw [show kpu 115 r2 [.int (Int32.ofInt r)] = [.int (Int32.ofInt r2), .int (Int32.ofInt r)] from rfl]
  exact lv_icmp_eq (tgt := 717) hx hb dL_law_712 rfl (fun _ => kk σ2 H locs hq.2 hW) (fun z => absurd (by rw [hq.1]) z)
