theorem z_len : ∀ r, r < 55 → zlen r ≤ 2560 := by decide +kernel
theorem z_cl : ∀ ci, ci < 7 → vwCl[ci]? = some (zRn ci, zTn ci, zNf ci) := by
  intro ci h
  rcases (show ci = 0 ∨ ci = 1 ∨ ci = 2 ∨ ci = 3 ∨ ci = 4 ∨ ci = 5 ∨ ci = 6 by omega) with rfl | rfl | rfl | rfl | rfl | rfl | rfl <;> rfl
theorem z_inT : ∀ ci, ci < 7 → ∀ w ∈ u_ws (zRn ci) (zTn ci) (zNf ci), w ∈ lw_tbl := by decide +kernel
theorem z_ty : ∀ ci, ci < 7 → ∀ k, k < zNf ci → parseFieldDescriptor (zTn ci k).2.2.1 = some (zTy ci k) := by decide +kernel
theorem z_nm : ∀ ci, ci < 7 → ∀ a, a < zNf ci → ∀ b, b < zNf ci → a ≠ b → (zTn ci a).2.1 ≠ (zTn ci b).2.1 := by decide +kernel
theorem z_fs0 : ∀ q ∈ zFs, q.2.2.1 < 7 ∧ q.2.2.2 < zNf q.2.2.1 ∧ lw_tbl[zPf (1000 * q.1 + q.2.1)]? = some (Cond.fieldLink (zRn q.1) q.2.1 (zTn q.2.2.1 q.2.2.2).1 (zTn q.2.2.1 q.2.2.2).2.1 (zTn q.2.2.1 q.2.2.2).2.2.1) := by decide +kernel
theorem z_nf : ∀ r, r < 55 → 2 ≤ zkind r → zlen r = zNf (zkind r - 2) := by decide +kernel
/-- which fields are numbers: int or boolean -/
theorem z_rt : ∀ r, r < 55 → 2 ≤ zkind r → ∀ j, j < zlen r → zref r j = none → zTy (zkind r - 2) j = .int ∨ zTy (zkind r - 2) j = .boolean := by decide +kernel
theorem z_cs0 : ∀ q ∈ zCs, lw_tbl[zPc (1000 * q.1 + q.2.1)]? = some (Cond.methodLink (zRn q.1) q.2.1 (zY q.2.2)) ∧ zSt q.2.2 = false := by decide +kernel
theorem z_ss0 : ∀ q ∈ zSs, lw_tbl[zPc (1000 * q.1 + q.2.1)]? = some (Cond.methodLink (zRn q.1) q.2.1 (zY q.2.2)) ∧ zSt q.2.2 = true ∧ zRn q.1 = (zY q.2.2).cls := by decide +kernel
theorem z_ini0 : ∀ k, k < 9 → lw_tbl[zPi k]? = some (Cond.initialized (zRn k)) := by decide +kernel
theorem z_ye : ∀ y, y < 117 → (zY y).cls = zRn (zO y) ∧ plainName (zY y).cls = true ∧ (zY y).cls ≠ "java/lang/invoke/MethodHandle" ∧ (zY y).cls ≠ "java/lang/invoke/VarHandle" ∧ (parseMethodDescriptor (zY y).desc).map (fun d => d.parameters.length) = some (zNa y) ∧ zO y < 9 := by decide +kernel
theorem z_in0 : ∀ y, y < 117 → zSt y = false → lw_tbl[zPm y]? = some (Cond.instanceMethod (zY y)) ∧ lw_tbl[zPs y]? = some (Cond.selects (zY y).cls (zY y) (zY y)) := by decide +kernel
theorem z_st0 : ∀ y, y < 117 → zSt y = true → lw_tbl[zPm y]? = some (Cond.static (zY y)) := by decide +kernel
theorem z_inT' : ∀ ci, ci < 7 → ∀ w ∈ u_ws (zRn ci) (zTn ci) (zNf ci), goodWord w = true := by decide +kernel
theorem z_kd : ∀ r, r < 55 → zkind r ≤ 8 := by decide +kernel
theorem z_inTT (ci : Nat) (h : ci < 7) : ∀ w ∈ u_ws (zRn ci) (zTn ci) (zNf ci), w ∈ zT := fun w hw => z_T (z_inT ci h w hw) (z_inT' ci h w hw)
theorem z_fs (q : Nat × Nat × Nat × Nat) (h : q ∈ zFs) : q.2.2.1 < 7 ∧ q.2.2.2 < zNf q.2.2.1 ∧ Cond.fieldLink (zRn q.1) q.2.1 (zTn q.2.2.1 q.2.2.2).1 (zTn q.2.2.1 q.2.2.2).2.1 (zTn q.2.2.1 q.2.2.2).2.2.1 ∈ zT := ⟨(z_fs0 q h).1, (z_fs0 q h).2.1, z_T (List.mem_of_getElem? (z_fs0 q h).2.2) rfl⟩
