section ZV2
variable {y : Nat} {dom : Nat → Bool} {Q : Int → zS → Prop} {pc : Nat} {lv : List (Option zW)} {st : List zW} {σ : zS}
def zjc (cd : Nat) : Jvm.ClassFile.Cond := if cd = 0 then .eq else if cd = 1 then .ne else if cd = 2 then .lt else if cd = 3 then .ge else if cd = 4 then .gt else .le
theorem zV_icmp {cd t : Nat} {o a b : Int} (h : decode (zB y) pc = .ok (.if_icmp (if cd = 0 then .eq else if cd = 1 then .ne else if cd = 2 then .lt else if cd = 3 then .ge else if cd = 4 then .gt else .le) o, 3)) (ht : (pc : Int) + o = (t : Int)) (ha : zr a) (hb : zr b) (k1 : zcd cd a b → zV y dom Q t lv st σ) (k2 : ¬ zcd cd a b → zV y dom Q (pc + 3) lv st σ) : zV y dom Q pc lv (.inl b :: .inl a :: st) σ := by
  intro p l e s m args below meth c D ad cI cZ A QQ hC hR H locs ls hP hD hS hl
  have k1 := fun z => k1 z p l e s m args below meth c D ad cI cZ A QQ hC hR H locs ls hP hD hS hl
  have k2 := fun z => k2 z p l e s m args below meth c D ad cI cZ A QQ hC hR H locs ls hP hD hS hl
  rcases cd with _ | _ | _ | _ | _ | cd
  · exact lv_icmp_eq hC.1 hC.2.1 h ht (fun z => k1 ((zr_eq ha hb).mp z)) (fun z => k2 (fun w => z ((zr_eq ha hb).mpr w)))
  · exact lv_icmp_ne hC.1 hC.2.1 h ht (fun z => k1 (fun w => z ((zr_eq ha hb).mpr w))) (fun z => k2 (fun w => w ((zr_eq ha hb).mp z)))
  · exact lv_icmp_lt hC.1 hC.2.1 h ht (fun z => k1 ((zr_lt ha hb).mp z)) (fun z => k2 (fun w => z ((zr_lt ha hb).mpr w)))
  · exact lv_icmp_ge hC.1 hC.2.1 h ht (fun z => k1 ((zr_le hb ha).mp z)) (fun z => k2 (fun w => z ((zr_le hb ha).mpr w)))
  · exact lv_icmp_gt hC.1 hC.2.1 h ht (fun z => k1 ((zr_lt hb ha).mp z)) (fun z => k2 (fun w => z ((zr_lt hb ha).mpr w)))
  · exact lv_icmp_le hC.1 hC.2.1 h ht (fun z => k1 ((zr_le ha hb).mp z)) (fun z => k2 (fun w => z ((zr_le ha hb).mpr w)))
theorem z_0 : Int32.ofInt 0 = 0 := rfl
theorem zV_if {cd t : Nat} {o a : Int} (h : decode (zB y) pc = .ok (.ifCond (if cd = 0 then .eq else if cd = 1 then .ne else if cd = 2 then .lt else if cd = 3 then .ge else if cd = 4 then .gt else .le) o, 3)) (ht : (pc : Int) + o = (t : Int)) (ha : zr a) (k1 : zcd cd a 0 → zV y dom Q t lv st σ) (k2 : ¬ zcd cd a 0 → zV y dom Q (pc + 3) lv st σ) : zV y dom Q pc lv (.inl a :: st) σ := by
  intro p l e s m args below meth c D ad cI cZ A QQ hC hR H locs ls hP hD hS hl
  have k1 := fun z => k1 z p l e s m args below meth c D ad cI cZ A QQ hC hR H locs ls hP hD hS hl
  have k2 := fun z => k2 z p l e s m args below meth c D ad cI cZ A QQ hC hR H locs ls hP hD hS hl
  have hb := zr_0
  rcases cd with _ | _ | _ | _ | _ | cd
  · exact lv_if_eq hC.1 hC.2.1 h ht (fun z => k1 ((zr_eq ha hb).mp z)) (fun z => k2 (fun w => z ((zr_eq ha hb).mpr w)))
  · exact lv_if_ne hC.1 hC.2.1 h ht (fun z => k1 (fun w => z ((zr_eq ha hb).mpr w))) (fun z => k2 (fun w => w ((zr_eq ha hb).mp z)))
  · exact lv_if_lt hC.1 hC.2.1 h ht (fun z => k1 ((zr_lt ha hb).mp z)) (fun z => k2 (fun w => z ((zr_lt ha hb).mpr w)))
  · exact lv_if_ge hC.1 hC.2.1 h ht (fun z => k1 ((zr_le hb ha).mp z)) (fun z => k2 (fun w => z ((zr_le hb ha).mpr w)))
  · exact lv_if_gt hC.1 hC.2.1 h ht (fun z => k1 ((zr_lt hb ha).mp z)) (fun z => k2 (fun w => z ((zr_lt hb ha).mpr w)))
  · exact lv_if_le hC.1 hC.2.1 h ht (fun z => k1 ((zr_le ha hb).mp z)) (fun z => k2 (fun w => z ((zr_le ha hb).mpr w)))
theorem zV_iaload {i : Int} {r : Nat} (h : decode (zB y) pc = .ok (.iaload, 1)) (ha : zac dom r 0) (h0 : 0 ≤ i) (h1 : i < zlen r) (k : zV y dom Q (pc + 1) lv (.inl (σ r i) :: st) σ) : zV y dom Q pc lv (.inl i :: .inr r :: st) σ := by
  intro p l e s m args below meth c D ad cI cZ A QQ hC hR H locs ls hP hD hS hl
  have k := k p l e s m args below meth c D ad cI cZ A QQ hC hR H locs ls hP hD hS hl
  obtain ⟨hr, hd, hk⟩ := ha
  obtain ⟨q, hq, -⟩ := zwd_at (ad := ad) (cI := cI) (cZ := cZ) (σ := σ) hr hd
  have hn := z_len r hr
  have he : zcell ad cI cZ σ r = .inl (cI, zlen r, .inl (fun j : Nat => Int32.ofInt (σ r (j : Int)))) := by simp only [zcell, hk, if_true]
  rw [he] at hq
  refine va_iald hC.1 hC.2.1 hC.2.2.2.2.2.1 hP q 0 hq rfl (z_in h0 h1 (by omega)) h ?_
  have e : (((Int32.ofInt i).toNatClampNeg : Nat) : Int) = i := by rw [z_tn h0 (by omega)]; omega
  rw [e]
  exact k
theorem zV_baload {i : Int} {r : Nat} (h : decode (zB y) pc = .ok (.baload, 1)) (ha : zac dom r 1) (h0 : 0 ≤ i) (h1 : i < zlen r) (k : zV y dom Q (pc + 1) lv (.inl (σ r i) :: st) σ) : zV y dom Q pc lv (.inl i :: .inr r :: st) σ := by
  intro p l e s m args below meth c D ad cI cZ A QQ hC hR H locs ls hP hD hS hl
  have k := k p l e s m args below meth c D ad cI cZ A QQ hC hR H locs ls hP hD hS hl
  obtain ⟨hr, hd, hk⟩ := ha
  obtain ⟨q, hq, -⟩ := zwd_at (ad := ad) (cI := cI) (cZ := cZ) (σ := σ) hr hd
  have hn := z_len r hr
  have he : zcell ad cI cZ σ r = .inl (cZ, zlen r, .inl (fun j : Nat => Int32.ofInt (σ r (j : Int)))) := by simp [zcell, hk]
  rw [he] at hq
  refine va_zald hC.1 hC.2.1 hC.2.2.2.2.2.1 hP q 1 hq rfl (z_in h0 h1 (by omega)) h ?_
  have e : (((Int32.ofInt i).toNatClampNeg : Nat) : Int) = i := by rw [z_tn h0 (by omega)]; omega
  rw [e]
  exact k
theorem zV_iastore {x i : Int} {r : Nat} (h : decode (zB y) pc = .ok (.iastore, 1)) (ha : zac dom r 0) (h0 : 0 ≤ i) (h1 : i < zlen r) (k : zV y dom Q (pc + 1) lv st (zwr σ r i x)) : zV y dom Q pc lv (.inl x :: .inl i :: .inr r :: st) σ := by
  intro p l e s m args below meth c D ad cI cZ A QQ hC hR H locs ls hP hD hS hl
  obtain ⟨hr, hd, hk⟩ := ha
  obtain ⟨q, hq, hset⟩ := zwd_at (ad := ad) (cI := cI) (cZ := cZ) (σ := σ) hr hd
  have hn := z_len r hr
  have he : ∀ σ : zS, zcell ad cI cZ σ r = .inl (cI, zlen r, .inl (fun j : Nat => Int32.ofInt (σ r (j : Int)))) := by intro σ; simp only [zcell, hk, if_true]
  have hs := hset (zwr σ r i x) zwr_ne
  rw [he] at hq hs
  refine va_iast hC.1 hC.2.1 hC.2.2.2.2.2.1 hP hD hS q 0 hq rfl (z_in h0 h1 (by omega)) h (fun H1 locs1 hP1 hD1 hS1 => ?_)
  rw [z_upd h0 (by omega), hs] at hP1 hD1
  exact k p l e s m args below meth c D ad cI cZ A QQ hC hR H1 locs1 ls hP1 hD1 hS1 hl
theorem z_narb {x : Int} (h : x = 0 ∨ x = 1) : vp_nar .boolean (Int32.ofInt x) = Int32.ofInt x := by
  rcases h with rfl | rfl <;> decide +kernel
theorem zV_bastore {x i : Int} {r : Nat} (h : decode (zB y) pc = .ok (.bastore, 1)) (ha : zac dom r 1) (h0 : 0 ≤ i) (h1 : i < zlen r) (hx : x = 0 ∨ x = 1) (k : zV y dom Q (pc + 1) lv st (zwr σ r i x)) : zV y dom Q pc lv (.inl x :: .inl i :: .inr r :: st) σ := by
  intro p l e s m args below meth c D ad cI cZ A QQ hC hR H locs ls hP hD hS hl
  obtain ⟨hr, hd, hk⟩ := ha
  obtain ⟨q, hq, hset⟩ := zwd_at (ad := ad) (cI := cI) (cZ := cZ) (σ := σ) hr hd
  have hn := z_len r hr
  have he : ∀ σ : zS, zcell ad cI cZ σ r = .inl (cZ, zlen r, .inl (fun j : Nat => Int32.ofInt (σ r (j : Int)))) := by intro σ; simp [zcell, hk]
  have hs := hset (zwr σ r i x) zwr_ne
  rw [he] at hq hs
  refine va_zast hC.1 hC.2.1 hC.2.2.2.2.2.1 hP hD hS q 1 hq rfl (z_in h0 h1 (by omega)) h (fun H1 locs1 hP1 hD1 hS1 => ?_)
  rw [z_narb hx, z_upd h0 (by omega), hs] at hP1 hD1
  exact k p l e s m args below meth c D ad cI cZ A QQ hC hR H1 locs1 ls hP1 hD1 hS1 hl
theorem zV_alen {r : Nat} (h : decode (zB y) pc = .ok (.arraylength, 1)) (ha : zac dom r 0) (k : zV y dom Q (pc + 1) lv (.inl (zlen r : Int) :: st) σ) : zV y dom Q pc lv (.inr r :: st) σ := by
  intro p l e s m args below meth c D ad cI cZ A QQ hC hR H locs ls hP hD hS hl
  have k := k p l e s m args below meth c D ad cI cZ A QQ hC hR H locs ls hP hD hS hl
  obtain ⟨hr, hd, hk⟩ := ha
  obtain ⟨q, hq, -⟩ := zwd_at (ad := ad) (cI := cI) (cZ := cZ) (σ := σ) hr hd
  have he : zcell ad cI cZ σ r = .inl (cI, zlen r, .inl (fun j : Nat => Int32.ofInt (σ r (j : Int)))) := by simp only [zcell, hk, if_true]
  rw [he] at hq
  exact va_alen hC.1 hC.2.1 hC.2.2.2.2.2.1 hP q 0 hq (ty := .int) rfl (v := Int32.ofInt (zlen r : Int)) (Int32.ofInt_eq_ofNat.symm) h k
/-! fields -/
theorem zV_get {ci j idx r : Nat} (h : decode (zB y) pc = .ok (.getfield idx, 3)) (hf : (zO y, idx, ci, j) ∈ zFs) (ha : zac dom r (ci + 2)) (k : zV y dom Q (pc + 3) lv (zfv σ r j :: st) σ) : zV y dom Q pc lv (.inr r :: st) σ := by
  intro p l e s m args below meth c D ad cI cZ A QQ hC hR H locs ls hP hD hS hl
  have k := k p l e s m args below meth c D ad cI cZ A QQ hC hR H locs ls hP hD hS hl
  obtain ⟨hr, hd, hk⟩ := ha
  obtain ⟨q, hq, -⟩ := zwd_at (ad := ad) (cI := cI) (cZ := cZ) (σ := σ) hr hd
  obtain ⟨hci, hj, hlk⟩ := z_fs _ hf
  have hn := z_nf r hr (by omega)
  rw [hk, Nat.add_sub_cancel] at hn
  have he : zcell ad cI cZ σ r = .inr (ci, (List.range (zNf ci)).map (zfld ad σ r)) := by
    simp only [zcell, hk, hn, Nat.add_sub_cancel]
    rw [if_neg (by omega), if_neg (by omega)]
  rw [he] at hq
  refine va_get hC.1 hC.2.1 hC.2.2.2.2.1 (z_inTT ci hci) hC.2.2.2.1 hC.2.2.2.2.2.1 hP q hq (z_cl ci hci) j hj (hC.2.2.2.2.1 _ hlk) (fun _ h9 => h9) (v := zc ad (zfv σ r j)) ?_ h k
  dsimp only at hj
  rw [List.getElem?_map, List.getElem?_range hj]
  simp only [Option.map_some, zfld, zfv]
  cases zref r j <;> rfl
theorem z_nar {ci j : Nat} {x : Int} (ht : zTy ci j = .int ∨ zTy ci j = .boolean) (hx : zfb ci j x) : narrow (zTy ci j) (.int (Int32.ofInt x)) = .int (Int32.ofInt x) ∧ fits (zTy ci j) (.int (Int32.ofInt x)) = true := by
  rcases ht with ht | ht
  · rw [ht]; exact ⟨rfl, rfl⟩
  · rw [ht]
    rcases hx (by simp [zbf, ht]) with rfl | rfl
    · exact ⟨by decide +kernel, by decide +kernel⟩
    · exact ⟨by decide +kernel, by decide +kernel⟩
theorem zV_put {ci j idx r : Nat} {x : Int} (h : decode (zB y) pc = .ok (.putfield idx, 3)) (hf : (zO y, idx, ci, j) ∈ zFs) (hfin : (zTn ci j).2.2.2 = false) (ha : zac dom r (ci + 2)) (hz : zref r j = none) (hx : zfb ci j x) (k : zV y dom Q (pc + 3) lv st (zwr σ r (j : Int) x)) : zV y dom Q pc lv (.inl x :: .inr r :: st) σ := by
  intro p l e s m args below meth c D ad cI cZ A QQ hC hR H locs ls hP hD hS hl
  obtain ⟨hr, hd, hk⟩ := ha
  obtain ⟨q, hq, hset⟩ := zwd_at (ad := ad) (cI := cI) (cZ := cZ) (σ := σ) hr hd
  obtain ⟨hci, hj, hlk⟩ := z_fs _ hf
  dsimp only at hci hj hlk
  have hn := z_nf r hr (by omega)
  have hrt := z_rt r hr (by omega) j
  rw [hk, Nat.add_sub_cancel] at hn hrt
  have hnar := z_nar (hrt (by omega) hz) hx
  have he : ∀ σ : zS, zcell ad cI cZ σ r = .inr (ci, (List.range (zNf ci)).map (zfld ad σ r)) := by
    intro σ
    simp only [zcell, hk, hn, Nat.add_sub_cancel]
    rw [if_neg (by omega), if_neg (by omega)]
  have hs := hset (zwr σ r (j : Int) x) zwr_ne
  rw [he] at hq hs
  have hu : ((List.range (zNf ci)).map (zfld ad σ r)).set j (zc ad (.inl x)) = (List.range (zNf ci)).map (zfld ad (zwr σ r (j : Int) x) r) := by
    apply List.ext_getElem?
    intro i
    by_cases hi : i = j
    · subst hi
      rw [List.getElem?_set_self (by simpa using hj), List.getElem?_map, List.getElem?_range hj]
      simp [zfld, hz, zwr, zc]
    · rw [List.getElem?_set_ne (Ne.symm hi), List.getElem?_map, List.getElem?_map]
      by_cases hin : i < zNf ci
      · rw [List.getElem?_range hin]
        have hij : ¬ ((i : Int) = (j : Int)) := by omega
        simp [zfld, zwr, hij]
      · rw [List.getElem?_eq_none (by simpa using hin)]
        rfl
  refine va_put hC.1 hC.2.1 hC.2.2.2.2.1 (z_inTT ci hci) (zTy ci) (z_ty ci hci) (z_nm ci hci) hC.2.2.2.1 hC.2.2.2.2.2.1 hP hD hS q hq (z_cl ci hci) j hj (hC.2.2.2.2.1 _ hlk) (fun _ h9 => h9) hfin (z_ty ci hci j hj) hnar.1 hnar.2 (by simpa using hj) h (fun H1 locs1 hP1 hD1 hS1 => ?_)
  rw [hu, hs] at hP1 hD1
  exact k p l e s m args below meth c D ad cI cZ A QQ hC hR H1 locs1 ls hP1 hD1 hS1 hl
end ZV2
