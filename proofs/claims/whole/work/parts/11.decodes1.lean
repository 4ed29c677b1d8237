theorem zdw_0 : ∀ pc, pc < 97 → zD 0 pc = true := by decide +kernel
theorem zbw_0 (pc : Nat) (h : 97 ≤ pc) : zC 0 pc = (0, 0, 0, 0) := by
  show zc_0 pc = _
  unfold zc_0
  repeat rw [if_neg (by omega)]
theorem znw_0 : ∀ pc, pc < 97 → ¬ (zC 0 pc).1 = 30 ∧ ¬ (zC 0 pc).1 = 32 := by decide +kernel
theorem zok_0 : zOK 0 := zok_of (by decide) zdw_0 zbw_0 znw_0
theorem zdw_1 : ∀ pc, pc < 174 → zD 1 pc = true := by decide +kernel
theorem zbw_1 (pc : Nat) (h : 174 ≤ pc) : zC 1 pc = (0, 0, 0, 0) := by
  show zc_1 pc = _
  unfold zc_1
  repeat rw [if_neg (by omega)]
theorem zds_1 : decode (zB 1) 80 = .ok (.lookupswitch 75 #[(1, 28), (2, 38)], 28) := by decide +kernel
theorem zsr_1 : zSwS 1 80 0 := by
  intro dom Q lv st σ x hx h p l e s m args below meth c D ad cI cZ A QQ hC hR H locs ls hP hD hS hl
  have h : zswp zsw_0.1 zsw_0.2 x (fun t => zV 1 dom Q t lv st σ) := h
  simp only [zsw_0, zswp] at h
  by_cases h0 : x = 1
  · have k := h.1 h0 p l e s m args below meth c D ad cI cZ A QQ hC hR H locs ls hP hD hS hl
    subst h0
    exact lv_lookup (tgt := 108) hC.1 hC.2.1 zds_1 (by decide) rfl (by decide) k
  by_cases h1 : x = 2
  · have k := (h.2 h0).1 h1 p l e s m args below meth c D ad cI cZ A QQ hC hR H locs ls hP hD hS hl
    subst h1
    exact lv_lookup (tgt := 118) hC.1 hC.2.1 zds_1 (by decide) rfl (by decide) k
  have k := ((h.2 h0).2 h1) p l e s m args below meth c D ad cI cZ A QQ hC hR H locs ls hP hD hS hl
  exact lv_lookup (off := 75) (tgt := 155) hC.1 hC.2.1 zds_1 (by decide) (by rw [Op.lookupswitch.offset_cons, if_neg (by rw [zr_toInt hx]; omega)]; rw [Op.lookupswitch.offset_cons, if_neg (by rw [zr_toInt hx]; omega)]; rfl) (by decide) k
theorem znw_1 : ∀ pc, pc < 174 → ((zC 1 pc).1 = 30 ∨ (zC 1 pc).1 = 32) → pc = 80 := by decide +kernel
theorem zok_1 : zOK 1 := zok_sw (by decide) zdw_1 zbw_1 znw_1 (k := 0) rfl zsr_1
theorem zdw_2 : ∀ pc, pc < 45 → zD 2 pc = true := by decide +kernel
theorem zbw_2 (pc : Nat) (h : 45 ≤ pc) : zC 2 pc = (0, 0, 0, 0) := by
  show zc_2 pc = _
  unfold zc_2
  repeat rw [if_neg (by omega)]
theorem znw_2 : ∀ pc, pc < 45 → ¬ (zC 2 pc).1 = 30 ∧ ¬ (zC 2 pc).1 = 32 := by decide +kernel
theorem zok_2 : zOK 2 := zok_of (by decide) zdw_2 zbw_2 znw_2
theorem zdw_3 : ∀ pc, pc < 129 → zD 3 pc = true := by decide +kernel
theorem zbw_3 (pc : Nat) (h : 129 ≤ pc) : zC 3 pc = (0, 0, 0, 0) := by
  show zc_3 pc = _
  unfold zc_3
  repeat rw [if_neg (by omega)]
theorem znw_3 : ∀ pc, pc < 129 → ¬ (zC 3 pc).1 = 30 ∧ ¬ (zC 3 pc).1 = 32 := by decide +kernel
theorem zok_3 : zOK 3 := zok_of (by decide) zdw_3 zbw_3 znw_3
theorem zdw_4 : ∀ pc, pc < 45 → zD 4 pc = true := by decide +kernel
theorem zbw_4 (pc : Nat) (h : 45 ≤ pc) : zC 4 pc = (0, 0, 0, 0) := by
  show zc_4 pc = _
  unfold zc_4
  repeat rw [if_neg (by omega)]
theorem znw_4 : ∀ pc, pc < 45 → ¬ (zC 4 pc).1 = 30 ∧ ¬ (zC 4 pc).1 = 32 := by decide +kernel
theorem zok_4 : zOK 4 := zok_of (by decide) zdw_4 zbw_4 znw_4
theorem zdw_5 : ∀ pc, pc < 86 → zD 5 pc = true := by decide +kernel
theorem zbw_5 (pc : Nat) (h : 86 ≤ pc) : zC 5 pc = (0, 0, 0, 0) := by
  show zc_5 pc = _
  unfold zc_5
  repeat rw [if_neg (by omega)]
theorem znw_5 : ∀ pc, pc < 86 → ¬ (zC 5 pc).1 = 30 ∧ ¬ (zC 5 pc).1 = 32 := by decide +kernel
theorem zok_5 : zOK 5 := zok_of (by decide) zdw_5 zbw_5 znw_5
theorem zdw_6 : ∀ pc, pc < 37 → zD 6 pc = true := by decide +kernel
theorem zbw_6 (pc : Nat) (h : 37 ≤ pc) : zC 6 pc = (0, 0, 0, 0) := by
  show zc_6 pc = _
  unfold zc_6
  repeat rw [if_neg (by omega)]
theorem znw_6 : ∀ pc, pc < 37 → ¬ (zC 6 pc).1 = 30 ∧ ¬ (zC 6 pc).1 = 32 := by decide +kernel
theorem zok_6 : zOK 6 := zok_of (by decide) zdw_6 zbw_6 znw_6
theorem zdw_7 : ∀ pc, pc < 80 → zD 7 pc = true := by decide +kernel
theorem zbw_7 (pc : Nat) (h : 80 ≤ pc) : zC 7 pc = (0, 0, 0, 0) := by
  show zc_7 pc = _
  unfold zc_7
  repeat rw [if_neg (by omega)]
theorem znw_7 : ∀ pc, pc < 80 → ¬ (zC 7 pc).1 = 30 ∧ ¬ (zC 7 pc).1 = 32 := by decide +kernel
theorem zok_7 : zOK 7 := zok_of (by decide) zdw_7 zbw_7 znw_7
theorem zdw_8 : ∀ pc, pc < 83 → zD 8 pc = true := by decide +kernel
theorem zbw_8 (pc : Nat) (h : 83 ≤ pc) : zC 8 pc = (0, 0, 0, 0) := by
  show zc_8 pc = _
  unfold zc_8
  repeat rw [if_neg (by omega)]
theorem znw_8 : ∀ pc, pc < 83 → ¬ (zC 8 pc).1 = 30 ∧ ¬ (zC 8 pc).1 = 32 := by decide +kernel
theorem zok_8 : zOK 8 := zok_of (by decide) zdw_8 zbw_8 znw_8
theorem zdw_9 : ∀ pc, pc < 160 → zD 9 pc = true := by decide +kernel
theorem zbw_9 (pc : Nat) (h : 160 ≤ pc) : zC 9 pc = (0, 0, 0, 0) := by
  show zc_9 pc = _
  unfold zc_9
  repeat rw [if_neg (by omega)]
theorem zds_9 : decode (zB 9) 47 = .ok (.tableswitch 111 1 4 #[29, 49, 66, 83], 29) := by decide +kernel
theorem zsr_9 : zSwS 9 47 1 := by
  intro dom Q lv st σ x hx h p l e s m args below meth c D ad cI cZ A QQ hC hR H locs ls hP hD hS hl
  have h : zswp zsw_1.1 zsw_1.2 x (fun t => zV 9 dom Q t lv st σ) := h
  simp only [zsw_1, zswp] at h
  by_cases h0 : x = 1
  · have k := h.1 h0 p l e s m args below meth c D ad cI cZ A QQ hC hR H locs ls hP hD hS hl
    subst h0
    exact lv_tableIn (tgt := 76) hC.1 hC.2.1 zds_9 (by decide) (by decide) rfl (by decide) k
  by_cases h1 : x = 2
  · have k := (h.2 h0).1 h1 p l e s m args below meth c D ad cI cZ A QQ hC hR H locs ls hP hD hS hl
    subst h1
    exact lv_tableIn (tgt := 96) hC.1 hC.2.1 zds_9 (by decide) (by decide) rfl (by decide) k
  by_cases h2 : x = 3
  · have k := ((h.2 h0).2 h1).1 h2 p l e s m args below meth c D ad cI cZ A QQ hC hR H locs ls hP hD hS hl
    subst h2
    exact lv_tableIn (tgt := 113) hC.1 hC.2.1 zds_9 (by decide) (by decide) rfl (by decide) k
  by_cases h3 : x = 4
  · have k := (((h.2 h0).2 h1).2 h2).1 h3 p l e s m args below meth c D ad cI cZ A QQ hC hR H locs ls hP hD hS hl
    subst h3
    exact lv_tableIn (tgt := 130) hC.1 hC.2.1 zds_9 (by decide) (by decide) rfl (by decide) k
  have k := ((((h.2 h0).2 h1).2 h2).2 h3) p l e s m args below meth c D ad cI cZ A QQ hC hR H locs ls hP hD hS hl
  exact lv_tableOut (tgt := 158) hC.1 hC.2.1 zds_9 (by rw [zr_toInt hx]; omega) (by decide) k
theorem znw_9 : ∀ pc, pc < 160 → ((zC 9 pc).1 = 30 ∨ (zC 9 pc).1 = 32) → pc = 47 := by decide +kernel
theorem zok_9 : zOK 9 := zok_sw (by decide) zdw_9 zbw_9 znw_9 (k := 1) rfl zsr_9
theorem zdw_10 : ∀ pc, pc < 37 → zD 10 pc = true := by decide +kernel
theorem zbw_10 (pc : Nat) (h : 37 ≤ pc) : zC 10 pc = (0, 0, 0, 0) := by
  show zc_10 pc = _
  unfold zc_10
  repeat rw [if_neg (by omega)]
theorem znw_10 : ∀ pc, pc < 37 → ¬ (zC 10 pc).1 = 30 ∧ ¬ (zC 10 pc).1 = 32 := by decide +kernel
theorem zok_10 : zOK 10 := zok_of (by decide) zdw_10 zbw_10 znw_10
theorem zdw_11 : ∀ pc, pc < 46 → zD 11 pc = true := by decide +kernel
theorem zbw_11 (pc : Nat) (h : 46 ≤ pc) : zC 11 pc = (0, 0, 0, 0) := by
  show zc_11 pc = _
  unfold zc_11
  repeat rw [if_neg (by omega)]
theorem znw_11 : ∀ pc, pc < 46 → ¬ (zC 11 pc).1 = 30 ∧ ¬ (zC 11 pc).1 = 32 := by decide +kernel
theorem zok_11 : zOK 11 := zok_of (by decide) zdw_11 zbw_11 znw_11
theorem zdw_12 : ∀ pc, pc < 63 → zD 12 pc = true := by decide +kernel
theorem zbw_12 (pc : Nat) (h : 63 ≤ pc) : zC 12 pc = (0, 0, 0, 0) := by
  show zc_12 pc = _
  unfold zc_12
  repeat rw [if_neg (by omega)]
theorem znw_12 : ∀ pc, pc < 63 → ¬ (zC 12 pc).1 = 30 ∧ ¬ (zC 12 pc).1 = 32 := by decide +kernel
theorem zok_12 : zOK 12 := zok_of (by decide) zdw_12 zbw_12 znw_12
theorem zdw_13 : ∀ pc, pc < 22 → zD 13 pc = true := by decide +kernel
theorem zbw_13 (pc : Nat) (h : 22 ≤ pc) : zC 13 pc = (0, 0, 0, 0) := by
  show zc_13 pc = _
  unfold zc_13
  repeat rw [if_neg (by omega)]
theorem znw_13 : ∀ pc, pc < 22 → ¬ (zC 13 pc).1 = 30 ∧ ¬ (zC 13 pc).1 = 32 := by decide +kernel
theorem zok_13 : zOK 13 := zok_of (by decide) zdw_13 zbw_13 znw_13
theorem zdw_14 : ∀ pc, pc < 8 → zD 14 pc = true := by decide +kernel
theorem zbw_14 (pc : Nat) (h : 8 ≤ pc) : zC 14 pc = (0, 0, 0, 0) := by
  show zc_14 pc = _
  unfold zc_14
  repeat rw [if_neg (by omega)]
theorem znw_14 : ∀ pc, pc < 8 → ¬ (zC 14 pc).1 = 30 ∧ ¬ (zC 14 pc).1 = 32 := by decide +kernel
theorem zok_14 : zOK 14 := zok_of (by decide) zdw_14 zbw_14 znw_14
theorem zdw_15 : ∀ pc, pc < 20 → zD 15 pc = true := by decide +kernel
theorem zbw_15 (pc : Nat) (h : 20 ≤ pc) : zC 15 pc = (0, 0, 0, 0) := by
  show zc_15 pc = _
  unfold zc_15
  repeat rw [if_neg (by omega)]
theorem znw_15 : ∀ pc, pc < 20 → ¬ (zC 15 pc).1 = 30 ∧ ¬ (zC 15 pc).1 = 32 := by decide +kernel
theorem zok_15 : zOK 15 := zok_of (by decide) zdw_15 zbw_15 znw_15
theorem zdw_16 : ∀ pc, pc < 43 → zD 16 pc = true := by decide +kernel
theorem zbw_16 (pc : Nat) (h : 43 ≤ pc) : zC 16 pc = (0, 0, 0, 0) := by
  show zc_16 pc = _
  unfold zc_16
  repeat rw [if_neg (by omega)]
theorem znw_16 : ∀ pc, pc < 43 → ¬ (zC 16 pc).1 = 30 ∧ ¬ (zC 16 pc).1 = 32 := by decide +kernel
theorem zok_16 : zOK 16 := zok_of (by decide) zdw_16 zbw_16 znw_16
theorem zdw_17 : ∀ pc, pc < 12 → zD 17 pc = true := by decide +kernel
theorem zbw_17 (pc : Nat) (h : 12 ≤ pc) : zC 17 pc = (0, 0, 0, 0) := by
  show zc_17 pc = _
  unfold zc_17
  repeat rw [if_neg (by omega)]
theorem znw_17 : ∀ pc, pc < 12 → ¬ (zC 17 pc).1 = 30 ∧ ¬ (zC 17 pc).1 = 32 := by decide +kernel
theorem zok_17 : zOK 17 := zok_of (by decide) zdw_17 zbw_17 znw_17
theorem zdw_18 : ∀ pc, pc < 17 → zD 18 pc = true := by decide +kernel
theorem zbw_18 (pc : Nat) (h : 17 ≤ pc) : zC 18 pc = (0, 0, 0, 0) := by
  show zc_18 pc = _
  unfold zc_18
  repeat rw [if_neg (by omega)]
theorem znw_18 : ∀ pc, pc < 17 → ¬ (zC 18 pc).1 = 30 ∧ ¬ (zC 18 pc).1 = 32 := by decide +kernel
theorem zok_18 : zOK 18 := zok_of (by decide) zdw_18 zbw_18 znw_18
theorem zdw_19 : ∀ pc, pc < 144 → zD 19 pc = true := by decide +kernel
theorem zbw_19 (pc : Nat) (h : 144 ≤ pc) : zC 19 pc = (0, 0, 0, 0) := by
  show zc_19 pc = _
  unfold zc_19
  repeat rw [if_neg (by omega)]
theorem znw_19 : ∀ pc, pc < 144 → ¬ (zC 19 pc).1 = 30 ∧ ¬ (zC 19 pc).1 = 32 := by decide +kernel
theorem zok_19 : zOK 19 := zok_of (by decide) zdw_19 zbw_19 znw_19
theorem zdw_20 : ∀ pc, pc < 39 → zD 20 pc = true := by decide +kernel
theorem zbw_20 (pc : Nat) (h : 39 ≤ pc) : zC 20 pc = (0, 0, 0, 0) := by
  show zc_20 pc = _
  unfold zc_20
  repeat rw [if_neg (by omega)]
theorem znw_20 : ∀ pc, pc < 39 → ¬ (zC 20 pc).1 = 30 ∧ ¬ (zC 20 pc).1 = 32 := by decide +kernel
theorem zok_20 : zOK 20 := zok_of (by decide) zdw_20 zbw_20 znw_20
theorem zdw_21 : ∀ pc, pc < 130 → zD 21 pc = true := by decide +kernel
theorem zbw_21 (pc : Nat) (h : 130 ≤ pc) : zC 21 pc = (0, 0, 0, 0) := by
  show zc_21 pc = _
  unfold zc_21
  repeat rw [if_neg (by omega)]
theorem znw_21 : ∀ pc, pc < 130 → ¬ (zC 21 pc).1 = 30 ∧ ¬ (zC 21 pc).1 = 32 := by decide +kernel
theorem zok_21 : zOK 21 := zok_of (by decide) zdw_21 zbw_21 znw_21
theorem zdw_22 : ∀ pc, pc < 47 → zD 22 pc = true := by decide +kernel
theorem zbw_22 (pc : Nat) (h : 47 ≤ pc) : zC 22 pc = (0, 0, 0, 0) := by
  show zc_22 pc = _
  unfold zc_22
  repeat rw [if_neg (by omega)]
theorem znw_22 : ∀ pc, pc < 47 → ¬ (zC 22 pc).1 = 30 ∧ ¬ (zC 22 pc).1 = 32 := by decide +kernel
theorem zok_22 : zOK 22 := zok_of (by decide) zdw_22 zbw_22 znw_22
theorem zdw_23 : ∀ pc, pc < 71 → zD 23 pc = true := by decide +kernel
theorem zbw_23 (pc : Nat) (h : 71 ≤ pc) : zC 23 pc = (0, 0, 0, 0) := by
  show zc_23 pc = _
  unfold zc_23
  repeat rw [if_neg (by omega)]
theorem znw_23 : ∀ pc, pc < 71 → ¬ (zC 23 pc).1 = 30 ∧ ¬ (zC 23 pc).1 = 32 := by decide +kernel
theorem zok_23 : zOK 23 := zok_of (by decide) zdw_23 zbw_23 znw_23
theorem zdw_24 : ∀ pc, pc < 45 → zD 24 pc = true := by decide +kernel
theorem zbw_24 (pc : Nat) (h : 45 ≤ pc) : zC 24 pc = (0, 0, 0, 0) := by
  show zc_24 pc = _
  unfold zc_24
  repeat rw [if_neg (by omega)]
theorem znw_24 : ∀ pc, pc < 45 → ¬ (zC 24 pc).1 = 30 ∧ ¬ (zC 24 pc).1 = 32 := by decide +kernel
theorem zok_24 : zOK 24 := zok_of (by decide) zdw_24 zbw_24 znw_24
theorem zdw_25 : ∀ pc, pc < 181 → zD 25 pc = true := by decide +kernel
theorem zbw_25 (pc : Nat) (h : 181 ≤ pc) : zC 25 pc = (0, 0, 0, 0) := by
  show zc_25 pc = _
  unfold zc_25
  repeat rw [if_neg (by omega)]
theorem znw_25 : ∀ pc, pc < 181 → ¬ (zC 25 pc).1 = 30 ∧ ¬ (zC 25 pc).1 = 32 := by decide +kernel
theorem zok_25 : zOK 25 := zok_of (by decide) zdw_25 zbw_25 znw_25
theorem zdw_26 : ∀ pc, pc < 47 → zD 26 pc = true := by decide +kernel
theorem zbw_26 (pc : Nat) (h : 47 ≤ pc) : zC 26 pc = (0, 0, 0, 0) := by
  show zc_26 pc = _
  unfold zc_26
  repeat rw [if_neg (by omega)]
theorem znw_26 : ∀ pc, pc < 47 → ¬ (zC 26 pc).1 = 30 ∧ ¬ (zC 26 pc).1 = 32 := by decide +kernel
theorem zok_26 : zOK 26 := zok_of (by decide) zdw_26 zbw_26 znw_26
theorem zdw_27 : ∀ pc, pc < 44 → zD 27 pc = true := by decide +kernel
theorem zbw_27 (pc : Nat) (h : 44 ≤ pc) : zC 27 pc = (0, 0, 0, 0) := by
  show zc_27 pc = _
  unfold zc_27
  repeat rw [if_neg (by omega)]
theorem znw_27 : ∀ pc, pc < 44 → ¬ (zC 27 pc).1 = 30 ∧ ¬ (zC 27 pc).1 = 32 := by decide +kernel
theorem zok_27 : zOK 27 := zok_of (by decide) zdw_27 zbw_27 znw_27
theorem zdw_28 : ∀ pc, pc < 40 → zD 28 pc = true := by decide +kernel
theorem zbw_28 (pc : Nat) (h : 40 ≤ pc) : zC 28 pc = (0, 0, 0, 0) := by
  show zc_28 pc = _
  unfold zc_28
  repeat rw [if_neg (by omega)]
theorem znw_28 : ∀ pc, pc < 40 → ¬ (zC 28 pc).1 = 30 ∧ ¬ (zC 28 pc).1 = 32 := by decide +kernel
theorem zok_28 : zOK 28 := zok_of (by decide) zdw_28 zbw_28 znw_28
theorem zdw_29 : ∀ pc, pc < 44 → zD 29 pc = true := by decide +kernel
theorem zbw_29 (pc : Nat) (h : 44 ≤ pc) : zC 29 pc = (0, 0, 0, 0) := by
  show zc_29 pc = _
  unfold zc_29
  repeat rw [if_neg (by omega)]
theorem znw_29 : ∀ pc, pc < 44 → ¬ (zC 29 pc).1 = 30 ∧ ¬ (zC 29 pc).1 = 32 := by decide +kernel
theorem zok_29 : zOK 29 := zok_of (by decide) zdw_29 zbw_29 znw_29
theorem zdw_30 : ∀ pc, pc < 43 → zD 30 pc = true := by decide +kernel
theorem zbw_30 (pc : Nat) (h : 43 ≤ pc) : zC 30 pc = (0, 0, 0, 0) := by
  show zc_30 pc = _
  unfold zc_30
  repeat rw [if_neg (by omega)]
theorem znw_30 : ∀ pc, pc < 43 → ¬ (zC 30 pc).1 = 30 ∧ ¬ (zC 30 pc).1 = 32 := by decide +kernel
theorem zok_30 : zOK 30 := zok_of (by decide) zdw_30 zbw_30 znw_30
theorem zdw_31 : ∀ pc, pc < 18 → zD 31 pc = true := by decide +kernel
theorem zbw_31 (pc : Nat) (h : 18 ≤ pc) : zC 31 pc = (0, 0, 0, 0) := by
  show zc_31 pc = _
  unfold zc_31
  repeat rw [if_neg (by omega)]
theorem znw_31 : ∀ pc, pc < 18 → ¬ (zC 31 pc).1 = 30 ∧ ¬ (zC 31 pc).1 = 32 := by decide +kernel
theorem zok_31 : zOK 31 := zok_of (by decide) zdw_31 zbw_31 znw_31
theorem zdw_32 : ∀ pc, pc < 57 → zD 32 pc = true := by decide +kernel
theorem zbw_32 (pc : Nat) (h : 57 ≤ pc) : zC 32 pc = (0, 0, 0, 0) := by
  show zc_32 pc = _
  unfold zc_32
  repeat rw [if_neg (by omega)]
theorem znw_32 : ∀ pc, pc < 57 → ¬ (zC 32 pc).1 = 30 ∧ ¬ (zC 32 pc).1 = 32 := by decide +kernel
theorem zok_32 : zOK 32 := zok_of (by decide) zdw_32 zbw_32 znw_32
theorem zdw_33 : ∀ pc, pc < 31 → zD 33 pc = true := by decide +kernel
theorem zbw_33 (pc : Nat) (h : 31 ≤ pc) : zC 33 pc = (0, 0, 0, 0) := by
  show zc_33 pc = _
  unfold zc_33
  repeat rw [if_neg (by omega)]
theorem znw_33 : ∀ pc, pc < 31 → ¬ (zC 33 pc).1 = 30 ∧ ¬ (zC 33 pc).1 = 32 := by decide +kernel
theorem zok_33 : zOK 33 := zok_of (by decide) zdw_33 zbw_33 znw_33
theorem zdw_34 : ∀ pc, pc < 12 → zD 34 pc = true := by decide +kernel
theorem zbw_34 (pc : Nat) (h : 12 ≤ pc) : zC 34 pc = (0, 0, 0, 0) := by
  show zc_34 pc = _
  unfold zc_34
  repeat rw [if_neg (by omega)]
theorem znw_34 : ∀ pc, pc < 12 → ¬ (zC 34 pc).1 = 30 ∧ ¬ (zC 34 pc).1 = 32 := by decide +kernel
theorem zok_34 : zOK 34 := zok_of (by decide) zdw_34 zbw_34 znw_34
theorem zdw_35 : ∀ pc, pc < 43 → zD 35 pc = true := by decide +kernel
theorem zbw_35 (pc : Nat) (h : 43 ≤ pc) : zC 35 pc = (0, 0, 0, 0) := by
  show zc_35 pc = _
  unfold zc_35
  repeat rw [if_neg (by omega)]
theorem znw_35 : ∀ pc, pc < 43 → ¬ (zC 35 pc).1 = 30 ∧ ¬ (zC 35 pc).1 = 32 := by decide +kernel
theorem zok_35 : zOK 35 := zok_of (by decide) zdw_35 zbw_35 znw_35
theorem zdw_36 : ∀ pc, pc < 18 → zD 36 pc = true := by decide +kernel
theorem zbw_36 (pc : Nat) (h : 18 ≤ pc) : zC 36 pc = (0, 0, 0, 0) := by
  show zc_36 pc = _
  unfold zc_36
  repeat rw [if_neg (by omega)]
theorem znw_36 : ∀ pc, pc < 18 → ¬ (zC 36 pc).1 = 30 ∧ ¬ (zC 36 pc).1 = 32 := by decide +kernel
theorem zok_36 : zOK 36 := zok_of (by decide) zdw_36 zbw_36 znw_36
theorem zdw_37 : ∀ pc, pc < 24 → zD 37 pc = true := by decide +kernel
theorem zbw_37 (pc : Nat) (h : 24 ≤ pc) : zC 37 pc = (0, 0, 0, 0) := by
  show zc_37 pc = _
  unfold zc_37
  repeat rw [if_neg (by omega)]
theorem znw_37 : ∀ pc, pc < 24 → ¬ (zC 37 pc).1 = 30 ∧ ¬ (zC 37 pc).1 = 32 := by decide +kernel
theorem zok_37 : zOK 37 := zok_of (by decide) zdw_37 zbw_37 znw_37
theorem zdw_38 : ∀ pc, pc < 24 → zD 38 pc = true := by decide +kernel
theorem zbw_38 (pc : Nat) (h : 24 ≤ pc) : zC 38 pc = (0, 0, 0, 0) := by
  show zc_38 pc = _
  unfold zc_38
  repeat rw [if_neg (by omega)]
theorem znw_38 : ∀ pc, pc < 24 → ¬ (zC 38 pc).1 = 30 ∧ ¬ (zC 38 pc).1 = 32 := by decide +kernel
theorem zok_38 : zOK 38 := zok_of (by decide) zdw_38 zbw_38 znw_38
