theorem zdw_39 : ∀ pc, pc < 91 → zD 39 pc = true := by decide +kernel
theorem zbw_39 (pc : Nat) (h : 91 ≤ pc) : zC 39 pc = (0, 0, 0, 0) := by
  show zc_39 pc = _
  unfold zc_39
  repeat rw [if_neg (by omega)]
theorem zds_39 : decode (zB 39) 1 = .ok (.lookupswitch 69 #[(0, 27), (4, 53)], 27) := by decide +kernel
theorem zsr_39 : zSwS 39 1 2 := by
  intro dom Q lv st σ x hx h p l e s m args below meth c D ad cI cZ A QQ hC hR H locs ls hP hD hS hl
  have h : zswp zsw_2.1 zsw_2.2 x (fun t => zV 39 dom Q t lv st σ) := h
  simp only [zsw_2, zswp] at h
  by_cases h0 : x = 0
  · have k := h.1 h0 p l e s m args below meth c D ad cI cZ A QQ hC hR H locs ls hP hD hS hl
    subst h0
    exact lv_lookup (tgt := 28) hC.1 hC.2.1 zds_39 (by decide) rfl (by decide) k
  by_cases h1 : x = 4
  · have k := (h.2 h0).1 h1 p l e s m args below meth c D ad cI cZ A QQ hC hR H locs ls hP hD hS hl
    subst h1
    exact lv_lookup (tgt := 54) hC.1 hC.2.1 zds_39 (by decide) rfl (by decide) k
  have k := ((h.2 h0).2 h1) p l e s m args below meth c D ad cI cZ A QQ hC hR H locs ls hP hD hS hl
  exact lv_lookup (off := 69) (tgt := 70) hC.1 hC.2.1 zds_39 (by decide) (by rw [Op.lookupswitch.offset_cons, if_neg (by rw [zr_toInt hx]; omega)]; rw [Op.lookupswitch.offset_cons, if_neg (by rw [zr_toInt hx]; omega)]; rfl) (by decide) k
theorem znw_39 : ∀ pc, pc < 91 → ((zC 39 pc).1 = 30 ∨ (zC 39 pc).1 = 32) → pc = 1 := by decide +kernel
theorem zok_39 : zOK 39 := zok_sw (by decide) zdw_39 zbw_39 znw_39 (k := 2) rfl zsr_39
theorem zdw_40 : ∀ pc, pc < 29 → zD 40 pc = true := by decide +kernel
theorem zbw_40 (pc : Nat) (h : 29 ≤ pc) : zC 40 pc = (0, 0, 0, 0) := by
  show zc_40 pc = _
  unfold zc_40
  repeat rw [if_neg (by omega)]
theorem znw_40 : ∀ pc, pc < 29 → ¬ (zC 40 pc).1 = 30 ∧ ¬ (zC 40 pc).1 = 32 := by decide +kernel
theorem zok_40 : zOK 40 := zok_of (by decide) zdw_40 zbw_40 znw_40
theorem zdw_41 : ∀ pc, pc < 21 → zD 41 pc = true := by decide +kernel
theorem zbw_41 (pc : Nat) (h : 21 ≤ pc) : zC 41 pc = (0, 0, 0, 0) := by
  show zc_41 pc = _
  unfold zc_41
  repeat rw [if_neg (by omega)]
theorem znw_41 : ∀ pc, pc < 21 → ¬ (zC 41 pc).1 = 30 ∧ ¬ (zC 41 pc).1 = 32 := by decide +kernel
theorem zok_41 : zOK 41 := zok_of (by decide) zdw_41 zbw_41 znw_41
theorem zdw_42 : ∀ pc, pc < 38 → zD 42 pc = true := by decide +kernel
theorem zbw_42 (pc : Nat) (h : 38 ≤ pc) : zC 42 pc = (0, 0, 0, 0) := by
  show zc_42 pc = _
  unfold zc_42
  repeat rw [if_neg (by omega)]
theorem znw_42 : ∀ pc, pc < 38 → ¬ (zC 42 pc).1 = 30 ∧ ¬ (zC 42 pc).1 = 32 := by decide +kernel
theorem zok_42 : zOK 42 := zok_of (by decide) zdw_42 zbw_42 znw_42
theorem zdw_43 : ∀ pc, pc < 11 → zD 43 pc = true := by decide +kernel
theorem zbw_43 (pc : Nat) (h : 11 ≤ pc) : zC 43 pc = (0, 0, 0, 0) := by
  show zc_43 pc = _
  unfold zc_43
  repeat rw [if_neg (by omega)]
theorem znw_43 : ∀ pc, pc < 11 → ¬ (zC 43 pc).1 = 30 ∧ ¬ (zC 43 pc).1 = 32 := by decide +kernel
theorem zok_43 : zOK 43 := zok_of (by decide) zdw_43 zbw_43 znw_43
theorem zdw_44 : ∀ pc, pc < 32 → zD 44 pc = true := by decide +kernel
theorem zbw_44 (pc : Nat) (h : 32 ≤ pc) : zC 44 pc = (0, 0, 0, 0) := by
  show zc_44 pc = _
  unfold zc_44
  repeat rw [if_neg (by omega)]
theorem znw_44 : ∀ pc, pc < 32 → ¬ (zC 44 pc).1 = 30 ∧ ¬ (zC 44 pc).1 = 32 := by decide +kernel
theorem zok_44 : zOK 44 := zok_of (by decide) zdw_44 zbw_44 znw_44
theorem zdw_45 : ∀ pc, pc < 20 → zD 45 pc = true := by decide +kernel
theorem zbw_45 (pc : Nat) (h : 20 ≤ pc) : zC 45 pc = (0, 0, 0, 0) := by
  show zc_45 pc = _
  unfold zc_45
  repeat rw [if_neg (by omega)]
theorem znw_45 : ∀ pc, pc < 20 → ¬ (zC 45 pc).1 = 30 ∧ ¬ (zC 45 pc).1 = 32 := by decide +kernel
theorem zok_45 : zOK 45 := zok_of (by decide) zdw_45 zbw_45 znw_45
theorem zdw_46 : ∀ pc, pc < 26 → zD 46 pc = true := by decide +kernel
theorem zbw_46 (pc : Nat) (h : 26 ≤ pc) : zC 46 pc = (0, 0, 0, 0) := by
  show zc_46 pc = _
  unfold zc_46
  repeat rw [if_neg (by omega)]
theorem znw_46 : ∀ pc, pc < 26 → ¬ (zC 46 pc).1 = 30 ∧ ¬ (zC 46 pc).1 = 32 := by decide +kernel
theorem zok_46 : zOK 46 := zok_of (by decide) zdw_46 zbw_46 znw_46
theorem zdw_47 : ∀ pc, pc < 37 → zD 47 pc = true := by decide +kernel
theorem zbw_47 (pc : Nat) (h : 37 ≤ pc) : zC 47 pc = (0, 0, 0, 0) := by
  show zc_47 pc = _
  unfold zc_47
  repeat rw [if_neg (by omega)]
theorem znw_47 : ∀ pc, pc < 37 → ¬ (zC 47 pc).1 = 30 ∧ ¬ (zC 47 pc).1 = 32 := by decide +kernel
theorem zok_47 : zOK 47 := zok_of (by decide) zdw_47 zbw_47 znw_47
theorem zdw_48 : ∀ pc, pc < 19 → zD 48 pc = true := by decide +kernel
theorem zbw_48 (pc : Nat) (h : 19 ≤ pc) : zC 48 pc = (0, 0, 0, 0) := by
  show zc_48 pc = _
  unfold zc_48
  repeat rw [if_neg (by omega)]
theorem znw_48 : ∀ pc, pc < 19 → ¬ (zC 48 pc).1 = 30 ∧ ¬ (zC 48 pc).1 = 32 := by decide +kernel
theorem zok_48 : zOK 48 := zok_of (by decide) zdw_48 zbw_48 znw_48
theorem zdw_49 : ∀ pc, pc < 19 → zD 49 pc = true := by decide +kernel
theorem zbw_49 (pc : Nat) (h : 19 ≤ pc) : zC 49 pc = (0, 0, 0, 0) := by
  show zc_49 pc = _
  unfold zc_49
  repeat rw [if_neg (by omega)]
theorem znw_49 : ∀ pc, pc < 19 → ¬ (zC 49 pc).1 = 30 ∧ ¬ (zC 49 pc).1 = 32 := by decide +kernel
theorem zok_49 : zOK 49 := zok_of (by decide) zdw_49 zbw_49 znw_49
theorem zdw_50 : ∀ pc, pc < 19 → zD 50 pc = true := by decide +kernel
theorem zbw_50 (pc : Nat) (h : 19 ≤ pc) : zC 50 pc = (0, 0, 0, 0) := by
  show zc_50 pc = _
  unfold zc_50
  repeat rw [if_neg (by omega)]
theorem znw_50 : ∀ pc, pc < 19 → ¬ (zC 50 pc).1 = 30 ∧ ¬ (zC 50 pc).1 = 32 := by decide +kernel
theorem zok_50 : zOK 50 := zok_of (by decide) zdw_50 zbw_50 znw_50
theorem zdw_51 : ∀ pc, pc < 87 → zD 51 pc = true := by decide +kernel
theorem zbw_51 (pc : Nat) (h : 87 ≤ pc) : zC 51 pc = (0, 0, 0, 0) := by
  show zc_51 pc = _
  unfold zc_51
  repeat rw [if_neg (by omega)]
theorem znw_51 : ∀ pc, pc < 87 → ¬ (zC 51 pc).1 = 30 ∧ ¬ (zC 51 pc).1 = 32 := by decide +kernel
theorem zok_51 : zOK 51 := zok_of (by decide) zdw_51 zbw_51 znw_51
theorem zdw_52 : ∀ pc, pc < 37 → zD 52 pc = true := by decide +kernel
theorem zbw_52 (pc : Nat) (h : 37 ≤ pc) : zC 52 pc = (0, 0, 0, 0) := by
  show zc_52 pc = _
  unfold zc_52
  repeat rw [if_neg (by omega)]
theorem znw_52 : ∀ pc, pc < 37 → ¬ (zC 52 pc).1 = 30 ∧ ¬ (zC 52 pc).1 = 32 := by decide +kernel
theorem zok_52 : zOK 52 := zok_of (by decide) zdw_52 zbw_52 znw_52
theorem zdw_53 : ∀ pc, pc < 11 → zD 53 pc = true := by decide +kernel
theorem zbw_53 (pc : Nat) (h : 11 ≤ pc) : zC 53 pc = (0, 0, 0, 0) := by
  show zc_53 pc = _
  unfold zc_53
  repeat rw [if_neg (by omega)]
theorem znw_53 : ∀ pc, pc < 11 → ¬ (zC 53 pc).1 = 30 ∧ ¬ (zC 53 pc).1 = 32 := by decide +kernel
theorem zok_53 : zOK 53 := zok_of (by decide) zdw_53 zbw_53 znw_53
theorem zdw_54 : ∀ pc, pc < 48 → zD 54 pc = true := by decide +kernel
theorem zbw_54 (pc : Nat) (h : 48 ≤ pc) : zC 54 pc = (0, 0, 0, 0) := by
  show zc_54 pc = _
  unfold zc_54
  repeat rw [if_neg (by omega)]
theorem znw_54 : ∀ pc, pc < 48 → ¬ (zC 54 pc).1 = 30 ∧ ¬ (zC 54 pc).1 = 32 := by decide +kernel
theorem zok_54 : zOK 54 := zok_of (by decide) zdw_54 zbw_54 znw_54
theorem zdw_55 : ∀ pc, pc < 63 → zD 55 pc = true := by decide +kernel
theorem zbw_55 (pc : Nat) (h : 63 ≤ pc) : zC 55 pc = (0, 0, 0, 0) := by
  show zc_55 pc = _
  unfold zc_55
  repeat rw [if_neg (by omega)]
theorem znw_55 : ∀ pc, pc < 63 → ¬ (zC 55 pc).1 = 30 ∧ ¬ (zC 55 pc).1 = 32 := by decide +kernel
theorem zok_55 : zOK 55 := zok_of (by decide) zdw_55 zbw_55 znw_55
theorem zdw_56 : ∀ pc, pc < 42 → zD 56 pc = true := by decide +kernel
theorem zbw_56 (pc : Nat) (h : 42 ≤ pc) : zC 56 pc = (0, 0, 0, 0) := by
  show zc_56 pc = _
  unfold zc_56
  repeat rw [if_neg (by omega)]
theorem znw_56 : ∀ pc, pc < 42 → ¬ (zC 56 pc).1 = 30 ∧ ¬ (zC 56 pc).1 = 32 := by decide +kernel
theorem zok_56 : zOK 56 := zok_of (by decide) zdw_56 zbw_56 znw_56
theorem zdw_57 : ∀ pc, pc < 50 → zD 57 pc = true := by decide +kernel
theorem zbw_57 (pc : Nat) (h : 50 ≤ pc) : zC 57 pc = (0, 0, 0, 0) := by
  show zc_57 pc = _
  unfold zc_57
  repeat rw [if_neg (by omega)]
theorem znw_57 : ∀ pc, pc < 50 → ¬ (zC 57 pc).1 = 30 ∧ ¬ (zC 57 pc).1 = 32 := by decide +kernel
theorem zok_57 : zOK 57 := zok_of (by decide) zdw_57 zbw_57 znw_57
theorem zdw_58 : ∀ pc, pc < 81 → zD 58 pc = true := by decide +kernel
theorem zbw_58 (pc : Nat) (h : 81 ≤ pc) : zC 58 pc = (0, 0, 0, 0) := by
  show zc_58 pc = _
  unfold zc_58
  repeat rw [if_neg (by omega)]
theorem znw_58 : ∀ pc, pc < 81 → ¬ (zC 58 pc).1 = 30 ∧ ¬ (zC 58 pc).1 = 32 := by decide +kernel
theorem zok_58 : zOK 58 := zok_of (by decide) zdw_58 zbw_58 znw_58
theorem zdw_59 : ∀ pc, pc < 70 → zD 59 pc = true := by decide +kernel
theorem zbw_59 (pc : Nat) (h : 70 ≤ pc) : zC 59 pc = (0, 0, 0, 0) := by
  show zc_59 pc = _
  unfold zc_59
  repeat rw [if_neg (by omega)]
theorem znw_59 : ∀ pc, pc < 70 → ¬ (zC 59 pc).1 = 30 ∧ ¬ (zC 59 pc).1 = 32 := by decide +kernel
theorem zok_59 : zOK 59 := zok_of (by decide) zdw_59 zbw_59 znw_59
theorem zdw_60 : ∀ pc, pc < 102 → zD 60 pc = true := by decide +kernel
theorem zbw_60 (pc : Nat) (h : 102 ≤ pc) : zC 60 pc = (0, 0, 0, 0) := by
  show zc_60 pc = _
  unfold zc_60
  repeat rw [if_neg (by omega)]
theorem znw_60 : ∀ pc, pc < 102 → ¬ (zC 60 pc).1 = 30 ∧ ¬ (zC 60 pc).1 = 32 := by decide +kernel
theorem zok_60 : zOK 60 := zok_of (by decide) zdw_60 zbw_60 znw_60
theorem zdw_61 : ∀ pc, pc < 69 → zD 61 pc = true := by decide +kernel
theorem zbw_61 (pc : Nat) (h : 69 ≤ pc) : zC 61 pc = (0, 0, 0, 0) := by
  show zc_61 pc = _
  unfold zc_61
  repeat rw [if_neg (by omega)]
theorem znw_61 : ∀ pc, pc < 69 → ¬ (zC 61 pc).1 = 30 ∧ ¬ (zC 61 pc).1 = 32 := by decide +kernel
theorem zok_61 : zOK 61 := zok_of (by decide) zdw_61 zbw_61 znw_61
theorem zdw_62 : ∀ pc, pc < 40 → zD 62 pc = true := by decide +kernel
theorem zbw_62 (pc : Nat) (h : 40 ≤ pc) : zC 62 pc = (0, 0, 0, 0) := by
  show zc_62 pc = _
  unfold zc_62
  repeat rw [if_neg (by omega)]
theorem znw_62 : ∀ pc, pc < 40 → ¬ (zC 62 pc).1 = 30 ∧ ¬ (zC 62 pc).1 = 32 := by decide +kernel
theorem zok_62 : zOK 62 := zok_of (by decide) zdw_62 zbw_62 znw_62
theorem zdw_63 : ∀ pc, pc < 73 → zD 63 pc = true := by decide +kernel
theorem zbw_63 (pc : Nat) (h : 73 ≤ pc) : zC 63 pc = (0, 0, 0, 0) := by
  show zc_63 pc = _
  unfold zc_63
  repeat rw [if_neg (by omega)]
theorem znw_63 : ∀ pc, pc < 73 → ¬ (zC 63 pc).1 = 30 ∧ ¬ (zC 63 pc).1 = 32 := by decide +kernel
theorem zok_63 : zOK 63 := zok_of (by decide) zdw_63 zbw_63 znw_63
theorem zdw_64 : ∀ pc, pc < 38 → zD 64 pc = true := by decide +kernel
theorem zbw_64 (pc : Nat) (h : 38 ≤ pc) : zC 64 pc = (0, 0, 0, 0) := by
  show zc_64 pc = _
  unfold zc_64
  repeat rw [if_neg (by omega)]
theorem znw_64 : ∀ pc, pc < 38 → ¬ (zC 64 pc).1 = 30 ∧ ¬ (zC 64 pc).1 = 32 := by decide +kernel
theorem zok_64 : zOK 64 := zok_of (by decide) zdw_64 zbw_64 znw_64
theorem zdw_65 : ∀ pc, pc < 86 → zD 65 pc = true := by decide +kernel
theorem zbw_65 (pc : Nat) (h : 86 ≤ pc) : zC 65 pc = (0, 0, 0, 0) := by
  show zc_65 pc = _
  unfold zc_65
  repeat rw [if_neg (by omega)]
theorem znw_65 : ∀ pc, pc < 86 → ¬ (zC 65 pc).1 = 30 ∧ ¬ (zC 65 pc).1 = 32 := by decide +kernel
theorem zok_65 : zOK 65 := zok_of (by decide) zdw_65 zbw_65 znw_65
theorem zdw_66 : ∀ pc, pc < 61 → zD 66 pc = true := by decide +kernel
theorem zbw_66 (pc : Nat) (h : 61 ≤ pc) : zC 66 pc = (0, 0, 0, 0) := by
  show zc_66 pc = _
  unfold zc_66
  repeat rw [if_neg (by omega)]
theorem znw_66 : ∀ pc, pc < 61 → ¬ (zC 66 pc).1 = 30 ∧ ¬ (zC 66 pc).1 = 32 := by decide +kernel
theorem zok_66 : zOK 66 := zok_of (by decide) zdw_66 zbw_66 znw_66
theorem zdw_67 : ∀ pc, pc < 30 → zD 67 pc = true := by decide +kernel
theorem zbw_67 (pc : Nat) (h : 30 ≤ pc) : zC 67 pc = (0, 0, 0, 0) := by
  show zc_67 pc = _
  unfold zc_67
  repeat rw [if_neg (by omega)]
theorem znw_67 : ∀ pc, pc < 30 → ¬ (zC 67 pc).1 = 30 ∧ ¬ (zC 67 pc).1 = 32 := by decide +kernel
theorem zok_67 : zOK 67 := zok_of (by decide) zdw_67 zbw_67 znw_67
theorem zdw_68 : ∀ pc, pc < 48 → zD 68 pc = true := by decide +kernel
theorem zbw_68 (pc : Nat) (h : 48 ≤ pc) : zC 68 pc = (0, 0, 0, 0) := by
  show zc_68 pc = _
  unfold zc_68
  repeat rw [if_neg (by omega)]
theorem znw_68 : ∀ pc, pc < 48 → ¬ (zC 68 pc).1 = 30 ∧ ¬ (zC 68 pc).1 = 32 := by decide +kernel
theorem zok_68 : zOK 68 := zok_of (by decide) zdw_68 zbw_68 znw_68
theorem zdw_69 : ∀ pc, pc < 51 → zD 69 pc = true := by decide +kernel
theorem zbw_69 (pc : Nat) (h : 51 ≤ pc) : zC 69 pc = (0, 0, 0, 0) := by
  show zc_69 pc = _
  unfold zc_69
  repeat rw [if_neg (by omega)]
theorem znw_69 : ∀ pc, pc < 51 → ¬ (zC 69 pc).1 = 30 ∧ ¬ (zC 69 pc).1 = 32 := by decide +kernel
theorem zok_69 : zOK 69 := zok_of (by decide) zdw_69 zbw_69 znw_69
theorem zdw_70 : ∀ pc, pc < 49 → zD 70 pc = true := by decide +kernel
theorem zbw_70 (pc : Nat) (h : 49 ≤ pc) : zC 70 pc = (0, 0, 0, 0) := by
  show zc_70 pc = _
  unfold zc_70
  repeat rw [if_neg (by omega)]
theorem znw_70 : ∀ pc, pc < 49 → ¬ (zC 70 pc).1 = 30 ∧ ¬ (zC 70 pc).1 = 32 := by decide +kernel
theorem zok_70 : zOK 70 := zok_of (by decide) zdw_70 zbw_70 znw_70
theorem zdw_71 : ∀ pc, pc < 69 → zD 71 pc = true := by decide +kernel
theorem zbw_71 (pc : Nat) (h : 69 ≤ pc) : zC 71 pc = (0, 0, 0, 0) := by
  show zc_71 pc = _
  unfold zc_71
  repeat rw [if_neg (by omega)]
theorem zds_71 : decode (zB 71) 13 = .ok (.tableswitch 54 0 2 #[27, 38, 46], 27) := by decide +kernel
theorem zsr_71 : zSwS 71 13 3 := by
  intro dom Q lv st σ x hx h p l e s m args below meth c D ad cI cZ A QQ hC hR H locs ls hP hD hS hl
  have h : zswp zsw_3.1 zsw_3.2 x (fun t => zV 71 dom Q t lv st σ) := h
  simp only [zsw_3, zswp] at h
  by_cases h0 : x = 0
  · have k := h.1 h0 p l e s m args below meth c D ad cI cZ A QQ hC hR H locs ls hP hD hS hl
    subst h0
    exact lv_tableIn (tgt := 40) hC.1 hC.2.1 zds_71 (by decide) (by decide) rfl (by decide) k
  by_cases h1 : x = 1
  · have k := (h.2 h0).1 h1 p l e s m args below meth c D ad cI cZ A QQ hC hR H locs ls hP hD hS hl
    subst h1
    exact lv_tableIn (tgt := 51) hC.1 hC.2.1 zds_71 (by decide) (by decide) rfl (by decide) k
  by_cases h2 : x = 2
  · have k := ((h.2 h0).2 h1).1 h2 p l e s m args below meth c D ad cI cZ A QQ hC hR H locs ls hP hD hS hl
    subst h2
    exact lv_tableIn (tgt := 59) hC.1 hC.2.1 zds_71 (by decide) (by decide) rfl (by decide) k
  have k := (((h.2 h0).2 h1).2 h2) p l e s m args below meth c D ad cI cZ A QQ hC hR H locs ls hP hD hS hl
  exact lv_tableOut (tgt := 67) hC.1 hC.2.1 zds_71 (by rw [zr_toInt hx]; omega) (by decide) k
theorem znw_71 : ∀ pc, pc < 69 → ((zC 71 pc).1 = 30 ∨ (zC 71 pc).1 = 32) → pc = 13 := by decide +kernel
theorem zok_71 : zOK 71 := zok_sw (by decide) zdw_71 zbw_71 znw_71 (k := 3) rfl zsr_71
theorem zdw_72 : ∀ pc, pc < 58 → zD 72 pc = true := by decide +kernel
theorem zbw_72 (pc : Nat) (h : 58 ≤ pc) : zC 72 pc = (0, 0, 0, 0) := by
  show zc_72 pc = _
  unfold zc_72
  repeat rw [if_neg (by omega)]
theorem zds_72 : decode (zB 72) 1 = .ok (.tableswitch 55 0 2 #[27, 35, 43], 27) := by decide +kernel
theorem zsr_72 : zSwS 72 1 4 := by
  intro dom Q lv st σ x hx h p l e s m args below meth c D ad cI cZ A QQ hC hR H locs ls hP hD hS hl
  have h : zswp zsw_4.1 zsw_4.2 x (fun t => zV 72 dom Q t lv st σ) := h
  simp only [zsw_4, zswp] at h
  by_cases h0 : x = 0
  · have k := h.1 h0 p l e s m args below meth c D ad cI cZ A QQ hC hR H locs ls hP hD hS hl
    subst h0
    exact lv_tableIn (tgt := 28) hC.1 hC.2.1 zds_72 (by decide) (by decide) rfl (by decide) k
  by_cases h1 : x = 1
  · have k := (h.2 h0).1 h1 p l e s m args below meth c D ad cI cZ A QQ hC hR H locs ls hP hD hS hl
    subst h1
    exact lv_tableIn (tgt := 36) hC.1 hC.2.1 zds_72 (by decide) (by decide) rfl (by decide) k
  by_cases h2 : x = 2
  · have k := ((h.2 h0).2 h1).1 h2 p l e s m args below meth c D ad cI cZ A QQ hC hR H locs ls hP hD hS hl
    subst h2
    exact lv_tableIn (tgt := 44) hC.1 hC.2.1 zds_72 (by decide) (by decide) rfl (by decide) k
  have k := (((h.2 h0).2 h1).2 h2) p l e s m args below meth c D ad cI cZ A QQ hC hR H locs ls hP hD hS hl
  exact lv_tableOut (tgt := 56) hC.1 hC.2.1 zds_72 (by rw [zr_toInt hx]; omega) (by decide) k
theorem znw_72 : ∀ pc, pc < 58 → ((zC 72 pc).1 = 30 ∨ (zC 72 pc).1 = 32) → pc = 1 := by decide +kernel
theorem zok_72 : zOK 72 := zok_sw (by decide) zdw_72 zbw_72 znw_72 (k := 4) rfl zsr_72
theorem zdw_73 : ∀ pc, pc < 37 → zD 73 pc = true := by decide +kernel
theorem zbw_73 (pc : Nat) (h : 37 ≤ pc) : zC 73 pc = (0, 0, 0, 0) := by
  show zc_73 pc = _
  unfold zc_73
  repeat rw [if_neg (by omega)]
theorem znw_73 : ∀ pc, pc < 37 → ¬ (zC 73 pc).1 = 30 ∧ ¬ (zC 73 pc).1 = 32 := by decide +kernel
theorem zok_73 : zOK 73 := zok_of (by decide) zdw_73 zbw_73 znw_73
theorem zdw_74 : ∀ pc, pc < 93 → zD 74 pc = true := by decide +kernel
theorem zbw_74 (pc : Nat) (h : 93 ≤ pc) : zC 74 pc = (0, 0, 0, 0) := by
  show zc_74 pc = _
  unfold zc_74
  repeat rw [if_neg (by omega)]
theorem zds_74 : decode (zB 74) 1 = .ok (.tableswitch 90 0 4 #[35, 37, 37, 42, 66], 35) := by decide +kernel
theorem zsr_74 : zSwS 74 1 5 := by
  intro dom Q lv st σ x hx h p l e s m args below meth c D ad cI cZ A QQ hC hR H locs ls hP hD hS hl
  have h : zswp zsw_5.1 zsw_5.2 x (fun t => zV 74 dom Q t lv st σ) := h
  simp only [zsw_5, zswp] at h
  by_cases h0 : x = 0
  · have k := h.1 h0 p l e s m args below meth c D ad cI cZ A QQ hC hR H locs ls hP hD hS hl
    subst h0
    exact lv_tableIn (tgt := 36) hC.1 hC.2.1 zds_74 (by decide) (by decide) rfl (by decide) k
  by_cases h1 : x = 1
  · have k := (h.2 h0).1 h1 p l e s m args below meth c D ad cI cZ A QQ hC hR H locs ls hP hD hS hl
    subst h1
    exact lv_tableIn (tgt := 38) hC.1 hC.2.1 zds_74 (by decide) (by decide) rfl (by decide) k
  by_cases h2 : x = 2
  · have k := ((h.2 h0).2 h1).1 h2 p l e s m args below meth c D ad cI cZ A QQ hC hR H locs ls hP hD hS hl
    subst h2
    exact lv_tableIn (tgt := 38) hC.1 hC.2.1 zds_74 (by decide) (by decide) rfl (by decide) k
  by_cases h3 : x = 3
  · have k := (((h.2 h0).2 h1).2 h2).1 h3 p l e s m args below meth c D ad cI cZ A QQ hC hR H locs ls hP hD hS hl
    subst h3
    exact lv_tableIn (tgt := 43) hC.1 hC.2.1 zds_74 (by decide) (by decide) rfl (by decide) k
  by_cases h4 : x = 4
  · have k := ((((h.2 h0).2 h1).2 h2).2 h3).1 h4 p l e s m args below meth c D ad cI cZ A QQ hC hR H locs ls hP hD hS hl
    subst h4
    exact lv_tableIn (tgt := 67) hC.1 hC.2.1 zds_74 (by decide) (by decide) rfl (by decide) k
  have k := (((((h.2 h0).2 h1).2 h2).2 h3).2 h4) p l e s m args below meth c D ad cI cZ A QQ hC hR H locs ls hP hD hS hl
  exact lv_tableOut (tgt := 91) hC.1 hC.2.1 zds_74 (by rw [zr_toInt hx]; omega) (by decide) k
theorem znw_74 : ∀ pc, pc < 93 → ((zC 74 pc).1 = 30 ∨ (zC 74 pc).1 = 32) → pc = 1 := by decide +kernel
theorem zok_74 : zOK 74 := zok_sw (by decide) zdw_74 zbw_74 znw_74 (k := 5) rfl zsr_74
theorem zdw_75 : ∀ pc, pc < 16 → zD 75 pc = true := by decide +kernel
theorem zbw_75 (pc : Nat) (h : 16 ≤ pc) : zC 75 pc = (0, 0, 0, 0) := by
  show zc_75 pc = _
  unfold zc_75
  repeat rw [if_neg (by omega)]
theorem znw_75 : ∀ pc, pc < 16 → ¬ (zC 75 pc).1 = 30 ∧ ¬ (zC 75 pc).1 = 32 := by decide +kernel
theorem zok_75 : zOK 75 := zok_of (by decide) zdw_75 zbw_75 znw_75
theorem zdw_76 : ∀ pc, pc < 15 → zD 76 pc = true := by decide +kernel
theorem zbw_76 (pc : Nat) (h : 15 ≤ pc) : zC 76 pc = (0, 0, 0, 0) := by
  show zc_76 pc = _
  unfold zc_76
  repeat rw [if_neg (by omega)]
theorem znw_76 : ∀ pc, pc < 15 → ¬ (zC 76 pc).1 = 30 ∧ ¬ (zC 76 pc).1 = 32 := by decide +kernel
theorem zok_76 : zOK 76 := zok_of (by decide) zdw_76 zbw_76 znw_76
