theorem zdw_39 : ∀ pc, pc < 91 → zD 39 pc = true := by decide +kernel
theorem zbw_39 (pc : Nat) (h : 91 ≤ pc) : zC 39 pc = (0, 0, 0, 0) := by
  show zc_39 pc = _
  unfold zc_39
  repeat rw [if_neg (by omega)]
theorem zd_39 (pc : Nat) : zD 39 pc = true := by
  by_cases h : pc < 91
  · exact zdw_39 pc h
  · unfold zD; rw [zbw_39 pc (by omega)]
theorem zds_39 : decode (zB 39) 1 = .ok (.lookupswitch 69 #[(0, 27), (4, 53)], 27) := by decide +kernel
theorem zsr_39 : zSwS 39 1 2 := by
  intro dom Q lv st σ x hx h p l e s m args below meth c D ad cI cZ A QQ hC hR H locs ls hP hD hS hl
  have h : zswp zsw_2.1 zsw_2.2 x (fun t => zV 39 dom Q t lv st σ) := h
  simp only [zsw_2, zswp] at h
  by_cases h0 : x = 0
  · have k := h.1 h0 p l e s m args below meth c D ad cI cZ A QQ hC hR H locs ls hP hD hS hl
    subst h0
    exact lv_lookup (tgt := 28) hC.1 hC.2.1 zds_39 (by decide) rfl (by decide) k
  by_cases h1 : x = 4
  · have k := (h.2 h0).1 h1 p l e s m args below meth c D ad cI cZ A QQ hC hR H locs ls hP hD hS hl
    subst h1
    exact lv_lookup (tgt := 54) hC.1 hC.2.1 zds_39 (by decide) rfl (by decide) k
  have k := ((h.2 h0).2 h1) p l e s m args below meth c D ad cI cZ A QQ hC hR H locs ls hP hD hS hl
  exact lv_lookup (tgt := 70) hC.1 hC.2.1 zds_39 (by decide) (by rw [Op.lookupswitch.offset_cons, if_neg (by rw [zr_toInt hx]; omega)]; rw [Op.lookupswitch.offset_cons, if_neg (by rw [zr_toInt hx]; omega)]; rfl) (by decide) k
theorem znw_39 : ∀ pc, pc < 91 → ((zC 39 pc).1 = 30 ∨ (zC 39 pc).1 = 32) → pc = 1 := by decide +kernel
theorem zok_39 : zOK 39 := ⟨by decide, zd_39, fun pc i a b h => by
  by_cases hp : pc < 91
  · have e := znw_39 pc hp (by rcases h with h | h <;> rw [h] <;> decide)
    subst e
    have h2 : zC 39 1 = (32, 2, 0, 0) := rfl
    rw [h2] at h
    rcases h with h | h <;> first | (cases h; exact zsr_39) | (cases h)
  · rw [zbw_39 pc (by omega)] at h; rcases h with h | h <;> cases h⟩
theorem zdw_40 : ∀ pc, pc < 29 → zD 40 pc = true := by decide +kernel
theorem zbw_40 (pc : Nat) (h : 29 ≤ pc) : zC 40 pc = (0, 0, 0, 0) := by
  show zc_40 pc = _
  unfold zc_40
  repeat rw [if_neg (by omega)]
theorem zd_40 (pc : Nat) : zD 40 pc = true := by
  by_cases h : pc < 29
  · exact zdw_40 pc h
  · unfold zD; rw [zbw_40 pc (by omega)]
theorem znw_40 : ∀ pc, pc < 29 → ¬ (zC 40 pc).1 = 30 ∧ ¬ (zC 40 pc).1 = 32 := by decide +kernel
theorem zok_40 : zOK 40 := ⟨by decide, zd_40, fun pc i a b h => by
  by_cases hp : pc < 29
  · rcases h with h | h <;> exact absurd (by rw [h]) (by first | exact (znw_40 pc hp).1 | exact (znw_40 pc hp).2)
  · rw [zbw_40 pc (by omega)] at h; rcases h with h | h <;> cases h⟩
theorem zdw_41 : ∀ pc, pc < 21 → zD 41 pc = true := by decide +kernel
theorem zbw_41 (pc : Nat) (h : 21 ≤ pc) : zC 41 pc = (0, 0, 0, 0) := by
  show zc_41 pc = _
  unfold zc_41
  repeat rw [if_neg (by omega)]
theorem zd_41 (pc : Nat) : zD 41 pc = true := by
  by_cases h : pc < 21
  · exact zdw_41 pc h
  · unfold zD; rw [zbw_41 pc (by omega)]
theorem znw_41 : ∀ pc, pc < 21 → ¬ (zC 41 pc).1 = 30 ∧ ¬ (zC 41 pc).1 = 32 := by decide +kernel
theorem zok_41 : zOK 41 := ⟨by decide, zd_41, fun pc i a b h => by
  by_cases hp : pc < 21
  · rcases h with h | h <;> exact absurd (by rw [h]) (by first | exact (znw_41 pc hp).1 | exact (znw_41 pc hp).2)
  · rw [zbw_41 pc (by omega)] at h; rcases h with h | h <;> cases h⟩
theorem zdw_42 : ∀ pc, pc < 38 → zD 42 pc = true := by decide +kernel
theorem zbw_42 (pc : Nat) (h : 38 ≤ pc) : zC 42 pc = (0, 0, 0, 0) := by
  show zc_42 pc = _
  unfold zc_42
  repeat rw [if_neg (by omega)]
theorem zd_42 (pc : Nat) : zD 42 pc = true := by
  by_cases h : pc < 38
  · exact zdw_42 pc h
  · unfold zD; rw [zbw_42 pc (by omega)]
theorem znw_42 : ∀ pc, pc < 38 → ¬ (zC 42 pc).1 = 30 ∧ ¬ (zC 42 pc).1 = 32 := by decide +kernel
theorem zok_42 : zOK 42 := ⟨by decide, zd_42, fun pc i a b h => by
  by_cases hp : pc < 38
  · rcases h with h | h <;> exact absurd (by rw [h]) (by first | exact (znw_42 pc hp).1 | exact (znw_42 pc hp).2)
  · rw [zbw_42 pc (by omega)] at h; rcases h with h | h <;> cases h⟩
theorem zdw_43 : ∀ pc, pc < 11 → zD 43 pc = true := by decide +kernel
theorem zbw_43 (pc : Nat) (h : 11 ≤ pc) : zC 43 pc = (0, 0, 0, 0) := by
  show zc_43 pc = _
  unfold zc_43
  repeat rw [if_neg (by omega)]
theorem zd_43 (pc : Nat) : zD 43 pc = true := by
  by_cases h : pc < 11
  · exact zdw_43 pc h
  · unfold zD; rw [zbw_43 pc (by omega)]
theorem znw_43 : ∀ pc, pc < 11 → ¬ (zC 43 pc).1 = 30 ∧ ¬ (zC 43 pc).1 = 32 := by decide +kernel
theorem zok_43 : zOK 43 := ⟨by decide, zd_43, fun pc i a b h => by
  by_cases hp : pc < 11
  · rcases h with h | h <;> exact absurd (by rw [h]) (by first | exact (znw_43 pc hp).1 | exact (znw_43 pc hp).2)
  · rw [zbw_43 pc (by omega)] at h; rcases h with h | h <;> cases h⟩
theorem zdw_44 : ∀ pc, pc < 32 → zD 44 pc = true := by decide +kernel
theorem zbw_44 (pc : Nat) (h : 32 ≤ pc) : zC 44 pc = (0, 0, 0, 0) := by
  show zc_44 pc = _
  unfold zc_44
  repeat rw [if_neg (by omega)]
theorem zd_44 (pc : Nat) : zD 44 pc = true := by
  by_cases h : pc < 32
  · exact zdw_44 pc h
  · unfold zD; rw [zbw_44 pc (by omega)]
theorem znw_44 : ∀ pc, pc < 32 → ¬ (zC 44 pc).1 = 30 ∧ ¬ (zC 44 pc).1 = 32 := by decide +kernel
theorem zok_44 : zOK 44 := ⟨by decide, zd_44, fun pc i a b h => by
  by_cases hp : pc < 32
  · rcases h with h | h <;> exact absurd (by rw [h]) (by first | exact (znw_44 pc hp).1 | exact (znw_44 pc hp).2)
  · rw [zbw_44 pc (by omega)] at h; rcases h with h | h <;> cases h⟩
theorem zdw_45 : ∀ pc, pc < 20 → zD 45 pc = true := by decide +kernel
theorem zbw_45 (pc : Nat) (h : 20 ≤ pc) : zC 45 pc = (0, 0, 0, 0) := by
  show zc_45 pc = _
  unfold zc_45
  repeat rw [if_neg (by omega)]
theorem zd_45 (pc : Nat) : zD 45 pc = true := by
  by_cases h : pc < 20
  · exact zdw_45 pc h
  · unfold zD; rw [zbw_45 pc (by omega)]
theorem znw_45 : ∀ pc, pc < 20 → ¬ (zC 45 pc).1 = 30 ∧ ¬ (zC 45 pc).1 = 32 := by decide +kernel
theorem zok_45 : zOK 45 := ⟨by decide, zd_45, fun pc i a b h => by
  by_cases hp : pc < 20
  · rcases h with h | h <;> exact absurd (by rw [h]) (by first | exact (znw_45 pc hp).1 | exact (znw_45 pc hp).2)
  · rw [zbw_45 pc (by omega)] at h; rcases h with h | h <;> cases h⟩
theorem zdw_46 : ∀ pc, pc < 26 → zD 46 pc = true := by decide +kernel
theorem zbw_46 (pc : Nat) (h : 26 ≤ pc) : zC 46 pc = (0, 0, 0, 0) := by
  show zc_46 pc = _
  unfold zc_46
  repeat rw [if_neg (by omega)]
theorem zd_46 (pc : Nat) : zD 46 pc = true := by
  by_cases h : pc < 26
  · exact zdw_46 pc h
  · unfold zD; rw [zbw_46 pc (by omega)]
theorem znw_46 : ∀ pc, pc < 26 → ¬ (zC 46 pc).1 = 30 ∧ ¬ (zC 46 pc).1 = 32 := by decide +kernel
theorem zok_46 : zOK 46 := ⟨by decide, zd_46, fun pc i a b h => by
  by_cases hp : pc < 26
  · rcases h with h | h <;> exact absurd (by rw [h]) (by first | exact (znw_46 pc hp).1 | exact (znw_46 pc hp).2)
  · rw [zbw_46 pc (by omega)] at h; rcases h with h | h <;> cases h⟩
theorem zdw_47 : ∀ pc, pc < 37 → zD 47 pc = true := by decide +kernel
theorem zbw_47 (pc : Nat) (h : 37 ≤ pc) : zC 47 pc = (0, 0, 0, 0) := by
  show zc_47 pc = _
  unfold zc_47
  repeat rw [if_neg (by omega)]
theorem zd_47 (pc : Nat) : zD 47 pc = true := by
  by_cases h : pc < 37
  · exact zdw_47 pc h
  · unfold zD; rw [zbw_47 pc (by omega)]
theorem znw_47 : ∀ pc, pc < 37 → ¬ (zC 47 pc).1 = 30 ∧ ¬ (zC 47 pc).1 = 32 := by decide +kernel
theorem zok_47 : zOK 47 := ⟨by decide, zd_47, fun pc i a b h => by
  by_cases hp : pc < 37
  · rcases h with h | h <;> exact absurd (by rw [h]) (by first | exact (znw_47 pc hp).1 | exact (znw_47 pc hp).2)
  · rw [zbw_47 pc (by omega)] at h; rcases h with h | h <;> cases h⟩
theorem zdw_48 : ∀ pc, pc < 19 → zD 48 pc = true := by decide +kernel
theorem zbw_48 (pc : Nat) (h : 19 ≤ pc) : zC 48 pc = (0, 0, 0, 0) := by
  show zc_48 pc = _
  unfold zc_48
  repeat rw [if_neg (by omega)]
theorem zd_48 (pc : Nat) : zD 48 pc = true := by
  by_cases h : pc < 19
  · exact zdw_48 pc h
  · unfold zD; rw [zbw_48 pc (by omega)]
theorem znw_48 : ∀ pc, pc < 19 → ¬ (zC 48 pc).1 = 30 ∧ ¬ (zC 48 pc).1 = 32 := by decide +kernel
theorem zok_48 : zOK 48 := ⟨by decide, zd_48, fun pc i a b h => by
  by_cases hp : pc < 19
  · rcases h with h | h <;> exact absurd (by rw [h]) (by first | exact (znw_48 pc hp).1 | exact (znw_48 pc hp).2)
  · rw [zbw_48 pc (by omega)] at h; rcases h with h | h <;> cases h⟩
theorem zdw_49 : ∀ pc, pc < 19 → zD 49 pc = true := by decide +kernel
theorem zbw_49 (pc : Nat) (h : 19 ≤ pc) : zC 49 pc = (0, 0, 0, 0) := by
  show zc_49 pc = _
  unfold zc_49
  repeat rw [if_neg (by omega)]
theorem zd_49 (pc : Nat) : zD 49 pc = true := by
  by_cases h : pc < 19
  · exact zdw_49 pc h
  · unfold zD; rw [zbw_49 pc (by omega)]
theorem znw_49 : ∀ pc, pc < 19 → ¬ (zC 49 pc).1 = 30 ∧ ¬ (zC 49 pc).1 = 32 := by decide +kernel
theorem zok_49 : zOK 49 := ⟨by decide, zd_49, fun pc i a b h => by
  by_cases hp : pc < 19
  · rcases h with h | h <;> exact absurd (by rw [h]) (by first | exact (znw_49 pc hp).1 | exact (znw_49 pc hp).2)
  · rw [zbw_49 pc (by omega)] at h; rcases h with h | h <;> cases h⟩
theorem zdw_50 : ∀ pc, pc < 19 → zD 50 pc = true := by decide +kernel
theorem zbw_50 (pc : Nat) (h : 19 ≤ pc) : zC 50 pc = (0, 0, 0, 0) := by
  show zc_50 pc = _
  unfold zc_50
  repeat rw [if_neg (by omega)]
theorem zd_50 (pc : Nat) : zD 50 pc = true := by
  by_cases h : pc < 19
  · exact zdw_50 pc h
  · unfold zD; rw [zbw_50 pc (by omega)]
theorem znw_50 : ∀ pc, pc < 19 → ¬ (zC 50 pc).1 = 30 ∧ ¬ (zC 50 pc).1 = 32 := by decide +kernel
theorem zok_50 : zOK 50 := ⟨by decide, zd_50, fun pc i a b h => by
  by_cases hp : pc < 19
  · rcases h with h | h <;> exact absurd (by rw [h]) (by first | exact (znw_50 pc hp).1 | exact (znw_50 pc hp).2)
  · rw [zbw_50 pc (by omega)] at h; rcases h with h | h <;> cases h⟩
theorem zdw_51 : ∀ pc, pc < 87 → zD 51 pc = true := by decide +kernel
theorem zbw_51 (pc : Nat) (h : 87 ≤ pc) : zC 51 pc = (0, 0, 0, 0) := by
  show zc_51 pc = _
  unfold zc_51
  repeat rw [if_neg (by omega)]
theorem zd_51 (pc : Nat) : zD 51 pc = true := by
  by_cases h : pc < 87
  · exact zdw_51 pc h
  · unfold zD; rw [zbw_51 pc (by omega)]
theorem znw_51 : ∀ pc, pc < 87 → ¬ (zC 51 pc).1 = 30 ∧ ¬ (zC 51 pc).1 = 32 := by decide +kernel
theorem zok_51 : zOK 51 := ⟨by decide, zd_51, fun pc i a b h => by
  by_cases hp : pc < 87
  · rcases h with h | h <;> exact absurd (by rw [h]) (by first | exact (znw_51 pc hp).1 | exact (znw_51 pc hp).2)
  · rw [zbw_51 pc (by omega)] at h; rcases h with h | h <;> cases h⟩
theorem zdw_52 : ∀ pc, pc < 37 → zD 52 pc = true := by decide +kernel
theorem zbw_52 (pc : Nat) (h : 37 ≤ pc) : zC 52 pc = (0, 0, 0, 0) := by
  show zc_52 pc = _
  unfold zc_52
  repeat rw [if_neg (by omega)]
theorem zd_52 (pc : Nat) : zD 52 pc = true := by
  by_cases h : pc < 37
  · exact zdw_52 pc h
  · unfold zD; rw [zbw_52 pc (by omega)]
theorem znw_52 : ∀ pc, pc < 37 → ¬ (zC 52 pc).1 = 30 ∧ ¬ (zC 52 pc).1 = 32 := by decide +kernel
theorem zok_52 : zOK 52 := ⟨by decide, zd_52, fun pc i a b h => by
  by_cases hp : pc < 37
  · rcases h with h | h <;> exact absurd (by rw [h]) (by first | exact (znw_52 pc hp).1 | exact (znw_52 pc hp).2)
  · rw [zbw_52 pc (by omega)] at h; rcases h with h | h <;> cases h⟩
theorem zdw_53 : ∀ pc, pc < 11 → zD 53 pc = true := by decide +kernel
theorem zbw_53 (pc : Nat) (h : 11 ≤ pc) : zC 53 pc = (0, 0, 0, 0) := by
  show zc_53 pc = _
  unfold zc_53
  repeat rw [if_neg (by omega)]
theorem zd_53 (pc : Nat) : zD 53 pc = true := by
  by_cases h : pc < 11
  · exact zdw_53 pc h
  · unfold zD; rw [zbw_53 pc (by omega)]
theorem znw_53 : ∀ pc, pc < 11 → ¬ (zC 53 pc).1 = 30 ∧ ¬ (zC 53 pc).1 = 32 := by decide +kernel
theorem zok_53 : zOK 53 := ⟨by decide, zd_53, fun pc i a b h => by
  by_cases hp : pc < 11
  · rcases h with h | h <;> exact absurd (by rw [h]) (by first | exact (znw_53 pc hp).1 | exact (znw_53 pc hp).2)
  · rw [zbw_53 pc (by omega)] at h; rcases h with h | h <;> cases h⟩
theorem zdw_54 : ∀ pc, pc < 48 → zD 54 pc = true := by decide +kernel
theorem zbw_54 (pc : Nat) (h : 48 ≤ pc) : zC 54 pc = (0, 0, 0, 0) := by
  show zc_54 pc = _
  unfold zc_54
  repeat rw [if_neg (by omega)]
theorem zd_54 (pc : Nat) : zD 54 pc = true := by
  by_cases h : pc < 48
  · exact zdw_54 pc h
  · unfold zD; rw [zbw_54 pc (by omega)]
theorem znw_54 : ∀ pc, pc < 48 → ¬ (zC 54 pc).1 = 30 ∧ ¬ (zC 54 pc).1 = 32 := by decide +kernel
theorem zok_54 : zOK 54 := ⟨by decide, zd_54, fun pc i a b h => by
  by_cases hp : pc < 48
  · rcases h with h | h <;> exact absurd (by rw [h]) (by first | exact (znw_54 pc hp).1 | exact (znw_54 pc hp).2)
  · rw [zbw_54 pc (by omega)] at h; rcases h with h | h <;> cases h⟩
theorem zdw_55 : ∀ pc, pc < 63 → zD 55 pc = true := by decide +kernel
theorem zbw_55 (pc : Nat) (h : 63 ≤ pc) : zC 55 pc = (0, 0, 0, 0) := by
  show zc_55 pc = _
  unfold zc_55
  repeat rw [if_neg (by omega)]
theorem zd_55 (pc : Nat) : zD 55 pc = true := by
  by_cases h : pc < 63
  · exact zdw_55 pc h
  · unfold zD; rw [zbw_55 pc (by omega)]
theorem znw_55 : ∀ pc, pc < 63 → ¬ (zC 55 pc).1 = 30 ∧ ¬ (zC 55 pc).1 = 32 := by decide +kernel
theorem zok_55 : zOK 55 := ⟨by decide, zd_55, fun pc i a b h => by
  by_cases hp : pc < 63
  · rcases h with h | h <;> exact absurd (by rw [h]) (by first | exact (znw_55 pc hp).1 | exact (znw_55 pc hp).2)
  · rw [zbw_55 pc (by omega)] at h; rcases h with h | h <;> cases h⟩
theorem zdw_56 : ∀ pc, pc < 42 → zD 56 pc = true := by decide +kernel
theorem zbw_56 (pc : Nat) (h : 42 ≤ pc) : zC 56 pc = (0, 0, 0, 0) := by
  show zc_56 pc = _
  unfold zc_56
  repeat rw [if_neg (by omega)]
theorem zd_56 (pc : Nat) : zD 56 pc = true := by
  by_cases h : pc < 42
  · exact zdw_56 pc h
  · unfold zD; rw [zbw_56 pc (by omega)]
theorem znw_56 : ∀ pc, pc < 42 → ¬ (zC 56 pc).1 = 30 ∧ ¬ (zC 56 pc).1 = 32 := by decide +kernel
theorem zok_56 : zOK 56 := ⟨by decide, zd_56, fun pc i a b h => by
  by_cases hp : pc < 42
  · rcases h with h | h <;> exact absurd (by rw [h]) (by first | exact (znw_56 pc hp).1 | exact (znw_56 pc hp).2)
  · rw [zbw_56 pc (by omega)] at h; rcases h with h | h <;> cases h⟩
theorem zdw_57 : ∀ pc, pc < 50 → zD 57 pc = true := by decide +kernel
theorem zbw_57 (pc : Nat) (h : 50 ≤ pc) : zC 57 pc = (0, 0, 0, 0) := by
  show zc_57 pc = _
  unfold zc_57
  repeat rw [if_neg (by omega)]
theorem zd_57 (pc : Nat) : zD 57 pc = true := by
  by_cases h : pc < 50
  · exact zdw_57 pc h
  · unfold zD; rw [zbw_57 pc (by omega)]
theorem znw_57 : ∀ pc, pc < 50 → ¬ (zC 57 pc).1 = 30 ∧ ¬ (zC 57 pc).1 = 32 := by decide +kernel
theorem zok_57 : zOK 57 := ⟨by decide, zd_57, fun pc i a b h => by
  by_cases hp : pc < 50
  · rcases h with h | h <;> exact absurd (by rw [h]) (by first | exact (znw_57 pc hp).1 | exact (znw_57 pc hp).2)
  · rw [zbw_57 pc (by omega)] at h; rcases h with h | h <;> cases h⟩
theorem zdw_58 : ∀ pc, pc < 81 → zD 58 pc = true := by decide +kernel
theorem zbw_58 (pc : Nat) (h : 81 ≤ pc) : zC 58 pc = (0, 0, 0, 0) := by
  show zc_58 pc = _
  unfold zc_58
  repeat rw [if_neg (by omega)]
theorem zd_58 (pc : Nat) : zD 58 pc = true := by
  by_cases h : pc < 81
  · exact zdw_58 pc h
  · unfold zD; rw [zbw_58 pc (by omega)]
theorem znw_58 : ∀ pc, pc < 81 → ¬ (zC 58 pc).1 = 30 ∧ ¬ (zC 58 pc).1 = 32 := by decide +kernel
theorem zok_58 : zOK 58 := ⟨by decide, zd_58, fun pc i a b h => by
  by_cases hp : pc < 81
  · rcases h with h | h <;> exact absurd (by rw [h]) (by first | exact (znw_58 pc hp).1 | exact (znw_58 pc hp).2)
  · rw [zbw_58 pc (by omega)] at h; rcases h with h | h <;> cases h⟩
theorem zdw_59 : ∀ pc, pc < 70 → zD 59 pc = true := by decide +kernel
theorem zbw_59 (pc : Nat) (h : 70 ≤ pc) : zC 59 pc = (0, 0, 0, 0) := by
  show zc_59 pc = _
  unfold zc_59
  repeat rw [if_neg (by omega)]
theorem zd_59 (pc : Nat) : zD 59 pc = true := by
  by_cases h : pc < 70
  · exact zdw_59 pc h
  · unfold zD; rw [zbw_59 pc (by omega)]
theorem znw_59 : ∀ pc, pc < 70 → ¬ (zC 59 pc).1 = 30 ∧ ¬ (zC 59 pc).1 = 32 := by decide +kernel
theorem zok_59 : zOK 59 := ⟨by decide, zd_59, fun pc i a b h => by
  by_cases hp : pc < 70
  · rcases h with h | h <;> exact absurd (by rw [h]) (by first | exact (znw_59 pc hp).1 | exact (znw_59 pc hp).2)
  · rw [zbw_59 pc (by omega)] at h; rcases h with h | h <;> cases h⟩
theorem zdw_60 : ∀ pc, pc < 102 → zD 60 pc = true := by decide +kernel
theorem zbw_60 (pc : Nat) (h : 102 ≤ pc) : zC 60 pc = (0, 0, 0, 0) := by
  show zc_60 pc = _
  unfold zc_60
  repeat rw [if_neg (by omega)]
theorem zd_60 (pc : Nat) : zD 60 pc = true := by
  by_cases h : pc < 102
  · exact zdw_60 pc h
  · unfold zD; rw [zbw_60 pc (by omega)]
theorem znw_60 : ∀ pc, pc < 102 → ¬ (zC 60 pc).1 = 30 ∧ ¬ (zC 60 pc).1 = 32 := by decide +kernel
theorem zok_60 : zOK 60 := ⟨by decide, zd_60, fun pc i a b h => by
  by_cases hp : pc < 102
  · rcases h with h | h <;> exact absurd (by rw [h]) (by first | exact (znw_60 pc hp).1 | exact (znw_60 pc hp).2)
  · rw [zbw_60 pc (by omega)] at h; rcases h with h | h <;> cases h⟩
theorem zdw_61 : ∀ pc, pc < 69 → zD 61 pc = true := by decide +kernel
theorem zbw_61 (pc : Nat) (h : 69 ≤ pc) : zC 61 pc = (0, 0, 0, 0) := by
  show zc_61 pc = _
  unfold zc_61
  repeat rw [if_neg (by omega)]
theorem zd_61 (pc : Nat) : zD 61 pc = true := by
  by_cases h : pc < 69
  · exact zdw_61 pc h
  · unfold zD; rw [zbw_61 pc (by omega)]
theorem znw_61 : ∀ pc, pc < 69 → ¬ (zC 61 pc).1 = 30 ∧ ¬ (zC 61 pc).1 = 32 := by decide +kernel
theorem zok_61 : zOK 61 := ⟨by decide, zd_61, fun pc i a b h => by
  by_cases hp : pc < 69
  · rcases h with h | h <;> exact absurd (by rw [h]) (by first | exact (znw_61 pc hp).1 | exact (znw_61 pc hp).2)
  · rw [zbw_61 pc (by omega)] at h; rcases h with h | h <;> cases h⟩
theorem zdw_62 : ∀ pc, pc < 40 → zD 62 pc = true := by decide +kernel
theorem zbw_62 (pc : Nat) (h : 40 ≤ pc) : zC 62 pc = (0, 0, 0, 0) := by
  show zc_62 pc = _
  unfold zc_62
  repeat rw [if_neg (by omega)]
theorem zd_62 (pc : Nat) : zD 62 pc = true := by
  by_cases h : pc < 40
  · exact zdw_62 pc h
  · unfold zD; rw [zbw_62 pc (by omega)]
theorem znw_62 : ∀ pc, pc < 40 → ¬ (zC 62 pc).1 = 30 ∧ ¬ (zC 62 pc).1 = 32 := by decide +kernel
theorem zok_62 : zOK 62 := ⟨by decide, zd_62, fun pc i a b h => by
  by_cases hp : pc < 40
  · rcases h with h | h <;> exact absurd (by rw [h]) (by first | exact (znw_62 pc hp).1 | exact (znw_62 pc hp).2)
  · rw [zbw_62 pc (by omega)] at h; rcases h with h | h <;> cases h⟩
theorem zdw_63 : ∀ pc, pc < 73 → zD 63 pc = true := by decide +kernel
theorem zbw_63 (pc : Nat) (h : 73 ≤ pc) : zC 63 pc = (0, 0, 0, 0) := by
  show zc_63 pc = _
  unfold zc_63
  repeat rw [if_neg (by omega)]
theorem zd_63 (pc : Nat) : zD 63 pc = true := by
  by_cases h : pc < 73
  · exact zdw_63 pc h
  · unfold zD; rw [zbw_63 pc (by omega)]
theorem znw_63 : ∀ pc, pc < 73 → ¬ (zC 63 pc).1 = 30 ∧ ¬ (zC 63 pc).1 = 32 := by decide +kernel
theorem zok_63 : zOK 63 := ⟨by decide, zd_63, fun pc i a b h => by
  by_cases hp : pc < 73
  · rcases h with h | h <;> exact absurd (by rw [h]) (by first | exact (znw_63 pc hp).1 | exact (znw_63 pc hp).2)
  · rw [zbw_63 pc (by omega)] at h; rcases h with h | h <;> cases h⟩
theorem zdw_64 : ∀ pc, pc < 38 → zD 64 pc = true := by decide +kernel
theorem zbw_64 (pc : Nat) (h : 38 ≤ pc) : zC 64 pc = (0, 0, 0, 0) := by
  show zc_64 pc = _
  unfold zc_64
  repeat rw [if_neg (by omega)]
theorem zd_64 (pc : Nat) : zD 64 pc = true := by
  by_cases h : pc < 38
  · exact zdw_64 pc h
  · unfold zD; rw [zbw_64 pc (by omega)]
theorem znw_64 : ∀ pc, pc < 38 → ¬ (zC 64 pc).1 = 30 ∧ ¬ (zC 64 pc).1 = 32 := by decide +kernel
theorem zok_64 : zOK 64 := ⟨by decide, zd_64, fun pc i a b h => by
  by_cases hp : pc < 38
  · rcases h with h | h <;> exact absurd (by rw [h]) (by first | exact (znw_64 pc hp).1 | exact (znw_64 pc hp).2)
  · rw [zbw_64 pc (by omega)] at h; rcases h with h | h <;> cases h⟩
theorem zdw_65 : ∀ pc, pc < 86 → zD 65 pc = true := by decide +kernel
theorem zbw_65 (pc : Nat) (h : 86 ≤ pc) : zC 65 pc = (0, 0, 0, 0) := by
  show zc_65 pc = _
  unfold zc_65
  repeat rw [if_neg (by omega)]
theorem zd_65 (pc : Nat) : zD 65 pc = true := by
  by_cases h : pc < 86
  · exact zdw_65 pc h
  · unfold zD; rw [zbw_65 pc (by omega)]
theorem znw_65 : ∀ pc, pc < 86 → ¬ (zC 65 pc).1 = 30 ∧ ¬ (zC 65 pc).1 = 32 := by decide +kernel
theorem zok_65 : zOK 65 := ⟨by decide, zd_65, fun pc i a b h => by
  by_cases hp : pc < 86
  · rcases h with h | h <;> exact absurd (by rw [h]) (by first | exact (znw_65 pc hp).1 | exact (znw_65 pc hp).2)
  · rw [zbw_65 pc (by omega)] at h; rcases h with h | h <;> cases h⟩
theorem zdw_66 : ∀ pc, pc < 61 → zD 66 pc = true := by decide +kernel
theorem zbw_66 (pc : Nat) (h : 61 ≤ pc) : zC 66 pc = (0, 0, 0, 0) := by
  show zc_66 pc = _
  unfold zc_66
  repeat rw [if_neg (by omega)]
theorem zd_66 (pc : Nat) : zD 66 pc = true := by
  by_cases h : pc < 61
  · exact zdw_66 pc h
  · unfold zD; rw [zbw_66 pc (by omega)]
theorem znw_66 : ∀ pc, pc < 61 → ¬ (zC 66 pc).1 = 30 ∧ ¬ (zC 66 pc).1 = 32 := by decide +kernel
theorem zok_66 : zOK 66 := ⟨by decide, zd_66, fun pc i a b h => by
  by_cases hp : pc < 61
  · rcases h with h | h <;> exact absurd (by rw [h]) (by first | exact (znw_66 pc hp).1 | exact (znw_66 pc hp).2)
  · rw [zbw_66 pc (by omega)] at h; rcases h with h | h <;> cases h⟩
theorem zdw_67 : ∀ pc, pc < 30 → zD 67 pc = true := by decide +kernel
theorem zbw_67 (pc : Nat) (h : 30 ≤ pc) : zC 67 pc = (0, 0, 0, 0) := by
  show zc_67 pc = _
  unfold zc_67
  repeat rw [if_neg (by omega)]
theorem zd_67 (pc : Nat) : zD 67 pc = true := by
  by_cases h : pc < 30
  · exact zdw_67 pc h
  · unfold zD; rw [zbw_67 pc (by omega)]
theorem znw_67 : ∀ pc, pc < 30 → ¬ (zC 67 pc).1 = 30 ∧ ¬ (zC 67 pc).1 = 32 := by decide +kernel
theorem zok_67 : zOK 67 := ⟨by decide, zd_67, fun pc i a b h => by
  by_cases hp : pc < 30
  · rcases h with h | h <;> exact absurd (by rw [h]) (by first | exact (znw_67 pc hp).1 | exact (znw_67 pc hp).2)
  · rw [zbw_67 pc (by omega)] at h; rcases h with h | h <;> cases h⟩
theorem zdw_68 : ∀ pc, pc < 48 → zD 68 pc = true := by decide +kernel
theorem zbw_68 (pc : Nat) (h : 48 ≤ pc) : zC 68 pc = (0, 0, 0, 0) := by
  show zc_68 pc = _
  unfold zc_68
  repeat rw [if_neg (by omega)]
theorem zd_68 (pc : Nat) : zD 68 pc = true := by
  by_cases h : pc < 48
  · exact zdw_68 pc h
  · unfold zD; rw [zbw_68 pc (by omega)]
theorem znw_68 : ∀ pc, pc < 48 → ¬ (zC 68 pc).1 = 30 ∧ ¬ (zC 68 pc).1 = 32 := by decide +kernel
theorem zok_68 : zOK 68 := ⟨by decide, zd_68, fun pc i a b h => by
  by_cases hp : pc < 48
  · rcases h with h | h <;> exact absurd (by rw [h]) (by first | exact (znw_68 pc hp).1 | exact (znw_68 pc hp).2)
  · rw [zbw_68 pc (by omega)] at h; rcases h with h | h <;> cases h⟩
theorem zdw_69 : ∀ pc, pc < 51 → zD 69 pc = true := by decide +kernel
theorem zbw_69 (pc : Nat) (h : 51 ≤ pc) : zC 69 pc = (0, 0, 0, 0) := by
  show zc_69 pc = _
  unfold zc_69
  repeat rw [if_neg (by omega)]
theorem zd_69 (pc : Nat) : zD 69 pc = true := by
  by_cases h : pc < 51
  · exact zdw_69 pc h
  · unfold zD; rw [zbw_69 pc (by omega)]
theorem znw_69 : ∀ pc, pc < 51 → ¬ (zC 69 pc).1 = 30 ∧ ¬ (zC 69 pc).1 = 32 := by decide +kernel
theorem zok_69 : zOK 69 := ⟨by decide, zd_69, fun pc i a b h => by
  by_cases hp : pc < 51
  · rcases h with h | h <;> exact absurd (by rw [h]) (by first | exact (znw_69 pc hp).1 | exact (znw_69 pc hp).2)
  · rw [zbw_69 pc (by omega)] at h; rcases h with h | h <;> cases h⟩
theorem zdw_70 : ∀ pc, pc < 49 → zD 70 pc = true := by decide +kernel
theorem zbw_70 (pc : Nat) (h : 49 ≤ pc) : zC 70 pc = (0, 0, 0, 0) := by
  show zc_70 pc = _
  unfold zc_70
  repeat rw [if_neg (by omega)]
theorem zd_70 (pc : Nat) : zD 70 pc = true := by
  by_cases h : pc < 49
  · exact zdw_70 pc h
  · unfold zD; rw [zbw_70 pc (by omega)]
theorem znw_70 : ∀ pc, pc < 49 → ¬ (zC 70 pc).1 = 30 ∧ ¬ (zC 70 pc).1 = 32 := by decide +kernel
theorem zok_70 : zOK 70 := ⟨by decide, zd_70, fun pc i a b h => by
  by_cases hp : pc < 49
  · rcases h with h | h <;> exact absurd (by rw [h]) (by first | exact (znw_70 pc hp).1 | exact (znw_70 pc hp).2)
  · rw [zbw_70 pc (by omega)] at h; rcases h with h | h <;> cases h⟩
theorem zdw_71 : ∀ pc, pc < 69 → zD 71 pc = true := by decide +kernel
theorem zbw_71 (pc : Nat) (h : 69 ≤ pc) : zC 71 pc = (0, 0, 0, 0) := by
  show zc_71 pc = _
  unfold zc_71
  repeat rw [if_neg (by omega)]
theorem zd_71 (pc : Nat) : zD 71 pc = true := by
  by_cases h : pc < 69
  · exact zdw_71 pc h
  · unfold zD; rw [zbw_71 pc (by omega)]
theorem zds_71 : decode (zB 71) 13 = .ok (.tableswitch 54 0 2 #[27, 38, 46], 27) := by decide +kernel
theorem zsr_71 : zSwS 71 13 3 := by
  intro dom Q lv st σ x hx h p l e s m args below meth c D ad cI cZ A QQ hC hR H locs ls hP hD hS hl
  have h : zswp zsw_3.1 zsw_3.2 x (fun t => zV 71 dom Q t lv st σ) := h
  simp only [zsw_3, zswp] at h
  by_cases h0 : x = 0
  · have k := h.1 h0 p l e s m args below meth c D ad cI cZ A QQ hC hR H locs ls hP hD hS hl
    subst h0
    exact lv_tableIn (tgt := 40) hC.1 hC.2.1 zds_71 (by decide) (by decide) rfl (by decide) k
  by_cases h1 : x = 1
  · have k := (h.2 h0).1 h1 p l e s m args below meth c D ad cI cZ A QQ hC hR H locs ls hP hD hS hl
    subst h1
    exact lv_tableIn (tgt := 51) hC.1 hC.2.1 zds_71 (by decide) (by decide) rfl (by decide) k
  by_cases h2 : x = 2
  · have k := ((h.2 h0).2 h1).1 h2 p l e s m args below meth c D ad cI cZ A QQ hC hR H locs ls hP hD hS hl
    subst h2
    exact lv_tableIn (tgt := 59) hC.1 hC.2.1 zds_71 (by decide) (by decide) rfl (by decide) k
  have k := (((h.2 h0).2 h1).2 h2) p l e s m args below meth c D ad cI cZ A QQ hC hR H locs ls hP hD hS hl
  exact lv_tableOut (tgt := 67) hC.1 hC.2.1 zds_71 (by rw [zr_toInt hx]; omega) (by decide) k
theorem znw_71 : ∀ pc, pc < 69 → ((zC 71 pc).1 = 30 ∨ (zC 71 pc).1 = 32) → pc = 13 := by decide +kernel
theorem zok_71 : zOK 71 := ⟨by decide, zd_71, fun pc i a b h => by
  by_cases hp : pc < 69
  · have e := znw_71 pc hp (by rcases h with h | h <;> rw [h] <;> decide)
    subst e
    have h2 : zC 71 13 = (30, 3, 0, 0) := rfl
    rw [h2] at h
    rcases h with h | h <;> first | (cases h; exact zsr_71) | (cases h)
  · rw [zbw_71 pc (by omega)] at h; rcases h with h | h <;> cases h⟩
theorem zdw_72 : ∀ pc, pc < 51 → zD 72 pc = true := by decide +kernel
theorem zbw_72 (pc : Nat) (h : 51 ≤ pc) : zC 72 pc = (0, 0, 0, 0) := by
  show zc_72 pc = _
  unfold zc_72
  repeat rw [if_neg (by omega)]
theorem zd_72 (pc : Nat) : zD 72 pc = true := by
  by_cases h : pc < 51
  · exact zdw_72 pc h
  · unfold zD; rw [zbw_72 pc (by omega)]
theorem zds_72 : decode (zB 72) 1 = .ok (.tableswitch 48 0 2 #[27, 35, 43], 27) := by decide +kernel
theorem zsr_72 : zSwS 72 1 4 := by
  intro dom Q lv st σ x hx h p l e s m args below meth c D ad cI cZ A QQ hC hR H locs ls hP hD hS hl
  have h : zswp zsw_4.1 zsw_4.2 x (fun t => zV 72 dom Q t lv st σ) := h
  simp only [zsw_4, zswp] at h
  by_cases h0 : x = 0
  · have k := h.1 h0 p l e s m args below meth c D ad cI cZ A QQ hC hR H locs ls hP hD hS hl
    subst h0
    exact lv_tableIn (tgt := 28) hC.1 hC.2.1 zds_72 (by decide) (by decide) rfl (by decide) k
  by_cases h1 : x = 1
  · have k := (h.2 h0).1 h1 p l e s m args below meth c D ad cI cZ A QQ hC hR H locs ls hP hD hS hl
    subst h1
    exact lv_tableIn (tgt := 36) hC.1 hC.2.1 zds_72 (by decide) (by decide) rfl (by decide) k
  by_cases h2 : x = 2
  · have k := ((h.2 h0).2 h1).1 h2 p l e s m args below meth c D ad cI cZ A QQ hC hR H locs ls hP hD hS hl
    subst h2
    exact lv_tableIn (tgt := 44) hC.1 hC.2.1 zds_72 (by decide) (by decide) rfl (by decide) k
  have k := (((h.2 h0).2 h1).2 h2) p l e s m args below meth c D ad cI cZ A QQ hC hR H locs ls hP hD hS hl
  exact lv_tableOut (tgt := 49) hC.1 hC.2.1 zds_72 (by rw [zr_toInt hx]; omega) (by decide) k
theorem znw_72 : ∀ pc, pc < 51 → ((zC 72 pc).1 = 30 ∨ (zC 72 pc).1 = 32) → pc = 1 := by decide +kernel
theorem zok_72 : zOK 72 := ⟨by decide, zd_72, fun pc i a b h => by
  by_cases hp : pc < 51
  · have e := znw_72 pc hp (by rcases h with h | h <;> rw [h] <;> decide)
    subst e
    have h2 : zC 72 1 = (30, 4, 0, 0) := rfl
    rw [h2] at h
    rcases h with h | h <;> first | (cases h; exact zsr_72) | (cases h)
  · rw [zbw_72 pc (by omega)] at h; rcases h with h | h <;> cases h⟩
theorem zdw_73 : ∀ pc, pc < 44 → zD 73 pc = true := by decide +kernel
theorem zbw_73 (pc : Nat) (h : 44 ≤ pc) : zC 73 pc = (0, 0, 0, 0) := by
  show zc_73 pc = _
  unfold zc_73
  repeat rw [if_neg (by omega)]
theorem zd_73 (pc : Nat) : zD 73 pc = true := by
  by_cases h : pc < 44
  · exact zdw_73 pc h
  · unfold zD; rw [zbw_73 pc (by omega)]
theorem znw_73 : ∀ pc, pc < 44 → ¬ (zC 73 pc).1 = 30 ∧ ¬ (zC 73 pc).1 = 32 := by decide +kernel
theorem zok_73 : zOK 73 := ⟨by decide, zd_73, fun pc i a b h => by
  by_cases hp : pc < 44
  · rcases h with h | h <;> exact absurd (by rw [h]) (by first | exact (znw_73 pc hp).1 | exact (znw_73 pc hp).2)
  · rw [zbw_73 pc (by omega)] at h; rcases h with h | h <;> cases h⟩
theorem zdw_74 : ∀ pc, pc < 93 → zD 74 pc = true := by decide +kernel
theorem zbw_74 (pc : Nat) (h : 93 ≤ pc) : zC 74 pc = (0, 0, 0, 0) := by
  show zc_74 pc = _
  unfold zc_74
  repeat rw [if_neg (by omega)]
theorem zd_74 (pc : Nat) : zD 74 pc = true := by
  by_cases h : pc < 93
  · exact zdw_74 pc h
  · unfold zD; rw [zbw_74 pc (by omega)]
theorem zds_74 : decode (zB 74) 1 = .ok (.tableswitch 90 0 4 #[35, 37, 37, 42, 66], 35) := by decide +kernel
theorem zsr_74 : zSwS 74 1 5 := by
  intro dom Q lv st σ x hx h p l e s m args below meth c D ad cI cZ A QQ hC hR H locs ls hP hD hS hl
  have h : zswp zsw_5.1 zsw_5.2 x (fun t => zV 74 dom Q t lv st σ) := h
  simp only [zsw_5, zswp] at h
  by_cases h0 : x = 0
  · have k := h.1 h0 p l e s m args below meth c D ad cI cZ A QQ hC hR H locs ls hP hD hS hl
    subst h0
    exact lv_tableIn (tgt := 36) hC.1 hC.2.1 zds_74 (by decide) (by decide) rfl (by decide) k
  by_cases h1 : x = 1
  · have k := (h.2 h0).1 h1 p l e s m args below meth c D ad cI cZ A QQ hC hR H locs ls hP hD hS hl
    subst h1
    exact lv_tableIn (tgt := 38) hC.1 hC.2.1 zds_74 (by decide) (by decide) rfl (by decide) k
  by_cases h2 : x = 2
  · have k := ((h.2 h0).2 h1).1 h2 p l e s m args below meth c D ad cI cZ A QQ hC hR H locs ls hP hD hS hl
    subst h2
    exact lv_tableIn (tgt := 38) hC.1 hC.2.1 zds_74 (by decide) (by decide) rfl (by decide) k
  by_cases h3 : x = 3
  · have k := (((h.2 h0).2 h1).2 h2).1 h3 p l e s m args below meth c D ad cI cZ A QQ hC hR H locs ls hP hD hS hl
    subst h3
    exact lv_tableIn (tgt := 43) hC.1 hC.2.1 zds_74 (by decide) (by decide) rfl (by decide) k
  by_cases h4 : x = 4
  · have k := ((((h.2 h0).2 h1).2 h2).2 h3).1 h4 p l e s m args below meth c D ad cI cZ A QQ hC hR H locs ls hP hD hS hl
    subst h4
    exact lv_tableIn (tgt := 67) hC.1 hC.2.1 zds_74 (by decide) (by decide) rfl (by decide) k
  have k := (((((h.2 h0).2 h1).2 h2).2 h3).2 h4) p l e s m args below meth c D ad cI cZ A QQ hC hR H locs ls hP hD hS hl
  exact lv_tableOut (tgt := 91) hC.1 hC.2.1 zds_74 (by rw [zr_toInt hx]; omega) (by decide) k
theorem znw_74 : ∀ pc, pc < 93 → ((zC 74 pc).1 = 30 ∨ (zC 74 pc).1 = 32) → pc = 1 := by decide +kernel
theorem zok_74 : zOK 74 := ⟨by decide, zd_74, fun pc i a b h => by
  by_cases hp : pc < 93
  · have e := znw_74 pc hp (by rcases h with h | h <;> rw [h] <;> decide)
    subst e
    have h2 : zC 74 1 = (30, 5, 0, 0) := rfl
    rw [h2] at h
    rcases h with h | h <;> first | (cases h; exact zsr_74) | (cases h)
  · rw [zbw_74 pc (by omega)] at h; rcases h with h | h <;> cases h⟩
theorem zdw_75 : ∀ pc, pc < 16 → zD 75 pc = true := by decide +kernel
theorem zbw_75 (pc : Nat) (h : 16 ≤ pc) : zC 75 pc = (0, 0, 0, 0) := by
  show zc_75 pc = _
  unfold zc_75
  repeat rw [if_neg (by omega)]
theorem zd_75 (pc : Nat) : zD 75 pc = true := by
  by_cases h : pc < 16
  · exact zdw_75 pc h
  · unfold zD; rw [zbw_75 pc (by omega)]
theorem znw_75 : ∀ pc, pc < 16 → ¬ (zC 75 pc).1 = 30 ∧ ¬ (zC 75 pc).1 = 32 := by decide +kernel
theorem zok_75 : zOK 75 := ⟨by decide, zd_75, fun pc i a b h => by
  by_cases hp : pc < 16
  · rcases h with h | h <;> exact absurd (by rw [h]) (by first | exact (znw_75 pc hp).1 | exact (znw_75 pc hp).2)
  · rw [zbw_75 pc (by omega)] at h; rcases h with h | h <;> cases h⟩
theorem zdw_76 : ∀ pc, pc < 15 → zD 76 pc = true := by decide +kernel
theorem zbw_76 (pc : Nat) (h : 15 ≤ pc) : zC 76 pc = (0, 0, 0, 0) := by
  show zc_76 pc = _
  unfold zc_76
  repeat rw [if_neg (by omega)]
theorem zd_76 (pc : Nat) : zD 76 pc = true := by
  by_cases h : pc < 15
  · exact zdw_76 pc h
  · unfold zD; rw [zbw_76 pc (by omega)]
theorem znw_76 : ∀ pc, pc < 15 → ¬ (zC 76 pc).1 = 30 ∧ ¬ (zC 76 pc).1 = 32 := by decide +kernel
theorem zok_76 : zOK 76 := ⟨by decide, zd_76, fun pc i a b h => by
  by_cases hp : pc < 15
  · rcases h with h | h <;> exact absurd (by rw [h]) (by first | exact (znw_76 pc hp).1 | exact (znw_76 pc hp).2)
  · rw [zbw_76 pc (by omega)] at h; rcases h with h | h <;> cases h⟩
theorem zdw_77 : ∀ pc, pc < 16 → zD 77 pc = true := by decide +kernel
