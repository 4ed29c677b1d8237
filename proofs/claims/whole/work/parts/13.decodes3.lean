theorem zbw_77 (pc : Nat) (h : 16 ≤ pc) : zC 77 pc = (0, 0, 0, 0) := by
  show zc_77 pc = _
  unfold zc_77
  repeat rw [if_neg (by omega)]
theorem zd_77 (pc : Nat) : zD 77 pc = true := by
  by_cases h : pc < 16
  · exact zdw_77 pc h
  · unfold zD; rw [zbw_77 pc (by omega)]
theorem znw_77 : ∀ pc, pc < 16 → ¬ (zC 77 pc).1 = 30 ∧ ¬ (zC 77 pc).1 = 32 := by decide +kernel
theorem zok_77 : zOK 77 := ⟨by decide, zd_77, fun pc i a b h => by
  by_cases hp : pc < 16
  · rcases h with h | h <;> exact absurd (by rw [h]) (by first | exact (znw_77 pc hp).1 | exact (znw_77 pc hp).2)
  · rw [zbw_77 pc (by omega)] at h; rcases h with h | h <;> cases h⟩
theorem zdw_78 : ∀ pc, pc < 12 → zD 78 pc = true := by decide +kernel
theorem zbw_78 (pc : Nat) (h : 12 ≤ pc) : zC 78 pc = (0, 0, 0, 0) := by
  show zc_78 pc = _
  unfold zc_78
  repeat rw [if_neg (by omega)]
theorem zd_78 (pc : Nat) : zD 78 pc = true := by
  by_cases h : pc < 12
  · exact zdw_78 pc h
  · unfold zD; rw [zbw_78 pc (by omega)]
theorem znw_78 : ∀ pc, pc < 12 → ¬ (zC 78 pc).1 = 30 ∧ ¬ (zC 78 pc).1 = 32 := by decide +kernel
theorem zok_78 : zOK 78 := ⟨by decide, zd_78, fun pc i a b h => by
  by_cases hp : pc < 12
  · rcases h with h | h <;> exact absurd (by rw [h]) (by first | exact (znw_78 pc hp).1 | exact (znw_78 pc hp).2)
  · rw [zbw_78 pc (by omega)] at h; rcases h with h | h <;> cases h⟩
theorem zdw_79 : ∀ pc, pc < 24 → zD 79 pc = true := by decide +kernel
theorem zbw_79 (pc : Nat) (h : 24 ≤ pc) : zC 79 pc = (0, 0, 0, 0) := by
  show zc_79 pc = _
  unfold zc_79
  repeat rw [if_neg (by omega)]
theorem zd_79 (pc : Nat) : zD 79 pc = true := by
  by_cases h : pc < 24
  · exact zdw_79 pc h
  · unfold zD; rw [zbw_79 pc (by omega)]
theorem znw_79 : ∀ pc, pc < 24 → ¬ (zC 79 pc).1 = 30 ∧ ¬ (zC 79 pc).1 = 32 := by decide +kernel
theorem zok_79 : zOK 79 := ⟨by decide, zd_79, fun pc i a b h => by
  by_cases hp : pc < 24
  · rcases h with h | h <;> exact absurd (by rw [h]) (by first | exact (znw_79 pc hp).1 | exact (znw_79 pc hp).2)
  · rw [zbw_79 pc (by omega)] at h; rcases h with h | h <;> cases h⟩
theorem zdw_80 : ∀ pc, pc < 26 → zD 80 pc = true := by decide +kernel
theorem zbw_80 (pc : Nat) (h : 26 ≤ pc) : zC 80 pc = (0, 0, 0, 0) := by
  show zc_80 pc = _
  unfold zc_80
  repeat rw [if_neg (by omega)]
theorem zd_80 (pc : Nat) : zD 80 pc = true := by
  by_cases h : pc < 26
  · exact zdw_80 pc h
  · unfold zD; rw [zbw_80 pc (by omega)]
theorem znw_80 : ∀ pc, pc < 26 → ¬ (zC 80 pc).1 = 30 ∧ ¬ (zC 80 pc).1 = 32 := by decide +kernel
theorem zok_80 : zOK 80 := ⟨by decide, zd_80, fun pc i a b h => by
  by_cases hp : pc < 26
  · rcases h with h | h <;> exact absurd (by rw [h]) (by first | exact (znw_80 pc hp).1 | exact (znw_80 pc hp).2)
  · rw [zbw_80 pc (by omega)] at h; rcases h with h | h <;> cases h⟩
theorem zdw_81 : ∀ pc, pc < 72 → zD 81 pc = true := by decide +kernel
theorem zbw_81 (pc : Nat) (h : 72 ≤ pc) : zC 81 pc = (0, 0, 0, 0) := by
  show zc_81 pc = _
  unfold zc_81
  repeat rw [if_neg (by omega)]
theorem zd_81 (pc : Nat) : zD 81 pc = true := by
  by_cases h : pc < 72
  · exact zdw_81 pc h
  · unfold zD; rw [zbw_81 pc (by omega)]
theorem znw_81 : ∀ pc, pc < 72 → ¬ (zC 81 pc).1 = 30 ∧ ¬ (zC 81 pc).1 = 32 := by decide +kernel
theorem zok_81 : zOK 81 := ⟨by decide, zd_81, fun pc i a b h => by
  by_cases hp : pc < 72
  · rcases h with h | h <;> exact absurd (by rw [h]) (by first | exact (znw_81 pc hp).1 | exact (znw_81 pc hp).2)
  · rw [zbw_81 pc (by omega)] at h; rcases h with h | h <;> cases h⟩
theorem zdw_82 : ∀ pc, pc < 27 → zD 82 pc = true := by decide +kernel
theorem zbw_82 (pc : Nat) (h : 27 ≤ pc) : zC 82 pc = (0, 0, 0, 0) := by
  show zc_82 pc = _
  unfold zc_82
  repeat rw [if_neg (by omega)]
theorem zd_82 (pc : Nat) : zD 82 pc = true := by
  by_cases h : pc < 27
  · exact zdw_82 pc h
  · unfold zD; rw [zbw_82 pc (by omega)]
theorem znw_82 : ∀ pc, pc < 27 → ¬ (zC 82 pc).1 = 30 ∧ ¬ (zC 82 pc).1 = 32 := by decide +kernel
theorem zok_82 : zOK 82 := ⟨by decide, zd_82, fun pc i a b h => by
  by_cases hp : pc < 27
  · rcases h with h | h <;> exact absurd (by rw [h]) (by first | exact (znw_82 pc hp).1 | exact (znw_82 pc hp).2)
  · rw [zbw_82 pc (by omega)] at h; rcases h with h | h <;> cases h⟩
theorem zdw_83 : ∀ pc, pc < 58 → zD 83 pc = true := by decide +kernel
theorem zbw_83 (pc : Nat) (h : 58 ≤ pc) : zC 83 pc = (0, 0, 0, 0) := by
  show zc_83 pc = _
  unfold zc_83
  repeat rw [if_neg (by omega)]
theorem zd_83 (pc : Nat) : zD 83 pc = true := by
  by_cases h : pc < 58
  · exact zdw_83 pc h
  · unfold zD; rw [zbw_83 pc (by omega)]
theorem znw_83 : ∀ pc, pc < 58 → ¬ (zC 83 pc).1 = 30 ∧ ¬ (zC 83 pc).1 = 32 := by decide +kernel
theorem zok_83 : zOK 83 := ⟨by decide, zd_83, fun pc i a b h => by
  by_cases hp : pc < 58
  · rcases h with h | h <;> exact absurd (by rw [h]) (by first | exact (znw_83 pc hp).1 | exact (znw_83 pc hp).2)
  · rw [zbw_83 pc (by omega)] at h; rcases h with h | h <;> cases h⟩
theorem zdw_84 : ∀ pc, pc < 103 → zD 84 pc = true := by decide +kernel
theorem zbw_84 (pc : Nat) (h : 103 ≤ pc) : zC 84 pc = (0, 0, 0, 0) := by
  show zc_84 pc = _
  unfold zc_84
  repeat rw [if_neg (by omega)]
theorem zd_84 (pc : Nat) : zD 84 pc = true := by
  by_cases h : pc < 103
  · exact zdw_84 pc h
  · unfold zD; rw [zbw_84 pc (by omega)]
theorem znw_84 : ∀ pc, pc < 103 → ¬ (zC 84 pc).1 = 30 ∧ ¬ (zC 84 pc).1 = 32 := by decide +kernel
theorem zok_84 : zOK 84 := ⟨by decide, zd_84, fun pc i a b h => by
  by_cases hp : pc < 103
  · rcases h with h | h <;> exact absurd (by rw [h]) (by first | exact (znw_84 pc hp).1 | exact (znw_84 pc hp).2)
  · rw [zbw_84 pc (by omega)] at h; rcases h with h | h <;> cases h⟩
theorem zdw_85 : ∀ pc, pc < 206 → zD 85 pc = true := by decide +kernel
theorem zbw_85 (pc : Nat) (h : 206 ≤ pc) : zC 85 pc = (0, 0, 0, 0) := by
  show zc_85 pc = _
  unfold zc_85
  repeat rw [if_neg (by omega)]
theorem zd_85 (pc : Nat) : zD 85 pc = true := by
  by_cases h : pc < 206
  · exact zdw_85 pc h
  · unfold zD; rw [zbw_85 pc (by omega)]
theorem znw_85 : ∀ pc, pc < 206 → ¬ (zC 85 pc).1 = 30 ∧ ¬ (zC 85 pc).1 = 32 := by decide +kernel
theorem zok_85 : zOK 85 := ⟨by decide, zd_85, fun pc i a b h => by
  by_cases hp : pc < 206
  · rcases h with h | h <;> exact absurd (by rw [h]) (by first | exact (znw_85 pc hp).1 | exact (znw_85 pc hp).2)
  · rw [zbw_85 pc (by omega)] at h; rcases h with h | h <;> cases h⟩
theorem zdw_86 : ∀ pc, pc < 117 → zD 86 pc = true := by decide +kernel
theorem zbw_86 (pc : Nat) (h : 117 ≤ pc) : zC 86 pc = (0, 0, 0, 0) := by
  show zc_86 pc = _
  unfold zc_86
  repeat rw [if_neg (by omega)]
theorem zd_86 (pc : Nat) : zD 86 pc = true := by
  by_cases h : pc < 117
  · exact zdw_86 pc h
  · unfold zD; rw [zbw_86 pc (by omega)]
theorem znw_86 : ∀ pc, pc < 117 → ¬ (zC 86 pc).1 = 30 ∧ ¬ (zC 86 pc).1 = 32 := by decide +kernel
theorem zok_86 : zOK 86 := ⟨by decide, zd_86, fun pc i a b h => by
  by_cases hp : pc < 117
  · rcases h with h | h <;> exact absurd (by rw [h]) (by first | exact (znw_86 pc hp).1 | exact (znw_86 pc hp).2)
  · rw [zbw_86 pc (by omega)] at h; rcases h with h | h <;> cases h⟩
theorem zdw_87 : ∀ pc, pc < 142 → zD 87 pc = true := by decide +kernel
theorem zbw_87 (pc : Nat) (h : 142 ≤ pc) : zC 87 pc = (0, 0, 0, 0) := by
  show zc_87 pc = _
  unfold zc_87
  repeat rw [if_neg (by omega)]
theorem zd_87 (pc : Nat) : zD 87 pc = true := by
  by_cases h : pc < 142
  · exact zdw_87 pc h
  · unfold zD; rw [zbw_87 pc (by omega)]
theorem znw_87 : ∀ pc, pc < 142 → ¬ (zC 87 pc).1 = 30 ∧ ¬ (zC 87 pc).1 = 32 := by decide +kernel
theorem zok_87 : zOK 87 := ⟨by decide, zd_87, fun pc i a b h => by
  by_cases hp : pc < 142
  · rcases h with h | h <;> exact absurd (by rw [h]) (by first | exact (znw_87 pc hp).1 | exact (znw_87 pc hp).2)
  · rw [zbw_87 pc (by omega)] at h; rcases h with h | h <;> cases h⟩
theorem zdw_88 : ∀ pc, pc < 206 → zD 88 pc = true := by decide +kernel
theorem zbw_88 (pc : Nat) (h : 206 ≤ pc) : zC 88 pc = (0, 0, 0, 0) := by
  show zc_88 pc = _
  unfold zc_88
  repeat rw [if_neg (by omega)]
theorem zd_88 (pc : Nat) : zD 88 pc = true := by
  by_cases h : pc < 206
  · exact zdw_88 pc h
  · unfold zD; rw [zbw_88 pc (by omega)]
theorem znw_88 : ∀ pc, pc < 206 → ¬ (zC 88 pc).1 = 30 ∧ ¬ (zC 88 pc).1 = 32 := by decide +kernel
theorem zok_88 : zOK 88 := ⟨by decide, zd_88, fun pc i a b h => by
  by_cases hp : pc < 206
  · rcases h with h | h <;> exact absurd (by rw [h]) (by first | exact (znw_88 pc hp).1 | exact (znw_88 pc hp).2)
  · rw [zbw_88 pc (by omega)] at h; rcases h with h | h <;> cases h⟩
theorem zdw_89 : ∀ pc, pc < 25 → zD 89 pc = true := by decide +kernel
theorem zbw_89 (pc : Nat) (h : 25 ≤ pc) : zC 89 pc = (0, 0, 0, 0) := by
  show zc_89 pc = _
  unfold zc_89
  repeat rw [if_neg (by omega)]
theorem zd_89 (pc : Nat) : zD 89 pc = true := by
  by_cases h : pc < 25
  · exact zdw_89 pc h
  · unfold zD; rw [zbw_89 pc (by omega)]
theorem znw_89 : ∀ pc, pc < 25 → ¬ (zC 89 pc).1 = 30 ∧ ¬ (zC 89 pc).1 = 32 := by decide +kernel
theorem zok_89 : zOK 89 := ⟨by decide, zd_89, fun pc i a b h => by
  by_cases hp : pc < 25
  · rcases h with h | h <;> exact absurd (by rw [h]) (by first | exact (znw_89 pc hp).1 | exact (znw_89 pc hp).2)
  · rw [zbw_89 pc (by omega)] at h; rcases h with h | h <;> cases h⟩
theorem zdw_90 : ∀ pc, pc < 98 → zD 90 pc = true := by decide +kernel
theorem zbw_90 (pc : Nat) (h : 98 ≤ pc) : zC 90 pc = (0, 0, 0, 0) := by
  show zc_90 pc = _
  unfold zc_90
  repeat rw [if_neg (by omega)]
theorem zd_90 (pc : Nat) : zD 90 pc = true := by
  by_cases h : pc < 98
  · exact zdw_90 pc h
  · unfold zD; rw [zbw_90 pc (by omega)]
theorem znw_90 : ∀ pc, pc < 98 → ¬ (zC 90 pc).1 = 30 ∧ ¬ (zC 90 pc).1 = 32 := by decide +kernel
theorem zok_90 : zOK 90 := ⟨by decide, zd_90, fun pc i a b h => by
  by_cases hp : pc < 98
  · rcases h with h | h <;> exact absurd (by rw [h]) (by first | exact (znw_90 pc hp).1 | exact (znw_90 pc hp).2)
  · rw [zbw_90 pc (by omega)] at h; rcases h with h | h <;> cases h⟩
theorem zdw_91 : ∀ pc, pc < 32 → zD 91 pc = true := by decide +kernel
theorem zbw_91 (pc : Nat) (h : 32 ≤ pc) : zC 91 pc = (0, 0, 0, 0) := by
  show zc_91 pc = _
  unfold zc_91
  repeat rw [if_neg (by omega)]
theorem zd_91 (pc : Nat) : zD 91 pc = true := by
  by_cases h : pc < 32
  · exact zdw_91 pc h
  · unfold zD; rw [zbw_91 pc (by omega)]
theorem znw_91 : ∀ pc, pc < 32 → ¬ (zC 91 pc).1 = 30 ∧ ¬ (zC 91 pc).1 = 32 := by decide +kernel
theorem zok_91 : zOK 91 := ⟨by decide, zd_91, fun pc i a b h => by
  by_cases hp : pc < 32
  · rcases h with h | h <;> exact absurd (by rw [h]) (by first | exact (znw_91 pc hp).1 | exact (znw_91 pc hp).2)
  · rw [zbw_91 pc (by omega)] at h; rcases h with h | h <;> cases h⟩
theorem zdw_92 : ∀ pc, pc < 225 → zD 92 pc = true := by decide +kernel
theorem zbw_92 (pc : Nat) (h : 225 ≤ pc) : zC 92 pc = (0, 0, 0, 0) := by
  show zc_92 pc = _
  unfold zc_92
  repeat rw [if_neg (by omega)]
theorem zd_92 (pc : Nat) : zD 92 pc = true := by
  by_cases h : pc < 225
  · exact zdw_92 pc h
  · unfold zD; rw [zbw_92 pc (by omega)]
theorem znw_92 : ∀ pc, pc < 225 → ¬ (zC 92 pc).1 = 30 ∧ ¬ (zC 92 pc).1 = 32 := by decide +kernel
theorem zok_92 : zOK 92 := ⟨by decide, zd_92, fun pc i a b h => by
  by_cases hp : pc < 225
  · rcases h with h | h <;> exact absurd (by rw [h]) (by first | exact (znw_92 pc hp).1 | exact (znw_92 pc hp).2)
  · rw [zbw_92 pc (by omega)] at h; rcases h with h | h <;> cases h⟩
theorem zdw_93 : ∀ pc, pc < 80 → zD 93 pc = true := by decide +kernel
theorem zbw_93 (pc : Nat) (h : 80 ≤ pc) : zC 93 pc = (0, 0, 0, 0) := by
  show zc_93 pc = _
  unfold zc_93
  repeat rw [if_neg (by omega)]
theorem zd_93 (pc : Nat) : zD 93 pc = true := by
  by_cases h : pc < 80
  · exact zdw_93 pc h
  · unfold zD; rw [zbw_93 pc (by omega)]
theorem znw_93 : ∀ pc, pc < 80 → ¬ (zC 93 pc).1 = 30 ∧ ¬ (zC 93 pc).1 = 32 := by decide +kernel
theorem zok_93 : zOK 93 := ⟨by decide, zd_93, fun pc i a b h => by
  by_cases hp : pc < 80
  · rcases h with h | h <;> exact absurd (by rw [h]) (by first | exact (znw_93 pc hp).1 | exact (znw_93 pc hp).2)
  · rw [zbw_93 pc (by omega)] at h; rcases h with h | h <;> cases h⟩
theorem zdw_94 : ∀ pc, pc < 108 → zD 94 pc = true := by decide +kernel
theorem zbw_94 (pc : Nat) (h : 108 ≤ pc) : zC 94 pc = (0, 0, 0, 0) := by
  show zc_94 pc = _
  unfold zc_94
  repeat rw [if_neg (by omega)]
theorem zd_94 (pc : Nat) : zD 94 pc = true := by
  by_cases h : pc < 108
  · exact zdw_94 pc h
  · unfold zD; rw [zbw_94 pc (by omega)]
theorem znw_94 : ∀ pc, pc < 108 → ¬ (zC 94 pc).1 = 30 ∧ ¬ (zC 94 pc).1 = 32 := by decide +kernel
theorem zok_94 : zOK 94 := ⟨by decide, zd_94, fun pc i a b h => by
  by_cases hp : pc < 108
  · rcases h with h | h <;> exact absurd (by rw [h]) (by first | exact (znw_94 pc hp).1 | exact (znw_94 pc hp).2)
  · rw [zbw_94 pc (by omega)] at h; rcases h with h | h <;> cases h⟩
theorem zdw_95 : ∀ pc, pc < 272 → zD 95 pc = true := by decide +kernel
theorem zbw_95 (pc : Nat) (h : 272 ≤ pc) : zC 95 pc = (0, 0, 0, 0) := by
  show zc_95 pc = _
  unfold zc_95
  repeat rw [if_neg (by omega)]
theorem zd_95 (pc : Nat) : zD 95 pc = true := by
  by_cases h : pc < 272
  · exact zdw_95 pc h
  · unfold zD; rw [zbw_95 pc (by omega)]
theorem znw_95 : ∀ pc, pc < 272 → ¬ (zC 95 pc).1 = 30 ∧ ¬ (zC 95 pc).1 = 32 := by decide +kernel
theorem zok_95 : zOK 95 := ⟨by decide, zd_95, fun pc i a b h => by
  by_cases hp : pc < 272
  · rcases h with h | h <;> exact absurd (by rw [h]) (by first | exact (znw_95 pc hp).1 | exact (znw_95 pc hp).2)
  · rw [zbw_95 pc (by omega)] at h; rcases h with h | h <;> cases h⟩
theorem zdw_96 : ∀ pc, pc < 218 → zD 96 pc = true := by decide +kernel
theorem zbw_96 (pc : Nat) (h : 218 ≤ pc) : zC 96 pc = (0, 0, 0, 0) := by
  show zc_96 pc = _
  unfold zc_96
  repeat rw [if_neg (by omega)]
theorem zd_96 (pc : Nat) : zD 96 pc = true := by
  by_cases h : pc < 218
  · exact zdw_96 pc h
  · unfold zD; rw [zbw_96 pc (by omega)]
theorem znw_96 : ∀ pc, pc < 218 → ¬ (zC 96 pc).1 = 30 ∧ ¬ (zC 96 pc).1 = 32 := by decide +kernel
theorem zok_96 : zOK 96 := ⟨by decide, zd_96, fun pc i a b h => by
  by_cases hp : pc < 218
  · rcases h with h | h <;> exact absurd (by rw [h]) (by first | exact (znw_96 pc hp).1 | exact (znw_96 pc hp).2)
  · rw [zbw_96 pc (by omega)] at h; rcases h with h | h <;> cases h⟩
theorem zdw_97 : ∀ pc, pc < 35 → zD 97 pc = true := by decide +kernel
theorem zbw_97 (pc : Nat) (h : 35 ≤ pc) : zC 97 pc = (0, 0, 0, 0) := by
  show zc_97 pc = _
  unfold zc_97
  repeat rw [if_neg (by omega)]
theorem zd_97 (pc : Nat) : zD 97 pc = true := by
  by_cases h : pc < 35
  · exact zdw_97 pc h
  · unfold zD; rw [zbw_97 pc (by omega)]
theorem znw_97 : ∀ pc, pc < 35 → ¬ (zC 97 pc).1 = 30 ∧ ¬ (zC 97 pc).1 = 32 := by decide +kernel
theorem zok_97 : zOK 97 := ⟨by decide, zd_97, fun pc i a b h => by
  by_cases hp : pc < 35
  · rcases h with h | h <;> exact absurd (by rw [h]) (by first | exact (znw_97 pc hp).1 | exact (znw_97 pc hp).2)
  · rw [zbw_97 pc (by omega)] at h; rcases h with h | h <;> cases h⟩
theorem zdw_98 : ∀ pc, pc < 66 → zD 98 pc = true := by decide +kernel
theorem zbw_98 (pc : Nat) (h : 66 ≤ pc) : zC 98 pc = (0, 0, 0, 0) := by
  show zc_98 pc = _
  unfold zc_98
  repeat rw [if_neg (by omega)]
theorem zd_98 (pc : Nat) : zD 98 pc = true := by
  by_cases h : pc < 66
  · exact zdw_98 pc h
  · unfold zD; rw [zbw_98 pc (by omega)]
theorem znw_98 : ∀ pc, pc < 66 → ¬ (zC 98 pc).1 = 30 ∧ ¬ (zC 98 pc).1 = 32 := by decide +kernel
theorem zok_98 : zOK 98 := ⟨by decide, zd_98, fun pc i a b h => by
  by_cases hp : pc < 66
  · rcases h with h | h <;> exact absurd (by rw [h]) (by first | exact (znw_98 pc hp).1 | exact (znw_98 pc hp).2)
  · rw [zbw_98 pc (by omega)] at h; rcases h with h | h <;> cases h⟩
theorem zdw_99 : ∀ pc, pc < 121 → zD 99 pc = true := by decide +kernel
theorem zbw_99 (pc : Nat) (h : 121 ≤ pc) : zC 99 pc = (0, 0, 0, 0) := by
  show zc_99 pc = _
  unfold zc_99
  repeat rw [if_neg (by omega)]
theorem zd_99 (pc : Nat) : zD 99 pc = true := by
  by_cases h : pc < 121
  · exact zdw_99 pc h
  · unfold zD; rw [zbw_99 pc (by omega)]
theorem znw_99 : ∀ pc, pc < 121 → ¬ (zC 99 pc).1 = 30 ∧ ¬ (zC 99 pc).1 = 32 := by decide +kernel
theorem zok_99 : zOK 99 := ⟨by decide, zd_99, fun pc i a b h => by
  by_cases hp : pc < 121
  · rcases h with h | h <;> exact absurd (by rw [h]) (by first | exact (znw_99 pc hp).1 | exact (znw_99 pc hp).2)
  · rw [zbw_99 pc (by omega)] at h; rcases h with h | h <;> cases h⟩
theorem zdw_100 : ∀ pc, pc < 60 → zD 100 pc = true := by decide +kernel
theorem zbw_100 (pc : Nat) (h : 60 ≤ pc) : zC 100 pc = (0, 0, 0, 0) := by
  show zc_100 pc = _
  unfold zc_100
  repeat rw [if_neg (by omega)]
theorem zd_100 (pc : Nat) : zD 100 pc = true := by
  by_cases h : pc < 60
  · exact zdw_100 pc h
  · unfold zD; rw [zbw_100 pc (by omega)]
theorem znw_100 : ∀ pc, pc < 60 → ¬ (zC 100 pc).1 = 30 ∧ ¬ (zC 100 pc).1 = 32 := by decide +kernel
theorem zok_100 : zOK 100 := ⟨by decide, zd_100, fun pc i a b h => by
  by_cases hp : pc < 60
  · rcases h with h | h <;> exact absurd (by rw [h]) (by first | exact (znw_100 pc hp).1 | exact (znw_100 pc hp).2)
  · rw [zbw_100 pc (by omega)] at h; rcases h with h | h <;> cases h⟩
theorem zdw_101 : ∀ pc, pc < 130 → zD 101 pc = true := by decide +kernel
theorem zbw_101 (pc : Nat) (h : 130 ≤ pc) : zC 101 pc = (0, 0, 0, 0) := by
  show zc_101 pc = _
  unfold zc_101
  repeat rw [if_neg (by omega)]
theorem zd_101 (pc : Nat) : zD 101 pc = true := by
  by_cases h : pc < 130
  · exact zdw_101 pc h
  · unfold zD; rw [zbw_101 pc (by omega)]
theorem znw_101 : ∀ pc, pc < 130 → ¬ (zC 101 pc).1 = 30 ∧ ¬ (zC 101 pc).1 = 32 := by decide +kernel
theorem zok_101 : zOK 101 := ⟨by decide, zd_101, fun pc i a b h => by
  by_cases hp : pc < 130
  · rcases h with h | h <;> exact absurd (by rw [h]) (by first | exact (znw_101 pc hp).1 | exact (znw_101 pc hp).2)
  · rw [zbw_101 pc (by omega)] at h; rcases h with h | h <;> cases h⟩
theorem zdw_102 : ∀ pc, pc < 134 → zD 102 pc = true := by decide +kernel
theorem zbw_102 (pc : Nat) (h : 134 ≤ pc) : zC 102 pc = (0, 0, 0, 0) := by
  show zc_102 pc = _
  unfold zc_102
  repeat rw [if_neg (by omega)]
theorem zd_102 (pc : Nat) : zD 102 pc = true := by
  by_cases h : pc < 134
  · exact zdw_102 pc h
  · unfold zD; rw [zbw_102 pc (by omega)]
theorem znw_102 : ∀ pc, pc < 134 → ¬ (zC 102 pc).1 = 30 ∧ ¬ (zC 102 pc).1 = 32 := by decide +kernel
theorem zok_102 : zOK 102 := ⟨by decide, zd_102, fun pc i a b h => by
  by_cases hp : pc < 134
  · rcases h with h | h <;> exact absurd (by rw [h]) (by first | exact (znw_102 pc hp).1 | exact (znw_102 pc hp).2)
  · rw [zbw_102 pc (by omega)] at h; rcases h with h | h <;> cases h⟩
theorem zdw_103 : ∀ pc, pc < 59 → zD 103 pc = true := by decide +kernel
theorem zbw_103 (pc : Nat) (h : 59 ≤ pc) : zC 103 pc = (0, 0, 0, 0) := by
  show zc_103 pc = _
  unfold zc_103
  repeat rw [if_neg (by omega)]
theorem zd_103 (pc : Nat) : zD 103 pc = true := by
  by_cases h : pc < 59
  · exact zdw_103 pc h
  · unfold zD; rw [zbw_103 pc (by omega)]
theorem znw_103 : ∀ pc, pc < 59 → ¬ (zC 103 pc).1 = 30 ∧ ¬ (zC 103 pc).1 = 32 := by decide +kernel
theorem zok_103 : zOK 103 := ⟨by decide, zd_103, fun pc i a b h => by
  by_cases hp : pc < 59
  · rcases h with h | h <;> exact absurd (by rw [h]) (by first | exact (znw_103 pc hp).1 | exact (znw_103 pc hp).2)
  · rw [zbw_103 pc (by omega)] at h; rcases h with h | h <;> cases h⟩
theorem zdw_104 : ∀ pc, pc < 82 → zD 104 pc = true := by decide +kernel
theorem zbw_104 (pc : Nat) (h : 82 ≤ pc) : zC 104 pc = (0, 0, 0, 0) := by
  show zc_104 pc = _
  unfold zc_104
  repeat rw [if_neg (by omega)]
theorem zd_104 (pc : Nat) : zD 104 pc = true := by
  by_cases h : pc < 82
  · exact zdw_104 pc h
  · unfold zD; rw [zbw_104 pc (by omega)]
theorem znw_104 : ∀ pc, pc < 82 → ¬ (zC 104 pc).1 = 30 ∧ ¬ (zC 104 pc).1 = 32 := by decide +kernel
theorem zok_104 : zOK 104 := ⟨by decide, zd_104, fun pc i a b h => by
  by_cases hp : pc < 82
  · rcases h with h | h <;> exact absurd (by rw [h]) (by first | exact (znw_104 pc hp).1 | exact (znw_104 pc hp).2)
  · rw [zbw_104 pc (by omega)] at h; rcases h with h | h <;> cases h⟩
theorem zdw_105 : ∀ pc, pc < 31 → zD 105 pc = true := by decide +kernel
theorem zbw_105 (pc : Nat) (h : 31 ≤ pc) : zC 105 pc = (0, 0, 0, 0) := by
  show zc_105 pc = _
  unfold zc_105
  repeat rw [if_neg (by omega)]
theorem zd_105 (pc : Nat) : zD 105 pc = true := by
  by_cases h : pc < 31
  · exact zdw_105 pc h
  · unfold zD; rw [zbw_105 pc (by omega)]
theorem znw_105 : ∀ pc, pc < 31 → ¬ (zC 105 pc).1 = 30 ∧ ¬ (zC 105 pc).1 = 32 := by decide +kernel
theorem zok_105 : zOK 105 := ⟨by decide, zd_105, fun pc i a b h => by
  by_cases hp : pc < 31
  · rcases h with h | h <;> exact absurd (by rw [h]) (by first | exact (znw_105 pc hp).1 | exact (znw_105 pc hp).2)
  · rw [zbw_105 pc (by omega)] at h; rcases h with h | h <;> cases h⟩
theorem zdw_106 : ∀ pc, pc < 78 → zD 106 pc = true := by decide +kernel
theorem zbw_106 (pc : Nat) (h : 78 ≤ pc) : zC 106 pc = (0, 0, 0, 0) := by
  show zc_106 pc = _
  unfold zc_106
  repeat rw [if_neg (by omega)]
theorem zd_106 (pc : Nat) : zD 106 pc = true := by
  by_cases h : pc < 78
  · exact zdw_106 pc h
  · unfold zD; rw [zbw_106 pc (by omega)]
theorem znw_106 : ∀ pc, pc < 78 → ¬ (zC 106 pc).1 = 30 ∧ ¬ (zC 106 pc).1 = 32 := by decide +kernel
theorem zok_106 : zOK 106 := ⟨by decide, zd_106, fun pc i a b h => by
  by_cases hp : pc < 78
  · rcases h with h | h <;> exact absurd (by rw [h]) (by first | exact (znw_106 pc hp).1 | exact (znw_106 pc hp).2)
  · rw [zbw_106 pc (by omega)] at h; rcases h with h | h <;> cases h⟩
theorem zdw_107 : ∀ pc, pc < 188 → zD 107 pc = true := by decide +kernel
theorem zbw_107 (pc : Nat) (h : 188 ≤ pc) : zC 107 pc = (0, 0, 0, 0) := by
  show zc_107 pc = _
  unfold zc_107
  repeat rw [if_neg (by omega)]
theorem zd_107 (pc : Nat) : zD 107 pc = true := by
  by_cases h : pc < 188
  · exact zdw_107 pc h
  · unfold zD; rw [zbw_107 pc (by omega)]
theorem znw_107 : ∀ pc, pc < 188 → ¬ (zC 107 pc).1 = 30 ∧ ¬ (zC 107 pc).1 = 32 := by decide +kernel
theorem zok_107 : zOK 107 := ⟨by decide, zd_107, fun pc i a b h => by
  by_cases hp : pc < 188
  · rcases h with h | h <;> exact absurd (by rw [h]) (by first | exact (znw_107 pc hp).1 | exact (znw_107 pc hp).2)
  · rw [zbw_107 pc (by omega)] at h; rcases h with h | h <;> cases h⟩
theorem zdw_108 : ∀ pc, pc < 132 → zD 108 pc = true := by decide +kernel
theorem zbw_108 (pc : Nat) (h : 132 ≤ pc) : zC 108 pc = (0, 0, 0, 0) := by
  show zc_108 pc = _
  unfold zc_108
  repeat rw [if_neg (by omega)]
theorem zd_108 (pc : Nat) : zD 108 pc = true := by
  by_cases h : pc < 132
  · exact zdw_108 pc h
  · unfold zD; rw [zbw_108 pc (by omega)]
theorem znw_108 : ∀ pc, pc < 132 → ¬ (zC 108 pc).1 = 30 ∧ ¬ (zC 108 pc).1 = 32 := by decide +kernel
theorem zok_108 : zOK 108 := ⟨by decide, zd_108, fun pc i a b h => by
  by_cases hp : pc < 132
  · rcases h with h | h <;> exact absurd (by rw [h]) (by first | exact (znw_108 pc hp).1 | exact (znw_108 pc hp).2)
  · rw [zbw_108 pc (by omega)] at h; rcases h with h | h <;> cases h⟩
theorem zdw_109 : ∀ pc, pc < 28 → zD 109 pc = true := by decide +kernel
theorem zbw_109 (pc : Nat) (h : 28 ≤ pc) : zC 109 pc = (0, 0, 0, 0) := by
  show zc_109 pc = _
  unfold zc_109
  repeat rw [if_neg (by omega)]
theorem zd_109 (pc : Nat) : zD 109 pc = true := by
  by_cases h : pc < 28
  · exact zdw_109 pc h
  · unfold zD; rw [zbw_109 pc (by omega)]
theorem znw_109 : ∀ pc, pc < 28 → ¬ (zC 109 pc).1 = 30 ∧ ¬ (zC 109 pc).1 = 32 := by decide +kernel
theorem zok_109 : zOK 109 := ⟨by decide, zd_109, fun pc i a b h => by
  by_cases hp : pc < 28
  · rcases h with h | h <;> exact absurd (by rw [h]) (by first | exact (znw_109 pc hp).1 | exact (znw_109 pc hp).2)
  · rw [zbw_109 pc (by omega)] at h; rcases h with h | h <;> cases h⟩
theorem zdw_110 : ∀ pc, pc < 26 → zD 110 pc = true := by decide +kernel
theorem zbw_110 (pc : Nat) (h : 26 ≤ pc) : zC 110 pc = (0, 0, 0, 0) := by
  show zc_110 pc = _
  unfold zc_110
  repeat rw [if_neg (by omega)]
theorem zd_110 (pc : Nat) : zD 110 pc = true := by
  by_cases h : pc < 26
  · exact zdw_110 pc h
  · unfold zD; rw [zbw_110 pc (by omega)]
theorem znw_110 : ∀ pc, pc < 26 → ¬ (zC 110 pc).1 = 30 ∧ ¬ (zC 110 pc).1 = 32 := by decide +kernel
theorem zok_110 : zOK 110 := ⟨by decide, zd_110, fun pc i a b h => by
  by_cases hp : pc < 26
  · rcases h with h | h <;> exact absurd (by rw [h]) (by first | exact (znw_110 pc hp).1 | exact (znw_110 pc hp).2)
  · rw [zbw_110 pc (by omega)] at h; rcases h with h | h <;> cases h⟩
theorem zdw_111 : ∀ pc, pc < 51 → zD 111 pc = true := by decide +kernel
theorem zbw_111 (pc : Nat) (h : 51 ≤ pc) : zC 111 pc = (0, 0, 0, 0) := by
  show zc_111 pc = _
  unfold zc_111
  repeat rw [if_neg (by omega)]
theorem zd_111 (pc : Nat) : zD 111 pc = true := by
  by_cases h : pc < 51
  · exact zdw_111 pc h
  · unfold zD; rw [zbw_111 pc (by omega)]
theorem znw_111 : ∀ pc, pc < 51 → ¬ (zC 111 pc).1 = 30 ∧ ¬ (zC 111 pc).1 = 32 := by decide +kernel
theorem zok_111 : zOK 111 := ⟨by decide, zd_111, fun pc i a b h => by
  by_cases hp : pc < 51
  · rcases h with h | h <;> exact absurd (by rw [h]) (by first | exact (znw_111 pc hp).1 | exact (znw_111 pc hp).2)
  · rw [zbw_111 pc (by omega)] at h; rcases h with h | h <;> cases h⟩
theorem zdw_112 : ∀ pc, pc < 169 → zD 112 pc = true := by decide +kernel
theorem zbw_112 (pc : Nat) (h : 169 ≤ pc) : zC 112 pc = (0, 0, 0, 0) := by
  show zc_112 pc = _
  unfold zc_112
  repeat rw [if_neg (by omega)]
theorem zd_112 (pc : Nat) : zD 112 pc = true := by
  by_cases h : pc < 169
  · exact zdw_112 pc h
  · unfold zD; rw [zbw_112 pc (by omega)]
theorem znw_112 : ∀ pc, pc < 169 → ¬ (zC 112 pc).1 = 30 ∧ ¬ (zC 112 pc).1 = 32 := by decide +kernel
theorem zok_112 : zOK 112 := ⟨by decide, zd_112, fun pc i a b h => by
  by_cases hp : pc < 169
  · rcases h with h | h <;> exact absurd (by rw [h]) (by first | exact (znw_112 pc hp).1 | exact (znw_112 pc hp).2)
  · rw [zbw_112 pc (by omega)] at h; rcases h with h | h <;> cases h⟩
theorem zdw_113 : ∀ pc, pc < 202 → zD 113 pc = true := by decide +kernel
theorem zbw_113 (pc : Nat) (h : 202 ≤ pc) : zC 113 pc = (0, 0, 0, 0) := by
  show zc_113 pc = _
  unfold zc_113
  repeat rw [if_neg (by omega)]
theorem zd_113 (pc : Nat) : zD 113 pc = true := by
  by_cases h : pc < 202
  · exact zdw_113 pc h
  · unfold zD; rw [zbw_113 pc (by omega)]
theorem znw_113 : ∀ pc, pc < 202 → ¬ (zC 113 pc).1 = 30 ∧ ¬ (zC 113 pc).1 = 32 := by decide +kernel
theorem zok_113 : zOK 113 := ⟨by decide, zd_113, fun pc i a b h => by
  by_cases hp : pc < 202
  · rcases h with h | h <;> exact absurd (by rw [h]) (by first | exact (znw_113 pc hp).1 | exact (znw_113 pc hp).2)
  · rw [zbw_113 pc (by omega)] at h; rcases h with h | h <;> cases h⟩
theorem zdw_114 : ∀ pc, pc < 46 → zD 114 pc = true := by decide +kernel
theorem zbw_114 (pc : Nat) (h : 46 ≤ pc) : zC 114 pc = (0, 0, 0, 0) := by
  show zc_114 pc = _
  unfold zc_114
  repeat rw [if_neg (by omega)]
theorem zd_114 (pc : Nat) : zD 114 pc = true := by
  by_cases h : pc < 46
  · exact zdw_114 pc h
  · unfold zD; rw [zbw_114 pc (by omega)]
theorem znw_114 : ∀ pc, pc < 46 → ¬ (zC 114 pc).1 = 30 ∧ ¬ (zC 114 pc).1 = 32 := by decide +kernel
theorem zok_114 : zOK 114 := ⟨by decide, zd_114, fun pc i a b h => by
  by_cases hp : pc < 46
  · rcases h with h | h <;> exact absurd (by rw [h]) (by first | exact (znw_114 pc hp).1 | exact (znw_114 pc hp).2)
  · rw [zbw_114 pc (by omega)] at h; rcases h with h | h <;> cases h⟩
theorem zdw_115 : ∀ pc, pc < 74 → zD 115 pc = true := by decide +kernel
theorem zbw_115 (pc : Nat) (h : 74 ≤ pc) : zC 115 pc = (0, 0, 0, 0) := by
  show zc_115 pc = _
  unfold zc_115
  repeat rw [if_neg (by omega)]
theorem zd_115 (pc : Nat) : zD 115 pc = true := by
  by_cases h : pc < 74
  · exact zdw_115 pc h
  · unfold zD; rw [zbw_115 pc (by omega)]
theorem znw_115 : ∀ pc, pc < 74 → ¬ (zC 115 pc).1 = 30 ∧ ¬ (zC 115 pc).1 = 32 := by decide +kernel
theorem zok_115 : zOK 115 := ⟨by decide, zd_115, fun pc i a b h => by
  by_cases hp : pc < 74
  · rcases h with h | h <;> exact absurd (by rw [h]) (by first | exact (znw_115 pc hp).1 | exact (znw_115 pc hp).2)
  · rw [zbw_115 pc (by omega)] at h; rcases h with h | h <;> cases h⟩
theorem zdw_116 : ∀ pc, pc < 21 → zD 116 pc = true := by decide +kernel
theorem zbw_116 (pc : Nat) (h : 21 ≤ pc) : zC 116 pc = (0, 0, 0, 0) := by
  show zc_116 pc = _
  unfold zc_116
  repeat rw [if_neg (by omega)]
theorem zd_116 (pc : Nat) : zD 116 pc = true := by
  by_cases h : pc < 21
  · exact zdw_116 pc h
  · unfold zD; rw [zbw_116 pc (by omega)]
theorem znw_116 : ∀ pc, pc < 21 → ¬ (zC 116 pc).1 = 30 ∧ ¬ (zC 116 pc).1 = 32 := by decide +kernel
theorem zok_116 : zOK 116 := ⟨by decide, zd_116, fun pc i a b h => by
  by_cases hp : pc < 21
  · rcases h with h | h <;> exact absurd (by rw [h]) (by first | exact (znw_116 pc hp).1 | exact (znw_116 pc hp).2)
  · rw [zbw_116 pc (by omega)] at h; rcases h with h | h <;> cases h⟩
