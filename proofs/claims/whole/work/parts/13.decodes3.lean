theorem zdw_77 : ∀ pc, pc < 16 → zD 77 pc = true := by decide +kernel
theorem zbw_77 (pc : Nat) (h : 16 ≤ pc) : zC 77 pc = (0, 0, 0, 0) := by
  show zc_77 pc = _
  unfold zc_77
  repeat rw [if_neg (by omega)]
theorem znw_77 : ∀ pc, pc < 16 → ¬ (zC 77 pc).1 = 30 ∧ ¬ (zC 77 pc).1 = 32 := by decide +kernel
theorem zok_77 : zOK 77 := zok_of (by decide) zdw_77 zbw_77 znw_77
theorem zdw_78 : ∀ pc, pc < 12 → zD 78 pc = true := by decide +kernel
theorem zbw_78 (pc : Nat) (h : 12 ≤ pc) : zC 78 pc = (0, 0, 0, 0) := by
  show zc_78 pc = _
  unfold zc_78
  repeat rw [if_neg (by omega)]
theorem znw_78 : ∀ pc, pc < 12 → ¬ (zC 78 pc).1 = 30 ∧ ¬ (zC 78 pc).1 = 32 := by decide +kernel
theorem zok_78 : zOK 78 := zok_of (by decide) zdw_78 zbw_78 znw_78
theorem zdw_79 : ∀ pc, pc < 24 → zD 79 pc = true := by decide +kernel
theorem zbw_79 (pc : Nat) (h : 24 ≤ pc) : zC 79 pc = (0, 0, 0, 0) := by
  show zc_79 pc = _
  unfold zc_79
  repeat rw [if_neg (by omega)]
theorem znw_79 : ∀ pc, pc < 24 → ¬ (zC 79 pc).1 = 30 ∧ ¬ (zC 79 pc).1 = 32 := by decide +kernel
theorem zok_79 : zOK 79 := zok_of (by decide) zdw_79 zbw_79 znw_79
theorem zdw_80 : ∀ pc, pc < 26 → zD 80 pc = true := by decide +kernel
theorem zbw_80 (pc : Nat) (h : 26 ≤ pc) : zC 80 pc = (0, 0, 0, 0) := by
  show zc_80 pc = _
  unfold zc_80
  repeat rw [if_neg (by omega)]
theorem znw_80 : ∀ pc, pc < 26 → ¬ (zC 80 pc).1 = 30 ∧ ¬ (zC 80 pc).1 = 32 := by decide +kernel
theorem zok_80 : zOK 80 := zok_of (by decide) zdw_80 zbw_80 znw_80
theorem zdw_81 : ∀ pc, pc < 72 → zD 81 pc = true := by decide +kernel
theorem zbw_81 (pc : Nat) (h : 72 ≤ pc) : zC 81 pc = (0, 0, 0, 0) := by
  show zc_81 pc = _
  unfold zc_81
  repeat rw [if_neg (by omega)]
theorem znw_81 : ∀ pc, pc < 72 → ¬ (zC 81 pc).1 = 30 ∧ ¬ (zC 81 pc).1 = 32 := by decide +kernel
theorem zok_81 : zOK 81 := zok_of (by decide) zdw_81 zbw_81 znw_81
theorem zdw_82 : ∀ pc, pc < 27 → zD 82 pc = true := by decide +kernel
theorem zbw_82 (pc : Nat) (h : 27 ≤ pc) : zC 82 pc = (0, 0, 0, 0) := by
  show zc_82 pc = _
  unfold zc_82
  repeat rw [if_neg (by omega)]
theorem znw_82 : ∀ pc, pc < 27 → ¬ (zC 82 pc).1 = 30 ∧ ¬ (zC 82 pc).1 = 32 := by decide +kernel
theorem zok_82 : zOK 82 := zok_of (by decide) zdw_82 zbw_82 znw_82
theorem zdw_83 : ∀ pc, pc < 58 → zD 83 pc = true := by decide +kernel
theorem zbw_83 (pc : Nat) (h : 58 ≤ pc) : zC 83 pc = (0, 0, 0, 0) := by
  show zc_83 pc = _
  unfold zc_83
  repeat rw [if_neg (by omega)]
theorem znw_83 : ∀ pc, pc < 58 → ¬ (zC 83 pc).1 = 30 ∧ ¬ (zC 83 pc).1 = 32 := by decide +kernel
theorem zok_83 : zOK 83 := zok_of (by decide) zdw_83 zbw_83 znw_83
theorem zdw_84 : ∀ pc, pc < 103 → zD 84 pc = true := by decide +kernel
theorem zbw_84 (pc : Nat) (h : 103 ≤ pc) : zC 84 pc = (0, 0, 0, 0) := by
  show zc_84 pc = _
  unfold zc_84
  repeat rw [if_neg (by omega)]
theorem znw_84 : ∀ pc, pc < 103 → ¬ (zC 84 pc).1 = 30 ∧ ¬ (zC 84 pc).1 = 32 := by decide +kernel
theorem zok_84 : zOK 84 := zok_of (by decide) zdw_84 zbw_84 znw_84
theorem zdw_85 : ∀ pc, pc < 206 → zD 85 pc = true := by decide +kernel
theorem zbw_85 (pc : Nat) (h : 206 ≤ pc) : zC 85 pc = (0, 0, 0, 0) := by
  show zc_85 pc = _
  unfold zc_85
  repeat rw [if_neg (by omega)]
theorem znw_85 : ∀ pc, pc < 206 → ¬ (zC 85 pc).1 = 30 ∧ ¬ (zC 85 pc).1 = 32 := by decide +kernel
theorem zok_85 : zOK 85 := zok_of (by decide) zdw_85 zbw_85 znw_85
theorem zdw_86 : ∀ pc, pc < 117 → zD 86 pc = true := by decide +kernel
theorem zbw_86 (pc : Nat) (h : 117 ≤ pc) : zC 86 pc = (0, 0, 0, 0) := by
  show zc_86 pc = _
  unfold zc_86
  repeat rw [if_neg (by omega)]
theorem znw_86 : ∀ pc, pc < 117 → ¬ (zC 86 pc).1 = 30 ∧ ¬ (zC 86 pc).1 = 32 := by decide +kernel
theorem zok_86 : zOK 86 := zok_of (by decide) zdw_86 zbw_86 znw_86
theorem zdw_87 : ∀ pc, pc < 142 → zD 87 pc = true := by decide +kernel
theorem zbw_87 (pc : Nat) (h : 142 ≤ pc) : zC 87 pc = (0, 0, 0, 0) := by
  show zc_87 pc = _
  unfold zc_87
  repeat rw [if_neg (by omega)]
theorem znw_87 : ∀ pc, pc < 142 → ¬ (zC 87 pc).1 = 30 ∧ ¬ (zC 87 pc).1 = 32 := by decide +kernel
theorem zok_87 : zOK 87 := zok_of (by decide) zdw_87 zbw_87 znw_87
theorem zdw_88 : ∀ pc, pc < 206 → zD 88 pc = true := by decide +kernel
theorem zbw_88 (pc : Nat) (h : 206 ≤ pc) : zC 88 pc = (0, 0, 0, 0) := by
  show zc_88 pc = _
  unfold zc_88
  repeat rw [if_neg (by omega)]
theorem znw_88 : ∀ pc, pc < 206 → ¬ (zC 88 pc).1 = 30 ∧ ¬ (zC 88 pc).1 = 32 := by decide +kernel
theorem zok_88 : zOK 88 := zok_of (by decide) zdw_88 zbw_88 znw_88
theorem zdw_89 : ∀ pc, pc < 25 → zD 89 pc = true := by decide +kernel
theorem zbw_89 (pc : Nat) (h : 25 ≤ pc) : zC 89 pc = (0, 0, 0, 0) := by
  show zc_89 pc = _
  unfold zc_89
  repeat rw [if_neg (by omega)]
theorem znw_89 : ∀ pc, pc < 25 → ¬ (zC 89 pc).1 = 30 ∧ ¬ (zC 89 pc).1 = 32 := by decide +kernel
theorem zok_89 : zOK 89 := zok_of (by decide) zdw_89 zbw_89 znw_89
theorem zdw_90 : ∀ pc, pc < 98 → zD 90 pc = true := by decide +kernel
theorem zbw_90 (pc : Nat) (h : 98 ≤ pc) : zC 90 pc = (0, 0, 0, 0) := by
  show zc_90 pc = _
  unfold zc_90
  repeat rw [if_neg (by omega)]
theorem znw_90 : ∀ pc, pc < 98 → ¬ (zC 90 pc).1 = 30 ∧ ¬ (zC 90 pc).1 = 32 := by decide +kernel
theorem zok_90 : zOK 90 := zok_of (by decide) zdw_90 zbw_90 znw_90
theorem zdw_91 : ∀ pc, pc < 32 → zD 91 pc = true := by decide +kernel
theorem zbw_91 (pc : Nat) (h : 32 ≤ pc) : zC 91 pc = (0, 0, 0, 0) := by
  show zc_91 pc = _
  unfold zc_91
  repeat rw [if_neg (by omega)]
theorem znw_91 : ∀ pc, pc < 32 → ¬ (zC 91 pc).1 = 30 ∧ ¬ (zC 91 pc).1 = 32 := by decide +kernel
theorem zok_91 : zOK 91 := zok_of (by decide) zdw_91 zbw_91 znw_91
theorem zdw_92 : ∀ pc, pc < 225 → zD 92 pc = true := by decide +kernel
theorem zbw_92 (pc : Nat) (h : 225 ≤ pc) : zC 92 pc = (0, 0, 0, 0) := by
  show zc_92 pc = _
  unfold zc_92
  repeat rw [if_neg (by omega)]
theorem znw_92 : ∀ pc, pc < 225 → ¬ (zC 92 pc).1 = 30 ∧ ¬ (zC 92 pc).1 = 32 := by decide +kernel
theorem zok_92 : zOK 92 := zok_of (by decide) zdw_92 zbw_92 znw_92
theorem zdw_93 : ∀ pc, pc < 80 → zD 93 pc = true := by decide +kernel
theorem zbw_93 (pc : Nat) (h : 80 ≤ pc) : zC 93 pc = (0, 0, 0, 0) := by
  show zc_93 pc = _
  unfold zc_93
  repeat rw [if_neg (by omega)]
theorem znw_93 : ∀ pc, pc < 80 → ¬ (zC 93 pc).1 = 30 ∧ ¬ (zC 93 pc).1 = 32 := by decide +kernel
theorem zok_93 : zOK 93 := zok_of (by decide) zdw_93 zbw_93 znw_93
theorem zdw_94 : ∀ pc, pc < 108 → zD 94 pc = true := by decide +kernel
theorem zbw_94 (pc : Nat) (h : 108 ≤ pc) : zC 94 pc = (0, 0, 0, 0) := by
  show zc_94 pc = _
  unfold zc_94
  repeat rw [if_neg (by omega)]
theorem znw_94 : ∀ pc, pc < 108 → ¬ (zC 94 pc).1 = 30 ∧ ¬ (zC 94 pc).1 = 32 := by decide +kernel
theorem zok_94 : zOK 94 := zok_of (by decide) zdw_94 zbw_94 znw_94
theorem zdw_95 : ∀ pc, pc < 272 → zD 95 pc = true := by decide +kernel
theorem zbw_95 (pc : Nat) (h : 272 ≤ pc) : zC 95 pc = (0, 0, 0, 0) := by
  show zc_95 pc = _
  unfold zc_95
  repeat rw [if_neg (by omega)]
theorem znw_95 : ∀ pc, pc < 272 → ¬ (zC 95 pc).1 = 30 ∧ ¬ (zC 95 pc).1 = 32 := by decide +kernel
theorem zok_95 : zOK 95 := zok_of (by decide) zdw_95 zbw_95 znw_95
theorem zdw_96 : ∀ pc, pc < 218 → zD 96 pc = true := by decide +kernel
theorem zbw_96 (pc : Nat) (h : 218 ≤ pc) : zC 96 pc = (0, 0, 0, 0) := by
  show zc_96 pc = _
  unfold zc_96
  repeat rw [if_neg (by omega)]
theorem znw_96 : ∀ pc, pc < 218 → ¬ (zC 96 pc).1 = 30 ∧ ¬ (zC 96 pc).1 = 32 := by decide +kernel
theorem zok_96 : zOK 96 := zok_of (by decide) zdw_96 zbw_96 znw_96
theorem zdw_97 : ∀ pc, pc < 35 → zD 97 pc = true := by decide +kernel
theorem zbw_97 (pc : Nat) (h : 35 ≤ pc) : zC 97 pc = (0, 0, 0, 0) := by
  show zc_97 pc = _
  unfold zc_97
  repeat rw [if_neg (by omega)]
theorem znw_97 : ∀ pc, pc < 35 → ¬ (zC 97 pc).1 = 30 ∧ ¬ (zC 97 pc).1 = 32 := by decide +kernel
theorem zok_97 : zOK 97 := zok_of (by decide) zdw_97 zbw_97 znw_97
theorem zdw_98 : ∀ pc, pc < 66 → zD 98 pc = true := by decide +kernel
theorem zbw_98 (pc : Nat) (h : 66 ≤ pc) : zC 98 pc = (0, 0, 0, 0) := by
  show zc_98 pc = _
  unfold zc_98
  repeat rw [if_neg (by omega)]
theorem znw_98 : ∀ pc, pc < 66 → ¬ (zC 98 pc).1 = 30 ∧ ¬ (zC 98 pc).1 = 32 := by decide +kernel
theorem zok_98 : zOK 98 := zok_of (by decide) zdw_98 zbw_98 znw_98
theorem zdw_99 : ∀ pc, pc < 121 → zD 99 pc = true := by decide +kernel
theorem zbw_99 (pc : Nat) (h : 121 ≤ pc) : zC 99 pc = (0, 0, 0, 0) := by
  show zc_99 pc = _
  unfold zc_99
  repeat rw [if_neg (by omega)]
theorem znw_99 : ∀ pc, pc < 121 → ¬ (zC 99 pc).1 = 30 ∧ ¬ (zC 99 pc).1 = 32 := by decide +kernel
theorem zok_99 : zOK 99 := zok_of (by decide) zdw_99 zbw_99 znw_99
theorem zdw_100 : ∀ pc, pc < 60 → zD 100 pc = true := by decide +kernel
theorem zbw_100 (pc : Nat) (h : 60 ≤ pc) : zC 100 pc = (0, 0, 0, 0) := by
  show zc_100 pc = _
  unfold zc_100
  repeat rw [if_neg (by omega)]
theorem znw_100 : ∀ pc, pc < 60 → ¬ (zC 100 pc).1 = 30 ∧ ¬ (zC 100 pc).1 = 32 := by decide +kernel
theorem zok_100 : zOK 100 := zok_of (by decide) zdw_100 zbw_100 znw_100
theorem zdw_101 : ∀ pc, pc < 130 → zD 101 pc = true := by decide +kernel
theorem zbw_101 (pc : Nat) (h : 130 ≤ pc) : zC 101 pc = (0, 0, 0, 0) := by
  show zc_101 pc = _
  unfold zc_101
  repeat rw [if_neg (by omega)]
theorem znw_101 : ∀ pc, pc < 130 → ¬ (zC 101 pc).1 = 30 ∧ ¬ (zC 101 pc).1 = 32 := by decide +kernel
theorem zok_101 : zOK 101 := zok_of (by decide) zdw_101 zbw_101 znw_101
theorem zdw_102 : ∀ pc, pc < 134 → zD 102 pc = true := by decide +kernel
theorem zbw_102 (pc : Nat) (h : 134 ≤ pc) : zC 102 pc = (0, 0, 0, 0) := by
  show zc_102 pc = _
  unfold zc_102
  repeat rw [if_neg (by omega)]
theorem znw_102 : ∀ pc, pc < 134 → ¬ (zC 102 pc).1 = 30 ∧ ¬ (zC 102 pc).1 = 32 := by decide +kernel
theorem zok_102 : zOK 102 := zok_of (by decide) zdw_102 zbw_102 znw_102
theorem zdw_103 : ∀ pc, pc < 59 → zD 103 pc = true := by decide +kernel
theorem zbw_103 (pc : Nat) (h : 59 ≤ pc) : zC 103 pc = (0, 0, 0, 0) := by
  show zc_103 pc = _
  unfold zc_103
  repeat rw [if_neg (by omega)]
theorem znw_103 : ∀ pc, pc < 59 → ¬ (zC 103 pc).1 = 30 ∧ ¬ (zC 103 pc).1 = 32 := by decide +kernel
theorem zok_103 : zOK 103 := zok_of (by decide) zdw_103 zbw_103 znw_103
theorem zdw_104 : ∀ pc, pc < 82 → zD 104 pc = true := by decide +kernel
theorem zbw_104 (pc : Nat) (h : 82 ≤ pc) : zC 104 pc = (0, 0, 0, 0) := by
  show zc_104 pc = _
  unfold zc_104
  repeat rw [if_neg (by omega)]
theorem znw_104 : ∀ pc, pc < 82 → ¬ (zC 104 pc).1 = 30 ∧ ¬ (zC 104 pc).1 = 32 := by decide +kernel
theorem zok_104 : zOK 104 := zok_of (by decide) zdw_104 zbw_104 znw_104
theorem zdw_105 : ∀ pc, pc < 31 → zD 105 pc = true := by decide +kernel
theorem zbw_105 (pc : Nat) (h : 31 ≤ pc) : zC 105 pc = (0, 0, 0, 0) := by
  show zc_105 pc = _
  unfold zc_105
  repeat rw [if_neg (by omega)]
theorem znw_105 : ∀ pc, pc < 31 → ¬ (zC 105 pc).1 = 30 ∧ ¬ (zC 105 pc).1 = 32 := by decide +kernel
theorem zok_105 : zOK 105 := zok_of (by decide) zdw_105 zbw_105 znw_105
theorem zdw_106 : ∀ pc, pc < 78 → zD 106 pc = true := by decide +kernel
theorem zbw_106 (pc : Nat) (h : 78 ≤ pc) : zC 106 pc = (0, 0, 0, 0) := by
  show zc_106 pc = _
  unfold zc_106
  repeat rw [if_neg (by omega)]
theorem znw_106 : ∀ pc, pc < 78 → ¬ (zC 106 pc).1 = 30 ∧ ¬ (zC 106 pc).1 = 32 := by decide +kernel
theorem zok_106 : zOK 106 := zok_of (by decide) zdw_106 zbw_106 znw_106
theorem zdw_107 : ∀ pc, pc < 188 → zD 107 pc = true := by decide +kernel
theorem zbw_107 (pc : Nat) (h : 188 ≤ pc) : zC 107 pc = (0, 0, 0, 0) := by
  show zc_107 pc = _
  unfold zc_107
  repeat rw [if_neg (by omega)]
theorem znw_107 : ∀ pc, pc < 188 → ¬ (zC 107 pc).1 = 30 ∧ ¬ (zC 107 pc).1 = 32 := by decide +kernel
theorem zok_107 : zOK 107 := zok_of (by decide) zdw_107 zbw_107 znw_107
theorem zdw_108 : ∀ pc, pc < 132 → zD 108 pc = true := by decide +kernel
theorem zbw_108 (pc : Nat) (h : 132 ≤ pc) : zC 108 pc = (0, 0, 0, 0) := by
  show zc_108 pc = _
  unfold zc_108
  repeat rw [if_neg (by omega)]
theorem znw_108 : ∀ pc, pc < 132 → ¬ (zC 108 pc).1 = 30 ∧ ¬ (zC 108 pc).1 = 32 := by decide +kernel
theorem zok_108 : zOK 108 := zok_of (by decide) zdw_108 zbw_108 znw_108
theorem zdw_109 : ∀ pc, pc < 28 → zD 109 pc = true := by decide +kernel
theorem zbw_109 (pc : Nat) (h : 28 ≤ pc) : zC 109 pc = (0, 0, 0, 0) := by
  show zc_109 pc = _
  unfold zc_109
  repeat rw [if_neg (by omega)]
theorem znw_109 : ∀ pc, pc < 28 → ¬ (zC 109 pc).1 = 30 ∧ ¬ (zC 109 pc).1 = 32 := by decide +kernel
theorem zok_109 : zOK 109 := zok_of (by decide) zdw_109 zbw_109 znw_109
theorem zdw_110 : ∀ pc, pc < 26 → zD 110 pc = true := by decide +kernel
theorem zbw_110 (pc : Nat) (h : 26 ≤ pc) : zC 110 pc = (0, 0, 0, 0) := by
  show zc_110 pc = _
  unfold zc_110
  repeat rw [if_neg (by omega)]
theorem znw_110 : ∀ pc, pc < 26 → ¬ (zC 110 pc).1 = 30 ∧ ¬ (zC 110 pc).1 = 32 := by decide +kernel
theorem zok_110 : zOK 110 := zok_of (by decide) zdw_110 zbw_110 znw_110
theorem zdw_111 : ∀ pc, pc < 51 → zD 111 pc = true := by decide +kernel
theorem zbw_111 (pc : Nat) (h : 51 ≤ pc) : zC 111 pc = (0, 0, 0, 0) := by
  show zc_111 pc = _
  unfold zc_111
  repeat rw [if_neg (by omega)]
theorem znw_111 : ∀ pc, pc < 51 → ¬ (zC 111 pc).1 = 30 ∧ ¬ (zC 111 pc).1 = 32 := by decide +kernel
theorem zok_111 : zOK 111 := zok_of (by decide) zdw_111 zbw_111 znw_111
theorem zdw_112 : ∀ pc, pc < 169 → zD 112 pc = true := by decide +kernel
theorem zbw_112 (pc : Nat) (h : 169 ≤ pc) : zC 112 pc = (0, 0, 0, 0) := by
  show zc_112 pc = _
  unfold zc_112
  repeat rw [if_neg (by omega)]
theorem znw_112 : ∀ pc, pc < 169 → ¬ (zC 112 pc).1 = 30 ∧ ¬ (zC 112 pc).1 = 32 := by decide +kernel
theorem zok_112 : zOK 112 := zok_of (by decide) zdw_112 zbw_112 znw_112
theorem zdw_113 : ∀ pc, pc < 202 → zD 113 pc = true := by decide +kernel
theorem zbw_113 (pc : Nat) (h : 202 ≤ pc) : zC 113 pc = (0, 0, 0, 0) := by
  show zc_113 pc = _
  unfold zc_113
  repeat rw [if_neg (by omega)]
theorem znw_113 : ∀ pc, pc < 202 → ¬ (zC 113 pc).1 = 30 ∧ ¬ (zC 113 pc).1 = 32 := by decide +kernel
theorem zok_113 : zOK 113 := zok_of (by decide) zdw_113 zbw_113 znw_113
theorem zdw_114 : ∀ pc, pc < 46 → zD 114 pc = true := by decide +kernel
theorem zbw_114 (pc : Nat) (h : 46 ≤ pc) : zC 114 pc = (0, 0, 0, 0) := by
  show zc_114 pc = _
  unfold zc_114
  repeat rw [if_neg (by omega)]
theorem znw_114 : ∀ pc, pc < 46 → ¬ (zC 114 pc).1 = 30 ∧ ¬ (zC 114 pc).1 = 32 := by decide +kernel
theorem zok_114 : zOK 114 := zok_of (by decide) zdw_114 zbw_114 znw_114
theorem zdw_115 : ∀ pc, pc < 74 → zD 115 pc = true := by decide +kernel
theorem zbw_115 (pc : Nat) (h : 74 ≤ pc) : zC 115 pc = (0, 0, 0, 0) := by
  show zc_115 pc = _
  unfold zc_115
  repeat rw [if_neg (by omega)]
theorem znw_115 : ∀ pc, pc < 74 → ¬ (zC 115 pc).1 = 30 ∧ ¬ (zC 115 pc).1 = 32 := by decide +kernel
theorem zok_115 : zOK 115 := zok_of (by decide) zdw_115 zbw_115 znw_115
theorem zdw_116 : ∀ pc, pc < 21 → zD 116 pc = true := by decide +kernel
theorem zbw_116 (pc : Nat) (h : 21 ≤ pc) : zC 116 pc = (0, 0, 0, 0) := by
  show zc_116 pc = _
  unfold zc_116
  repeat rw [if_neg (by omega)]
theorem znw_116 : ∀ pc, pc < 21 → ¬ (zC 116 pc).1 = 30 ∧ ¬ (zC 116 pc).1 = 32 := by decide +kernel
theorem zok_116 : zOK 116 := zok_of (by decide) zdw_116 zbw_116 znw_116
