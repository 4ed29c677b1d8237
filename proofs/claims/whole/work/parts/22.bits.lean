/-! ===== Int32 by its bits: bt x i ===== -/
def bt (x : Int32) (i : Nat) : Bool := x.toBitVec.getLsbD i
theorem b_ext {x y : Int32} (h : ∀ i, i < 32 → bt x i = bt y i) : x = y := Int32.toBitVec_inj.mp (BitVec.eq_of_getLsbD_eq (fun i hi => h i hi))
theorem b_or (x y : Int32) (i : Nat) : bt (x ||| y) i = (bt x i || bt y i) := by unfold bt; rw [Int32.toBitVec_or, BitVec.getLsbD_or]
theorem b_and (x y : Int32) (i : Nat) : bt (x &&& y) i = (bt x i && bt y i) := by unfold bt; rw [Int32.toBitVec_and, BitVec.getLsbD_and]
theorem b_xor (x y : Int32) (i : Nat) : bt (x ^^^ y) i = (bt x i ^^ bt y i) := by unfold bt; rw [Int32.toBitVec_xor, BitVec.getLsbD_xor]
theorem b_big {x : Int32} {i : Nat} (h : 32 ≤ i) : bt x i = false := BitVec.getLsbD_of_ge _ _ h
theorem b_255 (i : Nat) : bt 255 i = decide (i < 8) := by
  rcases Nat.lt_or_ge i 32 with h | h
  · exact (by decide +kernel : ∀ i, i < 32 → bt 255 i = decide (i < 8)) i h
  · rw [b_big h, decide_eq_false (by omega)]
theorem b_65535 (i : Nat) : bt 65535 i = decide (i < 16) := by
  rcases Nat.lt_or_ge i 32 with h | h
  · exact (by decide +kernel : ∀ i, i < 32 → bt 65535 i = decide (i < 16)) i h
  · rw [b_big h, decide_eq_false (by omega)]
theorem b_m1 : ∀ i, i < 32 → bt (-1) i = true := by decide +kernel
theorem b_0 (i : Nat) : bt 0 i = false := BitVec.getLsbD_zero
theorem s_l : ∀ n, n < 32 → ((nI n &&& 31).toBitVec.smod 32).toNat = n := by decide +kernel
theorem s_u : ∀ n, n < 32 → (((nI n).toUInt32 &&& Int32.toUInt32 31).toBitVec % 32).toNat = n := by decide +kernel
theorem b_shl (n : Nat) (hn : n < 32) (x : Int32) {i : Nat} (hi : i < 32) : bt (x <<< (nI n &&& 31)) i = (decide (n ≤ i) && bt x (i - n)) := by
  unfold bt
  rw [Int32.toBitVec_shiftLeft]
  show (x.toBitVec <<< ((nI n &&& 31).toBitVec.smod 32).toNat).getLsbD i = _
  rw [s_l n hn, BitVec.getLsbD_shiftLeft]
  rcases Nat.lt_or_ge i n with h | h
  · simp [h, Nat.not_le.mpr h]
  · simp [hi, h, Nat.not_lt.mpr h]
theorem b_ushr (n : Nat) (hn : n < 32) (x : Int32) (i : Nat) : bt ((x.toUInt32 >>> ((nI n).toUInt32 &&& Int32.toUInt32 31)).toInt32) i = bt x (n + i) := by
  show (x.toUInt32 >>> ((nI n).toUInt32 &&& Int32.toUInt32 31)).toBitVec.getLsbD i = x.toUInt32.toBitVec.getLsbD (n + i)
  rw [UInt32.toBitVec_shiftRight]
  show (x.toUInt32.toBitVec >>> (((nI n).toUInt32 &&& Int32.toUInt32 31).toBitVec % 32).toNat).getLsbD i = _
  rw [s_u n hn, BitVec.getLsbD_ushiftRight]
theorem b_sshr (n : Nat) (hn : n < 32) (x : Int32) {i : Nat} (hi : i < 32) : bt (x >>> (nI n &&& 31)) i = if n + i < 32 then bt x (n + i) else bt x 31 := by
  unfold bt
  rw [Int32.toBitVec_shiftRight]
  show (x.toBitVec.sshiftRight ((nI n &&& 31).toBitVec.smod 32).toNat).getLsbD i = _
  rw [s_l n hn, BitVec.getLsbD_sshiftRight, BitVec.msb_eq_getLsbD_last]
  simp [hi]
/-! masks and flags as whole numbers -/
def zbt (a u : Int) : Bool := bt (Int32.ofInt a) u.toNat
theorem z_nI {p : Int} (h : 0 ≤ p) : Int32.ofInt p = nI p.toNat := by
  have e : p = ((p.toNat : Nat) : Int) := by omega
  rw [e, Int32.ofInt_eq_ofNat]
  rfl
theorem b_1 : ∀ i, i < 32 → bt 1 i = decide (i = 0) := by decide +kernel
theorem zbt_or {a b u : Int} : zbt (zor a b) u = (zbt a u || zbt b u) := by
  simp only [zbt, zor, Int32.ofInt_toInt, b_or]
theorem zbt_0 {u : Int} : zbt 0 u = false := b_0 _
theorem zbt_shl {p u : Int} (h0 : 0 ≤ p) (h1 : p < 32) (h2 : 0 ≤ u) (h3 : u < 32) : zbt (zshl 1 p) u = decide (u = p) := by
  simp only [zbt, zshl, Int32.ofInt_toInt]
  rw [z_nI h0, b_shl _ (by omega) _ (by omega), show Int32.ofInt 1 = 1 from rfl, b_1 _ (by omega)]
  by_cases h : u = p
  · subst h; simp
  · rw [decide_eq_false h]
    by_cases h2 : p.toNat ≤ u.toNat
    · rw [decide_eq_true h2, decide_eq_false (by omega)]; rfl
    · rw [decide_eq_false h2]; rfl
theorem zand_shr {a u : Int} (h0 : 0 ≤ u) (h1 : u < 32) : zand (zshr a u) 1 = if zbt a u = true then 1 else 0 := by
  simp only [zand, zshr, Int32.ofInt_toInt]
  rw [z_nI h0, show Int32.ofInt 1 = 1 from rfl]
  have e : (Int32.ofInt a >>> (nI u.toNat &&& 31)) &&& 1 = if bt (Int32.ofInt a) u.toNat = true then 1 else 0 := by
    apply b_ext
    intro i hi
    rw [b_and, b_sshr _ (by omega) _ hi, b_1 i hi]
    by_cases hz : i = 0
    · subst hz
      rw [if_pos (by omega)]
      cases h : bt (Int32.ofInt a) u.toNat
      · simp [h]; exact (b_0 0).symm
      · simp [h]; exact (b_1 0 (by omega)).symm
    · rw [decide_eq_false hz, Bool.and_false]
      split
      · rw [b_1 i hi, decide_eq_false hz]
      · rw [b_0]
  rw [e]
  by_cases h : zbt a u = true
  · rw [if_pos h, if_pos (show bt (Int32.ofInt a) u.toNat = true from h)]; rfl
  · rw [if_neg h, if_neg (show ¬ bt (Int32.ofInt a) u.toNat = true from h)]; rfl
theorem zand_one {a p : Int} (h0 : 0 ≤ p) (h1 : p < 32) : zand a (zshl 1 p) = 0 ↔ zbt a p = false := by
  have hb : ∀ i, i < 32 → bt (Int32.ofInt a &&& Int32.ofInt (zshl 1 p)) i = (bt (Int32.ofInt a) i && decide (i = p.toNat)) := by
    intro i hi
    rw [b_and]
    have := zbt_shl (u := (i : Int)) h0 h1 (by omega) (by omega)
    simp only [zbt, Int.toNat_natCast] at this
    rw [this]
    congr 1
    by_cases h : i = p.toNat
    · rw [decide_eq_true h, decide_eq_true (by omega)]
    · rw [decide_eq_false h, decide_eq_false (by omega)]
  constructor
  · intro h
    have h : Int32.ofInt a &&& Int32.ofInt (zshl 1 p) = 0 := by
      have := congrArg Int32.ofInt h
      simp only [zand, Int32.ofInt_toInt] at this
      exact this
    have := hb p.toNat (by omega)
    rw [h, b_0, decide_eq_true rfl, Bool.and_true] at this
    exact this.symm
  · intro h
    have : Int32.ofInt a &&& Int32.ofInt (zshl 1 p) = 0 := by
      apply b_ext
      intro i hi
      rw [hb i hi, b_0]
      by_cases e : i = p.toNat
      · subst e
        simp only [zbt] at h
        rw [h]; rfl
      · rw [decide_eq_false e, Bool.and_false]
    simp only [zand, this]
    rfl
theorem zor_comm (a b : Int) : zor a b = zor b a := by simp only [zor, Int32.or_comm]
theorem zor_assoc (a b c : Int) : zor (zor a b) c = zor a (zor b c) := by simp only [zor, Int32.ofInt_toInt, Int32.or_assoc]
theorem zor_0 {a : Int} (h : zr a) : zor a 0 = a := by
  simp only [zor, show Int32.ofInt 0 = 0 from rfl, Int32.or_zero]
  exact zr_toInt h
theorem zr_zor (a b : Int) : zr (zor a b) := zr_of _
theorem zr_zand (a b : Int) : zr (zand a b) := zr_of _
theorem zr_zshl (a b : Int) : zr (zshl a b) := zr_of _
theorem zr_zshr (a b : Int) : zr (zshr a b) := zr_of _
theorem zor_b {a b : Int} (ha : a = 0 ∨ a = 1) (hb : b = 0 ∨ b = 1) : zor a b = if a = 1 ∨ b = 1 then 1 else 0 := by
  rcases ha with rfl | rfl <;> rcases hb with rfl | rfl <;> decide +kernel
theorem zand_b {a b : Int} (ha : a = 0 ∨ a = 1) (hb : b = 0 ∨ b = 1) : zand a b = if a = 1 ∧ b = 1 then 1 else 0 := by
  rcases ha with rfl | rfl <;> rcases hb with rfl | rfl <;> decide +kernel
/-- the or of the first k values -/
def gOr (f : Int → Int) : Nat → Int
  | 0 => 0
  | k + 1 => zor (gOr f k) (f (k : Int))
theorem zr_gOr (f : Int → Int) (k : Nat) : zr (gOr f k) := by
  cases k with
  | zero => exact zr_0
  | succ k => exact zr_zor _ _
theorem gOr_or (f g : Int → Int) (k : Nat) : zor (gOr f k) (gOr g k) = gOr (fun i => zor (f i) (g i)) k := by
  induction k with
  | zero => exact zor_0 zr_0
  | succ k ih =>
    simp only [gOr]
    rw [← ih, zor_assoc, zor_assoc]
    congr 1
    rw [← zor_assoc, ← zor_assoc, zor_comm (f k) (gOr g k)]
theorem gOr_bit {f : Int → Int} {k : Nat} {u : Int} : zbt (gOr f k) u = true ↔ ∃ i : Int, 0 ≤ i ∧ i < k ∧ zbt (f i) u = true := by
  induction k with
  | zero =>
    rw [gOr, zbt_0]
    constructor
    · intro h; cases h
    · rintro ⟨i, h1, h2, _⟩
      omega
  | succ k ih =>
    simp only [gOr, zbt_or, Bool.or_eq_true, ih]
    constructor
    · rintro (⟨i, h1, h2, h3⟩ | h)
      · exact ⟨i, h1, by omega, h3⟩
      · exact ⟨k, by omega, by omega, h⟩
    · rintro ⟨i, h1, h2, h3⟩
      by_cases e : i = k
      · subst e; exact Or.inr h3
      · exact Or.inl ⟨i, h1, by omega, h3⟩
theorem gOr_congr {f g : Int → Int} {k : Nat} (h : ∀ i : Int, 0 ≤ i → i < k → f i = g i) : gOr f k = gOr g k := by
  induction k with
  | zero => rfl
  | succ k ih =>
    simp only [gOr]
    rw [ih (fun i h1 h2 => h i h1 (by omega)), h k (by omega) (by omega)]
