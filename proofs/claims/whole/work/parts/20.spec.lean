/-! the base state, by components: 0 kind, 1 super, 2 face count, 3 faces, 4 sealed, 5 permits, 6 owner, 7 sort, 8 result, 9 adds, 10 calls, 11 call's type, 12 call's name, 13 own, 14 told, 15 constants, 16 types, 17 members -/
def bX (σ : zS) : zS
  | 0 => σ 6
  | 1 => σ 7
  | 2 => σ 8
  | 3 => σ 11
  | 4 => σ 10
  | 5 => σ 9
  | 6 => σ 17
  | 7 => σ 18
  | 8 => σ 23
  | 9 => σ 19
  | 10 => σ 20
  | 11 => σ 21
  | 12 => σ 22
  | 13 => σ 24
  | 14 => σ 14
  | 15 => σ 15
  | 16 => fun _ => σ 1 0
  | 17 => fun _ => σ 2 0
  | _ => fun _ => 0
def bM (σ : zS) : zS
  | 0 => σ 32
  | 1 => σ 33
  | 2 => σ 35
  | 3 => σ 34
  | 4 => σ 36
  | 5 => σ 37
  | 6 => σ 38
  | 7 => σ 40
  | 8 => σ 41
  | 9 => σ 42
  | 10 => σ 43
  | 11 => σ 44
  | 12 => σ 45
  | 13 => σ 46
  | 14 => σ 47
  | 15 => σ 48
  | 16 => fun _ => σ 31 0
  | 17 => fun _ => σ 31 7
  | _ => fun _ => 0
/-- what the base state keeps to -/
def Bd (B : zS) : Prop :=
  (1 ≤ B 16 0 ∧ B 16 0 ≤ 16 ∧ 3 ≤ B 17 0 ∧ B 17 0 ≤ 60) ∧
  (∀ t, 0 ≤ t → t < 16 → 0 ≤ B 0 t ∧ B 0 t ≤ 2) ∧
  (∀ t, 0 ≤ t → t < 16 → 0 ≤ B 1 t ∧ B 1 t ≤ 15 ∧ (0 < t → B 1 t < t)) ∧
  (∀ t, 0 ≤ t → t < 16 → 0 ≤ B 2 t ∧ B 2 t ≤ 4) ∧
  (∀ j, 0 ≤ j → j < 64 → 0 ≤ B 3 j ∧ B 3 j ≤ 15) ∧
  (∀ t i, 0 ≤ t → t < 16 → 0 ≤ i → i < B 2 t → B 3 (4 * t + i) < t ∧ B 0 (B 3 (4 * t + i)) = 2) ∧
  (∀ t, 0 ≤ t → t < 16 → (B 4 t = 0 ∨ B 4 t = 1) ∧ zr (B 5 t)) ∧
  (∀ m, 0 ≤ m → m < 60 → 0 ≤ B 6 m ∧ B 6 m ≤ 15 ∧ 0 ≤ B 7 m ∧ B 7 m ≤ 4 ∧ 0 ≤ B 8 m ∧ B 8 m ≤ 3 ∧ -1000 ≤ B 9 m ∧ B 9 m ≤ 1000 ∧ 0 ≤ B 10 m ∧ B 10 m ≤ 4 ∧ zr (B 11 m) ∧ zr (B 12 m)) ∧
  (∀ m, 0 ≤ m → m < B 17 0 → B 6 m < B 16 0 ∧ (∃ n, 0 ≤ n ∧ n < 10 ∧ B 13 (10 * B 6 m + n) = m) ∧ (¬ B 10 m = 0 → 0 ≤ B 12 m ∧ B 12 m ≤ 9) ∧ (B 10 m = 3 → 0 ≤ B 11 m ∧ B 11 m < B 16 0 ∧ B 0 (B 11 m) = 2) ∧ (B 10 m = 4 → 0 ≤ B 11 m ∧ B 11 m < B 16 0)) ∧
  (∀ j, 0 ≤ j → j < 160 → B 13 j = -4 ∨ (0 ≤ B 13 j ∧ B 13 j < B 17 0)) ∧
  (∀ t n, 0 ≤ t → t < 16 → 0 ≤ n → n < 10 → ¬ B 13 (10 * t + n) = -4 → B 6 (B 13 (10 * t + n)) = t) ∧
  (∀ j, 0 ≤ j → j < 64 → (B 14 j = 0 ∨ B 14 j = 1) ∧ zr (B 15 j)) ∧
  B 0 0 = 0 ∧
  (∀ t, B 16 0 ≤ t → t < 16 → B 2 t = 0) ∧
  (∀ m, B 17 0 ≤ m → m < 60 → B 10 m = 0)
section BD
variable {B : zS} (h : Bd B)
theorem Bd.n (h : Bd B) : 1 ≤ B 16 0 ∧ B 16 0 ≤ 16 ∧ 3 ≤ B 17 0 ∧ B 17 0 ≤ 60 := h.1
theorem Bd.kind (h : Bd B) : ∀ t, 0 ≤ t → t < 16 → 0 ≤ B 0 t ∧ B 0 t ≤ 2 := h.2.1
theorem Bd.sup (h : Bd B) : ∀ t, 0 ≤ t → t < 16 → 0 ≤ B 1 t ∧ B 1 t ≤ 15 ∧ (0 < t → B 1 t < t) := h.2.2.1
theorem Bd.fc (h : Bd B) : ∀ t, 0 ≤ t → t < 16 → 0 ≤ B 2 t ∧ B 2 t ≤ 4 := h.2.2.2.1
theorem Bd.fj (h : Bd B) : ∀ j, 0 ≤ j → j < 64 → 0 ≤ B 3 j ∧ B 3 j ≤ 15 := h.2.2.2.2.1
theorem Bd.fa (h : Bd B) : ∀ t i, 0 ≤ t → t < 16 → 0 ≤ i → i < B 2 t → B 3 (4 * t + i) < t ∧ B 0 (B 3 (4 * t + i)) = 2 := h.2.2.2.2.2.1
theorem Bd.se (h : Bd B) : ∀ t, 0 ≤ t → t < 16 → (B 4 t = 0 ∨ B 4 t = 1) ∧ zr (B 5 t) := h.2.2.2.2.2.2.1
theorem Bd.me (h : Bd B) : ∀ m, 0 ≤ m → m < 60 → 0 ≤ B 6 m ∧ B 6 m ≤ 15 ∧ 0 ≤ B 7 m ∧ B 7 m ≤ 4 ∧ 0 ≤ B 8 m ∧ B 8 m ≤ 3 ∧ -1000 ≤ B 9 m ∧ B 9 m ≤ 1000 ∧ 0 ≤ B 10 m ∧ B 10 m ≤ 4 ∧ zr (B 11 m) ∧ zr (B 12 m) := h.2.2.2.2.2.2.2.1
theorem Bd.mm (h : Bd B) : ∀ m, 0 ≤ m → m < B 17 0 → B 6 m < B 16 0 ∧ (∃ n, 0 ≤ n ∧ n < 10 ∧ B 13 (10 * B 6 m + n) = m) ∧ (¬ B 10 m = 0 → 0 ≤ B 12 m ∧ B 12 m ≤ 9) ∧ (B 10 m = 3 → 0 ≤ B 11 m ∧ B 11 m < B 16 0 ∧ B 0 (B 11 m) = 2) ∧ (B 10 m = 4 → 0 ≤ B 11 m ∧ B 11 m < B 16 0) := h.2.2.2.2.2.2.2.2.1
theorem Bd.ow (h : Bd B) : ∀ j, 0 ≤ j → j < 160 → B 13 j = -4 ∨ (0 ≤ B 13 j ∧ B 13 j < B 17 0) := h.2.2.2.2.2.2.2.2.2.1
theorem Bd.oo (h : Bd B) : ∀ t n, 0 ≤ t → t < 16 → 0 ≤ n → n < 10 → ¬ B 13 (10 * t + n) = -4 → B 6 (B 13 (10 * t + n)) = t := h.2.2.2.2.2.2.2.2.2.2.1
theorem Bd.co (h : Bd B) : ∀ j, 0 ≤ j → j < 64 → (B 14 j = 0 ∨ B 14 j = 1) ∧ zr (B 15 j) := h.2.2.2.2.2.2.2.2.2.2.2.1
theorem Bd.k0 (h : Bd B) : B 0 0 = 0 := h.2.2.2.2.2.2.2.2.2.2.2.2.1
theorem Bd.f0 (h : Bd B) : ∀ t, B 16 0 ≤ t → t < 16 → B 2 t = 0 := h.2.2.2.2.2.2.2.2.2.2.2.2.2.1
theorem Bd.c0 (h : Bd B) : ∀ m, B 17 0 ≤ m → m < 60 → B 10 m = 0 := h.2.2.2.2.2.2.2.2.2.2.2.2.2.2
end BD
/-! lists read off a row -/
def zl (f : Int → Int) (c : Int) : List Int := (List.range c.toNat).map (fun i : Nat => f (i : Int))
theorem zl_0 {f : Int → Int} {c : Int} (h : c ≤ 0) : zl f c = [] := by
  have : c.toNat = 0 := by omega
  simp [zl, this]
theorem zl_s {f : Int → Int} {c : Int} (h : 0 ≤ c) : zl f (c + 1) = zl f c ++ [f c] := by
  have : (c + 1).toNat = c.toNat + 1 := by omega
  have e : ((c.toNat : Nat) : Int) = c := by omega
  simp [zl, this, List.range_succ, e]
theorem zl_len {f : Int → Int} {c : Int} (h : 0 ≤ c) : ((zl f c).length : Int) = c := by
  simp [zl]
  omega
theorem zl_congr {f g : Int → Int} {c : Int} (h : ∀ i, 0 ≤ i → i < c → f i = g i) : zl f c = zl g c := by
  simp only [zl]
  apply List.map_congr_left
  intro i hi
  have := List.mem_range.mp hi
  exact h i (by omega) (by omega)
theorem zl_mem {f : Int → Int} {c x : Int} : x ∈ zl f c ↔ ∃ i, 0 ≤ i ∧ i < c ∧ f i = x := by
  simp only [zl, List.mem_map, List.mem_range]
  constructor
  · rintro ⟨i, hi, rfl⟩
    exact ⟨i, by omega, by omega, rfl⟩
  · rintro ⟨i, h0, h1, rfl⟩
    exact ⟨i.toNat, by omega, by congr 1; omega⟩
theorem zl_at {f g : Int → Int} {c d i : Int} (h : zl f c = zl g d) (h0 : 0 ≤ i) (h1 : i < c) : f i = g i := by
  have e : (zl f c)[i.toNat]? = (zl g d)[i.toNat]? := by rw [h]
  have hl : c.toNat = d.toNat := by
    have := congrArg List.length h
    simpa [zl] using this
  simp only [zl, List.getElem?_map] at e
  rw [List.getElem?_range (by omega), List.getElem?_range (by omega)] at e
  have hi : ((i.toNat : Nat) : Int) = i := by omega
  simpa [hi] using e
/-! parents -/
def gSup (B : zS) (t : Int) : Prop := ¬ t = 0 ∧ ¬ B 0 t = 2
theorem gSup_dec (B : zS) (t : Int) : gSup B t ∨ ¬ gSup B t := Classical.em _
noncomputable def gPc (B : zS) (t : Int) : Int := if t = 0 ∨ B 0 t = 2 then B 2 t else B 2 t + 1
noncomputable def gPa (B : zS) (t i : Int) : Int := if t = 0 ∨ B 0 t = 2 then B 3 (4 * t + i) else if i = 0 then B 1 t else B 3 (4 * t + (i - 1))
theorem gPc_n {B : zS} {t : Int} (a : ¬ (t = 0 ∨ B 0 t = 2)) : gPc B t = B 2 t + 1 := if_neg a
theorem gPc_p {B : zS} {t : Int} (a : t = 0 ∨ B 0 t = 2) : gPc B t = B 2 t := if_pos a
theorem gPa_n0 {B : zS} {t i : Int} (a : ¬ (t = 0 ∨ B 0 t = 2)) (c : i = 0) : gPa B t i = B 1 t := by rw [gPa, if_neg a, if_pos c]
theorem gPa_n {B : zS} {t i : Int} (a : ¬ (t = 0 ∨ B 0 t = 2)) (c : ¬ i = 0) : gPa B t i = B 3 (4 * t + (i - 1)) := by rw [gPa, if_neg a, if_neg c]
theorem gPa_p {B : zS} {t i : Int} (a : t = 0 ∨ B 0 t = 2) : gPa B t i = B 3 (4 * t + i) := if_pos a
theorem gPc_le {B : zS} (h : Bd B) {t : Int} (h0 : 0 ≤ t) (h1 : t < 16) : 0 ≤ gPc B t ∧ gPc B t ≤ 5 := by
  have := h.fc t h0 h1
  unfold gPc
  split <;> omega
theorem gPa_lt {B : zS} (h : Bd B) {t i : Int} (h0 : 0 ≤ t) (h1 : t < 16) (h2 : 0 ≤ i) (h3 : i < gPc B t) : 0 ≤ gPa B t i ∧ gPa B t i < t := by
  have hf := h.fc t h0 h1
  have hs := h.sup t h0 h1
  unfold gPc at h3
  unfold gPa
  by_cases hc : t = 0 ∨ B 0 t = 2
  · rw [if_pos hc] at h3 ⊢
    have := h.fa t i h0 h1 h2 h3
    have := h.fj (4 * t + i) (by omega) (by omega)
    omega
  · rw [if_neg hc] at h3 ⊢
    by_cases hi : i = 0
    · rw [if_pos hi]
      omega
    · rw [if_neg hi]
      have := h.fa t (i - 1) h0 h1 (by omega) (by omega)
      have := h.fj (4 * t + (i - 1)) (by omega) (by omega)
      omega
