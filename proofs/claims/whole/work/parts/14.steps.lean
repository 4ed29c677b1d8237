/-! the weakest condition, an instruction a row, as it is used -/
def zF : Nat → Bool := fun _ => true
def zgf (dom : Nat → Bool) (ci j : Nat) (σ : zS) (r : Nat) (f : zW → Prop) : Prop := zac dom r (ci + 2) ∧ f (zfv σ r j)
def zpf (dom : Nat → Bool) (ci j : Nat) (x : Int) (r : Nat) (K : Prop) : Prop := zac dom r (ci + 2) ∧ zref r j = none ∧ zfb ci j x ∧ K
def zal (dom : Nat → Bool) (kd r : Nat) (i : Int) (K : Prop) : Prop := zac dom r kd ∧ 0 ≤ i ∧ i < zlen r ∧ K
def zaln (dom : Nat → Bool) (r : Nat) (f : Int → Prop) : Prop := zac dom r 0 ∧ f (zlen r : Int)
def zlz (st : List zW) (K : Prop) : Prop := st.length ≤ 8 ∧ K
section ZW
variable {y : Nat} {dom : Nat → Bool} {Q : Int → zS → Prop} {pc : Nat} {lv : List (Option zW)} {st : List zW} {σ : zS} {n : Nat} {b : Bool}
theorem zq_stop (h : zH y pc = true) : zwp y dom Q (n + 1) true pc lv st σ = zV y dom Q pc lv st σ := by
  simp only [zwp, h, Bool.and_self, if_true]
theorem zq_I (h : (b && zH y pc) = false) : zwp y dom Q (n + 1) b pc lv st σ = zI y dom Q (zwp y dom Q n true) (zC y pc) pc lv st σ := by
  simp only [zwp, h, Bool.false_eq_true, if_false]
theorem zq_1 {ln a p : Nat} {c : Int} (h : (b && zH y pc) = false) (hc : zC y pc = (1, ln, a, c)) (hp : pc + ln = p) : zwp y dom Q (n + 1) b pc lv st σ = zwp y dom Q n true p lv (.inl c :: st) σ := by
  rw [zq_I h, hc, ← hp]; rfl
theorem zq_2 {i ln p : Nat} {c : Int} (h : (b && zH y pc) = false) (hc : zC y pc = (2, i, ln, c)) (hp : pc + ln = p) : zwp y dom Q (n + 1) b pc lv st σ = zli lv i fun x => zwp y dom Q n true p lv (.inl x :: st) σ := by
  rw [zq_I h, hc, ← hp]; rfl
theorem zq_3 {i ln p : Nat} {c : Int} (h : (b && zH y pc) = false) (hc : zC y pc = (3, i, ln, c)) (hp : pc + ln = p) : zwp y dom Q (n + 1) b pc lv st σ = zlr lv i fun x => zwp y dom Q n true p lv (.inr x :: st) σ := by
  rw [zq_I h, hc, ← hp]; rfl
theorem zq_4 {i ln p : Nat} {c : Int} (h : (b && zH y pc) = false) (hc : zC y pc = (4, i, ln, c)) (hi : Nat.ble (i + 1) (zL y) = true) (hp : pc + ln = p) : zwp y dom Q (n + 1) b pc lv st σ = z1i st fun x st => zwp y dom Q n true p (zls lv i (.inl x)) st σ := by
  have hi := Nat.le_of_ble_eq_true hi
  rw [zq_I h, hc, ← hp]
  simp only [zI, show i < zL y from hi, true_and]
theorem zq_5 {i a p : Nat} {c : Int} (h : (b && zH y pc) = false) (hc : zC y pc = (5, i, a, c)) (hi : Nat.ble (i + 1) (zL y) = true) (hp : pc + 3 = p) : zwp y dom Q (n + 1) b pc lv st σ = zli lv i fun x => zwp y dom Q n true p (zls lv i (.inl (x + c))) st σ := by
  have hi := Nat.le_of_ble_eq_true hi
  rw [zq_I h, hc, ← hp]
  simp only [zI, show i < zL y from hi, true_and]
theorem zq_6 {a1 a2 p : Nat} {c : Int} (h : (b && zH y pc) = false) (hc : zC y pc = (6, a1, a2, c)) (hp : pc + 1 = p) : zwp y dom Q (n + 1) b pc lv st σ = z2i st fun a b st => zwp y dom Q n true p lv (.inl (a + b) :: st) σ := by
  rw [zq_I h, hc, ← hp]; rfl
theorem zq_7 {a1 a2 p : Nat} {c : Int} (h : (b && zH y pc) = false) (hc : zC y pc = (7, a1, a2, c)) (hp : pc + 1 = p) : zwp y dom Q (n + 1) b pc lv st σ = z2i st fun a b st => zwp y dom Q n true p lv (.inl (a - b) :: st) σ := by
  rw [zq_I h, hc, ← hp]; rfl
theorem zq_8 {a1 a2 p : Nat} {c : Int} (h : (b && zH y pc) = false) (hc : zC y pc = (8, a1, a2, c)) (hp : pc + 1 = p) : zwp y dom Q (n + 1) b pc lv st σ = z2i st fun a b st => zwp y dom Q n true p lv (.inl (a * b) :: st) σ := by
  rw [zq_I h, hc, ← hp]; rfl
theorem zq_9 {a1 a2 p : Nat} {c : Int} (h : (b && zH y pc) = false) (hc : zC y pc = (9, a1, a2, c)) (hp : pc + 1 = p) : zwp y dom Q (n + 1) b pc lv st σ = z2i st fun a b st => zwp y dom Q n true p lv (.inl (zor a b) :: st) σ := by
  rw [zq_I h, hc, ← hp]; rfl
theorem zq_10 {a1 a2 p : Nat} {c : Int} (h : (b && zH y pc) = false) (hc : zC y pc = (10, a1, a2, c)) (hp : pc + 1 = p) : zwp y dom Q (n + 1) b pc lv st σ = z2i st fun a b st => zwp y dom Q n true p lv (.inl (zand a b) :: st) σ := by
  rw [zq_I h, hc, ← hp]; rfl
theorem zq_11 {a1 a2 p : Nat} {c : Int} (h : (b && zH y pc) = false) (hc : zC y pc = (11, a1, a2, c)) (hp : pc + 1 = p) : zwp y dom Q (n + 1) b pc lv st σ = z2i st fun a b st => zwp y dom Q n true p lv (.inl (zshl a b) :: st) σ := by
  rw [zq_I h, hc, ← hp]; rfl
theorem zq_12 {a1 a2 p : Nat} {c : Int} (h : (b && zH y pc) = false) (hc : zC y pc = (12, a1, a2, c)) (hp : pc + 1 = p) : zwp y dom Q (n + 1) b pc lv st σ = z2i st fun a b st => zwp y dom Q n true p lv (.inl (zshr a b) :: st) σ := by
  rw [zq_I h, hc, ← hp]; rfl
theorem zq_13 {a1 a2 p : Nat} {c : Int} (h : (b && zH y pc) = false) (hc : zC y pc = (13, a1, a2, c)) (hp : pc + 1 = p) : zwp y dom Q (n + 1) b pc lv st σ = z1v st fun v st => zwp y dom Q n true p lv (v :: v :: st) σ := by
  rw [zq_I h, hc, ← hp]; rfl
theorem zq_14 {a1 a2 p : Nat} {c : Int} (h : (b && zH y pc) = false) (hc : zC y pc = (14, a1, a2, c)) (hp : pc + 1 = p) : zwp y dom Q (n + 1) b pc lv st σ = z2v st fun v w st => zwp y dom Q n true p lv (v :: w :: v :: w :: st) σ := by
  rw [zq_I h, hc, ← hp]; rfl
theorem zq_15 {a1 a2 p : Nat} {c : Int} (h : (b && zH y pc) = false) (hc : zC y pc = (15, a1, a2, c)) (hp : pc + 1 = p) : zwp y dom Q (n + 1) b pc lv st σ = z1v st fun _ st => zwp y dom Q n true p lv st σ := by
  rw [zq_I h, hc, ← hp]; rfl
theorem zq_16 {ci j p : Nat} {c : Int} (h : (b && zH y pc) = false) (hc : zC y pc = (16, ci, j, c)) (hp : pc + 3 = p) : zwp y dom Q (n + 1) b pc lv st σ = z1r st fun r st => zgf dom ci j σ r fun v => zwp y dom Q n true p lv (v :: st) σ := by
  rw [zq_I h, hc, ← hp]; rfl
theorem zq_17 {ci j p : Nat} {c : Int} (h : (b && zH y pc) = false) (hc : zC y pc = (17, ci, j, c)) (hp : pc + 3 = p) : zwp y dom Q (n + 1) b pc lv st σ = zir st fun x r st => zpf dom ci j x r (zwp y dom Q n true p lv st (zwr σ r (j : Int) x)) := by
  rw [zq_I h, hc, ← hp]; rfl
theorem zq_18_0 {t p : Nat} {c : Int} (h : (b && zH y pc) = false) (hc : zC y pc = (18, 0, t, c)) (hp : pc + 3 = p) : zwp y dom Q (n + 1) b pc lv st σ = z2i st fun a b st => zr a ∧ zr b ∧ (a = b → zwp y dom Q n true t lv st σ) ∧ (¬ a = b → zwp y dom Q n true p lv st σ) := by
  rw [zq_I h, hc, ← hp]; rfl
theorem zq_18_1 {t p : Nat} {c : Int} (h : (b && zH y pc) = false) (hc : zC y pc = (18, 1, t, c)) (hp : pc + 3 = p) : zwp y dom Q (n + 1) b pc lv st σ = z2i st fun a b st => zr a ∧ zr b ∧ (¬ a = b → zwp y dom Q n true t lv st σ) ∧ (a = b → zwp y dom Q n true p lv st σ) := by
  rw [zq_I h, hc, ← hp]
  simp only [zI, zcd, Decidable.not_not]
theorem zq_18_2 {t p : Nat} {c : Int} (h : (b && zH y pc) = false) (hc : zC y pc = (18, 2, t, c)) (hp : pc + 3 = p) : zwp y dom Q (n + 1) b pc lv st σ = z2i st fun a b st => zr a ∧ zr b ∧ (a < b → zwp y dom Q n true t lv st σ) ∧ (b ≤ a → zwp y dom Q n true p lv st σ) := by
  rw [zq_I h, hc, ← hp]
  simp only [zI, zcd, Int.not_lt]
theorem zq_18_3 {t p : Nat} {c : Int} (h : (b && zH y pc) = false) (hc : zC y pc = (18, 3, t, c)) (hp : pc + 3 = p) : zwp y dom Q (n + 1) b pc lv st σ = z2i st fun a b st => zr a ∧ zr b ∧ (b ≤ a → zwp y dom Q n true t lv st σ) ∧ (a < b → zwp y dom Q n true p lv st σ) := by
  rw [zq_I h, hc, ← hp]
  simp only [zI, zcd, Int.not_le]
theorem zq_18_4 {t p : Nat} {c : Int} (h : (b && zH y pc) = false) (hc : zC y pc = (18, 4, t, c)) (hp : pc + 3 = p) : zwp y dom Q (n + 1) b pc lv st σ = z2i st fun a b st => zr a ∧ zr b ∧ (b < a → zwp y dom Q n true t lv st σ) ∧ (a ≤ b → zwp y dom Q n true p lv st σ) := by
  rw [zq_I h, hc, ← hp]
  simp only [zI, zcd, Int.not_lt]
theorem zq_18_5 {t p : Nat} {c : Int} (h : (b && zH y pc) = false) (hc : zC y pc = (18, 5, t, c)) (hp : pc + 3 = p) : zwp y dom Q (n + 1) b pc lv st σ = z2i st fun a b st => zr a ∧ zr b ∧ (a ≤ b → zwp y dom Q n true t lv st σ) ∧ (b < a → zwp y dom Q n true p lv st σ) := by
  rw [zq_I h, hc, ← hp]
  simp only [zI, zcd, Int.not_le]
theorem zq_19_0 {t p : Nat} {c : Int} (h : (b && zH y pc) = false) (hc : zC y pc = (19, 0, t, c)) (hp : pc + 3 = p) : zwp y dom Q (n + 1) b pc lv st σ = z1i st fun a st => zr a ∧ (a = 0 → zwp y dom Q n true t lv st σ) ∧ (¬ a = 0 → zwp y dom Q n true p lv st σ) := by
  rw [zq_I h, hc, ← hp]; rfl
theorem zq_19_1 {t p : Nat} {c : Int} (h : (b && zH y pc) = false) (hc : zC y pc = (19, 1, t, c)) (hp : pc + 3 = p) : zwp y dom Q (n + 1) b pc lv st σ = z1i st fun a st => zr a ∧ (¬ a = 0 → zwp y dom Q n true t lv st σ) ∧ (a = 0 → zwp y dom Q n true p lv st σ) := by
  rw [zq_I h, hc, ← hp]
  simp only [zI, zcd, Decidable.not_not]
theorem zq_19_2 {t p : Nat} {c : Int} (h : (b && zH y pc) = false) (hc : zC y pc = (19, 2, t, c)) (hp : pc + 3 = p) : zwp y dom Q (n + 1) b pc lv st σ = z1i st fun a st => zr a ∧ (a < 0 → zwp y dom Q n true t lv st σ) ∧ (0 ≤ a → zwp y dom Q n true p lv st σ) := by
  rw [zq_I h, hc, ← hp]
  simp only [zI, zcd, Int.not_lt]
theorem zq_19_3 {t p : Nat} {c : Int} (h : (b && zH y pc) = false) (hc : zC y pc = (19, 3, t, c)) (hp : pc + 3 = p) : zwp y dom Q (n + 1) b pc lv st σ = z1i st fun a st => zr a ∧ (0 ≤ a → zwp y dom Q n true t lv st σ) ∧ (a < 0 → zwp y dom Q n true p lv st σ) := by
  rw [zq_I h, hc, ← hp]
  simp only [zI, zcd, Int.not_le]
theorem zq_19_4 {t p : Nat} {c : Int} (h : (b && zH y pc) = false) (hc : zC y pc = (19, 4, t, c)) (hp : pc + 3 = p) : zwp y dom Q (n + 1) b pc lv st σ = z1i st fun a st => zr a ∧ (0 < a → zwp y dom Q n true t lv st σ) ∧ (a ≤ 0 → zwp y dom Q n true p lv st σ) := by
  rw [zq_I h, hc, ← hp]
  simp only [zI, zcd, Int.not_lt]
theorem zq_19_5 {t p : Nat} {c : Int} (h : (b && zH y pc) = false) (hc : zC y pc = (19, 5, t, c)) (hp : pc + 3 = p) : zwp y dom Q (n + 1) b pc lv st σ = z1i st fun a st => zr a ∧ (a ≤ 0 → zwp y dom Q n true t lv st σ) ∧ (0 < a → zwp y dom Q n true p lv st σ) := by
  rw [zq_I h, hc, ← hp]
  simp only [zI, zcd, Int.not_le]
theorem zq_20 {t a : Nat} {c : Int} (h : (b && zH y pc) = false) (hc : zC y pc = (20, t, a, c)) : zwp y dom Q (n + 1) b pc lv st σ = zwp y dom Q n true t lv st σ := by
  rw [zq_I h, hc]; rfl
theorem zq_21 {a1 a2 p : Nat} {c : Int} (h : (b && zH y pc) = false) (hc : zC y pc = (21, a1, a2, c)) (hp : pc + 1 = p) : zwp y dom Q (n + 1) b pc lv st σ = zir st fun i r st => zal dom 0 r i (zwp y dom Q n true p lv (.inl (σ r i) :: st) σ) := by
  rw [zq_I h, hc, ← hp]; rfl
theorem zq_22 {a1 a2 p : Nat} {c : Int} (h : (b && zH y pc) = false) (hc : zC y pc = (22, a1, a2, c)) (hp : pc + 1 = p) : zwp y dom Q (n + 1) b pc lv st σ = ziir st fun x i r st => zal dom 0 r i (zwp y dom Q n true p lv st (zwr σ r i x)) := by
  rw [zq_I h, hc, ← hp]; rfl
theorem zq_23 {a1 a2 p : Nat} {c : Int} (h : (b && zH y pc) = false) (hc : zC y pc = (23, a1, a2, c)) (hp : pc + 1 = p) : zwp y dom Q (n + 1) b pc lv st σ = zir st fun i r st => zal dom 1 r i (zwp y dom Q n true p lv (.inl (σ r i) :: st) σ) := by
  rw [zq_I h, hc, ← hp]; rfl
theorem zq_24 {a1 a2 p : Nat} {c : Int} (h : (b && zH y pc) = false) (hc : zC y pc = (24, a1, a2, c)) (hp : pc + 1 = p) : zwp y dom Q (n + 1) b pc lv st σ = ziir st fun x i r st => zal dom 1 r i ((x = 0 ∨ x = 1) ∧ zwp y dom Q n true p lv st (zwr σ r i x)) := by
  rw [zq_I h, hc, ← hp]; rfl
theorem zq_25 {a1 a2 p : Nat} {c : Int} (h : (b && zH y pc) = false) (hc : zC y pc = (25, a1, a2, c)) (hp : pc + 1 = p) : zwp y dom Q (n + 1) b pc lv st σ = z1r st fun r st => zaln dom r fun x => zwp y dom Q n true p lv (.inl x :: st) σ := by
  rw [zq_I h, hc, ← hp]; rfl
theorem zq_26v {y' m p : Nat} {c : Int} (h : (b && zH y pc) = false) (hc : zC y pc = (26, y', m, c)) (hr : zRk y' = 0) (hp : pc + 3 = p) : zwp y dom Q (n + 1) b pc lv st σ = zsp (m + 1) st [] fun as st => zrcv dom y' as ∧ zlz st (zM y' dom as σ (fun _ σ' => zwp y dom Q n true p lv st σ')) := by
  rw [zq_I h, hc, ← hp]
  simp only [zI, zpu, hr, if_true, zlz]
theorem zq_26i {y' m p : Nat} {c : Int} (h : (b && zH y pc) = false) (hc : zC y pc = (26, y', m, c)) (hr : Nat.beq (zRk y') 0 = false) (hp : pc + 3 = p) : zwp y dom Q (n + 1) b pc lv st σ = zsp (m + 1) st [] fun as st => zrcv dom y' as ∧ zlz st (zM y' dom as σ (fun r σ' => zwp y dom Q n true p lv (.inl r :: st) σ')) := by
  rw [zq_I h, hc, ← hp]
  simp only [zI, zpu, if_neg (Nat.ne_of_beq_eq_false hr), zlz]
theorem zq_27i {y' m p : Nat} {c : Int} (h : (b && zH y pc) = false) (hc : zC y pc = (27, y', m, c)) (hr : Nat.beq (zRk y') 0 = false) (hp : pc + 3 = p) : zwp y dom Q (n + 1) b pc lv st σ = zsp m st [] fun as st => zlz st (zM y' dom as σ (fun r σ' => zwp y dom Q n true p lv (.inl r :: st) σ')) := by
  rw [zq_I h, hc, ← hp]
  simp only [zI, zpu, if_neg (Nat.ne_of_beq_eq_false hr), zlz]
theorem zq_28i {a1 a2 : Nat} {c : Int} (h : (b && zH y pc) = false) (hc : zC y pc = (28, a1, a2, c)) (hr : zRk y = 1) : zwp y dom Q (n + 1) b pc lv st σ = zone st fun x => Q x σ := by
  rw [zq_I h, hc]
  simp [zI, zfit, hr]
theorem zq_28z {a1 a2 : Nat} {c : Int} (h : (b && zH y pc) = false) (hc : zC y pc = (28, a1, a2, c)) (hr : zRk y = 2) : zwp y dom Q (n + 1) b pc lv st σ = zone st fun x => (x = 0 ∨ x = 1) ∧ Q x σ := by
  rw [zq_I h, hc]
  simp [zI, zfit, hr]
theorem zq_29 {a1 a2 : Nat} {c : Int} (h : (b && zH y pc) = false) (hc : zC y pc = (29, a1, a2, c)) (hr : zRk y = 0) : zwp y dom Q (n + 1) b pc lv st σ = znil st (Q 0 σ) := by
  rw [zq_I h, hc]
  simp only [zI, hr, true_and]
theorem zq_30 {i a1 : Nat} {c : Int} {sw : List (Int × Nat) × Nat} (h : (b && zH y pc) = false) (hc : zC y pc = (30, i, a1, c)) (hs : zSw i = sw) : zwp y dom Q (n + 1) b pc lv st σ = z1i st fun x st => zr x ∧ zswp sw.1 sw.2 x (fun t => zwp y dom Q n true t lv st σ) := by
  rw [zq_I h, hc, ← hs]; rfl
theorem zq_32 {i a1 : Nat} {c : Int} {sw : List (Int × Nat) × Nat} (h : (b && zH y pc) = false) (hc : zC y pc = (32, i, a1, c)) (hs : zSw i = sw) : zwp y dom Q (n + 1) b pc lv st σ = z1i st fun x st => zr x ∧ zswp sw.1 sw.2 x (fun t => zwp y dom Q n true t lv st σ) := by
  rw [zq_I h, hc, ← hs]; rfl
end ZW
