/-! the abstract machine: whole numbers, cells by number, one fixed shape of 55 cells -/
abbrev zS : Type := Nat → Int → Int
abbrev zW : Type := Int ⊕ Nat
def zr (x : Int) : Prop := -2147483648 ≤ x ∧ x < 2147483648
def zc (ad : Nat → Nat) (v : zW) : Value := match v with
  | .inl x => .int (Int32.ofInt x)
  | .inr k => .ref (ad k)
def zfld (ad : Nat → Nat) (σ : zS) (k j : Nat) : Value := match zref k j with
  | some r => .ref (ad r)
  | none => .int (Int32.ofInt (σ k (j : Int)))
def zcell (ad : Nat → Nat) (cI cZ : ClassId) (σ : zS) (k : Nat) : va_E :=
  if zkind k = 0 then .inl (cI, zlen k, .inl (fun j => Int32.ofInt (σ k (j : Int))))
  else if zkind k = 1 then .inl (cZ, zlen k, .inl (fun j => Int32.ofInt (σ k (j : Int))))
  else .inr (zkind k - 2, (List.range (zlen k)).map (zfld ad σ k))
def zdm (dom : Nat → Bool) : List Nat := (List.range 55).filter dom
def zwd (dom : Nat → Bool) (ad : Nat → Nat) (cI cZ : ClassId) (σ : zS) : va_W := (zdm dom).map (fun k => (ad k, zcell ad cI cZ σ k))
def zwr (σ : zS) (k : Nat) (i v : Int) : zS := fun a b => if a = k ∧ b = i then v else σ a b
theorem zr_toInt {x : Int} (h : zr x) : (Int32.ofInt x).toInt = x := by
  have h1 := h.1
  have h2 := h.2
  exact Int32.toInt_ofInt_of_le (by omega) (by omega)
theorem zr_lt {x y : Int} (hx : zr x) (hy : zr y) : Int32.ofInt x < Int32.ofInt y ↔ x < y := by
  rw [Int32.lt_iff_toInt_lt, zr_toInt hx, zr_toInt hy]
theorem zr_le {x y : Int} (hx : zr x) (hy : zr y) : Int32.ofInt x ≤ Int32.ofInt y ↔ x ≤ y := by
  rw [Int32.le_iff_toInt_le, zr_toInt hx, zr_toInt hy]
theorem zr_eq {x y : Int} (hx : zr x) (hy : zr y) : Int32.ofInt x = Int32.ofInt y ↔ x = y := by
  rw [← Int32.toInt_inj, zr_toInt hx, zr_toInt hy]
theorem zr_0 : zr 0 := ⟨by decide, by decide⟩
theorem zr_of (x : Int32) : zr x.toInt := ⟨by have := x.le_toInt; omega, by have := x.toInt_lt; omega⟩
theorem z_in {i : Int} {n : Nat} (h0 : 0 ≤ i) (h1 : i < n) (hn : n ≤ 3072) : vp_in (Int32.ofInt i) n := by
  rw [vp_in_iff, zr_toInt ⟨by omega, by omega⟩]
  exact ⟨h0, h1⟩
theorem z_tn {i : Int} (h0 : 0 ≤ i) (h1 : i < 2147483648) : (Int32.ofInt i).toNatClampNeg = i.toNat := Int32.toNatClampNeg_ofInt_of_le (by omega) (by omega)
theorem zfld_congr {ad : Nat → Nat} {σ σ' : zS} {k : Nat} (h : σ' k = σ k) : zfld ad σ' k = zfld ad σ k := by
  funext j
  simp only [zfld, h]
theorem zcell_congr {ad : Nat → Nat} {cI cZ : ClassId} {σ σ' : zS} {k : Nat} (h : σ' k = σ k) : zcell ad cI cZ σ' k = zcell ad cI cZ σ k := by
  simp only [zcell, h, zfld_congr h]
theorem zdm_nodup (dom : Nat → Bool) : (zdm dom).Nodup := List.Pairwise.filter _ List.nodup_range
theorem zwd_at {dom : Nat → Bool} {ad : Nat → Nat} {cI cZ : ClassId} {σ : zS} {k : Nat} (hk : k < 55) (hd : dom k = true) : ∃ q, (zwd dom ad cI cZ σ)[q]? = some (ad k, zcell ad cI cZ σ k) ∧ ∀ σ' : zS, (∀ a, a ≠ k → σ' a = σ a) → (zwd dom ad cI cZ σ).set q (ad k, zcell ad cI cZ σ' k) = zwd dom ad cI cZ σ' := by
  have hm : k ∈ zdm dom := List.mem_filter.mpr ⟨List.mem_range.mpr hk, hd⟩
  obtain ⟨q, hq⟩ := List.getElem?_of_mem hm
  have hl : q < (zdm dom).length := (List.getElem?_eq_some_iff.mp hq).1
  refine ⟨q, by simp [zwd, hq], fun σ' h => ?_⟩
  apply List.ext_getElem?
  intro i
  by_cases hi : i = q
  · subst hi
    rw [List.getElem?_set_self (by simpa [zwd] using hl)]
    simp [zwd, hq]
  · rw [List.getElem?_set_ne (Ne.symm hi)]
    simp only [zwd, List.getElem?_map]
    cases hx : (zdm dom)[i]? with
    | none => rfl
    | some k' =>
      have hne : k' ≠ k := fun e => hi ((List.getElem?_inj (List.getElem?_eq_some_iff.mp hx).1 (zdm_nodup dom)).mp (by rw [hx, hq, e]))
      simp [zcell_congr (h k' hne)]
/-- the addresses don't depend on what the cells hold -/
theorem zwd_D {A : Nat → Prop} {dom : Nat → Bool} {ad : Nat → Nat} {cI cZ : ClassId} {σ : zS} (σ' : zS) (h : va_D A (zwd dom ad cI cZ σ)) : va_D A (zwd dom ad cI cZ σ') := by
  have key : ∀ (i : Nat) (p : Nat × va_E), (zwd dom ad cI cZ σ')[i]? = some p → ∃ p' : Nat × va_E, (zwd dom ad cI cZ σ)[i]? = some p' ∧ p'.1 = p.1 := by
    intro i p hp
    simp only [zwd, List.getElem?_map, Option.map_eq_some_iff] at hp ⊢
    obtain ⟨k, hk, rfl⟩ := hp
    exact ⟨_, ⟨k, hk, rfl⟩, rfl⟩
  refine ⟨fun i j p q hi hj e => ?_, fun i p hi => ?_⟩
  · obtain ⟨p', h1, h2⟩ := key i p hi
    obtain ⟨q', h3, h4⟩ := key j q hj
    exact h.1 i j p' q' h1 h3 (by rw [h2, h4, e])
  · obtain ⟨p', h1, h2⟩ := key i p hi
    rw [← h2]
    exact h.2 i p' h1
theorem zwr_ne {σ : zS} {k : Nat} {i v : Int} : ∀ a, a ≠ k → zwr σ k i v a = σ a := fun a h => by
  funext b
  simp [zwr, h]
/-- an array's cell, one place of it written -/
theorem z_upd {σ : zS} {k : Nat} {i v : Int} (h0 : 0 ≤ i) (h1 : i < 2147483648) : upd (fun j : Nat => Int32.ofInt (σ k (j : Int))) (Int32.ofInt i).toNatClampNeg (Int32.ofInt v) = fun j : Nat => Int32.ofInt (zwr σ k i v k (j : Int)) := by
  funext j
  rw [z_tn h0 h1]
  simp only [upd, zwr, true_and]
  by_cases hj : j = i.toNat
  · rw [if_pos hj, if_pos (by omega)]
  · rw [if_neg hj, if_neg (by omega)]
/-! what an instruction does -/
def zlg : List (Option zW) → Nat → Option zW
  | [], _ => none
  | v :: _, 0 => v
  | _ :: l, n + 1 => zlg l n
def zls : List (Option zW) → Nat → zW → List (Option zW)
  | [], _, _ => []
  | _ :: l, 0, v => some v :: l
  | a :: l, n + 1, v => a :: zls l n v
def zli (lv : List (Option zW)) (i : Nat) (f : Int → Prop) : Prop := match zlg lv i with
  | some (.inl x) => f x
  | _ => False
def zlr (lv : List (Option zW)) (i : Nat) (f : Nat → Prop) : Prop := match zlg lv i with
  | some (.inr x) => f x
  | _ => False
def z1i (st : List zW) (f : Int → List zW → Prop) : Prop := match st with
  | .inl x :: st => f x st
  | _ => False
def z2i (st : List zW) (f : Int → Int → List zW → Prop) : Prop := match st with
  | .inl y :: .inl x :: st => f x y st
  | _ => False
def z1r (st : List zW) (f : Nat → List zW → Prop) : Prop := match st with
  | .inr x :: st => f x st
  | _ => False
def zir (st : List zW) (f : Int → Nat → List zW → Prop) : Prop := match st with
  | .inl i :: .inr r :: st => f i r st
  | _ => False
def ziir (st : List zW) (f : Int → Int → Nat → List zW → Prop) : Prop := match st with
  | .inl x :: .inl i :: .inr r :: st => f x i r st
  | _ => False
def z1v (st : List zW) (f : zW → List zW → Prop) : Prop := match st with
  | v :: st => f v st
  | _ => False
def z2v (st : List zW) (f : zW → zW → List zW → Prop) : Prop := match st with
  | v :: w :: st => f v w st
  | _ => False
def zone (st : List zW) (f : Int → Prop) : Prop := match st with
  | [.inl x] => f x
  | _ => False
def znil (st : List zW) (f : Prop) : Prop := match st with
  | [] => f
  | _ => False
def zsp : Nat → List zW → List zW → (List zW → List zW → Prop) → Prop
  | 0, st, as, f => f as st
  | n + 1, v :: st, as, f => zsp n st (v :: as) f
  | _ + 1, [], _, _ => False
def zcd (cd : Nat) (x y : Int) : Prop := match cd with
  | 0 => x = y
  | 1 => ¬ x = y
  | 2 => x < y
  | 3 => y ≤ x
  | 4 => y < x
  | _ => x ≤ y
def zor (x y : Int) : Int := (Int32.ofInt x ||| Int32.ofInt y).toInt
def zand (x y : Int) : Int := (Int32.ofInt x &&& Int32.ofInt y).toInt
def zshl (x y : Int) : Int := (Int32.ofInt x <<< (Int32.ofInt y &&& 31)).toInt
def zshr (x y : Int) : Int := (Int32.ofInt x >>> (Int32.ofInt y &&& 31)).toInt
def zac (dom : Nat → Bool) (r kd : Nat) : Prop := r < 55 ∧ dom r = true ∧ zkind r = kd
def zfv (σ : zS) (r j : Nat) : zW := match zref r j with
  | some q => .inr q
  | none => .inl (σ r (j : Int))
def zbf (ci j : Nat) : Bool := decide (zTy ci j = .boolean)
def zfb (ci j : Nat) (x : Int) : Prop := zbf ci j = true → x = 0 ∨ x = 1
def zfit (y : Nat) (x : Int) : Prop := if zRk y = 2 then x = 0 ∨ x = 1 else zRk y = 0 → x = 0
def zswp : List (Int × Nat) → Nat → Int → (Nat → Prop) → Prop
  | [], d, _, k => k d
  | (v, t) :: l, d, x, k => (x = v → k t) ∧ (¬ x = v → zswp l d x k)
def zrcv (dom : Nat → Bool) (y : Nat) (as : List zW) : Prop := match as with
  | .inr r :: _ => zac dom r (zO y + 2)
  | _ => False
def zpu (y : Nat) (r : Int) (st : List zW) : List zW := if zRk y = 0 then st else .inl r :: st
def zrm (y : Nat) : Room := { frames := zFr y, cells := 0, slots := 0, locals := zLo y }
def zT : List Cond := lw_tbl.filter goodWord
theorem z_T {w : Cond} (h : w ∈ lw_tbl) (hg : goodWord w = true) : w ∈ zT := List.mem_filter.mpr ⟨h, hg⟩
def zws (y : Nat) : List Cond := .code (zY y) (zB y) (zL y) (zRt (zRk y)) :: zT
abbrev zB_ (D : va_G) (dom : Nat → Bool) (ad : Nat → Nat) (cI cZ : ClassId) (A : Nat → Prop) (σ : zS) (t : State) : Prop := va_P D vwCl (zwd dom ad cI cZ σ) t.heap ∧ va_K D vwCl [(cI, .int), (cZ, .boolean)] t ∧ va_D A (zwd dom ad cI cZ σ)
def zQ (y : Nat) (Q : Int → zS → Prop) (D : va_G) (dom : Nat → Bool) (ad : Nat → Nat) (cI cZ : ClassId) (A : Nat → Prop) : Array Value → State → Outcome → State → Prop :=
  if zRk y = 0 then va_Qv (fun σ => Q 0 σ) (zB_ D dom ad cI cZ A) A else va_Qi (fun r σ => ∃ x : Int, r = Int32.ofInt x ∧ Q x σ) (zB_ D dom ad cI cZ A) A
/-- a method's contract: in a world of the shape, with the cells dom, that holds σ, it returns, and Q of its answer and of what the world then holds -/
def zM (y : Nat) (dom : Nat → Bool) (as : List zW) (σ : zS) (Q : Int → zS → Prop) : Prop :=
  ∀ (l : Launch) (D : va_G) (ad : Nat → Nat) (cI cZ : ClassId) (sz : Nat), Met l (zY y) (zws y) (zrm y)
    (va_Pc (as.map (zc ad)) (fun U => U.heap.size = sz ∧ va_P D vwCl (zwd dom ad cI cZ σ) U.heap ∧ va_K D vwCl [(cI, .int), (cZ, .boolean)] U ∧ va_D (fun _ => True) (zwd dom ad cI cZ σ)))
    (zQ y Q D dom ad cI cZ (va_A (zwd dom ad cI cZ σ) sz)) 0 0 (va_A (zwd dom ad cI cZ σ) sz)
def zI (y : Nat) (dom : Nat → Bool) (Q : Int → zS → Prop) (k : Nat → List (Option zW) → List zW → zS → Prop) (op : zOp) (pc : Nat) (lv : List (Option zW)) (st : List zW) (σ : zS) : Prop :=
  match op with
  | (1, ln, _, c) => k (pc + ln) lv (.inl c :: st) σ
  | (2, i, ln, _) => zli lv i fun x => k (pc + ln) lv (.inl x :: st) σ
  | (3, i, ln, _) => zlr lv i fun r => k (pc + ln) lv (.inr r :: st) σ
  | (4, i, ln, _) => z1i st fun x st => i < zL y ∧ k (pc + ln) (zls lv i (.inl x)) st σ
  | (5, i, _, c) => zli lv i fun x => i < zL y ∧ k (pc + 3) (zls lv i (.inl (x + c))) st σ
  | (6, _, _, _) => z2i st fun a b st => k (pc + 1) lv (.inl (a + b) :: st) σ
  | (7, _, _, _) => z2i st fun a b st => k (pc + 1) lv (.inl (a - b) :: st) σ
  | (8, _, _, _) => z2i st fun a b st => k (pc + 1) lv (.inl (a * b) :: st) σ
  | (9, _, _, _) => z2i st fun a b st => k (pc + 1) lv (.inl (zor a b) :: st) σ
  | (10, _, _, _) => z2i st fun a b st => k (pc + 1) lv (.inl (zand a b) :: st) σ
  | (11, _, _, _) => z2i st fun a b st => k (pc + 1) lv (.inl (zshl a b) :: st) σ
  | (12, _, _, _) => z2i st fun a b st => k (pc + 1) lv (.inl (zshr a b) :: st) σ
  | (13, _, _, _) => z1v st fun v st => k (pc + 1) lv (v :: v :: st) σ
  | (14, _, _, _) => z2v st fun v w st => k (pc + 1) lv (v :: w :: v :: w :: st) σ
  | (15, _, _, _) => z1v st fun _ st => k (pc + 1) lv st σ
  | (16, ci, j, _) => z1r st fun r st => zac dom r (ci + 2) ∧ k (pc + 3) lv (zfv σ r j :: st) σ
  | (17, ci, j, _) => zir st fun x r st => zac dom r (ci + 2) ∧ zref r j = none ∧ zfb ci j x ∧ k (pc + 3) lv st (zwr σ r (j : Int) x)
  | (18, cd, t, _) => z2i st fun a b st => zr a ∧ zr b ∧ (zcd cd a b → k t lv st σ) ∧ (¬ zcd cd a b → k (pc + 3) lv st σ)
  | (19, cd, t, _) => z1i st fun a st => zr a ∧ (zcd cd a 0 → k t lv st σ) ∧ (¬ zcd cd a 0 → k (pc + 3) lv st σ)
  | (20, t, _, _) => k t lv st σ
  | (21, _, _, _) => zir st fun i r st => zac dom r 0 ∧ 0 ≤ i ∧ i < zlen r ∧ k (pc + 1) lv (.inl (σ r i) :: st) σ
  | (22, _, _, _) => ziir st fun x i r st => zac dom r 0 ∧ 0 ≤ i ∧ i < zlen r ∧ k (pc + 1) lv st (zwr σ r i x)
  | (23, _, _, _) => zir st fun i r st => zac dom r 1 ∧ 0 ≤ i ∧ i < zlen r ∧ k (pc + 1) lv (.inl (σ r i) :: st) σ
  | (24, _, _, _) => ziir st fun x i r st => zac dom r 1 ∧ 0 ≤ i ∧ i < zlen r ∧ (x = 0 ∨ x = 1) ∧ k (pc + 1) lv st (zwr σ r i x)
  | (25, _, _, _) => z1r st fun r st => zac dom r 0 ∧ k (pc + 1) lv (.inl (zlen r : Int) :: st) σ
  | (26, y', n, _) => zsp (n + 1) st [] fun as st => zrcv dom y' as ∧ st.length ≤ 8 ∧ zM y' dom as σ (fun r σ' => k (pc + 3) lv (zpu y' r st) σ')
  | (27, y', n, _) => zsp n st [] fun as st => st.length ≤ 8 ∧ zM y' dom as σ (fun r σ' => k (pc + 3) lv (zpu y' r st) σ')
  | (28, _, _, _) => zone st fun x => ¬ zRk y = 0 ∧ zfit y x ∧ Q x σ
  | (29, _, _, _) => znil st (zRk y = 0 ∧ Q 0 σ)
  | (30, i, _, _) => z1i st fun x st => zr x ∧ zswp (zSw i).1 (zSw i).2 x (fun t => k t lv st σ)
  | (32, i, _, _) => z1i st fun x st => zr x ∧ zswp (zSw i).1 (zSw i).2 x (fun t => k t lv st σ)
  | _ => False
