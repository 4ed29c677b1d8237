/-! what an instruction's row of the table says of the bytes -/
def zD (y pc : Nat) : Bool := match zC y pc with
  | (1, ln, _, c) => (ln == 1 && decide (decode (zB y) pc = .ok (.iconst c, 1))) || (ln == 2 && decide (-128 ≤ c) && decide (c < 128) && decide (decode (zB y) pc = .ok (.bipush c, 2))) || (ln == 3 && decide (-32768 ≤ c) && decide (c < 32768) && decide (decode (zB y) pc = .ok (.sipush c, 3)))
  | (2, i, ln, _) => (ln == 1 && (if h : i < 4 then decide (decode (zB y) pc = .ok (.iload_n ⟨i, h⟩, 1)) else false)) || (ln == 2 && decide (decode (zB y) pc = .ok (.iload i, 2)))
  | (3, i, ln, _) => (ln == 1 && (if h : i < 4 then decide (decode (zB y) pc = .ok (.aload_n ⟨i, h⟩, 1)) else false)) || (ln == 2 && decide (decode (zB y) pc = .ok (.aload i, 2)))
  | (4, i, ln, _) => (ln == 1 && (if h : i < 4 then decide (decode (zB y) pc = .ok (.istore_n ⟨i, h⟩, 1)) else false)) || (ln == 2 && decide (decode (zB y) pc = .ok (.istore i, 2)))
  | (5, i, _, c) => decide (decode (zB y) pc = .ok (.iinc i c, 3))
  | (6, _, _, _) => decide (decode (zB y) pc = .ok (.iadd, 1))
  | (7, _, _, _) => decide (decode (zB y) pc = .ok (.isub, 1))
  | (8, _, _, _) => decide (decode (zB y) pc = .ok (.imul, 1))
  | (9, _, _, _) => decide (decode (zB y) pc = .ok (.ior, 1))
  | (10, _, _, _) => decide (decode (zB y) pc = .ok (.iand, 1))
  | (11, _, _, _) => decide (decode (zB y) pc = .ok (.ishl, 1))
  | (12, _, _, _) => decide (decode (zB y) pc = .ok (.ishr, 1))
  | (13, _, _, _) => decide (decode (zB y) pc = .ok (.dup, 1))
  | (14, _, _, _) => decide (decode (zB y) pc = .ok (.dup2, 1))
  | (15, _, _, _) => decide (decode (zB y) pc = .ok (.pop, 1))
  | (16, ci, j, x) => decide (decode (zB y) pc = .ok (.getfield x.toNat, 3)) && decide ((zO y, x.toNat, ci, j) ∈ zFs)
  | (17, ci, j, x) => decide (decode (zB y) pc = .ok (.putfield x.toNat, 3)) && decide ((zO y, x.toNat, ci, j) ∈ zFs) && decide ((zTn ci j).2.2.2 = false)
  | (18, cd, t, x) => decide (decode (zB y) pc = .ok (.if_icmp (if cd = 0 then .eq else if cd = 1 then .ne else if cd = 2 then .lt else if cd = 3 then .ge else if cd = 4 then .gt else .le) x, 3)) && decide ((pc : Int) + x = (t : Int))
  | (19, cd, t, x) => decide (decode (zB y) pc = .ok (.ifCond (if cd = 0 then .eq else if cd = 1 then .ne else if cd = 2 then .lt else if cd = 3 then .ge else if cd = 4 then .gt else .le) x, 3)) && decide ((pc : Int) + x = (t : Int))
  | (20, t, _, x) => decide (decode (zB y) pc = .ok (.goto x, 3)) && decide ((pc : Int) + x = (t : Int))
  | (21, _, _, _) => decide (decode (zB y) pc = .ok (.iaload, 1))
  | (22, _, _, _) => decide (decode (zB y) pc = .ok (.iastore, 1))
  | (23, _, _, _) => decide (decode (zB y) pc = .ok (.baload, 1))
  | (24, _, _, _) => decide (decode (zB y) pc = .ok (.bastore, 1))
  | (25, _, _, _) => decide (decode (zB y) pc = .ok (.arraylength, 1))
  | (26, y', n, x) => decide (decode (zB y) pc = .ok (.invokevirtual x.toNat, 3)) && decide ((zO y, x.toNat, y') ∈ zCs) && decide (n = zNa y') && decide (y' < 117) && decide (zFr y' + 1 ≤ zFr y) && decide (8 + (zL y' + 11) + zLo y' ≤ zLo y)
  | (27, y', n, x) => decide (decode (zB y) pc = .ok (.invokestatic x.toNat, 3)) && decide ((zO y, x.toNat, y') ∈ zSs) && decide (n = zNa y') && decide (y' < 117) && decide (zFr y' + 1 ≤ zFr y) && decide (8 + (zL y' + 11) + zLo y' ≤ zLo y)
  | (28, _, _, _) => decide (decode (zB y) pc = .ok (.ireturn, 1))
  | (29, _, _, _) => decide (decode (zB y) pc = .ok (.return_, 1))
  | _ => true
def zEnd (y pc : Nat) : Prop := if zRk y = 0 then decode (zB y) pc = .ok (.return_, 1) else decode (zB y) pc = .ok (.ireturn, 1)
def zst (y : Nat) (x : Int) : List Value := if zRk y = 0 then [] else [.int (Int32.ofInt x)]
def zloc (ad : Nat → Nat) : Nat → List (Option zW) → List (Nat × Value)
  | _, [] => []
  | i, none :: l => zloc ad (i + 1) l
  | i, some v :: l => (i, zc ad v) :: zloc ad (i + 1) l
abbrev zctx (y : Nat) (p : Program) (s : State) (m : MethodId) (args : Array Value) (c : Code) (D : va_G) (cI cZ : ClassId) (A : Nat → Prop) : Prop :=
  p.tables.exec = Jvm.exec ∧ c.code = zB y ∧ c.maxLocals = zL y ∧ s.vm.findClass (zRn (zO y)) = some m.cls ∧ (∀ w ∈ zT, w.before args s = true) ∧ va_K D vwCl [(cI, .int), (cZ, .boolean)] s ∧ ∀ q : Nat, s.heap.size ≤ q → A q
/-- from this place of method y the machine comes to the method's end, with Q -/
def zV (y : Nat) (dom : Nat → Bool) (Q : Int → zS → Prop) (pc : Nat) (lv : List (Option zW)) (st : List zW) (σ : zS) : Prop :=
  ∀ (p : Program) (l : Launch) (e : Env) (s : State) (m : MethodId) (args : Array Value) (below : List Frame) (meth : Method) (c : Code) (D : va_G) (ad : Nat → Nat) (cI cZ : ClassId) (A : Nat → Prop) (QQ : State → Prop),
    zctx y p s m args c D cI cZ A →
    (∀ (pc' : Nat) (H : Heap) (locs : List Loc) (ls : Array Slot) (x : Int) (σ' : zS), zEnd y pc' → zfit y x → Q x σ' → va_P D vwCl (zwd dom ad cI cZ σ') H → va_D A (zwd dom ad cI cZ σ') → va_S A s.heap H locs → W p l e (zrm y) s m args below meth c H locs 0 0 QQ (F0 m pc' ls (zst y x))) →
    ∀ (H : Heap) (locs : List Loc) (ls : Array Slot), va_P D vwCl (zwd dom ad cI cZ σ) H → va_D A (zwd dom ad cI cZ σ) → va_S A s.heap H locs → lv_has ls (zL y) (zloc ad 0 lv) →
      W p l e (zrm y) s m args below meth c H locs 0 0 QQ (F0 m pc ls (st.map (zc ad)))
theorem zc_cat (ad : Nat → Nat) (v : zW) : (zc ad v).category = 1 := by cases v <;> rfl
theorem zloc_mem {ad : Nat → Nat} {i : Nat} {lv : List (Option zW)} {q : Nat × Value} (h : q ∈ zloc ad i lv) : ∃ (j : Nat) (v : zW), zlg lv j = some v ∧ q = (i + j, zc ad v) := by
  induction lv generalizing i with
  | nil => simp [zloc] at h
  | cons a l ih =>
    cases a with
    | none =>
      simp only [zloc] at h
      obtain ⟨j, v, h1, h2⟩ := ih h
      exact ⟨j + 1, v, h1, by rw [h2]; congr 1; omega⟩
    | some w =>
      simp only [zloc, List.mem_cons] at h
      rcases h with h | h
      · exact ⟨0, w, rfl, h⟩
      · obtain ⟨j, v, h1, h2⟩ := ih h
        exact ⟨j + 1, v, h1, by rw [h2]; congr 1; omega⟩
theorem zloc_of {ad : Nat → Nat} {i : Nat} {lv : List (Option zW)} {j : Nat} {v : zW} (h : zlg lv j = some v) : (i + j, zc ad v) ∈ zloc ad i lv := by
  induction lv generalizing i j with
  | nil => simp [zlg] at h
  | cons a l ih =>
    cases j with
    | zero =>
      simp only [zlg] at h
      subst h
      simp [zloc]
    | succ j =>
      simp only [zlg] at h
      have := ih (i := i + 1) h
      rw [show i + 1 + j = i + (j + 1) by omega] at this
      cases a with
      | none => simpa [zloc] using this
      | some w => simp only [zloc, List.mem_cons]; exact Or.inr this
theorem zlv_get {ad : Nat → Nat} {lv : List (Option zW)} {ls : Array Slot} {n i : Nat} {v : zW} (hl : lv_has ls n (zloc ad 0 lv)) (h : zlg lv i = some v) : ls[i]? = some (.val (zc ad v)) := by
  have := hl.2.2 (0 + i, zc ad v) (zloc_of h)
  simpa using this
theorem zlg_zls {lv : List (Option zW)} {i j : Nat} {v w : zW} (h : zlg (zls lv i v) j = some w) : (j = i ∧ w = v) ∨ (j ≠ i ∧ zlg lv j = some w) := by
  induction lv generalizing i j with
  | nil => simp [zls, zlg] at h
  | cons a l ih =>
    cases i with
    | zero =>
      cases j with
      | zero => simp only [zls, zlg, Option.some.injEq] at h; exact Or.inl ⟨rfl, h.symm⟩
      | succ j => simp only [zls, zlg] at h; exact Or.inr ⟨by omega, h⟩
    | succ i =>
      cases j with
      | zero => simp only [zls, zlg] at h; exact Or.inr ⟨by omega, h⟩
      | succ j =>
        simp only [zls, zlg] at h
        rcases ih h with ⟨h1, h2⟩ | ⟨h1, h2⟩
        · exact Or.inl ⟨by omega, h2⟩
        · exact Or.inr ⟨by omega, h2⟩
theorem zlv_set {ad : Nat → Nat} {lv : List (Option zW)} {ls : Array Slot} {n i : Nat} {v : zW} (h : lv_has ls n ((i, zc ad v) :: (zloc ad 0 lv).filter (fun q => !(q.1 == i) && !(q.1 + 1 == i && q.2.category == 2)))) : lv_has ls n (zloc ad 0 (zls lv i v)) := by
  refine ⟨h.1, h.2.1, fun q hq => h.2.2 q ?_⟩
  obtain ⟨j, w, h1, rfl⟩ := zloc_mem hq
  rcases zlg_zls h1 with ⟨rfl, rfl⟩ | ⟨h2, h3⟩
  · simp
  · refine List.mem_cons.mpr (Or.inr (List.mem_filter.mpr ⟨zloc_of h3, ?_⟩))
    simp [h2, zc_cat]
section ZV
variable {y : Nat} {dom : Nat → Bool} {Q : Int → zS → Prop} {pc : Nat} {lv : List (Option zW)} {st : List zW} {σ : zS}
theorem zV_const {c : Int} (h : decode (zB y) pc = .ok (.iconst c, 1)) (k : zV y dom Q (pc + 1) lv (.inl c :: st) σ) : zV y dom Q pc lv st σ := by
  intro p l e s m args below meth c D ad cI cZ A QQ hC hR H locs ls hP hD hS hl
  exact lv_iconst hC.1 hC.2.1 h rfl (k p l e s m args below meth c D ad cI cZ A QQ hC hR H locs ls hP hD hS hl)
theorem z_i8 {c : Int} (h1 : -128 ≤ c) (h2 : c < 128) : (Int8.ofInt c).toInt32 = Int32.ofInt c := by
  rw [← Int32.toInt_inj, Int8.toInt_toInt32, zr_toInt ⟨by omega, by omega⟩, Int8.toInt_ofInt_of_le (by omega) (by omega)]
theorem z_i16 {c : Int} (h1 : -32768 ≤ c) (h2 : c < 32768) : (Int16.ofInt c).toInt32 = Int32.ofInt c := by
  rw [← Int32.toInt_inj, Int16.toInt_toInt32, zr_toInt ⟨by omega, by omega⟩, Int16.toInt_ofInt_of_le (by omega) (by omega)]
theorem zV_bipush {c : Int} (h1 : -128 ≤ c) (h2 : c < 128) (h : decode (zB y) pc = .ok (.bipush c, 2)) (k : zV y dom Q (pc + 2) lv (.inl c :: st) σ) : zV y dom Q pc lv st σ := by
  intro p l e s m args below meth c D ad cI cZ A QQ hC hR H locs ls hP hD hS hl
  exact lv_bipush hC.1 hC.2.1 h (z_i8 h1 h2) (k p l e s m args below meth c D ad cI cZ A QQ hC hR H locs ls hP hD hS hl)
theorem zV_sipush {c : Int} (h1 : -32768 ≤ c) (h2 : c < 32768) (h : decode (zB y) pc = .ok (.sipush c, 3)) (k : zV y dom Q (pc + 3) lv (.inl c :: st) σ) : zV y dom Q pc lv st σ := by
  intro p l e s m args below meth c D ad cI cZ A QQ hC hR H locs ls hP hD hS hl
  exact lv_sipush hC.1 hC.2.1 h (z_i16 h1 h2) (k p l e s m args below meth c D ad cI cZ A QQ hC hR H locs ls hP hD hS hl)
theorem zV_iload_n {i : Nat} {x : Int} (hi : i < 4) (h : decode (zB y) pc = .ok (.iload_n ⟨i, hi⟩, 1)) (hg : zlg lv i = some (.inl x)) (k : zV y dom Q (pc + 1) lv (.inl x :: st) σ) : zV y dom Q pc lv st σ := by
  intro p l e s m args below meth c D ad cI cZ A QQ hC hR H locs ls hP hD hS hl
  exact lv_iload_n hC.1 hC.2.1 h rfl (zlv_get hl hg) (k p l e s m args below meth c D ad cI cZ A QQ hC hR H locs ls hP hD hS hl)
theorem zV_iload {i : Nat} {x : Int} (h : decode (zB y) pc = .ok (.iload i, 2)) (hg : zlg lv i = some (.inl x)) (k : zV y dom Q (pc + 2) lv (.inl x :: st) σ) : zV y dom Q pc lv st σ := by
  intro p l e s m args below meth c D ad cI cZ A QQ hC hR H locs ls hP hD hS hl
  exact lv_iload hC.1 hC.2.1 h (zlv_get hl hg) (k p l e s m args below meth c D ad cI cZ A QQ hC hR H locs ls hP hD hS hl)
theorem zV_aload_n {i r : Nat} (hi : i < 4) (h : decode (zB y) pc = .ok (.aload_n ⟨i, hi⟩, 1)) (hg : zlg lv i = some (.inr r)) (k : zV y dom Q (pc + 1) lv (.inr r :: st) σ) : zV y dom Q pc lv st σ := by
  intro p l e s m args below meth c D ad cI cZ A QQ hC hR H locs ls hP hD hS hl
  exact lv_aload_n hC.1 hC.2.1 h rfl (zlv_get hl hg) (k p l e s m args below meth c D ad cI cZ A QQ hC hR H locs ls hP hD hS hl)
theorem zV_aload {i r : Nat} (h : decode (zB y) pc = .ok (.aload i, 2)) (hg : zlg lv i = some (.inr r)) (k : zV y dom Q (pc + 2) lv (.inr r :: st) σ) : zV y dom Q pc lv st σ := by
  intro p l e s m args below meth c D ad cI cZ A QQ hC hR H locs ls hP hD hS hl
  exact lv_aload hC.1 hC.2.1 h (zlv_get hl hg) (k p l e s m args below meth c D ad cI cZ A QQ hC hR H locs ls hP hD hS hl)
theorem zV_istore_n {i : Nat} {x : Int} (hi : i < 4) (h : decode (zB y) pc = .ok (.istore_n ⟨i, hi⟩, 1)) (hn : i < zL y) (k : zV y dom Q (pc + 1) (zls lv i (.inl x)) st σ) : zV y dom Q pc lv (.inl x :: st) σ := by
  intro p l e s m args below meth c D ad cI cZ A QQ hC hR H locs ls hP hD hS hl
  exact lv_istore_n hC.1 hC.2.1 h rfl hl hn rfl (fun ls' hl' => k p l e s m args below meth c D ad cI cZ A QQ hC hR H locs ls' hP hD hS (zlv_set (v := .inl x) hl'))
theorem zV_istore {i : Nat} {x : Int} (h : decode (zB y) pc = .ok (.istore i, 2)) (hn : i < zL y) (k : zV y dom Q (pc + 2) (zls lv i (.inl x)) st σ) : zV y dom Q pc lv (.inl x :: st) σ := by
  intro p l e s m args below meth c D ad cI cZ A QQ hC hR H locs ls hP hD hS hl
  exact lv_istore hC.1 hC.2.1 h hl hn rfl (fun ls' hl' => k p l e s m args below meth c D ad cI cZ A QQ hC hR H locs ls' hP hD hS (zlv_set (v := .inl x) hl'))
theorem zV_iinc {i : Nat} {n x : Int} (h : decode (zB y) pc = .ok (.iinc i n, 3)) (hn : i < zL y) (hg : zlg lv i = some (.inl x)) (k : zV y dom Q (pc + 3) (zls lv i (.inl (x + n))) st σ) : zV y dom Q pc lv st σ := by
  intro p l e s m args below meth c D ad cI cZ A QQ hC hR H locs ls hP hD hS hl
  obtain ⟨j, hj⟩ := List.getElem?_of_mem (zloc_of (ad := ad) (i := 0) hg)
  rw [Nat.zero_add] at hj
  exact lv_iinc hC.1 hC.2.1 h hl hj (Int32.ofInt_add x n).symm hn rfl (fun ls' hl' => k p l e s m args below meth c D ad cI cZ A QQ hC hR H locs ls' hP hD hS (zlv_set (v := .inl (x + n)) hl'))
theorem zV_iadd {a b : Int} (h : decode (zB y) pc = .ok (.iadd, 1)) (k : zV y dom Q (pc + 1) lv (.inl (a + b) :: st) σ) : zV y dom Q pc lv (.inl b :: .inl a :: st) σ := by
  intro p l e s m args below meth c D ad cI cZ A QQ hC hR H locs ls hP hD hS hl
  have := k p l e s m args below meth c D ad cI cZ A QQ hC hR H locs ls hP hD hS hl
  simp only [List.map_cons, zc, Int32.ofInt_add] at this
  exact lv_iadd hC.1 hC.2.1 h this
theorem zV_isub {a b : Int} (h : decode (zB y) pc = .ok (.isub, 1)) (k : zV y dom Q (pc + 1) lv (.inl (a - b) :: st) σ) : zV y dom Q pc lv (.inl b :: .inl a :: st) σ := by
  intro p l e s m args below meth c D ad cI cZ A QQ hC hR H locs ls hP hD hS hl
  have := k p l e s m args below meth c D ad cI cZ A QQ hC hR H locs ls hP hD hS hl
  simp only [List.map_cons, zc, Int32.ofInt_sub] at this
  exact lv_isub hC.1 hC.2.1 h this
theorem zV_imul {a b : Int} (h : decode (zB y) pc = .ok (.imul, 1)) (k : zV y dom Q (pc + 1) lv (.inl (a * b) :: st) σ) : zV y dom Q pc lv (.inl b :: .inl a :: st) σ := by
  intro p l e s m args below meth c D ad cI cZ A QQ hC hR H locs ls hP hD hS hl
  have := k p l e s m args below meth c D ad cI cZ A QQ hC hR H locs ls hP hD hS hl
  simp only [List.map_cons, zc, Int32.ofInt_mul] at this
  exact lv_imul hC.1 hC.2.1 h this
theorem zV_ior {a b : Int} (h : decode (zB y) pc = .ok (.ior, 1)) (k : zV y dom Q (pc + 1) lv (.inl (zor a b) :: st) σ) : zV y dom Q pc lv (.inl b :: .inl a :: st) σ := by
  intro p l e s m args below meth c D ad cI cZ A QQ hC hR H locs ls hP hD hS hl
  have := k p l e s m args below meth c D ad cI cZ A QQ hC hR H locs ls hP hD hS hl
  simp only [List.map_cons, zc, zor, Int32.ofInt_toInt] at this
  exact lv_ior hC.1 hC.2.1 h this
theorem zV_iand {a b : Int} (h : decode (zB y) pc = .ok (.iand, 1)) (k : zV y dom Q (pc + 1) lv (.inl (zand a b) :: st) σ) : zV y dom Q pc lv (.inl b :: .inl a :: st) σ := by
  intro p l e s m args below meth c D ad cI cZ A QQ hC hR H locs ls hP hD hS hl
  have := k p l e s m args below meth c D ad cI cZ A QQ hC hR H locs ls hP hD hS hl
  simp only [List.map_cons, zc, zand, Int32.ofInt_toInt] at this
  exact lv_iand hC.1 hC.2.1 h this
theorem zV_ishl {a b : Int} (h : decode (zB y) pc = .ok (.ishl, 1)) (k : zV y dom Q (pc + 1) lv (.inl (zshl a b) :: st) σ) : zV y dom Q pc lv (.inl b :: .inl a :: st) σ := by
  intro p l e s m args below meth c D ad cI cZ A QQ hC hR H locs ls hP hD hS hl
  have := k p l e s m args below meth c D ad cI cZ A QQ hC hR H locs ls hP hD hS hl
  simp only [List.map_cons, zc, zshl, Int32.ofInt_toInt] at this
  exact lv_ishl hC.1 hC.2.1 h this
theorem zV_ishr {a b : Int} (h : decode (zB y) pc = .ok (.ishr, 1)) (k : zV y dom Q (pc + 1) lv (.inl (zshr a b) :: st) σ) : zV y dom Q pc lv (.inl b :: .inl a :: st) σ := by
  intro p l e s m args below meth c D ad cI cZ A QQ hC hR H locs ls hP hD hS hl
  have := k p l e s m args below meth c D ad cI cZ A QQ hC hR H locs ls hP hD hS hl
  simp only [List.map_cons, zc, zshr, Int32.ofInt_toInt] at this
  exact lv_ishr hC.1 hC.2.1 h this
theorem zV_dup {v : zW} (h : decode (zB y) pc = .ok (.dup, 1)) (k : zV y dom Q (pc + 1) lv (v :: v :: st) σ) : zV y dom Q pc lv (v :: st) σ := by
  intro p l e s m args below meth c D ad cI cZ A QQ hC hR H locs ls hP hD hS hl
  exact lv_dup hC.1 hC.2.1 h (zc_cat ad v) (k p l e s m args below meth c D ad cI cZ A QQ hC hR H locs ls hP hD hS hl)
theorem zV_dup2 {v w : zW} (h : decode (zB y) pc = .ok (.dup2, 1)) (k : zV y dom Q (pc + 1) lv (v :: w :: v :: w :: st) σ) : zV y dom Q pc lv (v :: w :: st) σ := by
  intro p l e s m args below meth c D ad cI cZ A QQ hC hR H locs ls hP hD hS hl
  exact lv_dup2_11 hC.1 hC.2.1 h (zc_cat ad v) (zc_cat ad w) (k p l e s m args below meth c D ad cI cZ A QQ hC hR H locs ls hP hD hS hl)
theorem zV_pop {v : zW} (h : decode (zB y) pc = .ok (.pop, 1)) (k : zV y dom Q (pc + 1) lv st σ) : zV y dom Q pc lv (v :: st) σ := by
  intro p l e s m args below meth c D ad cI cZ A QQ hC hR H locs ls hP hD hS hl
  exact lv_pop hC.1 hC.2.1 h (zc_cat ad v) (k p l e s m args below meth c D ad cI cZ A QQ hC hR H locs ls hP hD hS hl)
theorem zV_goto {t : Nat} {o : Int} (h : decode (zB y) pc = .ok (.goto o, 3)) (ht : (pc : Int) + o = (t : Int)) (k : zV y dom Q t lv st σ) : zV y dom Q pc lv st σ := by
  intro p l e s m args below meth c D ad cI cZ A QQ hC hR H locs ls hP hD hS hl
  exact lv_goto hC.1 hC.2.1 h ht (k p l e s m args below meth c D ad cI cZ A QQ hC hR H locs ls hP hD hS hl)
end ZV
