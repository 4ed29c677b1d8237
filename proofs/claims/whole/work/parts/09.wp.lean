/-! every instruction of the table, at once -/
theorem zsp_inv : ∀ (n : Nat) (st as : List zW) (f : List zW → List zW → Prop), zsp n st as f → ∃ bs rest, st = bs ++ rest ∧ bs.length = n ∧ f (bs.reverse ++ as) rest
  | 0, st, as, f, h => ⟨[], st, rfl, rfl, h⟩
  | n + 1, [], as, f, h => absurd h (by simp [zsp])
  | n + 1, v :: st, as, f, h => by
    simp only [zsp] at h
    obtain ⟨bs, rest, h1, h2, h3⟩ := zsp_inv n st (v :: as) f h
    exact ⟨v :: bs, rest, by rw [h1]; rfl, by simp [h2], by simpa using h3⟩
theorem zli_inv {lv : List (Option zW)} {i : Nat} {f : Int → Prop} (h : zli lv i f) : ∃ x, zlg lv i = some (.inl x) ∧ f x := by
  unfold zli at h
  split at h
  · exact ⟨_, by assumption, h⟩
  · exact absurd h id
theorem zlr_inv {lv : List (Option zW)} {i : Nat} {f : Nat → Prop} (h : zlr lv i f) : ∃ x, zlg lv i = some (.inr x) ∧ f x := by
  unfold zlr at h
  split at h
  · exact ⟨_, by assumption, h⟩
  · exact absurd h id
theorem z1i_inv {st : List zW} {f : Int → List zW → Prop} (h : z1i st f) : ∃ x st', st = .inl x :: st' ∧ f x st' := by
  unfold z1i at h
  split at h
  · exact ⟨_, _, rfl, h⟩
  · exact absurd h id
theorem z2i_inv {st : List zW} {f : Int → Int → List zW → Prop} (h : z2i st f) : ∃ a b st', st = .inl b :: .inl a :: st' ∧ f a b st' := by
  unfold z2i at h
  split at h
  · exact ⟨_, _, _, rfl, h⟩
  · exact absurd h id
theorem z1r_inv {st : List zW} {f : Nat → List zW → Prop} (h : z1r st f) : ∃ x st', st = .inr x :: st' ∧ f x st' := by
  unfold z1r at h
  split at h
  · exact ⟨_, _, rfl, h⟩
  · exact absurd h id
theorem zir_inv {st : List zW} {f : Int → Nat → List zW → Prop} (h : zir st f) : ∃ i r st', st = .inl i :: .inr r :: st' ∧ f i r st' := by
  unfold zir at h
  split at h
  · exact ⟨_, _, _, rfl, h⟩
  · exact absurd h id
theorem ziir_inv {st : List zW} {f : Int → Int → Nat → List zW → Prop} (h : ziir st f) : ∃ x i r st', st = .inl x :: .inl i :: .inr r :: st' ∧ f x i r st' := by
  unfold ziir at h
  split at h
  · exact ⟨_, _, _, _, rfl, h⟩
  · exact absurd h id
theorem z1v_inv {st : List zW} {f : zW → List zW → Prop} (h : z1v st f) : ∃ x st', st = x :: st' ∧ f x st' := by
  unfold z1v at h
  split at h
  · exact ⟨_, _, rfl, h⟩
  · exact absurd h id
theorem z2v_inv {st : List zW} {f : zW → zW → List zW → Prop} (h : z2v st f) : ∃ x x2 st', st = x :: x2 :: st' ∧ f x x2 st' := by
  unfold z2v at h
  split at h
  · exact ⟨_, _, _, rfl, h⟩
  · exact absurd h id
theorem zone_inv {st : List zW} {f : Int → Prop} (h : zone st f) : ∃ x, st = [.inl x] ∧ f x := by
  unfold zone at h
  split at h
  · exact ⟨_, rfl, h⟩
  · exact absurd h id
theorem znil_inv {st : List zW} {f : Prop} (h : znil st f) : st = [] ∧ f := by
  unfold znil at h
  split at h
  · exact ⟨rfl, h⟩
  · exact absurd h id
theorem zrcv_inv {dom : Nat → Bool} {y : Nat} {as : List zW} (h : zrcv dom y as) : ∃ r bs, as = .inr r :: bs ∧ zac dom r (zO y + 2) := by
  unfold zrcv at h
  split at h
  · exact ⟨_, _, rfl, h⟩
  · exact absurd h id
theorem zV_end {y : Nat} {dom : Nat → Bool} {Q : Int → zS → Prop} {pc : Nat} {lv : List (Option zW)} {st : List zW} {σ : zS} {x : Int} (h : zEnd y pc) (hx : zfit y x) (hQ : Q x σ) (hs : ∀ ad : Nat → Nat, zst y x = st.map (zc ad)) : zV y dom Q pc lv st σ := by
  intro p l e s m args below meth c D ad cI cZ A QQ hC hR H locs ls hP hD hS hl
  rw [← hs ad]
  exact hR pc H locs ls x σ h hx hQ hP hD hS
/-- a switch's row -/
def zSwS (y pc i : Nat) : Prop := ∀ (dom : Nat → Bool) (Q : Int → zS → Prop) (lv : List (Option zW)) (st : List zW) (σ : zS) (x : Int), zr x → zswp (zSw i).1 (zSw i).2 x (fun t => zV y dom Q t lv st σ) → zV y dom Q pc lv (.inl x :: st) σ
theorem zswp_mono {l : List (Int × Nat)} {d : Nat} {x : Int} {k k' : Nat → Prop} (hk : ∀ t, k t → k' t) (h : zswp l d x k) : zswp l d x k' := by
  induction l with
  | nil => exact hk _ h
  | cons a l ih => exact ⟨fun z => hk _ (h.1 z), fun z => ih (h.2 z)⟩
def zOK (y : Nat) : Prop := y < 117 ∧ (∀ pc, zD y pc = true) ∧ (∀ pc i a b, zC y pc = (30, i, a, b) ∨ zC y pc = (32, i, a, b) → zSwS y pc i)
def zCW : Prop := ∀ y, y < 117 → Cond.code (zY y) (zB y) (zL y) (zRt (zRk y)) ∈ lw_tbl
theorem zI_sound (hCW : zCW) {y : Nat} {dom : Nat → Bool} {Q : Int → zS → Prop} {k : Nat → List (Option zW) → List zW → zS → Prop} {pc : Nat} {lv : List (Option zW)} {st : List zW} {σ : zS} (hy : zOK y) (hk : ∀ pc lv st σ, k pc lv st σ → zV y dom Q pc lv st σ) (h : zI y dom Q k (zC y pc) pc lv st σ) : zV y dom Q pc lv st σ := by
  have hd := hy.2.1 pc
  have hsw := hy.2.2 pc
  unfold zD at hd
  generalize zC y pc = op at h hd hsw
  unfold zI at h
  split at h
  · simp only [Bool.or_eq_true, Bool.and_eq_true, beq_iff_eq, decide_eq_true_eq] at hd
    rcases hd with (⟨rfl, hd⟩ | ⟨⟨⟨rfl, h1⟩, h2⟩, hd⟩) | ⟨⟨⟨rfl, h1⟩, h2⟩, hd⟩
    · exact zV_const hd (hk _ _ _ _ h)
    · exact zV_bipush h1 h2 hd (hk _ _ _ _ h)
    · exact zV_sipush h1 h2 hd (hk _ _ _ _ h)
  · obtain ⟨x, hg, h⟩ := zli_inv h
    simp only [Bool.or_eq_true, Bool.and_eq_true, beq_iff_eq, decide_eq_true_eq] at hd
    rcases hd with ⟨rfl, hd⟩ | ⟨rfl, hd⟩
    · split at hd
      · exact zV_iload_n _ (of_decide_eq_true hd) hg (hk _ _ _ _ h)
      · exact absurd hd (by decide)
    · exact zV_iload hd hg (hk _ _ _ _ h)
  · obtain ⟨x, hg, h⟩ := zlr_inv h
    simp only [Bool.or_eq_true, Bool.and_eq_true, beq_iff_eq, decide_eq_true_eq] at hd
    rcases hd with ⟨rfl, hd⟩ | ⟨rfl, hd⟩
    · split at hd
      · exact zV_aload_n _ (of_decide_eq_true hd) hg (hk _ _ _ _ h)
      · exact absurd hd (by decide)
    · exact zV_aload hd hg (hk _ _ _ _ h)
  · obtain ⟨x, st, rfl, hn, h⟩ := z1i_inv h
    simp only [Bool.or_eq_true, Bool.and_eq_true, beq_iff_eq, decide_eq_true_eq] at hd
    rcases hd with ⟨rfl, hd⟩ | ⟨rfl, hd⟩
    · split at hd
      · exact zV_istore_n _ (of_decide_eq_true hd) hn (hk _ _ _ _ h)
      · exact absurd hd (by decide)
    · exact zV_istore hd hn (hk _ _ _ _ h)
  · obtain ⟨x, hg, hn, h⟩ := zli_inv h
    exact zV_iinc (of_decide_eq_true hd) hn hg (hk _ _ _ _ h)
  · obtain ⟨a, b, st, rfl, h⟩ := z2i_inv h
    exact zV_iadd (of_decide_eq_true hd) (hk _ _ _ _ h)
  · obtain ⟨a, b, st, rfl, h⟩ := z2i_inv h
    exact zV_isub (of_decide_eq_true hd) (hk _ _ _ _ h)
  · obtain ⟨a, b, st, rfl, h⟩ := z2i_inv h
    exact zV_imul (of_decide_eq_true hd) (hk _ _ _ _ h)
  · obtain ⟨a, b, st, rfl, h⟩ := z2i_inv h
    exact zV_ior (of_decide_eq_true hd) (hk _ _ _ _ h)
  · obtain ⟨a, b, st, rfl, h⟩ := z2i_inv h
    exact zV_iand (of_decide_eq_true hd) (hk _ _ _ _ h)
  · obtain ⟨a, b, st, rfl, h⟩ := z2i_inv h
    exact zV_ishl (of_decide_eq_true hd) (hk _ _ _ _ h)
  · obtain ⟨a, b, st, rfl, h⟩ := z2i_inv h
    exact zV_ishr (of_decide_eq_true hd) (hk _ _ _ _ h)
  · obtain ⟨v, st, rfl, h⟩ := z1v_inv h
    exact zV_dup (of_decide_eq_true hd) (hk _ _ _ _ h)
  · obtain ⟨v, w, st, rfl, h⟩ := z2v_inv h
    exact zV_dup2 (of_decide_eq_true hd) (hk _ _ _ _ h)
  · obtain ⟨v, st, rfl, h⟩ := z1v_inv h
    exact zV_pop (of_decide_eq_true hd) (hk _ _ _ _ h)
  · obtain ⟨r, st, rfl, ha, h⟩ := z1r_inv h
    simp only [Bool.and_eq_true, decide_eq_true_eq] at hd
    exact zV_get hd.1 hd.2 ha (hk _ _ _ _ h)
  · obtain ⟨x, r, st, rfl, ha, hz, hx, h⟩ := zir_inv h
    simp only [Bool.and_eq_true, decide_eq_true_eq] at hd
    exact zV_put hd.1.1 hd.1.2 hd.2 ha hz hx (hk _ _ _ _ h)
  · obtain ⟨a, b, st, rfl, ha, hb, h1, h2⟩ := z2i_inv h
    simp only [Bool.and_eq_true, decide_eq_true_eq] at hd
    exact zV_icmp hd.1 hd.2 ha hb (fun z => hk _ _ _ _ (h1 z)) (fun z => hk _ _ _ _ (h2 z))
  · obtain ⟨a, st, rfl, ha, h1, h2⟩ := z1i_inv h
    simp only [Bool.and_eq_true, decide_eq_true_eq] at hd
    exact zV_if hd.1 hd.2 ha (fun z => hk _ _ _ _ (h1 z)) (fun z => hk _ _ _ _ (h2 z))
  · simp only [Bool.and_eq_true, decide_eq_true_eq] at hd
    exact zV_goto hd.1 hd.2 (hk _ _ _ _ h)
  · obtain ⟨i, r, st, rfl, ha, h0, h1, h⟩ := zir_inv h
    exact zV_iaload (of_decide_eq_true hd) ha h0 h1 (hk _ _ _ _ h)
  · obtain ⟨x, i, r, st, rfl, ha, h0, h1, h⟩ := ziir_inv h
    exact zV_iastore (of_decide_eq_true hd) ha h0 h1 (hk _ _ _ _ h)
  · obtain ⟨i, r, st, rfl, ha, h0, h1, h⟩ := zir_inv h
    exact zV_baload (of_decide_eq_true hd) ha h0 h1 (hk _ _ _ _ h)
  · obtain ⟨x, i, r, st, rfl, ha, h0, h1, hx, h⟩ := ziir_inv h
    exact zV_bastore (of_decide_eq_true hd) ha h0 h1 hx (hk _ _ _ _ h)
  · obtain ⟨r, st, rfl, ha, h⟩ := z1r_inv h
    exact zV_alen (of_decide_eq_true hd) ha (hk _ _ _ _ h)
  · obtain ⟨bs, rest, rfl, hn, h1, h2, hM⟩ := zsp_inv _ _ _ _ h
    simp only [Bool.and_eq_true, decide_eq_true_eq] at hd
    obtain ⟨⟨⟨⟨⟨d1, d2⟩, d3⟩, d4⟩, d5⟩, d6⟩ := hd
    obtain ⟨r, as, e, ha⟩ := zrcv_inv h1
    rw [List.append_nil] at e hM
    rw [e] at hM
    have e2 : bs = as.reverse ++ [.inr r] := by
      have := congrArg List.reverse e
      simpa using this
    have hl := hn
    rw [e2] at hl
    simp only [List.length_append, List.length_reverse, List.length_singleton, Nat.add_right_cancel_iff] at hl
    rw [d3] at hl
    rw [e2, List.append_assoc]
    exact zV_callv d1 d2 d4 (hCW _ d4) d5 d6 hl ha h2 hM (fun x σ' hq => hk _ _ _ _ hq)
  · obtain ⟨bs, rest, rfl, hn, h2, hM⟩ := zsp_inv _ _ _ _ h
    simp only [Bool.and_eq_true, decide_eq_true_eq] at hd
    obtain ⟨⟨⟨⟨⟨d1, d2⟩, d3⟩, d4⟩, d5⟩, d6⟩ := hd
    rw [List.append_nil] at hM
    have hl := List.length_reverse.trans (hn.trans d3)
    have := zV_calls (as := bs.reverse) (rest := rest) d1 d2 d4 (hCW _ d4) d5 d6 hl h2 hM (fun x σ' hq => hk _ _ _ _ hq)
    rwa [List.reverse_reverse] at this
  · obtain ⟨x, rfl, h0, hf, hQ⟩ := zone_inv h
    exact zV_end (x := x) (by rw [zEnd, if_neg h0]; exact of_decide_eq_true hd) hf hQ (fun ad => by rw [zst, if_neg h0]; rfl)
  · obtain ⟨rfl, h0, hQ⟩ := znil_inv h
    exact zV_end (x := 0) (by rw [zEnd, if_pos h0]; exact of_decide_eq_true hd) (by rw [zfit, if_neg (by omega)]; exact fun _ => rfl) hQ (fun ad => by rw [zst, if_pos h0]; rfl)
  · obtain ⟨x, st, rfl, hx, h⟩ := z1i_inv h
    exact hsw _ _ _ (Or.inl rfl) dom Q lv st σ x hx (zswp_mono (fun t => hk _ _ _ _) h)
  · obtain ⟨x, st, rfl, hx, h⟩ := z1i_inv h
    exact hsw _ _ _ (Or.inr rfl) dom Q lv st σ x hx (zswp_mono (fun t => hk _ _ _ _) h)
  · exact absurd h id
/-- the weakest condition of n steps; it stops at a loop's head (zH), unless it begins there (b = false) -/
def zwp (y : Nat) (dom : Nat → Bool) (Q : Int → zS → Prop) : Nat → Bool → Nat → List (Option zW) → List zW → zS → Prop
  | 0, _, pc, lv, st, σ => zV y dom Q pc lv st σ
  | n + 1, b, pc, lv, st, σ => if (b && zH y pc) = true then zV y dom Q pc lv st σ else zI y dom Q (zwp y dom Q n true) (zC y pc) pc lv st σ
theorem zwp_sound (hCW : zCW) {y : Nat} {dom : Nat → Bool} {Q : Int → zS → Prop} (hy : zOK y) : ∀ (n : Nat) (b : Bool) (pc : Nat) (lv : List (Option zW)) (st : List zW) (σ : zS), zwp y dom Q n b pc lv st σ → zV y dom Q pc lv st σ
  | 0, _, _, _, _, _, h => h
  | n + 1, b, pc, lv, st, σ, h => by
    unfold zwp at h
    split at h
    · exact h
    · exact zI_sound hCW hy (fun pc lv st σ => zwp_sound hCW hy n true pc lv st σ) h
theorem zD_0 {y pc : Nat} (h : zC y pc = (0, 0, 0, 0)) : zD y pc = true := by
  unfold zD
  rw [h]
  rfl
theorem zd_of {y n : Nat} (hd : ∀ pc, pc < n → zD y pc = true) (hb : ∀ pc, n ≤ pc → zC y pc = (0, 0, 0, 0)) (pc : Nat) : zD y pc = true := by
  by_cases h : pc < n
  · exact hd pc h
  · exact zD_0 (hb pc (by omega))
theorem zok_of {y n : Nat} (hy : y < 117) (hd : ∀ pc, pc < n → zD y pc = true) (hb : ∀ pc, n ≤ pc → zC y pc = (0, 0, 0, 0)) (hn : ∀ pc, pc < n → ¬ (zC y pc).1 = 30 ∧ ¬ (zC y pc).1 = 32) : zOK y := by
  refine ⟨hy, zd_of hd hb, fun pc i a b h => ?_⟩
  by_cases hp : pc < n
  · have := hn pc hp
    rcases h with h | h <;> (rw [h] at this; simp at this)
  · rw [hb pc (by omega)] at h
    rcases h with h | h <;> cases h
theorem zok_sw {y n pc0 k : Nat} (hy : y < 117) (hd : ∀ pc, pc < n → zD y pc = true) (hb : ∀ pc, n ≤ pc → zC y pc = (0, 0, 0, 0)) (hn : ∀ pc, pc < n → ((zC y pc).1 = 30 ∨ (zC y pc).1 = 32) → pc = pc0) (hk : (zC y pc0).2.1 = k) (hs : zSwS y pc0 k) : zOK y := by
  refine ⟨hy, zd_of hd hb, fun pc i a b h => ?_⟩
  by_cases hp : pc < n
  · have e := hn pc hp (by rcases h with h | h <;> rw [h] <;> simp)
    subst e
    have : i = k := by rcases h with h | h <;> (rw [h] at hk; exact hk)
    subst this
    exact hs
  · rw [hb pc (by omega)] at h
    rcases h with h | h <;> cases h
