/-! the state behind both constructors -/
def sAll : zS := fun c => if c < 31 then sX0 c else sMM c
theorem vx {c : Nat} (h : c < 31) : sAll c = sX0 c := if_pos h
theorem vm {c : Nat} (h : ¬ c < 31) : sAll c = sMM c := if_neg h
def fOwn (i : Int) : Int := if i = 2 then 2 else if i = 1 then 1 else if i = 0 then 0 else if 0 ≤ i ∧ i < 160 then -4 else 0
def fSort (i : Int) : Int := if i = 2 then 4 else if i = 1 then 1 else if i = 0 then 1 else 0
def f0 : Int → Int := fun _ => 0
theorem sMT_2 : sMT 2 = fun i => if i = 0 then 3 else 0 := by
  funext i
  simp only [sMT, sApp, zwr, sFill, z00]
  by_cases h : i = 0
  · simp [h]
  · simp [h]
theorem sMT_18 : sMT 18 = fSort := by
  funext i
  simp [sMT, sApp, zwr, sFill, z00, fSort]
theorem sMT_24 : sMT 24 = fOwn := by
  funext i
  simp [sMT, sApp, zwr, sFill, z00, fOwn]
theorem sMT_17 : sMT 17 = f0 := by
  funext i
  simp [sMT, sApp, zwr, sFill, z00, f0]
theorem sMT_23 : sMT 23 = f0 := by
  funext i
  simp [sMT, sApp, zwr, sFill, z00, f0]
theorem sMM_31 : ∀ j, sMM 31 j = if j = 0 then 1 else if j = 7 then 3 else 0 := by
  intro j
  simp only [sMM, sAM, sAT, zwr, sOwn, z00]
  by_cases h : j = 19
  · simp [h]
  · by_cases h7 : j = 7
    · simp [h7]
    · by_cases h0 : j = 0
      · simp [h0]
      · simp [h, h7, h0]
theorem sMM_40 : sMM 40 = fSort := by
  funext i
  simp [sMM, sAM, sAT, zwr, sOwn, z00, fSort]
theorem sMM_46 : sMM 46 = fOwn := by
  funext i
  simp [sMM, sAM, sAT, zwr, sOwn, z00, fOwn]
theorem sMM_39 : sMM 39 = fun i => if i = 2 then 2 else if i = 1 then 1 else 0 := by
  funext i
  simp [sMM, sAM, sAT, zwr, sOwn, z00]
theorem zz1 {σ : zS} {c k : Nat} {i v : Int} (h : σ c = f0) (hk : ¬ c = k) : zwr σ k i v c = f0 := by rw [zwr_o hk]; exact h
theorem zz2 {σ : zS} {c k : Nat} {i : Int} (h : σ c = f0) : zwr σ k i 0 c = f0 := by
  funext j
  simp only [zwr]
  split
  · rfl
  · rw [h]
theorem sAM_0 {σ : zS} {n s : Int} {c : Nat} (h : σ c = f0) (h31 : ¬ c = 31) (h40 : ¬ c = 40) (h46 : ¬ c = 46) (h39 : ¬ c = 39) : sAM σ n s c = f0 := zz1 (zz1 (zz1 (zz2 (zz1 (zz1 (zz2 h) h39) h40)) h46) h31) h31
theorem sMM_0 (c : Nat) (h31 : ¬ c = 31) (h40 : ¬ c = 40) (h46 : ¬ c = 46) (h39 : ¬ c = 39) : sMM c = f0 := by
  have h0 : sOwn z00 160 c = f0 := by
    funext i
    simp only [sOwn, h46, false_and, if_false]
    rfl
  have h1 : sAT (sOwn z00 160) c = f0 := zz1 (zz1 (zz2 h0) h31) h31
  exact sAM_0 (sAM_0 (sAM_0 h1 h31 h40 h46 h39) h31 h40 h46 h39) h31 h40 h46 h39
theorem sX_1 : sAll 1 = fun i => if i = 0 then 1 else 0 := by
  rw [vx (by decide)]
  funext i
  simp [sX0, dT, sTT, zwr, z00]
theorem sX_2 : sAll 2 = fun i => if i = 0 then 3 else 0 := by
  rw [vx (by decide), ← sMT_2]
  rfl
theorem sApp_0 {σ : zS} {n s : Int} {c : Nat} (h : σ c = f0) (h2 : ¬ c = 2) (h18 : ¬ c = 18) (h24 : ¬ c = 24) : sApp σ n s c = f0 := zz1 (zz1 (zz2 (zz1 (zz2 h) h18)) h24) h2
theorem sX_0 (c : Nat) (h : c < 31) (h1 : ¬ c = 1) (h2 : ¬ c = 2) (h18 : ¬ c = 18) (h24 : ¬ c = 24) : sAll c = f0 := by
  rw [vx h]
  simp only [sX0]
  split
  · exact zz1 (zz2 rfl) h1
  · split
    · have h0 : sFill z00 c = f0 := by
        funext i
        simp only [sFill, h24, false_and, if_false]
        rfl
      exact sApp_0 (sApp_0 (sApp_0 h0 h2 h18 h24) h2 h18 h24) h2 h18 h24
    · rfl
theorem sX_18 : sAll 18 = fSort := by rw [vx (by decide), ← sMT_18]; rfl
theorem sX_24 : sAll 24 = fOwn := by rw [vx (by decide), ← sMT_24]; rfl
theorem sA_31 : ∀ j, sAll 31 j = if j = 0 then 1 else if j = 7 then 3 else 0 := by
  rw [vm (by decide)]; exact sMM_31
theorem sAll_B : bX sAll = bM sAll := by
  funext c
  match c with
  | 0 => show sAll 6 = sAll 32; rw [sX_0 6 (by decide) (by decide) (by decide) (by decide) (by decide), vm (by decide), sMM_0 32 (by decide) (by decide) (by decide) (by decide)]
  | 1 => show sAll 7 = sAll 33; rw [sX_0 7 (by decide) (by decide) (by decide) (by decide) (by decide), vm (by decide), sMM_0 33 (by decide) (by decide) (by decide) (by decide)]
  | 2 => show sAll 8 = sAll 35; rw [sX_0 8 (by decide) (by decide) (by decide) (by decide) (by decide), vm (by decide), sMM_0 35 (by decide) (by decide) (by decide) (by decide)]
  | 3 => show sAll 11 = sAll 34; rw [sX_0 11 (by decide) (by decide) (by decide) (by decide) (by decide), vm (by decide), sMM_0 34 (by decide) (by decide) (by decide) (by decide)]
  | 4 => show sAll 10 = sAll 36; rw [sX_0 10 (by decide) (by decide) (by decide) (by decide) (by decide), vm (by decide), sMM_0 36 (by decide) (by decide) (by decide) (by decide)]
  | 5 => show sAll 9 = sAll 37; rw [sX_0 9 (by decide) (by decide) (by decide) (by decide) (by decide), vm (by decide), sMM_0 37 (by decide) (by decide) (by decide) (by decide)]
  | 6 => show sAll 17 = sAll 38; rw [sX_0 17 (by decide) (by decide) (by decide) (by decide) (by decide), vm (by decide), sMM_0 38 (by decide) (by decide) (by decide) (by decide)]
  | 7 => show sAll 18 = sAll 40; rw [sX_18, vm (by decide), sMM_40]
  | 8 => show sAll 23 = sAll 41; rw [sX_0 23 (by decide) (by decide) (by decide) (by decide) (by decide), vm (by decide), sMM_0 41 (by decide) (by decide) (by decide) (by decide)]
  | 9 => show sAll 19 = sAll 42; rw [sX_0 19 (by decide) (by decide) (by decide) (by decide) (by decide), vm (by decide), sMM_0 42 (by decide) (by decide) (by decide) (by decide)]
  | 10 => show sAll 20 = sAll 43; rw [sX_0 20 (by decide) (by decide) (by decide) (by decide) (by decide), vm (by decide), sMM_0 43 (by decide) (by decide) (by decide) (by decide)]
  | 11 => show sAll 21 = sAll 44; rw [sX_0 21 (by decide) (by decide) (by decide) (by decide) (by decide), vm (by decide), sMM_0 44 (by decide) (by decide) (by decide) (by decide)]
  | 12 => show sAll 22 = sAll 45; rw [sX_0 22 (by decide) (by decide) (by decide) (by decide) (by decide), vm (by decide), sMM_0 45 (by decide) (by decide) (by decide) (by decide)]
  | 13 => show sAll 24 = sAll 46; rw [sX_24, vm (by decide), sMM_46]
  | 14 => show sAll 14 = sAll 47; rw [sX_0 14 (by decide) (by decide) (by decide) (by decide) (by decide), vm (by decide), sMM_0 47 (by decide) (by decide) (by decide) (by decide)]
  | 15 => show sAll 15 = sAll 48; rw [sX_0 15 (by decide) (by decide) (by decide) (by decide) (by decide), vm (by decide), sMM_0 48 (by decide) (by decide) (by decide) (by decide)]
  | 16 => funext i; show sAll 1 0 = sAll 31 0; rw [sX_1, sA_31]; rfl
  | 17 => funext i; show sAll 2 0 = sAll 31 7; rw [sX_2, sA_31]; rfl
  | n + 18 => rfl
/-- the base state of the start -/
def B0 : zS
  | 7 => fSort
  | 13 => fOwn
  | 16 => fun _ => 1
  | 17 => fun _ => 3
  | _ => f0
theorem sAll_B0 : bX sAll = B0 := by
  funext c
  match c with
  | 0 => exact sX_0 6 (by decide) (by decide) (by decide) (by decide) (by decide)
  | 1 => exact sX_0 7 (by decide) (by decide) (by decide) (by decide) (by decide)
  | 2 => exact sX_0 8 (by decide) (by decide) (by decide) (by decide) (by decide)
  | 3 => exact sX_0 11 (by decide) (by decide) (by decide) (by decide) (by decide)
  | 4 => exact sX_0 10 (by decide) (by decide) (by decide) (by decide) (by decide)
  | 5 => exact sX_0 9 (by decide) (by decide) (by decide) (by decide) (by decide)
  | 6 => exact sX_0 17 (by decide) (by decide) (by decide) (by decide) (by decide)
  | 7 => exact sX_18
  | 8 => exact sX_0 23 (by decide) (by decide) (by decide) (by decide) (by decide)
  | 9 => exact sX_0 19 (by decide) (by decide) (by decide) (by decide) (by decide)
  | 10 => exact sX_0 20 (by decide) (by decide) (by decide) (by decide) (by decide)
  | 11 => exact sX_0 21 (by decide) (by decide) (by decide) (by decide) (by decide)
  | 12 => exact sX_0 22 (by decide) (by decide) (by decide) (by decide) (by decide)
  | 13 => exact sX_24
  | 14 => exact sX_0 14 (by decide) (by decide) (by decide) (by decide) (by decide)
  | 15 => exact sX_0 15 (by decide) (by decide) (by decide) (by decide) (by decide)
  | 16 => funext i; show sAll 1 0 = 1; rw [sX_1]; rfl
  | 17 => funext i; show sAll 2 0 = 3; rw [sX_2]; rfl
  | n + 18 => rfl
theorem Bd_0 : Bd B0 := by
  have z : zr 0 := zr_0
  have a0 : (0 : Int) ≤ 0 := by decide
  have a2 : (0 : Int) ≤ 2 := by decide
  have a3 : (0 : Int) ≤ 3 := by decide
  have a4 : (0 : Int) ≤ 4 := by decide
  have a15 : (0 : Int) ≤ 15 := by decide
  have am : (-1000 : Int) ≤ 0 := by decide
  have ap : (0 : Int) ≤ 1000 := by decide
  have a1 : (0 : Int) < 1 := by decide
  refine ⟨⟨by decide, by decide, by decide, by decide⟩, fun t _ _ => ⟨a0, a2⟩, fun t h _ => ⟨a0, a15, fun h2 => h2⟩, fun t _ _ => ⟨a0, a4⟩, fun j _ _ => ⟨a0, a15⟩, fun t i _ _ i0 i1 => ?_, fun t _ _ => ⟨Or.inl rfl, z⟩, fun m m0 m1 => ?_, fun m m0 m1 => ?_, fun j j0 j1 => ?_, fun t n t0 t1 n0 n1 h => ?_, fun j _ _ => ⟨Or.inl rfl, z⟩, rfl, fun t _ _ => rfl, fun m _ _ => rfl⟩
  · have : B0 2 t = 0 := rfl
    omega
  · have h7 : 0 ≤ B0 7 m ∧ B0 7 m ≤ 4 := by
      show 0 ≤ fSort m ∧ fSort m ≤ 4
      unfold fSort
      repeat' split
      all_goals decide
    exact ⟨a0, a15, h7.1, h7.2, a0, a3, am, ap, a0, a4, z, z⟩
  · have h3 : m < 3 := m1
    refine ⟨a1, ⟨m, m0, by omega, ?_⟩, fun h => absurd rfl h, fun h => absurd (show (0 : Int) = 3 from h) (by decide), fun h => absurd (show (0 : Int) = 4 from h) (by decide)⟩
    show fOwn (10 * 0 + m) = m
    rcases (show m = 0 ∨ m = 1 ∨ m = 2 by omega) with rfl | rfl | rfl <;> decide
  · show fOwn j = -4 ∨ (0 ≤ fOwn j ∧ fOwn j < 3)
    unfold fOwn
    repeat' split
    all_goals omega
  · have h2 : ¬ fOwn (10 * t + n) = -4 := h
    show (0 : Int) = t
    unfold fOwn at h2
    by_cases e : 10 * t + n ≤ 2
    · omega
    · exfalso
      apply h2
      rw [if_neg (by omega), if_neg (by omega), if_neg (by omega), if_pos (by omega)]
theorem EE_0 : EE sAll := by
  have h1 : sAll 1 0 = 1 := by rw [sX_1]; rfl
  have hB : Bd (bX sAll) := by rw [sAll_B0]; exact Bd_0
  have e5 : sAll 5 = f0 := sX_0 5 (by decide) (by decide) (by decide) (by decide) (by decide)
  have e12 : sAll 12 = f0 := sX_0 12 (by decide) (by decide) (by decide) (by decide) (by decide)
  have e13 : sAll 13 = f0 := sX_0 13 (by decide) (by decide) (by decide) (by decide) (by decide)
  have e25 : sAll 25 = f0 := sX_0 25 (by decide) (by decide) (by decide) (by decide) (by decide)
  have e26 : sAll 26 = f0 := sX_0 26 (by decide) (by decide) (by decide) (by decide) (by decide)
  have z : zr 0 := zr_0
  have z0 : ∀ j, zr (f0 j) := fun _ => z
  have hIX : IX sAll := by
    refine ⟨hB, fun u u0 u1 => ?_, ?_, ?_⟩
    · have hu : u = 0 := by omega
      subst hu
      have hp : gPc (bX sAll) 0 = 0 := by
        rw [sAll_B0, gPc, if_pos (Or.inl rfl)]
        rfl
      unfold AXt
      rw [hp, e12, e13]
      exact ⟨rfl, rfl⟩
    · refine ⟨fun n _ _ => Or.inl (by rw [e25]; rfl), fun j _ _ => by rw [e26]; exact ⟨show (0 : Int) ≤ 0 by decide, show (0 : Int) ≤ 16 by decide⟩, fun n _ _ h => ?_⟩
      rw [e25] at h
      exact absurd (show (0 : Int) = 1 from h) (by decide)
    · rw [e5]
      exact ⟨Or.inl rfl, z, z, z⟩
  have hIM : IM sAll := by
    refine ⟨by rw [← sAll_B]; exact hB, Or.inl (by rw [sA_31]; rfl), Or.inl (by rw [sA_31]; rfl), by rw [sA_31]; exact z, by rw [sA_31]; exact z, by rw [sA_31]; exact z, ?_⟩
    intro t n t0 t1 n0 n1 h
    have h46 : sAll 46 = fOwn := by rw [vm (by decide), sMM_46]
    have h39 : sAll 39 = fun i => if i = 2 then 2 else if i = 1 then 1 else 0 := by rw [vm (by decide), sMM_39]
    rw [h46] at h
    rw [h46, h39]
    have hB0 := (Bd_0).oo t n t0 t1 n0 n1 h
    have ht : t = 0 := hB0.symm
    subst ht
    by_cases e : n ≤ 2
    · rcases (show n = 0 ∨ n = 1 ∨ n = 2 by omega) with rfl | rfl | rfl <;> decide
    · exfalso
      apply h
      unfold fOwn
      rw [if_neg (by omega), if_neg (by omega), if_neg (by omega), if_pos (by omega)]
  refine ⟨hIX, hIM, sAll_B, ?_, fun h => ?_⟩
  · rw [e5, sA_31]; rfl
  · rw [e5] at h
    exact absurd rfl h
