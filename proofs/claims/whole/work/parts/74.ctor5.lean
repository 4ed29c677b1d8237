/-! evaluation in a part of the world; the methods that the constructors call -/
theorem zgB_2_0 {σ : zS} {f : zW → Prop} : zgf dB 3 0 σ 2 f = f (.inl (σ 2 0)) := by simp [zgf, zac, dB, zkind, zfv, zref, zref_2]
theorem zpB_2_0 {x : Int} {K : Prop} : zpf dB 3 0 x 2 K = K := by simp [zpf, zac, dB, zkind, zref, zref_2, zfb, zbf, zTy, tyX3]
theorem zgB_2_1 {σ : zS} {f : zW → Prop} : zgf dB 3 1 σ 2 f = f (.inr 17) := by simp [zgf, zac, dB, zkind, zfv, zref, zref_2]
theorem zaB_17 {i : Int} {K : Prop} : zal dB 0 17 i K = (0 ≤ i ∧ i < 60 ∧ K) := by simp [zal, zac, dB, zkind, zlen]
theorem zgB_2_2 {σ : zS} {f : zW → Prop} : zgf dB 3 2 σ 2 f = f (.inr 18) := by simp [zgf, zac, dB, zkind, zfv, zref, zref_2]
theorem zaB_18 {i : Int} {K : Prop} : zal dB 0 18 i K = (0 ≤ i ∧ i < 60 ∧ K) := by simp [zal, zac, dB, zkind, zlen]
theorem zgB_2_3 {σ : zS} {f : zW → Prop} : zgf dB 3 3 σ 2 f = f (.inr 19) := by simp [zgf, zac, dB, zkind, zfv, zref, zref_2]
theorem zaB_19 {i : Int} {K : Prop} : zal dB 0 19 i K = (0 ≤ i ∧ i < 60 ∧ K) := by simp [zal, zac, dB, zkind, zlen]
theorem zgB_2_4 {σ : zS} {f : zW → Prop} : zgf dB 3 4 σ 2 f = f (.inr 20) := by simp [zgf, zac, dB, zkind, zfv, zref, zref_2]
theorem zaB_20 {i : Int} {K : Prop} : zal dB 0 20 i K = (0 ≤ i ∧ i < 60 ∧ K) := by simp [zal, zac, dB, zkind, zlen]
theorem zgB_2_5 {σ : zS} {f : zW → Prop} : zgf dB 3 5 σ 2 f = f (.inr 21) := by simp [zgf, zac, dB, zkind, zfv, zref, zref_2]
theorem zaB_21 {i : Int} {K : Prop} : zal dB 0 21 i K = (0 ≤ i ∧ i < 60 ∧ K) := by simp [zal, zac, dB, zkind, zlen]
theorem zgB_2_6 {σ : zS} {f : zW → Prop} : zgf dB 3 6 σ 2 f = f (.inr 22) := by simp [zgf, zac, dB, zkind, zfv, zref, zref_2]
theorem zaB_22 {i : Int} {K : Prop} : zal dB 0 22 i K = (0 ≤ i ∧ i < 60 ∧ K) := by simp [zal, zac, dB, zkind, zlen]
theorem zgB_2_7 {σ : zS} {f : zW → Prop} : zgf dB 3 7 σ 2 f = f (.inr 23) := by simp [zgf, zac, dB, zkind, zfv, zref, zref_2]
theorem zaB_23 {i : Int} {K : Prop} : zal dB 0 23 i K = (0 ≤ i ∧ i < 60 ∧ K) := by simp [zal, zac, dB, zkind, zlen]
theorem zgB_2_8 {σ : zS} {f : zW → Prop} : zgf dB 3 8 σ 2 f = f (.inr 24) := by simp [zgf, zac, dB, zkind, zfv, zref, zref_2]
theorem zaB_24 {i : Int} {K : Prop} : zal dB 0 24 i K = (0 ≤ i ∧ i < 160 ∧ K) := by simp [zal, zac, dB, zkind, zlen]
theorem zrcB_32 {as : List zW} : zrcv dB 32 (.inr 2 :: as) = True := by simp [zrcv, zac, dB, zkind, zO]
theorem zgM_31_0 {σ : zS} {f : zW → Prop} : zgf dM 6 0 σ 31 f = f (.inl (σ 31 0)) := by simp [zgf, zac, dM, zkind, zfv, zref, zref_31]
theorem zpM_31_0 {x : Int} {K : Prop} : zpf dM 6 0 x 31 K = K := by simp [zpf, zac, dM, zkind, zref, zref_31, zfb, zbf, zTy, tyX6]
theorem zgM_31_1 {σ : zS} {f : zW → Prop} : zgf dM 6 1 σ 31 f = f (.inr 32) := by simp [zgf, zac, dM, zkind, zfv, zref, zref_31]
theorem zaM_32 {i : Int} {K : Prop} : zal dM 0 32 i K = (0 ≤ i ∧ i < 16 ∧ K) := by simp [zal, zac, dM, zkind, zlen]
theorem zgM_31_2 {σ : zS} {f : zW → Prop} : zgf dM 6 2 σ 31 f = f (.inr 33) := by simp [zgf, zac, dM, zkind, zfv, zref, zref_31]
theorem zaM_33 {i : Int} {K : Prop} : zal dM 0 33 i K = (0 ≤ i ∧ i < 16 ∧ K) := by simp [zal, zac, dM, zkind, zlen]
theorem zgM_31_3 {σ : zS} {f : zW → Prop} : zgf dM 6 3 σ 31 f = f (.inr 34) := by simp [zgf, zac, dM, zkind, zfv, zref, zref_31]
theorem zaM_34 {i : Int} {K : Prop} : zal dM 0 34 i K = (0 ≤ i ∧ i < 64 ∧ K) := by simp [zal, zac, dM, zkind, zlen]
theorem zgM_31_4 {σ : zS} {f : zW → Prop} : zgf dM 6 4 σ 31 f = f (.inr 35) := by simp [zgf, zac, dM, zkind, zfv, zref, zref_31]
theorem zaM_35 {i : Int} {K : Prop} : zal dM 0 35 i K = (0 ≤ i ∧ i < 16 ∧ K) := by simp [zal, zac, dM, zkind, zlen]
theorem zgM_31_5 {σ : zS} {f : zW → Prop} : zgf dM 6 5 σ 31 f = f (.inr 36) := by simp [zgf, zac, dM, zkind, zfv, zref, zref_31]
theorem zaM_36 {i : Int} {K : Prop} : zal dM 1 36 i K = (0 ≤ i ∧ i < 16 ∧ K) := by simp [zal, zac, dM, zkind, zlen]
theorem zgM_31_6 {σ : zS} {f : zW → Prop} : zgf dM 6 6 σ 31 f = f (.inr 37) := by simp [zgf, zac, dM, zkind, zfv, zref, zref_31]
theorem zaM_37 {i : Int} {K : Prop} : zal dM 0 37 i K = (0 ≤ i ∧ i < 16 ∧ K) := by simp [zal, zac, dM, zkind, zlen]
theorem zgM_31_7 {σ : zS} {f : zW → Prop} : zgf dM 6 7 σ 31 f = f (.inl (σ 31 7)) := by simp [zgf, zac, dM, zkind, zfv, zref, zref_31]
theorem zpM_31_7 {x : Int} {K : Prop} : zpf dM 6 7 x 31 K = K := by simp [zpf, zac, dM, zkind, zref, zref_31, zfb, zbf, zTy, tyX6]
theorem zgM_31_8 {σ : zS} {f : zW → Prop} : zgf dM 6 8 σ 31 f = f (.inr 38) := by simp [zgf, zac, dM, zkind, zfv, zref, zref_31]
theorem zaM_38 {i : Int} {K : Prop} : zal dM 0 38 i K = (0 ≤ i ∧ i < 60 ∧ K) := by simp [zal, zac, dM, zkind, zlen]
theorem zgM_31_9 {σ : zS} {f : zW → Prop} : zgf dM 6 9 σ 31 f = f (.inr 39) := by simp [zgf, zac, dM, zkind, zfv, zref, zref_31]
theorem zaM_39 {i : Int} {K : Prop} : zal dM 0 39 i K = (0 ≤ i ∧ i < 60 ∧ K) := by simp [zal, zac, dM, zkind, zlen]
theorem zgM_31_10 {σ : zS} {f : zW → Prop} : zgf dM 6 10 σ 31 f = f (.inr 40) := by simp [zgf, zac, dM, zkind, zfv, zref, zref_31]
theorem zaM_40 {i : Int} {K : Prop} : zal dM 0 40 i K = (0 ≤ i ∧ i < 60 ∧ K) := by simp [zal, zac, dM, zkind, zlen]
theorem zgM_31_11 {σ : zS} {f : zW → Prop} : zgf dM 6 11 σ 31 f = f (.inr 41) := by simp [zgf, zac, dM, zkind, zfv, zref, zref_31]
theorem zaM_41 {i : Int} {K : Prop} : zal dM 0 41 i K = (0 ≤ i ∧ i < 60 ∧ K) := by simp [zal, zac, dM, zkind, zlen]
theorem zgM_31_12 {σ : zS} {f : zW → Prop} : zgf dM 6 12 σ 31 f = f (.inr 42) := by simp [zgf, zac, dM, zkind, zfv, zref, zref_31]
theorem zaM_42 {i : Int} {K : Prop} : zal dM 0 42 i K = (0 ≤ i ∧ i < 60 ∧ K) := by simp [zal, zac, dM, zkind, zlen]
theorem zgM_31_13 {σ : zS} {f : zW → Prop} : zgf dM 6 13 σ 31 f = f (.inr 43) := by simp [zgf, zac, dM, zkind, zfv, zref, zref_31]
theorem zaM_43 {i : Int} {K : Prop} : zal dM 0 43 i K = (0 ≤ i ∧ i < 60 ∧ K) := by simp [zal, zac, dM, zkind, zlen]
theorem zgM_31_14 {σ : zS} {f : zW → Prop} : zgf dM 6 14 σ 31 f = f (.inr 44) := by simp [zgf, zac, dM, zkind, zfv, zref, zref_31]
theorem zaM_44 {i : Int} {K : Prop} : zal dM 0 44 i K = (0 ≤ i ∧ i < 60 ∧ K) := by simp [zal, zac, dM, zkind, zlen]
theorem zgM_31_15 {σ : zS} {f : zW → Prop} : zgf dM 6 15 σ 31 f = f (.inr 45) := by simp [zgf, zac, dM, zkind, zfv, zref, zref_31]
theorem zaM_45 {i : Int} {K : Prop} : zal dM 0 45 i K = (0 ≤ i ∧ i < 60 ∧ K) := by simp [zal, zac, dM, zkind, zlen]
theorem zgM_31_16 {σ : zS} {f : zW → Prop} : zgf dM 6 16 σ 31 f = f (.inr 46) := by simp [zgf, zac, dM, zkind, zfv, zref, zref_31]
theorem zaM_46 {i : Int} {K : Prop} : zal dM 0 46 i K = (0 ≤ i ∧ i < 160 ∧ K) := by simp [zal, zac, dM, zkind, zlen]
theorem zgM_31_17 {σ : zS} {f : zW → Prop} : zgf dM 6 17 σ 31 f = f (.inr 47) := by simp [zgf, zac, dM, zkind, zfv, zref, zref_31]
theorem zaM_47 {i : Int} {K : Prop} : zal dM 1 47 i K = (0 ≤ i ∧ i < 64 ∧ K) := by simp [zal, zac, dM, zkind, zlen]
theorem zgM_31_18 {σ : zS} {f : zW → Prop} : zgf dM 6 18 σ 31 f = f (.inr 48) := by simp [zgf, zac, dM, zkind, zfv, zref, zref_31]
theorem zaM_48 {i : Int} {K : Prop} : zal dM 0 48 i K = (0 ≤ i ∧ i < 64 ∧ K) := by simp [zal, zac, dM, zkind, zlen]
theorem zgM_31_19 {σ : zS} {f : zW → Prop} : zgf dM 6 19 σ 31 f = f (.inl (σ 31 19)) := by simp [zgf, zac, dM, zkind, zfv, zref, zref_31]
theorem zpM_31_19 {x : Int} {K : Prop} : zpf dM 6 19 x 31 K = ((x = 0 ∨ x = 1) ∧ K) := by simp [zpf, zac, dM, zkind, zref, zref_31, zfb, zbf, zTy, tyX6]
theorem zgM_31_20 {σ : zS} {f : zW → Prop} : zgf dM 6 20 σ 31 f = f (.inr 49) := by simp [zgf, zac, dM, zkind, zfv, zref, zref_31]
theorem zaM_49 {i : Int} {K : Prop} : zal dM 0 49 i K = (0 ≤ i ∧ i < 16 ∧ K) := by simp [zal, zac, dM, zkind, zlen]
theorem zgM_31_21 {σ : zS} {f : zW → Prop} : zgf dM 6 21 σ 31 f = f (.inr 50) := by simp [zgf, zac, dM, zkind, zfv, zref, zref_31]
theorem zaM_50 {i : Int} {K : Prop} : zal dM 0 50 i K = (0 ≤ i ∧ i < 2560 ∧ K) := by simp [zal, zac, dM, zkind, zlen]
theorem zgM_31_22 {σ : zS} {f : zW → Prop} : zgf dM 6 22 σ 31 f = f (.inr 51) := by simp [zgf, zac, dM, zkind, zfv, zref, zref_31]
theorem zaM_51 {i : Int} {K : Prop} : zal dM 0 51 i K = (0 ≤ i ∧ i < 160 ∧ K) := by simp [zal, zac, dM, zkind, zlen]
theorem zgM_31_23 {σ : zS} {f : zW → Prop} : zgf dM 6 23 σ 31 f = f (.inr 52) := by simp [zgf, zac, dM, zkind, zfv, zref, zref_31]
theorem zaM_52 {i : Int} {K : Prop} : zal dM 0 52 i K = (0 ≤ i ∧ i < 2560 ∧ K) := by simp [zal, zac, dM, zkind, zlen]
theorem zgM_31_24 {σ : zS} {f : zW → Prop} : zgf dM 6 24 σ 31 f = f (.inr 53) := by simp [zgf, zac, dM, zkind, zfv, zref, zref_31]
theorem zaM_53 {i : Int} {K : Prop} : zal dM 0 53 i K = (0 ≤ i ∧ i < 160 ∧ K) := by simp [zal, zac, dM, zkind, zlen]
theorem zgM_31_25 {σ : zS} {f : zW → Prop} : zgf dM 6 25 σ 31 f = f (.inl (σ 31 25)) := by simp [zgf, zac, dM, zkind, zfv, zref, zref_31]
theorem zpM_31_25 {x : Int} {K : Prop} : zpf dM 6 25 x 31 K = ((x = 0 ∨ x = 1) ∧ K) := by simp [zpf, zac, dM, zkind, zref, zref_31, zfb, zbf, zTy, tyX6]
theorem zgM_31_26 {σ : zS} {f : zW → Prop} : zgf dM 6 26 σ 31 f = f (.inl (σ 31 26)) := by simp [zgf, zac, dM, zkind, zfv, zref, zref_31]
theorem zpM_31_26 {x : Int} {K : Prop} : zpf dM 6 26 x 31 K = K := by simp [zpf, zac, dM, zkind, zref, zref_31, zfb, zbf, zTy, tyX6]
theorem zgM_31_27 {σ : zS} {f : zW → Prop} : zgf dM 6 27 σ 31 f = f (.inl (σ 31 27)) := by simp [zgf, zac, dM, zkind, zfv, zref, zref_31]
theorem zpM_31_27 {x : Int} {K : Prop} : zpf dM 6 27 x 31 K = K := by simp [zpf, zac, dM, zkind, zref, zref_31, zfb, zbf, zTy, tyX6]
theorem zgM_31_28 {σ : zS} {f : zW → Prop} : zgf dM 6 28 σ 31 f = f (.inl (σ 31 28)) := by simp [zgf, zac, dM, zkind, zfv, zref, zref_31]
theorem zpM_31_28 {x : Int} {K : Prop} : zpf dM 6 28 x 31 K = K := by simp [zpf, zac, dM, zkind, zref, zref_31, zfb, zbf, zTy, tyX6]
theorem zgM_31_29 {σ : zS} {f : zW → Prop} : zgf dM 6 29 σ 31 f = f (.inl (σ 31 29)) := by simp [zgf, zac, dM, zkind, zfv, zref, zref_31]
theorem zpM_31_29 {x : Int} {K : Prop} : zpf dM 6 29 x 31 K = K := by simp [zpf, zac, dM, zkind, zref, zref_31, zfb, zbf, zTy, tyX6]
theorem zgM_31_30 {σ : zS} {f : zW → Prop} : zgf dM 6 30 σ 31 f = f (.inl (σ 31 30)) := by simp [zgf, zac, dM, zkind, zfv, zref, zref_31]
theorem zpM_31_30 {x : Int} {K : Prop} : zpf dM 6 30 x 31 K = K := by simp [zpf, zac, dM, zkind, zref, zref_31, zfb, zbf, zTy, tyX6]
theorem zgM_31_31 {σ : zS} {f : zW → Prop} : zgf dM 6 31 σ 31 f = f (.inl (σ 31 31)) := by simp [zgf, zac, dM, zkind, zfv, zref, zref_31]
theorem zpM_31_31 {x : Int} {K : Prop} : zpf dM 6 31 x 31 K = K := by simp [zpf, zac, dM, zkind, zref, zref_31, zfb, zbf, zTy, tyX6]
theorem zgM_31_32 {σ : zS} {f : zW → Prop} : zgf dM 6 32 σ 31 f = f (.inl (σ 31 32)) := by simp [zgf, zac, dM, zkind, zfv, zref, zref_31]
theorem zpM_31_32 {x : Int} {K : Prop} : zpf dM 6 32 x 31 K = K := by simp [zpf, zac, dM, zkind, zref, zref_31, zfb, zbf, zTy, tyX6]
theorem zgM_31_33 {σ : zS} {f : zW → Prop} : zgf dM 6 33 σ 31 f = f (.inr 54) := by simp [zgf, zac, dM, zkind, zfv, zref, zref_31]
theorem zaM_54 {i : Int} {K : Prop} : zal dM 0 54 i K = (0 ≤ i ∧ i < 16 ∧ K) := by simp [zal, zac, dM, zkind, zlen]
theorem zrcM_80 {as : List zW} : zrcv dM 80 (.inr 31 :: as) = True := by simp [zrcv, zac, dM, zkind, zO]
theorem zrcM_81 {as : List zW} : zrcv dM 81 (.inr 31 :: as) = True := by simp [zrcv, zac, dM, zkind, zO]
theorem zalnB {f : Int → Prop} : zaln dB 24 f = f 160 := by simp [zaln, zac, dB, zkind, zlen]
def sFill (σ : zS) : zS := fun c i => if c = 24 ∧ 0 ≤ i ∧ i < 160 then -4 else σ c i
section CM
variable {σ : zS} {Q : Int → zS → Prop}
set_option maxRecDepth 100000 in
theorem b_fill_loop (h : Q 0 (sFill σ)) : ∀ (k : Nat) (i : Int) (σ2 : zS), 0 ≤ i → i ≤ 160 → (160 - i).toNat = k → σ2 = (fun c j => if c = 24 ∧ 0 ≤ j ∧ j < i then -4 else σ c j) → zV 116 dB Q 5 [some (.inr 24), some (.inl (-4)), some (.inl i), some (.inl 160)] [] σ2 := by
  intro k
  induction k with
  | zero =>
    intro i σ2 i0 i1 ik e
    have ei : i = 160 := by omega
    refine zv_116 100 ?_
    simp only [zs_116_0, zs_116_1, zs_116_2, zs_116_3, zs_116_4, zs_116_5, zs_116_6, zs_116_7, zs_116_10, zs_116_11, zs_116_12, zs_116_13, zs_116_14, zs_116_17, zs_116_20, zs_116_5h, zli_0, zli_s, zlr_0, zlr_s, zls_0, zls_s, z1i_e, z2i_e, z1r_e, zir_e, ziir_e, z1v_e, z2v_e, zone_e, znil_e, zsp_0, zsp_s, zlz_0, zlz_1, zlz_2, zlz_3, zlz_4, zswp_0, zswp_s, true_and, and_true, implies_true, true_or, or_true, Int.reduceEq, Int.reduceLT, Int.reduceLE, Int.reduceNeg, not_true_eq_false, not_false_eq_true, false_implies, true_implies, zr_e, zwr_o, zwr_s, Nat.reduceEqDiff, zalnB, zaB_24]
    refine ⟨by omega, fun a => ?_, fun a => False.elim (by omega)⟩
    rw [e, ei]
    exact h
  | succ k ih =>
    intro i σ2 i0 i1 ik e
    refine zv_116 100 ?_
    simp only [zs_116_0, zs_116_1, zs_116_2, zs_116_3, zs_116_4, zs_116_5, zs_116_6, zs_116_7, zs_116_10, zs_116_11, zs_116_12, zs_116_13, zs_116_14, zs_116_17, zs_116_20, zs_116_5h, zli_0, zli_s, zlr_0, zlr_s, zls_0, zls_s, z1i_e, z2i_e, z1r_e, zir_e, ziir_e, z1v_e, z2v_e, zone_e, znil_e, zsp_0, zsp_s, zlz_0, zlz_1, zlz_2, zlz_3, zlz_4, zswp_0, zswp_s, true_and, and_true, implies_true, true_or, or_true, Int.reduceEq, Int.reduceLT, Int.reduceLE, Int.reduceNeg, not_true_eq_false, not_false_eq_true, false_implies, true_implies, zr_e, zwr_o, zwr_s, Nat.reduceEqDiff, zalnB, zaB_24]
    refine ⟨by omega, fun a => False.elim (by omega), fun a => ⟨i0, by omega, ?_⟩⟩
    refine ih (i + 1) _ (by omega) (by omega) (by omega) ?_
    rw [e]
    funext c j
    simp only [zwr]
    by_cases hc : c = 24
    · by_cases hj : j = i
      · rw [if_pos ⟨hc, hj⟩, if_pos ⟨hc, by omega, by omega⟩]
      · rw [if_neg (fun z => hj z.2)]
        by_cases hr : 0 ≤ j ∧ j < i
        · rw [if_pos ⟨hc, hr⟩, if_pos ⟨hc, by omega, by omega⟩]
        · rw [if_neg (fun z => hr z.2), if_neg (fun z => hr ⟨z.2.1, by omega⟩)]
    · rw [if_neg (fun z => hc z.1), if_neg (fun z => hc z.1), if_neg (fun z => hc z.1)]
set_option maxRecDepth 100000 in
theorem b_fill (h : Q 0 (sFill σ)) : zM 116 dB [.inr 24, .inl (-4)] σ Q := by
  refine ze_116 100 ?_
  simp only [zs_116_0, zs_116_1, zs_116_2, zs_116_3, zs_116_4, zs_116_5, zs_116_6, zs_116_7, zs_116_10, zs_116_11, zs_116_12, zs_116_13, zs_116_14, zs_116_17, zs_116_20, zli_0, zli_s, zlr_0, zlr_s, zls_0, zls_s, z1i_e, z2i_e, z1r_e, zir_e, ziir_e, z1v_e, z2v_e, zone_e, znil_e, zsp_0, zsp_s, zlz_0, zlz_1, zlz_2, zlz_3, zlz_4, zswp_0, zswp_s, true_and, and_true, implies_true, true_or, or_true, Int.reduceEq, Int.reduceLT, Int.reduceLE, Int.reduceNeg, not_true_eq_false, not_false_eq_true, false_implies, true_implies, zr_e, zwr_o, zwr_s, Nat.reduceEqDiff, zalnB, zaB_24]
  refine b_fill_loop h _ 0 σ (by omega) (by omega) rfl ?_
  funext c j
  rw [if_neg (fun z => by omega)]
set_option maxRecDepth 100000 in
theorem b_append {t n s r : Int} (h1 : 0 ≤ t) (h2 : t < 16) (h3 : 0 ≤ n) (h4 : n < 10) (h5 : 0 ≤ σ 2 0) (h6 : σ 2 0 < 60) (h : Q (σ 2 0) (zwr (zwr (zwr (zwr (zwr σ 17 (σ 2 0) t) 18 (σ 2 0) s) 23 (σ 2 0) r) 24 (10 * t + n) (σ 2 0)) 2 0 (σ 2 0 + 1))) : zM 32 dB [.inr 2, .inl t, .inl n, .inl s, .inl r] σ Q := by
  refine ze_32 100 ?_
  simp only [zs_32_0, zs_32_1, zs_32_4, zs_32_6, zs_32_7, zs_32_10, zs_32_12, zs_32_13, zs_32_14, zs_32_15, zs_32_18, zs_32_20, zs_32_21, zs_32_22, zs_32_23, zs_32_26, zs_32_28, zs_32_30, zs_32_31, zs_32_32, zs_32_35, zs_32_36, zs_32_38, zs_32_39, zs_32_40, zs_32_41, zs_32_43, zs_32_44, zs_32_45, zs_32_46, zs_32_49, zs_32_50, zs_32_51, zs_32_54, zs_32_56, zaB_17, zaB_18, zaB_23, zaB_24, zgB_2_0, zgB_2_1, zgB_2_2, zgB_2_7, zgB_2_8, zpB_2_0, zli_0, zli_s, zlr_0, zlr_s, zls_0, zls_s, z1i_e, z2i_e, z1r_e, zir_e, ziir_e, z1v_e, z2v_e, zone_e, znil_e, zsp_0, zsp_s, zlz_0, zlz_1, zlz_2, zlz_3, zlz_4, zswp_0, zswp_s, true_and, and_true, implies_true, true_or, or_true, Int.reduceEq, Int.reduceLT, Int.reduceLE, Int.reduceNeg, not_true_eq_false, not_false_eq_true, false_implies, true_implies, zr_e, zwr_o, zwr_s, Nat.reduceEqDiff]
  rw [Int.mul_comm t 10]
  exact ⟨by omega, by omega, by omega, by omega, by omega, by omega, by omega, by omega, h⟩
set_option maxRecDepth 100000 in
theorem d_addType {k : Int} (h0 : 0 ≤ σ 31 0) (h1 : σ 31 0 < 16) (h : Q 0 (zwr (zwr (zwr σ 32 (σ 31 0) k) 31 0 (σ 31 0 + 1)) 31 19 0)) : zM 80 dM [.inr 31, .inl k] σ Q := by
  refine ze_80 100 ?_
  simp only [zs_80_0, zs_80_1, zs_80_4, zs_80_5, zs_80_8, zs_80_9, zs_80_10, zs_80_11, zs_80_12, zs_80_15, zs_80_16, zs_80_17, zs_80_20, zs_80_21, zs_80_22, zs_80_25, zaM_32, zgM_31_0, zgM_31_1, zpM_31_0, zpM_31_19, zli_0, zli_s, zlr_0, zlr_s, zls_0, zls_s, z1i_e, z2i_e, z1r_e, zir_e, ziir_e, z1v_e, z2v_e, zone_e, znil_e, zsp_0, zsp_s, zlz_0, zlz_1, zlz_2, zlz_3, zlz_4, zswp_0, zswp_s, true_and, and_true, implies_true, true_or, or_true, Int.reduceEq, Int.reduceLT, Int.reduceLE, Int.reduceNeg, not_true_eq_false, not_false_eq_true, false_implies, true_implies, zr_e, zwr_o, zwr_s, Nat.reduceEqDiff]
  exact ⟨h0, h1, h⟩
set_option maxRecDepth 100000 in
theorem d_addMember {t n s r : Int} (h1 : 0 ≤ t) (h2 : t < 16) (h3 : 0 ≤ n) (h4 : n < 10) (h5 : 0 ≤ σ 31 7) (h6 : σ 31 7 < 60) (h : Q 0 (zwr (zwr (zwr (zwr (zwr (zwr (zwr σ 38 (σ 31 7) t) 39 (σ 31 7) n) 40 (σ 31 7) s) 41 (σ 31 7) r) 46 (10 * t + n) (σ 31 7)) 31 7 (σ 31 7 + 1)) 31 19 0)) : zM 81 dM [.inr 31, .inl t, .inl n, .inl s, .inl r] σ Q := by
  refine ze_81 100 ?_
  simp only [zs_81_0, zs_81_1, zs_81_4, zs_81_5, zs_81_8, zs_81_9, zs_81_10, zs_81_11, zs_81_14, zs_81_15, zs_81_18, zs_81_19, zs_81_20, zs_81_21, zs_81_24, zs_81_25, zs_81_28, zs_81_29, zs_81_30, zs_81_31, zs_81_34, zs_81_35, zs_81_38, zs_81_40, zs_81_41, zs_81_42, zs_81_45, zs_81_47, zs_81_48, zs_81_49, zs_81_50, zs_81_51, zs_81_52, zs_81_55, zs_81_56, zs_81_57, zs_81_58, zs_81_61, zs_81_62, zs_81_63, zs_81_66, zs_81_67, zs_81_68, zs_81_71, zaM_38, zaM_39, zaM_40, zaM_41, zaM_46, zgM_31_10, zgM_31_11, zgM_31_16, zgM_31_7, zgM_31_8, zgM_31_9, zpM_31_19, zpM_31_7, zli_0, zli_s, zlr_0, zlr_s, zls_0, zls_s, z1i_e, z2i_e, z1r_e, zir_e, ziir_e, z1v_e, z2v_e, zone_e, znil_e, zsp_0, zsp_s, zlz_0, zlz_1, zlz_2, zlz_3, zlz_4, zswp_0, zswp_s, true_and, and_true, implies_true, true_or, or_true, Int.reduceEq, Int.reduceLT, Int.reduceLE, Int.reduceNeg, not_true_eq_false, not_false_eq_true, false_implies, true_implies, zr_e, zwr_o, zwr_s, Nat.reduceEqDiff]
  exact ⟨by omega, by omega, by omega, by omega, by omega, by omega, by omega, by omega, by omega, by omega, h⟩
end CM
