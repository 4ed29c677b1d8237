/-! the reference's public methods, first those that change something -/
def zN (σ σ' : zS) : Prop := ∀ c, c < 31 → σ' c = σ c
theorem zN_rf {σ : zS} : zN σ σ := fun _ _ => rfl
theorem zN_tr {σ σ' σ'' : zS} (h : zN σ σ') (h2 : zN σ' σ'') : zN σ σ'' := fun c hc => by rw [h2 c hc, h c hc]
theorem zN_mm {σ σ' : zS} {L : List Nat} {Fs : List Int} (h : zmm L Fs σ σ') (hL : ∀ c, c ∈ L → 31 < c) : zN σ σ' := fun c hc => h.1 c (fun e => by have := hL c e; omega) (by omega)
def mL (σ σ' : zS) : Prop := σ' 31 25 = σ 31 25 ∧ σ' 31 26 = σ 31 26 ∧ σ' 31 27 = σ 31 27 ∧ σ' 31 28 = σ 31 28
theorem mL_rf {σ : zS} : mL σ σ := ⟨rfl, rfl, rfl, rfl⟩
theorem mL_mm {σ σ' : zS} {L : List Nat} {Fs : List Int} (h : zmm L Fs σ σ') (hF : ∀ j, j ∈ [(25 : Int), 26, 27, 28] → j ∉ Fs) : mL σ σ' := ⟨h.2 _ (hF _ (by decide)), h.2 _ (hF _ (by decide)), h.2 _ (hF _ (by decide)), h.2 _ (hF _ (by decide))⟩
theorem gGiv_base {B B' : zS} (h0 : B' 0 = B 0) (h1 : B' 1 = B 1) (h2 : B' 2 = B 2) (h3 : B' 3 = B 3) (h6 : B' 6 = B 6) (h7 : B' 7 = B 7) : gGiv B' = gGiv B := by
  funext H t
  simp only [gGiv, gAdd_base h0 h6 h7, gPa_base h0 h1 h3, gPc_base h0 h2]
section MP
variable {σ : zS} {Q : Int → zS → Prop}
theorem FM_base {σ' : zS} {L : List Nat} {Fs : List Int} (hs : zmm L Fs σ σ') (hL : ∀ c, c ∈ [49, 50, 51, 52, 53] → c ∉ L) (hF0 : (0 : Int) ∉ Fs) (h0 : bM σ' 0 = bM σ 0) (h1 : bM σ' 1 = bM σ 1) (h2 : bM σ' 2 = bM σ 2) (h3 : bM σ' 3 = bM σ 3) (h6 : bM σ' 6 = bM σ 6) (h7 : bM σ' 7 = bM σ 7) (h13 : bM σ' 13 = bM σ 13) (h17 : bM σ' 17 = bM σ 17) (hF : FM σ) : FM σ' := by
  have e49 : σ' 49 = σ 49 := hs.1 49 (hL _ (by decide)) (by decide)
  have e50 : σ' 50 = σ 50 := hs.1 50 (hL _ (by decide)) (by decide)
  have e51 : σ' 51 = σ 51 := hs.1 51 (hL _ (by decide)) (by decide)
  have e52 : σ' 52 = σ 52 := hs.1 52 (hL _ (by decide)) (by decide)
  have e53 : σ' 53 = σ 53 := hs.1 53 (hL _ (by decide)) (by decide)
  have er : rM σ' = rM σ := rM_mm hs (hL _ (by decide)) (hL _ (by decide))
  have eg : gM σ' = gM σ := by funext x; simp only [gM, e50, e51]
  have en : σ' 31 0 = σ 31 0 := hs.2 0 hF0
  refine ⟨fun u u0 u1 => ?_, fun n u n0 n1 u0 u1 => ?_⟩
  · rw [en] at u1
    have := hF.1 u u0 u1
    unfold ancEq at this ⊢
    rw [gPa_base h0 h1 h3, gPc_base h0 h2, e49]
    exact this
  · rw [en] at u1
    obtain ⟨⟨a1, a2, a3⟩, a4, a5, a6, a7⟩ := hF.2 n u n0 n1 u0 u1
    refine ⟨⟨by rw [e53]; exact a1, by rw [e53]; exact a2, by rw [er, gV_base h6 h13 h17]; exact a3⟩, ?_, by rw [e51]; exact a5, by rw [e51]; exact a6, ?_⟩
    · rw [er, e49, gHad_base h0 h1 h2 h3 h6 h7 h13]; exact a4
    · rw [er, eg, gGiv_base h0 h1 h2 h3 h6 h7]; exact a7
theorem IM_keep {σ' : zS} {L : List Nat} (hI : IM σ) (hs : zmm L [] σ σ') (hL : ∀ c, c ∈ [39, 46, 49, 50, 51, 52, 53] → c ∉ L) (hB' : Bd (bM σ')) (h0 : bM σ' 0 = bM σ 0) (h1 : bM σ' 1 = bM σ 1) (h2 : bM σ' 2 = bM σ 2) (h3 : bM σ' 3 = bM σ 3) (h6 : bM σ' 6 = bM σ 6) (h7 : bM σ' 7 = bM σ 7) (h13 : bM σ' 13 = bM σ 13) (h17 : bM σ' 17 = bM σ 17) : IM σ' := by
  obtain ⟨-, i2, i3⟩ := hI
  refine ⟨hB', ?_, ?_⟩
  · rw [hs.2 19 (by decide)]
    rcases i2 with i2 | i2
    · exact Or.inl i2
    · exact Or.inr ⟨i2.1, FM_base hs (fun c hc => hL c (by simp only [List.mem_cons, List.not_mem_nil, or_false] at hc ⊢; omega)) (by decide) h0 h1 h2 h3 h6 h7 h13 h17 i2.2⟩
  · rw [hs.2 25 (by decide), hs.2 26 (by decide), hs.2 27 (by decide), hs.2 28 (by decide), hs.1 39 (hL _ (by decide)) (by decide), hs.1 46 (hL _ (by decide)) (by decide)]
    exact i3
theorem IM_stale {σ' : zS} (hI : IM σ) (hB' : Bd (bM σ')) (h19 : σ' 31 19 = 0) (hl : mL σ σ') (hn : ∀ t n, 0 ≤ t → t < 16 → 0 ≤ n → n < 10 → ¬ σ' 46 (10 * t + n) = -4 → σ' 39 (σ' 46 (10 * t + n)) = n) : IM σ' := by
  obtain ⟨-, -, i3, i4, i5, i6, -⟩ := hI
  obtain ⟨l1, l2, l3, l4⟩ := hl
  exact ⟨hB', Or.inl h19, by rw [l1]; exact i3, by rw [l2]; exact i4, by rw [l3]; exact i5, by rw [l4]; exact i6, hn⟩
theorem IM.names (hI : IM σ) : ∀ t n, 0 ≤ t → t < 16 → 0 ≤ n → n < 10 → ¬ σ 46 (10 * t + n) = -4 → σ 39 (σ 46 (10 * t + n)) = n := hI.2.2.2.2.2.2
theorem bM_type {σ : zS} {k : Int} : bM (zwr (zwr (zwr σ 32 (σ 31 0) k) 31 0 (σ 31 0 + 1)) 31 19 0) = oType (bM σ) k := by
  funext c i
  match c with
  | 0 => simp [bX, bM, oType, zwr]
  | 1 => simp [bX, bM, oType, zwr]
  | 2 => simp [bX, bM, oType, zwr]
  | 3 => simp [bX, bM, oType, zwr]
  | 4 => simp [bX, bM, oType, zwr]
  | 5 => simp [bX, bM, oType, zwr]
  | 6 => simp [bX, bM, oType, zwr]
  | 7 => simp [bX, bM, oType, zwr]
  | 8 => simp [bX, bM, oType, zwr]
  | 9 => simp [bX, bM, oType, zwr]
  | 10 => simp [bX, bM, oType, zwr]
  | 11 => simp [bX, bM, oType, zwr]
  | 12 => simp [bX, bM, oType, zwr]
  | 13 => simp [bX, bM, oType, zwr]
  | 14 => simp [bX, bM, oType, zwr]
  | 15 => simp [bX, bM, oType, zwr]
  | 16 => simp [bX, bM, oType, zwr]
  | 17 => simp [bX, bM, oType, zwr]
  | n + 18 => rfl
theorem bM_ext {σ : zS} {t s : Int} : bM (zwr (zwr σ 33 t s) 31 19 0) = oExt (bM σ) t s := by
  funext c i
  match c with
  | 0 => simp [bX, bM, oExt, zwr]
  | 1 => simp [bX, bM, oExt, zwr]
  | 2 => simp [bX, bM, oExt, zwr]
  | 3 => simp [bX, bM, oExt, zwr]
  | 4 => simp [bX, bM, oExt, zwr]
  | 5 => simp [bX, bM, oExt, zwr]
  | 6 => simp [bX, bM, oExt, zwr]
  | 7 => simp [bX, bM, oExt, zwr]
  | 8 => simp [bX, bM, oExt, zwr]
  | 9 => simp [bX, bM, oExt, zwr]
  | 10 => simp [bX, bM, oExt, zwr]
  | 11 => simp [bX, bM, oExt, zwr]
  | 12 => simp [bX, bM, oExt, zwr]
  | 13 => simp [bX, bM, oExt, zwr]
  | 14 => simp [bX, bM, oExt, zwr]
  | 15 => simp [bX, bM, oExt, zwr]
  | 16 => simp [bX, bM, oExt, zwr]
  | 17 => simp [bX, bM, oExt, zwr]
  | n + 18 => rfl
theorem bM_face {σ : zS} {t f : Int} : bM (zwr (zwr (zwr σ 34 (4 * t + σ 35 t) f) 35 t (σ 35 t + 1)) 31 19 0) = oFace (bM σ) t f := by
  funext c i
  match c with
  | 0 => simp [bX, bM, oFace, zwr]
  | 1 => simp [bX, bM, oFace, zwr]
  | 2 => simp [bX, bM, oFace, zwr]
  | 3 => simp [bX, bM, oFace, zwr]
  | 4 => simp [bX, bM, oFace, zwr]
  | 5 => simp [bX, bM, oFace, zwr]
  | 6 => simp [bX, bM, oFace, zwr]
  | 7 => simp [bX, bM, oFace, zwr]
  | 8 => simp [bX, bM, oFace, zwr]
  | 9 => simp [bX, bM, oFace, zwr]
  | 10 => simp [bX, bM, oFace, zwr]
  | 11 => simp [bX, bM, oFace, zwr]
  | 12 => simp [bX, bM, oFace, zwr]
  | 13 => simp [bX, bM, oFace, zwr]
  | 14 => simp [bX, bM, oFace, zwr]
  | 15 => simp [bX, bM, oFace, zwr]
  | 16 => simp [bX, bM, oFace, zwr]
  | 17 => simp [bX, bM, oFace, zwr]
  | n + 18 => rfl
theorem bM_mem {σ : zS} {t n s r : Int} : bM (zwr (zwr (zwr (zwr (zwr (zwr (zwr σ 38 (σ 31 7) t) 39 (σ 31 7) n) 40 (σ 31 7) s) 41 (σ 31 7) r) 46 (10 * t + n) (σ 31 7)) 31 7 (σ 31 7 + 1)) 31 19 0) = oMem (bM σ) t n s r := by
  funext c i
  match c with
  | 0 => simp [bX, bM, oMem, zwr]
  | 1 => simp [bX, bM, oMem, zwr]
  | 2 => simp [bX, bM, oMem, zwr]
  | 3 => simp [bX, bM, oMem, zwr]
  | 4 => simp [bX, bM, oMem, zwr]
  | 5 => simp [bX, bM, oMem, zwr]
  | 6 => simp [bX, bM, oMem, zwr]
  | 7 => simp [bX, bM, oMem, zwr]
  | 8 => simp [bX, bM, oMem, zwr]
  | 9 => simp [bX, bM, oMem, zwr]
  | 10 => simp [bX, bM, oMem, zwr]
  | 11 => simp [bX, bM, oMem, zwr]
  | 12 => simp [bX, bM, oMem, zwr]
  | 13 => simp [bX, bM, oMem, zwr]
  | 14 => simp [bX, bM, oMem, zwr]
  | 15 => simp [bX, bM, oMem, zwr]
  | 16 => simp [bX, bM, oMem, zwr]
  | 17 => simp [bX, bM, oMem, zwr]
  | n + 18 => rfl
theorem bM_does {σ : zS} {m a k u n : Int} : bM (zwr (zwr (zwr (zwr σ 42 m a) 43 m k) 44 m u) 45 m n) = oDoes (bM σ) m a k u n := by
  funext c i
  match c with
  | 0 => simp [bX, bM, oDoes, zwr]
  | 1 => simp [bX, bM, oDoes, zwr]
  | 2 => simp [bX, bM, oDoes, zwr]
  | 3 => simp [bX, bM, oDoes, zwr]
  | 4 => simp [bX, bM, oDoes, zwr]
  | 5 => simp [bX, bM, oDoes, zwr]
  | 6 => simp [bX, bM, oDoes, zwr]
  | 7 => simp [bX, bM, oDoes, zwr]
  | 8 => simp [bX, bM, oDoes, zwr]
  | 9 => simp [bX, bM, oDoes, zwr]
  | 10 => simp [bX, bM, oDoes, zwr]
  | 11 => simp [bX, bM, oDoes, zwr]
  | 12 => simp [bX, bM, oDoes, zwr]
  | 13 => simp [bX, bM, oDoes, zwr]
  | 14 => simp [bX, bM, oDoes, zwr]
  | 15 => simp [bX, bM, oDoes, zwr]
  | 16 => simp [bX, bM, oDoes, zwr]
  | 17 => simp [bX, bM, oDoes, zwr]
  | n + 18 => rfl
theorem bM_con {σ : zS} {t c v : Int} : bM (zwr (zwr σ 47 (4 * t + c) 1) 48 (4 * t + c) v) = oCon (bM σ) t c v := by
  funext k i
  match k with
  | 0 => simp [bX, bM, oCon, zwr]
  | 1 => simp [bX, bM, oCon, zwr]
  | 2 => simp [bX, bM, oCon, zwr]
  | 3 => simp [bX, bM, oCon, zwr]
  | 4 => simp [bX, bM, oCon, zwr]
  | 5 => simp [bX, bM, oCon, zwr]
  | 6 => simp [bX, bM, oCon, zwr]
  | 7 => simp [bX, bM, oCon, zwr]
  | 8 => simp [bX, bM, oCon, zwr]
  | 9 => simp [bX, bM, oCon, zwr]
  | 10 => simp [bX, bM, oCon, zwr]
  | 11 => simp [bX, bM, oCon, zwr]
  | 12 => simp [bX, bM, oCon, zwr]
  | 13 => simp [bX, bM, oCon, zwr]
  | 14 => simp [bX, bM, oCon, zwr]
  | 15 => simp [bX, bM, oCon, zwr]
  | 16 => simp [bX, bM, oCon, zwr]
  | 17 => simp [bX, bM, oCon, zwr]
  | n + 18 => rfl
theorem bM_seal {σ : zS} {f t : Int} (v : Int) (hv : v = (if t = -4 then σ 37 f else zor (σ 37 f) (zshl 1 t))) : bM (zwr (zwr σ 36 f 1) 37 f v) = oSeal (bM σ) f t := by
  subst hv
  funext c i
  match c with
  | 0 => simp [bX, bM, oSeal, zwr]
  | 1 => simp [bX, bM, oSeal, zwr]
  | 2 => simp [bX, bM, oSeal, zwr]
  | 3 => simp [bX, bM, oSeal, zwr]
  | 4 => simp [bX, bM, oSeal, zwr]
  | 5 => simp [bX, bM, oSeal, zwr]
  | 6 => simp [bX, bM, oSeal, zwr]
  | 7 => simp [bX, bM, oSeal, zwr]
  | 8 => simp [bX, bM, oSeal, zwr]
  | 9 => simp [bX, bM, oSeal, zwr]
  | 10 => simp [bX, bM, oSeal, zwr]
  | 11 => simp [bX, bM, oSeal, zwr]
  | 12 => simp [bX, bM, oSeal, zwr]
  | 13 => simp [bX, bM, oSeal, zwr]
  | 14 => simp [bX, bM, oSeal, zwr]
  | 15 => simp [bX, bM, oSeal, zwr]
  | 16 => simp [bX, bM, oSeal, zwr]
  | 17 => simp [bX, bM, oSeal, zwr]
  | n + 18 => rfl
theorem wr2 {σ : zS} {i j v w : Int} (h : ¬ j = i) : zwr σ 31 i v 31 j = σ 31 j := by
  simp only [zwr, true_and]
  rw [if_neg h]
set_option maxRecDepth 100000 in
theorem mp_type {k : Int} (hI : IM σ) (hk : zr k) (hbad : k < 0 ∨ 2 < k → Q (-1) σ) (hfull : 0 ≤ k → k ≤ 2 → 16 ≤ σ 31 0 → Q (-3) σ)
    (hok : 0 ≤ k → k ≤ 2 → σ 31 0 < 16 → ∀ σ', zN σ σ' → IM σ' → mL σ σ' → bM σ' = oType (bM σ) k → Q (σ 31 0) σ') : zM 97 zF [.inr 31, .inl k] σ Q := by
  have hn := hI.n
  refine ze_97 100 ?_
  simp only [zs_97_0, zs_97_1, zs_97_2, zs_97_3, zs_97_6, zs_97_9, zs_97_10, zs_97_11, zs_97_12, zs_97_15, zs_97_17, zs_97_20, zs_97_22, zs_97_23, zs_97_24, zs_97_25, zs_97_28, zs_97_29, zs_97_32, zs_97_33, zs_97_34, zg_31_0, zrc_80, zli_0, zli_s, zlr_0, zlr_s, zls_0, zls_s, z1i_e, z2i_e, z1r_e, zir_e, ziir_e, z1v_e, z2v_e, zone_e, znil_e, zsp_0, zsp_s, zlz_0, zlz_1, zlz_2, zlz_3, zlz_4, zswp_0, zswp_s, true_and, and_true, implies_true, true_or, or_true, Int.reduceEq, Int.reduceLT, Int.reduceLE, Int.reduceNeg, not_true_eq_false, not_false_eq_true, false_implies, true_implies, zr_e, zwr_o, zwr_s, Nat.reduceEqDiff]
  refine m_in hk ⟨by decide, by decide⟩ ⟨by decide, by decide⟩ (fun a b => ?_) (fun a => ?_)
  · simp only [zs_97_0, zs_97_1, zs_97_2, zs_97_3, zs_97_6, zs_97_9, zs_97_10, zs_97_11, zs_97_12, zs_97_15, zs_97_17, zs_97_20, zs_97_22, zs_97_23, zs_97_24, zs_97_25, zs_97_28, zs_97_29, zs_97_32, zs_97_33, zs_97_34, zg_31_0, zrc_80, zli_0, zli_s, zlr_0, zlr_s, zls_0, zls_s, z1i_e, z2i_e, z1r_e, zir_e, ziir_e, z1v_e, z2v_e, zone_e, znil_e, zsp_0, zsp_s, zlz_0, zlz_1, zlz_2, zlz_3, zlz_4, zswp_0, zswp_s, true_and, and_true, implies_true, true_or, or_true, Int.reduceEq, Int.reduceLT, Int.reduceLE, Int.reduceNeg, not_true_eq_false, not_false_eq_true, false_implies, true_implies, zr_e, zwr_o, zwr_s, Nat.reduceEqDiff]
    refine ⟨by omega, fun d => ?_, fun d => hfull a b (by omega)⟩
    refine m_addType (by omega) (by omega) ?_
    have hz : zmm [32] [0, 19] σ (zwr (zwr (zwr σ 32 (σ 31 0) k) 31 0 (σ 31 0 + 1)) 31 19 0) := zmm_wf (zmm_wf (zmm_wr zmm_rf (by decide) (by decide)) (by decide)) (by decide)
    have eb := bM_type (σ := σ) (k := k)
    have er : zwr (zwr (zwr σ 32 (σ 31 0) k) 31 0 (σ 31 0 + 1)) 31 19 0 31 0 - 1 = σ 31 0 := by
      simp [zwr]
    have e19 : zwr (zwr (zwr σ 32 (σ 31 0) k) 31 0 (σ 31 0 + 1)) 31 19 0 31 19 = 0 := by simp [zwr]
    rw [er]
    generalize zwr (zwr (zwr σ 32 (σ 31 0) k) 31 0 (σ 31 0 + 1)) 31 19 0 = σ' at *
    have hl : mL σ σ' := mL_mm hz (by decide)
    refine hok a b (by omega) σ' (zN_mm hz (by decide)) (IM_stale hI (by rw [eb]; exact Bd_type hI.1 (show σ 31 0 < 16 by omega) a b) e19 hl ?_) hl eb
    rw [hz.1 39 (by decide) (by decide), hz.1 46 (by decide) (by decide)]
    exact hI.names
  · simp only [zs_97_0, zs_97_1, zs_97_2, zs_97_3, zs_97_6, zs_97_9, zs_97_10, zs_97_11, zs_97_12, zs_97_15, zs_97_17, zs_97_20, zs_97_22, zs_97_23, zs_97_24, zs_97_25, zs_97_28, zs_97_29, zs_97_32, zs_97_33, zs_97_34, zg_31_0, zrc_80, zli_0, zli_s, zlr_0, zlr_s, zls_0, zls_s, z1i_e, z2i_e, z1r_e, zir_e, ziir_e, z1v_e, z2v_e, zone_e, znil_e, zsp_0, zsp_s, zlz_0, zlz_1, zlz_2, zlz_3, zlz_4, zswp_0, zswp_s, true_and, and_true, implies_true, true_or, or_true, Int.reduceEq, Int.reduceLT, Int.reduceLE, Int.reduceNeg, not_true_eq_false, not_false_eq_true, false_implies, true_implies, zr_e, zwr_o, zwr_s, Nat.reduceEqDiff]
    exact hbad a
set_option maxRecDepth 100000 in
theorem mp_extend {t s : Int} (hI : IM σ) (ht : zr t) (hs : zr s) (hbad : ¬ (0 < t ∧ t < σ 31 0 ∧ ¬ σ 32 t = 2 ∧ 0 ≤ s ∧ s < t ∧ ¬ σ 32 s = 2) → Q (-1) σ)
    (hok : 0 < t → t < σ 31 0 → ¬ σ 32 t = 2 → 0 ≤ s → s < t → ¬ σ 32 s = 2 → ∀ σ', zN σ σ' → IM σ' → mL σ σ' → bM σ' = oExt (bM σ) t s → Q (σ 33 t) σ') : zM 98 zF [.inr 31, .inl t, .inl s] σ Q := by
  have hn := hI.n
  refine ze_98 100 ?_
  simp only [zs_98_0, zs_98_1, zs_98_2, zs_98_5, zs_98_8, zs_98_9, zs_98_12, zs_98_13, zs_98_16, zs_98_17, zs_98_18, zs_98_19, zs_98_22, zs_98_23, zs_98_24, zs_98_25, zs_98_26, zs_98_27, zs_98_30, zs_98_33, zs_98_34, zs_98_37, zs_98_38, zs_98_39, zs_98_40, zs_98_43, zs_98_44, zs_98_45, zs_98_46, zs_98_49, zs_98_50, zs_98_51, zs_98_52, zs_98_53, zs_98_56, zs_98_57, zs_98_58, zs_98_59, zs_98_60, zs_98_61, zs_98_64, zs_98_65, za_32, za_33, zg_31_1, zg_31_2, zp_31_19, zrc_78, zli_0, zli_s, zlr_0, zlr_s, zls_0, zls_s, z1i_e, z2i_e, z1r_e, zir_e, ziir_e, z1v_e, z2v_e, zone_e, znil_e, zsp_0, zsp_s, zlz_0, zlz_1, zlz_2, zlz_3, zlz_4, zswp_0, zswp_s, true_and, and_true, implies_true, true_or, or_true, Int.reduceEq, Int.reduceLT, Int.reduceLE, Int.reduceNeg, not_true_eq_false, not_false_eq_true, false_implies, true_implies, zr_e, zwr_o, zwr_s, Nat.reduceEqDiff]
  refine m_isType hI.1 ht (fun a b => ?_) (fun a => ?_)
  · have hk : 0 ≤ σ 32 t ∧ σ 32 t ≤ 2 := hI.1.kind t a (by omega)
    simp only [zs_98_0, zs_98_1, zs_98_2, zs_98_5, zs_98_8, zs_98_9, zs_98_12, zs_98_13, zs_98_16, zs_98_17, zs_98_18, zs_98_19, zs_98_22, zs_98_23, zs_98_24, zs_98_25, zs_98_26, zs_98_27, zs_98_30, zs_98_33, zs_98_34, zs_98_37, zs_98_38, zs_98_39, zs_98_40, zs_98_43, zs_98_44, zs_98_45, zs_98_46, zs_98_49, zs_98_50, zs_98_51, zs_98_52, zs_98_53, zs_98_56, zs_98_57, zs_98_58, zs_98_59, zs_98_60, zs_98_61, zs_98_64, zs_98_65, za_32, za_33, zg_31_1, zg_31_2, zp_31_19, zrc_78, zli_0, zli_s, zlr_0, zlr_s, zls_0, zls_s, z1i_e, z2i_e, z1r_e, zir_e, ziir_e, z1v_e, z2v_e, zone_e, znil_e, zsp_0, zsp_s, zlz_0, zlz_1, zlz_2, zlz_3, zlz_4, zswp_0, zswp_s, true_and, and_true, implies_true, true_or, or_true, Int.reduceEq, Int.reduceLT, Int.reduceLE, Int.reduceNeg, not_true_eq_false, not_false_eq_true, false_implies, true_implies, zr_e, zwr_o, zwr_s, Nat.reduceEqDiff]
    refine ⟨by omega, fun d => hbad (by omega), fun d => ⟨a, by omega, by omega, fun g => hbad (by omega), fun g => ?_⟩⟩
    refine m_in hs zr_0 ⟨by omega, by omega⟩ (fun a1 a2 => ?_) (fun a1 => ?_)
    · have hk2 : 0 ≤ σ 32 s ∧ σ 32 s ≤ 2 := hI.1.kind s a1 (by omega)
      simp only [zs_98_0, zs_98_1, zs_98_2, zs_98_5, zs_98_8, zs_98_9, zs_98_12, zs_98_13, zs_98_16, zs_98_17, zs_98_18, zs_98_19, zs_98_22, zs_98_23, zs_98_24, zs_98_25, zs_98_26, zs_98_27, zs_98_30, zs_98_33, zs_98_34, zs_98_37, zs_98_38, zs_98_39, zs_98_40, zs_98_43, zs_98_44, zs_98_45, zs_98_46, zs_98_49, zs_98_50, zs_98_51, zs_98_52, zs_98_53, zs_98_56, zs_98_57, zs_98_58, zs_98_59, zs_98_60, zs_98_61, zs_98_64, zs_98_65, za_32, za_33, zg_31_1, zg_31_2, zp_31_19, zrc_78, zli_0, zli_s, zlr_0, zlr_s, zls_0, zls_s, z1i_e, z2i_e, z1r_e, zir_e, ziir_e, z1v_e, z2v_e, zone_e, znil_e, zsp_0, zsp_s, zlz_0, zlz_1, zlz_2, zlz_3, zlz_4, zswp_0, zswp_s, true_and, and_true, implies_true, true_or, or_true, Int.reduceEq, Int.reduceLT, Int.reduceLE, Int.reduceNeg, not_true_eq_false, not_false_eq_true, false_implies, true_implies, zr_e, zwr_o, zwr_s, Nat.reduceEqDiff]
      refine ⟨a1, by omega, by omega, fun i => ⟨a, by omega, a, by omega, ?_⟩, fun i => hbad (by omega)⟩
      have hz : zmm [33] [19] σ (zwr (zwr σ 33 t s) 31 19 0) := zmm_wf (zmm_wr zmm_rf (by decide) (by decide)) (by decide)
      have eb := bM_ext (σ := σ) (t := t) (s := s)
      have e19 : zwr (zwr σ 33 t s) 31 19 0 31 19 = 0 := by simp [zwr]
      generalize zwr (zwr σ 33 t s) 31 19 0 = σ' at *
      have hl : mL σ σ' := mL_mm hz (by decide)
      refine hok (by omega) b g a1 (by omega) i σ' (zN_mm hz (by decide)) (IM_stale hI (by rw [eb]; exact Bd_ext hI.1 (by omega) (by omega) a1 (by omega)) e19 hl ?_) hl eb
      rw [hz.1 39 (by decide) (by decide), hz.1 46 (by decide) (by decide)]
      exact hI.names
    · simp only [zs_98_0, zs_98_1, zs_98_2, zs_98_5, zs_98_8, zs_98_9, zs_98_12, zs_98_13, zs_98_16, zs_98_17, zs_98_18, zs_98_19, zs_98_22, zs_98_23, zs_98_24, zs_98_25, zs_98_26, zs_98_27, zs_98_30, zs_98_33, zs_98_34, zs_98_37, zs_98_38, zs_98_39, zs_98_40, zs_98_43, zs_98_44, zs_98_45, zs_98_46, zs_98_49, zs_98_50, zs_98_51, zs_98_52, zs_98_53, zs_98_56, zs_98_57, zs_98_58, zs_98_59, zs_98_60, zs_98_61, zs_98_64, zs_98_65, za_32, za_33, zg_31_1, zg_31_2, zp_31_19, zrc_78, zli_0, zli_s, zlr_0, zlr_s, zls_0, zls_s, z1i_e, z2i_e, z1r_e, zir_e, ziir_e, z1v_e, z2v_e, zone_e, znil_e, zsp_0, zsp_s, zlz_0, zlz_1, zlz_2, zlz_3, zlz_4, zswp_0, zswp_s, true_and, and_true, implies_true, true_or, or_true, Int.reduceEq, Int.reduceLT, Int.reduceLE, Int.reduceNeg, not_true_eq_false, not_false_eq_true, false_implies, true_implies, zr_e, zwr_o, zwr_s, Nat.reduceEqDiff]
      exact hbad (by omega)
  · simp only [zs_98_0, zs_98_1, zs_98_2, zs_98_5, zs_98_8, zs_98_9, zs_98_12, zs_98_13, zs_98_16, zs_98_17, zs_98_18, zs_98_19, zs_98_22, zs_98_23, zs_98_24, zs_98_25, zs_98_26, zs_98_27, zs_98_30, zs_98_33, zs_98_34, zs_98_37, zs_98_38, zs_98_39, zs_98_40, zs_98_43, zs_98_44, zs_98_45, zs_98_46, zs_98_49, zs_98_50, zs_98_51, zs_98_52, zs_98_53, zs_98_56, zs_98_57, zs_98_58, zs_98_59, zs_98_60, zs_98_61, zs_98_64, zs_98_65, za_32, za_33, zg_31_1, zg_31_2, zp_31_19, zrc_78, zli_0, zli_s, zlr_0, zlr_s, zls_0, zls_s, z1i_e, z2i_e, z1r_e, zir_e, ziir_e, z1v_e, z2v_e, zone_e, znil_e, zsp_0, zsp_s, zlz_0, zlz_1, zlz_2, zlz_3, zlz_4, zswp_0, zswp_s, true_and, and_true, implies_true, true_or, or_true, Int.reduceEq, Int.reduceLT, Int.reduceLE, Int.reduceNeg, not_true_eq_false, not_false_eq_true, false_implies, true_implies, zr_e, zwr_o, zwr_s, Nat.reduceEqDiff]
    exact hbad (by omega)
set_option maxRecDepth 100000 in
theorem mp_face_loop {t f : Int} (hI : IM σ) (h0 : 0 < t) (h1 : t < σ 31 0) (f0 : 0 ≤ f) (f1 : f < t) (fk : σ 32 f = 2)
    (hno : ∀ j, 0 ≤ j → j < σ 35 t → σ 34 (4 * t + j) = f → Q (-2) σ)
    (hfull : (∀ j, 0 ≤ j → j < σ 35 t → ¬ σ 34 (4 * t + j) = f) → 4 ≤ σ 35 t → Q (-3) σ)
    (hok : (∀ j, 0 ≤ j → j < σ 35 t → ¬ σ 34 (4 * t + j) = f) → σ 35 t < 4 → ∀ σ', zN σ σ' → IM σ' → mL σ σ' → bM σ' = oFace (bM σ) t f → Q (σ 35 t + 1) σ') :
    ∀ (q : Nat) (k : Int), 0 ≤ k → k ≤ σ 35 t → (σ 35 t - k).toNat = q → (∀ j, 0 ≤ j → j < k → ¬ σ 34 (4 * t + j) = f) → zV 99 zF Q 37 [some (.inr 31), some (.inl t), some (.inl f), some (.inl k)] [] σ := by
  have hn := hI.n
  have hfc : 0 ≤ σ 35 t ∧ σ 35 t ≤ 4 := hI.1.fc t (by omega) (by omega)
  intro q
  induction q with
  | zero =>
    intro k k0 k1 kq hj
    have e : k = σ 35 t := by omega
    subst e
    refine zv_99 200 ?_
    simp only [zs_99_0, zs_99_1, zs_99_2, zs_99_5, zs_99_8, zs_99_9, zs_99_12, zs_99_13, zs_99_14, zs_99_15, zs_99_16, zs_99_17, zs_99_20, zs_99_23, zs_99_24, zs_99_27, zs_99_28, zs_99_29, zs_99_30, zs_99_33, zs_99_34, zs_99_35, zs_99_36, zs_99_37, zs_99_38, zs_99_39, zs_99_42, zs_99_43, zs_99_44, zs_99_47, zs_99_48, zs_99_51, zs_99_52, zs_99_53, zs_99_54, zs_99_55, zs_99_56, zs_99_57, zs_99_58, zs_99_61, zs_99_63, zs_99_64, zs_99_67, zs_99_70, zs_99_71, zs_99_74, zs_99_75, zs_99_76, zs_99_77, zs_99_80, zs_99_82, zs_99_83, zs_99_84, zs_99_87, zs_99_88, zs_99_89, zs_99_90, zs_99_91, zs_99_94, zs_99_95, zs_99_96, zs_99_97, zs_99_98, zs_99_99, zs_99_100, zs_99_103, zs_99_104, zs_99_105, zs_99_106, zs_99_107, zs_99_108, zs_99_109, zs_99_110, zs_99_111, zs_99_114, zs_99_115, zs_99_118, zs_99_119, zs_99_120, zs_99_37h, za_32, za_34, za_35, zg_31_1, zg_31_3, zg_31_4, zp_31_19, zrc_78, zli_0, zli_s, zlr_0, zlr_s, zls_0, zls_s, z1i_e, z2i_e, z1r_e, zir_e, ziir_e, z1v_e, z2v_e, zone_e, znil_e, zsp_0, zsp_s, zlz_0, zlz_1, zlz_2, zlz_3, zlz_4, zswp_0, zswp_s, true_and, and_true, implies_true, true_or, or_true, Int.reduceEq, Int.reduceLT, Int.reduceLE, Int.reduceNeg, not_true_eq_false, not_false_eq_true, false_implies, true_implies, zr_e, zwr_o, zwr_s, Nat.reduceEqDiff]
    refine ⟨by omega, by omega, by omega, by omega, fun _ => ⟨by omega, by omega, by omega, fun a => ⟨by omega, by omega, by omega, by omega, by omega, by omega, by omega, by omega, by omega, by omega, ?_⟩, fun a => hfull hj (by omega)⟩, fun a => False.elim (by omega)⟩
    have hz : zmm [34, 35] [19] σ (zwr (zwr (zwr σ 34 (4 * t + σ 35 t) f) 35 t (σ 35 t + 1)) 31 19 0) := zmm_wf (zmm_wr (zmm_wr zmm_rf (by decide) (by decide)) (by decide) (by decide)) (by decide)
    have eb := bM_face (σ := σ) (t := t) (f := f)
    have e19 : zwr (zwr (zwr σ 34 (4 * t + σ 35 t) f) 35 t (σ 35 t + 1)) 31 19 0 31 19 = 0 := by simp [zwr]
    generalize zwr (zwr (zwr σ 34 (4 * t + σ 35 t) f) 35 t (σ 35 t + 1)) 31 19 0 = σ' at *
    have hl : mL σ σ' := mL_mm hz (by decide)
    refine hok hj (by omega) σ' (zN_mm hz (by decide)) (IM_stale hI (by rw [eb]; exact Bd_face hI.1 h0 h1 f0 f1 fk (show σ 35 t < 4 by omega)) e19 hl ?_) hl eb
    rw [hz.1 39 (by decide) (by decide), hz.1 46 (by decide) (by decide)]
    exact hI.names
  | succ q ih =>
    intro k k0 k1 kq hj
    have hfj : 0 ≤ σ 34 (4 * t + k) ∧ σ 34 (4 * t + k) ≤ 15 := hI.1.fj (4 * t + k) (by omega) (by omega)
    refine zv_99 200 ?_
    simp only [zs_99_0, zs_99_1, zs_99_2, zs_99_5, zs_99_8, zs_99_9, zs_99_12, zs_99_13, zs_99_14, zs_99_15, zs_99_16, zs_99_17, zs_99_20, zs_99_23, zs_99_24, zs_99_27, zs_99_28, zs_99_29, zs_99_30, zs_99_33, zs_99_34, zs_99_35, zs_99_36, zs_99_37, zs_99_38, zs_99_39, zs_99_42, zs_99_43, zs_99_44, zs_99_47, zs_99_48, zs_99_51, zs_99_52, zs_99_53, zs_99_54, zs_99_55, zs_99_56, zs_99_57, zs_99_58, zs_99_61, zs_99_63, zs_99_64, zs_99_67, zs_99_70, zs_99_71, zs_99_74, zs_99_75, zs_99_76, zs_99_77, zs_99_80, zs_99_82, zs_99_83, zs_99_84, zs_99_87, zs_99_88, zs_99_89, zs_99_90, zs_99_91, zs_99_94, zs_99_95, zs_99_96, zs_99_97, zs_99_98, zs_99_99, zs_99_100, zs_99_103, zs_99_104, zs_99_105, zs_99_106, zs_99_107, zs_99_108, zs_99_109, zs_99_110, zs_99_111, zs_99_114, zs_99_115, zs_99_118, zs_99_119, zs_99_120, zs_99_37h, za_32, za_34, za_35, zg_31_1, zg_31_3, zg_31_4, zp_31_19, zrc_78, zli_0, zli_s, zlr_0, zlr_s, zls_0, zls_s, z1i_e, z2i_e, z1r_e, zir_e, ziir_e, z1v_e, z2v_e, zone_e, znil_e, zsp_0, zsp_s, zlz_0, zlz_1, zlz_2, zlz_3, zlz_4, zswp_0, zswp_s, true_and, and_true, implies_true, true_or, or_true, Int.reduceEq, Int.reduceLT, Int.reduceLE, Int.reduceNeg, not_true_eq_false, not_false_eq_true, false_implies, true_implies, zr_e, zwr_o, zwr_s, Nat.reduceEqDiff]
    refine ⟨by omega, by omega, by omega, by omega, fun a => False.elim (by omega), fun a => ⟨by omega, by omega, by omega, by omega, fun b => ?_, fun b => hno k k0 a b⟩⟩
    refine ih (k + 1) (by omega) (by omega) (by omega) (fun j j0 j1 => ?_)
    by_cases e : j = k
    · rw [e]; exact b
    · exact hj j j0 (by omega)
set_option maxRecDepth 100000 in
theorem mp_face {t f : Int} (hI : IM σ) (ht : zr t) (hf : zr f) (hbad : ¬ (0 < t ∧ t < σ 31 0 ∧ 0 ≤ f ∧ f < t ∧ σ 32 f = 2) → Q (-1) σ)
    (hno : 0 < t → t < σ 31 0 → 0 ≤ f → f < t → σ 32 f = 2 → ∀ j, 0 ≤ j → j < σ 35 t → σ 34 (4 * t + j) = f → Q (-2) σ)
    (hfull : 0 < t → t < σ 31 0 → 0 ≤ f → f < t → σ 32 f = 2 → (∀ j, 0 ≤ j → j < σ 35 t → ¬ σ 34 (4 * t + j) = f) → 4 ≤ σ 35 t → Q (-3) σ)
    (hok : 0 < t → t < σ 31 0 → 0 ≤ f → f < t → σ 32 f = 2 → (∀ j, 0 ≤ j → j < σ 35 t → ¬ σ 34 (4 * t + j) = f) → σ 35 t < 4 → ∀ σ', zN σ σ' → IM σ' → mL σ σ' → bM σ' = oFace (bM σ) t f → Q (σ 35 t + 1) σ') : zM 99 zF [.inr 31, .inl t, .inl f] σ Q := by
  have hn := hI.n
  refine ze_99 100 ?_
  simp only [zs_99_0, zs_99_1, zs_99_2, zs_99_5, zs_99_8, zs_99_9, zs_99_12, zs_99_13, zs_99_14, zs_99_15, zs_99_16, zs_99_17, zs_99_20, zs_99_23, zs_99_24, zs_99_27, zs_99_28, zs_99_29, zs_99_30, zs_99_33, zs_99_34, zs_99_35, zs_99_36, zs_99_37, zs_99_38, zs_99_39, zs_99_42, zs_99_43, zs_99_44, zs_99_47, zs_99_48, zs_99_51, zs_99_52, zs_99_53, zs_99_54, zs_99_55, zs_99_56, zs_99_57, zs_99_58, zs_99_61, zs_99_63, zs_99_64, zs_99_67, zs_99_70, zs_99_71, zs_99_74, zs_99_75, zs_99_76, zs_99_77, zs_99_80, zs_99_82, zs_99_83, zs_99_84, zs_99_87, zs_99_88, zs_99_89, zs_99_90, zs_99_91, zs_99_94, zs_99_95, zs_99_96, zs_99_97, zs_99_98, zs_99_99, zs_99_100, zs_99_103, zs_99_104, zs_99_105, zs_99_106, zs_99_107, zs_99_108, zs_99_109, zs_99_110, zs_99_111, zs_99_114, zs_99_115, zs_99_118, zs_99_119, zs_99_120, za_32, za_34, za_35, zg_31_1, zg_31_3, zg_31_4, zp_31_19, zrc_78, zli_0, zli_s, zlr_0, zlr_s, zls_0, zls_s, z1i_e, z2i_e, z1r_e, zir_e, ziir_e, z1v_e, z2v_e, zone_e, znil_e, zsp_0, zsp_s, zlz_0, zlz_1, zlz_2, zlz_3, zlz_4, zswp_0, zswp_s, true_and, and_true, implies_true, true_or, or_true, Int.reduceEq, Int.reduceLT, Int.reduceLE, Int.reduceNeg, not_true_eq_false, not_false_eq_true, false_implies, true_implies, zr_e, zwr_o, zwr_s, Nat.reduceEqDiff]
  refine m_isType hI.1 ht (fun a b => ?_) (fun a => ?_)
  · simp only [zs_99_0, zs_99_1, zs_99_2, zs_99_5, zs_99_8, zs_99_9, zs_99_12, zs_99_13, zs_99_14, zs_99_15, zs_99_16, zs_99_17, zs_99_20, zs_99_23, zs_99_24, zs_99_27, zs_99_28, zs_99_29, zs_99_30, zs_99_33, zs_99_34, zs_99_35, zs_99_36, zs_99_37, zs_99_38, zs_99_39, zs_99_42, zs_99_43, zs_99_44, zs_99_47, zs_99_48, zs_99_51, zs_99_52, zs_99_53, zs_99_54, zs_99_55, zs_99_56, zs_99_57, zs_99_58, zs_99_61, zs_99_63, zs_99_64, zs_99_67, zs_99_70, zs_99_71, zs_99_74, zs_99_75, zs_99_76, zs_99_77, zs_99_80, zs_99_82, zs_99_83, zs_99_84, zs_99_87, zs_99_88, zs_99_89, zs_99_90, zs_99_91, zs_99_94, zs_99_95, zs_99_96, zs_99_97, zs_99_98, zs_99_99, zs_99_100, zs_99_103, zs_99_104, zs_99_105, zs_99_106, zs_99_107, zs_99_108, zs_99_109, zs_99_110, zs_99_111, zs_99_114, zs_99_115, zs_99_118, zs_99_119, zs_99_120, za_32, za_34, za_35, zg_31_1, zg_31_3, zg_31_4, zp_31_19, zrc_78, zli_0, zli_s, zlr_0, zlr_s, zls_0, zls_s, z1i_e, z2i_e, z1r_e, zir_e, ziir_e, z1v_e, z2v_e, zone_e, znil_e, zsp_0, zsp_s, zlz_0, zlz_1, zlz_2, zlz_3, zlz_4, zswp_0, zswp_s, true_and, and_true, implies_true, true_or, or_true, Int.reduceEq, Int.reduceLT, Int.reduceLE, Int.reduceNeg, not_true_eq_false, not_false_eq_true, false_implies, true_implies, zr_e, zwr_o, zwr_s, Nat.reduceEqDiff]
    refine ⟨by omega, fun d => hbad (by omega), fun d => ?_⟩
    refine m_in hf zr_0 ⟨by omega, by omega⟩ (fun a1 a2 => ?_) (fun a1 => ?_)
    · have hk2 : 0 ≤ σ 32 f ∧ σ 32 f ≤ 2 := hI.1.kind f a1 (by omega)
      have hfc : 0 ≤ σ 35 t ∧ σ 35 t ≤ 4 := hI.1.fc t (by omega) (by omega)
      simp only [zs_99_0, zs_99_1, zs_99_2, zs_99_5, zs_99_8, zs_99_9, zs_99_12, zs_99_13, zs_99_14, zs_99_15, zs_99_16, zs_99_17, zs_99_20, zs_99_23, zs_99_24, zs_99_27, zs_99_28, zs_99_29, zs_99_30, zs_99_33, zs_99_34, zs_99_35, zs_99_36, zs_99_37, zs_99_38, zs_99_39, zs_99_42, zs_99_43, zs_99_44, zs_99_47, zs_99_48, zs_99_51, zs_99_52, zs_99_53, zs_99_54, zs_99_55, zs_99_56, zs_99_57, zs_99_58, zs_99_61, zs_99_63, zs_99_64, zs_99_67, zs_99_70, zs_99_71, zs_99_74, zs_99_75, zs_99_76, zs_99_77, zs_99_80, zs_99_82, zs_99_83, zs_99_84, zs_99_87, zs_99_88, zs_99_89, zs_99_90, zs_99_91, zs_99_94, zs_99_95, zs_99_96, zs_99_97, zs_99_98, zs_99_99, zs_99_100, zs_99_103, zs_99_104, zs_99_105, zs_99_106, zs_99_107, zs_99_108, zs_99_109, zs_99_110, zs_99_111, zs_99_114, zs_99_115, zs_99_118, zs_99_119, zs_99_120, za_32, za_34, za_35, zg_31_1, zg_31_3, zg_31_4, zp_31_19, zrc_78, zli_0, zli_s, zlr_0, zlr_s, zls_0, zls_s, z1i_e, z2i_e, z1r_e, zir_e, ziir_e, z1v_e, z2v_e, zone_e, znil_e, zsp_0, zsp_s, zlz_0, zlz_1, zlz_2, zlz_3, zlz_4, zswp_0, zswp_s, true_and, and_true, implies_true, true_or, or_true, Int.reduceEq, Int.reduceLT, Int.reduceLE, Int.reduceNeg, not_true_eq_false, not_false_eq_true, false_implies, true_implies, zr_e, zwr_o, zwr_s, Nat.reduceEqDiff]
      refine ⟨a1, by omega, by omega, fun i => ?_, fun i => hbad (by omega)⟩
      exact mp_face_loop hI (by omega) b a1 (by omega) i (hno (by omega) b a1 (by omega) i) (hfull (by omega) b a1 (by omega) i) (hok (by omega) b a1 (by omega) i) _ 0 (by omega) hfc.1 rfl (fun j a b => False.elim (by omega))
    · simp only [zs_99_0, zs_99_1, zs_99_2, zs_99_5, zs_99_8, zs_99_9, zs_99_12, zs_99_13, zs_99_14, zs_99_15, zs_99_16, zs_99_17, zs_99_20, zs_99_23, zs_99_24, zs_99_27, zs_99_28, zs_99_29, zs_99_30, zs_99_33, zs_99_34, zs_99_35, zs_99_36, zs_99_37, zs_99_38, zs_99_39, zs_99_42, zs_99_43, zs_99_44, zs_99_47, zs_99_48, zs_99_51, zs_99_52, zs_99_53, zs_99_54, zs_99_55, zs_99_56, zs_99_57, zs_99_58, zs_99_61, zs_99_63, zs_99_64, zs_99_67, zs_99_70, zs_99_71, zs_99_74, zs_99_75, zs_99_76, zs_99_77, zs_99_80, zs_99_82, zs_99_83, zs_99_84, zs_99_87, zs_99_88, zs_99_89, zs_99_90, zs_99_91, zs_99_94, zs_99_95, zs_99_96, zs_99_97, zs_99_98, zs_99_99, zs_99_100, zs_99_103, zs_99_104, zs_99_105, zs_99_106, zs_99_107, zs_99_108, zs_99_109, zs_99_110, zs_99_111, zs_99_114, zs_99_115, zs_99_118, zs_99_119, zs_99_120, za_32, za_34, za_35, zg_31_1, zg_31_3, zg_31_4, zp_31_19, zrc_78, zli_0, zli_s, zlr_0, zlr_s, zls_0, zls_s, z1i_e, z2i_e, z1r_e, zir_e, ziir_e, z1v_e, z2v_e, zone_e, znil_e, zsp_0, zsp_s, zlz_0, zlz_1, zlz_2, zlz_3, zlz_4, zswp_0, zswp_s, true_and, and_true, implies_true, true_or, or_true, Int.reduceEq, Int.reduceLT, Int.reduceLE, Int.reduceNeg, not_true_eq_false, not_false_eq_true, false_implies, true_implies, zr_e, zwr_o, zwr_s, Nat.reduceEqDiff]
      exact hbad (by omega)
  · simp only [zs_99_0, zs_99_1, zs_99_2, zs_99_5, zs_99_8, zs_99_9, zs_99_12, zs_99_13, zs_99_14, zs_99_15, zs_99_16, zs_99_17, zs_99_20, zs_99_23, zs_99_24, zs_99_27, zs_99_28, zs_99_29, zs_99_30, zs_99_33, zs_99_34, zs_99_35, zs_99_36, zs_99_37, zs_99_38, zs_99_39, zs_99_42, zs_99_43, zs_99_44, zs_99_47, zs_99_48, zs_99_51, zs_99_52, zs_99_53, zs_99_54, zs_99_55, zs_99_56, zs_99_57, zs_99_58, zs_99_61, zs_99_63, zs_99_64, zs_99_67, zs_99_70, zs_99_71, zs_99_74, zs_99_75, zs_99_76, zs_99_77, zs_99_80, zs_99_82, zs_99_83, zs_99_84, zs_99_87, zs_99_88, zs_99_89, zs_99_90, zs_99_91, zs_99_94, zs_99_95, zs_99_96, zs_99_97, zs_99_98, zs_99_99, zs_99_100, zs_99_103, zs_99_104, zs_99_105, zs_99_106, zs_99_107, zs_99_108, zs_99_109, zs_99_110, zs_99_111, zs_99_114, zs_99_115, zs_99_118, zs_99_119, zs_99_120, za_32, za_34, za_35, zg_31_1, zg_31_3, zg_31_4, zp_31_19, zrc_78, zli_0, zli_s, zlr_0, zlr_s, zls_0, zls_s, z1i_e, z2i_e, z1r_e, zir_e, ziir_e, z1v_e, z2v_e, zone_e, znil_e, zsp_0, zsp_s, zlz_0, zlz_1, zlz_2, zlz_3, zlz_4, zswp_0, zswp_s, true_and, and_true, implies_true, true_or, or_true, Int.reduceEq, Int.reduceLT, Int.reduceLE, Int.reduceNeg, not_true_eq_false, not_false_eq_true, false_implies, true_implies, zr_e, zwr_o, zwr_s, Nat.reduceEqDiff]
    exact hbad (by omega)
set_option maxRecDepth 100000 in
theorem mp_seal {f t : Int} (hI : IM σ) (hf : zr f) (ht : zr t) (hbad : ¬ (0 ≤ f ∧ f < σ 31 0 ∧ σ 32 f = 2 ∧ (t = -4 ∨ (0 ≤ t ∧ t < σ 31 0 ∧ f < t))) → Q (-1) σ)
    (hok : 0 ≤ f → f < σ 31 0 → σ 32 f = 2 → (t = -4 ∨ (0 ≤ t ∧ t < σ 31 0 ∧ f < t)) → ∀ σ', zN σ σ' → IM σ' → mL σ σ' → bM σ' = oSeal (bM σ) f t → Q 1 σ') : zM 100 zF [.inr 31, .inl f, .inl t] σ Q := by
  have hn := hI.n
  have hf' := hf
  have ht' := ht
  simp only [zr] at ht hf
  refine ze_100 100 ?_
  simp only [zs_100_0, zs_100_1, zs_100_2, zs_100_5, zs_100_8, zs_100_9, zs_100_11, zs_100_14, zs_100_15, zs_100_16, zs_100_19, zs_100_22, zs_100_23, zs_100_24, zs_100_27, zs_100_28, zs_100_29, zs_100_30, zs_100_33, zs_100_34, zs_100_35, zs_100_36, zs_100_37, zs_100_40, zs_100_41, zs_100_42, zs_100_43, zs_100_44, zs_100_46, zs_100_49, zs_100_50, zs_100_53, zs_100_54, zs_100_55, zs_100_56, zs_100_57, zs_100_58, zs_100_59, za_36, za_37, zg_31_5, zg_31_6, zrc_78, zrc_79, zli_0, zli_s, zlr_0, zlr_s, zls_0, zls_s, z1i_e, z2i_e, z1r_e, zir_e, ziir_e, z1v_e, z2v_e, zone_e, znil_e, zsp_0, zsp_s, zlz_0, zlz_1, zlz_2, zlz_3, zlz_4, zswp_0, zswp_s, true_and, and_true, implies_true, true_or, or_true, Int.reduceEq, Int.reduceLT, Int.reduceLE, Int.reduceNeg, not_true_eq_false, not_false_eq_true, false_implies, true_implies, zr_e, zwr_o, zwr_s, Nat.reduceEqDiff]
  refine m_isFace hI.1 hf' (fun b1 b2 b3 => ?_) (fun b => ?_)
  · have hse : (σ 36 f = 0 ∨ σ 36 f = 1) ∧ zr (σ 37 f) := hI.1.se f b1 (by omega)
    have fin : ∀ v, v = (if t = -4 then σ 37 f else zor (σ 37 f) (zshl 1 t)) → (t = -4 ∨ (0 ≤ t ∧ t < σ 31 0 ∧ f < t)) → Q 1 (zwr (zwr σ 36 f 1) 37 f v) := by
      intro v hv hc
      have hz : zmm [36, 37] [] σ (zwr (zwr σ 36 f 1) 37 f v) := zmm_wr (zmm_wr zmm_rf (by decide) (by decide)) (by decide) (by decide)
      have eb := bM_seal (σ := σ) (f := f) (t := t) v hv
      refine hok b1 b2 b3 hc _ (zN_mm hz (by decide)) ?_ (mL_mm hz (by decide)) eb
      exact IM_keep hI hz (by decide) (by rw [eb]; exact Bd_seal hI.1) (by rw [eb]; rfl) (by rw [eb]; rfl) (by rw [eb]; rfl) (by rw [eb]; rfl) (by rw [eb]; rfl) (by rw [eb]; rfl) (by rw [eb]; rfl) (by rw [eb]; rfl)
    simp only [zs_100_0, zs_100_1, zs_100_2, zs_100_5, zs_100_8, zs_100_9, zs_100_11, zs_100_14, zs_100_15, zs_100_16, zs_100_19, zs_100_22, zs_100_23, zs_100_24, zs_100_27, zs_100_28, zs_100_29, zs_100_30, zs_100_33, zs_100_34, zs_100_35, zs_100_36, zs_100_37, zs_100_40, zs_100_41, zs_100_42, zs_100_43, zs_100_44, zs_100_46, zs_100_49, zs_100_50, zs_100_53, zs_100_54, zs_100_55, zs_100_56, zs_100_57, zs_100_58, zs_100_59, za_36, za_37, zg_31_5, zg_31_6, zrc_78, zrc_79, zli_0, zli_s, zlr_0, zlr_s, zls_0, zls_s, z1i_e, z2i_e, z1r_e, zir_e, ziir_e, z1v_e, z2v_e, zone_e, znil_e, zsp_0, zsp_s, zlz_0, zlz_1, zlz_2, zlz_3, zlz_4, zswp_0, zswp_s, true_and, and_true, implies_true, true_or, or_true, Int.reduceEq, Int.reduceLT, Int.reduceLE, Int.reduceNeg, not_true_eq_false, not_false_eq_true, false_implies, true_implies, zr_e, zwr_o, zwr_s, Nat.reduceEqDiff]
    refine ⟨ht, fun a => ⟨b1, by omega, b1, by omega, ht, fun d => absurd a d, fun d => ⟨b1, by omega, ?_⟩⟩, fun a => ?_⟩
    · exact fin _ (by rw [if_pos a, zor_0 hse.2]) (Or.inl a)
    · refine m_isType hI.1 ht' (fun c1 c2 => ?_) (fun c => ?_)
      · simp only [zs_100_0, zs_100_1, zs_100_2, zs_100_5, zs_100_8, zs_100_9, zs_100_11, zs_100_14, zs_100_15, zs_100_16, zs_100_19, zs_100_22, zs_100_23, zs_100_24, zs_100_27, zs_100_28, zs_100_29, zs_100_30, zs_100_33, zs_100_34, zs_100_35, zs_100_36, zs_100_37, zs_100_40, zs_100_41, zs_100_42, zs_100_43, zs_100_44, zs_100_46, zs_100_49, zs_100_50, zs_100_53, zs_100_54, zs_100_55, zs_100_56, zs_100_57, zs_100_58, zs_100_59, za_36, za_37, zg_31_5, zg_31_6, zrc_78, zrc_79, zli_0, zli_s, zlr_0, zlr_s, zls_0, zls_s, z1i_e, z2i_e, z1r_e, zir_e, ziir_e, z1v_e, z2v_e, zone_e, znil_e, zsp_0, zsp_s, zlz_0, zlz_1, zlz_2, zlz_3, zlz_4, zswp_0, zswp_s, true_and, and_true, implies_true, true_or, or_true, Int.reduceEq, Int.reduceLT, Int.reduceLE, Int.reduceNeg, not_true_eq_false, not_false_eq_true, false_implies, true_implies, zr_e, zwr_o, zwr_s, Nat.reduceEqDiff]
        refine ⟨ht, hf, fun d => ⟨b1, by omega, b1, by omega, ht, fun g => ⟨b1, by omega, ?_⟩, fun g => absurd g a⟩, fun d => hbad (by omega)⟩
        exact fin _ (by rw [if_neg a]) (Or.inr ⟨c1, c2, d⟩)
      · simp only [zs_100_0, zs_100_1, zs_100_2, zs_100_5, zs_100_8, zs_100_9, zs_100_11, zs_100_14, zs_100_15, zs_100_16, zs_100_19, zs_100_22, zs_100_23, zs_100_24, zs_100_27, zs_100_28, zs_100_29, zs_100_30, zs_100_33, zs_100_34, zs_100_35, zs_100_36, zs_100_37, zs_100_40, zs_100_41, zs_100_42, zs_100_43, zs_100_44, zs_100_46, zs_100_49, zs_100_50, zs_100_53, zs_100_54, zs_100_55, zs_100_56, zs_100_57, zs_100_58, zs_100_59, za_36, za_37, zg_31_5, zg_31_6, zrc_78, zrc_79, zli_0, zli_s, zlr_0, zlr_s, zls_0, zls_s, z1i_e, z2i_e, z1r_e, zir_e, ziir_e, z1v_e, z2v_e, zone_e, znil_e, zsp_0, zsp_s, zlz_0, zlz_1, zlz_2, zlz_3, zlz_4, zswp_0, zswp_s, true_and, and_true, implies_true, true_or, or_true, Int.reduceEq, Int.reduceLT, Int.reduceLE, Int.reduceNeg, not_true_eq_false, not_false_eq_true, false_implies, true_implies, zr_e, zwr_o, zwr_s, Nat.reduceEqDiff]
        exact hbad (by omega)
  · simp only [zs_100_0, zs_100_1, zs_100_2, zs_100_5, zs_100_8, zs_100_9, zs_100_11, zs_100_14, zs_100_15, zs_100_16, zs_100_19, zs_100_22, zs_100_23, zs_100_24, zs_100_27, zs_100_28, zs_100_29, zs_100_30, zs_100_33, zs_100_34, zs_100_35, zs_100_36, zs_100_37, zs_100_40, zs_100_41, zs_100_42, zs_100_43, zs_100_44, zs_100_46, zs_100_49, zs_100_50, zs_100_53, zs_100_54, zs_100_55, zs_100_56, zs_100_57, zs_100_58, zs_100_59, za_36, za_37, zg_31_5, zg_31_6, zrc_78, zrc_79, zli_0, zli_s, zlr_0, zlr_s, zls_0, zls_s, z1i_e, z2i_e, z1r_e, zir_e, ziir_e, z1v_e, z2v_e, zone_e, znil_e, zsp_0, zsp_s, zlz_0, zlz_1, zlz_2, zlz_3, zlz_4, zswp_0, zswp_s, true_and, and_true, implies_true, true_or, or_true, Int.reduceEq, Int.reduceLT, Int.reduceLE, Int.reduceNeg, not_true_eq_false, not_false_eq_true, false_implies, true_implies, zr_e, zwr_o, zwr_s, Nat.reduceEqDiff]
    exact hbad (fun z => b z.1 z.2.1 z.2.2.1)
set_option maxRecDepth 100000 in
theorem mp_member {t n s r : Int} (hI : IM σ) (ht : zr t) (hn : zr n) (hs : zr s) (hr : zr r)
    (hbad : ¬ (0 < t ∧ t < σ 31 0 ∧ 0 ≤ n ∧ n < 10 ∧ ((s = 0 ∧ (σ 32 t = 2 ∨ σ 32 t = 1)) ∨ (s = 4 ∧ ¬ σ 32 t = 2) ∨ s = 1 ∨ s = 2 ∨ s = 3) ∧ 0 ≤ r ∧ r ≤ 3) → Q (-1) σ)
    (hno : (0 < t ∧ t < σ 31 0 ∧ 0 ≤ n ∧ n < 10 ∧ ((s = 0 ∧ (σ 32 t = 2 ∨ σ 32 t = 1)) ∨ (s = 4 ∧ ¬ σ 32 t = 2) ∨ s = 1 ∨ s = 2 ∨ s = 3) ∧ 0 ≤ r ∧ r ≤ 3) → ¬ σ 46 (10 * t + n) = -4 → Q (-2) σ)
    (hfull : (0 < t ∧ t < σ 31 0 ∧ 0 ≤ n ∧ n < 10 ∧ ((s = 0 ∧ (σ 32 t = 2 ∨ σ 32 t = 1)) ∨ (s = 4 ∧ ¬ σ 32 t = 2) ∨ s = 1 ∨ s = 2 ∨ s = 3) ∧ 0 ≤ r ∧ r ≤ 3) → σ 46 (10 * t + n) = -4 → 60 ≤ σ 31 7 → Q (-3) σ)
    (hok : (0 < t ∧ t < σ 31 0 ∧ 0 ≤ n ∧ n < 10 ∧ ((s = 0 ∧ (σ 32 t = 2 ∨ σ 32 t = 1)) ∨ (s = 4 ∧ ¬ σ 32 t = 2) ∨ s = 1 ∨ s = 2 ∨ s = 3) ∧ 0 ≤ r ∧ r ≤ 3) → σ 46 (10 * t + n) = -4 → σ 31 7 < 60 → ∀ σ', zN σ σ' → IM σ' → mL σ σ' → bM σ' = oMem (bM σ) t n s r → Q (σ 31 7) σ') : zM 101 zF [.inr 31, .inl t, .inl n, .inl s, .inl r] σ Q := by
  have hnn := hI.n
  have hs' := hs
  simp only [zr] at hs
  refine ze_101 100 ?_
  simp only [zs_101_0, zs_101_1, zs_101_2, zs_101_5, zs_101_8, zs_101_9, zs_101_12, zs_101_13, zs_101_14, zs_101_16, zs_101_19, zs_101_22, zs_101_23, zs_101_24, zs_101_25, zs_101_28, zs_101_31, zs_101_33, zs_101_34, zs_101_35, zs_101_38, zs_101_41, zs_101_42, zs_101_45, zs_101_46, zs_101_48, zs_101_50, zs_101_53, zs_101_54, zs_101_57, zs_101_58, zs_101_61, zs_101_62, zs_101_63, zs_101_66, zs_101_67, zs_101_68, zs_101_71, zs_101_72, zs_101_75, zs_101_76, zs_101_77, zs_101_78, zs_101_81, zs_101_82, zs_101_83, zs_101_84, zs_101_87, zs_101_89, zs_101_90, zs_101_91, zs_101_92, zs_101_93, zs_101_94, zs_101_96, zs_101_99, zs_101_101, zs_101_102, zs_101_103, zs_101_106, zs_101_108, zs_101_111, zs_101_113, zs_101_114, zs_101_115, zs_101_116, zs_101_117, zs_101_118, zs_101_120, zs_101_123, zs_101_124, zs_101_127, zs_101_128, zs_101_129, za_32, za_46, zg_31_1, zg_31_16, zg_31_7, zrc_78, zrc_81, zli_0, zli_s, zlr_0, zlr_s, zls_0, zls_s, z1i_e, z2i_e, z1r_e, zir_e, ziir_e, z1v_e, z2v_e, zone_e, znil_e, zsp_0, zsp_s, zlz_0, zlz_1, zlz_2, zlz_3, zlz_4, zswp_0, zswp_s, true_and, and_true, implies_true, true_or, or_true, Int.reduceEq, Int.reduceLT, Int.reduceLE, Int.reduceNeg, not_true_eq_false, not_false_eq_true, false_implies, true_implies, zr_e, zwr_o, zwr_s, Nat.reduceEqDiff]
  refine m_isType hI.1 ht (fun a b => ?_) (fun a => ?_)
  · have hk : 0 ≤ σ 32 t ∧ σ 32 t ≤ 2 := hI.1.kind t a (by omega)
    simp only [zs_101_0, zs_101_1, zs_101_2, zs_101_5, zs_101_8, zs_101_9, zs_101_12, zs_101_13, zs_101_14, zs_101_16, zs_101_19, zs_101_22, zs_101_23, zs_101_24, zs_101_25, zs_101_28, zs_101_31, zs_101_33, zs_101_34, zs_101_35, zs_101_38, zs_101_41, zs_101_42, zs_101_45, zs_101_46, zs_101_48, zs_101_50, zs_101_53, zs_101_54, zs_101_57, zs_101_58, zs_101_61, zs_101_62, zs_101_63, zs_101_66, zs_101_67, zs_101_68, zs_101_71, zs_101_72, zs_101_75, zs_101_76, zs_101_77, zs_101_78, zs_101_81, zs_101_82, zs_101_83, zs_101_84, zs_101_87, zs_101_89, zs_101_90, zs_101_91, zs_101_92, zs_101_93, zs_101_94, zs_101_96, zs_101_99, zs_101_101, zs_101_102, zs_101_103, zs_101_106, zs_101_108, zs_101_111, zs_101_113, zs_101_114, zs_101_115, zs_101_116, zs_101_117, zs_101_118, zs_101_120, zs_101_123, zs_101_124, zs_101_127, zs_101_128, zs_101_129, za_32, za_46, zg_31_1, zg_31_16, zg_31_7, zrc_78, zrc_81, zli_0, zli_s, zlr_0, zlr_s, zls_0, zls_s, z1i_e, z2i_e, z1r_e, zir_e, ziir_e, z1v_e, z2v_e, zone_e, znil_e, zsp_0, zsp_s, zlz_0, zlz_1, zlz_2, zlz_3, zlz_4, zswp_0, zswp_s, true_and, and_true, implies_true, true_or, or_true, Int.reduceEq, Int.reduceLT, Int.reduceLE, Int.reduceNeg, not_true_eq_false, not_false_eq_true, false_implies, true_implies, zr_e, zwr_o, zwr_s, Nat.reduceEqDiff]
    refine ⟨by omega, fun d => hbad (by omega), fun d => ?_⟩
    refine m_in hn zr_0 ⟨by decide, by decide⟩ (fun n0 n1 => ?_) (fun n0 => ?_)
    · have how : σ 46 (10 * t + n) = -4 ∨ (0 ≤ σ 46 (10 * t + n) ∧ σ 46 (10 * t + n) < σ 31 7) := hI.1.ow (10 * t + n) (by omega) (by omega)
      simp only [zs_101_0, zs_101_1, zs_101_2, zs_101_5, zs_101_8, zs_101_9, zs_101_12, zs_101_13, zs_101_14, zs_101_16, zs_101_19, zs_101_22, zs_101_23, zs_101_24, zs_101_25, zs_101_28, zs_101_31, zs_101_33, zs_101_34, zs_101_35, zs_101_38, zs_101_41, zs_101_42, zs_101_45, zs_101_46, zs_101_48, zs_101_50, zs_101_53, zs_101_54, zs_101_57, zs_101_58, zs_101_61, zs_101_62, zs_101_63, zs_101_66, zs_101_67, zs_101_68, zs_101_71, zs_101_72, zs_101_75, zs_101_76, zs_101_77, zs_101_78, zs_101_81, zs_101_82, zs_101_83, zs_101_84, zs_101_87, zs_101_89, zs_101_90, zs_101_91, zs_101_92, zs_101_93, zs_101_94, zs_101_96, zs_101_99, zs_101_101, zs_101_102, zs_101_103, zs_101_106, zs_101_108, zs_101_111, zs_101_113, zs_101_114, zs_101_115, zs_101_116, zs_101_117, zs_101_118, zs_101_120, zs_101_123, zs_101_124, zs_101_127, zs_101_128, zs_101_129, za_32, za_46, zg_31_1, zg_31_16, zg_31_7, zrc_78, zrc_81, zli_0, zli_s, zlr_0, zlr_s, zls_0, zls_s, z1i_e, z2i_e, z1r_e, zir_e, ziir_e, z1v_e, z2v_e, zone_e, znil_e, zsp_0, zsp_s, zlz_0, zlz_1, zlz_2, zlz_3, zlz_4, zswp_0, zswp_s, true_and, and_true, implies_true, true_or, or_true, Int.reduceEq, Int.reduceLT, Int.reduceLE, Int.reduceNeg, not_true_eq_false, not_false_eq_true, false_implies, true_implies, zr_e, zwr_o, zwr_s, Nat.reduceEqDiff]
      refine m_in hs' zr_0 ⟨by decide, by decide⟩ (fun s0 s1 => ?_) (fun s0 => ?_)
      · simp only [zs_101_0, zs_101_1, zs_101_2, zs_101_5, zs_101_8, zs_101_9, zs_101_12, zs_101_13, zs_101_14, zs_101_16, zs_101_19, zs_101_22, zs_101_23, zs_101_24, zs_101_25, zs_101_28, zs_101_31, zs_101_33, zs_101_34, zs_101_35, zs_101_38, zs_101_41, zs_101_42, zs_101_45, zs_101_46, zs_101_48, zs_101_50, zs_101_53, zs_101_54, zs_101_57, zs_101_58, zs_101_61, zs_101_62, zs_101_63, zs_101_66, zs_101_67, zs_101_68, zs_101_71, zs_101_72, zs_101_75, zs_101_76, zs_101_77, zs_101_78, zs_101_81, zs_101_82, zs_101_83, zs_101_84, zs_101_87, zs_101_89, zs_101_90, zs_101_91, zs_101_92, zs_101_93, zs_101_94, zs_101_96, zs_101_99, zs_101_101, zs_101_102, zs_101_103, zs_101_106, zs_101_108, zs_101_111, zs_101_113, zs_101_114, zs_101_115, zs_101_116, zs_101_117, zs_101_118, zs_101_120, zs_101_123, zs_101_124, zs_101_127, zs_101_128, zs_101_129, za_32, za_46, zg_31_1, zg_31_16, zg_31_7, zrc_78, zrc_81, zli_0, zli_s, zlr_0, zlr_s, zls_0, zls_s, z1i_e, z2i_e, z1r_e, zir_e, ziir_e, z1v_e, z2v_e, zone_e, znil_e, zsp_0, zsp_s, zlz_0, zlz_1, zlz_2, zlz_3, zlz_4, zswp_0, zswp_s, true_and, and_true, implies_true, true_or, or_true, Int.reduceEq, Int.reduceLT, Int.reduceLE, Int.reduceNeg, not_true_eq_false, not_false_eq_true, false_implies, true_implies, zr_e, zwr_o, zwr_s, Nat.reduceEqDiff]
        refine m_in hr zr_0 ⟨by decide, by decide⟩ (fun r0 r1 => ?_) (fun r0 => ?_)
        · have good : ((s = 0 ∧ (σ 32 t = 2 ∨ σ 32 t = 1)) ∨ (s = 4 ∧ ¬ σ 32 t = 2) ∨ s = 1 ∨ s = 2 ∨ s = 3) → (0 < t ∧ t < σ 31 0 ∧ 0 ≤ n ∧ n < 10 ∧ ((s = 0 ∧ (σ 32 t = 2 ∨ σ 32 t = 1)) ∨ (s = 4 ∧ ¬ σ 32 t = 2) ∨ s = 1 ∨ s = 2 ∨ s = 3) ∧ 0 ≤ r ∧ r ≤ 3) := fun z => ⟨d, b, n0, by omega, z, r0, r1⟩
          have tail : ((s = 0 ∧ (σ 32 t = 2 ∨ σ 32 t = 1)) ∨ (s = 4 ∧ ¬ σ 32 t = 2) ∨ s = 1 ∨ s = 2 ∨ s = 3) → (0 ≤ 10 * t + n ∧ 10 * t + n < 160 ∧ (-2147483648 ≤ σ 46 (10 * t + n) ∧ σ 46 (10 * t + n) < 2147483648) ∧ (σ 46 (10 * t + n) = -4 → (-2147483648 ≤ σ 31 7 ∧ σ 31 7 < 2147483648) ∧ (¬ σ 31 7 = 60 → zM 81 zF [.inr 31, .inl t, .inl n, .inl s, .inl r] σ (fun x σ' => Q (σ' 31 7 - 1) σ')) ∧ (σ 31 7 = 60 → Q (-3) σ)) ∧ (¬ σ 46 (10 * t + n) = -4 → Q (-2) σ)) := by
            intro z
            refine ⟨by omega, by omega, by omega, fun i => ⟨by omega, fun j => ?_, fun j => hfull (good z) i (by omega)⟩, fun i => hno (good z) i⟩
            refine m_addMember a (by omega) n0 (by omega) (by omega) (by omega) ?_
            have hz : zmm [38, 39, 40, 41, 46] [7, 19] σ (zwr (zwr (zwr (zwr (zwr (zwr (zwr σ 38 (σ 31 7) t) 39 (σ 31 7) n) 40 (σ 31 7) s) 41 (σ 31 7) r) 46 (10 * t + n) (σ 31 7)) 31 7 (σ 31 7 + 1)) 31 19 0) := zmm_wf (zmm_wf (zmm_wr (zmm_wr (zmm_wr (zmm_wr (zmm_wr zmm_rf (by decide) (by decide)) (by decide) (by decide)) (by decide) (by decide)) (by decide) (by decide)) (by decide) (by decide)) (by decide)) (by decide)
            have eb := bM_mem (σ := σ) (t := t) (n := n) (s := s) (r := r)
            have er : zwr (zwr (zwr (zwr (zwr (zwr (zwr σ 38 (σ 31 7) t) 39 (σ 31 7) n) 40 (σ 31 7) s) 41 (σ 31 7) r) 46 (10 * t + n) (σ 31 7)) 31 7 (σ 31 7 + 1)) 31 19 0 31 7 - 1 = σ 31 7 := by simp [zwr]
            have e19 : zwr (zwr (zwr (zwr (zwr (zwr (zwr σ 38 (σ 31 7) t) 39 (σ 31 7) n) 40 (σ 31 7) s) 41 (σ 31 7) r) 46 (10 * t + n) (σ 31 7)) 31 7 (σ 31 7 + 1)) 31 19 0 31 19 = 0 := by simp [zwr]
            have e39 : ∀ j, zwr (zwr (zwr (zwr (zwr (zwr (zwr σ 38 (σ 31 7) t) 39 (σ 31 7) n) 40 (σ 31 7) s) 41 (σ 31 7) r) 46 (10 * t + n) (σ 31 7)) 31 7 (σ 31 7 + 1)) 31 19 0 39 j = if j = σ 31 7 then n else σ 39 j := fun j => by simp [zwr]
            have e46 : ∀ j, zwr (zwr (zwr (zwr (zwr (zwr (zwr σ 38 (σ 31 7) t) 39 (σ 31 7) n) 40 (σ 31 7) s) 41 (σ 31 7) r) 46 (10 * t + n) (σ 31 7)) 31 7 (σ 31 7 + 1)) 31 19 0 46 j = if j = 10 * t + n then σ 31 7 else σ 46 j := fun j => by simp [zwr]
            rw [er]
            generalize zwr (zwr (zwr (zwr (zwr (zwr (zwr σ 38 (σ 31 7) t) 39 (σ 31 7) n) 40 (σ 31 7) s) 41 (σ 31 7) r) 46 (10 * t + n) (σ 31 7)) 31 7 (σ 31 7 + 1)) 31 19 0 = σ' at *
            have hl : mL σ σ' := mL_mm hz (by decide)
            refine hok (good z) i (by omega) σ' (zN_mm hz (by decide)) (IM_stale hI (by rw [eb]; exact Bd_mem hI.1 a (show t < σ 31 0 from b) n0 (by omega) s0 s1 r0 r1 (show σ 31 7 < 60 by omega) i) e19 hl ?_) hl eb
            intro t' n' t0 t1 m0 m1 hne
            rw [e46] at hne ⊢
            rw [e39]
            by_cases ex : 10 * t' + n' = 10 * t + n
            · rw [if_pos ex, if_pos rfl]
              clear hbad hno hfull hok good
              omega
            · rw [if_neg ex] at hne ⊢
              have ho2 : σ 46 (10 * t' + n') = -4 ∨ (0 ≤ σ 46 (10 * t' + n') ∧ σ 46 (10 * t' + n') < σ 31 7) := hI.1.ow (10 * t' + n') (by omega) (by omega)
              rw [if_neg (by clear hbad hno hfull hok good; omega)]
              exact hI.names t' n' t0 t1 m0 m1 hne
          simp only [zs_101_0, zs_101_1, zs_101_2, zs_101_5, zs_101_8, zs_101_9, zs_101_12, zs_101_13, zs_101_14, zs_101_16, zs_101_19, zs_101_22, zs_101_23, zs_101_24, zs_101_25, zs_101_28, zs_101_31, zs_101_33, zs_101_34, zs_101_35, zs_101_38, zs_101_41, zs_101_42, zs_101_45, zs_101_46, zs_101_48, zs_101_50, zs_101_53, zs_101_54, zs_101_57, zs_101_58, zs_101_61, zs_101_62, zs_101_63, zs_101_66, zs_101_67, zs_101_68, zs_101_71, zs_101_72, zs_101_75, zs_101_76, zs_101_77, zs_101_78, zs_101_81, zs_101_82, zs_101_83, zs_101_84, zs_101_87, zs_101_89, zs_101_90, zs_101_91, zs_101_92, zs_101_93, zs_101_94, zs_101_96, zs_101_99, zs_101_101, zs_101_102, zs_101_103, zs_101_106, zs_101_108, zs_101_111, zs_101_113, zs_101_114, zs_101_115, zs_101_116, zs_101_117, zs_101_118, zs_101_120, zs_101_123, zs_101_124, zs_101_127, zs_101_128, zs_101_129, za_32, za_46, zg_31_1, zg_31_16, zg_31_7, zrc_78, zrc_81, zli_0, zli_s, zlr_0, zlr_s, zls_0, zls_s, z1i_e, z2i_e, z1r_e, zir_e, ziir_e, z1v_e, z2v_e, zone_e, znil_e, zsp_0, zsp_s, zlz_0, zlz_1, zlz_2, zlz_3, zlz_4, zswp_0, zswp_s, true_and, and_true, implies_true, true_or, or_true, Int.reduceEq, Int.reduceLT, Int.reduceLE, Int.reduceNeg, not_true_eq_false, not_false_eq_true, false_implies, true_implies, zr_e, zwr_o, zwr_s, Nat.reduceEqDiff]
          refine ⟨hs, fun e => ⟨hs, fun g => tail (by omega), fun g => ⟨a, by omega, by omega, fun i => tail (by omega), fun i => hbad (by omega)⟩⟩, fun e => ⟨a, by omega, by omega, fun g => hbad (by omega), fun g => ⟨hs, fun i => tail (by omega), fun i => False.elim (by omega)⟩⟩⟩
        · simp only [zs_101_0, zs_101_1, zs_101_2, zs_101_5, zs_101_8, zs_101_9, zs_101_12, zs_101_13, zs_101_14, zs_101_16, zs_101_19, zs_101_22, zs_101_23, zs_101_24, zs_101_25, zs_101_28, zs_101_31, zs_101_33, zs_101_34, zs_101_35, zs_101_38, zs_101_41, zs_101_42, zs_101_45, zs_101_46, zs_101_48, zs_101_50, zs_101_53, zs_101_54, zs_101_57, zs_101_58, zs_101_61, zs_101_62, zs_101_63, zs_101_66, zs_101_67, zs_101_68, zs_101_71, zs_101_72, zs_101_75, zs_101_76, zs_101_77, zs_101_78, zs_101_81, zs_101_82, zs_101_83, zs_101_84, zs_101_87, zs_101_89, zs_101_90, zs_101_91, zs_101_92, zs_101_93, zs_101_94, zs_101_96, zs_101_99, zs_101_101, zs_101_102, zs_101_103, zs_101_106, zs_101_108, zs_101_111, zs_101_113, zs_101_114, zs_101_115, zs_101_116, zs_101_117, zs_101_118, zs_101_120, zs_101_123, zs_101_124, zs_101_127, zs_101_128, zs_101_129, za_32, za_46, zg_31_1, zg_31_16, zg_31_7, zrc_78, zrc_81, zli_0, zli_s, zlr_0, zlr_s, zls_0, zls_s, z1i_e, z2i_e, z1r_e, zir_e, ziir_e, z1v_e, z2v_e, zone_e, znil_e, zsp_0, zsp_s, zlz_0, zlz_1, zlz_2, zlz_3, zlz_4, zswp_0, zswp_s, true_and, and_true, implies_true, true_or, or_true, Int.reduceEq, Int.reduceLT, Int.reduceLE, Int.reduceNeg, not_true_eq_false, not_false_eq_true, false_implies, true_implies, zr_e, zwr_o, zwr_s, Nat.reduceEqDiff]
          exact hbad (by omega)
      · simp only [zs_101_0, zs_101_1, zs_101_2, zs_101_5, zs_101_8, zs_101_9, zs_101_12, zs_101_13, zs_101_14, zs_101_16, zs_101_19, zs_101_22, zs_101_23, zs_101_24, zs_101_25, zs_101_28, zs_101_31, zs_101_33, zs_101_34, zs_101_35, zs_101_38, zs_101_41, zs_101_42, zs_101_45, zs_101_46, zs_101_48, zs_101_50, zs_101_53, zs_101_54, zs_101_57, zs_101_58, zs_101_61, zs_101_62, zs_101_63, zs_101_66, zs_101_67, zs_101_68, zs_101_71, zs_101_72, zs_101_75, zs_101_76, zs_101_77, zs_101_78, zs_101_81, zs_101_82, zs_101_83, zs_101_84, zs_101_87, zs_101_89, zs_101_90, zs_101_91, zs_101_92, zs_101_93, zs_101_94, zs_101_96, zs_101_99, zs_101_101, zs_101_102, zs_101_103, zs_101_106, zs_101_108, zs_101_111, zs_101_113, zs_101_114, zs_101_115, zs_101_116, zs_101_117, zs_101_118, zs_101_120, zs_101_123, zs_101_124, zs_101_127, zs_101_128, zs_101_129, za_32, za_46, zg_31_1, zg_31_16, zg_31_7, zrc_78, zrc_81, zli_0, zli_s, zlr_0, zlr_s, zls_0, zls_s, z1i_e, z2i_e, z1r_e, zir_e, ziir_e, z1v_e, z2v_e, zone_e, znil_e, zsp_0, zsp_s, zlz_0, zlz_1, zlz_2, zlz_3, zlz_4, zswp_0, zswp_s, true_and, and_true, implies_true, true_or, or_true, Int.reduceEq, Int.reduceLT, Int.reduceLE, Int.reduceNeg, not_true_eq_false, not_false_eq_true, false_implies, true_implies, zr_e, zwr_o, zwr_s, Nat.reduceEqDiff]
        exact hbad (by omega)
    · simp only [zs_101_0, zs_101_1, zs_101_2, zs_101_5, zs_101_8, zs_101_9, zs_101_12, zs_101_13, zs_101_14, zs_101_16, zs_101_19, zs_101_22, zs_101_23, zs_101_24, zs_101_25, zs_101_28, zs_101_31, zs_101_33, zs_101_34, zs_101_35, zs_101_38, zs_101_41, zs_101_42, zs_101_45, zs_101_46, zs_101_48, zs_101_50, zs_101_53, zs_101_54, zs_101_57, zs_101_58, zs_101_61, zs_101_62, zs_101_63, zs_101_66, zs_101_67, zs_101_68, zs_101_71, zs_101_72, zs_101_75, zs_101_76, zs_101_77, zs_101_78, zs_101_81, zs_101_82, zs_101_83, zs_101_84, zs_101_87, zs_101_89, zs_101_90, zs_101_91, zs_101_92, zs_101_93, zs_101_94, zs_101_96, zs_101_99, zs_101_101, zs_101_102, zs_101_103, zs_101_106, zs_101_108, zs_101_111, zs_101_113, zs_101_114, zs_101_115, zs_101_116, zs_101_117, zs_101_118, zs_101_120, zs_101_123, zs_101_124, zs_101_127, zs_101_128, zs_101_129, za_32, za_46, zg_31_1, zg_31_16, zg_31_7, zrc_78, zrc_81, zli_0, zli_s, zlr_0, zlr_s, zls_0, zls_s, z1i_e, z2i_e, z1r_e, zir_e, ziir_e, z1v_e, z2v_e, zone_e, znil_e, zsp_0, zsp_s, zlz_0, zlz_1, zlz_2, zlz_3, zlz_4, zswp_0, zswp_s, true_and, and_true, implies_true, true_or, or_true, Int.reduceEq, Int.reduceLT, Int.reduceLE, Int.reduceNeg, not_true_eq_false, not_false_eq_true, false_implies, true_implies, zr_e, zwr_o, zwr_s, Nat.reduceEqDiff]
      exact hbad (by omega)
  · simp only [zs_101_0, zs_101_1, zs_101_2, zs_101_5, zs_101_8, zs_101_9, zs_101_12, zs_101_13, zs_101_14, zs_101_16, zs_101_19, zs_101_22, zs_101_23, zs_101_24, zs_101_25, zs_101_28, zs_101_31, zs_101_33, zs_101_34, zs_101_35, zs_101_38, zs_101_41, zs_101_42, zs_101_45, zs_101_46, zs_101_48, zs_101_50, zs_101_53, zs_101_54, zs_101_57, zs_101_58, zs_101_61, zs_101_62, zs_101_63, zs_101_66, zs_101_67, zs_101_68, zs_101_71, zs_101_72, zs_101_75, zs_101_76, zs_101_77, zs_101_78, zs_101_81, zs_101_82, zs_101_83, zs_101_84, zs_101_87, zs_101_89, zs_101_90, zs_101_91, zs_101_92, zs_101_93, zs_101_94, zs_101_96, zs_101_99, zs_101_101, zs_101_102, zs_101_103, zs_101_106, zs_101_108, zs_101_111, zs_101_113, zs_101_114, zs_101_115, zs_101_116, zs_101_117, zs_101_118, zs_101_120, zs_101_123, zs_101_124, zs_101_127, zs_101_128, zs_101_129, za_32, za_46, zg_31_1, zg_31_16, zg_31_7, zrc_78, zrc_81, zli_0, zli_s, zlr_0, zlr_s, zls_0, zls_s, z1i_e, z2i_e, z1r_e, zir_e, ziir_e, z1v_e, z2v_e, zone_e, znil_e, zsp_0, zsp_s, zlz_0, zlz_1, zlz_2, zlz_3, zlz_4, zswp_0, zswp_s, true_and, and_true, implies_true, true_or, or_true, Int.reduceEq, Int.reduceLT, Int.reduceLE, Int.reduceNeg, not_true_eq_false, not_false_eq_true, false_implies, true_implies, zr_e, zwr_o, zwr_s, Nat.reduceEqDiff]
    exact hbad (by omega)
set_option maxRecDepth 100000 in
theorem mp_does {m a k u n : Int} (hI : IM σ) (hm : zr m) (ha : zr a) (hk : zr k) (hu : zr u) (hn : zr n)
    (hbad : ¬ (0 ≤ m ∧ m < σ 31 7 ∧ ¬ σ 40 m = 0 ∧ -1000 ≤ a ∧ a ≤ 1000 ∧ gCall (bM σ) k u n) → Q (-1) σ)
    (hok : 0 ≤ m → m < σ 31 7 → ¬ σ 40 m = 0 → -1000 ≤ a → a ≤ 1000 → gCall (bM σ) k u n → ∀ σ', zN σ σ' → IM σ' → mL σ σ' → bM σ' = oDoes (bM σ) m a k u n → Q 1 σ') : zM 102 zF [.inr 31, .inl m, .inl a, .inl k, .inl u, .inl n] σ Q := by
  have hnn := hI.n
  have ec : gCall (bM σ) k u n ↔ (k = 0 ∨ ((k = 1 ∨ k = 2) ∧ 0 ≤ n ∧ n < 10) ∨ (k = 3 ∧ 0 ≤ n ∧ n < 10 ∧ 0 ≤ u ∧ u < σ 31 0 ∧ σ 32 u = 2) ∨ (k = 4 ∧ 0 ≤ n ∧ n < 10 ∧ 0 ≤ u ∧ u < σ 31 0)) := Iff.rfl
  rw [ec] at hbad hok
  have hk' := hk
  simp only [zr] at hk
  refine ze_102 200 ?_
  simp only [zs_102_0, zs_102_1, zs_102_2, zs_102_3, zs_102_6, zs_102_7, zs_102_8, zs_102_11, zs_102_14, zs_102_15, zs_102_18, zs_102_21, zs_102_24, zs_102_27, zs_102_28, zs_102_29, zs_102_30, zs_102_33, zs_102_36, zs_102_37, zs_102_40, zs_102_42, zs_102_43, zs_102_45, zs_102_48, zs_102_51, zs_102_52, zs_102_53, zs_102_56, zs_102_57, zs_102_59, zs_102_62, zs_102_65, zs_102_66, zs_102_67, zs_102_70, zs_102_71, zs_102_73, zs_102_76, zs_102_79, zs_102_80, zs_102_83, zs_102_84, zs_102_86, zs_102_88, zs_102_91, zs_102_92, zs_102_95, zs_102_96, zs_102_97, zs_102_100, zs_102_101, zs_102_102, zs_102_103, zs_102_106, zs_102_107, zs_102_108, zs_102_109, zs_102_110, zs_102_113, zs_102_114, zs_102_115, zs_102_116, zs_102_117, zs_102_120, zs_102_121, zs_102_123, zs_102_124, zs_102_125, zs_102_128, zs_102_129, zs_102_131, zs_102_132, zs_102_133, za_40, za_42, za_43, za_44, za_45, zg_31_10, zg_31_12, zg_31_13, zg_31_14, zg_31_15, zg_31_7, zrc_78, zrc_79, zli_0, zli_s, zlr_0, zlr_s, zls_0, zls_s, z1i_e, z2i_e, z1r_e, zir_e, ziir_e, z1v_e, z2v_e, zone_e, znil_e, zsp_0, zsp_s, zlz_0, zlz_1, zlz_2, zlz_3, zlz_4, zswp_0, zswp_s, true_and, and_true, implies_true, true_or, or_true, Int.reduceEq, Int.reduceLT, Int.reduceLE, Int.reduceNeg, not_true_eq_false, not_false_eq_true, false_implies, true_implies, zr_e, zwr_o, zwr_s, Nat.reduceEqDiff]
  refine m_in hm zr_0 ⟨by omega, by omega⟩ (fun m0 m1 => ?_) (fun m0 => ?_)
  · have hb := mM hI.1 m0 (show m < 60 by omega)
    simp only [zs_102_0, zs_102_1, zs_102_2, zs_102_3, zs_102_6, zs_102_7, zs_102_8, zs_102_11, zs_102_14, zs_102_15, zs_102_18, zs_102_21, zs_102_24, zs_102_27, zs_102_28, zs_102_29, zs_102_30, zs_102_33, zs_102_36, zs_102_37, zs_102_40, zs_102_42, zs_102_43, zs_102_45, zs_102_48, zs_102_51, zs_102_52, zs_102_53, zs_102_56, zs_102_57, zs_102_59, zs_102_62, zs_102_65, zs_102_66, zs_102_67, zs_102_70, zs_102_71, zs_102_73, zs_102_76, zs_102_79, zs_102_80, zs_102_83, zs_102_84, zs_102_86, zs_102_88, zs_102_91, zs_102_92, zs_102_95, zs_102_96, zs_102_97, zs_102_100, zs_102_101, zs_102_102, zs_102_103, zs_102_106, zs_102_107, zs_102_108, zs_102_109, zs_102_110, zs_102_113, zs_102_114, zs_102_115, zs_102_116, zs_102_117, zs_102_120, zs_102_121, zs_102_123, zs_102_124, zs_102_125, zs_102_128, zs_102_129, zs_102_131, zs_102_132, zs_102_133, za_40, za_42, za_43, za_44, za_45, zg_31_10, zg_31_12, zg_31_13, zg_31_14, zg_31_15, zg_31_7, zrc_78, zrc_79, zli_0, zli_s, zlr_0, zlr_s, zls_0, zls_s, z1i_e, z2i_e, z1r_e, zir_e, ziir_e, z1v_e, z2v_e, zone_e, znil_e, zsp_0, zsp_s, zlz_0, zlz_1, zlz_2, zlz_3, zlz_4, zswp_0, zswp_s, true_and, and_true, implies_true, true_or, or_true, Int.reduceEq, Int.reduceLT, Int.reduceLE, Int.reduceNeg, not_true_eq_false, not_false_eq_true, false_implies, true_implies, zr_e, zwr_o, zwr_s, Nat.reduceEqDiff]
    refine m_in ha ⟨by decide, by decide⟩ ⟨by decide, by decide⟩ (fun a0 a1 => ?_) (fun a0 => ?_)
    · simp only [zs_102_0, zs_102_1, zs_102_2, zs_102_3, zs_102_6, zs_102_7, zs_102_8, zs_102_11, zs_102_14, zs_102_15, zs_102_18, zs_102_21, zs_102_24, zs_102_27, zs_102_28, zs_102_29, zs_102_30, zs_102_33, zs_102_36, zs_102_37, zs_102_40, zs_102_42, zs_102_43, zs_102_45, zs_102_48, zs_102_51, zs_102_52, zs_102_53, zs_102_56, zs_102_57, zs_102_59, zs_102_62, zs_102_65, zs_102_66, zs_102_67, zs_102_70, zs_102_71, zs_102_73, zs_102_76, zs_102_79, zs_102_80, zs_102_83, zs_102_84, zs_102_86, zs_102_88, zs_102_91, zs_102_92, zs_102_95, zs_102_96, zs_102_97, zs_102_100, zs_102_101, zs_102_102, zs_102_103, zs_102_106, zs_102_107, zs_102_108, zs_102_109, zs_102_110, zs_102_113, zs_102_114, zs_102_115, zs_102_116, zs_102_117, zs_102_120, zs_102_121, zs_102_123, zs_102_124, zs_102_125, zs_102_128, zs_102_129, zs_102_131, zs_102_132, zs_102_133, za_40, za_42, za_43, za_44, za_45, zg_31_10, zg_31_12, zg_31_13, zg_31_14, zg_31_15, zg_31_7, zrc_78, zrc_79, zli_0, zli_s, zlr_0, zlr_s, zls_0, zls_s, z1i_e, z2i_e, z1r_e, zir_e, ziir_e, z1v_e, z2v_e, zone_e, znil_e, zsp_0, zsp_s, zlz_0, zlz_1, zlz_2, zlz_3, zlz_4, zswp_0, zswp_s, true_and, and_true, implies_true, true_or, or_true, Int.reduceEq, Int.reduceLT, Int.reduceLE, Int.reduceNeg, not_true_eq_false, not_false_eq_true, false_implies, true_implies, zr_e, zwr_o, zwr_s, Nat.reduceEqDiff]
      refine m_in hk' zr_0 ⟨by decide, by decide⟩ (fun k0 k1 => ?_) (fun k0 => ?_)
      · have fin : (k = 0 ∨ ((k = 1 ∨ k = 2) ∧ 0 ≤ n ∧ n < 10) ∨ (k = 3 ∧ 0 ≤ n ∧ n < 10 ∧ 0 ≤ u ∧ u < σ 31 0 ∧ σ 32 u = 2) ∨ (k = 4 ∧ 0 ≤ n ∧ n < 10 ∧ 0 ≤ u ∧ u < σ 31 0)) → (0 ≤ m ∧ m < 60 ∧ (-2147483648 ≤ σ 40 m ∧ σ 40 m < 2147483648) ∧ (¬ σ 40 m = 0 → 0 ≤ m ∧ m < 60 ∧ 0 ≤ m ∧ m < 60 ∧ 0 ≤ m ∧ m < 60 ∧ 0 ≤ m ∧ m < 60 ∧ Q 1 (zwr (zwr (zwr (zwr σ 42 m a) 43 m k) 44 m u) 45 m n)) ∧ (σ 40 m = 0 → Q (-1) σ)) := by
          intro z
          refine ⟨m0, by omega, by omega, fun i => ⟨m0, by omega, m0, by omega, m0, by omega, m0, by omega, ?_⟩, fun i => hbad (fun w => w.2.2.1 i)⟩
          have hz : zmm [42, 43, 44, 45] [] σ (zwr (zwr (zwr (zwr σ 42 m a) 43 m k) 44 m u) 45 m n) := zmm_wr (zmm_wr (zmm_wr (zmm_wr zmm_rf (by decide) (by decide)) (by decide) (by decide)) (by decide) (by decide)) (by decide) (by decide)
          have eb := bM_does (σ := σ) (m := m) (a := a) (k := k) (u := u) (n := n)
          refine hok m0 (by omega) i a0 a1 z _ (zN_mm hz (by decide)) ?_ (mL_mm hz (by decide)) eb
          exact IM_keep hI hz (by decide) (by rw [eb]; exact Bd_does hI.1 m0 (show m < σ 31 7 by omega) a0 a1 k0 k1 hu hn (by omega) (fun w => ⟨by omega, show u < σ 31 0 by omega, show σ 32 u = 2 by omega⟩) (fun w => ⟨by omega, show u < σ 31 0 by omega⟩)) (by rw [eb]; rfl) (by rw [eb]; rfl) (by rw [eb]; rfl) (by rw [eb]; rfl) (by rw [eb]; rfl) (by rw [eb]; rfl) (by rw [eb]; rfl) (by rw [eb]; rfl)
        simp only [zs_102_0, zs_102_1, zs_102_2, zs_102_3, zs_102_6, zs_102_7, zs_102_8, zs_102_11, zs_102_14, zs_102_15, zs_102_18, zs_102_21, zs_102_24, zs_102_27, zs_102_28, zs_102_29, zs_102_30, zs_102_33, zs_102_36, zs_102_37, zs_102_40, zs_102_42, zs_102_43, zs_102_45, zs_102_48, zs_102_51, zs_102_52, zs_102_53, zs_102_56, zs_102_57, zs_102_59, zs_102_62, zs_102_65, zs_102_66, zs_102_67, zs_102_70, zs_102_71, zs_102_73, zs_102_76, zs_102_79, zs_102_80, zs_102_83, zs_102_84, zs_102_86, zs_102_88, zs_102_91, zs_102_92, zs_102_95, zs_102_96, zs_102_97, zs_102_100, zs_102_101, zs_102_102, zs_102_103, zs_102_106, zs_102_107, zs_102_108, zs_102_109, zs_102_110, zs_102_113, zs_102_114, zs_102_115, zs_102_116, zs_102_117, zs_102_120, zs_102_121, zs_102_123, zs_102_124, zs_102_125, zs_102_128, zs_102_129, zs_102_131, zs_102_132, zs_102_133, za_40, za_42, za_43, za_44, za_45, zg_31_10, zg_31_12, zg_31_13, zg_31_14, zg_31_15, zg_31_7, zrc_78, zrc_79, zli_0, zli_s, zlr_0, zlr_s, zls_0, zls_s, z1i_e, z2i_e, z1r_e, zir_e, ziir_e, z1v_e, z2v_e, zone_e, znil_e, zsp_0, zsp_s, zlz_0, zlz_1, zlz_2, zlz_3, zlz_4, zswp_0, zswp_s, true_and, and_true, implies_true, true_or, or_true, Int.reduceEq, Int.reduceLT, Int.reduceLE, Int.reduceNeg, not_true_eq_false, not_false_eq_true, false_implies, true_implies, zr_e, zwr_o, zwr_s, Nat.reduceEqDiff]
        refine ⟨hk, fun e0 => ⟨hk, fun e3 => ⟨hk, fun e4 => fin (Or.inl e0), fun e4 => False.elim (by omega)⟩, fun e3 => False.elim (by omega)⟩, fun e0 => ?_⟩
        refine m_in hn zr_0 ⟨by decide, by decide⟩ (fun n0 n1 => ?_) (fun n0 => ?_)
        · simp only [zs_102_0, zs_102_1, zs_102_2, zs_102_3, zs_102_6, zs_102_7, zs_102_8, zs_102_11, zs_102_14, zs_102_15, zs_102_18, zs_102_21, zs_102_24, zs_102_27, zs_102_28, zs_102_29, zs_102_30, zs_102_33, zs_102_36, zs_102_37, zs_102_40, zs_102_42, zs_102_43, zs_102_45, zs_102_48, zs_102_51, zs_102_52, zs_102_53, zs_102_56, zs_102_57, zs_102_59, zs_102_62, zs_102_65, zs_102_66, zs_102_67, zs_102_70, zs_102_71, zs_102_73, zs_102_76, zs_102_79, zs_102_80, zs_102_83, zs_102_84, zs_102_86, zs_102_88, zs_102_91, zs_102_92, zs_102_95, zs_102_96, zs_102_97, zs_102_100, zs_102_101, zs_102_102, zs_102_103, zs_102_106, zs_102_107, zs_102_108, zs_102_109, zs_102_110, zs_102_113, zs_102_114, zs_102_115, zs_102_116, zs_102_117, zs_102_120, zs_102_121, zs_102_123, zs_102_124, zs_102_125, zs_102_128, zs_102_129, zs_102_131, zs_102_132, zs_102_133, za_40, za_42, za_43, za_44, za_45, zg_31_10, zg_31_12, zg_31_13, zg_31_14, zg_31_15, zg_31_7, zrc_78, zrc_79, zli_0, zli_s, zlr_0, zlr_s, zls_0, zls_s, z1i_e, z2i_e, z1r_e, zir_e, ziir_e, z1v_e, z2v_e, zone_e, znil_e, zsp_0, zsp_s, zlz_0, zlz_1, zlz_2, zlz_3, zlz_4, zswp_0, zswp_s, true_and, and_true, implies_true, true_or, or_true, Int.reduceEq, Int.reduceLT, Int.reduceLE, Int.reduceNeg, not_true_eq_false, not_false_eq_true, false_implies, true_implies, zr_e, zwr_o, zwr_s, Nat.reduceEqDiff]
          refine ⟨hk, fun e3 => ⟨hk, fun e4 => fin (by omega), fun e4 => ?_⟩, fun e3 => ?_⟩
          · refine m_isType hI.1 hu (fun u0 u1 => ?_) (fun u0 => ?_)
            · simp only [zs_102_0, zs_102_1, zs_102_2, zs_102_3, zs_102_6, zs_102_7, zs_102_8, zs_102_11, zs_102_14, zs_102_15, zs_102_18, zs_102_21, zs_102_24, zs_102_27, zs_102_28, zs_102_29, zs_102_30, zs_102_33, zs_102_36, zs_102_37, zs_102_40, zs_102_42, zs_102_43, zs_102_45, zs_102_48, zs_102_51, zs_102_52, zs_102_53, zs_102_56, zs_102_57, zs_102_59, zs_102_62, zs_102_65, zs_102_66, zs_102_67, zs_102_70, zs_102_71, zs_102_73, zs_102_76, zs_102_79, zs_102_80, zs_102_83, zs_102_84, zs_102_86, zs_102_88, zs_102_91, zs_102_92, zs_102_95, zs_102_96, zs_102_97, zs_102_100, zs_102_101, zs_102_102, zs_102_103, zs_102_106, zs_102_107, zs_102_108, zs_102_109, zs_102_110, zs_102_113, zs_102_114, zs_102_115, zs_102_116, zs_102_117, zs_102_120, zs_102_121, zs_102_123, zs_102_124, zs_102_125, zs_102_128, zs_102_129, zs_102_131, zs_102_132, zs_102_133, za_40, za_42, za_43, za_44, za_45, zg_31_10, zg_31_12, zg_31_13, zg_31_14, zg_31_15, zg_31_7, zrc_78, zrc_79, zli_0, zli_s, zlr_0, zlr_s, zls_0, zls_s, z1i_e, z2i_e, z1r_e, zir_e, ziir_e, z1v_e, z2v_e, zone_e, znil_e, zsp_0, zsp_s, zlz_0, zlz_1, zlz_2, zlz_3, zlz_4, zswp_0, zswp_s, true_and, and_true, implies_true, true_or, or_true, Int.reduceEq, Int.reduceLT, Int.reduceLE, Int.reduceNeg, not_true_eq_false, not_false_eq_true, false_implies, true_implies, zr_e, zwr_o, zwr_s, Nat.reduceEqDiff]
              exact fin (by omega)
            · simp only [zs_102_0, zs_102_1, zs_102_2, zs_102_3, zs_102_6, zs_102_7, zs_102_8, zs_102_11, zs_102_14, zs_102_15, zs_102_18, zs_102_21, zs_102_24, zs_102_27, zs_102_28, zs_102_29, zs_102_30, zs_102_33, zs_102_36, zs_102_37, zs_102_40, zs_102_42, zs_102_43, zs_102_45, zs_102_48, zs_102_51, zs_102_52, zs_102_53, zs_102_56, zs_102_57, zs_102_59, zs_102_62, zs_102_65, zs_102_66, zs_102_67, zs_102_70, zs_102_71, zs_102_73, zs_102_76, zs_102_79, zs_102_80, zs_102_83, zs_102_84, zs_102_86, zs_102_88, zs_102_91, zs_102_92, zs_102_95, zs_102_96, zs_102_97, zs_102_100, zs_102_101, zs_102_102, zs_102_103, zs_102_106, zs_102_107, zs_102_108, zs_102_109, zs_102_110, zs_102_113, zs_102_114, zs_102_115, zs_102_116, zs_102_117, zs_102_120, zs_102_121, zs_102_123, zs_102_124, zs_102_125, zs_102_128, zs_102_129, zs_102_131, zs_102_132, zs_102_133, za_40, za_42, za_43, za_44, za_45, zg_31_10, zg_31_12, zg_31_13, zg_31_14, zg_31_15, zg_31_7, zrc_78, zrc_79, zli_0, zli_s, zlr_0, zlr_s, zls_0, zls_s, z1i_e, z2i_e, z1r_e, zir_e, ziir_e, z1v_e, z2v_e, zone_e, znil_e, zsp_0, zsp_s, zlz_0, zlz_1, zlz_2, zlz_3, zlz_4, zswp_0, zswp_s, true_and, and_true, implies_true, true_or, or_true, Int.reduceEq, Int.reduceLT, Int.reduceLE, Int.reduceNeg, not_true_eq_false, not_false_eq_true, false_implies, true_implies, zr_e, zwr_o, zwr_s, Nat.reduceEqDiff]
              exact hbad (by omega)
          · refine m_isFace hI.1 hu (fun u0 u1 u2 => ?_) (fun u0 => ?_)
            · simp only [zs_102_0, zs_102_1, zs_102_2, zs_102_3, zs_102_6, zs_102_7, zs_102_8, zs_102_11, zs_102_14, zs_102_15, zs_102_18, zs_102_21, zs_102_24, zs_102_27, zs_102_28, zs_102_29, zs_102_30, zs_102_33, zs_102_36, zs_102_37, zs_102_40, zs_102_42, zs_102_43, zs_102_45, zs_102_48, zs_102_51, zs_102_52, zs_102_53, zs_102_56, zs_102_57, zs_102_59, zs_102_62, zs_102_65, zs_102_66, zs_102_67, zs_102_70, zs_102_71, zs_102_73, zs_102_76, zs_102_79, zs_102_80, zs_102_83, zs_102_84, zs_102_86, zs_102_88, zs_102_91, zs_102_92, zs_102_95, zs_102_96, zs_102_97, zs_102_100, zs_102_101, zs_102_102, zs_102_103, zs_102_106, zs_102_107, zs_102_108, zs_102_109, zs_102_110, zs_102_113, zs_102_114, zs_102_115, zs_102_116, zs_102_117, zs_102_120, zs_102_121, zs_102_123, zs_102_124, zs_102_125, zs_102_128, zs_102_129, zs_102_131, zs_102_132, zs_102_133, za_40, za_42, za_43, za_44, za_45, zg_31_10, zg_31_12, zg_31_13, zg_31_14, zg_31_15, zg_31_7, zrc_78, zrc_79, zli_0, zli_s, zlr_0, zlr_s, zls_0, zls_s, z1i_e, z2i_e, z1r_e, zir_e, ziir_e, z1v_e, z2v_e, zone_e, znil_e, zsp_0, zsp_s, zlz_0, zlz_1, zlz_2, zlz_3, zlz_4, zswp_0, zswp_s, true_and, and_true, implies_true, true_or, or_true, Int.reduceEq, Int.reduceLT, Int.reduceLE, Int.reduceNeg, not_true_eq_false, not_false_eq_true, false_implies, true_implies, zr_e, zwr_o, zwr_s, Nat.reduceEqDiff]
              exact ⟨hk, fun e4 => fin (by omega), fun e4 => False.elim (by omega)⟩
            · simp only [zs_102_0, zs_102_1, zs_102_2, zs_102_3, zs_102_6, zs_102_7, zs_102_8, zs_102_11, zs_102_14, zs_102_15, zs_102_18, zs_102_21, zs_102_24, zs_102_27, zs_102_28, zs_102_29, zs_102_30, zs_102_33, zs_102_36, zs_102_37, zs_102_40, zs_102_42, zs_102_43, zs_102_45, zs_102_48, zs_102_51, zs_102_52, zs_102_53, zs_102_56, zs_102_57, zs_102_59, zs_102_62, zs_102_65, zs_102_66, zs_102_67, zs_102_70, zs_102_71, zs_102_73, zs_102_76, zs_102_79, zs_102_80, zs_102_83, zs_102_84, zs_102_86, zs_102_88, zs_102_91, zs_102_92, zs_102_95, zs_102_96, zs_102_97, zs_102_100, zs_102_101, zs_102_102, zs_102_103, zs_102_106, zs_102_107, zs_102_108, zs_102_109, zs_102_110, zs_102_113, zs_102_114, zs_102_115, zs_102_116, zs_102_117, zs_102_120, zs_102_121, zs_102_123, zs_102_124, zs_102_125, zs_102_128, zs_102_129, zs_102_131, zs_102_132, zs_102_133, za_40, za_42, za_43, za_44, za_45, zg_31_10, zg_31_12, zg_31_13, zg_31_14, zg_31_15, zg_31_7, zrc_78, zrc_79, zli_0, zli_s, zlr_0, zlr_s, zls_0, zls_s, z1i_e, z2i_e, z1r_e, zir_e, ziir_e, z1v_e, z2v_e, zone_e, znil_e, zsp_0, zsp_s, zlz_0, zlz_1, zlz_2, zlz_3, zlz_4, zswp_0, zswp_s, true_and, and_true, implies_true, true_or, or_true, Int.reduceEq, Int.reduceLT, Int.reduceLE, Int.reduceNeg, not_true_eq_false, not_false_eq_true, false_implies, true_implies, zr_e, zwr_o, zwr_s, Nat.reduceEqDiff]
              refine hbad (fun z => ?_)
              rcases z.2.2.2.2.2 with z | z | z | z
              · omega
              · omega
              · exact u0 z.2.2.2.1 z.2.2.2.2.1 z.2.2.2.2.2
              · omega
        · simp only [zs_102_0, zs_102_1, zs_102_2, zs_102_3, zs_102_6, zs_102_7, zs_102_8, zs_102_11, zs_102_14, zs_102_15, zs_102_18, zs_102_21, zs_102_24, zs_102_27, zs_102_28, zs_102_29, zs_102_30, zs_102_33, zs_102_36, zs_102_37, zs_102_40, zs_102_42, zs_102_43, zs_102_45, zs_102_48, zs_102_51, zs_102_52, zs_102_53, zs_102_56, zs_102_57, zs_102_59, zs_102_62, zs_102_65, zs_102_66, zs_102_67, zs_102_70, zs_102_71, zs_102_73, zs_102_76, zs_102_79, zs_102_80, zs_102_83, zs_102_84, zs_102_86, zs_102_88, zs_102_91, zs_102_92, zs_102_95, zs_102_96, zs_102_97, zs_102_100, zs_102_101, zs_102_102, zs_102_103, zs_102_106, zs_102_107, zs_102_108, zs_102_109, zs_102_110, zs_102_113, zs_102_114, zs_102_115, zs_102_116, zs_102_117, zs_102_120, zs_102_121, zs_102_123, zs_102_124, zs_102_125, zs_102_128, zs_102_129, zs_102_131, zs_102_132, zs_102_133, za_40, za_42, za_43, za_44, za_45, zg_31_10, zg_31_12, zg_31_13, zg_31_14, zg_31_15, zg_31_7, zrc_78, zrc_79, zli_0, zli_s, zlr_0, zlr_s, zls_0, zls_s, z1i_e, z2i_e, z1r_e, zir_e, ziir_e, z1v_e, z2v_e, zone_e, znil_e, zsp_0, zsp_s, zlz_0, zlz_1, zlz_2, zlz_3, zlz_4, zswp_0, zswp_s, true_and, and_true, implies_true, true_or, or_true, Int.reduceEq, Int.reduceLT, Int.reduceLE, Int.reduceNeg, not_true_eq_false, not_false_eq_true, false_implies, true_implies, zr_e, zwr_o, zwr_s, Nat.reduceEqDiff]
          exact hbad (by omega)
      · simp only [zs_102_0, zs_102_1, zs_102_2, zs_102_3, zs_102_6, zs_102_7, zs_102_8, zs_102_11, zs_102_14, zs_102_15, zs_102_18, zs_102_21, zs_102_24, zs_102_27, zs_102_28, zs_102_29, zs_102_30, zs_102_33, zs_102_36, zs_102_37, zs_102_40, zs_102_42, zs_102_43, zs_102_45, zs_102_48, zs_102_51, zs_102_52, zs_102_53, zs_102_56, zs_102_57, zs_102_59, zs_102_62, zs_102_65, zs_102_66, zs_102_67, zs_102_70, zs_102_71, zs_102_73, zs_102_76, zs_102_79, zs_102_80, zs_102_83, zs_102_84, zs_102_86, zs_102_88, zs_102_91, zs_102_92, zs_102_95, zs_102_96, zs_102_97, zs_102_100, zs_102_101, zs_102_102, zs_102_103, zs_102_106, zs_102_107, zs_102_108, zs_102_109, zs_102_110, zs_102_113, zs_102_114, zs_102_115, zs_102_116, zs_102_117, zs_102_120, zs_102_121, zs_102_123, zs_102_124, zs_102_125, zs_102_128, zs_102_129, zs_102_131, zs_102_132, zs_102_133, za_40, za_42, za_43, za_44, za_45, zg_31_10, zg_31_12, zg_31_13, zg_31_14, zg_31_15, zg_31_7, zrc_78, zrc_79, zli_0, zli_s, zlr_0, zlr_s, zls_0, zls_s, z1i_e, z2i_e, z1r_e, zir_e, ziir_e, z1v_e, z2v_e, zone_e, znil_e, zsp_0, zsp_s, zlz_0, zlz_1, zlz_2, zlz_3, zlz_4, zswp_0, zswp_s, true_and, and_true, implies_true, true_or, or_true, Int.reduceEq, Int.reduceLT, Int.reduceLE, Int.reduceNeg, not_true_eq_false, not_false_eq_true, false_implies, true_implies, zr_e, zwr_o, zwr_s, Nat.reduceEqDiff]
        exact hbad (by omega)
    · simp only [zs_102_0, zs_102_1, zs_102_2, zs_102_3, zs_102_6, zs_102_7, zs_102_8, zs_102_11, zs_102_14, zs_102_15, zs_102_18, zs_102_21, zs_102_24, zs_102_27, zs_102_28, zs_102_29, zs_102_30, zs_102_33, zs_102_36, zs_102_37, zs_102_40, zs_102_42, zs_102_43, zs_102_45, zs_102_48, zs_102_51, zs_102_52, zs_102_53, zs_102_56, zs_102_57, zs_102_59, zs_102_62, zs_102_65, zs_102_66, zs_102_67, zs_102_70, zs_102_71, zs_102_73, zs_102_76, zs_102_79, zs_102_80, zs_102_83, zs_102_84, zs_102_86, zs_102_88, zs_102_91, zs_102_92, zs_102_95, zs_102_96, zs_102_97, zs_102_100, zs_102_101, zs_102_102, zs_102_103, zs_102_106, zs_102_107, zs_102_108, zs_102_109, zs_102_110, zs_102_113, zs_102_114, zs_102_115, zs_102_116, zs_102_117, zs_102_120, zs_102_121, zs_102_123, zs_102_124, zs_102_125, zs_102_128, zs_102_129, zs_102_131, zs_102_132, zs_102_133, za_40, za_42, za_43, za_44, za_45, zg_31_10, zg_31_12, zg_31_13, zg_31_14, zg_31_15, zg_31_7, zrc_78, zrc_79, zli_0, zli_s, zlr_0, zlr_s, zls_0, zls_s, z1i_e, z2i_e, z1r_e, zir_e, ziir_e, z1v_e, z2v_e, zone_e, znil_e, zsp_0, zsp_s, zlz_0, zlz_1, zlz_2, zlz_3, zlz_4, zswp_0, zswp_s, true_and, and_true, implies_true, true_or, or_true, Int.reduceEq, Int.reduceLT, Int.reduceLE, Int.reduceNeg, not_true_eq_false, not_false_eq_true, false_implies, true_implies, zr_e, zwr_o, zwr_s, Nat.reduceEqDiff]
      exact hbad (by omega)
  · simp only [zs_102_0, zs_102_1, zs_102_2, zs_102_3, zs_102_6, zs_102_7, zs_102_8, zs_102_11, zs_102_14, zs_102_15, zs_102_18, zs_102_21, zs_102_24, zs_102_27, zs_102_28, zs_102_29, zs_102_30, zs_102_33, zs_102_36, zs_102_37, zs_102_40, zs_102_42, zs_102_43, zs_102_45, zs_102_48, zs_102_51, zs_102_52, zs_102_53, zs_102_56, zs_102_57, zs_102_59, zs_102_62, zs_102_65, zs_102_66, zs_102_67, zs_102_70, zs_102_71, zs_102_73, zs_102_76, zs_102_79, zs_102_80, zs_102_83, zs_102_84, zs_102_86, zs_102_88, zs_102_91, zs_102_92, zs_102_95, zs_102_96, zs_102_97, zs_102_100, zs_102_101, zs_102_102, zs_102_103, zs_102_106, zs_102_107, zs_102_108, zs_102_109, zs_102_110, zs_102_113, zs_102_114, zs_102_115, zs_102_116, zs_102_117, zs_102_120, zs_102_121, zs_102_123, zs_102_124, zs_102_125, zs_102_128, zs_102_129, zs_102_131, zs_102_132, zs_102_133, za_40, za_42, za_43, za_44, za_45, zg_31_10, zg_31_12, zg_31_13, zg_31_14, zg_31_15, zg_31_7, zrc_78, zrc_79, zli_0, zli_s, zlr_0, zlr_s, zls_0, zls_s, z1i_e, z2i_e, z1r_e, zir_e, ziir_e, z1v_e, z2v_e, zone_e, znil_e, zsp_0, zsp_s, zlz_0, zlz_1, zlz_2, zlz_3, zlz_4, zswp_0, zswp_s, true_and, and_true, implies_true, true_or, or_true, Int.reduceEq, Int.reduceLT, Int.reduceLE, Int.reduceNeg, not_true_eq_false, not_false_eq_true, false_implies, true_implies, zr_e, zwr_o, zwr_s, Nat.reduceEqDiff]
    exact hbad (by omega)
set_option maxRecDepth 100000 in
theorem mp_constant {t c v : Int} (hI : IM σ) (ht : zr t) (hc : zr c) (hv : zr v) (hbad : ¬ (0 ≤ t ∧ t < σ 31 0 ∧ 0 ≤ c ∧ c < 4) → Q (-1) σ)
    (hno : 0 ≤ t → t < σ 31 0 → 0 ≤ c → c < 4 → ¬ σ 47 (4 * t + c) = 0 → Q (-2) σ)
    (hok : 0 ≤ t → t < σ 31 0 → 0 ≤ c → c < 4 → σ 47 (4 * t + c) = 0 → ∀ σ', zN σ σ' → IM σ' → mL σ σ' → bM σ' = oCon (bM σ) t c v → Q 1 σ') : zM 103 zF [.inr 31, .inl t, .inl c, .inl v] σ Q := by
  have hnn := hI.n
  refine ze_103 100 ?_
  simp only [zs_103_0, zs_103_1, zs_103_2, zs_103_5, zs_103_8, zs_103_9, zs_103_10, zs_103_11, zs_103_14, zs_103_17, zs_103_18, zs_103_19, zs_103_20, zs_103_23, zs_103_24, zs_103_25, zs_103_26, zs_103_27, zs_103_28, zs_103_29, zs_103_32, zs_103_34, zs_103_35, zs_103_36, zs_103_39, zs_103_40, zs_103_41, zs_103_42, zs_103_43, zs_103_44, zs_103_45, zs_103_46, zs_103_47, zs_103_50, zs_103_51, zs_103_52, zs_103_53, zs_103_54, zs_103_55, zs_103_56, zs_103_57, zs_103_58, za_47, za_48, zg_31_17, zg_31_18, zrc_78, zli_0, zli_s, zlr_0, zlr_s, zls_0, zls_s, z1i_e, z2i_e, z1r_e, zir_e, ziir_e, z1v_e, z2v_e, zone_e, znil_e, zsp_0, zsp_s, zlz_0, zlz_1, zlz_2, zlz_3, zlz_4, zswp_0, zswp_s, true_and, and_true, implies_true, true_or, or_true, Int.reduceEq, Int.reduceLT, Int.reduceLE, Int.reduceNeg, not_true_eq_false, not_false_eq_true, false_implies, true_implies, zr_e, zwr_o, zwr_s, Nat.reduceEqDiff]
  refine m_isType hI.1 ht (fun b1 b2 => ?_) (fun b => ?_)
  · simp only [zs_103_0, zs_103_1, zs_103_2, zs_103_5, zs_103_8, zs_103_9, zs_103_10, zs_103_11, zs_103_14, zs_103_17, zs_103_18, zs_103_19, zs_103_20, zs_103_23, zs_103_24, zs_103_25, zs_103_26, zs_103_27, zs_103_28, zs_103_29, zs_103_32, zs_103_34, zs_103_35, zs_103_36, zs_103_39, zs_103_40, zs_103_41, zs_103_42, zs_103_43, zs_103_44, zs_103_45, zs_103_46, zs_103_47, zs_103_50, zs_103_51, zs_103_52, zs_103_53, zs_103_54, zs_103_55, zs_103_56, zs_103_57, zs_103_58, za_47, za_48, zg_31_17, zg_31_18, zrc_78, zli_0, zli_s, zlr_0, zlr_s, zls_0, zls_s, z1i_e, z2i_e, z1r_e, zir_e, ziir_e, z1v_e, z2v_e, zone_e, znil_e, zsp_0, zsp_s, zlz_0, zlz_1, zlz_2, zlz_3, zlz_4, zswp_0, zswp_s, true_and, and_true, implies_true, true_or, or_true, Int.reduceEq, Int.reduceLT, Int.reduceLE, Int.reduceNeg, not_true_eq_false, not_false_eq_true, false_implies, true_implies, zr_e, zwr_o, zwr_s, Nat.reduceEqDiff]
    refine m_in hc zr_0 ⟨by decide, by decide⟩ (fun c0 c1 => ?_) (fun c0 => ?_)
    · have hco : (σ 47 (4 * t + c) = 0 ∨ σ 47 (4 * t + c) = 1) ∧ _ := hI.1.co (4 * t + c) (by omega) (by omega)
      have hco := hco.1
      simp only [zs_103_0, zs_103_1, zs_103_2, zs_103_5, zs_103_8, zs_103_9, zs_103_10, zs_103_11, zs_103_14, zs_103_17, zs_103_18, zs_103_19, zs_103_20, zs_103_23, zs_103_24, zs_103_25, zs_103_26, zs_103_27, zs_103_28, zs_103_29, zs_103_32, zs_103_34, zs_103_35, zs_103_36, zs_103_39, zs_103_40, zs_103_41, zs_103_42, zs_103_43, zs_103_44, zs_103_45, zs_103_46, zs_103_47, zs_103_50, zs_103_51, zs_103_52, zs_103_53, zs_103_54, zs_103_55, zs_103_56, zs_103_57, zs_103_58, za_47, za_48, zg_31_17, zg_31_18, zrc_78, zli_0, zli_s, zlr_0, zlr_s, zls_0, zls_s, z1i_e, z2i_e, z1r_e, zir_e, ziir_e, z1v_e, z2v_e, zone_e, znil_e, zsp_0, zsp_s, zlz_0, zlz_1, zlz_2, zlz_3, zlz_4, zswp_0, zswp_s, true_and, and_true, implies_true, true_or, or_true, Int.reduceEq, Int.reduceLT, Int.reduceLE, Int.reduceNeg, not_true_eq_false, not_false_eq_true, false_implies, true_implies, zr_e, zwr_o, zwr_s, Nat.reduceEqDiff]
      refine ⟨by omega, by omega, by omega, fun d => ⟨by omega, by omega, by omega, by omega, ?_⟩, fun d => hno b1 b2 c0 (by omega) d⟩
      have hz : zmm [47, 48] [] σ (zwr (zwr σ 47 (4 * t + c) 1) 48 (4 * t + c) v) := zmm_wr (zmm_wr zmm_rf (by decide) (by decide)) (by decide) (by decide)
      have eb := bM_con (σ := σ) (t := t) (c := c) (v := v)
      refine hok b1 b2 c0 (by omega) d _ (zN_mm hz (by decide)) ?_ (mL_mm hz (by decide)) eb
      exact IM_keep hI hz (by decide) (by rw [eb]; exact Bd_con hI.1 hv) (by rw [eb]; rfl) (by rw [eb]; rfl) (by rw [eb]; rfl) (by rw [eb]; rfl) (by rw [eb]; rfl) (by rw [eb]; rfl) (by rw [eb]; rfl) (by rw [eb]; rfl)
    · simp only [zs_103_0, zs_103_1, zs_103_2, zs_103_5, zs_103_8, zs_103_9, zs_103_10, zs_103_11, zs_103_14, zs_103_17, zs_103_18, zs_103_19, zs_103_20, zs_103_23, zs_103_24, zs_103_25, zs_103_26, zs_103_27, zs_103_28, zs_103_29, zs_103_32, zs_103_34, zs_103_35, zs_103_36, zs_103_39, zs_103_40, zs_103_41, zs_103_42, zs_103_43, zs_103_44, zs_103_45, zs_103_46, zs_103_47, zs_103_50, zs_103_51, zs_103_52, zs_103_53, zs_103_54, zs_103_55, zs_103_56, zs_103_57, zs_103_58, za_47, za_48, zg_31_17, zg_31_18, zrc_78, zli_0, zli_s, zlr_0, zlr_s, zls_0, zls_s, z1i_e, z2i_e, z1r_e, zir_e, ziir_e, z1v_e, z2v_e, zone_e, znil_e, zsp_0, zsp_s, zlz_0, zlz_1, zlz_2, zlz_3, zlz_4, zswp_0, zswp_s, true_and, and_true, implies_true, true_or, or_true, Int.reduceEq, Int.reduceLT, Int.reduceLE, Int.reduceNeg, not_true_eq_false, not_false_eq_true, false_implies, true_implies, zr_e, zwr_o, zwr_s, Nat.reduceEqDiff]
      exact hbad (by omega)
  · simp only [zs_103_0, zs_103_1, zs_103_2, zs_103_5, zs_103_8, zs_103_9, zs_103_10, zs_103_11, zs_103_14, zs_103_17, zs_103_18, zs_103_19, zs_103_20, zs_103_23, zs_103_24, zs_103_25, zs_103_26, zs_103_27, zs_103_28, zs_103_29, zs_103_32, zs_103_34, zs_103_35, zs_103_36, zs_103_39, zs_103_40, zs_103_41, zs_103_42, zs_103_43, zs_103_44, zs_103_45, zs_103_46, zs_103_47, zs_103_50, zs_103_51, zs_103_52, zs_103_53, zs_103_54, zs_103_55, zs_103_56, zs_103_57, zs_103_58, za_47, za_48, zg_31_17, zg_31_18, zrc_78, zli_0, zli_s, zlr_0, zlr_s, zls_0, zls_s, z1i_e, z2i_e, z1r_e, zir_e, ziir_e, z1v_e, z2v_e, zone_e, znil_e, zsp_0, zsp_s, zlz_0, zlz_1, zlz_2, zlz_3, zlz_4, zswp_0, zswp_s, true_and, and_true, implies_true, true_or, or_true, Int.reduceEq, Int.reduceLT, Int.reduceLE, Int.reduceNeg, not_true_eq_false, not_false_eq_true, false_implies, true_implies, zr_e, zwr_o, zwr_s, Nat.reduceEqDiff]
    exact hbad (by omega)
end MP
