section M8
variable {σ : zS} {Q : Int → zS → Prop}
set_option maxRecDepth 100000 in
theorem m_nameFaults {t n : Int} {F : List (Int × Int)} (hB : Bd (bM σ)) (h0 : 0 ≤ t) (h1 : t < 16) (h2 : 0 ≤ n) (h3 : n < 10) (hr : mOK σ n t) (hw : zr (σ 31 29)) (hF : (F.length : Int) < 9000) (hf : fMs σ F)
    (h : ∀ σ', zmm [] [30, 31, 32] σ σ' → fMs σ' (F ++ gFi (bM σ) (rM σ n t) t n) → Q 0 σ') : zM 93 zF [.inr 31, .inl t, .inl n] σ Q := by
  have hnn : 1 ≤ σ 31 0 ∧ σ 31 0 ≤ 16 ∧ 3 ≤ σ 31 7 ∧ σ 31 7 ≤ 60 := hB.n
  have hk : 0 ≤ σ 32 t ∧ σ 32 t ≤ 2 := hB.kind t h0 h1
  have hlen : ((zl (fun i => σ 52 (16 * (10 * t + n) + i)) (σ 53 (10 * t + n))).length : Int) = σ 53 (10 * t + n) := zl_len hr.1
  have hlen : ((rM σ n t).length : Int) = σ 53 (10 * t + n) := hlen
  have hc2 := hr.2.1
  have h60 : ∀ m, m ∈ rM σ n t → 0 ≤ m ∧ m < 60 := fun m hm => by have := hr.2.2.2 m hm; have h5 : m < σ 31 7 := this.2.1; omega
  have hrz := gRX_r (B := bM σ) (rM σ n t) 0 (-4) 0 h60 (Or.inl rfl)
  have hfz := gFs_r (B := bM σ) (l0 := rM σ n t) (rM σ n t) h60
  have gi : ∀ c : Int, gIf 0 c = [] := fun c => rfl
  unfold gFi at h
  generalize hR : gRX (bM σ) (rM σ n t) 0 (-4) 0 = R at *
  have last : ∀ σ1 P, zmm [] [30, 31, 32] σ σ1 → fMs σ1 (F ++ P) → (P.length : Int) ≤ 10 → P = gIf (if 2 ≤ ((rM σ n t).length : Int) ∧ gFs (bM σ) (rM σ n t) (rM σ n t) = -4 then 6 else 0) n ++ gIf (if R = -6 then 7 else 0) n →
      (¬ (σ 32 t = 0 ∧ R = -7) → Q 0 σ1) ∧ (σ 32 t = 0 → R = -7 → zM 91 zF [.inr 31, .inl 8, .inl n] σ1 fun _ σ' => Q 0 σ') := by
    intro σ1 P hs hf1 hP eP
    subst eP
    refine ⟨fun a => h σ1 hs ?_, fun a b => ?_⟩
    · rw [if_neg (c := R = -7 ∧ bM σ 0 t = 0) (fun z => a ⟨z.2, z.1⟩), gi, List.append_nil]
      exact hf1
    · refine m_fault (by rw [hs.2 29 (by decide)]; exact hw) (by rw [List.length_append]; omega) hf1 ?_
      intro σ2 hs2 hf2
      refine h σ2 (zmm_tr hs hs2 (by decide) (by decide)) ?_
      rw [if_pos (c := R = -7 ∧ bM σ 0 t = 0) ⟨b, a⟩]
      simp only [List.append_assoc] at hf2 ⊢
      exact hf2
  have tail : ∀ σ1 P, zmm [] [30, 31, 32] σ σ1 → fMs σ1 (F ++ P) → (P.length : Int) ≤ 10 → P = gIf (if 2 ≤ ((rM σ n t).length : Int) ∧ gFs (bM σ) (rM σ n t) (rM σ n t) = -4 then 6 else 0) n ++ gIf (if R = -6 then 7 else 0) n →
      0 ≤ t ∧ t < 16 ∧ (-2147483648 ≤ σ1 32 t ∧ σ1 32 t < 2147483648) ∧ (¬ σ1 32 t = 0 → Q 0 σ1) ∧ (σ1 32 t = 0 → (-2147483648 ≤ R ∧ R < 2147483648) ∧ (¬ R = -7 → Q 0 σ1) ∧ (R = -7 → zM 91 zF [.inr 31, .inl 8, .inl n] σ1 fun _ σ' => Q 0 σ')) := by
    intro σ1 P hs hf1 hP eP
    have hl := last σ1 P hs hf1 hP eP
    rw [hs.1 32 (by decide) (by decide)]
    exact ⟨h0, h1, by omega, fun a => hl.1 (fun z => a z.1), fun a => ⟨by omega, fun b => hl.1 (fun z => b z.2), fun b => hl.2 a b⟩⟩
  have br : ∀ σ1, zmm [] [30, 31, 32] σ σ1 → fMs σ1 (F ++ gIf (if 2 ≤ ((rM σ n t).length : Int) ∧ gFs (bM σ) (rM σ n t) (rM σ n t) = -4 then 6 else 0) n) →
      (-2147483648 ≤ R ∧ R < 2147483648) ∧ (¬ R = -6 → 0 ≤ t ∧ t < 16 ∧ (-2147483648 ≤ σ1 32 t ∧ σ1 32 t < 2147483648) ∧ (¬ σ1 32 t = 0 → Q 0 σ1) ∧ (σ1 32 t = 0 → (-2147483648 ≤ R ∧ R < 2147483648) ∧ (¬ R = -7 → Q 0 σ1) ∧ (R = -7 → zM 91 zF [.inr 31, .inl 8, .inl n] σ1 fun _ σ' => Q 0 σ'))) ∧
      (R = -6 → zM 91 zF [.inr 31, .inl 7, .inl n] σ1 fun _ σ1 => 0 ≤ t ∧ t < 16 ∧ (-2147483648 ≤ σ1 32 t ∧ σ1 32 t < 2147483648) ∧ (¬ σ1 32 t = 0 → Q 0 σ1) ∧ (σ1 32 t = 0 → (-2147483648 ≤ R ∧ R < 2147483648) ∧ (¬ R = -7 → Q 0 σ1) ∧ (R = -7 → zM 91 zF [.inr 31, .inl 8, .inl n] σ1 fun _ σ' => Q 0 σ'))) := by
    intro σ1 hs hf1
    have hl := gIf_len (if 2 ≤ ((rM σ n t).length : Int) ∧ gFs (bM σ) (rM σ n t) (rM σ n t) = -4 then 6 else 0) n
    refine ⟨by omega, fun a => tail σ1 _ hs hf1 (by omega) (by rw [if_neg a, gi, List.append_nil]), fun a => ?_⟩
    refine m_fault (by rw [hs.2 29 (by decide)]; exact hw) (by rw [List.length_append]; omega) hf1 ?_
    intro σ2 hs2 hf2
    refine tail σ2 _ (zmm_tr hs hs2 (by decide) (by decide)) (by rw [List.append_assoc] at hf2; exact hf2) ?_ (by rw [if_pos a]; rfl)
    rw [List.length_append]
    simp only [List.length_singleton]
    omega
  refine ze_93 200 ?_
  simp only [zs_93_0, zs_93_2, zs_93_3, zs_93_4, zs_93_5, zs_93_6, zs_93_7, zs_93_8, zs_93_9, zs_93_10, zs_93_13, zs_93_15, zs_93_16, zs_93_19, zs_93_20, zs_93_21, zs_93_22, zs_93_25, zs_93_26, zs_93_27, zs_93_30, zs_93_32, zs_93_35, zs_93_36, zs_93_38, zs_93_39, zs_93_42, zs_93_44, zs_93_46, zs_93_49, zs_93_50, zs_93_52, zs_93_53, zs_93_56, zs_93_57, zs_93_60, zs_93_61, zs_93_62, zs_93_65, zs_93_67, zs_93_69, zs_93_72, zs_93_73, zs_93_75, zs_93_76, zs_93_79, za_32, za_53, zg_31_1, zg_31_24, zrc_88, zrc_90, zrc_91, zli_0, zli_s, zlr_0, zlr_s, zls_0, zls_s, z1i_e, z2i_e, z1r_e, zir_e, ziir_e, z1v_e, z2v_e, zone_e, znil_e, zsp_0, zsp_s, zlz_0, zlz_1, zlz_2, zlz_3, zlz_4, zswp_0, zswp_s, true_and, and_true, implies_true, true_or, or_true, Int.reduceEq, Int.reduceLT, Int.reduceLE, Int.reduceNeg, not_true_eq_false, not_false_eq_true, false_implies, true_implies, zr_e, zwr_o, zwr_s, Nat.reduceEqDiff]
  refine m_runsOf hB h0 h1 h2 h3 hr ?_
  rw [hR]
  refine ⟨by omega, by omega, by omega, fun a => ?_, fun a => ?_⟩
  · refine br σ zmm_rf ?_
    rw [if_neg (fun z => by have := z.1; omega), gi, List.append_nil]
    exact hf
  · refine m_server hB h0 h1 h2 h3 hr ?_
    refine ⟨by omega, fun b => ?_, fun b => ?_⟩
    · refine br σ zmm_rf ?_
      rw [if_neg (fun z => b z.2), gi, List.append_nil]
      exact hf
    · refine m_fault hw (by omega) hf ?_
      intro σ2 hs2 hf2
      refine br σ2 hs2 ?_
      rw [if_pos ⟨by omega, b⟩]
      exact hf2
end M8
