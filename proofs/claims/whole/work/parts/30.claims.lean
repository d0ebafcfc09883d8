theorem allM_bd {τ : zM} (hV : V1 τ) {p : Int} (hp : 0 ≤ p ∧ p < 4) : 0 ≤ allM τ p ∧ allM τ p ≤ 594 := by
  obtain ⟨v0, v1, v2, v3⟩ := hV
  have h := sumI_bd (f := fun t => τ 61 (29 + 6 * p + t)) (B := 99) (τ 61 1).toNat 0 (fun t h1 h2 => v2 p t hp.1 hp.2 h1 (by omega))
  unfold allM
  omega
/-- what the reference's numbers keep to -/
def V2 (τ : zM) : Prop := V1 τ ∧ (0 < lowA τ ∧ lowA τ ≤ 200000) ∧ (∀ b w : Int, 0 ≤ b → b < 4 → 0 ≤ w → w < 4 → 0 ≤ worM τ b w ∧ worM τ b w ≤ 118800000)
set_option maxRecDepth 20000 in
theorem m_en_loop {τ : zM} {p : Int} (hV2 : V2 τ) (hp : 0 ≤ p ∧ p < 4) : ∀ (n : Nat) (j : Int), 0 ≤ j → j + n = τ 61 0 → zres 135 C_X7_envied_2 [vR 60, vI p, vI j] [] τ = some (some (vI (fstI (fun q => decide (¬ allM τ p = 0 ∧ worM τ p p < worM τ p q)) j n)), τ) := by
  obtain ⟨hV, hL, hB⟩ := hV2
  have hV0 := hV
  obtain ⟨v0, v1, v2, v3⟩ := hV0
  have hal := allM_bd hV hp
  have hbp := hB p p hp.1 hp.2 hp.1 hp.2
  intro n
  induction n with
  | zero =>
    intro j hj hn
    simp (disch := first | exact z_tt rfl | assumption | omega | (simp (disch := omega) only [zU_eq, zU_nc, zU_nj]; omega)) only [↓r_iconst, ↓L_ist_n2, ↓L_ist_n2L, ↓L_ild_n2, ↓L_ald_n0, ↓F_g60_0, ↓A_g3, ↓A_g4, ↓A_g5, ↓A_g6, ↓A_g7, ↓A_g9, ↓A_g10, ↓A_g12, ↓A_g13, ↓A_g15, ↓A_g16, ↓A_g19, ↓A_g20, ↓A_g21, ↓A_g22, ↓A_g23, ↓A_g25, ↓A_g26, ↓A_g28, ↓A_g29, ↓A_g31, ↓A_g32, ↓A_g34, ↓A_g36, ↓A_g37, ↓A_g38, ↓A_g39, ↓A_g41, ↓A_g42, ↓A_g43, ↓A_g44, ↓A_g61, ↓A_g62, ↓A_g63, ↓A_g65, ↓A_g66, ↓A_g67, ↓A_g68, ↓A_g69, ↓A_g70, ↓A_gN, ↓A_gT, ↓A_gC, ↓r_icge_t, ↓r_icge_f, ↓J_X7_envied_42, ↓L_ild_n1, ↓I_X7_allOf_60, ↓r_ifeq_t, ↓r_ifeq_f, ↓J_X7_envied_36, ↓I_X7_worth_60, ↓r_ifgt_t, ↓r_ifgt_f, ↓r_lgt_t, ↓r_lgt_f, ↓L_iinc2, ↓r_goto, ↓J_X7_envied_2, ↓r_ireturn, ↓U_X7_envied_0, ↓U_X7_envied_2, ↓U_X7_envied_36, ↓U_X7_envied_42, ↓zthen_v, ↓zthen_0, zU_eq, zU_nc, zU_nj, fstI]
  | succ n ih =>
    intro j hj hn
    have hj4 : 0 ≤ j ∧ j < 4 := by omega
    have hbq := hB p j hp.1 hp.2 hj4.1 hj4.2
    have w1 := m_worth hV (by omega) hp hj4
    have w2 := m_worth hV (by omega) hp hp
    rw [U_X7_envied_2]
    by_cases h : allM τ p = 0
    · simp (disch := first | exact z_tt rfl | assumption | omega | (simp (disch := omega) only [zU_eq, zU_nc, zU_nj]; omega)) only [↓r_iconst, ↓L_ist_n2, ↓L_ist_n2L, ↓L_ild_n2, ↓L_ald_n0, ↓F_g60_0, ↓A_g3, ↓A_g4, ↓A_g5, ↓A_g6, ↓A_g7, ↓A_g9, ↓A_g10, ↓A_g12, ↓A_g13, ↓A_g15, ↓A_g16, ↓A_g19, ↓A_g20, ↓A_g21, ↓A_g22, ↓A_g23, ↓A_g25, ↓A_g26, ↓A_g28, ↓A_g29, ↓A_g31, ↓A_g32, ↓A_g34, ↓A_g36, ↓A_g37, ↓A_g38, ↓A_g39, ↓A_g41, ↓A_g42, ↓A_g43, ↓A_g44, ↓A_g61, ↓A_g62, ↓A_g63, ↓A_g65, ↓A_g66, ↓A_g67, ↓A_g68, ↓A_g69, ↓A_g70, ↓A_gN, ↓A_gT, ↓A_gC, ↓r_icge_t, ↓r_icge_f, ↓J_X7_envied_42, ↓L_ild_n1, ↓I_X7_allOf_60, ↓r_ifeq_t, ↓r_ifeq_f, ↓J_X7_envied_36, ↓I_X7_worth_60, ↓r_ifgt_t, ↓r_ifgt_f, ↓r_lgt_t, ↓r_lgt_f, ↓L_iinc2, ↓r_goto, ↓J_X7_envied_2, ↓r_ireturn, ↓U_X7_envied_0, ↓U_X7_envied_36, ↓U_X7_envied_42, ↓zthen_v, ↓zthen_0, zU_eq, zU_nc, zU_nj, m_allOf v1 hp]
      rw [ih (j + 1) (by omega) (by omega), fstI, if_neg (by simp [h])]
    · by_cases h2 : worM τ p p < worM τ p j
      · simp (disch := first | exact z_tt rfl | assumption | omega | (simp (disch := omega) only [zU_eq, zU_nc, zU_nj]; omega)) only [↓r_iconst, ↓L_ist_n2, ↓L_ist_n2L, ↓L_ild_n2, ↓L_ald_n0, ↓F_g60_0, ↓A_g3, ↓A_g4, ↓A_g5, ↓A_g6, ↓A_g7, ↓A_g9, ↓A_g10, ↓A_g12, ↓A_g13, ↓A_g15, ↓A_g16, ↓A_g19, ↓A_g20, ↓A_g21, ↓A_g22, ↓A_g23, ↓A_g25, ↓A_g26, ↓A_g28, ↓A_g29, ↓A_g31, ↓A_g32, ↓A_g34, ↓A_g36, ↓A_g37, ↓A_g38, ↓A_g39, ↓A_g41, ↓A_g42, ↓A_g43, ↓A_g44, ↓A_g61, ↓A_g62, ↓A_g63, ↓A_g65, ↓A_g66, ↓A_g67, ↓A_g68, ↓A_g69, ↓A_g70, ↓A_gN, ↓A_gT, ↓A_gC, ↓r_icge_t, ↓r_icge_f, ↓J_X7_envied_42, ↓L_ild_n1, ↓I_X7_allOf_60, ↓r_ifeq_t, ↓r_ifeq_f, ↓J_X7_envied_36, ↓I_X7_worth_60, ↓r_ifgt_t, ↓r_ifgt_f, ↓r_lgt_t, ↓r_lgt_f, ↓L_iinc2, ↓r_goto, ↓J_X7_envied_2, ↓r_ireturn, ↓U_X7_envied_0, ↓U_X7_envied_36, ↓U_X7_envied_42, ↓zthen_v, ↓zthen_0, zU_eq, zU_nc, zU_nj, m_allOf v1 hp, w1, w2]
        rw [fstI, if_pos (by simp [h, h2])]
      · simp (disch := first | exact z_tt rfl | assumption | omega | (simp (disch := omega) only [zU_eq, zU_nc, zU_nj]; omega)) only [↓r_iconst, ↓L_ist_n2, ↓L_ist_n2L, ↓L_ild_n2, ↓L_ald_n0, ↓F_g60_0, ↓A_g3, ↓A_g4, ↓A_g5, ↓A_g6, ↓A_g7, ↓A_g9, ↓A_g10, ↓A_g12, ↓A_g13, ↓A_g15, ↓A_g16, ↓A_g19, ↓A_g20, ↓A_g21, ↓A_g22, ↓A_g23, ↓A_g25, ↓A_g26, ↓A_g28, ↓A_g29, ↓A_g31, ↓A_g32, ↓A_g34, ↓A_g36, ↓A_g37, ↓A_g38, ↓A_g39, ↓A_g41, ↓A_g42, ↓A_g43, ↓A_g44, ↓A_g61, ↓A_g62, ↓A_g63, ↓A_g65, ↓A_g66, ↓A_g67, ↓A_g68, ↓A_g69, ↓A_g70, ↓A_gN, ↓A_gT, ↓A_gC, ↓r_icge_t, ↓r_icge_f, ↓J_X7_envied_42, ↓L_ild_n1, ↓I_X7_allOf_60, ↓r_ifeq_t, ↓r_ifeq_f, ↓J_X7_envied_36, ↓I_X7_worth_60, ↓r_ifgt_t, ↓r_ifgt_f, ↓r_lgt_t, ↓r_lgt_f, ↓L_iinc2, ↓r_goto, ↓J_X7_envied_2, ↓r_ireturn, ↓U_X7_envied_0, ↓U_X7_envied_36, ↓U_X7_envied_42, ↓zthen_v, ↓zthen_0, zU_eq, zU_nc, zU_nj, m_allOf v1 hp, w1, w2]
        rw [ih (j + 1) (by omega) (by omega), fstI, if_neg (by simp [h2])]
def enM (τ : zM) (p : Int) : Int := fstI (fun q => decide (¬ allM τ p = 0 ∧ worM τ p p < worM τ p q)) 0 (τ 61 0).toNat
set_option maxRecDepth 20000 in
theorem m_envied {τ : zM} {p : Int} (hV2 : V2 τ) (hp : 0 ≤ p ∧ p < 4) : zcall 135 [vR 60, vI p] τ = some (some (vI (enM τ p)), τ) := by
  have hV0 := hV2.1
  obtain ⟨v0, v1, v2, v3⟩ := hV0
  rw [S_X7_envied]
  simp (disch := first | exact z_tt rfl | assumption | omega | (simp (disch := omega) only [zU_eq, zU_nc, zU_nj]; omega)) only [↓r_iconst, ↓L_ist_n2, ↓L_ist_n2L, ↓L_ild_n2, ↓L_ald_n0, ↓F_g60_0, ↓A_g3, ↓A_g4, ↓A_g5, ↓A_g6, ↓A_g7, ↓A_g9, ↓A_g10, ↓A_g12, ↓A_g13, ↓A_g15, ↓A_g16, ↓A_g19, ↓A_g20, ↓A_g21, ↓A_g22, ↓A_g23, ↓A_g25, ↓A_g26, ↓A_g28, ↓A_g29, ↓A_g31, ↓A_g32, ↓A_g34, ↓A_g36, ↓A_g37, ↓A_g38, ↓A_g39, ↓A_g41, ↓A_g42, ↓A_g43, ↓A_g44, ↓A_g61, ↓A_g62, ↓A_g63, ↓A_g65, ↓A_g66, ↓A_g67, ↓A_g68, ↓A_g69, ↓A_g70, ↓A_gN, ↓A_gT, ↓A_gC, ↓r_icge_t, ↓r_icge_f, ↓J_X7_envied_42, ↓L_ild_n1, ↓I_X7_allOf_60, ↓r_ifeq_t, ↓r_ifeq_f, ↓J_X7_envied_36, ↓I_X7_worth_60, ↓r_ifgt_t, ↓r_ifgt_f, ↓r_lgt_t, ↓r_lgt_f, ↓L_iinc2, ↓r_goto, ↓J_X7_envied_2, ↓r_ireturn, ↓U_X7_envied_0, ↓U_X7_envied_36, ↓U_X7_envied_42, ↓zthen_v, ↓zthen_0, zU_eq, zU_nc, zU_nj]
  rw [m_en_loop hV2 hp (τ 61 0).toNat 0 (by omega) (by omega)]
  rfl
theorem enM_bd {τ : zM} (hV : V1 τ) (p : Int) : 0 ≤ enM τ p ∧ enM τ p ≤ τ 61 0 := by
  obtain ⟨v0, v1, -⟩ := hV
  have := fst_both (q := fun q => decide (¬ allM τ p = 0 ∧ worM τ p p < worM τ p q)) (τ 61 0).toNat 0 (by omega)
  unfold enM
  omega
theorem fwM_bd {τ : zM} (hV : V1 τ) (p : Int) : 0 ≤ fwM τ p ∧ fwM τ p ≤ τ 61 1 := by
  obtain ⟨v0, v1, -⟩ := hV
  have := fst_both (q := fun t => decide (τ 61 (5 + t) = -1 ∧ 0 < τ 61 (29 + 6 * p + t))) (τ 61 1).toNat 0 (by omega)
  unfold fwM
  omega
def claM (τ : zM) (p : Int) : Int := if allM τ p = 0 then 1 else if fwM τ p < τ 61 1 then 2 else if worM τ p p * τ 61 0 < allM τ p * lowA τ then 3 else if enM τ p < τ 61 0 then 4 else 0
set_option maxRecDepth 20000 in
theorem m_claimOf {τ : zM} {p : Int} (hV2 : V2 τ) (hp : 0 ≤ p ∧ p < 4) : zcall 136 [vR 60, vI p] τ = some (some (vI (claM τ p)), τ) := by
  have hV20 := hV2
  obtain ⟨hV, hL, hB⟩ := hV20
  have hV0 := hV
  obtain ⟨v0, v1, v2, v3⟩ := hV0
  have ha := allM_bd hV hp
  have hf := fwM_bd hV p
  have he := enM_bd hV p
  have hw := hB p p hp.1 hp.2 hp.1 hp.2
  have hm1 : 0 ≤ worM τ p p * τ 61 0 ∧ worM τ p p * τ 61 0 ≤ 475200000 := by
    have e1 := Int.mul_nonneg hw.1 (by omega : 0 ≤ τ 61 0)
    have e2 := Int.mul_le_mul hw.2 v0.2 (by omega) (by omega)
    omega
  have hm2 : 0 ≤ allM τ p * lowA τ ∧ allM τ p * lowA τ ≤ 118800000 := by
    have e1 := Int.mul_nonneg ha.1 (by omega : 0 ≤ lowA τ)
    have e2 := Int.mul_le_mul ha.2 hL.2 (by omega) (by omega)
    omega
  have w2 := m_worth hV (by omega) hp hp
  rw [S_X7_claimOf]
  unfold claM
  by_cases h1 : allM τ p = 0
  · rw [if_pos h1]
    simp (disch := first | exact z_tt rfl | assumption | omega | (simp (disch := omega) only [zU_eq, zU_nc, zU_nj]; omega)) only [↓L_ald_n0, ↓L_ild_n1, ↓I_X7_allOf_60, ↓r_ifne_t, ↓r_ifne_f, ↓J_X7_claimOf_10, ↓r_iconst, ↓r_ireturn, ↓I_X7_firstWanting_60, ↓F_g60_0, ↓A_g3, ↓A_g4, ↓A_g5, ↓A_g6, ↓A_g7, ↓A_g9, ↓A_g10, ↓A_g12, ↓A_g13, ↓A_g15, ↓A_g16, ↓A_g19, ↓A_g20, ↓A_g21, ↓A_g22, ↓A_g23, ↓A_g25, ↓A_g26, ↓A_g28, ↓A_g29, ↓A_g31, ↓A_g32, ↓A_g34, ↓A_g36, ↓A_g37, ↓A_g38, ↓A_g39, ↓A_g41, ↓A_g42, ↓A_g43, ↓A_g44, ↓A_g61, ↓A_g62, ↓A_g63, ↓A_g65, ↓A_g66, ↓A_g67, ↓A_g68, ↓A_g69, ↓A_g70, ↓A_gN, ↓A_gT, ↓A_gC, ↓r_icge_t, ↓r_icge_f, ↓J_X7_claimOf_26, ↓I_X7_worth_60, ↓r_i2l, ↓r_lmul, ↓I_X7_lowOfAll_60, ↓r_ifge_t, ↓r_ifge_f, ↓J_X7_claimOf_57, ↓r_lge_t, ↓r_lge_f, ↓I_X7_envied_60, ↓J_X7_claimOf_75, ↓r_goto, ↓J_X7_claimOf_76, ↓U_X7_claimOf_0, ↓U_X7_claimOf_10, ↓U_X7_claimOf_26, ↓U_X7_claimOf_57, ↓U_X7_claimOf_75, ↓U_X7_claimOf_76, ↓zthen_v, ↓zthen_0, zU_eq, zU_nc, zU_nj, m_allOf v1 hp]
  · rw [if_neg h1]
    by_cases h2 : fwM τ p < τ 61 1
    · rw [if_pos h2]
      simp (disch := first | exact z_tt rfl | assumption | omega | (simp (disch := omega) only [zU_eq, zU_nc, zU_nj]; omega)) only [↓L_ald_n0, ↓L_ild_n1, ↓I_X7_allOf_60, ↓r_ifne_t, ↓r_ifne_f, ↓J_X7_claimOf_10, ↓r_iconst, ↓r_ireturn, ↓I_X7_firstWanting_60, ↓F_g60_0, ↓A_g3, ↓A_g4, ↓A_g5, ↓A_g6, ↓A_g7, ↓A_g9, ↓A_g10, ↓A_g12, ↓A_g13, ↓A_g15, ↓A_g16, ↓A_g19, ↓A_g20, ↓A_g21, ↓A_g22, ↓A_g23, ↓A_g25, ↓A_g26, ↓A_g28, ↓A_g29, ↓A_g31, ↓A_g32, ↓A_g34, ↓A_g36, ↓A_g37, ↓A_g38, ↓A_g39, ↓A_g41, ↓A_g42, ↓A_g43, ↓A_g44, ↓A_g61, ↓A_g62, ↓A_g63, ↓A_g65, ↓A_g66, ↓A_g67, ↓A_g68, ↓A_g69, ↓A_g70, ↓A_gN, ↓A_gT, ↓A_gC, ↓r_icge_t, ↓r_icge_f, ↓J_X7_claimOf_26, ↓I_X7_worth_60, ↓r_i2l, ↓r_lmul, ↓I_X7_lowOfAll_60, ↓r_ifge_t, ↓r_ifge_f, ↓J_X7_claimOf_57, ↓r_lge_t, ↓r_lge_f, ↓I_X7_envied_60, ↓J_X7_claimOf_75, ↓r_goto, ↓J_X7_claimOf_76, ↓U_X7_claimOf_0, ↓U_X7_claimOf_10, ↓U_X7_claimOf_26, ↓U_X7_claimOf_57, ↓U_X7_claimOf_75, ↓U_X7_claimOf_76, ↓zthen_v, ↓zthen_0, zU_eq, zU_nc, zU_nj, m_allOf v1 hp, m_firstWanting hV hp]
    · rw [if_neg h2]
      by_cases h3 : worM τ p p * τ 61 0 < allM τ p * lowA τ
      · rw [if_pos h3]
        simp (disch := first | exact z_tt rfl | assumption | omega | (simp (disch := omega) only [zU_eq, zU_nc, zU_nj]; omega)) only [↓L_ald_n0, ↓L_ild_n1, ↓I_X7_allOf_60, ↓r_ifne_t, ↓r_ifne_f, ↓J_X7_claimOf_10, ↓r_iconst, ↓r_ireturn, ↓I_X7_firstWanting_60, ↓F_g60_0, ↓A_g3, ↓A_g4, ↓A_g5, ↓A_g6, ↓A_g7, ↓A_g9, ↓A_g10, ↓A_g12, ↓A_g13, ↓A_g15, ↓A_g16, ↓A_g19, ↓A_g20, ↓A_g21, ↓A_g22, ↓A_g23, ↓A_g25, ↓A_g26, ↓A_g28, ↓A_g29, ↓A_g31, ↓A_g32, ↓A_g34, ↓A_g36, ↓A_g37, ↓A_g38, ↓A_g39, ↓A_g41, ↓A_g42, ↓A_g43, ↓A_g44, ↓A_g61, ↓A_g62, ↓A_g63, ↓A_g65, ↓A_g66, ↓A_g67, ↓A_g68, ↓A_g69, ↓A_g70, ↓A_gN, ↓A_gT, ↓A_gC, ↓r_icge_t, ↓r_icge_f, ↓J_X7_claimOf_26, ↓I_X7_worth_60, ↓r_i2l, ↓r_lmul, ↓I_X7_lowOfAll_60, ↓r_ifge_t, ↓r_ifge_f, ↓J_X7_claimOf_57, ↓r_lge_t, ↓r_lge_f, ↓I_X7_envied_60, ↓J_X7_claimOf_75, ↓r_goto, ↓J_X7_claimOf_76, ↓U_X7_claimOf_0, ↓U_X7_claimOf_10, ↓U_X7_claimOf_26, ↓U_X7_claimOf_57, ↓U_X7_claimOf_75, ↓U_X7_claimOf_76, ↓zthen_v, ↓zthen_0, zU_eq, zU_nc, zU_nj, m_allOf v1 hp, m_firstWanting hV hp, w2, m_lowOfAll hV]
      · rw [if_neg h3]
        by_cases h4 : enM τ p < τ 61 0
        · rw [if_pos h4]
          simp (disch := first | exact z_tt rfl | assumption | omega | (simp (disch := omega) only [zU_eq, zU_nc, zU_nj]; omega)) only [↓L_ald_n0, ↓L_ild_n1, ↓I_X7_allOf_60, ↓r_ifne_t, ↓r_ifne_f, ↓J_X7_claimOf_10, ↓r_iconst, ↓r_ireturn, ↓I_X7_firstWanting_60, ↓F_g60_0, ↓A_g3, ↓A_g4, ↓A_g5, ↓A_g6, ↓A_g7, ↓A_g9, ↓A_g10, ↓A_g12, ↓A_g13, ↓A_g15, ↓A_g16, ↓A_g19, ↓A_g20, ↓A_g21, ↓A_g22, ↓A_g23, ↓A_g25, ↓A_g26, ↓A_g28, ↓A_g29, ↓A_g31, ↓A_g32, ↓A_g34, ↓A_g36, ↓A_g37, ↓A_g38, ↓A_g39, ↓A_g41, ↓A_g42, ↓A_g43, ↓A_g44, ↓A_g61, ↓A_g62, ↓A_g63, ↓A_g65, ↓A_g66, ↓A_g67, ↓A_g68, ↓A_g69, ↓A_g70, ↓A_gN, ↓A_gT, ↓A_gC, ↓r_icge_t, ↓r_icge_f, ↓J_X7_claimOf_26, ↓I_X7_worth_60, ↓r_i2l, ↓r_lmul, ↓I_X7_lowOfAll_60, ↓r_ifge_t, ↓r_ifge_f, ↓J_X7_claimOf_57, ↓r_lge_t, ↓r_lge_f, ↓I_X7_envied_60, ↓J_X7_claimOf_75, ↓r_goto, ↓J_X7_claimOf_76, ↓U_X7_claimOf_0, ↓U_X7_claimOf_10, ↓U_X7_claimOf_26, ↓U_X7_claimOf_57, ↓U_X7_claimOf_75, ↓U_X7_claimOf_76, ↓zthen_v, ↓zthen_0, zU_eq, zU_nc, zU_nj, m_allOf v1 hp, m_firstWanting hV hp, w2, m_lowOfAll hV, m_envied hV2 hp]
        · rw [if_neg h4]
          simp (disch := first | exact z_tt rfl | assumption | omega | (simp (disch := omega) only [zU_eq, zU_nc, zU_nj]; omega)) only [↓L_ald_n0, ↓L_ild_n1, ↓I_X7_allOf_60, ↓r_ifne_t, ↓r_ifne_f, ↓J_X7_claimOf_10, ↓r_iconst, ↓r_ireturn, ↓I_X7_firstWanting_60, ↓F_g60_0, ↓A_g3, ↓A_g4, ↓A_g5, ↓A_g6, ↓A_g7, ↓A_g9, ↓A_g10, ↓A_g12, ↓A_g13, ↓A_g15, ↓A_g16, ↓A_g19, ↓A_g20, ↓A_g21, ↓A_g22, ↓A_g23, ↓A_g25, ↓A_g26, ↓A_g28, ↓A_g29, ↓A_g31, ↓A_g32, ↓A_g34, ↓A_g36, ↓A_g37, ↓A_g38, ↓A_g39, ↓A_g41, ↓A_g42, ↓A_g43, ↓A_g44, ↓A_g61, ↓A_g62, ↓A_g63, ↓A_g65, ↓A_g66, ↓A_g67, ↓A_g68, ↓A_g69, ↓A_g70, ↓A_gN, ↓A_gT, ↓A_gC, ↓r_icge_t, ↓r_icge_f, ↓J_X7_claimOf_26, ↓I_X7_worth_60, ↓r_i2l, ↓r_lmul, ↓I_X7_lowOfAll_60, ↓r_ifge_t, ↓r_ifge_f, ↓J_X7_claimOf_57, ↓r_lge_t, ↓r_lge_f, ↓I_X7_envied_60, ↓J_X7_claimOf_75, ↓r_goto, ↓J_X7_claimOf_76, ↓U_X7_claimOf_0, ↓U_X7_claimOf_10, ↓U_X7_claimOf_26, ↓U_X7_claimOf_57, ↓U_X7_claimOf_75, ↓U_X7_claimOf_76, ↓zthen_v, ↓zthen_0, zU_eq, zU_nc, zU_nj, m_allOf v1 hp, m_firstWanting hV hp, w2, m_lowOfAll hV, m_envied hV2 hp]
set_option maxRecDepth 20000 in
theorem m_eb_loop {τ : zM} (hV2 : V2 τ) : ∀ (n : Nat) (j s : Int), 0 ≤ j → j + n = τ 61 0 → -2147483648 ≤ s ∧ s < 2147483648 → zres 141 C_X7_envious_4 [vR 60, vI s, vI j] [] τ = some (some (vI (bitI (fun p => decide (enM τ p < τ 61 0)) s j n)), τ) := by
  have hV0 := hV2.1
  obtain ⟨v0, v1, v2, v3⟩ := hV0
  intro n
  induction n with
  | zero =>
    intro j s hj hn hs
    simp (disch := first | exact z_tt rfl | assumption | omega | (simp (disch := omega) only [zU_eq, zU_nc, zU_nj]; omega)) only [↓r_iconst, ↓L_ist_n1, ↓L_ist_n1L, ↓L_ist_n2, ↓L_ist_n2L, ↓L_ild_n2, ↓L_ald_n0, ↓F_g60_0, ↓A_g3, ↓A_g4, ↓A_g5, ↓A_g6, ↓A_g7, ↓A_g9, ↓A_g10, ↓A_g12, ↓A_g13, ↓A_g15, ↓A_g16, ↓A_g19, ↓A_g20, ↓A_g21, ↓A_g22, ↓A_g23, ↓A_g25, ↓A_g26, ↓A_g28, ↓A_g29, ↓A_g31, ↓A_g32, ↓A_g34, ↓A_g36, ↓A_g37, ↓A_g38, ↓A_g39, ↓A_g41, ↓A_g42, ↓A_g43, ↓A_g44, ↓A_g61, ↓A_g62, ↓A_g63, ↓A_g65, ↓A_g66, ↓A_g67, ↓A_g68, ↓A_g69, ↓A_g70, ↓A_gN, ↓A_gT, ↓A_gC, ↓r_icge_t, ↓r_icge_f, ↓J_X7_envious_44, ↓L_ild_n1, ↓I_X7_envied_60, ↓J_X7_envious_35, ↓r_ishl, ↓r_goto, ↓J_X7_envious_36, ↓r_ior, ↓L_iinc2, ↓J_X7_envious_4, ↓r_ireturn, ↓U_X7_envious_0, ↓U_X7_envious_4, ↓U_X7_envious_35, ↓U_X7_envious_36, ↓U_X7_envious_44, ↓zthen_v, ↓zthen_0, zU_eq, zU_nc, zU_nj, bitI]
  | succ n ih =>
    intro j s hj hn hs
    have hj4 : 0 ≤ j ∧ j < 4 := by omega
    have hb := enM_bd hV2.1 j
    rw [U_X7_envious_4]
    by_cases h : enM τ j < τ 61 0
    · simp (disch := first | exact z_tt rfl | assumption | omega | (simp (disch := omega) only [zU_eq, zU_nc, zU_nj]; omega)) only [↓r_iconst, ↓L_ist_n1, ↓L_ist_n1L, ↓L_ist_n2, ↓L_ist_n2L, ↓L_ild_n2, ↓L_ald_n0, ↓F_g60_0, ↓A_g3, ↓A_g4, ↓A_g5, ↓A_g6, ↓A_g7, ↓A_g9, ↓A_g10, ↓A_g12, ↓A_g13, ↓A_g15, ↓A_g16, ↓A_g19, ↓A_g20, ↓A_g21, ↓A_g22, ↓A_g23, ↓A_g25, ↓A_g26, ↓A_g28, ↓A_g29, ↓A_g31, ↓A_g32, ↓A_g34, ↓A_g36, ↓A_g37, ↓A_g38, ↓A_g39, ↓A_g41, ↓A_g42, ↓A_g43, ↓A_g44, ↓A_g61, ↓A_g62, ↓A_g63, ↓A_g65, ↓A_g66, ↓A_g67, ↓A_g68, ↓A_g69, ↓A_g70, ↓A_gN, ↓A_gT, ↓A_gC, ↓r_icge_t, ↓r_icge_f, ↓J_X7_envious_44, ↓L_ild_n1, ↓I_X7_envied_60, ↓J_X7_envious_35, ↓r_ishl, ↓r_goto, ↓J_X7_envious_36, ↓r_ior, ↓L_iinc2, ↓J_X7_envious_4, ↓r_ireturn, ↓U_X7_envious_0, ↓U_X7_envious_35, ↓U_X7_envious_36, ↓U_X7_envious_44, ↓zthen_v, ↓zthen_0, zU_eq, zU_nc, zU_nj, m_envied hV2 hj4]
      rw [ih (j + 1) _ (by omega) (by omega) (iOr_bd _ _), bitI, if_pos (by simpa using h)]
    · simp (disch := first | exact z_tt rfl | assumption | omega | (simp (disch := omega) only [zU_eq, zU_nc, zU_nj]; omega)) only [↓r_iconst, ↓L_ist_n1, ↓L_ist_n1L, ↓L_ist_n2, ↓L_ist_n2L, ↓L_ild_n2, ↓L_ald_n0, ↓F_g60_0, ↓A_g3, ↓A_g4, ↓A_g5, ↓A_g6, ↓A_g7, ↓A_g9, ↓A_g10, ↓A_g12, ↓A_g13, ↓A_g15, ↓A_g16, ↓A_g19, ↓A_g20, ↓A_g21, ↓A_g22, ↓A_g23, ↓A_g25, ↓A_g26, ↓A_g28, ↓A_g29, ↓A_g31, ↓A_g32, ↓A_g34, ↓A_g36, ↓A_g37, ↓A_g38, ↓A_g39, ↓A_g41, ↓A_g42, ↓A_g43, ↓A_g44, ↓A_g61, ↓A_g62, ↓A_g63, ↓A_g65, ↓A_g66, ↓A_g67, ↓A_g68, ↓A_g69, ↓A_g70, ↓A_gN, ↓A_gT, ↓A_gC, ↓r_icge_t, ↓r_icge_f, ↓J_X7_envious_44, ↓L_ild_n1, ↓I_X7_envied_60, ↓J_X7_envious_35, ↓r_ishl, ↓r_goto, ↓J_X7_envious_36, ↓r_ior, ↓L_iinc2, ↓J_X7_envious_4, ↓r_ireturn, ↓U_X7_envious_0, ↓U_X7_envious_35, ↓U_X7_envious_36, ↓U_X7_envious_44, ↓zthen_v, ↓zthen_0, zU_eq, zU_nc, zU_nj, m_envied hV2 hj4]
      rw [iOr_0 hs, ih (j + 1) _ (by omega) (by omega) hs, bitI, if_neg (by simpa using h)]
set_option maxRecDepth 20000 in
theorem m_envious {τ : zM} (hV2 : V2 τ) : zcall 141 [vR 60] τ = some (some (vI (bitI (fun p => decide (enM τ p < τ 61 0)) 0 0 (τ 61 0).toNat)), τ) := by
  have hV0 := hV2.1
  obtain ⟨v0, v1, v2, v3⟩ := hV0
  rw [S_X7_envious]
  simp (disch := first | exact z_tt rfl | assumption | omega | (simp (disch := omega) only [zU_eq, zU_nc, zU_nj]; omega)) only [↓r_iconst, ↓L_ist_n1, ↓L_ist_n1L, ↓L_ist_n2, ↓L_ist_n2L, ↓L_ild_n2, ↓L_ald_n0, ↓F_g60_0, ↓A_g3, ↓A_g4, ↓A_g5, ↓A_g6, ↓A_g7, ↓A_g9, ↓A_g10, ↓A_g12, ↓A_g13, ↓A_g15, ↓A_g16, ↓A_g19, ↓A_g20, ↓A_g21, ↓A_g22, ↓A_g23, ↓A_g25, ↓A_g26, ↓A_g28, ↓A_g29, ↓A_g31, ↓A_g32, ↓A_g34, ↓A_g36, ↓A_g37, ↓A_g38, ↓A_g39, ↓A_g41, ↓A_g42, ↓A_g43, ↓A_g44, ↓A_g61, ↓A_g62, ↓A_g63, ↓A_g65, ↓A_g66, ↓A_g67, ↓A_g68, ↓A_g69, ↓A_g70, ↓A_gN, ↓A_gT, ↓A_gC, ↓r_icge_t, ↓r_icge_f, ↓J_X7_envious_44, ↓L_ild_n1, ↓I_X7_envied_60, ↓J_X7_envious_35, ↓r_ishl, ↓r_goto, ↓J_X7_envious_36, ↓r_ior, ↓L_iinc2, ↓J_X7_envious_4, ↓r_ireturn, ↓U_X7_envious_0, ↓U_X7_envious_35, ↓U_X7_envious_36, ↓U_X7_envious_44, ↓zthen_v, ↓zthen_0, zU_eq, zU_nc, zU_nj]
  rw [m_eb_loop hV2 (τ 61 0).toNat 0 0 (by omega) (by omega) (by omega)]
/-! how many bits -/
def onesF (x : Int) : Int := 0 + iAnd (iShr x 0) 1 + iAnd (iShr x (0 + 1)) 1 + iAnd (iShr x (0 + 1 + 1)) 1 + iAnd (iShr x (0 + 1 + 1 + 1)) 1 + iAnd (iShr x (0 + 1 + 1 + 1 + 1)) 1 + iAnd (iShr x (0 + 1 + 1 + 1 + 1 + 1)) 1
set_option maxRecDepth 20000 in
theorem m_ones {τ : zM} {x : Int} : zcall 137 [vR 60, vI x] τ = some (some (vI (onesF x)), τ) := by
  rw [S_X7_ones]
  simp (disch := first | exact z_tt rfl | assumption | omega | (simp (disch := omega) only [zU_eq, zU_nc, zU_nj]; omega)) only [↓r_iconst, ↓L_ist_n2, ↓L_ist_n2L, ↓L_ist_n3, ↓L_ist_n3L, ↓L_ild_n3, ↓r_bipush, ↓r_icge_t, ↓r_icge_f, ↓J_X7_ones_24, ↓L_ild_n2, ↓L_ild_n1, ↓r_ishr, ↓r_iand, ↓r_iadd, ↓L_iinc3, ↓r_goto, ↓J_X7_ones_4, ↓r_ireturn, ↓U_X7_ones_0, ↓U_X7_ones_4, ↓U_X7_ones_24, ↓zthen_v, ↓zthen_0, zU_eq, zU_nc, zU_nj]
  rfl
def bc1 (x : Int) : Int := x - iAnd (iUsh x 1) 1431655765
def bc2 (x : Int) : Int := iAnd x 858993459 + iAnd (iUsh x 2) 858993459
def bc3 (x : Int) : Int := iAnd (x + iUsh x 4) 252645135
def bc4 (x : Int) : Int := x + iUsh x 8
def bc5 (x : Int) : Int := x + iUsh x 16
def bcF (x : Int) : Int := iAnd (bc5 (bc4 (bc3 (bc2 (bc1 x))))) 63
set_option maxRecDepth 20000 in
theorem c_bitCount {τ : zM} {x : Int} : zcall 192 [vI x] τ = some (some (vI (bcF x)), τ) := by
  rw [S_J6_bitCount]
  simp (disch := first | exact z_tt rfl | assumption | omega | (simp (disch := omega) only [zU_eq, zU_nc, zU_nj]; omega)) only [↓L_ild_n0, ↓r_iconst, ↓r_iushr, ↓r_ldcw, ↓r_iand, ↓r_isub, ↓L_ist_n0, ↓r_iadd, ↓r_bipush, ↓r_ireturn, ↓U_J6_bitCount_0, ↓zthen_v, ↓zthen_0, zU_eq, zU_nc, zU_nj]
  rfl
theorem bc_tab : ∀ x : Nat, x < 64 → bcF (x : Int) = onesF (x : Int) ∧ 0 ≤ onesF (x : Int) ∧ onesF (x : Int) ≤ 6 := by decide +kernel
theorem bc_eq {x : Int} (h : 0 ≤ x ∧ x < 64) : bcF x = onesF x ∧ 0 ≤ onesF x ∧ onesF x ≤ 6 := by
  obtain ⟨m, rfl⟩ := Int.eq_ofNat_of_zero_le h.1
  exact bc_tab m (by omega)
/-! the causes -/
theorem bitP_bd2 {σ : zM} (hW : W1 σ) (p : Int) : 0 ≤ bitP σ p ∧ bitP σ p < 64 := bitP_bd hW.2.1
def cauP (σ : zM) (c p : Int) : Int := if c = 1 then 10 + bcF (bitP σ p) else if c = 2 then 10 + fuP σ p else if c = 3 then bitP σ p else if c = 4 then 10 + feP σ p else -5
set_option maxRecDepth 20000 in
theorem c_X6_causeOf {σ : zM} {c p : Int} (hW : W1 σ) (hp : 0 ≤ p ∧ p < 4) (hc : 0 ≤ c ∧ c ≤ 4) : zcall 98 [vR 0, vI c, vI p] σ = some (some (vI (cauP σ c p)), σ) := by
  rw [S_X6_causeOf]
  rcases (show c = 0 ∨ c = 1 ∨ c = 2 ∨ c = 3 ∨ c = 4 by omega) with rfl | rfl | rfl | rfl | rfl
  · simp (disch := first | exact z_tt rfl | assumption | omega | (simp (disch := omega) only [zU_eq, zU_nc, zU_nj]; omega)) only [↓L_ild_n1, ↓r_tab, ↓W_X6_causeOf_1_1, ↓W_X6_causeOf_1_2, ↓W_X6_causeOf_1_3, ↓W_X6_causeOf_1_4, ↓W_X6_causeOf_1_d, ↓r_bipush, ↓L_ald_n0, ↓F_g0_0, ↓L_ild_n2, ↓I_X2_bitsOf_1, ↓I_X2_bitsOf_17, ↓I_J6_bitCount, ↓r_iadd, ↓r_ireturn, ↓I_X6_firstUnheld_0, ↓I_X6_firstEnvied_0, ↓U_X6_causeOf_0, ↓U_X6_causeOf_32, ↓U_X6_causeOf_47, ↓U_X6_causeOf_56, ↓U_X6_causeOf_65, ↓U_X6_causeOf_74, ↓zthen_v, ↓zthen_0, zU_eq, zU_nc, zU_nj]
    rfl
  · simp (disch := first | exact z_tt rfl | assumption | omega | (simp (disch := omega) only [zU_eq, zU_nc, zU_nj]; omega)) only [↓L_ild_n1, ↓r_tab, ↓W_X6_causeOf_1_1, ↓W_X6_causeOf_1_2, ↓W_X6_causeOf_1_3, ↓W_X6_causeOf_1_4, ↓W_X6_causeOf_1_d, ↓r_bipush, ↓L_ald_n0, ↓F_g0_0, ↓L_ild_n2, ↓I_X2_bitsOf_1, ↓I_X2_bitsOf_17, ↓I_J6_bitCount, ↓r_iadd, ↓r_ireturn, ↓I_X6_firstUnheld_0, ↓I_X6_firstEnvied_0, ↓U_X6_causeOf_0, ↓U_X6_causeOf_32, ↓U_X6_causeOf_47, ↓U_X6_causeOf_56, ↓U_X6_causeOf_65, ↓U_X6_causeOf_74, ↓zthen_v, ↓zthen_0, zU_eq, zU_nc, zU_nj, c_X2_bitsOf hW hp, c_bitCount]
    rfl
  · simp (disch := first | exact z_tt rfl | assumption | omega | (simp (disch := omega) only [zU_eq, zU_nc, zU_nj]; omega)) only [↓L_ild_n1, ↓r_tab, ↓W_X6_causeOf_1_1, ↓W_X6_causeOf_1_2, ↓W_X6_causeOf_1_3, ↓W_X6_causeOf_1_4, ↓W_X6_causeOf_1_d, ↓r_bipush, ↓L_ald_n0, ↓F_g0_0, ↓L_ild_n2, ↓I_X2_bitsOf_1, ↓I_X2_bitsOf_17, ↓I_J6_bitCount, ↓r_iadd, ↓r_ireturn, ↓I_X6_firstUnheld_0, ↓I_X6_firstEnvied_0, ↓U_X6_causeOf_0, ↓U_X6_causeOf_32, ↓U_X6_causeOf_47, ↓U_X6_causeOf_56, ↓U_X6_causeOf_65, ↓U_X6_causeOf_74, ↓zthen_v, ↓zthen_0, zU_eq, zU_nc, zU_nj, c_X6_firstUnheld hW hp]
    rfl
  · simp (disch := first | exact z_tt rfl | assumption | omega | (simp (disch := omega) only [zU_eq, zU_nc, zU_nj]; omega)) only [↓L_ild_n1, ↓r_tab, ↓W_X6_causeOf_1_1, ↓W_X6_causeOf_1_2, ↓W_X6_causeOf_1_3, ↓W_X6_causeOf_1_4, ↓W_X6_causeOf_1_d, ↓r_bipush, ↓L_ald_n0, ↓F_g0_0, ↓L_ild_n2, ↓I_X2_bitsOf_1, ↓I_X2_bitsOf_17, ↓I_J6_bitCount, ↓r_iadd, ↓r_ireturn, ↓I_X6_firstUnheld_0, ↓I_X6_firstEnvied_0, ↓U_X6_causeOf_0, ↓U_X6_causeOf_32, ↓U_X6_causeOf_47, ↓U_X6_causeOf_56, ↓U_X6_causeOf_65, ↓U_X6_causeOf_74, ↓zthen_v, ↓zthen_0, zU_eq, zU_nc, zU_nj, c_X2_bitsOf hW hp]
    rfl
  · simp (disch := first | exact z_tt rfl | assumption | omega | (simp (disch := omega) only [zU_eq, zU_nc, zU_nj]; omega)) only [↓L_ild_n1, ↓r_tab, ↓W_X6_causeOf_1_1, ↓W_X6_causeOf_1_2, ↓W_X6_causeOf_1_3, ↓W_X6_causeOf_1_4, ↓W_X6_causeOf_1_d, ↓r_bipush, ↓L_ald_n0, ↓F_g0_0, ↓L_ild_n2, ↓I_X2_bitsOf_1, ↓I_X2_bitsOf_17, ↓I_J6_bitCount, ↓r_iadd, ↓r_ireturn, ↓I_X6_firstUnheld_0, ↓I_X6_firstEnvied_0, ↓U_X6_causeOf_0, ↓U_X6_causeOf_32, ↓U_X6_causeOf_47, ↓U_X6_causeOf_56, ↓U_X6_causeOf_65, ↓U_X6_causeOf_74, ↓zthen_v, ↓zthen_0, zU_eq, zU_nc, zU_nj, c_X6_firstEnvied hW hp]
    rfl
def cauM (τ : zM) (c p : Int) : Int := if c = 1 then 10 + onesF (bitM τ p) else if c = 2 then 10 + fwM τ p else if c = 3 then bitM τ p else if c = 4 then 10 + enM τ p else -5
set_option maxRecDepth 20000 in
theorem m_causeOf {τ : zM} {c p : Int} (hV2 : V2 τ) (hp : 0 ≤ p ∧ p < 4) (hc : 0 ≤ c ∧ c ≤ 4) : zcall 138 [vR 60, vI p, vI c] τ = some (some (vI (cauM τ c p)), τ) := by
  have hV := hV2.1
  rw [S_X7_causeOf]
  rcases (show c = 0 ∨ c = 1 ∨ c = 2 ∨ c = 3 ∨ c = 4 by omega) with rfl | rfl | rfl | rfl | rfl
  · simp (disch := first | exact z_tt rfl | assumption | omega | (simp (disch := omega) only [zU_eq, zU_nc, zU_nj]; omega)) only [↓L_ild_n2, ↓r_tab, ↓W_X7_causeOf_1_1, ↓W_X7_causeOf_1_2, ↓W_X7_causeOf_1_3, ↓W_X7_causeOf_1_4, ↓W_X7_causeOf_1_d, ↓r_bipush, ↓L_ald_n0, ↓L_ild_n1, ↓I_X7_bitsOf_60, ↓I_X7_ones_60, ↓r_iadd, ↓r_ireturn, ↓I_X7_firstWanting_60, ↓I_X7_envied_60, ↓U_X7_causeOf_0, ↓U_X7_causeOf_32, ↓U_X7_causeOf_45, ↓U_X7_causeOf_54, ↓U_X7_causeOf_60, ↓U_X7_causeOf_69, ↓zthen_v, ↓zthen_0, zU_eq, zU_nc, zU_nj]
    rfl
  · simp (disch := first | exact z_tt rfl | assumption | omega | (simp (disch := omega) only [zU_eq, zU_nc, zU_nj]; omega)) only [↓L_ild_n2, ↓r_tab, ↓W_X7_causeOf_1_1, ↓W_X7_causeOf_1_2, ↓W_X7_causeOf_1_3, ↓W_X7_causeOf_1_4, ↓W_X7_causeOf_1_d, ↓r_bipush, ↓L_ald_n0, ↓L_ild_n1, ↓I_X7_bitsOf_60, ↓I_X7_ones_60, ↓r_iadd, ↓r_ireturn, ↓I_X7_firstWanting_60, ↓I_X7_envied_60, ↓U_X7_causeOf_0, ↓U_X7_causeOf_32, ↓U_X7_causeOf_45, ↓U_X7_causeOf_54, ↓U_X7_causeOf_60, ↓U_X7_causeOf_69, ↓zthen_v, ↓zthen_0, zU_eq, zU_nc, zU_nj, m_bitsOf hV hp, m_ones]
    rfl
  · simp (disch := first | exact z_tt rfl | assumption | omega | (simp (disch := omega) only [zU_eq, zU_nc, zU_nj]; omega)) only [↓L_ild_n2, ↓r_tab, ↓W_X7_causeOf_1_1, ↓W_X7_causeOf_1_2, ↓W_X7_causeOf_1_3, ↓W_X7_causeOf_1_4, ↓W_X7_causeOf_1_d, ↓r_bipush, ↓L_ald_n0, ↓L_ild_n1, ↓I_X7_bitsOf_60, ↓I_X7_ones_60, ↓r_iadd, ↓r_ireturn, ↓I_X7_firstWanting_60, ↓I_X7_envied_60, ↓U_X7_causeOf_0, ↓U_X7_causeOf_32, ↓U_X7_causeOf_45, ↓U_X7_causeOf_54, ↓U_X7_causeOf_60, ↓U_X7_causeOf_69, ↓zthen_v, ↓zthen_0, zU_eq, zU_nc, zU_nj, m_firstWanting hV hp]
    rfl
  · simp (disch := first | exact z_tt rfl | assumption | omega | (simp (disch := omega) only [zU_eq, zU_nc, zU_nj]; omega)) only [↓L_ild_n2, ↓r_tab, ↓W_X7_causeOf_1_1, ↓W_X7_causeOf_1_2, ↓W_X7_causeOf_1_3, ↓W_X7_causeOf_1_4, ↓W_X7_causeOf_1_d, ↓r_bipush, ↓L_ald_n0, ↓L_ild_n1, ↓I_X7_bitsOf_60, ↓I_X7_ones_60, ↓r_iadd, ↓r_ireturn, ↓I_X7_firstWanting_60, ↓I_X7_envied_60, ↓U_X7_causeOf_0, ↓U_X7_causeOf_32, ↓U_X7_causeOf_45, ↓U_X7_causeOf_54, ↓U_X7_causeOf_60, ↓U_X7_causeOf_69, ↓zthen_v, ↓zthen_0, zU_eq, zU_nc, zU_nj, m_bitsOf hV hp]
    rfl
  · simp (disch := first | exact z_tt rfl | assumption | omega | (simp (disch := omega) only [zU_eq, zU_nc, zU_nj]; omega)) only [↓L_ild_n2, ↓r_tab, ↓W_X7_causeOf_1_1, ↓W_X7_causeOf_1_2, ↓W_X7_causeOf_1_3, ↓W_X7_causeOf_1_4, ↓W_X7_causeOf_1_d, ↓r_bipush, ↓L_ald_n0, ↓L_ild_n1, ↓I_X7_bitsOf_60, ↓I_X7_ones_60, ↓r_iadd, ↓r_ireturn, ↓I_X7_firstWanting_60, ↓I_X7_envied_60, ↓U_X7_causeOf_0, ↓U_X7_causeOf_32, ↓U_X7_causeOf_45, ↓U_X7_causeOf_54, ↓U_X7_causeOf_60, ↓U_X7_causeOf_69, ↓zthen_v, ↓zthen_0, zU_eq, zU_nc, zU_nj, m_envied hV2 hp]
    rfl
set_option maxRecDepth 20000 in
theorem m_splits_ {τ : zM} {t p up low : Int} (ht : 0 ≤ t ∧ t < 6) (ha : 0 ≤ up ∧ up < 4611686018427387904) (hb : 0 < low ∧ low < 4611686018427387904) : zcall 123 [vR 60, vI t, vI p, vL up, vL low] τ = some (none, zU (zU (zU τ 61 (11 + t) p) 61 (17 + t) (lowT up low 0)) 61 (23 + t) (lowT up low 1)) := by
  rw [S_X7_splits_]
  simp (disch := first | exact z_tt rfl | assumption | omega | (simp (disch := omega) only [zU_eq, zU_nc, zU_nj]; omega)) only [↓L_ald_n0, ↓F_g60_0, ↓r_bipush, ↓L_ild_n1, ↓r_iadd, ↓L_ild_n2, ↓A_p3, ↓A_p4, ↓A_p5, ↓A_p6, ↓A_p7, ↓A_p9, ↓A_p10, ↓A_p12, ↓A_p13, ↓A_p15, ↓A_p16, ↓A_p19, ↓A_p20, ↓A_p21, ↓A_p22, ↓A_p23, ↓A_p25, ↓A_p26, ↓A_p28, ↓A_p29, ↓A_p31, ↓A_p32, ↓A_p34, ↓A_p36, ↓A_p37, ↓A_p38, ↓A_p39, ↓A_p41, ↓A_p42, ↓A_p43, ↓A_p44, ↓A_p61, ↓A_p62, ↓A_p63, ↓A_p65, ↓A_p66, ↓A_p67, ↓A_p68, ↓A_p69, ↓A_p70, ↓A_pN, ↓A_pT, ↓L_lld_n3, ↓L_lld5, ↓r_iconst, ↓I_X7_lowest, ↓r_l2i, ↓r_return, ↓U_X7_splits__0, ↓zthen_v, ↓zthen_0, zU_eq, zU_nc, zU_nj, m_lowest]
