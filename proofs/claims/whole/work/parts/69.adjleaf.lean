/-! what is asked of an adjustment -/
set_option maxRecDepth 20000 in
theorem c_hasSome {σ : zM} {p t : Int} (ho : Ow6 σ) (ht : 0 ≤ t ∧ t < 6) (hc : -1 ≤ σ 33 5 ∧ σ 33 5 < 6) (hp : -1 ≤ p ∧ p < 4) : zcall 5 [vR 33, vI p, vI t] σ = some (some (vI (if σ 34 t = p ∨ σ 33 5 = t then 1 else 0)), σ) := by
  have hb := ho t ht.1 ht.2
  rw [S_X0_hasSome]
  by_cases q1 : σ 34 t = p
  · rw [if_pos (Or.inl q1)]
    simp (disch := first | exact z_tt rfl | assumption | omega | (simp (disch := omega) only [zU_eq, zU_nc, zU_nj]; omega)) only [↓L_ald_n0, ↓F_g33_0, ↓L_ild_n2, ↓A_g3, ↓A_g4, ↓A_g5, ↓A_g6, ↓A_g7, ↓A_g9, ↓A_g10, ↓A_g12, ↓A_g13, ↓A_g15, ↓A_g16, ↓A_g19, ↓A_g20, ↓A_g21, ↓A_g22, ↓A_g23, ↓A_g25, ↓A_g26, ↓A_g28, ↓A_g29, ↓A_g31, ↓A_g32, ↓A_g34, ↓A_g36, ↓A_g37, ↓A_g38, ↓A_g39, ↓A_g41, ↓A_g42, ↓A_g43, ↓A_g44, ↓A_g61, ↓A_g62, ↓A_g63, ↓A_g65, ↓A_g66, ↓A_g67, ↓A_g68, ↓A_g69, ↓A_g70, ↓A_gN, ↓A_gT, ↓A_gC, ↓L_ild_n1, ↓r_iceq_t, ↓r_iceq_f, ↓J_X0_hasSome_18, ↓F_g33_5, ↓r_icne_t, ↓r_icne_f, ↓J_X0_hasSome_22, ↓r_iconst, ↓r_goto, ↓J_X0_hasSome_23, ↓r_zreturn, ↓U_X0_hasSome_0, ↓U_X0_hasSome_18, ↓U_X0_hasSome_22, ↓U_X0_hasSome_23, ↓zthen_v, ↓zthen_0, zU_eq, zU_nc, zU_nj]
  · by_cases q2 : σ 33 5 = t
    · rw [if_pos (Or.inr q2)]
      simp (disch := first | exact z_tt rfl | assumption | omega | (simp (disch := omega) only [zU_eq, zU_nc, zU_nj]; omega)) only [↓L_ald_n0, ↓F_g33_0, ↓L_ild_n2, ↓A_g3, ↓A_g4, ↓A_g5, ↓A_g6, ↓A_g7, ↓A_g9, ↓A_g10, ↓A_g12, ↓A_g13, ↓A_g15, ↓A_g16, ↓A_g19, ↓A_g20, ↓A_g21, ↓A_g22, ↓A_g23, ↓A_g25, ↓A_g26, ↓A_g28, ↓A_g29, ↓A_g31, ↓A_g32, ↓A_g34, ↓A_g36, ↓A_g37, ↓A_g38, ↓A_g39, ↓A_g41, ↓A_g42, ↓A_g43, ↓A_g44, ↓A_g61, ↓A_g62, ↓A_g63, ↓A_g65, ↓A_g66, ↓A_g67, ↓A_g68, ↓A_g69, ↓A_g70, ↓A_gN, ↓A_gT, ↓A_gC, ↓L_ild_n1, ↓r_iceq_t, ↓r_iceq_f, ↓J_X0_hasSome_18, ↓F_g33_5, ↓r_icne_t, ↓r_icne_f, ↓J_X0_hasSome_22, ↓r_iconst, ↓r_goto, ↓J_X0_hasSome_23, ↓r_zreturn, ↓U_X0_hasSome_0, ↓U_X0_hasSome_18, ↓U_X0_hasSome_22, ↓U_X0_hasSome_23, ↓zthen_v, ↓zthen_0, zU_eq, zU_nc, zU_nj]
    · rw [if_neg (fun h => h.elim q1 q2)]
      simp (disch := first | exact z_tt rfl | assumption | omega | (simp (disch := omega) only [zU_eq, zU_nc, zU_nj]; omega)) only [↓L_ald_n0, ↓F_g33_0, ↓L_ild_n2, ↓A_g3, ↓A_g4, ↓A_g5, ↓A_g6, ↓A_g7, ↓A_g9, ↓A_g10, ↓A_g12, ↓A_g13, ↓A_g15, ↓A_g16, ↓A_g19, ↓A_g20, ↓A_g21, ↓A_g22, ↓A_g23, ↓A_g25, ↓A_g26, ↓A_g28, ↓A_g29, ↓A_g31, ↓A_g32, ↓A_g34, ↓A_g36, ↓A_g37, ↓A_g38, ↓A_g39, ↓A_g41, ↓A_g42, ↓A_g43, ↓A_g44, ↓A_g61, ↓A_g62, ↓A_g63, ↓A_g65, ↓A_g66, ↓A_g67, ↓A_g68, ↓A_g69, ↓A_g70, ↓A_gN, ↓A_gT, ↓A_gC, ↓L_ild_n1, ↓r_iceq_t, ↓r_iceq_f, ↓J_X0_hasSome_18, ↓F_g33_5, ↓r_icne_t, ↓r_icne_f, ↓J_X0_hasSome_22, ↓r_iconst, ↓r_goto, ↓J_X0_hasSome_23, ↓r_zreturn, ↓U_X0_hasSome_0, ↓U_X0_hasSome_18, ↓U_X0_hasSome_22, ↓U_X0_hasSome_23, ↓zthen_v, ↓zthen_0, zU_eq, zU_nc, zU_nj]
set_option maxRecDepth 20000 in
theorem c_aBits_loop {σ : zM} {p : Int} (ho : Ow6 σ) (hm : 0 ≤ σ 33 1 ∧ σ 33 1 ≤ 6) (hc : -1 ≤ σ 33 5 ∧ σ 33 5 < 6) (hp : -1 ≤ p ∧ p < 4) : ∀ (n : Nat) (j s : Int), 0 ≤ j → j + n = σ 33 1 → zres 6 C_X0_bitsOf_4 [vR 33, vI p, vI s, vI j] [] σ = some (some (vI (bitI (fun t => decide (σ 34 t = p ∨ σ 33 5 = t)) s j n)), σ) := by
  intro n
  induction n with
  | zero =>
    intro j s hj hn
    simp (disch := first | exact z_tt rfl | assumption | omega | (simp (disch := omega) only [zU_eq, zU_nc, zU_nj]; omega)) only [↓r_iconst, ↓L_ist_n2, ↓L_ist_n2L, ↓L_ist_n3, ↓L_ist_n3L, ↓L_ild_n3, ↓L_ald_n0, ↓F_g33_1, ↓r_icge_t, ↓r_icge_f, ↓J_X0_bitsOf_33, ↓L_ild_n1, ↓I_X0_hasSome_33, ↓r_ifeq_t, ↓r_ifeq_f, ↓J_X0_bitsOf_27, ↓L_ild_n2, ↓r_ishl, ↓r_ior, ↓L_iinc3, ↓r_goto, ↓J_X0_bitsOf_4, ↓r_ireturn, ↓U_X0_bitsOf_0, ↓U_X0_bitsOf_4, ↓U_X0_bitsOf_27, ↓U_X0_bitsOf_33, ↓zthen_v, ↓zthen_0, zU_eq, zU_nc, zU_nj, bitI]
  | succ n ih =>
    intro j s hj hn
    have hs := c_hasSome (p := p) (t := j) ho (by omega) hc hp
    rw [U_X0_bitsOf_4]
    by_cases h : σ 34 j = p ∨ σ 33 5 = j
    · rw [if_pos h] at hs
      simp (disch := first | exact z_tt rfl | assumption | omega | (simp (disch := omega) only [zU_eq, zU_nc, zU_nj]; omega)) only [↓r_iconst, ↓L_ist_n2, ↓L_ist_n2L, ↓L_ist_n3, ↓L_ist_n3L, ↓L_ild_n3, ↓L_ald_n0, ↓F_g33_1, ↓r_icge_t, ↓r_icge_f, ↓J_X0_bitsOf_33, ↓L_ild_n1, ↓I_X0_hasSome_33, ↓r_ifeq_t, ↓r_ifeq_f, ↓J_X0_bitsOf_27, ↓L_ild_n2, ↓r_ishl, ↓r_ior, ↓L_iinc3, ↓r_goto, ↓J_X0_bitsOf_4, ↓r_ireturn, ↓U_X0_bitsOf_0, ↓U_X0_bitsOf_27, ↓U_X0_bitsOf_33, ↓zthen_v, ↓zthen_0, zU_eq, zU_nc, zU_nj, hs]
      rw [ih (j + 1) _ (by omega) (by omega), bitI, if_pos (decide_eq_true h)]
    · rw [if_neg h] at hs
      simp (disch := first | exact z_tt rfl | assumption | omega | (simp (disch := omega) only [zU_eq, zU_nc, zU_nj]; omega)) only [↓r_iconst, ↓L_ist_n2, ↓L_ist_n2L, ↓L_ist_n3, ↓L_ist_n3L, ↓L_ild_n3, ↓L_ald_n0, ↓F_g33_1, ↓r_icge_t, ↓r_icge_f, ↓J_X0_bitsOf_33, ↓L_ild_n1, ↓I_X0_hasSome_33, ↓r_ifeq_t, ↓r_ifeq_f, ↓J_X0_bitsOf_27, ↓L_ild_n2, ↓r_ishl, ↓r_ior, ↓L_iinc3, ↓r_goto, ↓J_X0_bitsOf_4, ↓r_ireturn, ↓U_X0_bitsOf_0, ↓U_X0_bitsOf_27, ↓U_X0_bitsOf_33, ↓zthen_v, ↓zthen_0, zU_eq, zU_nc, zU_nj, hs]
      rw [ih (j + 1) _ (by omega) (by omega), bitI, if_neg (by rw [decide_eq_false h]; decide)]
def bitA (σ : zM) (p : Int) : Int := bitI (fun t => decide (σ 34 t = p ∨ σ 33 5 = t)) 0 0 (σ 33 1).toNat
set_option maxRecDepth 20000 in
theorem c_aBits {σ : zM} {p : Int} (ho : Ow6 σ) (hm : 0 ≤ σ 33 1 ∧ σ 33 1 ≤ 6) (hc : -1 ≤ σ 33 5 ∧ σ 33 5 < 6) (hp : -1 ≤ p ∧ p < 4) : zcall 6 [vR 33, vI p] σ = some (some (vI (bitA σ p)), σ) := by
  rw [S_X0_bitsOf]
  simp (disch := first | exact z_tt rfl | assumption | omega | (simp (disch := omega) only [zU_eq, zU_nc, zU_nj]; omega)) only [↓r_iconst, ↓L_ist_n2, ↓L_ist_n2L, ↓L_ist_n3, ↓L_ist_n3L, ↓L_ild_n3, ↓L_ald_n0, ↓F_g33_1, ↓r_icge_t, ↓r_icge_f, ↓J_X0_bitsOf_33, ↓L_ild_n1, ↓I_X0_hasSome_33, ↓r_ifeq_t, ↓r_ifeq_f, ↓J_X0_bitsOf_27, ↓L_ild_n2, ↓r_ishl, ↓r_ior, ↓L_iinc3, ↓r_goto, ↓J_X0_bitsOf_4, ↓r_ireturn, ↓U_X0_bitsOf_0, ↓U_X0_bitsOf_27, ↓U_X0_bitsOf_33, ↓zthen_v, ↓zthen_0, zU_eq, zU_nc, zU_nj]
  exact c_aBits_loop ho hm hc hp _ 0 0 (by omega) (by omega)
set_option maxRecDepth 20000 in
theorem m_holdSo {τ : zM} {f t : Int} (hF : Fl τ) (ht : 0 ≤ t ∧ t < 6) (hc : -1 ≤ τ 60 5 ∧ τ 60 5 < 6) (hf : 0 ≤ f ∧ f < 2) : zcall 150 [vR 60, vI f, vI t] τ = some (some (vI (if τ 64 t = f ∨ τ 60 5 = t then 1 else 0)), τ) := by
  have hb := hF t ht.1 ht.2
  rw [S_X7_doesHoldSo]
  by_cases q1 : τ 64 t = f
  · rw [if_pos (Or.inl q1)]
    simp (disch := first | exact z_tt rfl | assumption | omega | (simp (disch := omega) only [zU_eq, zU_nc, zU_nj]; omega)) only [↓L_ald_n0, ↓F_g60_4, ↓L_ild_n2, ↓A_b46, ↓A_z64, ↓L_ild_n1, ↓r_iceq_t, ↓r_iceq_f, ↓J_X7_doesHoldSo_18, ↓F_g60_5, ↓r_icne_t, ↓r_icne_f, ↓J_X7_doesHoldSo_22, ↓r_iconst, ↓r_goto, ↓J_X7_doesHoldSo_23, ↓r_zreturn, ↓U_X7_doesHoldSo_0, ↓U_X7_doesHoldSo_18, ↓U_X7_doesHoldSo_22, ↓U_X7_doesHoldSo_23, ↓zthen_v, ↓zthen_0, zU_eq, zU_nc, zU_nj]
  · by_cases q2 : τ 60 5 = t
    · rw [if_pos (Or.inr q2)]
      simp (disch := first | exact z_tt rfl | assumption | omega | (simp (disch := omega) only [zU_eq, zU_nc, zU_nj]; omega)) only [↓L_ald_n0, ↓F_g60_4, ↓L_ild_n2, ↓A_b46, ↓A_z64, ↓L_ild_n1, ↓r_iceq_t, ↓r_iceq_f, ↓J_X7_doesHoldSo_18, ↓F_g60_5, ↓r_icne_t, ↓r_icne_f, ↓J_X7_doesHoldSo_22, ↓r_iconst, ↓r_goto, ↓J_X7_doesHoldSo_23, ↓r_zreturn, ↓U_X7_doesHoldSo_0, ↓U_X7_doesHoldSo_18, ↓U_X7_doesHoldSo_22, ↓U_X7_doesHoldSo_23, ↓zthen_v, ↓zthen_0, zU_eq, zU_nc, zU_nj]
    · rw [if_neg (fun h => h.elim q1 q2)]
      simp (disch := first | exact z_tt rfl | assumption | omega | (simp (disch := omega) only [zU_eq, zU_nc, zU_nj]; omega)) only [↓L_ald_n0, ↓F_g60_4, ↓L_ild_n2, ↓A_b46, ↓A_z64, ↓L_ild_n1, ↓r_iceq_t, ↓r_iceq_f, ↓J_X7_doesHoldSo_18, ↓F_g60_5, ↓r_icne_t, ↓r_icne_f, ↓J_X7_doesHoldSo_22, ↓r_iconst, ↓r_goto, ↓J_X7_doesHoldSo_23, ↓r_zreturn, ↓U_X7_doesHoldSo_0, ↓U_X7_doesHoldSo_18, ↓U_X7_doesHoldSo_22, ↓U_X7_doesHoldSo_23, ↓zthen_v, ↓zthen_0, zU_eq, zU_nc, zU_nj]
set_option maxRecDepth 20000 in
theorem m_bitsSo_loop {τ : zM} {f : Int} (hF : Fl τ) (hm : 0 ≤ τ 61 1 ∧ τ 61 1 ≤ 6) (hc : -1 ≤ τ 60 5 ∧ τ 60 5 < 6) (hf : 0 ≤ f ∧ f < 2) : ∀ (n : Nat) (j s : Int), 0 ≤ j → j + n = τ 61 1 → -2147483648 ≤ s ∧ s < 2147483648 → zres 151 C_X7_bitsSo_4 [vR 60, vI f, vI s, vI j] [] τ = some (some (vI (bitI (fun t => decide (τ 64 t = f ∨ τ 60 5 = t)) s j n)), τ) := by
  intro n
  induction n with
  | zero =>
    intro j s hj hn hs
    simp (disch := first | exact z_tt rfl | assumption | omega | (simp (disch := omega) only [zU_eq, zU_nc, zU_nj]; omega)) only [↓r_iconst, ↓L_ist_n2, ↓L_ist_n2L, ↓L_ist_n3, ↓L_ist_n3L, ↓L_ild_n3, ↓L_ald_n0, ↓F_g60_0, ↓A_g3, ↓A_g4, ↓A_g5, ↓A_g6, ↓A_g7, ↓A_g9, ↓A_g10, ↓A_g12, ↓A_g13, ↓A_g15, ↓A_g16, ↓A_g19, ↓A_g20, ↓A_g21, ↓A_g22, ↓A_g23, ↓A_g25, ↓A_g26, ↓A_g28, ↓A_g29, ↓A_g31, ↓A_g32, ↓A_g34, ↓A_g36, ↓A_g37, ↓A_g38, ↓A_g39, ↓A_g41, ↓A_g42, ↓A_g43, ↓A_g44, ↓A_g61, ↓A_g62, ↓A_g63, ↓A_g65, ↓A_g66, ↓A_g67, ↓A_g68, ↓A_g69, ↓A_g70, ↓A_gN, ↓A_gT, ↓A_gC, ↓r_icge_t, ↓r_icge_f, ↓J_X7_bitsSo_39, ↓L_ild_n2, ↓L_ild_n1, ↓I_X7_doesHoldSo_60, ↓r_ifeq_t, ↓r_ifeq_f, ↓J_X7_bitsSo_30, ↓r_ishl, ↓r_goto, ↓J_X7_bitsSo_31, ↓r_ior, ↓L_iinc3, ↓J_X7_bitsSo_4, ↓r_ireturn, ↓U_X7_bitsSo_0, ↓U_X7_bitsSo_4, ↓U_X7_bitsSo_30, ↓U_X7_bitsSo_31, ↓U_X7_bitsSo_39, ↓zthen_v, ↓zthen_0, zU_eq, zU_nc, zU_nj, bitI]
  | succ n ih =>
    intro j s hj hn hs
    have hd := m_holdSo (f := f) (t := j) hF (by omega) hc hf
    rw [U_X7_bitsSo_4]
    by_cases h : τ 64 j = f ∨ τ 60 5 = j
    · rw [if_pos h] at hd
      simp (disch := first | exact z_tt rfl | assumption | omega | (simp (disch := omega) only [zU_eq, zU_nc, zU_nj]; omega)) only [↓r_iconst, ↓L_ist_n2, ↓L_ist_n2L, ↓L_ist_n3, ↓L_ist_n3L, ↓L_ild_n3, ↓L_ald_n0, ↓F_g60_0, ↓A_g3, ↓A_g4, ↓A_g5, ↓A_g6, ↓A_g7, ↓A_g9, ↓A_g10, ↓A_g12, ↓A_g13, ↓A_g15, ↓A_g16, ↓A_g19, ↓A_g20, ↓A_g21, ↓A_g22, ↓A_g23, ↓A_g25, ↓A_g26, ↓A_g28, ↓A_g29, ↓A_g31, ↓A_g32, ↓A_g34, ↓A_g36, ↓A_g37, ↓A_g38, ↓A_g39, ↓A_g41, ↓A_g42, ↓A_g43, ↓A_g44, ↓A_g61, ↓A_g62, ↓A_g63, ↓A_g65, ↓A_g66, ↓A_g67, ↓A_g68, ↓A_g69, ↓A_g70, ↓A_gN, ↓A_gT, ↓A_gC, ↓r_icge_t, ↓r_icge_f, ↓J_X7_bitsSo_39, ↓L_ild_n2, ↓L_ild_n1, ↓I_X7_doesHoldSo_60, ↓r_ifeq_t, ↓r_ifeq_f, ↓J_X7_bitsSo_30, ↓r_ishl, ↓r_goto, ↓J_X7_bitsSo_31, ↓r_ior, ↓L_iinc3, ↓J_X7_bitsSo_4, ↓r_ireturn, ↓U_X7_bitsSo_0, ↓U_X7_bitsSo_30, ↓U_X7_bitsSo_31, ↓U_X7_bitsSo_39, ↓zthen_v, ↓zthen_0, zU_eq, zU_nc, zU_nj, hd]
      rw [ih (j + 1) _ (by omega) (by omega) (iOr_bd _ _), bitI, if_pos (decide_eq_true h)]
    · rw [if_neg h] at hd
      simp (disch := first | exact z_tt rfl | assumption | omega | (simp (disch := omega) only [zU_eq, zU_nc, zU_nj]; omega)) only [↓r_iconst, ↓L_ist_n2, ↓L_ist_n2L, ↓L_ist_n3, ↓L_ist_n3L, ↓L_ild_n3, ↓L_ald_n0, ↓F_g60_0, ↓A_g3, ↓A_g4, ↓A_g5, ↓A_g6, ↓A_g7, ↓A_g9, ↓A_g10, ↓A_g12, ↓A_g13, ↓A_g15, ↓A_g16, ↓A_g19, ↓A_g20, ↓A_g21, ↓A_g22, ↓A_g23, ↓A_g25, ↓A_g26, ↓A_g28, ↓A_g29, ↓A_g31, ↓A_g32, ↓A_g34, ↓A_g36, ↓A_g37, ↓A_g38, ↓A_g39, ↓A_g41, ↓A_g42, ↓A_g43, ↓A_g44, ↓A_g61, ↓A_g62, ↓A_g63, ↓A_g65, ↓A_g66, ↓A_g67, ↓A_g68, ↓A_g69, ↓A_g70, ↓A_gN, ↓A_gT, ↓A_gC, ↓r_icge_t, ↓r_icge_f, ↓J_X7_bitsSo_39, ↓L_ild_n2, ↓L_ild_n1, ↓I_X7_doesHoldSo_60, ↓r_ifeq_t, ↓r_ifeq_f, ↓J_X7_bitsSo_30, ↓r_ishl, ↓r_goto, ↓J_X7_bitsSo_31, ↓r_ior, ↓L_iinc3, ↓J_X7_bitsSo_4, ↓r_ireturn, ↓U_X7_bitsSo_0, ↓U_X7_bitsSo_30, ↓U_X7_bitsSo_31, ↓U_X7_bitsSo_39, ↓zthen_v, ↓zthen_0, zU_eq, zU_nc, zU_nj, hd]
      rw [iOr_0 hs, ih (j + 1) _ (by omega) (by omega) hs, bitI, if_neg (by rw [decide_eq_false h]; decide)]
def bitB (τ : zM) (f : Int) : Int := bitI (fun t => decide (τ 64 t = f ∨ τ 60 5 = t)) 0 0 (τ 61 1).toNat
set_option maxRecDepth 20000 in
theorem m_bitsSo {τ : zM} {f : Int} (hF : Fl τ) (hm : 0 ≤ τ 61 1 ∧ τ 61 1 ≤ 6) (hc : -1 ≤ τ 60 5 ∧ τ 60 5 < 6) (hf : 0 ≤ f ∧ f < 2) : zcall 151 [vR 60, vI f] τ = some (some (vI (bitB τ f)), τ) := by
  rw [S_X7_bitsSo]
  simp (disch := first | exact z_tt rfl | assumption | omega | (simp (disch := omega) only [zU_eq, zU_nc, zU_nj]; omega)) only [↓r_iconst, ↓L_ist_n2, ↓L_ist_n2L, ↓L_ist_n3, ↓L_ist_n3L, ↓L_ild_n3, ↓L_ald_n0, ↓F_g60_0, ↓A_g3, ↓A_g4, ↓A_g5, ↓A_g6, ↓A_g7, ↓A_g9, ↓A_g10, ↓A_g12, ↓A_g13, ↓A_g15, ↓A_g16, ↓A_g19, ↓A_g20, ↓A_g21, ↓A_g22, ↓A_g23, ↓A_g25, ↓A_g26, ↓A_g28, ↓A_g29, ↓A_g31, ↓A_g32, ↓A_g34, ↓A_g36, ↓A_g37, ↓A_g38, ↓A_g39, ↓A_g41, ↓A_g42, ↓A_g43, ↓A_g44, ↓A_g61, ↓A_g62, ↓A_g63, ↓A_g65, ↓A_g66, ↓A_g67, ↓A_g68, ↓A_g69, ↓A_g70, ↓A_gN, ↓A_gT, ↓A_gC, ↓r_icge_t, ↓r_icge_f, ↓J_X7_bitsSo_39, ↓L_ild_n2, ↓L_ild_n1, ↓I_X7_doesHoldSo_60, ↓r_ifeq_t, ↓r_ifeq_f, ↓J_X7_bitsSo_30, ↓r_ishl, ↓r_goto, ↓J_X7_bitsSo_31, ↓r_ior, ↓L_iinc3, ↓J_X7_bitsSo_4, ↓r_ireturn, ↓U_X7_bitsSo_0, ↓U_X7_bitsSo_30, ↓U_X7_bitsSo_31, ↓U_X7_bitsSo_39, ↓zthen_v, ↓zthen_0, zU_eq, zU_nc, zU_nj]
  exact m_bitsSo_loop hF hm hc hf _ 0 0 (by omega) (by omega) (by omega)
theorem bit_adj {s τ : zM} {m i j : Int} (A : AdR s τ m i j) (hij : i < j ∨ j < i) (hs : s 33 1 = m) (ht : τ 61 1 = m) : bitA s i = bitB τ 1 ∧ bitA s j = bitB τ 0 := by
  obtain ⟨a1, a2, a3, a4, a5⟩ := A
  unfold bitA bitB
  rw [hs, ht]
  refine ⟨bitI_congr _ _ _ (fun t b c => ?_), bitI_congr _ _ _ (fun t b c => ?_)⟩
  · have h := a1 t b (by omega)
    refine decide_eq_decide.mpr ?_
    omega
  · have h := a1 t b (by omega)
    refine decide_eq_decide.mpr ?_
    omega
theorem woS_1 (σ : zM) (B m i j : Int) : woS σ B m i j 33 1 = m := by
  unfold woS
  rw [saS_nc _ _ _ _ (by omega)]
  unfold woS4
  split
  · rw [mvS_nc _ _ _ _ _ _ _ _ _ (by omega)]; exact woS3_1 _ _ _ _ _
  · split
    · rw [mvS_nc _ _ _ _ _ _ _ _ _ (by omega)]; exact woS3_1 _ _ _ _ _
    · exact woS3_1 _ _ _ _ _
set_option maxRecDepth 20000 in
set_option maxHeartbeats 2000000 in
theorem m_alikeOf {s τ : zM} {m i j w : Int} (hV : V1 τ) (hF : Fl τ) (hm : τ 61 1 = m) (hi : 0 ≤ i ∧ i < 4) (hj : 0 ≤ j ∧ j < 4) (A : AdR s τ m i j) (hw : -2147483648 ≤ w ∧ w < 2147483648) : zcall 153 [vR 60, vI i, vI w] τ = some (some (vL (lowT (s 33 8) (s 33 9) w)), τ) := by
  have v1 := hV.2.1
  obtain ⟨a1, ⟨t4, t5, t6, t7, t2, t3⟩, a3, a4, l1, l2, l3, l4, l5⟩ := A
  have m1 := m_sumOf hV hF hi (f := 1) (by omega)
  have m2 := m_allOf (σ := τ) (p := i) (by omega) hi
  have bI := allM_bd hV hi
  have s1 := sF_bd hV hi (f := 1)
  have hl := m_lowest (σ := τ) (a := upM τ i) (b := allM τ i * τ 60 7) (part := w) (by omega) (by omega) hw
  have k1 := mul_bd s1 (show 0 ≤ τ 60 7 ∧ τ 60 7 ≤ 117612 by omega)
  rw [← lowT_cross l4.1 l5.1 l2.1 l3.1 l1, S_X7_alikeOf]
  have hup : upM τ i = sF τ i 1 * τ 60 7 + (if τ 60 5 = -1 then 0 else if τ 60 9 = i then -Qp τ i (τ 60 5) * τ 60 6 else Qp τ i (τ 60 5) * τ 60 6) := rfl
  by_cases q1 : τ 60 5 = -1
  · rw [if_pos q1, Int.add_zero] at hup
    rw [hup] at hl
    rw [hup]
    simp (disch := first | exact z_tt rfl | assumption | omega | (simp (disch := omega) only [zU_eq, zU_nc, zU_nj]; omega)) only [↓L_ald_n0, ↓L_ild_n1, ↓r_iconst, ↓I_X7_sumOf_60, ↓r_i2l, ↓F_g60_7, ↓r_lmul, ↓L_lst_n3, ↓L_lst_n3L, ↓F_g60_5, ↓r_iceq_t, ↓r_iceq_f, ↓J_X7_alikeOf_66, ↓L_lld_n3, ↓F_g60_9, ↓r_icne_t, ↓r_icne_f, ↓J_X7_alikeOf_49, ↓I_X7_pointsOf_60, ↓r_ineg, ↓F_g60_6, ↓r_goto, ↓J_X7_alikeOf_64, ↓r_ladd, ↓I_X7_allOf_60, ↓L_ild_n2, ↓I_X7_lowest, ↓r_lreturn, ↓U_X7_alikeOf_0, ↓U_X7_alikeOf_49, ↓U_X7_alikeOf_64, ↓U_X7_alikeOf_66, ↓zthen_v, ↓zthen_0, zU_eq, zU_nc, zU_nj, m1, m2, hl]
  · have qi := Qp_bd hV hi (t := τ 60 5) (by omega)
    have m3 := m_ptsQ (τ := τ) (p := i) (t := τ 60 5) (by omega)
    have u1 := mul_bd qi (show 0 ≤ τ 60 6 ∧ τ 60 6 ≤ 117612 by omega)
    by_cases q2 : τ 60 9 = i
    · rw [if_neg q1, if_pos q2] at hup
      rw [hup] at hl
      rw [hup]
      simp (disch := first | exact z_tt rfl | assumption | omega | (simp (disch := omega) only [zU_eq, zU_nc, zU_nj]; omega)) only [↓L_ald_n0, ↓L_ild_n1, ↓r_iconst, ↓I_X7_sumOf_60, ↓r_i2l, ↓F_g60_7, ↓r_lmul, ↓L_lst_n3, ↓L_lst_n3L, ↓F_g60_5, ↓r_iceq_t, ↓r_iceq_f, ↓J_X7_alikeOf_66, ↓L_lld_n3, ↓F_g60_9, ↓r_icne_t, ↓r_icne_f, ↓J_X7_alikeOf_49, ↓I_X7_pointsOf_60, ↓r_ineg, ↓F_g60_6, ↓r_goto, ↓J_X7_alikeOf_64, ↓r_ladd, ↓I_X7_allOf_60, ↓L_ild_n2, ↓I_X7_lowest, ↓r_lreturn, ↓U_X7_alikeOf_0, ↓U_X7_alikeOf_49, ↓U_X7_alikeOf_64, ↓U_X7_alikeOf_66, ↓zthen_v, ↓zthen_0, zU_eq, zU_nc, zU_nj, m1, m2, m3, hl]
    · rw [if_neg q1, if_neg q2] at hup
      rw [hup] at hl
      rw [hup]
      simp (disch := first | exact z_tt rfl | assumption | omega | (simp (disch := omega) only [zU_eq, zU_nc, zU_nj]; omega)) only [↓L_ald_n0, ↓L_ild_n1, ↓r_iconst, ↓I_X7_sumOf_60, ↓r_i2l, ↓F_g60_7, ↓r_lmul, ↓L_lst_n3, ↓L_lst_n3L, ↓F_g60_5, ↓r_iceq_t, ↓r_iceq_f, ↓J_X7_alikeOf_66, ↓L_lld_n3, ↓F_g60_9, ↓r_icne_t, ↓r_icne_f, ↓J_X7_alikeOf_49, ↓I_X7_pointsOf_60, ↓r_ineg, ↓F_g60_6, ↓r_goto, ↓J_X7_alikeOf_64, ↓r_ladd, ↓I_X7_allOf_60, ↓L_ild_n2, ↓I_X7_lowest, ↓r_lreturn, ↓U_X7_alikeOf_0, ↓U_X7_alikeOf_49, ↓U_X7_alikeOf_64, ↓U_X7_alikeOf_66, ↓zthen_v, ↓zthen_0, zU_eq, zU_nc, zU_nj, m1, m2, m3, hl]
def FrA (σ σ1 : zM) : Prop := ∀ c j : Int, (c < 33 ∨ 34 < c) → σ1 c j = σ c j
def FrB (τ τ1 : zM) : Prop := ∀ c j : Int, (c < 60 ∨ (60 < c ∧ c < 64) ∨ 64 < c ∨ (c = 60 ∧ (j < 5 ∨ 10 < j))) → τ1 c j = τ c j
theorem Rel1_fr {σ τ σ1 τ1 : zM} (R : Rel1 σ τ) (h : ∀ c j : Int, 1 ≤ c → c ≤ 16 → σ1 c j = σ c j) (h2 : ∀ j, τ1 61 j = τ 61 j) : Rel1 σ1 τ1 := ⟨RSa_fr R.1 (fun j _ => h _ _ (by omega) (by omega)) (fun p j h1 h2 => h _ _ (by omega) (by omega)) (fun j => h _ _ (by omega) (by omega)) (fun j _ => h2 j), RSs_fr R.2.1 (h _ _ (by omega) (by omega)) (fun k => h _ _ (by omega) (by omega)) (fun k => h _ _ (by omega) (by omega)) (fun j _ => h2 j), RSe_fr R.2.2.1 (h _ _ (by omega) (by omega)) (fun k => h _ _ (by omega) (by omega)) (fun k => h _ _ (by omega) (by omega)) (fun j _ => h2 j), RSb_fr R.2.2.2 (h _ _ (by omega) (by omega)) (fun k => h _ _ (by omega) (by omega)) (fun k => h _ _ (by omega) (by omega)) (fun j _ => h2 j)⟩
def RelA (σ τ : zM) : Prop := Rel1 σ τ ∧ Ow6 σ ∧ Fl τ
theorem FrA_o {σ σ1 : zM} (h : FrA σ σ1) (c : Int) (hc : c < 33 ∨ 34 < c) : σ1 c = σ c := funext fun j => h c j hc
/-- both work out the points that stand: there is none, or both have the same -/
theorem wo_now {σ τ : zM} {i j : Int} (R : RelA σ τ) (hi : 0 ≤ i ∧ i < σ 1 0) (hj : 0 ≤ j ∧ j < σ 1 0) (hij : i < j ∨ j < i) :
    (∃ σ1, zcall 0 [vR 33, vR 2, vI (σ 1 1), vI i, vI j] σ = some (some (vI 0), σ1) ∧ zcall 148 [vR 60, vI i, vI j] τ = some (some (vI 0), τ) ∧ RelA σ1 τ ∧ FrA σ σ1) ∨
    (∃ σ1 τ1, zcall 0 [vR 33, vR 2, vI (σ 1 1), vI i, vI j] σ = some (some (vI 1), σ1) ∧ zcall 148 [vR 60, vI i, vI j] τ = some (some (vI 1), τ1) ∧ RelA σ1 τ1 ∧ FrA σ σ1 ∧ FrB τ τ1 ∧ AdR σ1 τ1 (σ 1 1) i j ∧ σ1 33 1 = σ 1 1) := by
  obtain ⟨R1, Ro, RF⟩ := R
  have hn := R1.n
  have hm := R1.m
  have hV := Rel1_V1 R1
  have hW := Rel1_W1 R1
  have hP : ∀ p : Int, 0 ≤ p → p < 4 → Pts σ (3 + p) := fun p a b => ⟨zshp_pts ⟨a, b⟩, by omega, fun t c d => R1.ptr p t a b c d⟩
  have eI : sumI (σ (3 + i)) 0 (σ 1 1).toNat = allM τ i := (all_eq R1 (p := i) (by omega)).symm
  have eJ : sumI (σ (3 + j)) 0 (σ 1 1).toNat = allM τ j := (all_eq R1 (p := j) (by omega)).symm
  by_cases q : allM τ i = 0 ∨ allM τ j = 0
  · left
    refine ⟨zU σ 33 1 (σ 1 1), c_workOut3_f (by omega) (by omega) (by omega) (hP i (by omega) (by omega)) (hP j (by omega) (by omega)) (by rw [eI, eJ]; exact q), m_adjusts_f hV (by omega) (by omega) q, ⟨Rel1_fr R1 (fun c j a b => zU_nc _ _ _ _ _ _ (by omega)) (fun _ => rfl), fun t a b => by rw [zU_nc _ _ _ _ _ _ (by omega)]; exact Ro t a b, RF⟩, fun c j h => zU_nc _ _ _ _ _ _ (by omega)⟩
  · right
    have q1 : ¬ allM τ i = 0 := fun h => q (Or.inl h)
    have q2 : ¬ allM τ j = 0 := fun h => q (Or.inr h)
    refine ⟨woS σ 3 (σ 1 1) i j, moS τ i j, c_workOut3 (by omega) (by omega) (by omega) (hP i (by omega) (by omega)) (hP j (by omega) (by omega)) Ro (by rw [eI]; exact q1) (by rw [eJ]; exact q2), m_adjusts hV RF (by omega) (by omega) hij q1 q2, ⟨Rel1_fr R1 (fun c j a b => woS_nc _ _ _ _ _ _ _ (by omega)) (fun _ => moS_nc _ _ _ _ _ (by omega)), woS_ow Ro (by omega) (by omega) (by omega), moS_Fl RF _ _⟩, fun c j h => woS_nc _ _ _ _ _ _ _ h, fun c j h => moS_nc _ _ _ _ _ h, ?_, woS_1 _ _ _ _ _⟩
    exact adj_eq (Or.inl rfl) hV hm.2.2 (by omega) (by omega) hij (fun t a b => (R1.pt i t (by omega) (by omega) a b).symm) (fun t a b => (R1.pt j t (by omega) (by omega) a b).symm) q1 q2
