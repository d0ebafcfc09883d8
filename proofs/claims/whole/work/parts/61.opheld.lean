set_option maxRecDepth 20000 in
set_option maxHeartbeats 4000000 in
theorem op_held {σ τ : zM} {p t w : Int} (R : Rel1 σ τ) (hp : -2147483648 ≤ p ∧ p < 2147483648) (ht : -2147483648 ≤ t ∧ t < 2147483648) (hw : -2147483648 ≤ w ∧ w < 2147483648) : ∃ v, zcall 57 [vR 0, vI p, vI t, vI w] σ = some (some (vL v), σ) ∧ zcall 128 [vR 60, vI p, vI t, vI w] τ = some (some (vL v), τ) := by
  have hn := R.n
  have hm := R.m
  have hc := R.cut
  by_cases q1 : 0 ≤ p ∧ p < σ 1 0
  · have c1 := c_X6_isParty_t (σ := σ) (p := p) q1 (by omega)
    have m1 := m_isParty_t (σ := τ) (p := p) (by omega) (by omega)
    by_cases q2 : 0 ≤ t ∧ t < σ 1 1
    · have c2 := c_X6_isThing_t (σ := σ) (p := t) q2 (by omega)
      have m2 := m_isThing_t (σ := τ) (p := t) (by omega) (by omega)
      by_cases q3 : 0 ≤ w ∧ w ≤ 1
      · have c3 := c_X6_isPart_t (σ := σ) (p := w) q3
        have m3 := m_isPart_t (σ := τ) (p := w) q3
        have hb := prt_bd (Rel1_W1 R) p t
        have hb2 := hup_bd (Rel1_V1 R) p (t := t) (by omega)
        have hl : 0 < τ 61 (23 + t) ∧ τ 61 (23 + t) ≤ 200000 := by
          by_cases q : σ 1 4 = t
          · have := R.cuY t (by omega) (by omega) q; omega
          · have := R.cuN t (by omega) (by omega) q; omega
        have c4 := c_X2_partsOf (σ := σ) (p := p) (t := t) (Rel1_W1 R) (by omega) (by omega)
        have m4 := m_heldUp (τ := τ) (p := p) (t := t) (Rel1_V1 R) (by omega) (by omega)
        have c5 := c_X6_inLowestTerms (σ := σ) (a := prt σ p t) (b := σ 1 7) (part := w) (by omega) (by omega) (by omega)
        have m5 := m_lowest (σ := τ) (a := hup τ p t) (b := τ 61 (23 + t)) (part := w) (by omega) (by omega) (by omega)
        have e := held_eq R (p := p) (t := t) (by omega) (by omega) w
        refine ⟨lowT (prt σ p t) (σ 1 7) w, ?_, ?_⟩
        · rw [S_X6_held]
          simp (disch := first | exact z_tt rfl | assumption | omega | (simp (disch := omega) only [zU_eq, zU_nc, zU_nj]; omega)) only [↓L_ald_n0, ↓L_ild_n1, ↓I_X6_isParty_0, ↓r_ifeq_t, ↓r_ifeq_f, ↓J_X6_held_23, ↓L_ild_n2, ↓I_X6_isThing_0, ↓L_ild_n3, ↓I_X6_isPart, ↓r_ifne_t, ↓r_ifne_f, ↓J_X6_held_27, ↓r_ldc2w, ↓r_lreturn, ↓F_g0_0, ↓I_X2_partsOf_1, ↓I_X2_partsOf_17, ↓F_g1_7, ↓F_g17_7, ↓I_X6_inLowestTerms, ↓U_X6_held_0, ↓U_X6_held_23, ↓U_X6_held_27, ↓zthen_v, ↓zthen_0, zU_eq, zU_nc, zU_nj, c1, c2, c3, c4, c5]
        · rw [S_X7_held, e]
          simp (disch := first | exact z_tt rfl | assumption | omega | (simp (disch := omega) only [zU_eq, zU_nc, zU_nj]; omega)) only [↓L_ald_n0, ↓L_ild_n1, ↓I_X7_isParty_60, ↓r_ifeq_t, ↓r_ifeq_f, ↓J_X7_held_23, ↓L_ild_n2, ↓I_X7_isThing_60, ↓L_ild_n3, ↓I_X7_isPart, ↓r_ifne_t, ↓r_ifne_f, ↓J_X7_held_27, ↓r_ldc2w, ↓r_lreturn, ↓I_X7_heldUp_60, ↓r_i2l, ↓F_g60_0, ↓r_bipush, ↓r_iadd, ↓A_g3, ↓A_g4, ↓A_g5, ↓A_g6, ↓A_g7, ↓A_g9, ↓A_g10, ↓A_g12, ↓A_g13, ↓A_g15, ↓A_g16, ↓A_g19, ↓A_g20, ↓A_g21, ↓A_g22, ↓A_g23, ↓A_g25, ↓A_g26, ↓A_g28, ↓A_g29, ↓A_g31, ↓A_g32, ↓A_g34, ↓A_g36, ↓A_g37, ↓A_g38, ↓A_g39, ↓A_g41, ↓A_g42, ↓A_g43, ↓A_g44, ↓A_g61, ↓A_g62, ↓A_g63, ↓A_g65, ↓A_g66, ↓A_g67, ↓A_g68, ↓A_g69, ↓A_g70, ↓A_gN, ↓A_gT, ↓A_gC, ↓I_X7_lowest, ↓U_X7_held_0, ↓U_X7_held_23, ↓U_X7_held_27, ↓zthen_v, ↓zthen_0, zU_eq, zU_nc, zU_nj, m1, m2, m3, m4, m5]
      · have c3 := c_X6_isPart_f (σ := σ) (p := w) (by omega)
        have m3 := m_isPart_f (σ := τ) (p := w) (by omega)
        refine ⟨-9223372036854775808, ?_, ?_⟩
        · rw [S_X6_held]
          simp (disch := first | exact z_tt rfl | assumption | omega | (simp (disch := omega) only [zU_eq, zU_nc, zU_nj]; omega)) only [↓L_ald_n0, ↓L_ild_n1, ↓I_X6_isParty_0, ↓r_ifeq_t, ↓r_ifeq_f, ↓J_X6_held_23, ↓L_ild_n2, ↓I_X6_isThing_0, ↓L_ild_n3, ↓I_X6_isPart, ↓r_ifne_t, ↓r_ifne_f, ↓J_X6_held_27, ↓r_ldc2w, ↓r_lreturn, ↓F_g0_0, ↓I_X2_partsOf_1, ↓I_X2_partsOf_17, ↓F_g1_7, ↓F_g17_7, ↓I_X6_inLowestTerms, ↓U_X6_held_0, ↓U_X6_held_23, ↓U_X6_held_27, ↓zthen_v, ↓zthen_0, zU_eq, zU_nc, zU_nj, c1, c2, c3]
        · rw [S_X7_held]
          simp (disch := first | exact z_tt rfl | assumption | omega | (simp (disch := omega) only [zU_eq, zU_nc, zU_nj]; omega)) only [↓L_ald_n0, ↓L_ild_n1, ↓I_X7_isParty_60, ↓r_ifeq_t, ↓r_ifeq_f, ↓J_X7_held_23, ↓L_ild_n2, ↓I_X7_isThing_60, ↓L_ild_n3, ↓I_X7_isPart, ↓r_ifne_t, ↓r_ifne_f, ↓J_X7_held_27, ↓r_ldc2w, ↓r_lreturn, ↓I_X7_heldUp_60, ↓r_i2l, ↓F_g60_0, ↓r_bipush, ↓r_iadd, ↓A_g3, ↓A_g4, ↓A_g5, ↓A_g6, ↓A_g7, ↓A_g9, ↓A_g10, ↓A_g12, ↓A_g13, ↓A_g15, ↓A_g16, ↓A_g19, ↓A_g20, ↓A_g21, ↓A_g22, ↓A_g23, ↓A_g25, ↓A_g26, ↓A_g28, ↓A_g29, ↓A_g31, ↓A_g32, ↓A_g34, ↓A_g36, ↓A_g37, ↓A_g38, ↓A_g39, ↓A_g41, ↓A_g42, ↓A_g43, ↓A_g44, ↓A_g61, ↓A_g62, ↓A_g63, ↓A_g65, ↓A_g66, ↓A_g67, ↓A_g68, ↓A_g69, ↓A_g70, ↓A_gN, ↓A_gT, ↓A_gC, ↓I_X7_lowest, ↓U_X7_held_0, ↓U_X7_held_23, ↓U_X7_held_27, ↓zthen_v, ↓zthen_0, zU_eq, zU_nc, zU_nj, m1, m2, m3]
    · have c2 := c_X6_isThing_f (σ := σ) (p := t) (by omega) (by omega)
      have m2 := m_isThing_f (σ := τ) (p := t) (by omega) (by omega)
      refine ⟨-9223372036854775808, ?_, ?_⟩
      · rw [S_X6_held]
        simp (disch := first | exact z_tt rfl | assumption | omega | (simp (disch := omega) only [zU_eq, zU_nc, zU_nj]; omega)) only [↓L_ald_n0, ↓L_ild_n1, ↓I_X6_isParty_0, ↓r_ifeq_t, ↓r_ifeq_f, ↓J_X6_held_23, ↓L_ild_n2, ↓I_X6_isThing_0, ↓L_ild_n3, ↓I_X6_isPart, ↓r_ifne_t, ↓r_ifne_f, ↓J_X6_held_27, ↓r_ldc2w, ↓r_lreturn, ↓F_g0_0, ↓I_X2_partsOf_1, ↓I_X2_partsOf_17, ↓F_g1_7, ↓F_g17_7, ↓I_X6_inLowestTerms, ↓U_X6_held_0, ↓U_X6_held_23, ↓U_X6_held_27, ↓zthen_v, ↓zthen_0, zU_eq, zU_nc, zU_nj, c1, c2]
      · rw [S_X7_held]
        simp (disch := first | exact z_tt rfl | assumption | omega | (simp (disch := omega) only [zU_eq, zU_nc, zU_nj]; omega)) only [↓L_ald_n0, ↓L_ild_n1, ↓I_X7_isParty_60, ↓r_ifeq_t, ↓r_ifeq_f, ↓J_X7_held_23, ↓L_ild_n2, ↓I_X7_isThing_60, ↓L_ild_n3, ↓I_X7_isPart, ↓r_ifne_t, ↓r_ifne_f, ↓J_X7_held_27, ↓r_ldc2w, ↓r_lreturn, ↓I_X7_heldUp_60, ↓r_i2l, ↓F_g60_0, ↓r_bipush, ↓r_iadd, ↓A_g3, ↓A_g4, ↓A_g5, ↓A_g6, ↓A_g7, ↓A_g9, ↓A_g10, ↓A_g12, ↓A_g13, ↓A_g15, ↓A_g16, ↓A_g19, ↓A_g20, ↓A_g21, ↓A_g22, ↓A_g23, ↓A_g25, ↓A_g26, ↓A_g28, ↓A_g29, ↓A_g31, ↓A_g32, ↓A_g34, ↓A_g36, ↓A_g37, ↓A_g38, ↓A_g39, ↓A_g41, ↓A_g42, ↓A_g43, ↓A_g44, ↓A_g61, ↓A_g62, ↓A_g63, ↓A_g65, ↓A_g66, ↓A_g67, ↓A_g68, ↓A_g69, ↓A_g70, ↓A_gN, ↓A_gT, ↓A_gC, ↓I_X7_lowest, ↓U_X7_held_0, ↓U_X7_held_23, ↓U_X7_held_27, ↓zthen_v, ↓zthen_0, zU_eq, zU_nc, zU_nj, m1, m2]
  · have c1 := c_X6_isParty_f (σ := σ) (p := p) (by omega) (by omega)
    have m1 := m_isParty_f (σ := τ) (p := p) (by omega) (by omega)
    refine ⟨-9223372036854775808, ?_, ?_⟩
    · rw [S_X6_held]
      simp (disch := first | exact z_tt rfl | assumption | omega | (simp (disch := omega) only [zU_eq, zU_nc, zU_nj]; omega)) only [↓L_ald_n0, ↓L_ild_n1, ↓I_X6_isParty_0, ↓r_ifeq_t, ↓r_ifeq_f, ↓J_X6_held_23, ↓L_ild_n2, ↓I_X6_isThing_0, ↓L_ild_n3, ↓I_X6_isPart, ↓r_ifne_t, ↓r_ifne_f, ↓J_X6_held_27, ↓r_ldc2w, ↓r_lreturn, ↓F_g0_0, ↓I_X2_partsOf_1, ↓I_X2_partsOf_17, ↓F_g1_7, ↓F_g17_7, ↓I_X6_inLowestTerms, ↓U_X6_held_0, ↓U_X6_held_23, ↓U_X6_held_27, ↓zthen_v, ↓zthen_0, zU_eq, zU_nc, zU_nj, c1]
    · rw [S_X7_held]
      simp (disch := first | exact z_tt rfl | assumption | omega | (simp (disch := omega) only [zU_eq, zU_nc, zU_nj]; omega)) only [↓L_ald_n0, ↓L_ild_n1, ↓I_X7_isParty_60, ↓r_ifeq_t, ↓r_ifeq_f, ↓J_X7_held_23, ↓L_ild_n2, ↓I_X7_isThing_60, ↓L_ild_n3, ↓I_X7_isPart, ↓r_ifne_t, ↓r_ifne_f, ↓J_X7_held_27, ↓r_ldc2w, ↓r_lreturn, ↓I_X7_heldUp_60, ↓r_i2l, ↓F_g60_0, ↓r_bipush, ↓r_iadd, ↓A_g3, ↓A_g4, ↓A_g5, ↓A_g6, ↓A_g7, ↓A_g9, ↓A_g10, ↓A_g12, ↓A_g13, ↓A_g15, ↓A_g16, ↓A_g19, ↓A_g20, ↓A_g21, ↓A_g22, ↓A_g23, ↓A_g25, ↓A_g26, ↓A_g28, ↓A_g29, ↓A_g31, ↓A_g32, ↓A_g34, ↓A_g36, ↓A_g37, ↓A_g38, ↓A_g39, ↓A_g41, ↓A_g42, ↓A_g43, ↓A_g44, ↓A_g61, ↓A_g62, ↓A_g63, ↓A_g65, ↓A_g66, ↓A_g67, ↓A_g68, ↓A_g69, ↓A_g70, ↓A_gN, ↓A_gT, ↓A_gC, ↓I_X7_lowest, ↓U_X7_held_0, ↓U_X7_held_23, ↓U_X7_held_27, ↓zthen_v, ↓zthen_0, zU_eq, zU_nc, zU_nj, m1]
