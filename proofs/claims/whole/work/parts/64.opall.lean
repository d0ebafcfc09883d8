set_option maxRecDepth 20000 in
theorem op_all {σ τ : zM} {p : Int} (R : Rel1 σ τ) (hp : -2147483648 ≤ p ∧ p < 2147483648) : Same σ τ (zcall 62 [vR 0, vI p] σ) (zcall 117 [vR 60, vI p] τ) := by
  have hn := R.n
  have hm := R.m
  by_cases q1 : 0 ≤ p ∧ p < σ 1 0
  · have c1 := c_X6_isParty_t (σ := σ) (p := p) q1 (by omega)
    have m1 := m_isParty_t (σ := τ) (p := p) (by omega) (by omega)
    have c4 := c_X2_total (σ := σ) (p := p) (Rel1_W1 R) (by omega)
    have m4 := m_allOf (σ := τ) (p := p) (by omega) (by omega)
    rw [all_eq R (by omega)] at m4
    refine Same_id R (allP σ p) ?_ ?_
    · rw [S_X6_all]
      simp (disch := first | exact z_tt rfl | assumption | omega | (simp (disch := omega) only [zU_eq, zU_nc, zU_nj]; omega)) only [↓L_ald_n0, ↓L_ild_n1, ↓I_X6_isParty_0, ↓r_ifeq_t, ↓r_ifeq_f, ↓J_X6_all_19, ↓F_g0_0, ↓I_X2_total_1, ↓I_X2_total_17, ↓r_goto, ↓J_X6_all_20, ↓r_iconst, ↓r_ireturn, ↓U_X6_all_0, ↓U_X6_all_19, ↓U_X6_all_20, ↓zthen_v, ↓zthen_0, zU_eq, zU_nc, zU_nj, c1, c4]
    · rw [S_X7_all]
      simp (disch := first | exact z_tt rfl | assumption | omega | (simp (disch := omega) only [zU_eq, zU_nc, zU_nj]; omega)) only [↓L_ald_n0, ↓L_ild_n1, ↓I_X7_isParty_60, ↓r_ifeq_t, ↓r_ifeq_f, ↓J_X7_all_16, ↓I_X7_allOf_60, ↓r_goto, ↓J_X7_all_17, ↓r_iconst, ↓r_ireturn, ↓U_X7_all_0, ↓U_X7_all_16, ↓U_X7_all_17, ↓zthen_v, ↓zthen_0, zU_eq, zU_nc, zU_nj, m1, m4]
  · have c1 := c_X6_isParty_f (σ := σ) (p := p) (by omega) (by omega)
    have m1 := m_isParty_f (σ := τ) (p := p) (by omega) (by omega)
    refine Same_id R (-1) ?_ ?_
    · rw [S_X6_all]
      simp (disch := first | exact z_tt rfl | assumption | omega | (simp (disch := omega) only [zU_eq, zU_nc, zU_nj]; omega)) only [↓L_ald_n0, ↓L_ild_n1, ↓I_X6_isParty_0, ↓r_ifeq_t, ↓r_ifeq_f, ↓J_X6_all_19, ↓F_g0_0, ↓I_X2_total_1, ↓I_X2_total_17, ↓r_goto, ↓J_X6_all_20, ↓r_iconst, ↓r_ireturn, ↓U_X6_all_0, ↓U_X6_all_19, ↓U_X6_all_20, ↓zthen_v, ↓zthen_0, zU_eq, zU_nc, zU_nj, c1]
    · rw [S_X7_all]
      simp (disch := first | exact z_tt rfl | assumption | omega | (simp (disch := omega) only [zU_eq, zU_nc, zU_nj]; omega)) only [↓L_ald_n0, ↓L_ild_n1, ↓I_X7_isParty_60, ↓r_ifeq_t, ↓r_ifeq_f, ↓J_X7_all_16, ↓I_X7_allOf_60, ↓r_goto, ↓J_X7_all_17, ↓r_iconst, ↓r_ireturn, ↓U_X7_all_0, ↓U_X7_all_16, ↓U_X7_all_17, ↓zthen_v, ↓zthen_0, zU_eq, zU_nc, zU_nj, m1]
