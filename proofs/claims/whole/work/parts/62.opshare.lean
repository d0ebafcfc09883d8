set_option maxRecDepth 20000 in
set_option maxHeartbeats 4000000 in
theorem op_share {σ τ : zM} {p t w : Int} (R : Rel1 σ τ) (hp : -2147483648 ≤ p ∧ p < 2147483648) (ht : -2147483648 ≤ t ∧ t < 2147483648) (hw : -2147483648 ≤ w ∧ w < 2147483648) : ∃ v, zcall 58 [vR 0, vI p, vI t, vI w] σ = some (some (vL v), σ) ∧ zcall 132 [vR 60, vI p, vI t, vI w] τ = some (some (vL v), τ) := by
  have hn := R.n
  have hm := R.m
  have hc := R.cut
  by_cases q1 : 0 ≤ p ∧ p < σ 1 0
  · have c1 := c_X6_isParty_t (σ := σ) (p := p) q1 (by omega)
    have m1 := m_isParty_t (σ := τ) (p := p) (by omega) (by omega)
    by_cases q2 : 0 ≤ t ∧ t < σ 1 0
    · have c2 := c_X6_isParty_t (σ := σ) (p := t) q2 (by omega)
      have m2 := m_isParty_t (σ := τ) (p := t) (by omega) (by omega)
      by_cases q3 : 0 ≤ w ∧ w ≤ 1
      · have c3 := c_X6_isPart_t (σ := σ) (p := w) q3
        have m3 := m_isPart_t (σ := τ) (p := w) q3
        have c4 := c_X2_total (σ := σ) (p := p) (Rel1_W1 R) (by omega)
        have m4 := m_allOf (σ := τ) (p := p) (by omega) (by omega)
        rw [all_eq R (by omega)] at m4
        have ba := allP_bd (Rel1_W1 R) (p := p) (by omega)
        by_cases q4 : allP σ p = 0
        · refine ⟨1, ?_, ?_⟩
          · rw [S_X6_share]
            simp (disch := first | exact z_tt rfl | assumption | omega | (simp (disch := omega) only [zU_eq, zU_nc, zU_nj]; omega)) only [↓L_ald_n0, ↓L_ild_n1, ↓I_X6_isParty_0, ↓r_ifeq_t, ↓r_ifeq_f, ↓J_X6_share_23, ↓L_ild_n2, ↓L_ild_n3, ↓I_X6_isPart, ↓r_ifne_t, ↓r_ifne_f, ↓J_X6_share_27, ↓r_ldc2w, ↓r_lreturn, ↓F_g0_0, ↓I_X2_total_1, ↓I_X2_total_17, ↓r_i2l, ↓L_lst4, ↓L_lst4L, ↓L_lld4, ↓r_lconst, ↓J_X6_share_47, ↓r_lne_t, ↓r_lne_f, ↓I_X2_worth_1, ↓I_X2_worth_17, ↓F_g1_7, ↓F_g17_7, ↓r_lmul, ↓I_X6_inLowestTerms, ↓U_X6_share_0, ↓U_X6_share_23, ↓U_X6_share_27, ↓U_X6_share_47, ↓zthen_v, ↓zthen_0, zU_eq, zU_nc, zU_nj, c1, c2, c3, c4]
          · rw [S_X7_share]
            simp (disch := first | exact z_tt rfl | assumption | omega | (simp (disch := omega) only [zU_eq, zU_nc, zU_nj]; omega)) only [↓L_ald_n0, ↓L_ild_n1, ↓I_X7_isParty_60, ↓r_ifeq_t, ↓r_ifeq_f, ↓J_X7_share_23, ↓L_ild_n2, ↓L_ild_n3, ↓I_X7_isPart, ↓r_ifne_t, ↓r_ifne_f, ↓J_X7_share_27, ↓r_ldc2w, ↓r_lreturn, ↓I_X7_allOf_60, ↓J_X7_share_39, ↓r_lconst, ↓r_goto, ↓J_X7_share_60, ↓I_X7_worth_60, ↓r_i2l, ↓I_X7_lowOfAll_60, ↓r_lmul, ↓I_X7_lowest, ↓U_X7_share_0, ↓U_X7_share_23, ↓U_X7_share_27, ↓U_X7_share_39, ↓U_X7_share_60, ↓zthen_v, ↓zthen_0, zU_eq, zU_nc, zU_nj, m1, m2, m3, m4]
        · have m5 := m_lowOfAll (Rel1_V1 R)
          have m6 := m_worth (τ := τ) (b := p) (w := t) (Rel1_V1 R) (by rw [low_eq R]; omega) (by omega) (by omega)
          rw [low_eq R] at m5
          rw [wor_eq R (by omega) (by omega)] at m6
          have c6 := c_X2_worth (σ := σ) (b := p) (w := t) (Rel1_W1 R) (by omega) (by omega)
          have bw := wor_bd (Rel1_W1 R) (b := p) (w := t) (by omega)
          have bm := mul_bd (a := allP σ p) (b := σ 1 7) (A := 594) (B := 200000) (by omega) (by omega)
          have bp : 0 < allP σ p * σ 1 7 := Int.mul_pos (by omega) (by omega)
          have c7 := c_X6_inLowestTerms (σ := σ) (a := wor σ p t) (b := allP σ p * σ 1 7) (part := w) (by omega) (by omega) (by omega)
          have m7 := m_lowest (σ := τ) (a := wor σ p t) (b := allP σ p * σ 1 7) (part := w) (by omega) (by omega) (by omega)
          refine ⟨lowT (wor σ p t) (allP σ p * σ 1 7) w, ?_, ?_⟩
          · rw [S_X6_share]
            simp (disch := first | exact z_tt rfl | assumption | omega | (simp (disch := omega) only [zU_eq, zU_nc, zU_nj]; omega)) only [↓L_ald_n0, ↓L_ild_n1, ↓I_X6_isParty_0, ↓r_ifeq_t, ↓r_ifeq_f, ↓J_X6_share_23, ↓L_ild_n2, ↓L_ild_n3, ↓I_X6_isPart, ↓r_ifne_t, ↓r_ifne_f, ↓J_X6_share_27, ↓r_ldc2w, ↓r_lreturn, ↓F_g0_0, ↓I_X2_total_1, ↓I_X2_total_17, ↓r_i2l, ↓L_lst4, ↓L_lst4L, ↓L_lld4, ↓r_lconst, ↓J_X6_share_47, ↓r_lne_t, ↓r_lne_f, ↓I_X2_worth_1, ↓I_X2_worth_17, ↓F_g1_7, ↓F_g17_7, ↓r_lmul, ↓I_X6_inLowestTerms, ↓U_X6_share_0, ↓U_X6_share_23, ↓U_X6_share_27, ↓U_X6_share_47, ↓zthen_v, ↓zthen_0, zU_eq, zU_nc, zU_nj, c1, c2, c3, c4, c6, c7]
          · rw [S_X7_share]
            simp (disch := first | exact z_tt rfl | assumption | omega | (simp (disch := omega) only [zU_eq, zU_nc, zU_nj]; omega)) only [↓L_ald_n0, ↓L_ild_n1, ↓I_X7_isParty_60, ↓r_ifeq_t, ↓r_ifeq_f, ↓J_X7_share_23, ↓L_ild_n2, ↓L_ild_n3, ↓I_X7_isPart, ↓r_ifne_t, ↓r_ifne_f, ↓J_X7_share_27, ↓r_ldc2w, ↓r_lreturn, ↓I_X7_allOf_60, ↓J_X7_share_39, ↓r_lconst, ↓r_goto, ↓J_X7_share_60, ↓I_X7_worth_60, ↓r_i2l, ↓I_X7_lowOfAll_60, ↓r_lmul, ↓I_X7_lowest, ↓U_X7_share_0, ↓U_X7_share_23, ↓U_X7_share_27, ↓U_X7_share_39, ↓U_X7_share_60, ↓zthen_v, ↓zthen_0, zU_eq, zU_nc, zU_nj, m1, m2, m3, m4, m5, m6, m7]
      · have c3 := c_X6_isPart_f (σ := σ) (p := w) (by omega)
        have m3 := m_isPart_f (σ := τ) (p := w) (by omega)
        refine ⟨-9223372036854775808, ?_, ?_⟩
        · rw [S_X6_share]
          simp (disch := first | exact z_tt rfl | assumption | omega | (simp (disch := omega) only [zU_eq, zU_nc, zU_nj]; omega)) only [↓L_ald_n0, ↓L_ild_n1, ↓I_X6_isParty_0, ↓r_ifeq_t, ↓r_ifeq_f, ↓J_X6_share_23, ↓L_ild_n2, ↓L_ild_n3, ↓I_X6_isPart, ↓r_ifne_t, ↓r_ifne_f, ↓J_X6_share_27, ↓r_ldc2w, ↓r_lreturn, ↓F_g0_0, ↓I_X2_total_1, ↓I_X2_total_17, ↓r_i2l, ↓L_lst4, ↓L_lst4L, ↓L_lld4, ↓r_lconst, ↓J_X6_share_47, ↓r_lne_t, ↓r_lne_f, ↓I_X2_worth_1, ↓I_X2_worth_17, ↓F_g1_7, ↓F_g17_7, ↓r_lmul, ↓I_X6_inLowestTerms, ↓U_X6_share_0, ↓U_X6_share_23, ↓U_X6_share_27, ↓U_X6_share_47, ↓zthen_v, ↓zthen_0, zU_eq, zU_nc, zU_nj, c1, c2, c3]
        · rw [S_X7_share]
          simp (disch := first | exact z_tt rfl | assumption | omega | (simp (disch := omega) only [zU_eq, zU_nc, zU_nj]; omega)) only [↓L_ald_n0, ↓L_ild_n1, ↓I_X7_isParty_60, ↓r_ifeq_t, ↓r_ifeq_f, ↓J_X7_share_23, ↓L_ild_n2, ↓L_ild_n3, ↓I_X7_isPart, ↓r_ifne_t, ↓r_ifne_f, ↓J_X7_share_27, ↓r_ldc2w, ↓r_lreturn, ↓I_X7_allOf_60, ↓J_X7_share_39, ↓r_lconst, ↓r_goto, ↓J_X7_share_60, ↓I_X7_worth_60, ↓r_i2l, ↓I_X7_lowOfAll_60, ↓r_lmul, ↓I_X7_lowest, ↓U_X7_share_0, ↓U_X7_share_23, ↓U_X7_share_27, ↓U_X7_share_39, ↓U_X7_share_60, ↓zthen_v, ↓zthen_0, zU_eq, zU_nc, zU_nj, m1, m2, m3]
    · have c2 := c_X6_isParty_f (σ := σ) (p := t) (by omega) (by omega)
      have m2 := m_isParty_f (σ := τ) (p := t) (by omega) (by omega)
      refine ⟨-9223372036854775808, ?_, ?_⟩
      · rw [S_X6_share]
        simp (disch := first | exact z_tt rfl | assumption | omega | (simp (disch := omega) only [zU_eq, zU_nc, zU_nj]; omega)) only [↓L_ald_n0, ↓L_ild_n1, ↓I_X6_isParty_0, ↓r_ifeq_t, ↓r_ifeq_f, ↓J_X6_share_23, ↓L_ild_n2, ↓L_ild_n3, ↓I_X6_isPart, ↓r_ifne_t, ↓r_ifne_f, ↓J_X6_share_27, ↓r_ldc2w, ↓r_lreturn, ↓F_g0_0, ↓I_X2_total_1, ↓I_X2_total_17, ↓r_i2l, ↓L_lst4, ↓L_lst4L, ↓L_lld4, ↓r_lconst, ↓J_X6_share_47, ↓r_lne_t, ↓r_lne_f, ↓I_X2_worth_1, ↓I_X2_worth_17, ↓F_g1_7, ↓F_g17_7, ↓r_lmul, ↓I_X6_inLowestTerms, ↓U_X6_share_0, ↓U_X6_share_23, ↓U_X6_share_27, ↓U_X6_share_47, ↓zthen_v, ↓zthen_0, zU_eq, zU_nc, zU_nj, c1, c2]
      · rw [S_X7_share]
        simp (disch := first | exact z_tt rfl | assumption | omega | (simp (disch := omega) only [zU_eq, zU_nc, zU_nj]; omega)) only [↓L_ald_n0, ↓L_ild_n1, ↓I_X7_isParty_60, ↓r_ifeq_t, ↓r_ifeq_f, ↓J_X7_share_23, ↓L_ild_n2, ↓L_ild_n3, ↓I_X7_isPart, ↓r_ifne_t, ↓r_ifne_f, ↓J_X7_share_27, ↓r_ldc2w, ↓r_lreturn, ↓I_X7_allOf_60, ↓J_X7_share_39, ↓r_lconst, ↓r_goto, ↓J_X7_share_60, ↓I_X7_worth_60, ↓r_i2l, ↓I_X7_lowOfAll_60, ↓r_lmul, ↓I_X7_lowest, ↓U_X7_share_0, ↓U_X7_share_23, ↓U_X7_share_27, ↓U_X7_share_39, ↓U_X7_share_60, ↓zthen_v, ↓zthen_0, zU_eq, zU_nc, zU_nj, m1, m2]
  · have c1 := c_X6_isParty_f (σ := σ) (p := p) (by omega) (by omega)
    have m1 := m_isParty_f (σ := τ) (p := p) (by omega) (by omega)
    refine ⟨-9223372036854775808, ?_, ?_⟩
    · rw [S_X6_share]
      simp (disch := first | exact z_tt rfl | assumption | omega | (simp (disch := omega) only [zU_eq, zU_nc, zU_nj]; omega)) only [↓L_ald_n0, ↓L_ild_n1, ↓I_X6_isParty_0, ↓r_ifeq_t, ↓r_ifeq_f, ↓J_X6_share_23, ↓L_ild_n2, ↓L_ild_n3, ↓I_X6_isPart, ↓r_ifne_t, ↓r_ifne_f, ↓J_X6_share_27, ↓r_ldc2w, ↓r_lreturn, ↓F_g0_0, ↓I_X2_total_1, ↓I_X2_total_17, ↓r_i2l, ↓L_lst4, ↓L_lst4L, ↓L_lld4, ↓r_lconst, ↓J_X6_share_47, ↓r_lne_t, ↓r_lne_f, ↓I_X2_worth_1, ↓I_X2_worth_17, ↓F_g1_7, ↓F_g17_7, ↓r_lmul, ↓I_X6_inLowestTerms, ↓U_X6_share_0, ↓U_X6_share_23, ↓U_X6_share_27, ↓U_X6_share_47, ↓zthen_v, ↓zthen_0, zU_eq, zU_nc, zU_nj, c1]
    · rw [S_X7_share]
      simp (disch := first | exact z_tt rfl | assumption | omega | (simp (disch := omega) only [zU_eq, zU_nc, zU_nj]; omega)) only [↓L_ald_n0, ↓L_ild_n1, ↓I_X7_isParty_60, ↓r_ifeq_t, ↓r_ifeq_f, ↓J_X7_share_23, ↓L_ild_n2, ↓L_ild_n3, ↓I_X7_isPart, ↓r_ifne_t, ↓r_ifne_f, ↓J_X7_share_27, ↓r_ldc2w, ↓r_lreturn, ↓I_X7_allOf_60, ↓J_X7_share_39, ↓r_lconst, ↓r_goto, ↓J_X7_share_60, ↓I_X7_worth_60, ↓r_i2l, ↓I_X7_lowOfAll_60, ↓r_lmul, ↓I_X7_lowest, ↓U_X7_share_0, ↓U_X7_share_23, ↓U_X7_share_27, ↓U_X7_share_39, ↓U_X7_share_60, ↓zthen_v, ↓zthen_0, zU_eq, zU_nc, zU_nj, m1]
