theorem cla_2 {σ : zM} {p : Int} (h : claP σ p = 2) : ¬ allP σ p = 0 ∧ 0 ≤ fuP σ p := by
  unfold claP at h
  by_cases q1 : allP σ p = 0
  · rw [if_pos q1] at h; omega
  · rw [if_neg q1] at h
    by_cases q2 : 0 ≤ fuP σ p
    · exact ⟨q1, q2⟩
    · rw [if_neg q2] at h
      by_cases q3 : wor σ p p * σ 1 0 < allP σ p * σ 1 7
      · rw [if_pos q3] at h; omega
      · rw [if_neg q3] at h
        by_cases q4 : 0 ≤ feP σ p
        · rw [if_pos q4] at h; omega
        · rw [if_neg q4] at h; omega
theorem cla_4 {σ : zM} {p : Int} (h : claP σ p = 4) : ¬ allP σ p = 0 ∧ 0 ≤ feP σ p := by
  unfold claP at h
  by_cases q1 : allP σ p = 0
  · rw [if_pos q1] at h; omega
  · rw [if_neg q1] at h
    by_cases q2 : 0 ≤ fuP σ p
    · rw [if_pos q2] at h; omega
    · rw [if_neg q2] at h
      by_cases q3 : wor σ p p * σ 1 0 < allP σ p * σ 1 7
      · rw [if_pos q3] at h; omega
      · rw [if_neg q3] at h
        by_cases q4 : 0 ≤ feP σ p
        · exact ⟨q1, q4⟩
        · rw [if_neg q4] at h; omega
set_option maxRecDepth 20000 in
set_option maxHeartbeats 4000000 in
theorem op_claim {σ τ : zM} {p w : Int} (R : Rel1 σ τ) (hp : -2147483648 ≤ p ∧ p < 2147483648) (hw : -2147483648 ≤ w ∧ w < 2147483648) : Same σ τ (zcall 59 [vR 0, vI p, vI w] σ) (zcall 139 [vR 60, vI p, vI w] τ) := by
  have hn := R.n
  have hm := R.m
  have hW := Rel1_W1 R
  have hV := Rel1_V2 R
  by_cases q1 : 0 ≤ p ∧ p < σ 1 0
  · have c1 := c_X6_isParty_t (σ := σ) (p := p) q1 (by omega)
    have m1 := m_isParty_t (σ := τ) (p := p) (by omega) (by omega)
    have c2 := c_X6_claimOf (σ := σ) (p := p) hW (by omega)
    have m2 := m_claimOf (τ := τ) (p := p) hV (by omega)
    rw [cla_eq R (by omega)] at m2
    have hb := cla_bd σ p
    by_cases q2 : w < 0
    · refine Same_id R (-1) ?_ ?_
      · rw [S_X6_claim]
        simp (disch := first | exact z_tt rfl | assumption | omega | (simp (disch := omega) only [zU_eq, zU_nc, zU_nj]; omega)) only [↓L_ald_n0, ↓L_ild_n1, ↓I_X6_isParty_0, ↓r_ifeq_t, ↓r_ifeq_f, ↓J_X6_claim_12, ↓L_ild_n2, ↓r_ifge_t, ↓r_ifge_f, ↓J_X6_claim_14, ↓r_iconst, ↓r_ireturn, ↓I_X6_claimOf_0, ↓L_ist_n3, ↓L_ist_n3L, ↓r_ifne_t, ↓r_ifne_f, ↓J_X6_claim_26, ↓L_ild_n3, ↓r_icne_t, ↓r_icne_f, ↓J_X6_claim_38, ↓I_X6_causeOf_0, ↓J_X6_claim_52, ↓I_X6_secondCauseOf_0, ↓r_goto, ↓J_X6_claim_54, ↓r_bipush, ↓U_X6_claim_0, ↓U_X6_claim_12, ↓U_X6_claim_14, ↓U_X6_claim_26, ↓U_X6_claim_38, ↓U_X6_claim_52, ↓U_X6_claim_54, ↓zthen_v, ↓zthen_0, zU_eq, zU_nc, zU_nj, c1]
      · rw [S_X7_claim]
        simp (disch := first | exact z_tt rfl | assumption | omega | (simp (disch := omega) only [zU_eq, zU_nc, zU_nj]; omega)) only [↓L_ald_n0, ↓L_ild_n1, ↓I_X7_isParty_60, ↓r_ifeq_t, ↓r_ifeq_f, ↓J_X7_claim_12, ↓L_ild_n2, ↓r_ifge_t, ↓r_ifge_f, ↓J_X7_claim_14, ↓r_iconst, ↓r_ireturn, ↓I_X7_claimOf_60, ↓L_ist_n3, ↓L_ist_n3L, ↓r_icge_t, ↓r_icge_f, ↓J_X7_claim_40, ↓r_ifne_t, ↓r_ifne_f, ↓J_X7_claim_33, ↓L_ild_n3, ↓r_goto, ↓J_X7_claim_39, ↓I_X7_causeOf_60, ↓r_icgt_t, ↓r_icgt_f, ↓J_X7_claim_55, ↓r_iceq_t, ↓r_iceq_f, ↓J_X7_claim_58, ↓r_bipush, ↓r_icne_t, ↓r_icne_f, ↓J_X7_claim_76, ↓I_X7_firstWanting_60, ↓I_X7_pointsOf_60, ↓J_X7_claim_85, ↓I_X7_envied_60, ↓I_X7_bitsOf_60, ↓U_X7_claim_0, ↓U_X7_claim_12, ↓U_X7_claim_14, ↓U_X7_claim_33, ↓U_X7_claim_39, ↓U_X7_claim_40, ↓U_X7_claim_55, ↓U_X7_claim_58, ↓U_X7_claim_76, ↓U_X7_claim_85, ↓zthen_v, ↓zthen_0, zU_eq, zU_nc, zU_nj, m1]
    · by_cases q3 : w = 0
      · refine Same_id R (claP σ p) ?_ ?_
        · rw [S_X6_claim]
          simp (disch := first | exact z_tt rfl | assumption | omega | (simp (disch := omega) only [zU_eq, zU_nc, zU_nj]; omega)) only [↓L_ald_n0, ↓L_ild_n1, ↓I_X6_isParty_0, ↓r_ifeq_t, ↓r_ifeq_f, ↓J_X6_claim_12, ↓L_ild_n2, ↓r_ifge_t, ↓r_ifge_f, ↓J_X6_claim_14, ↓r_iconst, ↓r_ireturn, ↓I_X6_claimOf_0, ↓L_ist_n3, ↓L_ist_n3L, ↓r_ifne_t, ↓r_ifne_f, ↓J_X6_claim_26, ↓L_ild_n3, ↓r_icne_t, ↓r_icne_f, ↓J_X6_claim_38, ↓I_X6_causeOf_0, ↓J_X6_claim_52, ↓I_X6_secondCauseOf_0, ↓r_goto, ↓J_X6_claim_54, ↓r_bipush, ↓U_X6_claim_0, ↓U_X6_claim_12, ↓U_X6_claim_14, ↓U_X6_claim_26, ↓U_X6_claim_38, ↓U_X6_claim_52, ↓U_X6_claim_54, ↓zthen_v, ↓zthen_0, zU_eq, zU_nc, zU_nj, c1, c2]
        · rw [S_X7_claim]
          simp (disch := first | exact z_tt rfl | assumption | omega | (simp (disch := omega) only [zU_eq, zU_nc, zU_nj]; omega)) only [↓L_ald_n0, ↓L_ild_n1, ↓I_X7_isParty_60, ↓r_ifeq_t, ↓r_ifeq_f, ↓J_X7_claim_12, ↓L_ild_n2, ↓r_ifge_t, ↓r_ifge_f, ↓J_X7_claim_14, ↓r_iconst, ↓r_ireturn, ↓I_X7_claimOf_60, ↓L_ist_n3, ↓L_ist_n3L, ↓r_icge_t, ↓r_icge_f, ↓J_X7_claim_40, ↓r_ifne_t, ↓r_ifne_f, ↓J_X7_claim_33, ↓L_ild_n3, ↓r_goto, ↓J_X7_claim_39, ↓I_X7_causeOf_60, ↓r_icgt_t, ↓r_icgt_f, ↓J_X7_claim_55, ↓r_iceq_t, ↓r_iceq_f, ↓J_X7_claim_58, ↓r_bipush, ↓r_icne_t, ↓r_icne_f, ↓J_X7_claim_76, ↓I_X7_firstWanting_60, ↓I_X7_pointsOf_60, ↓J_X7_claim_85, ↓I_X7_envied_60, ↓I_X7_bitsOf_60, ↓U_X7_claim_0, ↓U_X7_claim_12, ↓U_X7_claim_14, ↓U_X7_claim_33, ↓U_X7_claim_39, ↓U_X7_claim_40, ↓U_X7_claim_55, ↓U_X7_claim_58, ↓U_X7_claim_76, ↓U_X7_claim_85, ↓zthen_v, ↓zthen_0, zU_eq, zU_nc, zU_nj, m1, m2]
      · by_cases q4 : w = 1
        · have c3 := c_X6_causeOf (σ := σ) (c := claP σ p) (p := p) hW (by omega) hb
          have m3 := m_causeOf (τ := τ) (c := claP σ p) (p := p) hV (by omega) hb
          rw [cau_eq R (by omega)] at m3
          refine Same_id R (cauP σ (claP σ p) p) ?_ ?_
          · rw [S_X6_claim]
            simp (disch := first | exact z_tt rfl | assumption | omega | (simp (disch := omega) only [zU_eq, zU_nc, zU_nj]; omega)) only [↓L_ald_n0, ↓L_ild_n1, ↓I_X6_isParty_0, ↓r_ifeq_t, ↓r_ifeq_f, ↓J_X6_claim_12, ↓L_ild_n2, ↓r_ifge_t, ↓r_ifge_f, ↓J_X6_claim_14, ↓r_iconst, ↓r_ireturn, ↓I_X6_claimOf_0, ↓L_ist_n3, ↓L_ist_n3L, ↓r_ifne_t, ↓r_ifne_f, ↓J_X6_claim_26, ↓L_ild_n3, ↓r_icne_t, ↓r_icne_f, ↓J_X6_claim_38, ↓I_X6_causeOf_0, ↓J_X6_claim_52, ↓I_X6_secondCauseOf_0, ↓r_goto, ↓J_X6_claim_54, ↓r_bipush, ↓U_X6_claim_0, ↓U_X6_claim_12, ↓U_X6_claim_14, ↓U_X6_claim_26, ↓U_X6_claim_38, ↓U_X6_claim_52, ↓U_X6_claim_54, ↓zthen_v, ↓zthen_0, zU_eq, zU_nc, zU_nj, c1, c2, c3]
          · rw [S_X7_claim]
            simp (disch := first | exact z_tt rfl | assumption | omega | (simp (disch := omega) only [zU_eq, zU_nc, zU_nj]; omega)) only [↓L_ald_n0, ↓L_ild_n1, ↓I_X7_isParty_60, ↓r_ifeq_t, ↓r_ifeq_f, ↓J_X7_claim_12, ↓L_ild_n2, ↓r_ifge_t, ↓r_ifge_f, ↓J_X7_claim_14, ↓r_iconst, ↓r_ireturn, ↓I_X7_claimOf_60, ↓L_ist_n3, ↓L_ist_n3L, ↓r_icge_t, ↓r_icge_f, ↓J_X7_claim_40, ↓r_ifne_t, ↓r_ifne_f, ↓J_X7_claim_33, ↓L_ild_n3, ↓r_goto, ↓J_X7_claim_39, ↓I_X7_causeOf_60, ↓r_icgt_t, ↓r_icgt_f, ↓J_X7_claim_55, ↓r_iceq_t, ↓r_iceq_f, ↓J_X7_claim_58, ↓r_bipush, ↓r_icne_t, ↓r_icne_f, ↓J_X7_claim_76, ↓I_X7_firstWanting_60, ↓I_X7_pointsOf_60, ↓J_X7_claim_85, ↓I_X7_envied_60, ↓I_X7_bitsOf_60, ↓U_X7_claim_0, ↓U_X7_claim_12, ↓U_X7_claim_14, ↓U_X7_claim_33, ↓U_X7_claim_39, ↓U_X7_claim_40, ↓U_X7_claim_55, ↓U_X7_claim_58, ↓U_X7_claim_76, ↓U_X7_claim_85, ↓zthen_v, ↓zthen_0, zU_eq, zU_nc, zU_nj, m1, m2, m3]
        · by_cases q5 : 2 < w
          · refine Same_id R (-5) ?_ ?_
            · rw [S_X6_claim]
              simp (disch := first | exact z_tt rfl | assumption | omega | (simp (disch := omega) only [zU_eq, zU_nc, zU_nj]; omega)) only [↓L_ald_n0, ↓L_ild_n1, ↓I_X6_isParty_0, ↓r_ifeq_t, ↓r_ifeq_f, ↓J_X6_claim_12, ↓L_ild_n2, ↓r_ifge_t, ↓r_ifge_f, ↓J_X6_claim_14, ↓r_iconst, ↓r_ireturn, ↓I_X6_claimOf_0, ↓L_ist_n3, ↓L_ist_n3L, ↓r_ifne_t, ↓r_ifne_f, ↓J_X6_claim_26, ↓L_ild_n3, ↓r_icne_t, ↓r_icne_f, ↓J_X6_claim_38, ↓I_X6_causeOf_0, ↓J_X6_claim_52, ↓I_X6_secondCauseOf_0, ↓r_goto, ↓J_X6_claim_54, ↓r_bipush, ↓U_X6_claim_0, ↓U_X6_claim_12, ↓U_X6_claim_14, ↓U_X6_claim_26, ↓U_X6_claim_38, ↓U_X6_claim_52, ↓U_X6_claim_54, ↓zthen_v, ↓zthen_0, zU_eq, zU_nc, zU_nj, c1, c2]
            · rw [S_X7_claim]
              simp (disch := first | exact z_tt rfl | assumption | omega | (simp (disch := omega) only [zU_eq, zU_nc, zU_nj]; omega)) only [↓L_ald_n0, ↓L_ild_n1, ↓I_X7_isParty_60, ↓r_ifeq_t, ↓r_ifeq_f, ↓J_X7_claim_12, ↓L_ild_n2, ↓r_ifge_t, ↓r_ifge_f, ↓J_X7_claim_14, ↓r_iconst, ↓r_ireturn, ↓I_X7_claimOf_60, ↓L_ist_n3, ↓L_ist_n3L, ↓r_icge_t, ↓r_icge_f, ↓J_X7_claim_40, ↓r_ifne_t, ↓r_ifne_f, ↓J_X7_claim_33, ↓L_ild_n3, ↓r_goto, ↓J_X7_claim_39, ↓I_X7_causeOf_60, ↓r_icgt_t, ↓r_icgt_f, ↓J_X7_claim_55, ↓r_iceq_t, ↓r_iceq_f, ↓J_X7_claim_58, ↓r_bipush, ↓r_icne_t, ↓r_icne_f, ↓J_X7_claim_76, ↓I_X7_firstWanting_60, ↓I_X7_pointsOf_60, ↓J_X7_claim_85, ↓I_X7_envied_60, ↓I_X7_bitsOf_60, ↓U_X7_claim_0, ↓U_X7_claim_12, ↓U_X7_claim_14, ↓U_X7_claim_33, ↓U_X7_claim_39, ↓U_X7_claim_40, ↓U_X7_claim_55, ↓U_X7_claim_58, ↓U_X7_claim_76, ↓U_X7_claim_85, ↓zthen_v, ↓zthen_0, zU_eq, zU_nc, zU_nj, m1, m2]
          · have q6 : w = 2 := by omega
            subst q6
            by_cases q7 : claP σ p = 2
            · have h2 := cla_2 q7
              have h3 := fw_eq R (p := p) (by omega)
              have c4 := c_X6_firstUnheld (σ := σ) (p := p) hW (by omega)
              have m4 := m_firstWanting (τ := τ) (p := p) hV.1 (by omega)
              have e4 : fwM τ p = fuP σ p := by omega
              rw [e4] at m4
              have e5 := R.pt p (fuP σ p) (by omega) (by omega) (by omega) (by omega)
              have cs : zcall 99 [vR 0, vI 2, vI p] σ = some (some (vI (σ (3 + p) (fuP σ p))), σ) := by
                rw [S_X6_secondCauseOf]
                simp (disch := first | exact z_tt rfl | assumption | omega | (simp (disch := omega) only [zU_eq, zU_nc, zU_nj]; omega)) only [↓L_ild_n1, ↓r_iconst, ↓r_icne_t, ↓r_icne_f, ↓J_X6_secondCauseOf_32, ↓L_ald_n0, ↓L_ild_n2, ↓I_X6_firstUnheld_0, ↓L_ist_n3, ↓L_ist_n3L, ↓L_ild_n3, ↓r_ifge_t, ↓r_ifge_f, ↓J_X6_secondCauseOf_20, ↓r_bipush, ↓r_goto, ↓J_X6_secondCauseOf_31, ↓F_g0_0, ↓F_g1_2, ↓F_g17_2, ↓A_a2, ↓A_a18, ↓A_a40, ↓A_a47, ↓A_g3, ↓A_g4, ↓A_g5, ↓A_g6, ↓A_g7, ↓A_g9, ↓A_g10, ↓A_g12, ↓A_g13, ↓A_g15, ↓A_g16, ↓A_g19, ↓A_g20, ↓A_g21, ↓A_g22, ↓A_g23, ↓A_g25, ↓A_g26, ↓A_g28, ↓A_g29, ↓A_g31, ↓A_g32, ↓A_g34, ↓A_g36, ↓A_g37, ↓A_g38, ↓A_g39, ↓A_g41, ↓A_g42, ↓A_g43, ↓A_g44, ↓A_g61, ↓A_g62, ↓A_g63, ↓A_g65, ↓A_g66, ↓A_g67, ↓A_g68, ↓A_g69, ↓A_g70, ↓A_gN, ↓A_gT, ↓A_gC, ↓r_ireturn, ↓J_X6_secondCauseOf_52, ↓I_X6_firstEnvied_0, ↓I_X2_bitsOf_1, ↓I_X2_bitsOf_17, ↓J_X6_secondCauseOf_54, ↓U_X6_secondCauseOf_0, ↓U_X6_secondCauseOf_20, ↓U_X6_secondCauseOf_31, ↓U_X6_secondCauseOf_32, ↓U_X6_secondCauseOf_52, ↓U_X6_secondCauseOf_54, ↓zthen_v, ↓zthen_0, zU_eq, zU_nc, zU_nj, c4]
              refine Same_id R (σ (3 + p) (fuP σ p)) ?_ ?_
              · rw [S_X6_claim]
                rw [q7] at c2
                simp (disch := first | exact z_tt rfl | assumption | omega | (simp (disch := omega) only [zU_eq, zU_nc, zU_nj]; omega)) only [↓L_ald_n0, ↓L_ild_n1, ↓I_X6_isParty_0, ↓r_ifeq_t, ↓r_ifeq_f, ↓J_X6_claim_12, ↓L_ild_n2, ↓r_ifge_t, ↓r_ifge_f, ↓J_X6_claim_14, ↓r_iconst, ↓r_ireturn, ↓I_X6_claimOf_0, ↓L_ist_n3, ↓L_ist_n3L, ↓r_ifne_t, ↓r_ifne_f, ↓J_X6_claim_26, ↓L_ild_n3, ↓r_icne_t, ↓r_icne_f, ↓J_X6_claim_38, ↓I_X6_causeOf_0, ↓J_X6_claim_52, ↓I_X6_secondCauseOf_0, ↓r_goto, ↓J_X6_claim_54, ↓r_bipush, ↓U_X6_claim_0, ↓U_X6_claim_12, ↓U_X6_claim_14, ↓U_X6_claim_26, ↓U_X6_claim_38, ↓U_X6_claim_52, ↓U_X6_claim_54, ↓zthen_v, ↓zthen_0, zU_eq, zU_nc, zU_nj, c1, c2, cs]
              · rw [S_X7_claim]
                rw [q7] at m2
                simp (disch := first | exact z_tt rfl | assumption | omega | (simp (disch := omega) only [zU_eq, zU_nc, zU_nj]; omega)) only [↓L_ald_n0, ↓L_ild_n1, ↓I_X7_isParty_60, ↓r_ifeq_t, ↓r_ifeq_f, ↓J_X7_claim_12, ↓L_ild_n2, ↓r_ifge_t, ↓r_ifge_f, ↓J_X7_claim_14, ↓r_iconst, ↓r_ireturn, ↓I_X7_claimOf_60, ↓L_ist_n3, ↓L_ist_n3L, ↓r_icge_t, ↓r_icge_f, ↓J_X7_claim_40, ↓r_ifne_t, ↓r_ifne_f, ↓J_X7_claim_33, ↓L_ild_n3, ↓r_goto, ↓J_X7_claim_39, ↓I_X7_causeOf_60, ↓r_icgt_t, ↓r_icgt_f, ↓J_X7_claim_55, ↓r_iceq_t, ↓r_iceq_f, ↓J_X7_claim_58, ↓r_bipush, ↓r_icne_t, ↓r_icne_f, ↓J_X7_claim_76, ↓I_X7_firstWanting_60, ↓I_X7_pointsOf_60, ↓J_X7_claim_85, ↓I_X7_envied_60, ↓I_X7_bitsOf_60, ↓U_X7_claim_0, ↓U_X7_claim_12, ↓U_X7_claim_14, ↓U_X7_claim_33, ↓U_X7_claim_39, ↓U_X7_claim_40, ↓U_X7_claim_55, ↓U_X7_claim_58, ↓U_X7_claim_76, ↓U_X7_claim_85, ↓zthen_v, ↓zthen_0, zU_eq, zU_nc, zU_nj, m1, m2, m4, m_pointsOf, e5]
            · by_cases q8 : claP σ p = 4
              · have h2 := cla_4 q8
                have h3 := en_eq R (p := p) (by omega) h2.1
                have c4 := c_X6_firstEnvied (σ := σ) (p := p) hW (by omega)
                have m4 := m_envied (τ := τ) (p := p) hV (by omega)
                have e4 : enM τ p = feP σ p := by omega
                rw [e4] at m4
                have c5 := c_X2_bitsOf (σ := σ) (p := feP σ p) hW (by omega)
                have m5 := m_bitsOf (τ := τ) (p := feP σ p) hV.1 (by omega)
                rw [bit_eq R (by omega)] at m5
                have cs : zcall 99 [vR 0, vI 4, vI p] σ = some (some (vI (bitP σ (feP σ p))), σ) := by
                  rw [S_X6_secondCauseOf]
                  simp (disch := first | exact z_tt rfl | assumption | omega | (simp (disch := omega) only [zU_eq, zU_nc, zU_nj]; omega)) only [↓L_ild_n1, ↓r_iconst, ↓r_icne_t, ↓r_icne_f, ↓J_X6_secondCauseOf_32, ↓L_ald_n0, ↓L_ild_n2, ↓I_X6_firstUnheld_0, ↓L_ist_n3, ↓L_ist_n3L, ↓L_ild_n3, ↓r_ifge_t, ↓r_ifge_f, ↓J_X6_secondCauseOf_20, ↓r_bipush, ↓r_goto, ↓J_X6_secondCauseOf_31, ↓F_g0_0, ↓F_g1_2, ↓F_g17_2, ↓A_a2, ↓A_a18, ↓A_a40, ↓A_a47, ↓A_g3, ↓A_g4, ↓A_g5, ↓A_g6, ↓A_g7, ↓A_g9, ↓A_g10, ↓A_g12, ↓A_g13, ↓A_g15, ↓A_g16, ↓A_g19, ↓A_g20, ↓A_g21, ↓A_g22, ↓A_g23, ↓A_g25, ↓A_g26, ↓A_g28, ↓A_g29, ↓A_g31, ↓A_g32, ↓A_g34, ↓A_g36, ↓A_g37, ↓A_g38, ↓A_g39, ↓A_g41, ↓A_g42, ↓A_g43, ↓A_g44, ↓A_g61, ↓A_g62, ↓A_g63, ↓A_g65, ↓A_g66, ↓A_g67, ↓A_g68, ↓A_g69, ↓A_g70, ↓A_gN, ↓A_gT, ↓A_gC, ↓r_ireturn, ↓J_X6_secondCauseOf_52, ↓I_X6_firstEnvied_0, ↓I_X2_bitsOf_1, ↓I_X2_bitsOf_17, ↓J_X6_secondCauseOf_54, ↓U_X6_secondCauseOf_0, ↓U_X6_secondCauseOf_20, ↓U_X6_secondCauseOf_31, ↓U_X6_secondCauseOf_32, ↓U_X6_secondCauseOf_52, ↓U_X6_secondCauseOf_54, ↓zthen_v, ↓zthen_0, zU_eq, zU_nc, zU_nj, c4, c5]
                refine Same_id R (bitP σ (feP σ p)) ?_ ?_
                · rw [S_X6_claim]
                  rw [q8] at c2
                  simp (disch := first | exact z_tt rfl | assumption | omega | (simp (disch := omega) only [zU_eq, zU_nc, zU_nj]; omega)) only [↓L_ald_n0, ↓L_ild_n1, ↓I_X6_isParty_0, ↓r_ifeq_t, ↓r_ifeq_f, ↓J_X6_claim_12, ↓L_ild_n2, ↓r_ifge_t, ↓r_ifge_f, ↓J_X6_claim_14, ↓r_iconst, ↓r_ireturn, ↓I_X6_claimOf_0, ↓L_ist_n3, ↓L_ist_n3L, ↓r_ifne_t, ↓r_ifne_f, ↓J_X6_claim_26, ↓L_ild_n3, ↓r_icne_t, ↓r_icne_f, ↓J_X6_claim_38, ↓I_X6_causeOf_0, ↓J_X6_claim_52, ↓I_X6_secondCauseOf_0, ↓r_goto, ↓J_X6_claim_54, ↓r_bipush, ↓U_X6_claim_0, ↓U_X6_claim_12, ↓U_X6_claim_14, ↓U_X6_claim_26, ↓U_X6_claim_38, ↓U_X6_claim_52, ↓U_X6_claim_54, ↓zthen_v, ↓zthen_0, zU_eq, zU_nc, zU_nj, c1, c2, cs]
                · rw [S_X7_claim]
                  rw [q8] at m2
                  simp (disch := first | exact z_tt rfl | assumption | omega | (simp (disch := omega) only [zU_eq, zU_nc, zU_nj]; omega)) only [↓L_ald_n0, ↓L_ild_n1, ↓I_X7_isParty_60, ↓r_ifeq_t, ↓r_ifeq_f, ↓J_X7_claim_12, ↓L_ild_n2, ↓r_ifge_t, ↓r_ifge_f, ↓J_X7_claim_14, ↓r_iconst, ↓r_ireturn, ↓I_X7_claimOf_60, ↓L_ist_n3, ↓L_ist_n3L, ↓r_icge_t, ↓r_icge_f, ↓J_X7_claim_40, ↓r_ifne_t, ↓r_ifne_f, ↓J_X7_claim_33, ↓L_ild_n3, ↓r_goto, ↓J_X7_claim_39, ↓I_X7_causeOf_60, ↓r_icgt_t, ↓r_icgt_f, ↓J_X7_claim_55, ↓r_iceq_t, ↓r_iceq_f, ↓J_X7_claim_58, ↓r_bipush, ↓r_icne_t, ↓r_icne_f, ↓J_X7_claim_76, ↓I_X7_firstWanting_60, ↓I_X7_pointsOf_60, ↓J_X7_claim_85, ↓I_X7_envied_60, ↓I_X7_bitsOf_60, ↓U_X7_claim_0, ↓U_X7_claim_12, ↓U_X7_claim_14, ↓U_X7_claim_33, ↓U_X7_claim_39, ↓U_X7_claim_40, ↓U_X7_claim_55, ↓U_X7_claim_58, ↓U_X7_claim_76, ↓U_X7_claim_85, ↓zthen_v, ↓zthen_0, zU_eq, zU_nc, zU_nj, m1, m2, m4, m5]
              · have cs : zcall 99 [vR 0, vI (claP σ p), vI p] σ = some (some (vI (-5)), σ) := by
                  rw [S_X6_secondCauseOf]
                  simp (disch := first | exact z_tt rfl | assumption | omega | (simp (disch := omega) only [zU_eq, zU_nc, zU_nj]; omega)) only [↓L_ild_n1, ↓r_iconst, ↓r_icne_t, ↓r_icne_f, ↓J_X6_secondCauseOf_32, ↓L_ald_n0, ↓L_ild_n2, ↓I_X6_firstUnheld_0, ↓L_ist_n3, ↓L_ist_n3L, ↓L_ild_n3, ↓r_ifge_t, ↓r_ifge_f, ↓J_X6_secondCauseOf_20, ↓r_bipush, ↓r_goto, ↓J_X6_secondCauseOf_31, ↓F_g0_0, ↓F_g1_2, ↓F_g17_2, ↓A_a2, ↓A_a18, ↓A_a40, ↓A_a47, ↓A_g3, ↓A_g4, ↓A_g5, ↓A_g6, ↓A_g7, ↓A_g9, ↓A_g10, ↓A_g12, ↓A_g13, ↓A_g15, ↓A_g16, ↓A_g19, ↓A_g20, ↓A_g21, ↓A_g22, ↓A_g23, ↓A_g25, ↓A_g26, ↓A_g28, ↓A_g29, ↓A_g31, ↓A_g32, ↓A_g34, ↓A_g36, ↓A_g37, ↓A_g38, ↓A_g39, ↓A_g41, ↓A_g42, ↓A_g43, ↓A_g44, ↓A_g61, ↓A_g62, ↓A_g63, ↓A_g65, ↓A_g66, ↓A_g67, ↓A_g68, ↓A_g69, ↓A_g70, ↓A_gN, ↓A_gT, ↓A_gC, ↓r_ireturn, ↓J_X6_secondCauseOf_52, ↓I_X6_firstEnvied_0, ↓I_X2_bitsOf_1, ↓I_X2_bitsOf_17, ↓J_X6_secondCauseOf_54, ↓U_X6_secondCauseOf_0, ↓U_X6_secondCauseOf_20, ↓U_X6_secondCauseOf_31, ↓U_X6_secondCauseOf_32, ↓U_X6_secondCauseOf_52, ↓U_X6_secondCauseOf_54, ↓zthen_v, ↓zthen_0, zU_eq, zU_nc, zU_nj]
                refine Same_id R (-5) ?_ ?_
                · rw [S_X6_claim]
                  simp (disch := first | exact z_tt rfl | assumption | omega | (simp (disch := omega) only [zU_eq, zU_nc, zU_nj]; omega)) only [↓L_ald_n0, ↓L_ild_n1, ↓I_X6_isParty_0, ↓r_ifeq_t, ↓r_ifeq_f, ↓J_X6_claim_12, ↓L_ild_n2, ↓r_ifge_t, ↓r_ifge_f, ↓J_X6_claim_14, ↓r_iconst, ↓r_ireturn, ↓I_X6_claimOf_0, ↓L_ist_n3, ↓L_ist_n3L, ↓r_ifne_t, ↓r_ifne_f, ↓J_X6_claim_26, ↓L_ild_n3, ↓r_icne_t, ↓r_icne_f, ↓J_X6_claim_38, ↓I_X6_causeOf_0, ↓J_X6_claim_52, ↓I_X6_secondCauseOf_0, ↓r_goto, ↓J_X6_claim_54, ↓r_bipush, ↓U_X6_claim_0, ↓U_X6_claim_12, ↓U_X6_claim_14, ↓U_X6_claim_26, ↓U_X6_claim_38, ↓U_X6_claim_52, ↓U_X6_claim_54, ↓zthen_v, ↓zthen_0, zU_eq, zU_nc, zU_nj, c1, c2, cs]
                · rw [S_X7_claim]
                  simp (disch := first | exact z_tt rfl | assumption | omega | (simp (disch := omega) only [zU_eq, zU_nc, zU_nj]; omega)) only [↓L_ald_n0, ↓L_ild_n1, ↓I_X7_isParty_60, ↓r_ifeq_t, ↓r_ifeq_f, ↓J_X7_claim_12, ↓L_ild_n2, ↓r_ifge_t, ↓r_ifge_f, ↓J_X7_claim_14, ↓r_iconst, ↓r_ireturn, ↓I_X7_claimOf_60, ↓L_ist_n3, ↓L_ist_n3L, ↓r_icge_t, ↓r_icge_f, ↓J_X7_claim_40, ↓r_ifne_t, ↓r_ifne_f, ↓J_X7_claim_33, ↓L_ild_n3, ↓r_goto, ↓J_X7_claim_39, ↓I_X7_causeOf_60, ↓r_icgt_t, ↓r_icgt_f, ↓J_X7_claim_55, ↓r_iceq_t, ↓r_iceq_f, ↓J_X7_claim_58, ↓r_bipush, ↓r_icne_t, ↓r_icne_f, ↓J_X7_claim_76, ↓I_X7_firstWanting_60, ↓I_X7_pointsOf_60, ↓J_X7_claim_85, ↓I_X7_envied_60, ↓I_X7_bitsOf_60, ↓U_X7_claim_0, ↓U_X7_claim_12, ↓U_X7_claim_14, ↓U_X7_claim_33, ↓U_X7_claim_39, ↓U_X7_claim_40, ↓U_X7_claim_55, ↓U_X7_claim_58, ↓U_X7_claim_76, ↓U_X7_claim_85, ↓zthen_v, ↓zthen_0, zU_eq, zU_nc, zU_nj, m1, m2]
  · have c1 := c_X6_isParty_f (σ := σ) (p := p) (by omega) (by omega)
    have m1 := m_isParty_f (σ := τ) (p := p) (by omega) (by omega)
    refine Same_id R (-1) ?_ ?_
    · rw [S_X6_claim]
      simp (disch := first | exact z_tt rfl | assumption | omega | (simp (disch := omega) only [zU_eq, zU_nc, zU_nj]; omega)) only [↓L_ald_n0, ↓L_ild_n1, ↓I_X6_isParty_0, ↓r_ifeq_t, ↓r_ifeq_f, ↓J_X6_claim_12, ↓L_ild_n2, ↓r_ifge_t, ↓r_ifge_f, ↓J_X6_claim_14, ↓r_iconst, ↓r_ireturn, ↓I_X6_claimOf_0, ↓L_ist_n3, ↓L_ist_n3L, ↓r_ifne_t, ↓r_ifne_f, ↓J_X6_claim_26, ↓L_ild_n3, ↓r_icne_t, ↓r_icne_f, ↓J_X6_claim_38, ↓I_X6_causeOf_0, ↓J_X6_claim_52, ↓I_X6_secondCauseOf_0, ↓r_goto, ↓J_X6_claim_54, ↓r_bipush, ↓U_X6_claim_0, ↓U_X6_claim_12, ↓U_X6_claim_14, ↓U_X6_claim_26, ↓U_X6_claim_38, ↓U_X6_claim_52, ↓U_X6_claim_54, ↓zthen_v, ↓zthen_0, zU_eq, zU_nc, zU_nj, c1]
    · rw [S_X7_claim]
      simp (disch := first | exact z_tt rfl | assumption | omega | (simp (disch := omega) only [zU_eq, zU_nc, zU_nj]; omega)) only [↓L_ald_n0, ↓L_ild_n1, ↓I_X7_isParty_60, ↓r_ifeq_t, ↓r_ifeq_f, ↓J_X7_claim_12, ↓L_ild_n2, ↓r_ifge_t, ↓r_ifge_f, ↓J_X7_claim_14, ↓r_iconst, ↓r_ireturn, ↓I_X7_claimOf_60, ↓L_ist_n3, ↓L_ist_n3L, ↓r_icge_t, ↓r_icge_f, ↓J_X7_claim_40, ↓r_ifne_t, ↓r_ifne_f, ↓J_X7_claim_33, ↓L_ild_n3, ↓r_goto, ↓J_X7_claim_39, ↓I_X7_causeOf_60, ↓r_icgt_t, ↓r_icgt_f, ↓J_X7_claim_55, ↓r_iceq_t, ↓r_iceq_f, ↓J_X7_claim_58, ↓r_bipush, ↓r_icne_t, ↓r_icne_f, ↓J_X7_claim_76, ↓I_X7_firstWanting_60, ↓I_X7_pointsOf_60, ↓J_X7_claim_85, ↓I_X7_envied_60, ↓I_X7_bitsOf_60, ↓U_X7_claim_0, ↓U_X7_claim_12, ↓U_X7_claim_14, ↓U_X7_claim_33, ↓U_X7_claim_39, ↓U_X7_claim_40, ↓U_X7_claim_55, ↓U_X7_claim_58, ↓U_X7_claim_76, ↓U_X7_claim_85, ↓zthen_v, ↓zthen_0, zU_eq, zU_nc, zU_nj, m1]
