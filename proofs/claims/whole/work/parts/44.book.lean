set_option maxRecDepth 20000 in
set_option maxHeartbeats 4000000 in
theorem op_book {σ τ : zM} {p t : Int} (R : Rel1 σ τ) (hp : -2147483648 ≤ p ∧ p < 2147483648) (ht : -2147483648 ≤ t ∧ t < 2147483648) : Same σ τ (zcall 75 [vR 0, vI t, vI p] σ) (zcall 180 [vR 60, vI t, vI p] τ) := by
  have hn := R.n
  have hm := R.m
  have hM := R.boM
  by_cases q0 : t = -1
  · refine ⟨0, zU σ 14 2 0, zU τ 61 4 0, ?_, ?_, ?_, fun c j h => zU_nc _ _ _ _ _ _ (by omega), fun c j h => zU_nc _ _ _ _ _ _ (by omega)⟩
    · rw [S_X6_book]
      simp (disch := first | exact z_tt rfl | assumption | omega | (simp (disch := omega) only [zU_eq, zU_nc, zU_nj]; omega)) only [↓L_ild_n1, ↓r_iconst, ↓r_icne_t, ↓r_icne_f, ↓J_X6_book_16, ↓L_ald_n0, ↓F_g0_0, ↓F_g1_10, ↓F_g17_10, ↓I_X1_empty_8, ↓I_X1_empty_11, ↓I_X1_empty_14, ↓I_X1_empty_24, ↓I_X1_empty_27, ↓I_X1_empty_30, ↓r_ireturn, ↓I_X6_isThing_0, ↓r_ifeq_t, ↓r_ifeq_f, ↓J_X6_book_32, ↓L_ild_n2, ↓I_X6_isParty_0, ↓r_ifne_t, ↓r_ifne_f, ↓J_X6_book_34, ↓I_X1_isFull_8, ↓I_X1_isFull_11, ↓I_X1_isFull_14, ↓I_X1_isFull_24, ↓I_X1_isFull_27, ↓I_X1_isFull_30, ↓J_X6_book_52, ↓r_bipush, ↓r_goto, ↓J_X6_book_64, ↓I_X1_append_8, ↓I_X1_append_11, ↓I_X1_append_14, ↓I_X1_append_24, ↓I_X1_append_27, ↓I_X1_append_30, ↓U_X6_book_0, ↓U_X6_book_16, ↓U_X6_book_32, ↓U_X6_book_34, ↓U_X6_book_52, ↓U_X6_book_64, ↓zthen_v, ↓zthen_0, zU_eq, zU_nc, zU_nj, c_X1_empty_14]
    · rw [S_X7_book]
      simp (disch := first | exact z_tt rfl | assumption | omega | (simp (disch := omega) only [zU_eq, zU_nc, zU_nj]; omega)) only [↓L_ild_n1, ↓r_iconst, ↓r_icne_t, ↓r_icne_f, ↓J_X7_book_14, ↓L_ald_n0, ↓F_g60_0, ↓A_p3, ↓A_p4, ↓A_p5, ↓A_p6, ↓A_p7, ↓A_p9, ↓A_p10, ↓A_p12, ↓A_p13, ↓A_p15, ↓A_p16, ↓A_p19, ↓A_p20, ↓A_p21, ↓A_p22, ↓A_p23, ↓A_p25, ↓A_p26, ↓A_p28, ↓A_p29, ↓A_p31, ↓A_p32, ↓A_p34, ↓A_p36, ↓A_p37, ↓A_p38, ↓A_p39, ↓A_p41, ↓A_p42, ↓A_p43, ↓A_p44, ↓A_p61, ↓A_p62, ↓A_p63, ↓A_p65, ↓A_p66, ↓A_p67, ↓A_p68, ↓A_p69, ↓A_p70, ↓A_pN, ↓A_pT, ↓r_ireturn, ↓I_X7_isThing_60, ↓r_ifeq_t, ↓r_ifeq_f, ↓J_X7_book_30, ↓L_ild_n2, ↓I_X7_isParty_60, ↓r_ifne_t, ↓r_ifne_f, ↓J_X7_book_32, ↓A_g3, ↓A_g4, ↓A_g5, ↓A_g6, ↓A_g7, ↓A_g9, ↓A_g10, ↓A_g12, ↓A_g13, ↓A_g15, ↓A_g16, ↓A_g19, ↓A_g20, ↓A_g21, ↓A_g22, ↓A_g23, ↓A_g25, ↓A_g26, ↓A_g28, ↓A_g29, ↓A_g31, ↓A_g32, ↓A_g34, ↓A_g36, ↓A_g37, ↓A_g38, ↓A_g39, ↓A_g41, ↓A_g42, ↓A_g43, ↓A_g44, ↓A_g61, ↓A_g62, ↓A_g63, ↓A_g65, ↓A_g66, ↓A_g67, ↓A_g68, ↓A_g69, ↓A_g70, ↓A_gN, ↓A_gT, ↓A_gC, ↓r_bipush, ↓J_X7_book_46, ↓r_iadd, ↓r_imul, ↓r_dup2, ↓r_dup2L, ↓U_X7_book_0, ↓U_X7_book_14, ↓U_X7_book_30, ↓U_X7_book_32, ↓U_X7_book_46, ↓zthen_v, ↓zthen_0, zU_eq, zU_nc, zU_nj]
    · refine ⟨RSa_fr R.1 ?_ ?_ ?_ ?_, RSs_fr R.2.1 ?_ ?_ ?_ ?_, RSe_fr R.2.2.1 ?_ ?_ ?_ ?_, ⟨?_, ?_⟩⟩ <;> intros <;> simp (disch := omega) only [zU_eq, zU_ow]
      · exact ⟨by omega, by omega, trivial⟩
      · rename_i h
        simp (disch := omega) only [zU_eq] at h
        omega
  · by_cases q1 : 0 ≤ t ∧ t < σ 1 1
    · have c1 := c_X6_isThing_t (σ := σ) (p := t) q1 (by omega)
      have m1 := m_isThing_t (σ := τ) (p := t) (by omega) (by omega)
      by_cases q2 : 0 ≤ p ∧ p < σ 1 0
      · have c2 := c_X6_isParty_t (σ := σ) (p := p) q2 (by omega)
        have m2 := m_isParty_t (σ := τ) (p := p) (by omega) (by omega)
        have cf := c_X1_isFull_14 (σ := σ) (by omega)
        by_cases q3 : σ 14 2 < 8
        · rw [if_pos q3] at cf
          refine ⟨σ 14 2 + 1, appR σ 14 t p, zU (zU τ 61 (74 + τ 61 4) (10 * t + p)) 61 4 (τ 61 4 + 1), ?_, ?_, ?_, fun c j h => ?_, fun c j h => ?_⟩
          · rw [S_X6_book]
            simp (disch := first | exact z_tt rfl | assumption | omega | (simp (disch := omega) only [zU_eq, zU_nc, zU_nj]; omega)) only [↓L_ild_n1, ↓r_iconst, ↓r_icne_t, ↓r_icne_f, ↓J_X6_book_16, ↓L_ald_n0, ↓F_g0_0, ↓F_g1_10, ↓F_g17_10, ↓I_X1_empty_8, ↓I_X1_empty_11, ↓I_X1_empty_14, ↓I_X1_empty_24, ↓I_X1_empty_27, ↓I_X1_empty_30, ↓r_ireturn, ↓I_X6_isThing_0, ↓r_ifeq_t, ↓r_ifeq_f, ↓J_X6_book_32, ↓L_ild_n2, ↓I_X6_isParty_0, ↓r_ifne_t, ↓r_ifne_f, ↓J_X6_book_34, ↓I_X1_isFull_8, ↓I_X1_isFull_11, ↓I_X1_isFull_14, ↓I_X1_isFull_24, ↓I_X1_isFull_27, ↓I_X1_isFull_30, ↓J_X6_book_52, ↓r_bipush, ↓r_goto, ↓J_X6_book_64, ↓I_X1_append_8, ↓I_X1_append_11, ↓I_X1_append_14, ↓I_X1_append_24, ↓I_X1_append_27, ↓I_X1_append_30, ↓U_X6_book_0, ↓U_X6_book_16, ↓U_X6_book_32, ↓U_X6_book_34, ↓U_X6_book_52, ↓U_X6_book_64, ↓zthen_v, ↓zthen_0, zU_eq, zU_nc, zU_nj, c1, c2, cf, c_X1_append_14]
          · rw [S_X7_book, ← hM.2.2]
            simp (disch := first | exact z_tt rfl | assumption | omega | (simp (disch := omega) only [zU_eq, zU_nc, zU_nj]; omega)) only [↓L_ild_n1, ↓r_iconst, ↓r_icne_t, ↓r_icne_f, ↓J_X7_book_14, ↓L_ald_n0, ↓F_g60_0, ↓A_p3, ↓A_p4, ↓A_p5, ↓A_p6, ↓A_p7, ↓A_p9, ↓A_p10, ↓A_p12, ↓A_p13, ↓A_p15, ↓A_p16, ↓A_p19, ↓A_p20, ↓A_p21, ↓A_p22, ↓A_p23, ↓A_p25, ↓A_p26, ↓A_p28, ↓A_p29, ↓A_p31, ↓A_p32, ↓A_p34, ↓A_p36, ↓A_p37, ↓A_p38, ↓A_p39, ↓A_p41, ↓A_p42, ↓A_p43, ↓A_p44, ↓A_p61, ↓A_p62, ↓A_p63, ↓A_p65, ↓A_p66, ↓A_p67, ↓A_p68, ↓A_p69, ↓A_p70, ↓A_pN, ↓A_pT, ↓r_ireturn, ↓I_X7_isThing_60, ↓r_ifeq_t, ↓r_ifeq_f, ↓J_X7_book_30, ↓L_ild_n2, ↓I_X7_isParty_60, ↓r_ifne_t, ↓r_ifne_f, ↓J_X7_book_32, ↓A_g3, ↓A_g4, ↓A_g5, ↓A_g6, ↓A_g7, ↓A_g9, ↓A_g10, ↓A_g12, ↓A_g13, ↓A_g15, ↓A_g16, ↓A_g19, ↓A_g20, ↓A_g21, ↓A_g22, ↓A_g23, ↓A_g25, ↓A_g26, ↓A_g28, ↓A_g29, ↓A_g31, ↓A_g32, ↓A_g34, ↓A_g36, ↓A_g37, ↓A_g38, ↓A_g39, ↓A_g41, ↓A_g42, ↓A_g43, ↓A_g44, ↓A_g61, ↓A_g62, ↓A_g63, ↓A_g65, ↓A_g66, ↓A_g67, ↓A_g68, ↓A_g69, ↓A_g70, ↓A_gN, ↓A_gT, ↓A_gC, ↓r_bipush, ↓J_X7_book_46, ↓r_iadd, ↓r_imul, ↓r_dup2, ↓r_dup2L, ↓U_X7_book_0, ↓U_X7_book_14, ↓U_X7_book_30, ↓U_X7_book_32, ↓U_X7_book_46, ↓zthen_v, ↓zthen_0, zU_eq, zU_nc, zU_nj, m1, m2]
          · rw [show appR σ 14 t p = zU (zU (zU σ 15 (σ 14 2) t) 16 (σ 14 2) p) 14 2 (σ 14 2 + 1) from rfl]
            refine ⟨RSa_fr R.1 ?_ ?_ ?_ ?_, RSs_fr R.2.1 ?_ ?_ ?_ ?_, RSe_fr R.2.2.1 ?_ ?_ ?_ ?_, ⟨?_, ?_⟩⟩
            all_goals intros
            all_goals try (simp (disch := omega) only [zU_eq, zU_ow]; done)
            · simp (disch := omega) only [zU_eq, zU_ow]
              omega
            · rename_i k k1 k2
              simp (disch := omega) only [zU_eq, zU_ow] at k2
              by_cases q4 : k = σ 14 2
              · subst q4
                rw [hM.2.2]
                simp (disch := omega) only [zU_eq, zU_ow, true_and]
                omega
              · have := R.boR k k1 (by omega)
                simp (disch := omega) only [zU_eq, zU_ow]
                exact this
          · rw [show appR σ 14 t p = zU (zU (zU σ 15 (σ 14 2) t) 16 (σ 14 2) p) 14 2 (σ 14 2 + 1) from rfl]
            simp (disch := omega) only [zU_ow]
          · simp (disch := omega) only [zU_ow]
        · rw [if_neg q3] at cf
          refine Same_id R (-4) ?_ ?_
          · rw [S_X6_book]
            simp (disch := first | exact z_tt rfl | assumption | omega | (simp (disch := omega) only [zU_eq, zU_nc, zU_nj]; omega)) only [↓L_ild_n1, ↓r_iconst, ↓r_icne_t, ↓r_icne_f, ↓J_X6_book_16, ↓L_ald_n0, ↓F_g0_0, ↓F_g1_10, ↓F_g17_10, ↓I_X1_empty_8, ↓I_X1_empty_11, ↓I_X1_empty_14, ↓I_X1_empty_24, ↓I_X1_empty_27, ↓I_X1_empty_30, ↓r_ireturn, ↓I_X6_isThing_0, ↓r_ifeq_t, ↓r_ifeq_f, ↓J_X6_book_32, ↓L_ild_n2, ↓I_X6_isParty_0, ↓r_ifne_t, ↓r_ifne_f, ↓J_X6_book_34, ↓I_X1_isFull_8, ↓I_X1_isFull_11, ↓I_X1_isFull_14, ↓I_X1_isFull_24, ↓I_X1_isFull_27, ↓I_X1_isFull_30, ↓J_X6_book_52, ↓r_bipush, ↓r_goto, ↓J_X6_book_64, ↓I_X1_append_8, ↓I_X1_append_11, ↓I_X1_append_14, ↓I_X1_append_24, ↓I_X1_append_27, ↓I_X1_append_30, ↓U_X6_book_0, ↓U_X6_book_16, ↓U_X6_book_32, ↓U_X6_book_34, ↓U_X6_book_52, ↓U_X6_book_64, ↓zthen_v, ↓zthen_0, zU_eq, zU_nc, zU_nj, c1, c2, cf]
          · rw [S_X7_book]
            simp (disch := first | exact z_tt rfl | assumption | omega | (simp (disch := omega) only [zU_eq, zU_nc, zU_nj]; omega)) only [↓L_ild_n1, ↓r_iconst, ↓r_icne_t, ↓r_icne_f, ↓J_X7_book_14, ↓L_ald_n0, ↓F_g60_0, ↓A_p3, ↓A_p4, ↓A_p5, ↓A_p6, ↓A_p7, ↓A_p9, ↓A_p10, ↓A_p12, ↓A_p13, ↓A_p15, ↓A_p16, ↓A_p19, ↓A_p20, ↓A_p21, ↓A_p22, ↓A_p23, ↓A_p25, ↓A_p26, ↓A_p28, ↓A_p29, ↓A_p31, ↓A_p32, ↓A_p34, ↓A_p36, ↓A_p37, ↓A_p38, ↓A_p39, ↓A_p41, ↓A_p42, ↓A_p43, ↓A_p44, ↓A_p61, ↓A_p62, ↓A_p63, ↓A_p65, ↓A_p66, ↓A_p67, ↓A_p68, ↓A_p69, ↓A_p70, ↓A_pN, ↓A_pT, ↓r_ireturn, ↓I_X7_isThing_60, ↓r_ifeq_t, ↓r_ifeq_f, ↓J_X7_book_30, ↓L_ild_n2, ↓I_X7_isParty_60, ↓r_ifne_t, ↓r_ifne_f, ↓J_X7_book_32, ↓A_g3, ↓A_g4, ↓A_g5, ↓A_g6, ↓A_g7, ↓A_g9, ↓A_g10, ↓A_g12, ↓A_g13, ↓A_g15, ↓A_g16, ↓A_g19, ↓A_g20, ↓A_g21, ↓A_g22, ↓A_g23, ↓A_g25, ↓A_g26, ↓A_g28, ↓A_g29, ↓A_g31, ↓A_g32, ↓A_g34, ↓A_g36, ↓A_g37, ↓A_g38, ↓A_g39, ↓A_g41, ↓A_g42, ↓A_g43, ↓A_g44, ↓A_g61, ↓A_g62, ↓A_g63, ↓A_g65, ↓A_g66, ↓A_g67, ↓A_g68, ↓A_g69, ↓A_g70, ↓A_gN, ↓A_gT, ↓A_gC, ↓r_bipush, ↓J_X7_book_46, ↓r_iadd, ↓r_imul, ↓r_dup2, ↓r_dup2L, ↓U_X7_book_0, ↓U_X7_book_14, ↓U_X7_book_30, ↓U_X7_book_32, ↓U_X7_book_46, ↓zthen_v, ↓zthen_0, zU_eq, zU_nc, zU_nj, m1, m2]
      · have c2 := c_X6_isParty_f (σ := σ) (p := p) (by omega) (by omega)
        have m2 := m_isParty_f (σ := τ) (p := p) (by omega) (by omega)
        refine Same_id R (-1) ?_ ?_
        · rw [S_X6_book]
          simp (disch := first | exact z_tt rfl | assumption | omega | (simp (disch := omega) only [zU_eq, zU_nc, zU_nj]; omega)) only [↓L_ild_n1, ↓r_iconst, ↓r_icne_t, ↓r_icne_f, ↓J_X6_book_16, ↓L_ald_n0, ↓F_g0_0, ↓F_g1_10, ↓F_g17_10, ↓I_X1_empty_8, ↓I_X1_empty_11, ↓I_X1_empty_14, ↓I_X1_empty_24, ↓I_X1_empty_27, ↓I_X1_empty_30, ↓r_ireturn, ↓I_X6_isThing_0, ↓r_ifeq_t, ↓r_ifeq_f, ↓J_X6_book_32, ↓L_ild_n2, ↓I_X6_isParty_0, ↓r_ifne_t, ↓r_ifne_f, ↓J_X6_book_34, ↓I_X1_isFull_8, ↓I_X1_isFull_11, ↓I_X1_isFull_14, ↓I_X1_isFull_24, ↓I_X1_isFull_27, ↓I_X1_isFull_30, ↓J_X6_book_52, ↓r_bipush, ↓r_goto, ↓J_X6_book_64, ↓I_X1_append_8, ↓I_X1_append_11, ↓I_X1_append_14, ↓I_X1_append_24, ↓I_X1_append_27, ↓I_X1_append_30, ↓U_X6_book_0, ↓U_X6_book_16, ↓U_X6_book_32, ↓U_X6_book_34, ↓U_X6_book_52, ↓U_X6_book_64, ↓zthen_v, ↓zthen_0, zU_eq, zU_nc, zU_nj, c1, c2]
        · rw [S_X7_book]
          simp (disch := first | exact z_tt rfl | assumption | omega | (simp (disch := omega) only [zU_eq, zU_nc, zU_nj]; omega)) only [↓L_ild_n1, ↓r_iconst, ↓r_icne_t, ↓r_icne_f, ↓J_X7_book_14, ↓L_ald_n0, ↓F_g60_0, ↓A_p3, ↓A_p4, ↓A_p5, ↓A_p6, ↓A_p7, ↓A_p9, ↓A_p10, ↓A_p12, ↓A_p13, ↓A_p15, ↓A_p16, ↓A_p19, ↓A_p20, ↓A_p21, ↓A_p22, ↓A_p23, ↓A_p25, ↓A_p26, ↓A_p28, ↓A_p29, ↓A_p31, ↓A_p32, ↓A_p34, ↓A_p36, ↓A_p37, ↓A_p38, ↓A_p39, ↓A_p41, ↓A_p42, ↓A_p43, ↓A_p44, ↓A_p61, ↓A_p62, ↓A_p63, ↓A_p65, ↓A_p66, ↓A_p67, ↓A_p68, ↓A_p69, ↓A_p70, ↓A_pN, ↓A_pT, ↓r_ireturn, ↓I_X7_isThing_60, ↓r_ifeq_t, ↓r_ifeq_f, ↓J_X7_book_30, ↓L_ild_n2, ↓I_X7_isParty_60, ↓r_ifne_t, ↓r_ifne_f, ↓J_X7_book_32, ↓A_g3, ↓A_g4, ↓A_g5, ↓A_g6, ↓A_g7, ↓A_g9, ↓A_g10, ↓A_g12, ↓A_g13, ↓A_g15, ↓A_g16, ↓A_g19, ↓A_g20, ↓A_g21, ↓A_g22, ↓A_g23, ↓A_g25, ↓A_g26, ↓A_g28, ↓A_g29, ↓A_g31, ↓A_g32, ↓A_g34, ↓A_g36, ↓A_g37, ↓A_g38, ↓A_g39, ↓A_g41, ↓A_g42, ↓A_g43, ↓A_g44, ↓A_g61, ↓A_g62, ↓A_g63, ↓A_g65, ↓A_g66, ↓A_g67, ↓A_g68, ↓A_g69, ↓A_g70, ↓A_gN, ↓A_gT, ↓A_gC, ↓r_bipush, ↓J_X7_book_46, ↓r_iadd, ↓r_imul, ↓r_dup2, ↓r_dup2L, ↓U_X7_book_0, ↓U_X7_book_14, ↓U_X7_book_30, ↓U_X7_book_32, ↓U_X7_book_46, ↓zthen_v, ↓zthen_0, zU_eq, zU_nc, zU_nj, m1, m2]
    · have c1 := c_X6_isThing_f (σ := σ) (p := t) (by omega) (by omega)
      have m1 := m_isThing_f (σ := τ) (p := t) (by omega) (by omega)
      refine Same_id R (-1) ?_ ?_
      · rw [S_X6_book]
        simp (disch := first | exact z_tt rfl | assumption | omega | (simp (disch := omega) only [zU_eq, zU_nc, zU_nj]; omega)) only [↓L_ild_n1, ↓r_iconst, ↓r_icne_t, ↓r_icne_f, ↓J_X6_book_16, ↓L_ald_n0, ↓F_g0_0, ↓F_g1_10, ↓F_g17_10, ↓I_X1_empty_8, ↓I_X1_empty_11, ↓I_X1_empty_14, ↓I_X1_empty_24, ↓I_X1_empty_27, ↓I_X1_empty_30, ↓r_ireturn, ↓I_X6_isThing_0, ↓r_ifeq_t, ↓r_ifeq_f, ↓J_X6_book_32, ↓L_ild_n2, ↓I_X6_isParty_0, ↓r_ifne_t, ↓r_ifne_f, ↓J_X6_book_34, ↓I_X1_isFull_8, ↓I_X1_isFull_11, ↓I_X1_isFull_14, ↓I_X1_isFull_24, ↓I_X1_isFull_27, ↓I_X1_isFull_30, ↓J_X6_book_52, ↓r_bipush, ↓r_goto, ↓J_X6_book_64, ↓I_X1_append_8, ↓I_X1_append_11, ↓I_X1_append_14, ↓I_X1_append_24, ↓I_X1_append_27, ↓I_X1_append_30, ↓U_X6_book_0, ↓U_X6_book_16, ↓U_X6_book_32, ↓U_X6_book_34, ↓U_X6_book_52, ↓U_X6_book_64, ↓zthen_v, ↓zthen_0, zU_eq, zU_nc, zU_nj, c1]
      · rw [S_X7_book]
        simp (disch := first | exact z_tt rfl | assumption | omega | (simp (disch := omega) only [zU_eq, zU_nc, zU_nj]; omega)) only [↓L_ild_n1, ↓r_iconst, ↓r_icne_t, ↓r_icne_f, ↓J_X7_book_14, ↓L_ald_n0, ↓F_g60_0, ↓A_p3, ↓A_p4, ↓A_p5, ↓A_p6, ↓A_p7, ↓A_p9, ↓A_p10, ↓A_p12, ↓A_p13, ↓A_p15, ↓A_p16, ↓A_p19, ↓A_p20, ↓A_p21, ↓A_p22, ↓A_p23, ↓A_p25, ↓A_p26, ↓A_p28, ↓A_p29, ↓A_p31, ↓A_p32, ↓A_p34, ↓A_p36, ↓A_p37, ↓A_p38, ↓A_p39, ↓A_p41, ↓A_p42, ↓A_p43, ↓A_p44, ↓A_p61, ↓A_p62, ↓A_p63, ↓A_p65, ↓A_p66, ↓A_p67, ↓A_p68, ↓A_p69, ↓A_p70, ↓A_pN, ↓A_pT, ↓r_ireturn, ↓I_X7_isThing_60, ↓r_ifeq_t, ↓r_ifeq_f, ↓J_X7_book_30, ↓L_ild_n2, ↓I_X7_isParty_60, ↓r_ifne_t, ↓r_ifne_f, ↓J_X7_book_32, ↓A_g3, ↓A_g4, ↓A_g5, ↓A_g6, ↓A_g7, ↓A_g9, ↓A_g10, ↓A_g12, ↓A_g13, ↓A_g15, ↓A_g16, ↓A_g19, ↓A_g20, ↓A_g21, ↓A_g22, ↓A_g23, ↓A_g25, ↓A_g26, ↓A_g28, ↓A_g29, ↓A_g31, ↓A_g32, ↓A_g34, ↓A_g36, ↓A_g37, ↓A_g38, ↓A_g39, ↓A_g41, ↓A_g42, ↓A_g43, ↓A_g44, ↓A_g61, ↓A_g62, ↓A_g63, ↓A_g65, ↓A_g66, ↓A_g67, ↓A_g68, ↓A_g69, ↓A_g70, ↓A_gN, ↓A_gT, ↓A_gC, ↓r_bipush, ↓J_X7_book_46, ↓r_iadd, ↓r_imul, ↓r_dup2, ↓r_dup2L, ↓U_X7_book_0, ↓U_X7_book_14, ↓U_X7_book_30, ↓U_X7_book_32, ↓U_X7_book_46, ↓zthen_v, ↓zthen_0, zU_eq, zU_nc, zU_nj, m1]
