set_option maxRecDepth 20000 in
set_option maxHeartbeats 4000000 in
theorem op_point {σ τ : zM} {p t x : Int} (R : Rel1 σ τ) (hp : -2147483648 ≤ p ∧ p < 2147483648) (ht : -2147483648 ≤ t ∧ t < 2147483648) (hx : -2147483648 ≤ x ∧ x < 2147483648) : Same σ τ (zcall 49 [vR 0, vI p, vI t, vI x] σ) (zcall 114 [vR 60, vI p, vI t, vI x] τ) := by
  have hn := R.n
  have hm := R.m
  by_cases q1 : 0 ≤ p ∧ p < σ 1 0
  · have c1 := c_X6_isParty_t (σ := σ) (p := p) q1 (by omega)
    have m1 := m_isParty_t (σ := τ) (p := p) (by omega) (by omega)
    by_cases q2 : 0 ≤ t ∧ t < σ 1 1
    · have c2 := c_X6_isThing_t (σ := σ) (p := t) q2 (by omega)
      have m2 := m_isThing_t (σ := τ) (p := t) (by omega) (by omega)
      by_cases q3 : 0 ≤ x ∧ x ≤ 99
      · have e := R.pt p t (by omega) (by omega) (by omega) (by omega)
        refine ⟨σ (3 + p) t, zU σ (3 + p) t x, zU τ 61 (29 + 6 * p + t) x, ?_, ?_, ?_, fun c j h => zU_nc _ _ _ _ _ _ (by omega), fun c j h => zU_nc _ _ _ _ _ _ (by omega)⟩
        · rw [S_X6_point]
          simp (disch := first | exact z_tt rfl | assumption | omega | (simp (disch := omega) only [zU_eq, zU_nc, zU_nj]; omega)) only [↓L_ald_n0, ↓L_ild_n1, ↓I_X6_isParty_0, ↓r_ifeq_t, ↓r_ifeq_f, ↓J_X6_point_16, ↓L_ild_n2, ↓I_X6_isThing_0, ↓r_ifne_t, ↓r_ifne_f, ↓J_X6_point_18, ↓r_iconst, ↓r_ireturn, ↓L_ild_n3, ↓r_iflt_t, ↓r_iflt_f, ↓J_X6_point_28, ↓r_bipush, ↓r_icle_t, ↓r_icle_f, ↓J_X6_point_31, ↓F_g0_0, ↓F_g1_2, ↓F_g17_2, ↓A_a2, ↓A_a18, ↓A_a40, ↓A_a47, ↓A_g3, ↓A_g4, ↓A_g5, ↓A_g6, ↓A_g7, ↓A_g9, ↓A_g10, ↓A_g12, ↓A_g13, ↓A_g15, ↓A_g16, ↓A_g19, ↓A_g20, ↓A_g21, ↓A_g22, ↓A_g23, ↓A_g25, ↓A_g26, ↓A_g28, ↓A_g29, ↓A_g31, ↓A_g32, ↓A_g34, ↓A_g36, ↓A_g37, ↓A_g38, ↓A_g39, ↓A_g41, ↓A_g42, ↓A_g43, ↓A_g44, ↓A_g61, ↓A_g62, ↓A_g63, ↓A_g65, ↓A_g66, ↓A_g67, ↓A_g68, ↓A_g69, ↓A_g70, ↓A_gN, ↓A_gT, ↓A_gC, ↓L_ist4, ↓L_ist4L, ↓A_p3, ↓A_p4, ↓A_p5, ↓A_p6, ↓A_p7, ↓A_p9, ↓A_p10, ↓A_p12, ↓A_p13, ↓A_p15, ↓A_p16, ↓A_p19, ↓A_p20, ↓A_p21, ↓A_p22, ↓A_p23, ↓A_p25, ↓A_p26, ↓A_p28, ↓A_p29, ↓A_p31, ↓A_p32, ↓A_p34, ↓A_p36, ↓A_p37, ↓A_p38, ↓A_p39, ↓A_p41, ↓A_p42, ↓A_p43, ↓A_p44, ↓A_p61, ↓A_p62, ↓A_p63, ↓A_p65, ↓A_p66, ↓A_p67, ↓A_p68, ↓A_p69, ↓A_p70, ↓A_pN, ↓A_pT, ↓L_ild4, ↓U_X6_point_0, ↓U_X6_point_16, ↓U_X6_point_18, ↓U_X6_point_28, ↓U_X6_point_31, ↓zthen_v, ↓zthen_0, zU_eq, zU_nc, zU_nj, c1, c2]
        · rw [S_X7_point]
          simp (disch := first | exact z_tt rfl | assumption | omega | (simp (disch := omega) only [zU_eq, zU_nc, zU_nj]; omega)) only [↓L_ald_n0, ↓L_ild_n1, ↓I_X7_isParty_60, ↓r_ifeq_t, ↓r_ifeq_f, ↓J_X7_point_16, ↓L_ild_n2, ↓I_X7_isThing_60, ↓r_ifne_t, ↓r_ifne_f, ↓J_X7_point_18, ↓r_iconst, ↓r_ireturn, ↓L_ild_n3, ↓r_i2l, ↓r_lconst, ↓r_ldc2w, ↓I_X7_in, ↓J_X7_point_33, ↓r_bipush, ↓I_X7_pointsOf_60, ↓L_ist4, ↓L_ist4L, ↓F_g60_0, ↓r_imul, ↓r_iadd, ↓A_p3, ↓A_p4, ↓A_p5, ↓A_p6, ↓A_p7, ↓A_p9, ↓A_p10, ↓A_p12, ↓A_p13, ↓A_p15, ↓A_p16, ↓A_p19, ↓A_p20, ↓A_p21, ↓A_p22, ↓A_p23, ↓A_p25, ↓A_p26, ↓A_p28, ↓A_p29, ↓A_p31, ↓A_p32, ↓A_p34, ↓A_p36, ↓A_p37, ↓A_p38, ↓A_p39, ↓A_p41, ↓A_p42, ↓A_p43, ↓A_p44, ↓A_p61, ↓A_p62, ↓A_p63, ↓A_p65, ↓A_p66, ↓A_p67, ↓A_p68, ↓A_p69, ↓A_p70, ↓A_pN, ↓A_pT, ↓L_ild4, ↓U_X7_point_0, ↓U_X7_point_16, ↓U_X7_point_18, ↓U_X7_point_33, ↓zthen_v, ↓zthen_0, zU_eq, zU_nc, zU_nj, m1, m2, m_pointsOf, m_in_t, e]
        · refine ⟨?_, RSs_fr R.2.1 ?_ ?_ ?_ ?_, RSe_fr R.2.2.1 ?_ ?_ ?_ ?_, RSb_fr R.2.2.2 ?_ ?_ ?_ ?_⟩
          · have e1 : ∀ j, zU σ (3 + p) t x 1 j = σ 1 j := fun j => zU_nc _ _ _ _ _ _ (by omega)
            unfold RSa
            rw [e1, e1, e1, e1, e1, e1]
            refine ⟨?_, ?_, ?_, ?_, ?_, ?_, R.cut, ?_, ?_⟩
            all_goals intros
            · simp (disch := omega) only [zU_ow]; exact R.n
            · simp (disch := omega) only [zU_ow]; exact R.m
            · rename_i p' t' h1 h2 h3 h4
              by_cases q : p' = p
              · subst q
                by_cases q' : t' = t
                · subst q'
                  rw [zU_eq]; exact q3
                · simp (disch := omega) only [zU_ow]; exact R.ptr _ _ h1 h2 h3 h4
              · simp (disch := omega) only [zU_ow]; exact R.ptr _ _ h1 h2 h3 h4
            · rename_i p' t' h1 h2 h3 h4
              by_cases q : p' = p
              · subst q
                by_cases q' : t' = t
                · subst q'
                  rw [zU_eq, zU_eq]
                · simp (disch := omega) only [zU_ow]; exact R.pt _ _ h1 h2 h3 h4
              · simp (disch := omega) only [zU_ow]; exact R.pt _ _ h1 h2 h3 h4
            · rename_i t' h1 h2
              simp (disch := omega) only [zU_ow]; exact R.fir _ h1 h2
            · rename_i t' h1 h2
              simp (disch := omega) only [zU_ow]; exact R.fi _ h1 h2
            · rename_i t' h1 h2 h3
              simp (disch := omega) only [zU_ow]; exact R.cuY _ h1 h2 h3
            · rename_i t' h1 h2 h3
              simp (disch := omega) only [zU_ow]; exact R.cuN _ h1 h2 h3
          all_goals intros
          all_goals simp (disch := omega) only [zU_ow]
      · refine Same_id R (-2) ?_ ?_
        · rw [S_X6_point]
          by_cases q6 : x < 0
          · simp (disch := first | exact z_tt rfl | assumption | omega | (simp (disch := omega) only [zU_eq, zU_nc, zU_nj]; omega)) only [↓L_ald_n0, ↓L_ild_n1, ↓I_X6_isParty_0, ↓r_ifeq_t, ↓r_ifeq_f, ↓J_X6_point_16, ↓L_ild_n2, ↓I_X6_isThing_0, ↓r_ifne_t, ↓r_ifne_f, ↓J_X6_point_18, ↓r_iconst, ↓r_ireturn, ↓L_ild_n3, ↓r_iflt_t, ↓r_iflt_f, ↓J_X6_point_28, ↓r_bipush, ↓r_icle_t, ↓r_icle_f, ↓J_X6_point_31, ↓F_g0_0, ↓F_g1_2, ↓F_g17_2, ↓A_a2, ↓A_a18, ↓A_a40, ↓A_a47, ↓A_g3, ↓A_g4, ↓A_g5, ↓A_g6, ↓A_g7, ↓A_g9, ↓A_g10, ↓A_g12, ↓A_g13, ↓A_g15, ↓A_g16, ↓A_g19, ↓A_g20, ↓A_g21, ↓A_g22, ↓A_g23, ↓A_g25, ↓A_g26, ↓A_g28, ↓A_g29, ↓A_g31, ↓A_g32, ↓A_g34, ↓A_g36, ↓A_g37, ↓A_g38, ↓A_g39, ↓A_g41, ↓A_g42, ↓A_g43, ↓A_g44, ↓A_g61, ↓A_g62, ↓A_g63, ↓A_g65, ↓A_g66, ↓A_g67, ↓A_g68, ↓A_g69, ↓A_g70, ↓A_gN, ↓A_gT, ↓A_gC, ↓L_ist4, ↓L_ist4L, ↓A_p3, ↓A_p4, ↓A_p5, ↓A_p6, ↓A_p7, ↓A_p9, ↓A_p10, ↓A_p12, ↓A_p13, ↓A_p15, ↓A_p16, ↓A_p19, ↓A_p20, ↓A_p21, ↓A_p22, ↓A_p23, ↓A_p25, ↓A_p26, ↓A_p28, ↓A_p29, ↓A_p31, ↓A_p32, ↓A_p34, ↓A_p36, ↓A_p37, ↓A_p38, ↓A_p39, ↓A_p41, ↓A_p42, ↓A_p43, ↓A_p44, ↓A_p61, ↓A_p62, ↓A_p63, ↓A_p65, ↓A_p66, ↓A_p67, ↓A_p68, ↓A_p69, ↓A_p70, ↓A_pN, ↓A_pT, ↓L_ild4, ↓U_X6_point_0, ↓U_X6_point_16, ↓U_X6_point_18, ↓U_X6_point_28, ↓U_X6_point_31, ↓zthen_v, ↓zthen_0, zU_eq, zU_nc, zU_nj, c1, c2]
          · simp (disch := first | exact z_tt rfl | assumption | omega | (simp (disch := omega) only [zU_eq, zU_nc, zU_nj]; omega)) only [↓L_ald_n0, ↓L_ild_n1, ↓I_X6_isParty_0, ↓r_ifeq_t, ↓r_ifeq_f, ↓J_X6_point_16, ↓L_ild_n2, ↓I_X6_isThing_0, ↓r_ifne_t, ↓r_ifne_f, ↓J_X6_point_18, ↓r_iconst, ↓r_ireturn, ↓L_ild_n3, ↓r_iflt_t, ↓r_iflt_f, ↓J_X6_point_28, ↓r_bipush, ↓r_icle_t, ↓r_icle_f, ↓J_X6_point_31, ↓F_g0_0, ↓F_g1_2, ↓F_g17_2, ↓A_a2, ↓A_a18, ↓A_a40, ↓A_a47, ↓A_g3, ↓A_g4, ↓A_g5, ↓A_g6, ↓A_g7, ↓A_g9, ↓A_g10, ↓A_g12, ↓A_g13, ↓A_g15, ↓A_g16, ↓A_g19, ↓A_g20, ↓A_g21, ↓A_g22, ↓A_g23, ↓A_g25, ↓A_g26, ↓A_g28, ↓A_g29, ↓A_g31, ↓A_g32, ↓A_g34, ↓A_g36, ↓A_g37, ↓A_g38, ↓A_g39, ↓A_g41, ↓A_g42, ↓A_g43, ↓A_g44, ↓A_g61, ↓A_g62, ↓A_g63, ↓A_g65, ↓A_g66, ↓A_g67, ↓A_g68, ↓A_g69, ↓A_g70, ↓A_gN, ↓A_gT, ↓A_gC, ↓L_ist4, ↓L_ist4L, ↓A_p3, ↓A_p4, ↓A_p5, ↓A_p6, ↓A_p7, ↓A_p9, ↓A_p10, ↓A_p12, ↓A_p13, ↓A_p15, ↓A_p16, ↓A_p19, ↓A_p20, ↓A_p21, ↓A_p22, ↓A_p23, ↓A_p25, ↓A_p26, ↓A_p28, ↓A_p29, ↓A_p31, ↓A_p32, ↓A_p34, ↓A_p36, ↓A_p37, ↓A_p38, ↓A_p39, ↓A_p41, ↓A_p42, ↓A_p43, ↓A_p44, ↓A_p61, ↓A_p62, ↓A_p63, ↓A_p65, ↓A_p66, ↓A_p67, ↓A_p68, ↓A_p69, ↓A_p70, ↓A_pN, ↓A_pT, ↓L_ild4, ↓U_X6_point_0, ↓U_X6_point_16, ↓U_X6_point_18, ↓U_X6_point_28, ↓U_X6_point_31, ↓zthen_v, ↓zthen_0, zU_eq, zU_nc, zU_nj, c1, c2]
        · rw [S_X7_point]
          simp (disch := first | exact z_tt rfl | assumption | omega | (simp (disch := omega) only [zU_eq, zU_nc, zU_nj]; omega)) only [↓L_ald_n0, ↓L_ild_n1, ↓I_X7_isParty_60, ↓r_ifeq_t, ↓r_ifeq_f, ↓J_X7_point_16, ↓L_ild_n2, ↓I_X7_isThing_60, ↓r_ifne_t, ↓r_ifne_f, ↓J_X7_point_18, ↓r_iconst, ↓r_ireturn, ↓L_ild_n3, ↓r_i2l, ↓r_lconst, ↓r_ldc2w, ↓I_X7_in, ↓J_X7_point_33, ↓r_bipush, ↓I_X7_pointsOf_60, ↓L_ist4, ↓L_ist4L, ↓F_g60_0, ↓r_imul, ↓r_iadd, ↓A_p3, ↓A_p4, ↓A_p5, ↓A_p6, ↓A_p7, ↓A_p9, ↓A_p10, ↓A_p12, ↓A_p13, ↓A_p15, ↓A_p16, ↓A_p19, ↓A_p20, ↓A_p21, ↓A_p22, ↓A_p23, ↓A_p25, ↓A_p26, ↓A_p28, ↓A_p29, ↓A_p31, ↓A_p32, ↓A_p34, ↓A_p36, ↓A_p37, ↓A_p38, ↓A_p39, ↓A_p41, ↓A_p42, ↓A_p43, ↓A_p44, ↓A_p61, ↓A_p62, ↓A_p63, ↓A_p65, ↓A_p66, ↓A_p67, ↓A_p68, ↓A_p69, ↓A_p70, ↓A_pN, ↓A_pT, ↓L_ild4, ↓U_X7_point_0, ↓U_X7_point_16, ↓U_X7_point_18, ↓U_X7_point_33, ↓zthen_v, ↓zthen_0, zU_eq, zU_nc, zU_nj, m1, m2, m_in_f]
    · have c2 := c_X6_isThing_f (σ := σ) (p := t) (by omega) (by omega)
      have m2 := m_isThing_f (σ := τ) (p := t) (by omega) (by omega)
      refine Same_id R (-1) ?_ ?_
      · rw [S_X6_point]
        simp (disch := first | exact z_tt rfl | assumption | omega | (simp (disch := omega) only [zU_eq, zU_nc, zU_nj]; omega)) only [↓L_ald_n0, ↓L_ild_n1, ↓I_X6_isParty_0, ↓r_ifeq_t, ↓r_ifeq_f, ↓J_X6_point_16, ↓L_ild_n2, ↓I_X6_isThing_0, ↓r_ifne_t, ↓r_ifne_f, ↓J_X6_point_18, ↓r_iconst, ↓r_ireturn, ↓L_ild_n3, ↓r_iflt_t, ↓r_iflt_f, ↓J_X6_point_28, ↓r_bipush, ↓r_icle_t, ↓r_icle_f, ↓J_X6_point_31, ↓F_g0_0, ↓F_g1_2, ↓F_g17_2, ↓A_a2, ↓A_a18, ↓A_a40, ↓A_a47, ↓A_g3, ↓A_g4, ↓A_g5, ↓A_g6, ↓A_g7, ↓A_g9, ↓A_g10, ↓A_g12, ↓A_g13, ↓A_g15, ↓A_g16, ↓A_g19, ↓A_g20, ↓A_g21, ↓A_g22, ↓A_g23, ↓A_g25, ↓A_g26, ↓A_g28, ↓A_g29, ↓A_g31, ↓A_g32, ↓A_g34, ↓A_g36, ↓A_g37, ↓A_g38, ↓A_g39, ↓A_g41, ↓A_g42, ↓A_g43, ↓A_g44, ↓A_g61, ↓A_g62, ↓A_g63, ↓A_g65, ↓A_g66, ↓A_g67, ↓A_g68, ↓A_g69, ↓A_g70, ↓A_gN, ↓A_gT, ↓A_gC, ↓L_ist4, ↓L_ist4L, ↓A_p3, ↓A_p4, ↓A_p5, ↓A_p6, ↓A_p7, ↓A_p9, ↓A_p10, ↓A_p12, ↓A_p13, ↓A_p15, ↓A_p16, ↓A_p19, ↓A_p20, ↓A_p21, ↓A_p22, ↓A_p23, ↓A_p25, ↓A_p26, ↓A_p28, ↓A_p29, ↓A_p31, ↓A_p32, ↓A_p34, ↓A_p36, ↓A_p37, ↓A_p38, ↓A_p39, ↓A_p41, ↓A_p42, ↓A_p43, ↓A_p44, ↓A_p61, ↓A_p62, ↓A_p63, ↓A_p65, ↓A_p66, ↓A_p67, ↓A_p68, ↓A_p69, ↓A_p70, ↓A_pN, ↓A_pT, ↓L_ild4, ↓U_X6_point_0, ↓U_X6_point_16, ↓U_X6_point_18, ↓U_X6_point_28, ↓U_X6_point_31, ↓zthen_v, ↓zthen_0, zU_eq, zU_nc, zU_nj, c1, c2]
      · rw [S_X7_point]
        simp (disch := first | exact z_tt rfl | assumption | omega | (simp (disch := omega) only [zU_eq, zU_nc, zU_nj]; omega)) only [↓L_ald_n0, ↓L_ild_n1, ↓I_X7_isParty_60, ↓r_ifeq_t, ↓r_ifeq_f, ↓J_X7_point_16, ↓L_ild_n2, ↓I_X7_isThing_60, ↓r_ifne_t, ↓r_ifne_f, ↓J_X7_point_18, ↓r_iconst, ↓r_ireturn, ↓L_ild_n3, ↓r_i2l, ↓r_lconst, ↓r_ldc2w, ↓I_X7_in, ↓J_X7_point_33, ↓r_bipush, ↓I_X7_pointsOf_60, ↓L_ist4, ↓L_ist4L, ↓F_g60_0, ↓r_imul, ↓r_iadd, ↓A_p3, ↓A_p4, ↓A_p5, ↓A_p6, ↓A_p7, ↓A_p9, ↓A_p10, ↓A_p12, ↓A_p13, ↓A_p15, ↓A_p16, ↓A_p19, ↓A_p20, ↓A_p21, ↓A_p22, ↓A_p23, ↓A_p25, ↓A_p26, ↓A_p28, ↓A_p29, ↓A_p31, ↓A_p32, ↓A_p34, ↓A_p36, ↓A_p37, ↓A_p38, ↓A_p39, ↓A_p41, ↓A_p42, ↓A_p43, ↓A_p44, ↓A_p61, ↓A_p62, ↓A_p63, ↓A_p65, ↓A_p66, ↓A_p67, ↓A_p68, ↓A_p69, ↓A_p70, ↓A_pN, ↓A_pT, ↓L_ild4, ↓U_X7_point_0, ↓U_X7_point_16, ↓U_X7_point_18, ↓U_X7_point_33, ↓zthen_v, ↓zthen_0, zU_eq, zU_nc, zU_nj, m1, m2]
  · have c1 := c_X6_isParty_f (σ := σ) (p := p) (by omega) (by omega)
    have m1 := m_isParty_f (σ := τ) (p := p) (by omega) (by omega)
    refine Same_id R (-1) ?_ ?_
    · rw [S_X6_point]
      simp (disch := first | exact z_tt rfl | assumption | omega | (simp (disch := omega) only [zU_eq, zU_nc, zU_nj]; omega)) only [↓L_ald_n0, ↓L_ild_n1, ↓I_X6_isParty_0, ↓r_ifeq_t, ↓r_ifeq_f, ↓J_X6_point_16, ↓L_ild_n2, ↓I_X6_isThing_0, ↓r_ifne_t, ↓r_ifne_f, ↓J_X6_point_18, ↓r_iconst, ↓r_ireturn, ↓L_ild_n3, ↓r_iflt_t, ↓r_iflt_f, ↓J_X6_point_28, ↓r_bipush, ↓r_icle_t, ↓r_icle_f, ↓J_X6_point_31, ↓F_g0_0, ↓F_g1_2, ↓F_g17_2, ↓A_a2, ↓A_a18, ↓A_a40, ↓A_a47, ↓A_g3, ↓A_g4, ↓A_g5, ↓A_g6, ↓A_g7, ↓A_g9, ↓A_g10, ↓A_g12, ↓A_g13, ↓A_g15, ↓A_g16, ↓A_g19, ↓A_g20, ↓A_g21, ↓A_g22, ↓A_g23, ↓A_g25, ↓A_g26, ↓A_g28, ↓A_g29, ↓A_g31, ↓A_g32, ↓A_g34, ↓A_g36, ↓A_g37, ↓A_g38, ↓A_g39, ↓A_g41, ↓A_g42, ↓A_g43, ↓A_g44, ↓A_g61, ↓A_g62, ↓A_g63, ↓A_g65, ↓A_g66, ↓A_g67, ↓A_g68, ↓A_g69, ↓A_g70, ↓A_gN, ↓A_gT, ↓A_gC, ↓L_ist4, ↓L_ist4L, ↓A_p3, ↓A_p4, ↓A_p5, ↓A_p6, ↓A_p7, ↓A_p9, ↓A_p10, ↓A_p12, ↓A_p13, ↓A_p15, ↓A_p16, ↓A_p19, ↓A_p20, ↓A_p21, ↓A_p22, ↓A_p23, ↓A_p25, ↓A_p26, ↓A_p28, ↓A_p29, ↓A_p31, ↓A_p32, ↓A_p34, ↓A_p36, ↓A_p37, ↓A_p38, ↓A_p39, ↓A_p41, ↓A_p42, ↓A_p43, ↓A_p44, ↓A_p61, ↓A_p62, ↓A_p63, ↓A_p65, ↓A_p66, ↓A_p67, ↓A_p68, ↓A_p69, ↓A_p70, ↓A_pN, ↓A_pT, ↓L_ild4, ↓U_X6_point_0, ↓U_X6_point_16, ↓U_X6_point_18, ↓U_X6_point_28, ↓U_X6_point_31, ↓zthen_v, ↓zthen_0, zU_eq, zU_nc, zU_nj, c1]
    · rw [S_X7_point]
      simp (disch := first | exact z_tt rfl | assumption | omega | (simp (disch := omega) only [zU_eq, zU_nc, zU_nj]; omega)) only [↓L_ald_n0, ↓L_ild_n1, ↓I_X7_isParty_60, ↓r_ifeq_t, ↓r_ifeq_f, ↓J_X7_point_16, ↓L_ild_n2, ↓I_X7_isThing_60, ↓r_ifne_t, ↓r_ifne_f, ↓J_X7_point_18, ↓r_iconst, ↓r_ireturn, ↓L_ild_n3, ↓r_i2l, ↓r_lconst, ↓r_ldc2w, ↓I_X7_in, ↓J_X7_point_33, ↓r_bipush, ↓I_X7_pointsOf_60, ↓L_ist4, ↓L_ist4L, ↓F_g60_0, ↓r_imul, ↓r_iadd, ↓A_p3, ↓A_p4, ↓A_p5, ↓A_p6, ↓A_p7, ↓A_p9, ↓A_p10, ↓A_p12, ↓A_p13, ↓A_p15, ↓A_p16, ↓A_p19, ↓A_p20, ↓A_p21, ↓A_p22, ↓A_p23, ↓A_p25, ↓A_p26, ↓A_p28, ↓A_p29, ↓A_p31, ↓A_p32, ↓A_p34, ↓A_p36, ↓A_p37, ↓A_p38, ↓A_p39, ↓A_p41, ↓A_p42, ↓A_p43, ↓A_p44, ↓A_p61, ↓A_p62, ↓A_p63, ↓A_p65, ↓A_p66, ↓A_p67, ↓A_p68, ↓A_p69, ↓A_p70, ↓A_pN, ↓A_pT, ↓L_ild4, ↓U_X7_point_0, ↓U_X7_point_16, ↓U_X7_point_18, ↓U_X7_point_33, ↓zthen_v, ↓zthen_0, zU_eq, zU_nc, zU_nj, m1]
set_option maxRecDepth 20000 in
set_option maxHeartbeats 4000000 in
theorem op_parties {σ τ : zM} {n : Int} (R : Rel1 σ τ) (hn' : -2147483648 ≤ n ∧ n < 2147483648) : Same σ τ (zcall 47 [vR 0, vI n] σ) (zcall 110 [vR 60, vI n] τ) := by
  have hn := R.n
  have hm := R.m
  by_cases q1 : 2 ≤ n ∧ n ≤ 4
  · refine ⟨σ 1 0, zU (zU (zU (mend (zU (zU σ 1 0 n) 1 1 0)) 8 2 0) 11 2 0) 14 2 0, zU (zU (zU (zU (zU τ 61 0 n) 61 1 0) 61 2 0) 61 3 0) 61 4 0, ?_, ?_, ?_, fun c j h => ?_, fun c j h => ?_⟩
    · rw [S_X6_parties]
      simp (disch := first | exact z_tt rfl | assumption | omega | (simp (disch := omega) only [zU_eq, zU_nc, zU_nj]; omega)) only [↓L_ild_n1, ↓r_iconst, ↓r_iclt_t, ↓r_iclt_f, ↓J_X6_parties_10, ↓r_icle_t, ↓r_icle_f, ↓J_X6_parties_13, ↓r_bipush, ↓r_ireturn, ↓L_ald_n0, ↓F_g0_0, ↓F_g1_0, ↓F_g17_0, ↓L_ist_n2, ↓L_ist_n2L, ↓I_X2_beginWith_1, ↓I_X2_beginWith_17, ↓L_ild_n2, ↓U_X6_parties_0, ↓U_X6_parties_10, ↓U_X6_parties_13, ↓zthen_v, ↓zthen_0, zU_eq, zU_nc, zU_nj, c_X2_beginWith]
    · rw [S_X7_parties, ← hn.2.2]
      simp (disch := first | exact z_tt rfl | assumption | omega | (simp (disch := omega) only [zU_eq, zU_nc, zU_nj]; omega)) only [↓L_ild_n1, ↓r_i2l, ↓r_ldc2w, ↓I_X7_in, ↓r_ifne_t, ↓r_ifne_f, ↓J_X7_parties_17, ↓r_bipush, ↓r_ireturn, ↓L_ald_n0, ↓F_g60_0, ↓r_iconst, ↓A_g3, ↓A_g4, ↓A_g5, ↓A_g6, ↓A_g7, ↓A_g9, ↓A_g10, ↓A_g12, ↓A_g13, ↓A_g15, ↓A_g16, ↓A_g19, ↓A_g20, ↓A_g21, ↓A_g22, ↓A_g23, ↓A_g25, ↓A_g26, ↓A_g28, ↓A_g29, ↓A_g31, ↓A_g32, ↓A_g34, ↓A_g36, ↓A_g37, ↓A_g38, ↓A_g39, ↓A_g41, ↓A_g42, ↓A_g43, ↓A_g44, ↓A_g61, ↓A_g62, ↓A_g63, ↓A_g65, ↓A_g66, ↓A_g67, ↓A_g68, ↓A_g69, ↓A_g70, ↓A_gN, ↓A_gT, ↓A_gC, ↓L_ist_n2, ↓L_ist_n2L, ↓A_p3, ↓A_p4, ↓A_p5, ↓A_p6, ↓A_p7, ↓A_p9, ↓A_p10, ↓A_p12, ↓A_p13, ↓A_p15, ↓A_p16, ↓A_p19, ↓A_p20, ↓A_p21, ↓A_p22, ↓A_p23, ↓A_p25, ↓A_p26, ↓A_p28, ↓A_p29, ↓A_p31, ↓A_p32, ↓A_p34, ↓A_p36, ↓A_p37, ↓A_p38, ↓A_p39, ↓A_p41, ↓A_p42, ↓A_p43, ↓A_p44, ↓A_p61, ↓A_p62, ↓A_p63, ↓A_p65, ↓A_p66, ↓A_p67, ↓A_p68, ↓A_p69, ↓A_p70, ↓A_pN, ↓A_pT, ↓L_ild_n2, ↓U_X7_parties_0, ↓U_X7_parties_17, ↓zthen_v, ↓zthen_0, zU_eq, zU_nc, zU_nj, m_in_t]
    · unfold mend
      refine ⟨⟨?_, ?_, ?_, ?_, ?_, ?_, ?_, ?_, ?_⟩, ⟨?_, ?_⟩, ⟨?_, ?_⟩, ⟨?_, ?_⟩⟩
      · simp (disch := omega) only [zU_eq, zU_ow, and_true]; omega
      · simp (disch := omega) only [zU_eq, zU_ow, and_true]; omega
      · intro p t h1 h2 h3 h4
        simp (disch := omega) only [zU_eq, zU_ow]; exact R.ptr _ _ h1 h2 h3 h4
      · intro p t h1 h2 h3 h4
        simp (disch := omega) only [zU_eq, zU_ow] at h4
        omega
      · intro t h1 h2
        simp (disch := omega) only [zU_eq, zU_ow]; exact R.fir _ h1 h2
      · intro t h1 h2
        simp (disch := omega) only [zU_eq, zU_ow] at h2
        omega
      · simp (disch := omega) only [zU_eq, zU_ow, and_self, implies_true, and_true]; omega
      · intro t h1 h2
        simp (disch := omega) only [zU_eq, zU_ow] at h2
        omega
      · intro t h1 h2
        simp (disch := omega) only [zU_eq, zU_ow] at h2
        omega
      · simp (disch := omega) only [zU_eq, zU_ow, and_true]; omega
      · intro t h1 h2
        simp (disch := omega) only [zU_eq, zU_ow] at h2
        omega
      · simp (disch := omega) only [zU_eq, zU_ow, and_true]; omega
      · intro t h1 h2
        simp (disch := omega) only [zU_eq, zU_ow] at h2
        omega
      · simp (disch := omega) only [zU_eq, zU_ow, and_true]; omega
      · intro t h1 h2
        simp (disch := omega) only [zU_eq, zU_ow] at h2
        omega
    · unfold mend
      simp (disch := omega) only [zU_ow]
    · simp (disch := omega) only [zU_ow]
  · refine Same_id R (-2) ?_ ?_
    · rw [S_X6_parties]
      by_cases q6 : n < 2
      · simp (disch := first | exact z_tt rfl | assumption | omega | (simp (disch := omega) only [zU_eq, zU_nc, zU_nj]; omega)) only [↓L_ild_n1, ↓r_iconst, ↓r_iclt_t, ↓r_iclt_f, ↓J_X6_parties_10, ↓r_icle_t, ↓r_icle_f, ↓J_X6_parties_13, ↓r_bipush, ↓r_ireturn, ↓L_ald_n0, ↓F_g0_0, ↓F_g1_0, ↓F_g17_0, ↓L_ist_n2, ↓L_ist_n2L, ↓I_X2_beginWith_1, ↓I_X2_beginWith_17, ↓L_ild_n2, ↓U_X6_parties_0, ↓U_X6_parties_10, ↓U_X6_parties_13, ↓zthen_v, ↓zthen_0, zU_eq, zU_nc, zU_nj]
      · simp (disch := first | exact z_tt rfl | assumption | omega | (simp (disch := omega) only [zU_eq, zU_nc, zU_nj]; omega)) only [↓L_ild_n1, ↓r_iconst, ↓r_iclt_t, ↓r_iclt_f, ↓J_X6_parties_10, ↓r_icle_t, ↓r_icle_f, ↓J_X6_parties_13, ↓r_bipush, ↓r_ireturn, ↓L_ald_n0, ↓F_g0_0, ↓F_g1_0, ↓F_g17_0, ↓L_ist_n2, ↓L_ist_n2L, ↓I_X2_beginWith_1, ↓I_X2_beginWith_17, ↓L_ild_n2, ↓U_X6_parties_0, ↓U_X6_parties_10, ↓U_X6_parties_13, ↓zthen_v, ↓zthen_0, zU_eq, zU_nc, zU_nj]
    · rw [S_X7_parties]
      simp (disch := first | exact z_tt rfl | assumption | omega | (simp (disch := omega) only [zU_eq, zU_nc, zU_nj]; omega)) only [↓L_ild_n1, ↓r_i2l, ↓r_ldc2w, ↓I_X7_in, ↓r_ifne_t, ↓r_ifne_f, ↓J_X7_parties_17, ↓r_bipush, ↓r_ireturn, ↓L_ald_n0, ↓F_g60_0, ↓r_iconst, ↓A_g3, ↓A_g4, ↓A_g5, ↓A_g6, ↓A_g7, ↓A_g9, ↓A_g10, ↓A_g12, ↓A_g13, ↓A_g15, ↓A_g16, ↓A_g19, ↓A_g20, ↓A_g21, ↓A_g22, ↓A_g23, ↓A_g25, ↓A_g26, ↓A_g28, ↓A_g29, ↓A_g31, ↓A_g32, ↓A_g34, ↓A_g36, ↓A_g37, ↓A_g38, ↓A_g39, ↓A_g41, ↓A_g42, ↓A_g43, ↓A_g44, ↓A_g61, ↓A_g62, ↓A_g63, ↓A_g65, ↓A_g66, ↓A_g67, ↓A_g68, ↓A_g69, ↓A_g70, ↓A_gN, ↓A_gT, ↓A_gC, ↓L_ist_n2, ↓L_ist_n2L, ↓A_p3, ↓A_p4, ↓A_p5, ↓A_p6, ↓A_p7, ↓A_p9, ↓A_p10, ↓A_p12, ↓A_p13, ↓A_p15, ↓A_p16, ↓A_p19, ↓A_p20, ↓A_p21, ↓A_p22, ↓A_p23, ↓A_p25, ↓A_p26, ↓A_p28, ↓A_p29, ↓A_p31, ↓A_p32, ↓A_p34, ↓A_p36, ↓A_p37, ↓A_p38, ↓A_p39, ↓A_p41, ↓A_p42, ↓A_p43, ↓A_p44, ↓A_p61, ↓A_p62, ↓A_p63, ↓A_p65, ↓A_p66, ↓A_p67, ↓A_p68, ↓A_p69, ↓A_p70, ↓A_pN, ↓A_pT, ↓L_ild_n2, ↓U_X7_parties_0, ↓U_X7_parties_17, ↓zthen_v, ↓zthen_0, zU_eq, zU_nc, zU_nj, m_in_f]
