set_option maxRecDepth 20000 in
set_option maxHeartbeats 4000000 in
theorem m_thing_go {τ : zM} (hm : 0 ≤ τ 61 1 ∧ τ 61 1 < 6) : zcall 111 [vR 60] τ = some (some (vI (τ 61 1)), zU (holdM (zU (zU (zU (zU τ 61 (29 + 6 * 0 + τ 61 1) 0) 61 (29 + 6 * 1 + τ 61 1) 0) 61 (29 + 6 * 2 + τ 61 1) 0) 61 (29 + 6 * 3 + τ 61 1) 0) (τ 61 1) (-1)) 61 1 (τ 61 1 + 1)) := by
  rw [S_X7_thing]
  simp (disch := first | exact z_tt rfl | assumption | omega | (simp (disch := omega) only [zU_eq, zU_nc, zU_nj]; omega)) only [↓L_ald_n0, ↓F_g60_0, ↓r_iconst, ↓A_g3, ↓A_g4, ↓A_g5, ↓A_g6, ↓A_g7, ↓A_g9, ↓A_g10, ↓A_g12, ↓A_g13, ↓A_g15, ↓A_g16, ↓A_g19, ↓A_g20, ↓A_g21, ↓A_g22, ↓A_g23, ↓A_g25, ↓A_g26, ↓A_g28, ↓A_g29, ↓A_g31, ↓A_g32, ↓A_g34, ↓A_g36, ↓A_g37, ↓A_g38, ↓A_g39, ↓A_g41, ↓A_g42, ↓A_g43, ↓A_g44, ↓A_g61, ↓A_g62, ↓A_g63, ↓A_g65, ↓A_g66, ↓A_g67, ↓A_g68, ↓A_g69, ↓A_g70, ↓A_gN, ↓A_gT, ↓A_gC, ↓L_ist_n1, ↓L_ist_n1L, ↓L_ild_n1, ↓r_bipush, ↓r_icne_t, ↓r_icne_f, ↓J_X7_thing_16, ↓r_ireturn, ↓L_ist_n2, ↓L_ist_n2L, ↓L_ild_n2, ↓r_icge_t, ↓r_icge_f, ↓J_X7_thing_44, ↓r_imul, ↓r_iadd, ↓A_p3, ↓A_p4, ↓A_p5, ↓A_p6, ↓A_p7, ↓A_p9, ↓A_p10, ↓A_p12, ↓A_p13, ↓A_p15, ↓A_p16, ↓A_p19, ↓A_p20, ↓A_p21, ↓A_p22, ↓A_p23, ↓A_p25, ↓A_p26, ↓A_p28, ↓A_p29, ↓A_p31, ↓A_p32, ↓A_p34, ↓A_p36, ↓A_p37, ↓A_p38, ↓A_p39, ↓A_p41, ↓A_p42, ↓A_p43, ↓A_p44, ↓A_p61, ↓A_p62, ↓A_p63, ↓A_p65, ↓A_p66, ↓A_p67, ↓A_p68, ↓A_p69, ↓A_p70, ↓A_pN, ↓A_pT, ↓L_iinc2, ↓r_goto, ↓J_X7_thing_18, ↓I_X7_holds_60, ↓r_dup2, ↓r_dup2L, ↓U_X7_thing_0, ↓U_X7_thing_16, ↓U_X7_thing_44, ↓zthen_v, ↓zthen_0, zU_eq, zU_nc, zU_nj]
  rw [U_X7_thing_18]
  simp (disch := first | exact z_tt rfl | assumption | omega | (simp (disch := omega) only [zU_eq, zU_nc, zU_nj]; omega)) only [↓L_ald_n0, ↓F_g60_0, ↓r_iconst, ↓A_g3, ↓A_g4, ↓A_g5, ↓A_g6, ↓A_g7, ↓A_g9, ↓A_g10, ↓A_g12, ↓A_g13, ↓A_g15, ↓A_g16, ↓A_g19, ↓A_g20, ↓A_g21, ↓A_g22, ↓A_g23, ↓A_g25, ↓A_g26, ↓A_g28, ↓A_g29, ↓A_g31, ↓A_g32, ↓A_g34, ↓A_g36, ↓A_g37, ↓A_g38, ↓A_g39, ↓A_g41, ↓A_g42, ↓A_g43, ↓A_g44, ↓A_g61, ↓A_g62, ↓A_g63, ↓A_g65, ↓A_g66, ↓A_g67, ↓A_g68, ↓A_g69, ↓A_g70, ↓A_gN, ↓A_gT, ↓A_gC, ↓L_ist_n1, ↓L_ist_n1L, ↓L_ild_n1, ↓r_bipush, ↓r_icne_t, ↓r_icne_f, ↓J_X7_thing_16, ↓r_ireturn, ↓L_ist_n2, ↓L_ist_n2L, ↓L_ild_n2, ↓r_icge_t, ↓r_icge_f, ↓J_X7_thing_44, ↓r_imul, ↓r_iadd, ↓A_p3, ↓A_p4, ↓A_p5, ↓A_p6, ↓A_p7, ↓A_p9, ↓A_p10, ↓A_p12, ↓A_p13, ↓A_p15, ↓A_p16, ↓A_p19, ↓A_p20, ↓A_p21, ↓A_p22, ↓A_p23, ↓A_p25, ↓A_p26, ↓A_p28, ↓A_p29, ↓A_p31, ↓A_p32, ↓A_p34, ↓A_p36, ↓A_p37, ↓A_p38, ↓A_p39, ↓A_p41, ↓A_p42, ↓A_p43, ↓A_p44, ↓A_p61, ↓A_p62, ↓A_p63, ↓A_p65, ↓A_p66, ↓A_p67, ↓A_p68, ↓A_p69, ↓A_p70, ↓A_pN, ↓A_pT, ↓L_iinc2, ↓r_goto, ↓J_X7_thing_18, ↓I_X7_holds_60, ↓r_dup2, ↓r_dup2L, ↓U_X7_thing_0, ↓U_X7_thing_16, ↓U_X7_thing_44, ↓zthen_v, ↓zthen_0, zU_eq, zU_nc, zU_nj]
  rw [U_X7_thing_18]
  simp (disch := first | exact z_tt rfl | assumption | omega | (simp (disch := omega) only [zU_eq, zU_nc, zU_nj]; omega)) only [↓L_ald_n0, ↓F_g60_0, ↓r_iconst, ↓A_g3, ↓A_g4, ↓A_g5, ↓A_g6, ↓A_g7, ↓A_g9, ↓A_g10, ↓A_g12, ↓A_g13, ↓A_g15, ↓A_g16, ↓A_g19, ↓A_g20, ↓A_g21, ↓A_g22, ↓A_g23, ↓A_g25, ↓A_g26, ↓A_g28, ↓A_g29, ↓A_g31, ↓A_g32, ↓A_g34, ↓A_g36, ↓A_g37, ↓A_g38, ↓A_g39, ↓A_g41, ↓A_g42, ↓A_g43, ↓A_g44, ↓A_g61, ↓A_g62, ↓A_g63, ↓A_g65, ↓A_g66, ↓A_g67, ↓A_g68, ↓A_g69, ↓A_g70, ↓A_gN, ↓A_gT, ↓A_gC, ↓L_ist_n1, ↓L_ist_n1L, ↓L_ild_n1, ↓r_bipush, ↓r_icne_t, ↓r_icne_f, ↓J_X7_thing_16, ↓r_ireturn, ↓L_ist_n2, ↓L_ist_n2L, ↓L_ild_n2, ↓r_icge_t, ↓r_icge_f, ↓J_X7_thing_44, ↓r_imul, ↓r_iadd, ↓A_p3, ↓A_p4, ↓A_p5, ↓A_p6, ↓A_p7, ↓A_p9, ↓A_p10, ↓A_p12, ↓A_p13, ↓A_p15, ↓A_p16, ↓A_p19, ↓A_p20, ↓A_p21, ↓A_p22, ↓A_p23, ↓A_p25, ↓A_p26, ↓A_p28, ↓A_p29, ↓A_p31, ↓A_p32, ↓A_p34, ↓A_p36, ↓A_p37, ↓A_p38, ↓A_p39, ↓A_p41, ↓A_p42, ↓A_p43, ↓A_p44, ↓A_p61, ↓A_p62, ↓A_p63, ↓A_p65, ↓A_p66, ↓A_p67, ↓A_p68, ↓A_p69, ↓A_p70, ↓A_pN, ↓A_pT, ↓L_iinc2, ↓r_goto, ↓J_X7_thing_18, ↓I_X7_holds_60, ↓r_dup2, ↓r_dup2L, ↓U_X7_thing_0, ↓U_X7_thing_16, ↓U_X7_thing_44, ↓zthen_v, ↓zthen_0, zU_eq, zU_nc, zU_nj]
  rw [U_X7_thing_18]
  simp (disch := first | exact z_tt rfl | assumption | omega | (simp (disch := omega) only [zU_eq, zU_nc, zU_nj]; omega)) only [↓L_ald_n0, ↓F_g60_0, ↓r_iconst, ↓A_g3, ↓A_g4, ↓A_g5, ↓A_g6, ↓A_g7, ↓A_g9, ↓A_g10, ↓A_g12, ↓A_g13, ↓A_g15, ↓A_g16, ↓A_g19, ↓A_g20, ↓A_g21, ↓A_g22, ↓A_g23, ↓A_g25, ↓A_g26, ↓A_g28, ↓A_g29, ↓A_g31, ↓A_g32, ↓A_g34, ↓A_g36, ↓A_g37, ↓A_g38, ↓A_g39, ↓A_g41, ↓A_g42, ↓A_g43, ↓A_g44, ↓A_g61, ↓A_g62, ↓A_g63, ↓A_g65, ↓A_g66, ↓A_g67, ↓A_g68, ↓A_g69, ↓A_g70, ↓A_gN, ↓A_gT, ↓A_gC, ↓L_ist_n1, ↓L_ist_n1L, ↓L_ild_n1, ↓r_bipush, ↓r_icne_t, ↓r_icne_f, ↓J_X7_thing_16, ↓r_ireturn, ↓L_ist_n2, ↓L_ist_n2L, ↓L_ild_n2, ↓r_icge_t, ↓r_icge_f, ↓J_X7_thing_44, ↓r_imul, ↓r_iadd, ↓A_p3, ↓A_p4, ↓A_p5, ↓A_p6, ↓A_p7, ↓A_p9, ↓A_p10, ↓A_p12, ↓A_p13, ↓A_p15, ↓A_p16, ↓A_p19, ↓A_p20, ↓A_p21, ↓A_p22, ↓A_p23, ↓A_p25, ↓A_p26, ↓A_p28, ↓A_p29, ↓A_p31, ↓A_p32, ↓A_p34, ↓A_p36, ↓A_p37, ↓A_p38, ↓A_p39, ↓A_p41, ↓A_p42, ↓A_p43, ↓A_p44, ↓A_p61, ↓A_p62, ↓A_p63, ↓A_p65, ↓A_p66, ↓A_p67, ↓A_p68, ↓A_p69, ↓A_p70, ↓A_pN, ↓A_pT, ↓L_iinc2, ↓r_goto, ↓J_X7_thing_18, ↓I_X7_holds_60, ↓r_dup2, ↓r_dup2L, ↓U_X7_thing_0, ↓U_X7_thing_16, ↓U_X7_thing_44, ↓zthen_v, ↓zthen_0, zU_eq, zU_nc, zU_nj]
  rw [U_X7_thing_18]
  simp (disch := first | exact z_tt rfl | assumption | omega | (simp (disch := omega) only [zU_eq, zU_nc, zU_nj]; omega)) only [↓L_ald_n0, ↓F_g60_0, ↓r_iconst, ↓A_g3, ↓A_g4, ↓A_g5, ↓A_g6, ↓A_g7, ↓A_g9, ↓A_g10, ↓A_g12, ↓A_g13, ↓A_g15, ↓A_g16, ↓A_g19, ↓A_g20, ↓A_g21, ↓A_g22, ↓A_g23, ↓A_g25, ↓A_g26, ↓A_g28, ↓A_g29, ↓A_g31, ↓A_g32, ↓A_g34, ↓A_g36, ↓A_g37, ↓A_g38, ↓A_g39, ↓A_g41, ↓A_g42, ↓A_g43, ↓A_g44, ↓A_g61, ↓A_g62, ↓A_g63, ↓A_g65, ↓A_g66, ↓A_g67, ↓A_g68, ↓A_g69, ↓A_g70, ↓A_gN, ↓A_gT, ↓A_gC, ↓L_ist_n1, ↓L_ist_n1L, ↓L_ild_n1, ↓r_bipush, ↓r_icne_t, ↓r_icne_f, ↓J_X7_thing_16, ↓r_ireturn, ↓L_ist_n2, ↓L_ist_n2L, ↓L_ild_n2, ↓r_icge_t, ↓r_icge_f, ↓J_X7_thing_44, ↓r_imul, ↓r_iadd, ↓A_p3, ↓A_p4, ↓A_p5, ↓A_p6, ↓A_p7, ↓A_p9, ↓A_p10, ↓A_p12, ↓A_p13, ↓A_p15, ↓A_p16, ↓A_p19, ↓A_p20, ↓A_p21, ↓A_p22, ↓A_p23, ↓A_p25, ↓A_p26, ↓A_p28, ↓A_p29, ↓A_p31, ↓A_p32, ↓A_p34, ↓A_p36, ↓A_p37, ↓A_p38, ↓A_p39, ↓A_p41, ↓A_p42, ↓A_p43, ↓A_p44, ↓A_p61, ↓A_p62, ↓A_p63, ↓A_p65, ↓A_p66, ↓A_p67, ↓A_p68, ↓A_p69, ↓A_p70, ↓A_pN, ↓A_pT, ↓L_iinc2, ↓r_goto, ↓J_X7_thing_18, ↓I_X7_holds_60, ↓r_dup2, ↓r_dup2L, ↓U_X7_thing_0, ↓U_X7_thing_16, ↓U_X7_thing_44, ↓zthen_v, ↓zthen_0, zU_eq, zU_nc, zU_nj]
  rw [U_X7_thing_18]
  simp (disch := first | exact z_tt rfl | assumption | omega | (simp (disch := omega) only [zU_eq, zU_nc, zU_nj]; omega)) only [↓L_ald_n0, ↓F_g60_0, ↓r_iconst, ↓A_g3, ↓A_g4, ↓A_g5, ↓A_g6, ↓A_g7, ↓A_g9, ↓A_g10, ↓A_g12, ↓A_g13, ↓A_g15, ↓A_g16, ↓A_g19, ↓A_g20, ↓A_g21, ↓A_g22, ↓A_g23, ↓A_g25, ↓A_g26, ↓A_g28, ↓A_g29, ↓A_g31, ↓A_g32, ↓A_g34, ↓A_g36, ↓A_g37, ↓A_g38, ↓A_g39, ↓A_g41, ↓A_g42, ↓A_g43, ↓A_g44, ↓A_g61, ↓A_g62, ↓A_g63, ↓A_g65, ↓A_g66, ↓A_g67, ↓A_g68, ↓A_g69, ↓A_g70, ↓A_gN, ↓A_gT, ↓A_gC, ↓L_ist_n1, ↓L_ist_n1L, ↓L_ild_n1, ↓r_bipush, ↓r_icne_t, ↓r_icne_f, ↓J_X7_thing_16, ↓r_ireturn, ↓L_ist_n2, ↓L_ist_n2L, ↓L_ild_n2, ↓r_icge_t, ↓r_icge_f, ↓J_X7_thing_44, ↓r_imul, ↓r_iadd, ↓A_p3, ↓A_p4, ↓A_p5, ↓A_p6, ↓A_p7, ↓A_p9, ↓A_p10, ↓A_p12, ↓A_p13, ↓A_p15, ↓A_p16, ↓A_p19, ↓A_p20, ↓A_p21, ↓A_p22, ↓A_p23, ↓A_p25, ↓A_p26, ↓A_p28, ↓A_p29, ↓A_p31, ↓A_p32, ↓A_p34, ↓A_p36, ↓A_p37, ↓A_p38, ↓A_p39, ↓A_p41, ↓A_p42, ↓A_p43, ↓A_p44, ↓A_p61, ↓A_p62, ↓A_p63, ↓A_p65, ↓A_p66, ↓A_p67, ↓A_p68, ↓A_p69, ↓A_p70, ↓A_pN, ↓A_pT, ↓L_iinc2, ↓r_goto, ↓J_X7_thing_18, ↓I_X7_holds_60, ↓r_dup2, ↓r_dup2L, ↓U_X7_thing_0, ↓U_X7_thing_16, ↓U_X7_thing_44, ↓zthen_v, ↓zthen_0, zU_eq, zU_nc, zU_nj, m_holds, holdM]
  rfl
set_option maxRecDepth 20000 in
set_option maxHeartbeats 4000000 in
theorem op_thing {σ τ : zM} (R : Rel1 σ τ) : Same σ τ (zcall 48 [vR 0] σ) (zcall 111 [vR 60] τ) := by
  have hn := R.n
  have hm := R.m
  have hW := Rel1_W1 R
  by_cases q1 : σ 1 1 < 6
  · have hc := c_X2_addThing (σ := σ) (by omega)
    have hc2 := m_thing_go (τ := τ) (by omega)
    rw [hm.2.2] at hc2
    refine ⟨σ 1 1, addT σ, _, ?_, hc2, ?_, fun c j h => ?_, fun c j h => ?_⟩
    · rw [S_X6_thing]
      simp (disch := first | exact z_tt rfl | assumption | omega | (simp (disch := omega) only [zU_eq, zU_nc, zU_nj]; omega)) only [↓L_ald_n0, ↓F_g0_0, ↓F_g1_1, ↓F_g17_1, ↓r_bipush, ↓r_iclt_t, ↓r_iclt_f, ↓J_X6_thing_15, ↓r_ireturn, ↓I_X2_addThing_1, ↓I_X2_addThing_17, ↓U_X6_thing_0, ↓U_X6_thing_15, ↓zthen_v, ↓zthen_0, zU_eq, zU_nc, zU_nj, hc]
    · unfold addT holdM
      have h40 : ∀ p : Int, 0 ≤ p → p < 4 → p = 0 ∨ p = 1 ∨ p = 2 ∨ p = 3 := by omega
      refine ⟨⟨?_, ?_, ?_, ?_, ?_, ?_, ?_, ?_, ?_⟩, RSs_fr2 R.2.1 ?_ ?_ ?_ ?_ ?_, RSe_fr R.2.2.1 ?_ ?_ ?_ ?_, RSb_fr2 R.2.2.2 ?_ ?_ ?_ ?_ ?_⟩
      · simp (disch := omega) only [zU_eq, zU_ow]; exact R.n
      · simp (disch := omega) only [zU_eq, zU_ow, and_true]; omega
      · intro p t h1 h2 h3 h4
        have := R.ptr p t h1 h2 h3 h4
        by_cases q : t = σ 1 1
        · subst q
          rcases h40 p h1 h2 with e | e | e | e
          · subst e
            rw [show (3 : Int) + 0 = 3 from rfl]
            simp (disch := omega) only [zU_eq, zU_ow]; omega
          · subst e
            rw [show (3 : Int) + 1 = 4 from rfl]
            simp (disch := omega) only [zU_eq, zU_ow]; omega
          · subst e
            rw [show (3 : Int) + 2 = 5 from rfl]
            simp (disch := omega) only [zU_eq, zU_ow]; omega
          · subst e
            rw [show (3 : Int) + 3 = 6 from rfl]
            simp (disch := omega) only [zU_eq, zU_ow]; omega
        · simp (disch := omega) only [zU_ow]; exact this
      · intro p t h1 h2 h3 h4
        simp (disch := omega) only [zU_eq, zU_ow] at h4
        by_cases q : t = σ 1 1
        · subst q
          rcases h40 p h1 h2 with e | e | e | e
          · subst e
            rw [show (3 : Int) + 0 = 3 from rfl]
            simp (disch := omega) only [zU_eq, zU_ow]
          · subst e
            rw [show (3 : Int) + 1 = 4 from rfl]
            simp (disch := omega) only [zU_eq, zU_ow]
          · subst e
            rw [show (3 : Int) + 2 = 5 from rfl]
            simp (disch := omega) only [zU_eq, zU_ow]
          · subst e
            rw [show (3 : Int) + 3 = 6 from rfl]
            simp (disch := omega) only [zU_eq, zU_ow]
        · simp (disch := omega) only [zU_ow]; exact R.pt p t h1 h2 h3 (by omega)
      · intro t h1 h2
        by_cases q : t = σ 1 1
        · subst q
          simp (disch := omega) only [zU_eq, zU_ow]; omega
        · simp (disch := omega) only [zU_ow]; exact R.fir t h1 h2
      · intro t h1 h2
        simp (disch := omega) only [zU_eq, zU_ow] at h2
        by_cases q : t = σ 1 1
        · subst q
          simp (disch := omega) only [zU_eq, zU_ow]
        · simp (disch := omega) only [zU_ow]; exact R.fi t h1 (by omega)
      · have := R.cut
        simp (disch := omega) only [zU_eq, zU_ow, and_self, implies_true, and_true]; omega
      · intro t h1 h2 h3
        have := R.cut
        simp (disch := omega) only [zU_eq, zU_ow] at h2 h3
        by_cases q : t = σ 1 1
        · omega
        · simp (disch := omega) only [zU_ow]; exact R.cuY t h1 (by omega) h3
      · intro t h1 h2 h3
        simp (disch := omega) only [zU_eq, zU_ow] at h2 h3
        by_cases q : t = σ 1 1
        · subst q
          simp (disch := omega) only [zU_eq, zU_ow]; decide
        · simp (disch := omega) only [zU_ow]; exact R.cuN t h1 (by omega) h3
      all_goals intros
      all_goals first | (simp (disch := omega) only [zU_ow]; done) | (simp (disch := omega) only [zU_eq, zU_ow]; omega)
    · unfold addT
      simp (disch := omega) only [zU_ow]
    · unfold holdM
      simp (disch := omega) only [zU_ow]
  · refine Same_id R (-4) ?_ ?_
    · rw [S_X6_thing]
      simp (disch := first | exact z_tt rfl | assumption | omega | (simp (disch := omega) only [zU_eq, zU_nc, zU_nj]; omega)) only [↓L_ald_n0, ↓F_g0_0, ↓F_g1_1, ↓F_g17_1, ↓r_bipush, ↓r_iclt_t, ↓r_iclt_f, ↓J_X6_thing_15, ↓r_ireturn, ↓I_X2_addThing_1, ↓I_X2_addThing_17, ↓U_X6_thing_0, ↓U_X6_thing_15, ↓zthen_v, ↓zthen_0, zU_eq, zU_nc, zU_nj]
    · rw [S_X7_thing]
      have q2 : τ 61 1 = 6 := by omega
      simp (disch := first | exact z_tt rfl | assumption | omega | (simp (disch := omega) only [zU_eq, zU_nc, zU_nj]; omega)) only [↓L_ald_n0, ↓F_g60_0, ↓r_iconst, ↓A_g3, ↓A_g4, ↓A_g5, ↓A_g6, ↓A_g7, ↓A_g9, ↓A_g10, ↓A_g12, ↓A_g13, ↓A_g15, ↓A_g16, ↓A_g19, ↓A_g20, ↓A_g21, ↓A_g22, ↓A_g23, ↓A_g25, ↓A_g26, ↓A_g28, ↓A_g29, ↓A_g31, ↓A_g32, ↓A_g34, ↓A_g36, ↓A_g37, ↓A_g38, ↓A_g39, ↓A_g41, ↓A_g42, ↓A_g43, ↓A_g44, ↓A_g61, ↓A_g62, ↓A_g63, ↓A_g65, ↓A_g66, ↓A_g67, ↓A_g68, ↓A_g69, ↓A_g70, ↓A_gN, ↓A_gT, ↓A_gC, ↓L_ist_n1, ↓L_ist_n1L, ↓L_ild_n1, ↓r_bipush, ↓r_icne_t, ↓r_icne_f, ↓J_X7_thing_16, ↓r_ireturn, ↓L_ist_n2, ↓L_ist_n2L, ↓L_ild_n2, ↓r_icge_t, ↓r_icge_f, ↓J_X7_thing_44, ↓r_imul, ↓r_iadd, ↓A_p3, ↓A_p4, ↓A_p5, ↓A_p6, ↓A_p7, ↓A_p9, ↓A_p10, ↓A_p12, ↓A_p13, ↓A_p15, ↓A_p16, ↓A_p19, ↓A_p20, ↓A_p21, ↓A_p22, ↓A_p23, ↓A_p25, ↓A_p26, ↓A_p28, ↓A_p29, ↓A_p31, ↓A_p32, ↓A_p34, ↓A_p36, ↓A_p37, ↓A_p38, ↓A_p39, ↓A_p41, ↓A_p42, ↓A_p43, ↓A_p44, ↓A_p61, ↓A_p62, ↓A_p63, ↓A_p65, ↓A_p66, ↓A_p67, ↓A_p68, ↓A_p69, ↓A_p70, ↓A_pN, ↓A_pT, ↓L_iinc2, ↓r_goto, ↓J_X7_thing_18, ↓I_X7_holds_60, ↓r_dup2, ↓r_dup2L, ↓U_X7_thing_0, ↓U_X7_thing_16, ↓U_X7_thing_18, ↓U_X7_thing_44, ↓zthen_v, ↓zthen_0, zU_eq, zU_nc, zU_nj, q2]
