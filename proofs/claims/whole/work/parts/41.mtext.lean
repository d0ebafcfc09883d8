/-! the reference's reading of a clause: cells 60 (17 length, 18 at), 67, 68 -/
def vw (τ : zM) : zM := fun c j => if c = 45 then τ 60 17 else τ 67 j
def TV (τ : zM) : Prop := (0 ≤ τ 60 17 ∧ τ 60 17 ≤ 100) ∧ (∀ j : Int, 0 ≤ j → j < 100 → 0 ≤ τ 67 j ∧ τ 67 j ≤ 127)
set_option maxRecDepth 20000 in
theorem m_numbersOf {τ : zM} {x : Int} (hx : -2147483648 ≤ x ∧ x < 2147483648) : zcall 166 [vI x] τ = some (some (vI (dgB x)), τ) := by
  rw [S_X7_numbersOf]
  unfold dgB
  by_cases h1 : x = 116
  · rw [if_pos h1]
    simp (disch := first | exact z_tt rfl | assumption | omega | (simp (disch := omega) only [zU_eq, zU_nc, zU_nj]; omega)) only [↓L_ild_n0, ↓r_bipush, ↓r_icne_t, ↓r_icne_f, ↓J_X7_numbersOf_10, ↓r_iconst, ↓r_goto, ↓J_X7_numbersOf_47, ↓J_X7_numbersOf_20, ↓J_X7_numbersOf_30, ↓r_iceq_t, ↓r_iceq_f, ↓J_X7_numbersOf_42, ↓J_X7_numbersOf_46, ↓r_ireturn, ↓U_X7_numbersOf_0, ↓U_X7_numbersOf_10, ↓U_X7_numbersOf_20, ↓U_X7_numbersOf_30, ↓U_X7_numbersOf_42, ↓U_X7_numbersOf_46, ↓U_X7_numbersOf_47, ↓zthen_v, ↓zthen_0, zU_eq, zU_nc, zU_nj]
  · rw [if_neg h1]
    by_cases h2 : x = 110
    · rw [if_pos h2]
      simp (disch := first | exact z_tt rfl | assumption | omega | (simp (disch := omega) only [zU_eq, zU_nc, zU_nj]; omega)) only [↓L_ild_n0, ↓r_bipush, ↓r_icne_t, ↓r_icne_f, ↓J_X7_numbersOf_10, ↓r_iconst, ↓r_goto, ↓J_X7_numbersOf_47, ↓J_X7_numbersOf_20, ↓J_X7_numbersOf_30, ↓r_iceq_t, ↓r_iceq_f, ↓J_X7_numbersOf_42, ↓J_X7_numbersOf_46, ↓r_ireturn, ↓U_X7_numbersOf_0, ↓U_X7_numbersOf_10, ↓U_X7_numbersOf_20, ↓U_X7_numbersOf_30, ↓U_X7_numbersOf_42, ↓U_X7_numbersOf_46, ↓U_X7_numbersOf_47, ↓zthen_v, ↓zthen_0, zU_eq, zU_nc, zU_nj]
    · rw [if_neg h2]
      by_cases h3 : x = 104
      · rw [if_pos (Or.inl h3)]
        simp (disch := first | exact z_tt rfl | assumption | omega | (simp (disch := omega) only [zU_eq, zU_nc, zU_nj]; omega)) only [↓L_ild_n0, ↓r_bipush, ↓r_icne_t, ↓r_icne_f, ↓J_X7_numbersOf_10, ↓r_iconst, ↓r_goto, ↓J_X7_numbersOf_47, ↓J_X7_numbersOf_20, ↓J_X7_numbersOf_30, ↓r_iceq_t, ↓r_iceq_f, ↓J_X7_numbersOf_42, ↓J_X7_numbersOf_46, ↓r_ireturn, ↓U_X7_numbersOf_0, ↓U_X7_numbersOf_10, ↓U_X7_numbersOf_20, ↓U_X7_numbersOf_30, ↓U_X7_numbersOf_42, ↓U_X7_numbersOf_46, ↓U_X7_numbersOf_47, ↓zthen_v, ↓zthen_0, zU_eq, zU_nc, zU_nj]
      · by_cases h4 : x = 115
        · rw [if_pos (Or.inr h4)]
          simp (disch := first | exact z_tt rfl | assumption | omega | (simp (disch := omega) only [zU_eq, zU_nc, zU_nj]; omega)) only [↓L_ild_n0, ↓r_bipush, ↓r_icne_t, ↓r_icne_f, ↓J_X7_numbersOf_10, ↓r_iconst, ↓r_goto, ↓J_X7_numbersOf_47, ↓J_X7_numbersOf_20, ↓J_X7_numbersOf_30, ↓r_iceq_t, ↓r_iceq_f, ↓J_X7_numbersOf_42, ↓J_X7_numbersOf_46, ↓r_ireturn, ↓U_X7_numbersOf_0, ↓U_X7_numbersOf_10, ↓U_X7_numbersOf_20, ↓U_X7_numbersOf_30, ↓U_X7_numbersOf_42, ↓U_X7_numbersOf_46, ↓U_X7_numbersOf_47, ↓zthen_v, ↓zthen_0, zU_eq, zU_nc, zU_nj]
        · rw [if_neg (by omega)]
          by_cases h5 : x = 112
          · rw [if_pos h5]
            simp (disch := first | exact z_tt rfl | assumption | omega | (simp (disch := omega) only [zU_eq, zU_nc, zU_nj]; omega)) only [↓L_ild_n0, ↓r_bipush, ↓r_icne_t, ↓r_icne_f, ↓J_X7_numbersOf_10, ↓r_iconst, ↓r_goto, ↓J_X7_numbersOf_47, ↓J_X7_numbersOf_20, ↓J_X7_numbersOf_30, ↓r_iceq_t, ↓r_iceq_f, ↓J_X7_numbersOf_42, ↓J_X7_numbersOf_46, ↓r_ireturn, ↓U_X7_numbersOf_0, ↓U_X7_numbersOf_10, ↓U_X7_numbersOf_20, ↓U_X7_numbersOf_30, ↓U_X7_numbersOf_42, ↓U_X7_numbersOf_46, ↓U_X7_numbersOf_47, ↓zthen_v, ↓zthen_0, zU_eq, zU_nc, zU_nj]
          · rw [if_neg h5]
            simp (disch := first | exact z_tt rfl | assumption | omega | (simp (disch := omega) only [zU_eq, zU_nc, zU_nj]; omega)) only [↓L_ild_n0, ↓r_bipush, ↓r_icne_t, ↓r_icne_f, ↓J_X7_numbersOf_10, ↓r_iconst, ↓r_goto, ↓J_X7_numbersOf_47, ↓J_X7_numbersOf_20, ↓J_X7_numbersOf_30, ↓r_iceq_t, ↓r_iceq_f, ↓J_X7_numbersOf_42, ↓J_X7_numbersOf_46, ↓r_ireturn, ↓U_X7_numbersOf_0, ↓U_X7_numbersOf_10, ↓U_X7_numbersOf_20, ↓U_X7_numbersOf_30, ↓U_X7_numbersOf_42, ↓U_X7_numbersOf_46, ↓U_X7_numbersOf_47, ↓zthen_v, ↓zthen_0, zU_eq, zU_nc, zU_nj]
set_option maxRecDepth 20000 in
theorem m_isDigit_t {τ : zM} (ha : 0 ≤ τ 60 18 ∧ τ 60 18 < τ 60 17 ∧ τ 60 17 ≤ 100) (h : 48 ≤ τ 67 (τ 60 18) ∧ τ 67 (τ 60 18) ≤ 57) : zcall 165 [vR 60] τ = some (some (vI 1), τ) := by
  rw [S_X7_isDigit]
  simp (disch := first | exact z_tt rfl | assumption | omega | (simp (disch := omega) only [zU_eq, zU_nc, zU_nj]; omega)) only [↓L_ald_n0, ↓F_g60_18, ↓F_g60_17, ↓r_icge_t, ↓r_icge_f, ↓J_X7_isDigit_37, ↓F_g60_16, ↓A_g3, ↓A_g4, ↓A_g5, ↓A_g6, ↓A_g7, ↓A_g9, ↓A_g10, ↓A_g12, ↓A_g13, ↓A_g15, ↓A_g16, ↓A_g19, ↓A_g20, ↓A_g21, ↓A_g22, ↓A_g23, ↓A_g25, ↓A_g26, ↓A_g28, ↓A_g29, ↓A_g31, ↓A_g32, ↓A_g34, ↓A_g36, ↓A_g37, ↓A_g38, ↓A_g39, ↓A_g41, ↓A_g42, ↓A_g43, ↓A_g44, ↓A_g61, ↓A_g62, ↓A_g63, ↓A_g65, ↓A_g66, ↓A_g67, ↓A_g68, ↓A_g69, ↓A_g70, ↓A_gN, ↓A_gT, ↓A_gC, ↓r_i2l, ↓r_ldc2w, ↓I_X7_in, ↓r_ifeq_t, ↓r_ifeq_f, ↓r_iconst, ↓r_goto, ↓J_X7_isDigit_38, ↓r_zreturn, ↓U_X7_isDigit_0, ↓U_X7_isDigit_37, ↓U_X7_isDigit_38, ↓zthen_v, ↓zthen_0, zU_eq, zU_nc, zU_nj, m_in_t]
set_option maxRecDepth 20000 in
theorem m_isDigit_f {τ : zM} (ha : 0 ≤ τ 60 18 ∧ τ 60 18 < τ 60 17 ∧ τ 60 17 ≤ 100) (h : (τ 67 (τ 60 18) < 48 ∨ 57 < τ 67 (τ 60 18)) ∧ -2147483648 ≤ τ 67 (τ 60 18) ∧ τ 67 (τ 60 18) < 2147483648) : zcall 165 [vR 60] τ = some (some (vI 0), τ) := by
  rw [S_X7_isDigit]
  simp (disch := first | exact z_tt rfl | assumption | omega | (simp (disch := omega) only [zU_eq, zU_nc, zU_nj]; omega)) only [↓L_ald_n0, ↓F_g60_18, ↓F_g60_17, ↓r_icge_t, ↓r_icge_f, ↓J_X7_isDigit_37, ↓F_g60_16, ↓A_g3, ↓A_g4, ↓A_g5, ↓A_g6, ↓A_g7, ↓A_g9, ↓A_g10, ↓A_g12, ↓A_g13, ↓A_g15, ↓A_g16, ↓A_g19, ↓A_g20, ↓A_g21, ↓A_g22, ↓A_g23, ↓A_g25, ↓A_g26, ↓A_g28, ↓A_g29, ↓A_g31, ↓A_g32, ↓A_g34, ↓A_g36, ↓A_g37, ↓A_g38, ↓A_g39, ↓A_g41, ↓A_g42, ↓A_g43, ↓A_g44, ↓A_g61, ↓A_g62, ↓A_g63, ↓A_g65, ↓A_g66, ↓A_g67, ↓A_g68, ↓A_g69, ↓A_g70, ↓A_gN, ↓A_gT, ↓A_gC, ↓r_i2l, ↓r_ldc2w, ↓I_X7_in, ↓r_ifeq_t, ↓r_ifeq_f, ↓r_iconst, ↓r_goto, ↓J_X7_isDigit_38, ↓r_zreturn, ↓U_X7_isDigit_0, ↓U_X7_isDigit_37, ↓U_X7_isDigit_38, ↓zthen_v, ↓zthen_0, zU_eq, zU_nc, zU_nj, m_in_f]
set_option maxRecDepth 20000 in
theorem m_isDigit_e {τ : zM} (ha : 0 ≤ τ 60 18 ∧ τ 60 18 ≤ 100 ∧ 0 ≤ τ 60 17 ∧ τ 60 17 ≤ 100) (h : τ 60 17 ≤ τ 60 18) : zcall 165 [vR 60] τ = some (some (vI 0), τ) := by
  rw [S_X7_isDigit]
  simp (disch := first | exact z_tt rfl | assumption | omega | (simp (disch := omega) only [zU_eq, zU_nc, zU_nj]; omega)) only [↓L_ald_n0, ↓F_g60_18, ↓F_g60_17, ↓r_icge_t, ↓r_icge_f, ↓J_X7_isDigit_37, ↓F_g60_16, ↓A_g3, ↓A_g4, ↓A_g5, ↓A_g6, ↓A_g7, ↓A_g9, ↓A_g10, ↓A_g12, ↓A_g13, ↓A_g15, ↓A_g16, ↓A_g19, ↓A_g20, ↓A_g21, ↓A_g22, ↓A_g23, ↓A_g25, ↓A_g26, ↓A_g28, ↓A_g29, ↓A_g31, ↓A_g32, ↓A_g34, ↓A_g36, ↓A_g37, ↓A_g38, ↓A_g39, ↓A_g41, ↓A_g42, ↓A_g43, ↓A_g44, ↓A_g61, ↓A_g62, ↓A_g63, ↓A_g65, ↓A_g66, ↓A_g67, ↓A_g68, ↓A_g69, ↓A_g70, ↓A_gN, ↓A_gT, ↓A_gC, ↓r_i2l, ↓r_ldc2w, ↓I_X7_in, ↓r_ifeq_t, ↓r_ifeq_f, ↓r_iconst, ↓r_goto, ↓J_X7_isDigit_38, ↓r_zreturn, ↓U_X7_isDigit_0, ↓U_X7_isDigit_37, ↓U_X7_isDigit_38, ↓zthen_v, ↓zthen_0, zU_eq, zU_nc, zU_nj]
set_option maxRecDepth 20000 in
theorem m_rc_end {τ : zM} {k : Int} (hT : TV τ) (ha : τ 60 18 = τ 60 17) : zcall 167 [vR 60, vI k] τ = some (some (vI 0), τ) := by
  have h1 := hT.1
  rw [S_X7_readsClause]
  simp (disch := first | exact z_tt rfl | assumption | omega | (simp (disch := omega) only [zU_eq, zU_nc, zU_nj]; omega)) only [↓L_ald_n0, ↓F_g60_18, ↓F_g60_17, ↓r_iceq_t, ↓r_iceq_f, ↓J_X7_readsClause_27, ↓F_g60_16, ↓A_g3, ↓A_g4, ↓A_g5, ↓A_g6, ↓A_g7, ↓A_g9, ↓A_g10, ↓A_g12, ↓A_g13, ↓A_g15, ↓A_g16, ↓A_g19, ↓A_g20, ↓A_g21, ↓A_g22, ↓A_g23, ↓A_g25, ↓A_g26, ↓A_g28, ↓A_g29, ↓A_g31, ↓A_g32, ↓A_g34, ↓A_g36, ↓A_g37, ↓A_g38, ↓A_g39, ↓A_g41, ↓A_g42, ↓A_g43, ↓A_g44, ↓A_g61, ↓A_g62, ↓A_g63, ↓A_g65, ↓A_g66, ↓A_g67, ↓A_g68, ↓A_g69, ↓A_g70, ↓A_gN, ↓A_gT, ↓A_gC, ↓I_X7_numbersOf, ↓r_iconst, ↓r_icne_t, ↓r_icne_f, ↓J_X7_readsClause_29, ↓r_zreturn, ↓L_ist_n2, ↓L_ist_n2L, ↓F_g60_19, ↓L_ild_n1, ↓r_imul, ↓L_ild_n2, ↓A_p3, ↓A_p4, ↓A_p5, ↓A_p6, ↓A_p7, ↓A_p9, ↓A_p10, ↓A_p12, ↓A_p13, ↓A_p15, ↓A_p16, ↓A_p19, ↓A_p20, ↓A_p21, ↓A_p22, ↓A_p23, ↓A_p25, ↓A_p26, ↓A_p28, ↓A_p29, ↓A_p31, ↓A_p32, ↓A_p34, ↓A_p36, ↓A_p37, ↓A_p38, ↓A_p39, ↓A_p41, ↓A_p42, ↓A_p43, ↓A_p44, ↓A_p61, ↓A_p62, ↓A_p63, ↓A_p65, ↓A_p66, ↓A_p67, ↓A_p68, ↓A_p69, ↓A_p70, ↓A_pN, ↓A_pT, ↓r_dupI, ↓r_dupR, ↓r_iadd, ↓F_p60_18, ↓L_ist_n3, ↓L_ist_n3L, ↓L_ild_n3, ↓r_icgt_t, ↓r_icgt_f, ↓J_X7_readsClause_161, ↓I_X7_isDigit_60, ↓r_ifne_t, ↓r_ifne_f, ↓J_X7_readsClause_77, ↓r_bipush, ↓r_isub, ↓L_ist4, ↓L_ist4L, ↓J_X7_readsClause_143, ↓r_ifeq_t, ↓r_ifeq_f, ↓L_ild4, ↓L_iinc3, ↓r_goto, ↓J_X7_readsClause_60, ↓U_X7_readsClause_0, ↓U_X7_readsClause_27, ↓U_X7_readsClause_29, ↓U_X7_readsClause_60, ↓U_X7_readsClause_77, ↓U_X7_readsClause_143, ↓U_X7_readsClause_161, ↓zthen_v, ↓zthen_0, zU_eq, zU_nc, zU_nj]
set_option maxRecDepth 20000 in
theorem m_rc_bad {τ : zM} {k : Int} (hT : TV τ) (ha : 0 ≤ τ 60 18 ∧ τ 60 18 < τ 60 17) (hm : dgB (τ 67 (τ 60 18)) = -1) : zcall 167 [vR 60, vI k] τ = some (some (vI 0), τ) := by
  have h1 := hT.1
  have h2 := hT.2 (τ 60 18) (by omega) (by omega)
  rw [S_X7_readsClause]
  simp (disch := first | exact z_tt rfl | assumption | omega | (simp (disch := omega) only [zU_eq, zU_nc, zU_nj]; omega)) only [↓L_ald_n0, ↓F_g60_18, ↓F_g60_17, ↓r_iceq_t, ↓r_iceq_f, ↓J_X7_readsClause_27, ↓F_g60_16, ↓A_g3, ↓A_g4, ↓A_g5, ↓A_g6, ↓A_g7, ↓A_g9, ↓A_g10, ↓A_g12, ↓A_g13, ↓A_g15, ↓A_g16, ↓A_g19, ↓A_g20, ↓A_g21, ↓A_g22, ↓A_g23, ↓A_g25, ↓A_g26, ↓A_g28, ↓A_g29, ↓A_g31, ↓A_g32, ↓A_g34, ↓A_g36, ↓A_g37, ↓A_g38, ↓A_g39, ↓A_g41, ↓A_g42, ↓A_g43, ↓A_g44, ↓A_g61, ↓A_g62, ↓A_g63, ↓A_g65, ↓A_g66, ↓A_g67, ↓A_g68, ↓A_g69, ↓A_g70, ↓A_gN, ↓A_gT, ↓A_gC, ↓I_X7_numbersOf, ↓r_iconst, ↓r_icne_t, ↓r_icne_f, ↓J_X7_readsClause_29, ↓r_zreturn, ↓L_ist_n2, ↓L_ist_n2L, ↓F_g60_19, ↓L_ild_n1, ↓r_imul, ↓L_ild_n2, ↓A_p3, ↓A_p4, ↓A_p5, ↓A_p6, ↓A_p7, ↓A_p9, ↓A_p10, ↓A_p12, ↓A_p13, ↓A_p15, ↓A_p16, ↓A_p19, ↓A_p20, ↓A_p21, ↓A_p22, ↓A_p23, ↓A_p25, ↓A_p26, ↓A_p28, ↓A_p29, ↓A_p31, ↓A_p32, ↓A_p34, ↓A_p36, ↓A_p37, ↓A_p38, ↓A_p39, ↓A_p41, ↓A_p42, ↓A_p43, ↓A_p44, ↓A_p61, ↓A_p62, ↓A_p63, ↓A_p65, ↓A_p66, ↓A_p67, ↓A_p68, ↓A_p69, ↓A_p70, ↓A_pN, ↓A_pT, ↓r_dupI, ↓r_dupR, ↓r_iadd, ↓F_p60_18, ↓L_ist_n3, ↓L_ist_n3L, ↓L_ild_n3, ↓r_icgt_t, ↓r_icgt_f, ↓J_X7_readsClause_161, ↓I_X7_isDigit_60, ↓r_ifne_t, ↓r_ifne_f, ↓J_X7_readsClause_77, ↓r_bipush, ↓r_isub, ↓L_ist4, ↓L_ist4L, ↓J_X7_readsClause_143, ↓r_ifeq_t, ↓r_ifeq_f, ↓L_ild4, ↓L_iinc3, ↓r_goto, ↓J_X7_readsClause_60, ↓U_X7_readsClause_0, ↓U_X7_readsClause_27, ↓U_X7_readsClause_29, ↓U_X7_readsClause_60, ↓U_X7_readsClause_77, ↓U_X7_readsClause_143, ↓U_X7_readsClause_161, ↓zthen_v, ↓zthen_0, zU_eq, zU_nc, zU_nj, m_numbersOf, hm]
def rc0 (τ : zM) (k : Int) : zM := zU (zU τ 68 (4 * k) (τ 67 (τ 60 18))) 60 18 (τ 60 18 + 1)
def rcD (τ : zM) (k j : Int) : zM := zU (zU τ 60 18 (τ 60 18 + 1)) 68 (4 * k + j) (τ 67 (τ 60 18) - 48)
def rcE (τ : zM) (k j : Int) : zM := zU (zU (zU τ 60 18 (τ 60 18 + 1)) 60 18 (τ 60 18 + 1 + 1)) 68 (4 * k + j) (10 * (τ 67 (τ 60 18) - 48) + τ 67 (τ 60 18 + 1) - 48)
set_option maxRecDepth 20000 in
theorem m_rc_0 {τ : zM} {k : Int} (hT : TV τ) (hk : 0 ≤ k ∧ k < 14) (ha : 0 ≤ τ 60 18 ∧ τ 60 18 < τ 60 17) (m : Int) (hm : dgB (τ 67 (τ 60 18)) = m) (hm0 : 0 ≤ m ∧ m ≤ 3) : zcall 167 [vR 60, vI k] τ = zres 167 C_X7_readsClause_60 [vR 60, vI k, vI (τ 67 (τ 60 18)), vI 1, vU] [] (rc0 τ k) := by
  have h1 := hT.1
  have h2 := hT.2 (τ 60 18) (by omega) (by omega)
  rw [S_X7_readsClause]
  simp (disch := first | exact z_tt rfl | assumption | omega | (simp (disch := omega) only [zU_eq, zU_nc, zU_nj]; omega)) only [↓L_ald_n0, ↓F_g60_18, ↓F_g60_17, ↓r_iceq_t, ↓r_iceq_f, ↓J_X7_readsClause_27, ↓F_g60_16, ↓A_g3, ↓A_g4, ↓A_g5, ↓A_g6, ↓A_g7, ↓A_g9, ↓A_g10, ↓A_g12, ↓A_g13, ↓A_g15, ↓A_g16, ↓A_g19, ↓A_g20, ↓A_g21, ↓A_g22, ↓A_g23, ↓A_g25, ↓A_g26, ↓A_g28, ↓A_g29, ↓A_g31, ↓A_g32, ↓A_g34, ↓A_g36, ↓A_g37, ↓A_g38, ↓A_g39, ↓A_g41, ↓A_g42, ↓A_g43, ↓A_g44, ↓A_g61, ↓A_g62, ↓A_g63, ↓A_g65, ↓A_g66, ↓A_g67, ↓A_g68, ↓A_g69, ↓A_g70, ↓A_gN, ↓A_gT, ↓A_gC, ↓I_X7_numbersOf, ↓r_iconst, ↓r_icne_t, ↓r_icne_f, ↓J_X7_readsClause_29, ↓r_zreturn, ↓L_ist_n2, ↓L_ist_n2L, ↓F_g60_19, ↓L_ild_n1, ↓r_imul, ↓L_ild_n2, ↓A_p3, ↓A_p4, ↓A_p5, ↓A_p6, ↓A_p7, ↓A_p9, ↓A_p10, ↓A_p12, ↓A_p13, ↓A_p15, ↓A_p16, ↓A_p19, ↓A_p20, ↓A_p21, ↓A_p22, ↓A_p23, ↓A_p25, ↓A_p26, ↓A_p28, ↓A_p29, ↓A_p31, ↓A_p32, ↓A_p34, ↓A_p36, ↓A_p37, ↓A_p38, ↓A_p39, ↓A_p41, ↓A_p42, ↓A_p43, ↓A_p44, ↓A_p61, ↓A_p62, ↓A_p63, ↓A_p65, ↓A_p66, ↓A_p67, ↓A_p68, ↓A_p69, ↓A_p70, ↓A_pN, ↓A_pT, ↓r_dupI, ↓r_dupR, ↓r_iadd, ↓F_p60_18, ↓L_ist_n3, ↓L_ist_n3L, ↓L_ild_n3, ↓r_icgt_t, ↓r_icgt_f, ↓J_X7_readsClause_161, ↓I_X7_isDigit_60, ↓r_ifne_t, ↓r_ifne_f, ↓J_X7_readsClause_77, ↓r_bipush, ↓r_isub, ↓L_ist4, ↓L_ist4L, ↓J_X7_readsClause_143, ↓r_ifeq_t, ↓r_ifeq_f, ↓L_ild4, ↓L_iinc3, ↓r_goto, ↓J_X7_readsClause_60, ↓U_X7_readsClause_0, ↓U_X7_readsClause_27, ↓U_X7_readsClause_29, ↓U_X7_readsClause_77, ↓U_X7_readsClause_143, ↓U_X7_readsClause_161, ↓zthen_v, ↓zthen_0, zU_eq, zU_nc, zU_nj, m_numbersOf, hm]
  rfl
set_option maxRecDepth 20000 in
theorem m_rc_done {τ : zM} {k x j : Int} {z : zV} (hx : -2147483648 ≤ x ∧ x < 2147483648) (m : Int) (hm : dgB x = m) (hm0 : 0 ≤ m ∧ m ≤ 3) (hj : m < j ∧ j ≤ 4) : zres 167 C_X7_readsClause_60 [vR 60, vI k, vI x, vI j, z] [] τ = some (some (vI 1), τ) := by
  simp (disch := first | exact z_tt rfl | assumption | omega | (simp (disch := omega) only [zU_eq, zU_nc, zU_nj]; omega)) only [↓L_ald_n0, ↓F_g60_18, ↓F_g60_17, ↓r_iceq_t, ↓r_iceq_f, ↓J_X7_readsClause_27, ↓F_g60_16, ↓A_g3, ↓A_g4, ↓A_g5, ↓A_g6, ↓A_g7, ↓A_g9, ↓A_g10, ↓A_g12, ↓A_g13, ↓A_g15, ↓A_g16, ↓A_g19, ↓A_g20, ↓A_g21, ↓A_g22, ↓A_g23, ↓A_g25, ↓A_g26, ↓A_g28, ↓A_g29, ↓A_g31, ↓A_g32, ↓A_g34, ↓A_g36, ↓A_g37, ↓A_g38, ↓A_g39, ↓A_g41, ↓A_g42, ↓A_g43, ↓A_g44, ↓A_g61, ↓A_g62, ↓A_g63, ↓A_g65, ↓A_g66, ↓A_g67, ↓A_g68, ↓A_g69, ↓A_g70, ↓A_gN, ↓A_gT, ↓A_gC, ↓I_X7_numbersOf, ↓r_iconst, ↓r_icne_t, ↓r_icne_f, ↓J_X7_readsClause_29, ↓r_zreturn, ↓L_ist_n2, ↓L_ist_n2L, ↓F_g60_19, ↓L_ild_n1, ↓r_imul, ↓L_ild_n2, ↓A_p3, ↓A_p4, ↓A_p5, ↓A_p6, ↓A_p7, ↓A_p9, ↓A_p10, ↓A_p12, ↓A_p13, ↓A_p15, ↓A_p16, ↓A_p19, ↓A_p20, ↓A_p21, ↓A_p22, ↓A_p23, ↓A_p25, ↓A_p26, ↓A_p28, ↓A_p29, ↓A_p31, ↓A_p32, ↓A_p34, ↓A_p36, ↓A_p37, ↓A_p38, ↓A_p39, ↓A_p41, ↓A_p42, ↓A_p43, ↓A_p44, ↓A_p61, ↓A_p62, ↓A_p63, ↓A_p65, ↓A_p66, ↓A_p67, ↓A_p68, ↓A_p69, ↓A_p70, ↓A_pN, ↓A_pT, ↓r_dupI, ↓r_dupR, ↓r_iadd, ↓F_p60_18, ↓L_ist_n3, ↓L_ist_n3L, ↓L_ild_n3, ↓r_icgt_t, ↓r_icgt_f, ↓J_X7_readsClause_161, ↓I_X7_isDigit_60, ↓r_ifne_t, ↓r_ifne_f, ↓J_X7_readsClause_77, ↓r_bipush, ↓r_isub, ↓L_ist4, ↓L_ist4L, ↓J_X7_readsClause_143, ↓r_ifeq_t, ↓r_ifeq_f, ↓L_ild4, ↓L_iinc3, ↓r_goto, ↓J_X7_readsClause_60, ↓U_X7_readsClause_0, ↓U_X7_readsClause_27, ↓U_X7_readsClause_29, ↓U_X7_readsClause_60, ↓U_X7_readsClause_77, ↓U_X7_readsClause_143, ↓U_X7_readsClause_161, ↓zthen_v, ↓zthen_0, zU_eq, zU_nc, zU_nj, m_numbersOf, hm]
set_option maxRecDepth 20000 in
theorem m_rc_f {τ : zM} {k x j : Int} {z : zV} (hT : TV τ) (ha : 0 ≤ τ 60 18 ∧ τ 60 18 ≤ τ 60 17) (hx : -2147483648 ≤ x ∧ x < 2147483648) (m : Int) (hm : dgB x = m) (hm0 : 0 ≤ m ∧ m ≤ 3) (hj : 1 ≤ j ∧ j ≤ m) (hf : τ 60 18 < τ 60 17 → (τ 67 (τ 60 18) < 48 ∨ 57 < τ 67 (τ 60 18))) : zres 167 C_X7_readsClause_60 [vR 60, vI k, vI x, vI j, z] [] τ = some (some (vI 0), τ) := by
  have h1 := hT.1
  by_cases q : τ 60 18 < τ 60 17
  · have h2 := hT.2 (τ 60 18) (by omega) (by omega)
    have h3 := hf q
    have hd := m_isDigit_f (τ := τ) (by omega) (by omega)
    simp (disch := first | exact z_tt rfl | assumption | omega | (simp (disch := omega) only [zU_eq, zU_nc, zU_nj]; omega)) only [↓L_ald_n0, ↓F_g60_18, ↓F_g60_17, ↓r_iceq_t, ↓r_iceq_f, ↓J_X7_readsClause_27, ↓F_g60_16, ↓A_g3, ↓A_g4, ↓A_g5, ↓A_g6, ↓A_g7, ↓A_g9, ↓A_g10, ↓A_g12, ↓A_g13, ↓A_g15, ↓A_g16, ↓A_g19, ↓A_g20, ↓A_g21, ↓A_g22, ↓A_g23, ↓A_g25, ↓A_g26, ↓A_g28, ↓A_g29, ↓A_g31, ↓A_g32, ↓A_g34, ↓A_g36, ↓A_g37, ↓A_g38, ↓A_g39, ↓A_g41, ↓A_g42, ↓A_g43, ↓A_g44, ↓A_g61, ↓A_g62, ↓A_g63, ↓A_g65, ↓A_g66, ↓A_g67, ↓A_g68, ↓A_g69, ↓A_g70, ↓A_gN, ↓A_gT, ↓A_gC, ↓I_X7_numbersOf, ↓r_iconst, ↓r_icne_t, ↓r_icne_f, ↓J_X7_readsClause_29, ↓r_zreturn, ↓L_ist_n2, ↓L_ist_n2L, ↓F_g60_19, ↓L_ild_n1, ↓r_imul, ↓L_ild_n2, ↓A_p3, ↓A_p4, ↓A_p5, ↓A_p6, ↓A_p7, ↓A_p9, ↓A_p10, ↓A_p12, ↓A_p13, ↓A_p15, ↓A_p16, ↓A_p19, ↓A_p20, ↓A_p21, ↓A_p22, ↓A_p23, ↓A_p25, ↓A_p26, ↓A_p28, ↓A_p29, ↓A_p31, ↓A_p32, ↓A_p34, ↓A_p36, ↓A_p37, ↓A_p38, ↓A_p39, ↓A_p41, ↓A_p42, ↓A_p43, ↓A_p44, ↓A_p61, ↓A_p62, ↓A_p63, ↓A_p65, ↓A_p66, ↓A_p67, ↓A_p68, ↓A_p69, ↓A_p70, ↓A_pN, ↓A_pT, ↓r_dupI, ↓r_dupR, ↓r_iadd, ↓F_p60_18, ↓L_ist_n3, ↓L_ist_n3L, ↓L_ild_n3, ↓r_icgt_t, ↓r_icgt_f, ↓J_X7_readsClause_161, ↓I_X7_isDigit_60, ↓r_ifne_t, ↓r_ifne_f, ↓J_X7_readsClause_77, ↓r_bipush, ↓r_isub, ↓L_ist4, ↓L_ist4L, ↓J_X7_readsClause_143, ↓r_ifeq_t, ↓r_ifeq_f, ↓L_ild4, ↓L_iinc3, ↓r_goto, ↓J_X7_readsClause_60, ↓U_X7_readsClause_0, ↓U_X7_readsClause_27, ↓U_X7_readsClause_29, ↓U_X7_readsClause_60, ↓U_X7_readsClause_77, ↓U_X7_readsClause_143, ↓U_X7_readsClause_161, ↓zthen_v, ↓zthen_0, zU_eq, zU_nc, zU_nj, m_numbersOf, hm, hd]
  · have hd := m_isDigit_e (τ := τ) (by omega) (by omega)
    simp (disch := first | exact z_tt rfl | assumption | omega | (simp (disch := omega) only [zU_eq, zU_nc, zU_nj]; omega)) only [↓L_ald_n0, ↓F_g60_18, ↓F_g60_17, ↓r_iceq_t, ↓r_iceq_f, ↓J_X7_readsClause_27, ↓F_g60_16, ↓A_g3, ↓A_g4, ↓A_g5, ↓A_g6, ↓A_g7, ↓A_g9, ↓A_g10, ↓A_g12, ↓A_g13, ↓A_g15, ↓A_g16, ↓A_g19, ↓A_g20, ↓A_g21, ↓A_g22, ↓A_g23, ↓A_g25, ↓A_g26, ↓A_g28, ↓A_g29, ↓A_g31, ↓A_g32, ↓A_g34, ↓A_g36, ↓A_g37, ↓A_g38, ↓A_g39, ↓A_g41, ↓A_g42, ↓A_g43, ↓A_g44, ↓A_g61, ↓A_g62, ↓A_g63, ↓A_g65, ↓A_g66, ↓A_g67, ↓A_g68, ↓A_g69, ↓A_g70, ↓A_gN, ↓A_gT, ↓A_gC, ↓I_X7_numbersOf, ↓r_iconst, ↓r_icne_t, ↓r_icne_f, ↓J_X7_readsClause_29, ↓r_zreturn, ↓L_ist_n2, ↓L_ist_n2L, ↓F_g60_19, ↓L_ild_n1, ↓r_imul, ↓L_ild_n2, ↓A_p3, ↓A_p4, ↓A_p5, ↓A_p6, ↓A_p7, ↓A_p9, ↓A_p10, ↓A_p12, ↓A_p13, ↓A_p15, ↓A_p16, ↓A_p19, ↓A_p20, ↓A_p21, ↓A_p22, ↓A_p23, ↓A_p25, ↓A_p26, ↓A_p28, ↓A_p29, ↓A_p31, ↓A_p32, ↓A_p34, ↓A_p36, ↓A_p37, ↓A_p38, ↓A_p39, ↓A_p41, ↓A_p42, ↓A_p43, ↓A_p44, ↓A_p61, ↓A_p62, ↓A_p63, ↓A_p65, ↓A_p66, ↓A_p67, ↓A_p68, ↓A_p69, ↓A_p70, ↓A_pN, ↓A_pT, ↓r_dupI, ↓r_dupR, ↓r_iadd, ↓F_p60_18, ↓L_ist_n3, ↓L_ist_n3L, ↓L_ild_n3, ↓r_icgt_t, ↓r_icgt_f, ↓J_X7_readsClause_161, ↓I_X7_isDigit_60, ↓r_ifne_t, ↓r_ifne_f, ↓J_X7_readsClause_77, ↓r_bipush, ↓r_isub, ↓L_ist4, ↓L_ist4L, ↓J_X7_readsClause_143, ↓r_ifeq_t, ↓r_ifeq_f, ↓L_ild4, ↓L_iinc3, ↓r_goto, ↓J_X7_readsClause_60, ↓U_X7_readsClause_0, ↓U_X7_readsClause_27, ↓U_X7_readsClause_29, ↓U_X7_readsClause_60, ↓U_X7_readsClause_77, ↓U_X7_readsClause_143, ↓U_X7_readsClause_161, ↓zthen_v, ↓zthen_0, zU_eq, zU_nc, zU_nj, m_numbersOf, hm, hd]
set_option maxRecDepth 20000 in
theorem m_rc_d {τ : zM} {k x j : Int} {z : zV} (hT : TV τ) (hk : 0 ≤ k ∧ k < 14) (ha : 0 ≤ τ 60 18 ∧ τ 60 18 < τ 60 17) (hx : -2147483648 ≤ x ∧ x < 2147483648) (m : Int) (hm : dgB x = m) (hm0 : 0 ≤ m ∧ m ≤ 3) (hj : 1 ≤ j ∧ j ≤ m) (hd : 48 ≤ τ 67 (τ 60 18) ∧ τ 67 (τ 60 18) ≤ 57) (h3 : j < 3) : zres 167 C_X7_readsClause_60 [vR 60, vI k, vI x, vI j, z] [] τ = zres 167 C_X7_readsClause_60 [vR 60, vI k, vI x, vI (j + 1), vI (τ 67 (τ 60 18) - 48)] [] (rcD τ k j) := by
  have h1 := hT.1
  have hq := m_isDigit_t (τ := τ) (by omega) hd
  rw [U_X7_readsClause_60]
  simp (disch := first | exact z_tt rfl | assumption | omega | (simp (disch := omega) only [zU_eq, zU_nc, zU_nj]; omega)) only [↓L_ald_n0, ↓F_g60_18, ↓F_g60_17, ↓r_iceq_t, ↓r_iceq_f, ↓J_X7_readsClause_27, ↓F_g60_16, ↓A_g3, ↓A_g4, ↓A_g5, ↓A_g6, ↓A_g7, ↓A_g9, ↓A_g10, ↓A_g12, ↓A_g13, ↓A_g15, ↓A_g16, ↓A_g19, ↓A_g20, ↓A_g21, ↓A_g22, ↓A_g23, ↓A_g25, ↓A_g26, ↓A_g28, ↓A_g29, ↓A_g31, ↓A_g32, ↓A_g34, ↓A_g36, ↓A_g37, ↓A_g38, ↓A_g39, ↓A_g41, ↓A_g42, ↓A_g43, ↓A_g44, ↓A_g61, ↓A_g62, ↓A_g63, ↓A_g65, ↓A_g66, ↓A_g67, ↓A_g68, ↓A_g69, ↓A_g70, ↓A_gN, ↓A_gT, ↓A_gC, ↓I_X7_numbersOf, ↓r_iconst, ↓r_icne_t, ↓r_icne_f, ↓J_X7_readsClause_29, ↓r_zreturn, ↓L_ist_n2, ↓L_ist_n2L, ↓F_g60_19, ↓L_ild_n1, ↓r_imul, ↓L_ild_n2, ↓A_p3, ↓A_p4, ↓A_p5, ↓A_p6, ↓A_p7, ↓A_p9, ↓A_p10, ↓A_p12, ↓A_p13, ↓A_p15, ↓A_p16, ↓A_p19, ↓A_p20, ↓A_p21, ↓A_p22, ↓A_p23, ↓A_p25, ↓A_p26, ↓A_p28, ↓A_p29, ↓A_p31, ↓A_p32, ↓A_p34, ↓A_p36, ↓A_p37, ↓A_p38, ↓A_p39, ↓A_p41, ↓A_p42, ↓A_p43, ↓A_p44, ↓A_p61, ↓A_p62, ↓A_p63, ↓A_p65, ↓A_p66, ↓A_p67, ↓A_p68, ↓A_p69, ↓A_p70, ↓A_pN, ↓A_pT, ↓r_dupI, ↓r_dupR, ↓r_iadd, ↓F_p60_18, ↓L_ist_n3, ↓L_ist_n3L, ↓L_ild_n3, ↓r_icgt_t, ↓r_icgt_f, ↓J_X7_readsClause_161, ↓I_X7_isDigit_60, ↓r_ifne_t, ↓r_ifne_f, ↓J_X7_readsClause_77, ↓r_bipush, ↓r_isub, ↓L_ist4, ↓L_ist4L, ↓J_X7_readsClause_143, ↓r_ifeq_t, ↓r_ifeq_f, ↓L_ild4, ↓L_iinc3, ↓r_goto, ↓J_X7_readsClause_60, ↓U_X7_readsClause_0, ↓U_X7_readsClause_27, ↓U_X7_readsClause_29, ↓U_X7_readsClause_77, ↓U_X7_readsClause_143, ↓U_X7_readsClause_161, ↓zthen_v, ↓zthen_0, zU_eq, zU_nc, zU_nj, m_numbersOf, hm, hq]
  rfl
set_option maxRecDepth 20000 in
theorem m_rc_d3 {τ : zM} {k x : Int} {z : zV} (hT : TV τ) (hk : 0 ≤ k ∧ k < 14) (ha : 0 ≤ τ 60 18 ∧ τ 60 18 < τ 60 17) (hx : -2147483648 ≤ x ∧ x < 2147483648) (hm : dgB x = 3) (hd : 48 ≤ τ 67 (τ 60 18) ∧ τ 67 (τ 60 18) ≤ 57) (hf : τ 60 18 + 1 < τ 60 17 → (τ 67 (τ 60 18 + 1) < 48 ∨ 57 < τ 67 (τ 60 18 + 1))) : zres 167 C_X7_readsClause_60 [vR 60, vI k, vI x, vI 3, z] [] τ = zres 167 C_X7_readsClause_60 [vR 60, vI k, vI x, vI 4, vI (τ 67 (τ 60 18) - 48)] [] (rcD τ k 3) := by
  have h1 := hT.1
  have hq := m_isDigit_t (τ := τ) (by omega) hd
  have e18 : zU τ 60 18 (τ 60 18 + 1) 60 18 = τ 60 18 + 1 := zU_eq _ _ _ _
  have e17 : zU τ 60 18 (τ 60 18 + 1) 60 17 = τ 60 17 := zU_nj _ _ _ _ _ (by omega)
  have e67 : ∀ j, zU τ 60 18 (τ 60 18 + 1) 67 j = τ 67 j := fun j => zU_nc _ _ _ _ _ _ (by omega)
  rw [U_X7_readsClause_60]
  by_cases q : τ 60 18 + 1 < τ 60 17
  · have h2 := hT.2 (τ 60 18 + 1) (by omega) (by omega)
    have h3 := hf q
    have hd2 := m_isDigit_f (τ := zU τ 60 18 (τ 60 18 + 1)) (by rw [e18, e17]; omega) (by rw [e18, e67]; omega)
    simp (disch := first | exact z_tt rfl | assumption | omega | (simp (disch := omega) only [zU_eq, zU_nc, zU_nj]; omega)) only [↓L_ald_n0, ↓F_g60_18, ↓F_g60_17, ↓r_iceq_t, ↓r_iceq_f, ↓J_X7_readsClause_27, ↓F_g60_16, ↓A_g3, ↓A_g4, ↓A_g5, ↓A_g6, ↓A_g7, ↓A_g9, ↓A_g10, ↓A_g12, ↓A_g13, ↓A_g15, ↓A_g16, ↓A_g19, ↓A_g20, ↓A_g21, ↓A_g22, ↓A_g23, ↓A_g25, ↓A_g26, ↓A_g28, ↓A_g29, ↓A_g31, ↓A_g32, ↓A_g34, ↓A_g36, ↓A_g37, ↓A_g38, ↓A_g39, ↓A_g41, ↓A_g42, ↓A_g43, ↓A_g44, ↓A_g61, ↓A_g62, ↓A_g63, ↓A_g65, ↓A_g66, ↓A_g67, ↓A_g68, ↓A_g69, ↓A_g70, ↓A_gN, ↓A_gT, ↓A_gC, ↓I_X7_numbersOf, ↓r_iconst, ↓r_icne_t, ↓r_icne_f, ↓J_X7_readsClause_29, ↓r_zreturn, ↓L_ist_n2, ↓L_ist_n2L, ↓F_g60_19, ↓L_ild_n1, ↓r_imul, ↓L_ild_n2, ↓A_p3, ↓A_p4, ↓A_p5, ↓A_p6, ↓A_p7, ↓A_p9, ↓A_p10, ↓A_p12, ↓A_p13, ↓A_p15, ↓A_p16, ↓A_p19, ↓A_p20, ↓A_p21, ↓A_p22, ↓A_p23, ↓A_p25, ↓A_p26, ↓A_p28, ↓A_p29, ↓A_p31, ↓A_p32, ↓A_p34, ↓A_p36, ↓A_p37, ↓A_p38, ↓A_p39, ↓A_p41, ↓A_p42, ↓A_p43, ↓A_p44, ↓A_p61, ↓A_p62, ↓A_p63, ↓A_p65, ↓A_p66, ↓A_p67, ↓A_p68, ↓A_p69, ↓A_p70, ↓A_pN, ↓A_pT, ↓r_dupI, ↓r_dupR, ↓r_iadd, ↓F_p60_18, ↓L_ist_n3, ↓L_ist_n3L, ↓L_ild_n3, ↓r_icgt_t, ↓r_icgt_f, ↓J_X7_readsClause_161, ↓I_X7_isDigit_60, ↓r_ifne_t, ↓r_ifne_f, ↓J_X7_readsClause_77, ↓r_bipush, ↓r_isub, ↓L_ist4, ↓L_ist4L, ↓J_X7_readsClause_143, ↓r_ifeq_t, ↓r_ifeq_f, ↓L_ild4, ↓L_iinc3, ↓r_goto, ↓J_X7_readsClause_60, ↓U_X7_readsClause_0, ↓U_X7_readsClause_27, ↓U_X7_readsClause_29, ↓U_X7_readsClause_77, ↓U_X7_readsClause_143, ↓U_X7_readsClause_161, ↓zthen_v, ↓zthen_0, zU_eq, zU_nc, zU_nj, m_numbersOf, hm, hq, hd2]
    rfl
  · have hd2 := m_isDigit_e (τ := zU τ 60 18 (τ 60 18 + 1)) (by rw [e18, e17]; omega) (by rw [e18, e17]; omega)
    simp (disch := first | exact z_tt rfl | assumption | omega | (simp (disch := omega) only [zU_eq, zU_nc, zU_nj]; omega)) only [↓L_ald_n0, ↓F_g60_18, ↓F_g60_17, ↓r_iceq_t, ↓r_iceq_f, ↓J_X7_readsClause_27, ↓F_g60_16, ↓A_g3, ↓A_g4, ↓A_g5, ↓A_g6, ↓A_g7, ↓A_g9, ↓A_g10, ↓A_g12, ↓A_g13, ↓A_g15, ↓A_g16, ↓A_g19, ↓A_g20, ↓A_g21, ↓A_g22, ↓A_g23, ↓A_g25, ↓A_g26, ↓A_g28, ↓A_g29, ↓A_g31, ↓A_g32, ↓A_g34, ↓A_g36, ↓A_g37, ↓A_g38, ↓A_g39, ↓A_g41, ↓A_g42, ↓A_g43, ↓A_g44, ↓A_g61, ↓A_g62, ↓A_g63, ↓A_g65, ↓A_g66, ↓A_g67, ↓A_g68, ↓A_g69, ↓A_g70, ↓A_gN, ↓A_gT, ↓A_gC, ↓I_X7_numbersOf, ↓r_iconst, ↓r_icne_t, ↓r_icne_f, ↓J_X7_readsClause_29, ↓r_zreturn, ↓L_ist_n2, ↓L_ist_n2L, ↓F_g60_19, ↓L_ild_n1, ↓r_imul, ↓L_ild_n2, ↓A_p3, ↓A_p4, ↓A_p5, ↓A_p6, ↓A_p7, ↓A_p9, ↓A_p10, ↓A_p12, ↓A_p13, ↓A_p15, ↓A_p16, ↓A_p19, ↓A_p20, ↓A_p21, ↓A_p22, ↓A_p23, ↓A_p25, ↓A_p26, ↓A_p28, ↓A_p29, ↓A_p31, ↓A_p32, ↓A_p34, ↓A_p36, ↓A_p37, ↓A_p38, ↓A_p39, ↓A_p41, ↓A_p42, ↓A_p43, ↓A_p44, ↓A_p61, ↓A_p62, ↓A_p63, ↓A_p65, ↓A_p66, ↓A_p67, ↓A_p68, ↓A_p69, ↓A_p70, ↓A_pN, ↓A_pT, ↓r_dupI, ↓r_dupR, ↓r_iadd, ↓F_p60_18, ↓L_ist_n3, ↓L_ist_n3L, ↓L_ild_n3, ↓r_icgt_t, ↓r_icgt_f, ↓J_X7_readsClause_161, ↓I_X7_isDigit_60, ↓r_ifne_t, ↓r_ifne_f, ↓J_X7_readsClause_77, ↓r_bipush, ↓r_isub, ↓L_ist4, ↓L_ist4L, ↓J_X7_readsClause_143, ↓r_ifeq_t, ↓r_ifeq_f, ↓L_ild4, ↓L_iinc3, ↓r_goto, ↓J_X7_readsClause_60, ↓U_X7_readsClause_0, ↓U_X7_readsClause_27, ↓U_X7_readsClause_29, ↓U_X7_readsClause_77, ↓U_X7_readsClause_143, ↓U_X7_readsClause_161, ↓zthen_v, ↓zthen_0, zU_eq, zU_nc, zU_nj, m_numbersOf, hm, hq, hd2]
    rfl
set_option maxRecDepth 20000 in
theorem m_rc_e3 {τ : zM} {k x : Int} {z : zV} (hT : TV τ) (hk : 0 ≤ k ∧ k < 14) (ha : 0 ≤ τ 60 18 ∧ τ 60 18 + 1 < τ 60 17) (hx : -2147483648 ≤ x ∧ x < 2147483648) (hm : dgB x = 3) (hd : 48 ≤ τ 67 (τ 60 18) ∧ τ 67 (τ 60 18) ≤ 57) (hf : 48 ≤ τ 67 (τ 60 18 + 1) ∧ τ 67 (τ 60 18 + 1) ≤ 57) : ∃ z', zres 167 C_X7_readsClause_60 [vR 60, vI k, vI x, vI 3, z] [] τ = zres 167 C_X7_readsClause_60 [vR 60, vI k, vI x, vI 4, z'] [] (rcE τ k 3) := by
  have h1 := hT.1
  have hq := m_isDigit_t (τ := τ) (by omega) hd
  have e18 : zU τ 60 18 (τ 60 18 + 1) 60 18 = τ 60 18 + 1 := zU_eq _ _ _ _
  have e17 : zU τ 60 18 (τ 60 18 + 1) 60 17 = τ 60 17 := zU_nj _ _ _ _ _ (by omega)
  have e67 : ∀ j, zU τ 60 18 (τ 60 18 + 1) 67 j = τ 67 j := fun j => zU_nc _ _ _ _ _ _ (by omega)
  have hd2 := m_isDigit_t (τ := zU τ 60 18 (τ 60 18 + 1)) (by rw [e18, e17]; omega) (by rw [e18, e67]; omega)
  refine ⟨vI (10 * (τ 67 (τ 60 18) - 48) + τ 67 (τ 60 18 + 1) - 48), ?_⟩
  rw [U_X7_readsClause_60]
  simp (disch := first | exact z_tt rfl | assumption | omega | (simp (disch := omega) only [zU_eq, zU_nc, zU_nj]; omega)) only [↓L_ald_n0, ↓F_g60_18, ↓F_g60_17, ↓r_iceq_t, ↓r_iceq_f, ↓J_X7_readsClause_27, ↓F_g60_16, ↓A_g3, ↓A_g4, ↓A_g5, ↓A_g6, ↓A_g7, ↓A_g9, ↓A_g10, ↓A_g12, ↓A_g13, ↓A_g15, ↓A_g16, ↓A_g19, ↓A_g20, ↓A_g21, ↓A_g22, ↓A_g23, ↓A_g25, ↓A_g26, ↓A_g28, ↓A_g29, ↓A_g31, ↓A_g32, ↓A_g34, ↓A_g36, ↓A_g37, ↓A_g38, ↓A_g39, ↓A_g41, ↓A_g42, ↓A_g43, ↓A_g44, ↓A_g61, ↓A_g62, ↓A_g63, ↓A_g65, ↓A_g66, ↓A_g67, ↓A_g68, ↓A_g69, ↓A_g70, ↓A_gN, ↓A_gT, ↓A_gC, ↓I_X7_numbersOf, ↓r_iconst, ↓r_icne_t, ↓r_icne_f, ↓J_X7_readsClause_29, ↓r_zreturn, ↓L_ist_n2, ↓L_ist_n2L, ↓F_g60_19, ↓L_ild_n1, ↓r_imul, ↓L_ild_n2, ↓A_p3, ↓A_p4, ↓A_p5, ↓A_p6, ↓A_p7, ↓A_p9, ↓A_p10, ↓A_p12, ↓A_p13, ↓A_p15, ↓A_p16, ↓A_p19, ↓A_p20, ↓A_p21, ↓A_p22, ↓A_p23, ↓A_p25, ↓A_p26, ↓A_p28, ↓A_p29, ↓A_p31, ↓A_p32, ↓A_p34, ↓A_p36, ↓A_p37, ↓A_p38, ↓A_p39, ↓A_p41, ↓A_p42, ↓A_p43, ↓A_p44, ↓A_p61, ↓A_p62, ↓A_p63, ↓A_p65, ↓A_p66, ↓A_p67, ↓A_p68, ↓A_p69, ↓A_p70, ↓A_pN, ↓A_pT, ↓r_dupI, ↓r_dupR, ↓r_iadd, ↓F_p60_18, ↓L_ist_n3, ↓L_ist_n3L, ↓L_ild_n3, ↓r_icgt_t, ↓r_icgt_f, ↓J_X7_readsClause_161, ↓I_X7_isDigit_60, ↓r_ifne_t, ↓r_ifne_f, ↓J_X7_readsClause_77, ↓r_bipush, ↓r_isub, ↓L_ist4, ↓L_ist4L, ↓J_X7_readsClause_143, ↓r_ifeq_t, ↓r_ifeq_f, ↓L_ild4, ↓L_iinc3, ↓r_goto, ↓J_X7_readsClause_60, ↓U_X7_readsClause_0, ↓U_X7_readsClause_27, ↓U_X7_readsClause_29, ↓U_X7_readsClause_77, ↓U_X7_readsClause_143, ↓U_X7_readsClause_161, ↓zthen_v, ↓zthen_0, zU_eq, zU_nc, zU_nj, m_numbersOf, hm, hq, hd2]
  rfl
/-! the clause as a whole, against eoc of the view -/
theorem vsgn {τ : zM} {b : Int} (h : 0 ≤ b ∧ b < τ 60 17) : sgn (vw τ) b = τ 67 b := by
  have e : vw τ 45 1 = τ 60 17 := rfl
  unfold sgn
  rw [e, if_pos h]
  rfl
theorem vsgn_out {τ : zM} {b : Int} (h : b < 0 ∨ τ 60 17 ≤ b) : sgn (vw τ) b = -1 := by
  have e : vw τ 45 1 = τ 60 17 := rfl
  unfold sgn
  rw [e, if_neg (by omega)]
theorem vdig_ok {τ : zM} {b : Int} (h : 0 ≤ dig (vw τ) b) : (0 ≤ b ∧ b < τ 60 17) ∧ (48 ≤ τ 67 b ∧ τ 67 b ≤ 57) ∧ dig (vw τ) b = τ 67 b - 48 := by
  by_cases q : 0 ≤ b ∧ b < τ 60 17
  · unfold dig at h ⊢
    rw [vsgn q] at h ⊢
    by_cases r : 48 ≤ τ 67 b ∧ τ 67 b ≤ 57
    · rw [if_pos r]; exact ⟨q, r, rfl⟩
    · rw [if_neg r] at h; omega
  · unfold dig at h
    rw [vsgn_out (by omega), if_neg (by omega)] at h
    omega
theorem vdig_no {τ : zM} {b : Int} (hb : 0 ≤ b) (h : dig (vw τ) b < 0) : b < τ 60 17 → (τ 67 b < 48 ∨ 57 < τ 67 b) := by
  intro q
  unfold dig at h
  rw [vsgn ⟨hb, q⟩] at h
  by_cases r : 48 ≤ τ 67 b ∧ τ 67 b ≤ 57
  · rw [if_pos r] at h; omega
  · omega
def FrJ (k j : Int) (s s' : zM) : Prop := ∀ c i : Int, (c = 60 → ¬ i = 18) → (c = 68 → (i < 4 * k + j ∨ 4 * k + 4 ≤ i)) → s' c i = s c i
def eoX (m : Int) (v : zM) (e : Int) : Int := if m = 3 ∧ 0 ≤ dig v e then e + 1 else e
def nmX (v : zM) (i p : Int) : Int := if i = 3 ∧ 0 ≤ dig v (p + 1) then 10 * dig v p + dig v (p + 1) else dig v p
theorem zU_ow (σ : zM) (c j v c' j' : Int) (h : c' = c → ¬ j' = j) : zU σ c j v c' j' = σ c' j' := by
  by_cases q : c' = c
  · have := h q
    subst q
    exact zU_nj _ _ _ _ _ (by omega)
  · exact zU_nc _ _ _ _ _ _ (by omega)
theorem vw_eq {s τ : zM} (h1 : s 60 17 = τ 60 17) (h2 : ∀ j, s 67 j = τ 67 j) : vw s = vw τ := by
  funext c j
  unfold vw
  by_cases q : c = 45
  · rw [if_pos q, if_pos q, h1]
  · rw [if_neg q, if_neg q, h2]
theorem FrJ_vw {k j : Int} {s s' : zM} (h : FrJ k j s s') : vw s' = vw s := vw_eq (h 60 17 (by omega) (by omega)) (fun i => h 67 i (by omega) (by omega))
theorem FrJ_TV {k j : Int} {s s' : zM} (h : FrJ k j s s') (hT : TV s) : TV s' := by
  refine ⟨by rw [h 60 17 (by omega) (by omega)]; exact hT.1, fun i a b => by rw [h 67 i (by omega) (by omega)]; exact hT.2 i a b⟩
theorem rcD_fr (s : zM) (k j : Int) (hj : 0 ≤ j ∧ j ≤ 3) : FrJ k j s (rcD s k j) := by
  intro c i h1 h2
  unfold rcD
  rw [zU_ow _ _ _ _ _ _ (by omega), zU_ow _ _ _ _ _ _ (by omega)]
theorem rcE_fr (s : zM) (k j : Int) (hj : 0 ≤ j ∧ j ≤ 3) : FrJ k j s (rcE s k j) := by
  intro c i h1 h2
  unfold rcE
  rw [zU_ow _ _ _ _ _ _ (by omega), zU_ow _ _ _ _ _ _ (by omega), zU_ow _ _ _ _ _ _ (by omega)]
theorem rc0_fr (s : zM) (k : Int) : FrJ k 0 s (rc0 s k) := by
  intro c i h1 h2
  unfold rc0
  rw [zU_ow _ _ _ _ _ _ (by omega), zU_ow _ _ _ _ _ _ (by omega)]
theorem FrJ_trans {k j j' : Int} {s s' s'' : zM} (hj : j ≤ j') (h : FrJ k j s s') (h' : FrJ k j' s' s'') : FrJ k j s s'' := by
  intro c i h1 h2
  rw [h' c i h1 (by omega), h c i h1 h2]
theorem m_rc_loop {k x m : Int} (hk : 0 ≤ k ∧ k < 14) (hx : -2147483648 ≤ x ∧ x < 2147483648) (hm : dgB x = m) (hm0 : 0 ≤ m ∧ m ≤ 3) : ∀ (n : Nat) (j b : Int) (z : zV) (s : zM), TV s → s 60 18 = b → 0 ≤ b → b ≤ s 60 17 → 1 ≤ j → j + n = m + 1 → (n = 0 → m < 3) →
    (∀ q, eoD (vw s) b n = some q → ∃ s', zres 167 C_X7_readsClause_60 [vR 60, vI k, vI x, vI j, z] [] s = some (some (vI 0), s') ∧ s' 60 18 = q ∧ q ≤ s 60 17 ∧ FrJ k j s s') ∧
    (eoD (vw s) b n = none → ∃ s', zres 167 C_X7_readsClause_60 [vR 60, vI k, vI x, vI j, z] [] s = some (some (vI 1), s') ∧ s' 60 18 = eoX m (vw s) (b + n) ∧ s' 60 18 ≤ s 60 17 ∧ FrJ k j s s' ∧ (∀ i, j ≤ i → i ≤ m → s' 68 (4 * k + i) = nmX (vw s) i (b + (i - j)))) := by
  intro n
  induction n with
  | zero =>
    intro j b z s hT hs hb hl hj hn h0
    have hm3 := h0 rfl
    refine ⟨fun q h => by simp [eoD] at h, fun _ => ⟨s, m_rc_done hx m hm hm0 (by omega), ?_, by omega, fun c i _ _ => rfl, fun i a1 a2 => by omega⟩⟩
    unfold eoX
    rw [if_neg (by omega), hs]
    omega
  | succ n ih =>
    intro j b z s hT hs hb hl hj hn h0
    subst hs
    unfold eoD
    by_cases qd : dig (vw s) (s 60 18) < 0
    · rw [if_pos qd]
      refine ⟨fun q h => ?_, fun h => by simp at h⟩
      have hq := Option.some.inj h
      exact ⟨s, m_rc_f hT ⟨hb, hl⟩ hx m hm hm0 (by omega) (vdig_no hb qd), hq, by omega, fun c i _ _ => rfl⟩
    · rw [if_neg qd]
      have hd := vdig_ok (τ := s) (b := s 60 18) (by omega)
      by_cases hj3 : j < 3
      · have hst := m_rc_d (z := z) hT hk hd.1 hx m hm hm0 (by omega) hd.2.1 hj3
        have hF := rcD_fr s k j (by omega)
        have e18 : rcD s k j 60 18 = s 60 18 + 1 := by
          unfold rcD
          rw [zU_ow _ _ _ _ _ _ (by omega), zU_eq]
        have e17 : rcD s k j 60 17 = s 60 17 := hF 60 17 (by omega) (by omega)
        have eV := FrJ_vw hF
        have eJ : rcD s k j 68 (4 * k + j) = nmX (vw s) j (s 60 18) := by
          unfold rcD nmX
          rw [zU_eq, if_neg (by omega), hd.2.2]
        have I := ih (j + 1) (s 60 18 + 1) (vI (s 67 (s 60 18) - 48)) (rcD s k j) (FrJ_TV hF hT) e18 (by omega) (by rw [e17]; omega) (by omega) (by omega) (by omega)
        rw [eV, e17] at I
        refine ⟨fun q h => ?_, fun h => ?_⟩
        · obtain ⟨s', r1, r2, r3, r4⟩ := I.1 q h
          exact ⟨s', by rw [hst, r1], r2, r3, FrJ_trans (by omega) hF r4⟩
        · obtain ⟨s', r1, r2, r3, r4, r5⟩ := I.2 h
          refine ⟨s', by rw [hst, r1], by rw [r2]; congr 1; omega, r3, FrJ_trans (by omega) hF r4, fun i a1 a2 => ?_⟩
          by_cases hi : i = j
          · subst hi
            rw [r4 68 _ (by omega) (by omega), eJ]
            congr 1
            omega
          · rw [r5 i (by omega) a2]
            congr 1
            omega
      · have hj : j = 3 := by omega
        have hm3 : m = 3 := by omega
        have hn0 : n = 0 := by omega
        subst hj
        subst hn0
        refine ⟨fun q h => by simp [eoD] at h, fun _ => ?_⟩
        by_cases q2 : 0 ≤ dig (vw s) (s 60 18 + 1)
        · have hd2 := vdig_ok q2
          obtain ⟨z', hst⟩ := m_rc_e3 (k := k) (x := x) (z := z) hT hk (by omega) hx (by omega) hd.2.1 hd2.2.1
          have e18 : rcE s k 3 60 18 = s 60 18 + 1 + 1 := by
            unfold rcE
            rw [zU_ow _ _ _ _ _ _ (by omega), zU_eq]
          refine ⟨rcE s k 3, by rw [hst, m_rc_done hx m hm hm0 (by omega)], ?_, by omega, rcE_fr s k 3 (by omega), fun i a1 a2 => ?_⟩
          · unfold eoX
            rw [if_pos ⟨hm3, q2⟩, e18]
            rfl
          · have hi : i = 3 := by omega
            subst hi
            unfold rcE nmX
            rw [zU_eq, show s 60 18 + (3 - 3 : Int) = s 60 18 from by omega, if_pos ⟨rfl, q2⟩, hd.2.2, hd2.2.2]
            omega
        · have hst := m_rc_d3 (k := k) (x := x) (z := z) hT hk hd.1 hx (by omega) hd.2.1 (vdig_no (by omega) (by omega))
          have e18 : rcD s k 3 60 18 = s 60 18 + 1 := by
            unfold rcD
            rw [zU_ow _ _ _ _ _ _ (by omega), zU_eq]
          refine ⟨rcD s k 3, by rw [hst, m_rc_done hx m hm hm0 (by omega)], ?_, by omega, rcD_fr s k 3 (by omega), fun i a1 a2 => ?_⟩
          · unfold eoX
            rw [if_neg (fun h => q2 h.2), e18]
            rfl
          · have hi : i = 3 := by omega
            subst hi
            unfold rcD nmX
            rw [zU_eq, show s 60 18 + (3 - 3 : Int) = s 60 18 from by omega, if_neg (fun h => q2 h.2), hd.2.2]
