def SameA (k : Int → zV) (σ τ : zM) (xc xm : Option (Option zV × zM)) : Prop := ∃ r σ1 τ1, xc = some (some (k r), σ1) ∧ xm = some (some (k r), τ1) ∧ RelA σ1 τ1 ∧ FrA σ σ1 ∧ FrB τ τ1
theorem SameA_id {k : Int → zV} {σ τ : zM} {xc xm : Option (Option zV × zM)} (R : RelA σ τ) (r : Int) (h1 : xc = some (some (k r), σ)) (h2 : xm = some (some (k r), τ)) : SameA k σ τ xc xm := ⟨r, σ, τ, h1, h2, R, fun _ _ _ => rfl, fun _ _ _ => rfl⟩
set_option maxRecDepth 20000 in
set_option maxHeartbeats 4000000 in
theorem op_adjusted {σ τ : zM} {i j w : Int} (R : RelA σ τ) (hi : -2147483648 ≤ i ∧ i < 2147483648) (hj : -2147483648 ≤ j ∧ j < 2147483648) (hw : -2147483648 ≤ w ∧ w < 2147483648) : SameA vI σ τ (zcall 63 [vR 0, vI i, vI j, vI w] σ) (zcall 152 [vR 60, vI i, vI j, vI w] τ) := by
  have hn := R.1.n
  have hm := R.1.m
  by_cases q1 : 0 ≤ i ∧ i < σ 1 0 ∧ 0 ≤ j ∧ j < σ 1 0 ∧ (i < j ∨ j < i)
  · have c1 := c_X6_areTwo_t (σ := σ) (i := i) (j := j) q1 (by omega)
    have m1 := m_areTwo_t (σ := τ) (i := i) (j := j) (by omega) (by omega)
    by_cases q2 : 0 ≤ w ∧ w ≤ 4
    · have m2 := m_in_t (σ := τ) (v := w) (lo := 0) (hi := 4) (by omega)
      rcases wo_now R (i := i) (j := j) (by omega) (by omega) (by omega) with ⟨σ1, c3, m3, R1, F1⟩ | ⟨σ1, τ1, c3, m3, R1, F1, F2, A, h331⟩
      · refine ⟨(-3), σ1, τ, ?_, ?_, R1, F1, fun _ _ _ => rfl⟩
        · rw [S_X6_adjusted]
          simp (disch := first | exact z_tt rfl | assumption | omega | (simp (disch := omega) only [zU_eq, zU_nc, zU_nj]; omega)) only [↓L_ald_n0, ↓L_ild_n1, ↓L_ild_n2, ↓I_X6_areTwo_0, ↓r_ifeq_t, ↓r_ifeq_f, ↓J_X6_adjusted_18, ↓L_ild_n3, ↓r_iflt_t, ↓r_iflt_f, ↓r_iconst, ↓r_icle_t, ↓r_icle_f, ↓J_X6_adjusted_20, ↓r_ireturn, ↓F_g0_3, ↓F_g0_0, ↓F_g1_2, ↓F_g17_2, ↓F_g1_1, ↓F_g17_1, ↓I_X0_workOut_33, ↓r_ifne_t, ↓r_ifne_f, ↓J_X6_adjusted_49, ↓r_bipush, ↓r_tab, ↓W_X6_adjusted_50_0, ↓W_X6_adjusted_50_1, ↓W_X6_adjusted_50_2, ↓W_X6_adjusted_50_3, ↓W_X6_adjusted_50_d, ↓F_g33_5, ↓I_X6_orNoSuch, ↓I_X0_bitsOf_33, ↓F_g33_4, ↓F_g33_2, ↓U_X6_adjusted_0, ↓U_X6_adjusted_18, ↓U_X6_adjusted_20, ↓U_X6_adjusted_49, ↓U_X6_adjusted_80, ↓U_X6_adjusted_91, ↓U_X6_adjusted_100, ↓U_X6_adjusted_109, ↓U_X6_adjusted_117, ↓zthen_v, ↓zthen_0, zU_eq, zU_nc, zU_nj, c1, c3]
        · rw [S_X7_adjusted]
          simp (disch := first | exact z_tt rfl | assumption | omega | (simp (disch := omega) only [zU_eq, zU_nc, zU_nj]; omega)) only [↓L_ald_n0, ↓L_ild_n1, ↓L_ild_n2, ↓I_X7_areTwo_60, ↓r_ifeq_t, ↓r_ifeq_f, ↓J_X7_adjusted_21, ↓L_ild_n3, ↓r_i2l, ↓r_lconst, ↓r_ldc2w, ↓I_X7_in, ↓r_ifne_t, ↓r_ifne_f, ↓J_X7_adjusted_23, ↓r_iconst, ↓r_ireturn, ↓I_X7_adjusts_60, ↓J_X7_adjusted_35, ↓r_bipush, ↓r_tab, ↓W_X7_adjusted_36_0, ↓W_X7_adjusted_36_1, ↓W_X7_adjusted_36_2, ↓W_X7_adjusted_36_3, ↓W_X7_adjusted_36_d, ↓F_g60_5, ↓I_X7_orNobody, ↓r_icne_t, ↓r_icne_f, ↓J_X7_adjusted_86, ↓r_goto, ↓J_X7_adjusted_87, ↓I_X7_bitsSo_60, ↓F_g60_8, ↓F_g60_9, ↓U_X7_adjusted_0, ↓U_X7_adjusted_21, ↓U_X7_adjusted_23, ↓U_X7_adjusted_35, ↓U_X7_adjusted_68, ↓U_X7_adjusted_76, ↓U_X7_adjusted_86, ↓U_X7_adjusted_87, ↓U_X7_adjusted_91, ↓U_X7_adjusted_96, ↓zthen_v, ↓zthen_0, zU_eq, zU_nc, zU_nj, m1, m2, m3]
      · have A0 := A
        obtain ⟨a1, ⟨t4, t5, t6, t7, t2, t3⟩, a3, a4, a5⟩ := A0
        have hm1 : τ1 61 1 = σ 1 1 := by rw [F2 61 1 (by omega)]; exact hm.2.2
        have bb := bit_adj A (by omega) h331 hm1
        have c4 := c_aBits (σ := σ1) (p := i) R1.2.1 (by omega) (by omega) (by omega)
        have c5 := c_aBits (σ := σ1) (p := j) R1.2.1 (by omega) (by omega) (by omega)
        have m4 := m_bitsSo (τ := τ1) (f := 1) R1.2.2 (by omega) (by omega) (by omega)
        have m5 := m_bitsSo (τ := τ1) (f := 0) R1.2.2 (by omega) (by omega) (by omega)
        rw [← bb.1] at m4
        rw [← bb.2] at m5
        have c6 := c_X6_orNoSuch (σ := σ1) (p := σ1 33 5) (by omega)
        have c7 := c_X6_orNoSuch (σ := σ1) (p := σ1 33 2) (by omega)
        have m6 := m_orNobody (σ := τ1) (p := τ1 60 5) (by omega)
        have m7 := m_orNobody (σ := τ1) (p := τ1 60 9) (by omega)
        rw [← t5, orNM (by omega)] at m6
        rw [← t2, orNM (by omega)] at m7
        rcases (show w = 0 ∨ w = 1 ∨ w = 2 ∨ w = 3 ∨ w = 4 by omega) with rfl | rfl | rfl | rfl | rfl
        · refine ⟨(orN (σ1 33 5)), σ1, τ1, ?_, ?_, R1, F1, F2⟩
          · rw [S_X6_adjusted]
            simp (disch := first | exact z_tt rfl | assumption | omega | (simp (disch := omega) only [zU_eq, zU_nc, zU_nj]; omega)) only [↓L_ald_n0, ↓L_ild_n1, ↓L_ild_n2, ↓I_X6_areTwo_0, ↓r_ifeq_t, ↓r_ifeq_f, ↓J_X6_adjusted_18, ↓L_ild_n3, ↓r_iflt_t, ↓r_iflt_f, ↓r_iconst, ↓r_icle_t, ↓r_icle_f, ↓J_X6_adjusted_20, ↓r_ireturn, ↓F_g0_3, ↓F_g0_0, ↓F_g1_2, ↓F_g17_2, ↓F_g1_1, ↓F_g17_1, ↓I_X0_workOut_33, ↓r_ifne_t, ↓r_ifne_f, ↓J_X6_adjusted_49, ↓r_bipush, ↓r_tab, ↓W_X6_adjusted_50_0, ↓W_X6_adjusted_50_1, ↓W_X6_adjusted_50_2, ↓W_X6_adjusted_50_3, ↓W_X6_adjusted_50_d, ↓F_g33_5, ↓I_X6_orNoSuch, ↓I_X0_bitsOf_33, ↓F_g33_4, ↓F_g33_2, ↓U_X6_adjusted_0, ↓U_X6_adjusted_18, ↓U_X6_adjusted_20, ↓U_X6_adjusted_49, ↓U_X6_adjusted_80, ↓U_X6_adjusted_91, ↓U_X6_adjusted_100, ↓U_X6_adjusted_109, ↓U_X6_adjusted_117, ↓zthen_v, ↓zthen_0, zU_eq, zU_nc, zU_nj, c1, c3, c6]
          · rw [S_X7_adjusted]
            simp (disch := first | exact z_tt rfl | assumption | omega | (simp (disch := omega) only [zU_eq, zU_nc, zU_nj]; omega)) only [↓L_ald_n0, ↓L_ild_n1, ↓L_ild_n2, ↓I_X7_areTwo_60, ↓r_ifeq_t, ↓r_ifeq_f, ↓J_X7_adjusted_21, ↓L_ild_n3, ↓r_i2l, ↓r_lconst, ↓r_ldc2w, ↓I_X7_in, ↓r_ifne_t, ↓r_ifne_f, ↓J_X7_adjusted_23, ↓r_iconst, ↓r_ireturn, ↓I_X7_adjusts_60, ↓J_X7_adjusted_35, ↓r_bipush, ↓r_tab, ↓W_X7_adjusted_36_0, ↓W_X7_adjusted_36_1, ↓W_X7_adjusted_36_2, ↓W_X7_adjusted_36_3, ↓W_X7_adjusted_36_d, ↓F_g60_5, ↓I_X7_orNobody, ↓r_icne_t, ↓r_icne_f, ↓J_X7_adjusted_86, ↓r_goto, ↓J_X7_adjusted_87, ↓I_X7_bitsSo_60, ↓F_g60_8, ↓F_g60_9, ↓U_X7_adjusted_0, ↓U_X7_adjusted_21, ↓U_X7_adjusted_23, ↓U_X7_adjusted_35, ↓U_X7_adjusted_68, ↓U_X7_adjusted_76, ↓U_X7_adjusted_86, ↓U_X7_adjusted_87, ↓U_X7_adjusted_91, ↓U_X7_adjusted_96, ↓zthen_v, ↓zthen_0, zU_eq, zU_nc, zU_nj, m1, m2, m3, ← t5, m6]
        · refine ⟨(bitA σ1 i), σ1, τ1, ?_, ?_, R1, F1, F2⟩
          · rw [S_X6_adjusted]
            simp (disch := first | exact z_tt rfl | assumption | omega | (simp (disch := omega) only [zU_eq, zU_nc, zU_nj]; omega)) only [↓L_ald_n0, ↓L_ild_n1, ↓L_ild_n2, ↓I_X6_areTwo_0, ↓r_ifeq_t, ↓r_ifeq_f, ↓J_X6_adjusted_18, ↓L_ild_n3, ↓r_iflt_t, ↓r_iflt_f, ↓r_iconst, ↓r_icle_t, ↓r_icle_f, ↓J_X6_adjusted_20, ↓r_ireturn, ↓F_g0_3, ↓F_g0_0, ↓F_g1_2, ↓F_g17_2, ↓F_g1_1, ↓F_g17_1, ↓I_X0_workOut_33, ↓r_ifne_t, ↓r_ifne_f, ↓J_X6_adjusted_49, ↓r_bipush, ↓r_tab, ↓W_X6_adjusted_50_0, ↓W_X6_adjusted_50_1, ↓W_X6_adjusted_50_2, ↓W_X6_adjusted_50_3, ↓W_X6_adjusted_50_d, ↓F_g33_5, ↓I_X6_orNoSuch, ↓I_X0_bitsOf_33, ↓F_g33_4, ↓F_g33_2, ↓U_X6_adjusted_0, ↓U_X6_adjusted_18, ↓U_X6_adjusted_20, ↓U_X6_adjusted_49, ↓U_X6_adjusted_80, ↓U_X6_adjusted_91, ↓U_X6_adjusted_100, ↓U_X6_adjusted_109, ↓U_X6_adjusted_117, ↓zthen_v, ↓zthen_0, zU_eq, zU_nc, zU_nj, c1, c3, c4]
          · rw [S_X7_adjusted]
            simp (disch := first | exact z_tt rfl | assumption | omega | (simp (disch := omega) only [zU_eq, zU_nc, zU_nj]; omega)) only [↓L_ald_n0, ↓L_ild_n1, ↓L_ild_n2, ↓I_X7_areTwo_60, ↓r_ifeq_t, ↓r_ifeq_f, ↓J_X7_adjusted_21, ↓L_ild_n3, ↓r_i2l, ↓r_lconst, ↓r_ldc2w, ↓I_X7_in, ↓r_ifne_t, ↓r_ifne_f, ↓J_X7_adjusted_23, ↓r_iconst, ↓r_ireturn, ↓I_X7_adjusts_60, ↓J_X7_adjusted_35, ↓r_bipush, ↓r_tab, ↓W_X7_adjusted_36_0, ↓W_X7_adjusted_36_1, ↓W_X7_adjusted_36_2, ↓W_X7_adjusted_36_3, ↓W_X7_adjusted_36_d, ↓F_g60_5, ↓I_X7_orNobody, ↓r_icne_t, ↓r_icne_f, ↓J_X7_adjusted_86, ↓r_goto, ↓J_X7_adjusted_87, ↓I_X7_bitsSo_60, ↓F_g60_8, ↓F_g60_9, ↓U_X7_adjusted_0, ↓U_X7_adjusted_21, ↓U_X7_adjusted_23, ↓U_X7_adjusted_35, ↓U_X7_adjusted_68, ↓U_X7_adjusted_76, ↓U_X7_adjusted_86, ↓U_X7_adjusted_87, ↓U_X7_adjusted_91, ↓U_X7_adjusted_96, ↓zthen_v, ↓zthen_0, zU_eq, zU_nc, zU_nj, m1, m2, m3, m4]
        · refine ⟨(bitA σ1 j), σ1, τ1, ?_, ?_, R1, F1, F2⟩
          · rw [S_X6_adjusted]
            simp (disch := first | exact z_tt rfl | assumption | omega | (simp (disch := omega) only [zU_eq, zU_nc, zU_nj]; omega)) only [↓L_ald_n0, ↓L_ild_n1, ↓L_ild_n2, ↓I_X6_areTwo_0, ↓r_ifeq_t, ↓r_ifeq_f, ↓J_X6_adjusted_18, ↓L_ild_n3, ↓r_iflt_t, ↓r_iflt_f, ↓r_iconst, ↓r_icle_t, ↓r_icle_f, ↓J_X6_adjusted_20, ↓r_ireturn, ↓F_g0_3, ↓F_g0_0, ↓F_g1_2, ↓F_g17_2, ↓F_g1_1, ↓F_g17_1, ↓I_X0_workOut_33, ↓r_ifne_t, ↓r_ifne_f, ↓J_X6_adjusted_49, ↓r_bipush, ↓r_tab, ↓W_X6_adjusted_50_0, ↓W_X6_adjusted_50_1, ↓W_X6_adjusted_50_2, ↓W_X6_adjusted_50_3, ↓W_X6_adjusted_50_d, ↓F_g33_5, ↓I_X6_orNoSuch, ↓I_X0_bitsOf_33, ↓F_g33_4, ↓F_g33_2, ↓U_X6_adjusted_0, ↓U_X6_adjusted_18, ↓U_X6_adjusted_20, ↓U_X6_adjusted_49, ↓U_X6_adjusted_80, ↓U_X6_adjusted_91, ↓U_X6_adjusted_100, ↓U_X6_adjusted_109, ↓U_X6_adjusted_117, ↓zthen_v, ↓zthen_0, zU_eq, zU_nc, zU_nj, c1, c3, c5]
          · rw [S_X7_adjusted]
            simp (disch := first | exact z_tt rfl | assumption | omega | (simp (disch := omega) only [zU_eq, zU_nc, zU_nj]; omega)) only [↓L_ald_n0, ↓L_ild_n1, ↓L_ild_n2, ↓I_X7_areTwo_60, ↓r_ifeq_t, ↓r_ifeq_f, ↓J_X7_adjusted_21, ↓L_ild_n3, ↓r_i2l, ↓r_lconst, ↓r_ldc2w, ↓I_X7_in, ↓r_ifne_t, ↓r_ifne_f, ↓J_X7_adjusted_23, ↓r_iconst, ↓r_ireturn, ↓I_X7_adjusts_60, ↓J_X7_adjusted_35, ↓r_bipush, ↓r_tab, ↓W_X7_adjusted_36_0, ↓W_X7_adjusted_36_1, ↓W_X7_adjusted_36_2, ↓W_X7_adjusted_36_3, ↓W_X7_adjusted_36_d, ↓F_g60_5, ↓I_X7_orNobody, ↓r_icne_t, ↓r_icne_f, ↓J_X7_adjusted_86, ↓r_goto, ↓J_X7_adjusted_87, ↓I_X7_bitsSo_60, ↓F_g60_8, ↓F_g60_9, ↓U_X7_adjusted_0, ↓U_X7_adjusted_21, ↓U_X7_adjusted_23, ↓U_X7_adjusted_35, ↓U_X7_adjusted_68, ↓U_X7_adjusted_76, ↓U_X7_adjusted_86, ↓U_X7_adjusted_87, ↓U_X7_adjusted_91, ↓U_X7_adjusted_96, ↓zthen_v, ↓zthen_0, zU_eq, zU_nc, zU_nj, m1, m2, m3, m5]
        · refine ⟨(σ1 33 4), σ1, τ1, ?_, ?_, R1, F1, F2⟩
          · rw [S_X6_adjusted]
            simp (disch := first | exact z_tt rfl | assumption | omega | (simp (disch := omega) only [zU_eq, zU_nc, zU_nj]; omega)) only [↓L_ald_n0, ↓L_ild_n1, ↓L_ild_n2, ↓I_X6_areTwo_0, ↓r_ifeq_t, ↓r_ifeq_f, ↓J_X6_adjusted_18, ↓L_ild_n3, ↓r_iflt_t, ↓r_iflt_f, ↓r_iconst, ↓r_icle_t, ↓r_icle_f, ↓J_X6_adjusted_20, ↓r_ireturn, ↓F_g0_3, ↓F_g0_0, ↓F_g1_2, ↓F_g17_2, ↓F_g1_1, ↓F_g17_1, ↓I_X0_workOut_33, ↓r_ifne_t, ↓r_ifne_f, ↓J_X6_adjusted_49, ↓r_bipush, ↓r_tab, ↓W_X6_adjusted_50_0, ↓W_X6_adjusted_50_1, ↓W_X6_adjusted_50_2, ↓W_X6_adjusted_50_3, ↓W_X6_adjusted_50_d, ↓F_g33_5, ↓I_X6_orNoSuch, ↓I_X0_bitsOf_33, ↓F_g33_4, ↓F_g33_2, ↓U_X6_adjusted_0, ↓U_X6_adjusted_18, ↓U_X6_adjusted_20, ↓U_X6_adjusted_49, ↓U_X6_adjusted_80, ↓U_X6_adjusted_91, ↓U_X6_adjusted_100, ↓U_X6_adjusted_109, ↓U_X6_adjusted_117, ↓zthen_v, ↓zthen_0, zU_eq, zU_nc, zU_nj, c1, c3]
          · rw [S_X7_adjusted]
            simp (disch := first | exact z_tt rfl | assumption | omega | (simp (disch := omega) only [zU_eq, zU_nc, zU_nj]; omega)) only [↓L_ald_n0, ↓L_ild_n1, ↓L_ild_n2, ↓I_X7_areTwo_60, ↓r_ifeq_t, ↓r_ifeq_f, ↓J_X7_adjusted_21, ↓L_ild_n3, ↓r_i2l, ↓r_lconst, ↓r_ldc2w, ↓I_X7_in, ↓r_ifne_t, ↓r_ifne_f, ↓J_X7_adjusted_23, ↓r_iconst, ↓r_ireturn, ↓I_X7_adjusts_60, ↓J_X7_adjusted_35, ↓r_bipush, ↓r_tab, ↓W_X7_adjusted_36_0, ↓W_X7_adjusted_36_1, ↓W_X7_adjusted_36_2, ↓W_X7_adjusted_36_3, ↓W_X7_adjusted_36_d, ↓F_g60_5, ↓I_X7_orNobody, ↓r_icne_t, ↓r_icne_f, ↓J_X7_adjusted_86, ↓r_goto, ↓J_X7_adjusted_87, ↓I_X7_bitsSo_60, ↓F_g60_8, ↓F_g60_9, ↓U_X7_adjusted_0, ↓U_X7_adjusted_21, ↓U_X7_adjusted_23, ↓U_X7_adjusted_35, ↓U_X7_adjusted_68, ↓U_X7_adjusted_76, ↓U_X7_adjusted_86, ↓U_X7_adjusted_87, ↓U_X7_adjusted_91, ↓U_X7_adjusted_96, ↓zthen_v, ↓zthen_0, zU_eq, zU_nc, zU_nj, m1, m2, m3, ← t4]
        · refine ⟨(orN (σ1 33 2)), σ1, τ1, ?_, ?_, R1, F1, F2⟩
          · rw [S_X6_adjusted]
            simp (disch := first | exact z_tt rfl | assumption | omega | (simp (disch := omega) only [zU_eq, zU_nc, zU_nj]; omega)) only [↓L_ald_n0, ↓L_ild_n1, ↓L_ild_n2, ↓I_X6_areTwo_0, ↓r_ifeq_t, ↓r_ifeq_f, ↓J_X6_adjusted_18, ↓L_ild_n3, ↓r_iflt_t, ↓r_iflt_f, ↓r_iconst, ↓r_icle_t, ↓r_icle_f, ↓J_X6_adjusted_20, ↓r_ireturn, ↓F_g0_3, ↓F_g0_0, ↓F_g1_2, ↓F_g17_2, ↓F_g1_1, ↓F_g17_1, ↓I_X0_workOut_33, ↓r_ifne_t, ↓r_ifne_f, ↓J_X6_adjusted_49, ↓r_bipush, ↓r_tab, ↓W_X6_adjusted_50_0, ↓W_X6_adjusted_50_1, ↓W_X6_adjusted_50_2, ↓W_X6_adjusted_50_3, ↓W_X6_adjusted_50_d, ↓F_g33_5, ↓I_X6_orNoSuch, ↓I_X0_bitsOf_33, ↓F_g33_4, ↓F_g33_2, ↓U_X6_adjusted_0, ↓U_X6_adjusted_18, ↓U_X6_adjusted_20, ↓U_X6_adjusted_49, ↓U_X6_adjusted_80, ↓U_X6_adjusted_91, ↓U_X6_adjusted_100, ↓U_X6_adjusted_109, ↓U_X6_adjusted_117, ↓zthen_v, ↓zthen_0, zU_eq, zU_nc, zU_nj, c1, c3, c7]
          · rw [S_X7_adjusted]
            simp (disch := first | exact z_tt rfl | assumption | omega | (simp (disch := omega) only [zU_eq, zU_nc, zU_nj]; omega)) only [↓L_ald_n0, ↓L_ild_n1, ↓L_ild_n2, ↓I_X7_areTwo_60, ↓r_ifeq_t, ↓r_ifeq_f, ↓J_X7_adjusted_21, ↓L_ild_n3, ↓r_i2l, ↓r_lconst, ↓r_ldc2w, ↓I_X7_in, ↓r_ifne_t, ↓r_ifne_f, ↓J_X7_adjusted_23, ↓r_iconst, ↓r_ireturn, ↓I_X7_adjusts_60, ↓J_X7_adjusted_35, ↓r_bipush, ↓r_tab, ↓W_X7_adjusted_36_0, ↓W_X7_adjusted_36_1, ↓W_X7_adjusted_36_2, ↓W_X7_adjusted_36_3, ↓W_X7_adjusted_36_d, ↓F_g60_5, ↓I_X7_orNobody, ↓r_icne_t, ↓r_icne_f, ↓J_X7_adjusted_86, ↓r_goto, ↓J_X7_adjusted_87, ↓I_X7_bitsSo_60, ↓F_g60_8, ↓F_g60_9, ↓U_X7_adjusted_0, ↓U_X7_adjusted_21, ↓U_X7_adjusted_23, ↓U_X7_adjusted_35, ↓U_X7_adjusted_68, ↓U_X7_adjusted_76, ↓U_X7_adjusted_86, ↓U_X7_adjusted_87, ↓U_X7_adjusted_91, ↓U_X7_adjusted_96, ↓zthen_v, ↓zthen_0, zU_eq, zU_nc, zU_nj, m1, m2, m3, ← t2, m7]
    · have m2 := m_in_f (σ := τ) (v := w) (lo := 0) (hi := 4) (by omega)
      refine SameA_id R (-1) ?_ ?_
      · rw [S_X6_adjusted]
        by_cases q3 : w < 0
        · simp (disch := first | exact z_tt rfl | assumption | omega | (simp (disch := omega) only [zU_eq, zU_nc, zU_nj]; omega)) only [↓L_ald_n0, ↓L_ild_n1, ↓L_ild_n2, ↓I_X6_areTwo_0, ↓r_ifeq_t, ↓r_ifeq_f, ↓J_X6_adjusted_18, ↓L_ild_n3, ↓r_iflt_t, ↓r_iflt_f, ↓r_iconst, ↓r_icle_t, ↓r_icle_f, ↓J_X6_adjusted_20, ↓r_ireturn, ↓F_g0_3, ↓F_g0_0, ↓F_g1_2, ↓F_g17_2, ↓F_g1_1, ↓F_g17_1, ↓I_X0_workOut_33, ↓r_ifne_t, ↓r_ifne_f, ↓J_X6_adjusted_49, ↓r_bipush, ↓r_tab, ↓W_X6_adjusted_50_0, ↓W_X6_adjusted_50_1, ↓W_X6_adjusted_50_2, ↓W_X6_adjusted_50_3, ↓W_X6_adjusted_50_d, ↓F_g33_5, ↓I_X6_orNoSuch, ↓I_X0_bitsOf_33, ↓F_g33_4, ↓F_g33_2, ↓U_X6_adjusted_0, ↓U_X6_adjusted_18, ↓U_X6_adjusted_20, ↓U_X6_adjusted_49, ↓U_X6_adjusted_80, ↓U_X6_adjusted_91, ↓U_X6_adjusted_100, ↓U_X6_adjusted_109, ↓U_X6_adjusted_117, ↓zthen_v, ↓zthen_0, zU_eq, zU_nc, zU_nj, c1]
        · simp (disch := first | exact z_tt rfl | assumption | omega | (simp (disch := omega) only [zU_eq, zU_nc, zU_nj]; omega)) only [↓L_ald_n0, ↓L_ild_n1, ↓L_ild_n2, ↓I_X6_areTwo_0, ↓r_ifeq_t, ↓r_ifeq_f, ↓J_X6_adjusted_18, ↓L_ild_n3, ↓r_iflt_t, ↓r_iflt_f, ↓r_iconst, ↓r_icle_t, ↓r_icle_f, ↓J_X6_adjusted_20, ↓r_ireturn, ↓F_g0_3, ↓F_g0_0, ↓F_g1_2, ↓F_g17_2, ↓F_g1_1, ↓F_g17_1, ↓I_X0_workOut_33, ↓r_ifne_t, ↓r_ifne_f, ↓J_X6_adjusted_49, ↓r_bipush, ↓r_tab, ↓W_X6_adjusted_50_0, ↓W_X6_adjusted_50_1, ↓W_X6_adjusted_50_2, ↓W_X6_adjusted_50_3, ↓W_X6_adjusted_50_d, ↓F_g33_5, ↓I_X6_orNoSuch, ↓I_X0_bitsOf_33, ↓F_g33_4, ↓F_g33_2, ↓U_X6_adjusted_0, ↓U_X6_adjusted_18, ↓U_X6_adjusted_20, ↓U_X6_adjusted_49, ↓U_X6_adjusted_80, ↓U_X6_adjusted_91, ↓U_X6_adjusted_100, ↓U_X6_adjusted_109, ↓U_X6_adjusted_117, ↓zthen_v, ↓zthen_0, zU_eq, zU_nc, zU_nj, c1]
      · rw [S_X7_adjusted]
        simp (disch := first | exact z_tt rfl | assumption | omega | (simp (disch := omega) only [zU_eq, zU_nc, zU_nj]; omega)) only [↓L_ald_n0, ↓L_ild_n1, ↓L_ild_n2, ↓I_X7_areTwo_60, ↓r_ifeq_t, ↓r_ifeq_f, ↓J_X7_adjusted_21, ↓L_ild_n3, ↓r_i2l, ↓r_lconst, ↓r_ldc2w, ↓I_X7_in, ↓r_ifne_t, ↓r_ifne_f, ↓J_X7_adjusted_23, ↓r_iconst, ↓r_ireturn, ↓I_X7_adjusts_60, ↓J_X7_adjusted_35, ↓r_bipush, ↓r_tab, ↓W_X7_adjusted_36_0, ↓W_X7_adjusted_36_1, ↓W_X7_adjusted_36_2, ↓W_X7_adjusted_36_3, ↓W_X7_adjusted_36_d, ↓F_g60_5, ↓I_X7_orNobody, ↓r_icne_t, ↓r_icne_f, ↓J_X7_adjusted_86, ↓r_goto, ↓J_X7_adjusted_87, ↓I_X7_bitsSo_60, ↓F_g60_8, ↓F_g60_9, ↓U_X7_adjusted_0, ↓U_X7_adjusted_21, ↓U_X7_adjusted_23, ↓U_X7_adjusted_35, ↓U_X7_adjusted_68, ↓U_X7_adjusted_76, ↓U_X7_adjusted_86, ↓U_X7_adjusted_87, ↓U_X7_adjusted_91, ↓U_X7_adjusted_96, ↓zthen_v, ↓zthen_0, zU_eq, zU_nc, zU_nj, m1, m2]
  · have c1 := c_X6_areTwo_f (σ := σ) (i := i) (j := j) (by omega) (by omega)
    have m1 := m_areTwo_f (σ := τ) (i := i) (j := j) (by omega) (by omega)
    refine SameA_id R (-1) ?_ ?_
    · rw [S_X6_adjusted]
      simp (disch := first | exact z_tt rfl | assumption | omega | (simp (disch := omega) only [zU_eq, zU_nc, zU_nj]; omega)) only [↓L_ald_n0, ↓L_ild_n1, ↓L_ild_n2, ↓I_X6_areTwo_0, ↓r_ifeq_t, ↓r_ifeq_f, ↓J_X6_adjusted_18, ↓L_ild_n3, ↓r_iflt_t, ↓r_iflt_f, ↓r_iconst, ↓r_icle_t, ↓r_icle_f, ↓J_X6_adjusted_20, ↓r_ireturn, ↓F_g0_3, ↓F_g0_0, ↓F_g1_2, ↓F_g17_2, ↓F_g1_1, ↓F_g17_1, ↓I_X0_workOut_33, ↓r_ifne_t, ↓r_ifne_f, ↓J_X6_adjusted_49, ↓r_bipush, ↓r_tab, ↓W_X6_adjusted_50_0, ↓W_X6_adjusted_50_1, ↓W_X6_adjusted_50_2, ↓W_X6_adjusted_50_3, ↓W_X6_adjusted_50_d, ↓F_g33_5, ↓I_X6_orNoSuch, ↓I_X0_bitsOf_33, ↓F_g33_4, ↓F_g33_2, ↓U_X6_adjusted_0, ↓U_X6_adjusted_18, ↓U_X6_adjusted_20, ↓U_X6_adjusted_49, ↓U_X6_adjusted_80, ↓U_X6_adjusted_91, ↓U_X6_adjusted_100, ↓U_X6_adjusted_109, ↓U_X6_adjusted_117, ↓zthen_v, ↓zthen_0, zU_eq, zU_nc, zU_nj, c1]
    · rw [S_X7_adjusted]
      simp (disch := first | exact z_tt rfl | assumption | omega | (simp (disch := omega) only [zU_eq, zU_nc, zU_nj]; omega)) only [↓L_ald_n0, ↓L_ild_n1, ↓L_ild_n2, ↓I_X7_areTwo_60, ↓r_ifeq_t, ↓r_ifeq_f, ↓J_X7_adjusted_21, ↓L_ild_n3, ↓r_i2l, ↓r_lconst, ↓r_ldc2w, ↓I_X7_in, ↓r_ifne_t, ↓r_ifne_f, ↓J_X7_adjusted_23, ↓r_iconst, ↓r_ireturn, ↓I_X7_adjusts_60, ↓J_X7_adjusted_35, ↓r_bipush, ↓r_tab, ↓W_X7_adjusted_36_0, ↓W_X7_adjusted_36_1, ↓W_X7_adjusted_36_2, ↓W_X7_adjusted_36_3, ↓W_X7_adjusted_36_d, ↓F_g60_5, ↓I_X7_orNobody, ↓r_icne_t, ↓r_icne_f, ↓J_X7_adjusted_86, ↓r_goto, ↓J_X7_adjusted_87, ↓I_X7_bitsSo_60, ↓F_g60_8, ↓F_g60_9, ↓U_X7_adjusted_0, ↓U_X7_adjusted_21, ↓U_X7_adjusted_23, ↓U_X7_adjusted_35, ↓U_X7_adjusted_68, ↓U_X7_adjusted_76, ↓U_X7_adjusted_86, ↓U_X7_adjusted_87, ↓U_X7_adjusted_91, ↓U_X7_adjusted_96, ↓zthen_v, ↓zthen_0, zU_eq, zU_nc, zU_nj, m1]
set_option maxRecDepth 20000 in
set_option maxHeartbeats 4000000 in
theorem op_alike {σ τ : zM} {i j w : Int} (R : RelA σ τ) (hi : -2147483648 ≤ i ∧ i < 2147483648) (hj : -2147483648 ≤ j ∧ j < 2147483648) (hw : -2147483648 ≤ w ∧ w < 2147483648) : SameA vL σ τ (zcall 64 [vR 0, vI i, vI j, vI w] σ) (zcall 154 [vR 60, vI i, vI j, vI w] τ) := by
  have hn := R.1.n
  have hm := R.1.m
  by_cases q1 : 0 ≤ i ∧ i < σ 1 0 ∧ 0 ≤ j ∧ j < σ 1 0 ∧ (i < j ∨ j < i)
  · have c1 := c_X6_areTwo_t (σ := σ) (i := i) (j := j) q1 (by omega)
    have m1 := m_areTwo_t (σ := τ) (i := i) (j := j) (by omega) (by omega)
    by_cases q2 : 0 ≤ w ∧ w ≤ 1
    · have c2 := c_X6_isPart_t (σ := σ) (p := w) q2
      have m2 := m_isPart_t (σ := τ) (p := w) q2
      rcases wo_now R (i := i) (j := j) (by omega) (by omega) (by omega) with ⟨σ1, c3, m3, R1, F1⟩ | ⟨σ1, τ1, c3, m3, R1, F1, F2, A, h331⟩
      · refine ⟨(-9223372036854775808), σ1, τ, ?_, ?_, R1, F1, fun _ _ _ => rfl⟩
        · rw [S_X6_alike]
          simp (disch := first | exact z_tt rfl | assumption | omega | (simp (disch := omega) only [zU_eq, zU_nc, zU_nj]; omega)) only [↓L_ald_n0, ↓L_ild_n1, ↓L_ild_n2, ↓I_X6_areTwo_0, ↓r_ifeq_t, ↓r_ifeq_f, ↓J_X6_alike_42, ↓L_ild_n3, ↓I_X6_isPart, ↓F_g0_3, ↓F_g0_0, ↓F_g1_2, ↓F_g17_2, ↓F_g1_1, ↓F_g17_1, ↓I_X0_workOut_33, ↓r_ifne_t, ↓r_ifne_f, ↓J_X6_alike_46, ↓r_ldc2w, ↓r_lreturn, ↓F_g33_8, ↓F_g33_9, ↓I_X6_inLowestTerms, ↓U_X6_alike_0, ↓U_X6_alike_42, ↓U_X6_alike_46, ↓zthen_v, ↓zthen_0, zU_eq, zU_nc, zU_nj, c1, c2, c3]
        · rw [S_X7_alike]
          simp (disch := first | exact z_tt rfl | assumption | omega | (simp (disch := omega) only [zU_eq, zU_nc, zU_nj]; omega)) only [↓L_ald_n0, ↓L_ild_n1, ↓L_ild_n2, ↓I_X7_areTwo_60, ↓r_ifeq_t, ↓r_ifeq_f, ↓J_X7_alike_34, ↓L_ild_n3, ↓I_X7_isPart, ↓I_X7_adjusts_60, ↓I_X7_alikeOf_60, ↓r_goto, ↓J_X7_alike_37, ↓r_ldc2w, ↓r_lreturn, ↓U_X7_alike_0, ↓U_X7_alike_34, ↓U_X7_alike_37, ↓zthen_v, ↓zthen_0, zU_eq, zU_nc, zU_nj, m1, m2, m3]
      · have A0 := A
        obtain ⟨a1, ⟨t4, t5, t6, t7, t2, t3⟩, a3, a4, l1, l2, l3, l4, l5⟩ := A0
        have m4 := m_alikeOf (s := σ1) (τ := τ1) (w := w) (Rel1_V1 R1.1) R1.2.2 (by rw [F2 61 1 (by omega)]; exact hm.2.2) (by omega) (by omega) A hw
        have c4 := c_X6_inLowestTerms (σ := σ1) (a := σ1 33 8) (b := σ1 33 9) (part := w) (by omega) (by omega) (by omega)
        refine ⟨(lowT (σ1 33 8) (σ1 33 9) w), σ1, τ1, ?_, ?_, R1, F1, F2⟩
        · rw [S_X6_alike]
          simp (disch := first | exact z_tt rfl | assumption | omega | (simp (disch := omega) only [zU_eq, zU_nc, zU_nj]; omega)) only [↓L_ald_n0, ↓L_ild_n1, ↓L_ild_n2, ↓I_X6_areTwo_0, ↓r_ifeq_t, ↓r_ifeq_f, ↓J_X6_alike_42, ↓L_ild_n3, ↓I_X6_isPart, ↓F_g0_3, ↓F_g0_0, ↓F_g1_2, ↓F_g17_2, ↓F_g1_1, ↓F_g17_1, ↓I_X0_workOut_33, ↓r_ifne_t, ↓r_ifne_f, ↓J_X6_alike_46, ↓r_ldc2w, ↓r_lreturn, ↓F_g33_8, ↓F_g33_9, ↓I_X6_inLowestTerms, ↓U_X6_alike_0, ↓U_X6_alike_42, ↓U_X6_alike_46, ↓zthen_v, ↓zthen_0, zU_eq, zU_nc, zU_nj, c1, c2, c3, c4]
        · rw [S_X7_alike]
          simp (disch := first | exact z_tt rfl | assumption | omega | (simp (disch := omega) only [zU_eq, zU_nc, zU_nj]; omega)) only [↓L_ald_n0, ↓L_ild_n1, ↓L_ild_n2, ↓I_X7_areTwo_60, ↓r_ifeq_t, ↓r_ifeq_f, ↓J_X7_alike_34, ↓L_ild_n3, ↓I_X7_isPart, ↓I_X7_adjusts_60, ↓I_X7_alikeOf_60, ↓r_goto, ↓J_X7_alike_37, ↓r_ldc2w, ↓r_lreturn, ↓U_X7_alike_0, ↓U_X7_alike_34, ↓U_X7_alike_37, ↓zthen_v, ↓zthen_0, zU_eq, zU_nc, zU_nj, m1, m2, m3, m4]
    · have c2 := c_X6_isPart_f (σ := σ) (p := w) (by omega)
      have m2 := m_isPart_f (σ := τ) (p := w) (by omega)
      refine SameA_id R (-9223372036854775808) ?_ ?_
      · rw [S_X6_alike]
        simp (disch := first | exact z_tt rfl | assumption | omega | (simp (disch := omega) only [zU_eq, zU_nc, zU_nj]; omega)) only [↓L_ald_n0, ↓L_ild_n1, ↓L_ild_n2, ↓I_X6_areTwo_0, ↓r_ifeq_t, ↓r_ifeq_f, ↓J_X6_alike_42, ↓L_ild_n3, ↓I_X6_isPart, ↓F_g0_3, ↓F_g0_0, ↓F_g1_2, ↓F_g17_2, ↓F_g1_1, ↓F_g17_1, ↓I_X0_workOut_33, ↓r_ifne_t, ↓r_ifne_f, ↓J_X6_alike_46, ↓r_ldc2w, ↓r_lreturn, ↓F_g33_8, ↓F_g33_9, ↓I_X6_inLowestTerms, ↓U_X6_alike_0, ↓U_X6_alike_42, ↓U_X6_alike_46, ↓zthen_v, ↓zthen_0, zU_eq, zU_nc, zU_nj, c1, c2]
      · rw [S_X7_alike]
        simp (disch := first | exact z_tt rfl | assumption | omega | (simp (disch := omega) only [zU_eq, zU_nc, zU_nj]; omega)) only [↓L_ald_n0, ↓L_ild_n1, ↓L_ild_n2, ↓I_X7_areTwo_60, ↓r_ifeq_t, ↓r_ifeq_f, ↓J_X7_alike_34, ↓L_ild_n3, ↓I_X7_isPart, ↓I_X7_adjusts_60, ↓I_X7_alikeOf_60, ↓r_goto, ↓J_X7_alike_37, ↓r_ldc2w, ↓r_lreturn, ↓U_X7_alike_0, ↓U_X7_alike_34, ↓U_X7_alike_37, ↓zthen_v, ↓zthen_0, zU_eq, zU_nc, zU_nj, m1, m2]
  · have c1 := c_X6_areTwo_f (σ := σ) (i := i) (j := j) (by omega) (by omega)
    have m1 := m_areTwo_f (σ := τ) (i := i) (j := j) (by omega) (by omega)
    refine SameA_id R (-9223372036854775808) ?_ ?_
    · rw [S_X6_alike]
      simp (disch := first | exact z_tt rfl | assumption | omega | (simp (disch := omega) only [zU_eq, zU_nc, zU_nj]; omega)) only [↓L_ald_n0, ↓L_ild_n1, ↓L_ild_n2, ↓I_X6_areTwo_0, ↓r_ifeq_t, ↓r_ifeq_f, ↓J_X6_alike_42, ↓L_ild_n3, ↓I_X6_isPart, ↓F_g0_3, ↓F_g0_0, ↓F_g1_2, ↓F_g17_2, ↓F_g1_1, ↓F_g17_1, ↓I_X0_workOut_33, ↓r_ifne_t, ↓r_ifne_f, ↓J_X6_alike_46, ↓r_ldc2w, ↓r_lreturn, ↓F_g33_8, ↓F_g33_9, ↓I_X6_inLowestTerms, ↓U_X6_alike_0, ↓U_X6_alike_42, ↓U_X6_alike_46, ↓zthen_v, ↓zthen_0, zU_eq, zU_nc, zU_nj, c1]
    · rw [S_X7_alike]
      simp (disch := first | exact z_tt rfl | assumption | omega | (simp (disch := omega) only [zU_eq, zU_nc, zU_nj]; omega)) only [↓L_ald_n0, ↓L_ild_n1, ↓L_ild_n2, ↓I_X7_areTwo_60, ↓r_ifeq_t, ↓r_ifeq_f, ↓J_X7_alike_34, ↓L_ild_n3, ↓I_X7_isPart, ↓I_X7_adjusts_60, ↓I_X7_alikeOf_60, ↓r_goto, ↓J_X7_alike_37, ↓r_ldc2w, ↓r_lreturn, ↓U_X7_alike_0, ↓U_X7_alike_34, ↓U_X7_alike_37, ↓zthen_v, ↓zthen_0, zU_eq, zU_nc, zU_nj, m1]
set_option maxRecDepth 20000 in
set_option maxHeartbeats 4000000 in
theorem op_parted {σ τ : zM} {i j w : Int} (R : RelA σ τ) (hi : -2147483648 ≤ i ∧ i < 2147483648) (hj : -2147483648 ≤ j ∧ j < 2147483648) (hw : -2147483648 ≤ w ∧ w < 2147483648) : SameA vL σ τ (zcall 65 [vR 0, vI i, vI j, vI w] σ) (zcall 155 [vR 60, vI i, vI j, vI w] τ) := by
  have hn := R.1.n
  have hm := R.1.m
  by_cases q1 : 0 ≤ i ∧ i < σ 1 0 ∧ 0 ≤ j ∧ j < σ 1 0 ∧ (i < j ∨ j < i)
  · have c1 := c_X6_areTwo_t (σ := σ) (i := i) (j := j) q1 (by omega)
    have m1 := m_areTwo_t (σ := τ) (i := i) (j := j) (by omega) (by omega)
    by_cases q2 : 0 ≤ w ∧ w ≤ 1
    · have c2 := c_X6_isPart_t (σ := σ) (p := w) q2
      have m2 := m_isPart_t (σ := τ) (p := w) q2
      rcases wo_now R (i := i) (j := j) (by omega) (by omega) (by omega) with ⟨σ1, c3, m3, R1, F1⟩ | ⟨σ1, τ1, c3, m3, R1, F1, F2, A, h331⟩
      · refine ⟨(-9223372036854775808), σ1, τ, ?_, ?_, R1, F1, fun _ _ _ => rfl⟩
        · rw [S_X6_parted]
          simp (disch := first | exact z_tt rfl | assumption | omega | (simp (disch := omega) only [zU_eq, zU_nc, zU_nj]; omega)) only [↓L_ald_n0, ↓L_ild_n1, ↓L_ild_n2, ↓I_X6_areTwo_0, ↓r_ifeq_t, ↓r_ifeq_f, ↓J_X6_parted_42, ↓L_ild_n3, ↓I_X6_isPart, ↓F_g0_3, ↓F_g0_0, ↓F_g1_2, ↓F_g17_2, ↓F_g1_1, ↓F_g17_1, ↓I_X0_workOut_33, ↓r_ifne_t, ↓r_ifne_f, ↓J_X6_parted_46, ↓r_ldc2w, ↓r_lreturn, ↓F_g33_6, ↓F_g33_7, ↓I_X6_inLowestTerms, ↓U_X6_parted_0, ↓U_X6_parted_42, ↓U_X6_parted_46, ↓zthen_v, ↓zthen_0, zU_eq, zU_nc, zU_nj, c1, c2, c3]
        · rw [S_X7_parted]
          simp (disch := first | exact z_tt rfl | assumption | omega | (simp (disch := omega) only [zU_eq, zU_nc, zU_nj]; omega)) only [↓L_ald_n0, ↓L_ild_n1, ↓L_ild_n2, ↓I_X7_areTwo_60, ↓r_ifeq_t, ↓r_ifeq_f, ↓J_X7_parted_40, ↓L_ild_n3, ↓I_X7_isPart, ↓I_X7_adjusts_60, ↓F_g60_6, ↓F_g60_7, ↓I_X7_lowest, ↓r_goto, ↓J_X7_parted_43, ↓r_ldc2w, ↓r_lreturn, ↓U_X7_parted_0, ↓U_X7_parted_40, ↓U_X7_parted_43, ↓zthen_v, ↓zthen_0, zU_eq, zU_nc, zU_nj, m1, m2, m3]
      · obtain ⟨a1, ⟨t4, t5, t6, t7, t2, t3⟩, a3, a4, a5⟩ := A
        have m4 := m_lowest (σ := τ1) (a := τ1 60 6) (b := τ1 60 7) (part := w) (by omega) (by omega) (by omega)
        have c4 := c_X6_inLowestTerms (σ := σ1) (a := σ1 33 6) (b := σ1 33 7) (part := w) (by omega) (by omega) (by omega)
        rw [← t6, ← t7] at m4
        refine ⟨(lowT (σ1 33 6) (σ1 33 7) w), σ1, τ1, ?_, ?_, R1, F1, F2⟩
        · rw [S_X6_parted]
          simp (disch := first | exact z_tt rfl | assumption | omega | (simp (disch := omega) only [zU_eq, zU_nc, zU_nj]; omega)) only [↓L_ald_n0, ↓L_ild_n1, ↓L_ild_n2, ↓I_X6_areTwo_0, ↓r_ifeq_t, ↓r_ifeq_f, ↓J_X6_parted_42, ↓L_ild_n3, ↓I_X6_isPart, ↓F_g0_3, ↓F_g0_0, ↓F_g1_2, ↓F_g17_2, ↓F_g1_1, ↓F_g17_1, ↓I_X0_workOut_33, ↓r_ifne_t, ↓r_ifne_f, ↓J_X6_parted_46, ↓r_ldc2w, ↓r_lreturn, ↓F_g33_6, ↓F_g33_7, ↓I_X6_inLowestTerms, ↓U_X6_parted_0, ↓U_X6_parted_42, ↓U_X6_parted_46, ↓zthen_v, ↓zthen_0, zU_eq, zU_nc, zU_nj, c1, c2, c3, c4]
        · rw [S_X7_parted]
          simp (disch := first | exact z_tt rfl | assumption | omega | (simp (disch := omega) only [zU_eq, zU_nc, zU_nj]; omega)) only [↓L_ald_n0, ↓L_ild_n1, ↓L_ild_n2, ↓I_X7_areTwo_60, ↓r_ifeq_t, ↓r_ifeq_f, ↓J_X7_parted_40, ↓L_ild_n3, ↓I_X7_isPart, ↓I_X7_adjusts_60, ↓F_g60_6, ↓F_g60_7, ↓I_X7_lowest, ↓r_goto, ↓J_X7_parted_43, ↓r_ldc2w, ↓r_lreturn, ↓U_X7_parted_0, ↓U_X7_parted_40, ↓U_X7_parted_43, ↓zthen_v, ↓zthen_0, zU_eq, zU_nc, zU_nj, m1, m2, m3, ← t6, ← t7, m4]
    · have c2 := c_X6_isPart_f (σ := σ) (p := w) (by omega)
      have m2 := m_isPart_f (σ := τ) (p := w) (by omega)
      refine SameA_id R (-9223372036854775808) ?_ ?_
      · rw [S_X6_parted]
        simp (disch := first | exact z_tt rfl | assumption | omega | (simp (disch := omega) only [zU_eq, zU_nc, zU_nj]; omega)) only [↓L_ald_n0, ↓L_ild_n1, ↓L_ild_n2, ↓I_X6_areTwo_0, ↓r_ifeq_t, ↓r_ifeq_f, ↓J_X6_parted_42, ↓L_ild_n3, ↓I_X6_isPart, ↓F_g0_3, ↓F_g0_0, ↓F_g1_2, ↓F_g17_2, ↓F_g1_1, ↓F_g17_1, ↓I_X0_workOut_33, ↓r_ifne_t, ↓r_ifne_f, ↓J_X6_parted_46, ↓r_ldc2w, ↓r_lreturn, ↓F_g33_6, ↓F_g33_7, ↓I_X6_inLowestTerms, ↓U_X6_parted_0, ↓U_X6_parted_42, ↓U_X6_parted_46, ↓zthen_v, ↓zthen_0, zU_eq, zU_nc, zU_nj, c1, c2]
      · rw [S_X7_parted]
        simp (disch := first | exact z_tt rfl | assumption | omega | (simp (disch := omega) only [zU_eq, zU_nc, zU_nj]; omega)) only [↓L_ald_n0, ↓L_ild_n1, ↓L_ild_n2, ↓I_X7_areTwo_60, ↓r_ifeq_t, ↓r_ifeq_f, ↓J_X7_parted_40, ↓L_ild_n3, ↓I_X7_isPart, ↓I_X7_adjusts_60, ↓F_g60_6, ↓F_g60_7, ↓I_X7_lowest, ↓r_goto, ↓J_X7_parted_43, ↓r_ldc2w, ↓r_lreturn, ↓U_X7_parted_0, ↓U_X7_parted_40, ↓U_X7_parted_43, ↓zthen_v, ↓zthen_0, zU_eq, zU_nc, zU_nj, m1, m2]
  · have c1 := c_X6_areTwo_f (σ := σ) (i := i) (j := j) (by omega) (by omega)
    have m1 := m_areTwo_f (σ := τ) (i := i) (j := j) (by omega) (by omega)
    refine SameA_id R (-9223372036854775808) ?_ ?_
    · rw [S_X6_parted]
      simp (disch := first | exact z_tt rfl | assumption | omega | (simp (disch := omega) only [zU_eq, zU_nc, zU_nj]; omega)) only [↓L_ald_n0, ↓L_ild_n1, ↓L_ild_n2, ↓I_X6_areTwo_0, ↓r_ifeq_t, ↓r_ifeq_f, ↓J_X6_parted_42, ↓L_ild_n3, ↓I_X6_isPart, ↓F_g0_3, ↓F_g0_0, ↓F_g1_2, ↓F_g17_2, ↓F_g1_1, ↓F_g17_1, ↓I_X0_workOut_33, ↓r_ifne_t, ↓r_ifne_f, ↓J_X6_parted_46, ↓r_ldc2w, ↓r_lreturn, ↓F_g33_6, ↓F_g33_7, ↓I_X6_inLowestTerms, ↓U_X6_parted_0, ↓U_X6_parted_42, ↓U_X6_parted_46, ↓zthen_v, ↓zthen_0, zU_eq, zU_nc, zU_nj, c1]
    · rw [S_X7_parted]
      simp (disch := first | exact z_tt rfl | assumption | omega | (simp (disch := omega) only [zU_eq, zU_nc, zU_nj]; omega)) only [↓L_ald_n0, ↓L_ild_n1, ↓L_ild_n2, ↓I_X7_areTwo_60, ↓r_ifeq_t, ↓r_ifeq_f, ↓J_X7_parted_40, ↓L_ild_n3, ↓I_X7_isPart, ↓I_X7_adjusts_60, ↓F_g60_6, ↓F_g60_7, ↓I_X7_lowest, ↓r_goto, ↓J_X7_parted_43, ↓r_ldc2w, ↓r_lreturn, ↓U_X7_parted_0, ↓U_X7_parted_40, ↓U_X7_parted_43, ↓zthen_v, ↓zthen_0, zU_eq, zU_nc, zU_nj, m1]
