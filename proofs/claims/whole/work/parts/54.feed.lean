/-! the text's relation -/
def RelX (σ τ : zM) : Prop := TX σ ∧ TV τ ∧ τ 60 17 = σ 45 1 ∧ (∀ j : Int, 0 ≤ j → j < σ 45 1 → τ 67 j = σ 46 j)
theorem RelX_sgn {σ τ : zM} (R : RelX σ τ) : sgn (vw τ) = sgn σ := by
  funext i
  have h := R.2.2.1
  by_cases q : 0 ≤ i ∧ i < σ 45 1
  · rw [vsgn (by omega)]
    unfold sgn
    rw [if_pos q]
    exact R.2.2.2 i q.1 q.2
  · rw [vsgn_out (by omega)]
    unfold sgn
    rw [if_neg q]
theorem dig_congr {v w : zM} (h : sgn v = sgn w) : dig v = dig w := by
  funext i
  unfold dig
  rw [h]
theorem eoD_congr {v w : zM} (h : sgn v = sgn w) : ∀ (n : Nat) (j : Int), eoD v j n = eoD w j n := by
  intro n
  induction n with
  | zero => intro j; rfl
  | succ n ih => intro j; rw [eoD, eoD, dig_congr h, ih]
theorem eoc_congr {v w : zM} (h : sgn v = sgn w) (i : Int) : eoc v i = eoc w i := by
  unfold eoc eoE
  rw [h, dig_congr h, eoD_congr h]
theorem flt_congr {v w : zM} (h : sgn v = sgn w) (h2 : v 45 1 = w 45 1) : ∀ (n : Nat) (a : Int), flt v a n = flt w a n := by
  intro n
  induction n with
  | zero => intro a; rfl
  | succ n ih => intro a; rw [flt, flt, eoc_congr h, h2, h, ih]
theorem RelX_flt {σ τ : zM} (R : RelX σ τ) (n : Nat) (a : Int) : flt (vw τ) a n = flt σ a n := flt_congr (RelX_sgn R) R.2.2.1 n a
set_option maxRecDepth 20000 in
set_option maxHeartbeats 4000000 in
theorem op_feed {σ τ : zM} {x : Int} (R : RelX σ τ) (hx : -2147483648 ≤ x ∧ x < 2147483648) : ∃ r σ1 τ1, zcall 54 [vR 0, vI x] σ = some (some (vI r), σ1) ∧ zcall 164 [vR 60, vI x] τ = some (some (vI r), τ1) ∧ RelX σ1 τ1 ∧ (∀ c j, (c < 45 ∨ 46 < c) → σ1 c j = σ c j) ∧ (∀ c j, (c = 60 → ¬ j = 17) → ¬ c = 67 → τ1 c j = τ c j) := by
  have hT := R.1.1
  have hl := R.2.2.1
  by_cases q1 : 0 ≤ x ∧ x ≤ 127
  · by_cases q2 : σ 45 1 < 100
    · have ca := c_X4_append (σ := σ) (x := x) (by omega) q1
      refine ⟨σ 45 1 + 1, zU (zU σ 46 (σ 45 1) x) 45 1 (σ 45 1 + 1), zU (zU τ 67 (τ 60 17) x) 60 17 (τ 60 17 + 1), ?_, ?_, ⟨⟨?_, ?_⟩, ⟨?_, ?_⟩, ?_, ?_⟩, fun c j h => ?_, fun c j h h2 => ?_⟩
      · rw [S_X6_feed]
        simp (disch := first | exact z_tt rfl | assumption | omega | (simp (disch := omega) only [zU_eq, zU_nc, zU_nj]; omega)) only [↓L_ild_n1, ↓r_iflt_t, ↓r_iflt_f, ↓J_X6_feed_10, ↓r_bipush, ↓r_icle_t, ↓r_icle_f, ↓J_X6_feed_13, ↓r_ireturn, ↓L_ald_n0, ↓F_g0_6, ↓F_g45_1, ↓r_iclt_t, ↓r_iclt_f, ↓J_X6_feed_28, ↓I_X4_append_45, ↓U_X6_feed_0, ↓U_X6_feed_10, ↓U_X6_feed_13, ↓U_X6_feed_28, ↓zthen_v, ↓zthen_0, zU_eq, zU_nc, zU_nj, ca]
      · rw [S_X7_feed, ← hl]
        simp (disch := first | exact z_tt rfl | assumption | omega | (simp (disch := omega) only [zU_eq, zU_nc, zU_nj]; omega)) only [↓L_ild_n1, ↓r_i2l, ↓r_lconst, ↓r_ldc2w, ↓I_X7_in, ↓r_ifne_t, ↓r_ifne_f, ↓J_X7_feed_15, ↓r_bipush, ↓r_ireturn, ↓L_ald_n0, ↓F_g60_17, ↓r_icne_t, ↓r_icne_f, ↓J_X7_feed_27, ↓F_g60_16, ↓A_p3, ↓A_p4, ↓A_p5, ↓A_p6, ↓A_p7, ↓A_p9, ↓A_p10, ↓A_p12, ↓A_p13, ↓A_p15, ↓A_p16, ↓A_p19, ↓A_p20, ↓A_p21, ↓A_p22, ↓A_p23, ↓A_p25, ↓A_p26, ↓A_p28, ↓A_p29, ↓A_p31, ↓A_p32, ↓A_p34, ↓A_p36, ↓A_p37, ↓A_p38, ↓A_p39, ↓A_p41, ↓A_p42, ↓A_p43, ↓A_p44, ↓A_p61, ↓A_p62, ↓A_p63, ↓A_p65, ↓A_p66, ↓A_p67, ↓A_p68, ↓A_p69, ↓A_p70, ↓A_pN, ↓A_pT, ↓r_dupI, ↓r_dupR, ↓r_iconst, ↓r_iadd, ↓F_p60_17, ↓U_X7_feed_0, ↓U_X7_feed_15, ↓U_X7_feed_27, ↓zthen_v, ↓zthen_0, zU_eq, zU_nc, zU_nj, m_in_t]
      · simp (disch := omega) only [zU_eq, zU_ow]; omega
      · intro j h1 h2
        by_cases q3 : j = σ 45 1
        · subst q3
          simp (disch := omega) only [zU_eq, zU_ow]; omega
        · simp (disch := omega) only [zU_eq, zU_ow]; exact R.1.2 j h1 h2
      · simp (disch := omega) only [zU_eq, zU_ow]; omega
      · intro j h1 h2
        by_cases q3 : j = τ 60 17
        · subst q3
          simp (disch := omega) only [zU_eq, zU_ow]; omega
        · simp (disch := omega) only [zU_eq, zU_ow]; exact R.2.1.2 j h1 h2
      · simp (disch := omega) only [zU_eq, zU_ow]; omega
      · intro j h1 h2
        rw [hl]
        simp (disch := omega) only [zU_eq, zU_ow] at h2
        by_cases q3 : j = σ 45 1
        · subst q3
          simp (disch := omega) only [zU_eq, zU_ow]
        · simp (disch := omega) only [zU_eq, zU_ow]; exact R.2.2.2 j h1 (by omega)
      · simp (disch := omega) only [zU_ow]
      · simp (disch := omega) only [zU_ow]
    · refine ⟨-4, σ, τ, ?_, ?_, R, fun c j _ => rfl, fun c j _ _ => rfl⟩
      · rw [S_X6_feed]
        simp (disch := first | exact z_tt rfl | assumption | omega | (simp (disch := omega) only [zU_eq, zU_nc, zU_nj]; omega)) only [↓L_ild_n1, ↓r_iflt_t, ↓r_iflt_f, ↓J_X6_feed_10, ↓r_bipush, ↓r_icle_t, ↓r_icle_f, ↓J_X6_feed_13, ↓r_ireturn, ↓L_ald_n0, ↓F_g0_6, ↓F_g45_1, ↓r_iclt_t, ↓r_iclt_f, ↓J_X6_feed_28, ↓I_X4_append_45, ↓U_X6_feed_0, ↓U_X6_feed_10, ↓U_X6_feed_13, ↓U_X6_feed_28, ↓zthen_v, ↓zthen_0, zU_eq, zU_nc, zU_nj]
      · rw [S_X7_feed]
        simp (disch := first | exact z_tt rfl | assumption | omega | (simp (disch := omega) only [zU_eq, zU_nc, zU_nj]; omega)) only [↓L_ild_n1, ↓r_i2l, ↓r_lconst, ↓r_ldc2w, ↓I_X7_in, ↓r_ifne_t, ↓r_ifne_f, ↓J_X7_feed_15, ↓r_bipush, ↓r_ireturn, ↓L_ald_n0, ↓F_g60_17, ↓r_icne_t, ↓r_icne_f, ↓J_X7_feed_27, ↓F_g60_16, ↓A_p3, ↓A_p4, ↓A_p5, ↓A_p6, ↓A_p7, ↓A_p9, ↓A_p10, ↓A_p12, ↓A_p13, ↓A_p15, ↓A_p16, ↓A_p19, ↓A_p20, ↓A_p21, ↓A_p22, ↓A_p23, ↓A_p25, ↓A_p26, ↓A_p28, ↓A_p29, ↓A_p31, ↓A_p32, ↓A_p34, ↓A_p36, ↓A_p37, ↓A_p38, ↓A_p39, ↓A_p41, ↓A_p42, ↓A_p43, ↓A_p44, ↓A_p61, ↓A_p62, ↓A_p63, ↓A_p65, ↓A_p66, ↓A_p67, ↓A_p68, ↓A_p69, ↓A_p70, ↓A_pN, ↓A_pT, ↓r_dupI, ↓r_dupR, ↓r_iconst, ↓r_iadd, ↓F_p60_17, ↓U_X7_feed_0, ↓U_X7_feed_15, ↓U_X7_feed_27, ↓zthen_v, ↓zthen_0, zU_eq, zU_nc, zU_nj, m_in_t]
  · refine ⟨-2, σ, τ, ?_, ?_, R, fun c j _ => rfl, fun c j _ _ => rfl⟩
    · rw [S_X6_feed]
      by_cases q3 : x < 0
      · simp (disch := first | exact z_tt rfl | assumption | omega | (simp (disch := omega) only [zU_eq, zU_nc, zU_nj]; omega)) only [↓L_ild_n1, ↓r_iflt_t, ↓r_iflt_f, ↓J_X6_feed_10, ↓r_bipush, ↓r_icle_t, ↓r_icle_f, ↓J_X6_feed_13, ↓r_ireturn, ↓L_ald_n0, ↓F_g0_6, ↓F_g45_1, ↓r_iclt_t, ↓r_iclt_f, ↓J_X6_feed_28, ↓I_X4_append_45, ↓U_X6_feed_0, ↓U_X6_feed_10, ↓U_X6_feed_13, ↓U_X6_feed_28, ↓zthen_v, ↓zthen_0, zU_eq, zU_nc, zU_nj]
      · simp (disch := first | exact z_tt rfl | assumption | omega | (simp (disch := omega) only [zU_eq, zU_nc, zU_nj]; omega)) only [↓L_ild_n1, ↓r_iflt_t, ↓r_iflt_f, ↓J_X6_feed_10, ↓r_bipush, ↓r_icle_t, ↓r_icle_f, ↓J_X6_feed_13, ↓r_ireturn, ↓L_ald_n0, ↓F_g0_6, ↓F_g45_1, ↓r_iclt_t, ↓r_iclt_f, ↓J_X6_feed_28, ↓I_X4_append_45, ↓U_X6_feed_0, ↓U_X6_feed_10, ↓U_X6_feed_13, ↓U_X6_feed_28, ↓zthen_v, ↓zthen_0, zU_eq, zU_nc, zU_nj]
    · rw [S_X7_feed]
      simp (disch := first | exact z_tt rfl | assumption | omega | (simp (disch := omega) only [zU_eq, zU_nc, zU_nj]; omega)) only [↓L_ild_n1, ↓r_i2l, ↓r_lconst, ↓r_ldc2w, ↓I_X7_in, ↓r_ifne_t, ↓r_ifne_f, ↓J_X7_feed_15, ↓r_bipush, ↓r_ireturn, ↓L_ald_n0, ↓F_g60_17, ↓r_icne_t, ↓r_icne_f, ↓J_X7_feed_27, ↓F_g60_16, ↓A_p3, ↓A_p4, ↓A_p5, ↓A_p6, ↓A_p7, ↓A_p9, ↓A_p10, ↓A_p12, ↓A_p13, ↓A_p15, ↓A_p16, ↓A_p19, ↓A_p20, ↓A_p21, ↓A_p22, ↓A_p23, ↓A_p25, ↓A_p26, ↓A_p28, ↓A_p29, ↓A_p31, ↓A_p32, ↓A_p34, ↓A_p36, ↓A_p37, ↓A_p38, ↓A_p39, ↓A_p41, ↓A_p42, ↓A_p43, ↓A_p44, ↓A_p61, ↓A_p62, ↓A_p63, ↓A_p65, ↓A_p66, ↓A_p67, ↓A_p68, ↓A_p69, ↓A_p70, ↓A_pN, ↓A_pT, ↓r_dupI, ↓r_dupR, ↓r_iconst, ↓r_iadd, ↓F_p60_17, ↓U_X7_feed_0, ↓U_X7_feed_15, ↓U_X7_feed_27, ↓zthen_v, ↓zthen_0, zU_eq, zU_nc, zU_nj, m_in_f]
set_option maxRecDepth 20000 in
set_option maxHeartbeats 4000000 in
theorem op_count {σ τ : zM} {x : Int} (R : Rel1 σ τ) (T : RelX σ τ) (hx : -2147483648 ≤ x ∧ x < 2147483648) : ∃ r, zcall 80 [vR 0, vI x] σ = some (some (vI r), σ) ∧ zcall 184 [vR 60, vI x] τ = some (some (vI r), τ) := by
  have h1 := R.seM
  have h2 := R.evM
  have h3 := R.boM
  have h4 := T.1.1
  have h5 := T.2.2.1
  by_cases q0 : x = 0
  · subst q0
    refine ⟨σ 8 2, ?_, ?_⟩
    · rw [S_X6_count]
      simp (disch := first | exact z_tt rfl | assumption | omega | (simp (disch := omega) only [zU_eq, zU_nc, zU_nj]; omega)) only [↓L_ild_n1, ↓r_tab, ↓W_X6_count_1_0, ↓W_X6_count_1_1, ↓W_X6_count_1_2, ↓W_X6_count_1_3, ↓W_X6_count_1_d, ↓L_ald_n0, ↓F_g0_0, ↓F_g1_8, ↓F_g17_8, ↓F_g8_2, ↓F_g11_2, ↓F_g14_2, ↓F_g24_2, ↓F_g27_2, ↓F_g30_2, ↓r_ireturn, ↓F_g1_9, ↓F_g17_9, ↓F_g1_10, ↓F_g17_10, ↓F_g0_6, ↓F_g45_1, ↓r_bipush, ↓U_X6_count_0, ↓U_X6_count_32, ↓U_X6_count_43, ↓U_X6_count_54, ↓U_X6_count_65, ↓U_X6_count_73, ↓zthen_v, ↓zthen_0, zU_eq, zU_nc, zU_nj]
    · rw [S_X7_count, ← h1.2.2]
      simp (disch := first | exact z_tt rfl | assumption | omega | (simp (disch := omega) only [zU_eq, zU_nc, zU_nj]; omega)) only [↓L_ild_n1, ↓r_tab, ↓W_X7_count_1_0, ↓W_X7_count_1_1, ↓W_X7_count_1_2, ↓W_X7_count_1_3, ↓W_X7_count_1_d, ↓L_ald_n0, ↓F_g60_0, ↓r_iconst, ↓A_g3, ↓A_g4, ↓A_g5, ↓A_g6, ↓A_g7, ↓A_g9, ↓A_g10, ↓A_g12, ↓A_g13, ↓A_g15, ↓A_g16, ↓A_g19, ↓A_g20, ↓A_g21, ↓A_g22, ↓A_g23, ↓A_g25, ↓A_g26, ↓A_g28, ↓A_g29, ↓A_g31, ↓A_g32, ↓A_g34, ↓A_g36, ↓A_g37, ↓A_g38, ↓A_g39, ↓A_g41, ↓A_g42, ↓A_g43, ↓A_g44, ↓A_g61, ↓A_g62, ↓A_g63, ↓A_g65, ↓A_g66, ↓A_g67, ↓A_g68, ↓A_g69, ↓A_g70, ↓A_gN, ↓A_gT, ↓A_gC, ↓r_ireturn, ↓F_g60_17, ↓r_bipush, ↓U_X7_count_0, ↓U_X7_count_32, ↓U_X7_count_39, ↓U_X7_count_46, ↓U_X7_count_53, ↓U_X7_count_58, ↓zthen_v, ↓zthen_0, zU_eq, zU_nc, zU_nj]
  · by_cases q1 : x = 1
    · subst q1
      refine ⟨σ 11 2, ?_, ?_⟩
      · rw [S_X6_count]
        simp (disch := first | exact z_tt rfl | assumption | omega | (simp (disch := omega) only [zU_eq, zU_nc, zU_nj]; omega)) only [↓L_ild_n1, ↓r_tab, ↓W_X6_count_1_0, ↓W_X6_count_1_1, ↓W_X6_count_1_2, ↓W_X6_count_1_3, ↓W_X6_count_1_d, ↓L_ald_n0, ↓F_g0_0, ↓F_g1_8, ↓F_g17_8, ↓F_g8_2, ↓F_g11_2, ↓F_g14_2, ↓F_g24_2, ↓F_g27_2, ↓F_g30_2, ↓r_ireturn, ↓F_g1_9, ↓F_g17_9, ↓F_g1_10, ↓F_g17_10, ↓F_g0_6, ↓F_g45_1, ↓r_bipush, ↓U_X6_count_0, ↓U_X6_count_32, ↓U_X6_count_43, ↓U_X6_count_54, ↓U_X6_count_65, ↓U_X6_count_73, ↓zthen_v, ↓zthen_0, zU_eq, zU_nc, zU_nj]
      · rw [S_X7_count, ← h2.2.2]
        simp (disch := first | exact z_tt rfl | assumption | omega | (simp (disch := omega) only [zU_eq, zU_nc, zU_nj]; omega)) only [↓L_ild_n1, ↓r_tab, ↓W_X7_count_1_0, ↓W_X7_count_1_1, ↓W_X7_count_1_2, ↓W_X7_count_1_3, ↓W_X7_count_1_d, ↓L_ald_n0, ↓F_g60_0, ↓r_iconst, ↓A_g3, ↓A_g4, ↓A_g5, ↓A_g6, ↓A_g7, ↓A_g9, ↓A_g10, ↓A_g12, ↓A_g13, ↓A_g15, ↓A_g16, ↓A_g19, ↓A_g20, ↓A_g21, ↓A_g22, ↓A_g23, ↓A_g25, ↓A_g26, ↓A_g28, ↓A_g29, ↓A_g31, ↓A_g32, ↓A_g34, ↓A_g36, ↓A_g37, ↓A_g38, ↓A_g39, ↓A_g41, ↓A_g42, ↓A_g43, ↓A_g44, ↓A_g61, ↓A_g62, ↓A_g63, ↓A_g65, ↓A_g66, ↓A_g67, ↓A_g68, ↓A_g69, ↓A_g70, ↓A_gN, ↓A_gT, ↓A_gC, ↓r_ireturn, ↓F_g60_17, ↓r_bipush, ↓U_X7_count_0, ↓U_X7_count_32, ↓U_X7_count_39, ↓U_X7_count_46, ↓U_X7_count_53, ↓U_X7_count_58, ↓zthen_v, ↓zthen_0, zU_eq, zU_nc, zU_nj]
    · by_cases q2 : x = 2
      · subst q2
        refine ⟨σ 14 2, ?_, ?_⟩
        · rw [S_X6_count]
          simp (disch := first | exact z_tt rfl | assumption | omega | (simp (disch := omega) only [zU_eq, zU_nc, zU_nj]; omega)) only [↓L_ild_n1, ↓r_tab, ↓W_X6_count_1_0, ↓W_X6_count_1_1, ↓W_X6_count_1_2, ↓W_X6_count_1_3, ↓W_X6_count_1_d, ↓L_ald_n0, ↓F_g0_0, ↓F_g1_8, ↓F_g17_8, ↓F_g8_2, ↓F_g11_2, ↓F_g14_2, ↓F_g24_2, ↓F_g27_2, ↓F_g30_2, ↓r_ireturn, ↓F_g1_9, ↓F_g17_9, ↓F_g1_10, ↓F_g17_10, ↓F_g0_6, ↓F_g45_1, ↓r_bipush, ↓U_X6_count_0, ↓U_X6_count_32, ↓U_X6_count_43, ↓U_X6_count_54, ↓U_X6_count_65, ↓U_X6_count_73, ↓zthen_v, ↓zthen_0, zU_eq, zU_nc, zU_nj]
        · rw [S_X7_count, ← h3.2.2]
          simp (disch := first | exact z_tt rfl | assumption | omega | (simp (disch := omega) only [zU_eq, zU_nc, zU_nj]; omega)) only [↓L_ild_n1, ↓r_tab, ↓W_X7_count_1_0, ↓W_X7_count_1_1, ↓W_X7_count_1_2, ↓W_X7_count_1_3, ↓W_X7_count_1_d, ↓L_ald_n0, ↓F_g60_0, ↓r_iconst, ↓A_g3, ↓A_g4, ↓A_g5, ↓A_g6, ↓A_g7, ↓A_g9, ↓A_g10, ↓A_g12, ↓A_g13, ↓A_g15, ↓A_g16, ↓A_g19, ↓A_g20, ↓A_g21, ↓A_g22, ↓A_g23, ↓A_g25, ↓A_g26, ↓A_g28, ↓A_g29, ↓A_g31, ↓A_g32, ↓A_g34, ↓A_g36, ↓A_g37, ↓A_g38, ↓A_g39, ↓A_g41, ↓A_g42, ↓A_g43, ↓A_g44, ↓A_g61, ↓A_g62, ↓A_g63, ↓A_g65, ↓A_g66, ↓A_g67, ↓A_g68, ↓A_g69, ↓A_g70, ↓A_gN, ↓A_gT, ↓A_gC, ↓r_ireturn, ↓F_g60_17, ↓r_bipush, ↓U_X7_count_0, ↓U_X7_count_32, ↓U_X7_count_39, ↓U_X7_count_46, ↓U_X7_count_53, ↓U_X7_count_58, ↓zthen_v, ↓zthen_0, zU_eq, zU_nc, zU_nj]
      · by_cases q3 : x = 3
        · subst q3
          refine ⟨σ 45 1, ?_, ?_⟩
          · rw [S_X6_count]
            simp (disch := first | exact z_tt rfl | assumption | omega | (simp (disch := omega) only [zU_eq, zU_nc, zU_nj]; omega)) only [↓L_ild_n1, ↓r_tab, ↓W_X6_count_1_0, ↓W_X6_count_1_1, ↓W_X6_count_1_2, ↓W_X6_count_1_3, ↓W_X6_count_1_d, ↓L_ald_n0, ↓F_g0_0, ↓F_g1_8, ↓F_g17_8, ↓F_g8_2, ↓F_g11_2, ↓F_g14_2, ↓F_g24_2, ↓F_g27_2, ↓F_g30_2, ↓r_ireturn, ↓F_g1_9, ↓F_g17_9, ↓F_g1_10, ↓F_g17_10, ↓F_g0_6, ↓F_g45_1, ↓r_bipush, ↓U_X6_count_0, ↓U_X6_count_32, ↓U_X6_count_43, ↓U_X6_count_54, ↓U_X6_count_65, ↓U_X6_count_73, ↓zthen_v, ↓zthen_0, zU_eq, zU_nc, zU_nj]
          · rw [S_X7_count, ← h5]
            simp (disch := first | exact z_tt rfl | assumption | omega | (simp (disch := omega) only [zU_eq, zU_nc, zU_nj]; omega)) only [↓L_ild_n1, ↓r_tab, ↓W_X7_count_1_0, ↓W_X7_count_1_1, ↓W_X7_count_1_2, ↓W_X7_count_1_3, ↓W_X7_count_1_d, ↓L_ald_n0, ↓F_g60_0, ↓r_iconst, ↓A_g3, ↓A_g4, ↓A_g5, ↓A_g6, ↓A_g7, ↓A_g9, ↓A_g10, ↓A_g12, ↓A_g13, ↓A_g15, ↓A_g16, ↓A_g19, ↓A_g20, ↓A_g21, ↓A_g22, ↓A_g23, ↓A_g25, ↓A_g26, ↓A_g28, ↓A_g29, ↓A_g31, ↓A_g32, ↓A_g34, ↓A_g36, ↓A_g37, ↓A_g38, ↓A_g39, ↓A_g41, ↓A_g42, ↓A_g43, ↓A_g44, ↓A_g61, ↓A_g62, ↓A_g63, ↓A_g65, ↓A_g66, ↓A_g67, ↓A_g68, ↓A_g69, ↓A_g70, ↓A_gN, ↓A_gT, ↓A_gC, ↓r_ireturn, ↓F_g60_17, ↓r_bipush, ↓U_X7_count_0, ↓U_X7_count_32, ↓U_X7_count_39, ↓U_X7_count_46, ↓U_X7_count_53, ↓U_X7_count_58, ↓zthen_v, ↓zthen_0, zU_eq, zU_nc, zU_nj]
        · refine ⟨-2, ?_, ?_⟩
          · rw [S_X6_count]
            simp (disch := first | exact z_tt rfl | assumption | omega | (simp (disch := omega) only [zU_eq, zU_nc, zU_nj]; omega)) only [↓L_ild_n1, ↓r_tab, ↓W_X6_count_1_0, ↓W_X6_count_1_1, ↓W_X6_count_1_2, ↓W_X6_count_1_3, ↓W_X6_count_1_d, ↓L_ald_n0, ↓F_g0_0, ↓F_g1_8, ↓F_g17_8, ↓F_g8_2, ↓F_g11_2, ↓F_g14_2, ↓F_g24_2, ↓F_g27_2, ↓F_g30_2, ↓r_ireturn, ↓F_g1_9, ↓F_g17_9, ↓F_g1_10, ↓F_g17_10, ↓F_g0_6, ↓F_g45_1, ↓r_bipush, ↓U_X6_count_0, ↓U_X6_count_32, ↓U_X6_count_43, ↓U_X6_count_54, ↓U_X6_count_65, ↓U_X6_count_73, ↓zthen_v, ↓zthen_0, zU_eq, zU_nc, zU_nj]
          · rw [S_X7_count]
            simp (disch := first | exact z_tt rfl | assumption | omega | (simp (disch := omega) only [zU_eq, zU_nc, zU_nj]; omega)) only [↓L_ild_n1, ↓r_tab, ↓W_X7_count_1_0, ↓W_X7_count_1_1, ↓W_X7_count_1_2, ↓W_X7_count_1_3, ↓W_X7_count_1_d, ↓L_ald_n0, ↓F_g60_0, ↓r_iconst, ↓A_g3, ↓A_g4, ↓A_g5, ↓A_g6, ↓A_g7, ↓A_g9, ↓A_g10, ↓A_g12, ↓A_g13, ↓A_g15, ↓A_g16, ↓A_g19, ↓A_g20, ↓A_g21, ↓A_g22, ↓A_g23, ↓A_g25, ↓A_g26, ↓A_g28, ↓A_g29, ↓A_g31, ↓A_g32, ↓A_g34, ↓A_g36, ↓A_g37, ↓A_g38, ↓A_g39, ↓A_g41, ↓A_g42, ↓A_g43, ↓A_g44, ↓A_g61, ↓A_g62, ↓A_g63, ↓A_g65, ↓A_g66, ↓A_g67, ↓A_g68, ↓A_g69, ↓A_g70, ↓A_gN, ↓A_gT, ↓A_gC, ↓r_ireturn, ↓F_g60_17, ↓r_bipush, ↓U_X7_count_0, ↓U_X7_count_32, ↓U_X7_count_39, ↓U_X7_count_46, ↓U_X7_count_53, ↓U_X7_count_58, ↓zthen_v, ↓zthen_0, zU_eq, zU_nc, zU_nj]
