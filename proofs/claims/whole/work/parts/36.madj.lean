/-! the reference's order and sums -/
def Qp (τ : zM) (p : Int) : Int → Int := fun t => τ 61 (29 + 6 * p + t)
theorem Qp_bd {τ : zM} (hV : V1 τ) {p t : Int} (hp : 0 ≤ p ∧ p < 4) (ht : 0 ≤ t ∧ t < τ 61 1) : 0 ≤ Qp τ p t ∧ Qp τ p t ≤ 99 := hV.2.2.1 p t hp.1 hp.2 ht.1 ht.2
theorem m_ptsQ {τ : zM} {p t : Int} (h : 0 ≤ p ∧ p < 4 ∧ 0 ≤ t ∧ t < 6) : zcall 113 [vR 60, vI p, vI t] τ = some (some (vI (Qp τ p t)), τ) := m_pointsOf h
set_option maxRecDepth 20000 in
set_option maxHeartbeats 4000000 in
theorem m_isAhead {τ : zM} {r p u t : Int} (hV : V1 τ) (hr : 0 ≤ r ∧ r < 4) (hp : 0 ≤ p ∧ p < 4) (hu : 0 ≤ u ∧ u < τ 61 1) (ht : 0 ≤ t ∧ t < τ 61 1) : zcall 143 [vR 60, vI r, vI p, vI u, vI t] τ = some (some (vI (if ahd (Qp τ r) (Qp τ p) u t then 1 else 0)), τ) := by
  have v1 := hV.2.1
  have xt := Qp_bd hV hr ht
  have xu := Qp_bd hV hr hu
  have yt := Qp_bd hV hp ht
  have yu := Qp_bd hV hp hu
  have m1 := mul_bd xt yu
  have m2 := mul_bd xu yt
  have q1 := m_ptsQ (τ := τ) (p := p) (t := u) (by omega)
  have q2 := m_ptsQ (τ := τ) (p := p) (t := t) (by omega)
  have q3 := m_ptsQ (τ := τ) (p := r) (t := u) (by omega)
  have q4 := m_ptsQ (τ := τ) (p := r) (t := t) (by omega)
  rw [S_X7_isAhead]
  unfold ahd
  generalize Qp τ r t = rt at *
  generalize Qp τ r u = ru at *
  generalize Qp τ p t = pt at *
  generalize Qp τ p u = pu at *
  by_cases h1 : pu = 0
  · by_cases h2 : pt = 0
    · by_cases h3 : u < t
      · rw [if_pos h1, if_pos h2, if_pos (by simpa using h3)]
        simp (disch := first | exact z_tt rfl | assumption | omega | (simp (disch := omega) only [zU_eq, zU_nc, zU_nj]; omega)) only [↓L_ald_n0, ↓L_ild_n2, ↓L_ild_n3, ↓I_X7_pointsOf_60, ↓L_ist5, ↓L_ist5L, ↓L_ild4, ↓L_ist6, ↓L_ist6L, ↓L_ild5, ↓r_ifeq_t, ↓r_ifeq_f, ↓J_X7_isAhead_27, ↓L_ild6, ↓r_ifne_t, ↓r_ifne_f, ↓J_X7_isAhead_49, ↓r_ifgt_t, ↓r_ifgt_f, ↓J_X7_isAhead_43, ↓J_X7_isAhead_47, ↓r_icge_t, ↓r_icge_f, ↓r_iconst, ↓r_goto, ↓J_X7_isAhead_48, ↓r_zreturn, ↓L_ild_n1, ↓r_imul, ↓L_ist7, ↓L_ist7L, ↓L_ist8, ↓L_ist8L, ↓L_ild7, ↓L_ild8, ↓r_iclt_t, ↓r_iclt_f, ↓J_X7_isAhead_92, ↓r_icne_t, ↓r_icne_f, ↓J_X7_isAhead_96, ↓J_X7_isAhead_97, ↓U_X7_isAhead_0, ↓U_X7_isAhead_27, ↓U_X7_isAhead_43, ↓U_X7_isAhead_47, ↓U_X7_isAhead_48, ↓U_X7_isAhead_49, ↓U_X7_isAhead_92, ↓U_X7_isAhead_96, ↓U_X7_isAhead_97, ↓zthen_v, ↓zthen_0, zU_eq, zU_nc, zU_nj, q1, q2]
      · rw [if_pos h1, if_pos h2, if_neg (by simpa using h3)]
        simp (disch := first | exact z_tt rfl | assumption | omega | (simp (disch := omega) only [zU_eq, zU_nc, zU_nj]; omega)) only [↓L_ald_n0, ↓L_ild_n2, ↓L_ild_n3, ↓I_X7_pointsOf_60, ↓L_ist5, ↓L_ist5L, ↓L_ild4, ↓L_ist6, ↓L_ist6L, ↓L_ild5, ↓r_ifeq_t, ↓r_ifeq_f, ↓J_X7_isAhead_27, ↓L_ild6, ↓r_ifne_t, ↓r_ifne_f, ↓J_X7_isAhead_49, ↓r_ifgt_t, ↓r_ifgt_f, ↓J_X7_isAhead_43, ↓J_X7_isAhead_47, ↓r_icge_t, ↓r_icge_f, ↓r_iconst, ↓r_goto, ↓J_X7_isAhead_48, ↓r_zreturn, ↓L_ild_n1, ↓r_imul, ↓L_ist7, ↓L_ist7L, ↓L_ist8, ↓L_ist8L, ↓L_ild7, ↓L_ild8, ↓r_iclt_t, ↓r_iclt_f, ↓J_X7_isAhead_92, ↓r_icne_t, ↓r_icne_f, ↓J_X7_isAhead_96, ↓J_X7_isAhead_97, ↓U_X7_isAhead_0, ↓U_X7_isAhead_27, ↓U_X7_isAhead_43, ↓U_X7_isAhead_47, ↓U_X7_isAhead_48, ↓U_X7_isAhead_49, ↓U_X7_isAhead_92, ↓U_X7_isAhead_96, ↓U_X7_isAhead_97, ↓zthen_v, ↓zthen_0, zU_eq, zU_nc, zU_nj, q1, q2]
    · rw [if_pos h1, if_neg h2, if_neg (by decide)]
      simp (disch := first | exact z_tt rfl | assumption | omega | (simp (disch := omega) only [zU_eq, zU_nc, zU_nj]; omega)) only [↓L_ald_n0, ↓L_ild_n2, ↓L_ild_n3, ↓I_X7_pointsOf_60, ↓L_ist5, ↓L_ist5L, ↓L_ild4, ↓L_ist6, ↓L_ist6L, ↓L_ild5, ↓r_ifeq_t, ↓r_ifeq_f, ↓J_X7_isAhead_27, ↓L_ild6, ↓r_ifne_t, ↓r_ifne_f, ↓J_X7_isAhead_49, ↓r_ifgt_t, ↓r_ifgt_f, ↓J_X7_isAhead_43, ↓J_X7_isAhead_47, ↓r_icge_t, ↓r_icge_f, ↓r_iconst, ↓r_goto, ↓J_X7_isAhead_48, ↓r_zreturn, ↓L_ild_n1, ↓r_imul, ↓L_ist7, ↓L_ist7L, ↓L_ist8, ↓L_ist8L, ↓L_ild7, ↓L_ild8, ↓r_iclt_t, ↓r_iclt_f, ↓J_X7_isAhead_92, ↓r_icne_t, ↓r_icne_f, ↓J_X7_isAhead_96, ↓J_X7_isAhead_97, ↓U_X7_isAhead_0, ↓U_X7_isAhead_27, ↓U_X7_isAhead_43, ↓U_X7_isAhead_47, ↓U_X7_isAhead_48, ↓U_X7_isAhead_49, ↓U_X7_isAhead_92, ↓U_X7_isAhead_96, ↓U_X7_isAhead_97, ↓zthen_v, ↓zthen_0, zU_eq, zU_nc, zU_nj, q1, q2]
  · by_cases h2 : pt = 0
    · rw [if_neg h1, if_pos h2, if_pos (by decide)]
      simp (disch := first | exact z_tt rfl | assumption | omega | (simp (disch := omega) only [zU_eq, zU_nc, zU_nj]; omega)) only [↓L_ald_n0, ↓L_ild_n2, ↓L_ild_n3, ↓I_X7_pointsOf_60, ↓L_ist5, ↓L_ist5L, ↓L_ild4, ↓L_ist6, ↓L_ist6L, ↓L_ild5, ↓r_ifeq_t, ↓r_ifeq_f, ↓J_X7_isAhead_27, ↓L_ild6, ↓r_ifne_t, ↓r_ifne_f, ↓J_X7_isAhead_49, ↓r_ifgt_t, ↓r_ifgt_f, ↓J_X7_isAhead_43, ↓J_X7_isAhead_47, ↓r_icge_t, ↓r_icge_f, ↓r_iconst, ↓r_goto, ↓J_X7_isAhead_48, ↓r_zreturn, ↓L_ild_n1, ↓r_imul, ↓L_ist7, ↓L_ist7L, ↓L_ist8, ↓L_ist8L, ↓L_ild7, ↓L_ild8, ↓r_iclt_t, ↓r_iclt_f, ↓J_X7_isAhead_92, ↓r_icne_t, ↓r_icne_f, ↓J_X7_isAhead_96, ↓J_X7_isAhead_97, ↓U_X7_isAhead_0, ↓U_X7_isAhead_27, ↓U_X7_isAhead_43, ↓U_X7_isAhead_47, ↓U_X7_isAhead_48, ↓U_X7_isAhead_49, ↓U_X7_isAhead_92, ↓U_X7_isAhead_96, ↓U_X7_isAhead_97, ↓zthen_v, ↓zthen_0, zU_eq, zU_nc, zU_nj, q1, q2]
    · by_cases h4 : ru * pt = rt * pu
      · by_cases h3 : u < t
        · rw [if_neg h1, if_neg h2, if_pos h4, if_pos (by simpa using h3)]
          simp (disch := first | exact z_tt rfl | assumption | omega | (simp (disch := omega) only [zU_eq, zU_nc, zU_nj]; omega)) only [↓L_ald_n0, ↓L_ild_n2, ↓L_ild_n3, ↓I_X7_pointsOf_60, ↓L_ist5, ↓L_ist5L, ↓L_ild4, ↓L_ist6, ↓L_ist6L, ↓L_ild5, ↓r_ifeq_t, ↓r_ifeq_f, ↓J_X7_isAhead_27, ↓L_ild6, ↓r_ifne_t, ↓r_ifne_f, ↓J_X7_isAhead_49, ↓r_ifgt_t, ↓r_ifgt_f, ↓J_X7_isAhead_43, ↓J_X7_isAhead_47, ↓r_icge_t, ↓r_icge_f, ↓r_iconst, ↓r_goto, ↓J_X7_isAhead_48, ↓r_zreturn, ↓L_ild_n1, ↓r_imul, ↓L_ist7, ↓L_ist7L, ↓L_ist8, ↓L_ist8L, ↓L_ild7, ↓L_ild8, ↓r_iclt_t, ↓r_iclt_f, ↓J_X7_isAhead_92, ↓r_icne_t, ↓r_icne_f, ↓J_X7_isAhead_96, ↓J_X7_isAhead_97, ↓U_X7_isAhead_0, ↓U_X7_isAhead_27, ↓U_X7_isAhead_43, ↓U_X7_isAhead_47, ↓U_X7_isAhead_48, ↓U_X7_isAhead_49, ↓U_X7_isAhead_92, ↓U_X7_isAhead_96, ↓U_X7_isAhead_97, ↓zthen_v, ↓zthen_0, zU_eq, zU_nc, zU_nj, q1, q2, q3, q4]
        · rw [if_neg h1, if_neg h2, if_pos h4, if_neg (by simpa using h3)]
          simp (disch := first | exact z_tt rfl | assumption | omega | (simp (disch := omega) only [zU_eq, zU_nc, zU_nj]; omega)) only [↓L_ald_n0, ↓L_ild_n2, ↓L_ild_n3, ↓I_X7_pointsOf_60, ↓L_ist5, ↓L_ist5L, ↓L_ild4, ↓L_ist6, ↓L_ist6L, ↓L_ild5, ↓r_ifeq_t, ↓r_ifeq_f, ↓J_X7_isAhead_27, ↓L_ild6, ↓r_ifne_t, ↓r_ifne_f, ↓J_X7_isAhead_49, ↓r_ifgt_t, ↓r_ifgt_f, ↓J_X7_isAhead_43, ↓J_X7_isAhead_47, ↓r_icge_t, ↓r_icge_f, ↓r_iconst, ↓r_goto, ↓J_X7_isAhead_48, ↓r_zreturn, ↓L_ild_n1, ↓r_imul, ↓L_ist7, ↓L_ist7L, ↓L_ist8, ↓L_ist8L, ↓L_ild7, ↓L_ild8, ↓r_iclt_t, ↓r_iclt_f, ↓J_X7_isAhead_92, ↓r_icne_t, ↓r_icne_f, ↓J_X7_isAhead_96, ↓J_X7_isAhead_97, ↓U_X7_isAhead_0, ↓U_X7_isAhead_27, ↓U_X7_isAhead_43, ↓U_X7_isAhead_47, ↓U_X7_isAhead_48, ↓U_X7_isAhead_49, ↓U_X7_isAhead_92, ↓U_X7_isAhead_96, ↓U_X7_isAhead_97, ↓zthen_v, ↓zthen_0, zU_eq, zU_nc, zU_nj, q1, q2, q3, q4]
      · by_cases h5 : ru * pt < rt * pu
        · rw [if_neg h1, if_neg h2, if_neg h4, if_pos (by simpa using h5)]
          simp (disch := first | exact z_tt rfl | assumption | omega | (simp (disch := omega) only [zU_eq, zU_nc, zU_nj]; omega)) only [↓L_ald_n0, ↓L_ild_n2, ↓L_ild_n3, ↓I_X7_pointsOf_60, ↓L_ist5, ↓L_ist5L, ↓L_ild4, ↓L_ist6, ↓L_ist6L, ↓L_ild5, ↓r_ifeq_t, ↓r_ifeq_f, ↓J_X7_isAhead_27, ↓L_ild6, ↓r_ifne_t, ↓r_ifne_f, ↓J_X7_isAhead_49, ↓r_ifgt_t, ↓r_ifgt_f, ↓J_X7_isAhead_43, ↓J_X7_isAhead_47, ↓r_icge_t, ↓r_icge_f, ↓r_iconst, ↓r_goto, ↓J_X7_isAhead_48, ↓r_zreturn, ↓L_ild_n1, ↓r_imul, ↓L_ist7, ↓L_ist7L, ↓L_ist8, ↓L_ist8L, ↓L_ild7, ↓L_ild8, ↓r_iclt_t, ↓r_iclt_f, ↓J_X7_isAhead_92, ↓r_icne_t, ↓r_icne_f, ↓J_X7_isAhead_96, ↓J_X7_isAhead_97, ↓U_X7_isAhead_0, ↓U_X7_isAhead_27, ↓U_X7_isAhead_43, ↓U_X7_isAhead_47, ↓U_X7_isAhead_48, ↓U_X7_isAhead_49, ↓U_X7_isAhead_92, ↓U_X7_isAhead_96, ↓U_X7_isAhead_97, ↓zthen_v, ↓zthen_0, zU_eq, zU_nc, zU_nj, q1, q2, q3, q4]
        · rw [if_neg h1, if_neg h2, if_neg h4, if_neg (by simpa using h5)]
          simp (disch := first | exact z_tt rfl | assumption | omega | (simp (disch := omega) only [zU_eq, zU_nc, zU_nj]; omega)) only [↓L_ald_n0, ↓L_ild_n2, ↓L_ild_n3, ↓I_X7_pointsOf_60, ↓L_ist5, ↓L_ist5L, ↓L_ild4, ↓L_ist6, ↓L_ist6L, ↓L_ild5, ↓r_ifeq_t, ↓r_ifeq_f, ↓J_X7_isAhead_27, ↓L_ild6, ↓r_ifne_t, ↓r_ifne_f, ↓J_X7_isAhead_49, ↓r_ifgt_t, ↓r_ifgt_f, ↓J_X7_isAhead_43, ↓J_X7_isAhead_47, ↓r_icge_t, ↓r_icge_f, ↓r_iconst, ↓r_goto, ↓J_X7_isAhead_48, ↓r_zreturn, ↓L_ild_n1, ↓r_imul, ↓L_ist7, ↓L_ist7L, ↓L_ist8, ↓L_ist8L, ↓L_ild7, ↓L_ild8, ↓r_iclt_t, ↓r_iclt_f, ↓J_X7_isAhead_92, ↓r_icne_t, ↓r_icne_f, ↓J_X7_isAhead_96, ↓J_X7_isAhead_97, ↓U_X7_isAhead_0, ↓U_X7_isAhead_27, ↓U_X7_isAhead_43, ↓U_X7_isAhead_47, ↓U_X7_isAhead_48, ↓U_X7_isAhead_49, ↓U_X7_isAhead_92, ↓U_X7_isAhead_96, ↓U_X7_isAhead_97, ↓zthen_v, ↓zthen_0, zU_eq, zU_nc, zU_nj, q1, q2, q3, q4]
set_option maxRecDepth 20000 in
theorem m_ab_loop {τ : zM} {r p t : Int} (hV : V1 τ) (hr : 0 ≤ r ∧ r < 4) (hp : 0 ≤ p ∧ p < 4) (ht : 0 ≤ t ∧ t < τ 61 1) : ∀ (n : Nat) (j s : Int), 0 ≤ j → j + n = τ 61 1 → zres 142 C_X7_aheadBy_6 [vR 60, vI r, vI p, vI t, vI s, vI j] [] τ = some (some (vI (s + cntI (fun u => ahd (Qp τ r) (Qp τ p) u t) j n)), τ) := by
  have v1 := hV.2.1
  intro n
  induction n with
  | zero =>
    intro j s hj hn
    simp (disch := first | exact z_tt rfl | assumption | omega | (simp (disch := omega) only [zU_eq, zU_nc, zU_nj]; omega)) only [↓r_iconst, ↓L_ist4, ↓L_ist4L, ↓L_ist5, ↓L_ist5L, ↓L_ild5, ↓L_ald_n0, ↓F_g60_0, ↓A_g3, ↓A_g4, ↓A_g5, ↓A_g6, ↓A_g7, ↓A_g9, ↓A_g10, ↓A_g12, ↓A_g13, ↓A_g15, ↓A_g16, ↓A_g19, ↓A_g20, ↓A_g21, ↓A_g22, ↓A_g23, ↓A_g25, ↓A_g26, ↓A_g28, ↓A_g29, ↓A_g31, ↓A_g32, ↓A_g34, ↓A_g36, ↓A_g37, ↓A_g38, ↓A_g39, ↓A_g41, ↓A_g42, ↓A_g43, ↓A_g44, ↓A_g61, ↓A_g62, ↓A_g63, ↓A_g65, ↓A_g66, ↓A_g67, ↓A_g68, ↓A_g69, ↓A_g70, ↓A_gN, ↓A_gT, ↓A_gC, ↓r_icge_t, ↓r_icge_f, ↓J_X7_aheadBy_45, ↓L_ild4, ↓L_ild_n1, ↓L_ild_n2, ↓L_ild_n3, ↓I_X7_isAhead_60, ↓r_ifeq_t, ↓r_ifeq_f, ↓J_X7_aheadBy_35, ↓r_goto, ↓J_X7_aheadBy_36, ↓r_iadd, ↓L_iinc5, ↓J_X7_aheadBy_6, ↓r_ireturn, ↓U_X7_aheadBy_0, ↓U_X7_aheadBy_6, ↓U_X7_aheadBy_35, ↓U_X7_aheadBy_36, ↓U_X7_aheadBy_45, ↓zthen_v, ↓zthen_0, zU_eq, zU_nc, zU_nj, cntI, Int.add_zero]
  | succ n ih =>
    intro j s hj hn
    have hi := m_isAhead hV hr hp (u := j) (t := t) (by omega) ht
    rw [U_X7_aheadBy_6]
    by_cases h : ahd (Qp τ r) (Qp τ p) j t = true
    · rw [if_pos h] at hi
      simp (disch := first | exact z_tt rfl | assumption | omega | (simp (disch := omega) only [zU_eq, zU_nc, zU_nj]; omega)) only [↓r_iconst, ↓L_ist4, ↓L_ist4L, ↓L_ist5, ↓L_ist5L, ↓L_ild5, ↓L_ald_n0, ↓F_g60_0, ↓A_g3, ↓A_g4, ↓A_g5, ↓A_g6, ↓A_g7, ↓A_g9, ↓A_g10, ↓A_g12, ↓A_g13, ↓A_g15, ↓A_g16, ↓A_g19, ↓A_g20, ↓A_g21, ↓A_g22, ↓A_g23, ↓A_g25, ↓A_g26, ↓A_g28, ↓A_g29, ↓A_g31, ↓A_g32, ↓A_g34, ↓A_g36, ↓A_g37, ↓A_g38, ↓A_g39, ↓A_g41, ↓A_g42, ↓A_g43, ↓A_g44, ↓A_g61, ↓A_g62, ↓A_g63, ↓A_g65, ↓A_g66, ↓A_g67, ↓A_g68, ↓A_g69, ↓A_g70, ↓A_gN, ↓A_gT, ↓A_gC, ↓r_icge_t, ↓r_icge_f, ↓J_X7_aheadBy_45, ↓L_ild4, ↓L_ild_n1, ↓L_ild_n2, ↓L_ild_n3, ↓I_X7_isAhead_60, ↓r_ifeq_t, ↓r_ifeq_f, ↓J_X7_aheadBy_35, ↓r_goto, ↓J_X7_aheadBy_36, ↓r_iadd, ↓L_iinc5, ↓J_X7_aheadBy_6, ↓r_ireturn, ↓U_X7_aheadBy_0, ↓U_X7_aheadBy_35, ↓U_X7_aheadBy_36, ↓U_X7_aheadBy_45, ↓zthen_v, ↓zthen_0, zU_eq, zU_nc, zU_nj, hi]
      rw [ih (j + 1) _ (by omega) (by omega), cntI, if_pos h, Int.add_assoc]
    · rw [if_neg h] at hi
      simp (disch := first | exact z_tt rfl | assumption | omega | (simp (disch := omega) only [zU_eq, zU_nc, zU_nj]; omega)) only [↓r_iconst, ↓L_ist4, ↓L_ist4L, ↓L_ist5, ↓L_ist5L, ↓L_ild5, ↓L_ald_n0, ↓F_g60_0, ↓A_g3, ↓A_g4, ↓A_g5, ↓A_g6, ↓A_g7, ↓A_g9, ↓A_g10, ↓A_g12, ↓A_g13, ↓A_g15, ↓A_g16, ↓A_g19, ↓A_g20, ↓A_g21, ↓A_g22, ↓A_g23, ↓A_g25, ↓A_g26, ↓A_g28, ↓A_g29, ↓A_g31, ↓A_g32, ↓A_g34, ↓A_g36, ↓A_g37, ↓A_g38, ↓A_g39, ↓A_g41, ↓A_g42, ↓A_g43, ↓A_g44, ↓A_g61, ↓A_g62, ↓A_g63, ↓A_g65, ↓A_g66, ↓A_g67, ↓A_g68, ↓A_g69, ↓A_g70, ↓A_gN, ↓A_gT, ↓A_gC, ↓r_icge_t, ↓r_icge_f, ↓J_X7_aheadBy_45, ↓L_ild4, ↓L_ild_n1, ↓L_ild_n2, ↓L_ild_n3, ↓I_X7_isAhead_60, ↓r_ifeq_t, ↓r_ifeq_f, ↓J_X7_aheadBy_35, ↓r_goto, ↓J_X7_aheadBy_36, ↓r_iadd, ↓L_iinc5, ↓J_X7_aheadBy_6, ↓r_ireturn, ↓U_X7_aheadBy_0, ↓U_X7_aheadBy_35, ↓U_X7_aheadBy_36, ↓U_X7_aheadBy_45, ↓zthen_v, ↓zthen_0, zU_eq, zU_nc, zU_nj, hi]
      rw [ih (j + 1) _ (by omega) (by omega), cntI, if_neg h, Int.add_zero, Int.zero_add]
set_option maxRecDepth 20000 in
theorem m_aheadBy {τ : zM} {r p t : Int} (hV : V1 τ) (hr : 0 ≤ r ∧ r < 4) (hp : 0 ≤ p ∧ p < 4) (ht : 0 ≤ t ∧ t < τ 61 1) : zcall 142 [vR 60, vI r, vI p, vI t] τ = some (some (vI (rnk (Qp τ r) (Qp τ p) (τ 61 1).toNat t)), τ) := by
  have v1 := hV.2.1
  rw [S_X7_aheadBy]
  simp (disch := first | exact z_tt rfl | assumption | omega | (simp (disch := omega) only [zU_eq, zU_nc, zU_nj]; omega)) only [↓r_iconst, ↓L_ist4, ↓L_ist4L, ↓L_ist5, ↓L_ist5L, ↓L_ild5, ↓L_ald_n0, ↓F_g60_0, ↓A_g3, ↓A_g4, ↓A_g5, ↓A_g6, ↓A_g7, ↓A_g9, ↓A_g10, ↓A_g12, ↓A_g13, ↓A_g15, ↓A_g16, ↓A_g19, ↓A_g20, ↓A_g21, ↓A_g22, ↓A_g23, ↓A_g25, ↓A_g26, ↓A_g28, ↓A_g29, ↓A_g31, ↓A_g32, ↓A_g34, ↓A_g36, ↓A_g37, ↓A_g38, ↓A_g39, ↓A_g41, ↓A_g42, ↓A_g43, ↓A_g44, ↓A_g61, ↓A_g62, ↓A_g63, ↓A_g65, ↓A_g66, ↓A_g67, ↓A_g68, ↓A_g69, ↓A_g70, ↓A_gN, ↓A_gT, ↓A_gC, ↓r_icge_t, ↓r_icge_f, ↓J_X7_aheadBy_45, ↓L_ild4, ↓L_ild_n1, ↓L_ild_n2, ↓L_ild_n3, ↓I_X7_isAhead_60, ↓r_ifeq_t, ↓r_ifeq_f, ↓J_X7_aheadBy_35, ↓r_goto, ↓J_X7_aheadBy_36, ↓r_iadd, ↓L_iinc5, ↓J_X7_aheadBy_6, ↓r_ireturn, ↓U_X7_aheadBy_0, ↓U_X7_aheadBy_35, ↓U_X7_aheadBy_36, ↓U_X7_aheadBy_45, ↓zthen_v, ↓zthen_0, zU_eq, zU_nc, zU_nj]
  rw [m_ab_loop hV hr hp ht (τ 61 1).toNat 0 0 (by omega) (by omega), Int.zero_add]
  rfl
theorem Qp_nn {τ : zM} (hV : V1 τ) {p : Int} (hp : 0 ≤ p ∧ p < 4) : NN (Qp τ p) (τ 61 1).toNat := fun t h1 h2 => (Qp_bd hV hp (t := t) (by have := hV.2.1; omega)).1
set_option maxRecDepth 20000 in
theorem m_br_loop {τ : zM} {r p k : Int} (hV : V1 τ) (hr : 0 ≤ r ∧ r < 4) (hp : 0 ≤ p ∧ p < 4) (hk : 0 ≤ k ∧ k < τ 61 1) : ∀ (n : Nat) (j : Int), 0 ≤ j → j + n = τ 61 1 → fstI (fun t => decide (rnk (Qp τ r) (Qp τ p) (τ 61 1).toNat t = k)) j n < τ 61 1 → zres 144 C_X7_byRatio_3 [vR 60, vI r, vI p, vI k, vI j] [] τ = some (some (vI (fstI (fun t => decide (rnk (Qp τ r) (Qp τ p) (τ 61 1).toNat t = k)) j n)), τ) := by
  have v1 := hV.2.1
  intro n
  induction n with
  | zero =>
    intro j hj hn hf
    rw [fstI] at hf
    omega
  | succ n ih =>
    intro j hj hn hf
    have ha := m_aheadBy hV hr hp (t := j) (by omega)
    have hb := rnk_bd (Qp τ r) (Qp τ p) (m := (τ 61 1).toNat) (t := j) (by omega)
    rw [fstI] at hf
    rw [U_X7_byRatio_3, fstI]
    by_cases h : rnk (Qp τ r) (Qp τ p) (τ 61 1).toNat j = k
    · rw [if_pos (by simpa using h)]
      simp (disch := first | exact z_tt rfl | assumption | omega | (simp (disch := omega) only [zU_eq, zU_nc, zU_nj]; omega)) only [↓r_iconst, ↓L_ist4, ↓L_ist4L, ↓L_ald_n0, ↓L_ild_n1, ↓L_ild_n2, ↓L_ild4, ↓I_X7_aheadBy_60, ↓L_ild_n3, ↓r_iceq_t, ↓r_iceq_f, ↓J_X7_byRatio_21, ↓L_iinc4, ↓r_goto, ↓J_X7_byRatio_3, ↓r_ireturn, ↓U_X7_byRatio_0, ↓U_X7_byRatio_21, ↓zthen_v, ↓zthen_0, zU_eq, zU_nc, zU_nj, ha]
    · rw [if_neg (by simpa using h)] at hf ⊢
      simp (disch := first | exact z_tt rfl | assumption | omega | (simp (disch := omega) only [zU_eq, zU_nc, zU_nj]; omega)) only [↓r_iconst, ↓L_ist4, ↓L_ist4L, ↓L_ald_n0, ↓L_ild_n1, ↓L_ild_n2, ↓L_ild4, ↓I_X7_aheadBy_60, ↓L_ild_n3, ↓r_iceq_t, ↓r_iceq_f, ↓J_X7_byRatio_21, ↓L_iinc4, ↓r_goto, ↓J_X7_byRatio_3, ↓r_ireturn, ↓U_X7_byRatio_0, ↓U_X7_byRatio_21, ↓zthen_v, ↓zthen_0, zU_eq, zU_nc, zU_nj, ha]
      exact ih (j + 1) (by omega) (by omega) hf
set_option maxRecDepth 20000 in
theorem m_byRatio {τ : zM} {r p k : Int} (hV : V1 τ) (hr : 0 ≤ r ∧ r < 4) (hp : 0 ≤ p ∧ p < 4) (hk : 0 ≤ k ∧ k < τ 61 1) : zcall 144 [vR 60, vI r, vI p, vI k] τ = some (some (vI (byR (Qp τ r) (Qp τ p) (τ 61 1).toNat k)), τ) := by
  have v1 := hV.2.1
  have hs := byR_spec (R := Qp τ r) (Qp_nn hV hp) (k := k) (by omega)
  rw [S_X7_byRatio]
  simp (disch := first | exact z_tt rfl | assumption | omega | (simp (disch := omega) only [zU_eq, zU_nc, zU_nj]; omega)) only [↓r_iconst, ↓L_ist4, ↓L_ist4L, ↓L_ald_n0, ↓L_ild_n1, ↓L_ild_n2, ↓L_ild4, ↓I_X7_aheadBy_60, ↓L_ild_n3, ↓r_iceq_t, ↓r_iceq_f, ↓J_X7_byRatio_21, ↓L_iinc4, ↓r_goto, ↓J_X7_byRatio_3, ↓r_ireturn, ↓U_X7_byRatio_0, ↓U_X7_byRatio_21, ↓zthen_v, ↓zthen_0, zU_eq, zU_nc, zU_nj]
  exact m_br_loop hV hr hp hk (τ 61 1).toNat 0 (by omega) (by omega) (by unfold byR at hs; omega)
/-- the flags are flags -/
def Fl (τ : zM) : Prop := ∀ t : Int, 0 ≤ t → t < 6 → 0 ≤ τ 64 t ∧ τ 64 t < 2
def sF (τ : zM) (p f : Int) : Int := sumI (fun t => if τ 64 t = f then Qp τ p t else 0) 0 (τ 61 1).toNat
set_option maxRecDepth 20000 in
theorem m_sf_loop {τ : zM} {p f : Int} (hV : V1 τ) (hF : Fl τ) (hp : 0 ≤ p ∧ p < 4) (hf : 0 ≤ f ∧ f < 2) : ∀ (n : Nat) (j s : Int), 0 ≤ j → j + n = τ 61 1 → zres 146 C_X7_sumOf_5 [vR 60, vI p, vI f, vI s, vI j] [] τ = some (some (vI (s + sumI (fun t => if τ 64 t = f then Qp τ p t else 0) j n)), τ) := by
  have v1 := hV.2.1
  intro n
  induction n with
  | zero =>
    intro j s hj hn
    simp (disch := first | exact z_tt rfl | assumption | omega | (simp (disch := omega) only [zU_eq, zU_nc, zU_nj]; omega)) only [↓r_iconst, ↓L_ist_n3, ↓L_ist_n3L, ↓L_ist4, ↓L_ist4L, ↓L_ild4, ↓L_ald_n0, ↓F_g60_0, ↓A_g3, ↓A_g4, ↓A_g5, ↓A_g6, ↓A_g7, ↓A_g9, ↓A_g10, ↓A_g12, ↓A_g13, ↓A_g15, ↓A_g16, ↓A_g19, ↓A_g20, ↓A_g21, ↓A_g22, ↓A_g23, ↓A_g25, ↓A_g26, ↓A_g28, ↓A_g29, ↓A_g31, ↓A_g32, ↓A_g34, ↓A_g36, ↓A_g37, ↓A_g38, ↓A_g39, ↓A_g41, ↓A_g42, ↓A_g43, ↓A_g44, ↓A_g61, ↓A_g62, ↓A_g63, ↓A_g65, ↓A_g66, ↓A_g67, ↓A_g68, ↓A_g69, ↓A_g70, ↓A_gN, ↓A_gT, ↓A_gC, ↓r_icge_t, ↓r_icge_f, ↓J_X7_sumOf_47, ↓L_ild_n3, ↓F_g60_4, ↓A_b46, ↓A_z64, ↓L_ild_n2, ↓r_icne_t, ↓r_icne_f, ↓J_X7_sumOf_38, ↓L_ild_n1, ↓I_X7_pointsOf_60, ↓r_goto, ↓J_X7_sumOf_39, ↓r_iadd, ↓L_iinc4, ↓J_X7_sumOf_5, ↓r_ireturn, ↓U_X7_sumOf_0, ↓U_X7_sumOf_5, ↓U_X7_sumOf_38, ↓U_X7_sumOf_39, ↓U_X7_sumOf_47, ↓zthen_v, ↓zthen_0, zU_eq, zU_nc, zU_nj, sumI, Int.add_zero]
  | succ n ih =>
    intro j s hj hn
    have hb := hF j hj (by omega)
    have hq := m_ptsQ (τ := τ) (p := p) (t := j) (by omega)
    rw [U_X7_sumOf_5]
    by_cases h : τ 64 j = f
    · simp (disch := first | exact z_tt rfl | assumption | omega | (simp (disch := omega) only [zU_eq, zU_nc, zU_nj]; omega)) only [↓r_iconst, ↓L_ist_n3, ↓L_ist_n3L, ↓L_ist4, ↓L_ist4L, ↓L_ild4, ↓L_ald_n0, ↓F_g60_0, ↓A_g3, ↓A_g4, ↓A_g5, ↓A_g6, ↓A_g7, ↓A_g9, ↓A_g10, ↓A_g12, ↓A_g13, ↓A_g15, ↓A_g16, ↓A_g19, ↓A_g20, ↓A_g21, ↓A_g22, ↓A_g23, ↓A_g25, ↓A_g26, ↓A_g28, ↓A_g29, ↓A_g31, ↓A_g32, ↓A_g34, ↓A_g36, ↓A_g37, ↓A_g38, ↓A_g39, ↓A_g41, ↓A_g42, ↓A_g43, ↓A_g44, ↓A_g61, ↓A_g62, ↓A_g63, ↓A_g65, ↓A_g66, ↓A_g67, ↓A_g68, ↓A_g69, ↓A_g70, ↓A_gN, ↓A_gT, ↓A_gC, ↓r_icge_t, ↓r_icge_f, ↓J_X7_sumOf_47, ↓L_ild_n3, ↓F_g60_4, ↓A_b46, ↓A_z64, ↓L_ild_n2, ↓r_icne_t, ↓r_icne_f, ↓J_X7_sumOf_38, ↓L_ild_n1, ↓I_X7_pointsOf_60, ↓r_goto, ↓J_X7_sumOf_39, ↓r_iadd, ↓L_iinc4, ↓J_X7_sumOf_5, ↓r_ireturn, ↓U_X7_sumOf_0, ↓U_X7_sumOf_38, ↓U_X7_sumOf_39, ↓U_X7_sumOf_47, ↓zthen_v, ↓zthen_0, zU_eq, zU_nc, zU_nj, hq]
      rw [ih (j + 1) _ (by omega) (by omega), sumI, if_pos h, Int.add_assoc]
    · simp (disch := first | exact z_tt rfl | assumption | omega | (simp (disch := omega) only [zU_eq, zU_nc, zU_nj]; omega)) only [↓r_iconst, ↓L_ist_n3, ↓L_ist_n3L, ↓L_ist4, ↓L_ist4L, ↓L_ild4, ↓L_ald_n0, ↓F_g60_0, ↓A_g3, ↓A_g4, ↓A_g5, ↓A_g6, ↓A_g7, ↓A_g9, ↓A_g10, ↓A_g12, ↓A_g13, ↓A_g15, ↓A_g16, ↓A_g19, ↓A_g20, ↓A_g21, ↓A_g22, ↓A_g23, ↓A_g25, ↓A_g26, ↓A_g28, ↓A_g29, ↓A_g31, ↓A_g32, ↓A_g34, ↓A_g36, ↓A_g37, ↓A_g38, ↓A_g39, ↓A_g41, ↓A_g42, ↓A_g43, ↓A_g44, ↓A_g61, ↓A_g62, ↓A_g63, ↓A_g65, ↓A_g66, ↓A_g67, ↓A_g68, ↓A_g69, ↓A_g70, ↓A_gN, ↓A_gT, ↓A_gC, ↓r_icge_t, ↓r_icge_f, ↓J_X7_sumOf_47, ↓L_ild_n3, ↓F_g60_4, ↓A_b46, ↓A_z64, ↓L_ild_n2, ↓r_icne_t, ↓r_icne_f, ↓J_X7_sumOf_38, ↓L_ild_n1, ↓I_X7_pointsOf_60, ↓r_goto, ↓J_X7_sumOf_39, ↓r_iadd, ↓L_iinc4, ↓J_X7_sumOf_5, ↓r_ireturn, ↓U_X7_sumOf_0, ↓U_X7_sumOf_38, ↓U_X7_sumOf_39, ↓U_X7_sumOf_47, ↓zthen_v, ↓zthen_0, zU_eq, zU_nc, zU_nj, hq]
      rw [ih (j + 1) _ (by omega) (by omega), sumI, if_neg h, Int.add_zero, Int.zero_add]
set_option maxRecDepth 20000 in
theorem m_sumOf {τ : zM} {p f : Int} (hV : V1 τ) (hF : Fl τ) (hp : 0 ≤ p ∧ p < 4) (hf : 0 ≤ f ∧ f < 2) : zcall 146 [vR 60, vI p, vI f] τ = some (some (vI (sF τ p f)), τ) := by
  have v1 := hV.2.1
  rw [S_X7_sumOf]
  simp (disch := first | exact z_tt rfl | assumption | omega | (simp (disch := omega) only [zU_eq, zU_nc, zU_nj]; omega)) only [↓r_iconst, ↓L_ist_n3, ↓L_ist_n3L, ↓L_ist4, ↓L_ist4L, ↓L_ild4, ↓L_ald_n0, ↓F_g60_0, ↓A_g3, ↓A_g4, ↓A_g5, ↓A_g6, ↓A_g7, ↓A_g9, ↓A_g10, ↓A_g12, ↓A_g13, ↓A_g15, ↓A_g16, ↓A_g19, ↓A_g20, ↓A_g21, ↓A_g22, ↓A_g23, ↓A_g25, ↓A_g26, ↓A_g28, ↓A_g29, ↓A_g31, ↓A_g32, ↓A_g34, ↓A_g36, ↓A_g37, ↓A_g38, ↓A_g39, ↓A_g41, ↓A_g42, ↓A_g43, ↓A_g44, ↓A_g61, ↓A_g62, ↓A_g63, ↓A_g65, ↓A_g66, ↓A_g67, ↓A_g68, ↓A_g69, ↓A_g70, ↓A_gN, ↓A_gT, ↓A_gC, ↓r_icge_t, ↓r_icge_f, ↓J_X7_sumOf_47, ↓L_ild_n3, ↓F_g60_4, ↓A_b46, ↓A_z64, ↓L_ild_n2, ↓r_icne_t, ↓r_icne_f, ↓J_X7_sumOf_38, ↓L_ild_n1, ↓I_X7_pointsOf_60, ↓r_goto, ↓J_X7_sumOf_39, ↓r_iadd, ↓L_iinc4, ↓J_X7_sumOf_5, ↓r_ireturn, ↓U_X7_sumOf_0, ↓U_X7_sumOf_38, ↓U_X7_sumOf_39, ↓U_X7_sumOf_47, ↓zthen_v, ↓zthen_0, zU_eq, zU_nc, zU_nj]
  rw [m_sf_loop hV hF hp hf (τ 61 1).toNat 0 0 (by omega) (by omega), Int.zero_add]
  rfl
theorem sF_bd {τ : zM} (hV : V1 τ) {p f : Int} (hp : 0 ≤ p ∧ p < 4) : 0 ≤ sF τ p f ∧ sF τ p f ≤ 594 := by
  have v1 := hV.2.1
  have h := sumI_bd (f := fun t => if τ 64 t = f then Qp τ p t else 0) (B := 99) (τ 61 1).toNat 0 (fun t h1 h2 => by
    have := Qp_bd hV hp (t := t) (by omega)
    try dsimp only
    split <;> omega)
  unfold sF
  omega
def mor (τ : zM) (i j f : Int) : Int := sF τ i f * allM τ j - sF τ j (1 - f) * allM τ i
theorem mor_bd {τ : zM} (hV : V1 τ) {i j f : Int} (hi : 0 ≤ i ∧ i < 4) (hj : 0 ≤ j ∧ j < 4) : -352836 ≤ mor τ i j f ∧ mor τ i j f ≤ 352836 := by
  have m1 := mul_bd (sF_bd hV hi (f := f)) (allM_bd hV hj)
  have m2 := mul_bd (sF_bd hV hj (f := 1 - f)) (allM_bd hV hi)
  unfold mor
  omega
set_option maxRecDepth 20000 in
theorem m_moreOf {τ : zM} {i j f : Int} (hV : V1 τ) (hF : Fl τ) (hi : 0 ≤ i ∧ i < 4) (hj : 0 ≤ j ∧ j < 4) (hf : 0 ≤ f ∧ f < 2) : zcall 147 [vR 60, vI i, vI j, vI f] τ = some (some (vI (mor τ i j f)), τ) := by
  have v1 := hV.2.1
  have s1 := m_sumOf hV hF hi hf
  have a1 := m_allOf v1 hj
  have a2 := m_allOf v1 hi
  rw [S_X7_moreOf]
  rcases (show f = 0 ∨ f = 1 by omega) with rfl | rfl
  · have s2 := m_sumOf hV hF hj (f := 1) (by omega)
    simp (disch := first | exact z_tt rfl | assumption | omega | (simp (disch := omega) only [zU_eq, zU_nc, zU_nj]; omega)) only [↓L_ald_n0, ↓L_ild_n1, ↓L_ild_n3, ↓I_X7_sumOf_60, ↓L_ild_n2, ↓I_X7_allOf_60, ↓r_imul, ↓r_ifne_t, ↓r_ifne_f, ↓J_X7_moreOf_22, ↓r_iconst, ↓r_goto, ↓J_X7_moreOf_23, ↓r_isub, ↓r_ireturn, ↓U_X7_moreOf_0, ↓U_X7_moreOf_22, ↓U_X7_moreOf_23, ↓zthen_v, ↓zthen_0, zU_eq, zU_nc, zU_nj, s1, s2, a1, a2]
    rfl
  · have s2 := m_sumOf hV hF hj (f := 0) (by omega)
    simp (disch := first | exact z_tt rfl | assumption | omega | (simp (disch := omega) only [zU_eq, zU_nc, zU_nj]; omega)) only [↓L_ald_n0, ↓L_ild_n1, ↓L_ild_n3, ↓I_X7_sumOf_60, ↓L_ild_n2, ↓I_X7_allOf_60, ↓r_imul, ↓r_ifne_t, ↓r_ifne_f, ↓J_X7_moreOf_22, ↓r_iconst, ↓r_goto, ↓J_X7_moreOf_23, ↓r_isub, ↓r_ireturn, ↓U_X7_moreOf_0, ↓U_X7_moreOf_22, ↓U_X7_moreOf_23, ↓zthen_v, ↓zthen_0, zU_eq, zU_nc, zU_nj, s1, s2, a1, a2]
    rfl
