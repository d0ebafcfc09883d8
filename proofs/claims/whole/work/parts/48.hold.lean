set_option maxRecDepth 20000 in
set_option maxHeartbeats 4000000 in
theorem Rel1_hold {σ τ : zM} {t p : Int} (R : Rel1 σ τ) (ht : 0 ≤ t ∧ t < σ 1 1) (hp : -1 ≤ p ∧ p < 4) : Rel1 (giveW σ t p) (holdM τ t p) := by
  have hn := R.n
  have hm := R.m
  have hc := R.cut
  unfold giveW holdM
  by_cases q : σ 1 4 = t
  · rw [if_pos q]
    unfold mend
    refine ⟨⟨?_, ?_, ?_, ?_, ?_, ?_, ?_, ?_, ?_⟩, RSs_fr R.2.1 ?_ ?_ ?_ ?_, RSe_fr R.2.2.1 ?_ ?_ ?_ ?_, RSb_fr R.2.2.2 ?_ ?_ ?_ ?_⟩
    · simp (disch := omega) only [zU_eq, zU_ow]; exact R.n
    · simp (disch := omega) only [zU_eq, zU_ow]; exact R.m
    · intro p' t' h1 h2 h3 h4
      simp (disch := omega) only [zU_eq, zU_ow]; exact R.ptr p' t' h1 h2 h3 h4
    · intro p' t' h1 h2 h3 h4
      simp (disch := omega) only [zU_eq, zU_ow] at h4
      simp (disch := omega) only [zU_eq, zU_ow]; exact R.pt p' t' h1 h2 h3 h4
    · intro t' h1 h2
      by_cases q2 : t' = t
      · subst q2
        simp (disch := omega) only [zU_eq, zU_ow]; omega
      · simp (disch := omega) only [zU_eq, zU_ow]; exact R.fir t' h1 h2
    · intro t' h1 h2
      simp (disch := omega) only [zU_eq, zU_ow] at h2
      by_cases q2 : t' = t
      · subst q2
        simp (disch := omega) only [zU_eq, zU_ow]
      · simp (disch := omega) only [zU_eq, zU_ow]; exact R.fi t' h1 h2
    · simp (disch := omega) only [zU_eq, zU_ow, and_self, implies_true, and_true]; omega
    · intro t' h1 h2 h3
      simp (disch := omega) only [zU_eq, zU_ow] at h3
      omega
    · intro t' h1 h2 h3
      simp (disch := omega) only [zU_eq, zU_ow] at h2
      by_cases q2 : t' = t
      · subst q2
        simp (disch := omega) only [zU_eq, zU_ow]; decide
      · simp (disch := omega) only [zU_eq, zU_ow]; exact R.cuN t' h1 h2 (by omega)
    all_goals intros
    all_goals simp (disch := omega) only [zU_ow]
  · rw [if_neg q]
    refine ⟨⟨?_, ?_, ?_, ?_, ?_, ?_, ?_, ?_, ?_⟩, RSs_fr R.2.1 ?_ ?_ ?_ ?_, RSe_fr R.2.2.1 ?_ ?_ ?_ ?_, RSb_fr R.2.2.2 ?_ ?_ ?_ ?_⟩
    · simp (disch := omega) only [zU_eq, zU_ow]; exact R.n
    · simp (disch := omega) only [zU_eq, zU_ow]; exact R.m
    · intro p' t' h1 h2 h3 h4
      simp (disch := omega) only [zU_eq, zU_ow]; exact R.ptr p' t' h1 h2 h3 h4
    · intro p' t' h1 h2 h3 h4
      simp (disch := omega) only [zU_eq, zU_ow] at h4
      simp (disch := omega) only [zU_eq, zU_ow]; exact R.pt p' t' h1 h2 h3 h4
    · intro t' h1 h2
      by_cases q2 : t' = t
      · subst q2
        simp (disch := omega) only [zU_eq, zU_ow]; omega
      · simp (disch := omega) only [zU_eq, zU_ow]; exact R.fir t' h1 h2
    · intro t' h1 h2
      simp (disch := omega) only [zU_eq, zU_ow] at h2
      by_cases q2 : t' = t
      · subst q2
        simp (disch := omega) only [zU_eq, zU_ow]
      · simp (disch := omega) only [zU_eq, zU_ow]; exact R.fi t' h1 h2
    · simp (disch := omega) only [zU_eq, zU_ow]; exact R.cut
    · intro t' h1 h2 h3
      simp (disch := omega) only [zU_eq, zU_ow] at h2 h3
      simp (disch := omega) only [zU_eq, zU_ow]; exact R.cuY t' h1 h2 h3
    · intro t' h1 h2 h3
      simp (disch := omega) only [zU_eq, zU_ow] at h2 h3
      by_cases q2 : t' = t
      · subst q2
        simp (disch := omega) only [zU_eq, zU_ow]; decide
      · simp (disch := omega) only [zU_eq, zU_ow]; exact R.cuN t' h1 h2 h3
    all_goals intros
    all_goals simp (disch := omega) only [zU_ow]
theorem giveW_nc (σ : zM) (t p c j : Int) (h : c < 1 ∨ (1 < c ∧ c < 7) ∨ 7 < c) : giveW σ t p c j = σ c j := by
  unfold giveW
  rw [zU_nc _ _ _ _ _ _ (by omega)]
  by_cases q : σ 1 4 = t
  · rw [if_pos q, mend_nc _ _ _ (by omega)]
  · rw [if_neg q]
theorem holdM_nc (τ : zM) (t p c j : Int) (h : c < 61 ∨ 61 < c) : holdM τ t p c j = τ c j := by
  unfold holdM
  simp (disch := omega) only [zU_ow]
theorem orNM {x : Int} (h : -1 ≤ x) : orM x = orN x := by
  unfold orM orN
  by_cases q : x = -1
  · rw [if_pos q, if_pos (by omega)]
  · rw [if_neg q, if_neg (by omega)]
set_option maxRecDepth 20000 in
set_option maxHeartbeats 4000000 in
theorem hold_go {σ τ : zM} {t p : Int} (R : Rel1 σ τ) (ht : 0 ≤ t ∧ t < σ 1 1) (hp : p = -1 ∨ (0 ≤ p ∧ p < σ 1 0)) : Same σ τ (zcall 51 [vR 0, vI t, vI p] σ) (zcall 119 [vR 60, vI t, vI p] τ) := by
  have hn := R.n
  have hm := R.m
  have hc := R.cut
  have hf := R.fir t (by omega) (by omega)
  have e := R.fi t (by omega) (by omega)
  have c1 := c_X6_isThing_t (σ := σ) (p := t) ht (by omega)
  have m1 := m_isThing_t (σ := τ) (p := t) (by omega) (by omega)
  have cg := c_X2_giveWhole (σ := σ) (t := t) (p := p) (by omega) (by omega)
  have eo := orNM hf.1
  refine ⟨orN (σ 7 t), giveW σ t p, holdM τ t p, ?_, ?_, Rel1_hold R ht (by omega), fun c j h => giveW_nc _ _ _ _ _ (by omega), fun c j h => holdM_nc _ _ _ _ _ (by omega)⟩
  · rw [S_X6_hold]
    by_cases q : p = -1
    · simp (disch := first | exact z_tt rfl | assumption | omega | (simp (disch := omega) only [zU_eq, zU_nc, zU_nj]; omega)) only [↓L_ald_n0, ↓L_ild_n1, ↓I_X6_isThing_0, ↓r_ifeq_t, ↓r_ifeq_f, ↓J_X6_hold_21, ↓L_ild_n2, ↓r_iconst, ↓r_iceq_t, ↓r_iceq_f, ↓J_X6_hold_23, ↓I_X6_isParty_0, ↓r_ifne_t, ↓r_ifne_f, ↓r_ireturn, ↓F_g0_0, ↓F_g1_3, ↓F_g17_3, ↓A_g3, ↓A_g4, ↓A_g5, ↓A_g6, ↓A_g7, ↓A_g9, ↓A_g10, ↓A_g12, ↓A_g13, ↓A_g15, ↓A_g16, ↓A_g19, ↓A_g20, ↓A_g21, ↓A_g22, ↓A_g23, ↓A_g25, ↓A_g26, ↓A_g28, ↓A_g29, ↓A_g31, ↓A_g32, ↓A_g34, ↓A_g36, ↓A_g37, ↓A_g38, ↓A_g39, ↓A_g41, ↓A_g42, ↓A_g43, ↓A_g44, ↓A_g61, ↓A_g62, ↓A_g63, ↓A_g65, ↓A_g66, ↓A_g67, ↓A_g68, ↓A_g69, ↓A_g70, ↓A_gN, ↓A_gT, ↓A_gC, ↓L_ist_n3, ↓L_ist_n3L, ↓I_X2_giveWhole_1, ↓I_X2_giveWhole_17, ↓L_ild_n3, ↓I_X6_orNoSuch, ↓U_X6_hold_0, ↓U_X6_hold_21, ↓U_X6_hold_23, ↓zthen_v, ↓zthen_0, zU_eq, zU_nc, zU_nj, c1, cg, c_X6_orNoSuch]
    · have c2 := c_X6_isParty_t (σ := σ) (p := p) (by omega) (by omega)
      simp (disch := first | exact z_tt rfl | assumption | omega | (simp (disch := omega) only [zU_eq, zU_nc, zU_nj]; omega)) only [↓L_ald_n0, ↓L_ild_n1, ↓I_X6_isThing_0, ↓r_ifeq_t, ↓r_ifeq_f, ↓J_X6_hold_21, ↓L_ild_n2, ↓r_iconst, ↓r_iceq_t, ↓r_iceq_f, ↓J_X6_hold_23, ↓I_X6_isParty_0, ↓r_ifne_t, ↓r_ifne_f, ↓r_ireturn, ↓F_g0_0, ↓F_g1_3, ↓F_g17_3, ↓A_g3, ↓A_g4, ↓A_g5, ↓A_g6, ↓A_g7, ↓A_g9, ↓A_g10, ↓A_g12, ↓A_g13, ↓A_g15, ↓A_g16, ↓A_g19, ↓A_g20, ↓A_g21, ↓A_g22, ↓A_g23, ↓A_g25, ↓A_g26, ↓A_g28, ↓A_g29, ↓A_g31, ↓A_g32, ↓A_g34, ↓A_g36, ↓A_g37, ↓A_g38, ↓A_g39, ↓A_g41, ↓A_g42, ↓A_g43, ↓A_g44, ↓A_g61, ↓A_g62, ↓A_g63, ↓A_g65, ↓A_g66, ↓A_g67, ↓A_g68, ↓A_g69, ↓A_g70, ↓A_gN, ↓A_gT, ↓A_gC, ↓L_ist_n3, ↓L_ist_n3L, ↓I_X2_giveWhole_1, ↓I_X2_giveWhole_17, ↓L_ild_n3, ↓I_X6_orNoSuch, ↓U_X6_hold_0, ↓U_X6_hold_21, ↓U_X6_hold_23, ↓zthen_v, ↓zthen_0, zU_eq, zU_nc, zU_nj, c1, c2, cg, c_X6_orNoSuch]
  · rw [S_X7_hold]
    by_cases q : p = -1
    · simp (disch := first | exact z_tt rfl | assumption | omega | (simp (disch := omega) only [zU_eq, zU_nc, zU_nj]; omega)) only [↓L_ald_n0, ↓L_ild_n1, ↓I_X7_isThing_60, ↓r_ifeq_t, ↓r_ifeq_f, ↓J_X7_hold_21, ↓L_ild_n2, ↓r_iconst, ↓r_iceq_t, ↓r_iceq_f, ↓J_X7_hold_23, ↓I_X7_isParty_60, ↓r_ifne_t, ↓r_ifne_f, ↓r_ireturn, ↓F_g60_0, ↓r_iadd, ↓A_g3, ↓A_g4, ↓A_g5, ↓A_g6, ↓A_g7, ↓A_g9, ↓A_g10, ↓A_g12, ↓A_g13, ↓A_g15, ↓A_g16, ↓A_g19, ↓A_g20, ↓A_g21, ↓A_g22, ↓A_g23, ↓A_g25, ↓A_g26, ↓A_g28, ↓A_g29, ↓A_g31, ↓A_g32, ↓A_g34, ↓A_g36, ↓A_g37, ↓A_g38, ↓A_g39, ↓A_g41, ↓A_g42, ↓A_g43, ↓A_g44, ↓A_g61, ↓A_g62, ↓A_g63, ↓A_g65, ↓A_g66, ↓A_g67, ↓A_g68, ↓A_g69, ↓A_g70, ↓A_gN, ↓A_gT, ↓A_gC, ↓L_ist_n3, ↓L_ist_n3L, ↓I_X7_holds_60, ↓L_ild_n3, ↓I_X7_orNobody, ↓U_X7_hold_0, ↓U_X7_hold_21, ↓U_X7_hold_23, ↓zthen_v, ↓zthen_0, zU_eq, zU_nc, zU_nj, m1, m_holds, m_orNobody, e, eo]
    · have m2 := m_isParty_t (σ := τ) (p := p) (by omega) (by omega)
      simp (disch := first | exact z_tt rfl | assumption | omega | (simp (disch := omega) only [zU_eq, zU_nc, zU_nj]; omega)) only [↓L_ald_n0, ↓L_ild_n1, ↓I_X7_isThing_60, ↓r_ifeq_t, ↓r_ifeq_f, ↓J_X7_hold_21, ↓L_ild_n2, ↓r_iconst, ↓r_iceq_t, ↓r_iceq_f, ↓J_X7_hold_23, ↓I_X7_isParty_60, ↓r_ifne_t, ↓r_ifne_f, ↓r_ireturn, ↓F_g60_0, ↓r_iadd, ↓A_g3, ↓A_g4, ↓A_g5, ↓A_g6, ↓A_g7, ↓A_g9, ↓A_g10, ↓A_g12, ↓A_g13, ↓A_g15, ↓A_g16, ↓A_g19, ↓A_g20, ↓A_g21, ↓A_g22, ↓A_g23, ↓A_g25, ↓A_g26, ↓A_g28, ↓A_g29, ↓A_g31, ↓A_g32, ↓A_g34, ↓A_g36, ↓A_g37, ↓A_g38, ↓A_g39, ↓A_g41, ↓A_g42, ↓A_g43, ↓A_g44, ↓A_g61, ↓A_g62, ↓A_g63, ↓A_g65, ↓A_g66, ↓A_g67, ↓A_g68, ↓A_g69, ↓A_g70, ↓A_gN, ↓A_gT, ↓A_gC, ↓L_ist_n3, ↓L_ist_n3L, ↓I_X7_holds_60, ↓L_ild_n3, ↓I_X7_orNobody, ↓U_X7_hold_0, ↓U_X7_hold_21, ↓U_X7_hold_23, ↓zthen_v, ↓zthen_0, zU_eq, zU_nc, zU_nj, m1, m2, m_holds, m_orNobody, e, eo]
set_option maxRecDepth 20000 in
set_option maxHeartbeats 4000000 in
theorem op_hold {σ τ : zM} {t p : Int} (R : Rel1 σ τ) (ht : -2147483648 ≤ t ∧ t < 2147483648) (hp : -2147483648 ≤ p ∧ p < 2147483648) : Same σ τ (zcall 51 [vR 0, vI t, vI p] σ) (zcall 119 [vR 60, vI t, vI p] τ) := by
  have hn := R.n
  have hm := R.m
  by_cases q1 : 0 ≤ t ∧ t < σ 1 1
  · by_cases q2 : p = -1 ∨ (0 ≤ p ∧ p < σ 1 0)
    · exact hold_go R q1 q2
    · have c1 := c_X6_isThing_t (σ := σ) (p := t) q1 (by omega)
      have m1 := m_isThing_t (σ := τ) (p := t) (by omega) (by omega)
      have c2 := c_X6_isParty_f (σ := σ) (p := p) (by omega) (by omega)
      have m2 := m_isParty_f (σ := τ) (p := p) (by omega) (by omega)
      refine Same_id R (-1) ?_ ?_
      · rw [S_X6_hold]
        simp (disch := first | exact z_tt rfl | assumption | omega | (simp (disch := omega) only [zU_eq, zU_nc, zU_nj]; omega)) only [↓L_ald_n0, ↓L_ild_n1, ↓I_X6_isThing_0, ↓r_ifeq_t, ↓r_ifeq_f, ↓J_X6_hold_21, ↓L_ild_n2, ↓r_iconst, ↓r_iceq_t, ↓r_iceq_f, ↓J_X6_hold_23, ↓I_X6_isParty_0, ↓r_ifne_t, ↓r_ifne_f, ↓r_ireturn, ↓F_g0_0, ↓F_g1_3, ↓F_g17_3, ↓A_g3, ↓A_g4, ↓A_g5, ↓A_g6, ↓A_g7, ↓A_g9, ↓A_g10, ↓A_g12, ↓A_g13, ↓A_g15, ↓A_g16, ↓A_g19, ↓A_g20, ↓A_g21, ↓A_g22, ↓A_g23, ↓A_g25, ↓A_g26, ↓A_g28, ↓A_g29, ↓A_g31, ↓A_g32, ↓A_g34, ↓A_g36, ↓A_g37, ↓A_g38, ↓A_g39, ↓A_g41, ↓A_g42, ↓A_g43, ↓A_g44, ↓A_g61, ↓A_g62, ↓A_g63, ↓A_g65, ↓A_g66, ↓A_g67, ↓A_g68, ↓A_g69, ↓A_g70, ↓A_gN, ↓A_gT, ↓A_gC, ↓L_ist_n3, ↓L_ist_n3L, ↓I_X2_giveWhole_1, ↓I_X2_giveWhole_17, ↓L_ild_n3, ↓I_X6_orNoSuch, ↓U_X6_hold_0, ↓U_X6_hold_21, ↓U_X6_hold_23, ↓zthen_v, ↓zthen_0, zU_eq, zU_nc, zU_nj, c1, c2]
      · rw [S_X7_hold]
        simp (disch := first | exact z_tt rfl | assumption | omega | (simp (disch := omega) only [zU_eq, zU_nc, zU_nj]; omega)) only [↓L_ald_n0, ↓L_ild_n1, ↓I_X7_isThing_60, ↓r_ifeq_t, ↓r_ifeq_f, ↓J_X7_hold_21, ↓L_ild_n2, ↓r_iconst, ↓r_iceq_t, ↓r_iceq_f, ↓J_X7_hold_23, ↓I_X7_isParty_60, ↓r_ifne_t, ↓r_ifne_f, ↓r_ireturn, ↓F_g60_0, ↓r_iadd, ↓A_g3, ↓A_g4, ↓A_g5, ↓A_g6, ↓A_g7, ↓A_g9, ↓A_g10, ↓A_g12, ↓A_g13, ↓A_g15, ↓A_g16, ↓A_g19, ↓A_g20, ↓A_g21, ↓A_g22, ↓A_g23, ↓A_g25, ↓A_g26, ↓A_g28, ↓A_g29, ↓A_g31, ↓A_g32, ↓A_g34, ↓A_g36, ↓A_g37, ↓A_g38, ↓A_g39, ↓A_g41, ↓A_g42, ↓A_g43, ↓A_g44, ↓A_g61, ↓A_g62, ↓A_g63, ↓A_g65, ↓A_g66, ↓A_g67, ↓A_g68, ↓A_g69, ↓A_g70, ↓A_gN, ↓A_gT, ↓A_gC, ↓L_ist_n3, ↓L_ist_n3L, ↓I_X7_holds_60, ↓L_ild_n3, ↓I_X7_orNobody, ↓U_X7_hold_0, ↓U_X7_hold_21, ↓U_X7_hold_23, ↓zthen_v, ↓zthen_0, zU_eq, zU_nc, zU_nj, m1, m2]
  · have c1 := c_X6_isThing_f (σ := σ) (p := t) (by omega) (by omega)
    have m1 := m_isThing_f (σ := τ) (p := t) (by omega) (by omega)
    refine Same_id R (-1) ?_ ?_
    · rw [S_X6_hold]
      simp (disch := first | exact z_tt rfl | assumption | omega | (simp (disch := omega) only [zU_eq, zU_nc, zU_nj]; omega)) only [↓L_ald_n0, ↓L_ild_n1, ↓I_X6_isThing_0, ↓r_ifeq_t, ↓r_ifeq_f, ↓J_X6_hold_21, ↓L_ild_n2, ↓r_iconst, ↓r_iceq_t, ↓r_iceq_f, ↓J_X6_hold_23, ↓I_X6_isParty_0, ↓r_ifne_t, ↓r_ifne_f, ↓r_ireturn, ↓F_g0_0, ↓F_g1_3, ↓F_g17_3, ↓A_g3, ↓A_g4, ↓A_g5, ↓A_g6, ↓A_g7, ↓A_g9, ↓A_g10, ↓A_g12, ↓A_g13, ↓A_g15, ↓A_g16, ↓A_g19, ↓A_g20, ↓A_g21, ↓A_g22, ↓A_g23, ↓A_g25, ↓A_g26, ↓A_g28, ↓A_g29, ↓A_g31, ↓A_g32, ↓A_g34, ↓A_g36, ↓A_g37, ↓A_g38, ↓A_g39, ↓A_g41, ↓A_g42, ↓A_g43, ↓A_g44, ↓A_g61, ↓A_g62, ↓A_g63, ↓A_g65, ↓A_g66, ↓A_g67, ↓A_g68, ↓A_g69, ↓A_g70, ↓A_gN, ↓A_gT, ↓A_gC, ↓L_ist_n3, ↓L_ist_n3L, ↓I_X2_giveWhole_1, ↓I_X2_giveWhole_17, ↓L_ild_n3, ↓I_X6_orNoSuch, ↓U_X6_hold_0, ↓U_X6_hold_21, ↓U_X6_hold_23, ↓zthen_v, ↓zthen_0, zU_eq, zU_nc, zU_nj, c1]
    · rw [S_X7_hold]
      simp (disch := first | exact z_tt rfl | assumption | omega | (simp (disch := omega) only [zU_eq, zU_nc, zU_nj]; omega)) only [↓L_ald_n0, ↓L_ild_n1, ↓I_X7_isThing_60, ↓r_ifeq_t, ↓r_ifeq_f, ↓J_X7_hold_21, ↓L_ild_n2, ↓r_iconst, ↓r_iceq_t, ↓r_iceq_f, ↓J_X7_hold_23, ↓I_X7_isParty_60, ↓r_ifne_t, ↓r_ifne_f, ↓r_ireturn, ↓F_g60_0, ↓r_iadd, ↓A_g3, ↓A_g4, ↓A_g5, ↓A_g6, ↓A_g7, ↓A_g9, ↓A_g10, ↓A_g12, ↓A_g13, ↓A_g15, ↓A_g16, ↓A_g19, ↓A_g20, ↓A_g21, ↓A_g22, ↓A_g23, ↓A_g25, ↓A_g26, ↓A_g28, ↓A_g29, ↓A_g31, ↓A_g32, ↓A_g34, ↓A_g36, ↓A_g37, ↓A_g38, ↓A_g39, ↓A_g41, ↓A_g42, ↓A_g43, ↓A_g44, ↓A_g61, ↓A_g62, ↓A_g63, ↓A_g65, ↓A_g66, ↓A_g67, ↓A_g68, ↓A_g69, ↓A_g70, ↓A_gN, ↓A_gT, ↓A_gC, ↓L_ist_n3, ↓L_ist_n3L, ↓I_X7_holds_60, ↓L_ild_n3, ↓I_X7_orNobody, ↓U_X7_hold_0, ↓U_X7_hold_21, ↓U_X7_hold_23, ↓zthen_v, ↓zthen_0, zU_eq, zU_nc, zU_nj, m1]
