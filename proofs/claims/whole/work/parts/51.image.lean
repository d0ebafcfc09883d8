theorem RSa_mv {σ τ σ1 τ1 : zM} {a q f b a' q' f' b' : Int} (R : RSa σ τ a q f b) (ha : ∀ j, j = 0 ∨ j = 1 ∨ (4 ≤ j ∧ j < 8) → σ1 a' j = σ a j) (hq : ∀ p j, 0 ≤ p → p < 4 → 0 ≤ j → j < 6 → σ1 (q' + p) j = σ (q + p) j) (hf : ∀ j, 0 ≤ j → j < 6 → σ1 f' j = σ f j) (hb : ∀ j, 0 ≤ j → j < 82 → τ1 b' j = τ b j) : RSa σ1 τ1 a' q' f' b' := by
  obtain ⟨r1, r2, r3, r4, r5, r6, r7, r8, r9⟩ := R
  have a0 := ha 0 (by omega)
  have a1 := ha 1 (by omega)
  have a4 := ha 4 (by omega)
  have a5 := ha 5 (by omega)
  have a6 := ha 6 (by omega)
  have a7 := ha 7 (by omega)
  unfold RSa
  rw [a0, a1, a4, a5, a6, a7]
  refine ⟨?_, ?_, ?_, ?_, ?_, ?_, r7, ?_, ?_⟩
  · rw [hb 0 (by omega) (by omega)]; exact r1
  · rw [hb 1 (by omega) (by omega)]; exact r2
  · intro p t h1 h2 h3 h4
    rw [hq p t h1 h2 h3 h4]; exact r3 p t h1 h2 h3 h4
  · intro p t h1 h2 h3 h4
    rw [hq p t h1 h2 h3 (by omega), hb _ (by omega) (by omega)]; exact r4 p t h1 h2 h3 h4
  · intro t h1 h2
    rw [hf t h1 h2]; exact r5 t h1 h2
  · intro t h1 h2
    rw [hf t h1 (by omega), hb _ (by omega) (by omega)]; exact r6 t h1 h2
  · intro t h1 h2 h3
    rw [hb _ (by omega) (by omega), hb _ (by omega) (by omega), hb _ (by omega) (by omega)]; exact r8 t h1 h2 h3
  · intro t h1 h2 h3
    rw [hb _ (by omega) (by omega), hb _ (by omega) (by omega), hb _ (by omega) (by omega)]; exact r9 t h1 h2 h3
theorem RSs_mv {σ τ σ1 τ1 : zM} {se sl sr b se' sl' sr' b' : Int} (R : RSs σ τ se sl sr b) (h2 : σ1 se' 2 = σ se 2) (hl : ∀ k, 0 ≤ k → k < 5 → σ1 sl' k = σ sl k) (hr : ∀ k, 0 ≤ k → k < 5 → σ1 sr' k = σ sr k) (hb : ∀ j, 0 ≤ j → j < 82 → τ1 b' j = τ b j) : RSs σ1 τ1 se' sl' sr' b' := by
  obtain ⟨r1, r2⟩ := R
  unfold RSs
  rw [h2]
  refine ⟨by rw [hb 2 (by omega) (by omega)]; exact r1, fun k a1 a2 => ?_⟩
  rw [hl k a1 (by omega), hr k a1 (by omega), hb 1 (by omega) (by omega), hb (53 + k) (by omega) (by omega)]; exact r2 k a1 a2
theorem RSe_mv {σ τ σ1 τ1 : zM} {se sl sr b se' sl' sr' b' : Int} (R : RSe σ τ se sl sr b) (h2 : σ1 se' 2 = σ se 2) (hl : ∀ k, 0 ≤ k → k < 8 → σ1 sl' k = σ sl k) (hr : ∀ k, 0 ≤ k → k < 8 → σ1 sr' k = σ sr k) (hb : ∀ j, 0 ≤ j → j < 82 → τ1 b' j = τ b j) : RSe σ1 τ1 se' sl' sr' b' := by
  obtain ⟨r1, r2⟩ := R
  unfold RSe
  rw [h2]
  refine ⟨by rw [hb 3 (by omega) (by omega)]; exact r1, fun k a1 a2 => ?_⟩
  rw [hl k a1 (by omega), hr k a1 (by omega), hb _ (by omega) (by omega), hb _ (by omega) (by omega)]; exact r2 k a1 a2
theorem RSb_mv {σ τ σ1 τ1 : zM} {se sl sr b se' sl' sr' b' : Int} (R : RSb σ τ se sl sr b) (h2 : σ1 se' 2 = σ se 2) (hl : ∀ k, 0 ≤ k → k < 8 → σ1 sl' k = σ sl k) (hr : ∀ k, 0 ≤ k → k < 8 → σ1 sr' k = σ sr k) (hb : ∀ j, 0 ≤ j → j < 82 → τ1 b' j = τ b j) : RSb σ1 τ1 se' sl' sr' b' := by
  obtain ⟨r1, r2⟩ := R
  unfold RSb
  rw [h2]
  refine ⟨by rw [hb 4 (by omega) (by omega)]; exact r1, fun k a1 a2 => ?_⟩
  rw [hl k a1 (by omega), hr k a1 (by omega), hb 1 (by omega) (by omega), hb (74 + k) (by omega) (by omega)]; exact r2 k a1 a2
def RelK (σ τ : zM) : Prop := RS σ τ 17 19 23 24 25 26 27 28 29 30 31 32 62
/-! holder -/
set_option maxRecDepth 20000 in
set_option maxHeartbeats 4000000 in
theorem op_holder {σ τ : zM} {t w : Int} (R : Rel1 σ τ) (ht : -2147483648 ≤ t ∧ t < 2147483648) (hw : -2147483648 ≤ w ∧ w < 2147483648) : Same σ τ (zcall 56 [vR 0, vI t, vI w] σ) (zcall 125 [vR 60, vI t, vI w] τ) := by
  have hn := R.n
  have hm := R.m
  have hc := R.cut
  by_cases q1 : 0 ≤ t ∧ t < σ 1 1
  · have c1 := c_X6_isThing_t (σ := σ) (p := t) q1 (by omega)
    have m1 := m_isThing_t (σ := τ) (p := t) (by omega) (by omega)
    by_cases q2 : w = 0
    · have hf := R.fir t (by omega) (by omega)
      have e := R.fi t (by omega) (by omega)
      have eo := orNM hf.1
      refine Same_id R (orN (σ 7 t)) ?_ ?_
      · rw [S_X6_holder]
        simp (disch := first | exact z_tt rfl | assumption | omega | (simp (disch := omega) only [zU_eq, zU_nc, zU_nj]; omega)) only [↓L_ald_n0, ↓L_ild_n1, ↓I_X6_isThing_0, ↓r_ifeq_t, ↓r_ifeq_f, ↓J_X6_holder_17, ↓L_ild_n2, ↓r_iflt_t, ↓r_iflt_f, ↓r_iconst, ↓r_icle_t, ↓r_icle_f, ↓J_X6_holder_19, ↓r_ireturn, ↓r_ifne_t, ↓r_ifne_f, ↓J_X6_holder_36, ↓F_g0_0, ↓F_g1_3, ↓F_g17_3, ↓A_g3, ↓A_g4, ↓A_g5, ↓A_g6, ↓A_g7, ↓A_g9, ↓A_g10, ↓A_g12, ↓A_g13, ↓A_g15, ↓A_g16, ↓A_g19, ↓A_g20, ↓A_g21, ↓A_g22, ↓A_g23, ↓A_g25, ↓A_g26, ↓A_g28, ↓A_g29, ↓A_g31, ↓A_g32, ↓A_g34, ↓A_g36, ↓A_g37, ↓A_g38, ↓A_g39, ↓A_g41, ↓A_g42, ↓A_g43, ↓A_g44, ↓A_g61, ↓A_g62, ↓A_g63, ↓A_g65, ↓A_g66, ↓A_g67, ↓A_g68, ↓A_g69, ↓A_g70, ↓A_gN, ↓A_gT, ↓A_gC, ↓I_X6_orNoSuch, ↓F_g1_4, ↓F_g17_4, ↓r_icne_t, ↓r_icne_f, ↓J_X6_holder_60, ↓F_g1_5, ↓F_g17_5, ↓r_goto, ↓J_X6_holder_62, ↓r_bipush, ↓U_X6_holder_0, ↓U_X6_holder_17, ↓U_X6_holder_19, ↓U_X6_holder_36, ↓U_X6_holder_60, ↓U_X6_holder_62, ↓zthen_v, ↓zthen_0, zU_eq, zU_nc, zU_nj, c1, c_X6_orNoSuch]
      · rw [S_X7_holder]
        simp (disch := first | exact z_tt rfl | assumption | omega | (simp (disch := omega) only [zU_eq, zU_nc, zU_nj]; omega)) only [↓L_ald_n0, ↓L_ild_n1, ↓I_X7_isThing_60, ↓r_ifeq_t, ↓r_ifeq_f, ↓J_X7_holder_18, ↓L_ild_n2, ↓r_i2l, ↓r_lconst, ↓I_X7_in, ↓r_ifne_t, ↓r_ifne_f, ↓J_X7_holder_20, ↓r_iconst, ↓r_ireturn, ↓F_g60_0, ↓J_X7_holder_32, ↓r_goto, ↓J_X7_holder_34, ↓r_bipush, ↓r_iadd, ↓A_g3, ↓A_g4, ↓A_g5, ↓A_g6, ↓A_g7, ↓A_g9, ↓A_g10, ↓A_g12, ↓A_g13, ↓A_g15, ↓A_g16, ↓A_g19, ↓A_g20, ↓A_g21, ↓A_g22, ↓A_g23, ↓A_g25, ↓A_g26, ↓A_g28, ↓A_g29, ↓A_g31, ↓A_g32, ↓A_g34, ↓A_g36, ↓A_g37, ↓A_g38, ↓A_g39, ↓A_g41, ↓A_g42, ↓A_g43, ↓A_g44, ↓A_g61, ↓A_g62, ↓A_g63, ↓A_g65, ↓A_g66, ↓A_g67, ↓A_g68, ↓A_g69, ↓A_g70, ↓A_gN, ↓A_gT, ↓A_gC, ↓I_X7_orNobody, ↓U_X7_holder_0, ↓U_X7_holder_18, ↓U_X7_holder_20, ↓U_X7_holder_32, ↓U_X7_holder_34, ↓zthen_v, ↓zthen_0, zU_eq, zU_nc, zU_nj, m1, m_in_t, m_orNobody, e, eo]
    · by_cases q3 : w = 1
      · by_cases q4 : σ 1 4 = t
        · have e := (R.cuY t (by omega) (by omega) q4).1
          have eo := orNM hc.2.1.1
          refine Same_id R (orN (σ 1 5)) ?_ ?_
          · rw [S_X6_holder]
            simp (disch := first | exact z_tt rfl | assumption | omega | (simp (disch := omega) only [zU_eq, zU_nc, zU_nj]; omega)) only [↓L_ald_n0, ↓L_ild_n1, ↓I_X6_isThing_0, ↓r_ifeq_t, ↓r_ifeq_f, ↓J_X6_holder_17, ↓L_ild_n2, ↓r_iflt_t, ↓r_iflt_f, ↓r_iconst, ↓r_icle_t, ↓r_icle_f, ↓J_X6_holder_19, ↓r_ireturn, ↓r_ifne_t, ↓r_ifne_f, ↓J_X6_holder_36, ↓F_g0_0, ↓F_g1_3, ↓F_g17_3, ↓A_g3, ↓A_g4, ↓A_g5, ↓A_g6, ↓A_g7, ↓A_g9, ↓A_g10, ↓A_g12, ↓A_g13, ↓A_g15, ↓A_g16, ↓A_g19, ↓A_g20, ↓A_g21, ↓A_g22, ↓A_g23, ↓A_g25, ↓A_g26, ↓A_g28, ↓A_g29, ↓A_g31, ↓A_g32, ↓A_g34, ↓A_g36, ↓A_g37, ↓A_g38, ↓A_g39, ↓A_g41, ↓A_g42, ↓A_g43, ↓A_g44, ↓A_g61, ↓A_g62, ↓A_g63, ↓A_g65, ↓A_g66, ↓A_g67, ↓A_g68, ↓A_g69, ↓A_g70, ↓A_gN, ↓A_gT, ↓A_gC, ↓I_X6_orNoSuch, ↓F_g1_4, ↓F_g17_4, ↓r_icne_t, ↓r_icne_f, ↓J_X6_holder_60, ↓F_g1_5, ↓F_g17_5, ↓r_goto, ↓J_X6_holder_62, ↓r_bipush, ↓U_X6_holder_0, ↓U_X6_holder_17, ↓U_X6_holder_19, ↓U_X6_holder_36, ↓U_X6_holder_60, ↓U_X6_holder_62, ↓zthen_v, ↓zthen_0, zU_eq, zU_nc, zU_nj, c1, c_X6_orNoSuch]
          · rw [S_X7_holder]
            simp (disch := first | exact z_tt rfl | assumption | omega | (simp (disch := omega) only [zU_eq, zU_nc, zU_nj]; omega)) only [↓L_ald_n0, ↓L_ild_n1, ↓I_X7_isThing_60, ↓r_ifeq_t, ↓r_ifeq_f, ↓J_X7_holder_18, ↓L_ild_n2, ↓r_i2l, ↓r_lconst, ↓I_X7_in, ↓r_ifne_t, ↓r_ifne_f, ↓J_X7_holder_20, ↓r_iconst, ↓r_ireturn, ↓F_g60_0, ↓J_X7_holder_32, ↓r_goto, ↓J_X7_holder_34, ↓r_bipush, ↓r_iadd, ↓A_g3, ↓A_g4, ↓A_g5, ↓A_g6, ↓A_g7, ↓A_g9, ↓A_g10, ↓A_g12, ↓A_g13, ↓A_g15, ↓A_g16, ↓A_g19, ↓A_g20, ↓A_g21, ↓A_g22, ↓A_g23, ↓A_g25, ↓A_g26, ↓A_g28, ↓A_g29, ↓A_g31, ↓A_g32, ↓A_g34, ↓A_g36, ↓A_g37, ↓A_g38, ↓A_g39, ↓A_g41, ↓A_g42, ↓A_g43, ↓A_g44, ↓A_g61, ↓A_g62, ↓A_g63, ↓A_g65, ↓A_g66, ↓A_g67, ↓A_g68, ↓A_g69, ↓A_g70, ↓A_gN, ↓A_gT, ↓A_gC, ↓I_X7_orNobody, ↓U_X7_holder_0, ↓U_X7_holder_18, ↓U_X7_holder_20, ↓U_X7_holder_32, ↓U_X7_holder_34, ↓zthen_v, ↓zthen_0, zU_eq, zU_nc, zU_nj, m1, m_in_t, m_orNobody, e, eo]
        · have e := (R.cuN t (by omega) (by omega) q4).1
          have eo : orM (-1) = -5 := by decide
          refine Same_id R (-5) ?_ ?_
          · rw [S_X6_holder]
            simp (disch := first | exact z_tt rfl | assumption | omega | (simp (disch := omega) only [zU_eq, zU_nc, zU_nj]; omega)) only [↓L_ald_n0, ↓L_ild_n1, ↓I_X6_isThing_0, ↓r_ifeq_t, ↓r_ifeq_f, ↓J_X6_holder_17, ↓L_ild_n2, ↓r_iflt_t, ↓r_iflt_f, ↓r_iconst, ↓r_icle_t, ↓r_icle_f, ↓J_X6_holder_19, ↓r_ireturn, ↓r_ifne_t, ↓r_ifne_f, ↓J_X6_holder_36, ↓F_g0_0, ↓F_g1_3, ↓F_g17_3, ↓A_g3, ↓A_g4, ↓A_g5, ↓A_g6, ↓A_g7, ↓A_g9, ↓A_g10, ↓A_g12, ↓A_g13, ↓A_g15, ↓A_g16, ↓A_g19, ↓A_g20, ↓A_g21, ↓A_g22, ↓A_g23, ↓A_g25, ↓A_g26, ↓A_g28, ↓A_g29, ↓A_g31, ↓A_g32, ↓A_g34, ↓A_g36, ↓A_g37, ↓A_g38, ↓A_g39, ↓A_g41, ↓A_g42, ↓A_g43, ↓A_g44, ↓A_g61, ↓A_g62, ↓A_g63, ↓A_g65, ↓A_g66, ↓A_g67, ↓A_g68, ↓A_g69, ↓A_g70, ↓A_gN, ↓A_gT, ↓A_gC, ↓I_X6_orNoSuch, ↓F_g1_4, ↓F_g17_4, ↓r_icne_t, ↓r_icne_f, ↓J_X6_holder_60, ↓F_g1_5, ↓F_g17_5, ↓r_goto, ↓J_X6_holder_62, ↓r_bipush, ↓U_X6_holder_0, ↓U_X6_holder_17, ↓U_X6_holder_19, ↓U_X6_holder_36, ↓U_X6_holder_60, ↓U_X6_holder_62, ↓zthen_v, ↓zthen_0, zU_eq, zU_nc, zU_nj, c1, c_X6_orNoSuch]
          · rw [S_X7_holder]
            simp (disch := first | exact z_tt rfl | assumption | omega | (simp (disch := omega) only [zU_eq, zU_nc, zU_nj]; omega)) only [↓L_ald_n0, ↓L_ild_n1, ↓I_X7_isThing_60, ↓r_ifeq_t, ↓r_ifeq_f, ↓J_X7_holder_18, ↓L_ild_n2, ↓r_i2l, ↓r_lconst, ↓I_X7_in, ↓r_ifne_t, ↓r_ifne_f, ↓J_X7_holder_20, ↓r_iconst, ↓r_ireturn, ↓F_g60_0, ↓J_X7_holder_32, ↓r_goto, ↓J_X7_holder_34, ↓r_bipush, ↓r_iadd, ↓A_g3, ↓A_g4, ↓A_g5, ↓A_g6, ↓A_g7, ↓A_g9, ↓A_g10, ↓A_g12, ↓A_g13, ↓A_g15, ↓A_g16, ↓A_g19, ↓A_g20, ↓A_g21, ↓A_g22, ↓A_g23, ↓A_g25, ↓A_g26, ↓A_g28, ↓A_g29, ↓A_g31, ↓A_g32, ↓A_g34, ↓A_g36, ↓A_g37, ↓A_g38, ↓A_g39, ↓A_g41, ↓A_g42, ↓A_g43, ↓A_g44, ↓A_g61, ↓A_g62, ↓A_g63, ↓A_g65, ↓A_g66, ↓A_g67, ↓A_g68, ↓A_g69, ↓A_g70, ↓A_gN, ↓A_gT, ↓A_gC, ↓I_X7_orNobody, ↓U_X7_holder_0, ↓U_X7_holder_18, ↓U_X7_holder_20, ↓U_X7_holder_32, ↓U_X7_holder_34, ↓zthen_v, ↓zthen_0, zU_eq, zU_nc, zU_nj, m1, m_in_t, m_orNobody, e, eo]
      · refine Same_id R (-1) ?_ ?_
        · rw [S_X6_holder]
          by_cases q4 : w < 0
          · simp (disch := first | exact z_tt rfl | assumption | omega | (simp (disch := omega) only [zU_eq, zU_nc, zU_nj]; omega)) only [↓L_ald_n0, ↓L_ild_n1, ↓I_X6_isThing_0, ↓r_ifeq_t, ↓r_ifeq_f, ↓J_X6_holder_17, ↓L_ild_n2, ↓r_iflt_t, ↓r_iflt_f, ↓r_iconst, ↓r_icle_t, ↓r_icle_f, ↓J_X6_holder_19, ↓r_ireturn, ↓r_ifne_t, ↓r_ifne_f, ↓J_X6_holder_36, ↓F_g0_0, ↓F_g1_3, ↓F_g17_3, ↓A_g3, ↓A_g4, ↓A_g5, ↓A_g6, ↓A_g7, ↓A_g9, ↓A_g10, ↓A_g12, ↓A_g13, ↓A_g15, ↓A_g16, ↓A_g19, ↓A_g20, ↓A_g21, ↓A_g22, ↓A_g23, ↓A_g25, ↓A_g26, ↓A_g28, ↓A_g29, ↓A_g31, ↓A_g32, ↓A_g34, ↓A_g36, ↓A_g37, ↓A_g38, ↓A_g39, ↓A_g41, ↓A_g42, ↓A_g43, ↓A_g44, ↓A_g61, ↓A_g62, ↓A_g63, ↓A_g65, ↓A_g66, ↓A_g67, ↓A_g68, ↓A_g69, ↓A_g70, ↓A_gN, ↓A_gT, ↓A_gC, ↓I_X6_orNoSuch, ↓F_g1_4, ↓F_g17_4, ↓r_icne_t, ↓r_icne_f, ↓J_X6_holder_60, ↓F_g1_5, ↓F_g17_5, ↓r_goto, ↓J_X6_holder_62, ↓r_bipush, ↓U_X6_holder_0, ↓U_X6_holder_17, ↓U_X6_holder_19, ↓U_X6_holder_36, ↓U_X6_holder_60, ↓U_X6_holder_62, ↓zthen_v, ↓zthen_0, zU_eq, zU_nc, zU_nj, c1]
          · simp (disch := first | exact z_tt rfl | assumption | omega | (simp (disch := omega) only [zU_eq, zU_nc, zU_nj]; omega)) only [↓L_ald_n0, ↓L_ild_n1, ↓I_X6_isThing_0, ↓r_ifeq_t, ↓r_ifeq_f, ↓J_X6_holder_17, ↓L_ild_n2, ↓r_iflt_t, ↓r_iflt_f, ↓r_iconst, ↓r_icle_t, ↓r_icle_f, ↓J_X6_holder_19, ↓r_ireturn, ↓r_ifne_t, ↓r_ifne_f, ↓J_X6_holder_36, ↓F_g0_0, ↓F_g1_3, ↓F_g17_3, ↓A_g3, ↓A_g4, ↓A_g5, ↓A_g6, ↓A_g7, ↓A_g9, ↓A_g10, ↓A_g12, ↓A_g13, ↓A_g15, ↓A_g16, ↓A_g19, ↓A_g20, ↓A_g21, ↓A_g22, ↓A_g23, ↓A_g25, ↓A_g26, ↓A_g28, ↓A_g29, ↓A_g31, ↓A_g32, ↓A_g34, ↓A_g36, ↓A_g37, ↓A_g38, ↓A_g39, ↓A_g41, ↓A_g42, ↓A_g43, ↓A_g44, ↓A_g61, ↓A_g62, ↓A_g63, ↓A_g65, ↓A_g66, ↓A_g67, ↓A_g68, ↓A_g69, ↓A_g70, ↓A_gN, ↓A_gT, ↓A_gC, ↓I_X6_orNoSuch, ↓F_g1_4, ↓F_g17_4, ↓r_icne_t, ↓r_icne_f, ↓J_X6_holder_60, ↓F_g1_5, ↓F_g17_5, ↓r_goto, ↓J_X6_holder_62, ↓r_bipush, ↓U_X6_holder_0, ↓U_X6_holder_17, ↓U_X6_holder_19, ↓U_X6_holder_36, ↓U_X6_holder_60, ↓U_X6_holder_62, ↓zthen_v, ↓zthen_0, zU_eq, zU_nc, zU_nj, c1]
        · rw [S_X7_holder]
          simp (disch := first | exact z_tt rfl | assumption | omega | (simp (disch := omega) only [zU_eq, zU_nc, zU_nj]; omega)) only [↓L_ald_n0, ↓L_ild_n1, ↓I_X7_isThing_60, ↓r_ifeq_t, ↓r_ifeq_f, ↓J_X7_holder_18, ↓L_ild_n2, ↓r_i2l, ↓r_lconst, ↓I_X7_in, ↓r_ifne_t, ↓r_ifne_f, ↓J_X7_holder_20, ↓r_iconst, ↓r_ireturn, ↓F_g60_0, ↓J_X7_holder_32, ↓r_goto, ↓J_X7_holder_34, ↓r_bipush, ↓r_iadd, ↓A_g3, ↓A_g4, ↓A_g5, ↓A_g6, ↓A_g7, ↓A_g9, ↓A_g10, ↓A_g12, ↓A_g13, ↓A_g15, ↓A_g16, ↓A_g19, ↓A_g20, ↓A_g21, ↓A_g22, ↓A_g23, ↓A_g25, ↓A_g26, ↓A_g28, ↓A_g29, ↓A_g31, ↓A_g32, ↓A_g34, ↓A_g36, ↓A_g37, ↓A_g38, ↓A_g39, ↓A_g41, ↓A_g42, ↓A_g43, ↓A_g44, ↓A_g61, ↓A_g62, ↓A_g63, ↓A_g65, ↓A_g66, ↓A_g67, ↓A_g68, ↓A_g69, ↓A_g70, ↓A_gN, ↓A_gT, ↓A_gC, ↓I_X7_orNobody, ↓U_X7_holder_0, ↓U_X7_holder_18, ↓U_X7_holder_20, ↓U_X7_holder_32, ↓U_X7_holder_34, ↓zthen_v, ↓zthen_0, zU_eq, zU_nc, zU_nj, m1, m_in_f]
  · have c1 := c_X6_isThing_f (σ := σ) (p := t) (by omega) (by omega)
    have m1 := m_isThing_f (σ := τ) (p := t) (by omega) (by omega)
    refine Same_id R (-1) ?_ ?_
    · rw [S_X6_holder]
      simp (disch := first | exact z_tt rfl | assumption | omega | (simp (disch := omega) only [zU_eq, zU_nc, zU_nj]; omega)) only [↓L_ald_n0, ↓L_ild_n1, ↓I_X6_isThing_0, ↓r_ifeq_t, ↓r_ifeq_f, ↓J_X6_holder_17, ↓L_ild_n2, ↓r_iflt_t, ↓r_iflt_f, ↓r_iconst, ↓r_icle_t, ↓r_icle_f, ↓J_X6_holder_19, ↓r_ireturn, ↓r_ifne_t, ↓r_ifne_f, ↓J_X6_holder_36, ↓F_g0_0, ↓F_g1_3, ↓F_g17_3, ↓A_g3, ↓A_g4, ↓A_g5, ↓A_g6, ↓A_g7, ↓A_g9, ↓A_g10, ↓A_g12, ↓A_g13, ↓A_g15, ↓A_g16, ↓A_g19, ↓A_g20, ↓A_g21, ↓A_g22, ↓A_g23, ↓A_g25, ↓A_g26, ↓A_g28, ↓A_g29, ↓A_g31, ↓A_g32, ↓A_g34, ↓A_g36, ↓A_g37, ↓A_g38, ↓A_g39, ↓A_g41, ↓A_g42, ↓A_g43, ↓A_g44, ↓A_g61, ↓A_g62, ↓A_g63, ↓A_g65, ↓A_g66, ↓A_g67, ↓A_g68, ↓A_g69, ↓A_g70, ↓A_gN, ↓A_gT, ↓A_gC, ↓I_X6_orNoSuch, ↓F_g1_4, ↓F_g17_4, ↓r_icne_t, ↓r_icne_f, ↓J_X6_holder_60, ↓F_g1_5, ↓F_g17_5, ↓r_goto, ↓J_X6_holder_62, ↓r_bipush, ↓U_X6_holder_0, ↓U_X6_holder_17, ↓U_X6_holder_19, ↓U_X6_holder_36, ↓U_X6_holder_60, ↓U_X6_holder_62, ↓zthen_v, ↓zthen_0, zU_eq, zU_nc, zU_nj, c1]
    · rw [S_X7_holder]
      simp (disch := first | exact z_tt rfl | assumption | omega | (simp (disch := omega) only [zU_eq, zU_nc, zU_nj]; omega)) only [↓L_ald_n0, ↓L_ild_n1, ↓I_X7_isThing_60, ↓r_ifeq_t, ↓r_ifeq_f, ↓J_X7_holder_18, ↓L_ild_n2, ↓r_i2l, ↓r_lconst, ↓I_X7_in, ↓r_ifne_t, ↓r_ifne_f, ↓J_X7_holder_20, ↓r_iconst, ↓r_ireturn, ↓F_g60_0, ↓J_X7_holder_32, ↓r_goto, ↓J_X7_holder_34, ↓r_bipush, ↓r_iadd, ↓A_g3, ↓A_g4, ↓A_g5, ↓A_g6, ↓A_g7, ↓A_g9, ↓A_g10, ↓A_g12, ↓A_g13, ↓A_g15, ↓A_g16, ↓A_g19, ↓A_g20, ↓A_g21, ↓A_g22, ↓A_g23, ↓A_g25, ↓A_g26, ↓A_g28, ↓A_g29, ↓A_g31, ↓A_g32, ↓A_g34, ↓A_g36, ↓A_g37, ↓A_g38, ↓A_g39, ↓A_g41, ↓A_g42, ↓A_g43, ↓A_g44, ↓A_g61, ↓A_g62, ↓A_g63, ↓A_g65, ↓A_g66, ↓A_g67, ↓A_g68, ↓A_g69, ↓A_g70, ↓A_gN, ↓A_gT, ↓A_gC, ↓I_X7_orNobody, ↓U_X7_holder_0, ↓U_X7_holder_18, ↓U_X7_holder_20, ↓U_X7_holder_32, ↓U_X7_holder_34, ↓zthen_v, ↓zthen_0, zU_eq, zU_nc, zU_nj, m1]
