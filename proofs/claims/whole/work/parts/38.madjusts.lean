set_option maxRecDepth 20000 in
theorem m_movesAll {τ : zM} {r p f : Int} (hV : V1 τ) (hF : Fl τ) (hr : 0 ≤ r ∧ r < 4) (hp : 0 ≤ p ∧ p < 4) (hf : 0 ≤ f ∧ f < 2) (er : τ 60 9 = r) (ep : τ 60 10 = p) : zcall 149 [vR 60, vI f] τ = some (none, mvM r p f (τ 61 1).toNat 0 τ) := by
  have v1 := hV.2.1
  rw [S_X7_movesAll]
  simp (disch := first | exact z_tt rfl | assumption | omega | (simp (disch := omega) only [zU_eq, zU_nc, zU_nj]; omega)) only [↓L_ald_n0, ↓F_g60_9, ↓L_ist_n2, ↓L_ist_n2L, ↓F_g60_10, ↓L_ist_n3, ↓L_ist_n3L, ↓r_iconst, ↓L_ist4, ↓L_ist4L, ↓L_ild4, ↓F_g60_0, ↓A_g3, ↓A_g4, ↓A_g5, ↓A_g6, ↓A_g7, ↓A_g9, ↓A_g10, ↓A_g12, ↓A_g13, ↓A_g15, ↓A_g16, ↓A_g19, ↓A_g20, ↓A_g21, ↓A_g22, ↓A_g23, ↓A_g25, ↓A_g26, ↓A_g28, ↓A_g29, ↓A_g31, ↓A_g32, ↓A_g34, ↓A_g36, ↓A_g37, ↓A_g38, ↓A_g39, ↓A_g41, ↓A_g42, ↓A_g43, ↓A_g44, ↓A_g61, ↓A_g62, ↓A_g63, ↓A_g65, ↓A_g66, ↓A_g67, ↓A_g68, ↓A_g69, ↓A_g70, ↓A_gN, ↓A_gT, ↓A_gC, ↓r_icge_t, ↓r_icge_f, ↓J_X7_movesAll_159, ↓L_ild_n2, ↓L_ild_n3, ↓I_X7_byRatio_60, ↓L_ist5, ↓L_ist5L, ↓F_g60_4, ↓L_ild5, ↓A_b46, ↓A_z64, ↓L_ild_n1, ↓r_iceq_t, ↓r_iceq_f, ↓J_X7_movesAll_48, ↓r_goto, ↓J_X7_movesAll_153, ↓I_X7_moreOf_60, ↓L_ist6, ↓L_ist6L, ↓L_ild6, ↓r_ifne_t, ↓r_ifne_f, ↓J_X7_movesAll_63, ↓r_return, ↓J_X7_movesAll_77, ↓J_X7_movesAll_78, ↓A_bp46, ↓A_zp64, ↓r_ifge_t, ↓r_ifge_f, ↓J_X7_movesAll_143, ↓F_p60_5, ↓r_i2l, ↓F_p60_6, ↓I_X7_pointsOf_60, ↓I_X7_allOf_60, ↓r_imul, ↓r_iadd, ↓F_p60_7, ↓r_dupI, ↓r_dupR, ↓F_g60_8, ↓F_p60_8, ↓L_iinc4, ↓J_X7_movesAll_13, ↓U_X7_movesAll_0, ↓U_X7_movesAll_48, ↓U_X7_movesAll_63, ↓U_X7_movesAll_77, ↓U_X7_movesAll_78, ↓U_X7_movesAll_143, ↓U_X7_movesAll_153, ↓U_X7_movesAll_159, ↓zthen_v, ↓zthen_0, zU_eq, zU_nc, zU_nj, er, ep]
  exact m_mv_loop hr hp hf (τ 61 1).toNat 0 τ _ _ hV hF (by omega) (by omega)
def afM (i j aI aJ : Int) : Nat → Int → zM → zM
  | 0, _, τ => τ
  | n + 1, t, τ => afM i j aI aJ n (t + 1) (zU τ 64 t (if Qp τ j t * aI ≤ Qp τ i t * aJ then 1 else 0))
theorem afM_nc (i j aI aJ : Int) : ∀ (n : Nat) (t : Int) (τ : zM) (c : Int), c < 64 ∨ 64 < c → afM i j aI aJ n t τ c = τ c
  | 0, t, τ, c, h => rfl
  | n + 1, t, τ, c, h => by rw [afM, afM_nc i j aI aJ n (t + 1) _ c h, zU_row _ _ _ _ _ h]
theorem afM_Fl {i j aI aJ : Int} : ∀ (n : Nat) (t : Int) (τ : zM), Fl τ → Fl (afM i j aI aJ n t τ)
  | 0, t, τ, h => h
  | n + 1, t, τ, h => by
    rw [afM]
    exact afM_Fl n (t + 1) _ (Fl_64 h (by split <;> omega))
/-- what adjusts leaves -/
def mo2 (τ : zM) (i j : Int) : zM := zU (zU (zU (zU (afM i j (allM τ i) (allM τ j) (τ 61 1).toNat 0 τ) 60 5 (-1)) 60 6 0) 60 7 1) 60 8 0
def moreM (τ : zM) (i j : Int) : Int := mor (mo2 τ i j) i j 1
def mo3 (τ : zM) (i j : Int) : zM := zU (zU (mo2 τ i j) 60 9 (if 0 < moreM τ i j then i else if moreM τ i j < 0 then j else -1)) 60 10 (if 0 < moreM τ i j then j else i)
def moS (τ : zM) (i j : Int) : zM := if 0 < moreM τ i j then mvM i j 1 (τ 61 1).toNat 0 (mo3 τ i j) else if moreM τ i j < 0 then mvM j i 0 (τ 61 1).toNat 0 (mo3 τ i j) else mo3 τ i j
theorem mo2_61 (τ : zM) (i j : Int) : mo2 τ i j 61 = τ 61 := by
  unfold mo2
  rw [zU_row _ _ _ _ _ (by omega), zU_row _ _ _ _ _ (by omega), zU_row _ _ _ _ _ (by omega), zU_row _ _ _ _ _ (by omega), afM_nc _ _ _ _ _ _ _ _ (by omega)]
theorem mo3_61 (τ : zM) (i j : Int) : mo3 τ i j 61 = τ 61 := by
  unfold mo3
  rw [zU_row _ _ _ _ _ (by omega), zU_row _ _ _ _ _ (by omega), mo2_61]
theorem mo2_Fl {τ : zM} (hF : Fl τ) (i j : Int) : Fl (mo2 τ i j) := by
  unfold mo2
  exact Fl_o (Fl_o (Fl_o (Fl_o (afM_Fl _ _ _ hF) (by omega)) (by omega)) (by omega)) (by omega)
theorem mo3_Fl {τ : zM} (hF : Fl τ) (i j : Int) : Fl (mo3 τ i j) := by
  unfold mo3
  exact Fl_o (Fl_o (mo2_Fl hF i j) (by omega)) (by omega)
set_option maxRecDepth 20000 in
set_option maxHeartbeats 4000000 in
theorem m_af_loop {i j : Int} {G : zO} (hi : 0 ≤ i ∧ i < 4) (hj : 0 ≤ j ∧ j < 4) : ∀ (n : Nat) (t : Int) (τ : zM), V1 τ → 0 ≤ t → t + n = τ 61 1 → zres 148 C_X7_adjusts_74 [vR 60, vI i, vI j, vI (τ 61 1)] [] (afM i j (allM τ i) (allM τ j) n t τ) = G → zres 148 C_X7_adjusts_20 [vR 60, vI i, vI j, vI t] [] τ = G := by
  intro n
  induction n with
  | zero =>
    intro t τ hV ht hn hG
    have v1 := hV.2.1
    have e : t = τ 61 1 := by omega
    rw [afM, ← e] at hG
    rw [U_X7_adjusts_20]
    simp (disch := first | exact z_tt rfl | assumption | omega | (simp (disch := omega) only [zU_eq, zU_nc, zU_nj]; omega)) only [↓L_ald_n0, ↓L_ild_n1, ↓I_X7_allOf_60, ↓r_ifeq_t, ↓r_ifeq_f, ↓J_X7_adjusts_16, ↓L_ild_n2, ↓r_ifne_t, ↓r_ifne_f, ↓J_X7_adjusts_18, ↓r_iconst, ↓r_zreturn, ↓L_ist_n3, ↓L_ist_n3L, ↓L_ild_n3, ↓F_g60_0, ↓A_g3, ↓A_g4, ↓A_g5, ↓A_g6, ↓A_g7, ↓A_g9, ↓A_g10, ↓A_g12, ↓A_g13, ↓A_g15, ↓A_g16, ↓A_g19, ↓A_g20, ↓A_g21, ↓A_g22, ↓A_g23, ↓A_g25, ↓A_g26, ↓A_g28, ↓A_g29, ↓A_g31, ↓A_g32, ↓A_g34, ↓A_g36, ↓A_g37, ↓A_g38, ↓A_g39, ↓A_g41, ↓A_g42, ↓A_g43, ↓A_g44, ↓A_g61, ↓A_g62, ↓A_g63, ↓A_g65, ↓A_g66, ↓A_g67, ↓A_g68, ↓A_g69, ↓A_g70, ↓A_gN, ↓A_gT, ↓A_gC, ↓r_icge_t, ↓r_icge_f, ↓J_X7_adjusts_74, ↓F_g60_4, ↓I_X7_pointsOf_60, ↓r_imul, ↓r_iclt_t, ↓r_iclt_f, ↓J_X7_adjusts_66, ↓r_goto, ↓J_X7_adjusts_67, ↓A_bp46, ↓A_zp64, ↓L_iinc3, ↓J_X7_adjusts_20, ↓F_p60_5, ↓r_lconst, ↓F_p60_6, ↓F_p60_7, ↓F_p60_8, ↓I_X7_moreOf_60, ↓r_ifle_t, ↓r_ifle_f, ↓J_X7_adjusts_111, ↓J_X7_adjusts_120, ↓r_ifge_t, ↓r_ifge_f, ↓J_X7_adjusts_119, ↓F_p60_9, ↓J_X7_adjusts_132, ↓J_X7_adjusts_133, ↓F_p60_10, ↓J_X7_adjusts_157, ↓F_g60_9, ↓r_icne_t, ↓r_icne_f, ↓J_X7_adjusts_153, ↓J_X7_adjusts_154, ↓I_X7_movesAll_60, ↓U_X7_adjusts_0, ↓U_X7_adjusts_16, ↓U_X7_adjusts_18, ↓U_X7_adjusts_66, ↓U_X7_adjusts_67, ↓U_X7_adjusts_111, ↓U_X7_adjusts_119, ↓U_X7_adjusts_120, ↓U_X7_adjusts_132, ↓U_X7_adjusts_133, ↓U_X7_adjusts_153, ↓U_X7_adjusts_154, ↓U_X7_adjusts_157, ↓zthen_v, ↓zthen_0, zU_eq, zU_nc, zU_nj]
    exact hG
  | succ n ih =>
    intro t τ hV ht hn hG
    have v1 := hV.2.1
    have htt : 0 ≤ t ∧ t < τ 61 1 := by omega
    have q1 := m_ptsQ (τ := τ) (p := i) (t := t) (by omega)
    have q2 := m_ptsQ (τ := τ) (p := j) (t := t) (by omega)
    have q3 := m_allOf (σ := τ) v1 hi
    have q4 := m_allOf (σ := τ) v1 hj
    have b1 := mul_bd (Qp_bd hV hi htt) (allM_bd hV hj)
    have b2 := mul_bd (Qp_bd hV hj htt) (allM_bd hV hi)
    rw [afM] at hG
    have key : ∀ w : Int, zres 148 C_X7_adjusts_74 [vR 60, vI i, vI j, vI (τ 61 1)] [] (afM i j (allM τ i) (allM τ j) n (t + 1) (zU τ 64 t w)) = G → zres 148 C_X7_adjusts_20 [vR 60, vI i, vI j, vI (t + 1)] [] (zU τ 64 t w) = G := by
      intro w hw
      have e61 : zU τ 64 t w 61 = τ 61 := zU_row _ _ _ _ _ (by omega)
      exact ih (t + 1) _ (V1_of hV e61) (by omega) (by rw [e61]; omega) (by rw [allM_of e61, allM_of e61, e61]; exact hw)
    rw [U_X7_adjusts_20]
    by_cases h : Qp τ j t * allM τ i ≤ Qp τ i t * allM τ j
    · rw [if_pos h] at hG
      simp (disch := first | exact z_tt rfl | assumption | omega | (simp (disch := omega) only [zU_eq, zU_nc, zU_nj]; omega)) only [↓L_ald_n0, ↓L_ild_n1, ↓I_X7_allOf_60, ↓r_ifeq_t, ↓r_ifeq_f, ↓J_X7_adjusts_16, ↓L_ild_n2, ↓r_ifne_t, ↓r_ifne_f, ↓J_X7_adjusts_18, ↓r_iconst, ↓r_zreturn, ↓L_ist_n3, ↓L_ist_n3L, ↓L_ild_n3, ↓F_g60_0, ↓A_g3, ↓A_g4, ↓A_g5, ↓A_g6, ↓A_g7, ↓A_g9, ↓A_g10, ↓A_g12, ↓A_g13, ↓A_g15, ↓A_g16, ↓A_g19, ↓A_g20, ↓A_g21, ↓A_g22, ↓A_g23, ↓A_g25, ↓A_g26, ↓A_g28, ↓A_g29, ↓A_g31, ↓A_g32, ↓A_g34, ↓A_g36, ↓A_g37, ↓A_g38, ↓A_g39, ↓A_g41, ↓A_g42, ↓A_g43, ↓A_g44, ↓A_g61, ↓A_g62, ↓A_g63, ↓A_g65, ↓A_g66, ↓A_g67, ↓A_g68, ↓A_g69, ↓A_g70, ↓A_gN, ↓A_gT, ↓A_gC, ↓r_icge_t, ↓r_icge_f, ↓J_X7_adjusts_74, ↓F_g60_4, ↓I_X7_pointsOf_60, ↓r_imul, ↓r_iclt_t, ↓r_iclt_f, ↓J_X7_adjusts_66, ↓r_goto, ↓J_X7_adjusts_67, ↓A_bp46, ↓A_zp64, ↓L_iinc3, ↓J_X7_adjusts_20, ↓F_p60_5, ↓r_lconst, ↓F_p60_6, ↓F_p60_7, ↓F_p60_8, ↓I_X7_moreOf_60, ↓r_ifle_t, ↓r_ifle_f, ↓J_X7_adjusts_111, ↓J_X7_adjusts_120, ↓r_ifge_t, ↓r_ifge_f, ↓J_X7_adjusts_119, ↓F_p60_9, ↓J_X7_adjusts_132, ↓J_X7_adjusts_133, ↓F_p60_10, ↓J_X7_adjusts_157, ↓F_g60_9, ↓r_icne_t, ↓r_icne_f, ↓J_X7_adjusts_153, ↓J_X7_adjusts_154, ↓I_X7_movesAll_60, ↓U_X7_adjusts_0, ↓U_X7_adjusts_16, ↓U_X7_adjusts_18, ↓U_X7_adjusts_66, ↓U_X7_adjusts_67, ↓U_X7_adjusts_111, ↓U_X7_adjusts_119, ↓U_X7_adjusts_120, ↓U_X7_adjusts_132, ↓U_X7_adjusts_133, ↓U_X7_adjusts_153, ↓U_X7_adjusts_154, ↓U_X7_adjusts_157, ↓zthen_v, ↓zthen_0, zU_eq, zU_nc, zU_nj, q1, q2, q3, q4]
      exact key 1 hG
    · rw [if_neg h] at hG
      simp (disch := first | exact z_tt rfl | assumption | omega | (simp (disch := omega) only [zU_eq, zU_nc, zU_nj]; omega)) only [↓L_ald_n0, ↓L_ild_n1, ↓I_X7_allOf_60, ↓r_ifeq_t, ↓r_ifeq_f, ↓J_X7_adjusts_16, ↓L_ild_n2, ↓r_ifne_t, ↓r_ifne_f, ↓J_X7_adjusts_18, ↓r_iconst, ↓r_zreturn, ↓L_ist_n3, ↓L_ist_n3L, ↓L_ild_n3, ↓F_g60_0, ↓A_g3, ↓A_g4, ↓A_g5, ↓A_g6, ↓A_g7, ↓A_g9, ↓A_g10, ↓A_g12, ↓A_g13, ↓A_g15, ↓A_g16, ↓A_g19, ↓A_g20, ↓A_g21, ↓A_g22, ↓A_g23, ↓A_g25, ↓A_g26, ↓A_g28, ↓A_g29, ↓A_g31, ↓A_g32, ↓A_g34, ↓A_g36, ↓A_g37, ↓A_g38, ↓A_g39, ↓A_g41, ↓A_g42, ↓A_g43, ↓A_g44, ↓A_g61, ↓A_g62, ↓A_g63, ↓A_g65, ↓A_g66, ↓A_g67, ↓A_g68, ↓A_g69, ↓A_g70, ↓A_gN, ↓A_gT, ↓A_gC, ↓r_icge_t, ↓r_icge_f, ↓J_X7_adjusts_74, ↓F_g60_4, ↓I_X7_pointsOf_60, ↓r_imul, ↓r_iclt_t, ↓r_iclt_f, ↓J_X7_adjusts_66, ↓r_goto, ↓J_X7_adjusts_67, ↓A_bp46, ↓A_zp64, ↓L_iinc3, ↓J_X7_adjusts_20, ↓F_p60_5, ↓r_lconst, ↓F_p60_6, ↓F_p60_7, ↓F_p60_8, ↓I_X7_moreOf_60, ↓r_ifle_t, ↓r_ifle_f, ↓J_X7_adjusts_111, ↓J_X7_adjusts_120, ↓r_ifge_t, ↓r_ifge_f, ↓J_X7_adjusts_119, ↓F_p60_9, ↓J_X7_adjusts_132, ↓J_X7_adjusts_133, ↓F_p60_10, ↓J_X7_adjusts_157, ↓F_g60_9, ↓r_icne_t, ↓r_icne_f, ↓J_X7_adjusts_153, ↓J_X7_adjusts_154, ↓I_X7_movesAll_60, ↓U_X7_adjusts_0, ↓U_X7_adjusts_16, ↓U_X7_adjusts_18, ↓U_X7_adjusts_66, ↓U_X7_adjusts_67, ↓U_X7_adjusts_111, ↓U_X7_adjusts_119, ↓U_X7_adjusts_120, ↓U_X7_adjusts_132, ↓U_X7_adjusts_133, ↓U_X7_adjusts_153, ↓U_X7_adjusts_154, ↓U_X7_adjusts_157, ↓zthen_v, ↓zthen_0, zU_eq, zU_nc, zU_nj, q1, q2, q3, q4]
      exact key 0 hG
set_option maxRecDepth 20000 in
theorem m_adjusts_f {τ : zM} {i j : Int} (hV : V1 τ) (hi : 0 ≤ i ∧ i < 4) (hj : 0 ≤ j ∧ j < 4) (h : allM τ i = 0 ∨ allM τ j = 0) : zcall 148 [vR 60, vI i, vI j] τ = some (some (vI 0), τ) := by
  have v1 := hV.2.1
  have q3 := m_allOf (σ := τ) v1 hi
  have q4 := m_allOf (σ := τ) v1 hj
  have b1 := allM_bd hV hi
  have b2 := allM_bd hV hj
  rw [S_X7_adjusts]
  by_cases h1 : allM τ i = 0
  · simp (disch := first | exact z_tt rfl | assumption | omega | (simp (disch := omega) only [zU_eq, zU_nc, zU_nj]; omega)) only [↓L_ald_n0, ↓L_ild_n1, ↓I_X7_allOf_60, ↓r_ifeq_t, ↓r_ifeq_f, ↓J_X7_adjusts_16, ↓L_ild_n2, ↓r_ifne_t, ↓r_ifne_f, ↓J_X7_adjusts_18, ↓r_iconst, ↓r_zreturn, ↓L_ist_n3, ↓L_ist_n3L, ↓L_ild_n3, ↓F_g60_0, ↓A_g3, ↓A_g4, ↓A_g5, ↓A_g6, ↓A_g7, ↓A_g9, ↓A_g10, ↓A_g12, ↓A_g13, ↓A_g15, ↓A_g16, ↓A_g19, ↓A_g20, ↓A_g21, ↓A_g22, ↓A_g23, ↓A_g25, ↓A_g26, ↓A_g28, ↓A_g29, ↓A_g31, ↓A_g32, ↓A_g34, ↓A_g36, ↓A_g37, ↓A_g38, ↓A_g39, ↓A_g41, ↓A_g42, ↓A_g43, ↓A_g44, ↓A_g61, ↓A_g62, ↓A_g63, ↓A_g65, ↓A_g66, ↓A_g67, ↓A_g68, ↓A_g69, ↓A_g70, ↓A_gN, ↓A_gT, ↓A_gC, ↓r_icge_t, ↓r_icge_f, ↓J_X7_adjusts_74, ↓F_g60_4, ↓I_X7_pointsOf_60, ↓r_imul, ↓r_iclt_t, ↓r_iclt_f, ↓J_X7_adjusts_66, ↓r_goto, ↓J_X7_adjusts_67, ↓A_bp46, ↓A_zp64, ↓L_iinc3, ↓J_X7_adjusts_20, ↓F_p60_5, ↓r_lconst, ↓F_p60_6, ↓F_p60_7, ↓F_p60_8, ↓I_X7_moreOf_60, ↓r_ifle_t, ↓r_ifle_f, ↓J_X7_adjusts_111, ↓J_X7_adjusts_120, ↓r_ifge_t, ↓r_ifge_f, ↓J_X7_adjusts_119, ↓F_p60_9, ↓J_X7_adjusts_132, ↓J_X7_adjusts_133, ↓F_p60_10, ↓J_X7_adjusts_157, ↓F_g60_9, ↓r_icne_t, ↓r_icne_f, ↓J_X7_adjusts_153, ↓J_X7_adjusts_154, ↓I_X7_movesAll_60, ↓U_X7_adjusts_0, ↓U_X7_adjusts_16, ↓U_X7_adjusts_18, ↓U_X7_adjusts_20, ↓U_X7_adjusts_66, ↓U_X7_adjusts_67, ↓U_X7_adjusts_74, ↓U_X7_adjusts_111, ↓U_X7_adjusts_119, ↓U_X7_adjusts_120, ↓U_X7_adjusts_132, ↓U_X7_adjusts_133, ↓U_X7_adjusts_153, ↓U_X7_adjusts_154, ↓U_X7_adjusts_157, ↓zthen_v, ↓zthen_0, zU_eq, zU_nc, zU_nj, q3, q4]
  · have h2 := h.resolve_left h1
    simp (disch := first | exact z_tt rfl | assumption | omega | (simp (disch := omega) only [zU_eq, zU_nc, zU_nj]; omega)) only [↓L_ald_n0, ↓L_ild_n1, ↓I_X7_allOf_60, ↓r_ifeq_t, ↓r_ifeq_f, ↓J_X7_adjusts_16, ↓L_ild_n2, ↓r_ifne_t, ↓r_ifne_f, ↓J_X7_adjusts_18, ↓r_iconst, ↓r_zreturn, ↓L_ist_n3, ↓L_ist_n3L, ↓L_ild_n3, ↓F_g60_0, ↓A_g3, ↓A_g4, ↓A_g5, ↓A_g6, ↓A_g7, ↓A_g9, ↓A_g10, ↓A_g12, ↓A_g13, ↓A_g15, ↓A_g16, ↓A_g19, ↓A_g20, ↓A_g21, ↓A_g22, ↓A_g23, ↓A_g25, ↓A_g26, ↓A_g28, ↓A_g29, ↓A_g31, ↓A_g32, ↓A_g34, ↓A_g36, ↓A_g37, ↓A_g38, ↓A_g39, ↓A_g41, ↓A_g42, ↓A_g43, ↓A_g44, ↓A_g61, ↓A_g62, ↓A_g63, ↓A_g65, ↓A_g66, ↓A_g67, ↓A_g68, ↓A_g69, ↓A_g70, ↓A_gN, ↓A_gT, ↓A_gC, ↓r_icge_t, ↓r_icge_f, ↓J_X7_adjusts_74, ↓F_g60_4, ↓I_X7_pointsOf_60, ↓r_imul, ↓r_iclt_t, ↓r_iclt_f, ↓J_X7_adjusts_66, ↓r_goto, ↓J_X7_adjusts_67, ↓A_bp46, ↓A_zp64, ↓L_iinc3, ↓J_X7_adjusts_20, ↓F_p60_5, ↓r_lconst, ↓F_p60_6, ↓F_p60_7, ↓F_p60_8, ↓I_X7_moreOf_60, ↓r_ifle_t, ↓r_ifle_f, ↓J_X7_adjusts_111, ↓J_X7_adjusts_120, ↓r_ifge_t, ↓r_ifge_f, ↓J_X7_adjusts_119, ↓F_p60_9, ↓J_X7_adjusts_132, ↓J_X7_adjusts_133, ↓F_p60_10, ↓J_X7_adjusts_157, ↓F_g60_9, ↓r_icne_t, ↓r_icne_f, ↓J_X7_adjusts_153, ↓J_X7_adjusts_154, ↓I_X7_movesAll_60, ↓U_X7_adjusts_0, ↓U_X7_adjusts_16, ↓U_X7_adjusts_18, ↓U_X7_adjusts_20, ↓U_X7_adjusts_66, ↓U_X7_adjusts_67, ↓U_X7_adjusts_74, ↓U_X7_adjusts_111, ↓U_X7_adjusts_119, ↓U_X7_adjusts_120, ↓U_X7_adjusts_132, ↓U_X7_adjusts_133, ↓U_X7_adjusts_153, ↓U_X7_adjusts_154, ↓U_X7_adjusts_157, ↓zthen_v, ↓zthen_0, zU_eq, zU_nc, zU_nj, q3, q4]
set_option maxRecDepth 20000 in
set_option maxHeartbeats 4000000 in
theorem m_adjusts {τ : zM} {i j : Int} (hV : V1 τ) (hF : Fl τ) (hi : 0 ≤ i ∧ i < 4) (hj : 0 ≤ j ∧ j < 4) (hij : i < j ∨ j < i) (h0 : ¬ allM τ i = 0) (h1 : ¬ allM τ j = 0) : zcall 148 [vR 60, vI i, vI j] τ = some (some (vI 1), moS τ i j) := by
  have v1 := hV.2.1
  have q3 := m_allOf (σ := τ) v1 hi
  have q4 := m_allOf (σ := τ) v1 hj
  have b1 := allM_bd hV hi
  have b2 := allM_bd hV hj
  rw [S_X7_adjusts]
  simp (disch := first | exact z_tt rfl | assumption | omega | (simp (disch := omega) only [zU_eq, zU_nc, zU_nj]; omega)) only [↓L_ald_n0, ↓L_ild_n1, ↓I_X7_allOf_60, ↓r_ifeq_t, ↓r_ifeq_f, ↓J_X7_adjusts_16, ↓L_ild_n2, ↓r_ifne_t, ↓r_ifne_f, ↓J_X7_adjusts_18, ↓r_iconst, ↓r_zreturn, ↓L_ist_n3, ↓L_ist_n3L, ↓L_ild_n3, ↓F_g60_0, ↓A_g3, ↓A_g4, ↓A_g5, ↓A_g6, ↓A_g7, ↓A_g9, ↓A_g10, ↓A_g12, ↓A_g13, ↓A_g15, ↓A_g16, ↓A_g19, ↓A_g20, ↓A_g21, ↓A_g22, ↓A_g23, ↓A_g25, ↓A_g26, ↓A_g28, ↓A_g29, ↓A_g31, ↓A_g32, ↓A_g34, ↓A_g36, ↓A_g37, ↓A_g38, ↓A_g39, ↓A_g41, ↓A_g42, ↓A_g43, ↓A_g44, ↓A_g61, ↓A_g62, ↓A_g63, ↓A_g65, ↓A_g66, ↓A_g67, ↓A_g68, ↓A_g69, ↓A_g70, ↓A_gN, ↓A_gT, ↓A_gC, ↓r_icge_t, ↓r_icge_f, ↓J_X7_adjusts_74, ↓F_g60_4, ↓I_X7_pointsOf_60, ↓r_imul, ↓r_iclt_t, ↓r_iclt_f, ↓J_X7_adjusts_66, ↓r_goto, ↓J_X7_adjusts_67, ↓A_bp46, ↓A_zp64, ↓L_iinc3, ↓J_X7_adjusts_20, ↓F_p60_5, ↓r_lconst, ↓F_p60_6, ↓F_p60_7, ↓F_p60_8, ↓I_X7_moreOf_60, ↓r_ifle_t, ↓r_ifle_f, ↓J_X7_adjusts_111, ↓J_X7_adjusts_120, ↓r_ifge_t, ↓r_ifge_f, ↓J_X7_adjusts_119, ↓F_p60_9, ↓J_X7_adjusts_132, ↓J_X7_adjusts_133, ↓F_p60_10, ↓J_X7_adjusts_157, ↓F_g60_9, ↓r_icne_t, ↓r_icne_f, ↓J_X7_adjusts_153, ↓J_X7_adjusts_154, ↓I_X7_movesAll_60, ↓U_X7_adjusts_0, ↓U_X7_adjusts_16, ↓U_X7_adjusts_18, ↓U_X7_adjusts_66, ↓U_X7_adjusts_67, ↓U_X7_adjusts_111, ↓U_X7_adjusts_119, ↓U_X7_adjusts_120, ↓U_X7_adjusts_132, ↓U_X7_adjusts_133, ↓U_X7_adjusts_153, ↓U_X7_adjusts_154, ↓U_X7_adjusts_157, ↓zthen_v, ↓zthen_0, zU_eq, zU_nc, zU_nj, q3, q4]
  refine m_af_loop hi hj (τ 61 1).toNat 0 τ hV (by omega) (by omega) ?_
  rw [U_X7_adjusts_74]
  have hmo := m_moreOf (V1_of hV (mo2_61 τ i j)) (mo2_Fl hF i j) hi hj (f := 1) (by omega)
  have hmb := mor_bd (V1_of hV (mo2_61 τ i j)) (i := i) (j := j) (f := 1) hi hj
  change zcall 147 [vR 60, vI i, vI j, vI 1] (mo2 τ i j) = some (some (vI (moreM τ i j)), mo2 τ i j) at hmo
  change -352836 ≤ moreM τ i j ∧ moreM τ i j ≤ 352836 at hmb
  have e2 : mo2 τ i j = zU (zU (zU (zU (afM i j (allM τ i) (allM τ j) (τ 61 1).toNat 0 τ) 60 5 (-1)) 60 6 0) 60 7 1) 60 8 0 := rfl
  have h61 : (mo3 τ i j) 61 = τ 61 := mo3_61 τ i j
  rcases (show 0 < moreM τ i j ∨ moreM τ i j = 0 ∨ moreM τ i j < 0 by omega) with hL | hL | hL
  · have e3 : mo3 τ i j = zU (zU (mo2 τ i j) 60 9 i) 60 10 j := by unfold mo3; rw [if_pos hL, if_pos hL]
    have hmv := m_movesAll (τ := mo3 τ i j) (r := i) (p := j) (f := 1) (V1_of hV h61) (mo3_Fl hF i j) hi hj (by omega) (by rw [e3, zU_nj _ _ _ _ _ (by omega), zU_eq]) (by rw [e3, zU_eq])
    rw [h61] at hmv
    have e4 : moS τ i j = mvM i j 1 (τ 61 1).toNat 0 (mo3 τ i j) := by unfold moS; rw [if_pos hL]
    rw [← e4, e3, e2] at hmv
    rw [e2] at hmo
    simp (disch := first | exact z_tt rfl | assumption | omega | (simp (disch := omega) only [zU_eq, zU_nc, zU_nj]; omega)) only [↓L_ald_n0, ↓L_ild_n1, ↓I_X7_allOf_60, ↓r_ifeq_t, ↓r_ifeq_f, ↓J_X7_adjusts_16, ↓L_ild_n2, ↓r_ifne_t, ↓r_ifne_f, ↓J_X7_adjusts_18, ↓r_iconst, ↓r_zreturn, ↓L_ist_n3, ↓L_ist_n3L, ↓L_ild_n3, ↓F_g60_0, ↓A_g3, ↓A_g4, ↓A_g5, ↓A_g6, ↓A_g7, ↓A_g9, ↓A_g10, ↓A_g12, ↓A_g13, ↓A_g15, ↓A_g16, ↓A_g19, ↓A_g20, ↓A_g21, ↓A_g22, ↓A_g23, ↓A_g25, ↓A_g26, ↓A_g28, ↓A_g29, ↓A_g31, ↓A_g32, ↓A_g34, ↓A_g36, ↓A_g37, ↓A_g38, ↓A_g39, ↓A_g41, ↓A_g42, ↓A_g43, ↓A_g44, ↓A_g61, ↓A_g62, ↓A_g63, ↓A_g65, ↓A_g66, ↓A_g67, ↓A_g68, ↓A_g69, ↓A_g70, ↓A_gN, ↓A_gT, ↓A_gC, ↓r_icge_t, ↓r_icge_f, ↓J_X7_adjusts_74, ↓F_g60_4, ↓I_X7_pointsOf_60, ↓r_imul, ↓r_iclt_t, ↓r_iclt_f, ↓J_X7_adjusts_66, ↓r_goto, ↓J_X7_adjusts_67, ↓A_bp46, ↓A_zp64, ↓L_iinc3, ↓J_X7_adjusts_20, ↓F_p60_5, ↓r_lconst, ↓F_p60_6, ↓F_p60_7, ↓F_p60_8, ↓I_X7_moreOf_60, ↓r_ifle_t, ↓r_ifle_f, ↓J_X7_adjusts_111, ↓J_X7_adjusts_120, ↓r_ifge_t, ↓r_ifge_f, ↓J_X7_adjusts_119, ↓F_p60_9, ↓J_X7_adjusts_132, ↓J_X7_adjusts_133, ↓F_p60_10, ↓J_X7_adjusts_157, ↓F_g60_9, ↓r_icne_t, ↓r_icne_f, ↓J_X7_adjusts_153, ↓J_X7_adjusts_154, ↓I_X7_movesAll_60, ↓U_X7_adjusts_0, ↓U_X7_adjusts_16, ↓U_X7_adjusts_18, ↓U_X7_adjusts_66, ↓U_X7_adjusts_67, ↓U_X7_adjusts_111, ↓U_X7_adjusts_119, ↓U_X7_adjusts_120, ↓U_X7_adjusts_132, ↓U_X7_adjusts_133, ↓U_X7_adjusts_153, ↓U_X7_adjusts_154, ↓U_X7_adjusts_157, ↓zthen_v, ↓zthen_0, zU_eq, zU_nc, zU_nj, hmo, hmv]
  · have e3 : mo3 τ i j = zU (zU (mo2 τ i j) 60 9 (-1)) 60 10 i := by unfold mo3; rw [if_neg (by omega), if_neg (by omega), if_neg (by omega)]
    have e4 : moS τ i j = mo3 τ i j := by unfold moS; rw [if_neg (by omega), if_neg (by omega)]
    rw [e4, e3, e2]
    rw [e2] at hmo
    simp (disch := first | exact z_tt rfl | assumption | omega | (simp (disch := omega) only [zU_eq, zU_nc, zU_nj]; omega)) only [↓L_ald_n0, ↓L_ild_n1, ↓I_X7_allOf_60, ↓r_ifeq_t, ↓r_ifeq_f, ↓J_X7_adjusts_16, ↓L_ild_n2, ↓r_ifne_t, ↓r_ifne_f, ↓J_X7_adjusts_18, ↓r_iconst, ↓r_zreturn, ↓L_ist_n3, ↓L_ist_n3L, ↓L_ild_n3, ↓F_g60_0, ↓A_g3, ↓A_g4, ↓A_g5, ↓A_g6, ↓A_g7, ↓A_g9, ↓A_g10, ↓A_g12, ↓A_g13, ↓A_g15, ↓A_g16, ↓A_g19, ↓A_g20, ↓A_g21, ↓A_g22, ↓A_g23, ↓A_g25, ↓A_g26, ↓A_g28, ↓A_g29, ↓A_g31, ↓A_g32, ↓A_g34, ↓A_g36, ↓A_g37, ↓A_g38, ↓A_g39, ↓A_g41, ↓A_g42, ↓A_g43, ↓A_g44, ↓A_g61, ↓A_g62, ↓A_g63, ↓A_g65, ↓A_g66, ↓A_g67, ↓A_g68, ↓A_g69, ↓A_g70, ↓A_gN, ↓A_gT, ↓A_gC, ↓r_icge_t, ↓r_icge_f, ↓J_X7_adjusts_74, ↓F_g60_4, ↓I_X7_pointsOf_60, ↓r_imul, ↓r_iclt_t, ↓r_iclt_f, ↓J_X7_adjusts_66, ↓r_goto, ↓J_X7_adjusts_67, ↓A_bp46, ↓A_zp64, ↓L_iinc3, ↓J_X7_adjusts_20, ↓F_p60_5, ↓r_lconst, ↓F_p60_6, ↓F_p60_7, ↓F_p60_8, ↓I_X7_moreOf_60, ↓r_ifle_t, ↓r_ifle_f, ↓J_X7_adjusts_111, ↓J_X7_adjusts_120, ↓r_ifge_t, ↓r_ifge_f, ↓J_X7_adjusts_119, ↓F_p60_9, ↓J_X7_adjusts_132, ↓J_X7_adjusts_133, ↓F_p60_10, ↓J_X7_adjusts_157, ↓F_g60_9, ↓r_icne_t, ↓r_icne_f, ↓J_X7_adjusts_153, ↓J_X7_adjusts_154, ↓I_X7_movesAll_60, ↓U_X7_adjusts_0, ↓U_X7_adjusts_16, ↓U_X7_adjusts_18, ↓U_X7_adjusts_66, ↓U_X7_adjusts_67, ↓U_X7_adjusts_111, ↓U_X7_adjusts_119, ↓U_X7_adjusts_120, ↓U_X7_adjusts_132, ↓U_X7_adjusts_133, ↓U_X7_adjusts_153, ↓U_X7_adjusts_154, ↓U_X7_adjusts_157, ↓zthen_v, ↓zthen_0, zU_eq, zU_nc, zU_nj, hmo]
  · have e3 : mo3 τ i j = zU (zU (mo2 τ i j) 60 9 j) 60 10 i := by unfold mo3; rw [if_neg (by omega), if_pos hL, if_neg (by omega)]
    have hmv := m_movesAll (τ := mo3 τ i j) (r := j) (p := i) (f := 0) (V1_of hV h61) (mo3_Fl hF i j) hj hi (by omega) (by rw [e3, zU_nj _ _ _ _ _ (by omega), zU_eq]) (by rw [e3, zU_eq])
    rw [h61] at hmv
    have e4 : moS τ i j = mvM j i 0 (τ 61 1).toNat 0 (mo3 τ i j) := by unfold moS; rw [if_neg (by omega), if_pos hL]
    rw [← e4, e3, e2] at hmv
    rw [e2] at hmo
    simp (disch := first | exact z_tt rfl | assumption | omega | (simp (disch := omega) only [zU_eq, zU_nc, zU_nj]; omega)) only [↓L_ald_n0, ↓L_ild_n1, ↓I_X7_allOf_60, ↓r_ifeq_t, ↓r_ifeq_f, ↓J_X7_adjusts_16, ↓L_ild_n2, ↓r_ifne_t, ↓r_ifne_f, ↓J_X7_adjusts_18, ↓r_iconst, ↓r_zreturn, ↓L_ist_n3, ↓L_ist_n3L, ↓L_ild_n3, ↓F_g60_0, ↓A_g3, ↓A_g4, ↓A_g5, ↓A_g6, ↓A_g7, ↓A_g9, ↓A_g10, ↓A_g12, ↓A_g13, ↓A_g15, ↓A_g16, ↓A_g19, ↓A_g20, ↓A_g21, ↓A_g22, ↓A_g23, ↓A_g25, ↓A_g26, ↓A_g28, ↓A_g29, ↓A_g31, ↓A_g32, ↓A_g34, ↓A_g36, ↓A_g37, ↓A_g38, ↓A_g39, ↓A_g41, ↓A_g42, ↓A_g43, ↓A_g44, ↓A_g61, ↓A_g62, ↓A_g63, ↓A_g65, ↓A_g66, ↓A_g67, ↓A_g68, ↓A_g69, ↓A_g70, ↓A_gN, ↓A_gT, ↓A_gC, ↓r_icge_t, ↓r_icge_f, ↓J_X7_adjusts_74, ↓F_g60_4, ↓I_X7_pointsOf_60, ↓r_imul, ↓r_iclt_t, ↓r_iclt_f, ↓J_X7_adjusts_66, ↓r_goto, ↓J_X7_adjusts_67, ↓A_bp46, ↓A_zp64, ↓L_iinc3, ↓J_X7_adjusts_20, ↓F_p60_5, ↓r_lconst, ↓F_p60_6, ↓F_p60_7, ↓F_p60_8, ↓I_X7_moreOf_60, ↓r_ifle_t, ↓r_ifle_f, ↓J_X7_adjusts_111, ↓J_X7_adjusts_120, ↓r_ifge_t, ↓r_ifge_f, ↓J_X7_adjusts_119, ↓F_p60_9, ↓J_X7_adjusts_132, ↓J_X7_adjusts_133, ↓F_p60_10, ↓J_X7_adjusts_157, ↓F_g60_9, ↓r_icne_t, ↓r_icne_f, ↓J_X7_adjusts_153, ↓J_X7_adjusts_154, ↓I_X7_movesAll_60, ↓U_X7_adjusts_0, ↓U_X7_adjusts_16, ↓U_X7_adjusts_18, ↓U_X7_adjusts_66, ↓U_X7_adjusts_67, ↓U_X7_adjusts_111, ↓U_X7_adjusts_119, ↓U_X7_adjusts_120, ↓U_X7_adjusts_132, ↓U_X7_adjusts_133, ↓U_X7_adjusts_153, ↓U_X7_adjusts_154, ↓U_X7_adjusts_157, ↓zthen_v, ↓zthen_0, zU_eq, zU_nc, zU_nj, hmo, hmv]
