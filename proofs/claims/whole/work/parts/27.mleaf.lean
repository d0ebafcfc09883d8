/-! the reference's leaves; its set-up is row 61 -/
def V1 (τ : zM) : Prop := (2 ≤ τ 61 0 ∧ τ 61 0 ≤ 4) ∧ (0 ≤ τ 61 1 ∧ τ 61 1 ≤ 6) ∧ (∀ p t : Int, 0 ≤ p → p < 4 → 0 ≤ t → t < τ 61 1 → 0 ≤ τ 61 (29 + 6 * p + t) ∧ τ 61 (29 + 6 * p + t) ≤ 99) ∧ (∀ t : Int, 0 ≤ t → t < τ 61 1 → (-1 ≤ τ 61 (5 + t) ∧ τ 61 (5 + t) < 4) ∧ (-1 ≤ τ 61 (11 + t) ∧ τ 61 (11 + t) < 4) ∧ 0 ≤ τ 61 (17 + t) ∧ τ 61 (17 + t) < τ 61 (23 + t) ∧ τ 61 (23 + t) ≤ 200000)
set_option maxRecDepth 20000 in
theorem m_in_t {σ : zM} {v lo hi : Int} (h : lo ≤ v ∧ v ≤ hi ∧ -2147483648 ≤ lo ∧ hi < 2147483648) : zcall 105 [vL v, vL lo, vL hi] σ = some (some (vI 1), σ) := by
  rw [S_X7_in]
  simp (disch := first | exact z_tt rfl | assumption | omega | (simp (disch := omega) only [zU_eq, zU_nc, zU_nj]; omega)) only [↓L_lld_n0, ↓L_lld_n2, ↓r_iflt_t, ↓r_iflt_f, ↓J_X7_in_17, ↓r_llt_t, ↓r_llt_f, ↓L_lld4, ↓r_ifgt_t, ↓r_ifgt_f, ↓r_lgt_t, ↓r_lgt_f, ↓r_iconst, ↓r_goto, ↓J_X7_in_18, ↓r_zreturn, ↓U_X7_in_0, ↓U_X7_in_17, ↓U_X7_in_18, ↓zthen_v, ↓zthen_0, zU_eq, zU_nc, zU_nj]
set_option maxRecDepth 20000 in
theorem m_in_f {σ : zM} {v lo hi : Int} (h : (v < lo ∨ hi < v) ∧ -2147483648 ≤ lo ∧ lo < 2147483648 ∧ -2147483648 ≤ hi ∧ hi < 2147483648 ∧ -2147483648 ≤ v ∧ v < 2147483648) : zcall 105 [vL v, vL lo, vL hi] σ = some (some (vI 0), σ) := by
  rw [S_X7_in]
  by_cases h1 : v < lo
  · simp (disch := first | exact z_tt rfl | assumption | omega | (simp (disch := omega) only [zU_eq, zU_nc, zU_nj]; omega)) only [↓L_lld_n0, ↓L_lld_n2, ↓r_iflt_t, ↓r_iflt_f, ↓J_X7_in_17, ↓r_llt_t, ↓r_llt_f, ↓L_lld4, ↓r_ifgt_t, ↓r_ifgt_f, ↓r_lgt_t, ↓r_lgt_f, ↓r_iconst, ↓r_goto, ↓J_X7_in_18, ↓r_zreturn, ↓U_X7_in_0, ↓U_X7_in_17, ↓U_X7_in_18, ↓zthen_v, ↓zthen_0, zU_eq, zU_nc, zU_nj]
  · simp (disch := first | exact z_tt rfl | assumption | omega | (simp (disch := omega) only [zU_eq, zU_nc, zU_nj]; omega)) only [↓L_lld_n0, ↓L_lld_n2, ↓r_iflt_t, ↓r_iflt_f, ↓J_X7_in_17, ↓r_llt_t, ↓r_llt_f, ↓L_lld4, ↓r_ifgt_t, ↓r_ifgt_f, ↓r_lgt_t, ↓r_lgt_f, ↓r_iconst, ↓r_goto, ↓J_X7_in_18, ↓r_zreturn, ↓U_X7_in_0, ↓U_X7_in_17, ↓U_X7_in_18, ↓zthen_v, ↓zthen_0, zU_eq, zU_nc, zU_nj]
set_option maxRecDepth 20000 in
theorem m_isParty_t {σ : zM} {p : Int} (h : 0 ≤ p ∧ p < σ 61 0) (hn : σ 61 0 ≤ 4) : zcall 106 [vR 60, vI p] σ = some (some (vI 1), σ) := by
  rw [S_X7_isParty]
  simp (disch := first | exact z_tt rfl | assumption | omega | (simp (disch := omega) only [zU_eq, zU_nc, zU_nj]; omega)) only [↓L_ild_n1, ↓r_i2l, ↓r_lconst, ↓L_ald_n0, ↓F_g60_0, ↓r_iconst, ↓A_g3, ↓A_g4, ↓A_g5, ↓A_g6, ↓A_g7, ↓A_g9, ↓A_g10, ↓A_g12, ↓A_g13, ↓A_g15, ↓A_g16, ↓A_g19, ↓A_g20, ↓A_g21, ↓A_g22, ↓A_g23, ↓A_g25, ↓A_g26, ↓A_g28, ↓A_g29, ↓A_g31, ↓A_g32, ↓A_g34, ↓A_g36, ↓A_g37, ↓A_g38, ↓A_g39, ↓A_g41, ↓A_g42, ↓A_g43, ↓A_g44, ↓A_g61, ↓A_g62, ↓A_g63, ↓A_g65, ↓A_g66, ↓A_g67, ↓A_g68, ↓A_g69, ↓A_g70, ↓A_gN, ↓A_gT, ↓A_gC, ↓r_isub, ↓I_X7_in, ↓r_zreturn, ↓U_X7_isParty_0, ↓zthen_v, ↓zthen_0, zU_eq, zU_nc, zU_nj, m_in_t]
set_option maxRecDepth 20000 in
theorem m_isParty_f {σ : zM} {p : Int} (h : (p < 0 ∨ σ 61 0 ≤ p) ∧ -2147483648 ≤ p ∧ p < 2147483648) (hn : 0 ≤ σ 61 0 ∧ σ 61 0 ≤ 4) : zcall 106 [vR 60, vI p] σ = some (some (vI 0), σ) := by
  rw [S_X7_isParty]
  simp (disch := first | exact z_tt rfl | assumption | omega | (simp (disch := omega) only [zU_eq, zU_nc, zU_nj]; omega)) only [↓L_ild_n1, ↓r_i2l, ↓r_lconst, ↓L_ald_n0, ↓F_g60_0, ↓r_iconst, ↓A_g3, ↓A_g4, ↓A_g5, ↓A_g6, ↓A_g7, ↓A_g9, ↓A_g10, ↓A_g12, ↓A_g13, ↓A_g15, ↓A_g16, ↓A_g19, ↓A_g20, ↓A_g21, ↓A_g22, ↓A_g23, ↓A_g25, ↓A_g26, ↓A_g28, ↓A_g29, ↓A_g31, ↓A_g32, ↓A_g34, ↓A_g36, ↓A_g37, ↓A_g38, ↓A_g39, ↓A_g41, ↓A_g42, ↓A_g43, ↓A_g44, ↓A_g61, ↓A_g62, ↓A_g63, ↓A_g65, ↓A_g66, ↓A_g67, ↓A_g68, ↓A_g69, ↓A_g70, ↓A_gN, ↓A_gT, ↓A_gC, ↓r_isub, ↓I_X7_in, ↓r_zreturn, ↓U_X7_isParty_0, ↓zthen_v, ↓zthen_0, zU_eq, zU_nc, zU_nj, m_in_f]
set_option maxRecDepth 20000 in
theorem m_isThing_t {σ : zM} {p : Int} (h : 0 ≤ p ∧ p < σ 61 1) (hn : σ 61 1 ≤ 6) : zcall 107 [vR 60, vI p] σ = some (some (vI 1), σ) := by
  rw [S_X7_isThing]
  simp (disch := first | exact z_tt rfl | assumption | omega | (simp (disch := omega) only [zU_eq, zU_nc, zU_nj]; omega)) only [↓L_ild_n1, ↓r_i2l, ↓r_lconst, ↓L_ald_n0, ↓F_g60_0, ↓r_iconst, ↓A_g3, ↓A_g4, ↓A_g5, ↓A_g6, ↓A_g7, ↓A_g9, ↓A_g10, ↓A_g12, ↓A_g13, ↓A_g15, ↓A_g16, ↓A_g19, ↓A_g20, ↓A_g21, ↓A_g22, ↓A_g23, ↓A_g25, ↓A_g26, ↓A_g28, ↓A_g29, ↓A_g31, ↓A_g32, ↓A_g34, ↓A_g36, ↓A_g37, ↓A_g38, ↓A_g39, ↓A_g41, ↓A_g42, ↓A_g43, ↓A_g44, ↓A_g61, ↓A_g62, ↓A_g63, ↓A_g65, ↓A_g66, ↓A_g67, ↓A_g68, ↓A_g69, ↓A_g70, ↓A_gN, ↓A_gT, ↓A_gC, ↓r_isub, ↓I_X7_in, ↓r_zreturn, ↓U_X7_isThing_0, ↓zthen_v, ↓zthen_0, zU_eq, zU_nc, zU_nj, m_in_t]
set_option maxRecDepth 20000 in
theorem m_isThing_f {σ : zM} {p : Int} (h : (p < 0 ∨ σ 61 1 ≤ p) ∧ -2147483648 ≤ p ∧ p < 2147483648) (hn : 0 ≤ σ 61 1 ∧ σ 61 1 ≤ 6) : zcall 107 [vR 60, vI p] σ = some (some (vI 0), σ) := by
  rw [S_X7_isThing]
  simp (disch := first | exact z_tt rfl | assumption | omega | (simp (disch := omega) only [zU_eq, zU_nc, zU_nj]; omega)) only [↓L_ild_n1, ↓r_i2l, ↓r_lconst, ↓L_ald_n0, ↓F_g60_0, ↓r_iconst, ↓A_g3, ↓A_g4, ↓A_g5, ↓A_g6, ↓A_g7, ↓A_g9, ↓A_g10, ↓A_g12, ↓A_g13, ↓A_g15, ↓A_g16, ↓A_g19, ↓A_g20, ↓A_g21, ↓A_g22, ↓A_g23, ↓A_g25, ↓A_g26, ↓A_g28, ↓A_g29, ↓A_g31, ↓A_g32, ↓A_g34, ↓A_g36, ↓A_g37, ↓A_g38, ↓A_g39, ↓A_g41, ↓A_g42, ↓A_g43, ↓A_g44, ↓A_g61, ↓A_g62, ↓A_g63, ↓A_g65, ↓A_g66, ↓A_g67, ↓A_g68, ↓A_g69, ↓A_g70, ↓A_gN, ↓A_gT, ↓A_gC, ↓r_isub, ↓I_X7_in, ↓r_zreturn, ↓U_X7_isThing_0, ↓zthen_v, ↓zthen_0, zU_eq, zU_nc, zU_nj, m_in_f]
set_option maxRecDepth 20000 in
theorem m_areTwo_t {σ : zM} {i j : Int} (h : 0 ≤ i ∧ i < σ 61 0 ∧ 0 ≤ j ∧ j < σ 61 0 ∧ (i < j ∨ j < i)) (hn : σ 61 0 ≤ 4) : zcall 108 [vR 60, vI i, vI j] σ = some (some (vI 1), σ) := by
  rw [S_X7_areTwo]
  simp (disch := first | exact z_tt rfl | assumption | omega | (simp (disch := omega) only [zU_eq, zU_nc, zU_nj]; omega)) only [↓L_ald_n0, ↓L_ild_n1, ↓I_X7_isParty_60, ↓r_ifeq_t, ↓r_ifeq_f, ↓J_X7_areTwo_25, ↓L_ild_n2, ↓r_iceq_t, ↓r_iceq_f, ↓r_iconst, ↓r_goto, ↓J_X7_areTwo_26, ↓r_zreturn, ↓U_X7_areTwo_0, ↓U_X7_areTwo_25, ↓U_X7_areTwo_26, ↓zthen_v, ↓zthen_0, zU_eq, zU_nc, zU_nj, m_isParty_t]
set_option maxRecDepth 20000 in
theorem m_areTwo_f {σ : zM} {i j : Int} (h : (i < 0 ∨ σ 61 0 ≤ i ∨ j < 0 ∨ σ 61 0 ≤ j ∨ i = j) ∧ -2147483648 ≤ i ∧ i < 2147483648 ∧ -2147483648 ≤ j ∧ j < 2147483648) (hn : 0 ≤ σ 61 0 ∧ σ 61 0 ≤ 4) : zcall 108 [vR 60, vI i, vI j] σ = some (some (vI 0), σ) := by
  rw [S_X7_areTwo]
  by_cases h1 : i < 0 ∨ σ 61 0 ≤ i
  · simp (disch := first | exact z_tt rfl | assumption | omega | (simp (disch := omega) only [zU_eq, zU_nc, zU_nj]; omega)) only [↓L_ald_n0, ↓L_ild_n1, ↓I_X7_isParty_60, ↓r_ifeq_t, ↓r_ifeq_f, ↓J_X7_areTwo_25, ↓L_ild_n2, ↓r_iceq_t, ↓r_iceq_f, ↓r_iconst, ↓r_goto, ↓J_X7_areTwo_26, ↓r_zreturn, ↓U_X7_areTwo_0, ↓U_X7_areTwo_25, ↓U_X7_areTwo_26, ↓zthen_v, ↓zthen_0, zU_eq, zU_nc, zU_nj, m_isParty_f]
  · by_cases h2 : j < 0 ∨ σ 61 0 ≤ j
    · simp (disch := first | exact z_tt rfl | assumption | omega | (simp (disch := omega) only [zU_eq, zU_nc, zU_nj]; omega)) only [↓L_ald_n0, ↓L_ild_n1, ↓I_X7_isParty_60, ↓r_ifeq_t, ↓r_ifeq_f, ↓J_X7_areTwo_25, ↓L_ild_n2, ↓r_iceq_t, ↓r_iceq_f, ↓r_iconst, ↓r_goto, ↓J_X7_areTwo_26, ↓r_zreturn, ↓U_X7_areTwo_0, ↓U_X7_areTwo_25, ↓U_X7_areTwo_26, ↓zthen_v, ↓zthen_0, zU_eq, zU_nc, zU_nj, m_isParty_f, m_isParty_t]
    · simp (disch := first | exact z_tt rfl | assumption | omega | (simp (disch := omega) only [zU_eq, zU_nc, zU_nj]; omega)) only [↓L_ald_n0, ↓L_ild_n1, ↓I_X7_isParty_60, ↓r_ifeq_t, ↓r_ifeq_f, ↓J_X7_areTwo_25, ↓L_ild_n2, ↓r_iceq_t, ↓r_iceq_f, ↓r_iconst, ↓r_goto, ↓J_X7_areTwo_26, ↓r_zreturn, ↓U_X7_areTwo_0, ↓U_X7_areTwo_25, ↓U_X7_areTwo_26, ↓zthen_v, ↓zthen_0, zU_eq, zU_nc, zU_nj, m_isParty_t]
set_option maxRecDepth 20000 in
theorem m_isPart_t {σ : zM} {p : Int} (h : 0 ≤ p ∧ p ≤ 1) : zcall 109 [vI p] σ = some (some (vI 1), σ) := by
  rw [S_X7_isPart]
  by_cases h1 : p = 0
  · simp (disch := first | exact z_tt rfl | assumption | omega | (simp (disch := omega) only [zU_eq, zU_nc, zU_nj]; omega)) only [↓L_ild_n0, ↓r_ifeq_t, ↓r_ifeq_f, ↓J_X7_isPart_9, ↓r_iconst, ↓r_icne_t, ↓r_icne_f, ↓J_X7_isPart_13, ↓r_goto, ↓J_X7_isPart_14, ↓r_zreturn, ↓U_X7_isPart_0, ↓U_X7_isPart_9, ↓U_X7_isPart_13, ↓U_X7_isPart_14, ↓zthen_v, ↓zthen_0, zU_eq, zU_nc, zU_nj]
  · simp (disch := first | exact z_tt rfl | assumption | omega | (simp (disch := omega) only [zU_eq, zU_nc, zU_nj]; omega)) only [↓L_ild_n0, ↓r_ifeq_t, ↓r_ifeq_f, ↓J_X7_isPart_9, ↓r_iconst, ↓r_icne_t, ↓r_icne_f, ↓J_X7_isPart_13, ↓r_goto, ↓J_X7_isPart_14, ↓r_zreturn, ↓U_X7_isPart_0, ↓U_X7_isPart_9, ↓U_X7_isPart_13, ↓U_X7_isPart_14, ↓zthen_v, ↓zthen_0, zU_eq, zU_nc, zU_nj]
set_option maxRecDepth 20000 in
theorem m_isPart_f {σ : zM} {p : Int} (h : (p < 0 ∨ 1 < p) ∧ -2147483648 ≤ p ∧ p < 2147483648) : zcall 109 [vI p] σ = some (some (vI 0), σ) := by
  rw [S_X7_isPart]
  simp (disch := first | exact z_tt rfl | assumption | omega | (simp (disch := omega) only [zU_eq, zU_nc, zU_nj]; omega)) only [↓L_ild_n0, ↓r_ifeq_t, ↓r_ifeq_f, ↓J_X7_isPart_9, ↓r_iconst, ↓r_icne_t, ↓r_icne_f, ↓J_X7_isPart_13, ↓r_goto, ↓J_X7_isPart_14, ↓r_zreturn, ↓U_X7_isPart_0, ↓U_X7_isPart_9, ↓U_X7_isPart_13, ↓U_X7_isPart_14, ↓zthen_v, ↓zthen_0, zU_eq, zU_nc, zU_nj]
set_option maxRecDepth 20000 in
theorem m_isTape_t {σ : zM} {p : Int} (h : 0 ≤ p ∧ p < 6) : zcall 185 [vI p] σ = some (some (vI 1), σ) := by
  rw [S_X7_isTape]
  simp (disch := first | exact z_tt rfl | assumption | omega | (simp (disch := omega) only [zU_eq, zU_nc, zU_nj]; omega)) only [↓L_ild_n0, ↓r_i2l, ↓r_lconst, ↓r_ldc2w, ↓I_X7_in, ↓r_zreturn, ↓U_X7_isTape_0, ↓zthen_v, ↓zthen_0, zU_eq, zU_nc, zU_nj, m_in_t]
set_option maxRecDepth 20000 in
theorem m_isTape_f {σ : zM} {p : Int} (h : (p < 0 ∨ 6 ≤ p) ∧ -2147483648 ≤ p ∧ p < 2147483648) : zcall 185 [vI p] σ = some (some (vI 0), σ) := by
  rw [S_X7_isTape]
  simp (disch := first | exact z_tt rfl | assumption | omega | (simp (disch := omega) only [zU_eq, zU_nc, zU_nj]; omega)) only [↓L_ild_n0, ↓r_i2l, ↓r_lconst, ↓r_ldc2w, ↓I_X7_in, ↓r_zreturn, ↓U_X7_isTape_0, ↓zthen_v, ↓zthen_0, zU_eq, zU_nc, zU_nj, m_in_f]
def orM (x : Int) : Int := if x = -1 then -5 else x
set_option maxRecDepth 20000 in
theorem m_orNobody {σ : zM} {p : Int} (h : -2147483648 ≤ p ∧ p < 2147483648) : zcall 118 [vI p] σ = some (some (vI (orM p)), σ) := by
  rw [S_X7_orNobody]
  unfold orM
  by_cases h1 : p = -1
  · rw [if_pos h1]
    simp (disch := first | exact z_tt rfl | assumption | omega | (simp (disch := omega) only [zU_eq, zU_nc, zU_nj]; omega)) only [↓L_ild_n0, ↓r_iconst, ↓r_icne_t, ↓r_icne_f, ↓J_X7_orNobody_10, ↓r_bipush, ↓r_goto, ↓J_X7_orNobody_11, ↓r_ireturn, ↓U_X7_orNobody_0, ↓U_X7_orNobody_10, ↓U_X7_orNobody_11, ↓zthen_v, ↓zthen_0, zU_eq, zU_nc, zU_nj]
  · rw [if_neg h1]
    simp (disch := first | exact z_tt rfl | assumption | omega | (simp (disch := omega) only [zU_eq, zU_nc, zU_nj]; omega)) only [↓L_ild_n0, ↓r_iconst, ↓r_icne_t, ↓r_icne_f, ↓J_X7_orNobody_10, ↓r_bipush, ↓r_goto, ↓J_X7_orNobody_11, ↓r_ireturn, ↓U_X7_orNobody_0, ↓U_X7_orNobody_10, ↓U_X7_orNobody_11, ↓zthen_v, ↓zthen_0, zU_eq, zU_nc, zU_nj]
set_option maxRecDepth 20000 in
theorem m_pointsOf {σ : zM} {p t : Int} (h : 0 ≤ p ∧ p < 4 ∧ 0 ≤ t ∧ t < 6) : zcall 113 [vR 60, vI p, vI t] σ = some (some (vI (σ 61 (29 + 6 * p + t))), σ) := by
  rw [S_X7_pointsOf]
  simp (disch := first | exact z_tt rfl | assumption | omega | (simp (disch := omega) only [zU_eq, zU_nc, zU_nj]; omega)) only [↓L_ald_n0, ↓F_g60_0, ↓r_bipush, ↓L_ild_n1, ↓r_imul, ↓r_iadd, ↓L_ild_n2, ↓A_g3, ↓A_g4, ↓A_g5, ↓A_g6, ↓A_g7, ↓A_g9, ↓A_g10, ↓A_g12, ↓A_g13, ↓A_g15, ↓A_g16, ↓A_g19, ↓A_g20, ↓A_g21, ↓A_g22, ↓A_g23, ↓A_g25, ↓A_g26, ↓A_g28, ↓A_g29, ↓A_g31, ↓A_g32, ↓A_g34, ↓A_g36, ↓A_g37, ↓A_g38, ↓A_g39, ↓A_g41, ↓A_g42, ↓A_g43, ↓A_g44, ↓A_g61, ↓A_g62, ↓A_g63, ↓A_g65, ↓A_g66, ↓A_g67, ↓A_g68, ↓A_g69, ↓A_g70, ↓A_gN, ↓A_gT, ↓A_gC, ↓r_ireturn, ↓U_X7_pointsOf_0, ↓zthen_v, ↓zthen_0, zU_eq, zU_nc, zU_nj]
def holdM (σ : zM) (t p : Int) : zM := zU (zU (zU (zU σ 61 (5 + t) p) 61 (11 + t) (-1)) 61 (17 + t) 0) 61 (23 + t) 1
set_option maxRecDepth 20000 in
theorem m_holds {σ : zM} {t p : Int} (h : 0 ≤ t ∧ t < 6) : zcall 112 [vR 60, vI t, vI p] σ = some (none, holdM σ t p) := by
  rw [S_X7_holds]
  simp (disch := first | exact z_tt rfl | assumption | omega | (simp (disch := omega) only [zU_eq, zU_nc, zU_nj]; omega)) only [↓L_ald_n0, ↓F_g60_0, ↓r_iconst, ↓L_ild_n1, ↓r_iadd, ↓L_ild_n2, ↓A_p3, ↓A_p4, ↓A_p5, ↓A_p6, ↓A_p7, ↓A_p9, ↓A_p10, ↓A_p12, ↓A_p13, ↓A_p15, ↓A_p16, ↓A_p19, ↓A_p20, ↓A_p21, ↓A_p22, ↓A_p23, ↓A_p25, ↓A_p26, ↓A_p28, ↓A_p29, ↓A_p31, ↓A_p32, ↓A_p34, ↓A_p36, ↓A_p37, ↓A_p38, ↓A_p39, ↓A_p41, ↓A_p42, ↓A_p43, ↓A_p44, ↓A_p61, ↓A_p62, ↓A_p63, ↓A_p65, ↓A_p66, ↓A_p67, ↓A_p68, ↓A_p69, ↓A_p70, ↓A_pN, ↓A_pT, ↓r_bipush, ↓r_return, ↓U_X7_holds_0, ↓zthen_v, ↓zthen_0, zU_eq, zU_nc, zU_nj]
  rfl
def allM (σ : zM) (p : Int) : Int := sumI (fun t => σ 61 (29 + 6 * p + t)) 0 (σ 61 1).toNat
set_option maxRecDepth 20000 in
theorem m_allOf_loop {σ : zM} {p : Int} (hm : σ 61 1 ≤ 6) (hp : 0 ≤ p ∧ p < 4) : ∀ (n : Nat) (j s : Int), 0 ≤ j → j + n = σ 61 1 → zres 116 C_X7_allOf_4 [vR 60, vI p, vI s, vI j] [] σ = some (some (vI (s + sumI (fun t => σ 61 (29 + 6 * p + t)) j n)), σ) := by
  intro n
  induction n with
  | zero =>
    intro j s hj hn
    simp (disch := first | exact z_tt rfl | assumption | omega | (simp (disch := omega) only [zU_eq, zU_nc, zU_nj]; omega)) only [↓r_iconst, ↓L_ist_n2, ↓L_ist_n2L, ↓L_ist_n3, ↓L_ist_n3L, ↓L_ild_n3, ↓L_ald_n0, ↓F_g60_0, ↓A_g3, ↓A_g4, ↓A_g5, ↓A_g6, ↓A_g7, ↓A_g9, ↓A_g10, ↓A_g12, ↓A_g13, ↓A_g15, ↓A_g16, ↓A_g19, ↓A_g20, ↓A_g21, ↓A_g22, ↓A_g23, ↓A_g25, ↓A_g26, ↓A_g28, ↓A_g29, ↓A_g31, ↓A_g32, ↓A_g34, ↓A_g36, ↓A_g37, ↓A_g38, ↓A_g39, ↓A_g41, ↓A_g42, ↓A_g43, ↓A_g44, ↓A_g61, ↓A_g62, ↓A_g63, ↓A_g65, ↓A_g66, ↓A_g67, ↓A_g68, ↓A_g69, ↓A_g70, ↓A_gN, ↓A_gT, ↓A_gC, ↓r_icge_t, ↓r_icge_f, ↓J_X7_allOf_29, ↓L_ild_n2, ↓L_ild_n1, ↓I_X7_pointsOf_60, ↓r_iadd, ↓L_iinc3, ↓r_goto, ↓J_X7_allOf_4, ↓r_ireturn, ↓U_X7_allOf_0, ↓U_X7_allOf_4, ↓U_X7_allOf_29, ↓zthen_v, ↓zthen_0, zU_eq, zU_nc, zU_nj, sumI, Int.add_zero]
  | succ n ih =>
    intro j s hj hn
    rw [U_X7_allOf_4]
    simp (disch := first | exact z_tt rfl | assumption | omega | (simp (disch := omega) only [zU_eq, zU_nc, zU_nj]; omega)) only [↓r_iconst, ↓L_ist_n2, ↓L_ist_n2L, ↓L_ist_n3, ↓L_ist_n3L, ↓L_ild_n3, ↓L_ald_n0, ↓F_g60_0, ↓A_g3, ↓A_g4, ↓A_g5, ↓A_g6, ↓A_g7, ↓A_g9, ↓A_g10, ↓A_g12, ↓A_g13, ↓A_g15, ↓A_g16, ↓A_g19, ↓A_g20, ↓A_g21, ↓A_g22, ↓A_g23, ↓A_g25, ↓A_g26, ↓A_g28, ↓A_g29, ↓A_g31, ↓A_g32, ↓A_g34, ↓A_g36, ↓A_g37, ↓A_g38, ↓A_g39, ↓A_g41, ↓A_g42, ↓A_g43, ↓A_g44, ↓A_g61, ↓A_g62, ↓A_g63, ↓A_g65, ↓A_g66, ↓A_g67, ↓A_g68, ↓A_g69, ↓A_g70, ↓A_gN, ↓A_gT, ↓A_gC, ↓r_icge_t, ↓r_icge_f, ↓J_X7_allOf_29, ↓L_ild_n2, ↓L_ild_n1, ↓I_X7_pointsOf_60, ↓r_iadd, ↓L_iinc3, ↓r_goto, ↓J_X7_allOf_4, ↓r_ireturn, ↓U_X7_allOf_0, ↓U_X7_allOf_29, ↓zthen_v, ↓zthen_0, zU_eq, zU_nc, zU_nj, m_pointsOf]
    rw [ih (j + 1) _ (by omega) (by omega), sumI, Int.add_assoc]
set_option maxRecDepth 20000 in
theorem m_allOf {σ : zM} {p : Int} (hm : 0 ≤ σ 61 1 ∧ σ 61 1 ≤ 6) (hp : 0 ≤ p ∧ p < 4) : zcall 116 [vR 60, vI p] σ = some (some (vI (allM σ p)), σ) := by
  rw [S_X7_allOf]
  simp (disch := first | exact z_tt rfl | assumption | omega | (simp (disch := omega) only [zU_eq, zU_nc, zU_nj]; omega)) only [↓r_iconst, ↓L_ist_n2, ↓L_ist_n2L, ↓L_ist_n3, ↓L_ist_n3L, ↓L_ild_n3, ↓L_ald_n0, ↓F_g60_0, ↓A_g3, ↓A_g4, ↓A_g5, ↓A_g6, ↓A_g7, ↓A_g9, ↓A_g10, ↓A_g12, ↓A_g13, ↓A_g15, ↓A_g16, ↓A_g19, ↓A_g20, ↓A_g21, ↓A_g22, ↓A_g23, ↓A_g25, ↓A_g26, ↓A_g28, ↓A_g29, ↓A_g31, ↓A_g32, ↓A_g34, ↓A_g36, ↓A_g37, ↓A_g38, ↓A_g39, ↓A_g41, ↓A_g42, ↓A_g43, ↓A_g44, ↓A_g61, ↓A_g62, ↓A_g63, ↓A_g65, ↓A_g66, ↓A_g67, ↓A_g68, ↓A_g69, ↓A_g70, ↓A_gN, ↓A_gT, ↓A_gC, ↓r_icge_t, ↓r_icge_f, ↓J_X7_allOf_29, ↓L_ild_n2, ↓L_ild_n1, ↓I_X7_pointsOf_60, ↓r_iadd, ↓L_iinc3, ↓r_goto, ↓J_X7_allOf_4, ↓r_ireturn, ↓U_X7_allOf_0, ↓U_X7_allOf_29, ↓zthen_v, ↓zthen_0, zU_eq, zU_nc, zU_nj]
  rw [m_allOf_loop hm.2 hp (σ 61 1).toNat 0 0 (by omega) (by omega), Int.zero_add]
  rfl
set_option maxRecDepth 20000 in
theorem m_splits_loop {σ : zM} (hV : V1 σ) : ∀ (n : Nat) (j s : Int), 0 ≤ j → j + n = σ 61 1 → zres 120 C_X7_splits_4 [vR 60, vI s, vI j] [] σ = some (some (vI (s + cntI (fun t => !decide (σ 61 (11 + t) = -1)) j n)), σ) := by
  obtain ⟨v0, v1, v2, v3⟩ := hV
  intro n
  induction n with
  | zero =>
    intro j s hj hn
    simp (disch := first | exact z_tt rfl | assumption | omega | (simp (disch := omega) only [zU_eq, zU_nc, zU_nj]; omega)) only [↓r_iconst, ↓L_ist_n1, ↓L_ist_n1L, ↓L_ist_n2, ↓L_ist_n2L, ↓L_ild_n2, ↓L_ald_n0, ↓F_g60_0, ↓A_g3, ↓A_g4, ↓A_g5, ↓A_g6, ↓A_g7, ↓A_g9, ↓A_g10, ↓A_g12, ↓A_g13, ↓A_g15, ↓A_g16, ↓A_g19, ↓A_g20, ↓A_g21, ↓A_g22, ↓A_g23, ↓A_g25, ↓A_g26, ↓A_g28, ↓A_g29, ↓A_g31, ↓A_g32, ↓A_g34, ↓A_g36, ↓A_g37, ↓A_g38, ↓A_g39, ↓A_g41, ↓A_g42, ↓A_g43, ↓A_g44, ↓A_g61, ↓A_g62, ↓A_g63, ↓A_g65, ↓A_g66, ↓A_g67, ↓A_g68, ↓A_g69, ↓A_g70, ↓A_gN, ↓A_gT, ↓A_gC, ↓r_icge_t, ↓r_icge_f, ↓J_X7_splits_41, ↓L_ild_n1, ↓r_bipush, ↓r_iadd, ↓r_icne_t, ↓r_icne_f, ↓J_X7_splits_32, ↓r_goto, ↓J_X7_splits_33, ↓L_iinc2, ↓J_X7_splits_4, ↓r_ireturn, ↓U_X7_splits_0, ↓U_X7_splits_4, ↓U_X7_splits_32, ↓U_X7_splits_33, ↓U_X7_splits_41, ↓zthen_v, ↓zthen_0, zU_eq, zU_nc, zU_nj, cntI, Int.add_zero]
  | succ n ih =>
    intro j s hj hn
    have hb := (v3 j hj (by omega)).2.1
    rw [U_X7_splits_4]
    by_cases h : σ 61 (11 + j) = -1
    · simp (disch := first | exact z_tt rfl | assumption | omega | (simp (disch := omega) only [zU_eq, zU_nc, zU_nj]; omega)) only [↓r_iconst, ↓L_ist_n1, ↓L_ist_n1L, ↓L_ist_n2, ↓L_ist_n2L, ↓L_ild_n2, ↓L_ald_n0, ↓F_g60_0, ↓A_g3, ↓A_g4, ↓A_g5, ↓A_g6, ↓A_g7, ↓A_g9, ↓A_g10, ↓A_g12, ↓A_g13, ↓A_g15, ↓A_g16, ↓A_g19, ↓A_g20, ↓A_g21, ↓A_g22, ↓A_g23, ↓A_g25, ↓A_g26, ↓A_g28, ↓A_g29, ↓A_g31, ↓A_g32, ↓A_g34, ↓A_g36, ↓A_g37, ↓A_g38, ↓A_g39, ↓A_g41, ↓A_g42, ↓A_g43, ↓A_g44, ↓A_g61, ↓A_g62, ↓A_g63, ↓A_g65, ↓A_g66, ↓A_g67, ↓A_g68, ↓A_g69, ↓A_g70, ↓A_gN, ↓A_gT, ↓A_gC, ↓r_icge_t, ↓r_icge_f, ↓J_X7_splits_41, ↓L_ild_n1, ↓r_bipush, ↓r_iadd, ↓r_icne_t, ↓r_icne_f, ↓J_X7_splits_32, ↓r_goto, ↓J_X7_splits_33, ↓L_iinc2, ↓J_X7_splits_4, ↓r_ireturn, ↓U_X7_splits_0, ↓U_X7_splits_32, ↓U_X7_splits_33, ↓U_X7_splits_41, ↓zthen_v, ↓zthen_0, zU_eq, zU_nc, zU_nj]
      rw [ih (j + 1) _ (by omega) (by omega), cntI, if_neg (by simpa using h)]
      simp only [Int.add_zero, Int.zero_add]
    · simp (disch := first | exact z_tt rfl | assumption | omega | (simp (disch := omega) only [zU_eq, zU_nc, zU_nj]; omega)) only [↓r_iconst, ↓L_ist_n1, ↓L_ist_n1L, ↓L_ist_n2, ↓L_ist_n2L, ↓L_ild_n2, ↓L_ald_n0, ↓F_g60_0, ↓A_g3, ↓A_g4, ↓A_g5, ↓A_g6, ↓A_g7, ↓A_g9, ↓A_g10, ↓A_g12, ↓A_g13, ↓A_g15, ↓A_g16, ↓A_g19, ↓A_g20, ↓A_g21, ↓A_g22, ↓A_g23, ↓A_g25, ↓A_g26, ↓A_g28, ↓A_g29, ↓A_g31, ↓A_g32, ↓A_g34, ↓A_g36, ↓A_g37, ↓A_g38, ↓A_g39, ↓A_g41, ↓A_g42, ↓A_g43, ↓A_g44, ↓A_g61, ↓A_g62, ↓A_g63, ↓A_g65, ↓A_g66, ↓A_g67, ↓A_g68, ↓A_g69, ↓A_g70, ↓A_gN, ↓A_gT, ↓A_gC, ↓r_icge_t, ↓r_icge_f, ↓J_X7_splits_41, ↓L_ild_n1, ↓r_bipush, ↓r_iadd, ↓r_icne_t, ↓r_icne_f, ↓J_X7_splits_32, ↓r_goto, ↓J_X7_splits_33, ↓L_iinc2, ↓J_X7_splits_4, ↓r_ireturn, ↓U_X7_splits_0, ↓U_X7_splits_32, ↓U_X7_splits_33, ↓U_X7_splits_41, ↓zthen_v, ↓zthen_0, zU_eq, zU_nc, zU_nj]
      rw [ih (j + 1) _ (by omega) (by omega), cntI, if_pos (by simpa using h), Int.add_assoc]
def spM (σ : zM) : Int := cntI (fun t => !decide (σ 61 (11 + t) = -1)) 0 (σ 61 1).toNat
set_option maxRecDepth 20000 in
theorem m_splits {σ : zM} (hV : V1 σ) : zcall 120 [vR 60] σ = some (some (vI (spM σ)), σ) := by
  have hV0 := hV
  obtain ⟨v0, v1, v2, v3⟩ := hV0
  rw [S_X7_splits]
  simp (disch := first | exact z_tt rfl | assumption | omega | (simp (disch := omega) only [zU_eq, zU_nc, zU_nj]; omega)) only [↓r_iconst, ↓L_ist_n1, ↓L_ist_n1L, ↓L_ist_n2, ↓L_ist_n2L, ↓L_ild_n2, ↓L_ald_n0, ↓F_g60_0, ↓A_g3, ↓A_g4, ↓A_g5, ↓A_g6, ↓A_g7, ↓A_g9, ↓A_g10, ↓A_g12, ↓A_g13, ↓A_g15, ↓A_g16, ↓A_g19, ↓A_g20, ↓A_g21, ↓A_g22, ↓A_g23, ↓A_g25, ↓A_g26, ↓A_g28, ↓A_g29, ↓A_g31, ↓A_g32, ↓A_g34, ↓A_g36, ↓A_g37, ↓A_g38, ↓A_g39, ↓A_g41, ↓A_g42, ↓A_g43, ↓A_g44, ↓A_g61, ↓A_g62, ↓A_g63, ↓A_g65, ↓A_g66, ↓A_g67, ↓A_g68, ↓A_g69, ↓A_g70, ↓A_gN, ↓A_gT, ↓A_gC, ↓r_icge_t, ↓r_icge_f, ↓J_X7_splits_41, ↓L_ild_n1, ↓r_bipush, ↓r_iadd, ↓r_icne_t, ↓r_icne_f, ↓J_X7_splits_32, ↓r_goto, ↓J_X7_splits_33, ↓L_iinc2, ↓J_X7_splits_4, ↓r_ireturn, ↓U_X7_splits_0, ↓U_X7_splits_32, ↓U_X7_splits_33, ↓U_X7_splits_41, ↓zthen_v, ↓zthen_0, zU_eq, zU_nc, zU_nj]
  rw [m_splits_loop hV (σ 61 1).toNat 0 0 (by omega) (by omega), Int.zero_add]
  rfl
set_option maxRecDepth 20000 in
theorem m_unheld_loop {σ : zM} (hV : V1 σ) : ∀ (n : Nat) (j s : Int), 0 ≤ j → j + n = σ 61 1 → zres 162 C_X7_withoutHolder_4 [vR 60, vI s, vI j] [] σ = some (some (vI (s + cntI (fun t => decide (σ 61 (5 + t) = -1)) j n)), σ) := by
  obtain ⟨v0, v1, v2, v3⟩ := hV
  intro n
  induction n with
  | zero =>
    intro j s hj hn
    simp (disch := first | exact z_tt rfl | assumption | omega | (simp (disch := omega) only [zU_eq, zU_nc, zU_nj]; omega)) only [↓r_iconst, ↓L_ist_n1, ↓L_ist_n1L, ↓L_ist_n2, ↓L_ist_n2L, ↓L_ild_n2, ↓L_ald_n0, ↓F_g60_0, ↓A_g3, ↓A_g4, ↓A_g5, ↓A_g6, ↓A_g7, ↓A_g9, ↓A_g10, ↓A_g12, ↓A_g13, ↓A_g15, ↓A_g16, ↓A_g19, ↓A_g20, ↓A_g21, ↓A_g22, ↓A_g23, ↓A_g25, ↓A_g26, ↓A_g28, ↓A_g29, ↓A_g31, ↓A_g32, ↓A_g34, ↓A_g36, ↓A_g37, ↓A_g38, ↓A_g39, ↓A_g41, ↓A_g42, ↓A_g43, ↓A_g44, ↓A_g61, ↓A_g62, ↓A_g63, ↓A_g65, ↓A_g66, ↓A_g67, ↓A_g68, ↓A_g69, ↓A_g70, ↓A_gN, ↓A_gT, ↓A_gC, ↓r_icge_t, ↓r_icge_f, ↓J_X7_withoutHolder_40, ↓L_ild_n1, ↓r_iadd, ↓r_icne_t, ↓r_icne_f, ↓J_X7_withoutHolder_31, ↓r_goto, ↓J_X7_withoutHolder_32, ↓L_iinc2, ↓J_X7_withoutHolder_4, ↓r_ireturn, ↓U_X7_withoutHolder_0, ↓U_X7_withoutHolder_4, ↓U_X7_withoutHolder_31, ↓U_X7_withoutHolder_32, ↓U_X7_withoutHolder_40, ↓zthen_v, ↓zthen_0, zU_eq, zU_nc, zU_nj, cntI, Int.add_zero]
  | succ n ih =>
    intro j s hj hn
    have hb := (v3 j hj (by omega)).1
    rw [U_X7_withoutHolder_4]
    by_cases h : σ 61 (5 + j) = -1
    · simp (disch := first | exact z_tt rfl | assumption | omega | (simp (disch := omega) only [zU_eq, zU_nc, zU_nj]; omega)) only [↓r_iconst, ↓L_ist_n1, ↓L_ist_n1L, ↓L_ist_n2, ↓L_ist_n2L, ↓L_ild_n2, ↓L_ald_n0, ↓F_g60_0, ↓A_g3, ↓A_g4, ↓A_g5, ↓A_g6, ↓A_g7, ↓A_g9, ↓A_g10, ↓A_g12, ↓A_g13, ↓A_g15, ↓A_g16, ↓A_g19, ↓A_g20, ↓A_g21, ↓A_g22, ↓A_g23, ↓A_g25, ↓A_g26, ↓A_g28, ↓A_g29, ↓A_g31, ↓A_g32, ↓A_g34, ↓A_g36, ↓A_g37, ↓A_g38, ↓A_g39, ↓A_g41, ↓A_g42, ↓A_g43, ↓A_g44, ↓A_g61, ↓A_g62, ↓A_g63, ↓A_g65, ↓A_g66, ↓A_g67, ↓A_g68, ↓A_g69, ↓A_g70, ↓A_gN, ↓A_gT, ↓A_gC, ↓r_icge_t, ↓r_icge_f, ↓J_X7_withoutHolder_40, ↓L_ild_n1, ↓r_iadd, ↓r_icne_t, ↓r_icne_f, ↓J_X7_withoutHolder_31, ↓r_goto, ↓J_X7_withoutHolder_32, ↓L_iinc2, ↓J_X7_withoutHolder_4, ↓r_ireturn, ↓U_X7_withoutHolder_0, ↓U_X7_withoutHolder_31, ↓U_X7_withoutHolder_32, ↓U_X7_withoutHolder_40, ↓zthen_v, ↓zthen_0, zU_eq, zU_nc, zU_nj]
      rw [ih (j + 1) _ (by omega) (by omega), cntI, if_pos (by simpa using h), Int.add_assoc]
    · simp (disch := first | exact z_tt rfl | assumption | omega | (simp (disch := omega) only [zU_eq, zU_nc, zU_nj]; omega)) only [↓r_iconst, ↓L_ist_n1, ↓L_ist_n1L, ↓L_ist_n2, ↓L_ist_n2L, ↓L_ild_n2, ↓L_ald_n0, ↓F_g60_0, ↓A_g3, ↓A_g4, ↓A_g5, ↓A_g6, ↓A_g7, ↓A_g9, ↓A_g10, ↓A_g12, ↓A_g13, ↓A_g15, ↓A_g16, ↓A_g19, ↓A_g20, ↓A_g21, ↓A_g22, ↓A_g23, ↓A_g25, ↓A_g26, ↓A_g28, ↓A_g29, ↓A_g31, ↓A_g32, ↓A_g34, ↓A_g36, ↓A_g37, ↓A_g38, ↓A_g39, ↓A_g41, ↓A_g42, ↓A_g43, ↓A_g44, ↓A_g61, ↓A_g62, ↓A_g63, ↓A_g65, ↓A_g66, ↓A_g67, ↓A_g68, ↓A_g69, ↓A_g70, ↓A_gN, ↓A_gT, ↓A_gC, ↓r_icge_t, ↓r_icge_f, ↓J_X7_withoutHolder_40, ↓L_ild_n1, ↓r_iadd, ↓r_icne_t, ↓r_icne_f, ↓J_X7_withoutHolder_31, ↓r_goto, ↓J_X7_withoutHolder_32, ↓L_iinc2, ↓J_X7_withoutHolder_4, ↓r_ireturn, ↓U_X7_withoutHolder_0, ↓U_X7_withoutHolder_31, ↓U_X7_withoutHolder_32, ↓U_X7_withoutHolder_40, ↓zthen_v, ↓zthen_0, zU_eq, zU_nc, zU_nj]
      rw [ih (j + 1) _ (by omega) (by omega), cntI, if_neg (by simpa using h)]
      simp only [Int.add_zero, Int.zero_add]
set_option maxRecDepth 20000 in
theorem m_unheld {σ : zM} (hV : V1 σ) : zcall 162 [vR 60] σ = some (some (vI (cntI (fun t => decide (σ 61 (5 + t) = -1)) 0 (σ 61 1).toNat)), σ) := by
  have hV0 := hV
  obtain ⟨v0, v1, v2, v3⟩ := hV0
  rw [S_X7_withoutHolder]
  simp (disch := first | exact z_tt rfl | assumption | omega | (simp (disch := omega) only [zU_eq, zU_nc, zU_nj]; omega)) only [↓r_iconst, ↓L_ist_n1, ↓L_ist_n1L, ↓L_ist_n2, ↓L_ist_n2L, ↓L_ild_n2, ↓L_ald_n0, ↓F_g60_0, ↓A_g3, ↓A_g4, ↓A_g5, ↓A_g6, ↓A_g7, ↓A_g9, ↓A_g10, ↓A_g12, ↓A_g13, ↓A_g15, ↓A_g16, ↓A_g19, ↓A_g20, ↓A_g21, ↓A_g22, ↓A_g23, ↓A_g25, ↓A_g26, ↓A_g28, ↓A_g29, ↓A_g31, ↓A_g32, ↓A_g34, ↓A_g36, ↓A_g37, ↓A_g38, ↓A_g39, ↓A_g41, ↓A_g42, ↓A_g43, ↓A_g44, ↓A_g61, ↓A_g62, ↓A_g63, ↓A_g65, ↓A_g66, ↓A_g67, ↓A_g68, ↓A_g69, ↓A_g70, ↓A_gN, ↓A_gT, ↓A_gC, ↓r_icge_t, ↓r_icge_f, ↓J_X7_withoutHolder_40, ↓L_ild_n1, ↓r_iadd, ↓r_icne_t, ↓r_icne_f, ↓J_X7_withoutHolder_31, ↓r_goto, ↓J_X7_withoutHolder_32, ↓L_iinc2, ↓J_X7_withoutHolder_4, ↓r_ireturn, ↓U_X7_withoutHolder_0, ↓U_X7_withoutHolder_31, ↓U_X7_withoutHolder_32, ↓U_X7_withoutHolder_40, ↓zthen_v, ↓zthen_0, zU_eq, zU_nc, zU_nj]
  rw [m_unheld_loop hV (σ 61 1).toNat 0 0 (by omega) (by omega), Int.zero_add]
/-! its divisor -/
set_option maxRecDepth 20000 in
theorem m_dv_end {σ : zM} {a b x : Int} {u v : zV} : zres 121 C_X7_divisor_6 [vL a, vU, vL b, vU, vL x, vU, vL 0, vU, u, v] [] σ = some (some (vL x), σ) := by
  rw [U_X7_divisor_6]
  simp (disch := first | exact z_tt rfl | assumption | omega | (simp (disch := omega) only [zU_eq, zU_nc, zU_nj]; omega)) only [↓L_lld_n0, ↓L_lst4, ↓L_lst4L, ↓L_lld_n2, ↓L_lst6, ↓L_lst6L, ↓L_lld6, ↓r_lconst, ↓r_ifeq_t, ↓r_ifeq_f, ↓J_X7_divisor_31, ↓r_leq_t, ↓r_leq_f, ↓L_lld4, ↓r_lrem, ↓L_lst8, ↓L_lst8L, ↓L_lld8, ↓r_goto, ↓J_X7_divisor_6, ↓r_lreturn, ↓U_X7_divisor_0, ↓U_X7_divisor_31, ↓zthen_v, ↓zthen_0, zU_eq, zU_nc, zU_nj]
set_option maxRecDepth 20000 in
theorem m_dv_one {σ : zM} {a b x y : Int} {u v : zV} (hx : 0 ≤ x ∧ x < 4611686018427387904) (hy : 0 < y ∧ y < 4611686018427387904) : zres 121 C_X7_divisor_6 [vL a, vU, vL b, vU, vL x, vU, vL y, vU, u, v] [] σ = zres 121 C_X7_divisor_6 [vL a, vU, vL b, vU, vL y, vU, vL (x % y), vU, vL (x % y), vU] [] σ := by
  rw [U_X7_divisor_6]
  simp (disch := first | exact z_tt rfl | assumption | omega | (simp (disch := omega) only [zU_eq, zU_nc, zU_nj]; omega)) only [↓L_lld_n0, ↓L_lst4, ↓L_lst4L, ↓L_lld_n2, ↓L_lst6, ↓L_lst6L, ↓L_lld6, ↓r_lconst, ↓r_ifeq_t, ↓r_ifeq_f, ↓J_X7_divisor_31, ↓r_leq_t, ↓r_leq_f, ↓L_lld4, ↓r_lrem, ↓L_lst8, ↓L_lst8L, ↓L_lld8, ↓r_goto, ↓J_X7_divisor_6, ↓r_lreturn, ↓U_X7_divisor_0, ↓U_X7_divisor_31, ↓zthen_v, ↓zthen_0, zU_eq, zU_nc, zU_nj]
theorem m_dv_loop {σ : zM} {a b : Int} : ∀ (k : Nat) (x y : Int) (u v : zV), 0 ≤ x ∧ x < 4611686018427387904 → 0 ≤ y ∧ y < 4611686018427387904 → y ≤ k → zres 121 C_X7_divisor_6 [vL a, vU, vL b, vU, vL x, vU, vL y, vU, u, v] [] σ = some (some (vL (zg x y)), σ) := by
  intro k
  induction k with
  | zero =>
    intro x y u v hx hy h2
    have h0 : y = 0 := by omega
    subst h0
    rw [m_dv_end, zg_0 hx.1]
  | succ k ih =>
    intro x y u v hx hy h2
    by_cases h0 : y = 0
    · subst h0
      rw [m_dv_end, zg_0 hx.1]
    · have hy0 : 0 < y := by omega
      rw [m_dv_one hx ⟨hy0, hy.2⟩, zg_step hx.1 hy0]
      have h3 : 0 ≤ x % y := Int.emod_nonneg x (by omega)
      have h4 : x % y < y := Int.emod_lt_of_pos x hy0
      exact ih y (x % y) _ _ hy ⟨h3, by omega⟩ (by omega)
set_option maxRecDepth 20000 in
theorem m_divisor {σ : zM} {a b : Int} (ha : 0 ≤ a ∧ a < 4611686018427387904) (hb : 0 ≤ b ∧ b < 4611686018427387904) : zcall 121 [vL a, vL b] σ = some (some (vL (zg a b)), σ) := by
  rw [S_X7_divisor]
  simp (disch := first | exact z_tt rfl | assumption | omega | (simp (disch := omega) only [zU_eq, zU_nc, zU_nj]; omega)) only [↓L_lld_n0, ↓L_lst4, ↓L_lst4L, ↓L_lld_n2, ↓L_lst6, ↓L_lst6L, ↓L_lld6, ↓r_lconst, ↓r_ifeq_t, ↓r_ifeq_f, ↓J_X7_divisor_31, ↓r_leq_t, ↓r_leq_f, ↓L_lld4, ↓r_lrem, ↓L_lst8, ↓L_lst8L, ↓L_lld8, ↓r_goto, ↓J_X7_divisor_6, ↓r_lreturn, ↓U_X7_divisor_0, ↓U_X7_divisor_31, ↓zthen_v, ↓zthen_0, zU_eq, zU_nc, zU_nj]
  exact m_dv_loop b.toNat a b vU vU ha hb (by omega)
set_option maxRecDepth 20000 in
theorem m_lowest {σ : zM} {a b part : Int} (ha : 0 ≤ a ∧ a < 4611686018427387904) (hb : 0 < b ∧ b < 4611686018427387904) (hp : -2147483648 ≤ part ∧ part < 2147483648) : zcall 122 [vL a, vL b, vI part] σ = some (some (vL (lowT a b part)), σ) := by
  rw [S_X7_lowest]
  have hg := zg_pos (x := a) hb.1
  have hgl := zg_le (x := a) hb.1
  unfold lowT
  by_cases h0 : part = 0
  · rw [if_pos h0]
    simp (disch := first | exact z_tt rfl | assumption | omega | (simp (disch := omega) only [zU_eq, zU_nc, zU_nj]; omega)) only [↓L_ild4, ↓r_ifne_t, ↓r_ifne_f, ↓J_X7_lowest_9, ↓L_lld_n0, ↓r_goto, ↓J_X7_lowest_10, ↓L_lld_n2, ↓I_X7_divisor, ↓r_ldiv, ↓r_lreturn, ↓U_X7_lowest_0, ↓U_X7_lowest_9, ↓U_X7_lowest_10, ↓zthen_v, ↓zthen_0, zU_eq, zU_nc, zU_nj, m_divisor]
  · rw [if_neg h0]
    simp (disch := first | exact z_tt rfl | assumption | omega | (simp (disch := omega) only [zU_eq, zU_nc, zU_nj]; omega)) only [↓L_ild4, ↓r_ifne_t, ↓r_ifne_f, ↓J_X7_lowest_9, ↓L_lld_n0, ↓r_goto, ↓J_X7_lowest_10, ↓L_lld_n2, ↓I_X7_divisor, ↓r_ldiv, ↓r_lreturn, ↓U_X7_lowest_0, ↓U_X7_lowest_9, ↓U_X7_lowest_10, ↓zthen_v, ↓zthen_0, zU_eq, zU_nc, zU_nj, m_divisor]
