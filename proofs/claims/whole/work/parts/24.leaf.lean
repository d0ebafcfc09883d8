/-! leaves -/
set_option maxRecDepth 20000 in
theorem c_X6_isParty_t {σ : zM} {p : Int} (h : 0 ≤ p ∧ p < σ 1 0) (hn : σ 1 0 ≤ 4) : zcall 85 [vR 0, vI p] σ = some (some (vI 1), σ) := by
  rw [S_X6_isParty]
  simp (disch := first | exact z_tt rfl | assumption | omega | (simp (disch := omega) only [zU_eq, zU_nc, zU_nj]; omega)) only [↓L_ild_n1, ↓r_iflt_t, ↓r_iflt_f, ↓J_X6_isParty_19, ↓L_ald_n0, ↓F_g0_0, ↓F_g1_0, ↓F_g17_0, ↓r_icge_t, ↓r_icge_f, ↓r_iconst, ↓r_goto, ↓J_X6_isParty_20, ↓r_zreturn, ↓U_X6_isParty_0, ↓U_X6_isParty_19, ↓U_X6_isParty_20, ↓zthen_v, ↓zthen_0, zU_eq, zU_nc, zU_nj]
set_option maxRecDepth 20000 in
theorem c_X6_isParty_f {σ : zM} {p : Int} (h : (p < 0 ∨ σ 1 0 ≤ p) ∧ -2147483648 ≤ p ∧ p < 2147483648) (hn : 0 ≤ σ 1 0 ∧ σ 1 0 ≤ 4) : zcall 85 [vR 0, vI p] σ = some (some (vI 0), σ) := by
  rw [S_X6_isParty]
  by_cases h1 : p < 0
  · simp (disch := first | exact z_tt rfl | assumption | omega | (simp (disch := omega) only [zU_eq, zU_nc, zU_nj]; omega)) only [↓L_ild_n1, ↓r_iflt_t, ↓r_iflt_f, ↓J_X6_isParty_19, ↓L_ald_n0, ↓F_g0_0, ↓F_g1_0, ↓F_g17_0, ↓r_icge_t, ↓r_icge_f, ↓r_iconst, ↓r_goto, ↓J_X6_isParty_20, ↓r_zreturn, ↓U_X6_isParty_0, ↓U_X6_isParty_19, ↓U_X6_isParty_20, ↓zthen_v, ↓zthen_0, zU_eq, zU_nc, zU_nj]
  · simp (disch := first | exact z_tt rfl | assumption | omega | (simp (disch := omega) only [zU_eq, zU_nc, zU_nj]; omega)) only [↓L_ild_n1, ↓r_iflt_t, ↓r_iflt_f, ↓J_X6_isParty_19, ↓L_ald_n0, ↓F_g0_0, ↓F_g1_0, ↓F_g17_0, ↓r_icge_t, ↓r_icge_f, ↓r_iconst, ↓r_goto, ↓J_X6_isParty_20, ↓r_zreturn, ↓U_X6_isParty_0, ↓U_X6_isParty_19, ↓U_X6_isParty_20, ↓zthen_v, ↓zthen_0, zU_eq, zU_nc, zU_nj]
set_option maxRecDepth 20000 in
theorem c_X6_isThing_t {σ : zM} {p : Int} (h : 0 ≤ p ∧ p < σ 1 1) (hn : σ 1 1 ≤ 6) : zcall 87 [vR 0, vI p] σ = some (some (vI 1), σ) := by
  rw [S_X6_isThing]
  simp (disch := first | exact z_tt rfl | assumption | omega | (simp (disch := omega) only [zU_eq, zU_nc, zU_nj]; omega)) only [↓L_ild_n1, ↓r_iflt_t, ↓r_iflt_f, ↓J_X6_isThing_19, ↓L_ald_n0, ↓F_g0_0, ↓F_g1_1, ↓F_g17_1, ↓r_icge_t, ↓r_icge_f, ↓r_iconst, ↓r_goto, ↓J_X6_isThing_20, ↓r_zreturn, ↓U_X6_isThing_0, ↓U_X6_isThing_19, ↓U_X6_isThing_20, ↓zthen_v, ↓zthen_0, zU_eq, zU_nc, zU_nj]
set_option maxRecDepth 20000 in
theorem c_X6_isThing_f {σ : zM} {p : Int} (h : (p < 0 ∨ σ 1 1 ≤ p) ∧ -2147483648 ≤ p ∧ p < 2147483648) (hn : 0 ≤ σ 1 1 ∧ σ 1 1 ≤ 6) : zcall 87 [vR 0, vI p] σ = some (some (vI 0), σ) := by
  rw [S_X6_isThing]
  by_cases h1 : p < 0
  · simp (disch := first | exact z_tt rfl | assumption | omega | (simp (disch := omega) only [zU_eq, zU_nc, zU_nj]; omega)) only [↓L_ild_n1, ↓r_iflt_t, ↓r_iflt_f, ↓J_X6_isThing_19, ↓L_ald_n0, ↓F_g0_0, ↓F_g1_1, ↓F_g17_1, ↓r_icge_t, ↓r_icge_f, ↓r_iconst, ↓r_goto, ↓J_X6_isThing_20, ↓r_zreturn, ↓U_X6_isThing_0, ↓U_X6_isThing_19, ↓U_X6_isThing_20, ↓zthen_v, ↓zthen_0, zU_eq, zU_nc, zU_nj]
  · simp (disch := first | exact z_tt rfl | assumption | omega | (simp (disch := omega) only [zU_eq, zU_nc, zU_nj]; omega)) only [↓L_ild_n1, ↓r_iflt_t, ↓r_iflt_f, ↓J_X6_isThing_19, ↓L_ald_n0, ↓F_g0_0, ↓F_g1_1, ↓F_g17_1, ↓r_icge_t, ↓r_icge_f, ↓r_iconst, ↓r_goto, ↓J_X6_isThing_20, ↓r_zreturn, ↓U_X6_isThing_0, ↓U_X6_isThing_19, ↓U_X6_isThing_20, ↓zthen_v, ↓zthen_0, zU_eq, zU_nc, zU_nj]
set_option maxRecDepth 20000 in
theorem c_X6_areTwo_t {σ : zM} {i j : Int} (h : 0 ≤ i ∧ i < σ 1 0 ∧ 0 ≤ j ∧ j < σ 1 0 ∧ (i < j ∨ j < i)) (hn : σ 1 0 ≤ 4) : zcall 86 [vR 0, vI i, vI j] σ = some (some (vI 1), σ) := by
  rw [S_X6_areTwo]
  simp (disch := first | exact z_tt rfl | assumption | omega | (simp (disch := omega) only [zU_eq, zU_nc, zU_nj]; omega)) only [↓L_ald_n0, ↓L_ild_n1, ↓I_X6_isParty_0, ↓r_ifeq_t, ↓r_ifeq_f, ↓J_X6_areTwo_25, ↓L_ild_n2, ↓r_iceq_t, ↓r_iceq_f, ↓r_iconst, ↓r_goto, ↓J_X6_areTwo_26, ↓r_zreturn, ↓U_X6_areTwo_0, ↓U_X6_areTwo_25, ↓U_X6_areTwo_26, ↓zthen_v, ↓zthen_0, zU_eq, zU_nc, zU_nj, c_X6_isParty_t]
set_option maxRecDepth 20000 in
theorem c_X6_areTwo_f {σ : zM} {i j : Int} (h : (i < 0 ∨ σ 1 0 ≤ i ∨ j < 0 ∨ σ 1 0 ≤ j ∨ i = j) ∧ -2147483648 ≤ i ∧ i < 2147483648 ∧ -2147483648 ≤ j ∧ j < 2147483648) (hn : 0 ≤ σ 1 0 ∧ σ 1 0 ≤ 4) : zcall 86 [vR 0, vI i, vI j] σ = some (some (vI 0), σ) := by
  rw [S_X6_areTwo]
  by_cases h1 : i < 0 ∨ σ 1 0 ≤ i
  · simp (disch := first | exact z_tt rfl | assumption | omega | (simp (disch := omega) only [zU_eq, zU_nc, zU_nj]; omega)) only [↓L_ald_n0, ↓L_ild_n1, ↓I_X6_isParty_0, ↓r_ifeq_t, ↓r_ifeq_f, ↓J_X6_areTwo_25, ↓L_ild_n2, ↓r_iceq_t, ↓r_iceq_f, ↓r_iconst, ↓r_goto, ↓J_X6_areTwo_26, ↓r_zreturn, ↓U_X6_areTwo_0, ↓U_X6_areTwo_25, ↓U_X6_areTwo_26, ↓zthen_v, ↓zthen_0, zU_eq, zU_nc, zU_nj, c_X6_isParty_f]
  · by_cases h2 : j < 0 ∨ σ 1 0 ≤ j
    · simp (disch := first | exact z_tt rfl | assumption | omega | (simp (disch := omega) only [zU_eq, zU_nc, zU_nj]; omega)) only [↓L_ald_n0, ↓L_ild_n1, ↓I_X6_isParty_0, ↓r_ifeq_t, ↓r_ifeq_f, ↓J_X6_areTwo_25, ↓L_ild_n2, ↓r_iceq_t, ↓r_iceq_f, ↓r_iconst, ↓r_goto, ↓J_X6_areTwo_26, ↓r_zreturn, ↓U_X6_areTwo_0, ↓U_X6_areTwo_25, ↓U_X6_areTwo_26, ↓zthen_v, ↓zthen_0, zU_eq, zU_nc, zU_nj, c_X6_isParty_f, c_X6_isParty_t]
    · simp (disch := first | exact z_tt rfl | assumption | omega | (simp (disch := omega) only [zU_eq, zU_nc, zU_nj]; omega)) only [↓L_ald_n0, ↓L_ild_n1, ↓I_X6_isParty_0, ↓r_ifeq_t, ↓r_ifeq_f, ↓J_X6_areTwo_25, ↓L_ild_n2, ↓r_iceq_t, ↓r_iceq_f, ↓r_iconst, ↓r_goto, ↓J_X6_areTwo_26, ↓r_zreturn, ↓U_X6_areTwo_0, ↓U_X6_areTwo_25, ↓U_X6_areTwo_26, ↓zthen_v, ↓zthen_0, zU_eq, zU_nc, zU_nj, c_X6_isParty_t]
set_option maxRecDepth 20000 in
theorem c_X6_isPart_t {σ : zM} {p : Int} (h : 0 ≤ p ∧ p ≤ 1) : zcall 88 [vI p] σ = some (some (vI 1), σ) := by
  rw [S_X6_isPart]
  by_cases h1 : p = 0
  · simp (disch := first | exact z_tt rfl | assumption | omega | (simp (disch := omega) only [zU_eq, zU_nc, zU_nj]; omega)) only [↓L_ild_n0, ↓r_ifeq_t, ↓r_ifeq_f, ↓J_X6_isPart_9, ↓r_iconst, ↓r_icne_t, ↓r_icne_f, ↓J_X6_isPart_13, ↓r_goto, ↓J_X6_isPart_14, ↓r_zreturn, ↓U_X6_isPart_0, ↓U_X6_isPart_9, ↓U_X6_isPart_13, ↓U_X6_isPart_14, ↓zthen_v, ↓zthen_0, zU_eq, zU_nc, zU_nj]
  · simp (disch := first | exact z_tt rfl | assumption | omega | (simp (disch := omega) only [zU_eq, zU_nc, zU_nj]; omega)) only [↓L_ild_n0, ↓r_ifeq_t, ↓r_ifeq_f, ↓J_X6_isPart_9, ↓r_iconst, ↓r_icne_t, ↓r_icne_f, ↓J_X6_isPart_13, ↓r_goto, ↓J_X6_isPart_14, ↓r_zreturn, ↓U_X6_isPart_0, ↓U_X6_isPart_9, ↓U_X6_isPart_13, ↓U_X6_isPart_14, ↓zthen_v, ↓zthen_0, zU_eq, zU_nc, zU_nj]
set_option maxRecDepth 20000 in
theorem c_X6_isPart_f {σ : zM} {p : Int} (h : (p < 0 ∨ 1 < p) ∧ -2147483648 ≤ p ∧ p < 2147483648) : zcall 88 [vI p] σ = some (some (vI 0), σ) := by
  rw [S_X6_isPart]
  simp (disch := first | exact z_tt rfl | assumption | omega | (simp (disch := omega) only [zU_eq, zU_nc, zU_nj]; omega)) only [↓L_ild_n0, ↓r_ifeq_t, ↓r_ifeq_f, ↓J_X6_isPart_9, ↓r_iconst, ↓r_icne_t, ↓r_icne_f, ↓J_X6_isPart_13, ↓r_goto, ↓J_X6_isPart_14, ↓r_zreturn, ↓U_X6_isPart_0, ↓U_X6_isPart_9, ↓U_X6_isPart_13, ↓U_X6_isPart_14, ↓zthen_v, ↓zthen_0, zU_eq, zU_nc, zU_nj]
set_option maxRecDepth 20000 in
theorem c_X6_isTape_t {σ : zM} {p : Int} (h : 0 ≤ p ∧ p < 6) : zcall 89 [vI p] σ = some (some (vI 1), σ) := by
  rw [S_X6_isTape]
  simp (disch := first | exact z_tt rfl | assumption | omega | (simp (disch := omega) only [zU_eq, zU_nc, zU_nj]; omega)) only [↓L_ild_n0, ↓r_iflt_t, ↓r_iflt_f, ↓J_X6_isTape_14, ↓r_bipush, ↓r_icge_t, ↓r_icge_f, ↓r_iconst, ↓r_goto, ↓J_X6_isTape_15, ↓r_zreturn, ↓U_X6_isTape_0, ↓U_X6_isTape_14, ↓U_X6_isTape_15, ↓zthen_v, ↓zthen_0, zU_eq, zU_nc, zU_nj]
set_option maxRecDepth 20000 in
theorem c_X6_isTape_f {σ : zM} {p : Int} (h : (p < 0 ∨ 6 ≤ p) ∧ -2147483648 ≤ p ∧ p < 2147483648) : zcall 89 [vI p] σ = some (some (vI 0), σ) := by
  rw [S_X6_isTape]
  by_cases h1 : p < 0
  · simp (disch := first | exact z_tt rfl | assumption | omega | (simp (disch := omega) only [zU_eq, zU_nc, zU_nj]; omega)) only [↓L_ild_n0, ↓r_iflt_t, ↓r_iflt_f, ↓J_X6_isTape_14, ↓r_bipush, ↓r_icge_t, ↓r_icge_f, ↓r_iconst, ↓r_goto, ↓J_X6_isTape_15, ↓r_zreturn, ↓U_X6_isTape_0, ↓U_X6_isTape_14, ↓U_X6_isTape_15, ↓zthen_v, ↓zthen_0, zU_eq, zU_nc, zU_nj]
  · simp (disch := first | exact z_tt rfl | assumption | omega | (simp (disch := omega) only [zU_eq, zU_nc, zU_nj]; omega)) only [↓L_ild_n0, ↓r_iflt_t, ↓r_iflt_f, ↓J_X6_isTape_14, ↓r_bipush, ↓r_icge_t, ↓r_icge_f, ↓r_iconst, ↓r_goto, ↓J_X6_isTape_15, ↓r_zreturn, ↓U_X6_isTape_0, ↓U_X6_isTape_14, ↓U_X6_isTape_15, ↓zthen_v, ↓zthen_0, zU_eq, zU_nc, zU_nj]
def orN (x : Int) : Int := if x < 0 then -5 else x
set_option maxRecDepth 20000 in
theorem c_X6_orNoSuch {σ : zM} {p : Int} (h : -2147483648 ≤ p ∧ p < 2147483648) : zcall 90 [vI p] σ = some (some (vI (orN p)), σ) := by
  rw [S_X6_orNoSuch]
  unfold orN
  by_cases h1 : p < 0
  · rw [if_pos h1]
    simp (disch := first | exact z_tt rfl | assumption | omega | (simp (disch := omega) only [zU_eq, zU_nc, zU_nj]; omega)) only [↓L_ild_n0, ↓r_ifge_t, ↓r_ifge_f, ↓J_X6_orNoSuch_9, ↓r_bipush, ↓r_goto, ↓J_X6_orNoSuch_10, ↓r_ireturn, ↓U_X6_orNoSuch_0, ↓U_X6_orNoSuch_9, ↓U_X6_orNoSuch_10, ↓zthen_v, ↓zthen_0, zU_eq, zU_nc, zU_nj]
  · rw [if_neg h1]
    simp (disch := first | exact z_tt rfl | assumption | omega | (simp (disch := omega) only [zU_eq, zU_nc, zU_nj]; omega)) only [↓L_ild_n0, ↓r_ifge_t, ↓r_ifge_f, ↓J_X6_orNoSuch_9, ↓r_bipush, ↓r_goto, ↓J_X6_orNoSuch_10, ↓r_ireturn, ↓U_X6_orNoSuch_0, ↓U_X6_orNoSuch_9, ↓U_X6_orNoSuch_10, ↓zthen_v, ↓zthen_0, zU_eq, zU_nc, zU_nj]
/-- f j + f (j + 1) + .. , n of them -/
def sumI (f : Int → Int) : Int → Nat → Int
  | _, 0 => 0
  | j, n + 1 => f j + sumI f (j + 1) n
set_option maxRecDepth 20000 in
theorem c_X6_sumOf_loop {σ : zM} {c sz : Int} (hs : zshp c = (0, 6)) (hz : sz ≤ 6) : ∀ (n : Nat) (j s : Int), 0 ≤ j → j + n = sz → zres 94 C_X6_sumOf_4 [vR c, vI sz, vI s, vI j] [] σ = some (some (vI (s + sumI (σ c) j n)), σ) := by
  intro n
  induction n with
  | zero =>
    intro j s hj hn
    simp (disch := first | exact z_tt rfl | assumption | omega | (simp (disch := omega) only [zU_eq, zU_nc, zU_nj]; omega)) only [↓r_iconst, ↓L_ist_n2, ↓L_ist_n2L, ↓L_ist_n3, ↓L_ist_n3L, ↓L_ild_n3, ↓L_ild_n1, ↓r_icge_t, ↓r_icge_f, ↓J_X6_sumOf_21, ↓L_ild_n2, ↓L_ald_n0, ↓A_g3, ↓A_g4, ↓A_g5, ↓A_g6, ↓A_g7, ↓A_g9, ↓A_g10, ↓A_g12, ↓A_g13, ↓A_g15, ↓A_g16, ↓A_g19, ↓A_g20, ↓A_g21, ↓A_g22, ↓A_g23, ↓A_g25, ↓A_g26, ↓A_g28, ↓A_g29, ↓A_g31, ↓A_g32, ↓A_g34, ↓A_g36, ↓A_g37, ↓A_g38, ↓A_g39, ↓A_g41, ↓A_g42, ↓A_g43, ↓A_g44, ↓A_g61, ↓A_g62, ↓A_g63, ↓A_g65, ↓A_g66, ↓A_g67, ↓A_g68, ↓A_g69, ↓A_g70, ↓A_gN, ↓A_gT, ↓A_gC, ↓r_iadd, ↓L_iinc3, ↓r_goto, ↓J_X6_sumOf_4, ↓r_ireturn, ↓U_X6_sumOf_0, ↓U_X6_sumOf_4, ↓U_X6_sumOf_21, ↓zthen_v, ↓zthen_0, zU_eq, zU_nc, zU_nj, sumI, Int.add_zero]
  | succ n ih =>
    intro j s hj hn
    rw [U_X6_sumOf_4]
    simp (disch := first | exact z_tt rfl | assumption | omega | (simp (disch := omega) only [zU_eq, zU_nc, zU_nj]; omega)) only [↓r_iconst, ↓L_ist_n2, ↓L_ist_n2L, ↓L_ist_n3, ↓L_ist_n3L, ↓L_ild_n3, ↓L_ild_n1, ↓r_icge_t, ↓r_icge_f, ↓J_X6_sumOf_21, ↓L_ild_n2, ↓L_ald_n0, ↓A_g3, ↓A_g4, ↓A_g5, ↓A_g6, ↓A_g7, ↓A_g9, ↓A_g10, ↓A_g12, ↓A_g13, ↓A_g15, ↓A_g16, ↓A_g19, ↓A_g20, ↓A_g21, ↓A_g22, ↓A_g23, ↓A_g25, ↓A_g26, ↓A_g28, ↓A_g29, ↓A_g31, ↓A_g32, ↓A_g34, ↓A_g36, ↓A_g37, ↓A_g38, ↓A_g39, ↓A_g41, ↓A_g42, ↓A_g43, ↓A_g44, ↓A_g61, ↓A_g62, ↓A_g63, ↓A_g65, ↓A_g66, ↓A_g67, ↓A_g68, ↓A_g69, ↓A_g70, ↓A_gN, ↓A_gT, ↓A_gC, ↓r_iadd, ↓L_iinc3, ↓r_goto, ↓J_X6_sumOf_4, ↓r_ireturn, ↓U_X6_sumOf_0, ↓U_X6_sumOf_21, ↓zthen_v, ↓zthen_0, zU_eq, zU_nc, zU_nj]
    rw [ih (j + 1) _ (by omega) (by omega), sumI, Int.add_assoc]
set_option maxRecDepth 20000 in
theorem c_X6_sumOf {σ : zM} {c sz : Int} (hs : zshp c = (0, 6)) (hz : 0 ≤ sz ∧ sz ≤ 6) : zcall 94 [vR c, vI sz] σ = some (some (vI (sumI (σ c) 0 sz.toNat)), σ) := by
  rw [S_X6_sumOf]
  simp (disch := first | exact z_tt rfl | assumption | omega | (simp (disch := omega) only [zU_eq, zU_nc, zU_nj]; omega)) only [↓r_iconst, ↓L_ist_n2, ↓L_ist_n2L, ↓L_ist_n3, ↓L_ist_n3L, ↓L_ild_n3, ↓L_ild_n1, ↓r_icge_t, ↓r_icge_f, ↓J_X6_sumOf_21, ↓L_ild_n2, ↓L_ald_n0, ↓A_g3, ↓A_g4, ↓A_g5, ↓A_g6, ↓A_g7, ↓A_g9, ↓A_g10, ↓A_g12, ↓A_g13, ↓A_g15, ↓A_g16, ↓A_g19, ↓A_g20, ↓A_g21, ↓A_g22, ↓A_g23, ↓A_g25, ↓A_g26, ↓A_g28, ↓A_g29, ↓A_g31, ↓A_g32, ↓A_g34, ↓A_g36, ↓A_g37, ↓A_g38, ↓A_g39, ↓A_g41, ↓A_g42, ↓A_g43, ↓A_g44, ↓A_g61, ↓A_g62, ↓A_g63, ↓A_g65, ↓A_g66, ↓A_g67, ↓A_g68, ↓A_g69, ↓A_g70, ↓A_gN, ↓A_gT, ↓A_gC, ↓r_iadd, ↓L_iinc3, ↓r_goto, ↓J_X6_sumOf_4, ↓r_ireturn, ↓U_X6_sumOf_0, ↓U_X6_sumOf_21, ↓zthen_v, ↓zthen_0, zU_eq, zU_nc, zU_nj]
  rw [c_X6_sumOf_loop hs hz.2 sz.toNat 0 0 (by omega) (by omega), Int.zero_add]
