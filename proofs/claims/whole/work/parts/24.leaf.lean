set_option maxRecDepth 20000 in
theorem c_X6_isParty_t {σ : zM} {p : Int} (h : 0 ≤ p ∧ p < σ 1 0) (hn : σ 1 0 ≤ 4) : zcall 85 [vR 0, vI p] σ = some (some (vI 1), σ) := by
  rw [S_X6_isParty]
  simp (disch := first | rfl | assumption | omega | (simp (disch := omega) only [zU_eq, zU_nc, zU_nj]; omega)) only [↓L_ild_n1, ↓r_iflt_t, ↓r_iflt_f, ↓J_X6_isParty_19, ↓L_ald_n0, ↓F_g0_0, ↓F_g1_0, ↓F_g17_0, ↓r_icge_t, ↓r_icge_f, ↓r_iconst, ↓r_goto, ↓J_X6_isParty_20, ↓r_zreturn, ↓U_X6_isParty_0, ↓U_X6_isParty_19, ↓U_X6_isParty_20, ↓zthen_v, ↓zthen_0, zU_eq, zU_nc, zU_nj]
set_option maxRecDepth 20000 in
theorem c_X6_isParty_f {σ : zM} {p : Int} (h : p < 0 ∨ σ 1 0 ≤ p) (hp : -2147483648 ≤ p ∧ p < 2147483648) (hn : 0 ≤ σ 1 0 ∧ σ 1 0 ≤ 4) : zcall 85 [vR 0, vI p] σ = some (some (vI 0), σ) := by
  rw [S_X6_isParty]
  by_cases h1 : p < 0
  · simp (disch := first | rfl | assumption | omega | (simp (disch := omega) only [zU_eq, zU_nc, zU_nj]; omega)) only [↓L_ild_n1, ↓r_iflt_t, ↓r_iflt_f, ↓J_X6_isParty_19, ↓L_ald_n0, ↓F_g0_0, ↓F_g1_0, ↓F_g17_0, ↓r_icge_t, ↓r_icge_f, ↓r_iconst, ↓r_goto, ↓J_X6_isParty_20, ↓r_zreturn, ↓U_X6_isParty_0, ↓U_X6_isParty_19, ↓U_X6_isParty_20, ↓zthen_v, ↓zthen_0, zU_eq, zU_nc, zU_nj]
  · simp (disch := first | rfl | assumption | omega | (simp (disch := omega) only [zU_eq, zU_nc, zU_nj]; omega)) only [↓L_ild_n1, ↓r_iflt_t, ↓r_iflt_f, ↓J_X6_isParty_19, ↓L_ald_n0, ↓F_g0_0, ↓F_g1_0, ↓F_g17_0, ↓r_icge_t, ↓r_icge_f, ↓r_iconst, ↓r_goto, ↓J_X6_isParty_20, ↓r_zreturn, ↓U_X6_isParty_0, ↓U_X6_isParty_19, ↓U_X6_isParty_20, ↓zthen_v, ↓zthen_0, zU_eq, zU_nc, zU_nj]
def sumR (f : Int → Int) : Nat → Int
  | 0 => 0
  | n + 1 => sumR f n + f n
theorem c_X6_sumOf_loop {σ : zM} {c sz : Int} (hs : zshp c = (0, 6)) (hz : 0 ≤ sz ∧ sz ≤ 6) : ∀ (n j : Nat), (j : Int) + n = sz → zres 94 C_X6_sumOf_4 [vR c, vI sz, vI (sumR (σ c) j), vI j] [] σ = some (some (vI (sumR (σ c) sz.toNat)), σ) := by
  intro n
  induction n with
  | zero =>
    intro j hj
    have : sz.toNat = j := by omega
    rw [this]
    simp (disch := first | rfl | assumption | omega | (simp (disch := omega) only [zU_eq, zU_nc, zU_nj]; omega)) only [↓r_iconst, ↓L_ist_n2, ↓L_ist_n2L, ↓L_ist_n3, ↓L_ist_n3L, ↓L_ild_n3, ↓L_ild_n1, ↓r_icge_t, ↓r_icge_f, ↓J_X6_sumOf_21, ↓L_ild_n2, ↓L_ald_n0, ↓A_g3, ↓A_g4, ↓A_g5, ↓A_g6, ↓A_g7, ↓A_g9, ↓A_g10, ↓A_g12, ↓A_g13, ↓A_g15, ↓A_g16, ↓A_g19, ↓A_g20, ↓A_g21, ↓A_g22, ↓A_g23, ↓A_g25, ↓A_g26, ↓A_g28, ↓A_g29, ↓A_g31, ↓A_g32, ↓A_g34, ↓A_g36, ↓A_g37, ↓A_g38, ↓A_g39, ↓A_g41, ↓A_g42, ↓A_g43, ↓A_g44, ↓A_g61, ↓A_g62, ↓A_g63, ↓A_g65, ↓A_g66, ↓A_g67, ↓A_g68, ↓A_g69, ↓A_g70, ↓A_gN, ↓A_gT, ↓r_iadd, ↓L_iinc3, ↓r_goto, ↓J_X6_sumOf_4, ↓r_ireturn, ↓U_X6_sumOf_0, ↓U_X6_sumOf_4, ↓U_X6_sumOf_21, ↓zthen_v, ↓zthen_0, zU_eq, zU_nc, zU_nj]
  | succ n ih =>
    intro j hj
    have h1 := ih (j + 1) (by omega)
    simp (disch := first | rfl | assumption | omega | (simp (disch := omega) only [zU_eq, zU_nc, zU_nj]; omega)) only [↓r_iconst, ↓L_ist_n2, ↓L_ist_n2L, ↓L_ist_n3, ↓L_ist_n3L, ↓L_ild_n3, ↓L_ild_n1, ↓r_icge_t, ↓r_icge_f, ↓J_X6_sumOf_21, ↓L_ild_n2, ↓L_ald_n0, ↓A_g3, ↓A_g4, ↓A_g5, ↓A_g6, ↓A_g7, ↓A_g9, ↓A_g10, ↓A_g12, ↓A_g13, ↓A_g15, ↓A_g16, ↓A_g19, ↓A_g20, ↓A_g21, ↓A_g22, ↓A_g23, ↓A_g25, ↓A_g26, ↓A_g28, ↓A_g29, ↓A_g31, ↓A_g32, ↓A_g34, ↓A_g36, ↓A_g37, ↓A_g38, ↓A_g39, ↓A_g41, ↓A_g42, ↓A_g43, ↓A_g44, ↓A_g61, ↓A_g62, ↓A_g63, ↓A_g65, ↓A_g66, ↓A_g67, ↓A_g68, ↓A_g69, ↓A_g70, ↓A_gN, ↓A_gT, ↓r_iadd, ↓L_iinc3, ↓r_goto, ↓J_X6_sumOf_4, ↓r_ireturn, ↓U_X6_sumOf_0, ↓U_X6_sumOf_21, ↓U_X6_sumOf_4, ↓zthen_v, ↓zthen_0, zU_eq, zU_nc, zU_nj]
    exact h1
