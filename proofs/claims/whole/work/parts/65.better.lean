def btS (σ : zM) (p q i : Int) : Int → Nat → Int
  | _, 0 => -1
  | j, n + 1 => if 0 < prt σ q j ∧ σ (3 + p) i * σ (3 + q) j < σ (3 + p) j * σ (3 + q) i then 10 * i + j else btS σ p q i (j + 1) n
def btO (σ : zM) (p q : Int) : Int → Nat → Int
  | _, 0 => -5
  | i, n + 1 => if 0 < prt σ p i ∧ 0 ≤ btS σ p q i 0 (σ 1 1).toNat then btS σ p q i 0 (σ 1 1).toNat else btO σ p q (i + 1) n
set_option maxRecDepth 20000 in
set_option maxHeartbeats 4000000 in
theorem c_bt_in {σ : zM} {p q i : Int} (hW : W1 σ) (hp : 0 ≤ p ∧ p < 4) (hq : 0 ≤ q ∧ q < 4) (hi : 0 ≤ i ∧ i < σ 1 1) : ∀ (n : Nat) (j : Int), 0 ≤ j → j + n = σ 1 1 →
    (0 ≤ btS σ p q i j n → zres 60 C_X6_better_65 [vR 0, vI p, vI q, vR (3 + p), vR (3 + q), vI i, vI j] [] σ = some (some (vI (btS σ p q i j n)), σ)) ∧
    (btS σ p q i j n < 0 → zres 60 C_X6_better_65 [vR 0, vI p, vI q, vR (3 + p), vR (3 + q), vI i, vI j] [] σ = zres 60 C_X6_better_130 [vR 0, vI p, vI q, vR (3 + p), vR (3 + q), vI i, vI (σ 1 1)] [] σ) := by
  have hm := hW.2.1
  intro n
  induction n with
  | zero =>
    intro j hj hn
    have e : j = σ 1 1 := by omega
    subst e
    refine ⟨fun h => by unfold btS at h; omega, fun _ => ?_⟩
    rw [U_X6_better_65]
    simp (disch := first | exact z_tt rfl | assumption | omega | (simp (disch := omega) only [zU_eq, zU_nc, zU_nj]; omega)) only [↓L_ald_n0, ↓L_ild_n1, ↓L_ild_n2, ↓I_X6_areTwo_0, ↓r_ifne_t, ↓r_ifne_f, ↓J_X6_better_11, ↓r_iconst, ↓r_ireturn, ↓F_g0_0, ↓F_g1_2, ↓F_g17_2, ↓A_a2, ↓A_a18, ↓A_a40, ↓A_a47, ↓L_ast_n3, ↓L_ast_n3L, ↓L_ast4, ↓L_ast4L, ↓L_ist5, ↓L_ist5L, ↓L_ild5, ↓F_g1_1, ↓F_g17_1, ↓r_icge_t, ↓r_icge_f, ↓J_X6_better_136, ↓I_X2_partsOf_1, ↓I_X2_partsOf_17, ↓r_lconst, ↓r_ifle_t, ↓r_ifle_f, ↓J_X6_better_130, ↓r_lle_t, ↓r_lle_f, ↓L_ist6, ↓L_ist6L, ↓L_ild6, ↓J_X6_better_124, ↓L_ald_n3, ↓A_g3, ↓A_g4, ↓A_g5, ↓A_g6, ↓A_g7, ↓A_g9, ↓A_g10, ↓A_g12, ↓A_g13, ↓A_g15, ↓A_g16, ↓A_g19, ↓A_g20, ↓A_g21, ↓A_g22, ↓A_g23, ↓A_g25, ↓A_g26, ↓A_g28, ↓A_g29, ↓A_g31, ↓A_g32, ↓A_g34, ↓A_g36, ↓A_g37, ↓A_g38, ↓A_g39, ↓A_g41, ↓A_g42, ↓A_g43, ↓A_g44, ↓A_g61, ↓A_g62, ↓A_g63, ↓A_g65, ↓A_g66, ↓A_g67, ↓A_g68, ↓A_g69, ↓A_g70, ↓A_gN, ↓A_gT, ↓A_gC, ↓L_ald4, ↓r_imul, ↓r_bipush, ↓r_iadd, ↓L_iinc6, ↓r_goto, ↓J_X6_better_65, ↓L_iinc5, ↓J_X6_better_35, ↓U_X6_better_0, ↓U_X6_better_11, ↓U_X6_better_35, ↓U_X6_better_124, ↓U_X6_better_136, ↓zthen_v, ↓zthen_0, zU_eq, zU_nc, zU_nj]
  | succ n ih =>
    intro j hj hn
    have I := ih (j + 1) (by omega) (by omega)
    have b1 := hW.2.2.1 p i hp.1 hp.2 hi.1 (by omega)
    have b2 := hW.2.2.1 q j hq.1 hq.2 hj (by omega)
    have b3 := hW.2.2.1 p j hp.1 hp.2 hj (by omega)
    have b4 := hW.2.2.1 q i hq.1 hq.2 hi.1 (by omega)
    have k1 := mul_bd b1 b2
    have k2 := mul_bd b3 b4
    have c4 := c_X2_partsOf (σ := σ) (p := q) (t := j) hW hq (by omega)
    have hb := prt_bd hW q j
    rw [U_X6_better_65]
    unfold btS
    by_cases q1 : 0 < prt σ q j
    · by_cases q2 : σ (3 + p) i * σ (3 + q) j < σ (3 + p) j * σ (3 + q) i
      · rw [if_pos ⟨q1, q2⟩]
        refine ⟨fun _ => ?_, fun h => by omega⟩
        simp (disch := first | exact z_tt rfl | assumption | omega | (simp (disch := omega) only [zU_eq, zU_nc, zU_nj]; omega)) only [↓L_ald_n0, ↓L_ild_n1, ↓L_ild_n2, ↓I_X6_areTwo_0, ↓r_ifne_t, ↓r_ifne_f, ↓J_X6_better_11, ↓r_iconst, ↓r_ireturn, ↓F_g0_0, ↓F_g1_2, ↓F_g17_2, ↓A_a2, ↓A_a18, ↓A_a40, ↓A_a47, ↓L_ast_n3, ↓L_ast_n3L, ↓L_ast4, ↓L_ast4L, ↓L_ist5, ↓L_ist5L, ↓L_ild5, ↓F_g1_1, ↓F_g17_1, ↓r_icge_t, ↓r_icge_f, ↓J_X6_better_136, ↓I_X2_partsOf_1, ↓I_X2_partsOf_17, ↓r_lconst, ↓r_ifle_t, ↓r_ifle_f, ↓J_X6_better_130, ↓r_lle_t, ↓r_lle_f, ↓L_ist6, ↓L_ist6L, ↓L_ild6, ↓J_X6_better_124, ↓L_ald_n3, ↓A_g3, ↓A_g4, ↓A_g5, ↓A_g6, ↓A_g7, ↓A_g9, ↓A_g10, ↓A_g12, ↓A_g13, ↓A_g15, ↓A_g16, ↓A_g19, ↓A_g20, ↓A_g21, ↓A_g22, ↓A_g23, ↓A_g25, ↓A_g26, ↓A_g28, ↓A_g29, ↓A_g31, ↓A_g32, ↓A_g34, ↓A_g36, ↓A_g37, ↓A_g38, ↓A_g39, ↓A_g41, ↓A_g42, ↓A_g43, ↓A_g44, ↓A_g61, ↓A_g62, ↓A_g63, ↓A_g65, ↓A_g66, ↓A_g67, ↓A_g68, ↓A_g69, ↓A_g70, ↓A_gN, ↓A_gT, ↓A_gC, ↓L_ald4, ↓r_imul, ↓r_bipush, ↓r_iadd, ↓L_iinc6, ↓r_goto, ↓J_X6_better_65, ↓L_iinc5, ↓J_X6_better_35, ↓U_X6_better_0, ↓U_X6_better_11, ↓U_X6_better_35, ↓U_X6_better_124, ↓U_X6_better_136, ↓zthen_v, ↓zthen_0, zU_eq, zU_nc, zU_nj, c4]
      · rw [if_neg (fun h => q2 h.2)]
        simp (disch := first | exact z_tt rfl | assumption | omega | (simp (disch := omega) only [zU_eq, zU_nc, zU_nj]; omega)) only [↓L_ald_n0, ↓L_ild_n1, ↓L_ild_n2, ↓I_X6_areTwo_0, ↓r_ifne_t, ↓r_ifne_f, ↓J_X6_better_11, ↓r_iconst, ↓r_ireturn, ↓F_g0_0, ↓F_g1_2, ↓F_g17_2, ↓A_a2, ↓A_a18, ↓A_a40, ↓A_a47, ↓L_ast_n3, ↓L_ast_n3L, ↓L_ast4, ↓L_ast4L, ↓L_ist5, ↓L_ist5L, ↓L_ild5, ↓F_g1_1, ↓F_g17_1, ↓r_icge_t, ↓r_icge_f, ↓J_X6_better_136, ↓I_X2_partsOf_1, ↓I_X2_partsOf_17, ↓r_lconst, ↓r_ifle_t, ↓r_ifle_f, ↓J_X6_better_130, ↓r_lle_t, ↓r_lle_f, ↓L_ist6, ↓L_ist6L, ↓L_ild6, ↓J_X6_better_124, ↓L_ald_n3, ↓A_g3, ↓A_g4, ↓A_g5, ↓A_g6, ↓A_g7, ↓A_g9, ↓A_g10, ↓A_g12, ↓A_g13, ↓A_g15, ↓A_g16, ↓A_g19, ↓A_g20, ↓A_g21, ↓A_g22, ↓A_g23, ↓A_g25, ↓A_g26, ↓A_g28, ↓A_g29, ↓A_g31, ↓A_g32, ↓A_g34, ↓A_g36, ↓A_g37, ↓A_g38, ↓A_g39, ↓A_g41, ↓A_g42, ↓A_g43, ↓A_g44, ↓A_g61, ↓A_g62, ↓A_g63, ↓A_g65, ↓A_g66, ↓A_g67, ↓A_g68, ↓A_g69, ↓A_g70, ↓A_gN, ↓A_gT, ↓A_gC, ↓L_ald4, ↓r_imul, ↓r_bipush, ↓r_iadd, ↓L_iinc6, ↓r_goto, ↓J_X6_better_65, ↓L_iinc5, ↓J_X6_better_35, ↓U_X6_better_0, ↓U_X6_better_11, ↓U_X6_better_35, ↓U_X6_better_124, ↓U_X6_better_136, ↓zthen_v, ↓zthen_0, zU_eq, zU_nc, zU_nj, c4]
        exact I
    · rw [if_neg (fun h => q1 h.1)]
      simp (disch := first | exact z_tt rfl | assumption | omega | (simp (disch := omega) only [zU_eq, zU_nc, zU_nj]; omega)) only [↓L_ald_n0, ↓L_ild_n1, ↓L_ild_n2, ↓I_X6_areTwo_0, ↓r_ifne_t, ↓r_ifne_f, ↓J_X6_better_11, ↓r_iconst, ↓r_ireturn, ↓F_g0_0, ↓F_g1_2, ↓F_g17_2, ↓A_a2, ↓A_a18, ↓A_a40, ↓A_a47, ↓L_ast_n3, ↓L_ast_n3L, ↓L_ast4, ↓L_ast4L, ↓L_ist5, ↓L_ist5L, ↓L_ild5, ↓F_g1_1, ↓F_g17_1, ↓r_icge_t, ↓r_icge_f, ↓J_X6_better_136, ↓I_X2_partsOf_1, ↓I_X2_partsOf_17, ↓r_lconst, ↓r_ifle_t, ↓r_ifle_f, ↓J_X6_better_130, ↓r_lle_t, ↓r_lle_f, ↓L_ist6, ↓L_ist6L, ↓L_ild6, ↓J_X6_better_124, ↓L_ald_n3, ↓A_g3, ↓A_g4, ↓A_g5, ↓A_g6, ↓A_g7, ↓A_g9, ↓A_g10, ↓A_g12, ↓A_g13, ↓A_g15, ↓A_g16, ↓A_g19, ↓A_g20, ↓A_g21, ↓A_g22, ↓A_g23, ↓A_g25, ↓A_g26, ↓A_g28, ↓A_g29, ↓A_g31, ↓A_g32, ↓A_g34, ↓A_g36, ↓A_g37, ↓A_g38, ↓A_g39, ↓A_g41, ↓A_g42, ↓A_g43, ↓A_g44, ↓A_g61, ↓A_g62, ↓A_g63, ↓A_g65, ↓A_g66, ↓A_g67, ↓A_g68, ↓A_g69, ↓A_g70, ↓A_gN, ↓A_gT, ↓A_gC, ↓L_ald4, ↓r_imul, ↓r_bipush, ↓r_iadd, ↓L_iinc6, ↓r_goto, ↓J_X6_better_65, ↓L_iinc5, ↓J_X6_better_35, ↓U_X6_better_0, ↓U_X6_better_11, ↓U_X6_better_35, ↓U_X6_better_124, ↓U_X6_better_136, ↓zthen_v, ↓zthen_0, zU_eq, zU_nc, zU_nj, c4]
      exact I
