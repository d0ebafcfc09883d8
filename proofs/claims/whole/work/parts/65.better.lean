/-! the first pair, in order -/
def btS (Q : Int → Int → Bool) (i : Int) : Int → Nat → Int
  | _, 0 => -1
  | j, n + 1 => if Q i j = true then 10 * i + j else btS Q i (j + 1) n
def btO (Q : Int → Int → Bool) (m : Nat) : Int → Nat → Int
  | _, 0 => -5
  | i, n + 1 => if 0 ≤ btS Q i 0 m then btS Q i 0 m else btO Q m (i + 1) n
theorem btS_no {Q : Int → Int → Bool} {i : Int} : ∀ (n : Nat) (j : Int), (∀ t : Int, j ≤ t → t < j + n → Q i t = false) → btS Q i j n = -1
  | 0, j, _ => rfl
  | n + 1, j, h => by
    rw [btS, if_neg (by rw [h j (by omega) (by omega)]; decide)]
    exact btS_no n (j + 1) (fun t h1 h2 => h t (by omega) (by omega))
theorem btS_congr {Q Q' : Int → Int → Bool} {i : Int} : ∀ (n : Nat) (j : Int), (∀ t : Int, j ≤ t → t < j + n → Q i t = Q' i t) → btS Q i j n = btS Q' i j n
  | 0, j, _ => rfl
  | n + 1, j, h => by
    rw [btS, btS, h j (by omega) (by omega), btS_congr n (j + 1) (fun t h1 h2 => h t (by omega) (by omega))]
theorem btO_congr {Q Q' : Int → Int → Bool} {m : Nat} : ∀ (n : Nat) (i : Int), (∀ s t : Int, i ≤ s → s < i + n → 0 ≤ t → t < m → Q s t = Q' s t) → btO Q m i n = btO Q' m i n
  | 0, j, _ => rfl
  | n + 1, j, h => by
    rw [btO, btO, btS_congr m 0 (fun t h1 h2 => h j t (by omega) (by omega) h1 (by omega)), btO_congr n (j + 1) (fun s t h1 h2 h3 h4 => h s t (by omega) (by omega) h3 h4)]
theorem btS_bd {Q : Int → Int → Bool} {i : Int} (hi : 0 ≤ i) : ∀ (n : Nat) (j : Int), 0 ≤ j → -1 ≤ btS Q i j n ∧ btS Q i j n < 10 * i + j + n + 1
  | 0, j, h => by rw [btS]; omega
  | n + 1, j, h => by
    rw [btS]
    have := btS_bd (Q := Q) hi n (j + 1) (by omega)
    split <;> omega
def betC (σ : zM) (p q : Int) (i j : Int) : Bool := decide (0 < prt σ p i ∧ 0 < prt σ q j ∧ σ (3 + p) i * σ (3 + q) j < σ (3 + p) j * σ (3 + q) i)
set_option maxRecDepth 20000 in
set_option maxHeartbeats 4000000 in
theorem c_bt_in {σ : zM} {p q i : Int} (hW : W1 σ) (hp : 0 ≤ p ∧ p < 4) (hq : 0 ≤ q ∧ q < 4) (hi : 0 ≤ i ∧ i < σ 1 1) (hpi : 0 < prt σ p i) : ∀ (n : Nat) (j : Int), 0 ≤ j → j + n = σ 1 1 →
    (0 ≤ btS (betC σ p q) i j n → zres 60 C_X6_better_65 [vR 0, vI p, vI q, vR (3 + p), vR (3 + q), vI i, vI j] [] σ = some (some (vI (btS (betC σ p q) i j n)), σ)) ∧
    (btS (betC σ p q) i j n < 0 → zres 60 C_X6_better_65 [vR 0, vI p, vI q, vR (3 + p), vR (3 + q), vI i, vI j] [] σ = zres 60 C_X6_better_130 [vR 0, vI p, vI q, vR (3 + p), vR (3 + q), vI i, vI (σ 1 1)] [] σ) := by
  have hm := hW.2.1
  intro n
  induction n with
  | zero =>
    intro j hj hn
    have e : j = σ 1 1 := by omega
    subst e
    refine ⟨fun h => by unfold btS at h; omega, fun _ => ?_⟩
    rw [U_X6_better_65]
    simp (disch := first | exact z_tt rfl | assumption | omega | (simp (disch := omega) only [zU_eq, zU_nc, zU_nj]; omega)) only [↓L_ald_n0, ↓L_ild_n1, ↓L_ild_n2, ↓I_X6_areTwo_0, ↓r_ifne_t, ↓r_ifne_f, ↓J_X6_better_11, ↓r_iconst, ↓r_ireturn, ↓F_g0_0, ↓F_g1_2, ↓F_g17_2, ↓A_a2, ↓A_a18, ↓A_a40, ↓A_a47, ↓L_ast_n3, ↓L_ast_n3L, ↓L_ast4, ↓L_ast4L, ↓L_ist5, ↓L_ist5L, ↓L_ild5, ↓F_g1_1, ↓F_g17_1, ↓r_icge_t, ↓r_icge_f, ↓J_X6_better_136, ↓I_X2_partsOf_1, ↓I_X2_partsOf_17, ↓r_lconst, ↓r_ifle_t, ↓r_ifle_f, ↓J_X6_better_130, ↓r_lle_t, ↓r_lle_f, ↓L_ist6, ↓L_ist6L, ↓L_ild6, ↓J_X6_better_124, ↓L_ald_n3, ↓A_g3, ↓A_g4, ↓A_g5, ↓A_g6, ↓A_g7, ↓A_g9, ↓A_g10, ↓A_g12, ↓A_g13, ↓A_g15, ↓A_g16, ↓A_g19, ↓A_g20, ↓A_g21, ↓A_g22, ↓A_g23, ↓A_g25, ↓A_g26, ↓A_g28, ↓A_g29, ↓A_g31, ↓A_g32, ↓A_g34, ↓A_g36, ↓A_g37, ↓A_g38, ↓A_g39, ↓A_g41, ↓A_g42, ↓A_g43, ↓A_g44, ↓A_g61, ↓A_g62, ↓A_g63, ↓A_g65, ↓A_g66, ↓A_g67, ↓A_g68, ↓A_g69, ↓A_g70, ↓A_gN, ↓A_gT, ↓A_gC, ↓L_ald4, ↓r_imul, ↓r_bipush, ↓r_iadd, ↓L_iinc6, ↓r_goto, ↓J_X6_better_65, ↓L_iinc5, ↓J_X6_better_35, ↓U_X6_better_0, ↓U_X6_better_11, ↓U_X6_better_35, ↓U_X6_better_124, ↓U_X6_better_136, ↓zthen_v, ↓zthen_0, zU_eq, zU_nc, zU_nj]
  | succ n ih =>
    intro j hj hn
    have I := ih (j + 1) (by omega) (by omega)
    have b1 := hW.2.2.1 p i hp.1 hp.2 hi.1 (by omega)
    have b2 := hW.2.2.1 q j hq.1 hq.2 hj (by omega)
    have b3 := hW.2.2.1 p j hp.1 hp.2 hj (by omega)
    have b4 := hW.2.2.1 q i hq.1 hq.2 hi.1 (by omega)
    have k1 := mul_bd b1 b2
    have k2 := mul_bd b3 b4
    have c4 := c_X2_partsOf (σ := σ) (p := q) (t := j) hW hq (by omega)
    have hb := prt_bd hW q j
    rw [U_X6_better_65]
    unfold btS
    by_cases q1 : 0 < prt σ q j
    · by_cases q2 : σ (3 + p) i * σ (3 + q) j < σ (3 + p) j * σ (3 + q) i
      · rw [if_pos (show betC σ p q i j = true from decide_eq_true ⟨hpi, q1, q2⟩)]
        refine ⟨fun _ => ?_, fun h => by omega⟩
        simp (disch := first | exact z_tt rfl | assumption | omega | (simp (disch := omega) only [zU_eq, zU_nc, zU_nj]; omega)) only [↓L_ald_n0, ↓L_ild_n1, ↓L_ild_n2, ↓I_X6_areTwo_0, ↓r_ifne_t, ↓r_ifne_f, ↓J_X6_better_11, ↓r_iconst, ↓r_ireturn, ↓F_g0_0, ↓F_g1_2, ↓F_g17_2, ↓A_a2, ↓A_a18, ↓A_a40, ↓A_a47, ↓L_ast_n3, ↓L_ast_n3L, ↓L_ast4, ↓L_ast4L, ↓L_ist5, ↓L_ist5L, ↓L_ild5, ↓F_g1_1, ↓F_g17_1, ↓r_icge_t, ↓r_icge_f, ↓J_X6_better_136, ↓I_X2_partsOf_1, ↓I_X2_partsOf_17, ↓r_lconst, ↓r_ifle_t, ↓r_ifle_f, ↓J_X6_better_130, ↓r_lle_t, ↓r_lle_f, ↓L_ist6, ↓L_ist6L, ↓L_ild6, ↓J_X6_better_124, ↓L_ald_n3, ↓A_g3, ↓A_g4, ↓A_g5, ↓A_g6, ↓A_g7, ↓A_g9, ↓A_g10, ↓A_g12, ↓A_g13, ↓A_g15, ↓A_g16, ↓A_g19, ↓A_g20, ↓A_g21, ↓A_g22, ↓A_g23, ↓A_g25, ↓A_g26, ↓A_g28, ↓A_g29, ↓A_g31, ↓A_g32, ↓A_g34, ↓A_g36, ↓A_g37, ↓A_g38, ↓A_g39, ↓A_g41, ↓A_g42, ↓A_g43, ↓A_g44, ↓A_g61, ↓A_g62, ↓A_g63, ↓A_g65, ↓A_g66, ↓A_g67, ↓A_g68, ↓A_g69, ↓A_g70, ↓A_gN, ↓A_gT, ↓A_gC, ↓L_ald4, ↓r_imul, ↓r_bipush, ↓r_iadd, ↓L_iinc6, ↓r_goto, ↓J_X6_better_65, ↓L_iinc5, ↓J_X6_better_35, ↓U_X6_better_0, ↓U_X6_better_11, ↓U_X6_better_35, ↓U_X6_better_124, ↓U_X6_better_136, ↓zthen_v, ↓zthen_0, zU_eq, zU_nc, zU_nj, c4]
      · rw [if_neg (show ¬ betC σ p q i j = true from fun h => q2 (of_decide_eq_true h).2.2)]
        simp (disch := first | exact z_tt rfl | assumption | omega | (simp (disch := omega) only [zU_eq, zU_nc, zU_nj]; omega)) only [↓L_ald_n0, ↓L_ild_n1, ↓L_ild_n2, ↓I_X6_areTwo_0, ↓r_ifne_t, ↓r_ifne_f, ↓J_X6_better_11, ↓r_iconst, ↓r_ireturn, ↓F_g0_0, ↓F_g1_2, ↓F_g17_2, ↓A_a2, ↓A_a18, ↓A_a40, ↓A_a47, ↓L_ast_n3, ↓L_ast_n3L, ↓L_ast4, ↓L_ast4L, ↓L_ist5, ↓L_ist5L, ↓L_ild5, ↓F_g1_1, ↓F_g17_1, ↓r_icge_t, ↓r_icge_f, ↓J_X6_better_136, ↓I_X2_partsOf_1, ↓I_X2_partsOf_17, ↓r_lconst, ↓r_ifle_t, ↓r_ifle_f, ↓J_X6_better_130, ↓r_lle_t, ↓r_lle_f, ↓L_ist6, ↓L_ist6L, ↓L_ild6, ↓J_X6_better_124, ↓L_ald_n3, ↓A_g3, ↓A_g4, ↓A_g5, ↓A_g6, ↓A_g7, ↓A_g9, ↓A_g10, ↓A_g12, ↓A_g13, ↓A_g15, ↓A_g16, ↓A_g19, ↓A_g20, ↓A_g21, ↓A_g22, ↓A_g23, ↓A_g25, ↓A_g26, ↓A_g28, ↓A_g29, ↓A_g31, ↓A_g32, ↓A_g34, ↓A_g36, ↓A_g37, ↓A_g38, ↓A_g39, ↓A_g41, ↓A_g42, ↓A_g43, ↓A_g44, ↓A_g61, ↓A_g62, ↓A_g63, ↓A_g65, ↓A_g66, ↓A_g67, ↓A_g68, ↓A_g69, ↓A_g70, ↓A_gN, ↓A_gT, ↓A_gC, ↓L_ald4, ↓r_imul, ↓r_bipush, ↓r_iadd, ↓L_iinc6, ↓r_goto, ↓J_X6_better_65, ↓L_iinc5, ↓J_X6_better_35, ↓U_X6_better_0, ↓U_X6_better_11, ↓U_X6_better_35, ↓U_X6_better_124, ↓U_X6_better_136, ↓zthen_v, ↓zthen_0, zU_eq, zU_nc, zU_nj, c4]
        exact I
    · rw [if_neg (show ¬ betC σ p q i j = true from fun h => q1 (of_decide_eq_true h).2.1)]
      simp (disch := first | exact z_tt rfl | assumption | omega | (simp (disch := omega) only [zU_eq, zU_nc, zU_nj]; omega)) only [↓L_ald_n0, ↓L_ild_n1, ↓L_ild_n2, ↓I_X6_areTwo_0, ↓r_ifne_t, ↓r_ifne_f, ↓J_X6_better_11, ↓r_iconst, ↓r_ireturn, ↓F_g0_0, ↓F_g1_2, ↓F_g17_2, ↓A_a2, ↓A_a18, ↓A_a40, ↓A_a47, ↓L_ast_n3, ↓L_ast_n3L, ↓L_ast4, ↓L_ast4L, ↓L_ist5, ↓L_ist5L, ↓L_ild5, ↓F_g1_1, ↓F_g17_1, ↓r_icge_t, ↓r_icge_f, ↓J_X6_better_136, ↓I_X2_partsOf_1, ↓I_X2_partsOf_17, ↓r_lconst, ↓r_ifle_t, ↓r_ifle_f, ↓J_X6_better_130, ↓r_lle_t, ↓r_lle_f, ↓L_ist6, ↓L_ist6L, ↓L_ild6, ↓J_X6_better_124, ↓L_ald_n3, ↓A_g3, ↓A_g4, ↓A_g5, ↓A_g6, ↓A_g7, ↓A_g9, ↓A_g10, ↓A_g12, ↓A_g13, ↓A_g15, ↓A_g16, ↓A_g19, ↓A_g20, ↓A_g21, ↓A_g22, ↓A_g23, ↓A_g25, ↓A_g26, ↓A_g28, ↓A_g29, ↓A_g31, ↓A_g32, ↓A_g34, ↓A_g36, ↓A_g37, ↓A_g38, ↓A_g39, ↓A_g41, ↓A_g42, ↓A_g43, ↓A_g44, ↓A_g61, ↓A_g62, ↓A_g63, ↓A_g65, ↓A_g66, ↓A_g67, ↓A_g68, ↓A_g69, ↓A_g70, ↓A_gN, ↓A_gT, ↓A_gC, ↓L_ald4, ↓r_imul, ↓r_bipush, ↓r_iadd, ↓L_iinc6, ↓r_goto, ↓J_X6_better_65, ↓L_iinc5, ↓J_X6_better_35, ↓U_X6_better_0, ↓U_X6_better_11, ↓U_X6_better_35, ↓U_X6_better_124, ↓U_X6_better_136, ↓zthen_v, ↓zthen_0, zU_eq, zU_nc, zU_nj, c4]
      exact I
set_option maxRecDepth 20000 in
set_option maxHeartbeats 4000000 in
theorem c_bt_out {σ : zM} {p q : Int} (hW : W1 σ) (hp : 0 ≤ p ∧ p < 4) (hq : 0 ≤ q ∧ q < 4) : ∀ (n : Nat) (i : Int) (z : zV), 0 ≤ i → i + n = σ 1 1 →
    zres 60 C_X6_better_35 [vR 0, vI p, vI q, vR (3 + p), vR (3 + q), vI i, z] [] σ = some (some (vI (btO (betC σ p q) (σ 1 1).toNat i n)), σ) := by
  have hm := hW.2.1
  intro n
  induction n with
  | zero =>
    intro i z hi hn
    simp (disch := first | exact z_tt rfl | assumption | omega | (simp (disch := omega) only [zU_eq, zU_nc, zU_nj]; omega)) only [↓L_ald_n0, ↓L_ild_n1, ↓L_ild_n2, ↓I_X6_areTwo_0, ↓r_ifne_t, ↓r_ifne_f, ↓J_X6_better_11, ↓r_iconst, ↓r_ireturn, ↓F_g0_0, ↓F_g1_2, ↓F_g17_2, ↓A_a2, ↓A_a18, ↓A_a40, ↓A_a47, ↓L_ast_n3, ↓L_ast_n3L, ↓L_ast4, ↓L_ast4L, ↓L_ist5, ↓L_ist5L, ↓L_ild5, ↓F_g1_1, ↓F_g17_1, ↓r_icge_t, ↓r_icge_f, ↓J_X6_better_136, ↓I_X2_partsOf_1, ↓I_X2_partsOf_17, ↓r_lconst, ↓r_ifle_t, ↓r_ifle_f, ↓J_X6_better_130, ↓r_lle_t, ↓r_lle_f, ↓L_ist6, ↓L_ist6L, ↓L_ild6, ↓J_X6_better_124, ↓L_ald_n3, ↓A_g3, ↓A_g4, ↓A_g5, ↓A_g6, ↓A_g7, ↓A_g9, ↓A_g10, ↓A_g12, ↓A_g13, ↓A_g15, ↓A_g16, ↓A_g19, ↓A_g20, ↓A_g21, ↓A_g22, ↓A_g23, ↓A_g25, ↓A_g26, ↓A_g28, ↓A_g29, ↓A_g31, ↓A_g32, ↓A_g34, ↓A_g36, ↓A_g37, ↓A_g38, ↓A_g39, ↓A_g41, ↓A_g42, ↓A_g43, ↓A_g44, ↓A_g61, ↓A_g62, ↓A_g63, ↓A_g65, ↓A_g66, ↓A_g67, ↓A_g68, ↓A_g69, ↓A_g70, ↓A_gN, ↓A_gT, ↓A_gC, ↓L_ald4, ↓r_imul, ↓r_bipush, ↓r_iadd, ↓L_iinc6, ↓r_goto, ↓J_X6_better_65, ↓L_iinc5, ↓J_X6_better_35, ↓U_X6_better_0, ↓U_X6_better_11, ↓U_X6_better_35, ↓U_X6_better_65, ↓U_X6_better_124, ↓U_X6_better_130, ↓U_X6_better_136, ↓zthen_v, ↓zthen_0, zU_eq, zU_nc, zU_nj, btO]
  | succ n ih =>
    intro i z hi hn
    have c4 := c_X2_partsOf (σ := σ) (p := p) (t := i) hW hp (by omega)
    have hb := prt_bd hW p i
    rw [U_X6_better_35, btO]
    by_cases q1 : 0 < prt σ p i
    · have I := c_bt_in hW hp hq (i := i) ⟨hi, by omega⟩ q1 (σ 1 1).toNat 0 (by omega) (by omega)
      simp (disch := first | exact z_tt rfl | assumption | omega | (simp (disch := omega) only [zU_eq, zU_nc, zU_nj]; omega)) only [↓L_ald_n0, ↓L_ild_n1, ↓L_ild_n2, ↓I_X6_areTwo_0, ↓r_ifne_t, ↓r_ifne_f, ↓J_X6_better_11, ↓r_iconst, ↓r_ireturn, ↓F_g0_0, ↓F_g1_2, ↓F_g17_2, ↓A_a2, ↓A_a18, ↓A_a40, ↓A_a47, ↓L_ast_n3, ↓L_ast_n3L, ↓L_ast4, ↓L_ast4L, ↓L_ist5, ↓L_ist5L, ↓L_ild5, ↓F_g1_1, ↓F_g17_1, ↓r_icge_t, ↓r_icge_f, ↓J_X6_better_136, ↓I_X2_partsOf_1, ↓I_X2_partsOf_17, ↓r_lconst, ↓r_ifle_t, ↓r_ifle_f, ↓J_X6_better_130, ↓r_lle_t, ↓r_lle_f, ↓L_ist6, ↓L_ist6L, ↓L_ild6, ↓J_X6_better_124, ↓L_ald_n3, ↓A_g3, ↓A_g4, ↓A_g5, ↓A_g6, ↓A_g7, ↓A_g9, ↓A_g10, ↓A_g12, ↓A_g13, ↓A_g15, ↓A_g16, ↓A_g19, ↓A_g20, ↓A_g21, ↓A_g22, ↓A_g23, ↓A_g25, ↓A_g26, ↓A_g28, ↓A_g29, ↓A_g31, ↓A_g32, ↓A_g34, ↓A_g36, ↓A_g37, ↓A_g38, ↓A_g39, ↓A_g41, ↓A_g42, ↓A_g43, ↓A_g44, ↓A_g61, ↓A_g62, ↓A_g63, ↓A_g65, ↓A_g66, ↓A_g67, ↓A_g68, ↓A_g69, ↓A_g70, ↓A_gN, ↓A_gT, ↓A_gC, ↓L_ald4, ↓r_imul, ↓r_bipush, ↓r_iadd, ↓L_iinc6, ↓r_goto, ↓J_X6_better_65, ↓L_iinc5, ↓J_X6_better_35, ↓U_X6_better_0, ↓U_X6_better_11, ↓U_X6_better_124, ↓U_X6_better_136, ↓zthen_v, ↓zthen_0, zU_eq, zU_nc, zU_nj, c4]
      by_cases q2 : 0 ≤ btS (betC σ p q) i 0 (σ 1 1).toNat
      · rw [if_pos q2]
        exact I.1 q2
      · rw [if_neg q2, I.2 (by omega), U_X6_better_130]
        simp (disch := first | exact z_tt rfl | assumption | omega | (simp (disch := omega) only [zU_eq, zU_nc, zU_nj]; omega)) only [↓L_ald_n0, ↓L_ild_n1, ↓L_ild_n2, ↓I_X6_areTwo_0, ↓r_ifne_t, ↓r_ifne_f, ↓J_X6_better_11, ↓r_iconst, ↓r_ireturn, ↓F_g0_0, ↓F_g1_2, ↓F_g17_2, ↓A_a2, ↓A_a18, ↓A_a40, ↓A_a47, ↓L_ast_n3, ↓L_ast_n3L, ↓L_ast4, ↓L_ast4L, ↓L_ist5, ↓L_ist5L, ↓L_ild5, ↓F_g1_1, ↓F_g17_1, ↓r_icge_t, ↓r_icge_f, ↓J_X6_better_136, ↓I_X2_partsOf_1, ↓I_X2_partsOf_17, ↓r_lconst, ↓r_ifle_t, ↓r_ifle_f, ↓J_X6_better_130, ↓r_lle_t, ↓r_lle_f, ↓L_ist6, ↓L_ist6L, ↓L_ild6, ↓J_X6_better_124, ↓L_ald_n3, ↓A_g3, ↓A_g4, ↓A_g5, ↓A_g6, ↓A_g7, ↓A_g9, ↓A_g10, ↓A_g12, ↓A_g13, ↓A_g15, ↓A_g16, ↓A_g19, ↓A_g20, ↓A_g21, ↓A_g22, ↓A_g23, ↓A_g25, ↓A_g26, ↓A_g28, ↓A_g29, ↓A_g31, ↓A_g32, ↓A_g34, ↓A_g36, ↓A_g37, ↓A_g38, ↓A_g39, ↓A_g41, ↓A_g42, ↓A_g43, ↓A_g44, ↓A_g61, ↓A_g62, ↓A_g63, ↓A_g65, ↓A_g66, ↓A_g67, ↓A_g68, ↓A_g69, ↓A_g70, ↓A_gN, ↓A_gT, ↓A_gC, ↓L_ald4, ↓r_imul, ↓r_bipush, ↓r_iadd, ↓L_iinc6, ↓r_goto, ↓J_X6_better_65, ↓L_iinc5, ↓J_X6_better_35, ↓U_X6_better_0, ↓U_X6_better_11, ↓U_X6_better_124, ↓U_X6_better_136, ↓zthen_v, ↓zthen_0, zU_eq, zU_nc, zU_nj]
        exact ih (i + 1) _ (by omega) (by omega)
    · rw [btS_no _ _ (fun t _ _ => decide_eq_false (fun h => q1 h.1)), if_neg (by decide)]
      simp (disch := first | exact z_tt rfl | assumption | omega | (simp (disch := omega) only [zU_eq, zU_nc, zU_nj]; omega)) only [↓L_ald_n0, ↓L_ild_n1, ↓L_ild_n2, ↓I_X6_areTwo_0, ↓r_ifne_t, ↓r_ifne_f, ↓J_X6_better_11, ↓r_iconst, ↓r_ireturn, ↓F_g0_0, ↓F_g1_2, ↓F_g17_2, ↓A_a2, ↓A_a18, ↓A_a40, ↓A_a47, ↓L_ast_n3, ↓L_ast_n3L, ↓L_ast4, ↓L_ast4L, ↓L_ist5, ↓L_ist5L, ↓L_ild5, ↓F_g1_1, ↓F_g17_1, ↓r_icge_t, ↓r_icge_f, ↓J_X6_better_136, ↓I_X2_partsOf_1, ↓I_X2_partsOf_17, ↓r_lconst, ↓r_ifle_t, ↓r_ifle_f, ↓J_X6_better_130, ↓r_lle_t, ↓r_lle_f, ↓L_ist6, ↓L_ist6L, ↓L_ild6, ↓J_X6_better_124, ↓L_ald_n3, ↓A_g3, ↓A_g4, ↓A_g5, ↓A_g6, ↓A_g7, ↓A_g9, ↓A_g10, ↓A_g12, ↓A_g13, ↓A_g15, ↓A_g16, ↓A_g19, ↓A_g20, ↓A_g21, ↓A_g22, ↓A_g23, ↓A_g25, ↓A_g26, ↓A_g28, ↓A_g29, ↓A_g31, ↓A_g32, ↓A_g34, ↓A_g36, ↓A_g37, ↓A_g38, ↓A_g39, ↓A_g41, ↓A_g42, ↓A_g43, ↓A_g44, ↓A_g61, ↓A_g62, ↓A_g63, ↓A_g65, ↓A_g66, ↓A_g67, ↓A_g68, ↓A_g69, ↓A_g70, ↓A_gN, ↓A_gT, ↓A_gC, ↓L_ald4, ↓r_imul, ↓r_bipush, ↓r_iadd, ↓L_iinc6, ↓r_goto, ↓J_X6_better_65, ↓L_iinc5, ↓J_X6_better_35, ↓U_X6_better_0, ↓U_X6_better_11, ↓U_X6_better_124, ↓U_X6_better_130, ↓U_X6_better_136, ↓zthen_v, ↓zthen_0, zU_eq, zU_nc, zU_nj, c4]
      exact ih (i + 1) _ (by omega) (by omega)
def betM (τ : zM) (p q : Int) (i j : Int) : Bool := decide (0 < hup τ p i ∧ 0 < hup τ q j ∧ τ 61 (29 + 6 * p + i) * τ 61 (29 + 6 * q + j) < τ 61 (29 + 6 * p + j) * τ 61 (29 + 6 * q + i))
set_option maxRecDepth 20000 in
set_option maxHeartbeats 4000000 in
theorem m_bt_in {τ : zM} {p q i : Int} (hV : V1 τ) (hp : 0 ≤ p ∧ p < 4) (hq : 0 ≤ q ∧ q < 4) (hi : 0 ≤ i ∧ i < τ 61 1) : ∀ (n : Nat) (j : Int), 0 ≤ j → j + n = τ 61 1 →
    (0 ≤ btS (betM τ p q) i j n → zres 140 C_X7_better_26 [vR 60, vI p, vI q, vI i, vI j] [] τ = some (some (vI (btS (betM τ p q) i j n)), τ)) ∧
    (btS (betM τ p q) i j n < 0 → zres 140 C_X7_better_26 [vR 60, vI p, vI q, vI i, vI j] [] τ = zres 140 C_X7_better_101 [vR 60, vI p, vI q, vI i, vI (τ 61 1)] [] τ) := by
  have hm := hV.2.1
  intro n
  induction n with
  | zero =>
    intro j hj hn
    have e : j = τ 61 1 := by omega
    subst e
    refine ⟨fun h => by unfold btS at h; omega, fun _ => ?_⟩
    rw [U_X7_better_26]
    simp (disch := first | exact z_tt rfl | assumption | omega | (simp (disch := omega) only [zU_eq, zU_nc, zU_nj]; omega)) only [↓L_ald_n0, ↓L_ild_n1, ↓L_ild_n2, ↓I_X7_areTwo_60, ↓r_ifne_t, ↓r_ifne_f, ↓J_X7_better_11, ↓r_iconst, ↓r_ireturn, ↓L_ist_n3, ↓L_ist_n3L, ↓L_ild_n3, ↓F_g60_0, ↓A_g3, ↓A_g4, ↓A_g5, ↓A_g6, ↓A_g7, ↓A_g9, ↓A_g10, ↓A_g12, ↓A_g13, ↓A_g15, ↓A_g16, ↓A_g19, ↓A_g20, ↓A_g21, ↓A_g22, ↓A_g23, ↓A_g25, ↓A_g26, ↓A_g28, ↓A_g29, ↓A_g31, ↓A_g32, ↓A_g34, ↓A_g36, ↓A_g37, ↓A_g38, ↓A_g39, ↓A_g41, ↓A_g42, ↓A_g43, ↓A_g44, ↓A_g61, ↓A_g62, ↓A_g63, ↓A_g65, ↓A_g66, ↓A_g67, ↓A_g68, ↓A_g69, ↓A_g70, ↓A_gN, ↓A_gT, ↓A_gC, ↓r_icge_t, ↓r_icge_f, ↓J_X7_better_107, ↓L_ist4, ↓L_ist4L, ↓L_ild4, ↓J_X7_better_101, ↓I_X7_doesHold_60, ↓r_ifeq_t, ↓r_ifeq_f, ↓J_X7_better_95, ↓I_X7_pointsOf_60, ↓r_imul, ↓r_bipush, ↓r_iadd, ↓L_iinc4, ↓r_goto, ↓J_X7_better_26, ↓L_iinc3, ↓J_X7_better_13, ↓U_X7_better_0, ↓U_X7_better_11, ↓U_X7_better_13, ↓U_X7_better_95, ↓U_X7_better_107, ↓zthen_v, ↓zthen_0, zU_eq, zU_nc, zU_nj]
  | succ n ih =>
    intro j hj hn
    have I := ih (j + 1) (by omega) (by omega)
    have b1 := hV.2.2.1 p i hp.1 hp.2 hi.1 (by omega)
    have b2 := hV.2.2.1 q j hq.1 hq.2 hj (by omega)
    have b3 := hV.2.2.1 p j hp.1 hp.2 hj (by omega)
    have b4 := hV.2.2.1 q i hq.1 hq.2 hi.1 (by omega)
    have k1 := mul_bd b1 b2
    have k2 := mul_bd b3 b4
    rw [U_X7_better_26]
    unfold btS
    by_cases q0 : 0 < hup τ p i
    · have d0 := m_doesHold_t hV hp hi q0
      by_cases q1 : 0 < hup τ q j
      · have d1 := m_doesHold_t hV hq (t := j) (by omega) q1
        by_cases q2 : τ 61 (29 + 6 * p + i) * τ 61 (29 + 6 * q + j) < τ 61 (29 + 6 * p + j) * τ 61 (29 + 6 * q + i)
        · rw [if_pos (show betM τ p q i j = true from decide_eq_true ⟨q0, q1, q2⟩)]
          refine ⟨fun _ => ?_, fun h => by omega⟩
          simp (disch := first | exact z_tt rfl | assumption | omega | (simp (disch := omega) only [zU_eq, zU_nc, zU_nj]; omega)) only [↓L_ald_n0, ↓L_ild_n1, ↓L_ild_n2, ↓I_X7_areTwo_60, ↓r_ifne_t, ↓r_ifne_f, ↓J_X7_better_11, ↓r_iconst, ↓r_ireturn, ↓L_ist_n3, ↓L_ist_n3L, ↓L_ild_n3, ↓F_g60_0, ↓A_g3, ↓A_g4, ↓A_g5, ↓A_g6, ↓A_g7, ↓A_g9, ↓A_g10, ↓A_g12, ↓A_g13, ↓A_g15, ↓A_g16, ↓A_g19, ↓A_g20, ↓A_g21, ↓A_g22, ↓A_g23, ↓A_g25, ↓A_g26, ↓A_g28, ↓A_g29, ↓A_g31, ↓A_g32, ↓A_g34, ↓A_g36, ↓A_g37, ↓A_g38, ↓A_g39, ↓A_g41, ↓A_g42, ↓A_g43, ↓A_g44, ↓A_g61, ↓A_g62, ↓A_g63, ↓A_g65, ↓A_g66, ↓A_g67, ↓A_g68, ↓A_g69, ↓A_g70, ↓A_gN, ↓A_gT, ↓A_gC, ↓r_icge_t, ↓r_icge_f, ↓J_X7_better_107, ↓L_ist4, ↓L_ist4L, ↓L_ild4, ↓J_X7_better_101, ↓I_X7_doesHold_60, ↓r_ifeq_t, ↓r_ifeq_f, ↓J_X7_better_95, ↓I_X7_pointsOf_60, ↓r_imul, ↓r_bipush, ↓r_iadd, ↓L_iinc4, ↓r_goto, ↓J_X7_better_26, ↓L_iinc3, ↓J_X7_better_13, ↓U_X7_better_0, ↓U_X7_better_11, ↓U_X7_better_13, ↓U_X7_better_95, ↓U_X7_better_107, ↓zthen_v, ↓zthen_0, zU_eq, zU_nc, zU_nj, d0, d1, m_pointsOf]
        · rw [if_neg (show ¬ betM τ p q i j = true from fun h => q2 (of_decide_eq_true h).2.2)]
          simp (disch := first | exact z_tt rfl | assumption | omega | (simp (disch := omega) only [zU_eq, zU_nc, zU_nj]; omega)) only [↓L_ald_n0, ↓L_ild_n1, ↓L_ild_n2, ↓I_X7_areTwo_60, ↓r_ifne_t, ↓r_ifne_f, ↓J_X7_better_11, ↓r_iconst, ↓r_ireturn, ↓L_ist_n3, ↓L_ist_n3L, ↓L_ild_n3, ↓F_g60_0, ↓A_g3, ↓A_g4, ↓A_g5, ↓A_g6, ↓A_g7, ↓A_g9, ↓A_g10, ↓A_g12, ↓A_g13, ↓A_g15, ↓A_g16, ↓A_g19, ↓A_g20, ↓A_g21, ↓A_g22, ↓A_g23, ↓A_g25, ↓A_g26, ↓A_g28, ↓A_g29, ↓A_g31, ↓A_g32, ↓A_g34, ↓A_g36, ↓A_g37, ↓A_g38, ↓A_g39, ↓A_g41, ↓A_g42, ↓A_g43, ↓A_g44, ↓A_g61, ↓A_g62, ↓A_g63, ↓A_g65, ↓A_g66, ↓A_g67, ↓A_g68, ↓A_g69, ↓A_g70, ↓A_gN, ↓A_gT, ↓A_gC, ↓r_icge_t, ↓r_icge_f, ↓J_X7_better_107, ↓L_ist4, ↓L_ist4L, ↓L_ild4, ↓J_X7_better_101, ↓I_X7_doesHold_60, ↓r_ifeq_t, ↓r_ifeq_f, ↓J_X7_better_95, ↓I_X7_pointsOf_60, ↓r_imul, ↓r_bipush, ↓r_iadd, ↓L_iinc4, ↓r_goto, ↓J_X7_better_26, ↓L_iinc3, ↓J_X7_better_13, ↓U_X7_better_0, ↓U_X7_better_11, ↓U_X7_better_13, ↓U_X7_better_95, ↓U_X7_better_107, ↓zthen_v, ↓zthen_0, zU_eq, zU_nc, zU_nj, d0, d1, m_pointsOf]
          exact I
      · have d1 := m_doesHold_f hV hq (t := j) (by omega) q1
        rw [if_neg (show ¬ betM τ p q i j = true from fun h => q1 (of_decide_eq_true h).2.1)]
        simp (disch := first | exact z_tt rfl | assumption | omega | (simp (disch := omega) only [zU_eq, zU_nc, zU_nj]; omega)) only [↓L_ald_n0, ↓L_ild_n1, ↓L_ild_n2, ↓I_X7_areTwo_60, ↓r_ifne_t, ↓r_ifne_f, ↓J_X7_better_11, ↓r_iconst, ↓r_ireturn, ↓L_ist_n3, ↓L_ist_n3L, ↓L_ild_n3, ↓F_g60_0, ↓A_g3, ↓A_g4, ↓A_g5, ↓A_g6, ↓A_g7, ↓A_g9, ↓A_g10, ↓A_g12, ↓A_g13, ↓A_g15, ↓A_g16, ↓A_g19, ↓A_g20, ↓A_g21, ↓A_g22, ↓A_g23, ↓A_g25, ↓A_g26, ↓A_g28, ↓A_g29, ↓A_g31, ↓A_g32, ↓A_g34, ↓A_g36, ↓A_g37, ↓A_g38, ↓A_g39, ↓A_g41, ↓A_g42, ↓A_g43, ↓A_g44, ↓A_g61, ↓A_g62, ↓A_g63, ↓A_g65, ↓A_g66, ↓A_g67, ↓A_g68, ↓A_g69, ↓A_g70, ↓A_gN, ↓A_gT, ↓A_gC, ↓r_icge_t, ↓r_icge_f, ↓J_X7_better_107, ↓L_ist4, ↓L_ist4L, ↓L_ild4, ↓J_X7_better_101, ↓I_X7_doesHold_60, ↓r_ifeq_t, ↓r_ifeq_f, ↓J_X7_better_95, ↓I_X7_pointsOf_60, ↓r_imul, ↓r_bipush, ↓r_iadd, ↓L_iinc4, ↓r_goto, ↓J_X7_better_26, ↓L_iinc3, ↓J_X7_better_13, ↓U_X7_better_0, ↓U_X7_better_11, ↓U_X7_better_13, ↓U_X7_better_95, ↓U_X7_better_107, ↓zthen_v, ↓zthen_0, zU_eq, zU_nc, zU_nj, d0, d1]
        exact I
    · have d0 := m_doesHold_f hV hp hi q0
      rw [if_neg (show ¬ betM τ p q i j = true from fun h => q0 (of_decide_eq_true h).1)]
      simp (disch := first | exact z_tt rfl | assumption | omega | (simp (disch := omega) only [zU_eq, zU_nc, zU_nj]; omega)) only [↓L_ald_n0, ↓L_ild_n1, ↓L_ild_n2, ↓I_X7_areTwo_60, ↓r_ifne_t, ↓r_ifne_f, ↓J_X7_better_11, ↓r_iconst, ↓r_ireturn, ↓L_ist_n3, ↓L_ist_n3L, ↓L_ild_n3, ↓F_g60_0, ↓A_g3, ↓A_g4, ↓A_g5, ↓A_g6, ↓A_g7, ↓A_g9, ↓A_g10, ↓A_g12, ↓A_g13, ↓A_g15, ↓A_g16, ↓A_g19, ↓A_g20, ↓A_g21, ↓A_g22, ↓A_g23, ↓A_g25, ↓A_g26, ↓A_g28, ↓A_g29, ↓A_g31, ↓A_g32, ↓A_g34, ↓A_g36, ↓A_g37, ↓A_g38, ↓A_g39, ↓A_g41, ↓A_g42, ↓A_g43, ↓A_g44, ↓A_g61, ↓A_g62, ↓A_g63, ↓A_g65, ↓A_g66, ↓A_g67, ↓A_g68, ↓A_g69, ↓A_g70, ↓A_gN, ↓A_gT, ↓A_gC, ↓r_icge_t, ↓r_icge_f, ↓J_X7_better_107, ↓L_ist4, ↓L_ist4L, ↓L_ild4, ↓J_X7_better_101, ↓I_X7_doesHold_60, ↓r_ifeq_t, ↓r_ifeq_f, ↓J_X7_better_95, ↓I_X7_pointsOf_60, ↓r_imul, ↓r_bipush, ↓r_iadd, ↓L_iinc4, ↓r_goto, ↓J_X7_better_26, ↓L_iinc3, ↓J_X7_better_13, ↓U_X7_better_0, ↓U_X7_better_11, ↓U_X7_better_13, ↓U_X7_better_95, ↓U_X7_better_107, ↓zthen_v, ↓zthen_0, zU_eq, zU_nc, zU_nj, d0]
      exact I
set_option maxRecDepth 20000 in
set_option maxHeartbeats 4000000 in
theorem m_bt_out {τ : zM} {p q : Int} (hV : V1 τ) (hp : 0 ≤ p ∧ p < 4) (hq : 0 ≤ q ∧ q < 4) : ∀ (n : Nat) (i : Int) (z : zV), 0 ≤ i → i + n = τ 61 1 →
    zres 140 C_X7_better_13 [vR 60, vI p, vI q, vI i, z] [] τ = some (some (vI (btO (betM τ p q) (τ 61 1).toNat i n)), τ) := by
  have hm := hV.2.1
  intro n
  induction n with
  | zero =>
    intro i z hi hn
    simp (disch := first | exact z_tt rfl | assumption | omega | (simp (disch := omega) only [zU_eq, zU_nc, zU_nj]; omega)) only [↓L_ald_n0, ↓L_ild_n1, ↓L_ild_n2, ↓I_X7_areTwo_60, ↓r_ifne_t, ↓r_ifne_f, ↓J_X7_better_11, ↓r_iconst, ↓r_ireturn, ↓L_ist_n3, ↓L_ist_n3L, ↓L_ild_n3, ↓F_g60_0, ↓A_g3, ↓A_g4, ↓A_g5, ↓A_g6, ↓A_g7, ↓A_g9, ↓A_g10, ↓A_g12, ↓A_g13, ↓A_g15, ↓A_g16, ↓A_g19, ↓A_g20, ↓A_g21, ↓A_g22, ↓A_g23, ↓A_g25, ↓A_g26, ↓A_g28, ↓A_g29, ↓A_g31, ↓A_g32, ↓A_g34, ↓A_g36, ↓A_g37, ↓A_g38, ↓A_g39, ↓A_g41, ↓A_g42, ↓A_g43, ↓A_g44, ↓A_g61, ↓A_g62, ↓A_g63, ↓A_g65, ↓A_g66, ↓A_g67, ↓A_g68, ↓A_g69, ↓A_g70, ↓A_gN, ↓A_gT, ↓A_gC, ↓r_icge_t, ↓r_icge_f, ↓J_X7_better_107, ↓L_ist4, ↓L_ist4L, ↓L_ild4, ↓J_X7_better_101, ↓I_X7_doesHold_60, ↓r_ifeq_t, ↓r_ifeq_f, ↓J_X7_better_95, ↓I_X7_pointsOf_60, ↓r_imul, ↓r_bipush, ↓r_iadd, ↓L_iinc4, ↓r_goto, ↓J_X7_better_26, ↓L_iinc3, ↓J_X7_better_13, ↓U_X7_better_0, ↓U_X7_better_11, ↓U_X7_better_13, ↓U_X7_better_26, ↓U_X7_better_95, ↓U_X7_better_101, ↓U_X7_better_107, ↓zthen_v, ↓zthen_0, zU_eq, zU_nc, zU_nj, btO]
  | succ n ih =>
    intro i z hi hn
    rw [U_X7_better_13, btO]
    have I := m_bt_in hV hp hq (i := i) ⟨hi, by omega⟩ (τ 61 1).toNat 0 (by omega) (by omega)
    simp (disch := first | exact z_tt rfl | assumption | omega | (simp (disch := omega) only [zU_eq, zU_nc, zU_nj]; omega)) only [↓L_ald_n0, ↓L_ild_n1, ↓L_ild_n2, ↓I_X7_areTwo_60, ↓r_ifne_t, ↓r_ifne_f, ↓J_X7_better_11, ↓r_iconst, ↓r_ireturn, ↓L_ist_n3, ↓L_ist_n3L, ↓L_ild_n3, ↓F_g60_0, ↓A_g3, ↓A_g4, ↓A_g5, ↓A_g6, ↓A_g7, ↓A_g9, ↓A_g10, ↓A_g12, ↓A_g13, ↓A_g15, ↓A_g16, ↓A_g19, ↓A_g20, ↓A_g21, ↓A_g22, ↓A_g23, ↓A_g25, ↓A_g26, ↓A_g28, ↓A_g29, ↓A_g31, ↓A_g32, ↓A_g34, ↓A_g36, ↓A_g37, ↓A_g38, ↓A_g39, ↓A_g41, ↓A_g42, ↓A_g43, ↓A_g44, ↓A_g61, ↓A_g62, ↓A_g63, ↓A_g65, ↓A_g66, ↓A_g67, ↓A_g68, ↓A_g69, ↓A_g70, ↓A_gN, ↓A_gT, ↓A_gC, ↓r_icge_t, ↓r_icge_f, ↓J_X7_better_107, ↓L_ist4, ↓L_ist4L, ↓L_ild4, ↓J_X7_better_101, ↓I_X7_doesHold_60, ↓r_ifeq_t, ↓r_ifeq_f, ↓J_X7_better_95, ↓I_X7_pointsOf_60, ↓r_imul, ↓r_bipush, ↓r_iadd, ↓L_iinc4, ↓r_goto, ↓J_X7_better_26, ↓L_iinc3, ↓J_X7_better_13, ↓U_X7_better_0, ↓U_X7_better_11, ↓U_X7_better_95, ↓U_X7_better_107, ↓zthen_v, ↓zthen_0, zU_eq, zU_nc, zU_nj]
    by_cases q2 : 0 ≤ btS (betM τ p q) i 0 (τ 61 1).toNat
    · rw [if_pos q2]
      exact I.1 q2
    · rw [if_neg q2, I.2 (by omega), U_X7_better_101]
      simp (disch := first | exact z_tt rfl | assumption | omega | (simp (disch := omega) only [zU_eq, zU_nc, zU_nj]; omega)) only [↓L_ald_n0, ↓L_ild_n1, ↓L_ild_n2, ↓I_X7_areTwo_60, ↓r_ifne_t, ↓r_ifne_f, ↓J_X7_better_11, ↓r_iconst, ↓r_ireturn, ↓L_ist_n3, ↓L_ist_n3L, ↓L_ild_n3, ↓F_g60_0, ↓A_g3, ↓A_g4, ↓A_g5, ↓A_g6, ↓A_g7, ↓A_g9, ↓A_g10, ↓A_g12, ↓A_g13, ↓A_g15, ↓A_g16, ↓A_g19, ↓A_g20, ↓A_g21, ↓A_g22, ↓A_g23, ↓A_g25, ↓A_g26, ↓A_g28, ↓A_g29, ↓A_g31, ↓A_g32, ↓A_g34, ↓A_g36, ↓A_g37, ↓A_g38, ↓A_g39, ↓A_g41, ↓A_g42, ↓A_g43, ↓A_g44, ↓A_g61, ↓A_g62, ↓A_g63, ↓A_g65, ↓A_g66, ↓A_g67, ↓A_g68, ↓A_g69, ↓A_g70, ↓A_gN, ↓A_gT, ↓A_gC, ↓r_icge_t, ↓r_icge_f, ↓J_X7_better_107, ↓L_ist4, ↓L_ist4L, ↓L_ild4, ↓J_X7_better_101, ↓I_X7_doesHold_60, ↓r_ifeq_t, ↓r_ifeq_f, ↓J_X7_better_95, ↓I_X7_pointsOf_60, ↓r_imul, ↓r_bipush, ↓r_iadd, ↓L_iinc4, ↓r_goto, ↓J_X7_better_26, ↓L_iinc3, ↓J_X7_better_13, ↓U_X7_better_0, ↓U_X7_better_11, ↓U_X7_better_95, ↓U_X7_better_107, ↓zthen_v, ↓zthen_0, zU_eq, zU_nc, zU_nj]
      exact ih (i + 1) _ (by omega) (by omega)
set_option maxRecDepth 20000 in
set_option maxHeartbeats 4000000 in
theorem op_better {σ τ : zM} {p q : Int} (R : Rel1 σ τ) (hp : -2147483648 ≤ p ∧ p < 2147483648) (hq : -2147483648 ≤ q ∧ q < 2147483648) : Same σ τ (zcall 60 [vR 0, vI p, vI q] σ) (zcall 140 [vR 60, vI p, vI q] τ) := by
  have hn := R.n
  have hm := R.m
  by_cases q1 : 0 ≤ p ∧ p < σ 1 0 ∧ 0 ≤ q ∧ q < σ 1 0 ∧ (p < q ∨ q < p)
  · have c1 := c_X6_areTwo_t (σ := σ) (i := p) (j := q) q1 (by omega)
    have m1 := m_areTwo_t (σ := τ) (i := p) (j := q) (by omega) (by omega)
    have e : btO (betM τ p q) (σ 1 1).toNat 0 (σ 1 1).toNat = btO (betC σ p q) (σ 1 1).toNat 0 (σ 1 1).toNat := by
      apply btO_congr
      intro s t h1 h2 h3 h4
      unfold betM betC
      rw [R.pt p s (by omega) (by omega) (by omega) (by omega), R.pt q t (by omega) (by omega) (by omega) (by omega), R.pt p t (by omega) (by omega) (by omega) (by omega), R.pt q s (by omega) (by omega) (by omega) (by omega)]
      have e1 := prt_pos R (p := p) (t := s) (by omega) (by omega)
      have e2 := prt_pos R (p := q) (t := t) (by omega) (by omega)
      simp only [e1, e2]
    have c2 := fun z => c_bt_out (Rel1_W1 R) (p := p) (q := q) (by omega) (by omega) (σ 1 1).toNat 0 z (by omega) (by omega)
    have m2 := fun z => m_bt_out (Rel1_V1 R) (p := p) (q := q) (by omega) (by omega) (τ 61 1).toNat 0 z (by omega) (by omega)
    rw [hm.2.2, e] at m2
    refine Same_id R (btO (betC σ p q) (σ 1 1).toNat 0 (σ 1 1).toNat) ?_ ?_
    · rw [S_X6_better]
      simp (disch := first | exact z_tt rfl | assumption | omega | (simp (disch := omega) only [zU_eq, zU_nc, zU_nj]; omega)) only [↓L_ald_n0, ↓L_ild_n1, ↓L_ild_n2, ↓I_X6_areTwo_0, ↓r_ifne_t, ↓r_ifne_f, ↓J_X6_better_11, ↓r_iconst, ↓r_ireturn, ↓F_g0_0, ↓F_g1_2, ↓F_g17_2, ↓A_a2, ↓A_a18, ↓A_a40, ↓A_a47, ↓L_ast_n3, ↓L_ast_n3L, ↓L_ast4, ↓L_ast4L, ↓L_ist5, ↓L_ist5L, ↓L_ild5, ↓F_g1_1, ↓F_g17_1, ↓r_icge_t, ↓r_icge_f, ↓J_X6_better_136, ↓I_X2_partsOf_1, ↓I_X2_partsOf_17, ↓r_lconst, ↓r_ifle_t, ↓r_ifle_f, ↓J_X6_better_130, ↓r_lle_t, ↓r_lle_f, ↓L_ist6, ↓L_ist6L, ↓L_ild6, ↓J_X6_better_124, ↓L_ald_n3, ↓A_g3, ↓A_g4, ↓A_g5, ↓A_g6, ↓A_g7, ↓A_g9, ↓A_g10, ↓A_g12, ↓A_g13, ↓A_g15, ↓A_g16, ↓A_g19, ↓A_g20, ↓A_g21, ↓A_g22, ↓A_g23, ↓A_g25, ↓A_g26, ↓A_g28, ↓A_g29, ↓A_g31, ↓A_g32, ↓A_g34, ↓A_g36, ↓A_g37, ↓A_g38, ↓A_g39, ↓A_g41, ↓A_g42, ↓A_g43, ↓A_g44, ↓A_g61, ↓A_g62, ↓A_g63, ↓A_g65, ↓A_g66, ↓A_g67, ↓A_g68, ↓A_g69, ↓A_g70, ↓A_gN, ↓A_gT, ↓A_gC, ↓L_ald4, ↓r_imul, ↓r_bipush, ↓r_iadd, ↓L_iinc6, ↓r_goto, ↓J_X6_better_65, ↓L_iinc5, ↓J_X6_better_35, ↓U_X6_better_0, ↓U_X6_better_11, ↓U_X6_better_65, ↓U_X6_better_124, ↓U_X6_better_130, ↓U_X6_better_136, ↓zthen_v, ↓zthen_0, zU_eq, zU_nc, zU_nj, c1]
      exact c2 _
    · rw [S_X7_better]
      simp (disch := first | exact z_tt rfl | assumption | omega | (simp (disch := omega) only [zU_eq, zU_nc, zU_nj]; omega)) only [↓L_ald_n0, ↓L_ild_n1, ↓L_ild_n2, ↓I_X7_areTwo_60, ↓r_ifne_t, ↓r_ifne_f, ↓J_X7_better_11, ↓r_iconst, ↓r_ireturn, ↓L_ist_n3, ↓L_ist_n3L, ↓L_ild_n3, ↓F_g60_0, ↓A_g3, ↓A_g4, ↓A_g5, ↓A_g6, ↓A_g7, ↓A_g9, ↓A_g10, ↓A_g12, ↓A_g13, ↓A_g15, ↓A_g16, ↓A_g19, ↓A_g20, ↓A_g21, ↓A_g22, ↓A_g23, ↓A_g25, ↓A_g26, ↓A_g28, ↓A_g29, ↓A_g31, ↓A_g32, ↓A_g34, ↓A_g36, ↓A_g37, ↓A_g38, ↓A_g39, ↓A_g41, ↓A_g42, ↓A_g43, ↓A_g44, ↓A_g61, ↓A_g62, ↓A_g63, ↓A_g65, ↓A_g66, ↓A_g67, ↓A_g68, ↓A_g69, ↓A_g70, ↓A_gN, ↓A_gT, ↓A_gC, ↓r_icge_t, ↓r_icge_f, ↓J_X7_better_107, ↓L_ist4, ↓L_ist4L, ↓L_ild4, ↓J_X7_better_101, ↓I_X7_doesHold_60, ↓r_ifeq_t, ↓r_ifeq_f, ↓J_X7_better_95, ↓I_X7_pointsOf_60, ↓r_imul, ↓r_bipush, ↓r_iadd, ↓L_iinc4, ↓r_goto, ↓J_X7_better_26, ↓L_iinc3, ↓J_X7_better_13, ↓U_X7_better_0, ↓U_X7_better_11, ↓U_X7_better_26, ↓U_X7_better_95, ↓U_X7_better_101, ↓U_X7_better_107, ↓zthen_v, ↓zthen_0, zU_eq, zU_nc, zU_nj, m1]
      exact m2 _
  · have c1 := c_X6_areTwo_f (σ := σ) (i := p) (j := q) (by omega) (by omega)
    have m1 := m_areTwo_f (σ := τ) (i := p) (j := q) (by omega) (by omega)
    refine Same_id R (-1) ?_ ?_
    · rw [S_X6_better]
      simp (disch := first | exact z_tt rfl | assumption | omega | (simp (disch := omega) only [zU_eq, zU_nc, zU_nj]; omega)) only [↓L_ald_n0, ↓L_ild_n1, ↓L_ild_n2, ↓I_X6_areTwo_0, ↓r_ifne_t, ↓r_ifne_f, ↓J_X6_better_11, ↓r_iconst, ↓r_ireturn, ↓F_g0_0, ↓F_g1_2, ↓F_g17_2, ↓A_a2, ↓A_a18, ↓A_a40, ↓A_a47, ↓L_ast_n3, ↓L_ast_n3L, ↓L_ast4, ↓L_ast4L, ↓L_ist5, ↓L_ist5L, ↓L_ild5, ↓F_g1_1, ↓F_g17_1, ↓r_icge_t, ↓r_icge_f, ↓J_X6_better_136, ↓I_X2_partsOf_1, ↓I_X2_partsOf_17, ↓r_lconst, ↓r_ifle_t, ↓r_ifle_f, ↓J_X6_better_130, ↓r_lle_t, ↓r_lle_f, ↓L_ist6, ↓L_ist6L, ↓L_ild6, ↓J_X6_better_124, ↓L_ald_n3, ↓A_g3, ↓A_g4, ↓A_g5, ↓A_g6, ↓A_g7, ↓A_g9, ↓A_g10, ↓A_g12, ↓A_g13, ↓A_g15, ↓A_g16, ↓A_g19, ↓A_g20, ↓A_g21, ↓A_g22, ↓A_g23, ↓A_g25, ↓A_g26, ↓A_g28, ↓A_g29, ↓A_g31, ↓A_g32, ↓A_g34, ↓A_g36, ↓A_g37, ↓A_g38, ↓A_g39, ↓A_g41, ↓A_g42, ↓A_g43, ↓A_g44, ↓A_g61, ↓A_g62, ↓A_g63, ↓A_g65, ↓A_g66, ↓A_g67, ↓A_g68, ↓A_g69, ↓A_g70, ↓A_gN, ↓A_gT, ↓A_gC, ↓L_ald4, ↓r_imul, ↓r_bipush, ↓r_iadd, ↓L_iinc6, ↓r_goto, ↓J_X6_better_65, ↓L_iinc5, ↓J_X6_better_35, ↓U_X6_better_0, ↓U_X6_better_11, ↓U_X6_better_35, ↓U_X6_better_65, ↓U_X6_better_124, ↓U_X6_better_130, ↓U_X6_better_136, ↓zthen_v, ↓zthen_0, zU_eq, zU_nc, zU_nj, c1]
    · rw [S_X7_better]
      simp (disch := first | exact z_tt rfl | assumption | omega | (simp (disch := omega) only [zU_eq, zU_nc, zU_nj]; omega)) only [↓L_ald_n0, ↓L_ild_n1, ↓L_ild_n2, ↓I_X7_areTwo_60, ↓r_ifne_t, ↓r_ifne_f, ↓J_X7_better_11, ↓r_iconst, ↓r_ireturn, ↓L_ist_n3, ↓L_ist_n3L, ↓L_ild_n3, ↓F_g60_0, ↓A_g3, ↓A_g4, ↓A_g5, ↓A_g6, ↓A_g7, ↓A_g9, ↓A_g10, ↓A_g12, ↓A_g13, ↓A_g15, ↓A_g16, ↓A_g19, ↓A_g20, ↓A_g21, ↓A_g22, ↓A_g23, ↓A_g25, ↓A_g26, ↓A_g28, ↓A_g29, ↓A_g31, ↓A_g32, ↓A_g34, ↓A_g36, ↓A_g37, ↓A_g38, ↓A_g39, ↓A_g41, ↓A_g42, ↓A_g43, ↓A_g44, ↓A_g61, ↓A_g62, ↓A_g63, ↓A_g65, ↓A_g66, ↓A_g67, ↓A_g68, ↓A_g69, ↓A_g70, ↓A_gN, ↓A_gT, ↓A_gC, ↓r_icge_t, ↓r_icge_f, ↓J_X7_better_107, ↓L_ist4, ↓L_ist4L, ↓L_ild4, ↓J_X7_better_101, ↓I_X7_doesHold_60, ↓r_ifeq_t, ↓r_ifeq_f, ↓J_X7_better_95, ↓I_X7_pointsOf_60, ↓r_imul, ↓r_bipush, ↓r_iadd, ↓L_iinc4, ↓r_goto, ↓J_X7_better_26, ↓L_iinc3, ↓J_X7_better_13, ↓U_X7_better_0, ↓U_X7_better_11, ↓U_X7_better_13, ↓U_X7_better_26, ↓U_X7_better_95, ↓U_X7_better_101, ↓U_X7_better_107, ↓zthen_v, ↓zthen_0, zU_eq, zU_nc, zU_nj, m1]
