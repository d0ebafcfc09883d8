/-! ratio -/
set_option maxRecDepth 20000 in
set_option maxHeartbeats 4000000 in
theorem c_ra_in {σ : zM} {i j k t : Int} (hW : W1 σ) (hi : 0 ≤ i ∧ i < 4) (hj : 0 ≤ j ∧ j < 4) (ht : 0 ≤ t ∧ t < σ 1 1) : ∀ (n : Nat) (u s : Int), 0 ≤ u → u + n = σ 1 1 → zres 66 C_X6_ratio_47 [vR 0, vI i, vI j, vI k, vI t, vI s, vI u] [] σ = zres 66 C_X6_ratio_103 [vR 0, vI i, vI j, vI k, vI t, vI (s + cntI (fun u => ahd (σ (3 + i)) (σ (3 + j)) u t) u n), vI (σ 1 1)] [] σ := by
  have hm := hW.2.1
  have hP : ∀ p : Int, 0 ≤ p → p < 4 → Pts σ (3 + p) := fun p a b => ⟨zshp_pts ⟨a, b⟩, by omega, fun t c d => hW.2.2.1 p t a b c d⟩
  intro n
  induction n with
  | zero =>
    intro u s hu hn
    have e : u = σ 1 1 := by omega
    subst e
    rw [U_X6_ratio_47, cntI, Int.add_zero]
    simp (disch := first | exact z_tt rfl | assumption | omega | (simp (disch := omega) only [zU_eq, zU_nc, zU_nj]; omega)) only [↓L_ald_n0, ↓L_ild_n1, ↓L_ild_n2, ↓I_X6_areTwo_0, ↓r_ifeq_t, ↓r_ifeq_f, ↓J_X6_ratio_24, ↓L_ild_n3, ↓r_iflt_t, ↓r_iflt_f, ↓F_g0_0, ↓F_g1_1, ↓F_g17_1, ↓r_iclt_t, ↓r_iclt_f, ↓J_X6_ratio_26, ↓r_iconst, ↓r_ireturn, ↓L_ist4, ↓L_ist4L, ↓L_ild4, ↓r_icge_t, ↓r_icge_f, ↓J_X6_ratio_118, ↓L_ist5, ↓L_ist5L, ↓L_ist6, ↓L_ist6L, ↓L_ild6, ↓J_X6_ratio_103, ↓r_iceq_t, ↓r_iceq_f, ↓J_X6_ratio_97, ↓F_g1_2, ↓F_g17_2, ↓A_a2, ↓A_a18, ↓A_a40, ↓A_a47, ↓I_X6_comesFirst, ↓L_iinc5, ↓L_iinc6, ↓r_goto, ↓J_X6_ratio_47, ↓L_ild5, ↓r_icne_t, ↓r_icne_f, ↓J_X6_ratio_112, ↓L_iinc4, ↓J_X6_ratio_29, ↓U_X6_ratio_0, ↓U_X6_ratio_24, ↓U_X6_ratio_26, ↓U_X6_ratio_29, ↓U_X6_ratio_97, ↓U_X6_ratio_112, ↓U_X6_ratio_118, ↓zthen_v, ↓zthen_0, zU_eq, zU_nc, zU_nj]
  | succ n ih =>
    intro u s hu hn
    rw [U_X6_ratio_47, cntI]
    by_cases q1 : u = t
    · subst q1
      rw [ahd_irr, if_neg (by decide), Int.zero_add]
      simp (disch := first | exact z_tt rfl | assumption | omega | (simp (disch := omega) only [zU_eq, zU_nc, zU_nj]; omega)) only [↓L_ald_n0, ↓L_ild_n1, ↓L_ild_n2, ↓I_X6_areTwo_0, ↓r_ifeq_t, ↓r_ifeq_f, ↓J_X6_ratio_24, ↓L_ild_n3, ↓r_iflt_t, ↓r_iflt_f, ↓F_g0_0, ↓F_g1_1, ↓F_g17_1, ↓r_iclt_t, ↓r_iclt_f, ↓J_X6_ratio_26, ↓r_iconst, ↓r_ireturn, ↓L_ist4, ↓L_ist4L, ↓L_ild4, ↓r_icge_t, ↓r_icge_f, ↓J_X6_ratio_118, ↓L_ist5, ↓L_ist5L, ↓L_ist6, ↓L_ist6L, ↓L_ild6, ↓J_X6_ratio_103, ↓r_iceq_t, ↓r_iceq_f, ↓J_X6_ratio_97, ↓F_g1_2, ↓F_g17_2, ↓A_a2, ↓A_a18, ↓A_a40, ↓A_a47, ↓I_X6_comesFirst, ↓L_iinc5, ↓L_iinc6, ↓r_goto, ↓J_X6_ratio_47, ↓L_ild5, ↓r_icne_t, ↓r_icne_f, ↓J_X6_ratio_112, ↓L_iinc4, ↓J_X6_ratio_29, ↓U_X6_ratio_0, ↓U_X6_ratio_24, ↓U_X6_ratio_26, ↓U_X6_ratio_29, ↓U_X6_ratio_97, ↓U_X6_ratio_112, ↓U_X6_ratio_118, ↓zthen_v, ↓zthen_0, zU_eq, zU_nc, zU_nj]
      exact ih (u + 1) s (by omega) (by omega)
    · have cf := c_comesFirst (hP i hi.1 hi.2) (hP j hj.1 hj.2) (t := u) (u := t) (by omega) (by omega)
      by_cases q2 : ahd (σ (3 + i)) (σ (3 + j)) u t = true
      · rw [if_pos q2] at cf ⊢
        simp (disch := first | exact z_tt rfl | assumption | omega | (simp (disch := omega) only [zU_eq, zU_nc, zU_nj]; omega)) only [↓L_ald_n0, ↓L_ild_n1, ↓L_ild_n2, ↓I_X6_areTwo_0, ↓r_ifeq_t, ↓r_ifeq_f, ↓J_X6_ratio_24, ↓L_ild_n3, ↓r_iflt_t, ↓r_iflt_f, ↓F_g0_0, ↓F_g1_1, ↓F_g17_1, ↓r_iclt_t, ↓r_iclt_f, ↓J_X6_ratio_26, ↓r_iconst, ↓r_ireturn, ↓L_ist4, ↓L_ist4L, ↓L_ild4, ↓r_icge_t, ↓r_icge_f, ↓J_X6_ratio_118, ↓L_ist5, ↓L_ist5L, ↓L_ist6, ↓L_ist6L, ↓L_ild6, ↓J_X6_ratio_103, ↓r_iceq_t, ↓r_iceq_f, ↓J_X6_ratio_97, ↓F_g1_2, ↓F_g17_2, ↓A_a2, ↓A_a18, ↓A_a40, ↓A_a47, ↓I_X6_comesFirst, ↓L_iinc5, ↓L_iinc6, ↓r_goto, ↓J_X6_ratio_47, ↓L_ild5, ↓r_icne_t, ↓r_icne_f, ↓J_X6_ratio_112, ↓L_iinc4, ↓J_X6_ratio_29, ↓U_X6_ratio_0, ↓U_X6_ratio_24, ↓U_X6_ratio_26, ↓U_X6_ratio_29, ↓U_X6_ratio_97, ↓U_X6_ratio_112, ↓U_X6_ratio_118, ↓zthen_v, ↓zthen_0, zU_eq, zU_nc, zU_nj, cf]
        rw [ih (u + 1) (s + 1) (by omega) (by omega), Int.add_assoc]
      · rw [if_neg q2] at cf ⊢
        rw [Int.zero_add]
        simp (disch := first | exact z_tt rfl | assumption | omega | (simp (disch := omega) only [zU_eq, zU_nc, zU_nj]; omega)) only [↓L_ald_n0, ↓L_ild_n1, ↓L_ild_n2, ↓I_X6_areTwo_0, ↓r_ifeq_t, ↓r_ifeq_f, ↓J_X6_ratio_24, ↓L_ild_n3, ↓r_iflt_t, ↓r_iflt_f, ↓F_g0_0, ↓F_g1_1, ↓F_g17_1, ↓r_iclt_t, ↓r_iclt_f, ↓J_X6_ratio_26, ↓r_iconst, ↓r_ireturn, ↓L_ist4, ↓L_ist4L, ↓L_ild4, ↓r_icge_t, ↓r_icge_f, ↓J_X6_ratio_118, ↓L_ist5, ↓L_ist5L, ↓L_ist6, ↓L_ist6L, ↓L_ild6, ↓J_X6_ratio_103, ↓r_iceq_t, ↓r_iceq_f, ↓J_X6_ratio_97, ↓F_g1_2, ↓F_g17_2, ↓A_a2, ↓A_a18, ↓A_a40, ↓A_a47, ↓I_X6_comesFirst, ↓L_iinc5, ↓L_iinc6, ↓r_goto, ↓J_X6_ratio_47, ↓L_ild5, ↓r_icne_t, ↓r_icne_f, ↓J_X6_ratio_112, ↓L_iinc4, ↓J_X6_ratio_29, ↓U_X6_ratio_0, ↓U_X6_ratio_24, ↓U_X6_ratio_26, ↓U_X6_ratio_29, ↓U_X6_ratio_97, ↓U_X6_ratio_112, ↓U_X6_ratio_118, ↓zthen_v, ↓zthen_0, zU_eq, zU_nc, zU_nj, cf]
        exact ih (u + 1) s (by omega) (by omega)
set_option maxRecDepth 20000 in
set_option maxHeartbeats 4000000 in
theorem c_ra_out {σ : zM} {i j k : Int} (hW : W1 σ) (hi : 0 ≤ i ∧ i < 4) (hj : 0 ≤ j ∧ j < 4) (hk : 0 ≤ k ∧ k < 6) : ∀ (n : Nat) (t : Int) (y z : zV), 0 ≤ t → t + n = σ 1 1 → zres 66 C_X6_ratio_29 [vR 0, vI i, vI j, vI k, vI t, y, z] [] σ = some (some (vI (fstN (fun t => decide (rnk (σ (3 + i)) (σ (3 + j)) (σ 1 1).toNat t = k)) t n)), σ) := by
  have hm := hW.2.1
  intro n
  induction n with
  | zero =>
    intro t y z ht hn
    simp (disch := first | exact z_tt rfl | assumption | omega | (simp (disch := omega) only [zU_eq, zU_nc, zU_nj]; omega)) only [↓L_ald_n0, ↓L_ild_n1, ↓L_ild_n2, ↓I_X6_areTwo_0, ↓r_ifeq_t, ↓r_ifeq_f, ↓J_X6_ratio_24, ↓L_ild_n3, ↓r_iflt_t, ↓r_iflt_f, ↓F_g0_0, ↓F_g1_1, ↓F_g17_1, ↓r_iclt_t, ↓r_iclt_f, ↓J_X6_ratio_26, ↓r_iconst, ↓r_ireturn, ↓L_ist4, ↓L_ist4L, ↓L_ild4, ↓r_icge_t, ↓r_icge_f, ↓J_X6_ratio_118, ↓L_ist5, ↓L_ist5L, ↓L_ist6, ↓L_ist6L, ↓L_ild6, ↓J_X6_ratio_103, ↓r_iceq_t, ↓r_iceq_f, ↓J_X6_ratio_97, ↓F_g1_2, ↓F_g17_2, ↓A_a2, ↓A_a18, ↓A_a40, ↓A_a47, ↓I_X6_comesFirst, ↓L_iinc5, ↓L_iinc6, ↓r_goto, ↓J_X6_ratio_47, ↓L_ild5, ↓r_icne_t, ↓r_icne_f, ↓J_X6_ratio_112, ↓L_iinc4, ↓J_X6_ratio_29, ↓U_X6_ratio_0, ↓U_X6_ratio_24, ↓U_X6_ratio_26, ↓U_X6_ratio_29, ↓U_X6_ratio_47, ↓U_X6_ratio_97, ↓U_X6_ratio_103, ↓U_X6_ratio_112, ↓U_X6_ratio_118, ↓zthen_v, ↓zthen_0, zU_eq, zU_nc, zU_nj, fstN]
  | succ n ih =>
    intro t y z ht hn
    have hr := rnk_bd (σ (3 + i)) (σ (3 + j)) (m := (σ 1 1).toNat) (t := t) (by omega)
    have I := c_ra_in (k := k) hW hi hj (t := t) (by omega) (σ 1 1).toNat 0 0 (by omega) (by omega)
    rw [Int.zero_add] at I
    change _ = zres 66 C_X6_ratio_103 [vR 0, vI i, vI j, vI k, vI t, vI (rnk (σ (3 + i)) (σ (3 + j)) (σ 1 1).toNat t), vI (σ 1 1)] [] σ at I
    rw [U_X6_ratio_29, fstN]
    simp (disch := first | exact z_tt rfl | assumption | omega | (simp (disch := omega) only [zU_eq, zU_nc, zU_nj]; omega)) only [↓L_ald_n0, ↓L_ild_n1, ↓L_ild_n2, ↓I_X6_areTwo_0, ↓r_ifeq_t, ↓r_ifeq_f, ↓J_X6_ratio_24, ↓L_ild_n3, ↓r_iflt_t, ↓r_iflt_f, ↓F_g0_0, ↓F_g1_1, ↓F_g17_1, ↓r_iclt_t, ↓r_iclt_f, ↓J_X6_ratio_26, ↓r_iconst, ↓r_ireturn, ↓L_ist4, ↓L_ist4L, ↓L_ild4, ↓r_icge_t, ↓r_icge_f, ↓J_X6_ratio_118, ↓L_ist5, ↓L_ist5L, ↓L_ist6, ↓L_ist6L, ↓L_ild6, ↓J_X6_ratio_103, ↓r_iceq_t, ↓r_iceq_f, ↓J_X6_ratio_97, ↓F_g1_2, ↓F_g17_2, ↓A_a2, ↓A_a18, ↓A_a40, ↓A_a47, ↓I_X6_comesFirst, ↓L_iinc5, ↓L_iinc6, ↓r_goto, ↓J_X6_ratio_47, ↓L_ild5, ↓r_icne_t, ↓r_icne_f, ↓J_X6_ratio_112, ↓L_iinc4, ↓J_X6_ratio_29, ↓U_X6_ratio_0, ↓U_X6_ratio_24, ↓U_X6_ratio_26, ↓U_X6_ratio_97, ↓U_X6_ratio_112, ↓U_X6_ratio_118, ↓zthen_v, ↓zthen_0, zU_eq, zU_nc, zU_nj]
    rw [I, U_X6_ratio_103]
    by_cases q : rnk (σ (3 + i)) (σ (3 + j)) (σ 1 1).toNat t = k
    · rw [if_pos (decide_eq_true q)]
      simp (disch := first | exact z_tt rfl | assumption | omega | (simp (disch := omega) only [zU_eq, zU_nc, zU_nj]; omega)) only [↓L_ald_n0, ↓L_ild_n1, ↓L_ild_n2, ↓I_X6_areTwo_0, ↓r_ifeq_t, ↓r_ifeq_f, ↓J_X6_ratio_24, ↓L_ild_n3, ↓r_iflt_t, ↓r_iflt_f, ↓F_g0_0, ↓F_g1_1, ↓F_g17_1, ↓r_iclt_t, ↓r_iclt_f, ↓J_X6_ratio_26, ↓r_iconst, ↓r_ireturn, ↓L_ist4, ↓L_ist4L, ↓L_ild4, ↓r_icge_t, ↓r_icge_f, ↓J_X6_ratio_118, ↓L_ist5, ↓L_ist5L, ↓L_ist6, ↓L_ist6L, ↓L_ild6, ↓J_X6_ratio_103, ↓r_iceq_t, ↓r_iceq_f, ↓J_X6_ratio_97, ↓F_g1_2, ↓F_g17_2, ↓A_a2, ↓A_a18, ↓A_a40, ↓A_a47, ↓I_X6_comesFirst, ↓L_iinc5, ↓L_iinc6, ↓r_goto, ↓J_X6_ratio_47, ↓L_ild5, ↓r_icne_t, ↓r_icne_f, ↓J_X6_ratio_112, ↓L_iinc4, ↓J_X6_ratio_29, ↓U_X6_ratio_0, ↓U_X6_ratio_24, ↓U_X6_ratio_26, ↓U_X6_ratio_97, ↓U_X6_ratio_112, ↓U_X6_ratio_118, ↓zthen_v, ↓zthen_0, zU_eq, zU_nc, zU_nj]
    · rw [if_neg (by rw [decide_eq_false q]; decide)]
      simp (disch := first | exact z_tt rfl | assumption | omega | (simp (disch := omega) only [zU_eq, zU_nc, zU_nj]; omega)) only [↓L_ald_n0, ↓L_ild_n1, ↓L_ild_n2, ↓I_X6_areTwo_0, ↓r_ifeq_t, ↓r_ifeq_f, ↓J_X6_ratio_24, ↓L_ild_n3, ↓r_iflt_t, ↓r_iflt_f, ↓F_g0_0, ↓F_g1_1, ↓F_g17_1, ↓r_iclt_t, ↓r_iclt_f, ↓J_X6_ratio_26, ↓r_iconst, ↓r_ireturn, ↓L_ist4, ↓L_ist4L, ↓L_ild4, ↓r_icge_t, ↓r_icge_f, ↓J_X6_ratio_118, ↓L_ist5, ↓L_ist5L, ↓L_ist6, ↓L_ist6L, ↓L_ild6, ↓J_X6_ratio_103, ↓r_iceq_t, ↓r_iceq_f, ↓J_X6_ratio_97, ↓F_g1_2, ↓F_g17_2, ↓A_a2, ↓A_a18, ↓A_a40, ↓A_a47, ↓I_X6_comesFirst, ↓L_iinc5, ↓L_iinc6, ↓r_goto, ↓J_X6_ratio_47, ↓L_ild5, ↓r_icne_t, ↓r_icne_f, ↓J_X6_ratio_112, ↓L_iinc4, ↓J_X6_ratio_29, ↓U_X6_ratio_0, ↓U_X6_ratio_24, ↓U_X6_ratio_26, ↓U_X6_ratio_97, ↓U_X6_ratio_112, ↓U_X6_ratio_118, ↓zthen_v, ↓zthen_0, zU_eq, zU_nc, zU_nj]
      exact ih (t + 1) _ _ (by omega) (by omega)
theorem rnk_congr {R P R' P' : Int → Int} {m : Nat} {t : Int} (ht : 0 ≤ t ∧ t < m) (h1 : ∀ u : Int, 0 ≤ u → u < m → R u = R' u) (h2 : ∀ u : Int, 0 ≤ u → u < m → P u = P' u) : rnk R P m t = rnk R' P' m t := by
  unfold rnk
  refine cntI_congr _ _ (fun u a b => ?_)
  exact ahd_congr (h1 u a (by omega)) (h1 t ht.1 ht.2) (h2 u a (by omega)) (h2 t ht.1 ht.2)
set_option maxRecDepth 20000 in
set_option maxHeartbeats 4000000 in
theorem op_ratio {σ τ : zM} {i j k : Int} (R : Rel1 σ τ) (hi : -2147483648 ≤ i ∧ i < 2147483648) (hj : -2147483648 ≤ j ∧ j < 2147483648) (hk : -2147483648 ≤ k ∧ k < 2147483648) : Same σ τ (zcall 66 [vR 0, vI i, vI j, vI k] σ) (zcall 145 [vR 60, vI i, vI j, vI k] τ) := by
  have hn := R.n
  have hm := R.m
  by_cases q1 : 0 ≤ i ∧ i < σ 1 0 ∧ 0 ≤ j ∧ j < σ 1 0 ∧ (i < j ∨ j < i)
  · have c1 := c_X6_areTwo_t (σ := σ) (i := i) (j := j) q1 (by omega)
    have m1 := m_areTwo_t (σ := τ) (i := i) (j := j) (by omega) (by omega)
    by_cases q2 : 0 ≤ k ∧ k < σ 1 1
    · have m2 := m_isThing_t (σ := τ) (p := k) (by omega) (by omega)
      have hV := Rel1_V1 R
      have m3 := m_byRatio hV (r := i) (p := j) (k := k) (by omega) (by omega) (by omega)
      have hs := byR_spec (R := Qp τ i) (P := Qp τ j) (m := (τ 61 1).toNat) (Qp_nn hV (by omega)) (k := k) (by omega)
      have c3 := fun y z => c_ra_out (Rel1_W1 R) (i := i) (j := j) (k := k) (by omega) (by omega) (by omega) (σ 1 1).toNat 0 y z (by omega) (by omega)
      have e : fstN (fun t => decide (rnk (σ (3 + i)) (σ (3 + j)) (σ 1 1).toNat t = k)) 0 (σ 1 1).toNat = byR (Qp τ i) (Qp τ j) (τ 61 1).toNat k := by
        rw [hm.2.2] at hs ⊢
        have e1 : fstN (fun t => decide (rnk (σ (3 + i)) (σ (3 + j)) (σ 1 1).toNat t = k)) 0 (σ 1 1).toNat = fstN (fun t => decide (rnk (Qp τ i) (Qp τ j) (σ 1 1).toNat t = k)) 0 (σ 1 1).toNat := by
          refine fstN_congr _ _ (fun t a b => ?_)
          rw [rnk_congr (R' := Qp τ i) (P' := Qp τ j) (by omega) (fun u a b => (R.pt i u (by omega) (by omega) a (by omega)).symm) (fun u a b => (R.pt j u (by omega) (by omega) a (by omega)).symm)]
        rw [e1]
        unfold byR at hs ⊢
        rcases fst_both (q := fun t => decide (rnk (Qp τ i) (Qp τ j) (σ 1 1).toNat t = k)) (σ 1 1).toNat 0 (by omega) with ⟨h1, h2⟩ | ⟨h1, h2, h3, h4⟩
        · omega
        · exact h1
      refine Same_id R (byR (Qp τ i) (Qp τ j) (τ 61 1).toNat k) ?_ ?_
      · rw [S_X6_ratio, ← e]
        simp (disch := first | exact z_tt rfl | assumption | omega | (simp (disch := omega) only [zU_eq, zU_nc, zU_nj]; omega)) only [↓L_ald_n0, ↓L_ild_n1, ↓L_ild_n2, ↓I_X6_areTwo_0, ↓r_ifeq_t, ↓r_ifeq_f, ↓J_X6_ratio_24, ↓L_ild_n3, ↓r_iflt_t, ↓r_iflt_f, ↓F_g0_0, ↓F_g1_1, ↓F_g17_1, ↓r_iclt_t, ↓r_iclt_f, ↓J_X6_ratio_26, ↓r_iconst, ↓r_ireturn, ↓L_ist4, ↓L_ist4L, ↓L_ild4, ↓r_icge_t, ↓r_icge_f, ↓J_X6_ratio_118, ↓L_ist5, ↓L_ist5L, ↓L_ist6, ↓L_ist6L, ↓L_ild6, ↓J_X6_ratio_103, ↓r_iceq_t, ↓r_iceq_f, ↓J_X6_ratio_97, ↓F_g1_2, ↓F_g17_2, ↓A_a2, ↓A_a18, ↓A_a40, ↓A_a47, ↓I_X6_comesFirst, ↓L_iinc5, ↓L_iinc6, ↓r_goto, ↓J_X6_ratio_47, ↓L_ild5, ↓r_icne_t, ↓r_icne_f, ↓J_X6_ratio_112, ↓L_iinc4, ↓J_X6_ratio_29, ↓U_X6_ratio_0, ↓U_X6_ratio_24, ↓U_X6_ratio_26, ↓U_X6_ratio_47, ↓U_X6_ratio_97, ↓U_X6_ratio_103, ↓U_X6_ratio_112, ↓U_X6_ratio_118, ↓zthen_v, ↓zthen_0, zU_eq, zU_nc, zU_nj, c1]
        exact c3 _ _
      · rw [S_X7_ratio]
        simp (disch := first | exact z_tt rfl | assumption | omega | (simp (disch := omega) only [zU_eq, zU_nc, zU_nj]; omega)) only [↓L_ald_n0, ↓L_ild_n1, ↓L_ild_n2, ↓I_X7_areTwo_60, ↓r_ifeq_t, ↓r_ifeq_f, ↓J_X7_ratio_27, ↓L_ild_n3, ↓I_X7_isThing_60, ↓I_X7_byRatio_60, ↓r_goto, ↓J_X7_ratio_28, ↓r_iconst, ↓r_ireturn, ↓U_X7_ratio_0, ↓U_X7_ratio_27, ↓U_X7_ratio_28, ↓zthen_v, ↓zthen_0, zU_eq, zU_nc, zU_nj, m1, m2, m3]
    · have m2 := m_isThing_f (σ := τ) (p := k) (by omega) (by omega)
      refine Same_id R (-1) ?_ ?_
      · rw [S_X6_ratio]
        by_cases q3 : k < 0
        · simp (disch := first | exact z_tt rfl | assumption | omega | (simp (disch := omega) only [zU_eq, zU_nc, zU_nj]; omega)) only [↓L_ald_n0, ↓L_ild_n1, ↓L_ild_n2, ↓I_X6_areTwo_0, ↓r_ifeq_t, ↓r_ifeq_f, ↓J_X6_ratio_24, ↓L_ild_n3, ↓r_iflt_t, ↓r_iflt_f, ↓F_g0_0, ↓F_g1_1, ↓F_g17_1, ↓r_iclt_t, ↓r_iclt_f, ↓J_X6_ratio_26, ↓r_iconst, ↓r_ireturn, ↓L_ist4, ↓L_ist4L, ↓L_ild4, ↓r_icge_t, ↓r_icge_f, ↓J_X6_ratio_118, ↓L_ist5, ↓L_ist5L, ↓L_ist6, ↓L_ist6L, ↓L_ild6, ↓J_X6_ratio_103, ↓r_iceq_t, ↓r_iceq_f, ↓J_X6_ratio_97, ↓F_g1_2, ↓F_g17_2, ↓A_a2, ↓A_a18, ↓A_a40, ↓A_a47, ↓I_X6_comesFirst, ↓L_iinc5, ↓L_iinc6, ↓r_goto, ↓J_X6_ratio_47, ↓L_ild5, ↓r_icne_t, ↓r_icne_f, ↓J_X6_ratio_112, ↓L_iinc4, ↓J_X6_ratio_29, ↓U_X6_ratio_0, ↓U_X6_ratio_24, ↓U_X6_ratio_26, ↓U_X6_ratio_29, ↓U_X6_ratio_47, ↓U_X6_ratio_97, ↓U_X6_ratio_103, ↓U_X6_ratio_112, ↓U_X6_ratio_118, ↓zthen_v, ↓zthen_0, zU_eq, zU_nc, zU_nj, c1]
        · simp (disch := first | exact z_tt rfl | assumption | omega | (simp (disch := omega) only [zU_eq, zU_nc, zU_nj]; omega)) only [↓L_ald_n0, ↓L_ild_n1, ↓L_ild_n2, ↓I_X6_areTwo_0, ↓r_ifeq_t, ↓r_ifeq_f, ↓J_X6_ratio_24, ↓L_ild_n3, ↓r_iflt_t, ↓r_iflt_f, ↓F_g0_0, ↓F_g1_1, ↓F_g17_1, ↓r_iclt_t, ↓r_iclt_f, ↓J_X6_ratio_26, ↓r_iconst, ↓r_ireturn, ↓L_ist4, ↓L_ist4L, ↓L_ild4, ↓r_icge_t, ↓r_icge_f, ↓J_X6_ratio_118, ↓L_ist5, ↓L_ist5L, ↓L_ist6, ↓L_ist6L, ↓L_ild6, ↓J_X6_ratio_103, ↓r_iceq_t, ↓r_iceq_f, ↓J_X6_ratio_97, ↓F_g1_2, ↓F_g17_2, ↓A_a2, ↓A_a18, ↓A_a40, ↓A_a47, ↓I_X6_comesFirst, ↓L_iinc5, ↓L_iinc6, ↓r_goto, ↓J_X6_ratio_47, ↓L_ild5, ↓r_icne_t, ↓r_icne_f, ↓J_X6_ratio_112, ↓L_iinc4, ↓J_X6_ratio_29, ↓U_X6_ratio_0, ↓U_X6_ratio_24, ↓U_X6_ratio_26, ↓U_X6_ratio_29, ↓U_X6_ratio_47, ↓U_X6_ratio_97, ↓U_X6_ratio_103, ↓U_X6_ratio_112, ↓U_X6_ratio_118, ↓zthen_v, ↓zthen_0, zU_eq, zU_nc, zU_nj, c1]
      · rw [S_X7_ratio]
        simp (disch := first | exact z_tt rfl | assumption | omega | (simp (disch := omega) only [zU_eq, zU_nc, zU_nj]; omega)) only [↓L_ald_n0, ↓L_ild_n1, ↓L_ild_n2, ↓I_X7_areTwo_60, ↓r_ifeq_t, ↓r_ifeq_f, ↓J_X7_ratio_27, ↓L_ild_n3, ↓I_X7_isThing_60, ↓I_X7_byRatio_60, ↓r_goto, ↓J_X7_ratio_28, ↓r_iconst, ↓r_ireturn, ↓U_X7_ratio_0, ↓U_X7_ratio_27, ↓U_X7_ratio_28, ↓zthen_v, ↓zthen_0, zU_eq, zU_nc, zU_nj, m1, m2]
  · have c1 := c_X6_areTwo_f (σ := σ) (i := i) (j := j) (by omega) (by omega)
    have m1 := m_areTwo_f (σ := τ) (i := i) (j := j) (by omega) (by omega)
    refine Same_id R (-1) ?_ ?_
    · rw [S_X6_ratio]
      simp (disch := first | exact z_tt rfl | assumption | omega | (simp (disch := omega) only [zU_eq, zU_nc, zU_nj]; omega)) only [↓L_ald_n0, ↓L_ild_n1, ↓L_ild_n2, ↓I_X6_areTwo_0, ↓r_ifeq_t, ↓r_ifeq_f, ↓J_X6_ratio_24, ↓L_ild_n3, ↓r_iflt_t, ↓r_iflt_f, ↓F_g0_0, ↓F_g1_1, ↓F_g17_1, ↓r_iclt_t, ↓r_iclt_f, ↓J_X6_ratio_26, ↓r_iconst, ↓r_ireturn, ↓L_ist4, ↓L_ist4L, ↓L_ild4, ↓r_icge_t, ↓r_icge_f, ↓J_X6_ratio_118, ↓L_ist5, ↓L_ist5L, ↓L_ist6, ↓L_ist6L, ↓L_ild6, ↓J_X6_ratio_103, ↓r_iceq_t, ↓r_iceq_f, ↓J_X6_ratio_97, ↓F_g1_2, ↓F_g17_2, ↓A_a2, ↓A_a18, ↓A_a40, ↓A_a47, ↓I_X6_comesFirst, ↓L_iinc5, ↓L_iinc6, ↓r_goto, ↓J_X6_ratio_47, ↓L_ild5, ↓r_icne_t, ↓r_icne_f, ↓J_X6_ratio_112, ↓L_iinc4, ↓J_X6_ratio_29, ↓U_X6_ratio_0, ↓U_X6_ratio_24, ↓U_X6_ratio_26, ↓U_X6_ratio_29, ↓U_X6_ratio_47, ↓U_X6_ratio_97, ↓U_X6_ratio_103, ↓U_X6_ratio_112, ↓U_X6_ratio_118, ↓zthen_v, ↓zthen_0, zU_eq, zU_nc, zU_nj, c1]
    · rw [S_X7_ratio]
      simp (disch := first | exact z_tt rfl | assumption | omega | (simp (disch := omega) only [zU_eq, zU_nc, zU_nj]; omega)) only [↓L_ald_n0, ↓L_ild_n1, ↓L_ild_n2, ↓I_X7_areTwo_60, ↓r_ifeq_t, ↓r_ifeq_f, ↓J_X7_ratio_27, ↓L_ild_n3, ↓I_X7_isThing_60, ↓I_X7_byRatio_60, ↓r_goto, ↓J_X7_ratio_28, ↓r_iconst, ↓r_ireturn, ↓U_X7_ratio_0, ↓U_X7_ratio_27, ↓U_X7_ratio_28, ↓zthen_v, ↓zthen_0, zU_eq, zU_nc, zU_nj, m1]
