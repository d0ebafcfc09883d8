/-! points as they would be -/
def TrC (s : zM) (P : Int → Int → Int) : Prop := ∀ q u : Int, 0 ≤ q → q < 4 → 0 ≤ u → u < 6 → s (41 + q) u = P q u ∧ 0 ≤ P q u ∧ P q u ≤ 99
def TrM (t : zM) (P : Int → Int → Int) (m : Int) : Prop := ∀ q u : Int, 0 ≤ q → q < 4 → 0 ≤ u → u < m → t 61 (29 + 6 * q + u) = P q u
theorem zshp_tr {p : Int} (h : 0 ≤ p ∧ p < 4) : zshp (41 + p) = (0, 6) := by
  rcases (show p = 0 ∨ p = 1 ∨ p = 2 ∨ p = 3 by omega) with rfl | rfl | rfl | rfl <;> rfl
theorem wo_tr {s t : zM} {P : Int → Int → Int} {m : Int} (ho : Ow6 s) (hF : Fl t) (hV : V1 t) (ht : t 61 1 = m) (hC : TrC s P) (hM : TrM t P m) :
    (∃ s1, zcall 0 [vR 33, vR 40, vI m, vI 0, vI 1] s = some (some (vI 0), s1) ∧ zcall 148 [vR 60, vI 0, vI 1] t = some (some (vI 0), t) ∧ Ow6 s1 ∧ FrA s s1) ∨
    (∃ s1 t1, zcall 0 [vR 33, vR 40, vI m, vI 0, vI 1] s = some (some (vI 1), s1) ∧ zcall 148 [vR 60, vI 0, vI 1] t = some (some (vI 1), t1) ∧ Ow6 s1 ∧ Fl t1 ∧ FrA s s1 ∧ FrB t t1 ∧ AdR s1 t1 m 0 1 ∧ s1 33 1 = m) := by
  have v1 := hV.2.1
  have hP : ∀ p : Int, 0 ≤ p → p < 4 → Pts s (41 + p) := fun p a b => ⟨zshp_tr ⟨a, b⟩, by omega, fun u c d => by
    have h := hC p u a b c d
    omega⟩
  have h0 : ∀ u : Int, 0 ≤ u → u < m → s (41 + 0) u = Qp t 0 u := fun u a b => by
    have h := hC 0 u (by omega) (by omega) a (by omega)
    have g := hM 0 u (by omega) (by omega) a b
    unfold Qp
    omega
  have h1 : ∀ u : Int, 0 ≤ u → u < m → s (41 + 1) u = Qp t 1 u := fun u a b => by
    have h := hC 1 u (by omega) (by omega) a (by omega)
    have g := hM 1 u (by omega) (by omega) a b
    unfold Qp
    omega
  have e0 : sumI (s (41 + 0)) 0 m.toNat = allM t 0 := by
    unfold allM
    rw [ht]
    exact sumI_congr _ _ (fun u a b => h0 u a (by omega))
  have e1 : sumI (s (41 + 1)) 0 m.toNat = allM t 1 := by
    unfold allM
    rw [ht]
    exact sumI_congr _ _ (fun u a b => h1 u a (by omega))
  by_cases q : allM t 0 = 0 ∨ allM t 1 = 0
  · left
    exact ⟨zU s 33 1 m, c_workOut41_f (by omega) (by omega) (by omega) (hP 0 (by omega) (by omega)) (hP 1 (by omega) (by omega)) (by rw [e0, e1]; exact q), m_adjusts_f hV (by omega) (by omega) q, fun u a b => by rw [zU_nc _ _ _ _ _ _ (by omega)]; exact ho u a b, fun c j h => zU_nc _ _ _ _ _ _ (by omega)⟩
  · right
    have q1 : ¬ allM t 0 = 0 := fun h => q (Or.inl h)
    have q2 : ¬ allM t 1 = 0 := fun h => q (Or.inr h)
    exact ⟨woS s 41 m 0 1, moS t 0 1, c_workOut41 (by omega) (by omega) (by omega) (hP 0 (by omega) (by omega)) (hP 1 (by omega) (by omega)) ho (by rw [e0]; exact q1) (by rw [e1]; exact q2), m_adjusts hV hF (by omega) (by omega) (by omega) q1 q2, woS_ow ho (by omega) (by omega) (by omega), moS_Fl hF _ _, fun c j h => woS_nc _ _ _ _ _ _ _ h, fun c j h => moS_nc _ _ _ _ _ h, adj_eq (Or.inr rfl) hV ht (by omega) (by omega) (by omega) h0 h1 q1 q2, woS_1 _ _ _ _ _⟩
def allI (q : Int → Bool) : Int → Nat → Bool
  | _, 0 => true
  | j, n + 1 => if q j = true then allI q (j + 1) n else false
theorem allI_congr {f g : Int → Bool} : ∀ (n : Nat) (j : Int), (∀ t : Int, j ≤ t → t < j + n → f t = g t) → allI f j n = allI g j n
  | 0, j, _ => rfl
  | n + 1, j, h => by rw [allI, allI, h j (by omega) (by omega), allI_congr n (j + 1) (fun t h1 h2 => h t (by omega) (by omega))]
set_option maxRecDepth 20000 in
set_option maxHeartbeats 4000000 in
theorem c_tf_loop {s t : zM} (ho : Ow6 s) (hs : RSs s t 8 9 10 61) (ht : t 61 1 ≤ 6) (hc : -1 ≤ s 33 5 ∧ s 33 5 < 6) : ∀ (n : Nat) (k : Int), 0 ≤ k → k + n = s 8 2 → zres 103 C_X6_triedFitsSeen_27 [vR 0, vI k] [] s = some (some (vI (if allI (fun k => decide (s 34 (s 9 k) = s 10 k ∨ s 33 5 = s 9 k)) k n = true then 1 else 0)), s) := by
  obtain ⟨r1, r2⟩ := hs
  intro n
  induction n with
  | zero =>
    intro k hk hn
    simp (disch := first | exact z_tt rfl | assumption | omega | (simp (disch := omega) only [zU_eq, zU_nc, zU_nj]; omega)) only [↓L_ald_n0, ↓F_g0_3, ↓F_g0_5, ↓F_g0_0, ↓F_g1_1, ↓F_g17_1, ↓r_iconst, ↓I_X0_workOut_33, ↓r_ifne_t, ↓r_ifne_f, ↓J_X6_triedFitsSeen_25, ↓r_zreturn, ↓L_ist_n1, ↓L_ist_n1L, ↓L_ild_n1, ↓F_g1_8, ↓F_g17_8, ↓F_g8_2, ↓F_g11_2, ↓F_g14_2, ↓F_g24_2, ↓F_g27_2, ↓F_g30_2, ↓r_icge_t, ↓r_icge_f, ↓J_X6_triedFitsSeen_83, ↓F_g8_1, ↓F_g11_1, ↓F_g14_1, ↓F_g24_1, ↓F_g27_1, ↓F_g30_1, ↓A_g3, ↓A_g4, ↓A_g5, ↓A_g6, ↓A_g7, ↓A_g9, ↓A_g10, ↓A_g12, ↓A_g13, ↓A_g15, ↓A_g16, ↓A_g19, ↓A_g20, ↓A_g21, ↓A_g22, ↓A_g23, ↓A_g25, ↓A_g26, ↓A_g28, ↓A_g29, ↓A_g31, ↓A_g32, ↓A_g34, ↓A_g36, ↓A_g37, ↓A_g38, ↓A_g39, ↓A_g41, ↓A_g42, ↓A_g43, ↓A_g44, ↓A_g61, ↓A_g62, ↓A_g63, ↓A_g65, ↓A_g66, ↓A_g67, ↓A_g68, ↓A_g69, ↓A_g70, ↓A_gN, ↓A_gT, ↓A_gC, ↓F_g8_0, ↓F_g11_0, ↓F_g14_0, ↓F_g24_0, ↓F_g27_0, ↓F_g30_0, ↓I_X0_hasSome_33, ↓J_X6_triedFitsSeen_77, ↓L_iinc1, ↓r_goto, ↓J_X6_triedFitsSeen_27, ↓U_X6_triedFitsSeen_0, ↓U_X6_triedFitsSeen_25, ↓U_X6_triedFitsSeen_27, ↓U_X6_triedFitsSeen_77, ↓U_X6_triedFitsSeen_83, ↓zthen_v, ↓zthen_0, zU_eq, zU_nc, zU_nj, allI, if_true]
  | succ n ih =>
    intro k hk hn
    have h := r2 k hk (by omega)
    have hh := c_hasSome (p := s 10 k) (t := s 9 k) ho (by omega) hc (by omega)
    rw [U_X6_triedFitsSeen_27, allI]
    by_cases q : s 34 (s 9 k) = s 10 k ∨ s 33 5 = s 9 k
    · rw [if_pos q] at hh
      rw [if_pos (decide_eq_true q)]
      simp (disch := first | exact z_tt rfl | assumption | omega | (simp (disch := omega) only [zU_eq, zU_nc, zU_nj]; omega)) only [↓L_ald_n0, ↓F_g0_3, ↓F_g0_5, ↓F_g0_0, ↓F_g1_1, ↓F_g17_1, ↓r_iconst, ↓I_X0_workOut_33, ↓r_ifne_t, ↓r_ifne_f, ↓J_X6_triedFitsSeen_25, ↓r_zreturn, ↓L_ist_n1, ↓L_ist_n1L, ↓L_ild_n1, ↓F_g1_8, ↓F_g17_8, ↓F_g8_2, ↓F_g11_2, ↓F_g14_2, ↓F_g24_2, ↓F_g27_2, ↓F_g30_2, ↓r_icge_t, ↓r_icge_f, ↓J_X6_triedFitsSeen_83, ↓F_g8_1, ↓F_g11_1, ↓F_g14_1, ↓F_g24_1, ↓F_g27_1, ↓F_g30_1, ↓A_g3, ↓A_g4, ↓A_g5, ↓A_g6, ↓A_g7, ↓A_g9, ↓A_g10, ↓A_g12, ↓A_g13, ↓A_g15, ↓A_g16, ↓A_g19, ↓A_g20, ↓A_g21, ↓A_g22, ↓A_g23, ↓A_g25, ↓A_g26, ↓A_g28, ↓A_g29, ↓A_g31, ↓A_g32, ↓A_g34, ↓A_g36, ↓A_g37, ↓A_g38, ↓A_g39, ↓A_g41, ↓A_g42, ↓A_g43, ↓A_g44, ↓A_g61, ↓A_g62, ↓A_g63, ↓A_g65, ↓A_g66, ↓A_g67, ↓A_g68, ↓A_g69, ↓A_g70, ↓A_gN, ↓A_gT, ↓A_gC, ↓F_g8_0, ↓F_g11_0, ↓F_g14_0, ↓F_g24_0, ↓F_g27_0, ↓F_g30_0, ↓I_X0_hasSome_33, ↓J_X6_triedFitsSeen_77, ↓L_iinc1, ↓r_goto, ↓J_X6_triedFitsSeen_27, ↓U_X6_triedFitsSeen_0, ↓U_X6_triedFitsSeen_25, ↓U_X6_triedFitsSeen_77, ↓U_X6_triedFitsSeen_83, ↓zthen_v, ↓zthen_0, zU_eq, zU_nc, zU_nj, hh]
      exact ih (k + 1) (by omega) (by omega)
    · rw [if_neg q] at hh
      rw [if_neg (show ¬ decide (s 34 (s 9 k) = s 10 k ∨ s 33 5 = s 9 k) = true by rw [decide_eq_false q]; decide), if_neg (by decide)]
      simp (disch := first | exact z_tt rfl | assumption | omega | (simp (disch := omega) only [zU_eq, zU_nc, zU_nj]; omega)) only [↓L_ald_n0, ↓F_g0_3, ↓F_g0_5, ↓F_g0_0, ↓F_g1_1, ↓F_g17_1, ↓r_iconst, ↓I_X0_workOut_33, ↓r_ifne_t, ↓r_ifne_f, ↓J_X6_triedFitsSeen_25, ↓r_zreturn, ↓L_ist_n1, ↓L_ist_n1L, ↓L_ild_n1, ↓F_g1_8, ↓F_g17_8, ↓F_g8_2, ↓F_g11_2, ↓F_g14_2, ↓F_g24_2, ↓F_g27_2, ↓F_g30_2, ↓r_icge_t, ↓r_icge_f, ↓J_X6_triedFitsSeen_83, ↓F_g8_1, ↓F_g11_1, ↓F_g14_1, ↓F_g24_1, ↓F_g27_1, ↓F_g30_1, ↓A_g3, ↓A_g4, ↓A_g5, ↓A_g6, ↓A_g7, ↓A_g9, ↓A_g10, ↓A_g12, ↓A_g13, ↓A_g15, ↓A_g16, ↓A_g19, ↓A_g20, ↓A_g21, ↓A_g22, ↓A_g23, ↓A_g25, ↓A_g26, ↓A_g28, ↓A_g29, ↓A_g31, ↓A_g32, ↓A_g34, ↓A_g36, ↓A_g37, ↓A_g38, ↓A_g39, ↓A_g41, ↓A_g42, ↓A_g43, ↓A_g44, ↓A_g61, ↓A_g62, ↓A_g63, ↓A_g65, ↓A_g66, ↓A_g67, ↓A_g68, ↓A_g69, ↓A_g70, ↓A_gN, ↓A_gT, ↓A_gC, ↓F_g8_0, ↓F_g11_0, ↓F_g14_0, ↓F_g24_0, ↓F_g27_0, ↓F_g30_0, ↓I_X0_hasSome_33, ↓J_X6_triedFitsSeen_77, ↓L_iinc1, ↓r_goto, ↓J_X6_triedFitsSeen_27, ↓U_X6_triedFitsSeen_0, ↓U_X6_triedFitsSeen_25, ↓U_X6_triedFitsSeen_77, ↓U_X6_triedFitsSeen_83, ↓zthen_v, ↓zthen_0, zU_eq, zU_nc, zU_nj, hh]
set_option maxRecDepth 20000 in
set_option maxHeartbeats 4000000 in
theorem m_is_loop {s t : zM} {q : Int → Bool} (hF : Fl t) (hs : RSs s t 8 9 10 61) (ht : t 61 1 ≤ 6) (hc : -1 ≤ t 60 5 ∧ t 60 5 < 6) (hq : ∀ k : Int, 0 ≤ k → k < s 8 2 → (q k = true ↔ (t 64 (s 9 k) = 1 - s 10 k ∨ t 60 5 = s 9 k))) : ∀ (n : Nat) (k : Int) (z : zV), 0 ≤ k → k + n = s 8 2 → zres 172 C_X7_isSeenSo_9 [vR 60, vI 1, vI k, z] [] t = some (some (vI (if allI q k n = true then 1 else 0)), t) := by
  obtain ⟨r1, r2⟩ := hs
  intro n
  induction n with
  | zero =>
    intro k z hk hn
    simp (disch := first | exact z_tt rfl | assumption | omega | (simp (disch := omega) only [zU_eq, zU_nc, zU_nj]; omega)) only [↓L_ald_n0, ↓r_iconst, ↓I_X7_adjusts_60, ↓L_ist_n1, ↓L_ist_n1L, ↓L_ist_n2, ↓L_ist_n2L, ↓L_ild_n2, ↓F_g60_0, ↓A_g3, ↓A_g4, ↓A_g5, ↓A_g6, ↓A_g7, ↓A_g9, ↓A_g10, ↓A_g12, ↓A_g13, ↓A_g15, ↓A_g16, ↓A_g19, ↓A_g20, ↓A_g21, ↓A_g22, ↓A_g23, ↓A_g25, ↓A_g26, ↓A_g28, ↓A_g29, ↓A_g31, ↓A_g32, ↓A_g34, ↓A_g36, ↓A_g37, ↓A_g38, ↓A_g39, ↓A_g41, ↓A_g42, ↓A_g43, ↓A_g44, ↓A_g61, ↓A_g62, ↓A_g63, ↓A_g65, ↓A_g66, ↓A_g67, ↓A_g68, ↓A_g69, ↓A_g70, ↓A_gN, ↓A_gT, ↓A_gC, ↓r_icge_t, ↓r_icge_f, ↓J_X7_isSeenSo_60, ↓L_ild_n1, ↓r_ifeq_t, ↓r_ifeq_f, ↓r_bipush, ↓r_iadd, ↓L_ist_n3, ↓L_ist_n3L, ↓L_ild_n3, ↓r_irem, ↓r_ifne_t, ↓r_ifne_f, ↓J_X7_isSeenSo_45, ↓r_goto, ↓J_X7_isSeenSo_46, ↓r_idiv, ↓I_X7_doesHoldSo_60, ↓L_iinc2, ↓J_X7_isSeenSo_9, ↓r_zreturn, ↓U_X7_isSeenSo_0, ↓U_X7_isSeenSo_9, ↓U_X7_isSeenSo_45, ↓U_X7_isSeenSo_46, ↓U_X7_isSeenSo_60, ↓zthen_v, ↓zthen_0, zU_eq, zU_nc, zU_nj, allI, if_true]
  | succ n ih =>
    intro k z hk hn
    have h := r2 k hk (by omega)
    have hqk := hq k hk (by omega)
    have e1 : t 61 (53 + k) % 10 = s 10 k := by omega
    have e2 : t 61 (53 + k) / 10 = s 9 k := by omega
    have hh := m_holdSo (f := 1 - s 10 k) (t := s 9 k) hF (by omega) hc (by omega)
    rw [U_X7_isSeenSo_9, allI]
    rcases (show s 10 k = 0 ∨ s 10 k = 1 by omega) with e | e
    · rw [e, show (1 : Int) - 0 = 1 from rfl] at hh
      rw [e, show (1 : Int) - 0 = 1 from rfl] at hqk
      by_cases p : t 64 (s 9 k) = 1 ∨ t 60 5 = s 9 k
      · rw [if_pos p] at hh
        rw [if_pos (hqk.mpr p)]
        simp (disch := first | exact z_tt rfl | assumption | omega | (simp (disch := omega) only [zU_eq, zU_nc, zU_nj]; omega)) only [↓L_ald_n0, ↓r_iconst, ↓I_X7_adjusts_60, ↓L_ist_n1, ↓L_ist_n1L, ↓L_ist_n2, ↓L_ist_n2L, ↓L_ild_n2, ↓F_g60_0, ↓A_g3, ↓A_g4, ↓A_g5, ↓A_g6, ↓A_g7, ↓A_g9, ↓A_g10, ↓A_g12, ↓A_g13, ↓A_g15, ↓A_g16, ↓A_g19, ↓A_g20, ↓A_g21, ↓A_g22, ↓A_g23, ↓A_g25, ↓A_g26, ↓A_g28, ↓A_g29, ↓A_g31, ↓A_g32, ↓A_g34, ↓A_g36, ↓A_g37, ↓A_g38, ↓A_g39, ↓A_g41, ↓A_g42, ↓A_g43, ↓A_g44, ↓A_g61, ↓A_g62, ↓A_g63, ↓A_g65, ↓A_g66, ↓A_g67, ↓A_g68, ↓A_g69, ↓A_g70, ↓A_gN, ↓A_gT, ↓A_gC, ↓r_icge_t, ↓r_icge_f, ↓J_X7_isSeenSo_60, ↓L_ild_n1, ↓r_ifeq_t, ↓r_ifeq_f, ↓r_bipush, ↓r_iadd, ↓L_ist_n3, ↓L_ist_n3L, ↓L_ild_n3, ↓r_irem, ↓r_ifne_t, ↓r_ifne_f, ↓J_X7_isSeenSo_45, ↓r_goto, ↓J_X7_isSeenSo_46, ↓r_idiv, ↓I_X7_doesHoldSo_60, ↓L_iinc2, ↓J_X7_isSeenSo_9, ↓r_zreturn, ↓U_X7_isSeenSo_0, ↓U_X7_isSeenSo_45, ↓U_X7_isSeenSo_46, ↓U_X7_isSeenSo_60, ↓zthen_v, ↓zthen_0, zU_eq, zU_nc, zU_nj, e1, e2, hh]
        exact ih (k + 1) _ (by omega) (by omega)
      · rw [if_neg p] at hh
        rw [if_neg (fun x => p (hqk.mp x)), if_neg (by decide)]
        by_cases q2 : k + 1 < s 8 2
        · simp (disch := first | exact z_tt rfl | assumption | omega | (simp (disch := omega) only [zU_eq, zU_nc, zU_nj]; omega)) only [↓L_ald_n0, ↓r_iconst, ↓I_X7_adjusts_60, ↓L_ist_n1, ↓L_ist_n1L, ↓L_ist_n2, ↓L_ist_n2L, ↓L_ild_n2, ↓F_g60_0, ↓A_g3, ↓A_g4, ↓A_g5, ↓A_g6, ↓A_g7, ↓A_g9, ↓A_g10, ↓A_g12, ↓A_g13, ↓A_g15, ↓A_g16, ↓A_g19, ↓A_g20, ↓A_g21, ↓A_g22, ↓A_g23, ↓A_g25, ↓A_g26, ↓A_g28, ↓A_g29, ↓A_g31, ↓A_g32, ↓A_g34, ↓A_g36, ↓A_g37, ↓A_g38, ↓A_g39, ↓A_g41, ↓A_g42, ↓A_g43, ↓A_g44, ↓A_g61, ↓A_g62, ↓A_g63, ↓A_g65, ↓A_g66, ↓A_g67, ↓A_g68, ↓A_g69, ↓A_g70, ↓A_gN, ↓A_gT, ↓A_gC, ↓r_icge_t, ↓r_icge_f, ↓J_X7_isSeenSo_60, ↓L_ild_n1, ↓r_ifeq_t, ↓r_ifeq_f, ↓r_bipush, ↓r_iadd, ↓L_ist_n3, ↓L_ist_n3L, ↓L_ild_n3, ↓r_irem, ↓r_ifne_t, ↓r_ifne_f, ↓J_X7_isSeenSo_45, ↓r_goto, ↓J_X7_isSeenSo_46, ↓r_idiv, ↓I_X7_doesHoldSo_60, ↓L_iinc2, ↓J_X7_isSeenSo_9, ↓r_zreturn, ↓U_X7_isSeenSo_0, ↓U_X7_isSeenSo_9, ↓U_X7_isSeenSo_45, ↓U_X7_isSeenSo_46, ↓U_X7_isSeenSo_60, ↓zthen_v, ↓zthen_0, zU_eq, zU_nc, zU_nj, e1, e2, hh]
        · simp (disch := first | exact z_tt rfl | assumption | omega | (simp (disch := omega) only [zU_eq, zU_nc, zU_nj]; omega)) only [↓L_ald_n0, ↓r_iconst, ↓I_X7_adjusts_60, ↓L_ist_n1, ↓L_ist_n1L, ↓L_ist_n2, ↓L_ist_n2L, ↓L_ild_n2, ↓F_g60_0, ↓A_g3, ↓A_g4, ↓A_g5, ↓A_g6, ↓A_g7, ↓A_g9, ↓A_g10, ↓A_g12, ↓A_g13, ↓A_g15, ↓A_g16, ↓A_g19, ↓A_g20, ↓A_g21, ↓A_g22, ↓A_g23, ↓A_g25, ↓A_g26, ↓A_g28, ↓A_g29, ↓A_g31, ↓A_g32, ↓A_g34, ↓A_g36, ↓A_g37, ↓A_g38, ↓A_g39, ↓A_g41, ↓A_g42, ↓A_g43, ↓A_g44, ↓A_g61, ↓A_g62, ↓A_g63, ↓A_g65, ↓A_g66, ↓A_g67, ↓A_g68, ↓A_g69, ↓A_g70, ↓A_gN, ↓A_gT, ↓A_gC, ↓r_icge_t, ↓r_icge_f, ↓J_X7_isSeenSo_60, ↓L_ild_n1, ↓r_ifeq_t, ↓r_ifeq_f, ↓r_bipush, ↓r_iadd, ↓L_ist_n3, ↓L_ist_n3L, ↓L_ild_n3, ↓r_irem, ↓r_ifne_t, ↓r_ifne_f, ↓J_X7_isSeenSo_45, ↓r_goto, ↓J_X7_isSeenSo_46, ↓r_idiv, ↓I_X7_doesHoldSo_60, ↓L_iinc2, ↓J_X7_isSeenSo_9, ↓r_zreturn, ↓U_X7_isSeenSo_0, ↓U_X7_isSeenSo_9, ↓U_X7_isSeenSo_45, ↓U_X7_isSeenSo_46, ↓U_X7_isSeenSo_60, ↓zthen_v, ↓zthen_0, zU_eq, zU_nc, zU_nj, e1, e2, hh]
    · rw [e, show (1 : Int) - 1 = 0 from rfl] at hh
      rw [e, show (1 : Int) - 1 = 0 from rfl] at hqk
      by_cases p : t 64 (s 9 k) = 0 ∨ t 60 5 = s 9 k
      · rw [if_pos p] at hh
        rw [if_pos (hqk.mpr p)]
        simp (disch := first | exact z_tt rfl | assumption | omega | (simp (disch := omega) only [zU_eq, zU_nc, zU_nj]; omega)) only [↓L_ald_n0, ↓r_iconst, ↓I_X7_adjusts_60, ↓L_ist_n1, ↓L_ist_n1L, ↓L_ist_n2, ↓L_ist_n2L, ↓L_ild_n2, ↓F_g60_0, ↓A_g3, ↓A_g4, ↓A_g5, ↓A_g6, ↓A_g7, ↓A_g9, ↓A_g10, ↓A_g12, ↓A_g13, ↓A_g15, ↓A_g16, ↓A_g19, ↓A_g20, ↓A_g21, ↓A_g22, ↓A_g23, ↓A_g25, ↓A_g26, ↓A_g28, ↓A_g29, ↓A_g31, ↓A_g32, ↓A_g34, ↓A_g36, ↓A_g37, ↓A_g38, ↓A_g39, ↓A_g41, ↓A_g42, ↓A_g43, ↓A_g44, ↓A_g61, ↓A_g62, ↓A_g63, ↓A_g65, ↓A_g66, ↓A_g67, ↓A_g68, ↓A_g69, ↓A_g70, ↓A_gN, ↓A_gT, ↓A_gC, ↓r_icge_t, ↓r_icge_f, ↓J_X7_isSeenSo_60, ↓L_ild_n1, ↓r_ifeq_t, ↓r_ifeq_f, ↓r_bipush, ↓r_iadd, ↓L_ist_n3, ↓L_ist_n3L, ↓L_ild_n3, ↓r_irem, ↓r_ifne_t, ↓r_ifne_f, ↓J_X7_isSeenSo_45, ↓r_goto, ↓J_X7_isSeenSo_46, ↓r_idiv, ↓I_X7_doesHoldSo_60, ↓L_iinc2, ↓J_X7_isSeenSo_9, ↓r_zreturn, ↓U_X7_isSeenSo_0, ↓U_X7_isSeenSo_45, ↓U_X7_isSeenSo_46, ↓U_X7_isSeenSo_60, ↓zthen_v, ↓zthen_0, zU_eq, zU_nc, zU_nj, e1, e2, hh]
        exact ih (k + 1) _ (by omega) (by omega)
      · rw [if_neg p] at hh
        rw [if_neg (fun x => p (hqk.mp x)), if_neg (by decide)]
        by_cases q2 : k + 1 < s 8 2
        · simp (disch := first | exact z_tt rfl | assumption | omega | (simp (disch := omega) only [zU_eq, zU_nc, zU_nj]; omega)) only [↓L_ald_n0, ↓r_iconst, ↓I_X7_adjusts_60, ↓L_ist_n1, ↓L_ist_n1L, ↓L_ist_n2, ↓L_ist_n2L, ↓L_ild_n2, ↓F_g60_0, ↓A_g3, ↓A_g4, ↓A_g5, ↓A_g6, ↓A_g7, ↓A_g9, ↓A_g10, ↓A_g12, ↓A_g13, ↓A_g15, ↓A_g16, ↓A_g19, ↓A_g20, ↓A_g21, ↓A_g22, ↓A_g23, ↓A_g25, ↓A_g26, ↓A_g28, ↓A_g29, ↓A_g31, ↓A_g32, ↓A_g34, ↓A_g36, ↓A_g37, ↓A_g38, ↓A_g39, ↓A_g41, ↓A_g42, ↓A_g43, ↓A_g44, ↓A_g61, ↓A_g62, ↓A_g63, ↓A_g65, ↓A_g66, ↓A_g67, ↓A_g68, ↓A_g69, ↓A_g70, ↓A_gN, ↓A_gT, ↓A_gC, ↓r_icge_t, ↓r_icge_f, ↓J_X7_isSeenSo_60, ↓L_ild_n1, ↓r_ifeq_t, ↓r_ifeq_f, ↓r_bipush, ↓r_iadd, ↓L_ist_n3, ↓L_ist_n3L, ↓L_ild_n3, ↓r_irem, ↓r_ifne_t, ↓r_ifne_f, ↓J_X7_isSeenSo_45, ↓r_goto, ↓J_X7_isSeenSo_46, ↓r_idiv, ↓I_X7_doesHoldSo_60, ↓L_iinc2, ↓J_X7_isSeenSo_9, ↓r_zreturn, ↓U_X7_isSeenSo_0, ↓U_X7_isSeenSo_9, ↓U_X7_isSeenSo_45, ↓U_X7_isSeenSo_46, ↓U_X7_isSeenSo_60, ↓zthen_v, ↓zthen_0, zU_eq, zU_nc, zU_nj, e1, e2, hh]
        · simp (disch := first | exact z_tt rfl | assumption | omega | (simp (disch := omega) only [zU_eq, zU_nc, zU_nj]; omega)) only [↓L_ald_n0, ↓r_iconst, ↓I_X7_adjusts_60, ↓L_ist_n1, ↓L_ist_n1L, ↓L_ist_n2, ↓L_ist_n2L, ↓L_ild_n2, ↓F_g60_0, ↓A_g3, ↓A_g4, ↓A_g5, ↓A_g6, ↓A_g7, ↓A_g9, ↓A_g10, ↓A_g12, ↓A_g13, ↓A_g15, ↓A_g16, ↓A_g19, ↓A_g20, ↓A_g21, ↓A_g22, ↓A_g23, ↓A_g25, ↓A_g26, ↓A_g28, ↓A_g29, ↓A_g31, ↓A_g32, ↓A_g34, ↓A_g36, ↓A_g37, ↓A_g38, ↓A_g39, ↓A_g41, ↓A_g42, ↓A_g43, ↓A_g44, ↓A_g61, ↓A_g62, ↓A_g63, ↓A_g65, ↓A_g66, ↓A_g67, ↓A_g68, ↓A_g69, ↓A_g70, ↓A_gN, ↓A_gT, ↓A_gC, ↓r_icge_t, ↓r_icge_f, ↓J_X7_isSeenSo_60, ↓L_ild_n1, ↓r_ifeq_t, ↓r_ifeq_f, ↓r_bipush, ↓r_iadd, ↓L_ist_n3, ↓L_ist_n3L, ↓L_ild_n3, ↓r_irem, ↓r_ifne_t, ↓r_ifne_f, ↓J_X7_isSeenSo_45, ↓r_goto, ↓J_X7_isSeenSo_46, ↓r_idiv, ↓I_X7_doesHoldSo_60, ↓L_iinc2, ↓J_X7_isSeenSo_9, ↓r_zreturn, ↓U_X7_isSeenSo_0, ↓U_X7_isSeenSo_9, ↓U_X7_isSeenSo_45, ↓U_X7_isSeenSo_46, ↓U_X7_isSeenSo_60, ↓zthen_v, ↓zthen_0, zU_eq, zU_nc, zU_nj, e1, e2, hh]
set_option maxRecDepth 20000 in
set_option maxHeartbeats 4000000 in
theorem seen_one {s t : zM} {P : Int → Int → Int} (ho : Ow6 s) (hF : Fl t) (hV : V1 t) (ht : t 61 1 = s 1 1) (hC : TrC s P) (hM : TrM t P (s 1 1)) (hs : RSs s t 8 9 10 61) : ∃ (b : Bool) (s1 t1 : zM), zcall 103 [vR 0] s = some (some (vI (if b = true then 1 else 0)), s1) ∧ zcall 172 [vR 60] t = some (some (vI (if b = true then 1 else 0)), t1) ∧ Ow6 s1 ∧ Fl t1 ∧ FrA s s1 ∧ FrB t t1 := by
  have v1 := hV.2.1
  have r1 := hs.1
  rcases wo_tr ho hF hV ht hC hM with ⟨s1, c3, m3, R1, F1⟩ | ⟨s1, t1, c3, m3, Ro, RF, F1, F2, A, h331⟩
  · refine ⟨false, s1, t, ?_, ?_, R1, hF, F1, fun _ _ _ => rfl⟩
    · rw [S_X6_triedFitsSeen, if_neg (by decide)]
      simp (disch := first | exact z_tt rfl | assumption | omega | (simp (disch := omega) only [zU_eq, zU_nc, zU_nj]; omega)) only [↓L_ald_n0, ↓F_g0_3, ↓F_g0_5, ↓F_g0_0, ↓F_g1_1, ↓F_g17_1, ↓r_iconst, ↓I_X0_workOut_33, ↓r_ifne_t, ↓r_ifne_f, ↓J_X6_triedFitsSeen_25, ↓r_zreturn, ↓L_ist_n1, ↓L_ist_n1L, ↓L_ild_n1, ↓F_g1_8, ↓F_g17_8, ↓F_g8_2, ↓F_g11_2, ↓F_g14_2, ↓F_g24_2, ↓F_g27_2, ↓F_g30_2, ↓r_icge_t, ↓r_icge_f, ↓J_X6_triedFitsSeen_83, ↓F_g8_1, ↓F_g11_1, ↓F_g14_1, ↓F_g24_1, ↓F_g27_1, ↓F_g30_1, ↓A_g3, ↓A_g4, ↓A_g5, ↓A_g6, ↓A_g7, ↓A_g9, ↓A_g10, ↓A_g12, ↓A_g13, ↓A_g15, ↓A_g16, ↓A_g19, ↓A_g20, ↓A_g21, ↓A_g22, ↓A_g23, ↓A_g25, ↓A_g26, ↓A_g28, ↓A_g29, ↓A_g31, ↓A_g32, ↓A_g34, ↓A_g36, ↓A_g37, ↓A_g38, ↓A_g39, ↓A_g41, ↓A_g42, ↓A_g43, ↓A_g44, ↓A_g61, ↓A_g62, ↓A_g63, ↓A_g65, ↓A_g66, ↓A_g67, ↓A_g68, ↓A_g69, ↓A_g70, ↓A_gN, ↓A_gT, ↓A_gC, ↓F_g8_0, ↓F_g11_0, ↓F_g14_0, ↓F_g24_0, ↓F_g27_0, ↓F_g30_0, ↓I_X0_hasSome_33, ↓J_X6_triedFitsSeen_77, ↓L_iinc1, ↓r_goto, ↓J_X6_triedFitsSeen_27, ↓U_X6_triedFitsSeen_0, ↓U_X6_triedFitsSeen_25, ↓U_X6_triedFitsSeen_27, ↓U_X6_triedFitsSeen_77, ↓U_X6_triedFitsSeen_83, ↓zthen_v, ↓zthen_0, zU_eq, zU_nc, zU_nj, c3]
    · rw [S_X7_isSeenSo, if_neg (by decide)]
      by_cases q2 : 0 < s 8 2
      · simp (disch := first | exact z_tt rfl | assumption | omega | (simp (disch := omega) only [zU_eq, zU_nc, zU_nj]; omega)) only [↓L_ald_n0, ↓r_iconst, ↓I_X7_adjusts_60, ↓L_ist_n1, ↓L_ist_n1L, ↓L_ist_n2, ↓L_ist_n2L, ↓L_ild_n2, ↓F_g60_0, ↓A_g3, ↓A_g4, ↓A_g5, ↓A_g6, ↓A_g7, ↓A_g9, ↓A_g10, ↓A_g12, ↓A_g13, ↓A_g15, ↓A_g16, ↓A_g19, ↓A_g20, ↓A_g21, ↓A_g22, ↓A_g23, ↓A_g25, ↓A_g26, ↓A_g28, ↓A_g29, ↓A_g31, ↓A_g32, ↓A_g34, ↓A_g36, ↓A_g37, ↓A_g38, ↓A_g39, ↓A_g41, ↓A_g42, ↓A_g43, ↓A_g44, ↓A_g61, ↓A_g62, ↓A_g63, ↓A_g65, ↓A_g66, ↓A_g67, ↓A_g68, ↓A_g69, ↓A_g70, ↓A_gN, ↓A_gT, ↓A_gC, ↓r_icge_t, ↓r_icge_f, ↓J_X7_isSeenSo_60, ↓L_ild_n1, ↓r_ifeq_t, ↓r_ifeq_f, ↓r_bipush, ↓r_iadd, ↓L_ist_n3, ↓L_ist_n3L, ↓L_ild_n3, ↓r_irem, ↓r_ifne_t, ↓r_ifne_f, ↓J_X7_isSeenSo_45, ↓r_goto, ↓J_X7_isSeenSo_46, ↓r_idiv, ↓I_X7_doesHoldSo_60, ↓L_iinc2, ↓J_X7_isSeenSo_9, ↓r_zreturn, ↓U_X7_isSeenSo_0, ↓U_X7_isSeenSo_9, ↓U_X7_isSeenSo_45, ↓U_X7_isSeenSo_46, ↓U_X7_isSeenSo_60, ↓zthen_v, ↓zthen_0, zU_eq, zU_nc, zU_nj, m3]
      · simp (disch := first | exact z_tt rfl | assumption | omega | (simp (disch := omega) only [zU_eq, zU_nc, zU_nj]; omega)) only [↓L_ald_n0, ↓r_iconst, ↓I_X7_adjusts_60, ↓L_ist_n1, ↓L_ist_n1L, ↓L_ist_n2, ↓L_ist_n2L, ↓L_ild_n2, ↓F_g60_0, ↓A_g3, ↓A_g4, ↓A_g5, ↓A_g6, ↓A_g7, ↓A_g9, ↓A_g10, ↓A_g12, ↓A_g13, ↓A_g15, ↓A_g16, ↓A_g19, ↓A_g20, ↓A_g21, ↓A_g22, ↓A_g23, ↓A_g25, ↓A_g26, ↓A_g28, ↓A_g29, ↓A_g31, ↓A_g32, ↓A_g34, ↓A_g36, ↓A_g37, ↓A_g38, ↓A_g39, ↓A_g41, ↓A_g42, ↓A_g43, ↓A_g44, ↓A_g61, ↓A_g62, ↓A_g63, ↓A_g65, ↓A_g66, ↓A_g67, ↓A_g68, ↓A_g69, ↓A_g70, ↓A_gN, ↓A_gT, ↓A_gC, ↓r_icge_t, ↓r_icge_f, ↓J_X7_isSeenSo_60, ↓L_ild_n1, ↓r_ifeq_t, ↓r_ifeq_f, ↓r_bipush, ↓r_iadd, ↓L_ist_n3, ↓L_ist_n3L, ↓L_ild_n3, ↓r_irem, ↓r_ifne_t, ↓r_ifne_f, ↓J_X7_isSeenSo_45, ↓r_goto, ↓J_X7_isSeenSo_46, ↓r_idiv, ↓I_X7_doesHoldSo_60, ↓L_iinc2, ↓J_X7_isSeenSo_9, ↓r_zreturn, ↓U_X7_isSeenSo_0, ↓U_X7_isSeenSo_9, ↓U_X7_isSeenSo_45, ↓U_X7_isSeenSo_46, ↓U_X7_isSeenSo_60, ↓zthen_v, ↓zthen_0, zU_eq, zU_nc, zU_nj, m3]
  · obtain ⟨a1, ⟨t4, t5, t6, t7, t2, t3⟩, a3, a4, a5⟩ := A
    have hs1 : RSs s1 t1 8 9 10 61 := RSs_fr hs (F1 _ _ (by omega)) (fun k => F1 _ _ (by omega)) (fun k => F1 _ _ (by omega)) (fun j h => F2 _ _ (by omega))
    have e82 : s1 8 2 = s 8 2 := F1 _ _ (by omega)
    have e11 : t1 61 1 = s 1 1 := by rw [F2 _ _ (by omega)]; exact ht
    have L1 := c_tf_loop Ro hs1 (by omega) (by omega) (s 8 2).toNat 0 (by omega) (by omega)
    have L2 := fun z => m_is_loop (q := fun k => decide (s1 34 (s1 9 k) = s1 10 k ∨ s1 33 5 = s1 9 k)) RF hs1 (by omega) (by omega) (fun k ka kb => by
      have h := hs1.2 k ka kb
      have g := a1 (s1 9 k) (by omega) (by omega)
      rw [decide_eq_true_eq]
      omega) (s 8 2).toNat 0 z (by omega) (by omega)
    refine ⟨allI (fun k => decide (s1 34 (s1 9 k) = s1 10 k ∨ s1 33 5 = s1 9 k)) 0 (s 8 2).toNat, s1, t1, ?_, ?_, Ro, RF, F1, F2⟩
    · rw [S_X6_triedFitsSeen]
      simp (disch := first | exact z_tt rfl | assumption | omega | (simp (disch := omega) only [zU_eq, zU_nc, zU_nj]; omega)) only [↓L_ald_n0, ↓F_g0_3, ↓F_g0_5, ↓F_g0_0, ↓F_g1_1, ↓F_g17_1, ↓r_iconst, ↓I_X0_workOut_33, ↓r_ifne_t, ↓r_ifne_f, ↓J_X6_triedFitsSeen_25, ↓r_zreturn, ↓L_ist_n1, ↓L_ist_n1L, ↓L_ild_n1, ↓F_g1_8, ↓F_g17_8, ↓F_g8_2, ↓F_g11_2, ↓F_g14_2, ↓F_g24_2, ↓F_g27_2, ↓F_g30_2, ↓r_icge_t, ↓r_icge_f, ↓J_X6_triedFitsSeen_83, ↓F_g8_1, ↓F_g11_1, ↓F_g14_1, ↓F_g24_1, ↓F_g27_1, ↓F_g30_1, ↓A_g3, ↓A_g4, ↓A_g5, ↓A_g6, ↓A_g7, ↓A_g9, ↓A_g10, ↓A_g12, ↓A_g13, ↓A_g15, ↓A_g16, ↓A_g19, ↓A_g20, ↓A_g21, ↓A_g22, ↓A_g23, ↓A_g25, ↓A_g26, ↓A_g28, ↓A_g29, ↓A_g31, ↓A_g32, ↓A_g34, ↓A_g36, ↓A_g37, ↓A_g38, ↓A_g39, ↓A_g41, ↓A_g42, ↓A_g43, ↓A_g44, ↓A_g61, ↓A_g62, ↓A_g63, ↓A_g65, ↓A_g66, ↓A_g67, ↓A_g68, ↓A_g69, ↓A_g70, ↓A_gN, ↓A_gT, ↓A_gC, ↓F_g8_0, ↓F_g11_0, ↓F_g14_0, ↓F_g24_0, ↓F_g27_0, ↓F_g30_0, ↓I_X0_hasSome_33, ↓J_X6_triedFitsSeen_77, ↓L_iinc1, ↓r_goto, ↓J_X6_triedFitsSeen_27, ↓U_X6_triedFitsSeen_0, ↓U_X6_triedFitsSeen_25, ↓U_X6_triedFitsSeen_77, ↓U_X6_triedFitsSeen_83, ↓zthen_v, ↓zthen_0, zU_eq, zU_nc, zU_nj, c3]
      exact L1
    · rw [S_X7_isSeenSo]
      simp (disch := first | exact z_tt rfl | assumption | omega | (simp (disch := omega) only [zU_eq, zU_nc, zU_nj]; omega)) only [↓L_ald_n0, ↓r_iconst, ↓I_X7_adjusts_60, ↓L_ist_n1, ↓L_ist_n1L, ↓L_ist_n2, ↓L_ist_n2L, ↓L_ild_n2, ↓F_g60_0, ↓A_g3, ↓A_g4, ↓A_g5, ↓A_g6, ↓A_g7, ↓A_g9, ↓A_g10, ↓A_g12, ↓A_g13, ↓A_g15, ↓A_g16, ↓A_g19, ↓A_g20, ↓A_g21, ↓A_g22, ↓A_g23, ↓A_g25, ↓A_g26, ↓A_g28, ↓A_g29, ↓A_g31, ↓A_g32, ↓A_g34, ↓A_g36, ↓A_g37, ↓A_g38, ↓A_g39, ↓A_g41, ↓A_g42, ↓A_g43, ↓A_g44, ↓A_g61, ↓A_g62, ↓A_g63, ↓A_g65, ↓A_g66, ↓A_g67, ↓A_g68, ↓A_g69, ↓A_g70, ↓A_gN, ↓A_gT, ↓A_gC, ↓r_icge_t, ↓r_icge_f, ↓J_X7_isSeenSo_60, ↓L_ild_n1, ↓r_ifeq_t, ↓r_ifeq_f, ↓r_bipush, ↓r_iadd, ↓L_ist_n3, ↓L_ist_n3L, ↓L_ild_n3, ↓r_irem, ↓r_ifne_t, ↓r_ifne_f, ↓J_X7_isSeenSo_45, ↓r_goto, ↓J_X7_isSeenSo_46, ↓r_idiv, ↓I_X7_doesHoldSo_60, ↓L_iinc2, ↓J_X7_isSeenSo_9, ↓r_zreturn, ↓U_X7_isSeenSo_0, ↓U_X7_isSeenSo_45, ↓U_X7_isSeenSo_46, ↓U_X7_isSeenSo_60, ↓zthen_v, ↓zthen_0, zU_eq, zU_nc, zU_nj, m3]
      exact L2 _
