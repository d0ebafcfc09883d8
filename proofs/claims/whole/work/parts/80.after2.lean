/-! after -/
def evP (N M : Int) (L E : Int → Int) : Int → Nat → (Int → Int → Int) → (Int → Int → Int)
  | _, 0, P => P
  | k, n + 1, P => evP N M L E (k + 1) n (hpP N M (L k) (E k) P N 0)
theorem evP_PB {N M : Int} {L E : Int → Int} : ∀ (n : Nat) (k : Int) (P : Int → Int → Int), PB P → PB (evP N M L E k n P)
  | 0, k, P, h => h
  | n + 1, k, P, h => evP_PB n (k + 1) _ (hpP_PB h)
set_option maxRecDepth 20000 in
set_option maxHeartbeats 4000000 in
theorem c_af_loop {σ τ : zM} {w : Int} (R : Rel1 σ τ) : ∀ (n : Nat) (k : Int) (s : zM) (P : Int → Int → Int), PB P → 0 ≤ k → k + n = σ 11 2 → FrD σ s → TrD s P → ∃ s1, FrD σ s1 ∧ TrD s1 (evP (σ 1 0) (σ 1 1) (σ 12) (σ 13) k n P) ∧ zres 74 C_X6_after_29 [vR 0, vI w, vI k] [] s = zres 74 C_X6_after_77 [vR 0, vI w, vI (σ 11 2)] [] s1 := by
  have hn0 := R.n
  have hm := R.m
  have hM := R.evM
  intro n
  induction n with
  | zero =>
    intro k s P hP hk hn F T
    have e : k = σ 11 2 := by omega
    subst e
    have e1 : s 11 2 = σ 11 2 := F _ _ (by omega)
    refine ⟨s, F, T, ?_⟩
    rw [U_X6_after_29]
    simp (disch := first | exact z_tt rfl | assumption | omega | (simp (disch := omega) only [zU_eq, zU_nc, zU_nj]; omega)) only [↓L_ild_n1, ↓r_iflt_t, ↓r_iflt_f, ↓J_X6_after_9, ↓r_iconst, ↓r_icle_t, ↓r_icle_f, ↓J_X6_after_13, ↓r_ldc2w, ↓r_lreturn, ↓L_ald_n0, ↓F_g0_0, ↓F_g1_2, ↓F_g17_2, ↓F_g0_5, ↓I_X6_copyPoints, ↓L_ist_n2, ↓L_ist_n2L, ↓L_ild_n2, ↓F_g1_9, ↓F_g17_9, ↓F_g8_2, ↓F_g11_2, ↓F_g14_2, ↓F_g24_2, ↓F_g27_2, ↓F_g30_2, ↓r_icge_t, ↓r_icge_f, ↓J_X6_after_77, ↓F_g8_0, ↓F_g11_0, ↓F_g14_0, ↓F_g24_0, ↓F_g27_0, ↓F_g30_0, ↓A_g3, ↓A_g4, ↓A_g5, ↓A_g6, ↓A_g7, ↓A_g9, ↓A_g10, ↓A_g12, ↓A_g13, ↓A_g15, ↓A_g16, ↓A_g19, ↓A_g20, ↓A_g21, ↓A_g22, ↓A_g23, ↓A_g25, ↓A_g26, ↓A_g28, ↓A_g29, ↓A_g31, ↓A_g32, ↓A_g34, ↓A_g36, ↓A_g37, ↓A_g38, ↓A_g39, ↓A_g41, ↓A_g42, ↓A_g43, ↓A_g44, ↓A_g61, ↓A_g62, ↓A_g63, ↓A_g65, ↓A_g66, ↓A_g67, ↓A_g68, ↓A_g69, ↓A_g70, ↓A_gN, ↓A_gT, ↓A_gC, ↓F_g8_1, ↓F_g11_1, ↓F_g14_1, ↓F_g24_1, ↓F_g27_1, ↓F_g30_1, ↓I_X6_letHappen_0, ↓L_iinc2, ↓r_goto, ↓J_X6_after_29, ↓F_g0_3, ↓F_g1_1, ↓F_g17_1, ↓I_X0_workOut_33, ↓r_ifne_t, ↓r_ifne_f, ↓J_X6_after_104, ↓r_icne_t, ↓r_icne_f, ↓J_X6_after_121, ↓F_g33_5, ↓I_X6_orNoSuch, ↓r_i2l, ↓F_g33_8, ↓F_g33_9, ↓I_X6_inLowestTerms, ↓U_X6_after_0, ↓U_X6_after_9, ↓U_X6_after_13, ↓U_X6_after_104, ↓U_X6_after_121, ↓zthen_v, ↓zthen_0, zU_eq, zU_nc, zU_nj]
  | succ n ih =>
    intro k s P hP hk hn F T
    have e1 : s 11 2 = σ 11 2 := F _ _ (by omega)
    have e2 : s 12 k = σ 12 k := F _ _ (by omega)
    have e3 : s 13 k = σ 13 k := F _ _ (by omega)
    have h := R.evR k (by omega) (by omega)
    obtain ⟨s1, T1, F1, c1⟩ := c_letHappen (s := s) (N := σ 1 0) (M := σ 1 1) (w := σ 12 k) (e := σ 13 k) hP (by omega) (by omega) h.2.2.1 h.2.2.2 (F _ _ (by omega)) (F _ _ (by omega)) T
    obtain ⟨s2, F2, T2, E⟩ := ih (k + 1) s1 _ (hpP_PB hP) (by omega) (by omega) (fun c j q => by rw [F1 c j q, F c j q]) T1
    refine ⟨s2, F2, T2, ?_⟩
    rw [U_X6_after_29, ← E]
    simp (disch := first | exact z_tt rfl | assumption | omega | (simp (disch := omega) only [zU_eq, zU_nc, zU_nj]; omega)) only [↓L_ild_n1, ↓r_iflt_t, ↓r_iflt_f, ↓J_X6_after_9, ↓r_iconst, ↓r_icle_t, ↓r_icle_f, ↓J_X6_after_13, ↓r_ldc2w, ↓r_lreturn, ↓L_ald_n0, ↓F_g0_0, ↓F_g1_2, ↓F_g17_2, ↓F_g0_5, ↓I_X6_copyPoints, ↓L_ist_n2, ↓L_ist_n2L, ↓L_ild_n2, ↓F_g1_9, ↓F_g17_9, ↓F_g8_2, ↓F_g11_2, ↓F_g14_2, ↓F_g24_2, ↓F_g27_2, ↓F_g30_2, ↓r_icge_t, ↓r_icge_f, ↓J_X6_after_77, ↓F_g8_0, ↓F_g11_0, ↓F_g14_0, ↓F_g24_0, ↓F_g27_0, ↓F_g30_0, ↓A_g3, ↓A_g4, ↓A_g5, ↓A_g6, ↓A_g7, ↓A_g9, ↓A_g10, ↓A_g12, ↓A_g13, ↓A_g15, ↓A_g16, ↓A_g19, ↓A_g20, ↓A_g21, ↓A_g22, ↓A_g23, ↓A_g25, ↓A_g26, ↓A_g28, ↓A_g29, ↓A_g31, ↓A_g32, ↓A_g34, ↓A_g36, ↓A_g37, ↓A_g38, ↓A_g39, ↓A_g41, ↓A_g42, ↓A_g43, ↓A_g44, ↓A_g61, ↓A_g62, ↓A_g63, ↓A_g65, ↓A_g66, ↓A_g67, ↓A_g68, ↓A_g69, ↓A_g70, ↓A_gN, ↓A_gT, ↓A_gC, ↓F_g8_1, ↓F_g11_1, ↓F_g14_1, ↓F_g24_1, ↓F_g27_1, ↓F_g30_1, ↓I_X6_letHappen_0, ↓L_iinc2, ↓r_goto, ↓J_X6_after_29, ↓F_g0_3, ↓F_g1_1, ↓F_g17_1, ↓I_X0_workOut_33, ↓r_ifne_t, ↓r_ifne_f, ↓J_X6_after_104, ↓r_icne_t, ↓r_icne_f, ↓J_X6_after_121, ↓F_g33_5, ↓I_X6_orNoSuch, ↓r_i2l, ↓F_g33_8, ↓F_g33_9, ↓I_X6_inLowestTerms, ↓U_X6_after_0, ↓U_X6_after_9, ↓U_X6_after_13, ↓U_X6_after_104, ↓U_X6_after_121, ↓zthen_v, ↓zthen_0, zU_eq, zU_nc, zU_nj, e2, e3, c1]
def FrG (τ t : zM) : Prop := (∀ c j : Int, (c < 61 ∨ (61 < c ∧ c < 63) ∨ 63 < c ∨ (c = 61 ∧ (j < 29 ∨ 52 < j))) → t c j = τ c j) ∧ (∀ j : Int, 0 ≤ j → j < 82 → t 63 j = τ 61 j)
set_option maxRecDepth 20000 in
set_option maxHeartbeats 4000000 in
theorem m_af2_loop {σ τ : zM} {w : Int} {z : zV} (R : Rel1 σ τ) : ∀ (n : Nat) (k : Int) (t : zM) (P : Int → Int → Int), PB P → 0 ≤ k → k + n = σ 11 2 → FrG τ t → TrM t P (σ 1 1) → ∃ t1, FrG τ t1 ∧ TrM t1 (evP (σ 1 0) (σ 1 1) (σ 12) (σ 13) k n P) (σ 1 1) ∧ zres 179 C_X7_after_33 [vR 60, vI w, vI k, z] [] t = zres 179 C_X7_after_77 [vR 60, vI w, vI (σ 11 2), z] [] t1 := by
  have hn0 := R.n
  have hm := R.m
  have hM := R.evM
  intro n
  induction n with
  | zero =>
    intro k s P hP hk hn F T
    have e : k = σ 11 2 := by omega
    subst e
    have e1 : s 63 3 = σ 11 2 := by rw [F.2 _ (by omega) (by omega)]; exact hM.2.2
    refine ⟨s, F, T, ?_⟩
    rw [U_X7_after_33]
    simp (disch := first | exact z_tt rfl | assumption | omega | (simp (disch := omega) only [zU_eq, zU_nc, zU_nj]; omega)) only [↓L_ild_n1, ↓r_i2l, ↓r_lconst, ↓r_ldc2w, ↓I_X7_in, ↓r_ifne_t, ↓r_ifne_f, ↓J_X7_after_16, ↓r_lreturn, ↓L_ald_n0, ↓F_g60_0, ↓r_iconst, ↓F_g60_2, ↓r_bipush, ↓A_c6, ↓A_c5, ↓A_c8, ↓A_c82, ↓A_c60, ↓A_c360, ↓L_ist_n2, ↓L_ist_n2L, ↓L_ild_n2, ↓A_g3, ↓A_g4, ↓A_g5, ↓A_g6, ↓A_g7, ↓A_g9, ↓A_g10, ↓A_g12, ↓A_g13, ↓A_g15, ↓A_g16, ↓A_g19, ↓A_g20, ↓A_g21, ↓A_g22, ↓A_g23, ↓A_g25, ↓A_g26, ↓A_g28, ↓A_g29, ↓A_g31, ↓A_g32, ↓A_g34, ↓A_g36, ↓A_g37, ↓A_g38, ↓A_g39, ↓A_g41, ↓A_g42, ↓A_g43, ↓A_g44, ↓A_g61, ↓A_g62, ↓A_g63, ↓A_g65, ↓A_g66, ↓A_g67, ↓A_g68, ↓A_g69, ↓A_g70, ↓A_gN, ↓A_gT, ↓A_gC, ↓r_icge_t, ↓r_icge_f, ↓J_X7_after_77, ↓r_imul, ↓r_iadd, ↓I_X7_happens_60, ↓L_iinc2, ↓r_goto, ↓J_X7_after_33, ↓I_X7_afterNow_60, ↓L_lst_n2, ↓L_lst_n2L, ↓L_lld_n2, ↓U_X7_after_0, ↓U_X7_after_16, ↓zthen_v, ↓zthen_0, zU_eq, zU_nc, zU_nj]
  | succ n ih =>
    intro k s P hP hk hn F T
    have e1 : s 63 3 = σ 11 2 := by rw [F.2 _ (by omega) (by omega)]; exact hM.2.2
    have h := R.evR k (by omega) (by omega)
    have e2 : s 63 (58 + 2 * k) = σ 12 k := by rw [F.2 _ (by omega) (by omega)]; exact h.1
    have e3 : s 63 (58 + 2 * k + 1) = σ 13 k := by
      rw [F.2 _ (by omega) (by omega), show 58 + 2 * k + 1 = 59 + 2 * k by omega]; exact h.2.1
    obtain ⟨s1, T1, F1, c1⟩ := m_happens (s := s) (N := σ 1 0) (M := σ 1 1) (w := σ 12 k) (e := σ 13 k) hP (by omega) (by omega) h.2.2.1 h.2.2.2 (by rw [F.1 _ _ (by omega)]; exact hn0.2.2) (by rw [F.1 _ _ (by omega)]; exact hm.2.2) T
    obtain ⟨s2, F2, T2, E⟩ := ih (k + 1) s1 _ (hpP_PB hP) (by omega) (by omega) ⟨fun c j q => by rw [F1 c j (by omega), F.1 c j q], fun j a b => by rw [F1 _ _ (by omega), F.2 j a b]⟩ T1
    refine ⟨s2, F2, T2, ?_⟩
    rw [U_X7_after_33, ← E]
    simp (disch := first | exact z_tt rfl | assumption | omega | (simp (disch := omega) only [zU_eq, zU_nc, zU_nj]; omega)) only [↓L_ild_n1, ↓r_i2l, ↓r_lconst, ↓r_ldc2w, ↓I_X7_in, ↓r_ifne_t, ↓r_ifne_f, ↓J_X7_after_16, ↓r_lreturn, ↓L_ald_n0, ↓F_g60_0, ↓r_iconst, ↓F_g60_2, ↓r_bipush, ↓A_c6, ↓A_c5, ↓A_c8, ↓A_c82, ↓A_c60, ↓A_c360, ↓L_ist_n2, ↓L_ist_n2L, ↓L_ild_n2, ↓A_g3, ↓A_g4, ↓A_g5, ↓A_g6, ↓A_g7, ↓A_g9, ↓A_g10, ↓A_g12, ↓A_g13, ↓A_g15, ↓A_g16, ↓A_g19, ↓A_g20, ↓A_g21, ↓A_g22, ↓A_g23, ↓A_g25, ↓A_g26, ↓A_g28, ↓A_g29, ↓A_g31, ↓A_g32, ↓A_g34, ↓A_g36, ↓A_g37, ↓A_g38, ↓A_g39, ↓A_g41, ↓A_g42, ↓A_g43, ↓A_g44, ↓A_g61, ↓A_g62, ↓A_g63, ↓A_g65, ↓A_g66, ↓A_g67, ↓A_g68, ↓A_g69, ↓A_g70, ↓A_gN, ↓A_gT, ↓A_gC, ↓r_icge_t, ↓r_icge_f, ↓J_X7_after_77, ↓r_imul, ↓r_iadd, ↓I_X7_happens_60, ↓L_iinc2, ↓r_goto, ↓J_X7_after_33, ↓I_X7_afterNow_60, ↓L_lst_n2, ↓L_lst_n2L, ↓L_lld_n2, ↓U_X7_after_0, ↓U_X7_after_16, ↓zthen_v, ↓zthen_0, zU_eq, zU_nc, zU_nj, e2, e3, c1]
theorem TrM_V1 {τ t : zM} {P : Int → Int → Int} (hV : V1 τ) (hP : PB P) (h : ∀ j : Int, j < 29 → t 61 j = τ 61 j) (hT : TrM t P (τ 61 1)) : V1 t := by
  obtain ⟨a1, a2, a3, a4⟩ := hV
  have e1 := h 1 (by omega)
  refine ⟨by rw [h 0 (by omega)]; exact a1, by rw [e1]; exact a2, fun q u a b c d => ?_, fun u a b => ?_⟩
  · rw [hT q u a b c (by omega)]
    exact hP q u a b c (by omega)
  · rw [e1] at b
    rw [h (5 + u) (by omega), h (11 + u) (by omega), h (17 + u) (by omega), h (23 + u) (by omega)]
    exact a4 u a b
theorem orN_bd {x : Int} (h : -1 ≤ x ∧ x < 6) : -5 ≤ orN x ∧ orN x < 6 := by
  unfold orN
  split <;> omega
def FrH (τ t : zM) : Prop := ∀ c j : Int, (c < 60 ∨ (60 < c ∧ c < 63) ∨ 64 < c ∨ (c = 60 ∧ (j < 5 ∨ 10 < j))) → t c j = τ c j
def SameH (k : Int → zV) (σ τ : zM) (xc xm : Option (Option zV × zM)) : Prop := ∃ r σ1 τ1, xc = some (some (k r), σ1) ∧ xm = some (some (k r), τ1) ∧ RelA σ1 τ1 ∧ FrT σ σ1 ∧ FrH τ τ1
set_option maxRecDepth 20000 in
set_option maxHeartbeats 4000000 in
theorem op_after {σ τ : zM} {w : Int} (RR : RelA σ τ) (hw : -2147483648 ≤ w ∧ w < 2147483648) : SameH vL σ τ (zcall 74 [vR 0, vI w] σ) (zcall 179 [vR 60, vI w] τ) := by
  have R := RR.1
  have hn := R.n
  have hm := R.m
  have hM := R.evM
  by_cases q1 : 0 ≤ w ∧ w ≤ 2
  · have m1 := m_in_t (σ := τ) (v := w) (lo := 0) (hi := 2) (by omega)
    have hP0 : PB (fun q u => σ (3 + q) u) := fun q u a b c d => R.ptr q u a b c d
    obtain ⟨s1, F1, T1, E1⟩ := c_af_loop (w := w) R (σ 11 2).toNat 0 (cpP σ 2 40) (fun q u => σ (3 + q) u) hP0 (by omega) (by omega) (fun c j h => cpP_nc _ _ _ _ _ (by omega)) (fun q u a b c d => cpP_tr ⟨a, b⟩ ⟨c, d⟩)
    have E2 := fun z => m_af2_loop (w := w) (z := z) R (σ 11 2).toNat 0 (zCpy τ 61 0 63 0 82) (fun q u => σ (3 + q) u) hP0 (by omega) (by omega) ⟨fun c j h => zCpy_nc _ _ _ _ _ _ _ _ (by omega), fun j a b => by
      rw [zCpy_in _ _ _ _ _ _ _ (by omega)]
      congr 1
      omega⟩ (fun q u a b c d => by rw [zCpy_nc _ _ _ _ _ _ _ _ (by omega)]; exact R.pt q u a b c d)
    obtain ⟨t1, F2, T2, E2⟩ := E2 vU
    have hPB := evP_PB (N := σ 1 0) (M := σ 1 1) (L := σ 12) (E := σ 13) (σ 11 2).toNat 0 _ hP0
    generalize evP (σ 1 0) (σ 1 1) (σ 12) (σ 13) 0 (σ 11 2).toNat (fun q u => σ (3 + q) u) = P at T1 T2 hPB
    have hV1 : V1 t1 := TrM_V1 (P := P) (Rel1_V1 R) hPB (fun j h => F2.1 _ _ (by omega)) (by rw [hm.2.2]; exact T2)
    have et : t1 61 1 = σ 1 1 := by rw [F2.1 _ _ (by omega)]; exact hm.2.2
    have es : s1 1 1 = σ 1 1 := F1 _ _ (by omega)
    have ho1 : Ow6 s1 := fun u a b => by rw [F1 _ _ (by omega)]; exact RR.2.1 u a b
    have hF1 : Fl t1 := fun u a b => by rw [F2.1 _ _ (by omega)]; exact RR.2.2 u a b
    have BK : ∀ t2 : zM, (∀ c j : Int, (c < 60 ∨ (60 < c ∧ c < 64) ∨ 64 < c ∨ (c = 60 ∧ (j < 5 ∨ 10 < j))) → t2 c j = t1 c j) → (∀ j, zCpy t2 63 0 61 0 82 61 j = τ 61 j) ∧ FrH τ (zCpy t2 63 0 61 0 82) := fun t2 G => by
      have k : ∀ j, zCpy t2 63 0 61 0 82 61 j = τ 61 j := fun j => by
        by_cases g : 0 ≤ j ∧ j < 82
        · rw [zCpy_in _ _ _ _ _ _ _ (by omega), G _ _ (by omega), F2.2 _ (by omega) (by omega)]
          congr 1
          omega
        · rw [zCpy_out _ _ _ _ _ _ _ (by omega), G _ _ (by omega), F2.1 _ _ (by omega)]
      refine ⟨k, fun c j h => ?_⟩
      by_cases g : c = 61
      · subst g; exact k j
      · rw [zCpy_nc _ _ _ _ _ _ _ _ (by omega), G _ _ (by omega), F2.1 _ _ (by omega)]
    rcases wo_tr ho1 hF1 hV1 et (fun q u a b c d => ⟨T1 q u a b c d, hPB q u a b c d⟩) T2 with ⟨s2, c3, m3, Ro, G1⟩ | ⟨s2, t2, c3, m3, Ro, RF, G1, G2, A, h331⟩
    · obtain ⟨k1, k2⟩ := BK t1 (fun _ _ _ => rfl)
      have m4 : zcall 178 [vR 60, vI w] t1 = some (some (vL (-9223372036854775808)), t1) := by
        rw [S_X7_afterNow]
        simp (disch := first | exact z_tt rfl | assumption | omega | (simp (disch := omega) only [zU_eq, zU_nc, zU_nj]; omega)) only [↓L_ald_n0, ↓r_iconst, ↓I_X7_adjusts_60, ↓r_ifne_t, ↓r_ifne_f, ↓J_X7_afterNow_13, ↓r_ldc2w, ↓r_lreturn, ↓L_ild_n1, ↓r_icne_t, ↓r_icne_f, ↓J_X7_afterNow_29, ↓F_g60_5, ↓I_X7_orNobody, ↓r_i2l, ↓r_goto, ↓J_X7_afterNow_35, ↓I_X7_alikeOf_60, ↓U_X7_afterNow_0, ↓U_X7_afterNow_13, ↓U_X7_afterNow_29, ↓U_X7_afterNow_35, ↓zthen_v, ↓zthen_0, zU_eq, zU_nc, zU_nj, m3]
      refine ⟨(-9223372036854775808), s2, zCpy t1 63 0 61 0 82, ?_, ?_, ⟨Rel1_fr R (fun c j a b => by rw [G1 _ _ (by omega), F1 _ _ (by omega)]) k1, Ro, fun u a b => by rw [zCpy_nc _ _ _ _ _ _ _ _ (by omega)]; exact hF1 u a b⟩, fun c j h => by rw [G1 _ _ (by omega), F1 _ _ (by omega)], k2⟩
      · rw [S_X6_after]
        simp (disch := first | exact z_tt rfl | assumption | omega | (simp (disch := omega) only [zU_eq, zU_nc, zU_nj]; omega)) only [↓L_ild_n1, ↓r_iflt_t, ↓r_iflt_f, ↓J_X6_after_9, ↓r_iconst, ↓r_icle_t, ↓r_icle_f, ↓J_X6_after_13, ↓r_ldc2w, ↓r_lreturn, ↓L_ald_n0, ↓F_g0_0, ↓F_g1_2, ↓F_g17_2, ↓F_g0_5, ↓I_X6_copyPoints, ↓L_ist_n2, ↓L_ist_n2L, ↓L_ild_n2, ↓F_g1_9, ↓F_g17_9, ↓F_g8_2, ↓F_g11_2, ↓F_g14_2, ↓F_g24_2, ↓F_g27_2, ↓F_g30_2, ↓r_icge_t, ↓r_icge_f, ↓J_X6_after_77, ↓F_g8_0, ↓F_g11_0, ↓F_g14_0, ↓F_g24_0, ↓F_g27_0, ↓F_g30_0, ↓A_g3, ↓A_g4, ↓A_g5, ↓A_g6, ↓A_g7, ↓A_g9, ↓A_g10, ↓A_g12, ↓A_g13, ↓A_g15, ↓A_g16, ↓A_g19, ↓A_g20, ↓A_g21, ↓A_g22, ↓A_g23, ↓A_g25, ↓A_g26, ↓A_g28, ↓A_g29, ↓A_g31, ↓A_g32, ↓A_g34, ↓A_g36, ↓A_g37, ↓A_g38, ↓A_g39, ↓A_g41, ↓A_g42, ↓A_g43, ↓A_g44, ↓A_g61, ↓A_g62, ↓A_g63, ↓A_g65, ↓A_g66, ↓A_g67, ↓A_g68, ↓A_g69, ↓A_g70, ↓A_gN, ↓A_gT, ↓A_gC, ↓F_g8_1, ↓F_g11_1, ↓F_g14_1, ↓F_g24_1, ↓F_g27_1, ↓F_g30_1, ↓I_X6_letHappen_0, ↓L_iinc2, ↓r_goto, ↓J_X6_after_29, ↓F_g0_3, ↓F_g1_1, ↓F_g17_1, ↓I_X0_workOut_33, ↓r_ifne_t, ↓r_ifne_f, ↓J_X6_after_104, ↓r_icne_t, ↓r_icne_f, ↓J_X6_after_121, ↓F_g33_5, ↓I_X6_orNoSuch, ↓r_i2l, ↓F_g33_8, ↓F_g33_9, ↓I_X6_inLowestTerms, ↓U_X6_after_0, ↓U_X6_after_9, ↓U_X6_after_13, ↓U_X6_after_104, ↓U_X6_after_121, ↓zthen_v, ↓zthen_0, zU_eq, zU_nc, zU_nj, c_X6_copyPoints_2_40]
        rw [E1, U_X6_after_77]
        simp (disch := first | exact z_tt rfl | assumption | omega | (simp (disch := omega) only [zU_eq, zU_nc, zU_nj]; omega)) only [↓L_ild_n1, ↓r_iflt_t, ↓r_iflt_f, ↓J_X6_after_9, ↓r_iconst, ↓r_icle_t, ↓r_icle_f, ↓J_X6_after_13, ↓r_ldc2w, ↓r_lreturn, ↓L_ald_n0, ↓F_g0_0, ↓F_g1_2, ↓F_g17_2, ↓F_g0_5, ↓I_X6_copyPoints, ↓L_ist_n2, ↓L_ist_n2L, ↓L_ild_n2, ↓F_g1_9, ↓F_g17_9, ↓F_g8_2, ↓F_g11_2, ↓F_g14_2, ↓F_g24_2, ↓F_g27_2, ↓F_g30_2, ↓r_icge_t, ↓r_icge_f, ↓J_X6_after_77, ↓F_g8_0, ↓F_g11_0, ↓F_g14_0, ↓F_g24_0, ↓F_g27_0, ↓F_g30_0, ↓A_g3, ↓A_g4, ↓A_g5, ↓A_g6, ↓A_g7, ↓A_g9, ↓A_g10, ↓A_g12, ↓A_g13, ↓A_g15, ↓A_g16, ↓A_g19, ↓A_g20, ↓A_g21, ↓A_g22, ↓A_g23, ↓A_g25, ↓A_g26, ↓A_g28, ↓A_g29, ↓A_g31, ↓A_g32, ↓A_g34, ↓A_g36, ↓A_g37, ↓A_g38, ↓A_g39, ↓A_g41, ↓A_g42, ↓A_g43, ↓A_g44, ↓A_g61, ↓A_g62, ↓A_g63, ↓A_g65, ↓A_g66, ↓A_g67, ↓A_g68, ↓A_g69, ↓A_g70, ↓A_gN, ↓A_gT, ↓A_gC, ↓F_g8_1, ↓F_g11_1, ↓F_g14_1, ↓F_g24_1, ↓F_g27_1, ↓F_g30_1, ↓I_X6_letHappen_0, ↓L_iinc2, ↓r_goto, ↓J_X6_after_29, ↓F_g0_3, ↓F_g1_1, ↓F_g17_1, ↓I_X0_workOut_33, ↓r_ifne_t, ↓r_ifne_f, ↓J_X6_after_104, ↓r_icne_t, ↓r_icne_f, ↓J_X6_after_121, ↓F_g33_5, ↓I_X6_orNoSuch, ↓r_i2l, ↓F_g33_8, ↓F_g33_9, ↓I_X6_inLowestTerms, ↓U_X6_after_0, ↓U_X6_after_9, ↓U_X6_after_13, ↓U_X6_after_104, ↓U_X6_after_121, ↓zthen_v, ↓zthen_0, zU_eq, zU_nc, zU_nj, es, c3]
      · rw [S_X7_after]
        simp (disch := first | exact z_tt rfl | assumption | omega | (simp (disch := omega) only [zU_eq, zU_nc, zU_nj]; omega)) only [↓L_ild_n1, ↓r_i2l, ↓r_lconst, ↓r_ldc2w, ↓I_X7_in, ↓r_ifne_t, ↓r_ifne_f, ↓J_X7_after_16, ↓r_lreturn, ↓L_ald_n0, ↓F_g60_0, ↓r_iconst, ↓F_g60_2, ↓r_bipush, ↓A_c6, ↓A_c5, ↓A_c8, ↓A_c82, ↓A_c60, ↓A_c360, ↓L_ist_n2, ↓L_ist_n2L, ↓L_ild_n2, ↓A_g3, ↓A_g4, ↓A_g5, ↓A_g6, ↓A_g7, ↓A_g9, ↓A_g10, ↓A_g12, ↓A_g13, ↓A_g15, ↓A_g16, ↓A_g19, ↓A_g20, ↓A_g21, ↓A_g22, ↓A_g23, ↓A_g25, ↓A_g26, ↓A_g28, ↓A_g29, ↓A_g31, ↓A_g32, ↓A_g34, ↓A_g36, ↓A_g37, ↓A_g38, ↓A_g39, ↓A_g41, ↓A_g42, ↓A_g43, ↓A_g44, ↓A_g61, ↓A_g62, ↓A_g63, ↓A_g65, ↓A_g66, ↓A_g67, ↓A_g68, ↓A_g69, ↓A_g70, ↓A_gN, ↓A_gT, ↓A_gC, ↓r_icge_t, ↓r_icge_f, ↓J_X7_after_77, ↓r_imul, ↓r_iadd, ↓I_X7_happens_60, ↓L_iinc2, ↓r_goto, ↓J_X7_after_33, ↓I_X7_afterNow_60, ↓L_lst_n2, ↓L_lst_n2L, ↓L_lld_n2, ↓U_X7_after_0, ↓U_X7_after_16, ↓zthen_v, ↓zthen_0, zU_eq, zU_nc, zU_nj, m1]
        rw [E2, U_X7_after_77]
        simp (disch := first | exact z_tt rfl | assumption | omega | (simp (disch := omega) only [zU_eq, zU_nc, zU_nj]; omega)) only [↓L_ild_n1, ↓r_i2l, ↓r_lconst, ↓r_ldc2w, ↓I_X7_in, ↓r_ifne_t, ↓r_ifne_f, ↓J_X7_after_16, ↓r_lreturn, ↓L_ald_n0, ↓F_g60_0, ↓r_iconst, ↓F_g60_2, ↓r_bipush, ↓A_c6, ↓A_c5, ↓A_c8, ↓A_c82, ↓A_c60, ↓A_c360, ↓L_ist_n2, ↓L_ist_n2L, ↓L_ild_n2, ↓A_g3, ↓A_g4, ↓A_g5, ↓A_g6, ↓A_g7, ↓A_g9, ↓A_g10, ↓A_g12, ↓A_g13, ↓A_g15, ↓A_g16, ↓A_g19, ↓A_g20, ↓A_g21, ↓A_g22, ↓A_g23, ↓A_g25, ↓A_g26, ↓A_g28, ↓A_g29, ↓A_g31, ↓A_g32, ↓A_g34, ↓A_g36, ↓A_g37, ↓A_g38, ↓A_g39, ↓A_g41, ↓A_g42, ↓A_g43, ↓A_g44, ↓A_g61, ↓A_g62, ↓A_g63, ↓A_g65, ↓A_g66, ↓A_g67, ↓A_g68, ↓A_g69, ↓A_g70, ↓A_gN, ↓A_gT, ↓A_gC, ↓r_icge_t, ↓r_icge_f, ↓J_X7_after_77, ↓r_imul, ↓r_iadd, ↓I_X7_happens_60, ↓L_iinc2, ↓r_goto, ↓J_X7_after_33, ↓I_X7_afterNow_60, ↓L_lst_n2, ↓L_lst_n2L, ↓L_lld_n2, ↓U_X7_after_0, ↓U_X7_after_16, ↓zthen_v, ↓zthen_0, zU_eq, zU_nc, zU_nj, m4]
    · have A0 := A
      obtain ⟨a1, ⟨t4, t5, t6, t7, t2', t3⟩, a3, a4, l1, l2, l3, l4, l5⟩ := A0
      obtain ⟨k1, k2⟩ := BK t2 G2
      have hV2 : V1 t2 := V1_of hV1 (funext fun j => G2 61 j (by omega))
      have m5 := m_alikeOf (s := s2) (τ := t2) (w := w) hV2 RF (by rw [G2 _ _ (by omega)]; exact et) (by omega) (by omega) A hw
      have c5 := c_X6_inLowestTerms (σ := s2) (a := s2 33 8) (b := s2 33 9) (part := w) (by omega) (by omega) (by omega)
      have c6 := c_X6_orNoSuch (σ := s2) (p := s2 33 5) (by omega)
      have m6 := m_orNobody (σ := t2) (p := t2 60 5) (by omega)
      rw [orNM (by omega), ← t5] at m6
      have ob := orN_bd (x := s2 33 5) (by omega)
      have R2 : RelA s2 (zCpy t2 63 0 61 0 82) := ⟨Rel1_fr R (fun c j a b => by rw [G1 _ _ (by omega), F1 _ _ (by omega)]) k1, Ro, fun u a b => by rw [zCpy_nc _ _ _ _ _ _ _ _ (by omega)]; exact RF u a b⟩
      have F3 : FrT σ s2 := fun c j h => by rw [G1 _ _ (by omega), F1 _ _ (by omega)]
      by_cases q2 : w = 2
      · have m4 : zcall 178 [vR 60, vI w] t1 = some (some (vL (orN (s2 33 5))), t2) := by
          rw [S_X7_afterNow]
          simp (disch := first | exact z_tt rfl | assumption | omega | (simp (disch := omega) only [zU_eq, zU_nc, zU_nj]; omega)) only [↓L_ald_n0, ↓r_iconst, ↓I_X7_adjusts_60, ↓r_ifne_t, ↓r_ifne_f, ↓J_X7_afterNow_13, ↓r_ldc2w, ↓r_lreturn, ↓L_ild_n1, ↓r_icne_t, ↓r_icne_f, ↓J_X7_afterNow_29, ↓F_g60_5, ↓I_X7_orNobody, ↓r_i2l, ↓r_goto, ↓J_X7_afterNow_35, ↓I_X7_alikeOf_60, ↓U_X7_afterNow_0, ↓U_X7_afterNow_13, ↓U_X7_afterNow_29, ↓U_X7_afterNow_35, ↓zthen_v, ↓zthen_0, zU_eq, zU_nc, zU_nj, m3, ← t5, m6]
        refine ⟨(orN (s2 33 5)), s2, zCpy t2 63 0 61 0 82, ?_, ?_, R2, F3, k2⟩
        · rw [S_X6_after]
          simp (disch := first | exact z_tt rfl | assumption | omega | (simp (disch := omega) only [zU_eq, zU_nc, zU_nj]; omega)) only [↓L_ild_n1, ↓r_iflt_t, ↓r_iflt_f, ↓J_X6_after_9, ↓r_iconst, ↓r_icle_t, ↓r_icle_f, ↓J_X6_after_13, ↓r_ldc2w, ↓r_lreturn, ↓L_ald_n0, ↓F_g0_0, ↓F_g1_2, ↓F_g17_2, ↓F_g0_5, ↓I_X6_copyPoints, ↓L_ist_n2, ↓L_ist_n2L, ↓L_ild_n2, ↓F_g1_9, ↓F_g17_9, ↓F_g8_2, ↓F_g11_2, ↓F_g14_2, ↓F_g24_2, ↓F_g27_2, ↓F_g30_2, ↓r_icge_t, ↓r_icge_f, ↓J_X6_after_77, ↓F_g8_0, ↓F_g11_0, ↓F_g14_0, ↓F_g24_0, ↓F_g27_0, ↓F_g30_0, ↓A_g3, ↓A_g4, ↓A_g5, ↓A_g6, ↓A_g7, ↓A_g9, ↓A_g10, ↓A_g12, ↓A_g13, ↓A_g15, ↓A_g16, ↓A_g19, ↓A_g20, ↓A_g21, ↓A_g22, ↓A_g23, ↓A_g25, ↓A_g26, ↓A_g28, ↓A_g29, ↓A_g31, ↓A_g32, ↓A_g34, ↓A_g36, ↓A_g37, ↓A_g38, ↓A_g39, ↓A_g41, ↓A_g42, ↓A_g43, ↓A_g44, ↓A_g61, ↓A_g62, ↓A_g63, ↓A_g65, ↓A_g66, ↓A_g67, ↓A_g68, ↓A_g69, ↓A_g70, ↓A_gN, ↓A_gT, ↓A_gC, ↓F_g8_1, ↓F_g11_1, ↓F_g14_1, ↓F_g24_1, ↓F_g27_1, ↓F_g30_1, ↓I_X6_letHappen_0, ↓L_iinc2, ↓r_goto, ↓J_X6_after_29, ↓F_g0_3, ↓F_g1_1, ↓F_g17_1, ↓I_X0_workOut_33, ↓r_ifne_t, ↓r_ifne_f, ↓J_X6_after_104, ↓r_icne_t, ↓r_icne_f, ↓J_X6_after_121, ↓F_g33_5, ↓I_X6_orNoSuch, ↓r_i2l, ↓F_g33_8, ↓F_g33_9, ↓I_X6_inLowestTerms, ↓U_X6_after_0, ↓U_X6_after_9, ↓U_X6_after_13, ↓U_X6_after_104, ↓U_X6_after_121, ↓zthen_v, ↓zthen_0, zU_eq, zU_nc, zU_nj, c_X6_copyPoints_2_40]
          rw [E1, U_X6_after_77]
          simp (disch := first | exact z_tt rfl | assumption | omega | (simp (disch := omega) only [zU_eq, zU_nc, zU_nj]; omega)) only [↓L_ild_n1, ↓r_iflt_t, ↓r_iflt_f, ↓J_X6_after_9, ↓r_iconst, ↓r_icle_t, ↓r_icle_f, ↓J_X6_after_13, ↓r_ldc2w, ↓r_lreturn, ↓L_ald_n0, ↓F_g0_0, ↓F_g1_2, ↓F_g17_2, ↓F_g0_5, ↓I_X6_copyPoints, ↓L_ist_n2, ↓L_ist_n2L, ↓L_ild_n2, ↓F_g1_9, ↓F_g17_9, ↓F_g8_2, ↓F_g11_2, ↓F_g14_2, ↓F_g24_2, ↓F_g27_2, ↓F_g30_2, ↓r_icge_t, ↓r_icge_f, ↓J_X6_after_77, ↓F_g8_0, ↓F_g11_0, ↓F_g14_0, ↓F_g24_0, ↓F_g27_0, ↓F_g30_0, ↓A_g3, ↓A_g4, ↓A_g5, ↓A_g6, ↓A_g7, ↓A_g9, ↓A_g10, ↓A_g12, ↓A_g13, ↓A_g15, ↓A_g16, ↓A_g19, ↓A_g20, ↓A_g21, ↓A_g22, ↓A_g23, ↓A_g25, ↓A_g26, ↓A_g28, ↓A_g29, ↓A_g31, ↓A_g32, ↓A_g34, ↓A_g36, ↓A_g37, ↓A_g38, ↓A_g39, ↓A_g41, ↓A_g42, ↓A_g43, ↓A_g44, ↓A_g61, ↓A_g62, ↓A_g63, ↓A_g65, ↓A_g66, ↓A_g67, ↓A_g68, ↓A_g69, ↓A_g70, ↓A_gN, ↓A_gT, ↓A_gC, ↓F_g8_1, ↓F_g11_1, ↓F_g14_1, ↓F_g24_1, ↓F_g27_1, ↓F_g30_1, ↓I_X6_letHappen_0, ↓L_iinc2, ↓r_goto, ↓J_X6_after_29, ↓F_g0_3, ↓F_g1_1, ↓F_g17_1, ↓I_X0_workOut_33, ↓r_ifne_t, ↓r_ifne_f, ↓J_X6_after_104, ↓r_icne_t, ↓r_icne_f, ↓J_X6_after_121, ↓F_g33_5, ↓I_X6_orNoSuch, ↓r_i2l, ↓F_g33_8, ↓F_g33_9, ↓I_X6_inLowestTerms, ↓U_X6_after_0, ↓U_X6_after_9, ↓U_X6_after_13, ↓U_X6_after_104, ↓U_X6_after_121, ↓zthen_v, ↓zthen_0, zU_eq, zU_nc, zU_nj, es, c3, c6]
        · rw [S_X7_after]
          simp (disch := first | exact z_tt rfl | assumption | omega | (simp (disch := omega) only [zU_eq, zU_nc, zU_nj]; omega)) only [↓L_ild_n1, ↓r_i2l, ↓r_lconst, ↓r_ldc2w, ↓I_X7_in, ↓r_ifne_t, ↓r_ifne_f, ↓J_X7_after_16, ↓r_lreturn, ↓L_ald_n0, ↓F_g60_0, ↓r_iconst, ↓F_g60_2, ↓r_bipush, ↓A_c6, ↓A_c5, ↓A_c8, ↓A_c82, ↓A_c60, ↓A_c360, ↓L_ist_n2, ↓L_ist_n2L, ↓L_ild_n2, ↓A_g3, ↓A_g4, ↓A_g5, ↓A_g6, ↓A_g7, ↓A_g9, ↓A_g10, ↓A_g12, ↓A_g13, ↓A_g15, ↓A_g16, ↓A_g19, ↓A_g20, ↓A_g21, ↓A_g22, ↓A_g23, ↓A_g25, ↓A_g26, ↓A_g28, ↓A_g29, ↓A_g31, ↓A_g32, ↓A_g34, ↓A_g36, ↓A_g37, ↓A_g38, ↓A_g39, ↓A_g41, ↓A_g42, ↓A_g43, ↓A_g44, ↓A_g61, ↓A_g62, ↓A_g63, ↓A_g65, ↓A_g66, ↓A_g67, ↓A_g68, ↓A_g69, ↓A_g70, ↓A_gN, ↓A_gT, ↓A_gC, ↓r_icge_t, ↓r_icge_f, ↓J_X7_after_77, ↓r_imul, ↓r_iadd, ↓I_X7_happens_60, ↓L_iinc2, ↓r_goto, ↓J_X7_after_33, ↓I_X7_afterNow_60, ↓L_lst_n2, ↓L_lst_n2L, ↓L_lld_n2, ↓U_X7_after_0, ↓U_X7_after_16, ↓zthen_v, ↓zthen_0, zU_eq, zU_nc, zU_nj, m1]
          rw [E2, U_X7_after_77]
          simp (disch := first | exact z_tt rfl | assumption | omega | (simp (disch := omega) only [zU_eq, zU_nc, zU_nj]; omega)) only [↓L_ild_n1, ↓r_i2l, ↓r_lconst, ↓r_ldc2w, ↓I_X7_in, ↓r_ifne_t, ↓r_ifne_f, ↓J_X7_after_16, ↓r_lreturn, ↓L_ald_n0, ↓F_g60_0, ↓r_iconst, ↓F_g60_2, ↓r_bipush, ↓A_c6, ↓A_c5, ↓A_c8, ↓A_c82, ↓A_c60, ↓A_c360, ↓L_ist_n2, ↓L_ist_n2L, ↓L_ild_n2, ↓A_g3, ↓A_g4, ↓A_g5, ↓A_g6, ↓A_g7, ↓A_g9, ↓A_g10, ↓A_g12, ↓A_g13, ↓A_g15, ↓A_g16, ↓A_g19, ↓A_g20, ↓A_g21, ↓A_g22, ↓A_g23, ↓A_g25, ↓A_g26, ↓A_g28, ↓A_g29, ↓A_g31, ↓A_g32, ↓A_g34, ↓A_g36, ↓A_g37, ↓A_g38, ↓A_g39, ↓A_g41, ↓A_g42, ↓A_g43, ↓A_g44, ↓A_g61, ↓A_g62, ↓A_g63, ↓A_g65, ↓A_g66, ↓A_g67, ↓A_g68, ↓A_g69, ↓A_g70, ↓A_gN, ↓A_gT, ↓A_gC, ↓r_icge_t, ↓r_icge_f, ↓J_X7_after_77, ↓r_imul, ↓r_iadd, ↓I_X7_happens_60, ↓L_iinc2, ↓r_goto, ↓J_X7_after_33, ↓I_X7_afterNow_60, ↓L_lst_n2, ↓L_lst_n2L, ↓L_lld_n2, ↓U_X7_after_0, ↓U_X7_after_16, ↓zthen_v, ↓zthen_0, zU_eq, zU_nc, zU_nj, m4]
      · have m4 : zcall 178 [vR 60, vI w] t1 = some (some (vL (lowT (s2 33 8) (s2 33 9) w)), t2) := by
          rw [S_X7_afterNow]
          simp (disch := first | exact z_tt rfl | assumption | omega | (simp (disch := omega) only [zU_eq, zU_nc, zU_nj]; omega)) only [↓L_ald_n0, ↓r_iconst, ↓I_X7_adjusts_60, ↓r_ifne_t, ↓r_ifne_f, ↓J_X7_afterNow_13, ↓r_ldc2w, ↓r_lreturn, ↓L_ild_n1, ↓r_icne_t, ↓r_icne_f, ↓J_X7_afterNow_29, ↓F_g60_5, ↓I_X7_orNobody, ↓r_i2l, ↓r_goto, ↓J_X7_afterNow_35, ↓I_X7_alikeOf_60, ↓U_X7_afterNow_0, ↓U_X7_afterNow_13, ↓U_X7_afterNow_29, ↓U_X7_afterNow_35, ↓zthen_v, ↓zthen_0, zU_eq, zU_nc, zU_nj, m3, m5]
        refine ⟨(lowT (s2 33 8) (s2 33 9) w), s2, zCpy t2 63 0 61 0 82, ?_, ?_, R2, F3, k2⟩
        · rw [S_X6_after]
          simp (disch := first | exact z_tt rfl | assumption | omega | (simp (disch := omega) only [zU_eq, zU_nc, zU_nj]; omega)) only [↓L_ild_n1, ↓r_iflt_t, ↓r_iflt_f, ↓J_X6_after_9, ↓r_iconst, ↓r_icle_t, ↓r_icle_f, ↓J_X6_after_13, ↓r_ldc2w, ↓r_lreturn, ↓L_ald_n0, ↓F_g0_0, ↓F_g1_2, ↓F_g17_2, ↓F_g0_5, ↓I_X6_copyPoints, ↓L_ist_n2, ↓L_ist_n2L, ↓L_ild_n2, ↓F_g1_9, ↓F_g17_9, ↓F_g8_2, ↓F_g11_2, ↓F_g14_2, ↓F_g24_2, ↓F_g27_2, ↓F_g30_2, ↓r_icge_t, ↓r_icge_f, ↓J_X6_after_77, ↓F_g8_0, ↓F_g11_0, ↓F_g14_0, ↓F_g24_0, ↓F_g27_0, ↓F_g30_0, ↓A_g3, ↓A_g4, ↓A_g5, ↓A_g6, ↓A_g7, ↓A_g9, ↓A_g10, ↓A_g12, ↓A_g13, ↓A_g15, ↓A_g16, ↓A_g19, ↓A_g20, ↓A_g21, ↓A_g22, ↓A_g23, ↓A_g25, ↓A_g26, ↓A_g28, ↓A_g29, ↓A_g31, ↓A_g32, ↓A_g34, ↓A_g36, ↓A_g37, ↓A_g38, ↓A_g39, ↓A_g41, ↓A_g42, ↓A_g43, ↓A_g44, ↓A_g61, ↓A_g62, ↓A_g63, ↓A_g65, ↓A_g66, ↓A_g67, ↓A_g68, ↓A_g69, ↓A_g70, ↓A_gN, ↓A_gT, ↓A_gC, ↓F_g8_1, ↓F_g11_1, ↓F_g14_1, ↓F_g24_1, ↓F_g27_1, ↓F_g30_1, ↓I_X6_letHappen_0, ↓L_iinc2, ↓r_goto, ↓J_X6_after_29, ↓F_g0_3, ↓F_g1_1, ↓F_g17_1, ↓I_X0_workOut_33, ↓r_ifne_t, ↓r_ifne_f, ↓J_X6_after_104, ↓r_icne_t, ↓r_icne_f, ↓J_X6_after_121, ↓F_g33_5, ↓I_X6_orNoSuch, ↓r_i2l, ↓F_g33_8, ↓F_g33_9, ↓I_X6_inLowestTerms, ↓U_X6_after_0, ↓U_X6_after_9, ↓U_X6_after_13, ↓U_X6_after_104, ↓U_X6_after_121, ↓zthen_v, ↓zthen_0, zU_eq, zU_nc, zU_nj, c_X6_copyPoints_2_40]
          rw [E1, U_X6_after_77]
          simp (disch := first | exact z_tt rfl | assumption | omega | (simp (disch := omega) only [zU_eq, zU_nc, zU_nj]; omega)) only [↓L_ild_n1, ↓r_iflt_t, ↓r_iflt_f, ↓J_X6_after_9, ↓r_iconst, ↓r_icle_t, ↓r_icle_f, ↓J_X6_after_13, ↓r_ldc2w, ↓r_lreturn, ↓L_ald_n0, ↓F_g0_0, ↓F_g1_2, ↓F_g17_2, ↓F_g0_5, ↓I_X6_copyPoints, ↓L_ist_n2, ↓L_ist_n2L, ↓L_ild_n2, ↓F_g1_9, ↓F_g17_9, ↓F_g8_2, ↓F_g11_2, ↓F_g14_2, ↓F_g24_2, ↓F_g27_2, ↓F_g30_2, ↓r_icge_t, ↓r_icge_f, ↓J_X6_after_77, ↓F_g8_0, ↓F_g11_0, ↓F_g14_0, ↓F_g24_0, ↓F_g27_0, ↓F_g30_0, ↓A_g3, ↓A_g4, ↓A_g5, ↓A_g6, ↓A_g7, ↓A_g9, ↓A_g10, ↓A_g12, ↓A_g13, ↓A_g15, ↓A_g16, ↓A_g19, ↓A_g20, ↓A_g21, ↓A_g22, ↓A_g23, ↓A_g25, ↓A_g26, ↓A_g28, ↓A_g29, ↓A_g31, ↓A_g32, ↓A_g34, ↓A_g36, ↓A_g37, ↓A_g38, ↓A_g39, ↓A_g41, ↓A_g42, ↓A_g43, ↓A_g44, ↓A_g61, ↓A_g62, ↓A_g63, ↓A_g65, ↓A_g66, ↓A_g67, ↓A_g68, ↓A_g69, ↓A_g70, ↓A_gN, ↓A_gT, ↓A_gC, ↓F_g8_1, ↓F_g11_1, ↓F_g14_1, ↓F_g24_1, ↓F_g27_1, ↓F_g30_1, ↓I_X6_letHappen_0, ↓L_iinc2, ↓r_goto, ↓J_X6_after_29, ↓F_g0_3, ↓F_g1_1, ↓F_g17_1, ↓I_X0_workOut_33, ↓r_ifne_t, ↓r_ifne_f, ↓J_X6_after_104, ↓r_icne_t, ↓r_icne_f, ↓J_X6_after_121, ↓F_g33_5, ↓I_X6_orNoSuch, ↓r_i2l, ↓F_g33_8, ↓F_g33_9, ↓I_X6_inLowestTerms, ↓U_X6_after_0, ↓U_X6_after_9, ↓U_X6_after_13, ↓U_X6_after_104, ↓U_X6_after_121, ↓zthen_v, ↓zthen_0, zU_eq, zU_nc, zU_nj, es, c3, c5]
        · rw [S_X7_after]
          simp (disch := first | exact z_tt rfl | assumption | omega | (simp (disch := omega) only [zU_eq, zU_nc, zU_nj]; omega)) only [↓L_ild_n1, ↓r_i2l, ↓r_lconst, ↓r_ldc2w, ↓I_X7_in, ↓r_ifne_t, ↓r_ifne_f, ↓J_X7_after_16, ↓r_lreturn, ↓L_ald_n0, ↓F_g60_0, ↓r_iconst, ↓F_g60_2, ↓r_bipush, ↓A_c6, ↓A_c5, ↓A_c8, ↓A_c82, ↓A_c60, ↓A_c360, ↓L_ist_n2, ↓L_ist_n2L, ↓L_ild_n2, ↓A_g3, ↓A_g4, ↓A_g5, ↓A_g6, ↓A_g7, ↓A_g9, ↓A_g10, ↓A_g12, ↓A_g13, ↓A_g15, ↓A_g16, ↓A_g19, ↓A_g20, ↓A_g21, ↓A_g22, ↓A_g23, ↓A_g25, ↓A_g26, ↓A_g28, ↓A_g29, ↓A_g31, ↓A_g32, ↓A_g34, ↓A_g36, ↓A_g37, ↓A_g38, ↓A_g39, ↓A_g41, ↓A_g42, ↓A_g43, ↓A_g44, ↓A_g61, ↓A_g62, ↓A_g63, ↓A_g65, ↓A_g66, ↓A_g67, ↓A_g68, ↓A_g69, ↓A_g70, ↓A_gN, ↓A_gT, ↓A_gC, ↓r_icge_t, ↓r_icge_f, ↓J_X7_after_77, ↓r_imul, ↓r_iadd, ↓I_X7_happens_60, ↓L_iinc2, ↓r_goto, ↓J_X7_after_33, ↓I_X7_afterNow_60, ↓L_lst_n2, ↓L_lst_n2L, ↓L_lld_n2, ↓U_X7_after_0, ↓U_X7_after_16, ↓zthen_v, ↓zthen_0, zU_eq, zU_nc, zU_nj, m1]
          rw [E2, U_X7_after_77]
          simp (disch := first | exact z_tt rfl | assumption | omega | (simp (disch := omega) only [zU_eq, zU_nc, zU_nj]; omega)) only [↓L_ild_n1, ↓r_i2l, ↓r_lconst, ↓r_ldc2w, ↓I_X7_in, ↓r_ifne_t, ↓r_ifne_f, ↓J_X7_after_16, ↓r_lreturn, ↓L_ald_n0, ↓F_g60_0, ↓r_iconst, ↓F_g60_2, ↓r_bipush, ↓A_c6, ↓A_c5, ↓A_c8, ↓A_c82, ↓A_c60, ↓A_c360, ↓L_ist_n2, ↓L_ist_n2L, ↓L_ild_n2, ↓A_g3, ↓A_g4, ↓A_g5, ↓A_g6, ↓A_g7, ↓A_g9, ↓A_g10, ↓A_g12, ↓A_g13, ↓A_g15, ↓A_g16, ↓A_g19, ↓A_g20, ↓A_g21, ↓A_g22, ↓A_g23, ↓A_g25, ↓A_g26, ↓A_g28, ↓A_g29, ↓A_g31, ↓A_g32, ↓A_g34, ↓A_g36, ↓A_g37, ↓A_g38, ↓A_g39, ↓A_g41, ↓A_g42, ↓A_g43, ↓A_g44, ↓A_g61, ↓A_g62, ↓A_g63, ↓A_g65, ↓A_g66, ↓A_g67, ↓A_g68, ↓A_g69, ↓A_g70, ↓A_gN, ↓A_gT, ↓A_gC, ↓r_icge_t, ↓r_icge_f, ↓J_X7_after_77, ↓r_imul, ↓r_iadd, ↓I_X7_happens_60, ↓L_iinc2, ↓r_goto, ↓J_X7_after_33, ↓I_X7_afterNow_60, ↓L_lst_n2, ↓L_lst_n2L, ↓L_lld_n2, ↓U_X7_after_0, ↓U_X7_after_16, ↓zthen_v, ↓zthen_0, zU_eq, zU_nc, zU_nj, m4]
  · have m1 := m_in_f (σ := τ) (v := w) (lo := 0) (hi := 2) (by omega)
    refine ⟨(-9223372036854775808), σ, τ, ?_, ?_, RR, fun _ _ _ => rfl, fun _ _ _ => rfl⟩
    · rw [S_X6_after]
      by_cases q2 : w < 0
      · simp (disch := first | exact z_tt rfl | assumption | omega | (simp (disch := omega) only [zU_eq, zU_nc, zU_nj]; omega)) only [↓L_ild_n1, ↓r_iflt_t, ↓r_iflt_f, ↓J_X6_after_9, ↓r_iconst, ↓r_icle_t, ↓r_icle_f, ↓J_X6_after_13, ↓r_ldc2w, ↓r_lreturn, ↓L_ald_n0, ↓F_g0_0, ↓F_g1_2, ↓F_g17_2, ↓F_g0_5, ↓I_X6_copyPoints, ↓L_ist_n2, ↓L_ist_n2L, ↓L_ild_n2, ↓F_g1_9, ↓F_g17_9, ↓F_g8_2, ↓F_g11_2, ↓F_g14_2, ↓F_g24_2, ↓F_g27_2, ↓F_g30_2, ↓r_icge_t, ↓r_icge_f, ↓J_X6_after_77, ↓F_g8_0, ↓F_g11_0, ↓F_g14_0, ↓F_g24_0, ↓F_g27_0, ↓F_g30_0, ↓A_g3, ↓A_g4, ↓A_g5, ↓A_g6, ↓A_g7, ↓A_g9, ↓A_g10, ↓A_g12, ↓A_g13, ↓A_g15, ↓A_g16, ↓A_g19, ↓A_g20, ↓A_g21, ↓A_g22, ↓A_g23, ↓A_g25, ↓A_g26, ↓A_g28, ↓A_g29, ↓A_g31, ↓A_g32, ↓A_g34, ↓A_g36, ↓A_g37, ↓A_g38, ↓A_g39, ↓A_g41, ↓A_g42, ↓A_g43, ↓A_g44, ↓A_g61, ↓A_g62, ↓A_g63, ↓A_g65, ↓A_g66, ↓A_g67, ↓A_g68, ↓A_g69, ↓A_g70, ↓A_gN, ↓A_gT, ↓A_gC, ↓F_g8_1, ↓F_g11_1, ↓F_g14_1, ↓F_g24_1, ↓F_g27_1, ↓F_g30_1, ↓I_X6_letHappen_0, ↓L_iinc2, ↓r_goto, ↓J_X6_after_29, ↓F_g0_3, ↓F_g1_1, ↓F_g17_1, ↓I_X0_workOut_33, ↓r_ifne_t, ↓r_ifne_f, ↓J_X6_after_104, ↓r_icne_t, ↓r_icne_f, ↓J_X6_after_121, ↓F_g33_5, ↓I_X6_orNoSuch, ↓r_i2l, ↓F_g33_8, ↓F_g33_9, ↓I_X6_inLowestTerms, ↓U_X6_after_0, ↓U_X6_after_9, ↓U_X6_after_13, ↓U_X6_after_77, ↓U_X6_after_104, ↓U_X6_after_121, ↓zthen_v, ↓zthen_0, zU_eq, zU_nc, zU_nj]
      · simp (disch := first | exact z_tt rfl | assumption | omega | (simp (disch := omega) only [zU_eq, zU_nc, zU_nj]; omega)) only [↓L_ild_n1, ↓r_iflt_t, ↓r_iflt_f, ↓J_X6_after_9, ↓r_iconst, ↓r_icle_t, ↓r_icle_f, ↓J_X6_after_13, ↓r_ldc2w, ↓r_lreturn, ↓L_ald_n0, ↓F_g0_0, ↓F_g1_2, ↓F_g17_2, ↓F_g0_5, ↓I_X6_copyPoints, ↓L_ist_n2, ↓L_ist_n2L, ↓L_ild_n2, ↓F_g1_9, ↓F_g17_9, ↓F_g8_2, ↓F_g11_2, ↓F_g14_2, ↓F_g24_2, ↓F_g27_2, ↓F_g30_2, ↓r_icge_t, ↓r_icge_f, ↓J_X6_after_77, ↓F_g8_0, ↓F_g11_0, ↓F_g14_0, ↓F_g24_0, ↓F_g27_0, ↓F_g30_0, ↓A_g3, ↓A_g4, ↓A_g5, ↓A_g6, ↓A_g7, ↓A_g9, ↓A_g10, ↓A_g12, ↓A_g13, ↓A_g15, ↓A_g16, ↓A_g19, ↓A_g20, ↓A_g21, ↓A_g22, ↓A_g23, ↓A_g25, ↓A_g26, ↓A_g28, ↓A_g29, ↓A_g31, ↓A_g32, ↓A_g34, ↓A_g36, ↓A_g37, ↓A_g38, ↓A_g39, ↓A_g41, ↓A_g42, ↓A_g43, ↓A_g44, ↓A_g61, ↓A_g62, ↓A_g63, ↓A_g65, ↓A_g66, ↓A_g67, ↓A_g68, ↓A_g69, ↓A_g70, ↓A_gN, ↓A_gT, ↓A_gC, ↓F_g8_1, ↓F_g11_1, ↓F_g14_1, ↓F_g24_1, ↓F_g27_1, ↓F_g30_1, ↓I_X6_letHappen_0, ↓L_iinc2, ↓r_goto, ↓J_X6_after_29, ↓F_g0_3, ↓F_g1_1, ↓F_g17_1, ↓I_X0_workOut_33, ↓r_ifne_t, ↓r_ifne_f, ↓J_X6_after_104, ↓r_icne_t, ↓r_icne_f, ↓J_X6_after_121, ↓F_g33_5, ↓I_X6_orNoSuch, ↓r_i2l, ↓F_g33_8, ↓F_g33_9, ↓I_X6_inLowestTerms, ↓U_X6_after_0, ↓U_X6_after_9, ↓U_X6_after_13, ↓U_X6_after_77, ↓U_X6_after_104, ↓U_X6_after_121, ↓zthen_v, ↓zthen_0, zU_eq, zU_nc, zU_nj]
    · rw [S_X7_after]
      simp (disch := first | exact z_tt rfl | assumption | omega | (simp (disch := omega) only [zU_eq, zU_nc, zU_nj]; omega)) only [↓L_ild_n1, ↓r_i2l, ↓r_lconst, ↓r_ldc2w, ↓I_X7_in, ↓r_ifne_t, ↓r_ifne_f, ↓J_X7_after_16, ↓r_lreturn, ↓L_ald_n0, ↓F_g60_0, ↓r_iconst, ↓F_g60_2, ↓r_bipush, ↓A_c6, ↓A_c5, ↓A_c8, ↓A_c82, ↓A_c60, ↓A_c360, ↓L_ist_n2, ↓L_ist_n2L, ↓L_ild_n2, ↓A_g3, ↓A_g4, ↓A_g5, ↓A_g6, ↓A_g7, ↓A_g9, ↓A_g10, ↓A_g12, ↓A_g13, ↓A_g15, ↓A_g16, ↓A_g19, ↓A_g20, ↓A_g21, ↓A_g22, ↓A_g23, ↓A_g25, ↓A_g26, ↓A_g28, ↓A_g29, ↓A_g31, ↓A_g32, ↓A_g34, ↓A_g36, ↓A_g37, ↓A_g38, ↓A_g39, ↓A_g41, ↓A_g42, ↓A_g43, ↓A_g44, ↓A_g61, ↓A_g62, ↓A_g63, ↓A_g65, ↓A_g66, ↓A_g67, ↓A_g68, ↓A_g69, ↓A_g70, ↓A_gN, ↓A_gT, ↓A_gC, ↓r_icge_t, ↓r_icge_f, ↓J_X7_after_77, ↓r_imul, ↓r_iadd, ↓I_X7_happens_60, ↓L_iinc2, ↓r_goto, ↓J_X7_after_33, ↓I_X7_afterNow_60, ↓L_lst_n2, ↓L_lst_n2L, ↓L_lld_n2, ↓U_X7_after_0, ↓U_X7_after_16, ↓U_X7_after_77, ↓zthen_v, ↓zthen_0, zU_eq, zU_nc, zU_nj, m1]
