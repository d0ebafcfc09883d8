/-! settle -/
def hoM (i j : Int) : Nat → Int → zM → zM
  | 0, _, τ => τ
  | n + 1, t, τ => hoM i j n (t + 1) (holdM τ t (if τ 64 t = 0 then j else i))
theorem hoM_o (i j : Int) : ∀ (n : Nat) (t : Int) (τ : zM) (c q : Int), 0 ≤ t → t + n ≤ 6 → (c < 61 ∨ 61 < c ∨ q < 5 ∨ 28 < q) → hoM i j n t τ c q = τ c q
  | 0, t, τ, c, q, h1, h2, h => rfl
  | n + 1, t, τ, c, q, h1, h2, h => by
    rw [hoM, hoM_o i j n (t + 1) _ c q (by omega) (by omega) h]
    unfold holdM
    simp (disch := omega) only [zU_ow]
theorem hoM_lt (i j : Int) : ∀ (n : Nat) (t : Int) (τ : zM) (u : Int), 0 ≤ t → t + n ≤ 6 → 0 ≤ u → u < t → hoM i j n t τ 61 (5 + u) = τ 61 (5 + u) ∧ hoM i j n t τ 61 (11 + u) = τ 61 (11 + u) ∧ hoM i j n t τ 61 (17 + u) = τ 61 (17 + u) ∧ hoM i j n t τ 61 (23 + u) = τ 61 (23 + u)
  | 0, t, τ, u, h1, h2, h3, h4 => ⟨rfl, rfl, rfl, rfl⟩
  | n + 1, t, τ, u, h1, h2, h3, h4 => by
    rw [hoM]
    obtain ⟨e1, e2, e3, e4⟩ := hoM_lt i j n (t + 1) (holdM τ t (if τ 64 t = 0 then j else i)) u (by omega) (by omega) h3 (by omega)
    rw [e1, e2, e3, e4]
    unfold holdM
    refine ⟨?_, ?_, ?_, ?_⟩ <;> simp (disch := omega) only [zU_ow]
theorem hoM_at (i j : Int) : ∀ (n : Nat) (t : Int) (τ : zM) (u : Int), 0 ≤ t → t + n ≤ 6 → t ≤ u → u < t + n → hoM i j n t τ 61 (5 + u) = (if τ 64 u = 0 then j else i) ∧ hoM i j n t τ 61 (11 + u) = -1 ∧ hoM i j n t τ 61 (17 + u) = 0 ∧ hoM i j n t τ 61 (23 + u) = 1
  | 0, t, τ, u, h1, h2, h3, h4 => by omega
  | n + 1, t, τ, u, h1, h2, h3, h4 => by
    rw [hoM]
    by_cases e : u = t
    · subst e
      obtain ⟨e1, e2, e3, e4⟩ := hoM_lt i j n (u + 1) (holdM τ u (if τ 64 u = 0 then j else i)) u (by omega) (by omega) (by omega) (by omega)
      rw [e1, e2, e3, e4]
      unfold holdM
      refine ⟨?_, ?_, ?_, ?_⟩ <;> simp (disch := omega) only [zU_ow, zU_eq]
    · obtain ⟨e1, e2, e3, e4⟩ := hoM_at i j n (t + 1) (holdM τ t (if τ 64 t = 0 then j else i)) u (by omega) (by omega) (by omega) (by omega)
      rw [e1, e2, e3, e4]
      refine ⟨?_, rfl, rfl, rfl⟩
      unfold holdM
      simp (disch := omega) only [zU_ow]
set_option maxRecDepth 20000 in
set_option maxHeartbeats 4000000 in
theorem m_st_loop {i j : Int} {G : zO} (hi : 0 ≤ i ∧ i < 4) (hj : 0 ≤ j ∧ j < 4) : ∀ (n : Nat) (t : Int) (τ : zM), Fl τ → (0 ≤ τ 61 1 ∧ τ 61 1 ≤ 6) → 0 ≤ t → t + n = τ 61 1 → zres 156 C_X7_settle_60 [vR 60, vI i, vI j, vI (τ 61 1)] [] (hoM i j n t τ) = G → zres 156 C_X7_settle_25 [vR 60, vI i, vI j, vI t] [] τ = G := by
  intro n
  induction n with
  | zero =>
    intro t τ hF hm ht hn hG
    have e : t = τ 61 1 := by omega
    subst e
    rw [hoM] at hG
    rw [U_X7_settle_25]
    simp (disch := first | exact z_tt rfl | assumption | omega | (simp (disch := omega) only [zU_eq, zU_nc, zU_nj]; omega)) only [↓L_ald_n0, ↓L_ild_n1, ↓L_ild_n2, ↓I_X7_areTwo_60, ↓r_ifne_t, ↓r_ifne_f, ↓J_X7_settle_11, ↓r_iconst, ↓r_ireturn, ↓I_X7_adjusts_60, ↓J_X7_settle_23, ↓r_bipush, ↓L_ist_n3, ↓L_ist_n3L, ↓L_ild_n3, ↓F_g60_0, ↓A_g3, ↓A_g4, ↓A_g5, ↓A_g6, ↓A_g7, ↓A_g9, ↓A_g10, ↓A_g12, ↓A_g13, ↓A_g15, ↓A_g16, ↓A_g19, ↓A_g20, ↓A_g21, ↓A_g22, ↓A_g23, ↓A_g25, ↓A_g26, ↓A_g28, ↓A_g29, ↓A_g31, ↓A_g32, ↓A_g34, ↓A_g36, ↓A_g37, ↓A_g38, ↓A_g39, ↓A_g41, ↓A_g42, ↓A_g43, ↓A_g44, ↓A_g61, ↓A_g62, ↓A_g63, ↓A_g65, ↓A_g66, ↓A_g67, ↓A_g68, ↓A_g69, ↓A_g70, ↓A_gN, ↓A_gT, ↓A_gC, ↓r_icge_t, ↓r_icge_f, ↓J_X7_settle_60, ↓F_g60_4, ↓A_b46, ↓A_z64, ↓r_ifeq_t, ↓r_ifeq_f, ↓J_X7_settle_50, ↓r_goto, ↓J_X7_settle_51, ↓I_X7_holds_60, ↓L_iinc3, ↓J_X7_settle_25, ↓F_g60_5, ↓r_iceq_t, ↓r_iceq_f, ↓J_X7_settle_88, ↓F_g60_10, ↓F_g60_6, ↓F_g60_7, ↓I_X7_splits__60, ↓I_X7_orNobody, ↓U_X7_settle_0, ↓U_X7_settle_11, ↓U_X7_settle_23, ↓U_X7_settle_50, ↓U_X7_settle_51, ↓U_X7_settle_88, ↓zthen_v, ↓zthen_0, zU_eq, zU_nc, zU_nj]
    exact hG
  | succ n ih =>
    intro t τ hF hm ht hn hG
    have hb := hF t ht (by omega)
    rw [hoM] at hG
    have e1 : ∀ v, holdM τ t v 61 1 = τ 61 1 := fun v => by
      unfold holdM
      simp (disch := omega) only [zU_ow]
    have F1 : ∀ v, Fl (holdM τ t v) := fun v => by
      unfold holdM
      exact Fl_o (Fl_o (Fl_o (Fl_o hF (by omega)) (by omega)) (by omega)) (by omega)
    have mh := fun v => m_holds (σ := τ) (t := t) (p := v) (by omega)
    rw [U_X7_settle_25]
    by_cases q : τ 64 t = 0
    · rw [if_pos q] at hG
      have mj := mh j
      simp (disch := first | exact z_tt rfl | assumption | omega | (simp (disch := omega) only [zU_eq, zU_nc, zU_nj]; omega)) only [↓L_ald_n0, ↓L_ild_n1, ↓L_ild_n2, ↓I_X7_areTwo_60, ↓r_ifne_t, ↓r_ifne_f, ↓J_X7_settle_11, ↓r_iconst, ↓r_ireturn, ↓I_X7_adjusts_60, ↓J_X7_settle_23, ↓r_bipush, ↓L_ist_n3, ↓L_ist_n3L, ↓L_ild_n3, ↓F_g60_0, ↓A_g3, ↓A_g4, ↓A_g5, ↓A_g6, ↓A_g7, ↓A_g9, ↓A_g10, ↓A_g12, ↓A_g13, ↓A_g15, ↓A_g16, ↓A_g19, ↓A_g20, ↓A_g21, ↓A_g22, ↓A_g23, ↓A_g25, ↓A_g26, ↓A_g28, ↓A_g29, ↓A_g31, ↓A_g32, ↓A_g34, ↓A_g36, ↓A_g37, ↓A_g38, ↓A_g39, ↓A_g41, ↓A_g42, ↓A_g43, ↓A_g44, ↓A_g61, ↓A_g62, ↓A_g63, ↓A_g65, ↓A_g66, ↓A_g67, ↓A_g68, ↓A_g69, ↓A_g70, ↓A_gN, ↓A_gT, ↓A_gC, ↓r_icge_t, ↓r_icge_f, ↓J_X7_settle_60, ↓F_g60_4, ↓A_b46, ↓A_z64, ↓r_ifeq_t, ↓r_ifeq_f, ↓J_X7_settle_50, ↓r_goto, ↓J_X7_settle_51, ↓I_X7_holds_60, ↓L_iinc3, ↓J_X7_settle_25, ↓F_g60_5, ↓r_iceq_t, ↓r_iceq_f, ↓J_X7_settle_88, ↓F_g60_10, ↓F_g60_6, ↓F_g60_7, ↓I_X7_splits__60, ↓I_X7_orNobody, ↓U_X7_settle_0, ↓U_X7_settle_11, ↓U_X7_settle_23, ↓U_X7_settle_50, ↓U_X7_settle_51, ↓U_X7_settle_88, ↓zthen_v, ↓zthen_0, zU_eq, zU_nc, zU_nj, mj]
      exact ih (t + 1) (holdM τ t j) (F1 j) (by rw [e1]; exact hm) (by omega) (by rw [e1]; omega) (by rw [e1]; exact hG)
    · rw [if_neg q] at hG
      have mj := mh i
      simp (disch := first | exact z_tt rfl | assumption | omega | (simp (disch := omega) only [zU_eq, zU_nc, zU_nj]; omega)) only [↓L_ald_n0, ↓L_ild_n1, ↓L_ild_n2, ↓I_X7_areTwo_60, ↓r_ifne_t, ↓r_ifne_f, ↓J_X7_settle_11, ↓r_iconst, ↓r_ireturn, ↓I_X7_adjusts_60, ↓J_X7_settle_23, ↓r_bipush, ↓L_ist_n3, ↓L_ist_n3L, ↓L_ild_n3, ↓F_g60_0, ↓A_g3, ↓A_g4, ↓A_g5, ↓A_g6, ↓A_g7, ↓A_g9, ↓A_g10, ↓A_g12, ↓A_g13, ↓A_g15, ↓A_g16, ↓A_g19, ↓A_g20, ↓A_g21, ↓A_g22, ↓A_g23, ↓A_g25, ↓A_g26, ↓A_g28, ↓A_g29, ↓A_g31, ↓A_g32, ↓A_g34, ↓A_g36, ↓A_g37, ↓A_g38, ↓A_g39, ↓A_g41, ↓A_g42, ↓A_g43, ↓A_g44, ↓A_g61, ↓A_g62, ↓A_g63, ↓A_g65, ↓A_g66, ↓A_g67, ↓A_g68, ↓A_g69, ↓A_g70, ↓A_gN, ↓A_gT, ↓A_gC, ↓r_icge_t, ↓r_icge_f, ↓J_X7_settle_60, ↓F_g60_4, ↓A_b46, ↓A_z64, ↓r_ifeq_t, ↓r_ifeq_f, ↓J_X7_settle_50, ↓r_goto, ↓J_X7_settle_51, ↓I_X7_holds_60, ↓L_iinc3, ↓J_X7_settle_25, ↓F_g60_5, ↓r_iceq_t, ↓r_iceq_f, ↓J_X7_settle_88, ↓F_g60_10, ↓F_g60_6, ↓F_g60_7, ↓I_X7_splits__60, ↓I_X7_orNobody, ↓U_X7_settle_0, ↓U_X7_settle_11, ↓U_X7_settle_23, ↓U_X7_settle_50, ↓U_X7_settle_51, ↓U_X7_settle_88, ↓zthen_v, ↓zthen_0, zU_eq, zU_nc, zU_nj, mj]
      exact ih (t + 1) (holdM τ t i) (F1 i) (by rw [e1]; exact hm) (by omega) (by rw [e1]; omega) (by rw [e1]; exact hG)
theorem mend_v (σ : zM) : mend σ 1 4 = -1 ∧ mend σ 1 5 = -1 ∧ mend σ 1 6 = 0 ∧ mend σ 1 7 = 1 ∧ (∀ c q : Int, (c = 1 → q < 4 ∨ 7 < q) → mend σ c q = σ c q) := by
  unfold mend
  refine ⟨?_, ?_, ?_, ?_, fun c q h => ?_⟩ <;> simp (disch := omega) only [zU_ow, zU_eq]
theorem Rel1_settle {σ τ : zM} {i j : Int} (R : Rel1 σ τ) (ho : Ow6 σ) (hi : 0 ≤ i ∧ i < 4) (hj : 0 ≤ j ∧ j < 4) (hA : ∀ t : Int, 0 ≤ t → t < σ 1 1 → (τ 64 t = 1 ∧ σ 34 t = i) ∨ (τ 64 t = 0 ∧ σ 34 t = j)) : Rel1 (zCpy (mend σ) 34 0 7 0 6) (hoM i j (τ 61 1).toNat 0 τ) := by
  have hn := R.n
  have hm := R.m
  obtain ⟨v4, v5, v6, v7, vo⟩ := mend_v σ
  have F1 : ∀ q : Int, zCpy (mend σ) 34 0 7 0 6 1 q = mend σ 1 q := fun q => zCpy_nc _ _ _ _ _ _ _ _ (by omega)
  have F : ∀ c q : Int, c < 1 ∨ (1 < c ∧ c < 7) ∨ 7 < c → zCpy (mend σ) 34 0 7 0 6 c q = σ c q := fun c q h => by rw [zCpy_nc _ _ _ _ _ _ _ _ (by omega), vo _ _ (by omega)]
  have F7 : ∀ t : Int, 0 ≤ t → t < 6 → zCpy (mend σ) 34 0 7 0 6 7 t = σ 34 t := fun t a b => by
    rw [zCpy_in _ _ _ _ _ _ _ (by omega), vo _ _ (by omega)]
    congr 1
    omega
  have G : ∀ q : Int, q < 5 ∨ 28 < q → hoM i j (τ 61 1).toNat 0 τ 61 q = τ 61 q := fun q h => hoM_o _ _ _ _ _ _ _ (by omega) (by omega) (by omega)
  have H : ∀ u : Int, 0 ≤ u → u < σ 1 1 → _ := fun u a b => hoM_at i j (τ 61 1).toNat 0 τ u (by omega) (by omega) a (by omega)
  refine ⟨⟨?_, ?_, ?_, ?_, ?_, ?_, ?_, ?_, ?_⟩, RSs_fr R.2.1 (F _ _ (by omega)) (fun k => F _ _ (by omega)) (fun k => F _ _ (by omega)) (fun j h => G j (by omega)), RSe_fr R.2.2.1 (F _ _ (by omega)) (fun k => F _ _ (by omega)) (fun k => F _ _ (by omega)) (fun j h => G j (by omega)), RSb_fr R.2.2.2 (F _ _ (by omega)) (fun k => F _ _ (by omega)) (fun k => F _ _ (by omega)) (fun j h => G j (by omega))⟩
  · rw [F1, vo _ _ (by omega), G 0 (by omega)]; exact hn
  · rw [F1, vo _ _ (by omega), G 1 (by omega)]; exact hm
  · intro p t a b c d
    rw [F _ _ (by omega)]
    exact R.ptr p t a b c d
  · intro p t a b c d
    rw [F1, vo _ _ (by omega)] at d
    rw [F _ _ (by omega), G _ (by omega)]
    exact R.pt p t a b c d
  · intro t a b
    rw [F7 t a b]
    have := ho t a b
    omega
  · intro t a b
    rw [F1, vo _ _ (by omega)] at b
    rw [F7 t a (by omega), (H t a b).1]
    rcases hA t a b with ⟨x, y⟩ | ⟨x, y⟩
    · rw [if_neg (by omega)]; exact y.symm
    · rw [if_pos x]; exact y.symm
  · rw [F1, F1, F1, F1, F1, v4, v5, v6, v7, vo _ _ (by omega)]
    omega
  · intro t a b c
    rw [F1, v4] at c
    omega
  · intro t a b c
    rw [F1, vo _ _ (by omega)] at b
    exact (H t a b).2
def FrC2 (σ σ1 : zM) : Prop := ∀ c j : Int, (c < 1 ∨ (16 < c ∧ c < 33) ∨ 34 < c) → σ1 c j = σ c j
def FrM2 (τ τ1 : zM) : Prop := ∀ c j : Int, (c < 60 ∨ (61 < c ∧ c < 64) ∨ 64 < c ∨ (c = 60 ∧ (j < 5 ∨ 10 < j))) → τ1 c j = τ c j
set_option maxRecDepth 20000 in
set_option maxHeartbeats 4000000 in
theorem op_settle {σ τ : zM} {i j : Int} (R : RelA σ τ) (hi : -2147483648 ≤ i ∧ i < 2147483648) (hj : -2147483648 ≤ j ∧ j < 2147483648) : ∃ r σ1 τ1, zcall 53 [vR 0, vI i, vI j] σ = some (some (vI r), σ1) ∧ zcall 156 [vR 60, vI i, vI j] τ = some (some (vI r), τ1) ∧ RelA σ1 τ1 ∧ FrC2 σ σ1 ∧ FrM2 τ τ1 := by
  have hn := R.1.n
  have hm := R.1.m
  by_cases q1 : 0 ≤ i ∧ i < σ 1 0 ∧ 0 ≤ j ∧ j < σ 1 0 ∧ (i < j ∨ j < i)
  · have c1 := c_X6_areTwo_t (σ := σ) (i := i) (j := j) q1 (by omega)
    have m1 := m_areTwo_t (σ := τ) (i := i) (j := j) (by omega) (by omega)
    rcases wo_now R (i := i) (j := j) (by omega) (by omega) (by omega) with ⟨σ1, c3, m3, R1, F1⟩ | ⟨σ1, τ1, c3, m3, R1, F1, F2, A, h331⟩
    · refine ⟨-3, σ1, τ, ?_, ?_, R1, fun c j h => F1 c j (by omega), fun _ _ _ => rfl⟩
      · rw [S_X6_settle]
        simp (disch := first | exact z_tt rfl | assumption | omega | (simp (disch := omega) only [zU_eq, zU_nc, zU_nj]; omega)) only [↓L_ald_n0, ↓L_ild_n1, ↓L_ild_n2, ↓I_X6_areTwo_0, ↓r_ifne_t, ↓r_ifne_f, ↓J_X6_settle_11, ↓r_iconst, ↓r_ireturn, ↓F_g0_3, ↓F_g0_0, ↓F_g1_2, ↓F_g17_2, ↓F_g1_1, ↓F_g17_1, ↓I_X0_workOut_33, ↓J_X6_settle_40, ↓r_bipush, ↓I_X2_divideBy_1, ↓I_X2_divideBy_17, ↓F_g33_5, ↓I_X6_orNoSuch, ↓U_X6_settle_0, ↓U_X6_settle_11, ↓U_X6_settle_40, ↓zthen_v, ↓zthen_0, zU_eq, zU_nc, zU_nj, c1, c3]
      · rw [S_X7_settle]
        simp (disch := first | exact z_tt rfl | assumption | omega | (simp (disch := omega) only [zU_eq, zU_nc, zU_nj]; omega)) only [↓L_ald_n0, ↓L_ild_n1, ↓L_ild_n2, ↓I_X7_areTwo_60, ↓r_ifne_t, ↓r_ifne_f, ↓J_X7_settle_11, ↓r_iconst, ↓r_ireturn, ↓I_X7_adjusts_60, ↓J_X7_settle_23, ↓r_bipush, ↓L_ist_n3, ↓L_ist_n3L, ↓L_ild_n3, ↓F_g60_0, ↓A_g3, ↓A_g4, ↓A_g5, ↓A_g6, ↓A_g7, ↓A_g9, ↓A_g10, ↓A_g12, ↓A_g13, ↓A_g15, ↓A_g16, ↓A_g19, ↓A_g20, ↓A_g21, ↓A_g22, ↓A_g23, ↓A_g25, ↓A_g26, ↓A_g28, ↓A_g29, ↓A_g31, ↓A_g32, ↓A_g34, ↓A_g36, ↓A_g37, ↓A_g38, ↓A_g39, ↓A_g41, ↓A_g42, ↓A_g43, ↓A_g44, ↓A_g61, ↓A_g62, ↓A_g63, ↓A_g65, ↓A_g66, ↓A_g67, ↓A_g68, ↓A_g69, ↓A_g70, ↓A_gN, ↓A_gT, ↓A_gC, ↓r_icge_t, ↓r_icge_f, ↓J_X7_settle_60, ↓F_g60_4, ↓A_b46, ↓A_z64, ↓r_ifeq_t, ↓r_ifeq_f, ↓J_X7_settle_50, ↓r_goto, ↓J_X7_settle_51, ↓I_X7_holds_60, ↓L_iinc3, ↓J_X7_settle_25, ↓F_g60_5, ↓r_iceq_t, ↓r_iceq_f, ↓J_X7_settle_88, ↓F_g60_10, ↓F_g60_6, ↓F_g60_7, ↓I_X7_splits__60, ↓I_X7_orNobody, ↓U_X7_settle_0, ↓U_X7_settle_11, ↓U_X7_settle_23, ↓U_X7_settle_25, ↓U_X7_settle_50, ↓U_X7_settle_51, ↓U_X7_settle_60, ↓U_X7_settle_88, ↓zthen_v, ↓zthen_0, zU_eq, zU_nc, zU_nj, m1, m3]
    · obtain ⟨a1, ⟨t4, t5, t6, t7, t2, t3⟩, a3, a4, a5⟩ := A
      have hm1 : τ1 61 1 = σ 1 1 := by rw [F2 61 1 (by omega)]; exact hm.2.2
      have hm2 : σ1 1 1 = σ 1 1 := F1 1 1 (by omega)
      have R2 := Rel1_settle (i := i) (j := j) R1.1 R1.2.1 (by omega) (by omega) (fun t a b => a1 t a (by omega))
      have K : ∀ c q : Int, c < 61 ∨ 61 < c → hoM i j (τ1 61 1).toNat 0 τ1 c q = τ1 c q := fun c q h => hoM_o _ _ _ _ _ _ _ (by omega) (by omega) (by omega)
      have E1 : ∀ c q : Int, c < 1 ∨ (1 < c ∧ c < 7) ∨ 7 < c → zCpy (mend σ1) 34 0 7 0 6 c q = σ1 c q := fun c q h => by rw [zCpy_nc _ _ _ _ _ _ _ _ (by omega), mend_nc _ _ _ (by omega)]
      have E14 : zCpy (mend σ1) 34 0 7 0 6 1 4 = -1 := by rw [zCpy_nc _ _ _ _ _ _ _ _ (by omega)]; exact (mend_v σ1).1
      have E11 : zCpy (mend σ1) 34 0 7 0 6 1 1 = σ 1 1 := by rw [zCpy_nc _ _ _ _ _ _ _ _ (by omega), (mend_v σ1).2.2.2.2 _ _ (by omega)]; exact hm2
      have c4 := c_X2_divideBy (σ := σ1) (by omega) (by omega) (by omega)
      have c6 := fun s : zM => c_X6_orNoSuch (σ := s) (p := σ1 33 5) (by omega)
      have m6 := fun s : zM => m_orNobody (σ := s) (p := τ1 60 5) (by omega)
      rw [orNM (by omega), ← t5] at m6
      by_cases q2 : σ1 33 5 < 0
      · have ed : divB σ1 = zCpy (mend σ1) 34 0 7 0 6 := by unfold divB; rw [if_pos q2]
        rw [ed] at c4
        refine ⟨orN (σ1 33 5), zCpy (mend σ1) 34 0 7 0 6, hoM i j (τ1 61 1).toNat 0 τ1, ?_, ?_, ⟨R2, ?_, ?_⟩, ?_, ?_⟩
        · rw [S_X6_settle]
          have e335 : zCpy (mend σ1) 34 0 7 0 6 33 5 = σ1 33 5 := E1 _ _ (by omega)
          simp (disch := first | exact z_tt rfl | assumption | omega | (simp (disch := omega) only [zU_eq, zU_nc, zU_nj]; omega)) only [↓L_ald_n0, ↓L_ild_n1, ↓L_ild_n2, ↓I_X6_areTwo_0, ↓r_ifne_t, ↓r_ifne_f, ↓J_X6_settle_11, ↓r_iconst, ↓r_ireturn, ↓F_g0_3, ↓F_g0_0, ↓F_g1_2, ↓F_g17_2, ↓F_g1_1, ↓F_g17_1, ↓I_X0_workOut_33, ↓J_X6_settle_40, ↓r_bipush, ↓I_X2_divideBy_1, ↓I_X2_divideBy_17, ↓F_g33_5, ↓I_X6_orNoSuch, ↓U_X6_settle_0, ↓U_X6_settle_11, ↓U_X6_settle_40, ↓zthen_v, ↓zthen_0, zU_eq, zU_nc, zU_nj, c1, c3, c4, e335, c6]
        · rw [S_X7_settle]
          simp (disch := first | exact z_tt rfl | assumption | omega | (simp (disch := omega) only [zU_eq, zU_nc, zU_nj]; omega)) only [↓L_ald_n0, ↓L_ild_n1, ↓L_ild_n2, ↓I_X7_areTwo_60, ↓r_ifne_t, ↓r_ifne_f, ↓J_X7_settle_11, ↓r_iconst, ↓r_ireturn, ↓I_X7_adjusts_60, ↓J_X7_settle_23, ↓r_bipush, ↓L_ist_n3, ↓L_ist_n3L, ↓L_ild_n3, ↓F_g60_0, ↓A_g3, ↓A_g4, ↓A_g5, ↓A_g6, ↓A_g7, ↓A_g9, ↓A_g10, ↓A_g12, ↓A_g13, ↓A_g15, ↓A_g16, ↓A_g19, ↓A_g20, ↓A_g21, ↓A_g22, ↓A_g23, ↓A_g25, ↓A_g26, ↓A_g28, ↓A_g29, ↓A_g31, ↓A_g32, ↓A_g34, ↓A_g36, ↓A_g37, ↓A_g38, ↓A_g39, ↓A_g41, ↓A_g42, ↓A_g43, ↓A_g44, ↓A_g61, ↓A_g62, ↓A_g63, ↓A_g65, ↓A_g66, ↓A_g67, ↓A_g68, ↓A_g69, ↓A_g70, ↓A_gN, ↓A_gT, ↓A_gC, ↓r_icge_t, ↓r_icge_f, ↓J_X7_settle_60, ↓F_g60_4, ↓A_b46, ↓A_z64, ↓r_ifeq_t, ↓r_ifeq_f, ↓J_X7_settle_50, ↓r_goto, ↓J_X7_settle_51, ↓I_X7_holds_60, ↓L_iinc3, ↓J_X7_settle_25, ↓F_g60_5, ↓r_iceq_t, ↓r_iceq_f, ↓J_X7_settle_88, ↓F_g60_10, ↓F_g60_6, ↓F_g60_7, ↓I_X7_splits__60, ↓I_X7_orNobody, ↓U_X7_settle_0, ↓U_X7_settle_11, ↓U_X7_settle_23, ↓U_X7_settle_50, ↓U_X7_settle_51, ↓U_X7_settle_60, ↓U_X7_settle_88, ↓zthen_v, ↓zthen_0, zU_eq, zU_nc, zU_nj, m1, m3]
          refine m_st_loop (by omega) (by omega) (τ1 61 1).toNat 0 τ1 R1.2.2 (by omega) (by omega) (by omega) ?_
          have e605 : hoM i j (τ1 61 1).toNat 0 τ1 60 5 = τ1 60 5 := K _ _ (by omega)
          have e5 : τ1 60 5 = -1 := by omega
          have m7 := m6 (hoM i j (τ1 61 1).toNat 0 τ1)
          rw [t5, e5] at m7
          rw [t5, e5]
          simp (disch := first | exact z_tt rfl | assumption | omega | (simp (disch := omega) only [zU_eq, zU_nc, zU_nj]; omega)) only [↓L_ald_n0, ↓L_ild_n1, ↓L_ild_n2, ↓I_X7_areTwo_60, ↓r_ifne_t, ↓r_ifne_f, ↓J_X7_settle_11, ↓r_iconst, ↓r_ireturn, ↓I_X7_adjusts_60, ↓J_X7_settle_23, ↓r_bipush, ↓L_ist_n3, ↓L_ist_n3L, ↓L_ild_n3, ↓F_g60_0, ↓A_g3, ↓A_g4, ↓A_g5, ↓A_g6, ↓A_g7, ↓A_g9, ↓A_g10, ↓A_g12, ↓A_g13, ↓A_g15, ↓A_g16, ↓A_g19, ↓A_g20, ↓A_g21, ↓A_g22, ↓A_g23, ↓A_g25, ↓A_g26, ↓A_g28, ↓A_g29, ↓A_g31, ↓A_g32, ↓A_g34, ↓A_g36, ↓A_g37, ↓A_g38, ↓A_g39, ↓A_g41, ↓A_g42, ↓A_g43, ↓A_g44, ↓A_g61, ↓A_g62, ↓A_g63, ↓A_g65, ↓A_g66, ↓A_g67, ↓A_g68, ↓A_g69, ↓A_g70, ↓A_gN, ↓A_gT, ↓A_gC, ↓r_icge_t, ↓r_icge_f, ↓J_X7_settle_60, ↓F_g60_4, ↓A_b46, ↓A_z64, ↓r_ifeq_t, ↓r_ifeq_f, ↓J_X7_settle_50, ↓r_goto, ↓J_X7_settle_51, ↓I_X7_holds_60, ↓L_iinc3, ↓J_X7_settle_25, ↓F_g60_5, ↓r_iceq_t, ↓r_iceq_f, ↓J_X7_settle_88, ↓F_g60_10, ↓F_g60_6, ↓F_g60_7, ↓I_X7_splits__60, ↓I_X7_orNobody, ↓U_X7_settle_0, ↓U_X7_settle_11, ↓U_X7_settle_23, ↓U_X7_settle_50, ↓U_X7_settle_51, ↓U_X7_settle_60, ↓U_X7_settle_88, ↓zthen_v, ↓zthen_0, zU_eq, zU_nc, zU_nj, e605, e5, m7]
        · intro t a b
          rw [E1 _ _ (by omega)]; exact R1.2.1 t a b
        · intro t a b
          rw [K _ _ (by omega)]; exact R1.2.2 t a b
        · intro c q h
          rw [E1 _ _ (by omega)]; exact F1 _ _ (by omega)
        · intro c q h
          rw [K _ _ (by omega)]; exact F2 _ _ (by omega)
      · have ed : divB σ1 = cutT (zCpy (mend σ1) 34 0 7 0 6) (σ1 33 5) (σ1 33 3) (σ1 33 6) (σ1 33 7) := by unfold divB; rw [if_neg q2]
        rw [ed] at c4
        have R3 := Rel1_split (t := σ1 33 5) (p := σ1 33 3) (u := σ1 33 6) (l := σ1 33 7) R2 (by omega) (by omega) (by omega) (by omega) (by omega)
        have m8 := m_splits_ (τ := hoM i j (τ1 61 1).toNat 0 τ1) (t := σ1 33 5) (p := σ1 33 3) (up := σ1 33 6) (low := σ1 33 7) (by omega) (by omega) (by omega)
        refine ⟨orN (σ1 33 5), _, _, ?_, ?_, ⟨R3, ?_, ?_⟩, ?_, ?_⟩
        · rw [S_X6_settle]
          have e335 : cutT (zCpy (mend σ1) 34 0 7 0 6) (σ1 33 5) (σ1 33 3) (σ1 33 6) (σ1 33 7) 33 5 = σ1 33 5 := by rw [cutT_nc _ _ _ _ _ _ _ (by omega)]; exact E1 _ _ (by omega)
          simp (disch := first | exact z_tt rfl | assumption | omega | (simp (disch := omega) only [zU_eq, zU_nc, zU_nj]; omega)) only [↓L_ald_n0, ↓L_ild_n1, ↓L_ild_n2, ↓I_X6_areTwo_0, ↓r_ifne_t, ↓r_ifne_f, ↓J_X6_settle_11, ↓r_iconst, ↓r_ireturn, ↓F_g0_3, ↓F_g0_0, ↓F_g1_2, ↓F_g17_2, ↓F_g1_1, ↓F_g17_1, ↓I_X0_workOut_33, ↓J_X6_settle_40, ↓r_bipush, ↓I_X2_divideBy_1, ↓I_X2_divideBy_17, ↓F_g33_5, ↓I_X6_orNoSuch, ↓U_X6_settle_0, ↓U_X6_settle_11, ↓U_X6_settle_40, ↓zthen_v, ↓zthen_0, zU_eq, zU_nc, zU_nj, c1, c3, c4, e335, c6]
        · rw [S_X7_settle]
          simp (disch := first | exact z_tt rfl | assumption | omega | (simp (disch := omega) only [zU_eq, zU_nc, zU_nj]; omega)) only [↓L_ald_n0, ↓L_ild_n1, ↓L_ild_n2, ↓I_X7_areTwo_60, ↓r_ifne_t, ↓r_ifne_f, ↓J_X7_settle_11, ↓r_iconst, ↓r_ireturn, ↓I_X7_adjusts_60, ↓J_X7_settle_23, ↓r_bipush, ↓L_ist_n3, ↓L_ist_n3L, ↓L_ild_n3, ↓F_g60_0, ↓A_g3, ↓A_g4, ↓A_g5, ↓A_g6, ↓A_g7, ↓A_g9, ↓A_g10, ↓A_g12, ↓A_g13, ↓A_g15, ↓A_g16, ↓A_g19, ↓A_g20, ↓A_g21, ↓A_g22, ↓A_g23, ↓A_g25, ↓A_g26, ↓A_g28, ↓A_g29, ↓A_g31, ↓A_g32, ↓A_g34, ↓A_g36, ↓A_g37, ↓A_g38, ↓A_g39, ↓A_g41, ↓A_g42, ↓A_g43, ↓A_g44, ↓A_g61, ↓A_g62, ↓A_g63, ↓A_g65, ↓A_g66, ↓A_g67, ↓A_g68, ↓A_g69, ↓A_g70, ↓A_gN, ↓A_gT, ↓A_gC, ↓r_icge_t, ↓r_icge_f, ↓J_X7_settle_60, ↓F_g60_4, ↓A_b46, ↓A_z64, ↓r_ifeq_t, ↓r_ifeq_f, ↓J_X7_settle_50, ↓r_goto, ↓J_X7_settle_51, ↓I_X7_holds_60, ↓L_iinc3, ↓J_X7_settle_25, ↓F_g60_5, ↓r_iceq_t, ↓r_iceq_f, ↓J_X7_settle_88, ↓F_g60_10, ↓F_g60_6, ↓F_g60_7, ↓I_X7_splits__60, ↓I_X7_orNobody, ↓U_X7_settle_0, ↓U_X7_settle_11, ↓U_X7_settle_23, ↓U_X7_settle_50, ↓U_X7_settle_51, ↓U_X7_settle_60, ↓U_X7_settle_88, ↓zthen_v, ↓zthen_0, zU_eq, zU_nc, zU_nj, m1, m3]
          refine m_st_loop (by omega) (by omega) (τ1 61 1).toNat 0 τ1 R1.2.2 (by omega) (by omega) (by omega) ?_
          have e5 : hoM i j (τ1 61 1).toNat 0 τ1 60 5 = σ1 33 5 := by rw [t5]; exact K _ _ (by omega)
          have e6 : hoM i j (τ1 61 1).toNat 0 τ1 60 6 = σ1 33 6 := by rw [t6]; exact K _ _ (by omega)
          have e7 : hoM i j (τ1 61 1).toNat 0 τ1 60 7 = σ1 33 7 := by rw [t7]; exact K _ _ (by omega)
          have e10 : hoM i j (τ1 61 1).toNat 0 τ1 60 10 = σ1 33 3 := by rw [t3]; exact K _ _ (by omega)
          have m7 := m6 (zU (zU (zU (hoM i j (τ1 61 1).toNat 0 τ1) 61 (11 + σ1 33 5) (σ1 33 3)) 61 (17 + σ1 33 5) (lowT (σ1 33 6) (σ1 33 7) 0)) 61 (23 + σ1 33 5) (lowT (σ1 33 6) (σ1 33 7) 1))
          simp (disch := first | exact z_tt rfl | assumption | omega | (simp (disch := omega) only [zU_eq, zU_nc, zU_nj]; omega)) only [↓L_ald_n0, ↓L_ild_n1, ↓L_ild_n2, ↓I_X7_areTwo_60, ↓r_ifne_t, ↓r_ifne_f, ↓J_X7_settle_11, ↓r_iconst, ↓r_ireturn, ↓I_X7_adjusts_60, ↓J_X7_settle_23, ↓r_bipush, ↓L_ist_n3, ↓L_ist_n3L, ↓L_ild_n3, ↓F_g60_0, ↓A_g3, ↓A_g4, ↓A_g5, ↓A_g6, ↓A_g7, ↓A_g9, ↓A_g10, ↓A_g12, ↓A_g13, ↓A_g15, ↓A_g16, ↓A_g19, ↓A_g20, ↓A_g21, ↓A_g22, ↓A_g23, ↓A_g25, ↓A_g26, ↓A_g28, ↓A_g29, ↓A_g31, ↓A_g32, ↓A_g34, ↓A_g36, ↓A_g37, ↓A_g38, ↓A_g39, ↓A_g41, ↓A_g42, ↓A_g43, ↓A_g44, ↓A_g61, ↓A_g62, ↓A_g63, ↓A_g65, ↓A_g66, ↓A_g67, ↓A_g68, ↓A_g69, ↓A_g70, ↓A_gN, ↓A_gT, ↓A_gC, ↓r_icge_t, ↓r_icge_f, ↓J_X7_settle_60, ↓F_g60_4, ↓A_b46, ↓A_z64, ↓r_ifeq_t, ↓r_ifeq_f, ↓J_X7_settle_50, ↓r_goto, ↓J_X7_settle_51, ↓I_X7_holds_60, ↓L_iinc3, ↓J_X7_settle_25, ↓F_g60_5, ↓r_iceq_t, ↓r_iceq_f, ↓J_X7_settle_88, ↓F_g60_10, ↓F_g60_6, ↓F_g60_7, ↓I_X7_splits__60, ↓I_X7_orNobody, ↓U_X7_settle_0, ↓U_X7_settle_11, ↓U_X7_settle_23, ↓U_X7_settle_50, ↓U_X7_settle_51, ↓U_X7_settle_60, ↓U_X7_settle_88, ↓zthen_v, ↓zthen_0, zU_eq, zU_nc, zU_nj, e5, e6, e7, e10, m8, m7]
        · intro t a b
          rw [cutT_nc _ _ _ _ _ _ _ (by omega), E1 _ _ (by omega)]; exact R1.2.1 t a b
        · intro t a b
          simp (disch := omega) only [zU_ow]
          rw [K _ _ (by omega)]; exact R1.2.2 t a b
        · intro c q h
          rw [cutT_nc _ _ _ _ _ _ _ (by omega), E1 _ _ (by omega)]; exact F1 _ _ (by omega)
        · intro c q h
          simp (disch := omega) only [zU_ow]
          rw [K _ _ (by omega)]; exact F2 _ _ (by omega)
  · have c1 := c_X6_areTwo_f (σ := σ) (i := i) (j := j) (by omega) (by omega)
    have m1 := m_areTwo_f (σ := τ) (i := i) (j := j) (by omega) (by omega)
    refine ⟨-1, σ, τ, ?_, ?_, R, fun _ _ _ => rfl, fun _ _ _ => rfl⟩
    · rw [S_X6_settle]
      simp (disch := first | exact z_tt rfl | assumption | omega | (simp (disch := omega) only [zU_eq, zU_nc, zU_nj]; omega)) only [↓L_ald_n0, ↓L_ild_n1, ↓L_ild_n2, ↓I_X6_areTwo_0, ↓r_ifne_t, ↓r_ifne_f, ↓J_X6_settle_11, ↓r_iconst, ↓r_ireturn, ↓F_g0_3, ↓F_g0_0, ↓F_g1_2, ↓F_g17_2, ↓F_g1_1, ↓F_g17_1, ↓I_X0_workOut_33, ↓J_X6_settle_40, ↓r_bipush, ↓I_X2_divideBy_1, ↓I_X2_divideBy_17, ↓F_g33_5, ↓I_X6_orNoSuch, ↓U_X6_settle_0, ↓U_X6_settle_11, ↓U_X6_settle_40, ↓zthen_v, ↓zthen_0, zU_eq, zU_nc, zU_nj, c1]
    · rw [S_X7_settle]
      simp (disch := first | exact z_tt rfl | assumption | omega | (simp (disch := omega) only [zU_eq, zU_nc, zU_nj]; omega)) only [↓L_ald_n0, ↓L_ild_n1, ↓L_ild_n2, ↓I_X7_areTwo_60, ↓r_ifne_t, ↓r_ifne_f, ↓J_X7_settle_11, ↓r_iconst, ↓r_ireturn, ↓I_X7_adjusts_60, ↓J_X7_settle_23, ↓r_bipush, ↓L_ist_n3, ↓L_ist_n3L, ↓L_ild_n3, ↓F_g60_0, ↓A_g3, ↓A_g4, ↓A_g5, ↓A_g6, ↓A_g7, ↓A_g9, ↓A_g10, ↓A_g12, ↓A_g13, ↓A_g15, ↓A_g16, ↓A_g19, ↓A_g20, ↓A_g21, ↓A_g22, ↓A_g23, ↓A_g25, ↓A_g26, ↓A_g28, ↓A_g29, ↓A_g31, ↓A_g32, ↓A_g34, ↓A_g36, ↓A_g37, ↓A_g38, ↓A_g39, ↓A_g41, ↓A_g42, ↓A_g43, ↓A_g44, ↓A_g61, ↓A_g62, ↓A_g63, ↓A_g65, ↓A_g66, ↓A_g67, ↓A_g68, ↓A_g69, ↓A_g70, ↓A_gN, ↓A_gT, ↓A_gC, ↓r_icge_t, ↓r_icge_f, ↓J_X7_settle_60, ↓F_g60_4, ↓A_b46, ↓A_z64, ↓r_ifeq_t, ↓r_ifeq_f, ↓J_X7_settle_50, ↓r_goto, ↓J_X7_settle_51, ↓I_X7_holds_60, ↓L_iinc3, ↓J_X7_settle_25, ↓F_g60_5, ↓r_iceq_t, ↓r_iceq_f, ↓J_X7_settle_88, ↓F_g60_10, ↓F_g60_6, ↓F_g60_7, ↓I_X7_splits__60, ↓I_X7_orNobody, ↓U_X7_settle_0, ↓U_X7_settle_11, ↓U_X7_settle_23, ↓U_X7_settle_25, ↓U_X7_settle_50, ↓U_X7_settle_51, ↓U_X7_settle_60, ↓U_X7_settle_88, ↓zthen_v, ↓zthen_0, zU_eq, zU_nc, zU_nj, m1]
