def okA (r : Int) : Int := if 0 ≤ c32 r ∨ c32 r = -5 then 1 else 0
theorem sgn_of {σ σ1 : zM} (h : ∀ j, σ1 46 j = σ 46 j) (h2 : σ1 45 1 = σ 45 1) : sgn σ1 = sgn σ := by
  funext i
  unfold sgn
  rw [h2, h i]
theorem CL_congr {v w s : zM} (h : sgn v = sgn w) {k p : Int} (hc : CL v s k p) : CL w s k p := by
  unfold CL nmX at hc ⊢
  rw [← h, ← dig_congr h]
  exact hc
theorem nCl_congr {v w : zM} (h : sgn v = sgn w) (h2 : v 45 1 = w 45 1) : ∀ (n : Nat) (a : Int), nCl v a n = nCl w a n
  | 0, a => rfl
  | n + 1, a => by rw [nCl, nCl, eoc_congr h, h2, nCl_congr h h2 n]
theorem psn_congr {v w : zM} (h : sgn v = sgn w) : ∀ (q : Nat) (a : Int), psn v a q = psn w a q
  | 0, a => rfl
  | q + 1, a => by rw [psn, psn, eoc_congr h, psn_congr h q]
theorem nCl_le (v : zM) : ∀ (n : Nat) (a : Int), nCl v a n ≤ n
  | 0, a => Nat.le_refl _
  | n + 1, a => by
    rw [nCl]
    have := nCl_le v n (eoc v a + 1)
    split <;> omega
theorem flt_b (v : zM) : ∀ (n : Nat) (a : Int), 0 ≤ a → -1 ≤ flt v a n ∧ flt v a n ≤ a + 6 * n + 6
  | 0, a, h => by rw [flt]; omega
  | n + 1, a, h => by
    have hb := eoc_bd v a h
    rw [flt]
    by_cases q : eoc v a < 0
    · rw [if_pos q]; omega
    · rw [if_neg q]
      have ih := flt_b v n (eoc v a + 1) (by omega)
      split
      · omega
      · split <;> omega
theorem flt_bd (v : zM) : -2147483648 ≤ flt v 0 14 ∧ flt v 0 14 < 2147483648 := by
  have := flt_b v 14 0 (by omega)
  omega
set_option maxRecDepth 20000 in
set_option maxHeartbeats 4000000 in
theorem rd_loop {f N : Int} (hf : -2147483648 ≤ f ∧ f < 0) (hN : N ≤ 14) : ∀ (n : Nat) (k a dn : Int) (σ τ : zM) (z4 z5 z6 : zV), k + n = 14 → 0 ≤ k → 0 ≤ a → a ≤ 6 * k → RelA σ τ → TX σ → flt σ a n < 0 → N = k + (nCl σ a n : Nat) → (∀ q : Nat, q < nCl σ a n → CL σ τ (k + q) (psn σ a q)) →
    ∃ (σ1 τ1 : zM) (d1 : Int) (y3 y4 y5 y6 x4 : zV), RelA σ1 τ1 ∧ FrC2 σ σ1 ∧ FrM2 τ τ1 ∧ zres 55 C_X6_read_19 [vR 0, vI f, vI dn, vI a, vI k, z5, z6] [] σ = zres 55 C_X6_read_82 [vR 0, vI f, vI d1, y3, y4, y5, y6] [] σ1 ∧ zres 170 C_X7_read_27 [vR 60, vI N, vI dn, vI k, z4] [] τ = zres 170 C_X7_read_65 [vR 60, vI N, vI d1, vI N, x4] [] τ1 := by
  intro n
  induction n with
  | zero =>
    intro k a dn σ τ z4 z5 z6 hk hk0 ha ha6 R hT hfl hNe hC
    rw [flt] at hfl
    omega
  | succ n ih =>
    intro k a dn σ τ z4 z5 z6 hk hk0 ha ha6 R hT hfl hNe hC
    have hsz := hT.1
    rw [flt] at hfl
    by_cases q1 : eoc σ a < 0
    · rw [if_pos q1] at hfl
      omega
    rw [if_neg q1] at hfl
    have hin : a < σ 45 1 := by
      have h1 := (eoc_nn (σ := σ) ha (by omega)).1
      by_cases g : a < σ 45 1
      · exact g
      · have : sgn σ a = -1 := by
          unfold sgn
          rw [if_neg (by omega)]
        rw [this] at h1
        exact absurd h1 (by decide)
    have hb := eoc_bd σ a ha
    have hn1 : 1 ≤ nCl σ a (n + 1) := by
      rw [nCl]
      split <;> omega
    have hC0 := hC 0 (by omega)
    rw [show k + ((0 : Nat) : Int) = k by omega, show psn σ a 0 = a from rfl] at hC0
    have ce := c_X4_endOfClause hT (i := a) (by omega)
    obtain ⟨r, σ1, τ1, o1, o2, R1, F1, F2⟩ := do_one R hT (p := a) (k := k) (by omega) (by omega) hC0 (by omega)
    have E : ∃ (y5 y6 x4 : zV), zres 55 C_X6_read_19 [vR 0, vI f, vI dn, vI a, vI k, z5, z6] [] σ = zres 55 C_X6_read_19 [vR 0, vI f, vI (dn + okA r), vI (eoc σ a + 1), vI (k + 1), y5, y6] [] σ1 ∧ zres 170 C_X7_read_27 [vR 60, vI N, vI dn, vI k, z4] [] τ = zres 170 C_X7_read_27 [vR 60, vI N, vI (dn + okA r), vI (k + 1), x4] [] τ1 := by
      refine ⟨vI (eoc σ a), vI r, vI r, ?_, ?_⟩
      · conv => lhs; rw [U_X6_read_19]
        by_cases g1 : 0 ≤ c32 r
        · rw [show okA r = 1 from if_pos (Or.inl g1)]
          simp (disch := first | exact z_tt rfl | assumption | omega | (simp (disch := omega) only [zU_eq, zU_nc, zU_nj]; omega)) only [↓L_ald_n0, ↓F_g0_6, ↓I_X4_fault_45, ↓L_ist_n1, ↓L_ist_n1L, ↓r_iconst, ↓L_ist_n2, ↓L_ist_n2L, ↓L_ild_n1, ↓r_ifge_t, ↓r_ifge_f, ↓J_X6_read_82, ↓L_ist_n3, ↓L_ist_n3L, ↓L_ist4, ↓L_ist4L, ↓L_ild4, ↓r_bipush, ↓r_icge_t, ↓r_icge_f, ↓L_ild_n3, ↓F_g45_1, ↓I_X4_endOfClause_45, ↓L_ist5, ↓L_ist5L, ↓L_ild5, ↓I_X6_doClause_0, ↓L_ist6, ↓L_ist6L, ↓L_ild6, ↓J_X6_read_68, ↓r_icne_t, ↓r_icne_f, ↓J_X6_read_71, ↓L_iinc2, ↓r_iadd, ↓L_iinc4, ↓r_goto, ↓J_X6_read_19, ↓F_p45_1, ↓J_X6_read_98, ↓L_ild_n2, ↓J_X6_read_102, ↓r_isub, ↓r_ireturn, ↓U_X6_read_0, ↓U_X6_read_68, ↓U_X6_read_71, ↓U_X6_read_82, ↓U_X6_read_98, ↓U_X6_read_102, ↓zthen_v, ↓zthen_0, zU_eq, zU_nc, zU_nj, ce, o1, ↓r_ifge_ct]
        · by_cases g2 : c32 r = -5
          · rw [show okA r = 1 from if_pos (Or.inr g2)]
            simp (disch := first | exact z_tt rfl | assumption | omega | (simp (disch := omega) only [zU_eq, zU_nc, zU_nj]; omega)) only [↓L_ald_n0, ↓F_g0_6, ↓I_X4_fault_45, ↓L_ist_n1, ↓L_ist_n1L, ↓r_iconst, ↓L_ist_n2, ↓L_ist_n2L, ↓L_ild_n1, ↓r_ifge_t, ↓r_ifge_f, ↓J_X6_read_82, ↓L_ist_n3, ↓L_ist_n3L, ↓L_ist4, ↓L_ist4L, ↓L_ild4, ↓r_bipush, ↓r_icge_t, ↓r_icge_f, ↓L_ild_n3, ↓F_g45_1, ↓I_X4_endOfClause_45, ↓L_ist5, ↓L_ist5L, ↓L_ild5, ↓I_X6_doClause_0, ↓L_ist6, ↓L_ist6L, ↓L_ild6, ↓J_X6_read_68, ↓r_icne_t, ↓r_icne_f, ↓J_X6_read_71, ↓L_iinc2, ↓r_iadd, ↓L_iinc4, ↓r_goto, ↓J_X6_read_19, ↓F_p45_1, ↓J_X6_read_98, ↓L_ild_n2, ↓J_X6_read_102, ↓r_isub, ↓r_ireturn, ↓U_X6_read_0, ↓U_X6_read_68, ↓U_X6_read_71, ↓U_X6_read_82, ↓U_X6_read_98, ↓U_X6_read_102, ↓zthen_v, ↓zthen_0, zU_eq, zU_nc, zU_nj, ce, o1, ↓r_ifge_cf, ↓r_icne_cf]
          · rw [show okA r = 0 from if_neg (fun h => h.elim g1 g2), Int.add_zero]
            simp (disch := first | exact z_tt rfl | assumption | omega | (simp (disch := omega) only [zU_eq, zU_nc, zU_nj]; omega)) only [↓L_ald_n0, ↓F_g0_6, ↓I_X4_fault_45, ↓L_ist_n1, ↓L_ist_n1L, ↓r_iconst, ↓L_ist_n2, ↓L_ist_n2L, ↓L_ild_n1, ↓r_ifge_t, ↓r_ifge_f, ↓J_X6_read_82, ↓L_ist_n3, ↓L_ist_n3L, ↓L_ist4, ↓L_ist4L, ↓L_ild4, ↓r_bipush, ↓r_icge_t, ↓r_icge_f, ↓L_ild_n3, ↓F_g45_1, ↓I_X4_endOfClause_45, ↓L_ist5, ↓L_ist5L, ↓L_ild5, ↓I_X6_doClause_0, ↓L_ist6, ↓L_ist6L, ↓L_ild6, ↓J_X6_read_68, ↓r_icne_t, ↓r_icne_f, ↓J_X6_read_71, ↓L_iinc2, ↓r_iadd, ↓L_iinc4, ↓r_goto, ↓J_X6_read_19, ↓F_p45_1, ↓J_X6_read_98, ↓L_ild_n2, ↓J_X6_read_102, ↓r_isub, ↓r_ireturn, ↓U_X6_read_0, ↓U_X6_read_68, ↓U_X6_read_71, ↓U_X6_read_82, ↓U_X6_read_98, ↓U_X6_read_102, ↓zthen_v, ↓zthen_0, zU_eq, zU_nc, zU_nj, ce, o1, ↓r_ifge_cf, ↓r_icne_ct]
      · conv => lhs; rw [U_X7_read_27]
        by_cases g1 : 0 ≤ c32 r
        · rw [show okA r = 1 from if_pos (Or.inl g1)]
          simp (disch := first | exact z_tt rfl | assumption | omega | (simp (disch := omega) only [zU_eq, zU_nc, zU_nj]; omega)) only [↓L_ald_n0, ↓I_X7_readsAll_60, ↓L_ist_n1, ↓L_ist_n1L, ↓r_iconst, ↓F_p60_17, ↓L_ild_n1, ↓r_icne_t, ↓r_icne_f, ↓J_X7_read_23, ↓r_bipush, ↓F_g60_18, ↓r_isub, ↓r_ireturn, ↓L_ist_n2, ↓L_ist_n2L, ↓L_ist_n3, ↓L_ist_n3L, ↓L_ild_n3, ↓r_icge_t, ↓r_icge_f, ↓J_X7_read_65, ↓I_X7_does_60, ↓L_ist4, ↓L_ist4L, ↓L_ild_n2, ↓L_ild4, ↓r_ifge_t, ↓r_ifge_f, ↓J_X7_read_52, ↓J_X7_read_56, ↓r_goto, ↓J_X7_read_57, ↓r_iadd, ↓L_iinc3, ↓J_X7_read_27, ↓U_X7_read_0, ↓U_X7_read_23, ↓U_X7_read_52, ↓U_X7_read_56, ↓U_X7_read_57, ↓U_X7_read_65, ↓zthen_v, ↓zthen_0, zU_eq, zU_nc, zU_nj, o2, ↓r_ifge_ct]
        · by_cases g2 : c32 r = -5
          · rw [show okA r = 1 from if_pos (Or.inr g2)]
            simp (disch := first | exact z_tt rfl | assumption | omega | (simp (disch := omega) only [zU_eq, zU_nc, zU_nj]; omega)) only [↓L_ald_n0, ↓I_X7_readsAll_60, ↓L_ist_n1, ↓L_ist_n1L, ↓r_iconst, ↓F_p60_17, ↓L_ild_n1, ↓r_icne_t, ↓r_icne_f, ↓J_X7_read_23, ↓r_bipush, ↓F_g60_18, ↓r_isub, ↓r_ireturn, ↓L_ist_n2, ↓L_ist_n2L, ↓L_ist_n3, ↓L_ist_n3L, ↓L_ild_n3, ↓r_icge_t, ↓r_icge_f, ↓J_X7_read_65, ↓I_X7_does_60, ↓L_ist4, ↓L_ist4L, ↓L_ild_n2, ↓L_ild4, ↓r_ifge_t, ↓r_ifge_f, ↓J_X7_read_52, ↓J_X7_read_56, ↓r_goto, ↓J_X7_read_57, ↓r_iadd, ↓L_iinc3, ↓J_X7_read_27, ↓U_X7_read_0, ↓U_X7_read_23, ↓U_X7_read_52, ↓U_X7_read_56, ↓U_X7_read_57, ↓U_X7_read_65, ↓zthen_v, ↓zthen_0, zU_eq, zU_nc, zU_nj, o2, ↓r_ifge_cf, ↓r_icne_cf]
          · rw [show okA r = 0 from if_neg (fun h => h.elim g1 g2), Int.add_zero]
            simp (disch := first | exact z_tt rfl | assumption | omega | (simp (disch := omega) only [zU_eq, zU_nc, zU_nj]; omega)) only [↓L_ald_n0, ↓I_X7_readsAll_60, ↓L_ist_n1, ↓L_ist_n1L, ↓r_iconst, ↓F_p60_17, ↓L_ild_n1, ↓r_icne_t, ↓r_icne_f, ↓J_X7_read_23, ↓r_bipush, ↓F_g60_18, ↓r_isub, ↓r_ireturn, ↓L_ist_n2, ↓L_ist_n2L, ↓L_ist_n3, ↓L_ist_n3L, ↓L_ild_n3, ↓r_icge_t, ↓r_icge_f, ↓J_X7_read_65, ↓I_X7_does_60, ↓L_ist4, ↓L_ist4L, ↓L_ild_n2, ↓L_ild4, ↓r_ifge_t, ↓r_ifge_f, ↓J_X7_read_52, ↓J_X7_read_56, ↓r_goto, ↓J_X7_read_57, ↓r_iadd, ↓L_iinc3, ↓J_X7_read_27, ↓U_X7_read_0, ↓U_X7_read_23, ↓U_X7_read_52, ↓U_X7_read_56, ↓U_X7_read_57, ↓U_X7_read_65, ↓zthen_v, ↓zthen_0, zU_eq, zU_nc, zU_nj, o2, ↓r_ifge_cf, ↓r_icne_ct, Int.add_zero]
    obtain ⟨y5, y6, x4, E1, E2⟩ := E
    have e45 : σ1 45 1 = σ 45 1 := F1 _ _ (by omega)
    have es : sgn σ1 = sgn σ := sgn_of (fun j => F1 _ _ (by omega)) e45
    rw [E1, E2]
    by_cases q2 : eoc σ a = σ 45 1
    · have en : nCl σ a (n + 1) = 1 := by rw [nCl, if_pos q2]
      refine ⟨σ1, τ1, dn + okA r, vI (eoc σ a + 1), vI (k + 1), y5, y6, x4, R1, F1, F2, ?_, ?_⟩
      · rw [U_X6_read_19]
        by_cases g : k + 1 < 14
        · simp (disch := first | exact z_tt rfl | assumption | omega | (simp (disch := omega) only [zU_eq, zU_nc, zU_nj]; omega)) only [↓L_ald_n0, ↓F_g0_6, ↓I_X4_fault_45, ↓L_ist_n1, ↓L_ist_n1L, ↓r_iconst, ↓L_ist_n2, ↓L_ist_n2L, ↓L_ild_n1, ↓r_ifge_t, ↓r_ifge_f, ↓J_X6_read_82, ↓L_ist_n3, ↓L_ist_n3L, ↓L_ist4, ↓L_ist4L, ↓L_ild4, ↓r_bipush, ↓r_icge_t, ↓r_icge_f, ↓L_ild_n3, ↓F_g45_1, ↓I_X4_endOfClause_45, ↓L_ist5, ↓L_ist5L, ↓L_ild5, ↓I_X6_doClause_0, ↓L_ist6, ↓L_ist6L, ↓L_ild6, ↓J_X6_read_68, ↓r_icne_t, ↓r_icne_f, ↓J_X6_read_71, ↓L_iinc2, ↓r_iadd, ↓L_iinc4, ↓r_goto, ↓J_X6_read_19, ↓F_p45_1, ↓J_X6_read_98, ↓L_ild_n2, ↓J_X6_read_102, ↓r_isub, ↓r_ireturn, ↓U_X6_read_0, ↓U_X6_read_68, ↓U_X6_read_71, ↓U_X6_read_98, ↓U_X6_read_102, ↓zthen_v, ↓zthen_0, zU_eq, zU_nc, zU_nj]
        · simp (disch := first | exact z_tt rfl | assumption | omega | (simp (disch := omega) only [zU_eq, zU_nc, zU_nj]; omega)) only [↓L_ald_n0, ↓F_g0_6, ↓I_X4_fault_45, ↓L_ist_n1, ↓L_ist_n1L, ↓r_iconst, ↓L_ist_n2, ↓L_ist_n2L, ↓L_ild_n1, ↓r_ifge_t, ↓r_ifge_f, ↓J_X6_read_82, ↓L_ist_n3, ↓L_ist_n3L, ↓L_ist4, ↓L_ist4L, ↓L_ild4, ↓r_bipush, ↓r_icge_t, ↓r_icge_f, ↓L_ild_n3, ↓F_g45_1, ↓I_X4_endOfClause_45, ↓L_ist5, ↓L_ist5L, ↓L_ild5, ↓I_X6_doClause_0, ↓L_ist6, ↓L_ist6L, ↓L_ild6, ↓J_X6_read_68, ↓r_icne_t, ↓r_icne_f, ↓J_X6_read_71, ↓L_iinc2, ↓r_iadd, ↓L_iinc4, ↓r_goto, ↓J_X6_read_19, ↓F_p45_1, ↓J_X6_read_98, ↓L_ild_n2, ↓J_X6_read_102, ↓r_isub, ↓r_ireturn, ↓U_X6_read_0, ↓U_X6_read_68, ↓U_X6_read_71, ↓U_X6_read_98, ↓U_X6_read_102, ↓zthen_v, ↓zthen_0, zU_eq, zU_nc, zU_nj]
      · have eN : N = k + 1 := by omega
        rw [U_X7_read_27, eN]
        simp (disch := first | exact z_tt rfl | assumption | omega | (simp (disch := omega) only [zU_eq, zU_nc, zU_nj]; omega)) only [↓L_ald_n0, ↓I_X7_readsAll_60, ↓L_ist_n1, ↓L_ist_n1L, ↓r_iconst, ↓F_p60_17, ↓L_ild_n1, ↓r_icne_t, ↓r_icne_f, ↓J_X7_read_23, ↓r_bipush, ↓F_g60_18, ↓r_isub, ↓r_ireturn, ↓L_ist_n2, ↓L_ist_n2L, ↓L_ist_n3, ↓L_ist_n3L, ↓L_ild_n3, ↓r_icge_t, ↓r_icge_f, ↓J_X7_read_65, ↓I_X7_does_60, ↓L_ist4, ↓L_ist4L, ↓L_ild_n2, ↓L_ild4, ↓r_ifge_t, ↓r_ifge_f, ↓J_X7_read_52, ↓J_X7_read_56, ↓r_goto, ↓J_X7_read_57, ↓r_iadd, ↓L_iinc3, ↓J_X7_read_27, ↓U_X7_read_0, ↓U_X7_read_23, ↓U_X7_read_52, ↓U_X7_read_56, ↓U_X7_read_57, ↓zthen_v, ↓zthen_0, zU_eq, zU_nc, zU_nj]
    · rw [if_neg q2] at hfl
      have q3 : ¬ (n = 0 ∨ ¬ sgn σ (eoc σ a) = 59) := fun h => by
        rw [if_pos h] at hfl
        omega
      rw [if_neg q3] at hfl
      have en : nCl σ a (n + 1) = nCl σ (eoc σ a + 1) n + 1 := by rw [nCl, if_neg q2]
      have hT1 : TX σ1 := ⟨by rw [e45]; exact hsz, fun j c d => by rw [F1 _ _ (by omega)]; exact hT.2 j c d⟩
      have nc := nCl_congr es e45 n (eoc σ a + 1)
      obtain ⟨σ2, τ2, d1, w3, w4, w5, w6, v4, R2, G1, G2, E3, E4⟩ := ih (k + 1) (eoc σ a + 1) (dn + okA r) σ1 τ1 x4 y5 y6 (by omega) (by omega) (by omega) (by omega) R1 hT1 (by rw [flt_congr es e45]; exact hfl) (by rw [nc]; omega) (fun q hq => by
        rw [nc] at hq
        have h := hC (q + 1) (by omega)
        rw [psn] at h
        rw [psn_congr es, show k + 1 + (q : Int) = k + ((q + 1 : Nat) : Int) by omega]
        refine CL_congr es.symm ?_
        obtain ⟨h1, h2⟩ := h
        refine ⟨by rw [F2 _ _ (by omega)]; exact h1, fun i x y => by rw [F2 _ _ (by omega)]; exact h2 i x y⟩)
      exact ⟨σ2, τ2, d1, w3, w4, w5, w6, v4, R2, fun c j h => by rw [G1 c j h, F1 c j h], fun c j h => by rw [G2 c j h, F2 c j h], E3, E4⟩
def FrR (σ σ1 : zM) : Prop := ∀ c j : Int, (c < 1 ∨ (16 < c ∧ c < 33) ∨ (34 < c ∧ c < 45) ∨ 45 < c) → σ1 c j = σ c j
def FrS (τ τ1 : zM) : Prop := ∀ c j : Int, (c < 60 ∨ (61 < c ∧ c < 64) ∨ (64 < c ∧ c < 68) ∨ 68 < c ∨ (c = 60 ∧ (j < 5 ∨ (10 < j ∧ j < 17) ∨ 18 < j))) → τ1 c j = τ c j
set_option maxRecDepth 20000 in
set_option maxHeartbeats 4000000 in
theorem op_read {σ τ : zM} (R : RelA σ τ) (RX : RelX σ τ) : ∃ r σ1 τ1, zcall 55 [vR 0] σ = some (some (vI r), σ1) ∧ zcall 170 [vR 60] τ = some (some (vI r), τ1) ∧ RelA σ1 τ1 ∧ RelX σ1 τ1 ∧ FrR σ σ1 ∧ FrS τ τ1 := by
  obtain ⟨hT, hV, h17, h67⟩ := RX
  have hs := RelX_sgn ⟨hT, hV, h17, h67⟩
  have e45 : vw τ 45 1 = σ 45 1 := h17
  have cf := c_X4_fault hT
  obtain ⟨M1, M2⟩ := m_readsAll hV
  rw [flt_congr hs e45] at M1 M2
  rw [nCl_congr hs e45] at M2
  have hle := nCl_le σ 14 0
  have fb : -2147483648 ≤ flt σ 0 14 ∧ flt σ 0 14 < 2147483648 := flt_bd σ
  have XX : ∀ (σ1 τ1 : zM), σ1 45 1 = 0 → (∀ j, σ1 46 j = σ 46 j) → τ1 60 17 = 0 → (∀ j, τ1 67 j = τ 67 j) → RelX σ1 τ1 := fun σ1 τ1 a b c d => ⟨⟨by omega, fun j x y => by rw [b]; exact hT.2 j x y⟩, ⟨by omega, fun j x y => by rw [d]; exact hV.2 j x y⟩, by omega, fun j x y => by omega⟩
  by_cases q : 0 ≤ flt σ 0 14
  · obtain ⟨s', m1, m2, m3⟩ := M1 q
    refine ⟨-10 - flt σ 0 14, zU σ 45 1 0, zU s' 60 17 0, ?_, ?_, ⟨Rel1_fr R.1 (fun c j a b => zU_nc _ _ _ _ _ _ (by omega)) (fun j => by rw [zU_nc _ _ _ _ _ _ (by omega)]; exact m3 _ _ (by omega) (by omega)), fun t a b => by rw [zU_nc _ _ _ _ _ _ (by omega)]; exact R.2.1 t a b, fun t a b => by rw [zU_nc _ _ _ _ _ _ (by omega), m3 _ _ (by omega) (by omega)]; exact R.2.2 t a b⟩, XX _ _ (zU_eq _ _ _ _) (fun j => zU_nc _ _ _ _ _ _ (by omega)) (zU_eq _ _ _ _) (fun j => by rw [zU_nc _ _ _ _ _ _ (by omega)]; exact m3 _ _ (by omega) (by omega)), fun c j h => zU_nc _ _ _ _ _ _ (by omega), fun c j h => by rw [zU_ow _ _ _ _ _ _ (by omega)]; exact m3 _ _ (by omega) (by omega)⟩
    · rw [S_X6_read]
      simp (disch := first | exact z_tt rfl | assumption | omega | (simp (disch := omega) only [zU_eq, zU_nc, zU_nj]; omega)) only [↓L_ald_n0, ↓F_g0_6, ↓I_X4_fault_45, ↓L_ist_n1, ↓L_ist_n1L, ↓r_iconst, ↓L_ist_n2, ↓L_ist_n2L, ↓L_ild_n1, ↓r_ifge_t, ↓r_ifge_f, ↓J_X6_read_82, ↓L_ist_n3, ↓L_ist_n3L, ↓L_ist4, ↓L_ist4L, ↓L_ild4, ↓r_bipush, ↓r_icge_t, ↓r_icge_f, ↓L_ild_n3, ↓F_g45_1, ↓I_X4_endOfClause_45, ↓L_ist5, ↓L_ist5L, ↓L_ild5, ↓I_X6_doClause_0, ↓L_ist6, ↓L_ist6L, ↓L_ild6, ↓J_X6_read_68, ↓r_icne_t, ↓r_icne_f, ↓J_X6_read_71, ↓L_iinc2, ↓r_iadd, ↓L_iinc4, ↓r_goto, ↓J_X6_read_19, ↓F_p45_1, ↓J_X6_read_98, ↓L_ild_n2, ↓J_X6_read_102, ↓r_isub, ↓r_ireturn, ↓U_X6_read_0, ↓U_X6_read_68, ↓U_X6_read_71, ↓U_X6_read_82, ↓U_X6_read_98, ↓U_X6_read_102, ↓zthen_v, ↓zthen_0, zU_eq, zU_nc, zU_nj, cf]
    · rw [S_X7_read]
      simp (disch := first | exact z_tt rfl | assumption | omega | (simp (disch := omega) only [zU_eq, zU_nc, zU_nj]; omega)) only [↓L_ald_n0, ↓I_X7_readsAll_60, ↓L_ist_n1, ↓L_ist_n1L, ↓r_iconst, ↓F_p60_17, ↓L_ild_n1, ↓r_icne_t, ↓r_icne_f, ↓J_X7_read_23, ↓r_bipush, ↓F_g60_18, ↓r_isub, ↓r_ireturn, ↓L_ist_n2, ↓L_ist_n2L, ↓L_ist_n3, ↓L_ist_n3L, ↓L_ild_n3, ↓r_icge_t, ↓r_icge_f, ↓J_X7_read_65, ↓I_X7_does_60, ↓L_ist4, ↓L_ist4L, ↓L_ild_n2, ↓L_ild4, ↓r_ifge_t, ↓r_ifge_f, ↓J_X7_read_52, ↓J_X7_read_56, ↓r_goto, ↓J_X7_read_57, ↓r_iadd, ↓L_iinc3, ↓J_X7_read_27, ↓U_X7_read_0, ↓U_X7_read_23, ↓U_X7_read_52, ↓U_X7_read_56, ↓U_X7_read_57, ↓U_X7_read_65, ↓zthen_v, ↓zthen_0, zU_eq, zU_nc, zU_nj, m1, m2]
  · obtain ⟨s', m1, m2, m3⟩ := M2 (by omega)
    have FA : ∀ c j : Int, ¬ c = 60 → ¬ c = 68 → zU s' 60 17 0 c j = τ c j := fun c j a b => by rw [zU_ow _ _ _ _ _ _ (by omega)]; exact m2 _ _ (by omega) b
    have FA60 : ∀ j : Int, ¬ j = 17 → ¬ j = 18 → zU s' 60 17 0 60 j = τ 60 j := fun j a b => by rw [zU_ow _ _ _ _ _ _ (by omega)]; exact m2 _ _ (by omega) (by omega)
    have RA' : RelA σ (zU s' 60 17 0) := ⟨Rel1_fr R.1 (fun _ _ _ _ => rfl) (fun j => FA _ _ (by omega) (by omega)), R.2.1, fun t a b => by rw [FA _ _ (by omega) (by omega)]; exact R.2.2 t a b⟩
    obtain ⟨σ1, τ1, d1, y3, y4, y5, y6, x4, R1, F1, F2, E1, E2⟩ := rd_loop (f := flt σ 0 14) (N := (nCl σ 0 14 : Nat)) (by omega) (by omega) 14 0 0 0 σ (zU s' 60 17 0) vU vU vU (by omega) (by omega) (by omega) (by omega) RA' hT (by omega) (by omega) (fun q hq => by
      have h := m3 q hq
      rw [psn_congr hs] at h
      have h2 := CL_congr hs h
      obtain ⟨a1, a2⟩ := h2
      rw [show (0 : Int) + (q : Int) = q by omega]
      exact ⟨by rw [zU_nc _ _ _ _ _ _ (by omega)]; exact a1, fun i x y => by rw [zU_nc _ _ _ _ _ _ (by omega)]; exact a2 i x y⟩)
    refine ⟨d1, zU σ1 45 1 0, τ1, ?_, ?_, ⟨Rel1_fr R1.1 (fun c j a b => zU_nc _ _ _ _ _ _ (by omega)) (fun _ => rfl), fun t a b => by rw [zU_nc _ _ _ _ _ _ (by omega)]; exact R1.2.1 t a b, R1.2.2⟩, XX _ _ (zU_eq _ _ _ _) (fun j => by rw [zU_nc _ _ _ _ _ _ (by omega)]; exact F1 _ _ (by omega)) (by rw [F2 _ _ (by omega)]; exact zU_eq _ _ _ _) (fun j => by rw [F2 _ _ (by omega)]; exact FA _ _ (by omega) (by omega)), fun c j h => by rw [zU_nc _ _ _ _ _ _ (by omega)]; exact F1 _ _ (by omega), fun c j h => ?_⟩
    · rw [S_X6_read]
      simp (disch := first | exact z_tt rfl | assumption | omega | (simp (disch := omega) only [zU_eq, zU_nc, zU_nj]; omega)) only [↓L_ald_n0, ↓F_g0_6, ↓I_X4_fault_45, ↓L_ist_n1, ↓L_ist_n1L, ↓r_iconst, ↓L_ist_n2, ↓L_ist_n2L, ↓L_ild_n1, ↓r_ifge_t, ↓r_ifge_f, ↓J_X6_read_82, ↓L_ist_n3, ↓L_ist_n3L, ↓L_ist4, ↓L_ist4L, ↓L_ild4, ↓r_bipush, ↓r_icge_t, ↓r_icge_f, ↓L_ild_n3, ↓F_g45_1, ↓I_X4_endOfClause_45, ↓L_ist5, ↓L_ist5L, ↓L_ild5, ↓I_X6_doClause_0, ↓L_ist6, ↓L_ist6L, ↓L_ild6, ↓J_X6_read_68, ↓r_icne_t, ↓r_icne_f, ↓J_X6_read_71, ↓L_iinc2, ↓r_iadd, ↓L_iinc4, ↓r_goto, ↓J_X6_read_19, ↓F_p45_1, ↓J_X6_read_98, ↓L_ild_n2, ↓J_X6_read_102, ↓r_isub, ↓r_ireturn, ↓U_X6_read_0, ↓U_X6_read_68, ↓U_X6_read_71, ↓U_X6_read_98, ↓U_X6_read_102, ↓zthen_v, ↓zthen_0, zU_eq, zU_nc, zU_nj, cf]
      rw [E1, U_X6_read_82]
      simp (disch := first | exact z_tt rfl | assumption | omega | (simp (disch := omega) only [zU_eq, zU_nc, zU_nj]; omega)) only [↓L_ald_n0, ↓F_g0_6, ↓I_X4_fault_45, ↓L_ist_n1, ↓L_ist_n1L, ↓r_iconst, ↓L_ist_n2, ↓L_ist_n2L, ↓L_ild_n1, ↓r_ifge_t, ↓r_ifge_f, ↓J_X6_read_82, ↓L_ist_n3, ↓L_ist_n3L, ↓L_ist4, ↓L_ist4L, ↓L_ild4, ↓r_bipush, ↓r_icge_t, ↓r_icge_f, ↓L_ild_n3, ↓F_g45_1, ↓I_X4_endOfClause_45, ↓L_ist5, ↓L_ist5L, ↓L_ild5, ↓I_X6_doClause_0, ↓L_ist6, ↓L_ist6L, ↓L_ild6, ↓J_X6_read_68, ↓r_icne_t, ↓r_icne_f, ↓J_X6_read_71, ↓L_iinc2, ↓r_iadd, ↓L_iinc4, ↓r_goto, ↓J_X6_read_19, ↓F_p45_1, ↓J_X6_read_98, ↓L_ild_n2, ↓J_X6_read_102, ↓r_isub, ↓r_ireturn, ↓U_X6_read_0, ↓U_X6_read_68, ↓U_X6_read_71, ↓U_X6_read_98, ↓U_X6_read_102, ↓zthen_v, ↓zthen_0, zU_eq, zU_nc, zU_nj]
    · rw [S_X7_read]
      simp (disch := first | exact z_tt rfl | assumption | omega | (simp (disch := omega) only [zU_eq, zU_nc, zU_nj]; omega)) only [↓L_ald_n0, ↓I_X7_readsAll_60, ↓L_ist_n1, ↓L_ist_n1L, ↓r_iconst, ↓F_p60_17, ↓L_ild_n1, ↓r_icne_t, ↓r_icne_f, ↓J_X7_read_23, ↓r_bipush, ↓F_g60_18, ↓r_isub, ↓r_ireturn, ↓L_ist_n2, ↓L_ist_n2L, ↓L_ist_n3, ↓L_ist_n3L, ↓L_ild_n3, ↓r_icge_t, ↓r_icge_f, ↓J_X7_read_65, ↓I_X7_does_60, ↓L_ist4, ↓L_ist4L, ↓L_ild_n2, ↓L_ild4, ↓r_ifge_t, ↓r_ifge_f, ↓J_X7_read_52, ↓J_X7_read_56, ↓r_goto, ↓J_X7_read_57, ↓r_iadd, ↓L_iinc3, ↓J_X7_read_27, ↓U_X7_read_0, ↓U_X7_read_23, ↓U_X7_read_52, ↓U_X7_read_56, ↓U_X7_read_57, ↓zthen_v, ↓zthen_0, zU_eq, zU_nc, zU_nj, m1]
      rw [E2, U_X7_read_65]
      simp (disch := first | exact z_tt rfl | assumption | omega | (simp (disch := omega) only [zU_eq, zU_nc, zU_nj]; omega)) only [↓L_ald_n0, ↓I_X7_readsAll_60, ↓L_ist_n1, ↓L_ist_n1L, ↓r_iconst, ↓F_p60_17, ↓L_ild_n1, ↓r_icne_t, ↓r_icne_f, ↓J_X7_read_23, ↓r_bipush, ↓F_g60_18, ↓r_isub, ↓r_ireturn, ↓L_ist_n2, ↓L_ist_n2L, ↓L_ist_n3, ↓L_ist_n3L, ↓L_ild_n3, ↓r_icge_t, ↓r_icge_f, ↓J_X7_read_65, ↓I_X7_does_60, ↓L_ist4, ↓L_ist4L, ↓L_ild_n2, ↓L_ild4, ↓r_ifge_t, ↓r_ifge_f, ↓J_X7_read_52, ↓J_X7_read_56, ↓r_goto, ↓J_X7_read_57, ↓r_iadd, ↓L_iinc3, ↓J_X7_read_27, ↓U_X7_read_0, ↓U_X7_read_23, ↓U_X7_read_52, ↓U_X7_read_56, ↓U_X7_read_57, ↓zthen_v, ↓zthen_0, zU_eq, zU_nc, zU_nj]
    · rw [F2 _ _ (by omega)]
      by_cases g : c = 60
      · subst g; exact FA60 _ (by omega) (by omega)
      · exact FA _ _ g (by omega)
