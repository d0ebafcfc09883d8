/-! fair, fairest, told -/
theorem PN_R {σ τ : zM} (R : Rel1 σ τ) : PN (fun p t => σ (3 + p) t) (σ 1 1) (σ 1 0) := fun p t a b c d => by
  have hn := R.n
  have hm := R.m
  exact R.ptr p t a (by omega) c (by omega)
set_option maxRecDepth 20000 in
set_option maxHeartbeats 4000000 in
theorem wy_both {σ τ : zM} (R : Rel1 σ τ) : ∃ s1 t1, zcall 35 [vR 35, vR 2, vI (σ 1 0), vI (σ 1 1)] σ = some (none, s1) ∧ zcall 159 [vR 60] τ = some (none, t1) ∧ FrX σ s1 ∧ FrV τ t1 ∧ s1 35 7 = t1 60 13 ∧ s1 35 8 = t1 60 14 ∧ s1 35 9 = t1 60 15 ∧ (∀ u : Int, 0 ≤ u → u < σ 1 1 → s1 39 u = t1 66 u) ∧ (0 ≤ s1 35 7 ∧ s1 35 7 ≤ 594) ∧ (1 ≤ s1 35 8 ∧ s1 35 8 ≤ 594) := by
  have hn := R.n
  have hm := R.m
  obtain ⟨s1, ⟨v1, v2, v3, v4, v5⟩, F1, E1⟩ := c_search (s := σ) (PN_R R) (by omega) (by omega) (fun q t a b c d => rfl)
  obtain ⟨t1, w, ⟨u3, u4, u5⟩, F2, E2⟩ := m_searches (t := τ) (PN_R R) (by omega) (by omega) ⟨hn.2.2, hm.2.2, fun p u a b c d => R.pt p u a (by omega) c d⟩
  obtain ⟨⟨g1, g2⟩, g3⟩ := scn_GB (PN_R R) (by omega) (by omega) (σ 1 1).toNat W0 B0 ⟨⟨by decide, by decide⟩, by decide, by decide⟩
  rcases v5 with h | ⟨v5, v6⟩
  · omega
  rcases u5 with h | ⟨u5, u6⟩
  · omega
  exact ⟨s1, t1, E1, E2, F1, F2, by rw [v3, u3], by rw [v4, u4], by rw [v5, u5], fun u a b => by rw [v6 u a b, u6 u a b], by omega, by omega⟩
def SameW (k : Int → zV) (σ τ : zM) (xc xm : Option (Option zV × zM)) : Prop := ∃ r σ1 τ1, xc = some (some (k r), σ1) ∧ xm = some (some (k r), τ1) ∧ Rel1 σ1 τ1 ∧ FrX σ σ1 ∧ FrV τ τ1
theorem SameW_id {k : Int → zV} {σ τ : zM} {xc xm : Option (Option zV × zM)} (R : Rel1 σ τ) (r : Int) (h1 : xc = some (some (k r), σ)) (h2 : xm = some (some (k r), τ)) : SameW k σ τ xc xm := ⟨r, σ, τ, h1, h2, R, fun _ _ _ => rfl, fun _ _ _ => rfl⟩
theorem Rel1_W {σ τ s1 t1 : zM} (R : Rel1 σ τ) (F1 : FrX σ s1) (F2 : FrV τ t1) : Rel1 s1 t1 := Rel1_fr R (fun c j a b => F1 _ _ (by omega)) (fun j => F2 _ _ (by omega))
set_option maxRecDepth 20000 in
set_option maxHeartbeats 4000000 in
theorem op_fair {σ τ : zM} {t : Int} (R : Rel1 σ τ) (ht : -2147483648 ≤ t ∧ t < 2147483648) : SameW vI σ τ (zcall 67 [vR 0, vI t] σ) (zcall 160 [vR 60, vI t] τ) := by
  have hn := R.n
  have hm := R.m
  by_cases q2 : 0 ≤ t ∧ t < σ 1 1
  · have c2 := c_X6_isThing_t (σ := σ) (p := t) q2 (by omega)
    have m2 := m_isThing_t (σ := τ) (p := t) (by omega) (by omega)
    obtain ⟨s1, t1, c3, m3, F1, F2, e1, e2, e3, e4, b1, b2⟩ := wy_both R
    have e := e4 t q2.1 q2.2
    refine ⟨(s1 39 t), s1, t1, ?_, ?_, Rel1_W R F1 F2, F1, F2⟩
    · rw [S_X6_fair]
      simp (disch := first | exact z_tt rfl | assumption | omega | (simp (disch := omega) only [zU_eq, zU_nc, zU_nj]; omega)) only [↓L_ald_n0, ↓L_ild_n1, ↓I_X6_isThing_0, ↓r_ifne_t, ↓r_ifne_f, ↓J_X6_fair_10, ↓r_iconst, ↓r_ireturn, ↓F_g0_4, ↓F_g0_0, ↓F_g1_2, ↓F_g17_2, ↓F_g1_0, ↓F_g17_0, ↓F_g1_1, ↓F_g17_1, ↓I_X5_search_35, ↓F_g35_6, ↓A_g3, ↓A_g4, ↓A_g5, ↓A_g6, ↓A_g7, ↓A_g9, ↓A_g10, ↓A_g12, ↓A_g13, ↓A_g15, ↓A_g16, ↓A_g19, ↓A_g20, ↓A_g21, ↓A_g22, ↓A_g23, ↓A_g25, ↓A_g26, ↓A_g28, ↓A_g29, ↓A_g31, ↓A_g32, ↓A_g34, ↓A_g36, ↓A_g37, ↓A_g38, ↓A_g39, ↓A_g41, ↓A_g42, ↓A_g43, ↓A_g44, ↓A_g61, ↓A_g62, ↓A_g63, ↓A_g65, ↓A_g66, ↓A_g67, ↓A_g68, ↓A_g69, ↓A_g70, ↓A_gN, ↓A_gT, ↓A_gC, ↓U_X6_fair_0, ↓U_X6_fair_10, ↓zthen_v, ↓zthen_0, zU_eq, zU_nc, zU_nj, c2, c3]
    · rw [S_X7_fair, e]
      simp (disch := first | exact z_tt rfl | assumption | omega | (simp (disch := omega) only [zU_eq, zU_nc, zU_nj]; omega)) only [↓L_ald_n0, ↓L_ild_n1, ↓I_X7_isThing_60, ↓r_ifne_t, ↓r_ifne_f, ↓J_X7_fair_10, ↓r_iconst, ↓r_ireturn, ↓I_X7_searches_60, ↓F_g60_12, ↓A_g3, ↓A_g4, ↓A_g5, ↓A_g6, ↓A_g7, ↓A_g9, ↓A_g10, ↓A_g12, ↓A_g13, ↓A_g15, ↓A_g16, ↓A_g19, ↓A_g20, ↓A_g21, ↓A_g22, ↓A_g23, ↓A_g25, ↓A_g26, ↓A_g28, ↓A_g29, ↓A_g31, ↓A_g32, ↓A_g34, ↓A_g36, ↓A_g37, ↓A_g38, ↓A_g39, ↓A_g41, ↓A_g42, ↓A_g43, ↓A_g44, ↓A_g61, ↓A_g62, ↓A_g63, ↓A_g65, ↓A_g66, ↓A_g67, ↓A_g68, ↓A_g69, ↓A_g70, ↓A_gN, ↓A_gT, ↓A_gC, ↓U_X7_fair_0, ↓U_X7_fair_10, ↓zthen_v, ↓zthen_0, zU_eq, zU_nc, zU_nj, m2, m3]
  · have c2 := c_X6_isThing_f (σ := σ) (p := t) (by omega) (by omega)
    have m2 := m_isThing_f (σ := τ) (p := t) (by omega) (by omega)
    refine SameW_id R (-1) ?_ ?_
    · rw [S_X6_fair]
      simp (disch := first | exact z_tt rfl | assumption | omega | (simp (disch := omega) only [zU_eq, zU_nc, zU_nj]; omega)) only [↓L_ald_n0, ↓L_ild_n1, ↓I_X6_isThing_0, ↓r_ifne_t, ↓r_ifne_f, ↓J_X6_fair_10, ↓r_iconst, ↓r_ireturn, ↓F_g0_4, ↓F_g0_0, ↓F_g1_2, ↓F_g17_2, ↓F_g1_0, ↓F_g17_0, ↓F_g1_1, ↓F_g17_1, ↓I_X5_search_35, ↓F_g35_6, ↓A_g3, ↓A_g4, ↓A_g5, ↓A_g6, ↓A_g7, ↓A_g9, ↓A_g10, ↓A_g12, ↓A_g13, ↓A_g15, ↓A_g16, ↓A_g19, ↓A_g20, ↓A_g21, ↓A_g22, ↓A_g23, ↓A_g25, ↓A_g26, ↓A_g28, ↓A_g29, ↓A_g31, ↓A_g32, ↓A_g34, ↓A_g36, ↓A_g37, ↓A_g38, ↓A_g39, ↓A_g41, ↓A_g42, ↓A_g43, ↓A_g44, ↓A_g61, ↓A_g62, ↓A_g63, ↓A_g65, ↓A_g66, ↓A_g67, ↓A_g68, ↓A_g69, ↓A_g70, ↓A_gN, ↓A_gT, ↓A_gC, ↓U_X6_fair_0, ↓U_X6_fair_10, ↓zthen_v, ↓zthen_0, zU_eq, zU_nc, zU_nj, c2]
    · rw [S_X7_fair]
      simp (disch := first | exact z_tt rfl | assumption | omega | (simp (disch := omega) only [zU_eq, zU_nc, zU_nj]; omega)) only [↓L_ald_n0, ↓L_ild_n1, ↓I_X7_isThing_60, ↓r_ifne_t, ↓r_ifne_f, ↓J_X7_fair_10, ↓r_iconst, ↓r_ireturn, ↓I_X7_searches_60, ↓F_g60_12, ↓A_g3, ↓A_g4, ↓A_g5, ↓A_g6, ↓A_g7, ↓A_g9, ↓A_g10, ↓A_g12, ↓A_g13, ↓A_g15, ↓A_g16, ↓A_g19, ↓A_g20, ↓A_g21, ↓A_g22, ↓A_g23, ↓A_g25, ↓A_g26, ↓A_g28, ↓A_g29, ↓A_g31, ↓A_g32, ↓A_g34, ↓A_g36, ↓A_g37, ↓A_g38, ↓A_g39, ↓A_g41, ↓A_g42, ↓A_g43, ↓A_g44, ↓A_g61, ↓A_g62, ↓A_g63, ↓A_g65, ↓A_g66, ↓A_g67, ↓A_g68, ↓A_g69, ↓A_g70, ↓A_gN, ↓A_gT, ↓A_gC, ↓U_X7_fair_0, ↓U_X7_fair_10, ↓zthen_v, ↓zthen_0, zU_eq, zU_nc, zU_nj, m2]
set_option maxRecDepth 20000 in
set_option maxHeartbeats 4000000 in
theorem op_fairest {σ τ : zM} {w : Int} (R : Rel1 σ τ) (hw : -2147483648 ≤ w ∧ w < 2147483648) : SameW vL σ τ (zcall 68 [vR 0, vI w] σ) (zcall 161 [vR 60, vI w] τ) := by
  have hn := R.n
  have hm := R.m
  by_cases q2 : 0 ≤ w ∧ w ≤ 1
  · have c2 := c_X6_isPart_t (σ := σ) (p := w) q2
    have m2 := m_isPart_t (σ := τ) (p := w) q2
    obtain ⟨s1, t1, c3, m3, F1, F2, e1, e2, e3, e4, b1, b2⟩ := wy_both R
    have c4 := c_X6_inLowestTerms (σ := s1) (a := s1 35 7) (b := s1 35 8) (part := w) (by omega) (by omega) (by omega)
    have m4 := m_lowest (σ := t1) (a := t1 60 13) (b := t1 60 14) (part := w) (by omega) (by omega) (by omega)
    refine ⟨(lowT (s1 35 7) (s1 35 8) w), s1, t1, ?_, ?_, Rel1_W R F1 F2, F1, F2⟩
    · rw [S_X6_fairest]
      simp (disch := first | exact z_tt rfl | assumption | omega | (simp (disch := omega) only [zU_eq, zU_nc, zU_nj]; omega)) only [↓L_ild_n1, ↓I_X6_isPart, ↓r_ifne_t, ↓r_ifne_f, ↓J_X6_fairest_11, ↓r_ldc2w, ↓r_lreturn, ↓L_ald_n0, ↓F_g0_4, ↓F_g0_0, ↓F_g1_2, ↓F_g17_2, ↓F_g1_0, ↓F_g17_0, ↓F_g1_1, ↓F_g17_1, ↓I_X5_search_35, ↓F_g35_7, ↓F_g35_8, ↓I_X6_inLowestTerms, ↓U_X6_fairest_0, ↓U_X6_fairest_11, ↓zthen_v, ↓zthen_0, zU_eq, zU_nc, zU_nj, c2, c3, c4]
    · rw [S_X7_fairest, e1, e2]
      simp (disch := first | exact z_tt rfl | assumption | omega | (simp (disch := omega) only [zU_eq, zU_nc, zU_nj]; omega)) only [↓L_ild_n1, ↓I_X7_isPart, ↓r_ifne_t, ↓r_ifne_f, ↓J_X7_fairest_11, ↓r_ldc2w, ↓r_lreturn, ↓L_ald_n0, ↓I_X7_searches_60, ↓F_g60_13, ↓F_g60_14, ↓I_X7_lowest, ↓U_X7_fairest_0, ↓U_X7_fairest_11, ↓zthen_v, ↓zthen_0, zU_eq, zU_nc, zU_nj, m2, m3, m4]
  · have c2 := c_X6_isPart_f (σ := σ) (p := w) (by omega)
    have m2 := m_isPart_f (σ := τ) (p := w) (by omega)
    refine SameW_id R (-9223372036854775808) ?_ ?_
    · rw [S_X6_fairest]
      simp (disch := first | exact z_tt rfl | assumption | omega | (simp (disch := omega) only [zU_eq, zU_nc, zU_nj]; omega)) only [↓L_ild_n1, ↓I_X6_isPart, ↓r_ifne_t, ↓r_ifne_f, ↓J_X6_fairest_11, ↓r_ldc2w, ↓r_lreturn, ↓L_ald_n0, ↓F_g0_4, ↓F_g0_0, ↓F_g1_2, ↓F_g17_2, ↓F_g1_0, ↓F_g17_0, ↓F_g1_1, ↓F_g17_1, ↓I_X5_search_35, ↓F_g35_7, ↓F_g35_8, ↓I_X6_inLowestTerms, ↓U_X6_fairest_0, ↓U_X6_fairest_11, ↓zthen_v, ↓zthen_0, zU_eq, zU_nc, zU_nj, c2]
    · rw [S_X7_fairest]
      simp (disch := first | exact z_tt rfl | assumption | omega | (simp (disch := omega) only [zU_eq, zU_nc, zU_nj]; omega)) only [↓L_ild_n1, ↓I_X7_isPart, ↓r_ifne_t, ↓r_ifne_f, ↓J_X7_fairest_11, ↓r_ldc2w, ↓r_lreturn, ↓L_ald_n0, ↓I_X7_searches_60, ↓F_g60_13, ↓F_g60_14, ↓I_X7_lowest, ↓U_X7_fairest_0, ↓U_X7_fairest_11, ↓zthen_v, ↓zthen_0, zU_eq, zU_nc, zU_nj, m2]
theorem sumI_all0 {f : Int → Int} : ∀ (n : Nat) (j : Int), (∀ t : Int, j ≤ t → t < j + n → 0 ≤ f t) → sumI f j n = 0 → ∀ t : Int, j ≤ t → t < j + n → f t = 0
  | 0, j, _, _, t, h1, h2 => by omega
  | n + 1, j, h, e, t, h1, h2 => by
    have h0 := h j (by omega) (by omega)
    have b : 0 ≤ sumI f (j + 1) n := by
      have := sumI_le (f := fun _ => 0) (g := f) n (j + 1) (fun t h1 h2 => h t (by omega) (by omega))
      rw [sumI_z n (j + 1) (fun _ _ _ => rfl)] at this
      exact this
    rw [sumI] at e
    by_cases q : t = j
    · rw [q]; omega
    · exact sumI_all0 n (j + 1) (fun t h1 h2 => h t (by omega) (by omega)) (by omega) t (by omega) (by omega)
theorem en_iff {σ τ : zM} (R : Rel1 σ τ) {p : Int} (hp : 0 ≤ p ∧ p < 4) : enM τ p < τ 61 0 ↔ 0 ≤ feP σ p := by
  have hn := R.n
  have hm := R.m
  by_cases ha : allP σ p = 0
  · have z : ∀ t : Int, 0 ≤ t → t < σ 1 1 → σ (3 + p) t = 0 := fun t a b => sumI_all0 (σ 1 1).toNat 0 (fun t a b => (R.ptr p t hp.1 hp.2 a (by omega)).1) ha t a (by omega)
    have w0 : ∀ q : Int, wor σ p q = 0 := fun q => by
      unfold wor
      exact sumI_z _ _ (fun u a b => by
        try dsimp only
        rw [z u a (by omega), Int.zero_mul])
    have e1 : feP σ p = -1 := by
      unfold feP
      rcases fst_both (q := fun q => decide (wor σ p p < wor σ p q)) (σ 1 0).toNat 0 (by omega) with ⟨h1, h2⟩ | ⟨h1, h2, h3, h4⟩
      · exact h1
      · have := of_decide_eq_true h4
        rw [w0, w0] at this
        omega
    have e2 : enM τ p = σ 1 0 := by
      unfold enM
      rcases fst_both (q := fun q => decide (¬ allM τ p = 0 ∧ worM τ p p < worM τ p q)) (τ 61 0).toNat 0 (by omega) with ⟨h1, h2⟩ | ⟨h1, h2, h3, h4⟩
      · rw [h2]; omega
      · have := (of_decide_eq_true h4).1
        rw [all_eq R hp] at this
        exact absurd ha this
    rw [e1, e2]
    omega
  · have := en_eq R hp ha
    omega
set_option maxRecDepth 20000 in
set_option maxHeartbeats 4000000 in
theorem op_told {σ τ : zM} {w : Int} (R : Rel1 σ τ) (hw : -2147483648 ≤ w ∧ w < 2147483648) : SameW vI σ τ (zcall 61 [vR 0, vI w] σ) (zcall 163 [vR 60, vI w] τ) := by
  have hn := R.n
  have hm := R.m
  by_cases q : 0 ≤ w ∧ w ≤ 5
  · rcases (show w = 0 ∨ w = 1 ∨ w = 2 ∨ w = 3 ∨ w = 4 ∨ w = 5 by omega) with rfl | rfl | rfl | rfl | rfl | rfl
    · refine SameW_id R (σ 1 0) ?_ ?_
      · rw [S_X6_told]
        simp (disch := first | exact z_tt rfl | assumption | omega | (simp (disch := omega) only [zU_eq, zU_nc, zU_nj]; omega)) only [↓L_ild_n1, ↓r_tab, ↓W_X6_told_1_0, ↓W_X6_told_1_1, ↓W_X6_told_1_2, ↓W_X6_told_1_3, ↓W_X6_told_1_4, ↓W_X6_told_1_5, ↓W_X6_told_1_d, ↓L_ald_n0, ↓F_g0_0, ↓F_g1_0, ↓F_g17_0, ↓r_ireturn, ↓F_g1_1, ↓F_g17_1, ↓I_X2_cuts_1, ↓I_X2_cuts_17, ↓I_X2_unheld_1, ↓I_X2_unheld_17, ↓I_X6_enviousBits_0, ↓F_g0_4, ↓F_g1_2, ↓F_g17_2, ↓I_X5_search_35, ↓F_g35_9, ↓r_iconst, ↓U_X6_told_0, ↓U_X6_told_40, ↓U_X6_told_48, ↓U_X6_told_56, ↓U_X6_told_64, ↓U_X6_told_72, ↓U_X6_told_77, ↓U_X6_told_113, ↓zthen_v, ↓zthen_0, zU_eq, zU_nc, zU_nj]
      · rw [S_X7_told, ← hn.2.2]
        simp (disch := first | exact z_tt rfl | assumption | omega | (simp (disch := omega) only [zU_eq, zU_nc, zU_nj]; omega)) only [↓L_ild_n1, ↓r_tab, ↓W_X7_told_1_0, ↓W_X7_told_1_1, ↓W_X7_told_1_2, ↓W_X7_told_1_3, ↓W_X7_told_1_4, ↓W_X7_told_1_5, ↓W_X7_told_1_d, ↓L_ald_n0, ↓F_g60_0, ↓r_iconst, ↓A_g3, ↓A_g4, ↓A_g5, ↓A_g6, ↓A_g7, ↓A_g9, ↓A_g10, ↓A_g12, ↓A_g13, ↓A_g15, ↓A_g16, ↓A_g19, ↓A_g20, ↓A_g21, ↓A_g22, ↓A_g23, ↓A_g25, ↓A_g26, ↓A_g28, ↓A_g29, ↓A_g31, ↓A_g32, ↓A_g34, ↓A_g36, ↓A_g37, ↓A_g38, ↓A_g39, ↓A_g41, ↓A_g42, ↓A_g43, ↓A_g44, ↓A_g61, ↓A_g62, ↓A_g63, ↓A_g65, ↓A_g66, ↓A_g67, ↓A_g68, ↓A_g69, ↓A_g70, ↓A_gN, ↓A_gT, ↓A_gC, ↓r_ireturn, ↓I_X7_splits_60, ↓I_X7_withoutHolder_60, ↓I_X7_envious_60, ↓I_X7_searches_60, ↓F_g60_15, ↓U_X7_told_0, ↓U_X7_told_40, ↓U_X7_told_47, ↓U_X7_told_54, ↓U_X7_told_59, ↓U_X7_told_64, ↓U_X7_told_69, ↓U_X7_told_78, ↓zthen_v, ↓zthen_0, zU_eq, zU_nc, zU_nj]
    · refine SameW_id R (σ 1 1) ?_ ?_
      · rw [S_X6_told]
        simp (disch := first | exact z_tt rfl | assumption | omega | (simp (disch := omega) only [zU_eq, zU_nc, zU_nj]; omega)) only [↓L_ild_n1, ↓r_tab, ↓W_X6_told_1_0, ↓W_X6_told_1_1, ↓W_X6_told_1_2, ↓W_X6_told_1_3, ↓W_X6_told_1_4, ↓W_X6_told_1_5, ↓W_X6_told_1_d, ↓L_ald_n0, ↓F_g0_0, ↓F_g1_0, ↓F_g17_0, ↓r_ireturn, ↓F_g1_1, ↓F_g17_1, ↓I_X2_cuts_1, ↓I_X2_cuts_17, ↓I_X2_unheld_1, ↓I_X2_unheld_17, ↓I_X6_enviousBits_0, ↓F_g0_4, ↓F_g1_2, ↓F_g17_2, ↓I_X5_search_35, ↓F_g35_9, ↓r_iconst, ↓U_X6_told_0, ↓U_X6_told_40, ↓U_X6_told_48, ↓U_X6_told_56, ↓U_X6_told_64, ↓U_X6_told_72, ↓U_X6_told_77, ↓U_X6_told_113, ↓zthen_v, ↓zthen_0, zU_eq, zU_nc, zU_nj]
      · rw [S_X7_told, ← hm.2.2]
        simp (disch := first | exact z_tt rfl | assumption | omega | (simp (disch := omega) only [zU_eq, zU_nc, zU_nj]; omega)) only [↓L_ild_n1, ↓r_tab, ↓W_X7_told_1_0, ↓W_X7_told_1_1, ↓W_X7_told_1_2, ↓W_X7_told_1_3, ↓W_X7_told_1_4, ↓W_X7_told_1_5, ↓W_X7_told_1_d, ↓L_ald_n0, ↓F_g60_0, ↓r_iconst, ↓A_g3, ↓A_g4, ↓A_g5, ↓A_g6, ↓A_g7, ↓A_g9, ↓A_g10, ↓A_g12, ↓A_g13, ↓A_g15, ↓A_g16, ↓A_g19, ↓A_g20, ↓A_g21, ↓A_g22, ↓A_g23, ↓A_g25, ↓A_g26, ↓A_g28, ↓A_g29, ↓A_g31, ↓A_g32, ↓A_g34, ↓A_g36, ↓A_g37, ↓A_g38, ↓A_g39, ↓A_g41, ↓A_g42, ↓A_g43, ↓A_g44, ↓A_g61, ↓A_g62, ↓A_g63, ↓A_g65, ↓A_g66, ↓A_g67, ↓A_g68, ↓A_g69, ↓A_g70, ↓A_gN, ↓A_gT, ↓A_gC, ↓r_ireturn, ↓I_X7_splits_60, ↓I_X7_withoutHolder_60, ↓I_X7_envious_60, ↓I_X7_searches_60, ↓F_g60_15, ↓U_X7_told_0, ↓U_X7_told_40, ↓U_X7_told_47, ↓U_X7_told_54, ↓U_X7_told_59, ↓U_X7_told_64, ↓U_X7_told_69, ↓U_X7_told_78, ↓zthen_v, ↓zthen_0, zU_eq, zU_nc, zU_nj]
    · have c3 := c_X2_cuts (σ := σ) (by have := R.cut; omega)
      have m3 := m_splits (Rel1_V1 R)
      rw [spM_eq R] at m3
      refine SameW_id R (if σ 1 4 < 0 then 0 else 1) ?_ ?_
      · rw [S_X6_told]
        simp (disch := first | exact z_tt rfl | assumption | omega | (simp (disch := omega) only [zU_eq, zU_nc, zU_nj]; omega)) only [↓L_ild_n1, ↓r_tab, ↓W_X6_told_1_0, ↓W_X6_told_1_1, ↓W_X6_told_1_2, ↓W_X6_told_1_3, ↓W_X6_told_1_4, ↓W_X6_told_1_5, ↓W_X6_told_1_d, ↓L_ald_n0, ↓F_g0_0, ↓F_g1_0, ↓F_g17_0, ↓r_ireturn, ↓F_g1_1, ↓F_g17_1, ↓I_X2_cuts_1, ↓I_X2_cuts_17, ↓I_X2_unheld_1, ↓I_X2_unheld_17, ↓I_X6_enviousBits_0, ↓F_g0_4, ↓F_g1_2, ↓F_g17_2, ↓I_X5_search_35, ↓F_g35_9, ↓r_iconst, ↓U_X6_told_0, ↓U_X6_told_40, ↓U_X6_told_48, ↓U_X6_told_56, ↓U_X6_told_64, ↓U_X6_told_72, ↓U_X6_told_77, ↓U_X6_told_113, ↓zthen_v, ↓zthen_0, zU_eq, zU_nc, zU_nj, c3]
      · rw [S_X7_told]
        simp (disch := first | exact z_tt rfl | assumption | omega | (simp (disch := omega) only [zU_eq, zU_nc, zU_nj]; omega)) only [↓L_ild_n1, ↓r_tab, ↓W_X7_told_1_0, ↓W_X7_told_1_1, ↓W_X7_told_1_2, ↓W_X7_told_1_3, ↓W_X7_told_1_4, ↓W_X7_told_1_5, ↓W_X7_told_1_d, ↓L_ald_n0, ↓F_g60_0, ↓r_iconst, ↓A_g3, ↓A_g4, ↓A_g5, ↓A_g6, ↓A_g7, ↓A_g9, ↓A_g10, ↓A_g12, ↓A_g13, ↓A_g15, ↓A_g16, ↓A_g19, ↓A_g20, ↓A_g21, ↓A_g22, ↓A_g23, ↓A_g25, ↓A_g26, ↓A_g28, ↓A_g29, ↓A_g31, ↓A_g32, ↓A_g34, ↓A_g36, ↓A_g37, ↓A_g38, ↓A_g39, ↓A_g41, ↓A_g42, ↓A_g43, ↓A_g44, ↓A_g61, ↓A_g62, ↓A_g63, ↓A_g65, ↓A_g66, ↓A_g67, ↓A_g68, ↓A_g69, ↓A_g70, ↓A_gN, ↓A_gT, ↓A_gC, ↓r_ireturn, ↓I_X7_splits_60, ↓I_X7_withoutHolder_60, ↓I_X7_envious_60, ↓I_X7_searches_60, ↓F_g60_15, ↓U_X7_told_0, ↓U_X7_told_40, ↓U_X7_told_47, ↓U_X7_told_54, ↓U_X7_told_59, ↓U_X7_told_64, ↓U_X7_told_69, ↓U_X7_told_78, ↓zthen_v, ↓zthen_0, zU_eq, zU_nc, zU_nj, m3]
    · have c3 := c_X2_unheld (Rel1_W1 R)
      have m3 := m_unheld (Rel1_V1 R)
      rw [hm.2.2, cntI_congr (g := fun t => decide (σ 7 t = -1)) (σ 1 1).toNat 0 (fun t a b => by rw [R.fi t a (by omega)])] at m3
      refine SameW_id R ((cntI (fun t => decide (σ 7 t = -1)) 0 (σ 1 1).toNat)) ?_ ?_
      · rw [S_X6_told]
        simp (disch := first | exact z_tt rfl | assumption | omega | (simp (disch := omega) only [zU_eq, zU_nc, zU_nj]; omega)) only [↓L_ild_n1, ↓r_tab, ↓W_X6_told_1_0, ↓W_X6_told_1_1, ↓W_X6_told_1_2, ↓W_X6_told_1_3, ↓W_X6_told_1_4, ↓W_X6_told_1_5, ↓W_X6_told_1_d, ↓L_ald_n0, ↓F_g0_0, ↓F_g1_0, ↓F_g17_0, ↓r_ireturn, ↓F_g1_1, ↓F_g17_1, ↓I_X2_cuts_1, ↓I_X2_cuts_17, ↓I_X2_unheld_1, ↓I_X2_unheld_17, ↓I_X6_enviousBits_0, ↓F_g0_4, ↓F_g1_2, ↓F_g17_2, ↓I_X5_search_35, ↓F_g35_9, ↓r_iconst, ↓U_X6_told_0, ↓U_X6_told_40, ↓U_X6_told_48, ↓U_X6_told_56, ↓U_X6_told_64, ↓U_X6_told_72, ↓U_X6_told_77, ↓U_X6_told_113, ↓zthen_v, ↓zthen_0, zU_eq, zU_nc, zU_nj, c3]
      · rw [S_X7_told]
        simp (disch := first | exact z_tt rfl | assumption | omega | (simp (disch := omega) only [zU_eq, zU_nc, zU_nj]; omega)) only [↓L_ild_n1, ↓r_tab, ↓W_X7_told_1_0, ↓W_X7_told_1_1, ↓W_X7_told_1_2, ↓W_X7_told_1_3, ↓W_X7_told_1_4, ↓W_X7_told_1_5, ↓W_X7_told_1_d, ↓L_ald_n0, ↓F_g60_0, ↓r_iconst, ↓A_g3, ↓A_g4, ↓A_g5, ↓A_g6, ↓A_g7, ↓A_g9, ↓A_g10, ↓A_g12, ↓A_g13, ↓A_g15, ↓A_g16, ↓A_g19, ↓A_g20, ↓A_g21, ↓A_g22, ↓A_g23, ↓A_g25, ↓A_g26, ↓A_g28, ↓A_g29, ↓A_g31, ↓A_g32, ↓A_g34, ↓A_g36, ↓A_g37, ↓A_g38, ↓A_g39, ↓A_g41, ↓A_g42, ↓A_g43, ↓A_g44, ↓A_g61, ↓A_g62, ↓A_g63, ↓A_g65, ↓A_g66, ↓A_g67, ↓A_g68, ↓A_g69, ↓A_g70, ↓A_gN, ↓A_gT, ↓A_gC, ↓r_ireturn, ↓I_X7_splits_60, ↓I_X7_withoutHolder_60, ↓I_X7_envious_60, ↓I_X7_searches_60, ↓F_g60_15, ↓U_X7_told_0, ↓U_X7_told_40, ↓U_X7_told_47, ↓U_X7_told_54, ↓U_X7_told_59, ↓U_X7_told_64, ↓U_X7_told_69, ↓U_X7_told_78, ↓zthen_v, ↓zthen_0, zU_eq, zU_nc, zU_nj, m3]
    · have c3 := c_X6_enviousBits (Rel1_W1 R)
      have m3 := m_envious (Rel1_V2 R)
      rw [hn.2.2, bitI_congr (g := fun p => decide (0 ≤ feP σ p)) (σ 1 0).toNat 0 0 (fun p a b => by
        refine decide_eq_decide.mpr ?_
        have := en_iff R (p := p) (by omega)
        rw [hn.2.2] at this
        exact this)] at m3
      refine SameW_id R ((bitI (fun p => decide (0 ≤ feP σ p)) 0 0 (σ 1 0).toNat)) ?_ ?_
      · rw [S_X6_told]
        simp (disch := first | exact z_tt rfl | assumption | omega | (simp (disch := omega) only [zU_eq, zU_nc, zU_nj]; omega)) only [↓L_ild_n1, ↓r_tab, ↓W_X6_told_1_0, ↓W_X6_told_1_1, ↓W_X6_told_1_2, ↓W_X6_told_1_3, ↓W_X6_told_1_4, ↓W_X6_told_1_5, ↓W_X6_told_1_d, ↓L_ald_n0, ↓F_g0_0, ↓F_g1_0, ↓F_g17_0, ↓r_ireturn, ↓F_g1_1, ↓F_g17_1, ↓I_X2_cuts_1, ↓I_X2_cuts_17, ↓I_X2_unheld_1, ↓I_X2_unheld_17, ↓I_X6_enviousBits_0, ↓F_g0_4, ↓F_g1_2, ↓F_g17_2, ↓I_X5_search_35, ↓F_g35_9, ↓r_iconst, ↓U_X6_told_0, ↓U_X6_told_40, ↓U_X6_told_48, ↓U_X6_told_56, ↓U_X6_told_64, ↓U_X6_told_72, ↓U_X6_told_77, ↓U_X6_told_113, ↓zthen_v, ↓zthen_0, zU_eq, zU_nc, zU_nj, c3]
      · rw [S_X7_told]
        simp (disch := first | exact z_tt rfl | assumption | omega | (simp (disch := omega) only [zU_eq, zU_nc, zU_nj]; omega)) only [↓L_ild_n1, ↓r_tab, ↓W_X7_told_1_0, ↓W_X7_told_1_1, ↓W_X7_told_1_2, ↓W_X7_told_1_3, ↓W_X7_told_1_4, ↓W_X7_told_1_5, ↓W_X7_told_1_d, ↓L_ald_n0, ↓F_g60_0, ↓r_iconst, ↓A_g3, ↓A_g4, ↓A_g5, ↓A_g6, ↓A_g7, ↓A_g9, ↓A_g10, ↓A_g12, ↓A_g13, ↓A_g15, ↓A_g16, ↓A_g19, ↓A_g20, ↓A_g21, ↓A_g22, ↓A_g23, ↓A_g25, ↓A_g26, ↓A_g28, ↓A_g29, ↓A_g31, ↓A_g32, ↓A_g34, ↓A_g36, ↓A_g37, ↓A_g38, ↓A_g39, ↓A_g41, ↓A_g42, ↓A_g43, ↓A_g44, ↓A_g61, ↓A_g62, ↓A_g63, ↓A_g65, ↓A_g66, ↓A_g67, ↓A_g68, ↓A_g69, ↓A_g70, ↓A_gN, ↓A_gT, ↓A_gC, ↓r_ireturn, ↓I_X7_splits_60, ↓I_X7_withoutHolder_60, ↓I_X7_envious_60, ↓I_X7_searches_60, ↓F_g60_15, ↓U_X7_told_0, ↓U_X7_told_40, ↓U_X7_told_47, ↓U_X7_told_54, ↓U_X7_told_59, ↓U_X7_told_64, ↓U_X7_told_69, ↓U_X7_told_78, ↓zthen_v, ↓zthen_0, zU_eq, zU_nc, zU_nj, m3]
    · obtain ⟨s1, t1, c3, m3, F1, F2, e1, e2, e3, e4, b1, b2⟩ := wy_both R
      refine ⟨(s1 35 9), s1, t1, ?_, ?_, Rel1_W R F1 F2, F1, F2⟩
      · rw [S_X6_told]
        simp (disch := first | exact z_tt rfl | assumption | omega | (simp (disch := omega) only [zU_eq, zU_nc, zU_nj]; omega)) only [↓L_ild_n1, ↓r_tab, ↓W_X6_told_1_0, ↓W_X6_told_1_1, ↓W_X6_told_1_2, ↓W_X6_told_1_3, ↓W_X6_told_1_4, ↓W_X6_told_1_5, ↓W_X6_told_1_d, ↓L_ald_n0, ↓F_g0_0, ↓F_g1_0, ↓F_g17_0, ↓r_ireturn, ↓F_g1_1, ↓F_g17_1, ↓I_X2_cuts_1, ↓I_X2_cuts_17, ↓I_X2_unheld_1, ↓I_X2_unheld_17, ↓I_X6_enviousBits_0, ↓F_g0_4, ↓F_g1_2, ↓F_g17_2, ↓I_X5_search_35, ↓F_g35_9, ↓r_iconst, ↓U_X6_told_0, ↓U_X6_told_40, ↓U_X6_told_48, ↓U_X6_told_56, ↓U_X6_told_64, ↓U_X6_told_72, ↓U_X6_told_77, ↓U_X6_told_113, ↓zthen_v, ↓zthen_0, zU_eq, zU_nc, zU_nj, c3]
      · rw [S_X7_told, e3]
        simp (disch := first | exact z_tt rfl | assumption | omega | (simp (disch := omega) only [zU_eq, zU_nc, zU_nj]; omega)) only [↓L_ild_n1, ↓r_tab, ↓W_X7_told_1_0, ↓W_X7_told_1_1, ↓W_X7_told_1_2, ↓W_X7_told_1_3, ↓W_X7_told_1_4, ↓W_X7_told_1_5, ↓W_X7_told_1_d, ↓L_ald_n0, ↓F_g60_0, ↓r_iconst, ↓A_g3, ↓A_g4, ↓A_g5, ↓A_g6, ↓A_g7, ↓A_g9, ↓A_g10, ↓A_g12, ↓A_g13, ↓A_g15, ↓A_g16, ↓A_g19, ↓A_g20, ↓A_g21, ↓A_g22, ↓A_g23, ↓A_g25, ↓A_g26, ↓A_g28, ↓A_g29, ↓A_g31, ↓A_g32, ↓A_g34, ↓A_g36, ↓A_g37, ↓A_g38, ↓A_g39, ↓A_g41, ↓A_g42, ↓A_g43, ↓A_g44, ↓A_g61, ↓A_g62, ↓A_g63, ↓A_g65, ↓A_g66, ↓A_g67, ↓A_g68, ↓A_g69, ↓A_g70, ↓A_gN, ↓A_gT, ↓A_gC, ↓r_ireturn, ↓I_X7_splits_60, ↓I_X7_withoutHolder_60, ↓I_X7_envious_60, ↓I_X7_searches_60, ↓F_g60_15, ↓U_X7_told_0, ↓U_X7_told_40, ↓U_X7_told_47, ↓U_X7_told_54, ↓U_X7_told_59, ↓U_X7_told_64, ↓U_X7_told_69, ↓U_X7_told_78, ↓zthen_v, ↓zthen_0, zU_eq, zU_nc, zU_nj, m3]
  · refine SameW_id R (-1) ?_ ?_
    · rw [S_X6_told]
      simp (disch := first | exact z_tt rfl | assumption | omega | (simp (disch := omega) only [zU_eq, zU_nc, zU_nj]; omega)) only [↓L_ild_n1, ↓r_tab, ↓W_X6_told_1_0, ↓W_X6_told_1_1, ↓W_X6_told_1_2, ↓W_X6_told_1_3, ↓W_X6_told_1_4, ↓W_X6_told_1_5, ↓W_X6_told_1_d, ↓L_ald_n0, ↓F_g0_0, ↓F_g1_0, ↓F_g17_0, ↓r_ireturn, ↓F_g1_1, ↓F_g17_1, ↓I_X2_cuts_1, ↓I_X2_cuts_17, ↓I_X2_unheld_1, ↓I_X2_unheld_17, ↓I_X6_enviousBits_0, ↓F_g0_4, ↓F_g1_2, ↓F_g17_2, ↓I_X5_search_35, ↓F_g35_9, ↓r_iconst, ↓U_X6_told_0, ↓U_X6_told_40, ↓U_X6_told_48, ↓U_X6_told_56, ↓U_X6_told_64, ↓U_X6_told_72, ↓U_X6_told_77, ↓U_X6_told_113, ↓zthen_v, ↓zthen_0, zU_eq, zU_nc, zU_nj]
    · rw [S_X7_told]
      simp (disch := first | exact z_tt rfl | assumption | omega | (simp (disch := omega) only [zU_eq, zU_nc, zU_nj]; omega)) only [↓L_ild_n1, ↓r_tab, ↓W_X7_told_1_0, ↓W_X7_told_1_1, ↓W_X7_told_1_2, ↓W_X7_told_1_3, ↓W_X7_told_1_4, ↓W_X7_told_1_5, ↓W_X7_told_1_d, ↓L_ald_n0, ↓F_g60_0, ↓r_iconst, ↓A_g3, ↓A_g4, ↓A_g5, ↓A_g6, ↓A_g7, ↓A_g9, ↓A_g10, ↓A_g12, ↓A_g13, ↓A_g15, ↓A_g16, ↓A_g19, ↓A_g20, ↓A_g21, ↓A_g22, ↓A_g23, ↓A_g25, ↓A_g26, ↓A_g28, ↓A_g29, ↓A_g31, ↓A_g32, ↓A_g34, ↓A_g36, ↓A_g37, ↓A_g38, ↓A_g39, ↓A_g41, ↓A_g42, ↓A_g43, ↓A_g44, ↓A_g61, ↓A_g62, ↓A_g63, ↓A_g65, ↓A_g66, ↓A_g67, ↓A_g68, ↓A_g69, ↓A_g70, ↓A_gN, ↓A_gT, ↓A_gC, ↓r_ireturn, ↓I_X7_splits_60, ↓I_X7_withoutHolder_60, ↓I_X7_envious_60, ↓I_X7_searches_60, ↓F_g60_15, ↓U_X7_told_0, ↓U_X7_told_40, ↓U_X7_told_47, ↓U_X7_told_54, ↓U_X7_told_59, ↓U_X7_told_64, ↓U_X7_told_69, ↓U_X7_told_78, ↓zthen_v, ↓zthen_0, zU_eq, zU_nc, zU_nj]
