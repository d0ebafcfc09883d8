/-! the class's search -/
def CWs (s : zM) (P : Int → Int → Int) (m n : Int) : Prop := s 35 0 = 2 ∧ s 35 1 = n ∧ s 35 2 = m ∧ (∀ p : Int, 0 ≤ p → p < n → s 37 p = toP P m p) ∧ (∀ p t : Int, 0 ≤ p → p < n → 0 ≤ t → t < m → s (3 + p) t = P p t)
def CWv (s : zM) (P : Int → Int → Int) (m n : Int) (w : Int → Int) (k : Int) (B : Bst) : Prop := (∀ t : Int, 0 ≤ t → t < k → s 36 t = w t) ∧ (∀ p : Int, 0 ≤ p → p < n → s 38 p = rch P m w k p) ∧ s 35 7 = B.1 ∧ s 35 8 = B.2.1 ∧ (B.1 = -1 ∨ (s 35 9 = B.2.2.1 ∧ ∀ t : Int, 0 ≤ t → t < m → s 39 t = B.2.2.2 t))
def FrW (s s1 : zM) : Prop := ∀ c j : Int, (c < 35 ∨ c = 37 ∨ 39 < c ∨ (c = 35 ∧ j < 7)) → s1 c j = s c j
theorem CWs_fr {s s1 : zM} {P : Int → Int → Int} {m n : Int} (hn : n ≤ 4) (h : CWs s P m n) (F : FrW s s1) : CWs s1 P m n := by
  obtain ⟨h0, h1, h2, h3, h4⟩ := h
  exact ⟨by rw [F _ _ (by omega)]; exact h0, by rw [F _ _ (by omega)]; exact h1, by rw [F _ _ (by omega)]; exact h2, fun p a b => by rw [F _ _ (by omega)]; exact h3 p a b, fun p t a b c d => by rw [F _ _ (by omega)]; exact h4 p t a b c d⟩
theorem pstF_congr {r T r' T' : Int → Int} {n : Int} (hr : ∀ u : Int, 0 ≤ u → u < n → r u = r' u) (hT : ∀ u : Int, 0 ≤ u → u < n → T u = T' u) : ∀ (j : Nat) (q p : Int), 0 ≤ q → q < p → p + j = n → pstF r T q p j = pstF r' T' q p j
  | 0, q, p, _, _, _ => rfl
  | j + 1, q, p, h1, h2, h3 => by
    rw [pstF, pstF, hr p (by omega) (by omega), hr q h1 (by omega), hT q h1 (by omega), hT p (by omega) (by omega)]
    by_cases h : r' p * T' q < r' q * T' p
    · rw [if_pos h]; exact pstF_congr hr hT j p (p + 1) (by omega) (by omega) (by omega)
    · rw [if_neg h]; exact pstF_congr hr hT j q (p + 1) h1 (by omega) (by omega)
set_option maxRecDepth 20000 in
theorem c_po_loop {s : zM} {n : Int} (hn : n ≤ 4) (h1 : s 35 1 = n) (hr : ∀ u : Int, 0 ≤ u → u < n → 0 ≤ s 38 u ∧ s 38 u ≤ 594) (hT : ∀ u : Int, 0 ≤ u → u < n → 0 ≤ s 37 u ∧ s 37 u ≤ 594) : ∀ (j : Nat) (q p : Int), 0 ≤ q → q < p → p + j = n → zres 44 C_X5_poorest_4 [vR 35, vI q, vI p] [] s = some (some (vI (pstF (s 38) (s 37) q p j)), s) := by
  intro j
  induction j with
  | zero =>
    intro q p hq hp hj
    simp (disch := first | exact z_tt rfl | assumption | omega | (simp (disch := omega) only [zU_eq, zU_nc, zU_nj]; omega)) only [↓r_iconst, ↓L_ist_n1, ↓L_ist_n1L, ↓L_ist_n2, ↓L_ist_n2L, ↓L_ild_n2, ↓L_ald_n0, ↓F_g35_1, ↓r_icge_t, ↓r_icge_f, ↓J_X5_poorest_49, ↓F_g35_5, ↓A_g3, ↓A_g4, ↓A_g5, ↓A_g6, ↓A_g7, ↓A_g9, ↓A_g10, ↓A_g12, ↓A_g13, ↓A_g15, ↓A_g16, ↓A_g19, ↓A_g20, ↓A_g21, ↓A_g22, ↓A_g23, ↓A_g25, ↓A_g26, ↓A_g28, ↓A_g29, ↓A_g31, ↓A_g32, ↓A_g34, ↓A_g36, ↓A_g37, ↓A_g38, ↓A_g39, ↓A_g41, ↓A_g42, ↓A_g43, ↓A_g44, ↓A_g61, ↓A_g62, ↓A_g63, ↓A_g65, ↓A_g66, ↓A_g67, ↓A_g68, ↓A_g69, ↓A_g70, ↓A_gN, ↓A_gT, ↓A_gC, ↓F_g35_4, ↓L_ild_n1, ↓r_imul, ↓J_X5_poorest_43, ↓L_iinc2, ↓r_goto, ↓J_X5_poorest_4, ↓r_ireturn, ↓U_X5_poorest_0, ↓U_X5_poorest_4, ↓U_X5_poorest_43, ↓U_X5_poorest_49, ↓zthen_v, ↓zthen_0, zU_eq, zU_nc, zU_nj, pstF]
  | succ j ih =>
    intro q p hq hp hj
    have k1 := mul_bd (hr p (by omega) (by omega)) (hT q hq (by omega))
    have k2 := mul_bd (hr q hq (by omega)) (hT p (by omega) (by omega))
    rw [U_X5_poorest_4, pstF]
    by_cases h : s 38 p * s 37 q < s 38 q * s 37 p
    · rw [if_pos h]
      simp (disch := first | exact z_tt rfl | assumption | omega | (simp (disch := omega) only [zU_eq, zU_nc, zU_nj]; omega)) only [↓r_iconst, ↓L_ist_n1, ↓L_ist_n1L, ↓L_ist_n2, ↓L_ist_n2L, ↓L_ild_n2, ↓L_ald_n0, ↓F_g35_1, ↓r_icge_t, ↓r_icge_f, ↓J_X5_poorest_49, ↓F_g35_5, ↓A_g3, ↓A_g4, ↓A_g5, ↓A_g6, ↓A_g7, ↓A_g9, ↓A_g10, ↓A_g12, ↓A_g13, ↓A_g15, ↓A_g16, ↓A_g19, ↓A_g20, ↓A_g21, ↓A_g22, ↓A_g23, ↓A_g25, ↓A_g26, ↓A_g28, ↓A_g29, ↓A_g31, ↓A_g32, ↓A_g34, ↓A_g36, ↓A_g37, ↓A_g38, ↓A_g39, ↓A_g41, ↓A_g42, ↓A_g43, ↓A_g44, ↓A_g61, ↓A_g62, ↓A_g63, ↓A_g65, ↓A_g66, ↓A_g67, ↓A_g68, ↓A_g69, ↓A_g70, ↓A_gN, ↓A_gT, ↓A_gC, ↓F_g35_4, ↓L_ild_n1, ↓r_imul, ↓J_X5_poorest_43, ↓L_iinc2, ↓r_goto, ↓J_X5_poorest_4, ↓r_ireturn, ↓U_X5_poorest_0, ↓U_X5_poorest_43, ↓U_X5_poorest_49, ↓zthen_v, ↓zthen_0, zU_eq, zU_nc, zU_nj]
      exact ih p (p + 1) (by omega) (by omega) (by omega)
    · rw [if_neg h]
      simp (disch := first | exact z_tt rfl | assumption | omega | (simp (disch := omega) only [zU_eq, zU_nc, zU_nj]; omega)) only [↓r_iconst, ↓L_ist_n1, ↓L_ist_n1L, ↓L_ist_n2, ↓L_ist_n2L, ↓L_ild_n2, ↓L_ald_n0, ↓F_g35_1, ↓r_icge_t, ↓r_icge_f, ↓J_X5_poorest_49, ↓F_g35_5, ↓A_g3, ↓A_g4, ↓A_g5, ↓A_g6, ↓A_g7, ↓A_g9, ↓A_g10, ↓A_g12, ↓A_g13, ↓A_g15, ↓A_g16, ↓A_g19, ↓A_g20, ↓A_g21, ↓A_g22, ↓A_g23, ↓A_g25, ↓A_g26, ↓A_g28, ↓A_g29, ↓A_g31, ↓A_g32, ↓A_g34, ↓A_g36, ↓A_g37, ↓A_g38, ↓A_g39, ↓A_g41, ↓A_g42, ↓A_g43, ↓A_g44, ↓A_g61, ↓A_g62, ↓A_g63, ↓A_g65, ↓A_g66, ↓A_g67, ↓A_g68, ↓A_g69, ↓A_g70, ↓A_gN, ↓A_gT, ↓A_gC, ↓F_g35_4, ↓L_ild_n1, ↓r_imul, ↓J_X5_poorest_43, ↓L_iinc2, ↓r_goto, ↓J_X5_poorest_4, ↓r_ireturn, ↓U_X5_poorest_0, ↓U_X5_poorest_43, ↓U_X5_poorest_49, ↓zthen_v, ↓zthen_0, zU_eq, zU_nc, zU_nj]
      exact ih q (p + 1) hq (by omega) (by omega)
set_option maxRecDepth 20000 in
theorem c_poorest {s : zM} {P : Int → Int → Int} {m n k : Int} {w : Int → Int} {B : Bst} (hP : PN P m n) (hm : 0 ≤ m ∧ m ≤ 6) (hn : 1 ≤ n ∧ n ≤ 4) (hk : 0 ≤ k ∧ k ≤ m) (hs : CWs s P m n) (hv : CWv s P m n w k B) : zcall 44 [vR 35] s = some (some (vI (pst (rch P m w k) (toP P m) n)), s) := by
  have hr : ∀ u : Int, 0 ≤ u → u < n → 0 ≤ s 38 u ∧ s 38 u ≤ 594 := fun u a b => by rw [hv.2.1 u a b]; exact rch_bd hP hm w hk ⟨a, b⟩
  have hT : ∀ u : Int, 0 ≤ u → u < n → 0 ≤ s 37 u ∧ s 37 u ≤ 594 := fun u a b => by
    rw [hs.2.2.2.1 u a b]
    have := toP_bd hP hm ⟨a, b⟩
    omega
  have L := c_po_loop hn.2 hs.2.1 hr hT (n - 1).toNat 0 1 (by omega) (by omega) (by omega)
  rw [pstF_congr hv.2.1 hs.2.2.2.1 (n - 1).toNat 0 1 (by omega) (by omega) (by omega)] at L
  rw [S_X5_poorest]
  simp (disch := first | exact z_tt rfl | assumption | omega | (simp (disch := omega) only [zU_eq, zU_nc, zU_nj]; omega)) only [↓r_iconst, ↓L_ist_n1, ↓L_ist_n1L, ↓L_ist_n2, ↓L_ist_n2L, ↓L_ild_n2, ↓L_ald_n0, ↓F_g35_1, ↓r_icge_t, ↓r_icge_f, ↓J_X5_poorest_49, ↓F_g35_5, ↓A_g3, ↓A_g4, ↓A_g5, ↓A_g6, ↓A_g7, ↓A_g9, ↓A_g10, ↓A_g12, ↓A_g13, ↓A_g15, ↓A_g16, ↓A_g19, ↓A_g20, ↓A_g21, ↓A_g22, ↓A_g23, ↓A_g25, ↓A_g26, ↓A_g28, ↓A_g29, ↓A_g31, ↓A_g32, ↓A_g34, ↓A_g36, ↓A_g37, ↓A_g38, ↓A_g39, ↓A_g41, ↓A_g42, ↓A_g43, ↓A_g44, ↓A_g61, ↓A_g62, ↓A_g63, ↓A_g65, ↓A_g66, ↓A_g67, ↓A_g68, ↓A_g69, ↓A_g70, ↓A_gN, ↓A_gT, ↓A_gC, ↓F_g35_4, ↓L_ild_n1, ↓r_imul, ↓J_X5_poorest_43, ↓L_iinc2, ↓r_goto, ↓J_X5_poorest_4, ↓r_ireturn, ↓U_X5_poorest_0, ↓U_X5_poorest_43, ↓U_X5_poorest_49, ↓zthen_v, ↓zthen_0, zU_eq, zU_nc, zU_nj]
  exact L
set_option maxRecDepth 20000 in
theorem c_dn_loop {th p c n : Int} (hn : n ≤ 4) (hth : 0 ≤ th ∧ th < 6) (hp : 0 ≤ p ∧ p < 4) : ∀ (j : Nat) (u : Int) (s : zM), s 35 0 = 2 → s 35 1 = n → 0 ≤ u → u + j = n → ∃ s1, (∀ q : Int, 0 ≤ q → q < n → s1 38 q = if u ≤ q ∧ ¬ q = p then s 38 q - c * s (3 + q) th else s 38 q) ∧ (∀ a b : Int, ¬ a = 38 → s1 a b = s a b) ∧ zres 46 C_X5_denyOthers_3 [vR 35, vI th, vI p, vI c, vI u] [] s = some (none, s1) := by
  intro j
  induction j with
  | zero =>
    intro u s h0 h1 hu hj
    refine ⟨s, fun q a b => by rw [if_neg (by omega)], fun _ _ _ => rfl, ?_⟩
    simp (disch := first | exact z_tt rfl | assumption | omega | (simp (disch := omega) only [zU_eq, zU_nc, zU_nj]; omega)) only [↓r_iconst, ↓L_ist4, ↓L_ist4L, ↓L_ild4, ↓L_ald_n0, ↓F_g35_1, ↓r_icge_t, ↓r_icge_f, ↓J_X5_denyOthers_45, ↓L_ild_n2, ↓r_iceq_t, ↓r_iceq_f, ↓J_X5_denyOthers_39, ↓F_g35_5, ↓r_dup2, ↓r_dup2L, ↓A_g3, ↓A_g4, ↓A_g5, ↓A_g6, ↓A_g7, ↓A_g9, ↓A_g10, ↓A_g12, ↓A_g13, ↓A_g15, ↓A_g16, ↓A_g19, ↓A_g20, ↓A_g21, ↓A_g22, ↓A_g23, ↓A_g25, ↓A_g26, ↓A_g28, ↓A_g29, ↓A_g31, ↓A_g32, ↓A_g34, ↓A_g36, ↓A_g37, ↓A_g38, ↓A_g39, ↓A_g41, ↓A_g42, ↓A_g43, ↓A_g44, ↓A_g61, ↓A_g62, ↓A_g63, ↓A_g65, ↓A_g66, ↓A_g67, ↓A_g68, ↓A_g69, ↓A_g70, ↓A_gN, ↓A_gT, ↓A_gC, ↓L_ild_n3, ↓F_g35_0, ↓A_a2, ↓A_a18, ↓A_a40, ↓A_a47, ↓L_ild_n1, ↓r_imul, ↓r_isub, ↓A_p3, ↓A_p4, ↓A_p5, ↓A_p6, ↓A_p7, ↓A_p9, ↓A_p10, ↓A_p12, ↓A_p13, ↓A_p15, ↓A_p16, ↓A_p19, ↓A_p20, ↓A_p21, ↓A_p22, ↓A_p23, ↓A_p25, ↓A_p26, ↓A_p28, ↓A_p29, ↓A_p31, ↓A_p32, ↓A_p34, ↓A_p36, ↓A_p37, ↓A_p38, ↓A_p39, ↓A_p41, ↓A_p42, ↓A_p43, ↓A_p44, ↓A_p61, ↓A_p62, ↓A_p63, ↓A_p65, ↓A_p66, ↓A_p67, ↓A_p68, ↓A_p69, ↓A_p70, ↓A_pN, ↓A_pT, ↓L_iinc4, ↓r_goto, ↓J_X5_denyOthers_3, ↓r_return, ↓U_X5_denyOthers_0, ↓U_X5_denyOthers_3, ↓U_X5_denyOthers_39, ↓U_X5_denyOthers_45, ↓zthen_v, ↓zthen_0, zU_eq, zU_nc, zU_nj]
  | succ j ih =>
    intro u s h0 h1 hu hj
    by_cases e : u = p
    · obtain ⟨s1, H, F, E⟩ := ih (u + 1) s h0 h1 (by omega) (by omega)
      refine ⟨s1, fun q a b => ?_, F, ?_⟩
      · rw [H q a b]
        by_cases g : u ≤ q ∧ ¬ q = p
        · rw [if_pos g, if_pos (by omega)]
        · rw [if_neg g, if_neg (by omega)]
      · rw [U_X5_denyOthers_3]
        simp (disch := first | exact z_tt rfl | assumption | omega | (simp (disch := omega) only [zU_eq, zU_nc, zU_nj]; omega)) only [↓r_iconst, ↓L_ist4, ↓L_ist4L, ↓L_ild4, ↓L_ald_n0, ↓F_g35_1, ↓r_icge_t, ↓r_icge_f, ↓J_X5_denyOthers_45, ↓L_ild_n2, ↓r_iceq_t, ↓r_iceq_f, ↓J_X5_denyOthers_39, ↓F_g35_5, ↓r_dup2, ↓r_dup2L, ↓A_g3, ↓A_g4, ↓A_g5, ↓A_g6, ↓A_g7, ↓A_g9, ↓A_g10, ↓A_g12, ↓A_g13, ↓A_g15, ↓A_g16, ↓A_g19, ↓A_g20, ↓A_g21, ↓A_g22, ↓A_g23, ↓A_g25, ↓A_g26, ↓A_g28, ↓A_g29, ↓A_g31, ↓A_g32, ↓A_g34, ↓A_g36, ↓A_g37, ↓A_g38, ↓A_g39, ↓A_g41, ↓A_g42, ↓A_g43, ↓A_g44, ↓A_g61, ↓A_g62, ↓A_g63, ↓A_g65, ↓A_g66, ↓A_g67, ↓A_g68, ↓A_g69, ↓A_g70, ↓A_gN, ↓A_gT, ↓A_gC, ↓L_ild_n3, ↓F_g35_0, ↓A_a2, ↓A_a18, ↓A_a40, ↓A_a47, ↓L_ild_n1, ↓r_imul, ↓r_isub, ↓A_p3, ↓A_p4, ↓A_p5, ↓A_p6, ↓A_p7, ↓A_p9, ↓A_p10, ↓A_p12, ↓A_p13, ↓A_p15, ↓A_p16, ↓A_p19, ↓A_p20, ↓A_p21, ↓A_p22, ↓A_p23, ↓A_p25, ↓A_p26, ↓A_p28, ↓A_p29, ↓A_p31, ↓A_p32, ↓A_p34, ↓A_p36, ↓A_p37, ↓A_p38, ↓A_p39, ↓A_p41, ↓A_p42, ↓A_p43, ↓A_p44, ↓A_p61, ↓A_p62, ↓A_p63, ↓A_p65, ↓A_p66, ↓A_p67, ↓A_p68, ↓A_p69, ↓A_p70, ↓A_pN, ↓A_pT, ↓L_iinc4, ↓r_goto, ↓J_X5_denyOthers_3, ↓r_return, ↓U_X5_denyOthers_0, ↓U_X5_denyOthers_39, ↓U_X5_denyOthers_45, ↓zthen_v, ↓zthen_0, zU_eq, zU_nc, zU_nj, h0]
        exact E
    · obtain ⟨s1, H, F, E⟩ := ih (u + 1) (zU s 38 u (s 38 u - c * s (3 + u) th)) (by rw [zU_ow _ _ _ _ _ _ (by omega)]; exact h0) (by rw [zU_ow _ _ _ _ _ _ (by omega)]; exact h1) (by omega) (by omega)
      refine ⟨s1, fun q a b => ?_, fun a b g => by rw [F a b g, zU_ow _ _ _ _ _ _ (by omega)], ?_⟩
      · rw [H q a b]
        by_cases g : q = u
        · subst g
          rw [if_neg (by omega), zU_eq, if_pos (by omega)]
        · rw [zU_ow _ _ _ _ _ _ (by omega), zU_ow _ _ _ _ _ _ (by omega)]
          by_cases g2 : u ≤ q ∧ ¬ q = p
          · rw [if_pos (by omega), if_pos g2]
          · rw [if_neg (by omega), if_neg g2]
      · rw [U_X5_denyOthers_3]
        simp (disch := first | exact z_tt rfl | assumption | omega | (simp (disch := omega) only [zU_eq, zU_nc, zU_nj]; omega)) only [↓r_iconst, ↓L_ist4, ↓L_ist4L, ↓L_ild4, ↓L_ald_n0, ↓F_g35_1, ↓r_icge_t, ↓r_icge_f, ↓J_X5_denyOthers_45, ↓L_ild_n2, ↓r_iceq_t, ↓r_iceq_f, ↓J_X5_denyOthers_39, ↓F_g35_5, ↓r_dup2, ↓r_dup2L, ↓A_g3, ↓A_g4, ↓A_g5, ↓A_g6, ↓A_g7, ↓A_g9, ↓A_g10, ↓A_g12, ↓A_g13, ↓A_g15, ↓A_g16, ↓A_g19, ↓A_g20, ↓A_g21, ↓A_g22, ↓A_g23, ↓A_g25, ↓A_g26, ↓A_g28, ↓A_g29, ↓A_g31, ↓A_g32, ↓A_g34, ↓A_g36, ↓A_g37, ↓A_g38, ↓A_g39, ↓A_g41, ↓A_g42, ↓A_g43, ↓A_g44, ↓A_g61, ↓A_g62, ↓A_g63, ↓A_g65, ↓A_g66, ↓A_g67, ↓A_g68, ↓A_g69, ↓A_g70, ↓A_gN, ↓A_gT, ↓A_gC, ↓L_ild_n3, ↓F_g35_0, ↓A_a2, ↓A_a18, ↓A_a40, ↓A_a47, ↓L_ild_n1, ↓r_imul, ↓r_isub, ↓A_p3, ↓A_p4, ↓A_p5, ↓A_p6, ↓A_p7, ↓A_p9, ↓A_p10, ↓A_p12, ↓A_p13, ↓A_p15, ↓A_p16, ↓A_p19, ↓A_p20, ↓A_p21, ↓A_p22, ↓A_p23, ↓A_p25, ↓A_p26, ↓A_p28, ↓A_p29, ↓A_p31, ↓A_p32, ↓A_p34, ↓A_p36, ↓A_p37, ↓A_p38, ↓A_p39, ↓A_p41, ↓A_p42, ↓A_p43, ↓A_p44, ↓A_p61, ↓A_p62, ↓A_p63, ↓A_p65, ↓A_p66, ↓A_p67, ↓A_p68, ↓A_p69, ↓A_p70, ↓A_pN, ↓A_pT, ↓L_iinc4, ↓r_goto, ↓J_X5_denyOthers_3, ↓r_return, ↓U_X5_denyOthers_0, ↓U_X5_denyOthers_39, ↓U_X5_denyOthers_45, ↓zthen_v, ↓zthen_0, zU_eq, zU_nc, zU_nj, h0]
        exact E
theorem c_deny {s : zM} {th p c n : Int} (hn : 0 ≤ n ∧ n ≤ 4) (hth : 0 ≤ th ∧ th < 6) (hp : 0 ≤ p ∧ p < 4) (h0 : s 35 0 = 2) (h1 : s 35 1 = n) : ∃ s1, (∀ q : Int, 0 ≤ q → q < n → s1 38 q = if q = p then s 38 q else s 38 q - c * s (3 + q) th) ∧ (∀ a b : Int, ¬ a = 38 → s1 a b = s a b) ∧ zcall 46 [vR 35, vI th, vI p, vI c] s = some (none, s1) := by
  obtain ⟨s1, H, F, E⟩ := c_dn_loop (c := c) hn.2 hth hp n.toNat 0 s h0 h1 (by omega) (by omega)
  refine ⟨s1, fun q a b => ?_, F, ?_⟩
  · rw [H q a b]
    by_cases g : q = p
    · rw [if_pos g, if_neg (by omega)]
    · rw [if_neg g, if_pos ⟨a, g⟩]
  · rw [S_X5_denyOthers]
    simp (disch := first | exact z_tt rfl | assumption | omega | (simp (disch := omega) only [zU_eq, zU_nc, zU_nj]; omega)) only [↓r_iconst, ↓L_ist4, ↓L_ist4L, ↓L_ild4, ↓L_ald_n0, ↓F_g35_1, ↓r_icge_t, ↓r_icge_f, ↓J_X5_denyOthers_45, ↓L_ild_n2, ↓r_iceq_t, ↓r_iceq_f, ↓J_X5_denyOthers_39, ↓F_g35_5, ↓r_dup2, ↓r_dup2L, ↓A_g3, ↓A_g4, ↓A_g5, ↓A_g6, ↓A_g7, ↓A_g9, ↓A_g10, ↓A_g12, ↓A_g13, ↓A_g15, ↓A_g16, ↓A_g19, ↓A_g20, ↓A_g21, ↓A_g22, ↓A_g23, ↓A_g25, ↓A_g26, ↓A_g28, ↓A_g29, ↓A_g31, ↓A_g32, ↓A_g34, ↓A_g36, ↓A_g37, ↓A_g38, ↓A_g39, ↓A_g41, ↓A_g42, ↓A_g43, ↓A_g44, ↓A_g61, ↓A_g62, ↓A_g63, ↓A_g65, ↓A_g66, ↓A_g67, ↓A_g68, ↓A_g69, ↓A_g70, ↓A_gN, ↓A_gT, ↓A_gC, ↓L_ild_n3, ↓F_g35_0, ↓A_a2, ↓A_a18, ↓A_a40, ↓A_a47, ↓L_ild_n1, ↓r_imul, ↓r_isub, ↓A_p3, ↓A_p4, ↓A_p5, ↓A_p6, ↓A_p7, ↓A_p9, ↓A_p10, ↓A_p12, ↓A_p13, ↓A_p15, ↓A_p16, ↓A_p19, ↓A_p20, ↓A_p21, ↓A_p22, ↓A_p23, ↓A_p25, ↓A_p26, ↓A_p28, ↓A_p29, ↓A_p31, ↓A_p32, ↓A_p34, ↓A_p36, ↓A_p37, ↓A_p38, ↓A_p39, ↓A_p41, ↓A_p42, ↓A_p43, ↓A_p44, ↓A_p61, ↓A_p62, ↓A_p63, ↓A_p65, ↓A_p66, ↓A_p67, ↓A_p68, ↓A_p69, ↓A_p70, ↓A_pN, ↓A_pT, ↓L_iinc4, ↓r_goto, ↓J_X5_denyOthers_3, ↓r_return, ↓U_X5_denyOthers_0, ↓U_X5_denyOthers_39, ↓U_X5_denyOthers_45, ↓zthen_v, ↓zthen_0, zU_eq, zU_nc, zU_nj]
    exact E
set_option maxRecDepth 20000 in
theorem c_keepW {s : zM} {q : Int} (hq : 0 ≤ q ∧ q < 4) (hr : 0 ≤ s 38 q ∧ s 38 q ≤ 594) (hT : 0 ≤ s 37 q ∧ s 37 q ≤ 594) : zcall 45 [vR 35, vI q] s = some (none, zU (zU (zU (zCpy s 36 0 39 0 6) 35 7 (s 38 q)) 35 8 (s 37 q)) 35 9 q) := by
  have e1 : zCpy s 36 0 39 0 6 38 q = s 38 q := zCpy_nc _ _ _ _ _ _ _ _ (by omega)
  have e2 : zCpy s 36 0 39 0 6 37 q = s 37 q := zCpy_nc _ _ _ _ _ _ _ _ (by omega)
  rw [S_X5_keep]
  simp (disch := first | exact z_tt rfl | assumption | omega | (simp (disch := omega) only [zU_eq, zU_nc, zU_nj]; omega)) only [↓L_ald_n0, ↓F_g35_3, ↓r_iconst, ↓F_g35_6, ↓r_bipush, ↓A_c6, ↓A_c5, ↓A_c8, ↓A_c82, ↓A_c60, ↓A_c360, ↓F_g35_5, ↓L_ild_n1, ↓A_g3, ↓A_g4, ↓A_g5, ↓A_g6, ↓A_g7, ↓A_g9, ↓A_g10, ↓A_g12, ↓A_g13, ↓A_g15, ↓A_g16, ↓A_g19, ↓A_g20, ↓A_g21, ↓A_g22, ↓A_g23, ↓A_g25, ↓A_g26, ↓A_g28, ↓A_g29, ↓A_g31, ↓A_g32, ↓A_g34, ↓A_g36, ↓A_g37, ↓A_g38, ↓A_g39, ↓A_g41, ↓A_g42, ↓A_g43, ↓A_g44, ↓A_g61, ↓A_g62, ↓A_g63, ↓A_g65, ↓A_g66, ↓A_g67, ↓A_g68, ↓A_g69, ↓A_g70, ↓A_gN, ↓A_gT, ↓A_gC, ↓r_i2l, ↓F_p35_7, ↓F_g35_4, ↓F_p35_8, ↓F_p35_9, ↓r_return, ↓U_X5_keep_0, ↓zthen_v, ↓zthen_0, zU_eq, zU_nc, zU_nj, e1, e2]
