theorem V1_of {τ τ' : zM} (hV : V1 τ) (e : τ' 61 = τ 61) : V1 τ' := by unfold V1 at hV ⊢; rw [e]; exact hV
theorem Qp_of {τ τ' : zM} (e : τ' 61 = τ 61) (p : Int) : Qp τ' p = Qp τ p := by unfold Qp; rw [e]
theorem allM_of {τ τ' : zM} (e : τ' 61 = τ 61) (p : Int) : allM τ' p = allM τ p := by unfold allM; rw [e]
theorem zU_row (σ : zM) (c j v c' : Int) (h : c' < c ∨ c < c') : zU σ c j v c' = σ c' := funext fun q => zU_nc _ _ _ _ _ _ h
theorem Fl_64 {τ : zM} (hF : Fl τ) {t v : Int} (hv : 0 ≤ v ∧ v < 2) : Fl (zU τ 64 t v) := by
  intro q h1 h2
  by_cases e : q = t
  · rw [e, zU_eq]; exact hv
  · rw [zU_nj _ _ _ _ _ (by omega)]; exact hF q h1 h2
theorem Fl_o {τ : zM} (hF : Fl τ) {c t v : Int} (hc : c < 64 ∨ 64 < c) : Fl (zU τ c t v) := by
  intro q h1 h2
  rw [zU_nc _ _ _ _ _ _ (by omega)]; exact hF q h1 h2
/-- the reference moves RICH's things -/
def mvM (r p f : Int) : Nat → Int → zM → zM
  | 0, _, τ => τ
  | n + 1, k, τ =>
    if ¬ τ 64 (byR (Qp τ r) (Qp τ p) (τ 61 1).toNat k) = f then mvM r p f n (k + 1) τ
    else if mor τ r p f = 0 then τ
    else if mor (zU τ 64 (byR (Qp τ r) (Qp τ p) (τ 61 1).toNat k) (1 - f)) r p f < 0 then zU (zU (zU (zU (zU τ 64 (byR (Qp τ r) (Qp τ p) (τ 61 1).toNat k) (1 - f)) 64 (byR (Qp τ r) (Qp τ p) (τ 61 1).toNat k) f) 60 5 (byR (Qp τ r) (Qp τ p) (τ 61 1).toNat k)) 60 6 (mor τ r p f)) 60 7 (Qp τ r (byR (Qp τ r) (Qp τ p) (τ 61 1).toNat k) * allM τ p + Qp τ p (byR (Qp τ r) (Qp τ p) (τ 61 1).toNat k) * allM τ r)
    else mvM r p f n (k + 1) (zU (zU τ 64 (byR (Qp τ r) (Qp τ p) (τ 61 1).toNat k) (1 - f)) 60 8 (τ 60 8 + 1))
set_option maxRecDepth 20000 in
set_option maxHeartbeats 4000000 in
theorem m_mv_loop {r p f : Int} (hr : 0 ≤ r ∧ r < 4) (hp : 0 ≤ p ∧ p < 4) (hf : 0 ≤ f ∧ f < 2) : ∀ (n : Nat) (k : Int) (τ : zM) (u v : zV), V1 τ → Fl τ → 0 ≤ k → k + n = τ 61 1 → zres 149 C_X7_movesAll_13 [vR 60, vI f, vI r, vI p, vI k, u, v] [] τ = some (none, mvM r p f n k τ) := by
  intro n
  induction n with
  | zero =>
    intro k τ u v hV hF hk hn
    have v1 := hV.2.1
    simp (disch := first | exact z_tt rfl | assumption | omega | (simp (disch := omega) only [zU_eq, zU_nc, zU_nj]; omega)) only [↓L_ald_n0, ↓F_g60_9, ↓L_ist_n2, ↓L_ist_n2L, ↓F_g60_10, ↓L_ist_n3, ↓L_ist_n3L, ↓r_iconst, ↓L_ist4, ↓L_ist4L, ↓L_ild4, ↓F_g60_0, ↓A_g3, ↓A_g4, ↓A_g5, ↓A_g6, ↓A_g7, ↓A_g9, ↓A_g10, ↓A_g12, ↓A_g13, ↓A_g15, ↓A_g16, ↓A_g19, ↓A_g20, ↓A_g21, ↓A_g22, ↓A_g23, ↓A_g25, ↓A_g26, ↓A_g28, ↓A_g29, ↓A_g31, ↓A_g32, ↓A_g34, ↓A_g36, ↓A_g37, ↓A_g38, ↓A_g39, ↓A_g41, ↓A_g42, ↓A_g43, ↓A_g44, ↓A_g61, ↓A_g62, ↓A_g63, ↓A_g65, ↓A_g66, ↓A_g67, ↓A_g68, ↓A_g69, ↓A_g70, ↓A_gN, ↓A_gT, ↓A_gC, ↓r_icge_t, ↓r_icge_f, ↓J_X7_movesAll_159, ↓L_ild_n2, ↓L_ild_n3, ↓I_X7_byRatio_60, ↓L_ist5, ↓L_ist5L, ↓F_g60_4, ↓L_ild5, ↓A_b46, ↓A_z64, ↓L_ild_n1, ↓r_iceq_t, ↓r_iceq_f, ↓J_X7_movesAll_48, ↓r_goto, ↓J_X7_movesAll_153, ↓I_X7_moreOf_60, ↓L_ist6, ↓L_ist6L, ↓L_ild6, ↓r_ifne_t, ↓r_ifne_f, ↓J_X7_movesAll_63, ↓r_return, ↓J_X7_movesAll_77, ↓J_X7_movesAll_78, ↓A_bp46, ↓A_zp64, ↓r_ifge_t, ↓r_ifge_f, ↓J_X7_movesAll_143, ↓F_p60_5, ↓r_i2l, ↓F_p60_6, ↓I_X7_pointsOf_60, ↓I_X7_allOf_60, ↓r_imul, ↓r_iadd, ↓F_p60_7, ↓r_dupI, ↓r_dupR, ↓F_g60_8, ↓F_p60_8, ↓L_iinc4, ↓J_X7_movesAll_13, ↓U_X7_movesAll_0, ↓U_X7_movesAll_13, ↓U_X7_movesAll_48, ↓U_X7_movesAll_63, ↓U_X7_movesAll_77, ↓U_X7_movesAll_78, ↓U_X7_movesAll_143, ↓U_X7_movesAll_153, ↓U_X7_movesAll_159, ↓zthen_v, ↓zthen_0, zU_eq, zU_nc, zU_nj, mvM]
  | succ n ih =>
    intro k τ u v hV hF hk hn
    have v1 := hV.2.1
    have hbr := m_byRatio hV hr hp (k := k) (by omega)
    have hs := byR_spec (R := Qp τ r) (Qp_nn hV hp) (k := k) (by omega)
    obtain ⟨g, hg⟩ : ∃ g : Int, (1 : Int) - f = g := ⟨_, rfl⟩
    rw [U_X7_movesAll_13, mvM, hg]
    generalize byR (Qp τ r) (Qp τ p) (τ 61 1).toNat k = t at *
    have ht : 0 ≤ t ∧ t < τ 61 1 := by omega
    have hft := hF t ht.1 (by omega)
    by_cases h1 : τ 64 t = f
    · rw [if_neg (by simpa using h1)]
      have hmo := m_moreOf hV hF hr hp hf
      have hmb := mor_bd hV (i := r) (j := p) (f := f) hr hp
      by_cases h2 : mor τ r p f = 0
      · rw [if_pos h2]
        simp (disch := first | exact z_tt rfl | assumption | omega | (simp (disch := omega) only [zU_eq, zU_nc, zU_nj]; omega)) only [↓L_ald_n0, ↓F_g60_9, ↓L_ist_n2, ↓L_ist_n2L, ↓F_g60_10, ↓L_ist_n3, ↓L_ist_n3L, ↓r_iconst, ↓L_ist4, ↓L_ist4L, ↓L_ild4, ↓F_g60_0, ↓A_g3, ↓A_g4, ↓A_g5, ↓A_g6, ↓A_g7, ↓A_g9, ↓A_g10, ↓A_g12, ↓A_g13, ↓A_g15, ↓A_g16, ↓A_g19, ↓A_g20, ↓A_g21, ↓A_g22, ↓A_g23, ↓A_g25, ↓A_g26, ↓A_g28, ↓A_g29, ↓A_g31, ↓A_g32, ↓A_g34, ↓A_g36, ↓A_g37, ↓A_g38, ↓A_g39, ↓A_g41, ↓A_g42, ↓A_g43, ↓A_g44, ↓A_g61, ↓A_g62, ↓A_g63, ↓A_g65, ↓A_g66, ↓A_g67, ↓A_g68, ↓A_g69, ↓A_g70, ↓A_gN, ↓A_gT, ↓A_gC, ↓r_icge_t, ↓r_icge_f, ↓J_X7_movesAll_159, ↓L_ild_n2, ↓L_ild_n3, ↓I_X7_byRatio_60, ↓L_ist5, ↓L_ist5L, ↓F_g60_4, ↓L_ild5, ↓A_b46, ↓A_z64, ↓L_ild_n1, ↓r_iceq_t, ↓r_iceq_f, ↓J_X7_movesAll_48, ↓r_goto, ↓J_X7_movesAll_153, ↓I_X7_moreOf_60, ↓L_ist6, ↓L_ist6L, ↓L_ild6, ↓r_ifne_t, ↓r_ifne_f, ↓J_X7_movesAll_63, ↓r_return, ↓J_X7_movesAll_77, ↓J_X7_movesAll_78, ↓A_bp46, ↓A_zp64, ↓r_ifge_t, ↓r_ifge_f, ↓J_X7_movesAll_143, ↓F_p60_5, ↓r_i2l, ↓F_p60_6, ↓I_X7_pointsOf_60, ↓I_X7_allOf_60, ↓r_imul, ↓r_iadd, ↓F_p60_7, ↓r_dupI, ↓r_dupR, ↓F_g60_8, ↓F_p60_8, ↓L_iinc4, ↓J_X7_movesAll_13, ↓U_X7_movesAll_0, ↓U_X7_movesAll_48, ↓U_X7_movesAll_63, ↓U_X7_movesAll_77, ↓U_X7_movesAll_78, ↓U_X7_movesAll_143, ↓U_X7_movesAll_153, ↓U_X7_movesAll_159, ↓zthen_v, ↓zthen_0, zU_eq, zU_nc, zU_nj, hbr, hmo]
      · rw [if_neg h2]
        have e61 : zU τ 64 t g 61 = τ 61 := zU_row _ _ _ _ _ (by omega)
        have hV' := V1_of hV e61
        have hF' := Fl_64 hF (t := t) (v := g) (by omega)
        have hmo2 := m_moreOf hV' hF' hr hp hf
        have hmb2 := mor_bd hV' (i := r) (j := p) (f := f) hr hp
        by_cases h3 : mor (zU τ 64 t g) r p f < 0
        · rw [if_pos h3]
          have q1 : ∀ τ' : zM, τ' 61 = τ 61 → zcall 113 [vR 60, vI r, vI t] τ' = some (some (vI (Qp τ r t)), τ') := fun τ' e => by rw [m_ptsQ (by omega), Qp_of e]
          have q2 : ∀ τ' : zM, τ' 61 = τ 61 → zcall 113 [vR 60, vI p, vI t] τ' = some (some (vI (Qp τ p t)), τ') := fun τ' e => by rw [m_ptsQ (by omega), Qp_of e]
          have q3 : ∀ τ' : zM, τ' 61 = τ 61 → zcall 116 [vR 60, vI r] τ' = some (some (vI (allM τ r)), τ') := fun τ' e => by rw [m_allOf (by rw [e]; exact v1) hr, allM_of e]
          have q4 : ∀ τ' : zM, τ' 61 = τ 61 → zcall 116 [vR 60, vI p] τ' = some (some (vI (allM τ p)), τ') := fun τ' e => by rw [m_allOf (by rw [e]; exact v1) hp, allM_of e]
          have b1 := mul_bd (Qp_bd hV hr ht) (allM_bd hV hp)
          have b2 := mul_bd (Qp_bd hV hp ht) (allM_bd hV hr)
          have em : (zU (zU (zU (zU τ 64 t g) 64 t f) 60 5 t) 60 6 (mor τ r p f)) 61 = τ 61 := by rw [zU_row _ _ _ _ _ (by omega), zU_row _ _ _ _ _ (by omega), zU_row _ _ _ _ _ (by omega), e61]
          have p1 := q1 _ em
          have p2 := q2 _ em
          have p3 := q3 _ em
          have p4 := q4 _ em
          rcases (show (f = 0 ∧ g = 1) ∨ (f = 1 ∧ g = 0) by omega) with ⟨rfl, rfl⟩ | ⟨rfl, rfl⟩
          · simp (disch := first | exact z_tt rfl | assumption | omega | (simp (disch := omega) only [zU_eq, zU_nc, zU_nj]; omega)) only [↓L_ald_n0, ↓F_g60_9, ↓L_ist_n2, ↓L_ist_n2L, ↓F_g60_10, ↓L_ist_n3, ↓L_ist_n3L, ↓r_iconst, ↓L_ist4, ↓L_ist4L, ↓L_ild4, ↓F_g60_0, ↓A_g3, ↓A_g4, ↓A_g5, ↓A_g6, ↓A_g7, ↓A_g9, ↓A_g10, ↓A_g12, ↓A_g13, ↓A_g15, ↓A_g16, ↓A_g19, ↓A_g20, ↓A_g21, ↓A_g22, ↓A_g23, ↓A_g25, ↓A_g26, ↓A_g28, ↓A_g29, ↓A_g31, ↓A_g32, ↓A_g34, ↓A_g36, ↓A_g37, ↓A_g38, ↓A_g39, ↓A_g41, ↓A_g42, ↓A_g43, ↓A_g44, ↓A_g61, ↓A_g62, ↓A_g63, ↓A_g65, ↓A_g66, ↓A_g67, ↓A_g68, ↓A_g69, ↓A_g70, ↓A_gN, ↓A_gT, ↓A_gC, ↓r_icge_t, ↓r_icge_f, ↓J_X7_movesAll_159, ↓L_ild_n2, ↓L_ild_n3, ↓I_X7_byRatio_60, ↓L_ist5, ↓L_ist5L, ↓F_g60_4, ↓L_ild5, ↓A_b46, ↓A_z64, ↓L_ild_n1, ↓r_iceq_t, ↓r_iceq_f, ↓J_X7_movesAll_48, ↓r_goto, ↓J_X7_movesAll_153, ↓I_X7_moreOf_60, ↓L_ist6, ↓L_ist6L, ↓L_ild6, ↓r_ifne_t, ↓r_ifne_f, ↓J_X7_movesAll_63, ↓r_return, ↓J_X7_movesAll_77, ↓J_X7_movesAll_78, ↓A_bp46, ↓A_zp64, ↓r_ifge_t, ↓r_ifge_f, ↓J_X7_movesAll_143, ↓F_p60_5, ↓r_i2l, ↓F_p60_6, ↓I_X7_pointsOf_60, ↓I_X7_allOf_60, ↓r_imul, ↓r_iadd, ↓F_p60_7, ↓r_dupI, ↓r_dupR, ↓F_g60_8, ↓F_p60_8, ↓L_iinc4, ↓J_X7_movesAll_13, ↓U_X7_movesAll_0, ↓U_X7_movesAll_48, ↓U_X7_movesAll_63, ↓U_X7_movesAll_77, ↓U_X7_movesAll_78, ↓U_X7_movesAll_143, ↓U_X7_movesAll_153, ↓U_X7_movesAll_159, ↓zthen_v, ↓zthen_0, zU_eq, zU_nc, zU_nj, hbr, hmo, hmo2, p1, p2, p3, p4]
          · simp (disch := first | exact z_tt rfl | assumption | omega | (simp (disch := omega) only [zU_eq, zU_nc, zU_nj]; omega)) only [↓L_ald_n0, ↓F_g60_9, ↓L_ist_n2, ↓L_ist_n2L, ↓F_g60_10, ↓L_ist_n3, ↓L_ist_n3L, ↓r_iconst, ↓L_ist4, ↓L_ist4L, ↓L_ild4, ↓F_g60_0, ↓A_g3, ↓A_g4, ↓A_g5, ↓A_g6, ↓A_g7, ↓A_g9, ↓A_g10, ↓A_g12, ↓A_g13, ↓A_g15, ↓A_g16, ↓A_g19, ↓A_g20, ↓A_g21, ↓A_g22, ↓A_g23, ↓A_g25, ↓A_g26, ↓A_g28, ↓A_g29, ↓A_g31, ↓A_g32, ↓A_g34, ↓A_g36, ↓A_g37, ↓A_g38, ↓A_g39, ↓A_g41, ↓A_g42, ↓A_g43, ↓A_g44, ↓A_g61, ↓A_g62, ↓A_g63, ↓A_g65, ↓A_g66, ↓A_g67, ↓A_g68, ↓A_g69, ↓A_g70, ↓A_gN, ↓A_gT, ↓A_gC, ↓r_icge_t, ↓r_icge_f, ↓J_X7_movesAll_159, ↓L_ild_n2, ↓L_ild_n3, ↓I_X7_byRatio_60, ↓L_ist5, ↓L_ist5L, ↓F_g60_4, ↓L_ild5, ↓A_b46, ↓A_z64, ↓L_ild_n1, ↓r_iceq_t, ↓r_iceq_f, ↓J_X7_movesAll_48, ↓r_goto, ↓J_X7_movesAll_153, ↓I_X7_moreOf_60, ↓L_ist6, ↓L_ist6L, ↓L_ild6, ↓r_ifne_t, ↓r_ifne_f, ↓J_X7_movesAll_63, ↓r_return, ↓J_X7_movesAll_77, ↓J_X7_movesAll_78, ↓A_bp46, ↓A_zp64, ↓r_ifge_t, ↓r_ifge_f, ↓J_X7_movesAll_143, ↓F_p60_5, ↓r_i2l, ↓F_p60_6, ↓I_X7_pointsOf_60, ↓I_X7_allOf_60, ↓r_imul, ↓r_iadd, ↓F_p60_7, ↓r_dupI, ↓r_dupR, ↓F_g60_8, ↓F_p60_8, ↓L_iinc4, ↓J_X7_movesAll_13, ↓U_X7_movesAll_0, ↓U_X7_movesAll_48, ↓U_X7_movesAll_63, ↓U_X7_movesAll_77, ↓U_X7_movesAll_78, ↓U_X7_movesAll_143, ↓U_X7_movesAll_153, ↓U_X7_movesAll_159, ↓zthen_v, ↓zthen_0, zU_eq, zU_nc, zU_nj, hbr, hmo, hmo2, p1, p2, p3, p4]
        · rw [if_neg h3]
          have hE : (zU (zU τ 64 t g) 60 8 (τ 60 8 + 1)) 61 = τ 61 := by rw [zU_row _ _ _ _ _ (by omega), e61]
          rcases (show (f = 0 ∧ g = 1) ∨ (f = 1 ∧ g = 0) by omega) with ⟨rfl, rfl⟩ | ⟨rfl, rfl⟩
          · simp (disch := first | exact z_tt rfl | assumption | omega | (simp (disch := omega) only [zU_eq, zU_nc, zU_nj]; omega)) only [↓L_ald_n0, ↓F_g60_9, ↓L_ist_n2, ↓L_ist_n2L, ↓F_g60_10, ↓L_ist_n3, ↓L_ist_n3L, ↓r_iconst, ↓L_ist4, ↓L_ist4L, ↓L_ild4, ↓F_g60_0, ↓A_g3, ↓A_g4, ↓A_g5, ↓A_g6, ↓A_g7, ↓A_g9, ↓A_g10, ↓A_g12, ↓A_g13, ↓A_g15, ↓A_g16, ↓A_g19, ↓A_g20, ↓A_g21, ↓A_g22, ↓A_g23, ↓A_g25, ↓A_g26, ↓A_g28, ↓A_g29, ↓A_g31, ↓A_g32, ↓A_g34, ↓A_g36, ↓A_g37, ↓A_g38, ↓A_g39, ↓A_g41, ↓A_g42, ↓A_g43, ↓A_g44, ↓A_g61, ↓A_g62, ↓A_g63, ↓A_g65, ↓A_g66, ↓A_g67, ↓A_g68, ↓A_g69, ↓A_g70, ↓A_gN, ↓A_gT, ↓A_gC, ↓r_icge_t, ↓r_icge_f, ↓J_X7_movesAll_159, ↓L_ild_n2, ↓L_ild_n3, ↓I_X7_byRatio_60, ↓L_ist5, ↓L_ist5L, ↓F_g60_4, ↓L_ild5, ↓A_b46, ↓A_z64, ↓L_ild_n1, ↓r_iceq_t, ↓r_iceq_f, ↓J_X7_movesAll_48, ↓r_goto, ↓J_X7_movesAll_153, ↓I_X7_moreOf_60, ↓L_ist6, ↓L_ist6L, ↓L_ild6, ↓r_ifne_t, ↓r_ifne_f, ↓J_X7_movesAll_63, ↓r_return, ↓J_X7_movesAll_77, ↓J_X7_movesAll_78, ↓A_bp46, ↓A_zp64, ↓r_ifge_t, ↓r_ifge_f, ↓J_X7_movesAll_143, ↓F_p60_5, ↓r_i2l, ↓F_p60_6, ↓I_X7_pointsOf_60, ↓I_X7_allOf_60, ↓r_imul, ↓r_iadd, ↓F_p60_7, ↓r_dupI, ↓r_dupR, ↓F_g60_8, ↓F_p60_8, ↓L_iinc4, ↓J_X7_movesAll_13, ↓U_X7_movesAll_0, ↓U_X7_movesAll_48, ↓U_X7_movesAll_63, ↓U_X7_movesAll_77, ↓U_X7_movesAll_78, ↓U_X7_movesAll_143, ↓U_X7_movesAll_153, ↓U_X7_movesAll_159, ↓zthen_v, ↓zthen_0, zU_eq, zU_nc, zU_nj, hbr, hmo, hmo2]
            exact ih (k + 1) _ _ _ (V1_of hV hE) (Fl_o hF' (by omega)) (by omega) (by rw [hE]; omega)
          · simp (disch := first | exact z_tt rfl | assumption | omega | (simp (disch := omega) only [zU_eq, zU_nc, zU_nj]; omega)) only [↓L_ald_n0, ↓F_g60_9, ↓L_ist_n2, ↓L_ist_n2L, ↓F_g60_10, ↓L_ist_n3, ↓L_ist_n3L, ↓r_iconst, ↓L_ist4, ↓L_ist4L, ↓L_ild4, ↓F_g60_0, ↓A_g3, ↓A_g4, ↓A_g5, ↓A_g6, ↓A_g7, ↓A_g9, ↓A_g10, ↓A_g12, ↓A_g13, ↓A_g15, ↓A_g16, ↓A_g19, ↓A_g20, ↓A_g21, ↓A_g22, ↓A_g23, ↓A_g25, ↓A_g26, ↓A_g28, ↓A_g29, ↓A_g31, ↓A_g32, ↓A_g34, ↓A_g36, ↓A_g37, ↓A_g38, ↓A_g39, ↓A_g41, ↓A_g42, ↓A_g43, ↓A_g44, ↓A_g61, ↓A_g62, ↓A_g63, ↓A_g65, ↓A_g66, ↓A_g67, ↓A_g68, ↓A_g69, ↓A_g70, ↓A_gN, ↓A_gT, ↓A_gC, ↓r_icge_t, ↓r_icge_f, ↓J_X7_movesAll_159, ↓L_ild_n2, ↓L_ild_n3, ↓I_X7_byRatio_60, ↓L_ist5, ↓L_ist5L, ↓F_g60_4, ↓L_ild5, ↓A_b46, ↓A_z64, ↓L_ild_n1, ↓r_iceq_t, ↓r_iceq_f, ↓J_X7_movesAll_48, ↓r_goto, ↓J_X7_movesAll_153, ↓I_X7_moreOf_60, ↓L_ist6, ↓L_ist6L, ↓L_ild6, ↓r_ifne_t, ↓r_ifne_f, ↓J_X7_movesAll_63, ↓r_return, ↓J_X7_movesAll_77, ↓J_X7_movesAll_78, ↓A_bp46, ↓A_zp64, ↓r_ifge_t, ↓r_ifge_f, ↓J_X7_movesAll_143, ↓F_p60_5, ↓r_i2l, ↓F_p60_6, ↓I_X7_pointsOf_60, ↓I_X7_allOf_60, ↓r_imul, ↓r_iadd, ↓F_p60_7, ↓r_dupI, ↓r_dupR, ↓F_g60_8, ↓F_p60_8, ↓L_iinc4, ↓J_X7_movesAll_13, ↓U_X7_movesAll_0, ↓U_X7_movesAll_48, ↓U_X7_movesAll_63, ↓U_X7_movesAll_77, ↓U_X7_movesAll_78, ↓U_X7_movesAll_143, ↓U_X7_movesAll_153, ↓U_X7_movesAll_159, ↓zthen_v, ↓zthen_0, zU_eq, zU_nc, zU_nj, hbr, hmo, hmo2]
            exact ih (k + 1) _ _ _ (V1_of hV hE) (Fl_o hF' (by omega)) (by omega) (by rw [hE]; omega)
    · rw [if_pos (by simpa using h1)]
      simp (disch := first | exact z_tt rfl | assumption | omega | (simp (disch := omega) only [zU_eq, zU_nc, zU_nj]; omega)) only [↓L_ald_n0, ↓F_g60_9, ↓L_ist_n2, ↓L_ist_n2L, ↓F_g60_10, ↓L_ist_n3, ↓L_ist_n3L, ↓r_iconst, ↓L_ist4, ↓L_ist4L, ↓L_ild4, ↓F_g60_0, ↓A_g3, ↓A_g4, ↓A_g5, ↓A_g6, ↓A_g7, ↓A_g9, ↓A_g10, ↓A_g12, ↓A_g13, ↓A_g15, ↓A_g16, ↓A_g19, ↓A_g20, ↓A_g21, ↓A_g22, ↓A_g23, ↓A_g25, ↓A_g26, ↓A_g28, ↓A_g29, ↓A_g31, ↓A_g32, ↓A_g34, ↓A_g36, ↓A_g37, ↓A_g38, ↓A_g39, ↓A_g41, ↓A_g42, ↓A_g43, ↓A_g44, ↓A_g61, ↓A_g62, ↓A_g63, ↓A_g65, ↓A_g66, ↓A_g67, ↓A_g68, ↓A_g69, ↓A_g70, ↓A_gN, ↓A_gT, ↓A_gC, ↓r_icge_t, ↓r_icge_f, ↓J_X7_movesAll_159, ↓L_ild_n2, ↓L_ild_n3, ↓I_X7_byRatio_60, ↓L_ist5, ↓L_ist5L, ↓F_g60_4, ↓L_ild5, ↓A_b46, ↓A_z64, ↓L_ild_n1, ↓r_iceq_t, ↓r_iceq_f, ↓J_X7_movesAll_48, ↓r_goto, ↓J_X7_movesAll_153, ↓I_X7_moreOf_60, ↓L_ist6, ↓L_ist6L, ↓L_ild6, ↓r_ifne_t, ↓r_ifne_f, ↓J_X7_movesAll_63, ↓r_return, ↓J_X7_movesAll_77, ↓J_X7_movesAll_78, ↓A_bp46, ↓A_zp64, ↓r_ifge_t, ↓r_ifge_f, ↓J_X7_movesAll_143, ↓F_p60_5, ↓r_i2l, ↓F_p60_6, ↓I_X7_pointsOf_60, ↓I_X7_allOf_60, ↓r_imul, ↓r_iadd, ↓F_p60_7, ↓r_dupI, ↓r_dupR, ↓F_g60_8, ↓F_p60_8, ↓L_iinc4, ↓J_X7_movesAll_13, ↓U_X7_movesAll_0, ↓U_X7_movesAll_48, ↓U_X7_movesAll_63, ↓U_X7_movesAll_77, ↓U_X7_movesAll_78, ↓U_X7_movesAll_143, ↓U_X7_movesAll_153, ↓U_X7_movesAll_159, ↓zthen_v, ↓zthen_0, zU_eq, zU_nc, zU_nj, hbr]
      exact ih (k + 1) τ _ _ hV hF (by omega) (by omega)
