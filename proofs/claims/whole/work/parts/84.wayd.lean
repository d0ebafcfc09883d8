set_option maxRecDepth 20000 in
set_option maxHeartbeats 4000000 in
theorem c_se_loop {P : Int → Int → Int} {m n : Int} (hP : PN P m n) (hm : 0 ≤ m ∧ m ≤ 6) (hn : 1 ≤ n ∧ n ≤ 4) : ∀ (j : Nat) (p : Int) (s : zM) (z : zV), s 35 0 = 2 → s 35 1 = n → s 35 2 = m → (∀ q t : Int, 0 ≤ q → q < n → 0 ≤ t → t < m → s (3 + q) t = P q t) → 0 ≤ p → p + j = n → ∃ (s1 : zM) (z1 : zV), (∀ q : Int, 0 ≤ q → q < n → s1 37 q = (if p ≤ q then toP P m q else s 37 q) ∧ s1 38 q = (if p ≤ q then toP P m q else s 38 q)) ∧ (∀ a b : Int, ¬ a = 37 → ¬ a = 38 → s1 a b = s a b) ∧ zres 35 C_X5_search_18 [vR 35, vR 2, vI n, vI m, vI p, z] [] s = zres 35 C_X5_search_81 [vR 35, vR 2, vI n, vI m, vI n, z1] [] s1 := by
  intro j
  induction j with
  | zero =>
    intro p s z h0 h1 h2 h3 hp hj
    have e : p = n := by omega
    subst e
    refine ⟨s, z, fun q a b => by rw [if_neg (by omega), if_neg (by omega)]; exact ⟨rfl, rfl⟩, fun _ _ _ _ => rfl, ?_⟩
    rw [U_X5_search_18]
    simp (disch := first | exact z_tt rfl | assumption | omega | (simp (disch := omega) only [zU_eq, zU_nc, zU_nj]; omega)) only [↓L_ald_n0, ↓L_ald_n1, ↓F_p35_0, ↓L_ild_n2, ↓F_p35_1, ↓L_ild_n3, ↓F_p35_2, ↓r_iconst, ↓L_ist4, ↓L_ist4L, ↓L_ild4, ↓F_g35_1, ↓r_icge_t, ↓r_icge_f, ↓J_X5_search_81, ↓F_g35_0, ↓A_a2, ↓A_a18, ↓A_a40, ↓A_a47, ↓F_g35_2, ↓I_X6_sumOf, ↓L_ist5, ↓L_ist5L, ↓F_g35_4, ↓L_ild5, ↓r_ifne_t, ↓r_ifne_f, ↓J_X5_search_58, ↓r_goto, ↓J_X5_search_60, ↓A_p3, ↓A_p4, ↓A_p5, ↓A_p6, ↓A_p7, ↓A_p9, ↓A_p10, ↓A_p12, ↓A_p13, ↓A_p15, ↓A_p16, ↓A_p19, ↓A_p20, ↓A_p21, ↓A_p22, ↓A_p23, ↓A_p25, ↓A_p26, ↓A_p28, ↓A_p29, ↓A_p31, ↓A_p32, ↓A_p34, ↓A_p36, ↓A_p37, ↓A_p38, ↓A_p39, ↓A_p41, ↓A_p42, ↓A_p43, ↓A_p44, ↓A_p61, ↓A_p62, ↓A_p63, ↓A_p65, ↓A_p66, ↓A_p67, ↓A_p68, ↓A_p69, ↓A_p70, ↓A_pN, ↓A_pT, ↓F_g35_5, ↓A_g3, ↓A_g4, ↓A_g5, ↓A_g6, ↓A_g7, ↓A_g9, ↓A_g10, ↓A_g12, ↓A_g13, ↓A_g15, ↓A_g16, ↓A_g19, ↓A_g20, ↓A_g21, ↓A_g22, ↓A_g23, ↓A_g25, ↓A_g26, ↓A_g28, ↓A_g29, ↓A_g31, ↓A_g32, ↓A_g34, ↓A_g36, ↓A_g37, ↓A_g38, ↓A_g39, ↓A_g41, ↓A_g42, ↓A_g43, ↓A_g44, ↓A_g61, ↓A_g62, ↓A_g63, ↓A_g65, ↓A_g66, ↓A_g67, ↓A_g68, ↓A_g69, ↓A_g70, ↓A_gN, ↓A_gT, ↓A_gC, ↓L_iinc4, ↓J_X5_search_18, ↓r_ldc2w, ↓F_p35_7, ↓r_lconst, ↓F_p35_8, ↓I_X5_giveFrom0, ↓r_return, ↓U_X5_search_0, ↓U_X5_search_58, ↓U_X5_search_60, ↓zthen_v, ↓zthen_0, zU_eq, zU_nc, zU_nj]
  | succ j ih =>
    intro p s z h0 h1 h2 h3 hp hj
    have bT := toP_bd hP hm (p := p) (by omega)
    have bA := aP_bd hP hm (p := p) (by omega)
    have cs := c_X6_sumOf (σ := s) (c := 3 + p) (sz := m) (zshp_pts (by omega)) hm
    have ea : sumI (s (3 + p)) 0 m.toNat = aP P m p := sumI_congr _ _ (fun t a b => h3 p t hp (by omega) a (by omega))
    rw [ea] at cs
    obtain ⟨s1, z1, H, F, E⟩ := ih (p + 1) (zU (zU s 37 p (toP P m p)) 38 p (toP P m p)) (vI (aP P m p)) (by simp (disch := omega) only [zU_ow]; exact h0) (by simp (disch := omega) only [zU_ow]; exact h1) (by simp (disch := omega) only [zU_ow]; exact h2) (fun q t a b c d => by simp (disch := omega) only [zU_ow]; exact h3 q t a b c d) (by omega) (by omega)
    refine ⟨s1, z1, fun q a b => ?_, fun a b g1 g2 => by rw [F a b g1 g2]; simp (disch := omega) only [zU_ow], ?_⟩
    · obtain ⟨x1, x2⟩ := H q a b
      rw [x1, x2]
      by_cases g : q = p
      · subst g
        refine ⟨?_, ?_⟩
        · rw [if_neg (by omega), if_pos (by omega), zU_ow _ _ _ _ _ _ (by omega), zU_eq]
        · rw [if_neg (by omega), if_pos (by omega), zU_eq]
      · by_cases g2 : p ≤ q
        · refine ⟨?_, ?_⟩
          · rw [if_pos (by omega), if_pos g2]
          · rw [if_pos (by omega), if_pos g2]
        · refine ⟨?_, ?_⟩
          · rw [if_neg (by omega), if_neg g2, zU_ow _ _ _ _ _ _ (by omega), zU_ow _ _ _ _ _ _ (by omega)]
          · rw [if_neg (by omega), if_neg g2, zU_ow _ _ _ _ _ _ (by omega), zU_ow _ _ _ _ _ _ (by omega)]
    · rw [U_X5_search_18, ← E]
      by_cases q : aP P m p = 0
      · rw [show toP P m p = 1 from if_pos q]
        simp (disch := first | exact z_tt rfl | assumption | omega | (simp (disch := omega) only [zU_eq, zU_nc, zU_nj]; omega)) only [↓L_ald_n0, ↓L_ald_n1, ↓F_p35_0, ↓L_ild_n2, ↓F_p35_1, ↓L_ild_n3, ↓F_p35_2, ↓r_iconst, ↓L_ist4, ↓L_ist4L, ↓L_ild4, ↓F_g35_1, ↓r_icge_t, ↓r_icge_f, ↓J_X5_search_81, ↓F_g35_0, ↓A_a2, ↓A_a18, ↓A_a40, ↓A_a47, ↓F_g35_2, ↓I_X6_sumOf, ↓L_ist5, ↓L_ist5L, ↓F_g35_4, ↓L_ild5, ↓r_ifne_t, ↓r_ifne_f, ↓J_X5_search_58, ↓r_goto, ↓J_X5_search_60, ↓A_p3, ↓A_p4, ↓A_p5, ↓A_p6, ↓A_p7, ↓A_p9, ↓A_p10, ↓A_p12, ↓A_p13, ↓A_p15, ↓A_p16, ↓A_p19, ↓A_p20, ↓A_p21, ↓A_p22, ↓A_p23, ↓A_p25, ↓A_p26, ↓A_p28, ↓A_p29, ↓A_p31, ↓A_p32, ↓A_p34, ↓A_p36, ↓A_p37, ↓A_p38, ↓A_p39, ↓A_p41, ↓A_p42, ↓A_p43, ↓A_p44, ↓A_p61, ↓A_p62, ↓A_p63, ↓A_p65, ↓A_p66, ↓A_p67, ↓A_p68, ↓A_p69, ↓A_p70, ↓A_pN, ↓A_pT, ↓F_g35_5, ↓A_g3, ↓A_g4, ↓A_g5, ↓A_g6, ↓A_g7, ↓A_g9, ↓A_g10, ↓A_g12, ↓A_g13, ↓A_g15, ↓A_g16, ↓A_g19, ↓A_g20, ↓A_g21, ↓A_g22, ↓A_g23, ↓A_g25, ↓A_g26, ↓A_g28, ↓A_g29, ↓A_g31, ↓A_g32, ↓A_g34, ↓A_g36, ↓A_g37, ↓A_g38, ↓A_g39, ↓A_g41, ↓A_g42, ↓A_g43, ↓A_g44, ↓A_g61, ↓A_g62, ↓A_g63, ↓A_g65, ↓A_g66, ↓A_g67, ↓A_g68, ↓A_g69, ↓A_g70, ↓A_gN, ↓A_gT, ↓A_gC, ↓L_iinc4, ↓J_X5_search_18, ↓r_ldc2w, ↓F_p35_7, ↓r_lconst, ↓F_p35_8, ↓I_X5_giveFrom0, ↓r_return, ↓U_X5_search_0, ↓U_X5_search_58, ↓U_X5_search_60, ↓zthen_v, ↓zthen_0, zU_eq, zU_nc, zU_nj, h0, h2, cs]
      · rw [show toP P m p = aP P m p from if_neg q]
        simp (disch := first | exact z_tt rfl | assumption | omega | (simp (disch := omega) only [zU_eq, zU_nc, zU_nj]; omega)) only [↓L_ald_n0, ↓L_ald_n1, ↓F_p35_0, ↓L_ild_n2, ↓F_p35_1, ↓L_ild_n3, ↓F_p35_2, ↓r_iconst, ↓L_ist4, ↓L_ist4L, ↓L_ild4, ↓F_g35_1, ↓r_icge_t, ↓r_icge_f, ↓J_X5_search_81, ↓F_g35_0, ↓A_a2, ↓A_a18, ↓A_a40, ↓A_a47, ↓F_g35_2, ↓I_X6_sumOf, ↓L_ist5, ↓L_ist5L, ↓F_g35_4, ↓L_ild5, ↓r_ifne_t, ↓r_ifne_f, ↓J_X5_search_58, ↓r_goto, ↓J_X5_search_60, ↓A_p3, ↓A_p4, ↓A_p5, ↓A_p6, ↓A_p7, ↓A_p9, ↓A_p10, ↓A_p12, ↓A_p13, ↓A_p15, ↓A_p16, ↓A_p19, ↓A_p20, ↓A_p21, ↓A_p22, ↓A_p23, ↓A_p25, ↓A_p26, ↓A_p28, ↓A_p29, ↓A_p31, ↓A_p32, ↓A_p34, ↓A_p36, ↓A_p37, ↓A_p38, ↓A_p39, ↓A_p41, ↓A_p42, ↓A_p43, ↓A_p44, ↓A_p61, ↓A_p62, ↓A_p63, ↓A_p65, ↓A_p66, ↓A_p67, ↓A_p68, ↓A_p69, ↓A_p70, ↓A_pN, ↓A_pT, ↓F_g35_5, ↓A_g3, ↓A_g4, ↓A_g5, ↓A_g6, ↓A_g7, ↓A_g9, ↓A_g10, ↓A_g12, ↓A_g13, ↓A_g15, ↓A_g16, ↓A_g19, ↓A_g20, ↓A_g21, ↓A_g22, ↓A_g23, ↓A_g25, ↓A_g26, ↓A_g28, ↓A_g29, ↓A_g31, ↓A_g32, ↓A_g34, ↓A_g36, ↓A_g37, ↓A_g38, ↓A_g39, ↓A_g41, ↓A_g42, ↓A_g43, ↓A_g44, ↓A_g61, ↓A_g62, ↓A_g63, ↓A_g65, ↓A_g66, ↓A_g67, ↓A_g68, ↓A_g69, ↓A_g70, ↓A_gN, ↓A_gT, ↓A_gC, ↓L_iinc4, ↓J_X5_search_18, ↓r_ldc2w, ↓F_p35_7, ↓r_lconst, ↓F_p35_8, ↓I_X5_giveFrom0, ↓r_return, ↓U_X5_search_0, ↓U_X5_search_58, ↓U_X5_search_60, ↓zthen_v, ↓zthen_0, zU_eq, zU_nc, zU_nj, h0, h2, cs]
def W0 : Int → Int := fun _ => 0
def B0 : Bst := (-1, 1, 0, fun _ => 0)
def FrX (s s1 : zM) : Prop := ∀ c j : Int, (c < 35 ∨ 39 < c) → s1 c j = s c j
set_option maxRecDepth 20000 in
set_option maxHeartbeats 4000000 in
theorem c_search {s : zM} {P : Int → Int → Int} {m n : Int} (hP : PN P m n) (hm : 0 ≤ m ∧ m ≤ 6) (hn : 1 ≤ n ∧ n ≤ 4) (h3 : ∀ q t : Int, 0 ≤ q → q < n → 0 ≤ t → t < m → s (3 + q) t = P q t) : ∃ s1, CWv s1 P m n W0 0 (scn P m n m.toNat W0 B0) ∧ FrX s s1 ∧ zcall 35 [vR 35, vR 2, vI n, vI m] s = some (none, s1) := by
  obtain ⟨s1, z1, H, F, E⟩ := c_se_loop hP hm hn n.toNat 0 (zU (zU (zU s 35 0 2) 35 1 n) 35 2 m) vU (by simp (disch := omega) only [zU_ow, zU_eq]) (by simp (disch := omega) only [zU_ow, zU_eq]) (by simp (disch := omega) only [zU_ow, zU_eq]) (fun q t a b c d => by simp (disch := omega) only [zU_ow]; exact h3 q t a b c d) (by omega) (by omega)
  have hs : CWs (zU (zU s1 35 7 (-1)) 35 8 1) P m n := by
    refine ⟨?_, ?_, ?_, fun p a b => ?_, fun p t a b c d => ?_⟩
    · simp (disch := omega) only [zU_ow]
      rw [F _ _ (by omega) (by omega)]
      simp (disch := omega) only [zU_ow, zU_eq]
    · simp (disch := omega) only [zU_ow]
      rw [F _ _ (by omega) (by omega)]
      simp (disch := omega) only [zU_ow, zU_eq]
    · simp (disch := omega) only [zU_ow]
      rw [F _ _ (by omega) (by omega)]
      simp (disch := omega) only [zU_ow, zU_eq]
    · simp (disch := omega) only [zU_ow]
      rw [(H p a b).1, if_pos a]
    · simp (disch := omega) only [zU_ow]
      rw [F _ _ (by omega) (by omega)]
      simp (disch := omega) only [zU_ow]
      exact h3 p t a b c d
  have hv : CWv (zU (zU s1 35 7 (-1)) 35 8 1) P m n W0 0 B0 := by
    refine ⟨fun t a b => by omega, fun p a b => ?_, ?_, ?_, Or.inl rfl⟩
    · simp (disch := omega) only [zU_ow]
      rw [(H p a b).2, if_pos a]
      unfold rch
      rw [show sumI (fun t => if W0 t = p then 0 else P p t) 0 (0 : Int).toNat = 0 from rfl]
      omega
    · simp (disch := omega) only [zU_ow, zU_eq]
      rfl
    · rw [zU_eq]
      rfl
  obtain ⟨s2, V2, F2, E2⟩ := c_gF0 hP hm hn m.toNat (by omega) (zU (zU s1 35 7 (-1)) 35 8 1) W0 B0 hs hv ⟨⟨by decide, by decide⟩, by decide, by decide⟩
  refine ⟨s2, V2, fun c j h => ?_, ?_⟩
  · rw [F2 _ _ (by omega)]
    simp (disch := omega) only [zU_ow]
    rw [F _ _ (by omega) (by omega)]
    simp (disch := omega) only [zU_ow]
  · rw [S_X5_search]
    simp (disch := first | exact z_tt rfl | assumption | omega | (simp (disch := omega) only [zU_eq, zU_nc, zU_nj]; omega)) only [↓L_ald_n0, ↓L_ald_n1, ↓F_p35_0, ↓L_ild_n2, ↓F_p35_1, ↓L_ild_n3, ↓F_p35_2, ↓r_iconst, ↓L_ist4, ↓L_ist4L, ↓L_ild4, ↓F_g35_1, ↓r_icge_t, ↓r_icge_f, ↓J_X5_search_81, ↓F_g35_0, ↓A_a2, ↓A_a18, ↓A_a40, ↓A_a47, ↓F_g35_2, ↓I_X6_sumOf, ↓L_ist5, ↓L_ist5L, ↓F_g35_4, ↓L_ild5, ↓r_ifne_t, ↓r_ifne_f, ↓J_X5_search_58, ↓r_goto, ↓J_X5_search_60, ↓A_p3, ↓A_p4, ↓A_p5, ↓A_p6, ↓A_p7, ↓A_p9, ↓A_p10, ↓A_p12, ↓A_p13, ↓A_p15, ↓A_p16, ↓A_p19, ↓A_p20, ↓A_p21, ↓A_p22, ↓A_p23, ↓A_p25, ↓A_p26, ↓A_p28, ↓A_p29, ↓A_p31, ↓A_p32, ↓A_p34, ↓A_p36, ↓A_p37, ↓A_p38, ↓A_p39, ↓A_p41, ↓A_p42, ↓A_p43, ↓A_p44, ↓A_p61, ↓A_p62, ↓A_p63, ↓A_p65, ↓A_p66, ↓A_p67, ↓A_p68, ↓A_p69, ↓A_p70, ↓A_pN, ↓A_pT, ↓F_g35_5, ↓A_g3, ↓A_g4, ↓A_g5, ↓A_g6, ↓A_g7, ↓A_g9, ↓A_g10, ↓A_g12, ↓A_g13, ↓A_g15, ↓A_g16, ↓A_g19, ↓A_g20, ↓A_g21, ↓A_g22, ↓A_g23, ↓A_g25, ↓A_g26, ↓A_g28, ↓A_g29, ↓A_g31, ↓A_g32, ↓A_g34, ↓A_g36, ↓A_g37, ↓A_g38, ↓A_g39, ↓A_g41, ↓A_g42, ↓A_g43, ↓A_g44, ↓A_g61, ↓A_g62, ↓A_g63, ↓A_g65, ↓A_g66, ↓A_g67, ↓A_g68, ↓A_g69, ↓A_g70, ↓A_gN, ↓A_gT, ↓A_gC, ↓L_iinc4, ↓J_X5_search_18, ↓r_ldc2w, ↓F_p35_7, ↓r_lconst, ↓F_p35_8, ↓I_X5_giveFrom0, ↓r_return, ↓U_X5_search_0, ↓U_X5_search_58, ↓U_X5_search_60, ↓zthen_v, ↓zthen_0, zU_eq, zU_nc, zU_nj]
    rw [E, U_X5_search_81]
    simp (disch := first | exact z_tt rfl | assumption | omega | (simp (disch := omega) only [zU_eq, zU_nc, zU_nj]; omega)) only [↓L_ald_n0, ↓L_ald_n1, ↓F_p35_0, ↓L_ild_n2, ↓F_p35_1, ↓L_ild_n3, ↓F_p35_2, ↓r_iconst, ↓L_ist4, ↓L_ist4L, ↓L_ild4, ↓F_g35_1, ↓r_icge_t, ↓r_icge_f, ↓J_X5_search_81, ↓F_g35_0, ↓A_a2, ↓A_a18, ↓A_a40, ↓A_a47, ↓F_g35_2, ↓I_X6_sumOf, ↓L_ist5, ↓L_ist5L, ↓F_g35_4, ↓L_ild5, ↓r_ifne_t, ↓r_ifne_f, ↓J_X5_search_58, ↓r_goto, ↓J_X5_search_60, ↓A_p3, ↓A_p4, ↓A_p5, ↓A_p6, ↓A_p7, ↓A_p9, ↓A_p10, ↓A_p12, ↓A_p13, ↓A_p15, ↓A_p16, ↓A_p19, ↓A_p20, ↓A_p21, ↓A_p22, ↓A_p23, ↓A_p25, ↓A_p26, ↓A_p28, ↓A_p29, ↓A_p31, ↓A_p32, ↓A_p34, ↓A_p36, ↓A_p37, ↓A_p38, ↓A_p39, ↓A_p41, ↓A_p42, ↓A_p43, ↓A_p44, ↓A_p61, ↓A_p62, ↓A_p63, ↓A_p65, ↓A_p66, ↓A_p67, ↓A_p68, ↓A_p69, ↓A_p70, ↓A_pN, ↓A_pT, ↓F_g35_5, ↓A_g3, ↓A_g4, ↓A_g5, ↓A_g6, ↓A_g7, ↓A_g9, ↓A_g10, ↓A_g12, ↓A_g13, ↓A_g15, ↓A_g16, ↓A_g19, ↓A_g20, ↓A_g21, ↓A_g22, ↓A_g23, ↓A_g25, ↓A_g26, ↓A_g28, ↓A_g29, ↓A_g31, ↓A_g32, ↓A_g34, ↓A_g36, ↓A_g37, ↓A_g38, ↓A_g39, ↓A_g41, ↓A_g42, ↓A_g43, ↓A_g44, ↓A_g61, ↓A_g62, ↓A_g63, ↓A_g65, ↓A_g66, ↓A_g67, ↓A_g68, ↓A_g69, ↓A_g70, ↓A_gN, ↓A_gT, ↓A_gC, ↓L_iinc4, ↓J_X5_search_18, ↓r_ldc2w, ↓F_p35_7, ↓r_lconst, ↓F_p35_8, ↓I_X5_giveFrom0, ↓r_return, ↓U_X5_search_0, ↓U_X5_search_58, ↓U_X5_search_60, ↓zthen_v, ↓zthen_0, zU_eq, zU_nc, zU_nj, E2]
/-! the reference's ways -/
def MWs (t : zM) (P : Int → Int → Int) (m n : Int) : Prop := t 61 0 = n ∧ t 61 1 = m ∧ (∀ p u : Int, 0 ≤ p → p < n → 0 ≤ u → u < m → t 61 (29 + 6 * p + u) = P p u)
def MWv (t : zM) (m : Int) (w : Int → Int) (B : Bst) : Prop := (∀ u : Int, 0 ≤ u → u < m → t 65 u = w u) ∧ t 60 13 = B.1 ∧ t 60 14 = B.2.1 ∧ (B.1 = -1 ∨ (t 60 15 = B.2.2.1 ∧ ∀ u : Int, 0 ≤ u → u < m → t 66 u = B.2.2.2 u))
def FrV (t t1 : zM) : Prop := ∀ c j : Int, (c < 60 ∨ (60 < c ∧ c < 65) ∨ 66 < c ∨ (c = 60 ∧ (j < 13 ∨ 15 < j))) → t1 c j = t c j
def WD (w : Int → Int) (m n : Int) : Prop := ∀ u : Int, 0 ≤ u → u < m → 0 ≤ w u ∧ w u < n
theorem MWs_fr {t t1 : zM} {P : Int → Int → Int} {m n : Int} (h : MWs t P m n) (F : FrV t t1) : MWs t1 P m n := by
  obtain ⟨h0, h1, h2⟩ := h
  exact ⟨by rw [F _ _ (by omega)]; exact h0, by rw [F _ _ (by omega)]; exact h1, fun p u a b c d => by rw [F _ _ (by omega)]; exact h2 p u a b c d⟩
set_option maxRecDepth 20000 in
theorem m_ww_loop {t : zM} {p m n : Int} (hm : 0 ≤ m ∧ m ≤ 6) (hn : n ≤ 4) (hp : 0 ≤ p ∧ p < n) (h1 : t 61 1 = m) (hd : ∀ u : Int, 0 ≤ u → u < m → 0 ≤ t 65 u ∧ t 65 u < n) : ∀ (j : Nat) (u s : Int), 0 ≤ u → u + j = m → zres 158 C_X7_wayWorth_4 [vR 60, vI p, vI s, vI u] [] t = some (some (vI (s + sumI (fun u => if t 65 u = p then t 61 (29 + 6 * p + u) else 0) u j)), t) := by
  intro j
  induction j with
  | zero =>
    intro u s hu hj
    simp (disch := first | exact z_tt rfl | assumption | omega | (simp (disch := omega) only [zU_eq, zU_nc, zU_nj]; omega)) only [↓r_iconst, ↓L_ist_n2, ↓L_ist_n2L, ↓L_ist_n3, ↓L_ist_n3L, ↓L_ild_n3, ↓L_ald_n0, ↓F_g60_0, ↓A_g3, ↓A_g4, ↓A_g5, ↓A_g6, ↓A_g7, ↓A_g9, ↓A_g10, ↓A_g12, ↓A_g13, ↓A_g15, ↓A_g16, ↓A_g19, ↓A_g20, ↓A_g21, ↓A_g22, ↓A_g23, ↓A_g25, ↓A_g26, ↓A_g28, ↓A_g29, ↓A_g31, ↓A_g32, ↓A_g34, ↓A_g36, ↓A_g37, ↓A_g38, ↓A_g39, ↓A_g41, ↓A_g42, ↓A_g43, ↓A_g44, ↓A_g61, ↓A_g62, ↓A_g63, ↓A_g65, ↓A_g66, ↓A_g67, ↓A_g68, ↓A_g69, ↓A_g70, ↓A_gN, ↓A_gT, ↓A_gC, ↓r_icge_t, ↓r_icge_f, ↓J_X7_wayWorth_43, ↓L_ild_n2, ↓F_g60_11, ↓L_ild_n1, ↓r_icne_t, ↓r_icne_f, ↓J_X7_wayWorth_34, ↓I_X7_pointsOf_60, ↓r_goto, ↓J_X7_wayWorth_35, ↓r_iadd, ↓L_iinc3, ↓J_X7_wayWorth_4, ↓r_ireturn, ↓U_X7_wayWorth_0, ↓U_X7_wayWorth_4, ↓U_X7_wayWorth_34, ↓U_X7_wayWorth_35, ↓U_X7_wayWorth_43, ↓zthen_v, ↓zthen_0, zU_eq, zU_nc, zU_nj, sumI, Int.add_zero]
  | succ j ih =>
    intro u s hu hj
    have hb := hd u hu (by omega)
    have mp := m_pointsOf (σ := t) (p := p) (t := u) (by omega)
    rw [U_X7_wayWorth_4, sumI]
    by_cases q : t 65 u = p
    · rw [if_pos q]
      simp (disch := first | exact z_tt rfl | assumption | omega | (simp (disch := omega) only [zU_eq, zU_nc, zU_nj]; omega)) only [↓r_iconst, ↓L_ist_n2, ↓L_ist_n2L, ↓L_ist_n3, ↓L_ist_n3L, ↓L_ild_n3, ↓L_ald_n0, ↓F_g60_0, ↓A_g3, ↓A_g4, ↓A_g5, ↓A_g6, ↓A_g7, ↓A_g9, ↓A_g10, ↓A_g12, ↓A_g13, ↓A_g15, ↓A_g16, ↓A_g19, ↓A_g20, ↓A_g21, ↓A_g22, ↓A_g23, ↓A_g25, ↓A_g26, ↓A_g28, ↓A_g29, ↓A_g31, ↓A_g32, ↓A_g34, ↓A_g36, ↓A_g37, ↓A_g38, ↓A_g39, ↓A_g41, ↓A_g42, ↓A_g43, ↓A_g44, ↓A_g61, ↓A_g62, ↓A_g63, ↓A_g65, ↓A_g66, ↓A_g67, ↓A_g68, ↓A_g69, ↓A_g70, ↓A_gN, ↓A_gT, ↓A_gC, ↓r_icge_t, ↓r_icge_f, ↓J_X7_wayWorth_43, ↓L_ild_n2, ↓F_g60_11, ↓L_ild_n1, ↓r_icne_t, ↓r_icne_f, ↓J_X7_wayWorth_34, ↓I_X7_pointsOf_60, ↓r_goto, ↓J_X7_wayWorth_35, ↓r_iadd, ↓L_iinc3, ↓J_X7_wayWorth_4, ↓r_ireturn, ↓U_X7_wayWorth_0, ↓U_X7_wayWorth_34, ↓U_X7_wayWorth_35, ↓U_X7_wayWorth_43, ↓zthen_v, ↓zthen_0, zU_eq, zU_nc, zU_nj, mp]
      rw [ih (u + 1) _ (by omega) (by omega), Int.add_assoc]
    · rw [if_neg q]
      simp (disch := first | exact z_tt rfl | assumption | omega | (simp (disch := omega) only [zU_eq, zU_nc, zU_nj]; omega)) only [↓r_iconst, ↓L_ist_n2, ↓L_ist_n2L, ↓L_ist_n3, ↓L_ist_n3L, ↓L_ild_n3, ↓L_ald_n0, ↓F_g60_0, ↓A_g3, ↓A_g4, ↓A_g5, ↓A_g6, ↓A_g7, ↓A_g9, ↓A_g10, ↓A_g12, ↓A_g13, ↓A_g15, ↓A_g16, ↓A_g19, ↓A_g20, ↓A_g21, ↓A_g22, ↓A_g23, ↓A_g25, ↓A_g26, ↓A_g28, ↓A_g29, ↓A_g31, ↓A_g32, ↓A_g34, ↓A_g36, ↓A_g37, ↓A_g38, ↓A_g39, ↓A_g41, ↓A_g42, ↓A_g43, ↓A_g44, ↓A_g61, ↓A_g62, ↓A_g63, ↓A_g65, ↓A_g66, ↓A_g67, ↓A_g68, ↓A_g69, ↓A_g70, ↓A_gN, ↓A_gT, ↓A_gC, ↓r_icge_t, ↓r_icge_f, ↓J_X7_wayWorth_43, ↓L_ild_n2, ↓F_g60_11, ↓L_ild_n1, ↓r_icne_t, ↓r_icne_f, ↓J_X7_wayWorth_34, ↓I_X7_pointsOf_60, ↓r_goto, ↓J_X7_wayWorth_35, ↓r_iadd, ↓L_iinc3, ↓J_X7_wayWorth_4, ↓r_ireturn, ↓U_X7_wayWorth_0, ↓U_X7_wayWorth_34, ↓U_X7_wayWorth_35, ↓U_X7_wayWorth_43, ↓zthen_v, ↓zthen_0, zU_eq, zU_nc, zU_nj, mp]
      rw [ih (u + 1) _ (by omega) (by omega), Int.add_assoc]
theorem m_wayWorth {t : zM} {P : Int → Int → Int} {p m n : Int} {w : Int → Int} (hm : 0 ≤ m ∧ m ≤ 6) (hn : n ≤ 4) (hp : 0 ≤ p ∧ p < n) (hs : MWs t P m n) (hw : ∀ u : Int, 0 ≤ u → u < m → t 65 u = w u) (hd : WD w m n) : zcall 158 [vR 60, vI p] t = some (some (vI (sumI (fun u => if w u = p then P p u else 0) 0 m.toNat)), t) := by
  have L := m_ww_loop hm hn hp hs.2.1 (fun u a b => by rw [hw u a b]; exact hd u a b) m.toNat 0 0 (by omega) (by omega)
  rw [Int.zero_add, sumI_congr (g := fun u => if w u = p then P p u else 0) m.toNat 0 (fun u a b => by rw [hw u a (by omega), hs.2.2 p u hp.1 hp.2 a (by omega)])] at L
  rw [S_X7_wayWorth]
  simp (disch := first | exact z_tt rfl | assumption | omega | (simp (disch := omega) only [zU_eq, zU_nc, zU_nj]; omega)) only [↓r_iconst, ↓L_ist_n2, ↓L_ist_n2L, ↓L_ist_n3, ↓L_ist_n3L, ↓L_ild_n3, ↓L_ald_n0, ↓F_g60_0, ↓A_g3, ↓A_g4, ↓A_g5, ↓A_g6, ↓A_g7, ↓A_g9, ↓A_g10, ↓A_g12, ↓A_g13, ↓A_g15, ↓A_g16, ↓A_g19, ↓A_g20, ↓A_g21, ↓A_g22, ↓A_g23, ↓A_g25, ↓A_g26, ↓A_g28, ↓A_g29, ↓A_g31, ↓A_g32, ↓A_g34, ↓A_g36, ↓A_g37, ↓A_g38, ↓A_g39, ↓A_g41, ↓A_g42, ↓A_g43, ↓A_g44, ↓A_g61, ↓A_g62, ↓A_g63, ↓A_g65, ↓A_g66, ↓A_g67, ↓A_g68, ↓A_g69, ↓A_g70, ↓A_gN, ↓A_gT, ↓A_gC, ↓r_icge_t, ↓r_icge_f, ↓J_X7_wayWorth_43, ↓L_ild_n2, ↓F_g60_11, ↓L_ild_n1, ↓r_icne_t, ↓r_icne_f, ↓J_X7_wayWorth_34, ↓I_X7_pointsOf_60, ↓r_goto, ↓J_X7_wayWorth_35, ↓r_iadd, ↓L_iinc3, ↓J_X7_wayWorth_4, ↓r_ireturn, ↓U_X7_wayWorth_0, ↓U_X7_wayWorth_34, ↓U_X7_wayWorth_35, ↓U_X7_wayWorth_43, ↓zthen_v, ↓zthen_0, zU_eq, zU_nc, zU_nj]
  exact L
set_option maxRecDepth 20000 in
theorem m_nw_loop {m n : Int} (hm : 0 ≤ m ∧ m ≤ 6) (hn : 1 ≤ n ∧ n ≤ 4) : ∀ (d : Nat) (e : Int) (s : zM), s 61 0 = n → e < m → -1 ≤ e - d → (∀ u : Int, e - d < u → u ≤ e → s 65 u = n - 1) → ∃ s1, (∀ u : Int, s1 65 u = if e - d < u ∧ u ≤ e then 0 else s 65 u) ∧ (∀ a b : Int, ¬ a = 65 → s1 a b = s a b) ∧ zres 157 C_X7_nextWay_9 [vR 60, vI e] [] s = zres 157 C_X7_nextWay_9 [vR 60, vI (e - d)] [] s1 := by
  intro d
  induction d with
  | zero =>
    intro e s h0 he hd hw
    exact ⟨s, fun u => by rw [if_neg (by omega)], fun _ _ _ => rfl, by rw [show e - ((0 : Nat) : Int) = e by omega]⟩
  | succ d ih =>
    intro e s h0 he hd hw
    have hx := hw e (by omega) (by omega)
    obtain ⟨s1, H, F, E⟩ := ih (e + -1) (zU s 65 e 0) (by rw [zU_ow _ _ _ _ _ _ (by omega)]; exact h0) (by omega) (by omega) (fun u a b => by rw [zU_ow _ _ _ _ _ _ (by omega)]; exact hw u (by omega) (by omega))
    refine ⟨s1, fun u => ?_, fun a b g => by rw [F a b g, zU_ow _ _ _ _ _ _ (by omega)], ?_⟩
    · rw [H u]
      by_cases g : u = e
      · subst g
        rw [if_neg (by omega), zU_eq, if_pos (by omega)]
      · rw [zU_ow _ _ _ _ _ _ (by omega)]
        by_cases g2 : e + -1 - (d : Int) < u ∧ u ≤ e + -1
        · rw [if_pos g2, if_pos (by omega)]
        · rw [if_neg g2, if_neg (by omega)]
    · rw [show e - ((d + 1 : Nat) : Int) = e + -1 - (d : Int) by omega, ← E]
      conv => lhs; rw [U_X7_nextWay_9]
      simp (disch := first | exact z_tt rfl | assumption | omega | (simp (disch := omega) only [zU_eq, zU_nc, zU_nj]; omega)) only [↓L_ald_n0, ↓F_g60_0, ↓r_iconst, ↓A_g3, ↓A_g4, ↓A_g5, ↓A_g6, ↓A_g7, ↓A_g9, ↓A_g10, ↓A_g12, ↓A_g13, ↓A_g15, ↓A_g16, ↓A_g19, ↓A_g20, ↓A_g21, ↓A_g22, ↓A_g23, ↓A_g25, ↓A_g26, ↓A_g28, ↓A_g29, ↓A_g31, ↓A_g32, ↓A_g34, ↓A_g36, ↓A_g37, ↓A_g38, ↓A_g39, ↓A_g41, ↓A_g42, ↓A_g43, ↓A_g44, ↓A_g61, ↓A_g62, ↓A_g63, ↓A_g65, ↓A_g66, ↓A_g67, ↓A_g68, ↓A_g69, ↓A_g70, ↓A_gN, ↓A_gT, ↓A_gC, ↓r_isub, ↓L_ist_n1, ↓L_ist_n1L, ↓L_ild_n1, ↓r_iflt_t, ↓r_iflt_f, ↓J_X7_nextWay_43, ↓F_g60_11, ↓r_icne_t, ↓r_icne_f, ↓A_p3, ↓A_p4, ↓A_p5, ↓A_p6, ↓A_p7, ↓A_p9, ↓A_p10, ↓A_p12, ↓A_p13, ↓A_p15, ↓A_p16, ↓A_p19, ↓A_p20, ↓A_p21, ↓A_p22, ↓A_p23, ↓A_p25, ↓A_p26, ↓A_p28, ↓A_p29, ↓A_p31, ↓A_p32, ↓A_p34, ↓A_p36, ↓A_p37, ↓A_p38, ↓A_p39, ↓A_p41, ↓A_p42, ↓A_p43, ↓A_p44, ↓A_p61, ↓A_p62, ↓A_p63, ↓A_p65, ↓A_p66, ↓A_p67, ↓A_p68, ↓A_p69, ↓A_p70, ↓A_pN, ↓A_pT, ↓L_iinc1, ↓r_goto, ↓J_X7_nextWay_9, ↓r_ifge_t, ↓r_ifge_f, ↓J_X7_nextWay_49, ↓r_zreturn, ↓r_dup2, ↓r_dup2L, ↓r_iadd, ↓U_X7_nextWay_0, ↓U_X7_nextWay_43, ↓U_X7_nextWay_49, ↓zthen_v, ↓zthen_0, zU_eq, zU_nc, zU_nj]
set_option maxRecDepth 20000 in
theorem m_nextWay {m n : Int} {s : zM} (d : Nat) (hm : 0 ≤ m ∧ m ≤ 6) (hn : 1 ≤ n ∧ n ≤ 4) (h0 : s 61 0 = n) (h1 : s 61 1 = m) (hd : (d : Int) < m) (hw : ∀ u : Int, m - d ≤ u → u < m → s 65 u = n - 1) (hx : 0 ≤ s 65 (m - d - 1) ∧ s 65 (m - d - 1) < n - 1) : ∃ s1, (∀ u : Int, s1 65 u = if m - d ≤ u ∧ u < m then 0 else if u = m - d - 1 then s 65 u + 1 else s 65 u) ∧ (∀ a b : Int, ¬ a = 65 → s1 a b = s a b) ∧ zcall 157 [vR 60] s = some (some (vI 1), s1) := by
  obtain ⟨s1, H, F, E⟩ := m_nw_loop hm hn d (m - 1) s h0 (by omega) (by omega) (fun u a b => hw u (by omega) (by omega))
  have hx1 : s1 65 (m - 1 - d) = s 65 (m - d - 1) := by
    rw [H, if_neg (by omega), show m - 1 - (d : Int) = m - d - 1 by omega]
  have h01 : s1 61 0 = n := by rw [F _ _ (by omega)]; exact h0
  refine ⟨zU s1 65 (m - 1 - d) (s1 65 (m - 1 - d) + 1), fun u => ?_, fun a b g => by rw [zU_ow _ _ _ _ _ _ (by omega), F a b g], ?_⟩
  · by_cases g : u = m - d - 1
    · rw [if_neg (by omega), if_pos g, g, show m - (d : Int) - 1 = m - 1 - d by omega, zU_eq, hx1, show m - (d : Int) - 1 = m - 1 - d by omega]
    · rw [zU_ow _ _ _ _ _ _ (by omega), H]
      by_cases g2 : m - (d : Int) ≤ u ∧ u < m
      · rw [if_pos g2, if_pos (by omega)]
      · rw [if_neg g2, if_neg g, if_neg (by omega)]
  · rw [S_X7_nextWay]
    simp (disch := first | exact z_tt rfl | assumption | omega | (simp (disch := omega) only [zU_eq, zU_nc, zU_nj]; omega)) only [↓L_ald_n0, ↓F_g60_0, ↓r_iconst, ↓A_g3, ↓A_g4, ↓A_g5, ↓A_g6, ↓A_g7, ↓A_g9, ↓A_g10, ↓A_g12, ↓A_g13, ↓A_g15, ↓A_g16, ↓A_g19, ↓A_g20, ↓A_g21, ↓A_g22, ↓A_g23, ↓A_g25, ↓A_g26, ↓A_g28, ↓A_g29, ↓A_g31, ↓A_g32, ↓A_g34, ↓A_g36, ↓A_g37, ↓A_g38, ↓A_g39, ↓A_g41, ↓A_g42, ↓A_g43, ↓A_g44, ↓A_g61, ↓A_g62, ↓A_g63, ↓A_g65, ↓A_g66, ↓A_g67, ↓A_g68, ↓A_g69, ↓A_g70, ↓A_gN, ↓A_gT, ↓A_gC, ↓r_isub, ↓L_ist_n1, ↓L_ist_n1L, ↓L_ild_n1, ↓r_iflt_t, ↓r_iflt_f, ↓J_X7_nextWay_43, ↓F_g60_11, ↓r_icne_t, ↓r_icne_f, ↓A_p3, ↓A_p4, ↓A_p5, ↓A_p6, ↓A_p7, ↓A_p9, ↓A_p10, ↓A_p12, ↓A_p13, ↓A_p15, ↓A_p16, ↓A_p19, ↓A_p20, ↓A_p21, ↓A_p22, ↓A_p23, ↓A_p25, ↓A_p26, ↓A_p28, ↓A_p29, ↓A_p31, ↓A_p32, ↓A_p34, ↓A_p36, ↓A_p37, ↓A_p38, ↓A_p39, ↓A_p41, ↓A_p42, ↓A_p43, ↓A_p44, ↓A_p61, ↓A_p62, ↓A_p63, ↓A_p65, ↓A_p66, ↓A_p67, ↓A_p68, ↓A_p69, ↓A_p70, ↓A_pN, ↓A_pT, ↓L_iinc1, ↓r_goto, ↓J_X7_nextWay_9, ↓r_ifge_t, ↓r_ifge_f, ↓J_X7_nextWay_49, ↓r_zreturn, ↓r_dup2, ↓r_dup2L, ↓r_iadd, ↓U_X7_nextWay_0, ↓U_X7_nextWay_43, ↓U_X7_nextWay_49, ↓zthen_v, ↓zthen_0, zU_eq, zU_nc, zU_nj]
    rw [h1, E, U_X7_nextWay_9]
    simp (disch := first | exact z_tt rfl | assumption | omega | (simp (disch := omega) only [zU_eq, zU_nc, zU_nj]; omega)) only [↓L_ald_n0, ↓F_g60_0, ↓r_iconst, ↓A_g3, ↓A_g4, ↓A_g5, ↓A_g6, ↓A_g7, ↓A_g9, ↓A_g10, ↓A_g12, ↓A_g13, ↓A_g15, ↓A_g16, ↓A_g19, ↓A_g20, ↓A_g21, ↓A_g22, ↓A_g23, ↓A_g25, ↓A_g26, ↓A_g28, ↓A_g29, ↓A_g31, ↓A_g32, ↓A_g34, ↓A_g36, ↓A_g37, ↓A_g38, ↓A_g39, ↓A_g41, ↓A_g42, ↓A_g43, ↓A_g44, ↓A_g61, ↓A_g62, ↓A_g63, ↓A_g65, ↓A_g66, ↓A_g67, ↓A_g68, ↓A_g69, ↓A_g70, ↓A_gN, ↓A_gT, ↓A_gC, ↓r_isub, ↓L_ist_n1, ↓L_ist_n1L, ↓L_ild_n1, ↓r_iflt_t, ↓r_iflt_f, ↓J_X7_nextWay_43, ↓F_g60_11, ↓r_icne_t, ↓r_icne_f, ↓A_p3, ↓A_p4, ↓A_p5, ↓A_p6, ↓A_p7, ↓A_p9, ↓A_p10, ↓A_p12, ↓A_p13, ↓A_p15, ↓A_p16, ↓A_p19, ↓A_p20, ↓A_p21, ↓A_p22, ↓A_p23, ↓A_p25, ↓A_p26, ↓A_p28, ↓A_p29, ↓A_p31, ↓A_p32, ↓A_p34, ↓A_p36, ↓A_p37, ↓A_p38, ↓A_p39, ↓A_p41, ↓A_p42, ↓A_p43, ↓A_p44, ↓A_p61, ↓A_p62, ↓A_p63, ↓A_p65, ↓A_p66, ↓A_p67, ↓A_p68, ↓A_p69, ↓A_p70, ↓A_pN, ↓A_pT, ↓L_iinc1, ↓r_goto, ↓J_X7_nextWay_9, ↓r_ifge_t, ↓r_ifge_f, ↓J_X7_nextWay_49, ↓r_zreturn, ↓r_dup2, ↓r_dup2L, ↓r_iadd, ↓U_X7_nextWay_0, ↓U_X7_nextWay_43, ↓U_X7_nextWay_49, ↓zthen_v, ↓zthen_0, zU_eq, zU_nc, zU_nj]
set_option maxRecDepth 20000 in
theorem m_nextWay_0 {m n : Int} {s : zM} (hm : 0 ≤ m ∧ m ≤ 6) (hn : 1 ≤ n ∧ n ≤ 4) (h0 : s 61 0 = n) (h1 : s 61 1 = m) (hw : ∀ u : Int, 0 ≤ u → u < m → s 65 u = n - 1) : ∃ s1, (∀ a b : Int, ¬ a = 65 → s1 a b = s a b) ∧ zcall 157 [vR 60] s = some (some (vI 0), s1) := by
  obtain ⟨s1, H, F, E⟩ := m_nw_loop hm hn m.toNat (m - 1) s h0 (by omega) (by omega) (fun u a b => hw u (by omega) (by omega))
  refine ⟨s1, F, ?_⟩
  rw [S_X7_nextWay]
  simp (disch := first | exact z_tt rfl | assumption | omega | (simp (disch := omega) only [zU_eq, zU_nc, zU_nj]; omega)) only [↓L_ald_n0, ↓F_g60_0, ↓r_iconst, ↓A_g3, ↓A_g4, ↓A_g5, ↓A_g6, ↓A_g7, ↓A_g9, ↓A_g10, ↓A_g12, ↓A_g13, ↓A_g15, ↓A_g16, ↓A_g19, ↓A_g20, ↓A_g21, ↓A_g22, ↓A_g23, ↓A_g25, ↓A_g26, ↓A_g28, ↓A_g29, ↓A_g31, ↓A_g32, ↓A_g34, ↓A_g36, ↓A_g37, ↓A_g38, ↓A_g39, ↓A_g41, ↓A_g42, ↓A_g43, ↓A_g44, ↓A_g61, ↓A_g62, ↓A_g63, ↓A_g65, ↓A_g66, ↓A_g67, ↓A_g68, ↓A_g69, ↓A_g70, ↓A_gN, ↓A_gT, ↓A_gC, ↓r_isub, ↓L_ist_n1, ↓L_ist_n1L, ↓L_ild_n1, ↓r_iflt_t, ↓r_iflt_f, ↓J_X7_nextWay_43, ↓F_g60_11, ↓r_icne_t, ↓r_icne_f, ↓A_p3, ↓A_p4, ↓A_p5, ↓A_p6, ↓A_p7, ↓A_p9, ↓A_p10, ↓A_p12, ↓A_p13, ↓A_p15, ↓A_p16, ↓A_p19, ↓A_p20, ↓A_p21, ↓A_p22, ↓A_p23, ↓A_p25, ↓A_p26, ↓A_p28, ↓A_p29, ↓A_p31, ↓A_p32, ↓A_p34, ↓A_p36, ↓A_p37, ↓A_p38, ↓A_p39, ↓A_p41, ↓A_p42, ↓A_p43, ↓A_p44, ↓A_p61, ↓A_p62, ↓A_p63, ↓A_p65, ↓A_p66, ↓A_p67, ↓A_p68, ↓A_p69, ↓A_p70, ↓A_pN, ↓A_pT, ↓L_iinc1, ↓r_goto, ↓J_X7_nextWay_9, ↓r_ifge_t, ↓r_ifge_f, ↓J_X7_nextWay_49, ↓r_zreturn, ↓r_dup2, ↓r_dup2L, ↓r_iadd, ↓U_X7_nextWay_0, ↓U_X7_nextWay_43, ↓U_X7_nextWay_49, ↓zthen_v, ↓zthen_0, zU_eq, zU_nc, zU_nj]
  rw [h1, E, show m - 1 - (m.toNat : Int) = -1 by omega, U_X7_nextWay_9]
  simp (disch := first | exact z_tt rfl | assumption | omega | (simp (disch := omega) only [zU_eq, zU_nc, zU_nj]; omega)) only [↓L_ald_n0, ↓F_g60_0, ↓r_iconst, ↓A_g3, ↓A_g4, ↓A_g5, ↓A_g6, ↓A_g7, ↓A_g9, ↓A_g10, ↓A_g12, ↓A_g13, ↓A_g15, ↓A_g16, ↓A_g19, ↓A_g20, ↓A_g21, ↓A_g22, ↓A_g23, ↓A_g25, ↓A_g26, ↓A_g28, ↓A_g29, ↓A_g31, ↓A_g32, ↓A_g34, ↓A_g36, ↓A_g37, ↓A_g38, ↓A_g39, ↓A_g41, ↓A_g42, ↓A_g43, ↓A_g44, ↓A_g61, ↓A_g62, ↓A_g63, ↓A_g65, ↓A_g66, ↓A_g67, ↓A_g68, ↓A_g69, ↓A_g70, ↓A_gN, ↓A_gT, ↓A_gC, ↓r_isub, ↓L_ist_n1, ↓L_ist_n1L, ↓L_ild_n1, ↓r_iflt_t, ↓r_iflt_f, ↓J_X7_nextWay_43, ↓F_g60_11, ↓r_icne_t, ↓r_icne_f, ↓A_p3, ↓A_p4, ↓A_p5, ↓A_p6, ↓A_p7, ↓A_p9, ↓A_p10, ↓A_p12, ↓A_p13, ↓A_p15, ↓A_p16, ↓A_p19, ↓A_p20, ↓A_p21, ↓A_p22, ↓A_p23, ↓A_p25, ↓A_p26, ↓A_p28, ↓A_p29, ↓A_p31, ↓A_p32, ↓A_p34, ↓A_p36, ↓A_p37, ↓A_p38, ↓A_p39, ↓A_p41, ↓A_p42, ↓A_p43, ↓A_p44, ↓A_p61, ↓A_p62, ↓A_p63, ↓A_p65, ↓A_p66, ↓A_p67, ↓A_p68, ↓A_p69, ↓A_p70, ↓A_pN, ↓A_pT, ↓L_iinc1, ↓r_goto, ↓J_X7_nextWay_9, ↓r_ifge_t, ↓r_ifge_f, ↓J_X7_nextWay_49, ↓r_zreturn, ↓r_dup2, ↓r_dup2L, ↓r_iadd, ↓U_X7_nextWay_0, ↓U_X7_nextWay_43, ↓U_X7_nextWay_49, ↓zthen_v, ↓zthen_0, zU_eq, zU_nc, zU_nj]
