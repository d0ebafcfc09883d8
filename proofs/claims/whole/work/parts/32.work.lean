/-! to whom each thing goes first -/
def gfO (x y a b aI aJ : Int) : Nat → Int → zM → zM
  | 0, _, σ => σ
  | n + 1, j, σ => gfO x y a b aI aJ n (j + 1) (zU σ 34 j (if σ y j * aI ≤ σ x j * aJ then a else b))
def gfL (f g : Int → Int) (aI aJ : Int) (t : Int) : Int := if g t * aI ≤ f t * aJ then f t * aJ else -g t * aI
theorem gfO_nc (x y a b aI aJ : Int) : ∀ (n : Nat) (j : Int) (σ : zM) (c q : Int), c < 34 ∨ 34 < c → gfO x y a b aI aJ n j σ c q = σ c q
  | 0, j, σ, c, q, h => rfl
  | n + 1, j, σ, c, q, h => by rw [gfO, gfO_nc x y a b aI aJ n (j + 1) _ c q h, zU_nc _ _ _ _ _ _ h]
set_option maxRecDepth 20000 in
set_option maxHeartbeats 4000000 in
theorem c_gf_loop {x y a b aI aJ : Int} (haI : 0 ≤ aI ∧ aI ≤ 594) (haJ : 0 ≤ aJ ∧ aJ ≤ 594) (hab : 0 ≤ a ∧ a < 4 ∧ 0 ≤ b ∧ b < 4) : ∀ (n : Nat) (j s : Int) (σ : zM) (u : zV), Pts σ x → Pts σ y → σ 33 1 ≤ 6 → 0 ≤ j → j + n = σ 33 1 →
    zres 1 C_X0_giveFirst_26 [vR 33, vR x, vR y, vI a, vI b, vI aI, vI aJ, vL s, vU, vI j, u] [] σ = some (some (vL (s + sumI (gfL (σ x) (σ y) aI aJ) j n)), gfO x y a b aI aJ n j σ) := by
  intro n
  induction n with
  | zero =>
    intro j s σ u hx hy hm hj hn
    simp (disch := first | exact z_tt rfl | assumption | omega | (simp (disch := omega) only [zU_eq, zU_nc, zU_nj]; omega)) only [↓L_ald_n1, ↓L_ald_n0, ↓F_g33_1, ↓I_X6_sumOf, ↓L_ist5, ↓L_ist5L, ↓L_ald_n2, ↓L_ist6, ↓L_ist6L, ↓r_lconst, ↓L_lst7, ↓L_lst7L, ↓r_iconst, ↓L_ist9, ↓L_ist9L, ↓L_ild9, ↓r_icge_t, ↓r_icge_f, ↓J_X0_giveFirst_113, ↓A_g3, ↓A_g4, ↓A_g5, ↓A_g6, ↓A_g7, ↓A_g9, ↓A_g10, ↓A_g12, ↓A_g13, ↓A_g15, ↓A_g16, ↓A_g19, ↓A_g20, ↓A_g21, ↓A_g22, ↓A_g23, ↓A_g25, ↓A_g26, ↓A_g28, ↓A_g29, ↓A_g31, ↓A_g32, ↓A_g34, ↓A_g36, ↓A_g37, ↓A_g38, ↓A_g39, ↓A_g41, ↓A_g42, ↓A_g43, ↓A_g44, ↓A_g61, ↓A_g62, ↓A_g63, ↓A_g65, ↓A_g66, ↓A_g67, ↓A_g68, ↓A_g69, ↓A_g70, ↓A_gN, ↓A_gT, ↓A_gC, ↓L_ild6, ↓r_imul, ↓L_ild5, ↓r_iclt_t, ↓r_iclt_f, ↓J_X0_giveFirst_56, ↓r_goto, ↓J_X0_giveFirst_57, ↓L_ist10, ↓L_ist10L, ↓F_g33_0, ↓L_ild10, ↓r_ifeq_t, ↓r_ifeq_f, ↓J_X0_giveFirst_74, ↓L_ild_n3, ↓J_X0_giveFirst_76, ↓L_ild4, ↓A_p3, ↓A_p4, ↓A_p5, ↓A_p6, ↓A_p7, ↓A_p9, ↓A_p10, ↓A_p12, ↓A_p13, ↓A_p15, ↓A_p16, ↓A_p19, ↓A_p20, ↓A_p21, ↓A_p22, ↓A_p23, ↓A_p25, ↓A_p26, ↓A_p28, ↓A_p29, ↓A_p31, ↓A_p32, ↓A_p34, ↓A_p36, ↓A_p37, ↓A_p38, ↓A_p39, ↓A_p41, ↓A_p42, ↓A_p43, ↓A_p44, ↓A_p61, ↓A_p62, ↓A_p63, ↓A_p65, ↓A_p66, ↓A_p67, ↓A_p68, ↓A_p69, ↓A_p70, ↓A_pN, ↓A_pT, ↓L_lld7, ↓J_X0_giveFirst_95, ↓r_i2l, ↓J_X0_giveFirst_104, ↓r_ineg, ↓r_ladd, ↓L_iinc9, ↓J_X0_giveFirst_26, ↓r_lreturn, ↓U_X0_giveFirst_0, ↓U_X0_giveFirst_26, ↓U_X0_giveFirst_56, ↓U_X0_giveFirst_57, ↓U_X0_giveFirst_74, ↓U_X0_giveFirst_76, ↓U_X0_giveFirst_95, ↓U_X0_giveFirst_104, ↓U_X0_giveFirst_113, ↓zthen_v, ↓zthen_0, zU_eq, zU_nc, zU_nj, sumI, gfO, Int.add_zero]
  | succ n ih =>
    intro j s σ u hx hy hm hj hn
    have hj6 : j < 6 := by omega
    have sx := hx.1
    have sy := hy.1
    have bx := hx.2.2 j hj hj6
    have bY := hy.2.2 j hj hj6
    have m1 := mul_bd bx haJ
    have m2 := mul_bd bY haI
    have m3 : -σ y j * aI = -(σ y j * aI) := Int.neg_mul _ _
    have ex : ∀ v : Int, (zU σ 34 j v) x = σ x := fun v => funext fun q => zU_nc _ _ _ _ _ _ (by have := hx.2.1; omega)
    have ey : ∀ v : Int, (zU σ 34 j v) y = σ y := fun v => funext fun q => zU_nc _ _ _ _ _ _ (by have := hy.2.1; omega)
    have exx : ∀ v q : Int, zU σ 34 j v x q = σ x q := fun v q => congrFun (ex v) q
    have eyy : ∀ v q : Int, zU σ 34 j v y q = σ y q := fun v q => congrFun (ey v) q
    rw [U_X0_giveFirst_26, sumI, gfO]
    by_cases h : σ y j * aI ≤ σ x j * aJ
    · rw [if_pos h]
      have hl : gfL (σ x) (σ y) aI aJ j = σ x j * aJ := by unfold gfL; rw [if_pos h]
      simp (disch := first | exact z_tt rfl | assumption | omega | (simp (disch := omega) only [zU_eq, zU_nc, zU_nj]; omega)) only [↓L_ald_n1, ↓L_ald_n0, ↓F_g33_1, ↓I_X6_sumOf, ↓L_ist5, ↓L_ist5L, ↓L_ald_n2, ↓L_ist6, ↓L_ist6L, ↓r_lconst, ↓L_lst7, ↓L_lst7L, ↓r_iconst, ↓L_ist9, ↓L_ist9L, ↓L_ild9, ↓r_icge_t, ↓r_icge_f, ↓J_X0_giveFirst_113, ↓A_g3, ↓A_g4, ↓A_g5, ↓A_g6, ↓A_g7, ↓A_g9, ↓A_g10, ↓A_g12, ↓A_g13, ↓A_g15, ↓A_g16, ↓A_g19, ↓A_g20, ↓A_g21, ↓A_g22, ↓A_g23, ↓A_g25, ↓A_g26, ↓A_g28, ↓A_g29, ↓A_g31, ↓A_g32, ↓A_g34, ↓A_g36, ↓A_g37, ↓A_g38, ↓A_g39, ↓A_g41, ↓A_g42, ↓A_g43, ↓A_g44, ↓A_g61, ↓A_g62, ↓A_g63, ↓A_g65, ↓A_g66, ↓A_g67, ↓A_g68, ↓A_g69, ↓A_g70, ↓A_gN, ↓A_gT, ↓A_gC, ↓L_ild6, ↓r_imul, ↓L_ild5, ↓r_iclt_t, ↓r_iclt_f, ↓J_X0_giveFirst_56, ↓r_goto, ↓J_X0_giveFirst_57, ↓L_ist10, ↓L_ist10L, ↓F_g33_0, ↓L_ild10, ↓r_ifeq_t, ↓r_ifeq_f, ↓J_X0_giveFirst_74, ↓L_ild_n3, ↓J_X0_giveFirst_76, ↓L_ild4, ↓A_p3, ↓A_p4, ↓A_p5, ↓A_p6, ↓A_p7, ↓A_p9, ↓A_p10, ↓A_p12, ↓A_p13, ↓A_p15, ↓A_p16, ↓A_p19, ↓A_p20, ↓A_p21, ↓A_p22, ↓A_p23, ↓A_p25, ↓A_p26, ↓A_p28, ↓A_p29, ↓A_p31, ↓A_p32, ↓A_p34, ↓A_p36, ↓A_p37, ↓A_p38, ↓A_p39, ↓A_p41, ↓A_p42, ↓A_p43, ↓A_p44, ↓A_p61, ↓A_p62, ↓A_p63, ↓A_p65, ↓A_p66, ↓A_p67, ↓A_p68, ↓A_p69, ↓A_p70, ↓A_pN, ↓A_pT, ↓L_lld7, ↓J_X0_giveFirst_95, ↓r_i2l, ↓J_X0_giveFirst_104, ↓r_ineg, ↓r_ladd, ↓L_iinc9, ↓J_X0_giveFirst_26, ↓r_lreturn, ↓U_X0_giveFirst_0, ↓U_X0_giveFirst_56, ↓U_X0_giveFirst_57, ↓U_X0_giveFirst_74, ↓U_X0_giveFirst_76, ↓U_X0_giveFirst_95, ↓U_X0_giveFirst_104, ↓U_X0_giveFirst_113, ↓zthen_v, ↓zthen_0, zU_eq, zU_nc, zU_nj, exx, eyy]
      rw [ih (j + 1) _ _ _ (Pts_zU hx (Or.inr rfl)) (Pts_zU hy (Or.inr rfl)) (by rw [zU_nc _ _ _ _ _ _ (by omega)]; exact hm) (by omega) (by rw [zU_nc _ _ _ _ _ _ (by omega)]; omega), ex, ey, hl, Int.add_assoc]
    · rw [if_neg h]
      have hl : gfL (σ x) (σ y) aI aJ j = -σ y j * aI := by unfold gfL; rw [if_neg h]
      simp (disch := first | exact z_tt rfl | assumption | omega | (simp (disch := omega) only [zU_eq, zU_nc, zU_nj]; omega)) only [↓L_ald_n1, ↓L_ald_n0, ↓F_g33_1, ↓I_X6_sumOf, ↓L_ist5, ↓L_ist5L, ↓L_ald_n2, ↓L_ist6, ↓L_ist6L, ↓r_lconst, ↓L_lst7, ↓L_lst7L, ↓r_iconst, ↓L_ist9, ↓L_ist9L, ↓L_ild9, ↓r_icge_t, ↓r_icge_f, ↓J_X0_giveFirst_113, ↓A_g3, ↓A_g4, ↓A_g5, ↓A_g6, ↓A_g7, ↓A_g9, ↓A_g10, ↓A_g12, ↓A_g13, ↓A_g15, ↓A_g16, ↓A_g19, ↓A_g20, ↓A_g21, ↓A_g22, ↓A_g23, ↓A_g25, ↓A_g26, ↓A_g28, ↓A_g29, ↓A_g31, ↓A_g32, ↓A_g34, ↓A_g36, ↓A_g37, ↓A_g38, ↓A_g39, ↓A_g41, ↓A_g42, ↓A_g43, ↓A_g44, ↓A_g61, ↓A_g62, ↓A_g63, ↓A_g65, ↓A_g66, ↓A_g67, ↓A_g68, ↓A_g69, ↓A_g70, ↓A_gN, ↓A_gT, ↓A_gC, ↓L_ild6, ↓r_imul, ↓L_ild5, ↓r_iclt_t, ↓r_iclt_f, ↓J_X0_giveFirst_56, ↓r_goto, ↓J_X0_giveFirst_57, ↓L_ist10, ↓L_ist10L, ↓F_g33_0, ↓L_ild10, ↓r_ifeq_t, ↓r_ifeq_f, ↓J_X0_giveFirst_74, ↓L_ild_n3, ↓J_X0_giveFirst_76, ↓L_ild4, ↓A_p3, ↓A_p4, ↓A_p5, ↓A_p6, ↓A_p7, ↓A_p9, ↓A_p10, ↓A_p12, ↓A_p13, ↓A_p15, ↓A_p16, ↓A_p19, ↓A_p20, ↓A_p21, ↓A_p22, ↓A_p23, ↓A_p25, ↓A_p26, ↓A_p28, ↓A_p29, ↓A_p31, ↓A_p32, ↓A_p34, ↓A_p36, ↓A_p37, ↓A_p38, ↓A_p39, ↓A_p41, ↓A_p42, ↓A_p43, ↓A_p44, ↓A_p61, ↓A_p62, ↓A_p63, ↓A_p65, ↓A_p66, ↓A_p67, ↓A_p68, ↓A_p69, ↓A_p70, ↓A_pN, ↓A_pT, ↓L_lld7, ↓J_X0_giveFirst_95, ↓r_i2l, ↓J_X0_giveFirst_104, ↓r_ineg, ↓r_ladd, ↓L_iinc9, ↓J_X0_giveFirst_26, ↓r_lreturn, ↓U_X0_giveFirst_0, ↓U_X0_giveFirst_56, ↓U_X0_giveFirst_57, ↓U_X0_giveFirst_74, ↓U_X0_giveFirst_76, ↓U_X0_giveFirst_95, ↓U_X0_giveFirst_104, ↓U_X0_giveFirst_113, ↓zthen_v, ↓zthen_0, zU_eq, zU_nc, zU_nj, exx, eyy]
      rw [ih (j + 1) _ _ _ (Pts_zU hx (Or.inr rfl)) (Pts_zU hy (Or.inr rfl)) (by rw [zU_nc _ _ _ _ _ _ (by omega)]; exact hm) (by omega) (by rw [zU_nc _ _ _ _ _ _ (by omega)]; omega), ex, ey, hl, Int.add_assoc]
set_option maxRecDepth 20000 in
theorem c_giveFirst {σ : zM} {x y a b : Int} (hx : Pts σ x) (hy : Pts σ y) (hm : 0 ≤ σ 33 1 ∧ σ 33 1 ≤ 6) (hab : 0 ≤ a ∧ a < 4 ∧ 0 ≤ b ∧ b < 4) : zcall 1 [vR 33, vR x, vR y, vI a, vI b] σ = some (some (vL (sumI (gfL (σ x) (σ y) (sumI (σ x) 0 (σ 33 1).toNat) (sumI (σ y) 0 (σ 33 1).toNat)) 0 (σ 33 1).toNat)), gfO x y a b (sumI (σ x) 0 (σ 33 1).toNat) (sumI (σ y) 0 (σ 33 1).toNat) (σ 33 1).toNat 0 σ) := by
  have sx := hx.1
  have sy := hy.1
  have b1 := sumI_bd (f := σ x) (B := 99) (σ 33 1).toNat 0 (fun t h1 h2 => hx.2.2 t h1 (by omega))
  have b2 := sumI_bd (f := σ y) (B := 99) (σ 33 1).toNat 0 (fun t h1 h2 => hy.2.2 t h1 (by omega))
  rw [S_X0_giveFirst]
  simp (disch := first | exact z_tt rfl | assumption | omega | (simp (disch := omega) only [zU_eq, zU_nc, zU_nj]; omega)) only [↓L_ald_n1, ↓L_ald_n0, ↓F_g33_1, ↓I_X6_sumOf, ↓L_ist5, ↓L_ist5L, ↓L_ald_n2, ↓L_ist6, ↓L_ist6L, ↓r_lconst, ↓L_lst7, ↓L_lst7L, ↓r_iconst, ↓L_ist9, ↓L_ist9L, ↓L_ild9, ↓r_icge_t, ↓r_icge_f, ↓J_X0_giveFirst_113, ↓A_g3, ↓A_g4, ↓A_g5, ↓A_g6, ↓A_g7, ↓A_g9, ↓A_g10, ↓A_g12, ↓A_g13, ↓A_g15, ↓A_g16, ↓A_g19, ↓A_g20, ↓A_g21, ↓A_g22, ↓A_g23, ↓A_g25, ↓A_g26, ↓A_g28, ↓A_g29, ↓A_g31, ↓A_g32, ↓A_g34, ↓A_g36, ↓A_g37, ↓A_g38, ↓A_g39, ↓A_g41, ↓A_g42, ↓A_g43, ↓A_g44, ↓A_g61, ↓A_g62, ↓A_g63, ↓A_g65, ↓A_g66, ↓A_g67, ↓A_g68, ↓A_g69, ↓A_g70, ↓A_gN, ↓A_gT, ↓A_gC, ↓L_ild6, ↓r_imul, ↓L_ild5, ↓r_iclt_t, ↓r_iclt_f, ↓J_X0_giveFirst_56, ↓r_goto, ↓J_X0_giveFirst_57, ↓L_ist10, ↓L_ist10L, ↓F_g33_0, ↓L_ild10, ↓r_ifeq_t, ↓r_ifeq_f, ↓J_X0_giveFirst_74, ↓L_ild_n3, ↓J_X0_giveFirst_76, ↓L_ild4, ↓A_p3, ↓A_p4, ↓A_p5, ↓A_p6, ↓A_p7, ↓A_p9, ↓A_p10, ↓A_p12, ↓A_p13, ↓A_p15, ↓A_p16, ↓A_p19, ↓A_p20, ↓A_p21, ↓A_p22, ↓A_p23, ↓A_p25, ↓A_p26, ↓A_p28, ↓A_p29, ↓A_p31, ↓A_p32, ↓A_p34, ↓A_p36, ↓A_p37, ↓A_p38, ↓A_p39, ↓A_p41, ↓A_p42, ↓A_p43, ↓A_p44, ↓A_p61, ↓A_p62, ↓A_p63, ↓A_p65, ↓A_p66, ↓A_p67, ↓A_p68, ↓A_p69, ↓A_p70, ↓A_pN, ↓A_pT, ↓L_lld7, ↓J_X0_giveFirst_95, ↓r_i2l, ↓J_X0_giveFirst_104, ↓r_ineg, ↓r_ladd, ↓L_iinc9, ↓J_X0_giveFirst_26, ↓r_lreturn, ↓U_X0_giveFirst_0, ↓U_X0_giveFirst_56, ↓U_X0_giveFirst_57, ↓U_X0_giveFirst_74, ↓U_X0_giveFirst_76, ↓U_X0_giveFirst_95, ↓U_X0_giveFirst_104, ↓U_X0_giveFirst_113, ↓zthen_v, ↓zthen_0, zU_eq, zU_nc, zU_nj, c_X6_sumOf]
  rw [c_gf_loop (by omega) (by omega) hab (σ 33 1).toNat 0 0 σ _ hx hy hm.2 (by omega) (by omega), Int.zero_add]
/-! the share of both -/
set_option maxRecDepth 20000 in
theorem c_sa_loop {σ : zM} {y : Int} (hy : Pts σ y) (hm : σ 33 1 ≤ 6) (hp : 0 ≤ σ 33 3 ∧ σ 33 3 < 4) (ho : ∀ t : Int, 0 ≤ t → t < 6 → 0 ≤ σ 34 t ∧ σ 34 t < 4) (hc : -1 ≤ σ 33 5 ∧ σ 33 5 < 6) (W : Int) : ∀ (n : Nat) (j s : Int), 0 ≤ j → j + n = σ 33 1 → s + sumI (fun t => if σ 34 t = σ 33 3 then σ y t else 0) j n = W → zres 4 C_X0_setAlike_5 [vR 33, vR y, vL s, vU, vI j] [] σ = some (none, zU (zU σ 33 8 (W * σ 33 7 + (if σ 33 5 < 0 then 0 else σ y (σ 33 5) * σ 33 6))) 33 9 (sumI (σ y) 0 (σ 33 1).toNat * σ 33 7)) := by
  have sy := hy.1
  intro n
  induction n with
  | zero =>
    intro j s hj hn hW
    rw [sumI, Int.add_zero] at hW
    subst hW
    have b2 := sumI_bd (f := σ y) (B := 99) (σ 33 1).toNat 0 (fun t h1 h2 => hy.2.2 t h1 (by omega))
    have ey : ∀ v : Int, (zU σ 33 8 v) y = σ y := fun v => funext fun q => zU_nc _ _ _ _ _ _ (by have := hy.2.1; omega)
    have hso : ∀ v : Int, zcall 94 [vR y, vI (σ 33 1)] (zU σ 33 8 v) = some (some (vI (sumI (σ y) 0 (σ 33 1).toNat)), zU σ 33 8 v) := fun v => by rw [c_X6_sumOf sy (by omega), ey]
    by_cases h : σ 33 5 < 0
    · rw [if_pos h]
      simp (disch := first | exact z_tt rfl | assumption | omega | (simp (disch := omega) only [zU_eq, zU_nc, zU_nj]; omega)) only [↓r_lconst, ↓L_lst_n2, ↓L_lst_n2L, ↓r_iconst, ↓L_ist4, ↓L_ist4L, ↓L_ild4, ↓L_ald_n0, ↓F_g33_1, ↓r_icge_t, ↓r_icge_f, ↓J_X0_setAlike_42, ↓F_g33_0, ↓A_g3, ↓A_g4, ↓A_g5, ↓A_g6, ↓A_g7, ↓A_g9, ↓A_g10, ↓A_g12, ↓A_g13, ↓A_g15, ↓A_g16, ↓A_g19, ↓A_g20, ↓A_g21, ↓A_g22, ↓A_g23, ↓A_g25, ↓A_g26, ↓A_g28, ↓A_g29, ↓A_g31, ↓A_g32, ↓A_g34, ↓A_g36, ↓A_g37, ↓A_g38, ↓A_g39, ↓A_g41, ↓A_g42, ↓A_g43, ↓A_g44, ↓A_g61, ↓A_g62, ↓A_g63, ↓A_g65, ↓A_g66, ↓A_g67, ↓A_g68, ↓A_g69, ↓A_g70, ↓A_gN, ↓A_gT, ↓A_gC, ↓F_g33_3, ↓r_icne_t, ↓r_icne_f, ↓J_X0_setAlike_36, ↓L_lld_n2, ↓L_ald_n1, ↓r_i2l, ↓r_ladd, ↓L_iinc4, ↓r_goto, ↓J_X0_setAlike_5, ↓F_g33_7, ↓r_lmul, ↓F_g33_5, ↓r_ifge_t, ↓r_ifge_f, ↓J_X0_setAlike_60, ↓J_X0_setAlike_72, ↓F_g33_6, ↓F_p33_8, ↓I_X6_sumOf, ↓F_p33_9, ↓r_return, ↓U_X0_setAlike_0, ↓U_X0_setAlike_5, ↓U_X0_setAlike_36, ↓U_X0_setAlike_42, ↓U_X0_setAlike_60, ↓U_X0_setAlike_72, ↓zthen_v, ↓zthen_0, zU_eq, zU_nc, zU_nj, hso]
    · rw [if_neg h]
      have bc := hy.2.2 (σ 33 5) (by omega) hc.2
      simp (disch := first | exact z_tt rfl | assumption | omega | (simp (disch := omega) only [zU_eq, zU_nc, zU_nj]; omega)) only [↓r_lconst, ↓L_lst_n2, ↓L_lst_n2L, ↓r_iconst, ↓L_ist4, ↓L_ist4L, ↓L_ild4, ↓L_ald_n0, ↓F_g33_1, ↓r_icge_t, ↓r_icge_f, ↓J_X0_setAlike_42, ↓F_g33_0, ↓A_g3, ↓A_g4, ↓A_g5, ↓A_g6, ↓A_g7, ↓A_g9, ↓A_g10, ↓A_g12, ↓A_g13, ↓A_g15, ↓A_g16, ↓A_g19, ↓A_g20, ↓A_g21, ↓A_g22, ↓A_g23, ↓A_g25, ↓A_g26, ↓A_g28, ↓A_g29, ↓A_g31, ↓A_g32, ↓A_g34, ↓A_g36, ↓A_g37, ↓A_g38, ↓A_g39, ↓A_g41, ↓A_g42, ↓A_g43, ↓A_g44, ↓A_g61, ↓A_g62, ↓A_g63, ↓A_g65, ↓A_g66, ↓A_g67, ↓A_g68, ↓A_g69, ↓A_g70, ↓A_gN, ↓A_gT, ↓A_gC, ↓F_g33_3, ↓r_icne_t, ↓r_icne_f, ↓J_X0_setAlike_36, ↓L_lld_n2, ↓L_ald_n1, ↓r_i2l, ↓r_ladd, ↓L_iinc4, ↓r_goto, ↓J_X0_setAlike_5, ↓F_g33_7, ↓r_lmul, ↓F_g33_5, ↓r_ifge_t, ↓r_ifge_f, ↓J_X0_setAlike_60, ↓J_X0_setAlike_72, ↓F_g33_6, ↓F_p33_8, ↓I_X6_sumOf, ↓F_p33_9, ↓r_return, ↓U_X0_setAlike_0, ↓U_X0_setAlike_5, ↓U_X0_setAlike_36, ↓U_X0_setAlike_42, ↓U_X0_setAlike_60, ↓U_X0_setAlike_72, ↓zthen_v, ↓zthen_0, zU_eq, zU_nc, zU_nj, hso]
  | succ n ih =>
    intro j s hj hn hW
    have hj6 : j < 6 := by omega
    have hb := ho j hj hj6
    have bY := hy.2.2 j hj hj6
    rw [sumI, ← Int.add_assoc] at hW
    rw [U_X0_setAlike_5]
    by_cases h : σ 34 j = σ 33 3
    · rw [if_pos h] at hW
      simp (disch := first | exact z_tt rfl | assumption | omega | (simp (disch := omega) only [zU_eq, zU_nc, zU_nj]; omega)) only [↓r_lconst, ↓L_lst_n2, ↓L_lst_n2L, ↓r_iconst, ↓L_ist4, ↓L_ist4L, ↓L_ild4, ↓L_ald_n0, ↓F_g33_1, ↓r_icge_t, ↓r_icge_f, ↓J_X0_setAlike_42, ↓F_g33_0, ↓A_g3, ↓A_g4, ↓A_g5, ↓A_g6, ↓A_g7, ↓A_g9, ↓A_g10, ↓A_g12, ↓A_g13, ↓A_g15, ↓A_g16, ↓A_g19, ↓A_g20, ↓A_g21, ↓A_g22, ↓A_g23, ↓A_g25, ↓A_g26, ↓A_g28, ↓A_g29, ↓A_g31, ↓A_g32, ↓A_g34, ↓A_g36, ↓A_g37, ↓A_g38, ↓A_g39, ↓A_g41, ↓A_g42, ↓A_g43, ↓A_g44, ↓A_g61, ↓A_g62, ↓A_g63, ↓A_g65, ↓A_g66, ↓A_g67, ↓A_g68, ↓A_g69, ↓A_g70, ↓A_gN, ↓A_gT, ↓A_gC, ↓F_g33_3, ↓r_icne_t, ↓r_icne_f, ↓J_X0_setAlike_36, ↓L_lld_n2, ↓L_ald_n1, ↓r_i2l, ↓r_ladd, ↓L_iinc4, ↓r_goto, ↓J_X0_setAlike_5, ↓F_g33_7, ↓r_lmul, ↓F_g33_5, ↓r_ifge_t, ↓r_ifge_f, ↓J_X0_setAlike_60, ↓J_X0_setAlike_72, ↓F_g33_6, ↓F_p33_8, ↓I_X6_sumOf, ↓F_p33_9, ↓r_return, ↓U_X0_setAlike_0, ↓U_X0_setAlike_36, ↓U_X0_setAlike_42, ↓U_X0_setAlike_60, ↓U_X0_setAlike_72, ↓zthen_v, ↓zthen_0, zU_eq, zU_nc, zU_nj]
      exact ih (j + 1) _ (by omega) (by omega) hW
    · rw [if_neg h, Int.add_zero] at hW
      simp (disch := first | exact z_tt rfl | assumption | omega | (simp (disch := omega) only [zU_eq, zU_nc, zU_nj]; omega)) only [↓r_lconst, ↓L_lst_n2, ↓L_lst_n2L, ↓r_iconst, ↓L_ist4, ↓L_ist4L, ↓L_ild4, ↓L_ald_n0, ↓F_g33_1, ↓r_icge_t, ↓r_icge_f, ↓J_X0_setAlike_42, ↓F_g33_0, ↓A_g3, ↓A_g4, ↓A_g5, ↓A_g6, ↓A_g7, ↓A_g9, ↓A_g10, ↓A_g12, ↓A_g13, ↓A_g15, ↓A_g16, ↓A_g19, ↓A_g20, ↓A_g21, ↓A_g22, ↓A_g23, ↓A_g25, ↓A_g26, ↓A_g28, ↓A_g29, ↓A_g31, ↓A_g32, ↓A_g34, ↓A_g36, ↓A_g37, ↓A_g38, ↓A_g39, ↓A_g41, ↓A_g42, ↓A_g43, ↓A_g44, ↓A_g61, ↓A_g62, ↓A_g63, ↓A_g65, ↓A_g66, ↓A_g67, ↓A_g68, ↓A_g69, ↓A_g70, ↓A_gN, ↓A_gT, ↓A_gC, ↓F_g33_3, ↓r_icne_t, ↓r_icne_f, ↓J_X0_setAlike_36, ↓L_lld_n2, ↓L_ald_n1, ↓r_i2l, ↓r_ladd, ↓L_iinc4, ↓r_goto, ↓J_X0_setAlike_5, ↓F_g33_7, ↓r_lmul, ↓F_g33_5, ↓r_ifge_t, ↓r_ifge_f, ↓J_X0_setAlike_60, ↓J_X0_setAlike_72, ↓F_g33_6, ↓F_p33_8, ↓I_X6_sumOf, ↓F_p33_9, ↓r_return, ↓U_X0_setAlike_0, ↓U_X0_setAlike_36, ↓U_X0_setAlike_42, ↓U_X0_setAlike_60, ↓U_X0_setAlike_72, ↓zthen_v, ↓zthen_0, zU_eq, zU_nc, zU_nj]
      exact ih (j + 1) _ (by omega) (by omega) hW
def saS (σ : zM) (y : Int) : zM := zU (zU σ 33 8 (sumI (fun t => if σ 34 t = σ 33 3 then σ y t else 0) 0 (σ 33 1).toNat * σ 33 7 + (if σ 33 5 < 0 then 0 else σ y (σ 33 5) * σ 33 6))) 33 9 (sumI (σ y) 0 (σ 33 1).toNat * σ 33 7)
set_option maxRecDepth 20000 in
theorem c_setAlike {σ : zM} {y : Int} (hy : Pts σ y) (hm : 0 ≤ σ 33 1 ∧ σ 33 1 ≤ 6) (hp : 0 ≤ σ 33 3 ∧ σ 33 3 < 4) (ho : ∀ t : Int, 0 ≤ t → t < 6 → 0 ≤ σ 34 t ∧ σ 34 t < 4) (hc : -1 ≤ σ 33 5 ∧ σ 33 5 < 6) : zcall 4 [vR 33, vR y] σ = some (none, saS σ y) := by
  rw [S_X0_setAlike]
  simp (disch := first | exact z_tt rfl | assumption | omega | (simp (disch := omega) only [zU_eq, zU_nc, zU_nj]; omega)) only [↓r_lconst, ↓L_lst_n2, ↓L_lst_n2L, ↓r_iconst, ↓L_ist4, ↓L_ist4L, ↓L_ild4, ↓L_ald_n0, ↓F_g33_1, ↓r_icge_t, ↓r_icge_f, ↓J_X0_setAlike_42, ↓F_g33_0, ↓A_g3, ↓A_g4, ↓A_g5, ↓A_g6, ↓A_g7, ↓A_g9, ↓A_g10, ↓A_g12, ↓A_g13, ↓A_g15, ↓A_g16, ↓A_g19, ↓A_g20, ↓A_g21, ↓A_g22, ↓A_g23, ↓A_g25, ↓A_g26, ↓A_g28, ↓A_g29, ↓A_g31, ↓A_g32, ↓A_g34, ↓A_g36, ↓A_g37, ↓A_g38, ↓A_g39, ↓A_g41, ↓A_g42, ↓A_g43, ↓A_g44, ↓A_g61, ↓A_g62, ↓A_g63, ↓A_g65, ↓A_g66, ↓A_g67, ↓A_g68, ↓A_g69, ↓A_g70, ↓A_gN, ↓A_gT, ↓A_gC, ↓F_g33_3, ↓r_icne_t, ↓r_icne_f, ↓J_X0_setAlike_36, ↓L_lld_n2, ↓L_ald_n1, ↓r_i2l, ↓r_ladd, ↓L_iinc4, ↓r_goto, ↓J_X0_setAlike_5, ↓F_g33_7, ↓r_lmul, ↓F_g33_5, ↓r_ifge_t, ↓r_ifge_f, ↓J_X0_setAlike_60, ↓J_X0_setAlike_72, ↓F_g33_6, ↓F_p33_8, ↓I_X6_sumOf, ↓F_p33_9, ↓r_return, ↓U_X0_setAlike_0, ↓U_X0_setAlike_36, ↓U_X0_setAlike_42, ↓U_X0_setAlike_60, ↓U_X0_setAlike_72, ↓zthen_v, ↓zthen_0, zU_eq, zU_nc, zU_nj]
  exact c_sa_loop hy hm.2 hp ho hc _ (σ 33 1).toNat 0 0 (by omega) (by omega) (Int.zero_add _)
