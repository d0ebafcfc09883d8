
set_option maxRecDepth 20000 in
set_option maxHeartbeats 4000000 in
theorem c_workOut3 {σ : zM} {m i j : Int} (hm : 0 ≤ m ∧ m ≤ 6) (hi : 0 ≤ i ∧ i < 4) (hj : 0 ≤ j ∧ j < 4) (hPi : Pts σ (3 + i)) (hPj : Pts σ (3 + j)) (ho : ∀ t : Int, 0 ≤ t → t < 6 → 0 ≤ σ 34 t ∧ σ 34 t < 4) (h0 : ¬ sumI (σ (3 + i)) 0 m.toNat = 0) (h1 : ¬ sumI (σ (3 + j)) 0 m.toNat = 0) :
    zcall 0 [vR 33, vR 2, vI m, vI i, vI j] σ = some (some (vI 1), woS σ 3 m i j) := by
  have e1 : zU σ 33 1 m 33 1 = m := zU_eq _ _ _ _
  have ei : zU σ 33 1 m (3 + i) = σ (3 + i) := funext fun q => zU_nc _ _ _ _ _ _ (by omega)
  have ej : zU σ 33 1 m (3 + j) = σ (3 + j) := funext fun q => zU_nc _ _ _ _ _ _ (by omega)
  have hsI := c_X6_sumOf (σ := zU σ 33 1 m) (c := 3 + i) (sz := m) hPi.1 hm
  have hsJ := c_X6_sumOf (σ := zU σ 33 1 m) (c := 3 + j) (sz := m) hPj.1 hm
  rw [ei] at hsI
  rw [ej] at hsJ
  have hgf := c_giveFirst (σ := zU σ 33 1 m) (Pts_zU hPi (Or.inl rfl)) (Pts_zU hPj (Or.inl rfl)) (a := i) (b := j) (by rw [e1]; exact hm) (by omega)
  rw [e1, ei, ej] at hgf
  have bI := sumI_bd (f := σ (3 + i)) (B := 99) m.toNat 0 (fun t h1 h2 => hPi.2.2 t h1 (by omega))
  have bJ := sumI_bd (f := σ (3 + j)) (B := 99) m.toNat 0 (fun t h1 h2 => hPj.2.2 t h1 (by omega))
  have bL : -(m.toNat * 58806 : Int) ≤ woLead σ 3 m i j ∧ woLead σ 3 m i j ≤ m.toNat * 58806 := sumI_bd2 _ _ (fun t h1 h2 => gfL_bd (hPi.2.2 t h1 (by omega)) (hPj.2.2 t h1 (by omega)) (by omega) (by omega))
  have hP3i : Pts (woS3 σ 3 m i j) (3 + i) := Pts_of hPi (fun q => woS3_o _ _ _ _ _ _ _ hPi.2.1)
  have hP3j : Pts (woS3 σ 3 m i j) (3 + j) := Pts_of hPj (fun q => woS3_o _ _ _ _ _ _ _ hPj.2.1)
  have ho3 : ∀ t : Int, 0 ≤ t → t < 6 → 0 ≤ woS3 σ 3 m i j 34 t ∧ woS3 σ 3 m i j 34 t < 4 := fun t h1 h2 => by
    rw [woS3_34]
    exact gfO_ok (by omega) _ _ _ (fun t h1 h2 => by rw [zU_nc _ _ _ _ _ _ (by omega)]; exact ho t h1 h2) t h1 h2
  have hm3 : 0 ≤ woS3 σ 3 m i j 33 1 ∧ woS3 σ 3 m i j 33 1 ≤ 6 := by rw [woS3_1]; exact hm
  have hp3 : 0 ≤ woS3 σ 3 m i j 33 3 ∧ woS3 σ 3 m i j 33 3 < 4 := by rw [woS3_3]; split <;> omega
  have hr3 : -1 ≤ woS3 σ 3 m i j 33 2 ∧ woS3 σ 3 m i j 33 2 < 4 := by
    rw [woS3_2]
    split
    · omega
    · split <;> omega
  have hc3 : -1 ≤ woS3 σ 3 m i j 33 5 ∧ woS3 σ 3 m i j 33 5 < 6 := by rw [woS3_5]; omega
  have ei3 : woS3 σ 3 m i j (3 + i) = σ (3 + i) := funext fun q => woS3_o _ _ _ _ _ _ _ hPi.2.1
  have ej3 : woS3 σ 3 m i j (3 + j) = σ (3 + j) := funext fun q => woS3_o _ _ _ _ _ _ _ hPj.2.1
  rw [show sumI (gfL (σ (3 + i)) (σ (3 + j)) (sumI (σ (3 + i)) 0 m.toNat) (sumI (σ (3 + j)) 0 m.toNat)) 0 m.toNat = woLead σ 3 m i j from rfl] at hgf
  rw [S_X0_workOut]
  rcases (show 0 < woLead σ 3 m i j ∨ woLead σ 3 m i j = 0 ∨ woLead σ 3 m i j < 0 by omega) with hL | hL | hL
  · have hmv := c_moveToPoor (σ := woS3 σ 3 m i j) (gap := woLead σ 3 m i j) hP3i hP3j hm3 hr3 hp3 ho3 (by omega)
    rw [woS3_1, ei3, ej3] at hmv
    have e4 : woS4 σ 3 m i j = mvS (3 + i) (3 + j) (sumI (σ (3 + i)) 0 m.toNat) (sumI (σ (3 + j)) 0 m.toNat) m.toNat (woS3 σ 3 m i j) (woLead σ 3 m i j) := by unfold woS4; rw [if_pos hL]
    rw [← e4] at hmv
    obtain ⟨k1, k2⟩ := mvS_ok (x := 3 + i) (y := 3 + j) (aR := sumI (σ (3 + i)) 0 m.toNat) (aP := sumI (σ (3 + j)) 0 m.toNat) m.toNat _ (woLead σ 3 m i j) hm3 hp3 ho3 hc3
    have n1 : woS4 σ 3 m i j 33 1 = m := by rw [e4, mvS_nc _ _ _ _ _ _ _ _ _ (by omega), woS3_1]
    have n3 : woS4 σ 3 m i j 33 3 = j := by rw [e4, mvS_nc _ _ _ _ _ _ _ _ _ (by omega), woS3_3, if_pos hL]
    have hsa := c_setAlike (σ := woS4 σ 3 m i j) (y := 3 + j) (Pts_of hPj (fun q => by rw [e4, mvS_nc _ _ _ _ _ _ _ _ _ (by omega)]; exact congrFun ej3 q)) (by rw [n1]; exact hm) (by rw [n3]; exact hj) (by rw [e4]; exact k1) (by rw [e4]; exact k2)
    have e3 : woS3 σ 3 m i j = zU (zU (zU (zU (zU (zU (gfO (3 + i) (3 + j) i j (sumI (σ (3 + i)) 0 m.toNat) (sumI (σ (3 + j)) 0 m.toNat) m.toNat 0 (zU σ 33 1 m)) 33 4 0) 33 5 (-1)) 33 6 0) 33 7 1) 33 2 i) 33 3 j := by unfold woS3; rw [if_neg (by omega), if_pos hL, if_pos hL]
    rw [e3] at hmv
    simp (disch := first | exact z_tt rfl | assumption | omega | (simp (disch := omega) only [zU_eq, zU_nc, zU_nj]; omega)) only [↓L_ald_n0, ↓L_ild_n2, ↓F_p33_1, ↓L_ald_n1, ↓L_ild_n3, ↓A_a2, ↓A_a18, ↓A_a40, ↓A_a47, ↓F_g33_1, ↓I_X6_sumOf, ↓L_ist5, ↓L_ist5L, ↓L_ild4, ↓L_ist6, ↓L_ist6L, ↓L_ild5, ↓r_ifeq_t, ↓r_ifeq_f, ↓J_X0_workOut_40, ↓L_ild6, ↓r_ifne_t, ↓r_ifne_f, ↓J_X0_workOut_42, ↓r_iconst, ↓r_zreturn, ↓I_X0_giveFirst_33, ↓L_lst7, ↓L_lst7L, ↓F_p33_4, ↓F_p33_5, ↓r_lconst, ↓F_p33_6, ↓F_p33_7, ↓L_lld7, ↓J_X0_workOut_90, ↓r_lne_t, ↓r_lne_f, ↓r_goto, ↓J_X0_workOut_103, ↓r_ifle_t, ↓r_ifle_f, ↓J_X0_workOut_101, ↓r_lle_t, ↓r_lle_f, ↓F_p33_2, ↓J_X0_workOut_119, ↓J_X0_workOut_120, ↓F_p33_3, ↓J_X0_workOut_146, ↓I_X0_moveToPoor_33, ↓J_X0_workOut_167, ↓r_ifge_t, ↓r_ifge_f, ↓r_lge_t, ↓r_lge_f, ↓r_lneg, ↓F_g33_3, ↓I_X0_setAlike_33, ↓U_X0_workOut_0, ↓U_X0_workOut_40, ↓U_X0_workOut_42, ↓U_X0_workOut_90, ↓U_X0_workOut_101, ↓U_X0_workOut_103, ↓U_X0_workOut_119, ↓U_X0_workOut_120, ↓U_X0_workOut_146, ↓U_X0_workOut_167, ↓zthen_v, ↓zthen_0, zU_eq, zU_nc, zU_nj, hsI, hsJ, hgf, hmv, n3, hsa]
    unfold woS
    rw [if_pos hL]
  · have e4 : woS4 σ 3 m i j = woS3 σ 3 m i j := by unfold woS4; rw [if_neg (by omega), if_neg (by omega)]
    have n1 : woS4 σ 3 m i j 33 1 = m := by rw [e4, woS3_1]
    have n3 : woS4 σ 3 m i j 33 3 = i := by rw [e4, woS3_3, if_neg (by omega)]
    have hsa := c_setAlike (σ := woS4 σ 3 m i j) (y := 3 + i) (Pts_of hPi (fun q => by rw [e4]; exact congrFun ei3 q)) (by rw [n1]; exact hm) (by rw [n3]; exact hi) (by rw [e4]; exact ho3) (by rw [e4]; exact hc3)
    have e3 : woS4 σ 3 m i j = zU (zU (zU (zU (zU (zU (gfO (3 + i) (3 + j) i j (sumI (σ (3 + i)) 0 m.toNat) (sumI (σ (3 + j)) 0 m.toNat) m.toNat 0 (zU σ 33 1 m)) 33 4 0) 33 5 (-1)) 33 6 0) 33 7 1) 33 2 (-1)) 33 3 i := by rw [e4]; unfold woS3; rw [if_pos hL, if_neg (by omega)]
    rw [e3] at hsa
    rw [hL] at hgf
    simp (disch := first | exact z_tt rfl | assumption | omega | (simp (disch := omega) only [zU_eq, zU_nc, zU_nj]; omega)) only [↓L_ald_n0, ↓L_ild_n2, ↓F_p33_1, ↓L_ald_n1, ↓L_ild_n3, ↓A_a2, ↓A_a18, ↓A_a40, ↓A_a47, ↓F_g33_1, ↓I_X6_sumOf, ↓L_ist5, ↓L_ist5L, ↓L_ild4, ↓L_ist6, ↓L_ist6L, ↓L_ild5, ↓r_ifeq_t, ↓r_ifeq_f, ↓J_X0_workOut_40, ↓L_ild6, ↓r_ifne_t, ↓r_ifne_f, ↓J_X0_workOut_42, ↓r_iconst, ↓r_zreturn, ↓I_X0_giveFirst_33, ↓L_lst7, ↓L_lst7L, ↓F_p33_4, ↓F_p33_5, ↓r_lconst, ↓F_p33_6, ↓F_p33_7, ↓L_lld7, ↓J_X0_workOut_90, ↓r_lne_t, ↓r_lne_f, ↓r_goto, ↓J_X0_workOut_103, ↓r_ifle_t, ↓r_ifle_f, ↓J_X0_workOut_101, ↓r_lle_t, ↓r_lle_f, ↓F_p33_2, ↓J_X0_workOut_119, ↓J_X0_workOut_120, ↓F_p33_3, ↓J_X0_workOut_146, ↓I_X0_moveToPoor_33, ↓J_X0_workOut_167, ↓r_ifge_t, ↓r_ifge_f, ↓r_lge_t, ↓r_lge_f, ↓r_lneg, ↓F_g33_3, ↓I_X0_setAlike_33, ↓U_X0_workOut_0, ↓U_X0_workOut_40, ↓U_X0_workOut_42, ↓U_X0_workOut_90, ↓U_X0_workOut_101, ↓U_X0_workOut_103, ↓U_X0_workOut_119, ↓U_X0_workOut_120, ↓U_X0_workOut_146, ↓U_X0_workOut_167, ↓zthen_v, ↓zthen_0, zU_eq, zU_nc, zU_nj, hsI, hsJ, hgf, hsa]
    unfold woS
    rw [if_neg (by omega), e3]
  · have hmv := c_moveToPoor (σ := woS3 σ 3 m i j) (gap := -woLead σ 3 m i j) hP3j hP3i hm3 hr3 hp3 ho3 (by omega)
    rw [woS3_1, ei3, ej3] at hmv
    have e4 : woS4 σ 3 m i j = mvS (3 + j) (3 + i) (sumI (σ (3 + j)) 0 m.toNat) (sumI (σ (3 + i)) 0 m.toNat) m.toNat (woS3 σ 3 m i j) (-woLead σ 3 m i j) := by unfold woS4; rw [if_neg (by omega), if_pos hL]
    rw [← e4] at hmv
    obtain ⟨k1, k2⟩ := mvS_ok (x := 3 + j) (y := 3 + i) (aR := sumI (σ (3 + j)) 0 m.toNat) (aP := sumI (σ (3 + i)) 0 m.toNat) m.toNat _ (-woLead σ 3 m i j) hm3 hp3 ho3 hc3
    have n1 : woS4 σ 3 m i j 33 1 = m := by rw [e4, mvS_nc _ _ _ _ _ _ _ _ _ (by omega), woS3_1]
    have n3 : woS4 σ 3 m i j 33 3 = i := by rw [e4, mvS_nc _ _ _ _ _ _ _ _ _ (by omega), woS3_3, if_neg (by omega)]
    have hsa := c_setAlike (σ := woS4 σ 3 m i j) (y := 3 + i) (Pts_of hPi (fun q => by rw [e4, mvS_nc _ _ _ _ _ _ _ _ _ (by omega)]; exact congrFun ei3 q)) (by rw [n1]; exact hm) (by rw [n3]; exact hi) (by rw [e4]; exact k1) (by rw [e4]; exact k2)
    have e3 : woS3 σ 3 m i j = zU (zU (zU (zU (zU (zU (gfO (3 + i) (3 + j) i j (sumI (σ (3 + i)) 0 m.toNat) (sumI (σ (3 + j)) 0 m.toNat) m.toNat 0 (zU σ 33 1 m)) 33 4 0) 33 5 (-1)) 33 6 0) 33 7 1) 33 2 j) 33 3 i := by unfold woS3; rw [if_neg (by omega), if_neg (by omega), if_neg (by omega)]
    rw [e3] at hmv
    simp (disch := first | exact z_tt rfl | assumption | omega | (simp (disch := omega) only [zU_eq, zU_nc, zU_nj]; omega)) only [↓L_ald_n0, ↓L_ild_n2, ↓F_p33_1, ↓L_ald_n1, ↓L_ild_n3, ↓A_a2, ↓A_a18, ↓A_a40, ↓A_a47, ↓F_g33_1, ↓I_X6_sumOf, ↓L_ist5, ↓L_ist5L, ↓L_ild4, ↓L_ist6, ↓L_ist6L, ↓L_ild5, ↓r_ifeq_t, ↓r_ifeq_f, ↓J_X0_workOut_40, ↓L_ild6, ↓r_ifne_t, ↓r_ifne_f, ↓J_X0_workOut_42, ↓r_iconst, ↓r_zreturn, ↓I_X0_giveFirst_33, ↓L_lst7, ↓L_lst7L, ↓F_p33_4, ↓F_p33_5, ↓r_lconst, ↓F_p33_6, ↓F_p33_7, ↓L_lld7, ↓J_X0_workOut_90, ↓r_lne_t, ↓r_lne_f, ↓r_goto, ↓J_X0_workOut_103, ↓r_ifle_t, ↓r_ifle_f, ↓J_X0_workOut_101, ↓r_lle_t, ↓r_lle_f, ↓F_p33_2, ↓J_X0_workOut_119, ↓J_X0_workOut_120, ↓F_p33_3, ↓J_X0_workOut_146, ↓I_X0_moveToPoor_33, ↓J_X0_workOut_167, ↓r_ifge_t, ↓r_ifge_f, ↓r_lge_t, ↓r_lge_f, ↓r_lneg, ↓F_g33_3, ↓I_X0_setAlike_33, ↓U_X0_workOut_0, ↓U_X0_workOut_40, ↓U_X0_workOut_42, ↓U_X0_workOut_90, ↓U_X0_workOut_101, ↓U_X0_workOut_103, ↓U_X0_workOut_119, ↓U_X0_workOut_120, ↓U_X0_workOut_146, ↓U_X0_workOut_167, ↓zthen_v, ↓zthen_0, zU_eq, zU_nc, zU_nj, hsI, hsJ, hgf, hmv, n3, hsa]
    unfold woS
    rw [if_neg (by omega)]
set_option maxRecDepth 20000 in
theorem c_workOut3_f {σ : zM} {m i j : Int} (hm : 0 ≤ m ∧ m ≤ 6) (hi : 0 ≤ i ∧ i < 4) (hj : 0 ≤ j ∧ j < 4) (hPi : Pts σ (3 + i)) (hPj : Pts σ (3 + j)) (h : sumI (σ (3 + i)) 0 m.toNat = 0 ∨ sumI (σ (3 + j)) 0 m.toNat = 0) :
    zcall 0 [vR 33, vR 2, vI m, vI i, vI j] σ = some (some (vI 0), zU σ 33 1 m) := by
  have ei : zU σ 33 1 m (3 + i) = σ (3 + i) := funext fun q => zU_nc _ _ _ _ _ _ (by omega)
  have ej : zU σ 33 1 m (3 + j) = σ (3 + j) := funext fun q => zU_nc _ _ _ _ _ _ (by omega)
  have hsI := c_X6_sumOf (σ := zU σ 33 1 m) (c := 3 + i) (sz := m) hPi.1 hm
  have hsJ := c_X6_sumOf (σ := zU σ 33 1 m) (c := 3 + j) (sz := m) hPj.1 hm
  rw [ei] at hsI
  rw [ej] at hsJ
  have bI := sumI_bd (f := σ (3 + i)) (B := 99) m.toNat 0 (fun t h1 h2 => hPi.2.2 t h1 (by omega))
  have bJ := sumI_bd (f := σ (3 + j)) (B := 99) m.toNat 0 (fun t h1 h2 => hPj.2.2 t h1 (by omega))
  rw [S_X0_workOut]
  by_cases h1 : sumI (σ (3 + i)) 0 m.toNat = 0
  · simp (disch := first | exact z_tt rfl | assumption | omega | (simp (disch := omega) only [zU_eq, zU_nc, zU_nj]; omega)) only [↓L_ald_n0, ↓L_ild_n2, ↓F_p33_1, ↓L_ald_n1, ↓L_ild_n3, ↓A_a2, ↓A_a18, ↓A_a40, ↓A_a47, ↓F_g33_1, ↓I_X6_sumOf, ↓L_ist5, ↓L_ist5L, ↓L_ild4, ↓L_ist6, ↓L_ist6L, ↓L_ild5, ↓r_ifeq_t, ↓r_ifeq_f, ↓J_X0_workOut_40, ↓L_ild6, ↓r_ifne_t, ↓r_ifne_f, ↓J_X0_workOut_42, ↓r_iconst, ↓r_zreturn, ↓I_X0_giveFirst_33, ↓L_lst7, ↓L_lst7L, ↓F_p33_4, ↓F_p33_5, ↓r_lconst, ↓F_p33_6, ↓F_p33_7, ↓L_lld7, ↓J_X0_workOut_90, ↓r_lne_t, ↓r_lne_f, ↓r_goto, ↓J_X0_workOut_103, ↓r_ifle_t, ↓r_ifle_f, ↓J_X0_workOut_101, ↓r_lle_t, ↓r_lle_f, ↓F_p33_2, ↓J_X0_workOut_119, ↓J_X0_workOut_120, ↓F_p33_3, ↓J_X0_workOut_146, ↓I_X0_moveToPoor_33, ↓J_X0_workOut_167, ↓r_ifge_t, ↓r_ifge_f, ↓r_lge_t, ↓r_lge_f, ↓r_lneg, ↓F_g33_3, ↓I_X0_setAlike_33, ↓U_X0_workOut_0, ↓U_X0_workOut_40, ↓U_X0_workOut_42, ↓U_X0_workOut_90, ↓U_X0_workOut_101, ↓U_X0_workOut_103, ↓U_X0_workOut_119, ↓U_X0_workOut_120, ↓U_X0_workOut_146, ↓U_X0_workOut_167, ↓zthen_v, ↓zthen_0, zU_eq, zU_nc, zU_nj, hsI, hsJ]
  · have h2 := h.resolve_left h1
    simp (disch := first | exact z_tt rfl | assumption | omega | (simp (disch := omega) only [zU_eq, zU_nc, zU_nj]; omega)) only [↓L_ald_n0, ↓L_ild_n2, ↓F_p33_1, ↓L_ald_n1, ↓L_ild_n3, ↓A_a2, ↓A_a18, ↓A_a40, ↓A_a47, ↓F_g33_1, ↓I_X6_sumOf, ↓L_ist5, ↓L_ist5L, ↓L_ild4, ↓L_ist6, ↓L_ist6L, ↓L_ild5, ↓r_ifeq_t, ↓r_ifeq_f, ↓J_X0_workOut_40, ↓L_ild6, ↓r_ifne_t, ↓r_ifne_f, ↓J_X0_workOut_42, ↓r_iconst, ↓r_zreturn, ↓I_X0_giveFirst_33, ↓L_lst7, ↓L_lst7L, ↓F_p33_4, ↓F_p33_5, ↓r_lconst, ↓F_p33_6, ↓F_p33_7, ↓L_lld7, ↓J_X0_workOut_90, ↓r_lne_t, ↓r_lne_f, ↓r_goto, ↓J_X0_workOut_103, ↓r_ifle_t, ↓r_ifle_f, ↓J_X0_workOut_101, ↓r_lle_t, ↓r_lle_f, ↓F_p33_2, ↓J_X0_workOut_119, ↓J_X0_workOut_120, ↓F_p33_3, ↓J_X0_workOut_146, ↓I_X0_moveToPoor_33, ↓J_X0_workOut_167, ↓r_ifge_t, ↓r_ifge_f, ↓r_lge_t, ↓r_lge_f, ↓r_lneg, ↓F_g33_3, ↓I_X0_setAlike_33, ↓U_X0_workOut_0, ↓U_X0_workOut_40, ↓U_X0_workOut_42, ↓U_X0_workOut_90, ↓U_X0_workOut_101, ↓U_X0_workOut_103, ↓U_X0_workOut_119, ↓U_X0_workOut_120, ↓U_X0_workOut_146, ↓U_X0_workOut_167, ↓zthen_v, ↓zthen_0, zU_eq, zU_nc, zU_nj, hsI, hsJ]

set_option maxRecDepth 20000 in
set_option maxHeartbeats 4000000 in
theorem c_workOut41 {σ : zM} {m i j : Int} (hm : 0 ≤ m ∧ m ≤ 6) (hi : 0 ≤ i ∧ i < 4) (hj : 0 ≤ j ∧ j < 4) (hPi : Pts σ (41 + i)) (hPj : Pts σ (41 + j)) (ho : ∀ t : Int, 0 ≤ t → t < 6 → 0 ≤ σ 34 t ∧ σ 34 t < 4) (h0 : ¬ sumI (σ (41 + i)) 0 m.toNat = 0) (h1 : ¬ sumI (σ (41 + j)) 0 m.toNat = 0) :
    zcall 0 [vR 33, vR 40, vI m, vI i, vI j] σ = some (some (vI 1), woS σ 41 m i j) := by
  have e1 : zU σ 33 1 m 33 1 = m := zU_eq _ _ _ _
  have ei : zU σ 33 1 m (41 + i) = σ (41 + i) := funext fun q => zU_nc _ _ _ _ _ _ (by omega)
  have ej : zU σ 33 1 m (41 + j) = σ (41 + j) := funext fun q => zU_nc _ _ _ _ _ _ (by omega)
  have hsI := c_X6_sumOf (σ := zU σ 33 1 m) (c := 41 + i) (sz := m) hPi.1 hm
  have hsJ := c_X6_sumOf (σ := zU σ 33 1 m) (c := 41 + j) (sz := m) hPj.1 hm
  rw [ei] at hsI
  rw [ej] at hsJ
  have hgf := c_giveFirst (σ := zU σ 33 1 m) (Pts_zU hPi (Or.inl rfl)) (Pts_zU hPj (Or.inl rfl)) (a := i) (b := j) (by rw [e1]; exact hm) (by omega)
  rw [e1, ei, ej] at hgf
  have bI := sumI_bd (f := σ (41 + i)) (B := 99) m.toNat 0 (fun t h1 h2 => hPi.2.2 t h1 (by omega))
  have bJ := sumI_bd (f := σ (41 + j)) (B := 99) m.toNat 0 (fun t h1 h2 => hPj.2.2 t h1 (by omega))
  have bL : -(m.toNat * 58806 : Int) ≤ woLead σ 41 m i j ∧ woLead σ 41 m i j ≤ m.toNat * 58806 := sumI_bd2 _ _ (fun t h1 h2 => gfL_bd (hPi.2.2 t h1 (by omega)) (hPj.2.2 t h1 (by omega)) (by omega) (by omega))
  have hP3i : Pts (woS3 σ 41 m i j) (41 + i) := Pts_of hPi (fun q => woS3_o _ _ _ _ _ _ _ hPi.2.1)
  have hP3j : Pts (woS3 σ 41 m i j) (41 + j) := Pts_of hPj (fun q => woS3_o _ _ _ _ _ _ _ hPj.2.1)
  have ho3 : ∀ t : Int, 0 ≤ t → t < 6 → 0 ≤ woS3 σ 41 m i j 34 t ∧ woS3 σ 41 m i j 34 t < 4 := fun t h1 h2 => by
    rw [woS3_34]
    exact gfO_ok (by omega) _ _ _ (fun t h1 h2 => by rw [zU_nc _ _ _ _ _ _ (by omega)]; exact ho t h1 h2) t h1 h2
  have hm3 : 0 ≤ woS3 σ 41 m i j 33 1 ∧ woS3 σ 41 m i j 33 1 ≤ 6 := by rw [woS3_1]; exact hm
  have hp3 : 0 ≤ woS3 σ 41 m i j 33 3 ∧ woS3 σ 41 m i j 33 3 < 4 := by rw [woS3_3]; split <;> omega
  have hr3 : -1 ≤ woS3 σ 41 m i j 33 2 ∧ woS3 σ 41 m i j 33 2 < 4 := by
    rw [woS3_2]
    split
    · omega
    · split <;> omega
  have hc3 : -1 ≤ woS3 σ 41 m i j 33 5 ∧ woS3 σ 41 m i j 33 5 < 6 := by rw [woS3_5]; omega
  have ei3 : woS3 σ 41 m i j (41 + i) = σ (41 + i) := funext fun q => woS3_o _ _ _ _ _ _ _ hPi.2.1
  have ej3 : woS3 σ 41 m i j (41 + j) = σ (41 + j) := funext fun q => woS3_o _ _ _ _ _ _ _ hPj.2.1
  rw [show sumI (gfL (σ (41 + i)) (σ (41 + j)) (sumI (σ (41 + i)) 0 m.toNat) (sumI (σ (41 + j)) 0 m.toNat)) 0 m.toNat = woLead σ 41 m i j from rfl] at hgf
  rw [S_X0_workOut]
  rcases (show 0 < woLead σ 41 m i j ∨ woLead σ 41 m i j = 0 ∨ woLead σ 41 m i j < 0 by omega) with hL | hL | hL
  · have hmv := c_moveToPoor (σ := woS3 σ 41 m i j) (gap := woLead σ 41 m i j) hP3i hP3j hm3 hr3 hp3 ho3 (by omega)
    rw [woS3_1, ei3, ej3] at hmv
    have e4 : woS4 σ 41 m i j = mvS (41 + i) (41 + j) (sumI (σ (41 + i)) 0 m.toNat) (sumI (σ (41 + j)) 0 m.toNat) m.toNat (woS3 σ 41 m i j) (woLead σ 41 m i j) := by unfold woS4; rw [if_pos hL]
    rw [← e4] at hmv
    obtain ⟨k1, k2⟩ := mvS_ok (x := 41 + i) (y := 41 + j) (aR := sumI (σ (41 + i)) 0 m.toNat) (aP := sumI (σ (41 + j)) 0 m.toNat) m.toNat _ (woLead σ 41 m i j) hm3 hp3 ho3 hc3
    have n1 : woS4 σ 41 m i j 33 1 = m := by rw [e4, mvS_nc _ _ _ _ _ _ _ _ _ (by omega), woS3_1]
    have n3 : woS4 σ 41 m i j 33 3 = j := by rw [e4, mvS_nc _ _ _ _ _ _ _ _ _ (by omega), woS3_3, if_pos hL]
    have hsa := c_setAlike (σ := woS4 σ 41 m i j) (y := 41 + j) (Pts_of hPj (fun q => by rw [e4, mvS_nc _ _ _ _ _ _ _ _ _ (by omega)]; exact congrFun ej3 q)) (by rw [n1]; exact hm) (by rw [n3]; exact hj) (by rw [e4]; exact k1) (by rw [e4]; exact k2)
    have e3 : woS3 σ 41 m i j = zU (zU (zU (zU (zU (zU (gfO (41 + i) (41 + j) i j (sumI (σ (41 + i)) 0 m.toNat) (sumI (σ (41 + j)) 0 m.toNat) m.toNat 0 (zU σ 33 1 m)) 33 4 0) 33 5 (-1)) 33 6 0) 33 7 1) 33 2 i) 33 3 j := by unfold woS3; rw [if_neg (by omega), if_pos hL, if_pos hL]
    rw [e3] at hmv
    simp (disch := first | exact z_tt rfl | assumption | omega | (simp (disch := omega) only [zU_eq, zU_nc, zU_nj]; omega)) only [↓L_ald_n0, ↓L_ild_n2, ↓F_p33_1, ↓L_ald_n1, ↓L_ild_n3, ↓A_a2, ↓A_a18, ↓A_a40, ↓A_a47, ↓F_g33_1, ↓I_X6_sumOf, ↓L_ist5, ↓L_ist5L, ↓L_ild4, ↓L_ist6, ↓L_ist6L, ↓L_ild5, ↓r_ifeq_t, ↓r_ifeq_f, ↓J_X0_workOut_40, ↓L_ild6, ↓r_ifne_t, ↓r_ifne_f, ↓J_X0_workOut_42, ↓r_iconst, ↓r_zreturn, ↓I_X0_giveFirst_33, ↓L_lst7, ↓L_lst7L, ↓F_p33_4, ↓F_p33_5, ↓r_lconst, ↓F_p33_6, ↓F_p33_7, ↓L_lld7, ↓J_X0_workOut_90, ↓r_lne_t, ↓r_lne_f, ↓r_goto, ↓J_X0_workOut_103, ↓r_ifle_t, ↓r_ifle_f, ↓J_X0_workOut_101, ↓r_lle_t, ↓r_lle_f, ↓F_p33_2, ↓J_X0_workOut_119, ↓J_X0_workOut_120, ↓F_p33_3, ↓J_X0_workOut_146, ↓I_X0_moveToPoor_33, ↓J_X0_workOut_167, ↓r_ifge_t, ↓r_ifge_f, ↓r_lge_t, ↓r_lge_f, ↓r_lneg, ↓F_g33_3, ↓I_X0_setAlike_33, ↓U_X0_workOut_0, ↓U_X0_workOut_40, ↓U_X0_workOut_42, ↓U_X0_workOut_90, ↓U_X0_workOut_101, ↓U_X0_workOut_103, ↓U_X0_workOut_119, ↓U_X0_workOut_120, ↓U_X0_workOut_146, ↓U_X0_workOut_167, ↓zthen_v, ↓zthen_0, zU_eq, zU_nc, zU_nj, hsI, hsJ, hgf, hmv, n3, hsa]
    unfold woS
    rw [if_pos hL]
  · have e4 : woS4 σ 41 m i j = woS3 σ 41 m i j := by unfold woS4; rw [if_neg (by omega), if_neg (by omega)]
    have n1 : woS4 σ 41 m i j 33 1 = m := by rw [e4, woS3_1]
    have n3 : woS4 σ 41 m i j 33 3 = i := by rw [e4, woS3_3, if_neg (by omega)]
    have hsa := c_setAlike (σ := woS4 σ 41 m i j) (y := 41 + i) (Pts_of hPi (fun q => by rw [e4]; exact congrFun ei3 q)) (by rw [n1]; exact hm) (by rw [n3]; exact hi) (by rw [e4]; exact ho3) (by rw [e4]; exact hc3)
    have e3 : woS4 σ 41 m i j = zU (zU (zU (zU (zU (zU (gfO (41 + i) (41 + j) i j (sumI (σ (41 + i)) 0 m.toNat) (sumI (σ (41 + j)) 0 m.toNat) m.toNat 0 (zU σ 33 1 m)) 33 4 0) 33 5 (-1)) 33 6 0) 33 7 1) 33 2 (-1)) 33 3 i := by rw [e4]; unfold woS3; rw [if_pos hL, if_neg (by omega)]
    rw [e3] at hsa
    rw [hL] at hgf
    simp (disch := first | exact z_tt rfl | assumption | omega | (simp (disch := omega) only [zU_eq, zU_nc, zU_nj]; omega)) only [↓L_ald_n0, ↓L_ild_n2, ↓F_p33_1, ↓L_ald_n1, ↓L_ild_n3, ↓A_a2, ↓A_a18, ↓A_a40, ↓A_a47, ↓F_g33_1, ↓I_X6_sumOf, ↓L_ist5, ↓L_ist5L, ↓L_ild4, ↓L_ist6, ↓L_ist6L, ↓L_ild5, ↓r_ifeq_t, ↓r_ifeq_f, ↓J_X0_workOut_40, ↓L_ild6, ↓r_ifne_t, ↓r_ifne_f, ↓J_X0_workOut_42, ↓r_iconst, ↓r_zreturn, ↓I_X0_giveFirst_33, ↓L_lst7, ↓L_lst7L, ↓F_p33_4, ↓F_p33_5, ↓r_lconst, ↓F_p33_6, ↓F_p33_7, ↓L_lld7, ↓J_X0_workOut_90, ↓r_lne_t, ↓r_lne_f, ↓r_goto, ↓J_X0_workOut_103, ↓r_ifle_t, ↓r_ifle_f, ↓J_X0_workOut_101, ↓r_lle_t, ↓r_lle_f, ↓F_p33_2, ↓J_X0_workOut_119, ↓J_X0_workOut_120, ↓F_p33_3, ↓J_X0_workOut_146, ↓I_X0_moveToPoor_33, ↓J_X0_workOut_167, ↓r_ifge_t, ↓r_ifge_f, ↓r_lge_t, ↓r_lge_f, ↓r_lneg, ↓F_g33_3, ↓I_X0_setAlike_33, ↓U_X0_workOut_0, ↓U_X0_workOut_40, ↓U_X0_workOut_42, ↓U_X0_workOut_90, ↓U_X0_workOut_101, ↓U_X0_workOut_103, ↓U_X0_workOut_119, ↓U_X0_workOut_120, ↓U_X0_workOut_146, ↓U_X0_workOut_167, ↓zthen_v, ↓zthen_0, zU_eq, zU_nc, zU_nj, hsI, hsJ, hgf, hsa]
    unfold woS
    rw [if_neg (by omega), e3]
  · have hmv := c_moveToPoor (σ := woS3 σ 41 m i j) (gap := -woLead σ 41 m i j) hP3j hP3i hm3 hr3 hp3 ho3 (by omega)
    rw [woS3_1, ei3, ej3] at hmv
    have e4 : woS4 σ 41 m i j = mvS (41 + j) (41 + i) (sumI (σ (41 + j)) 0 m.toNat) (sumI (σ (41 + i)) 0 m.toNat) m.toNat (woS3 σ 41 m i j) (-woLead σ 41 m i j) := by unfold woS4; rw [if_neg (by omega), if_pos hL]
    rw [← e4] at hmv
    obtain ⟨k1, k2⟩ := mvS_ok (x := 41 + j) (y := 41 + i) (aR := sumI (σ (41 + j)) 0 m.toNat) (aP := sumI (σ (41 + i)) 0 m.toNat) m.toNat _ (-woLead σ 41 m i j) hm3 hp3 ho3 hc3
    have n1 : woS4 σ 41 m i j 33 1 = m := by rw [e4, mvS_nc _ _ _ _ _ _ _ _ _ (by omega), woS3_1]
    have n3 : woS4 σ 41 m i j 33 3 = i := by rw [e4, mvS_nc _ _ _ _ _ _ _ _ _ (by omega), woS3_3, if_neg (by omega)]
    have hsa := c_setAlike (σ := woS4 σ 41 m i j) (y := 41 + i) (Pts_of hPi (fun q => by rw [e4, mvS_nc _ _ _ _ _ _ _ _ _ (by omega)]; exact congrFun ei3 q)) (by rw [n1]; exact hm) (by rw [n3]; exact hi) (by rw [e4]; exact k1) (by rw [e4]; exact k2)
    have e3 : woS3 σ 41 m i j = zU (zU (zU (zU (zU (zU (gfO (41 + i) (41 + j) i j (sumI (σ (41 + i)) 0 m.toNat) (sumI (σ (41 + j)) 0 m.toNat) m.toNat 0 (zU σ 33 1 m)) 33 4 0) 33 5 (-1)) 33 6 0) 33 7 1) 33 2 j) 33 3 i := by unfold woS3; rw [if_neg (by omega), if_neg (by omega), if_neg (by omega)]
    rw [e3] at hmv
    simp (disch := first | exact z_tt rfl | assumption | omega | (simp (disch := omega) only [zU_eq, zU_nc, zU_nj]; omega)) only [↓L_ald_n0, ↓L_ild_n2, ↓F_p33_1, ↓L_ald_n1, ↓L_ild_n3, ↓A_a2, ↓A_a18, ↓A_a40, ↓A_a47, ↓F_g33_1, ↓I_X6_sumOf, ↓L_ist5, ↓L_ist5L, ↓L_ild4, ↓L_ist6, ↓L_ist6L, ↓L_ild5, ↓r_ifeq_t, ↓r_ifeq_f, ↓J_X0_workOut_40, ↓L_ild6, ↓r_ifne_t, ↓r_ifne_f, ↓J_X0_workOut_42, ↓r_iconst, ↓r_zreturn, ↓I_X0_giveFirst_33, ↓L_lst7, ↓L_lst7L, ↓F_p33_4, ↓F_p33_5, ↓r_lconst, ↓F_p33_6, ↓F_p33_7, ↓L_lld7, ↓J_X0_workOut_90, ↓r_lne_t, ↓r_lne_f, ↓r_goto, ↓J_X0_workOut_103, ↓r_ifle_t, ↓r_ifle_f, ↓J_X0_workOut_101, ↓r_lle_t, ↓r_lle_f, ↓F_p33_2, ↓J_X0_workOut_119, ↓J_X0_workOut_120, ↓F_p33_3, ↓J_X0_workOut_146, ↓I_X0_moveToPoor_33, ↓J_X0_workOut_167, ↓r_ifge_t, ↓r_ifge_f, ↓r_lge_t, ↓r_lge_f, ↓r_lneg, ↓F_g33_3, ↓I_X0_setAlike_33, ↓U_X0_workOut_0, ↓U_X0_workOut_40, ↓U_X0_workOut_42, ↓U_X0_workOut_90, ↓U_X0_workOut_101, ↓U_X0_workOut_103, ↓U_X0_workOut_119, ↓U_X0_workOut_120, ↓U_X0_workOut_146, ↓U_X0_workOut_167, ↓zthen_v, ↓zthen_0, zU_eq, zU_nc, zU_nj, hsI, hsJ, hgf, hmv, n3, hsa]
    unfold woS
    rw [if_neg (by omega)]
set_option maxRecDepth 20000 in
theorem c_workOut41_f {σ : zM} {m i j : Int} (hm : 0 ≤ m ∧ m ≤ 6) (hi : 0 ≤ i ∧ i < 4) (hj : 0 ≤ j ∧ j < 4) (hPi : Pts σ (41 + i)) (hPj : Pts σ (41 + j)) (h : sumI (σ (41 + i)) 0 m.toNat = 0 ∨ sumI (σ (41 + j)) 0 m.toNat = 0) :
    zcall 0 [vR 33, vR 40, vI m, vI i, vI j] σ = some (some (vI 0), zU σ 33 1 m) := by
  have ei : zU σ 33 1 m (41 + i) = σ (41 + i) := funext fun q => zU_nc _ _ _ _ _ _ (by omega)
  have ej : zU σ 33 1 m (41 + j) = σ (41 + j) := funext fun q => zU_nc _ _ _ _ _ _ (by omega)
  have hsI := c_X6_sumOf (σ := zU σ 33 1 m) (c := 41 + i) (sz := m) hPi.1 hm
  have hsJ := c_X6_sumOf (σ := zU σ 33 1 m) (c := 41 + j) (sz := m) hPj.1 hm
  rw [ei] at hsI
  rw [ej] at hsJ
  have bI := sumI_bd (f := σ (41 + i)) (B := 99) m.toNat 0 (fun t h1 h2 => hPi.2.2 t h1 (by omega))
  have bJ := sumI_bd (f := σ (41 + j)) (B := 99) m.toNat 0 (fun t h1 h2 => hPj.2.2 t h1 (by omega))
  rw [S_X0_workOut]
  by_cases h1 : sumI (σ (41 + i)) 0 m.toNat = 0
  · simp (disch := first | exact z_tt rfl | assumption | omega | (simp (disch := omega) only [zU_eq, zU_nc, zU_nj]; omega)) only [↓L_ald_n0, ↓L_ild_n2, ↓F_p33_1, ↓L_ald_n1, ↓L_ild_n3, ↓A_a2, ↓A_a18, ↓A_a40, ↓A_a47, ↓F_g33_1, ↓I_X6_sumOf, ↓L_ist5, ↓L_ist5L, ↓L_ild4, ↓L_ist6, ↓L_ist6L, ↓L_ild5, ↓r_ifeq_t, ↓r_ifeq_f, ↓J_X0_workOut_40, ↓L_ild6, ↓r_ifne_t, ↓r_ifne_f, ↓J_X0_workOut_42, ↓r_iconst, ↓r_zreturn, ↓I_X0_giveFirst_33, ↓L_lst7, ↓L_lst7L, ↓F_p33_4, ↓F_p33_5, ↓r_lconst, ↓F_p33_6, ↓F_p33_7, ↓L_lld7, ↓J_X0_workOut_90, ↓r_lne_t, ↓r_lne_f, ↓r_goto, ↓J_X0_workOut_103, ↓r_ifle_t, ↓r_ifle_f, ↓J_X0_workOut_101, ↓r_lle_t, ↓r_lle_f, ↓F_p33_2, ↓J_X0_workOut_119, ↓J_X0_workOut_120, ↓F_p33_3, ↓J_X0_workOut_146, ↓I_X0_moveToPoor_33, ↓J_X0_workOut_167, ↓r_ifge_t, ↓r_ifge_f, ↓r_lge_t, ↓r_lge_f, ↓r_lneg, ↓F_g33_3, ↓I_X0_setAlike_33, ↓U_X0_workOut_0, ↓U_X0_workOut_40, ↓U_X0_workOut_42, ↓U_X0_workOut_90, ↓U_X0_workOut_101, ↓U_X0_workOut_103, ↓U_X0_workOut_119, ↓U_X0_workOut_120, ↓U_X0_workOut_146, ↓U_X0_workOut_167, ↓zthen_v, ↓zthen_0, zU_eq, zU_nc, zU_nj, hsI, hsJ]
  · have h2 := h.resolve_left h1
    simp (disch := first | exact z_tt rfl | assumption | omega | (simp (disch := omega) only [zU_eq, zU_nc, zU_nj]; omega)) only [↓L_ald_n0, ↓L_ild_n2, ↓F_p33_1, ↓L_ald_n1, ↓L_ild_n3, ↓A_a2, ↓A_a18, ↓A_a40, ↓A_a47, ↓F_g33_1, ↓I_X6_sumOf, ↓L_ist5, ↓L_ist5L, ↓L_ild4, ↓L_ist6, ↓L_ist6L, ↓L_ild5, ↓r_ifeq_t, ↓r_ifeq_f, ↓J_X0_workOut_40, ↓L_ild6, ↓r_ifne_t, ↓r_ifne_f, ↓J_X0_workOut_42, ↓r_iconst, ↓r_zreturn, ↓I_X0_giveFirst_33, ↓L_lst7, ↓L_lst7L, ↓F_p33_4, ↓F_p33_5, ↓r_lconst, ↓F_p33_6, ↓F_p33_7, ↓L_lld7, ↓J_X0_workOut_90, ↓r_lne_t, ↓r_lne_f, ↓r_goto, ↓J_X0_workOut_103, ↓r_ifle_t, ↓r_ifle_f, ↓J_X0_workOut_101, ↓r_lle_t, ↓r_lle_f, ↓F_p33_2, ↓J_X0_workOut_119, ↓J_X0_workOut_120, ↓F_p33_3, ↓J_X0_workOut_146, ↓I_X0_moveToPoor_33, ↓J_X0_workOut_167, ↓r_ifge_t, ↓r_ifge_f, ↓r_lge_t, ↓r_lge_f, ↓r_lneg, ↓F_g33_3, ↓I_X0_setAlike_33, ↓U_X0_workOut_0, ↓U_X0_workOut_40, ↓U_X0_workOut_42, ↓U_X0_workOut_90, ↓U_X0_workOut_101, ↓U_X0_workOut_103, ↓U_X0_workOut_119, ↓U_X0_workOut_120, ↓U_X0_workOut_146, ↓U_X0_workOut_167, ↓zthen_v, ↓zthen_0, zU_eq, zU_nc, zU_nj, hsI, hsJ]
