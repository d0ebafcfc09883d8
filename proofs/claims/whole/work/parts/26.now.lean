/-! the set-up that stands (cell 1) -/
def W1 (σ : zM) : Prop := (2 ≤ σ 1 0 ∧ σ 1 0 ≤ 4) ∧ (0 ≤ σ 1 1 ∧ σ 1 1 ≤ 6) ∧ (∀ p t : Int, 0 ≤ p → p < 4 → 0 ≤ t → t < 6 → 0 ≤ σ (3 + p) t ∧ σ (3 + p) t ≤ 99) ∧ (∀ t : Int, 0 ≤ t → t < 6 → -1 ≤ σ 7 t ∧ σ 7 t < 4) ∧ (-1 ≤ σ 1 4 ∧ σ 1 4 < 6) ∧ (-1 ≤ σ 1 5 ∧ σ 1 5 < 4) ∧ (0 ≤ σ 1 6 ∧ σ 1 6 < σ 1 7 ∧ σ 1 7 ≤ 200000)
def mend (σ : zM) : zM := zU (zU (zU (zU σ 1 4 (-1)) 1 5 (-1)) 1 6 0) 1 7 1
set_option maxRecDepth 20000 in
theorem c_X2_mendCut {σ : zM} : zcall 13 [vR 1] σ = some (none, mend σ) := by
  rw [S_X2_mendCut]
  simp (disch := first | exact z_tt rfl | assumption | omega | (simp (disch := omega) only [zU_eq, zU_nc, zU_nj]; omega)) only [↓L_ald_n0, ↓r_iconst, ↓F_p1_4, ↓F_p17_4, ↓F_p1_5, ↓F_p17_5, ↓r_lconst, ↓F_p1_6, ↓F_p17_6, ↓F_p1_7, ↓F_p17_7, ↓r_return, ↓U_X2_mendCut_0, ↓zthen_v, ↓zthen_0, zU_eq, zU_nc, zU_nj]
  rfl
set_option maxRecDepth 20000 in
theorem c_X2_beginWith {σ : zM} {n : Int} : zcall 11 [vR 1, vI n] σ = some (none, zU (zU (zU (mend (zU (zU σ 1 0 n) 1 1 0)) 8 2 0) 11 2 0) 14 2 0) := by
  rw [S_X2_beginWith]
  simp (disch := first | exact z_tt rfl | assumption | omega | (simp (disch := omega) only [zU_eq, zU_nc, zU_nj]; omega)) only [↓L_ald_n0, ↓L_ild_n1, ↓F_p1_0, ↓F_p17_0, ↓r_iconst, ↓F_p1_1, ↓F_p17_1, ↓I_X2_mendCut_1, ↓I_X2_mendCut_17, ↓F_g1_8, ↓F_g17_8, ↓F_p8_2, ↓F_p11_2, ↓F_p14_2, ↓F_p24_2, ↓F_p27_2, ↓F_p30_2, ↓F_g1_9, ↓F_g17_9, ↓F_g1_10, ↓F_g17_10, ↓r_return, ↓U_X2_beginWith_0, ↓zthen_v, ↓zthen_0, zU_eq, zU_nc, zU_nj, c_X2_mendCut]
def addT (σ : zM) : zM := zU (zU (zU (zU (zU (zU σ 3 (σ 1 1) 0) 4 (σ 1 1) 0) 5 (σ 1 1) 0) 6 (σ 1 1) 0) 7 (σ 1 1) (-1)) 1 1 (σ 1 1 + 1)
set_option maxRecDepth 20000 in
set_option maxHeartbeats 4000000 in
theorem c_X2_addThing {σ : zM} (h : 0 ≤ σ 1 1 ∧ σ 1 1 < 6) : zcall 12 [vR 1] σ = some (some (vI (σ 1 1)), addT σ) := by
  rw [S_X2_addThing]
  simp (disch := first | exact z_tt rfl | assumption | omega | (simp (disch := omega) only [zU_eq, zU_nc, zU_nj]; omega)) only [↓L_ald_n0, ↓F_g1_1, ↓F_g17_1, ↓L_ist_n1, ↓L_ist_n1L, ↓r_iconst, ↓L_ist_n2, ↓L_ist_n2L, ↓L_ild_n2, ↓r_icge_t, ↓r_icge_f, ↓J_X2_addThing_27, ↓F_g1_2, ↓F_g17_2, ↓A_a2, ↓A_a18, ↓A_a40, ↓A_a47, ↓L_ild_n1, ↓A_p3, ↓A_p4, ↓A_p5, ↓A_p6, ↓A_p7, ↓A_p9, ↓A_p10, ↓A_p12, ↓A_p13, ↓A_p15, ↓A_p16, ↓A_p19, ↓A_p20, ↓A_p21, ↓A_p22, ↓A_p23, ↓A_p25, ↓A_p26, ↓A_p28, ↓A_p29, ↓A_p31, ↓A_p32, ↓A_p34, ↓A_p36, ↓A_p37, ↓A_p38, ↓A_p39, ↓A_p41, ↓A_p42, ↓A_p43, ↓A_p44, ↓A_p61, ↓A_p62, ↓A_p63, ↓A_p65, ↓A_p66, ↓A_p67, ↓A_p68, ↓A_p69, ↓A_p70, ↓A_pN, ↓A_pT, ↓L_iinc2, ↓r_goto, ↓J_X2_addThing_7, ↓F_g1_3, ↓F_g17_3, ↓r_dupI, ↓r_dupR, ↓r_iadd, ↓F_p1_1, ↓F_p17_1, ↓r_ireturn, ↓U_X2_addThing_0, ↓U_X2_addThing_7, ↓U_X2_addThing_27, ↓zthen_v, ↓zthen_0, zU_eq, zU_nc, zU_nj]
  rfl
def giveW (σ : zM) (t p : Int) : zM := zU (if σ 1 4 = t then mend σ else σ) 7 t p
set_option maxRecDepth 20000 in
theorem c_X2_giveWhole {σ : zM} {t p : Int} (h4 : -1 ≤ σ 1 4 ∧ σ 1 4 < 6) (ht : 0 ≤ t ∧ t < 6) : zcall 14 [vR 1, vI t, vI p] σ = some (none, giveW σ t p) := by
  rw [S_X2_giveWhole]
  unfold giveW
  by_cases h : σ 1 4 = t
  · rw [if_pos h]
    simp (disch := first | exact z_tt rfl | assumption | omega | (simp (disch := omega) only [zU_eq, zU_nc, zU_nj]; omega)) only [↓L_ald_n0, ↓F_g1_4, ↓F_g17_4, ↓L_ild_n1, ↓r_icne_t, ↓r_icne_f, ↓J_X2_giveWhole_12, ↓I_X2_mendCut_1, ↓I_X2_mendCut_17, ↓F_g1_3, ↓F_g17_3, ↓L_ild_n2, ↓A_p3, ↓A_p4, ↓A_p5, ↓A_p6, ↓A_p7, ↓A_p9, ↓A_p10, ↓A_p12, ↓A_p13, ↓A_p15, ↓A_p16, ↓A_p19, ↓A_p20, ↓A_p21, ↓A_p22, ↓A_p23, ↓A_p25, ↓A_p26, ↓A_p28, ↓A_p29, ↓A_p31, ↓A_p32, ↓A_p34, ↓A_p36, ↓A_p37, ↓A_p38, ↓A_p39, ↓A_p41, ↓A_p42, ↓A_p43, ↓A_p44, ↓A_p61, ↓A_p62, ↓A_p63, ↓A_p65, ↓A_p66, ↓A_p67, ↓A_p68, ↓A_p69, ↓A_p70, ↓A_pN, ↓A_pT, ↓r_return, ↓U_X2_giveWhole_0, ↓U_X2_giveWhole_12, ↓zthen_v, ↓zthen_0, zU_eq, zU_nc, zU_nj, c_X2_mendCut]
  · rw [if_neg h]
    simp (disch := first | exact z_tt rfl | assumption | omega | (simp (disch := omega) only [zU_eq, zU_nc, zU_nj]; omega)) only [↓L_ald_n0, ↓F_g1_4, ↓F_g17_4, ↓L_ild_n1, ↓r_icne_t, ↓r_icne_f, ↓J_X2_giveWhole_12, ↓I_X2_mendCut_1, ↓I_X2_mendCut_17, ↓F_g1_3, ↓F_g17_3, ↓L_ild_n2, ↓A_p3, ↓A_p4, ↓A_p5, ↓A_p6, ↓A_p7, ↓A_p9, ↓A_p10, ↓A_p12, ↓A_p13, ↓A_p15, ↓A_p16, ↓A_p19, ↓A_p20, ↓A_p21, ↓A_p22, ↓A_p23, ↓A_p25, ↓A_p26, ↓A_p28, ↓A_p29, ↓A_p31, ↓A_p32, ↓A_p34, ↓A_p36, ↓A_p37, ↓A_p38, ↓A_p39, ↓A_p41, ↓A_p42, ↓A_p43, ↓A_p44, ↓A_p61, ↓A_p62, ↓A_p63, ↓A_p65, ↓A_p66, ↓A_p67, ↓A_p68, ↓A_p69, ↓A_p70, ↓A_pN, ↓A_pT, ↓r_return, ↓U_X2_giveWhole_0, ↓U_X2_giveWhole_12, ↓zthen_v, ↓zthen_0, zU_eq, zU_nc, zU_nj, c_X2_mendCut]
def cutT (σ : zM) (t p up low : Int) : zM := zU (zU (zU (zU σ 1 4 t) 1 5 p) 1 6 (lowT up low 0)) 1 7 (lowT up low 1)
set_option maxRecDepth 20000 in
theorem c_X2_cutThing {σ : zM} {t p up low : Int} (ha : 0 ≤ up ∧ up < 4611686018427387904) (hb : 0 ≤ low ∧ low < 4611686018427387904) : zcall 15 [vR 1, vI t, vI p, vL up, vL low] σ = some (none, cutT σ t p up low) := by
  rw [S_X2_cutThing]
  simp (disch := first | exact z_tt rfl | assumption | omega | (simp (disch := omega) only [zU_eq, zU_nc, zU_nj]; omega)) only [↓L_ald_n0, ↓L_ild_n1, ↓F_p1_4, ↓F_p17_4, ↓L_ild_n2, ↓F_p1_5, ↓F_p17_5, ↓L_lld_n3, ↓L_lld5, ↓r_iconst, ↓I_X6_inLowestTerms, ↓F_p1_6, ↓F_p17_6, ↓F_p1_7, ↓F_p17_7, ↓r_return, ↓U_X2_cutThing_0, ↓zthen_v, ↓zthen_0, zU_eq, zU_nc, zU_nj, c_X6_inLowestTerms]
  rfl
def divB (σ : zM) : zM := if σ 33 5 < 0 then zCpy (mend σ) 34 0 7 0 6 else cutT (zCpy (mend σ) 34 0 7 0 6) (σ 33 5) (σ 33 3) (σ 33 6) (σ 33 7)
theorem zCpy_nc (σ : zM) (a sp d dp n c j : Int) (h : c < d ∨ d < c) : zCpy σ a sp d dp n c j = σ c j := by unfold zCpy; rw [if_neg (by omega)]
theorem zCpy_in (σ : zM) (a sp d dp n j : Int) (h : dp ≤ j ∧ j < dp + n) : zCpy σ a sp d dp n d j = σ a (sp + (j - dp)) := by unfold zCpy; rw [if_pos ⟨rfl, h⟩]
theorem zCpy_out (σ : zM) (a sp d dp n j : Int) (h : j < dp ∨ dp + n ≤ j) : zCpy σ a sp d dp n d j = σ d j := by unfold zCpy; rw [if_neg (by omega)]
theorem mend_nc (σ : zM) (c j : Int) (h : c < 1 ∨ 1 < c) : mend σ c j = σ c j := by
  unfold mend
  rw [zU_nc _ _ _ _ _ _ h, zU_nc _ _ _ _ _ _ h, zU_nc _ _ _ _ _ _ h, zU_nc _ _ _ _ _ _ h]
set_option maxRecDepth 20000 in
theorem c_X2_divideBy {σ : zM} (h5 : -1 ≤ σ 33 5 ∧ σ 33 5 < 6) (ha : 0 ≤ σ 33 6 ∧ σ 33 6 < 4611686018427387904) (hb : 0 ≤ σ 33 7 ∧ σ 33 7 < 4611686018427387904) : zcall 16 [vR 1, vR 33] σ = some (none, divB σ) := by
  rw [S_X2_divideBy]
  have e5 : zCpy (mend σ) 34 0 7 0 6 33 5 = σ 33 5 := by rw [zCpy_nc _ _ _ _ _ _ _ _ (by omega), mend_nc _ _ _ (by omega)]
  have e3 : zCpy (mend σ) 34 0 7 0 6 33 3 = σ 33 3 := by rw [zCpy_nc _ _ _ _ _ _ _ _ (by omega), mend_nc _ _ _ (by omega)]
  have e6 : zCpy (mend σ) 34 0 7 0 6 33 6 = σ 33 6 := by rw [zCpy_nc _ _ _ _ _ _ _ _ (by omega), mend_nc _ _ _ (by omega)]
  have e7 : zCpy (mend σ) 34 0 7 0 6 33 7 = σ 33 7 := by rw [zCpy_nc _ _ _ _ _ _ _ _ (by omega), mend_nc _ _ _ (by omega)]
  unfold divB
  by_cases h : σ 33 5 < 0
  · rw [if_pos h]
    simp (disch := first | exact z_tt rfl | assumption | omega | (simp (disch := omega) only [zU_eq, zU_nc, zU_nj]; omega)) only [↓L_ald_n0, ↓I_X2_mendCut_1, ↓I_X2_mendCut_17, ↓L_ald_n1, ↓F_g33_0, ↓r_iconst, ↓F_g1_3, ↓F_g17_3, ↓r_bipush, ↓A_c6, ↓A_c5, ↓A_c8, ↓A_c82, ↓A_c60, ↓A_c360, ↓F_g33_5, ↓r_iflt_t, ↓r_iflt_f, ↓J_X2_divideBy_46, ↓F_g33_3, ↓F_g33_6, ↓F_g33_7, ↓I_X2_cutThing_1, ↓I_X2_cutThing_17, ↓r_return, ↓U_X2_divideBy_0, ↓U_X2_divideBy_46, ↓zthen_v, ↓zthen_0, zU_eq, zU_nc, zU_nj, c_X2_mendCut]
  · rw [if_neg h]
    simp (disch := first | exact z_tt rfl | assumption | omega | (simp (disch := omega) only [zU_eq, zU_nc, zU_nj]; omega)) only [↓L_ald_n0, ↓I_X2_mendCut_1, ↓I_X2_mendCut_17, ↓L_ald_n1, ↓F_g33_0, ↓r_iconst, ↓F_g1_3, ↓F_g17_3, ↓r_bipush, ↓A_c6, ↓A_c5, ↓A_c8, ↓A_c82, ↓A_c60, ↓A_c360, ↓F_g33_5, ↓r_iflt_t, ↓r_iflt_f, ↓J_X2_divideBy_46, ↓F_g33_3, ↓F_g33_6, ↓F_g33_7, ↓I_X2_cutThing_1, ↓I_X2_cutThing_17, ↓r_return, ↓U_X2_divideBy_0, ↓U_X2_divideBy_46, ↓zthen_v, ↓zthen_0, zU_eq, zU_nc, zU_nj, c_X2_mendCut, e5, e3, e6, e7, c_X2_cutThing]
set_option maxRecDepth 20000 in
theorem c_X2_cuts {σ : zM} (h5 : -1 ≤ σ 1 4 ∧ σ 1 4 < 6) : zcall 21 [vR 1] σ = some (some (vI (if σ 1 4 < 0 then 0 else 1)), σ) := by
  rw [S_X2_cuts]
  by_cases h : σ 1 4 < 0
  · rw [if_pos h]
    simp (disch := first | exact z_tt rfl | assumption | omega | (simp (disch := omega) only [zU_eq, zU_nc, zU_nj]; omega)) only [↓L_ald_n0, ↓F_g1_4, ↓F_g17_4, ↓r_iflt_t, ↓r_iflt_f, ↓J_X2_cuts_11, ↓r_iconst, ↓r_goto, ↓J_X2_cuts_12, ↓r_ireturn, ↓U_X2_cuts_0, ↓U_X2_cuts_11, ↓U_X2_cuts_12, ↓zthen_v, ↓zthen_0, zU_eq, zU_nc, zU_nj]
  · rw [if_neg h]
    simp (disch := first | exact z_tt rfl | assumption | omega | (simp (disch := omega) only [zU_eq, zU_nc, zU_nj]; omega)) only [↓L_ald_n0, ↓F_g1_4, ↓F_g17_4, ↓r_iflt_t, ↓r_iflt_f, ↓J_X2_cuts_11, ↓r_iconst, ↓r_goto, ↓J_X2_cuts_12, ↓r_ireturn, ↓U_X2_cuts_0, ↓U_X2_cuts_11, ↓U_X2_cuts_12, ↓zthen_v, ↓zthen_0, zU_eq, zU_nc, zU_nj]
/-- how many of j .. hold -/
def cntI (q : Int → Bool) : Int → Nat → Int
  | _, 0 => 0
  | j, n + 1 => (if q j then 1 else 0) + cntI q (j + 1) n
set_option maxRecDepth 20000 in
theorem c_X2_unheld_loop {σ : zM} (hm : σ 1 1 ≤ 6) (hF : ∀ t : Int, 0 ≤ t → t < 6 → -1 ≤ σ 7 t ∧ σ 7 t < 4) : ∀ (n : Nat) (j s : Int), 0 ≤ j → j + n = σ 1 1 → zres 22 C_X2_unheld_4 [vR 1, vI s, vI j] [] σ = some (some (vI (s + cntI (fun t => decide (σ 7 t = -1)) j n)), σ) := by
  intro n
  induction n with
  | zero =>
    intro j s hj hn
    simp (disch := first | exact z_tt rfl | assumption | omega | (simp (disch := omega) only [zU_eq, zU_nc, zU_nj]; omega)) only [↓r_iconst, ↓L_ist_n1, ↓L_ist_n1L, ↓L_ist_n2, ↓L_ist_n2L, ↓L_ild_n2, ↓L_ald_n0, ↓F_g1_1, ↓F_g17_1, ↓r_icge_t, ↓r_icge_f, ↓J_X2_unheld_31, ↓F_g1_3, ↓F_g17_3, ↓A_g3, ↓A_g4, ↓A_g5, ↓A_g6, ↓A_g7, ↓A_g9, ↓A_g10, ↓A_g12, ↓A_g13, ↓A_g15, ↓A_g16, ↓A_g19, ↓A_g20, ↓A_g21, ↓A_g22, ↓A_g23, ↓A_g25, ↓A_g26, ↓A_g28, ↓A_g29, ↓A_g31, ↓A_g32, ↓A_g34, ↓A_g36, ↓A_g37, ↓A_g38, ↓A_g39, ↓A_g41, ↓A_g42, ↓A_g43, ↓A_g44, ↓A_g61, ↓A_g62, ↓A_g63, ↓A_g65, ↓A_g66, ↓A_g67, ↓A_g68, ↓A_g69, ↓A_g70, ↓A_gN, ↓A_gT, ↓A_gC, ↓r_icne_t, ↓r_icne_f, ↓J_X2_unheld_25, ↓L_iinc1, ↓L_iinc2, ↓r_goto, ↓J_X2_unheld_4, ↓L_ild_n1, ↓r_ireturn, ↓U_X2_unheld_0, ↓U_X2_unheld_4, ↓U_X2_unheld_25, ↓U_X2_unheld_31, ↓zthen_v, ↓zthen_0, zU_eq, zU_nc, zU_nj, cntI, Int.add_zero]
  | succ n ih =>
    intro j s hj hn
    have hb := hF j hj (by omega)
    rw [U_X2_unheld_4]
    by_cases h : σ 7 j = -1
    · simp (disch := first | exact z_tt rfl | assumption | omega | (simp (disch := omega) only [zU_eq, zU_nc, zU_nj]; omega)) only [↓r_iconst, ↓L_ist_n1, ↓L_ist_n1L, ↓L_ist_n2, ↓L_ist_n2L, ↓L_ild_n2, ↓L_ald_n0, ↓F_g1_1, ↓F_g17_1, ↓r_icge_t, ↓r_icge_f, ↓J_X2_unheld_31, ↓F_g1_3, ↓F_g17_3, ↓A_g3, ↓A_g4, ↓A_g5, ↓A_g6, ↓A_g7, ↓A_g9, ↓A_g10, ↓A_g12, ↓A_g13, ↓A_g15, ↓A_g16, ↓A_g19, ↓A_g20, ↓A_g21, ↓A_g22, ↓A_g23, ↓A_g25, ↓A_g26, ↓A_g28, ↓A_g29, ↓A_g31, ↓A_g32, ↓A_g34, ↓A_g36, ↓A_g37, ↓A_g38, ↓A_g39, ↓A_g41, ↓A_g42, ↓A_g43, ↓A_g44, ↓A_g61, ↓A_g62, ↓A_g63, ↓A_g65, ↓A_g66, ↓A_g67, ↓A_g68, ↓A_g69, ↓A_g70, ↓A_gN, ↓A_gT, ↓A_gC, ↓r_icne_t, ↓r_icne_f, ↓J_X2_unheld_25, ↓L_iinc1, ↓L_iinc2, ↓r_goto, ↓J_X2_unheld_4, ↓L_ild_n1, ↓r_ireturn, ↓U_X2_unheld_0, ↓U_X2_unheld_25, ↓U_X2_unheld_31, ↓zthen_v, ↓zthen_0, zU_eq, zU_nc, zU_nj]
      rw [ih (j + 1) _ (by omega) (by omega), cntI, if_pos (by simpa using h), Int.add_assoc]
    · simp (disch := first | exact z_tt rfl | assumption | omega | (simp (disch := omega) only [zU_eq, zU_nc, zU_nj]; omega)) only [↓r_iconst, ↓L_ist_n1, ↓L_ist_n1L, ↓L_ist_n2, ↓L_ist_n2L, ↓L_ild_n2, ↓L_ald_n0, ↓F_g1_1, ↓F_g17_1, ↓r_icge_t, ↓r_icge_f, ↓J_X2_unheld_31, ↓F_g1_3, ↓F_g17_3, ↓A_g3, ↓A_g4, ↓A_g5, ↓A_g6, ↓A_g7, ↓A_g9, ↓A_g10, ↓A_g12, ↓A_g13, ↓A_g15, ↓A_g16, ↓A_g19, ↓A_g20, ↓A_g21, ↓A_g22, ↓A_g23, ↓A_g25, ↓A_g26, ↓A_g28, ↓A_g29, ↓A_g31, ↓A_g32, ↓A_g34, ↓A_g36, ↓A_g37, ↓A_g38, ↓A_g39, ↓A_g41, ↓A_g42, ↓A_g43, ↓A_g44, ↓A_g61, ↓A_g62, ↓A_g63, ↓A_g65, ↓A_g66, ↓A_g67, ↓A_g68, ↓A_g69, ↓A_g70, ↓A_gN, ↓A_gT, ↓A_gC, ↓r_icne_t, ↓r_icne_f, ↓J_X2_unheld_25, ↓L_iinc1, ↓L_iinc2, ↓r_goto, ↓J_X2_unheld_4, ↓L_ild_n1, ↓r_ireturn, ↓U_X2_unheld_0, ↓U_X2_unheld_25, ↓U_X2_unheld_31, ↓zthen_v, ↓zthen_0, zU_eq, zU_nc, zU_nj]
      rw [ih (j + 1) _ (by omega) (by omega), cntI, if_neg (by simpa using h), Int.zero_add]
set_option maxRecDepth 20000 in
theorem c_X2_unheld {σ : zM} (hW : W1 σ) : zcall 22 [vR 1] σ = some (some (vI (cntI (fun t => decide (σ 7 t = -1)) 0 (σ 1 1).toNat)), σ) := by
  obtain ⟨w0, w1, w2, w3, w4, w5, w6⟩ := hW
  rw [S_X2_unheld]
  simp (disch := first | exact z_tt rfl | assumption | omega | (simp (disch := omega) only [zU_eq, zU_nc, zU_nj]; omega)) only [↓r_iconst, ↓L_ist_n1, ↓L_ist_n1L, ↓L_ist_n2, ↓L_ist_n2L, ↓L_ild_n2, ↓L_ald_n0, ↓F_g1_1, ↓F_g17_1, ↓r_icge_t, ↓r_icge_f, ↓J_X2_unheld_31, ↓F_g1_3, ↓F_g17_3, ↓A_g3, ↓A_g4, ↓A_g5, ↓A_g6, ↓A_g7, ↓A_g9, ↓A_g10, ↓A_g12, ↓A_g13, ↓A_g15, ↓A_g16, ↓A_g19, ↓A_g20, ↓A_g21, ↓A_g22, ↓A_g23, ↓A_g25, ↓A_g26, ↓A_g28, ↓A_g29, ↓A_g31, ↓A_g32, ↓A_g34, ↓A_g36, ↓A_g37, ↓A_g38, ↓A_g39, ↓A_g41, ↓A_g42, ↓A_g43, ↓A_g44, ↓A_g61, ↓A_g62, ↓A_g63, ↓A_g65, ↓A_g66, ↓A_g67, ↓A_g68, ↓A_g69, ↓A_g70, ↓A_gN, ↓A_gT, ↓A_gC, ↓r_icne_t, ↓r_icne_f, ↓J_X2_unheld_25, ↓L_iinc1, ↓L_iinc2, ↓r_goto, ↓J_X2_unheld_4, ↓L_ild_n1, ↓r_ireturn, ↓U_X2_unheld_0, ↓U_X2_unheld_25, ↓U_X2_unheld_31, ↓zthen_v, ↓zthen_0, zU_eq, zU_nc, zU_nj]
  rw [c_X2_unheld_loop w1.2 w3 (σ 1 1).toNat 0 0 (by omega) (by omega), Int.zero_add]
def prt (σ : zM) (p t : Int) : Int := if σ 1 4 = t ∧ σ 1 5 = p then σ 1 6 else if σ 7 t = p then (if σ 1 4 = t then σ 1 7 - σ 1 6 else σ 1 7) else 0
theorem prt_bd {σ : zM} (hW : W1 σ) (p t : Int) : 0 ≤ prt σ p t ∧ prt σ p t ≤ 200000 := by
  obtain ⟨w0, w1, w2, w3, w4, w5, w6⟩ := hW
  unfold prt
  repeat' split
  all_goals omega
set_option maxRecDepth 20000 in
theorem c_X2_partsOf {σ : zM} {p t : Int} (hW : W1 σ) (hp : 0 ≤ p ∧ p < 4) (ht : 0 ≤ t ∧ t < 6) : zcall 17 [vR 1, vI p, vI t] σ = some (some (vL (prt σ p t)), σ) := by
  obtain ⟨w0, w1, w2, w3, w4, w5, w6⟩ := hW
  have hb := w3 t ht.1 ht.2
  rw [S_X2_partsOf]
  unfold prt
  by_cases h1 : σ 1 4 = t
  · by_cases h2 : σ 1 5 = p
    · rw [if_pos ⟨h1, h2⟩]
      simp (disch := first | exact z_tt rfl | assumption | omega | (simp (disch := omega) only [zU_eq, zU_nc, zU_nj]; omega)) only [↓L_ald_n0, ↓F_g1_4, ↓F_g17_4, ↓L_ild_n2, ↓r_icne_t, ↓r_icne_f, ↓J_X2_partsOf_21, ↓F_g1_5, ↓F_g17_5, ↓L_ild_n1, ↓F_g1_6, ↓F_g17_6, ↓r_lreturn, ↓F_g1_3, ↓F_g17_3, ↓A_g3, ↓A_g4, ↓A_g5, ↓A_g6, ↓A_g7, ↓A_g9, ↓A_g10, ↓A_g12, ↓A_g13, ↓A_g15, ↓A_g16, ↓A_g19, ↓A_g20, ↓A_g21, ↓A_g22, ↓A_g23, ↓A_g25, ↓A_g26, ↓A_g28, ↓A_g29, ↓A_g31, ↓A_g32, ↓A_g34, ↓A_g36, ↓A_g37, ↓A_g38, ↓A_g39, ↓A_g41, ↓A_g42, ↓A_g43, ↓A_g44, ↓A_g61, ↓A_g62, ↓A_g63, ↓A_g65, ↓A_g66, ↓A_g67, ↓A_g68, ↓A_g69, ↓A_g70, ↓A_gN, ↓A_gT, ↓A_gC, ↓r_iceq_t, ↓r_iceq_f, ↓J_X2_partsOf_33, ↓r_lconst, ↓J_X2_partsOf_53, ↓F_g1_7, ↓F_g17_7, ↓r_lsub, ↓r_goto, ↓J_X2_partsOf_57, ↓U_X2_partsOf_0, ↓U_X2_partsOf_21, ↓U_X2_partsOf_33, ↓U_X2_partsOf_53, ↓U_X2_partsOf_57, ↓zthen_v, ↓zthen_0, zU_eq, zU_nc, zU_nj]
    · rw [if_neg (fun q => h2 q.2)]
      by_cases h3 : σ 7 t = p
      · rw [if_pos h3, if_pos h1]
        simp (disch := first | exact z_tt rfl | assumption | omega | (simp (disch := omega) only [zU_eq, zU_nc, zU_nj]; omega)) only [↓L_ald_n0, ↓F_g1_4, ↓F_g17_4, ↓L_ild_n2, ↓r_icne_t, ↓r_icne_f, ↓J_X2_partsOf_21, ↓F_g1_5, ↓F_g17_5, ↓L_ild_n1, ↓F_g1_6, ↓F_g17_6, ↓r_lreturn, ↓F_g1_3, ↓F_g17_3, ↓A_g3, ↓A_g4, ↓A_g5, ↓A_g6, ↓A_g7, ↓A_g9, ↓A_g10, ↓A_g12, ↓A_g13, ↓A_g15, ↓A_g16, ↓A_g19, ↓A_g20, ↓A_g21, ↓A_g22, ↓A_g23, ↓A_g25, ↓A_g26, ↓A_g28, ↓A_g29, ↓A_g31, ↓A_g32, ↓A_g34, ↓A_g36, ↓A_g37, ↓A_g38, ↓A_g39, ↓A_g41, ↓A_g42, ↓A_g43, ↓A_g44, ↓A_g61, ↓A_g62, ↓A_g63, ↓A_g65, ↓A_g66, ↓A_g67, ↓A_g68, ↓A_g69, ↓A_g70, ↓A_gN, ↓A_gT, ↓A_gC, ↓r_iceq_t, ↓r_iceq_f, ↓J_X2_partsOf_33, ↓r_lconst, ↓J_X2_partsOf_53, ↓F_g1_7, ↓F_g17_7, ↓r_lsub, ↓r_goto, ↓J_X2_partsOf_57, ↓U_X2_partsOf_0, ↓U_X2_partsOf_21, ↓U_X2_partsOf_33, ↓U_X2_partsOf_53, ↓U_X2_partsOf_57, ↓zthen_v, ↓zthen_0, zU_eq, zU_nc, zU_nj]
      · rw [if_neg h3]
        simp (disch := first | exact z_tt rfl | assumption | omega | (simp (disch := omega) only [zU_eq, zU_nc, zU_nj]; omega)) only [↓L_ald_n0, ↓F_g1_4, ↓F_g17_4, ↓L_ild_n2, ↓r_icne_t, ↓r_icne_f, ↓J_X2_partsOf_21, ↓F_g1_5, ↓F_g17_5, ↓L_ild_n1, ↓F_g1_6, ↓F_g17_6, ↓r_lreturn, ↓F_g1_3, ↓F_g17_3, ↓A_g3, ↓A_g4, ↓A_g5, ↓A_g6, ↓A_g7, ↓A_g9, ↓A_g10, ↓A_g12, ↓A_g13, ↓A_g15, ↓A_g16, ↓A_g19, ↓A_g20, ↓A_g21, ↓A_g22, ↓A_g23, ↓A_g25, ↓A_g26, ↓A_g28, ↓A_g29, ↓A_g31, ↓A_g32, ↓A_g34, ↓A_g36, ↓A_g37, ↓A_g38, ↓A_g39, ↓A_g41, ↓A_g42, ↓A_g43, ↓A_g44, ↓A_g61, ↓A_g62, ↓A_g63, ↓A_g65, ↓A_g66, ↓A_g67, ↓A_g68, ↓A_g69, ↓A_g70, ↓A_gN, ↓A_gT, ↓A_gC, ↓r_iceq_t, ↓r_iceq_f, ↓J_X2_partsOf_33, ↓r_lconst, ↓J_X2_partsOf_53, ↓F_g1_7, ↓F_g17_7, ↓r_lsub, ↓r_goto, ↓J_X2_partsOf_57, ↓U_X2_partsOf_0, ↓U_X2_partsOf_21, ↓U_X2_partsOf_33, ↓U_X2_partsOf_53, ↓U_X2_partsOf_57, ↓zthen_v, ↓zthen_0, zU_eq, zU_nc, zU_nj]
  · rw [if_neg (fun q => h1 q.1)]
    by_cases h3 : σ 7 t = p
    · rw [if_pos h3, if_neg h1]
      simp (disch := first | exact z_tt rfl | assumption | omega | (simp (disch := omega) only [zU_eq, zU_nc, zU_nj]; omega)) only [↓L_ald_n0, ↓F_g1_4, ↓F_g17_4, ↓L_ild_n2, ↓r_icne_t, ↓r_icne_f, ↓J_X2_partsOf_21, ↓F_g1_5, ↓F_g17_5, ↓L_ild_n1, ↓F_g1_6, ↓F_g17_6, ↓r_lreturn, ↓F_g1_3, ↓F_g17_3, ↓A_g3, ↓A_g4, ↓A_g5, ↓A_g6, ↓A_g7, ↓A_g9, ↓A_g10, ↓A_g12, ↓A_g13, ↓A_g15, ↓A_g16, ↓A_g19, ↓A_g20, ↓A_g21, ↓A_g22, ↓A_g23, ↓A_g25, ↓A_g26, ↓A_g28, ↓A_g29, ↓A_g31, ↓A_g32, ↓A_g34, ↓A_g36, ↓A_g37, ↓A_g38, ↓A_g39, ↓A_g41, ↓A_g42, ↓A_g43, ↓A_g44, ↓A_g61, ↓A_g62, ↓A_g63, ↓A_g65, ↓A_g66, ↓A_g67, ↓A_g68, ↓A_g69, ↓A_g70, ↓A_gN, ↓A_gT, ↓A_gC, ↓r_iceq_t, ↓r_iceq_f, ↓J_X2_partsOf_33, ↓r_lconst, ↓J_X2_partsOf_53, ↓F_g1_7, ↓F_g17_7, ↓r_lsub, ↓r_goto, ↓J_X2_partsOf_57, ↓U_X2_partsOf_0, ↓U_X2_partsOf_21, ↓U_X2_partsOf_33, ↓U_X2_partsOf_53, ↓U_X2_partsOf_57, ↓zthen_v, ↓zthen_0, zU_eq, zU_nc, zU_nj]
    · rw [if_neg h3]
      simp (disch := first | exact z_tt rfl | assumption | omega | (simp (disch := omega) only [zU_eq, zU_nc, zU_nj]; omega)) only [↓L_ald_n0, ↓F_g1_4, ↓F_g17_4, ↓L_ild_n2, ↓r_icne_t, ↓r_icne_f, ↓J_X2_partsOf_21, ↓F_g1_5, ↓F_g17_5, ↓L_ild_n1, ↓F_g1_6, ↓F_g17_6, ↓r_lreturn, ↓F_g1_3, ↓F_g17_3, ↓A_g3, ↓A_g4, ↓A_g5, ↓A_g6, ↓A_g7, ↓A_g9, ↓A_g10, ↓A_g12, ↓A_g13, ↓A_g15, ↓A_g16, ↓A_g19, ↓A_g20, ↓A_g21, ↓A_g22, ↓A_g23, ↓A_g25, ↓A_g26, ↓A_g28, ↓A_g29, ↓A_g31, ↓A_g32, ↓A_g34, ↓A_g36, ↓A_g37, ↓A_g38, ↓A_g39, ↓A_g41, ↓A_g42, ↓A_g43, ↓A_g44, ↓A_g61, ↓A_g62, ↓A_g63, ↓A_g65, ↓A_g66, ↓A_g67, ↓A_g68, ↓A_g69, ↓A_g70, ↓A_gN, ↓A_gT, ↓A_gC, ↓r_iceq_t, ↓r_iceq_f, ↓J_X2_partsOf_33, ↓r_lconst, ↓J_X2_partsOf_53, ↓F_g1_7, ↓F_g17_7, ↓r_lsub, ↓r_goto, ↓J_X2_partsOf_57, ↓U_X2_partsOf_0, ↓U_X2_partsOf_21, ↓U_X2_partsOf_33, ↓U_X2_partsOf_53, ↓U_X2_partsOf_57, ↓zthen_v, ↓zthen_0, zU_eq, zU_nc, zU_nj]
theorem zshp_pts {p : Int} (h : 0 ≤ p ∧ p < 4) : zshp (3 + p) = (0, 6) := by
  rcases (show p = 0 ∨ p = 1 ∨ p = 2 ∨ p = 3 by omega) with rfl | rfl | rfl | rfl <;> rfl
def allP (σ : zM) (p : Int) : Int := sumI (σ (3 + p)) 0 (σ 1 1).toNat
set_option maxRecDepth 20000 in
theorem c_X2_total {σ : zM} {p : Int} (hW : W1 σ) (hp : 0 ≤ p ∧ p < 4) : zcall 18 [vR 1, vI p] σ = some (some (vI (allP σ p)), σ) := by
  obtain ⟨w0, w1, w2, w3, w4, w5, w6⟩ := hW
  have hs := zshp_pts hp
  rw [S_X2_total]
  simp (disch := first | exact z_tt rfl | assumption | omega | (simp (disch := omega) only [zU_eq, zU_nc, zU_nj]; omega)) only [↓L_ald_n0, ↓F_g1_2, ↓F_g17_2, ↓L_ild_n1, ↓A_a2, ↓A_a18, ↓A_a40, ↓A_a47, ↓F_g1_1, ↓F_g17_1, ↓I_X6_sumOf, ↓r_ireturn, ↓U_X2_total_0, ↓zthen_v, ↓zthen_0, zU_eq, zU_nc, zU_nj, c_X6_sumOf]
  rfl
def wor (σ : zM) (b w : Int) : Int := sumI (fun t => σ (3 + b) t * prt σ w t) 0 (σ 1 1).toNat
set_option maxRecDepth 20000 in
theorem c_X2_worth_loop {σ : zM} {b w : Int} (hW : W1 σ) (hb : 0 ≤ b ∧ b < 4) (hw : 0 ≤ w ∧ w < 4) : ∀ (n : Nat) (j s : Int), 0 ≤ j → j + n = σ 1 1 → zres 19 C_X2_worth_5 [vR 1, vI b, vI w, vL s, vU, vI j] [] σ = some (some (vL (s + sumI (fun t => σ (3 + b) t * prt σ w t) j n)), σ) := by
  have hW0 := hW
  obtain ⟨w0, w1, w2, w3, w4, w5, w6⟩ := hW0
  intro n
  induction n with
  | zero =>
    intro j s hj hn
    simp (disch := first | exact z_tt rfl | assumption | omega | (simp (disch := omega) only [zU_eq, zU_nc, zU_nj]; omega)) only [↓r_lconst, ↓L_lst_n3, ↓L_lst_n3L, ↓r_iconst, ↓L_ist5, ↓L_ist5L, ↓L_ild5, ↓L_ald_n0, ↓F_g1_1, ↓F_g17_1, ↓r_icge_t, ↓r_icge_f, ↓J_X2_worth_41, ↓L_lld_n3, ↓F_g1_2, ↓F_g17_2, ↓L_ild_n1, ↓A_a2, ↓A_a18, ↓A_a40, ↓A_a47, ↓A_g3, ↓A_g4, ↓A_g5, ↓A_g6, ↓A_g7, ↓A_g9, ↓A_g10, ↓A_g12, ↓A_g13, ↓A_g15, ↓A_g16, ↓A_g19, ↓A_g20, ↓A_g21, ↓A_g22, ↓A_g23, ↓A_g25, ↓A_g26, ↓A_g28, ↓A_g29, ↓A_g31, ↓A_g32, ↓A_g34, ↓A_g36, ↓A_g37, ↓A_g38, ↓A_g39, ↓A_g41, ↓A_g42, ↓A_g43, ↓A_g44, ↓A_g61, ↓A_g62, ↓A_g63, ↓A_g65, ↓A_g66, ↓A_g67, ↓A_g68, ↓A_g69, ↓A_g70, ↓A_gN, ↓A_gT, ↓A_gC, ↓r_i2l, ↓L_ild_n2, ↓I_X2_partsOf_1, ↓I_X2_partsOf_17, ↓r_lmul, ↓r_ladd, ↓L_iinc5, ↓r_goto, ↓J_X2_worth_5, ↓r_lreturn, ↓U_X2_worth_0, ↓U_X2_worth_5, ↓U_X2_worth_41, ↓zthen_v, ↓zthen_0, zU_eq, zU_nc, zU_nj, sumI, Int.add_zero]
  | succ n ih =>
    intro j s hj hn
    have hb2 := w2 b j hb.1 hb.2 hj (by omega)
    have hj6 : j < 6 := by omega
    rw [U_X2_worth_5]
    simp (disch := first | exact z_tt rfl | assumption | omega | (simp (disch := omega) only [zU_eq, zU_nc, zU_nj]; omega)) only [↓r_lconst, ↓L_lst_n3, ↓L_lst_n3L, ↓r_iconst, ↓L_ist5, ↓L_ist5L, ↓L_ild5, ↓L_ald_n0, ↓F_g1_1, ↓F_g17_1, ↓r_icge_t, ↓r_icge_f, ↓J_X2_worth_41, ↓L_lld_n3, ↓F_g1_2, ↓F_g17_2, ↓L_ild_n1, ↓A_a2, ↓A_a18, ↓A_a40, ↓A_a47, ↓A_g3, ↓A_g4, ↓A_g5, ↓A_g6, ↓A_g7, ↓A_g9, ↓A_g10, ↓A_g12, ↓A_g13, ↓A_g15, ↓A_g16, ↓A_g19, ↓A_g20, ↓A_g21, ↓A_g22, ↓A_g23, ↓A_g25, ↓A_g26, ↓A_g28, ↓A_g29, ↓A_g31, ↓A_g32, ↓A_g34, ↓A_g36, ↓A_g37, ↓A_g38, ↓A_g39, ↓A_g41, ↓A_g42, ↓A_g43, ↓A_g44, ↓A_g61, ↓A_g62, ↓A_g63, ↓A_g65, ↓A_g66, ↓A_g67, ↓A_g68, ↓A_g69, ↓A_g70, ↓A_gN, ↓A_gT, ↓A_gC, ↓r_i2l, ↓L_ild_n2, ↓I_X2_partsOf_1, ↓I_X2_partsOf_17, ↓r_lmul, ↓r_ladd, ↓L_iinc5, ↓r_goto, ↓J_X2_worth_5, ↓r_lreturn, ↓U_X2_worth_0, ↓U_X2_worth_41, ↓zthen_v, ↓zthen_0, zU_eq, zU_nc, zU_nj, c_X2_partsOf hW hw]
    rw [ih (j + 1) _ (by omega) (by omega), sumI, Int.add_assoc]
set_option maxRecDepth 20000 in
theorem c_X2_worth {σ : zM} {b w : Int} (hW : W1 σ) (hb : 0 ≤ b ∧ b < 4) (hw : 0 ≤ w ∧ w < 4) : zcall 19 [vR 1, vI b, vI w] σ = some (some (vL (wor σ b w)), σ) := by
  have hW0 := hW
  obtain ⟨w0, w1, w2, w3, w4, w5, w6⟩ := hW0
  rw [S_X2_worth]
  simp (disch := first | exact z_tt rfl | assumption | omega | (simp (disch := omega) only [zU_eq, zU_nc, zU_nj]; omega)) only [↓r_lconst, ↓L_lst_n3, ↓L_lst_n3L, ↓r_iconst, ↓L_ist5, ↓L_ist5L, ↓L_ild5, ↓L_ald_n0, ↓F_g1_1, ↓F_g17_1, ↓r_icge_t, ↓r_icge_f, ↓J_X2_worth_41, ↓L_lld_n3, ↓F_g1_2, ↓F_g17_2, ↓L_ild_n1, ↓A_a2, ↓A_a18, ↓A_a40, ↓A_a47, ↓A_g3, ↓A_g4, ↓A_g5, ↓A_g6, ↓A_g7, ↓A_g9, ↓A_g10, ↓A_g12, ↓A_g13, ↓A_g15, ↓A_g16, ↓A_g19, ↓A_g20, ↓A_g21, ↓A_g22, ↓A_g23, ↓A_g25, ↓A_g26, ↓A_g28, ↓A_g29, ↓A_g31, ↓A_g32, ↓A_g34, ↓A_g36, ↓A_g37, ↓A_g38, ↓A_g39, ↓A_g41, ↓A_g42, ↓A_g43, ↓A_g44, ↓A_g61, ↓A_g62, ↓A_g63, ↓A_g65, ↓A_g66, ↓A_g67, ↓A_g68, ↓A_g69, ↓A_g70, ↓A_gN, ↓A_gT, ↓A_gC, ↓r_i2l, ↓L_ild_n2, ↓I_X2_partsOf_1, ↓I_X2_partsOf_17, ↓r_lmul, ↓r_ladd, ↓L_iinc5, ↓r_goto, ↓J_X2_worth_5, ↓r_lreturn, ↓U_X2_worth_0, ↓U_X2_worth_41, ↓zthen_v, ↓zthen_0, zU_eq, zU_nc, zU_nj]
  rw [c_X2_worth_loop hW hb hw (σ 1 1).toNat 0 0 (by omega) (by omega), Int.zero_add]
  rfl
/-- the bits of those that hold -/
def bitI (q : Int → Bool) : Int → Int → Nat → Int
  | a, _, 0 => a
  | a, j, n + 1 => bitI q (if q j then iOr a (iShl 1 j) else a) (j + 1) n
set_option maxRecDepth 20000 in
theorem c_X2_bitsOf_loop {σ : zM} {p : Int} (hW : W1 σ) (hp : 0 ≤ p ∧ p < 4) : ∀ (n : Nat) (j s : Int), 0 ≤ j → j + n = σ 1 1 → zres 20 C_X2_bitsOf_4 [vR 1, vI p, vI s, vI j] [] σ = some (some (vI (bitI (fun t => decide (0 < prt σ p t)) s j n)), σ) := by
  have hW0 := hW
  obtain ⟨w0, w1, w2, w3, w4, w5, w6⟩ := hW0
  intro n
  induction n with
  | zero =>
    intro j s hj hn
    simp (disch := first | exact z_tt rfl | assumption | omega | (simp (disch := omega) only [zU_eq, zU_nc, zU_nj]; omega)) only [↓r_iconst, ↓L_ist_n2, ↓L_ist_n2L, ↓L_ist_n3, ↓L_ist_n3L, ↓L_ild_n3, ↓L_ald_n0, ↓F_g1_1, ↓F_g17_1, ↓r_icge_t, ↓r_icge_f, ↓J_X2_bitsOf_35, ↓L_ild_n1, ↓I_X2_partsOf_1, ↓I_X2_partsOf_17, ↓r_lconst, ↓r_ifle_t, ↓r_ifle_f, ↓J_X2_bitsOf_29, ↓r_lle_t, ↓r_lle_f, ↓L_ild_n2, ↓r_ishl, ↓r_ior, ↓L_iinc3, ↓r_goto, ↓J_X2_bitsOf_4, ↓r_ireturn, ↓U_X2_bitsOf_0, ↓U_X2_bitsOf_4, ↓U_X2_bitsOf_29, ↓U_X2_bitsOf_35, ↓zthen_v, ↓zthen_0, zU_eq, zU_nc, zU_nj, bitI]
  | succ n ih =>
    intro j s hj hn
    have hj6 : j < 6 := by omega
    have hb := prt_bd hW p j
    rw [U_X2_bitsOf_4]
    by_cases h : 0 < prt σ p j
    · simp (disch := first | exact z_tt rfl | assumption | omega | (simp (disch := omega) only [zU_eq, zU_nc, zU_nj]; omega)) only [↓r_iconst, ↓L_ist_n2, ↓L_ist_n2L, ↓L_ist_n3, ↓L_ist_n3L, ↓L_ild_n3, ↓L_ald_n0, ↓F_g1_1, ↓F_g17_1, ↓r_icge_t, ↓r_icge_f, ↓J_X2_bitsOf_35, ↓L_ild_n1, ↓I_X2_partsOf_1, ↓I_X2_partsOf_17, ↓r_lconst, ↓r_ifle_t, ↓r_ifle_f, ↓J_X2_bitsOf_29, ↓r_lle_t, ↓r_lle_f, ↓L_ild_n2, ↓r_ishl, ↓r_ior, ↓L_iinc3, ↓r_goto, ↓J_X2_bitsOf_4, ↓r_ireturn, ↓U_X2_bitsOf_0, ↓U_X2_bitsOf_29, ↓U_X2_bitsOf_35, ↓zthen_v, ↓zthen_0, zU_eq, zU_nc, zU_nj, c_X2_partsOf hW hp]
      rw [ih (j + 1) _ (by omega) (by omega), bitI, if_pos (by simpa using h)]
    · simp (disch := first | exact z_tt rfl | assumption | omega | (simp (disch := omega) only [zU_eq, zU_nc, zU_nj]; omega)) only [↓r_iconst, ↓L_ist_n2, ↓L_ist_n2L, ↓L_ist_n3, ↓L_ist_n3L, ↓L_ild_n3, ↓L_ald_n0, ↓F_g1_1, ↓F_g17_1, ↓r_icge_t, ↓r_icge_f, ↓J_X2_bitsOf_35, ↓L_ild_n1, ↓I_X2_partsOf_1, ↓I_X2_partsOf_17, ↓r_lconst, ↓r_ifle_t, ↓r_ifle_f, ↓J_X2_bitsOf_29, ↓r_lle_t, ↓r_lle_f, ↓L_ild_n2, ↓r_ishl, ↓r_ior, ↓L_iinc3, ↓r_goto, ↓J_X2_bitsOf_4, ↓r_ireturn, ↓U_X2_bitsOf_0, ↓U_X2_bitsOf_29, ↓U_X2_bitsOf_35, ↓zthen_v, ↓zthen_0, zU_eq, zU_nc, zU_nj, c_X2_partsOf hW hp]
      rw [ih (j + 1) _ (by omega) (by omega), bitI, if_neg (by simpa using h)]
def bitP (σ : zM) (p : Int) : Int := bitI (fun t => decide (0 < prt σ p t)) 0 0 (σ 1 1).toNat
set_option maxRecDepth 20000 in
theorem c_X2_bitsOf {σ : zM} {p : Int} (hW : W1 σ) (hp : 0 ≤ p ∧ p < 4) : zcall 20 [vR 1, vI p] σ = some (some (vI (bitP σ p)), σ) := by
  have hW0 := hW
  obtain ⟨w0, w1, w2, w3, w4, w5, w6⟩ := hW0
  rw [S_X2_bitsOf]
  simp (disch := first | exact z_tt rfl | assumption | omega | (simp (disch := omega) only [zU_eq, zU_nc, zU_nj]; omega)) only [↓r_iconst, ↓L_ist_n2, ↓L_ist_n2L, ↓L_ist_n3, ↓L_ist_n3L, ↓L_ild_n3, ↓L_ald_n0, ↓F_g1_1, ↓F_g17_1, ↓r_icge_t, ↓r_icge_f, ↓J_X2_bitsOf_35, ↓L_ild_n1, ↓I_X2_partsOf_1, ↓I_X2_partsOf_17, ↓r_lconst, ↓r_ifle_t, ↓r_ifle_f, ↓J_X2_bitsOf_29, ↓r_lle_t, ↓r_lle_f, ↓L_ild_n2, ↓r_ishl, ↓r_ior, ↓L_iinc3, ↓r_goto, ↓J_X2_bitsOf_4, ↓r_ireturn, ↓U_X2_bitsOf_0, ↓U_X2_bitsOf_29, ↓U_X2_bitsOf_35, ↓zthen_v, ↓zthen_0, zU_eq, zU_nc, zU_nj]
  rw [c_X2_bitsOf_loop hW hp (σ 1 1).toNat 0 0 (by omega) (by omega)]
  rfl
