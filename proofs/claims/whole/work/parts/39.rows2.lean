def bec (σ : zM) (a b n : Int) : zM := zU (zCpy (zCpy σ (b + 1) 0 (a + 1) 0 n) (b + 2) 0 (a + 2) 0 n) a 2 (σ b 2)
def cpP (σ : zM) (s d : Int) : zM := zCpy (zCpy (zCpy (zCpy σ (s + 1) 0 (d + 1) 0 6) (s + 2) 0 (d + 2) 0 6) (s + 3) 0 (d + 3) 0 6) (s + 4) 0 (d + 4) 0 6
def appR (σ : zM) (a l r : Int) : zM := zU (zU (zU σ (a + 1) (σ a 2) l) (a + 2) (σ a 2) r) a 2 (σ a 2 + 1)
theorem bec_nc (σ : zM) (a b n c j : Int) (h : c < a ∨ a + 2 < c) : bec σ a b n c j = σ c j := by
  unfold bec
  rw [zU_nc _ _ _ _ _ _ (by omega), zCpy_nc _ _ _ _ _ _ _ _ (by omega), zCpy_nc _ _ _ _ _ _ _ _ (by omega)]
theorem cpP_nc (σ : zM) (s d c j : Int) (h : c < d + 1 ∨ d + 4 < c) : cpP σ s d c j = σ c j := by
  unfold cpP
  rw [zCpy_nc _ _ _ _ _ _ _ _ (by omega), zCpy_nc _ _ _ _ _ _ _ _ (by omega), zCpy_nc _ _ _ _ _ _ _ _ (by omega), zCpy_nc _ _ _ _ _ _ _ _ (by omega)]
theorem cpP_in (σ : zM) (s d p t : Int) (hd : s + 4 < d + 1 ∨ d + 4 < s + 1) (hp : 0 ≤ p ∧ p < 4) (ht : 0 ≤ t ∧ t < 6) : cpP σ s d (d + 1 + p) t = σ (s + 1 + p) t := by
  have h4 : p = 0 ∨ p = 1 ∨ p = 2 ∨ p = 3 := by omega
  unfold cpP
  rcases h4 with h | h | h | h
  · subst h
    rw [zCpy_nc _ _ _ _ _ _ _ _ (by omega), zCpy_nc _ _ _ _ _ _ _ _ (by omega), zCpy_nc _ _ _ _ _ _ _ _ (by omega), show d + 1 + 0 = d + 1 from by omega, zCpy_in _ _ _ _ _ _ _ (by omega), show s + 1 + 0 = s + 1 from by omega, show 0 + (t - 0) = t from by omega]
  · subst h
    rw [zCpy_nc _ _ _ _ _ _ _ _ (by omega), zCpy_nc _ _ _ _ _ _ _ _ (by omega), show d + 1 + 1 = d + 2 from by omega, zCpy_in _ _ _ _ _ _ _ (by omega), zCpy_nc _ _ _ _ _ _ _ _ (by omega), show s + 1 + 1 = s + 2 from by omega, show 0 + (t - 0) = t from by omega]
  · subst h
    rw [zCpy_nc _ _ _ _ _ _ _ _ (by omega), show d + 1 + 2 = d + 3 from by omega, zCpy_in _ _ _ _ _ _ _ (by omega), zCpy_nc _ _ _ _ _ _ _ _ (by omega), zCpy_nc _ _ _ _ _ _ _ _ (by omega), show s + 1 + 2 = s + 3 from by omega, show 0 + (t - 0) = t from by omega]
  · subst h
    rw [show d + 1 + 3 = d + 4 from by omega, zCpy_in _ _ _ _ _ _ _ (by omega), zCpy_nc _ _ _ _ _ _ _ _ (by omega), zCpy_nc _ _ _ _ _ _ _ _ (by omega), zCpy_nc _ _ _ _ _ _ _ _ (by omega), show s + 1 + 3 = s + 4 from by omega, show 0 + (t - 0) = t from by omega]
set_option maxRecDepth 20000 in
theorem c_X1_become_8 {σ : zM} : zcall 10 [vR 8, vR 24] σ = some (none, bec σ 8 24 5) := by
  rw [S_X1_become]
  simp (disch := first | exact z_tt rfl | assumption | omega | (simp (disch := omega) only [zU_eq, zU_nc, zU_nj]; omega)) only [↓L_ald_n1, ↓F_g8_0, ↓F_g11_0, ↓F_g14_0, ↓F_g24_0, ↓F_g27_0, ↓F_g30_0, ↓r_iconst, ↓L_ald_n0, ↓A_n9, ↓A_n10, ↓A_n12, ↓A_n13, ↓A_n15, ↓A_n16, ↓A_n25, ↓A_n26, ↓A_n28, ↓A_n29, ↓A_n31, ↓A_n32, ↓A_n47, ↓A_nT, ↓A_c6, ↓A_c5, ↓A_c8, ↓A_c82, ↓A_c60, ↓A_c360, ↓F_g8_1, ↓F_g11_1, ↓F_g14_1, ↓F_g24_1, ↓F_g27_1, ↓F_g30_1, ↓F_g8_2, ↓F_g11_2, ↓F_g14_2, ↓F_g24_2, ↓F_g27_2, ↓F_g30_2, ↓F_p8_2, ↓F_p11_2, ↓F_p14_2, ↓F_p24_2, ↓F_p27_2, ↓F_p30_2, ↓r_return, ↓U_X1_become_0, ↓zthen_v, ↓zthen_0, zU_eq, zU_nc, zU_nj, zCpy_nc]
  rfl
set_option maxRecDepth 20000 in
theorem c_X1_become_24 {σ : zM} : zcall 10 [vR 24, vR 8] σ = some (none, bec σ 24 8 5) := by
  rw [S_X1_become]
  simp (disch := first | exact z_tt rfl | assumption | omega | (simp (disch := omega) only [zU_eq, zU_nc, zU_nj]; omega)) only [↓L_ald_n1, ↓F_g8_0, ↓F_g11_0, ↓F_g14_0, ↓F_g24_0, ↓F_g27_0, ↓F_g30_0, ↓r_iconst, ↓L_ald_n0, ↓A_n9, ↓A_n10, ↓A_n12, ↓A_n13, ↓A_n15, ↓A_n16, ↓A_n25, ↓A_n26, ↓A_n28, ↓A_n29, ↓A_n31, ↓A_n32, ↓A_n47, ↓A_nT, ↓A_c6, ↓A_c5, ↓A_c8, ↓A_c82, ↓A_c60, ↓A_c360, ↓F_g8_1, ↓F_g11_1, ↓F_g14_1, ↓F_g24_1, ↓F_g27_1, ↓F_g30_1, ↓F_g8_2, ↓F_g11_2, ↓F_g14_2, ↓F_g24_2, ↓F_g27_2, ↓F_g30_2, ↓F_p8_2, ↓F_p11_2, ↓F_p14_2, ↓F_p24_2, ↓F_p27_2, ↓F_p30_2, ↓r_return, ↓U_X1_become_0, ↓zthen_v, ↓zthen_0, zU_eq, zU_nc, zU_nj, zCpy_nc]
  rfl
set_option maxRecDepth 20000 in
theorem c_X1_isFull_8 {σ : zM} (h : 0 ≤ σ 8 2 ∧ σ 8 2 ≤ 5) : zcall 7 [vR 8] σ = some (some (vI (if σ 8 2 < 5 then 0 else 1)), σ) := by
  rw [S_X1_isFull]
  by_cases q : σ 8 2 < 5
  · rw [if_pos q]
    simp (disch := first | exact z_tt rfl | assumption | omega | (simp (disch := omega) only [zU_eq, zU_nc, zU_nj]; omega)) only [↓L_ald_n0, ↓F_g8_2, ↓F_g11_2, ↓F_g14_2, ↓F_g24_2, ↓F_g27_2, ↓F_g30_2, ↓F_g8_0, ↓F_g11_0, ↓F_g14_0, ↓F_g24_0, ↓F_g27_0, ↓F_g30_0, ↓A_n9, ↓A_n10, ↓A_n12, ↓A_n13, ↓A_n15, ↓A_n16, ↓A_n25, ↓A_n26, ↓A_n28, ↓A_n29, ↓A_n31, ↓A_n32, ↓A_n47, ↓A_nT, ↓r_iclt_t, ↓r_iclt_f, ↓J_X1_isFull_16, ↓r_iconst, ↓r_goto, ↓J_X1_isFull_17, ↓r_zreturn, ↓U_X1_isFull_0, ↓U_X1_isFull_16, ↓U_X1_isFull_17, ↓zthen_v, ↓zthen_0, zU_eq, zU_nc, zU_nj]
  · rw [if_neg q]
    simp (disch := first | exact z_tt rfl | assumption | omega | (simp (disch := omega) only [zU_eq, zU_nc, zU_nj]; omega)) only [↓L_ald_n0, ↓F_g8_2, ↓F_g11_2, ↓F_g14_2, ↓F_g24_2, ↓F_g27_2, ↓F_g30_2, ↓F_g8_0, ↓F_g11_0, ↓F_g14_0, ↓F_g24_0, ↓F_g27_0, ↓F_g30_0, ↓A_n9, ↓A_n10, ↓A_n12, ↓A_n13, ↓A_n15, ↓A_n16, ↓A_n25, ↓A_n26, ↓A_n28, ↓A_n29, ↓A_n31, ↓A_n32, ↓A_n47, ↓A_nT, ↓r_iclt_t, ↓r_iclt_f, ↓J_X1_isFull_16, ↓r_iconst, ↓r_goto, ↓J_X1_isFull_17, ↓r_zreturn, ↓U_X1_isFull_0, ↓U_X1_isFull_16, ↓U_X1_isFull_17, ↓zthen_v, ↓zthen_0, zU_eq, zU_nc, zU_nj]
set_option maxRecDepth 20000 in
theorem c_X1_append_8 {σ : zM} {l r : Int} (h : 0 ≤ σ 8 2 ∧ σ 8 2 < 5) : zcall 8 [vR 8, vI l, vI r] σ = some (some (vI (σ 8 2 + 1)), appR σ 8 l r) := by
  rw [S_X1_append]
  simp (disch := first | exact z_tt rfl | assumption | omega | (simp (disch := omega) only [zU_eq, zU_nc, zU_nj]; omega)) only [↓L_ald_n0, ↓F_g8_0, ↓F_g11_0, ↓F_g14_0, ↓F_g24_0, ↓F_g27_0, ↓F_g30_0, ↓F_g8_2, ↓F_g11_2, ↓F_g14_2, ↓F_g24_2, ↓F_g27_2, ↓F_g30_2, ↓L_ild_n1, ↓A_p3, ↓A_p4, ↓A_p5, ↓A_p6, ↓A_p7, ↓A_p9, ↓A_p10, ↓A_p12, ↓A_p13, ↓A_p15, ↓A_p16, ↓A_p19, ↓A_p20, ↓A_p21, ↓A_p22, ↓A_p23, ↓A_p25, ↓A_p26, ↓A_p28, ↓A_p29, ↓A_p31, ↓A_p32, ↓A_p34, ↓A_p36, ↓A_p37, ↓A_p38, ↓A_p39, ↓A_p41, ↓A_p42, ↓A_p43, ↓A_p44, ↓A_p61, ↓A_p62, ↓A_p63, ↓A_p65, ↓A_p66, ↓A_p67, ↓A_p68, ↓A_p69, ↓A_p70, ↓A_pN, ↓A_pT, ↓F_g8_1, ↓F_g11_1, ↓F_g14_1, ↓F_g24_1, ↓F_g27_1, ↓F_g30_1, ↓L_ild_n2, ↓r_dupI, ↓r_dupR, ↓r_iconst, ↓r_iadd, ↓F_p8_2, ↓F_p11_2, ↓F_p14_2, ↓F_p24_2, ↓F_p27_2, ↓F_p30_2, ↓r_ireturn, ↓U_X1_append_0, ↓zthen_v, ↓zthen_0, zU_eq, zU_nc, zU_nj]
  rfl
set_option maxRecDepth 20000 in
theorem c_X1_empty_8 {σ : zM} : zcall 9 [vR 8] σ = some (some (vI 0), zU σ 8 2 0) := by
  rw [S_X1_empty]
  simp (disch := first | exact z_tt rfl | assumption | omega | (simp (disch := omega) only [zU_eq, zU_nc, zU_nj]; omega)) only [↓L_ald_n0, ↓r_iconst, ↓F_p8_2, ↓F_p11_2, ↓F_p14_2, ↓F_p24_2, ↓F_p27_2, ↓F_p30_2, ↓r_ireturn, ↓U_X1_empty_0, ↓zthen_v, ↓zthen_0, zU_eq, zU_nc, zU_nj]
set_option maxRecDepth 20000 in
theorem c_X1_become_11 {σ : zM} : zcall 10 [vR 11, vR 27] σ = some (none, bec σ 11 27 8) := by
  rw [S_X1_become]
  simp (disch := first | exact z_tt rfl | assumption | omega | (simp (disch := omega) only [zU_eq, zU_nc, zU_nj]; omega)) only [↓L_ald_n1, ↓F_g8_0, ↓F_g11_0, ↓F_g14_0, ↓F_g24_0, ↓F_g27_0, ↓F_g30_0, ↓r_iconst, ↓L_ald_n0, ↓A_n9, ↓A_n10, ↓A_n12, ↓A_n13, ↓A_n15, ↓A_n16, ↓A_n25, ↓A_n26, ↓A_n28, ↓A_n29, ↓A_n31, ↓A_n32, ↓A_n47, ↓A_nT, ↓A_c6, ↓A_c5, ↓A_c8, ↓A_c82, ↓A_c60, ↓A_c360, ↓F_g8_1, ↓F_g11_1, ↓F_g14_1, ↓F_g24_1, ↓F_g27_1, ↓F_g30_1, ↓F_g8_2, ↓F_g11_2, ↓F_g14_2, ↓F_g24_2, ↓F_g27_2, ↓F_g30_2, ↓F_p8_2, ↓F_p11_2, ↓F_p14_2, ↓F_p24_2, ↓F_p27_2, ↓F_p30_2, ↓r_return, ↓U_X1_become_0, ↓zthen_v, ↓zthen_0, zU_eq, zU_nc, zU_nj, zCpy_nc]
  rfl
set_option maxRecDepth 20000 in
theorem c_X1_become_27 {σ : zM} : zcall 10 [vR 27, vR 11] σ = some (none, bec σ 27 11 8) := by
  rw [S_X1_become]
  simp (disch := first | exact z_tt rfl | assumption | omega | (simp (disch := omega) only [zU_eq, zU_nc, zU_nj]; omega)) only [↓L_ald_n1, ↓F_g8_0, ↓F_g11_0, ↓F_g14_0, ↓F_g24_0, ↓F_g27_0, ↓F_g30_0, ↓r_iconst, ↓L_ald_n0, ↓A_n9, ↓A_n10, ↓A_n12, ↓A_n13, ↓A_n15, ↓A_n16, ↓A_n25, ↓A_n26, ↓A_n28, ↓A_n29, ↓A_n31, ↓A_n32, ↓A_n47, ↓A_nT, ↓A_c6, ↓A_c5, ↓A_c8, ↓A_c82, ↓A_c60, ↓A_c360, ↓F_g8_1, ↓F_g11_1, ↓F_g14_1, ↓F_g24_1, ↓F_g27_1, ↓F_g30_1, ↓F_g8_2, ↓F_g11_2, ↓F_g14_2, ↓F_g24_2, ↓F_g27_2, ↓F_g30_2, ↓F_p8_2, ↓F_p11_2, ↓F_p14_2, ↓F_p24_2, ↓F_p27_2, ↓F_p30_2, ↓r_return, ↓U_X1_become_0, ↓zthen_v, ↓zthen_0, zU_eq, zU_nc, zU_nj, zCpy_nc]
  rfl
set_option maxRecDepth 20000 in
theorem c_X1_isFull_11 {σ : zM} (h : 0 ≤ σ 11 2 ∧ σ 11 2 ≤ 8) : zcall 7 [vR 11] σ = some (some (vI (if σ 11 2 < 8 then 0 else 1)), σ) := by
  rw [S_X1_isFull]
  by_cases q : σ 11 2 < 8
  · rw [if_pos q]
    simp (disch := first | exact z_tt rfl | assumption | omega | (simp (disch := omega) only [zU_eq, zU_nc, zU_nj]; omega)) only [↓L_ald_n0, ↓F_g8_2, ↓F_g11_2, ↓F_g14_2, ↓F_g24_2, ↓F_g27_2, ↓F_g30_2, ↓F_g8_0, ↓F_g11_0, ↓F_g14_0, ↓F_g24_0, ↓F_g27_0, ↓F_g30_0, ↓A_n9, ↓A_n10, ↓A_n12, ↓A_n13, ↓A_n15, ↓A_n16, ↓A_n25, ↓A_n26, ↓A_n28, ↓A_n29, ↓A_n31, ↓A_n32, ↓A_n47, ↓A_nT, ↓r_iclt_t, ↓r_iclt_f, ↓J_X1_isFull_16, ↓r_iconst, ↓r_goto, ↓J_X1_isFull_17, ↓r_zreturn, ↓U_X1_isFull_0, ↓U_X1_isFull_16, ↓U_X1_isFull_17, ↓zthen_v, ↓zthen_0, zU_eq, zU_nc, zU_nj]
  · rw [if_neg q]
    simp (disch := first | exact z_tt rfl | assumption | omega | (simp (disch := omega) only [zU_eq, zU_nc, zU_nj]; omega)) only [↓L_ald_n0, ↓F_g8_2, ↓F_g11_2, ↓F_g14_2, ↓F_g24_2, ↓F_g27_2, ↓F_g30_2, ↓F_g8_0, ↓F_g11_0, ↓F_g14_0, ↓F_g24_0, ↓F_g27_0, ↓F_g30_0, ↓A_n9, ↓A_n10, ↓A_n12, ↓A_n13, ↓A_n15, ↓A_n16, ↓A_n25, ↓A_n26, ↓A_n28, ↓A_n29, ↓A_n31, ↓A_n32, ↓A_n47, ↓A_nT, ↓r_iclt_t, ↓r_iclt_f, ↓J_X1_isFull_16, ↓r_iconst, ↓r_goto, ↓J_X1_isFull_17, ↓r_zreturn, ↓U_X1_isFull_0, ↓U_X1_isFull_16, ↓U_X1_isFull_17, ↓zthen_v, ↓zthen_0, zU_eq, zU_nc, zU_nj]
set_option maxRecDepth 20000 in
theorem c_X1_append_11 {σ : zM} {l r : Int} (h : 0 ≤ σ 11 2 ∧ σ 11 2 < 8) : zcall 8 [vR 11, vI l, vI r] σ = some (some (vI (σ 11 2 + 1)), appR σ 11 l r) := by
  rw [S_X1_append]
  simp (disch := first | exact z_tt rfl | assumption | omega | (simp (disch := omega) only [zU_eq, zU_nc, zU_nj]; omega)) only [↓L_ald_n0, ↓F_g8_0, ↓F_g11_0, ↓F_g14_0, ↓F_g24_0, ↓F_g27_0, ↓F_g30_0, ↓F_g8_2, ↓F_g11_2, ↓F_g14_2, ↓F_g24_2, ↓F_g27_2, ↓F_g30_2, ↓L_ild_n1, ↓A_p3, ↓A_p4, ↓A_p5, ↓A_p6, ↓A_p7, ↓A_p9, ↓A_p10, ↓A_p12, ↓A_p13, ↓A_p15, ↓A_p16, ↓A_p19, ↓A_p20, ↓A_p21, ↓A_p22, ↓A_p23, ↓A_p25, ↓A_p26, ↓A_p28, ↓A_p29, ↓A_p31, ↓A_p32, ↓A_p34, ↓A_p36, ↓A_p37, ↓A_p38, ↓A_p39, ↓A_p41, ↓A_p42, ↓A_p43, ↓A_p44, ↓A_p61, ↓A_p62, ↓A_p63, ↓A_p65, ↓A_p66, ↓A_p67, ↓A_p68, ↓A_p69, ↓A_p70, ↓A_pN, ↓A_pT, ↓F_g8_1, ↓F_g11_1, ↓F_g14_1, ↓F_g24_1, ↓F_g27_1, ↓F_g30_1, ↓L_ild_n2, ↓r_dupI, ↓r_dupR, ↓r_iconst, ↓r_iadd, ↓F_p8_2, ↓F_p11_2, ↓F_p14_2, ↓F_p24_2, ↓F_p27_2, ↓F_p30_2, ↓r_ireturn, ↓U_X1_append_0, ↓zthen_v, ↓zthen_0, zU_eq, zU_nc, zU_nj]
  rfl
set_option maxRecDepth 20000 in
theorem c_X1_empty_11 {σ : zM} : zcall 9 [vR 11] σ = some (some (vI 0), zU σ 11 2 0) := by
  rw [S_X1_empty]
  simp (disch := first | exact z_tt rfl | assumption | omega | (simp (disch := omega) only [zU_eq, zU_nc, zU_nj]; omega)) only [↓L_ald_n0, ↓r_iconst, ↓F_p8_2, ↓F_p11_2, ↓F_p14_2, ↓F_p24_2, ↓F_p27_2, ↓F_p30_2, ↓r_ireturn, ↓U_X1_empty_0, ↓zthen_v, ↓zthen_0, zU_eq, zU_nc, zU_nj]
set_option maxRecDepth 20000 in
theorem c_X1_become_14 {σ : zM} : zcall 10 [vR 14, vR 30] σ = some (none, bec σ 14 30 8) := by
  rw [S_X1_become]
  simp (disch := first | exact z_tt rfl | assumption | omega | (simp (disch := omega) only [zU_eq, zU_nc, zU_nj]; omega)) only [↓L_ald_n1, ↓F_g8_0, ↓F_g11_0, ↓F_g14_0, ↓F_g24_0, ↓F_g27_0, ↓F_g30_0, ↓r_iconst, ↓L_ald_n0, ↓A_n9, ↓A_n10, ↓A_n12, ↓A_n13, ↓A_n15, ↓A_n16, ↓A_n25, ↓A_n26, ↓A_n28, ↓A_n29, ↓A_n31, ↓A_n32, ↓A_n47, ↓A_nT, ↓A_c6, ↓A_c5, ↓A_c8, ↓A_c82, ↓A_c60, ↓A_c360, ↓F_g8_1, ↓F_g11_1, ↓F_g14_1, ↓F_g24_1, ↓F_g27_1, ↓F_g30_1, ↓F_g8_2, ↓F_g11_2, ↓F_g14_2, ↓F_g24_2, ↓F_g27_2, ↓F_g30_2, ↓F_p8_2, ↓F_p11_2, ↓F_p14_2, ↓F_p24_2, ↓F_p27_2, ↓F_p30_2, ↓r_return, ↓U_X1_become_0, ↓zthen_v, ↓zthen_0, zU_eq, zU_nc, zU_nj, zCpy_nc]
  rfl
set_option maxRecDepth 20000 in
theorem c_X1_become_30 {σ : zM} : zcall 10 [vR 30, vR 14] σ = some (none, bec σ 30 14 8) := by
  rw [S_X1_become]
  simp (disch := first | exact z_tt rfl | assumption | omega | (simp (disch := omega) only [zU_eq, zU_nc, zU_nj]; omega)) only [↓L_ald_n1, ↓F_g8_0, ↓F_g11_0, ↓F_g14_0, ↓F_g24_0, ↓F_g27_0, ↓F_g30_0, ↓r_iconst, ↓L_ald_n0, ↓A_n9, ↓A_n10, ↓A_n12, ↓A_n13, ↓A_n15, ↓A_n16, ↓A_n25, ↓A_n26, ↓A_n28, ↓A_n29, ↓A_n31, ↓A_n32, ↓A_n47, ↓A_nT, ↓A_c6, ↓A_c5, ↓A_c8, ↓A_c82, ↓A_c60, ↓A_c360, ↓F_g8_1, ↓F_g11_1, ↓F_g14_1, ↓F_g24_1, ↓F_g27_1, ↓F_g30_1, ↓F_g8_2, ↓F_g11_2, ↓F_g14_2, ↓F_g24_2, ↓F_g27_2, ↓F_g30_2, ↓F_p8_2, ↓F_p11_2, ↓F_p14_2, ↓F_p24_2, ↓F_p27_2, ↓F_p30_2, ↓r_return, ↓U_X1_become_0, ↓zthen_v, ↓zthen_0, zU_eq, zU_nc, zU_nj, zCpy_nc]
  rfl
set_option maxRecDepth 20000 in
theorem c_X1_isFull_14 {σ : zM} (h : 0 ≤ σ 14 2 ∧ σ 14 2 ≤ 8) : zcall 7 [vR 14] σ = some (some (vI (if σ 14 2 < 8 then 0 else 1)), σ) := by
  rw [S_X1_isFull]
  by_cases q : σ 14 2 < 8
  · rw [if_pos q]
    simp (disch := first | exact z_tt rfl | assumption | omega | (simp (disch := omega) only [zU_eq, zU_nc, zU_nj]; omega)) only [↓L_ald_n0, ↓F_g8_2, ↓F_g11_2, ↓F_g14_2, ↓F_g24_2, ↓F_g27_2, ↓F_g30_2, ↓F_g8_0, ↓F_g11_0, ↓F_g14_0, ↓F_g24_0, ↓F_g27_0, ↓F_g30_0, ↓A_n9, ↓A_n10, ↓A_n12, ↓A_n13, ↓A_n15, ↓A_n16, ↓A_n25, ↓A_n26, ↓A_n28, ↓A_n29, ↓A_n31, ↓A_n32, ↓A_n47, ↓A_nT, ↓r_iclt_t, ↓r_iclt_f, ↓J_X1_isFull_16, ↓r_iconst, ↓r_goto, ↓J_X1_isFull_17, ↓r_zreturn, ↓U_X1_isFull_0, ↓U_X1_isFull_16, ↓U_X1_isFull_17, ↓zthen_v, ↓zthen_0, zU_eq, zU_nc, zU_nj]
  · rw [if_neg q]
    simp (disch := first | exact z_tt rfl | assumption | omega | (simp (disch := omega) only [zU_eq, zU_nc, zU_nj]; omega)) only [↓L_ald_n0, ↓F_g8_2, ↓F_g11_2, ↓F_g14_2, ↓F_g24_2, ↓F_g27_2, ↓F_g30_2, ↓F_g8_0, ↓F_g11_0, ↓F_g14_0, ↓F_g24_0, ↓F_g27_0, ↓F_g30_0, ↓A_n9, ↓A_n10, ↓A_n12, ↓A_n13, ↓A_n15, ↓A_n16, ↓A_n25, ↓A_n26, ↓A_n28, ↓A_n29, ↓A_n31, ↓A_n32, ↓A_n47, ↓A_nT, ↓r_iclt_t, ↓r_iclt_f, ↓J_X1_isFull_16, ↓r_iconst, ↓r_goto, ↓J_X1_isFull_17, ↓r_zreturn, ↓U_X1_isFull_0, ↓U_X1_isFull_16, ↓U_X1_isFull_17, ↓zthen_v, ↓zthen_0, zU_eq, zU_nc, zU_nj]
set_option maxRecDepth 20000 in
theorem c_X1_append_14 {σ : zM} {l r : Int} (h : 0 ≤ σ 14 2 ∧ σ 14 2 < 8) : zcall 8 [vR 14, vI l, vI r] σ = some (some (vI (σ 14 2 + 1)), appR σ 14 l r) := by
  rw [S_X1_append]
  simp (disch := first | exact z_tt rfl | assumption | omega | (simp (disch := omega) only [zU_eq, zU_nc, zU_nj]; omega)) only [↓L_ald_n0, ↓F_g8_0, ↓F_g11_0, ↓F_g14_0, ↓F_g24_0, ↓F_g27_0, ↓F_g30_0, ↓F_g8_2, ↓F_g11_2, ↓F_g14_2, ↓F_g24_2, ↓F_g27_2, ↓F_g30_2, ↓L_ild_n1, ↓A_p3, ↓A_p4, ↓A_p5, ↓A_p6, ↓A_p7, ↓A_p9, ↓A_p10, ↓A_p12, ↓A_p13, ↓A_p15, ↓A_p16, ↓A_p19, ↓A_p20, ↓A_p21, ↓A_p22, ↓A_p23, ↓A_p25, ↓A_p26, ↓A_p28, ↓A_p29, ↓A_p31, ↓A_p32, ↓A_p34, ↓A_p36, ↓A_p37, ↓A_p38, ↓A_p39, ↓A_p41, ↓A_p42, ↓A_p43, ↓A_p44, ↓A_p61, ↓A_p62, ↓A_p63, ↓A_p65, ↓A_p66, ↓A_p67, ↓A_p68, ↓A_p69, ↓A_p70, ↓A_pN, ↓A_pT, ↓F_g8_1, ↓F_g11_1, ↓F_g14_1, ↓F_g24_1, ↓F_g27_1, ↓F_g30_1, ↓L_ild_n2, ↓r_dupI, ↓r_dupR, ↓r_iconst, ↓r_iadd, ↓F_p8_2, ↓F_p11_2, ↓F_p14_2, ↓F_p24_2, ↓F_p27_2, ↓F_p30_2, ↓r_ireturn, ↓U_X1_append_0, ↓zthen_v, ↓zthen_0, zU_eq, zU_nc, zU_nj]
  rfl
set_option maxRecDepth 20000 in
theorem c_X1_empty_14 {σ : zM} : zcall 9 [vR 14] σ = some (some (vI 0), zU σ 14 2 0) := by
  rw [S_X1_empty]
  simp (disch := first | exact z_tt rfl | assumption | omega | (simp (disch := omega) only [zU_eq, zU_nc, zU_nj]; omega)) only [↓L_ald_n0, ↓r_iconst, ↓F_p8_2, ↓F_p11_2, ↓F_p14_2, ↓F_p24_2, ↓F_p27_2, ↓F_p30_2, ↓r_ireturn, ↓U_X1_empty_0, ↓zthen_v, ↓zthen_0, zU_eq, zU_nc, zU_nj]
set_option maxRecDepth 20000 in
set_option maxHeartbeats 4000000 in
theorem c_X6_copyPoints_2_18 {σ : zM} : zcall 93 [vR 2, vR 18] σ = some (none, cpP σ 2 18) := by
  rw [S_X6_copyPoints]
  simp (disch := first | exact z_tt rfl | assumption | omega | (simp (disch := omega) only [zU_eq, zU_nc, zU_nj]; omega)) only [↓r_iconst, ↓L_ist_n2, ↓L_ist_n2L, ↓L_ild_n2, ↓r_icge_t, ↓r_icge_f, ↓J_X6_copyPoints_26, ↓L_ald_n0, ↓A_a2, ↓A_a18, ↓A_a40, ↓A_a47, ↓L_ald_n1, ↓r_bipush, ↓A_c6, ↓A_c5, ↓A_c8, ↓A_c82, ↓A_c60, ↓A_c360, ↓L_iinc2, ↓r_goto, ↓J_X6_copyPoints_2, ↓r_return, ↓U_X6_copyPoints_0, ↓U_X6_copyPoints_26, ↓zthen_v, ↓zthen_0, zU_eq, zU_nc, zU_nj]
  rw [U_X6_copyPoints_2]
  simp (disch := first | exact z_tt rfl | assumption | omega | (simp (disch := omega) only [zU_eq, zU_nc, zU_nj]; omega)) only [↓r_iconst, ↓L_ist_n2, ↓L_ist_n2L, ↓L_ild_n2, ↓r_icge_t, ↓r_icge_f, ↓J_X6_copyPoints_26, ↓L_ald_n0, ↓A_a2, ↓A_a18, ↓A_a40, ↓A_a47, ↓L_ald_n1, ↓r_bipush, ↓A_c6, ↓A_c5, ↓A_c8, ↓A_c82, ↓A_c60, ↓A_c360, ↓L_iinc2, ↓r_goto, ↓J_X6_copyPoints_2, ↓r_return, ↓U_X6_copyPoints_0, ↓U_X6_copyPoints_26, ↓zthen_v, ↓zthen_0, zU_eq, zU_nc, zU_nj]
  rw [U_X6_copyPoints_2]
  simp (disch := first | exact z_tt rfl | assumption | omega | (simp (disch := omega) only [zU_eq, zU_nc, zU_nj]; omega)) only [↓r_iconst, ↓L_ist_n2, ↓L_ist_n2L, ↓L_ild_n2, ↓r_icge_t, ↓r_icge_f, ↓J_X6_copyPoints_26, ↓L_ald_n0, ↓A_a2, ↓A_a18, ↓A_a40, ↓A_a47, ↓L_ald_n1, ↓r_bipush, ↓A_c6, ↓A_c5, ↓A_c8, ↓A_c82, ↓A_c60, ↓A_c360, ↓L_iinc2, ↓r_goto, ↓J_X6_copyPoints_2, ↓r_return, ↓U_X6_copyPoints_0, ↓U_X6_copyPoints_26, ↓zthen_v, ↓zthen_0, zU_eq, zU_nc, zU_nj]
  rw [U_X6_copyPoints_2]
  simp (disch := first | exact z_tt rfl | assumption | omega | (simp (disch := omega) only [zU_eq, zU_nc, zU_nj]; omega)) only [↓r_iconst, ↓L_ist_n2, ↓L_ist_n2L, ↓L_ild_n2, ↓r_icge_t, ↓r_icge_f, ↓J_X6_copyPoints_26, ↓L_ald_n0, ↓A_a2, ↓A_a18, ↓A_a40, ↓A_a47, ↓L_ald_n1, ↓r_bipush, ↓A_c6, ↓A_c5, ↓A_c8, ↓A_c82, ↓A_c60, ↓A_c360, ↓L_iinc2, ↓r_goto, ↓J_X6_copyPoints_2, ↓r_return, ↓U_X6_copyPoints_0, ↓U_X6_copyPoints_26, ↓zthen_v, ↓zthen_0, zU_eq, zU_nc, zU_nj]
  rw [U_X6_copyPoints_2]
  simp (disch := first | exact z_tt rfl | assumption | omega | (simp (disch := omega) only [zU_eq, zU_nc, zU_nj]; omega)) only [↓r_iconst, ↓L_ist_n2, ↓L_ist_n2L, ↓L_ild_n2, ↓r_icge_t, ↓r_icge_f, ↓J_X6_copyPoints_26, ↓L_ald_n0, ↓A_a2, ↓A_a18, ↓A_a40, ↓A_a47, ↓L_ald_n1, ↓r_bipush, ↓A_c6, ↓A_c5, ↓A_c8, ↓A_c82, ↓A_c60, ↓A_c360, ↓L_iinc2, ↓r_goto, ↓J_X6_copyPoints_2, ↓r_return, ↓U_X6_copyPoints_0, ↓U_X6_copyPoints_26, ↓zthen_v, ↓zthen_0, zU_eq, zU_nc, zU_nj]
  rw [U_X6_copyPoints_2]
  simp (disch := first | exact z_tt rfl | assumption | omega | (simp (disch := omega) only [zU_eq, zU_nc, zU_nj]; omega)) only [↓r_iconst, ↓L_ist_n2, ↓L_ist_n2L, ↓L_ild_n2, ↓r_icge_t, ↓r_icge_f, ↓J_X6_copyPoints_26, ↓L_ald_n0, ↓A_a2, ↓A_a18, ↓A_a40, ↓A_a47, ↓L_ald_n1, ↓r_bipush, ↓A_c6, ↓A_c5, ↓A_c8, ↓A_c82, ↓A_c60, ↓A_c360, ↓L_iinc2, ↓r_goto, ↓J_X6_copyPoints_2, ↓r_return, ↓U_X6_copyPoints_0, ↓U_X6_copyPoints_26, ↓zthen_v, ↓zthen_0, zU_eq, zU_nc, zU_nj]
  rfl
set_option maxRecDepth 20000 in
set_option maxHeartbeats 4000000 in
theorem c_X6_copyPoints_18_2 {σ : zM} : zcall 93 [vR 18, vR 2] σ = some (none, cpP σ 18 2) := by
  rw [S_X6_copyPoints]
  simp (disch := first | exact z_tt rfl | assumption | omega | (simp (disch := omega) only [zU_eq, zU_nc, zU_nj]; omega)) only [↓r_iconst, ↓L_ist_n2, ↓L_ist_n2L, ↓L_ild_n2, ↓r_icge_t, ↓r_icge_f, ↓J_X6_copyPoints_26, ↓L_ald_n0, ↓A_a2, ↓A_a18, ↓A_a40, ↓A_a47, ↓L_ald_n1, ↓r_bipush, ↓A_c6, ↓A_c5, ↓A_c8, ↓A_c82, ↓A_c60, ↓A_c360, ↓L_iinc2, ↓r_goto, ↓J_X6_copyPoints_2, ↓r_return, ↓U_X6_copyPoints_0, ↓U_X6_copyPoints_26, ↓zthen_v, ↓zthen_0, zU_eq, zU_nc, zU_nj]
  rw [U_X6_copyPoints_2]
  simp (disch := first | exact z_tt rfl | assumption | omega | (simp (disch := omega) only [zU_eq, zU_nc, zU_nj]; omega)) only [↓r_iconst, ↓L_ist_n2, ↓L_ist_n2L, ↓L_ild_n2, ↓r_icge_t, ↓r_icge_f, ↓J_X6_copyPoints_26, ↓L_ald_n0, ↓A_a2, ↓A_a18, ↓A_a40, ↓A_a47, ↓L_ald_n1, ↓r_bipush, ↓A_c6, ↓A_c5, ↓A_c8, ↓A_c82, ↓A_c60, ↓A_c360, ↓L_iinc2, ↓r_goto, ↓J_X6_copyPoints_2, ↓r_return, ↓U_X6_copyPoints_0, ↓U_X6_copyPoints_26, ↓zthen_v, ↓zthen_0, zU_eq, zU_nc, zU_nj]
  rw [U_X6_copyPoints_2]
  simp (disch := first | exact z_tt rfl | assumption | omega | (simp (disch := omega) only [zU_eq, zU_nc, zU_nj]; omega)) only [↓r_iconst, ↓L_ist_n2, ↓L_ist_n2L, ↓L_ild_n2, ↓r_icge_t, ↓r_icge_f, ↓J_X6_copyPoints_26, ↓L_ald_n0, ↓A_a2, ↓A_a18, ↓A_a40, ↓A_a47, ↓L_ald_n1, ↓r_bipush, ↓A_c6, ↓A_c5, ↓A_c8, ↓A_c82, ↓A_c60, ↓A_c360, ↓L_iinc2, ↓r_goto, ↓J_X6_copyPoints_2, ↓r_return, ↓U_X6_copyPoints_0, ↓U_X6_copyPoints_26, ↓zthen_v, ↓zthen_0, zU_eq, zU_nc, zU_nj]
  rw [U_X6_copyPoints_2]
  simp (disch := first | exact z_tt rfl | assumption | omega | (simp (disch := omega) only [zU_eq, zU_nc, zU_nj]; omega)) only [↓r_iconst, ↓L_ist_n2, ↓L_ist_n2L, ↓L_ild_n2, ↓r_icge_t, ↓r_icge_f, ↓J_X6_copyPoints_26, ↓L_ald_n0, ↓A_a2, ↓A_a18, ↓A_a40, ↓A_a47, ↓L_ald_n1, ↓r_bipush, ↓A_c6, ↓A_c5, ↓A_c8, ↓A_c82, ↓A_c60, ↓A_c360, ↓L_iinc2, ↓r_goto, ↓J_X6_copyPoints_2, ↓r_return, ↓U_X6_copyPoints_0, ↓U_X6_copyPoints_26, ↓zthen_v, ↓zthen_0, zU_eq, zU_nc, zU_nj]
  rw [U_X6_copyPoints_2]
  simp (disch := first | exact z_tt rfl | assumption | omega | (simp (disch := omega) only [zU_eq, zU_nc, zU_nj]; omega)) only [↓r_iconst, ↓L_ist_n2, ↓L_ist_n2L, ↓L_ild_n2, ↓r_icge_t, ↓r_icge_f, ↓J_X6_copyPoints_26, ↓L_ald_n0, ↓A_a2, ↓A_a18, ↓A_a40, ↓A_a47, ↓L_ald_n1, ↓r_bipush, ↓A_c6, ↓A_c5, ↓A_c8, ↓A_c82, ↓A_c60, ↓A_c360, ↓L_iinc2, ↓r_goto, ↓J_X6_copyPoints_2, ↓r_return, ↓U_X6_copyPoints_0, ↓U_X6_copyPoints_26, ↓zthen_v, ↓zthen_0, zU_eq, zU_nc, zU_nj]
  rw [U_X6_copyPoints_2]
  simp (disch := first | exact z_tt rfl | assumption | omega | (simp (disch := omega) only [zU_eq, zU_nc, zU_nj]; omega)) only [↓r_iconst, ↓L_ist_n2, ↓L_ist_n2L, ↓L_ild_n2, ↓r_icge_t, ↓r_icge_f, ↓J_X6_copyPoints_26, ↓L_ald_n0, ↓A_a2, ↓A_a18, ↓A_a40, ↓A_a47, ↓L_ald_n1, ↓r_bipush, ↓A_c6, ↓A_c5, ↓A_c8, ↓A_c82, ↓A_c60, ↓A_c360, ↓L_iinc2, ↓r_goto, ↓J_X6_copyPoints_2, ↓r_return, ↓U_X6_copyPoints_0, ↓U_X6_copyPoints_26, ↓zthen_v, ↓zthen_0, zU_eq, zU_nc, zU_nj]
  rfl
set_option maxRecDepth 20000 in
set_option maxHeartbeats 4000000 in
theorem c_X6_copyPoints_2_40 {σ : zM} : zcall 93 [vR 2, vR 40] σ = some (none, cpP σ 2 40) := by
  rw [S_X6_copyPoints]
  simp (disch := first | exact z_tt rfl | assumption | omega | (simp (disch := omega) only [zU_eq, zU_nc, zU_nj]; omega)) only [↓r_iconst, ↓L_ist_n2, ↓L_ist_n2L, ↓L_ild_n2, ↓r_icge_t, ↓r_icge_f, ↓J_X6_copyPoints_26, ↓L_ald_n0, ↓A_a2, ↓A_a18, ↓A_a40, ↓A_a47, ↓L_ald_n1, ↓r_bipush, ↓A_c6, ↓A_c5, ↓A_c8, ↓A_c82, ↓A_c60, ↓A_c360, ↓L_iinc2, ↓r_goto, ↓J_X6_copyPoints_2, ↓r_return, ↓U_X6_copyPoints_0, ↓U_X6_copyPoints_26, ↓zthen_v, ↓zthen_0, zU_eq, zU_nc, zU_nj]
  rw [U_X6_copyPoints_2]
  simp (disch := first | exact z_tt rfl | assumption | omega | (simp (disch := omega) only [zU_eq, zU_nc, zU_nj]; omega)) only [↓r_iconst, ↓L_ist_n2, ↓L_ist_n2L, ↓L_ild_n2, ↓r_icge_t, ↓r_icge_f, ↓J_X6_copyPoints_26, ↓L_ald_n0, ↓A_a2, ↓A_a18, ↓A_a40, ↓A_a47, ↓L_ald_n1, ↓r_bipush, ↓A_c6, ↓A_c5, ↓A_c8, ↓A_c82, ↓A_c60, ↓A_c360, ↓L_iinc2, ↓r_goto, ↓J_X6_copyPoints_2, ↓r_return, ↓U_X6_copyPoints_0, ↓U_X6_copyPoints_26, ↓zthen_v, ↓zthen_0, zU_eq, zU_nc, zU_nj]
  rw [U_X6_copyPoints_2]
  simp (disch := first | exact z_tt rfl | assumption | omega | (simp (disch := omega) only [zU_eq, zU_nc, zU_nj]; omega)) only [↓r_iconst, ↓L_ist_n2, ↓L_ist_n2L, ↓L_ild_n2, ↓r_icge_t, ↓r_icge_f, ↓J_X6_copyPoints_26, ↓L_ald_n0, ↓A_a2, ↓A_a18, ↓A_a40, ↓A_a47, ↓L_ald_n1, ↓r_bipush, ↓A_c6, ↓A_c5, ↓A_c8, ↓A_c82, ↓A_c60, ↓A_c360, ↓L_iinc2, ↓r_goto, ↓J_X6_copyPoints_2, ↓r_return, ↓U_X6_copyPoints_0, ↓U_X6_copyPoints_26, ↓zthen_v, ↓zthen_0, zU_eq, zU_nc, zU_nj]
  rw [U_X6_copyPoints_2]
  simp (disch := first | exact z_tt rfl | assumption | omega | (simp (disch := omega) only [zU_eq, zU_nc, zU_nj]; omega)) only [↓r_iconst, ↓L_ist_n2, ↓L_ist_n2L, ↓L_ild_n2, ↓r_icge_t, ↓r_icge_f, ↓J_X6_copyPoints_26, ↓L_ald_n0, ↓A_a2, ↓A_a18, ↓A_a40, ↓A_a47, ↓L_ald_n1, ↓r_bipush, ↓A_c6, ↓A_c5, ↓A_c8, ↓A_c82, ↓A_c60, ↓A_c360, ↓L_iinc2, ↓r_goto, ↓J_X6_copyPoints_2, ↓r_return, ↓U_X6_copyPoints_0, ↓U_X6_copyPoints_26, ↓zthen_v, ↓zthen_0, zU_eq, zU_nc, zU_nj]
  rw [U_X6_copyPoints_2]
  simp (disch := first | exact z_tt rfl | assumption | omega | (simp (disch := omega) only [zU_eq, zU_nc, zU_nj]; omega)) only [↓r_iconst, ↓L_ist_n2, ↓L_ist_n2L, ↓L_ild_n2, ↓r_icge_t, ↓r_icge_f, ↓J_X6_copyPoints_26, ↓L_ald_n0, ↓A_a2, ↓A_a18, ↓A_a40, ↓A_a47, ↓L_ald_n1, ↓r_bipush, ↓A_c6, ↓A_c5, ↓A_c8, ↓A_c82, ↓A_c60, ↓A_c360, ↓L_iinc2, ↓r_goto, ↓J_X6_copyPoints_2, ↓r_return, ↓U_X6_copyPoints_0, ↓U_X6_copyPoints_26, ↓zthen_v, ↓zthen_0, zU_eq, zU_nc, zU_nj]
  rw [U_X6_copyPoints_2]
  simp (disch := first | exact z_tt rfl | assumption | omega | (simp (disch := omega) only [zU_eq, zU_nc, zU_nj]; omega)) only [↓r_iconst, ↓L_ist_n2, ↓L_ist_n2L, ↓L_ild_n2, ↓r_icge_t, ↓r_icge_f, ↓J_X6_copyPoints_26, ↓L_ald_n0, ↓A_a2, ↓A_a18, ↓A_a40, ↓A_a47, ↓L_ald_n1, ↓r_bipush, ↓A_c6, ↓A_c5, ↓A_c8, ↓A_c82, ↓A_c60, ↓A_c360, ↓L_iinc2, ↓r_goto, ↓J_X6_copyPoints_2, ↓r_return, ↓U_X6_copyPoints_0, ↓U_X6_copyPoints_26, ↓zthen_v, ↓zthen_0, zU_eq, zU_nc, zU_nj]
  rfl
def becS (σ : zM) (a b : Int) : zM := bec (bec (bec (zU (zU (zU (zU (zCpy (cpP (zU (zU σ a 0 (σ b 0)) a 1 (σ b 1)) (b + 1) (a + 1)) (b + 6) 0 (a + 6) 0 6) a 4 (σ b 4)) a 5 (σ b 5)) a 6 (σ b 6)) a 7 (σ b 7)) (a + 7) (b + 7) 5) (a + 10) (b + 10) 8) (a + 13) (b + 13) 8
set_option maxRecDepth 20000 in
set_option maxHeartbeats 4000000 in
theorem c_X2_become_1 {σ : zM} : zcall 23 [vR 1, vR 17] σ = some (none, becS σ 1 17) := by
  rw [S_X2_become]
  simp (disch := first | exact z_tt rfl | assumption | omega | (simp (disch := omega) only [zU_eq, zU_nc, zU_nj]; omega)) only [↓L_ald_n0, ↓L_ald_n1, ↓F_g1_0, ↓F_g17_0, ↓F_p1_0, ↓F_p17_0, ↓F_g1_1, ↓F_g17_1, ↓F_p1_1, ↓F_p17_1, ↓F_g1_2, ↓F_g17_2, ↓I_X6_copyPoints, ↓F_g1_3, ↓F_g17_3, ↓r_iconst, ↓r_bipush, ↓A_c6, ↓A_c5, ↓A_c8, ↓A_c82, ↓A_c60, ↓A_c360, ↓F_g1_4, ↓F_g17_4, ↓F_p1_4, ↓F_p17_4, ↓F_g1_5, ↓F_g17_5, ↓F_p1_5, ↓F_p17_5, ↓F_g1_6, ↓F_g17_6, ↓F_p1_6, ↓F_p17_6, ↓F_g1_7, ↓F_g17_7, ↓F_p1_7, ↓F_p17_7, ↓F_g1_8, ↓F_g17_8, ↓I_X1_become_8, ↓I_X1_become_11, ↓I_X1_become_14, ↓I_X1_become_24, ↓I_X1_become_27, ↓I_X1_become_30, ↓F_g1_9, ↓F_g17_9, ↓F_g1_10, ↓F_g17_10, ↓r_return, ↓U_X2_become_0, ↓zthen_v, ↓zthen_0, zU_eq, zU_nc, zU_nj, c_X6_copyPoints_18_2, c_X1_become_8, c_X1_become_11, c_X1_become_14, zCpy_nc, cpP_nc]
  rfl
set_option maxRecDepth 20000 in
set_option maxHeartbeats 4000000 in
theorem c_X2_become_17 {σ : zM} : zcall 23 [vR 17, vR 1] σ = some (none, becS σ 17 1) := by
  rw [S_X2_become]
  simp (disch := first | exact z_tt rfl | assumption | omega | (simp (disch := omega) only [zU_eq, zU_nc, zU_nj]; omega)) only [↓L_ald_n0, ↓L_ald_n1, ↓F_g1_0, ↓F_g17_0, ↓F_p1_0, ↓F_p17_0, ↓F_g1_1, ↓F_g17_1, ↓F_p1_1, ↓F_p17_1, ↓F_g1_2, ↓F_g17_2, ↓I_X6_copyPoints, ↓F_g1_3, ↓F_g17_3, ↓r_iconst, ↓r_bipush, ↓A_c6, ↓A_c5, ↓A_c8, ↓A_c82, ↓A_c60, ↓A_c360, ↓F_g1_4, ↓F_g17_4, ↓F_p1_4, ↓F_p17_4, ↓F_g1_5, ↓F_g17_5, ↓F_p1_5, ↓F_p17_5, ↓F_g1_6, ↓F_g17_6, ↓F_p1_6, ↓F_p17_6, ↓F_g1_7, ↓F_g17_7, ↓F_p1_7, ↓F_p17_7, ↓F_g1_8, ↓F_g17_8, ↓I_X1_become_8, ↓I_X1_become_11, ↓I_X1_become_14, ↓I_X1_become_24, ↓I_X1_become_27, ↓I_X1_become_30, ↓F_g1_9, ↓F_g17_9, ↓F_g1_10, ↓F_g17_10, ↓r_return, ↓U_X2_become_0, ↓zthen_v, ↓zthen_0, zU_eq, zU_nc, zU_nj, c_X6_copyPoints_2_18, c_X1_become_24, c_X1_become_27, c_X1_become_30, zCpy_nc, cpP_nc]
  rfl
