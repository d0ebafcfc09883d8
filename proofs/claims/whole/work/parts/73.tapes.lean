/-! tapes -/
theorem c32_bd (a : Int) : -2147483648 ≤ c32 a ∧ c32 a < 2147483648 := by
  unfold c32
  have h1 := Int32.le_toInt (Int32.ofInt a)
  have h2 := Int32.toInt_lt (Int32.ofInt a)
  omega
theorem r_i2lr {k pc len : Nat} {x : Int} {is : List zCE} {ls st : List zV} {σ : zM} (a : Int) : zres k ((pc, len, x, .i2l) :: is) ls (vI a :: st) σ = zres k is ls (vL (c32 a) :: st) σ := r_go rfl
def asV (s v : Int) : Int := if s = 0 then c32 (i2B v) else if s = 1 then c32 (i2S v) else if s = 2 then c32 v else if s = 3 then v else if v = 0 then 0 else 1
theorem asV_bd {s v : Int} (hv : -9223372036854775808 ≤ v ∧ v < 9223372036854775808) : -9223372036854775808 ≤ asV s v ∧ asV s v < 9223372036854775808 := by
  unfold asV
  have h1 := c32_bd (i2B v)
  have h2 := c32_bd (i2S v)
  have h3 := c32_bd v
  split
  · omega
  · split
    · omega
    · split
      · omega
      · split
        · omega
        · split <;> omega
set_option maxRecDepth 20000 in
theorem c_asItem {σ : zM} {t v : Int} (ht : 0 ≤ t ∧ t < 6) (hs : 0 ≤ σ (48 + 2 * t) 0 ∧ σ (48 + 2 * t) 0 ≤ 4) (hv : -9223372036854775808 ≤ v ∧ v < 9223372036854775808) : zcall 26 [vR (48 + 2 * t), vL v] σ = some (some (vL (asV (σ (48 + 2 * t) 0) v)), σ) := by
  rw [S_X3_asItem]
  rcases (show σ (48 + 2 * t) 0 = 0 ∨ σ (48 + 2 * t) 0 = 1 ∨ σ (48 + 2 * t) 0 = 2 ∨ σ (48 + 2 * t) 0 = 3 ∨ σ (48 + 2 * t) 0 = 4 by omega) with e | e | e | e | e
  · rw [e, show asV 0 v = c32 (i2B v) from rfl]
    simp (disch := first | exact z_tt rfl | assumption | omega | (simp (disch := omega) only [zU_eq, zU_nc, zU_nj]; omega)) only [↓L_ald_n0, ↓F_g48_0, ↓F_g50_0, ↓F_g52_0, ↓F_g54_0, ↓F_g56_0, ↓F_g58_0, ↓F_gT_0, ↓r_tab, ↓W_X3_asItem_4_0, ↓W_X3_asItem_4_1, ↓W_X3_asItem_4_2, ↓W_X3_asItem_4_3, ↓W_X3_asItem_4_d, ↓L_lld_n1, ↓r_l2i, ↓r_i2b, ↓r_i2l, ↓r_lreturn, ↓r_i2s, ↓r_lconst, ↓r_ifeq_t, ↓r_ifeq_f, ↓J_X3_asItem_62, ↓r_leq_t, ↓r_leq_f, ↓r_goto, ↓J_X3_asItem_63, ↓U_X3_asItem_0, ↓U_X3_asItem_36, ↓U_X3_asItem_41, ↓U_X3_asItem_46, ↓U_X3_asItem_50, ↓U_X3_asItem_52, ↓U_X3_asItem_62, ↓U_X3_asItem_63, ↓zthen_v, ↓zthen_0, zU_eq, zU_nc, zU_nj, e, ↓r_i2lr]
  · rw [e, show asV 1 v = c32 (i2S v) from rfl]
    simp (disch := first | exact z_tt rfl | assumption | omega | (simp (disch := omega) only [zU_eq, zU_nc, zU_nj]; omega)) only [↓L_ald_n0, ↓F_g48_0, ↓F_g50_0, ↓F_g52_0, ↓F_g54_0, ↓F_g56_0, ↓F_g58_0, ↓F_gT_0, ↓r_tab, ↓W_X3_asItem_4_0, ↓W_X3_asItem_4_1, ↓W_X3_asItem_4_2, ↓W_X3_asItem_4_3, ↓W_X3_asItem_4_d, ↓L_lld_n1, ↓r_l2i, ↓r_i2b, ↓r_i2l, ↓r_lreturn, ↓r_i2s, ↓r_lconst, ↓r_ifeq_t, ↓r_ifeq_f, ↓J_X3_asItem_62, ↓r_leq_t, ↓r_leq_f, ↓r_goto, ↓J_X3_asItem_63, ↓U_X3_asItem_0, ↓U_X3_asItem_36, ↓U_X3_asItem_41, ↓U_X3_asItem_46, ↓U_X3_asItem_50, ↓U_X3_asItem_52, ↓U_X3_asItem_62, ↓U_X3_asItem_63, ↓zthen_v, ↓zthen_0, zU_eq, zU_nc, zU_nj, e, ↓r_i2lr]
  · rw [e, show asV 2 v = c32 v from rfl]
    simp (disch := first | exact z_tt rfl | assumption | omega | (simp (disch := omega) only [zU_eq, zU_nc, zU_nj]; omega)) only [↓L_ald_n0, ↓F_g48_0, ↓F_g50_0, ↓F_g52_0, ↓F_g54_0, ↓F_g56_0, ↓F_g58_0, ↓F_gT_0, ↓r_tab, ↓W_X3_asItem_4_0, ↓W_X3_asItem_4_1, ↓W_X3_asItem_4_2, ↓W_X3_asItem_4_3, ↓W_X3_asItem_4_d, ↓L_lld_n1, ↓r_l2i, ↓r_i2b, ↓r_i2l, ↓r_lreturn, ↓r_i2s, ↓r_lconst, ↓r_ifeq_t, ↓r_ifeq_f, ↓J_X3_asItem_62, ↓r_leq_t, ↓r_leq_f, ↓r_goto, ↓J_X3_asItem_63, ↓U_X3_asItem_0, ↓U_X3_asItem_36, ↓U_X3_asItem_41, ↓U_X3_asItem_46, ↓U_X3_asItem_50, ↓U_X3_asItem_52, ↓U_X3_asItem_62, ↓U_X3_asItem_63, ↓zthen_v, ↓zthen_0, zU_eq, zU_nc, zU_nj, e, ↓r_i2lr]
  · rw [e, show asV 3 v = v from rfl]
    simp (disch := first | exact z_tt rfl | assumption | omega | (simp (disch := omega) only [zU_eq, zU_nc, zU_nj]; omega)) only [↓L_ald_n0, ↓F_g48_0, ↓F_g50_0, ↓F_g52_0, ↓F_g54_0, ↓F_g56_0, ↓F_g58_0, ↓F_gT_0, ↓r_tab, ↓W_X3_asItem_4_0, ↓W_X3_asItem_4_1, ↓W_X3_asItem_4_2, ↓W_X3_asItem_4_3, ↓W_X3_asItem_4_d, ↓L_lld_n1, ↓r_l2i, ↓r_i2b, ↓r_i2l, ↓r_lreturn, ↓r_i2s, ↓r_lconst, ↓r_ifeq_t, ↓r_ifeq_f, ↓J_X3_asItem_62, ↓r_leq_t, ↓r_leq_f, ↓r_goto, ↓J_X3_asItem_63, ↓U_X3_asItem_0, ↓U_X3_asItem_36, ↓U_X3_asItem_41, ↓U_X3_asItem_46, ↓U_X3_asItem_50, ↓U_X3_asItem_52, ↓U_X3_asItem_62, ↓U_X3_asItem_63, ↓zthen_v, ↓zthen_0, zU_eq, zU_nc, zU_nj, e]
  · rw [e]
    by_cases q : v = 0
    · rw [show asV 4 v = 0 from if_pos q]
      simp (disch := first | exact z_tt rfl | assumption | omega | (simp (disch := omega) only [zU_eq, zU_nc, zU_nj]; omega)) only [↓L_ald_n0, ↓F_g48_0, ↓F_g50_0, ↓F_g52_0, ↓F_g54_0, ↓F_g56_0, ↓F_g58_0, ↓F_gT_0, ↓r_tab, ↓W_X3_asItem_4_0, ↓W_X3_asItem_4_1, ↓W_X3_asItem_4_2, ↓W_X3_asItem_4_3, ↓W_X3_asItem_4_d, ↓L_lld_n1, ↓r_l2i, ↓r_i2b, ↓r_i2l, ↓r_lreturn, ↓r_i2s, ↓r_lconst, ↓r_ifeq_t, ↓r_ifeq_f, ↓J_X3_asItem_62, ↓r_leq_t, ↓r_leq_f, ↓r_goto, ↓J_X3_asItem_63, ↓U_X3_asItem_0, ↓U_X3_asItem_36, ↓U_X3_asItem_41, ↓U_X3_asItem_46, ↓U_X3_asItem_50, ↓U_X3_asItem_52, ↓U_X3_asItem_62, ↓U_X3_asItem_63, ↓zthen_v, ↓zthen_0, zU_eq, zU_nc, zU_nj, e]
    · rw [show asV 4 v = 1 from if_neg q]
      simp (disch := first | exact z_tt rfl | assumption | omega | (simp (disch := omega) only [zU_eq, zU_nc, zU_nj]; omega)) only [↓L_ald_n0, ↓F_g48_0, ↓F_g50_0, ↓F_g52_0, ↓F_g54_0, ↓F_g56_0, ↓F_g58_0, ↓F_gT_0, ↓r_tab, ↓W_X3_asItem_4_0, ↓W_X3_asItem_4_1, ↓W_X3_asItem_4_2, ↓W_X3_asItem_4_3, ↓W_X3_asItem_4_d, ↓L_lld_n1, ↓r_l2i, ↓r_i2b, ↓r_i2l, ↓r_lreturn, ↓r_i2s, ↓r_lconst, ↓r_ifeq_t, ↓r_ifeq_f, ↓J_X3_asItem_62, ↓r_leq_t, ↓r_leq_f, ↓r_goto, ↓J_X3_asItem_63, ↓U_X3_asItem_0, ↓U_X3_asItem_36, ↓U_X3_asItem_41, ↓U_X3_asItem_46, ↓U_X3_asItem_50, ↓U_X3_asItem_52, ↓U_X3_asItem_62, ↓U_X3_asItem_63, ↓zthen_v, ↓zthen_0, zU_eq, zU_nc, zU_nj, e]
set_option maxRecDepth 20000 in
theorem m_kept {τ : zM} {s v : Int} (hs : 0 ≤ s ∧ s ≤ 4) (hv : -9223372036854775808 ≤ v ∧ v < 9223372036854775808) : zcall 187 [vI s, vL v] τ = some (some (vL (asV s v)), τ) := by
  rw [S_X7_kept]
  rcases (show s = 0 ∨ s = 1 ∨ s = 2 ∨ s = 3 ∨ s = 4 by omega) with rfl | rfl | rfl | rfl | rfl
  · rw [show asV 0 v = c32 (i2B v) from rfl]
    simp (disch := first | exact z_tt rfl | assumption | omega | (simp (disch := omega) only [zU_eq, zU_nc, zU_nj]; omega)) only [↓L_ild_n0, ↓r_tab, ↓W_X7_kept_1_0, ↓W_X7_kept_1_1, ↓W_X7_kept_1_2, ↓W_X7_kept_1_3, ↓W_X7_kept_1_d, ↓L_lld_n1, ↓r_l2i, ↓r_i2b, ↓r_i2l, ↓r_lreturn, ↓r_i2s, ↓r_lconst, ↓r_ifne_t, ↓r_ifne_f, ↓J_X7_kept_58, ↓r_lne_t, ↓r_lne_f, ↓r_goto, ↓J_X7_kept_59, ↓U_X7_kept_0, ↓U_X7_kept_32, ↓U_X7_kept_37, ↓U_X7_kept_42, ↓U_X7_kept_46, ↓U_X7_kept_48, ↓U_X7_kept_58, ↓U_X7_kept_59, ↓zthen_v, ↓zthen_0, zU_eq, zU_nc, zU_nj, ↓r_i2lr]
  · rw [show asV 1 v = c32 (i2S v) from rfl]
    simp (disch := first | exact z_tt rfl | assumption | omega | (simp (disch := omega) only [zU_eq, zU_nc, zU_nj]; omega)) only [↓L_ild_n0, ↓r_tab, ↓W_X7_kept_1_0, ↓W_X7_kept_1_1, ↓W_X7_kept_1_2, ↓W_X7_kept_1_3, ↓W_X7_kept_1_d, ↓L_lld_n1, ↓r_l2i, ↓r_i2b, ↓r_i2l, ↓r_lreturn, ↓r_i2s, ↓r_lconst, ↓r_ifne_t, ↓r_ifne_f, ↓J_X7_kept_58, ↓r_lne_t, ↓r_lne_f, ↓r_goto, ↓J_X7_kept_59, ↓U_X7_kept_0, ↓U_X7_kept_32, ↓U_X7_kept_37, ↓U_X7_kept_42, ↓U_X7_kept_46, ↓U_X7_kept_48, ↓U_X7_kept_58, ↓U_X7_kept_59, ↓zthen_v, ↓zthen_0, zU_eq, zU_nc, zU_nj, ↓r_i2lr]
  · rw [show asV 2 v = c32 v from rfl]
    simp (disch := first | exact z_tt rfl | assumption | omega | (simp (disch := omega) only [zU_eq, zU_nc, zU_nj]; omega)) only [↓L_ild_n0, ↓r_tab, ↓W_X7_kept_1_0, ↓W_X7_kept_1_1, ↓W_X7_kept_1_2, ↓W_X7_kept_1_3, ↓W_X7_kept_1_d, ↓L_lld_n1, ↓r_l2i, ↓r_i2b, ↓r_i2l, ↓r_lreturn, ↓r_i2s, ↓r_lconst, ↓r_ifne_t, ↓r_ifne_f, ↓J_X7_kept_58, ↓r_lne_t, ↓r_lne_f, ↓r_goto, ↓J_X7_kept_59, ↓U_X7_kept_0, ↓U_X7_kept_32, ↓U_X7_kept_37, ↓U_X7_kept_42, ↓U_X7_kept_46, ↓U_X7_kept_48, ↓U_X7_kept_58, ↓U_X7_kept_59, ↓zthen_v, ↓zthen_0, zU_eq, zU_nc, zU_nj, ↓r_i2lr]
  · rw [show asV 3 v = v from rfl]
    simp (disch := first | exact z_tt rfl | assumption | omega | (simp (disch := omega) only [zU_eq, zU_nc, zU_nj]; omega)) only [↓L_ild_n0, ↓r_tab, ↓W_X7_kept_1_0, ↓W_X7_kept_1_1, ↓W_X7_kept_1_2, ↓W_X7_kept_1_3, ↓W_X7_kept_1_d, ↓L_lld_n1, ↓r_l2i, ↓r_i2b, ↓r_i2l, ↓r_lreturn, ↓r_i2s, ↓r_lconst, ↓r_ifne_t, ↓r_ifne_f, ↓J_X7_kept_58, ↓r_lne_t, ↓r_lne_f, ↓r_goto, ↓J_X7_kept_59, ↓U_X7_kept_0, ↓U_X7_kept_32, ↓U_X7_kept_37, ↓U_X7_kept_42, ↓U_X7_kept_46, ↓U_X7_kept_48, ↓U_X7_kept_58, ↓U_X7_kept_59, ↓zthen_v, ↓zthen_0, zU_eq, zU_nc, zU_nj]
  · by_cases q : v = 0
    · rw [show asV 4 v = 0 from if_pos q]
      simp (disch := first | exact z_tt rfl | assumption | omega | (simp (disch := omega) only [zU_eq, zU_nc, zU_nj]; omega)) only [↓L_ild_n0, ↓r_tab, ↓W_X7_kept_1_0, ↓W_X7_kept_1_1, ↓W_X7_kept_1_2, ↓W_X7_kept_1_3, ↓W_X7_kept_1_d, ↓L_lld_n1, ↓r_l2i, ↓r_i2b, ↓r_i2l, ↓r_lreturn, ↓r_i2s, ↓r_lconst, ↓r_ifne_t, ↓r_ifne_f, ↓J_X7_kept_58, ↓r_lne_t, ↓r_lne_f, ↓r_goto, ↓J_X7_kept_59, ↓U_X7_kept_0, ↓U_X7_kept_32, ↓U_X7_kept_37, ↓U_X7_kept_42, ↓U_X7_kept_46, ↓U_X7_kept_48, ↓U_X7_kept_58, ↓U_X7_kept_59, ↓zthen_v, ↓zthen_0, zU_eq, zU_nc, zU_nj]
    · rw [show asV 4 v = 1 from if_neg q]
      simp (disch := first | exact z_tt rfl | assumption | omega | (simp (disch := omega) only [zU_eq, zU_nc, zU_nj]; omega)) only [↓L_ild_n0, ↓r_tab, ↓W_X7_kept_1_0, ↓W_X7_kept_1_1, ↓W_X7_kept_1_2, ↓W_X7_kept_1_3, ↓W_X7_kept_1_d, ↓L_lld_n1, ↓r_l2i, ↓r_i2b, ↓r_i2l, ↓r_lreturn, ↓r_i2s, ↓r_lconst, ↓r_ifne_t, ↓r_ifne_f, ↓J_X7_kept_58, ↓r_lne_t, ↓r_lne_f, ↓r_goto, ↓J_X7_kept_59, ↓U_X7_kept_0, ↓U_X7_kept_32, ↓U_X7_kept_37, ↓U_X7_kept_42, ↓U_X7_kept_46, ↓U_X7_kept_48, ↓U_X7_kept_58, ↓U_X7_kept_59, ↓zthen_v, ↓zthen_0, zU_eq, zU_nc, zU_nj]
def clrF (c b : Int) : Nat → Int → zM → zM
  | 0, _, σ => σ
  | n + 1, k, σ => clrF c b n (k + 1) (zU σ c (b + k) 0)
theorem clrF_out (c b : Int) : ∀ (n : Nat) (k : Int) (σ : zM) (c' q : Int), (c' = c → q < b + k ∨ b + k + n ≤ q) → clrF c b n k σ c' q = σ c' q
  | 0, k, σ, c', q, h => rfl
  | n + 1, k, σ, c', q, h => by rw [clrF, clrF_out c b n (k + 1) _ c' q (by omega), zU_ow _ _ _ _ _ _ (by omega)]
theorem clrF_in (c b : Int) : ∀ (n : Nat) (k : Int) (σ : zM) (q : Int), b + k ≤ q → q < b + k + n → clrF c b n k σ c q = 0
  | 0, k, σ, q, h1, h2 => by omega
  | n + 1, k, σ, q, h1, h2 => by
    rw [clrF]
    by_cases e : q = b + k
    · rw [clrF_out c b n (k + 1) _ c q (by omega), e, zU_eq]
    · exact clrF_in c b n (k + 1) _ q (by omega) (by omega)
set_option maxRecDepth 20000 in
theorem c_bg_loop {t s n : Int} (ht : 0 ≤ t ∧ t < 6) : ∀ (m : Nat) (k : Int) (σ : zM), 0 ≤ k → k + m = 60 → zres 25 C_X3_begin_12 [vR (48 + 2 * t), vI s, vI n, vI k] [] σ = some (none, clrF (49 + 2 * t) 0 m k σ) := by
  intro m
  induction m with
  | zero =>
    intro k σ hk hm
    simp (disch := first | exact z_tt rfl | assumption | omega | (simp (disch := omega) only [zU_eq, zU_nc, zU_nj]; omega)) only [↓L_ald_n0, ↓L_ild_n1, ↓F_p48_0, ↓F_p50_0, ↓F_p52_0, ↓F_p54_0, ↓F_p56_0, ↓F_p58_0, ↓F_pT_0, ↓L_ild_n2, ↓F_p48_1, ↓F_p50_1, ↓F_p52_1, ↓F_p54_1, ↓F_p56_1, ↓F_p58_1, ↓F_pT_1, ↓r_iconst, ↓L_ist_n3, ↓L_ist_n3L, ↓L_ild_n3, ↓F_g48_2, ↓F_g50_2, ↓F_g52_2, ↓F_g54_2, ↓F_g56_2, ↓F_g58_2, ↓F_gT_2, ↓A_n9, ↓A_n10, ↓A_n12, ↓A_n13, ↓A_n15, ↓A_n16, ↓A_n25, ↓A_n26, ↓A_n28, ↓A_n29, ↓A_n31, ↓A_n32, ↓A_n47, ↓A_nT, ↓r_icge_t, ↓r_icge_f, ↓J_X3_begin_34, ↓r_lconst, ↓A_lp, ↓A_lp71, ↓L_iinc3, ↓r_goto, ↓J_X3_begin_12, ↓r_return, ↓U_X3_begin_0, ↓U_X3_begin_12, ↓U_X3_begin_34, ↓zthen_v, ↓zthen_0, zU_eq, zU_nc, zU_nj, clrF]
  | succ m ih =>
    intro k σ hk hm
    rw [U_X3_begin_12, clrF]
    simp (disch := first | exact z_tt rfl | assumption | omega | (simp (disch := omega) only [zU_eq, zU_nc, zU_nj]; omega)) only [↓L_ald_n0, ↓L_ild_n1, ↓F_p48_0, ↓F_p50_0, ↓F_p52_0, ↓F_p54_0, ↓F_p56_0, ↓F_p58_0, ↓F_pT_0, ↓L_ild_n2, ↓F_p48_1, ↓F_p50_1, ↓F_p52_1, ↓F_p54_1, ↓F_p56_1, ↓F_p58_1, ↓F_pT_1, ↓r_iconst, ↓L_ist_n3, ↓L_ist_n3L, ↓L_ild_n3, ↓F_g48_2, ↓F_g50_2, ↓F_g52_2, ↓F_g54_2, ↓F_g56_2, ↓F_g58_2, ↓F_gT_2, ↓A_n9, ↓A_n10, ↓A_n12, ↓A_n13, ↓A_n15, ↓A_n16, ↓A_n25, ↓A_n26, ↓A_n28, ↓A_n29, ↓A_n31, ↓A_n32, ↓A_n47, ↓A_nT, ↓r_icge_t, ↓r_icge_f, ↓J_X3_begin_34, ↓r_lconst, ↓A_lp, ↓A_lp71, ↓L_iinc3, ↓r_goto, ↓J_X3_begin_12, ↓r_return, ↓U_X3_begin_0, ↓U_X3_begin_34, ↓zthen_v, ↓zthen_0, zU_eq, zU_nc, zU_nj]
    rw [ih (k + 1) _ (by omega) (by omega), Int.zero_add]
set_option maxRecDepth 20000 in
theorem c_begin {σ : zM} {t s n : Int} (ht : 0 ≤ t ∧ t < 6) : zcall 25 [vR (48 + 2 * t), vI s, vI n] σ = some (none, clrF (49 + 2 * t) 0 60 0 (zU (zU σ (48 + 2 * t) 0 s) (48 + 2 * t) 1 n)) := by
  rw [S_X3_begin]
  simp (disch := first | exact z_tt rfl | assumption | omega | (simp (disch := omega) only [zU_eq, zU_nc, zU_nj]; omega)) only [↓L_ald_n0, ↓L_ild_n1, ↓F_p48_0, ↓F_p50_0, ↓F_p52_0, ↓F_p54_0, ↓F_p56_0, ↓F_p58_0, ↓F_pT_0, ↓L_ild_n2, ↓F_p48_1, ↓F_p50_1, ↓F_p52_1, ↓F_p54_1, ↓F_p56_1, ↓F_p58_1, ↓F_pT_1, ↓r_iconst, ↓L_ist_n3, ↓L_ist_n3L, ↓L_ild_n3, ↓F_g48_2, ↓F_g50_2, ↓F_g52_2, ↓F_g54_2, ↓F_g56_2, ↓F_g58_2, ↓F_gT_2, ↓A_n9, ↓A_n10, ↓A_n12, ↓A_n13, ↓A_n15, ↓A_n16, ↓A_n25, ↓A_n26, ↓A_n28, ↓A_n29, ↓A_n31, ↓A_n32, ↓A_n47, ↓A_nT, ↓r_icge_t, ↓r_icge_f, ↓J_X3_begin_34, ↓r_lconst, ↓A_lp, ↓A_lp71, ↓L_iinc3, ↓r_goto, ↓J_X3_begin_12, ↓r_return, ↓U_X3_begin_0, ↓U_X3_begin_34, ↓zthen_v, ↓zthen_0, zU_eq, zU_nc, zU_nj]
  exact c_bg_loop ht 60 0 _ (by omega) (by omega)
set_option maxRecDepth 20000 in
theorem m_tp_loop {t s n : Int} (ht : 0 ≤ t ∧ t < 6) : ∀ (m : Nat) (k : Int) (τ : zM), 0 ≤ k → k + m = 60 → zres 186 C_X7_tape_75 [vR 60, vI t, vI s, vI n, vI k] [] τ = some (some (vI 1), clrF 71 (60 * t) m k τ) := by
  intro m
  induction m with
  | zero =>
    intro k σ hk hm
    simp (disch := first | exact z_tt rfl | assumption | omega | (simp (disch := omega) only [zU_eq, zU_nc, zU_nj]; omega)) only [↓L_ild_n1, ↓I_X7_isTape, ↓r_ifne_t, ↓r_ifne_f, ↓J_X7_tape_9, ↓r_iconst, ↓r_ireturn, ↓L_ild_n2, ↓r_i2l, ↓r_ldc2w, ↓I_X7_in, ↓r_ifeq_t, ↓r_ifeq_f, ↓J_X7_tape_34, ↓r_iceq_t, ↓r_iceq_f, ↓J_X7_tape_37, ↓L_ild_n3, ↓r_bipush, ↓r_icle_t, ↓r_icle_f, ↓J_X7_tape_49, ↓r_ifge_t, ↓r_ifge_f, ↓L_ald_n0, ↓F_g60_20, ↓A_p3, ↓A_p4, ↓A_p5, ↓A_p6, ↓A_p7, ↓A_p9, ↓A_p10, ↓A_p12, ↓A_p13, ↓A_p15, ↓A_p16, ↓A_p19, ↓A_p20, ↓A_p21, ↓A_p22, ↓A_p23, ↓A_p25, ↓A_p26, ↓A_p28, ↓A_p29, ↓A_p31, ↓A_p32, ↓A_p34, ↓A_p36, ↓A_p37, ↓A_p38, ↓A_p39, ↓A_p41, ↓A_p42, ↓A_p43, ↓A_p44, ↓A_p61, ↓A_p62, ↓A_p63, ↓A_p65, ↓A_p66, ↓A_p67, ↓A_p68, ↓A_p69, ↓A_p70, ↓A_pN, ↓A_pT, ↓F_g60_21, ↓r_icne_t, ↓r_icne_f, ↓J_X7_tape_70, ↓r_goto, ↓J_X7_tape_71, ↓L_ist4, ↓L_ist4L, ↓L_ild4, ↓r_icge_t, ↓r_icge_f, ↓J_X7_tape_101, ↓F_g60_22, ↓r_imul, ↓r_iadd, ↓r_lconst, ↓A_lp, ↓A_lp71, ↓L_iinc4, ↓J_X7_tape_75, ↓U_X7_tape_0, ↓U_X7_tape_9, ↓U_X7_tape_34, ↓U_X7_tape_37, ↓U_X7_tape_49, ↓U_X7_tape_70, ↓U_X7_tape_71, ↓U_X7_tape_75, ↓U_X7_tape_101, ↓zthen_v, ↓zthen_0, zU_eq, zU_nc, zU_nj, clrF]
  | succ m ih =>
    intro k σ hk hm
    rw [U_X7_tape_75, clrF]
    simp (disch := first | exact z_tt rfl | assumption | omega | (simp (disch := omega) only [zU_eq, zU_nc, zU_nj]; omega)) only [↓L_ild_n1, ↓I_X7_isTape, ↓r_ifne_t, ↓r_ifne_f, ↓J_X7_tape_9, ↓r_iconst, ↓r_ireturn, ↓L_ild_n2, ↓r_i2l, ↓r_ldc2w, ↓I_X7_in, ↓r_ifeq_t, ↓r_ifeq_f, ↓J_X7_tape_34, ↓r_iceq_t, ↓r_iceq_f, ↓J_X7_tape_37, ↓L_ild_n3, ↓r_bipush, ↓r_icle_t, ↓r_icle_f, ↓J_X7_tape_49, ↓r_ifge_t, ↓r_ifge_f, ↓L_ald_n0, ↓F_g60_20, ↓A_p3, ↓A_p4, ↓A_p5, ↓A_p6, ↓A_p7, ↓A_p9, ↓A_p10, ↓A_p12, ↓A_p13, ↓A_p15, ↓A_p16, ↓A_p19, ↓A_p20, ↓A_p21, ↓A_p22, ↓A_p23, ↓A_p25, ↓A_p26, ↓A_p28, ↓A_p29, ↓A_p31, ↓A_p32, ↓A_p34, ↓A_p36, ↓A_p37, ↓A_p38, ↓A_p39, ↓A_p41, ↓A_p42, ↓A_p43, ↓A_p44, ↓A_p61, ↓A_p62, ↓A_p63, ↓A_p65, ↓A_p66, ↓A_p67, ↓A_p68, ↓A_p69, ↓A_p70, ↓A_pN, ↓A_pT, ↓F_g60_21, ↓r_icne_t, ↓r_icne_f, ↓J_X7_tape_70, ↓r_goto, ↓J_X7_tape_71, ↓L_ist4, ↓L_ist4L, ↓L_ild4, ↓r_icge_t, ↓r_icge_f, ↓J_X7_tape_101, ↓F_g60_22, ↓r_imul, ↓r_iadd, ↓r_lconst, ↓A_lp, ↓A_lp71, ↓L_iinc4, ↓J_X7_tape_75, ↓U_X7_tape_0, ↓U_X7_tape_9, ↓U_X7_tape_34, ↓U_X7_tape_37, ↓U_X7_tape_49, ↓U_X7_tape_70, ↓U_X7_tape_71, ↓U_X7_tape_101, ↓zthen_v, ↓zthen_0, zU_eq, zU_nc, zU_nj]
    exact ih (k + 1) _ (by omega) (by omega)
def RelP (σ τ : zM) : Prop := ∀ t : Int, 0 ≤ t → t < 6 → (τ 69 t = σ (48 + 2 * t) 0 ∧ -1 ≤ σ (48 + 2 * t) 0 ∧ σ (48 + 2 * t) 0 ≤ 4) ∧ (τ 70 t = σ (48 + 2 * t) 1 ∧ 0 ≤ σ (48 + 2 * t) 1 ∧ σ (48 + 2 * t) 1 ≤ 60) ∧ (∀ q : Int, 0 ≤ q → q < 60 → τ 71 (60 * t + q) = σ (49 + 2 * t) q ∧ -9223372036854775808 ≤ σ (49 + 2 * t) q ∧ σ (49 + 2 * t) q < 9223372036854775808)
def FrP (σ σ1 : zM) : Prop := ∀ c j : Int, (c < 48 ∨ 59 < c) → σ1 c j = σ c j
def FrQ (τ τ1 : zM) : Prop := ∀ c j : Int, (c < 69 ∨ 71 < c) → τ1 c j = τ c j
def SameP (k : Int → zV) (σ τ : zM) (xc xm : Option (Option zV × zM)) : Prop := ∃ r σ1 τ1, xc = some (some (k r), σ1) ∧ xm = some (some (k r), τ1) ∧ RelP σ1 τ1 ∧ FrP σ σ1 ∧ FrQ τ τ1
theorem SameP_id {k : Int → zV} {σ τ : zM} {xc xm : Option (Option zV × zM)} (R : RelP σ τ) (r : Int) (h1 : xc = some (some (k r), σ)) (h2 : xm = some (some (k r), τ)) : SameP k σ τ xc xm := ⟨r, σ, τ, h1, h2, R, fun _ _ _ => rfl, fun _ _ _ => rfl⟩
set_option maxRecDepth 20000 in
set_option maxHeartbeats 4000000 in
theorem op_tape {σ τ : zM} {t s n : Int} (R : RelP σ τ) (ht : -2147483648 ≤ t ∧ t < 2147483648) (hs : -2147483648 ≤ s ∧ s < 2147483648) (hn : -2147483648 ≤ n ∧ n < 2147483648) : SameP vI σ τ (zcall 81 [vR 0, vI t, vI s, vI n] σ) (zcall 186 [vR 60, vI t, vI s, vI n] τ) := by
  by_cases q1 : 0 ≤ t ∧ t < 6
  · have c1 := c_X6_isTape_t (σ := σ) (p := t) q1
    have m1 := m_isTape_t (σ := τ) (p := t) q1
    by_cases q2 : -1 ≤ s ∧ s ≤ 4
    · have m2 := m_in_t (σ := τ) (v := s) (lo := -1) (hi := 4) (by omega)
      by_cases q3 : s = -1
      · refine ⟨1, clrF (49 + 2 * t) 0 60 0 (zU (zU σ (48 + 2 * t) 0 s) (48 + 2 * t) 1 0), clrF 71 (60 * t) 60 0 (zU (zU τ 69 t s) 70 t 0), ?_, ?_, ?_, ?_, ?_⟩
        · have c2 := c_begin (σ := σ) (t := t) (s := s) (n := 0) q1
          rw [S_X6_tape]
          simp (disch := first | exact z_tt rfl | assumption | omega | (simp (disch := omega) only [zU_eq, zU_nc, zU_nj]; omega)) only [↓L_ild_n1, ↓I_X6_isTape, ↓r_ifne_t, ↓r_ifne_f, ↓J_X6_tape_9, ↓r_iconst, ↓r_ireturn, ↓L_ild_n2, ↓r_iclt_t, ↓r_iclt_f, ↓J_X6_tape_29, ↓r_icgt_t, ↓r_icgt_f, ↓r_iflt_t, ↓r_iflt_f, ↓J_X6_tape_32, ↓L_ild_n3, ↓r_bipush, ↓r_icle_t, ↓r_icle_f, ↓J_X6_tape_43, ↓r_ifge_t, ↓r_ifge_f, ↓L_ald_n0, ↓F_g0_7, ↓A_a2, ↓A_a18, ↓A_a40, ↓A_a47, ↓J_X6_tape_58, ↓r_goto, ↓J_X6_tape_59, ↓I_X3_begin_T, ↓U_X6_tape_0, ↓U_X6_tape_9, ↓U_X6_tape_29, ↓U_X6_tape_32, ↓U_X6_tape_43, ↓U_X6_tape_58, ↓U_X6_tape_59, ↓zthen_v, ↓zthen_0, zU_eq, zU_nc, zU_nj, c1, c2]
        · rw [S_X7_tape]
          simp (disch := first | exact z_tt rfl | assumption | omega | (simp (disch := omega) only [zU_eq, zU_nc, zU_nj]; omega)) only [↓L_ild_n1, ↓I_X7_isTape, ↓r_ifne_t, ↓r_ifne_f, ↓J_X7_tape_9, ↓r_iconst, ↓r_ireturn, ↓L_ild_n2, ↓r_i2l, ↓r_ldc2w, ↓I_X7_in, ↓r_ifeq_t, ↓r_ifeq_f, ↓J_X7_tape_34, ↓r_iceq_t, ↓r_iceq_f, ↓J_X7_tape_37, ↓L_ild_n3, ↓r_bipush, ↓r_icle_t, ↓r_icle_f, ↓J_X7_tape_49, ↓r_ifge_t, ↓r_ifge_f, ↓L_ald_n0, ↓F_g60_20, ↓A_p3, ↓A_p4, ↓A_p5, ↓A_p6, ↓A_p7, ↓A_p9, ↓A_p10, ↓A_p12, ↓A_p13, ↓A_p15, ↓A_p16, ↓A_p19, ↓A_p20, ↓A_p21, ↓A_p22, ↓A_p23, ↓A_p25, ↓A_p26, ↓A_p28, ↓A_p29, ↓A_p31, ↓A_p32, ↓A_p34, ↓A_p36, ↓A_p37, ↓A_p38, ↓A_p39, ↓A_p41, ↓A_p42, ↓A_p43, ↓A_p44, ↓A_p61, ↓A_p62, ↓A_p63, ↓A_p65, ↓A_p66, ↓A_p67, ↓A_p68, ↓A_p69, ↓A_p70, ↓A_pN, ↓A_pT, ↓F_g60_21, ↓r_icne_t, ↓r_icne_f, ↓J_X7_tape_70, ↓r_goto, ↓J_X7_tape_71, ↓L_ist4, ↓L_ist4L, ↓L_ild4, ↓r_icge_t, ↓r_icge_f, ↓J_X7_tape_101, ↓F_g60_22, ↓r_imul, ↓r_iadd, ↓r_lconst, ↓A_lp, ↓A_lp71, ↓L_iinc4, ↓J_X7_tape_75, ↓U_X7_tape_0, ↓U_X7_tape_9, ↓U_X7_tape_34, ↓U_X7_tape_37, ↓U_X7_tape_49, ↓U_X7_tape_70, ↓U_X7_tape_71, ↓U_X7_tape_101, ↓zthen_v, ↓zthen_0, zU_eq, zU_nc, zU_nj, m1, m2]
          exact m_tp_loop q1 60 0 _ (by omega) (by omega)
        · intro u a b
          rw [clrF_out _ _ _ _ _ _ _ (by omega), clrF_out _ _ _ _ _ _ _ (by omega), clrF_out _ _ _ _ _ _ _ (by omega), clrF_out _ _ _ _ _ _ _ (by omega)]
          by_cases e : u = t
          · subst e
            refine ⟨by simp (disch := omega) only [zU_ow, zU_eq, true_and]; omega, by simp (disch := omega) only [zU_ow, zU_eq, true_and]; omega, fun q c d => ?_⟩
            rw [clrF_in _ _ _ _ _ _ (by omega) (by omega), clrF_in _ _ _ _ _ _ (by omega) (by omega)]
            omega
          · have h := R u a b
            refine ⟨by simp (disch := omega) only [zU_ow, zU_eq]; exact h.1, by simp (disch := omega) only [zU_ow, zU_eq]; exact h.2.1, fun q c d => ?_⟩
            rw [clrF_out _ _ _ _ _ _ _ (by omega), clrF_out _ _ _ _ _ _ _ (by omega)]
            simp (disch := omega) only [zU_ow]
            exact h.2.2 q c d
        · intro c j h
          rw [clrF_out _ _ _ _ _ _ _ (by omega)]
          simp (disch := omega) only [zU_ow]
        · intro c j h
          rw [clrF_out _ _ _ _ _ _ _ (by omega)]
          simp (disch := omega) only [zU_ow]
      · by_cases q4 : 60 < n
        · refine SameP_id R (-2) ?_ ?_
          · rw [S_X6_tape]
            simp (disch := first | exact z_tt rfl | assumption | omega | (simp (disch := omega) only [zU_eq, zU_nc, zU_nj]; omega)) only [↓L_ild_n1, ↓I_X6_isTape, ↓r_ifne_t, ↓r_ifne_f, ↓J_X6_tape_9, ↓r_iconst, ↓r_ireturn, ↓L_ild_n2, ↓r_iclt_t, ↓r_iclt_f, ↓J_X6_tape_29, ↓r_icgt_t, ↓r_icgt_f, ↓r_iflt_t, ↓r_iflt_f, ↓J_X6_tape_32, ↓L_ild_n3, ↓r_bipush, ↓r_icle_t, ↓r_icle_f, ↓J_X6_tape_43, ↓r_ifge_t, ↓r_ifge_f, ↓L_ald_n0, ↓F_g0_7, ↓A_a2, ↓A_a18, ↓A_a40, ↓A_a47, ↓J_X6_tape_58, ↓r_goto, ↓J_X6_tape_59, ↓I_X3_begin_T, ↓U_X6_tape_0, ↓U_X6_tape_9, ↓U_X6_tape_29, ↓U_X6_tape_32, ↓U_X6_tape_43, ↓U_X6_tape_58, ↓U_X6_tape_59, ↓zthen_v, ↓zthen_0, zU_eq, zU_nc, zU_nj, c1]
          · rw [S_X7_tape]
            simp (disch := first | exact z_tt rfl | assumption | omega | (simp (disch := omega) only [zU_eq, zU_nc, zU_nj]; omega)) only [↓L_ild_n1, ↓I_X7_isTape, ↓r_ifne_t, ↓r_ifne_f, ↓J_X7_tape_9, ↓r_iconst, ↓r_ireturn, ↓L_ild_n2, ↓r_i2l, ↓r_ldc2w, ↓I_X7_in, ↓r_ifeq_t, ↓r_ifeq_f, ↓J_X7_tape_34, ↓r_iceq_t, ↓r_iceq_f, ↓J_X7_tape_37, ↓L_ild_n3, ↓r_bipush, ↓r_icle_t, ↓r_icle_f, ↓J_X7_tape_49, ↓r_ifge_t, ↓r_ifge_f, ↓L_ald_n0, ↓F_g60_20, ↓A_p3, ↓A_p4, ↓A_p5, ↓A_p6, ↓A_p7, ↓A_p9, ↓A_p10, ↓A_p12, ↓A_p13, ↓A_p15, ↓A_p16, ↓A_p19, ↓A_p20, ↓A_p21, ↓A_p22, ↓A_p23, ↓A_p25, ↓A_p26, ↓A_p28, ↓A_p29, ↓A_p31, ↓A_p32, ↓A_p34, ↓A_p36, ↓A_p37, ↓A_p38, ↓A_p39, ↓A_p41, ↓A_p42, ↓A_p43, ↓A_p44, ↓A_p61, ↓A_p62, ↓A_p63, ↓A_p65, ↓A_p66, ↓A_p67, ↓A_p68, ↓A_p69, ↓A_p70, ↓A_pN, ↓A_pT, ↓F_g60_21, ↓r_icne_t, ↓r_icne_f, ↓J_X7_tape_70, ↓r_goto, ↓J_X7_tape_71, ↓L_ist4, ↓L_ist4L, ↓L_ild4, ↓r_icge_t, ↓r_icge_f, ↓J_X7_tape_101, ↓F_g60_22, ↓r_imul, ↓r_iadd, ↓r_lconst, ↓A_lp, ↓A_lp71, ↓L_iinc4, ↓J_X7_tape_75, ↓U_X7_tape_0, ↓U_X7_tape_9, ↓U_X7_tape_34, ↓U_X7_tape_37, ↓U_X7_tape_49, ↓U_X7_tape_70, ↓U_X7_tape_71, ↓U_X7_tape_75, ↓U_X7_tape_101, ↓zthen_v, ↓zthen_0, zU_eq, zU_nc, zU_nj, m1, m2]
        · by_cases q5 : n < 0
          · refine SameP_id R (-14) ?_ ?_
            · rw [S_X6_tape]
              simp (disch := first | exact z_tt rfl | assumption | omega | (simp (disch := omega) only [zU_eq, zU_nc, zU_nj]; omega)) only [↓L_ild_n1, ↓I_X6_isTape, ↓r_ifne_t, ↓r_ifne_f, ↓J_X6_tape_9, ↓r_iconst, ↓r_ireturn, ↓L_ild_n2, ↓r_iclt_t, ↓r_iclt_f, ↓J_X6_tape_29, ↓r_icgt_t, ↓r_icgt_f, ↓r_iflt_t, ↓r_iflt_f, ↓J_X6_tape_32, ↓L_ild_n3, ↓r_bipush, ↓r_icle_t, ↓r_icle_f, ↓J_X6_tape_43, ↓r_ifge_t, ↓r_ifge_f, ↓L_ald_n0, ↓F_g0_7, ↓A_a2, ↓A_a18, ↓A_a40, ↓A_a47, ↓J_X6_tape_58, ↓r_goto, ↓J_X6_tape_59, ↓I_X3_begin_T, ↓U_X6_tape_0, ↓U_X6_tape_9, ↓U_X6_tape_29, ↓U_X6_tape_32, ↓U_X6_tape_43, ↓U_X6_tape_58, ↓U_X6_tape_59, ↓zthen_v, ↓zthen_0, zU_eq, zU_nc, zU_nj, c1]
            · rw [S_X7_tape]
              simp (disch := first | exact z_tt rfl | assumption | omega | (simp (disch := omega) only [zU_eq, zU_nc, zU_nj]; omega)) only [↓L_ild_n1, ↓I_X7_isTape, ↓r_ifne_t, ↓r_ifne_f, ↓J_X7_tape_9, ↓r_iconst, ↓r_ireturn, ↓L_ild_n2, ↓r_i2l, ↓r_ldc2w, ↓I_X7_in, ↓r_ifeq_t, ↓r_ifeq_f, ↓J_X7_tape_34, ↓r_iceq_t, ↓r_iceq_f, ↓J_X7_tape_37, ↓L_ild_n3, ↓r_bipush, ↓r_icle_t, ↓r_icle_f, ↓J_X7_tape_49, ↓r_ifge_t, ↓r_ifge_f, ↓L_ald_n0, ↓F_g60_20, ↓A_p3, ↓A_p4, ↓A_p5, ↓A_p6, ↓A_p7, ↓A_p9, ↓A_p10, ↓A_p12, ↓A_p13, ↓A_p15, ↓A_p16, ↓A_p19, ↓A_p20, ↓A_p21, ↓A_p22, ↓A_p23, ↓A_p25, ↓A_p26, ↓A_p28, ↓A_p29, ↓A_p31, ↓A_p32, ↓A_p34, ↓A_p36, ↓A_p37, ↓A_p38, ↓A_p39, ↓A_p41, ↓A_p42, ↓A_p43, ↓A_p44, ↓A_p61, ↓A_p62, ↓A_p63, ↓A_p65, ↓A_p66, ↓A_p67, ↓A_p68, ↓A_p69, ↓A_p70, ↓A_pN, ↓A_pT, ↓F_g60_21, ↓r_icne_t, ↓r_icne_f, ↓J_X7_tape_70, ↓r_goto, ↓J_X7_tape_71, ↓L_ist4, ↓L_ist4L, ↓L_ild4, ↓r_icge_t, ↓r_icge_f, ↓J_X7_tape_101, ↓F_g60_22, ↓r_imul, ↓r_iadd, ↓r_lconst, ↓A_lp, ↓A_lp71, ↓L_iinc4, ↓J_X7_tape_75, ↓U_X7_tape_0, ↓U_X7_tape_9, ↓U_X7_tape_34, ↓U_X7_tape_37, ↓U_X7_tape_49, ↓U_X7_tape_70, ↓U_X7_tape_71, ↓U_X7_tape_75, ↓U_X7_tape_101, ↓zthen_v, ↓zthen_0, zU_eq, zU_nc, zU_nj, m1, m2]
          · refine ⟨1, clrF (49 + 2 * t) 0 60 0 (zU (zU σ (48 + 2 * t) 0 s) (48 + 2 * t) 1 n), clrF 71 (60 * t) 60 0 (zU (zU τ 69 t s) 70 t n), ?_, ?_, ?_, ?_, ?_⟩
            · have c2 := c_begin (σ := σ) (t := t) (s := s) (n := n) q1
              rw [S_X6_tape]
              simp (disch := first | exact z_tt rfl | assumption | omega | (simp (disch := omega) only [zU_eq, zU_nc, zU_nj]; omega)) only [↓L_ild_n1, ↓I_X6_isTape, ↓r_ifne_t, ↓r_ifne_f, ↓J_X6_tape_9, ↓r_iconst, ↓r_ireturn, ↓L_ild_n2, ↓r_iclt_t, ↓r_iclt_f, ↓J_X6_tape_29, ↓r_icgt_t, ↓r_icgt_f, ↓r_iflt_t, ↓r_iflt_f, ↓J_X6_tape_32, ↓L_ild_n3, ↓r_bipush, ↓r_icle_t, ↓r_icle_f, ↓J_X6_tape_43, ↓r_ifge_t, ↓r_ifge_f, ↓L_ald_n0, ↓F_g0_7, ↓A_a2, ↓A_a18, ↓A_a40, ↓A_a47, ↓J_X6_tape_58, ↓r_goto, ↓J_X6_tape_59, ↓I_X3_begin_T, ↓U_X6_tape_0, ↓U_X6_tape_9, ↓U_X6_tape_29, ↓U_X6_tape_32, ↓U_X6_tape_43, ↓U_X6_tape_58, ↓U_X6_tape_59, ↓zthen_v, ↓zthen_0, zU_eq, zU_nc, zU_nj, c1, c2]
            · rw [S_X7_tape]
              simp (disch := first | exact z_tt rfl | assumption | omega | (simp (disch := omega) only [zU_eq, zU_nc, zU_nj]; omega)) only [↓L_ild_n1, ↓I_X7_isTape, ↓r_ifne_t, ↓r_ifne_f, ↓J_X7_tape_9, ↓r_iconst, ↓r_ireturn, ↓L_ild_n2, ↓r_i2l, ↓r_ldc2w, ↓I_X7_in, ↓r_ifeq_t, ↓r_ifeq_f, ↓J_X7_tape_34, ↓r_iceq_t, ↓r_iceq_f, ↓J_X7_tape_37, ↓L_ild_n3, ↓r_bipush, ↓r_icle_t, ↓r_icle_f, ↓J_X7_tape_49, ↓r_ifge_t, ↓r_ifge_f, ↓L_ald_n0, ↓F_g60_20, ↓A_p3, ↓A_p4, ↓A_p5, ↓A_p6, ↓A_p7, ↓A_p9, ↓A_p10, ↓A_p12, ↓A_p13, ↓A_p15, ↓A_p16, ↓A_p19, ↓A_p20, ↓A_p21, ↓A_p22, ↓A_p23, ↓A_p25, ↓A_p26, ↓A_p28, ↓A_p29, ↓A_p31, ↓A_p32, ↓A_p34, ↓A_p36, ↓A_p37, ↓A_p38, ↓A_p39, ↓A_p41, ↓A_p42, ↓A_p43, ↓A_p44, ↓A_p61, ↓A_p62, ↓A_p63, ↓A_p65, ↓A_p66, ↓A_p67, ↓A_p68, ↓A_p69, ↓A_p70, ↓A_pN, ↓A_pT, ↓F_g60_21, ↓r_icne_t, ↓r_icne_f, ↓J_X7_tape_70, ↓r_goto, ↓J_X7_tape_71, ↓L_ist4, ↓L_ist4L, ↓L_ild4, ↓r_icge_t, ↓r_icge_f, ↓J_X7_tape_101, ↓F_g60_22, ↓r_imul, ↓r_iadd, ↓r_lconst, ↓A_lp, ↓A_lp71, ↓L_iinc4, ↓J_X7_tape_75, ↓U_X7_tape_0, ↓U_X7_tape_9, ↓U_X7_tape_34, ↓U_X7_tape_37, ↓U_X7_tape_49, ↓U_X7_tape_70, ↓U_X7_tape_71, ↓U_X7_tape_101, ↓zthen_v, ↓zthen_0, zU_eq, zU_nc, zU_nj, m1, m2]
              exact m_tp_loop q1 60 0 _ (by omega) (by omega)
            · intro u a b
              rw [clrF_out _ _ _ _ _ _ _ (by omega), clrF_out _ _ _ _ _ _ _ (by omega), clrF_out _ _ _ _ _ _ _ (by omega), clrF_out _ _ _ _ _ _ _ (by omega)]
              by_cases e : u = t
              · subst e
                refine ⟨by simp (disch := omega) only [zU_ow, zU_eq, true_and]; omega, by simp (disch := omega) only [zU_ow, zU_eq, true_and]; omega, fun q c d => ?_⟩
                rw [clrF_in _ _ _ _ _ _ (by omega) (by omega), clrF_in _ _ _ _ _ _ (by omega) (by omega)]
                omega
              · have h := R u a b
                refine ⟨by simp (disch := omega) only [zU_ow, zU_eq]; exact h.1, by simp (disch := omega) only [zU_ow, zU_eq]; exact h.2.1, fun q c d => ?_⟩
                rw [clrF_out _ _ _ _ _ _ _ (by omega), clrF_out _ _ _ _ _ _ _ (by omega)]
                simp (disch := omega) only [zU_ow]
                exact h.2.2 q c d
            · intro c j h
              rw [clrF_out _ _ _ _ _ _ _ (by omega)]
              simp (disch := omega) only [zU_ow]
            · intro c j h
              rw [clrF_out _ _ _ _ _ _ _ (by omega)]
              simp (disch := omega) only [zU_ow]
    · have m2 := m_in_f (σ := τ) (v := s) (lo := -1) (hi := 4) (by omega)
      refine SameP_id R (-2) ?_ ?_
      · rw [S_X6_tape]
        by_cases q3 : s < -1
        · simp (disch := first | exact z_tt rfl | assumption | omega | (simp (disch := omega) only [zU_eq, zU_nc, zU_nj]; omega)) only [↓L_ild_n1, ↓I_X6_isTape, ↓r_ifne_t, ↓r_ifne_f, ↓J_X6_tape_9, ↓r_iconst, ↓r_ireturn, ↓L_ild_n2, ↓r_iclt_t, ↓r_iclt_f, ↓J_X6_tape_29, ↓r_icgt_t, ↓r_icgt_f, ↓r_iflt_t, ↓r_iflt_f, ↓J_X6_tape_32, ↓L_ild_n3, ↓r_bipush, ↓r_icle_t, ↓r_icle_f, ↓J_X6_tape_43, ↓r_ifge_t, ↓r_ifge_f, ↓L_ald_n0, ↓F_g0_7, ↓A_a2, ↓A_a18, ↓A_a40, ↓A_a47, ↓J_X6_tape_58, ↓r_goto, ↓J_X6_tape_59, ↓I_X3_begin_T, ↓U_X6_tape_0, ↓U_X6_tape_9, ↓U_X6_tape_29, ↓U_X6_tape_32, ↓U_X6_tape_43, ↓U_X6_tape_58, ↓U_X6_tape_59, ↓zthen_v, ↓zthen_0, zU_eq, zU_nc, zU_nj, c1]
        · simp (disch := first | exact z_tt rfl | assumption | omega | (simp (disch := omega) only [zU_eq, zU_nc, zU_nj]; omega)) only [↓L_ild_n1, ↓I_X6_isTape, ↓r_ifne_t, ↓r_ifne_f, ↓J_X6_tape_9, ↓r_iconst, ↓r_ireturn, ↓L_ild_n2, ↓r_iclt_t, ↓r_iclt_f, ↓J_X6_tape_29, ↓r_icgt_t, ↓r_icgt_f, ↓r_iflt_t, ↓r_iflt_f, ↓J_X6_tape_32, ↓L_ild_n3, ↓r_bipush, ↓r_icle_t, ↓r_icle_f, ↓J_X6_tape_43, ↓r_ifge_t, ↓r_ifge_f, ↓L_ald_n0, ↓F_g0_7, ↓A_a2, ↓A_a18, ↓A_a40, ↓A_a47, ↓J_X6_tape_58, ↓r_goto, ↓J_X6_tape_59, ↓I_X3_begin_T, ↓U_X6_tape_0, ↓U_X6_tape_9, ↓U_X6_tape_29, ↓U_X6_tape_32, ↓U_X6_tape_43, ↓U_X6_tape_58, ↓U_X6_tape_59, ↓zthen_v, ↓zthen_0, zU_eq, zU_nc, zU_nj, c1]
      · rw [S_X7_tape]
        simp (disch := first | exact z_tt rfl | assumption | omega | (simp (disch := omega) only [zU_eq, zU_nc, zU_nj]; omega)) only [↓L_ild_n1, ↓I_X7_isTape, ↓r_ifne_t, ↓r_ifne_f, ↓J_X7_tape_9, ↓r_iconst, ↓r_ireturn, ↓L_ild_n2, ↓r_i2l, ↓r_ldc2w, ↓I_X7_in, ↓r_ifeq_t, ↓r_ifeq_f, ↓J_X7_tape_34, ↓r_iceq_t, ↓r_iceq_f, ↓J_X7_tape_37, ↓L_ild_n3, ↓r_bipush, ↓r_icle_t, ↓r_icle_f, ↓J_X7_tape_49, ↓r_ifge_t, ↓r_ifge_f, ↓L_ald_n0, ↓F_g60_20, ↓A_p3, ↓A_p4, ↓A_p5, ↓A_p6, ↓A_p7, ↓A_p9, ↓A_p10, ↓A_p12, ↓A_p13, ↓A_p15, ↓A_p16, ↓A_p19, ↓A_p20, ↓A_p21, ↓A_p22, ↓A_p23, ↓A_p25, ↓A_p26, ↓A_p28, ↓A_p29, ↓A_p31, ↓A_p32, ↓A_p34, ↓A_p36, ↓A_p37, ↓A_p38, ↓A_p39, ↓A_p41, ↓A_p42, ↓A_p43, ↓A_p44, ↓A_p61, ↓A_p62, ↓A_p63, ↓A_p65, ↓A_p66, ↓A_p67, ↓A_p68, ↓A_p69, ↓A_p70, ↓A_pN, ↓A_pT, ↓F_g60_21, ↓r_icne_t, ↓r_icne_f, ↓J_X7_tape_70, ↓r_goto, ↓J_X7_tape_71, ↓L_ist4, ↓L_ist4L, ↓L_ild4, ↓r_icge_t, ↓r_icge_f, ↓J_X7_tape_101, ↓F_g60_22, ↓r_imul, ↓r_iadd, ↓r_lconst, ↓A_lp, ↓A_lp71, ↓L_iinc4, ↓J_X7_tape_75, ↓U_X7_tape_0, ↓U_X7_tape_9, ↓U_X7_tape_34, ↓U_X7_tape_37, ↓U_X7_tape_49, ↓U_X7_tape_70, ↓U_X7_tape_71, ↓U_X7_tape_75, ↓U_X7_tape_101, ↓zthen_v, ↓zthen_0, zU_eq, zU_nc, zU_nj, m1, m2]
  · have c1 := c_X6_isTape_f (σ := σ) (p := t) (by omega)
    have m1 := m_isTape_f (σ := τ) (p := t) (by omega)
    refine SameP_id R (-1) ?_ ?_
    · rw [S_X6_tape]
      simp (disch := first | exact z_tt rfl | assumption | omega | (simp (disch := omega) only [zU_eq, zU_nc, zU_nj]; omega)) only [↓L_ild_n1, ↓I_X6_isTape, ↓r_ifne_t, ↓r_ifne_f, ↓J_X6_tape_9, ↓r_iconst, ↓r_ireturn, ↓L_ild_n2, ↓r_iclt_t, ↓r_iclt_f, ↓J_X6_tape_29, ↓r_icgt_t, ↓r_icgt_f, ↓r_iflt_t, ↓r_iflt_f, ↓J_X6_tape_32, ↓L_ild_n3, ↓r_bipush, ↓r_icle_t, ↓r_icle_f, ↓J_X6_tape_43, ↓r_ifge_t, ↓r_ifge_f, ↓L_ald_n0, ↓F_g0_7, ↓A_a2, ↓A_a18, ↓A_a40, ↓A_a47, ↓J_X6_tape_58, ↓r_goto, ↓J_X6_tape_59, ↓I_X3_begin_T, ↓U_X6_tape_0, ↓U_X6_tape_9, ↓U_X6_tape_29, ↓U_X6_tape_32, ↓U_X6_tape_43, ↓U_X6_tape_58, ↓U_X6_tape_59, ↓zthen_v, ↓zthen_0, zU_eq, zU_nc, zU_nj, c1]
    · rw [S_X7_tape]
      simp (disch := first | exact z_tt rfl | assumption | omega | (simp (disch := omega) only [zU_eq, zU_nc, zU_nj]; omega)) only [↓L_ild_n1, ↓I_X7_isTape, ↓r_ifne_t, ↓r_ifne_f, ↓J_X7_tape_9, ↓r_iconst, ↓r_ireturn, ↓L_ild_n2, ↓r_i2l, ↓r_ldc2w, ↓I_X7_in, ↓r_ifeq_t, ↓r_ifeq_f, ↓J_X7_tape_34, ↓r_iceq_t, ↓r_iceq_f, ↓J_X7_tape_37, ↓L_ild_n3, ↓r_bipush, ↓r_icle_t, ↓r_icle_f, ↓J_X7_tape_49, ↓r_ifge_t, ↓r_ifge_f, ↓L_ald_n0, ↓F_g60_20, ↓A_p3, ↓A_p4, ↓A_p5, ↓A_p6, ↓A_p7, ↓A_p9, ↓A_p10, ↓A_p12, ↓A_p13, ↓A_p15, ↓A_p16, ↓A_p19, ↓A_p20, ↓A_p21, ↓A_p22, ↓A_p23, ↓A_p25, ↓A_p26, ↓A_p28, ↓A_p29, ↓A_p31, ↓A_p32, ↓A_p34, ↓A_p36, ↓A_p37, ↓A_p38, ↓A_p39, ↓A_p41, ↓A_p42, ↓A_p43, ↓A_p44, ↓A_p61, ↓A_p62, ↓A_p63, ↓A_p65, ↓A_p66, ↓A_p67, ↓A_p68, ↓A_p69, ↓A_p70, ↓A_pN, ↓A_pT, ↓F_g60_21, ↓r_icne_t, ↓r_icne_f, ↓J_X7_tape_70, ↓r_goto, ↓J_X7_tape_71, ↓L_ist4, ↓L_ist4L, ↓L_ild4, ↓r_icge_t, ↓r_icge_f, ↓J_X7_tape_101, ↓F_g60_22, ↓r_imul, ↓r_iadd, ↓r_lconst, ↓A_lp, ↓A_lp71, ↓L_iinc4, ↓J_X7_tape_75, ↓U_X7_tape_0, ↓U_X7_tape_9, ↓U_X7_tape_34, ↓U_X7_tape_37, ↓U_X7_tape_49, ↓U_X7_tape_70, ↓U_X7_tape_71, ↓U_X7_tape_75, ↓U_X7_tape_101, ↓zthen_v, ↓zthen_0, zU_eq, zU_nc, zU_nj, m1]
