/-! the greatest common divisor, lowest terms -/
def zg (x y : Int) : Int := ((Nat.gcd x.toNat y.toNat : Nat) : Int)
theorem zg_0 {x : Int} (h : 0 ≤ x) : zg x 0 = x := by
  unfold zg
  rw [show (0 : Int).toNat = 0 from rfl, Nat.gcd_zero_right]
  omega
theorem zg_step {x y : Int} (hx : 0 ≤ x) (hy : 0 < y) : zg x y = zg y (x % y) := by
  obtain ⟨m, rfl⟩ := Int.eq_ofNat_of_zero_le hx
  obtain ⟨n, rfl⟩ := Int.eq_ofNat_of_zero_le (Int.le_of_lt hy)
  unfold zg
  rw [← Int.natCast_emod, Int.toNat_natCast, Int.toNat_natCast, Int.toNat_natCast, Nat.gcd_comm m n, Nat.gcd_rec n m, Nat.gcd_comm]
theorem zg_nonneg (x y : Int) : 0 ≤ zg x y := by unfold zg; omega
theorem zg_pos {x y : Int} (hy : 0 < y) : 0 < zg x y := by
  unfold zg
  have : 0 < Nat.gcd x.toNat y.toNat := Nat.gcd_pos_of_pos_right _ (by omega)
  omega
theorem zg_le {x y : Int} (hy : 0 < y) : zg x y ≤ y := by
  unfold zg
  have : Nat.gcd x.toNat y.toNat ≤ y.toNat := Nat.le_of_dvd (by omega) (Nat.gcd_dvd_right _ _)
  omega
set_option maxRecDepth 20000 in
theorem c_cd_end {σ : zM} {a b x step : Int} {u v : zV} (hs : 0 ≤ step ∧ step < 200) : zres 91 C_X6_commonDivisor_9 [vL a, vU, vL b, vU, vL x, vU, vL 0, vU, vI step, u, v] [] σ = some (some (vL x), σ) := by
  rw [U_X6_commonDivisor_9]
  simp (disch := first | exact z_tt rfl | assumption | omega | (simp (disch := omega) only [zU_eq, zU_nc, zU_nj]; omega)) only [↓L_lld_n0, ↓L_lst4, ↓L_lst4L, ↓L_lld_n2, ↓L_lst6, ↓L_lst6L, ↓r_iconst, ↓L_ist8, ↓L_ist8L, ↓L_ild8, ↓r_sipush, ↓r_icge_t, ↓r_icge_f, ↓J_X6_commonDivisor_45, ↓L_lld6, ↓r_lconst, ↓r_ifeq_t, ↓r_ifeq_f, ↓r_leq_t, ↓r_leq_f, ↓L_lld4, ↓r_lrem, ↓L_lst9, ↓L_lst9L, ↓L_lld9, ↓L_iinc8, ↓r_goto, ↓J_X6_commonDivisor_9, ↓r_lreturn, ↓U_X6_commonDivisor_0, ↓U_X6_commonDivisor_45, ↓zthen_v, ↓zthen_0, zU_eq, zU_nc, zU_nj]
set_option maxRecDepth 20000 in
theorem c_cd_one {σ : zM} {a b x y step : Int} {u v : zV} (hs : 0 ≤ step ∧ step < 200) (hx : 0 ≤ x ∧ x < 4611686018427387904) (hy : 0 < y ∧ y < 4611686018427387904) : zres 91 C_X6_commonDivisor_9 [vL a, vU, vL b, vU, vL x, vU, vL y, vU, vI step, u, v] [] σ = zres 91 C_X6_commonDivisor_9 [vL a, vU, vL b, vU, vL y, vU, vL (x % y), vU, vI (step + 1), vL (x % y), vU] [] σ := by
  rw [U_X6_commonDivisor_9]
  simp (disch := first | exact z_tt rfl | assumption | omega | (simp (disch := omega) only [zU_eq, zU_nc, zU_nj]; omega)) only [↓L_lld_n0, ↓L_lst4, ↓L_lst4L, ↓L_lld_n2, ↓L_lst6, ↓L_lst6L, ↓r_iconst, ↓L_ist8, ↓L_ist8L, ↓L_ild8, ↓r_sipush, ↓r_icge_t, ↓r_icge_f, ↓J_X6_commonDivisor_45, ↓L_lld6, ↓r_lconst, ↓r_ifeq_t, ↓r_ifeq_f, ↓r_leq_t, ↓r_leq_f, ↓L_lld4, ↓r_lrem, ↓L_lst9, ↓L_lst9L, ↓L_lld9, ↓L_iinc8, ↓r_goto, ↓J_X6_commonDivisor_9, ↓r_lreturn, ↓U_X6_commonDivisor_0, ↓U_X6_commonDivisor_45, ↓zthen_v, ↓zthen_0, zU_eq, zU_nc, zU_nj]
theorem c_cd_loop {σ : zM} {a b : Int} : ∀ (k : Nat) (x y step : Int) (u v : zV), 0 ≤ x ∧ x < 4611686018427387904 → 0 ≤ y ∧ y < 4611686018427387904 → y < 2 ^ k → 0 ≤ step ∧ step + 2 * k + 1 ≤ 199 → zres 91 C_X6_commonDivisor_9 [vL a, vU, vL b, vU, vL x, vU, vL y, vU, vI step, u, v] [] σ = some (some (vL (zg x y)), σ) := by
  intro k
  induction k with
  | zero =>
    intro x y step u v hx hy h2 hs
    have h1 : y < 1 := by simpa using h2
    have h0 : y = 0 := by omega
    subst h0
    rw [c_cd_end (by omega), zg_0 hx.1]
  | succ k ih =>
    intro x y step u v hx hy h2 hs
    by_cases h0 : y = 0
    · subst h0
      rw [c_cd_end (by omega), zg_0 hx.1]
    · have hy0 : 0 < y := by omega
      rw [c_cd_one (by omega) hx ⟨hy0, hy.2⟩, zg_step hx.1 hy0]
      have h3 : 0 ≤ x % y := Int.emod_nonneg x (by omega)
      have h4 : x % y < y := Int.emod_lt_of_pos x hy0
      generalize x % y = r at h3 h4 ⊢
      by_cases h5 : r = 0
      · subst h5
        rw [c_cd_end (by omega), zg_0 hy.1]
      · have hr0 : 0 < r := by omega
        rw [c_cd_one (by omega) hy ⟨hr0, by omega⟩, zg_step hy.1 hr0]
        have h6 : 0 ≤ y % r := Int.emod_nonneg y (by omega)
        have h7 : y % r < r := Int.emod_lt_of_pos y hr0
        have h8 : y % r + r ≤ y := by
          have e1 := Int.emod_add_mul_ediv y r
          have e2 : 1 ≤ y / r := (Int.le_ediv_iff_mul_le hr0).mpr (by omega)
          have e3 : r * 1 ≤ r * (y / r) := Int.mul_le_mul_of_nonneg_left e2 (by omega)
          omega
        have e : (2 : Int) ^ (k + 1) = 2 * 2 ^ k := by rw [Int.pow_succ]; omega
        rw [e] at h2
        exact ih r (y % r) (step + 1 + 1) _ _ ⟨h3, by omega⟩ ⟨h6, by omega⟩ (by omega) (by omega)
set_option maxRecDepth 20000 in
theorem c_X6_commonDivisor {σ : zM} {a b : Int} (ha : 0 ≤ a ∧ a < 4611686018427387904) (hb : 0 ≤ b ∧ b < 4611686018427387904) : zcall 91 [vL a, vL b] σ = some (some (vL (zg a b)), σ) := by
  rw [S_X6_commonDivisor]
  simp (disch := first | exact z_tt rfl | assumption | omega | (simp (disch := omega) only [zU_eq, zU_nc, zU_nj]; omega)) only [↓L_lld_n0, ↓L_lst4, ↓L_lst4L, ↓L_lld_n2, ↓L_lst6, ↓L_lst6L, ↓r_iconst, ↓L_ist8, ↓L_ist8L, ↓L_ild8, ↓r_sipush, ↓r_icge_t, ↓r_icge_f, ↓J_X6_commonDivisor_45, ↓L_lld6, ↓r_lconst, ↓r_ifeq_t, ↓r_ifeq_f, ↓r_leq_t, ↓r_leq_f, ↓L_lld4, ↓r_lrem, ↓L_lst9, ↓L_lst9L, ↓L_lld9, ↓L_iinc8, ↓r_goto, ↓J_X6_commonDivisor_9, ↓r_lreturn, ↓U_X6_commonDivisor_0, ↓U_X6_commonDivisor_45, ↓zthen_v, ↓zthen_0, zU_eq, zU_nc, zU_nj]
  exact c_cd_loop 62 a b 0 vU vU ha hb (by have : (2 : Int) ^ 62 = 4611686018427387904 := by decide +kernel
                                           omega) (by omega)
/-- above (part 0) or below the line, in lowest terms -/
def lowT (up low part : Int) : Int := (if part = 0 then up else low) / zg up low
set_option maxRecDepth 20000 in
theorem c_X6_inLowestTerms {σ : zM} {a b part : Int} (ha : 0 ≤ a ∧ a < 4611686018427387904) (hb : 0 ≤ b ∧ b < 4611686018427387904) (hp : -2147483648 ≤ part ∧ part < 2147483648) : zcall 92 [vL a, vL b, vI part] σ = some (some (vL (lowT a b part)), σ) := by
  rw [S_X6_inLowestTerms]
  have hg := zg_nonneg a b
  have hgl : zg a b < 4611686018427387904 := by
    rcases (show b = 0 ∨ 0 < b by omega) with h | h
    · rw [h, zg_0 ha.1]; omega
    · have := zg_le (x := a) h; omega
  unfold lowT
  by_cases h0 : part = 0
  · rw [if_pos h0]
    by_cases h1 : 0 < zg a b
    · simp (disch := first | exact z_tt rfl | assumption | omega | (simp (disch := omega) only [zU_eq, zU_nc, zU_nj]; omega)) only [↓L_lld_n0, ↓L_lld_n2, ↓I_X6_commonDivisor, ↓L_lst5, ↓L_lst5L, ↓L_ild4, ↓r_ifne_t, ↓r_ifne_f, ↓J_X6_inLowestTerms_16, ↓r_goto, ↓J_X6_inLowestTerms_17, ↓L_lst7, ↓L_lst7L, ↓L_lld5, ↓r_lconst, ↓r_ifle_t, ↓r_ifle_f, ↓J_X6_inLowestTerms_34, ↓r_lle_t, ↓r_lle_f, ↓L_lld7, ↓r_ldiv, ↓J_X6_inLowestTerms_36, ↓r_lreturn, ↓U_X6_inLowestTerms_0, ↓U_X6_inLowestTerms_16, ↓U_X6_inLowestTerms_17, ↓U_X6_inLowestTerms_34, ↓U_X6_inLowestTerms_36, ↓zthen_v, ↓zthen_0, zU_eq, zU_nc, zU_nj, c_X6_commonDivisor]
    · have h2 : zg a b = 0 := by omega
      have h3 : b = 0 := by
        by_cases h : b = 0
        · exact h
        · have := zg_pos (x := a) (y := b) (by omega); omega
      have h4 : a = 0 := by rw [h3, zg_0 ha.1] at h2; exact h2
      simp (disch := first | exact z_tt rfl | assumption | omega | (simp (disch := omega) only [zU_eq, zU_nc, zU_nj]; omega)) only [↓L_lld_n0, ↓L_lld_n2, ↓I_X6_commonDivisor, ↓L_lst5, ↓L_lst5L, ↓L_ild4, ↓r_ifne_t, ↓r_ifne_f, ↓J_X6_inLowestTerms_16, ↓r_goto, ↓J_X6_inLowestTerms_17, ↓L_lst7, ↓L_lst7L, ↓L_lld5, ↓r_lconst, ↓r_ifle_t, ↓r_ifle_f, ↓J_X6_inLowestTerms_34, ↓r_lle_t, ↓r_lle_f, ↓L_lld7, ↓r_ldiv, ↓J_X6_inLowestTerms_36, ↓r_lreturn, ↓U_X6_inLowestTerms_0, ↓U_X6_inLowestTerms_16, ↓U_X6_inLowestTerms_17, ↓U_X6_inLowestTerms_34, ↓U_X6_inLowestTerms_36, ↓zthen_v, ↓zthen_0, zU_eq, zU_nc, zU_nj, c_X6_commonDivisor]
      rw [h2, h4]; rfl
  · rw [if_neg h0]
    by_cases h1 : 0 < zg a b
    · simp (disch := first | exact z_tt rfl | assumption | omega | (simp (disch := omega) only [zU_eq, zU_nc, zU_nj]; omega)) only [↓L_lld_n0, ↓L_lld_n2, ↓I_X6_commonDivisor, ↓L_lst5, ↓L_lst5L, ↓L_ild4, ↓r_ifne_t, ↓r_ifne_f, ↓J_X6_inLowestTerms_16, ↓r_goto, ↓J_X6_inLowestTerms_17, ↓L_lst7, ↓L_lst7L, ↓L_lld5, ↓r_lconst, ↓r_ifle_t, ↓r_ifle_f, ↓J_X6_inLowestTerms_34, ↓r_lle_t, ↓r_lle_f, ↓L_lld7, ↓r_ldiv, ↓J_X6_inLowestTerms_36, ↓r_lreturn, ↓U_X6_inLowestTerms_0, ↓U_X6_inLowestTerms_16, ↓U_X6_inLowestTerms_17, ↓U_X6_inLowestTerms_34, ↓U_X6_inLowestTerms_36, ↓zthen_v, ↓zthen_0, zU_eq, zU_nc, zU_nj, c_X6_commonDivisor]
    · have h2 : zg a b = 0 := by omega
      have h3 : b = 0 := by
        by_cases h : b = 0
        · exact h
        · have := zg_pos (x := a) (y := b) (by omega); omega
      simp (disch := first | exact z_tt rfl | assumption | omega | (simp (disch := omega) only [zU_eq, zU_nc, zU_nj]; omega)) only [↓L_lld_n0, ↓L_lld_n2, ↓I_X6_commonDivisor, ↓L_lst5, ↓L_lst5L, ↓L_ild4, ↓r_ifne_t, ↓r_ifne_f, ↓J_X6_inLowestTerms_16, ↓r_goto, ↓J_X6_inLowestTerms_17, ↓L_lst7, ↓L_lst7L, ↓L_lld5, ↓r_lconst, ↓r_ifle_t, ↓r_ifle_f, ↓J_X6_inLowestTerms_34, ↓r_lle_t, ↓r_lle_f, ↓L_lld7, ↓r_ldiv, ↓J_X6_inLowestTerms_36, ↓r_lreturn, ↓U_X6_inLowestTerms_0, ↓U_X6_inLowestTerms_16, ↓U_X6_inLowestTerms_17, ↓U_X6_inLowestTerms_34, ↓U_X6_inLowestTerms_36, ↓zthen_v, ↓zthen_0, zU_eq, zU_nc, zU_nj, c_X6_commonDivisor]
      rw [h2, h3]; rfl
