theorem zg_dl {x y : Int} (hy : 0 ≤ y) : zg x y ∣ y := by
  obtain ⟨n, rfl⟩ := Int.eq_ofNat_of_zero_le hy
  unfold zg
  rw [Int.toNat_natCast]
  exact Int.natCast_dvd_natCast.2 (Nat.gcd_dvd_right _ _)
theorem zg_dx {x y : Int} (hx : 0 ≤ x) : zg x y ∣ x := by
  obtain ⟨n, rfl⟩ := Int.eq_ofNat_of_zero_le hx
  unfold zg
  rw [Int.toNat_natCast]
  exact Int.natCast_dvd_natCast.2 (Nat.gcd_dvd_left _ _)
theorem lowT_bd {u l : Int} (hu : 0 ≤ u) (hl : u < l) : 0 ≤ lowT u l 0 ∧ lowT u l 0 < lowT u l 1 ∧ lowT u l 1 ≤ l := by
  have hg := zg_pos (x := u) (y := l) (by omega)
  obtain ⟨k, hk⟩ := zg_dl (x := u) (y := l) (by omega)
  have e1 : lowT u l 1 = k := by
    unfold lowT
    rw [if_neg (by decide)]
    have : l / zg u l = k := Int.ediv_eq_of_eq_mul_right (by omega) hk
    exact this
  have e0 : lowT u l 0 = u / zg u l := by
    unfold lowT
    rw [if_pos rfl]
  rw [e1, e0]
  refine ⟨Int.ediv_nonneg hu (by omega), Int.ediv_lt_of_lt_mul hg (by rw [Int.mul_comm]; omega), ?_⟩
  have hk0 : 0 < k := by
    by_cases q : k ≤ 0
    · have h1 := Int.mul_le_mul_of_nonneg_left q (Int.le_of_lt hg)
      rw [Int.mul_zero] at h1
      omega
    · omega
  have := Int.mul_le_mul_of_nonneg_right (show (1 : Int) ≤ zg u l by omega) (show (0 : Int) ≤ k by omega)
  omega
theorem cnt_one (c : Int) : ∀ (n : Nat) (j : Int), cntI (fun t => decide (t = c)) j n = if j ≤ c ∧ c < j + n then 1 else 0 := by
  intro n
  induction n with
  | zero => intro j; rw [cntI, if_neg (by omega)]
  | succ n ih =>
    intro j
    rw [cntI, ih]
    by_cases q : j = c
    · rw [if_pos (by simpa using q), if_neg (by omega), if_pos (by omega)]
      rfl
    · rw [if_neg (by simpa using q)]
      by_cases q2 : j + 1 ≤ c ∧ c < j + 1 + n
      · rw [if_pos q2, if_pos (by omega)]
        rfl
      · rw [if_neg q2, if_neg (by omega)]
        rfl
theorem spM_eq {σ τ : zM} (R : Rel1 σ τ) : spM τ = if σ 1 4 < 0 then 0 else 1 := by
  have hm := R.m
  have hc := R.cut
  unfold spM
  rw [cntI_congr (g := fun t => decide (t = σ 1 4)) _ _ ?_, cnt_one]
  · by_cases q : σ 1 4 < 0
    · rw [if_neg (by omega), if_pos q]
    · rw [if_pos (by omega), if_neg q]
  · intro t h1 h2
    by_cases q : σ 1 4 = t
    · have h3 := R.cuY t h1 (by omega) q
      have h4 : ¬ τ 61 (11 + t) = -1 := by omega
      simp [h4, q]
    · have h3 := R.cuN t h1 (by omega) q
      have h4 : τ 61 (11 + t) = -1 := h3.1
      have q' : ¬ t = σ 1 4 := fun h => q h.symm
      simp [h4, q']
set_option maxRecDepth 20000 in
set_option maxHeartbeats 4000000 in
theorem Rel1_split {σ τ : zM} {t p u l : Int} (R : Rel1 σ τ) (ht : 0 ≤ t ∧ t < σ 1 1) (hp : 0 ≤ p ∧ p < 4) (hu : 0 ≤ u) (hl : u < l ∧ l ≤ 200000) (hc4 : σ 1 4 = t ∨ σ 1 4 < 0) : Rel1 (cutT σ t p u l) (zU (zU (zU τ 61 (11 + t) p) 61 (17 + t) (lowT u l 0)) 61 (23 + t) (lowT u l 1)) := by
  have hn := R.n
  have hm := R.m
  have hc := R.cut
  have hb := lowT_bd hu hl.1
  unfold cutT
  refine ⟨⟨?_, ?_, ?_, ?_, ?_, ?_, ?_, ?_, ?_⟩, RSs_fr R.2.1 ?_ ?_ ?_ ?_, RSe_fr R.2.2.1 ?_ ?_ ?_ ?_, RSb_fr R.2.2.2 ?_ ?_ ?_ ?_⟩
  · simp (disch := omega) only [zU_eq, zU_ow]; exact R.n
  · simp (disch := omega) only [zU_eq, zU_ow]; exact R.m
  · intro p' t' h1 h2 h3 h4
    simp (disch := omega) only [zU_eq, zU_ow]; exact R.ptr p' t' h1 h2 h3 h4
  · intro p' t' h1 h2 h3 h4
    simp (disch := omega) only [zU_eq, zU_ow] at h4
    simp (disch := omega) only [zU_eq, zU_ow]; exact R.pt p' t' h1 h2 h3 h4
  · intro t' h1 h2
    simp (disch := omega) only [zU_eq, zU_ow]; exact R.fir t' h1 h2
  · intro t' h1 h2
    simp (disch := omega) only [zU_eq, zU_ow] at h2
    simp (disch := omega) only [zU_eq, zU_ow]; exact R.fi t' h1 h2
  · simp (disch := omega) only [zU_eq, zU_ow, and_self, implies_true, and_true]; omega
  · intro t' h1 h2 h3
    simp (disch := omega) only [zU_eq, zU_ow] at h3
    subst h3
    simp (disch := omega) only [zU_eq, zU_ow]; decide
  · intro t' h1 h2 h3
    simp (disch := omega) only [zU_eq, zU_ow] at h2 h3
    simp (disch := omega) only [zU_eq, zU_ow]; exact R.cuN t' h1 h2 (by omega)
  all_goals intros
  all_goals simp (disch := omega) only [zU_ow]
theorem cutT_nc (σ : zM) (t p u l c j : Int) (h : c < 1 ∨ 1 < c) : cutT σ t p u l c j = σ c j := by
  unfold cutT
  simp (disch := omega) only [zU_ow]
