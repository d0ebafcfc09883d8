/-! the order by ratio: total, strict; ranks; the least -/
def NN (f : Int → Int) (m : Int) : Prop := ∀ t : Int, 0 ≤ t → t < m → 0 ≤ f t
theorem ahd_irr (R P : Int → Int) (t : Int) : ahd R P t t = false := by
  unfold ahd
  by_cases h : P t = 0
  · rw [if_pos h, if_pos h]; simp
  · rw [if_neg h, if_neg h, if_pos rfl]; simp
theorem ahd_tot (R P : Int → Int) {t u : Int} (h : t ≠ u) : ahd R P t u = true ∨ ahd R P u t = true := by
  unfold ahd
  by_cases h1 : P t = 0 <;> by_cases h2 : P u = 0
  · simp only [if_pos h1, if_pos h2, decide_eq_true_eq]; omega
  · simp [h1, h2]
  · simp [h1, h2]
  · simp only [if_neg h1, if_neg h2]
    by_cases h3 : R t * P u = R u * P t
    · rw [if_pos h3, if_pos h3.symm]; simp only [decide_eq_true_eq]; omega
    · rw [if_neg h3, if_neg (fun q => h3 q.symm)]; simp only [decide_eq_true_eq]; omega
theorem ahd_asym (R P : Int → Int) {t u : Int} (h : ahd R P t u = true) : ahd R P u t = false := by
  unfold ahd at h ⊢
  by_cases h1 : P t = 0 <;> by_cases h2 : P u = 0
  · simp only [if_pos h1, if_pos h2, decide_eq_true_eq] at h ⊢; simp; omega
  · simp [h1, h2] at h
  · simp [h1, h2]
  · simp only [if_neg h1, if_neg h2] at h ⊢
    by_cases h3 : R t * P u = R u * P t
    · rw [if_pos h3] at h; rw [if_pos h3.symm]; simp at h ⊢; omega
    · rw [if_neg h3] at h; rw [if_neg (fun q => h3 q.symm)]; simp at h ⊢; omega
theorem crs {a b c d e f : Int} (hd : 0 ≤ d) (hf : 0 ≤ f) (he : 0 < e) (h1 : a * e ≤ b * d) (h2 : b * f ≤ c * e) : a * f ≤ c * d ∧ ((a * e < b * d ∧ 0 < f) ∨ (b * f < c * e ∧ 0 < d) → a * f < c * d) := by
  have e1 : e * (a * f) = (a * e) * f := by rw [Int.mul_comm a e, Int.mul_assoc]
  have e2 : (b * d) * f = (b * f) * d := by rw [Int.mul_assoc, Int.mul_assoc, Int.mul_comm d f]
  have e3 : e * (c * d) = (c * e) * d := by rw [Int.mul_comm c e, Int.mul_assoc]
  have g1 : (a * e) * f ≤ (b * d) * f := Int.mul_le_mul_of_nonneg_right h1 hf
  have g2 : (b * f) * d ≤ (c * e) * d := Int.mul_le_mul_of_nonneg_right h2 hd
  refine ⟨Int.le_of_mul_le_mul_left (by omega) he, fun h => ?_⟩
  rcases h with ⟨h, h0⟩ | ⟨h, h0⟩
  · have g3 : (a * e) * f < (b * d) * f := Int.mul_lt_mul_of_pos_right h h0
    exact Int.lt_of_mul_lt_mul_left (by omega) (Int.le_of_lt he)
  · have g3 : (b * f) * d < (c * e) * d := Int.mul_lt_mul_of_pos_right h h0
    exact Int.lt_of_mul_lt_mul_left (by omega) (Int.le_of_lt he)
theorem ahd_trans {R P : Int → Int} {m t u v : Int} (hP : NN P m) (ht : 0 ≤ t ∧ t < m) (hu : 0 ≤ u ∧ u < m) (hv : 0 ≤ v ∧ v < m) (h1 : ahd R P t u = true) (h2 : ahd R P u v = true) : ahd R P t v = true := by
  have pt := hP t ht.1 ht.2
  have pu := hP u hu.1 hu.2
  have pv := hP v hv.1 hv.2
  unfold ahd at h1 h2 ⊢
  by_cases zt : P t = 0
  · by_cases zu : P u = 0
    · by_cases zv : P v = 0
      · simp only [zt, zu, zv, if_true, decide_eq_true_eq] at h1 h2 ⊢; omega
      · simp [zt, zu, zv] at h2
    · simp [zt, zu] at h1
  · by_cases zu : P u = 0
    · by_cases zv : P v = 0
      · simp [zt, zv]
      · simp [zu, zv] at h2
    · by_cases zv : P v = 0
      · simp [zt, zv]
      · simp only [if_neg zt, if_neg zu, if_neg zv] at h1 h2 ⊢
        by_cases c1 : R t * P u = R u * P t
        · rw [if_pos c1] at h1
          by_cases c2 : R u * P v = R v * P u
          · rw [if_pos c2] at h2
            have k1 := (crs pt pv (by omega) (Int.le_of_eq c1) (Int.le_of_eq c2)).1
            have k2 := (crs (a := R v) (b := R u) (c := R t) pv pt (by omega) (Int.le_of_eq c2.symm) (Int.le_of_eq c1.symm)).1
            rw [if_pos (by omega)]
            simp only [decide_eq_true_eq] at h1 h2 ⊢; omega
          · rw [if_neg c2] at h2
            have k := (crs pt pv (by omega) (Int.le_of_eq c1) (Int.le_of_lt (of_decide_eq_true h2))).2 (Or.inr ⟨of_decide_eq_true h2, by omega⟩)
            rw [if_neg (by omega)]; exact decide_eq_true k
        · rw [if_neg c1] at h1
          have l1 := of_decide_eq_true h1
          by_cases c2 : R u * P v = R v * P u
          · have k := (crs pt pv (by omega) (Int.le_of_lt l1) (Int.le_of_eq c2)).2 (Or.inl ⟨l1, by omega⟩)
            rw [if_neg (by omega)]; exact decide_eq_true k
          · rw [if_neg c2] at h2
            have k := (crs pt pv (by omega) (Int.le_of_lt l1) (Int.le_of_lt (of_decide_eq_true h2))).2 (Or.inl ⟨l1, by omega⟩)
            rw [if_neg (by omega)]; exact decide_eq_true k
theorem cntI_mono {p q : Int → Bool} : ∀ (n : Nat) (j : Int), (∀ t : Int, j ≤ t → t < j + n → p t = true → q t = true) → cntI p j n ≤ cntI q j n
  | 0, j, _ => Int.le_refl _
  | n + 1, j, h => by
    have ih := cntI_mono n (j + 1) (fun t h1 h2 => h t (by omega) (by omega))
    have h0 := h j (by omega) (by omega)
    rw [cntI, cntI]
    by_cases hp : p j = true
    · rw [if_pos hp, if_pos (h0 hp)]; omega
    · rw [if_neg hp]; split <;> omega
theorem cntI_lt {p q : Int → Bool} : ∀ (n : Nat) (j w : Int), (∀ t : Int, j ≤ t → t < j + n → p t = true → q t = true) → j ≤ w → w < j + n → q w = true → p w = false → cntI p j n < cntI q j n
  | 0, j, w, _, h1, h2, _, _ => by omega
  | n + 1, j, w, h, h1, h2, hq, hp => by
    have h0 := h j (by omega) (by omega)
    rw [cntI, cntI]
    by_cases e : w = j
    · subst e
      have ih := cntI_mono (p := p) (q := q) n (w + 1) (fun t h1 h2 => h t (by omega) (by omega))
      rw [if_pos hq, if_neg (by rw [hp]; decide)]; omega
    · have ih := cntI_lt n (j + 1) w (fun t h1 h2 => h t (by omega) (by omega)) (by omega) (by omega) hq hp
      by_cases hp : p j = true
      · rw [if_pos hp, if_pos (h0 hp)]; omega
      · rw [if_neg hp]; split <;> omega
theorem cntI_all : ∀ (n : Nat) (j : Int), cntI (fun _ => true) j n = n
  | 0, j => rfl
  | n + 1, j => by rw [cntI, cntI_all n (j + 1)]; simp; omega
def rnk (R P : Int → Int) (m : Nat) (t : Int) : Int := cntI (fun u => ahd R P u t) 0 m
theorem rnk_bd (R P : Int → Int) {m : Nat} {t : Int} (ht : 0 ≤ t ∧ t < m) : 0 ≤ rnk R P m t ∧ rnk R P m t < m := by
  have h1 := cntI_bd (f := fun u => ahd R P u t) m 0
  have h2 := cntI_lt (p := fun u => ahd R P u t) (q := fun _ => true) m 0 t (fun _ _ _ _ => rfl) ht.1 (by omega) rfl (ahd_irr R P t)
  rw [cntI_all] at h2
  unfold rnk
  omega
theorem rnk_lt {R P : Int → Int} {m : Nat} (hP : NN P m) {t u : Int} (ht : 0 ≤ t ∧ t < m) (hu : 0 ≤ u ∧ u < m) (h : ahd R P t u = true) : rnk R P m t < rnk R P m u := by
  unfold rnk
  exact cntI_lt m 0 t (fun v h1 h2 h3 => ahd_trans hP ⟨h1, by omega⟩ ht hu h3 h) ht.1 (by omega) h (ahd_irr R P t)
theorem rnk_inj {R P : Int → Int} {m : Nat} (hP : NN P m) {t u : Int} (ht : 0 ≤ t ∧ t < m) (hu : 0 ≤ u ∧ u < m) (h : rnk R P m t = rnk R P m u) : t = u := by
  by_cases e : t = u
  · exact e
  · rcases ahd_tot R P e with q | q
    · have := rnk_lt hP ht hu q; omega
    · have := rnk_lt hP hu ht q; omega
theorem rnk_ahd {R P : Int → Int} {m : Nat} (hP : NN P m) {t u : Int} (ht : 0 ≤ t ∧ t < m) (hu : 0 ≤ u ∧ u < m) (h : rnk R P m t < rnk R P m u) : ahd R P t u = true := by
  have e : t ≠ u := by intro q; rw [q] at h; omega
  rcases ahd_tot R P e with q | q
  · exact q
  · have := rnk_lt hP hu ht q; omega
theorem no_inj : ∀ (m : Nat) (f : Nat → Nat), (∀ i, i < m + 1 → f i < m) → (∀ i j, i < m + 1 → j < m + 1 → f i = f j → i = j) → False
  | 0, f, hb, _ => by have := hb 0 (by omega); omega
  | m + 1, f, hb, hi => by
    refine no_inj m (fun i => if f i = m then f (m + 1) else f i) (fun i h => ?_) (fun i j h1 h2 h => ?_)
    · have b1 := hb i (by omega)
      have b2 := hb (m + 1) (by omega)
      try dsimp only
      split
      · rename_i e
        have : f (m + 1) ≠ m := fun q => by have := hi i (m + 1) (by omega) (by omega) (by omega); omega
        omega
      · omega
    · try dsimp only at h
      split at h <;> split at h
      · exact hi i j (by omega) (by omega) (by omega)
      · have := hi (m + 1) j (by omega) (by omega) h; omega
      · have := hi i (m + 1) (by omega) (by omega) h; omega
      · exact hi i j (by omega) (by omega) h
theorem surj_of_inj {m : Nat} {f : Nat → Nat} (hb : ∀ i, i < m → f i < m) (hi : ∀ i j, i < m → j < m → f i = f j → i = j) {k : Nat} (hk : k < m) : ∃ i, i < m ∧ f i = k := by
  apply Classical.byContradiction
  intro hn
  have hn : ∀ i, i < m → f i ≠ k := fun i h1 h2 => hn ⟨i, h1, h2⟩
  obtain ⟨q, rfl⟩ : ∃ q, m = q + 1 := ⟨m - 1, by omega⟩
  refine no_inj q (fun i => if f i = q then k else f i) (fun i h => ?_) (fun i j h1 h2 h => ?_)
  · have b1 := hb i h
    have b2 := hn i h
    try dsimp only
    split <;> omega
  · try dsimp only at h
    have b1 := hn i h1
    have b2 := hn j h2
    split at h <;> split at h
    · exact hi i j h1 h2 (by omega)
    · exact absurd h.symm b2
    · exact absurd h b1
    · exact hi i j h1 h2 h
theorem rnk_surj {R P : Int → Int} {m : Nat} (hP : NN P m) {k : Int} (hk : 0 ≤ k ∧ k < m) : ∃ t : Int, (0 ≤ t ∧ t < m) ∧ rnk R P m t = k := by
  obtain ⟨i, h1, h2⟩ := surj_of_inj (m := m) (f := fun i => (rnk R P m i).toNat) (fun i h => by have := rnk_bd R P (m := m) (t := i) (by omega); omega)
    (fun i j h1 h2 h => by
      have b1 := rnk_bd R P (m := m) (t := i) (by omega)
      have b2 := rnk_bd R P (m := m) (t := j) (by omega)
      have := rnk_inj (R := R) hP (t := i) (u := j) (by omega) (by omega) (by omega)
      omega) (k := k.toNat) (by omega)
  refine ⟨i, by omega, ?_⟩
  have b1 := rnk_bd R P (m := m) (t := i) (by omega)
  try dsimp only at h2
  omega
/-- the k-th by ratio -/
def byR (R P : Int → Int) (m : Nat) (k : Int) : Int := fstI (fun t => decide (rnk R P m t = k)) 0 m
theorem byR_spec {R P : Int → Int} {m : Nat} (hP : NN P m) {k : Int} (hk : 0 ≤ k ∧ k < m) : (0 ≤ byR R P m k ∧ byR R P m k < m) ∧ rnk R P m (byR R P m k) = k := by
  obtain ⟨t, h1, h2⟩ := rnk_surj (R := R) hP hk
  have key : ∀ (n : Nat) (j : Int), j ≤ t → t < j + n → (j ≤ fstI (fun t => decide (rnk R P m t = k)) j n ∧ fstI (fun t => decide (rnk R P m t = k)) j n ≤ t) ∧ rnk R P m (fstI (fun t => decide (rnk R P m t = k)) j n) = k := by
    intro n
    induction n with
    | zero => intro j a b; omega
    | succ n ih =>
      intro j a b
      rw [fstI]
      by_cases h : rnk R P m j = k
      · rw [if_pos (by simpa using h)]; exact ⟨⟨Int.le_refl _, a⟩, h⟩
      · rw [if_neg (by simpa using h)]
        have e : j ≠ t := fun q => h (by rw [q]; exact h2)
        obtain ⟨⟨i1, i2⟩, i3⟩ := ih (j + 1) (by omega) (by omega)
        exact ⟨⟨by omega, i2⟩, i3⟩
  obtain ⟨⟨i1, i2⟩, i3⟩ := key m 0 h1.1 (by omega)
  exact ⟨⟨i1, by unfold byR; omega⟩, i3⟩
/-- the least is found -/
theorem nxtF_least {ow : Int → Bool} {R P : Int → Int} {t0 : Int} (h0 : ow t0 = true) (ht0 : 0 ≤ t0) : ∀ (n : Nat) (j cur : Int), t0 < j + n → (∀ u : Int, 0 ≤ u → u < j + n → ow u = true → u ≠ t0 → ahd R P t0 u = true) → 0 ≤ j → -1 ≤ cur → cur < j → (t0 < j → cur = t0) → (j ≤ t0 → cur < 0 ∨ (ow cur = true ∧ cur ≠ t0)) → nxtF ow R P cur j n = t0
  | 0, j, cur, h1, h2, h3, h4, h5, h6, h7 => by rw [nxtF]; exact h6 (by omega)
  | n + 1, j, cur, h1, h2, h3, h4, h5, h6, h7 => by
    rw [nxtF]
    have rc := fun c h4' h5' h6' h7' => nxtF_least (R := R) (P := P) h0 ht0 n (j + 1) c (by omega) (fun u a b => h2 u a (by omega)) (by omega) h4' h5' h6' h7'
    by_cases e : j = t0
    · subst e
      have hc : cur < 0 ∨ ahd R P j cur = true := by
        rcases h7 (Int.le_refl _) with q | ⟨q1, q2⟩
        · exact Or.inl q
        · by_cases z : cur < 0
          · exact Or.inl z
          · exact Or.inr (h2 cur (by omega) (by omega) q1 q2)
      rw [if_pos ⟨h0, hc⟩]
      exact rc j (by omega) (by omega) (fun _ => rfl) (fun q => by omega)
    · by_cases lt : t0 < j
      · have hc := h6 lt
        have hno : ¬ (ow j = true ∧ (cur < 0 ∨ ahd R P j cur = true)) := by
          rintro ⟨q1, q2 | q2⟩
          · rw [hc] at q2
            -- a place below 0 cannot hold
            omega
          · have := h2 j h3 (by omega) q1 e
            rw [hc, ahd_asym R P this] at q2
            cases q2
        rw [if_neg hno]
        exact rc cur h4 (by omega) (fun _ => hc) (fun q => by omega)
      · by_cases hj : ow j = true ∧ (cur < 0 ∨ ahd R P j cur = true)
        · rw [if_pos hj]
          exact rc j (by omega) (by omega) (fun q => by omega) (fun _ => Or.inr ⟨hj.1, e⟩)
        · rw [if_neg hj]
          exact rc cur h4 (by omega) (fun q => by omega) (fun _ => h7 (by omega))
theorem nxtF_none {ow : Int → Bool} {R P : Int → Int} : ∀ (n : Nat) (j cur : Int), (∀ u : Int, j ≤ u → u < j + n → ow u = false) → nxtF ow R P cur j n = cur
  | 0, j, cur, _ => rfl
  | n + 1, j, cur, h => by
    rw [nxtF, if_neg (fun q => by rw [h j (by omega) (by omega)] at q; cases q.1)]
    exact nxtF_none n (j + 1) cur (fun u a b => h u (by omega) (by omega))
