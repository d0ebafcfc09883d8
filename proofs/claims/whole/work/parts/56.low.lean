theorem prA_one {f : Int → Int} : ∀ (n : Nat) (s j : Int), (∀ t : Int, j ≤ t → t < j + n → f t = 1) → prA f s j n = s := by
  intro n
  induction n with
  | zero => intro s j _; rfl
  | succ n ih =>
    intro s j h
    rw [prA, ih _ _ (fun t h1 h2 => h t (by omega) (by omega)), h j (by omega) (by omega)]
    omega
theorem prA_at {f : Int → Int} (c : Int) : ∀ (n : Nat) (s j : Int), j ≤ c → c < j + n → (∀ t : Int, j ≤ t → t < j + n → ¬ t = c → f t = 1) → prA f s j n = s * f c := by
  intro n
  induction n with
  | zero => intro s j h1 h2; omega
  | succ n ih =>
    intro s j h1 h2 h
    by_cases q : j = c
    · subst q
      rw [prA, prA_one _ _ _ (fun t h3 h4 => h t (by omega) (by omega) (by omega))]
    · rw [prA, ih _ _ (by omega) (by omega) (fun t h3 h4 h5 => h t (by omega) (by omega) h5), h j (by omega) (by omega) q]
      congr 1
      omega
theorem low_eq {σ τ : zM} (R : Rel1 σ τ) : lowA τ = σ 1 7 := by
  have hm := R.m
  have hc := R.cut
  unfold lowA
  by_cases q : σ 1 4 < 0
  · rw [prA_one _ _ _ (fun t h1 h2 => (R.cuN t h1 (by omega) (by omega)).2.2)]
    omega
  · rw [prA_at (σ 1 4) _ _ _ (by omega) (by omega) (fun t h1 h2 h3 => (R.cuN t h1 (by omega) (by omega)).2.2), (R.cuY (σ 1 4) (by omega) (by omega) rfl).2.2]
    omega
