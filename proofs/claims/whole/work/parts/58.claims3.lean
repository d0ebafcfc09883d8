theorem fw_eq {σ τ : zM} (R : Rel1 σ τ) {p : Int} (hp : 0 ≤ p ∧ p < 4) : (fuP σ p = -1 ∧ fwM τ p = σ 1 1) ∨ (fuP σ p = fwM τ p ∧ 0 ≤ fwM τ p ∧ fwM τ p < σ 1 1) := by
  have hm := R.m
  have e : fwM τ p = fstI (fun t => decide (σ 7 t = -1 ∧ 0 < σ (3 + p) t)) 0 (σ 1 1).toNat := by
    unfold fwM
    rw [hm.2.2]
    refine fstI_congr _ _ (fun t h1 h2 => ?_)
    rw [R.fi t h1 (by omega), R.pt p t hp.1 hp.2 h1 (by omega)]
  rw [e]
  unfold fuP
  have := fst_both (q := fun t => decide (σ 7 t = -1 ∧ 0 < σ (3 + p) t)) (σ 1 1).toNat 0 (by omega)
  omega
theorem en_eq {σ τ : zM} (R : Rel1 σ τ) {p : Int} (hp : 0 ≤ p ∧ p < 4) (ha : ¬ allP σ p = 0) : (feP σ p = -1 ∧ enM τ p = σ 1 0) ∨ (feP σ p = enM τ p ∧ 0 ≤ enM τ p ∧ enM τ p < σ 1 0) := by
  have hn := R.n
  have e : enM τ p = fstI (fun q => decide (wor σ p p < wor σ p q)) 0 (σ 1 0).toNat := by
    unfold enM
    rw [hn.2.2]
    refine fstI_congr _ _ (fun t h1 h2 => ?_)
    rw [all_eq R hp, wor_eq R hp hp, wor_eq R hp (w := t) (by omega)]
    simp [ha]
  rw [e]
  unfold feP
  have := fst_both (q := fun q => decide (wor σ p p < wor σ p q)) (σ 1 0).toNat 0 (by omega)
  omega
theorem cla_eq {σ τ : zM} (R : Rel1 σ τ) {p : Int} (hp : 0 ≤ p ∧ p < 4) : claM τ p = claP σ p := by
  have hn := R.n
  have hm := R.m
  have h1 := fw_eq R hp
  unfold claM claP
  rw [all_eq R hp, wor_eq R hp hp, low_eq R, hn.2.2, hm.2.2]
  by_cases q1 : allP σ p = 0
  · rw [if_pos q1, if_pos q1]
  · have h2 := en_eq R hp q1
    rw [if_neg q1, if_neg q1]
    by_cases q2 : 0 ≤ fuP σ p
    · rw [if_pos q2, if_pos (by omega)]
    · rw [if_neg q2, if_neg (by omega)]
      by_cases q3 : wor σ p p * σ 1 0 < allP σ p * σ 1 7
      · rw [if_pos q3, if_pos q3]
      · rw [if_neg q3, if_neg q3]
        by_cases q4 : 0 ≤ feP σ p
        · rw [if_pos q4, if_pos (by omega)]
        · rw [if_neg q4, if_neg (by omega)]
