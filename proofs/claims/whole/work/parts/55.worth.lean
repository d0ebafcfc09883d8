/-! the class's parts against the reference's -/
theorem prt_hup {σ τ : zM} (R : Rel1 σ τ) {p t : Int} (hp : 0 ≤ p ∧ p < 4) (ht : 0 ≤ t ∧ t < σ 1 1) : prt σ p t = (if σ 1 4 = t then hup τ p t else hup τ p t * σ 1 7) := by
  have hf := R.fi t ht.1 ht.2
  unfold prt hup
  by_cases q : σ 1 4 = t
  · have h := R.cuY t ht.1 ht.2 q
    rw [if_pos q, h.1, h.2.1, h.2.2, hf]
    by_cases q2 : σ 1 5 = p
    · rw [if_pos ⟨q, q2⟩, if_pos q2, if_pos q]
    · rw [if_neg (fun x => q2 x.2), if_neg q2]
      by_cases q3 : σ 7 t = p
      · rw [if_pos q3, if_pos q]
      · rw [if_neg q3, if_pos q]
  · have h := R.cuN t ht.1 ht.2 q
    rw [if_neg (fun x => q x.1), if_neg q, h.1, h.2.1, h.2.2, hf, if_neg (show ¬ (-1 : Int) = p by omega)]
    by_cases q3 : σ 7 t = p
    · rw [if_pos q3, if_pos q3, if_neg q]; omega
    · rw [if_neg q3, if_neg q3]; omega
theorem prt_pos {σ τ : zM} (R : Rel1 σ τ) {p t : Int} (hp : 0 ≤ p ∧ p < 4) (ht : 0 ≤ t ∧ t < σ 1 1) : 0 < prt σ p t ↔ 0 < hup τ p t := by
  have hc := R.cut
  have hm := R.m
  have hb := hup_bd (Rel1_V1 R) p (t := t) (by omega)
  rw [prt_hup R hp ht]
  by_cases q : σ 1 4 = t
  · rw [if_pos q]
  · rw [if_neg q]
    constructor
    · intro h
      by_cases q2 : hup τ p t = 0
      · rw [q2] at h; omega
      · omega
    · intro h
      exact Int.mul_pos h (by omega)
theorem bit_eq {σ τ : zM} (R : Rel1 σ τ) {p : Int} (hp : 0 ≤ p ∧ p < 4) : bitM τ p = bitP σ p := by
  have hm := R.m
  have key : ∀ (n : Nat) (s j : Int), 0 ≤ j → j + n = σ 1 1 → bitI (fun t => decide (0 < hup τ p t)) s j n = bitI (fun t => decide (0 < prt σ p t)) s j n := by
    intro n
    induction n with
    | zero => intro s j _ _; rfl
    | succ n ih =>
      intro s j h1 h2
      have h := prt_pos R hp (t := j) (by omega)
      rw [bitI, bitI, ih _ _ (by omega) (by omega)]
      by_cases q : 0 < hup τ p j
      · rw [if_pos (by simpa using q), if_pos (by simpa using h.2 q)]
      · rw [if_neg (by simpa using q), if_neg (by simpa using fun x => q (h.1 x))]
  unfold bitM bitP
  rw [hm.2.2]
  exact key _ 0 0 (by omega) (by omega)
