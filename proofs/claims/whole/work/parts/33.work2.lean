theorem mvS_nc (x y aR aP : Int) : ∀ (n : Nat) (σ : zM) (gap c q : Int), (c < 33 ∨ 34 < c ∨ (c = 33 ∧ (q < 4 ∨ 7 < q))) → mvS x y aR aP n σ gap c q = σ c q
  | 0, σ, gap, c, q, h => rfl
  | n + 1, σ, gap, c, q, h => by
    have e : ∀ (s : zM) (k v : Int), 4 ≤ k → k ≤ 7 → zU s 33 k v c q = s c q := by
      intro s k v h1 h2
      unfold zU
      rw [if_neg (by omega)]
    rw [mvS]
    split
    · rfl
    · split
      · rfl
      · split
        · rw [e _ _ _ (by omega) (by omega), e _ _ _ (by omega) (by omega), e _ _ _ (by omega) (by omega)]
        · rw [mvS_nc x y aR aP n _ _ c q h, e _ _ _ (by omega) (by omega)]
          unfold zU
          rw [if_neg (by omega)]
/-- what the moves keep -/
theorem mvS_ok {x y aR aP : Int} : ∀ (n : Nat) (σ : zM) (gap : Int), (0 ≤ σ 33 1 ∧ σ 33 1 ≤ 6) → (0 ≤ σ 33 3 ∧ σ 33 3 < 4) → (∀ t : Int, 0 ≤ t → t < 6 → 0 ≤ σ 34 t ∧ σ 34 t < 4) → (-1 ≤ σ 33 5 ∧ σ 33 5 < 6) → (∀ t : Int, 0 ≤ t → t < 6 → 0 ≤ mvS x y aR aP n σ gap 34 t ∧ mvS x y aR aP n σ gap 34 t < 4) ∧ (-1 ≤ mvS x y aR aP n σ gap 33 5 ∧ mvS x y aR aP n σ gap 33 5 < 6)
  | 0, σ, gap, hm, hp, ho, hc => ⟨ho, hc⟩
  | n + 1, σ, gap, hm, hp, ho, hc => by
    have hbd : -1 ≤ nxt σ x y ∧ nxt σ x y < 0 + (σ 33 1).toNat := nxtF_bd _ _ _ (by omega) (by omega) (by omega)
    rw [mvS]
    split
    · exact ⟨ho, hc⟩
    · split
      · exact ⟨ho, hc⟩
      · split
        · refine ⟨fun t h1 h2 => ?_, ?_⟩
          · rw [zU_nc _ _ _ _ _ _ (by omega), zU_nc _ _ _ _ _ _ (by omega), zU_nc _ _ _ _ _ _ (by omega)]; exact ho t h1 h2
          · rw [zU_nj _ _ _ _ _ (by omega), zU_nj _ _ _ _ _ (by omega), zU_eq]; omega
        · refine mvS_ok n _ _ ?_ ?_ (fun t h1 h2 => ?_) ?_
          · rw [zU_nj _ _ _ _ _ (by omega), zU_nc _ _ _ _ _ _ (by omega)]; exact hm
          · rw [zU_nj _ _ _ _ _ (by omega), zU_nc _ _ _ _ _ _ (by omega)]; exact hp
          · rw [zU_nc _ _ _ _ _ _ (by omega)]
            by_cases e : t = nxt σ x y
            · rw [e, zU_eq]; exact hp
            · rw [zU_nj _ _ _ _ _ (by omega)]; exact ho t h1 h2
          · rw [zU_nj _ _ _ _ _ (by omega), zU_nc _ _ _ _ _ _ (by omega)]; exact hc
theorem gfO_ok {x y a b aI aJ : Int} (hab : 0 ≤ a ∧ a < 4 ∧ 0 ≤ b ∧ b < 4) : ∀ (n : Nat) (j : Int) (σ : zM), (∀ t : Int, 0 ≤ t → t < 6 → 0 ≤ σ 34 t ∧ σ 34 t < 4) → ∀ t : Int, 0 ≤ t → t < 6 → 0 ≤ gfO x y a b aI aJ n j σ 34 t ∧ gfO x y a b aI aJ n j σ 34 t < 4
  | 0, j, σ, h => h
  | n + 1, j, σ, h => by
    rw [gfO]
    refine gfO_ok hab n (j + 1) _ (fun t h1 h2 => ?_)
    by_cases e : t = j
    · rw [e, zU_eq]; split <;> omega
    · rw [zU_nj _ _ _ _ _ (by omega)]; exact h t h1 h2
theorem gfL_bd {f g : Int → Int} {aI aJ t : Int} (hf : 0 ≤ f t ∧ f t ≤ 99) (hg : 0 ≤ g t ∧ g t ≤ 99) (haI : 0 ≤ aI ∧ aI ≤ 594) (haJ : 0 ≤ aJ ∧ aJ ≤ 594) : -58806 ≤ gfL f g aI aJ t ∧ gfL f g aI aJ t ≤ 58806 := by
  have m1 := mul_bd hf haJ
  have m2 := mul_bd hg haI
  unfold gfL
  split
  · omega
  · rw [Int.neg_mul]; omega
theorem sumI_bd2 {f : Int → Int} {B : Int} : ∀ (n : Nat) (j : Int), (∀ t : Int, j ≤ t → t < j + n → -B ≤ f t ∧ f t ≤ B) → -(n * B) ≤ sumI f j n ∧ sumI f j n ≤ n * B
  | 0, j, _ => by simp [sumI]
  | n + 1, j, h => by
    have h0 := h j (by omega) (by omega)
    have ih := sumI_bd2 n (j + 1) (fun t h1 h2 => h t (by omega) (by omega))
    rw [sumI]
    have e : ((n + 1 : Nat) : Int) * B = n * B + B := by rw [Int.natCast_succ, Int.add_mul, Int.one_mul]
    omega
/-- ADJUSTED by the rows B + i, B + j -/
def woLead (σ : zM) (B m i j : Int) : Int := sumI (gfL (σ (B + i)) (σ (B + j)) (sumI (σ (B + i)) 0 m.toNat) (sumI (σ (B + j)) 0 m.toNat)) 0 m.toNat
def woS3 (σ : zM) (B m i j : Int) : zM := zU (zU (zU (zU (zU (zU (gfO (B + i) (B + j) i j (sumI (σ (B + i)) 0 m.toNat) (sumI (σ (B + j)) 0 m.toNat) m.toNat 0 (zU σ 33 1 m)) 33 4 0) 33 5 (-1)) 33 6 0) 33 7 1) 33 2 (if woLead σ B m i j = 0 then -1 else if 0 < woLead σ B m i j then i else j)) 33 3 (if 0 < woLead σ B m i j then j else i)
def woS4 (σ : zM) (B m i j : Int) : zM := if 0 < woLead σ B m i j then mvS (B + i) (B + j) (sumI (σ (B + i)) 0 m.toNat) (sumI (σ (B + j)) 0 m.toNat) m.toNat (woS3 σ B m i j) (woLead σ B m i j) else if woLead σ B m i j < 0 then mvS (B + j) (B + i) (sumI (σ (B + j)) 0 m.toNat) (sumI (σ (B + i)) 0 m.toNat) m.toNat (woS3 σ B m i j) (-woLead σ B m i j) else woS3 σ B m i j
def woS (σ : zM) (B m i j : Int) : zM := saS (woS4 σ B m i j) (B + (if 0 < woLead σ B m i j then j else i))
theorem Pts_of {σ τ : zM} {x : Int} (h : Pts σ x) (e : ∀ q : Int, τ x q = σ x q) : Pts τ x := ⟨h.1, h.2.1, fun t h1 h2 => by rw [e t]; exact h.2.2 t h1 h2⟩
theorem woS3_o (σ : zM) (B m i j c q : Int) (h : c < 33 ∨ 34 < c) : woS3 σ B m i j c q = σ c q := by
  unfold woS3
  rw [zU_nc _ _ _ _ _ _ (by omega), zU_nc _ _ _ _ _ _ (by omega), zU_nc _ _ _ _ _ _ (by omega), zU_nc _ _ _ _ _ _ (by omega), zU_nc _ _ _ _ _ _ (by omega), zU_nc _ _ _ _ _ _ (by omega), gfO_nc _ _ _ _ _ _ _ _ _ _ _ (by omega), zU_nc _ _ _ _ _ _ (by omega)]
theorem woS3_1 (σ : zM) (B m i j : Int) : woS3 σ B m i j 33 1 = m := by
  unfold woS3
  rw [zU_nj _ _ _ _ _ (by omega), zU_nj _ _ _ _ _ (by omega), zU_nj _ _ _ _ _ (by omega), zU_nj _ _ _ _ _ (by omega), zU_nj _ _ _ _ _ (by omega), zU_nj _ _ _ _ _ (by omega), gfO_nc _ _ _ _ _ _ _ _ _ _ _ (by omega), zU_eq]
theorem woS3_2 (σ : zM) (B m i j : Int) : woS3 σ B m i j 33 2 = (if woLead σ B m i j = 0 then -1 else if 0 < woLead σ B m i j then i else j) := by
  unfold woS3
  rw [zU_nj _ _ _ _ _ (by omega), zU_eq]
theorem woS3_3 (σ : zM) (B m i j : Int) : woS3 σ B m i j 33 3 = (if 0 < woLead σ B m i j then j else i) := by
  unfold woS3
  rw [zU_eq]
theorem woS3_5 (σ : zM) (B m i j : Int) : woS3 σ B m i j 33 5 = -1 := by
  unfold woS3
  rw [zU_nj _ _ _ _ _ (by omega), zU_nj _ _ _ _ _ (by omega), zU_nj _ _ _ _ _ (by omega), zU_nj _ _ _ _ _ (by omega), zU_eq]
theorem woS3_34 (σ : zM) (B m i j q : Int) : woS3 σ B m i j 34 q = gfO (B + i) (B + j) i j (sumI (σ (B + i)) 0 m.toNat) (sumI (σ (B + j)) 0 m.toNat) m.toNat 0 (zU σ 33 1 m) 34 q := by
  unfold woS3
  rw [zU_nc _ _ _ _ _ _ (by omega), zU_nc _ _ _ _ _ _ (by omega), zU_nc _ _ _ _ _ _ (by omega), zU_nc _ _ _ _ _ _ (by omega), zU_nc _ _ _ _ _ _ (by omega), zU_nc _ _ _ _ _ _ (by omega)]
