/-! what workOut leaves against what adjusts leaves -/
theorem mvM_nc (r p f : Int) : ∀ (n : Nat) (k : Int) (τ : zM) (c q : Int), (c < 60 ∨ (60 < c ∧ c < 64) ∨ 64 < c ∨ (c = 60 ∧ (q < 5 ∨ 8 < q))) → mvM r p f n k τ c q = τ c q
  | 0, k, τ, c, q, h => rfl
  | n + 1, k, τ, c, q, h => by
    rw [mvM]
    split
    · exact mvM_nc r p f n (k + 1) τ c q h
    · split
      · rfl
      · split
        · simp (disch := omega) only [zU_ow]
        · rw [mvM_nc r p f n (k + 1) _ c q h]
          simp (disch := omega) only [zU_ow]
theorem gfO_lt (x y a b aI aJ : Int) : ∀ (n : Nat) (j : Int) (σ : zM) (q : Int), q < j → gfO x y a b aI aJ n j σ 34 q = σ 34 q
  | 0, j, σ, q, h => rfl
  | n + 1, j, σ, q, h => by rw [gfO, gfO_lt x y a b aI aJ n (j + 1) _ q (by omega), zU_nj _ _ _ _ _ (by omega)]
theorem gfO_34 {x y a b aI aJ : Int} (hx : x < 34 ∨ 34 < x) (hy : y < 34 ∨ 34 < y) : ∀ (n : Nat) (j : Int) (σ : zM) (q : Int), j ≤ q → q < j + n → gfO x y a b aI aJ n j σ 34 q = if σ y q * aI ≤ σ x q * aJ then a else b
  | 0, j, σ, q, h1, h2 => by omega
  | n + 1, j, σ, q, h1, h2 => by
    rw [gfO]
    by_cases e : q = j
    · subst e
      rw [gfO_lt _ _ _ _ _ _ _ _ _ _ (by omega), zU_eq]
    · rw [gfO_34 hx hy n (j + 1) _ q (by omega) (by omega), zU_nc _ _ _ _ _ _ (by omega), zU_nc _ _ _ _ _ _ (by omega)]
theorem afM_lt (i j aI aJ : Int) : ∀ (n : Nat) (t : Int) (τ : zM) (q : Int), q < t → afM i j aI aJ n t τ 64 q = τ 64 q
  | 0, t, τ, q, h => rfl
  | n + 1, t, τ, q, h => by rw [afM, afM_lt i j aI aJ n (t + 1) _ q (by omega), zU_nj _ _ _ _ _ (by omega)]
theorem afM_64 (i j aI aJ : Int) : ∀ (n : Nat) (t : Int) (τ : zM) (q : Int), t ≤ q → q < t + n → afM i j aI aJ n t τ 64 q = if Qp τ j q * aI ≤ Qp τ i q * aJ then 1 else 0
  | 0, t, τ, q, h1, h2 => by omega
  | n + 1, t, τ, q, h1, h2 => by
    rw [afM]
    by_cases e : q = t
    · subst e
      rw [afM_lt _ _ _ _ _ _ _ _ (by omega), zU_eq]
    · rw [afM_64 i j aI aJ n (t + 1) _ q (by omega) (by omega), Qp_of (zU_row _ _ _ _ _ (by omega)), Qp_of (zU_row _ _ _ _ _ (by omega))]
theorem gfL_sum {f g : Int → Int} {aI aJ : Int} : ∀ (n : Nat) (j : Int), sumI (gfL f g aI aJ) j n = sumI (fun t => if g t * aI ≤ f t * aJ then f t else 0) j n * aJ - sumI (fun t => if g t * aI ≤ f t * aJ then 0 else g t) j n * aI
  | 0, j => by rw [sumI, sumI, sumI]; omega
  | n + 1, j => by
    rw [sumI, sumI, sumI, gfL_sum n (j + 1), Int.add_mul, Int.add_mul]
    unfold gfL
    by_cases h : g j * aI ≤ f j * aJ
    · rw [if_pos h, if_pos h, if_pos h]; omega
    · rw [if_neg h, if_neg h, if_neg h, Int.neg_mul]; omega
theorem mo2_64 {τ : zM} {i j q : Int} (h1 : 0 ≤ q) (h2 : q < τ 61 1) : mo2 τ i j 64 q = if Qp τ j q * allM τ i ≤ Qp τ i q * allM τ j then 1 else 0 := by
  unfold mo2
  rw [zU_nc _ _ _ _ _ _ (by omega), zU_nc _ _ _ _ _ _ (by omega), zU_nc _ _ _ _ _ _ (by omega), zU_nc _ _ _ _ _ _ (by omega), afM_64 _ _ _ _ _ _ _ _ h1 (by omega)]
theorem lead_eq {σ τ : zM} {B m i j : Int} (hm : τ 61 1 = m) (h1 : ∀ t : Int, 0 ≤ t → t < m → σ (B + i) t = Qp τ i t) (h2 : ∀ t : Int, 0 ≤ t → t < m → σ (B + j) t = Qp τ j t) (sI : sumI (σ (B + i)) 0 m.toNat = allM τ i) (sJ : sumI (σ (B + j)) 0 m.toNat = allM τ j) : woLead σ B m i j = moreM τ i j := by
  unfold woLead moreM mor sF
  rw [sI, sJ, gfL_sum, allM_of (mo2_61 τ i j), allM_of (mo2_61 τ i j), Qp_of (mo2_61 τ i j), Qp_of (mo2_61 τ i j), mo2_61 τ i j, hm]
  have e1 : sumI (fun t => if σ (B + j) t * allM τ i ≤ σ (B + i) t * allM τ j then σ (B + i) t else 0) 0 m.toNat = sumI (fun t => if mo2 τ i j 64 t = 1 then Qp τ i t else 0) 0 m.toNat := by
    refine sumI_congr _ _ (fun t a b => ?_)
    try dsimp only
    rw [mo2_64 a (by omega), h1 t a (by omega), h2 t a (by omega)]
    by_cases c : Qp τ j t * allM τ i ≤ Qp τ i t * allM τ j
    · rw [if_pos c, if_pos c, if_pos rfl]
    · rw [if_neg c, if_neg c, if_neg (by decide)]
  have e2 : sumI (fun t => if σ (B + j) t * allM τ i ≤ σ (B + i) t * allM τ j then 0 else σ (B + j) t) 0 m.toNat = sumI (fun t => if mo2 τ i j 64 t = 1 - 1 then Qp τ j t else 0) 0 m.toNat := by
    refine sumI_congr _ _ (fun t a b => ?_)
    try dsimp only
    rw [mo2_64 a (by omega), h1 t a (by omega), h2 t a (by omega)]
    by_cases c : Qp τ j t * allM τ i ≤ Qp τ i t * allM τ j
    · rw [if_pos c, if_pos c, if_neg (by decide)]
    · rw [if_neg c, if_neg c, if_pos (by decide)]
  rw [e1, e2]
theorem woS3_4 (σ : zM) (B m i j : Int) : woS3 σ B m i j 33 4 = 0 ∧ woS3 σ B m i j 33 6 = 0 ∧ woS3 σ B m i j 33 7 = 1 := by
  unfold woS3
  simp (disch := omega) only [zU_eq, zU_ow, and_self]
theorem mo3_f (τ : zM) (i j : Int) : mo3 τ i j 60 8 = 0 ∧ mo3 τ i j 60 5 = -1 ∧ mo3 τ i j 60 6 = 0 ∧ mo3 τ i j 60 7 = 1 ∧ mo3 τ i j 60 9 = (if 0 < moreM τ i j then i else if moreM τ i j < 0 then j else -1) ∧ mo3 τ i j 60 10 = (if 0 < moreM τ i j then j else i) := by
  refine ⟨?_, ?_, ?_, ?_, ?_, ?_⟩ <;> (unfold mo3; simp (disch := omega) only [zU_eq, zU_ow]) <;> (unfold mo2; simp (disch := omega) only [zU_eq, zU_ow])
theorem mo3_64 (τ : zM) (i j q : Int) : mo3 τ i j 64 q = mo2 τ i j 64 q := by
  unfold mo3
  simp (disch := omega) only [zU_ow]
/-- flags, owners, fields, but the share of both -/
def AdR0 (σ τ : zM) (m i j : Int) : Prop :=
  (∀ t : Int, 0 ≤ t → t < m → (τ 64 t = 1 ∧ σ 34 t = i) ∨ (τ 64 t = 0 ∧ σ 34 t = j)) ∧
  (σ 33 4 = τ 60 8 ∧ σ 33 5 = τ 60 5 ∧ σ 33 6 = τ 60 6 ∧ σ 33 7 = τ 60 7 ∧ σ 33 2 = τ 60 9 ∧ σ 33 3 = τ 60 10) ∧
  ((σ 33 2 = -1 ∧ σ 33 3 = i ∧ σ 33 5 = -1 ∧ σ 33 6 = 0 ∧ σ 33 7 = 1) ∨ (σ 33 2 = i ∧ σ 33 3 = j ∧ FinA σ τ m i j 1) ∨ (σ 33 2 = j ∧ σ 33 3 = i ∧ FinA σ τ m j i 0))
set_option maxRecDepth 20000 in
set_option maxHeartbeats 2000000 in
theorem adj_eq0 {σ τ : zM} {B m i j : Int} (hB : B = 3 ∨ B = 41) (hV : V1 τ) (hm : τ 61 1 = m) (hi : 0 ≤ i ∧ i < 4) (hj : 0 ≤ j ∧ j < 4) (hij : i < j ∨ j < i) (h1 : ∀ t : Int, 0 ≤ t → t < m → σ (B + i) t = Qp τ i t) (h2 : ∀ t : Int, 0 ≤ t → t < m → σ (B + j) t = Qp τ j t) (sI : sumI (σ (B + i)) 0 m.toNat = allM τ i) (sJ : sumI (σ (B + j)) 0 m.toNat = allM τ j) : AdR0 (woS4 σ B m i j) (moS τ i j) m i j := by
  have v1 := hV.2.1
  have hl := lead_eq (σ := σ) hm h1 h2 sI sJ
  have e61 : mo3 τ i j 61 = τ 61 := mo3_61 τ i j
  have f := mo3_f τ i j
  have g := woS3_4 σ B m i j
  have g5 := woS3_5 σ B m i j
  have g1 := woS3_1 σ B m i j
  have g2 := woS3_2 σ B m i j
  have g3 := woS3_3 σ B m i j
  have ho : ∀ t : Int, 0 ≤ t → t < m → (mo3 τ i j 64 t = 1 ∧ woS3 σ B m i j 34 t = i) ∨ (mo3 τ i j 64 t = 0 ∧ woS3 σ B m i j 34 t = j) := by
    intro t a b
    rw [mo3_64, mo2_64 a (by omega), woS3_34, gfO_34 (by omega) (by omega) _ _ _ _ a (by omega), zU_nc _ _ _ _ _ _ (by omega), zU_nc _ _ _ _ _ _ (by omega), sI, sJ, h1 t a b, h2 t a b]
    by_cases c : Qp τ j t * allM τ i ≤ Qp τ i t * allM τ j
    · left
      rw [if_pos c, if_pos c]
      exact ⟨rfl, rfl⟩
    · right
      rw [if_neg c, if_neg c]
      exact ⟨rfl, rfl⟩
  have hr1 : ∀ t : Int, woS3 σ B m i j (B + i) t = σ (B + i) t := fun t => woS3_o _ _ _ _ _ _ _ (by omega)
  have hr2 : ∀ t : Int, woS3 σ B m i j (B + j) t = σ (B + j) t := fun t => woS3_o _ _ _ _ _ _ _ (by omega)
  have hmo : mor (mo3 τ i j) i j 1 = moreM τ i j := by
    unfold moreM
    exact mor_of (by rw [mo3_61, mo2_61]) (mo3_64 τ i j) _ _ _
  rcases (show 0 < moreM τ i j ∨ moreM τ i j = 0 ∨ moreM τ i j < 0 by omega) with hL | hL | hL
  · have eC : woS4 σ B m i j = mvS (B + i) (B + j) (allM (mo3 τ i j) i) (allM (mo3 τ i j) j) m.toNat (woS3 σ B m i j) (moreM τ i j) := by
      unfold woS4
      rw [hl, if_pos hL, sI, sJ, allM_of e61, allM_of e61]
    have eM : moS τ i j = mvM i j 1 m.toNat 0 (mo3 τ i j) := by unfold moS; rw [if_pos hL, hm]
    rw [hl, if_neg (by omega), if_pos hL] at g2
    rw [hl, if_pos hL] at g3
    rw [if_pos hL, if_pos hL] at f
    have K := mv_eq (x := B + i) (y := B + j) (r := i) (p := j) (f := 1) (m := m) (by omega) (by omega) (by omega) (by omega) hi hj m.toNat m.toNat 0 (moreM τ i j) (woS3 σ B m i j) (mo3 τ i j) (Nat.le_refl _) (Int.le_refl _) (by omega) (V1_of hV e61) (by rw [e61]; exact hm) g1 g2 g3 ?_ ?_ ?_ hmo.symm (by omega) ⟨by omega, by omega, by omega, by omega⟩ ⟨by omega, by omega, by omega⟩
    · rw [← eC, ← eM] at K
      refine ⟨fun t a b => ?_, ⟨K.2.1.1, K.2.1.2.1, K.2.1.2.2.1, K.2.1.2.2.2, ?_, ?_⟩, Or.inr (Or.inl ⟨?_, ?_, K.2.2⟩)⟩
      · have := K.1 t a b
        omega
      · rw [eC, eM, mvS_nc _ _ _ _ _ _ _ _ _ (by omega), mvM_nc _ _ _ _ _ _ _ _ (by omega)]; omega
      · rw [eC, eM, mvS_nc _ _ _ _ _ _ _ _ _ (by omega), mvM_nc _ _ _ _ _ _ _ _ (by omega)]; omega
      · rw [eC, mvS_nc _ _ _ _ _ _ _ _ _ (by omega)]; exact g2
      · rw [eC, mvS_nc _ _ _ _ _ _ _ _ _ (by omega)]; exact g3
    · intro t a b
      rw [hr1, hr2, Qp_of e61, Qp_of e61]
      exact ⟨h1 t a b, h2 t a b⟩
    · intro t a b
      have := ho t a b
      omega
    · intro t a b c
      have := rnk_bd (Qp (mo3 τ i j) i) (Qp (mo3 τ i j) j) (m := m.toNat) (t := t) (by omega)
      omega
  · have eC : woS4 σ B m i j = woS3 σ B m i j := by
      unfold woS4
      rw [hl, if_neg (by omega), if_neg (by omega)]
    have eM : moS τ i j = mo3 τ i j := by unfold moS; rw [if_neg (by omega), if_neg (by omega)]
    rw [hl, if_pos hL] at g2
    rw [hl, if_neg (by omega)] at g3
    rw [if_neg (by omega), if_neg (by omega), if_neg (by omega)] at f
    rw [eC, eM]
    exact ⟨ho, ⟨by omega, by omega, by omega, by omega, by omega, by omega⟩, Or.inl ⟨g2, g3, g5, g.2.1, g.2.2⟩⟩
  · have eC : woS4 σ B m i j = mvS (B + j) (B + i) (allM (mo3 τ i j) j) (allM (mo3 τ i j) i) m.toNat (woS3 σ B m i j) (-moreM τ i j) := by
      unfold woS4
      rw [hl, if_neg (by omega), if_pos hL, sI, sJ, allM_of e61, allM_of e61]
    have eM : moS τ i j = mvM j i 0 m.toNat 0 (mo3 τ i j) := by unfold moS; rw [if_neg (by omega), if_pos hL, hm]
    rw [hl, if_neg (by omega), if_neg (by omega)] at g2
    rw [hl, if_neg (by omega)] at g3
    rw [if_neg (by omega), if_pos hL, if_neg (by omega)] at f
    have hmo2 : mor (mo3 τ i j) j i 0 = -moreM τ i j := by
      rw [← hmo]
      unfold mor
      rw [show (1 : Int) - 0 = 1 from rfl, show (1 : Int) - 1 = 0 from rfl]
      omega
    have K := mv_eq (x := B + j) (y := B + i) (r := j) (p := i) (f := 0) (m := m) (by omega) (by omega) (by omega) (by omega) hj hi m.toNat m.toNat 0 (-moreM τ i j) (woS3 σ B m i j) (mo3 τ i j) (Nat.le_refl _) (Int.le_refl _) (by omega) (V1_of hV e61) (by rw [e61]; exact hm) g1 g2 g3 ?_ ?_ ?_ hmo2.symm (by omega) ⟨by omega, by omega, by omega, by omega⟩ ⟨by omega, by omega, by omega⟩
    · rw [← eC, ← eM] at K
      refine ⟨fun t a b => ?_, ⟨K.2.1.1, K.2.1.2.1, K.2.1.2.2.1, K.2.1.2.2.2, ?_, ?_⟩, Or.inr (Or.inr ⟨?_, ?_, K.2.2⟩)⟩
      · have := K.1 t a b
        omega
      · rw [eC, eM, mvS_nc _ _ _ _ _ _ _ _ _ (by omega), mvM_nc _ _ _ _ _ _ _ _ (by omega)]; omega
      · rw [eC, eM, mvS_nc _ _ _ _ _ _ _ _ _ (by omega), mvM_nc _ _ _ _ _ _ _ _ (by omega)]; omega
      · rw [eC, mvS_nc _ _ _ _ _ _ _ _ _ (by omega)]; exact g2
      · rw [eC, mvS_nc _ _ _ _ _ _ _ _ _ (by omega)]; exact g3
    · intro t a b
      rw [hr1, hr2, Qp_of e61, Qp_of e61]
      exact ⟨h2 t a b, h1 t a b⟩
    · intro t a b
      have := ho t a b
      omega
    · intro t a b c
      have := rnk_bd (Qp (mo3 τ i j) j) (Qp (mo3 τ i j) i) (m := m.toNat) (t := t) (by omega)
      omega
