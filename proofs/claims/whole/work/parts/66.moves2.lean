/-! the class's moves are the reference's -/
theorem sumI_upd {f g : Int → Int} {t : Int} : ∀ (n : Nat) (j : Int), j ≤ t → t < j + n → (∀ u : Int, j ≤ u → u < j + n → ¬ u = t → g u = f u) → sumI g j n = sumI f j n - f t + g t
  | 0, j, h1, h2, _ => by omega
  | n + 1, j, h1, h2, h => by
    rw [sumI, sumI]
    by_cases e : t = j
    · subst e
      rw [sumI_congr (f := g) (g := f) n (t + 1) (fun u a b => h u (by omega) (by omega) (by omega))]
      omega
    · have ih := sumI_upd (f := f) (g := g) (t := t) n (j + 1) (by omega) (by omega) (fun u a b c => h u (by omega) (by omega) c)
      rw [ih, h j (by omega) (by omega) (fun q => e q.symm)]
      omega
theorem sumI_z {f : Int → Int} : ∀ (n : Nat) (j : Int), (∀ u : Int, j ≤ u → u < j + n → f u = 0) → sumI f j n = 0
  | 0, j, _ => rfl
  | n + 1, j, h => by rw [sumI, h j (by omega) (by omega), sumI_z n (j + 1) (fun u a b => h u (by omega) (by omega))]; rfl
theorem sF_flip {τ : zM} {p f t v : Int} (ht : 0 ≤ t ∧ t < τ 61 1) : sF (zU τ 64 t v) p f = sF τ p f - (if τ 64 t = f then Qp τ p t else 0) + (if v = f then Qp τ p t else 0) := by
  have e := sumI_upd (f := fun u => if τ 64 u = f then Qp τ p u else 0) (g := fun u => if zU τ 64 t v 64 u = f then Qp τ p u else 0) (t := t) (τ 61 1).toNat 0 ht.1 (by omega) (fun u a b c => by rw [zU_nj _ _ _ _ _ (by omega)])
  try dsimp only at e
  rw [zU_eq] at e
  have q : sF (zU τ 64 t v) p f = sumI (fun u => if zU τ 64 t v 64 u = f then Qp τ p u else 0) 0 (τ 61 1).toNat := by
    unfold sF
    rw [Qp_of (zU_row _ _ _ _ _ (by omega)), show zU τ 64 t v 61 1 = τ 61 1 from zU_nc _ _ _ _ _ _ (by omega)]
  rw [q, e]
  rfl
theorem mor_flip {τ : zM} {r p f t : Int} (ht : 0 ≤ t ∧ t < τ 61 1) (hf : 0 ≤ f ∧ f < 2) (h : τ 64 t = f) : mor (zU τ 64 t (1 - f)) r p f = mor τ r p f - (Qp τ r t * allM τ p + Qp τ p t * allM τ r) := by
  have e0 : zU τ 64 t (1 - f) 61 = τ 61 := zU_row _ _ _ _ _ (by omega)
  have e1 : sF (zU τ 64 t (1 - f)) r f = sF τ r f - Qp τ r t := by
    rw [sF_flip ht, if_pos h, if_neg (by omega)]; omega
  have e2 : sF (zU τ 64 t (1 - f)) p (1 - f) = sF τ p (1 - f) + Qp τ p t := by
    rw [sF_flip ht, if_neg (by omega), if_pos rfl]; omega
  unfold mor
  rw [allM_of e0, allM_of e0, e1, e2, Int.sub_mul, Int.add_mul]
  omega
theorem sF_of {τ τ' : zM} (e61 : τ' 61 = τ 61) (e64 : ∀ q, τ' 64 q = τ 64 q) (p f : Int) : sF τ' p f = sF τ p f := by
  unfold sF
  rw [Qp_of e61, e61, show τ' 64 = τ 64 from funext e64]
theorem mor_of {τ τ' : zM} (e61 : τ' 61 = τ 61) (e64 : ∀ q, τ' 64 q = τ 64 q) (i j f : Int) : mor τ' i j f = mor τ i j f := by
  unfold mor
  rw [sF_of e61 e64, sF_of e61 e64, allM_of e61, allM_of e61]
theorem ahd_congr {R P R' P' : Int → Int} {t u : Int} (h1 : R t = R' t) (h2 : R u = R' u) (h3 : P t = P' t) (h4 : P u = P' u) : ahd R P t u = ahd R' P' t u := by
  unfold ahd
  rw [h1, h2, h3, h4]
def OwF (σ τ : zM) (m r p f : Int) : Prop := ∀ t : Int, 0 ≤ t → t < m → (τ 64 t = f ∧ σ 34 t = r) ∨ (τ 64 t = 1 - f ∧ σ 34 t = p)
def Tie (σ τ : zM) : Prop := σ 33 4 = τ 60 8 ∧ σ 33 5 = τ 60 5 ∧ σ 33 6 = τ 60 6 ∧ σ 33 7 = τ 60 7
def FinA (σ τ : zM) (m r p f : Int) : Prop := (σ 33 5 = -1 ∧ σ 33 6 = 0 ∧ σ 33 7 = 1 ∧ mor τ r p f = 0) ∨ ((0 ≤ σ 33 5 ∧ σ 33 5 < m) ∧ σ 34 (σ 33 5) = r ∧ σ 33 6 = mor τ r p f ∧ σ 33 7 = Qp τ r (σ 33 5) * allM τ p + Qp τ p (σ 33 5) * allM τ r ∧ 0 ≤ σ 33 6 ∧ σ 33 6 < σ 33 7)
theorem mvS_0 {x y a b : Int} (n : Nat) (σ : zM) {gap : Int} (h : gap ≤ 0) : mvS x y a b n σ gap = σ := by
  cases n with
  | zero => rfl
  | succ n => rw [mvS, if_pos h]
set_option maxRecDepth 20000 in
set_option maxHeartbeats 2000000 in
theorem mv_eq {x y r p f m : Int} (hx : x < 33 ∨ 34 < x) (hy : y < 33 ∨ 34 < y) (hrp : ¬ r = p) (hf : 0 ≤ f ∧ f < 2) (hr : 0 ≤ r ∧ r < 4) (hp : 0 ≤ p ∧ p < 4) : ∀ (n n' : Nat) (k gap : Int) (σ τ : zM), n ≤ n' → 0 ≤ k → k + n = m → V1 τ → τ 61 1 = m → σ 33 1 = m → σ 33 2 = r → σ 33 3 = p → (∀ t : Int, 0 ≤ t → t < m → σ x t = Qp τ r t ∧ σ y t = Qp τ p t) → OwF σ τ m r p f → (∀ t : Int, 0 ≤ t → t < m → rnk (Qp τ r) (Qp τ p) m.toNat t < k → ¬ σ 34 t = r) → gap = mor τ r p f → 0 ≤ gap → Tie σ τ → (σ 33 5 = -1 ∧ σ 33 6 = 0 ∧ σ 33 7 = 1) →
    OwF (mvS x y (allM τ r) (allM τ p) n' σ gap) (mvM r p f n k τ) m r p f ∧ Tie (mvS x y (allM τ r) (allM τ p) n' σ gap) (mvM r p f n k τ) ∧ FinA (mvS x y (allM τ r) (allM τ p) n' σ gap) (mvM r p f n k τ) m r p f := by
  intro n
  induction n with
  | zero =>
    intro n' k gap σ τ hn hk hkm hV h61 s1 s2 s3 hxy ho hrk hg hg0 ht hc
    have hno : ∀ t : Int, 0 ≤ t → t < m → ¬ σ 34 t = r := fun t a b => hrk t a b (by
      have := rnk_bd (Qp τ r) (Qp τ p) (m := m.toNat) (t := t) (by omega)
      omega)
    have z : sF τ r f = 0 := by
      unfold sF
      refine sumI_z _ _ (fun u a b => ?_)
      try dsimp only
      rw [if_neg]
      intro e
      rcases ho u a (by omega) with q | q
      · exact hno u a (by omega) q.2
      · omega
    have gz : gap = 0 := by
      have b1 := sF_bd hV hp (f := 1 - f)
      have b2 := allM_bd hV hr
      have b3 := Int.mul_nonneg b1.1 b2.1
      unfold mor at hg
      rw [z, Int.zero_mul] at hg
      omega
    rw [mvS_0 n' σ (by omega), mvM]
    exact ⟨ho, ht, Or.inl ⟨hc.1, hc.2.1, hc.2.2, by omega⟩⟩
  | succ n ih =>
    intro n' k gap σ τ hn hk hkm hV h61 s1 s2 s3 hxy ho hrk hg hg0 ht hc
    have hnn : NN (Qp τ p) m.toNat := by
      have := Qp_nn hV hp
      rw [h61] at this
      exact this
    have hs := byR_spec (R := Qp τ r) (P := Qp τ p) (m := m.toNat) hnn (k := k) (by omega)
    rw [mvM, h61]
    generalize byR (Qp τ r) (Qp τ p) m.toNat k = t at hs ⊢
    have htm : 0 ≤ t ∧ t < m := by omega
    by_cases q1 : τ 64 t = f
    · rw [if_neg (fun h => h q1)]
      have hor : σ 34 t = r := by
        rcases ho t htm.1 htm.2 with q | q
        · exact q.2
        · omega
      by_cases q2 : mor τ r p f = 0
      · rw [if_pos q2, mvS_0 n' σ (by omega)]
        exact ⟨ho, ht, Or.inl ⟨hc.1, hc.2.1, hc.2.2, q2⟩⟩
      · rw [if_neg q2, mor_flip (by omega) hf q1]
        obtain ⟨n1, rfl⟩ : ∃ n1, n' = n1 + 1 := ⟨n' - 1, by omega⟩
        have hnx : nxt σ x y = t := by
          unfold nxt
          rw [s1, s2]
          refine nxtF_least (t0 := t) (decide_eq_true hor) htm.1 m.toNat 0 (-1) (by omega) ?_ (by omega) (by omega) (by omega) (by omega) (fun _ => Or.inl (by omega))
          intro u u1 u2 u3 u4
          have u3 := of_decide_eq_true u3
          have um : u < m := by omega
          rw [ahd_congr (R' := Qp τ r) (P' := Qp τ p) (hxy t htm.1 htm.2).1 (hxy u u1 um).1 (hxy t htm.1 htm.2).2 (hxy u u1 um).2]
          refine rnk_ahd hnn (by omega) (by omega) ?_
          have l1 : ¬ rnk (Qp τ r) (Qp τ p) m.toNat u < k := fun q => hrk u u1 um q u3
          have l2 : ¬ rnk (Qp τ r) (Qp τ p) m.toNat u = k := fun q => u4 (rnk_inj (R := Qp τ r) hnn (by omega) (by omega) (by omega))
          omega
        rw [mvS, if_neg (by omega), hnx, if_neg (by omega), (hxy t htm.1 htm.2).1, (hxy t htm.1 htm.2).2]
        obtain ⟨cl, hcl⟩ : ∃ cl : Int, Qp τ r t * allM τ p + Qp τ p t * allM τ r = cl := ⟨_, rfl⟩
        by_cases q3 : gap < cl
        · rw [hcl, if_pos q3, if_pos (by omega)]
          have em : ∀ q, (zU (zU (zU (zU (zU τ 64 t (1 - f)) 64 t f) 60 5 t) 60 6 (mor τ r p f)) 60 7 cl) 64 q = τ 64 q := fun q => by
            rw [zU_nc _ _ _ _ _ _ (by omega), zU_nc _ _ _ _ _ _ (by omega), zU_nc _ _ _ _ _ _ (by omega)]
            by_cases e : q = t
            · rw [e, zU_eq, q1]
            · rw [zU_nj _ _ _ _ _ (by omega), zU_nj _ _ _ _ _ (by omega)]
          have e61 : (zU (zU (zU (zU (zU τ 64 t (1 - f)) 64 t f) 60 5 t) 60 6 (mor τ r p f)) 60 7 cl) 61 = τ 61 := by
            rw [zU_row _ _ _ _ _ (by omega), zU_row _ _ _ _ _ (by omega), zU_row _ _ _ _ _ (by omega), zU_row _ _ _ _ _ (by omega), zU_row _ _ _ _ _ (by omega)]
          have c4 : σ 33 4 = τ 60 8 := ht.1
          refine ⟨fun u u1 u2 => ?_, ⟨?_, ?_, ?_, ?_⟩, Or.inr ⟨?_, ?_, ?_, ?_, ?_⟩⟩
          · rw [em, zU_nc _ _ _ _ _ _ (by omega), zU_nc _ _ _ _ _ _ (by omega), zU_nc _ _ _ _ _ _ (by omega)]
            exact ho u u1 u2
          · simp (disch := omega) only [zU_eq, zU_ow]
            exact c4
          · simp (disch := omega) only [zU_eq, zU_ow]
          · simp (disch := omega) only [zU_eq, zU_ow]
            exact hg
          · simp (disch := omega) only [zU_eq, zU_ow]
          · simp (disch := omega) only [zU_eq, zU_ow]
            exact htm
          · simp (disch := omega) only [zU_eq, zU_ow]
            exact hor
          · rw [mor_of e61 em]
            simp (disch := omega) only [zU_eq, zU_ow]
            exact hg
          · rw [Qp_of e61, Qp_of e61, allM_of e61, allM_of e61]
            simp (disch := omega) only [zU_eq, zU_ow]
            exact hcl.symm
          · simp (disch := omega) only [zU_eq, zU_ow]
            omega
        · rw [hcl, if_neg q3, if_neg (by omega)]
          have e61 : (zU (zU τ 64 t (1 - f)) 60 8 (τ 60 8 + 1)) 61 = τ 61 := by rw [zU_row _ _ _ _ _ (by omega), zU_row _ _ _ _ _ (by omega)]
          have I := ih n1 (k + 1) (gap - cl) (zU (zU σ 34 t (σ 33 3)) 33 4 (σ 33 4 + 1)) (zU (zU τ 64 t (1 - f)) 60 8 (τ 60 8 + 1)) (by omega) (by omega) (by omega) (V1_of hV e61) (by rw [e61]; exact h61) (by simp (disch := omega) only [zU_eq, zU_ow]; exact s1) (by simp (disch := omega) only [zU_eq, zU_ow]; exact s2) (by simp (disch := omega) only [zU_eq, zU_ow]; exact s3) ?_ ?_ ?_ ?_ (by omega) ?_ ?_
          · rw [allM_of e61, allM_of e61] at I
            exact I
          · intro u u1 u2
            rw [Qp_of e61, Qp_of e61]
            simp (disch := omega) only [zU_eq, zU_ow]
            exact hxy u u1 u2
          · intro u u1 u2
            by_cases e : u = t
            · right
              subst e
              simp (disch := omega) only [zU_eq, zU_ow]
              exact ⟨trivial, s3⟩
            · simp (disch := omega) only [zU_eq, zU_ow]
              exact ho u u1 u2
          · intro u u1 u2
            rw [Qp_of e61, Qp_of e61]
            intro u3
            by_cases e : u = t
            · subst e
              simp (disch := omega) only [zU_eq, zU_ow]
              rw [s3]
              exact fun h => hrp h.symm
            · have l2 : ¬ rnk (Qp τ r) (Qp τ p) m.toNat u = k := fun q => e (rnk_inj (R := Qp τ r) hnn (by omega) (by omega) (by omega))
              simp (disch := omega) only [zU_eq, zU_ow]
              exact hrk u u1 u2 (by omega)
          · have e2 : mor (zU (zU τ 64 t (1 - f)) 60 8 (τ 60 8 + 1)) r p f = mor (zU τ 64 t (1 - f)) r p f := mor_of (zU_row _ _ _ _ _ (by omega)) (fun q => zU_nc _ _ _ _ _ _ (by omega)) _ _ _
            rw [e2, mor_flip (by omega) hf q1]
            omega
          · obtain ⟨t1, t2, t3, t4⟩ := ht
            unfold Tie
            simp (disch := omega) only [zU_eq, zU_ow]
            exact ⟨by omega, t2, t3, t4⟩
          · simp (disch := omega) only [zU_eq, zU_ow]
            exact hc
    · rw [if_pos q1]
      refine ih n' (k + 1) gap σ τ (by omega) (by omega) (by omega) hV h61 s1 s2 s3 hxy ho ?_ hg hg0 ht hc
      intro u u1 u2 u3
      by_cases e : u = t
      · subst e
        rcases ho u htm.1 htm.2 with q | q
        · exact absurd q.1 q1
        · rw [q.2]; exact fun h => hrp h.symm
      · have l2 : ¬ rnk (Qp τ r) (Qp τ p) m.toNat u = k := fun q => e (rnk_inj (R := Qp τ r) hnn (by omega) (by omega) (by omega))
        exact hrk u u1 u2 (by omega)
