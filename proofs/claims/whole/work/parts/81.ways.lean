/-! all ways, as numbers -/
def updW (w : Int → Int) (k v : Int) : Int → Int := fun u => if u = k then v else w u
def aP (P : Int → Int → Int) (m p : Int) : Int := sumI (P p) 0 m.toNat
def toP (P : Int → Int → Int) (m p : Int) : Int := if aP P m p = 0 then 1 else aP P m p
def rch (P : Int → Int → Int) (m : Int) (w : Int → Int) (k p : Int) : Int := toP P m p - sumI (fun t => if w t = p then 0 else P p t) 0 k.toNat
def pstF (r T : Int → Int) : Int → Int → Nat → Int
  | q, _, 0 => q
  | q, p, j + 1 => pstF r T (if r p * T q < r q * T p then p else q) (p + 1) j
def pst (r T : Int → Int) (n : Int) : Int := pstF r T 0 1 (n - 1).toNat
abbrev Bst : Type := Int × Int × Int × (Int → Int)
def stp (P : Int → Int → Int) (m n : Int) (w : Int → Int) (B : Bst) : Bst :=
  if B.1 * toP P m (pst (rch P m w m) (toP P m) n) < rch P m w m (pst (rch P m w m) (toP P m) n) * B.2.1 then (rch P m w m (pst (rch P m w m) (toP P m) n), toP P m (pst (rch P m w m) (toP P m) n), pst (rch P m w m) (toP P m) n, w) else B
def foldP (f : Int → Bst → Bst) : Int → Nat → Bst → Bst
  | _, 0, B => B
  | p, j + 1, B => foldP f (p + 1) j (f p B)
def scn (P : Int → Int → Int) (m n : Int) : Nat → (Int → Int) → Bst → Bst
  | 0, w, B => stp P m n w B
  | d + 1, w, B => foldP (fun p B => scn P m n d (updW w (m - (d + 1)) p) B) 0 n.toNat B
theorem sumI_snoc {f : Int → Int} : ∀ (n : Nat) (j : Int), sumI f j (n + 1) = sumI f j n + f (j + n)
  | 0, j => by
    show f j + sumI f (j + 1) 0 = _
    rw [show sumI f (j + 1) 0 = 0 from rfl, show sumI f j 0 = 0 from rfl, show j + ((0 : Nat) : Int) = j by omega]
    omega
  | n + 1, j => by
    have ih := sumI_snoc (f := f) n (j + 1)
    rw [sumI, ih, sumI, show j + 1 + (n : Int) = j + ((n + 1 : Nat) : Int) by omega]
    omega
theorem sumI_le {f g : Int → Int} : ∀ (n : Nat) (j : Int), (∀ t : Int, j ≤ t → t < j + n → f t ≤ g t) → sumI f j n ≤ sumI g j n
  | 0, j, _ => Int.le_refl _
  | n + 1, j, h => by
    have ih := sumI_le (f := f) (g := g) n (j + 1) (fun t h1 h2 => h t (by omega) (by omega))
    have h0 := h j (by omega) (by omega)
    rw [sumI, sumI]
    omega
theorem sumI_mono {f : Int → Int} : ∀ (n k : Nat) (j : Int), (∀ t : Int, j ≤ t → t < j + (n + k : Nat) → 0 ≤ f t) → sumI f j n ≤ sumI f j (n + k)
  | n, 0, j, _ => Int.le_refl _
  | n, k + 1, j, h => by
    have ih := sumI_mono (f := f) n k j (fun t h1 h2 => h t h1 (by omega))
    have h0 := h (j + (n + k : Nat)) (by omega) (by omega)
    rw [← Nat.add_assoc, sumI_snoc]
    omega
theorem sumI_sub {f g h : Int → Int} : ∀ (n : Nat) (j : Int), (∀ t : Int, j ≤ t → t < j + n → f t = g t + h t) → sumI f j n = sumI g j n + sumI h j n
  | 0, j, _ => rfl
  | n + 1, j, e => by
    have ih := sumI_sub (f := f) (g := g) (h := h) n (j + 1) (fun t h1 h2 => e t (by omega) (by omega))
    rw [sumI, sumI, sumI, ih, e j (by omega) (by omega)]
    omega
section WAYS
variable {P : Int → Int → Int} {m n : Int}
def PN (P : Int → Int → Int) (m n : Int) : Prop := ∀ p t : Int, 0 ≤ p → p < n → 0 ≤ t → t < m → 0 ≤ P p t ∧ P p t ≤ 99
theorem aP_bd (hP : PN P m n) (hm : 0 ≤ m ∧ m ≤ 6) {p : Int} (hp : 0 ≤ p ∧ p < n) : 0 ≤ aP P m p ∧ aP P m p ≤ 594 := by
  have h := sumI_bd (f := P p) (B := 99) m.toNat 0 (fun t a b => hP p t hp.1 hp.2 a (by omega))
  unfold aP
  omega
theorem toP_bd (hP : PN P m n) (hm : 0 ≤ m ∧ m ≤ 6) {p : Int} (hp : 0 ≤ p ∧ p < n) : 1 ≤ toP P m p ∧ toP P m p ≤ 594 := by
  have h := aP_bd hP hm hp
  unfold toP
  split <;> omega
theorem rch_bd (hP : PN P m n) (hm : 0 ≤ m ∧ m ≤ 6) (w : Int → Int) {k p : Int} (hk : 0 ≤ k ∧ k ≤ m) (hp : 0 ≤ p ∧ p < n) : 0 ≤ rch P m w k p ∧ rch P m w k p ≤ 594 := by
  have h := toP_bd hP hm hp
  have b := sumI_bd (f := fun t => if w t = p then 0 else P p t) (B := 99) k.toNat 0 (fun t a b => by
    have := hP p t hp.1 hp.2 a (by omega)
    try dsimp only
    split <;> omega)
  have l1 := sumI_le (f := fun t => if w t = p then 0 else P p t) (g := P p) k.toNat 0 (fun t a b => by
    have := hP p t hp.1 hp.2 a (by omega)
    try dsimp only
    split <;> omega)
  have l2 := sumI_mono (f := P p) k.toNat (m - k).toNat 0 (fun t a b => (hP p t hp.1 hp.2 a (by omega)).1)
  rw [show k.toNat + (m - k).toNat = m.toNat by omega] at l2
  have l3 : aP P m p ≤ toP P m p := by unfold toP; split <;> omega
  unfold aP at l3
  unfold rch
  omega
theorem rch_succ (w : Int → Int) {k : Int} (hk : 0 ≤ k) (p : Int) : rch P m w (k + 1) p = rch P m w k p - (if w k = p then 0 else P p k) := by
  unfold rch
  rw [show (k + 1).toNat = k.toNat + 1 by omega, sumI_snoc, show (0 : Int) + (k.toNat : Int) = k by omega]
  omega
theorem rch_congr {w w' : Int → Int} {k : Int} (h : ∀ t : Int, 0 ≤ t → t < k → w t = w' t) (p : Int) : rch P m w k p = rch P m w' k p := by
  unfold rch
  rw [sumI_congr (g := fun t => if w' t = p then 0 else P p t) k.toNat 0 (fun t a b => by rw [h t a (by omega)])]
theorem rch_upd (w : Int → Int) {k : Int} (v p : Int) : rch P m (updW w k v) k p = rch P m w k p := rch_congr (fun t a b => by unfold updW; rw [if_neg (by omega)]) p
theorem upd_at (w : Int → Int) (k v : Int) : updW w k v k = v := by unfold updW; rw [if_pos rfl]
theorem rch_leaf (hP : PN P m n) (w : Int → Int) {p : Int} (hp : 0 ≤ p ∧ p < n) : rch P m w m p = if aP P m p = 0 then 1 else sumI (fun t => if w t = p then P p t else 0) 0 m.toNat := by
  unfold rch toP
  by_cases h : aP P m p = 0
  · rw [if_pos h, if_pos h]
    have l1 := sumI_le (f := fun t => if w t = p then 0 else P p t) (g := P p) m.toNat 0 (fun t a b => by
      have := hP p t hp.1 hp.2 a (by omega)
      try dsimp only
      split <;> omega)
    have l0 := sumI_bd (f := fun t => if w t = p then 0 else P p t) (B := 99) m.toNat 0 (fun t a b => by
      have := hP p t hp.1 hp.2 a (by omega)
      try dsimp only
      split <;> omega)
    unfold aP at h
    omega
  · rw [if_neg h, if_neg h]
    have e := sumI_sub (f := P p) (g := fun t => if w t = p then 0 else P p t) (h := fun t => if w t = p then P p t else 0) m.toNat 0 (fun t a b => by
      try dsimp only
      split <;> omega)
    unfold aP
    omega
theorem pstF_spec {r T : Int → Int} (hT : ∀ p : Int, 0 ≤ p → p < n → 0 < T p) : ∀ (j : Nat) (q p : Int), 0 ≤ q → q < p → p + j = n → (∀ u : Int, 0 ≤ u → u < p → r q * T u ≤ r u * T q) → (0 ≤ pstF r T q p j ∧ pstF r T q p j < n) ∧ ∀ u : Int, 0 ≤ u → u < n → r (pstF r T q p j) * T u ≤ r u * T (pstF r T q p j)
  | 0, q, p, h1, h2, h3, h4 => by
    rw [pstF]
    exact ⟨by omega, fun u a b => h4 u a (by omega)⟩
  | j + 1, q, p, h1, h2, h3, h4 => by
    rw [pstF]
    have tp := hT p (by omega) (by omega)
    have tq := hT q h1 (by omega)
    by_cases h : r p * T q < r q * T p
    · rw [if_pos h]
      refine pstF_spec hT j p (p + 1) (by omega) (by omega) (by omega) (fun u a b => ?_)
      by_cases e : u = p
      · rw [e]; exact Int.le_refl _
      · exact (crs (by omega) (Int.le_of_lt (hT u a (by omega))) tq (Int.le_of_lt h) (h4 u a (by omega))).1
    · rw [if_neg h]
      refine pstF_spec hT j q (p + 1) h1 (by omega) (by omega) (fun u a b => ?_)
      by_cases e : u = p
      · rw [e]; omega
      · exact h4 u a (by omega)
theorem pst_spec {r T : Int → Int} (hn : 1 ≤ n) (hT : ∀ p : Int, 0 ≤ p → p < n → 0 < T p) : (0 ≤ pst r T n ∧ pst r T n < n) ∧ ∀ u : Int, 0 ≤ u → u < n → r (pst r T n) * T u ≤ r u * T (pst r T n) := by
  unfold pst
  refine pstF_spec hT _ 0 1 (by omega) (by omega) (by omega) (fun u a b => ?_)
  have e : u = 0 := by omega
  rw [e]
  exact Int.le_refl _
theorem foldP_id {f : Int → Bst → Bst} {B : Bst} : ∀ (j : Nat) (p : Int), (∀ u : Int, p ≤ u → u < p + j → f u B = B) → foldP f p j B = B
  | 0, p, _ => rfl
  | j + 1, p, h => by
    rw [foldP, h p (by omega) (by omega)]
    exact foldP_id j (p + 1) (fun u a b => h u (by omega) (by omega))
theorem scn_prune (hP : PN P m n) (hm : 0 ≤ m ∧ m ≤ 6) (hn : 1 ≤ n) {B : Bst} (hB : 0 ≤ B.2.1) : ∀ (d : Nat) (w : Int → Int), d ≤ m → (∃ q : Int, (0 ≤ q ∧ q < n) ∧ rch P m w (m - d) q * B.2.1 ≤ B.1 * toP P m q) → scn P m n d w B = B := by
  intro d
  induction d with
  | zero =>
    rintro w hd ⟨q, hq, h⟩
    rw [show m - ((0 : Nat) : Int) = m by omega] at h
    have hT : ∀ p : Int, 0 ≤ p → p < n → 0 < toP P m p := fun p a b => by
      have := toP_bd hP hm (p := p) ⟨a, b⟩
      omega
    obtain ⟨s1, s2⟩ := pst_spec (r := rch P m w m) (T := toP P m) hn hT
    rw [scn, stp, if_neg]
    have := (crs (Int.le_of_lt (hT _ s1.1 s1.2)) hB (hT q hq.1 hq.2) (s2 q hq.1 hq.2) h).1
    omega
  | succ d ih =>
    rintro w hd ⟨q, hq, h⟩
    rw [scn]
    refine foldP_id _ _ (fun p a b => ?_)
    refine ih (updW w (m - (d + 1)) p) (by omega) ⟨q, hq, ?_⟩
    have e : rch P m (updW w (m - (d + 1)) p) (m - d) q ≤ rch P m w (m - (d + 1 : Nat)) q := by
      rw [show m - (d : Int) = m - (d + 1) + 1 by omega, rch_succ _ (by omega), rch_upd, show m - ((d + 1 : Nat) : Int) = m - (d + 1) by omega]
      have := hP q (m - (d + 1)) hq.1 hq.2 (by omega) (by omega)
      split <;> omega
    have := Int.mul_le_mul_of_nonneg_right e hB
    omega
def GB (B : Bst) : Prop := (-1 ≤ B.1 ∧ B.1 ≤ 594) ∧ (1 ≤ B.2.1 ∧ B.2.1 ≤ 594)
theorem stp_GB (hP : PN P m n) (hm : 0 ≤ m ∧ m ≤ 6) (hn : 1 ≤ n) (w : Int → Int) {B : Bst} (h : GB B) : GB (stp P m n w B) ∧ 0 ≤ (stp P m n w B).1 := by
  have hT : ∀ p : Int, 0 ≤ p → p < n → 0 < toP P m p := fun p a b => by
    have := toP_bd hP hm (p := p) ⟨a, b⟩
    omega
  obtain ⟨s1, s2⟩ := pst_spec (r := rch P m w m) (T := toP P m) hn hT
  have b1 := toP_bd hP hm s1
  have b2 := rch_bd hP hm w (k := m) (by omega) s1
  unfold stp
  generalize pst (rch P m w m) (toP P m) n = q at *
  obtain ⟨g1, g2⟩ := h
  split
  · exact ⟨⟨⟨by show -1 ≤ rch P m w m q; omega, b2.2⟩, b1⟩, b2.1⟩
  · rename_i c
    refine ⟨⟨g1, g2⟩, ?_⟩
    by_cases e : 0 ≤ B.1
    · exact e
    · have e1 : B.1 = -1 := by omega
      have := Int.mul_nonneg b2.1 (show 0 ≤ B.2.1 by omega)
      rw [e1] at c
      omega
theorem foldP_GB {f : Int → Bst → Bst} (hf : ∀ (p : Int) (B : Bst), GB B → GB (f p B) ∧ 0 ≤ (f p B).1) : ∀ (j : Nat) (p : Int) (B : Bst), GB B → GB (foldP f p j B) ∧ (0 < j ∨ 0 ≤ B.1 → 0 ≤ (foldP f p j B).1)
  | 0, p, B, h => ⟨h, fun q => by rw [foldP]; omega⟩
  | j + 1, p, B, h => by
    obtain ⟨a, b⟩ := hf p B h
    obtain ⟨c, d⟩ := foldP_GB hf j (p + 1) (f p B) a
    rw [foldP]
    exact ⟨c, fun _ => d (Or.inr b)⟩
theorem scn_GB (hP : PN P m n) (hm : 0 ≤ m ∧ m ≤ 6) (hn : 1 ≤ n) : ∀ (d : Nat) (w : Int → Int) (B : Bst), GB B → GB (scn P m n d w B) ∧ 0 ≤ (scn P m n d w B).1
  | 0, w, B, h => stp_GB hP hm hn w h
  | d + 1, w, B, h => by
    rw [scn]
    obtain ⟨a, b⟩ := foldP_GB (f := fun p B => scn P m n d (updW w (m - (d + 1)) p) B) (fun p B h => scn_GB hP hm hn d _ B h) n.toNat 0 B h
    exact ⟨a, b (by omega)⟩
end WAYS
