def zenc (ad : Nat → Nat) (v : zV) : Value := match v.1 with
  | 0 => .int (Int32.ofInt v.2)
  | 1 => .long (Int64.ofInt v.2)
  | _ => .ref (ad v.2.toNat)
def zasc (ad : Nat → Nat) : Nat → List zV → List (Nat × Value)
  | _, [] => []
  | i, a :: t => if a.1 ≤ 2 then (i, zenc ad a) :: zasc ad (i + 1) t else zasc ad (i + 1) t
theorem zasc_mem {ad : Nat → Nat} {q : Nat × Value} : ∀ (ls : List zV) (i : Nat), q ∈ zasc ad i ls ↔ ∃ (j : Nat) (v : zV), ls[j]? = some v ∧ v.1 ≤ 2 ∧ q = (i + j, zenc ad v)
  | [], i => by simp [zasc]
  | a :: t, i => by
    unfold zasc
    constructor
    · intro h
      by_cases h2 : a.1 ≤ 2
      · rw [if_pos h2] at h
        rcases List.mem_cons.mp h with h | h
        · exact ⟨0, a, rfl, h2, h⟩
        · obtain ⟨j, v, h3, h4, h5⟩ := (zasc_mem t (i + 1)).mp h
          exact ⟨j + 1, v, by simpa using h3, h4, by rw [h5]; congr 1; omega⟩
      · rw [if_neg h2] at h
        obtain ⟨j, v, h3, h4, h5⟩ := (zasc_mem t (i + 1)).mp h
        exact ⟨j + 1, v, by simpa using h3, h4, by rw [h5]; congr 1; omega⟩
    · rintro ⟨j, v, h3, h4, h5⟩
      cases j with
      | zero =>
        have : a = v := by simpa using h3
        subst this
        rw [if_pos h4, h5]
        exact List.mem_cons_self
      | succ j =>
        have hm : q ∈ zasc ad (i + 1) t := (zasc_mem t (i + 1)).mpr ⟨j, v, by simpa using h3, h4, by rw [h5]; congr 1; omega⟩
        by_cases h2 : a.1 ≤ 2
        · rw [if_pos h2]; exact List.mem_cons_of_mem _ hm
        · rw [if_neg h2]; exact hm
theorem zput_len : ∀ (ls : List zV) (n : Nat) (v : zV), (zput ls n v).length = ls.length
  | [], n, v => by simp [zput]
  | a :: ls, 0, v => by
    simp only [zput]
    by_cases h : v.1 = 1
    · rw [if_pos h]; cases ls <;> simp [zkill]
    · rw [if_neg h]; simp
  | a :: ls, 1, v => by simp [zput, zput_len ls 0 v]
  | a :: ls, n + 2, v => by simp [zput, zput_len ls (n + 1) v]
theorem zkill_get (ls : List zV) (j : Nat) (w : zV) (h : (zkill ls)[j]? = some w) (hw : w.1 ≤ 2) : j ≠ 0 ∧ ls[j]? = some w := by
  cases ls with
  | nil => simp [zkill] at h
  | cons a t =>
    cases j with
    | zero => simp [zkill] at h; subst h; simp at hw
    | succ j => exact ⟨by omega, by simpa [zkill] using h⟩
/-- what stands in the list behind a store -/
theorem zput_get : ∀ (ls : List zV) (n : Nat) (v : zV) (j : Nat) (w : zV), (zput ls n v)[j]? = some w → w.1 ≤ 2 → (j = n ∧ w = v) ∨ (j ≠ n ∧ ls[j]? = some w ∧ ¬ (j + 1 = n ∧ w.1 = 1) ∧ ¬ (v.1 = 1 ∧ j = n + 1))
  | [], n, v, j, w, h, hw => by simp [zput] at h
  | a :: ls, 0, v, j, w, h, hw => by
    simp only [zput] at h
    cases j with
    | zero => left; simp at h; exact ⟨rfl, h.symm⟩
    | succ j =>
      right
      simp only [List.getElem?_cons_succ] at h ⊢
      by_cases hv : v.1 = 1
      · rw [if_pos hv] at h
        obtain ⟨h1, h2⟩ := zkill_get ls j w h hw
        exact ⟨by omega, h2, by omega, by omega⟩
      · rw [if_neg hv] at h
        exact ⟨by omega, h, by omega, fun q => hv q.1⟩
  | a :: ls, 1, v, j, w, h, hw => by
    simp only [zput] at h
    cases j with
    | zero =>
      right
      simp only [List.getElem?_cons_zero, Option.some.injEq] at h ⊢
      by_cases ha : a.1 = 1
      · rw [if_pos ha] at h; subst h; simp at hw
      · rw [if_neg ha] at h; subst h
        exact ⟨by omega, rfl, fun q => ha q.2, by omega⟩
    | succ j =>
      simp only [List.getElem?_cons_succ] at h ⊢
      rcases zput_get ls 0 v j w h hw with ⟨h1, h2⟩ | ⟨h1, h2, h3, h4⟩
      · left; exact ⟨by omega, h2⟩
      · right; exact ⟨by omega, h2, by omega, by omega⟩
  | a :: ls, n + 2, v, j, w, h, hw => by
    simp only [zput] at h
    cases j with
    | zero =>
      right
      simp only [List.getElem?_cons_zero] at h ⊢
      exact ⟨by omega, h, by omega, by omega⟩
    | succ j =>
      simp only [List.getElem?_cons_succ] at h ⊢
      rcases zput_get ls (n + 1) v j w h hw with ⟨h1, h2⟩ | ⟨h1, h2, h3, h4⟩
      · left; exact ⟨by omega, h2⟩
      · right; exact ⟨by omega, h2, by omega, by omega⟩
theorem lv_mono {ls : Array Slot} {nL : Nat} {l l' : List (Nat × Value)} (h : lv_has ls nL l) (hm : ∀ q ∈ l', q ∈ l) : lv_has ls nL l' := ⟨h.1, h.2.1, fun q hq => h.2.2 q (hm q hq)⟩
theorem zenc_cat {ad : Nat → Nat} {v : zV} (h : v.1 ≠ 1) : (zenc ad v).category = 1 := by
  unfold zenc
  split
  · rfl
  · contradiction
  · rfl
theorem zenc_cat2 {ad : Nat → Nat} {v : zV} : (zenc ad v).category = 2 → v.1 = 1 := by
  intro h
  by_cases h1 : v.1 = 1
  · exact h1
  · rw [zenc_cat h1] at h; cases h
theorem zenc_long {ad : Nat → Nat} {v : zV} (h : v.1 = 1) : (zenc ad v).category = 2 := by
  obtain ⟨t, x⟩ := v
  cases h
  rfl
theorem zst1 {ad : Nat → Nat} {M : Array Slot} {nL : Nat} {ls : List zV} {i : Nat} {v : zV} (hv : v.1 ≠ 1) (h : lv_has M nL ((i, zenc ad v) :: (zasc ad 0 ls).filter (fun q => !(q.1 == i) && !(q.1 + 1 == i && q.2.category == 2)))) : lv_has M nL (zasc ad 0 (zput ls i v)) := by
  refine lv_mono h fun q hq => ?_
  obtain ⟨j, w, h1, h2, rfl⟩ := (zasc_mem _ _).mp hq
  rw [Nat.zero_add]
  rcases zput_get ls i v j w h1 h2 with ⟨rfl, rfl⟩ | ⟨h3, h4, h5, h6⟩
  · exact List.mem_cons_self
  · refine List.mem_cons_of_mem _ (List.mem_filter.mpr ⟨(zasc_mem _ _).mpr ⟨j, w, h4, h2, by rw [Nat.zero_add]⟩, ?_⟩)
    simp only [Bool.and_eq_true, Bool.not_eq_true', beq_eq_false_iff_ne, ne_eq, Bool.and_eq_false_iff]
    refine ⟨h3, ?_⟩
    by_cases h7 : j + 1 = i
    · right; exact fun h8 => h5 ⟨h7, zenc_cat2 h8⟩
    · left; exact h7
theorem zst2 {ad : Nat → Nat} {M : Array Slot} {nL : Nat} {ls : List zV} {i : Nat} {v : zV} (hv : v.1 = 1) (h : lv_has M nL ((i, zenc ad v) :: (zasc ad 0 ls).filter (fun q => !(q.1 == i) && (!(q.1 == i + 1) && !(q.1 + 1 == i && q.2.category == 2))))) : lv_has M nL (zasc ad 0 (zput ls i v)) := by
  refine lv_mono h fun q hq => ?_
  obtain ⟨j, w, h1, h2, rfl⟩ := (zasc_mem _ _).mp hq
  rw [Nat.zero_add]
  rcases zput_get ls i v j w h1 h2 with ⟨rfl, rfl⟩ | ⟨h3, h4, h5, h6⟩
  · exact List.mem_cons_self
  · refine List.mem_cons_of_mem _ (List.mem_filter.mpr ⟨(zasc_mem _ _).mpr ⟨j, w, h4, h2, by rw [Nat.zero_add]⟩, ?_⟩)
    simp only [Bool.and_eq_true, Bool.not_eq_true', beq_eq_false_iff_ne, ne_eq, Bool.and_eq_false_iff]
    refine ⟨h3, fun h7 => h6 ⟨hv, h7⟩, ?_⟩
    by_cases h7 : j + 1 = i
    · right; exact fun h8 => h5 ⟨h7, zenc_cat2 h8⟩
    · left; exact h7
theorem zlv_get {ad : Nat → Nat} {M : Array Slot} {nL : Nat} {ls : List zV} (h : lv_has M nL (zasc ad 0 ls)) {i : Nat} {v : zV} (hi : ls[i]? = some v) (hv : v.1 ≤ 2) : M[i]? = some (.val (zenc ad v)) :=
  h.2.2 (i, zenc ad v) ((zasc_mem _ _).mpr ⟨i, v, hi, hv, by rw [Nat.zero_add]⟩)
/-! the cells of a memory -/
def zfv (ad : Nat → Nat) (row : Int → Int) (c ci j : Nat) : Value := match zfk ci j with
  | 0 => .int (Int32.ofInt (row j))
  | 1 => .int (Int32.ofInt (row j))
  | 2 => .long (Int64.ofInt (row j))
  | 3 => .ref (ad (zrf c j))
  | _ => if 0 ≤ row j then .ref (ad (row j).toNat) else .null
def zentT (ad : Nat → Nat) (ca : Nat → ClassId) (row : Int → Int) (c t n : Nat) : va_E := match t with
  | 0 => .inl (ca 0, n, .inl fun j => Int32.ofInt (row j))
  | 1 => .inl (ca 1, n, .inr (.inl fun j => Int64.ofInt (row j)))
  | 2 => .inl (ca 2, n, .inl fun j => (Int32.ofInt (row j)).toInt8.toInt32)
  | 3 => .inl (ca 3, n, .inl fun j => Int32.ofInt (row j) &&& 1)
  | 4 => .inl (ca 4, n, .inr (.inr (.inr (.inr fun j => some (ad (zra c j))))))
  | 5 => .inl (ca 5, n, .inr (.inr (.inr (.inr fun j => some (ad (zra c j))))))
  | t + 6 => .inr (t - 4, (List.range n).map (zfv ad row c (t - 4)))
def zent (ad : Nat → Nat) (ca : Nat → ClassId) (row : Int → Int) (c : Nat) : va_E := zentT ad ca row c (zSHP.getD c (99, 0)).1 (zSHP.getD c (99, 0)).2
def zWS (ad : Nat → Nat) (ca : Nat → ClassId) (σ : zM) : va_W := (List.range 72).map fun c : Nat => (ad c, zent ad ca (σ c) c)
theorem zWS_get (ad : Nat → Nat) (ca : Nat → ClassId) (σ : zM) {c : Nat} (h : c < 72) : (zWS ad ca σ)[c]? = some (ad c, zent ad ca (σ c) c) := by
  simp [zWS, h]
theorem zWS_set (ad : Nat → Nat) (ca : Nat → ClassId) (σ σ' : zM) {c : Nat} (h : c < 72) (ho : ∀ q : Nat, q ≠ c → σ' q = σ q) : (zWS ad ca σ).set c (ad c, zent ad ca (σ' c) c) = zWS ad ca σ' := by
  apply List.ext_getElem?
  intro i
  by_cases hi : i < 72
  · by_cases hc : c = i
    · subst hc
      rw [List.getElem?_set_self (by simp [zWS]; exact hi), zWS_get ad ca σ' hi]
    · rw [List.getElem?_set_ne hc, zWS_get ad ca σ hi, zWS_get ad ca σ' hi, ho i (fun q => hc q.symm)]
  · rw [List.getElem?_eq_none (by simp [zWS]; omega), List.getElem?_eq_none (by simp [zWS]; omega)]
theorem zshp_lt {c : Int} (h : (zshp c).1 ≠ 99) : ∃ n : Nat, c = n ∧ n < 72 ∧ zshp c = zSHP.getD n (99, 0) := by
  unfold zshp at h ⊢
  by_cases h0 : 0 ≤ c
  · rw [if_pos h0] at h ⊢
    refine ⟨c.toNat, by omega, ?_, rfl⟩
    by_cases h1 : c.toNat < 72
    · exact h1
    · rw [List.getD_eq_getElem?_getD, List.getElem?_eq_none (by simp [zSHP]; omega)] at h
      exact absurd rfl h
  · rw [if_neg h0] at h
    exact absurd rfl h
theorem zshp_nat (n : Nat) : zshp n = zSHP.getD n (99, 0) := by
  unfold zshp
  rw [if_pos (by omega), Int.toNat_natCast]
theorem zD_of {ad : Nat → Nat} {ca : Nat → ClassId} {A : Nat → Prop} {σ : zM} (hA : ∀ q, q < 72 → A (ad q)) (hi : ∀ i j, i < 72 → j < 72 → ad i = ad j → i = j) : va_D A (zWS ad ca σ) := by
  have key : ∀ (k : Nat) (q : Nat × va_E), (zWS ad ca σ)[k]? = some q → k < 72 ∧ q.1 = ad k := by
    intro k q hq
    have hk : k < 72 := by
      by_cases h : k < 72
      · exact h
      · rw [List.getElem?_eq_none (by simp [zWS]; omega)] at hq; cases hq
    rw [zWS_get ad ca σ hk] at hq
    cases hq
    exact ⟨hk, rfl⟩
  refine ⟨fun i j x y hx hy hxy => ?_, fun k q hq => ?_⟩
  · obtain ⟨h1, h2⟩ := key i x hx
    obtain ⟨h3, h4⟩ := key j y hy
    exact hi i j h1 h3 (by rw [← h2, ← h4, hxy])
  · obtain ⟨h1, h2⟩ := key k q hq
    rw [h2]; exact hA k h1
theorem z_c32 {x n : Int} (h : 0 ≤ c32 x) (h2 : c32 x < n) (hn : n < 2147483648) : ∃ j : Nat, c32 x = j ∧ (j : Int) < n ∧ (Int32.ofInt x).toNatClampNeg = j ∧ ¬ Int32.ofInt x < 0 := by
  refine ⟨(c32 x).toNat, by omega, by omega, rfl, ?_⟩
  rw [Int32.lt_iff_toInt_lt]
  exact Int.not_lt.mpr h
