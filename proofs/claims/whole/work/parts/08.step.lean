def zTys (ca : Nat → ClassId) : List (ClassId × FieldType) := [(ca 0, .int), (ca 1, .long), (ca 2, .byte), (ca 3, .boolean), (ca 4, .array .int), (ca 5, .object "PointShares$Tape")]
/-- the static methods of another class of the nest that are called -/
def zNest (s : State) : Prop := ∀ q ∈ zCALL, q.2.2.1 = 2 → va_Nw (.methodLinkNest (zcn q.1) q.2.1 (zname q.2.2.2.1) "PointShares") s
def zCx (ad : Nat → Nat) (D : va_G) (ca : Nat → ClassId) (A : Nat → Prop) (xr : Int → Int) (p : Program) (R : Room) (s : State) (m : MethodId) (args : Array Value) (c : Code) (k : Nat) : Prop :=
  p.tables.exec = Jvm.exec ∧ c.code = zbytes k ∧ c.maxLocals = zmaxl k ∧ s.vm.findClass (zcn (zown k)) = some m.cls ∧ (∀ w ∈ zW, w.before args s = true) ∧ zNest s ∧ va_K D vwCl (zTys ca) s ∧ (∀ q, q < 72 → A (ad q)) ∧ (∀ i j, i < 72 → j < 72 → ad i = ad j → i = j) ∧ zlvl k ≤ R.frames ∧ 40 * zlvl k ≤ R.locals ∧
  (k = zLAW → ∃ L : Nat, va_X (ad 72) L (fun j => Int32.ofInt (xr j)) s s.heap ∧ ad 72 < s.heap.size ∧ ¬ A (ad 72) ∧ xr (-1) = L ∧ L ≤ 3072)
def zpc (is : List zCE) : Nat := match is with
  | [] => 0
  | e :: _ => e.1
/-- from every heap that holds this memory, the machine comes to Q -/
def zWp (ad : Nat → Nat) (D : va_G) (ca : Nat → ClassId) (A : Nat → Prop) (xr : Int → Int) (p : Program) (l : Launch) (e : Env) (R : Room) (s : State) (m : MethodId) (args : Array Value) (below : List Frame) (meth : Method) (c : Code) (cells slots : Nat) (Q : State → Prop) (k : Nat) (pc : Nat) (ls st : List zV) (σ : zM) : Prop :=
  ∀ (H : Heap) (locs : List Loc) (M : Array Slot), σ 72 = xr → va_P D vwCl (zWS ad ca σ) H → va_S A s.heap H locs → lv_has M (zmaxl k) (zasc ad 0 ls) → W p l e R s m args below meth c H locs cells slots Q (F0 m pc M (st.map (zenc ad)))
section ZS
variable {ad : Nat → Nat} {D : va_G} {ca : Nat → ClassId} {A : Nat → Prop} {xr : Int → Int} {p : Program} {l : Launch} {e : Env} {R : Room} {s : State} {m : MethodId} {args : Array Value} {below : List Frame} {meth : Method} {c : Code} {cells slots : Nat} {Q : State → Prop} {k pc : Nat} {is is' : List zCE} {ls ls' st st' : List zV} {σ σ' : zM}
theorem zgo_inv {is0 : List zCE} {ls0 st0 : List zV} {σ0 : zM} (h : zgo is0 ls0 st0 σ0 = .inr (.inl (is', ls', st', σ'))) : is0 = is' ∧ ls0 = ls' ∧ st0 = st' ∧ σ0 = σ' := by
  unfold zgo at h
  simpa using h
theorem zs_const {dn : Nat} {v : zV} (hr : ∀ (H : Heap) (locs : List Loc) (M : Array Slot) (rest : List Value), W p l e R s m args below meth c H locs cells slots Q (F0 m (pc + dn) M (zenc ad v :: rest)) → W p l e R s m args below meth c H locs cells slots Q (F0 m pc M rest))
    (hpc : is = is' → zpc is' = pc + dn) (h : zgo is ls (v :: st) σ = .inr (.inl (is', ls', st', σ'))) (kk : zWp ad D ca A xr p l e R s m args below meth c cells slots Q k (zpc is') ls' st' σ') : zWp ad D ca A xr p l e R s m args below meth c cells slots Q k pc ls st σ := by
  obtain ⟨h3, rfl, rfl, rfl⟩ := zgo_inv h
  rw [hpc h3] at kk
  intro H locs M hx hP hS hl
  exact hr H locs M _ (kk H locs M hx hP hS hl)
theorem zs_ld {dn : Nat} {t n : Nat} (ht : t ≤ 2) (hr : ∀ (H : Heap) (locs : List Loc) (M : Array Slot) (rest : List Value) (v : zV), v.1 = t → M[n]? = some (.val (zenc ad v)) → W p l e R s m args below meth c H locs cells slots Q (F0 m (pc + dn) M (zenc ad v :: rest)) → W p l e R s m args below meth c H locs cells slots Q (F0 m pc M rest))
    (hpc : is = is' → zpc is' = pc + dn) (h : zld t n is ls st σ = .inr (.inl (is', ls', st', σ'))) (kk : zWp ad D ca A xr p l e R s m args below meth c cells slots Q k (zpc is') ls' st' σ') : zWp ad D ca A xr p l e R s m args below meth c cells slots Q k pc ls st σ := by
  unfold zld at h
  cases hv : ls[n]? with
  | none => rw [hv] at h; cases h
  | some v =>
    rw [hv] at h
    dsimp only at h
    by_cases h1 : v.1 = t
    · rw [if_pos h1] at h
      obtain ⟨h3, rfl, rfl, rfl⟩ := zgo_inv h
      rw [hpc h3] at kk
      intro H locs M hx hP hS hl
      exact hr H locs M _ v h1 (zlv_get hl hv (by omega)) (kk H locs M hx hP hS hl)
    · rw [if_neg h1] at h; cases h
theorem zs_st {dn : Nat} {t n : Nat} (hr : ∀ (H : Heap) (locs : List Loc) (M : Array Slot) (rest : List Value) (v : zV), v.1 = t → (if t = 1 then n + 1 else n) < zmaxl k → lv_has M (zmaxl k) (zasc ad 0 ls) → (∀ M' : Array Slot, lv_has M' (zmaxl k) (zasc ad 0 (zput ls n v)) → W p l e R s m args below meth c H locs cells slots Q (F0 m (pc + dn) M' rest)) → W p l e R s m args below meth c H locs cells slots Q (F0 m pc M (zenc ad v :: rest)))
    (hlen : ls.length = zmaxl k) (hpc : is = is' → zpc is' = pc + dn) (h : zst t n is ls st σ = .inr (.inl (is', ls', st', σ'))) (kk : zWp ad D ca A xr p l e R s m args below meth c cells slots Q k (zpc is') ls' st' σ') : zWp ad D ca A xr p l e R s m args below meth c cells slots Q k pc ls st σ := by
  unfold zst at h
  cases st with
  | nil => cases h
  | cons v st =>
    dsimp only at h
    by_cases h1 : v.1 = t ∧ (if t = 1 then n + 1 else n) < ls.length
    · rw [if_pos h1] at h
      obtain ⟨h3, rfl, rfl, rfl⟩ := zgo_inv h
      rw [hpc h3] at kk
      intro H locs M hx hP hS hl
      exact hr H locs M _ v h1.1 (by rw [← hlen]; exact h1.2) hl (fun M' hl' => kk H locs M' hx hP hS hl')
    · rw [if_neg h1] at h; cases h
theorem zs_bin {dn : Nat} {ta tb tr : Nat} {g : Int → Int → Option Int} (hr : ∀ (H : Heap) (locs : List Loc) (M : Array Slot) (rest : List Value) (a b r : Int), g a b = some r → W p l e R s m args below meth c H locs cells slots Q (F0 m (pc + dn) M (zenc ad (tr, r) :: rest)) → W p l e R s m args below meth c H locs cells slots Q (F0 m pc M (zenc ad (tb, b) :: zenc ad (ta, a) :: rest)))
    (hpc : is = is' → zpc is' = pc + dn) (h : zbin ta tb tr g is ls st σ = .inr (.inl (is', ls', st', σ'))) (kk : zWp ad D ca A xr p l e R s m args below meth c cells slots Q k (zpc is') ls' st' σ') : zWp ad D ca A xr p l e R s m args below meth c cells slots Q k pc ls st σ := by
  unfold zbin at h
  rcases st with _ | ⟨⟨t1, b⟩, _ | ⟨⟨t2, a⟩, st⟩⟩
  · cases h
  · cases h
  · dsimp only at h
    by_cases h1 : t1 = tb ∧ t2 = ta
    · rw [if_pos h1] at h
      obtain ⟨rfl, rfl⟩ := h1
      cases hg : g a b with
      | none => rw [hg] at h; cases h
      | some r =>
        rw [hg] at h
        obtain ⟨h3, rfl, rfl, rfl⟩ := zgo_inv h
        rw [hpc h3] at kk
        intro H locs M hx hP hS hl
        exact hr H locs M _ a b r hg (kk H locs M hx hP hS hl)
    · rw [if_neg h1] at h; cases h
theorem zs_un {dn : Nat} {ta tr : Nat} {g : Int → Int} (hr : ∀ (H : Heap) (locs : List Loc) (M : Array Slot) (rest : List Value) (a : Int), W p l e R s m args below meth c H locs cells slots Q (F0 m (pc + dn) M (zenc ad (tr, g a) :: rest)) → W p l e R s m args below meth c H locs cells slots Q (F0 m pc M (zenc ad (ta, a) :: rest)))
    (hpc : is = is' → zpc is' = pc + dn) (h : zun ta tr g is ls st σ = .inr (.inl (is', ls', st', σ'))) (kk : zWp ad D ca A xr p l e R s m args below meth c cells slots Q k (zpc is') ls' st' σ') : zWp ad D ca A xr p l e R s m args below meth c cells slots Q k pc ls st σ := by
  unfold zun at h
  rcases st with _ | ⟨⟨t2, a⟩, st⟩
  · cases h
  · dsimp only at h
    by_cases h1 : t2 = ta
    · rw [if_pos h1] at h
      subst h1
      obtain ⟨h3, rfl, rfl, rfl⟩ := zgo_inv h
      rw [hpc h3] at kk
      intro H locs M hx hP hS hl
      exact hr H locs M _ a (kk H locs M hx hP hS hl)
    · rw [if_neg h1] at h; cases h
theorem zjump_pc {k : Nat} {x : Int} {is' : List zCE} (h : zjump k x = is') (hne : is' ≠ []) : (zpc is' : Int) = x := by
  unfold zjump at h
  generalize zcode k = L at h
  induction L with
  | nil => rw [List.dropWhile_nil] at h; exact absurd h.symm hne
  | cons a t ih =>
    rw [List.dropWhile_cons] at h
    by_cases h1 : (a.1 : Int) = x
    · rw [if_neg (by simpa using h1)] at h
      rw [← h]; exact h1
    · rw [if_pos (by simpa using h1)] at h
      exact ih h
theorem zs_if {x off : Int} {cd : Jvm.ClassFile.Cond} (hexec : p.tables.exec = Jvm.exec) (hb : c.code = zbytes k) (hdg : decode (zbytes k) pc = .ok (.ifCond cd off, 3)) (hx : (pc : Int) + off = x) (hx0 : 0 ≤ x) (hne : is' ≠ []) (hpc : is = is' → zpc is' = pc + 3)
    (h : zif k x cd is ls st σ = .inr (.inl (is', ls', st', σ'))) (kk : zWp ad D ca A xr p l e R s m args below meth c cells slots Q k (zpc is') ls' st' σ') : zWp ad D ca A xr p l e R s m args below meth c cells slots Q k pc ls st σ := by
  unfold zif at h
  rcases st with _ | ⟨⟨t2, a⟩, st⟩
  · cases h
  · dsimp only at h
    by_cases h1 : t2 = 0
    · rw [if_pos h1] at h
      subst h1
      intro H locs M hxx hP hS hl
      by_cases h2 : zcd cd (c32 a) 0 = true
      · rw [if_pos h2] at h
        obtain ⟨h3, rfl, rfl, rfl⟩ := zgo_inv h
        have ht := zjump_pc h3 hne
        have K := kk H locs M hxx hP hS hl
        show W p l e R s m args below meth c H locs cells slots Q (F0 m pc M (.int (Int32.ofInt a) :: _))
        cases cd
        · have h4 : (Int32.ofInt a).toInt = (0 : Int32).toInt := of_decide_eq_true h2
          exact lv_if_eq hexec hb hdg (hx.trans ht.symm) (fun _ => K) (fun q => absurd (Int32.toInt_inj.mp h4) q)
        · have h4 : ¬ (Int32.ofInt a).toInt = (0 : Int32).toInt := of_decide_eq_true h2
          exact lv_if_ne hexec hb hdg (hx.trans ht.symm) (fun _ => K) (fun q => absurd (by rw [q]) h4)
        · have h4 : (Int32.ofInt a).toInt < (0 : Int32).toInt := of_decide_eq_true h2
          exact lv_if_lt hexec hb hdg (hx.trans ht.symm) (fun _ => K) (fun q => absurd (Int32.lt_iff_toInt_lt.mpr h4) q)
        · have h4 : (0 : Int32).toInt ≤ (Int32.ofInt a).toInt := of_decide_eq_true h2
          exact lv_if_ge hexec hb hdg (hx.trans ht.symm) (fun _ => K) (fun q => absurd (Int32.le_iff_toInt_le.mpr h4) q)
        · have h4 : (0 : Int32).toInt < (Int32.ofInt a).toInt := of_decide_eq_true h2
          exact lv_if_gt hexec hb hdg (hx.trans ht.symm) (fun _ => K) (fun q => absurd (Int32.lt_iff_toInt_lt.mpr h4) q)
        · have h4 : (Int32.ofInt a).toInt ≤ (0 : Int32).toInt := of_decide_eq_true h2
          exact lv_if_le hexec hb hdg (hx.trans ht.symm) (fun _ => K) (fun q => absurd (Int32.le_iff_toInt_le.mpr h4) q)
      · rw [if_neg h2] at h
        obtain ⟨h3, rfl, rfl, rfl⟩ := zgo_inv h
        have K := kk H locs M hxx hP hS hl
        rw [hpc h3] at K
        show W p l e R s m args below meth c H locs cells slots Q (F0 m pc M (.int (Int32.ofInt a) :: _))
        have htg : (pc : Int) + off = (x.toNat : Nat) := by omega
        cases cd
        · have h4 : ¬ (Int32.ofInt a).toInt = (0 : Int32).toInt := fun q => h2 (decide_eq_true q)
          exact lv_if_eq hexec hb hdg htg (fun q => absurd (by rw [q]) h4) (fun _ => K)
        · have h4 : ¬ ¬ (Int32.ofInt a).toInt = (0 : Int32).toInt := fun q => h2 (decide_eq_true q)
          exact lv_if_ne hexec hb hdg htg (fun q => absurd (fun z => q (Int32.toInt_inj.mp z)) h4) (fun _ => K)
        · have h4 : ¬ (Int32.ofInt a).toInt < (0 : Int32).toInt := fun q => h2 (decide_eq_true q)
          exact lv_if_lt hexec hb hdg htg (fun q => absurd (Int32.lt_iff_toInt_lt.mp q) h4) (fun _ => K)
        · have h4 : ¬ (0 : Int32).toInt ≤ (Int32.ofInt a).toInt := fun q => h2 (decide_eq_true q)
          exact lv_if_ge hexec hb hdg htg (fun q => absurd (Int32.le_iff_toInt_le.mp q) h4) (fun _ => K)
        · have h4 : ¬ (0 : Int32).toInt < (Int32.ofInt a).toInt := fun q => h2 (decide_eq_true q)
          exact lv_if_gt hexec hb hdg htg (fun q => absurd (Int32.lt_iff_toInt_lt.mp q) h4) (fun _ => K)
        · have h4 : ¬ (Int32.ofInt a).toInt ≤ (0 : Int32).toInt := fun q => h2 (decide_eq_true q)
          exact lv_if_le hexec hb hdg htg (fun q => absurd (Int32.le_iff_toInt_le.mp q) h4) (fun _ => K)
    · rw [if_neg h1] at h; cases h
theorem zs_icmp {x off : Int} {cd : Jvm.ClassFile.Cond} (hexec : p.tables.exec = Jvm.exec) (hb : c.code = zbytes k) (hdg : decode (zbytes k) pc = .ok (.if_icmp cd off, 3)) (hx : (pc : Int) + off = x) (hx0 : 0 ≤ x) (hne : is' ≠ []) (hpc : is = is' → zpc is' = pc + 3)
    (h : zicmp k x cd is ls st σ = .inr (.inl (is', ls', st', σ'))) (kk : zWp ad D ca A xr p l e R s m args below meth c cells slots Q k (zpc is') ls' st' σ') : zWp ad D ca A xr p l e R s m args below meth c cells slots Q k pc ls st σ := by
  unfold zicmp at h
  rcases st with _ | ⟨⟨t1, b⟩, _ | ⟨⟨t2, a⟩, st⟩⟩
  · cases h
  · cases h
  · dsimp only at h
    by_cases h1 : t1 = 0 ∧ t2 = 0
    · rw [if_pos h1] at h
      obtain ⟨rfl, rfl⟩ := h1
      intro H locs M hxx hP hS hl
      by_cases h2 : zcd cd (c32 a) (c32 b) = true
      · rw [if_pos h2] at h
        obtain ⟨h3, rfl, rfl, rfl⟩ := zgo_inv h
        have ht := zjump_pc h3 hne
        have K := kk H locs M hxx hP hS hl
        show W p l e R s m args below meth c H locs cells slots Q (F0 m pc M (.int (Int32.ofInt b) :: .int (Int32.ofInt a) :: _))
        cases cd
        · have h4 : (Int32.ofInt a).toInt = (Int32.ofInt b).toInt := of_decide_eq_true h2
          exact lv_icmp_eq hexec hb hdg (hx.trans ht.symm) (fun _ => K) (fun q => absurd (Int32.toInt_inj.mp h4) q)
        · have h4 : ¬ (Int32.ofInt a).toInt = (Int32.ofInt b).toInt := of_decide_eq_true h2
          exact lv_icmp_ne hexec hb hdg (hx.trans ht.symm) (fun _ => K) (fun q => absurd (by rw [q]) h4)
        · have h4 : (Int32.ofInt a).toInt < (Int32.ofInt b).toInt := of_decide_eq_true h2
          exact lv_icmp_lt hexec hb hdg (hx.trans ht.symm) (fun _ => K) (fun q => absurd (Int32.lt_iff_toInt_lt.mpr h4) q)
        · have h4 : (Int32.ofInt b).toInt ≤ (Int32.ofInt a).toInt := of_decide_eq_true h2
          exact lv_icmp_ge hexec hb hdg (hx.trans ht.symm) (fun _ => K) (fun q => absurd (Int32.le_iff_toInt_le.mpr h4) q)
        · have h4 : (Int32.ofInt b).toInt < (Int32.ofInt a).toInt := of_decide_eq_true h2
          exact lv_icmp_gt hexec hb hdg (hx.trans ht.symm) (fun _ => K) (fun q => absurd (Int32.lt_iff_toInt_lt.mpr h4) q)
        · have h4 : (Int32.ofInt a).toInt ≤ (Int32.ofInt b).toInt := of_decide_eq_true h2
          exact lv_icmp_le hexec hb hdg (hx.trans ht.symm) (fun _ => K) (fun q => absurd (Int32.le_iff_toInt_le.mpr h4) q)
      · rw [if_neg h2] at h
        obtain ⟨h3, rfl, rfl, rfl⟩ := zgo_inv h
        have K := kk H locs M hxx hP hS hl
        rw [hpc h3] at K
        show W p l e R s m args below meth c H locs cells slots Q (F0 m pc M (.int (Int32.ofInt b) :: .int (Int32.ofInt a) :: _))
        have htg : (pc : Int) + off = (x.toNat : Nat) := by omega
        cases cd
        · have h4 : ¬ (Int32.ofInt a).toInt = (Int32.ofInt b).toInt := fun q => h2 (decide_eq_true q)
          exact lv_icmp_eq hexec hb hdg htg (fun q => absurd (by rw [q]) h4) (fun _ => K)
        · have h4 : ¬ ¬ (Int32.ofInt a).toInt = (Int32.ofInt b).toInt := fun q => h2 (decide_eq_true q)
          exact lv_icmp_ne hexec hb hdg htg (fun q => absurd (fun z => q (Int32.toInt_inj.mp z)) h4) (fun _ => K)
        · have h4 : ¬ (Int32.ofInt a).toInt < (Int32.ofInt b).toInt := fun q => h2 (decide_eq_true q)
          exact lv_icmp_lt hexec hb hdg htg (fun q => absurd (Int32.lt_iff_toInt_lt.mp q) h4) (fun _ => K)
        · have h4 : ¬ (Int32.ofInt b).toInt ≤ (Int32.ofInt a).toInt := fun q => h2 (decide_eq_true q)
          exact lv_icmp_ge hexec hb hdg htg (fun q => absurd (Int32.le_iff_toInt_le.mp q) h4) (fun _ => K)
        · have h4 : ¬ (Int32.ofInt b).toInt < (Int32.ofInt a).toInt := fun q => h2 (decide_eq_true q)
          exact lv_icmp_gt hexec hb hdg htg (fun q => absurd (Int32.lt_iff_toInt_lt.mp q) h4) (fun _ => K)
        · have h4 : ¬ (Int32.ofInt a).toInt ≤ (Int32.ofInt b).toInt := fun q => h2 (decide_eq_true q)
          exact lv_icmp_le hexec hb hdg htg (fun q => absurd (Int32.le_iff_toInt_le.mp q) h4) (fun _ => K)
    · rw [if_neg h1] at h; cases h
theorem zs_iinc {n : Nat} {x : Int} (hexec : p.tables.exec = Jvm.exec) (hb : c.code = zbytes k) (hdg : decode (zbytes k) pc = .ok (.iinc n x, 3)) (hlen : ls.length = zmaxl k) (hpc : is = is' → zpc is' = pc + 3)
    (h : ziinc n x is ls st σ = .inr (.inl (is', ls', st', σ'))) (kk : zWp ad D ca A xr p l e R s m args below meth c cells slots Q k (zpc is') ls' st' σ') : zWp ad D ca A xr p l e R s m args below meth c cells slots Q k pc ls st σ := by
  unfold ziinc at h
  cases hv : ls[n]? with
  | none => rw [hv] at h; cases h
  | some v =>
    obtain ⟨t, a⟩ := v
    rw [hv] at h
    dsimp only at h
    by_cases h1 : t = 0
    · rw [if_pos h1] at h
      subst h1
      obtain ⟨h3, rfl, rfl, rfl⟩ := zgo_inv h
      intro H locs M hx hP hS hl
      have hn : n < zmaxl k := by rw [← hlen]; exact (List.getElem?_eq_some_iff.mp hv).1
      obtain ⟨j, hj⟩ := List.getElem?_of_mem ((zasc_mem (ad := ad) ls 0).mpr ⟨n, (0, a), hv, Nat.zero_le 2, rfl⟩)
      rw [Nat.zero_add] at hj
      refine lv_iinc (v := Int32.ofInt (a + x)) hexec hb hdg hl hj (by rw [Int32.ofInt_add]) hn rfl (fun M' hl' => ?_)
      rw [← hpc h3]
      exact kk H locs M' hx hP hS (zst1 (v := vI (a + x)) Nat.zero_ne_one hl')
    · rw [if_neg h1] at h; cases h
theorem zs_dup (hexec : p.tables.exec = Jvm.exec) (hb : c.code = zbytes k) (hdg : decode (zbytes k) pc = .ok (.dup, 1)) (hpc : is = is' → zpc is' = pc + 1)
    (h : zdup is ls st σ = .inr (.inl (is', ls', st', σ'))) (kk : zWp ad D ca A xr p l e R s m args below meth c cells slots Q k (zpc is') ls' st' σ') : zWp ad D ca A xr p l e R s m args below meth c cells slots Q k pc ls st σ := by
  unfold zdup at h
  rcases st with _ | ⟨v, st⟩
  · cases h
  · dsimp only at h
    by_cases h1 : v.1 = 1
    · rw [if_pos h1] at h; cases h
    · rw [if_neg h1] at h
      obtain ⟨h3, rfl, rfl, rfl⟩ := zgo_inv h
      intro H locs M hx hP hS hl
      have K := kk H locs M hx hP hS hl
      rw [hpc h3] at K
      exact lv_dup hexec hb hdg (zenc_cat h1) K
theorem zs_dup2 (hexec : p.tables.exec = Jvm.exec) (hb : c.code = zbytes k) (hdg : decode (zbytes k) pc = .ok (.dup2, 1)) (hpc : is = is' → zpc is' = pc + 1)
    (h : zdup2 is ls st σ = .inr (.inl (is', ls', st', σ'))) (kk : zWp ad D ca A xr p l e R s m args below meth c cells slots Q k (zpc is') ls' st' σ') : zWp ad D ca A xr p l e R s m args below meth c cells slots Q k pc ls st σ := by
  unfold zdup2 at h
  rcases st with _ | ⟨v, st⟩
  · cases h
  · dsimp only at h
    by_cases h1 : v.1 = 1
    · rw [if_pos h1] at h
      obtain ⟨h3, rfl, rfl, rfl⟩ := zgo_inv h
      intro H locs M hx hP hS hl
      have K := kk H locs M hx hP hS hl
      rw [hpc h3] at K
      exact lv_dup2_2 hexec hb hdg (zenc_long h1) K
    · rw [if_neg h1] at h
      rcases st with _ | ⟨u, st⟩
      · cases h
      · dsimp only at h
        by_cases h2 : u.1 = 1
        · rw [if_pos h2] at h; cases h
        · rw [if_neg h2] at h
          obtain ⟨h3, rfl, rfl, rfl⟩ := zgo_inv h
          intro H locs M hx hP hS hl
          have K := kk H locs M hx hP hS hl
          rw [hpc h3] at K
          exact lv_dup2_11 hexec hb hdg (zenc_cat h1) (zenc_cat h2) K
theorem zs_tab {d lo hi : Int} {offs : Array Int} {len : Nat} (hexec : p.tables.exec = Jvm.exec) (hb : c.code = zbytes k) (hdg : decode (zbytes k) pc = .ok (.tableswitch d lo hi offs, len)) (hne : is' ≠ [])
    (h : ztab k pc d lo hi offs ls st σ = .inr (.inl (is', ls', st', σ'))) (kk : zWp ad D ca A xr p l e R s m args below meth c cells slots Q k (zpc is') ls' st' σ') : zWp ad D ca A xr p l e R s m args below meth c cells slots Q k pc ls st σ := by
  unfold ztab at h
  rcases st with _ | ⟨⟨t2, a⟩, st⟩
  · cases h
  · dsimp only at h
    by_cases h1 : t2 = 0
    · rw [if_pos h1] at h
      subst h1
      intro H locs M hxx hP hS hl
      by_cases h2 : c32 a < lo ∨ hi < c32 a
      · rw [if_pos h2] at h
        obtain ⟨h3, rfl, rfl, rfl⟩ := zgo_inv h
        exact lv_tableOut (x := Int32.ofInt a) hexec hb hdg h2 (zjump_pc h3 hne).symm (kk H locs M hxx hP hS hl)
      · rw [if_neg h2] at h
        cases ho : offs[(c32 a - lo).toNat]? with
        | none => rw [ho] at h; cases h
        | some o =>
          rw [ho] at h
          obtain ⟨h3, rfl, rfl, rfl⟩ := zgo_inv h
          exact lv_tableIn (x := Int32.ofInt a) hexec hb hdg (fun q => h2 (Or.inl q)) (fun q => h2 (Or.inr q)) ho (zjump_pc h3 hne).symm (kk H locs M hxx hP hS hl)
    · rw [if_neg h1] at h; cases h
theorem zs_look {d : Int} {ps : Array (Int × Int)} {len : Nat} (hexec : p.tables.exec = Jvm.exec) (hb : c.code = zbytes k) (hdg : decode (zbytes k) pc = .ok (.lookupswitch d ps, len)) (hp : (ps.toList.zip (ps.toList.drop 1)).all (fun (a, next) => a.1 < next.1) = true) (hne : is' ≠ [])
    (h : zlook k pc d ps ls st σ = .inr (.inl (is', ls', st', σ'))) (kk : zWp ad D ca A xr p l e R s m args below meth c cells slots Q k (zpc is') ls' st' σ') : zWp ad D ca A xr p l e R s m args below meth c cells slots Q k pc ls st σ := by
  unfold zlook at h
  rcases st with _ | ⟨⟨t2, a⟩, st⟩
  · cases h
  · dsimp only at h
    by_cases h1 : t2 = 0
    · rw [if_pos h1] at h
      subst h1
      intro H locs M hxx hP hS hl
      obtain ⟨h3, rfl, rfl, rfl⟩ := zgo_inv h
      exact lv_lookup (x := Int32.ofInt a) hexec hb hdg hp rfl (zjump_pc h3 hne).symm (kk H locs M hxx hP hS hl)
    · rw [if_neg h1] at h; cases h
end ZS
