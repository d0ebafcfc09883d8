theorem zpc0_all : (List.range 193).all (fun k => zpc (zcode k) == 0) = true := by decide +kernel
theorem zpc0 {k : Nat} (hk : k < zNM) (hkl : k ≠ zLAW) : zpc (zcode k) = 0 := by
  have h193 : k < 193 := by
    have e1 : zNM = 194 := rfl
    have e2 : zLAW = 193 := rfl
    omega
  simpa using List.all_eq_true.mp zpc0_all k (List.mem_range.mpr h193)
theorem zcn_cl : ∀ ci, ci < 8 → (zcl ci).1 = zcn ci := by decide +kernel
theorem zlaw_stat : zstat zLAW = true := by decide +kernel
/-- what is asked of the end of a method -/
def zEnd (ad : Nat → Nat) (D : va_G) (ca : Nat → ClassId) (A : Nat → Prop) (p : Program) (l : Launch) (e : Env) (R : Room) (s : State) (m : MethodId) (args : Array Value) (below : List Frame) (meth : Method) (c : Code) (cells slots : Nat) (Q : State → Prop) (k : Nat) (r : Option zV) (σ : zM) : Prop :=
  ∀ (H : Heap) (locs : List Loc) (M : Array Slot) (pc : Nat), va_P D vwCl (zWS ad ca σ) H → va_S A s.heap H locs →
    (match r with
      | none => decode (zbytes k) pc = .ok (.return_, 1) ∧ zret k = none
      | some v => (v.1 = 0 ∧ decode (zbytes k) pc = .ok (.ireturn, 1) ∧ (zret k = some .int ∨ (zret k = some .boolean ∧ (v.2 = 0 ∨ v.2 = 1)))) ∨ (v.1 = 1 ∧ decode (zbytes k) pc = .ok (.lreturn, 1) ∧ zret k = some .long)) →
    W p l e R s m args below meth c H locs cells slots Q (F0 m pc M (r.toList.map (zenc ad)))
/-- what holds of an execution of f steps, wherever it is done -/
def zSound (ad : Nat → Nat) (D : va_G) (ca : Nat → ClassId) (l : Launch) (f : Nat) : Prop :=
  ∀ (k : Nat) (code : List zCE) (ls st : List zV) (σ : zM) (r : Option zV) (σ' : zM), zOK k code → ls.length = zmaxl k → ex f k code ls st σ = some (r, σ') →
    ∀ {A : Nat → Prop} {xr : Int → Int} {p : Program} {e : Env} {R : Room} {s : State} {m : MethodId} {args : Array Value} {below : List Frame} {meth : Method} {c : Code} {cells slots : Nat} {Q : State → Prop},
      zCx ad D ca A xr p R s m args c k → cells ≤ R.cells ∧ slots ≤ R.slots → zEnd ad D ca A p l e R s m args below meth c cells slots Q k r σ' → zWp ad D ca A xr p l e R s m args below meth c cells slots Q k (zpc code) ls st σ
theorem z_met {ad : Nat → Nat} {D : va_G} {ca : Nat → ClassId} {l : Launch} {f : Nat} (IH : zSound ad D ca l f) (hinj : ∀ i j, i < 72 → j < 72 → ad i = ad j → i = j) {k : Nat} (hk : k < zNM) (hkl : k ≠ zLAW) {args' : List zV} (hag : ∀ v ∈ args', v.1 ≤ 2) (hal : (zini args').length ≤ zmaxl k) {σ σ1 : zM} {r1 : Option zV} (h : ex f k (zcode k) (zloc k args') [] σ = some (r1, σ1)) :
    Met l (zname k) (zws k) (zrm k) (zPc ad D ca (args'.map (zenc ad)) σ) (zQc ad D ca r1 σ1) 0 0 (zFr ad) := by
  obtain ⟨f1, f2, f3, f4, f5, f6, f7⟩ := zmt_facts hk
  refine Met.ofW (cc := zbytes k) (maxL := zmaxl k) (ret := zret k) (ws' := zW) f1 rfl ?_
  intro p e s m args below meth c s₁ B hml hv
  obtain ⟨rfl, hP, hK, hN⟩ := hv
  have hx := B.exec
  have hb := B.bytes
  have hr := B.returns
  have hts := atoms_spec (ws := zws k) B.pre
  have hown : s.vm.findClass (zname k).cls = some m.cls := findClass_of_methodNamed B.named
  have hlocks := B.notSynchronized
  have hl := lv_entry (args'.map (zenc ad)) (n := zmaxl k) (by rw [zini_sl]; exact hal)
  rw [lg_entry_eq]
  generalize (lg_sl (args'.map (zenc ad)) ++ List.replicate (zmaxl k - (lg_sl (args'.map (zenc ad))).length) Slot.unset).toArray = M at hl ⊢
  rw [← zasc_args args' 0 hag, ← zasc_app (zini args') 0 (zmaxl k - (zini args').length)] at hl
  have hl : lv_has M (zmaxl k) (zasc ad 0 (zloc k args')) := hl
  have hcode : zcode k ≠ [] := by
    intro q
    rw [q] at h
    cases f <;> cases h
  have hpc0 : zpc (zcode k) = 0 := zpc0 hk hkl
  have C : zCx ad D ca (zFr ad) (σ 72) p (headSpec (zws k) (zrm k)).room s m (args'.map (zenc ad)).toArray c k :=
    ⟨hx, hb, hml, by rw [← f6]; exact hown, fun w hw => hts w (List.mem_cons_of_mem _ hw), hN, hK, fun q hq => ⟨q, hq, rfl⟩, hinj, Nat.le_refl _, Nat.le_refl _, fun q => absurd q hkl⟩
  have K := IH k (zcode k) (zloc k args') [] σ r1 σ1 ⟨[], rfl⟩ (zloc_len hal) h (e := e) (below := below) (meth := meth) (cells := 0) (slots := 0) (Q := MQ below (zQc ad D ca r1 σ1) (args'.map (zenc ad)).toArray s 0 0 (zFr ad)) C ⟨Nat.zero_le _, Nat.zero_le _⟩ (by
    intro H locs M1 pc1 hP1 hS1 hret
    rcases r1 with _ | ⟨t, a⟩
    · obtain ⟨h1, h2⟩ := hret
      exact W.vret hx hb (hr.trans h2) (fun t ht hW => ⟨rfl, by rw [ht]; exact hP1, hS1.F ht⟩) hS1.2.2 h1 hlocks
    · rcases hret with ⟨h0, h1, h2⟩ | ⟨h0, h1, h2⟩
      · cases h0
        rcases h2 with h2 | ⟨h2, h3⟩
        · exact W.iret (v := Int32.ofInt a) hx hb (hr.trans h2) (fun t ht hW => ⟨rfl, by rw [ht]; exact hP1, hS1.F ht⟩) hS1.2.2 h1 hlocks
        · refine W.zret (v := Int32.ofInt a) hx hb (hr.trans h2) ?_ (fun t ht hW => ⟨rfl, by rw [ht]; exact hP1, hS1.F ht⟩) hS1.2.2 h1 hlocks
          rcases h3 with h3 | h3
          · have h3 : a = 0 := h3
            subst h3; rfl
          · have h3 : a = 1 := h3
            subst h3; rfl
      · cases h0
        exact W.lret (v := Int64.ofInt a) hx hb (hr.trans h2) (fun t ht hW => ⟨rfl, by rw [ht]; exact hP1, hS1.F ht⟩) hS1.2.2 h1 hlocks)
  rw [hpc0] at K
  exact K s.heap [] M rfl hP va_S.rf hl
theorem zFr_A {ad : Nat → Nat} {A : Nat → Prop} (hA : ∀ q, q < 72 → A (ad q)) : ∀ q, zFr ad q → A q := by
  rintro q ⟨i, h, rfl⟩
  exact hA i h
/-- one call, done -/
theorem z_call {ad : Nat → Nat} {D : va_G} {ca : Nat → ClassId} {l : Launch} {f : Nat} (IH : zSound ad D ca l f) {A : Nat → Prop} {xr : Int → Int} {p : Program} {e : Env} {R : Room} {s : State} {m : MethodId} {args : Array Value} {below : List Frame} {meth : Method} {c : Code} {cells slots : Nat} {Q : State → Prop} {k pc i : Nat} {x : Int} {is : List zCE} {ls st : List zV} {σ σ1 : zM} {r1 : Option zV} {ins : Instr}
    (C : zCx ad D ca A xr p R s m args c k) (hcs : cells ≤ R.cells ∧ slots ≤ R.slots) (hins : ins = .invokevirtual i ∨ ins = .invokestatic i) (hdg : decode (zbytes k) pc = .ok (ins, 3)) (hlv : zlvl x.toNat < zlvl k)
    (hq : ∃ q ∈ zCALL, q.1 = zown k ∧ q.2.1 = i ∧ (if ins = .invokevirtual i then q.2.2.1 = 0 else q.2.2.1 = 1 ∨ q.2.2.1 = 2) ∧ q.2.2.2.1 = x.toNat)
    (hst : znar x.toNat ≤ st.length) (hst4 : (st.drop (znar x.toNat)).length ≤ 4) (htag : ∀ v ∈ st, v.1 ≤ 2) (hrecv : zrecv x.toNat (st.take (znar x.toNat)).reverse = true) (hini : (zini (st.take (znar x.toNat)).reverse).length ≤ zmaxl x.toNat)
    (h : ex f x.toNat (zcode x.toNat) (zloc x.toNat (st.take (znar x.toNat)).reverse) [] σ = some (r1, σ1))
    (kk : σ 72 = xr → zWp ad D ca A xr p l e R s m args below meth c cells slots Q k (pc + 3) ls (r1.toList ++ st.drop (znar x.toNat)) σ1) :
    zWp ad D ca A xr p l e R s m args below meth c cells slots Q k pc ls st σ := by
  obtain ⟨q, hqm, hq1, hq2, hq3, hq4⟩ := hq
  have hw := zcall4 hqm
  have hk3 : q.2.2.1 ≠ 3 := by
    intro z
    rw [z] at hq3
    split at hq3
    · cases hq3
    · rcases hq3 with h | h <;> cases h
  obtain ⟨hs1, hs2, hs3⟩ := (zcallk hqm).resolve_left hk3
  rw [hq4] at hs1 hs2 hs3
  generalize hkk : x.toNat = k' at *
  obtain ⟨f1, f2, f3, f4, f5, f6, f7⟩ := zmt_facts hs2
  obtain ⟨hexec, hb, hml, hown, hts, hN, hK, hA, hinj, hfr, hlo, hscr⟩ := C
  have htag' : ∀ v ∈ (st.take (znar k')).reverse, v.1 ≤ 2 := fun v hv => htag v (List.mem_of_mem_take (List.mem_reverse.mp hv))
  have hM := z_met IH hinj hs2 hs3 htag' hini h
  have hcode := hts _ (zcode_in hs2 hs3)
  have hws : ∀ w ∈ zws k', ∀ (a' : Array Value) (U : State), s.WarmedH U.vm → w.before a' U = true := by
    intro w hw a' U hW
    rcases List.mem_cons.mp hw with rfl | hw
    · exact word_at hW (zW_good (zcode_in hs2 hs3)) hcode
    · exact word_at hW (zW_good hw) (hts w hw)
  have hroom : (zrm k').cells = 0 ∧ (zrm k').slots = 0 ∧ (zrm k').frames + 1 ≤ R.frames ∧ 8 + (zmaxl k' + 11) + (zrm k').locals ≤ R.locals := by
    refine ⟨rfl, rfl, ?_, ?_⟩
    · show zlvl k' + 1 ≤ R.frames; omega
    · show 8 + (zmaxl k' + 11) + 40 * zlvl k' ≤ R.locals; omega
  have hstk : st.map (zenc ad) = ((st.take (znar k')).reverse.map (zenc ad)).reverse ++ (st.drop (znar k')).map (zenc ad) := by
    rw [← List.map_reverse, List.reverse_reverse, ← List.map_append, List.take_append_drop]
  have hlen : ((st.take (znar k')).reverse.map (zenc ad)).length = znar k' := by
    simp; omega
  have hrest := zcat_sum (ad := ad) (st.drop (znar k')) hst4
  intro H locs M hxx hP hS hl
  have hPre : ∀ U : State, U.heap = H → s.WarmedH U.vm → zPc ad D ca ((st.take (znar k')).reverse.map (zenc ad)) σ ((st.take (znar k')).reverse.map (zenc ad)).toArray U := by
    intro U hU hW
    exact ⟨rfl, by rw [hU]; exact hP, va_K.moved hW.alike hK, zNest_warm hW hN⟩
  have hbl := zPc_blind ad D ca ((st.take (znar k')).reverse.map (zenc ad)) σ
  have S : CallFix p m c (zbytes k) (zmaxl k) s args zW (zcn (zown k)) := ⟨hexec, hb, hml, hown, hts⟩
  have KK : ∀ (H1 : Heap) (locs1 : List Loc), va_P D vwCl (zWS ad ca σ1) H1 → va_S A s.heap H1 locs1 → W p l e R s m args below meth c H1 locs1 cells slots Q (F0 m (pc + 3) M ((r1.map (zenc ad)).toList ++ (st.drop (znar k')).map (zenc ad))) := by
    intro H1 locs1 hP1 hS1
    have h72 : σ1 72 = xr := (ex_72 f _ _ _ _ _ r1 σ1 h).trans hxx
    have K := kk hxx H1 locs1 M h72 hP1 hS1 hl
    rw [List.map_append] at K
    cases r1 <;> exact K
  by_cases hins2 : ins = .invokevirtual i
  · rw [if_pos hins2] at hq3
    subst hins2
    rw [hq3] at hs1
    have hs1 : zstat k' = false := by simpa using hs1
    unfold zkw at hw
    rw [hq3] at hw
    simp only [List.mem_cons, List.not_mem_nil, or_false, forall_eq_or_imp, forall_eq] at hw
    obtain ⟨w1, w2, w3, w4⟩ := hw
    rw [hq1, hq2, hq4] at w1
    rw [hq4] at w2 w3 w4
    unfold zrecv at hrecv
    rw [hs1, Bool.false_or] at hrecv
    generalize hag : (st.take (znar k')).reverse = ag at *
    rcases ag with _ | ⟨⟨t, b⟩, As⟩
    · cases hrecv
    · dsimp only at hrecv
      simp only [Bool.and_eq_true, beq_iff_eq] at hrecv
      obtain ⟨rfl, hsh⟩ := hrecv
      have hlen2 : (As.map (zenc ad)).length = znar k' - 1 := by
        simp only [List.map_cons, List.length_cons, List.length_map] at hlen ⊢
        omega
      obtain ⟨n, rfl, hn, hsn⟩ := zshp_lt (c := b) (by
        intro z
        have := (zcode_in hs2 hs3)
        have h99 : zown k' ≠ 89 := by
          have ho : ∀ k, k < 194 → zown k < 10 := by decide +kernel
          have := ho k' hs2
          omega
        omega)
      rw [hsn] at hsh
      obtain ⟨hci, hN2⟩ := zshp_obj hn hsh
      have hcls : (zcl (zown k')).1 = (zname k').cls := (zcn_cl _ hci).trans f6.symm
      have hent : (zWS ad ca σ)[n]? = some (ad n, .inr (zown k', (List.range (zcl (zown k')).2.2).map (zfv ad (σ n) n (zown k')))) := by
        rw [zWS_get ad ca σ hn, zent_obj hn hsh]
      rw [hs1] at f4
      have cw : CallW R s args (zcn (zown k)) (zname k').cls i (zname k') (zbytes k') (zmaxl k') (zret k') (zws k') (zrm k') 0 0 (znar k' - 1) := by
        refine ⟨⟨hroom.1, hroom.2.1, hroom.2.2.1, hroom.2.2.2, hws, List.mem_cons_self, hcode, hts _ (zgood w4 rfl), ⟨f2, f3⟩, fun sig hsig => ?_, hts _ (zgood w1 rfl)⟩, hts _ (zgood w2 rfl), hts _ (zgood w3 rfl)⟩
        rw [hsig] at f4
        exact (Option.some.inj f4).symm
      have R1 := va_runV (l := l) (e := e) (below := below) (meth := meth) (H := H) (locs := locs) (cells := cells) (slots := slots) (As := As.map (zenc ad)) (rest := (st.drop (znar k')).map (zenc ad)) (g := F0 m pc M (st.map (zenc ad))) (b := ad n) S hM cw
        ⟨hbl, by have := va_recv hK hP (zcl_get _ hci) hent; rw [hcls] at this; exact this, hPre⟩ rfl hlen2 hl.1 (by rw [hstk]; simp [zenc]) (lv_room hrest) hdg ⟨hcs.1, hcs.2⟩
      exact z_ret R1 hS (zFr_A hA) KK
  · rw [if_neg hins2] at hq3
    have hins3 : ins = .invokestatic i := hins.resolve_left hins2
    subst hins3
    have hs1 : zstat k' = true := by
      rcases hq3 with z | z <;> rw [z] at hs1 <;> simpa using hs1
    rw [hs1] at f4
    have hsig : ∀ sig, parseMethodDescriptor (zname k').desc = some sig → znar k' = sig.parameters.length := by
      intro sig hsig
      rw [hsig] at f4
      exact (Option.some.inj f4).symm
    rcases hq3 with hq3 | hq3
    · unfold zkw at hw
      rw [hq3] at hw
      simp only [List.mem_cons, List.not_mem_nil, or_false, forall_eq_or_imp, forall_eq] at hw
      obtain ⟨w1, w2, w3, w4⟩ := hw
      rw [hq1, hq2, hq4] at w1
      rw [hq4] at w2 w3
      have cw : CallB R s args (zcn (zown k)) i (zname k') (zbytes k') (zmaxl k') (zret k') (zws k') (zrm k') 0 0 (znar k') ∧ (Jvm.Cond.static (zname k')).before args s = true :=
        ⟨⟨hroom.1, hroom.2.1, hroom.2.2.1, hroom.2.2.2, hws, List.mem_cons_self, hcode, hts _ (zgood w3 rfl), ⟨f2, f3⟩, hsig, hts _ (zgood w1 rfl)⟩, hts _ (zgood w2 rfl)⟩
      have R1 := va_runS (l := l) (e := e) (below := below) (meth := meth) (H := H) (locs := locs) (cells := cells) (slots := slots) (As := (st.take (znar k')).reverse.map (zenc ad)) (rest := (st.drop (znar k')).map (zenc ad)) (g := F0 m pc M (st.map (zenc ad))) S hM cw
        ⟨hbl, hPre⟩ rfl hlen hl.1 hstk (lv_room hrest) hdg ⟨hcs.1, hcs.2⟩
      exact z_ret R1 hS (zFr_A hA) KK
    · have hNq := hN q hqm hq3
      rw [hq1, hq2, hq4] at hNq
      unfold zkw at hw
      rw [hq3] at hw
      simp only [List.mem_cons, List.not_mem_nil, or_false, forall_eq_or_imp, forall_eq] at hw
      obtain ⟨w1, w2, w3, w4⟩ := hw
      rw [hq4] at w2 w3
      have cw : va_CN R s args (zcn (zown k)) i (zname k') "PointShares" (zbytes k') (zmaxl k') (zret k') (zws k') (zrm k') 0 0 (znar k') ∧ (Jvm.Cond.static (zname k')).before args s = true ∧ True :=
        ⟨⟨⟨hroom.1, hroom.2.1, hroom.2.2.1, hroom.2.2.2, hws, List.mem_cons_self⟩, hcode, hts _ (zgood w3 rfl), ⟨f2, f3⟩, hsig, va_Nw.use rfl hNq⟩, hts _ (zgood w2 rfl), trivial⟩
      have R1 := va_runSN (l := l) (e := e) (below := below) (meth := meth) (H := H) (locs := locs) (cells := cells) (slots := slots) (As := (st.take (znar k')).reverse.map (zenc ad)) (rest := (st.drop (znar k')).map (zenc ad)) (g := F0 m pc M (st.map (zenc ad))) S hM cw
        ⟨hbl, hPre⟩ rfl hlen hl.1 hstk (lv_room hrest) hdg ⟨hcs.1, hcs.2⟩
      exact z_ret R1 hS (zFr_A hA) KK
