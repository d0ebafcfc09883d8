theorem z_stop {k pc : Nat} {x : Int} {is : List zCE} {ls st : List zV} {σ σ' : zM} {ins : Instr} {r : Option zV} {len : Nat} (hD : zokD (zbytes k) (zown k) (zlvl k) (zret k) (pc, len, x, ins) = true) (h : nx k pc x is ls st σ ins = .inl (some (r, σ'))) :
    σ = σ' ∧ st = r.toList ∧ (match r with
      | none => decode (zbytes k) pc = .ok (.return_, 1) ∧ zret k = none
      | some v => (v.1 = 0 ∧ decode (zbytes k) pc = .ok (.ireturn, 1) ∧ (zret k = some .int ∨ (zret k = some .boolean ∧ (v.2 = 0 ∨ v.2 = 1)))) ∨ (v.1 = 1 ∧ decode (zbytes k) pc = .ok (.lreturn, 1) ∧ zret k = some .long)) := by
  unfold zokD at hD
  simp only [Bool.and_eq_true, decide_eq_true_eq] at hD
  obtain ⟨hd, hE⟩ := hD
  unfold nx at h
  split at h
  case h_64 =>
    unfold zireturn at h
    rcases st with _ | ⟨⟨t, a⟩, _ | ⟨u, st⟩⟩
    · cases h
    · dsimp only at h
      by_cases h1 : t = 0 ∧ (x = 0 ∨ a = 0 ∨ a = 1)
      · rw [if_pos h1] at h
        cases h
        refine ⟨rfl, rfl, Or.inl ⟨h1.1, ?_⟩⟩
        simp only [zokE, Bool.and_eq_true, beq_iff_eq] at hE
        obtain ⟨rfl, hE⟩ := hE
        refine ⟨hd, ?_⟩
        split at hE
        · rename_i e1; exact Or.inl e1
        · rename_i e1
          right
          refine ⟨e1, ?_⟩
          have : x = 1 := by simpa using hE
          rcases h1.2 with h2 | h2
          · omega
          · exact h2
        · cases hE
      · rw [if_neg h1] at h; cases h
    · cases h
  case h_65 =>
    unfold zlreturn at h
    rcases st with _ | ⟨⟨t, a⟩, _ | ⟨u, st⟩⟩
    · cases h
    · dsimp only at h
      by_cases h1 : t = 1
      · rw [if_pos h1] at h
        cases h
        simp only [zokE, Bool.and_eq_true, beq_iff_eq, decide_eq_true_eq] at hE
        obtain ⟨rfl, hE⟩ := hE
        exact ⟨rfl, rfl, Or.inr ⟨h1, hd, hE⟩⟩
      · rw [if_neg h1] at h; cases h
    · cases h
  case h_66 =>
    unfold zvreturn at h
    rcases st with _ | ⟨u, st⟩
    · cases h
      simp only [zokE, Bool.and_eq_true, beq_iff_eq, decide_eq_true_eq] at hE
      obtain ⟨rfl, hE⟩ := hE
      exact ⟨rfl, rfl, hd, hE⟩
    · cases h
  all_goals try simp only [zld, zst, ziinc, zdup, zdup2, zbin, zun, zif, zicmp, ztab, zlook, zgf, zpf, zast, zcpy, zald, zaln, zinv, zstuck, zgo] at h
  all_goals (repeat' (split at h))
  all_goals (cases h; done)
/-- THE MACHINE DOES WHAT ex SAYS -/
theorem z_sound (ad : Nat → Nat) (D : va_G) (ca : Nat → ClassId) (l : Launch) (hinj : ∀ i j, i < 72 → j < 72 → ad i = ad j → i = j) : ∀ f, zSound ad D ca l f := by
  intro f
  induction f with
  | zero =>
    intro k code ls st σ r σ' hO hlen h
    cases h
  | succ f ih =>
    intro k code ls st σ r σ' hO hlen h A xr p e R s m args below meth c cells slots Q C hcs hend
    rcases code with _ | ⟨⟨pc, len, x, ins⟩, is⟩
    · cases h
    · obtain ⟨hD, hch⟩ := zok_at hO
      show zWp ad D ca A xr p l e R s m args below meth c cells slots Q k pc ls st σ
      unfold ex at h
      split at h
      · rename_i r0 hn
        subst h
        obtain ⟨h1, h2, h3⟩ := z_stop hD hn
        subst h1; subst h2
        intro H locs M hxx hP hS hl
        cases r <;> exact hend H locs M pc hP hS h3
      · rename_i is' ls' st' σ1 hn
        obtain ⟨i1, i2, i3⟩ := nx_inv hn
        have hne : is' ≠ [] := by
          intro z
          rw [z] at h
          cases f <;> cases h
        have hO' : zOK k is' := by
          rcases i3 with rfl | ⟨y, rfl⟩
          · exact zOK_tail hO
          · exact zjump_ok k y
        refine z_step C hD hch hlen hne hn ?_
        exact ih k is' ls' st' σ1 r σ' hO' (i1.trans hlen) h C hcs hend
      · rename_i k1 args1 st1 hn
        split at h
        · cases h
        · rename_i r1 σ1 h1
          have hne : is ≠ [] := by
            intro z
            rw [z] at h
            cases f <;> cases h
          have hinv : ∃ i, (ins = .invokevirtual i ∨ ins = .invokestatic i ∧ x ≠ 9999) ∧ zinv x ls st σ = .inr (.inr (k1, args1, st1)) := by
            unfold nx at hn
            split at hn
            case h_62 => exact ⟨_, Or.inl rfl, hn⟩
            case h_63 =>
              split at hn
              · unfold zcpy at hn
                simp only [zstuck, zgo] at hn
                repeat' (split at hn)
                all_goals (cases hn)
              · rename_i h9
                exact ⟨_, Or.inr ⟨rfl, h9⟩, hn⟩
            all_goals try simp only [zld, zst, ziinc, zdup, zdup2, zbin, zun, zif, zicmp, ztab, zlook, zgf, zpf, zast, zald, zaln, zireturn, zlreturn, zvreturn, zstuck, zgo] at hn
            all_goals (repeat' (split at hn))
            all_goals (cases hn; done)
          obtain ⟨i, hins, hz⟩ := hinv
          unfold zinv at hz
          split at hz
          · rename_i hc
            obtain ⟨c1, c2, c3, c4, c5⟩ := hc
            cases hz
            have htag : ∀ v ∈ st, v.1 ≤ 2 := fun v hv => of_decide_eq_true (List.all_eq_true.mp c3 v hv)
            have hD0 := hD
            unfold zokD at hD
            simp only [Bool.and_eq_true, decide_eq_true_eq] at hD
            obtain ⟨hd, hE⟩ := hD
            have hlen3 : len = 3 ∧ zlvl x.toNat < zlvl k ∧ ∃ q ∈ zCALL, q.1 = zown k ∧ q.2.1 = i ∧ (if ins = .invokevirtual i then q.2.2.1 = 0 else q.2.2.1 = 1 ∨ q.2.2.1 = 2) ∧ q.2.2.2.1 = x.toNat := by
              rcases hins with rfl | ⟨rfl, h9⟩
              · simp only [zokE, Bool.and_eq_true, beq_iff_eq, decide_eq_true_eq] at hE
                obtain ⟨⟨⟨e1, e2⟩, e3⟩, e4⟩ := hE
                obtain ⟨q, hq, e5⟩ := List.any_eq_true.mp e4
                simp only [Bool.and_eq_true, beq_iff_eq] at e5
                exact ⟨e1, e3, q, hq, e5.1.1.1, e5.1.1.2, by rw [if_pos rfl]; exact e5.1.2, e5.2⟩
              · simp only [zokE, Bool.and_eq_true, beq_iff_eq, decide_eq_true_eq] at hE
                obtain ⟨⟨e1, e2⟩, e3⟩ := hE
                rw [if_neg h9] at e3
                simp only [Bool.and_eq_true, decide_eq_true_eq] at e3
                obtain ⟨q, hq, e5⟩ := List.any_eq_true.mp e3.2
                simp only [Bool.and_eq_true, Bool.or_eq_true, beq_iff_eq] at e5
                exact ⟨e1, e3.1, q, hq, e5.1.1.1, e5.1.1.2, by rw [if_neg (by intro z; cases z)]; exact e5.1.2, e5.2⟩
            obtain ⟨rfl, hlv, hq⟩ := hlen3
            refine z_call ih (ins := ins) (is := is) (i := i) C hcs (hins.elim Or.inl (fun z => Or.inr z.1)) hd hlv hq c1 c2 htag c4 c5 h1 (fun hxx => ?_)
            have K := ih k is ls (r1.toList ++ st.drop (znar x.toNat)) σ1 r σ' (zOK_tail hO) hlen h (xr := xr) C hcs hend
            rcases hch with z | z
            · exact absurd z hne
            · rw [z] at K; exact K
          · cases hz
