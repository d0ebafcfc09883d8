theorem zof32 (y : Int32) : Int32.ofInt y.toInt = y := Int32.ofInt_toInt y
theorem zof64 (y : Int64) : Int64.ofInt y.toInt = y := Int64.ofInt_toInt y
theorem zi2l (a : Int) : (Int32.ofInt a).toInt64 = Int64.ofInt (c32 a) := by
  apply Int64.toInt_inj.mp
  have h1 := Int32.le_toInt (Int32.ofInt a)
  have h2 := Int32.toInt_lt (Int32.ofInt a)
  rw [Int32.toInt_toInt64, Int64.toInt_ofInt, show Int64.size = 18446744073709551616 from rfl]
  unfold c32
  exact (Int.bmod_eq_of_le (by omega) (by omega)).symm
theorem zl2i (a : Int) : (Int64.ofInt a).toInt32 = Int32.ofInt (l2I a) := Int64.toInt32_ofInt
section ZM
variable {ad : Nat → Nat} {D : va_G} {ca : Nat → ClassId} {A : Nat → Prop} {xr : Int → Int} {p : Program} {l : Launch} {e : Env} {R : Room} {s : State} {m : MethodId} {args : Array Value} {below : List Frame} {meth : Method} {c : Code} {cells slots : Nat} {Q : State → Prop} {k pc : Nat} {is is' : List zCE} {ls ls' st st' : List zV} {σ σ' : zM}
theorem zcst32 {own i : Nat} {x : Int} (h : zCST.any (fun q => q.1 == own && q.2.1 == i && q.2.2.1 == 32 && q.2.2.2.1 == x) = true) : Jvm.Cond.constant (zcn own) i (Int32.ofInt x) ∈ zW := by
  obtain ⟨q, hq, h1⟩ := List.any_eq_true.mp h
  simp only [Bool.and_eq_true, beq_iff_eq] at h1
  obtain ⟨⟨⟨h1, h2⟩, h3⟩, h4⟩ := h1
  have h5 := List.all_eq_true.mp zCST_ok q hq
  unfold zcwok at h5
  have h6 := List.mem_of_getElem? (of_decide_eq_true h5)
  unfold zcw at h6
  rw [h1, h2, h3, h4, if_pos rfl] at h6
  exact zgood h6 rfl
theorem zcst64 {own i : Nat} {x : Int} (h : zCST.any (fun q => q.1 == own && q.2.1 == i && q.2.2.1 == 64 && q.2.2.2.1 == x) = true) : Jvm.Cond.constantLong (zcn own) i (Int64.ofInt x) ∈ zW := by
  obtain ⟨q, hq, h1⟩ := List.any_eq_true.mp h
  simp only [Bool.and_eq_true, beq_iff_eq] at h1
  obtain ⟨⟨⟨h1, h2⟩, h3⟩, h4⟩ := h1
  have h5 := List.all_eq_true.mp zCST_ok q hq
  unfold zcwok at h5
  have h6 := List.mem_of_getElem? (of_decide_eq_true h5)
  unfold zcw at h6
  rw [h1, h2, h3, h4, if_neg (by decide)] at h6
  exact zgood h6 rfl
set_option maxHeartbeats 4000000 in
theorem z_step {len : Nat} {x : Int} {ins : Instr} (C : zCx ad D ca A xr p R s m args c k) (hD : zokD (zbytes k) (zown k) (zlvl k) (zret k) (pc, len, x, ins) = true) (hpc0 : is = [] ∨ zpc is = pc + len) (hlen : ls.length = zmaxl k) (hne : is' ≠ [])
    (h : nx k pc x is ls st σ ins = .inr (.inl (is', ls', st', σ'))) (kk : zWp ad D ca A xr p l e R s m args below meth c cells slots Q k (zpc is') ls' st' σ') : zWp ad D ca A xr p l e R s m args below meth c cells slots Q k pc ls st σ := by
  unfold zokD at hD
  simp only [Bool.and_eq_true, decide_eq_true_eq] at hD
  obtain ⟨hd, hE⟩ := hD
  have hx : p.tables.exec = Jvm.exec := C.1
  have hb : c.code = zbytes k := C.2.1
  have hown := C.2.2.2.1
  have hts := C.2.2.2.2.1
  have hpc : ∀ n, len = n → is = is' → zpc is' = pc + n := by
    intro n hn hi
    subst hn; subst hi
    rcases hpc0 with h0 | h0
    · exact absurd h0 hne
    · exact h0
  unfold nx at h
  split at h
  case h_1 => 
    simp only [zokE, Bool.and_eq_true, beq_iff_eq, decide_eq_true_eq] at hE
    obtain ⟨rfl, hE⟩ := hE
    exact zs_const (fun H locs M rest K => lv_iconst hx hb hd hE K) (hpc 1 rfl) h kk
  case h_2 =>
    simp only [zokE, Bool.and_eq_true, beq_iff_eq, decide_eq_true_eq] at hE
    obtain ⟨rfl, hE⟩ := hE
    exact zs_const (fun H locs M rest K => lv_bipush hx hb hd hE K) (hpc 2 rfl) h kk
  case h_3 =>
    simp only [zokE, Bool.and_eq_true, beq_iff_eq, decide_eq_true_eq] at hE
    obtain ⟨rfl, hE⟩ := hE
    exact zs_const (fun H locs M rest K => lv_sipush hx hb hd hE K) (hpc 3 rfl) h kk
  case h_4 =>
    simp only [zokE, Bool.and_eq_true, beq_iff_eq] at hE
    obtain ⟨rfl, hE⟩ := hE
    exact zs_const (fun H locs M rest K => lv_ldcw hx hb hown (hts _ (zcst32 (by simpa using hE))) hd K) (hpc 3 rfl) h kk
  case h_5 =>
    simp only [zokE, Bool.and_eq_true, beq_iff_eq, decide_eq_true_eq] at hE
    obtain ⟨rfl, hE⟩ := hE
    exact zs_const (fun H locs M rest K => lv_lconst hx hb hd hE K) (hpc 1 rfl) h kk
  case h_6 =>
    simp only [zokE, Bool.and_eq_true, beq_iff_eq] at hE
    obtain ⟨rfl, hE⟩ := hE
    exact zs_const (fun H locs M rest K => lv_ldc2 hx hb hown (hts _ (zcst64 (by simpa using hE))) hd K) (hpc 3 rfl) h kk
  case h_7 =>
    simp only [zokE, beq_iff_eq] at hE
    subst hE
    exact zs_ld (by omega) (fun H locs M rest v hv hM K => by obtain ⟨t, a⟩ := v; cases hv; exact lv_iload_n hx hb hd rfl hM K) (hpc 1 rfl) h kk
  case h_8 =>
    simp only [zokE, beq_iff_eq] at hE
    subst hE
    exact zs_ld (by omega) (fun H locs M rest v hv hM K => by obtain ⟨t, a⟩ := v; cases hv; exact lv_iload hx hb hd hM K) (hpc 2 rfl) h kk
  case h_9 =>
    simp only [zokE, beq_iff_eq] at hE
    subst hE
    exact zs_ld (by omega) (fun H locs M rest v hv hM K => by obtain ⟨t, a⟩ := v; cases hv; exact lv_lload_n hx hb hd rfl hM K) (hpc 1 rfl) h kk
  case h_10 =>
    simp only [zokE, beq_iff_eq] at hE
    subst hE
    exact zs_ld (by omega) (fun H locs M rest v hv hM K => by obtain ⟨t, a⟩ := v; cases hv; exact lv_lload hx hb hd hM K) (hpc 2 rfl) h kk
  case h_11 =>
    simp only [zokE, beq_iff_eq] at hE
    subst hE
    exact zs_ld (by omega) (fun H locs M rest v hv hM K => by obtain ⟨t, a⟩ := v; cases hv; exact lv_aload_n hx hb hd rfl hM K) (hpc 1 rfl) h kk
  case h_12 =>
    simp only [zokE, beq_iff_eq] at hE
    subst hE
    exact zs_ld (by omega) (fun H locs M rest v hv hM K => by obtain ⟨t, a⟩ := v; cases hv; exact lv_aload hx hb hd hM K) (hpc 2 rfl) h kk
  case h_13 =>
    simp only [zokE, beq_iff_eq] at hE
    subst hE
    exact zs_st (fun H locs M rest v hv hn hl K => by obtain ⟨t, a⟩ := v; cases hv; exact lv_istore_n hx hb hd rfl hl (by simpa using hn) rfl (fun M1 hl1 => K M1 (zst1 (v := (0, a)) Nat.zero_ne_one hl1))) hlen (hpc 1 rfl) h kk
  case h_14 =>
    simp only [zokE, beq_iff_eq] at hE
    subst hE
    exact zs_st (fun H locs M rest v hv hn hl K => by obtain ⟨t, a⟩ := v; cases hv; exact lv_istore hx hb hd hl (by simpa using hn) rfl (fun M1 hl1 => K M1 (zst1 (v := (0, a)) Nat.zero_ne_one hl1))) hlen (hpc 2 rfl) h kk
  case h_15 =>
    simp only [zokE, beq_iff_eq] at hE
    subst hE
    exact zs_st (fun H locs M rest v hv hn hl K => by obtain ⟨t, a⟩ := v; cases hv; exact lv_lstore_n hx hb hd rfl hl (by simpa using hn) rfl (fun M1 hl1 => K M1 (zst2 (v := (1, a)) rfl hl1))) hlen (hpc 1 rfl) h kk
  case h_16 =>
    simp only [zokE, beq_iff_eq] at hE
    subst hE
    exact zs_st (fun H locs M rest v hv hn hl K => by obtain ⟨t, a⟩ := v; cases hv; exact lv_lstore hx hb hd hl (by simpa using hn) rfl (fun M1 hl1 => K M1 (zst2 (v := (1, a)) rfl hl1))) hlen (hpc 2 rfl) h kk
  case h_17 =>
    simp only [zokE, beq_iff_eq] at hE
    subst hE
    exact zs_st (fun H locs M rest v hv hn hl K => by obtain ⟨t, a⟩ := v; cases hv; exact lv_astore_n hx hb hd rfl hl (by simpa using hn) rfl (fun M1 hl1 => K M1 (zst1 (v := (2, a)) (fun q : (2:Nat) = 1 => absurd q (by decide)) hl1))) hlen (hpc 1 rfl) h kk
  case h_18 =>
    simp only [zokE, beq_iff_eq] at hE
    subst hE
    exact zs_st (fun H locs M rest v hv hn hl K => by obtain ⟨t, a⟩ := v; cases hv; exact lv_astore hx hb hd hl (by simpa using hn) rfl (fun M1 hl1 => K M1 (zst1 (v := (2, a)) (fun q : (2:Nat) = 1 => absurd q (by decide)) hl1))) hlen (hpc 2 rfl) h kk
  case h_19 =>
    simp only [zokE, beq_iff_eq] at hE
    subst hE
    exact zs_iinc hx hb hd hlen (hpc 3 rfl) h kk
  case h_20 =>
    simp only [zokE, beq_iff_eq] at hE
    subst hE
    exact zs_dup hx hb hd (hpc 1 rfl) h kk
  case h_21 =>
    simp only [zokE, beq_iff_eq] at hE
    subst hE
    exact zs_dup2 hx hb hd (hpc 1 rfl) h kk
  case h_22 =>
    simp only [zokE, beq_iff_eq] at hE
    subst hE
    exact zs_bin (fun H locs M rest a b r hg K => by
      cases hg
      exact lv_iadd hx hb hd (by rw [← Int32.ofInt_add]; exact K)) (hpc 1 rfl) h kk
  case h_23 =>
    simp only [zokE, beq_iff_eq] at hE
    subst hE
    exact zs_bin (fun H locs M rest a b r hg K => by
      cases hg
      exact lv_isub hx hb hd (by rw [← Int32.ofInt_sub]; exact K)) (hpc 1 rfl) h kk
  case h_24 =>
    simp only [zokE, beq_iff_eq] at hE
    subst hE
    exact zs_bin (fun H locs M rest a b r hg K => by
      cases hg
      exact lv_imul hx hb hd (by rw [← Int32.ofInt_mul]; exact K)) (hpc 1 rfl) h kk
  case h_25 =>
    simp only [zokE, beq_iff_eq] at hE
    subst hE
    exact zs_bin (fun H locs M rest a b r hg K => by
      unfold iDiv at hg
      by_cases h0 : c32 b = 0
      · rw [if_pos h0] at hg; cases hg
      · rw [if_neg h0] at hg
        cases hg
        unfold zenc at K
        dsimp only at K
        rw [zof32] at K
        exact lv_idiv hx hb hd (fun q => h0 (by unfold c32; rw [q]; rfl)) K) (hpc 1 rfl) h kk
  case h_26 =>
    simp only [zokE, beq_iff_eq] at hE
    subst hE
    exact zs_bin (fun H locs M rest a b r hg K => by
      unfold iRem at hg
      by_cases h0 : c32 b = 0
      · rw [if_pos h0] at hg; cases hg
      · rw [if_neg h0] at hg
        cases hg
        unfold zenc at K
        dsimp only at K
        rw [zof32] at K
        exact lv_irem hx hb hd (fun q => h0 (by unfold c32; rw [q]; rfl)) K) (hpc 1 rfl) h kk
  case h_27 =>
    simp only [zokE, beq_iff_eq] at hE
    subst hE
    exact zs_bin (fun H locs M rest a b r hg K => by
      cases hg
      unfold zenc at K
      dsimp only at K
      unfold iAnd at K
      rw [zof32] at K
      exact lv_iand hx hb hd K) (hpc 1 rfl) h kk
  case h_28 =>
    simp only [zokE, beq_iff_eq] at hE
    subst hE
    exact zs_bin (fun H locs M rest a b r hg K => by
      cases hg
      unfold zenc at K
      dsimp only at K
      unfold iOr at K
      rw [zof32] at K
      exact lv_ior hx hb hd K) (hpc 1 rfl) h kk
  case h_29 =>
    simp only [zokE, beq_iff_eq] at hE
    subst hE
    exact zs_bin (fun H locs M rest a b r hg K => by
      cases hg
      unfold zenc at K
      dsimp only at K
      unfold iShl at K
      rw [zof32] at K
      exact lv_ishl hx hb hd K) (hpc 1 rfl) h kk
  case h_30 =>
    simp only [zokE, beq_iff_eq] at hE
    subst hE
    exact zs_bin (fun H locs M rest a b r hg K => by
      cases hg
      unfold zenc at K
      dsimp only at K
      unfold iShr at K
      rw [zof32] at K
      exact lv_ishr hx hb hd K) (hpc 1 rfl) h kk
  case h_31 =>
    simp only [zokE, beq_iff_eq] at hE
    subst hE
    exact zs_bin (fun H locs M rest a b r hg K => by
      cases hg
      unfold zenc at K
      dsimp only at K
      unfold iUsh at K
      rw [zof32] at K
      exact lv_iushr hx hb hd rfl K) (hpc 1 rfl) h kk
  case h_32 =>
    simp only [zokE, beq_iff_eq] at hE
    subst hE
    exact zs_bin (fun H locs M rest a b r hg K => by
      cases hg
      exact lv_ladd hx hb hd (by rw [← Int64.ofInt_add]; exact K)) (hpc 1 rfl) h kk
  case h_33 =>
    simp only [zokE, beq_iff_eq] at hE
    subst hE
    exact zs_bin (fun H locs M rest a b r hg K => by
      cases hg
      exact lv_lsub hx hb hd (by rw [← Int64.ofInt_sub]; exact K)) (hpc 1 rfl) h kk
  case h_34 =>
    simp only [zokE, beq_iff_eq] at hE
    subst hE
    exact zs_bin (fun H locs M rest a b r hg K => by
      cases hg
      exact lv_lmul hx hb hd (by rw [← Int64.ofInt_mul]; exact K)) (hpc 1 rfl) h kk
  case h_35 =>
    simp only [zokE, beq_iff_eq] at hE
    subst hE
    exact zs_bin (fun H locs M rest a b r hg K => by
      unfold lDiv at hg
      by_cases h0 : c64 b = 0
      · rw [if_pos h0] at hg; cases hg
      · rw [if_neg h0] at hg
        cases hg
        unfold zenc at K
        dsimp only at K
        rw [zof64] at K
        exact lv_ldiv hx hb hd (fun q => h0 (by unfold c64; rw [q]; rfl)) K) (hpc 1 rfl) h kk
  case h_36 =>
    simp only [zokE, beq_iff_eq] at hE
    subst hE
    exact zs_bin (fun H locs M rest a b r hg K => by
      unfold lRem at hg
      by_cases h0 : c64 b = 0
      · rw [if_pos h0] at hg; cases hg
      · rw [if_neg h0] at hg
        cases hg
        unfold zenc at K
        dsimp only at K
        rw [zof64] at K
        exact lv_lrem hx hb hd (fun q => h0 (by unfold c64; rw [q]; rfl)) K) (hpc 1 rfl) h kk
  case h_37 =>
    simp only [zokE, beq_iff_eq] at hE
    subst hE
    exact zs_bin (fun H locs M rest a b r hg K => by
      cases hg
      unfold zenc at K
      dsimp only at K
      unfold lAnd at K
      rw [zof64] at K
      exact lv_land hx hb hd K) (hpc 1 rfl) h kk
  case h_38 =>
    simp only [zokE, beq_iff_eq] at hE
    subst hE
    exact zs_bin (fun H locs M rest a b r hg K => by
      cases hg
      unfold zenc at K
      dsimp only at K
      unfold lOr at K
      rw [zof64] at K
      exact lv_lor hx hb hd K) (hpc 1 rfl) h kk
  case h_39 =>
    simp only [zokE, beq_iff_eq] at hE
    subst hE
    exact zs_bin (fun H locs M rest a b r hg K => by
      cases hg
      unfold zenc at K
      dsimp only at K
      unfold lShl at K
      rw [zof64] at K
      exact lv_lshl hx hb hd rfl K) (hpc 1 rfl) h kk
  case h_40 =>
    simp only [zokE, beq_iff_eq] at hE
    subst hE
    exact zs_bin (fun H locs M rest a b r hg K => by
      cases hg
      unfold zenc at K
      dsimp only at K
      unfold lCmp at K
      rw [zof32] at K
      exact W.lcmp hx hb hd K) (hpc 1 rfl) h kk
  case h_41 =>
    simp only [zokE, beq_iff_eq] at hE
    subst hE
    exact zs_un (fun H locs M rest a K => lv_ineg hx hb hd (by rw [← Int32.ofInt_neg]; exact K)) (hpc 1 rfl) h kk
  case h_42 =>
    simp only [zokE, beq_iff_eq] at hE
    subst hE
    exact zs_un (fun H locs M rest a K => lv_lneg hx hb hd (by rw [← Int64.ofInt_neg]; exact K)) (hpc 1 rfl) h kk
  case h_43 =>
    simp only [zokE, beq_iff_eq] at hE
    subst hE
    exact zs_un (fun H locs M rest a K => lv_i2l hx hb hd (zi2l a) K) (hpc 1 rfl) h kk
  case h_44 =>
    simp only [zokE, beq_iff_eq] at hE
    subst hE
    exact zs_un (fun H locs M rest a K => lv_l2i hx hb hd (zl2i a) K) (hpc 1 rfl) h kk
  case h_45 =>
    simp only [zokE, beq_iff_eq] at hE
    subst hE
    exact zs_un (fun H locs M rest a K => lv_i2b hx hb hd (by unfold i2B; rw [zof32]) K) (hpc 1 rfl) h kk
  case h_46 =>
    simp only [zokE, beq_iff_eq] at hE
    subst hE
    exact zs_un (fun H locs M rest a K => lv_i2s hx hb hd (by unfold i2S; rw [zof32]) K) (hpc 1 rfl) h kk
  case h_47 =>
    simp only [zokE, Bool.and_eq_true, beq_iff_eq, decide_eq_true_eq] at hE
    obtain ⟨⟨rfl, hE⟩, hE0⟩ := hE
    obtain ⟨h3, rfl, rfl, rfl⟩ := zgo_inv h
    intro H locs M hxx hP hS hl
    exact lv_goto hx hb hd (hE.trans (zjump_pc h3 hne).symm) (kk H locs M hxx hP hS hl)
  case h_48 =>
    simp only [zokE, Bool.and_eq_true, beq_iff_eq, decide_eq_true_eq] at hE
    obtain ⟨⟨rfl, hE⟩, hE0⟩ := hE
    exact zs_if hx hb hd hE hE0 hne (hpc 3 rfl) h kk
  case h_49 =>
    simp only [zokE, Bool.and_eq_true, beq_iff_eq, decide_eq_true_eq] at hE
    obtain ⟨⟨rfl, hE⟩, hE0⟩ := hE
    exact zs_icmp hx hb hd hE hE0 hne (hpc 3 rfl) h kk
  case h_50 =>
    exact zs_tab hx hb hd hne h kk
  case h_51 =>
    exact zs_look hx hb hd hE hne h kk
  case h_52 =>
    simp only [zokE, Bool.and_eq_true, beq_iff_eq, decide_eq_true_eq] at hE
    obtain ⟨⟨rfl, hE0⟩, hE⟩ := hE
    exact zs_gf C hd (by simpa using hE) (hpc 3 rfl) h kk
  case h_53 =>
    simp only [zokE, Bool.and_eq_true, beq_iff_eq, decide_eq_true_eq] at hE
    obtain ⟨⟨rfl, hE0⟩, hE⟩ := hE
    exact zs_pf C hd (by simpa using hE) (hpc 3 rfl) h kk
  case h_54 =>
    simp only [zokE, beq_iff_eq] at hE
    subst hE
    exact zs_ald C (by simp) hd (hpc 1 rfl) h kk
  case h_55 =>
    simp only [zokE, beq_iff_eq] at hE
    subst hE
    exact zs_ald C (by simp) hd (hpc 1 rfl) h kk
  case h_56 =>
    simp only [zokE, beq_iff_eq] at hE
    subst hE
    exact zs_ald C (by simp) hd (hpc 1 rfl) h kk
  case h_57 =>
    simp only [zokE, beq_iff_eq] at hE
    subst hE
    exact zs_ald C (by simp) hd (hpc 1 rfl) h kk
  case h_58 =>
    simp only [zokE, beq_iff_eq] at hE
    subst hE
    exact zs_ast C (by simp) hd (hpc 1 rfl) h kk
  case h_59 =>
    simp only [zokE, beq_iff_eq] at hE
    subst hE
    exact zs_ast C (by simp) hd (hpc 1 rfl) h kk
  case h_60 =>
    simp only [zokE, beq_iff_eq] at hE
    subst hE
    exact zs_ast C (by simp) hd (hpc 1 rfl) h kk
  case h_61 =>
    simp only [zokE, beq_iff_eq] at hE
    subst hE
    exact zs_aln C hd (hpc 1 rfl) h kk
  case h_62 =>
    unfold zinv at h
    split at h <;> cases h
  case h_63 =>
    split at h
    · rename_i h9
      simp only [zokE, Bool.and_eq_true, beq_iff_eq, decide_eq_true_eq] at hE
      obtain ⟨⟨rfl, hE0⟩, hE⟩ := hE
      rw [if_pos h9] at hE
      simp only [Bool.and_eq_true, decide_eq_true_eq] at hE
      exact zs_cpy C hd hE.1 (by simpa using hE.2) (hpc 3 rfl) h kk
    · unfold zinv at h
      split at h <;> cases h
  case h_64 =>
    unfold zireturn at h
    split at h
    · split at h <;> cases h
    · cases h
  case h_65 =>
    unfold zlreturn at h
    split at h
    · split at h <;> cases h
    · cases h
  case h_66 =>
    unfold zvreturn at h
    split at h <;> cases h
  case h_67 =>
    cases h
end ZM
