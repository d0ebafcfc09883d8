theorem zgood {w : Jvm.Cond} (h : w ∈ lw_tbl) (hg : goodWord w = true) : w ∈ zW := List.mem_filter.mpr ⟨h, hg⟩
set_option maxRecDepth 100000 in
theorem zcl_get : ∀ ci, ci < 8 → vwCl[ci]? = some (zcl ci) := by
  intro ci h
  unfold zcl
  rw [List.getD_eq_getElem?_getD]
  have : ci < vwCl.length := h
  rw [List.getElem?_eq_getElem this]
  rfl
def zty (ci : Nat) : Nat → FieldType := [tyX0, tyX1, tyX2, tyX3, tyX4, tyX5, tyX6, tyX7].getD ci tyX0
theorem z8 {P : Nat → Prop} (h0 : P 0) (h1 : P 1) (h2 : P 2) (h3 : P 3) (h4 : P 4) (h5 : P 5) (h6 : P 6) (h7 : P 7) : ∀ ci, ci < 8 → P ci := by
  intro ci h
  rcases (show ci = 0 ∨ ci = 1 ∨ ci = 2 ∨ ci = 3 ∨ ci = 4 ∨ ci = 5 ∨ ci = 6 ∨ ci = 7 by omega) with rfl | rfl | rfl | rfl | rfl | rfl | rfl | rfl <;> assumption
theorem zty_ok : ∀ ci, ci < 8 → ∀ k, k < (zcl ci).2.2 → parseFieldDescriptor ((zcl ci).2.1 k).2.2.1 = some (zty ci k) := z8 tyX0_ok tyX1_ok tyX2_ok tyX3_ok tyX4_ok tyX5_ok tyX6_ok tyX7_ok
theorem znm_ok : ∀ ci, ci < 8 → ∀ a, a < (zcl ci).2.2 → ∀ b, b < (zcl ci).2.2 → a ≠ b → ((zcl ci).2.1 a).2.1 ≠ ((zcl ci).2.1 b).2.1 := z8 nmX0 nmX1 nmX2 nmX3 nmX4 nmX5 nmX6 nmX7
theorem zlay_in {ci : Nat} (h : ci < 8) : ∀ w ∈ u_ws (zcl ci).1 (zcl ci).2.1 (zcl ci).2.2, w ∈ zW := by
  intro w hw
  have h1 := List.all_eq_true.mp zlay_ok ci (List.mem_range.mpr h)
  have h2 : ((zLAYI.getD ci []).map fun i => lw_tbl[i]?) = (u_ws (zcl ci).1 (zcl ci).2.1 (zcl ci).2.2).map some := of_decide_eq_true h1
  have h3 : some w ∈ ((zLAYI.getD ci []).map fun i => lw_tbl[i]?) := by rw [h2]; exact List.mem_map.mpr ⟨w, hw, rfl⟩
  obtain ⟨i, -, hi⟩ := List.mem_map.mp h3
  refine zgood (List.mem_of_getElem? hi) ?_
  unfold u_ws at hw
  obtain ⟨j, -, rfl⟩ := List.mem_map.mp hw
  unfold u_lay
  split <;> rfl
def zfkok (ci j : Nat) : Bool := match zfk ci j with
  | 0 => decide (zty ci j = .int) && !((zcl ci).2.1 j).2.2.2
  | 1 => decide (zty ci j = .boolean) && !((zcl ci).2.1 j).2.2.2
  | 2 => decide (zty ci j = .long) && !((zcl ci).2.1 j).2.2.2
  | 3 => true
  | 4 => decide (zty ci j = .array (.array .int)) && !((zcl ci).2.1 j).2.2.2
  | _ => false
theorem zfk_all : (List.range 8).all (fun ci => (List.range (zcl ci).2.2).all (fun j => zfkok ci j)) = true := by decide +kernel
theorem zfk_ok {ci j : Nat} (h : ci < 8) (hj : j < (zcl ci).2.2) : zfkok ci j = true := List.all_eq_true.mp (List.all_eq_true.mp zfk_all ci (List.mem_range.mpr h)) j (List.mem_range.mpr hj)
theorem zdecl_all : (List.range 8).all (fun ci => (List.range (zcl ci).2.2).all (fun j => decide (((zcl ci).2.1 j).1 = (zcl ci).1))) = true := by decide +kernel
theorem zdecl_ok {ci j : Nat} (h : ci < 8) (hj : j < (zcl ci).2.2) : ((zcl ci).2.1 j).1 = (zcl ci).1 := of_decide_eq_true (List.all_eq_true.mp (List.all_eq_true.mp zdecl_all ci (List.mem_range.mpr h)) j (List.mem_range.mpr hj))
theorem zshp_all : (List.range 72).all (fun n => decide ((zSHP.getD n (99, 0)).1 < 10) || (decide ((zSHP.getD n (99, 0)).1 - 10 < 8) && decide ((zcl ((zSHP.getD n (99, 0)).1 - 10)).2.2 = (zSHP.getD n (99, 0)).2))) = true := by decide +kernel
theorem zshp_obj {n ci : Nat} (h : n < 72) (ht : (zSHP.getD n (99, 0)).1 = 10 + ci) : ci < 8 ∧ (zSHP.getD n (99, 0)).2 = (zcl ci).2.2 := by
  have h1 := List.all_eq_true.mp zshp_all n (List.mem_range.mpr h)
  rw [ht] at h1
  simp only [Nat.add_sub_cancel_left, Bool.or_eq_true, Bool.and_eq_true, decide_eq_true_eq] at h1
  rcases h1 with h1 | ⟨h1, h2⟩
  · omega
  · exact ⟨h1, h2.symm⟩
theorem zentT_obj (ad : Nat → Nat) (ca : Nat → ClassId) (row : Int → Int) (c ci n : Nat) : zentT ad ca row c (10 + ci) n = .inr (ci, (List.range n).map (zfv ad row c ci)) := by
  rw [show 10 + ci = (ci + 4) + 6 by omega]
  simp [zentT]
theorem zent_obj {ad : Nat → Nat} {ca : Nat → ClassId} {row : Int → Int} {n ci : Nat} (h : n < 72) (ht : (zSHP.getD n (99, 0)).1 = 10 + ci) : zent ad ca row n = .inr (ci, (List.range (zcl ci).2.2).map (zfv ad row n ci)) := by
  unfold zent
  rw [ht, zentT_obj, (zshp_obj h ht).2]
theorem zfld {own i : Nat} {x : Int} (h : zFLD.any (fun q => q.1 == own && q.2.1 == i && q.2.2.1 == x.toNat) = true) : Jvm.Cond.fieldLink (zcn own) i (zcl (x.toNat / 32)).1 ((zcl (x.toNat / 32)).2.1 (x.toNat % 32)).2.1 ((zcl (x.toNat / 32)).2.1 (x.toNat % 32)).2.2.1 ∈ zW := by
  obtain ⟨q, hq, h1⟩ := List.any_eq_true.mp h
  simp only [Bool.and_eq_true, beq_iff_eq] at h1
  obtain ⟨⟨h1, h2⟩, h3⟩ := h1
  have h4 := List.all_eq_true.mp zFLD_ok q hq
  unfold zfwok at h4
  simp only [Bool.and_eq_true, decide_eq_true_eq] at h4
  have h5 := List.mem_of_getElem? h4.1.1
  unfold zfw at h5
  rw [h1, h2, h3] at h5
  exact zgood h5 rfl
theorem zrdF_spec {x c : Int} {σ : zM} {r : zV} (ad : Nat → Nat) (h : zrdF x c σ = some r) : ∃ n : Nat, c = n ∧ n < 72 ∧ (zSHP.getD n (99, 0)).1 = 10 + x.toNat / 32 ∧ x.toNat % 32 < (zSHP.getD n (99, 0)).2 ∧ zenc ad r = zfv ad (σ n) n (x.toNat / 32) (x.toNat % 32) := by
  unfold zrdF at h
  by_cases h1 : (zshp c).1 = 10 + x.toNat / 32 ∧ x.toNat % 32 < (zshp c).2
  · rw [if_pos h1] at h
    have h99 : (zshp c).1 ≠ 99 := by
      intro q
      have : (zshp c).2 = 0 := by
        unfold zshp at q ⊢
        by_cases h0 : 0 ≤ c
        · rw [if_pos h0] at q ⊢
          by_cases h2 : c.toNat < 72
          · have h3 : ∀ n, n < 72 → (zSHP.getD n (99, 0)).1 ≠ 99 := by decide +kernel
            exact absurd q (h3 _ h2)
          · rw [List.getD_eq_getElem?_getD, List.getElem?_eq_none (by simp [zSHP]; omega)]
            rfl
        · rw [if_neg h0]
      omega
    obtain ⟨n, rfl, hn, hs⟩ := zshp_lt h99
    rw [hs] at h1
    refine ⟨n, rfl, hn, h1.1, h1.2, ?_⟩
    unfold zfv
    rw [Int.toNat_natCast] at h
    split at h
    · rename_i e; rw [e]; cases h; rfl
    · rename_i e; rw [e]; cases h; rfl
    · rename_i e; rw [e]; cases h; rfl
    · rename_i e; rw [e]; cases h; rfl
    · rename_i e
      rw [e]
      split at h
      · rename_i h5
        cases h
        rw [if_pos h5]
        rfl
      · cases h
    · cases h
  · rw [if_neg h1] at h; cases h
section ZH
variable {ad : Nat → Nat} {D : va_G} {ca : Nat → ClassId} {A : Nat → Prop} {xr : Int → Int} {p : Program} {l : Launch} {e : Env} {R : Room} {s : State} {m : MethodId} {args : Array Value} {below : List Frame} {meth : Method} {c : Code} {cells slots : Nat} {Q : State → Prop} {k pc : Nat} {is is' : List zCE} {ls ls' st st' : List zV} {σ σ' : zM}
theorem zs_gf {x : Int} {i : Nat} (C : zCx ad D ca A xr p R s m args c k) (hdg : decode (zbytes k) pc = .ok (.getfield i, 3)) (hf : zFLD.any (fun q => q.1 == zown k && q.2.1 == i && q.2.2.1 == x.toNat) = true) (hpc : is = is' → zpc is' = pc + 3)
    (h : zgf x is ls st σ = .inr (.inl (is', ls', st', σ'))) (kk : zWp ad D ca A xr p l e R s m args below meth c cells slots Q k (zpc is') ls' st' σ') : zWp ad D ca A xr p l e R s m args below meth c cells slots Q k pc ls st σ := by
  unfold zgf at h
  rcases st with _ | ⟨⟨t2, a⟩, st⟩
  · cases h
  · dsimp only at h
    by_cases h1 : t2 = 2
    · rw [if_pos h1] at h
      subst h1
      cases hr : zrdF x a σ with
      | none => rw [hr] at h; cases h
      | some r =>
        rw [hr] at h
        obtain ⟨h3, rfl, rfl, rfl⟩ := zgo_inv h
        obtain ⟨n, rfl, hn, ht, hj, he⟩ := zrdF_spec ad hr
        obtain ⟨hci, hN⟩ := zshp_obj hn ht
        rw [hN] at hj
        obtain ⟨hexec, hb, hml, hown, hts, -, hK, -⟩ := C
        intro H locs M hxx hP hS hl
        have K := kk H locs M hxx hP hS hl
        rw [hpc h3] at K
        have hent : (zWS ad ca σ)[n]? = some (ad n, .inr (x.toNat / 32, (List.range (zcl (x.toNat / 32)).2.2).map (zfv ad (σ n) n (x.toNat / 32)))) := by
          rw [zWS_get ad ca σ hn, zent_obj hn ht]
        refine va_get (Ts := zW) (C := (zcl (x.toNat / 32)).1) (T := (zcl (x.toNat / 32)).2.1) (N := (zcl (x.toNat / 32)).2.2) hexec hb hts (zlay_in hci) hown hK hP n hent (zcl_get _ hci) (x.toNat % 32) hj (hts _ (zfld hf)) (fun z hz => ?_) (v := zenc ad r) ?_ hdg K
        · rw [zdecl_ok hci hj] at hz; exact hz
        · rw [he]; simp [hj]
    · rw [if_neg h1] at h; cases h
end ZH
