theorem zrow_upd {σ : zM} {c j v : Int} {q : Nat} (h : (q : Int) ≠ c) : zU σ c j v q = σ q := by
  funext j'
  unfold zU
  rw [if_neg (fun z => h z.1)]
theorem zmap_set {f g : Nat → Value} {N j : Nat} {v : Value} (hj : g j = v) (ho : ∀ i, i ≠ j → g i = f i) : ((List.range N).map f).set j v = (List.range N).map g := by
  apply List.ext_getElem?
  intro i
  by_cases hN : i < N
  · by_cases hi : j = i
    · subst hi
      rw [List.getElem?_set_self (by simpa using hN)]
      simp [hN, hj]
    · rw [List.getElem?_set_ne hi]
      simp [hN, ho i (fun z => hi z.symm)]
  · rw [List.getElem?_eq_none (by simp; omega), List.getElem?_eq_none (by simp; omega)]
theorem zfv_ne {ad : Nat → Nat} {σ : zM} {n ci j i : Nat} {v : Int} (h : i ≠ j) : zfv ad (zU σ n j v n) n ci i = zfv ad (σ n) n ci i := by
  have : zU σ n j v n i = σ n i := by unfold zU; rw [if_neg (fun z => h (by omega))]
  unfold zfv
  rw [this]
theorem zU_same {σ : zM} {c j v : Int} : zU σ c j v c j = v := by unfold zU; rw [if_pos ⟨rfl, rfl⟩]
theorem zrow72 {σ : zM} {n : Nat} {j v : Int} (h : n < 72) : zU σ n j v 72 = σ 72 := zrow_upd (q := 72) (by omega)
theorem zobj99 {x c : Int} (h : (zshp c).1 = 10 + x.toNat / 32) (h2 : x.toNat % 32 < (zshp c).2) : (zshp c).1 ≠ 99 := by
  intro q
  have : (zshp c).2 = 0 := by
    unfold zshp at q ⊢
    by_cases h0 : 0 ≤ c
    · rw [if_pos h0] at q ⊢
      by_cases h2 : c.toNat < 72
      · have h3 : ∀ n, n < 72 → (zSHP.getD n (99, 0)).1 ≠ 99 := by decide +kernel
        exact absurd q (h3 _ h2)
      · rw [List.getD_eq_getElem?_getD, List.getElem?_eq_none (by simp [zSHP]; omega)]
        rfl
    · rw [if_neg h0]
  omega
section ZP
variable {ad : Nat → Nat} {D : va_G} {ca : Nat → ClassId} {A : Nat → Prop} {xr : Int → Int} {p : Program} {l : Launch} {e : Env} {R : Room} {s : State} {m : MethodId} {args : Array Value} {below : List Frame} {meth : Method} {c : Code} {cells slots : Nat} {Q : State → Prop} {k pc : Nat} {is is' : List zCE} {ls ls' st st' : List zV} {σ σ' : zM}
theorem zs_pf1 {x : Int} {i : Nat} {n : Nat} {v : zV} {ty : FieldType} (C : zCx ad D ca A xr p R s m args c k) (hdg : decode (zbytes k) pc = .ok (.putfield i, 3)) (hf : zFLD.any (fun q => q.1 == zown k && q.2.1 == i && q.2.2.1 == x.toNat) = true)
    (hn : n < 72) (ht : (zSHP.getD n (99, 0)).1 = 10 + x.toNat / 32) (hj : x.toNat % 32 < (zcl (x.toNat / 32)).2.2) (hfin : ((zcl (x.toNat / 32)).2.1 (x.toNat % 32)).2.2.2 = false) (hty : zty (x.toNat / 32) (x.toNat % 32) = ty) (hnw : narrow ty (zenc ad v) = zenc ad v) (hfit : fits ty (zenc ad v) = true) (hv : ∀ row : Int → Int, row (x.toNat % 32 : Nat) = v.2 → zfv ad row n (x.toNat / 32) (x.toNat % 32) = zenc ad v)
    (kk : zWp ad D ca A xr p l e R s m args below meth c cells slots Q k (pc + 3) ls st (zU σ n (x.toNat % 32 : Nat) v.2)) : zWp ad D ca A xr p l e R s m args below meth c cells slots Q k pc ls (v :: (2, (n : Int)) :: st) σ := by
  obtain ⟨hci, hN⟩ := zshp_obj hn ht
  obtain ⟨hexec, hb, hml, hown, hts, -, hK, hA, hinj, -⟩ := C
  intro H locs M hxx hP hS hl
  have hent : (zWS ad ca σ)[n]? = some (ad n, .inr (x.toNat / 32, (List.range (zcl (x.toNat / 32)).2.2).map (zfv ad (σ n) n (x.toNat / 32)))) := by
    rw [zWS_get ad ca σ hn, zent_obj hn ht]
  refine va_put (ty0 := zty (x.toNat / 32)) (Ts := zW) (C := (zcl (x.toNat / 32)).1) (T := (zcl (x.toNat / 32)).2.1) (N := (zcl (x.toNat / 32)).2.2) (ty := ty) hexec hb hts (zlay_in hci) (zty_ok _ hci) (znm_ok _ hci) hown hK hP (zD_of hA hinj) hS n hent (zcl_get _ hci) (x.toNat % 32) hj (hts _ (zfld hf)) (fun z hz => ?_) hfin (by rw [zty_ok _ hci _ hj, hty]) hnw hfit (by simpa using hj) hdg (fun H1 locs1 hP1 hD1 hS1 => ?_)
  · rw [zdecl_ok hci hj] at hz; exact hz
  · rw [zmap_set (g := zfv ad (zU σ n (x.toNat % 32 : Nat) v.2 n) n (x.toNat / 32)) (hv _ zU_same) (fun i hi => zfv_ne hi), ← zent_obj (ca := ca) hn ht, zWS_set ad ca σ (zU σ n (x.toNat % 32 : Nat) v.2) hn (fun q hq => zrow_upd (by omega))] at hP1
    exact kk H1 locs1 M (by rw [zrow72 hn]; exact hxx) hP1 hS1 hl
theorem zs_pf {x : Int} {i : Nat} (C : zCx ad D ca A xr p R s m args c k) (hdg : decode (zbytes k) pc = .ok (.putfield i, 3)) (hf : zFLD.any (fun q => q.1 == zown k && q.2.1 == i && q.2.2.1 == x.toNat) = true) (hpc : is = is' → zpc is' = pc + 3)
    (h : zpf x is ls st σ = .inr (.inl (is', ls', st', σ'))) (kk : zWp ad D ca A xr p l e R s m args below meth c cells slots Q k (zpc is') ls' st' σ') : zWp ad D ca A xr p l e R s m args below meth c cells slots Q k pc ls st σ := by
  unfold zpf at h
  rcases st with _ | ⟨⟨tv, vv⟩, _ | ⟨⟨t2, a⟩, st⟩⟩
  · cases h
  · cases h
  · dsimp only at h
    by_cases h1 : t2 = 2 ∧ zokF x a (tv, vv) = true
    · rw [if_pos h1] at h
      obtain ⟨rfl, h2⟩ := h1
      obtain ⟨h3, rfl, rfl, rfl⟩ := zgo_inv h
      rw [hpc h3] at kk
      unfold zokF at h2
      simp only [Bool.and_eq_true, beq_iff_eq, decide_eq_true_eq] at h2
      obtain ⟨⟨h4, h5⟩, h6⟩ := h2
      obtain ⟨n, rfl, hn, hs⟩ := zshp_lt (zobj99 h4 h5)
      rw [hs] at h4 h5
      obtain ⟨hci, hN⟩ := zshp_obj hn h4
      rw [hN] at h5
      have hk := zfk_ok hci h5
      unfold zfkok at hk
      split at h6
      · rename_i e1
        rw [e1] at hk
        simp only [Bool.and_eq_true, decide_eq_true_eq, Bool.not_eq_true'] at hk
        simp only [beq_iff_eq] at h6
        subst h6
        exact zs_pf1 (v := (0, vv)) C hdg hf hn h4 h5 hk.2 hk.1 rfl rfl (fun row hr => by unfold zfv; rw [e1, hr]; rfl) kk
      · rename_i e1
        rw [e1] at hk
        simp only [Bool.and_eq_true, decide_eq_true_eq, Bool.not_eq_true'] at hk
        simp only [Bool.and_eq_true, Bool.or_eq_true, beq_iff_eq] at h6
        obtain ⟨rfl, h6⟩ := h6
        exact zs_pf1 (v := (0, vv)) C hdg hf hn h4 h5 hk.2 hk.1 (by rcases h6 with rfl | rfl <;> rfl) (by rcases h6 with rfl | rfl <;> rfl) (fun row hr => by unfold zfv; rw [e1, hr]; rfl) kk
      · rename_i e1
        rw [e1] at hk
        simp only [Bool.and_eq_true, decide_eq_true_eq, Bool.not_eq_true'] at hk
        simp only [beq_iff_eq] at h6
        subst h6
        exact zs_pf1 (v := (1, vv)) C hdg hf hn h4 h5 hk.2 hk.1 rfl rfl (fun row hr => by unfold zfv; rw [e1, hr]; rfl) kk
      · rename_i e1
        rw [e1] at hk
        simp only [Bool.and_eq_true, decide_eq_true_eq, Bool.not_eq_true'] at hk
        simp only [Bool.and_eq_true, beq_iff_eq, decide_eq_true_eq] at h6
        obtain ⟨rfl, h6⟩ := h6
        exact zs_pf1 (v := (2, vv)) C hdg hf hn h4 h5 hk.2 hk.1 rfl rfl (fun row hr => by unfold zfv; rw [e1, hr]; dsimp only; rw [if_pos h6]; rfl) kk
      · cases h6
    · rw [if_neg h1] at h; cases h
theorem zent_t {ad : Nat → Nat} {ca : Nat → ClassId} {row : Int → Int} {n t N : Nat} (ht : zSHP.getD n (99, 0) = (t, N)) : zent ad ca row n = zentT ad ca row n t N := by unfold zent; rw [ht]
theorem zidx {x : Int} {n : Nat} (h : 0 ≤ c32 x) (h2 : c32 x < n) (hn : n < 2147483648) : ∃ j : Nat, c32 x = j ∧ j < n ∧ (Int32.ofInt x).toNatClampNeg = j ∧ vp_in (Int32.ofInt x) n := by
  obtain ⟨j, h3, h4, h5, h6⟩ := z_c32 h h2 (by omega)
  refine ⟨j, h3, by omega, h5, ?_⟩
  unfold vp_in
  rw [h5]
  intro q
  rcases q with q | q
  · exact h6 q
  · omega
theorem zsh_small : ∀ n, n < 72 → (zSHP.getD n (99, 0)).2 < 2147483648 ∧ (zSHP.getD n (99, 0)).1 ≠ 99 := by decide +kernel
theorem zsh_arr {c i : Int} (h : 0 ≤ i ∧ i < (zshp c).2) : ∃ n : Nat, c = n ∧ n < 72 ∧ zshp c = zSHP.getD n (99, 0) := by
  apply zshp_lt
  intro q
  have : (zshp c).2 = 0 := by
    unfold zshp at q ⊢
    by_cases h0 : 0 ≤ c
    · rw [if_pos h0] at q ⊢
      by_cases h2 : c.toNat < 72
      · exact absurd q (zsh_small _ h2).2
      · rw [List.getD_eq_getElem?_getD, List.getElem?_eq_none (by simp [zSHP]; omega)]
        rfl
    · rw [if_neg h0]
  omega
end ZP
