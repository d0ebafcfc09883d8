theorem zcat_sum {ad : Nat → Nat} : ∀ (st : List zV), st.length ≤ 4 → ((st.map (zenc ad)).map fun v => v.category).sum ≤ 8 := by
  have key : ∀ (st : List zV), ((st.map (zenc ad)).map fun v => v.category).sum ≤ 2 * st.length := by
    intro st
    induction st with
    | nil => simp
    | cons a t ih =>
      simp only [List.map_cons, List.sum_cons, List.length_cons]
      have : (zenc ad a).category ≤ 2 := by rcases lv_cat (zenc ad a) with h | h <;> omega
      omega
  intro st h
  have := key st
  omega
theorem zcall4 {q : Nat × Nat × Nat × Nat × Nat × Nat × Nat × Nat} (hq : q ∈ zCALL) : ∀ w ∈ zkw q, w ∈ lw_tbl := by
  have h := List.all_eq_true.mp zCALL_ok q hq
  unfold zkwok at h
  simp only [Bool.and_eq_true, decide_eq_true_eq] at h
  intro w hw
  have h3 : some w ∈ (zkw q).map some := List.mem_map.mpr ⟨w, hw, rfl⟩
  rw [← h.1] at h3
  simp only [List.mem_cons, List.not_mem_nil, or_false] at h3
  rcases h3 with h3 | h3 | h3 | h3
  · exact List.mem_of_getElem? h3.symm
  · exact List.mem_of_getElem? h3.symm
  · exact List.mem_of_getElem? h3.symm
  · exact List.mem_of_getElem? h3.symm
theorem zcallk {q : Nat × Nat × Nat × Nat × Nat × Nat × Nat × Nat} (hq : q ∈ zCALL) : q.2.2.1 = 3 ∨ (zstat q.2.2.2.1 = !(q.2.2.1 == 0) ∧ q.2.2.2.1 < zNM ∧ q.2.2.2.1 ≠ zLAW) := by
  have h := List.all_eq_true.mp zCALL_ok q hq
  unfold zkwok at h
  simp only [Bool.and_eq_true, Bool.or_eq_true, decide_eq_true_eq, beq_iff_eq, Bool.not_eq_true', beq_eq_false_iff_ne, ne_eq] at h
  rcases h.2 with h | ⟨⟨h1, h2⟩, h3⟩
  · exact Or.inl h
  · exact Or.inr ⟨h1, h2, h3⟩
theorem z_c0 {x : Int} (h : 0 ≤ c32 x) : ∃ j : Nat, c32 x = j ∧ True ∧ (Int32.ofInt x).toNatClampNeg = j ∧ ¬ Int32.ofInt x < 0 := by
  refine ⟨(c32 x).toNat, by omega, trivial, rfl, ?_⟩
  rw [Int32.lt_iff_toInt_lt]
  exact Int.not_lt.mpr h
section ZC
variable {ad : Nat → Nat} {D : va_G} {ca : Nat → ClassId} {A : Nat → Prop} {xr : Int → Int} {p : Program} {l : Launch} {e : Env} {R : Room} {s : State} {m : MethodId} {args : Array Value} {below : List Frame} {meth : Method} {c : Code} {cells slots : Nat} {Q : State → Prop} {k pc : Nat} {is is' : List zCE} {ls ls' st st' : List zV} {σ σ' : zM}
theorem zs_cpy {i : Nat} (C : zCx ad D ca A xr p R s m args c k) (hdg : decode (zbytes k) pc = .ok (.invokestatic i, 3)) (hlv : 1 ≤ zlvl k) (hq : zCALL.any (fun q => q.1 == zown k && q.2.1 == i && q.2.2.1 == 3) = true) (hpc : is = is' → zpc is' = pc + 3)
    (h : zcpy is ls st σ = .inr (.inl (is', ls', st', σ'))) (kk : zWp ad D ca A xr p l e R s m args below meth c cells slots Q k (zpc is') ls' st' σ') : zWp ad D ca A xr p l e R s m args below meth c cells slots Q k pc ls st σ := by
  unfold zcpy at h
  rcases st with _ | ⟨⟨t0, n⟩, _ | ⟨⟨t1, dp⟩, _ | ⟨⟨t2, d⟩, _ | ⟨⟨t3, sp⟩, _ | ⟨⟨t4, a⟩, st⟩⟩⟩⟩⟩
  · cases h
  · cases h
  · cases h
  · cases h
  · cases h
  · dsimp only at h
    split at h
    · rename_i h1
      obtain ⟨rfl, rfl, rfl, rfl, rfl, hst, hty, ht2, hn0, hdp0, hsp0, hsa, hda⟩ := h1
      obtain ⟨h3, rfl, rfl, rfl⟩ := zgo_inv h
      rw [hpc h3] at kk
      obtain ⟨q, hqm, hq1⟩ := List.any_eq_true.mp hq
      simp only [Bool.and_eq_true, beq_iff_eq] at hq1
      obtain ⟨⟨hq1, hq2⟩, hq3⟩ := hq1
      have hw := zcall4 hqm
      unfold zkw at hw
      rw [hq3] at hw
      simp only [List.mem_cons, List.not_mem_nil, or_false, forall_eq_or_imp, forall_eq] at hw
      obtain ⟨w1, w2, w3, w4⟩ := hw
      rw [hq1, hq2] at w1
      obtain ⟨hexec, hb, hml, hown, hts, -, hK, hA, hinj, hfr, hlo, -⟩ := C
      have w1 := hts _ (zgood w1 rfl)
      have w2 := hts _ (zgood w2 rfl)
      have w3 := hts _ (zgood w3 rfl)
      have w4 := hts _ (zgood w4 rfl)
      intro H locs M hxx hP hS hl
      obtain ⟨na, rfl, hna, hsA⟩ := zshp_lt (c := a) (by omega)
      obtain ⟨nd, rfl, hnd, hsD⟩ := zshp_lt (c := d) (by omega)
      rw [hsA] at hty hsa
      rw [hsD] at hty ht2 hda
      have sma := zsh_small na hna
      have smd := zsh_small nd hnd
      obtain ⟨jn, en1, en2, en3, en4⟩ := z_c0 hn0
      obtain ⟨jd, ed1, ed2, ed3, ed4⟩ := z_c0 hdp0
      obtain ⟨js, es1, es2, es3, es4⟩ := z_c0 hsp0
      rw [en1, ed1, es1] at kk
      rw [en1, es1] at hsa
      rw [en1, ed1] at hda
      have hentA := zWS_get ad ca σ hna
      have hentD := zWS_get ad ca σ hnd
      have hfin : ∀ H1 locs1, va_P D vwCl ((zWS ad ca σ).set nd (ad nd, zent ad ca (zCpy σ na js nd jd jn nd) nd)) H1 → va_S A s.heap H1 locs1 → W p l e R s m args below meth c H1 locs1 cells slots Q (F0 m (pc + 3) M (st.map (zenc ad))) := by
        intro H1 locs1 hP1 hS1
        rw [zWS_set ad ca σ (zCpy σ na js nd jd jn) hnd (fun q hq => by funext z; unfold zCpy; rw [if_neg (fun w => hq (by omega))])] at hP1
        refine kk H1 locs1 M ?_ hP1 hS1 hl
        rw [← hxx]
        funext z
        unfold zCpy
        rw [if_neg (fun w => by omega)]
      generalize hTA : zSHP.getD na (99, 0) = TA at hty hsa sma
      generalize hTD : zSHP.getD nd (99, 0) = TD at hty ht2 hda smd
      obtain ⟨Ta, Na⟩ := TA
      obtain ⟨Td, Nd⟩ := TD
      rw [zent_t hTA] at hentA
      rw [zent_t hTD] at hentD hfin
      dsimp only at hty ht2 hsa hda
      subst hty
      have hrest := zcat_sum (ad := ad) st hst
      have hloc : ((st.map (zenc ad)).map fun v => v.category).sum + (nativeFrameWords "java/lang/System" "arraycopy" 5 + 11) ≤ R.locals := by
        have : nativeFrameWords "java/lang/System" "arraycopy" 5 = 7 := by decide +kernel
        omega
      rcases (show Ta = 0 ∨ Ta = 1 by omega) with rfl | rfl
      · refine va_copyi (sp := Int32.ofInt sp) (dp := Int32.ofInt dp) (n := Int32.ofInt n) hexec hb (hml.trans hl.1.symm) hown w1 w2 w3 w4 hK hP (zD_of hA hinj) hS na nd 0 0 hentA hentD rfl rfl rfl es4 ed4 en4 (by rw [es3, en3]; omega) (by rw [ed3, en3]; omega) (fun _ _ => rfl) (by omega) hloc hdg (fun H1 locs1 hP1 hD1 hS1 => hfin H1 locs1 ?_ hS1)
        rw [es3, ed3, en3] at hP1
        have : (fun q : Nat => Int32.ofInt (zCpy σ na js nd jd jn nd q)) = va_cpy (fun q : Nat => Int32.ofInt (σ na q)) (fun q : Nat => Int32.ofInt (σ nd q)) js jd jn := by
          funext q
          unfold zCpy va_cpy
          by_cases hq : jd ≤ q ∧ q < jd + jn
          · rw [if_pos ⟨rfl, by omega⟩, if_pos hq]
            congr 2
            omega
          · rw [if_neg (fun z => hq (by omega)), if_neg hq]
        unfold zentT
        rw [this]
        exact hP1
      · refine va_copyl (sp := Int32.ofInt sp) (dp := Int32.ofInt dp) (n := Int32.ofInt n) hexec hb (hml.trans hl.1.symm) hown w1 w2 w3 w4 hK hP (zD_of hA hinj) hS na nd 1 1 hentA hentD rfl rfl rfl es4 ed4 en4 (by rw [es3, en3]; omega) (by rw [ed3, en3]; omega) (fun _ _ => rfl) (by omega) hloc hdg (fun H1 locs1 hP1 hD1 hS1 => hfin H1 locs1 ?_ hS1)
        rw [es3, ed3, en3] at hP1
        have : (fun q : Nat => Int64.ofInt (zCpy σ na js nd jd jn nd q)) = va_cpy (fun q : Nat => Int64.ofInt (σ na q)) (fun q : Nat => Int64.ofInt (σ nd q)) js jd jn := by
          funext q
          unfold zCpy va_cpy
          by_cases hq : jd ≤ q ∧ q < jd + jn
          · rw [if_pos ⟨rfl, by omega⟩, if_pos hq]
            congr 2
            omega
          · rw [if_neg (fun z => hq (by omega)), if_neg hq]
        unfold zentT
        rw [this]
        exact hP1
    · cases h
end ZC
