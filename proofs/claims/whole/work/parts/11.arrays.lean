section ZA
variable {ad : Nat → Nat} {D : va_G} {ca : Nat → ClassId} {A : Nat → Prop} {xr : Int → Int} {p : Program} {l : Launch} {e : Env} {R : Room} {s : State} {m : MethodId} {args : Array Value} {below : List Frame} {meth : Method} {c : Code} {cells slots : Nat} {Q : State → Prop} {k pc : Nat} {is is' : List zCE} {ls ls' st st' : List zV} {σ σ' : zM}
theorem zb8 {x : Int} (h : -128 ≤ x) (h2 : x < 128) : (Int32.ofInt x).toInt8.toInt32 = Int32.ofInt x := by
  have h3 : (Int32.ofInt x).toInt = x := by rw [Int32.toInt_ofInt, show Int32.size = 4294967296 from rfl]; exact Int.bmod_eq_of_le (by omega) (by omega)
  apply Int32.toInt_inj.mp
  rw [Int8.toInt_toInt32, Int32.toInt_toInt8, h3]
  exact Int.bmod_eq_of_le (by omega) (by omega)
theorem zb1 {x : Int} (h : 0 ≤ x) (h2 : x < 2) : Int32.ofInt x &&& 1 = Int32.ofInt x := by
  rcases (show x = 0 ∨ x = 1 by omega) with rfl | rfl <;> rfl
/-- a load from a row -/
theorem zs_ald {t : Nat} {ins : Instr} (C : zCx ad D ca A xr p R s m args c k) (hins : (t = 0 ∧ ins = .iaload) ∨ (t = 1 ∧ ins = .laload) ∨ (t = 2 ∧ ins = .baload) ∨ (t = 3 ∧ ins = .aaload)) (hdg : decode (zbytes k) pc = .ok (ins, 1)) (hpc : is = is' → zpc is' = pc + 1)
    (h : zald k t is ls st σ = .inr (.inl (is', ls', st', σ'))) (kk : zWp ad D ca A xr p l e R s m args below meth c cells slots Q k (zpc is') ls' st' σ') : zWp ad D ca A xr p l e R s m args below meth c cells slots Q k pc ls st σ := by
  unfold zald at h
  rcases st with _ | ⟨⟨t1, i⟩, _ | ⟨⟨t2, a⟩, st⟩⟩
  · cases h
  · cases h
  · dsimp only at h
    by_cases h1 : t1 = 0 ∧ t2 = 2
    · rw [if_pos h1] at h
      obtain ⟨rfl, rfl⟩ := h1
      cases hr : zrdA k t a (c32 i) σ with
      | none => rw [hr] at h; cases h
      | some r =>
        rw [hr] at h
        obtain ⟨h3, rfl, rfl, rfl⟩ := zgo_inv h
        rw [hpc h3] at kk
        obtain ⟨hexec, hb, hml, hown, hts, -, hK, hA, hinj, -, -, hscr⟩ := C
        intro H locs M hxx hP hS hl
        have K := kk H locs M hxx hP hS hl
        unfold zrdA at hr
        by_cases hlaw : k = zLAW ∧ a = 72
        · rw [if_pos hlaw] at hr
          obtain ⟨hk, rfl⟩ := hlaw
          obtain ⟨L, hX, hbl, hbA, hxl, hL⟩ := hscr hk
          by_cases h4 : t = 0 ∧ 0 ≤ c32 i ∧ c32 i < σ 72 (-1)
          · rw [if_pos h4] at hr
            cases hr
            obtain ⟨rfl, h5, h6⟩ := h4
            rw [hxx, hxl] at h6
            obtain ⟨j, e1, e2, e3, e4⟩ := zidx h5 h6 (by omega)
            rcases hins with ⟨-, rfl⟩ | ⟨z, -⟩ | ⟨z, -⟩ | ⟨z, -⟩
            · refine va_sld (i := Int32.ofInt i) hexec hb hX hbl hbA hS e4 hdg ?_
              rw [e3]
              rw [hxx, e1] at K
              exact K
            · cases z
            · cases z
            · cases z
          · rw [if_neg h4] at hr; cases hr
        · rw [if_neg hlaw] at hr
          by_cases h4 : 0 ≤ c32 i ∧ c32 i < (zshp a).2
          · rw [if_pos h4] at hr
            obtain ⟨n, rfl, hn, hs⟩ := zsh_arr h4
            rw [hs] at h4 hr
            obtain ⟨j, e1, e2, e3, e4⟩ := zidx h4.1 h4.2 (zsh_small n hn).1
            have hent := zWS_get ad ca σ hn
            generalize hTN : zSHP.getD n (99, 0) = TN at hr e2 e4 h4
            obtain ⟨T, N⟩ := TN
            rw [zent_t hTN] at hent
            dsimp only at hr e2 e4 h4
            split at hr
            · cases hr
              rcases hins with ⟨-, rfl⟩ | ⟨z, -⟩ | ⟨z, -⟩ | ⟨z, -⟩
              · refine va_iald (i := Int32.ofInt i) hexec hb hK hP n 0 hent rfl e4 hdg ?_
                rw [e3]; rw [e1] at K; exact K
              · cases z
              · cases z
              · cases z
            · cases hr
              rcases hins with ⟨z, -⟩ | ⟨-, rfl⟩ | ⟨z, -⟩ | ⟨z, -⟩
              · cases z
              · refine va_lald (i := Int32.ofInt i) hexec hb hK hP n 1 hent rfl e4 hdg ?_
                rw [e3]; rw [e1] at K; exact K
              · cases z
              · cases z
            · by_cases h7 : -128 ≤ σ n (c32 i) ∧ σ n (c32 i) < 128
              · rw [if_pos h7] at hr
                cases hr
                rcases hins with ⟨z, -⟩ | ⟨z, -⟩ | ⟨-, rfl⟩ | ⟨z, -⟩
                · cases z
                · cases z
                · refine va_bald (i := Int32.ofInt i) hexec hb hK hP n 2 hent rfl e4 hdg ?_
                  rw [e3]; rw [e1] at K h7
                  rw [zb8 h7.1 h7.2]; exact K
                · cases z
              · rw [if_neg h7] at hr; cases hr
            · by_cases h7 : 0 ≤ σ n (c32 i) ∧ σ n (c32 i) < 2
              · rw [if_pos h7] at hr
                cases hr
                rcases hins with ⟨z, -⟩ | ⟨z, -⟩ | ⟨-, rfl⟩ | ⟨z, -⟩
                · cases z
                · cases z
                · refine va_zald (i := Int32.ofInt i) hexec hb hK hP n 3 hent rfl e4 hdg ?_
                  rw [e3]; rw [e1] at K h7
                  rw [zb1 h7.1 h7.2]; exact K
                · cases z
              · rw [if_neg h7] at hr; cases hr
            · cases hr
              rcases hins with ⟨z, -⟩ | ⟨z, -⟩ | ⟨z, -⟩ | ⟨-, rfl⟩
              · cases z
              · cases z
              · cases z
              · have hlt : j < N := e2
                refine W.aald (v := .ref (ad (zra n j))) (ty := .array .int) hexec hb (hP n _ hent) ((hK.2 4 _ rfl).1 N (fun q => va_rf (some (ad (zra n q))))) rfl (fun q => by cases q) (by show ¬ (Int32.ofInt i < 0 ∨ (arrV _ _ _).slots.size ≤ _); rw [arrV_size]; exact e4) (by show (arrV _ _ _).slots[_]? = _; rw [e3, arrV_read _ _ hlt]; rfl) rfl rfl hdg ?_
                rw [e1] at K
                simp only [Int.toNat_natCast] at K
                exact K
            · cases hr
              rcases hins with ⟨z, -⟩ | ⟨z, -⟩ | ⟨z, -⟩ | ⟨-, rfl⟩
              · cases z
              · cases z
              · cases z
              · refine va_aldq (i := Int32.ofInt i) hexec hb hK hP n 5 hent rfl e4 hdg ?_
                rw [e3]
                rw [e1] at K
                simp only [Int.toNat_natCast] at K
                exact K
            · cases hr
          · rw [if_neg h4] at hr; cases hr
    · rw [if_neg h1] at h; cases h
theorem zs_ast {t : Nat} {ins : Instr} (C : zCx ad D ca A xr p R s m args c k) (hins : (t = 0 ∧ ins = .iastore) ∨ (t = 1 ∧ ins = .lastore) ∨ (t = 2 ∧ ins = .bastore)) (hdg : decode (zbytes k) pc = .ok (ins, 1)) (hpc : is = is' → zpc is' = pc + 1)
    (h : zast t is ls st σ = .inr (.inl (is', ls', st', σ'))) (kk : zWp ad D ca A xr p l e R s m args below meth c cells slots Q k (zpc is') ls' st' σ') : zWp ad D ca A xr p l e R s m args below meth c cells slots Q k pc ls st σ := by
  unfold zast at h
  rcases st with _ | ⟨⟨t0, w⟩, _ | ⟨⟨t1, i⟩, _ | ⟨⟨t2, a⟩, st⟩⟩⟩
  · cases h
  · cases h
  · cases h
  · dsimp only at h
    by_cases h1 : t0 = (if t = 1 then 1 else 0) ∧ t1 = 0 ∧ t2 = 2 ∧ zokA t a (c32 i) = true
    · rw [if_pos h1] at h
      obtain ⟨h0, rfl, rfl, h2⟩ := h1
      obtain ⟨h3, rfl, rfl, rfl⟩ := zgo_inv h
      rw [hpc h3] at kk
      unfold zokA at h2
      simp only [Bool.and_eq_true, Bool.or_eq_true, beq_iff_eq, decide_eq_true_eq] at h2
      obtain ⟨⟨h4, h5⟩, h6⟩ := h2
      obtain ⟨hexec, hb, hml, hown, hts, -, hK, hA, hinj, -⟩ := C
      intro H locs M hxx hP hS hl
      obtain ⟨n, rfl, hn, hs⟩ := zsh_arr ⟨h4, h5⟩
      rw [hs] at h5 h6
      obtain ⟨j, e1, e2, e3, e4⟩ := zidx h4 h5 (zsh_small n hn).1
      have hent := zWS_get ad ca σ hn
      generalize hTN : zSHP.getD n (99, 0) = TN at h6 e2 e4 h5
      obtain ⟨T, N⟩ := TN
      rw [zent_t hTN] at hent
      dsimp only at h6 e2 e4 h5
      rw [e1] at kk
      have hfin : ∀ H1 locs1, va_P D vwCl ((zWS ad ca σ).set n (ad n, zent ad ca (zU σ n j w n) n)) H1 → va_S A s.heap H1 locs1 → W p l e R s m args below meth c H1 locs1 cells slots Q (F0 m (pc + 1) M (st.map (zenc ad))) := by
        intro H1 locs1 hP1 hS1
        rw [zWS_set ad ca σ (zU σ n j w) hn (fun q hq => zrow_upd (by omega))] at hP1
        exact kk H1 locs1 M (by rw [zrow72 hn]; exact hxx) hP1 hS1 hl
      rw [zent_t hTN] at hfin
      rcases h6 with (⟨rfl, rfl⟩ | ⟨rfl, rfl⟩) | ⟨rfl, h6⟩
      · rcases hins with ⟨-, rfl⟩ | ⟨z, -⟩ | ⟨z, -⟩
        · subst h0
          refine va_iast (i := Int32.ofInt i) (x := Int32.ofInt w) hexec hb hK hP (zD_of hA hinj) hS n 0 hent rfl e4 hdg (fun H1 locs1 hP1 hD1 hS1 => hfin H1 locs1 ?_ hS1)
          rw [e3] at hP1
          have : (fun q : Nat => Int32.ofInt (zU σ n j w n q)) = upd (fun q : Nat => Int32.ofInt (σ n q)) j (Int32.ofInt w) := by
            funext q
            unfold zU upd
            by_cases hq : q = j
            · subst hq; rw [if_pos ⟨rfl, rfl⟩, if_pos rfl]
            · rw [if_neg (fun z => hq (by omega)), if_neg hq]
          unfold zentT
          rw [this]
          exact hP1
        · cases z
        · cases z
      · rcases hins with ⟨z, -⟩ | ⟨-, rfl⟩ | ⟨z, -⟩
        · cases z
        · subst h0
          refine va_last (i := Int32.ofInt i) (x := Int64.ofInt w) hexec hb hK hP (zD_of hA hinj) hS n 1 hent rfl e4 hdg (fun H1 locs1 hP1 hD1 hS1 => hfin H1 locs1 ?_ hS1)
          rw [e3] at hP1
          have : (fun q : Nat => Int64.ofInt (zU σ n j w n q)) = vp_updL (fun q : Nat => Int64.ofInt (σ n q)) j (Int64.ofInt w) := by
            funext q
            unfold zU vp_updL
            by_cases hq : q = j
            · subst hq; rw [if_pos ⟨rfl, rfl⟩, if_pos rfl]
            · rw [if_neg (fun z => hq (by omega)), if_neg hq]
          unfold zentT
          rw [this]
          exact hP1
        · cases z
      · rcases hins with ⟨z, -⟩ | ⟨z, -⟩ | ⟨-, rfl⟩
        · cases z
        · cases z
        · subst h0
          rcases h6 with rfl | rfl
          · refine va_bast (i := Int32.ofInt i) (x := Int32.ofInt w) hexec hb hK hP (zD_of hA hinj) hS n 2 hent rfl e4 hdg (fun H1 locs1 hP1 hD1 hS1 => hfin H1 locs1 ?_ hS1)
            rw [e3] at hP1
            have : (fun q : Nat => (Int32.ofInt (zU σ n j w n q)).toInt8.toInt32) = upd (fun q : Nat => (Int32.ofInt (σ n q)).toInt8.toInt32) j (vp_nar .byte (Int32.ofInt w)) := by
              funext q
              unfold zU upd
              by_cases hq : q = j
              · subst hq; rw [if_pos ⟨rfl, rfl⟩, if_pos rfl]; rfl
              · rw [if_neg (fun z => hq (by omega)), if_neg hq]
            unfold zentT
            rw [this]
            exact hP1
          · refine va_zast (i := Int32.ofInt i) (x := Int32.ofInt w) hexec hb hK hP (zD_of hA hinj) hS n 3 hent rfl e4 hdg (fun H1 locs1 hP1 hD1 hS1 => hfin H1 locs1 ?_ hS1)
            rw [e3] at hP1
            have : (fun q : Nat => Int32.ofInt (zU σ n j w n q) &&& 1) = upd (fun q : Nat => Int32.ofInt (σ n q) &&& 1) j (vp_nar .boolean (Int32.ofInt w)) := by
              funext q
              unfold zU upd
              by_cases hq : q = j
              · subst hq; rw [if_pos ⟨rfl, rfl⟩, if_pos rfl]; rfl
              · rw [if_neg (fun z => hq (by omega)), if_neg hq]
            unfold zentT
            rw [this]
            exact hP1
    · rw [if_neg h1] at h; cases h
theorem zs_aln (C : zCx ad D ca A xr p R s m args c k) (hdg : decode (zbytes k) pc = .ok (.arraylength, 1)) (hpc : is = is' → zpc is' = pc + 1)
    (h : zaln k is ls st σ = .inr (.inl (is', ls', st', σ'))) (kk : zWp ad D ca A xr p l e R s m args below meth c cells slots Q k (zpc is') ls' st' σ') : zWp ad D ca A xr p l e R s m args below meth c cells slots Q k pc ls st σ := by
  unfold zaln at h
  rcases st with _ | ⟨⟨t2, a⟩, st⟩
  · cases h
  · dsimp only at h
    by_cases h1 : t2 = 2
    · rw [if_pos h1] at h
      subst h1
      obtain ⟨hexec, hb, hml, hown, hts, -, hK, hA, hinj, -, -, hscr⟩ := C
      by_cases hlaw : k = zLAW ∧ a = 72
      · rw [if_pos hlaw] at h
        obtain ⟨hk, rfl⟩ := hlaw
        obtain ⟨h3, rfl, rfl, rfl⟩ := zgo_inv h
        rw [hpc h3] at kk
        intro H locs M hxx hP hS hl
        have K := kk H locs M hxx hP hS hl
        obtain ⟨L, hX, hbl, hbA, hxl, hL⟩ := hscr hk
        refine va_slen hexec hb hX hbl hbA hS hdg ?_
        rw [hxx, hxl] at K
        exact K
      · rw [if_neg hlaw] at h
        by_cases h4 : (zshp a).1 < 6
        · rw [if_pos h4] at h
          obtain ⟨h3, rfl, rfl, rfl⟩ := zgo_inv h
          rw [hpc h3] at kk
          intro H locs M hxx hP hS hl
          have K := kk H locs M hxx hP hS hl
          obtain ⟨n, rfl, hn, hs⟩ := zshp_lt (c := a) (by omega)
          rw [hs] at h4 K
          have hent := zWS_get ad ca σ hn
          generalize hTN : zSHP.getD n (99, 0) = TN at h4 K
          obtain ⟨T, N⟩ := TN
          rw [zent_t hTN] at hent
          dsimp only at h4 K
          rcases (show T = 0 ∨ T = 1 ∨ T = 2 ∨ T = 3 ∨ T = 4 ∨ T = 5 by omega) with rfl | rfl | rfl | rfl | rfl | rfl
          · exact va_alen hexec hb hK hP n 0 hent rfl (v := Int32.ofInt N) rfl hdg K
          · exact va_alen hexec hb hK hP n 1 hent rfl (v := Int32.ofInt N) rfl hdg K
          · exact va_alen hexec hb hK hP n 2 hent rfl (v := Int32.ofInt N) rfl hdg K
          · exact va_alen hexec hb hK hP n 3 hent rfl (v := Int32.ofInt N) rfl hdg K
          · exact va_alen hexec hb hK hP n 4 hent rfl (v := Int32.ofInt N) rfl hdg K
          · exact va_alen hexec hb hK hP n 5 hent rfl (v := Int32.ofInt N) rfl hdg K
        · rw [if_neg h4] at h; cases h
    · rw [if_neg h1] at h; cases h
end ZA
