theorem zok_at {k : Nat} {e : zCE} {r : List zCE} (h : zOK k (e :: r)) : zokD (zbytes k) (zown k) (zlvl k) (zret k) e = true ∧ (r = [] ∨ zpc r = e.1 + e.2.1) := by
  obtain ⟨pre, h⟩ := h
  have h1 := zCHK k
  rw [h] at h1
  exact ⟨List.all_eq_true.mp h1.1 e (by simp), zchain_app pre e r h1.2⟩
theorem zmt_mem {k : Nat} (h : k < zNM) : zmt k ∈ zMT := by
  unfold zmt
  rw [← zmt_len] at h
  rw [List.getD_eq_getElem?_getD, List.getElem?_eq_getElem h]
  exact List.getElem_mem h
theorem zmt_facts {k : Nat} (h : k < zNM) : plainName (zname k).cls = true ∧ (zname k).cls ≠ "java/lang/invoke/MethodHandle" ∧ (zname k).cls ≠ "java/lang/invoke/VarHandle" ∧ (parseMethodDescriptor (zname k).desc).map (fun d => d.parameters.length) = some (if zstat k then znar k else znar k - 1) ∧ zmaxl k ≤ 21 ∧ (zname k).cls = zcn (zown k) ∧ (zstat k = true ∨ 1 ≤ znar k) := by
  have h1 := List.all_eq_true.mp zmt_ok1 _ (zmt_mem h)
  unfold zmtok at h1
  simp only [Bool.and_eq_true, Bool.or_eq_true, decide_eq_true_eq] at h1
  obtain ⟨⟨⟨⟨⟨⟨a1, a2⟩, a3⟩, a4⟩, a5⟩, a6⟩, a7⟩ := h1
  exact ⟨a1, a2, a3, a4, a5, a6, a7⟩
theorem zMT_split : zMT = (zMT_0 ++ (zMT_1 ++ (zMT_2 ++ (zMT_3 ++ (zMT_4 ++ (zMT_5 ++ (zMT_6 ++ (zMT_7 ++ (zMT_8 ++ zMT_9.take 13))))))))) ++ [zMT_9.getD 13 (⟨"", "", ""⟩, ⟨#[]⟩, 0, none, 0, true, 0, 0, 0, [])] := by
  rfl
theorem zcode_all : ∀ r ∈ zMT_0 ++ (zMT_1 ++ (zMT_2 ++ (zMT_3 ++ (zMT_4 ++ (zMT_5 ++ (zMT_6 ++ (zMT_7 ++ (zMT_8 ++ zMT_9.take 13)))))))), zcodeP r := by
  intro r h
  simp only [List.mem_append] at h
  rcases h with h | h | h | h | h | h | h | h | h | h
  · exact zcodeP_0 r h
  · exact zcodeP_1 r h
  · exact zcodeP_2 r h
  · exact zcodeP_3 r h
  · exact zcodeP_4 r h
  · exact zcodeP_5 r h
  · exact zcodeP_6 r h
  · exact zcodeP_7 r h
  · exact zcodeP_8 r h
  · exact zcodeP_9 r h
theorem zcode_in {k : Nat} (h : k < zNM) (hk : k ≠ zLAW) : Jvm.Cond.code (zname k) (zbytes k) (zmaxl k) (zret k) ∈ zW := by
  have h193 : k < 193 := by
    have e1 : zNM = 194 := rfl
    have e2 : zLAW = 193 := rfl
    omega
  have hl : (zMT_0 ++ (zMT_1 ++ (zMT_2 ++ (zMT_3 ++ (zMT_4 ++ (zMT_5 ++ (zMT_6 ++ (zMT_7 ++ (zMT_8 ++ zMT_9.take 13))))))))).length = 193 := by decide +kernel
  have hm : zmt k ∈ zMT_0 ++ (zMT_1 ++ (zMT_2 ++ (zMT_3 ++ (zMT_4 ++ (zMT_5 ++ (zMT_6 ++ (zMT_7 ++ (zMT_8 ++ zMT_9.take 13)))))))) := by
    unfold zmt
    rw [zMT_split, List.getD_eq_getElem?_getD, List.getElem?_append_left (by rw [hl]; exact h193), List.getElem?_eq_getElem (by rw [hl]; exact h193)]
    exact List.getElem_mem _
  exact zgood (List.mem_of_getElem? (zcode_all _ hm)) rfl
/-- the world of a method's start, and of its end -/
def zPc (ad : Nat → Nat) (D : va_G) (ca : Nat → ClassId) (av : List Value) (σ : zM) : Array Value → State → Prop := fun v U => v = av.toArray ∧ va_P D vwCl (zWS ad ca σ) U.heap ∧ va_K D vwCl (zTys ca) U ∧ zNest U
def zFr (ad : Nat → Nat) : Nat → Prop := fun q => ∃ i, i < 72 ∧ q = ad i
def zQc (ad : Nat → Nat) (D : va_G) (ca : Nat → ClassId) (r : Option zV) (σ : zM) : Array Value → State → Outcome → State → Prop := fun _ st o t => o = .returned (r.map (zenc ad)) ∧ va_P D vwCl (zWS ad ca σ) t.heap ∧ va_F (zFr ad) st t
def zrm (k : Nat) : Room := { frames := zlvl k, cells := 0, slots := 0, locals := 40 * zlvl k }
def zws (k : Nat) : List Jvm.Cond := .code (zname k) (zbytes k) (zmaxl k) (zret k) :: zW
theorem zPc_blind (ad : Nat → Nat) (D : va_G) (ca : Nat → ClassId) (av : List Value) (σ : zM) : FrameBlind (zPc ad D ca av σ) := by
  intro a U g mk h
  obtain ⟨h1, h2, h3, h4⟩ := h
  exact ⟨h1, h2, va_K.moved (u := U) (U := U.calling g mk a) (Vm.Alike.refl U.vm) h3, fun q hq hk => va_Nw.same rfl rfl (h4 q hq hk)⟩
theorem zNest_warm {s U : State} (hW : s.WarmedH U.vm) (h : zNest s) : zNest U := fun q hq hk => va_Nw.warmM hW (h q hq hk)
theorem zW_good {w : Jvm.Cond} (h : w ∈ zW) : (w.onTables && w.keeps) = true ∨ ∃ ty, w = .arrayClass ty := good_of_word (List.mem_filter.mp h).2
theorem zini_sl {ad : Nat → Nat} : ∀ (args : List zV), (lg_sl (args.map (zenc ad))).length = (zini args).length
  | [] => rfl
  | v :: r => by
    have ih := zini_sl (ad := ad) r
    unfold lg_sl at ih ⊢
    simp only [List.map_cons, List.flatMap_cons, List.length_append, ih, zini]
    by_cases h : v.1 = 1
    · rw [if_pos h, if_pos (zenc_long h)]; simp; omega
    · rw [if_neg h, if_neg (fun q => h (zenc_cat2 q))]; simp; omega
theorem zasc_app {ad : Nat → Nat} : ∀ (a : List zV) (i n : Nat), zasc ad i (a ++ List.replicate n vU) = zasc ad i a
  | [], i, n => by
    induction n generalizing i with
    | zero => rfl
    | succ n ih =>
      rw [List.replicate_succ, List.nil_append] at *
      unfold zasc
      rw [if_neg (by decide)]
      exact ih (i + 1)
  | v :: a, i, n => by
    rw [List.cons_append]
    unfold zasc
    rw [zasc_app a (i + 1) n]
theorem zasc_args {ad : Nat → Nat} : ∀ (args : List zV) (i : Nat), (∀ v ∈ args, v.1 ≤ 2) → zasc ad i (zini args) = lv_args i (args.map (zenc ad))
  | [], i, _ => rfl
  | v :: r, i, h => by
    have h0 := h v List.mem_cons_self
    have ih := fun j => zasc_args (ad := ad) r j (fun w hw => h w (List.mem_cons_of_mem _ hw))
    simp only [zini, List.map_cons, lv_args]
    by_cases h1 : v.1 = 1
    · rw [if_pos h1, if_pos (zenc_long h1)]
      simp only [zasc]
      rw [if_pos h0, if_neg (by decide), ih]
    · rw [if_neg h1, if_neg (fun q => h1 (zenc_cat2 q))]
      simp only [zasc]
      rw [if_pos h0, ih]
theorem zloc_len {k : Nat} {args : List zV} (h : (zini args).length ≤ zmaxl k) : (zloc k args).length = zmaxl k := by
  unfold zloc
  rw [List.length_append, List.length_replicate]
  omega
/-- behind a call -/
theorem z_ret {p : Program} {l : Launch} {e : Env} {R : Room} {s : State} {m : MethodId} {args : Array Value} {below : List Frame} {meth : Method} {c : Code} {H : Heap} {locs : List Loc} {cells slots : Nat} {Q : State → Prop} {ad : Nat → Nat} {D : va_G} {ca : Nat → ClassId} {A : Nat → Prop} {pc : Nat} {M : Array Slot} {st0 rest : List Value} {a : Array Value} {r : Option zV} {σ : zM}
    (hr : va_Run p l e R s m args below meth c H locs cells slots 0 0 (F0 m pc M st0) rest (zQc ad D ca r σ a) (zFr ad)) (hS : va_S A s.heap H locs) (hf : ∀ q, zFr ad q → A q)
    (kk : ∀ (H1 : Heap) (locs1 : List Loc), va_P D vwCl (zWS ad ca σ) H1 → va_S A s.heap H1 locs1 → W p l e R s m args below meth c H1 locs1 cells slots Q (F0 m (pc + 3) M ((r.map (zenc ad)).toList ++ rest))) : W p l e R s m args below meth c H locs cells slots Q (F0 m pc M st0) := by
  intro T hT X
  obtain ⟨v, st₀, t, T', L, h0, X', hL, e1, e2, ⟨hv, hP, hz, hk⟩, st⟩ := hr T hT X
  cases hv
  rw [h0] at hz hk
  obtain ⟨t2, a1, b1⟩ := kk T'.heap (locs ++ L) (by rw [e1]; exact hP)
    ⟨Nat.le_trans hS.1 (by rw [e1]; exact hz), fun q h1 h2 => by rw [e1, hk q (Nat.lt_of_lt_of_le h1 hS.1) (fun z => h2 (hf q z))]; exact hS.2.1 q h1 h2, fun q hq => by
      rcases List.mem_append.mp hq with h | h
      · exact hS.2.2 q h
      · exact hf _ (hL q h)⟩ T' rfl X'
  exact ⟨t2, st t2 a1, b1⟩
