/-! from the loop's head to the end -/
theorem arrV_cong {cA : ClassId} {n : Nat} {f g : Nat → Value} (h : ∀ j, j < n → f j = g j) : arrV cA n f = arrV cA n g := by
  unfold arrV
  have e : (fun j : Fin n => f j.val) = fun j : Fin n => g j.val := funext fun j => h j.val j.isLt
  rw [e]
theorem at_i {D : va_G} {cl : List vw_C} {q : Nat} {cA : ClassId} {n : Nat} {f g : Nat → Int32} {H : Heap} (h : va_at D cl (q, .inl (cA, n, .inl f)) H) (hfg : ∀ j, j < n → f j = g j) : va_at D cl (q, .inl (cA, n, .inl g)) H := by
  have e : vp_cell cA (n, .inl g) = vp_cell cA (n, .inl f) := arrV_cong (f := fun j => .int (g j)) (g := fun j => .int (f j)) fun j hj => by rw [hfg j hj]
  show H[q]? = some (vp_cell cA (n, .inl g))
  rw [e]
  exact h
theorem at_l {D : va_G} {cl : List vw_C} {q : Nat} {cA : ClassId} {n : Nat} {f g : Nat → Int64} {H : Heap} (h : va_at D cl (q, .inl (cA, n, .inr (.inl f))) H) (hfg : ∀ j, j < n → f j = g j) : va_at D cl (q, .inl (cA, n, .inr (.inl g))) H := by
  have e : vp_cell cA (n, .inr (.inl g)) = vp_cell cA (n, .inr (.inl f)) := arrV_cong (f := fun j => .long (g j)) (g := fun j => .long (f j)) fun j hj => by rw [hfg j hj]
  show H[q]? = some (vp_cell cA (n, .inr (.inl g)))
  rw [e]
  exact h
theorem at_q {D : va_G} {cl : List vw_C} {q : Nat} {cA : ClassId} {n : Nat} {f g : Nat → Option Nat} {H : Heap} (h : va_at D cl (q, .inl (cA, n, .inr (.inr (.inr (.inr f))))) H) (hfg : ∀ j, j < n → f j = g j) : va_at D cl (q, .inl (cA, n, .inr (.inr (.inr (.inr g))))) H := by
  have e : vp_cell cA (n, .inr (.inr (.inr (.inr g)))) = vp_cell cA (n, .inr (.inr (.inr (.inr f)))) := arrV_cong (f := fun j => va_rf (g j)) (g := fun j => va_rf (f j)) fun j hj => by rw [hfg j hj]
  show H[q]? = some (vp_cell cA (n, .inr (.inr (.inr (.inr g)))))
  rw [e]
  exact h
theorem vP_zWS {D : va_G} {ad : Nat → Nat} {ca : Nat → ClassId} {σ : zM} {H : Heap} (h : ∀ c ∈ List.range 72, va_at D vwCl (ad c, zent ad ca (σ c) c) H) : va_P D vwCl (zWS ad ca σ) H := by
  intro k q hq
  have hk : k < 72 := by
    have := (List.getElem?_eq_some_iff.mp hq).1
    simpa [zWS] using this
  rw [zWS_get ad ca σ hk] at hq
  cases hq
  exact h k (List.mem_range.mpr hk)
theorem ad_get {ws : va_W} {L : List Nat} (hL : ws.map (fun q => q.1) = L) {b i : Nat} (hi : i < L.length) : ∃ e, ws[i]? = some ((L ++ [b]).getD i 0, e) := by
  subst hL
  have hi2 : i < ws.length := by simpa using hi
  refine ⟨(ws[i]).2, ?_⟩
  rw [List.getD_eq_getElem?_getD, List.getElem?_append_left hi, List.getElem?_map, List.getElem?_eq_getElem hi2]
  rfl
theorem ad_inj {A : Nat → Prop} {ws : va_W} {L : List Nat} (hD : va_D A ws) (hL : ws.map (fun q => q.1) = L) (hn : L.length = 72) {b : Nat} : ∀ i j, i < 72 → j < 72 → (L ++ [b]).getD i 0 = (L ++ [b]).getD j 0 → i = j := by
  intro i j hi hj h
  obtain ⟨e1, h1⟩ := ad_get hL (b := b) (i := i) (by omega)
  obtain ⟨e2, h2⟩ := ad_get hL (b := b) (i := j) (by omega)
  exact hD.1 i j _ _ h1 h2 h
theorem ad_A {A : Nat → Prop} {ws : va_W} {L : List Nat} (hD : va_D A ws) (hL : ws.map (fun q => q.1) = L) (hn : L.length = 72) {b : Nat} : ∀ q, q < 72 → A ((L ++ [b]).getD q 0) := by
  intro i hi
  obtain ⟨e1, h1⟩ := ad_get hL (b := b) (i := i) (by omega)
  exact hD.2 i _ h1
theorem law_go {p : Program} {e : Env} {s : State} {m : MethodId} {below : List Frame} {meth : Method} {c : Code} (l : Launch) {b L : Nat} {xs : Nat → Int32} (hL : L ≤ 3072) (C0 : lw_At p s m meth c b L xs) {D : va_G} {ca : Nat → ClassId} {ad : Nat → Nat} (hK : va_K D vwCl (zTys ca) s) (had : ad 72 = b) (hinj : ∀ i j, i < 72 → j < 72 → ad i = ad j → i = j) (hA : ∀ q, q < 72 → s.heap.size ≤ ad q) {H : Heap} {locs : List Loc} (hP : va_P D vwCl (zWS ad ca (mu0 L xs)) H) (hS : va_S (fun q : Nat => s.heap.size ≤ q) s.heap H locs) {ls : Array Slot} (hl : lv_has ls 4 [(0, .ref b), (1, .ref (ad 0)), (2, .ref (ad 60)), (3, .int 0)]) {cells slots : Nat} (hcs : cells ≤ 600000 ∧ slots ≤ 7302250) : W p l e room_1 s m #[Value.ref b] below meth c H locs cells slots (lw_Z below #[Value.ref b] s) (F0 m 18 ls []) := by
  obtain ⟨hx, hb, hr, hml, hown, hts, hX, hbl, hlocks, hgv⟩ := id C0
  obtain ⟨μ1, hz⟩ := l_loop L (mu0 L xs) 0 mu0_RelG (mu0_Scr hL) (by omega) (by omega) (by rw [mu0_x, if_pos rfl]; omega)
  obtain ⟨f, hf⟩ := zres_iff.mp hz
  have hcode : zcode 193 = C_L_law_18 := rfl
  have hmx : zmaxl 193 = 4 := rfl
  have hlv : zlvl 193 = 12 := rfl
  have hby : zbytes 193 = code := rfl
  have hN : zNest s := fun q hq h2 => va_Nw.of rfl (hts _ (zcall4 hq _ (by unfold zkw; rw [h2]; exact List.mem_cons_self)))
  have hxr : ∀ j : Nat, Int32.ofInt (mu0 L xs 72 j) = xs j := fun j => by
    rw [mu0_x, if_neg (by omega)]
    show Int32.ofInt (xs j).toInt = xs j
    simp
  have hXs : va_X b L (fun j => Int32.ofInt (mu0 L xs 72 j)) s s.heap := by
    rw [show (fun j : Nat => Int32.ofInt (mu0 L xs 72 j)) = xs from funext hxr]
    exact hX
  have C : zCx ad D ca (fun q : Nat => s.heap.size ≤ q) (mu0 L xs 72) p room_1 s m #[Value.ref b] c 193 := by
    refine ⟨hx, by rw [hby]; exact hb, by rw [hmx]; exact hml, hown, fun w hw => hts w (List.mem_filter.mp hw).1, hN, hK, hA, hinj, by rw [hlv]; exact Nat.le_of_ble_eq_true rfl, by rw [hlv]; exact Nat.le_of_ble_eq_true rfl, fun _ => ⟨L, by rw [had]; exact hXs, by rw [had]; exact hbl, by rw [had]; exact Nat.not_le.mpr hbl, by rw [mu0_x, if_pos rfl], hL⟩⟩
  have hE : zEnd ad D ca (fun q : Nat => s.heap.size ≤ q) p l e room_1 s m #[Value.ref b] below meth c cells slots (lw_Z below #[Value.ref b] s) 193 (some (vI 1)) μ1 := by
    intro H1 locs1 M pc hP1 hS1 hret
    rcases hret with ⟨-, hd, -⟩ | ⟨h0, -⟩
    · refine va_forget (fun q hq => hS1.2.2 q hq) ?_
      refine W.widen (k := 600000) (n := 7302250) hcs.1 hcs.2 ?_
      rw [hby] at hd
      exact lw_ret hx hb hr hlocks hd
    · cases h0
  have K := z_sound ad D ca l hinj f 193 C_L_law_18 [vR 72, vR 0, vR 60, vI 0] [] (mu0 L xs) (some (vI 1)) μ1 ⟨[], hcode⟩ hmx.symm hf C hcs hE
  exact K H locs ls rfl hP hS (by
    rw [hmx]
    show lv_has ls 4 [(0, .ref (ad 72)), (1, .ref (ad 0)), (2, .ref (ad 60)), (3, .int 0)]
    rw [had]
    exact hl)
