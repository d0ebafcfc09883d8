/-! the contracts of the makers -/
abbrev w_X1_5 (ca : Nat → ClassId) (h0 a1 a2 : Nat) : va_W := [(h0, .inr (1, [.ref a1, .ref a2, .int 0])), (a1, .inl (ca 0, 5, .inl fun _ => 0)), (a2, .inl (ca 0, 5, .inl fun _ => 0))]
set_option maxHeartbeats 4000000 in
set_option maxRecDepth 100000 in
theorem c_X1_5 (l : Launch) (D : va_G) (ca : Nat → ClassId) (h0 : Nat) (sz : Nat) : Met l yX1_init wsX1_init ({ frames := 1, cells := 2, slots := 10, locals := 12 }) (va_Pc [.ref h0, .int 5] (fun U => U.heap.size = sz ∧ va_P D vwCl [(h0, .inr (1, [.null, .null, .int 0]))] U.heap ∧ va_K D vwCl (zTys ca) U ∧ va_D (fun _ => True) [(h0, .inr (1, [.null, .null, .int 0]))] ∧ mkX U)) (va_Qv (fun _ : Unit => True) (fun _ t => ∃ a1 : Nat, ∃ a2 : Nat, va_P D vwCl (w_X1_5 ca h0 a1 a2) t.heap ∧ va_K D vwCl (zTys ca) t ∧ va_D (va_A [(h0, .inr (1, [.null, .null, .int 0]))] sz) (w_X1_5 ca h0 a1 a2)) (va_A [(h0, .inr (1, [.null, .null, .int 0]))] sz)) 2 10 (va_A [(h0, .inr (1, [.null, .null, .int 0]))] sz) := by
  refine Met.ofW (cc := cX1_init) (maxL := 2) (ret := none) (by decide) rfl ?_
  intro p e s m args below meth c s₁ B hml hv
  obtain ⟨rfl, hsz, hP, hK, hD0, hX⟩ := hv
  have hx := B.exec
  have hb := B.bytes
  have hr := B.returns
  have hts := atoms_spec (ws := wsX1_init) B.pre
  have hown : s.vm.findClass RX1 = some m.cls := findClass_of_methodNamed B.named
  have hlocks := B.notSynchronized
  have hin : meth.name = "<init>" := (name_of_methodNamed B.named B.method).1
  subst hsz
  have hD := hD0.self (sz := s.heap.size)
  generalize hAe : va_A [(h0, .inr (1, [.null, .null, .int 0]))] s.heap.size = A at hD ⊢
  have hA : ∀ q : Nat, s.heap.size ≤ q → A q := fun q h => by rw [← hAe]; exact Or.inr h
  have hS : va_S A s.heap s.heap [] := va_S.rf
  have hl := lv_entry ([.ref h0, .int 5]) (n := 2) (Nat.le_of_ble_eq_true rfl)
  rw [lg_entry_eq]
  generalize (lg_sl ([.ref h0, .int 5]) ++ List.replicate (2 - (lg_sl ([.ref h0, .int 5])).length) Slot.unset).toArray = ls at hl ⊢
  have hl : lv_has ls 2 [(0, .ref h0), (1, .int 5)] := hl
  refine lv_aload_n hx hb dX1_init_0 rfl (lv_at hl 0 rfl) ?_
  refine W.objInit hx hb hown (hts (.methodLink RX1 1 objectInit) (by decide +kernel)) (hts (.instanceMethod objectInit) (by decide +kernel)) (hts _ (List.mem_of_getElem? (i := 3) rfl)) rfl (by rw [hml]; exact hl.1) rfl dX1_init_1 (Nat.le_of_ble_eq_true rfl) (Nat.le_of_ble_eq_true rfl) ?_
  refine W.eq (g2 := F0 m 4 ls []) rfl ?_
  refine lv_aload_n hx hb dX1_init_4 rfl (lv_at hl 0 rfl) ?_
  refine lv_iload_n hx hb dX1_init_5 rfl (lv_at hl 1 rfl) ?_
  refine zn_newa (ca := ca) (atype := .int) hx hb (hts (.arrayClass .int) (by decide +kernel)) (ty := .int) (t := 0) rfl hK rfl (fun _ _ h1 h2 => Option.some.inj (h1.symm.trans h2)) hP hD hS hA (N' := 5) (a0 := (5, .inl fun _ => 0)) (fun _ => rfl) (by decide) (by decide) (by decide) (Nat.le_of_ble_eq_true rfl) (Nat.le_of_ble_eq_true rfl) dX1_init_6 (fun a1 H hP hD hS => ?_)
  have hP : va_P D vwCl ([(h0, .inr (1, [.null, .null, .int 0])), (a1, .inl (ca 0, 5, .inl fun _ => 0))]) H := hP
  have hD : va_D A ([(h0, .inr (1, [.null, .null, .int 0])), (a1, .inl (ca 0, 5, .inl fun _ => 0))]) := hD
  refine W.widen (k := 1) (n := 5) (by omega) (by omega) ?_
  refine va_putF (D := D) (ci := 1) (v := .ref a1) (ty := .array .int) (C := RX1) (T := TX1) (N := 3) hx hb hts (by decide +kernel) tyX1 tyX1_ok nmX1 hown hK hP hD hS 0 rfl rfl 0 (by decide) (hts (.fieldLink RX1 7 "PointShares$Rows" "left" "[I") (by decide +kernel)) (fun _ h9 => h9) rfl hin rfl (by decide +kernel) rfl rfl (Nat.le_of_ble_eq_true rfl) dX1_init_8 (fun H locs hP hD hS => ?_)
  have hP : va_P D vwCl ([(h0, .inr (1, [.ref a1, .null, .int 0])), (a1, .inl (ca 0, 5, .inl fun _ => 0))]) H := hP
  have hD : va_D A ([(h0, .inr (1, [.ref a1, .null, .int 0])), (a1, .inl (ca 0, 5, .inl fun _ => 0))]) := hD
  refine lv_aload_n hx hb dX1_init_11 rfl (lv_at hl 0 rfl) ?_
  refine lv_iload_n hx hb dX1_init_12 rfl (lv_at hl 1 rfl) ?_
  refine zn_newa (ca := ca) (atype := .int) hx hb (hts (.arrayClass .int) (by decide +kernel)) (ty := .int) (t := 0) rfl hK rfl (fun _ _ h1 h2 => Option.some.inj (h1.symm.trans h2)) hP hD hS hA (N' := 5) (a0 := (5, .inl fun _ => 0)) (fun _ => rfl) (by decide) (by decide) (by decide) (Nat.le_of_ble_eq_true rfl) (Nat.le_of_ble_eq_true rfl) dX1_init_13 (fun a2 H hP hD hS => ?_)
  have hP : va_P D vwCl ([(h0, .inr (1, [.ref a1, .null, .int 0])), (a1, .inl (ca 0, 5, .inl fun _ => 0)), (a2, .inl (ca 0, 5, .inl fun _ => 0))]) H := hP
  have hD : va_D A ([(h0, .inr (1, [.ref a1, .null, .int 0])), (a1, .inl (ca 0, 5, .inl fun _ => 0)), (a2, .inl (ca 0, 5, .inl fun _ => 0))]) := hD
  refine W.widen (k := 2) (n := 10) (by omega) (by omega) ?_
  refine va_putF (D := D) (ci := 1) (v := .ref a2) (ty := .array .int) (C := RX1) (T := TX1) (N := 3) hx hb hts (by decide +kernel) tyX1 tyX1_ok nmX1 hown hK hP hD hS 0 rfl rfl 1 (by decide) (hts (.fieldLink RX1 13 "PointShares$Rows" "right" "[I") (by decide +kernel)) (fun _ h9 => h9) rfl hin rfl (by decide +kernel) rfl rfl (Nat.le_of_ble_eq_true rfl) dX1_init_15 (fun H locs hP hD hS => ?_)
  have hP : va_P D vwCl ([(h0, .inr (1, [.ref a1, .ref a2, .int 0])), (a1, .inl (ca 0, 5, .inl fun _ => 0)), (a2, .inl (ca 0, 5, .inl fun _ => 0))]) H := hP
  have hD : va_D A ([(h0, .inr (1, [.ref a1, .ref a2, .int 0])), (a1, .inl (ca 0, 5, .inl fun _ => 0)), (a2, .inl (ca 0, 5, .inl fun _ => 0))]) := hD
  exact W.vret hx hb hr (fun t ht hW => ⟨⟨(), rfl, trivial, a1, a2, by rw [ht]; exact hP, va_K.moved hW.alike hK, hD⟩, hS.F ht⟩) hS.2.2 dX1_init_18
abbrev w_X1_8 (ca : Nat → ClassId) (h0 a1 a2 : Nat) : va_W := [(h0, .inr (1, [.ref a1, .ref a2, .int 0])), (a1, .inl (ca 0, 8, .inl fun _ => 0)), (a2, .inl (ca 0, 8, .inl fun _ => 0))]
set_option maxHeartbeats 4000000 in
set_option maxRecDepth 100000 in
theorem c_X1_8 (l : Launch) (D : va_G) (ca : Nat → ClassId) (h0 : Nat) (sz : Nat) : Met l yX1_init wsX1_init ({ frames := 1, cells := 2, slots := 16, locals := 12 }) (va_Pc [.ref h0, .int 8] (fun U => U.heap.size = sz ∧ va_P D vwCl [(h0, .inr (1, [.null, .null, .int 0]))] U.heap ∧ va_K D vwCl (zTys ca) U ∧ va_D (fun _ => True) [(h0, .inr (1, [.null, .null, .int 0]))] ∧ mkX U)) (va_Qv (fun _ : Unit => True) (fun _ t => ∃ a1 : Nat, ∃ a2 : Nat, va_P D vwCl (w_X1_8 ca h0 a1 a2) t.heap ∧ va_K D vwCl (zTys ca) t ∧ va_D (va_A [(h0, .inr (1, [.null, .null, .int 0]))] sz) (w_X1_8 ca h0 a1 a2)) (va_A [(h0, .inr (1, [.null, .null, .int 0]))] sz)) 2 16 (va_A [(h0, .inr (1, [.null, .null, .int 0]))] sz) := by
  refine Met.ofW (cc := cX1_init) (maxL := 2) (ret := none) (by decide) rfl ?_
  intro p e s m args below meth c s₁ B hml hv
  obtain ⟨rfl, hsz, hP, hK, hD0, hX⟩ := hv
  have hx := B.exec
  have hb := B.bytes
  have hr := B.returns
  have hts := atoms_spec (ws := wsX1_init) B.pre
  have hown : s.vm.findClass RX1 = some m.cls := findClass_of_methodNamed B.named
  have hlocks := B.notSynchronized
  have hin : meth.name = "<init>" := (name_of_methodNamed B.named B.method).1
  subst hsz
  have hD := hD0.self (sz := s.heap.size)
  generalize hAe : va_A [(h0, .inr (1, [.null, .null, .int 0]))] s.heap.size = A at hD ⊢
  have hA : ∀ q : Nat, s.heap.size ≤ q → A q := fun q h => by rw [← hAe]; exact Or.inr h
  have hS : va_S A s.heap s.heap [] := va_S.rf
  have hl := lv_entry ([.ref h0, .int 8]) (n := 2) (Nat.le_of_ble_eq_true rfl)
  rw [lg_entry_eq]
  generalize (lg_sl ([.ref h0, .int 8]) ++ List.replicate (2 - (lg_sl ([.ref h0, .int 8])).length) Slot.unset).toArray = ls at hl ⊢
  have hl : lv_has ls 2 [(0, .ref h0), (1, .int 8)] := hl
  refine lv_aload_n hx hb dX1_init_0 rfl (lv_at hl 0 rfl) ?_
  refine W.objInit hx hb hown (hts (.methodLink RX1 1 objectInit) (by decide +kernel)) (hts (.instanceMethod objectInit) (by decide +kernel)) (hts _ (List.mem_of_getElem? (i := 3) rfl)) rfl (by rw [hml]; exact hl.1) rfl dX1_init_1 (Nat.le_of_ble_eq_true rfl) (Nat.le_of_ble_eq_true rfl) ?_
  refine W.eq (g2 := F0 m 4 ls []) rfl ?_
  refine lv_aload_n hx hb dX1_init_4 rfl (lv_at hl 0 rfl) ?_
  refine lv_iload_n hx hb dX1_init_5 rfl (lv_at hl 1 rfl) ?_
  refine zn_newa (ca := ca) (atype := .int) hx hb (hts (.arrayClass .int) (by decide +kernel)) (ty := .int) (t := 0) rfl hK rfl (fun _ _ h1 h2 => Option.some.inj (h1.symm.trans h2)) hP hD hS hA (N' := 8) (a0 := (8, .inl fun _ => 0)) (fun _ => rfl) (by decide) (by decide) (by decide) (Nat.le_of_ble_eq_true rfl) (Nat.le_of_ble_eq_true rfl) dX1_init_6 (fun a1 H hP hD hS => ?_)
  have hP : va_P D vwCl ([(h0, .inr (1, [.null, .null, .int 0])), (a1, .inl (ca 0, 8, .inl fun _ => 0))]) H := hP
  have hD : va_D A ([(h0, .inr (1, [.null, .null, .int 0])), (a1, .inl (ca 0, 8, .inl fun _ => 0))]) := hD
  refine W.widen (k := 1) (n := 8) (by omega) (by omega) ?_
  refine va_putF (D := D) (ci := 1) (v := .ref a1) (ty := .array .int) (C := RX1) (T := TX1) (N := 3) hx hb hts (by decide +kernel) tyX1 tyX1_ok nmX1 hown hK hP hD hS 0 rfl rfl 0 (by decide) (hts (.fieldLink RX1 7 "PointShares$Rows" "left" "[I") (by decide +kernel)) (fun _ h9 => h9) rfl hin rfl (by decide +kernel) rfl rfl (Nat.le_of_ble_eq_true rfl) dX1_init_8 (fun H locs hP hD hS => ?_)
  have hP : va_P D vwCl ([(h0, .inr (1, [.ref a1, .null, .int 0])), (a1, .inl (ca 0, 8, .inl fun _ => 0))]) H := hP
  have hD : va_D A ([(h0, .inr (1, [.ref a1, .null, .int 0])), (a1, .inl (ca 0, 8, .inl fun _ => 0))]) := hD
  refine lv_aload_n hx hb dX1_init_11 rfl (lv_at hl 0 rfl) ?_
  refine lv_iload_n hx hb dX1_init_12 rfl (lv_at hl 1 rfl) ?_
  refine zn_newa (ca := ca) (atype := .int) hx hb (hts (.arrayClass .int) (by decide +kernel)) (ty := .int) (t := 0) rfl hK rfl (fun _ _ h1 h2 => Option.some.inj (h1.symm.trans h2)) hP hD hS hA (N' := 8) (a0 := (8, .inl fun _ => 0)) (fun _ => rfl) (by decide) (by decide) (by decide) (Nat.le_of_ble_eq_true rfl) (Nat.le_of_ble_eq_true rfl) dX1_init_13 (fun a2 H hP hD hS => ?_)
  have hP : va_P D vwCl ([(h0, .inr (1, [.ref a1, .null, .int 0])), (a1, .inl (ca 0, 8, .inl fun _ => 0)), (a2, .inl (ca 0, 8, .inl fun _ => 0))]) H := hP
  have hD : va_D A ([(h0, .inr (1, [.ref a1, .null, .int 0])), (a1, .inl (ca 0, 8, .inl fun _ => 0)), (a2, .inl (ca 0, 8, .inl fun _ => 0))]) := hD
  refine W.widen (k := 2) (n := 16) (by omega) (by omega) ?_
  refine va_putF (D := D) (ci := 1) (v := .ref a2) (ty := .array .int) (C := RX1) (T := TX1) (N := 3) hx hb hts (by decide +kernel) tyX1 tyX1_ok nmX1 hown hK hP hD hS 0 rfl rfl 1 (by decide) (hts (.fieldLink RX1 13 "PointShares$Rows" "right" "[I") (by decide +kernel)) (fun _ h9 => h9) rfl hin rfl (by decide +kernel) rfl rfl (Nat.le_of_ble_eq_true rfl) dX1_init_15 (fun H locs hP hD hS => ?_)
  have hP : va_P D vwCl ([(h0, .inr (1, [.ref a1, .ref a2, .int 0])), (a1, .inl (ca 0, 8, .inl fun _ => 0)), (a2, .inl (ca 0, 8, .inl fun _ => 0))]) H := hP
  have hD : va_D A ([(h0, .inr (1, [.ref a1, .ref a2, .int 0])), (a1, .inl (ca 0, 8, .inl fun _ => 0)), (a2, .inl (ca 0, 8, .inl fun _ => 0))]) := hD
  exact W.vret hx hb hr (fun t ht hW => ⟨⟨(), rfl, trivial, a1, a2, by rw [ht]; exact hP, va_K.moved hW.alike hK, hD⟩, hS.F ht⟩) hS.2.2 dX1_init_18
abbrev w_X2 (ca : Nat → ClassId) (h0 a1 a2 a3 a4 a5 a6 a7 a8 a9 a10 a11 : Nat) : va_W := ((((([(h0, .inr (2, [.int 2, .int 0, .ref a1, .ref a2, .int (-1), .int (-1), .long 0, .long 1, .ref a3, .ref a6, .ref a9]))] ++ wMul ca a1) ++ [(a2, .inl (ca 0, 6, .inl fun _ => 0))]) ++ w_X1_5 ca a3 a4 a5) ++ w_X1_8 ca a6 a7 a8) ++ w_X1_8 ca a9 a10 a11)
set_option maxHeartbeats 4000000 in
set_option maxRecDepth 100000 in
theorem c_X2 (l : Launch) (D : va_G) (ca : Nat → ClassId) (h0 : Nat) (sz : Nat) : Met l yX2_init wsX2_init ({ frames := 2, cells := 15, slots := 85, locals := 33 }) (va_Pc [.ref h0] (fun U => U.heap.size = sz ∧ va_P D vwCl [(h0, .inr (2, [.int 0, .int 0, .null, .null, .int 0, .int 0, .long 0, .long 0, .null, .null, .null]))] U.heap ∧ va_K D vwCl (zTys ca) U ∧ va_D (fun _ => True) [(h0, .inr (2, [.int 0, .int 0, .null, .null, .int 0, .int 0, .long 0, .long 0, .null, .null, .null]))] ∧ mkX U)) (va_Qv (fun _ : Unit => True) (fun _ t => ∃ a1 : Nat, ∃ a2 : Nat, ∃ a3 : Nat, ∃ a4 : Nat, ∃ a5 : Nat, ∃ a6 : Nat, ∃ a7 : Nat, ∃ a8 : Nat, ∃ a9 : Nat, ∃ a10 : Nat, ∃ a11 : Nat, va_P D vwCl (w_X2 ca h0 a1 a2 a3 a4 a5 a6 a7 a8 a9 a10 a11) t.heap ∧ va_K D vwCl (zTys ca) t ∧ va_D (va_A [(h0, .inr (2, [.int 0, .int 0, .null, .null, .int 0, .int 0, .long 0, .long 0, .null, .null, .null]))] sz) (w_X2 ca h0 a1 a2 a3 a4 a5 a6 a7 a8 a9 a10 a11)) (va_A [(h0, .inr (2, [.int 0, .int 0, .null, .null, .int 0, .int 0, .long 0, .long 0, .null, .null, .null]))] sz)) 15 85 (va_A [(h0, .inr (2, [.int 0, .int 0, .null, .null, .int 0, .int 0, .long 0, .long 0, .null, .null, .null]))] sz) := by
  refine Met.ofW (cc := cX2_init) (maxL := 1) (ret := none) (by decide) rfl ?_
  intro p e s m args below meth c s₁ B hml hv
  obtain ⟨rfl, hsz, hP, hK, hD0, hX⟩ := hv
  have hx := B.exec
  have hb := B.bytes
  have hr := B.returns
  have hts := atoms_spec (ws := wsX2_init) B.pre
  have hown : s.vm.findClass RX2 = some m.cls := findClass_of_methodNamed B.named
  have hlocks := B.notSynchronized
  have hin : meth.name = "<init>" := (name_of_methodNamed B.named B.method).1
  subst hsz
  have hD := hD0.self (sz := s.heap.size)
  generalize hAe : va_A [(h0, .inr (2, [.int 0, .int 0, .null, .null, .int 0, .int 0, .long 0, .long 0, .null, .null, .null]))] s.heap.size = A at hD ⊢
  have hA : ∀ q : Nat, s.heap.size ≤ q → A q := fun q h => by rw [← hAe]; exact Or.inr h
  have hS : va_S A s.heap s.heap [] := va_S.rf
  have hl := lv_entry ([.ref h0]) (n := 1) (Nat.le_of_ble_eq_true rfl)
  rw [lg_entry_eq]
  generalize (lg_sl ([.ref h0]) ++ List.replicate (1 - (lg_sl ([.ref h0])).length) Slot.unset).toArray = ls at hl ⊢
  have hl : lv_has ls 1 [(0, .ref h0)] := hl
  refine lv_aload_n hx hb dX2_init_0 rfl (lv_at hl 0 rfl) ?_
  refine W.objInit hx hb hown (hts (.methodLink RX2 3 objectInit) (by decide +kernel)) (hts (.instanceMethod objectInit) (by decide +kernel)) (hts _ (List.mem_of_getElem? (i := 3) rfl)) rfl (by rw [hml]; exact hl.1) rfl dX2_init_1 (Nat.le_of_ble_eq_true rfl) (Nat.le_of_ble_eq_true rfl) ?_
  refine W.eq (g2 := F0 m 4 ls []) rfl ?_
  refine lv_aload_n hx hb dX2_init_4 rfl (lv_at hl 0 rfl) ?_
  refine lv_iconst (v := 2) hx hb dX2_init_5 (by decide) ?_
  refine va_put (D := D) (ci := 2) (v := .int 2) (ty := .int) (C := RX2) (T := TX2) (N := 11) hx hb hts (by decide +kernel) tyX2 tyX2_ok nmX2 hown hK hP hD hS 0 rfl rfl 0 (by decide) (hts (.fieldLink RX2 9 "PointShares$Setup" "n" "I") (by decide +kernel)) (fun _ h9 => h9) rfl (by decide +kernel) rfl rfl (Nat.le_of_ble_eq_true rfl) dX2_init_6 (fun H locs hP hD hS => ?_)
  have hP : va_P D vwCl ([(h0, .inr (2, [.int 2, .int 0, .null, .null, .int 0, .int 0, .long 0, .long 0, .null, .null, .null]))]) H := hP
  have hD : va_D A ([(h0, .inr (2, [.int 2, .int 0, .null, .null, .int 0, .int 0, .long 0, .long 0, .null, .null, .null]))]) := hD
  refine lv_aload_n hx hb dX2_init_9 rfl (lv_at hl 0 rfl) ?_
  refine lv_iconst (v := 4) hx hb dX2_init_10 (by decide) ?_
  refine lv_bipush (v := 6) hx hb dX2_init_11 (by decide) ?_
  refine zn_multi hx hb hown (hts (.classLink RX2 15 "[[I") (by decide +kernel)) hX.1 (hts (.arrayClass .int) (by decide +kernel)) hK hP hD hS hA (Nat.le_of_ble_eq_true rfl) (Nat.le_of_ble_eq_true rfl) dX2_init_13 (fun a1 H hP hD hS => ?_)
  have hP : va_P D vwCl (([(h0, .inr (2, [.int 2, .int 0, .null, .null, .int 0, .int 0, .long 0, .long 0, .null, .null, .null]))] ++ wMul ca a1)) H := hP
  have hD : va_D A (([(h0, .inr (2, [.int 2, .int 0, .null, .null, .int 0, .int 0, .long 0, .long 0, .null, .null, .null]))] ++ wMul ca a1)) := hD
  refine W.widen (k := 5) (n := 28) (by omega) (by omega) ?_
  refine va_putF (D := D) (ci := 2) (v := .ref a1) (ty := .array (.array .int)) (C := RX2) (T := TX2) (N := 11) hx hb hts (by decide +kernel) tyX2 tyX2_ok nmX2 hown hK hP hD hS 0 rfl rfl 2 (by decide) (hts (.fieldLink RX2 17 "PointShares$Setup" "points" "[[I") (by decide +kernel)) (fun _ h9 => h9) rfl hin rfl (by decide +kernel) rfl rfl (Nat.le_of_ble_eq_true rfl) dX2_init_17 (fun H locs hP hD hS => ?_)
  have hP : va_P D vwCl (([(h0, .inr (2, [.int 2, .int 0, .ref a1, .null, .int 0, .int 0, .long 0, .long 0, .null, .null, .null]))] ++ wMul ca a1)) H := hP
  have hD : va_D A (([(h0, .inr (2, [.int 2, .int 0, .ref a1, .null, .int 0, .int 0, .long 0, .long 0, .null, .null, .null]))] ++ wMul ca a1)) := hD
  refine lv_aload_n hx hb dX2_init_20 rfl (lv_at hl 0 rfl) ?_
  refine lv_bipush (v := 6) hx hb dX2_init_21 (by decide) ?_
  refine zn_newa (ca := ca) (atype := .int) hx hb (hts (.arrayClass .int) (by decide +kernel)) (ty := .int) (t := 0) rfl hK rfl (fun _ _ h1 h2 => Option.some.inj (h1.symm.trans h2)) hP hD hS hA (N' := 6) (a0 := (6, .inl fun _ => 0)) (fun _ => rfl) (by decide) (by decide) (by decide) (Nat.le_of_ble_eq_true rfl) (Nat.le_of_ble_eq_true rfl) dX2_init_23 (fun a2 H hP hD hS => ?_)
  have hP : va_P D vwCl ((([(h0, .inr (2, [.int 2, .int 0, .ref a1, .null, .int 0, .int 0, .long 0, .long 0, .null, .null, .null]))] ++ wMul ca a1) ++ [(a2, .inl (ca 0, 6, .inl fun _ => 0))])) H := hP
  have hD : va_D A ((([(h0, .inr (2, [.int 2, .int 0, .ref a1, .null, .int 0, .int 0, .long 0, .long 0, .null, .null, .null]))] ++ wMul ca a1) ++ [(a2, .inl (ca 0, 6, .inl fun _ => 0))])) := hD
  refine W.widen (k := 6) (n := 34) (by omega) (by omega) ?_
  refine va_putF (D := D) (ci := 2) (v := .ref a2) (ty := .array .int) (C := RX2) (T := TX2) (N := 11) hx hb hts (by decide +kernel) tyX2 tyX2_ok nmX2 hown hK hP hD hS 0 rfl rfl 3 (by decide) (hts (.fieldLink RX2 20 "PointShares$Setup" "first" "[I") (by decide +kernel)) (fun _ h9 => h9) rfl hin rfl (by decide +kernel) rfl rfl (Nat.le_of_ble_eq_true rfl) dX2_init_25 (fun H locs hP hD hS => ?_)
  have hP : va_P D vwCl ((([(h0, .inr (2, [.int 2, .int 0, .ref a1, .ref a2, .int 0, .int 0, .long 0, .long 0, .null, .null, .null]))] ++ wMul ca a1) ++ [(a2, .inl (ca 0, 6, .inl fun _ => 0))])) H := hP
  have hD : va_D A ((([(h0, .inr (2, [.int 2, .int 0, .ref a1, .ref a2, .int 0, .int 0, .long 0, .long 0, .null, .null, .null]))] ++ wMul ca a1) ++ [(a2, .inl (ca 0, 6, .inl fun _ => 0))])) := hD
  refine lv_aload_n hx hb dX2_init_28 rfl (lv_at hl 0 rfl) ?_
  refine lv_iconst (v := (-1)) hx hb dX2_init_29 (by decide) ?_
  refine va_put (D := D) (ci := 2) (v := .int (-1)) (ty := .int) (C := RX2) (T := TX2) (N := 11) hx hb hts (by decide +kernel) tyX2 tyX2_ok nmX2 hown hK hP hD hS 0 rfl rfl 4 (by decide) (hts (.fieldLink RX2 24 "PointShares$Setup" "cut" "I") (by decide +kernel)) (fun _ h9 => h9) rfl (by decide +kernel) rfl rfl (Nat.le_of_ble_eq_true rfl) dX2_init_30 (fun H locs hP hD hS => ?_)
  have hP : va_P D vwCl ((([(h0, .inr (2, [.int 2, .int 0, .ref a1, .ref a2, .int (-1), .int 0, .long 0, .long 0, .null, .null, .null]))] ++ wMul ca a1) ++ [(a2, .inl (ca 0, 6, .inl fun _ => 0))])) H := hP
  have hD : va_D A ((([(h0, .inr (2, [.int 2, .int 0, .ref a1, .ref a2, .int (-1), .int 0, .long 0, .long 0, .null, .null, .null]))] ++ wMul ca a1) ++ [(a2, .inl (ca 0, 6, .inl fun _ => 0))])) := hD
  refine lv_aload_n hx hb dX2_init_33 rfl (lv_at hl 0 rfl) ?_
  refine lv_iconst (v := (-1)) hx hb dX2_init_34 (by decide) ?_
  refine va_put (D := D) (ci := 2) (v := .int (-1)) (ty := .int) (C := RX2) (T := TX2) (N := 11) hx hb hts (by decide +kernel) tyX2 tyX2_ok nmX2 hown hK hP hD hS 0 rfl rfl 5 (by decide) (hts (.fieldLink RX2 27 "PointShares$Setup" "second" "I") (by decide +kernel)) (fun _ h9 => h9) rfl (by decide +kernel) rfl rfl (Nat.le_of_ble_eq_true rfl) dX2_init_35 (fun H locs hP hD hS => ?_)
  have hP : va_P D vwCl ((([(h0, .inr (2, [.int 2, .int 0, .ref a1, .ref a2, .int (-1), .int (-1), .long 0, .long 0, .null, .null, .null]))] ++ wMul ca a1) ++ [(a2, .inl (ca 0, 6, .inl fun _ => 0))])) H := hP
  have hD : va_D A ((([(h0, .inr (2, [.int 2, .int 0, .ref a1, .ref a2, .int (-1), .int (-1), .long 0, .long 0, .null, .null, .null]))] ++ wMul ca a1) ++ [(a2, .inl (ca 0, 6, .inl fun _ => 0))])) := hD
  refine lv_aload_n hx hb dX2_init_38 rfl (lv_at hl 0 rfl) ?_
  refine lv_lconst (v := 1) hx hb dX2_init_39 (by decide) ?_
  refine va_put (D := D) (ci := 2) (v := .long 1) (ty := .long) (C := RX2) (T := TX2) (N := 11) hx hb hts (by decide +kernel) tyX2 tyX2_ok nmX2 hown hK hP hD hS 0 rfl rfl 7 (by decide) (hts (.fieldLink RX2 30 "PointShares$Setup" "cutLow" "J") (by decide +kernel)) (fun _ h9 => h9) rfl (by decide +kernel) rfl rfl (Nat.le_of_ble_eq_true rfl) dX2_init_40 (fun H locs hP hD hS => ?_)
  have hP : va_P D vwCl ((([(h0, .inr (2, [.int 2, .int 0, .ref a1, .ref a2, .int (-1), .int (-1), .long 0, .long 1, .null, .null, .null]))] ++ wMul ca a1) ++ [(a2, .inl (ca 0, 6, .inl fun _ => 0))])) H := hP
  have hD : va_D A ((([(h0, .inr (2, [.int 2, .int 0, .ref a1, .ref a2, .int (-1), .int (-1), .long 0, .long 1, .null, .null, .null]))] ++ wMul ca a1) ++ [(a2, .inl (ca 0, 6, .inl fun _ => 0))])) := hD
  refine lv_aload_n hx hb dX2_init_43 rfl (lv_at hl 0 rfl) ?_
  refine va_new (D := D) (ci := 1) (fs := [.null, .null, .int 0]) (C := RX1) (T := TX1) (N := 3) hx hb hts (by decide +kernel) tyX1 tyX1_ok hown (hts (.classLink RX2 34 RX1) (by decide +kernel)) (hts (.instantiable RX1 3) (by decide +kernel)) (hts (.initialized RX1) (by decide +kernel)) hK hP hD hS hA rfl (fun j hj => by rcases (show j = 0 ∨ j = 1 ∨ j = 2 by omega) with rfl | rfl | rfl <;> rfl) (Nat.le_of_ble_eq_true rfl) (Nat.le_of_ble_eq_true rfl) dX2_init_44 (fun a3 H hP hD hS => ?_)
  have hP : va_P D vwCl ((([(h0, .inr (2, [.int 2, .int 0, .ref a1, .ref a2, .int (-1), .int (-1), .long 0, .long 1, .null, .null, .null]))] ++ wMul ca a1) ++ [(a2, .inl (ca 0, 6, .inl fun _ => 0)), (a3, .inr (1, [.null, .null, .int 0]))])) H := hP
  have hD : va_D A ((([(h0, .inr (2, [.int 2, .int 0, .ref a1, .ref a2, .int (-1), .int (-1), .long 0, .long 1, .null, .null, .null]))] ++ wMul ca a1) ++ [(a2, .inl (ca 0, 6, .inl fun _ => 0)), (a3, .inr (1, [.null, .null, .int 0]))])) := hD
  refine W.widen (k := 7) (n := 37) (by omega) (by omega) ?_
  refine lv_dup hx hb dX2_init_47 rfl ?_
  refine lv_iconst (v := 5) hx hb dX2_init_48 (by decide) ?_
  have hPc := hP.sub (ws' := [(a3, .inr (1, [.null, .null, .int 0]))]) [7] rfl
  have hDc := hD.sub (ws' := [(a3, .inr (1, [.null, .null, .int 0]))]) [7] (by decide) rfl
  have hFc := va_free (wc := [(a3, .inr (1, [.null, .null, .int 0]))]) hD hS hA [7] rfl
  refine va_callv (va_runI (As := [.int 5]) (rest := [.ref a3, .ref h0]) ⟨hx, hb, hml, hown, hts⟩ (c_X1_5 l D ca a3 H.size) (cwI 1 hts gX2_init_X1_init rfl rfl rfl (hts (.initialized RX1) (by decide +kernel)) (hts (.methodLink RX2 36 yX1_init) (by decide +kernel)) (hts (.instanceMethod yX1_init) (by decide +kernel)) rfl (by decide +kernel) ⟨(Nat.le_of_ble_eq_true rfl), (Nat.le_of_ble_eq_true rfl)⟩) ⟨fun a U g mk q => by obtain ⟨q0, q1, qP, qK, qD, qX⟩ := q; exact ⟨q0, q1, qP, va_K.moved (u := U) (U := U.calling g mk a) (Vm.Alike.refl U.vm) qK, qD, mkX.same (u := U) (U := U.calling g mk a) rfl qX⟩, fun U hU hW => ⟨rfl, by rw [hU], by rw [hU]; exact hPc, va_K.moved hW.alike hK, hDc.weaken (fun _ _ _ _ => trivial), mkX.warm hW hX⟩⟩ rfl rfl hl.1 rfl (lv_room (Nat.le_of_ble_eq_true rfl)) dX2_init_49 ⟨(Nat.le_of_ble_eq_true rfl), (Nat.le_of_ble_eq_true rfl)⟩) hS (fun q _ h => hFc q h) hFc (fun u t H1 locs ht hvm hw hB hz1 hk1 hS => ?_)
  obtain ⟨a4, a5, hP1, hK1, hD1⟩ := hB
  rw [ht] at hP1
  obtain ⟨hP, hD⟩ := va_join (wr := (([(h0, .inr (2, [.int 2, .int 0, .ref a1, .ref a2, .int (-1), .int (-1), .long 0, .long 1, .null, .null, .null]))] ++ wMul ca a1) ++ [(a2, .inl (ca 0, 6, .inl fun _ => 0))])) (w1 := w_X1_5 ca a3 a4 a5) hP hD [7] [0, 1, 2, 3, 4, 5, 6] rfl rfl (by decide) (by decide) hk1 hFc hP1 hD1
  generalize H1 = H at hP hS ⊢
  have hP : va_P D vwCl (((([(h0, .inr (2, [.int 2, .int 0, .ref a1, .ref a2, .int (-1), .int (-1), .long 0, .long 1, .null, .null, .null]))] ++ wMul ca a1) ++ [(a2, .inl (ca 0, 6, .inl fun _ => 0))]) ++ w_X1_5 ca a3 a4 a5)) H := hP
  have hD : va_D A (((([(h0, .inr (2, [.int 2, .int 0, .ref a1, .ref a2, .int (-1), .int (-1), .long 0, .long 1, .null, .null, .null]))] ++ wMul ca a1) ++ [(a2, .inl (ca 0, 6, .inl fun _ => 0))]) ++ w_X1_5 ca a3 a4 a5)) := hD
  refine W.widen (k := 9) (n := 47) (by omega) (by omega) ?_
  refine va_putF (D := D) (ci := 2) (v := .ref a3) (ty := .object "PointShares$Rows") (C := RX2) (T := TX2) (N := 11) hx hb hts (by decide +kernel) tyX2 tyX2_ok nmX2 hown hK hP hD hS 0 rfl rfl 8 (by decide) (hts (.fieldLink RX2 39 "PointShares$Setup" "seen" "LPointShares$Rows;") (by decide +kernel)) (fun _ h9 => h9) rfl hin rfl (by decide +kernel) rfl rfl (Nat.le_of_ble_eq_true rfl) dX2_init_52 (fun H locs hP hD hS => ?_)
  have hP : va_P D vwCl (((([(h0, .inr (2, [.int 2, .int 0, .ref a1, .ref a2, .int (-1), .int (-1), .long 0, .long 1, .ref a3, .null, .null]))] ++ wMul ca a1) ++ [(a2, .inl (ca 0, 6, .inl fun _ => 0))]) ++ w_X1_5 ca a3 a4 a5)) H := hP
  have hD : va_D A (((([(h0, .inr (2, [.int 2, .int 0, .ref a1, .ref a2, .int (-1), .int (-1), .long 0, .long 1, .ref a3, .null, .null]))] ++ wMul ca a1) ++ [(a2, .inl (ca 0, 6, .inl fun _ => 0))]) ++ w_X1_5 ca a3 a4 a5)) := hD
  refine lv_aload_n hx hb dX2_init_55 rfl (lv_at hl 0 rfl) ?_
  refine va_new (D := D) (ci := 1) (fs := [.null, .null, .int 0]) (C := RX1) (T := TX1) (N := 3) hx hb hts (by decide +kernel) tyX1 tyX1_ok hown (hts (.classLink RX2 34 RX1) (by decide +kernel)) (hts (.instantiable RX1 3) (by decide +kernel)) (hts (.initialized RX1) (by decide +kernel)) hK hP hD hS hA rfl (fun j hj => by rcases (show j = 0 ∨ j = 1 ∨ j = 2 by omega) with rfl | rfl | rfl <;> rfl) (Nat.le_of_ble_eq_true rfl) (Nat.le_of_ble_eq_true rfl) dX2_init_56 (fun a6 H hP hD hS => ?_)
  have hP : va_P D vwCl ((((([(h0, .inr (2, [.int 2, .int 0, .ref a1, .ref a2, .int (-1), .int (-1), .long 0, .long 1, .ref a3, .null, .null]))] ++ wMul ca a1) ++ [(a2, .inl (ca 0, 6, .inl fun _ => 0))]) ++ w_X1_5 ca a3 a4 a5) ++ [(a6, .inr (1, [.null, .null, .int 0]))])) H := hP
  have hD : va_D A ((((([(h0, .inr (2, [.int 2, .int 0, .ref a1, .ref a2, .int (-1), .int (-1), .long 0, .long 1, .ref a3, .null, .null]))] ++ wMul ca a1) ++ [(a2, .inl (ca 0, 6, .inl fun _ => 0))]) ++ w_X1_5 ca a3 a4 a5) ++ [(a6, .inr (1, [.null, .null, .int 0]))])) := hD
  refine W.widen (k := 10) (n := 50) (by omega) (by omega) ?_
  refine lv_dup hx hb dX2_init_59 rfl ?_
  refine lv_bipush (v := 8) hx hb dX2_init_60 (by decide) ?_
  have hPc := hP.sub (ws' := [(a6, .inr (1, [.null, .null, .int 0]))]) [10] rfl
  have hDc := hD.sub (ws' := [(a6, .inr (1, [.null, .null, .int 0]))]) [10] (by decide) rfl
  have hFc := va_free (wc := [(a6, .inr (1, [.null, .null, .int 0]))]) hD hS hA [10] rfl
  refine va_callv (va_runI (As := [.int 8]) (rest := [.ref a6, .ref h0]) ⟨hx, hb, hml, hown, hts⟩ (c_X1_8 l D ca a6 H.size) (cwI 1 hts gX2_init_X1_init rfl rfl rfl (hts (.initialized RX1) (by decide +kernel)) (hts (.methodLink RX2 36 yX1_init) (by decide +kernel)) (hts (.instanceMethod yX1_init) (by decide +kernel)) rfl (by decide +kernel) ⟨(Nat.le_of_ble_eq_true rfl), (Nat.le_of_ble_eq_true rfl)⟩) ⟨fun a U g mk q => by obtain ⟨q0, q1, qP, qK, qD, qX⟩ := q; exact ⟨q0, q1, qP, va_K.moved (u := U) (U := U.calling g mk a) (Vm.Alike.refl U.vm) qK, qD, mkX.same (u := U) (U := U.calling g mk a) rfl qX⟩, fun U hU hW => ⟨rfl, by rw [hU], by rw [hU]; exact hPc, va_K.moved hW.alike hK, hDc.weaken (fun _ _ _ _ => trivial), mkX.warm hW hX⟩⟩ rfl rfl hl.1 rfl (lv_room (Nat.le_of_ble_eq_true rfl)) dX2_init_62 ⟨(Nat.le_of_ble_eq_true rfl), (Nat.le_of_ble_eq_true rfl)⟩) hS (fun q _ h => hFc q h) hFc (fun u t H1 locs ht hvm hw hB hz1 hk1 hS => ?_)
  obtain ⟨a7, a8, hP1, hK1, hD1⟩ := hB
  rw [ht] at hP1
  obtain ⟨hP, hD⟩ := va_join (wr := ((([(h0, .inr (2, [.int 2, .int 0, .ref a1, .ref a2, .int (-1), .int (-1), .long 0, .long 1, .ref a3, .null, .null]))] ++ wMul ca a1) ++ [(a2, .inl (ca 0, 6, .inl fun _ => 0))]) ++ w_X1_5 ca a3 a4 a5)) (w1 := w_X1_8 ca a6 a7 a8) hP hD [10] [0, 1, 2, 3, 4, 5, 6, 7, 8, 9] rfl rfl (by decide) (by decide) hk1 hFc hP1 hD1
  generalize H1 = H at hP hS ⊢
  have hP : va_P D vwCl ((((([(h0, .inr (2, [.int 2, .int 0, .ref a1, .ref a2, .int (-1), .int (-1), .long 0, .long 1, .ref a3, .null, .null]))] ++ wMul ca a1) ++ [(a2, .inl (ca 0, 6, .inl fun _ => 0))]) ++ w_X1_5 ca a3 a4 a5) ++ w_X1_8 ca a6 a7 a8)) H := hP
  have hD : va_D A ((((([(h0, .inr (2, [.int 2, .int 0, .ref a1, .ref a2, .int (-1), .int (-1), .long 0, .long 1, .ref a3, .null, .null]))] ++ wMul ca a1) ++ [(a2, .inl (ca 0, 6, .inl fun _ => 0))]) ++ w_X1_5 ca a3 a4 a5) ++ w_X1_8 ca a6 a7 a8)) := hD
  refine W.widen (k := 12) (n := 66) (by omega) (by omega) ?_
  refine va_putF (D := D) (ci := 2) (v := .ref a6) (ty := .object "PointShares$Rows") (C := RX2) (T := TX2) (N := 11) hx hb hts (by decide +kernel) tyX2 tyX2_ok nmX2 hown hK hP hD hS 0 rfl rfl 9 (by decide) (hts (.fieldLink RX2 43 "PointShares$Setup" "events" "LPointShares$Rows;") (by decide +kernel)) (fun _ h9 => h9) rfl hin rfl (by decide +kernel) rfl rfl (Nat.le_of_ble_eq_true rfl) dX2_init_65 (fun H locs hP hD hS => ?_)
  have hP : va_P D vwCl ((((([(h0, .inr (2, [.int 2, .int 0, .ref a1, .ref a2, .int (-1), .int (-1), .long 0, .long 1, .ref a3, .ref a6, .null]))] ++ wMul ca a1) ++ [(a2, .inl (ca 0, 6, .inl fun _ => 0))]) ++ w_X1_5 ca a3 a4 a5) ++ w_X1_8 ca a6 a7 a8)) H := hP
  have hD : va_D A ((((([(h0, .inr (2, [.int 2, .int 0, .ref a1, .ref a2, .int (-1), .int (-1), .long 0, .long 1, .ref a3, .ref a6, .null]))] ++ wMul ca a1) ++ [(a2, .inl (ca 0, 6, .inl fun _ => 0))]) ++ w_X1_5 ca a3 a4 a5) ++ w_X1_8 ca a6 a7 a8)) := hD
  refine lv_aload_n hx hb dX2_init_68 rfl (lv_at hl 0 rfl) ?_
  refine va_new (D := D) (ci := 1) (fs := [.null, .null, .int 0]) (C := RX1) (T := TX1) (N := 3) hx hb hts (by decide +kernel) tyX1 tyX1_ok hown (hts (.classLink RX2 34 RX1) (by decide +kernel)) (hts (.instantiable RX1 3) (by decide +kernel)) (hts (.initialized RX1) (by decide +kernel)) hK hP hD hS hA rfl (fun j hj => by rcases (show j = 0 ∨ j = 1 ∨ j = 2 by omega) with rfl | rfl | rfl <;> rfl) (Nat.le_of_ble_eq_true rfl) (Nat.le_of_ble_eq_true rfl) dX2_init_69 (fun a9 H hP hD hS => ?_)
  have hP : va_P D vwCl (((((([(h0, .inr (2, [.int 2, .int 0, .ref a1, .ref a2, .int (-1), .int (-1), .long 0, .long 1, .ref a3, .ref a6, .null]))] ++ wMul ca a1) ++ [(a2, .inl (ca 0, 6, .inl fun _ => 0))]) ++ w_X1_5 ca a3 a4 a5) ++ w_X1_8 ca a6 a7 a8) ++ [(a9, .inr (1, [.null, .null, .int 0]))])) H := hP
  have hD : va_D A (((((([(h0, .inr (2, [.int 2, .int 0, .ref a1, .ref a2, .int (-1), .int (-1), .long 0, .long 1, .ref a3, .ref a6, .null]))] ++ wMul ca a1) ++ [(a2, .inl (ca 0, 6, .inl fun _ => 0))]) ++ w_X1_5 ca a3 a4 a5) ++ w_X1_8 ca a6 a7 a8) ++ [(a9, .inr (1, [.null, .null, .int 0]))])) := hD
  refine W.widen (k := 13) (n := 69) (by omega) (by omega) ?_
  refine lv_dup hx hb dX2_init_72 rfl ?_
  refine lv_bipush (v := 8) hx hb dX2_init_73 (by decide) ?_
  have hPc := hP.sub (ws' := [(a9, .inr (1, [.null, .null, .int 0]))]) [13] rfl
  have hDc := hD.sub (ws' := [(a9, .inr (1, [.null, .null, .int 0]))]) [13] (by decide) rfl
  have hFc := va_free (wc := [(a9, .inr (1, [.null, .null, .int 0]))]) hD hS hA [13] rfl
  refine va_callv (va_runI (As := [.int 8]) (rest := [.ref a9, .ref h0]) ⟨hx, hb, hml, hown, hts⟩ (c_X1_8 l D ca a9 H.size) (cwI 1 hts gX2_init_X1_init rfl rfl rfl (hts (.initialized RX1) (by decide +kernel)) (hts (.methodLink RX2 36 yX1_init) (by decide +kernel)) (hts (.instanceMethod yX1_init) (by decide +kernel)) rfl (by decide +kernel) ⟨(Nat.le_of_ble_eq_true rfl), (Nat.le_of_ble_eq_true rfl)⟩) ⟨fun a U g mk q => by obtain ⟨q0, q1, qP, qK, qD, qX⟩ := q; exact ⟨q0, q1, qP, va_K.moved (u := U) (U := U.calling g mk a) (Vm.Alike.refl U.vm) qK, qD, mkX.same (u := U) (U := U.calling g mk a) rfl qX⟩, fun U hU hW => ⟨rfl, by rw [hU], by rw [hU]; exact hPc, va_K.moved hW.alike hK, hDc.weaken (fun _ _ _ _ => trivial), mkX.warm hW hX⟩⟩ rfl rfl hl.1 rfl (lv_room (Nat.le_of_ble_eq_true rfl)) dX2_init_75 ⟨(Nat.le_of_ble_eq_true rfl), (Nat.le_of_ble_eq_true rfl)⟩) hS (fun q _ h => hFc q h) hFc (fun u t H1 locs ht hvm hw hB hz1 hk1 hS => ?_)
  obtain ⟨a10, a11, hP1, hK1, hD1⟩ := hB
  rw [ht] at hP1
  obtain ⟨hP, hD⟩ := va_join (wr := (((([(h0, .inr (2, [.int 2, .int 0, .ref a1, .ref a2, .int (-1), .int (-1), .long 0, .long 1, .ref a3, .ref a6, .null]))] ++ wMul ca a1) ++ [(a2, .inl (ca 0, 6, .inl fun _ => 0))]) ++ w_X1_5 ca a3 a4 a5) ++ w_X1_8 ca a6 a7 a8)) (w1 := w_X1_8 ca a9 a10 a11) hP hD [13] [0, 1, 2, 3, 4, 5, 6, 7, 8, 9, 10, 11, 12] rfl rfl (by decide) (by decide) hk1 hFc hP1 hD1
  generalize H1 = H at hP hS ⊢
  have hP : va_P D vwCl (((((([(h0, .inr (2, [.int 2, .int 0, .ref a1, .ref a2, .int (-1), .int (-1), .long 0, .long 1, .ref a3, .ref a6, .null]))] ++ wMul ca a1) ++ [(a2, .inl (ca 0, 6, .inl fun _ => 0))]) ++ w_X1_5 ca a3 a4 a5) ++ w_X1_8 ca a6 a7 a8) ++ w_X1_8 ca a9 a10 a11)) H := hP
  have hD : va_D A (((((([(h0, .inr (2, [.int 2, .int 0, .ref a1, .ref a2, .int (-1), .int (-1), .long 0, .long 1, .ref a3, .ref a6, .null]))] ++ wMul ca a1) ++ [(a2, .inl (ca 0, 6, .inl fun _ => 0))]) ++ w_X1_5 ca a3 a4 a5) ++ w_X1_8 ca a6 a7 a8) ++ w_X1_8 ca a9 a10 a11)) := hD
  refine W.widen (k := 15) (n := 85) (by omega) (by omega) ?_
  refine va_putF (D := D) (ci := 2) (v := .ref a9) (ty := .object "PointShares$Rows") (C := RX2) (T := TX2) (N := 11) hx hb hts (by decide +kernel) tyX2 tyX2_ok nmX2 hown hK hP hD hS 0 rfl rfl 10 (by decide) (hts (.fieldLink RX2 46 "PointShares$Setup" "book" "LPointShares$Rows;") (by decide +kernel)) (fun _ h9 => h9) rfl hin rfl (by decide +kernel) rfl rfl (Nat.le_of_ble_eq_true rfl) dX2_init_78 (fun H locs hP hD hS => ?_)
  have hP : va_P D vwCl (((((([(h0, .inr (2, [.int 2, .int 0, .ref a1, .ref a2, .int (-1), .int (-1), .long 0, .long 1, .ref a3, .ref a6, .ref a9]))] ++ wMul ca a1) ++ [(a2, .inl (ca 0, 6, .inl fun _ => 0))]) ++ w_X1_5 ca a3 a4 a5) ++ w_X1_8 ca a6 a7 a8) ++ w_X1_8 ca a9 a10 a11)) H := hP
  have hD : va_D A (((((([(h0, .inr (2, [.int 2, .int 0, .ref a1, .ref a2, .int (-1), .int (-1), .long 0, .long 1, .ref a3, .ref a6, .ref a9]))] ++ wMul ca a1) ++ [(a2, .inl (ca 0, 6, .inl fun _ => 0))]) ++ w_X1_5 ca a3 a4 a5) ++ w_X1_8 ca a6 a7 a8) ++ w_X1_8 ca a9 a10 a11)) := hD
  exact W.vret hx hb hr (fun t ht hW => ⟨⟨(), rfl, trivial, a1, a2, a3, a4, a5, a6, a7, a8, a9, a10, a11, by rw [ht]; exact hP, va_K.moved hW.alike hK, hD⟩, hS.F ht⟩) hS.2.2 dX2_init_81
abbrev w_X0 (ca : Nat → ClassId) (h0 a1 : Nat) : va_W := [(h0, .inr (0, [.ref a1, .int 0, .int 0, .int 0, .int 0, .int 0, .long 0, .long 0, .long 0, .long 0])), (a1, .inl (ca 0, 6, .inl fun _ => 0))]
set_option maxHeartbeats 4000000 in
set_option maxRecDepth 100000 in
theorem c_X0 (l : Launch) (D : va_G) (ca : Nat → ClassId) (h0 : Nat) (sz : Nat) : Met l yX0_init wsX0_init ({ frames := 1, cells := 1, slots := 6, locals := 12 }) (va_Pc [.ref h0] (fun U => U.heap.size = sz ∧ va_P D vwCl [(h0, .inr (0, [.null, .int 0, .int 0, .int 0, .int 0, .int 0, .long 0, .long 0, .long 0, .long 0]))] U.heap ∧ va_K D vwCl (zTys ca) U ∧ va_D (fun _ => True) [(h0, .inr (0, [.null, .int 0, .int 0, .int 0, .int 0, .int 0, .long 0, .long 0, .long 0, .long 0]))] ∧ mkX U)) (va_Qv (fun _ : Unit => True) (fun _ t => ∃ a1 : Nat, va_P D vwCl (w_X0 ca h0 a1) t.heap ∧ va_K D vwCl (zTys ca) t ∧ va_D (va_A [(h0, .inr (0, [.null, .int 0, .int 0, .int 0, .int 0, .int 0, .long 0, .long 0, .long 0, .long 0]))] sz) (w_X0 ca h0 a1)) (va_A [(h0, .inr (0, [.null, .int 0, .int 0, .int 0, .int 0, .int 0, .long 0, .long 0, .long 0, .long 0]))] sz)) 1 6 (va_A [(h0, .inr (0, [.null, .int 0, .int 0, .int 0, .int 0, .int 0, .long 0, .long 0, .long 0, .long 0]))] sz) := by
  refine Met.ofW (cc := cX0_init) (maxL := 1) (ret := none) (by decide) rfl ?_
  intro p e s m args below meth c s₁ B hml hv
  obtain ⟨rfl, hsz, hP, hK, hD0, hX⟩ := hv
  have hx := B.exec
  have hb := B.bytes
  have hr := B.returns
  have hts := atoms_spec (ws := wsX0_init) B.pre
  have hown : s.vm.findClass RX0 = some m.cls := findClass_of_methodNamed B.named
  have hlocks := B.notSynchronized
  have hin : meth.name = "<init>" := (name_of_methodNamed B.named B.method).1
  subst hsz
  have hD := hD0.self (sz := s.heap.size)
  generalize hAe : va_A [(h0, .inr (0, [.null, .int 0, .int 0, .int 0, .int 0, .int 0, .long 0, .long 0, .long 0, .long 0]))] s.heap.size = A at hD ⊢
  have hA : ∀ q : Nat, s.heap.size ≤ q → A q := fun q h => by rw [← hAe]; exact Or.inr h
  have hS : va_S A s.heap s.heap [] := va_S.rf
  have hl := lv_entry ([.ref h0]) (n := 1) (Nat.le_of_ble_eq_true rfl)
  rw [lg_entry_eq]
  generalize (lg_sl ([.ref h0]) ++ List.replicate (1 - (lg_sl ([.ref h0])).length) Slot.unset).toArray = ls at hl ⊢
  have hl : lv_has ls 1 [(0, .ref h0)] := hl
  refine lv_aload_n hx hb dX0_init_0 rfl (lv_at hl 0 rfl) ?_
  refine W.objInit hx hb hown (hts (.methodLink RX0 3 objectInit) (by decide +kernel)) (hts (.instanceMethod objectInit) (by decide +kernel)) (hts _ (List.mem_of_getElem? (i := 3) rfl)) rfl (by rw [hml]; exact hl.1) rfl dX0_init_1 (Nat.le_of_ble_eq_true rfl) (Nat.le_of_ble_eq_true rfl) ?_
  refine W.eq (g2 := F0 m 4 ls []) rfl ?_
  refine lv_aload_n hx hb dX0_init_4 rfl (lv_at hl 0 rfl) ?_
  refine lv_bipush (v := 6) hx hb dX0_init_5 (by decide) ?_
  refine zn_newa (ca := ca) (atype := .int) hx hb (hts (.arrayClass .int) (by decide +kernel)) (ty := .int) (t := 0) rfl hK rfl (fun _ _ h1 h2 => Option.some.inj (h1.symm.trans h2)) hP hD hS hA (N' := 6) (a0 := (6, .inl fun _ => 0)) (fun _ => rfl) (by decide) (by decide) (by decide) (Nat.le_of_ble_eq_true rfl) (Nat.le_of_ble_eq_true rfl) dX0_init_7 (fun a1 H hP hD hS => ?_)
  have hP : va_P D vwCl ([(h0, .inr (0, [.null, .int 0, .int 0, .int 0, .int 0, .int 0, .long 0, .long 0, .long 0, .long 0])), (a1, .inl (ca 0, 6, .inl fun _ => 0))]) H := hP
  have hD : va_D A ([(h0, .inr (0, [.null, .int 0, .int 0, .int 0, .int 0, .int 0, .long 0, .long 0, .long 0, .long 0])), (a1, .inl (ca 0, 6, .inl fun _ => 0))]) := hD
  refine W.widen (k := 1) (n := 6) (by omega) (by omega) ?_
  refine va_putF (D := D) (ci := 0) (v := .ref a1) (ty := .array .int) (C := RX0) (T := TX0) (N := 10) hx hb hts (by decide +kernel) tyX0 tyX0_ok nmX0 hown hK hP hD hS 0 rfl rfl 0 (by decide) (hts (.fieldLink RX0 9 "PointShares$Adjustment" "owner" "[I") (by decide +kernel)) (fun _ h9 => h9) rfl hin rfl (by decide +kernel) rfl rfl (Nat.le_of_ble_eq_true rfl) dX0_init_9 (fun H locs hP hD hS => ?_)
  have hP : va_P D vwCl ([(h0, .inr (0, [.ref a1, .int 0, .int 0, .int 0, .int 0, .int 0, .long 0, .long 0, .long 0, .long 0])), (a1, .inl (ca 0, 6, .inl fun _ => 0))]) H := hP
  have hD : va_D A ([(h0, .inr (0, [.ref a1, .int 0, .int 0, .int 0, .int 0, .int 0, .long 0, .long 0, .long 0, .long 0])), (a1, .inl (ca 0, 6, .inl fun _ => 0))]) := hD
  exact W.vret hx hb hr (fun t ht hW => ⟨⟨(), rfl, trivial, a1, by rw [ht]; exact hP, va_K.moved hW.alike hK, hD⟩, hS.F ht⟩) hS.2.2 dX0_init_12
abbrev w_X5 (ca : Nat → ClassId) (h0 a1 a2 a3 a4 : Nat) : va_W := [(h0, .inr (5, [.null, .int 0, .int 0, .ref a1, .ref a2, .ref a3, .ref a4, .long 0, .long 0, .int 0])), (a1, .inl (ca 0, 6, .inl fun _ => 0)), (a2, .inl (ca 0, 4, .inl fun _ => 0)), (a3, .inl (ca 0, 4, .inl fun _ => 0)), (a4, .inl (ca 0, 6, .inl fun _ => 0))]
set_option maxHeartbeats 4000000 in
set_option maxRecDepth 100000 in
theorem c_X5 (l : Launch) (D : va_G) (ca : Nat → ClassId) (h0 : Nat) (sz : Nat) : Met l yX5_init wsX5_init ({ frames := 1, cells := 4, slots := 20, locals := 12 }) (va_Pc [.ref h0] (fun U => U.heap.size = sz ∧ va_P D vwCl [(h0, .inr (5, [.null, .int 0, .int 0, .null, .null, .null, .null, .long 0, .long 0, .int 0]))] U.heap ∧ va_K D vwCl (zTys ca) U ∧ va_D (fun _ => True) [(h0, .inr (5, [.null, .int 0, .int 0, .null, .null, .null, .null, .long 0, .long 0, .int 0]))] ∧ mkX U)) (va_Qv (fun _ : Unit => True) (fun _ t => ∃ a1 : Nat, ∃ a2 : Nat, ∃ a3 : Nat, ∃ a4 : Nat, va_P D vwCl (w_X5 ca h0 a1 a2 a3 a4) t.heap ∧ va_K D vwCl (zTys ca) t ∧ va_D (va_A [(h0, .inr (5, [.null, .int 0, .int 0, .null, .null, .null, .null, .long 0, .long 0, .int 0]))] sz) (w_X5 ca h0 a1 a2 a3 a4)) (va_A [(h0, .inr (5, [.null, .int 0, .int 0, .null, .null, .null, .null, .long 0, .long 0, .int 0]))] sz)) 4 20 (va_A [(h0, .inr (5, [.null, .int 0, .int 0, .null, .null, .null, .null, .long 0, .long 0, .int 0]))] sz) := by
  refine Met.ofW (cc := cX5_init) (maxL := 1) (ret := none) (by decide) rfl ?_
  intro p e s m args below meth c s₁ B hml hv
  obtain ⟨rfl, hsz, hP, hK, hD0, hX⟩ := hv
  have hx := B.exec
  have hb := B.bytes
  have hr := B.returns
  have hts := atoms_spec (ws := wsX5_init) B.pre
  have hown : s.vm.findClass RX5 = some m.cls := findClass_of_methodNamed B.named
  have hlocks := B.notSynchronized
  have hin : meth.name = "<init>" := (name_of_methodNamed B.named B.method).1
  subst hsz
  have hD := hD0.self (sz := s.heap.size)
  generalize hAe : va_A [(h0, .inr (5, [.null, .int 0, .int 0, .null, .null, .null, .null, .long 0, .long 0, .int 0]))] s.heap.size = A at hD ⊢
  have hA : ∀ q : Nat, s.heap.size ≤ q → A q := fun q h => by rw [← hAe]; exact Or.inr h
  have hS : va_S A s.heap s.heap [] := va_S.rf
  have hl := lv_entry ([.ref h0]) (n := 1) (Nat.le_of_ble_eq_true rfl)
  rw [lg_entry_eq]
  generalize (lg_sl ([.ref h0]) ++ List.replicate (1 - (lg_sl ([.ref h0])).length) Slot.unset).toArray = ls at hl ⊢
  have hl : lv_has ls 1 [(0, .ref h0)] := hl
  refine lv_aload_n hx hb dX5_init_0 rfl (lv_at hl 0 rfl) ?_
  refine W.objInit hx hb hown (hts (.methodLink RX5 3 objectInit) (by decide +kernel)) (hts (.instanceMethod objectInit) (by decide +kernel)) (hts _ (List.mem_of_getElem? (i := 3) rfl)) rfl (by rw [hml]; exact hl.1) rfl dX5_init_1 (Nat.le_of_ble_eq_true rfl) (Nat.le_of_ble_eq_true rfl) ?_
  refine W.eq (g2 := F0 m 4 ls []) rfl ?_
  refine lv_aload_n hx hb dX5_init_4 rfl (lv_at hl 0 rfl) ?_
  refine lv_bipush (v := 6) hx hb dX5_init_5 (by decide) ?_
  refine zn_newa (ca := ca) (atype := .int) hx hb (hts (.arrayClass .int) (by decide +kernel)) (ty := .int) (t := 0) rfl hK rfl (fun _ _ h1 h2 => Option.some.inj (h1.symm.trans h2)) hP hD hS hA (N' := 6) (a0 := (6, .inl fun _ => 0)) (fun _ => rfl) (by decide) (by decide) (by decide) (Nat.le_of_ble_eq_true rfl) (Nat.le_of_ble_eq_true rfl) dX5_init_7 (fun a1 H hP hD hS => ?_)
  have hP : va_P D vwCl ([(h0, .inr (5, [.null, .int 0, .int 0, .null, .null, .null, .null, .long 0, .long 0, .int 0])), (a1, .inl (ca 0, 6, .inl fun _ => 0))]) H := hP
  have hD : va_D A ([(h0, .inr (5, [.null, .int 0, .int 0, .null, .null, .null, .null, .long 0, .long 0, .int 0])), (a1, .inl (ca 0, 6, .inl fun _ => 0))]) := hD
  refine W.widen (k := 1) (n := 6) (by omega) (by omega) ?_
  refine va_putF (D := D) (ci := 5) (v := .ref a1) (ty := .array .int) (C := RX5) (T := TX5) (N := 10) hx hb hts (by decide +kernel) tyX5 tyX5_ok nmX5 hown hK hP hD hS 0 rfl rfl 3 (by decide) (hts (.fieldLink RX5 9 "PointShares$WholeWays" "given" "[I") (by decide +kernel)) (fun _ h9 => h9) rfl hin rfl (by decide +kernel) rfl rfl (Nat.le_of_ble_eq_true rfl) dX5_init_9 (fun H locs hP hD hS => ?_)
  have hP : va_P D vwCl ([(h0, .inr (5, [.null, .int 0, .int 0, .ref a1, .null, .null, .null, .long 0, .long 0, .int 0])), (a1, .inl (ca 0, 6, .inl fun _ => 0))]) H := hP
  have hD : va_D A ([(h0, .inr (5, [.null, .int 0, .int 0, .ref a1, .null, .null, .null, .long 0, .long 0, .int 0])), (a1, .inl (ca 0, 6, .inl fun _ => 0))]) := hD
  refine lv_aload_n hx hb dX5_init_12 rfl (lv_at hl 0 rfl) ?_
  refine lv_iconst (v := 4) hx hb dX5_init_13 (by decide) ?_
  refine zn_newa (ca := ca) (atype := .int) hx hb (hts (.arrayClass .int) (by decide +kernel)) (ty := .int) (t := 0) rfl hK rfl (fun _ _ h1 h2 => Option.some.inj (h1.symm.trans h2)) hP hD hS hA (N' := 4) (a0 := (4, .inl fun _ => 0)) (fun _ => rfl) (by decide) (by decide) (by decide) (Nat.le_of_ble_eq_true rfl) (Nat.le_of_ble_eq_true rfl) dX5_init_14 (fun a2 H hP hD hS => ?_)
  have hP : va_P D vwCl ([(h0, .inr (5, [.null, .int 0, .int 0, .ref a1, .null, .null, .null, .long 0, .long 0, .int 0])), (a1, .inl (ca 0, 6, .inl fun _ => 0)), (a2, .inl (ca 0, 4, .inl fun _ => 0))]) H := hP
  have hD : va_D A ([(h0, .inr (5, [.null, .int 0, .int 0, .ref a1, .null, .null, .null, .long 0, .long 0, .int 0])), (a1, .inl (ca 0, 6, .inl fun _ => 0)), (a2, .inl (ca 0, 4, .inl fun _ => 0))]) := hD
  refine W.widen (k := 2) (n := 10) (by omega) (by omega) ?_
  refine va_putF (D := D) (ci := 5) (v := .ref a2) (ty := .array .int) (C := RX5) (T := TX5) (N := 10) hx hb hts (by decide +kernel) tyX5 tyX5_ok nmX5 hown hK hP hD hS 0 rfl rfl 4 (by decide) (hts (.fieldLink RX5 15 "PointShares$WholeWays" "total" "[I") (by decide +kernel)) (fun _ h9 => h9) rfl hin rfl (by decide +kernel) rfl rfl (Nat.le_of_ble_eq_true rfl) dX5_init_16 (fun H locs hP hD hS => ?_)
  have hP : va_P D vwCl ([(h0, .inr (5, [.null, .int 0, .int 0, .ref a1, .ref a2, .null, .null, .long 0, .long 0, .int 0])), (a1, .inl (ca 0, 6, .inl fun _ => 0)), (a2, .inl (ca 0, 4, .inl fun _ => 0))]) H := hP
  have hD : va_D A ([(h0, .inr (5, [.null, .int 0, .int 0, .ref a1, .ref a2, .null, .null, .long 0, .long 0, .int 0])), (a1, .inl (ca 0, 6, .inl fun _ => 0)), (a2, .inl (ca 0, 4, .inl fun _ => 0))]) := hD
  refine lv_aload_n hx hb dX5_init_19 rfl (lv_at hl 0 rfl) ?_
  refine lv_iconst (v := 4) hx hb dX5_init_20 (by decide) ?_
  refine zn_newa (ca := ca) (atype := .int) hx hb (hts (.arrayClass .int) (by decide +kernel)) (ty := .int) (t := 0) rfl hK rfl (fun _ _ h1 h2 => Option.some.inj (h1.symm.trans h2)) hP hD hS hA (N' := 4) (a0 := (4, .inl fun _ => 0)) (fun _ => rfl) (by decide) (by decide) (by decide) (Nat.le_of_ble_eq_true rfl) (Nat.le_of_ble_eq_true rfl) dX5_init_21 (fun a3 H hP hD hS => ?_)
  have hP : va_P D vwCl ([(h0, .inr (5, [.null, .int 0, .int 0, .ref a1, .ref a2, .null, .null, .long 0, .long 0, .int 0])), (a1, .inl (ca 0, 6, .inl fun _ => 0)), (a2, .inl (ca 0, 4, .inl fun _ => 0)), (a3, .inl (ca 0, 4, .inl fun _ => 0))]) H := hP
  have hD : va_D A ([(h0, .inr (5, [.null, .int 0, .int 0, .ref a1, .ref a2, .null, .null, .long 0, .long 0, .int 0])), (a1, .inl (ca 0, 6, .inl fun _ => 0)), (a2, .inl (ca 0, 4, .inl fun _ => 0)), (a3, .inl (ca 0, 4, .inl fun _ => 0))]) := hD
  refine W.widen (k := 3) (n := 14) (by omega) (by omega) ?_
  refine va_putF (D := D) (ci := 5) (v := .ref a3) (ty := .array .int) (C := RX5) (T := TX5) (N := 10) hx hb hts (by decide +kernel) tyX5 tyX5_ok nmX5 hown hK hP hD hS 0 rfl rfl 5 (by decide) (hts (.fieldLink RX5 18 "PointShares$WholeWays" "reach" "[I") (by decide +kernel)) (fun _ h9 => h9) rfl hin rfl (by decide +kernel) rfl rfl (Nat.le_of_ble_eq_true rfl) dX5_init_23 (fun H locs hP hD hS => ?_)
  have hP : va_P D vwCl ([(h0, .inr (5, [.null, .int 0, .int 0, .ref a1, .ref a2, .ref a3, .null, .long 0, .long 0, .int 0])), (a1, .inl (ca 0, 6, .inl fun _ => 0)), (a2, .inl (ca 0, 4, .inl fun _ => 0)), (a3, .inl (ca 0, 4, .inl fun _ => 0))]) H := hP
  have hD : va_D A ([(h0, .inr (5, [.null, .int 0, .int 0, .ref a1, .ref a2, .ref a3, .null, .long 0, .long 0, .int 0])), (a1, .inl (ca 0, 6, .inl fun _ => 0)), (a2, .inl (ca 0, 4, .inl fun _ => 0)), (a3, .inl (ca 0, 4, .inl fun _ => 0))]) := hD
  refine lv_aload_n hx hb dX5_init_26 rfl (lv_at hl 0 rfl) ?_
  refine lv_bipush (v := 6) hx hb dX5_init_27 (by decide) ?_
  refine zn_newa (ca := ca) (atype := .int) hx hb (hts (.arrayClass .int) (by decide +kernel)) (ty := .int) (t := 0) rfl hK rfl (fun _ _ h1 h2 => Option.some.inj (h1.symm.trans h2)) hP hD hS hA (N' := 6) (a0 := (6, .inl fun _ => 0)) (fun _ => rfl) (by decide) (by decide) (by decide) (Nat.le_of_ble_eq_true rfl) (Nat.le_of_ble_eq_true rfl) dX5_init_29 (fun a4 H hP hD hS => ?_)
  have hP : va_P D vwCl ([(h0, .inr (5, [.null, .int 0, .int 0, .ref a1, .ref a2, .ref a3, .null, .long 0, .long 0, .int 0])), (a1, .inl (ca 0, 6, .inl fun _ => 0)), (a2, .inl (ca 0, 4, .inl fun _ => 0)), (a3, .inl (ca 0, 4, .inl fun _ => 0)), (a4, .inl (ca 0, 6, .inl fun _ => 0))]) H := hP
  have hD : va_D A ([(h0, .inr (5, [.null, .int 0, .int 0, .ref a1, .ref a2, .ref a3, .null, .long 0, .long 0, .int 0])), (a1, .inl (ca 0, 6, .inl fun _ => 0)), (a2, .inl (ca 0, 4, .inl fun _ => 0)), (a3, .inl (ca 0, 4, .inl fun _ => 0)), (a4, .inl (ca 0, 6, .inl fun _ => 0))]) := hD
  refine W.widen (k := 4) (n := 20) (by omega) (by omega) ?_
  refine va_putF (D := D) (ci := 5) (v := .ref a4) (ty := .array .int) (C := RX5) (T := TX5) (N := 10) hx hb hts (by decide +kernel) tyX5 tyX5_ok nmX5 hown hK hP hD hS 0 rfl rfl 6 (by decide) (hts (.fieldLink RX5 21 "PointShares$WholeWays" "best" "[I") (by decide +kernel)) (fun _ h9 => h9) rfl hin rfl (by decide +kernel) rfl rfl (Nat.le_of_ble_eq_true rfl) dX5_init_31 (fun H locs hP hD hS => ?_)
  have hP : va_P D vwCl ([(h0, .inr (5, [.null, .int 0, .int 0, .ref a1, .ref a2, .ref a3, .ref a4, .long 0, .long 0, .int 0])), (a1, .inl (ca 0, 6, .inl fun _ => 0)), (a2, .inl (ca 0, 4, .inl fun _ => 0)), (a3, .inl (ca 0, 4, .inl fun _ => 0)), (a4, .inl (ca 0, 6, .inl fun _ => 0))]) H := hP
  have hD : va_D A ([(h0, .inr (5, [.null, .int 0, .int 0, .ref a1, .ref a2, .ref a3, .ref a4, .long 0, .long 0, .int 0])), (a1, .inl (ca 0, 6, .inl fun _ => 0)), (a2, .inl (ca 0, 4, .inl fun _ => 0)), (a3, .inl (ca 0, 4, .inl fun _ => 0)), (a4, .inl (ca 0, 6, .inl fun _ => 0))]) := hD
  exact W.vret hx hb hr (fun t ht hW => ⟨⟨(), rfl, trivial, a1, a2, a3, a4, by rw [ht]; exact hP, va_K.moved hW.alike hK, hD⟩, hS.F ht⟩) hS.2.2 dX5_init_34
abbrev w_X4 (ca : Nat → ClassId) (h0 a1 : Nat) : va_W := [(h0, .inr (4, [.ref a1, .int 0])), (a1, .inl (ca 2, 100, .inl fun _ => 0))]
set_option maxHeartbeats 4000000 in
set_option maxRecDepth 100000 in
theorem c_X4 (l : Launch) (D : va_G) (ca : Nat → ClassId) (h0 : Nat) (sz : Nat) : Met l yX4_init wsX4_init ({ frames := 1, cells := 1, slots := 100, locals := 12 }) (va_Pc [.ref h0] (fun U => U.heap.size = sz ∧ va_P D vwCl [(h0, .inr (4, [.null, .int 0]))] U.heap ∧ va_K D vwCl (zTys ca) U ∧ va_D (fun _ => True) [(h0, .inr (4, [.null, .int 0]))] ∧ mkX U)) (va_Qv (fun _ : Unit => True) (fun _ t => ∃ a1 : Nat, va_P D vwCl (w_X4 ca h0 a1) t.heap ∧ va_K D vwCl (zTys ca) t ∧ va_D (va_A [(h0, .inr (4, [.null, .int 0]))] sz) (w_X4 ca h0 a1)) (va_A [(h0, .inr (4, [.null, .int 0]))] sz)) 1 100 (va_A [(h0, .inr (4, [.null, .int 0]))] sz) := by
  refine Met.ofW (cc := cX4_init) (maxL := 1) (ret := none) (by decide) rfl ?_
  intro p e s m args below meth c s₁ B hml hv
  obtain ⟨rfl, hsz, hP, hK, hD0, hX⟩ := hv
  have hx := B.exec
  have hb := B.bytes
  have hr := B.returns
  have hts := atoms_spec (ws := wsX4_init) B.pre
  have hown : s.vm.findClass RX4 = some m.cls := findClass_of_methodNamed B.named
  have hlocks := B.notSynchronized
  have hin : meth.name = "<init>" := (name_of_methodNamed B.named B.method).1
  subst hsz
  have hD := hD0.self (sz := s.heap.size)
  generalize hAe : va_A [(h0, .inr (4, [.null, .int 0]))] s.heap.size = A at hD ⊢
  have hA : ∀ q : Nat, s.heap.size ≤ q → A q := fun q h => by rw [← hAe]; exact Or.inr h
  have hS : va_S A s.heap s.heap [] := va_S.rf
  have hl := lv_entry ([.ref h0]) (n := 1) (Nat.le_of_ble_eq_true rfl)
  rw [lg_entry_eq]
  generalize (lg_sl ([.ref h0]) ++ List.replicate (1 - (lg_sl ([.ref h0])).length) Slot.unset).toArray = ls at hl ⊢
  have hl : lv_has ls 1 [(0, .ref h0)] := hl
  refine lv_aload_n hx hb dX4_init_0 rfl (lv_at hl 0 rfl) ?_
  refine W.objInit hx hb hown (hts (.methodLink RX4 3 objectInit) (by decide +kernel)) (hts (.instanceMethod objectInit) (by decide +kernel)) (hts _ (List.mem_of_getElem? (i := 3) rfl)) rfl (by rw [hml]; exact hl.1) rfl dX4_init_1 (Nat.le_of_ble_eq_true rfl) (Nat.le_of_ble_eq_true rfl) ?_
  refine W.eq (g2 := F0 m 4 ls []) rfl ?_
  refine lv_aload_n hx hb dX4_init_4 rfl (lv_at hl 0 rfl) ?_
  refine lv_bipush (v := 100) hx hb dX4_init_5 (by decide) ?_
  refine zn_newa (ca := ca) (atype := .byte) hx hb (hts (.arrayClass .byte) (by decide +kernel)) (ty := .byte) (t := 2) rfl hK rfl (fun _ _ h1 h2 => Option.some.inj (h1.symm.trans h2)) hP hD hS hA (N' := 100) (a0 := (100, .inl fun _ => 0)) (fun _ => rfl) (by decide) (by decide) (by decide) (Nat.le_of_ble_eq_true rfl) (Nat.le_of_ble_eq_true rfl) dX4_init_7 (fun a1 H hP hD hS => ?_)
  have hP : va_P D vwCl ([(h0, .inr (4, [.null, .int 0])), (a1, .inl (ca 2, 100, .inl fun _ => 0))]) H := hP
  have hD : va_D A ([(h0, .inr (4, [.null, .int 0])), (a1, .inl (ca 2, 100, .inl fun _ => 0))]) := hD
  refine W.widen (k := 1) (n := 100) (by omega) (by omega) ?_
  refine va_putF (D := D) (ci := 4) (v := .ref a1) (ty := .array .byte) (C := RX4) (T := TX4) (N := 2) hx hb hts (by decide +kernel) tyX4 tyX4_ok nmX4 hown hK hP hD hS 0 rfl rfl 0 (by decide) (hts (.fieldLink RX4 9 "PointShares$Text" "signs" "[B") (by decide +kernel)) (fun _ h9 => h9) rfl hin rfl (by decide +kernel) rfl rfl (Nat.le_of_ble_eq_true rfl) dX4_init_9 (fun H locs hP hD hS => ?_)
  have hP : va_P D vwCl ([(h0, .inr (4, [.ref a1, .int 0])), (a1, .inl (ca 2, 100, .inl fun _ => 0))]) H := hP
  have hD : va_D A ([(h0, .inr (4, [.ref a1, .int 0])), (a1, .inl (ca 2, 100, .inl fun _ => 0))]) := hD
  exact W.vret hx hb hr (fun t ht hW => ⟨⟨(), rfl, trivial, a1, by rw [ht]; exact hP, va_K.moved hW.alike hK, hD⟩, hS.F ht⟩) hS.2.2 dX4_init_12
abbrev w_X3 (ca : Nat → ClassId) (h0 a1 : Nat) : va_W := [(h0, .inr (3, [.int (-1), .int 0, .ref a1])), (a1, .inl (ca 1, 60, .inr (.inl fun _ => 0)))]
set_option maxHeartbeats 4000000 in
set_option maxRecDepth 100000 in
theorem c_X3 (l : Launch) (D : va_G) (ca : Nat → ClassId) (h0 : Nat) (sz : Nat) : Met l yX3_init wsX3_init ({ frames := 1, cells := 1, slots := 60, locals := 12 }) (va_Pc [.ref h0] (fun U => U.heap.size = sz ∧ va_P D vwCl [(h0, .inr (3, [.int 0, .int 0, .null]))] U.heap ∧ va_K D vwCl (zTys ca) U ∧ va_D (fun _ => True) [(h0, .inr (3, [.int 0, .int 0, .null]))] ∧ mkX U)) (va_Qv (fun _ : Unit => True) (fun _ t => ∃ a1 : Nat, va_P D vwCl (w_X3 ca h0 a1) t.heap ∧ va_K D vwCl (zTys ca) t ∧ va_D (va_A [(h0, .inr (3, [.int 0, .int 0, .null]))] sz) (w_X3 ca h0 a1)) (va_A [(h0, .inr (3, [.int 0, .int 0, .null]))] sz)) 1 60 (va_A [(h0, .inr (3, [.int 0, .int 0, .null]))] sz) := by
  refine Met.ofW (cc := cX3_init) (maxL := 1) (ret := none) (by decide) rfl ?_
  intro p e s m args below meth c s₁ B hml hv
  obtain ⟨rfl, hsz, hP, hK, hD0, hX⟩ := hv
  have hx := B.exec
  have hb := B.bytes
  have hr := B.returns
  have hts := atoms_spec (ws := wsX3_init) B.pre
  have hown : s.vm.findClass RX3 = some m.cls := findClass_of_methodNamed B.named
  have hlocks := B.notSynchronized
  have hin : meth.name = "<init>" := (name_of_methodNamed B.named B.method).1
  subst hsz
  have hD := hD0.self (sz := s.heap.size)
  generalize hAe : va_A [(h0, .inr (3, [.int 0, .int 0, .null]))] s.heap.size = A at hD ⊢
  have hA : ∀ q : Nat, s.heap.size ≤ q → A q := fun q h => by rw [← hAe]; exact Or.inr h
  have hS : va_S A s.heap s.heap [] := va_S.rf
  have hl := lv_entry ([.ref h0]) (n := 1) (Nat.le_of_ble_eq_true rfl)
  rw [lg_entry_eq]
  generalize (lg_sl ([.ref h0]) ++ List.replicate (1 - (lg_sl ([.ref h0])).length) Slot.unset).toArray = ls at hl ⊢
  have hl : lv_has ls 1 [(0, .ref h0)] := hl
  refine lv_aload_n hx hb dX3_init_0 rfl (lv_at hl 0 rfl) ?_
  refine W.objInit hx hb hown (hts (.methodLink RX3 3 objectInit) (by decide +kernel)) (hts (.instanceMethod objectInit) (by decide +kernel)) (hts _ (List.mem_of_getElem? (i := 3) rfl)) rfl (by rw [hml]; exact hl.1) rfl dX3_init_1 (Nat.le_of_ble_eq_true rfl) (Nat.le_of_ble_eq_true rfl) ?_
  refine W.eq (g2 := F0 m 4 ls []) rfl ?_
  refine lv_aload_n hx hb dX3_init_4 rfl (lv_at hl 0 rfl) ?_
  refine lv_iconst (v := (-1)) hx hb dX3_init_5 (by decide) ?_
  refine va_put (D := D) (ci := 3) (v := .int (-1)) (ty := .int) (C := RX3) (T := TX3) (N := 3) hx hb hts (by decide +kernel) tyX3 tyX3_ok nmX3 hown hK hP hD hS 0 rfl rfl 0 (by decide) (hts (.fieldLink RX3 9 "PointShares$Tape" "sort" "I") (by decide +kernel)) (fun _ h9 => h9) rfl (by decide +kernel) rfl rfl (Nat.le_of_ble_eq_true rfl) dX3_init_6 (fun H locs hP hD hS => ?_)
  have hP : va_P D vwCl ([(h0, .inr (3, [.int (-1), .int 0, .null]))]) H := hP
  have hD : va_D A ([(h0, .inr (3, [.int (-1), .int 0, .null]))]) := hD
  refine lv_aload_n hx hb dX3_init_9 rfl (lv_at hl 0 rfl) ?_
  refine lv_bipush (v := 60) hx hb dX3_init_10 (by decide) ?_
  refine zn_newa (ca := ca) (atype := .long) hx hb (hts (.arrayClass .long) (by decide +kernel)) (ty := .long) (t := 1) rfl hK rfl (fun _ _ h1 h2 => Option.some.inj (h1.symm.trans h2)) hP hD hS hA (N' := 60) (a0 := (60, .inr (.inl fun _ => 0))) (fun _ => rfl) (by decide) (by decide) (by decide) (Nat.le_of_ble_eq_true rfl) (Nat.le_of_ble_eq_true rfl) dX3_init_12 (fun a1 H hP hD hS => ?_)
  have hP : va_P D vwCl ([(h0, .inr (3, [.int (-1), .int 0, .null])), (a1, .inl (ca 1, 60, .inr (.inl fun _ => 0)))]) H := hP
  have hD : va_D A ([(h0, .inr (3, [.int (-1), .int 0, .null])), (a1, .inl (ca 1, 60, .inr (.inl fun _ => 0)))]) := hD
  refine W.widen (k := 1) (n := 60) (by omega) (by omega) ?_
  refine va_putF (D := D) (ci := 3) (v := .ref a1) (ty := .array .long) (C := RX3) (T := TX3) (N := 3) hx hb hts (by decide +kernel) tyX3 tyX3_ok nmX3 hown hK hP hD hS 0 rfl rfl 2 (by decide) (hts (.fieldLink RX3 15 "PointShares$Tape" "items" "[J") (by decide +kernel)) (fun _ h9 => h9) rfl hin rfl (by decide +kernel) rfl rfl (Nat.le_of_ble_eq_true rfl) dX3_init_14 (fun H locs hP hD hS => ?_)
  have hP : va_P D vwCl ([(h0, .inr (3, [.int (-1), .int 0, .ref a1])), (a1, .inl (ca 1, 60, .inr (.inl fun _ => 0)))]) H := hP
  have hD : va_D A ([(h0, .inr (3, [.int (-1), .int 0, .ref a1])), (a1, .inl (ca 1, 60, .inr (.inl fun _ => 0)))]) := hD
  exact W.vret hx hb hr (fun t ht hW => ⟨⟨(), rfl, trivial, a1, by rw [ht]; exact hP, va_K.moved hW.alike hK, hD⟩, hS.F ht⟩) hS.2.2 dX3_init_17
