/-! rows that make arrays of the known types -/
section ZN
variable {p : Program} {l : Launch} {e : Env} {R : Room} {s : State} {m : MethodId} {args : Array Value} {below : List Frame} {meth : Method} {c : Code} {H : Heap} {locs : List Loc} {cells slots : Nat} {Q : State → Prop}
variable {cc : ByteArray} {pc : Nat} {ls : Array Slot} {rest : List Value} {D : va_G} {A : Nat → Prop} {ws : va_W} {H0 : Heap} {ca : Nat → ClassId}
theorem zn_newa (hexec : p.tables.exec = Jvm.exec) (hb : c.code = cc) {atype : ArrayType} (harr : (Cond.arrayClass (newarray.typeOf atype)).before args s = true) {ty : FieldType} {t : Nat} (hty : newarray.typeOf atype = ty) (hK : va_K D vwCl (zTys ca) s) (ht : (zTys ca)[t]? = some (ca t, ty)) (hu : ∀ c1 c2 : ClassId, va_RA s c1 ty → va_RA s c2 ty → c1 = c2) (hP : va_P D vwCl ws H) (hD : va_D A ws) (hS : va_S A H0 H locs) (hA : ∀ q, H0.size ≤ q → A q)
    {n : Int32} {N' : Nat} {a0 : vp_A} (ha : ∀ cA : ClassId, vp_cell cA a0 = arrV cA N' (fun _ => defaultValue ty)) (hn : ¬ n < 0) (hN : n.toNatClampNeg = N') (hbytes : N' * componentBytes ty ≤ 536870912) (hcells : cells + 1 ≤ R.cells) (hslots : slots + N' ≤ R.slots) (hdg : decode cc pc = .ok (.newarray atype, 2))
    (kk : ∀ (q : Nat) (H1 : Heap), va_P D vwCl (ws ++ [(q, .inl (ca t, a0))]) H1 → va_D A (ws ++ [(q, .inl (ca t, a0))]) → va_S A H0 H1 locs →
      W p l e R s m args below meth c H1 locs (cells + 1) (slots + N') Q (F0 m (pc + 2) ls (.ref q :: rest))) : W p l e R s m args below meth c H locs cells slots Q (F0 m pc ls (.int n :: rest)) := by
  refine va_newa hexec hb harr hty hK hP hD hS hA ha hn hN hbytes hcells hslots hdg (fun q cA H1 hK1 hP1 hD1 hS1 => ?_)
  have h6 : (zTys ca ++ [(cA, ty)])[6]? = some (cA, ty) := rfl
  have e : cA = ca t := hu _ _ (hK1.2 6 _ h6).2 (hK.2 t _ ht).2
  subst e
  exact kk q H1 hP1 hD1 hS1
theorem outC_arr (cA : ClassId) (h : Nat) : outC cA h 4 = vp_cell cA (4, .inr (.inr (.inr (.inr fun j => some (h + 1 + j))))) := by
  rw [vp_cell_q]
  unfold outC arrV
  congr 1
theorem rowC_arr (cB : ClassId) : rowC cB = vp_cell cB (6, .inl fun _ => 0) := by
  rw [vp_cell_i]
  exact arrV_new cB 6 (.int 0)
def wMul (ca : Nat → ClassId) (q : Nat) : va_W := [(q, .inl (ca 4, 4, .inr (.inr (.inr (.inr fun j => some (q + 1 + j)))))), (q + 1, .inl (ca 0, 6, .inl fun _ => 0)), (q + 2, .inl (ca 0, 6, .inl fun _ => 0)), (q + 3, .inl (ca 0, 6, .inl fun _ => 0)), (q + 4, .inl (ca 0, 6, .inl fun _ => 0))]
theorem zn_multi (hexec : p.tables.exec = Jvm.exec) (hb : c.code = cc) {own : String} {index : Nat} (hown : s.vm.findClass own = some m.cls) (hclink : (Cond.classLink own index "[[I").before args s = true) (hover : zAO s) (harr : (Cond.arrayClass .int).before args s = true) (hK : va_K D vwCl (zTys ca) s) (hP : va_P D vwCl ws H) (hD : va_D A ws) (hS : va_S A H0 H locs) (hA : ∀ q, H0.size ≤ q → A q) (hcells : cells + 5 ≤ R.cells) (hslots : slots + 28 ≤ R.slots) (hdg : decode cc pc = .ok (.multianewarray index 2, 4))
    (kk : ∀ (q : Nat) (H1 : Heap), va_P D vwCl (ws ++ wMul ca q) H1 → va_D A (ws ++ wMul ca q) → va_S A H0 H1 locs → W p l e R s m args below meth c H1 locs (cells + 5) (slots + 28) Q (F0 m (pc + 4) ls (.ref q :: rest))) : W p l e R s m args below meth c H locs cells slots Q (F0 m pc ls (.int 6 :: .int 4 :: rest)) := by
  refine w_multi hexec hb hown hclink hover harr hdg hcells hslots (fun H1 cA cB hcA hcB z o e0 er => ?_)
  have hA4 : s.vm.findClass "[[I" = some (ca 4) := (hK.2 4 _ rfl).2
  have hB0 : s.vm.findClass "[I" = some (ca 0) := (hK.2 0 _ rfl).2
  have eA : cA = ca 4 := Option.some.inj (hcA.symm.trans hA4)
  have eB : cB = ca 0 := Option.some.inj (hcB.symm.trans hB0)
  subst eA
  subst eB
  have hlt : ∀ (k : Nat) (x : Nat × va_E), ws[k]? = some x → x.1 < H.size := fun k x hx => (hP k x hx).lt
  have hP1 : va_P D vwCl ws H1 := hP.kept (fun k x hx => o x.1 (hlt k x hx))
  have hnew : ∀ (k : Nat) (x : Nat × va_E), (wMul ca H.size)[k]? = some x → k < 5 ∧ x.1 = H.size + k ∧ va_at D vwCl x H1 := by
    intro k x hx
    have hk : k < 5 := (List.getElem?_eq_some_iff.mp hx).1
    rcases (show k = 0 ∨ k = 1 ∨ k = 2 ∨ k = 3 ∨ k = 4 by omega) with rfl | rfl | rfl | rfl | rfl
    · cases hx
      exact ⟨hk, rfl, by show H1[H.size]? = some (vp_cell _ _); rw [e0, outC_arr]⟩
    · cases hx
      exact ⟨hk, rfl, by show H1[H.size + 1]? = some (vp_cell _ _); rw [← rowC_arr]; exact er 0 (by omega)⟩
    · cases hx
      exact ⟨hk, rfl, by show H1[H.size + 2]? = some (vp_cell _ _); rw [← rowC_arr]; exact er 1 (by omega)⟩
    · cases hx
      exact ⟨hk, rfl, by show H1[H.size + 3]? = some (vp_cell _ _); rw [← rowC_arr]; exact er 2 (by omega)⟩
    · cases hx
      exact ⟨hk, rfl, by show H1[H.size + 4]? = some (vp_cell _ _); rw [← rowC_arr]; exact er 3 (by omega)⟩
  have key : ∀ (k : Nat) (x : Nat × va_E), (ws ++ wMul ca H.size)[k]? = some x → (ws[k]? = some x ∧ x.1 < H.size) ∨ (ws.length ≤ k ∧ x.1 = H.size + (k - ws.length)) := by
    intro k x hx
    by_cases hl : k < ws.length
    · rw [List.getElem?_append_left hl] at hx
      exact Or.inl ⟨hx, hlt k x hx⟩
    · rw [List.getElem?_append_right (by omega)] at hx
      exact Or.inr ⟨by omega, (hnew _ x hx).2.1⟩
  refine kk H.size H1 (hP1.app (fun k x hx => (hnew k x hx).2.2)) ⟨fun i j x y hx hy hxy => ?_, fun k x hx => ?_⟩ ⟨Nat.le_trans hS.1 (by omega), fun x h1 h2 => (o x (Nat.lt_of_lt_of_le h1 hS.1)).trans (hS.2.1 x h1 h2), hS.2.2⟩
  · rcases key i x hx with ⟨a1, a2⟩ | ⟨a1, a2⟩
    · rcases key j y hy with ⟨b1, b2⟩ | ⟨b1, b2⟩
      · exact hD.1 i j x y a1 b1 hxy
      · omega
    · rcases key j y hy with ⟨b1, b2⟩ | ⟨b1, b2⟩
      · omega
      · omega
  · rcases key k x hx with ⟨a1, a2⟩ | ⟨a1, a2⟩
    · exact hD.2 k x a1
    · rw [a2]
      have := hS.1
      exact hA _ (by omega)
end ZN
