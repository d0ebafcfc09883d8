section MW
variable {p : Program} {l : Launch} {e : Env} {R : Room} {s : State} {m : MethodId} {args : Array Value} {below : List Frame} {meth : Method} {c : Code} {T : State} {locs : List Loc} {cells slots : Nat} {Q : State → Prop} {H : Heap}
theorem mn_stand (X : Stand p l e R s m args below meth c T locs cells slots) (cA cB : ClassId) : ∀ i : Nat, i ≤ 4 → Stand p l e R s m args below meth c (mnS T cA cB i) locs (cells + 1 + i) (slots + 4 + 6 * i) := by
  intro i
  induction i with
  | zero =>
    intro _
    have h := X.pushed (outC cA T.heap.size 0)
    rw [show (outC cA T.heap.size 0).slots.size = 4 from rfl] at h
    exact h
  | succ i ih =>
    intro hi
    have Xi := ih (by omega)
    obtain ⟨a, b, k, u, o, r⟩ := mnS_f T cA cB i (by omega)
    have hlt : T.heap.size < (mnS T cA cB i).heap.size := by omega
    have hcell : ((mnS T cA cB i).pushCell (rowC cB)).heap[T.heap.size]? = some (outC cA T.heap.size i) := by rw [State.heap_pushCell_of_lt (h := hlt)]; exact b
    have h := (Xi.pushed (rowC cB)).stored hcell i (.ref (T.heap.size + 1 + i))
    rw [outC_s cA T.heap.size (by omega), show (rowC cB).slots.size = 6 by simp [rowC]] at h
    have h2 := Stand.dropFresh (J := [⟨T.heap.size, i⟩]) h (fun x hx => by
      rw [List.mem_singleton] at hx
      rw [hx]
      exact X.heapGrown)
    rw [show cells + 1 + (i + 1) = cells + 1 + i + 1 by omega, show slots + 4 + 6 * (i + 1) = slots + 4 + 6 * i + 6 by omega]
    exact h2
def zAO (U : State) : Prop := ∃ cB cA k, U.vm.findClass "[I" = some cB ∧ U.vm.classes[cA]? = some k ∧ k.kind = .array cB (.array .int) ∧ U.vm.findClass "[[I" = some cA
theorem zAO.moved {u U : State} (hvm : u.vm.Alike U.vm) (h : zAO u) : zAO U := by
  obtain ⟨cB, cA, k, h1, h2, h3, h4⟩ := h
  obtain ⟨k', hk', he⟩ := hvm.2.2 _ _ h2
  exact ⟨cB, cA, k', by rw [hvm.findClass]; exact h1, hk', by rw [he]; exact h3, by rw [hvm.findClass]; exact h4⟩
theorem over_spec {args : Array Value} {first s : State} {o : Option Outcome} {idx : List Nat} (h : (Cond.arrayOver (.array .int)).holds args first o s idx = true) : zAO s := by
  simp only [Cond.holds, Cond.value, beq_iff_eq] at h
  have hn : (FieldType.array .int).toString = "[I" := by decide
  rw [hn] at h
  cases hc : s.vm.findClass "[I" with
  | none => simp [hc] at h
  | some comp =>
    simp only [hc, Option.bind_some, Option.bind_eq_some_iff, Option.map_eq_some_iff] at h
    obtain ⟨c, hi, k, hk, hb⟩ := h
    obtain ⟨hlt, hp, -⟩ := Array.findIdx?_eq_some_iff_getElem.mp hi
    have hkk : s.vm.classes[c] = k := (Array.getElem?_eq_some_iff.mp hk).2
    rw [hkk] at hp
    cases hkind : k.kind with
    | array component ty =>
      rw [hkind] at hb hp
      simp at hb hp
      exact ⟨comp, c, k, hc, hk, by rw [hkind, hp, hb.1], hb.2⟩
    | _ => rw [hkind] at hb; simp at hb
theorem w_multi {cc : ByteArray} (hexec : p.tables.exec = Jvm.exec) (hb : c.code = cc) {own : String} {index : Nat} (hown : s.vm.findClass own = some m.cls) (hclink : (Cond.classLink own index "[[I").before args s = true) (hover : zAO s) (harr : (Cond.arrayClass .int).before args s = true) {pc : Nat} {ls : Array Slot} {rest : List Value} (hdg : decode cc pc = .ok (.multianewarray index 2, 4)) (hcells : cells + 5 ≤ R.cells) (hslots : slots + 28 ≤ R.slots)
    (kk : ∀ (H' : Heap) (cA cB : ClassId), s.vm.findClass "[[I" = some cA → s.vm.findClass "[I" = some cB → H'.size = H.size + 5 → (∀ q : Nat, q < H.size → H'[q]? = H[q]?) → H'[H.size]? = some (outC cA H.size 4) → (∀ j : Nat, j < 4 → H'[H.size + 1 + j]? = some (rowC cB)) → W p l e R s m args below meth c H' locs (cells + 5) (slots + 28) Q (F0 m (pc + 4) ls (.ref H.size :: rest))) : W p l e R s m args below meth c H locs cells slots Q (F0 m pc ls (.int 6 :: .int 4 :: rest)) := by
  intro T hT X
  subst hT; subst hb
  have hpl : e.platform.magicAccessors = ({} : Platform).magicAccessors := by rw [X.admits.platform]
  obtain ⟨cB, cA, kA, hcB, hkA, hkindA, hnA⟩ := hover
  obtain ⟨cB', kB, cI, hcB', hkB, hkindB⟩ := Cond.arrayClass_spec harr
  have eB : cB' = cB := Option.some.inj (hcB'.symm.trans hcB)
  subst eB
  obtain ⟨c0, hfc0, hcl⟩ := Cond.classLink_spec hown hclink e.platform hpl
  cases hnA.symm.trans hfc0
  obtain ⟨hg₁, hwarm₁, hready₁⟩ := State.classEntry (e := e) X.warmed hcl
  generalize T.vm.noted m.cls index (.cls cA) = vm₁ at hg₁ hwarm₁ hready₁
  have hal : s.vm.Alike vm₁ := hwarm₁.alike
  obtain ⟨kA₁, hkA₁, heA⟩ := hal.2.2 _ _ hkA
  obtain ⟨kB₁, hkB₁, heB⟩ := hal.2.2 _ _ hkB
  have hkindA₁ : kA₁.kind = .array cB' (.array .int) := by rw [heA]; exact hkindA
  have hkindB₁ : kB₁.kind = .array cI .int := by rw [heB]; exact hkindB
  have X₁ := X.noted hwarm₁
  obtain ⟨hr1, hr2⟩ := X.roomAbove hcells hslots
  obtain ⟨f1, f2, f3, f4, f5, f6⟩ := mnS_f (T.setVm vm₁) cA cB' 4 (by omega)
  have X₂ := mn_stand X₁ cA cB' 4 (by omega)
  obtain ⟨t, a1, b1⟩ := kk (mnS (T.setVm vm₁) cA cB' 4).heap cA cB' hnA hcB f1 f5 f2 f6 (mnS (T.setVm vm₁) cA cB' 4) rfl X₂
  refine ⟨t, ?_, b1⟩
  have hl1 : ¬ 6 > e.platform.arrayLengthLimit := by rw [Launch.admits_arrayLengthLimit X.admits]; decide
  have hl2 : ¬ 24 > e.platform.maxHeapBytes := by rw [Launch.admits_maxHeapBytes X.admits]; decide
  jvm_step X.here [hexec, hdg]
  simp only [multianewarray.sem, wp_bind', W.resolveClassAt_links (State.method?_setTop (F0 m pc ls (.int 6 :: .int 4 :: rest)) X.here.top) hg₁]
  rw [W.popN, if_neg (by decide)]
  refine ⟨F0 m pc ls (.int 6 :: .int 4 :: rest), State.topJava?_setTop' (s := T.setVm vm₁) _ X.here.top, [.int 4, .int 6], rest, rfl, rfl, ?_⟩
  simp only [List.mapM_cons, List.mapM_nil, wp_bind', wp_pure']
  refine mn_make hkA₁ hkindA₁ hkB₁ hkindB₁ hl1 hl2 (by show T.heap.size + 5 ≤ _; omega) (by show T.slotsUsed + 28 ≤ _; omega) (fun d' acts' => ?_)
  have eS : ((T.setTop (F0 m pc ls (.int 6 :: .int 4 :: rest))).setVm vm₁).setTop (F0 m pc ls rest) = (T.setVm vm₁).setTop (F0 m pc ls rest) := by
    show ((T.setVm vm₁).setTop _).setTop _ = _
    rw [State.setTop_setTop]
  have e1 : ∀ f : JFrame, mnS (((T.setTop (F0 m pc ls (.int 6 :: .int 4 :: rest))).setVm vm₁).setTop f) cA cB' 4 = (mnS (T.setVm vm₁) cA cB' 4).setTop f := fun f => by
    rw [show ((T.setTop (F0 m pc ls (.int 6 :: .int 4 :: rest))).setVm vm₁).setTop f = (T.setVm vm₁).setTop f by
      show ((T.setVm vm₁).setTop _).setTop _ = _
      rw [State.setTop_setTop], mnS_top]
  rw [e1]
  simp only [wp_bind', W.mark, W.pushRef, State.topJava?_setTop' _ X₂.here.top, Option.some.injEq, exists_eq_left', State.setTop_setTop, State.heap_setTop]
  intro acts
  simp [jvm, X₂.here.top]
  exact a1
end MW
