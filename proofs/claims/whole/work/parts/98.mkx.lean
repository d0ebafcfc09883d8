/-! the constructors -/
/-- what the makers ask of the machine beyond the words of their tables -/
def mkX (U : State) : Prop := zAO U ∧ va_AO "PointShares$Tape" U ∧ va_Nw (.methodLinkNest RX6 11 yX2_init "PointShares") U ∧ va_Nw (.methodLinkNest RX6 23 yX0_init "PointShares") U ∧ va_Nw (.methodLinkNest RX6 30 yX5_init "PointShares") U ∧ va_Nw (.methodLinkNest RX6 42 yX4_init "PointShares") U ∧ va_Nw (.methodLinkNest RX6 53 yX3_init "PointShares") U
theorem mkX.same {u U : State} (h : u.vm = U.vm) (x : mkX u) : mkX U := by
  obtain ⟨a, b, c1, c2, c3, c4, c5⟩ := x
  have al : u.vm.Alike U.vm := h ▸ Vm.Alike.refl u.vm
  exact ⟨zAO.moved al a, va_AO.moved al b, va_Nw.same rfl h c1, va_Nw.same rfl h c2, va_Nw.same rfl h c3, va_Nw.same rfl h c4, va_Nw.same rfl h c5⟩
theorem mkX.warm {s U : State} (hW : s.WarmedH U.vm) (x : mkX s) : mkX U := by
  obtain ⟨a, b, c1, c2, c3, c4, c5⟩ := x
  exact ⟨zAO.moved hW.alike a, va_AO.moved hW.alike b, va_Nw.warmM hW c1, va_Nw.warmM hW c2, va_Nw.warmM hW c3, va_Nw.warmM hW c4, va_Nw.warmM hW c5⟩
section ZQ
variable {p : Program} {l : Launch} {e : Env} {R : Room} {s : State} {m : MethodId} {args : Array Value} {below : List Frame} {meth : Method} {c : Code} {H : Heap} {locs : List Loc} {cells slots : Nat} {Q : State → Prop}
variable {cc : ByteArray} {pc : Nat} {ls : Array Slot} {rest : List Value} {D : va_G} {A : Nat → Prop} {ws : va_W} {H0 : Heap} {ca : Nat → ClassId}
theorem zn_newq (hexec : p.tables.exec = Jvm.exec) (hb : c.code = cc) {own : String} {index : Nat} (hown : s.vm.findClass own = some m.cls) (hclink : (Cond.classLink own index "PointShares$Tape").before args s = true) (hover : va_AO "PointShares$Tape" s) (hK : va_K D vwCl (zTys ca) s) (hP : va_P D vwCl ws H) (hD : va_D A ws) (hS : va_S A H0 H locs) (hA : ∀ q, H0.size ≤ q → A q)
    {n : Int32} {N' : Nat} (hn : ¬ n < 0) (hN : n.toNatClampNeg = N') (hbytes : N' * 4 ≤ 536870912) (hcells : cells + 1 ≤ R.cells) (hslots : slots + N' ≤ R.slots) (hdg : decode cc pc = .ok (.anewarray index, 3))
    (kk : ∀ (q : Nat) (H1 : Heap), va_P D vwCl (ws ++ [(q, .inl (ca 5, N', .inr (.inr (.inr (.inr (fun _ => none))))))]) H1 → va_D A (ws ++ [(q, .inl (ca 5, N', .inr (.inr (.inr (.inr (fun _ => none))))))]) → va_S A H0 H1 locs →
      W p l e R s m args below meth c H1 locs (cells + 1) (slots + N') Q (F0 m (pc + 3) ls (.ref q :: rest))) : W p l e R s m args below meth c H locs cells slots Q (F0 m pc ls (.int n :: rest)) := by
  refine va_newq hexec hb hown hclink hover hK hP hD hS hA hn hN hbytes hcells hslots hdg (fun q cA H1 hK1 hP1 hD1 hS1 => ?_)
  have h6 : (zTys ca ++ [(cA, FieldType.object "PointShares$Tape")])[6]? = some (cA, .object "PointShares$Tape") := rfl
  have h5 : (zTys ca)[5]? = some (ca 5, .object "PointShares$Tape") := rfl
  obtain ⟨-, -, -, -, -, f1⟩ := (hK1.2 6 _ h6).2
  obtain ⟨-, -, -, -, -, f2⟩ := (hK.2 5 _ h5).2
  have e : cA = ca 5 := Option.some.inj (f1.symm.trans f2)
  subst e
  exact kk q H1 hP1 hD1 hS1
end ZQ
