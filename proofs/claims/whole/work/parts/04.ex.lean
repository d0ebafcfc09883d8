def zmt (k : Nat) : zMTr := zMT.getD k (⟨"", "", ""⟩, ⟨#[]⟩, 0, none, 0, true, 0, 0, 0, [])
def zcode (k : Nat) : List zCE := (zmt k).2.2.2.2.2.2.2.2.2
def zown (k : Nat) : Nat := (zmt k).2.2.2.2.1
def zmaxl (k : Nat) : Nat := (zmt k).2.2.1
def zbytes (k : Nat) : ByteArray := (zmt k).2.1
def zname (k : Nat) : MethodName := (zmt k).1
def zret (k : Nat) : Option FieldType := (zmt k).2.2.2.1
def zstat (k : Nat) : Bool := (zmt k).2.2.2.2.2.1
def zlvl (k : Nat) : Nat := (zmt k).2.2.2.2.2.2.1
def znar (k : Nat) : Nat := (zmt k).2.2.2.2.2.2.2.1
def zcix (k : Nat) : Nat := (zmt k).2.2.2.2.2.2.2.2.1
def zjump (k : Nat) (x : Int) : List zCE := (zcode k).dropWhile (fun e => decide ((e.1 : Int) ≠ x))
/-- the locals at the start of a method -/
def zini : List zV → List zV
  | [] => []
  | v :: r => if v.1 = 1 then v :: vU :: zini r else v :: zini r
def zloc (k : Nat) (args : List zV) : List zV := zini args ++ List.replicate (zmaxl k - (zini args).length) vU
abbrev zO : Type := Option (Option zV × zM)
abbrev zR : Type := zO ⊕ ((List zCE × List zV × List zV × zM) ⊕ (Nat × List zV × List zV))
def zstuck : zR := .inl none
def zgo (is : List zCE) (ls st : List zV) (σ : zM) : zR := .inr (.inl (is, ls, st, σ))
def zld (t n : Nat) (is : List zCE) (ls st : List zV) (σ : zM) : zR := match ls[n]? with
  | some v => if v.1 = t then zgo is ls (v :: st) σ else zstuck
  | none => zstuck
def zst (t n : Nat) (is : List zCE) (ls st : List zV) (σ : zM) : zR := match st with
  | v :: st' => if v.1 = t ∧ (if t = 1 then n + 1 else n) < ls.length then zgo is (zput ls n v) st' σ else zstuck
  | [] => zstuck
def ziinc (n : Nat) (c : Int) (is : List zCE) (ls st : List zV) (σ : zM) : zR := match ls[n]? with
  | some v => if v.1 = 0 then zgo is (zput ls n (vI (v.2 + c))) st σ else zstuck
  | none => zstuck
def zdup (is : List zCE) (ls st : List zV) (σ : zM) : zR := match st with
  | v :: st' => if v.1 = 1 then zstuck else zgo is ls (v :: v :: st') σ
  | [] => zstuck
def zdup2 (is : List zCE) (ls st : List zV) (σ : zM) : zR := match st with
  | [] => zstuck
  | v :: st' => if v.1 = 1 then zgo is ls (v :: v :: st') σ else match st' with
    | u :: st2 => if u.1 = 1 then zstuck else zgo is ls (v :: u :: v :: u :: st2) σ
    | [] => zstuck
def zbin (ta tb tr : Nat) (g : Int → Int → Option Int) (is : List zCE) (ls st : List zV) (σ : zM) : zR := match st with
  | v :: u :: st' => if v.1 = tb ∧ u.1 = ta then (match g u.2 v.2 with
      | some r => zgo is ls ((tr, r) :: st') σ
      | none => zstuck) else zstuck
  | _ => zstuck
def zun (ta tr : Nat) (g : Int → Int) (is : List zCE) (ls st : List zV) (σ : zM) : zR := match st with
  | v :: st' => if v.1 = ta then zgo is ls ((tr, g v.2) :: st') σ else zstuck
  | _ => zstuck
def zcd (c : Jvm.ClassFile.Cond) (a b : Int) : Bool := match c with
  | .eq => decide (a = b)
  | .ne => decide (¬ a = b)
  | .lt => decide (a < b)
  | .ge => decide (b ≤ a)
  | .gt => decide (b < a)
  | .le => decide (a ≤ b)
def zif (k : Nat) (x : Int) (c : Jvm.ClassFile.Cond) (is : List zCE) (ls st : List zV) (σ : zM) : zR := match st with
  | v :: st' => if v.1 = 0 then (if zcd c (c32 v.2) 0 = true then zgo (zjump k x) ls st' σ else zgo is ls st' σ) else zstuck
  | [] => zstuck
def zicmp (k : Nat) (x : Int) (c : Jvm.ClassFile.Cond) (is : List zCE) (ls st : List zV) (σ : zM) : zR := match st with
  | v :: u :: st' => if v.1 = 0 ∧ u.1 = 0 then (if zcd c (c32 u.2) (c32 v.2) = true then zgo (zjump k x) ls st' σ else zgo is ls st' σ) else zstuck
  | _ => zstuck
def ztab (k pc : Nat) (d lo hi : Int) (offs : Array Int) (ls st : List zV) (σ : zM) : zR := match st with
  | v :: st' => if v.1 = 0 then (if c32 v.2 < lo ∨ hi < c32 v.2 then zgo (zjump k (pc + d)) ls st' σ else (match offs[(c32 v.2 - lo).toNat]? with
      | some o => zgo (zjump k (pc + o)) ls st' σ
      | none => zstuck)) else zstuck
  | [] => zstuck
def zlook (k pc : Nat) (d : Int) (ps : Array (Int × Int)) (ls st : List zV) (σ : zM) : zR := match st with
  | v :: st' => if v.1 = 0 then zgo (zjump k (pc + Op.lookupswitch.offset ps.toList d (c32 v.2))) ls st' σ else zstuck
  | [] => zstuck
/-- what is read of field x (32 times the class, and its place) of cell c -/
def zrdF (x c : Int) (σ : zM) : Option zV :=
  if (zshp c).1 = 10 + x.toNat / 32 ∧ x.toNat % 32 < (zshp c).2 then
    (match zfk (x.toNat / 32) (x.toNat % 32) with
      | 0 => some (vI (σ c (x.toNat % 32 : Nat)))
      | 1 => some (vI (σ c (x.toNat % 32 : Nat)))
      | 2 => some (vL (σ c (x.toNat % 32 : Nat)))
      | 3 => some (vR (zrf c.toNat (x.toNat % 32) : Nat))
      | 4 => if 0 ≤ σ c (x.toNat % 32 : Nat) then some (vR (σ c (x.toNat % 32 : Nat))) else none
      | _ => none)
  else none
def zgf (x : Int) (is : List zCE) (ls st : List zV) (σ : zM) : zR := match st with
  | v :: st' => if v.1 = 2 then (match zrdF x v.2 σ with
      | some r => zgo is ls (r :: st') σ
      | none => zstuck) else zstuck
  | [] => zstuck
/-- whether a value may be written to field x of cell c -/
def zokF (x c : Int) (v : zV) : Bool :=
  (zshp c).1 == 10 + x.toNat / 32 && decide (x.toNat % 32 < (zshp c).2) &&
    (match zfk (x.toNat / 32) (x.toNat % 32) with
      | 0 => v.1 == 0
      | 1 => v.1 == 0 && (v.2 == 0 || v.2 == 1)
      | 2 => v.1 == 1
      | 4 => v.1 == 2 && decide (0 ≤ v.2)
      | _ => false)
def zpf (x : Int) (is : List zCE) (ls st : List zV) (σ : zM) : zR := match st with
  | v :: u :: st' => if u.1 = 2 ∧ zokF x u.2 v = true then zgo is ls st' (zU σ u.2 (x.toNat % 32 : Nat) v.2) else zstuck
  | _ => zstuck
def zLAW : Nat := 193
/-- what is read at place i of cell c, by a load of sort t -/
def zrdA (k t : Nat) (c i : Int) (σ : zM) : Option zV :=
  if k = zLAW ∧ c = 72 then (if t = 0 ∧ 0 ≤ i ∧ i < σ 72 (-1) then some (vI (σ 72 i)) else none)
  else if 0 ≤ i ∧ i < (zshp c).2 then
    (match t, (zshp c).1 with
      | 0, 0 => some (vI (σ c i))
      | 1, 1 => some (vL (σ c i))
      | 2, 2 => if -128 ≤ σ c i ∧ σ c i < 128 then some (vI (σ c i)) else none
      | 2, 3 => if 0 ≤ σ c i ∧ σ c i < 2 then some (vI (σ c i)) else none
      | 3, 4 => some (vR (zra c.toNat i.toNat : Nat))
      | 3, 5 => some (vR (zra c.toNat i.toNat : Nat))
      | _, _ => none)
  else none
def zald (k t : Nat) (is : List zCE) (ls st : List zV) (σ : zM) : zR := match st with
  | v :: u :: st' => if v.1 = 0 ∧ u.1 = 2 then (match zrdA k t u.2 (c32 v.2) σ with
      | some r => zgo is ls (r :: st') σ
      | none => zstuck) else zstuck
  | _ => zstuck
def zokA (t : Nat) (c i : Int) : Bool := decide (0 ≤ i) && decide (i < (zshp c).2) && ((t == 0 && (zshp c).1 == 0) || (t == 1 && (zshp c).1 == 1) || (t == 2 && ((zshp c).1 == 2 || (zshp c).1 == 3)))
def zast (t : Nat) (is : List zCE) (ls st : List zV) (σ : zM) : zR := match st with
  | w :: v :: u :: st' => if w.1 = (if t = 1 then 1 else 0) ∧ v.1 = 0 ∧ u.1 = 2 ∧ zokA t u.2 (c32 v.2) = true then zgo is ls st' (zU σ u.2 (c32 v.2) w.2) else zstuck
  | _ => zstuck
def zaln (k : Nat) (is : List zCE) (ls st : List zV) (σ : zM) : zR := match st with
  | u :: st' => if u.1 = 2 then (if k = zLAW ∧ u.2 = 72 then zgo is ls (vI (σ 72 (-1)) :: st') σ else if (zshp u.2).1 < 6 then zgo is ls (vI ((zshp u.2).2 : Nat) :: st') σ else zstuck) else zstuck
  | _ => zstuck
def zcpy (is : List zCE) (ls st : List zV) (σ : zM) : zR := match st with
  | n :: dp :: d :: sp :: a :: st' => if n.1 = 0 ∧ dp.1 = 0 ∧ d.1 = 2 ∧ sp.1 = 0 ∧ a.1 = 2 ∧ st'.length ≤ 4 ∧ (zshp a.2).1 = (zshp d.2).1 ∧ (zshp d.2).1 < 2 ∧ 0 ≤ c32 n.2 ∧ 0 ≤ c32 dp.2 ∧ 0 ≤ c32 sp.2 ∧ c32 sp.2 + c32 n.2 ≤ (zshp a.2).2 ∧ c32 dp.2 + c32 n.2 ≤ (zshp d.2).2 then
      zgo is ls st' (zCpy σ a.2 (c32 sp.2) d.2 (c32 dp.2) (c32 n.2)) else zstuck
  | _ => zstuck
def zrecv (x : Nat) (args : List zV) : Bool := zstat x || (match args with
  | v :: _ => v.1 == 2 && (zshp v.2).1 == 10 + zown x
  | [] => false)
def zinv (x : Int) (ls st : List zV) (σ : zM) : zR :=
  if znar x.toNat ≤ st.length ∧ (st.drop (znar x.toNat)).length ≤ 4 ∧ (st.all (fun v => decide (v.1 ≤ 2))) = true ∧ zrecv x.toNat (st.take (znar x.toNat)).reverse = true ∧ (zini (st.take (znar x.toNat)).reverse).length ≤ zmaxl x.toNat then .inr (.inr (x.toNat, (st.take (znar x.toNat)).reverse, st.drop (znar x.toNat))) else zstuck
def zireturn (x : Int) (st : List zV) (σ : zM) : zR := match st with
  | [v] => if v.1 = 0 ∧ (x = 0 ∨ v.2 = 0 ∨ v.2 = 1) then .inl (some (some v, σ)) else zstuck
  | _ => zstuck
def zlreturn (st : List zV) (σ : zM) : zR := match st with
  | [v] => if v.1 = 1 then .inl (some (some v, σ)) else zstuck
  | _ => zstuck
def zvreturn (st : List zV) (σ : zM) : zR := match st with
  | [] => .inl (some (none, σ))
  | _ => zstuck
def iDiv (a b : Int) : Option Int := if c32 b = 0 then none else some ((Int32.ofInt a / Int32.ofInt b).toInt)
def iRem (a b : Int) : Option Int := if c32 b = 0 then none else some ((Int32.ofInt a - Int32.ofInt a / Int32.ofInt b * Int32.ofInt b).toInt)
def lDiv (a b : Int) : Option Int := if c64 b = 0 then none else some ((Int64.ofInt a / Int64.ofInt b).toInt)
def lRem (a b : Int) : Option Int := if c64 b = 0 then none else some ((Int64.ofInt a - Int64.ofInt a / Int64.ofInt b * Int64.ofInt b).toInt)
def iAnd (a b : Int) : Int := (Int32.ofInt a &&& Int32.ofInt b).toInt
def iOr (a b : Int) : Int := (Int32.ofInt a ||| Int32.ofInt b).toInt
def iShl (a b : Int) : Int := (Int32.ofInt a <<< (Int32.ofInt b &&& 31)).toInt
def iShr (a b : Int) : Int := (Int32.ofInt a >>> (Int32.ofInt b &&& 31)).toInt
def iUsh (a b : Int) : Int := ((Int32.ofInt a).toUInt32 >>> ((Int32.ofInt b).toUInt32 &&& Int32.toUInt32 31)).toInt32.toInt
def lAnd (a b : Int) : Int := (Int64.ofInt a &&& Int64.ofInt b).toInt
def lOr (a b : Int) : Int := (Int64.ofInt a ||| Int64.ofInt b).toInt
def lShl (a b : Int) : Int := (Int64.ofInt a <<< ((Int32.ofInt b).toInt64 &&& 63)).toInt
def lCmp (a b : Int) : Int := (lg_cmp (Int64.ofInt a) (Int64.ofInt b)).toInt
def i2B (a : Int) : Int := ((Int32.ofInt a).toInt8.toInt32).toInt
def i2S (a : Int) : Int := ((Int32.ofInt a).toInt16.toInt32).toInt
def l2I (a : Int) : Int := a
def nx (k pc : Nat) (x : Int) (is : List zCE) (ls st : List zV) (σ : zM) (ins : Instr) : zR := match ins with
  | .iconst _ => zgo is ls (vI x :: st) σ
  | .bipush _ => zgo is ls (vI x :: st) σ
  | .sipush _ => zgo is ls (vI x :: st) σ
  | .ldc_w _ => zgo is ls (vI x :: st) σ
  | .lconst _ => zgo is ls (vL x :: st) σ
  | .ldc2_w _ => zgo is ls (vL x :: st) σ
  | .iload_n n => zld 0 n.val is ls st σ
  | .iload n => zld 0 n is ls st σ
  | .lload_n n => zld 1 n.val is ls st σ
  | .lload n => zld 1 n is ls st σ
  | .aload_n n => zld 2 n.val is ls st σ
  | .aload n => zld 2 n is ls st σ
  | .istore_n n => zst 0 n.val is ls st σ
  | .istore n => zst 0 n is ls st σ
  | .lstore_n n => zst 1 n.val is ls st σ
  | .lstore n => zst 1 n is ls st σ
  | .astore_n n => zst 2 n.val is ls st σ
  | .astore n => zst 2 n is ls st σ
  | .iinc n c => ziinc n c is ls st σ
  | .dup => zdup is ls st σ
  | .dup2 => zdup2 is ls st σ
  | .iadd => zbin 0 0 0 (fun a b => some (a + b)) is ls st σ
  | .isub => zbin 0 0 0 (fun a b => some (a - b)) is ls st σ
  | .imul => zbin 0 0 0 (fun a b => some (a * b)) is ls st σ
  | .idiv => zbin 0 0 0 iDiv is ls st σ
  | .irem => zbin 0 0 0 iRem is ls st σ
  | .iand => zbin 0 0 0 (fun a b => some (iAnd a b)) is ls st σ
  | .ior => zbin 0 0 0 (fun a b => some (iOr a b)) is ls st σ
  | .ishl => zbin 0 0 0 (fun a b => some (iShl a b)) is ls st σ
  | .ishr => zbin 0 0 0 (fun a b => some (iShr a b)) is ls st σ
  | .iushr => zbin 0 0 0 (fun a b => some (iUsh a b)) is ls st σ
  | .ladd => zbin 1 1 1 (fun a b => some (a + b)) is ls st σ
  | .lsub => zbin 1 1 1 (fun a b => some (a - b)) is ls st σ
  | .lmul => zbin 1 1 1 (fun a b => some (a * b)) is ls st σ
  | .ldiv => zbin 1 1 1 lDiv is ls st σ
  | .lrem => zbin 1 1 1 lRem is ls st σ
  | .land => zbin 1 1 1 (fun a b => some (lAnd a b)) is ls st σ
  | .lor => zbin 1 1 1 (fun a b => some (lOr a b)) is ls st σ
  | .lshl => zbin 1 0 1 (fun a b => some (lShl a b)) is ls st σ
  | .lcmp => zbin 1 1 0 (fun a b => some (lCmp a b)) is ls st σ
  | .ineg => zun 0 0 (fun a => -a) is ls st σ
  | .lneg => zun 1 1 (fun a => -a) is ls st σ
  | .i2l => zun 0 1 c32 is ls st σ
  | .l2i => zun 1 0 l2I is ls st σ
  | .i2b => zun 0 0 i2B is ls st σ
  | .i2s => zun 0 0 i2S is ls st σ
  | .goto _ => zgo (zjump k x) ls st σ
  | .ifCond c _ => zif k x c is ls st σ
  | .if_icmp c _ => zicmp k x c is ls st σ
  | .tableswitch d lo hi offs => ztab k pc d lo hi offs ls st σ
  | .lookupswitch d ps => zlook k pc d ps ls st σ
  | .getfield _ => zgf x is ls st σ
  | .putfield _ => zpf x is ls st σ
  | .iaload => zald k 0 is ls st σ
  | .laload => zald k 1 is ls st σ
  | .baload => zald k 2 is ls st σ
  | .aaload => zald k 3 is ls st σ
  | .iastore => zast 0 is ls st σ
  | .lastore => zast 1 is ls st σ
  | .bastore => zast 2 is ls st σ
  | .arraylength => zaln k is ls st σ
  | .invokevirtual _ => zinv x ls st σ
  | .invokestatic _ => if x = 9999 then zcpy is ls st σ else zinv x ls st σ
  | .ireturn => zireturn x st σ
  | .lreturn => zlreturn st σ
  | .return_ => zvreturn st σ
  | _ => zstuck
def ex : Nat → Nat → List zCE → List zV → List zV → zM → zO
  | 0, _, _, _, _, _ => none
  | _ + 1, _, [], _, _, _ => none
  | f + 1, k, (pc, _, x, ins) :: is, ls, st, σ => match nx k pc x is ls st σ ins with
    | .inl r => r
    | .inr (.inl (is', ls', st', σ')) => ex f k is' ls' st' σ'
    | .inr (.inr (k', args, st')) => match ex f k' (zcode k') (zloc k' args) [] σ with
      | none => none
      | some (r, σ1) => ex f k is ls (r.toList ++ st') σ1
