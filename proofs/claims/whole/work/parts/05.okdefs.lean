def zokE (own : Nat) (lv : Nat) (ret : Option FieldType) (e : zCE) : Bool := match e with
  | (pc, len, x, ins) => match ins with
    | .iconst n => len == 1 && decide (Int32.ofInt n = Int32.ofInt x)
    | .bipush n => len == 2 && decide ((Int8.ofInt n).toInt32 = Int32.ofInt x)
    | .sipush n => len == 3 && decide ((Int16.ofInt n).toInt32 = Int32.ofInt x)
    | .lconst n => len == 1 && decide (Int64.ofNat (n : Nat) = Int64.ofInt x)
    | .ldc_w i => len == 3 && zCST.any (fun q => q.1 == own && q.2.1 == i && q.2.2.1 == 32 && q.2.2.2.1 == x)
    | .ldc2_w i => len == 3 && zCST.any (fun q => q.1 == own && q.2.1 == i && q.2.2.1 == 64 && q.2.2.2.1 == x)
    | .iload _ => len == 2
    | .lload _ => len == 2
    | .aload _ => len == 2
    | .istore _ => len == 2
    | .lstore _ => len == 2
    | .astore _ => len == 2
    | .iinc _ _ => len == 3
    | .goto off => len == 3 && decide ((pc : Int) + off = x) && decide (0 ≤ x)
    | .ifCond _ off => len == 3 && decide ((pc : Int) + off = x) && decide (0 ≤ x)
    | .if_icmp _ off => len == 3 && decide ((pc : Int) + off = x) && decide (0 ≤ x)
    | .tableswitch _ _ _ _ => true
    | .lookupswitch _ ps => (ps.toList.zip (ps.toList.drop 1)).all (fun (a, next) => a.1 < next.1)
    | .getfield i => len == 3 && decide (0 ≤ x) && zFLD.any (fun q => q.1 == own && q.2.1 == i && q.2.2.1 == x.toNat)
    | .putfield i => len == 3 && decide (0 ≤ x) && zFLD.any (fun q => q.1 == own && q.2.1 == i && q.2.2.1 == x.toNat)
    | .invokevirtual i => len == 3 && decide (0 ≤ x) && decide (zlvl x.toNat < lv) && zCALL.any (fun q => q.1 == own && q.2.1 == i && q.2.2.1 == 0 && q.2.2.2.1 == x.toNat)
    | .invokestatic i => len == 3 && decide (0 ≤ x) && (if x = 9999 then decide (1 ≤ lv) && zCALL.any (fun q => q.1 == own && q.2.1 == i && q.2.2.1 == 3) else decide (zlvl x.toNat < lv) && zCALL.any (fun q => q.1 == own && q.2.1 == i && (q.2.2.1 == 1 || q.2.2.1 == 2) && q.2.2.2.1 == x.toNat))
    | .ireturn => len == 1 && (match ret with
      | some .int => x == 0
      | some .boolean => x == 1
      | _ => false)
    | .lreturn => len == 1 && decide (ret = some .long)
    | .return_ => len == 1 && decide (ret = none)
    | _ => len == 1
def zokD (b : ByteArray) (own lv : Nat) (ret : Option FieldType) (e : zCE) : Bool := decide (decode b e.1 = .ok (e.2.2.2, e.2.1)) && zokE own lv ret e
def zchain : List zCE → Bool
  | [] => true
  | e :: r => (match r with
    | [] => true
    | e2 :: _ => e2.1 == e.1 + e.2.1) && zchain r
def zokM (r : zMTr) : Bool := r.2.2.2.2.2.2.2.2.2.all (zokD r.2.1 r.2.2.2.2.1 r.2.2.2.2.2.2.1 r.2.2.2.1) && zchain r.2.2.2.2.2.2.2.2.2
