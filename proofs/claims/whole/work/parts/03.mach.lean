abbrev xS : Type := List (Nat × Nat × List Value) × (Nat → Nat → Int32)
abbrev xF : Type := Nat × List Value × List Value × xS
abbrev xO : Type := Option Value × xS
abbrev xR : Type := xF ⊕ (xO ⊕ (Nat × List Value × xF))
abbrev xX : Type := Nat × (Nat → Int32)
def xin (i : Int32) (n : Nat) : Bool := decide (0 ≤ i.toInt) && decide (i.toInt < (n : Int))
def xup (σ : Nat → Nat → Int32) (k j : Nat) (v : Int32) : Nat → Nat → Int32 := fun a b => if a = k ∧ b = j then v else σ a b
def xzr (σ : Nat → Nat → Int32) (k : Nat) : Nat → Nat → Int32 := fun a b => if a = k then 0 else σ a b
def xcp (σ : Nat → Nat → Int32) (k0 k1 sp dp n : Nat) : Nat → Nat → Int32 := fun a b => if a = k1 ∧ dp ≤ b ∧ b < dp + n then σ k0 (sp + (b - dp)) else σ a b
def xcat : List Value → Nat
  | [] => 0
  | v :: r => v.category + xcat r
def xkl (ls : List Value) (i : Nat) : List Value := match i with
  | 0 => ls
  | j + 1 => match ls[j]? with
    | some (.long _) => ls.set j (.float 0)
    | _ => ls
def xst1 (ls : List Value) (i : Nat) (v : Value) : List Value := (xkl ls i).set i v
def xst2 (ls : List Value) (i : Nat) (v : Value) : List Value := ((xkl ls i).set i v).set (i + 1) (.float 0)
def xcmp (c : Jvm.ClassFile.Cond) (x y : Int32) : Bool := match c with
  | .eq => decide (x = y)
  | .ne => decide (¬ x = y)
  | .lt => decide (x < y)
  | .ge => decide (y ≤ x)
  | .gt => decide (y < x)
  | .le => decide (x ≤ y)
def xnx (pc : Nat) (ls st : List Value) (S : xS) : Option xR := some (.inl (pc, ls, st, S))
def xjp (pc : Nat) (off : Int) (ls st : List Value) (S : xS) : Option xR := if 0 ≤ (pc : Int) + off then xnx ((pc : Int) + off).toNat ls st S else none
def xtt (pc : Nat) (x : Int32) (ls st : List Value) (S : xS) (d : Int) : List (Int × Int) → Option xR
  | [] => xjp pc d ls st S
  | (a, o) :: r => if x.toInt = a then xjp pc o ls st S else xtt pc x ls st S d r
def xnum : Int → List Int → List (Int × Int)
  | _, [] => []
  | a, o :: r => (a, o) :: xnum (a + 1) r
def xbi (f : Int32 → Int32 → Int32) (pc : Nat) (ls st : List Value) (S : xS) : Option xR := match st with
  | .int y :: .int x :: r => xnx (pc + 1) ls (.int (f x y) :: r) S
  | _ => none
def xbl (f : Int64 → Int64 → Int64) (pc : Nat) (ls st : List Value) (S : xS) : Option xR := match st with
  | .long y :: .long x :: r => xnx (pc + 1) ls (.long (f x y) :: r) S
  | _ => none
def xld (ls : List Value) (i pc : Nat) (st : List Value) (S : xS) (ok : Value → Bool) : Option xR := match ls[i]? with
  | some v => if ok v then xnx pc ls (v :: st) S else none
  | none => none
def xisI : Value → Bool
  | .int _ => true
  | _ => false
def xisL : Value → Bool
  | .long _ => true
  | _ => false
def xisA : Value → Bool
  | .ref _ => true
  | .retAddr _ => true
  | _ => false
def xsto (ls : List Value) (i pc : Nat) (st : List Value) (S : xS) (ok : Value → Bool) : Option xR := match st with
  | v :: r => if ok v = true ∧ i < ls.length then xnx pc (xst1 ls i v) r S else none
  | _ => none
def xsto2 (ls : List Value) (i pc : Nat) (st : List Value) (S : xS) : Option xR := match st with
  | .long x :: r => if i + 1 < ls.length then xnx pc (xst2 ls i (.long x)) r S else none
  | _ => none
def xgf (S : xS) (k ci j : Nat) : Option Value := match S.1[k]? with
  | some (t, _, vs) => if t = ci + 3 then (match vs[j]? with
    | some (.int _) => some (.int (S.2 k j))
    | some (.ref a) => some (.ref a)
    | _ => none) else none
  | none => none
def xzf (ci j : Nat) : Bool := ci == 1 && j == 2
def xpf (S : xS) (k ci j : Nat) (x : Int32) : Option xS := match S.1[k]? with
  | some (t, _, vs) => if t = ci + 3 then (match vs[j]? with
    | some (.int _) => if xzf ci j = true ∧ ¬ (x = 0 ∨ x = 1) then none else some (S.1, xup S.2 k j x)
    | _ => none) else none
  | none => none
def xpr (S : xS) (k ci j a : Nat) : Option xS := match S.1[k]? with
  | some (t, n, vs) => if t = ci + 3 then (match vs[j]? with
    | some .null => some (S.1.set k (t, n, vs.set j (.ref a)), S.2)
    | _ => none) else none
  | none => none
def xal (S : xS) (k t : Nat) (i : Int32) : Option Int32 := match S.1[k]? with
  | some (t', n, _) => if t' = t ∧ xin i n = true then some (S.2 k i.toNatClampNeg) else none
  | none => none
def xas (S : xS) (k t : Nat) (i x : Int32) : Option xS := match S.1[k]? with
  | some (t', n, _) => if t' = t ∧ xin i n = true then some (S.1, xup S.2 k i.toNatClampNeg x) else none
  | none => none
/-- some cell of a boolean row holds x -/
def xbk (S : xS) (x : Int32) : Bool := S.1.zipIdx.any (fun c => decide (c.1.1 = 1) && (List.range c.1.2.1).any (fun j => decide (S.2 c.2 j = x)))
def xaq (S : xS) (k : Nat) (i : Int32) : Option Value := match S.1[k]? with
  | some (t, n, vs) => if t = 2 ∧ xin i n = true then (match vs[i.toNatClampNeg]? with
    | some (.ref a) => some (.ref a)
    | _ => none) else none
  | none => none
def xaw (S : xS) (k : Nat) (i : Int32) (a : Nat) : Option xS := match S.1[k]? with
  | some (t, n, vs) => if t = 2 ∧ xin i n = true ∧ vs.length = n then (match S.1[a]? with
    | some (t', _, _) => if t' = 4 then some (S.1.set k (t, n, vs.set i.toNatClampNeg (.ref a)), S.2) else none
    | none => none) else none
  | none => none
def xle (S : xS) (k : Nat) : Option Int32 := match S.1[k]? with
  | some (t, n, _) => if t < 3 then some (Int32.ofNat n) else none
  | none => none
def xblank : List (List Value) := [
  [.null, .null, .null, .null, .null, .null, .null, .null, .int 0],
  [.null, .null, .int 0],
  [.null, .int 0],
  [.null, .null, .null, .null, .null, .int 0, .int 0],
  [.null, .int 0, .int 0, .int 0],
  [.null, .null, .int 0, .int 0, .int 0],
  [.null, .null, .null, .int 0],
  [.int 0, .int 0, .int 0, .int 0, .int 0],
  [.null, .null, .null, .null, .null, .null],
  [.null, .null, .int 0, .null, .int 0, .null, .int 0, .int 0, .int 0, .int 0, .int 0, .int 0, .int 0, .int 0, .int 0, .int 0, .int 0, .null, .null, .null]]
def xnwo (S : xS) (ci : Nat) : Option xS := match xblank[ci]? with
  | some vs => some (S.1 ++ [(ci + 3, vs.length, vs)], xzr S.2 S.1.length)
  | none => none
def xnwa (S : xS) (t : Nat) (n : Int32) : Option xS := if 0 ≤ n ∧ n ≤ 4000 then some (S.1 ++ [(t, n.toNatClampNeg, [])], xzr S.2 S.1.length) else none
def xnwq (S : xS) (n : Int32) : Option xS := if 0 ≤ n ∧ n ≤ 4000 then some (S.1 ++ [(2, n.toNatClampNeg, List.replicate n.toNatClampNeg .null)], xzr S.2 S.1.length) else none
def xpop : Nat → List Value → List Value → Option (List Value × List Value)
  | 0, as, st => some (as, st)
  | n + 1, as, v :: st => xpop n (v :: as) st
  | _ + 1, _, [] => none
def xchr (i : Int32) : Option Int32 := if xin i 8 = true then some (([43, 45, 33, 35, 37, 46, 46, 46] : List Int32).getD i.toNatClampNeg 0) else none
def xacp (S : xS) (k0 k1 : Nat) (sp dp n : Int32) : Option xS := match S.1[k0]?, S.1[k1]? with
  | some (t0, n0, _), some (t1, n1, _) => if t0 = t1 ∧ t0 < 2 ∧ 0 ≤ sp ∧ 0 ≤ dp ∧ 0 ≤ n ∧ sp.toNatClampNeg + n.toNatClampNeg ≤ n0 ∧ dp.toNatClampNeg + n.toNatClampNeg ≤ n1 then some (S.1, xcp S.2 k0 k1 sp.toNatClampNeg dp.toNatClampNeg n.toNatClampNeg) else none
  | _, _ => none
def xcall (id pc : Nat) (ls st : List Value) (S : xS) (kind j n : Nat) : Option xR := match kind with
  | 0 => (xpop n [] st).bind fun w => if xcat w.2 ≤ 8 then some (.inr (.inr (j, w.1, (pc + 3, ls, w.2, S)))) else none
  | 3 => (xpop n [] st).bind fun w => if xcat w.2 ≤ 8 then some (.inr (.inr (j, w.1, (pc + 3, ls, w.2, S)))) else none
  | 1 => (xpop (n + 1) [] st).bind fun w => match w.1 with
    | .ref k :: as => if xcat w.2 ≤ 8 ∧ (S.1[k]?).map (fun c => c.1) = some (xown j + 3) then some (.inr (.inr (j, .ref k :: as, (pc + 3, ls, w.2, S)))) else none
    | _ => none
  | 2 => (xpop (n + 1) [] st).bind fun w => match w.1 with
    | .ref k :: as => if xcat w.2 ≤ 8 then some (.inr (.inr (j, .ref k :: as, (pc + 3, ls, w.2, S)))) else none
    | _ => none
  | 5 => (xpop (n + 1) [] st).bind fun w => match w.1 with
    | .ref k :: as => if xcat w.2 ≤ 8 then some (.inr (.inr (j, .ref k :: as, (pc + 3, ls, w.2, S)))) else none
    | _ => none
  | 6 => match st with
    | .ref _ :: r => if xcat r ≤ 8 ∧ 1 ≤ xrf id ∧ 20 ≤ xrl id then xnx (pc + 3) ls r S else none
    | _ => none
  | 7 => match st with
    | .int n :: .int dp :: .ref k1 :: .int sp :: .ref k0 :: r => if xcat r ≤ 8 ∧ 1 ≤ xrf id ∧ 28 ≤ xrl id then (xacp S k0 k1 sp dp n).bind fun S' => xnx (pc + 3) ls r S' else none
    | _ => none
  | 8 => match st with
    | .int i :: .retAddr 1 :: r => if xcat r ≤ 8 ∧ 4 ≤ xrf id ∧ 81 ≤ xrl id then (xchr i).bind fun v => xnx (pc + 3) ls (.int v :: r) S else none
    | _ => none
  | 9 => match st with
    | .int x :: r => if xcat r ≤ 8 ∧ 1 ≤ xrf id ∧ 21 ≤ xrl id then xnx (pc + 3) ls (.int (if 0 ≤ x then x else 0 - x) :: r) S else none
    | _ => none
  | 10 => match st with
    | .long x :: r => if xcat r ≤ 8 ∧ 1 ≤ xrf id ∧ 21 ≤ xrl id then xnx (pc + 3) ls (.long (if 0 < x then x else -x) :: r) S else none
    | _ => none
  | 11 => match st with
    | .int y :: .int x :: r => if xcat r ≤ 8 ∧ 1 ≤ xrf id ∧ 21 ≤ xrl id then xnx (pc + 3) ls (.int (if x < y then y else x) :: r) S else none
    | _ => none
  | 12 => match st with
    | .int y :: .int x :: r => if xcat r ≤ 8 ∧ 1 ≤ xrf id ∧ 21 ≤ xrl id then xnx (pc + 3) ls (.int (if y < x then y else x) :: r) S else none
    | _ => none
  | _ => none
def xinv (id pc : Nat) (ls st : List Value) (S : xS) (idx : Nat) (ks : List Nat) : Option xR := (xmth (xown id) idx).bind fun w => if ks.contains w.1 = true then xcall id pc ls st S w.1 w.2.1 w.2.2.1 else none
def xrt (id : Nat) (st : List Value) (S : xS) : Option xR := match st with
  | [.int x] => match xret id with
    | some .int => some (.inr (.inl (some (.int x), S)))
    | some .boolean => if x = 0 ∨ x = 1 then some (.inr (.inl (some (.int x), S))) else none
    | _ => none
  | _ => none
def xlen (i : Instr) (n : Nat) : Nat := match i with
  | .bipush _ => 2
  | .iload _ => 2
  | .lload _ => 2
  | .aload _ => 2
  | .istore _ => 2
  | .lstore _ => 2
  | .astore _ => 2
  | .ldc _ => 2
  | .newarray _ => 2
  | .sipush _ => 3
  | .ldc2_w _ => 3
  | .iinc _ _ => 3
  | .ifCond _ _ => 3
  | .if_icmp _ _ => 3
  | .goto _ => 3
  | .getfield _ => 3
  | .putfield _ => 3
  | .invokestatic _ => 3
  | .invokevirtual _ => 3
  | .invokespecial _ => 3
  | .new _ => 3
  | .anewarray _ => 3
  | .tableswitch _ _ _ _ => n
  | .lookupswitch _ _ => n
  | _ => 1
def xex (X : xX) (id : Nat) (i : Instr) (pc : Nat) (ls st : List Value) (S : xS) : Option xR := match i with
  | .iconst k => xnx (pc + 1) ls (.int (Int32.ofInt k) :: st) S
  | .bipush k => xnx (pc + 2) ls (.int (Int8.ofInt k).toInt32 :: st) S
  | .sipush k => xnx (pc + 3) ls (.int (Int16.ofInt k).toInt32 :: st) S
  | .lconst k => xnx (pc + 1) ls (.long (Int64.ofNat k.val) :: st) S
  | .ldc j => (xcst (xown id) j).bind fun w => match w.1 with
    | .int v => xnx (pc + 2) ls (.int v :: st) S
    | .retAddr 1 => xnx (pc + 2) ls (.retAddr 1 :: st) S
    | _ => none
  | .ldc2_w j => (xcst (xown id) j).bind fun w => match w.1 with
    | .long v => xnx (pc + 3) ls (.long v :: st) S
    | _ => none
  | .iload j => xld ls j (pc + 2) st S xisI
  | .iload_n j => xld ls j.val (pc + 1) st S xisI
  | .lload j => xld ls j (pc + 2) st S xisL
  | .lload_n j => xld ls j.val (pc + 1) st S xisL
  | .aload j => xld ls j (pc + 2) st S xisA
  | .aload_n j => xld ls j.val (pc + 1) st S xisA
  | .istore j => xsto ls j (pc + 2) st S xisI
  | .istore_n j => xsto ls j.val (pc + 1) st S xisI
  | .astore j => xsto ls j (pc + 2) st S xisA
  | .astore_n j => xsto ls j.val (pc + 1) st S xisA
  | .lstore j => xsto2 ls j (pc + 2) st S
  | .lstore_n j => xsto2 ls j.val (pc + 1) st S
  | .iinc j k => match ls[j]? with
    | some (.int x) => xnx (pc + 3) (xst1 ls j (.int (x + Int32.ofInt k))) st S
    | _ => none
  | .iadd => xbi (fun x y => x + y) pc ls st S
  | .isub => xbi (fun x y => x - y) pc ls st S
  | .imul => xbi (fun x y => x * y) pc ls st S
  | .iand => xbi (fun x y => x &&& y) pc ls st S
  | .ior => xbi (fun x y => x ||| y) pc ls st S
  | .ishl => xbi (fun x y => x <<< (y &&& 31)) pc ls st S
  | .ishr => xbi (fun x y => x >>> (y &&& 31)) pc ls st S
  | .idiv => match st with
    | .int y :: .int x :: r => if y = 0 then none else xnx (pc + 1) ls (.int (x / y) :: r) S
    | _ => none
  | .irem => match st with
    | .int y :: .int x :: r => if y = 0 then none else xnx (pc + 1) ls (.int (x - x / y * y) :: r) S
    | _ => none
  | .ineg => match st with
    | .int x :: r => xnx (pc + 1) ls (.int (-x) :: r) S
    | _ => none
  | .ladd => xbl (fun x y => x + y) pc ls st S
  | .lsub => xbl (fun x y => x - y) pc ls st S
  | .lmul => xbl (fun x y => x * y) pc ls st S
  | .land => xbl (fun x y => x &&& y) pc ls st S
  | .lor => xbl (fun x y => x ||| y) pc ls st S
  | .ldiv => match st with
    | .long y :: .long x :: r => if y = 0 then none else xnx (pc + 1) ls (.long (x / y) :: r) S
    | _ => none
  | .lrem => match st with
    | .long y :: .long x :: r => if y = 0 then none else xnx (pc + 1) ls (.long (x - x / y * y) :: r) S
    | _ => none
  | .lneg => match st with
    | .long x :: r => xnx (pc + 1) ls (.long (-x) :: r) S
    | _ => none
  | .lshl => match st with
    | .int y :: .long x :: r => xnx (pc + 1) ls (.long (x <<< (y.toInt64 &&& 63)) :: r) S
    | _ => none
  | .lshr => match st with
    | .int y :: .long x :: r => xnx (pc + 1) ls (.long (x >>> (y.toInt64 &&& 63)) :: r) S
    | _ => none
  | .lcmp => match st with
    | .long y :: .long x :: r => xnx (pc + 1) ls (.int (lg_cmp x y) :: r) S
    | _ => none
  | .i2l => match st with
    | .int x :: r => xnx (pc + 1) ls (.long x.toInt64 :: r) S
    | _ => none
  | .l2i => match st with
    | .long x :: r => xnx (pc + 1) ls (.int x.toInt32 :: r) S
    | _ => none
  | .dup => match st with
    | v :: r => if v.category = 1 then xnx (pc + 1) ls (v :: v :: r) S else none
    | _ => none
  | .pop => match st with
    | v :: r => if v.category = 1 then xnx (pc + 1) ls r S else none
    | _ => none
  | .dup2 => match st with
    | v :: w :: r => if v.category = 1 ∧ w.category = 1 then xnx (pc + 1) ls (v :: w :: v :: w :: r) S else none
    | _ => none
  | .goto off => xjp pc off ls st S
  | .ifCond c off => match st with
    | .int x :: r => if 0 ≤ (pc : Int) + off then (if xcmp c x 0 = true then xnx ((pc : Int) + off).toNat ls r S else xnx (pc + 3) ls r S) else none
    | _ => none
  | .if_icmp c off => match st with
    | .int y :: .int x :: r => if 0 ≤ (pc : Int) + off then (if xcmp c x y = true then xnx ((pc : Int) + off).toNat ls r S else xnx (pc + 3) ls r S) else none
    | _ => none
  | .tableswitch d lo hi offs => match st with
    | .int x :: r => if hi - lo + 1 = (offs.toList.length : Int) then xtt pc x ls r S d (xnum lo offs.toList) else none
    | _ => none
  | .lookupswitch d ps => match st with
    | .int x :: r => if (ps.toList.zip (ps.toList.drop 1)).all (fun (a, next) => a.1 < next.1) = true then xtt pc x ls r S d ps.toList else none
    | _ => none
  | .getfield j => match st with
    | .ref k :: r => (xfld (xown id) j).bind fun f => (xgf S k f.1 f.2.1).bind fun v => xnx (pc + 3) ls (v :: r) S
    | _ => none
  | .putfield j => match st with
    | .int x :: .ref k :: r => (xfld (xown id) j).bind fun f => if f.2.2.1 = true ∨ f.2.2.2.1 = false then none else (xpf S k f.1 f.2.1 x).bind fun S' => xnx (pc + 3) ls r S'
    | .ref a :: .ref k :: r => (xfld (xown id) j).bind fun f => if f.2.2.1 = true ∨ f.2.2.2.1 = true ∨ ¬ (xy id).name = "<init>" ∨ ¬ f.1 = xown id then none else (xpr S k f.1 f.2.1 a).bind fun S' => xnx (pc + 3) ls r S'
    | _ => none
  | .iaload => match st with
    | .int i :: .ref k :: r => (xal S k 0 i).bind fun v => xnx (pc + 1) ls (.int v :: r) S
    | .int i :: .retAddr 0 :: r => if xin i X.1 = true then xnx (pc + 1) ls (.int (X.2 i.toNatClampNeg) :: r) S else none
    | _ => none
  | .baload => match st with
    | .int i :: .ref k :: r => (xal S k 1 i).bind fun v => xnx (pc + 1) ls (.int v :: r) S
    | _ => none
  | .iastore => match st with
    | .int x :: .int i :: .ref k :: r => (xas S k 0 i x).bind fun S' => xnx (pc + 1) ls r S'
    | _ => none
  | .bastore => match st with
    | .int x :: .int i :: .ref k :: r => if (x = 0 ∨ x = 1) ∨ xbk S x = true then (xas S k 1 i x).bind fun S' => xnx (pc + 1) ls r S' else none
    | _ => none
  | .aaload => match st with
    | .int i :: .ref k :: r => (xaq S k i).bind fun v => xnx (pc + 1) ls (v :: r) S
    | _ => none
  | .aastore => match st with
    | .ref a :: .int i :: .ref k :: r => (xaw S k i a).bind fun S' => xnx (pc + 1) ls r S'
    | _ => none
  | .arraylength => match st with
    | .ref k :: r => (xle S k).bind fun v => xnx (pc + 1) ls (.int v :: r) S
    | .retAddr 0 :: r => xnx (pc + 1) ls (.int (Int32.ofNat X.1) :: r) S
    | _ => none
  | .newarray t => match st with
    | .int n :: r => match t with
      | .int => (xnwa S 0 n).bind fun S' => xnx (pc + 2) ls (.ref S.1.length :: r) S'
      | .boolean => (xnwa S 1 n).bind fun S' => xnx (pc + 2) ls (.ref S.1.length :: r) S'
      | _ => none
    | _ => none
  | .anewarray j => match st with
    | .int n :: r => (xnew (xown id) j).bind fun w => if w.1 = 1 then (xnwq S n).bind fun S' => xnx (pc + 3) ls (.ref S.1.length :: r) S' else none
    | _ => none
  | .new j => (xnew (xown id) j).bind fun w => (xnwo S w.1).bind fun S' => xnx (pc + 3) ls (.ref S.1.length :: st) S'
  | .invokestatic j => xinv id pc ls st S j [0, 3, 7, 9, 10, 11, 12]
  | .invokevirtual j => xinv id pc ls st S j [1, 8]
  | .invokespecial j => xinv id pc ls st S j [2, 5, 6]
  | .ireturn => xrt id st S
  | .lreturn => match st with
    | [.long x] => if xret id = some .long then some (.inr (.inl (some (.long x), S))) else none
    | _ => none
  | .areturn => match st with
    | [.ref a] => match xret id with
      | some (.object _) => some (.inr (.inl (some (.ref a), S)))
      | _ => none
    | _ => none
  | .return_ => match st with
    | [] => if xret id = none then some (.inr (.inl (none, S))) else none
    | _ => none
  | _ => none
def xstep (X : xX) (id : Nat) (fr : xF) : Option xR := match decode (xbc id) fr.1 with
  | .ok (i, n) => if n = xlen i n then xex X id i fr.1 fr.2.1 fr.2.2.1 fr.2.2.2 else none
  | .error _ => none
def xgo (k : xF → Option xO) (c : Nat → List Value → xS → Option xO) (r : Option xR) : Option xO := match r with
  | none => none
  | some (.inl fr) => k fr
  | some (.inr (.inl o)) => some o
  | some (.inr (.inr (j, as, fr))) => (c j as fr.2.2.2).bind (fun o => k (fr.1, fr.2.1, o.1.toList ++ fr.2.2.1, o.2))
def xsl : List Value → List Value
  | [] => []
  | v :: r => if v.category = 2 then v :: .float 0 :: xsl r else v :: xsl r
def xent (m : Nat) (as : List Value) : List Value := xsl as ++ List.replicate (m - (xsl as).length) (.float 0)
def xrm (id j : Nat) : Bool := decide (xrf j + 1 ≤ xrf id) && decide (19 + xml j + xrl j ≤ xrl id)
def xrun (X : xX) : Nat → Nat → xF → Option xO
  | 0, _, _ => none
  | n + 1, id, fr => xgo (xrun X n id) (fun j as S => if xrm id j = true ∧ (xsl as).length ≤ xml j then xrun X n j (0, xent (xml j) as, [], S) else none) (xstep X id fr)
