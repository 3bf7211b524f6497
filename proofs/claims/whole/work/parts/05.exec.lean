/-! THE PURE MACHINE: bytecode over a memory of numbered cells, without heap, classes or launch. A cell's number is its distance from the first one; .retAddr k stands for the k-th String constant, .float 0 for a local of which nothing is known. -/
abbrev xS : Type := List (Nat × Nat) × (Nat → Nat → Int32) × (Nat → Nat → Option Nat) × (Nat → Nat → Int64)
abbrev xO : Type := Option (Option Value × xS)
def xu2 {α : Type} (f : Nat → Nat → α) (a k : Nat) (v : α) : Nat → Nat → α := fun b => if b = a then va_up (f a) k v else f b
def xSI (S : xS) (a k : Nat) (v : Int32) : xS := (S.1, xu2 S.2.1 a k v, S.2.2.1, S.2.2.2)
def xSR (S : xS) (a k : Nat) (v : Option Nat) : xS := (S.1, S.2.1, xu2 S.2.2.1 a k v, S.2.2.2)
def xSL (S : xS) (a k : Nat) (v : Int64) : xS := (S.1, S.2.1, S.2.2.1, xu2 S.2.2.2 a k v)
/-- one cell more, all 0 -/
def xNew (S : xS) (t n : Nat) : xS := (S.1 ++ [(t, n)], (fun b => if b = S.1.length then (fun _ => 0) else S.2.1 b), (fun b => if b = S.1.length then (fun _ => none) else S.2.2.1 b), (fun b => if b = S.1.length then (fun _ => 0) else S.2.2.2 b))
def xrf (r : Option Nat) : Value := va_rf r
def xI1 (st : List Value) (k : Int32 → List Value → xO) : xO := match st with
  | .int a :: r => k a r
  | _ => none
def xI2 (st : List Value) (k : Int32 → Int32 → List Value → xO) : xO := match st with
  | .int b :: .int a :: r => k a b r
  | _ => none
def xL1 (st : List Value) (k : Int64 → List Value → xO) : xO := match st with
  | .long a :: r => k a r
  | _ => none
def xL2 (st : List Value) (k : Int64 → Int64 → List Value → xO) : xO := match st with
  | .long b :: .long a :: r => k a b r
  | _ => none
def xR1 (st : List Value) (k : Nat → List Value → xO) : xO := match st with
  | .ref a :: r => k a r
  | _ => none
def xV1 (st : List Value) (k : Value → List Value → xO) : xO := match st with
  | v :: r => k v r
  | _ => none
/-- what a cell of ints takes: int, char, byte, boolean -/
def xnar (t : Nat) (x : Int32) : Int32 := if t = 20 then x else if t = 21 then vp_nar .char x else if t = 22 then vp_nar .byte x else vp_nar .boolean x
def xtgt (pc : Nat) (off : Int) : Option Nat := match (pc : Int) + off with
  | .ofNat t => some t
  | .negSucc _ => none
def xjmp (pc : Nat) (off : Int) (k : Nat → xO) : xO := match xtgt pc off with
  | some t => k t
  | none => none
def xcmp (c : ClassFile.Cond) (x y : Int32) : Bool := match c with
  | .eq => decide (x = y)
  | .ne => decide (¬ x = y)
  | .lt => decide (x < y)
  | .ge => decide (y ≤ x)
  | .gt => decide (y < x)
  | .le => decide (x ≤ y)
def xcat2 (v : Option Value) : Bool := match v with
  | some (.long _) => true
  | some (.double _) => true
  | _ => false
/-- a local of one slot -/
def xst1 (ls : List Value) (i : Nat) (v : Value) (k : List Value → xO) : xO :=
  if i < ls.length ∧ (i = 0 ∨ xcat2 ls[i - 1]? = false) then k (ls.set i v) else none
def xst2 (ls : List Value) (i : Nat) (v : Value) (k : List Value → xO) : xO :=
  if i + 1 < ls.length ∧ (i = 0 ∨ xcat2 ls[i - 1]? = false) then k ((ls.set i v).set (i + 1) (.float 0)) else none
def xargs : List Value → List Value
  | [] => []
  | v :: vs => if v.category = 2 then v :: .float 0 :: xargs vs else v :: xargs vs
def xent (as : List Value) (maxL : Nat) : List Value := xargs as ++ List.replicate (maxL - (xargs as).length) (.float 0)
def xisref (v : Value) : Bool := match v with
  | .ref _ => true
  | .null => true
  | .retAddr _ => true
  | _ => false
def xin (i : Int32) (n : Nat) : Prop := ¬ (i < 0 ∨ n ≤ i.toNatClampNeg)
def xald (st : List Value) (S : xS) (k : Nat → Nat → Nat → List Value → xO) : xO := match st with
  | .int j :: .ref a :: r => match S.1[a]? with
    | some (t, n) => if j < 0 ∨ n ≤ j.toNatClampNeg then none else k t a j.toNatClampNeg r
    | none => none
  | _ => none
def xast (st : List Value) (S : xS) (k : Nat → Nat → Nat → Value → List Value → xO) : xO := match st with
  | v :: .int j :: .ref a :: r => match S.1[a]? with
    | some (t, n) => if j < 0 ∨ n ≤ j.toNatClampNeg then none else k t a j.toNatClampNeg v r
    | none => none
  | _ => none
def xld (ls : List Value) (i : Nat) (k : Value → xO) : xO := match ls[i]? with
  | some v => k v
  | none => none
def xpop (n : Nat) (st : List Value) (k : List Value → List Value → xO) : xO := if n ≤ st.length then k (st.take n).reverse (st.drop n) else none
def xthis (as : List Value) (S : xS) (k : Nat → xO) : xO := match as with
  | .ref a :: _ => match S.1[a]? with
    | some (t, _) => k t
    | none => none
  | _ => none
/-- bytes an instruction has -/
def xlen (i : Instr) : Nat := match i with
  | .aload _ | .astore _ | .iload _ | .istore _ | .lload _ | .lstore _ | .bipush _ | .ldc _ | .newarray _ => 2
  | .getfield _ | .putfield _ | .invokevirtual _ | .invokestatic _ | .invokespecial _ | .if_icmp _ _ | .ifCond _ _ | .goto _ | .sipush _ | .iinc _ _ | .ldc2_w _ | .ldc_w _ | .ifnull _ | .ifnonnull _ | .new _ | .anewarray _ => 3
  | .multianewarray _ _ => 4
  | _ => 1
def xaty (a : ArrayType) : Nat := match a with
  | .int => 20
  | .char => 21
  | .byte => 22
  | .boolean => 23
  | .long => 24
  | _ => 99
/-- rows of a new int[n][k]: the outer one, and behind it its rows -/
def xrows (S : xS) (n k : Nat) : xS := (S.1 ++ (27, n) :: List.replicate n (20, k), (fun b => if S.1.length ≤ b then (fun _ => 0) else S.2.1 b), (fun b => if b = S.1.length then (fun j => if j < n then some (S.1.length + 1 + j) else none) else if S.1.length < b then (fun _ => none) else S.2.2.1 b), (fun b => if S.1.length ≤ b then (fun _ => 0) else S.2.2.2 b))
def xretI (ret : Option FieldType) (st : List Value) (S : xS) : xO := match ret, st with
  | some ty, [.int x] => if narrow ty (.int x) = .int x then some (some (.int x), S) else none
  | _, _ => none
def xretL (ret : Option FieldType) (st : List Value) (S : xS) : xO := match ret, st with
  | some .long, [.long x] => some (some (.long x), S)
  | _, _ => none
def xretA (ret : Option FieldType) (st : List Value) (S : xS) : xO := match ret, st with
  | some (.object _), [v] => if xisref v = true then some (some v, S) else none
  | some (.array _), [v] => if xisref v = true then some (some v, S) else none
  | _, _ => none
def xretV (ret : Option FieldType) (st : List Value) (S : xS) : xO := match ret, st with
  | none, [] => some (none, S)
  | _, _ => none
/-- a final field is written by the constructors of its own class alone -/
def xfok (ini : Bool) (o ci f z : Nat) : Bool := !xfin ci f || (ini && o == ci && z == 0)
/-- one instruction; 'go' goes on in the method, 'call' calls method j -/
def xstep (al : Bool) (o : Nat) (ret : Option FieldType) (ini : Bool) (go : Nat → List Value → List Value → xS → xO) (call : Nat → List Value → xS → xO) (i : Instr) (len : Nat) (pc : Nat) (ls st : List Value) (S : xS) : xO := match i with
  | .iconst n => go (pc + 1) ls (.int (Int32.ofInt n) :: st) S
  | .bipush n => go (pc + 2) ls (.int (Int8.ofInt n).toInt32 :: st) S
  | .sipush n => go (pc + 3) ls (.int (Int16.ofInt n).toInt32 :: st) S
  | .aconst_null => go (pc + 1) ls (.null :: st) S
  | .lconst n => go (pc + 1) ls (.long (Int64.ofNat (n : Nat)) :: st) S
  | .iload_n k => xld ls k fun v => xI1 [v] fun x _ => go (pc + 1) ls (.int x :: st) S
  | .iload k => xld ls k fun v => xI1 [v] fun x _ => go (pc + 2) ls (.int x :: st) S
  | .lload_n k => xld ls k fun v => xL1 [v] fun x _ => go (pc + 1) ls (.long x :: st) S
  | .lload k => xld ls k fun v => xL1 [v] fun x _ => go (pc + 2) ls (.long x :: st) S
  | .aload_n k => xld ls k fun v => if xisref v = true then go (pc + 1) ls (v :: st) S else none
  | .aload k => xld ls k fun v => if xisref v = true then go (pc + 2) ls (v :: st) S else none
  | .istore_n k => xI1 st fun x r => xst1 ls k (.int x) fun ls' => go (pc + 1) ls' r S
  | .istore k => xI1 st fun x r => xst1 ls k (.int x) fun ls' => go (pc + 2) ls' r S
  | .lstore_n k => xL1 st fun x r => xst2 ls k (.long x) fun ls' => go (pc + 1) ls' r S
  | .lstore k => xL1 st fun x r => xst2 ls k (.long x) fun ls' => go (pc + 2) ls' r S
  | .astore_n k => xV1 st fun v r => if xisref v = true then xst1 ls k v fun ls' => go (pc + 1) ls' r S else none
  | .astore k => xV1 st fun v r => if xisref v = true then xst1 ls k v fun ls' => go (pc + 2) ls' r S else none
  | .iinc k n => xld ls k fun v => xI1 [v] fun x _ => xst1 ls k (.int (x + Int32.ofInt n)) fun ls' => go (pc + 3) ls' st S
  | .iadd => xI2 st fun x y r => go (pc + 1) ls (.int (x + y) :: r) S
  | .isub => xI2 st fun x y r => go (pc + 1) ls (.int (x - y) :: r) S
  | .imul => xI2 st fun x y r => go (pc + 1) ls (.int (x * y) :: r) S
  | .idiv => xI2 st fun x y r => if y = 0 then none else go (pc + 1) ls (.int (x / y) :: r) S
  | .irem => xI2 st fun x y r => if y = 0 then none else go (pc + 1) ls (.int (x - x / y * y) :: r) S
  | .iand => xI2 st fun x y r => go (pc + 1) ls (.int (x &&& y) :: r) S
  | .ior => xI2 st fun x y r => go (pc + 1) ls (.int (x ||| y) :: r) S
  | .ixor => xI2 st fun x y r => go (pc + 1) ls (.int (x ^^^ y) :: r) S
  | .ishl => xI2 st fun x y r => go (pc + 1) ls (.int (x <<< (y &&& 31)) :: r) S
  | .ishr => xI2 st fun x y r => go (pc + 1) ls (.int (x >>> (y &&& 31)) :: r) S
  | .iushr => xI2 st fun x y r => go (pc + 1) ls (.int (x.toUInt32 >>> (y.toUInt32 &&& Int32.toUInt32 31)).toInt32 :: r) S
  | .ineg => xI1 st fun x r => go (pc + 1) ls (.int (-x) :: r) S
  | .i2l => xI1 st fun x r => go (pc + 1) ls (.long x.toInt64 :: r) S
  | .i2b => xI1 st fun x r => go (pc + 1) ls (.int x.toInt8.toInt32 :: r) S
  | .i2c => xI1 st fun x r => go (pc + 1) ls (.int (x.toUInt32 % 65536).toInt32 :: r) S
  | .ladd => xL2 st fun x y r => go (pc + 1) ls (.long (x + y) :: r) S
  | .lsub => xL2 st fun x y r => go (pc + 1) ls (.long (x - y) :: r) S
  | .lmul => xL2 st fun x y r => go (pc + 1) ls (.long (x * y) :: r) S
  | .ldiv => xL2 st fun x y r => if y = 0 then none else go (pc + 1) ls (.long (x / y) :: r) S
  | .lrem => xL2 st fun x y r => if y = 0 then none else go (pc + 1) ls (.long (x - x / y * y) :: r) S
  | .lor => xL2 st fun x y r => go (pc + 1) ls (.long (x ||| y) :: r) S
  | .land => xL2 st fun x y r => go (pc + 1) ls (.long (x &&& y) :: r) S
  | .lshl => xI1 st fun y r => xL1 r fun x r => go (pc + 1) ls (.long (x <<< (y.toInt64 &&& 63)) :: r) S
  | .lcmp => xL2 st fun x y r => go (pc + 1) ls (.int (lg_cmp x y) :: r) S
  | .dup => xV1 st fun v r => if v.category = 1 then go (pc + 1) ls (v :: v :: r) S else none
  | .dup2 => xV1 st fun v r => xV1 r fun w r => if v.category = 1 ∧ w.category = 1 then go (pc + 1) ls (v :: w :: v :: w :: r) S else none
  | .pop => xV1 st fun v r => if v.category = 1 then go (pc + 1) ls r S else none
  | .goto off => xjmp pc off fun t => go t ls st S
  | .if_icmp c off => xI2 st fun x y r => xjmp pc off fun t => if xcmp c x y = true then go t ls r S else go (pc + 3) ls r S
  | .ifCond c off => xI1 st fun x r => xjmp pc off fun t => if xcmp c x 0 = true then go t ls r S else go (pc + 3) ls r S
  | .ifnull off => xV1 st fun v r => xjmp pc off fun t => match v with
    | .null => go t ls r S
    | .ref _ => go (pc + 3) ls r S
    | _ => none
  | .ifnonnull off => xV1 st fun v r => xjmp pc off fun t => match v with
    | .null => go (pc + 3) ls r S
    | .ref _ => go t ls r S
    | _ => none
  | .tableswitch dflt lo hi offs => xI1 st fun x r => if x.toInt < lo ∨ hi < x.toInt then xjmp pc dflt fun t => go t ls r S else match offs[(x.toInt - lo).toNat]? with
    | some off => xjmp pc off fun t => go t ls r S
    | none => none
  | .lookupswitch dflt ps => xI1 st fun x r => if (ps.toList.zip (ps.toList.drop 1)).all (fun (a, next) => a.1 < next.1) = true then xjmp pc (Op.lookupswitch.offset ps.toList dflt x.toInt) fun t => go t ls r S else none
  | .ldc k => match xlk o k with
    | some [9] => go (pc + 2) ls (.int (xKI o k) :: st) S
    | some [11, s] => go (pc + 2) ls (.retAddr s :: st) S
    | _ => none
  | .ldc_w k => match xlk o k with
    | some [9] => go (pc + 3) ls (.int (xKI o k) :: st) S
    | _ => none
  | .ldc2_w k => match xlk o k with
    | some [10] => go (pc + 3) ls (.long (xKL o k) :: st) S
    | _ => none
  | .getfield k => xR1 st fun a r => match xlk o k with
    | some [0, ci, f, _] => if S.1[a]? = some (ci, xnf ci) ∧ f < xnf ci then go (pc + 3) ls ((if xtg ci f = 1 then .long (S.2.2.2 a f) else if xtg ci f = 2 then xrf (S.2.2.1 a f) else .int (S.2.1 a f)) :: r) S else none
    | _ => none
  | .putfield k => xV1 st fun v r => xR1 r fun a r => match xlk o k with
    | some [0, ci, f, z] => if S.1[a]? = some (ci, xnf ci) ∧ f < xnf ci ∧ xfok ini o ci f z = true then match v with
      | .int x => if xtg ci f = 0 ∨ (xtg ci f = 3 ∧ (x = 0 ∨ x = 1)) then go (pc + 3) ls r (xSI S a f x) else none
      | .long x => if xtg ci f = 1 then go (pc + 3) ls r (xSL S a f x) else none
      | .ref b => if xtg ci f = 2 then go (pc + 3) ls r (xSR S a f (some b)) else none
      | _ => none
      else none
    | _ => none
  | .iaload => xald st S fun t a j r => if t = 20 then go (pc + 1) ls (.int (S.2.1 a j) :: r) S else none
  | .caload => xald st S fun t a j r => if t = 21 then go (pc + 1) ls (.int (S.2.1 a j) :: r) S else none
  | .baload => xald st S fun t a j r => if t = 22 ∨ t = 23 then go (pc + 1) ls (.int (S.2.1 a j) :: r) S else none
  | .aaload => xald st S fun t a j r => if t = 25 ∨ t = 26 ∨ t = 27 then go (pc + 1) ls (xrf (S.2.2.1 a j) :: r) S else none
  | .iastore => xast st S fun t a j v r => if t = 20 then xI1 [v] fun x _ => go (pc + 1) ls r (xSI S a j x) else none
  | .castore => xast st S fun t a j v r => if t = 21 then xI1 [v] fun x _ => go (pc + 1) ls r (xSI S a j (vp_nar .char x)) else none
  | .bastore => xast st S fun t a j v r => if t = 22 then xI1 [v] fun x _ => go (pc + 1) ls r (xSI S a j (vp_nar .byte x)) else if t = 23 then xI1 [v] fun x _ => go (pc + 1) ls r (xSI S a j (vp_nar .boolean x)) else none
  | .aastore => xast st S fun t a j v r => xR1 [v] fun b _ => if (t = 25 ∧ S.1[b]? = some (3, xnf 3)) ∨ (t = 26 ∧ S.1[b]? = some (1, xnf 1)) then go (pc + 1) ls r (xSR S a j (some b)) else none
  | .arraylength => xR1 st fun a r => match S.1[a]? with
    | some (t, n) => if 20 ≤ t ∧ t < 28 then go (pc + 1) ls (.int (Int32.ofNat n) :: r) S else none
    | none => none
  | .ireturn => xretI ret st S
  | .lreturn => xretL ret st S
  | .areturn => xretA ret st S
  | .return_ => xretV ret st S
  | .invokevirtual k => match xlk o k with
    | some [1, kd, j] => if kd = 0 ∨ kd = 1 then xpop (xMI j).2.1 st fun as r => xthis as S fun t => if t = (xMI j).1 ∧ t < 12 ∧ (r.map fun v => v.category).sum ≤ 8 then match call j as S with
      | some (v, S1) => go (pc + 3) ls (v.toList ++ r) S1
      | none => none
      else none
      else none
    | some [3, j1, j2] => xpop (xMI (if j1 = 9999 then j2 else j1)).2.1 st fun as r => xthis as S fun t => if (t = 7 ∨ t = 9) ∧ (r.map fun v => v.category).sum ≤ 8 then match call (if t = 7 then j1 else j2) as S with
      | some (v, S1) => go (pc + 3) ls (v.toList ++ r) S1
      | none => none
      else none
    | some [4] => match st with
      | .retAddr s :: r => if s < 9 ∧ (r.map fun v => v.category).sum ≤ 8 then go (pc + 3) ls (.int (Int32.ofNat (xStr s).length) :: r) S else none
      | _ => none
    | some [5] => match st with
      | .int i :: .retAddr s :: r => if (i < 0 ∨ (xStr s).length ≤ i.toNatClampNeg) ∨ ¬ (s < 9 ∧ (r.map fun v => v.category).sum ≤ 8) then none else go (pc + 3) ls (.int (Int32.ofNat ((xStr s).getD i.toNatClampNeg 0)) :: r) S
      | _ => none
    | _ => none
  | .invokestatic k => match xlk o k with
    | some [1, kd, j] => if kd = 2 ∨ kd = 3 then xpop (xMI j).2.1 st fun as r => if (r.map fun v => v.category).sum ≤ 8 then match call j as S with
      | some (v, S1) => go (pc + 3) ls (v.toList ++ r) S1
      | none => none
      else none
      else none
    | some [12] => xI2 st fun x y r => if (r.map fun v => v.category).sum ≤ 8 then go (pc + 3) ls (.int (if x < y then y else x) :: r) S else none
    | some [13] => xI2 st fun x y r => if (r.map fun v => v.category).sum ≤ 8 then go (pc + 3) ls (.int (if y < x then y else x) :: r) S else none
    | some [14] => xL2 st fun x y r => if (r.map fun v => v.category).sum ≤ 8 then go (pc + 3) ls (.long (if y < x then y else x) :: r) S else none
    | _ => none
  | .invokespecial k => match xlk o k with
    | some [2] => xR1 st fun _ r => if (r.map fun v => v.category).sum ≤ 8 then go (pc + 3) ls r S else none
    | some [1, kd, j] => if kd = 4 ∨ kd = 5 then xpop (xMI j).2.1 st fun as r => xthis as S fun _ => if (r.map fun v => v.category).sum ≤ 8 then match call j as S with
      | some (none, S1) => go (pc + 3) ls r S1
      | _ => none
      else none
      else none
    | _ => none
  | .new k => match xlk o k with
    | some [6, ci] => if al = true then go (pc + 3) ls (.ref S.1.length :: st) (xNew S ci (xnf ci)) else none
    | _ => none
  | .newarray a => xI1 st fun n r => if al = true ∧ ¬ n < 0 ∧ n.toNatClampNeg ≤ 100000 ∧ xaty a < 24 then go (pc + 2) ls (.ref S.1.length :: r) (xNew S (xaty a) n.toNatClampNeg) else none
  | .anewarray k => xI1 st fun n r => match xlk o k with
    | some [6, ci] => if al = true ∧ ¬ n < 0 ∧ n.toNatClampNeg ≤ 100000 ∧ (ci = 3 ∨ ci = 1) then go (pc + 3) ls (.ref S.1.length :: r) (xNew S (if ci = 3 then 25 else 26) n.toNatClampNeg) else none
    | _ => none
  | .multianewarray k dm => xI1 st fun m r => xI1 r fun n r => match xlk o k with
    | some [8] => if al = true ∧ dm = 2 ∧ ¬ n < 0 ∧ ¬ m < 0 ∧ n.toNatClampNeg ≤ 1000 ∧ m.toNatClampNeg ≤ 1000 then go (pc + 4) ls (.ref S.1.length :: r) (xrows S n.toNatClampNeg m.toNatClampNeg) else none
    | _ => none
  | _ => none
def xsw (i : Instr) : Bool := match i with
  | .tableswitch _ _ _ _ => true
  | .lookupswitch _ _ => true
  | _ => false
/-- n: fuel, d: how many calls may stand open below -/
def xrun (al : Bool) : Nat → Nat → Nat → ByteArray → Option FieldType → Bool → Nat → List Value → List Value → xS → xO
  | 0, _, _, _, _, _, _, _, _, _ => none
  | n + 1, d, o, cc, ret, ini, pc, ls, st, S => match decode cc pc with
    | .ok (i, len) => if len = xlen i ∨ xsw i = true then
        xstep al o ret ini (fun pc ls st S => xrun al n d o cc ret ini pc ls st S) (fun j as S => match d with
          | 0 => none
          | d + 1 => if as.length = (xMI j).2.1 ∧ (xargs as).length ≤ (xMI j).2.2.1 ∧ j < 296 then xrun al n d (xMI j).1 (xMI j).2.2.2.2.1 (xMI j).2.2.2.2.2.1 (xMI j).2.2.2.2.2.2.1 0 (xent as (xMI j).2.2.1) [] S else none) i len pc ls st S
        else none
    | _ => none
