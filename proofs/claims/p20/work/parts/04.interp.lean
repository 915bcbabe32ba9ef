/-! A small machine of our own: the same instructions over a list of cells. What it comes to, the machine comes to ('z_sound'). -/
/-- a cell: its kind (0 .. 11 a class, 12 ints, 13 longs, 14 booleans, 15 .. 18 references), its length, what it holds -/
abbrev XC : Type := Nat × Nat × (Nat → Value)
abbrev XH : Type := List XC
abbrev XL : Type := List (Nat × Value)
abbrev XR : Type := Option Value × XH
abbrev XS : Type := Nat × XL × List Value × XH
def xI : Value → Int32
  | .int x => x
  | _ => 0
def xJ : Value → Int64
  | .long x => x
  | _ => 0
def xR : Value → Option Nat
  | .ref a => some a
  | _ => none
def xget : XL → Nat → Option Value
  | [], _ => none
  | (j, v) :: t, i => bif j == i then some v else xget t i
def xkeep (i c : Nat) (q : Nat × Value) : Bool := !(q.1 + 1 == i && q.2.category == 2) && !(c == 2 && q.1 == i + 1)
def xins (i : Nat) (v : Value) : XL → XL
  | [] => [(i, v)]
  | (j, w) :: t => bif j == i then (i, v) :: t.filter (fun q => !(q.1 == i)) else (j, w) :: xins i v t
def xput (i : Nat) (v : Value) (L : XL) : XL := xins i v (L.filter (xkeep i v.category))
/-- instructions that touch the stack alone -/
def xop (i : Instr) (st : List Value) : Option (List Value) := match i with
  | .iconst n => some (.int (Int32.ofInt n) :: st)
  | .bipush n => some (.int (Int8.ofInt n).toInt32 :: st)
  | .sipush n => some (.int (Int16.ofInt n).toInt32 :: st)
  | .lconst n => some (.long (Int64.ofNat (n : Nat)) :: st)
  | .iadd => match st with | .int y :: .int x :: r => some (.int (x + y) :: r) | _ => none
  | .isub => match st with | .int y :: .int x :: r => some (.int (x - y) :: r) | _ => none
  | .imul => match st with | .int y :: .int x :: r => some (.int (x * y) :: r) | _ => none
  | .iand => match st with | .int y :: .int x :: r => some (.int (x &&& y) :: r) | _ => none
  | .ior => match st with | .int y :: .int x :: r => some (.int (x ||| y) :: r) | _ => none
  | .ishl => match st with | .int y :: .int x :: r => some (.int (x <<< (y &&& 31)) :: r) | _ => none
  | .ishr => match st with | .int y :: .int x :: r => some (.int (x >>> (y &&& 31)) :: r) | _ => none
  | .idiv => match st with | .int y :: .int x :: r => if y = 0 then none else some (.int (x / y) :: r) | _ => none
  | .irem => match st with | .int y :: .int x :: r => if y = 0 then none else some (.int (x - x / y * y) :: r) | _ => none
  | .ineg => match st with | .int x :: r => some (.int (-x) :: r) | _ => none
  | .i2l => match st with | .int x :: r => some (.long x.toInt64 :: r) | _ => none
  | .l2i => match st with | .long x :: r => some (.int x.toInt32 :: r) | _ => none
  | .i2b => match st with | .int x :: r => some (.int x.toInt8.toInt32 :: r) | _ => none
  | .i2s => match st with | .int x :: r => some (.int x.toInt16.toInt32 :: r) | _ => none
  | .ladd => match st with | .long y :: .long x :: r => some (.long (x + y) :: r) | _ => none
  | .land => match st with | .long y :: .long x :: r => some (.long (x &&& y) :: r) | _ => none
  | .lor => match st with | .long y :: .long x :: r => some (.long (x ||| y) :: r) | _ => none
  | .lxor => match st with | .long y :: .long x :: r => some (.long (x ^^^ y) :: r) | _ => none
  | .lcmp => match st with | .long y :: .long x :: r => some (.int (lg_cmp x y) :: r) | _ => none
  | .lshl => match st with | .int y :: .long x :: r => some (.long (x <<< (y.toInt64 &&& 63)) :: r) | _ => none
  | .lushr => match st with | .int y :: .long x :: r => some (.long (x.toUInt64 >>> (y.toInt64.toUInt64 &&& Int64.toUInt64 63)).toInt64 :: r) | _ => none
  | .dup => match st with | a :: r => if a.category = 1 then some (a :: a :: r) else none | _ => none
  | .pop => match st with | a :: r => if a.category = 1 then some r else none | _ => none
  | .pop2 => match st with | a :: r => if a.category = 2 then some r else none | _ => none
  | .dup_x1 => match st with | a :: b :: r => if a.category = 1 ∧ b.category = 1 then some (a :: b :: a :: r) else none | _ => none
  | .dup_x2 => match st with | a :: b :: d :: r => if a.category = 1 ∧ b.category = 1 ∧ d.category = 1 then some (a :: b :: d :: a :: r) else none | _ => none
  | .dup2 => match st with | a :: b :: r => if a.category = 1 ∧ b.category = 1 then some (a :: b :: a :: b :: r) else none | _ => none
  | _ => none
def oInt : Value → Option Value
  | .int x => some (.int x)
  | _ => none
def oLong : Value → Option Value
  | .long x => some (.long x)
  | _ => none
def oRef : Value → Option Value
  | .ref x => some (.ref x)
  | _ => none
/-- instructions that read a local -/
def xld (i : Instr) (L : XL) : Option Value := match i with
  | .iload k => (xget L k).bind oInt
  | .iload_n k => (xget L (k : Nat)).bind oInt
  | .lload k => (xget L k).bind oLong
  | .lload_n k => (xget L (k : Nat)).bind oLong
  | .aload k => (xget L k).bind oRef
  | .aload_n k => (xget L (k : Nat)).bind oRef
  | _ => none
def xstI (nL k : Nat) (L : XL) : List Value → Option (XL × List Value)
  | .int x :: r => if k < nL then some (xput k (.int x) L, r) else none
  | _ => none
def xstJ (nL k : Nat) (L : XL) : List Value → Option (XL × List Value)
  | .long x :: r => if k + 1 < nL then some (xput k (.long x) L, r) else none
  | _ => none
def xstR (nL k : Nat) (L : XL) : List Value → Option (XL × List Value)
  | .ref x :: r => if k < nL then some (xput k (.ref x) L, r) else none
  | _ => none
/-- instructions that write a local -/
def xst (nL : Nat) (i : Instr) (L : XL) (st : List Value) : Option (XL × List Value) := match i with
  | .istore k => xstI nL k L st
  | .istore_n k => xstI nL (k : Nat) L st
  | .lstore k => xstJ nL k L st
  | .lstore_n k => xstJ nL (k : Nat) L st
  | .astore k => xstR nL k L st
  | .astore_n k => xstR nL (k : Nat) L st
  | .iinc k n => if k < nL then (match xget L k with | some (.int x) => some (xput k (.int (x + Int32.ofInt n)) L, st) | _ => none) else none
  | _ => none
/-- branches: where to, and the stack behind -/
def xbr (i : Instr) (tgt pc : Nat) (st : List Value) : Option (Nat × List Value) := match i with
  | .goto _ => some (tgt, st)
  | .if_icmp .eq _ => match st with | .int y :: .int x :: r => some (if x = y then tgt else pc + 3, r) | _ => none
  | .if_icmp .ne _ => match st with | .int y :: .int x :: r => some (if ¬ x = y then tgt else pc + 3, r) | _ => none
  | .if_icmp .lt _ => match st with | .int y :: .int x :: r => some (if x < y then tgt else pc + 3, r) | _ => none
  | .if_icmp .ge _ => match st with | .int y :: .int x :: r => some (if y ≤ x then tgt else pc + 3, r) | _ => none
  | .if_icmp .gt _ => match st with | .int y :: .int x :: r => some (if y < x then tgt else pc + 3, r) | _ => none
  | .if_icmp .le _ => match st with | .int y :: .int x :: r => some (if x ≤ y then tgt else pc + 3, r) | _ => none
  | .ifCond .eq _ => match st with | .int x :: r => some (if x = 0 then tgt else pc + 3, r) | _ => none
  | .ifCond .ne _ => match st with | .int x :: r => some (if ¬ x = 0 then tgt else pc + 3, r) | _ => none
  | .ifCond .lt _ => match st with | .int x :: r => some (if x < 0 then tgt else pc + 3, r) | _ => none
  | .ifCond .ge _ => match st with | .int x :: r => some (if 0 ≤ x then tgt else pc + 3, r) | _ => none
  | .ifCond .gt _ => match st with | .int x :: r => some (if 0 < x then tgt else pc + 3, r) | _ => none
  | .ifCond .le _ => match st with | .int x :: r => some (if x ≤ 0 then tgt else pc + 3, r) | _ => none
  | .tableswitch dflt lo hi offs => match st with
    | .int x :: r => if x.toInt < lo ∨ hi < x.toInt then (if 0 ≤ (pc : Int) + dflt then some (((pc : Int) + dflt).toNat, r) else none) else (match offs[(x.toInt - lo).toNat]? with | some off => (if 0 ≤ (pc : Int) + off then some (((pc : Int) + off).toNat, r) else none) | none => none)
    | _ => none
  | .lookupswitch dflt ps => match st with
    | .int x :: r => if 0 ≤ (pc : Int) + Op.lookupswitch.offset ps.toList dflt x.toInt then some (((pc : Int) + Op.lookupswitch.offset ps.toList dflt x.toInt).toNat, r) else none
    | _ => none
  | _ => none
/-- the class of what an array of references holds -/
def zAe (k : Nat) : Nat := if k = 15 then 0 else if k = 16 then 3 else if k = 17 then 5 else 8
/-- fields that may be written: 0 an int, 1 a boolean, 2 a reference, 3 a reference that is final -/
def zFt (ci k : Nat) : Nat := ((zFts[ci]?).bind (fun l => l[k]?)).getD 9
def xfit (t : Nat) (v : Value) : Bool := match v with
  | .int x => t == 0 || (t == 1 && (x == 0 || x == 1))
  | .ref n => (t == 2 || t == 3) && !(n == 0)
  | _ => false
def zDef (t : Nat) : Value := bif t == 0 || t == 1 then .int 0 else .null
/-- a new object of a class -/
def zNw (ci : Nat) : Option XC := match zFts[ci]? with
  | some l => some (ci, l.length, fun j => match l[j]? with | some t => zDef t | none => .null)
  | none => none
/-- instructions that touch the heap; xs: the script, its length and 1 (0: there is none) -/
def xhp (xs : Nat × (Nat → Int32)) (ini : Bool) (o : Nat) (e : zE) (st : List Value) (h : XH) : Option (List Value × XH) := match e.1 with
  | .getfield _ => match st with
    | .ref (n + 1) :: r => match h[n]? with
      | some c => if c.1 = e.2.1 ∧ e.2.2.1 < c.2.1 then some (c.2.2 e.2.2.1 :: r, h) else none
      | none => none
    | _ => none
  | .putfield _ => match st with
    | v :: .ref (n + 1) :: r => match h[n]? with
      | some c => if c.1 = e.2.1 ∧ e.2.2.1 < c.2.1 ∧ xfit (zFt e.2.1 e.2.2.1) v = true ∧ (zFt e.2.1 e.2.2.1 = 3 → ini = true ∧ o = e.2.1) then some (r, h.set n (c.1, c.2.1, updV c.2.2 e.2.2.1 v)) else none
      | none => none
    | _ => none
  | .iaload => match st with
    | .int i :: .ref 0 :: r => if ¬ (i < 0 ∨ xs.1 - 1 ≤ i.toNatClampNeg) then some (.int (xs.2 i.toNatClampNeg) :: r, h) else none
    | .int i :: .ref (n + 1) :: r => match h[n]? with
      | some c => if c.1 = 12 ∧ ¬ (i < 0 ∨ c.2.1 ≤ i.toNatClampNeg) then some (.int (xI (c.2.2 i.toNatClampNeg)) :: r, h) else none
      | none => none
    | _ => none
  | .baload => match st with
    | .int i :: .ref (n + 1) :: r => match h[n]? with
      | some c => if c.1 = 14 ∧ ¬ (i < 0 ∨ c.2.1 ≤ i.toNatClampNeg) then some (.int (xI (c.2.2 i.toNatClampNeg)) :: r, h) else none
      | none => none
    | _ => none
  | .laload => match st with
    | .int i :: .ref (n + 1) :: r => match h[n]? with
      | some c => if c.1 = 13 ∧ ¬ (i < 0 ∨ c.2.1 ≤ i.toNatClampNeg) then some (.long (xJ (c.2.2 i.toNatClampNeg)) :: r, h) else none
      | none => none
    | _ => none
  | .aaload => match st with
    | .int i :: .ref (n + 1) :: r => match h[n]? with
      | some c => if 15 ≤ c.1 ∧ c.1 ≤ 18 ∧ ¬ (i < 0 ∨ c.2.1 ≤ i.toNatClampNeg) then some (va_rf (xR (c.2.2 i.toNatClampNeg)) :: r, h) else none
      | none => none
    | _ => none
  | .iastore => match st with
    | .int x :: .int i :: .ref (n + 1) :: r => match h[n]? with
      | some c => if c.1 = 12 ∧ ¬ (i < 0 ∨ c.2.1 ≤ i.toNatClampNeg) then some (r, h.set n (c.1, c.2.1, updV c.2.2 i.toNatClampNeg (.int x))) else none
      | none => none
    | _ => none
  | .bastore => match st with
    | .int x :: .int i :: .ref (n + 1) :: r => match h[n]? with
      | some c => if c.1 = 14 ∧ ¬ (i < 0 ∨ c.2.1 ≤ i.toNatClampNeg) then some (r, h.set n (c.1, c.2.1, updV c.2.2 i.toNatClampNeg (.int (vp_nar .boolean x)))) else none
      | none => none
    | _ => none
  | .lastore => match st with
    | .long x :: .int i :: .ref (n + 1) :: r => match h[n]? with
      | some c => if c.1 = 13 ∧ ¬ (i < 0 ∨ c.2.1 ≤ i.toNatClampNeg) then some (r, h.set n (c.1, c.2.1, updV c.2.2 i.toNatClampNeg (.long x))) else none
      | none => none
    | _ => none
  | .aastore => match st with
    | .ref (v + 1) :: .int i :: .ref (n + 1) :: r => match h[n]? with
      | some c => match h[v]? with
        | some d => if 15 ≤ c.1 ∧ c.1 ≤ 18 ∧ d.1 = zAe c.1 ∧ ¬ (i < 0 ∨ c.2.1 ≤ i.toNatClampNeg) then some (r, h.set n (c.1, c.2.1, updV c.2.2 i.toNatClampNeg (.ref (v + 1)))) else none
        | none => none
      | none => none
    | _ => none
  | .arraylength => match st with
    | .ref 0 :: r => if xs.1 = 0 then none else some (.int (Int32.ofNat (xs.1 - 1)) :: r, h)
    | .ref (n + 1) :: r => match h[n]? with
      | some c => if 12 ≤ c.1 ∧ c.1 ≤ 18 then some (.int (Int32.ofNat c.2.1) :: r, h) else none
      | none => none
    | _ => none
  | .new _ => match zNw e.2.1 with
    | some c => some (.ref (h.length + 1) :: st, h ++ [c])
    | none => none
  | .newarray _ => match st with
    | .int n :: r => if ¬ n < 0 ∧ n.toNatClampNeg ≤ 1000000 then some (.ref (h.length + 1) :: r, h ++ [(e.2.1, n.toNatClampNeg, (fun _ => if e.2.1 = 13 then Value.long 0 else Value.int 0 : Nat → Value))]) else none
    | _ => none
  | .anewarray _ => match st with
    | .int n :: r => if ¬ n < 0 ∧ n.toNatClampNeg ≤ 1000000 then some (.ref (h.length + 1) :: r, h ++ [(e.2.1, n.toNatClampNeg, (fun _ => Value.null : Nat → Value))]) else none
    | _ => none
  | .ldc _ => some (.int (Int32.ofInt e.2.2.2.1) :: st, h)
  | .ldc_w _ => some (.int (Int32.ofInt e.2.2.2.1) :: st, h)
  | .ldc2_w _ => some (.long (Int64.ofInt e.2.2.2.1) :: st, h)
  | _ => none
def xcpy (h : XH) (q0 q1 : Nat) (c d : XC) (sp dp n : Int32) : Option XH :=
  if (c.1 = 12 ∨ c.1 = 13) ∧ d.1 = c.1 ∧ ¬ sp < 0 ∧ ¬ dp < 0 ∧ ¬ n < 0 ∧ sp.toNatClampNeg + n.toNatClampNeg ≤ c.2.1 ∧ dp.toNatClampNeg + n.toNatClampNeg ≤ d.2.1
  then some (h.set q1 (d.1, d.2.1, va_cpy c.2.2 d.2.2 sp.toNatClampNeg dp.toNatClampNeg n.toNatClampNeg)) else none
/-- Object's constructor, and arraycopy -/
def xnat (k : Nat) (st : List Value) (h : XH) : Option (List Value × XH) :=
  if k = 5 then (match st with | .ref (_ + 1) :: r => if (r.map fun v => v.category).sum ≤ 8 then some (r, h) else none | _ => none)
  else if k = 6 then (match st with
    | .int n :: .int dp :: .ref (q1 + 1) :: .int sp :: .ref (q0 + 1) :: r => if (r.map fun v => v.category).sum ≤ 8 then (match h[q0]? with
      | some c => match h[q1]? with
        | some d => match xcpy h q0 q1 c d sp dp n with
          | some h' => some (r, h')
          | none => none
        | none => none
      | none => none) else none
    | _ => none)
  else if k = 7 then (match st with | .int y :: .int x :: r => if (r.map fun v => v.category).sum ≤ 8 then some (.int (if x < y then y else x) :: r, h) else none | _ => none)
  else if k = 8 then (match st with | .int y :: .int x :: r => if (r.map fun v => v.category).sum ≤ 8 then some (.int (if y < x then y else x) :: r, h) else none | _ => none)
  else if k = 9 then (match st with | .int x :: r => if (r.map fun v => v.category).sum ≤ 8 then some (.int (if 0 ≤ x then x else 0 - x) :: r, h) else none | _ => none)
  else none
def xrt (ret : Option FieldType) (i : Instr) (st : List Value) : Option (Option Value) := match i with
  | .ireturn => match st with
    | [.int v] => if ret = some .int ∨ (ret = some .boolean ∧ (v = 0 ∨ v = 1)) then some (some (.int v)) else none
    | _ => none
  | .lreturn => match st with
    | [.long v] => if ret = some .long then some (some (.long v)) else none
    | _ => none
  | .areturn => match st with
    | [.ref (n + 1)] => (match ret with | some (.object _) => some (some (.ref (n + 1))) | _ => none)
    | _ => none
  | .return_ => match st with
    | [] => if ret = none then some none else none
    | _ => none
  | _ => none
/-- is it a call? of which manner: 0 virtual, 1 static, 2 of a constructor, 3 static of a nest mate, 4 a nest mate's constructor -/
def xinv (i : Instr) : Bool := match i with
  | .invokevirtual _ => true
  | .invokestatic _ => true
  | .invokespecial _ => true
  | _ => false
abbrev XF : Type := Nat → List Value → XH → Option XR
/-- a receiver of its class -/
def xrcv (k ci : Nat) (a : List Value) (h : XH) : Bool := if k = 1 ∨ k = 3 then true else match a with
  | .ref (n + 1) :: _ => match h[n]? with
    | some c => c.1 == ci
    | none => false
  | _ => false
def xcall (call : XF) (e : zE) (st : List Value) (h : XH) : Option (List Value × XH) :=
  let n := e.2.2.2.1.toNat
  let a := (st.take n).reverse
  let r := st.drop n
  if n ≤ st.length ∧ (r.map fun v => v.category).sum ≤ 8 ∧ xrcv e.2.2.1 (zMo e.2.1) a h = true then
    match call e.2.1 a h with
    | some (v, h') => some (v.toList ++ r, h')
    | none => none
  else none
/-- one step: on, or out -/
def xone (xs : Nat × (Nat → Int32)) (call : XF) (m pc : Nat) (L : XL) (st : List Value) (h : XH) : Option (XS ⊕ XR) := match zc m pc with
  | none => none
  | some e =>
    if xinv e.1 = true then
      if e.2.2.1 < 5 then (match xcall call e st h with | some (st', h') => some (.inl (pc + 3, L, st', h')) | none => none)
      else (match xnat e.2.2.1 st h with | some (st', h') => some (.inl (pc + 3, L, st', h')) | none => none)
    else match xop e.1 st with
      | some st' => some (.inl (pc + zLen e.1, L, st', h))
      | none => match xld e.1 L with
        | some v => some (.inl (pc + zLen e.1, L, v :: st, h))
        | none => match xst (zMl m) e.1 L st with
          | some (L', st') => some (.inl (pc + zLen e.1, L', st', h))
          | none => match xbr e.1 e.2.1 pc st with
            | some (t, st') => some (.inl (t, L, st', h))
            | none => match xhp xs ((zMrow m).2.1 == "<init>") (zMo m) e st h with
              | some (st', h') => some (.inl (pc + zLen e.1, L, st', h'))
              | none => match xrt (zMr m) e.1 st with
                | some v => some (.inr (v, h))
                | none => none
def xgo (xs : Nat × (Nat → Int32)) (call : XF) (m : Nat) : Nat → Nat → XL → List Value → XH → Option XR
  | 0, _, _, _, _ => none
  | n + 1, pc, L, st, h => match xone xs call m pc L st h with
    | some (.inl s) => xgo xs call m n s.1 s.2.1 s.2.2.1 s.2.2.2
    | some (.inr r) => some r
    | none => none
/-- the locals at a method's entry -/
def xent : Nat → List Value → XL
  | _, [] => []
  | k, v :: t => (k, v) :: xent (k + v.category) t
/-- a method run with n steps, d calls deep -/
def xrun (xs : Nat × (Nat → Int32)) (n : Nat) : Nat → XF
  | 0 => fun _ _ _ => none
  | d + 1 => fun m a h => if (lg_sl a).length ≤ zMl m then xgo xs (xrun xs n d) m n 0 (xent 0 a) [] h else none
