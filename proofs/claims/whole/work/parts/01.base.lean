/-! THE SMALL MACHINE: cells are numbered by places 0, 1, .. in the order in which they are made; places from 900 on are the tables, the script and the texts that nobody writes. A shape is: an int row and how long it is; a row of references; an object, its class's number, and of each field none (an int, kept in the memory) or the reference that it holds. -/
abbrev q_Sh : Type := Nat ⊕ ((Nat × Nat × (Nat → Option Nat)) ⊕ (Nat × List (Option Value)))
abbrev q_G : Type := (Nat → q_Sh) × Nat × Nat
abbrev q_M : Type := Nat → Nat → Int32
abbrev q_I : Type := Instr × Nat × Int
def q_up (m : q_M) (k i : Nat) (x : Int32) : q_M := fun k' i' => if k' = k ∧ i' = i then x else m k' i'
def q_zero (m : q_M) (k : Nat) : q_M := fun k' i' => if k' = k then 0 else m k' i'
def q_sh (g : q_G) (k : Nat) (z : q_Sh) : q_G := (va_up g.1 k z, g.2)
def q_new (g : q_G) (z : q_Sh) (n : Nat) : q_G := (va_up g.1 g.2.1 z, g.2.1 + 1, g.2.2 + n)
def q_c1 : Option Value → Bool
  | some (.long _) => false
  | some (.double _) => false
  | _ => true
def q_cl (lv : List (Option Value)) (i : Nat) : Bool := match i with
  | 0 => true
  | i + 1 => match lv[i]? with
    | some o => q_c1 o
    | none => true
def q_sw : List (Int × Nat) → Nat → Int → Nat
  | [], d, _ => d
  | (a, t) :: l, d, v => if v = a then t else q_sw l d v
def q_tab (pc : Nat) : Int → List Int → List (Int × Nat)
  | _, [] => []
  | lo, o :: l => (lo, ((pc : Int) + o).toNat) :: q_tab pc (lo + 1) l
def q_to (pc : Nat) (off : Int) : Nat := ((pc : Int) + off).toNat
def q_push : Option Value → List Value → List Value
  | some v, st => v :: st
  | none, st => st
/-- how much of an operand stack lies below a call -/
def q_sm : List Value → Nat
  | [] => 0
  | .long _ :: l => q_sm l + 2
  | .double _ :: l => q_sm l + 2
  | _ :: l => q_sm l + 1
def q_max (a b : Int32) : Int32 := if a < b then b else a
def q_min (a b : Int32) : Int32 := if b < a then b else a
/-- an instruction that is no call and no return -/
def q_step (fields : Nat → List (Option Value)) (i : Instr) (x : Nat) (y : Int) (pc : Nat) (lv : List (Option Value)) (st : List Value) (g : q_G) (m : q_M) : Option (Nat × List (Option Value) × List Value × q_G × q_M) :=
  match i with
  | .iconst n => some (pc + 1, lv, .int (Int32.ofInt n) :: st, g, m)
  | .bipush n => some (pc + 2, lv, .int (Int8.ofInt n).toInt32 :: st, g, m)
  | .sipush n => some (pc + 3, lv, .int (Int16.ofInt n).toInt32 :: st, g, m)
  | .lconst n => some (pc + 1, lv, .long (Int64.ofNat n) :: st, g, m)
  | .aconst_null => some (pc + 1, lv, .null :: st, g, m)
  | .ldc _ => some (pc + 2, lv, (if x = 0 then .int (Int32.ofInt y) else .ref x) :: st, g, m)
  | .ldc_w _ => some (pc + 3, lv, .int (Int32.ofInt y) :: st, g, m)
  | .ldc2_w _ => some (pc + 3, lv, .long (Int64.ofInt y) :: st, g, m)
  | .getstatic _ => some (pc + 3, lv, (if x = 0 then .int (Int32.ofInt y) else .ref x) :: st, g, m)
  | .iload k => match lv[k]? with
    | some (some (.int v)) => some (pc + 2, lv, .int v :: st, g, m)
    | _ => none
  | .iload_n k => match lv[k.val]? with
    | some (some (.int v)) => some (pc + 1, lv, .int v :: st, g, m)
    | _ => none
  | .lload k => match lv[k]? with
    | some (some (.long v)) => some (pc + 2, lv, .long v :: st, g, m)
    | _ => none
  | .lload_n k => match lv[k.val]? with
    | some (some (.long v)) => some (pc + 1, lv, .long v :: st, g, m)
    | _ => none
  | .aload k => match lv[k]? with
    | some (some (.ref a)) => some (pc + 2, lv, .ref a :: st, g, m)
    | some (some .null) => some (pc + 2, lv, .null :: st, g, m)
    | _ => none
  | .aload_n k => match lv[k.val]? with
    | some (some (.ref a)) => some (pc + 1, lv, .ref a :: st, g, m)
    | some (some .null) => some (pc + 1, lv, .null :: st, g, m)
    | _ => none
  | .istore k => match st with
    | .int v :: st => if k < lv.length ∧ q_cl lv k = true then some (pc + 2, lv.set k (some (.int v)), st, g, m) else none
    | _ => none
  | .istore_n k => match st with
    | .int v :: st => if k.val < lv.length ∧ q_cl lv k = true then some (pc + 1, lv.set k (some (.int v)), st, g, m) else none
    | _ => none
  | .lstore k => match st with
    | .long v :: st => if k + 1 < lv.length ∧ q_cl lv k = true then some (pc + 2, (lv.set k (some (.long v))).set (k + 1) none, st, g, m) else none
    | _ => none
  | .lstore_n k => match st with
    | .long v :: st => if k.val + 1 < lv.length ∧ q_cl lv k = true then some (pc + 1, (lv.set k (some (.long v))).set (k + 1) none, st, g, m) else none
    | _ => none
  | .astore k => match st with
    | .ref v :: st => if k < lv.length ∧ q_cl lv k = true then some (pc + 2, lv.set k (some (.ref v)), st, g, m) else none
    | .null :: st => if k < lv.length ∧ q_cl lv k = true then some (pc + 2, lv.set k (some .null), st, g, m) else none
    | _ => none
  | .astore_n k => match st with
    | .ref v :: st => if k.val < lv.length ∧ q_cl lv k = true then some (pc + 1, lv.set k (some (.ref v)), st, g, m) else none
    | .null :: st => if k.val < lv.length ∧ q_cl lv k = true then some (pc + 1, lv.set k (some .null), st, g, m) else none
    | _ => none
  | .iinc k n => match lv[k]? with
    | some (some (.int v)) => if q_cl lv k = true then some (pc + 3, lv.set k (some (.int (v + Int32.ofInt n))), st, g, m) else none
    | _ => none
  | .iadd => match st with
    | .int b :: .int a :: st => some (pc + 1, lv, .int (a + b) :: st, g, m)
    | _ => none
  | .isub => match st with
    | .int b :: .int a :: st => some (pc + 1, lv, .int (a - b) :: st, g, m)
    | _ => none
  | .imul => match st with
    | .int b :: .int a :: st => some (pc + 1, lv, .int (a * b) :: st, g, m)
    | _ => none
  | .iand => match st with
    | .int b :: .int a :: st => some (pc + 1, lv, .int (a &&& b) :: st, g, m)
    | _ => none
  | .ior => match st with
    | .int b :: .int a :: st => some (pc + 1, lv, .int (a ||| b) :: st, g, m)
    | _ => none
  | .ixor => match st with
    | .int b :: .int a :: st => some (pc + 1, lv, .int (a ^^^ b) :: st, g, m)
    | _ => none
  | .ishl => match st with
    | .int b :: .int a :: st => some (pc + 1, lv, .int (a <<< (b &&& 31)) :: st, g, m)
    | _ => none
  | .ishr => match st with
    | .int b :: .int a :: st => some (pc + 1, lv, .int (a >>> (b &&& 31)) :: st, g, m)
    | _ => none
  | .iushr => match st with
    | .int b :: .int a :: st => some (pc + 1, lv, .int (a.toUInt32 >>> (b.toUInt32 &&& Int32.toUInt32 31)).toInt32 :: st, g, m)
    | _ => none
  | .idiv => match st with
    | .int b :: .int a :: st => if b = 0 then none else some (pc + 1, lv, .int (a / b) :: st, g, m)
    | _ => none
  | .irem => match st with
    | .int b :: .int a :: st => if b = 0 then none else some (pc + 1, lv, .int (a - a / b * b) :: st, g, m)
    | _ => none
  | .ineg => match st with
    | .int a :: st => some (pc + 1, lv, .int (-a) :: st, g, m)
    | _ => none
  | .ladd => match st with
    | .long b :: .long a :: st => some (pc + 1, lv, .long (a + b) :: st, g, m)
    | _ => none
  | .lmul => match st with
    | .long b :: .long a :: st => some (pc + 1, lv, .long (a * b) :: st, g, m)
    | _ => none
  | .ldiv => match st with
    | .long b :: .long a :: st => if b = 0 then none else some (pc + 1, lv, .long (a / b) :: st, g, m)
    | _ => none
  | .lrem => match st with
    | .long b :: .long a :: st => if b = 0 then none else some (pc + 1, lv, .long (a - a / b * b) :: st, g, m)
    | _ => none
  | .lcmp => match st with
    | .long b :: .long a :: st => some (pc + 1, lv, .int (lg_cmp a b) :: st, g, m)
    | _ => none
  | .i2l => match st with
    | .int a :: st => some (pc + 1, lv, .long a.toInt64 :: st, g, m)
    | _ => none
  | .l2i => match st with
    | .long a :: st => some (pc + 1, lv, .int a.toInt32 :: st, g, m)
    | _ => none
  | .i2b => match st with
    | .int a :: st => some (pc + 1, lv, .int a.toInt8.toInt32 :: st, g, m)
    | _ => none
  | .i2s => match st with
    | .int a :: st => some (pc + 1, lv, .int a.toInt16.toInt32 :: st, g, m)
    | _ => none
  | .i2c => match st with
    | .int a :: st => some (pc + 1, lv, .int (a.toUInt32 % 65536).toInt32 :: st, g, m)
    | _ => none
  | .dup => match st with
    | a :: st => if q_c1 (some a) = true then some (pc + 1, lv, a :: a :: st, g, m) else none
    | _ => none
  | .pop => match st with
    | a :: st => if q_c1 (some a) = true then some (pc + 1, lv, st, g, m) else none
    | _ => none
  | .dup2 => match st with
    | a :: b :: st => if q_c1 (some a) = true ∧ q_c1 (some b) = true then some (pc + 1, lv, a :: b :: a :: b :: st, g, m) else none
    | _ => none
  | .goto off => some (q_to pc off, lv, st, g, m)
  | .ifCond cd off => match cd, st with
    | .eq, .int a :: st => some (if a = 0 then q_to pc off else pc + 3, lv, st, g, m)
    | .ne, .int a :: st => some (if a = 0 then pc + 3 else q_to pc off, lv, st, g, m)
    | .lt, .int a :: st => some (if a < 0 then q_to pc off else pc + 3, lv, st, g, m)
    | .ge, .int a :: st => some (if a < 0 then pc + 3 else q_to pc off, lv, st, g, m)
    | .gt, .int a :: st => some (if a ≤ 0 then pc + 3 else q_to pc off, lv, st, g, m)
    | .le, .int a :: st => some (if a ≤ 0 then q_to pc off else pc + 3, lv, st, g, m)
    | _, _ => none
  | .if_icmp cd off => match cd, st with
    | .eq, .int b :: .int a :: st => some (if a = b then q_to pc off else pc + 3, lv, st, g, m)
    | .ne, .int b :: .int a :: st => some (if a = b then pc + 3 else q_to pc off, lv, st, g, m)
    | .lt, .int b :: .int a :: st => some (if a < b then q_to pc off else pc + 3, lv, st, g, m)
    | .ge, .int b :: .int a :: st => some (if a < b then pc + 3 else q_to pc off, lv, st, g, m)
    | .gt, .int b :: .int a :: st => some (if a ≤ b then pc + 3 else q_to pc off, lv, st, g, m)
    | .le, .int b :: .int a :: st => some (if a ≤ b then q_to pc off else pc + 3, lv, st, g, m)
    | _, _ => none
  | .ifnull off => match st with
    | .null :: st => some (q_to pc off, lv, st, g, m)
    | .ref k :: st => if k = 950 then none else some (pc + 3, lv, st, g, m)
    | _ => none
  | .ifnonnull off => match st with
    | .null :: st => some (pc + 3, lv, st, g, m)
    | .ref k :: st => if k = 950 then none else some (q_to pc off, lv, st, g, m)
    | _ => none
  | .tableswitch d lo _ offs => match st with
    | .int a :: st => some (q_sw (q_tab pc lo offs.toList) (q_to pc d) a.toInt, lv, st, g, m)
    | _ => none
  | .lookupswitch d ps => match st with
    | .int a :: st => some (q_sw (ps.toList.map fun q => (q.1, q_to pc q.2)) (q_to pc d) a.toInt, lv, st, g, m)
    | _ => none
  | .arraylength => match st with
    | .ref k :: st => match g.1 k with
      | .inl n => some (pc + 1, lv, .int (Int32.ofNat n) :: st, g, m)
      | .inr (.inl (_, n, _)) => if 900 ≤ k then none else some (pc + 1, lv, .int (Int32.ofNat n) :: st, g, m)
      | _ => none
    | _ => none
  | .iaload => match st with
    | .int i :: .ref k :: st => match g.1 k with
      | .inl n => if i < 0 ∨ n ≤ i.toNatClampNeg ∨ 930 ≤ k then none else some (pc + 1, lv, .int (m k i.toNatClampNeg) :: st, g, m)
      | _ => none
    | _ => none
  | .baload => match st with
    | .int i :: .ref k :: st => match g.1 k with
      | .inl n => if i < 0 ∨ n ≤ i.toNatClampNeg ∨ k < 930 then none else some (pc + 1, lv, .int (m k i.toNatClampNeg) :: st, g, m)
      | _ => none
    | _ => none
  | .iastore => match st with
    | .int v :: .int i :: .ref k :: st => match g.1 k with
      | .inl n => if i < 0 ∨ n ≤ i.toNatClampNeg ∨ 900 ≤ k then none else some (pc + 1, lv, st, g, q_up m k i.toNatClampNeg v)
      | _ => none
    | _ => none
  | .aaload => match st with
    | .int i :: .ref k :: st => match g.1 k with
      | .inr (.inl (_, n, f)) => if i < 0 ∨ n ≤ i.toNatClampNeg ∨ 900 ≤ k then none else some (pc + 1, lv, (match f i.toNatClampNeg with | some z => .ref z | none => .null) :: st, g, m)
      | _ => none
    | _ => none
  | .aastore => match st with
    | .ref z :: .int i :: .ref k :: st => match g.1 k, g.1 z with
      | .inr (.inl (c, n, f)), .inr (.inr (c', _)) => if i < 0 ∨ n ≤ i.toNatClampNeg ∨ 900 ≤ k ∨ 900 ≤ z ∨ c' ≠ c then none else some (pc + 1, lv, st, q_sh g k (.inr (.inl (c, n, va_up f i.toNatClampNeg (some z)))), m)
      | _, _ => none
    | .null :: .int i :: .ref k :: st => match g.1 k with
      | .inr (.inl (c, n, f)) => if i < 0 ∨ n ≤ i.toNatClampNeg ∨ 900 ≤ k then none else some (pc + 1, lv, st, q_sh g k (.inr (.inl (c, n, va_up f i.toNatClampNeg none))), m)
      | _ => none
    | _ => none
  | .getfield _ => match st with
    | .ref k :: st => match g.1 k with
      | .inr (.inr (c, fs)) => if c ≠ x then none else match fs[y.toNat % 1000]? with
        | some none => some (pc + 3, lv, .int (m k (y.toNat % 1000)) :: st, g, m)
        | some (some v) => some (pc + 3, lv, v :: st, g, m)
        | none => none
      | _ => none
    | _ => none
  | .putfield _ => match st with
    | v :: .ref k :: st => match g.1 k with
      | .inr (.inr (c, fs)) => if c ≠ x ∨ 900 ≤ k then none else match fs[y.toNat % 1000]?, v with
        | some none, .int a => if 1000 ≤ y ∧ a ≠ 0 ∧ a ≠ 1 then none else some (pc + 3, lv, st, g, q_up m k (y.toNat % 1000) a)
        | some (some _), .ref z => some (pc + 3, lv, st, q_sh g k (.inr (.inr (c, fs.set (y.toNat % 1000) (some (.ref z))))), m)
        | some (some _), .null => some (pc + 3, lv, st, q_sh g k (.inr (.inr (c, fs.set (y.toNat % 1000) (some .null)))), m)
        | _, _ => none
      | _ => none
    | _ => none
  | .new _ => if 900 ≤ g.2.1 then none else some (pc + 3, lv, .ref g.2.1 :: st, q_new g (.inr (.inr (x, fields x))) (fields x).length, q_zero m g.2.1)
  | .newarray .int => match st with
    | .int a :: st => if 900 ≤ g.2.1 ∨ a < 0 ∨ 100000 < a.toNatClampNeg then none else some (pc + 2, lv, .ref g.2.1 :: st, q_new g (.inl a.toNatClampNeg) a.toNatClampNeg, q_zero m g.2.1)
    | _ => none
  | .anewarray _ => match st with
    | .int a :: st => if 900 ≤ g.2.1 ∨ a < 0 ∨ 100000 < a.toNatClampNeg then none else some (pc + 3, lv, .ref g.2.1 :: st, q_new g (.inr (.inl (x, a.toNatClampNeg, fun _ => none))) a.toNatClampNeg, m)
    | _ => none
  | .invokestatic _ => match st with
    | .int b :: .int a :: st => if q_sm st ≤ 8 then (if x = 9998 then some (pc + 3, lv, .int (q_max a b) :: st, g, m) else if x = 9997 then some (pc + 3, lv, .int (q_min a b) :: st, g, m) else none) else none
    | _ => none
  | .invokespecial _ => match st with
    | .ref k :: st => if x = 9999 ∧ q_sm st ≤ 8 ∧ k < 900 then some (pc + 3, lv, st, g, m) else none
    | _ => none
  | _ => none
/-- 1: a call; 2: a return; 0: any other -/
def q_kind (i : Instr) (x : Nat) : Nat := match i with
  | .invokestatic _ => if x = 9998 ∨ x = 9997 then 0 else 1
  | .invokevirtual _ => 1
  | .invokespecial _ => if x = 9999 then 0 else 1
  | .ireturn => 2
  | .lreturn => 2
  | .areturn => 2
  | .return_ => 2
  | _ => 0
def q_ret (i : Instr) (ret : Option FieldType) (st : List Value) : Option (Option Value) := match i, ret, st with
  | .ireturn, some .int, [.int v] => some (some (.int v))
  | .ireturn, some .boolean, [.int v] => if v = 0 ∨ v = 1 then some (some (.int v)) else none
  | .ireturn, some .byte, [.int v] => if v = 0 then some (some (.int v)) else none
  | .ireturn, some .char, [.int v] => if narrow .char (.int v) = .int v then some (some (.int v)) else none
  | .lreturn, some .long, [.long v] => some (some (.long v))
  | .areturn, some (.object _), [.ref v] => some (some (.ref v))
  | .areturn, some (.object _), [.null] => some (some .null)
  | .return_, none, [] => some none
  | _, _, _ => none
def q_ent : List Value → List (Option Value)
  | [] => []
  | .long v :: l => some (.long v) :: none :: q_ent l
  | .double v :: l => some (.double v) :: none :: q_ent l
  | v :: l => some v :: q_ent l
def q_entry (n : Nat) (l : List Value) : List (Option Value) := q_ent l ++ List.replicate (n - (q_ent l).length) none
/-- a call's arguments: the first of them last pushed; of an instance's methods the receiver is none that is null -/
def q_args (i : Instr) (n co : Nat) (g : q_G) (st : List Value) : Option (List Value × List Value) := match i, (st.take n).reverse with
  | .invokestatic _, l => if l.length = n ∧ q_sm (st.drop n) ≤ 8 then some (l, st.drop n) else none
  | .invokevirtual _, .ref a :: l => match g.1 a with
    | .inr (.inr (c, _)) => if l.length + 1 = n ∧ q_sm (st.drop n) ≤ 8 ∧ c = co then some (.ref a :: l, st.drop n) else none
    | _ => none
  | .invokespecial _, .ref a :: l => if l.length + 1 = n ∧ q_sm (st.drop n) ≤ 8 ∧ a < 900 then some (.ref a :: l, st.drop n) else none
  | _, _ => none
