/-! A SMALL MACHINE over numbers, that the bytecode of the claim runs on: values are numbers with a tag (0 int, 1 long, 2 reference: the label of a cell, 0 is null, 3 a text constant, 4 the script, 8 the second half of a long, 9 nothing); one memory for numbers, one for references (its row 0: how many cells there are, how many fields and elements, the script's length, the script). -/
abbrev zV : Type := Nat × Int
abbrev zM : Type := Int → Int → Int
abbrev zC : Type := Nat × Nat × List zV × List zV × zM × zM
abbrev zR : Type := zV × zM × zM
abbrev zA : Type := Option (zR ⊕ (zC ⊕ (zC × (zR → zC))))
def zup (m : zM) (a k v : Int) : zM := fun a' k' => if a' = a ∧ k' = k then v else m a' k'
def zrow (m : zM) (a v : Int) : zM := fun a' k' => if a' = a then v else m a' k'
/-- what the cell of a label is: one of the class's own by the table, a later one as rows -1 and -2 of the memory of references have it -/
def KX (R : zM) (a : Int) : Nat := if KD a = 0 then (if 0 < a then (R (-1) a).toNat else 0) else KD a
def LX (R : zM) (a : Int) : Int := if KD a = 0 then R (-2) a else LN a
def zw (x : Int) : Int := (x + 2147483648) % 4294967296 - 2147483648
def zwL (x : Int) : Int := (x + 9223372036854775808) % 18446744073709551616 - 9223372036854775808
def z32 (f : Int32 → Int32 → Int32) (x y : Int) : Int := (f (Int32.ofInt x) (Int32.ofInt y)).toInt
def z64 (f : Int64 → Int64 → Int64) (x y : Int) : Int := (f (Int64.ofInt x) (Int64.ofInt y)).toInt
def z6s (f : Int64 → Int32 → Int64) (x y : Int) : Int := (f (Int64.ofInt x) (Int32.ofInt y)).toInt
def zi2b (x : Int) : Int := ((Int32.ofInt x).toInt8.toInt32).toInt
def zi2s (x : Int) : Int := ((Int32.ofInt x).toInt16.toInt32).toInt
def zcmp (c : Jvm.ClassFile.Cond) (a b : Int) : Bool := match c with
  | .eq => decide (a = b)
  | .ne => decide (¬ a = b)
  | .lt => decide (a < b)
  | .ge => decide (b ≤ a)
  | .gt => decide (b < a)
  | .le => decide (a ≤ b)
def zgo (y pc : Nat) (ls st : List zV) (R m : zM) : zA := some (.inr (.inl (y, pc, ls, st, R, m)))
def zli (k n y pc : Nat) (ls st : List zV) (R m : zM) : zA := match ls[k]? with
  | some (0, x) => zgo y (pc + n) ls ((0, x) :: st) R m
  | _ => none
def zla (k n y pc : Nat) (ls st : List zV) (R m : zM) : zA := match ls[k]? with
  | some (2, x) => zgo y (pc + n) ls ((2, x) :: st) R m
  | some (3, x) => zgo y (pc + n) ls ((3, x) :: st) R m
  | some (4, x) => zgo y (pc + n) ls ((4, x) :: st) R m
  | _ => none
def zll (k n y pc : Nat) (ls st : List zV) (R m : zM) : zA := match ls[k]?, ls[k + 1]? with
  | some (1, x), some (8, _) => zgo y (pc + n) ls ((1, x) :: st) R m
  | _, _ => none
def zsi (k n y pc : Nat) (ls st : List zV) (R m : zM) : zA := match st with
  | (0, x) :: st => if k < ls.length then zgo y (pc + n) (ls.set k (0, x)) st R m else none
  | _ => none
def zsa (k n y pc : Nat) (ls st : List zV) (R m : zM) : zA := match st with
  | (2, x) :: st => if k < ls.length then zgo y (pc + n) (ls.set k (2, x)) st R m else none
  | _ => none
def zsl (k n y pc : Nat) (ls st : List zV) (R m : zM) : zA := match st with
  | (1, x) :: st => if k + 1 < ls.length then zgo y (pc + n) ((ls.set k (1, x)).set (k + 1) (8, 0)) st R m else none
  | _ => none
def zto (b : Bool) (off : Int) (n y pc : Nat) (ls st : List zV) (R m : zM) : zA :=
  if 0 ≤ (pc : Int) + off then (if b = true then zgo y ((pc : Int) + off).toNat ls st R m else zgo y (pc + n) ls st R m) else none
def zent (as : List zV) (n : Nat) : List zV :=
  as.flatMap (fun v => if v.1 = 1 then [v, (8, 0)] else [v]) ++ List.replicate (n - (as.flatMap (fun v => if v.1 = 1 then [v, (8, 0)] else [v])).length) (9, 0)
def zret (y pc n : Nat) (ls rest : List zV) : zR → zC := fun r => (y, pc + n, ls, if r.1.1 = 9 then rest else r.1 :: rest, r.2.1, r.2.2)
def zcs (l : List zV) : Nat := (l.map (fun v => if v.1 = 1 then 2 else 1)).sum
def zinv (y' na n y pc : Nat) (ls st : List zV) (R m : zM) : zA :=
  if na ≤ st.length ∧ zcs (st.drop na) ≤ 8 ∧ zmf y' + 1 ≤ zmf y ∧ 8 + (zml y' + 11) + zmo y' ≤ zmo y ∧ ((st.take na).flatMap (fun v => if v.1 = 1 then [v, (8, 0)] else [v])).length ≤ zml y' ∧ ((st.take na).all (fun v => decide (v.1 < 5))) = true then
    some (.inr (.inr ((y', 0, zent (st.take na).reverse (zml y'), [], R, m), zret y pc n ls (st.drop na))))
  else none
def zstl : List (List Int) := zstr.map (fun s => s.toList.map (fun c => (c.toNat : Int)))
/-- the label of the receiver below n arguments -/
def zrcv (st : List zV) (na : Nat) : Int := match st[na]? with
  | some (2, o) => o
  | _ => 0
def zcal (w : Nat) (lk : Option (Nat × Nat)) (n y pc : Nat) (ls st : List zV) (R m : zM) : zA := match w, lk with
  | 0, some (0, y') => if KX R (zrcv st (zma y')) = zoc y' + 1 ∧ zoc y' < 12 then zinv y' (zma y' + 1) n y pc ls st R m else none
  | 0, some (7, _) => match st with
    | (3, j) :: st => if st.length ≤ 4 ∧ 2 ≤ zmf y ∧ 40 ≤ zmo y then zgo y (pc + n) ls ((0, ((zstl.getD j.toNat []).length : Int)) :: st) R m else none
    | _ => none
  | 0, some (8, _) => match st with
    | (0, i) :: (3, j) :: st => if 0 ≤ i ∧ i < ((zstl.getD j.toNat []).length : Int) ∧ st.length ≤ 4 ∧ 5 ≤ zmf y ∧ 106 ≤ zmo y then zgo y (pc + n) ls ((0, (zstl.getD j.toNat []).getD i.toNat 0) :: st) R m else none
    | _ => none
  | 1, some (1, y') => zinv y' (zma y') n y pc ls st R m
  | 1, some (4, y') => zinv y' (zma y') n y pc ls st R m
  | 1, some (9, _) => match st with
    | (0, x) :: st => if st.length ≤ 4 ∧ 1 ≤ zmf y ∧ 21 ≤ zmo y then zgo y (pc + n) ls ((0, if 0 ≤ x then x else zw (0 - x)) :: st) R m else none
    | _ => none
  | 1, some (10, _) => match st with
    | (0, b) :: (0, a) :: st => if st.length ≤ 4 ∧ 1 ≤ zmf y ∧ 21 ≤ zmo y then zgo y (pc + n) ls ((0, if a < b then b else a) :: st) R m else none
    | _ => none
  | 1, some (11, _) => match st with
    | (0, b) :: (0, a) :: st => if st.length ≤ 4 ∧ 1 ≤ zmf y ∧ 21 ≤ zmo y then zgo y (pc + n) ls ((0, if b < a then b else a) :: st) R m else none
    | _ => none
  | 1, some (12, _) => match st with
    | (0, b) :: (0, a) :: st => if st.length ≤ 4 ∧ 0 < b ∧ 1 ≤ zmf y ∧ 22 ≤ zmo y then zgo y (pc + n) ls ((0, a / b) :: st) R m else none
    | _ => none
  | 2, some (2, y') => if KX R (zrcv st (zma y')) = zoc y' + 1 then zinv y' (zma y' + 1) n y pc ls st R m else none
  | 2, some (5, y') => if KX R (zrcv st (zma y')) = zoc y' + 1 then zinv y' (zma y' + 1) n y pc ls st R m else none
  | 2, some (6, _) => match st with
    | (2, o) :: st => if KX R o ≠ 0 ∧ st.length ≤ 4 ∧ 1 ≤ zmf y ∧ 20 ≤ zmo y then zgo y (pc + n) ls st R m else none
    | _ => none
  | _, _ => none
def znl (R : zM) : Int := R 0 0 + 1
/-- a new cell: its rows begin empty -/
def znR (R : zM) (sz : Int) : zM := zup (zup (zrow R (znl R) 0) 0 0 (znl R)) 0 1 (R 0 1 + sz)
/-- a new cell of a kind: of a later label, the kind and the length are written down -/
def znX (R : zM) (k sz : Int) : zM := if KD (znl R) = 0 then zup (zup (znR R sz) (-1) (znl R) k) (-2) (znl R) sz else znR R sz
def zna (k n y pc : Nat) (ls st : List zV) (R m : zM) : zA := match st with
  | (0, x) :: st => if (KD (znl R) = 0 ∨ KD (znl R) = k ∧ LN (znl R) = x) ∧ 0 ≤ x ∧ x ≤ 100000 ∧ 0 ≤ R 0 0 then zgo y (pc + n) ls ((2, znl R) :: st) (znX R (k : Int) x) (zrow m (znl R) 0) else none
  | _ => none
def zex (i : Instr) (n y pc : Nat) (ls st : List zV) (R m : zM) : zA := match i with
  | .iconst k => zgo y (pc + n) ls ((0, zw k) :: st) R m
  | .bipush k => zgo y (pc + n) ls ((0, (Int8.ofInt k).toInt32.toInt) :: st) R m
  | .sipush k => zgo y (pc + n) ls ((0, (Int16.ofInt k).toInt32.toInt) :: st) R m
  | .lconst k => zgo y (pc + n) ls ((1, (k.val : Int)) :: st) R m
  | .ldc k => match zcst (zoc y) k with
    | some (0, v) => zgo y (pc + n) ls ((0, v) :: st) R m
    | some (3, v) => zgo y (pc + n) ls ((3, v) :: st) R m
    | _ => none
  | .ldc_w k => match zcst (zoc y) k with
    | some (0, v) => zgo y (pc + n) ls ((0, v) :: st) R m
    | _ => none
  | .ldc2_w k => match zcst (zoc y) k with
    | some (1, v) => zgo y (pc + n) ls ((1, v) :: st) R m
    | _ => none
  | .iload k => zli k n y pc ls st R m
  | .iload_n k => zli k.val n y pc ls st R m
  | .aload k => zla k n y pc ls st R m
  | .aload_n k => zla k.val n y pc ls st R m
  | .lload k => zll k n y pc ls st R m
  | .lload_n k => zll k.val n y pc ls st R m
  | .istore k => zsi k n y pc ls st R m
  | .istore_n k => zsi k.val n y pc ls st R m
  | .astore k => zsa k n y pc ls st R m
  | .astore_n k => zsa k.val n y pc ls st R m
  | .lstore k => zsl k n y pc ls st R m
  | .lstore_n k => zsl k.val n y pc ls st R m
  | .iinc k c => match ls[k]? with
    | some (0, x) => zgo y (pc + n) (ls.set k (0, zw (x + c))) st R m
    | _ => none
  | .dup => match st with
    | (0, x) :: st => zgo y (pc + n) ls ((0, x) :: (0, x) :: st) R m
    | (2, x) :: st => zgo y (pc + n) ls ((2, x) :: (2, x) :: st) R m
    | _ => none
  | .dup2 => match st with
    | (0, x) :: (2, a) :: st => zgo y (pc + n) ls ((0, x) :: (2, a) :: (0, x) :: (2, a) :: st) R m
    | _ => none
  | .pop => match st with
    | (0, _) :: st => zgo y (pc + n) ls st R m
    | (2, _) :: st => zgo y (pc + n) ls st R m
    | _ => none
  | .iadd => match st with
    | (0, b) :: (0, a) :: st => zgo y (pc + n) ls ((0, zw (a + b)) :: st) R m
    | _ => none
  | .isub => match st with
    | (0, b) :: (0, a) :: st => zgo y (pc + n) ls ((0, zw (a - b)) :: st) R m
    | _ => none
  | .imul => match st with
    | (0, b) :: (0, a) :: st => zgo y (pc + n) ls ((0, zw (a * b)) :: st) R m
    | _ => none
  | .idiv => match st with
    | (0, b) :: (0, a) :: st => if b = 0 then none else zgo y (pc + n) ls ((0, z32 (· / ·) a b) :: st) R m
    | _ => none
  | .irem => match st with
    | (0, b) :: (0, a) :: st => if b = 0 then none else zgo y (pc + n) ls ((0, z32 (fun x y => x - x / y * y) a b) :: st) R m
    | _ => none
  | .ineg => match st with
    | (0, a) :: st => zgo y (pc + n) ls ((0, zw (-a)) :: st) R m
    | _ => none
  | .iand => match st with
    | (0, b) :: (0, a) :: st => zgo y (pc + n) ls ((0, z32 (· &&& ·) a b) :: st) R m
    | _ => none
  | .ior => match st with
    | (0, b) :: (0, a) :: st => zgo y (pc + n) ls ((0, z32 (· ||| ·) a b) :: st) R m
    | _ => none
  | .ixor => match st with
    | (0, b) :: (0, a) :: st => zgo y (pc + n) ls ((0, z32 (· ^^^ ·) a b) :: st) R m
    | _ => none
  | .ishl => match st with
    | (0, b) :: (0, a) :: st => zgo y (pc + n) ls ((0, z32 (fun x y => x <<< (y &&& 31)) a b) :: st) R m
    | _ => none
  | .ishr => match st with
    | (0, b) :: (0, a) :: st => zgo y (pc + n) ls ((0, z32 (fun x y => x >>> (y &&& 31)) a b) :: st) R m
    | _ => none
  | .ladd => match st with
    | (1, b) :: (1, a) :: st => zgo y (pc + n) ls ((1, z64 (· + ·) a b) :: st) R m
    | _ => none
  | .lsub => match st with
    | (1, b) :: (1, a) :: st => zgo y (pc + n) ls ((1, z64 (· - ·) a b) :: st) R m
    | _ => none
  | .land => match st with
    | (1, b) :: (1, a) :: st => zgo y (pc + n) ls ((1, z64 (· &&& ·) a b) :: st) R m
    | _ => none
  | .lor => match st with
    | (1, b) :: (1, a) :: st => zgo y (pc + n) ls ((1, z64 (· ||| ·) a b) :: st) R m
    | _ => none
  | .lxor => match st with
    | (1, b) :: (1, a) :: st => zgo y (pc + n) ls ((1, z64 (· ^^^ ·) a b) :: st) R m
    | _ => none
  | .lshl => match st with
    | (0, b) :: (1, a) :: st => zgo y (pc + n) ls ((1, z6s (fun x y => x <<< (y.toInt64 &&& 63)) a b) :: st) R m
    | _ => none
  | .lshr => match st with
    | (0, b) :: (1, a) :: st => zgo y (pc + n) ls ((1, z6s (fun x y => x >>> (y.toInt64 &&& 63)) a b) :: st) R m
    | _ => none
  | .lushr => match st with
    | (0, b) :: (1, a) :: st => zgo y (pc + n) ls ((1, z6s (fun x y => (x.toUInt64 >>> (y.toInt64.toUInt64 &&& Int64.toUInt64 63)).toInt64) a b) :: st) R m
    | _ => none
  | .lcmp => match st with
    | (1, b) :: (1, a) :: st => zgo y (pc + n) ls ((0, if b < a then 1 else if a = b then 0 else -1) :: st) R m
    | _ => none
  | .i2l => match st with
    | (0, a) :: st => zgo y (pc + n) ls ((1, a) :: st) R m
    | _ => none
  | .l2i => match st with
    | (1, a) :: st => zgo y (pc + n) ls ((0, zw a) :: st) R m
    | _ => none
  | .i2b => match st with
    | (0, a) :: st => zgo y (pc + n) ls ((0, zi2b a) :: st) R m
    | _ => none
  | .i2s => match st with
    | (0, a) :: st => zgo y (pc + n) ls ((0, zi2s a) :: st) R m
    | _ => none
  | .goto off => zto true off n y pc ls st R m
  | .ifCond c off => match st with
    | (0, a) :: st => zto (zcmp c a 0) off n y pc ls st R m
    | _ => none
  | .if_icmp c off => match st with
    | (0, b) :: (0, a) :: st => zto (zcmp c a b) off n y pc ls st R m
    | _ => none
  | .ifnull off => match st with
    | (2, a) :: st => zto (decide (a = 0)) off n y pc ls st R m
    | _ => none
  | .ifnonnull off => match st with
    | (2, a) :: st => zto (decide (¬ a = 0)) off n y pc ls st R m
    | _ => none
  | .tableswitch d lo hi offs => match st with
    | (0, a) :: st => if a < lo ∨ hi < a then zto true d n y pc ls st R m else match offs[(a - lo).toNat]? with
      | some off => zto true off n y pc ls st R m
      | none => none
    | _ => none
  | .lookupswitch d ps => match st with
    | (0, a) :: st => if ((ps.toList.zip (ps.toList.drop 1)).all (fun (a, next) => a.1 < next.1)) = true then zto true (Op.lookupswitch.offset ps.toList d a) n y pc ls st R m else none
    | _ => none
  | .getfield k => match st with
    | (2, o) :: st => match zfld (zoc y) k with
      | some (ci, j) => if KX R o = ci + 1 then (if zft ci j = 2 then zgo y (pc + n) ls ((2, R o j) :: st) R m else zgo y (pc + n) ls ((0, m o j) :: st) R m) else none
      | none => none
    | _ => none
  | .putfield k => match st with
    | (t, x) :: (2, o) :: st => match zfld (zoc y) k with
      | some (ci, j) => if KX R o = ci + 1 then
          (if zft ci j = 0 ∧ t = 0 then zgo y (pc + n) ls st R (zup m o j x)
          else if zft ci j = 5 ∧ t = 0 ∧ (x = 0 ∨ x = 1) then zgo y (pc + n) ls st R (zup m o j x)
          else if zft ci j = 2 ∧ t = 2 ∧ (zmn y).name = "<init>" ∧ zoc y = ci then zgo y (pc + n) ls st (zup R o j x) m
          else none) else none
      | none => none
    | _ => none
  | .iaload => match st with
    | (0, i) :: (2, a) :: st => if KX R a = 20 ∧ 0 ≤ i ∧ i < LX R a then zgo y (pc + n) ls ((0, m a i) :: st) R m else none
    | (0, i) :: (4, _) :: st => if 0 ≤ i ∧ i < R 0 2 then zgo y (pc + n) ls ((0, R 0 (3 + i)) :: st) R m else none
    | _ => none
  | .laload => match st with
    | (0, i) :: (2, a) :: st => if KX R a = 21 ∧ 0 ≤ i ∧ i < LX R a then zgo y (pc + n) ls ((1, m a i) :: st) R m else none
    | _ => none
  | .aaload => match st with
    | (0, i) :: (2, a) :: st => if KX R a = 23 ∧ 0 ≤ i ∧ i < LX R a then zgo y (pc + n) ls ((2, R a i) :: st) R m else none
    | _ => none
  | .iastore => match st with
    | (0, x) :: (0, i) :: (2, a) :: st => if KX R a = 20 ∧ 0 ≤ i ∧ i < LX R a then zgo y (pc + n) ls st R (zup m a i x) else none
    | _ => none
  | .lastore => match st with
    | (1, x) :: (0, i) :: (2, a) :: st => if KX R a = 21 ∧ 0 ≤ i ∧ i < LX R a then zgo y (pc + n) ls st R (zup m a i x) else none
    | _ => none
  | .aastore => match st with
    | (2, x) :: (0, i) :: (2, a) :: st => if KX R a = 23 ∧ 0 ≤ i ∧ i < LX R a ∧ KX R x = 4 then zgo y (pc + n) ls st (zup R a i x) m else none
    | _ => none
  | .arraylength => match st with
    | (2, a) :: st => if (KX R a = 20 ∨ KX R a = 21 ∨ KX R a = 23) ∧ 0 ≤ LX R a ∧ LX R a < 2147483648 then zgo y (pc + n) ls ((0, LX R a) :: st) R m else none
    | (4, _) :: st => zgo y (pc + n) ls ((0, R 0 2) :: st) R m
    | _ => none
  | .new k => match znew (zoc y) k with
    | some ci => if (KD (znl R) = 0 ∨ KD (znl R) = ci + 1) ∧ 0 ≤ R 0 0 then zgo y (pc + n) ls ((2, znl R) :: st) (znX R (((ci + 1 : Nat)) : Int) (znf ci : Int)) (zrow m (znl R) 0) else none
    | none => none
  | .newarray .int => zna 20 n y pc ls st R m
  | .newarray .long => zna 21 n y pc ls st R m
  | .anewarray k => match znew (zoc y) k with
    | some 3 => zna 23 n y pc ls st R m
    | _ => none
  | .invokevirtual k => zcal 0 (zlink (zoc y) k) n y pc ls st R m
  | .invokestatic k => zcal 1 (zlink (zoc y) k) n y pc ls st R m
  | .invokespecial k => zcal 2 (zlink (zoc y) k) n y pc ls st R m
  | .ireturn => match st with
    | [(0, x)] => match zmr y with
      | some .int => some (.inl ((0, x), R, m))
      | some .boolean => if x = 0 ∨ x = 1 then some (.inl ((0, x), R, m)) else none
      | _ => none
    | _ => none
  | .lreturn => match st with
    | [(1, x)] => match zmr y with
      | some .long => some (.inl ((1, x), R, m))
      | _ => none
    | _ => none
  | .areturn => match st with
    | [(3, x)] => match zmr y with
      | some (.object _) => some (.inl ((3, x), R, m))
      | _ => none
    | _ => none
  | .return_ => match st with
    | [] => match zmr y with
      | none => some (.inl ((9, 0), R, m))
      | _ => none
    | _ => none
  | _ => none
/-- how long an instruction is -/
def zlok (i : Instr) (n : Nat) : Bool := match i with
  | .bipush _ | .ldc _ | .iload _ | .aload _ | .lload _ | .istore _ | .astore _ | .lstore _ | .newarray _ => n == 2
  | .sipush _ | .ldc_w _ | .ldc2_w _ | .iinc _ _ | .goto _ | .ifCond _ _ | .if_icmp _ _ | .ifnull _ | .ifnonnull _ | .getfield _ | .putfield _ | .new _ | .anewarray _ | .invokevirtual _ | .invokestatic _ | .invokespecial _ => n == 3
  | .tableswitch _ _ _ _ | .lookupswitch _ _ => true
  | _ => n == 1
def zact (c : zC) : zA := match zcode c.1 c.2.1 with
  | some (i, n) => if zlok i n = true then zex i n c.1 c.2.1 c.2.2.1 c.2.2.2.1 c.2.2.2.2.1 c.2.2.2.2.2 else none
  | none => none
def zint (F : zC → Option zR) (a : zA) : Option zR := match a with
  | none => none
  | some (.inl r) => some r
  | some (.inr (.inl c)) => F c
  | some (.inr (.inr (c, k))) => (F c).bind fun r => F (k r)
def zrun : Nat → zC → Option zR
  | 0, _ => none
  | n + 1, c => zint (zrun n) (zact c)
theorem zint_mono {F G : zC → Option zR} (h : ∀ c r, F c = some r → G c = some r) (a : zA) (r : zR) (ha : zint F a = some r) : zint G a = some r := by
  match a, ha with
  | some (.inl _), ha => exact ha
  | some (.inr (.inl c)), ha => exact h c r ha
  | some (.inr (.inr (c, k))), ha =>
    simp only [zint] at ha ⊢
    cases hc : F c with
    | none => rw [hc] at ha; cases ha
    | some q =>
      rw [hc] at ha
      rw [h c q hc]
      exact h _ r ha
theorem zrun_succ (n : Nat) : ∀ (c : zC) (r : zR), zrun n c = some r → zrun (n + 1) c = some r := by
  induction n with
  | zero => intro c r h; cases h
  | succ n ih => intro c r h; exact zint_mono ih _ r h
theorem zrun_le {n k : Nat} (hk : n ≤ k) {c : zC} {r : zR} (h : zrun n c = some r) : zrun k c = some r := by
  induction hk with
  | refl => exact h
  | step _ ih => exact zrun_succ _ _ _ ih
noncomputable def zev (c : zC) : Option zR := @dite _ (∃ (r : zR) (n : Nat), zrun n c = some r) (Classical.propDecidable _) (fun h => some (Classical.choose h)) (fun _ => none)
theorem zev_iff {c : zC} {r : zR} : zev c = some r ↔ ∃ n, zrun n c = some r := by
  unfold zev
  constructor
  · intro h
    split at h
    next hx =>
      cases h
      exact Classical.choose_spec hx
    next hx => cases h
  · intro ⟨n, hn⟩
    have hx : ∃ (r : zR) (n : Nat), zrun n c = some r := ⟨r, n, hn⟩
    rw [dif_pos hx]
    obtain ⟨k, hk⟩ := Classical.choose_spec hx
    have h1 := zrun_le (Nat.le_max_left n k) hn
    have h2 := zrun_le (Nat.le_max_right n k) hk
    rw [h1] at h2
    exact h2.symm
theorem zev_eq (c : zC) : zev c = zint zev (zact c) := by
  have key : ∀ r, zev c = some r ↔ zint zev (zact c) = some r := by
    intro r
    constructor
    · intro h
      obtain ⟨n, hn⟩ := zev_iff.mp h
      cases n with
      | zero => cases hn
      | succ n => exact zint_mono (fun c r h => zev_iff.mpr ⟨n, h⟩) _ r hn
    · intro h
      match ha : zact c, h with
      | some (.inl q), h => exact zev_iff.mpr ⟨1, by show zint _ (zact c) = _; rw [ha]; exact h⟩
      | some (.inr (.inl q)), h =>
        obtain ⟨n, hn⟩ := zev_iff.mp (show zev q = some r from h)
        exact zev_iff.mpr ⟨n + 1, by show zint _ (zact c) = _; rw [ha]; exact hn⟩
      | some (.inr (.inr (q, k))), h =>
        simp only [zint] at h
        cases hc : zev q with
        | none => rw [hc] at h; cases h
        | some u =>
          rw [hc] at h
          obtain ⟨n1, h1⟩ := zev_iff.mp hc
          obtain ⟨n2, h2⟩ := zev_iff.mp (show zev (k u) = some r from h)
          refine zev_iff.mpr ⟨max n1 n2 + 1, ?_⟩
          show zint _ (zact c) = _
          rw [ha]
          simp only [zint]
          rw [zrun_le (Nat.le_max_left n1 n2) h1]
          exact zrun_le (Nat.le_max_right n1 n2) h2
  cases h1 : zev c with
  | some r => exact ((key r).mp h1).symm
  | none =>
    cases h2 : zint zev (zact c) with
    | none => rfl
    | some r => rw [(key r).mpr h2] at h1; cases h1
/-- what a method's code comes to from a place in it, with these locals, this stack and these memories -/
noncomputable def ev (y pc : Nat) (ls st : List zV) (R m : zM) : Option zR := zev (y, pc, ls, st, R, m)
theorem ev_act {y pc : Nat} {ls st : List zV} {R m : zM} {i : Instr} {n : Nat} (h : zcode y pc = some (i, n)) (hn : zlok i n = true) : ev y pc ls st R m = zint zev (zex i n y pc ls st R m) := by
  unfold ev
  rw [zev_eq]
  simp only [zact, h, hn, if_true]
