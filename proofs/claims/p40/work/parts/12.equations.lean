/-! the small machine's steps as equations -/
def zps (v : zV) (rest : List zV) : List zV := if v.1 = 9 then rest else v :: rest
theorem zps_0 (x : Int) (l : List zV) : zps (0, x) l = (0, x) :: l := rfl
theorem zps_1 (x : Int) (l : List zV) : zps (1, x) l = (1, x) :: l := rfl
theorem zps_2 (x : Int) (l : List zV) : zps (2, x) l = (2, x) :: l := rfl
theorem zps_3 (x : Int) (l : List zV) : zps (3, x) l = (3, x) :: l := rfl
theorem zps_9 (x : Int) (l : List zV) : zps (9, x) l = l := rfl
theorem KX_k {R : zM} {a : Int} {k : Nat} (h : KD a = k) (h0 : k ≠ 0) : KX R a = k := by rw [(KX_d (R := R) (by omega)).1, h]
theorem KX_l {R : zM} {a : Int} {k : Nat} (h : KD a = k) (h0 : k ≠ 0) : LX R a = LN a := (KX_d (R := R) (by omega)).2
theorem znX_D {R : zM} {k sz : Int} (h : KD (znl R) ≠ 0) : znX R k sz = znR R sz := by unfold znX; rw [if_neg h]
section EQS
variable {y pc : Nat} {ls st : List zV} {R m : zM}

theorem e_iconst {k v : Int} (h : zcode y pc = some (.iconst k, 1)) (hv : zw k = v) : ev y pc ls (st) R m = ev y (pc + 1) ls ((0, v) :: st) R m := by
  rw [ev_act h rfl]
  subst hv
  rfl
theorem e_bipush {k v : Int} (h : zcode y pc = some (.bipush k, 2)) (hv : (Int8.ofInt k).toInt32.toInt = v) : ev y pc ls (st) R m = ev y (pc + 2) ls ((0, v) :: st) R m := by
  rw [ev_act h rfl]
  subst hv
  rfl
theorem e_sipush {k v : Int} (h : zcode y pc = some (.sipush k, 3)) (hv : (Int16.ofInt k).toInt32.toInt = v) : ev y pc ls (st) R m = ev y (pc + 3) ls ((0, v) :: st) R m := by
  rw [ev_act h rfl]
  subst hv
  rfl
theorem e_lconst {k : Fin 2} {v : Int} (h : zcode y pc = some (.lconst k, 1)) (hv : (k.val : Int) = v) : ev y pc ls (st) R m = ev y (pc + 1) ls ((1, v) :: st) R m := by
  rw [ev_act h rfl]
  subst hv
  rfl
theorem e_ldc0 {k : Nat} {v : Int} (h : zcode y pc = some (.ldc k, 2)) (hz : zcst (zoc y) k = some (0, v)) : ev y pc ls (st) R m = ev y (pc + 2) ls ((0, v) :: st) R m := by
  rw [ev_act h rfl]
  simp only [zex, hz]
  rfl
theorem e_ldc3 {k : Nat} {v : Int} (h : zcode y pc = some (.ldc k, 2)) (hz : zcst (zoc y) k = some (3, v)) : ev y pc ls (st) R m = ev y (pc + 2) ls ((3, v) :: st) R m := by
  rw [ev_act h rfl]
  simp only [zex, hz]
  rfl
theorem e_ldc_w0 {k : Nat} {v : Int} (h : zcode y pc = some (.ldc_w k, 3)) (hz : zcst (zoc y) k = some (0, v)) : ev y pc ls (st) R m = ev y (pc + 3) ls ((0, v) :: st) R m := by
  rw [ev_act h rfl]
  simp only [zex, hz]
  rfl
theorem e_ldc2_w1 {k : Nat} {v : Int} (h : zcode y pc = some (.ldc2_w k, 3)) (hz : zcst (zoc y) k = some (1, v)) : ev y pc ls (st) R m = ev y (pc + 3) ls ((1, v) :: st) R m := by
  rw [ev_act h rfl]
  simp only [zex, hz]
  rfl
theorem e_iload_n {k : Fin 4} {x : Int} (h : zcode y pc = some (.iload_n k, 1)) (hk : ls[k.val]? = some (0, x)) : ev y pc ls (st) R m = ev y (pc + 1) ls ((0, x) :: st) R m := by
  rw [ev_act h rfl]
  simp only [zex, zli, hk]
  rfl
theorem e_iload {k : Nat} {x : Int} (h : zcode y pc = some (.iload k, 2)) (hk : ls[k]? = some (0, x)) : ev y pc ls (st) R m = ev y (pc + 2) ls ((0, x) :: st) R m := by
  rw [ev_act h rfl]
  simp only [zex, zli, hk]
  rfl
theorem e_aload_n {k : Fin 4} {x : Int} (h : zcode y pc = some (.aload_n k, 1)) (hk : ls[k.val]? = some (2, x)) : ev y pc ls (st) R m = ev y (pc + 1) ls ((2, x) :: st) R m := by
  rw [ev_act h rfl]
  simp only [zex, zla, hk]
  rfl
theorem e_aload {k : Nat} {x : Int} (h : zcode y pc = some (.aload k, 2)) (hk : ls[k]? = some (2, x)) : ev y pc ls (st) R m = ev y (pc + 2) ls ((2, x) :: st) R m := by
  rw [ev_act h rfl]
  simp only [zex, zla, hk]
  rfl
theorem e_sload_n {k : Fin 4} {x : Int} (h : zcode y pc = some (.aload_n k, 1)) (hk : ls[k.val]? = some (3, x)) : ev y pc ls (st) R m = ev y (pc + 1) ls ((3, x) :: st) R m := by
  rw [ev_act h rfl]
  simp only [zex, zla, hk]
  rfl
theorem e_sload {k : Nat} {x : Int} (h : zcode y pc = some (.aload k, 2)) (hk : ls[k]? = some (3, x)) : ev y pc ls (st) R m = ev y (pc + 2) ls ((3, x) :: st) R m := by
  rw [ev_act h rfl]
  simp only [zex, zla, hk]
  rfl
theorem e_xload_n {k : Fin 4} {x : Int} (h : zcode y pc = some (.aload_n k, 1)) (hk : ls[k.val]? = some (4, x)) : ev y pc ls (st) R m = ev y (pc + 1) ls ((4, x) :: st) R m := by
  rw [ev_act h rfl]
  simp only [zex, zla, hk]
  rfl
theorem e_xload {k : Nat} {x : Int} (h : zcode y pc = some (.aload k, 2)) (hk : ls[k]? = some (4, x)) : ev y pc ls (st) R m = ev y (pc + 2) ls ((4, x) :: st) R m := by
  rw [ev_act h rfl]
  simp only [zex, zla, hk]
  rfl
theorem e_lload_n {k : Fin 4} {x w : Int} (h : zcode y pc = some (.lload_n k, 1)) (hk : ls[k.val]? = some (1, x)) (hk2 : ls[k.val + 1]? = some (8, w)) : ev y pc ls (st) R m = ev y (pc + 1) ls ((1, x) :: st) R m := by
  rw [ev_act h rfl]
  simp only [zex, zll, hk, hk2]
  rfl
theorem e_lload {k : Nat} {x w : Int} (h : zcode y pc = some (.lload k, 2)) (hk : ls[k]? = some (1, x)) (hk2 : ls[k + 1]? = some (8, w)) : ev y pc ls (st) R m = ev y (pc + 2) ls ((1, x) :: st) R m := by
  rw [ev_act h rfl]
  simp only [zex, zll, hk, hk2]
  rfl
theorem e_istore_n {k : Fin 4} {x : Int} {ls2 : List zV} (h : zcode y pc = some (.istore_n k, 1)) (hl : k.val < ls.length) (h2 : ls.set k.val (0, x) = ls2) : ev y pc ls ((0, x) :: st) R m = ev y (pc + 1) ls2 (st) R m := by
  rw [ev_act h rfl]
  simp only [zex, zsi, if_pos hl, h2]
  rfl
theorem e_istore {k : Nat} {x : Int} {ls2 : List zV} (h : zcode y pc = some (.istore k, 2)) (hl : k < ls.length) (h2 : ls.set k (0, x) = ls2) : ev y pc ls ((0, x) :: st) R m = ev y (pc + 2) ls2 (st) R m := by
  rw [ev_act h rfl]
  simp only [zex, zsi, if_pos hl, h2]
  rfl
theorem e_astore_n {k : Fin 4} {x : Int} {ls2 : List zV} (h : zcode y pc = some (.astore_n k, 1)) (hl : k.val < ls.length) (h2 : ls.set k.val (2, x) = ls2) : ev y pc ls ((2, x) :: st) R m = ev y (pc + 1) ls2 (st) R m := by
  rw [ev_act h rfl]
  simp only [zex, zsa, if_pos hl, h2]
  rfl
theorem e_astore {k : Nat} {x : Int} {ls2 : List zV} (h : zcode y pc = some (.astore k, 2)) (hl : k < ls.length) (h2 : ls.set k (2, x) = ls2) : ev y pc ls ((2, x) :: st) R m = ev y (pc + 2) ls2 (st) R m := by
  rw [ev_act h rfl]
  simp only [zex, zsa, if_pos hl, h2]
  rfl
theorem e_lstore_n {k : Fin 4} {x : Int} {ls2 : List zV} (h : zcode y pc = some (.lstore_n k, 1)) (hl : k.val + 1 < ls.length) (h2 : (ls.set k.val (1, x)).set (k.val + 1) (8, 0) = ls2) : ev y pc ls ((1, x) :: st) R m = ev y (pc + 1) ls2 (st) R m := by
  rw [ev_act h rfl]
  simp only [zex, zsl, if_pos hl, h2]
  rfl
theorem e_lstore {k : Nat} {x : Int} {ls2 : List zV} (h : zcode y pc = some (.lstore k, 2)) (hl : k + 1 < ls.length) (h2 : (ls.set k (1, x)).set (k + 1) (8, 0) = ls2) : ev y pc ls ((1, x) :: st) R m = ev y (pc + 2) ls2 (st) R m := by
  rw [ev_act h rfl]
  simp only [zex, zsl, if_pos hl, h2]
  rfl
theorem e_iinc {k : Nat} {c x : Int} {ls2 : List zV} (h : zcode y pc = some (.iinc k c, 3)) (hk : ls[k]? = some (0, x)) (h2 : ls.set k (0, zw (x + c)) = ls2) : ev y pc ls (st) R m = ev y (pc + 3) ls2 (st) R m := by
  rw [ev_act h rfl]
  simp only [zex, hk, h2]
  rfl
theorem e_dup0 {x : Int} (h : zcode y pc = some (.dup, 1)) : ev y pc ls ((0, x) :: st) R m = ev y (pc + 1) ls ((0, x) :: (0, x) :: st) R m := by
  rw [ev_act h rfl]
  rfl
theorem e_dup2r {x : Int} (h : zcode y pc = some (.dup, 1)) : ev y pc ls ((2, x) :: st) R m = ev y (pc + 1) ls ((2, x) :: (2, x) :: st) R m := by
  rw [ev_act h rfl]
  rfl
theorem e_dup2 {x a : Int} (h : zcode y pc = some (.dup2, 1)) : ev y pc ls ((0, x) :: (2, a) :: st) R m = ev y (pc + 1) ls ((0, x) :: (2, a) :: (0, x) :: (2, a) :: st) R m := by
  rw [ev_act h rfl]
  rfl
theorem e_pop0 {x : Int} (h : zcode y pc = some (.pop, 1)) : ev y pc ls ((0, x) :: st) R m = ev y (pc + 1) ls (st) R m := by
  rw [ev_act h rfl]
  rfl
theorem e_pop2 {x : Int} (h : zcode y pc = some (.pop, 1)) : ev y pc ls ((2, x) :: st) R m = ev y (pc + 1) ls (st) R m := by
  rw [ev_act h rfl]
  rfl
theorem e_iadd {a b : Int} (h : zcode y pc = some (.iadd, 1)) : ev y pc ls ((0, b) :: (0, a) :: st) R m = ev y (pc + 1) ls ((0, zw (a + b)) :: st) R m := by
  rw [ev_act h rfl]
  rfl
theorem e_isub {a b : Int} (h : zcode y pc = some (.isub, 1)) : ev y pc ls ((0, b) :: (0, a) :: st) R m = ev y (pc + 1) ls ((0, zw (a - b)) :: st) R m := by
  rw [ev_act h rfl]
  rfl
theorem e_imul {a b : Int} (h : zcode y pc = some (.imul, 1)) : ev y pc ls ((0, b) :: (0, a) :: st) R m = ev y (pc + 1) ls ((0, zw (a * b)) :: st) R m := by
  rw [ev_act h rfl]
  rfl
theorem e_iand {a b : Int} (h : zcode y pc = some (.iand, 1)) : ev y pc ls ((0, b) :: (0, a) :: st) R m = ev y (pc + 1) ls ((0, z32 (· &&& ·) a b) :: st) R m := by
  rw [ev_act h rfl]
  rfl
theorem e_ior {a b : Int} (h : zcode y pc = some (.ior, 1)) : ev y pc ls ((0, b) :: (0, a) :: st) R m = ev y (pc + 1) ls ((0, z32 (· ||| ·) a b) :: st) R m := by
  rw [ev_act h rfl]
  rfl
theorem e_ixor {a b : Int} (h : zcode y pc = some (.ixor, 1)) : ev y pc ls ((0, b) :: (0, a) :: st) R m = ev y (pc + 1) ls ((0, z32 (· ^^^ ·) a b) :: st) R m := by
  rw [ev_act h rfl]
  rfl
theorem e_ishl {a b : Int} (h : zcode y pc = some (.ishl, 1)) : ev y pc ls ((0, b) :: (0, a) :: st) R m = ev y (pc + 1) ls ((0, z32 (fun x y => x <<< (y &&& 31)) a b) :: st) R m := by
  rw [ev_act h rfl]
  rfl
theorem e_ishr {a b : Int} (h : zcode y pc = some (.ishr, 1)) : ev y pc ls ((0, b) :: (0, a) :: st) R m = ev y (pc + 1) ls ((0, z32 (fun x y => x >>> (y &&& 31)) a b) :: st) R m := by
  rw [ev_act h rfl]
  rfl
theorem e_ladd {a b : Int} (h : zcode y pc = some (.ladd, 1)) : ev y pc ls ((1, b) :: (1, a) :: st) R m = ev y (pc + 1) ls ((1, z64 (· + ·) a b) :: st) R m := by
  rw [ev_act h rfl]
  rfl
theorem e_lsub {a b : Int} (h : zcode y pc = some (.lsub, 1)) : ev y pc ls ((1, b) :: (1, a) :: st) R m = ev y (pc + 1) ls ((1, z64 (· - ·) a b) :: st) R m := by
  rw [ev_act h rfl]
  rfl
theorem e_land {a b : Int} (h : zcode y pc = some (.land, 1)) : ev y pc ls ((1, b) :: (1, a) :: st) R m = ev y (pc + 1) ls ((1, z64 (· &&& ·) a b) :: st) R m := by
  rw [ev_act h rfl]
  rfl
theorem e_lor {a b : Int} (h : zcode y pc = some (.lor, 1)) : ev y pc ls ((1, b) :: (1, a) :: st) R m = ev y (pc + 1) ls ((1, z64 (· ||| ·) a b) :: st) R m := by
  rw [ev_act h rfl]
  rfl
theorem e_lxor {a b : Int} (h : zcode y pc = some (.lxor, 1)) : ev y pc ls ((1, b) :: (1, a) :: st) R m = ev y (pc + 1) ls ((1, z64 (· ^^^ ·) a b) :: st) R m := by
  rw [ev_act h rfl]
  rfl
theorem e_lshl {a b : Int} (h : zcode y pc = some (.lshl, 1)) : ev y pc ls ((0, b) :: (1, a) :: st) R m = ev y (pc + 1) ls ((1, z6s (fun x y => x <<< (y.toInt64 &&& 63)) a b) :: st) R m := by
  rw [ev_act h rfl]
  rfl
theorem e_lshr {a b : Int} (h : zcode y pc = some (.lshr, 1)) : ev y pc ls ((0, b) :: (1, a) :: st) R m = ev y (pc + 1) ls ((1, z6s (fun x y => x >>> (y.toInt64 &&& 63)) a b) :: st) R m := by
  rw [ev_act h rfl]
  rfl
theorem e_lushr {a b : Int} (h : zcode y pc = some (.lushr, 1)) : ev y pc ls ((0, b) :: (1, a) :: st) R m = ev y (pc + 1) ls ((1, z6s (fun x y => (x.toUInt64 >>> (y.toInt64.toUInt64 &&& Int64.toUInt64 63)).toInt64) a b) :: st) R m := by
  rw [ev_act h rfl]
  rfl
theorem e_lcmp {a b : Int} (h : zcode y pc = some (.lcmp, 1)) : ev y pc ls ((1, b) :: (1, a) :: st) R m = ev y (pc + 1) ls ((0, if b < a then 1 else if a = b then 0 else -1) :: st) R m := by
  rw [ev_act h rfl]
  rfl
theorem e_ineg {a : Int} (h : zcode y pc = some (.ineg, 1)) : ev y pc ls ((0, a) :: st) R m = ev y (pc + 1) ls ((0, zw (-a)) :: st) R m := by
  rw [ev_act h rfl]
  rfl
theorem e_i2l {a : Int} (h : zcode y pc = some (.i2l, 1)) : ev y pc ls ((0, a) :: st) R m = ev y (pc + 1) ls ((1, a) :: st) R m := by
  rw [ev_act h rfl]
  rfl
theorem e_l2i {a : Int} (h : zcode y pc = some (.l2i, 1)) : ev y pc ls ((1, a) :: st) R m = ev y (pc + 1) ls ((0, zw a) :: st) R m := by
  rw [ev_act h rfl]
  rfl
theorem e_i2b {a : Int} (h : zcode y pc = some (.i2b, 1)) : ev y pc ls ((0, a) :: st) R m = ev y (pc + 1) ls ((0, zi2b a) :: st) R m := by
  rw [ev_act h rfl]
  rfl
theorem e_i2s {a : Int} (h : zcode y pc = some (.i2s, 1)) : ev y pc ls ((0, a) :: st) R m = ev y (pc + 1) ls ((0, zi2s a) :: st) R m := by
  rw [ev_act h rfl]
  rfl
theorem e_idiv {a b : Int} (h : zcode y pc = some (.idiv, 1)) : ev y pc ls ((0, b) :: (0, a) :: st) R m = if b = 0 then none else ev y (pc + 1) ls ((0, z32 (· / ·) a b) :: st) R m := by
  rw [ev_act h rfl]
  simp only [zex]
  split <;> rfl
theorem e_irem {a b : Int} (h : zcode y pc = some (.irem, 1)) : ev y pc ls ((0, b) :: (0, a) :: st) R m = if b = 0 then none else ev y (pc + 1) ls ((0, z32 (fun x y => x - x / y * y) a b) :: st) R m := by
  rw [ev_act h rfl]
  simp only [zex]
  split <;> rfl
theorem e_goto {off : Int} {tgt : Nat} (h : zcode y pc = some (.goto off, 3)) (h0 : 0 ≤ (pc : Int) + off) (ht : ((pc : Int) + off).toNat = tgt) : ev y pc ls (st) R m = ev y tgt ls st R m := by
  rw [ev_act h rfl]
  subst ht
  simp only [zex, zto, if_pos h0]
  rfl
theorem e_if_eq {off a : Int} {tgt : Nat} (h : zcode y pc = some (.ifCond .eq off, 3)) (h0 : 0 ≤ (pc : Int) + off) (ht : ((pc : Int) + off).toNat = tgt) : ev y pc ls ((0, a) :: st) R m = if a = 0 then ev y tgt ls st R m else ev y (pc + 3) ls st R m := by
  rw [ev_act h rfl]
  subst ht
  simp only [zex, zto, if_pos h0, zcmp, decide_eq_true_eq]
  split <;> rfl
theorem e_icmp_eq {off a b : Int} {tgt : Nat} (h : zcode y pc = some (.if_icmp .eq off, 3)) (h0 : 0 ≤ (pc : Int) + off) (ht : ((pc : Int) + off).toNat = tgt) : ev y pc ls ((0, b) :: (0, a) :: st) R m = if a = b then ev y tgt ls st R m else ev y (pc + 3) ls st R m := by
  rw [ev_act h rfl]
  subst ht
  simp only [zex, zto, if_pos h0, zcmp, decide_eq_true_eq]
  split <;> rfl
theorem e_if_ne {off a : Int} {tgt : Nat} (h : zcode y pc = some (.ifCond .ne off, 3)) (h0 : 0 ≤ (pc : Int) + off) (ht : ((pc : Int) + off).toNat = tgt) : ev y pc ls ((0, a) :: st) R m = if a = 0 then ev y (pc + 3) ls st R m else ev y tgt ls st R m := by
  rw [ev_act h rfl]
  subst ht
  simp only [zex, zto, if_pos h0, zcmp, decide_eq_true_eq]
  by_cases q : a = 0 <;> simp only [q, not_true, not_false_iff, if_true, if_false] <;> rfl
theorem e_icmp_ne {off a b : Int} {tgt : Nat} (h : zcode y pc = some (.if_icmp .ne off, 3)) (h0 : 0 ≤ (pc : Int) + off) (ht : ((pc : Int) + off).toNat = tgt) : ev y pc ls ((0, b) :: (0, a) :: st) R m = if a = b then ev y (pc + 3) ls st R m else ev y tgt ls st R m := by
  rw [ev_act h rfl]
  subst ht
  simp only [zex, zto, if_pos h0, zcmp, decide_eq_true_eq]
  by_cases q : a = b <;> simp only [q, not_true, not_false_iff, if_true, if_false] <;> rfl
theorem e_if_lt {off a : Int} {tgt : Nat} (h : zcode y pc = some (.ifCond .lt off, 3)) (h0 : 0 ≤ (pc : Int) + off) (ht : ((pc : Int) + off).toNat = tgt) : ev y pc ls ((0, a) :: st) R m = if a < 0 then ev y tgt ls st R m else ev y (pc + 3) ls st R m := by
  rw [ev_act h rfl]
  subst ht
  simp only [zex, zto, if_pos h0, zcmp, decide_eq_true_eq]
  split <;> rfl
theorem e_icmp_lt {off a b : Int} {tgt : Nat} (h : zcode y pc = some (.if_icmp .lt off, 3)) (h0 : 0 ≤ (pc : Int) + off) (ht : ((pc : Int) + off).toNat = tgt) : ev y pc ls ((0, b) :: (0, a) :: st) R m = if a < b then ev y tgt ls st R m else ev y (pc + 3) ls st R m := by
  rw [ev_act h rfl]
  subst ht
  simp only [zex, zto, if_pos h0, zcmp, decide_eq_true_eq]
  split <;> rfl
theorem e_if_ge {off a : Int} {tgt : Nat} (h : zcode y pc = some (.ifCond .ge off, 3)) (h0 : 0 ≤ (pc : Int) + off) (ht : ((pc : Int) + off).toNat = tgt) : ev y pc ls ((0, a) :: st) R m = if 0 ≤ a then ev y tgt ls st R m else ev y (pc + 3) ls st R m := by
  rw [ev_act h rfl]
  subst ht
  simp only [zex, zto, if_pos h0, zcmp, decide_eq_true_eq]
  split <;> rfl
theorem e_icmp_ge {off a b : Int} {tgt : Nat} (h : zcode y pc = some (.if_icmp .ge off, 3)) (h0 : 0 ≤ (pc : Int) + off) (ht : ((pc : Int) + off).toNat = tgt) : ev y pc ls ((0, b) :: (0, a) :: st) R m = if b ≤ a then ev y tgt ls st R m else ev y (pc + 3) ls st R m := by
  rw [ev_act h rfl]
  subst ht
  simp only [zex, zto, if_pos h0, zcmp, decide_eq_true_eq]
  split <;> rfl
theorem e_if_gt {off a : Int} {tgt : Nat} (h : zcode y pc = some (.ifCond .gt off, 3)) (h0 : 0 ≤ (pc : Int) + off) (ht : ((pc : Int) + off).toNat = tgt) : ev y pc ls ((0, a) :: st) R m = if 0 < a then ev y tgt ls st R m else ev y (pc + 3) ls st R m := by
  rw [ev_act h rfl]
  subst ht
  simp only [zex, zto, if_pos h0, zcmp, decide_eq_true_eq]
  split <;> rfl
theorem e_icmp_gt {off a b : Int} {tgt : Nat} (h : zcode y pc = some (.if_icmp .gt off, 3)) (h0 : 0 ≤ (pc : Int) + off) (ht : ((pc : Int) + off).toNat = tgt) : ev y pc ls ((0, b) :: (0, a) :: st) R m = if b < a then ev y tgt ls st R m else ev y (pc + 3) ls st R m := by
  rw [ev_act h rfl]
  subst ht
  simp only [zex, zto, if_pos h0, zcmp, decide_eq_true_eq]
  split <;> rfl
theorem e_if_le {off a : Int} {tgt : Nat} (h : zcode y pc = some (.ifCond .le off, 3)) (h0 : 0 ≤ (pc : Int) + off) (ht : ((pc : Int) + off).toNat = tgt) : ev y pc ls ((0, a) :: st) R m = if a ≤ 0 then ev y tgt ls st R m else ev y (pc + 3) ls st R m := by
  rw [ev_act h rfl]
  subst ht
  simp only [zex, zto, if_pos h0, zcmp, decide_eq_true_eq]
  split <;> rfl
theorem e_icmp_le {off a b : Int} {tgt : Nat} (h : zcode y pc = some (.if_icmp .le off, 3)) (h0 : 0 ≤ (pc : Int) + off) (ht : ((pc : Int) + off).toNat = tgt) : ev y pc ls ((0, b) :: (0, a) :: st) R m = if a ≤ b then ev y tgt ls st R m else ev y (pc + 3) ls st R m := by
  rw [ev_act h rfl]
  subst ht
  simp only [zex, zto, if_pos h0, zcmp, decide_eq_true_eq]
  split <;> rfl
theorem e_ifnull {off a : Int} {tgt : Nat} (h : zcode y pc = some (.ifnull off, 3)) (h0 : 0 ≤ (pc : Int) + off) (ht : ((pc : Int) + off).toNat = tgt) : ev y pc ls ((2, a) :: st) R m = if a = 0 then ev y tgt ls st R m else ev y (pc + 3) ls st R m := by
  rw [ev_act h rfl]
  subst ht
  simp only [zex, zto, if_pos h0, decide_eq_true_eq]
  split <;> rfl
theorem e_ifnonnull {off a : Int} {tgt : Nat} (h : zcode y pc = some (.ifnonnull off, 3)) (h0 : 0 ≤ (pc : Int) + off) (ht : ((pc : Int) + off).toNat = tgt) : ev y pc ls ((2, a) :: st) R m = if a = 0 then ev y (pc + 3) ls st R m else ev y tgt ls st R m := by
  rw [ev_act h rfl]
  subst ht
  simp only [zex, zto, if_pos h0, decide_eq_true_eq]
  by_cases q : a = 0 <;> simp only [q, not_true, not_false_iff, if_true, if_false] <;> rfl
theorem e_table {d lo hi a : Int} {offs : Array Int} {n : Nat} (h : zcode y pc = some (.tableswitch d lo hi offs, n)) : ev y pc ls ((0, a) :: st) R m = zint zev (if a < lo ∨ hi < a then zto true d n y pc ls st R m else match offs[(a - lo).toNat]? with
      | some off => zto true off n y pc ls st R m
      | none => none) := by
  rw [ev_act h rfl]
  rfl
theorem e_lookup {d a : Int} {ps : Array (Int × Int)} {n : Nat} (h : zcode y pc = some (.lookupswitch d ps, n)) (hp : (ps.toList.zip (ps.toList.drop 1)).all (fun (a, next) => a.1 < next.1) = true) : ev y pc ls ((0, a) :: st) R m = zint zev (zto true (Op.lookupswitch.offset ps.toList d a) n y pc ls st R m) := by
  rw [ev_act h rfl]
  simp only [zex]
  rw [if_pos hp]
theorem e_to {off : Int} {n tgt : Nat} (h0 : 0 ≤ (pc : Int) + off) (ht : ((pc : Int) + off).toNat = tgt) : zint zev (zto true off n y pc ls st R m) = ev y tgt ls st R m := by
  subst ht
  simp only [zto, if_pos h0]
  rfl
theorem e_getI {k ci j : Nat} {a : Int} (h : zcode y pc = some (.getfield k, 3)) (hz : zfld (zoc y) k = some (ci, j)) (hf : ¬ zft ci j = 2) (ha : KX R a = ci + 1) : ev y pc ls ((2, a) :: st) R m = ev y (pc + 3) ls ((0, m a j) :: st) R m := by
  rw [ev_act h rfl]
  simp only [zex, hz, if_pos ha, if_neg hf]
  rfl
theorem e_getR {k ci j : Nat} {a : Int} (h : zcode y pc = some (.getfield k, 3)) (hz : zfld (zoc y) k = some (ci, j)) (hf : zft ci j = 2) (ha : KX R a = ci + 1) : ev y pc ls ((2, a) :: st) R m = ev y (pc + 3) ls ((2, R a j) :: st) R m := by
  rw [ev_act h rfl]
  simp only [zex, hz, if_pos ha, if_pos hf]
  rfl
theorem e_putI {k ci j : Nat} {a x : Int} (h : zcode y pc = some (.putfield k, 3)) (hz : zfld (zoc y) k = some (ci, j)) (hf : zft ci j = 0) (ha : KX R a = ci + 1) : ev y pc ls ((0, x) :: (2, a) :: st) R m = ev y (pc + 3) ls (st) R (zup m a j x) := by
  rw [ev_act h rfl]
  simp only [zex, hz, if_pos ha, hf, and_self, if_true]
  rfl
theorem e_putZ {k ci j : Nat} {a x : Int} (h : zcode y pc = some (.putfield k, 3)) (hz : zfld (zoc y) k = some (ci, j)) (hf : zft ci j = 5) (ha : KX R a = ci + 1) (hx : x = 0 ∨ x = 1) : ev y pc ls ((0, x) :: (2, a) :: st) R m = ev y (pc + 3) ls (st) R (zup m a j x) := by
  rw [ev_act h rfl]
  simp only [zex, hz, if_pos ha, hf]
  rw [if_neg (by omega), if_pos ⟨trivial, trivial, hx⟩]
  rfl
theorem e_putR {k ci j : Nat} {a x : Int} (h : zcode y pc = some (.putfield k, 3)) (hz : zfld (zoc y) k = some (ci, j)) (hf : zft ci j = 2) (hn : (zmn y).name = "<init>" ∧ zoc y = ci) (ha : KX R a = ci + 1) : ev y pc ls ((2, x) :: (2, a) :: st) R m = ev y (pc + 3) ls (st) (zup R a j x) m := by
  rw [ev_act h rfl]
  simp only [zex, hz, if_pos ha, hf]
  rw [if_neg (by omega), if_neg (by omega), if_pos ⟨trivial, trivial, hn.1, hn.2⟩]
  rfl
theorem e_ialoadX {a i : Int} (h : zcode y pc = some (.iaload, 1)) (ha : KX R a = 20) : ev y pc ls ((0, i) :: (2, a) :: st) R m = if 0 ≤ i ∧ i < LX R a then ev y (pc + 1) ls ((0, m a i) :: st) R m else none := by
  rw [ev_act h rfl]
  simp only [zex, ha, true_and]
  split <;> rfl
theorem e_iaload {a i : Int} (h : zcode y pc = some (.iaload, 1)) (ha : KD a = 20) : ev y pc ls ((0, i) :: (2, a) :: st) R m = if 0 ≤ i ∧ i < LN a then ev y (pc + 1) ls ((0, m a i) :: st) R m else none := by
  rw [ev_act h rfl]
  simp only [zex, KX_k (R := R) ha (by decide), KX_l (R := R) ha (by decide), true_and]
  split <;> rfl
theorem e_laloadX {a i : Int} (h : zcode y pc = some (.laload, 1)) (ha : KX R a = 21) : ev y pc ls ((0, i) :: (2, a) :: st) R m = if 0 ≤ i ∧ i < LX R a then ev y (pc + 1) ls ((1, m a i) :: st) R m else none := by
  rw [ev_act h rfl]
  simp only [zex, ha, true_and]
  split <;> rfl
theorem e_laload {a i : Int} (h : zcode y pc = some (.laload, 1)) (ha : KD a = 21) : ev y pc ls ((0, i) :: (2, a) :: st) R m = if 0 ≤ i ∧ i < LN a then ev y (pc + 1) ls ((1, m a i) :: st) R m else none := by
  rw [ev_act h rfl]
  simp only [zex, KX_k (R := R) ha (by decide), KX_l (R := R) ha (by decide), true_and]
  split <;> rfl
theorem e_aaloadX {a i : Int} (h : zcode y pc = some (.aaload, 1)) (ha : KX R a = 23) : ev y pc ls ((0, i) :: (2, a) :: st) R m = if 0 ≤ i ∧ i < LX R a then ev y (pc + 1) ls ((2, R a i) :: st) R m else none := by
  rw [ev_act h rfl]
  simp only [zex, ha, true_and]
  split <;> rfl
theorem e_aaload {a i : Int} (h : zcode y pc = some (.aaload, 1)) (ha : KD a = 23) : ev y pc ls ((0, i) :: (2, a) :: st) R m = if 0 ≤ i ∧ i < LN a then ev y (pc + 1) ls ((2, R a i) :: st) R m else none := by
  rw [ev_act h rfl]
  simp only [zex, KX_k (R := R) ha (by decide), KX_l (R := R) ha (by decide), true_and]
  split <;> rfl
theorem e_saload {a i : Int} (h : zcode y pc = some (.iaload, 1)) : ev y pc ls ((0, i) :: (4, a) :: st) R m = if 0 ≤ i ∧ i < R 0 2 then ev y (pc + 1) ls ((0, R 0 (3 + i)) :: st) R m else none := by
  rw [ev_act h rfl]
  simp only [zex]
  split <;> rfl
theorem e_iastoreX {a i x : Int} (h : zcode y pc = some (.iastore, 1)) (ha : KX R a = 20) : ev y pc ls ((0, x) :: (0, i) :: (2, a) :: st) R m = if 0 ≤ i ∧ i < LX R a then ev y (pc + 1) ls (st) R (zup m a i x) else none := by
  rw [ev_act h rfl]
  simp only [zex, ha, true_and]
  split <;> rfl
theorem e_iastore {a i x : Int} (h : zcode y pc = some (.iastore, 1)) (ha : KD a = 20) : ev y pc ls ((0, x) :: (0, i) :: (2, a) :: st) R m = if 0 ≤ i ∧ i < LN a then ev y (pc + 1) ls (st) R (zup m a i x) else none := by
  rw [ev_act h rfl]
  simp only [zex, KX_k (R := R) ha (by decide), KX_l (R := R) ha (by decide), true_and]
  split <;> rfl
theorem e_lastoreX {a i x : Int} (h : zcode y pc = some (.lastore, 1)) (ha : KX R a = 21) : ev y pc ls ((1, x) :: (0, i) :: (2, a) :: st) R m = if 0 ≤ i ∧ i < LX R a then ev y (pc + 1) ls (st) R (zup m a i x) else none := by
  rw [ev_act h rfl]
  simp only [zex, ha, true_and]
  split <;> rfl
theorem e_lastore {a i x : Int} (h : zcode y pc = some (.lastore, 1)) (ha : KD a = 21) : ev y pc ls ((1, x) :: (0, i) :: (2, a) :: st) R m = if 0 ≤ i ∧ i < LN a then ev y (pc + 1) ls (st) R (zup m a i x) else none := by
  rw [ev_act h rfl]
  simp only [zex, KX_k (R := R) ha (by decide), KX_l (R := R) ha (by decide), true_and]
  split <;> rfl
theorem e_aastoreX {a i x : Int} (h : zcode y pc = some (.aastore, 1)) (ha : KX R a = 23) (hx : KX R x = 4) : ev y pc ls ((2, x) :: (0, i) :: (2, a) :: st) R m = if 0 ≤ i ∧ i < LX R a then ev y (pc + 1) ls (st) (zup R a i x) m else none := by
  rw [ev_act h rfl]
  simp only [zex, ha, hx, true_and, and_true]
  split <;> rfl
theorem e_alen {a : Int} (h : zcode y pc = some (.arraylength, 1)) (ha : KD a = 20 ∨ KD a = 21 ∨ KD a = 23) : ev y pc ls ((2, a) :: st) R m = ev y (pc + 1) ls ((0, LN a) :: st) R m := by
  rw [ev_act h rfl]
  have e : KX R a = KD a ∧ LX R a = LN a := KX_d (by omega)
  simp only [zex, e.1, e.2, if_pos (And.intro ha (z_LN a))]
  rfl
theorem e_salen {a : Int} (h : zcode y pc = some (.arraylength, 1)) : ev y pc ls ((4, a) :: st) R m = ev y (pc + 1) ls ((0, R 0 2) :: st) R m := by
  rw [ev_act h rfl]
  rfl
theorem e_newX {k ci : Nat} (h : zcode y pc = some (.new k, 3)) (hz : znew (zoc y) k = some ci) (ha : KD (znl R) = 0) (h0 : 0 ≤ R 0 0) : ev y pc ls (st) R m = ev y (pc + 3) ls ((2, znl R) :: st) (znX R ((ci + 1 : Nat) : Int) (znf ci : Int)) (zrow m (znl R) 0) := by
  rw [ev_act h rfl]
  simp only [zex, hz, if_pos (And.intro (Or.inl ha : KD (znl R) = 0 ∨ KD (znl R) = ci + 1) h0)]
  rfl
theorem e_new {k ci : Nat} (h : zcode y pc = some (.new k, 3)) (hz : znew (zoc y) k = some ci) (ha : KD (znl R) = ci + 1) (h0 : 0 ≤ R 0 0) : ev y pc ls (st) R m = ev y (pc + 3) ls ((2, znl R) :: st) (znR R (znf ci : Int)) (zrow m (znl R) 0) := by
  rw [ev_act h rfl]
  simp only [zex, hz, if_pos (And.intro (Or.inr ha : KD (znl R) = 0 ∨ KD (znl R) = ci + 1) h0), znX_D (R := R) (by omega)]
  rfl
theorem e_newX_int {x : Int} (h : zcode y pc = some (.newarray .int, 2)) (ha : KD (znl R) = 0 ∧ 0 ≤ x ∧ x ≤ 100000 ∧ 0 ≤ R 0 0) : ev y pc ls ((0, x) :: st) R m = ev y (pc + 2) ls ((2, znl R) :: st) (znX R 20 x) (zrow m (znl R) 0) := by
  rw [ev_act h rfl]
  simp only [zex, zna, if_pos (And.intro (Or.inl ha.1 : KD (znl R) = 0 ∨ KD (znl R) = 20 ∧ LN (znl R) = x) ha.2)]
  rfl
theorem e_new_int {x : Int} (h : zcode y pc = some (.newarray .int, 2)) (ha : KD (znl R) = 20 ∧ LN (znl R) = x ∧ 0 ≤ x ∧ x ≤ 100000 ∧ 0 ≤ R 0 0) : ev y pc ls ((0, x) :: st) R m = ev y (pc + 2) ls ((2, znl R) :: st) (znR R x) (zrow m (znl R) 0) := by
  rw [ev_act h rfl]
  simp only [zex, zna, if_pos (And.intro (Or.inr (And.intro ha.1 ha.2.1) : KD (znl R) = 0 ∨ KD (znl R) = 20 ∧ LN (znl R) = x) ha.2.2), znX_D (R := R) (show KD (znl R) ≠ 0 by omega)]
  rfl
theorem e_newX_long {x : Int} (h : zcode y pc = some (.newarray .long, 2)) (ha : KD (znl R) = 0 ∧ 0 ≤ x ∧ x ≤ 100000 ∧ 0 ≤ R 0 0) : ev y pc ls ((0, x) :: st) R m = ev y (pc + 2) ls ((2, znl R) :: st) (znX R 21 x) (zrow m (znl R) 0) := by
  rw [ev_act h rfl]
  simp only [zex, zna, if_pos (And.intro (Or.inl ha.1 : KD (znl R) = 0 ∨ KD (znl R) = 21 ∧ LN (znl R) = x) ha.2)]
  rfl
theorem e_new_long {x : Int} (h : zcode y pc = some (.newarray .long, 2)) (ha : KD (znl R) = 21 ∧ LN (znl R) = x ∧ 0 ≤ x ∧ x ≤ 100000 ∧ 0 ≤ R 0 0) : ev y pc ls ((0, x) :: st) R m = ev y (pc + 2) ls ((2, znl R) :: st) (znR R x) (zrow m (znl R) 0) := by
  rw [ev_act h rfl]
  simp only [zex, zna, if_pos (And.intro (Or.inr (And.intro ha.1 ha.2.1) : KD (znl R) = 0 ∨ KD (znl R) = 21 ∧ LN (znl R) = x) ha.2.2), znX_D (R := R) (show KD (znl R) ≠ 0 by omega)]
  rfl
theorem e_anew {k : Nat} {x : Int} (h : zcode y pc = some (.anewarray k, 3)) (hz : znew (zoc y) k = some 3) (ha : KD (znl R) = 23 ∧ LN (znl R) = x ∧ 0 ≤ x ∧ x ≤ 100000 ∧ 0 ≤ R 0 0) : ev y pc ls ((0, x) :: st) R m = ev y (pc + 3) ls ((2, znl R) :: st) (znR R x) (zrow m (znl R) 0) := by
  rw [ev_act h rfl]
  simp only [zex, hz, zna, if_pos (And.intro (Or.inr (And.intro ha.1 ha.2.1) : KD (znl R) = 0 ∨ KD (znl R) = 23 ∧ LN (znl R) = x) ha.2.2), znX_D (R := R) (show KD (znl R) ≠ 0 by omega)]
  rfl
theorem e_inv {y' na n : Nat} (hc : na ≤ st.length ∧ zcs (st.drop na) ≤ 8 ∧ zmf y' + 1 ≤ zmf y ∧ 8 + (zml y' + 11) + zmo y' ≤ zmo y ∧ ((st.take na).flatMap (fun v => if v.1 = 1 then [v, (8, 0)] else [v])).length ≤ zml y' ∧ ((st.take na).all (fun v => decide (v.1 < 5))) = true) : zint zev (zinv y' na n y pc ls st R m) = (ev y' 0 (zent (st.take na).reverse (zml y')) [] R m).bind fun r => ev y (pc + n) ls (zps r.1 (st.drop na)) r.2.1 r.2.2 := by
  unfold zinv
  rw [if_pos hc]
  rfl
theorem e_callV0 {k y' na : Nat} {as rest : List zV} (h : zcode y pc = some (.invokevirtual k, 3)) (hz : zlink (zoc y) k = some (0, y')) (hna : zma y' + 1 = na) (hc : na ≤ st.length ∧ zcs (st.drop na) ≤ 8 ∧ zmf y' + 1 ≤ zmf y ∧ 8 + (zml y' + 11) + zmo y' ≤ zmo y ∧ ((st.take na).flatMap (fun v => if v.1 = 1 then [v, (8, 0)] else [v])).length ≤ zml y' ∧ ((st.take na).all (fun v => decide (v.1 < 5))) = true) (has : zent (st.take na).reverse (zml y') = as) (hrest : st.drop na = rest) (ha : KX R (zrcv st (zma y')) = zoc y' + 1 ∧ zoc y' < 12) : ev y pc ls st R m = (ev y' 0 as [] R m).bind fun r => ev y (pc + 3) ls (zps r.1 rest) r.2.1 r.2.2 := by
  subst hna has hrest
  rw [ev_act h rfl]
  simp only [zex, hz, zcal]
  rw [if_pos ha]
  exact e_inv hc
theorem e_callS1 {k y' na : Nat} {as rest : List zV} (h : zcode y pc = some (.invokestatic k, 3)) (hz : zlink (zoc y) k = some (1, y')) (hna : zma y' = na) (hc : na ≤ st.length ∧ zcs (st.drop na) ≤ 8 ∧ zmf y' + 1 ≤ zmf y ∧ 8 + (zml y' + 11) + zmo y' ≤ zmo y ∧ ((st.take na).flatMap (fun v => if v.1 = 1 then [v, (8, 0)] else [v])).length ≤ zml y' ∧ ((st.take na).all (fun v => decide (v.1 < 5))) = true) (has : zent (st.take na).reverse (zml y') = as) (hrest : st.drop na = rest) : ev y pc ls st R m = (ev y' 0 as [] R m).bind fun r => ev y (pc + 3) ls (zps r.1 rest) r.2.1 r.2.2 := by
  subst hna has hrest
  rw [ev_act h rfl]
  simp only [zex, hz, zcal]
  skip
  exact e_inv hc
theorem e_callS4 {k y' na : Nat} {as rest : List zV} (h : zcode y pc = some (.invokestatic k, 3)) (hz : zlink (zoc y) k = some (4, y')) (hna : zma y' = na) (hc : na ≤ st.length ∧ zcs (st.drop na) ≤ 8 ∧ zmf y' + 1 ≤ zmf y ∧ 8 + (zml y' + 11) + zmo y' ≤ zmo y ∧ ((st.take na).flatMap (fun v => if v.1 = 1 then [v, (8, 0)] else [v])).length ≤ zml y' ∧ ((st.take na).all (fun v => decide (v.1 < 5))) = true) (has : zent (st.take na).reverse (zml y') = as) (hrest : st.drop na = rest) : ev y pc ls st R m = (ev y' 0 as [] R m).bind fun r => ev y (pc + 3) ls (zps r.1 rest) r.2.1 r.2.2 := by
  subst hna has hrest
  rw [ev_act h rfl]
  simp only [zex, hz, zcal]
  skip
  exact e_inv hc
theorem e_callI2 {k y' na : Nat} {as rest : List zV} (h : zcode y pc = some (.invokespecial k, 3)) (hz : zlink (zoc y) k = some (2, y')) (hna : zma y' + 1 = na) (hc : na ≤ st.length ∧ zcs (st.drop na) ≤ 8 ∧ zmf y' + 1 ≤ zmf y ∧ 8 + (zml y' + 11) + zmo y' ≤ zmo y ∧ ((st.take na).flatMap (fun v => if v.1 = 1 then [v, (8, 0)] else [v])).length ≤ zml y' ∧ ((st.take na).all (fun v => decide (v.1 < 5))) = true) (has : zent (st.take na).reverse (zml y') = as) (hrest : st.drop na = rest) (ha : KX R (zrcv st (zma y')) = zoc y' + 1) : ev y pc ls st R m = (ev y' 0 as [] R m).bind fun r => ev y (pc + 3) ls (zps r.1 rest) r.2.1 r.2.2 := by
  subst hna has hrest
  rw [ev_act h rfl]
  simp only [zex, hz, zcal]
  rw [if_pos ha]
  exact e_inv hc
theorem e_callI5 {k y' na : Nat} {as rest : List zV} (h : zcode y pc = some (.invokespecial k, 3)) (hz : zlink (zoc y) k = some (5, y')) (hna : zma y' + 1 = na) (hc : na ≤ st.length ∧ zcs (st.drop na) ≤ 8 ∧ zmf y' + 1 ≤ zmf y ∧ 8 + (zml y' + 11) + zmo y' ≤ zmo y ∧ ((st.take na).flatMap (fun v => if v.1 = 1 then [v, (8, 0)] else [v])).length ≤ zml y' ∧ ((st.take na).all (fun v => decide (v.1 < 5))) = true) (has : zent (st.take na).reverse (zml y') = as) (hrest : st.drop na = rest) (ha : KX R (zrcv st (zma y')) = zoc y' + 1) : ev y pc ls st R m = (ev y' 0 as [] R m).bind fun r => ev y (pc + 3) ls (zps r.1 rest) r.2.1 r.2.2 := by
  subst hna has hrest
  rw [ev_act h rfl]
  simp only [zex, hz, zcal]
  rw [if_pos ha]
  exact e_inv hc
theorem e_oinit {k u : Nat} {a : Int} (h : zcode y pc = some (.invokespecial k, 3)) (hz : zlink (zoc y) k = some (6, u)) (hc : st.length ≤ 4 ∧ 1 ≤ zmf y ∧ 20 ≤ zmo y) (ha : KX R a ≠ 0) : ev y pc ls ((2, a) :: st) R m = ev y (pc + 3) ls (st) R m := by
  rw [ev_act h rfl]
  simp only [zex, hz, zcal]
  rw [if_pos ⟨ha, hc⟩]
  rfl
theorem e_mabs {k u : Nat} {a : Int} (h : zcode y pc = some (.invokestatic k, 3)) (hz : zlink (zoc y) k = some (9, u)) (hc : st.length ≤ 4 ∧ 1 ≤ zmf y ∧ 21 ≤ zmo y) : ev y pc ls ((0, a) :: st) R m = ev y (pc + 3) ls ((0, if 0 ≤ a then a else zw (0 - a)) :: st) R m := by
  rw [ev_act h rfl]
  simp only [zex, hz, zcal]
  rw [if_pos hc]
  rfl
theorem e_mmax {k u : Nat} {a b : Int} (h : zcode y pc = some (.invokestatic k, 3)) (hz : zlink (zoc y) k = some (10, u)) (hc : st.length ≤ 4 ∧ 1 ≤ zmf y ∧ 21 ≤ zmo y) : ev y pc ls ((0, b) :: (0, a) :: st) R m = ev y (pc + 3) ls ((0, if a < b then b else a) :: st) R m := by
  rw [ev_act h rfl]
  simp only [zex, hz, zcal]
  rw [if_pos hc]
  rfl
theorem e_mmin {k u : Nat} {a b : Int} (h : zcode y pc = some (.invokestatic k, 3)) (hz : zlink (zoc y) k = some (11, u)) (hc : st.length ≤ 4 ∧ 1 ≤ zmf y ∧ 21 ≤ zmo y) : ev y pc ls ((0, b) :: (0, a) :: st) R m = ev y (pc + 3) ls ((0, if b < a then b else a) :: st) R m := by
  rw [ev_act h rfl]
  simp only [zex, hz, zcal]
  rw [if_pos hc]
  rfl
theorem e_fdiv {k u : Nat} {a b : Int} (h : zcode y pc = some (.invokestatic k, 3)) (hz : zlink (zoc y) k = some (12, u)) (hc : st.length ≤ 4 ∧ 1 ≤ zmf y ∧ 22 ≤ zmo y) : ev y pc ls ((0, b) :: (0, a) :: st) R m = if 0 < b then ev y (pc + 3) ls ((0, a / b) :: st) R m else none := by
  rw [ev_act h rfl]
  simp only [zex, hz, zcal]
  by_cases q : 0 < b
  · rw [if_pos ⟨hc.1, q, hc.2⟩, if_pos q]
    rfl
  · rw [if_neg (fun z => q z.2.1), if_neg q]
    rfl
theorem e_slen {k u : Nat} {j : Int} (h : zcode y pc = some (.invokevirtual k, 3)) (hz : zlink (zoc y) k = some (7, u)) (hc : st.length ≤ 4 ∧ 2 ≤ zmf y ∧ 40 ≤ zmo y) : ev y pc ls ((3, j) :: st) R m = ev y (pc + 3) ls ((0, ((zstl.getD j.toNat []).length : Int)) :: st) R m := by
  rw [ev_act h rfl]
  simp only [zex, hz, zcal]
  rw [if_pos hc]
  rfl
theorem e_schr {k u : Nat} {i j : Int} (h : zcode y pc = some (.invokevirtual k, 3)) (hz : zlink (zoc y) k = some (8, u)) (hc : st.length ≤ 4 ∧ 5 ≤ zmf y ∧ 106 ≤ zmo y) : ev y pc ls ((0, i) :: (3, j) :: st) R m = if 0 ≤ i ∧ i < ((zstl.getD j.toNat []).length : Int) then ev y (pc + 3) ls ((0, (zstl.getD j.toNat []).getD i.toNat 0) :: st) R m else none := by
  rw [ev_act h rfl]
  simp only [zex, hz, zcal]
  by_cases q : 0 ≤ i ∧ i < ((zstl.getD j.toNat []).length : Int)
  · rw [if_pos ⟨q.1, q.2, hc⟩, if_pos q]
    rfl
  · rw [if_neg (fun z => q ⟨z.1, z.2.1⟩), if_neg q]
    rfl
theorem e_iret {a : Int} (h : zcode y pc = some (.ireturn, 1)) (hr : zmr y = some .int) : ev y pc ls ([(0, a)]) R m = some ((0, a), R, m) := by
  rw [ev_act h rfl]
  simp only [zex, hr]
  rfl
theorem e_zret {a : Int} (h : zcode y pc = some (.ireturn, 1)) (hr : zmr y = some .boolean) : ev y pc ls ([(0, a)]) R m = if a = 0 ∨ a = 1 then some ((0, a), R, m) else none := by
  rw [ev_act h rfl]
  simp only [zex, hr]
  split <;> rfl
theorem e_lret {a : Int} (h : zcode y pc = some (.lreturn, 1)) (hr : zmr y = some .long) : ev y pc ls ([(1, a)]) R m = some ((1, a), R, m) := by
  rw [ev_act h rfl]
  simp only [zex, hr]
  rfl
theorem e_sret {a : Int} {nm : String} (h : zcode y pc = some (.areturn, 1)) (hr : zmr y = some (.object nm)) : ev y pc ls ([(3, a)]) R m = some ((3, a), R, m) := by
  rw [ev_act h rfl]
  simp only [zex, hr]
  rfl
theorem e_vret (h : zcode y pc = some (.return_, 1)) (hr : zmr y = none) : ev y pc ls ([]) R m = some ((9, 0), R, m) := by
  rw [ev_act h rfl]
  simp only [zex, hr]
  rfl
end EQS
