/-! arithmetic and bits of the small machine -/
theorem z_div {a b : Int} (ha : 0 ≤ a) (ha2 : a < 2147483648) (hb : 0 < b) (hb2 : b < 2147483648) : z32 (· / ·) a b = a / b := by
  unfold z32
  have e1 : (Int32.ofInt a).toInt = a := z_of ⟨by omega, ha2⟩
  have e2 : (Int32.ofInt b).toInt = b := z_of ⟨by omega, hb2⟩
  show (Int32.ofInt a / Int32.ofInt b).toInt = a / b
  rw [Int32.toInt_div, e1, e2, ← zw_bmod, Int.tdiv_eq_ediv_of_nonneg ha]
  have h1 : 0 ≤ a / b := Int.ediv_nonneg ha (by omega)
  have h2 : a / b ≤ a := Int.ediv_le_self b ha
  exact zw_i (by omega) (by omega)
theorem z_rem {a b : Int} (ha : 0 ≤ a) (ha2 : a < 2147483648) (hb : 0 < b) (hb2 : b < 2147483648) : z32 (fun x y => x - x / y * y) a b = a % b := by
  have h := z_div ha ha2 hb hb2
  have e : (Int32.ofInt a / Int32.ofInt b) = Int32.ofInt (a / b) := by
    rw [← h]
    exact z_32 (· / ·) a b
  unfold z32
  show (Int32.ofInt a - Int32.ofInt a / Int32.ofInt b * Int32.ofInt b).toInt = a % b
  rw [e, z_mul, z_sub, z_toInt]
  have h3 := Int.mul_ediv_add_emod a b
  have h4 := Int.emod_nonneg a (show b ≠ 0 by omega)
  have h5 := Int.emod_lt_of_pos a hb
  have h6 : a / b * b = a - a % b := by rw [Int.mul_comm]; omega
  have h7 : zw (a / b * b) = a - a % b := by rw [h6]; exact zw_i (by omega) (by omega)
  have h8 : zw (a % b) = a % b := zw_i (by omega) (by omega)
  rw [h7, show a - (a - a % b) = a % b by omega]
  simp only [h8]
theorem z_mask {a : Int} (k : Nat) (hk : k < 32) : z32 (· &&& ·) a ((2 ^ k - 1 : Nat) : Int) = a % ((2 ^ k : Nat) : Int) := by
  have hp : 2 ^ k ≤ 2 ^ 31 := Nat.pow_le_pow_right (by decide) (by omega)
  have hp0 : 0 < 2 ^ k := Nat.pow_pos (by decide)
  unfold z32
  show (Int32.ofInt a &&& Int32.ofInt ((2 ^ k - 1 : Nat) : Int)).toInt = _
  rw [← Int32.toInt_toBitVec, Int32.toBitVec_and, Int32.toBitVec_ofInt, Int32.toBitVec_ofInt, BitVec.toInt_eq_toNat_bmod, BitVec.toNat_and, BitVec.toNat_ofInt, BitVec.toNat_ofInt]
  have e1 : ((((2 ^ k - 1 : Nat) : Int)) % ((2 ^ 32 : Nat) : Int)).toNat = 2 ^ k - 1 := by
    rw [Int.emod_eq_of_lt (by omega) (by omega)]
    omega
  rw [e1, Nat.and_two_pow_sub_one_eq_mod]
  have e2 : (((a % ((2 ^ 32 : Nat) : Int)).toNat % 2 ^ k : Nat) : Int) = a % ((2 ^ k : Nat) : Int) := by
    rw [Int.natCast_emod, Int.toNat_of_nonneg (Int.emod_nonneg _ (by decide))]
    exact Int.emod_emod_of_dvd a (by exact_mod_cast Nat.pow_dvd_pow 2 (by omega))
  rw [e2, ← zw_bmod]
  have h4 := Int.emod_nonneg a (show ((2 ^ k : Nat) : Int) ≠ 0 by omega)
  have h5 := Int.emod_lt_of_pos a (show (0 : Int) < ((2 ^ k : Nat) : Int) by omega)
  exact zw_i (by omega) (by omega)
theorem z_and127 (a : Int) : z32 (· &&& ·) a 127 = a % 128 := z_mask 7 (by decide)
theorem z_and255 (a : Int) : z32 (· &&& ·) a 255 = a % 256 := z_mask 8 (by decide)
theorem z_and63 (a : Int) : z32 (· &&& ·) a 63 = a % 64 := z_mask 6 (by decide)
theorem z_and1 (a : Int) : z32 (· &&& ·) a 1 = a % 2 := z_mask 1 (by decide)
/-- sets of plots as longs -/
def zbit (p : Int) : Int := z6s (fun x y => x <<< (y.toInt64 &&& 63)) 1 p
def zclr (x p : Int) : Int := z64 (· &&& ·) x (z64 (· ^^^ ·) (zbit p) (-1))
def zset (x p : Int) : Int := z64 (· ||| ·) x (zbit p)
def zbt (x p : Int) : Bool := (Int64.ofInt x).toBitVec.getLsbD p.toNat
theorem zbt_and (x y p : Int) : zbt (z64 (· &&& ·) x y) p = (zbt x p && zbt y p) := by
  unfold zbt z64
  rw [z_back64, Int64.toBitVec_and, BitVec.getLsbD_and]
theorem zbt_or (x y p : Int) : zbt (z64 (· ||| ·) x y) p = (zbt x p || zbt y p) := by
  unfold zbt z64
  rw [z_back64, Int64.toBitVec_or, BitVec.getLsbD_or]
theorem zbt_xor (x y p : Int) : zbt (z64 (· ^^^ ·) x y) p = (zbt x p ^^ zbt y p) := by
  unfold zbt z64
  rw [z_back64, Int64.toBitVec_xor, BitVec.getLsbD_xor]
theorem zbt_0 (p : Int) : zbt 0 p = false := by
  unfold zbt
  show (0#64).getLsbD p.toNat = false
  simp
theorem zbt_k : ((List.range 64).all fun p => (List.range 64).all fun q => zbt (zbit (p : Int)) (q : Int) == decide (q = p)) = true := by decide +kernel
theorem zbt_bit {p q : Int} (hp : 0 ≤ p ∧ p < 64) (hq : 0 ≤ q ∧ q < 64) : zbt (zbit p) q = decide (q = p) := by
  have h := List.all_eq_true.mp zbt_k p.toNat (List.mem_range.mpr (by omega))
  have h := List.all_eq_true.mp h q.toNat (List.mem_range.mpr (by omega))
  rw [Int.toNat_of_nonneg hp.1, Int.toNat_of_nonneg hq.1] at h
  have h := eq_of_beq h
  rw [h]
  have : (q.toNat = p.toNat) ↔ q = p := by omega
  exact decide_eq_decide.mpr this
theorem zbt_m1 {p : Int} (h : 0 ≤ p ∧ p < 64) : zbt (-1) p = true := by
  unfold zbt
  show (BitVec.ofInt 64 (-1)).getLsbD p.toNat = true
  have : BitVec.ofInt 64 (-1) = BitVec.allOnes 64 := by decide
  rw [this, BitVec.getLsbD_allOnes]
  simp
  omega
theorem zbt_set {x p q : Int} (hp : 0 ≤ p ∧ p < 64) (hq : 0 ≤ q ∧ q < 64) : zbt (zset x p) q = (zbt x q || decide (q = p)) := by
  unfold zset
  rw [zbt_or, zbt_bit hp hq]
theorem zbt_clr {x p q : Int} (hp : 0 ≤ p ∧ p < 64) (hq : 0 ≤ q ∧ q < 64) : zbt (zclr x p) q = (zbt x q && !decide (q = p)) := by
  unfold zclr
  rw [zbt_and, zbt_xor, zbt_bit hp hq, zbt_m1 hq]
  cases zbt x q <;> cases decide (q = p) <;> rfl
theorem zbt_ext {x y : Int} (hx : zi64 x) (hy : zi64 y) (h : ∀ q : Int, 0 ≤ q → q < 64 → zbt x q = zbt y q) : x = y := by
  have : (Int64.ofInt x).toBitVec = (Int64.ofInt y).toBitVec := by
    apply BitVec.eq_of_getLsbD_eq
    intro i hi
    have := h i (by omega) (by omega)
    unfold zbt at this
    simpa using this
  have : Int64.ofInt x = Int64.ofInt y := Int64.toBitVec_inj.mp this
  exact (z_inj64 hx hy).mp this
theorem zsh_k : ((List.range 64).all fun p => ((Int32.ofInt (p : Int)).toInt64 &&& 63).toBitVec.smod 64 == BitVec.ofNat 64 p) = true := by decide +kernel
/-- a bit asked for by a shift -/
theorem z_ask {x p : Int} (hp : 0 ≤ p ∧ p < 64) : z64 (· &&& ·) (z6s (fun x y => x >>> (y.toInt64 &&& 63)) x p) 1 = if zbt x p = true then 1 else 0 := by
  have hk : ((Int32.ofInt p).toInt64 &&& 63).toBitVec.smod 64 = BitVec.ofNat 64 p.toNat := by
    have h := List.all_eq_true.mp zsh_k p.toNat (List.mem_range.mpr (by omega))
    rw [Int.toNat_of_nonneg hp.1] at h
    exact eq_of_beq h
  have e : z64 (· &&& ·) (z6s (fun x y => x >>> (y.toInt64 &&& 63)) x p) 1 = ((Int64.ofInt x >>> ((Int32.ofInt p).toInt64 &&& 63)) &&& 1).toInt := by
    unfold z64 z6s
    rw [z_back64]
    rfl
  rw [e, ← Int64.toInt_toBitVec, Int64.toBitVec_and, Int64.toBitVec_shiftRight, hk]
  have e2 : ((Int64.ofInt x).toBitVec.sshiftRight' (BitVec.ofNat 64 p.toNat) &&& (1 : Int64).toBitVec) = if zbt x p = true then 1#64 else 0#64 := by
    apply BitVec.eq_of_getLsbD_eq
    intro i hi
    rw [BitVec.getLsbD_and, show (1 : Int64).toBitVec = 1#64 from rfl, BitVec.getLsbD_one]
    by_cases h0 : i = 0
    · subst h0
      rw [BitVec.sshiftRight', BitVec.toNat_ofNat, Nat.mod_eq_of_lt (by omega), BitVec.getLsbD_sshiftRight]
      simp only [Nat.add_zero]
      rw [if_pos (by omega)]
      unfold zbt
      cases (Int64.ofInt x).toBitVec.getLsbD p.toNat <;> simp
    · simp only [h0, decide_false, Bool.and_false]
      split <;> simp [h0]
  rw [e2]
  split <;> rfl
/-! how many bits are set -/
def zbm (c : Nat) : Nat → Nat
  | 0 => 0
  | k + 1 => c + 256 * zbm c k
theorem zbm_s (c k : Nat) : zbm c (k + 1) = c + 256 * zbm c k := rfl
theorem zland {a b c d : Nat} (ha : a < 256) (hc : c < 256) : (a + 256 * b) &&& (c + 256 * d) = (a &&& c) + 256 * (b &&& d) := by
  have hac : a &&& c < 2 ^ 8 := Nat.and_lt_two_pow a (show c < 2 ^ 8 from hc)
  apply Nat.eq_of_testBit_eq
  intro i
  rw [Nat.testBit_and, Nat.add_comm a, Nat.add_comm c, Nat.add_comm (a &&& c), show 256 = 2 ^ 8 from rfl, Nat.testBit_two_pow_mul_add _ (show a < 2 ^ 8 from ha), Nat.testBit_two_pow_mul_add _ (show c < 2 ^ 8 from hc), Nat.testBit_two_pow_mul_add _ hac]
  split
  · rw [Nat.testBit_and]
  · rw [Nat.testBit_and]
def zb1 (k n : Nat) : Nat := n - ((n / 2) &&& zbm 0x55 k)
def zb2 (k n : Nat) : Nat := (n &&& zbm 0x33 k) + ((n / 4) &&& zbm 0x33 k)
def zb3 (k n : Nat) : Nat := (n + n / 16) &&& zbm 0x0f k
def zcn1 (n : Nat) : Nat → Nat
  | 0 => 0
  | k + 1 => zcn1 n k + if n.testBit k = true then 1 else 0
theorem zb_f1 : ((List.range 256).all fun a => (List.range 2).all fun c => ((a / 2 + 128 * c) &&& 0x55) == ((a / 2) &&& 0x55) && decide ((a / 2) &&& 0x55 ≤ a)) = true := by decide +kernel
theorem zb_f2 : ((List.range 256).all fun a => (List.range 4).all fun c => ((a / 4 + 64 * c) &&& 0x33) == ((a / 4) &&& 0x33) && decide ((a &&& 0x33) + ((a / 4) &&& 0x33) < 256)) = true := by decide +kernel
theorem zb_f3 : ((List.range 256).all fun a => let b := a - ((a / 2) &&& 0x55); let e := (b &&& 0x33) + ((b / 4) &&& 0x33); decide (e % 16 ≤ 4) && (List.range 5).all fun c => decide (e + e / 16 + 16 * c < 256) && (((e + e / 16 + 16 * c) &&& 0x0f) == zcn1 a 8)) = true := by decide +kernel
theorem zb_lt {k n : Nat} : n < 256 ^ (k + 1) → n / 256 < 256 ^ k := by
  intro h
  rw [Nat.pow_succ] at h
  exact Nat.div_lt_of_lt_mul (by rw [Nat.mul_comm]; exact h)
theorem zb1_s {k a b : Nat} (ha : a < 256) : zb1 (k + 1) (a + 256 * b) = (a - ((a / 2) &&& 0x55)) + 256 * zb1 k b := by
  have h := List.all_eq_true.mp (List.all_eq_true.mp zb_f1 a (List.mem_range.mpr ha)) (b % 2) (List.mem_range.mpr (by omega))
  simp only [Bool.and_eq_true, beq_iff_eq, decide_eq_true_eq] at h
  unfold zb1
  rw [zbm_s, show (a + 256 * b) / 2 = (a / 2 + 128 * (b % 2)) + 256 * (b / 2) by omega, zland (by omega) (by decide), h.1]
  have h2 : (b / 2) &&& zbm 0x55 k ≤ b / 2 := Nat.and_le_left
  have h3 := h.2
  generalize (b / 2) &&& zbm 0x55 k = v at *
  generalize (a / 2) &&& 85 = u at *
  omega
theorem zb2_s {k a b : Nat} (ha : a < 256) : zb2 (k + 1) (a + 256 * b) = ((a &&& 0x33) + ((a / 4) &&& 0x33)) + 256 * zb2 k b ∧ (a &&& 0x33) + ((a / 4) &&& 0x33) < 256 := by
  have h := List.all_eq_true.mp (List.all_eq_true.mp zb_f2 a (List.mem_range.mpr ha)) (b % 4) (List.mem_range.mpr (by omega))
  simp only [Bool.and_eq_true, beq_iff_eq, decide_eq_true_eq] at h
  refine ⟨?_, h.2⟩
  unfold zb2
  rw [zbm_s, show (a + 256 * b) / 4 = (a / 4 + 64 * (b % 4)) + 256 * (b / 4) by omega, zland ha (by decide), zland (a := a / 4 + 64 * (b % 4)) (by omega) (by decide), h.1]
  omega
theorem zb_main (k : Nat) : ∀ n, zb2 k (zb1 k n) % 16 ≤ 4 ∧ zb3 (k + 1) (zb2 (k + 1) (zb1 (k + 1) n)) = zcn1 (n % 256) 8 + 256 * zb3 k (zb2 k (zb1 k (n / 256))) := by
  have step : ∀ k n, zb2 (k + 1) (zb1 (k + 1) n) % 16 ≤ 4 := by
    intro k n
    have hn : n = n % 256 + 256 * (n / 256) := by omega
    have hr : n % 256 < 256 := Nat.mod_lt _ (by decide)
    rw [hn, zb1_s hr]
    have h1 : n % 256 - ((n % 256 / 2) &&& 85) < 256 := by omega
    rw [(zb2_s h1).1]
    have h := List.all_eq_true.mp zb_f3 (n % 256) (List.mem_range.mpr hr)
    simp only [Bool.and_eq_true, decide_eq_true_eq] at h
    have := h.1
    omega
  have low : ∀ n, zb2 k (zb1 k n) % 16 ≤ 4 := by
    intro n
    cases k with
    | zero => simp [zb2, zbm]
    | succ k => exact step k n
  intro n
  refine ⟨low n, ?_⟩
  have hn : n = n % 256 + 256 * (n / 256) := by omega
  have hr : n % 256 < 256 := Nat.mod_lt _ (by decide)
  have h1 : n % 256 - ((n % 256 / 2) &&& 85) < 256 := by omega
  have h := List.all_eq_true.mp zb_f3 (n % 256) (List.mem_range.mpr hr)
  simp only [Bool.and_eq_true, decide_eq_true_eq] at h
  have hl := low (n / 256)
  have e1 : zb1 (k + 1) n = (n % 256 - ((n % 256 / 2) &&& 85)) + 256 * zb1 k (n / 256) := by
    have := zb1_s (k := k) (a := n % 256) (b := n / 256) hr
    rw [← hn] at this
    exact this
  rw [e1, (zb2_s h1).1]
  have h2 := List.all_eq_true.mp h.2 (zb2 k (zb1 k (n / 256)) % 16) (List.mem_range.mpr (by omega))
  simp only [Bool.and_eq_true, decide_eq_true_eq, beq_iff_eq] at h2
  have h3 := (zb2_s (k := k) (b := 0) h1).2
  generalize ((n % 256 - ((n % 256 / 2) &&& 85)) &&& 51) + ((n % 256 - ((n % 256 / 2) &&& 85)) / 4 &&& 51) = e at *
  generalize zb2 k (zb1 k (n / 256)) = w at *
  unfold zb3
  rw [show zbm 15 (k + 1) = 15 + 256 * zbm 15 k from rfl, show e + 256 * w + (e + 256 * w) / 16 = (e + e / 16 + 16 * (w % 16)) + 256 * (w + w / 16) by omega, zland (by omega) (by decide), h2.2]
theorem zcn1_8 (n : Nat) : ∀ k, zcn1 n (8 + k) = zcn1 (n % 256) 8 + zcn1 (n / 256) k := by
  intro k
  induction k with
  | zero =>
    have h : ∀ j, j < 8 → n.testBit j = (n % 256).testBit j := by
      intro j hj
      rw [show 256 = 2 ^ 8 from rfl, Nat.testBit_mod_two_pow]
      simp [hj]
    simp only [zcn1, Nat.add_zero]
    rw [h 0 (by decide), h 1 (by decide), h 2 (by decide), h 3 (by decide), h 4 (by decide), h 5 (by decide), h 6 (by decide), h 7 (by decide)]
  | succ k ih =>
    have e : (n / 256).testBit k = n.testBit (8 + k) := by rw [show 256 = 2 ^ 8 from rfl, Nat.testBit_div_two_pow, Nat.add_comm]
    have e1 : zcn1 n (8 + (k + 1)) = zcn1 n (8 + k) + if n.testBit (8 + k) = true then 1 else 0 := rfl
    have e2 : zcn1 (n / 256) (k + 1) = zcn1 (n / 256) k + if (n / 256).testBit k = true then 1 else 0 := rfl
    rw [e1, e2, ih, e]
    omega
theorem zcn1_le (n k : Nat) : zcn1 n k ≤ k := by
  induction k with
  | zero => exact Nat.le_refl _
  | succ k ih => simp only [zcn1]; split <;> omega
def zlu (v : Int64) (k : Int) : Int64 := (v.toUInt64 >>> ((Int32.ofInt k).toInt64.toUInt64 &&& Int64.toUInt64 63)).toInt64
def zN (v : Int64) : Nat := v.toBitVec.toNat
theorem zN_lu {v : Int64} {k : Int} {j : Nat} (h : ((Int32.ofInt k).toInt64.toUInt64 &&& Int64.toUInt64 63).toNat % 64 = j) : zN (zlu v k) = zN v / 2 ^ j := by
  show (v.toUInt64 >>> ((Int32.ofInt k).toInt64.toUInt64 &&& Int64.toUInt64 63)).toNat = _
  rw [UInt64.toNat_shiftRight, h, Nat.shiftRight_eq_div_pow]
  rfl
theorem zN_lt (v : Int64) : zN v < 2 ^ 64 := v.toBitVec.isLt
theorem zN_add {u v : Int64} (h : zN u + zN v < 2 ^ 64) : zN (u + v) = zN u + zN v := by
  unfold zN at *
  rw [Int64.toBitVec_add, BitVec.toNat_add_of_lt h]
theorem zN_sub {u v : Int64} (h : zN v ≤ zN u) : zN (u - v) = zN u - zN v := by
  unfold zN at *
  rw [Int64.toBitVec_sub, BitVec.toNat_sub_of_le (BitVec.le_def.mpr h)]
theorem zN_and (u v : Int64) : zN (u &&& v) = zN u &&& zN v := by
  unfold zN
  rw [Int64.toBitVec_and, BitVec.toNat_and]
theorem zp_bd (x t B : Nat) (h1 : x ≤ 255) (h2 : t < B) : x + 256 * t < 256 * B := by omega
theorem zp_hm (A T B U : Nat) (h : A + B < 128) : (A + 256 * T + (B + 256 * U)) % 128 = A + B := by omega
theorem zp_d1 (a t : Nat) (h : a ≤ 8) : (a + 256 * t) / 2 ^ 8 = t := by omega
theorem zp_d2 (a b t : Nat) (h : a ≤ 16) (h2 : b ≤ 16) : (a + 256 * (b + 256 * t)) / 2 ^ 16 = t := by omega
theorem zp_d4 (a b c d t : Nat) (h : a ≤ 32) (h2 : b ≤ 32) (h3 : c ≤ 32) (h4 : d ≤ 32) : (a + 256 * (b + 256 * (c + 256 * (d + 256 * t)))) / 2 ^ 32 = t := by omega
theorem zp_s (a b x y : Nat) : a + 256 * x + (b + 256 * y) = (a + b) + 256 * (x + y) := by omega
theorem zp_x {s3 s4 : Nat} (h : s3 < 2 ^ 62) (h4 : s4 = s3 + s3 / 2 ^ 32) : s4 < 2 ^ 63 := by omega
theorem zp_y {s2 s3 : Nat} (h : s3 < 2 ^ 62) (h4 : s3 = s2 + s2 / 2 ^ 16) : s2 < 2 ^ 63 ∧ s3 < 2 ^ 63 := by omega
theorem z_pop8 {a b c d e f g h : Nat} (ha : a ≤ 8) (hb : b ≤ 8) (hc : c ≤ 8) (hd : d ≤ 8) (he : e ≤ 8) (hf : f ≤ 8) (hg : g ≤ 8) (hh : h ≤ 8) : ∀ s1 s2 s3 s4, s1 = a + 256 * (b + 256 * (c + 256 * (d + 256 * (e + 256 * (f + 256 * (g + 256 * h)))))) → s2 = s1 + s1 / 2 ^ 8 → s3 = s2 + s2 / 2 ^ 16 → s4 = s3 + s3 / 2 ^ 32 → s4 < 2 ^ 63 ∧ s3 < 2 ^ 63 ∧ s2 < 2 ^ 63 ∧ s4 % 128 = a + b + c + d + e + f + g + h := by
  intro s1 s2 s3 s4 h1 h2 h3 h4
  have e1 : s1 / 2 ^ 8 = b + 256 * (c + 256 * (d + 256 * (e + 256 * (f + 256 * (g + 256 * h))))) := by rw [h1]; exact zp_d1 _ _ ha
  have e2 : s2 = (a + b) + 256 * ((b + c) + 256 * ((c + d) + 256 * ((d + e) + 256 * ((e + f) + 256 * ((f + g) + 256 * ((g + h) + 256 * h)))))) := by
    rw [h2, e1, h1, zp_s, zp_s, zp_s, zp_s, zp_s, zp_s, Nat.add_right_comm g (256 * h) h]
  have e3 : s2 / 2 ^ 16 = (c + d) + 256 * ((d + e) + 256 * ((e + f) + 256 * ((f + g) + 256 * ((g + h) + 256 * h)))) := by rw [e2]; exact zp_d2 _ _ _ (by clear h1 h2 h3 h4 e1 e2; omega) (by clear h1 h2 h3 h4 e1 e2; omega)
  have e4 : s3 = (a + b + (c + d)) + 256 * ((b + c + (d + e)) + 256 * ((c + d + (e + f)) + 256 * ((d + e + (f + g)) + 256 * ((e + f + (g + h)) + 256 * ((f + g + h) + 256 * ((g + h) + 256 * h)))))) := by
    rw [h3, e3, e2, zp_s, zp_s, zp_s, zp_s, zp_s, Nat.add_right_comm (f + g) _ h]
  have e5 : s3 / 2 ^ 32 = (e + f + (g + h)) + 256 * ((f + g + h) + 256 * ((g + h) + 256 * h)) := by
    rw [e4]
    exact zp_d4 _ _ _ _ _ (by clear h1 h2 h3 h4 e1 e2 e3 e4; omega) (by clear h1 h2 h3 h4 e1 e2 e3 e4; omega) (by clear h1 h2 h3 h4 e1 e2 e3 e4; omega) (by clear h1 h2 h3 h4 e1 e2 e3 e4; omega)
  have b3 : s3 < 2 ^ 62 := by
    rw [e4]
    clear h1 h2 h3 h4 e1 e2 e3 e4 e5
    exact Nat.lt_of_lt_of_le (zp_bd _ _ _ (by omega) (zp_bd _ _ _ (by omega) (zp_bd _ _ _ (by omega) (zp_bd _ _ _ (by omega) (zp_bd _ _ _ (by omega) (zp_bd _ _ _ (by omega) (zp_bd _ _ _ (by omega) (show h < 9 by omega)))))))) (by decide)
  refine ⟨zp_x b3 h4, (zp_y b3 h3).2, (zp_y b3 h3).1, ?_⟩
  rw [h4, e5, e4, zp_hm _ _ _ _ (by clear h1 h2 h3 h4 e1 e2 e3 e4 e5; omega)]
  clear h1 h2 h3 h4 e1 e2 e3 e4 e5
  omega
theorem zw_mod (n : Nat) : zw (n : Int) % 128 = ((n % 128 : Nat) : Int) := by unfold zw; omega
theorem zcnt_zcn1 (x : Int) : ∀ k : Nat, zcnt (zbt x) k = (zcn1 (zN (Int64.ofInt x)) k : Int) := by
  intro k
  induction k with
  | zero => rfl
  | succ k ih =>
    simp only [zcnt, zcn1]
    rw [ih]
    have : zbt x (k : Int) = (zN (Int64.ofInt x)).testBit k := by
      unfold zbt zN
      rw [Int.toNat_natCast]
      rfl
    rw [this]
    split <;> simp
theorem z_pop (x : Int) : ∀ v1 v2 v3 v4 v5 v6 : Int64, v1 = Int64.ofInt x - (zlu (Int64.ofInt x) 1 &&& Int64.ofInt 6148914691236517205) → v2 = (v1 &&& Int64.ofInt 3689348814741910323) + (zlu v1 2 &&& Int64.ofInt 3689348814741910323) → v3 = (v2 + zlu v2 4) &&& Int64.ofInt 1085102592571150095 → v4 = v3 + zlu v3 8 → v5 = v4 + zlu v4 16 → v6 = v5 + zlu v5 32 → zw v6.toInt % 128 = zcnt (zbt x) 64 := by
  intro v1 v2 v3 v4 v5 v6 h1 h2 h3 h4 h5 h6
  rw [zcnt_zcn1]
  have hn : zN (Int64.ofInt x) < 2 ^ 64 := zN_lt _
  have c1 : zN (Int64.ofInt 6148914691236517205) = zbm 0x55 8 := by decide +kernel
  have c2 : zN (Int64.ofInt 3689348814741910323) = zbm 0x33 8 := by decide +kernel
  have c3 : zN (Int64.ofInt 1085102592571150095) = zbm 0x0f 8 := by decide +kernel
  generalize Int64.ofInt x = v0 at *
  have m55 : zbm 0x33 8 < 2 ^ 62 := by decide
  have l1 : (zN v0 / 2) &&& zbm 0x55 8 ≤ zN v0 / 2 := Nat.and_le_left
  have n1 : zN v1 = zb1 8 (zN v0) := by
    have e : zN (zlu v0 1 &&& Int64.ofInt 6148914691236517205) = (zN v0 / 2) &&& zbm 0x55 8 := by rw [zN_and, c1, zN_lu (j := 1) (by decide)]
    rw [h1, zN_sub (by rw [e]; omega), e]
    rfl
  have n2 : zN v2 = zb2 8 (zN v1) := by
    have e1 : zN (v1 &&& Int64.ofInt 3689348814741910323) = zN v1 &&& zbm 0x33 8 := by rw [zN_and, c2]
    have e2 : zN (zlu v1 2 &&& Int64.ofInt 3689348814741910323) = (zN v1 / 4) &&& zbm 0x33 8 := by rw [zN_and, c2, zN_lu (j := 2) (by decide)]
    have g1 : zN v1 &&& zbm 0x33 8 ≤ zbm 0x33 8 := Nat.and_le_right
    have g2 : (zN v1 / 4) &&& zbm 0x33 8 ≤ zbm 0x33 8 := Nat.and_le_right
    rw [h2, zN_add (by rw [e1, e2]; omega), e1, e2]
    rfl
  have hb2 : zN v2 < 2 ^ 63 := by
    rw [n2]
    clear n1 n2 h1 h2 h3 h4 h5 h6 l1 hn c1 c2 c3
    have g1 : zN v1 &&& zbm 0x33 8 ≤ zbm 0x33 8 := Nat.and_le_right
    have g2 : (zN v1 / 4) &&& zbm 0x33 8 ≤ zbm 0x33 8 := Nat.and_le_right
    unfold zb2
    omega
  have n3 : zN v3 = zb3 8 (zN v2) := by
    have e1 : zN (zlu v2 4) = zN v2 / 16 := by rw [zN_lu (j := 4) (by decide)]
    rw [h3, zN_and, c3, zN_add (by rw [e1]; omega), e1]
    rfl
  have key : ∀ k n, n < 256 ^ k → zb3 k (zb2 k (zb1 k n)) = (if k = 0 then 0 else zcn1 (n % 256) 8 + 256 * zb3 (k - 1) (zb2 (k - 1) (zb1 (k - 1) (n / 256)))) := by
    intro k n hk
    cases k with
    | zero => simp [zb3, zbm]
    | succ k => rw [(zb_main k n).2]; simp
  rw [n2, n1] at n3
  have z0 : ∀ n, zb3 0 n = 0 := by intro n; simp [zb3, zbm]
  rw [(zb_main 7 _).2, (zb_main 6 _).2, (zb_main 5 _).2, (zb_main 4 _).2, (zb_main 3 _).2, (zb_main 2 _).2, (zb_main 1 _).2, (zb_main 0 _).2, z0] at n3
  have hc : zcn1 (zN v0) 64 = zcn1 (zN v0 % 256) 8 + (zcn1 (zN v0 / 256 % 256) 8 + (zcn1 (zN v0 / 256 / 256 % 256) 8 + (zcn1 (zN v0 / 256 / 256 / 256 % 256) 8 + (zcn1 (zN v0 / 256 / 256 / 256 / 256 % 256) 8 + (zcn1 (zN v0 / 256 / 256 / 256 / 256 / 256 % 256) 8 + (zcn1 (zN v0 / 256 / 256 / 256 / 256 / 256 / 256 % 256) 8 + zcn1 (zN v0 / 256 / 256 / 256 / 256 / 256 / 256 / 256 % 256) 8)))))) := by
    rw [show (64 : Nat) = 8 + 56 from rfl, zcn1_8, show (56 : Nat) = 8 + 48 from rfl, zcn1_8, show (48 : Nat) = 8 + 40 from rfl, zcn1_8, show (40 : Nat) = 8 + 32 from rfl, zcn1_8, show (32 : Nat) = 8 + 24 from rfl, zcn1_8, show (24 : Nat) = 8 + 16 from rfl, zcn1_8, show (16 : Nat) = 8 + 8 from rfl, zcn1_8]
    have := zcn1_8 (zN v0 / 256 / 256 / 256 / 256 / 256 / 256 / 256) 0
    simp only [zcn1, Nat.add_zero] at this
    simp only [zcn1]
    omega
  rw [hc]
  have b0 := zcn1_le (zN v0 % 256) 8
  have b1 := zcn1_le (zN v0 / 256 % 256) 8
  have b2 := zcn1_le (zN v0 / 256 / 256 % 256) 8
  have b3 := zcn1_le (zN v0 / 256 / 256 / 256 % 256) 8
  have b4 := zcn1_le (zN v0 / 256 / 256 / 256 / 256 % 256) 8
  have b5 := zcn1_le (zN v0 / 256 / 256 / 256 / 256 / 256 % 256) 8
  have b6 := zcn1_le (zN v0 / 256 / 256 / 256 / 256 / 256 / 256 % 256) 8
  have b7 := zcn1_le (zN v0 / 256 / 256 / 256 / 256 / 256 / 256 / 256 % 256) 8
  generalize zcn1 (zN v0 % 256) 8 = a0 at *
  generalize zcn1 (zN v0 / 256 % 256) 8 = a1 at *
  generalize zcn1 (zN v0 / 256 / 256 % 256) 8 = a2 at *
  generalize zcn1 (zN v0 / 256 / 256 / 256 % 256) 8 = a3 at *
  generalize zcn1 (zN v0 / 256 / 256 / 256 / 256 % 256) 8 = a4 at *
  generalize zcn1 (zN v0 / 256 / 256 / 256 / 256 / 256 % 256) 8 = a5 at *
  generalize zcn1 (zN v0 / 256 / 256 / 256 / 256 / 256 / 256 % 256) 8 = a6 at *
  generalize zcn1 (zN v0 / 256 / 256 / 256 / 256 / 256 / 256 / 256 % 256) 8 = a7 at *
  have P := z_pop8 b0 b1 b2 b3 b4 b5 b6 b7 (zN v3) (zN v3 + zN v3 / 2 ^ 8) _ _ (by simp only [Nat.mul_zero, Nat.add_zero] at n3; exact n3) rfl rfl rfl
  clear n3
  have n4 : zN v4 = zN v3 + zN v3 / 2 ^ 8 := by
    have e1 : zN (zlu v3 8) = zN v3 / 2 ^ 8 := zN_lu (j := 8) (by decide)
    rw [h4, zN_add (by rw [e1]; exact Nat.lt_trans P.2.2.1 (by decide)), e1]
  have n5 : zN v5 = zN v4 + zN v4 / 2 ^ 16 := by
    have e1 : zN (zlu v4 16) = zN v4 / 2 ^ 16 := zN_lu (j := 16) (by decide)
    rw [h5, zN_add (by rw [e1, n4]; exact Nat.lt_trans P.2.1 (by decide)), e1]
  have n6 : zN v6 = zN v5 + zN v5 / 2 ^ 32 := by
    have e1 : zN (zlu v5 32) = zN v5 / 2 ^ 32 := zN_lu (j := 32) (by decide)
    rw [h6, zN_add (by rw [e1, n5, n4]; exact Nat.lt_trans P.1 (by decide)), e1]
  rw [← n4, ← n5, ← n6] at P
  clear n4 n5 n6
  have hv : v6.toInt = (zN v6 : Int) := by
    rw [← Int64.toInt_toBitVec, BitVec.toInt_eq_toNat_of_lt (by have := P.1; show 2 * zN v6 < 2 ^ 64; clear P; omega)]
    rfl
  rw [hv]
  have := P.2.2.2
  rw [zw_mod, this]
  simp only [Nat.add_assoc]
theorem tz_bitCount (x : Int) (R m : zM) : ev 321 0 [(1, x), (8, 0)] [] R m = some ((0, zcnt (zbt x) 64), R, m) := by
  simp only [s321_0, s321_1, s321_2, s321_3, s321_4, s321_7, s321_8, s321_9, s321_10, s321_11, s321_14, s321_15, s321_16, s321_17, s321_18, s321_21, s321_22, s321_23, s321_24, s321_25, s321_26, s321_27, s321_28, s321_29, s321_32, s321_33, s321_34, s321_35, s321_36, s321_38, s321_39, s321_40, s321_41, s321_42, s321_43, s321_45, s321_46, s321_47, s321_48, s321_49, s321_50, s321_52, s321_53, s321_54, s321_55, s321_56, s321_57, s321_59, s321_60, zps_0, zps_1, zps_2, zps_3, zps_9, Option.bind_some, Option.bind_none, Int.reduceEq, Int.reduceNe, Int.reduceLT, Int.reduceLE, Int.reduceNeg, Int.reduceAdd, Int.reduceSub, Int.reduceMul, reduceIte, if_true, if_false, true_and, and_true, false_and, and_false, or_true, true_or, or_false, false_or, not_true_eq_false, not_false_eq_true, ite_not, z_b0, z_b1, z_b01, z_and127]
  rw [← z_pop x _ _ _ _ _ _ rfl rfl rfl rfl rfl rfl]
  congr 4
  unfold z64 z6s
  simp only [z_back64]
  rfl
