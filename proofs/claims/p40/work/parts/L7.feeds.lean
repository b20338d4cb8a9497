/-! bytes packed into longs, fed, told -/
def vb (cs : Int → Int) (a : Int) : Nat → Int
  | 0 => 0
  | k + 1 => vb cs a k * 256 + cs (a + k)
theorem vb_bd {cs : Int → Int} {a : Int} (k : Nat) (h : ∀ i : Nat, i < k → 0 ≤ cs (a + i) ∧ cs (a + i) ≤ 127) : 0 ≤ vb cs a k ∧ 2 * vb cs a k < ((256 ^ k : Nat) : Int) := by
  induction k with
  | zero =>
    refine ⟨Int.le_refl _, ?_⟩
    show (2 * 0 : Int) < ((1 : Nat) : Int)
    decide
  | succ k ih =>
    have i1 := ih (fun i hi => h i (by omega))
    have i2 := h k (by omega)
    rw [vb, Nat.pow_succ]
    generalize vb cs a k = v at *
    generalize (256 ^ k : Nat) = w at *
    omega
theorem zsh_8 : ((Int32.ofInt 8).toInt64 &&& 63).toBitVec.smod 64 = BitVec.ofNat 64 8 := by decide +kernel
theorem z_ofN {v : Nat} (hv : v < 2 ^ 63) : zN (Int64.ofInt (v : Int)) = v := by
  unfold zN
  rw [Int64.toBitVec_ofInt, BitVec.toNat_ofInt]
  have : ((v : Int) % ((2 ^ 64 : Nat) : Int)) = v := Int.emod_eq_of_lt (by omega) (by omega)
  rw [this]
  exact Int.toNat_natCast v
theorem z_pack {v b : Nat} (hv : v < 2 ^ 55) (hb : b < 256) : z64 (· ||| ·) (z6s (fun x y => x <<< (y.toInt64 &&& 63)) (v : Int) 8) (b : Int) = ((v * 256 + b : Nat) : Int) := by
  have e : z64 (· ||| ·) (z6s (fun x y => x <<< (y.toInt64 &&& 63)) (v : Int) 8) (b : Int) = ((Int64.ofInt (v : Int) <<< ((Int32.ofInt 8).toInt64 &&& 63)) ||| Int64.ofInt (b : Int)).toInt := by
    unfold z64 z6s
    rw [z_back64]
  rw [e, ← Int64.toInt_toBitVec, Int64.toBitVec_or, Int64.toBitVec_shiftLeft, zsh_8]
  have h1 : (Int64.ofInt (v : Int)).toBitVec.toNat = v := z_ofN (by omega)
  have h2 : (Int64.ofInt (b : Int)).toBitVec.toNat = b := z_ofN (by omega)
  have h3 : ((Int64.ofInt (v : Int)).toBitVec <<< BitVec.ofNat 64 8 ||| (Int64.ofInt (b : Int)).toBitVec).toNat = v * 256 + b := by
    rw [BitVec.toNat_or, h2, BitVec.shiftLeft_eq', BitVec.toNat_shiftLeft, h1, BitVec.toNat_ofNat]
    rw [show (8 % 2 ^ 64 : Nat) = 8 from rfl, Nat.shiftLeft_eq, Nat.mod_eq_of_lt (by omega), show v * 2 ^ 8 = v <<< 8 by rw [Nat.shiftLeft_eq], ← Nat.shiftLeft_add_eq_or_of_lt (show b < 2 ^ 8 by omega), Nat.shiftLeft_eq]
  rw [BitVec.toInt_eq_toNat_cond, h3]
  rw [if_pos (by omega)]
theorem vb_pack {cs : Int → Int} {a : Int} {k : Nat} (hk : k ≤ 7) (h : ∀ i : Nat, i ≤ k → 0 ≤ cs (a + i) ∧ cs (a + i) ≤ 127) : z64 (· ||| ·) (z6s (fun x y => x <<< (y.toInt64 &&& 63)) (vb cs a k) 8) (cs (a + k)) = vb cs a (k + 1) := by
  have b1 := vb_bd (cs := cs) (a := a) k (fun i hi => h i (by omega))
  have b2 := h k (Nat.le_refl _)
  have hp : 256 ^ k ≤ 256 ^ 7 := Nat.pow_le_pow_right (by decide) hk
  have p := z_pack (v := (vb cs a k).toNat) (b := (cs (a + k)).toNat) (by
    generalize (256 ^ k : Nat) = w at *
    omega) (by omega)
  rw [Int.toNat_of_nonneg b1.1, Int.toNat_of_nonneg b2.1] at p
  rw [p, vb]
  omega
theorem tByte_v {v : Nat} (hv : v < 2 ^ 63) {s : Int} (hs : 0 ≤ s ∧ s ≤ 56) : tByte (v : Int) s = ((v / 2 ^ s.toNat % 256 : Nat) : Int) := by
  unfold tByte
  have b : z6s (fun x y => x >>> (y.toInt64 &&& 63)) (v : Int) s = (Int64.ofInt (v : Int) >>> ((Int32.ofInt s).toInt64 &&& 63)).toInt := rfl
  have c : (Int64.ofInt (v : Int) >>> ((Int32.ofInt s).toInt64 &&& 63)).toInt % 256 = ((v / 2 ^ s.toNat % 256 : Nat) : Int) := by
    rw [zN_m256, zN_ls _ hs, z_ofN hv]
  rw [b]
  unfold zw
  omega
theorem vb_byte {cs : Int → Int} {a : Int} (h : ∀ i : Nat, i < 8 → 0 ≤ cs (a + i) ∧ cs (a + i) ≤ 127) {i : Int} (i0 : 0 ≤ i) (i1 : i < 8) : tByte (vb cs a 8) (56 - 8 * i) = cs (a + i) := by
  have b := vb_bd (cs := cs) (a := a) 8 h
  have hv : (vb cs a 8).toNat < 2 ^ 63 := by
    have e : ((256 ^ 8 : Nat) : Int) = 18446744073709551616 := by decide
    rw [e] at b
    omega
  have t := tByte_v hv (s := 56 - 8 * i) (by omega)
  rw [Int.toNat_of_nonneg b.1] at t
  rw [t]
  have h0 := h 0 (by decide)
  have h1 := h 1 (by decide)
  have h2 := h 2 (by decide)
  have h3 := h 3 (by decide)
  have h4 := h 4 (by decide)
  have h5 := h 5 (by decide)
  have h6 := h 6 (by decide)
  have h7 := h 7 (by decide)
  have e : vb cs a 8 = (((((((0 * 256 + cs (a + (0 : Nat))) * 256 + cs (a + (1 : Nat))) * 256 + cs (a + (2 : Nat))) * 256 + cs (a + (3 : Nat))) * 256 + cs (a + (4 : Nat))) * 256 + cs (a + (5 : Nat))) * 256 + cs (a + (6 : Nat))) * 256 + cs (a + (7 : Nat)) := rfl
  rcases (show i = 0 ∨ i = 1 ∨ i = 2 ∨ i = 3 ∨ i = 4 ∨ i = 5 ∨ i = 6 ∨ i = 7 by omega) with q | q | q | q | q | q | q | q <;> subst q
  · rw [show ((56 : Int) - 8 * 0).toNat = 56 from rfl]
    simp only [Int.natCast_zero] at *
    omega
  · rw [show ((56 : Int) - 8 * 1).toNat = 48 from rfl]
    simp only [Int.natCast_one] at *
    omega
  · rw [show ((56 : Int) - 8 * 2).toNat = 40 from rfl, show (a + 2 : Int) = a + (2 : Nat) from rfl]
    omega
  · rw [show ((56 : Int) - 8 * 3).toNat = 32 from rfl, show (a + 3 : Int) = a + (3 : Nat) from rfl]
    omega
  · rw [show ((56 : Int) - 8 * 4).toNat = 24 from rfl, show (a + 4 : Int) = a + (4 : Nat) from rfl]
    omega
  · rw [show ((56 : Int) - 8 * 5).toNat = 16 from rfl, show (a + 5 : Int) = a + (5 : Nat) from rfl]
    omega
  · rw [show ((56 : Int) - 8 * 6).toNat = 8 from rfl, show (a + 6 : Int) = a + (6 : Nat) from rfl]
    omega
  · rw [show ((56 : Int) - 8 * 7).toNat = 0 from rfl, show (a + 7 : Int) = a + (7 : Nat) from rfl]
    omega
/-- the labels of the pending bytes -/
def FL (R : zM) (lp lw : Int) : Prop := (KX R lp = 20 ∧ LX R lp = 2) ∧ (KX R lw = 21 ∧ LX R lw = 1) ∧ lp ≠ lw ∧ 99 < lp ∧ 99 < lw
/-- j bytes were fed since the last were told -/
def FD (m : zM) (lp lw : Int) (cs : Int → Int) (j : Int) : Prop := m lp 0 = j % 8 ∧ m lp 1 = j ∧ m lw 0 = vb cs (8 * (j / 8)) (j % 8).toNat ∧ m 63 0 = 8 * (j / 8) ∧ ∀ i, 0 ≤ i → i < 8 * (j / 8) → m 64 i = cs i
section FEEDS
variable {R m : zM} {lt lp lw j n : Int} {cs : Int → Int}
theorem FD_c {m' : zM} (h1 : m' lp = m lp) (h2 : m' lw = m lw) (h3 : m' 63 = m 63) (h4 : m' 64 = m 64) (h : FD m lp lw cs j) : FD m' lp lw cs j := by
  unfold FD at *
  rw [h1, h2, h3, h4]
  exact h
end FEEDS
