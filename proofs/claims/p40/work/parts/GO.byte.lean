/-! the tape's bytes: both shifts give the same low byte -/
section BYTEX
theorem zsh_u : ((List.range 57).all fun p => ((Int32.ofInt (p : Int)).toInt64.toUInt64 &&& Int64.toUInt64 63).toNat % 64 == p) = true := by decide +kernel
theorem zN_m256 (v : Int64) : v.toInt % 256 = ((zN v % 256 : Nat) : Int) := by
  unfold zN
  rw [← Int64.toInt_toBitVec, BitVec.toInt_eq_toNat_cond]
  split <;> omega
theorem zN_ls (x : Int64) {s : Int} (hs : 0 ≤ s ∧ s ≤ 56) : zN (x >>> ((Int32.ofInt s).toInt64 &&& 63)) % 256 = (zN x / 2 ^ s.toNat) % 256 := by
  have hk : ((Int32.ofInt s).toInt64 &&& 63).toBitVec.smod 64 = BitVec.ofNat 64 s.toNat := by
    have h := List.all_eq_true.mp zsh_k s.toNat (List.mem_range.mpr (by omega))
    rw [Int.toNat_of_nonneg hs.1] at h
    exact eq_of_beq h
  unfold zN
  rw [Int64.toBitVec_shiftRight, hk, BitVec.sshiftRight', BitVec.toNat_ofNat, Nat.mod_eq_of_lt (show s.toNat < 2 ^ 64 by omega)]
  apply Nat.eq_of_testBit_eq
  intro i
  rw [show (256 : Nat) = 2 ^ 8 from rfl, Nat.testBit_mod_two_pow, Nat.testBit_mod_two_pow, ← Nat.shiftRight_eq_div_pow, Nat.testBit_shiftRight]
  by_cases hi : i < 8
  · have g : (BitVec.sshiftRight x.toBitVec s.toNat).getLsbD i = x.toBitVec.getLsbD (s.toNat + i) := by
      rw [BitVec.getLsbD_sshiftRight, if_pos (by omega)]
      have c : ¬ 64 ≤ i := by omega
      simp [c]
    have g2 : (BitVec.sshiftRight x.toBitVec s.toNat).toNat.testBit i = x.toBitVec.toNat.testBit (s.toNat + i) := g
    rw [g2]
  · simp [hi]
theorem z_byte (v : Int) {s : Int} (hs : 0 ≤ s ∧ s ≤ 56) : zw (z6s (fun x y => (x.toUInt64 >>> (y.toInt64.toUInt64 &&& Int64.toUInt64 63)).toInt64) v s) % 256 = zw (z6s (fun x y => x >>> (y.toInt64 &&& 63)) v s) % 256 := by
  have hu : ((Int32.ofInt s).toInt64.toUInt64 &&& Int64.toUInt64 63).toNat % 64 = s.toNat := by
    have h := List.all_eq_true.mp zsh_u s.toNat (List.mem_range.mpr (by omega))
    rw [Int.toNat_of_nonneg hs.1] at h
    exact eq_of_beq h
  have a : z6s (fun x y => (x.toUInt64 >>> (y.toInt64.toUInt64 &&& Int64.toUInt64 63)).toInt64) v s = (zlu (Int64.ofInt v) s).toInt := rfl
  have b : z6s (fun x y => x >>> (y.toInt64 &&& 63)) v s = (Int64.ofInt v >>> ((Int32.ofInt s).toInt64 &&& 63)).toInt := rfl
  have e : (zlu (Int64.ofInt v) s).toInt % 256 = (Int64.ofInt v >>> ((Int32.ofInt s).toInt64 &&& 63)).toInt % 256 := by
    rw [zN_m256, zN_m256, zN_lu hu, zN_ls _ hs]
  rw [a, b]
  unfold zw
  omega
end BYTEX
