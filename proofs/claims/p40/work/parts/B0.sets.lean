/-! sets as ints -/
def ybt (x p : Int) : Bool := (Int32.ofInt x).toBitVec.getLsbD p.toNat
theorem ybt_0 (p : Int) : ybt 0 p = false := by
  unfold ybt
  show (0#32).getLsbD p.toNat = false
  simp
theorem ysh_k : ((List.range 32).all fun p => (Int32.ofInt (p : Int) &&& 31).toBitVec.smod 32 == BitVec.ofNat 32 p) = true := by decide +kernel
theorem y_ask {x p : Int} (hp : 0 ≤ p ∧ p < 32) : z32 (· &&& ·) (z32 (fun x y => x >>> (y &&& 31)) x p) 1 = if ybt x p = true then 1 else 0 := by
  have hk : (Int32.ofInt p &&& 31).toBitVec.smod 32 = BitVec.ofNat 32 p.toNat := by
    have h := List.all_eq_true.mp ysh_k p.toNat (List.mem_range.mpr (by omega))
    rw [Int.toNat_of_nonneg hp.1] at h
    exact eq_of_beq h
  have e : z32 (· &&& ·) (z32 (fun x y => x >>> (y &&& 31)) x p) 1 = ((Int32.ofInt x >>> (Int32.ofInt p &&& 31)) &&& 1).toInt := by
    unfold z32
    rw [z_back]
    rfl
  rw [e, ← Int32.toInt_toBitVec, Int32.toBitVec_and, Int32.toBitVec_shiftRight, hk]
  have e2 : ((Int32.ofInt x).toBitVec.sshiftRight' (BitVec.ofNat 32 p.toNat) &&& (1 : Int32).toBitVec) = if ybt x p = true then 1#32 else 0#32 := by
    apply BitVec.eq_of_getLsbD_eq
    intro i hi
    rw [BitVec.getLsbD_and, show (1 : Int32).toBitVec = 1#32 from rfl, BitVec.getLsbD_one]
    by_cases h0 : i = 0
    · subst h0
      rw [BitVec.sshiftRight', BitVec.toNat_ofNat, Nat.mod_eq_of_lt (by omega), BitVec.getLsbD_sshiftRight]
      simp only [Nat.add_zero]
      rw [if_pos (by omega)]
      unfold ybt
      cases (Int32.ofInt x).toBitVec.getLsbD p.toNat <;> simp
    · simp only [h0, decide_false, Bool.and_false]
      split <;> simp [h0]
  rw [e2]
  split <;> rfl
