/-! sets as ints -/
def ybt (x p : Int) : Bool := (Int32.ofInt x).toBitVec.getLsbD p.toNat
def ybit (p : Int) : Int := z32 (fun x y => x <<< (y &&& 31)) 1 p
theorem z32_i (f : Int32 → Int32 → Int32) (x y : Int) : zi32 (z32 f x y) := by
  unfold z32 zi32
  exact ⟨Int32.le_toInt _, Int32.toInt_lt _⟩
theorem ybt_or (x y p : Int) : ybt (z32 (· ||| ·) x y) p = (ybt x p || ybt y p) := by
  unfold ybt z32
  rw [z_back, Int32.toBitVec_or, BitVec.getLsbD_or]
theorem ybt_0 (p : Int) : ybt 0 p = false := by
  unfold ybt
  show (0#32).getLsbD p.toNat = false
  simp
theorem ybt_k : ((List.range 32).all fun p => (List.range 32).all fun q => ybt (ybit (p : Int)) (q : Int) == decide (q = p)) = true := by decide +kernel
theorem ybt_bit {p q : Int} (hp : 0 ≤ p ∧ p < 32) (hq : 0 ≤ q ∧ q < 32) : ybt (ybit p) q = decide (q = p) := by
  have h := List.all_eq_true.mp ybt_k p.toNat (List.mem_range.mpr (by omega))
  have h := List.all_eq_true.mp h q.toNat (List.mem_range.mpr (by omega))
  rw [Int.toNat_of_nonneg hp.1, Int.toNat_of_nonneg hq.1] at h
  have h := eq_of_beq h
  rw [h]
  have : (q.toNat = p.toNat) ↔ q = p := by omega
  exact decide_eq_decide.mpr this
theorem ybt_set {x p q : Int} (hp : 0 ≤ p ∧ p < 32) (hq : 0 ≤ q ∧ q < 32) : ybt (z32 (· ||| ·) x (z32 (fun x y => x <<< (y &&& 31)) 1 p)) q = (ybt x q || decide (q = p)) := by
  have := ybt_bit hp hq
  unfold ybit at this
  rw [ybt_or, this]
theorem ybt_ext {x y : Int} (hx : zi32 x) (hy : zi32 y) (h : ∀ q : Int, 0 ≤ q → q < 32 → ybt x q = ybt y q) : x = y := by
  have : (Int32.ofInt x).toBitVec = (Int32.ofInt y).toBitVec := by
    apply BitVec.eq_of_getLsbD_eq
    intro i hi
    have := h i (by omega) (by omega)
    unfold ybt at this
    simpa using this
  have : Int32.ofInt x = Int32.ofInt y := Int32.toBitVec_inj.mp this
  have e := congrArg Int32.toInt this
  unfold zi32 at hx hy
  rwa [Int32.toInt_ofInt_of_le (by omega) (by omega), Int32.toInt_ofInt_of_le (by omega) (by omega)] at e
theorem ysh_k : ((List.range 32).all fun p => (Int32.ofInt (p : Int) &&& 31).toBitVec.smod 32 == BitVec.ofNat 32 p) = true := by decide +kernel
/-- a bit asked for by a shift -/
theorem y_ask {x p : Int} (hp : 0 ≤ p ∧ p < 32) : z32 (· &&& ·) (z32 (fun x y => x >>> (y &&& 31)) x p) 1 = if ybt x p = true then 1 else 0 := by
  have hk : (Int32.ofInt p &&& 31).toBitVec.smod 32 = BitVec.ofNat 32 p.toNat := by
    have h := List.all_eq_true.mp ysh_k p.toNat (List.mem_range.mpr (by omega))
    rw [Int.toNat_of_nonneg hp.1] at h
    exact eq_of_beq h
  have e : z32 (· &&& ·) (z32 (fun x y => x >>> (y &&& 31)) x p) 1 = ((Int32.ofInt x >>> (Int32.ofInt p &&& 31)) &&& 1).toInt := by
    unfold z32
    rw [z_back]
    rfl
  rw [e, ← Int32.toInt_toBitVec, Int32.toBitVec_and, Int32.toBitVec_shiftRight, hk]
  have e2 : ((Int32.ofInt x).toBitVec.sshiftRight' (BitVec.ofNat 32 p.toNat) &&& (1 : Int32).toBitVec) = if ybt x p = true then 1#32 else 0#32 := by
    apply BitVec.eq_of_getLsbD_eq
    intro i hi
    rw [BitVec.getLsbD_and, show (1 : Int32).toBitVec = 1#32 from rfl, BitVec.getLsbD_one]
    by_cases h0 : i = 0
    · subst h0
      rw [BitVec.sshiftRight', BitVec.toNat_ofNat, Nat.mod_eq_of_lt (by omega), BitVec.getLsbD_sshiftRight]
      simp only [Nat.add_zero]
      rw [if_pos (by omega)]
      unfold ybt
      cases (Int32.ofInt x).toBitVec.getLsbD p.toNat <;> simp
    · simp only [h0, decide_false, Bool.and_false]
      split <;> simp [h0]
  rw [e2]
  split <;> rfl
theorem ybt_nz {x : Int} (hx : zi32 x) : x ≠ 0 ↔ ∃ q, 0 ≤ q ∧ q < 32 ∧ ybt x q = true := by
  constructor
  · intro h
    by_cases c : ∃ q, 0 ≤ q ∧ q < 32 ∧ ybt x q = true
    · exact c
    · exfalso
      refine h (ybt_ext hx (by unfold zi32; omega) (fun q q0 q1 => ?_))
      rw [ybt_0]
      cases e : ybt x q with
      | false => rfl
      | true => exact absurd ⟨q, q0, q1, e⟩ c
  · rintro ⟨q, q0, q1, e⟩ h
    rw [h, ybt_0] at e
    cases e
