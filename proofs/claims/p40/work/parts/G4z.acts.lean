/-! calls that are acts: what is kept of one more -/
section ACTS4
variable {R R' m x : zM} {a k S0 K : Int}
theorem LW_c2 {n : Int} {L L' : Int → Int} (h : ∀ j q, 0 ≤ j → j < n → 0 ≤ q → q < 7 → L' (7 * j + q) = L (7 * j + q)) (hL : LW n L) : LW n L' := by
  have h0 : ∀ j, 0 ≤ j → j < n → L' (7 * j) = L (7 * j) := fun j j0 j1 => by
    have := h j 0 j0 j1 (by omega) (by omega)
    rwa [Int.add_zero] at this
  refine ⟨hL.1, fun k k0 k1 => ?_, fun j k j0 jk k1 => ?_⟩
  · rw [h0 k k0 k1, h k 1 k0 k1 (by omega) (by omega), h k 2 k0 k1 (by omega) (by omega), h k 3 k0 k1 (by omega) (by omega), h k 4 k0 k1 (by omega) (by omega), h k 5 k0 k1 (by omega) (by omega)]
    exact hL.2.1 k k0 k1
  · rw [h0 j j0 (by omega), h0 k (by omega) k1, h j 1 j0 (by omega) (by omega) (by omega), h k 1 (by omega) k1 (by omega) (by omega), h j 2 j0 (by omega) (by omega) (by omega), h k 2 (by omega) k1 (by omega) (by omega)]
    exact hL.2.2 j k j0 jk k1
end ACTS4
