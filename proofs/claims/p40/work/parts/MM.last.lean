/-! the spoiled text: told three times, to the law's end -/
theorem Asc_ptM {w h : Int} {K : Int → Int} (hw : w ≤ 4 ∧ h ≤ 4) (hK : LOk w h K) : Asc (ptx (pM K)) := fun b hb => Asc_tx hw hK b (by rw [tx_M]; exact List.mem_append.mpr (Or.inl hb))
section LAST
variable {R m : zM} {x w h N a b d B bs bm bc lt la1 ac T K9 len P D lp lw : Int} {n np : Nat} {KK : Nat → Int → Int} {v15 v16 v17 v18 v19 v20 v21 v22 v23 v24 : zV}
theorem l_spoil (hR : RK R) (hL : FL R lp lw) (hI : IR R T 64) (hd : T ≠ lp ∧ T ≠ lw ∧ 99 < T) (z0 : m lp 0 = 0 ∧ m lp 1 = 0 ∧ m lw 0 = 0) (h63 : m 63 0 = 0) (h58 : m 58 0 < 60) {l : List Int} (hl : Asc l) {n : Int} (hn : (l.length : Int) = n) (hn64 : n ≤ 64) (hb : ∀ k, 0 ≤ k → k < n → m T k = cl l k) {e : Int × Int} (hp : ∀ f L : Int → Int, Sp f 0 l → pAll f n 322 0 0 L = .error e) : ∃ m1 m2 : zM, ev 328 0 [(2, 1), (2, T), (0, n), (2, lp), (2, lw), (9, 0)] [] R m = some ((9, 0), R, m1) ∧ ev 329 0 [(2, 1), (2, lp), (2, lw), (9, 0), (9, 0), (9, 0)] [] R m1 = some ((0, zw (-10 - e.2)), R, m2) ∧ m2 63 0 = 0 ∧ m2 63 1 = e.1 ∧ (m2 lp 0 = 0 ∧ m2 lp 1 = 0 ∧ m2 lw 0 = 0) ∧ ∀ b, b ≠ lp → b ≠ lw → (b < 63 ∨ 69 < b) → m2 b = m b := by
  have hlp : 99 < lp := hL.2.2.2.1
  have hlw : 99 < lw := hL.2.2.2.2
  have F0 : FD m lp lw (cl l) 0 := ⟨z0.1, z0.2.1, z0.2.2, h63, fun i i0 i1 => by omega⟩
  obtain ⟨m1, A1, F1, f1⟩ := l_feeds (R := R) (m := m) (lt := T) (lp := lp) (lw := lw) (j := 0) (n := n) (cs := cl l) hR hL hI F0 (Int.le_refl _) ⟨by omega, hn64, by omega⟩ (fun i _ _ => cl_b hl i) (fun k k0 k1 => by rw [Int.zero_add]; exact hb k k0 k1) hd
  rw [Int.zero_add] at F1
  obtain ⟨m2, A2, g63, g64, gz, f2⟩ := l_tells (R := R) (m := m1) (lp := lp) (lw := lw) (j := n) (cs := cl l) hR hL F1 ⟨by omega, by omega⟩ (fun i _ _ => cl_b hl i)
  have S : Sp (m2 64) 0 l := cl_Sp (fun i i0 i1 => g64 i (by omega) (by omega))
  have m58 : m2 58 0 = m 58 0 := by rw [f2 58 (by omega) (by omega) (by decide) (by decide), f1 58 (by omega) (by omega) (by decide) (by decide)]
  obtain ⟨m3, A3, c63, c631, f3⟩ := k_lawsN (R := R) (m := m2) (n := n) hR (by rw [m58]; exact h58) g63 (by omega) (hp (m2 64) (m2 69) S)
  refine ⟨m1, m3, A1, A2 _ _ _ A3, c63, c631, ?_, fun b b1 b2 b3 => by rw [f3 b (by omega), f2 b b1 b2 (by omega) (by omega), f1 b b1 b2 (by omega) (by omega)]⟩
  rw [f3 lp (by omega), f3 lw (by omega)]
  exact gz
end LAST
