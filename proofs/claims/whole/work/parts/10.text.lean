/-! text constants and the floor of a quotient (their calls) -/
theorem z_LNs : zlt.all (fun x => decide (0 ≤ x) && decide (x < 2147483648)) = true := by decide +kernel
theorem z_LN (a : Int) : 0 ≤ LN a ∧ LN a < 2147483648 := by
  unfold LN
  split
  · have key : ∀ k, 0 ≤ zlt.getD k 0 ∧ zlt.getD k 0 < 2147483648 := by
      intro k
      by_cases h : k < zlt.length
      · have := List.all_eq_true.mp z_LNs _ (List.getElem_mem h)
        rw [List.getD_eq_getElem?_getD, List.getElem?_eq_getElem h]
        simpa using this
      · rw [List.getD_eq_getElem?_getD, List.getElem?_eq_none (by omega)]
        simp
    exact key _
  · omega
section TEXT
variable {X : zX} {y pc : Nat} {ls st : List zV} {R m : zM}
theorem g_slen {n u : Nat} {j : Int} (C : zCx X y) (hd : decode (zmb y) pc = .ok (.invokevirtual n, 3)) (hz : zlink (zoc y) n = some (7, u)) (hq : st.length ≤ 4 ∧ 2 ≤ zmf y ∧ 40 ≤ zmo y) (k : zG X y (pc + 3) ls ((0, ((zstl.getD j.toNat []).length : Int)) :: st) R m) : zG X y pc ls ((3, j) :: st) R m := by
  sorry
theorem g_schr {n u : Nat} {i j : Int} (C : zCx X y) (hd : decode (zmb y) pc = .ok (.invokevirtual n, 3)) (hz : zlink (zoc y) n = some (8, u)) (h0 : 0 ≤ i) (h1 : i < ((zstl.getD j.toNat []).length : Int)) (hq : st.length ≤ 4 ∧ 5 ≤ zmf y ∧ 106 ≤ zmo y) (k : zG X y (pc + 3) ls ((0, (zstl.getD j.toNat []).getD i.toNat 0) :: st) R m) : zG X y pc ls ((0, i) :: (3, j) :: st) R m := by
  sorry
theorem g_fdiv {n u : Nat} {x1 x2 : Int} (C : zCx X y) (hd : decode (zmb y) pc = .ok (.invokestatic n, 3)) (hz : zlink (zoc y) n = some (12, u)) (hlen : st.length ≤ 4) (h0 : 0 < x2) (hroom : 1 ≤ zmf y ∧ 22 ≤ zmo y) (k : zG X y (pc + 3) ls ((0, x1 / x2) :: st) R m) : zG X y pc ls ((0, x2) :: (0, x1) :: st) R m := by
  sorry
end TEXT
