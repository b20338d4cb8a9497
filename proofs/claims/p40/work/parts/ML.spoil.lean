/-! the spoiled text: the pieces of it -/
def P32 (p : yPc) : Prop := ∃ l, p.1 = l ++ [32]
theorem P32_W (i : Int) : P32 (pW1 i) := ⟨zwd i, rfl⟩
theorem P32_N (v : Int) : P32 (pN1 v) := ⟨nl v, rfl⟩
theorem P32_A {K : Int → Int} : ∀ p ∈ pA K, P32 p := by
  intro p hp
  unfold pA at hp
  split at hp
  · simp only [List.mem_cons, List.not_mem_nil, or_false] at hp
    rcases hp with rfl | rfl | rfl | rfl <;> exact P32_N _
  · split at hp
    · simp only [List.mem_cons, List.not_mem_nil, or_false] at hp
      rcases hp with rfl | rfl | rfl
      · exact P32_W _
      · exact P32_N _
      · exact P32_N _
    · simp only [List.mem_cons, List.not_mem_nil, or_false] at hp
      subst hp
      exact P32_N _
theorem P32_M {K : Int → Int} : ∀ p ∈ pM K, P32 p := by
  intro p hp
  unfold pM at hp
  rcases List.mem_append.mp hp with q | q
  · unfold pB at q
    split at q
    · simp only [List.mem_cons, List.not_mem_nil, or_false] at q
      rcases q with rfl | rfl
      · exact P32_W _
      · exact P32_N _
    · cases q
  · rcases List.mem_cons.mp q with q | q
    · subst q; exact P32_W _
    · rcases List.mem_cons.mp q with q | q
      · subst q; exact P32_W _
      · exact P32_A p ((List.dropLast_sublist _).subset q)
theorem ptx_32 : ∀ ps : List yPc, (∀ p ∈ ps, P32 p) → ps ≠ [] → ∃ l, ptx ps = l ++ [32] := by
  intro ps
  induction ps with
  | nil => intro _ h; exact absurd rfl h
  | cons p qs ih =>
    intro h _
    obtain ⟨l, e⟩ := h p (List.mem_cons_self ..)
    by_cases c : qs = []
    · subst c
      exact ⟨l, by rw [ptx_c, e]; show l ++ [32] ++ [] = _; rw [List.append_nil]⟩
    · obtain ⟨l2, e2⟩ := ih (fun q hq => h q (List.mem_cons_of_mem _ hq)) c
      exact ⟨p.1 ++ l2, by rw [ptx_c, e2, List.append_assoc]⟩
theorem ptx_M32 (K : Int → Int) : ∃ l, ptx (pM K) = l ++ [32] := ptx_32 _ P32_M (by unfold pM; intro h; have := congrArg List.length h; simp only [List.length_append, List.length_cons, List.length_nil] at this; omega)
theorem nl_b {v : Int} (hv : -999 ≤ v ∧ v ≤ 999) : ∀ b ∈ nl v, (48 ≤ b ∧ b ≤ 57) ∨ b = 45 := by
  have hw0 : 0 ≤ zab v ∧ zab v ≤ 999 := by unfold zab; split <;> omega
  intro b hb
  unfold nl at hb
  generalize zab v = w at *
  simp only [List.mem_append] at hb
  rcases hb with q | q | q | q
  · split at q
    · cases q
    · simp only [List.mem_cons, List.not_mem_nil, or_false] at q; omega
  · split at q
    · simp only [List.mem_cons, List.not_mem_nil, or_false] at q; omega
    · cases q
  · split at q
    · simp only [List.mem_cons, List.not_mem_nil, or_false] at q; omega
    · cases q
  · simp only [List.mem_cons, List.not_mem_nil, or_false] at q; omega
theorem cl_mem {l : List Int} {i : Int} (h0 : 0 ≤ i) (h : i < l.length) : cl l i ∈ l := by
  unfold cl
  rw [List.getD_eq_getElem?_getD, List.getElem?_eq_getElem (by omega)]
  exact List.getElem_mem _
/-- where the law's last number stands -/
theorem tx_ends {w h : Int} {K : Int → Int} (hw : w ≤ 4 ∧ h ≤ 4) (hK : LOk w h K) : ∃ P D : Int, ((ptx (pM K)).length : Int) = P ∧ 1 ≤ P ∧ 0 ≤ D ∧ ((tx K).length : Int) = P + D + 2 ∧ cl (tx K) (P - 1) = 32 ∧ (∀ i, P ≤ i → i < P + D → (48 ≤ cl (tx K) i ∧ cl (tx K) i ≤ 57) ∨ cl (tx K) i = 45) ∧ cl (tx K) (P + D) = 32 ∧ ∀ i, 0 ≤ i → i < P → cl (tx K) i = cl (ptx (pM K)) i := by
  obtain ⟨l, e⟩ := ptx_M32 K
  have hv := lastv_ok hw hK
  have el : ((ptx (pM K)).length : Int) = l.length + 1 := by rw [e, List.length_append]; rfl
  have et : tx K = ptx (pM K) ++ (nl (lastv K) ++ [32, 59]) := by
    rw [tx_M]
    unfold pcN
    rw [List.append_assoc]
    rfl
  refine ⟨((ptx (pM K)).length : Int), ((nl (lastv K)).length : Int), rfl, by omega, by omega, ?_, ?_, fun i i0 i1 => ?_, ?_, fun i i0 i1 => ?_⟩
  · rw [et, List.length_append, List.length_append]
    simp only [List.length_cons, List.length_nil]
    omega
  · have this := cl_hi (l := l) (l' := [32]) (i := 0) (Int.le_refl _)
    have e3 : ((ptx (pM K)).length : Int) - 1 = (l.length : Int) + 0 := by omega
    rw [et, cl_lo (by omega) (by omega), e3, e, this]
    rfl
  · obtain ⟨j, hj⟩ : ∃ j, i = ((ptx (pM K)).length : Int) + j := ⟨i - ((ptx (pM K)).length : Int), by omega⟩
    rw [et, hj, cl_hi (by omega), cl_lo (by omega) (by omega)]
    exact nl_b hv _ (cl_mem (by omega) (by omega))
  · rw [et, cl_hi (by omega)]
    have := cl_hi (l := nl (lastv K)) (l' := [32, 59]) (i := 0) (Int.le_refl _)
    rw [Int.add_zero] at this
    rw [this]
    rfl
  · rw [et, cl_lo i0 (by omega)]
section BACK
variable {R m : zM} {x w h N a b d B bs bm bc lt la1 ac T K9 len P D : Int} {n np : Nat} {v15 v16 v17 v18 v19 v20 v21 v22 v23 v24 : zV}
theorem l_back1 (hI : IR R T 64) (hP : 1 ≤ P) (hD : 0 ≤ D) (hl : P + D + 2 ≤ 64) (h32 : m T (P - 1) = 32) (hd : ∀ i, P ≤ i → i < P + D → (48 ≤ m T i ∧ m T i ≤ 57) ∨ m T i = 45) : ∀ j : Nat, (j : Int) ≤ D → ev 0 1263 [(4, x), (2, 1), (2, 100), (0, (n : Int)), (0, N), (0, w), (0, (np : Int)), (2, a), (2, b), (2, d), (0, B), (0, bs), (0, bm), (0, bc), (2, lt), (0, la1), (0, ac), (2, T), (2, K9), (0, P + D + 2), (0, P + j - 1), v21, v22, v23, v24] [] R m = ev 0 1331 [(4, x), (2, 1), (2, 100), (0, (n : Int)), (0, N), (0, w), (0, (np : Int)), (2, a), (2, b), (2, d), (0, B), (0, bs), (0, bm), (0, bc), (2, lt), (0, la1), (0, ac), (2, T), (2, K9), (0, P + D + 2), (0, P - 1), v21, v22, v23, v24] [] R m := by
  intro j
  induction j with
  | zero =>
    intro _
    have e : P + ((0 : Nat) : Int) - 1 = P - 1 := by omega
    rw [e]
    have i1 : 0 ≤ P - 1 ∧ P - 1 < 64 := by omega
    have z1 : zw (P + D + 2 - 2) = P + D := by rw [zw_i (by omega) (by omega)]; omega
    have c1 : ¬ P + D ≤ P - 1 := by omega
    obtain ⟨k1, l1⟩ := hI
    rw [s0_1263]
    simp only [s0_1265, s0_1267, s0_1268, s0_1270, s0_1303, s0_1305, s0_1307, s0_1308, s0_1310, s0_1313, s0_1315, s0_1317, s0_1318, s0_1319, s0_1322, zps_0, zps_1, zps_2, zps_3, zps_9, Option.bind_some, Option.bind_none, Int.reduceEq, Int.reduceNe, Int.reduceLT, Int.reduceLE, Int.reduceNeg, Int.reduceAdd, Int.reduceSub, Int.reduceMul, reduceIte, if_true, if_false, true_and, and_true, false_and, and_false, or_true, true_or, or_false, false_or, not_true_eq_false, not_false_eq_true, ite_not, z_b0, z_b1, z_b01, k1, l1, i1, h32, z1, c1, and_self, if_true, if_false]
  | succ j ih =>
    intro hj
    have I := ih (by omega)
    obtain ⟨q, hq⟩ : ∃ q, P + (j : Int) = q := ⟨_, rfl⟩
    have e : P + ((j + 1 : Nat) : Int) - 1 = q := by omega
    rw [hq] at I
    rw [e, ← I]
    have i1 : 0 ≤ q ∧ q < 64 := by omega
    have zq : zw (q + -1) = q - 1 := zw_i (by omega) (by omega)
    rcases hd q (by omega) (by omega) with c | c
    · have c32 : ¬ m T q = 32 := by omega
      have c48 : ¬ m T q < 48 := by omega
      have c57 : m T q ≤ 57 := by omega
      obtain ⟨k1, l1⟩ := hI
      rw [s0_1263]
      simp only [s0_1265, s0_1267, s0_1268, s0_1270, s0_1273, s0_1275, s0_1277, s0_1278, s0_1280, s0_1283, s0_1285, s0_1287, s0_1288, s0_1290, s0_1303, s0_1305, s0_1307, s0_1308, s0_1310, s0_1325, s0_1328, zps_0, zps_1, zps_2, zps_3, zps_9, Option.bind_some, Option.bind_none, Int.reduceEq, Int.reduceNe, Int.reduceLT, Int.reduceLE, Int.reduceNeg, Int.reduceAdd, Int.reduceSub, Int.reduceMul, reduceIte, if_true, if_false, true_and, and_true, false_and, and_false, or_true, true_or, or_false, false_or, not_true_eq_false, not_false_eq_true, ite_not, z_b0, z_b1, z_b01, k1, l1, i1, c32, c48, c57, zq, and_self, if_true, if_false]
    · obtain ⟨k1, l1⟩ := hI
      rw [s0_1263]
      simp only [s0_1265, s0_1267, s0_1268, s0_1270, s0_1273, s0_1275, s0_1277, s0_1278, s0_1280, s0_1293, s0_1295, s0_1297, s0_1298, s0_1300, s0_1303, s0_1305, s0_1307, s0_1308, s0_1310, s0_1325, s0_1328, zps_0, zps_1, zps_2, zps_3, zps_9, Option.bind_some, Option.bind_none, Int.reduceEq, Int.reduceNe, Int.reduceLT, Int.reduceLE, Int.reduceNeg, Int.reduceAdd, Int.reduceSub, Int.reduceMul, reduceIte, if_true, if_false, true_and, and_true, false_and, and_false, or_true, true_or, or_false, false_or, not_true_eq_false, not_false_eq_true, ite_not, z_b0, z_b1, z_b01, k1, l1, i1, c, zq, and_self, if_true, if_false]
theorem l_back (hI : IR R T 64) (hP : 1 ≤ P) (hD : 0 ≤ D) (hl : P + D + 2 ≤ 64) (h32 : m T (P - 1) = 32) (hd : ∀ i, P ≤ i → i < P + D → (48 ≤ m T i ∧ m T i ≤ 57) ∨ m T i = 45) (he : m T (P + D) = 32) : ev 0 1263 [(4, x), (2, 1), (2, 100), (0, (n : Int)), (0, N), (0, w), (0, (np : Int)), (2, a), (2, b), (2, d), (0, B), (0, bs), (0, bm), (0, bc), (2, lt), (0, la1), (0, ac), (2, T), (2, K9), (0, P + D + 2), (0, P + D), v21, v22, v23, v24] [] R m = ev 0 1331 [(4, x), (2, 1), (2, 100), (0, (n : Int)), (0, N), (0, w), (0, (np : Int)), (2, a), (2, b), (2, d), (0, B), (0, bs), (0, bm), (0, bc), (2, lt), (0, la1), (0, ac), (2, T), (2, K9), (0, P + D + 2), (0, P - 1), v21, v22, v23, v24] [] R m := by
  have I := l_back1 (R := R) (m := m) (x := x) (w := w) (N := N) (a := a) (b := b) (d := d) (B := B) (bs := bs) (bm := bm) (bc := bc) (lt := lt) (la1 := la1) (ac := ac) (T := T) (K9 := K9) (P := P) (D := D) (n := n) (np := np) (v21 := v21) (v22 := v22) (v23 := v23) (v24 := v24) hI hP hD hl h32 hd D.toNat (by omega)
  rw [Int.toNat_of_nonneg hD] at I
  rw [← I]
  have i1 : 0 ≤ P + D ∧ P + D < 64 := by omega
  have z1 : zw (P + D + 2 - 2) = P + D := by rw [zw_i (by omega) (by omega)]; omega
  have zq : zw (P + D + -1) = P + D - 1 := zw_i (by omega) (by omega)
  obtain ⟨k1, l1⟩ := hI
  rw [s0_1263]
  simp only [s0_1265, s0_1267, s0_1268, s0_1270, s0_1303, s0_1305, s0_1307, s0_1308, s0_1310, s0_1313, s0_1315, s0_1317, s0_1318, s0_1319, s0_1325, s0_1328, zps_0, zps_1, zps_2, zps_3, zps_9, Option.bind_some, Option.bind_none, Int.reduceEq, Int.reduceNe, Int.reduceLT, Int.reduceLE, Int.reduceNeg, Int.reduceAdd, Int.reduceSub, Int.reduceMul, reduceIte, if_true, if_false, true_and, and_true, false_and, and_false, or_true, true_or, or_false, false_or, not_true_eq_false, not_false_eq_true, ite_not, z_b0, z_b1, z_b01, k1, l1, i1, he, z1, zq, Int.le_refl, and_self, if_true, if_false]
end BACK
