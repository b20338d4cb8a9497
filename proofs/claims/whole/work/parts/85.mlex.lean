/-! the model's lexer -/
def zends : List Int := [0, 4, 8, 12, 15, 18, 23, 27, 31, 35, 40, 44]
def zlets : List Int := [102, 114, 111, 109, 122, 111, 110, 101, 119, 105, 115, 104, 116, 97, 120, 99, 97, 112, 108, 101, 97, 118, 101, 104, 111, 109, 101, 119, 111, 114, 107, 115, 104, 111, 112, 119, 97, 116, 101, 114, 114, 111, 97, 100]
def ZC (w : zM) : Prop := (∀ i, 0 ≤ i → i < 12 → w 122 i = zends.getD i.toNat 0) ∧ ∀ i, 0 ≤ i → i < 44 → w 123 i = zlets.getD i.toNat 0
/-- the class's number of a name of the model; and back -/
def zta (j : Int) : Int := if j = 0 then 5 else if j ≤ 5 then j - 1 else j
def zat (v : Int) : Int := if v = 5 then 0 else if v < 5 then v + 1 else v
theorem zwd_m : ((List.range 11).all fun j => decide (zends.getD (j + 1) 0 - zends.getD j 0 = ((zwd (zta j)).length : Int)) && ((List.range (zwd (zta j)).length).all fun k => decide (zlets.getD ((zends.getD j 0).toNat + k) 0 = (zwd (zta j)).getD k 0)) && decide (0 ≤ zends.getD j 0 ∧ zends.getD j 0 + ((zwd (zta j)).length : Int) ≤ 44)) = true := by decide +kernel
theorem zwd_d : ((List.range 11).all fun (i : Nat) => (List.range 11).all fun (j : Nat) => decide (i = j) || decide ((zwd i).length ≠ (zwd j).length) || ((List.range (zwd i).length).any fun k => decide ((zwd i).getD k 0 ≠ (zwd j).getD k 0))) = true := by decide +kernel
theorem zwd_m' {j : Int} (h : 0 ≤ j ∧ j ≤ 10) : zends.getD (j + 1).toNat 0 - zends.getD j.toNat 0 = ((zwd (zta j)).length : Int) ∧ (∀ k : Int, 0 ≤ k → k < (zwd (zta j)).length → zlets.getD (zends.getD j.toNat 0 + k).toNat 0 = (zwd (zta j)).getD k.toNat 0) ∧ 0 ≤ zends.getD j.toNat 0 ∧ zends.getD j.toNat 0 + ((zwd (zta j)).length : Int) ≤ 44 := by
  obtain ⟨i, rfl⟩ := Int.eq_ofNat_of_zero_le h.1
  have := zwd_m
  rw [List.all_eq_true] at this
  have := this i (List.mem_range.2 (by omega))
  simp only [Bool.and_eq_true, decide_eq_true_eq, List.all_eq_true, List.mem_range] at this
  obtain ⟨⟨a, b⟩, c⟩ := this
  refine ⟨a, fun k k0 k1 => ?_, c⟩
  have := b k.toNat (by omega)
  rw [← this]
  congr 1
  have := c.1
  change ((zends.getD i 0) + k).toNat = (zends.getD i 0).toNat + k.toNat
  omega
theorem zsp_uniq {f : Int → Int} {n s e i j : Int} (hi : 0 ≤ i ∧ i ≤ 10) (hj : 0 ≤ j ∧ j ≤ 10) (h1 : zsp f n i s e = true) (h2 : zsp f n j s e = true) : i = j := by
  obtain ⟨a, rfl⟩ := Int.eq_ofNat_of_zero_le hi.1
  obtain ⟨b, rfl⟩ := Int.eq_ofNat_of_zero_le hj.1
  have := zwd_d
  rw [List.all_eq_true] at this
  have := this a (List.mem_range.2 (by omega))
  rw [List.all_eq_true] at this
  have := this b (List.mem_range.2 (by omega))
  simp only [Bool.or_eq_true, decide_eq_true_eq, List.any_eq_true, List.mem_range] at this
  unfold zsp at h1 h2
  simp only [Bool.and_eq_true, decide_eq_true_eq, Bool.not_eq_true'] at h1 h2
  rcases this with (q | q) | ⟨k, k0, k1⟩
  · rw [q]
  · exfalso; apply q; omega
  · exfalso
    apply k1
    have p1 : ¬ (zwd (a : Int)).getD k 0 ≠ zb f n (s + k) := by
      intro z
      have : zany (fun k => decide ((zwd (a : Int)).getD k.toNat 0 ≠ zb f n (s + k))) (zwd (a : Int)).length = true := (zany_iff _ _).2 ⟨k, by omega, by omega, decide_eq_true z⟩
      rw [h1.2] at this; cases this
    have p2 : ¬ (zwd (b : Int)).getD k 0 ≠ zb f n (s + k) := by
      intro z
      have : zany (fun k => decide ((zwd (b : Int)).getD k.toNat 0 ≠ zb f n (s + k))) (zwd (b : Int)).length = true := (zany_iff _ _).2 ⟨k, by omega, by omega, decide_eq_true z⟩
      rw [h2.2] at this; cases this
    have p1 := Classical.not_not.1 p1
    have p2 := Classical.not_not.1 p2
    rw [p1, p2]
theorem znm_of {f : Int → Int} {n s e i : Int} (hi : 0 ≤ i ∧ i ≤ 10) (h : zsp f n i s e = true) : znm f n s e = i := by
  have h2 := zfst_ok (fun i => zsp f n i s e) 11
  unfold znm
  rcases h2 with ⟨-, b⟩ | ⟨a, b, c⟩
  · have := b i hi.1 (by omega)
    rw [h] at this; cases this
  · exact zsp_uniq ⟨a, by omega⟩ hi c h
theorem znm_no {f : Int → Int} {n s e : Int} (h : ∀ i, 0 ≤ i → i ≤ 10 → zsp f n (zta i) s e = false) : znm f n s e = -1 := by
  refine zfst_no fun j j0 j1 => ?_
  have := h (zat j) (by unfold zat; (repeat' split) <;> omega) (by unfold zat; (repeat' split) <;> omega)
  rw [show zta (zat j) = j by unfold zta zat; (repeat' split) <;> omega] at this
  exact this
section MLEX
variable {R w : zM} {f : Int → Int} {n : Int}
theorem tz_mbyte (hM : MK R) (hf : w 120 = f) (hn : w 100 27 = n) (h320 : 0 ≤ n ∧ n ≤ 320) {k : Int} (hk : 0 ≤ k) : ev 243 0 [(2, 100), (0, k)] [] R w = some ((0, if k < n then f k else -4), R, w) := by
  simp only [s243_0, s243_1, s243_2, s243_5, s243_8, s243_9, s243_12, s243_13, s243_14, s243_17, s243_19, zps_0, zps_1, zps_2, zps_3, zps_9, Option.bind_some, Option.bind_none, Int.reduceEq, Int.reduceNe, Int.reduceLT, Int.reduceLE, Int.reduceNeg, Int.reduceAdd, Int.reduceSub, Int.reduceMul, reduceIte, if_true, if_false, true_and, and_true, false_and, and_false, or_true, true_or, or_false, false_or, not_true_eq_false, not_false_eq_true, ite_not, z_b0, z_b1, z_b01, rMK0 hM, rMK1 hM, rMK2 hM, rMK3 hM, rMK4 hM, rMK5 hM, rMK6 hM, rMK7 hM, rMK8 hM, rMK9 hM, rMK10 hM, rMK11 hM, rMK12 hM, rMK13 hM, rMK14 hM, rMK15 hM, rMK16 hM, rMK17 hM, rMK18 hM, rMK19 hM, rMK20 hM, rMK21 hM, rMK22 hM, rMK23 hM, rMK24 hM, rMK25 hM, rMK26 hM, rMK27 hM, rMK28 hM, rMK29 hM, rMK30 hM, rMK31 hM, rMK32 hM, rMK33 hM, rMK34 hM, rMK35 hM, rMK36 hM, rMK37 hM, rMK38 hM, rMK39 hM, rMK40 hM, rMK41 hM, rMK42 hM, rMK43 hM, rMK44 hM, rMK45 hM, rMK46 hM, rMK47 hM, rMK48 hM, rMK49 hM, rMK50 hM, rMK51 hM, kMK0, kMK1, kMK2, kMK3, kMK4, kMK5, kMK6, kMK7, kMK8, kMK9, kMK10, kMK11, kMK12, kMK13, kMK14, kMK15, kMK16, kMK17, kMK18, kMK19, kMK20, kMK21, kMK22, kMK23, kMK24, kMK25, kMK26, kMK27, kMK28, kMK29, kMK30, kMK31, kMK32, kMK33, kMK34, kMK35, kMK36, kMK37, kMK38, kMK39, kMK40, kMK41, kMK42, kMK43, kMK44, kMK45, kMK46, kMK47, kMK48, kMK49, kMK50, kMK51, kMK52, kMK53, kMK54, kMK55, kMK56, kMK57, kMK58, kMK59, kMK60, kMK61, kMK62, kMK63, kMK64, kMK65, kMK66, kMK67, kMK68, kMK69, kMK70, kMK71, kMK72, kMK73, kMK74, kMK75, kMK76, kMK77, kMK78, kMK79, kMK80, kMK81, kMK82, kMK83, kMK84, kMK85, kMK86, kMK87, kMK88, kMK89, kMK90, kMK91, kMK92, kMK93, kMK94, kMK95, kMK96, kMK97, kMK98, kMK99, kMK100, kMK101, kMK102, kMK103, kMK104, hf, hn]
  (repeat' split) <;> first | rfl | (exfalso; omega)
theorem tz_fails (hM : MK R) (c : Int) : ev 245 0 [(2, 100), (0, c)] [] R w = some ((9, 0), R, if w 100 29 = 0 then zpr w 100 (zrw (zrw (w 100) 29 c) 30 (w 100 32)) else w) := by
  by_cases h : w 100 29 = 0
  · rw [if_pos h]
    simp only [s245_0, s245_1, s245_4, s245_7, s245_8, s245_9, s245_12, s245_13, s245_14, s245_17, s245_20, zps_0, zps_1, zps_2, zps_3, zps_9, Option.bind_some, Option.bind_none, Int.reduceEq, Int.reduceNe, Int.reduceLT, Int.reduceLE, Int.reduceNeg, Int.reduceAdd, Int.reduceSub, Int.reduceMul, reduceIte, if_true, if_false, true_and, and_true, false_and, and_false, or_true, true_or, or_false, false_or, not_true_eq_false, not_false_eq_true, ite_not, z_b0, z_b1, z_b01, rMK0 hM, rMK1 hM, rMK2 hM, rMK3 hM, rMK4 hM, rMK5 hM, rMK6 hM, rMK7 hM, rMK8 hM, rMK9 hM, rMK10 hM, rMK11 hM, rMK12 hM, rMK13 hM, rMK14 hM, rMK15 hM, rMK16 hM, rMK17 hM, rMK18 hM, rMK19 hM, rMK20 hM, rMK21 hM, rMK22 hM, rMK23 hM, rMK24 hM, rMK25 hM, rMK26 hM, rMK27 hM, rMK28 hM, rMK29 hM, rMK30 hM, rMK31 hM, rMK32 hM, rMK33 hM, rMK34 hM, rMK35 hM, rMK36 hM, rMK37 hM, rMK38 hM, rMK39 hM, rMK40 hM, rMK41 hM, rMK42 hM, rMK43 hM, rMK44 hM, rMK45 hM, rMK46 hM, rMK47 hM, rMK48 hM, rMK49 hM, rMK50 hM, rMK51 hM, kMK0, kMK1, kMK2, kMK3, kMK4, kMK5, kMK6, kMK7, kMK8, kMK9, kMK10, kMK11, kMK12, kMK13, kMK14, kMK15, kMK16, kMK17, kMK18, kMK19, kMK20, kMK21, kMK22, kMK23, kMK24, kMK25, kMK26, kMK27, kMK28, kMK29, kMK30, kMK31, kMK32, kMK33, kMK34, kMK35, kMK36, kMK37, kMK38, kMK39, kMK40, kMK41, kMK42, kMK43, kMK44, kMK45, kMK46, kMK47, kMK48, kMK49, kMK50, kMK51, kMK52, kMK53, kMK54, kMK55, kMK56, kMK57, kMK58, kMK59, kMK60, kMK61, kMK62, kMK63, kMK64, kMK65, kMK66, kMK67, kMK68, kMK69, kMK70, kMK71, kMK72, kMK73, kMK74, kMK75, kMK76, kMK77, kMK78, kMK79, kMK80, kMK81, kMK82, kMK83, kMK84, kMK85, kMK86, kMK87, kMK88, kMK89, kMK90, kMK91, kMK92, kMK93, kMK94, kMK95, kMK96, kMK97, kMK98, kMK99, kMK100, kMK101, kMK102, kMK103, kMK104, h, if_true, zup_zpr, zpr_at, zpr_zpr]
    rfl
  · rw [if_neg h]
    simp only [s245_0, s245_1, s245_4, s245_7, s245_8, s245_9, s245_12, s245_13, s245_14, s245_17, s245_20, zps_0, zps_1, zps_2, zps_3, zps_9, Option.bind_some, Option.bind_none, Int.reduceEq, Int.reduceNe, Int.reduceLT, Int.reduceLE, Int.reduceNeg, Int.reduceAdd, Int.reduceSub, Int.reduceMul, reduceIte, if_true, if_false, true_and, and_true, false_and, and_false, or_true, true_or, or_false, false_or, not_true_eq_false, not_false_eq_true, ite_not, z_b0, z_b1, z_b01, rMK0 hM, rMK1 hM, rMK2 hM, rMK3 hM, rMK4 hM, rMK5 hM, rMK6 hM, rMK7 hM, rMK8 hM, rMK9 hM, rMK10 hM, rMK11 hM, rMK12 hM, rMK13 hM, rMK14 hM, rMK15 hM, rMK16 hM, rMK17 hM, rMK18 hM, rMK19 hM, rMK20 hM, rMK21 hM, rMK22 hM, rMK23 hM, rMK24 hM, rMK25 hM, rMK26 hM, rMK27 hM, rMK28 hM, rMK29 hM, rMK30 hM, rMK31 hM, rMK32 hM, rMK33 hM, rMK34 hM, rMK35 hM, rMK36 hM, rMK37 hM, rMK38 hM, rMK39 hM, rMK40 hM, rMK41 hM, rMK42 hM, rMK43 hM, rMK44 hM, rMK45 hM, rMK46 hM, rMK47 hM, rMK48 hM, rMK49 hM, rMK50 hM, rMK51 hM, kMK0, kMK1, kMK2, kMK3, kMK4, kMK5, kMK6, kMK7, kMK8, kMK9, kMK10, kMK11, kMK12, kMK13, kMK14, kMK15, kMK16, kMK17, kMK18, kMK19, kMK20, kMK21, kMK22, kMK23, kMK24, kMK25, kMK26, kMK27, kMK28, kMK29, kMK30, kMK31, kMK32, kMK33, kMK34, kMK35, kMK36, kMK37, kMK38, kMK39, kMK40, kMK41, kMK42, kMK43, kMK44, kMK45, kMK46, kMK47, kMK48, kMK49, kMK50, kMK51, kMK52, kMK53, kMK54, kMK55, kMK56, kMK57, kMK58, kMK59, kMK60, kMK61, kMK62, kMK63, kMK64, kMK65, kMK66, kMK67, kMK68, kMK69, kMK70, kMK71, kMK72, kMK73, kMK74, kMK75, kMK76, kMK77, kMK78, kMK79, kMK80, kMK81, kMK82, kMK83, kMK84, kMK85, kMK86, kMK87, kMK88, kMK89, kMK90, kMK91, kMK92, kMK93, kMK94, kMK95, kMK96, kMK97, kMK98, kMK99, kMK100, kMK101, kMK102, kMK103, kMK104, h, if_false]
theorem tz_nameAt (hM : MK R) (hZ : ZC w) (hf : w 120 = f) (hn : w 100 27 = n) (h320 : 0 ≤ n ∧ n ≤ 320) {s e : Int} (hs : 0 ≤ s ∧ s ≤ e ∧ e ≤ n) : ev 244 0 [(2, 100), (0, s), (0, e), (9, 0), (9, 0), (9, 0)] [] R w = some ((0, if 0 ≤ znm f n s e then zat (znm f n s e) else -4), R, w) := by
  have z0 : zw (e - s) = e - s := zw_i (by omega) (by omega)
  have inner : ∀ i, 0 ≤ i → i ≤ 10 → ∀ l4 l5 : zV, (zsp f n (zta i) s e = true → ev 244 2 [(2, 100), (0, s), (0, e), (0, i), l4, l5] [] R w = some ((0, i), R, w)) ∧ (zsp f n (zta i) s e = false → ∃ l4' l5' : zV, ev 244 2 [(2, 100), (0, s), (0, e), (0, i), l4, l5] [] R w = ev 244 2 [(2, 100), (0, s), (0, e), (0, i + 1), l4', l5'] [] R w) := by
    intro i i0 i1 l4 l5
    obtain ⟨a1, a2, a3, a4⟩ := zwd_m' ⟨i0, i1⟩
    have e0 := hZ.1 i i0 (by omega)
    have e1 := hZ.1 (i + 1) (by omega) (by omega)
    have zi : zw (i + 1) = i + 1 := zw_i (by omega) (by omega)
    have ci : ¬ 10 < i := by omega
    have ci' : i ≤ 10 := i1
    have ci1 : 0 ≤ i + 1 ∧ i + 1 < 12 := by omega
    have ci2 : 0 ≤ i ∧ i < 12 := by omega
    have zd : zw (w 122 (i + 1) - w 122 i) = ((zwd (zta i)).length : Int) := by rw [e0, e1, a1]; exact zw_i (by omega) (by omega)
    have X0 : ∀ k, ev 244 39 [(2, 100), (0, s), (0, e), (0, i), (0, 0), (0, k)] [] R w = ev 244 2 [(2, 100), (0, s), (0, e), (0, i + 1), (0, 0), (0, k)] [] R w := by
      intro k
      rw [s244_39]
      by_cases q : e - s ≤ k
      · have q' : ¬ k < e - s := by omega
        simp only [s244_0, s244_1, s244_3, s244_5, s244_8, s244_9, s244_10, s244_11, s244_12, s244_15, s244_16, s244_17, s244_18, s244_19, s244_20, s244_23, s244_24, s244_25, s244_26, s244_29, s244_30, s244_33, s244_34, s244_36, s244_37, s244_41, s244_42, s244_43, s244_44, s244_47, s244_49, s244_52, s244_53, s244_54, s244_56, s244_57, s244_60, s244_61, s244_64, s244_65, s244_68, s244_69, s244_70, s244_72, s244_73, s244_74, s244_77, s244_78, s244_81, s244_82, s244_84, s244_87, s244_90, s244_92, s244_95, s244_96, s244_97, s244_100, s244_103, s244_105, zps_0, zps_1, zps_2, zps_3, zps_9, Option.bind_some, Option.bind_none, Int.reduceEq, Int.reduceNe, Int.reduceLT, Int.reduceLE, Int.reduceNeg, Int.reduceAdd, Int.reduceSub, Int.reduceMul, reduceIte, if_true, if_false, true_and, and_true, false_and, and_false, or_true, true_or, or_false, false_or, not_true_eq_false, not_false_eq_true, ite_not, z_b0, z_b1, z_b01, rMK0 hM, rMK1 hM, rMK2 hM, rMK3 hM, rMK4 hM, rMK5 hM, rMK6 hM, rMK7 hM, rMK8 hM, rMK9 hM, rMK10 hM, rMK11 hM, rMK12 hM, rMK13 hM, rMK14 hM, rMK15 hM, rMK16 hM, rMK17 hM, rMK18 hM, rMK19 hM, rMK20 hM, rMK21 hM, rMK22 hM, rMK23 hM, rMK24 hM, rMK25 hM, rMK26 hM, rMK27 hM, rMK28 hM, rMK29 hM, rMK30 hM, rMK31 hM, rMK32 hM, rMK33 hM, rMK34 hM, rMK35 hM, rMK36 hM, rMK37 hM, rMK38 hM, rMK39 hM, rMK40 hM, rMK41 hM, rMK42 hM, rMK43 hM, rMK44 hM, rMK45 hM, rMK46 hM, rMK47 hM, rMK48 hM, rMK49 hM, rMK50 hM, rMK51 hM, kMK0, kMK1, kMK2, kMK3, kMK4, kMK5, kMK6, kMK7, kMK8, kMK9, kMK10, kMK11, kMK12, kMK13, kMK14, kMK15, kMK16, kMK17, kMK18, kMK19, kMK20, kMK21, kMK22, kMK23, kMK24, kMK25, kMK26, kMK27, kMK28, kMK29, kMK30, kMK31, kMK32, kMK33, kMK34, kMK35, kMK36, kMK37, kMK38, kMK39, kMK40, kMK41, kMK42, kMK43, kMK44, kMK45, kMK46, kMK47, kMK48, kMK49, kMK50, kMK51, kMK52, kMK53, kMK54, kMK55, kMK56, kMK57, kMK58, kMK59, kMK60, kMK61, kMK62, kMK63, kMK64, kMK65, kMK66, kMK67, kMK68, kMK69, kMK70, kMK71, kMK72, kMK73, kMK74, kMK75, kMK76, kMK77, kMK78, kMK79, kMK80, kMK81, kMK82, kMK83, kMK84, kMK85, kMK86, kMK87, kMK88, kMK89, kMK90, kMK91, kMK92, kMK93, kMK94, kMK95, kMK96, kMK97, kMK98, kMK99, kMK100, kMK101, kMK102, kMK103, kMK104, z0, zi, q, q', if_true, if_false]
      · have q' : k < e - s := by omega
        simp only [s244_0, s244_1, s244_3, s244_5, s244_8, s244_9, s244_10, s244_11, s244_12, s244_15, s244_16, s244_17, s244_18, s244_19, s244_20, s244_23, s244_24, s244_25, s244_26, s244_29, s244_30, s244_33, s244_34, s244_36, s244_37, s244_41, s244_42, s244_43, s244_44, s244_47, s244_49, s244_52, s244_53, s244_54, s244_56, s244_57, s244_60, s244_61, s244_64, s244_65, s244_68, s244_69, s244_70, s244_72, s244_73, s244_74, s244_77, s244_78, s244_81, s244_82, s244_84, s244_87, s244_90, s244_92, s244_95, s244_96, s244_97, s244_100, s244_103, s244_105, zps_0, zps_1, zps_2, zps_3, zps_9, Option.bind_some, Option.bind_none, Int.reduceEq, Int.reduceNe, Int.reduceLT, Int.reduceLE, Int.reduceNeg, Int.reduceAdd, Int.reduceSub, Int.reduceMul, reduceIte, if_true, if_false, true_and, and_true, false_and, and_false, or_true, true_or, or_false, false_or, not_true_eq_false, not_false_eq_true, ite_not, z_b0, z_b1, z_b01, rMK0 hM, rMK1 hM, rMK2 hM, rMK3 hM, rMK4 hM, rMK5 hM, rMK6 hM, rMK7 hM, rMK8 hM, rMK9 hM, rMK10 hM, rMK11 hM, rMK12 hM, rMK13 hM, rMK14 hM, rMK15 hM, rMK16 hM, rMK17 hM, rMK18 hM, rMK19 hM, rMK20 hM, rMK21 hM, rMK22 hM, rMK23 hM, rMK24 hM, rMK25 hM, rMK26 hM, rMK27 hM, rMK28 hM, rMK29 hM, rMK30 hM, rMK31 hM, rMK32 hM, rMK33 hM, rMK34 hM, rMK35 hM, rMK36 hM, rMK37 hM, rMK38 hM, rMK39 hM, rMK40 hM, rMK41 hM, rMK42 hM, rMK43 hM, rMK44 hM, rMK45 hM, rMK46 hM, rMK47 hM, rMK48 hM, rMK49 hM, rMK50 hM, rMK51 hM, kMK0, kMK1, kMK2, kMK3, kMK4, kMK5, kMK6, kMK7, kMK8, kMK9, kMK10, kMK11, kMK12, kMK13, kMK14, kMK15, kMK16, kMK17, kMK18, kMK19, kMK20, kMK21, kMK22, kMK23, kMK24, kMK25, kMK26, kMK27, kMK28, kMK29, kMK30, kMK31, kMK32, kMK33, kMK34, kMK35, kMK36, kMK37, kMK38, kMK39, kMK40, kMK41, kMK42, kMK43, kMK44, kMK45, kMK46, kMK47, kMK48, kMK49, kMK50, kMK51, kMK52, kMK53, kMK54, kMK55, kMK56, kMK57, kMK58, kMK59, kMK60, kMK61, kMK62, kMK63, kMK64, kMK65, kMK66, kMK67, kMK68, kMK69, kMK70, kMK71, kMK72, kMK73, kMK74, kMK75, kMK76, kMK77, kMK78, kMK79, kMK80, kMK81, kMK82, kMK83, kMK84, kMK85, kMK86, kMK87, kMK88, kMK89, kMK90, kMK91, kMK92, kMK93, kMK94, kMK95, kMK96, kMK97, kMK98, kMK99, kMK100, kMK101, kMK102, kMK103, kMK104, z0, zi, q, q', if_true, if_false]
    unfold zsp
    by_cases hl : ((zwd (zta i)).length : Int) = e - s
    · have hd : e - s = ((zwd (zta i)).length : Int) := hl.symm
      have L0 : ev 244 2 [(2, 100), (0, s), (0, e), (0, i), l4, l5] [] R w = ev 244 39 [(2, 100), (0, s), (0, e), (0, i), (0, 1), (0, 0)] [] R w := by
        have z0' : zw (e - s) = ((zwd (zta i)).length : Int) := by rw [z0, hd]
        rw [s244_2]
        simp only [s244_0, s244_1, s244_3, s244_5, s244_8, s244_9, s244_10, s244_11, s244_12, s244_15, s244_16, s244_17, s244_18, s244_19, s244_20, s244_23, s244_24, s244_25, s244_26, s244_29, s244_30, s244_33, s244_34, s244_36, s244_37, s244_41, s244_42, s244_43, s244_44, s244_47, s244_49, s244_52, s244_53, s244_54, s244_56, s244_57, s244_60, s244_61, s244_64, s244_65, s244_68, s244_69, s244_70, s244_72, s244_73, s244_74, s244_77, s244_78, s244_81, s244_82, s244_84, s244_87, s244_90, s244_92, s244_95, s244_96, s244_97, s244_100, s244_103, s244_105, zps_0, zps_1, zps_2, zps_3, zps_9, Option.bind_some, Option.bind_none, Int.reduceEq, Int.reduceNe, Int.reduceLT, Int.reduceLE, Int.reduceNeg, Int.reduceAdd, Int.reduceSub, Int.reduceMul, reduceIte, if_true, if_false, true_and, and_true, false_and, and_false, or_true, true_or, or_false, false_or, not_true_eq_false, not_false_eq_true, ite_not, z_b0, z_b1, z_b01, rMK0 hM, rMK1 hM, rMK2 hM, rMK3 hM, rMK4 hM, rMK5 hM, rMK6 hM, rMK7 hM, rMK8 hM, rMK9 hM, rMK10 hM, rMK11 hM, rMK12 hM, rMK13 hM, rMK14 hM, rMK15 hM, rMK16 hM, rMK17 hM, rMK18 hM, rMK19 hM, rMK20 hM, rMK21 hM, rMK22 hM, rMK23 hM, rMK24 hM, rMK25 hM, rMK26 hM, rMK27 hM, rMK28 hM, rMK29 hM, rMK30 hM, rMK31 hM, rMK32 hM, rMK33 hM, rMK34 hM, rMK35 hM, rMK36 hM, rMK37 hM, rMK38 hM, rMK39 hM, rMK40 hM, rMK41 hM, rMK42 hM, rMK43 hM, rMK44 hM, rMK45 hM, rMK46 hM, rMK47 hM, rMK48 hM, rMK49 hM, rMK50 hM, rMK51 hM, kMK0, kMK1, kMK2, kMK3, kMK4, kMK5, kMK6, kMK7, kMK8, kMK9, kMK10, kMK11, kMK12, kMK13, kMK14, kMK15, kMK16, kMK17, kMK18, kMK19, kMK20, kMK21, kMK22, kMK23, kMK24, kMK25, kMK26, kMK27, kMK28, kMK29, kMK30, kMK31, kMK32, kMK33, kMK34, kMK35, kMK36, kMK37, kMK38, kMK39, kMK40, kMK41, kMK42, kMK43, kMK44, kMK45, kMK46, kMK47, kMK48, kMK49, kMK50, kMK51, kMK52, kMK53, kMK54, kMK55, kMK56, kMK57, kMK58, kMK59, kMK60, kMK61, kMK62, kMK63, kMK64, kMK65, kMK66, kMK67, kMK68, kMK69, kMK70, kMK71, kMK72, kMK73, kMK74, kMK75, kMK76, kMK77, kMK78, kMK79, kMK80, kMK81, kMK82, kMK83, kMK84, kMK85, kMK86, kMK87, kMK88, kMK89, kMK90, kMK91, kMK92, kMK93, kMK94, kMK95, kMK96, kMK97, kMK98, kMK99, kMK100, kMK101, kMK102, kMK103, kMK104, z0', zi, ci, ci', ci1, ci2, zd, and_self, if_true, if_false]
      rw [decide_eq_true hl, Bool.true_and, L0]
      have key := zloop (fun r => ((!zany (fun k => decide ((zwd (zta i)).getD k.toNat 0 ≠ zb f n (s + k))) (zwd (zta i)).length) = true → r = some ((0, i), R, w)) ∧ ((!zany (fun k => decide ((zwd (zta i)).getD k.toNat 0 ≠ zb f n (s + k))) (zwd (zta i)).length) = false → ∃ l4' l5' : zV, r = ev 244 2 [(2, 100), (0, s), (0, e), (0, i + 1), l4', l5'] [] R w)) (fun k (_ : Unit) => ev 244 39 [(2, 100), (0, s), (0, e), (0, i), (0, 1), (0, k)] [] R w) ((zwd (zta i)).length : Int) (fun k _ => 0 ≤ k ∧ zany (fun k => decide ((zwd (zta i)).getD k.toNat 0 ≠ zb f n (s + k))) k.toNat = false) (fun k _ hk hI ih => by
        obtain ⟨k0, hI⟩ := hI
        have z1 : zw (s + k) = s + k := zw_i (by omega) (by omega)
        have z2 : zw (k + 1) = k + 1 := zw_i (by omega) (by omega)
        have B := tz_mbyte (R := R) hM hf hn h320 (k := s + k) (by omega)
        have bs : zb f n (s + k) = f (s + k) := by unfold zb; rw [if_pos (by omega)]
        have q1 : s + k < n := by omega
        rw [if_pos q1] at B
        have q : ¬ e - s ≤ k := by omega
        have q' : k < e - s := by omega
        have z3 : zw (w 122 i + k) = w 122 i + k := zw_i (by omega) (by omega)
        have e3 := hZ.2 (w 122 i + k) (by omega) (by omega)
        rw [e0, a2 k k0 hk] at e3
        have c3 : 0 ≤ w 122 i + k ∧ w 122 i + k < 44 := by omega
        rw [s244_39]
        by_cases d : (zwd (zta i)).getD k.toNat 0 = zb f n (s + k)
        · have d2 : f (s + k) = w 123 (w 122 i + k) := by rw [e0, e3, d, bs]
          simp only [s244_0, s244_1, s244_3, s244_5, s244_8, s244_9, s244_10, s244_11, s244_12, s244_15, s244_16, s244_17, s244_18, s244_19, s244_20, s244_23, s244_24, s244_25, s244_26, s244_29, s244_30, s244_33, s244_34, s244_36, s244_37, s244_41, s244_42, s244_43, s244_44, s244_47, s244_49, s244_52, s244_53, s244_54, s244_56, s244_57, s244_60, s244_61, s244_64, s244_65, s244_68, s244_69, s244_70, s244_72, s244_73, s244_74, s244_77, s244_78, s244_81, s244_82, s244_84, s244_87, s244_90, s244_92, s244_95, s244_96, s244_97, s244_100, s244_103, s244_105, zps_0, zps_1, zps_2, zps_3, zps_9, Option.bind_some, Option.bind_none, Int.reduceEq, Int.reduceNe, Int.reduceLT, Int.reduceLE, Int.reduceNeg, Int.reduceAdd, Int.reduceSub, Int.reduceMul, reduceIte, if_true, if_false, true_and, and_true, false_and, and_false, or_true, true_or, or_false, false_or, not_true_eq_false, not_false_eq_true, ite_not, z_b0, z_b1, z_b01, rMK0 hM, rMK1 hM, rMK2 hM, rMK3 hM, rMK4 hM, rMK5 hM, rMK6 hM, rMK7 hM, rMK8 hM, rMK9 hM, rMK10 hM, rMK11 hM, rMK12 hM, rMK13 hM, rMK14 hM, rMK15 hM, rMK16 hM, rMK17 hM, rMK18 hM, rMK19 hM, rMK20 hM, rMK21 hM, rMK22 hM, rMK23 hM, rMK24 hM, rMK25 hM, rMK26 hM, rMK27 hM, rMK28 hM, rMK29 hM, rMK30 hM, rMK31 hM, rMK32 hM, rMK33 hM, rMK34 hM, rMK35 hM, rMK36 hM, rMK37 hM, rMK38 hM, rMK39 hM, rMK40 hM, rMK41 hM, rMK42 hM, rMK43 hM, rMK44 hM, rMK45 hM, rMK46 hM, rMK47 hM, rMK48 hM, rMK49 hM, rMK50 hM, rMK51 hM, kMK0, kMK1, kMK2, kMK3, kMK4, kMK5, kMK6, kMK7, kMK8, kMK9, kMK10, kMK11, kMK12, kMK13, kMK14, kMK15, kMK16, kMK17, kMK18, kMK19, kMK20, kMK21, kMK22, kMK23, kMK24, kMK25, kMK26, kMK27, kMK28, kMK29, kMK30, kMK31, kMK32, kMK33, kMK34, kMK35, kMK36, kMK37, kMK38, kMK39, kMK40, kMK41, kMK42, kMK43, kMK44, kMK45, kMK46, kMK47, kMK48, kMK49, kMK50, kMK51, kMK52, kMK53, kMK54, kMK55, kMK56, kMK57, kMK58, kMK59, kMK60, kMK61, kMK62, kMK63, kMK64, kMK65, kMK66, kMK67, kMK68, kMK69, kMK70, kMK71, kMK72, kMK73, kMK74, kMK75, kMK76, kMK77, kMK78, kMK79, kMK80, kMK81, kMK82, kMK83, kMK84, kMK85, kMK86, kMK87, kMK88, kMK89, kMK90, kMK91, kMK92, kMK93, kMK94, kMK95, kMK96, kMK97, kMK98, kMK99, kMK100, kMK101, kMK102, kMK103, kMK104, z0, z1, z2, z3, q, q', B, ci2, c3, d2, and_self, if_true, if_false]
          refine ih () ⟨by omega, ?_⟩
          rw [zany_step _ k0, hI, Bool.false_or]
          exact decide_eq_false (fun z => z d)
        · have d2 : ¬ f (s + k) = w 123 (w 122 i + k) := by rw [e0, e3, ← bs]; exact fun z => d z.symm
          simp only [s244_0, s244_1, s244_3, s244_5, s244_8, s244_9, s244_10, s244_11, s244_12, s244_15, s244_16, s244_17, s244_18, s244_19, s244_20, s244_23, s244_24, s244_25, s244_26, s244_29, s244_30, s244_33, s244_34, s244_36, s244_37, s244_41, s244_42, s244_43, s244_44, s244_47, s244_49, s244_52, s244_53, s244_54, s244_56, s244_57, s244_60, s244_61, s244_64, s244_65, s244_68, s244_69, s244_70, s244_72, s244_73, s244_74, s244_77, s244_78, s244_81, s244_82, s244_84, s244_87, s244_90, s244_92, s244_95, s244_96, s244_97, s244_100, s244_103, s244_105, zps_0, zps_1, zps_2, zps_3, zps_9, Option.bind_some, Option.bind_none, Int.reduceEq, Int.reduceNe, Int.reduceLT, Int.reduceLE, Int.reduceNeg, Int.reduceAdd, Int.reduceSub, Int.reduceMul, reduceIte, if_true, if_false, true_and, and_true, false_and, and_false, or_true, true_or, or_false, false_or, not_true_eq_false, not_false_eq_true, ite_not, z_b0, z_b1, z_b01, rMK0 hM, rMK1 hM, rMK2 hM, rMK3 hM, rMK4 hM, rMK5 hM, rMK6 hM, rMK7 hM, rMK8 hM, rMK9 hM, rMK10 hM, rMK11 hM, rMK12 hM, rMK13 hM, rMK14 hM, rMK15 hM, rMK16 hM, rMK17 hM, rMK18 hM, rMK19 hM, rMK20 hM, rMK21 hM, rMK22 hM, rMK23 hM, rMK24 hM, rMK25 hM, rMK26 hM, rMK27 hM, rMK28 hM, rMK29 hM, rMK30 hM, rMK31 hM, rMK32 hM, rMK33 hM, rMK34 hM, rMK35 hM, rMK36 hM, rMK37 hM, rMK38 hM, rMK39 hM, rMK40 hM, rMK41 hM, rMK42 hM, rMK43 hM, rMK44 hM, rMK45 hM, rMK46 hM, rMK47 hM, rMK48 hM, rMK49 hM, rMK50 hM, rMK51 hM, kMK0, kMK1, kMK2, kMK3, kMK4, kMK5, kMK6, kMK7, kMK8, kMK9, kMK10, kMK11, kMK12, kMK13, kMK14, kMK15, kMK16, kMK17, kMK18, kMK19, kMK20, kMK21, kMK22, kMK23, kMK24, kMK25, kMK26, kMK27, kMK28, kMK29, kMK30, kMK31, kMK32, kMK33, kMK34, kMK35, kMK36, kMK37, kMK38, kMK39, kMK40, kMK41, kMK42, kMK43, kMK44, kMK45, kMK46, kMK47, kMK48, kMK49, kMK50, kMK51, kMK52, kMK53, kMK54, kMK55, kMK56, kMK57, kMK58, kMK59, kMK60, kMK61, kMK62, kMK63, kMK64, kMK65, kMK66, kMK67, kMK68, kMK69, kMK70, kMK71, kMK72, kMK73, kMK74, kMK75, kMK76, kMK77, kMK78, kMK79, kMK80, kMK81, kMK82, kMK83, kMK84, kMK85, kMK86, kMK87, kMK88, kMK89, kMK90, kMK91, kMK92, kMK93, kMK94, kMK95, kMK96, kMK97, kMK98, kMK99, kMK100, kMK101, kMK102, kMK103, kMK104, z0, z1, z2, z3, q, q', B, ci2, c3, d2, and_self, if_true, if_false]
          have an : zany (fun k => decide ((zwd (zta i)).getD k.toNat 0 ≠ zb f n (s + k))) (zwd (zta i)).length = true := (zany_iff _ _).2 ⟨k, k0, hk, decide_eq_true d⟩
          rw [an, X0]
          exact ⟨fun z => (by cases z), fun _ => ⟨_, _, rfl⟩⟩) (fun _ hI => by
        obtain ⟨-, hI⟩ := hI
        rw [show ((zwd (zta i)).length : Int).toNat = (zwd (zta i)).length by omega] at hI
        rw [hI]
        refine ⟨fun _ => ?_, fun z => (by cases z)⟩
        rw [s244_39]
        have q : e - s ≤ ((zwd (zta i)).length : Int) := by omega
        have q' : ¬ ((zwd (zta i)).length : Int) < e - s := by omega
        simp only [s244_0, s244_1, s244_3, s244_5, s244_8, s244_9, s244_10, s244_11, s244_12, s244_15, s244_16, s244_17, s244_18, s244_19, s244_20, s244_23, s244_24, s244_25, s244_26, s244_29, s244_30, s244_33, s244_34, s244_36, s244_37, s244_41, s244_42, s244_43, s244_44, s244_47, s244_49, s244_52, s244_53, s244_54, s244_56, s244_57, s244_60, s244_61, s244_64, s244_65, s244_68, s244_69, s244_70, s244_72, s244_73, s244_74, s244_77, s244_78, s244_81, s244_82, s244_84, s244_87, s244_90, s244_92, s244_95, s244_96, s244_97, s244_100, s244_103, s244_105, zps_0, zps_1, zps_2, zps_3, zps_9, Option.bind_some, Option.bind_none, Int.reduceEq, Int.reduceNe, Int.reduceLT, Int.reduceLE, Int.reduceNeg, Int.reduceAdd, Int.reduceSub, Int.reduceMul, reduceIte, if_true, if_false, true_and, and_true, false_and, and_false, or_true, true_or, or_false, false_or, not_true_eq_false, not_false_eq_true, ite_not, z_b0, z_b1, z_b01, rMK0 hM, rMK1 hM, rMK2 hM, rMK3 hM, rMK4 hM, rMK5 hM, rMK6 hM, rMK7 hM, rMK8 hM, rMK9 hM, rMK10 hM, rMK11 hM, rMK12 hM, rMK13 hM, rMK14 hM, rMK15 hM, rMK16 hM, rMK17 hM, rMK18 hM, rMK19 hM, rMK20 hM, rMK21 hM, rMK22 hM, rMK23 hM, rMK24 hM, rMK25 hM, rMK26 hM, rMK27 hM, rMK28 hM, rMK29 hM, rMK30 hM, rMK31 hM, rMK32 hM, rMK33 hM, rMK34 hM, rMK35 hM, rMK36 hM, rMK37 hM, rMK38 hM, rMK39 hM, rMK40 hM, rMK41 hM, rMK42 hM, rMK43 hM, rMK44 hM, rMK45 hM, rMK46 hM, rMK47 hM, rMK48 hM, rMK49 hM, rMK50 hM, rMK51 hM, kMK0, kMK1, kMK2, kMK3, kMK4, kMK5, kMK6, kMK7, kMK8, kMK9, kMK10, kMK11, kMK12, kMK13, kMK14, kMK15, kMK16, kMK17, kMK18, kMK19, kMK20, kMK21, kMK22, kMK23, kMK24, kMK25, kMK26, kMK27, kMK28, kMK29, kMK30, kMK31, kMK32, kMK33, kMK34, kMK35, kMK36, kMK37, kMK38, kMK39, kMK40, kMK41, kMK42, kMK43, kMK44, kMK45, kMK46, kMK47, kMK48, kMK49, kMK50, kMK51, kMK52, kMK53, kMK54, kMK55, kMK56, kMK57, kMK58, kMK59, kMK60, kMK61, kMK62, kMK63, kMK64, kMK65, kMK66, kMK67, kMK68, kMK69, kMK70, kMK71, kMK72, kMK73, kMK74, kMK75, kMK76, kMK77, kMK78, kMK79, kMK80, kMK81, kMK82, kMK83, kMK84, kMK85, kMK86, kMK87, kMK88, kMK89, kMK90, kMK91, kMK92, kMK93, kMK94, kMK95, kMK96, kMK97, kMK98, kMK99, kMK100, kMK101, kMK102, kMK103, kMK104, z0, q, q', if_true, if_false]) 0 () (by omega) ⟨Int.le_refl _, rfl⟩
      exact key
    · have hd : ¬ e - s = ((zwd (zta i)).length : Int) := fun z => hl z.symm
      rw [decide_eq_false hl, Bool.false_and]
      refine ⟨fun z => (by cases z), fun _ => ⟨(0, 0), (0, 0), ?_⟩⟩
      rw [s244_2]
      simp only [s244_0, s244_1, s244_3, s244_5, s244_8, s244_9, s244_10, s244_11, s244_12, s244_15, s244_16, s244_17, s244_18, s244_19, s244_20, s244_23, s244_24, s244_25, s244_26, s244_29, s244_30, s244_33, s244_34, s244_36, s244_37, s244_41, s244_42, s244_43, s244_44, s244_47, s244_49, s244_52, s244_53, s244_54, s244_56, s244_57, s244_60, s244_61, s244_64, s244_65, s244_68, s244_69, s244_70, s244_72, s244_73, s244_74, s244_77, s244_78, s244_81, s244_82, s244_84, s244_87, s244_90, s244_92, s244_95, s244_96, s244_97, s244_100, s244_103, s244_105, zps_0, zps_1, zps_2, zps_3, zps_9, Option.bind_some, Option.bind_none, Int.reduceEq, Int.reduceNe, Int.reduceLT, Int.reduceLE, Int.reduceNeg, Int.reduceAdd, Int.reduceSub, Int.reduceMul, reduceIte, if_true, if_false, true_and, and_true, false_and, and_false, or_true, true_or, or_false, false_or, not_true_eq_false, not_false_eq_true, ite_not, z_b0, z_b1, z_b01, rMK0 hM, rMK1 hM, rMK2 hM, rMK3 hM, rMK4 hM, rMK5 hM, rMK6 hM, rMK7 hM, rMK8 hM, rMK9 hM, rMK10 hM, rMK11 hM, rMK12 hM, rMK13 hM, rMK14 hM, rMK15 hM, rMK16 hM, rMK17 hM, rMK18 hM, rMK19 hM, rMK20 hM, rMK21 hM, rMK22 hM, rMK23 hM, rMK24 hM, rMK25 hM, rMK26 hM, rMK27 hM, rMK28 hM, rMK29 hM, rMK30 hM, rMK31 hM, rMK32 hM, rMK33 hM, rMK34 hM, rMK35 hM, rMK36 hM, rMK37 hM, rMK38 hM, rMK39 hM, rMK40 hM, rMK41 hM, rMK42 hM, rMK43 hM, rMK44 hM, rMK45 hM, rMK46 hM, rMK47 hM, rMK48 hM, rMK49 hM, rMK50 hM, rMK51 hM, kMK0, kMK1, kMK2, kMK3, kMK4, kMK5, kMK6, kMK7, kMK8, kMK9, kMK10, kMK11, kMK12, kMK13, kMK14, kMK15, kMK16, kMK17, kMK18, kMK19, kMK20, kMK21, kMK22, kMK23, kMK24, kMK25, kMK26, kMK27, kMK28, kMK29, kMK30, kMK31, kMK32, kMK33, kMK34, kMK35, kMK36, kMK37, kMK38, kMK39, kMK40, kMK41, kMK42, kMK43, kMK44, kMK45, kMK46, kMK47, kMK48, kMK49, kMK50, kMK51, kMK52, kMK53, kMK54, kMK55, kMK56, kMK57, kMK58, kMK59, kMK60, kMK61, kMK62, kMK63, kMK64, kMK65, kMK66, kMK67, kMK68, kMK69, kMK70, kMK71, kMK72, kMK73, kMK74, kMK75, kMK76, kMK77, kMK78, kMK79, kMK80, kMK81, kMK82, kMK83, kMK84, kMK85, kMK86, kMK87, kMK88, kMK89, kMK90, kMK91, kMK92, kMK93, kMK94, kMK95, kMK96, kMK97, kMK98, kMK99, kMK100, kMK101, kMK102, kMK103, kMK104, z0, ci, ci', ci1, ci2, zi, zd, hd, and_self, if_true, if_false]
      rw [X0]
  have L0 : ev 244 0 [(2, 100), (0, s), (0, e), (9, 0), (9, 0), (9, 0)] [] R w = ev 244 2 [(2, 100), (0, s), (0, e), (0, 0), (9, 0), (9, 0)] [] R w := by
    simp only [s244_0, s244_1, s244_3, s244_5, s244_8, s244_9, s244_10, s244_11, s244_12, s244_15, s244_16, s244_17, s244_18, s244_19, s244_20, s244_23, s244_24, s244_25, s244_26, s244_29, s244_30, s244_33, s244_34, s244_36, s244_37, s244_41, s244_42, s244_43, s244_44, s244_47, s244_49, s244_52, s244_53, s244_54, s244_56, s244_57, s244_60, s244_61, s244_64, s244_65, s244_68, s244_69, s244_70, s244_72, s244_73, s244_74, s244_77, s244_78, s244_81, s244_82, s244_84, s244_87, s244_90, s244_92, s244_95, s244_96, s244_97, s244_100, s244_103, s244_105, zps_0, zps_1, zps_2, zps_3, zps_9, Option.bind_some, Option.bind_none, Int.reduceEq, Int.reduceNe, Int.reduceLT, Int.reduceLE, Int.reduceNeg, Int.reduceAdd, Int.reduceSub, Int.reduceMul, reduceIte, if_true, if_false, true_and, and_true, false_and, and_false, or_true, true_or, or_false, false_or, not_true_eq_false, not_false_eq_true, ite_not, z_b0, z_b1, z_b01]
  rw [L0]
  refine zloop (fun r => r = some ((0, if 0 ≤ znm f n s e then zat (znm f n s e) else -4), R, w)) (fun i (x : zV × zV) => ev 244 2 [(2, 100), (0, s), (0, e), (0, i), x.1, x.2] [] R w) 11 (fun i _ => 0 ≤ i ∧ ∀ j, 0 ≤ j → j < i → zsp f n (zta j) s e = false) ?_ ?_ 0 ((9, 0), (9, 0)) (by omega) ⟨Int.le_refl _, fun j a b => by omega⟩
  · rintro i ⟨l4, l5⟩ hi ⟨i0, hI⟩ ih
    dsimp only at ih ⊢
    obtain ⟨x1, x2⟩ := inner i i0 (by omega) l4 l5
    by_cases c : zsp f n (zta i) s e = true
    · have ti : 0 ≤ zta i ∧ zta i ≤ 10 := by unfold zta; (repeat' split) <;> omega
      have e1 := znm_of ti c
      have e2 : zat (zta i) = i := by unfold zta zat; (repeat' split) <;> omega
      rw [x1 c, e1, if_pos ti.1, e2]
    · obtain ⟨l4', l5', x3⟩ := x2 (by simpa using c)
      rw [x3]
      refine ih (l4', l5') ⟨by omega, fun j j0 j1 => ?_⟩
      by_cases q : j = i
      · rw [q]; simpa using c
      · exact hI j j0 (by omega)
  · rintro ⟨l4, l5⟩ ⟨-, hI⟩
    dsimp only
    have e1 : znm f n s e = -1 := znm_no (fun j j0 j1 => hI j j0 (by omega))
    rw [e1, s244_2]
    simp only [s244_0, s244_1, s244_3, s244_5, s244_8, s244_9, s244_10, s244_11, s244_12, s244_15, s244_16, s244_17, s244_18, s244_19, s244_20, s244_23, s244_24, s244_25, s244_26, s244_29, s244_30, s244_33, s244_34, s244_36, s244_37, s244_41, s244_42, s244_43, s244_44, s244_47, s244_49, s244_52, s244_53, s244_54, s244_56, s244_57, s244_60, s244_61, s244_64, s244_65, s244_68, s244_69, s244_70, s244_72, s244_73, s244_74, s244_77, s244_78, s244_81, s244_82, s244_84, s244_87, s244_90, s244_92, s244_95, s244_96, s244_97, s244_100, s244_103, s244_105, zps_0, zps_1, zps_2, zps_3, zps_9, Option.bind_some, Option.bind_none, Int.reduceEq, Int.reduceNe, Int.reduceLT, Int.reduceLE, Int.reduceNeg, Int.reduceAdd, Int.reduceSub, Int.reduceMul, reduceIte, if_true, if_false, true_and, and_true, false_and, and_false, or_true, true_or, or_false, false_or, not_true_eq_false, not_false_eq_true, ite_not, z_b0, z_b1, z_b01, if_true, if_false]
end MLEX
