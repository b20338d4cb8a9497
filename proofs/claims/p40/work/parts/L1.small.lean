/-! the law's own small methods: part, cell, far; words and numbers written as text -/
def lP (v n : Int) : Int := v % 2147483648 % n
theorem lP_bd (v : Int) {n : Int} (h : 0 < n) : 0 ≤ lP v n ∧ lP v n < n := ⟨Int.emod_nonneg _ (by omega), Int.emod_lt_of_pos _ h⟩
theorem z_and31 (a : Int) : z32 (· &&& ·) a 2147483647 = a % 2147483648 := z_mask 31 (by decide)
theorem l_part (v : Int) {n : Int} (h0 : 0 < n) (h1 : n < 2147483648) (R m : zM) : ev 322 0 [(0, v), (0, n)] [] R m = some ((0, lP v n), R, m) := by
  have a1 := Int.emod_nonneg v (show (2147483648 : Int) ≠ 0 by decide)
  have a2 := Int.emod_lt_of_pos v (show (0 : Int) < 2147483648 by decide)
  have z := z_rem (a := v % 2147483648) (b := n) a1 a2 h0 h1
  have n0 : ¬ n = 0 := by omega
  simp only [s322_0, s322_1, s322_3, s322_4, s322_5, s322_6, zps_0, zps_1, zps_2, zps_3, zps_9, Option.bind_some, Option.bind_none, Int.reduceEq, Int.reduceNe, Int.reduceLT, Int.reduceLE, Int.reduceNeg, Int.reduceAdd, Int.reduceSub, Int.reduceMul, reduceIte, if_true, if_false, true_and, and_true, false_and, and_false, or_true, true_or, or_false, false_or, not_true_eq_false, not_false_eq_true, ite_not, z_b0, z_b1, z_b01, z_and31, z, n0, if_false]
  rfl
/-- a cell of the script, mixed -/
def lC (R : zM) (k : Int) : Int := if R 0 2 = 0 then zw (zw (7919 * k) + 3) else z32 (· ^^^ ·) (z32 (· ^^^ ·) (z32 (fun x y => x >>> (y &&& 31)) (R 0 (3 + k % R 0 2)) (k % 7)) (zw (k / R 0 2 * 31))) (zw (k * 2654435))
theorem l_cell {R m : zM} {k : Int} (x : Int) (hk : 0 ≤ k ∧ k < 1000) (hL : 0 ≤ R 0 2 ∧ R 0 2 ≤ 260) : ev 323 0 [(4, x), (0, k)] [] R m = some ((0, lC R k), R, m) := by
  unfold lC
  by_cases c : R 0 2 = 0
  · rw [if_pos c]
    simp only [s323_0, s323_1, s323_2, s323_5, s323_8, s323_9, s323_10, s323_11, s323_12, s323_15, s323_16, s323_17, s323_18, s323_19, s323_20, s323_21, s323_22, s323_24, s323_25, s323_26, s323_27, s323_28, s323_29, s323_30, s323_32, s323_33, s323_34, s323_35, s323_37, s323_38, s323_39, zps_0, zps_1, zps_2, zps_3, zps_9, Option.bind_some, Option.bind_none, Int.reduceEq, Int.reduceNe, Int.reduceLT, Int.reduceLE, Int.reduceNeg, Int.reduceAdd, Int.reduceSub, Int.reduceMul, reduceIte, if_true, if_false, true_and, and_true, false_and, and_false, or_true, true_or, or_false, false_or, not_true_eq_false, not_false_eq_true, ite_not, z_b0, z_b1, z_b01, c, if_true, if_false]
  · rw [if_neg c]
    have z1 := z_rem (a := k) (b := R 0 2) hk.1 (by omega) (by omega) (by omega)
    have z2 := z_div (a := k) (b := R 0 2) hk.1 (by omega) (by omega) (by omega)
    have z3 := z_rem (a := k) (b := 7) hk.1 (by omega) (by omega) (by omega)
    have a1 : 0 ≤ k % R 0 2 := Int.emod_nonneg _ c
    have a2 : k % R 0 2 < R 0 2 := Int.emod_lt_of_pos _ (by omega)
    have b7 : ¬ (7 : Int) = 0 := by decide
    simp only [s323_0, s323_1, s323_2, s323_5, s323_8, s323_9, s323_10, s323_11, s323_12, s323_15, s323_16, s323_17, s323_18, s323_19, s323_20, s323_21, s323_22, s323_24, s323_25, s323_26, s323_27, s323_28, s323_29, s323_30, s323_32, s323_33, s323_34, s323_35, s323_37, s323_38, s323_39, zps_0, zps_1, zps_2, zps_3, zps_9, Option.bind_some, Option.bind_none, Int.reduceEq, Int.reduceNe, Int.reduceLT, Int.reduceLE, Int.reduceNeg, Int.reduceAdd, Int.reduceSub, Int.reduceMul, reduceIte, if_true, if_false, true_and, and_true, false_and, and_false, or_true, true_or, or_false, false_or, not_true_eq_false, not_false_eq_true, ite_not, z_b0, z_b1, z_b01, c, z1, z2, z3, a1, a2, b7, and_self, if_true, if_false]
theorem lC_E {R R' : zM} (h : RE R R') (k : Int) : lC R' k = lC R k := by
  unfold lC
  rw [h.2.1 2 (by omega)]
  by_cases c : R 0 2 = 0
  · rw [if_pos c, if_pos c]
  · have a1 : 0 ≤ k % R 0 2 := Int.emod_nonneg _ c
    rw [if_neg c, if_neg c, h.2.1 (3 + k % R 0 2) (by omega)]
theorem l_far {R m : zM} {w p q : Int} (hw : 1 ≤ w ∧ w ≤ 8) (hp : 0 ≤ p ∧ p < 64) (hq : 0 ≤ q ∧ q < 64) : ev 331 0 [(0, w), (0, p), (0, q), (9, 0), (9, 0)] [] R m = some ((0, zfar w p q), R, m) := by
  have z1 := z_rem (a := p) (b := w) hp.1 (by omega) (by omega) (by omega)
  have z2 := z_div (a := p) (b := w) hp.1 (by omega) (by omega) (by omega)
  have z3 := z_rem (a := q) (b := w) hq.1 (by omega) (by omega) (by omega)
  have z4 := z_div (a := q) (b := w) hq.1 (by omega) (by omega) (by omega)
  have w0 : ¬ w = 0 := by omega
  have a1 : 0 ≤ p % w := Int.emod_nonneg _ w0
  have a2 : p % w < w := Int.emod_lt_of_pos _ (by omega)
  have a3 : 0 ≤ q % w := Int.emod_nonneg _ w0
  have a4 : q % w < w := Int.emod_lt_of_pos _ (by omega)
  have b1 : 0 ≤ p / w := Int.ediv_nonneg hp.1 (by omega)
  have b2 : p / w ≤ p := Int.ediv_le_self _ hp.1
  have b3 : 0 ≤ q / w := Int.ediv_nonneg hq.1 (by omega)
  have b4 : q / w ≤ q := Int.ediv_le_self _ hq.1
  unfold zfar zab
  generalize p % w = x1 at *
  generalize q % w = x2 at *
  generalize p / w = y1 at *
  generalize q / w = y2 at *
  have d1 : zw (x1 - x2) = x1 - x2 := zw_i (by omega) (by omega)
  have d2 : zw (y1 - y2) = y1 - y2 := zw_i (by omega) (by omega)
  have e1 : zw (-(x1 - x2)) = -(x1 - x2) := zw_i (by omega) (by omega)
  have e2 : zw (-(y1 - y2)) = -(y1 - y2) := zw_i (by omega) (by omega)
  simp only [s331_0, s331_1, s331_2, s331_3, s331_4, s331_5, s331_6, s331_7, s331_8, s331_9, s331_10, s331_11, s331_12, s331_13, s331_14, s331_15, s331_17, s331_18, s331_21, s331_22, s331_23, s331_26, s331_27, s331_29, s331_32, s331_34, s331_35, s331_38, s331_40, s331_41, zps_0, zps_1, zps_2, zps_3, zps_9, Option.bind_some, Option.bind_none, Int.reduceEq, Int.reduceNe, Int.reduceLT, Int.reduceLE, Int.reduceNeg, Int.reduceAdd, Int.reduceSub, Int.reduceMul, reduceIte, if_true, if_false, true_and, and_true, false_and, and_false, or_true, true_or, or_false, false_or, not_true_eq_false, not_false_eq_true, ite_not, z_b0, z_b1, z_b01, z1, z2, z3, z4, w0, d1, d2, if_false]
  by_cases c1 : 0 ≤ x1 - x2
  · by_cases c2 : 0 ≤ y1 - y2
    · simp only [zps_0, zps_1, zps_2, zps_3, zps_9, Option.bind_some, Option.bind_none, Int.reduceEq, Int.reduceNe, Int.reduceLT, Int.reduceLE, Int.reduceNeg, Int.reduceAdd, Int.reduceSub, Int.reduceMul, reduceIte, if_true, if_false, true_and, and_true, false_and, and_false, or_true, true_or, or_false, false_or, not_true_eq_false, not_false_eq_true, ite_not, z_b0, z_b1, z_b01, c1, c2, if_true]
      rw [zw_i (by omega) (by omega)]
    · simp only [zps_0, zps_1, zps_2, zps_3, zps_9, Option.bind_some, Option.bind_none, Int.reduceEq, Int.reduceNe, Int.reduceLT, Int.reduceLE, Int.reduceNeg, Int.reduceAdd, Int.reduceSub, Int.reduceMul, reduceIte, if_true, if_false, true_and, and_true, false_and, and_false, or_true, true_or, or_false, false_or, not_true_eq_false, not_false_eq_true, ite_not, z_b0, z_b1, z_b01, c1, c2, e2, if_true, if_false]
      rw [zw_i (by omega) (by omega)]
  · by_cases c2 : 0 ≤ y1 - y2
    · simp only [zps_0, zps_1, zps_2, zps_3, zps_9, Option.bind_some, Option.bind_none, Int.reduceEq, Int.reduceNe, Int.reduceLT, Int.reduceLE, Int.reduceNeg, Int.reduceAdd, Int.reduceSub, Int.reduceMul, reduceIte, if_true, if_false, true_and, and_true, false_and, and_false, or_true, true_or, or_false, false_or, not_true_eq_false, not_false_eq_true, ite_not, z_b0, z_b1, z_b01, c1, c2, e1, if_true, if_false]
      rw [zw_i (by omega) (by omega)]
    · simp only [zps_0, zps_1, zps_2, zps_3, zps_9, Option.bind_some, Option.bind_none, Int.reduceEq, Int.reduceNe, Int.reduceLT, Int.reduceLE, Int.reduceNeg, Int.reduceAdd, Int.reduceSub, Int.reduceMul, reduceIte, if_true, if_false, true_and, and_true, false_and, and_false, or_true, true_or, or_false, false_or, not_true_eq_false, not_false_eq_true, ite_not, z_b0, z_b1, z_b01, c1, c2, e1, e2, if_false]
      rw [zw_i (by omega) (by omega)]
/-- a list written into a row from a place on -/
def zap (f : Int → Int) (n : Int) (l : List Int) : Int → Int := fun j => if n ≤ j ∧ j < n + l.length then l.getD (j - n).toNat 0 else f j
theorem zap_0 (f : Int → Int) (n : Int) : zap f n [] = f := by
  funext j
  unfold zap
  rw [if_neg (by simp only [List.length_nil]; omega)]
theorem zap_1 (f : Int → Int) (n x : Int) : zap f n [x] = zrw f n x := by
  funext j
  unfold zap
  rw [zrw_if]
  simp only [List.length_cons, List.length_nil]
  by_cases c : j = n
  · subst c
    rw [if_pos (by omega), if_pos rfl]
    simp
  · rw [if_neg (by omega), if_neg c]
theorem zap_app (f : Int → Int) (n : Int) (l l' : List Int) : zap (zap f n l) (n + l.length) l' = zap f n (l ++ l') := by
  funext j
  unfold zap
  simp only [List.length_append, Int.natCast_add]
  by_cases c1 : n + l.length ≤ j ∧ j < n + l.length + l'.length
  · rw [if_pos c1, if_pos (by omega)]
    rw [List.getD_eq_getElem?_getD, List.getD_eq_getElem?_getD, List.getElem?_append_right (by omega)]
    congr 2
    omega
  · rw [if_neg c1]
    by_cases c2 : n ≤ j ∧ j < n + l.length
    · rw [if_pos c2, if_pos (by omega)]
      rw [List.getD_eq_getElem?_getD, List.getD_eq_getElem?_getD, List.getElem?_append_left (by omega)]
    · rw [if_neg c2, if_neg (by omega)]
theorem zap_in {f : Int → Int} {n : Int} {l : List Int} (i : Nat) (h : i < l.length) : zap f n l (n + i) = l.getD i 0 := by
  unfold zap
  rw [if_pos (by omega)]
  congr 1
  omega
theorem zap_lo {f : Int → Int} {n j : Int} {l : List Int} (h : j < n) : zap f n l j = f j := by
  unfold zap
  rw [if_neg (by omega)]
/-- a word's bytes, of a long: those that aren't 0 -/
def wlp (W : Int) : Nat → List Int
  | 0 => []
  | i + 1 => if 0 < tByte W (56 - 8 * i) then wlp W i ++ [tByte W (56 - 8 * i)] else wlp W i
def wl (W : Int) : List Int := wlp W 8
theorem wlp_le (W : Int) (i : Nat) : (wlp W i).length ≤ i := by
  induction i with
  | zero => exact Nat.le_refl _
  | succ i ih =>
    unfold wlp
    split
    · rw [List.length_append]; simp only [List.length_cons, List.length_nil]; omega
    · omega
section LPUT
variable {R m : zM} {t n W : Int}
theorem l_put (ht : KX R t = 20) (hl : LX R t = 64) (hn : 0 ≤ n ∧ n + 9 ≤ 64) : ev 325 0 [(2, t), (0, n), (1, W), (8, 0), (9, 0), (9, 0), (9, 0)] [] R m = some ((0, n + (wl W).length + 1), R, zpr m t (zap (m t) n (wl W ++ [32]))) := by
  have key : ∀ (d i : Nat) (l6 : zV), i + d = 8 → ev 325 7 [(2, t), (0, n), (1, W), (8, 0), (0, n + (wlp W i).length), (0, 56 - 8 * (i : Int)), l6] [] R (zpr m t (zap (m t) n (wlp W i))) = some ((0, n + (wl W).length + 1), R, zpr m t (zap (m t) n (wl W ++ [32]))) := by
    intro d
    induction d with
    | zero =>
      intro i l6 hi
      have hi : i = 8 := by omega
      subst hi
      have hlen := wlp_le W 8
      have c : (56 : Int) - 8 * ((8 : Nat) : Int) < 0 := by omega
      have z1 : zw (n + ((wlp W 8).length : Int) + 1) = n + ((wlp W 8).length : Int) + 1 := zw_i (by omega) (by omega)
      have c2 : 0 ≤ n + ((wlp W 8).length : Int) ∧ n + ((wlp W 8).length : Int) < 64 := by omega
      rw [s325_7]
      simp only [s325_0, s325_1, s325_3, s325_5, s325_9, s325_12, s325_13, s325_15, s325_16, s325_17, s325_20, s325_21, s325_23, s325_25, s325_28, s325_29, s325_31, s325_34, s325_36, s325_37, s325_40, s325_43, s325_44, s325_46, s325_49, s325_51, s325_52, s325_54, zps_0, zps_1, zps_2, zps_3, zps_9, Option.bind_some, Option.bind_none, Int.reduceEq, Int.reduceNe, Int.reduceLT, Int.reduceLE, Int.reduceNeg, Int.reduceAdd, Int.reduceSub, Int.reduceMul, reduceIte, if_true, if_false, true_and, and_true, false_and, and_false, or_true, true_or, or_false, false_or, not_true_eq_false, not_false_eq_true, ite_not, z_b0, z_b1, z_b01, ht, hl, c, c2, z1, and_self, if_true, zup_zpr, zpr_at, zpr_zpr]
      rw [← zap_1, zap_app]
      rfl
    | succ d ih =>
      intro i l6 hi
      have hlen := wlp_le W i
      have c : ¬ (56 : Int) - 8 * (i : Int) < 0 := by omega
      have z1 : zw (n + ((wlp W i).length : Int) + 1) = n + ((wlp W i).length : Int) + 1 := zw_i (by omega) (by omega)
      have z2 : zw (56 - 8 * (i : Int) + -8) = 56 - 8 * ((i + 1 : Nat) : Int) := by rw [zw_i (by omega) (by omega)]; omega
      have c2 : 0 ≤ n + ((wlp W i).length : Int) ∧ n + ((wlp W i).length : Int) < 64 := by omega
      have hW : zw (z6s (fun x y => x >>> (y.toInt64 &&& 63)) W (56 - 8 * (i : Int))) % 256 = tByte W (56 - 8 * (i : Int)) := rfl
      have ih := fun l6 => ih (i + 1) l6 (by omega)
      rw [s325_7]
      by_cases b : tByte W (56 - 8 * (i : Int)) ≤ 0
      · have e : wlp W (i + 1) = wlp W i := by rw [wlp, if_neg (by omega)]
        rw [e] at ih
        simp only [s325_0, s325_1, s325_3, s325_5, s325_9, s325_12, s325_13, s325_15, s325_16, s325_17, s325_20, s325_21, s325_23, s325_25, s325_28, s325_29, s325_31, s325_34, s325_36, s325_37, s325_40, s325_43, s325_44, s325_46, s325_49, s325_51, s325_52, s325_54, zps_0, zps_1, zps_2, zps_3, zps_9, Option.bind_some, Option.bind_none, Int.reduceEq, Int.reduceNe, Int.reduceLT, Int.reduceLE, Int.reduceNeg, Int.reduceAdd, Int.reduceSub, Int.reduceMul, reduceIte, if_true, if_false, true_and, and_true, false_and, and_false, or_true, true_or, or_false, false_or, not_true_eq_false, not_false_eq_true, ite_not, z_b0, z_b1, z_b01, c, z_and255, hW, b, z2, if_true, if_false]
        exact ih _
      · have e : wlp W (i + 1) = wlp W i ++ [tByte W (56 - 8 * (i : Int))] := by rw [wlp, if_pos (by omega)]
        have e4 : n + (((wlp W i).length + [tByte W (56 - 8 * (i : Int))].length : Nat) : Int) = n + ((wlp W i).length : Int) + 1 := by
          simp only [List.length_cons, List.length_nil, Int.natCast_add]
          omega
        rw [e, ← zap_app, zap_1, List.length_append, e4] at ih
        simp only [s325_0, s325_1, s325_3, s325_5, s325_9, s325_12, s325_13, s325_15, s325_16, s325_17, s325_20, s325_21, s325_23, s325_25, s325_28, s325_29, s325_31, s325_34, s325_36, s325_37, s325_40, s325_43, s325_44, s325_46, s325_49, s325_51, s325_52, s325_54, zps_0, zps_1, zps_2, zps_3, zps_9, Option.bind_some, Option.bind_none, Int.reduceEq, Int.reduceNe, Int.reduceLT, Int.reduceLE, Int.reduceNeg, Int.reduceAdd, Int.reduceSub, Int.reduceMul, reduceIte, if_true, if_false, true_and, and_true, false_and, and_false, or_true, true_or, or_false, false_or, not_true_eq_false, not_false_eq_true, ite_not, z_b0, z_b1, z_b01, ht, hl, c, z_and255, hW, b, z1, z2, c2, and_self, if_true, if_false, zup_zpr, zpr_at, zpr_zpr]
        exact ih _
  have := key 8 0 (9, 0) rfl
  have e : zpr m t (zap (m t) n (wlp W 0)) = m := by
    show zpr m t (zap (m t) n []) = m
    rw [zap_0, zpr_self]
  rw [e] at this
  rw [← this]
  simp only [s325_0, s325_1, s325_3, s325_5, s325_9, s325_12, s325_13, s325_15, s325_16, s325_17, s325_20, s325_21, s325_23, s325_25, s325_28, s325_29, s325_31, s325_34, s325_36, s325_37, s325_40, s325_43, s325_44, s325_46, s325_49, s325_51, s325_52, s325_54, zps_0, zps_1, zps_2, zps_3, zps_9, Option.bind_some, Option.bind_none, Int.reduceEq, Int.reduceNe, Int.reduceLT, Int.reduceLE, Int.reduceNeg, Int.reduceAdd, Int.reduceSub, Int.reduceMul, reduceIte, if_true, if_false, true_and, and_true, false_and, and_false, or_true, true_or, or_false, false_or, not_true_eq_false, not_false_eq_true, ite_not, z_b0, z_b1, z_b01]
  have e2 : n + ((wlp W 0).length : Int) = n := by
    show n + (([] : List Int).length : Int) = n
    simp
  rw [e2]
  rfl
end LPUT
