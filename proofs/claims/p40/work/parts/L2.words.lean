/-! numbers and words as text -/
def nl (v : Int) : List Int := (if 0 ≤ v then [] else [45]) ++ ((if 99 < zab v then [48 + zab v / 100] else []) ++ ((if 9 < zab v then [48 + zab v / 10 % 10] else []) ++ [48 + zab v % 10]))
def pcN (v : Int) : List Int := nl v ++ [32]
def pcW (i : Int) : List Int := zwd i ++ [32]
theorem wl_5 : wl 1718775661 = zwd 5 := by decide +kernel
theorem wl_0 : wl 2054123109 = zwd 0 := by decide +kernel
theorem wl_1 : wl 2003399528 = zwd 1 := by decide +kernel
theorem wl_2 : wl 7627128 = zwd 2 := by decide +kernel
theorem wl_3 : wl 6513008 = zwd 3 := by decide +kernel
theorem wl_4 : wl 465557354085 = zwd 4 := by decide +kernel
theorem wl_6 : wl 1752132965 = zwd 6 := by decide +kernel
theorem wl_7 : wl 2003792491 = zwd 7 := by decide +kernel
theorem wl_8 : wl 1936224112 = zwd 8 := by decide +kernel
theorem wl_9 : wl 512736126322 = zwd 9 := by decide +kernel
theorem wl_A : wl 1919902052 = zwd 10 := by decide +kernel
theorem zwd_le {i : Int} (h : 0 ≤ i ∧ i ≤ 10) : 1 ≤ (zwd i).length ∧ (zwd i).length ≤ 5 := by
  rcases (show i = 0 ∨ i = 1 ∨ i = 2 ∨ i = 3 ∨ i = 4 ∨ i = 5 ∨ i = 6 ∨ i = 7 ∨ i = 8 ∨ i = 9 ∨ i = 10 by omega) with e | e | e | e | e | e | e | e | e | e | e <;> subst e <;> decide +kernel
theorem pcW_le {i : Int} (h : 0 ≤ i ∧ i ≤ 10) : 2 ≤ (pcW i).length ∧ (pcW i).length ≤ 6 := by
  have := zwd_le h
  unfold pcW
  rw [List.length_append]
  simp only [List.length_cons, List.length_nil]
  omega
theorem nl_le (v : Int) : 1 ≤ (nl v).length ∧ (nl v).length ≤ 4 := by
  unfold nl
  simp only [List.length_append, List.length_cons, List.length_nil]
  constructor
  · omega
  · (repeat' split) <;> simp
theorem pcN_le (v : Int) : 2 ≤ (pcN v).length ∧ (pcN v).length ≤ 5 := by
  have := nl_le v
  unfold pcN
  rw [List.length_append]
  simp only [List.length_cons, List.length_nil]
  omega
section LNUM
variable {R m : zM} {t n v : Int}
theorem zap_if (c : Prop) [Decidable c] (f : Int → Int) (n x : Int) : (if c then zrw f n x else f) = zap f n (if c then [x] else []) := by
  split
  · rw [zap_1]
  · rw [zap_0]
theorem l_number (ht : KX R t = 20) (hl : LX R t = 64) (hn : 0 ≤ n ∧ n + 5 ≤ 64) (hv : -999 ≤ v ∧ v ≤ 999) : ev 326 0 [(2, t), (0, n), (0, v), (9, 0), (9, 0)] [] R m = some ((0, n + (pcN v).length), R, zpr m t (zap (m t) n (pcN v))) := by
  obtain ⟨w, hw⟩ : ∃ w, zab v = w := ⟨_, rfl⟩
  have hw0 : 0 ≤ w ∧ w ≤ 999 := by rw [← hw]; unfold zab; split <;> omega
  have L0 : ev 326 0 [(2, t), (0, n), (0, v), (9, 0), (9, 0)] [] R m = ev 326 14 [(2, t), (0, n), (0, v), (0, n), (0, w)] [] R m := by
    unfold zab at hw
    have zn : zw (-v) = -v := zw_i (by omega) (by omega)
    by_cases c : 0 ≤ v
    · rw [if_pos c] at hw
      subst hw
      simp only [s326_0, s326_1, s326_2, s326_3, s326_6, s326_7, s326_8, s326_11, s326_12, s326_15, s326_18, s326_19, s326_20, s326_23, s326_25, s326_26, s326_28, s326_30, s326_33, s326_34, s326_35, s326_38, s326_40, s326_42, s326_44, s326_45, s326_46, s326_47, s326_49, s326_51, s326_54, s326_55, s326_56, s326_59, s326_61, s326_63, s326_65, s326_66, s326_68, s326_69, s326_70, s326_71, s326_72, s326_73, s326_76, s326_78, s326_80, s326_82, s326_83, s326_84, s326_85, s326_86, s326_87, s326_90, s326_92, s326_93, s326_94, zps_0, zps_1, zps_2, zps_3, zps_9, Option.bind_some, Option.bind_none, Int.reduceEq, Int.reduceNe, Int.reduceLT, Int.reduceLE, Int.reduceNeg, Int.reduceAdd, Int.reduceSub, Int.reduceMul, reduceIte, if_true, if_false, true_and, and_true, false_and, and_false, or_true, true_or, or_false, false_or, not_true_eq_false, not_false_eq_true, ite_not, z_b0, z_b1, z_b01, c, if_true]
    · rw [if_neg c] at hw
      subst hw
      simp only [s326_0, s326_1, s326_2, s326_3, s326_6, s326_7, s326_8, s326_11, s326_12, s326_15, s326_18, s326_19, s326_20, s326_23, s326_25, s326_26, s326_28, s326_30, s326_33, s326_34, s326_35, s326_38, s326_40, s326_42, s326_44, s326_45, s326_46, s326_47, s326_49, s326_51, s326_54, s326_55, s326_56, s326_59, s326_61, s326_63, s326_65, s326_66, s326_68, s326_69, s326_70, s326_71, s326_72, s326_73, s326_76, s326_78, s326_80, s326_82, s326_83, s326_84, s326_85, s326_86, s326_87, s326_90, s326_92, s326_93, s326_94, zps_0, zps_1, zps_2, zps_3, zps_9, Option.bind_some, Option.bind_none, Int.reduceEq, Int.reduceNe, Int.reduceLT, Int.reduceLE, Int.reduceNeg, Int.reduceAdd, Int.reduceSub, Int.reduceMul, reduceIte, if_true, if_false, true_and, and_true, false_and, and_false, or_true, true_or, or_false, false_or, not_true_eq_false, not_false_eq_true, ite_not, z_b0, z_b1, z_b01, c, zn, if_false]
  have L1 : ev 326 14 [(2, t), (0, n), (0, v), (0, n), (0, w)] [] R m = ev 326 26 [(2, t), (0, n), (0, v), (0, n + ((if 0 ≤ v then [] else [(45 : Int)]) : List Int).length), (0, w)] [] R (zpr m t (zap (m t) n (if 0 ≤ v then [] else [45]))) := by
    have z1 : zw (n + 1) = n + 1 := zw_i (by omega) (by omega)
    have c2 : 0 ≤ n ∧ n < 64 := by omega
    by_cases c : 0 ≤ v
    · rw [if_pos c, zap_0, zpr_self]
      simp only [s326_0, s326_1, s326_2, s326_3, s326_6, s326_7, s326_8, s326_11, s326_12, s326_14, s326_15, s326_18, s326_19, s326_20, s326_23, s326_25, s326_28, s326_30, s326_33, s326_34, s326_35, s326_38, s326_40, s326_42, s326_44, s326_45, s326_46, s326_47, s326_49, s326_51, s326_54, s326_55, s326_56, s326_59, s326_61, s326_63, s326_65, s326_66, s326_68, s326_69, s326_70, s326_71, s326_72, s326_73, s326_76, s326_78, s326_80, s326_82, s326_83, s326_84, s326_85, s326_86, s326_87, s326_90, s326_92, s326_93, s326_94, zps_0, zps_1, zps_2, zps_3, zps_9, Option.bind_some, Option.bind_none, Int.reduceEq, Int.reduceNe, Int.reduceLT, Int.reduceLE, Int.reduceNeg, Int.reduceAdd, Int.reduceSub, Int.reduceMul, reduceIte, if_true, if_false, true_and, and_true, false_and, and_false, or_true, true_or, or_false, false_or, not_true_eq_false, not_false_eq_true, ite_not, z_b0, z_b1, z_b01, c, if_true]
      simp
    · rw [if_neg c, zap_1]
      simp only [s326_0, s326_1, s326_2, s326_3, s326_6, s326_7, s326_8, s326_11, s326_12, s326_14, s326_15, s326_18, s326_19, s326_20, s326_23, s326_25, s326_28, s326_30, s326_33, s326_34, s326_35, s326_38, s326_40, s326_42, s326_44, s326_45, s326_46, s326_47, s326_49, s326_51, s326_54, s326_55, s326_56, s326_59, s326_61, s326_63, s326_65, s326_66, s326_68, s326_69, s326_70, s326_71, s326_72, s326_73, s326_76, s326_78, s326_80, s326_82, s326_83, s326_84, s326_85, s326_86, s326_87, s326_90, s326_92, s326_93, s326_94, zps_0, zps_1, zps_2, zps_3, zps_9, Option.bind_some, Option.bind_none, Int.reduceEq, Int.reduceNe, Int.reduceLT, Int.reduceLE, Int.reduceNeg, Int.reduceAdd, Int.reduceSub, Int.reduceMul, reduceIte, if_true, if_false, true_and, and_true, false_and, and_false, or_true, true_or, or_false, false_or, not_true_eq_false, not_false_eq_true, ite_not, z_b0, z_b1, z_b01, ht, hl, c, c2, z1, and_self, if_true, if_false, zup_zpr]
      rfl
  have L2 : ∀ (n' : Int) (g : Int → Int), 0 ≤ n' ∧ n' < 64 → ev 326 26 [(2, t), (0, n), (0, v), (0, n'), (0, w)] [] R (zpr m t g) = ev 326 47 [(2, t), (0, n), (0, v), (0, n' + ((if 99 < w then [48 + w / 100] else []) : List Int).length), (0, w)] [] R (zpr m t (zap g n' (if 99 < w then [48 + w / 100] else []))) := by
    intro n' g hn'
    have z1 : zw (n' + 1) = n' + 1 := zw_i (by omega) (by omega)
    have zd := z_div (a := w) (b := 100) hw0.1 (by omega) (by omega) (by omega)
    have z3 : zw (48 + w / 100) = 48 + w / 100 := zw_i (by omega) (by omega)
    have b1 : ¬ (100 : Int) = 0 := by decide
    by_cases c : 99 < w
    · have c' : ¬ w ≤ 99 := by omega
      rw [if_pos c, zap_1]
      simp only [s326_0, s326_1, s326_2, s326_3, s326_6, s326_7, s326_8, s326_11, s326_12, s326_14, s326_15, s326_18, s326_19, s326_20, s326_23, s326_25, s326_26, s326_28, s326_30, s326_33, s326_34, s326_35, s326_38, s326_40, s326_42, s326_44, s326_45, s326_46, s326_49, s326_51, s326_54, s326_55, s326_56, s326_59, s326_61, s326_63, s326_65, s326_66, s326_68, s326_69, s326_70, s326_71, s326_72, s326_73, s326_76, s326_78, s326_80, s326_82, s326_83, s326_84, s326_85, s326_86, s326_87, s326_90, s326_92, s326_93, s326_94, zps_0, zps_1, zps_2, zps_3, zps_9, Option.bind_some, Option.bind_none, Int.reduceEq, Int.reduceNe, Int.reduceLT, Int.reduceLE, Int.reduceNeg, Int.reduceAdd, Int.reduceSub, Int.reduceMul, reduceIte, if_true, if_false, true_and, and_true, false_and, and_false, or_true, true_or, or_false, false_or, not_true_eq_false, not_false_eq_true, ite_not, z_b0, z_b1, z_b01, ht, hl, c', hn', z1, zd, z3, b1, and_self, if_true, if_false, zup_zpr, zpr_at, zpr_zpr]
      rfl
    · have c' : w ≤ 99 := by omega
      rw [if_neg c, zap_0]
      simp only [s326_0, s326_1, s326_2, s326_3, s326_6, s326_7, s326_8, s326_11, s326_12, s326_14, s326_15, s326_18, s326_19, s326_20, s326_23, s326_25, s326_26, s326_28, s326_30, s326_33, s326_34, s326_35, s326_38, s326_40, s326_42, s326_44, s326_45, s326_46, s326_49, s326_51, s326_54, s326_55, s326_56, s326_59, s326_61, s326_63, s326_65, s326_66, s326_68, s326_69, s326_70, s326_71, s326_72, s326_73, s326_76, s326_78, s326_80, s326_82, s326_83, s326_84, s326_85, s326_86, s326_87, s326_90, s326_92, s326_93, s326_94, zps_0, zps_1, zps_2, zps_3, zps_9, Option.bind_some, Option.bind_none, Int.reduceEq, Int.reduceNe, Int.reduceLT, Int.reduceLE, Int.reduceNeg, Int.reduceAdd, Int.reduceSub, Int.reduceMul, reduceIte, if_true, if_false, true_and, and_true, false_and, and_false, or_true, true_or, or_false, false_or, not_true_eq_false, not_false_eq_true, ite_not, z_b0, z_b1, z_b01, c', if_true]
      simp
  have L3 : ∀ (n' : Int) (g : Int → Int), 0 ≤ n' ∧ n' < 64 → ev 326 47 [(2, t), (0, n), (0, v), (0, n'), (0, w)] [] R (zpr m t g) = ev 326 71 [(2, t), (0, n), (0, v), (0, n' + ((if 9 < w then [48 + w / 10 % 10] else []) : List Int).length), (0, w)] [] R (zpr m t (zap g n' (if 9 < w then [48 + w / 10 % 10] else []))) := by
    intro n' g hn'
    have z1 : zw (n' + 1) = n' + 1 := zw_i (by omega) (by omega)
    have zd := z_div (a := w) (b := 10) hw0.1 (by omega) (by omega) (by omega)
    have zr := z_rem (a := w / 10) (b := 10) (by omega) (by omega) (by omega) (by omega)
    have z3 : zw (48 + w / 10 % 10) = 48 + w / 10 % 10 := zw_i (by omega) (by omega)
    have b1 : ¬ (10 : Int) = 0 := by decide
    by_cases c : 9 < w
    · have c' : ¬ w ≤ 9 := by omega
      rw [if_pos c, zap_1]
      simp only [s326_0, s326_1, s326_2, s326_3, s326_6, s326_7, s326_8, s326_11, s326_12, s326_14, s326_15, s326_18, s326_19, s326_20, s326_23, s326_25, s326_26, s326_28, s326_30, s326_33, s326_34, s326_35, s326_38, s326_40, s326_42, s326_44, s326_45, s326_46, s326_47, s326_49, s326_51, s326_54, s326_55, s326_56, s326_59, s326_61, s326_63, s326_65, s326_66, s326_68, s326_69, s326_70, s326_72, s326_73, s326_76, s326_78, s326_80, s326_82, s326_83, s326_84, s326_85, s326_86, s326_87, s326_90, s326_92, s326_93, s326_94, zps_0, zps_1, zps_2, zps_3, zps_9, Option.bind_some, Option.bind_none, Int.reduceEq, Int.reduceNe, Int.reduceLT, Int.reduceLE, Int.reduceNeg, Int.reduceAdd, Int.reduceSub, Int.reduceMul, reduceIte, if_true, if_false, true_and, and_true, false_and, and_false, or_true, true_or, or_false, false_or, not_true_eq_false, not_false_eq_true, ite_not, z_b0, z_b1, z_b01, ht, hl, c', hn', z1, zd, zr, z3, b1, and_self, if_true, if_false, zup_zpr, zpr_at, zpr_zpr]
      rfl
    · have c' : w ≤ 9 := by omega
      rw [if_neg c, zap_0]
      simp only [s326_0, s326_1, s326_2, s326_3, s326_6, s326_7, s326_8, s326_11, s326_12, s326_14, s326_15, s326_18, s326_19, s326_20, s326_23, s326_25, s326_26, s326_28, s326_30, s326_33, s326_34, s326_35, s326_38, s326_40, s326_42, s326_44, s326_45, s326_46, s326_47, s326_49, s326_51, s326_54, s326_55, s326_56, s326_59, s326_61, s326_63, s326_65, s326_66, s326_68, s326_69, s326_70, s326_72, s326_73, s326_76, s326_78, s326_80, s326_82, s326_83, s326_84, s326_85, s326_86, s326_87, s326_90, s326_92, s326_93, s326_94, zps_0, zps_1, zps_2, zps_3, zps_9, Option.bind_some, Option.bind_none, Int.reduceEq, Int.reduceNe, Int.reduceLT, Int.reduceLE, Int.reduceNeg, Int.reduceAdd, Int.reduceSub, Int.reduceMul, reduceIte, if_true, if_false, true_and, and_true, false_and, and_false, or_true, true_or, or_false, false_or, not_true_eq_false, not_false_eq_true, ite_not, z_b0, z_b1, z_b01, c', if_true]
      simp
  have L4 : ∀ (n' : Int) (g : Int → Int), 0 ≤ n' ∧ n' + 1 < 64 → ev 326 71 [(2, t), (0, n), (0, v), (0, n'), (0, w)] [] R (zpr m t g) = some ((0, n' + 2), R, zpr m t (zap g n' [48 + w % 10, 32])) := by
    intro n' g hn'
    have z1 : zw (n' + 1) = n' + 1 := zw_i (by omega) (by omega)
    have z2 : zw (n' + 1 + 1) = n' + 2 := by rw [zw_i (by omega) (by omega)]; omega
    have zr := z_rem (a := w) (b := 10) hw0.1 (by omega) (by omega) (by omega)
    have z3 : zw (48 + w % 10) = 48 + w % 10 := zw_i (by omega) (by omega)
    have b1 : ¬ (10 : Int) = 0 := by decide
    have c1 : 0 ≤ n' ∧ n' < 64 := by omega
    have c2 : 0 ≤ n' + 1 ∧ n' + 1 < 64 := by omega
    have e : zap g n' [48 + w % 10, 32] = zrw (zrw g n' (48 + w % 10)) (n' + 1) 32 := by
      rw [← zap_1, ← zap_1, show n' + 1 = n' + (([48 + w % 10] : List Int).length : Int) from rfl, zap_app]
      rfl
    rw [e]
    simp only [s326_0, s326_1, s326_2, s326_3, s326_6, s326_7, s326_8, s326_11, s326_12, s326_14, s326_15, s326_18, s326_19, s326_20, s326_23, s326_25, s326_26, s326_28, s326_30, s326_33, s326_34, s326_35, s326_38, s326_40, s326_42, s326_44, s326_45, s326_46, s326_47, s326_49, s326_51, s326_54, s326_55, s326_56, s326_59, s326_61, s326_63, s326_65, s326_66, s326_68, s326_69, s326_70, s326_71, s326_72, s326_73, s326_76, s326_78, s326_80, s326_82, s326_83, s326_84, s326_85, s326_86, s326_87, s326_90, s326_92, s326_93, s326_94, zps_0, zps_1, zps_2, zps_3, zps_9, Option.bind_some, Option.bind_none, Int.reduceEq, Int.reduceNe, Int.reduceLT, Int.reduceLE, Int.reduceNeg, Int.reduceAdd, Int.reduceSub, Int.reduceMul, reduceIte, if_true, if_false, true_and, and_true, false_and, and_false, or_true, true_or, or_false, false_or, not_true_eq_false, not_false_eq_true, ite_not, z_b0, z_b1, z_b01, ht, hl, c1, c2, z1, z2, zr, z3, b1, and_self, if_true, if_false, zup_zpr, zpr_at, zpr_zpr]
  have k1 : ((if 0 ≤ v then [] else [(45 : Int)]) : List Int).length ≤ 1 := by split <;> simp
  have k2 : ((if 99 < w then [48 + w / 100] else []) : List Int).length ≤ 1 := by split <;> simp
  have k3 : ((if 9 < w then [48 + w / 10 % 10] else []) : List Int).length ≤ 1 := by split <;> simp
  rw [L0, L1, L2 _ _ (by omega), L3 _ _ (by omega), L4 _ _ (by omega)]
  have e : pcN v = (if 0 ≤ v then [] else [45]) ++ ((if 99 < w then [48 + w / 100] else []) ++ ((if 9 < w then [48 + w / 10 % 10] else []) ++ [48 + w % 10, 32])) := by
    unfold pcN nl
    rw [hw]
    simp only [List.append_assoc]
    rfl
  rw [e]
  generalize ((if 0 ≤ v then [] else [(45 : Int)]) : List Int) = a1
  generalize ((if 99 < w then [48 + w / 100] else []) : List Int) = a2
  generalize ((if 9 < w then [48 + w / 10 % 10] else []) : List Int) = a3
  rw [zap_app, show n + (a1.length : Int) + (a2.length : Int) = n + ((a1 ++ a2).length : Int) by rw [List.length_append]; omega, zap_app, show n + ((a1 ++ a2).length : Int) + (a3.length : Int) = n + ((a1 ++ a2 ++ a3).length : Int) by rw [List.length_append (bs := a3)]; omega, zap_app]
  have e2 : a1 ++ a2 ++ (a3 ++ [48 + w % 10, 32]) = a1 ++ (a2 ++ (a3 ++ [48 + w % 10, 32])) := by simp only [List.append_assoc]
  have e3 : n + ((a1 ++ a2 ++ a3).length : Int) + 2 = n + ((a1 ++ (a2 ++ (a3 ++ [48 + w % 10, 32]))).length : Int) := by
    simp only [List.length_append, List.length_cons, List.length_nil]
    omega
  rw [e2, e3]
theorem l_use (ht : KX R t = 20) (hl : LX R t = 64) (hn : 0 ≤ n ∧ n + 9 ≤ 64) {u : Int} (hu : 1 ≤ u ∧ u ≤ 5) : ev 327 0 [(2, t), (0, n), (0, u)] [] R m = some ((0, n + (pcW (5 + u)).length), R, zpr m t (zap (m t) n (pcW (5 + u)))) := by
  have P := fun W => l_put (R := R) (m := m) (t := t) (n := n) (W := W) ht hl hn
  have ln : ∀ l : List Int, n + (l.length : Int) + 1 = n + ((l ++ [32]).length : Int) := fun l => by
    rw [List.length_append]
    simp only [List.length_cons, List.length_nil]
    omega
  rcases (show u = 1 ∨ u = 2 ∨ u = 3 ∨ u = 4 ∨ u = 5 by omega) with e | e | e | e | e <;> subst e
  · have := P 1752132965
    rw [wl_6, ln] at this
    simp only [s327_0, s327_1, s327_2, s327_3, s327_4, s327_7, s327_10, s327_13, s327_14, s327_15, s327_18, s327_21, s327_24, s327_25, s327_26, s327_29, s327_32, s327_35, s327_36, s327_37, s327_40, s327_43, s327_46, s327_49, s327_52, zps_0, zps_1, zps_2, zps_3, zps_9, Option.bind_some, Option.bind_none, Int.reduceEq, Int.reduceNe, Int.reduceLT, Int.reduceLE, Int.reduceNeg, Int.reduceAdd, Int.reduceSub, Int.reduceMul, reduceIte, if_true, if_false, true_and, and_true, false_and, and_false, or_true, true_or, or_false, false_or, not_true_eq_false, not_false_eq_true, ite_not, z_b0, z_b1, z_b01, this]
    rfl
  · have := P 2003792491
    rw [wl_7, ln] at this
    simp only [s327_0, s327_1, s327_2, s327_3, s327_4, s327_7, s327_10, s327_13, s327_14, s327_15, s327_18, s327_21, s327_24, s327_25, s327_26, s327_29, s327_32, s327_35, s327_36, s327_37, s327_40, s327_43, s327_46, s327_49, s327_52, zps_0, zps_1, zps_2, zps_3, zps_9, Option.bind_some, Option.bind_none, Int.reduceEq, Int.reduceNe, Int.reduceLT, Int.reduceLE, Int.reduceNeg, Int.reduceAdd, Int.reduceSub, Int.reduceMul, reduceIte, if_true, if_false, true_and, and_true, false_and, and_false, or_true, true_or, or_false, false_or, not_true_eq_false, not_false_eq_true, ite_not, z_b0, z_b1, z_b01, this]
    rfl
  · have := P 1936224112
    rw [wl_8, ln] at this
    simp only [s327_0, s327_1, s327_2, s327_3, s327_4, s327_7, s327_10, s327_13, s327_14, s327_15, s327_18, s327_21, s327_24, s327_25, s327_26, s327_29, s327_32, s327_35, s327_36, s327_37, s327_40, s327_43, s327_46, s327_49, s327_52, zps_0, zps_1, zps_2, zps_3, zps_9, Option.bind_some, Option.bind_none, Int.reduceEq, Int.reduceNe, Int.reduceLT, Int.reduceLE, Int.reduceNeg, Int.reduceAdd, Int.reduceSub, Int.reduceMul, reduceIte, if_true, if_false, true_and, and_true, false_and, and_false, or_true, true_or, or_false, false_or, not_true_eq_false, not_false_eq_true, ite_not, z_b0, z_b1, z_b01, this]
    rfl
  · have := P 512736126322
    rw [wl_9, ln] at this
    simp only [s327_0, s327_1, s327_2, s327_3, s327_4, s327_7, s327_10, s327_13, s327_14, s327_15, s327_18, s327_21, s327_24, s327_25, s327_26, s327_29, s327_32, s327_35, s327_36, s327_37, s327_40, s327_43, s327_46, s327_49, s327_52, zps_0, zps_1, zps_2, zps_3, zps_9, Option.bind_some, Option.bind_none, Int.reduceEq, Int.reduceNe, Int.reduceLT, Int.reduceLE, Int.reduceNeg, Int.reduceAdd, Int.reduceSub, Int.reduceMul, reduceIte, if_true, if_false, true_and, and_true, false_and, and_false, or_true, true_or, or_false, false_or, not_true_eq_false, not_false_eq_true, ite_not, z_b0, z_b1, z_b01, this]
    rfl
  · have := P 1919902052
    rw [wl_A, ln] at this
    simp only [s327_0, s327_1, s327_2, s327_3, s327_4, s327_7, s327_10, s327_13, s327_14, s327_15, s327_18, s327_21, s327_24, s327_25, s327_26, s327_29, s327_32, s327_35, s327_36, s327_37, s327_40, s327_43, s327_46, s327_49, s327_52, zps_0, zps_1, zps_2, zps_3, zps_9, Option.bind_some, Option.bind_none, Int.reduceEq, Int.reduceNe, Int.reduceLT, Int.reduceLE, Int.reduceNeg, Int.reduceAdd, Int.reduceSub, Int.reduceMul, reduceIte, if_true, if_false, true_and, and_true, false_and, and_false, or_true, true_or, or_false, false_or, not_true_eq_false, not_false_eq_true, ite_not, z_b0, z_b1, z_b01, this]
    rfl
end LNUM
