/-! the start of the law in the true machine: what holds of the state -/
section PLACE
set_option maxRecDepth 100000 in
theorem z_inst : ∀ ci, ci < 12 → Cond.instantiable (zcl ci).1 (znf ci) ∈ lw_tbl := z_13 ⟨List.mem_of_getElem? (i := 252) rfl, List.mem_of_getElem? (i := 75) rfl, List.mem_of_getElem? (i := 277) rfl, List.mem_of_getElem? (i := 148) rfl, List.mem_of_getElem? (i := 444) rfl, List.mem_of_getElem? (i := 412) rfl, List.mem_of_getElem? (i := 164) rfl, List.mem_of_getElem? (i := 467) rfl, List.mem_of_getElem? (i := 69) rfl, List.mem_of_getElem? (i := 368) rfl, List.mem_of_getElem? (i := 319) rfl, List.mem_of_getElem? (i := 61) rfl⟩
set_option maxRecDepth 100000 in
theorem zy_353 : Cond.arrayOver (.object "GrownTown$Laws") ∈ lw_tbl := List.mem_of_getElem? (i := 258) rfl
set_option maxRecDepth 100000 in
theorem zy_825 : Cond.laysStatic "java/lang/String" "COMPACT_STRINGS" "Z" ∈ lw_tbl := List.mem_of_getElem? (i := 994) rfl
set_option maxRecDepth 100000 in
theorem zy_841 : Cond.laysStatic "jdk/internal/util/Preconditions" "SIOOBE_FORMATTER" "Ljava/util/function/BiFunction;" ∈ lw_tbl := List.mem_of_getElem? (i := 1010) rfl
set_option maxRecDepth 100000 in
theorem zy_143 : Cond.initialized "java/lang/String" ∈ lw_tbl := List.mem_of_getElem? (i := 55) rfl
set_option maxRecDepth 100000 in
theorem zy_145 : Cond.initialized "jdk/internal/util/Preconditions" ∈ lw_tbl := List.mem_of_getElem? (i := 57) rfl
theorem zy_pl {w : Cond} (h : w ∈ zTB) : w ∈ lw_tbl := (List.mem_filter.mp h).1
/-- the classes of objects and of arrays -/
theorem z_start_K {s : State} {args : Array Value} (hts : ∀ w ∈ lw_tbl, w.before args s = true) : ∃ (D : va_G) (cy : ClassId × ClassId × ClassId × ClassId), va_K D vwCl (zTys cy) s := by
  have hts' : ∀ w ∈ zTB, w.before args s = true := fun w hw => hts w (zy_pl hw)
  have hc : ∀ ci : Nat, ∃ q : ClassId × (Nat → Nat), ci < 12 → u_Kn s (zcl ci).1 (zcl ci).2.1 (zcl ci).2.2 q.1 q.2 := by
    intro ci
    by_cases h : ci < 12
    · obtain ⟨cC, iS, hK⟩ := u_known (ws := zTB) (C := (zcl ci).1) (T := (zcl ci).2.1) (N := (zcl ci).2.2) (n := znf ci) hts' (z_lays ci h) (hts _ (z_inst ci h))
      exact ⟨(cC, iS), fun _ => hK⟩
    · exact ⟨(0, fun _ => 0), fun z => absurd z h⟩
  obtain ⟨dq, hdq⟩ := Classical.axiomOfChoice hc
  obtain ⟨c1, k1, p1, a1, a2, a3⟩ := Cond.arrayClass_spec (hts' _ z_acI)
  obtain ⟨c2, k2, p2, b1, b2, b3⟩ := Cond.arrayClass_spec (hts' _ z_acJ)
  obtain ⟨p4, c4, k4, e1, e2, e3, e4, e5⟩ := Cond.arrayOver_spec (hts _ zy_353)
  refine ⟨(fun k => (dq k).1, fun k => (dq k).2), (c1, c2, c1, c4), fun c q hq => ?_, fun k q hq => ?_⟩
  · have hlt : c < 12 := (List.getElem?_eq_some_iff.mp hq).1
    rw [z_cl c hlt] at hq
    cases hq
    exact hdq c hlt
  · match k, hq with
    | 0, hq => cases hq; exact ⟨fun n z => ⟨fun k h => (by cases h), k1, a2, p1, a3⟩, a1⟩
    | 1, hq => cases hq; exact ⟨fun n z => ⟨fun k h => (by cases h), k2, b2, p2, b3⟩, b1⟩
    | 2, hq => cases hq; exact ⟨fun n z => ⟨fun k h => (by cases h), k4, e3, p4, e4⟩, k4, p4, e3, e4, e1, e5⟩
    | k + 3, hq => simp [zTys] at hq
/-- the text constants -/
def zxtm (i : Nat) : Term := .string "GrownTown$LawText" (86 + 2 * i)
def zflat0 : List Cond := flatC (Jvm.Cond.and given_1 narrow_1)
theorem zt_ex : ∀ i, i < 12 → Cond.exactly (zxtm i) "java/lang/String" ∈ zflat0 := by decide +kernel
theorem zt_co : ∀ i, i < 12 → Cond.eq (.field (zxtm i) "java/lang/String" "coder" "B") (.int 0) ∈ zflat0 := by decide +kernel
theorem zt_ar : ∀ i, i < 12 → Cond.arrayOf (.field (zxtm i) "java/lang/String" "value" "[B") .byte ∈ zflat0 := by decide +kernel
theorem zt_le : ∀ i, i < 12 → Cond.eq (.length (.field (zxtm i) "java/lang/String" "value" "[B")) (.int (Int32.ofNat (zlenS.getD i 0))) ∈ zflat0 := by decide +kernel
theorem zt_el : ∀ i, i < 12 → ∀ j, j < zlenS.getD i 0 → Cond.eq (.elem (.field (zxtm i) "java/lang/String" "value" "[B") (.int (Int32.ofNat j))) (.int ((zbytS.getD i []).getD j 0)) ∈ zflat0 := by decide +kernel
theorem zt_ne : ∀ i, i < 12 → ∀ j, j < 12 → i ≠ j → (Cond.not (Cond.eq (zxtm i) (zxtm j)) ∈ zflat0 ∨ Cond.not (Cond.eq (zxtm j) (zxtm i)) ∈ zflat0) := by decide +kernel
theorem zt_cs : Cond.eq (.static "java/lang/String" "COMPACT_STRINGS" "Z") (.int 1) ∈ zflat0 := by decide +kernel
theorem zt_pr : Cond.isRef (.static "jdk/internal/util/Preconditions" "SIOOBE_FORMATTER" "Ljava/util/function/BiFunction;") ∈ zflat0 := by decide +kernel
theorem zt_len : ∀ i, i < 12 → zlenS.getD i 0 < 2 ^ 31 := by decide +kernel
theorem zt_zct : ∀ e ∈ zct, e.2.1.1 = 3 → zcn e.1.1 = "GrownTown$LawText" ∧ e.1.2 = 86 + 2 * e.2.1.2.toNat ∧ e.2.1.2.toNat < 12 := by decide +kernel
theorem z_start_T {s : State} {args : Array Value} {B : Nat} (hB : ∀ a : Nat, a < s.heap.size → ¬ B ≤ a) (hts : ∀ w ∈ lw_tbl, w.before args s = true) (hgv : (Jvm.Cond.and given_1 narrow_1).before args s = true) : ∃ adK : Nat → Nat, zTX B adK s := by
  have hF : ∀ w ∈ zflat0, w.before args s = true := flat_of_before _ hgv
  obtain ⟨adK, adV, h1, h2⟩ := vk_Sof (args := args) (s := s) (N := 12) (tm := zxtm) (len := zlenS) (byt := zbytS) (A := fun q => B ≤ q) zt_len (fun i hi => hF _ (zt_ex i hi)) (fun i hi => hF _ (zt_co i hi)) (fun i hi => hF _ (zt_ar i hi)) (fun i hi => hF _ (zt_le i hi)) (fun i hi j hj => hF _ (zt_el i hi j hj)) (fun i j hi hj hij => (zt_ne i hi j hj hij).elim (fun h => Or.inl (hF _ h)) (fun h => Or.inr (hF _ h))) hB
  refine ⟨adK, ⟨adV, h1⟩, fun e he ht => ?_, va_Zof (hts _ zy_825) (hts _ zy_143) (va_eqt (hF _ zt_cs)) hB, va_Zqof (hts _ zy_841) (hts _ zy_145) (hF _ zt_pr) hB⟩
  obtain ⟨q1, q2, q3⟩ := zt_zct e he ht
  have hc := List.all_eq_true.mp z_consts e he
  unfold zcstT at hc
  rw [ht] at hc
  simp only [Bool.and_eq_true, decide_eq_true_eq] at hc
  have hw := hts _ (List.mem_of_getElem? hc.1.1)
  refine vk_R.of hw ?_
  have := h2 _ q3
  unfold zxtm at this
  rw [q1, q2]
  have e0 : (Term.string "GrownTown$LawText" (86 + 2 * e.2.1.2.toNat)).eval args s none [] s = (Term.string "GrownTown$LawText" (86 + 2 * e.2.1.2.toNat)).eval args s none [] s := rfl
  exact this
end PLACE
