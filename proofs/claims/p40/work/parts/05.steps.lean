/-! each step of the small machine is a step of the true one -/
def zTB : List Cond := lw_tbl.filter goodWord
def zNst : List Cond := lw_tbl.filter (fun w => match w with
  | .methodLinkNest _ _ _ _ => true
  | _ => false)
def zlenS : List Nat := zstr.map (fun s => s.toList.length)
def zbytS : List (List Int32) := zstr.map (fun s => s.toList.map (fun c => Int32.ofNat c.toNat))
/-- what the text constants are -/
def zTX (B : Nat) (adK : Nat → Nat) (s : State) : Prop := (∃ adV : Nat → Nat, vk_S 12 zlenS zbytS adK adV (fun q => B ≤ q) s s.heap) ∧ (∀ e ∈ zct, e.2.1.1 = 3 → vk_R (zcn e.1.1) e.1.2 (zstr.getD e.2.1.2.toNat "") (adK e.2.1.2.toNat) s) ∧ va_Z "java/lang/String" "COMPACT_STRINGS" "Z" (.int 1) (fun q => B ≤ q) s s.heap ∧ va_Zq "jdk/internal/util/Preconditions" "SIOOBE_FORMATTER" "Ljava/util/function/BiFunction;" (fun q => B ≤ q) s s.heap
abbrev zX : Type := Program × Launch × Env × Room × State × MethodId × Array Value × List Frame × Method × Code × (State → Prop) × (Nat × Nat × (Nat → Nat) × va_G × (ClassId × ClassId × ClassId × ClassId) × Nat × (Nat → Int32)) × zM × zR
abbrev zTys (cy : ClassId × ClassId × ClassId × ClassId) : List (ClassId × FieldType) := [(cy.1, .int), (cy.2.1, .long), (cy.2.2.2, .object "GrownTown$Laws")]
/-- what a state has from the start on, whatever happens to the cells from B on -/
def zSt (B b : Nat) (adK : Nat → Nat) (D : va_G) (cy : ClassId × ClassId × ClassId × ClassId) (L : Nat) (xs : Nat → Int32) (s : State) : Prop :=
  va_K D vwCl (zTys cy) s ∧ va_AO "GrownTown$Laws" s ∧ (∀ w ∈ zNst, va_Nw w s) ∧ zTX B adK s ∧ va_X b L xs s s.heap ∧ b < B ∧ B ≤ s.heap.size
/-- what holds of the frame of a method y -/
def zCx (X : zX) (y : Nat) : Prop := match X with
  | (p, _, _, Rm, s, mi, args, _, meth, c, _, (B, b, adK, D, cy, L, xs), Re, rr) =>
    p.tables.exec = Jvm.exec ∧ c.code = zmb y ∧ c.maxLocals = zml y ∧ s.vm.findClass (zcn (zoc y)) = some mi.cls ∧ (∀ w ∈ zTB, w.before args s = true) ∧ zSt B b adK D cy L xs s ∧ zmf y ≤ Rm.frames ∧ zmo y ≤ Rm.locals ∧ ((zmn y).name = "<init>" → meth.name = "<init>") ∧ (rr.2.1 0 0 - Re 0 0).toNat ≤ Rm.cells ∧ (rr.2.1 0 1 - Re 0 1).toNat ≤ Rm.slots
/-- the heap holds the memories -/
def zJ (B b : Nat) (D : va_G) (cy : ClassId × ClassId × ClassId × ClassId) (L : Nat) (xs : Nat → Int32) (R m : zM) (H0 H : Heap) (locs : List Loc) : Prop :=
  va_P D vwCl (zws B cy R m (R 0 0).toNat) H ∧ H.size = B + (R 0 0).toNat ∧ zfm R m ∧ va_S (fun q => B ≤ q) H0 H locs ∧ R 0 2 = (L : Int) ∧ L < 2147483648 ∧ ∀ i : Nat, i < L → R 0 (3 + (i : Int)) = (xs i).toInt
def zG (X : zX) (y pc : Nat) (ls st : List zV) (R m : zM) : Prop := match X with
  | (p, l, e, Rm, s, mi, args, below, meth, c, Q, (B, b, adK, D, cy, L, xs), Re, rr) =>
    ∀ (H : Heap) (LS : Array Slot) (locs : List Loc) (cells slots : Nat), zJ B b D cy L xs R m s.heap H locs → zlh B adK b LS (zml y) ls → (∀ v ∈ ls, zvok R v) → (∀ v ∈ st, zvok R v) → (Re 0 0 ≤ R 0 0 ∧ R 0 0 ≤ rr.2.1 0 0 ∧ Re 0 1 ≤ R 0 1 ∧ R 0 1 ≤ rr.2.1 0 1) →
      cells = (R 0 0 - Re 0 0).toNat → slots = (R 0 1 - Re 0 1).toNat → W p l e Rm s mi args below meth c H locs cells slots Q (F0 mi pc LS (st.map (zval B adK b)))
theorem z_push {R : zM} {l : List zV} {v : zV} (hv : zvok R v) (h : ∀ u ∈ l, zvok R u) : ∀ u ∈ v :: l, zvok R u := fun u hu => (List.mem_cons.mp hu).elim (fun e => e ▸ hv) (h u)
theorem z_tl {R : zM} {l : List zV} {v : zV} (h : ∀ u ∈ v :: l, zvok R u) : ∀ u ∈ l, zvok R u := fun u hu => h u (List.mem_cons_of_mem _ hu)
theorem z_hd {R : zM} {l : List zV} {v : zV} (h : ∀ u ∈ v :: l, zvok R u) : zvok R v := h v List.mem_cons_self
theorem z_lst {R : zM} {ls : List zV} {v : zV} (k : Nat) (hv : zvok R v) (h : ∀ u ∈ ls, zvok R u) : ∀ u ∈ ls.set k v, zvok R u := fun u hu => (List.mem_or_eq_of_mem_set hu).elim (h u) (fun e => e ▸ hv)
theorem z_lc (u v : Prop) [Decidable u] [Decidable v] : zi32 (if u then 1 else if v then 0 else -1) := by
  unfold zi32
  split
  · omega
  · split <;> omega
section STEPS
variable {X : zX} {y pc : Nat} {ls st : List zV} {R m : zM}

theorem g_iconst {n : Int} (C : zCx X y) (hd : decode (zmb y) pc = .ok (.iconst n, 1)) (k : zG X y (pc + 1) ls ((0, zw n) :: st) R m) : zG X y pc ls st R m := by
  obtain ⟨p, l, e, Rm, s, mi, args, below, meth, c, Q, ⟨B, b, adK, D, cy, L, xs⟩, Re, rr⟩ := X
  obtain ⟨hx, hb, hml, hown, hts, hSt, hfr, hlo, hinit, hrc, hrs⟩ := C
  intro H LS locs cells slots hJ hl hls hst hR hc hs
  show W p l e Rm s mi args below meth c H locs cells slots Q (F0 mi pc LS (st.map (zval B adK b)))
  refine lv_iconst (v := Int32.ofInt (zw n)) hx hb hd (by rw [z_ofw]) ?_
  exact k H LS locs cells slots hJ hl hls (z_push (zw_in _) hst) hR hc hs
theorem g_bipush {n : Int} (C : zCx X y) (hd : decode (zmb y) pc = .ok (.bipush n, 2)) (k : zG X y (pc + 2) ls ((0, (Int8.ofInt n).toInt32.toInt) :: st) R m) : zG X y pc ls st R m := by
  obtain ⟨p, l, e, Rm, s, mi, args, below, meth, c, Q, ⟨B, b, adK, D, cy, L, xs⟩, Re, rr⟩ := X
  obtain ⟨hx, hb, hml, hown, hts, hSt, hfr, hlo, hinit, hrc, hrs⟩ := C
  intro H LS locs cells slots hJ hl hls hst hR hc hs
  show W p l e Rm s mi args below meth c H locs cells slots Q (F0 mi pc LS (st.map (zval B adK b)))
  refine lv_bipush (v := Int32.ofInt (Int8.ofInt n).toInt32.toInt) hx hb hd (by rw [z_back]) ?_
  exact k H LS locs cells slots hJ hl hls (z_push (z_rng _) hst) hR hc hs
theorem g_sipush {n : Int} (C : zCx X y) (hd : decode (zmb y) pc = .ok (.sipush n, 3)) (k : zG X y (pc + 3) ls ((0, (Int16.ofInt n).toInt32.toInt) :: st) R m) : zG X y pc ls st R m := by
  obtain ⟨p, l, e, Rm, s, mi, args, below, meth, c, Q, ⟨B, b, adK, D, cy, L, xs⟩, Re, rr⟩ := X
  obtain ⟨hx, hb, hml, hown, hts, hSt, hfr, hlo, hinit, hrc, hrs⟩ := C
  intro H LS locs cells slots hJ hl hls hst hR hc hs
  show W p l e Rm s mi args below meth c H locs cells slots Q (F0 mi pc LS (st.map (zval B adK b)))
  refine lv_sipush (v := Int32.ofInt (Int16.ofInt n).toInt32.toInt) hx hb hd (by rw [z_back]) ?_
  exact k H LS locs cells slots hJ hl hls (z_push (z_rng _) hst) hR hc hs
theorem g_lconst {n : Fin 2} (C : zCx X y) (hd : decode (zmb y) pc = .ok (.lconst n, 1)) (k : zG X y (pc + 1) ls ((1, (n.val : Int)) :: st) R m) : zG X y pc ls st R m := by
  obtain ⟨p, l, e, Rm, s, mi, args, below, meth, c, Q, ⟨B, b, adK, D, cy, L, xs⟩, Re, rr⟩ := X
  obtain ⟨hx, hb, hml, hown, hts, hSt, hfr, hlo, hinit, hrc, hrs⟩ := C
  intro H LS locs cells slots hJ hl hls hst hR hc hs
  show W p l e Rm s mi args below meth c H locs cells slots Q (F0 mi pc LS (st.map (zval B adK b)))
  refine lv_lconst (v := Int64.ofInt (n.val : Int)) hx hb hd (by rw [Int64.ofInt_eq_ofNat]) ?_
  exact k H LS locs cells slots hJ hl hls (z_push (show zi64 _ by have := n.isLt; unfold zi64; omega) hst) hR hc hs
theorem g_iload_n {n : Fin 4} {x : Int} (C : zCx X y) (hd : decode (zmb y) pc = .ok (.iload_n n, 1)) (hk : ls[n.val]? = some (0, x)) (k : zG X y (pc + 1) ls ((0, x) :: st) R m) : zG X y pc ls st R m := by
  obtain ⟨p, l, e, Rm, s, mi, args, below, meth, c, Q, ⟨B, b, adK, D, cy, L, xs⟩, Re, rr⟩ := X
  obtain ⟨hx, hb, hml, hown, hts, hSt, hfr, hlo, hinit, hrc, hrs⟩ := C
  intro H LS locs cells slots hJ hl hls hst hR hc hs
  show W p l e Rm s mi args below meth c H locs cells slots Q (F0 mi pc LS (st.map (zval B adK b)))
  refine lv_iload_n hx hb hd rfl (hl.2.2.2.1 _ _ hk (Or.inl rfl)) ?_
  exact k H LS locs cells slots hJ hl hls (z_push (hls _ (List.mem_of_getElem? hk)) hst) hR hc hs
theorem g_iload {n : Nat} {x : Int} (C : zCx X y) (hd : decode (zmb y) pc = .ok (.iload n, 2)) (hk : ls[n]? = some (0, x)) (k : zG X y (pc + 2) ls ((0, x) :: st) R m) : zG X y pc ls st R m := by
  obtain ⟨p, l, e, Rm, s, mi, args, below, meth, c, Q, ⟨B, b, adK, D, cy, L, xs⟩, Re, rr⟩ := X
  obtain ⟨hx, hb, hml, hown, hts, hSt, hfr, hlo, hinit, hrc, hrs⟩ := C
  intro H LS locs cells slots hJ hl hls hst hR hc hs
  show W p l e Rm s mi args below meth c H locs cells slots Q (F0 mi pc LS (st.map (zval B adK b)))
  refine lv_iload hx hb hd (hl.2.2.2.1 _ _ hk (Or.inl rfl)) ?_
  exact k H LS locs cells slots hJ hl hls (z_push (hls _ (List.mem_of_getElem? hk)) hst) hR hc hs
theorem g_lload_n {n : Fin 4} {x : Int} (C : zCx X y) (hd : decode (zmb y) pc = .ok (.lload_n n, 1)) (hk : ls[n.val]? = some (1, x)) {w : Int} (hk2 : ls[n.val + 1]? = some (8, w)) (k : zG X y (pc + 1) ls ((1, x) :: st) R m) : zG X y pc ls st R m := by
  obtain ⟨p, l, e, Rm, s, mi, args, below, meth, c, Q, ⟨B, b, adK, D, cy, L, xs⟩, Re, rr⟩ := X
  obtain ⟨hx, hb, hml, hown, hts, hSt, hfr, hlo, hinit, hrc, hrs⟩ := C
  intro H LS locs cells slots hJ hl hls hst hR hc hs
  show W p l e Rm s mi args below meth c H locs cells slots Q (F0 mi pc LS (st.map (zval B adK b)))
  refine lv_lload_n hx hb hd rfl (hl.2.2.2.2 _ _ _ hk hk2 rfl rfl) ?_
  exact k H LS locs cells slots hJ hl hls (z_push (hls _ (List.mem_of_getElem? hk)) hst) hR hc hs
theorem g_lload {n : Nat} {x : Int} (C : zCx X y) (hd : decode (zmb y) pc = .ok (.lload n, 2)) (hk : ls[n]? = some (1, x)) {w : Int} (hk2 : ls[n + 1]? = some (8, w)) (k : zG X y (pc + 2) ls ((1, x) :: st) R m) : zG X y pc ls st R m := by
  obtain ⟨p, l, e, Rm, s, mi, args, below, meth, c, Q, ⟨B, b, adK, D, cy, L, xs⟩, Re, rr⟩ := X
  obtain ⟨hx, hb, hml, hown, hts, hSt, hfr, hlo, hinit, hrc, hrs⟩ := C
  intro H LS locs cells slots hJ hl hls hst hR hc hs
  show W p l e Rm s mi args below meth c H locs cells slots Q (F0 mi pc LS (st.map (zval B adK b)))
  refine lv_lload hx hb hd (hl.2.2.2.2 _ _ _ hk hk2 rfl rfl) ?_
  exact k H LS locs cells slots hJ hl hls (z_push (hls _ (List.mem_of_getElem? hk)) hst) hR hc hs
theorem g_aload_n {n : Fin 4} {v : zV} (C : zCx X y) (hd : decode (zmb y) pc = .ok (.aload_n n, 1)) (hk : ls[n.val]? = some v) (ht : v.1 = 2 ∨ v.1 = 3 ∨ v.1 = 4) (k : zG X y (pc + 1) ls (v :: st) R m) : zG X y pc ls st R m := by
  obtain ⟨p, l, e, Rm, s, mi, args, below, meth, c, Q, ⟨B, b, adK, D, cy, L, xs⟩, Re, rr⟩ := X
  obtain ⟨hx, hb, hml, hown, hts, hSt, hfr, hlo, hinit, hrc, hrs⟩ := C
  intro H LS locs cells slots hJ hl hls hst hR hc hs
  show W p l e Rm s mi args below meth c H locs cells slots Q (F0 mi pc LS (st.map (zval B adK b)))
  have hat : LS[n.val]? = some (.val (zval B adK b v)) := hl.2.2.2.1 _ _ hk (Or.inr ht)
  have hk' := k H LS locs cells slots hJ hl hls (z_push (hls _ (List.mem_of_getElem? hk)) hst) hR hc hs
  have hk' : W p l e Rm s mi args below meth c H locs cells slots Q (F0 mi (pc + 1) LS (zval B adK b v :: st.map (zval B adK b))) := hk'
  have hz : zval B adK b v = .null ∨ ∃ q, zval B adK b v = .ref q := by
    unfold zval
    rcases ht with h | h | h <;> rw [h] <;> simp only
    · split
      · exact Or.inl rfl
      · exact Or.inr ⟨_, rfl⟩
    · exact Or.inr ⟨_, rfl⟩
    · exact Or.inr ⟨_, rfl⟩
  rcases hz with hz | ⟨q, hz⟩
  · rw [hz] at hat hk'
    exact lv_aload_nN hx hb hd rfl hat hk'
  · rw [hz] at hat hk'
    exact lv_aload_n hx hb hd rfl hat hk'
theorem g_aload {n : Nat} {v : zV} (C : zCx X y) (hd : decode (zmb y) pc = .ok (.aload n, 2)) (hk : ls[n]? = some v) (ht : v.1 = 2 ∨ v.1 = 3 ∨ v.1 = 4) (k : zG X y (pc + 2) ls (v :: st) R m) : zG X y pc ls st R m := by
  obtain ⟨p, l, e, Rm, s, mi, args, below, meth, c, Q, ⟨B, b, adK, D, cy, L, xs⟩, Re, rr⟩ := X
  obtain ⟨hx, hb, hml, hown, hts, hSt, hfr, hlo, hinit, hrc, hrs⟩ := C
  intro H LS locs cells slots hJ hl hls hst hR hc hs
  show W p l e Rm s mi args below meth c H locs cells slots Q (F0 mi pc LS (st.map (zval B adK b)))
  have hat : LS[n]? = some (.val (zval B adK b v)) := hl.2.2.2.1 _ _ hk (Or.inr ht)
  have hk' := k H LS locs cells slots hJ hl hls (z_push (hls _ (List.mem_of_getElem? hk)) hst) hR hc hs
  have hk' : W p l e Rm s mi args below meth c H locs cells slots Q (F0 mi (pc + 2) LS (zval B adK b v :: st.map (zval B adK b))) := hk'
  have hz : zval B adK b v = .null ∨ ∃ q, zval B adK b v = .ref q := by
    unfold zval
    rcases ht with h | h | h <;> rw [h] <;> simp only
    · split
      · exact Or.inl rfl
      · exact Or.inr ⟨_, rfl⟩
    · exact Or.inr ⟨_, rfl⟩
    · exact Or.inr ⟨_, rfl⟩
  rcases hz with hz | ⟨q, hz⟩
  · rw [hz] at hat hk'
    exact lv_aloadN hx hb hd hat hk'
  · rw [hz] at hat hk'
    exact lv_aload hx hb hd hat hk'
theorem g_istore_n {n : Fin 4} {x : Int} (C : zCx X y) (hd : decode (zmb y) pc = .ok (.istore_n n, 1)) (hk : n.val < ls.length) (k : zG X y (pc + 1) (ls.set n.val (0, x)) (st) R m) : zG X y pc ls ((0, x) :: st) R m := by
  obtain ⟨p, l, e, Rm, s, mi, args, below, meth, c, Q, ⟨B, b, adK, D, cy, L, xs⟩, Re, rr⟩ := X
  obtain ⟨hx, hb, hml, hown, hts, hSt, hfr, hlo, hinit, hrc, hrs⟩ := C
  intro H LS locs cells slots hJ hl hls hst hR hc hs
  show W p l e Rm s mi args below meth c H locs cells slots Q (F0 mi pc LS (.int (Int32.ofInt x) :: st.map (zval B adK b)))
  have hlen := hl.2.1
  refine lv_istore_n hx hb hd rfl (zlv_has hl) (by omega) rfl (fun LS' hl' => ?_)
  exact k H LS' locs cells slots hJ (zlh_set1 (v := (0, x)) hl (by omega) (Or.inl rfl) hl') (z_lst _ (z_hd hst) hls) (z_tl hst) hR hc hs
theorem g_istore {n : Nat} {x : Int} (C : zCx X y) (hd : decode (zmb y) pc = .ok (.istore n, 2)) (hk : n < ls.length) (k : zG X y (pc + 2) (ls.set n (0, x)) (st) R m) : zG X y pc ls ((0, x) :: st) R m := by
  obtain ⟨p, l, e, Rm, s, mi, args, below, meth, c, Q, ⟨B, b, adK, D, cy, L, xs⟩, Re, rr⟩ := X
  obtain ⟨hx, hb, hml, hown, hts, hSt, hfr, hlo, hinit, hrc, hrs⟩ := C
  intro H LS locs cells slots hJ hl hls hst hR hc hs
  show W p l e Rm s mi args below meth c H locs cells slots Q (F0 mi pc LS (.int (Int32.ofInt x) :: st.map (zval B adK b)))
  have hlen := hl.2.1
  refine lv_istore hx hb hd (zlv_has hl) (by omega) rfl (fun LS' hl' => ?_)
  exact k H LS' locs cells slots hJ (zlh_set1 (v := (0, x)) hl (by omega) (Or.inl rfl) hl') (z_lst _ (z_hd hst) hls) (z_tl hst) hR hc hs
theorem g_lstore_n {n : Fin 4} {x : Int} (C : zCx X y) (hd : decode (zmb y) pc = .ok (.lstore_n n, 1)) (hk : n.val + 1 < ls.length) (k : zG X y (pc + 1) ((ls.set n.val (1, x)).set (n.val + 1) (8, 0)) (st) R m) : zG X y pc ls ((1, x) :: st) R m := by
  obtain ⟨p, l, e, Rm, s, mi, args, below, meth, c, Q, ⟨B, b, adK, D, cy, L, xs⟩, Re, rr⟩ := X
  obtain ⟨hx, hb, hml, hown, hts, hSt, hfr, hlo, hinit, hrc, hrs⟩ := C
  intro H LS locs cells slots hJ hl hls hst hR hc hs
  show W p l e Rm s mi args below meth c H locs cells slots Q (F0 mi pc LS (.long (Int64.ofInt x) :: st.map (zval B adK b)))
  have hlen := hl.2.1
  refine lv_lstore_n hx hb hd rfl (zlv_has hl) (by omega) rfl (fun LS' hl' => ?_)
  exact k H LS' locs cells slots hJ (zlh_set2 (x := x) hl (by omega) hl') (z_lst _ trivial (z_lst _ (z_hd hst) hls)) (z_tl hst) hR hc hs
theorem g_lstore {n : Nat} {x : Int} (C : zCx X y) (hd : decode (zmb y) pc = .ok (.lstore n, 2)) (hk : n + 1 < ls.length) (k : zG X y (pc + 2) ((ls.set n (1, x)).set (n + 1) (8, 0)) (st) R m) : zG X y pc ls ((1, x) :: st) R m := by
  obtain ⟨p, l, e, Rm, s, mi, args, below, meth, c, Q, ⟨B, b, adK, D, cy, L, xs⟩, Re, rr⟩ := X
  obtain ⟨hx, hb, hml, hown, hts, hSt, hfr, hlo, hinit, hrc, hrs⟩ := C
  intro H LS locs cells slots hJ hl hls hst hR hc hs
  show W p l e Rm s mi args below meth c H locs cells slots Q (F0 mi pc LS (.long (Int64.ofInt x) :: st.map (zval B adK b)))
  have hlen := hl.2.1
  refine lv_lstore hx hb hd (zlv_has hl) (by omega) rfl (fun LS' hl' => ?_)
  exact k H LS' locs cells slots hJ (zlh_set2 (x := x) hl (by omega) hl') (z_lst _ trivial (z_lst _ (z_hd hst) hls)) (z_tl hst) hR hc hs
theorem g_astore_n {n : Fin 4} {x : Int} (C : zCx X y) (hd : decode (zmb y) pc = .ok (.astore_n n, 1)) (hk : n.val < ls.length) (k : zG X y (pc + 1) (ls.set n.val (2, x)) (st) R m) : zG X y pc ls ((2, x) :: st) R m := by
  obtain ⟨p, l, e, Rm, s, mi, args, below, meth, c, Q, ⟨B, b, adK, D, cy, L, xs⟩, Re, rr⟩ := X
  obtain ⟨hx, hb, hml, hown, hts, hSt, hfr, hlo, hinit, hrc, hrs⟩ := C
  intro H LS locs cells slots hJ hl hls hst hR hc hs
  show W p l e Rm s mi args below meth c H locs cells slots Q (F0 mi pc LS (zval B adK b (2, x) :: st.map (zval B adK b)))
  have hlen := hl.2.1
  have hk' := fun (LS' : Array Slot) (hl' : lv_has LS' (zml y) ((n.val, zval B adK b (2, x)) :: (zlv B adK b ls).filter (fun q => !(q.1 == n.val) && !(q.1 + 1 == n.val && q.2.category == 2)))) => k H LS' locs cells slots hJ (zlh_set1 (v := (2, x)) hl (by omega) (Or.inr (Or.inl rfl)) hl') (z_lst _ (z_hd hst) hls) (z_tl hst) hR hc hs
  by_cases hz : x ≤ 0
  · have e : zval B adK b (2, x) = .null := by simp [zval, hz]
    rw [e] at hk' ⊢
    exact lv_astore_nN hx hb hd rfl (zlv_has hl) (by omega) rfl hk'
  · have e : zval B adK b (2, x) = .ref (B + (x - 1).toNat) := by simp [zval, hz]
    rw [e] at hk' ⊢
    exact lv_astore_n hx hb hd rfl (zlv_has hl) (by omega) rfl hk'
theorem g_astore {n : Nat} {x : Int} (C : zCx X y) (hd : decode (zmb y) pc = .ok (.astore n, 2)) (hk : n < ls.length) (k : zG X y (pc + 2) (ls.set n (2, x)) (st) R m) : zG X y pc ls ((2, x) :: st) R m := by
  obtain ⟨p, l, e, Rm, s, mi, args, below, meth, c, Q, ⟨B, b, adK, D, cy, L, xs⟩, Re, rr⟩ := X
  obtain ⟨hx, hb, hml, hown, hts, hSt, hfr, hlo, hinit, hrc, hrs⟩ := C
  intro H LS locs cells slots hJ hl hls hst hR hc hs
  show W p l e Rm s mi args below meth c H locs cells slots Q (F0 mi pc LS (zval B adK b (2, x) :: st.map (zval B adK b)))
  have hlen := hl.2.1
  have hk' := fun (LS' : Array Slot) (hl' : lv_has LS' (zml y) ((n, zval B adK b (2, x)) :: (zlv B adK b ls).filter (fun q => !(q.1 == n) && !(q.1 + 1 == n && q.2.category == 2)))) => k H LS' locs cells slots hJ (zlh_set1 (v := (2, x)) hl (by omega) (Or.inr (Or.inl rfl)) hl') (z_lst _ (z_hd hst) hls) (z_tl hst) hR hc hs
  by_cases hz : x ≤ 0
  · have e : zval B adK b (2, x) = .null := by simp [zval, hz]
    rw [e] at hk' ⊢
    exact lv_astoreN hx hb hd (zlv_has hl) (by omega) rfl hk'
  · have e : zval B adK b (2, x) = .ref (B + (x - 1).toNat) := by simp [zval, hz]
    rw [e] at hk' ⊢
    exact lv_astore hx hb hd (zlv_has hl) (by omega) rfl hk'
theorem g_iinc {n : Nat} {d x : Int} (C : zCx X y) (hd : decode (zmb y) pc = .ok (.iinc n d, 3)) (hk : ls[n]? = some (0, x)) (k : zG X y (pc + 3) (ls.set n (0, zw (x + d))) (st) R m) : zG X y pc ls st R m := by
  obtain ⟨p, l, e, Rm, s, mi, args, below, meth, c, Q, ⟨B, b, adK, D, cy, L, xs⟩, Re, rr⟩ := X
  obtain ⟨hx, hb, hml, hown, hts, hSt, hfr, hlo, hinit, hrc, hrs⟩ := C
  intro H LS locs cells slots hJ hl hls hst hR hc hs
  show W p l e Rm s mi args below meth c H locs cells slots Q (F0 mi pc LS (st.map (zval B adK b)))
  have hlen := hl.2.1
  have hn : n < ls.length := (List.getElem?_eq_some_iff.mp hk).1
  obtain ⟨q, hq⟩ := List.getElem?_of_mem (zlv_mem (B := B) (adK := adK) (b := b) hk (Or.inl rfl))
  refine lv_iinc (v := Int32.ofInt (zw (x + d))) hx hb hd (zlv_has hl) hq (by rw [z_ofw, Int32.ofInt_add]) (by omega) rfl (fun LS' hl' => ?_)
  exact k H LS' locs cells slots hJ (zlh_set1 (v := (0, zw (x + d))) hl (by omega) (Or.inl rfl) hl') (z_lst _ (zw_in _) hls) hst hR hc hs
theorem g_dup0 {x : Int} (C : zCx X y) (hd : decode (zmb y) pc = .ok (.dup, 1)) (k : zG X y (pc + 1) ls ((0, x) :: (0, x) :: st) R m) : zG X y pc ls ((0, x) :: st) R m := by
  obtain ⟨p, l, e, Rm, s, mi, args, below, meth, c, Q, ⟨B, b, adK, D, cy, L, xs⟩, Re, rr⟩ := X
  obtain ⟨hx, hb, hml, hown, hts, hSt, hfr, hlo, hinit, hrc, hrs⟩ := C
  intro H LS locs cells slots hJ hl hls hst hR hc hs
  show W p l e Rm s mi args below meth c H locs cells slots Q (F0 mi pc LS (.int (Int32.ofInt x) :: st.map (zval B adK b)))
  refine lv_dup hx hb hd rfl ?_
  exact k H LS locs cells slots hJ hl hls (z_push (z_hd hst) hst) hR hc hs
theorem g_dup2r {x : Int} (C : zCx X y) (hd : decode (zmb y) pc = .ok (.dup, 1)) (k : zG X y (pc + 1) ls ((2, x) :: (2, x) :: st) R m) : zG X y pc ls ((2, x) :: st) R m := by
  obtain ⟨p, l, e, Rm, s, mi, args, below, meth, c, Q, ⟨B, b, adK, D, cy, L, xs⟩, Re, rr⟩ := X
  obtain ⟨hx, hb, hml, hown, hts, hSt, hfr, hlo, hinit, hrc, hrs⟩ := C
  intro H LS locs cells slots hJ hl hls hst hR hc hs
  show W p l e Rm s mi args below meth c H locs cells slots Q (F0 mi pc LS (zval B adK b (2, x) :: st.map (zval B adK b)))
  refine lv_dup hx hb hd (by unfold zval; simp only; split <;> rfl) ?_
  exact k H LS locs cells slots hJ hl hls (z_push (z_hd hst) hst) hR hc hs
theorem g_dup2 {x a : Int} (C : zCx X y) (hd : decode (zmb y) pc = .ok (.dup2, 1)) (k : zG X y (pc + 1) ls ((0, x) :: (2, a) :: (0, x) :: (2, a) :: st) R m) : zG X y pc ls ((0, x) :: (2, a) :: st) R m := by
  obtain ⟨p, l, e, Rm, s, mi, args, below, meth, c, Q, ⟨B, b, adK, D, cy, L, xs⟩, Re, rr⟩ := X
  obtain ⟨hx, hb, hml, hown, hts, hSt, hfr, hlo, hinit, hrc, hrs⟩ := C
  intro H LS locs cells slots hJ hl hls hst hR hc hs
  show W p l e Rm s mi args below meth c H locs cells slots Q (F0 mi pc LS (.int (Int32.ofInt x) :: zval B adK b (2, a) :: st.map (zval B adK b)))
  refine lv_dup2_11 hx hb hd rfl (by unfold zval; simp only; split <;> rfl) ?_
  exact k H LS locs cells slots hJ hl hls (z_push (z_hd hst) (z_push (z_hd (z_tl hst)) hst)) hR hc hs
theorem g_pop0 {x : Int} (C : zCx X y) (hd : decode (zmb y) pc = .ok (.pop, 1)) (k : zG X y (pc + 1) ls (st) R m) : zG X y pc ls ((0, x) :: st) R m := by
  obtain ⟨p, l, e, Rm, s, mi, args, below, meth, c, Q, ⟨B, b, adK, D, cy, L, xs⟩, Re, rr⟩ := X
  obtain ⟨hx, hb, hml, hown, hts, hSt, hfr, hlo, hinit, hrc, hrs⟩ := C
  intro H LS locs cells slots hJ hl hls hst hR hc hs
  show W p l e Rm s mi args below meth c H locs cells slots Q (F0 mi pc LS (.int (Int32.ofInt x) :: st.map (zval B adK b)))
  refine lv_pop hx hb hd rfl ?_
  exact k H LS locs cells slots hJ hl hls (z_tl hst) hR hc hs
theorem g_pop2 {x : Int} (C : zCx X y) (hd : decode (zmb y) pc = .ok (.pop, 1)) (k : zG X y (pc + 1) ls (st) R m) : zG X y pc ls ((2, x) :: st) R m := by
  obtain ⟨p, l, e, Rm, s, mi, args, below, meth, c, Q, ⟨B, b, adK, D, cy, L, xs⟩, Re, rr⟩ := X
  obtain ⟨hx, hb, hml, hown, hts, hSt, hfr, hlo, hinit, hrc, hrs⟩ := C
  intro H LS locs cells slots hJ hl hls hst hR hc hs
  show W p l e Rm s mi args below meth c H locs cells slots Q (F0 mi pc LS (zval B adK b (2, x) :: st.map (zval B adK b)))
  refine lv_pop hx hb hd (by unfold zval; simp only; split <;> rfl) ?_
  exact k H LS locs cells slots hJ hl hls (z_tl hst) hR hc hs
theorem g_iadd {x1 x2 : Int} (C : zCx X y) (hd : decode (zmb y) pc = .ok (.iadd, 1)) (k : zG X y (pc + 1) ls ((0, zw (x1 + x2)) :: st) R m) : zG X y pc ls ((0, x2) :: (0, x1) :: st) R m := by
  obtain ⟨p, l, e, Rm, s, mi, args, below, meth, c, Q, ⟨B, b, adK, D, cy, L, xs⟩, Re, rr⟩ := X
  obtain ⟨hx, hb, hml, hown, hts, hSt, hfr, hlo, hinit, hrc, hrs⟩ := C
  intro H LS locs cells slots hJ hl hls hst hR hc hs
  show W p l e Rm s mi args below meth c H locs cells slots Q (F0 mi pc LS (.int (Int32.ofInt x2) :: .int (Int32.ofInt x1) :: st.map (zval B adK b)))
  refine lv_iadd hx hb hd ?_
  rw [z_add]
  exact k H LS locs cells slots hJ hl hls (z_push (zw_in _) (z_tl (z_tl hst))) hR hc hs
theorem g_isub {x1 x2 : Int} (C : zCx X y) (hd : decode (zmb y) pc = .ok (.isub, 1)) (k : zG X y (pc + 1) ls ((0, zw (x1 - x2)) :: st) R m) : zG X y pc ls ((0, x2) :: (0, x1) :: st) R m := by
  obtain ⟨p, l, e, Rm, s, mi, args, below, meth, c, Q, ⟨B, b, adK, D, cy, L, xs⟩, Re, rr⟩ := X
  obtain ⟨hx, hb, hml, hown, hts, hSt, hfr, hlo, hinit, hrc, hrs⟩ := C
  intro H LS locs cells slots hJ hl hls hst hR hc hs
  show W p l e Rm s mi args below meth c H locs cells slots Q (F0 mi pc LS (.int (Int32.ofInt x2) :: .int (Int32.ofInt x1) :: st.map (zval B adK b)))
  refine lv_isub hx hb hd ?_
  rw [z_sub]
  exact k H LS locs cells slots hJ hl hls (z_push (zw_in _) (z_tl (z_tl hst))) hR hc hs
theorem g_imul {x1 x2 : Int} (C : zCx X y) (hd : decode (zmb y) pc = .ok (.imul, 1)) (k : zG X y (pc + 1) ls ((0, zw (x1 * x2)) :: st) R m) : zG X y pc ls ((0, x2) :: (0, x1) :: st) R m := by
  obtain ⟨p, l, e, Rm, s, mi, args, below, meth, c, Q, ⟨B, b, adK, D, cy, L, xs⟩, Re, rr⟩ := X
  obtain ⟨hx, hb, hml, hown, hts, hSt, hfr, hlo, hinit, hrc, hrs⟩ := C
  intro H LS locs cells slots hJ hl hls hst hR hc hs
  show W p l e Rm s mi args below meth c H locs cells slots Q (F0 mi pc LS (.int (Int32.ofInt x2) :: .int (Int32.ofInt x1) :: st.map (zval B adK b)))
  refine lv_imul hx hb hd ?_
  rw [z_mul]
  exact k H LS locs cells slots hJ hl hls (z_push (zw_in _) (z_tl (z_tl hst))) hR hc hs
theorem g_iand {x1 x2 : Int} (C : zCx X y) (hd : decode (zmb y) pc = .ok (.iand, 1)) (k : zG X y (pc + 1) ls ((0, z32 (· &&& ·) x1 x2) :: st) R m) : zG X y pc ls ((0, x2) :: (0, x1) :: st) R m := by
  obtain ⟨p, l, e, Rm, s, mi, args, below, meth, c, Q, ⟨B, b, adK, D, cy, L, xs⟩, Re, rr⟩ := X
  obtain ⟨hx, hb, hml, hown, hts, hSt, hfr, hlo, hinit, hrc, hrs⟩ := C
  intro H LS locs cells slots hJ hl hls hst hR hc hs
  show W p l e Rm s mi args below meth c H locs cells slots Q (F0 mi pc LS (.int (Int32.ofInt x2) :: .int (Int32.ofInt x1) :: st.map (zval B adK b)))
  refine lv_iand hx hb hd ?_
  have e := z_32 (· &&& ·) x1 x2
  try simp only at e
  rw [e]
  exact k H LS locs cells slots hJ hl hls (z_push (z_rng _) (z_tl (z_tl hst))) hR hc hs
theorem g_ior {x1 x2 : Int} (C : zCx X y) (hd : decode (zmb y) pc = .ok (.ior, 1)) (k : zG X y (pc + 1) ls ((0, z32 (· ||| ·) x1 x2) :: st) R m) : zG X y pc ls ((0, x2) :: (0, x1) :: st) R m := by
  obtain ⟨p, l, e, Rm, s, mi, args, below, meth, c, Q, ⟨B, b, adK, D, cy, L, xs⟩, Re, rr⟩ := X
  obtain ⟨hx, hb, hml, hown, hts, hSt, hfr, hlo, hinit, hrc, hrs⟩ := C
  intro H LS locs cells slots hJ hl hls hst hR hc hs
  show W p l e Rm s mi args below meth c H locs cells slots Q (F0 mi pc LS (.int (Int32.ofInt x2) :: .int (Int32.ofInt x1) :: st.map (zval B adK b)))
  refine lv_ior hx hb hd ?_
  have e := z_32 (· ||| ·) x1 x2
  try simp only at e
  rw [e]
  exact k H LS locs cells slots hJ hl hls (z_push (z_rng _) (z_tl (z_tl hst))) hR hc hs
theorem g_ixor {x1 x2 : Int} (C : zCx X y) (hd : decode (zmb y) pc = .ok (.ixor, 1)) (k : zG X y (pc + 1) ls ((0, z32 (· ^^^ ·) x1 x2) :: st) R m) : zG X y pc ls ((0, x2) :: (0, x1) :: st) R m := by
  obtain ⟨p, l, e, Rm, s, mi, args, below, meth, c, Q, ⟨B, b, adK, D, cy, L, xs⟩, Re, rr⟩ := X
  obtain ⟨hx, hb, hml, hown, hts, hSt, hfr, hlo, hinit, hrc, hrs⟩ := C
  intro H LS locs cells slots hJ hl hls hst hR hc hs
  show W p l e Rm s mi args below meth c H locs cells slots Q (F0 mi pc LS (.int (Int32.ofInt x2) :: .int (Int32.ofInt x1) :: st.map (zval B adK b)))
  refine lv_ixor hx hb hd ?_
  have e := z_32 (· ^^^ ·) x1 x2
  try simp only at e
  rw [e]
  exact k H LS locs cells slots hJ hl hls (z_push (z_rng _) (z_tl (z_tl hst))) hR hc hs
theorem g_ishl {x1 x2 : Int} (C : zCx X y) (hd : decode (zmb y) pc = .ok (.ishl, 1)) (k : zG X y (pc + 1) ls ((0, z32 (fun x y => x <<< (y &&& 31)) x1 x2) :: st) R m) : zG X y pc ls ((0, x2) :: (0, x1) :: st) R m := by
  obtain ⟨p, l, e, Rm, s, mi, args, below, meth, c, Q, ⟨B, b, adK, D, cy, L, xs⟩, Re, rr⟩ := X
  obtain ⟨hx, hb, hml, hown, hts, hSt, hfr, hlo, hinit, hrc, hrs⟩ := C
  intro H LS locs cells slots hJ hl hls hst hR hc hs
  show W p l e Rm s mi args below meth c H locs cells slots Q (F0 mi pc LS (.int (Int32.ofInt x2) :: .int (Int32.ofInt x1) :: st.map (zval B adK b)))
  refine lv_ishl hx hb hd ?_
  have e := z_32 (fun x y => x <<< (y &&& 31)) x1 x2
  try simp only at e
  rw [e]
  exact k H LS locs cells slots hJ hl hls (z_push (z_rng _) (z_tl (z_tl hst))) hR hc hs
theorem g_ishr {x1 x2 : Int} (C : zCx X y) (hd : decode (zmb y) pc = .ok (.ishr, 1)) (k : zG X y (pc + 1) ls ((0, z32 (fun x y => x >>> (y &&& 31)) x1 x2) :: st) R m) : zG X y pc ls ((0, x2) :: (0, x1) :: st) R m := by
  obtain ⟨p, l, e, Rm, s, mi, args, below, meth, c, Q, ⟨B, b, adK, D, cy, L, xs⟩, Re, rr⟩ := X
  obtain ⟨hx, hb, hml, hown, hts, hSt, hfr, hlo, hinit, hrc, hrs⟩ := C
  intro H LS locs cells slots hJ hl hls hst hR hc hs
  show W p l e Rm s mi args below meth c H locs cells slots Q (F0 mi pc LS (.int (Int32.ofInt x2) :: .int (Int32.ofInt x1) :: st.map (zval B adK b)))
  refine lv_ishr hx hb hd ?_
  have e := z_32 (fun x y => x >>> (y &&& 31)) x1 x2
  try simp only at e
  rw [e]
  exact k H LS locs cells slots hJ hl hls (z_push (z_rng _) (z_tl (z_tl hst))) hR hc hs
theorem g_idiv {x1 x2 : Int} (C : zCx X y) (hd : decode (zmb y) pc = .ok (.idiv, 1)) (h0 : ¬ x2 = 0) (k : zG X y (pc + 1) ls ((0, z32 (· / ·) x1 x2) :: st) R m) : zG X y pc ls ((0, x2) :: (0, x1) :: st) R m := by
  obtain ⟨p, l, e, Rm, s, mi, args, below, meth, c, Q, ⟨B, b, adK, D, cy, L, xs⟩, Re, rr⟩ := X
  obtain ⟨hx, hb, hml, hown, hts, hSt, hfr, hlo, hinit, hrc, hrs⟩ := C
  intro H LS locs cells slots hJ hl hls hst hR hc hs
  show W p l e Rm s mi args below meth c H locs cells slots Q (F0 mi pc LS (.int (Int32.ofInt x2) :: .int (Int32.ofInt x1) :: st.map (zval B adK b)))
  have h2 : zi32 x2 := z_hd hst
  refine lv_idiv hx hb hd (fun h => h0 ((z_inj h2 z_0).mp h)) ?_
  have e := z_32 (· / ·) x1 x2
  try simp only at e
  rw [e]
  exact k H LS locs cells slots hJ hl hls (z_push (z_rng _) (z_tl (z_tl hst))) hR hc hs
theorem g_irem {x1 x2 : Int} (C : zCx X y) (hd : decode (zmb y) pc = .ok (.irem, 1)) (h0 : ¬ x2 = 0) (k : zG X y (pc + 1) ls ((0, z32 (fun x y => x - x / y * y) x1 x2) :: st) R m) : zG X y pc ls ((0, x2) :: (0, x1) :: st) R m := by
  obtain ⟨p, l, e, Rm, s, mi, args, below, meth, c, Q, ⟨B, b, adK, D, cy, L, xs⟩, Re, rr⟩ := X
  obtain ⟨hx, hb, hml, hown, hts, hSt, hfr, hlo, hinit, hrc, hrs⟩ := C
  intro H LS locs cells slots hJ hl hls hst hR hc hs
  show W p l e Rm s mi args below meth c H locs cells slots Q (F0 mi pc LS (.int (Int32.ofInt x2) :: .int (Int32.ofInt x1) :: st.map (zval B adK b)))
  have h2 : zi32 x2 := z_hd hst
  refine lv_irem hx hb hd (fun h => h0 ((z_inj h2 z_0).mp h)) ?_
  have e := z_32 (fun x y => x - x / y * y) x1 x2
  try simp only at e
  rw [e]
  exact k H LS locs cells slots hJ hl hls (z_push (z_rng _) (z_tl (z_tl hst))) hR hc hs
theorem g_ineg {x1 : Int} (C : zCx X y) (hd : decode (zmb y) pc = .ok (.ineg, 1)) (k : zG X y (pc + 1) ls ((0, zw (-x1)) :: st) R m) : zG X y pc ls ((0, x1) :: st) R m := by
  obtain ⟨p, l, e, Rm, s, mi, args, below, meth, c, Q, ⟨B, b, adK, D, cy, L, xs⟩, Re, rr⟩ := X
  obtain ⟨hx, hb, hml, hown, hts, hSt, hfr, hlo, hinit, hrc, hrs⟩ := C
  intro H LS locs cells slots hJ hl hls hst hR hc hs
  show W p l e Rm s mi args below meth c H locs cells slots Q (F0 mi pc LS (.int (Int32.ofInt x1) :: st.map (zval B adK b)))
  refine lv_ineg hx hb hd ?_
  have e := z_neg x1
  first | rw [e] | (rw [show (0 : Int32) - Int32.ofInt x1 = -Int32.ofInt x1 by simp, e])
  exact k H LS locs cells slots hJ hl hls (z_push (zw_in _) (z_tl hst)) hR hc hs
theorem g_ladd {x1 x2 : Int} (C : zCx X y) (hd : decode (zmb y) pc = .ok (.ladd, 1)) (k : zG X y (pc + 1) ls ((1, z64 (· + ·) x1 x2) :: st) R m) : zG X y pc ls ((1, x2) :: (1, x1) :: st) R m := by
  obtain ⟨p, l, e, Rm, s, mi, args, below, meth, c, Q, ⟨B, b, adK, D, cy, L, xs⟩, Re, rr⟩ := X
  obtain ⟨hx, hb, hml, hown, hts, hSt, hfr, hlo, hinit, hrc, hrs⟩ := C
  intro H LS locs cells slots hJ hl hls hst hR hc hs
  show W p l e Rm s mi args below meth c H locs cells slots Q (F0 mi pc LS (.long (Int64.ofInt x2) :: .long (Int64.ofInt x1) :: st.map (zval B adK b)))
  refine lv_ladd hx hb hd ?_
  have e := z_64 (· + ·) x1 x2
  try simp only at e
  rw [e]
  exact k H LS locs cells slots hJ hl hls (z_push (z_rng64 _) (z_tl (z_tl hst))) hR hc hs
theorem g_lsub {x1 x2 : Int} (C : zCx X y) (hd : decode (zmb y) pc = .ok (.lsub, 1)) (k : zG X y (pc + 1) ls ((1, z64 (· - ·) x1 x2) :: st) R m) : zG X y pc ls ((1, x2) :: (1, x1) :: st) R m := by
  obtain ⟨p, l, e, Rm, s, mi, args, below, meth, c, Q, ⟨B, b, adK, D, cy, L, xs⟩, Re, rr⟩ := X
  obtain ⟨hx, hb, hml, hown, hts, hSt, hfr, hlo, hinit, hrc, hrs⟩ := C
  intro H LS locs cells slots hJ hl hls hst hR hc hs
  show W p l e Rm s mi args below meth c H locs cells slots Q (F0 mi pc LS (.long (Int64.ofInt x2) :: .long (Int64.ofInt x1) :: st.map (zval B adK b)))
  refine lv_lsub hx hb hd ?_
  have e := z_64 (· - ·) x1 x2
  try simp only at e
  rw [e]
  exact k H LS locs cells slots hJ hl hls (z_push (z_rng64 _) (z_tl (z_tl hst))) hR hc hs
theorem g_land {x1 x2 : Int} (C : zCx X y) (hd : decode (zmb y) pc = .ok (.land, 1)) (k : zG X y (pc + 1) ls ((1, z64 (· &&& ·) x1 x2) :: st) R m) : zG X y pc ls ((1, x2) :: (1, x1) :: st) R m := by
  obtain ⟨p, l, e, Rm, s, mi, args, below, meth, c, Q, ⟨B, b, adK, D, cy, L, xs⟩, Re, rr⟩ := X
  obtain ⟨hx, hb, hml, hown, hts, hSt, hfr, hlo, hinit, hrc, hrs⟩ := C
  intro H LS locs cells slots hJ hl hls hst hR hc hs
  show W p l e Rm s mi args below meth c H locs cells slots Q (F0 mi pc LS (.long (Int64.ofInt x2) :: .long (Int64.ofInt x1) :: st.map (zval B adK b)))
  refine lv_land hx hb hd ?_
  have e := z_64 (· &&& ·) x1 x2
  try simp only at e
  rw [e]
  exact k H LS locs cells slots hJ hl hls (z_push (z_rng64 _) (z_tl (z_tl hst))) hR hc hs
theorem g_lor {x1 x2 : Int} (C : zCx X y) (hd : decode (zmb y) pc = .ok (.lor, 1)) (k : zG X y (pc + 1) ls ((1, z64 (· ||| ·) x1 x2) :: st) R m) : zG X y pc ls ((1, x2) :: (1, x1) :: st) R m := by
  obtain ⟨p, l, e, Rm, s, mi, args, below, meth, c, Q, ⟨B, b, adK, D, cy, L, xs⟩, Re, rr⟩ := X
  obtain ⟨hx, hb, hml, hown, hts, hSt, hfr, hlo, hinit, hrc, hrs⟩ := C
  intro H LS locs cells slots hJ hl hls hst hR hc hs
  show W p l e Rm s mi args below meth c H locs cells slots Q (F0 mi pc LS (.long (Int64.ofInt x2) :: .long (Int64.ofInt x1) :: st.map (zval B adK b)))
  refine lv_lor hx hb hd ?_
  have e := z_64 (· ||| ·) x1 x2
  try simp only at e
  rw [e]
  exact k H LS locs cells slots hJ hl hls (z_push (z_rng64 _) (z_tl (z_tl hst))) hR hc hs
theorem g_lxor {x1 x2 : Int} (C : zCx X y) (hd : decode (zmb y) pc = .ok (.lxor, 1)) (k : zG X y (pc + 1) ls ((1, z64 (· ^^^ ·) x1 x2) :: st) R m) : zG X y pc ls ((1, x2) :: (1, x1) :: st) R m := by
  obtain ⟨p, l, e, Rm, s, mi, args, below, meth, c, Q, ⟨B, b, adK, D, cy, L, xs⟩, Re, rr⟩ := X
  obtain ⟨hx, hb, hml, hown, hts, hSt, hfr, hlo, hinit, hrc, hrs⟩ := C
  intro H LS locs cells slots hJ hl hls hst hR hc hs
  show W p l e Rm s mi args below meth c H locs cells slots Q (F0 mi pc LS (.long (Int64.ofInt x2) :: .long (Int64.ofInt x1) :: st.map (zval B adK b)))
  refine lv_lxor hx hb hd ?_
  have e := z_64 (· ^^^ ·) x1 x2
  try simp only at e
  rw [e]
  exact k H LS locs cells slots hJ hl hls (z_push (z_rng64 _) (z_tl (z_tl hst))) hR hc hs
theorem g_lshl {x1 x2 : Int} (C : zCx X y) (hd : decode (zmb y) pc = .ok (.lshl, 1)) (k : zG X y (pc + 1) ls ((1, z6s (fun x y => x <<< (y.toInt64 &&& 63)) x1 x2) :: st) R m) : zG X y pc ls ((0, x2) :: (1, x1) :: st) R m := by
  obtain ⟨p, l, e, Rm, s, mi, args, below, meth, c, Q, ⟨B, b, adK, D, cy, L, xs⟩, Re, rr⟩ := X
  obtain ⟨hx, hb, hml, hown, hts, hSt, hfr, hlo, hinit, hrc, hrs⟩ := C
  intro H LS locs cells slots hJ hl hls hst hR hc hs
  show W p l e Rm s mi args below meth c H locs cells slots Q (F0 mi pc LS (.int (Int32.ofInt x2) :: .long (Int64.ofInt x1) :: st.map (zval B adK b)))
  refine lv_lshl (v := Int64.ofInt (z6s (fun x y => x <<< (y.toInt64 &&& 63)) x1 x2)) hx hb hd (z_6s (fun x y => x <<< (y.toInt64 &&& 63)) x1 x2) ?_
  exact k H LS locs cells slots hJ hl hls (z_push (z_rng64 _) (z_tl (z_tl hst))) hR hc hs
theorem g_lshr {x1 x2 : Int} (C : zCx X y) (hd : decode (zmb y) pc = .ok (.lshr, 1)) (k : zG X y (pc + 1) ls ((1, z6s (fun x y => x >>> (y.toInt64 &&& 63)) x1 x2) :: st) R m) : zG X y pc ls ((0, x2) :: (1, x1) :: st) R m := by
  obtain ⟨p, l, e, Rm, s, mi, args, below, meth, c, Q, ⟨B, b, adK, D, cy, L, xs⟩, Re, rr⟩ := X
  obtain ⟨hx, hb, hml, hown, hts, hSt, hfr, hlo, hinit, hrc, hrs⟩ := C
  intro H LS locs cells slots hJ hl hls hst hR hc hs
  show W p l e Rm s mi args below meth c H locs cells slots Q (F0 mi pc LS (.int (Int32.ofInt x2) :: .long (Int64.ofInt x1) :: st.map (zval B adK b)))
  refine lv_lshr (v := Int64.ofInt (z6s (fun x y => x >>> (y.toInt64 &&& 63)) x1 x2)) hx hb hd (z_6s (fun x y => x >>> (y.toInt64 &&& 63)) x1 x2) ?_
  exact k H LS locs cells slots hJ hl hls (z_push (z_rng64 _) (z_tl (z_tl hst))) hR hc hs
theorem g_lushr {x1 x2 : Int} (C : zCx X y) (hd : decode (zmb y) pc = .ok (.lushr, 1)) (k : zG X y (pc + 1) ls ((1, z6s (fun x y => (x.toUInt64 >>> (y.toInt64.toUInt64 &&& Int64.toUInt64 63)).toInt64) x1 x2) :: st) R m) : zG X y pc ls ((0, x2) :: (1, x1) :: st) R m := by
  obtain ⟨p, l, e, Rm, s, mi, args, below, meth, c, Q, ⟨B, b, adK, D, cy, L, xs⟩, Re, rr⟩ := X
  obtain ⟨hx, hb, hml, hown, hts, hSt, hfr, hlo, hinit, hrc, hrs⟩ := C
  intro H LS locs cells slots hJ hl hls hst hR hc hs
  show W p l e Rm s mi args below meth c H locs cells slots Q (F0 mi pc LS (.int (Int32.ofInt x2) :: .long (Int64.ofInt x1) :: st.map (zval B adK b)))
  refine lv_lushr (v := Int64.ofInt (z6s (fun x y => (x.toUInt64 >>> (y.toInt64.toUInt64 &&& Int64.toUInt64 63)).toInt64) x1 x2)) hx hb hd (z_6s (fun x y => (x.toUInt64 >>> (y.toInt64.toUInt64 &&& Int64.toUInt64 63)).toInt64) x1 x2) ?_
  exact k H LS locs cells slots hJ hl hls (z_push (z_rng64 _) (z_tl (z_tl hst))) hR hc hs
theorem g_lcmp {x1 x2 : Int} (C : zCx X y) (hd : decode (zmb y) pc = .ok (.lcmp, 1)) (k : zG X y (pc + 1) ls ((0, if x2 < x1 then 1 else if x1 = x2 then 0 else -1) :: st) R m) : zG X y pc ls ((1, x2) :: (1, x1) :: st) R m := by
  obtain ⟨p, l, e, Rm, s, mi, args, below, meth, c, Q, ⟨B, b, adK, D, cy, L, xs⟩, Re, rr⟩ := X
  obtain ⟨hx, hb, hml, hown, hts, hSt, hfr, hlo, hinit, hrc, hrs⟩ := C
  intro H LS locs cells slots hJ hl hls hst hR hc hs
  show W p l e Rm s mi args below meth c H locs cells slots Q (F0 mi pc LS (.long (Int64.ofInt x2) :: .long (Int64.ofInt x1) :: st.map (zval B adK b)))
  have h1 : zi64 x1 := z_hd (z_tl hst)
  have h2 : zi64 x2 := z_hd hst
  refine W.lcmp hx hb hd ?_
  have e : lg_cmp (Int64.ofInt x1) (Int64.ofInt x2) = Int32.ofInt (if x2 < x1 then 1 else if x1 = x2 then 0 else -1) := by
    unfold lg_cmp
    simp only [z_lt64 h2 h1, z_lt64 h1 h2, z_inj64 h1 h2]
    split
    · rfl
    · split
      · first | rfl | (split <;> first | rfl | omega)
      · first | rfl | (split <;> first | rfl | omega)
  rw [e]
  exact k H LS locs cells slots hJ hl hls (z_push (z_lc _ _) (z_tl (z_tl hst))) hR hc hs
theorem g_i2l {x1 : Int} (C : zCx X y) (hd : decode (zmb y) pc = .ok (.i2l, 1)) (k : zG X y (pc + 1) ls ((1, x1) :: st) R m) : zG X y pc ls ((0, x1) :: st) R m := by
  obtain ⟨p, l, e, Rm, s, mi, args, below, meth, c, Q, ⟨B, b, adK, D, cy, L, xs⟩, Re, rr⟩ := X
  obtain ⟨hx, hb, hml, hown, hts, hSt, hfr, hlo, hinit, hrc, hrs⟩ := C
  intro H LS locs cells slots hJ hl hls hst hR hc hs
  show W p l e Rm s mi args below meth c H locs cells slots Q (F0 mi pc LS (.int (Int32.ofInt x1) :: st.map (zval B adK b)))
  have h1 : zi32 x1 := z_hd hst
  have h6 : zi64 x1 := by unfold zi32 at h1; unfold zi64; omega
  refine lv_i2l (v := Int64.ofInt x1) hx hb hd ?_ ?_
  · apply Int64.toInt_inj.mp
    rw [Int32.toInt_toInt64, z_of h1, z_of64 h6]
  exact k H LS locs cells slots hJ hl hls (z_push h6 (z_tl hst)) hR hc hs
theorem g_l2i {x1 : Int} (C : zCx X y) (hd : decode (zmb y) pc = .ok (.l2i, 1)) (k : zG X y (pc + 1) ls ((0, zw x1) :: st) R m) : zG X y pc ls ((1, x1) :: st) R m := by
  obtain ⟨p, l, e, Rm, s, mi, args, below, meth, c, Q, ⟨B, b, adK, D, cy, L, xs⟩, Re, rr⟩ := X
  obtain ⟨hx, hb, hml, hown, hts, hSt, hfr, hlo, hinit, hrc, hrs⟩ := C
  intro H LS locs cells slots hJ hl hls hst hR hc hs
  show W p l e Rm s mi args below meth c H locs cells slots Q (F0 mi pc LS (.long (Int64.ofInt x1) :: st.map (zval B adK b)))
  refine lv_l2i (v := Int32.ofInt (zw x1)) hx hb hd ?_ ?_
  · rw [z_ofw]
    exact Int64.toInt32_ofInt
  exact k H LS locs cells slots hJ hl hls (z_push (zw_in _) (z_tl hst)) hR hc hs
theorem g_i2b {x1 : Int} (C : zCx X y) (hd : decode (zmb y) pc = .ok (.i2b, 1)) (k : zG X y (pc + 1) ls ((0, zi2b x1) :: st) R m) : zG X y pc ls ((0, x1) :: st) R m := by
  obtain ⟨p, l, e, Rm, s, mi, args, below, meth, c, Q, ⟨B, b, adK, D, cy, L, xs⟩, Re, rr⟩ := X
  obtain ⟨hx, hb, hml, hown, hts, hSt, hfr, hlo, hinit, hrc, hrs⟩ := C
  intro H LS locs cells slots hJ hl hls hst hR hc hs
  show W p l e Rm s mi args below meth c H locs cells slots Q (F0 mi pc LS (.int (Int32.ofInt x1) :: st.map (zval B adK b)))
  refine lv_i2b (v := Int32.ofInt (zi2b x1)) hx hb hd (by unfold zi2b; rw [z_back]) ?_
  exact k H LS locs cells slots hJ hl hls (z_push (z_rng _) (z_tl hst)) hR hc hs
theorem g_i2s {x1 : Int} (C : zCx X y) (hd : decode (zmb y) pc = .ok (.i2s, 1)) (k : zG X y (pc + 1) ls ((0, zi2s x1) :: st) R m) : zG X y pc ls ((0, x1) :: st) R m := by
  obtain ⟨p, l, e, Rm, s, mi, args, below, meth, c, Q, ⟨B, b, adK, D, cy, L, xs⟩, Re, rr⟩ := X
  obtain ⟨hx, hb, hml, hown, hts, hSt, hfr, hlo, hinit, hrc, hrs⟩ := C
  intro H LS locs cells slots hJ hl hls hst hR hc hs
  show W p l e Rm s mi args below meth c H locs cells slots Q (F0 mi pc LS (.int (Int32.ofInt x1) :: st.map (zval B adK b)))
  refine lv_i2s (v := Int32.ofInt (zi2s x1)) hx hb hd (by unfold zi2s; rw [z_back]) ?_
  exact k H LS locs cells slots hJ hl hls (z_push (z_rng _) (z_tl hst)) hR hc hs
theorem g_goto {off : Int} (C : zCx X y) (hd : decode (zmb y) pc = .ok (.goto off, 3)) (h0 : 0 ≤ (pc : Int) + off) (k : zG X y (((pc : Int) + off).toNat) ls (st) R m) : zG X y pc ls st R m := by
  obtain ⟨p, l, e, Rm, s, mi, args, below, meth, c, Q, ⟨B, b, adK, D, cy, L, xs⟩, Re, rr⟩ := X
  obtain ⟨hx, hb, hml, hown, hts, hSt, hfr, hlo, hinit, hrc, hrs⟩ := C
  intro H LS locs cells slots hJ hl hls hst hR hc hs
  show W p l e Rm s mi args below meth c H locs cells slots Q (F0 mi pc LS (st.map (zval B adK b)))
  refine lv_goto (tgt := ((pc : Int) + off).toNat) hx hb hd (by omega) ?_
  exact k H LS locs cells slots hJ hl hls hst hR hc hs
theorem g_icmp_eq {off x1 x2 : Int} (C : zCx X y) (hd : decode (zmb y) pc = .ok (.if_icmp .eq off, 3)) (h0 : 0 ≤ (pc : Int) + off) (k : x1 = x2 → zG X y ((pc : Int) + off).toNat ls st R m) (k2 : ¬ (x1 = x2) → zG X y (pc + 3) ls st R m) : zG X y pc ls ((0, x2) :: (0, x1) :: st) R m := by
  obtain ⟨p, l, e, Rm, s, mi, args, below, meth, c, Q, ⟨B, b, adK, D, cy, L, xs⟩, Re, rr⟩ := X
  obtain ⟨hx, hb, hml, hown, hts, hSt, hfr, hlo, hinit, hrc, hrs⟩ := C
  intro H LS locs cells slots hJ hl hls hst hR hc hs
  show W p l e Rm s mi args below meth c H locs cells slots Q (F0 mi pc LS (.int (Int32.ofInt x2) :: .int (Int32.ofInt x1) :: st.map (zval B adK b)))
  have h1 : zi32 x1 := z_hd (z_tl hst)
  have h2 : zi32 x2 := z_hd hst
  have hi := z_inj h1 h2
  by_cases hq : x1 = x2
  · refine lv_icmp_eq (tgt := ((pc : Int) + off).toNat) hx hb hd (by omega) (fun _ => ?_) (fun h => ?_)
    · exact k hq H LS locs cells slots hJ hl hls (z_tl (z_tl hst)) hR hc hs
    · exfalso
      first | exact h (hi.mpr hq) | exact hq ((z_inj h1 h2).mp h) | exact (h (fun z => hq ((z_inj h1 h2).mp z))) | (simp only [ge_iff_le, gt_iff_lt] at h; exact h (hi.mpr hq))
  · refine lv_icmp_eq (tgt := ((pc : Int) + off).toNat) hx hb hd (by omega) (fun h => ?_) (fun _ => ?_)
    · exfalso
      first | exact hq (hi.mp h) | (simp only [ge_iff_le, gt_iff_lt] at h; exact hq (hi.mp h))
    · exact k2 hq H LS locs cells slots hJ hl hls (z_tl (z_tl hst)) hR hc hs
theorem g_icmp_ne {off x1 x2 : Int} (C : zCx X y) (hd : decode (zmb y) pc = .ok (.if_icmp .ne off, 3)) (h0 : 0 ≤ (pc : Int) + off) (k : ¬ x1 = x2 → zG X y ((pc : Int) + off).toNat ls st R m) (k2 : ¬ (¬ x1 = x2) → zG X y (pc + 3) ls st R m) : zG X y pc ls ((0, x2) :: (0, x1) :: st) R m := by
  obtain ⟨p, l, e, Rm, s, mi, args, below, meth, c, Q, ⟨B, b, adK, D, cy, L, xs⟩, Re, rr⟩ := X
  obtain ⟨hx, hb, hml, hown, hts, hSt, hfr, hlo, hinit, hrc, hrs⟩ := C
  intro H LS locs cells slots hJ hl hls hst hR hc hs
  show W p l e Rm s mi args below meth c H locs cells slots Q (F0 mi pc LS (.int (Int32.ofInt x2) :: .int (Int32.ofInt x1) :: st.map (zval B adK b)))
  have h1 : zi32 x1 := z_hd (z_tl hst)
  have h2 : zi32 x2 := z_hd hst
  have hi := not_congr (z_inj h1 h2)
  by_cases hq : ¬ x1 = x2
  · refine lv_icmp_ne (tgt := ((pc : Int) + off).toNat) hx hb hd (by omega) (fun _ => ?_) (fun h => ?_)
    · exact k hq H LS locs cells slots hJ hl hls (z_tl (z_tl hst)) hR hc hs
    · exfalso
      first | exact h (hi.mpr hq) | exact hq ((z_inj h1 h2).mp h) | exact (h (fun z => hq ((z_inj h1 h2).mp z))) | (simp only [ge_iff_le, gt_iff_lt] at h; exact h (hi.mpr hq))
  · refine lv_icmp_ne (tgt := ((pc : Int) + off).toNat) hx hb hd (by omega) (fun h => ?_) (fun _ => ?_)
    · exfalso
      first | exact hq (hi.mp h) | (simp only [ge_iff_le, gt_iff_lt] at h; exact hq (hi.mp h))
    · exact k2 hq H LS locs cells slots hJ hl hls (z_tl (z_tl hst)) hR hc hs
theorem g_icmp_lt {off x1 x2 : Int} (C : zCx X y) (hd : decode (zmb y) pc = .ok (.if_icmp .lt off, 3)) (h0 : 0 ≤ (pc : Int) + off) (k : x1 < x2 → zG X y ((pc : Int) + off).toNat ls st R m) (k2 : ¬ (x1 < x2) → zG X y (pc + 3) ls st R m) : zG X y pc ls ((0, x2) :: (0, x1) :: st) R m := by
  obtain ⟨p, l, e, Rm, s, mi, args, below, meth, c, Q, ⟨B, b, adK, D, cy, L, xs⟩, Re, rr⟩ := X
  obtain ⟨hx, hb, hml, hown, hts, hSt, hfr, hlo, hinit, hrc, hrs⟩ := C
  intro H LS locs cells slots hJ hl hls hst hR hc hs
  show W p l e Rm s mi args below meth c H locs cells slots Q (F0 mi pc LS (.int (Int32.ofInt x2) :: .int (Int32.ofInt x1) :: st.map (zval B adK b)))
  have h1 : zi32 x1 := z_hd (z_tl hst)
  have h2 : zi32 x2 := z_hd hst
  have hi := z_lt h1 h2
  by_cases hq : x1 < x2
  · refine lv_icmp_lt (tgt := ((pc : Int) + off).toNat) hx hb hd (by omega) (fun _ => ?_) (fun h => ?_)
    · exact k hq H LS locs cells slots hJ hl hls (z_tl (z_tl hst)) hR hc hs
    · exfalso
      first | exact h (hi.mpr hq) | exact hq ((z_inj h1 h2).mp h) | exact (h (fun z => hq ((z_inj h1 h2).mp z))) | (simp only [ge_iff_le, gt_iff_lt] at h; exact h (hi.mpr hq))
  · refine lv_icmp_lt (tgt := ((pc : Int) + off).toNat) hx hb hd (by omega) (fun h => ?_) (fun _ => ?_)
    · exfalso
      first | exact hq (hi.mp h) | (simp only [ge_iff_le, gt_iff_lt] at h; exact hq (hi.mp h))
    · exact k2 hq H LS locs cells slots hJ hl hls (z_tl (z_tl hst)) hR hc hs
theorem g_icmp_ge {off x1 x2 : Int} (C : zCx X y) (hd : decode (zmb y) pc = .ok (.if_icmp .ge off, 3)) (h0 : 0 ≤ (pc : Int) + off) (k : x2 ≤ x1 → zG X y ((pc : Int) + off).toNat ls st R m) (k2 : ¬ (x2 ≤ x1) → zG X y (pc + 3) ls st R m) : zG X y pc ls ((0, x2) :: (0, x1) :: st) R m := by
  obtain ⟨p, l, e, Rm, s, mi, args, below, meth, c, Q, ⟨B, b, adK, D, cy, L, xs⟩, Re, rr⟩ := X
  obtain ⟨hx, hb, hml, hown, hts, hSt, hfr, hlo, hinit, hrc, hrs⟩ := C
  intro H LS locs cells slots hJ hl hls hst hR hc hs
  show W p l e Rm s mi args below meth c H locs cells slots Q (F0 mi pc LS (.int (Int32.ofInt x2) :: .int (Int32.ofInt x1) :: st.map (zval B adK b)))
  have h1 : zi32 x1 := z_hd (z_tl hst)
  have h2 : zi32 x2 := z_hd hst
  have hi := z_le h2 h1
  by_cases hq : x2 ≤ x1
  · refine lv_icmp_ge (tgt := ((pc : Int) + off).toNat) hx hb hd (by omega) (fun _ => ?_) (fun h => ?_)
    · exact k hq H LS locs cells slots hJ hl hls (z_tl (z_tl hst)) hR hc hs
    · exfalso
      first | exact h (hi.mpr hq) | exact hq ((z_inj h1 h2).mp h) | exact (h (fun z => hq ((z_inj h1 h2).mp z))) | (simp only [ge_iff_le, gt_iff_lt] at h; exact h (hi.mpr hq))
  · refine lv_icmp_ge (tgt := ((pc : Int) + off).toNat) hx hb hd (by omega) (fun h => ?_) (fun _ => ?_)
    · exfalso
      first | exact hq (hi.mp h) | (simp only [ge_iff_le, gt_iff_lt] at h; exact hq (hi.mp h))
    · exact k2 hq H LS locs cells slots hJ hl hls (z_tl (z_tl hst)) hR hc hs
theorem g_icmp_gt {off x1 x2 : Int} (C : zCx X y) (hd : decode (zmb y) pc = .ok (.if_icmp .gt off, 3)) (h0 : 0 ≤ (pc : Int) + off) (k : x2 < x1 → zG X y ((pc : Int) + off).toNat ls st R m) (k2 : ¬ (x2 < x1) → zG X y (pc + 3) ls st R m) : zG X y pc ls ((0, x2) :: (0, x1) :: st) R m := by
  obtain ⟨p, l, e, Rm, s, mi, args, below, meth, c, Q, ⟨B, b, adK, D, cy, L, xs⟩, Re, rr⟩ := X
  obtain ⟨hx, hb, hml, hown, hts, hSt, hfr, hlo, hinit, hrc, hrs⟩ := C
  intro H LS locs cells slots hJ hl hls hst hR hc hs
  show W p l e Rm s mi args below meth c H locs cells slots Q (F0 mi pc LS (.int (Int32.ofInt x2) :: .int (Int32.ofInt x1) :: st.map (zval B adK b)))
  have h1 : zi32 x1 := z_hd (z_tl hst)
  have h2 : zi32 x2 := z_hd hst
  have hi := z_lt h2 h1
  by_cases hq : x2 < x1
  · refine lv_icmp_gt (tgt := ((pc : Int) + off).toNat) hx hb hd (by omega) (fun _ => ?_) (fun h => ?_)
    · exact k hq H LS locs cells slots hJ hl hls (z_tl (z_tl hst)) hR hc hs
    · exfalso
      first | exact h (hi.mpr hq) | exact hq ((z_inj h1 h2).mp h) | exact (h (fun z => hq ((z_inj h1 h2).mp z))) | (simp only [ge_iff_le, gt_iff_lt] at h; exact h (hi.mpr hq))
  · refine lv_icmp_gt (tgt := ((pc : Int) + off).toNat) hx hb hd (by omega) (fun h => ?_) (fun _ => ?_)
    · exfalso
      first | exact hq (hi.mp h) | (simp only [ge_iff_le, gt_iff_lt] at h; exact hq (hi.mp h))
    · exact k2 hq H LS locs cells slots hJ hl hls (z_tl (z_tl hst)) hR hc hs
theorem g_icmp_le {off x1 x2 : Int} (C : zCx X y) (hd : decode (zmb y) pc = .ok (.if_icmp .le off, 3)) (h0 : 0 ≤ (pc : Int) + off) (k : x1 ≤ x2 → zG X y ((pc : Int) + off).toNat ls st R m) (k2 : ¬ (x1 ≤ x2) → zG X y (pc + 3) ls st R m) : zG X y pc ls ((0, x2) :: (0, x1) :: st) R m := by
  obtain ⟨p, l, e, Rm, s, mi, args, below, meth, c, Q, ⟨B, b, adK, D, cy, L, xs⟩, Re, rr⟩ := X
  obtain ⟨hx, hb, hml, hown, hts, hSt, hfr, hlo, hinit, hrc, hrs⟩ := C
  intro H LS locs cells slots hJ hl hls hst hR hc hs
  show W p l e Rm s mi args below meth c H locs cells slots Q (F0 mi pc LS (.int (Int32.ofInt x2) :: .int (Int32.ofInt x1) :: st.map (zval B adK b)))
  have h1 : zi32 x1 := z_hd (z_tl hst)
  have h2 : zi32 x2 := z_hd hst
  have hi := z_le h1 h2
  by_cases hq : x1 ≤ x2
  · refine lv_icmp_le (tgt := ((pc : Int) + off).toNat) hx hb hd (by omega) (fun _ => ?_) (fun h => ?_)
    · exact k hq H LS locs cells slots hJ hl hls (z_tl (z_tl hst)) hR hc hs
    · exfalso
      first | exact h (hi.mpr hq) | exact hq ((z_inj h1 h2).mp h) | exact (h (fun z => hq ((z_inj h1 h2).mp z))) | (simp only [ge_iff_le, gt_iff_lt] at h; exact h (hi.mpr hq))
  · refine lv_icmp_le (tgt := ((pc : Int) + off).toNat) hx hb hd (by omega) (fun h => ?_) (fun _ => ?_)
    · exfalso
      first | exact hq (hi.mp h) | (simp only [ge_iff_le, gt_iff_lt] at h; exact hq (hi.mp h))
    · exact k2 hq H LS locs cells slots hJ hl hls (z_tl (z_tl hst)) hR hc hs
end STEPS
