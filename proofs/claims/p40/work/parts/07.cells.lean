/-! new cells, rows of references, the JDK's small functions on numbers -/
set_option maxRecDepth 100000 in
theorem z_mabs : Cond.code Lib.Math.abs.name Lib.Math.abs.code 1 (some .int) ∈ zTB := z_mem (i := 107) rfl rfl
set_option maxRecDepth 100000 in
theorem z_mmin : Cond.code Lib.Math.min.name Lib.Math.min.code 2 (some .int) ∈ zTB := z_mem (i := 692) rfl rfl
set_option maxRecDepth 100000 in
theorem z_mmax : Cond.code Lib.Math.max.name Lib.Math.max.code 2 (some .int) ∈ zTB := z_mem (i := 720) rfl rfl
set_option maxRecDepth 100000 in
theorem z_mfdv : Cond.code ⟨"java/lang/Math", "floorDiv", "(II)I"⟩ prog_16_method_47_code 3 (some .int) ∈ zTB := z_mem (i := 717) rfl rfl
theorem z_acI : Cond.arrayClass .int ∈ zTB := z_mem (i := 145) (by decide +kernel) rfl
theorem z_acJ : Cond.arrayClass .long ∈ zTB := z_mem (i := 146) (by decide +kernel) rfl
set_option maxRecDepth 100000 in
theorem z_oin : Cond.code Lib.objectInit ⟨#[0xb1]⟩ 1 none ∈ zTB := z_mem (i := 67) rfl rfl
/-- how a link is held: its words -/
theorem zlink_ok {c idx k y' : Nat} (h : zlink c idx = some (k, y')) : ∃ e : (Nat × Nat) × (Nat × Nat) × List Nat, e.1 = (c, idx) ∧ e.2.1 = (k, y') ∧ zlkT e = true ∧ (∀ w ∈ zlw e, w ∈ lw_tbl) ∧ y' < 332 := by
  unfold zlink at h
  obtain ⟨q, hq, e⟩ := Option.map_eq_some_iff.mp h
  have h1 := List.find?_some hq
  have h2 := List.all_eq_true.mp z_links q (List.mem_of_find?_eq_some hq)
  simp only [Bool.and_eq_true, beq_iff_eq] at h1
  have h3 := h2
  simp only [zlkT, Bool.and_eq_true, decide_eq_true_eq] at h3
  exact ⟨q, by rw [← h1.1, ← h1.2], e, h2, z_places _ h3.2.symm, by rw [e] at h3; exact h3.1.2⟩
theorem z_catr (B : Nat) (adK : Nat → Nat) (b : Nat) (v : zV) : (zval B adK b v).category ≤ 2 := by rcases lv_cat (zval B adK b v) with h | h <;> omega
theorem z_cats (B : Nat) (adK : Nat → Nat) (b : Nat) (l : List zV) (h : l.length ≤ 4) : ((l.map (zval B adK b)).map fun v => v.category).sum ≤ 8 := by
  have key : ∀ l : List zV, ((l.map (zval B adK b)).map fun v => v.category).sum ≤ 2 * l.length := by
    intro l
    induction l with
    | nil => simp
    | cons v l ih =>
      have := z_catr B adK b v
      simp only [List.map_cons, List.sum_cons, List.length_cons]
      omega
  have := key l
  omega
theorem z_ite {c : Prop} [Decidable c] {a b : Int} (ha : zi32 a) (hb : zi32 b) : zi32 (if c then a else b) := by
  split
  · exact ha
  · exact hb
section CELLS
variable {X : zX} {y pc : Nat} {ls st : List zV} {R m : zM}
theorem g_alen {a : Int} (C : zCx X y) (hd : decode (zmb y) pc = .ok (.arraylength, 1)) (ha : KX R a = 20 ∨ KX R a = 21 ∨ KX R a = 23) (hLN : 0 ≤ LX R a ∧ LX R a < 2147483648) (k : zG X y (pc + 1) ls ((0, LX R a) :: st) R m) : zG X y pc ls ((2, a) :: st) R m := by
  obtain ⟨p, l, e, Rm, s, mi, args, below, meth, c, Q, ⟨B, b, adK, D, cy, L, xs⟩, Re, rr⟩ := X
  obtain ⟨hx, hb, hml, hown, hts, hSt, hfr, hlo, hinit, hrc, hrs⟩ := C
  intro H LS locs cells slots hJ hl hls hst hR hc hs
  show W p l e Rm s mi args below meth c H locs cells slots Q (F0 mi pc LS (zval B adK b (2, a) :: st.map (zval B adK b)))
  have h0 : 0 < a := KX_pos (R := R) (by omega)
  have h1 : 0 ≤ a ∧ a ≤ R 0 0 := z_hd hst
  obtain ⟨jP, jZ, jm, jS, jL, jX⟩ := id hJ
  have ez : zval B adK b (2, a) = .ref (B + (a - 1).toNat) := by
    have : ¬ a ≤ 0 := by omega
    simp [zval, this]
  rw [ez]
  have he := zws_lab B cy R m (n := (R 0 0).toNat) h0 (by omega)
  have hk := k H LS locs cells slots hJ hl hls (z_push (show zi32 (LX R a) by unfold zi32; omega) (z_tl hst)) hR hc hs
  have hk : W p l e Rm s mi args below meth c H locs cells slots Q (F0 mi (pc + 1) LS (.int (Int32.ofInt (LX R a)) :: st.map (zval B adK b))) := hk
  have hv : Int32.ofNat (LX R a).toNat = Int32.ofInt (LX R a) := by
    rw [← Int32.ofInt_eq_ofNat, Int.toNat_of_nonneg hLN.1]
  rcases ha with hk0 | hk0 | hk0
  · rw [zcell_i B cy R m hk0] at he
    exact va_alen hx hb hSt.1 jP _ 0 he rfl hv hd hk
  · rw [zcell_l B cy R m hk0] at he
    exact va_alen hx hb hSt.1 jP _ 1 he rfl hv hd hk
  · rw [zcell_q B cy R m hk0] at he
    exact va_alen hx hb hSt.1 jP _ 2 he rfl hv hd hk
theorem g_salen {a : Int} (C : zCx X y) (hd : decode (zmb y) pc = .ok (.arraylength, 1)) (k : zG X y (pc + 1) ls ((0, R 0 2) :: st) R m) : zG X y pc ls ((4, a) :: st) R m := by
  obtain ⟨p, l, e, Rm, s, mi, args, below, meth, c, Q, ⟨B, b, adK, D, cy, L, xs⟩, Re, rr⟩ := X
  obtain ⟨hx, hb, hml, hown, hts, hSt, hfr, hlo, hinit, hrc, hrs⟩ := C
  intro H LS locs cells slots hJ hl hls hst hR hc hs
  show W p l e Rm s mi args below meth c H locs cells slots Q (F0 mi pc LS (.ref b :: st.map (zval B adK b)))
  obtain ⟨jP, jZ, jm, jS, jL, jX⟩ := id hJ
  refine va_slen hx hb hSt.2.2.2.2.1 (Nat.lt_of_lt_of_le hSt.2.2.2.2.2.1 hSt.2.2.2.2.2.2) (Nat.not_le.mpr hSt.2.2.2.2.2.1) jS hd ?_
  rw [← Int32.ofInt_eq_ofNat, ← jL]
  exact k H LS locs cells slots hJ hl hls (z_push (v := (0, R 0 2)) (by show zi32 _; rw [jL]; have := jX.1; unfold zi32; omega) (z_tl hst)) hR hc hs
theorem g_aastore {a i x : Int} (C : zCx X y) (hd : decode (zmb y) pc = .ok (.aastore, 1)) (ha : KX R a = 23) (hi0 : 0 ≤ i) (hi1 : i < LX R a) (hx4 : KX R x = 4) (k : zG X y (pc + 1) ls st (zup R a i x) m) : zG X y pc ls ((2, x) :: (0, i) :: (2, a) :: st) R m := by
  obtain ⟨p, l, e, Rm, s, mi, args, below, meth, c, Q, ⟨B, b, adK, D, cy, L, xs⟩, Re, rr⟩ := X
  obtain ⟨hx, hb, hml, hown, hts, hSt, hfr, hlo, hinit, hrc, hrs⟩ := C
  intro H LS locs cells slots hJ hl hls hst hR hc hs
  show W p l e Rm s mi args below meth c H locs cells slots Q (F0 mi pc LS (zval B adK b (2, x) :: .int (Int32.ofInt i) :: zval B adK b (2, a) :: st.map (zval B adK b)))
  have h0 : 0 < a := KX_pos (R := R) (by omega)
  have hx0 : 0 < x := KX_pos (R := R) (by omega)
  have h1 : 0 ≤ a ∧ a ≤ R 0 0 := z_hd (z_tl (z_tl hst))
  have h3 : 0 ≤ x ∧ x ≤ R 0 0 := z_hd hst
  have hi : zi32 i := z_hd (z_tl hst)
  obtain ⟨jP, jZ, jm, jS, jL, jX⟩ := id hJ
  have ez : zval B adK b (2, a) = .ref (B + (a - 1).toNat) := by
    have : ¬ a ≤ 0 := by omega
    simp [zval, this]
  have ex : zval B adK b (2, x) = .ref (B + (x - 1).toNat) := by
    have : ¬ x ≤ 0 := by omega
    simp [zval, this]
  rw [ez, ex]
  have he := zws_lab B cy R m (n := (R 0 0).toNat) h0 (by omega)
  rw [zcell_q B cy R m ha] at he
  have hev := zws_lab B cy R m (n := (R 0 0).toNat) hx0 (by omega)
  rw [zcell_obj B cy R m (ci := 3) hx4 (by omega)] at hev
  obtain ⟨hvi, hci⟩ := z_idx hi0 hi1 hi
  have hlt : (Int32.ofInt i).toNatClampNeg < (LX R a).toNat := Nat.not_le.mp fun q => hvi (Or.inr q)
  have hi00 : ¬ Int32.ofInt i < 0 := fun q => hvi (Or.inl q)
  obtain ⟨r', hr', cellV, g1, g2, g3, -⟩ := jP _ _ hev
  have hcls := (hSt.1.1 3 (zcl 3) (z_cl 3 (by omega))).2
  obtain ⟨kA, comp, k1, k2, k3, -⟩ := (hSt.1.2 2 _ rfl).2
  have hcomp : comp = D.1 3 := Option.some.inj (k3.symm.trans hcls.1)
  subst hcomp
  obtain ⟨kC, hkC, -⟩ := hcls.2
  refine W.aast hx hb (jP _ _ he) (fun q h => by cases h) (fun h => by cases h) k1 k2 rfl hkC ⟨hi00, by show _ < (arrV _ _ _).slots.size; rw [arrV_size]; exact hlt⟩ g1 (fun q h => by rw [g3] at h; cases h) (by rw [g2]; exact hkC) (by rw [g2]; exact va_assign hcls) rfl rfl hd (fun H1 e1 hZ1 oq => ?_)
  have hcell : zcell B cy (zup R a i x) m a = .inl (cy.2.2.2, (LX R a).toNat, .inr (.inr (.inr (.inr (fun j => zopt B (zup R a i x a (j : Int))))))) := by
    rw [zcell_q B cy _ m (by rw [(KX_up h0 a).1]; exact ha), (KX_up h0 a).2]
  have hP1 := jP.set (zws_D B cy R m _) he (e := .inl (cy.2.2.2, (LX R a).toNat, .inr (.inr (.inr (.inr (fun j => zopt B (zup R a i x a (j : Int)))))))) (H1 := H1) (by
    show H1[_]? = some (vp_cell _ _)
    rw [e1]
    show some ((vp_cell _ _).setSlot _ _) = _
    rw [vp_cell_q, vp_cell_q, arrV_store]
    congr 2
    funext q
    rw [hci]
    by_cases hq : q = i.toNat
    · subst hq
      simp only [updV, if_true]
      unfold zup
      rw [if_pos ⟨rfl, Int.toNat_of_nonneg hi0⟩, z_rf B adK b, ex]
    · simp only [updV, if_neg hq]
      unfold zup
      rw [if_neg (by omega)]) oq
  have e00 : ∀ q, zup R a i x 0 q = R 0 q := fun q => by unfold zup; rw [if_neg (by omega)]
  rw [zws_set B cy (R := R) (m := m) (R' := zup R a i x) (m' := m) h0 (by omega) (fun c k hc hca => by unfold zup; rw [if_neg (fun h => hca h.1)]) (fun _ _ _ _ => rfl) (KX_up h0) hcell, ← e00 0] at hP1
  refine k H1 LS _ cells slots ⟨hP1, by rw [e00]; exact hZ1.trans jZ, ⟨by rw [e00]; exact jm.1, by rw [e00]; exact jm.2.1, fun c q h => jm.2.2.1 c q (by rw [← (KX_up (R := R) (j := i) (x := x) h0 c).1]; exact h), fun c q h => jm.2.2.2.1 c q (by rw [← (KX_up (R := R) (j := i) (x := x) h0 c).1]; exact h), ?_, fun q hq => by rw [e00]; exact jm.2.2.2.2.2 q hq⟩, jS.put hZ1 oq (Nat.le_add_right _ _), by rw [e00]; exact jL, jX.1, fun i hi => by rw [e00]; exact jX.2 i hi⟩ hl (z_okR (by rw [e00]; omega) hls) (z_okR (by rw [e00]; omega) (z_tl (z_tl (z_tl hst)))) (by rw [e00, e00]; exact hR) (by rw [e00]; exact hc) (by rw [e00]; exact hs)
  intro c q hcq
  rw [e00]
  unfold zup
  split
  · exact h3
  · exact jm.2.2.2.2.1 c q hcq
/-- the memories behind a new cell -/
theorem znR_0 (R : zM) (sz : Int) : znR R sz 0 0 = R 0 0 + 1 := by
  unfold znR zup znl
  rw [if_neg (by omega), if_pos ⟨rfl, rfl⟩]
theorem znR_1 (R : zM) (sz : Int) : znR R sz 0 1 = R 0 1 + sz := by
  unfold znR zup
  rw [if_pos ⟨rfl, rfl⟩]
theorem znR_q {R : zM} {sz q : Int} (h : 2 ≤ q) (h0 : 0 ≤ R 0 0) : znR R sz 0 q = R 0 q := by
  unfold znR zup zrow znl
  rw [if_neg (by omega), if_neg (by omega), if_neg (by omega)]
theorem znR_a {R : zM} {sz a q : Int} (h : 0 < a) : znR R sz a q = if a = R 0 0 + 1 then 0 else R a q := by
  unfold znR zup zrow znl
  rw [if_neg (by omega), if_neg (by omega)]
theorem znX_n (R : zM) (k sz : Int) {a q : Int} (h : a = -1 → False) (h2 : a = -2 → False) : znX R k sz a q = znR R sz a q := by
  unfold znX
  split
  · unfold zup
    rw [if_neg (fun z => h2 z.1), if_neg (fun z => h z.1)]
  · rfl
theorem znX_0 (R : zM) (k sz : Int) : znX R k sz 0 0 = R 0 0 + 1 := by rw [znX_n R k sz (by omega) (by omega), znR_0]
theorem znX_1 (R : zM) (k sz : Int) : znX R k sz 0 1 = R 0 1 + sz := by rw [znX_n R k sz (by omega) (by omega), znR_1]
theorem znX_q {R : zM} {k sz q : Int} (h : 2 ≤ q) (h0 : 0 ≤ R 0 0) : znX R k sz 0 q = R 0 q := by rw [znX_n R k sz (by omega) (by omega), znR_q h h0]
theorem znX_a {R : zM} {k sz a q : Int} (h : 0 < a) : znX R k sz a q = if a = R 0 0 + 1 then 0 else R a q := by rw [znX_n R k sz (by omega) (by omega), znR_a h]
/-- kinds and lengths behind a new cell: the others' as before -/
theorem znX_o {R : zM} {k sz a : Int} (h : a ≠ R 0 0 + 1) (h0 : 0 ≤ R 0 0) : KX (znX R k sz) a = KX R a ∧ LX (znX R k sz) a = LX R a := by
  have e0 : ∀ q, znR R sz (-1) q = R (-1) q := fun q => by unfold znR zup zrow znl; rw [if_neg (by omega), if_neg (by omega), if_neg (by omega)]
  have e9 : ∀ q, znR R sz (-2) q = R (-2) q := fun q => by unfold znR zup zrow znl; rw [if_neg (by omega), if_neg (by omega), if_neg (by omega)]
  have e1 : znX R k sz (-1) a = R (-1) a := by
    unfold znX
    split
    · unfold zup znl
      rw [if_neg (by omega), if_neg (by omega)]
      exact e0 a
    · exact e0 a
  have e2 : znX R k sz (-2) a = R (-2) a := by
    unfold znX
    split
    · unfold zup znl
      rw [if_neg (by omega), if_neg (by omega)]
      exact e9 a
    · exact e9 a
  unfold KX LX
  rw [e1, e2]
  exact ⟨rfl, rfl⟩
/-- the new cell's own -/
theorem znX_s {R : zM} {k : Nat} {sz : Int} (h0 : 0 ≤ R 0 0) (h : KD (znl R) = 0 ∨ KD (znl R) = k) : KX (znX R (k : Int) sz) (R 0 0 + 1) = k := by
  have hl : znl R = R 0 0 + 1 := rfl
  unfold KX
  rw [hl] at h
  by_cases q : KD (R 0 0 + 1) = 0
  · rw [if_pos q, if_pos (by omega)]
    have e1 : znX R (k : Int) sz (-1) (R 0 0 + 1) = k := by
      unfold znX
      rw [hl, if_pos q]
      unfold zup
      rw [if_neg (by omega), if_pos ⟨rfl, rfl⟩]
    rw [e1]
    exact Int.toNat_natCast k
  · rw [if_neg q]
    rcases h with h | h
    · exact absurd h q
    · exact h
theorem znX_l {R : zM} {k : Int} {sz : Int} (h : KD (znl R) = 0 ∨ LN (znl R) = sz) : LX (znX R k sz) (R 0 0 + 1) = sz := by
  have hl : znl R = R 0 0 + 1 := rfl
  unfold LX
  rw [hl] at h
  by_cases q : KD (R 0 0 + 1) = 0
  · rw [if_pos q]
    unfold znX
    rw [hl, if_pos q]
    unfold zup
    rw [if_pos ⟨rfl, rfl⟩]
  · rw [if_neg q]
    rcases h with h | h
    · exact absurd h q
    · exact h
/-- a new cell at the heap's end: what the world is then -/
theorem zJ_new {B b : Nat} {D : va_G} {cy : ClassId × ClassId × ClassId × ClassId} {L : Nat} {xs : Nat → Int32} {R m : zM} {H0 H H1 : Heap} {locs : List Loc} {sz : Int} {k : Int} (hJ : zJ B b D cy L xs R m H0 H locs) (hsz : 0 ≤ sz) (hB : B ≤ H0.size) {ec : va_E} (he : zcell B cy (znX R k sz) (zrow m (znl R) 0) (R 0 0 + 1) = ec) (hat : va_at D vwCl (H.size, ec) H1) (z1 : H1.size = H.size + 1) (o1 : ∀ q : Nat, q < H.size → H1[q]? = H[q]?) :
    zJ B b D cy L xs (znX R k sz) (zrow m (znl R) 0) H0 H1 locs := by
  obtain ⟨jP, jZ, jm, jS, jL, jX, jX2⟩ := hJ
  obtain ⟨m1, m2, m3, m4, m5, m6⟩ := jm
  have hn : ((R 0 0).toNat : Int) = R 0 0 := Int.toNat_of_nonneg m1
  have hk : ∀ (k : Nat) (x : Nat × va_E), (zws B cy R m (R 0 0).toNat)[k]? = some x → H1[x.1]? = H[x.1]? := fun k x hx => o1 x.1 ((jP k x hx).lt)
  have hP1 : va_P D vwCl (zws B cy R m (R 0 0).toNat ++ [(B + (R 0 0).toNat, ec)]) H1 := (jP.kept hk).app (fun k x hx => by
    have hz : k < 1 := (List.getElem?_eq_some_iff.mp hx).1
    rw [show k = 0 by omega] at hx
    cases hx
    rw [← jZ]
    exact hat)
  rw [zws_push B cy (R' := znX R k sz) (m' := zrow m (znl R) 0) (fun a q h0 h1 => by rw [znX_a h0, if_neg (by omega)]) (fun a q h0 h1 => by unfold zrow znl; rw [if_neg (by omega)]) (fun c hc => znX_o (by omega) m1) (by rw [hn]; exact he)] at hP1
  have e1 : (znX R k sz 0 0).toNat = (R 0 0).toNat + 1 := by rw [znX_0]; omega
  refine ⟨by rw [e1]; exact hP1, by rw [e1, z1, jZ]; omega, ⟨by rw [znX_0]; omega, by rw [znX_1]; omega, fun a q h => ?_, fun a q h => ?_, fun a q h => ?_, fun q h => by rw [znX_q h m1]; exact m6 q h⟩, ⟨Nat.le_trans jS.1 (by omega), fun x h1 h2 => (o1 x (Nat.lt_of_lt_of_le h1 jS.1)).trans (jS.2.1 x h1 h2), jS.2.2⟩, by rw [znX_q (by omega) m1]; exact jL, jX, fun i hi => by rw [znX_q (by omega) m1]; exact jX2 i hi⟩
  · unfold zrow znl
    split
    · exact z_0
    next hh => exact m3 a q (by rw [← (znX_o (k := k) (sz := sz) hh m1).1]; exact h)
  · unfold zrow znl
    split
    · unfold zi64; omega
    next hh => exact m4 a q (by rw [← (znX_o (k := k) (sz := sz) hh m1).1]; exact h)
  · rw [znX_a h, znX_0]
    split
    · omega
    · have := m5 a q h
      omega
theorem g_new {n ci : Nat} (C : zCx X y) (hd : decode (zmb y) pc = .ok (.new n, 3)) (hz : znew (zoc y) n = some ci) (ha : KD (znl R) = 0 ∨ KD (znl R) = ci + 1) (hle : znX R ((ci + 1 : Nat) : Int) (znf ci : Int) 0 0 ≤ X.2.2.2.2.2.2.2.2.2.2.2.2.2.2.1 0 0 ∧ znX R ((ci + 1 : Nat) : Int) (znf ci : Int) 0 1 ≤ X.2.2.2.2.2.2.2.2.2.2.2.2.2.2.1 0 1) (k : zG X y (pc + 3) ls ((2, znl R) :: st) (znX R ((ci + 1 : Nat) : Int) (znf ci : Int)) (zrow m (znl R) 0)) : zG X y pc ls st R m := by
  obtain ⟨p, l, e, Rm, s, mi, args, below, meth, c, Q, ⟨B, b, adK, D, cy, L, xs⟩, Re, rr⟩ := X
  obtain ⟨hx, hb, hml, hown, hts, hSt, hfr, hlo, hinit, hrc, hrs⟩ := C
  intro H LS locs cells slots hJ hl hls hst hR hc hs
  show W p l e Rm s mi args below meth c H locs cells slots Q (F0 mi pc LS (st.map (zval B adK b)))
  obtain ⟨f1, w1, w2, w3⟩ := znew_ok hz
  obtain ⟨jP, jZ, jm, jS, jL, jX⟩ := id hJ
  obtain ⟨ty, t1, t2⟩ := z_tys ci f1
  have hle : znX R ((ci + 1 : Nat) : Int) (znf ci : Int) 0 0 ≤ rr.2.1 0 0 ∧ znX R ((ci + 1 : Nat) : Int) (znf ci : Int) 0 1 ≤ rr.2.1 0 1 := hle
  rw [znX_0, znX_1] at hle
  have hm1 := jm.1
  have hm2 := jm.2.1
  have hKn := hSt.1.1 ci _ (z_cl ci f1)
  refine W.newcK hx hb hown (hts _ w1) (hts _ w2) (hts _ w3) rfl hd (by omega) (by omega) hKn.2.1 rfl fun H1 kC hkC e1 z1 o1 => ?_
  have hJ1 := zJ_new (sz := (znf ci : Int)) hJ (by omega) hSt.2.2.2.2.2.2 (zcell_obj B cy (znX R ((ci + 1 : Nat) : Int) (znf ci : Int)) (zrow m (znl R) 0) (znX_s hm1 ha) f1) ⟨_, z_cl ci f1, (u_born ty hts (z_lays ci f1) hKn hkC e1 t1).to (fun j hj => by
    have hj' : j < znf ci := hj
    have e2 : vp_V ((List.range (znf ci)).map (zfv B (znX R ((ci + 1 : Nat) : Int) (znf ci : Int)) (zrow m (znl R) 0) ci (R 0 0 + 1))) j = zfv B (znX R ((ci + 1 : Nat) : Int) (znf ci : Int)) (zrow m (znl R) 0) ci (R 0 0 + 1) j := by simp [vp_V, hj']
    show _ = vp_V ((List.range (znf ci)).map (zfv B (znX R ((ci + 1 : Nat) : Int) (znf ci : Int)) (zrow m (znl R) 0) ci (R 0 0 + 1))) j
    rw [e2]
    unfold zfv
    rw [znX_a (by omega), if_pos rfl]
    have e3 : zrow m (znl R) 0 (R 0 0 + 1) (j : Int) = 0 := by unfold zrow znl; rw [if_pos rfl]
    rw [e3]
    rcases z_ty2 t2 hj with ⟨q1, q2, q3⟩ | ⟨q1, q2, q3⟩ | ⟨q1, q2, q3⟩
    · rw [q2, if_neg (by omega)]; rfl
    · rw [q2, if_neg (by omega)]; rfl
    · rw [if_pos q1]
      cases hq : ty j <;> rw [hq] at q2 <;> first | (cases q2; done) | rfl)⟩ z1 o1
  have hk := k H1 LS locs (cells + 1) (slots + znf ci) hJ1 hl (z_okR (by rw [znX_0]; omega) hls) (z_push (show zvok _ (2, znl R) from ⟨by unfold znl; omega, by rw [znX_0]; unfold znl; omega⟩) (z_okR (by rw [znX_0]; omega) hst)) (by rw [znX_0, znX_1]; omega) (by rw [znX_0]; omega) (by rw [znX_1]; omega)
  have ez : zval B adK b (2, znl R) = .ref H.size := by
    have : ¬ znl R ≤ 0 := by unfold znl; omega
    simp only [zval, this, if_false]
    rw [jZ]
    congr 2
    unfold znl
    omega
  rw [List.map_cons, ez] at hk
  exact hk
theorem g_newI {x : Int} (C : zCx X y) (hd : decode (zmb y) pc = .ok (.newarray .int, 2)) (ha : KD (znl R) = 0 ∨ KD (znl R) = 20 ∧ LN (znl R) = x) (hx0 : 0 ≤ x) (hx1 : x ≤ 100000) (hle : znX R ((20 : Nat) : Int) x 0 0 ≤ X.2.2.2.2.2.2.2.2.2.2.2.2.2.2.1 0 0 ∧ znX R ((20 : Nat) : Int) x 0 1 ≤ X.2.2.2.2.2.2.2.2.2.2.2.2.2.2.1 0 1) (k : zG X y (pc + 2) ls ((2, znl R) :: st) (znX R ((20 : Nat) : Int) x) (zrow m (znl R) 0)) : zG X y pc ls ((0, x) :: st) R m := by
  obtain ⟨p, l, e, Rm, s, mi, args, below, meth, c, Q, ⟨B, b, adK, D, cy, L, xs⟩, Re, rr⟩ := X
  obtain ⟨hx, hb, hml, hown, hts, hSt, hfr, hlo, hinit, hrc, hrs⟩ := C
  intro H LS locs cells slots hJ hl hls hst hR hc hs
  show W p l e Rm s mi args below meth c H locs cells slots Q (F0 mi pc LS (.int (Int32.ofInt x) :: st.map (zval B adK b)))
  obtain ⟨jP, jZ, jm, jS, jL, jX⟩ := id hJ
  have hle : znX R ((20 : Nat) : Int) x 0 0 ≤ rr.2.1 0 0 ∧ znX R ((20 : Nat) : Int) x 0 1 ≤ rr.2.1 0 1 := hle
  rw [znX_0, znX_1] at hle
  have hm1 := jm.1
  have hm2 := jm.2.1
  have hxi : (Int32.ofInt x).toInt = x := z_of (by unfold zi32; omega)
  have hneg : ¬ Int32.ofInt x < 0 := by
    have := z_lt (x := x) (y := 0) (by unfold zi32; omega) z_0
    rw [show Int32.ofInt 0 = 0 from rfl] at this
    rw [this]
    omega
  have hclm : (Int32.ofInt x).toNatClampNeg = x.toNat := by
    show (Int32.ofInt x).toInt.toNat = x.toNat
    rw [hxi]
  refine va_newaK (N := x.toNat) (h := H.size) (atype := .int) hx hb (hts _ z_acI) rfl hd rfl hneg hclm (Nat.le_trans (Nat.mul_le_mul (show x.toNat ≤ 100000 by omega) (show componentBytes (newarray.typeOf .int) ≤ 8 by decide)) (by decide)) (by omega) (by omega) rfl fun H1 cA e1 z1 o1 hAr hNm => ?_
  have hcA : cA = cy.1 := by
    have h1 := (hSt.1.2 0 _ rfl).2
    exact Option.some.inj (hNm.symm.trans h1)
  subst hcA
  have hJ1 := zJ_new (sz := x) hJ hx0 hSt.2.2.2.2.2.2 (zcell_i B cy (znX R ((20 : Nat) : Int) x) (zrow m (znl R) 0) (znX_s (k := 20) hm1 (ha.imp id (fun h => h.1)))) (H1 := H1) (by
    show H1[H.size]? = some (vp_cell _ _)
    rw [e1, vp_cell_i, znX_l (ha.imp id (fun h => h.2))]
    congr 2
    funext q
    have e3 : zrow m (znl R) 0 (R 0 0 + 1) (q : Int) = 0 := by unfold zrow znl; rw [if_pos rfl]
    rw [e3]
    rfl) z1 o1
  have hk := k H1 LS locs (cells + 1) (slots + x.toNat) hJ1 hl (z_okR (by rw [znX_0]; omega) hls) (z_push (show zvok _ (2, znl R) from ⟨by unfold znl; omega, by rw [znX_0]; unfold znl; omega⟩) (z_okR (by rw [znX_0]; omega) (z_tl hst))) (by rw [znX_0, znX_1]; omega) (by rw [znX_0]; omega) (by rw [znX_1]; omega)
  have ez : zval B adK b (2, znl R) = .ref H.size := by
    have : ¬ znl R ≤ 0 := by unfold znl; omega
    simp only [zval, this, if_false]
    rw [jZ]
    congr 2
    unfold znl
    omega
  rw [List.map_cons, ez] at hk
  exact hk
theorem g_newJ {x : Int} (C : zCx X y) (hd : decode (zmb y) pc = .ok (.newarray .long, 2)) (ha : KD (znl R) = 0 ∨ KD (znl R) = 21 ∧ LN (znl R) = x) (hx0 : 0 ≤ x) (hx1 : x ≤ 100000) (hle : znX R ((21 : Nat) : Int) x 0 0 ≤ X.2.2.2.2.2.2.2.2.2.2.2.2.2.2.1 0 0 ∧ znX R ((21 : Nat) : Int) x 0 1 ≤ X.2.2.2.2.2.2.2.2.2.2.2.2.2.2.1 0 1) (k : zG X y (pc + 2) ls ((2, znl R) :: st) (znX R ((21 : Nat) : Int) x) (zrow m (znl R) 0)) : zG X y pc ls ((0, x) :: st) R m := by
  obtain ⟨p, l, e, Rm, s, mi, args, below, meth, c, Q, ⟨B, b, adK, D, cy, L, xs⟩, Re, rr⟩ := X
  obtain ⟨hx, hb, hml, hown, hts, hSt, hfr, hlo, hinit, hrc, hrs⟩ := C
  intro H LS locs cells slots hJ hl hls hst hR hc hs
  show W p l e Rm s mi args below meth c H locs cells slots Q (F0 mi pc LS (.int (Int32.ofInt x) :: st.map (zval B adK b)))
  obtain ⟨jP, jZ, jm, jS, jL, jX⟩ := id hJ
  have hle : znX R ((21 : Nat) : Int) x 0 0 ≤ rr.2.1 0 0 ∧ znX R ((21 : Nat) : Int) x 0 1 ≤ rr.2.1 0 1 := hle
  rw [znX_0, znX_1] at hle
  have hm1 := jm.1
  have hm2 := jm.2.1
  have hxi : (Int32.ofInt x).toInt = x := z_of (by unfold zi32; omega)
  have hneg : ¬ Int32.ofInt x < 0 := by
    have := z_lt (x := x) (y := 0) (by unfold zi32; omega) z_0
    rw [show Int32.ofInt 0 = 0 from rfl] at this
    rw [this]
    omega
  have hclm : (Int32.ofInt x).toNatClampNeg = x.toNat := by
    show (Int32.ofInt x).toInt.toNat = x.toNat
    rw [hxi]
  refine va_newaK (N := x.toNat) (h := H.size) (atype := .long) hx hb (hts _ z_acJ) rfl hd rfl hneg hclm (Nat.le_trans (Nat.mul_le_mul (show x.toNat ≤ 100000 by omega) (show componentBytes (newarray.typeOf .long) ≤ 8 by decide)) (by decide)) (by omega) (by omega) rfl fun H1 cA e1 z1 o1 hAr hNm => ?_
  have hcA : cA = cy.2.1 := by
    have h1 := (hSt.1.2 1 _ rfl).2
    exact Option.some.inj (hNm.symm.trans h1)
  subst hcA
  have hJ1 := zJ_new (sz := x) hJ hx0 hSt.2.2.2.2.2.2 (zcell_l B cy (znX R ((21 : Nat) : Int) x) (zrow m (znl R) 0) (znX_s (k := 21) hm1 (ha.imp id (fun h => h.1)))) (H1 := H1) (by
    show H1[H.size]? = some (vp_cell _ _)
    rw [e1, vp_cell_l, znX_l (ha.imp id (fun h => h.2))]
    congr 2
    funext q
    have e3 : zrow m (znl R) 0 (R 0 0 + 1) (q : Int) = 0 := by unfold zrow znl; rw [if_pos rfl]
    rw [e3]
    rfl) z1 o1
  have hk := k H1 LS locs (cells + 1) (slots + x.toNat) hJ1 hl (z_okR (by rw [znX_0]; omega) hls) (z_push (show zvok _ (2, znl R) from ⟨by unfold znl; omega, by rw [znX_0]; unfold znl; omega⟩) (z_okR (by rw [znX_0]; omega) (z_tl hst))) (by rw [znX_0, znX_1]; omega) (by rw [znX_0]; omega) (by rw [znX_1]; omega)
  have ez : zval B adK b (2, znl R) = .ref H.size := by
    have : ¬ znl R ≤ 0 := by unfold znl; omega
    simp only [zval, this, if_false]
    rw [jZ]
    congr 2
    unfold znl
    omega
  rw [List.map_cons, ez] at hk
  exact hk
theorem g_newQ {n : Nat} {x : Int} (C : zCx X y) (hd : decode (zmb y) pc = .ok (.anewarray n, 3)) (hz : znew (zoc y) n = some 3) (ha : KD (znl R) = 0 ∨ KD (znl R) = 23 ∧ LN (znl R) = x) (hx0 : 0 ≤ x) (hx1 : x ≤ 100000) (hle : znX R ((23 : Nat) : Int) x 0 0 ≤ X.2.2.2.2.2.2.2.2.2.2.2.2.2.2.1 0 0 ∧ znX R ((23 : Nat) : Int) x 0 1 ≤ X.2.2.2.2.2.2.2.2.2.2.2.2.2.2.1 0 1) (k : zG X y (pc + 3) ls ((2, znl R) :: st) (znX R ((23 : Nat) : Int) x) (zrow m (znl R) 0)) : zG X y pc ls ((0, x) :: st) R m := by
  obtain ⟨p, l, e, Rm, s, mi, args, below, meth, c, Q, ⟨B, b, adK, D, cy, L, xs⟩, Re, rr⟩ := X
  obtain ⟨hx, hb, hml, hown, hts, hSt, hfr, hlo, hinit, hrc, hrs⟩ := C
  intro H LS locs cells slots hJ hl hls hst hR hc hs
  show W p l e Rm s mi args below meth c H locs cells slots Q (F0 mi pc LS (.int (Int32.ofInt x) :: st.map (zval B adK b)))
  obtain ⟨f1, w1, w2, w3⟩ := znew_ok hz
  obtain ⟨jP, jZ, jm, jS, jL, jX⟩ := id hJ
  have hle : znX R ((23 : Nat) : Int) x 0 0 ≤ rr.2.1 0 0 ∧ znX R ((23 : Nat) : Int) x 0 1 ≤ rr.2.1 0 1 := hle
  rw [znX_0, znX_1] at hle
  have hm1 := jm.1
  have hm2 := jm.2.1
  have hxi : (Int32.ofInt x).toInt = x := z_of (by unfold zi32; omega)
  have hneg : ¬ Int32.ofInt x < 0 := by
    have := z_lt (x := x) (y := 0) (by unfold zi32; omega) z_0
    rw [show Int32.ofInt 0 = 0 from rfl] at this
    rw [this]
    omega
  have hclm : (Int32.ofInt x).toNatClampNeg = x.toNat := by
    show (Int32.ofInt x).toInt.toNat = x.toNat
    rw [hxi]
  refine W.anew hx hb hown (hts _ w1) (va_AO.use hSt.2.1) rfl hd rfl hneg (by rw [hclm]; omega) (by omega) (by rw [hclm]; omega) fun cA kA comp f1 f2 f3 f4 => ?_
  rw [hclm]
  have hcA : cA = cy.2.2.2 := by
    obtain ⟨_, _, _, _, _, h1⟩ := (hSt.1.2 2 _ rfl).2
    exact Option.some.inj (f1.symm.trans h1)
  subst hcA
  generalize hH1 : H.push ({ cls := cy.2.2.2, slots := Array.replicate x.toNat .null, vm := .none } : Cell) = H1
  have z1 : H1.size = H.size + 1 := by rw [← hH1, Array.size_push]
  have e1 : H1[H.size]? = some (arrV cy.2.2.2 x.toNat (fun _ => .null)) := by rw [← hH1, Array.getElem?_push_size, ← arrV_new]
  have o1 : ∀ q : Nat, q < H.size → H1[q]? = H[q]? := fun q hq => by rw [← hH1, Array.getElem?_push, if_neg (Nat.ne_of_lt hq)]
  have hJ1 := zJ_new (sz := x) hJ hx0 hSt.2.2.2.2.2.2 (zcell_q B cy (znX R ((23 : Nat) : Int) x) (zrow m (znl R) 0) (znX_s (k := 23) hm1 (ha.imp id (fun h => h.1)))) (H1 := H1) (by
    show H1[H.size]? = some (vp_cell _ _)
    rw [e1, vp_cell_q, znX_l (ha.imp id (fun h => h.2))]
    congr 2
    funext q
    rw [znX_a (by omega), if_pos rfl]
    rfl) z1 o1
  have hk := k H1 LS locs (cells + 1) (slots + x.toNat) hJ1 hl (z_okR (by rw [znX_0]; omega) hls) (z_push (show zvok _ (2, znl R) from ⟨by unfold znl; omega, by rw [znX_0]; unfold znl; omega⟩) (z_okR (by rw [znX_0]; omega) (z_tl hst))) (by rw [znX_0, znX_1]; omega) (by rw [znX_0]; omega) (by rw [znX_1]; omega)
  have ez : zval B adK b (2, znl R) = .ref H.size := by
    have : ¬ znl R ≤ 0 := by unfold znl; omega
    simp only [zval, this, if_false]
    rw [jZ]
    congr 2
    unfold znl
    omega
  rw [List.map_cons, ez] at hk
  exact hk
theorem g_mabs {n u : Nat} {x : Int} (C : zCx X y) (hd : decode (zmb y) pc = .ok (.invokestatic n, 3)) (hz : zlink (zoc y) n = some (9, u)) (hlen : st.length ≤ 4) (hroom : 1 ≤ zmf y ∧ 21 ≤ zmo y) (k : zG X y (pc + 3) ls ((0, if 0 ≤ x then x else zw (0 - x)) :: st) R m) : zG X y pc ls ((0, x) :: st) R m := by
  obtain ⟨p, l, e, Rm, s, mi, args, below, meth, c, Q, ⟨B, b, adK, D, cy, L, xs⟩, Re, rr⟩ := X
  obtain ⟨hx, hb, hml, hown, hts, hSt, hfr, hlo, hinit, hrc, hrs⟩ := C
  intro H LS locs cells slots hJ hl hls hst hR hc hs
  show W p l e Rm s mi args below meth c H locs cells slots Q (F0 mi pc LS (.int (Int32.ofInt x) :: st.map (zval B adK b)))
  obtain ⟨q, q1, q2, q3, q4, q5⟩ := zlink_ok hz
  simp only [zlw, q1, q2] at q4
  have hz0 : ∀ w ∈ lw_tbl, goodWord w = true → w.before args s = true := fun w h1 h2 => hts w (List.mem_filter.mpr ⟨h1, h2⟩)
  have hcat := z_cats B adK b st hlen
  refine va_mabs hx hb (hml.trans hl.1.symm) hown (hz0 _ (q4 _ (by simp)) rfl) (hz0 _ (q4 _ (by simp)) rfl) (hz0 _ (q4 _ (by simp)) rfl) (hts _ z_mabs) (by omega) (by omega) (by omega) (by omega) hd ?_
  have h1 : zi32 x := z_hd hst
  have e : (if 0 ≤ Int32.ofInt x then Int32.ofInt x else 0 - Int32.ofInt x) = Int32.ofInt (if 0 ≤ x then x else zw (0 - x)) := by
    have h2 := z_le z_0 h1
    rw [show Int32.ofInt 0 = 0 from rfl] at h2
    by_cases hq : 0 ≤ x
    · rw [if_pos hq, if_pos (h2.mpr hq)]
    · rw [if_neg hq, if_neg (fun z => hq (h2.mp z)), ← z_sub]
      rfl
  rw [e]
  exact k H LS locs cells slots hJ hl hls (z_push (z_ite h1 (zw_in _)) (z_tl hst)) hR hc hs
theorem g_mmax {n u : Nat} {x x2 : Int} (C : zCx X y) (hd : decode (zmb y) pc = .ok (.invokestatic n, 3)) (hz : zlink (zoc y) n = some (10, u)) (hlen : st.length ≤ 4) (hroom : 1 ≤ zmf y ∧ 21 ≤ zmo y) (k : zG X y (pc + 3) ls ((0, if x < x2 then x2 else x) :: st) R m) : zG X y pc ls ((0, x2) :: (0, x) :: st) R m := by
  obtain ⟨p, l, e, Rm, s, mi, args, below, meth, c, Q, ⟨B, b, adK, D, cy, L, xs⟩, Re, rr⟩ := X
  obtain ⟨hx, hb, hml, hown, hts, hSt, hfr, hlo, hinit, hrc, hrs⟩ := C
  intro H LS locs cells slots hJ hl hls hst hR hc hs
  show W p l e Rm s mi args below meth c H locs cells slots Q (F0 mi pc LS (.int (Int32.ofInt x2) :: .int (Int32.ofInt x) :: st.map (zval B adK b)))
  obtain ⟨q, q1, q2, q3, q4, q5⟩ := zlink_ok hz
  simp only [zlw, q1, q2] at q4
  have hz0 : ∀ w ∈ lw_tbl, goodWord w = true → w.before args s = true := fun w h1 h2 => hts w (List.mem_filter.mpr ⟨h1, h2⟩)
  have hcat := z_cats B adK b st hlen
  refine va_mmax hx hb (hml.trans hl.1.symm) hown (hz0 _ (q4 _ (by simp)) rfl) (hz0 _ (q4 _ (by simp)) rfl) (hz0 _ (q4 _ (by simp)) rfl) (hts _ z_mmax) (by omega) (by omega) (by omega) (by omega) hd ?_
  have h1 : zi32 x := z_hd (z_tl hst)
  have h2 : zi32 x2 := z_hd hst
  have e : (if Int32.ofInt x < Int32.ofInt x2 then Int32.ofInt x2 else Int32.ofInt x) = Int32.ofInt (if x < x2 then x2 else x) := by
    by_cases hq : x < x2
    · rw [if_pos hq, if_pos ((z_lt h1 h2).mpr hq)]
    · rw [if_neg hq, if_neg (fun z => hq ((z_lt h1 h2).mp z))]
  rw [e]
  exact k H LS locs cells slots hJ hl hls (z_push (z_ite h2 h1) (z_tl (z_tl hst))) hR hc hs
theorem g_mmin {n u : Nat} {x x2 : Int} (C : zCx X y) (hd : decode (zmb y) pc = .ok (.invokestatic n, 3)) (hz : zlink (zoc y) n = some (11, u)) (hlen : st.length ≤ 4) (hroom : 1 ≤ zmf y ∧ 21 ≤ zmo y) (k : zG X y (pc + 3) ls ((0, if x2 < x then x2 else x) :: st) R m) : zG X y pc ls ((0, x2) :: (0, x) :: st) R m := by
  obtain ⟨p, l, e, Rm, s, mi, args, below, meth, c, Q, ⟨B, b, adK, D, cy, L, xs⟩, Re, rr⟩ := X
  obtain ⟨hx, hb, hml, hown, hts, hSt, hfr, hlo, hinit, hrc, hrs⟩ := C
  intro H LS locs cells slots hJ hl hls hst hR hc hs
  show W p l e Rm s mi args below meth c H locs cells slots Q (F0 mi pc LS (.int (Int32.ofInt x2) :: .int (Int32.ofInt x) :: st.map (zval B adK b)))
  obtain ⟨q, q1, q2, q3, q4, q5⟩ := zlink_ok hz
  simp only [zlw, q1, q2] at q4
  have hz0 : ∀ w ∈ lw_tbl, goodWord w = true → w.before args s = true := fun w h1 h2 => hts w (List.mem_filter.mpr ⟨h1, h2⟩)
  have hcat := z_cats B adK b st hlen
  refine va_mmin hx hb (hml.trans hl.1.symm) hown (hz0 _ (q4 _ (by simp)) rfl) (hz0 _ (q4 _ (by simp)) rfl) (hz0 _ (q4 _ (by simp)) rfl) (hts _ z_mmin) (by omega) (by omega) (by omega) (by omega) hd ?_
  have h1 : zi32 x := z_hd (z_tl hst)
  have h2 : zi32 x2 := z_hd hst
  have e : (if Int32.ofInt x2 < Int32.ofInt x then Int32.ofInt x2 else Int32.ofInt x) = Int32.ofInt (if x2 < x then x2 else x) := by
    by_cases hq : x2 < x
    · rw [if_pos hq, if_pos ((z_lt h2 h1).mpr hq)]
    · rw [if_neg hq, if_neg (fun z => hq ((z_lt h2 h1).mp z))]
  rw [e]
  exact k H LS locs cells slots hJ hl hls (z_push (z_ite h2 h1) (z_tl (z_tl hst))) hR hc hs
theorem g_oinit {n u : Nat} {a : Int} (C : zCx X y) (hd : decode (zmb y) pc = .ok (.invokespecial n, 3)) (hz : zlink (zoc y) n = some (6, u)) (ha : KX R a ≠ 0) (hlen : st.length ≤ 4) (hroom : 1 ≤ zmf y ∧ 20 ≤ zmo y) (k : zG X y (pc + 3) ls st R m) : zG X y pc ls ((2, a) :: st) R m := by
  obtain ⟨p, l, e, Rm, s, mi, args, below, meth, c, Q, ⟨B, b, adK, D, cy, L, xs⟩, Re, rr⟩ := X
  obtain ⟨hx, hb, hml, hown, hts, hSt, hfr, hlo, hinit, hrc, hrs⟩ := C
  intro H LS locs cells slots hJ hl hls hst hR hc hs
  show W p l e Rm s mi args below meth c H locs cells slots Q (F0 mi pc LS (zval B adK b (2, a) :: st.map (zval B adK b)))
  obtain ⟨q, q1, q2, q3, q4, q5⟩ := zlink_ok hz
  simp only [zlw, q1, q2] at q4
  have hz0 : ∀ w ∈ lw_tbl, goodWord w = true → w.before args s = true := fun w h1 h2 => hts w (List.mem_filter.mpr ⟨h1, h2⟩)
  have hcat := z_cats B adK b st hlen
  have h0 : 0 < a := KX_pos ha
  have ez : zval B adK b (2, a) = .ref (B + (a - 1).toNat) := by
    have : ¬ a ≤ 0 := by omega
    simp [zval, this]
  rw [ez]
  refine W.objInit hx hb hown (hz0 _ (q4 _ (by simp)) rfl) (hz0 _ (q4 _ (by simp)) rfl) (hts _ z_oin) rfl (show LS.size = c.maxLocals by rw [hl.1, hml]) rfl hd (by omega) (by show 2 * 0 + _ + 12 ≤ _; omega) ?_
  exact k H LS locs cells slots hJ hl hls (z_tl hst) hR hc hs
end CELLS
