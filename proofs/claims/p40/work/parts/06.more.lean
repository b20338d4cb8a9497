/-! jumps on one number, constants, fields, rows, new cells -/
theorem z_mem {w : Cond} {i : Nat} (h : lw_tbl[i]? = some w) (hg : goodWord w = true) : w ∈ zTB := List.mem_filter.mpr ⟨List.mem_of_getElem? h, hg⟩
theorem zfld_ok {c idx ci j : Nat} (h : zfld c idx = some (ci, j)) : ci < 12 ∧ j < znf ci ∧ Cond.fieldLink (zcn c) idx ((zcl ci).2.1 j).1 ((zcl ci).2.1 j).2.1 ((zcl ci).2.1 j).2.2.1 ∈ zTB ∧ ((zcl ci).2.1 j).1 = (zcl ci).1 := by
  unfold zfld at h
  obtain ⟨q, hq, e⟩ := Option.map_eq_some_iff.mp h
  have h1 := List.find?_some hq
  have h2 := List.all_eq_true.mp z_fields q (List.mem_of_find?_eq_some hq)
  simp only [Bool.and_eq_true, beq_iff_eq] at h1
  simp only [zflT, Bool.and_eq_true, decide_eq_true_eq] at h2
  obtain ⟨⟨⟨a1, a2⟩, a3⟩, a4⟩ := h2
  rw [h1.1, h1.2, e] at a3
  rw [e] at a1 a2 a4
  exact ⟨a1, a2, z_mem a3 rfl, a4⟩
theorem zcst_ok {c idx : Nat} {t : Nat} {v : Int} (h : zcst c idx = some (t, v)) : (t = 0 → zi32 v ∧ Cond.constant (zcn c) idx (Int32.ofInt v) ∈ zTB) ∧ (t = 1 → zi64 v ∧ Cond.constantLong (zcn c) idx (Int64.ofInt v) ∈ zTB) ∧ (t = 3 → 0 ≤ v ∧ v < 12 ∧ ∃ e ∈ zct, e.1.1 = c ∧ e.1.2 = idx ∧ e.2.1 = (3, v)) := by
  unfold zcst at h
  obtain ⟨q, hq, e⟩ := Option.map_eq_some_iff.mp h
  have h1 := List.find?_some hq
  have hm := List.mem_of_find?_eq_some hq
  have h2 := List.all_eq_true.mp z_consts q hm
  simp only [Bool.and_eq_true, beq_iff_eq] at h1
  refine ⟨fun ht => ?_, fun ht => ?_, fun ht => ?_⟩
  · subst ht
    unfold zcstT at h2
    rw [e] at h2
    simp only [Bool.and_eq_true, decide_eq_true_eq] at h2
    rw [h1.1, h1.2] at h2
    refine ⟨?_, z_mem h2.1 rfl⟩
    rw [← h2.2]
    exact z_rng _
  · subst ht
    unfold zcstT at h2
    rw [e] at h2
    simp only [Bool.and_eq_true, decide_eq_true_eq] at h2
    rw [h1.1, h1.2] at h2
    refine ⟨?_, z_mem h2.1 rfl⟩
    rw [← h2.2]
    exact z_rng64 _
  · subst ht
    unfold zcstT at h2
    rw [e] at h2
    simp only [Bool.and_eq_true, decide_eq_true_eq] at h2
    exact ⟨h2.1.2, h2.2, q, hm, h1.1, h1.2, e⟩
theorem znew_ok {c idx ci : Nat} (h : znew c idx = some ci) : ci < 12 ∧ Cond.classLink (zcn c) idx (zcl ci).1 ∈ zTB ∧ Cond.instantiable (zcl ci).1 (znf ci) ∈ zTB ∧ Cond.initialized (zcl ci).1 ∈ zTB := by
  unfold znew at h
  obtain ⟨q, hq, e⟩ := Option.map_eq_some_iff.mp h
  have h1 := List.find?_some hq
  have h2 := List.all_eq_true.mp z_news q (List.mem_of_find?_eq_some hq)
  simp only [Bool.and_eq_true, beq_iff_eq] at h1
  simp only [znwT, Bool.and_eq_true, decide_eq_true_eq] at h2
  obtain ⟨a1, a2⟩ := h2
  rw [h1.1, h1.2, e] at a2
  rw [e] at a1
  have hin : ∀ w ∈ ([.classLink (zcn c) idx (zcl ci).1, .instantiable (zcl ci).1 (znf ci), .initialized (zcl ci).1] : List Cond), w ∈ lw_tbl := z_places q.2.2 a2.symm
  exact ⟨a1, List.mem_filter.mpr ⟨hin _ (by simp), rfl⟩, List.mem_filter.mpr ⟨hin _ (by simp), rfl⟩, List.mem_filter.mpr ⟨hin _ (by simp), rfl⟩⟩
theorem z_13 {P : Nat → Prop} (h : P 0 ∧ P 1 ∧ P 2 ∧ P 3 ∧ P 4 ∧ P 5 ∧ P 6 ∧ P 7 ∧ P 8 ∧ P 9 ∧ P 10 ∧ P 11) : ∀ ci, ci < 12 → P ci := by
  intro ci hc
  obtain ⟨h0, h1, h2, h3, h4, h5, h6, h7, h8, h9, h10, h11⟩ := h
  rcases (show ci = 0 ∨ ci = 1 ∨ ci = 2 ∨ ci = 3 ∨ ci = 4 ∨ ci = 5 ∨ ci = 6 ∨ ci = 7 ∨ ci = 8 ∨ ci = 9 ∨ ci = 10 ∨ ci = 11 by omega) with rfl | rfl | rfl | rfl | rfl | rfl | rfl | rfl | rfl | rfl | rfl | rfl <;> assumption
theorem z_cl : ∀ ci, ci < 12 → vwCl[ci]? = some (zcl ci) := z_13 ⟨rfl, rfl, rfl, rfl, rfl, rfl, rfl, rfl, rfl, rfl, rfl, rfl⟩
theorem z_goodlay (C : String) (T : u_T) (k : Nat) : goodWord (u_lay C T k) = true := by
  unfold u_lay
  split <;> rfl
theorem z_layin {C : String} {T : u_T} {N : Nat} (h : ∀ w ∈ u_ws C T N, w ∈ lw_tbl) : ∀ w ∈ u_ws C T N, w ∈ zTB := by
  intro w hw
  refine List.mem_filter.mpr ⟨h w hw, ?_⟩
  unfold u_ws at hw
  obtain ⟨k, -, rfl⟩ := List.mem_map.mp hw
  exact z_goodlay C T k
theorem z_lays : ∀ ci, ci < 12 → ∀ w ∈ u_ws (zcl ci).1 (zcl ci).2.1 (zcl ci).2.2, w ∈ zTB := z_13 ⟨z_layin z_lay0, z_layin z_lay1, z_layin z_lay2, z_layin z_lay3, z_layin z_lay4, z_layin z_lay5, z_layin z_lay6, z_layin z_lay7, z_layin z_lay8, z_layin z_lay9, z_layin z_lay10, z_layin z_lay11⟩
theorem z_nms : ∀ ci, ci < 12 → ∀ a, a < (zcl ci).2.2 → ∀ b, b < (zcl ci).2.2 → a ≠ b → ((zcl ci).2.1 a).2.1 ≠ ((zcl ci).2.1 b).2.1 := z_13 ⟨nmX0, nmX1, nmX2, nmX3, nmX4, nmX5, nmX6, nmX7, nmX8, nmX9, nmX10, nmX11⟩
def zrefT : FieldType → Bool
  | .object _ => true
  | .array _ => true
  | _ => false
/-- the types of a class's fields: as their kinds say; references alone are final -/
def ztyT (ci : Nat) (ty : Nat → FieldType) (k : Nat) : Bool := match zft ci k with
  | 0 => decide (ty k = .int) && decide (((zcl ci).2.1 k).2.2.2 = false)
  | 5 => decide (ty k = .boolean) && decide (((zcl ci).2.1 k).2.2.2 = false)
  | 2 => zrefT (ty k) && decide (((zcl ci).2.1 k).2.2.2 = true)
  | _ => false
theorem z_tys : ∀ ci, ci < 12 → ∃ ty : Nat → FieldType, (∀ k, k < (zcl ci).2.2 → parseFieldDescriptor ((zcl ci).2.1 k).2.2.1 = some (ty k)) ∧ (List.range (zcl ci).2.2).all (ztyT ci ty) = true := z_13 ⟨⟨tyX0, tyX0_ok, by decide +kernel⟩, ⟨tyX1, tyX1_ok, by decide +kernel⟩, ⟨tyX2, tyX2_ok, by decide +kernel⟩, ⟨tyX3, tyX3_ok, by decide +kernel⟩, ⟨tyX4, tyX4_ok, by decide +kernel⟩, ⟨tyX5, tyX5_ok, by decide +kernel⟩, ⟨tyX6, tyX6_ok, by decide +kernel⟩, ⟨tyX7, tyX7_ok, by decide +kernel⟩, ⟨tyX8, tyX8_ok, by decide +kernel⟩, ⟨tyX9, tyX9_ok, by decide +kernel⟩, ⟨tyX10, tyX10_ok, by decide +kernel⟩, ⟨tyX11, tyX11_ok, by decide +kernel⟩⟩
theorem z_ty2 {ci : Nat} {ty : Nat → FieldType} (h : (List.range (zcl ci).2.2).all (ztyT ci ty) = true) {k : Nat} (hk : k < (zcl ci).2.2) : (zft ci k = 0 ∧ ty k = .int ∧ ((zcl ci).2.1 k).2.2.2 = false) ∨ (zft ci k = 5 ∧ ty k = .boolean ∧ ((zcl ci).2.1 k).2.2.2 = false) ∨ (zft ci k = 2 ∧ zrefT (ty k) = true ∧ ((zcl ci).2.1 k).2.2.2 = true) := by
  have h1 := List.all_eq_true.mp h k (List.mem_range.mpr hk)
  unfold ztyT at h1
  split at h1
  next e => simp only [Bool.and_eq_true, decide_eq_true_eq] at h1; exact Or.inl ⟨e, h1.1, h1.2⟩
  next e => simp only [Bool.and_eq_true, decide_eq_true_eq] at h1; exact Or.inr (Or.inl ⟨e, h1.1, h1.2⟩)
  next e => simp only [Bool.and_eq_true, decide_eq_true_eq] at h1; exact Or.inr (Or.inr ⟨e, h1.1, h1.2⟩)
  next => cases h1
theorem KD_pos {a : Int} (h : KD a ≠ 0) : 0 < a := by
  unfold KD at h
  split at h
  next q => exact absurd rfl h
  next q => omega
/-- what a field of an object holds -/
def zfv (B : Nat) (R m : zM) (ci : Nat) (a : Int) (j : Nat) : Value := if zft ci j = 2 then va_rf (zopt B (R a (j : Int))) else .int (Int32.ofInt (m a (j : Int)))
theorem KX_pos {R : zM} {a : Int} (h : KX R a ≠ 0) : 0 < a := by
  unfold KX at h
  split at h
  next h0 =>
    split at h
    next h1 => exact h1
    next => exact absurd rfl h
  next h0 => exact KD_pos h0
/-- a reference put into a cell changes no kind and no length -/
theorem KX_up {R : zM} {a j x : Int} (h : 0 < a) (c : Int) : KX (zup R a j x) c = KX R c ∧ LX (zup R a j x) c = LX R c := by
  have e1 : zup R a j x (-1) = R (-1) := by funext q; unfold zup; rw [if_neg (by omega)]
  have e2 : zup R a j x (-2) = R (-2) := by funext q; unfold zup; rw [if_neg (by omega)]
  unfold KX LX
  rw [e1, e2]
  exact ⟨rfl, rfl⟩
theorem KX_rf {R : zM} (c : Int) : KX R c = KX R c ∧ LX R c = LX R c := ⟨rfl, rfl⟩
theorem KX_D {R : zM} {a : Int} {k : Nat} (h : KD a = k + 1) : KX R a = k + 1 := by unfold KX; rw [if_neg (by omega), h]
theorem KX_d {R : zM} {a : Int} (h : KD a ≠ 0) : KX R a = KD a ∧ LX R a = LN a := by unfold KX LX; rw [if_neg h, if_neg h]; exact ⟨rfl, rfl⟩
theorem zcell_obj (B : Nat) (cy : ClassId × ClassId × ClassId × ClassId) (R m : zM) {a : Int} {ci : Nat} (h : KX R a = ci + 1) (hc : ci < 12) : zcell B cy R m a = .inr (ci, (List.range (znf ci)).map (zfv B R m ci a)) := by
  unfold zcell
  rw [if_neg (by omega), if_neg (by omega), if_neg (by omega), if_neg (by omega), h]
  rfl
theorem zcell_i (B : Nat) (cy : ClassId × ClassId × ClassId × ClassId) (R m : zM) {a : Int} (h : KX R a = 20) : zcell B cy R m a = .inl (cy.1, (LX R a).toNat, .inl (fun j => Int32.ofInt (m a (j : Int)))) := by
  unfold zcell
  rw [if_pos h]
theorem zcell_l (B : Nat) (cy : ClassId × ClassId × ClassId × ClassId) (R m : zM) {a : Int} (h : KX R a = 21) : zcell B cy R m a = .inl (cy.2.1, (LX R a).toNat, .inr (.inl (fun j => Int64.ofInt (m a (j : Int))))) := by
  unfold zcell
  rw [if_neg (by omega), if_pos h]
theorem zcell_z (B : Nat) (cy : ClassId × ClassId × ClassId × ClassId) (R m : zM) {a : Int} (h : KX R a = 22) : zcell B cy R m a = .inl (cy.2.2.1, (LX R a).toNat, .inl (fun j => Int32.ofInt (m a (j : Int)))) := by
  unfold zcell
  rw [if_neg (by omega), if_neg (by omega), if_pos h]
theorem zcell_q (B : Nat) (cy : ClassId × ClassId × ClassId × ClassId) (R m : zM) {a : Int} (h : KX R a = 23) : zcell B cy R m a = .inl (cy.2.2.2, (LX R a).toNat, .inr (.inr (.inr (.inr (fun j => zopt B (R a (j : Int))))))) := by
  unfold zcell
  rw [if_neg (by omega), if_neg (by omega), if_neg (by omega), if_pos h]
theorem z_map_set {α : Type} {f g : Nat → α} {n j : Nat} {v : α} (hv : g j = v) (h : ∀ k, k ≠ j → g k = f k) : ((List.range n).map f).set j v = (List.range n).map g := by
  apply List.ext_getElem?
  intro k
  by_cases hk : k < n
  · by_cases hj : j = k
    · subst hj
      rw [List.getElem?_set_self (by simpa using hk)]
      simp [hk, hv]
    · rw [List.getElem?_set_ne hj]
      simp [hk, h k (fun z => hj z.symm)]
  · rw [List.getElem?_eq_none (by simp; omega), List.getElem?_eq_none (by simp; omega)]
theorem z_idx {i : Int} {n : Int} (h0 : 0 ≤ i) (h1 : i < n) (hi : zi32 i) : vp_in (Int32.ofInt i) n.toNat ∧ (Int32.ofInt i).toNatClampNeg = i.toNat := by
  have e : (Int32.ofInt i).toInt = i := z_of hi
  constructor
  · rw [vp_in_iff, e]
    omega
  · show (Int32.ofInt i).toInt.toNat = i.toNat
    rw [e]

section STORE
variable {p : Program} {l : Launch} {e : Env} {Rm : Room} {s : State} {mi : MethodId} {args : Array Value} {below : List Frame} {meth : Method} {c : Code} {H : Heap} {locs : List Loc} {cells slots : Nat} {Q : State → Prop} {pc : Nat} {LS : Array Slot} {rest : List Value} {D : va_G} {A : Nat → Prop} {a : Nat} {tys : List (ClassId × FieldType)} {ws : va_W} {H0 : Heap}
/-- a field is written: the world behind it, and that no cell came or went -/
theorem z_putw (hx : p.tables.exec = Jvm.exec) {y : Nat} (hb : c.code = zmb y) {own : String} {ci idx : Nat} (hc : ci < 12) (hts : ∀ w ∈ zTB, w.before args s = true) (hown : s.vm.findClass own = some mi.cls) (hK : va_K D vwCl tys s) (hP : va_P D vwCl ws H) (hD : va_D A ws) (hS : va_S A H0 H locs) (q0 : Nat) {fs : List Value} (he : ws[q0]? = some (a, .inr (ci, fs)))
    (k : Nat) (hk : k < (zcl ci).2.2) (hlink : Cond.fieldLink own idx ((zcl ci).2.1 k).1 ((zcl ci).2.1 k).2.1 ((zcl ci).2.1 k).2.2.1 ∈ zTB) {ty : Nat → FieldType} (t1 : ∀ k, k < (zcl ci).2.2 → parseFieldDescriptor ((zcl ci).2.1 k).2.2.1 = some (ty k)) {v : Value} (hfin : ((zcl ci).2.1 k).2.2.2 = false ∨ (((zcl ci).2.1 k).2.2.2 = true ∧ meth.name = "<init>" ∧ ((zcl ci).2.1 k).1 = own)) (hn : narrow (ty k) v = v) (hfit : fits (ty k) v = true) (hl : k < fs.length) (hd : decode (zmb y) pc = .ok (.putfield idx, 3))
    (kk : ∀ (H1 : Heap) (locs1 : List Loc), va_P D vwCl (ws.set q0 (a, .inr (ci, fs.set k v))) H1 → va_S A H0 H1 locs1 → H1.size = H.size → W p l e Rm s mi args below meth c H1 locs1 cells slots Q (F0 mi (pc + 3) LS rest)) : W p l e Rm s mi args below meth c H locs cells slots Q (F0 mi pc LS (v :: .ref a :: rest)) := by
  have hcl := z_cl ci hc
  have hlay := z_lays ci hc
  have hap := va_apart (own := own) hts hlay ty t1 (z_nms ci hc) hK hcl
  obtain ⟨r, h1, cell, q1, q2, q3, q4⟩ := hP q0 _ he
  have hr : r = zcl ci := Option.some.inj (h1.symm.trans hcl)
  subst hr
  obtain ⟨hSl, hfc, kC, hkC, hkind⟩ := hK.1 ci _ hcl
  obtain ⟨cf, kf, fi, f, hi, hsl⟩ := hSl k hk
  have hst := (u_facts hfc hkC (u_lays hts hlay hk) hi).1
  have fin : ∀ H' : Heap, H'[a]? = some (cell.setSlot f.slot v) → H'.size = H.size → (∀ q, q ≠ a → H'[q]? = H[q]?) → W p l e Rm s mi args below meth c H' (locs ++ [⟨a, f.slot⟩]) cells slots Q (F0 mi (pc + 3) LS rest) := by
    intro H' e1 e2 e3
    rw [hsl] at e1 ⊢
    exact kk H' _ (hP.set hD he ⟨_, hcl, t_OB.to (V := updV (vp_V fs) k v) ⟨_, e1, q2, q3, t_set q4 hap hk v⟩ (fun j _ => vp_updV_set hl v j)⟩ e3) (hS.put e2 e3 (hD.2 q0 _ he)) e2
  have hlk := hts _ hlink
  rcases hfin with hfin | ⟨hfin, hini, hdecl⟩
  · have hw := hts _ (hlay _ (u_in_lay hk))
    unfold u_lay at hw
    rw [if_neg (by rw [hfin]; decide)] at hw
    have h6 := u_store hfc hkC hkind hw hi (t1 k hk) hn hfit
    exact W.putK hx hb (f := f) ⟨hown, hlk, ⟨_, _, _, hi⟩, hst⟩ (by rw [q2]; exact h6) q1 q3 (by rw [hsl]; exact k2_hasslot (q4 k hk)) rfl rfl hd fin
  · have hw := hts _ (hlay _ (u_in_lay hk))
    unfold u_lay at hw
    rw [if_pos hfin] at hw
    have hcf : mi.cls = cf := by
      obtain ⟨_, _, c', _, _, _, -, -, hf', -, -, -, hown2, -⟩ := Cond.laysFinal_spec hw
      have e1 : c' = cf := by have := hi.symm.trans hf'; simp at this; exact this.1.symm
      rw [hdecl] at hown2
      rw [← e1]; exact Option.some.inj (hown.symm.trans hown2)
    have h6 := u_fits hfc hkC hkind (Or.inr hw) hi (t1 k hk) hn hfit
    exact W.putFinK hx hb hown hlk hi hst hcf hini (by rw [q2]; exact h6) q1 q3 (by rw [hsl]; exact k2_hasslot (q4 k hk)) rfl rfl hd fin
end STORE
theorem z_okR {R R' : zM} {l : List zV} (h : R 0 0 ≤ R' 0 0) (hl : ∀ v ∈ l, zvok R v) : ∀ v ∈ l, zvok R' v := by
  intro v hv
  have h1 := hl v hv
  unfold zvok at h1 ⊢
  split at h1 <;> first | exact h1 | exact ⟨h1.1, Int.le_trans h1.2 h⟩ | trivial
section MORE
variable {X : zX} {y pc : Nat} {ls st : List zV} {R m : zM}

theorem g_if_eq {off x1 : Int} (C : zCx X y) (hd : decode (zmb y) pc = .ok (.ifCond .eq off, 3)) (h0 : 0 ≤ (pc : Int) + off) (k : x1 = 0 → zG X y ((pc : Int) + off).toNat ls st R m) (k2 : ¬ (x1 = 0) → zG X y (pc + 3) ls st R m) : zG X y pc ls ((0, x1) :: st) R m := by
  obtain ⟨p, l, e, Rm, s, mi, args, below, meth, c, Q, ⟨B, b, adK, D, cy, L, xs⟩, Re, rr⟩ := X
  obtain ⟨hx, hb, hml, hown, hts, hSt, hfr, hlo, hinit, hrc, hrs⟩ := C
  intro H LS locs cells slots hJ hl hls hst hR hc hs
  show W p l e Rm s mi args below meth c H locs cells slots Q (F0 mi pc LS (.int (Int32.ofInt x1) :: st.map (zval B adK b)))
  have h1 : zi32 x1 := z_hd hst
  have h2 : zi32 0 := z_0
  have hi := z_inj h1 z_0
  rw [show Int32.ofInt 0 = 0 from rfl] at hi
  by_cases hq : x1 = 0
  · refine lv_if_eq (tgt := ((pc : Int) + off).toNat) hx hb hd (by omega) (fun _ => ?_) (fun h => ?_)
    · exact k hq H LS locs cells slots hJ hl hls (z_tl hst) hR hc hs
    · exfalso
      first | exact h (hi.mpr hq) | exact hq ((z_inj h1 h2).mp h) | (simp only [ge_iff_le, gt_iff_lt] at h; exact h (hi.mpr hq))
  · refine lv_if_eq (tgt := ((pc : Int) + off).toNat) hx hb hd (by omega) (fun h => ?_) (fun _ => ?_)
    · exfalso
      first | exact hq (hi.mp h) | (simp only [ge_iff_le, gt_iff_lt] at h; exact hq (hi.mp h))
    · exact k2 hq H LS locs cells slots hJ hl hls (z_tl hst) hR hc hs
theorem g_if_ne {off x1 : Int} (C : zCx X y) (hd : decode (zmb y) pc = .ok (.ifCond .ne off, 3)) (h0 : 0 ≤ (pc : Int) + off) (k : ¬ x1 = 0 → zG X y ((pc : Int) + off).toNat ls st R m) (k2 : ¬ (¬ x1 = 0) → zG X y (pc + 3) ls st R m) : zG X y pc ls ((0, x1) :: st) R m := by
  obtain ⟨p, l, e, Rm, s, mi, args, below, meth, c, Q, ⟨B, b, adK, D, cy, L, xs⟩, Re, rr⟩ := X
  obtain ⟨hx, hb, hml, hown, hts, hSt, hfr, hlo, hinit, hrc, hrs⟩ := C
  intro H LS locs cells slots hJ hl hls hst hR hc hs
  show W p l e Rm s mi args below meth c H locs cells slots Q (F0 mi pc LS (.int (Int32.ofInt x1) :: st.map (zval B adK b)))
  have h1 : zi32 x1 := z_hd hst
  have h2 : zi32 0 := z_0
  have hi := not_congr (z_inj h1 z_0)
  rw [show Int32.ofInt 0 = 0 from rfl] at hi
  by_cases hq : ¬ x1 = 0
  · refine lv_if_ne (tgt := ((pc : Int) + off).toNat) hx hb hd (by omega) (fun _ => ?_) (fun h => ?_)
    · exact k hq H LS locs cells slots hJ hl hls (z_tl hst) hR hc hs
    · exfalso
      first | exact h (hi.mpr hq) | exact hq ((z_inj h1 h2).mp h) | (simp only [ge_iff_le, gt_iff_lt] at h; exact h (hi.mpr hq))
  · refine lv_if_ne (tgt := ((pc : Int) + off).toNat) hx hb hd (by omega) (fun h => ?_) (fun _ => ?_)
    · exfalso
      first | exact hq (hi.mp h) | (simp only [ge_iff_le, gt_iff_lt] at h; exact hq (hi.mp h))
    · exact k2 hq H LS locs cells slots hJ hl hls (z_tl hst) hR hc hs
theorem g_if_lt {off x1 : Int} (C : zCx X y) (hd : decode (zmb y) pc = .ok (.ifCond .lt off, 3)) (h0 : 0 ≤ (pc : Int) + off) (k : x1 < 0 → zG X y ((pc : Int) + off).toNat ls st R m) (k2 : ¬ (x1 < 0) → zG X y (pc + 3) ls st R m) : zG X y pc ls ((0, x1) :: st) R m := by
  obtain ⟨p, l, e, Rm, s, mi, args, below, meth, c, Q, ⟨B, b, adK, D, cy, L, xs⟩, Re, rr⟩ := X
  obtain ⟨hx, hb, hml, hown, hts, hSt, hfr, hlo, hinit, hrc, hrs⟩ := C
  intro H LS locs cells slots hJ hl hls hst hR hc hs
  show W p l e Rm s mi args below meth c H locs cells slots Q (F0 mi pc LS (.int (Int32.ofInt x1) :: st.map (zval B adK b)))
  have h1 : zi32 x1 := z_hd hst
  have h2 : zi32 0 := z_0
  have hi := z_lt h1 z_0
  rw [show Int32.ofInt 0 = 0 from rfl] at hi
  by_cases hq : x1 < 0
  · refine lv_if_lt (tgt := ((pc : Int) + off).toNat) hx hb hd (by omega) (fun _ => ?_) (fun h => ?_)
    · exact k hq H LS locs cells slots hJ hl hls (z_tl hst) hR hc hs
    · exfalso
      first | exact h (hi.mpr hq) | exact hq ((z_inj h1 h2).mp h) | (simp only [ge_iff_le, gt_iff_lt] at h; exact h (hi.mpr hq))
  · refine lv_if_lt (tgt := ((pc : Int) + off).toNat) hx hb hd (by omega) (fun h => ?_) (fun _ => ?_)
    · exfalso
      first | exact hq (hi.mp h) | (simp only [ge_iff_le, gt_iff_lt] at h; exact hq (hi.mp h))
    · exact k2 hq H LS locs cells slots hJ hl hls (z_tl hst) hR hc hs
theorem g_if_ge {off x1 : Int} (C : zCx X y) (hd : decode (zmb y) pc = .ok (.ifCond .ge off, 3)) (h0 : 0 ≤ (pc : Int) + off) (k : 0 ≤ x1 → zG X y ((pc : Int) + off).toNat ls st R m) (k2 : ¬ (0 ≤ x1) → zG X y (pc + 3) ls st R m) : zG X y pc ls ((0, x1) :: st) R m := by
  obtain ⟨p, l, e, Rm, s, mi, args, below, meth, c, Q, ⟨B, b, adK, D, cy, L, xs⟩, Re, rr⟩ := X
  obtain ⟨hx, hb, hml, hown, hts, hSt, hfr, hlo, hinit, hrc, hrs⟩ := C
  intro H LS locs cells slots hJ hl hls hst hR hc hs
  show W p l e Rm s mi args below meth c H locs cells slots Q (F0 mi pc LS (.int (Int32.ofInt x1) :: st.map (zval B adK b)))
  have h1 : zi32 x1 := z_hd hst
  have h2 : zi32 0 := z_0
  have hi := z_le z_0 h1
  rw [show Int32.ofInt 0 = 0 from rfl] at hi
  by_cases hq : 0 ≤ x1
  · refine lv_if_ge (tgt := ((pc : Int) + off).toNat) hx hb hd (by omega) (fun _ => ?_) (fun h => ?_)
    · exact k hq H LS locs cells slots hJ hl hls (z_tl hst) hR hc hs
    · exfalso
      first | exact h (hi.mpr hq) | exact hq ((z_inj h1 h2).mp h) | (simp only [ge_iff_le, gt_iff_lt] at h; exact h (hi.mpr hq))
  · refine lv_if_ge (tgt := ((pc : Int) + off).toNat) hx hb hd (by omega) (fun h => ?_) (fun _ => ?_)
    · exfalso
      first | exact hq (hi.mp h) | (simp only [ge_iff_le, gt_iff_lt] at h; exact hq (hi.mp h))
    · exact k2 hq H LS locs cells slots hJ hl hls (z_tl hst) hR hc hs
theorem g_if_gt {off x1 : Int} (C : zCx X y) (hd : decode (zmb y) pc = .ok (.ifCond .gt off, 3)) (h0 : 0 ≤ (pc : Int) + off) (k : 0 < x1 → zG X y ((pc : Int) + off).toNat ls st R m) (k2 : ¬ (0 < x1) → zG X y (pc + 3) ls st R m) : zG X y pc ls ((0, x1) :: st) R m := by
  obtain ⟨p, l, e, Rm, s, mi, args, below, meth, c, Q, ⟨B, b, adK, D, cy, L, xs⟩, Re, rr⟩ := X
  obtain ⟨hx, hb, hml, hown, hts, hSt, hfr, hlo, hinit, hrc, hrs⟩ := C
  intro H LS locs cells slots hJ hl hls hst hR hc hs
  show W p l e Rm s mi args below meth c H locs cells slots Q (F0 mi pc LS (.int (Int32.ofInt x1) :: st.map (zval B adK b)))
  have h1 : zi32 x1 := z_hd hst
  have h2 : zi32 0 := z_0
  have hi := z_lt z_0 h1
  rw [show Int32.ofInt 0 = 0 from rfl] at hi
  by_cases hq : 0 < x1
  · refine lv_if_gt (tgt := ((pc : Int) + off).toNat) hx hb hd (by omega) (fun _ => ?_) (fun h => ?_)
    · exact k hq H LS locs cells slots hJ hl hls (z_tl hst) hR hc hs
    · exfalso
      first | exact h (hi.mpr hq) | exact hq ((z_inj h1 h2).mp h) | (simp only [ge_iff_le, gt_iff_lt] at h; exact h (hi.mpr hq))
  · refine lv_if_gt (tgt := ((pc : Int) + off).toNat) hx hb hd (by omega) (fun h => ?_) (fun _ => ?_)
    · exfalso
      first | exact hq (hi.mp h) | (simp only [ge_iff_le, gt_iff_lt] at h; exact hq (hi.mp h))
    · exact k2 hq H LS locs cells slots hJ hl hls (z_tl hst) hR hc hs
theorem g_if_le {off x1 : Int} (C : zCx X y) (hd : decode (zmb y) pc = .ok (.ifCond .le off, 3)) (h0 : 0 ≤ (pc : Int) + off) (k : x1 ≤ 0 → zG X y ((pc : Int) + off).toNat ls st R m) (k2 : ¬ (x1 ≤ 0) → zG X y (pc + 3) ls st R m) : zG X y pc ls ((0, x1) :: st) R m := by
  obtain ⟨p, l, e, Rm, s, mi, args, below, meth, c, Q, ⟨B, b, adK, D, cy, L, xs⟩, Re, rr⟩ := X
  obtain ⟨hx, hb, hml, hown, hts, hSt, hfr, hlo, hinit, hrc, hrs⟩ := C
  intro H LS locs cells slots hJ hl hls hst hR hc hs
  show W p l e Rm s mi args below meth c H locs cells slots Q (F0 mi pc LS (.int (Int32.ofInt x1) :: st.map (zval B adK b)))
  have h1 : zi32 x1 := z_hd hst
  have h2 : zi32 0 := z_0
  have hi := z_le h1 z_0
  rw [show Int32.ofInt 0 = 0 from rfl] at hi
  by_cases hq : x1 ≤ 0
  · refine lv_if_le (tgt := ((pc : Int) + off).toNat) hx hb hd (by omega) (fun _ => ?_) (fun h => ?_)
    · exact k hq H LS locs cells slots hJ hl hls (z_tl hst) hR hc hs
    · exfalso
      first | exact h (hi.mpr hq) | exact hq ((z_inj h1 h2).mp h) | (simp only [ge_iff_le, gt_iff_lt] at h; exact h (hi.mpr hq))
  · refine lv_if_le (tgt := ((pc : Int) + off).toNat) hx hb hd (by omega) (fun h => ?_) (fun _ => ?_)
    · exfalso
      first | exact hq (hi.mp h) | (simp only [ge_iff_le, gt_iff_lt] at h; exact hq (hi.mp h))
    · exact k2 hq H LS locs cells slots hJ hl hls (z_tl hst) hR hc hs
theorem g_ifnull {off x1 : Int} (C : zCx X y) (hd : decode (zmb y) pc = .ok (.ifnull off, 3)) (h0 : 0 ≤ (pc : Int) + off) (k : x1 = 0 → zG X y ((pc : Int) + off).toNat ls st R m) (k2 : ¬ (x1 = 0) → zG X y (pc + 3) ls st R m) : zG X y pc ls ((2, x1) :: st) R m := by
  obtain ⟨p, l, e, Rm, s, mi, args, below, meth, c, Q, ⟨B, b, adK, D, cy, L, xs⟩, Re, rr⟩ := X
  obtain ⟨hx, hb, hml, hown, hts, hSt, hfr, hlo, hinit, hrc, hrs⟩ := C
  intro H LS locs cells slots hJ hl hls hst hR hc hs
  show W p l e Rm s mi args below meth c H locs cells slots Q (F0 mi pc LS (zval B adK b (2, x1) :: st.map (zval B adK b)))
  have h1 : 0 ≤ x1 ∧ x1 ≤ R 0 0 := z_hd hst
  by_cases hz : x1 = 0
  · have e : zval B adK b (2, x1) = .null := by simp [zval, hz]
    rw [e]
    exact lv_ifnullN (tgt := ((pc : Int) + off).toNat) hx hb hd (by omega) (k hz H LS locs cells slots hJ hl hls (z_tl hst) hR hc hs)
  · have e : zval B adK b (2, x1) = .ref (B + (x1 - 1).toNat) := by
      have : ¬ x1 ≤ 0 := by omega
      simp [zval, this]
    rw [e]
    exact lv_ifnull hx hb hd (k2 hz H LS locs cells slots hJ hl hls (z_tl hst) hR hc hs)
theorem g_ifnonnull {off x1 : Int} (C : zCx X y) (hd : decode (zmb y) pc = .ok (.ifnonnull off, 3)) (h0 : 0 ≤ (pc : Int) + off) (k : ¬ x1 = 0 → zG X y ((pc : Int) + off).toNat ls st R m) (k2 : ¬ (¬ x1 = 0) → zG X y (pc + 3) ls st R m) : zG X y pc ls ((2, x1) :: st) R m := by
  obtain ⟨p, l, e, Rm, s, mi, args, below, meth, c, Q, ⟨B, b, adK, D, cy, L, xs⟩, Re, rr⟩ := X
  obtain ⟨hx, hb, hml, hown, hts, hSt, hfr, hlo, hinit, hrc, hrs⟩ := C
  intro H LS locs cells slots hJ hl hls hst hR hc hs
  show W p l e Rm s mi args below meth c H locs cells slots Q (F0 mi pc LS (zval B adK b (2, x1) :: st.map (zval B adK b)))
  have h1 : 0 ≤ x1 ∧ x1 ≤ R 0 0 := z_hd hst
  by_cases hz : x1 = 0
  · have e : zval B adK b (2, x1) = .null := by simp [zval, hz]
    rw [e]
    exact lv_ifnonnullN hx hb hd (k2 (fun z => z hz) H LS locs cells slots hJ hl hls (z_tl hst) hR hc hs)
  · have e : zval B adK b (2, x1) = .ref (B + (x1 - 1).toNat) := by
      have : ¬ x1 ≤ 0 := by omega
      simp [zval, this]
    rw [e]
    exact lv_ifnonnull (tgt := ((pc : Int) + off).toNat) hx hb hd (by omega) (k hz H LS locs cells slots hJ hl hls (z_tl hst) hR hc hs)
theorem g_tabOut {d lo hi x1 : Int} {offs : Array Int} {n : Nat} (C : zCx X y) (hd : decode (zmb y) pc = .ok (.tableswitch d lo hi offs, n)) (h0 : 0 ≤ (pc : Int) + d) (hq : x1 < lo ∨ hi < x1) (k : zG X y (((pc : Int) + d).toNat) ls (st) R m) : zG X y pc ls ((0, x1) :: st) R m := by
  obtain ⟨p, l, e, Rm, s, mi, args, below, meth, c, Q, ⟨B, b, adK, D, cy, L, xs⟩, Re, rr⟩ := X
  obtain ⟨hx, hb, hml, hown, hts, hSt, hfr, hlo, hinit, hrc, hrs⟩ := C
  intro H LS locs cells slots hJ hl hls hst hR hc hs
  show W p l e Rm s mi args below meth c H locs cells slots Q (F0 mi pc LS (.int (Int32.ofInt x1) :: st.map (zval B adK b)))
  have h1 : zi32 x1 := z_hd hst
  refine lv_tableOut (tgt := ((pc : Int) + d).toNat) hx hb hd (by rw [z_of h1]; exact hq) (by omega) ?_
  exact k H LS locs cells slots hJ hl hls (z_tl hst) hR hc hs
theorem g_tabIn {d lo hi x1 off : Int} {offs : Array Int} {n : Nat} (C : zCx X y) (hd : decode (zmb y) pc = .ok (.tableswitch d lo hi offs, n)) (h0 : 0 ≤ (pc : Int) + off) (hq : ¬ (x1 < lo ∨ hi < x1)) (ho : offs[(x1 - lo).toNat]? = some off) (k : zG X y (((pc : Int) + off).toNat) ls (st) R m) : zG X y pc ls ((0, x1) :: st) R m := by
  obtain ⟨p, l, e, Rm, s, mi, args, below, meth, c, Q, ⟨B, b, adK, D, cy, L, xs⟩, Re, rr⟩ := X
  obtain ⟨hx, hb, hml, hown, hts, hSt, hfr, hlo, hinit, hrc, hrs⟩ := C
  intro H LS locs cells slots hJ hl hls hst hR hc hs
  show W p l e Rm s mi args below meth c H locs cells slots Q (F0 mi pc LS (.int (Int32.ofInt x1) :: st.map (zval B adK b)))
  have h1 : zi32 x1 := z_hd hst
  refine lv_tableIn (tgt := ((pc : Int) + off).toNat) hx hb hd (by rw [z_of h1]; omega) (by rw [z_of h1]; omega) (by rw [z_of h1]; exact ho) (by omega) ?_
  exact k H LS locs cells slots hJ hl hls (z_tl hst) hR hc hs
theorem g_lookup {d x1 : Int} {ps : Array (Int × Int)} {n : Nat} (C : zCx X y) (hd : decode (zmb y) pc = .ok (.lookupswitch d ps, n)) (hp : (ps.toList.zip (ps.toList.drop 1)).all (fun (a, next) => a.1 < next.1) = true) (h0 : 0 ≤ (pc : Int) + Op.lookupswitch.offset ps.toList d x1) (k : zG X y (((pc : Int) + Op.lookupswitch.offset ps.toList d x1).toNat) ls (st) R m) : zG X y pc ls ((0, x1) :: st) R m := by
  obtain ⟨p, l, e, Rm, s, mi, args, below, meth, c, Q, ⟨B, b, adK, D, cy, L, xs⟩, Re, rr⟩ := X
  obtain ⟨hx, hb, hml, hown, hts, hSt, hfr, hlo, hinit, hrc, hrs⟩ := C
  intro H LS locs cells slots hJ hl hls hst hR hc hs
  show W p l e Rm s mi args below meth c H locs cells slots Q (F0 mi pc LS (.int (Int32.ofInt x1) :: st.map (zval B adK b)))
  have h1 : zi32 x1 := z_hd hst
  refine lv_lookup (off := Op.lookupswitch.offset ps.toList d x1) (tgt := ((pc : Int) + Op.lookupswitch.offset ps.toList d x1).toNat) hx hb hd hp (by rw [z_of h1]) (by omega) ?_
  exact k H LS locs cells slots hJ hl hls (z_tl hst) hR hc hs
theorem g_ldc {n : Nat} {v : Int} (C : zCx X y) (hd : decode (zmb y) pc = .ok (.ldc n, 2)) (hz : zcst (zoc y) n = some (0, v)) (k : zG X y (pc + 2) ls ((0, v) :: st) R m) : zG X y pc ls st R m := by
  obtain ⟨p, l, e, Rm, s, mi, args, below, meth, c, Q, ⟨B, b, adK, D, cy, L, xs⟩, Re, rr⟩ := X
  obtain ⟨hx, hb, hml, hown, hts, hSt, hfr, hlo, hinit, hrc, hrs⟩ := C
  intro H LS locs cells slots hJ hl hls hst hR hc hs
  show W p l e Rm s mi args below meth c H locs cells slots Q (F0 mi pc LS (st.map (zval B adK b)))
  obtain ⟨h1, h2⟩ := (zcst_ok hz).1 rfl
  refine lv_ldc hx hb hown (hts _ h2) hd ?_
  exact k H LS locs cells slots hJ hl hls (z_push h1 hst) hR hc hs
theorem g_ldcw {n : Nat} {v : Int} (C : zCx X y) (hd : decode (zmb y) pc = .ok (.ldc_w n, 3)) (hz : zcst (zoc y) n = some (0, v)) (k : zG X y (pc + 3) ls ((0, v) :: st) R m) : zG X y pc ls st R m := by
  obtain ⟨p, l, e, Rm, s, mi, args, below, meth, c, Q, ⟨B, b, adK, D, cy, L, xs⟩, Re, rr⟩ := X
  obtain ⟨hx, hb, hml, hown, hts, hSt, hfr, hlo, hinit, hrc, hrs⟩ := C
  intro H LS locs cells slots hJ hl hls hst hR hc hs
  show W p l e Rm s mi args below meth c H locs cells slots Q (F0 mi pc LS (st.map (zval B adK b)))
  obtain ⟨h1, h2⟩ := (zcst_ok hz).1 rfl
  refine lv_ldcw hx hb hown (hts _ h2) hd ?_
  exact k H LS locs cells slots hJ hl hls (z_push h1 hst) hR hc hs
theorem g_ldc2 {n : Nat} {v : Int} (C : zCx X y) (hd : decode (zmb y) pc = .ok (.ldc2_w n, 3)) (hz : zcst (zoc y) n = some (1, v)) (k : zG X y (pc + 3) ls ((1, v) :: st) R m) : zG X y pc ls st R m := by
  obtain ⟨p, l, e, Rm, s, mi, args, below, meth, c, Q, ⟨B, b, adK, D, cy, L, xs⟩, Re, rr⟩ := X
  obtain ⟨hx, hb, hml, hown, hts, hSt, hfr, hlo, hinit, hrc, hrs⟩ := C
  intro H LS locs cells slots hJ hl hls hst hR hc hs
  show W p l e Rm s mi args below meth c H locs cells slots Q (F0 mi pc LS (st.map (zval B adK b)))
  obtain ⟨h1, h2⟩ := (zcst_ok hz).2.1 rfl
  refine lv_ldc2 hx hb hown (hts _ h2) hd ?_
  exact k H LS locs cells slots hJ hl hls (z_push h1 hst) hR hc hs
theorem g_ldcS {n : Nat} {v : Int} (C : zCx X y) (hd : decode (zmb y) pc = .ok (.ldc n, 2)) (hz : zcst (zoc y) n = some (3, v)) (k : zG X y (pc + 2) ls ((3, v) :: st) R m) : zG X y pc ls st R m := by
  obtain ⟨p, l, e, Rm, s, mi, args, below, meth, c, Q, ⟨B, b, adK, D, cy, L, xs⟩, Re, rr⟩ := X
  obtain ⟨hx, hb, hml, hown, hts, hSt, hfr, hlo, hinit, hrc, hrs⟩ := C
  intro H LS locs cells slots hJ hl hls hst hR hc hs
  show W p l e Rm s mi args below meth c H locs cells slots Q (F0 mi pc LS (st.map (zval B adK b)))
  obtain ⟨h1, h2, q, hq, e1, e2, e3⟩ := (zcst_ok hz).2.2 rfl
  have hv := hSt.2.2.2.1.2.1 q hq (by rw [e3])
  rw [e1, e2, e3] at hv
  refine va_ldcS hx hb hown hv hd ?_
  exact k H LS locs cells slots hJ hl hls (z_push (show zvok R (3, v) from ⟨h1, h2⟩) hst) hR hc hs
theorem g_get {n ci j : Nat} {a : Int} (C : zCx X y) (hd : decode (zmb y) pc = .ok (.getfield n, 3)) (hz : zfld (zoc y) n = some (ci, j)) (ha : KX R a = ci + 1) (k : zG X y (pc + 3) ls ((if zft ci j = 2 then (2, R a j) else (0, m a j)) :: st) R m) : zG X y pc ls ((2, a) :: st) R m := by
  obtain ⟨p, l, e, Rm, s, mi, args, below, meth, c, Q, ⟨B, b, adK, D, cy, L, xs⟩, Re, rr⟩ := X
  obtain ⟨hx, hb, hml, hown, hts, hSt, hfr, hlo, hinit, hrc, hrs⟩ := C
  intro H LS locs cells slots hJ hl hls hst hR hc hs
  show W p l e Rm s mi args below meth c H locs cells slots Q (F0 mi pc LS (zval B adK b (2, a) :: st.map (zval B adK b)))
  obtain ⟨f1, f2, f3, f4⟩ := zfld_ok hz
  have h0 : 0 < a := KX_pos (R := R) (by omega)
  have h1 : 0 ≤ a ∧ a ≤ R 0 0 := z_hd hst
  obtain ⟨jP, jZ, jm, jS, jX⟩ := id hJ
  have ez : zval B adK b (2, a) = .ref (B + (a - 1).toNat) := by
    have : ¬ a ≤ 0 := by omega
    simp [zval, this]
  rw [ez]
  have he := zws_lab B cy R m (n := (R 0 0).toNat) h0 (by omega)
  rw [zcell_obj B cy R m ha f1] at he
  refine va_get hx hb hts (z_lays ci f1) hown hSt.1 jP _ he (z_cl ci f1) j f2 (hts _ f3) (fun _ h => h) (v := zfv B R m ci a j) (by simp [f2]) hd ?_
  have hk := k H LS locs cells slots hJ hl hls (z_push (by
    by_cases h2 : zft ci j = 2
    · rw [if_pos h2]
      exact jm.2.2.2.2.1 a j h0
    · rw [if_neg h2]
      exact jm.2.2.1 a j (by omega)) (z_tl hst)) hR hc hs
  by_cases h2 : zft ci j = 2
  · rw [if_pos h2] at hk
    unfold zfv
    rw [if_pos h2, z_rf B adK b]
    exact hk
  · rw [if_neg h2] at hk
    unfold zfv
    rw [if_neg h2]
    exact hk
theorem g_putI {n ci j : Nat} {a x : Int} (C : zCx X y) (hd : decode (zmb y) pc = .ok (.putfield n, 3)) (hz : zfld (zoc y) n = some (ci, j)) (ha : KX R a = ci + 1) (hf : zft ci j = 0) (k : zG X y (pc + 3) ls st R (zup m a j x)) : zG X y pc ls ((0, x) :: (2, a) :: st) R m := by
  obtain ⟨p, l, e, Rm, s, mi, args, below, meth, c, Q, ⟨B, b, adK, D, cy, L, xs⟩, Re, rr⟩ := X
  obtain ⟨hx, hb, hml, hown, hts, hSt, hfr, hlo, hinit, hrc, hrs⟩ := C
  intro H LS locs cells slots hJ hl hls hst hR hc hs
  show W p l e Rm s mi args below meth c H locs cells slots Q (F0 mi pc LS (.int (Int32.ofInt x) :: zval B adK b (2, a) :: st.map (zval B adK b)))
  obtain ⟨f1, f2, f3, f4⟩ := zfld_ok hz
  obtain ⟨ty, t1, t2⟩ := z_tys ci f1
  have h0 : 0 < a := KX_pos (R := R) (by omega)
  have h1 : 0 ≤ a ∧ a ≤ R 0 0 := z_hd (z_tl hst)
  obtain ⟨jP, jZ, jm, jS, jL, jX⟩ := id hJ
  have ez : zval B adK b (2, a) = .ref (B + (a - 1).toNat) := by
    have : ¬ a ≤ 0 := by omega
    simp [zval, this]
  rw [ez]
  have he := zws_lab B cy R m (n := (R 0 0).toNat) h0 (by omega)
  rw [zcell_obj B cy R m ha f1] at he
  have h3 : zi32 x := z_hd hst
  have hty : ty j = .int ∧ ((zcl ci).2.1 j).2.2.2 = false := by
    rcases z_ty2 t2 f2 with ⟨q1, q2, q3⟩ | ⟨q1, q2, q3⟩ | ⟨q1, q2, q3⟩
    · exact ⟨q2, q3⟩
    · omega
    · omega
  refine z_putw hx hb f1 hts hown hSt.1 jP (zws_D B cy R m _) jS _ he j f2 f3 t1 (v := .int (Int32.ofInt x)) (Or.inl hty.2) (by rw [hty.1]; rfl) (by rw [hty.1]; rfl) (by simpa using f2) hd (fun H1 locs1 hP1 hS1 hZ1 => ?_)
  have hcell : zcell B cy R (zup m a j x) a = .inr (ci, ((List.range (znf ci)).map (zfv B R m ci a)).set j (.int (Int32.ofInt x))) := by
    rw [zcell_obj B cy R _ ha f1, z_map_set (g := zfv B R (zup m a j x) ci a)]
    · unfold zfv zup
      rw [if_neg (by omega), if_pos ⟨rfl, rfl⟩]
    · intro k hk
      unfold zfv zup
      rw [if_neg (c := a = a ∧ (k : Int) = (j : Int)) (by omega)]
  rw [zws_set B cy (R := R) (m := m) (R' := R) (m' := zup m a j x) h0 (by omega) (fun _ _ _ _ => rfl) (fun c k hc hca => by unfold zup; rw [if_neg (fun h => hca h.1)]) KX_rf hcell] at hP1
  refine k H1 LS locs1 cells slots ⟨hP1, hZ1.trans jZ, ⟨jm.1, jm.2.1, ?_, ?_, jm.2.2.2.2⟩, hS1, jL, jX⟩ hl hls (z_tl (z_tl hst)) hR hc hs
  · intro c q hcq
    unfold zup
    split
    · exact h3
    · exact jm.2.2.1 c q hcq
  · intro c q hcq
    unfold zup
    split
    next hh => rw [hh.1, ha] at hcq; omega
    next hh => exact jm.2.2.2.1 c q hcq
theorem g_putZ {n ci j : Nat} {a x : Int} (C : zCx X y) (hd : decode (zmb y) pc = .ok (.putfield n, 3)) (hz : zfld (zoc y) n = some (ci, j)) (ha : KX R a = ci + 1) (hf : zft ci j = 5) (hv : x = 0 ∨ x = 1) (k : zG X y (pc + 3) ls st R (zup m a j x)) : zG X y pc ls ((0, x) :: (2, a) :: st) R m := by
  obtain ⟨p, l, e, Rm, s, mi, args, below, meth, c, Q, ⟨B, b, adK, D, cy, L, xs⟩, Re, rr⟩ := X
  obtain ⟨hx, hb, hml, hown, hts, hSt, hfr, hlo, hinit, hrc, hrs⟩ := C
  intro H LS locs cells slots hJ hl hls hst hR hc hs
  show W p l e Rm s mi args below meth c H locs cells slots Q (F0 mi pc LS (.int (Int32.ofInt x) :: zval B adK b (2, a) :: st.map (zval B adK b)))
  obtain ⟨f1, f2, f3, f4⟩ := zfld_ok hz
  obtain ⟨ty, t1, t2⟩ := z_tys ci f1
  have h0 : 0 < a := KX_pos (R := R) (by omega)
  have h1 : 0 ≤ a ∧ a ≤ R 0 0 := z_hd (z_tl hst)
  obtain ⟨jP, jZ, jm, jS, jL, jX⟩ := id hJ
  have ez : zval B adK b (2, a) = .ref (B + (a - 1).toNat) := by
    have : ¬ a ≤ 0 := by omega
    simp [zval, this]
  rw [ez]
  have he := zws_lab B cy R m (n := (R 0 0).toNat) h0 (by omega)
  rw [zcell_obj B cy R m ha f1] at he
  have h3 : zi32 x := z_hd hst
  have hty : ty j = .boolean ∧ ((zcl ci).2.1 j).2.2.2 = false := by
    rcases z_ty2 t2 f2 with ⟨q1, q2, q3⟩ | ⟨q1, q2, q3⟩ | ⟨q1, q2, q3⟩
    · omega
    · exact ⟨q2, q3⟩
    · omega
  refine z_putw hx hb f1 hts hown hSt.1 jP (zws_D B cy R m _) jS _ he j f2 f3 t1 (v := .int (Int32.ofInt x)) (Or.inl hty.2) (by rw [hty.1]; rcases hv with rfl | rfl <;> rfl) (by rw [hty.1]; rcases hv with rfl | rfl <;> rfl) (by simpa using f2) hd (fun H1 locs1 hP1 hS1 hZ1 => ?_)
  have hcell : zcell B cy R (zup m a j x) a = .inr (ci, ((List.range (znf ci)).map (zfv B R m ci a)).set j (.int (Int32.ofInt x))) := by
    rw [zcell_obj B cy R _ ha f1, z_map_set (g := zfv B R (zup m a j x) ci a)]
    · unfold zfv zup
      rw [if_neg (by omega), if_pos ⟨rfl, rfl⟩]
    · intro k hk
      unfold zfv zup
      rw [if_neg (c := a = a ∧ (k : Int) = (j : Int)) (by omega)]
  rw [zws_set B cy (R := R) (m := m) (R' := R) (m' := zup m a j x) h0 (by omega) (fun _ _ _ _ => rfl) (fun c k hc hca => by unfold zup; rw [if_neg (fun h => hca h.1)]) KX_rf hcell] at hP1
  refine k H1 LS locs1 cells slots ⟨hP1, hZ1.trans jZ, ⟨jm.1, jm.2.1, ?_, ?_, jm.2.2.2.2⟩, hS1, jL, jX⟩ hl hls (z_tl (z_tl hst)) hR hc hs
  · intro c q hcq
    unfold zup
    split
    · exact h3
    · exact jm.2.2.1 c q hcq
  · intro c q hcq
    unfold zup
    split
    next hh => rw [hh.1, ha] at hcq; omega
    next hh => exact jm.2.2.2.1 c q hcq
theorem g_putR {n ci j : Nat} {a x : Int} (C : zCx X y) (hd : decode (zmb y) pc = .ok (.putfield n, 3)) (hz : zfld (zoc y) n = some (ci, j)) (ha : KX R a = ci + 1) (hf : zft ci j = 2) (hi0 : (zmn y).name = "<init>") (hoc : zoc y = ci) (k : zG X y (pc + 3) ls st (zup R a j x) m) : zG X y pc ls ((2, x) :: (2, a) :: st) R m := by
  obtain ⟨p, l, e, Rm, s, mi, args, below, meth, c, Q, ⟨B, b, adK, D, cy, L, xs⟩, Re, rr⟩ := X
  obtain ⟨hx, hb, hml, hown, hts, hSt, hfr, hlo, hinit, hrc, hrs⟩ := C
  intro H LS locs cells slots hJ hl hls hst hR hc hs
  show W p l e Rm s mi args below meth c H locs cells slots Q (F0 mi pc LS (zval B adK b (2, x) :: zval B adK b (2, a) :: st.map (zval B adK b)))
  obtain ⟨f1, f2, f3, f4⟩ := zfld_ok hz
  obtain ⟨ty, t1, t2⟩ := z_tys ci f1
  have h0 : 0 < a := KX_pos (R := R) (by omega)
  have h1 : 0 ≤ a ∧ a ≤ R 0 0 := z_hd (z_tl hst)
  obtain ⟨jP, jZ, jm, jS, jL, jX⟩ := id hJ
  have ez : zval B adK b (2, a) = .ref (B + (a - 1).toNat) := by
    have : ¬ a ≤ 0 := by omega
    simp [zval, this]
  rw [ez]
  have he := zws_lab B cy R m (n := (R 0 0).toNat) h0 (by omega)
  rw [zcell_obj B cy R m ha f1] at he
  have h3 : 0 ≤ x ∧ x ≤ R 0 0 := z_hd hst
  have hty : zrefT (ty j) = true ∧ ((zcl ci).2.1 j).2.2.2 = true := by
    rcases z_ty2 t2 f2 with ⟨q1, q2, q3⟩ | ⟨q1, q2, q3⟩ | ⟨q1, q2, q3⟩
    · omega
    · omega
    · exact ⟨q2, q3⟩
  have hcn : (zcl ci).1 = zcn ci := z_13 (P := fun ci => (zcl ci).1 = zcn ci) ⟨rfl, rfl, rfl, rfl, rfl, rfl, rfl, rfl, rfl, rfl, rfl, rfl⟩ ci f1
  refine z_putw hx hb f1 hts hown hSt.1 jP (zws_D B cy R m _) jS _ he j f2 f3 t1 (v := zval B adK b (2, x)) (Or.inr ⟨hty.2, hinit hi0, by rw [f4, hcn, hoc]⟩) ?_ ?_ (by simpa using f2) hd (fun H1 locs1 hP1 hS1 hZ1 => ?_)
  · have := hty.1
    cases hq : ty j <;> rw [hq] at this <;> first | (cases this; done) | rfl
  · have h4 := hty.1
    have h5 : zval B adK b (2, x) = .null ∨ ∃ q, zval B adK b (2, x) = .ref q := by
      unfold zval
      simp only
      split
      · exact Or.inl rfl
      · exact Or.inr ⟨_, rfl⟩
    cases hq : ty j <;> rw [hq] at h4 <;> first | (cases h4; done) | (rcases h5 with h5 | ⟨q, h5⟩ <;> rw [h5] <;> rfl)
  have hcell : zcell B cy (zup R a j x) m a = .inr (ci, ((List.range (znf ci)).map (zfv B R m ci a)).set j (zval B adK b (2, x))) := by
    rw [zcell_obj B cy _ m (by rw [(KX_up h0 a).1]; exact ha) f1, z_map_set (g := zfv B (zup R a j x) m ci a)]
    · unfold zfv zup
      rw [if_pos hf, if_pos ⟨rfl, rfl⟩]
      exact z_rf B adK b x
    · intro k hk
      unfold zfv zup
      rw [if_neg (c := a = a ∧ (k : Int) = (j : Int)) (by omega)]
  have e00 : ∀ q, zup R a j x 0 q = R 0 q := fun q => by unfold zup; rw [if_neg (by omega)]
  rw [zws_set B cy (R := R) (m := m) (R' := zup R a j x) (m' := m) h0 (by omega) (fun c k hc hca => by unfold zup; rw [if_neg (fun h => hca h.1)]) (fun _ _ _ _ => rfl) (KX_up h0) hcell, ← e00 0] at hP1
  refine k H1 LS locs1 cells slots ⟨hP1, by rw [e00]; exact hZ1.trans jZ, ⟨by rw [e00]; exact jm.1, by rw [e00]; exact jm.2.1, fun c q h => jm.2.2.1 c q (by rw [← (KX_up (R := R) (j := j) (x := x) h0 c).1]; exact h), fun c q h => jm.2.2.2.1 c q (by rw [← (KX_up (R := R) (j := j) (x := x) h0 c).1]; exact h), ?_, fun q hq => by rw [e00]; exact jm.2.2.2.2.2 q hq⟩, hS1, by rw [e00]; exact jL, jX.1, fun i hi => by rw [e00]; exact jX.2 i hi⟩ hl (z_okR (by rw [e00]; omega) hls) (z_okR (by rw [e00]; omega) (z_tl (z_tl hst))) (by rw [e00, e00]; exact hR) (by rw [e00]; exact hc) (by rw [e00]; exact hs)
  intro c q hcq
  rw [e00]
  unfold zup
  split
  · exact h3
  · exact jm.2.2.2.2.1 c q hcq
theorem g_iaload {a i : Int} (C : zCx X y) (hd : decode (zmb y) pc = .ok (.iaload, 1)) (ha : KX R a = 20) (hi0 : 0 ≤ i) (hi1 : i < LX R a) (k : zG X y (pc + 1) ls ((0, m a i) :: st) R m) : zG X y pc ls ((0, i) :: (2, a) :: st) R m := by
  obtain ⟨p, l, e, Rm, s, mi, args, below, meth, c, Q, ⟨B, b, adK, D, cy, L, xs⟩, Re, rr⟩ := X
  obtain ⟨hx, hb, hml, hown, hts, hSt, hfr, hlo, hinit, hrc, hrs⟩ := C
  intro H LS locs cells slots hJ hl hls hst hR hc hs
  show W p l e Rm s mi args below meth c H locs cells slots Q (F0 mi pc LS (.int (Int32.ofInt i) :: zval B adK b (2, a) :: st.map (zval B adK b)))
  have h0 : 0 < a := KX_pos (R := R) (by omega)
  have h1 : 0 ≤ a ∧ a ≤ R 0 0 := z_hd (z_tl hst)
  have hi : zi32 i := z_hd (hst)
  obtain ⟨jP, jZ, jm, jS, jL, jX⟩ := id hJ
  have ez : zval B adK b (2, a) = .ref (B + (a - 1).toNat) := by
    have : ¬ a ≤ 0 := by omega
    simp [zval, this]
  rw [ez]
  have he := zws_lab B cy R m (n := (R 0 0).toNat) h0 (by omega)
  rw [zcell_i B cy R m ha] at he
  obtain ⟨hvi, hci⟩ := z_idx hi0 hi1 hi
  refine va_iald hx hb hSt.1 jP _ 0 he rfl hvi hd ?_
  rw [hci, Int.toNat_of_nonneg hi0]
  exact k H LS locs cells slots hJ hl hls (z_push (v := (0, m a i)) (jm.2.2.1 a i (by omega)) (z_tl (z_tl hst))) hR hc hs
theorem g_laload {a i : Int} (C : zCx X y) (hd : decode (zmb y) pc = .ok (.laload, 1)) (ha : KX R a = 21) (hi0 : 0 ≤ i) (hi1 : i < LX R a) (k : zG X y (pc + 1) ls ((1, m a i) :: st) R m) : zG X y pc ls ((0, i) :: (2, a) :: st) R m := by
  obtain ⟨p, l, e, Rm, s, mi, args, below, meth, c, Q, ⟨B, b, adK, D, cy, L, xs⟩, Re, rr⟩ := X
  obtain ⟨hx, hb, hml, hown, hts, hSt, hfr, hlo, hinit, hrc, hrs⟩ := C
  intro H LS locs cells slots hJ hl hls hst hR hc hs
  show W p l e Rm s mi args below meth c H locs cells slots Q (F0 mi pc LS (.int (Int32.ofInt i) :: zval B adK b (2, a) :: st.map (zval B adK b)))
  have h0 : 0 < a := KX_pos (R := R) (by omega)
  have h1 : 0 ≤ a ∧ a ≤ R 0 0 := z_hd (z_tl hst)
  have hi : zi32 i := z_hd (hst)
  obtain ⟨jP, jZ, jm, jS, jL, jX⟩ := id hJ
  have ez : zval B adK b (2, a) = .ref (B + (a - 1).toNat) := by
    have : ¬ a ≤ 0 := by omega
    simp [zval, this]
  rw [ez]
  have he := zws_lab B cy R m (n := (R 0 0).toNat) h0 (by omega)
  rw [zcell_l B cy R m ha] at he
  obtain ⟨hvi, hci⟩ := z_idx hi0 hi1 hi
  refine va_lald hx hb hSt.1 jP _ 1 he rfl hvi hd ?_
  rw [hci, Int.toNat_of_nonneg hi0]
  exact k H LS locs cells slots hJ hl hls (z_push (v := (1, m a i)) (jm.2.2.2.1 a i ha) (z_tl (z_tl hst))) hR hc hs
theorem g_aaload {a i : Int} (C : zCx X y) (hd : decode (zmb y) pc = .ok (.aaload, 1)) (ha : KX R a = 23) (hi0 : 0 ≤ i) (hi1 : i < LX R a) (k : zG X y (pc + 1) ls ((2, R a i) :: st) R m) : zG X y pc ls ((0, i) :: (2, a) :: st) R m := by
  obtain ⟨p, l, e, Rm, s, mi, args, below, meth, c, Q, ⟨B, b, adK, D, cy, L, xs⟩, Re, rr⟩ := X
  obtain ⟨hx, hb, hml, hown, hts, hSt, hfr, hlo, hinit, hrc, hrs⟩ := C
  intro H LS locs cells slots hJ hl hls hst hR hc hs
  show W p l e Rm s mi args below meth c H locs cells slots Q (F0 mi pc LS (.int (Int32.ofInt i) :: zval B adK b (2, a) :: st.map (zval B adK b)))
  have h0 : 0 < a := KX_pos (R := R) (by omega)
  have h1 : 0 ≤ a ∧ a ≤ R 0 0 := z_hd (z_tl hst)
  have hi : zi32 i := z_hd (hst)
  obtain ⟨jP, jZ, jm, jS, jL, jX⟩ := id hJ
  have ez : zval B adK b (2, a) = .ref (B + (a - 1).toNat) := by
    have : ¬ a ≤ 0 := by omega
    simp [zval, this]
  rw [ez]
  have he := zws_lab B cy R m (n := (R 0 0).toNat) h0 (by omega)
  rw [zcell_q B cy R m ha] at he
  obtain ⟨hvi, hci⟩ := z_idx hi0 hi1 hi
  refine va_aldq hx hb hSt.1 jP _ 2 he rfl hvi hd ?_
  rw [hci, Int.toNat_of_nonneg hi0, z_rf B adK b]
  exact k H LS locs cells slots hJ hl hls (z_push (v := (2, R a i)) (jm.2.2.2.2.1 a i h0) (z_tl (z_tl hst))) hR hc hs
theorem g_saload {i a : Int} (C : zCx X y) (hd : decode (zmb y) pc = .ok (.iaload, 1)) (hi0 : 0 ≤ i) (hi1 : i < R 0 2) (k : zG X y (pc + 1) ls ((0, R 0 (3 + i)) :: st) R m) : zG X y pc ls ((0, i) :: (4, a) :: st) R m := by
  obtain ⟨p, l, e, Rm, s, mi, args, below, meth, c, Q, ⟨B, b, adK, D, cy, L, xs⟩, Re, rr⟩ := X
  obtain ⟨hx, hb, hml, hown, hts, hSt, hfr, hlo, hinit, hrc, hrs⟩ := C
  intro H LS locs cells slots hJ hl hls hst hR hc hs
  show W p l e Rm s mi args below meth c H locs cells slots Q (F0 mi pc LS (.int (Int32.ofInt i) :: .ref b :: st.map (zval B adK b)))
  have hi : zi32 i := z_hd hst
  obtain ⟨jP, jZ, jm, jS, jL, jX⟩ := id hJ
  obtain ⟨hvi, hci⟩ := z_idx hi0 (show i < (L : Int) by omega) hi
  refine va_sld hx hb hSt.2.2.2.2.1 (Nat.lt_of_lt_of_le hSt.2.2.2.2.2.1 hSt.2.2.2.2.2.2) (Nat.not_le.mpr hSt.2.2.2.2.2.1) jS (by rw [Int.toNat_natCast] at hvi; exact hvi) hd ?_
  have e := jX.2 i.toNat (by omega)
  rw [Int.toNat_of_nonneg hi0] at e
  rw [hci, ← z_back (xs i.toNat), ← e]
  exact k H LS locs cells slots hJ hl hls (z_push (v := (0, R 0 (3 + i))) (by show zi32 _; rw [e]; exact z_rng _) (z_tl (z_tl hst))) hR hc hs
theorem g_iastore {a i x : Int} (C : zCx X y) (hd : decode (zmb y) pc = .ok (.iastore, 1)) (ha : KX R a = 20) (hi0 : 0 ≤ i) (hi1 : i < LX R a) (k : zG X y (pc + 1) ls st R (zup m a i x)) : zG X y pc ls ((0, x) :: (0, i) :: (2, a) :: st) R m := by
  obtain ⟨p, l, e, Rm, s, mi, args, below, meth, c, Q, ⟨B, b, adK, D, cy, L, xs⟩, Re, rr⟩ := X
  obtain ⟨hx, hb, hml, hown, hts, hSt, hfr, hlo, hinit, hrc, hrs⟩ := C
  intro H LS locs cells slots hJ hl hls hst hR hc hs
  show W p l e Rm s mi args below meth c H locs cells slots Q (F0 mi pc LS (.int (Int32.ofInt x) :: .int (Int32.ofInt i) :: zval B adK b (2, a) :: st.map (zval B adK b)))
  have h0 : 0 < a := KX_pos (R := R) (by omega)
  have h1 : 0 ≤ a ∧ a ≤ R 0 0 := z_hd (z_tl (z_tl hst))
  have hi : zi32 i := z_hd (z_tl hst)
  obtain ⟨jP, jZ, jm, jS, jL, jX⟩ := id hJ
  have ez : zval B adK b (2, a) = .ref (B + (a - 1).toNat) := by
    have : ¬ a ≤ 0 := by omega
    simp [zval, this]
  rw [ez]
  have he := zws_lab B cy R m (n := (R 0 0).toNat) h0 (by omega)
  rw [zcell_i B cy R m ha] at he
  obtain ⟨hvi, hci⟩ := z_idx hi0 hi1 hi
  have h3 : zvok R (0, x) := z_hd hst
  have hcellH := jP _ _ he
  refine W.iast hx hb hcellH ((hSt.1.2 0 _ rfl).1 _ (fun j => .int (Int32.ofInt (m a (j : Int))))) (fun q => by cases q) (by show ¬ (_ ∨ (arrV _ _ _).slots.size ≤ _); rw [arrV_size]; exact hvi) rfl rfl hd (fun H1 e1 hZ1 oq => ?_)
  have hcell : zcell B cy R (zup m a i x) a = .inl (cy.1, (LX R a).toNat, .inl (fun j => Int32.ofInt (zup m a i x a (j : Int)))) := zcell_i B cy R _ ha
  have hP1 := jP.set (zws_D B cy R m _) he (e := .inl (cy.1, (LX R a).toNat, .inl (fun j => Int32.ofInt (zup m a i x a (j : Int))))) (H1 := H1) (by
    show H1[_]? = some (vp_cell _ _)
    rw [e1]
    show some ((vp_cell _ _).setSlot _ _) = _
    rw [vp_cell_i, vp_cell_i, arrV_store]
    congr 2
    funext q
    rw [hci]
    by_cases hq : q = i.toNat
    · subst hq
      simp only [updV, if_true]
      unfold zup
      rw [if_pos ⟨rfl, Int.toNat_of_nonneg hi0⟩]
      skip
    · simp only [updV, if_neg hq]
      unfold zup
      rw [if_neg (by omega)]) oq
  rw [zws_set B cy (R := R) (m := m) (R' := R) (m' := zup m a i x) h0 (by omega) (fun _ _ _ _ => rfl) (fun c k hc hca => by unfold zup; rw [if_neg (fun h => hca h.1)]) KX_rf hcell] at hP1
  refine k H1 LS _ cells slots ⟨hP1, hZ1.trans jZ, ⟨jm.1, jm.2.1, ?_, ?_, jm.2.2.2.2⟩, jS.put hZ1 oq (Nat.le_add_right _ _), jL, jX⟩ hl hls (z_tl (z_tl (z_tl hst))) hR hc hs
  · intro c q hcq
    unfold zup
    split
    next hh => exact h3
    next hh => exact jm.2.2.1 c q hcq
  · intro c q hcq
    unfold zup
    split
    next hh => rw [hh.1, ha] at hcq; omega
    next hh => exact jm.2.2.2.1 c q hcq
theorem g_lastore {a i x : Int} (C : zCx X y) (hd : decode (zmb y) pc = .ok (.lastore, 1)) (ha : KX R a = 21) (hi0 : 0 ≤ i) (hi1 : i < LX R a) (k : zG X y (pc + 1) ls st R (zup m a i x)) : zG X y pc ls ((1, x) :: (0, i) :: (2, a) :: st) R m := by
  obtain ⟨p, l, e, Rm, s, mi, args, below, meth, c, Q, ⟨B, b, adK, D, cy, L, xs⟩, Re, rr⟩ := X
  obtain ⟨hx, hb, hml, hown, hts, hSt, hfr, hlo, hinit, hrc, hrs⟩ := C
  intro H LS locs cells slots hJ hl hls hst hR hc hs
  show W p l e Rm s mi args below meth c H locs cells slots Q (F0 mi pc LS (.long (Int64.ofInt x) :: .int (Int32.ofInt i) :: zval B adK b (2, a) :: st.map (zval B adK b)))
  have h0 : 0 < a := KX_pos (R := R) (by omega)
  have h1 : 0 ≤ a ∧ a ≤ R 0 0 := z_hd (z_tl (z_tl hst))
  have hi : zi32 i := z_hd (z_tl hst)
  obtain ⟨jP, jZ, jm, jS, jL, jX⟩ := id hJ
  have ez : zval B adK b (2, a) = .ref (B + (a - 1).toNat) := by
    have : ¬ a ≤ 0 := by omega
    simp [zval, this]
  rw [ez]
  have he := zws_lab B cy R m (n := (R 0 0).toNat) h0 (by omega)
  rw [zcell_l B cy R m ha] at he
  obtain ⟨hvi, hci⟩ := z_idx hi0 hi1 hi
  have h3 : zvok R (1, x) := z_hd hst
  have hcellH := jP _ _ he
  refine W.last hx hb hcellH ((hSt.1.2 1 _ rfl).1 _ (fun j => .long (Int64.ofInt (m a (j : Int))))) (fun q => by cases q) (by show ¬ (_ ∨ (arrV _ _ _).slots.size ≤ _); rw [arrV_size]; exact hvi) rfl rfl hd (fun H1 e1 hZ1 oq => ?_)
  have hcell : zcell B cy R (zup m a i x) a = .inl (cy.2.1, (LX R a).toNat, .inr (.inl (fun j => Int64.ofInt (zup m a i x a (j : Int))))) := zcell_l B cy R _ ha
  have hP1 := jP.set (zws_D B cy R m _) he (e := .inl (cy.2.1, (LX R a).toNat, .inr (.inl (fun j => Int64.ofInt (zup m a i x a (j : Int)))))) (H1 := H1) (by
    show H1[_]? = some (vp_cell _ _)
    rw [e1]
    show some ((vp_cell _ _).setSlot _ _) = _
    rw [vp_cell_l, vp_cell_l, arrV_store]
    congr 2
    funext q
    rw [hci]
    by_cases hq : q = i.toNat
    · subst hq
      simp only [updV, if_true]
      unfold zup
      rw [if_pos ⟨rfl, Int.toNat_of_nonneg hi0⟩]
      skip
    · simp only [updV, if_neg hq]
      unfold zup
      rw [if_neg (by omega)]) oq
  rw [zws_set B cy (R := R) (m := m) (R' := R) (m' := zup m a i x) h0 (by omega) (fun _ _ _ _ => rfl) (fun c k hc hca => by unfold zup; rw [if_neg (fun h => hca h.1)]) KX_rf hcell] at hP1
  refine k H1 LS _ cells slots ⟨hP1, hZ1.trans jZ, ⟨jm.1, jm.2.1, ?_, ?_, jm.2.2.2.2⟩, jS.put hZ1 oq (Nat.le_add_right _ _), jL, jX⟩ hl hls (z_tl (z_tl (z_tl hst))) hR hc hs
  · intro c q hcq
    unfold zup
    split
    next hh => rw [hh.1, ha] at hcq; omega
    next hh => exact jm.2.2.1 c q hcq
  · intro c q hcq
    unfold zup
    split
    next hh => exact h3
    next hh => exact jm.2.2.2.1 c q hcq
end MORE
