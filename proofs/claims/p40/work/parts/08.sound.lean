/-! calls, returns, and that what the small machine comes to, the true one comes to -/
/-- what a step does to the counts -/
def zRok (R : zM) (a : zA) : Prop := match a with
  | none => True
  | some (.inl r) => r.2.1 = R
  | some (.inr (.inl c)) => R 0 0 ≤ c.2.2.2.2.1 0 0 ∧ R 0 1 ≤ c.2.2.2.2.1 0 1
  | some (.inr (.inr (c, k))) => c.2.2.2.2.1 = R ∧ ∀ r : zR, (k r).2.2.2.2.1 = r.2.1
theorem zRok_go (y pc : Nat) (ls st : List zV) (R m : zM) : zRok R (zgo y pc ls st R m) := ⟨Int.le_refl _, Int.le_refl _⟩
theorem zRok_up (y pc : Nat) (ls st : List zV) (R m : zM) {a j x : Int} (h : 0 < a) : zRok R (zgo y pc ls st (zup R a j x) m) := by
  have e : ∀ q, zup R a j x 0 q = R 0 q := fun q => by unfold zup; rw [if_neg (by omega)]
  exact ⟨by show _ ≤ zup R a j x 0 0; rw [e]; omega, by show _ ≤ zup R a j x 0 1; rw [e]; omega⟩
theorem zRok_nw (y pc : Nat) (ls st : List zV) (R m : zM) {k sz : Int} (h : 0 ≤ sz) : zRok R (zgo y pc ls st (znX R k sz) m) := by
  exact ⟨by show _ ≤ znX R k sz 0 0; rw [znX_0]; omega, by show _ ≤ znX R k sz 0 1; rw [znX_1]; omega⟩
theorem zRok_li (k n y pc : Nat) (ls st : List zV) (R m : zM) : zRok R (zli k n y pc ls st R m) := by unfold zli; split <;> first | exact zRok_go _ _ _ _ _ _ | trivial
theorem zRok_la (k n y pc : Nat) (ls st : List zV) (R m : zM) : zRok R (zla k n y pc ls st R m) := by unfold zla; split <;> first | exact zRok_go _ _ _ _ _ _ | trivial
theorem zRok_ll (k n y pc : Nat) (ls st : List zV) (R m : zM) : zRok R (zll k n y pc ls st R m) := by unfold zll; split <;> first | exact zRok_go _ _ _ _ _ _ | trivial
theorem zRok_si (k n y pc : Nat) (ls st : List zV) (R m : zM) : zRok R (zsi k n y pc ls st R m) := by unfold zsi; split <;> first | (split <;> first | exact zRok_go _ _ _ _ _ _ | trivial) | trivial
theorem zRok_sa (k n y pc : Nat) (ls st : List zV) (R m : zM) : zRok R (zsa k n y pc ls st R m) := by unfold zsa; split <;> first | (split <;> first | exact zRok_go _ _ _ _ _ _ | trivial) | trivial
theorem zRok_sl (k n y pc : Nat) (ls st : List zV) (R m : zM) : zRok R (zsl k n y pc ls st R m) := by unfold zsl; split <;> first | (split <;> first | exact zRok_go _ _ _ _ _ _ | trivial) | trivial
theorem zRok_to (b : Bool) (off : Int) (n y pc : Nat) (ls st : List zV) (R m : zM) : zRok R (zto b off n y pc ls st R m) := by unfold zto; repeat' (first | exact zRok_go _ _ _ _ _ _ | trivial | split)
theorem zRok_na (k n y pc : Nat) (ls st : List zV) (R m : zM) : zRok R (zna k n y pc ls st R m) := by
  unfold zna
  split
  · split
    next h => exact zRok_nw _ _ _ _ _ _ h.2.1
    next => trivial
  · trivial
theorem zRok_inv (y' na n y pc : Nat) (ls st : List zV) (R m : zM) : zRok R (zinv y' na n y pc ls st R m) := by
  unfold zinv
  split
  · exact ⟨rfl, fun r => rfl⟩
  · trivial
theorem zRok_cal (w : Nat) (lk : Option (Nat × Nat)) (n y pc : Nat) (ls st : List zV) (R m : zM) : zRok R (zcal w lk n y pc ls st R m) := by
  unfold zcal
  repeat' (first | exact zRok_go _ _ _ _ _ _ | exact zRok_inv _ _ _ _ _ _ _ _ _ | trivial | split)
theorem zRok_ex (i : Instr) (n y pc : Nat) (ls st : List zV) (R m : zM) : zRok R (zex i n y pc ls st R m) := by
  unfold zex
  split
  all_goals first | trivial | exact zRok_go _ _ _ _ _ _ | exact zRok_li _ _ _ _ _ _ _ _ | exact zRok_la _ _ _ _ _ _ _ _ | exact zRok_ll _ _ _ _ _ _ _ _ | exact zRok_si _ _ _ _ _ _ _ _ | exact zRok_sa _ _ _ _ _ _ _ _ | exact zRok_sl _ _ _ _ _ _ _ _ | exact zRok_to _ _ _ _ _ _ _ _ _ | exact zRok_na _ _ _ _ _ _ _ _ | exact zRok_cal _ _ _ _ _ _ _ _ _ | skip
  all_goals repeat' (first | exact zRok_go _ _ _ _ _ _ | exact zRok_to _ _ _ _ _ _ _ _ _ | exact zRok_na _ _ _ _ _ _ _ _ | trivial | (exact zRok_nw _ _ _ _ _ _ (by omega)) | (exact zRok_up _ _ _ _ _ _ (KX_pos (R := R) (by omega))) | exact (rfl : (_ : zM) = _) | split)
theorem zmono (n : Nat) : ∀ (c : zC) (r : zR), zrun n c = some r → c.2.2.2.2.1 0 0 ≤ r.2.1 0 0 ∧ c.2.2.2.2.1 0 1 ≤ r.2.1 0 1 := by
  induction n with
  | zero => intro c r h; cases h
  | succ n ih =>
    intro c r h
    obtain ⟨y, pc, ls, st, R, m⟩ := c
    simp only [zrun, zact] at h
    cases hc : zcode y pc with
    | none => rw [hc] at h; cases h
    | some q =>
      obtain ⟨i, k⟩ := q
      rw [hc] at h
      simp only at h
      split at h
      next hlok =>
        have hR := zRok_ex i k y pc ls st R m
        match ha : zex i k y pc ls st R m, hR, h with
        | some (.inl q), hR, h =>
          simp only [zint, Option.some.injEq] at h
          subst h
          have hR : q.2.1 = R := hR
          rw [hR]
          exact ⟨Int.le_refl _, Int.le_refl _⟩
        | some (.inr (.inl q)), hR, h =>
          have h1 := ih q r h
          exact ⟨Int.le_trans hR.1 h1.1, Int.le_trans hR.2 h1.2⟩
        | some (.inr (.inr (q, kk))), hR, h =>
          simp only [zint] at h
          cases hq : zrun n q with
          | none => rw [hq] at h; cases h
          | some u =>
            rw [hq] at h
            have h1 := ih q u hq
            have h2 := ih _ r h
            rw [hR.2] at h2
            rw [hR.1] at h1
            exact ⟨Int.le_trans h1.1 h2.1, Int.le_trans h1.2 h2.2⟩
        | none, hR, h => cases h
      next => cases h
theorem zNst_on {w : Cond} (h : w ∈ zNst) : w.onTables = true ∧ ∃ (a : String) (i : Nat) (x : MethodName) (k : String), w = .methodLinkNest a i x k := by
  have h1 := (List.mem_filter.mp h).2
  cases w <;> first | (cases h1; done) | exact ⟨rfl, _, _, _, _, rfl⟩
theorem zSt_same {B b : Nat} {adK : Nat → Nat} {D : va_G} {cy : ClassId × ClassId × ClassId × ClassId} {L : Nat} {xs : Nat → Int32} {u U : State} (hv : U.vm = u.vm) (hh : U.heap = u.heap) (h : zSt B b adK D cy L xs u) : zSt B b adK D cy L xs U := by
  have ha : u.vm.Alike U.vm := by rw [hv]; exact Vm.Alike.refl _
  obtain ⟨h1, h2, h3, ⟨⟨adV, h4⟩, h5, h6, h7⟩, h8, h9, h10⟩ := h
  refine ⟨va_K.moved ha h1, va_AO.moved ha h2, fun w hw => va_Nw.same (zNst_on hw).1 hv.symm (h3 w hw), ⟨⟨adV, by rw [hh]; exact vk_S.moved ha h4⟩, fun e he ht => vk_R.same hv (h5 e he ht), by rw [hh]; exact va_Z.moved ha h6, by rw [hh]; exact va_Zq.moved ha h7⟩, by rw [hh]; exact va_X.moved ha h8, h9, by rw [hh]; exact h10⟩
theorem zSt_warm {B b : Nat} {adK : Nat → Nat} {D : va_G} {cy : ClassId × ClassId × ClassId × ClassId} {L : Nat} {xs : Nat → Int32} {s U : State} {locs : List Loc} (hW : s.WarmedH U.vm) (hS : va_S (fun q => B ≤ q) s.heap U.heap locs) (h : zSt B b adK D cy L xs s) : zSt B b adK D cy L xs U := by
  have ha := hW.alike
  obtain ⟨h1, h2, h3, ⟨⟨adV, h4⟩, h5, h6, h7⟩, h8, h9, h10⟩ := h
  refine ⟨va_K.moved ha h1, va_AO.moved ha h2, fun w hw => ?_, ⟨⟨adV, vk_S.moved ha (vk_S.kept h4 hS.2.1)⟩, fun e he ht => vk_R.warm hW (h5 e he ht), va_Z.moved ha (h6.kept hS.2.1), va_Zq.moved ha (h7.kept hS.2.1)⟩, va_X.moved ha (h8.kept (hS.2.1 b (by omega) (by omega))), h9, Nat.le_trans h10 hS.1⟩
  obtain ⟨-, a, i, x, k, rfl⟩ := zNst_on hw
  exact va_Nw.warmM hW (h3 _ hw)
theorem zJ_self {B b : Nat} {D : va_G} {cy : ClassId × ClassId × ClassId × ClassId} {L : Nat} {xs : Nat → Int32} {R m : zM} {H0 H : Heap} {locs : List Loc} (h : zJ B b D cy L xs R m H0 H locs) : zJ B b D cy L xs R m H H [] := ⟨h.1, h.2.1, h.2.2.1, va_S.rf, h.2.2.2.2⟩
def zflat (as : List zV) : List zV := as.flatMap (fun v => if v.1 = 1 then [v, (8, 0)] else [v])
theorem zval_cat (B : Nat) (adK : Nat → Nat) (b : Nat) {v : zV} (h : v.1 < 5) : ((zval B adK b v).category = 2) ↔ v.1 = 1 := by
  unfold zval
  rcases (show v.1 = 0 ∨ v.1 = 1 ∨ v.1 = 2 ∨ v.1 = 3 ∨ v.1 = 4 by omega) with q | q | q | q | q <;> rw [q] <;> simp only
  · simp [Value.category]
  · simp [Value.category]
  · split <;> simp [Value.category]
  · simp [Value.category]
  · simp [Value.category]
theorem zent_at (B : Nat) (adK : Nat → Nat) (b : Nat) : ∀ (as : List zV) (k : Nat), (∀ v ∈ as, v.1 < 5) → ∀ (j : Nat) (v : zV), (zflat as)[j]? = some v → v.1 < 5 → (k + j, zval B adK b v) ∈ lv_args k (as.map (zval B adK b)) := by
  intro as
  induction as with
  | nil => intro k _ j v h; simp [zflat] at h
  | cons a as ih =>
    intro k ha j v h hv
    have ha0 : a.1 < 5 := ha a List.mem_cons_self
    have hc := zval_cat B adK b ha0
    simp only [List.map_cons, lv_args]
    by_cases h1 : a.1 = 1
    · have e : zflat (a :: as) = a :: (8, 0) :: zflat as := by simp [zflat, h1]
      rw [e] at h
      rw [if_pos (hc.mpr h1)]
      match j, h with
      | 0, h => simp only [List.getElem?_cons_zero, Option.some.injEq] at h; subst h; exact List.mem_cons_self
      | 1, h =>
        simp only [List.getElem?_cons_succ, List.getElem?_cons_zero, Option.some.injEq] at h
        subst h
        simp at hv
      | j + 2, h =>
        simp only [List.getElem?_cons_succ] at h
        have := ih (k + 2) (fun u hu => ha u (List.mem_cons_of_mem _ hu)) j v h hv
        rw [show k + (j + 2) = k + 2 + j by omega]
        exact List.mem_cons_of_mem _ this
    · have e : zflat (a :: as) = a :: zflat as := by simp [zflat, h1]
      rw [e] at h
      rw [if_neg (fun z => h1 (hc.mp z))]
      match j, h with
      | 0, h => simp only [List.getElem?_cons_zero, Option.some.injEq] at h; subst h; exact List.mem_cons_self
      | j + 1, h =>
        simp only [List.getElem?_cons_succ] at h
        have := ih (k + 1) (fun u hu => ha u (List.mem_cons_of_mem _ hu)) j v h hv
        rw [show k + (j + 1) = k + 1 + j by omega]
        exact List.mem_cons_of_mem _ this
theorem zflat_len (B : Nat) (adK : Nat → Nat) (b : Nat) (as : List zV) (h : ∀ v ∈ as, v.1 < 5) : (lg_sl (as.map (zval B adK b))).length = (zflat as).length := by
  induction as with
  | nil => rfl
  | cons a as ih =>
    have hc := zval_cat B adK b (h a List.mem_cons_self)
    have := ih (fun u hu => h u (List.mem_cons_of_mem _ hu))
    by_cases h1 : a.1 = 1
    · have e : zflat (a :: as) = a :: (8, 0) :: zflat as := by simp [zflat, h1]
      have e2 : lg_sl ((a :: as).map (zval B adK b)) = .val (zval B adK b a) :: .second :: lg_sl (as.map (zval B adK b)) := by simp [lg_sl, hc.mpr h1]
      rw [e, e2]
      simp [this]
    · have e : zflat (a :: as) = a :: zflat as := by simp [zflat, h1]
      have e2 : lg_sl ((a :: as).map (zval B adK b)) = .val (zval B adK b a) :: lg_sl (as.map (zval B adK b)) := by
        have : ¬ (zval B adK b a).category = 2 := fun z => h1 (hc.mp z)
        simp [lg_sl, this]
      rw [e, e2]
      simp [this]
theorem zent_lh {B : Nat} {adK : Nat → Nat} {b : Nat} {as : List zV} {n : Nat} {LS : Array Slot} (ha : ∀ v ∈ as, v.1 < 5) (hlen : (zflat as).length ≤ n) (h : lv_has LS n (lv_args 0 (as.map (zval B adK b)))) : zlh B adK b LS n (zent as n) := by
  have e : zent as n = zflat as ++ List.replicate (n - (zflat as).length) (9, 0) := rfl
  have live : ∀ (i : Nat) (v : zV), (zent as n)[i]? = some v → v.1 < 5 → LS[i]? = some (.val (zval B adK b v)) := by
    intro i v hv h5
    rw [e] at hv
    by_cases hi : i < (zflat as).length
    · rw [List.getElem?_append_left hi] at hv
      have := zent_at B adK b as 0 ha i v hv h5
      rw [Nat.zero_add] at this
      exact h.2.2 _ this
    · rw [List.getElem?_append_right (by omega)] at hv
      have := List.eq_of_mem_replicate (List.mem_of_getElem? hv)
      subst this
      simp at h5
  refine ⟨h.1, by rw [e, List.length_append, List.length_replicate]; omega, h.2.1, fun i v hv ht => live i v hv (by omega), fun i v w hv hw h1 h8 => live i v hv (by omega)⟩
theorem zent_ok {R : zM} {as : List zV} {n : Nat} (h : ∀ v ∈ as, zvok R v) : ∀ v ∈ zent as n, zvok R v := by
  intro v hv
  have e : zent as n = zflat as ++ List.replicate (n - (zflat as).length) (9, 0) := rfl
  rw [e] at hv
  rcases List.mem_append.mp hv with hv | hv
  · obtain ⟨a, ha, hv⟩ := List.mem_flatMap.mp hv
    split at hv
    · rcases List.mem_cons.mp hv with hv | hv
      · exact hv ▸ h a ha
      · rcases List.mem_cons.mp hv with hv | hv
        · subst hv; trivial
        · cases hv
    · rcases List.mem_cons.mp hv with hv | hv
      · exact hv ▸ h a ha
      · cases hv
  · have := List.eq_of_mem_replicate hv
    subst this
    trivial
def zrv (B : Nat) (adK : Nat → Nat) (b : Nat) (v : zV) : Option Value := if v.1 = 9 then none else some (zval B adK b v)
/-- how a frame may end -/
def zE (X : zX) (y : Nat) : Prop := match X with
  | (p, l, e, Rm, s, mi, args, below, meth, c, Q, (B, b, adK, D, cy, L, xs), Re, rr) =>
    ∀ (pc : Nat) (H : Heap) (LS : Array Slot) (locs : List Loc), zJ B b D cy L xs rr.2.1 rr.2.2 s.heap H locs → zvok rr.2.1 rr.1 →
      (decode (zmb y) pc = .ok (.return_, 1) → rr.1.1 = 9 → zmr y = none → W p l e Rm s mi args below meth c H locs (rr.2.1 0 0 - Re 0 0).toNat (rr.2.1 0 1 - Re 0 1).toNat Q (F0 mi pc LS [])) ∧
      (decode (zmb y) pc = .ok (.ireturn, 1) → rr.1.1 = 0 → (zmr y = some .int ∨ (zmr y = some .boolean ∧ (rr.1.2 = 0 ∨ rr.1.2 = 1))) → W p l e Rm s mi args below meth c H locs (rr.2.1 0 0 - Re 0 0).toNat (rr.2.1 0 1 - Re 0 1).toNat Q (F0 mi pc LS [zval B adK b rr.1])) ∧
      (decode (zmb y) pc = .ok (.lreturn, 1) → rr.1.1 = 1 → zmr y = some .long → W p l e Rm s mi args below meth c H locs (rr.2.1 0 0 - Re 0 0).toNat (rr.2.1 0 1 - Re 0 1).toNat Q (F0 mi pc LS [zval B adK b rr.1])) ∧
      (decode (zmb y) pc = .ok (.areturn, 1) → rr.1.1 = 3 → (∃ n, zmr y = some (.object n)) → W p l e Rm s mi args below meth c H locs (rr.2.1 0 0 - Re 0 0).toNat (rr.2.1 0 1 - Re 0 1).toNat Q (F0 mi pc LS [zval B adK b rr.1]))
def zSound (n : Nat) : Prop := ∀ (y pc : Nat) (ls st : List zV) (R m : zM) (r : zR), y < 332 → zrun n (y, pc, ls, st, R, m) = some r → ∀ X : zX, X.2.2.2.2.2.2.2.2.2.2.2.2.2 = r → zCx X y → zE X y → zG X y pc ls st R m
/-- a method's end -/
def zQc (B b : Nat) (adK : Nat → Nat) (D : va_G) (cy : ClassId × ClassId × ClassId × ClassId) (L : Nat) (xs : Nat → Int32) (r : zR) : Array Value → State → Outcome → State → Prop := fun _ st oc t => oc = .returned (zrv B adK b r.1) ∧ zJ B b D cy L xs r.2.1 r.2.2 t.heap t.heap [] ∧ zvok r.2.1 r.1 ∧ va_F (fun q => B ≤ q) st t
def zPc (B b : Nat) (adK : Nat → Nat) (D : va_G) (cy : ClassId × ClassId × ClassId × ClassId) (L : Nat) (xs : Nat → Int32) (R m : zM) (as : List zV) : Array Value → State → Prop := va_Pc (as.map (zval B adK b)) (fun U => zSt B b adK D cy L xs U ∧ zJ B b D cy L xs R m U.heap U.heap [])
theorem z_owns {y : Nat} (h : y < 332) : (zmn y).cls = zcn (zoc y) := by
  have := List.all_eq_true.mp z_own y (List.mem_range.mpr h)
  simpa using this
theorem zmet {n : Nat} (ih : zSound n) (l : Launch) {B b : Nat} {adK : Nat → Nat} {D : va_G} {cy : ClassId × ClassId × ClassId × ClassId} {L : Nat} {xs : Nat → Int32} {y' : Nat} {as : List zV} {R m : zM} {r : zR} (hy : y' < 332) (hpn : plainName (zmn y').cls = true) (hrun : zrun n (y', 0, zent as (zml y'), [], R, m) = some r) (hlen : (zflat as).length ≤ zml y') (hok : ∀ v ∈ as, zvok R v) (htag : ∀ v ∈ as, v.1 < 5) :
    Met l (zmn y') (zcw y' :: zTB) ({ frames := zmf y', cells := (r.2.1 0 0 - R 0 0).toNat, slots := (r.2.1 0 1 - R 0 1).toNat, locals := zmo y' }) (zPc B b adK D cy L xs R m as) (zQc B b adK D cy L xs r) (r.2.1 0 0 - R 0 0).toNat (r.2.1 0 1 - R 0 1).toNat (fun q => B ≤ q) := by
  have hmon := zmono n _ r hrun
  refine Met.ofW (cc := zmb y') (maxL := zml y') (ret := zmr y') hpn rfl ?_
  intro p e s mi args below meth c s₁ B0 hml hv
  obtain ⟨rfl, hSt, hJ⟩ := hv
  have hts := atoms_spec (ws := zcw y' :: zTB) B0.pre
  have hfc : s.vm.findClass (zmn y').cls = some mi.cls := findClass_of_methodNamed B0.named
  rw [z_owns hy] at hfc
  have hname : meth.name = (zmn y').name := (name_of_methodNamed B0.named B0.method).1
  have hlocks := B0.notSynchronized
  rw [lg_entry_eq]
  have hflen := zflat_len B adK b as htag
  have hl := lv_entry (as.map (zval B adK b)) (n := zml y') (by rw [hflen]; exact hlen)
  generalize (lg_sl (as.map (zval B adK b)) ++ List.replicate (zml y' - (lg_sl (as.map (zval B adK b))).length) Slot.unset).toArray = LS at hl ⊢
  have hG := ih y' 0 (zent as (zml y')) [] R m r hy hrun (p, l, e, { frames := zmf y', cells := (r.2.1 0 0 - R 0 0).toNat, slots := (r.2.1 0 1 - R 0 1).toNat, locals := zmo y' }, s, mi, ((as.map (zval B adK b)).toArray), below, meth, c, MQ below (zQc B b adK D cy L xs r) ((as.map (zval B adK b)).toArray) s (r.2.1 0 0 - R 0 0).toNat (r.2.1 0 1 - R 0 1).toNat (fun q => B ≤ q), (B, b, adK, D, cy, L, xs), R, r) rfl
    ⟨B0.exec, B0.bytes, hml, hfc, fun w hw => hts w (List.mem_cons_of_mem _ hw), hSt, Nat.le_refl _, Nat.le_refl _, fun h => hname.trans h, Nat.le_refl _, Nat.le_refl _⟩ ?_
  · have := hG s.heap LS [] 0 0 hJ (zent_lh htag hlen hl) (zent_ok hok) (fun v hv => by cases hv) ⟨Int.le_refl _, hmon.1, Int.le_refl _, hmon.2⟩ (by omega) (by omega)
    exact this
  · intro pc H LS2 locs hJ2 hv2
    have fin : ∀ t : State, t.heap = H → s.WarmedH t.vm → zQc B b adK D cy L xs r ((as.map (zval B adK b)).toArray) s (.returned (zrv B adK b r.1)) t := fun t ht hW => ⟨rfl, by rw [ht]; exact zJ_self hJ2, hv2, hJ2.2.2.2.1.F ht⟩
    have hf : ∀ q ∈ locs, (fun q => B ≤ q) q.base := hJ2.2.2.2.1.2.2
    refine ⟨fun hd h9 hr => ?_, fun hd h0 hr => ?_, fun hd h1 hr => ?_, fun hd h3 hr => ?_⟩
    · have e : zrv B adK b r.1 = none := by unfold zrv; rw [if_pos h9]
      rw [e] at fin
      exact W.vret B0.exec B0.bytes (B0.returns.trans hr) fin hf hd hlocks
    · have e : zrv B adK b r.1 = some (.int (Int32.ofInt r.1.2)) := by unfold zrv zval; rw [if_neg (by omega), h0]; rfl
      have e2 : zval B adK b r.1 = .int (Int32.ofInt r.1.2) := by unfold zval; rw [h0]; rfl
      rw [e] at fin
      rw [e2]
      rcases hr with hr | ⟨hr, hv⟩
      · exact W.iret B0.exec B0.bytes (B0.returns.trans hr) fin hf hd hlocks
      · exact W.zret B0.exec B0.bytes (B0.returns.trans hr) (by rcases hv with hv | hv <;> rw [hv] <;> rfl) fin hf hd hlocks
    · have e : zrv B adK b r.1 = some (.long (Int64.ofInt r.1.2)) := by unfold zrv zval; rw [if_neg (by omega), h1]; rfl
      have e2 : zval B adK b r.1 = .long (Int64.ofInt r.1.2) := by unfold zval; rw [h1]; rfl
      rw [e] at fin
      rw [e2]
      exact W.lret B0.exec B0.bytes (B0.returns.trans hr) fin hf hd hlocks
    · have e : zrv B adK b r.1 = some (zval B adK b r.1) := by unfold zrv; rw [if_neg (by omega)]
      have e2 : zval B adK b r.1 = .ref (adK r.1.2.toNat) := by unfold zval; rw [h3]; rfl
      rw [e] at fin
      obtain ⟨nm, hr⟩ := hr
      exact W.aret B0.exec B0.bytes (B0.returns.trans hr) (Or.inl ⟨nm, rfl⟩) (Or.inr ⟨_, e2⟩) fin hf hd hlocks
