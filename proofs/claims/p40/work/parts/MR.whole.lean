/-! THE CLAIM OUT OF ONE WALK OF THE LAW'S BODY. Your part is whole_start (and what it stands on); all else here is the same for every law, but numbers. -/
def R_law : String := "GrownTownLaw"
def lw_P (b : Addr) (xs : List Int32) (args : Array Value) (s : State) : Prop := args = #[.ref b] ∧ s.IntsAt b xs ∧ xs.length ≤ 260 ∧ (Jvm.Cond.and given_1 narrow_1).before args s = true
def lw_Q (_ : Array Value) (s : State) (o : Outcome) (t : State) : Prop := o = .returned (some (.int 1)) ∧ Framed s o t [] 600000 7302250
def lw_Z (below : List Frame) (a : Array Value) (s : State) : State → Prop := fun t => ∃ o, t.status = .running ∧ Ended t below o ∧ lw_Q a s o t
/-- the law's own end, with 1 on the stack, nothing written that was there before, its room as the claim has it -/
theorem lw_ret {p : Program} {l : Launch} {e : Env} {s : State} {m : MethodId} {below : List Frame} {meth : Method} {c : Code} {b : Nat} (hx : p.tables.exec = Jvm.exec) (hb : c.code = code) (hr : meth.sig.returnType = ret) (hlocks : meth.locks = false) {pc : Nat} {H : Heap} {ls : Array Slot} (hdg : decode code pc = .ok (.ireturn, 1)) : W p l e room_1 s m #[Value.ref b] below meth c H [] 600000 7302250 (lw_Z below #[Value.ref b] s) (F0 m pc ls [.int 1]) := by
  intro T hT X
  obtain ⟨fs, hret, hrun, hended, hW, hframe⟩ := X.leave (v := some (.int 1)) (hlocks := hlocks) (fun h => by rw [hr] at h; cases h)
  have hmeth' : T.vm.method? m = some meth := X.method'
  refine ⟨T.setFrames fs, ?_, .returned (some (.int 1)), hrun, hended, rfl, ⟨_, rfl⟩, hW, hframe⟩
  jvm_step X.here [X.here.top, hx, hb, hdg, hmeth', hr, ret, narrow_b1]
  (try refine ⟨rfl, ?_⟩); (try refine ⟨rfl, ?_⟩)
  first | (intro acts; rw [hret _ acts rfl rfl rfl]) | rw [hret _ _ rfl rfl rfl]
  exact Steps.refl _
/-- what holds at the law's entry: the machine, the code, the tables' words (any of lw_tbl by 'hts w (by decide +kernel)'), the script of L ints xs at the cell b, what the Statement gives of the start (any of its parts by flat_of_before) -/
def lw_At (p : Program) (s : State) (m : MethodId) (meth : Method) (c : Code) (b L : Nat) (xs : Nat → Int32) : Prop :=
  p.tables.exec = Jvm.exec ∧ c.code = code ∧ meth.sig.returnType = ret ∧ c.maxLocals = 25 ∧ s.vm.findClass R_law = some m.cls ∧ (∀ w ∈ lw_tbl, w.before #[Value.ref b] s = true) ∧ va_X b L xs s s.heap ∧ b < s.heap.size ∧ meth.locks = false ∧ (Jvm.Cond.and given_1 narrow_1).before #[Value.ref b] s = true
/-- the script, as the small machine has it -/
def zR0 (L : Nat) (xs : Nat → Int32) : zM := fun a k => if a = 0 then (if k = 2 then (L : Int) else if 3 ≤ k ∧ k < 3 + (L : Int) then (xs (k - 3).toNat).toInt else 0) else 0
theorem zR0_x {L : Nat} {xs : Nat → Int32} (hL : L ≤ 260) (k : Int) (hk : 2 ≤ k) : zi32 (zR0 L xs 0 k) := by
  unfold zR0
  rw [if_pos rfl]
  by_cases h2 : k = 2
  · rw [if_pos h2]; unfold zi32; omega
  · rw [if_neg h2]
    split
    · exact z_rng _
    · unfold zi32; omega
theorem whole_start {p : Program} {e : Env} {s : State} {m : MethodId} {below : List Frame} {meth : Method} {c : Code} (l : Launch) (hflags : l.flags = flags0) {b L : Nat} {xs : Nat → Int32} (hL : L ≤ 260) (C0 : lw_At p s m meth c b L xs) : W p l e room_1 s m #[Value.ref b] below meth c s.heap [] 0 0 (lw_Z below #[Value.ref b] s) (entryFrame m ([Value.ref b] : List Value).toArray 25) := by
  obtain ⟨hx, hb, hr, hml, hown, hts, hX, hbl, hlocks, hgv⟩ := id C0
  have hB : ∀ a : Nat, a < s.heap.size → ¬ s.heap.size ≤ a := fun a h => Nat.not_le.mpr h
  obtain ⟨D, cy, hK⟩ := z_start_K hts
  obtain ⟨adK, hT⟩ := z_start_T (B := s.heap.size) hB hts hgv
  have hts' : ∀ w ∈ zTB, w.before #[Value.ref b] s = true := fun w hw => hts w (zy_pl hw)
  have hSt : zSt s.heap.size b adK D cy L xs s := ⟨hK, va_AO.of (hts _ zy_353), fun w hw => va_Nw.of (zNst_on hw).1 (hts w (List.mem_filter.mp hw).1), hT, hX, hbl, Nat.le_refl _⟩
  have r00 : zR0 L xs 0 0 = 0 := by unfold zR0; rw [if_pos rfl, if_neg (by omega), if_neg (by omega)]
  have r01 : zR0 L xs 0 1 = 0 := by unfold zR0; rw [if_pos rfl, if_neg (by omega), if_neg (by omega)]
  have r02 : zR0 L xs 0 2 = (L : Int) := by unfold zR0; rw [if_pos rfl, if_pos rfl]
  have ra : ∀ a k, a ≠ 0 → zR0 L xs a k = 0 := fun a k h => by unfold zR0; rw [if_neg h]
  obtain ⟨R', m', hev, b0, b1, -⟩ := l_law (R := zR0 L xs) (m := fun _ _ => 0) (x := 0) r00 r01 (by rw [r02]; omega) (fun _ => rfl) ra
  obtain ⟨n, hrun⟩ := zev_iff.mp hev
  have c0 : R' 0 0 ≤ 1000 ∧ 0 ≤ R' 0 0 := ⟨b0.2, b0.1⟩
  have c1 : R' 0 1 ≤ 30000 ∧ 0 ≤ R' 0 1 := ⟨b1.2, b1.1⟩
  have hzJ : zJ s.heap.size b D cy L xs (zR0 L xs) (fun _ _ => 0) s.heap s.heap [] := by
    refine ⟨fun k q h => ?_, ?_, ⟨?_, ?_, fun a k _ => ?_, fun a k _ => ?_, fun a k h => ?_, fun k hk => zR0_x hL k hk⟩, va_S.rf, r02, by omega, fun i hi => ?_⟩
    · rw [r00] at h
      have : (zws s.heap.size cy (zR0 L xs) (fun _ _ => 0) (0 : Int).toNat) = [] := rfl
      rw [this] at h
      cases h
    · rw [r00]; rfl
    · rw [r00]; exact Int.le_refl _
    · rw [r01]; exact Int.le_refl _
    · show zi32 0
      unfold zi32; omega
    · show zi64 0
      unfold zi64; omega
    · rw [ra a k (by omega), r00]; omega
    · unfold zR0
      rw [if_pos rfl, if_neg (by omega), if_pos ⟨by omega, by omega⟩, show (3 + (i : Int) - 3).toNat = i by omega]
  have hl := lv_entry ([Value.ref b]) (n := 25) (Nat.le_of_ble_eq_true rfl)
  rw [lg_entry_eq]
  generalize (lg_sl ([Value.ref b]) ++ List.replicate (25 - (lg_sl ([Value.ref b])).length) Slot.unset).toArray = LS at hl ⊢
  have hlh : zlh s.heap.size adK b LS 25 (zent [(4, 0)] 25) := zent_lh (as := [(4, 0)]) (fun v hv => by rw [List.mem_singleton.mp hv]; decide) (by decide) hl
  have hok : ∀ v ∈ zent [((4 : Nat), (0 : Int))] 25, zvok (zR0 L xs) v := zent_ok (fun v hv => by rw [List.mem_singleton.mp hv]; exact trivial)
  have hG := zsound n 0 0 (zent [(4, 0)] 25) [] (zR0 L xs) (fun _ _ => 0) ((0, 1), R', m') (by decide) hrun (p, l, e, room_1, s, m, #[Value.ref b], below, meth, c, lw_Z below #[Value.ref b] s, (s.heap.size, b, adK, D, cy, L, xs), zR0 L xs, ((0, 1), R', m')) rfl
    ⟨hx, hb, hml, hown, hts', hSt, by decide +kernel, by decide +kernel, fun h => absurd h (by decide +kernel), by show (R' 0 0 - zR0 L xs 0 0).toNat ≤ 600000; rw [r00]; omega, by show (R' 0 1 - zR0 L xs 0 1).toNat ≤ 7302250; rw [r01]; omega⟩ ?_
  · exact hG s.heap LS [] 0 0 hzJ hlh hok (fun v hv => by cases hv) ⟨Int.le_refl _, by show zR0 L xs 0 0 ≤ R' 0 0; rw [r00]; omega, Int.le_refl _, by show zR0 L xs 0 1 ≤ R' 0 1; rw [r01]; omega⟩ (by omega) (by omega)
  · intro pc H LS2 locs hJ2 hv2
    refine ⟨fun hd h9 hr => absurd h9 (show ¬ ((0 : Nat) = 9) by decide), fun hd h0 hr2 => ?_, fun hd h1 hr2 => absurd h1 (show ¬ ((0 : Nat) = 1) by decide), fun hd h3 hr2 => absurd h3 (show ¬ ((0 : Nat) = 3) by decide)⟩
    have e1 : zval s.heap.size adK b ((0 : Nat), (1 : Int)) = Value.int 1 := by
      show Value.int (Int32.ofInt 1) = Value.int 1
      rw [show Int32.ofInt 1 = (1 : Int32) by decide]
    show W p l e room_1 s m #[Value.ref b] below meth c H locs (R' 0 0 - zR0 L xs 0 0).toNat (R' 0 1 - zR0 L xs 0 1).toNat (lw_Z below #[Value.ref b] s) (F0 m pc LS2 [zval s.heap.size adK b ((0 : Nat), (1 : Int))])
    rw [e1]
    refine va_forget hJ2.2.2.2.1.2.2 (W.widen (k := 600000) (n := 7302250) (by rw [r00]; omega) (by rw [r01]; omega) ?_)
    exact lw_ret hx hb hr hlocks hd
set_option maxHeartbeats 4000000 in
theorem lw_walk (l : Launch) (hflags : l.flags = flags0) (b : Addr) (xs : List Int32) : MetFree l x (headSpec (Jvm.Cond.code x code maxLocals ret :: tables_1) room_1) (lw_P b xs) (fun _ _ _ _ _ => True) lw_Q := by
  refine MetFree.of_bodyS (code := code) (maxLocals := maxLocals) (ret := ret) (by decide) ?_ ?_
  · intro args s m h hn
    obtain ⟨meth, c, h1, h2, h3, h4, h5, h6, -, -⟩ := Cond.code_spec hn (atoms_spec (ws := Jvm.Cond.code x code maxLocals ret :: tables_1) h _ List.mem_cons_self)
    exact ⟨meth, c, h1, h2, h3, h4, h5, h6⟩
  · intro p e s m args below meth c s₁ B hml0 hP _
    obtain ⟨rfl, hx, hbd, hgv⟩ := hP
    obtain ⟨scr, harrAt, hlist, hof, hsmall⟩ := hx
    obtain ⟨hcb, hkn, -, -⟩ := State.arrayAt?_spec harrAt
    have hown : s.vm.findClass R_law = some m.cls := findClass_of_methodNamed B.named
    have hts0 : ∀ c ∈ (Jvm.Cond.code x code maxLocals ret :: tables_1), c.before #[Value.ref b] s = true := atoms_spec (ws := Jvm.Cond.code x code maxLocals ret :: tables_1) B.pre
    have hts : ∀ w ∈ lw_tbl, w.before #[Value.ref b] s = true := k2_hts_sels lw_privs (fun w hw => hts0 w (List.mem_cons_of_mem _ hw)) lw_privs_ok
    have hml : c.maxLocals = 25 := B.maxLocals_eq (hts0 _ List.mem_cons_self)
    have X₀ : Stand p l e room_1 s m #[Value.ref b] below meth c s₁ [] 0 0 := Stand.of_body B
    have hh0 : s₁.heap = s.heap := by rw [B.state]; rfl
    have hsz : scr.slots.size = xs.length := by rw [← Array.length_toList, hlist, List.length_map]
    have hval : ∀ j : Nat, j < xs.length → scr.slots[j]? = some (.int (xs.getD j 0)) := fun j hj => by
      rw [← Array.getElem?_toList, hlist]
      simp [hj]
    have hbl : b < s.heap.size := (Array.getElem?_eq_some_iff.mp hcb).1
    have hX : va_X b xs.length (fun j => xs.getD j 0) s s.heap := ⟨scr, hcb, hof, hkn, hsz, hval⟩
    have K : W p l e room_1 s m #[Value.ref b] below meth c s₁.heap [] 0 0 (lw_Z below #[Value.ref b] s) (entryFrame m ([Value.ref b] : List Value).toArray 25) := by
      rw [hh0]
      exact whole_start l hflags hbd ⟨B.exec, B.bytes, B.returns, hml, hown, hts, hX, hbl, B.notSynchronized, hgv⟩
    obtain ⟨t, a1, o, b1, b2, b3⟩ := K s₁ rfl X₀
    exact ⟨t, o, a1, b1, b2, b3⟩
theorem lw_pre_spec {args : Array Value} {s : State} (h : (Jvm.Cond.and given_1 narrow_1).before args s = true) (hr : rest_1_c.before args s = true) : ∃ (b : Addr) (xs : List Int32), lw_P b xs args s := by
  have hs := flat_of_before _ h
  have hq := flat_of_before _ hr
  have hc : (Cond.count 1).before args s = true := hs _ (by decide +kernel)
  have harr : (Cond.arrayOf (.arg 0) .int).before args s = true := hs _ (by decide +kernel)
  have hle : (Cond.le (.length (.arg 0)) (.int 260)).before args s = true := hs _ (by decide +kernel)
  have hlen : (Cond.isInt (.length (.arg 0))).before args s = true := hq _ (by decide +kernel)
  have hall : (Cond.all (.arg 0) (.isInt (.elem (.arg 0) (.index 0)))).before args s = true := hq _ (by decide +kernel)
  obtain ⟨b, xs, hb, hx⟩ := State.ints_of_pre rfl harr hlen hall
  have hsm : xs.length < 2 ^ 31 := hx.choose_spec.2.2.2
  have hev : (Term.length (.arg 0)).eval args s none [] s = some (.int xs.length.toInt32) := hx.length_eval hb
  have hv := Cond.le_ints hev (show (Term.int 260).eval args s none [] s = some (.int 260) from rfl)
  have hd : xs.length.toInt32 ≤ 260 := by
    simpa [Cond.before, Cond.holds, hv] using hle
  have hN : xs.length ≤ 260 := (Int32.ofNat_le_ofNat hsm (by decide)).mp (show Int32.ofNat xs.length ≤ Int32.ofNat 260 from hd)
  exact ⟨b, xs, Cond.one_arg hc (show args[0]? = some (.ref b) from hb), hx, hN, h⟩
theorem lw_comes (l : Launch) (hflags : l.flags = flags0) : Comes l x (Jvm.Cond.code x code maxLocals ret :: tables_1) room_1 (fun tb e args s => Calls_1 tb e args s ∧ rest_1 tb e args s ∧ Pre_1 tb e args s)
    (fun _ _ args s o t => lw_Q args s o t) := by
  intro p e ha hc hk s m args below hf hfit hheap happ hpre
  obtain ⟨b, xs, hP⟩ := lw_pre_spec hpre.2.2 hpre.2.1
  obtain ⟨k, o, h1, h2, h3, hQ⟩ := lw_walk l hflags b xs p e ha hc hk s m args below hf ((Spec.applies_iff_loose hf).mp happ).1 hP trivial
  exact ⟨k, o, h1, h2, h3, hQ⟩
theorem lw_frame {s t : State} {o : Outcome} {args : Array Value} (h : Framed s o t [] 600000 7302250) :
    Framed s o t (fieldLocs frame_1_writes args s ++ arrayLocs frame_1_arrays args s ++ staticLocs frame_1_statics s) 600000 7302250 := h
theorem lw_limb (L : Cond) (hL : ∀ (args : Array Value) (s t : State), L.after args s (.returned (some (.int 1))) t = true) :
    ArmFor flags0 classFile x code maxLocals ret World_1 tables_1 room_1 Calls_1 rest_1 Pre_1
      (fun tb e a s o t => postC L tb e a s o t ∧ Framed s o t (fieldLocs frame_1_writes a s ++ arrayLocs frame_1_arrays a s ++ staticLocs frame_1_statics s) 600000 7302250) := by
  intro l hflags _ _ p e ha hc hk s m args below hf hfit hheap happ hpre
  obtain ⟨k, o, h1, h2, h3, rfl, hF⟩ := lw_comes l hflags p e ha hc hk s m args below hf hfit hheap happ hpre
  exact ⟨k, _, h1, h2, h3, hL args s _, lw_frame hF⟩
theorem i_vc : Claimed_1_1 ∧ Claimed_1_2 := ⟨lw_limb limb_1_1 (fun args s t => by simp [limb_1_1, Cond.after, Cond.holds, Cond.value]), lw_limb limb_1_2 (fun args s t => Cond.after_iff.mpr (by
  first | (rw [show limb_1_2 = Cond.eq .result (.int 1) from rfl, Cond.eq_ints (x := 1) (y := 1) rfl rfl]; simp; done) | (simp [limb_1_2, Cond.value, Term.eval]; done)))⟩
