/-! pieces of a text, each a token and what blanks stand behind it -/
def Sp (f : Int → Int) (s : Int) (l : List Int) : Prop := ∀ i : Nat, i < l.length → f (s + i) = l.getD i 0
theorem Sp_app {f : Int → Int} {s : Int} {l l' : List Int} (h : Sp f s (l ++ l')) : Sp f s l ∧ Sp f (s + l.length) l' := by
  constructor
  · intro i hi
    have := h i (by rw [List.length_append]; omega)
    rw [this, List.getD_eq_getElem?_getD, List.getD_eq_getElem?_getD, List.getElem?_append_left hi]
  · intro i hi
    have := h (l.length + i) (by rw [List.length_append]; omega)
    rw [show s + ((l.length + i : Nat) : Int) = s + (l.length : Int) + (i : Int) by omega] at this
    rw [this, List.getD_eq_getElem?_getD, List.getD_eq_getElem?_getD, List.getElem?_append_right (by omega)]
    congr 2
    omega
def PcOk (l : List Int) (k v : Int) : Prop := (∃ b l', l = b :: l' ∧ b ≠ 32) ∧ ∀ (f : Int → Int) (n s : Int), 0 ≤ s → s + l.length ≤ n → Sp f s l → (s + l.length = n ∨ f (s + l.length) ≠ 32) → (zlx f n s).1 = k ∧ (zlx f n s).2.1 = v ∧ zbh (cB f n) n (zlx f n s).2.2 = s + l.length
theorem zb_in {f : Int → Int} {n p : Int} (h : 0 ≤ p ∧ p < n) : zb f n p = f p := by unfold zb; rw [if_pos h]
theorem zb_out {f : Int → Int} {n p : Int} (h : ¬ (0 ≤ p ∧ p < n)) : zb f n p = 0 := by unfold zb; rw [if_neg h]
/-- no blank stands at a place: nothing is passed -/
theorem zbh_here {f : Int → Int} {n p : Int} (h0 : 0 ≤ p) (h1 : p ≤ n) (h : p = n ∨ f p ≠ 32) : zbh (cB f n) n p = p := by
  apply zbh_is
  refine ⟨Int.le_refl _, h1, fun q a b => by omega, fun hp => ?_⟩
  rcases h with h | h
  · omega
  · unfold cB
    rw [zb_in ⟨h0, hp⟩]
    exact decide_eq_false h
theorem zbh_one {f : Int → Int} {n p : Int} (h0 : 0 ≤ p) (h1 : p + 1 ≤ n) (hp : f p = 32) (h : p + 1 = n ∨ f (p + 1) ≠ 32) : zbh (cB f n) n p = p + 1 := by
  apply zbh_is
  refine ⟨by omega, h1, fun q a b => ?_, fun hq => ?_⟩
  · have : q = p := by omega
    subst this
    unfold cB
    rw [zb_in ⟨h0, by omega⟩, hp]
    rfl
  · rcases h with h | h
    · omega
    · unfold cB
      rw [zb_in ⟨by omega, hq⟩]
      exact decide_eq_false h
theorem zwd_let : ((List.range 11).all fun i => (zwd (i : Int)).all fun b => decide (97 ≤ b ∧ b ≤ 122)) = true := by decide +kernel
theorem zwd_l {i : Int} (hi : 0 ≤ i ∧ i ≤ 10) {j : Nat} (hj : j < (zwd i).length) : 97 ≤ (zwd i).getD j 0 ∧ (zwd i).getD j 0 ≤ 122 := by
  have h := List.all_eq_true.mp zwd_let i.toNat (List.mem_range.mpr (by omega))
  rw [Int.toNat_of_nonneg hi.1] at h
  have := List.all_eq_true.mp h ((zwd i).getD j 0) (by rw [List.getD_eq_getElem?_getD, List.getElem?_eq_getElem hj]; exact List.getElem_mem hj)
  simpa using this
theorem zwd_ne : ((List.range 11).all fun i => (List.range 11).all fun j => decide (zwd (i : Int) = zwd (j : Int) → i = j)) = true := by decide +kernel
theorem zwd_inj {i j : Int} (hi : 0 ≤ i ∧ i ≤ 10) (hj : 0 ≤ j ∧ j ≤ 10) (h : zwd i = zwd j) : i = j := by
  have h1 := List.all_eq_true.mp zwd_ne i.toNat (List.mem_range.mpr (by omega))
  have h2 := List.all_eq_true.mp h1 j.toNat (List.mem_range.mpr (by omega))
  rw [Int.toNat_of_nonneg hi.1, Int.toNat_of_nonneg hj.1] at h2
  have := (of_decide_eq_true h2) h
  omega
theorem zsp_iff {f : Int → Int} {n s e j : Int} : zsp f n j s e = true ↔ ((zwd j).length : Int) = e - s ∧ ∀ k : Nat, k < (zwd j).length → (zwd j).getD k 0 = zb f n (s + k) := by
  unfold zsp
  rw [Bool.and_eq_true, decide_eq_true_eq]
  constructor
  · rintro ⟨h1, h2⟩
    refine ⟨h1, fun k hk => ?_⟩
    have h2 : ¬ zany (fun k => decide ((zwd j).getD k.toNat 0 ≠ zb f n (s + k))) (zwd j).length = true := by simpa using h2
    rw [zany_iff] at h2
    by_cases c : (zwd j).getD k 0 = zb f n (s + k)
    · exact c
    · exact absurd ⟨(k : Int), by omega, by omega, by rw [Int.toNat_natCast]; exact decide_eq_true c⟩ h2
  · rintro ⟨h1, h2⟩
    refine ⟨h1, ?_⟩
    have : ¬ zany (fun k => decide ((zwd j).getD k.toNat 0 ≠ zb f n (s + k))) (zwd j).length = true := by
      rw [zany_iff]
      rintro ⟨k, k0, k1, k2⟩
      have k2 := of_decide_eq_true k2
      have := h2 k.toNat (by omega)
      rw [Int.toNat_of_nonneg k0] at this
      exact k2 this
    simpa using this
theorem znm_is {f : Int → Int} {n s e i : Int} (hi : 0 ≤ i ∧ i ≤ 10) (h : zsp f n i s e = true) : znm f n s e = i := by
  unfold znm
  apply zfst_is hi.1 (by omega) h
  intro j j0 j1
  have a := zsp_iff.mp h
  by_cases c : zsp f n j s e = true
  · have b := zsp_iff.mp c
    exfalso
    have hlen : (zwd i).length = (zwd j).length := by omega
    have : zwd i = zwd j := by
      apply List.ext_getElem hlen
      intro k k1 k2
      have e1 := a.2 k k1
      have e2 := b.2 k k2
      rw [List.getD_eq_getElem?_getD, List.getElem?_eq_getElem k1] at e1
      rw [List.getD_eq_getElem?_getD, List.getElem?_eq_getElem k2] at e2
      simp only [Option.getD_some] at e1 e2
      rw [e1, e2]
    have := zwd_inj hi ⟨j0, by omega⟩ this
    omega
  · simpa using c
theorem PcOk_W {i : Int} (hi : 0 ≤ i ∧ i ≤ 10) : PcOk (pcW i) 1 i := by
  have hl := zwd_le hi
  obtain ⟨b, l', hb⟩ : ∃ b l', zwd i = b :: l' := by
    cases h : zwd i with
    | nil => rw [h] at hl; simp at hl
    | cons b l' => exact ⟨b, l', rfl⟩
  have hb0 : 97 ≤ b ∧ b ≤ 122 := by
    have := zwd_l hi (j := 0) (by omega)
    rw [hb] at this
    exact this
  refine ⟨⟨b, l' ++ [32], by unfold pcW; rw [hb]; rfl, by omega⟩, fun f n s s0 sn hS hN => ?_⟩
  unfold pcW at sn hS hN
  obtain ⟨S1, S2⟩ := Sp_app hS
  have h32 : f (s + (zwd i).length) = 32 := by
    have := S2 0 (by simp)
    simpa using this
  have elen : ((zwd i ++ [32]).length : Int) = (zwd i).length + 1 := by rw [List.length_append]; rfl
  rw [elen] at sn hN
  obtain ⟨d, hd⟩ : ∃ d : Int, ((zwd i).length : Int) = d := ⟨_, rfl⟩
  rw [hd] at sn hN h32
  have d1 : 1 ≤ d := by omega
  have hf : ∀ q, s ≤ q → q < s + d → 97 ≤ f q ∧ f q ≤ 122 := fun q q0 q1 => by
    have := S1 (q - s).toNat (by omega)
    rw [show s + ((q - s).toNat : Int) = q by omega] at this
    rw [this]
    exact zwd_l hi (by omega)
  have cLs : cL f n s = true := by
    unfold cL
    rw [zb_in ⟨s0, by omega⟩]
    exact decide_eq_true (hf s (by omega) (by omega))
  have hrun : zbh (cL f n) n s = s + d := by
    apply zbh_is
    refine ⟨by omega, by omega, fun q a b => ?_, fun hq => ?_⟩
    · unfold cL
      rw [zb_in ⟨by omega, by omega⟩]
      exact decide_eq_true (hf q a b)
    · unfold cL
      rw [zb_in ⟨by omega, hq⟩, h32]
      rfl
  have hsp : zsp f n i s (s + d) = true := by
    rw [zsp_iff]
    refine ⟨by omega, fun k hk => ?_⟩
    rw [zb_in ⟨by omega, by omega⟩]
    exact (S1 k hk).symm
  have hnm := znm_is hi hsp
  have hz : zlx f n s = (1, i, s + d) := by
    unfold zlx
    rw [if_neg (by omega), if_pos cLs, hrun, hnm, if_pos hi.1]
  rw [hz]
  refine ⟨rfl, rfl, ?_⟩
  show zbh (cB f n) n (s + d) = _
  rw [zbh_one (by omega) (by omega) h32 (by rw [Int.add_assoc]; exact hN)]
  unfold pcW
  rw [elen, hd]
  omega
theorem PcOk_S : PcOk [59] 3 0 := by
  refine ⟨⟨59, [], rfl, by decide⟩, fun f n s s0 sn hS hN => ?_⟩
  have h59 : f s = 59 := by
    have := hS 0 (by simp)
    simpa using this
  have e1 : s + (([59] : List Int).length : Int) = s + 1 := rfl
  rw [e1] at sn hN ⊢
  have hz : zlx f n s = (3, 0, s + 1) := by
    unfold zlx cL cF
    rw [if_neg (by omega), zb_in ⟨s0, by omega⟩, h59]
    rfl
  rw [hz]
  refine ⟨rfl, rfl, ?_⟩
  show zbh (cB f n) n (s + 1) = s + 1
  exact zbh_here (by omega) sn hN
theorem PcOk_X : PcOk [42] 4 0 := by
  refine ⟨⟨42, [], rfl, by decide⟩, fun f n s s0 sn hS hN => ?_⟩
  have h59 : f s = 42 := by
    have := hS 0 (by simp)
    simpa using this
  have e1 : s + (([42] : List Int).length : Int) = s + 1 := rfl
  rw [e1] at sn hN ⊢
  have hz : zlx f n s = (4, 0, s + 1) := by
    unfold zlx cL cF
    rw [if_neg (by omega), zb_in ⟨s0, by omega⟩, h59]
    rfl
  rw [hz]
  refine ⟨rfl, rfl, ?_⟩
  show zbh (cB f n) n (s + 1) = s + 1
  exact zbh_here (by omega) sn hN
/-- the figures of a number -/
def dg (w : Int) : List Int := (if 99 < w then [48 + w / 100] else []) ++ ((if 9 < w then [48 + w / 10 % 10] else []) ++ [48 + w % 10])
theorem dg_ok {w : Int} (hw : 0 ≤ w ∧ w ≤ 999) : (1 ≤ (dg w).length ∧ (dg w).length ≤ 3) ∧ (∀ j : Nat, j < (dg w).length → 48 ≤ (dg w).getD j 0 ∧ (dg w).getD j 0 ≤ 57) ∧ ∀ (b : Int → Int) (p : Int), (∀ j : Nat, j < (dg w).length → b (p + j) = (dg w).getD j 0) → zdg b p (dg w).length = w := by
  unfold dg
  by_cases c1 : 99 < w
  · rw [if_pos c1, if_pos (by omega)]
    refine ⟨by simp, fun j hj => ?_, fun b p h => ?_⟩
    · simp only [List.length_append, List.length_cons, List.length_nil] at hj
      rcases (show j = 0 ∨ j = 1 ∨ j = 2 by omega) with e | e | e <;> subst e <;> simp <;> omega
    · have h0 := h 0 (by simp)
      have h1 := h 1 (by simp)
      have h2 := h 2 (by simp)
      simp at h0 h1 h2
      simp only [List.length_append, List.length_cons, List.length_nil, zdg]
      simp
      rw [h0, h1, h2]
      omega
  · rw [if_neg c1]
    by_cases c2 : 9 < w
    · rw [if_pos c2]
      refine ⟨by simp, fun j hj => ?_, fun b p h => ?_⟩
      · simp only [List.length_append, List.length_cons, List.length_nil] at hj
        rcases (show j = 0 ∨ j = 1 by omega) with e | e <;> subst e <;> simp <;> omega
      · have h0 := h 0 (by simp)
        have h1 := h 1 (by simp)
        simp at h0 h1
        simp only [List.length_append, List.length_cons, List.length_nil, zdg]
        simp
        rw [h0, h1]
        omega
    · rw [if_neg c2]
      refine ⟨by simp, fun j hj => ?_, fun b p h => ?_⟩
      · simp only [List.length_append, List.length_cons, List.length_nil] at hj
        have e : j = 0 := by omega
        subst e
        simp
        omega
      · have h0 := h 0 (by simp)
        simp at h0
        simp only [List.length_append, List.length_cons, List.length_nil, zdg]
        simp
        rw [h0]
        omega
theorem PcOk_N {v : Int} (hv : -999 ≤ v ∧ v ≤ 999) : PcOk (pcN v) 2 v := by
  obtain ⟨w, hw⟩ : ∃ w, zab v = w := ⟨_, rfl⟩
  have hw0 : 0 ≤ w ∧ w ≤ 999 := by rw [← hw]; unfold zab; split <;> omega
  obtain ⟨⟨d1, d3⟩, dr, dv⟩ := dg_ok hw0
  have hnl : nl v = (if 0 ≤ v then [] else [45]) ++ dg w := by unfold nl dg; rw [hw]
  have hdg : ∃ b l', dg w = b :: l' ∧ (48 ≤ b ∧ b ≤ 57) := by
    cases h : dg w with
    | nil => rw [h] at d1; simp at d1
    | cons b l' =>
      refine ⟨b, l', rfl, ?_⟩
      have := dr 0 (by omega)
      rw [h] at this
      exact this
  obtain ⟨D, hD⟩ : ∃ D, dg w = D := ⟨_, rfl⟩
  rw [hD] at d1 d3 dr dv hnl hdg
  -- the figures, from a place on
  have fig : ∀ (f : Int → Int) (n p : Int), 0 ≤ p → p + D.length + 1 ≤ n → Sp f p (D ++ [32]) → (∀ q, p ≤ q → q < p + D.length → cF f n q = true) ∧ (∀ q, p ≤ q → q ≤ p + D.length → zbh (cF f n) n q = p + D.length) ∧ zdg (zb f n) p D.length = w ∧ f (p + D.length) = 32 := by
    intro f n p p0 pn hS
    obtain ⟨S1, S2⟩ := Sp_app hS
    have h32 : f (p + D.length) = 32 := by
      have := S2 0 (by simp)
      simpa using this
    have hF : ∀ q, p ≤ q → q < p + D.length → cF f n q = true := fun q q0 q1 => by
      have := S1 (q - p).toNat (by omega)
      rw [show p + ((q - p).toNat : Int) = q by omega] at this
      unfold cF
      rw [zb_in ⟨by omega, by omega⟩, this]
      exact decide_eq_true (dr _ (by omega))
    refine ⟨hF, fun q q0 q1 => ?_, dv _ _ fun j hj => ?_, h32⟩
    · apply zbh_is
      refine ⟨q1, by omega, fun r a b => hF r (by omega) b, fun hq => ?_⟩
      unfold cF
      rw [zb_in ⟨by omega, hq⟩, h32]
      rfl
    · rw [zb_in ⟨by omega, by omega⟩]
      exact S1 j hj
  unfold zab at hw
  by_cases c : 0 ≤ v
  · rw [if_pos c] at hw hnl
    rw [List.nil_append] at hnl
    obtain ⟨b, l', hb, hb2⟩ := hdg
    refine ⟨⟨b, l' ++ [32], by unfold pcN; rw [hnl, hb]; rfl, by omega⟩, fun f n s s0 sn hS hN => ?_⟩
    unfold pcN at sn hS hN
    rw [hnl] at sn hS hN
    have elen : ((D ++ [32]).length : Int) = D.length + 1 := by rw [List.length_append]; rfl
    rw [elen] at sn hN
    obtain ⟨g1, g2, g3, g4⟩ := fig f n s s0 (by omega) hS
    have hF := g1 s (by omega) (by omega)
    have hr := g2 (s + 1) (by omega) (by omega)
    have nL : ¬ cL f n s = true := by
      have hF2 := of_decide_eq_true hF
      unfold cL
      intro q
      have := of_decide_eq_true q
      omega
    have hz : zlx f n s = (2, v, s + D.length) := by
      unfold zlx
      rw [if_neg (by omega), if_neg nL, if_pos hF, hr, if_neg (by omega), show (s + (D.length : Int) - s).toNat = D.length by omega, g3, hw]
    rw [hz]
    refine ⟨rfl, rfl, ?_⟩
    show zbh (cB f n) n (s + D.length) = _
    rw [zbh_one (by omega) (by omega) g4 (by rw [Int.add_assoc]; exact hN)]
    unfold pcN
    rw [hnl, elen]
    omega
  · rw [if_neg c] at hw hnl
    refine ⟨⟨45, D ++ [32], by unfold pcN; rw [hnl]; rfl, by decide⟩, fun f n s s0 sn hS hN => ?_⟩
    unfold pcN at sn hS hN
    rw [hnl] at sn hS hN
    have elen : (([45] ++ D ++ [32]).length : Int) = D.length + 2 := by rw [List.length_append, List.length_append]; simp only [List.length_cons, List.length_nil]; omega
    rw [elen] at sn hN
    rw [List.append_assoc] at hS
    obtain ⟨S1, S2⟩ := Sp_app hS
    have h45 : f s = 45 := by
      have := S1 0 (by simp)
      simpa using this
    have S2 : Sp f (s + 1) (D ++ [32]) := S2
    obtain ⟨g1, g2, g3, g4⟩ := fig f n (s + 1) (by omega) (by omega) S2
    have hr := g2 (s + 1) (by omega) (by omega)
    have zs : zb f n s = 45 := by rw [zb_in ⟨s0, by omega⟩, h45]
    have hz : zlx f n s = (2, v, s + 1 + D.length) := by
      unfold zlx
      rw [if_neg (by omega), if_neg (by unfold cL; rw [zs]; decide), if_neg (by unfold cF; rw [zs]; decide), if_pos zs, hr, if_neg (by omega), show (s + 1 + (D.length : Int) - (s + 1)).toNat = D.length by omega, g3, ← hw, Int.neg_neg]
    rw [hz]
    refine ⟨rfl, rfl, ?_⟩
    show zbh (cB f n) n (s + 1 + D.length) = _
    rw [zbh_one (by omega) (by omega) g4 (by rw [show s + 1 + (D.length : Int) + 1 = s + ((D.length : Int) + 2) by omega]; exact hN)]
    unfold pcN
    rw [hnl, elen]
    omega
