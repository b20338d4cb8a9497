/-! on foot: what the ways depend on -/
def wX (w : zM) (c : Int → Int) : zM := zpr (zup w 100 56 0) 135 c
def zq0 (w x : zM) : Prop := w 100 56 = 0 ∧ x 100 56 = 0 ∧ x 100 0 = w 100 0 ∧ x 100 1 = w 100 1 ∧ (∀ p, 0 ≤ p → p < 64 → x 101 p = w 101 p ∧ x 102 p = w 102 p) ∧ ∀ e, 0 ≤ e → e < 128 → x 135 e = w 135 e
section ONFOOT
variable {w x : zM} {D : Int → Int} {H : Int → Bool} {a p to : Int}
theorem wX_f (w : zM) (c : Int → Int) {k : Int} (h : k ≠ 56) : wX w c 100 k = w 100 k := by unfold wX; rw [zpr_ne (by decide), zup_ne (Or.inr h)]
theorem wX_56 (w : zM) (c : Int → Int) : wX w c 100 56 = 0 := by unfold wX; rw [zpr_ne (by decide), zup_at]
theorem wX_135 (w : zM) (c : Int → Int) : wX w c 135 = c := by unfold wX; rw [zpr_at]
theorem wX_b (w : zM) (c : Int → Int) {b : Int} (h : b ≠ 100 ∧ b ≠ 135) : wX w c b = w b := by unfold wX; rw [zpr_ne h.2, zup_row h.1]
theorem wX_MV (hV : MV w) (c : Int → Int) : MV (wX w c) := by
  unfold MV mN at *
  rw [wX_f w c (by decide), wX_f w c (by decide), wX_b w c (by decide), wX_b w c (by decide), wX_b w c (by decide)]
  exact hV
theorem wX_Stop (w : zM) (c : Int → Int) : wStop (wX w c) := by
  intro s s0 s1 h
  by_cases l : s < 64
  · rw [wPl_lo l]; exact ⟨s0, l⟩
  · exact absurd (wX_56 w c) (wSt_hb h (by omega))
theorem wX_Cr (w : zM) {c : Int → Int} (h : ∀ e, 0 ≤ e → e < 128 → 0 ≤ c e ∧ c e ≤ 1000) : wCr (wX w c) := by
  unfold wCr
  rw [wX_135]
  exact h
theorem wX_WRs {m : zM} (hW : WRs m w) (c : Int → Int) : WRs m (wX w c) := by
  unfold WRs RB MV mN at *
  simp (disch := decide) only [wX_f, wX_b]
  exact hW
theorem wSt_f (hb : w 100 56 = 0) {s : Int} (h : wSt w s = true) : 0 ≤ s ∧ s < 64 := by
  have h2 := h
  unfold wSt at h
  simp only [Bool.and_eq_true, decide_eq_true_eq] at h
  by_cases c : s < 64
  · exact ⟨h.1.1, c⟩
  · exact absurd hb (wSt_hb h2 (by omega))
theorem zq0_St (h : zq0 w x) : wSt x = wSt w := by
  obtain ⟨h1, h2, h3, h4, h5, h6⟩ := h
  funext s
  unfold wSt
  by_cases c : 0 ≤ s ∧ s < 88
  · by_cases d : s < 64
    · rw [if_pos d, if_pos d, (h5 s c.1 d).1, show mN x = mN w from mN_e h3 h4]
    · rw [if_neg d, if_neg d, decide_eq_false (show ¬ (x 100 56 ≠ 0 ∧ _) from fun q => q.1 h2), decide_eq_false (show ¬ (w 100 56 ≠ 0 ∧ _) from fun q => q.1 h1)]
  · rw [decide_eq_false c, Bool.false_and, Bool.false_and]
theorem zq0_Tk (h : zq0 w x) {s t : Int} (hs : 0 ≤ s ∧ s < 64) (ht : 0 ≤ t ∧ t < 64) : wTk x s t = wTk w s t := by
  obtain ⟨h1, h2, h3, h4, h5, h6⟩ := h
  unfold wTk
  rw [if_pos (show s < 64 ∧ t < 64 from ⟨hs.2, ht.2⟩), if_pos (show s < 64 ∧ t < 64 from ⟨hs.2, ht.2⟩), h3, (h5 s hs.1 hs.2).1, (h5 s hs.1 hs.2).2, (h5 t ht.1 ht.2).1, (h5 t ht.1 ht.2).2]
  by_cases f : zfar (w 100 0) s t = 1
  · have ne : s ≠ t := by intro e; rw [e] at f; unfold zfar zab at f; simp at f
    have eb := wEd_b hs ht ne
    rw [h6 _ eb.1 eb.2]
  · rw [if_neg f, if_neg f]
theorem zdt_cg {st : Int → Bool} {tk tk' : Int → Int → Int} {C : Int} (hto : 0 ≤ to ∧ to < 88) (hC : zCo st tk C) (h : ∀ s t, st s = true → st t = true → tk' s t = tk s t) (k : Nat) (hk : k ≤ 89) : zdt (zds st tk') k (zd0 st to) = zdt (zds st tk) k (zd0 st to) := by
  induction k with
  | zero => rfl
  | succ k ih =>
    simp only [zdt]
    rw [ih (by omega)]
    have hI := zDI_it hto hC k (by omega)
    generalize zdt (zds st tk) k (zd0 st to) = P at *
    unfold zds
    by_cases c : zpk P.1 P.2 88 = -4
    · rw [if_pos c, if_pos c]
    · rw [if_neg c, if_neg c]
      have sb : st (zpk P.1 P.2 88) = true := by
        rcases zpk_ok P.1 P.2 88 with ⟨q, -⟩ | ⟨-, -, -, q, -⟩
        · exact absurd q c
        · exact (hI.2.1 _ q).1
      have e : zrx st tk' P.1 (fun s => P.2 s || decide (s = zpk P.1 P.2 88)) (zpk P.1 P.2 88) = zrx st tk P.1 (fun s => P.2 s || decide (s = zpk P.1 P.2 88)) (zpk P.1 P.2 88) := by
        funext s
        unfold zrx
        by_cases ss : st s = true
        · rw [h s _ ss sb]
        · rw [if_neg (fun q => ss q.1), if_neg (fun q => ss q.1)]
      rw [e]
theorem zq0_pD (hV : MV w) (hC : wCr w) (h : zq0 w x) (hto : 0 ≤ to ∧ to < 88) : pD x to = pD w to := by
  rw [pD_e, pD_e, zq0_St h, zdt_cg hto (wTk_co hV hC) (fun s t hs ht => zq0_Tk h (wSt_f h.1 hs) (wSt_f h.1 ht)) 88 (by omega)]
theorem zq0_gC (h : zq0 w x) {s : Int} (hs : 0 ≤ s ∧ s < 88) (t : Int) : gC x D s t = gC w D s t := by
  unfold gC
  rw [zq0_St h]
  by_cases c : wSt w t = true ∧ ((s < 64) ↔ (t < 64))
  · have tf := wSt_f h.1 c.1
    rw [zq0_Tk h ⟨hs.1, c.2.2 tf.2⟩ tf]
  · rw [decide_eq_false (fun q => c ⟨q.2.2.1, q.1⟩), decide_eq_false (fun q => c ⟨q.2.2.1, q.1⟩)]
theorem zq0_zlst (h : zq0 w x) : zlst x D H = zlst w D H := by
  have e : zcd x D H = zcd w D H := by
    funext q
    unfold zcd
    refine zany_congr (fun s s0 s1 => ?_)
    have e2 : zany (fun t => gC x D s t && decide (wPl x t = q)) 88 = zany (fun t => gC w D s t && decide (wPl w t = q)) 88 := zany_congr (fun t t0 t1 => by
      rw [zq0_gC h ⟨s0, by omega⟩]
      cases g : gC w D s t with
      | false => rfl
      | true =>
        have tf := wSt_f h.1 ((gC_iff _ _).1 g).2.2.1
        rw [wPl_lo tf.2, wPl_lo tf.2])
    rw [e2]
  unfold zlst
  rw [e]
theorem zq0_znx (h : zq0 w x) (v : Int) : znx x D H v = znx w D H v := by
  funext t
  unfold znx
  have e : zany (fun s => H s && gC x D s t) 88 = zany (fun s => H s && gC w D s t) 88 := zany_congr (fun s s0 s1 => by rw [zq0_gC h ⟨s0, by omega⟩])
  rw [e]
  cases g : zany (fun s => H s && gC w D s t) 88 with
  | false => rfl
  | true =>
    obtain ⟨s, s0, s1, hs⟩ := (zany_iff _ _).1 g
    simp only [Bool.and_eq_true] at hs
    have tf := wSt_f h.1 ((gC_iff _ _).1 hs.2).2.2.1
    rw [wPl_lo tf.2, wPl_lo tf.2]
theorem zq0_cH (h : zq0 w x) : cH x D H p = cH w D H p := by
  have cf : cFo x D H p = cFo w D H p := by unfold cFo; rw [zq0_St h]
  funext s
  unfold cH
  rw [cf, zq0_St h]
  by_cases c : s < 64
  · rw [if_pos c, if_pos c]
  · rw [if_neg c, if_neg c, decide_eq_false (fun q => by have := wSt_f h.1 q.1; omega), decide_eq_false (fun q => by have := wSt_f h.1 q.1; omega)]
theorem zq0_zpw (h : zq0 w x) (i : Nat) : zpw x D a i = zpw w D a i := by
  induction i with
  | zero => simp only [zpw]; rw [zq0_cH h]
  | succ i ih => simp only [zpw]; rw [ih, zq0_zlst h, zq0_znx h, zq0_cH h]
theorem zq0_pLn (h : zq0 w x) : pLn x D a to = pLn w D a to := by
  rw [pLn_e, pLn_e]
  have e : (fun i => (zpw x D a i).2 to) = fun i => (zpw w D a i).2 to := by funext i; rw [zq0_zpw h]
  rw [e]
end ONFOOT
