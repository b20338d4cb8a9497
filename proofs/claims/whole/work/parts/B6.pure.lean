/-! least times and ways as functions of the model's memory -/
theorem pD_x (w : zM) (to : Int) : ∃ f : Int → Int, f = (zdt (zds (wSt w) (wTk w)) 88 (zd0 (wSt w) to)).1 := ⟨_, rfl⟩
noncomputable def pD (w : zM) (to : Int) : Int → Int := Classical.choose (pD_x w to)
theorem pD_e (w : zM) (to : Int) : pD w to = (zdt (zds (wSt w) (wTk w)) 88 (zd0 (wSt w) to)).1 := Classical.choose_spec (pD_x w to)
def pNf (f : Nat → Bool) : Nat → Nat → Nat
  | 0, k => k
  | n + 1, k => if f k = true then k else pNf f n (k + 1)
theorem pLn_x (w : zM) (D : Int → Int) (a to : Int) : ∃ N : Nat, N = pNf (fun i => (zpw w D a i).2 to) 88 0 := ⟨_, rfl⟩
noncomputable def pLn (w : zM) (D : Int → Int) (a to : Int) : Nat := Classical.choose (pLn_x w D a to)
theorem pLn_e (w : zM) (D : Int → Int) (a to : Int) : pLn w D a to = pNf (fun i => (zpw w D a i).2 to) 88 0 := Classical.choose_spec (pLn_x w D a to)
section PURE
variable {w x : zM} {D D' : Int → Int} {H : Int → Bool} {a p to : Int}
theorem pD_of {Q : zDP} (hQ : zdf (wSt w) (wTk w) to Q) : Q.1 = pD w to := by
  have h : zdf (wSt w) (wTk w) to (zdt (zds (wSt w) (wTk w)) 88 (zd0 (wSt w) to)) := ⟨88, rfl, zdt_88 _ _ _⟩
  rw [zdf_uniq hQ h, pD_e]
theorem pD_DFn (hV : MV w) (hC : wCr w) (hto : 0 ≤ to ∧ to < 88) : DFn w (pD w to) to :=
  DFn_of hV hC hto (Q := zdt (zds (wSt w) (wTk w)) 88 (zd0 (wSt w) to)) ⟨88, rfl, zdt_88 _ _ _⟩ (fun _ _ _ => by rw [pD_e])
theorem pD_c (h : zqc w x) : pD x to = pD w to := by rw [pD_e, pD_e, wSt_c h, wTk_c h]
theorem pNf_ok {f : Nat → Bool} {N : Nat} (h1 : f N = true) (h2 : ∀ j : Nat, j < N → f j = false) (n k : Nat) (hk : k ≤ N) (hn : N < k + n) : pNf f n k = N := by
  induction n generalizing k with
  | zero => omega
  | succ n ih =>
    simp only [pNf]
    by_cases e : k = N
    · rw [e, if_pos h1]
    · rw [if_neg (by rw [h2 k (by omega)]; decide)]
      exact ih (k + 1) (by omega) (by omega)
theorem pLn_of {N : Nat} (h : zpe w D a to N) (hN : N ≤ 87) : pLn w D a to = N := (pLn_e w D a to).trans (pNf_ok h.1 h.2 88 0 (by omega) (by omega))
/-- other memories, other times -/
theorem fC_c (h : zqc w x) : fC x D = fC w D := by funext s t; unfold fC; rw [wSt_c h, wPl_c h, wTk_c h]
theorem gC_c (h : zqc w x) : gC x D = gC w D := by funext s t; unfold gC; rw [wSt_c h, wTk_c h]
theorem zlst_c (h : zqc w x) : zlst x D H = zlst w D H := by unfold zlst zcd; rw [gC_c h, wPl_c h]
theorem znx_c (h : zqc w x) (v : Int) : znx x D H v = znx w D H v := by unfold znx; rw [gC_c h, wPl_c h]
theorem zpw_c (h : zqc w x) (i : Nat) : zpw x D a i = zpw w D a i := by
  induction i with
  | zero => simp only [zpw]; rw [cH_c h]
  | succ i ih => simp only [zpw]; rw [ih, zlst_c h, znx_c h, cH_c h]
theorem gC_D (h : ∀ s, 0 ≤ s → s < 88 → D s = D' s) {s : Int} (t : Int) (hs : 0 ≤ s ∧ s < 88) : gC w D s t = gC w D' s t := by
  unfold gC
  by_cases c : wSt w t = true
  · have ht : 0 ≤ t ∧ t < 88 := by
      unfold wSt at c
      simp only [Bool.and_eq_true, decide_eq_true_eq] at c
      exact c.1
    rw [h s hs.1 hs.2, h t ht.1 ht.2]
  · rw [decide_eq_false (fun q => c q.2.2.1), decide_eq_false (fun q => c q.2.2.1)]
theorem zlst_D (h : ∀ s, 0 ≤ s → s < 88 → D s = D' s) : zlst w D H = zlst w D' H := by
  have e : zcd w D H = zcd w D' H := by
    funext q
    unfold zcd
    refine zany_congr (fun s s0 s1 => ?_)
    have e2 : zany (fun t => gC w D s t && decide (wPl w t = q)) 88 = zany (fun t => gC w D' s t && decide (wPl w t = q)) 88 := zany_congr (fun t t0 t1 => by rw [gC_D h t ⟨s0, by omega⟩])
    rw [e2]
  unfold zlst
  rw [e]
theorem znx_D (h : ∀ s, 0 ≤ s → s < 88 → D s = D' s) (v : Int) : znx w D H v = znx w D' H v := by
  funext t
  unfold znx
  have e : zany (fun s => H s && gC w D s t) 88 = zany (fun s => H s && gC w D' s t) 88 := zany_congr (fun s s0 s1 => by rw [gC_D h t ⟨s0, by omega⟩])
  rw [e]
theorem cFo_D (h : ∀ s, 0 ≤ s → s < 88 → D s = D' s) : cFo w D H p = cFo w D' H p := by
  unfold cFo
  by_cases c : wSt w p = true
  · have ht : 0 ≤ p ∧ p < 88 := by
      unfold wSt at c
      simp only [Bool.and_eq_true, decide_eq_true_eq] at c
      exact c.1
    have e : zany (fun a => H (64 + a) && decide (D (64 + a) = D p)) 24 = zany (fun a => H (64 + a) && decide (D' (64 + a) = D' p)) 24 := zany_congr (fun a a0 a1 => by rw [h p ht.1 ht.2, h (64 + a) (by omega) (by omega)])
    rw [e]
  · have : wSt w p = false := by simpa using c
    rw [this, Bool.false_and, Bool.false_and]
theorem cH_D (hS : wStop w) (h : ∀ s, 0 ≤ s → s < 88 → D s = D' s) : cH w D H p = cH w D' H p := by
  funext s
  unfold cH
  rw [cFo_D h]
  by_cases c : s < 64
  · rw [if_pos c, if_pos c]
  · rw [if_neg c, if_neg c]
    by_cases d : wSt w s = true ∧ wPl w s = p
    · have hs : 0 ≤ s ∧ s < 88 := by
        have c := d.1
        unfold wSt at c
        simp only [Bool.and_eq_true, decide_eq_true_eq] at c
        exact c.1
      have hp := hS s hs.1 hs.2 d.1
      rw [d.2] at hp
      rw [h p hp.1 (by omega), h s hs.1 hs.2]
    · rw [decide_eq_false (fun q => d ⟨q.1, q.2.1⟩), decide_eq_false (fun q => d ⟨q.1, q.2.1⟩)]
theorem zpw_D (hS : wStop w) (h : ∀ s, 0 ≤ s → s < 88 → D s = D' s) (i : Nat) : zpw w D a i = zpw w D' a i := by
  induction i with
  | zero => simp only [zpw]; rw [cH_D hS h]
  | succ i ih => simp only [zpw]; rw [ih, zlst_D h, znx_D h, cH_D hS h]
/-- on foot a way has at most 64 plots -/
theorem rk_foot (hD : DFn w D to) (hb : w 100 56 = 0) (ha : 0 ≤ a ∧ a < 64) (hr : D a < 1000000) : rk D a ≤ 63 := by
  unfold rk
  have l := zcnt_lt (p := fun t => decide (D t < D a)) (q := fun t => decide (t < 64)) (n := 88) (fun t t0 t1 ht => by
    have d := of_decide_eq_true ht
    rcases hD.1 t t0 (by omega) with q | q
    · omega
    · apply decide_eq_true
      by_cases c : t < 64
      · exact c
      · exact absurd hb (wSt_hb q.2.2 (by omega))) ha.1 (by omega) (decide_eq_false (by omega)) (decide_eq_true ha.2)
  have e : zcnt (fun t => decide (t < 64)) 88 = 64 := by decide +kernel
  omega
theorem pLn_foot (hV : MV w) (hC : wCr w) (hS : wStop w) (hb : w 100 56 = 0) (hD : DFn w D to) (hto : 0 ≤ to ∧ to < 64) (ha : 0 ≤ a ∧ a < 64) (hr : D a < 1000000) : pLn w D a to ≤ 63 ∧ zpe w D a to (pLn w D a to) := by
  obtain ⟨N, h1, h2, h3⟩ := zps_end (K := 63) hV hC hS hD hto ha hr (rk_foot hD hb ha hr)
  have e := pLn_of (w := w) (D := D) (a := a) (to := to) (N := N) ⟨h2, h3⟩ (by omega)
  rw [e]
  exact ⟨by omega, h2, h3⟩
theorem pLn_any (hV : MV w) (hC : wCr w) (hS : wStop w) (hD : DFn w D to) (hto : 0 ≤ to ∧ to < 64) (ha : 0 ≤ a ∧ a < 64) (hr : D a < 1000000) : pLn w D a to ≤ 87 ∧ zpe w D a to (pLn w D a to) := by
  obtain ⟨N, h1, h2, h3⟩ := zps_end (K := 87) hV hC hS hD hto ha hr (rk_b ha.1 (by omega)).2
  have e := pLn_of (w := w) (D := D) (a := a) (to := to) (N := N) ⟨h2, h3⟩ (by omega)
  rw [e]
  exact ⟨by omega, h2, h3⟩
theorem zpe_D (hS : wStop w) (h : ∀ s, 0 ≤ s → s < 88 → D s = D' s) {N : Nat} (hN : zpe w D a to N) : zpe w D' a to N := by
  unfold zpe at *
  refine ⟨?_, fun j hj => ?_⟩
  · rw [← zpw_D hS h]; exact hN.1
  · rw [← zpw_D hS h]; exact hN.2 j hj
/-- plots of the way: on the board, steps on foot -/
theorem zpw_pl (hV : MV w) (hC : wCr w) (hS : wStop w) (hD : DFn w D to) (hto : 0 ≤ to ∧ to < 64) (ha : 0 ≤ a ∧ a < 64) (hr : D a < 1000000) {N : Nat} (hN : zpe w D a to N) (i : Nat) (hi : i ≤ N) : 0 ≤ (zpw w D a i).1 ∧ (zpw w D a i).1 < 64 := by
  have hK := (rk_b (D := D) (s := a) ha.1 (by omega)).2
  exact (zps_PI (K := 87) hV hC hS hD hto ha hr hK i (fun j hj => hN.2 j (by omega))).1.1.1
theorem zpw_st (hV : MV w) (hC : wCr w) (hS : wStop w) (hb : w 100 56 = 0) (hD : DFn w D to) (hto : 0 ≤ to ∧ to < 64) (ha : 0 ≤ a ∧ a < 64) (hr : D a < 1000000) {N : Nat} (hN : zpe w D a to N) (i : Nat) (hi : i < N) : wSt w (zpw w D a i).1 = true ∧ wSt w (zpw w D a (i + 1)).1 = true ∧ zfar (w 100 0) (zpw w D a i).1 (zpw w D a (i + 1)).1 = 1 := by
  have hK := (rk_b (D := D) (s := a) ha.1 (by omega)).2
  have hP := (zps_PI (K := 87) hV hC hS hD hto ha hr hK i (fun j hj => hN.2 j (by omega)))
  have hP1 := (zpw_pl hV hC hS hD hto ha hr hN (i + 1) (by omega))
  have k := zlst_ok (D := D) (H := (zpw w D a i).2) hS
  have e : (zpw w D a (i + 1)).1 = zlst w D (zpw w D a i).2 := by rw [zpw]
  rw [← e] at k
  rcases k with ⟨q, -⟩ | ⟨-, ⟨s, t, hs, ht, hh, hg, hq⟩, -⟩
  · omega
  · obtain ⟨g1, g2, g3, g4, g5⟩ := (gC_iff _ _).1 hg
    obtain ⟨ss, sp⟩ := hP.1.1.2 s hs.1 hs.2 hh
    have s64 : s < 64 := by
      by_cases c : s < 64
      · exact c
      · exact absurd hb (wSt_hb ss (by omega))
    have t64 := g1.1 s64
    rw [wPl_lo s64] at sp
    rw [wPl_lo t64] at hq
    rw [← sp, ← hq]
    refine ⟨ss, g3, ?_⟩
    unfold wTk at g4
    rw [if_pos (show s < 64 ∧ t < 64 from ⟨s64, t64⟩)] at g4
    split at g4
    next c => exact c
    next => omega
end PURE
