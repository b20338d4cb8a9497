/-! the town's laws: one by one, told as a text -/
def Asc (l : List Int) : Prop := ∀ b ∈ l, 0 ≤ b ∧ b ≤ 127
theorem Asc_app {a b : List Int} (h : Asc a) (h' : Asc b) : Asc (a ++ b) := fun x hx => (List.mem_append.mp hx).elim (h x) (h' x)
theorem Asc_W {i : Int} (hi : 0 ≤ i ∧ i ≤ 10) : Asc (pcW i) := by
  intro b hb
  rcases List.mem_append.mp hb with q | q
  · have h := List.all_eq_true.mp zwd_let i.toNat (List.mem_range.mpr (by omega))
    rw [Int.toNat_of_nonneg hi.1] at h
    have := List.all_eq_true.mp h b q
    have := of_decide_eq_true this
    omega
  · simp only [List.mem_cons, List.not_mem_nil, or_false] at q
    omega
theorem Asc_N {v : Int} (hv : -999 ≤ v ∧ v ≤ 999) : Asc (pcN v) := by
  have hw0 : 0 ≤ zab v ∧ zab v ≤ 999 := by unfold zab; split <;> omega
  intro b hb
  unfold pcN nl at hb
  generalize zab v = w at *
  simp only [List.mem_append] at hb
  rcases hb with (q | q | q | q) | q
  · split at q
    · cases q
    · simp only [List.mem_cons, List.not_mem_nil, or_false] at q; omega
  · split at q
    · simp only [List.mem_cons, List.not_mem_nil, or_false] at q; omega
    · cases q
  · split at q
    · simp only [List.mem_cons, List.not_mem_nil, or_false] at q; omega
    · cases q
  · simp only [List.mem_cons, List.not_mem_nil, or_false] at q; omega
  · simp only [List.mem_cons, List.not_mem_nil, or_false] at q; omega
theorem Asc_tx {w h : Int} {K : Int → Int} (hw : w ≤ 4 ∧ h ≤ 4) (hK : LOk w h K) : Asc (tx K) := by
  obtain ⟨k0, k1, k2, kz, kw, kn⟩ := hK
  unfold tx
  refine Asc_app ?_ (Asc_app (Asc_W (by omega)) (Asc_app (Asc_W (by omega)) (Asc_app ?_ ?_)))
  · unfold tx1
    split
    · exact Asc_app (Asc_W (by omega)) (Asc_N (by omega))
    · intro b hb; cases hb
  · unfold la
    split
    · rename_i c
      have := kz c
      exact Asc_app (Asc_N (by omega)) (Asc_app (Asc_N (by omega)) (Asc_app (Asc_N (by omega)) (Asc_N (by omega))))
    · split
      · rename_i c
        have := kw c
        exact Asc_app (Asc_W (by omega)) (Asc_app (Asc_N (by omega)) (Asc_N (by omega)))
      · have := kn (by omega)
        exact Asc_N (by omega)
  · intro b hb
    simp only [List.mem_cons, List.not_mem_nil, or_false] at hb
    omega
theorem Asc_txs {w h : Int} {KK : Nat → Int → Int} (hw : w ≤ 4 ∧ h ≤ 4) (N : Nat) (hK : ∀ i, i < N → LOk w h (KK i)) : Asc (txs KK N) := by
  induction N with
  | zero => intro b hb; cases hb
  | succ N ih => exact Asc_app (ih (fun i hi => hK i (by omega))) (Asc_tx hw (hK N (by omega)))
theorem txs_le {w h : Int} {KK : Nat → Int → Int} (N : Nat) (hK : ∀ i, i < N → LOk w h (KK i)) : (txs KK N).length ≤ 44 * N := by
  induction N with
  | zero => exact Nat.le_refl _
  | succ N ih =>
    have := ih (fun i hi => hK i (by omega))
    have := (tx_le (hK N (by omega))).2
    rw [txs, List.length_append]
    omega
/-- a list as a row -/
def cl (l : List Int) : Int → Int := fun i => l.getD i.toNat 0
theorem cl_b {l : List Int} (h : Asc l) (i : Int) : 0 ≤ cl l i ∧ cl l i ≤ 127 := by
  unfold cl
  by_cases c : i.toNat < l.length
  · rw [List.getD_eq_getElem?_getD, List.getElem?_eq_getElem c]
    exact h _ (List.getElem_mem c)
  · rw [List.getD_eq_getElem?_getD, List.getElem?_eq_none (by omega)]
    simp
theorem cl_lo {l l' : List Int} {i : Int} (h0 : 0 ≤ i) (h : i < l.length) : cl (l ++ l') i = cl l i := by
  unfold cl
  rw [List.getD_eq_getElem?_getD, List.getD_eq_getElem?_getD, List.getElem?_append_left (by omega)]
theorem cl_hi {l l' : List Int} {i : Int} (h0 : 0 ≤ i) : cl (l ++ l') (l.length + i) = cl l' i := by
  unfold cl
  rw [List.getD_eq_getElem?_getD, List.getD_eq_getElem?_getD, List.getElem?_append_right (by omega)]
  congr 2
  omega
theorem cl_Sp {f : Int → Int} {l : List Int} (h : ∀ i, 0 ≤ i → i < l.length → f i = cl l i) : Sp f 0 l := by
  intro i hi
  rw [Int.zero_add, h i (by omega) (by omega)]
  unfold cl
  rw [Int.toNat_natCast]
theorem FD_cs {m : zM} {lp lw j : Int} {cs cs' : Int → Int} (hj : 0 ≤ j) (h : ∀ i, 0 ≤ i → i < j → cs' i = cs i) (hF : FD m lp lw cs j) : FD m lp lw cs' j := by
  obtain ⟨f0, f1, f2, f3, f4⟩ := hF
  refine ⟨f0, f1, ?_, f3, fun i i0 i1 => ?_⟩
  · rw [f2]
    exact (vb_cg _ (fun i hi => h _ (by omega) (by omega))).symm
  · rw [f4 i i0 i1, h i i0 (by omega)]
/-- the text's rows as more laws come -/
def KKa (KK : Nat → Int → Int) (n : Nat) (K : Int → Int) : Nat → Int → Int := fun i => if i = n then K else KK i
theorem KKa_lt {KK : Nat → Int → Int} {n i : Nat} {K : Int → Int} (h : i < n) : KKa KK n K i = KK i := by unfold KKa; rw [if_neg (by omega)]
theorem KKa_n {KK : Nat → Int → Int} {n : Nat} {K : Int → Int} : KKa KK n K n = K := by unfold KKa; rw [if_pos rfl]
theorem txs_c {KK KK' : Nat → Int → Int} (N : Nat) (h : ∀ i, i < N → KK' i = KK i) : txs KK' N = txs KK N := by
  induction N with
  | zero => rfl
  | succ N ih => rw [txs, txs, ih (fun i hi => h i (by omega)), h N (by omega)]
theorem txs_a (KK : Nat → Int → Int) (n : Nat) (K : Int → Int) : txs (KKa KK n K) (n + 1) = txs KK n ++ tx K := by
  rw [txs, txs_c n (fun i hi => KKa_lt hi), KKa_n]
/-- rows that the law keeps of its laws -/
def LRw (m : zM) (KK : Nat → Int → Int) (n : Nat) : Prop := ∀ j : Nat, j < n → ∀ q : Int, 0 ≤ q → q < 7 → m 100 (7 * (j : Int) + q) = KK j q
def KOk (w h : Int) (KK : Nat → Int → Int) (n : Nat) : Prop := (∀ i, i < n → LOk w h (KK i)) ∧ ∀ i, i < n → 2 ≤ KK i 0 → ∀ j, j < i → ¬ (KK j 0 = KK i 0 ∧ KK j 1 = KK i 1 ∧ KK j 2 = KK i 2)
section TOWN2
variable {R m : zM} {x w h many : Int} {KK : Nat → Int → Int} {K : Int → Int} {n : Nat}
/-- a new text, its rows -/
theorem l_tnA {k n' c : Int} {v14 v15 v16 v17 v18 : zV} (hR0 : 0 ≤ R 0 2 ∧ R 0 2 ≤ 260) (hw : 1 ≤ w ∧ w ≤ 4) (hh : 1 ≤ h ∧ h ≤ 4) (hc : R 0 0 = c) (h99 : 99 ≤ c ∧ c < 100000) (hk : 0 ≤ k ∧ k < many ∧ many ≤ 6) : ∃ (R' mA : zM) (K : Int → Int), ev 330 192 [(2, 1), (4, x), (0, 0), (2, 101), (2, 102), (2, 100), (0, -1), (0, w), (0, h), (0, many), (2, 103), (2, 104), (0, n'), (0, k), v14, v15, v16, v17, v18] [] R m = ev 330 234 [(2, 1), (4, x), (0, 0), (2, 101), (2, 102), (2, 100), (0, -1), (0, w), (0, h), (0, many), (2, 103), (2, 104), (0, n'), (0, k), (2, c + 1), (2, c + 2), (0, ((tx K).length : Int)), v17, v18] [] R' mA ∧ RE R R' ∧ R' 62 = R 62 ∧ R' 0 0 = c + 2 ∧ R' 0 1 = R 0 1 + 72 ∧ IR R' (c + 1) 64 ∧ IR R' (c + 2) 8 ∧ LOk w h K ∧ mA (c + 2) = K ∧ (∀ i : Int, 0 ≤ i → i < (tx K).length → mA (c + 1) i = cl (tx K) i) ∧ ∀ b, b ≤ c → mA b = m b := by
  obtain ⟨R1, hR1⟩ : ∃ R1, znX R 20 64 = R1 := ⟨_, rfl⟩
  obtain ⟨R2, hR2⟩ : ∃ R2, znX R1 20 8 = R2 := ⟨_, rfl⟩
  have n1 : R1 0 0 = c + 1 := by rw [← hR1, znX_0, hc]
  have n2 : R2 0 0 = c + 2 := by rw [← hR2, znX_0, n1]; omega
  have s2 : R2 0 1 = R 0 1 + 72 := by rw [← hR2, znX_1, ← hR1, znX_1]; omega
  have h991 : 99 ≤ R1 0 0 := by omega
  have h990 : 99 ≤ R 0 0 := by omega
  have E1 : RE R R1 := by rw [← hR1]; exact zX_E h990 20 64
  have E2 : RE R1 R2 := by rw [← hR2]; exact zX_E h991 20 8
  have I1 : IR R1 (c + 1) 64 := ⟨by rw [← hR1, ← hc]; exact zX_k h990 20 64, by rw [← hR1, ← hc]; exact zX_l h990 20 64⟩
  have I1' : IR R2 (c + 1) 64 := ⟨(E2.2.2.2 (c + 1) (by omega)).1.trans I1.1, (E2.2.2.2 (c + 1) (by omega)).2.trans I1.2⟩
  have ec : c + 1 + 1 = c + 2 := by omega
  have I2 : IR R2 (c + 2) 8 := ⟨by rw [← hR2, ← ec, ← n1]; exact zX_k h991 20 8, by rw [← hR2, ← ec, ← n1]; exact zX_l h991 20 8⟩
  have hz1 : znl R = c + 1 := by unfold znl; rw [hc]
  have hz2 : znl R1 = c + 2 := by unfold znl; rw [n1, ec]
  have kd1 : KD (c + 1) = 0 := KD_big (by omega)
  have kd2 : KD (c + 2) = 0 := KD_big (by omega)
  have r0 : 0 ≤ R 0 0 := by omega
  have r1 : 0 ≤ R1 0 0 := by omega
  obtain ⟨m1, hm1⟩ : ∃ m1, zrow m (c + 1) 0 = m1 := ⟨_, rfl⟩
  obtain ⟨m2, hm2⟩ : ∃ m2, zrow m1 (c + 2) 0 = m2 := ⟨_, rfl⟩
  have E : RE R R2 := RE_tr E1 E2
  have hne : c + 1 ≠ c + 2 := by omega
  obtain ⟨K, T, hK⟩ := l_lawText (R := R2) (m := m2) (t := c + 1) (k := c + 2) (x := x) (w := w) (h := h) (fr0 := 19 + 2 * k) (by rw [E.2.1 2 (by decide)]; exact hR0) hne I1'.1 I1'.2 I2.1 I2.2 (by omega) hw hh
  obtain ⟨mA, hmA⟩ : ∃ mA, zpr (zpr m2 (c + 1) (zap (m2 (c + 1)) 0 (tx K))) (c + 2) K = mA := ⟨_, rfl⟩
  rw [hmA] at T
  have c1 : ¬ many ≤ k := by omega
  have z2 : zw (2 * k) = 2 * k := zw_i (by omega) (by omega)
  have z3 : zw (19 + 2 * k) = 19 + 2 * k := zw_i (by omega) (by omega)
  refine ⟨R2, mA, K, ?_, E, by rw [← hR2, zX_r h991 (by omega) (by omega), ← hR1, zX_r h990 (by omega) (by omega)], n2, s2, I1', I2, hK, by rw [← hmA, zpr_at], fun i i0 i1 => ?_, fun b hb => ?_⟩
  · rw [s330_192]
    simp only [s330_0, s330_1, s330_2, s330_3, s330_6, s330_7, s330_10, s330_11, s330_13, s330_14, s330_15, s330_16, s330_17, s330_18, s330_21, s330_22, s330_25, s330_26, s330_28, s330_29, s330_31, s330_33, s330_36, s330_37, s330_40, s330_41, s330_42, s330_43, s330_47, s330_49, s330_51, s330_52, s330_55, s330_56, s330_57, s330_58, s330_59, s330_61, s330_62, s330_65, s330_67, s330_68, s330_70, s330_72, s330_73, s330_76, s330_79, s330_80, s330_83, s330_85, s330_86, s330_89, s330_92, s330_93, s330_96, s330_97, s330_98, s330_100, s330_102, s330_104, s330_105, s330_106, s330_107, s330_110, s330_111, s330_112, s330_114, s330_115, s330_118, s330_119, s330_121, s330_122, s330_124, s330_125, s330_128, s330_131, s330_133, s330_135, s330_136, s330_139, s330_140, s330_142, s330_144, s330_146, s330_147, s330_150, s330_153, s330_154, s330_155, s330_158, s330_161, s330_162, s330_163, s330_165, s330_166, s330_169, s330_171, s330_174, s330_176, s330_177, s330_179, s330_181, s330_182, s330_184, s330_186, s330_187, s330_189, s330_190, s330_194, s330_196, s330_199, s330_201, s330_203, s330_205, s330_207, s330_209, s330_211, s330_213, s330_214, s330_215, s330_217, s330_218, s330_219, s330_221, s330_222, s330_223, s330_225, s330_227, s330_229, s330_232, s330_235, s330_237, s330_238, s330_242, s330_244, s330_247, s330_249, s330_252, s330_254, s330_255, s330_256, s330_257, s330_260, s330_262, s330_264, s330_266, s330_267, s330_268, s330_270, s330_271, s330_272, s330_275, s330_277, s330_279, s330_281, s330_282, s330_283, s330_284, s330_285, s330_287, s330_288, s330_289, s330_292, s330_294, s330_296, s330_298, s330_299, s330_300, s330_301, s330_302, s330_304, s330_305, s330_306, s330_309, s330_310, s330_313, s330_314, s330_316, s330_319, s330_322, s330_324, s330_327, s330_330, s330_331, s330_335, s330_337, s330_340, s330_342, s330_344, s330_346, s330_347, s330_349, s330_350, s330_352, s330_354, s330_355, s330_356, s330_359, s330_362, s330_364, s330_366, s330_369, s330_370, s330_372, s330_374, s330_376, s330_378, s330_381, s330_384, s330_387, s330_390, s330_392, s330_395, s330_397, s330_399, s330_402, s330_404, s330_405, s330_406, s330_409, s330_411, s330_413, s330_414, s330_416, s330_418, s330_421, s330_423, s330_426, s330_428, s330_431, s330_432, zps_0, zps_1, zps_2, zps_3, zps_9, Option.bind_some, Option.bind_none, Int.reduceEq, Int.reduceNe, Int.reduceLT, Int.reduceLE, Int.reduceNeg, Int.reduceAdd, Int.reduceSub, Int.reduceMul, reduceIte, if_true, if_false, true_and, and_true, false_and, and_false, or_true, true_or, or_false, false_or, not_true_eq_false, not_false_eq_true, ite_not, z_b0, z_b1, z_b01, zl1, zl2, zl18, zl19, c1, hz1, kd1, r0, hR1, hm1, hz2, kd2, r1, hR2, hm2, z2, z3, T, and_self, if_true, if_false]
  · rw [← hmA, zpr_ne hne, zpr_at]
    have := zap_in (f := m2 (c + 1)) (n := 0) (l := tx K) i.toNat (by omega)
    rw [Int.toNat_of_nonneg i0, Int.zero_add] at this
    exact this
  · rw [← hmA, zpr_ne (by omega), zpr_ne (by omega), ← hm2, zrow_ne (by omega), ← hm1, zrow_ne (by omega)]
/-- told before? -/
theorem l_tnB {k lt lk len : Int} {v17 v18 : zV} (hL : IR R 100 64) (hK : IR R lk 8) (hmK : m lk = K) (hn : n ≤ 6) : ev 330 234 [(2, 1), (4, x), (0, 0), (2, 101), (2, 102), (2, 100), (0, -1), (0, w), (0, h), (0, many), (2, 103), (2, 104), (0, (n : Int)), (0, k), (2, lt), (2, lk), (0, len), v17, v18] [] R m = ev 330 322 [(2, 1), (4, x), (0, 0), (2, 101), (2, 102), (2, 100), (0, -1), (0, w), (0, h), (0, many), (2, 103), (2, 104), (0, (n : Int)), (0, k), (2, lt), (2, lk), (0, len), (0, if zany (fun i => decide (1 < K 0 ∧ m 100 (7 * i) = K 0 ∧ m 100 (7 * i + 1) = K 1 ∧ m 100 (7 * i + 2) = K 2)) n = true then 1 else 0), (0, (n : Int))] [] R m := by
  obtain ⟨F, hF⟩ : ∃ F : Int → Bool, (fun i => decide (1 < K 0 ∧ m 100 (7 * i) = K 0 ∧ m 100 (7 * i + 1) = K 1 ∧ m 100 (7 * i + 2) = K 2)) = F := ⟨_, rfl⟩
  have hFi : ∀ i, F i = decide (1 < K 0 ∧ m 100 (7 * i) = K 0 ∧ m 100 (7 * i + 1) = K 1 ∧ m 100 (7 * i + 2) = K 2) := fun i => by rw [← hF]
  rw [hF]
  have L0 : ev 330 234 [(2, 1), (4, x), (0, 0), (2, 101), (2, 102), (2, 100), (0, -1), (0, w), (0, h), (0, many), (2, 103), (2, 104), (0, (n : Int)), (0, k), (2, lt), (2, lk), (0, len), v17, v18] [] R m = ev 330 240 [(2, 1), (4, x), (0, 0), (2, 101), (2, 102), (2, 100), (0, -1), (0, w), (0, h), (0, many), (2, 103), (2, 104), (0, (n : Int)), (0, k), (2, lt), (2, lk), (0, len), (0, if zany F 0 = true then 1 else 0), (0, ((0 : Nat) : Int))] [] R m := by
    simp only [s330_234, s330_235, s330_237, s330_238]
    rfl
  have key : ∀ (d i : Nat), i + d = n → ev 330 240 [(2, 1), (4, x), (0, 0), (2, 101), (2, 102), (2, 100), (0, -1), (0, w), (0, h), (0, many), (2, 103), (2, 104), (0, (n : Int)), (0, k), (2, lt), (2, lk), (0, len), (0, if zany F i = true then 1 else 0), (0, (i : Int))] [] R m = ev 330 322 [(2, 1), (4, x), (0, 0), (2, 101), (2, 102), (2, 100), (0, -1), (0, w), (0, h), (0, many), (2, 103), (2, 104), (0, (n : Int)), (0, k), (2, lt), (2, lk), (0, len), (0, if zany F n = true then 1 else 0), (0, (n : Int))] [] R m := by
    intro d
    induction d with
    | zero =>
      intro i hi
      have e : i = n := by omega
      subst e
      rw [s330_240]
      simp only [s330_242, s330_244, Int.le_refl, if_true]
    | succ d ih =>
      intro i hi
      have ih := ih (i + 1) (by omega)
      rw [← ih]
      have c1 : ¬ (n : Int) ≤ (i : Int) := by omega
      have z1 : zw ((i : Int) + 1) = ((i + 1 : Nat) : Int) := by rw [zw_i (by omega) (by omega)]; rfl
      have z7 : zw (7 * (i : Int)) = 7 * (i : Int) := zw_i (by omega) (by omega)
      have z71 : zw (7 * (i : Int) + 1) = 7 * (i : Int) + 1 := zw_i (by omega) (by omega)
      have z72 : zw (7 * (i : Int) + 2) = 7 * (i : Int) + 2 := zw_i (by omega) (by omega)
      have b0 : 0 ≤ 7 * (i : Int) ∧ 7 * (i : Int) < 64 := by omega
      have b1 : 0 ≤ 7 * (i : Int) + 1 ∧ 7 * (i : Int) + 1 < 64 := by omega
      have b2 : 0 ≤ 7 * (i : Int) + 2 ∧ 7 * (i : Int) + 2 < 64 := by omega
      have es : zany F (i + 1) = (zany F i || F i) := rfl
      rw [es, hFi]
      obtain ⟨g1, g2⟩ := hL
      obtain ⟨g3, g4⟩ := hK
      rw [s330_240]
      by_cases f : zany F i = true
      · have d1 : ¬ (1 : Int) = 0 := by decide
        simp only [s330_0, s330_1, s330_2, s330_3, s330_6, s330_7, s330_10, s330_11, s330_13, s330_14, s330_15, s330_16, s330_17, s330_18, s330_21, s330_22, s330_25, s330_26, s330_28, s330_29, s330_31, s330_33, s330_36, s330_37, s330_40, s330_41, s330_42, s330_43, s330_47, s330_49, s330_51, s330_52, s330_55, s330_56, s330_57, s330_58, s330_59, s330_61, s330_62, s330_65, s330_67, s330_68, s330_70, s330_72, s330_73, s330_76, s330_79, s330_80, s330_83, s330_85, s330_86, s330_89, s330_92, s330_93, s330_96, s330_97, s330_98, s330_100, s330_102, s330_104, s330_105, s330_106, s330_107, s330_110, s330_111, s330_112, s330_114, s330_115, s330_118, s330_119, s330_121, s330_122, s330_124, s330_125, s330_128, s330_131, s330_133, s330_135, s330_136, s330_139, s330_140, s330_142, s330_144, s330_146, s330_147, s330_150, s330_153, s330_154, s330_155, s330_158, s330_161, s330_162, s330_163, s330_165, s330_166, s330_169, s330_171, s330_174, s330_176, s330_177, s330_179, s330_181, s330_182, s330_184, s330_186, s330_187, s330_189, s330_190, s330_194, s330_196, s330_199, s330_201, s330_203, s330_205, s330_207, s330_209, s330_211, s330_213, s330_214, s330_215, s330_217, s330_218, s330_219, s330_221, s330_222, s330_223, s330_225, s330_227, s330_229, s330_232, s330_234, s330_235, s330_237, s330_238, s330_242, s330_244, s330_247, s330_249, s330_252, s330_254, s330_255, s330_256, s330_257, s330_260, s330_262, s330_264, s330_266, s330_267, s330_268, s330_270, s330_271, s330_272, s330_275, s330_277, s330_279, s330_281, s330_282, s330_283, s330_284, s330_285, s330_287, s330_288, s330_289, s330_292, s330_294, s330_296, s330_298, s330_299, s330_300, s330_301, s330_302, s330_304, s330_305, s330_306, s330_309, s330_310, s330_313, s330_314, s330_316, s330_319, s330_322, s330_324, s330_327, s330_330, s330_331, s330_335, s330_337, s330_340, s330_342, s330_344, s330_346, s330_347, s330_349, s330_350, s330_352, s330_354, s330_355, s330_356, s330_359, s330_362, s330_364, s330_366, s330_369, s330_370, s330_372, s330_374, s330_376, s330_378, s330_381, s330_384, s330_387, s330_390, s330_392, s330_395, s330_397, s330_399, s330_402, s330_404, s330_405, s330_406, s330_409, s330_411, s330_413, s330_414, s330_416, s330_418, s330_421, s330_423, s330_426, s330_428, s330_431, s330_432, zps_0, zps_1, zps_2, zps_3, zps_9, Option.bind_some, Option.bind_none, Int.reduceEq, Int.reduceNe, Int.reduceLT, Int.reduceLE, Int.reduceNeg, Int.reduceAdd, Int.reduceSub, Int.reduceMul, reduceIte, if_true, if_false, true_and, and_true, false_and, and_false, or_true, true_or, or_false, false_or, not_true_eq_false, not_false_eq_true, ite_not, z_b0, z_b1, z_b01, c1, f, z1, Bool.true_or, if_true, if_false]
      · have f' : zany F i = false := by simpa using f
        by_cases q0 : K 0 ≤ 1
        · have q0' : ¬ 1 < K 0 := Int.not_lt.mpr q0
          simp only [s330_0, s330_1, s330_2, s330_3, s330_6, s330_7, s330_10, s330_11, s330_13, s330_14, s330_15, s330_16, s330_17, s330_18, s330_21, s330_22, s330_25, s330_26, s330_28, s330_29, s330_31, s330_33, s330_36, s330_37, s330_40, s330_41, s330_42, s330_43, s330_47, s330_49, s330_51, s330_52, s330_55, s330_56, s330_57, s330_58, s330_59, s330_61, s330_62, s330_65, s330_67, s330_68, s330_70, s330_72, s330_73, s330_76, s330_79, s330_80, s330_83, s330_85, s330_86, s330_89, s330_92, s330_93, s330_96, s330_97, s330_98, s330_100, s330_102, s330_104, s330_105, s330_106, s330_107, s330_110, s330_111, s330_112, s330_114, s330_115, s330_118, s330_119, s330_121, s330_122, s330_124, s330_125, s330_128, s330_131, s330_133, s330_135, s330_136, s330_139, s330_140, s330_142, s330_144, s330_146, s330_147, s330_150, s330_153, s330_154, s330_155, s330_158, s330_161, s330_162, s330_163, s330_165, s330_166, s330_169, s330_171, s330_174, s330_176, s330_177, s330_179, s330_181, s330_182, s330_184, s330_186, s330_187, s330_189, s330_190, s330_194, s330_196, s330_199, s330_201, s330_203, s330_205, s330_207, s330_209, s330_211, s330_213, s330_214, s330_215, s330_217, s330_218, s330_219, s330_221, s330_222, s330_223, s330_225, s330_227, s330_229, s330_232, s330_234, s330_235, s330_237, s330_238, s330_242, s330_244, s330_247, s330_249, s330_252, s330_254, s330_255, s330_256, s330_257, s330_260, s330_262, s330_264, s330_266, s330_267, s330_268, s330_270, s330_271, s330_272, s330_275, s330_277, s330_279, s330_281, s330_282, s330_283, s330_284, s330_285, s330_287, s330_288, s330_289, s330_292, s330_294, s330_296, s330_298, s330_299, s330_300, s330_301, s330_302, s330_304, s330_305, s330_306, s330_309, s330_310, s330_313, s330_314, s330_316, s330_319, s330_322, s330_324, s330_327, s330_330, s330_331, s330_335, s330_337, s330_340, s330_342, s330_344, s330_346, s330_347, s330_349, s330_350, s330_352, s330_354, s330_355, s330_356, s330_359, s330_362, s330_364, s330_366, s330_369, s330_370, s330_372, s330_374, s330_376, s330_378, s330_381, s330_384, s330_387, s330_390, s330_392, s330_395, s330_397, s330_399, s330_402, s330_404, s330_405, s330_406, s330_409, s330_411, s330_413, s330_414, s330_416, s330_418, s330_421, s330_423, s330_426, s330_428, s330_431, s330_432, zps_0, zps_1, zps_2, zps_3, zps_9, Option.bind_some, Option.bind_none, Int.reduceEq, Int.reduceNe, Int.reduceLT, Int.reduceLE, Int.reduceNeg, Int.reduceAdd, Int.reduceSub, Int.reduceMul, reduceIte, if_true, if_false, true_and, and_true, false_and, and_false, or_true, true_or, or_false, false_or, not_true_eq_false, not_false_eq_true, ite_not, z_b0, z_b1, z_b01, c1, f', g3, g4, hmK, q0, q0', z1, Bool.false_or, decide_false, Bool.false_eq_true, and_self, if_true, if_false]
        · have q0' : 1 < K 0 := Int.not_le.mp q0
          by_cases q1 : m 100 (7 * (i : Int)) = K 0
          · by_cases q2 : m 100 (7 * (i : Int) + 1) = K 1
            · by_cases q3 : m 100 (7 * (i : Int) + 2) = K 2
              · simp only [s330_0, s330_1, s330_2, s330_3, s330_6, s330_7, s330_10, s330_11, s330_13, s330_14, s330_15, s330_16, s330_17, s330_18, s330_21, s330_22, s330_25, s330_26, s330_28, s330_29, s330_31, s330_33, s330_36, s330_37, s330_40, s330_41, s330_42, s330_43, s330_47, s330_49, s330_51, s330_52, s330_55, s330_56, s330_57, s330_58, s330_59, s330_61, s330_62, s330_65, s330_67, s330_68, s330_70, s330_72, s330_73, s330_76, s330_79, s330_80, s330_83, s330_85, s330_86, s330_89, s330_92, s330_93, s330_96, s330_97, s330_98, s330_100, s330_102, s330_104, s330_105, s330_106, s330_107, s330_110, s330_111, s330_112, s330_114, s330_115, s330_118, s330_119, s330_121, s330_122, s330_124, s330_125, s330_128, s330_131, s330_133, s330_135, s330_136, s330_139, s330_140, s330_142, s330_144, s330_146, s330_147, s330_150, s330_153, s330_154, s330_155, s330_158, s330_161, s330_162, s330_163, s330_165, s330_166, s330_169, s330_171, s330_174, s330_176, s330_177, s330_179, s330_181, s330_182, s330_184, s330_186, s330_187, s330_189, s330_190, s330_194, s330_196, s330_199, s330_201, s330_203, s330_205, s330_207, s330_209, s330_211, s330_213, s330_214, s330_215, s330_217, s330_218, s330_219, s330_221, s330_222, s330_223, s330_225, s330_227, s330_229, s330_232, s330_234, s330_235, s330_237, s330_238, s330_242, s330_244, s330_247, s330_249, s330_252, s330_254, s330_255, s330_256, s330_257, s330_260, s330_262, s330_264, s330_266, s330_267, s330_268, s330_270, s330_271, s330_272, s330_275, s330_277, s330_279, s330_281, s330_282, s330_283, s330_284, s330_285, s330_287, s330_288, s330_289, s330_292, s330_294, s330_296, s330_298, s330_299, s330_300, s330_301, s330_302, s330_304, s330_305, s330_306, s330_309, s330_310, s330_313, s330_314, s330_316, s330_319, s330_322, s330_324, s330_327, s330_330, s330_331, s330_335, s330_337, s330_340, s330_342, s330_344, s330_346, s330_347, s330_349, s330_350, s330_352, s330_354, s330_355, s330_356, s330_359, s330_362, s330_364, s330_366, s330_369, s330_370, s330_372, s330_374, s330_376, s330_378, s330_381, s330_384, s330_387, s330_390, s330_392, s330_395, s330_397, s330_399, s330_402, s330_404, s330_405, s330_406, s330_409, s330_411, s330_413, s330_414, s330_416, s330_418, s330_421, s330_423, s330_426, s330_428, s330_431, s330_432, zps_0, zps_1, zps_2, zps_3, zps_9, Option.bind_some, Option.bind_none, Int.reduceEq, Int.reduceNe, Int.reduceLT, Int.reduceLE, Int.reduceNeg, Int.reduceAdd, Int.reduceSub, Int.reduceMul, reduceIte, if_true, if_false, true_and, and_true, false_and, and_false, or_true, true_or, or_false, false_or, not_true_eq_false, not_false_eq_true, ite_not, z_b0, z_b1, z_b01, c1, f', g1, g2, g3, g4, hmK, q0, q0', q1, q2, q3, z1, z7, z71, z72, b0, b1, b2, Bool.false_or, decide_true, Bool.false_eq_true, and_self, if_true, if_false]
              · simp only [s330_0, s330_1, s330_2, s330_3, s330_6, s330_7, s330_10, s330_11, s330_13, s330_14, s330_15, s330_16, s330_17, s330_18, s330_21, s330_22, s330_25, s330_26, s330_28, s330_29, s330_31, s330_33, s330_36, s330_37, s330_40, s330_41, s330_42, s330_43, s330_47, s330_49, s330_51, s330_52, s330_55, s330_56, s330_57, s330_58, s330_59, s330_61, s330_62, s330_65, s330_67, s330_68, s330_70, s330_72, s330_73, s330_76, s330_79, s330_80, s330_83, s330_85, s330_86, s330_89, s330_92, s330_93, s330_96, s330_97, s330_98, s330_100, s330_102, s330_104, s330_105, s330_106, s330_107, s330_110, s330_111, s330_112, s330_114, s330_115, s330_118, s330_119, s330_121, s330_122, s330_124, s330_125, s330_128, s330_131, s330_133, s330_135, s330_136, s330_139, s330_140, s330_142, s330_144, s330_146, s330_147, s330_150, s330_153, s330_154, s330_155, s330_158, s330_161, s330_162, s330_163, s330_165, s330_166, s330_169, s330_171, s330_174, s330_176, s330_177, s330_179, s330_181, s330_182, s330_184, s330_186, s330_187, s330_189, s330_190, s330_194, s330_196, s330_199, s330_201, s330_203, s330_205, s330_207, s330_209, s330_211, s330_213, s330_214, s330_215, s330_217, s330_218, s330_219, s330_221, s330_222, s330_223, s330_225, s330_227, s330_229, s330_232, s330_234, s330_235, s330_237, s330_238, s330_242, s330_244, s330_247, s330_249, s330_252, s330_254, s330_255, s330_256, s330_257, s330_260, s330_262, s330_264, s330_266, s330_267, s330_268, s330_270, s330_271, s330_272, s330_275, s330_277, s330_279, s330_281, s330_282, s330_283, s330_284, s330_285, s330_287, s330_288, s330_289, s330_292, s330_294, s330_296, s330_298, s330_299, s330_300, s330_301, s330_302, s330_304, s330_305, s330_306, s330_309, s330_310, s330_313, s330_314, s330_316, s330_319, s330_322, s330_324, s330_327, s330_330, s330_331, s330_335, s330_337, s330_340, s330_342, s330_344, s330_346, s330_347, s330_349, s330_350, s330_352, s330_354, s330_355, s330_356, s330_359, s330_362, s330_364, s330_366, s330_369, s330_370, s330_372, s330_374, s330_376, s330_378, s330_381, s330_384, s330_387, s330_390, s330_392, s330_395, s330_397, s330_399, s330_402, s330_404, s330_405, s330_406, s330_409, s330_411, s330_413, s330_414, s330_416, s330_418, s330_421, s330_423, s330_426, s330_428, s330_431, s330_432, zps_0, zps_1, zps_2, zps_3, zps_9, Option.bind_some, Option.bind_none, Int.reduceEq, Int.reduceNe, Int.reduceLT, Int.reduceLE, Int.reduceNeg, Int.reduceAdd, Int.reduceSub, Int.reduceMul, reduceIte, if_true, if_false, true_and, and_true, false_and, and_false, or_true, true_or, or_false, false_or, not_true_eq_false, not_false_eq_true, ite_not, z_b0, z_b1, z_b01, c1, f', g1, g2, g3, g4, hmK, q0, q0', q1, q2, q3, z1, z7, z71, z72, b0, b1, b2, Bool.false_or, decide_false, Bool.false_eq_true, and_self, if_true, if_false]
            · simp only [s330_0, s330_1, s330_2, s330_3, s330_6, s330_7, s330_10, s330_11, s330_13, s330_14, s330_15, s330_16, s330_17, s330_18, s330_21, s330_22, s330_25, s330_26, s330_28, s330_29, s330_31, s330_33, s330_36, s330_37, s330_40, s330_41, s330_42, s330_43, s330_47, s330_49, s330_51, s330_52, s330_55, s330_56, s330_57, s330_58, s330_59, s330_61, s330_62, s330_65, s330_67, s330_68, s330_70, s330_72, s330_73, s330_76, s330_79, s330_80, s330_83, s330_85, s330_86, s330_89, s330_92, s330_93, s330_96, s330_97, s330_98, s330_100, s330_102, s330_104, s330_105, s330_106, s330_107, s330_110, s330_111, s330_112, s330_114, s330_115, s330_118, s330_119, s330_121, s330_122, s330_124, s330_125, s330_128, s330_131, s330_133, s330_135, s330_136, s330_139, s330_140, s330_142, s330_144, s330_146, s330_147, s330_150, s330_153, s330_154, s330_155, s330_158, s330_161, s330_162, s330_163, s330_165, s330_166, s330_169, s330_171, s330_174, s330_176, s330_177, s330_179, s330_181, s330_182, s330_184, s330_186, s330_187, s330_189, s330_190, s330_194, s330_196, s330_199, s330_201, s330_203, s330_205, s330_207, s330_209, s330_211, s330_213, s330_214, s330_215, s330_217, s330_218, s330_219, s330_221, s330_222, s330_223, s330_225, s330_227, s330_229, s330_232, s330_234, s330_235, s330_237, s330_238, s330_242, s330_244, s330_247, s330_249, s330_252, s330_254, s330_255, s330_256, s330_257, s330_260, s330_262, s330_264, s330_266, s330_267, s330_268, s330_270, s330_271, s330_272, s330_275, s330_277, s330_279, s330_281, s330_282, s330_283, s330_284, s330_285, s330_287, s330_288, s330_289, s330_292, s330_294, s330_296, s330_298, s330_299, s330_300, s330_301, s330_302, s330_304, s330_305, s330_306, s330_309, s330_310, s330_313, s330_314, s330_316, s330_319, s330_322, s330_324, s330_327, s330_330, s330_331, s330_335, s330_337, s330_340, s330_342, s330_344, s330_346, s330_347, s330_349, s330_350, s330_352, s330_354, s330_355, s330_356, s330_359, s330_362, s330_364, s330_366, s330_369, s330_370, s330_372, s330_374, s330_376, s330_378, s330_381, s330_384, s330_387, s330_390, s330_392, s330_395, s330_397, s330_399, s330_402, s330_404, s330_405, s330_406, s330_409, s330_411, s330_413, s330_414, s330_416, s330_418, s330_421, s330_423, s330_426, s330_428, s330_431, s330_432, zps_0, zps_1, zps_2, zps_3, zps_9, Option.bind_some, Option.bind_none, Int.reduceEq, Int.reduceNe, Int.reduceLT, Int.reduceLE, Int.reduceNeg, Int.reduceAdd, Int.reduceSub, Int.reduceMul, reduceIte, if_true, if_false, true_and, and_true, false_and, and_false, or_true, true_or, or_false, false_or, not_true_eq_false, not_false_eq_true, ite_not, z_b0, z_b1, z_b01, c1, f', g1, g2, g3, g4, hmK, q0, q0', q1, q2, z1, z7, z71, z72, b0, b1, b2, Bool.false_or, decide_false, Bool.false_eq_true, and_self, if_true, if_false]
          · simp only [s330_0, s330_1, s330_2, s330_3, s330_6, s330_7, s330_10, s330_11, s330_13, s330_14, s330_15, s330_16, s330_17, s330_18, s330_21, s330_22, s330_25, s330_26, s330_28, s330_29, s330_31, s330_33, s330_36, s330_37, s330_40, s330_41, s330_42, s330_43, s330_47, s330_49, s330_51, s330_52, s330_55, s330_56, s330_57, s330_58, s330_59, s330_61, s330_62, s330_65, s330_67, s330_68, s330_70, s330_72, s330_73, s330_76, s330_79, s330_80, s330_83, s330_85, s330_86, s330_89, s330_92, s330_93, s330_96, s330_97, s330_98, s330_100, s330_102, s330_104, s330_105, s330_106, s330_107, s330_110, s330_111, s330_112, s330_114, s330_115, s330_118, s330_119, s330_121, s330_122, s330_124, s330_125, s330_128, s330_131, s330_133, s330_135, s330_136, s330_139, s330_140, s330_142, s330_144, s330_146, s330_147, s330_150, s330_153, s330_154, s330_155, s330_158, s330_161, s330_162, s330_163, s330_165, s330_166, s330_169, s330_171, s330_174, s330_176, s330_177, s330_179, s330_181, s330_182, s330_184, s330_186, s330_187, s330_189, s330_190, s330_194, s330_196, s330_199, s330_201, s330_203, s330_205, s330_207, s330_209, s330_211, s330_213, s330_214, s330_215, s330_217, s330_218, s330_219, s330_221, s330_222, s330_223, s330_225, s330_227, s330_229, s330_232, s330_234, s330_235, s330_237, s330_238, s330_242, s330_244, s330_247, s330_249, s330_252, s330_254, s330_255, s330_256, s330_257, s330_260, s330_262, s330_264, s330_266, s330_267, s330_268, s330_270, s330_271, s330_272, s330_275, s330_277, s330_279, s330_281, s330_282, s330_283, s330_284, s330_285, s330_287, s330_288, s330_289, s330_292, s330_294, s330_296, s330_298, s330_299, s330_300, s330_301, s330_302, s330_304, s330_305, s330_306, s330_309, s330_310, s330_313, s330_314, s330_316, s330_319, s330_322, s330_324, s330_327, s330_330, s330_331, s330_335, s330_337, s330_340, s330_342, s330_344, s330_346, s330_347, s330_349, s330_350, s330_352, s330_354, s330_355, s330_356, s330_359, s330_362, s330_364, s330_366, s330_369, s330_370, s330_372, s330_374, s330_376, s330_378, s330_381, s330_384, s330_387, s330_390, s330_392, s330_395, s330_397, s330_399, s330_402, s330_404, s330_405, s330_406, s330_409, s330_411, s330_413, s330_414, s330_416, s330_418, s330_421, s330_423, s330_426, s330_428, s330_431, s330_432, zps_0, zps_1, zps_2, zps_3, zps_9, Option.bind_some, Option.bind_none, Int.reduceEq, Int.reduceNe, Int.reduceLT, Int.reduceLE, Int.reduceNeg, Int.reduceAdd, Int.reduceSub, Int.reduceMul, reduceIte, if_true, if_false, true_and, and_true, false_and, and_false, or_true, true_or, or_false, false_or, not_true_eq_false, not_false_eq_true, ite_not, z_b0, z_b1, z_b01, c1, f', g1, g2, g3, g4, hmK, q0, q0', q1, z1, z7, z71, z72, b0, b1, b2, Bool.false_or, decide_false, Bool.false_eq_true, and_self, if_true, if_false]
  exact L0.trans (key n 0 (by omega))
/-- the law's numbers kept -/
theorem l_tnC {k lt lk len tw v18 : Int} (hL : IR R 100 64) (hK : IR R lk 8) (hmK : m lk = K) (hd : lk ≠ 100) (hn : n ≤ 5) (htw : tw = 0) : ∃ G : Int → Int, ev 330 322 [(2, 1), (4, x), (0, 0), (2, 101), (2, 102), (2, 100), (0, -1), (0, w), (0, h), (0, many), (2, 103), (2, 104), (0, (n : Int)), (0, k), (2, lt), (2, lk), (0, len), (0, tw), (0, v18)] [] R m = ev 330 362 [(2, 1), (4, x), (0, 0), (2, 101), (2, 102), (2, 100), (0, -1), (0, w), (0, h), (0, many), (2, 103), (2, 104), (0, (n : Int)), (0, k), (2, lt), (2, lk), (0, len), (0, tw), (0, 7)] [] R (zpr m 100 G) ∧ (∀ q : Int, 0 ≤ q → q < 7 → G (7 * (n : Int) + q) = K q) ∧ ∀ i, i < 7 * (n : Int) → G i = m 100 i := by
  subst htw
  have L0 : ev 330 322 [(2, 1), (4, x), (0, 0), (2, 101), (2, 102), (2, 100), (0, -1), (0, w), (0, h), (0, many), (2, 103), (2, 104), (0, (n : Int)), (0, k), (2, lt), (2, lk), (0, len), (0, 0), (0, v18)] [] R m = ev 330 333 [(2, 1), (4, x), (0, 0), (2, 101), (2, 102), (2, 100), (0, -1), (0, w), (0, h), (0, many), (2, 103), (2, 104), (0, (n : Int)), (0, k), (2, lt), (2, lk), (0, len), (0, 0), (0, 0)] [] R (zpr m 100 (m 100)) := by
    rw [zpr_self]
    simp only [s330_322, s330_324, s330_330, s330_331, if_true]
  rw [L0]
  refine zloop (fun r => ∃ G : Int → Int, r = ev 330 362 [(2, 1), (4, x), (0, 0), (2, 101), (2, 102), (2, 100), (0, -1), (0, w), (0, h), (0, many), (2, 103), (2, 104), (0, (n : Int)), (0, k), (2, lt), (2, lk), (0, len), (0, 0), (0, 7)] [] R (zpr m 100 G) ∧ (∀ q : Int, 0 ≤ q → q < 7 → G (7 * (n : Int) + q) = K q) ∧ ∀ i, i < 7 * (n : Int) → G i = m 100 i) (fun q (G : Int → Int) => ev 330 333 [(2, 1), (4, x), (0, 0), (2, 101), (2, 102), (2, 100), (0, -1), (0, w), (0, h), (0, many), (2, 103), (2, 104), (0, (n : Int)), (0, k), (2, lt), (2, lk), (0, len), (0, 0), (0, q)] [] R (zpr m 100 G)) 7 (fun q G => 0 ≤ q ∧ (∀ q' : Int, 0 ≤ q' → q' < q → G (7 * (n : Int) + q') = K q') ∧ ∀ i, i < 7 * (n : Int) → G i = m 100 i) ?_ ?_ 0 (m 100) (by omega) ⟨Int.le_refl _, fun q' a b => by omega, fun _ _ => rfl⟩
  · rintro q G hq ⟨q0, h1, h2⟩ ih
    have c1 : ¬ 7 ≤ q := by omega
    have z7 : zw (7 * (n : Int)) = 7 * (n : Int) := zw_i (by omega) (by omega)
    have zq : zw (7 * (n : Int) + q) = 7 * (n : Int) + q := zw_i (by omega) (by omega)
    have z1 : zw (q + 1) = q + 1 := zw_i (by omega) (by omega)
    have b0 : 0 ≤ 7 * (n : Int) + q ∧ 7 * (n : Int) + q < 64 := by omega
    have b8 : 0 ≤ q ∧ q < 8 := by omega
    have e1 : zpr m 100 G lk = K := by rw [zpr_ne hd, hmK]
    have I := ih (zrw G (7 * (n : Int) + q) (K q)) ⟨by omega, fun q' a b => by
      rw [zrw_if]
      by_cases e : q' = q
      · rw [if_pos (by omega), e]
      · rw [if_neg (by omega)]; exact h1 q' a (by omega), fun i hi => by rw [zrw_ne (by omega)]; exact h2 i hi⟩
    obtain ⟨g1, g2⟩ := hL
    obtain ⟨g3, g4⟩ := hK
    have S : ev 330 333 [(2, 1), (4, x), (0, 0), (2, 101), (2, 102), (2, 100), (0, -1), (0, w), (0, h), (0, many), (2, 103), (2, 104), (0, (n : Int)), (0, k), (2, lt), (2, lk), (0, len), (0, 0), (0, q)] [] R (zpr m 100 G) = ev 330 333 [(2, 1), (4, x), (0, 0), (2, 101), (2, 102), (2, 100), (0, -1), (0, w), (0, h), (0, many), (2, 103), (2, 104), (0, (n : Int)), (0, k), (2, lt), (2, lk), (0, len), (0, 0), (0, q + 1)] [] R (zpr m 100 (zrw G (7 * (n : Int) + q) (K q))) := by
      rw [s330_333]
      simp only [s330_0, s330_1, s330_2, s330_3, s330_6, s330_7, s330_10, s330_11, s330_13, s330_14, s330_15, s330_16, s330_17, s330_18, s330_21, s330_22, s330_25, s330_26, s330_28, s330_29, s330_31, s330_33, s330_36, s330_37, s330_40, s330_41, s330_42, s330_43, s330_47, s330_49, s330_51, s330_52, s330_55, s330_56, s330_57, s330_58, s330_59, s330_61, s330_62, s330_65, s330_67, s330_68, s330_70, s330_72, s330_73, s330_76, s330_79, s330_80, s330_83, s330_85, s330_86, s330_89, s330_92, s330_93, s330_96, s330_97, s330_98, s330_100, s330_102, s330_104, s330_105, s330_106, s330_107, s330_110, s330_111, s330_112, s330_114, s330_115, s330_118, s330_119, s330_121, s330_122, s330_124, s330_125, s330_128, s330_131, s330_133, s330_135, s330_136, s330_139, s330_140, s330_142, s330_144, s330_146, s330_147, s330_150, s330_153, s330_154, s330_155, s330_158, s330_161, s330_162, s330_163, s330_165, s330_166, s330_169, s330_171, s330_174, s330_176, s330_177, s330_179, s330_181, s330_182, s330_184, s330_186, s330_187, s330_189, s330_190, s330_194, s330_196, s330_199, s330_201, s330_203, s330_205, s330_207, s330_209, s330_211, s330_213, s330_214, s330_215, s330_217, s330_218, s330_219, s330_221, s330_222, s330_223, s330_225, s330_227, s330_229, s330_232, s330_234, s330_235, s330_237, s330_238, s330_242, s330_244, s330_247, s330_249, s330_252, s330_254, s330_255, s330_256, s330_257, s330_260, s330_262, s330_264, s330_266, s330_267, s330_268, s330_270, s330_271, s330_272, s330_275, s330_277, s330_279, s330_281, s330_282, s330_283, s330_284, s330_285, s330_287, s330_288, s330_289, s330_292, s330_294, s330_296, s330_298, s330_299, s330_300, s330_301, s330_302, s330_304, s330_305, s330_306, s330_309, s330_310, s330_313, s330_314, s330_316, s330_319, s330_322, s330_324, s330_327, s330_330, s330_331, s330_335, s330_337, s330_340, s330_342, s330_344, s330_346, s330_347, s330_349, s330_350, s330_352, s330_354, s330_355, s330_356, s330_359, s330_362, s330_364, s330_366, s330_369, s330_370, s330_372, s330_374, s330_376, s330_378, s330_381, s330_384, s330_387, s330_390, s330_392, s330_395, s330_397, s330_399, s330_402, s330_404, s330_405, s330_406, s330_409, s330_411, s330_413, s330_414, s330_416, s330_418, s330_421, s330_423, s330_426, s330_428, s330_431, s330_432, zps_0, zps_1, zps_2, zps_3, zps_9, Option.bind_some, Option.bind_none, Int.reduceEq, Int.reduceNe, Int.reduceLT, Int.reduceLE, Int.reduceNeg, Int.reduceAdd, Int.reduceSub, Int.reduceMul, reduceIte, if_true, if_false, true_and, and_true, false_and, and_false, or_true, true_or, or_false, false_or, not_true_eq_false, not_false_eq_true, ite_not, z_b0, z_b1, z_b01, c1, g1, g2, g3, g4, z7, zq, z1, b0, b8, e1, zup_zpr, zpr_at, zpr_zpr, and_self, if_true, if_false]
    rw [S]
    exact I
  · rintro G ⟨-, h1, h2⟩
    refine ⟨G, ?_, h1, h2⟩
    rw [s330_333]
    simp only [s330_335, s330_337, Int.le_refl, if_true]
end TOWN2
