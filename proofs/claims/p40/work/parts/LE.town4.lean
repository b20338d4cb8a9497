/-! all the laws of the town -/
section TOWN3M
variable {R m : zM} {x w h many : Int}
/-- all the laws -/
theorem l_tnM {R0 m0 : zM} (hRK : RK R0) (h0 : R0 0 0 = 104) (hR0 : 0 ≤ R0 0 2 ∧ R0 0 2 ≤ 260) (hF0 : FL R0 103 104) (hI0 : IR R0 100 64) (hw : 1 ≤ w ∧ w ≤ 4) (hh : 1 ≤ h ∧ h ≤ 4) (hm : 0 ≤ many ∧ many ≤ 6) (hF : FD m0 103 104 (cl []) 0) {v14 v15 v16 v17 v18 : zV} : ∃ (R' m' : zM) (KK' : Nat → Int → Int) (n' : Nat) (u14 u15 u16 u17 u18 : zV), ev 330 192 [(2, 1), (4, x), (0, 0), (2, 101), (2, 102), (2, 100), (0, -1), (0, w), (0, h), (0, many), (2, 103), (2, 104), (0, 0), (0, 0), v14, v15, v16, v17, v18] [] R0 m0 = ev 330 192 [(2, 1), (4, x), (0, 0), (2, 101), (2, 102), (2, 100), (0, -1), (0, w), (0, h), (0, many), (2, 103), (2, 104), (0, (n' : Int)), (0, many), u14, u15, u16, u17, u18] [] R' m' ∧ TS R0 m0 R' m' w h KK' n' many := by
  have T0 : TS R0 m0 R0 m0 w h (fun _ _ => 0) 0 0 := ⟨RE_rf _, rfl, by rw [h0]; rfl, (Int.add_zero _).symm, hF, fun j hj => by omega, ⟨fun i hi => by omega, fun i hi => by omega⟩, by decide, fun _ _ _ _ _ => rfl⟩
  refine zloop (fun r => ∃ (R' m' : zM) (KK' : Nat → Int → Int) (n' : Nat) (u14 u15 u16 u17 u18 : zV), r = ev 330 192 [(2, 1), (4, x), (0, 0), (2, 101), (2, 102), (2, 100), (0, -1), (0, w), (0, h), (0, many), (2, 103), (2, 104), (0, (n' : Int)), (0, many), u14, u15, u16, u17, u18] [] R' m' ∧ TS R0 m0 R' m' w h KK' n' many) (fun k (s : zM × zM × (Nat → Int → Int) × Nat × (zV × zV × zV × zV × zV)) => ev 330 192 [(2, 1), (4, x), (0, 0), (2, 101), (2, 102), (2, 100), (0, -1), (0, w), (0, h), (0, many), (2, 103), (2, 104), (0, (s.2.2.2.1 : Int)), (0, k), s.2.2.2.2.1, s.2.2.2.2.2.1, s.2.2.2.2.2.2.1, s.2.2.2.2.2.2.2.1, s.2.2.2.2.2.2.2.2] [] s.1 s.2.1) many (fun k s => 0 ≤ k ∧ TS R0 m0 s.1 s.2.1 w h s.2.2.1 s.2.2.2.1 k) ?_ ?_ 0 (R0, m0, (fun _ _ => 0), 0, (v14, v15, v16, v17, v18)) hm.1 ⟨Int.le_refl _, T0⟩
  · rintro k ⟨R, m, KK, n, v14, v15, v16, v17, v18⟩ hk ⟨k0, hT⟩ ih
    obtain ⟨R', m', KK', n', u14, u15, u16, u17, u18, e, hT'⟩ := l_tnL (R := R) (m := m) (x := x) (w := w) (h := h) (many := many) (v14 := v14) (v15 := v15) (v16 := v16) (v17 := v17) (v18 := v18) hRK h0 hR0 hF0 hI0 hw hh ⟨k0, hk, hm.2⟩ hT
    dsimp only
    rw [e]
    exact ih (R', m', KK', n', u14, u15, u16, u17, u18) ⟨by omega, hT'⟩
  · rintro ⟨R, m, KK, n, v14, v15, v16, v17, v18⟩ ⟨-, hT⟩
    exact ⟨R, m, KK, n, v14, v15, v16, v17, v18, rfl, hT⟩
end TOWN3M
