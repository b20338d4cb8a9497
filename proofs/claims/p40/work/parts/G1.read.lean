/-! calls that only read -/
theorem kd2 : KD 2 = 9 := by decide +kernel
theorem kd3 : KD 3 = 2 := by decide +kernel
theorem kd9 : KD 9 = 4 := by decide +kernel
theorem kd11 : KD 11 = 7 := by decide +kernel
theorem r2_0 {R : zM} (h : TK R 2) : R 2 0 = 3 := h.2.1
theorem r2_1 {R : zM} (h : TK R 2) : R 2 1 = 9 := h.2.2.1
theorem r2_2 {R : zM} (h : TK R 2) : R 2 2 = 11 := h.2.2.2.1
section READ
variable {R m : zM}
theorem TK_B3 (h : TK R 2) : BK R 3 := TK_B h
end READ
