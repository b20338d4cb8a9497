/-! text constants and the floor of a quotient (their calls) -/
theorem z_LNs : zlt.all (fun x => decide (0 ≤ x) && decide (x < 2147483648)) = true := by decide +kernel
theorem z_LN (a : Int) : 0 ≤ LN a ∧ LN a < 2147483648 := by
  unfold LN
  split
  · have key : ∀ k, 0 ≤ zlt.getD k 0 ∧ zlt.getD k 0 < 2147483648 := by
      intro k
      by_cases h : k < zlt.length
      · have := List.all_eq_true.mp z_LNs _ (List.getElem_mem h)
        rw [List.getD_eq_getElem?_getD, List.getElem?_eq_getElem h]
        simpa using this
      · rw [List.getD_eq_getElem?_getD, List.getElem?_eq_none (by omega)]
        simp
    exact key _
  · omega
/-! the JDK's text and number functions, by contract: they change no cell -/
def zQh (v : Option Value) : Array Value → State → Outcome → State → Prop := fun _ st oc t => oc = .returned v ∧ t.heap = st.heap
def zPt (B : Nat) (adK : Nat → Nat) (av : List Value) : Array Value → State → Prop := va_Pc av (fun U => zTX B adK U)
def zPa (B : Nat) (adK : Nat → Nat) (t N : Nat) (f : Nat → Value) (av : List Value) : Array Value → State → Prop := va_Pc av (fun U => zTX B adK U ∧ va_T .byte t N f (fun q => B ≤ q) U U.heap)
def zPn0 (av : List Value) : Array Value → State → Prop := va_Pc av (fun _ => True)
theorem zTX_same {B : Nat} {adK : Nat → Nat} {u U : State} (hv : U.vm = u.vm) (hh : U.heap = u.heap) (h : zTX B adK u) : zTX B adK U := by
  have ha : u.vm.Alike U.vm := by rw [hv]; exact Vm.Alike.refl _
  obtain ⟨⟨adV, h4⟩, h5, h6, h7⟩ := h
  exact ⟨⟨adV, by rw [hh]; exact vk_S.moved ha h4⟩, fun e he ht => vk_R.same hv (h5 e he ht), by rw [hh]; exact va_Z.moved ha h6, by rw [hh]; exact va_Zq.moved ha h7⟩
theorem zTX_warm {B : Nat} {adK : Nat → Nat} {s U : State} (hW : s.WarmedH U.vm) (hh : U.heap = s.heap) (h : zTX B adK s) : zTX B adK U := by
  have ha := hW.alike
  obtain ⟨⟨adV, h4⟩, h5, h6, h7⟩ := h
  exact ⟨⟨adV, by rw [hh]; exact vk_S.moved ha h4⟩, fun e he ht => vk_R.warm hW (h5 e he ht), by rw [hh]; exact va_Z.moved ha h6, by rw [hh]; exact va_Zq.moved ha h7⟩
theorem zPt_blind (B : Nat) (adK : Nat → Nat) (av : List Value) : FrameBlind (zPt B adK av) := by
  intro a U g mk h
  exact ⟨h.1, zTX_same (u := U) rfl rfl h.2⟩
theorem zPa_blind (B : Nat) (adK : Nat → Nat) (t N : Nat) (f : Nat → Value) (av : List Value) : FrameBlind (zPa B adK t N f av) := by
  intro a U g mk h
  exact ⟨h.1, zTX_same (u := U) rfl rfl h.2.1, va_T.moved (Vm.Alike.refl _) h.2.2⟩
theorem zPn0_blind (av : List Value) : FrameBlind (zPn0 av) := fun _ _ _ _ h => h
theorem z_GIw {w : Cond} (h : w ∈ zTB) : GoodIn zTB (w :: zTB) := by
  intro x hx
  rcases List.mem_cons.mp hx with hx | hx
  · subst hx
    exact ⟨h, good_of_word (List.mem_filter.mp h).2⟩
  · exact ⟨hx, good_of_word (List.mem_filter.mp hx).2⟩
/-- a contract out of a walk, for a method whose class has native methods, but none of this name -/
theorem z_metF {l : Launch} {y : MethodName} {ws ws' : List Cond} {rm : Room} {Pc : Array Value → State → Prop} {Qc : Array Value → State → Outcome → State → Prop} {mc ms : Nat} {free : Addr → Prop} {cc : ByteArray} {maxL : Nat} {ret : Option FieldType} (hy : plainFor y = true) (hw : ws = Cond.code y cc maxL ret :: ws')
    (body : ∀ p e s m args below meth c s₁, BodyLoose p l y (headSpec ws rm) cc maxL ret e s m args below meth c s₁ → c.maxLocals = maxL → Pc args s → W p l e (headSpec ws rm).room s m args below meth c s.heap [] 0 0 (MQ below Qc args s mc ms free) (entryFrame m args maxL)) : Met l y ws rm Pc Qc mc ms free := by
  have hm : Cond.code y cc maxL ret ∈ ws := by rw [hw]; exact List.mem_cons_self
  refine MetFree.of_bodySF (code := cc) (maxLocals := maxL) (ret := ret) hy (fun args s m h hn => ?_) (fun p e s m args below meth c s₁ B hml hP _ => ?_)
  · obtain ⟨meth, c, h1, h2, h3, h4, h5, h6, -⟩ := Cond.code_spec hn (atoms_spec (ws := ws) h _ hm)
    exact ⟨meth, c, h1, h2, h3, h4, h5, h6⟩
  · have hh : s₁.heap = s.heap := by rw [B.state]; rfl
    obtain ⟨t, a1, o, b1, b2, b3, b4⟩ := body p e s m args below meth c s₁ B hml hP s₁ hh (Stand.of_body B)
    exact ⟨t, o, a1, b1, b2, b3, b4⟩
/-- behind a call that changes no cell -/
theorem z_callH {p : Program} {l : Launch} {e : Env} {Rm : Room} {s : State} {mi : MethodId} {args : Array Value} {below : List Frame} {meth : Method} {c : Code} {H : Heap} {locs : List Loc} {cells slots : Nat} {Q : State → Prop} {pc : Nat} {LS : Array Slot} {v : Option Value} {stk rest : List Value} {a : Array Value}
    (hr : va_Run p l e Rm s mi args below meth c H locs cells slots 0 0 (F0 mi pc LS stk) rest (zQh v a) (fun _ => False)) (k : W p l e Rm s mi args below meth c H locs cells slots Q (F0 mi (pc + 3) LS (v.toList ++ rest))) : W p l e Rm s mi args below meth c H locs cells slots Q (F0 mi pc LS stk) := by
  intro T hT X0
  obtain ⟨v', st₀, t, T', L1, h0, X', hL, e1, e2, ⟨hv, hh⟩, stp⟩ := hr T hT X0
  have hv : v' = v := by simpa using hv
  subst hv
  have hL1 : L1 = [] := by
    cases L1 with
    | nil => rfl
    | cons q L => exact (hL q List.mem_cons_self).elim
  subst hL1
  rw [List.append_nil] at X'
  obtain ⟨t2, a1, b1⟩ := k T' (by rw [e1, hh, h0]) X'
  exact ⟨t2, stp t2 a1, b1⟩
abbrev zyx_len : MethodName := ⟨"java/lang/String", "length", "()I"⟩
abbrev zcx_len : Cond := .code zyx_len prog_17_method_54_code 1 (some .int)
abbrev zyx_cod : MethodName := ⟨"java/lang/String", "coder", "()B"⟩
abbrev zcx_cod : Cond := .code zyx_cod prog_17_method_152_code 1 (some .byte)
abbrev zyx_chr : MethodName := ⟨"java/lang/String", "charAt", "(I)C"⟩
abbrev zcx_chr : Cond := .code zyx_chr prog_17_method_56_code 2 (some .char)
abbrev zyx_isl : MethodName := ⟨"java/lang/String", "isLatin1", "()Z"⟩
abbrev zcx_isl : Cond := .code zyx_isl prog_17_method_154_code 1 (some .boolean)
abbrev zyx_lch : MethodName := ⟨"java/lang/StringLatin1", "charAt", "([BI)C"⟩
abbrev zcx_lch : Cond := .code zyx_lch prog_18_method_2_code 2 (some .char)
abbrev zyx_sci : MethodName := ⟨"java/lang/String", "checkIndex", "(II)V"⟩
abbrev zcx_sci : Cond := .code zyx_sci prog_17_method_155_code 2 none
abbrev zyx_pci : MethodName := ⟨"jdk/internal/util/Preconditions", "checkIndex", "(IILjava/util/function/BiFunction;)I"⟩
abbrev zcx_pci : Cond := .code zyx_pci prog_21_method_11_code 3 (some .int)
abbrev zyx_fdv : MethodName := ⟨"java/lang/Math", "floorDiv", "(II)I"⟩
abbrev zcx_fdv : Cond := .code zyx_fdv prog_16_method_47_code 3 (some .int)
set_option maxRecDepth 100000 in
theorem zx_143 : Cond.initialized "java/lang/String" ∈ zTB := z_mem (i := 55) rfl rfl
set_option maxRecDepth 100000 in
theorem zx_144 : Cond.initialized "java/lang/StringLatin1" ∈ zTB := z_mem (i := 56) rfl rfl
set_option maxRecDepth 100000 in
theorem zx_145 : Cond.initialized "jdk/internal/util/Preconditions" ∈ zTB := z_mem (i := 57) rfl rfl
set_option maxRecDepth 100000 in
theorem zx_132 : Cond.initialized "java/lang/Math" ∈ zTB := z_mem (i := 45) rfl rfl
set_option maxRecDepth 100000 in
theorem zx_817 : Cond.instanceMethod zyx_len ∈ zTB := z_mem (i := 986) rfl rfl
set_option maxRecDepth 100000 in
theorem zx_818 : Cond.selects "java/lang/String" zyx_len zyx_len ∈ zTB := z_mem (i := 987) rfl rfl
set_option maxRecDepth 100000 in
theorem zx_819 : zcx_len ∈ zTB := z_mem (i := 988) rfl rfl
set_option maxRecDepth 100000 in
theorem zx_820 : Cond.methodLink "java/lang/String" 335 zyx_cod ∈ zTB := z_mem (i := 989) rfl rfl
set_option maxRecDepth 100000 in
theorem zx_821 : Cond.instanceMethod zyx_cod ∈ zTB := z_mem (i := 990) rfl rfl
set_option maxRecDepth 100000 in
theorem zx_822 : Cond.selects "java/lang/String" zyx_cod zyx_cod ∈ zTB := z_mem (i := 991) rfl rfl
set_option maxRecDepth 100000 in
theorem zx_823 : zcx_cod ∈ zTB := z_mem (i := 992) rfl rfl
set_option maxRecDepth 100000 in
theorem zx_824 : Cond.fieldLink "java/lang/String" 38 "java/lang/String" "COMPACT_STRINGS" "Z" ∈ zTB := z_mem (i := 993) rfl rfl
set_option maxRecDepth 100000 in
theorem zx_827 : Cond.instanceMethod zyx_chr ∈ zTB := z_mem (i := 996) rfl rfl
set_option maxRecDepth 100000 in
theorem zx_828 : Cond.selects "java/lang/String" zyx_chr zyx_chr ∈ zTB := z_mem (i := 997) rfl rfl
set_option maxRecDepth 100000 in
theorem zx_829 : zcx_chr ∈ zTB := z_mem (i := 998) rfl rfl
set_option maxRecDepth 100000 in
theorem zx_830 : Cond.methodLink "java/lang/String" 492 zyx_isl ∈ zTB := z_mem (i := 999) rfl rfl
set_option maxRecDepth 100000 in
theorem zx_831 : Cond.instanceMethod zyx_isl ∈ zTB := z_mem (i := 1000) rfl rfl
set_option maxRecDepth 100000 in
theorem zx_832 : Cond.selects "java/lang/String" zyx_isl zyx_isl ∈ zTB := z_mem (i := 1001) rfl rfl
set_option maxRecDepth 100000 in
theorem zx_833 : zcx_isl ∈ zTB := z_mem (i := 1002) rfl rfl
set_option maxRecDepth 100000 in
theorem zx_834 : Cond.methodLink "java/lang/String" 495 zyx_lch ∈ zTB := z_mem (i := 1003) rfl rfl
set_option maxRecDepth 100000 in
theorem zx_835 : Cond.static zyx_lch ∈ zTB := z_mem (i := 1004) rfl rfl
set_option maxRecDepth 100000 in
theorem zx_836 : zcx_lch ∈ zTB := z_mem (i := 1005) rfl rfl
set_option maxRecDepth 100000 in
theorem zx_837 : Cond.methodLink "java/lang/StringLatin1" 9 zyx_sci ∈ zTB := z_mem (i := 1006) rfl rfl
set_option maxRecDepth 100000 in
theorem zx_838 : Cond.static zyx_sci ∈ zTB := z_mem (i := 1007) rfl rfl
set_option maxRecDepth 100000 in
theorem zx_839 : zcx_sci ∈ zTB := z_mem (i := 1008) rfl rfl
set_option maxRecDepth 100000 in
theorem zx_840 : Cond.fieldLink "java/lang/String" 1053 "jdk/internal/util/Preconditions" "SIOOBE_FORMATTER" "Ljava/util/function/BiFunction;" ∈ zTB := z_mem (i := 1009) rfl rfl
set_option maxRecDepth 100000 in
theorem zx_842 : Cond.methodLink "java/lang/String" 1059 zyx_pci ∈ zTB := z_mem (i := 1011) rfl rfl
set_option maxRecDepth 100000 in
theorem zx_843 : Cond.static zyx_pci ∈ zTB := z_mem (i := 1012) rfl rfl
set_option maxRecDepth 100000 in
theorem zx_844 : zcx_pci ∈ zTB := z_mem (i := 1013) rfl rfl
set_option maxRecDepth 100000 in
theorem zx_2243 : Cond.fieldLink "java/lang/String" 9 "java/lang/String" "value" "[B" ∈ zTB := z_mem (i := 1154) rfl rfl
set_option maxRecDepth 100000 in
theorem zx_2244 : Cond.fieldLink "java/lang/String" 15 "java/lang/String" "coder" "B" ∈ zTB := z_mem (i := 1155) rfl rfl
set_option maxRecDepth 100000 in
theorem zx_1139 : Cond.static zyx_fdv ∈ zTB := z_mem (i := 716) rfl rfl
set_option maxRecDepth 100000 in
theorem zx_1140 : zcx_fdv ∈ zTB := z_mem (i := 717) rfl rfl
theorem dz_cod_0 : decode prog_17_method_152_code 0 = .ok (.getstatic 38, 3) := by decide +kernel
theorem dz_cod_3 : decode prog_17_method_152_code 3 = .ok (.ifCond .eq 10, 3) := by decide +kernel
theorem dz_cod_6 : decode prog_17_method_152_code 6 = .ok (.aload_n 0, 1) := by decide +kernel
theorem dz_cod_7 : decode prog_17_method_152_code 7 = .ok (.getfield 15, 3) := by decide +kernel
theorem dz_cod_10 : decode prog_17_method_152_code 10 = .ok (.goto 4, 3) := by decide +kernel
theorem dz_cod_13 : decode prog_17_method_152_code 13 = .ok (.iconst 1, 1) := by decide +kernel
theorem dz_cod_14 : decode prog_17_method_152_code 14 = .ok (.ireturn, 1) := by decide +kernel
theorem dz_len_0 : decode prog_17_method_54_code 0 = .ok (.aload_n 0, 1) := by decide +kernel
theorem dz_len_1 : decode prog_17_method_54_code 1 = .ok (.getfield 9, 3) := by decide +kernel
theorem dz_len_4 : decode prog_17_method_54_code 4 = .ok (.arraylength, 1) := by decide +kernel
theorem dz_len_5 : decode prog_17_method_54_code 5 = .ok (.aload_n 0, 1) := by decide +kernel
theorem dz_len_6 : decode prog_17_method_54_code 6 = .ok (.invokevirtual 335, 3) := by decide +kernel
theorem dz_len_9 : decode prog_17_method_54_code 9 = .ok (.ishr, 1) := by decide +kernel
theorem dz_len_10 : decode prog_17_method_54_code 10 = .ok (.ireturn, 1) := by decide +kernel
theorem dz_isl_0 : decode prog_17_method_154_code 0 = .ok (.getstatic 38, 3) := by decide +kernel
theorem dz_isl_3 : decode prog_17_method_154_code 3 = .ok (.ifCond .eq 14, 3) := by decide +kernel
theorem dz_isl_6 : decode prog_17_method_154_code 6 = .ok (.aload_n 0, 1) := by decide +kernel
theorem dz_isl_7 : decode prog_17_method_154_code 7 = .ok (.getfield 15, 3) := by decide +kernel
theorem dz_isl_10 : decode prog_17_method_154_code 10 = .ok (.ifCond .ne 7, 3) := by decide +kernel
theorem dz_isl_13 : decode prog_17_method_154_code 13 = .ok (.iconst 1, 1) := by decide +kernel
theorem dz_isl_14 : decode prog_17_method_154_code 14 = .ok (.goto 4, 3) := by decide +kernel
theorem dz_isl_17 : decode prog_17_method_154_code 17 = .ok (.iconst 0, 1) := by decide +kernel
theorem dz_isl_18 : decode prog_17_method_154_code 18 = .ok (.ireturn, 1) := by decide +kernel
theorem dz_sci_0 : decode prog_17_method_155_code 0 = .ok (.iload_n 0, 1) := by decide +kernel
theorem dz_sci_1 : decode prog_17_method_155_code 1 = .ok (.iload_n 1, 1) := by decide +kernel
theorem dz_sci_2 : decode prog_17_method_155_code 2 = .ok (.getstatic 1053, 3) := by decide +kernel
theorem dz_sci_5 : decode prog_17_method_155_code 5 = .ok (.invokestatic 1059, 3) := by decide +kernel
theorem dz_sci_8 : decode prog_17_method_155_code 8 = .ok (.pop, 1) := by decide +kernel
theorem dz_sci_9 : decode prog_17_method_155_code 9 = .ok (.return_, 1) := by decide +kernel
theorem dz_lch_0 : decode prog_18_method_2_code 0 = .ok (.iload_n 1, 1) := by decide +kernel
theorem dz_lch_1 : decode prog_18_method_2_code 1 = .ok (.aload_n 0, 1) := by decide +kernel
theorem dz_lch_2 : decode prog_18_method_2_code 2 = .ok (.arraylength, 1) := by decide +kernel
theorem dz_lch_3 : decode prog_18_method_2_code 3 = .ok (.invokestatic 9, 3) := by decide +kernel
theorem dz_lch_6 : decode prog_18_method_2_code 6 = .ok (.aload_n 0, 1) := by decide +kernel
theorem dz_lch_7 : decode prog_18_method_2_code 7 = .ok (.iload_n 1, 1) := by decide +kernel
theorem dz_lch_8 : decode prog_18_method_2_code 8 = .ok (.baload, 1) := by decide +kernel
theorem dz_lch_9 : decode prog_18_method_2_code 9 = .ok (.sipush 255, 3) := by decide +kernel
theorem dz_lch_12 : decode prog_18_method_2_code 12 = .ok (.iand, 1) := by decide +kernel
theorem dz_lch_13 : decode prog_18_method_2_code 13 = .ok (.i2c, 1) := by decide +kernel
theorem dz_lch_14 : decode prog_18_method_2_code 14 = .ok (.ireturn, 1) := by decide +kernel
theorem dz_pci_0 : decode prog_21_method_11_code 0 = .ok (.iload_n 0, 1) := by decide +kernel
theorem dz_pci_1 : decode prog_21_method_11_code 1 = .ok (.ifCond .lt 8, 3) := by decide +kernel
theorem dz_pci_4 : decode prog_21_method_11_code 4 = .ok (.iload_n 0, 1) := by decide +kernel
theorem dz_pci_5 : decode prog_21_method_11_code 5 = .ok (.iload_n 1, 1) := by decide +kernel
theorem dz_pci_6 : decode prog_21_method_11_code 6 = .ok (.if_icmp .lt 10, 3) := by decide +kernel
theorem dz_pci_9 : decode prog_21_method_11_code 9 = .ok (.aload_n 2, 1) := by decide +kernel
theorem dz_pci_10 : decode prog_21_method_11_code 10 = .ok (.iload_n 0, 1) := by decide +kernel
theorem dz_pci_11 : decode prog_21_method_11_code 11 = .ok (.iload_n 1, 1) := by decide +kernel
theorem dz_pci_12 : decode prog_21_method_11_code 12 = .ok (.invokestatic 95, 3) := by decide +kernel
theorem dz_pci_15 : decode prog_21_method_11_code 15 = .ok (.athrow, 1) := by decide +kernel
theorem dz_pci_16 : decode prog_21_method_11_code 16 = .ok (.iload_n 0, 1) := by decide +kernel
theorem dz_pci_17 : decode prog_21_method_11_code 17 = .ok (.ireturn, 1) := by decide +kernel
theorem dz_chr_0 : decode prog_17_method_56_code 0 = .ok (.aload_n 0, 1) := by decide +kernel
theorem dz_chr_1 : decode prog_17_method_56_code 1 = .ok (.invokevirtual 492, 3) := by decide +kernel
theorem dz_chr_4 : decode prog_17_method_56_code 4 = .ok (.ifCond .eq 12, 3) := by decide +kernel
theorem dz_chr_7 : decode prog_17_method_56_code 7 = .ok (.aload_n 0, 1) := by decide +kernel
theorem dz_chr_8 : decode prog_17_method_56_code 8 = .ok (.getfield 9, 3) := by decide +kernel
theorem dz_chr_11 : decode prog_17_method_56_code 11 = .ok (.iload_n 1, 1) := by decide +kernel
theorem dz_chr_12 : decode prog_17_method_56_code 12 = .ok (.invokestatic 495, 3) := by decide +kernel
theorem dz_chr_15 : decode prog_17_method_56_code 15 = .ok (.ireturn, 1) := by decide +kernel
theorem dz_chr_16 : decode prog_17_method_56_code 16 = .ok (.aload_n 0, 1) := by decide +kernel
theorem dz_chr_17 : decode prog_17_method_56_code 17 = .ok (.getfield 9, 3) := by decide +kernel
theorem dz_chr_20 : decode prog_17_method_56_code 20 = .ok (.iload_n 1, 1) := by decide +kernel
theorem dz_chr_21 : decode prog_17_method_56_code 21 = .ok (.invokestatic 498, 3) := by decide +kernel
theorem dz_chr_24 : decode prog_17_method_56_code 24 = .ok (.ireturn, 1) := by decide +kernel
theorem dz_fdv_0 : decode prog_16_method_47_code 0 = .ok (.iload_n 0, 1) := by decide +kernel
theorem dz_fdv_1 : decode prog_16_method_47_code 1 = .ok (.iload_n 1, 1) := by decide +kernel
theorem dz_fdv_2 : decode prog_16_method_47_code 2 = .ok (.idiv, 1) := by decide +kernel
theorem dz_fdv_3 : decode prog_16_method_47_code 3 = .ok (.istore_n 2, 1) := by decide +kernel
theorem dz_fdv_4 : decode prog_16_method_47_code 4 = .ok (.iload_n 0, 1) := by decide +kernel
theorem dz_fdv_5 : decode prog_16_method_47_code 5 = .ok (.iload_n 1, 1) := by decide +kernel
theorem dz_fdv_6 : decode prog_16_method_47_code 6 = .ok (.ixor, 1) := by decide +kernel
theorem dz_fdv_7 : decode prog_16_method_47_code 7 = .ok (.ifCond .ge 14, 3) := by decide +kernel
theorem dz_fdv_10 : decode prog_16_method_47_code 10 = .ok (.iload_n 2, 1) := by decide +kernel
theorem dz_fdv_11 : decode prog_16_method_47_code 11 = .ok (.iload_n 1, 1) := by decide +kernel
theorem dz_fdv_12 : decode prog_16_method_47_code 12 = .ok (.imul, 1) := by decide +kernel
theorem dz_fdv_13 : decode prog_16_method_47_code 13 = .ok (.iload_n 0, 1) := by decide +kernel
theorem dz_fdv_14 : decode prog_16_method_47_code 14 = .ok (.if_icmp .eq 7, 3) := by decide +kernel
theorem dz_fdv_17 : decode prog_16_method_47_code 17 = .ok (.iload_n 2, 1) := by decide +kernel
theorem dz_fdv_18 : decode prog_16_method_47_code 18 = .ok (.iconst 1, 1) := by decide +kernel
theorem dz_fdv_19 : decode prog_16_method_47_code 19 = .ok (.isub, 1) := by decide +kernel
theorem dz_fdv_20 : decode prog_16_method_47_code 20 = .ok (.ireturn, 1) := by decide +kernel
theorem dz_fdv_21 : decode prog_16_method_47_code 21 = .ok (.iload_n 2, 1) := by decide +kernel
theorem dz_fdv_22 : decode prog_16_method_47_code 22 = .ok (.ireturn, 1) := by decide +kernel
section JTEXT
variable {B : Nat} {adK : Nat → Nat}
theorem c_cod (l : Launch) {i : Nat} (hi : i < 12) : Met l zyx_cod (zcx_cod :: zTB) { frames := 0, cells := 0, slots := 0, locals := 0 } (zPt B adK [.ref (adK i)]) (zQh (some (.int 0))) 0 0 (fun _ => False) := by
  refine Met.ofW (cc := prog_17_method_152_code) (maxL := 1) (ret := (some .byte)) (by decide) rfl ?_
  intro p e s mi args below meth c s₁ B0 hml hv
  obtain ⟨rfl, hT⟩ := hv
  have hts := atoms_spec (ws := zcx_cod :: zTB) B0.pre
  have hown : s.vm.findClass zyx_cod.cls = some mi.cls := findClass_of_methodNamed B0.named
  have hw : ∀ w ∈ zTB, w.before [.ref (adK i)].toArray s = true := fun w h => hts w (List.mem_cons_of_mem _ h)
  have hl := lv_entry [.ref (adK i)] (n := 1) (Nat.le_of_ble_eq_true rfl)
  rw [lg_entry_eq]
  generalize (lg_sl [.ref (adK i)] ++ List.replicate (1 - (lg_sl [.ref (adK i)]).length) Slot.unset).toArray = LS at hl ⊢
  have hl : lv_has LS 1 [(0, .ref (adK i))] := hl
  obtain ⟨⟨adV, hS⟩, -, hZ, -⟩ := hT
  have hI := hS.1 i hi
  refine va_gets B0.exec B0.bytes hZ va_S.rf hown (hw _ zx_824) (fun x h => h) dz_cod_0 ?_
  refine lv_if_eq B0.exec B0.bytes dz_cod_3 (tgt := 13) rfl (fun h => absurd h (by decide)) (fun _ => ?_)
  refine lv_aload_n B0.exec B0.bytes dz_cod_6 rfl (lv_at hl 0 rfl) ?_
  refine vk_getf B0.exec B0.bytes hI.2.1 va_S.rf hown (hw _ zx_2244) (fun x h => h) dz_cod_7 ?_
  refine lv_goto B0.exec B0.bytes dz_cod_10 (tgt := 14) rfl ?_
  exact W.zret B0.exec B0.bytes B0.returns rfl (fun t ht _ => ⟨rfl, ht⟩) (fun q h => by cases h) dz_cod_14 B0.notSynchronized
theorem c_isl (l : Launch) {i : Nat} (hi : i < 12) : Met l zyx_isl (zcx_isl :: zTB) { frames := 0, cells := 0, slots := 0, locals := 0 } (zPt B adK [.ref (adK i)]) (zQh (some (.int 1))) 0 0 (fun _ => False) := by
  refine Met.ofW (cc := prog_17_method_154_code) (maxL := 1) (ret := (some .boolean)) (by decide) rfl ?_
  intro p e s mi args below meth c s₁ B0 hml hv
  obtain ⟨rfl, hT⟩ := hv
  have hts := atoms_spec (ws := zcx_isl :: zTB) B0.pre
  have hown : s.vm.findClass zyx_isl.cls = some mi.cls := findClass_of_methodNamed B0.named
  have hw : ∀ w ∈ zTB, w.before [.ref (adK i)].toArray s = true := fun w h => hts w (List.mem_cons_of_mem _ h)
  have hl := lv_entry [.ref (adK i)] (n := 1) (Nat.le_of_ble_eq_true rfl)
  rw [lg_entry_eq]
  generalize (lg_sl [.ref (adK i)] ++ List.replicate (1 - (lg_sl [.ref (adK i)]).length) Slot.unset).toArray = LS at hl ⊢
  have hl : lv_has LS 1 [(0, .ref (adK i))] := hl
  obtain ⟨⟨adV, hS⟩, -, hZ, -⟩ := hT
  have hI := hS.1 i hi
  refine va_gets B0.exec B0.bytes hZ va_S.rf hown (hw _ zx_824) (fun x h => h) dz_isl_0 ?_
  refine lv_if_eq B0.exec B0.bytes dz_isl_3 (tgt := 17) rfl (fun h => absurd h (by decide)) (fun _ => ?_)
  refine lv_aload_n B0.exec B0.bytes dz_isl_6 rfl (lv_at hl 0 rfl) ?_
  refine vk_getf B0.exec B0.bytes hI.2.1 va_S.rf hown (hw _ zx_2244) (fun x h => h) dz_isl_7 ?_
  refine lv_if_ne B0.exec B0.bytes dz_isl_10 (tgt := 17) rfl (fun h => absurd rfl h) (fun _ => ?_)
  refine lv_iconst B0.exec B0.bytes dz_isl_13 (v := 1) rfl ?_
  refine lv_goto B0.exec B0.bytes dz_isl_14 (tgt := 18) rfl ?_
  exact W.zret B0.exec B0.bytes B0.returns rfl (fun t ht _ => ⟨rfl, ht⟩) (fun q h => by cases h) dz_isl_18 B0.notSynchronized
theorem z_sh0 (x : Int32) : x >>> ((0 : Int32) &&& 31) = x := by
  apply Int32.toInt_inj.mp
  rw [pk_shr x _ 0 (by decide)]
  exact Int.shiftRight_zero _
theorem c_len (l : Launch) {i : Nat} (hi : i < 12) : Met l zyx_len (zcx_len :: zTB) { frames := 1, cells := 0, slots := 0, locals := 20 } (zPt B adK [.ref (adK i)]) (zQh (some (.int (Int32.ofNat (zlenS.getD i 0))))) 0 0 (fun _ => False) := by
  refine Met.ofW (cc := prog_17_method_54_code) (maxL := 1) (ret := (some .int)) (by decide) rfl ?_
  intro p e s mi args below meth c s₁ B0 hml hv
  obtain ⟨rfl, hT⟩ := hv
  have hts := atoms_spec (ws := zcx_len :: zTB) B0.pre
  have hown : s.vm.findClass zyx_len.cls = some mi.cls := findClass_of_methodNamed B0.named
  have hw : ∀ w ∈ zTB, w.before [.ref (adK i)].toArray s = true := fun w h => hts w (List.mem_cons_of_mem _ h)
  have hl := lv_entry [.ref (adK i)] (n := 1) (Nat.le_of_ble_eq_true rfl)
  rw [lg_entry_eq]
  generalize (lg_sl [.ref (adK i)] ++ List.replicate (1 - (lg_sl [.ref (adK i)]).length) Slot.unset).toArray = LS at hl ⊢
  have hl : lv_has LS 1 [(0, .ref (adK i))] := hl
  have hTT := hT
  obtain ⟨⟨adV, hS⟩, -, hZ, -⟩ := hT
  have hI := hS.1 i hi
  refine lv_aload_n B0.exec B0.bytes dz_len_0 rfl (lv_at hl 0 rfl) ?_
  refine vk_getf B0.exec B0.bytes hI.2.2.1 va_S.rf hown (hw _ zx_2243) (fun x h => h) dz_len_1 ?_
  refine va_tlen B0.exec B0.bytes hI.2.2.2 va_S.rf (v := Int32.ofNat (zlenS.getD i 0)) rfl dz_len_4 ?_
  refine lv_aload_n B0.exec B0.bytes dz_len_5 rfl (lv_at hl 0 rfl) ?_
  refine z_callH (va_runV (As := []) (rest := [.int (Int32.ofNat (zlenS.getD i 0))]) (Ts := zTB) ⟨B0.exec, B0.bytes, hml, hown, hw⟩ (c_cod (B := B) (adK := adK) l hi)
    ⟨callB_of 0 hw (z_GIw zx_823) rfl rfl rfl (hw _ zx_143) (hw _ zx_820) ⟨by decide, by decide, by decide +kernel⟩ ⟨Nat.le_of_ble_eq_true rfl, Nat.le_of_ble_eq_true rfl⟩, hw _ zx_821, hw _ zx_822⟩
    ⟨zPt_blind _ _ _, vk_recv hS hi va_S.rf, fun U hU hW => ⟨rfl, zTX_warm hW hU hTT⟩⟩ rfl rfl hl.1 rfl (lv_room (Nat.le_of_ble_eq_true rfl)) dz_len_6 ⟨Nat.le_refl _, Nat.le_refl _⟩) ?_
  refine lv_ishr B0.exec B0.bytes dz_len_9 ?_
  rw [z_sh0]
  exact W.iret B0.exec B0.bytes B0.returns (fun t ht _ => ⟨rfl, ht⟩) (fun q h => by cases h) dz_len_10 B0.notSynchronized
theorem c_pci (l : Launch) {i n : Nat} {v : Value} (hv0 : v = .null ∨ ∃ q, v = .ref q) (hi : i < n) (hn : n < 2 ^ 31) : Met l zyx_pci (zcx_pci :: zTB) { frames := 0, cells := 0, slots := 0, locals := 0 } (zPn0 [.int (nI i), .int (nI n), v]) (zQh (some (.int (nI i)))) 0 0 (fun _ => False) := by
  refine Met.ofW (cc := prog_21_method_11_code) (maxL := 3) (ret := (some .int)) (by decide) rfl ?_
  intro p e s mi args below meth c s₁ B0 hml hv
  obtain ⟨rfl, hT⟩ := hv
  have hts := atoms_spec (ws := zcx_pci :: zTB) B0.pre
  have hv1 : v.category = 1 := by rcases hv0 with rfl | ⟨q, rfl⟩ <;> rfl
  have hown : s.vm.findClass zyx_pci.cls = some mi.cls := findClass_of_methodNamed B0.named
  have hw : ∀ w ∈ zTB, w.before [.int (nI i), .int (nI n), v].toArray s = true := fun w h => hts w (List.mem_cons_of_mem _ h)
  have hl := lv_entry [.int (nI i), .int (nI n), v] (n := 3) (by rcases hv0 with rfl | ⟨q, rfl⟩ <;> exact Nat.le_of_ble_eq_true rfl)
  rw [lg_entry_eq]
  generalize (lg_sl [.int (nI i), .int (nI n), v] ++ List.replicate (3 - (lg_sl [.int (nI i), .int (nI n), v]).length) Slot.unset).toArray = LS at hl ⊢
  have hl : lv_has LS 3 [(0, .int (nI i)), (1, .int (nI n)), (2, v)] := hl
  refine lv_iload_n B0.exec B0.bytes dz_pci_0 rfl (lv_at hl 0 rfl) ?_
  refine lv_if_lt B0.exec B0.bytes dz_pci_1 (tgt := 9) rfl (fun h => absurd h (nI_pos (by omega))) (fun _ => ?_)
  refine lv_iload_n B0.exec B0.bytes dz_pci_4 rfl (lv_at hl 0 rfl) ?_
  refine lv_iload_n B0.exec B0.bytes dz_pci_5 rfl (lv_at hl 1 rfl) ?_
  refine lv_icmp_lt B0.exec B0.bytes dz_pci_6 (tgt := 16) rfl (fun _ => ?_) (fun h => absurd (nI_lt hi hn) h)
  refine lv_iload_n B0.exec B0.bytes dz_pci_16 rfl (lv_at hl 0 rfl) ?_
  exact W.iret B0.exec B0.bytes B0.returns (fun t ht _ => ⟨rfl, ht⟩) (fun q h => by cases h) dz_pci_17 B0.notSynchronized
theorem c_sci (l : Launch) {i n : Nat} (hi : i < n) (hn : n < 2 ^ 31) : Met l zyx_sci (zcx_sci :: zTB) { frames := 1, cells := 0, slots := 0, locals := 22 } (zPt B adK [.int (nI i), .int (nI n)]) (zQh none) 0 0 (fun _ => False) := by
  refine Met.ofW (cc := prog_17_method_155_code) (maxL := 2) (ret := none) (by decide) rfl ?_
  intro p e s mi args below meth c s₁ B0 hml hv
  obtain ⟨rfl, hT⟩ := hv
  have hts := atoms_spec (ws := zcx_sci :: zTB) B0.pre
  have hown : s.vm.findClass zyx_sci.cls = some mi.cls := findClass_of_methodNamed B0.named
  have hw : ∀ w ∈ zTB, w.before [.int (nI i), .int (nI n)].toArray s = true := fun w h => hts w (List.mem_cons_of_mem _ h)
  have hl := lv_entry [.int (nI i), .int (nI n)] (n := 2) (Nat.le_of_ble_eq_true rfl)
  rw [lg_entry_eq]
  generalize (lg_sl [.int (nI i), .int (nI n)] ++ List.replicate (2 - (lg_sl [.int (nI i), .int (nI n)]).length) Slot.unset).toArray = LS at hl ⊢
  have hl : lv_has LS 2 [(0, .int (nI i)), (1, .int (nI n))] := hl
  obtain ⟨-, -, -, hq⟩ := hT
  have hv : ∃ v : Value, (v = .null ∨ ∃ q, v = .ref q) ∧ va_Z "jdk/internal/util/Preconditions" "SIOOBE_FORMATTER" "Ljava/util/function/BiFunction;" v (fun q => B ≤ q) s s.heap := by
    rcases hq with h | ⟨q, h⟩
    · exact ⟨_, Or.inl rfl, h⟩
    · exact ⟨_, Or.inr ⟨q, rfl⟩, h⟩
  obtain ⟨v, hv0, hZ⟩ := hv
  refine lv_iload_n B0.exec B0.bytes dz_sci_0 rfl (lv_at hl 0 rfl) ?_
  refine lv_iload_n B0.exec B0.bytes dz_sci_1 rfl (lv_at hl 1 rfl) ?_
  refine va_gets B0.exec B0.bytes hZ va_S.rf hown (hw _ zx_840) (fun x h => h) dz_sci_2 ?_
  refine z_callH (va_runS (As := [.int (nI i), .int (nI n), v]) (rest := []) (Ts := zTB) ⟨B0.exec, B0.bytes, hml, hown, hw⟩ (c_pci l hv0 hi hn)
    ⟨callB_of 3 hw (z_GIw zx_844) rfl rfl rfl (hw _ zx_145) (hw _ zx_842) ⟨by decide, by decide, by decide +kernel⟩ ⟨Nat.le_of_ble_eq_true rfl, Nat.le_of_ble_eq_true rfl⟩, hw _ zx_843⟩
    ⟨zPn0_blind _, fun U hU hW => ⟨rfl, trivial⟩⟩ rfl rfl hl.1 rfl (lv_room (Nat.le_of_ble_eq_true rfl)) dz_sci_5 ⟨Nat.le_refl _, Nat.le_refl _⟩) ?_
  refine lv_pop B0.exec B0.bytes dz_sci_8 rfl ?_
  exact W.vret B0.exec B0.bytes B0.returns (fun t ht _ => ⟨rfl, ht⟩) (fun q h => by cases h) dz_sci_9 B0.notSynchronized
theorem c_lch (l : Launch) {i N t : Nat} {f : Nat → Int32} {v : Int32} (hi : i < N) (hn : N < 2 ^ 31) (hv : ((f i &&& 255).toUInt32 % 65536).toInt32 = v) (hc : narrow .char (.int v) = .int v) : Met l zyx_lch (zcx_lch :: zTB) { frames := 2, cells := 0, slots := 0, locals := 43 } (zPa B adK t N (fun q => .int (f q)) [.ref t, .int (nI i)]) (zQh (some (.int v))) 0 0 (fun _ => False) := by
  refine Met.ofW (cc := prog_18_method_2_code) (maxL := 2) (ret := (some .char)) (by decide) rfl ?_
  intro p e s mi args below meth c s₁ B0 hml hv0
  have hv1 := hv
  clear hv
  obtain ⟨rfl, hT⟩ := hv0
  have hts := atoms_spec (ws := zcx_lch :: zTB) B0.pre
  have hown : s.vm.findClass zyx_lch.cls = some mi.cls := findClass_of_methodNamed B0.named
  have hw : ∀ w ∈ zTB, w.before [.ref t, .int (nI i)].toArray s = true := fun w h => hts w (List.mem_cons_of_mem _ h)
  have hl := lv_entry [.ref t, .int (nI i)] (n := 2) (Nat.le_of_ble_eq_true rfl)
  rw [lg_entry_eq]
  generalize (lg_sl [.ref t, .int (nI i)] ++ List.replicate (2 - (lg_sl [.ref t, .int (nI i)]).length) Slot.unset).toArray = LS at hl ⊢
  have hl : lv_has LS 2 [(0, .ref t), (1, .int (nI i))] := hl
  obtain ⟨hX, hA⟩ := hT
  refine lv_iload_n B0.exec B0.bytes dz_lch_0 rfl (lv_at hl 1 rfl) ?_
  refine lv_aload_n B0.exec B0.bytes dz_lch_1 rfl (lv_at hl 0 rfl) ?_
  refine va_tlen B0.exec B0.bytes hA va_S.rf (v := nI N) rfl dz_lch_2 ?_
  refine z_callH (va_runS (As := [.int (nI i), .int (nI N)]) (rest := []) (Ts := zTB) ⟨B0.exec, B0.bytes, hml, hown, hw⟩ (c_sci (B := B) (adK := adK) l hi hn)
    ⟨callB_of 2 hw (z_GIw zx_839) rfl rfl rfl (hw _ zx_143) (hw _ zx_837) ⟨by decide, by decide, by decide +kernel⟩ ⟨Nat.le_of_ble_eq_true rfl, Nat.le_of_ble_eq_true rfl⟩, hw _ zx_838⟩
    ⟨zPt_blind _ _ _, fun U hU hW => ⟨rfl, zTX_warm hW hU hX⟩⟩ rfl rfl hl.1 rfl (lv_room (Nat.le_of_ble_eq_true rfl)) dz_lch_3 ⟨Nat.le_refl _, Nat.le_refl _⟩) ?_
  refine lv_aload_n B0.exec B0.bytes dz_lch_6 rfl (lv_at hl 0 rfl) ?_
  refine lv_iload_n B0.exec B0.bytes dz_lch_7 rfl (lv_at hl 1 rfl) ?_
  refine va_tb B0.exec B0.bytes hA va_S.rf (vp_in_nI hi hn) (v := .int (f i)) (by rw [nI_clamp (by omega)]) dz_lch_8 ?_
  refine lv_sipush B0.exec B0.bytes dz_lch_9 (v := 255) rfl ?_
  refine lv_iand B0.exec B0.bytes dz_lch_12 ?_
  refine lv_i2c B0.exec B0.bytes dz_lch_13 hv1 ?_
  exact W.zret B0.exec B0.bytes B0.returns hc (fun t ht _ => ⟨rfl, ht⟩) (fun q h => by cases h) dz_lch_14 B0.notSynchronized
theorem z_txt : ∀ j, j < 12 → zlenS.getD j 0 = (zstl.getD j []).length ∧ (zstl.getD j []).length < 100 ∧ ∀ k, k < (zstl.getD j []).length → ((((zbytS.getD j []).getD k 0 &&& 255).toUInt32 % 65536).toInt32 = Int32.ofInt ((zstl.getD j []).getD k 0) ∧ narrow .char (.int (((zbytS.getD j []).getD k 0 &&& 255).toUInt32 % 65536).toInt32) = .int (((zbytS.getD j []).getD k 0 &&& 255).toUInt32 % 65536).toInt32 ∧ 0 ≤ (zstl.getD j []).getD k 0 ∧ (zstl.getD j []).getD k 0 < 128) := by decide +kernel
theorem c_chr (l : Launch) {i k : Nat} (hi : i < 12) (hk : k < (zstl.getD i []).length) : Met l zyx_chr (zcx_chr :: zTB) { frames := 3, cells := 0, slots := 0, locals := 64 } (zPt B adK [.ref (adK i), .int (nI k)]) (zQh (some (.int (Int32.ofInt ((zstl.getD i []).getD k 0))))) 0 0 (fun _ => False) := by
  refine Met.ofW (cc := prog_17_method_56_code) (maxL := 2) (ret := (some .char)) (by decide) rfl ?_
  intro p e s mi args below meth c s₁ B0 hml hv
  obtain ⟨rfl, hT⟩ := hv
  have hts := atoms_spec (ws := zcx_chr :: zTB) B0.pre
  have hown : s.vm.findClass zyx_chr.cls = some mi.cls := findClass_of_methodNamed B0.named
  have hw : ∀ w ∈ zTB, w.before [.ref (adK i), .int (nI k)].toArray s = true := fun w h => hts w (List.mem_cons_of_mem _ h)
  have hl := lv_entry [.ref (adK i), .int (nI k)] (n := 2) (Nat.le_of_ble_eq_true rfl)
  rw [lg_entry_eq]
  generalize (lg_sl [.ref (adK i), .int (nI k)] ++ List.replicate (2 - (lg_sl [.ref (adK i), .int (nI k)]).length) Slot.unset).toArray = LS at hl ⊢
  have hl : lv_has LS 2 [(0, .ref (adK i)), (1, .int (nI k))] := hl
  have hTT := hT
  obtain ⟨⟨adV, hS⟩, -, hZ, -⟩ := hT
  have hI := hS.1 i hi
  obtain ⟨q1, q2, q3⟩ := z_txt i hi
  obtain ⟨q4, q5, -⟩ := q3 k hk
  rw [q4] at q5
  have hk2 : k < zlenS.getD i 0 := by rw [q1]; exact hk
  have hk3 : zlenS.getD i 0 < 2 ^ 31 := by rw [q1]; omega
  refine lv_aload_n B0.exec B0.bytes dz_chr_0 rfl (lv_at hl 0 rfl) ?_
  refine z_callH (va_runV (As := []) (rest := []) (Ts := zTB) ⟨B0.exec, B0.bytes, hml, hown, hw⟩ (c_isl (B := B) (adK := adK) l hi)
    ⟨callB_of 0 hw (z_GIw zx_833) rfl rfl rfl (hw _ zx_143) (hw _ zx_830) ⟨by decide, by decide, by decide +kernel⟩ ⟨Nat.le_of_ble_eq_true rfl, Nat.le_of_ble_eq_true rfl⟩, hw _ zx_831, hw _ zx_832⟩
    ⟨zPt_blind _ _ _, vk_recv hS hi va_S.rf, fun U hU hW => ⟨rfl, zTX_warm hW hU hTT⟩⟩ rfl rfl hl.1 rfl (lv_room (Nat.le_of_ble_eq_true rfl)) dz_chr_1 ⟨Nat.le_refl _, Nat.le_refl _⟩) ?_
  refine lv_if_eq B0.exec B0.bytes dz_chr_4 (tgt := 16) rfl (fun h => absurd h (by decide)) (fun _ => ?_)
  refine lv_aload_n B0.exec B0.bytes dz_chr_7 rfl (lv_at hl 0 rfl) ?_
  refine vk_getf B0.exec B0.bytes hI.2.2.1 va_S.rf hown (hw _ zx_2243) (fun x h => h) dz_chr_8 ?_
  refine lv_iload_n B0.exec B0.bytes dz_chr_11 rfl (lv_at hl 1 rfl) ?_
  refine z_callH (va_runS (As := [.ref (adV i), .int (nI k)]) (rest := []) (Ts := zTB) ⟨B0.exec, B0.bytes, hml, hown, hw⟩ (c_lch (B := B) (adK := adK) (f := fun q => (zbytS.getD i []).getD q 0) l hk2 hk3 q4 q5)
    ⟨callB_of 2 hw (z_GIw zx_836) rfl rfl rfl (hw _ zx_144) (hw _ zx_834) ⟨by decide, by decide, by decide +kernel⟩ ⟨Nat.le_of_ble_eq_true rfl, Nat.le_of_ble_eq_true rfl⟩, hw _ zx_835⟩
    ⟨zPa_blind _ _ _ _ _ _, fun U hU hW => ⟨rfl, zTX_warm hW hU hTT, by rw [hU]; exact va_T.moved hW.alike hI.2.2.2⟩⟩ rfl rfl hl.1 rfl (lv_room (Nat.le_of_ble_eq_true rfl)) dz_chr_12 ⟨Nat.le_refl _, Nat.le_refl _⟩) ?_
  exact W.zret B0.exec B0.bytes B0.returns q5 (fun t ht _ => ⟨rfl, ht⟩) (fun q h => by cases h) dz_chr_15 B0.notSynchronized
/-- floor of a quotient: signs -/
theorem z_xge {a b : Int32} (hb : 0 < b.toInt) : (0 ≤ a ^^^ b) ↔ 0 ≤ a.toInt := by
  have h0 : (0 : Int32).toInt = 0 := by decide
  rw [Int32.le_iff_toInt_le, h0]
  have h1 : (a ^^^ b).toBitVec.msb = (a.toBitVec.msb ^^ b.toBitVec.msb) := by rw [Int32.toBitVec_xor, BitVec.msb_xor]
  rw [BitVec.msb_eq_toInt, BitVec.msb_eq_toInt, BitVec.msb_eq_toInt, Int32.toInt_toBitVec, Int32.toInt_toBitVec, Int32.toInt_toBitVec] at h1
  have h2 : decide (b.toInt < 0) = false := by rw [decide_eq_false_iff_not]; omega
  rw [h2, Bool.xor_false, decide_eq_decide] at h1
  omega
theorem z_q32 {x1 x2 : Int} (h1 : zi32 x1) (h0 : 0 < x2) : zi32 (x1 / x2) := by
  unfold zi32 at *
  rcases Int.lt_or_le x1 0 with c | c
  · have a : x1 / x2 < 0 := Int.ediv_neg_of_neg_of_pos c h0
    have b : x1 ≤ x1 / x2 := (Int.le_ediv_iff_mul_le h0).mpr (by
      have e : x1 * (x2 - 1) = x1 * x2 - x1 := by rw [Int.mul_sub, Int.mul_one]
      have n : x1 * (x2 - 1) ≤ 0 := Int.mul_nonpos_of_nonpos_of_nonneg (by omega) (by omega)
      omega)
    omega
  · have a : 0 ≤ x1 / x2 := Int.ediv_nonneg c (by omega)
    have b : x1 / x2 ≤ x1 := Int.ediv_le_self _ c
    omega
theorem z_fdiv {x1 x2 : Int} (h1 : zi32 x1) (h2 : zi32 x2) (h0 : 0 < x2) : (0 ≤ x1 → Int32.ofInt x1 / Int32.ofInt x2 = Int32.ofInt (x1 / x2)) ∧ (¬ 0 ≤ x1 → (Int32.ofInt x1 / Int32.ofInt x2 * Int32.ofInt x2 = Int32.ofInt x1 → Int32.ofInt x1 / Int32.ofInt x2 = Int32.ofInt (x1 / x2)) ∧ (¬ Int32.ofInt x1 / Int32.ofInt x2 * Int32.ofInt x2 = Int32.ofInt x1 → Int32.ofInt x1 / Int32.ofInt x2 - 1 = Int32.ofInt (x1 / x2))) := by
  have e1 := z_of h1
  have e2 := z_of h2
  have key : Int32.ofInt x1 / Int32.ofInt x2 = Int32.ofInt (x1.tdiv x2) := by
    apply Int32.toInt_inj.mp
    rw [Int32.toInt_div, e1, e2, ← zw_bmod, z_toInt]
  have hT := Int.tdiv_eq_ediv (a := x1) (b := x2)
  have hs : x2.sign = 1 := Int.sign_eq_one_of_pos h0
  rw [hs] at hT
  rw [key]
  refine ⟨fun c => by rw [hT, if_pos (Or.inl c), Int.add_zero], fun c => ?_⟩
  rw [← Int32.ofInt_mul]
  by_cases hd : x2 ∣ x1
  · rw [if_pos (Or.inr hd), Int.add_zero] at hT
    rw [hT, Int.ediv_mul_cancel hd]
    exact ⟨fun _ => rfl, fun n => absurd rfl n⟩
  · rw [if_neg (by intro o; rcases o with o | o; exact c o; exact hd o)] at hT
    rw [hT]
    have hm := Int.mul_ediv_add_emod x1 x2
    have r0 := Int.emod_nonneg x1 (show x2 ≠ 0 by omega)
    have r1 := Int.emod_lt_of_pos x1 h0
    have r2 : x1 % x2 ≠ 0 := fun e => hd (Int.dvd_of_emod_eq_zero e)
    have ep : (x1 / x2 + 1) * x2 = x2 * (x1 / x2) + x2 := by rw [Int.add_mul, Int.one_mul, Int.mul_comm]
    have qn : x1 / x2 < 0 := Int.ediv_neg_of_neg_of_pos (by omega) h0
    have pn : (x1 / x2 + 1) * x2 ≤ 0 := Int.mul_nonpos_of_nonpos_of_nonneg (by omega) (by omega)
    have ne : ¬ (x1 / x2 + 1) * x2 = x1 := by omega
    refine ⟨fun h => ?_, fun _ => ?_⟩
    · have r : zi32 ((x1 / x2 + 1) * x2) := by unfold zi32 at *; omega
      exact absurd ((z_inj r h1).mp h) ne
    · rw [show (1 : Int32) = Int32.ofInt 1 from rfl, z_sub, z_ofw, show x1 / x2 + 1 - 1 = x1 / x2 by omega]
theorem c_fdv (l : Launch) {x1 x2 : Int} (h1 : zi32 x1) (h2 : zi32 x2) (h0 : 0 < x2) : Met l zyx_fdv (zcx_fdv :: zTB) { frames := 0, cells := 0, slots := 0, locals := 0 } (zPn0 [.int (Int32.ofInt x1), .int (Int32.ofInt x2)]) (zQh (some (.int (Int32.ofInt (x1 / x2))))) 0 0 (fun _ => False) := by
  refine z_metF (cc := prog_16_method_47_code) (maxL := 3) (ret := (some .int)) (by decide +kernel) rfl ?_
  intro p e s mi args below meth c s₁ B0 hml hv
  obtain ⟨rfl, hT⟩ := hv
  have hts := atoms_spec (ws := zcx_fdv :: zTB) B0.pre
  have hown : s.vm.findClass zyx_fdv.cls = some mi.cls := findClass_of_methodNamed B0.named
  have hw : ∀ w ∈ zTB, w.before [.int (Int32.ofInt x1), .int (Int32.ofInt x2)].toArray s = true := fun w h => hts w (List.mem_cons_of_mem _ h)
  have hl := lv_entry [.int (Int32.ofInt x1), .int (Int32.ofInt x2)] (n := 3) (Nat.le_of_ble_eq_true rfl)
  rw [lg_entry_eq]
  generalize (lg_sl [.int (Int32.ofInt x1), .int (Int32.ofInt x2)] ++ List.replicate (3 - (lg_sl [.int (Int32.ofInt x1), .int (Int32.ofInt x2)]).length) Slot.unset).toArray = LS at hl ⊢
  have hl : lv_has LS 3 [(0, .int (Int32.ofInt x1)), (1, .int (Int32.ofInt x2))] := hl
  obtain ⟨f1, f2⟩ := z_fdiv h1 h2 h0
  have e1 := z_of h1
  have e2 := z_of h2
  have hge := z_xge (a := Int32.ofInt x1) (b := Int32.ofInt x2) (by rw [e2]; exact h0)
  rw [e1] at hge
  refine lv_iload_n B0.exec B0.bytes dz_fdv_0 rfl (lv_at hl 0 rfl) ?_
  refine lv_iload_n B0.exec B0.bytes dz_fdv_1 rfl (lv_at hl 1 rfl) ?_
  refine lv_idiv B0.exec B0.bytes dz_fdv_2 (fun h => by have := (z_inj h2 z_0).mp h; omega) ?_
  refine lv_istore_n B0.exec B0.bytes dz_fdv_3 rfl hl (by omega) rfl (fun LS' hl' => ?_)
  have hl' : lv_has LS' 3 [(2, .int (Int32.ofInt x1 / Int32.ofInt x2)), (0, .int (Int32.ofInt x1)), (1, .int (Int32.ofInt x2))] := hl'
  refine lv_iload_n B0.exec B0.bytes dz_fdv_4 rfl (lv_at hl' 1 rfl) ?_
  refine lv_iload_n B0.exec B0.bytes dz_fdv_5 rfl (lv_at hl' 2 rfl) ?_
  refine lv_ixor B0.exec B0.bytes dz_fdv_6 ?_
  refine lv_if_ge B0.exec B0.bytes dz_fdv_7 (tgt := 21) rfl (fun h => ?_) (fun h => ?_)
  · refine lv_iload_n B0.exec B0.bytes dz_fdv_21 rfl (lv_at hl' 0 rfl) ?_
    rw [f1 (hge.mp h)]
    exact W.iret B0.exec B0.bytes B0.returns (fun t ht _ => ⟨rfl, ht⟩) (fun q h => by cases h) dz_fdv_22 B0.notSynchronized
  · obtain ⟨f3, f4⟩ := f2 (fun z => h (hge.mpr z))
    refine lv_iload_n B0.exec B0.bytes dz_fdv_10 rfl (lv_at hl' 0 rfl) ?_
    refine lv_iload_n B0.exec B0.bytes dz_fdv_11 rfl (lv_at hl' 2 rfl) ?_
    refine lv_imul B0.exec B0.bytes dz_fdv_12 ?_
    refine lv_iload_n B0.exec B0.bytes dz_fdv_13 rfl (lv_at hl' 1 rfl) ?_
    refine lv_icmp_eq B0.exec B0.bytes dz_fdv_14 (tgt := 21) rfl (fun h => ?_) (fun h => ?_)
    · refine lv_iload_n B0.exec B0.bytes dz_fdv_21 rfl (lv_at hl' 0 rfl) ?_
      rw [f3 h]
      exact W.iret B0.exec B0.bytes B0.returns (fun t ht _ => ⟨rfl, ht⟩) (fun q h => by cases h) dz_fdv_22 B0.notSynchronized
    · refine lv_iload_n B0.exec B0.bytes dz_fdv_17 rfl (lv_at hl' 0 rfl) ?_
      refine lv_iconst B0.exec B0.bytes dz_fdv_18 (v := 1) rfl ?_
      refine lv_isub B0.exec B0.bytes dz_fdv_19 ?_
      rw [f4 h]
      exact W.iret B0.exec B0.bytes B0.returns (fun t ht _ => ⟨rfl, ht⟩) (fun q h => by cases h) dz_fdv_20 B0.notSynchronized
end JTEXT
section TEXT
variable {X : zX} {y pc : Nat} {ls st : List zV} {R m : zM}
theorem g_slen {n u : Nat} {j : Int} (C : zCx X y) (hd : decode (zmb y) pc = .ok (.invokevirtual n, 3)) (hz : zlink (zoc y) n = some (7, u)) (hq : st.length ≤ 4 ∧ 2 ≤ zmf y ∧ 40 ≤ zmo y) (k : zG X y (pc + 3) ls ((0, ((zstl.getD j.toNat []).length : Int)) :: st) R m) : zG X y pc ls ((3, j) :: st) R m := by
  obtain ⟨p, l, e, Rm, s, mi, args, below, meth, c, Q, ⟨B, b, adK, D, cy, L, xs⟩, Re, rr⟩ := X
  obtain ⟨hx, hb, hml, hown, hts, hSt, hfr, hlo, hinit, hrc, hrs⟩ := C
  intro H LS locs cells slots hJ hl hls hst hR hc hs
  show W p l e Rm s mi args below meth c H locs cells slots Q (F0 mi pc LS (.ref (adK j.toNat) :: st.map (zval B adK b)))
  obtain ⟨q, q1, q2, q3, q4, q5⟩ := zlink_ok hz
  simp only [zlw, q1, q2] at q4
  have hz0 : ∀ w ∈ lw_tbl, goodWord w = true → w.before args s = true := fun w h1 h2 => hts w (List.mem_filter.mpr ⟨h1, h2⟩)
  have hv : 0 ≤ j ∧ j < 12 := z_hd hst
  have hj : j.toNat < 12 := by omega
  obtain ⟨adV, hS⟩ := hSt.2.2.2.1.1
  obtain ⟨t1, t2, -⟩ := z_txt j.toNat hj
  have hR0 := lv_room (pc := pc) (ls := LS) (m := mi) (rest := (3, j) :: st |>.map (zval B adK b)) (z_cats B adK b st hq.1)
  refine z_callH (va_runV (As := []) (rest := st.map (zval B adK b)) (Ts := zTB) ⟨hx, hb, hml, hown, hts⟩ (c_len (B := B) (adK := adK) l hj)
    ⟨callB_of 0 hts (z_GIw zx_819) rfl rfl rfl (hts _ zx_143) (hz0 _ (q4 _ (by simp)) rfl) ⟨by decide, by decide, by decide +kernel⟩ ⟨Nat.le_trans hq.2.1 hfr, Nat.le_trans hq.2.2 hlo⟩, hts _ zx_817, hts _ zx_818⟩
    ⟨zPt_blind _ _ _, vk_recv hS hj hJ.2.2.2.1, fun U hU hW => ⟨rfl, (zSt_warm (locs := locs) hW (by rw [hU]; exact hJ.2.2.2.1) hSt).2.2.2.1⟩⟩ rfl rfl hl.1 rfl hR0 hd ⟨by omega, by omega⟩) ?_
  rw [t1, show Int32.ofNat (zstl.getD j.toNat []).length = Int32.ofInt ((zstl.getD j.toNat []).length : Int) from (Int32.ofInt_eq_ofNat).symm]
  exact k H LS locs cells slots hJ hl hls (z_push (show zi32 _ by unfold zi32; omega) (z_tl hst)) hR hc hs
theorem g_schr {n u : Nat} {i j : Int} (C : zCx X y) (hd : decode (zmb y) pc = .ok (.invokevirtual n, 3)) (hz : zlink (zoc y) n = some (8, u)) (h0 : 0 ≤ i) (h1 : i < ((zstl.getD j.toNat []).length : Int)) (hq : st.length ≤ 4 ∧ 5 ≤ zmf y ∧ 106 ≤ zmo y) (k : zG X y (pc + 3) ls ((0, (zstl.getD j.toNat []).getD i.toNat 0) :: st) R m) : zG X y pc ls ((0, i) :: (3, j) :: st) R m := by
  obtain ⟨p, l, e, Rm, s, mi, args, below, meth, c, Q, ⟨B, b, adK, D, cy, L, xs⟩, Re, rr⟩ := X
  obtain ⟨hx, hb, hml, hown, hts, hSt, hfr, hlo, hinit, hrc, hrs⟩ := C
  intro H LS locs cells slots hJ hl hls hst hR hc hs
  show W p l e Rm s mi args below meth c H locs cells slots Q (F0 mi pc LS (.int (Int32.ofInt i) :: .ref (adK j.toNat) :: st.map (zval B adK b)))
  obtain ⟨q, q1, q2, q3, q4, q5⟩ := zlink_ok hz
  simp only [zlw, q1, q2] at q4
  have hz0 : ∀ w ∈ lw_tbl, goodWord w = true → w.before args s = true := fun w h1 h2 => hts w (List.mem_filter.mpr ⟨h1, h2⟩)
  have hv : 0 ≤ j ∧ j < 12 := z_hd (z_tl hst)
  have hj : j.toNat < 12 := by omega
  obtain ⟨adV, hS⟩ := hSt.2.2.2.1.1
  obtain ⟨t1, t2, t3⟩ := z_txt j.toNat hj
  have hi : i.toNat < (zstl.getD j.toNat []).length := by omega
  obtain ⟨-, -, t4, t5⟩ := t3 i.toNat hi
  have ei : Int32.ofInt i = nI i.toNat := by
    have : i = (i.toNat : Int) := by omega
    unfold nI
    rw [← Int32.ofInt_eq_ofNat, ← this]
  rw [ei]
  have hR0 := lv_room (pc := pc) (ls := LS) (m := mi) (rest := (0, i) :: (3, j) :: st |>.map (zval B adK b)) (z_cats B adK b st hq.1)
  refine z_callH (va_runV (As := [.int (nI i.toNat)]) (rest := st.map (zval B adK b)) (Ts := zTB) ⟨hx, hb, hml, hown, hts⟩ (c_chr (B := B) (adK := adK) l hj hi)
    ⟨callB_of 1 hts (z_GIw zx_829) rfl rfl rfl (hts _ zx_143) (hz0 _ (q4 _ (by simp)) rfl) ⟨by decide, by decide, by decide +kernel⟩ ⟨Nat.le_trans (show 3 + 1 ≤ zmf y by omega) hfr, Nat.le_trans (show 8 + (2 + 11) + 64 ≤ zmo y by omega) hlo⟩, hts _ zx_827, hts _ zx_828⟩
    ⟨zPt_blind _ _ _, vk_recv hS hj hJ.2.2.2.1, fun U hU hW => ⟨rfl, (zSt_warm (locs := locs) hW (by rw [hU]; exact hJ.2.2.2.1) hSt).2.2.2.1⟩⟩ rfl rfl hl.1 rfl hR0 hd ⟨by omega, by omega⟩) ?_
  exact k H LS locs cells slots hJ hl hls (z_push (show zi32 _ by unfold zi32; omega) (z_tl (z_tl hst))) hR hc hs
theorem g_fdiv {n u : Nat} {x1 x2 : Int} (C : zCx X y) (hd : decode (zmb y) pc = .ok (.invokestatic n, 3)) (hz : zlink (zoc y) n = some (12, u)) (hlen : st.length ≤ 4) (h0 : 0 < x2) (hroom : 1 ≤ zmf y ∧ 22 ≤ zmo y) (k : zG X y (pc + 3) ls ((0, x1 / x2) :: st) R m) : zG X y pc ls ((0, x2) :: (0, x1) :: st) R m := by
  obtain ⟨p, l, e, Rm, s, mi, args, below, meth, c, Q, ⟨B, b, adK, D, cy, L, xs⟩, Re, rr⟩ := X
  obtain ⟨hx, hb, hml, hown, hts, hSt, hfr, hlo, hinit, hrc, hrs⟩ := C
  intro H LS locs cells slots hJ hl hls hst hR hc hs
  show W p l e Rm s mi args below meth c H locs cells slots Q (F0 mi pc LS (.int (Int32.ofInt x2) :: .int (Int32.ofInt x1) :: st.map (zval B adK b)))
  obtain ⟨q, q1, q2, q3, q4, q5⟩ := zlink_ok hz
  simp only [zlw, q1, q2] at q4
  have hz0 : ∀ w ∈ lw_tbl, goodWord w = true → w.before args s = true := fun w h1 h2 => hts w (List.mem_filter.mpr ⟨h1, h2⟩)
  have h2 : zi32 x2 := z_hd hst
  have h1 : zi32 x1 := z_hd (z_tl hst)
  have hR0 := lv_room (pc := pc) (ls := LS) (m := mi) (rest := (0, x2) :: (0, x1) :: st |>.map (zval B adK b)) (z_cats B adK b st hlen)
  refine z_callH (va_runS (As := [.int (Int32.ofInt x1), .int (Int32.ofInt x2)]) (rest := st.map (zval B adK b)) (Ts := zTB) ⟨hx, hb, hml, hown, hts⟩ (c_fdv l h1 h2 h0)
    ⟨callB_of 2 hts (z_GIw zx_1140) rfl rfl rfl (hts _ zx_132) (hz0 _ (q4 _ (by simp)) rfl) ⟨by decide, by decide, by decide +kernel⟩ ⟨Nat.le_trans hroom.1 hfr, Nat.le_trans hroom.2 hlo⟩, hts _ zx_1139⟩
    ⟨zPn0_blind _, fun U hU hW => ⟨rfl, trivial⟩⟩ rfl rfl hl.1 rfl hR0 hd ⟨by omega, by omega⟩) ?_
  exact k H LS locs cells slots hJ hl hls (z_push (z_q32 h1 h0) (z_tl (z_tl hst))) hR hc hs
end TEXT
