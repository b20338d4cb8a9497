/-! the law begins: the class made, the town -/
/-- what stays as it is of the references, and of the town -/
def LSr (R : zM) (w h : Int) (KK : Nat → Int → Int) (n : Nat) : Prop := RK R ∧ (0 ≤ R 0 2 ∧ R 0 2 ≤ 260) ∧ IR R 100 64 ∧ 99 ≤ R 0 0 ∧ (1 ≤ w ∧ w ≤ 4) ∧ (1 ≤ h ∧ h ≤ 4) ∧ n ≤ 6 ∧ KOk w h KK n
def LSm (m : zM) (w N : Int) (KK : Nat → Int → Int) (n : Nat) : Prop := (m 3 0 = w ∧ m 3 2 = N) ∧ m 9 0 = n ∧ (∀ j : Nat, j < n → ∀ q : Int, 0 ≤ q → q < 7 → m 10 (7 * (j : Int) + q) = rK (KK j) q) ∧ LRw m KK n ∧ m 63 0 = 0 ∧ m 2 3 = 0
theorem LSr_E {R R' : zM} {w h : Int} {KK : Nat → Int → Int} {n : Nat} (E : RE R R') (hL : LSr R w h KK n) (h100 : 100 ≤ R 0 0) : LSr R' w h KK n := by
  obtain ⟨a, b, c, d, e⟩ := hL
  exact ⟨RE_K E d a, by rw [E.2.1 2 (by decide)]; exact b, IR_E E h100 c, Int.le_trans d E.1, e⟩
section START
variable {R m : zM} {x : Int}
theorem l_start (h0 : R 0 0 = 0) (h1 : R 0 1 = 0) (hR0 : 0 ≤ R 0 2 ∧ R 0 2 ≤ 260) (hm : ∀ b, m b = fun _ => 0) (hz : ∀ a k, a ≠ 0 → R a k = 0) : ∃ (R' m' : zM) (KK : Nat → Int → Int) (n : Nat) (w h N : Int), ev 0 0 [(4, x), (9, 0), (9, 0), (9, 0), (9, 0), (9, 0), (9, 0), (9, 0), (9, 0), (9, 0), (9, 0), (9, 0), (9, 0), (9, 0), (9, 0), (9, 0), (9, 0), (9, 0), (9, 0), (9, 0), (9, 0), (9, 0), (9, 0), (9, 0), (9, 0)] [] R m = ev 0 59 [(4, x), (2, 1), (2, 100), (0, (n : Int)), (0, N), (0, w), (0, 0), (9, 0), (9, 0), (9, 0), (9, 0), (9, 0), (9, 0), (9, 0), (9, 0), (9, 0), (9, 0), (9, 0), (9, 0), (9, 0), (9, 0), (9, 0), (9, 0), (9, 0), (9, 0)] [] R' m' ∧ LSr R' w h KK n ∧ LSm m' w N KK n ∧ w * h = N ∧ w = 1 + lP (lC R' 0) 4 ∧ SV m' 40 ∧ (∀ q, 0 ≤ q → q < 64 → m' 6 q = 0) ∧ (0 ≤ m' 58 0 ∧ m' 58 0 ≤ 40) ∧ m' 87 0 = 0 ∧ m' 91 0 = 0 ∧ (102 ≤ R' 0 0 ∧ R' 0 0 ≤ 130) ∧ (0 ≤ R' 0 1 ∧ R' 0 1 ≤ 20000) ∧ ∀ k, 2 ≤ k → R' 0 k = R 0 k := by
  obtain ⟨R1, hR1⟩ : ∃ R1, znR R 10 = R1 := ⟨_, rfl⟩
  have hz1 : znl R = 1 := by unfold znl; rw [h0]; rfl
  have n1 : R1 0 0 = 1 := by rw [← hR1, znR_0, h0]; rfl
  have s1 : R1 0 1 = 10 := by rw [← hR1, znR_1, h1]; rfl
  have q1 : ∀ k, 2 ≤ k → R1 0 k = R 0 k := fun k hk => by rw [← hR1, znR_q hk (by omega)]
  have m1 : zrow m 1 0 = m := by
    funext b k
    unfold zrow
    split
    · rename_i e; rw [hm b]
    · rfl
  obtain ⟨R2, m2, C, ⟨n2, s2, q2, o2⟩, hK2, hz62, ⟨hBN, h33, -, -⟩, hm2, -⟩ := ci178 (R := R1) (m := m) n1 hm
  have hRK2 : RK R2 := hK2
  -- three rows
  obtain ⟨R3, hR3⟩ : ∃ R3, znX R2 20 64 = R3 := ⟨_, rfl⟩
  obtain ⟨R4, hR4⟩ : ∃ R4, znX R3 20 16 = R4 := ⟨_, rfl⟩
  obtain ⟨R5, hR5⟩ : ∃ R5, znX R4 20 16 = R5 := ⟨_, rfl⟩
  have n3 : R3 0 0 = 100 := by rw [← hR3, znX_0, n2]; rfl
  have n4 : R4 0 0 = 101 := by rw [← hR4, znX_0, n3]; rfl
  have n5 : R5 0 0 = 102 := by rw [← hR5, znX_0, n4]; rfl
  have s5 : R5 0 1 = 11247 := by rw [← hR5, znX_1, ← hR4, znX_1, ← hR3, znX_1, s2, s1]; rfl
  have g2 : 99 ≤ R2 0 0 := by omega
  have g3 : 99 ≤ R3 0 0 := by omega
  have g4 : 99 ≤ R4 0 0 := by omega
  have E3 : RE R2 R3 := by rw [← hR3]; exact zX_E g2 20 64
  have E4 : RE R3 R4 := by rw [← hR4]; exact zX_E g3 20 16
  have E5 : RE R4 R5 := by rw [← hR5]; exact zX_E g4 20 16
  have l100 : (100 : Int) ≤ R3 0 0 := by omega
  have l100' : (100 : Int) ≤ R4 0 0 := by omega
  have l101 : (101 : Int) ≤ R4 0 0 := by omega
  have I100 : IR R3 100 64 := ⟨by have a := zX_k g2 20 64; rw [n2] at a; rw [← hR3]; exact a, by have a := zX_l g2 20 64; rw [n2] at a; rw [← hR3]; exact a⟩
  have I101 : IR R4 101 16 := ⟨by have a := zX_k g3 20 16; rw [n3] at a; rw [← hR4]; exact a, by have a := zX_l g3 20 16; rw [n3] at a; rw [← hR4]; exact a⟩
  have I102 : IR R5 102 16 := ⟨by have a := zX_k g4 20 16; rw [n4] at a; rw [← hR5]; exact a, by have a := zX_l g4 20 16; rw [n4] at a; rw [← hR5]; exact a⟩
  have hLR : LR R5 := ⟨IR_E E5 l100' (IR_E E4 l100 I100), IR_E E5 l101 I101, I102⟩
  have EE : RE R2 R5 := RE_tr (RE_tr E3 E4) E5
  have hRK5 : RK R5 := RE_K EE g2 hRK2
  obtain ⟨m3, hm3⟩ : ∃ m3, zrow m2 100 0 = m3 := ⟨_, rfl⟩
  obtain ⟨m4, hm4⟩ : ∃ m4, zrow m3 101 0 = m4 := ⟨_, rfl⟩
  obtain ⟨m5, hm5⟩ : ∃ m5, zrow m4 102 0 = m5 := ⟨_, rfl⟩
  have o5 : ∀ b, b ≤ 99 → m5 b = m2 b := fun b hb => by rw [← hm5, zrow_ne (by omega), ← hm4, zrow_ne (by omega), ← hm3, zrow_ne (by omega)]
  have hBN5 : BN m5 3 4 4 := BN_c (fun b b0 b1 => o5 b (by omega)) hBN
  have q5 : ∀ k, 2 ≤ k → R5 0 k = R 0 k := fun k hk => by rw [EE.2.1 k hk, q2 k (by omega) (by omega), q1 k hk]
  have h62 : ∀ k, R5 62 k = 0 := fun k => by
    rw [← hR5, zX_r g4 (by decide) (by omega), ← hR4, zX_r g3 (by decide) (by omega), ← hR3, zX_r g2 (by decide) (by omega)]
    exact hz62 k
  have hR05 : 0 ≤ R5 0 2 ∧ R5 0 2 ≤ 260 := by rw [q5 2 (by decide)]; exact hR0
  obtain ⟨R', m', KK, n, T, hn, E', nn, ss, S, ⟨d1, d2⟩, l1, r1, L1, K1, z6, a58, t63, p87, o91, y23⟩ := l_town (R := R5) (m := m5) (x := x) hRK5 n5 hR05 hLR h62 ⟨hBN5.2.1, hBN5.1⟩ (by rw [o5 3 (by decide)]; exact h33) (by rw [o5 63 (by decide), hm2 63 (by omega) (by omega) (by decide) (by decide) (by decide)]) rfl rfl
  obtain ⟨w, hw⟩ : ∃ w, 1 + lP (lC R5 0) 4 = w := ⟨_, rfl⟩
  obtain ⟨h, hh⟩ : ∃ h, 1 + lP (lC R5 1) 4 = h := ⟨_, rfl⟩
  have bw := lP_bd (lC R5 0) (n := 4) (by decide)
  have bh := lP_bd (lC R5 1) (n := 4) (by decide)
  rw [hw, hh] at d2 K1
  rw [hw] at d1
  obtain ⟨N, hN⟩ : ∃ N, w * h = N := ⟨_, rfl⟩
  rw [hN] at d2
  have lC0 : lC R' 0 = lC R5 0 := lC_E E' 0
  have hRK' := RE_K E' (by omega) hRK5
  have hz2 : znl R2 = 100 := by unfold znl; rw [n2]; rfl
  have hz3 : znl R3 = 101 := by unfold znl; rw [n3]; rfl
  have hz4 : znl R4 = 102 := by unfold znl; rw [n4]; rfl
  have kd1 : KD 1 = 12 := kGK0
  have kd100 : KD 100 = 0 := KD_big (by decide)
  have kd101 : KD 101 = 0 := KD_big (by decide)
  have kd102 : KD 102 = 0 := KD_big (by decide)
  have r0 : 0 ≤ R 0 0 := by omega
  have r2 : 0 ≤ R2 0 0 := by omega
  have r3 : 0 ≤ R3 0 0 := by omega
  have r4 : 0 ≤ R4 0 0 := by omega
  have n0 : 0 ≤ (n : Int) := Int.natCast_nonneg n
  have hR0' : 0 ≤ R' 0 2 ∧ R' 0 2 ≤ 260 := by rw [E'.2.1 2 (by decide)]; exact hR05
  have C0 := l_cell (R := R') (m := m') (k := 0) x (by omega) hR0'
  have P0 := l_part (lC R' 0) (n := 4) (by decide) (by decide) R' m'
  have zw1 : zw (1 + lP (lC R' 0) 4) = w := by rw [lC0, hw]; exact zw_i (by omega) (by omega)
  have CN := k_count0 (R := R') (m := m') hRK'
  rw [d2] at CN
  refine ⟨R', m', KK, n, w, h, N, ?_, ⟨hRK', hR0', IR_E E' (by omega) hLR.1, by omega, by omega, by omega, hn, K1⟩, ⟨⟨d1, d2⟩, l1, r1, L1, t63, y23⟩, hN, by rw [lC0, hw], S, z6, a58, p87, o91, nn, by omega, fun k hk => by rw [E'.2.1 k hk, q5 k hk]⟩
  simp only [s0_0, s0_3, s0_4, s0_7, s0_8, s0_10, s0_12, s0_13, s0_14, s0_15, s0_16, s0_18, s0_20, s0_22, s0_24, s0_25, s0_26, s0_29, s0_30, s0_31, s0_34, s0_35, s0_36, s0_37, s0_38, s0_41, s0_43, s0_44, s0_45, s0_46, s0_49, s0_50, s0_53, s0_54, s0_56, s0_57, s0_61, s0_62, s0_65, s0_66, s0_67, s0_69, s0_71, s0_72, s0_75, s0_77, s0_80, s0_81, s0_82, s0_84, s0_86, s0_87, s0_90, s0_91, s0_94, s0_95, s0_98, s0_99, s0_102, s0_105, s0_106, s0_108, s0_110, s0_112, s0_114, s0_116, s0_118, s0_120, s0_122, s0_124, s0_126, s0_127, s0_131, s0_132, s0_135, s0_136, s0_138, s0_140, s0_141, s0_144, s0_146, s0_148, s0_150, s0_153, s0_155, s0_156, s0_158, s0_159, s0_162, s0_165, s0_166, s0_168, s0_169, s0_172, s0_175, s0_176, s0_179, s0_180, s0_182, s0_184, s0_186, s0_188, s0_189, s0_191, s0_193, s0_195, s0_196, s0_197, s0_198, s0_201, s0_202, s0_204, s0_206, s0_207, s0_209, s0_211, s0_212, s0_214, s0_217, s0_218, s0_219, s0_220, s0_222, s0_224, s0_226, s0_227, s0_229, s0_231, s0_232, s0_235, s0_237, s0_240, s0_242, s0_245, s0_246, s0_249, s0_250, s0_251, s0_253, s0_255, s0_258, s0_259, s0_262, s0_263, s0_264, s0_266, s0_269, s0_272, s0_273, s0_275, s0_278, s0_280, s0_283, s0_285, s0_286, s0_288, s0_289, s0_291, s0_292, s0_294, s0_295, s0_299, s0_300, s0_302, s0_303, s0_306, s0_308, s0_310, s0_312, s0_314, s0_316, s0_318, s0_319, s0_323, s0_325, s0_328, s0_330, s0_332, s0_333, s0_335, s0_336, s0_339, s0_340, s0_342, s0_344, s0_345, s0_347, s0_348, s0_351, s0_352, s0_355, s0_358, s0_359, s0_361, s0_362, s0_364, s0_365, s0_367, s0_368, s0_372, s0_374, s0_377, s0_379, s0_381, s0_382, s0_383, s0_384, s0_387, s0_390, s0_392, s0_395, s0_397, s0_399, s0_401, s0_402, s0_403, s0_404, s0_405, s0_408, s0_409, s0_412, s0_413, s0_415, s0_417, s0_418, s0_420, s0_422, s0_423, s0_424, s0_425, s0_427, s0_429, s0_431, s0_433, s0_434, s0_435, s0_437, s0_439, s0_441, s0_443, s0_444, s0_446, s0_448, s0_449, s0_450, s0_452, s0_454, s0_456, s0_457, s0_459, s0_461, s0_462, s0_465, s0_466, s0_469, s0_470, s0_471, s0_474, s0_477, s0_479, s0_482, s0_484, s0_486, s0_489, s0_492, s0_493, s0_495, s0_496, s0_500, s0_502, s0_505, s0_507, s0_509, s0_510, s0_513, s0_516, s0_519, s0_520, s0_524, s0_525, s0_528, s0_529, s0_531, s0_533, s0_534, s0_535, s0_536, s0_539, s0_540, s0_542, s0_544, s0_545, s0_546, s0_547, s0_548, s0_550, s0_552, s0_553, s0_556, s0_557, s0_559, s0_561, s0_562, s0_563, s0_564, s0_565, s0_568, s0_571, s0_572, s0_576, s0_578, s0_581, s0_582, s0_584, s0_586, s0_587, s0_588, s0_589, s0_590, s0_591, s0_594, s0_596, s0_598, s0_599, s0_600, s0_602, s0_604, s0_605, s0_606, s0_607, s0_608, s0_611, s0_612, s0_615, s0_616, s0_619, s0_621, s0_623, s0_624, s0_625, s0_627, s0_629, s0_630, s0_631, s0_632, s0_633, s0_634, s0_635, s0_638, s0_639, s0_642, s0_643, s0_645, s0_647, s0_649, s0_652, s0_654, s0_656, s0_659, s0_661, s0_663, s0_665, s0_668, s0_669, s0_671, s0_673, s0_674, s0_675, s0_676, s0_677, s0_680, s0_681, s0_683, s0_685, s0_686, s0_687, s0_688, s0_689, s0_692, s0_693, s0_694, s0_696, s0_699, s0_702, s0_705, s0_708, s0_711, s0_714, s0_716, s0_719, s0_720, s0_722, s0_723, s0_726, s0_728, s0_731, s0_732, s0_733, s0_735, s0_738, s0_740, s0_742, s0_745, s0_747, s0_749, s0_752, s0_754, s0_756, s0_759, s0_761, s0_763, s0_765, s0_767, s0_769, s0_771, s0_774, s0_777, s0_778, s0_780, s0_781, s0_784, s0_786, s0_789, s0_790, s0_792, s0_793, s0_796, s0_798, s0_801, s0_802, s0_804, s0_805, s0_808, s0_810, s0_813, s0_814, s0_815, s0_817, s0_820, s0_821, s0_823, s0_826, s0_828, s0_831, s0_833, s0_834, s0_836, s0_839, s0_840, s0_843, s0_844, s0_846, s0_849, s0_851, s0_853, s0_854, s0_857, s0_859, s0_862, s0_864, s0_867, s0_869, s0_871, s0_872, s0_875, s0_876, s0_878, s0_880, s0_881, s0_882, s0_885, s0_886, s0_889, s0_892, s0_893, s0_895, s0_897, s0_898, s0_899, s0_902, s0_904, s0_906, s0_907, s0_910, s0_911, s0_912, s0_913, s0_917, s0_918, s0_921, s0_922, s0_925, s0_928, s0_929, s0_930, s0_933, s0_936, s0_938, s0_940, s0_942, s0_943, s0_947, s0_949, s0_952, s0_953, s0_955, s0_957, s0_958, s0_961, s0_963, s0_965, s0_966, s0_969, s0_971, s0_973, s0_974, s0_975, s0_977, s0_980, s0_982, s0_984, s0_986, s0_987, s0_988, s0_991, s0_993, s0_994, s0_996, s0_998, s0_1000, s0_1003, s0_1005, s0_1008, s0_1009, s0_1010, s0_1012, s0_1014, s0_1016, s0_1017, s0_1019, s0_1020, s0_1021, s0_1023, s0_1024, s0_1025, s0_1027, s0_1028, s0_1031, s0_1032, s0_1033, s0_1035, s0_1037, s0_1040, s0_1042, s0_1045, s0_1046, s0_1049, s0_1052, s0_1053, s0_1054, s0_1055, s0_1057, s0_1058, s0_1061, s0_1062, s0_1065, s0_1066, s0_1068, s0_1070, s0_1073, s0_1075, s0_1078, s0_1079, s0_1080, s0_1082, s0_1084, s0_1087, s0_1088, s0_1090, s0_1092, s0_1095, s0_1098, s0_1099, s0_1100, s0_1103, s0_1106, s0_1107, s0_1111, s0_1112, s0_1115, s0_1116, s0_1120, s0_1122, s0_1125, s0_1126, s0_1128, s0_1130, s0_1132, s0_1135, s0_1137, s0_1139, s0_1141, s0_1142, s0_1144, s0_1145, s0_1146, s0_1149, s0_1151, s0_1153, s0_1155, s0_1156, s0_1158, s0_1159, s0_1160, s0_1161, s0_1162, s0_1165, s0_1166, s0_1168, s0_1170, s0_1173, s0_1176, s0_1177, s0_1179, s0_1180, s0_1181, s0_1183, s0_1185, s0_1188, s0_1190, s0_1193, s0_1194, s0_1197, s0_1199, s0_1202, s0_1203, s0_1204, s0_1207, s0_1210, s0_1213, s0_1216, s0_1217, s0_1218, s0_1221, s0_1223, s0_1224, s0_1226, s0_1229, s0_1231, s0_1233, s0_1235, s0_1237, s0_1239, s0_1241, s0_1243, s0_1245, s0_1246, s0_1248, s0_1249, s0_1250, s0_1252, s0_1255, s0_1257, s0_1259, s0_1260, s0_1261, s0_1265, s0_1267, s0_1268, s0_1270, s0_1273, s0_1275, s0_1277, s0_1278, s0_1280, s0_1283, s0_1285, s0_1287, s0_1288, s0_1290, s0_1293, s0_1295, s0_1297, s0_1298, s0_1300, s0_1303, s0_1305, s0_1307, s0_1308, s0_1310, s0_1313, s0_1315, s0_1317, s0_1318, s0_1319, s0_1322, s0_1325, s0_1328, s0_1331, s0_1333, s0_1335, s0_1336, s0_1337, s0_1339, s0_1340, s0_1341, s0_1343, s0_1345, s0_1346, s0_1348, s0_1350, s0_1351, s0_1353, s0_1355, s0_1356, s0_1357, s0_1359, s0_1361, s0_1364, s0_1365, s0_1367, s0_1369, s0_1372, s0_1374, s0_1376, s0_1377, s0_1380, s0_1381, s0_1384, s0_1385, s0_1388, s0_1389, s0_1390, s0_1393, s0_1395, s0_1398, s0_1399, s0_1401, s0_1404, s0_1406, s0_1409, s0_1410, s0_1411, s0_1413, s0_1415, s0_1416, s0_1417, s0_1419, s0_1420, s0_1421, s0_1423, s0_1425, s0_1426, s0_1427, s0_1429, s0_1431, s0_1434, s0_1435, s0_1437, s0_1439, s0_1442, s0_1444, s0_1446, s0_1447, s0_1450, s0_1451, s0_1454, s0_1455, s0_1458, s0_1459, s0_1460, s0_1461, s0_1463, s0_1465, s0_1466, s0_1467, s0_1469, s0_1471, s0_1474, s0_1475, s0_1477, s0_1479, s0_1482, s0_1484, s0_1486, s0_1487, s0_1490, s0_1491, s0_1494, s0_1495, s0_1498, s0_1499, s0_1500, s0_1501, s0_1503, s0_1506, s0_1509, s0_1510, s0_1511, s0_1514, s0_1516, s0_1519, s0_1520, s0_1523, s0_1524, zps_0, zps_1, zps_2, zps_3, zps_9, Option.bind_some, Option.bind_none, Int.reduceEq, Int.reduceNe, Int.reduceLT, Int.reduceLE, Int.reduceNeg, Int.reduceAdd, Int.reduceSub, Int.reduceMul, reduceIte, if_true, if_false, true_and, and_true, false_and, and_false, or_true, true_or, or_false, false_or, not_true_eq_false, not_false_eq_true, ite_not, z_b0, z_b1, z_b01, kd1, hz1, r0, hR1, m1, xk1, C, hz2, kd100, r2, hR3, hm3, hz3, kd101, r3, hR4, hm4, hz4, kd102, r4, hR5, hm5, T, n0, CN, C0, P0, zw1, and_self, if_true, if_false]
end START
