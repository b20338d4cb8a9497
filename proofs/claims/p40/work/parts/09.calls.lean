/-! calls: each method's own word is among the tables' words -/
theorem z_t1_2 : ∀ k, 1 ≤ k → k < 2 → zcw k ∈ lw_tbl := fun k h1 h2 => (show k = 1 by omega) ▸ z_c1
theorem z_t2_3 : ∀ k, 2 ≤ k → k < 3 → zcw k ∈ lw_tbl := fun k h1 h2 => (show k = 2 by omega) ▸ z_c2
theorem z_t3_4 : ∀ k, 3 ≤ k → k < 4 → zcw k ∈ lw_tbl := fun k h1 h2 => (show k = 3 by omega) ▸ z_c3
theorem z_t4_5 : ∀ k, 4 ≤ k → k < 5 → zcw k ∈ lw_tbl := fun k h1 h2 => (show k = 4 by omega) ▸ z_c4
theorem z_t5_6 : ∀ k, 5 ≤ k → k < 6 → zcw k ∈ lw_tbl := fun k h1 h2 => (show k = 5 by omega) ▸ z_c5
theorem z_t6_7 : ∀ k, 6 ≤ k → k < 7 → zcw k ∈ lw_tbl := fun k h1 h2 => (show k = 6 by omega) ▸ z_c6
theorem z_t7_8 : ∀ k, 7 ≤ k → k < 8 → zcw k ∈ lw_tbl := fun k h1 h2 => (show k = 7 by omega) ▸ z_c7
theorem z_t8_9 : ∀ k, 8 ≤ k → k < 9 → zcw k ∈ lw_tbl := fun k h1 h2 => (show k = 8 by omega) ▸ z_c8
theorem z_t9_10 : ∀ k, 9 ≤ k → k < 10 → zcw k ∈ lw_tbl := fun k h1 h2 => (show k = 9 by omega) ▸ z_c9
theorem z_t10_11 : ∀ k, 10 ≤ k → k < 11 → zcw k ∈ lw_tbl := fun k h1 h2 => (show k = 10 by omega) ▸ z_c10
theorem z_t11_12 : ∀ k, 11 ≤ k → k < 12 → zcw k ∈ lw_tbl := fun k h1 h2 => (show k = 11 by omega) ▸ z_c11
theorem z_t12_13 : ∀ k, 12 ≤ k → k < 13 → zcw k ∈ lw_tbl := fun k h1 h2 => (show k = 12 by omega) ▸ z_c12
theorem z_t13_14 : ∀ k, 13 ≤ k → k < 14 → zcw k ∈ lw_tbl := fun k h1 h2 => (show k = 13 by omega) ▸ z_c13
theorem z_t14_15 : ∀ k, 14 ≤ k → k < 15 → zcw k ∈ lw_tbl := fun k h1 h2 => (show k = 14 by omega) ▸ z_c14
theorem z_t15_16 : ∀ k, 15 ≤ k → k < 16 → zcw k ∈ lw_tbl := fun k h1 h2 => (show k = 15 by omega) ▸ z_c15
theorem z_t16_17 : ∀ k, 16 ≤ k → k < 17 → zcw k ∈ lw_tbl := fun k h1 h2 => (show k = 16 by omega) ▸ z_c16
theorem z_t17_18 : ∀ k, 17 ≤ k → k < 18 → zcw k ∈ lw_tbl := fun k h1 h2 => (show k = 17 by omega) ▸ z_c17
theorem z_t18_19 : ∀ k, 18 ≤ k → k < 19 → zcw k ∈ lw_tbl := fun k h1 h2 => (show k = 18 by omega) ▸ z_c18
theorem z_t19_20 : ∀ k, 19 ≤ k → k < 20 → zcw k ∈ lw_tbl := fun k h1 h2 => (show k = 19 by omega) ▸ z_c19
theorem z_t20_21 : ∀ k, 20 ≤ k → k < 21 → zcw k ∈ lw_tbl := fun k h1 h2 => (show k = 20 by omega) ▸ z_c20
theorem z_t21_22 : ∀ k, 21 ≤ k → k < 22 → zcw k ∈ lw_tbl := fun k h1 h2 => (show k = 21 by omega) ▸ z_c21
theorem z_t22_23 : ∀ k, 22 ≤ k → k < 23 → zcw k ∈ lw_tbl := fun k h1 h2 => (show k = 22 by omega) ▸ z_c22
theorem z_t23_24 : ∀ k, 23 ≤ k → k < 24 → zcw k ∈ lw_tbl := fun k h1 h2 => (show k = 23 by omega) ▸ z_c23
theorem z_t24_25 : ∀ k, 24 ≤ k → k < 25 → zcw k ∈ lw_tbl := fun k h1 h2 => (show k = 24 by omega) ▸ z_c24
theorem z_t25_26 : ∀ k, 25 ≤ k → k < 26 → zcw k ∈ lw_tbl := fun k h1 h2 => (show k = 25 by omega) ▸ z_c25
theorem z_t26_27 : ∀ k, 26 ≤ k → k < 27 → zcw k ∈ lw_tbl := fun k h1 h2 => (show k = 26 by omega) ▸ z_c26
theorem z_t27_28 : ∀ k, 27 ≤ k → k < 28 → zcw k ∈ lw_tbl := fun k h1 h2 => (show k = 27 by omega) ▸ z_c27
theorem z_t28_29 : ∀ k, 28 ≤ k → k < 29 → zcw k ∈ lw_tbl := fun k h1 h2 => (show k = 28 by omega) ▸ z_c28
theorem z_t29_30 : ∀ k, 29 ≤ k → k < 30 → zcw k ∈ lw_tbl := fun k h1 h2 => (show k = 29 by omega) ▸ z_c29
theorem z_t30_31 : ∀ k, 30 ≤ k → k < 31 → zcw k ∈ lw_tbl := fun k h1 h2 => (show k = 30 by omega) ▸ z_c30
theorem z_t31_32 : ∀ k, 31 ≤ k → k < 32 → zcw k ∈ lw_tbl := fun k h1 h2 => (show k = 31 by omega) ▸ z_c31
theorem z_t32_33 : ∀ k, 32 ≤ k → k < 33 → zcw k ∈ lw_tbl := fun k h1 h2 => (show k = 32 by omega) ▸ z_c32
theorem z_t33_34 : ∀ k, 33 ≤ k → k < 34 → zcw k ∈ lw_tbl := fun k h1 h2 => (show k = 33 by omega) ▸ z_c33
theorem z_t34_35 : ∀ k, 34 ≤ k → k < 35 → zcw k ∈ lw_tbl := fun k h1 h2 => (show k = 34 by omega) ▸ z_c34
theorem z_t35_36 : ∀ k, 35 ≤ k → k < 36 → zcw k ∈ lw_tbl := fun k h1 h2 => (show k = 35 by omega) ▸ z_c35
theorem z_t36_37 : ∀ k, 36 ≤ k → k < 37 → zcw k ∈ lw_tbl := fun k h1 h2 => (show k = 36 by omega) ▸ z_c36
theorem z_t37_38 : ∀ k, 37 ≤ k → k < 38 → zcw k ∈ lw_tbl := fun k h1 h2 => (show k = 37 by omega) ▸ z_c37
theorem z_t38_39 : ∀ k, 38 ≤ k → k < 39 → zcw k ∈ lw_tbl := fun k h1 h2 => (show k = 38 by omega) ▸ z_c38
theorem z_t39_40 : ∀ k, 39 ≤ k → k < 40 → zcw k ∈ lw_tbl := fun k h1 h2 => (show k = 39 by omega) ▸ z_c39
theorem z_t40_41 : ∀ k, 40 ≤ k → k < 41 → zcw k ∈ lw_tbl := fun k h1 h2 => (show k = 40 by omega) ▸ z_c40
theorem z_t41_42 : ∀ k, 41 ≤ k → k < 42 → zcw k ∈ lw_tbl := fun k h1 h2 => (show k = 41 by omega) ▸ z_c41
theorem z_t42_43 : ∀ k, 42 ≤ k → k < 43 → zcw k ∈ lw_tbl := fun k h1 h2 => (show k = 42 by omega) ▸ z_c42
theorem z_t43_44 : ∀ k, 43 ≤ k → k < 44 → zcw k ∈ lw_tbl := fun k h1 h2 => (show k = 43 by omega) ▸ z_c43
theorem z_t44_45 : ∀ k, 44 ≤ k → k < 45 → zcw k ∈ lw_tbl := fun k h1 h2 => (show k = 44 by omega) ▸ z_c44
theorem z_t45_46 : ∀ k, 45 ≤ k → k < 46 → zcw k ∈ lw_tbl := fun k h1 h2 => (show k = 45 by omega) ▸ z_c45
theorem z_t46_47 : ∀ k, 46 ≤ k → k < 47 → zcw k ∈ lw_tbl := fun k h1 h2 => (show k = 46 by omega) ▸ z_c46
theorem z_t47_48 : ∀ k, 47 ≤ k → k < 48 → zcw k ∈ lw_tbl := fun k h1 h2 => (show k = 47 by omega) ▸ z_c47
theorem z_t48_49 : ∀ k, 48 ≤ k → k < 49 → zcw k ∈ lw_tbl := fun k h1 h2 => (show k = 48 by omega) ▸ z_c48
theorem z_t49_50 : ∀ k, 49 ≤ k → k < 50 → zcw k ∈ lw_tbl := fun k h1 h2 => (show k = 49 by omega) ▸ z_c49
theorem z_t50_51 : ∀ k, 50 ≤ k → k < 51 → zcw k ∈ lw_tbl := fun k h1 h2 => (show k = 50 by omega) ▸ z_c50
theorem z_t51_52 : ∀ k, 51 ≤ k → k < 52 → zcw k ∈ lw_tbl := fun k h1 h2 => (show k = 51 by omega) ▸ z_c51
theorem z_t52_53 : ∀ k, 52 ≤ k → k < 53 → zcw k ∈ lw_tbl := fun k h1 h2 => (show k = 52 by omega) ▸ z_c52
theorem z_t53_54 : ∀ k, 53 ≤ k → k < 54 → zcw k ∈ lw_tbl := fun k h1 h2 => (show k = 53 by omega) ▸ z_c53
theorem z_t54_55 : ∀ k, 54 ≤ k → k < 55 → zcw k ∈ lw_tbl := fun k h1 h2 => (show k = 54 by omega) ▸ z_c54
theorem z_t55_56 : ∀ k, 55 ≤ k → k < 56 → zcw k ∈ lw_tbl := fun k h1 h2 => (show k = 55 by omega) ▸ z_c55
theorem z_t56_57 : ∀ k, 56 ≤ k → k < 57 → zcw k ∈ lw_tbl := fun k h1 h2 => (show k = 56 by omega) ▸ z_c56
theorem z_t57_58 : ∀ k, 57 ≤ k → k < 58 → zcw k ∈ lw_tbl := fun k h1 h2 => (show k = 57 by omega) ▸ z_c57
theorem z_t58_59 : ∀ k, 58 ≤ k → k < 59 → zcw k ∈ lw_tbl := fun k h1 h2 => (show k = 58 by omega) ▸ z_c58
theorem z_t59_60 : ∀ k, 59 ≤ k → k < 60 → zcw k ∈ lw_tbl := fun k h1 h2 => (show k = 59 by omega) ▸ z_c59
theorem z_t60_61 : ∀ k, 60 ≤ k → k < 61 → zcw k ∈ lw_tbl := fun k h1 h2 => (show k = 60 by omega) ▸ z_c60
theorem z_t61_62 : ∀ k, 61 ≤ k → k < 62 → zcw k ∈ lw_tbl := fun k h1 h2 => (show k = 61 by omega) ▸ z_c61
theorem z_t62_63 : ∀ k, 62 ≤ k → k < 63 → zcw k ∈ lw_tbl := fun k h1 h2 => (show k = 62 by omega) ▸ z_c62
theorem z_t63_64 : ∀ k, 63 ≤ k → k < 64 → zcw k ∈ lw_tbl := fun k h1 h2 => (show k = 63 by omega) ▸ z_c63
theorem z_t64_65 : ∀ k, 64 ≤ k → k < 65 → zcw k ∈ lw_tbl := fun k h1 h2 => (show k = 64 by omega) ▸ z_c64
theorem z_t65_66 : ∀ k, 65 ≤ k → k < 66 → zcw k ∈ lw_tbl := fun k h1 h2 => (show k = 65 by omega) ▸ z_c65
theorem z_t66_67 : ∀ k, 66 ≤ k → k < 67 → zcw k ∈ lw_tbl := fun k h1 h2 => (show k = 66 by omega) ▸ z_c66
theorem z_t67_68 : ∀ k, 67 ≤ k → k < 68 → zcw k ∈ lw_tbl := fun k h1 h2 => (show k = 67 by omega) ▸ z_c67
theorem z_t68_69 : ∀ k, 68 ≤ k → k < 69 → zcw k ∈ lw_tbl := fun k h1 h2 => (show k = 68 by omega) ▸ z_c68
theorem z_t69_70 : ∀ k, 69 ≤ k → k < 70 → zcw k ∈ lw_tbl := fun k h1 h2 => (show k = 69 by omega) ▸ z_c69
theorem z_t70_71 : ∀ k, 70 ≤ k → k < 71 → zcw k ∈ lw_tbl := fun k h1 h2 => (show k = 70 by omega) ▸ z_c70
theorem z_t71_72 : ∀ k, 71 ≤ k → k < 72 → zcw k ∈ lw_tbl := fun k h1 h2 => (show k = 71 by omega) ▸ z_c71
theorem z_t72_73 : ∀ k, 72 ≤ k → k < 73 → zcw k ∈ lw_tbl := fun k h1 h2 => (show k = 72 by omega) ▸ z_c72
theorem z_t73_74 : ∀ k, 73 ≤ k → k < 74 → zcw k ∈ lw_tbl := fun k h1 h2 => (show k = 73 by omega) ▸ z_c73
theorem z_t74_75 : ∀ k, 74 ≤ k → k < 75 → zcw k ∈ lw_tbl := fun k h1 h2 => (show k = 74 by omega) ▸ z_c74
theorem z_t75_76 : ∀ k, 75 ≤ k → k < 76 → zcw k ∈ lw_tbl := fun k h1 h2 => (show k = 75 by omega) ▸ z_c75
theorem z_t76_77 : ∀ k, 76 ≤ k → k < 77 → zcw k ∈ lw_tbl := fun k h1 h2 => (show k = 76 by omega) ▸ z_c76
theorem z_t77_78 : ∀ k, 77 ≤ k → k < 78 → zcw k ∈ lw_tbl := fun k h1 h2 => (show k = 77 by omega) ▸ z_c77
theorem z_t78_79 : ∀ k, 78 ≤ k → k < 79 → zcw k ∈ lw_tbl := fun k h1 h2 => (show k = 78 by omega) ▸ z_c78
theorem z_t79_80 : ∀ k, 79 ≤ k → k < 80 → zcw k ∈ lw_tbl := fun k h1 h2 => (show k = 79 by omega) ▸ z_c79
theorem z_t80_81 : ∀ k, 80 ≤ k → k < 81 → zcw k ∈ lw_tbl := fun k h1 h2 => (show k = 80 by omega) ▸ z_c80
theorem z_t81_82 : ∀ k, 81 ≤ k → k < 82 → zcw k ∈ lw_tbl := fun k h1 h2 => (show k = 81 by omega) ▸ z_c81
theorem z_t82_83 : ∀ k, 82 ≤ k → k < 83 → zcw k ∈ lw_tbl := fun k h1 h2 => (show k = 82 by omega) ▸ z_c82
theorem z_t83_84 : ∀ k, 83 ≤ k → k < 84 → zcw k ∈ lw_tbl := fun k h1 h2 => (show k = 83 by omega) ▸ z_c83
theorem z_t84_85 : ∀ k, 84 ≤ k → k < 85 → zcw k ∈ lw_tbl := fun k h1 h2 => (show k = 84 by omega) ▸ z_c84
theorem z_t85_86 : ∀ k, 85 ≤ k → k < 86 → zcw k ∈ lw_tbl := fun k h1 h2 => (show k = 85 by omega) ▸ z_c85
theorem z_t86_87 : ∀ k, 86 ≤ k → k < 87 → zcw k ∈ lw_tbl := fun k h1 h2 => (show k = 86 by omega) ▸ z_c86
theorem z_t87_88 : ∀ k, 87 ≤ k → k < 88 → zcw k ∈ lw_tbl := fun k h1 h2 => (show k = 87 by omega) ▸ z_c87
theorem z_t88_89 : ∀ k, 88 ≤ k → k < 89 → zcw k ∈ lw_tbl := fun k h1 h2 => (show k = 88 by omega) ▸ z_c88
theorem z_t89_90 : ∀ k, 89 ≤ k → k < 90 → zcw k ∈ lw_tbl := fun k h1 h2 => (show k = 89 by omega) ▸ z_c89
theorem z_t90_91 : ∀ k, 90 ≤ k → k < 91 → zcw k ∈ lw_tbl := fun k h1 h2 => (show k = 90 by omega) ▸ z_c90
theorem z_t91_92 : ∀ k, 91 ≤ k → k < 92 → zcw k ∈ lw_tbl := fun k h1 h2 => (show k = 91 by omega) ▸ z_c91
theorem z_t92_93 : ∀ k, 92 ≤ k → k < 93 → zcw k ∈ lw_tbl := fun k h1 h2 => (show k = 92 by omega) ▸ z_c92
theorem z_t93_94 : ∀ k, 93 ≤ k → k < 94 → zcw k ∈ lw_tbl := fun k h1 h2 => (show k = 93 by omega) ▸ z_c93
theorem z_t94_95 : ∀ k, 94 ≤ k → k < 95 → zcw k ∈ lw_tbl := fun k h1 h2 => (show k = 94 by omega) ▸ z_c94
theorem z_t95_96 : ∀ k, 95 ≤ k → k < 96 → zcw k ∈ lw_tbl := fun k h1 h2 => (show k = 95 by omega) ▸ z_c95
theorem z_t96_97 : ∀ k, 96 ≤ k → k < 97 → zcw k ∈ lw_tbl := fun k h1 h2 => (show k = 96 by omega) ▸ z_c96
theorem z_t97_98 : ∀ k, 97 ≤ k → k < 98 → zcw k ∈ lw_tbl := fun k h1 h2 => (show k = 97 by omega) ▸ z_c97
theorem z_t98_99 : ∀ k, 98 ≤ k → k < 99 → zcw k ∈ lw_tbl := fun k h1 h2 => (show k = 98 by omega) ▸ z_c98
theorem z_t99_100 : ∀ k, 99 ≤ k → k < 100 → zcw k ∈ lw_tbl := fun k h1 h2 => (show k = 99 by omega) ▸ z_c99
theorem z_t100_101 : ∀ k, 100 ≤ k → k < 101 → zcw k ∈ lw_tbl := fun k h1 h2 => (show k = 100 by omega) ▸ z_c100
theorem z_t101_102 : ∀ k, 101 ≤ k → k < 102 → zcw k ∈ lw_tbl := fun k h1 h2 => (show k = 101 by omega) ▸ z_c101
theorem z_t102_103 : ∀ k, 102 ≤ k → k < 103 → zcw k ∈ lw_tbl := fun k h1 h2 => (show k = 102 by omega) ▸ z_c102
theorem z_t103_104 : ∀ k, 103 ≤ k → k < 104 → zcw k ∈ lw_tbl := fun k h1 h2 => (show k = 103 by omega) ▸ z_c103
theorem z_t104_105 : ∀ k, 104 ≤ k → k < 105 → zcw k ∈ lw_tbl := fun k h1 h2 => (show k = 104 by omega) ▸ z_c104
theorem z_t105_106 : ∀ k, 105 ≤ k → k < 106 → zcw k ∈ lw_tbl := fun k h1 h2 => (show k = 105 by omega) ▸ z_c105
theorem z_t106_107 : ∀ k, 106 ≤ k → k < 107 → zcw k ∈ lw_tbl := fun k h1 h2 => (show k = 106 by omega) ▸ z_c106
theorem z_t107_108 : ∀ k, 107 ≤ k → k < 108 → zcw k ∈ lw_tbl := fun k h1 h2 => (show k = 107 by omega) ▸ z_c107
theorem z_t108_109 : ∀ k, 108 ≤ k → k < 109 → zcw k ∈ lw_tbl := fun k h1 h2 => (show k = 108 by omega) ▸ z_c108
theorem z_t109_110 : ∀ k, 109 ≤ k → k < 110 → zcw k ∈ lw_tbl := fun k h1 h2 => (show k = 109 by omega) ▸ z_c109
theorem z_t110_111 : ∀ k, 110 ≤ k → k < 111 → zcw k ∈ lw_tbl := fun k h1 h2 => (show k = 110 by omega) ▸ z_c110
theorem z_t111_112 : ∀ k, 111 ≤ k → k < 112 → zcw k ∈ lw_tbl := fun k h1 h2 => (show k = 111 by omega) ▸ z_c111
theorem z_t112_113 : ∀ k, 112 ≤ k → k < 113 → zcw k ∈ lw_tbl := fun k h1 h2 => (show k = 112 by omega) ▸ z_c112
theorem z_t113_114 : ∀ k, 113 ≤ k → k < 114 → zcw k ∈ lw_tbl := fun k h1 h2 => (show k = 113 by omega) ▸ z_c113
theorem z_t114_115 : ∀ k, 114 ≤ k → k < 115 → zcw k ∈ lw_tbl := fun k h1 h2 => (show k = 114 by omega) ▸ z_c114
theorem z_t115_116 : ∀ k, 115 ≤ k → k < 116 → zcw k ∈ lw_tbl := fun k h1 h2 => (show k = 115 by omega) ▸ z_c115
theorem z_t116_117 : ∀ k, 116 ≤ k → k < 117 → zcw k ∈ lw_tbl := fun k h1 h2 => (show k = 116 by omega) ▸ z_c116
theorem z_t117_118 : ∀ k, 117 ≤ k → k < 118 → zcw k ∈ lw_tbl := fun k h1 h2 => (show k = 117 by omega) ▸ z_c117
theorem z_t118_119 : ∀ k, 118 ≤ k → k < 119 → zcw k ∈ lw_tbl := fun k h1 h2 => (show k = 118 by omega) ▸ z_c118
theorem z_t119_120 : ∀ k, 119 ≤ k → k < 120 → zcw k ∈ lw_tbl := fun k h1 h2 => (show k = 119 by omega) ▸ z_c119
theorem z_t120_121 : ∀ k, 120 ≤ k → k < 121 → zcw k ∈ lw_tbl := fun k h1 h2 => (show k = 120 by omega) ▸ z_c120
theorem z_t121_122 : ∀ k, 121 ≤ k → k < 122 → zcw k ∈ lw_tbl := fun k h1 h2 => (show k = 121 by omega) ▸ z_c121
theorem z_t122_123 : ∀ k, 122 ≤ k → k < 123 → zcw k ∈ lw_tbl := fun k h1 h2 => (show k = 122 by omega) ▸ z_c122
theorem z_t123_124 : ∀ k, 123 ≤ k → k < 124 → zcw k ∈ lw_tbl := fun k h1 h2 => (show k = 123 by omega) ▸ z_c123
theorem z_t124_125 : ∀ k, 124 ≤ k → k < 125 → zcw k ∈ lw_tbl := fun k h1 h2 => (show k = 124 by omega) ▸ z_c124
theorem z_t125_126 : ∀ k, 125 ≤ k → k < 126 → zcw k ∈ lw_tbl := fun k h1 h2 => (show k = 125 by omega) ▸ z_c125
theorem z_t126_127 : ∀ k, 126 ≤ k → k < 127 → zcw k ∈ lw_tbl := fun k h1 h2 => (show k = 126 by omega) ▸ z_c126
theorem z_t127_128 : ∀ k, 127 ≤ k → k < 128 → zcw k ∈ lw_tbl := fun k h1 h2 => (show k = 127 by omega) ▸ z_c127
theorem z_t128_129 : ∀ k, 128 ≤ k → k < 129 → zcw k ∈ lw_tbl := fun k h1 h2 => (show k = 128 by omega) ▸ z_c128
theorem z_t129_130 : ∀ k, 129 ≤ k → k < 130 → zcw k ∈ lw_tbl := fun k h1 h2 => (show k = 129 by omega) ▸ z_c129
theorem z_t130_131 : ∀ k, 130 ≤ k → k < 131 → zcw k ∈ lw_tbl := fun k h1 h2 => (show k = 130 by omega) ▸ z_c130
theorem z_t131_132 : ∀ k, 131 ≤ k → k < 132 → zcw k ∈ lw_tbl := fun k h1 h2 => (show k = 131 by omega) ▸ z_c131
theorem z_t132_133 : ∀ k, 132 ≤ k → k < 133 → zcw k ∈ lw_tbl := fun k h1 h2 => (show k = 132 by omega) ▸ z_c132
theorem z_t133_134 : ∀ k, 133 ≤ k → k < 134 → zcw k ∈ lw_tbl := fun k h1 h2 => (show k = 133 by omega) ▸ z_c133
theorem z_t134_135 : ∀ k, 134 ≤ k → k < 135 → zcw k ∈ lw_tbl := fun k h1 h2 => (show k = 134 by omega) ▸ z_c134
theorem z_t135_136 : ∀ k, 135 ≤ k → k < 136 → zcw k ∈ lw_tbl := fun k h1 h2 => (show k = 135 by omega) ▸ z_c135
theorem z_t136_137 : ∀ k, 136 ≤ k → k < 137 → zcw k ∈ lw_tbl := fun k h1 h2 => (show k = 136 by omega) ▸ z_c136
theorem z_t137_138 : ∀ k, 137 ≤ k → k < 138 → zcw k ∈ lw_tbl := fun k h1 h2 => (show k = 137 by omega) ▸ z_c137
theorem z_t138_139 : ∀ k, 138 ≤ k → k < 139 → zcw k ∈ lw_tbl := fun k h1 h2 => (show k = 138 by omega) ▸ z_c138
theorem z_t139_140 : ∀ k, 139 ≤ k → k < 140 → zcw k ∈ lw_tbl := fun k h1 h2 => (show k = 139 by omega) ▸ z_c139
theorem z_t140_141 : ∀ k, 140 ≤ k → k < 141 → zcw k ∈ lw_tbl := fun k h1 h2 => (show k = 140 by omega) ▸ z_c140
theorem z_t141_142 : ∀ k, 141 ≤ k → k < 142 → zcw k ∈ lw_tbl := fun k h1 h2 => (show k = 141 by omega) ▸ z_c141
theorem z_t142_143 : ∀ k, 142 ≤ k → k < 143 → zcw k ∈ lw_tbl := fun k h1 h2 => (show k = 142 by omega) ▸ z_c142
theorem z_t143_144 : ∀ k, 143 ≤ k → k < 144 → zcw k ∈ lw_tbl := fun k h1 h2 => (show k = 143 by omega) ▸ z_c143
theorem z_t144_145 : ∀ k, 144 ≤ k → k < 145 → zcw k ∈ lw_tbl := fun k h1 h2 => (show k = 144 by omega) ▸ z_c144
theorem z_t145_146 : ∀ k, 145 ≤ k → k < 146 → zcw k ∈ lw_tbl := fun k h1 h2 => (show k = 145 by omega) ▸ z_c145
theorem z_t146_147 : ∀ k, 146 ≤ k → k < 147 → zcw k ∈ lw_tbl := fun k h1 h2 => (show k = 146 by omega) ▸ z_c146
theorem z_t147_148 : ∀ k, 147 ≤ k → k < 148 → zcw k ∈ lw_tbl := fun k h1 h2 => (show k = 147 by omega) ▸ z_c147
theorem z_t148_149 : ∀ k, 148 ≤ k → k < 149 → zcw k ∈ lw_tbl := fun k h1 h2 => (show k = 148 by omega) ▸ z_c148
theorem z_t149_150 : ∀ k, 149 ≤ k → k < 150 → zcw k ∈ lw_tbl := fun k h1 h2 => (show k = 149 by omega) ▸ z_c149
theorem z_t150_151 : ∀ k, 150 ≤ k → k < 151 → zcw k ∈ lw_tbl := fun k h1 h2 => (show k = 150 by omega) ▸ z_c150
theorem z_t151_152 : ∀ k, 151 ≤ k → k < 152 → zcw k ∈ lw_tbl := fun k h1 h2 => (show k = 151 by omega) ▸ z_c151
theorem z_t152_153 : ∀ k, 152 ≤ k → k < 153 → zcw k ∈ lw_tbl := fun k h1 h2 => (show k = 152 by omega) ▸ z_c152
theorem z_t153_154 : ∀ k, 153 ≤ k → k < 154 → zcw k ∈ lw_tbl := fun k h1 h2 => (show k = 153 by omega) ▸ z_c153
theorem z_t154_155 : ∀ k, 154 ≤ k → k < 155 → zcw k ∈ lw_tbl := fun k h1 h2 => (show k = 154 by omega) ▸ z_c154
theorem z_t155_156 : ∀ k, 155 ≤ k → k < 156 → zcw k ∈ lw_tbl := fun k h1 h2 => (show k = 155 by omega) ▸ z_c155
theorem z_t156_157 : ∀ k, 156 ≤ k → k < 157 → zcw k ∈ lw_tbl := fun k h1 h2 => (show k = 156 by omega) ▸ z_c156
theorem z_t157_158 : ∀ k, 157 ≤ k → k < 158 → zcw k ∈ lw_tbl := fun k h1 h2 => (show k = 157 by omega) ▸ z_c157
theorem z_t158_159 : ∀ k, 158 ≤ k → k < 159 → zcw k ∈ lw_tbl := fun k h1 h2 => (show k = 158 by omega) ▸ z_c158
theorem z_t159_160 : ∀ k, 159 ≤ k → k < 160 → zcw k ∈ lw_tbl := fun k h1 h2 => (show k = 159 by omega) ▸ z_c159
theorem z_t160_161 : ∀ k, 160 ≤ k → k < 161 → zcw k ∈ lw_tbl := fun k h1 h2 => (show k = 160 by omega) ▸ z_c160
theorem z_t161_162 : ∀ k, 161 ≤ k → k < 162 → zcw k ∈ lw_tbl := fun k h1 h2 => (show k = 161 by omega) ▸ z_c161
theorem z_t162_163 : ∀ k, 162 ≤ k → k < 163 → zcw k ∈ lw_tbl := fun k h1 h2 => (show k = 162 by omega) ▸ z_c162
theorem z_t163_164 : ∀ k, 163 ≤ k → k < 164 → zcw k ∈ lw_tbl := fun k h1 h2 => (show k = 163 by omega) ▸ z_c163
theorem z_t164_165 : ∀ k, 164 ≤ k → k < 165 → zcw k ∈ lw_tbl := fun k h1 h2 => (show k = 164 by omega) ▸ z_c164
theorem z_t165_166 : ∀ k, 165 ≤ k → k < 166 → zcw k ∈ lw_tbl := fun k h1 h2 => (show k = 165 by omega) ▸ z_c165
theorem z_t166_167 : ∀ k, 166 ≤ k → k < 167 → zcw k ∈ lw_tbl := fun k h1 h2 => (show k = 166 by omega) ▸ z_c166
theorem z_t167_168 : ∀ k, 167 ≤ k → k < 168 → zcw k ∈ lw_tbl := fun k h1 h2 => (show k = 167 by omega) ▸ z_c167
theorem z_t168_169 : ∀ k, 168 ≤ k → k < 169 → zcw k ∈ lw_tbl := fun k h1 h2 => (show k = 168 by omega) ▸ z_c168
theorem z_t169_170 : ∀ k, 169 ≤ k → k < 170 → zcw k ∈ lw_tbl := fun k h1 h2 => (show k = 169 by omega) ▸ z_c169
theorem z_t170_171 : ∀ k, 170 ≤ k → k < 171 → zcw k ∈ lw_tbl := fun k h1 h2 => (show k = 170 by omega) ▸ z_c170
theorem z_t171_172 : ∀ k, 171 ≤ k → k < 172 → zcw k ∈ lw_tbl := fun k h1 h2 => (show k = 171 by omega) ▸ z_c171
theorem z_t172_173 : ∀ k, 172 ≤ k → k < 173 → zcw k ∈ lw_tbl := fun k h1 h2 => (show k = 172 by omega) ▸ z_c172
theorem z_t173_174 : ∀ k, 173 ≤ k → k < 174 → zcw k ∈ lw_tbl := fun k h1 h2 => (show k = 173 by omega) ▸ z_c173
theorem z_t174_175 : ∀ k, 174 ≤ k → k < 175 → zcw k ∈ lw_tbl := fun k h1 h2 => (show k = 174 by omega) ▸ z_c174
theorem z_t175_176 : ∀ k, 175 ≤ k → k < 176 → zcw k ∈ lw_tbl := fun k h1 h2 => (show k = 175 by omega) ▸ z_c175
theorem z_t176_177 : ∀ k, 176 ≤ k → k < 177 → zcw k ∈ lw_tbl := fun k h1 h2 => (show k = 176 by omega) ▸ z_c176
theorem z_t177_178 : ∀ k, 177 ≤ k → k < 178 → zcw k ∈ lw_tbl := fun k h1 h2 => (show k = 177 by omega) ▸ z_c177
theorem z_t178_179 : ∀ k, 178 ≤ k → k < 179 → zcw k ∈ lw_tbl := fun k h1 h2 => (show k = 178 by omega) ▸ z_c178
theorem z_t179_180 : ∀ k, 179 ≤ k → k < 180 → zcw k ∈ lw_tbl := fun k h1 h2 => (show k = 179 by omega) ▸ z_c179
theorem z_t180_181 : ∀ k, 180 ≤ k → k < 181 → zcw k ∈ lw_tbl := fun k h1 h2 => (show k = 180 by omega) ▸ z_c180
theorem z_t181_182 : ∀ k, 181 ≤ k → k < 182 → zcw k ∈ lw_tbl := fun k h1 h2 => (show k = 181 by omega) ▸ z_c181
theorem z_t182_183 : ∀ k, 182 ≤ k → k < 183 → zcw k ∈ lw_tbl := fun k h1 h2 => (show k = 182 by omega) ▸ z_c182
theorem z_t183_184 : ∀ k, 183 ≤ k → k < 184 → zcw k ∈ lw_tbl := fun k h1 h2 => (show k = 183 by omega) ▸ z_c183
theorem z_t184_185 : ∀ k, 184 ≤ k → k < 185 → zcw k ∈ lw_tbl := fun k h1 h2 => (show k = 184 by omega) ▸ z_c184
theorem z_t185_186 : ∀ k, 185 ≤ k → k < 186 → zcw k ∈ lw_tbl := fun k h1 h2 => (show k = 185 by omega) ▸ z_c185
theorem z_t186_187 : ∀ k, 186 ≤ k → k < 187 → zcw k ∈ lw_tbl := fun k h1 h2 => (show k = 186 by omega) ▸ z_c186
theorem z_t187_188 : ∀ k, 187 ≤ k → k < 188 → zcw k ∈ lw_tbl := fun k h1 h2 => (show k = 187 by omega) ▸ z_c187
theorem z_t188_189 : ∀ k, 188 ≤ k → k < 189 → zcw k ∈ lw_tbl := fun k h1 h2 => (show k = 188 by omega) ▸ z_c188
theorem z_t189_190 : ∀ k, 189 ≤ k → k < 190 → zcw k ∈ lw_tbl := fun k h1 h2 => (show k = 189 by omega) ▸ z_c189
theorem z_t190_191 : ∀ k, 190 ≤ k → k < 191 → zcw k ∈ lw_tbl := fun k h1 h2 => (show k = 190 by omega) ▸ z_c190
theorem z_t191_192 : ∀ k, 191 ≤ k → k < 192 → zcw k ∈ lw_tbl := fun k h1 h2 => (show k = 191 by omega) ▸ z_c191
theorem z_t192_193 : ∀ k, 192 ≤ k → k < 193 → zcw k ∈ lw_tbl := fun k h1 h2 => (show k = 192 by omega) ▸ z_c192
theorem z_t193_194 : ∀ k, 193 ≤ k → k < 194 → zcw k ∈ lw_tbl := fun k h1 h2 => (show k = 193 by omega) ▸ z_c193
theorem z_t194_195 : ∀ k, 194 ≤ k → k < 195 → zcw k ∈ lw_tbl := fun k h1 h2 => (show k = 194 by omega) ▸ z_c194
theorem z_t195_196 : ∀ k, 195 ≤ k → k < 196 → zcw k ∈ lw_tbl := fun k h1 h2 => (show k = 195 by omega) ▸ z_c195
theorem z_t196_197 : ∀ k, 196 ≤ k → k < 197 → zcw k ∈ lw_tbl := fun k h1 h2 => (show k = 196 by omega) ▸ z_c196
theorem z_t197_198 : ∀ k, 197 ≤ k → k < 198 → zcw k ∈ lw_tbl := fun k h1 h2 => (show k = 197 by omega) ▸ z_c197
theorem z_t198_199 : ∀ k, 198 ≤ k → k < 199 → zcw k ∈ lw_tbl := fun k h1 h2 => (show k = 198 by omega) ▸ z_c198
theorem z_t199_200 : ∀ k, 199 ≤ k → k < 200 → zcw k ∈ lw_tbl := fun k h1 h2 => (show k = 199 by omega) ▸ z_c199
theorem z_t200_201 : ∀ k, 200 ≤ k → k < 201 → zcw k ∈ lw_tbl := fun k h1 h2 => (show k = 200 by omega) ▸ z_c200
theorem z_t201_202 : ∀ k, 201 ≤ k → k < 202 → zcw k ∈ lw_tbl := fun k h1 h2 => (show k = 201 by omega) ▸ z_c201
theorem z_t202_203 : ∀ k, 202 ≤ k → k < 203 → zcw k ∈ lw_tbl := fun k h1 h2 => (show k = 202 by omega) ▸ z_c202
theorem z_t203_204 : ∀ k, 203 ≤ k → k < 204 → zcw k ∈ lw_tbl := fun k h1 h2 => (show k = 203 by omega) ▸ z_c203
theorem z_t204_205 : ∀ k, 204 ≤ k → k < 205 → zcw k ∈ lw_tbl := fun k h1 h2 => (show k = 204 by omega) ▸ z_c204
theorem z_t205_206 : ∀ k, 205 ≤ k → k < 206 → zcw k ∈ lw_tbl := fun k h1 h2 => (show k = 205 by omega) ▸ z_c205
theorem z_t206_207 : ∀ k, 206 ≤ k → k < 207 → zcw k ∈ lw_tbl := fun k h1 h2 => (show k = 206 by omega) ▸ z_c206
theorem z_t207_208 : ∀ k, 207 ≤ k → k < 208 → zcw k ∈ lw_tbl := fun k h1 h2 => (show k = 207 by omega) ▸ z_c207
theorem z_t208_209 : ∀ k, 208 ≤ k → k < 209 → zcw k ∈ lw_tbl := fun k h1 h2 => (show k = 208 by omega) ▸ z_c208
theorem z_t209_210 : ∀ k, 209 ≤ k → k < 210 → zcw k ∈ lw_tbl := fun k h1 h2 => (show k = 209 by omega) ▸ z_c209
theorem z_t210_211 : ∀ k, 210 ≤ k → k < 211 → zcw k ∈ lw_tbl := fun k h1 h2 => (show k = 210 by omega) ▸ z_c210
theorem z_t211_212 : ∀ k, 211 ≤ k → k < 212 → zcw k ∈ lw_tbl := fun k h1 h2 => (show k = 211 by omega) ▸ z_c211
theorem z_t212_213 : ∀ k, 212 ≤ k → k < 213 → zcw k ∈ lw_tbl := fun k h1 h2 => (show k = 212 by omega) ▸ z_c212
theorem z_t213_214 : ∀ k, 213 ≤ k → k < 214 → zcw k ∈ lw_tbl := fun k h1 h2 => (show k = 213 by omega) ▸ z_c213
theorem z_t214_215 : ∀ k, 214 ≤ k → k < 215 → zcw k ∈ lw_tbl := fun k h1 h2 => (show k = 214 by omega) ▸ z_c214
theorem z_t215_216 : ∀ k, 215 ≤ k → k < 216 → zcw k ∈ lw_tbl := fun k h1 h2 => (show k = 215 by omega) ▸ z_c215
theorem z_t216_217 : ∀ k, 216 ≤ k → k < 217 → zcw k ∈ lw_tbl := fun k h1 h2 => (show k = 216 by omega) ▸ z_c216
theorem z_t217_218 : ∀ k, 217 ≤ k → k < 218 → zcw k ∈ lw_tbl := fun k h1 h2 => (show k = 217 by omega) ▸ z_c217
theorem z_t218_219 : ∀ k, 218 ≤ k → k < 219 → zcw k ∈ lw_tbl := fun k h1 h2 => (show k = 218 by omega) ▸ z_c218
theorem z_t219_220 : ∀ k, 219 ≤ k → k < 220 → zcw k ∈ lw_tbl := fun k h1 h2 => (show k = 219 by omega) ▸ z_c219
theorem z_t220_221 : ∀ k, 220 ≤ k → k < 221 → zcw k ∈ lw_tbl := fun k h1 h2 => (show k = 220 by omega) ▸ z_c220
theorem z_t221_222 : ∀ k, 221 ≤ k → k < 222 → zcw k ∈ lw_tbl := fun k h1 h2 => (show k = 221 by omega) ▸ z_c221
theorem z_t222_223 : ∀ k, 222 ≤ k → k < 223 → zcw k ∈ lw_tbl := fun k h1 h2 => (show k = 222 by omega) ▸ z_c222
theorem z_t223_224 : ∀ k, 223 ≤ k → k < 224 → zcw k ∈ lw_tbl := fun k h1 h2 => (show k = 223 by omega) ▸ z_c223
theorem z_t224_225 : ∀ k, 224 ≤ k → k < 225 → zcw k ∈ lw_tbl := fun k h1 h2 => (show k = 224 by omega) ▸ z_c224
theorem z_t225_226 : ∀ k, 225 ≤ k → k < 226 → zcw k ∈ lw_tbl := fun k h1 h2 => (show k = 225 by omega) ▸ z_c225
theorem z_t226_227 : ∀ k, 226 ≤ k → k < 227 → zcw k ∈ lw_tbl := fun k h1 h2 => (show k = 226 by omega) ▸ z_c226
theorem z_t227_228 : ∀ k, 227 ≤ k → k < 228 → zcw k ∈ lw_tbl := fun k h1 h2 => (show k = 227 by omega) ▸ z_c227
theorem z_t228_229 : ∀ k, 228 ≤ k → k < 229 → zcw k ∈ lw_tbl := fun k h1 h2 => (show k = 228 by omega) ▸ z_c228
theorem z_t229_230 : ∀ k, 229 ≤ k → k < 230 → zcw k ∈ lw_tbl := fun k h1 h2 => (show k = 229 by omega) ▸ z_c229
theorem z_t230_231 : ∀ k, 230 ≤ k → k < 231 → zcw k ∈ lw_tbl := fun k h1 h2 => (show k = 230 by omega) ▸ z_c230
theorem z_t231_232 : ∀ k, 231 ≤ k → k < 232 → zcw k ∈ lw_tbl := fun k h1 h2 => (show k = 231 by omega) ▸ z_c231
theorem z_t232_233 : ∀ k, 232 ≤ k → k < 233 → zcw k ∈ lw_tbl := fun k h1 h2 => (show k = 232 by omega) ▸ z_c232
theorem z_t233_234 : ∀ k, 233 ≤ k → k < 234 → zcw k ∈ lw_tbl := fun k h1 h2 => (show k = 233 by omega) ▸ z_c233
theorem z_t234_235 : ∀ k, 234 ≤ k → k < 235 → zcw k ∈ lw_tbl := fun k h1 h2 => (show k = 234 by omega) ▸ z_c234
theorem z_t235_236 : ∀ k, 235 ≤ k → k < 236 → zcw k ∈ lw_tbl := fun k h1 h2 => (show k = 235 by omega) ▸ z_c235
theorem z_t236_237 : ∀ k, 236 ≤ k → k < 237 → zcw k ∈ lw_tbl := fun k h1 h2 => (show k = 236 by omega) ▸ z_c236
theorem z_t237_238 : ∀ k, 237 ≤ k → k < 238 → zcw k ∈ lw_tbl := fun k h1 h2 => (show k = 237 by omega) ▸ z_c237
theorem z_t238_239 : ∀ k, 238 ≤ k → k < 239 → zcw k ∈ lw_tbl := fun k h1 h2 => (show k = 238 by omega) ▸ z_c238
theorem z_t239_240 : ∀ k, 239 ≤ k → k < 240 → zcw k ∈ lw_tbl := fun k h1 h2 => (show k = 239 by omega) ▸ z_c239
theorem z_t240_241 : ∀ k, 240 ≤ k → k < 241 → zcw k ∈ lw_tbl := fun k h1 h2 => (show k = 240 by omega) ▸ z_c240
theorem z_t241_242 : ∀ k, 241 ≤ k → k < 242 → zcw k ∈ lw_tbl := fun k h1 h2 => (show k = 241 by omega) ▸ z_c241
theorem z_t242_243 : ∀ k, 242 ≤ k → k < 243 → zcw k ∈ lw_tbl := fun k h1 h2 => (show k = 242 by omega) ▸ z_c242
theorem z_t243_244 : ∀ k, 243 ≤ k → k < 244 → zcw k ∈ lw_tbl := fun k h1 h2 => (show k = 243 by omega) ▸ z_c243
theorem z_t244_245 : ∀ k, 244 ≤ k → k < 245 → zcw k ∈ lw_tbl := fun k h1 h2 => (show k = 244 by omega) ▸ z_c244
theorem z_t245_246 : ∀ k, 245 ≤ k → k < 246 → zcw k ∈ lw_tbl := fun k h1 h2 => (show k = 245 by omega) ▸ z_c245
theorem z_t246_247 : ∀ k, 246 ≤ k → k < 247 → zcw k ∈ lw_tbl := fun k h1 h2 => (show k = 246 by omega) ▸ z_c246
theorem z_t247_248 : ∀ k, 247 ≤ k → k < 248 → zcw k ∈ lw_tbl := fun k h1 h2 => (show k = 247 by omega) ▸ z_c247
theorem z_t248_249 : ∀ k, 248 ≤ k → k < 249 → zcw k ∈ lw_tbl := fun k h1 h2 => (show k = 248 by omega) ▸ z_c248
theorem z_t249_250 : ∀ k, 249 ≤ k → k < 250 → zcw k ∈ lw_tbl := fun k h1 h2 => (show k = 249 by omega) ▸ z_c249
theorem z_t250_251 : ∀ k, 250 ≤ k → k < 251 → zcw k ∈ lw_tbl := fun k h1 h2 => (show k = 250 by omega) ▸ z_c250
theorem z_t251_252 : ∀ k, 251 ≤ k → k < 252 → zcw k ∈ lw_tbl := fun k h1 h2 => (show k = 251 by omega) ▸ z_c251
theorem z_t252_253 : ∀ k, 252 ≤ k → k < 253 → zcw k ∈ lw_tbl := fun k h1 h2 => (show k = 252 by omega) ▸ z_c252
theorem z_t253_254 : ∀ k, 253 ≤ k → k < 254 → zcw k ∈ lw_tbl := fun k h1 h2 => (show k = 253 by omega) ▸ z_c253
theorem z_t254_255 : ∀ k, 254 ≤ k → k < 255 → zcw k ∈ lw_tbl := fun k h1 h2 => (show k = 254 by omega) ▸ z_c254
theorem z_t255_256 : ∀ k, 255 ≤ k → k < 256 → zcw k ∈ lw_tbl := fun k h1 h2 => (show k = 255 by omega) ▸ z_c255
theorem z_t256_257 : ∀ k, 256 ≤ k → k < 257 → zcw k ∈ lw_tbl := fun k h1 h2 => (show k = 256 by omega) ▸ z_c256
theorem z_t257_258 : ∀ k, 257 ≤ k → k < 258 → zcw k ∈ lw_tbl := fun k h1 h2 => (show k = 257 by omega) ▸ z_c257
theorem z_t258_259 : ∀ k, 258 ≤ k → k < 259 → zcw k ∈ lw_tbl := fun k h1 h2 => (show k = 258 by omega) ▸ z_c258
theorem z_t259_260 : ∀ k, 259 ≤ k → k < 260 → zcw k ∈ lw_tbl := fun k h1 h2 => (show k = 259 by omega) ▸ z_c259
theorem z_t260_261 : ∀ k, 260 ≤ k → k < 261 → zcw k ∈ lw_tbl := fun k h1 h2 => (show k = 260 by omega) ▸ z_c260
theorem z_t261_262 : ∀ k, 261 ≤ k → k < 262 → zcw k ∈ lw_tbl := fun k h1 h2 => (show k = 261 by omega) ▸ z_c261
theorem z_t262_263 : ∀ k, 262 ≤ k → k < 263 → zcw k ∈ lw_tbl := fun k h1 h2 => (show k = 262 by omega) ▸ z_c262
theorem z_t263_264 : ∀ k, 263 ≤ k → k < 264 → zcw k ∈ lw_tbl := fun k h1 h2 => (show k = 263 by omega) ▸ z_c263
theorem z_t264_265 : ∀ k, 264 ≤ k → k < 265 → zcw k ∈ lw_tbl := fun k h1 h2 => (show k = 264 by omega) ▸ z_c264
theorem z_t265_266 : ∀ k, 265 ≤ k → k < 266 → zcw k ∈ lw_tbl := fun k h1 h2 => (show k = 265 by omega) ▸ z_c265
theorem z_t266_267 : ∀ k, 266 ≤ k → k < 267 → zcw k ∈ lw_tbl := fun k h1 h2 => (show k = 266 by omega) ▸ z_c266
theorem z_t267_268 : ∀ k, 267 ≤ k → k < 268 → zcw k ∈ lw_tbl := fun k h1 h2 => (show k = 267 by omega) ▸ z_c267
theorem z_t268_269 : ∀ k, 268 ≤ k → k < 269 → zcw k ∈ lw_tbl := fun k h1 h2 => (show k = 268 by omega) ▸ z_c268
theorem z_t269_270 : ∀ k, 269 ≤ k → k < 270 → zcw k ∈ lw_tbl := fun k h1 h2 => (show k = 269 by omega) ▸ z_c269
theorem z_t270_271 : ∀ k, 270 ≤ k → k < 271 → zcw k ∈ lw_tbl := fun k h1 h2 => (show k = 270 by omega) ▸ z_c270
theorem z_t271_272 : ∀ k, 271 ≤ k → k < 272 → zcw k ∈ lw_tbl := fun k h1 h2 => (show k = 271 by omega) ▸ z_c271
theorem z_t272_273 : ∀ k, 272 ≤ k → k < 273 → zcw k ∈ lw_tbl := fun k h1 h2 => (show k = 272 by omega) ▸ z_c272
theorem z_t273_274 : ∀ k, 273 ≤ k → k < 274 → zcw k ∈ lw_tbl := fun k h1 h2 => (show k = 273 by omega) ▸ z_c273
theorem z_t274_275 : ∀ k, 274 ≤ k → k < 275 → zcw k ∈ lw_tbl := fun k h1 h2 => (show k = 274 by omega) ▸ z_c274
theorem z_t275_276 : ∀ k, 275 ≤ k → k < 276 → zcw k ∈ lw_tbl := fun k h1 h2 => (show k = 275 by omega) ▸ z_c275
theorem z_t276_277 : ∀ k, 276 ≤ k → k < 277 → zcw k ∈ lw_tbl := fun k h1 h2 => (show k = 276 by omega) ▸ z_c276
theorem z_t277_278 : ∀ k, 277 ≤ k → k < 278 → zcw k ∈ lw_tbl := fun k h1 h2 => (show k = 277 by omega) ▸ z_c277
theorem z_t278_279 : ∀ k, 278 ≤ k → k < 279 → zcw k ∈ lw_tbl := fun k h1 h2 => (show k = 278 by omega) ▸ z_c278
theorem z_t279_280 : ∀ k, 279 ≤ k → k < 280 → zcw k ∈ lw_tbl := fun k h1 h2 => (show k = 279 by omega) ▸ z_c279
theorem z_t280_281 : ∀ k, 280 ≤ k → k < 281 → zcw k ∈ lw_tbl := fun k h1 h2 => (show k = 280 by omega) ▸ z_c280
theorem z_t281_282 : ∀ k, 281 ≤ k → k < 282 → zcw k ∈ lw_tbl := fun k h1 h2 => (show k = 281 by omega) ▸ z_c281
theorem z_t282_283 : ∀ k, 282 ≤ k → k < 283 → zcw k ∈ lw_tbl := fun k h1 h2 => (show k = 282 by omega) ▸ z_c282
theorem z_t283_284 : ∀ k, 283 ≤ k → k < 284 → zcw k ∈ lw_tbl := fun k h1 h2 => (show k = 283 by omega) ▸ z_c283
theorem z_t284_285 : ∀ k, 284 ≤ k → k < 285 → zcw k ∈ lw_tbl := fun k h1 h2 => (show k = 284 by omega) ▸ z_c284
theorem z_t285_286 : ∀ k, 285 ≤ k → k < 286 → zcw k ∈ lw_tbl := fun k h1 h2 => (show k = 285 by omega) ▸ z_c285
theorem z_t286_287 : ∀ k, 286 ≤ k → k < 287 → zcw k ∈ lw_tbl := fun k h1 h2 => (show k = 286 by omega) ▸ z_c286
theorem z_t287_288 : ∀ k, 287 ≤ k → k < 288 → zcw k ∈ lw_tbl := fun k h1 h2 => (show k = 287 by omega) ▸ z_c287
theorem z_t288_289 : ∀ k, 288 ≤ k → k < 289 → zcw k ∈ lw_tbl := fun k h1 h2 => (show k = 288 by omega) ▸ z_c288
theorem z_t289_290 : ∀ k, 289 ≤ k → k < 290 → zcw k ∈ lw_tbl := fun k h1 h2 => (show k = 289 by omega) ▸ z_c289
theorem z_t290_291 : ∀ k, 290 ≤ k → k < 291 → zcw k ∈ lw_tbl := fun k h1 h2 => (show k = 290 by omega) ▸ z_c290
theorem z_t291_292 : ∀ k, 291 ≤ k → k < 292 → zcw k ∈ lw_tbl := fun k h1 h2 => (show k = 291 by omega) ▸ z_c291
theorem z_t292_293 : ∀ k, 292 ≤ k → k < 293 → zcw k ∈ lw_tbl := fun k h1 h2 => (show k = 292 by omega) ▸ z_c292
theorem z_t293_294 : ∀ k, 293 ≤ k → k < 294 → zcw k ∈ lw_tbl := fun k h1 h2 => (show k = 293 by omega) ▸ z_c293
theorem z_t294_295 : ∀ k, 294 ≤ k → k < 295 → zcw k ∈ lw_tbl := fun k h1 h2 => (show k = 294 by omega) ▸ z_c294
theorem z_t295_296 : ∀ k, 295 ≤ k → k < 296 → zcw k ∈ lw_tbl := fun k h1 h2 => (show k = 295 by omega) ▸ z_c295
theorem z_t296_297 : ∀ k, 296 ≤ k → k < 297 → zcw k ∈ lw_tbl := fun k h1 h2 => (show k = 296 by omega) ▸ z_c296
theorem z_t297_298 : ∀ k, 297 ≤ k → k < 298 → zcw k ∈ lw_tbl := fun k h1 h2 => (show k = 297 by omega) ▸ z_c297
theorem z_t298_299 : ∀ k, 298 ≤ k → k < 299 → zcw k ∈ lw_tbl := fun k h1 h2 => (show k = 298 by omega) ▸ z_c298
theorem z_t299_300 : ∀ k, 299 ≤ k → k < 300 → zcw k ∈ lw_tbl := fun k h1 h2 => (show k = 299 by omega) ▸ z_c299
theorem z_t300_301 : ∀ k, 300 ≤ k → k < 301 → zcw k ∈ lw_tbl := fun k h1 h2 => (show k = 300 by omega) ▸ z_c300
theorem z_t301_302 : ∀ k, 301 ≤ k → k < 302 → zcw k ∈ lw_tbl := fun k h1 h2 => (show k = 301 by omega) ▸ z_c301
theorem z_t302_303 : ∀ k, 302 ≤ k → k < 303 → zcw k ∈ lw_tbl := fun k h1 h2 => (show k = 302 by omega) ▸ z_c302
theorem z_t303_304 : ∀ k, 303 ≤ k → k < 304 → zcw k ∈ lw_tbl := fun k h1 h2 => (show k = 303 by omega) ▸ z_c303
theorem z_t304_305 : ∀ k, 304 ≤ k → k < 305 → zcw k ∈ lw_tbl := fun k h1 h2 => (show k = 304 by omega) ▸ z_c304
theorem z_t305_306 : ∀ k, 305 ≤ k → k < 306 → zcw k ∈ lw_tbl := fun k h1 h2 => (show k = 305 by omega) ▸ z_c305
theorem z_t306_307 : ∀ k, 306 ≤ k → k < 307 → zcw k ∈ lw_tbl := fun k h1 h2 => (show k = 306 by omega) ▸ z_c306
theorem z_t307_308 : ∀ k, 307 ≤ k → k < 308 → zcw k ∈ lw_tbl := fun k h1 h2 => (show k = 307 by omega) ▸ z_c307
theorem z_t308_309 : ∀ k, 308 ≤ k → k < 309 → zcw k ∈ lw_tbl := fun k h1 h2 => (show k = 308 by omega) ▸ z_c308
theorem z_t309_310 : ∀ k, 309 ≤ k → k < 310 → zcw k ∈ lw_tbl := fun k h1 h2 => (show k = 309 by omega) ▸ z_c309
theorem z_t310_311 : ∀ k, 310 ≤ k → k < 311 → zcw k ∈ lw_tbl := fun k h1 h2 => (show k = 310 by omega) ▸ z_c310
theorem z_t311_312 : ∀ k, 311 ≤ k → k < 312 → zcw k ∈ lw_tbl := fun k h1 h2 => (show k = 311 by omega) ▸ z_c311
theorem z_t312_313 : ∀ k, 312 ≤ k → k < 313 → zcw k ∈ lw_tbl := fun k h1 h2 => (show k = 312 by omega) ▸ z_c312
theorem z_t313_314 : ∀ k, 313 ≤ k → k < 314 → zcw k ∈ lw_tbl := fun k h1 h2 => (show k = 313 by omega) ▸ z_c313
theorem z_t314_315 : ∀ k, 314 ≤ k → k < 315 → zcw k ∈ lw_tbl := fun k h1 h2 => (show k = 314 by omega) ▸ z_c314
theorem z_t315_316 : ∀ k, 315 ≤ k → k < 316 → zcw k ∈ lw_tbl := fun k h1 h2 => (show k = 315 by omega) ▸ z_c315
theorem z_t316_317 : ∀ k, 316 ≤ k → k < 317 → zcw k ∈ lw_tbl := fun k h1 h2 => (show k = 316 by omega) ▸ z_c316
theorem z_t317_318 : ∀ k, 317 ≤ k → k < 318 → zcw k ∈ lw_tbl := fun k h1 h2 => (show k = 317 by omega) ▸ z_c317
theorem z_t318_319 : ∀ k, 318 ≤ k → k < 319 → zcw k ∈ lw_tbl := fun k h1 h2 => (show k = 318 by omega) ▸ z_c318
theorem z_t319_320 : ∀ k, 319 ≤ k → k < 320 → zcw k ∈ lw_tbl := fun k h1 h2 => (show k = 319 by omega) ▸ z_c319
theorem z_t320_321 : ∀ k, 320 ≤ k → k < 321 → zcw k ∈ lw_tbl := fun k h1 h2 => (show k = 320 by omega) ▸ z_c320
theorem z_t321_322 : ∀ k, 321 ≤ k → k < 322 → zcw k ∈ lw_tbl := fun k h1 h2 => (show k = 321 by omega) ▸ z_c321
theorem z_t322_323 : ∀ k, 322 ≤ k → k < 323 → zcw k ∈ lw_tbl := fun k h1 h2 => (show k = 322 by omega) ▸ z_c322
theorem z_t323_324 : ∀ k, 323 ≤ k → k < 324 → zcw k ∈ lw_tbl := fun k h1 h2 => (show k = 323 by omega) ▸ z_c323
theorem z_t324_325 : ∀ k, 324 ≤ k → k < 325 → zcw k ∈ lw_tbl := fun k h1 h2 => (show k = 324 by omega) ▸ z_c324
theorem z_t325_326 : ∀ k, 325 ≤ k → k < 326 → zcw k ∈ lw_tbl := fun k h1 h2 => (show k = 325 by omega) ▸ z_c325
theorem z_t326_327 : ∀ k, 326 ≤ k → k < 327 → zcw k ∈ lw_tbl := fun k h1 h2 => (show k = 326 by omega) ▸ z_c326
theorem z_t327_328 : ∀ k, 327 ≤ k → k < 328 → zcw k ∈ lw_tbl := fun k h1 h2 => (show k = 327 by omega) ▸ z_c327
theorem z_t328_329 : ∀ k, 328 ≤ k → k < 329 → zcw k ∈ lw_tbl := fun k h1 h2 => (show k = 328 by omega) ▸ z_c328
theorem z_t329_330 : ∀ k, 329 ≤ k → k < 330 → zcw k ∈ lw_tbl := fun k h1 h2 => (show k = 329 by omega) ▸ z_c329
theorem z_t330_331 : ∀ k, 330 ≤ k → k < 331 → zcw k ∈ lw_tbl := fun k h1 h2 => (show k = 330 by omega) ▸ z_c330
theorem z_t331_332 : ∀ k, 331 ≤ k → k < 332 → zcw k ∈ lw_tbl := fun k h1 h2 => (show k = 331 by omega) ▸ z_c331
theorem z_t1_3 : ∀ k, 1 ≤ k → k < 3 → zcw k ∈ lw_tbl := fun k h1 h2 => (Nat.lt_or_ge k 2).elim (fun h => z_t1_2 k h1 h) (fun h => z_t2_3 k h h2)
theorem z_t4_6 : ∀ k, 4 ≤ k → k < 6 → zcw k ∈ lw_tbl := fun k h1 h2 => (Nat.lt_or_ge k 5).elim (fun h => z_t4_5 k h1 h) (fun h => z_t5_6 k h h2)
theorem z_t3_6 : ∀ k, 3 ≤ k → k < 6 → zcw k ∈ lw_tbl := fun k h1 h2 => (Nat.lt_or_ge k 4).elim (fun h => z_t3_4 k h1 h) (fun h => z_t4_6 k h h2)
theorem z_t1_6 : ∀ k, 1 ≤ k → k < 6 → zcw k ∈ lw_tbl := fun k h1 h2 => (Nat.lt_or_ge k 3).elim (fun h => z_t1_3 k h1 h) (fun h => z_t3_6 k h h2)
theorem z_t6_8 : ∀ k, 6 ≤ k → k < 8 → zcw k ∈ lw_tbl := fun k h1 h2 => (Nat.lt_or_ge k 7).elim (fun h => z_t6_7 k h1 h) (fun h => z_t7_8 k h h2)
theorem z_t9_11 : ∀ k, 9 ≤ k → k < 11 → zcw k ∈ lw_tbl := fun k h1 h2 => (Nat.lt_or_ge k 10).elim (fun h => z_t9_10 k h1 h) (fun h => z_t10_11 k h h2)
theorem z_t8_11 : ∀ k, 8 ≤ k → k < 11 → zcw k ∈ lw_tbl := fun k h1 h2 => (Nat.lt_or_ge k 9).elim (fun h => z_t8_9 k h1 h) (fun h => z_t9_11 k h h2)
theorem z_t6_11 : ∀ k, 6 ≤ k → k < 11 → zcw k ∈ lw_tbl := fun k h1 h2 => (Nat.lt_or_ge k 8).elim (fun h => z_t6_8 k h1 h) (fun h => z_t8_11 k h h2)
theorem z_t1_11 : ∀ k, 1 ≤ k → k < 11 → zcw k ∈ lw_tbl := fun k h1 h2 => (Nat.lt_or_ge k 6).elim (fun h => z_t1_6 k h1 h) (fun h => z_t6_11 k h h2)
theorem z_t11_13 : ∀ k, 11 ≤ k → k < 13 → zcw k ∈ lw_tbl := fun k h1 h2 => (Nat.lt_or_ge k 12).elim (fun h => z_t11_12 k h1 h) (fun h => z_t12_13 k h h2)
theorem z_t14_16 : ∀ k, 14 ≤ k → k < 16 → zcw k ∈ lw_tbl := fun k h1 h2 => (Nat.lt_or_ge k 15).elim (fun h => z_t14_15 k h1 h) (fun h => z_t15_16 k h h2)
theorem z_t13_16 : ∀ k, 13 ≤ k → k < 16 → zcw k ∈ lw_tbl := fun k h1 h2 => (Nat.lt_or_ge k 14).elim (fun h => z_t13_14 k h1 h) (fun h => z_t14_16 k h h2)
theorem z_t11_16 : ∀ k, 11 ≤ k → k < 16 → zcw k ∈ lw_tbl := fun k h1 h2 => (Nat.lt_or_ge k 13).elim (fun h => z_t11_13 k h1 h) (fun h => z_t13_16 k h h2)
theorem z_t16_18 : ∀ k, 16 ≤ k → k < 18 → zcw k ∈ lw_tbl := fun k h1 h2 => (Nat.lt_or_ge k 17).elim (fun h => z_t16_17 k h1 h) (fun h => z_t17_18 k h h2)
theorem z_t19_21 : ∀ k, 19 ≤ k → k < 21 → zcw k ∈ lw_tbl := fun k h1 h2 => (Nat.lt_or_ge k 20).elim (fun h => z_t19_20 k h1 h) (fun h => z_t20_21 k h h2)
theorem z_t18_21 : ∀ k, 18 ≤ k → k < 21 → zcw k ∈ lw_tbl := fun k h1 h2 => (Nat.lt_or_ge k 19).elim (fun h => z_t18_19 k h1 h) (fun h => z_t19_21 k h h2)
theorem z_t16_21 : ∀ k, 16 ≤ k → k < 21 → zcw k ∈ lw_tbl := fun k h1 h2 => (Nat.lt_or_ge k 18).elim (fun h => z_t16_18 k h1 h) (fun h => z_t18_21 k h h2)
theorem z_t11_21 : ∀ k, 11 ≤ k → k < 21 → zcw k ∈ lw_tbl := fun k h1 h2 => (Nat.lt_or_ge k 16).elim (fun h => z_t11_16 k h1 h) (fun h => z_t16_21 k h h2)
theorem z_t1_21 : ∀ k, 1 ≤ k → k < 21 → zcw k ∈ lw_tbl := fun k h1 h2 => (Nat.lt_or_ge k 11).elim (fun h => z_t1_11 k h1 h) (fun h => z_t11_21 k h h2)
theorem z_t21_23 : ∀ k, 21 ≤ k → k < 23 → zcw k ∈ lw_tbl := fun k h1 h2 => (Nat.lt_or_ge k 22).elim (fun h => z_t21_22 k h1 h) (fun h => z_t22_23 k h h2)
theorem z_t24_26 : ∀ k, 24 ≤ k → k < 26 → zcw k ∈ lw_tbl := fun k h1 h2 => (Nat.lt_or_ge k 25).elim (fun h => z_t24_25 k h1 h) (fun h => z_t25_26 k h h2)
theorem z_t23_26 : ∀ k, 23 ≤ k → k < 26 → zcw k ∈ lw_tbl := fun k h1 h2 => (Nat.lt_or_ge k 24).elim (fun h => z_t23_24 k h1 h) (fun h => z_t24_26 k h h2)
theorem z_t21_26 : ∀ k, 21 ≤ k → k < 26 → zcw k ∈ lw_tbl := fun k h1 h2 => (Nat.lt_or_ge k 23).elim (fun h => z_t21_23 k h1 h) (fun h => z_t23_26 k h h2)
theorem z_t26_28 : ∀ k, 26 ≤ k → k < 28 → zcw k ∈ lw_tbl := fun k h1 h2 => (Nat.lt_or_ge k 27).elim (fun h => z_t26_27 k h1 h) (fun h => z_t27_28 k h h2)
theorem z_t29_31 : ∀ k, 29 ≤ k → k < 31 → zcw k ∈ lw_tbl := fun k h1 h2 => (Nat.lt_or_ge k 30).elim (fun h => z_t29_30 k h1 h) (fun h => z_t30_31 k h h2)
theorem z_t28_31 : ∀ k, 28 ≤ k → k < 31 → zcw k ∈ lw_tbl := fun k h1 h2 => (Nat.lt_or_ge k 29).elim (fun h => z_t28_29 k h1 h) (fun h => z_t29_31 k h h2)
theorem z_t26_31 : ∀ k, 26 ≤ k → k < 31 → zcw k ∈ lw_tbl := fun k h1 h2 => (Nat.lt_or_ge k 28).elim (fun h => z_t26_28 k h1 h) (fun h => z_t28_31 k h h2)
theorem z_t21_31 : ∀ k, 21 ≤ k → k < 31 → zcw k ∈ lw_tbl := fun k h1 h2 => (Nat.lt_or_ge k 26).elim (fun h => z_t21_26 k h1 h) (fun h => z_t26_31 k h h2)
theorem z_t31_33 : ∀ k, 31 ≤ k → k < 33 → zcw k ∈ lw_tbl := fun k h1 h2 => (Nat.lt_or_ge k 32).elim (fun h => z_t31_32 k h1 h) (fun h => z_t32_33 k h h2)
theorem z_t34_36 : ∀ k, 34 ≤ k → k < 36 → zcw k ∈ lw_tbl := fun k h1 h2 => (Nat.lt_or_ge k 35).elim (fun h => z_t34_35 k h1 h) (fun h => z_t35_36 k h h2)
theorem z_t33_36 : ∀ k, 33 ≤ k → k < 36 → zcw k ∈ lw_tbl := fun k h1 h2 => (Nat.lt_or_ge k 34).elim (fun h => z_t33_34 k h1 h) (fun h => z_t34_36 k h h2)
theorem z_t31_36 : ∀ k, 31 ≤ k → k < 36 → zcw k ∈ lw_tbl := fun k h1 h2 => (Nat.lt_or_ge k 33).elim (fun h => z_t31_33 k h1 h) (fun h => z_t33_36 k h h2)
theorem z_t37_39 : ∀ k, 37 ≤ k → k < 39 → zcw k ∈ lw_tbl := fun k h1 h2 => (Nat.lt_or_ge k 38).elim (fun h => z_t37_38 k h1 h) (fun h => z_t38_39 k h h2)
theorem z_t36_39 : ∀ k, 36 ≤ k → k < 39 → zcw k ∈ lw_tbl := fun k h1 h2 => (Nat.lt_or_ge k 37).elim (fun h => z_t36_37 k h1 h) (fun h => z_t37_39 k h h2)
theorem z_t40_42 : ∀ k, 40 ≤ k → k < 42 → zcw k ∈ lw_tbl := fun k h1 h2 => (Nat.lt_or_ge k 41).elim (fun h => z_t40_41 k h1 h) (fun h => z_t41_42 k h h2)
theorem z_t39_42 : ∀ k, 39 ≤ k → k < 42 → zcw k ∈ lw_tbl := fun k h1 h2 => (Nat.lt_or_ge k 40).elim (fun h => z_t39_40 k h1 h) (fun h => z_t40_42 k h h2)
theorem z_t36_42 : ∀ k, 36 ≤ k → k < 42 → zcw k ∈ lw_tbl := fun k h1 h2 => (Nat.lt_or_ge k 39).elim (fun h => z_t36_39 k h1 h) (fun h => z_t39_42 k h h2)
theorem z_t31_42 : ∀ k, 31 ≤ k → k < 42 → zcw k ∈ lw_tbl := fun k h1 h2 => (Nat.lt_or_ge k 36).elim (fun h => z_t31_36 k h1 h) (fun h => z_t36_42 k h h2)
theorem z_t21_42 : ∀ k, 21 ≤ k → k < 42 → zcw k ∈ lw_tbl := fun k h1 h2 => (Nat.lt_or_ge k 31).elim (fun h => z_t21_31 k h1 h) (fun h => z_t31_42 k h h2)
theorem z_t1_42 : ∀ k, 1 ≤ k → k < 42 → zcw k ∈ lw_tbl := fun k h1 h2 => (Nat.lt_or_ge k 21).elim (fun h => z_t1_21 k h1 h) (fun h => z_t21_42 k h h2)
theorem z_t42_44 : ∀ k, 42 ≤ k → k < 44 → zcw k ∈ lw_tbl := fun k h1 h2 => (Nat.lt_or_ge k 43).elim (fun h => z_t42_43 k h1 h) (fun h => z_t43_44 k h h2)
theorem z_t45_47 : ∀ k, 45 ≤ k → k < 47 → zcw k ∈ lw_tbl := fun k h1 h2 => (Nat.lt_or_ge k 46).elim (fun h => z_t45_46 k h1 h) (fun h => z_t46_47 k h h2)
theorem z_t44_47 : ∀ k, 44 ≤ k → k < 47 → zcw k ∈ lw_tbl := fun k h1 h2 => (Nat.lt_or_ge k 45).elim (fun h => z_t44_45 k h1 h) (fun h => z_t45_47 k h h2)
theorem z_t42_47 : ∀ k, 42 ≤ k → k < 47 → zcw k ∈ lw_tbl := fun k h1 h2 => (Nat.lt_or_ge k 44).elim (fun h => z_t42_44 k h1 h) (fun h => z_t44_47 k h h2)
theorem z_t47_49 : ∀ k, 47 ≤ k → k < 49 → zcw k ∈ lw_tbl := fun k h1 h2 => (Nat.lt_or_ge k 48).elim (fun h => z_t47_48 k h1 h) (fun h => z_t48_49 k h h2)
theorem z_t50_52 : ∀ k, 50 ≤ k → k < 52 → zcw k ∈ lw_tbl := fun k h1 h2 => (Nat.lt_or_ge k 51).elim (fun h => z_t50_51 k h1 h) (fun h => z_t51_52 k h h2)
theorem z_t49_52 : ∀ k, 49 ≤ k → k < 52 → zcw k ∈ lw_tbl := fun k h1 h2 => (Nat.lt_or_ge k 50).elim (fun h => z_t49_50 k h1 h) (fun h => z_t50_52 k h h2)
theorem z_t47_52 : ∀ k, 47 ≤ k → k < 52 → zcw k ∈ lw_tbl := fun k h1 h2 => (Nat.lt_or_ge k 49).elim (fun h => z_t47_49 k h1 h) (fun h => z_t49_52 k h h2)
theorem z_t42_52 : ∀ k, 42 ≤ k → k < 52 → zcw k ∈ lw_tbl := fun k h1 h2 => (Nat.lt_or_ge k 47).elim (fun h => z_t42_47 k h1 h) (fun h => z_t47_52 k h h2)
theorem z_t52_54 : ∀ k, 52 ≤ k → k < 54 → zcw k ∈ lw_tbl := fun k h1 h2 => (Nat.lt_or_ge k 53).elim (fun h => z_t52_53 k h1 h) (fun h => z_t53_54 k h h2)
theorem z_t55_57 : ∀ k, 55 ≤ k → k < 57 → zcw k ∈ lw_tbl := fun k h1 h2 => (Nat.lt_or_ge k 56).elim (fun h => z_t55_56 k h1 h) (fun h => z_t56_57 k h h2)
theorem z_t54_57 : ∀ k, 54 ≤ k → k < 57 → zcw k ∈ lw_tbl := fun k h1 h2 => (Nat.lt_or_ge k 55).elim (fun h => z_t54_55 k h1 h) (fun h => z_t55_57 k h h2)
theorem z_t52_57 : ∀ k, 52 ≤ k → k < 57 → zcw k ∈ lw_tbl := fun k h1 h2 => (Nat.lt_or_ge k 54).elim (fun h => z_t52_54 k h1 h) (fun h => z_t54_57 k h h2)
theorem z_t57_59 : ∀ k, 57 ≤ k → k < 59 → zcw k ∈ lw_tbl := fun k h1 h2 => (Nat.lt_or_ge k 58).elim (fun h => z_t57_58 k h1 h) (fun h => z_t58_59 k h h2)
theorem z_t60_62 : ∀ k, 60 ≤ k → k < 62 → zcw k ∈ lw_tbl := fun k h1 h2 => (Nat.lt_or_ge k 61).elim (fun h => z_t60_61 k h1 h) (fun h => z_t61_62 k h h2)
theorem z_t59_62 : ∀ k, 59 ≤ k → k < 62 → zcw k ∈ lw_tbl := fun k h1 h2 => (Nat.lt_or_ge k 60).elim (fun h => z_t59_60 k h1 h) (fun h => z_t60_62 k h h2)
theorem z_t57_62 : ∀ k, 57 ≤ k → k < 62 → zcw k ∈ lw_tbl := fun k h1 h2 => (Nat.lt_or_ge k 59).elim (fun h => z_t57_59 k h1 h) (fun h => z_t59_62 k h h2)
theorem z_t52_62 : ∀ k, 52 ≤ k → k < 62 → zcw k ∈ lw_tbl := fun k h1 h2 => (Nat.lt_or_ge k 57).elim (fun h => z_t52_57 k h1 h) (fun h => z_t57_62 k h h2)
theorem z_t42_62 : ∀ k, 42 ≤ k → k < 62 → zcw k ∈ lw_tbl := fun k h1 h2 => (Nat.lt_or_ge k 52).elim (fun h => z_t42_52 k h1 h) (fun h => z_t52_62 k h h2)
theorem z_t62_64 : ∀ k, 62 ≤ k → k < 64 → zcw k ∈ lw_tbl := fun k h1 h2 => (Nat.lt_or_ge k 63).elim (fun h => z_t62_63 k h1 h) (fun h => z_t63_64 k h h2)
theorem z_t65_67 : ∀ k, 65 ≤ k → k < 67 → zcw k ∈ lw_tbl := fun k h1 h2 => (Nat.lt_or_ge k 66).elim (fun h => z_t65_66 k h1 h) (fun h => z_t66_67 k h h2)
theorem z_t64_67 : ∀ k, 64 ≤ k → k < 67 → zcw k ∈ lw_tbl := fun k h1 h2 => (Nat.lt_or_ge k 65).elim (fun h => z_t64_65 k h1 h) (fun h => z_t65_67 k h h2)
theorem z_t62_67 : ∀ k, 62 ≤ k → k < 67 → zcw k ∈ lw_tbl := fun k h1 h2 => (Nat.lt_or_ge k 64).elim (fun h => z_t62_64 k h1 h) (fun h => z_t64_67 k h h2)
theorem z_t67_69 : ∀ k, 67 ≤ k → k < 69 → zcw k ∈ lw_tbl := fun k h1 h2 => (Nat.lt_or_ge k 68).elim (fun h => z_t67_68 k h1 h) (fun h => z_t68_69 k h h2)
theorem z_t70_72 : ∀ k, 70 ≤ k → k < 72 → zcw k ∈ lw_tbl := fun k h1 h2 => (Nat.lt_or_ge k 71).elim (fun h => z_t70_71 k h1 h) (fun h => z_t71_72 k h h2)
theorem z_t69_72 : ∀ k, 69 ≤ k → k < 72 → zcw k ∈ lw_tbl := fun k h1 h2 => (Nat.lt_or_ge k 70).elim (fun h => z_t69_70 k h1 h) (fun h => z_t70_72 k h h2)
theorem z_t67_72 : ∀ k, 67 ≤ k → k < 72 → zcw k ∈ lw_tbl := fun k h1 h2 => (Nat.lt_or_ge k 69).elim (fun h => z_t67_69 k h1 h) (fun h => z_t69_72 k h h2)
theorem z_t62_72 : ∀ k, 62 ≤ k → k < 72 → zcw k ∈ lw_tbl := fun k h1 h2 => (Nat.lt_or_ge k 67).elim (fun h => z_t62_67 k h1 h) (fun h => z_t67_72 k h h2)
theorem z_t72_74 : ∀ k, 72 ≤ k → k < 74 → zcw k ∈ lw_tbl := fun k h1 h2 => (Nat.lt_or_ge k 73).elim (fun h => z_t72_73 k h1 h) (fun h => z_t73_74 k h h2)
theorem z_t75_77 : ∀ k, 75 ≤ k → k < 77 → zcw k ∈ lw_tbl := fun k h1 h2 => (Nat.lt_or_ge k 76).elim (fun h => z_t75_76 k h1 h) (fun h => z_t76_77 k h h2)
theorem z_t74_77 : ∀ k, 74 ≤ k → k < 77 → zcw k ∈ lw_tbl := fun k h1 h2 => (Nat.lt_or_ge k 75).elim (fun h => z_t74_75 k h1 h) (fun h => z_t75_77 k h h2)
theorem z_t72_77 : ∀ k, 72 ≤ k → k < 77 → zcw k ∈ lw_tbl := fun k h1 h2 => (Nat.lt_or_ge k 74).elim (fun h => z_t72_74 k h1 h) (fun h => z_t74_77 k h h2)
theorem z_t78_80 : ∀ k, 78 ≤ k → k < 80 → zcw k ∈ lw_tbl := fun k h1 h2 => (Nat.lt_or_ge k 79).elim (fun h => z_t78_79 k h1 h) (fun h => z_t79_80 k h h2)
theorem z_t77_80 : ∀ k, 77 ≤ k → k < 80 → zcw k ∈ lw_tbl := fun k h1 h2 => (Nat.lt_or_ge k 78).elim (fun h => z_t77_78 k h1 h) (fun h => z_t78_80 k h h2)
theorem z_t81_83 : ∀ k, 81 ≤ k → k < 83 → zcw k ∈ lw_tbl := fun k h1 h2 => (Nat.lt_or_ge k 82).elim (fun h => z_t81_82 k h1 h) (fun h => z_t82_83 k h h2)
theorem z_t80_83 : ∀ k, 80 ≤ k → k < 83 → zcw k ∈ lw_tbl := fun k h1 h2 => (Nat.lt_or_ge k 81).elim (fun h => z_t80_81 k h1 h) (fun h => z_t81_83 k h h2)
theorem z_t77_83 : ∀ k, 77 ≤ k → k < 83 → zcw k ∈ lw_tbl := fun k h1 h2 => (Nat.lt_or_ge k 80).elim (fun h => z_t77_80 k h1 h) (fun h => z_t80_83 k h h2)
theorem z_t72_83 : ∀ k, 72 ≤ k → k < 83 → zcw k ∈ lw_tbl := fun k h1 h2 => (Nat.lt_or_ge k 77).elim (fun h => z_t72_77 k h1 h) (fun h => z_t77_83 k h h2)
theorem z_t62_83 : ∀ k, 62 ≤ k → k < 83 → zcw k ∈ lw_tbl := fun k h1 h2 => (Nat.lt_or_ge k 72).elim (fun h => z_t62_72 k h1 h) (fun h => z_t72_83 k h h2)
theorem z_t42_83 : ∀ k, 42 ≤ k → k < 83 → zcw k ∈ lw_tbl := fun k h1 h2 => (Nat.lt_or_ge k 62).elim (fun h => z_t42_62 k h1 h) (fun h => z_t62_83 k h h2)
theorem z_t1_83 : ∀ k, 1 ≤ k → k < 83 → zcw k ∈ lw_tbl := fun k h1 h2 => (Nat.lt_or_ge k 42).elim (fun h => z_t1_42 k h1 h) (fun h => z_t42_83 k h h2)
theorem z_t83_85 : ∀ k, 83 ≤ k → k < 85 → zcw k ∈ lw_tbl := fun k h1 h2 => (Nat.lt_or_ge k 84).elim (fun h => z_t83_84 k h1 h) (fun h => z_t84_85 k h h2)
theorem z_t86_88 : ∀ k, 86 ≤ k → k < 88 → zcw k ∈ lw_tbl := fun k h1 h2 => (Nat.lt_or_ge k 87).elim (fun h => z_t86_87 k h1 h) (fun h => z_t87_88 k h h2)
theorem z_t85_88 : ∀ k, 85 ≤ k → k < 88 → zcw k ∈ lw_tbl := fun k h1 h2 => (Nat.lt_or_ge k 86).elim (fun h => z_t85_86 k h1 h) (fun h => z_t86_88 k h h2)
theorem z_t83_88 : ∀ k, 83 ≤ k → k < 88 → zcw k ∈ lw_tbl := fun k h1 h2 => (Nat.lt_or_ge k 85).elim (fun h => z_t83_85 k h1 h) (fun h => z_t85_88 k h h2)
theorem z_t88_90 : ∀ k, 88 ≤ k → k < 90 → zcw k ∈ lw_tbl := fun k h1 h2 => (Nat.lt_or_ge k 89).elim (fun h => z_t88_89 k h1 h) (fun h => z_t89_90 k h h2)
theorem z_t91_93 : ∀ k, 91 ≤ k → k < 93 → zcw k ∈ lw_tbl := fun k h1 h2 => (Nat.lt_or_ge k 92).elim (fun h => z_t91_92 k h1 h) (fun h => z_t92_93 k h h2)
theorem z_t90_93 : ∀ k, 90 ≤ k → k < 93 → zcw k ∈ lw_tbl := fun k h1 h2 => (Nat.lt_or_ge k 91).elim (fun h => z_t90_91 k h1 h) (fun h => z_t91_93 k h h2)
theorem z_t88_93 : ∀ k, 88 ≤ k → k < 93 → zcw k ∈ lw_tbl := fun k h1 h2 => (Nat.lt_or_ge k 90).elim (fun h => z_t88_90 k h1 h) (fun h => z_t90_93 k h h2)
theorem z_t83_93 : ∀ k, 83 ≤ k → k < 93 → zcw k ∈ lw_tbl := fun k h1 h2 => (Nat.lt_or_ge k 88).elim (fun h => z_t83_88 k h1 h) (fun h => z_t88_93 k h h2)
theorem z_t93_95 : ∀ k, 93 ≤ k → k < 95 → zcw k ∈ lw_tbl := fun k h1 h2 => (Nat.lt_or_ge k 94).elim (fun h => z_t93_94 k h1 h) (fun h => z_t94_95 k h h2)
theorem z_t96_98 : ∀ k, 96 ≤ k → k < 98 → zcw k ∈ lw_tbl := fun k h1 h2 => (Nat.lt_or_ge k 97).elim (fun h => z_t96_97 k h1 h) (fun h => z_t97_98 k h h2)
theorem z_t95_98 : ∀ k, 95 ≤ k → k < 98 → zcw k ∈ lw_tbl := fun k h1 h2 => (Nat.lt_or_ge k 96).elim (fun h => z_t95_96 k h1 h) (fun h => z_t96_98 k h h2)
theorem z_t93_98 : ∀ k, 93 ≤ k → k < 98 → zcw k ∈ lw_tbl := fun k h1 h2 => (Nat.lt_or_ge k 95).elim (fun h => z_t93_95 k h1 h) (fun h => z_t95_98 k h h2)
theorem z_t98_100 : ∀ k, 98 ≤ k → k < 100 → zcw k ∈ lw_tbl := fun k h1 h2 => (Nat.lt_or_ge k 99).elim (fun h => z_t98_99 k h1 h) (fun h => z_t99_100 k h h2)
theorem z_t101_103 : ∀ k, 101 ≤ k → k < 103 → zcw k ∈ lw_tbl := fun k h1 h2 => (Nat.lt_or_ge k 102).elim (fun h => z_t101_102 k h1 h) (fun h => z_t102_103 k h h2)
theorem z_t100_103 : ∀ k, 100 ≤ k → k < 103 → zcw k ∈ lw_tbl := fun k h1 h2 => (Nat.lt_or_ge k 101).elim (fun h => z_t100_101 k h1 h) (fun h => z_t101_103 k h h2)
theorem z_t98_103 : ∀ k, 98 ≤ k → k < 103 → zcw k ∈ lw_tbl := fun k h1 h2 => (Nat.lt_or_ge k 100).elim (fun h => z_t98_100 k h1 h) (fun h => z_t100_103 k h h2)
theorem z_t93_103 : ∀ k, 93 ≤ k → k < 103 → zcw k ∈ lw_tbl := fun k h1 h2 => (Nat.lt_or_ge k 98).elim (fun h => z_t93_98 k h1 h) (fun h => z_t98_103 k h h2)
theorem z_t83_103 : ∀ k, 83 ≤ k → k < 103 → zcw k ∈ lw_tbl := fun k h1 h2 => (Nat.lt_or_ge k 93).elim (fun h => z_t83_93 k h1 h) (fun h => z_t93_103 k h h2)
theorem z_t103_105 : ∀ k, 103 ≤ k → k < 105 → zcw k ∈ lw_tbl := fun k h1 h2 => (Nat.lt_or_ge k 104).elim (fun h => z_t103_104 k h1 h) (fun h => z_t104_105 k h h2)
theorem z_t106_108 : ∀ k, 106 ≤ k → k < 108 → zcw k ∈ lw_tbl := fun k h1 h2 => (Nat.lt_or_ge k 107).elim (fun h => z_t106_107 k h1 h) (fun h => z_t107_108 k h h2)
theorem z_t105_108 : ∀ k, 105 ≤ k → k < 108 → zcw k ∈ lw_tbl := fun k h1 h2 => (Nat.lt_or_ge k 106).elim (fun h => z_t105_106 k h1 h) (fun h => z_t106_108 k h h2)
theorem z_t103_108 : ∀ k, 103 ≤ k → k < 108 → zcw k ∈ lw_tbl := fun k h1 h2 => (Nat.lt_or_ge k 105).elim (fun h => z_t103_105 k h1 h) (fun h => z_t105_108 k h h2)
theorem z_t108_110 : ∀ k, 108 ≤ k → k < 110 → zcw k ∈ lw_tbl := fun k h1 h2 => (Nat.lt_or_ge k 109).elim (fun h => z_t108_109 k h1 h) (fun h => z_t109_110 k h h2)
theorem z_t111_113 : ∀ k, 111 ≤ k → k < 113 → zcw k ∈ lw_tbl := fun k h1 h2 => (Nat.lt_or_ge k 112).elim (fun h => z_t111_112 k h1 h) (fun h => z_t112_113 k h h2)
theorem z_t110_113 : ∀ k, 110 ≤ k → k < 113 → zcw k ∈ lw_tbl := fun k h1 h2 => (Nat.lt_or_ge k 111).elim (fun h => z_t110_111 k h1 h) (fun h => z_t111_113 k h h2)
theorem z_t108_113 : ∀ k, 108 ≤ k → k < 113 → zcw k ∈ lw_tbl := fun k h1 h2 => (Nat.lt_or_ge k 110).elim (fun h => z_t108_110 k h1 h) (fun h => z_t110_113 k h h2)
theorem z_t103_113 : ∀ k, 103 ≤ k → k < 113 → zcw k ∈ lw_tbl := fun k h1 h2 => (Nat.lt_or_ge k 108).elim (fun h => z_t103_108 k h1 h) (fun h => z_t108_113 k h h2)
theorem z_t113_115 : ∀ k, 113 ≤ k → k < 115 → zcw k ∈ lw_tbl := fun k h1 h2 => (Nat.lt_or_ge k 114).elim (fun h => z_t113_114 k h1 h) (fun h => z_t114_115 k h h2)
theorem z_t116_118 : ∀ k, 116 ≤ k → k < 118 → zcw k ∈ lw_tbl := fun k h1 h2 => (Nat.lt_or_ge k 117).elim (fun h => z_t116_117 k h1 h) (fun h => z_t117_118 k h h2)
theorem z_t115_118 : ∀ k, 115 ≤ k → k < 118 → zcw k ∈ lw_tbl := fun k h1 h2 => (Nat.lt_or_ge k 116).elim (fun h => z_t115_116 k h1 h) (fun h => z_t116_118 k h h2)
theorem z_t113_118 : ∀ k, 113 ≤ k → k < 118 → zcw k ∈ lw_tbl := fun k h1 h2 => (Nat.lt_or_ge k 115).elim (fun h => z_t113_115 k h1 h) (fun h => z_t115_118 k h h2)
theorem z_t119_121 : ∀ k, 119 ≤ k → k < 121 → zcw k ∈ lw_tbl := fun k h1 h2 => (Nat.lt_or_ge k 120).elim (fun h => z_t119_120 k h1 h) (fun h => z_t120_121 k h h2)
theorem z_t118_121 : ∀ k, 118 ≤ k → k < 121 → zcw k ∈ lw_tbl := fun k h1 h2 => (Nat.lt_or_ge k 119).elim (fun h => z_t118_119 k h1 h) (fun h => z_t119_121 k h h2)
theorem z_t122_124 : ∀ k, 122 ≤ k → k < 124 → zcw k ∈ lw_tbl := fun k h1 h2 => (Nat.lt_or_ge k 123).elim (fun h => z_t122_123 k h1 h) (fun h => z_t123_124 k h h2)
theorem z_t121_124 : ∀ k, 121 ≤ k → k < 124 → zcw k ∈ lw_tbl := fun k h1 h2 => (Nat.lt_or_ge k 122).elim (fun h => z_t121_122 k h1 h) (fun h => z_t122_124 k h h2)
theorem z_t118_124 : ∀ k, 118 ≤ k → k < 124 → zcw k ∈ lw_tbl := fun k h1 h2 => (Nat.lt_or_ge k 121).elim (fun h => z_t118_121 k h1 h) (fun h => z_t121_124 k h h2)
theorem z_t113_124 : ∀ k, 113 ≤ k → k < 124 → zcw k ∈ lw_tbl := fun k h1 h2 => (Nat.lt_or_ge k 118).elim (fun h => z_t113_118 k h1 h) (fun h => z_t118_124 k h h2)
theorem z_t103_124 : ∀ k, 103 ≤ k → k < 124 → zcw k ∈ lw_tbl := fun k h1 h2 => (Nat.lt_or_ge k 113).elim (fun h => z_t103_113 k h1 h) (fun h => z_t113_124 k h h2)
theorem z_t83_124 : ∀ k, 83 ≤ k → k < 124 → zcw k ∈ lw_tbl := fun k h1 h2 => (Nat.lt_or_ge k 103).elim (fun h => z_t83_103 k h1 h) (fun h => z_t103_124 k h h2)
theorem z_t124_126 : ∀ k, 124 ≤ k → k < 126 → zcw k ∈ lw_tbl := fun k h1 h2 => (Nat.lt_or_ge k 125).elim (fun h => z_t124_125 k h1 h) (fun h => z_t125_126 k h h2)
theorem z_t127_129 : ∀ k, 127 ≤ k → k < 129 → zcw k ∈ lw_tbl := fun k h1 h2 => (Nat.lt_or_ge k 128).elim (fun h => z_t127_128 k h1 h) (fun h => z_t128_129 k h h2)
theorem z_t126_129 : ∀ k, 126 ≤ k → k < 129 → zcw k ∈ lw_tbl := fun k h1 h2 => (Nat.lt_or_ge k 127).elim (fun h => z_t126_127 k h1 h) (fun h => z_t127_129 k h h2)
theorem z_t124_129 : ∀ k, 124 ≤ k → k < 129 → zcw k ∈ lw_tbl := fun k h1 h2 => (Nat.lt_or_ge k 126).elim (fun h => z_t124_126 k h1 h) (fun h => z_t126_129 k h h2)
theorem z_t129_131 : ∀ k, 129 ≤ k → k < 131 → zcw k ∈ lw_tbl := fun k h1 h2 => (Nat.lt_or_ge k 130).elim (fun h => z_t129_130 k h1 h) (fun h => z_t130_131 k h h2)
theorem z_t132_134 : ∀ k, 132 ≤ k → k < 134 → zcw k ∈ lw_tbl := fun k h1 h2 => (Nat.lt_or_ge k 133).elim (fun h => z_t132_133 k h1 h) (fun h => z_t133_134 k h h2)
theorem z_t131_134 : ∀ k, 131 ≤ k → k < 134 → zcw k ∈ lw_tbl := fun k h1 h2 => (Nat.lt_or_ge k 132).elim (fun h => z_t131_132 k h1 h) (fun h => z_t132_134 k h h2)
theorem z_t129_134 : ∀ k, 129 ≤ k → k < 134 → zcw k ∈ lw_tbl := fun k h1 h2 => (Nat.lt_or_ge k 131).elim (fun h => z_t129_131 k h1 h) (fun h => z_t131_134 k h h2)
theorem z_t124_134 : ∀ k, 124 ≤ k → k < 134 → zcw k ∈ lw_tbl := fun k h1 h2 => (Nat.lt_or_ge k 129).elim (fun h => z_t124_129 k h1 h) (fun h => z_t129_134 k h h2)
theorem z_t134_136 : ∀ k, 134 ≤ k → k < 136 → zcw k ∈ lw_tbl := fun k h1 h2 => (Nat.lt_or_ge k 135).elim (fun h => z_t134_135 k h1 h) (fun h => z_t135_136 k h h2)
theorem z_t137_139 : ∀ k, 137 ≤ k → k < 139 → zcw k ∈ lw_tbl := fun k h1 h2 => (Nat.lt_or_ge k 138).elim (fun h => z_t137_138 k h1 h) (fun h => z_t138_139 k h h2)
theorem z_t136_139 : ∀ k, 136 ≤ k → k < 139 → zcw k ∈ lw_tbl := fun k h1 h2 => (Nat.lt_or_ge k 137).elim (fun h => z_t136_137 k h1 h) (fun h => z_t137_139 k h h2)
theorem z_t134_139 : ∀ k, 134 ≤ k → k < 139 → zcw k ∈ lw_tbl := fun k h1 h2 => (Nat.lt_or_ge k 136).elim (fun h => z_t134_136 k h1 h) (fun h => z_t136_139 k h h2)
theorem z_t140_142 : ∀ k, 140 ≤ k → k < 142 → zcw k ∈ lw_tbl := fun k h1 h2 => (Nat.lt_or_ge k 141).elim (fun h => z_t140_141 k h1 h) (fun h => z_t141_142 k h h2)
theorem z_t139_142 : ∀ k, 139 ≤ k → k < 142 → zcw k ∈ lw_tbl := fun k h1 h2 => (Nat.lt_or_ge k 140).elim (fun h => z_t139_140 k h1 h) (fun h => z_t140_142 k h h2)
theorem z_t143_145 : ∀ k, 143 ≤ k → k < 145 → zcw k ∈ lw_tbl := fun k h1 h2 => (Nat.lt_or_ge k 144).elim (fun h => z_t143_144 k h1 h) (fun h => z_t144_145 k h h2)
theorem z_t142_145 : ∀ k, 142 ≤ k → k < 145 → zcw k ∈ lw_tbl := fun k h1 h2 => (Nat.lt_or_ge k 143).elim (fun h => z_t142_143 k h1 h) (fun h => z_t143_145 k h h2)
theorem z_t139_145 : ∀ k, 139 ≤ k → k < 145 → zcw k ∈ lw_tbl := fun k h1 h2 => (Nat.lt_or_ge k 142).elim (fun h => z_t139_142 k h1 h) (fun h => z_t142_145 k h h2)
theorem z_t134_145 : ∀ k, 134 ≤ k → k < 145 → zcw k ∈ lw_tbl := fun k h1 h2 => (Nat.lt_or_ge k 139).elim (fun h => z_t134_139 k h1 h) (fun h => z_t139_145 k h h2)
theorem z_t124_145 : ∀ k, 124 ≤ k → k < 145 → zcw k ∈ lw_tbl := fun k h1 h2 => (Nat.lt_or_ge k 134).elim (fun h => z_t124_134 k h1 h) (fun h => z_t134_145 k h h2)
theorem z_t145_147 : ∀ k, 145 ≤ k → k < 147 → zcw k ∈ lw_tbl := fun k h1 h2 => (Nat.lt_or_ge k 146).elim (fun h => z_t145_146 k h1 h) (fun h => z_t146_147 k h h2)
theorem z_t148_150 : ∀ k, 148 ≤ k → k < 150 → zcw k ∈ lw_tbl := fun k h1 h2 => (Nat.lt_or_ge k 149).elim (fun h => z_t148_149 k h1 h) (fun h => z_t149_150 k h h2)
theorem z_t147_150 : ∀ k, 147 ≤ k → k < 150 → zcw k ∈ lw_tbl := fun k h1 h2 => (Nat.lt_or_ge k 148).elim (fun h => z_t147_148 k h1 h) (fun h => z_t148_150 k h h2)
theorem z_t145_150 : ∀ k, 145 ≤ k → k < 150 → zcw k ∈ lw_tbl := fun k h1 h2 => (Nat.lt_or_ge k 147).elim (fun h => z_t145_147 k h1 h) (fun h => z_t147_150 k h h2)
theorem z_t150_152 : ∀ k, 150 ≤ k → k < 152 → zcw k ∈ lw_tbl := fun k h1 h2 => (Nat.lt_or_ge k 151).elim (fun h => z_t150_151 k h1 h) (fun h => z_t151_152 k h h2)
theorem z_t153_155 : ∀ k, 153 ≤ k → k < 155 → zcw k ∈ lw_tbl := fun k h1 h2 => (Nat.lt_or_ge k 154).elim (fun h => z_t153_154 k h1 h) (fun h => z_t154_155 k h h2)
theorem z_t152_155 : ∀ k, 152 ≤ k → k < 155 → zcw k ∈ lw_tbl := fun k h1 h2 => (Nat.lt_or_ge k 153).elim (fun h => z_t152_153 k h1 h) (fun h => z_t153_155 k h h2)
theorem z_t150_155 : ∀ k, 150 ≤ k → k < 155 → zcw k ∈ lw_tbl := fun k h1 h2 => (Nat.lt_or_ge k 152).elim (fun h => z_t150_152 k h1 h) (fun h => z_t152_155 k h h2)
theorem z_t145_155 : ∀ k, 145 ≤ k → k < 155 → zcw k ∈ lw_tbl := fun k h1 h2 => (Nat.lt_or_ge k 150).elim (fun h => z_t145_150 k h1 h) (fun h => z_t150_155 k h h2)
theorem z_t155_157 : ∀ k, 155 ≤ k → k < 157 → zcw k ∈ lw_tbl := fun k h1 h2 => (Nat.lt_or_ge k 156).elim (fun h => z_t155_156 k h1 h) (fun h => z_t156_157 k h h2)
theorem z_t158_160 : ∀ k, 158 ≤ k → k < 160 → zcw k ∈ lw_tbl := fun k h1 h2 => (Nat.lt_or_ge k 159).elim (fun h => z_t158_159 k h1 h) (fun h => z_t159_160 k h h2)
theorem z_t157_160 : ∀ k, 157 ≤ k → k < 160 → zcw k ∈ lw_tbl := fun k h1 h2 => (Nat.lt_or_ge k 158).elim (fun h => z_t157_158 k h1 h) (fun h => z_t158_160 k h h2)
theorem z_t155_160 : ∀ k, 155 ≤ k → k < 160 → zcw k ∈ lw_tbl := fun k h1 h2 => (Nat.lt_or_ge k 157).elim (fun h => z_t155_157 k h1 h) (fun h => z_t157_160 k h h2)
theorem z_t161_163 : ∀ k, 161 ≤ k → k < 163 → zcw k ∈ lw_tbl := fun k h1 h2 => (Nat.lt_or_ge k 162).elim (fun h => z_t161_162 k h1 h) (fun h => z_t162_163 k h h2)
theorem z_t160_163 : ∀ k, 160 ≤ k → k < 163 → zcw k ∈ lw_tbl := fun k h1 h2 => (Nat.lt_or_ge k 161).elim (fun h => z_t160_161 k h1 h) (fun h => z_t161_163 k h h2)
theorem z_t164_166 : ∀ k, 164 ≤ k → k < 166 → zcw k ∈ lw_tbl := fun k h1 h2 => (Nat.lt_or_ge k 165).elim (fun h => z_t164_165 k h1 h) (fun h => z_t165_166 k h h2)
theorem z_t163_166 : ∀ k, 163 ≤ k → k < 166 → zcw k ∈ lw_tbl := fun k h1 h2 => (Nat.lt_or_ge k 164).elim (fun h => z_t163_164 k h1 h) (fun h => z_t164_166 k h h2)
theorem z_t160_166 : ∀ k, 160 ≤ k → k < 166 → zcw k ∈ lw_tbl := fun k h1 h2 => (Nat.lt_or_ge k 163).elim (fun h => z_t160_163 k h1 h) (fun h => z_t163_166 k h h2)
theorem z_t155_166 : ∀ k, 155 ≤ k → k < 166 → zcw k ∈ lw_tbl := fun k h1 h2 => (Nat.lt_or_ge k 160).elim (fun h => z_t155_160 k h1 h) (fun h => z_t160_166 k h h2)
theorem z_t145_166 : ∀ k, 145 ≤ k → k < 166 → zcw k ∈ lw_tbl := fun k h1 h2 => (Nat.lt_or_ge k 155).elim (fun h => z_t145_155 k h1 h) (fun h => z_t155_166 k h h2)
theorem z_t124_166 : ∀ k, 124 ≤ k → k < 166 → zcw k ∈ lw_tbl := fun k h1 h2 => (Nat.lt_or_ge k 145).elim (fun h => z_t124_145 k h1 h) (fun h => z_t145_166 k h h2)
theorem z_t83_166 : ∀ k, 83 ≤ k → k < 166 → zcw k ∈ lw_tbl := fun k h1 h2 => (Nat.lt_or_ge k 124).elim (fun h => z_t83_124 k h1 h) (fun h => z_t124_166 k h h2)
theorem z_t1_166 : ∀ k, 1 ≤ k → k < 166 → zcw k ∈ lw_tbl := fun k h1 h2 => (Nat.lt_or_ge k 83).elim (fun h => z_t1_83 k h1 h) (fun h => z_t83_166 k h h2)
theorem z_t166_168 : ∀ k, 166 ≤ k → k < 168 → zcw k ∈ lw_tbl := fun k h1 h2 => (Nat.lt_or_ge k 167).elim (fun h => z_t166_167 k h1 h) (fun h => z_t167_168 k h h2)
theorem z_t169_171 : ∀ k, 169 ≤ k → k < 171 → zcw k ∈ lw_tbl := fun k h1 h2 => (Nat.lt_or_ge k 170).elim (fun h => z_t169_170 k h1 h) (fun h => z_t170_171 k h h2)
theorem z_t168_171 : ∀ k, 168 ≤ k → k < 171 → zcw k ∈ lw_tbl := fun k h1 h2 => (Nat.lt_or_ge k 169).elim (fun h => z_t168_169 k h1 h) (fun h => z_t169_171 k h h2)
theorem z_t166_171 : ∀ k, 166 ≤ k → k < 171 → zcw k ∈ lw_tbl := fun k h1 h2 => (Nat.lt_or_ge k 168).elim (fun h => z_t166_168 k h1 h) (fun h => z_t168_171 k h h2)
theorem z_t171_173 : ∀ k, 171 ≤ k → k < 173 → zcw k ∈ lw_tbl := fun k h1 h2 => (Nat.lt_or_ge k 172).elim (fun h => z_t171_172 k h1 h) (fun h => z_t172_173 k h h2)
theorem z_t174_176 : ∀ k, 174 ≤ k → k < 176 → zcw k ∈ lw_tbl := fun k h1 h2 => (Nat.lt_or_ge k 175).elim (fun h => z_t174_175 k h1 h) (fun h => z_t175_176 k h h2)
theorem z_t173_176 : ∀ k, 173 ≤ k → k < 176 → zcw k ∈ lw_tbl := fun k h1 h2 => (Nat.lt_or_ge k 174).elim (fun h => z_t173_174 k h1 h) (fun h => z_t174_176 k h h2)
theorem z_t171_176 : ∀ k, 171 ≤ k → k < 176 → zcw k ∈ lw_tbl := fun k h1 h2 => (Nat.lt_or_ge k 173).elim (fun h => z_t171_173 k h1 h) (fun h => z_t173_176 k h h2)
theorem z_t166_176 : ∀ k, 166 ≤ k → k < 176 → zcw k ∈ lw_tbl := fun k h1 h2 => (Nat.lt_or_ge k 171).elim (fun h => z_t166_171 k h1 h) (fun h => z_t171_176 k h h2)
theorem z_t176_178 : ∀ k, 176 ≤ k → k < 178 → zcw k ∈ lw_tbl := fun k h1 h2 => (Nat.lt_or_ge k 177).elim (fun h => z_t176_177 k h1 h) (fun h => z_t177_178 k h h2)
theorem z_t179_181 : ∀ k, 179 ≤ k → k < 181 → zcw k ∈ lw_tbl := fun k h1 h2 => (Nat.lt_or_ge k 180).elim (fun h => z_t179_180 k h1 h) (fun h => z_t180_181 k h h2)
theorem z_t178_181 : ∀ k, 178 ≤ k → k < 181 → zcw k ∈ lw_tbl := fun k h1 h2 => (Nat.lt_or_ge k 179).elim (fun h => z_t178_179 k h1 h) (fun h => z_t179_181 k h h2)
theorem z_t176_181 : ∀ k, 176 ≤ k → k < 181 → zcw k ∈ lw_tbl := fun k h1 h2 => (Nat.lt_or_ge k 178).elim (fun h => z_t176_178 k h1 h) (fun h => z_t178_181 k h h2)
theorem z_t181_183 : ∀ k, 181 ≤ k → k < 183 → zcw k ∈ lw_tbl := fun k h1 h2 => (Nat.lt_or_ge k 182).elim (fun h => z_t181_182 k h1 h) (fun h => z_t182_183 k h h2)
theorem z_t184_186 : ∀ k, 184 ≤ k → k < 186 → zcw k ∈ lw_tbl := fun k h1 h2 => (Nat.lt_or_ge k 185).elim (fun h => z_t184_185 k h1 h) (fun h => z_t185_186 k h h2)
theorem z_t183_186 : ∀ k, 183 ≤ k → k < 186 → zcw k ∈ lw_tbl := fun k h1 h2 => (Nat.lt_or_ge k 184).elim (fun h => z_t183_184 k h1 h) (fun h => z_t184_186 k h h2)
theorem z_t181_186 : ∀ k, 181 ≤ k → k < 186 → zcw k ∈ lw_tbl := fun k h1 h2 => (Nat.lt_or_ge k 183).elim (fun h => z_t181_183 k h1 h) (fun h => z_t183_186 k h h2)
theorem z_t176_186 : ∀ k, 176 ≤ k → k < 186 → zcw k ∈ lw_tbl := fun k h1 h2 => (Nat.lt_or_ge k 181).elim (fun h => z_t176_181 k h1 h) (fun h => z_t181_186 k h h2)
theorem z_t166_186 : ∀ k, 166 ≤ k → k < 186 → zcw k ∈ lw_tbl := fun k h1 h2 => (Nat.lt_or_ge k 176).elim (fun h => z_t166_176 k h1 h) (fun h => z_t176_186 k h h2)
theorem z_t186_188 : ∀ k, 186 ≤ k → k < 188 → zcw k ∈ lw_tbl := fun k h1 h2 => (Nat.lt_or_ge k 187).elim (fun h => z_t186_187 k h1 h) (fun h => z_t187_188 k h h2)
theorem z_t189_191 : ∀ k, 189 ≤ k → k < 191 → zcw k ∈ lw_tbl := fun k h1 h2 => (Nat.lt_or_ge k 190).elim (fun h => z_t189_190 k h1 h) (fun h => z_t190_191 k h h2)
theorem z_t188_191 : ∀ k, 188 ≤ k → k < 191 → zcw k ∈ lw_tbl := fun k h1 h2 => (Nat.lt_or_ge k 189).elim (fun h => z_t188_189 k h1 h) (fun h => z_t189_191 k h h2)
theorem z_t186_191 : ∀ k, 186 ≤ k → k < 191 → zcw k ∈ lw_tbl := fun k h1 h2 => (Nat.lt_or_ge k 188).elim (fun h => z_t186_188 k h1 h) (fun h => z_t188_191 k h h2)
theorem z_t191_193 : ∀ k, 191 ≤ k → k < 193 → zcw k ∈ lw_tbl := fun k h1 h2 => (Nat.lt_or_ge k 192).elim (fun h => z_t191_192 k h1 h) (fun h => z_t192_193 k h h2)
theorem z_t194_196 : ∀ k, 194 ≤ k → k < 196 → zcw k ∈ lw_tbl := fun k h1 h2 => (Nat.lt_or_ge k 195).elim (fun h => z_t194_195 k h1 h) (fun h => z_t195_196 k h h2)
theorem z_t193_196 : ∀ k, 193 ≤ k → k < 196 → zcw k ∈ lw_tbl := fun k h1 h2 => (Nat.lt_or_ge k 194).elim (fun h => z_t193_194 k h1 h) (fun h => z_t194_196 k h h2)
theorem z_t191_196 : ∀ k, 191 ≤ k → k < 196 → zcw k ∈ lw_tbl := fun k h1 h2 => (Nat.lt_or_ge k 193).elim (fun h => z_t191_193 k h1 h) (fun h => z_t193_196 k h h2)
theorem z_t186_196 : ∀ k, 186 ≤ k → k < 196 → zcw k ∈ lw_tbl := fun k h1 h2 => (Nat.lt_or_ge k 191).elim (fun h => z_t186_191 k h1 h) (fun h => z_t191_196 k h h2)
theorem z_t196_198 : ∀ k, 196 ≤ k → k < 198 → zcw k ∈ lw_tbl := fun k h1 h2 => (Nat.lt_or_ge k 197).elim (fun h => z_t196_197 k h1 h) (fun h => z_t197_198 k h h2)
theorem z_t199_201 : ∀ k, 199 ≤ k → k < 201 → zcw k ∈ lw_tbl := fun k h1 h2 => (Nat.lt_or_ge k 200).elim (fun h => z_t199_200 k h1 h) (fun h => z_t200_201 k h h2)
theorem z_t198_201 : ∀ k, 198 ≤ k → k < 201 → zcw k ∈ lw_tbl := fun k h1 h2 => (Nat.lt_or_ge k 199).elim (fun h => z_t198_199 k h1 h) (fun h => z_t199_201 k h h2)
theorem z_t196_201 : ∀ k, 196 ≤ k → k < 201 → zcw k ∈ lw_tbl := fun k h1 h2 => (Nat.lt_or_ge k 198).elim (fun h => z_t196_198 k h1 h) (fun h => z_t198_201 k h h2)
theorem z_t202_204 : ∀ k, 202 ≤ k → k < 204 → zcw k ∈ lw_tbl := fun k h1 h2 => (Nat.lt_or_ge k 203).elim (fun h => z_t202_203 k h1 h) (fun h => z_t203_204 k h h2)
theorem z_t201_204 : ∀ k, 201 ≤ k → k < 204 → zcw k ∈ lw_tbl := fun k h1 h2 => (Nat.lt_or_ge k 202).elim (fun h => z_t201_202 k h1 h) (fun h => z_t202_204 k h h2)
theorem z_t205_207 : ∀ k, 205 ≤ k → k < 207 → zcw k ∈ lw_tbl := fun k h1 h2 => (Nat.lt_or_ge k 206).elim (fun h => z_t205_206 k h1 h) (fun h => z_t206_207 k h h2)
theorem z_t204_207 : ∀ k, 204 ≤ k → k < 207 → zcw k ∈ lw_tbl := fun k h1 h2 => (Nat.lt_or_ge k 205).elim (fun h => z_t204_205 k h1 h) (fun h => z_t205_207 k h h2)
theorem z_t201_207 : ∀ k, 201 ≤ k → k < 207 → zcw k ∈ lw_tbl := fun k h1 h2 => (Nat.lt_or_ge k 204).elim (fun h => z_t201_204 k h1 h) (fun h => z_t204_207 k h h2)
theorem z_t196_207 : ∀ k, 196 ≤ k → k < 207 → zcw k ∈ lw_tbl := fun k h1 h2 => (Nat.lt_or_ge k 201).elim (fun h => z_t196_201 k h1 h) (fun h => z_t201_207 k h h2)
theorem z_t186_207 : ∀ k, 186 ≤ k → k < 207 → zcw k ∈ lw_tbl := fun k h1 h2 => (Nat.lt_or_ge k 196).elim (fun h => z_t186_196 k h1 h) (fun h => z_t196_207 k h h2)
theorem z_t166_207 : ∀ k, 166 ≤ k → k < 207 → zcw k ∈ lw_tbl := fun k h1 h2 => (Nat.lt_or_ge k 186).elim (fun h => z_t166_186 k h1 h) (fun h => z_t186_207 k h h2)
theorem z_t207_209 : ∀ k, 207 ≤ k → k < 209 → zcw k ∈ lw_tbl := fun k h1 h2 => (Nat.lt_or_ge k 208).elim (fun h => z_t207_208 k h1 h) (fun h => z_t208_209 k h h2)
theorem z_t210_212 : ∀ k, 210 ≤ k → k < 212 → zcw k ∈ lw_tbl := fun k h1 h2 => (Nat.lt_or_ge k 211).elim (fun h => z_t210_211 k h1 h) (fun h => z_t211_212 k h h2)
theorem z_t209_212 : ∀ k, 209 ≤ k → k < 212 → zcw k ∈ lw_tbl := fun k h1 h2 => (Nat.lt_or_ge k 210).elim (fun h => z_t209_210 k h1 h) (fun h => z_t210_212 k h h2)
theorem z_t207_212 : ∀ k, 207 ≤ k → k < 212 → zcw k ∈ lw_tbl := fun k h1 h2 => (Nat.lt_or_ge k 209).elim (fun h => z_t207_209 k h1 h) (fun h => z_t209_212 k h h2)
theorem z_t212_214 : ∀ k, 212 ≤ k → k < 214 → zcw k ∈ lw_tbl := fun k h1 h2 => (Nat.lt_or_ge k 213).elim (fun h => z_t212_213 k h1 h) (fun h => z_t213_214 k h h2)
theorem z_t215_217 : ∀ k, 215 ≤ k → k < 217 → zcw k ∈ lw_tbl := fun k h1 h2 => (Nat.lt_or_ge k 216).elim (fun h => z_t215_216 k h1 h) (fun h => z_t216_217 k h h2)
theorem z_t214_217 : ∀ k, 214 ≤ k → k < 217 → zcw k ∈ lw_tbl := fun k h1 h2 => (Nat.lt_or_ge k 215).elim (fun h => z_t214_215 k h1 h) (fun h => z_t215_217 k h h2)
theorem z_t212_217 : ∀ k, 212 ≤ k → k < 217 → zcw k ∈ lw_tbl := fun k h1 h2 => (Nat.lt_or_ge k 214).elim (fun h => z_t212_214 k h1 h) (fun h => z_t214_217 k h h2)
theorem z_t207_217 : ∀ k, 207 ≤ k → k < 217 → zcw k ∈ lw_tbl := fun k h1 h2 => (Nat.lt_or_ge k 212).elim (fun h => z_t207_212 k h1 h) (fun h => z_t212_217 k h h2)
theorem z_t217_219 : ∀ k, 217 ≤ k → k < 219 → zcw k ∈ lw_tbl := fun k h1 h2 => (Nat.lt_or_ge k 218).elim (fun h => z_t217_218 k h1 h) (fun h => z_t218_219 k h h2)
theorem z_t220_222 : ∀ k, 220 ≤ k → k < 222 → zcw k ∈ lw_tbl := fun k h1 h2 => (Nat.lt_or_ge k 221).elim (fun h => z_t220_221 k h1 h) (fun h => z_t221_222 k h h2)
theorem z_t219_222 : ∀ k, 219 ≤ k → k < 222 → zcw k ∈ lw_tbl := fun k h1 h2 => (Nat.lt_or_ge k 220).elim (fun h => z_t219_220 k h1 h) (fun h => z_t220_222 k h h2)
theorem z_t217_222 : ∀ k, 217 ≤ k → k < 222 → zcw k ∈ lw_tbl := fun k h1 h2 => (Nat.lt_or_ge k 219).elim (fun h => z_t217_219 k h1 h) (fun h => z_t219_222 k h h2)
theorem z_t223_225 : ∀ k, 223 ≤ k → k < 225 → zcw k ∈ lw_tbl := fun k h1 h2 => (Nat.lt_or_ge k 224).elim (fun h => z_t223_224 k h1 h) (fun h => z_t224_225 k h h2)
theorem z_t222_225 : ∀ k, 222 ≤ k → k < 225 → zcw k ∈ lw_tbl := fun k h1 h2 => (Nat.lt_or_ge k 223).elim (fun h => z_t222_223 k h1 h) (fun h => z_t223_225 k h h2)
theorem z_t226_228 : ∀ k, 226 ≤ k → k < 228 → zcw k ∈ lw_tbl := fun k h1 h2 => (Nat.lt_or_ge k 227).elim (fun h => z_t226_227 k h1 h) (fun h => z_t227_228 k h h2)
theorem z_t225_228 : ∀ k, 225 ≤ k → k < 228 → zcw k ∈ lw_tbl := fun k h1 h2 => (Nat.lt_or_ge k 226).elim (fun h => z_t225_226 k h1 h) (fun h => z_t226_228 k h h2)
theorem z_t222_228 : ∀ k, 222 ≤ k → k < 228 → zcw k ∈ lw_tbl := fun k h1 h2 => (Nat.lt_or_ge k 225).elim (fun h => z_t222_225 k h1 h) (fun h => z_t225_228 k h h2)
theorem z_t217_228 : ∀ k, 217 ≤ k → k < 228 → zcw k ∈ lw_tbl := fun k h1 h2 => (Nat.lt_or_ge k 222).elim (fun h => z_t217_222 k h1 h) (fun h => z_t222_228 k h h2)
theorem z_t207_228 : ∀ k, 207 ≤ k → k < 228 → zcw k ∈ lw_tbl := fun k h1 h2 => (Nat.lt_or_ge k 217).elim (fun h => z_t207_217 k h1 h) (fun h => z_t217_228 k h h2)
theorem z_t228_230 : ∀ k, 228 ≤ k → k < 230 → zcw k ∈ lw_tbl := fun k h1 h2 => (Nat.lt_or_ge k 229).elim (fun h => z_t228_229 k h1 h) (fun h => z_t229_230 k h h2)
theorem z_t231_233 : ∀ k, 231 ≤ k → k < 233 → zcw k ∈ lw_tbl := fun k h1 h2 => (Nat.lt_or_ge k 232).elim (fun h => z_t231_232 k h1 h) (fun h => z_t232_233 k h h2)
theorem z_t230_233 : ∀ k, 230 ≤ k → k < 233 → zcw k ∈ lw_tbl := fun k h1 h2 => (Nat.lt_or_ge k 231).elim (fun h => z_t230_231 k h1 h) (fun h => z_t231_233 k h h2)
theorem z_t228_233 : ∀ k, 228 ≤ k → k < 233 → zcw k ∈ lw_tbl := fun k h1 h2 => (Nat.lt_or_ge k 230).elim (fun h => z_t228_230 k h1 h) (fun h => z_t230_233 k h h2)
theorem z_t233_235 : ∀ k, 233 ≤ k → k < 235 → zcw k ∈ lw_tbl := fun k h1 h2 => (Nat.lt_or_ge k 234).elim (fun h => z_t233_234 k h1 h) (fun h => z_t234_235 k h h2)
theorem z_t236_238 : ∀ k, 236 ≤ k → k < 238 → zcw k ∈ lw_tbl := fun k h1 h2 => (Nat.lt_or_ge k 237).elim (fun h => z_t236_237 k h1 h) (fun h => z_t237_238 k h h2)
theorem z_t235_238 : ∀ k, 235 ≤ k → k < 238 → zcw k ∈ lw_tbl := fun k h1 h2 => (Nat.lt_or_ge k 236).elim (fun h => z_t235_236 k h1 h) (fun h => z_t236_238 k h h2)
theorem z_t233_238 : ∀ k, 233 ≤ k → k < 238 → zcw k ∈ lw_tbl := fun k h1 h2 => (Nat.lt_or_ge k 235).elim (fun h => z_t233_235 k h1 h) (fun h => z_t235_238 k h h2)
theorem z_t228_238 : ∀ k, 228 ≤ k → k < 238 → zcw k ∈ lw_tbl := fun k h1 h2 => (Nat.lt_or_ge k 233).elim (fun h => z_t228_233 k h1 h) (fun h => z_t233_238 k h h2)
theorem z_t238_240 : ∀ k, 238 ≤ k → k < 240 → zcw k ∈ lw_tbl := fun k h1 h2 => (Nat.lt_or_ge k 239).elim (fun h => z_t238_239 k h1 h) (fun h => z_t239_240 k h h2)
theorem z_t241_243 : ∀ k, 241 ≤ k → k < 243 → zcw k ∈ lw_tbl := fun k h1 h2 => (Nat.lt_or_ge k 242).elim (fun h => z_t241_242 k h1 h) (fun h => z_t242_243 k h h2)
theorem z_t240_243 : ∀ k, 240 ≤ k → k < 243 → zcw k ∈ lw_tbl := fun k h1 h2 => (Nat.lt_or_ge k 241).elim (fun h => z_t240_241 k h1 h) (fun h => z_t241_243 k h h2)
theorem z_t238_243 : ∀ k, 238 ≤ k → k < 243 → zcw k ∈ lw_tbl := fun k h1 h2 => (Nat.lt_or_ge k 240).elim (fun h => z_t238_240 k h1 h) (fun h => z_t240_243 k h h2)
theorem z_t244_246 : ∀ k, 244 ≤ k → k < 246 → zcw k ∈ lw_tbl := fun k h1 h2 => (Nat.lt_or_ge k 245).elim (fun h => z_t244_245 k h1 h) (fun h => z_t245_246 k h h2)
theorem z_t243_246 : ∀ k, 243 ≤ k → k < 246 → zcw k ∈ lw_tbl := fun k h1 h2 => (Nat.lt_or_ge k 244).elim (fun h => z_t243_244 k h1 h) (fun h => z_t244_246 k h h2)
theorem z_t247_249 : ∀ k, 247 ≤ k → k < 249 → zcw k ∈ lw_tbl := fun k h1 h2 => (Nat.lt_or_ge k 248).elim (fun h => z_t247_248 k h1 h) (fun h => z_t248_249 k h h2)
theorem z_t246_249 : ∀ k, 246 ≤ k → k < 249 → zcw k ∈ lw_tbl := fun k h1 h2 => (Nat.lt_or_ge k 247).elim (fun h => z_t246_247 k h1 h) (fun h => z_t247_249 k h h2)
theorem z_t243_249 : ∀ k, 243 ≤ k → k < 249 → zcw k ∈ lw_tbl := fun k h1 h2 => (Nat.lt_or_ge k 246).elim (fun h => z_t243_246 k h1 h) (fun h => z_t246_249 k h h2)
theorem z_t238_249 : ∀ k, 238 ≤ k → k < 249 → zcw k ∈ lw_tbl := fun k h1 h2 => (Nat.lt_or_ge k 243).elim (fun h => z_t238_243 k h1 h) (fun h => z_t243_249 k h h2)
theorem z_t228_249 : ∀ k, 228 ≤ k → k < 249 → zcw k ∈ lw_tbl := fun k h1 h2 => (Nat.lt_or_ge k 238).elim (fun h => z_t228_238 k h1 h) (fun h => z_t238_249 k h h2)
theorem z_t207_249 : ∀ k, 207 ≤ k → k < 249 → zcw k ∈ lw_tbl := fun k h1 h2 => (Nat.lt_or_ge k 228).elim (fun h => z_t207_228 k h1 h) (fun h => z_t228_249 k h h2)
theorem z_t166_249 : ∀ k, 166 ≤ k → k < 249 → zcw k ∈ lw_tbl := fun k h1 h2 => (Nat.lt_or_ge k 207).elim (fun h => z_t166_207 k h1 h) (fun h => z_t207_249 k h h2)
theorem z_t249_251 : ∀ k, 249 ≤ k → k < 251 → zcw k ∈ lw_tbl := fun k h1 h2 => (Nat.lt_or_ge k 250).elim (fun h => z_t249_250 k h1 h) (fun h => z_t250_251 k h h2)
theorem z_t252_254 : ∀ k, 252 ≤ k → k < 254 → zcw k ∈ lw_tbl := fun k h1 h2 => (Nat.lt_or_ge k 253).elim (fun h => z_t252_253 k h1 h) (fun h => z_t253_254 k h h2)
theorem z_t251_254 : ∀ k, 251 ≤ k → k < 254 → zcw k ∈ lw_tbl := fun k h1 h2 => (Nat.lt_or_ge k 252).elim (fun h => z_t251_252 k h1 h) (fun h => z_t252_254 k h h2)
theorem z_t249_254 : ∀ k, 249 ≤ k → k < 254 → zcw k ∈ lw_tbl := fun k h1 h2 => (Nat.lt_or_ge k 251).elim (fun h => z_t249_251 k h1 h) (fun h => z_t251_254 k h h2)
theorem z_t254_256 : ∀ k, 254 ≤ k → k < 256 → zcw k ∈ lw_tbl := fun k h1 h2 => (Nat.lt_or_ge k 255).elim (fun h => z_t254_255 k h1 h) (fun h => z_t255_256 k h h2)
theorem z_t257_259 : ∀ k, 257 ≤ k → k < 259 → zcw k ∈ lw_tbl := fun k h1 h2 => (Nat.lt_or_ge k 258).elim (fun h => z_t257_258 k h1 h) (fun h => z_t258_259 k h h2)
theorem z_t256_259 : ∀ k, 256 ≤ k → k < 259 → zcw k ∈ lw_tbl := fun k h1 h2 => (Nat.lt_or_ge k 257).elim (fun h => z_t256_257 k h1 h) (fun h => z_t257_259 k h h2)
theorem z_t254_259 : ∀ k, 254 ≤ k → k < 259 → zcw k ∈ lw_tbl := fun k h1 h2 => (Nat.lt_or_ge k 256).elim (fun h => z_t254_256 k h1 h) (fun h => z_t256_259 k h h2)
theorem z_t249_259 : ∀ k, 249 ≤ k → k < 259 → zcw k ∈ lw_tbl := fun k h1 h2 => (Nat.lt_or_ge k 254).elim (fun h => z_t249_254 k h1 h) (fun h => z_t254_259 k h h2)
theorem z_t259_261 : ∀ k, 259 ≤ k → k < 261 → zcw k ∈ lw_tbl := fun k h1 h2 => (Nat.lt_or_ge k 260).elim (fun h => z_t259_260 k h1 h) (fun h => z_t260_261 k h h2)
theorem z_t262_264 : ∀ k, 262 ≤ k → k < 264 → zcw k ∈ lw_tbl := fun k h1 h2 => (Nat.lt_or_ge k 263).elim (fun h => z_t262_263 k h1 h) (fun h => z_t263_264 k h h2)
theorem z_t261_264 : ∀ k, 261 ≤ k → k < 264 → zcw k ∈ lw_tbl := fun k h1 h2 => (Nat.lt_or_ge k 262).elim (fun h => z_t261_262 k h1 h) (fun h => z_t262_264 k h h2)
theorem z_t259_264 : ∀ k, 259 ≤ k → k < 264 → zcw k ∈ lw_tbl := fun k h1 h2 => (Nat.lt_or_ge k 261).elim (fun h => z_t259_261 k h1 h) (fun h => z_t261_264 k h h2)
theorem z_t264_266 : ∀ k, 264 ≤ k → k < 266 → zcw k ∈ lw_tbl := fun k h1 h2 => (Nat.lt_or_ge k 265).elim (fun h => z_t264_265 k h1 h) (fun h => z_t265_266 k h h2)
theorem z_t267_269 : ∀ k, 267 ≤ k → k < 269 → zcw k ∈ lw_tbl := fun k h1 h2 => (Nat.lt_or_ge k 268).elim (fun h => z_t267_268 k h1 h) (fun h => z_t268_269 k h h2)
theorem z_t266_269 : ∀ k, 266 ≤ k → k < 269 → zcw k ∈ lw_tbl := fun k h1 h2 => (Nat.lt_or_ge k 267).elim (fun h => z_t266_267 k h1 h) (fun h => z_t267_269 k h h2)
theorem z_t264_269 : ∀ k, 264 ≤ k → k < 269 → zcw k ∈ lw_tbl := fun k h1 h2 => (Nat.lt_or_ge k 266).elim (fun h => z_t264_266 k h1 h) (fun h => z_t266_269 k h h2)
theorem z_t259_269 : ∀ k, 259 ≤ k → k < 269 → zcw k ∈ lw_tbl := fun k h1 h2 => (Nat.lt_or_ge k 264).elim (fun h => z_t259_264 k h1 h) (fun h => z_t264_269 k h h2)
theorem z_t249_269 : ∀ k, 249 ≤ k → k < 269 → zcw k ∈ lw_tbl := fun k h1 h2 => (Nat.lt_or_ge k 259).elim (fun h => z_t249_259 k h1 h) (fun h => z_t259_269 k h h2)
theorem z_t269_271 : ∀ k, 269 ≤ k → k < 271 → zcw k ∈ lw_tbl := fun k h1 h2 => (Nat.lt_or_ge k 270).elim (fun h => z_t269_270 k h1 h) (fun h => z_t270_271 k h h2)
theorem z_t272_274 : ∀ k, 272 ≤ k → k < 274 → zcw k ∈ lw_tbl := fun k h1 h2 => (Nat.lt_or_ge k 273).elim (fun h => z_t272_273 k h1 h) (fun h => z_t273_274 k h h2)
theorem z_t271_274 : ∀ k, 271 ≤ k → k < 274 → zcw k ∈ lw_tbl := fun k h1 h2 => (Nat.lt_or_ge k 272).elim (fun h => z_t271_272 k h1 h) (fun h => z_t272_274 k h h2)
theorem z_t269_274 : ∀ k, 269 ≤ k → k < 274 → zcw k ∈ lw_tbl := fun k h1 h2 => (Nat.lt_or_ge k 271).elim (fun h => z_t269_271 k h1 h) (fun h => z_t271_274 k h h2)
theorem z_t274_276 : ∀ k, 274 ≤ k → k < 276 → zcw k ∈ lw_tbl := fun k h1 h2 => (Nat.lt_or_ge k 275).elim (fun h => z_t274_275 k h1 h) (fun h => z_t275_276 k h h2)
theorem z_t277_279 : ∀ k, 277 ≤ k → k < 279 → zcw k ∈ lw_tbl := fun k h1 h2 => (Nat.lt_or_ge k 278).elim (fun h => z_t277_278 k h1 h) (fun h => z_t278_279 k h h2)
theorem z_t276_279 : ∀ k, 276 ≤ k → k < 279 → zcw k ∈ lw_tbl := fun k h1 h2 => (Nat.lt_or_ge k 277).elim (fun h => z_t276_277 k h1 h) (fun h => z_t277_279 k h h2)
theorem z_t274_279 : ∀ k, 274 ≤ k → k < 279 → zcw k ∈ lw_tbl := fun k h1 h2 => (Nat.lt_or_ge k 276).elim (fun h => z_t274_276 k h1 h) (fun h => z_t276_279 k h h2)
theorem z_t269_279 : ∀ k, 269 ≤ k → k < 279 → zcw k ∈ lw_tbl := fun k h1 h2 => (Nat.lt_or_ge k 274).elim (fun h => z_t269_274 k h1 h) (fun h => z_t274_279 k h h2)
theorem z_t279_281 : ∀ k, 279 ≤ k → k < 281 → zcw k ∈ lw_tbl := fun k h1 h2 => (Nat.lt_or_ge k 280).elim (fun h => z_t279_280 k h1 h) (fun h => z_t280_281 k h h2)
theorem z_t282_284 : ∀ k, 282 ≤ k → k < 284 → zcw k ∈ lw_tbl := fun k h1 h2 => (Nat.lt_or_ge k 283).elim (fun h => z_t282_283 k h1 h) (fun h => z_t283_284 k h h2)
theorem z_t281_284 : ∀ k, 281 ≤ k → k < 284 → zcw k ∈ lw_tbl := fun k h1 h2 => (Nat.lt_or_ge k 282).elim (fun h => z_t281_282 k h1 h) (fun h => z_t282_284 k h h2)
theorem z_t279_284 : ∀ k, 279 ≤ k → k < 284 → zcw k ∈ lw_tbl := fun k h1 h2 => (Nat.lt_or_ge k 281).elim (fun h => z_t279_281 k h1 h) (fun h => z_t281_284 k h h2)
theorem z_t285_287 : ∀ k, 285 ≤ k → k < 287 → zcw k ∈ lw_tbl := fun k h1 h2 => (Nat.lt_or_ge k 286).elim (fun h => z_t285_286 k h1 h) (fun h => z_t286_287 k h h2)
theorem z_t284_287 : ∀ k, 284 ≤ k → k < 287 → zcw k ∈ lw_tbl := fun k h1 h2 => (Nat.lt_or_ge k 285).elim (fun h => z_t284_285 k h1 h) (fun h => z_t285_287 k h h2)
theorem z_t288_290 : ∀ k, 288 ≤ k → k < 290 → zcw k ∈ lw_tbl := fun k h1 h2 => (Nat.lt_or_ge k 289).elim (fun h => z_t288_289 k h1 h) (fun h => z_t289_290 k h h2)
theorem z_t287_290 : ∀ k, 287 ≤ k → k < 290 → zcw k ∈ lw_tbl := fun k h1 h2 => (Nat.lt_or_ge k 288).elim (fun h => z_t287_288 k h1 h) (fun h => z_t288_290 k h h2)
theorem z_t284_290 : ∀ k, 284 ≤ k → k < 290 → zcw k ∈ lw_tbl := fun k h1 h2 => (Nat.lt_or_ge k 287).elim (fun h => z_t284_287 k h1 h) (fun h => z_t287_290 k h h2)
theorem z_t279_290 : ∀ k, 279 ≤ k → k < 290 → zcw k ∈ lw_tbl := fun k h1 h2 => (Nat.lt_or_ge k 284).elim (fun h => z_t279_284 k h1 h) (fun h => z_t284_290 k h h2)
theorem z_t269_290 : ∀ k, 269 ≤ k → k < 290 → zcw k ∈ lw_tbl := fun k h1 h2 => (Nat.lt_or_ge k 279).elim (fun h => z_t269_279 k h1 h) (fun h => z_t279_290 k h h2)
theorem z_t249_290 : ∀ k, 249 ≤ k → k < 290 → zcw k ∈ lw_tbl := fun k h1 h2 => (Nat.lt_or_ge k 269).elim (fun h => z_t249_269 k h1 h) (fun h => z_t269_290 k h h2)
theorem z_t290_292 : ∀ k, 290 ≤ k → k < 292 → zcw k ∈ lw_tbl := fun k h1 h2 => (Nat.lt_or_ge k 291).elim (fun h => z_t290_291 k h1 h) (fun h => z_t291_292 k h h2)
theorem z_t293_295 : ∀ k, 293 ≤ k → k < 295 → zcw k ∈ lw_tbl := fun k h1 h2 => (Nat.lt_or_ge k 294).elim (fun h => z_t293_294 k h1 h) (fun h => z_t294_295 k h h2)
theorem z_t292_295 : ∀ k, 292 ≤ k → k < 295 → zcw k ∈ lw_tbl := fun k h1 h2 => (Nat.lt_or_ge k 293).elim (fun h => z_t292_293 k h1 h) (fun h => z_t293_295 k h h2)
theorem z_t290_295 : ∀ k, 290 ≤ k → k < 295 → zcw k ∈ lw_tbl := fun k h1 h2 => (Nat.lt_or_ge k 292).elim (fun h => z_t290_292 k h1 h) (fun h => z_t292_295 k h h2)
theorem z_t295_297 : ∀ k, 295 ≤ k → k < 297 → zcw k ∈ lw_tbl := fun k h1 h2 => (Nat.lt_or_ge k 296).elim (fun h => z_t295_296 k h1 h) (fun h => z_t296_297 k h h2)
theorem z_t298_300 : ∀ k, 298 ≤ k → k < 300 → zcw k ∈ lw_tbl := fun k h1 h2 => (Nat.lt_or_ge k 299).elim (fun h => z_t298_299 k h1 h) (fun h => z_t299_300 k h h2)
theorem z_t297_300 : ∀ k, 297 ≤ k → k < 300 → zcw k ∈ lw_tbl := fun k h1 h2 => (Nat.lt_or_ge k 298).elim (fun h => z_t297_298 k h1 h) (fun h => z_t298_300 k h h2)
theorem z_t295_300 : ∀ k, 295 ≤ k → k < 300 → zcw k ∈ lw_tbl := fun k h1 h2 => (Nat.lt_or_ge k 297).elim (fun h => z_t295_297 k h1 h) (fun h => z_t297_300 k h h2)
theorem z_t290_300 : ∀ k, 290 ≤ k → k < 300 → zcw k ∈ lw_tbl := fun k h1 h2 => (Nat.lt_or_ge k 295).elim (fun h => z_t290_295 k h1 h) (fun h => z_t295_300 k h h2)
theorem z_t300_302 : ∀ k, 300 ≤ k → k < 302 → zcw k ∈ lw_tbl := fun k h1 h2 => (Nat.lt_or_ge k 301).elim (fun h => z_t300_301 k h1 h) (fun h => z_t301_302 k h h2)
theorem z_t303_305 : ∀ k, 303 ≤ k → k < 305 → zcw k ∈ lw_tbl := fun k h1 h2 => (Nat.lt_or_ge k 304).elim (fun h => z_t303_304 k h1 h) (fun h => z_t304_305 k h h2)
theorem z_t302_305 : ∀ k, 302 ≤ k → k < 305 → zcw k ∈ lw_tbl := fun k h1 h2 => (Nat.lt_or_ge k 303).elim (fun h => z_t302_303 k h1 h) (fun h => z_t303_305 k h h2)
theorem z_t300_305 : ∀ k, 300 ≤ k → k < 305 → zcw k ∈ lw_tbl := fun k h1 h2 => (Nat.lt_or_ge k 302).elim (fun h => z_t300_302 k h1 h) (fun h => z_t302_305 k h h2)
theorem z_t306_308 : ∀ k, 306 ≤ k → k < 308 → zcw k ∈ lw_tbl := fun k h1 h2 => (Nat.lt_or_ge k 307).elim (fun h => z_t306_307 k h1 h) (fun h => z_t307_308 k h h2)
theorem z_t305_308 : ∀ k, 305 ≤ k → k < 308 → zcw k ∈ lw_tbl := fun k h1 h2 => (Nat.lt_or_ge k 306).elim (fun h => z_t305_306 k h1 h) (fun h => z_t306_308 k h h2)
theorem z_t309_311 : ∀ k, 309 ≤ k → k < 311 → zcw k ∈ lw_tbl := fun k h1 h2 => (Nat.lt_or_ge k 310).elim (fun h => z_t309_310 k h1 h) (fun h => z_t310_311 k h h2)
theorem z_t308_311 : ∀ k, 308 ≤ k → k < 311 → zcw k ∈ lw_tbl := fun k h1 h2 => (Nat.lt_or_ge k 309).elim (fun h => z_t308_309 k h1 h) (fun h => z_t309_311 k h h2)
theorem z_t305_311 : ∀ k, 305 ≤ k → k < 311 → zcw k ∈ lw_tbl := fun k h1 h2 => (Nat.lt_or_ge k 308).elim (fun h => z_t305_308 k h1 h) (fun h => z_t308_311 k h h2)
theorem z_t300_311 : ∀ k, 300 ≤ k → k < 311 → zcw k ∈ lw_tbl := fun k h1 h2 => (Nat.lt_or_ge k 305).elim (fun h => z_t300_305 k h1 h) (fun h => z_t305_311 k h h2)
theorem z_t290_311 : ∀ k, 290 ≤ k → k < 311 → zcw k ∈ lw_tbl := fun k h1 h2 => (Nat.lt_or_ge k 300).elim (fun h => z_t290_300 k h1 h) (fun h => z_t300_311 k h h2)
theorem z_t311_313 : ∀ k, 311 ≤ k → k < 313 → zcw k ∈ lw_tbl := fun k h1 h2 => (Nat.lt_or_ge k 312).elim (fun h => z_t311_312 k h1 h) (fun h => z_t312_313 k h h2)
theorem z_t314_316 : ∀ k, 314 ≤ k → k < 316 → zcw k ∈ lw_tbl := fun k h1 h2 => (Nat.lt_or_ge k 315).elim (fun h => z_t314_315 k h1 h) (fun h => z_t315_316 k h h2)
theorem z_t313_316 : ∀ k, 313 ≤ k → k < 316 → zcw k ∈ lw_tbl := fun k h1 h2 => (Nat.lt_or_ge k 314).elim (fun h => z_t313_314 k h1 h) (fun h => z_t314_316 k h h2)
theorem z_t311_316 : ∀ k, 311 ≤ k → k < 316 → zcw k ∈ lw_tbl := fun k h1 h2 => (Nat.lt_or_ge k 313).elim (fun h => z_t311_313 k h1 h) (fun h => z_t313_316 k h h2)
theorem z_t316_318 : ∀ k, 316 ≤ k → k < 318 → zcw k ∈ lw_tbl := fun k h1 h2 => (Nat.lt_or_ge k 317).elim (fun h => z_t316_317 k h1 h) (fun h => z_t317_318 k h h2)
theorem z_t319_321 : ∀ k, 319 ≤ k → k < 321 → zcw k ∈ lw_tbl := fun k h1 h2 => (Nat.lt_or_ge k 320).elim (fun h => z_t319_320 k h1 h) (fun h => z_t320_321 k h h2)
theorem z_t318_321 : ∀ k, 318 ≤ k → k < 321 → zcw k ∈ lw_tbl := fun k h1 h2 => (Nat.lt_or_ge k 319).elim (fun h => z_t318_319 k h1 h) (fun h => z_t319_321 k h h2)
theorem z_t316_321 : ∀ k, 316 ≤ k → k < 321 → zcw k ∈ lw_tbl := fun k h1 h2 => (Nat.lt_or_ge k 318).elim (fun h => z_t316_318 k h1 h) (fun h => z_t318_321 k h h2)
theorem z_t311_321 : ∀ k, 311 ≤ k → k < 321 → zcw k ∈ lw_tbl := fun k h1 h2 => (Nat.lt_or_ge k 316).elim (fun h => z_t311_316 k h1 h) (fun h => z_t316_321 k h h2)
theorem z_t321_323 : ∀ k, 321 ≤ k → k < 323 → zcw k ∈ lw_tbl := fun k h1 h2 => (Nat.lt_or_ge k 322).elim (fun h => z_t321_322 k h1 h) (fun h => z_t322_323 k h h2)
theorem z_t324_326 : ∀ k, 324 ≤ k → k < 326 → zcw k ∈ lw_tbl := fun k h1 h2 => (Nat.lt_or_ge k 325).elim (fun h => z_t324_325 k h1 h) (fun h => z_t325_326 k h h2)
theorem z_t323_326 : ∀ k, 323 ≤ k → k < 326 → zcw k ∈ lw_tbl := fun k h1 h2 => (Nat.lt_or_ge k 324).elim (fun h => z_t323_324 k h1 h) (fun h => z_t324_326 k h h2)
theorem z_t321_326 : ∀ k, 321 ≤ k → k < 326 → zcw k ∈ lw_tbl := fun k h1 h2 => (Nat.lt_or_ge k 323).elim (fun h => z_t321_323 k h1 h) (fun h => z_t323_326 k h h2)
theorem z_t327_329 : ∀ k, 327 ≤ k → k < 329 → zcw k ∈ lw_tbl := fun k h1 h2 => (Nat.lt_or_ge k 328).elim (fun h => z_t327_328 k h1 h) (fun h => z_t328_329 k h h2)
theorem z_t326_329 : ∀ k, 326 ≤ k → k < 329 → zcw k ∈ lw_tbl := fun k h1 h2 => (Nat.lt_or_ge k 327).elim (fun h => z_t326_327 k h1 h) (fun h => z_t327_329 k h h2)
theorem z_t330_332 : ∀ k, 330 ≤ k → k < 332 → zcw k ∈ lw_tbl := fun k h1 h2 => (Nat.lt_or_ge k 331).elim (fun h => z_t330_331 k h1 h) (fun h => z_t331_332 k h h2)
theorem z_t329_332 : ∀ k, 329 ≤ k → k < 332 → zcw k ∈ lw_tbl := fun k h1 h2 => (Nat.lt_or_ge k 330).elim (fun h => z_t329_330 k h1 h) (fun h => z_t330_332 k h h2)
theorem z_t326_332 : ∀ k, 326 ≤ k → k < 332 → zcw k ∈ lw_tbl := fun k h1 h2 => (Nat.lt_or_ge k 329).elim (fun h => z_t326_329 k h1 h) (fun h => z_t329_332 k h h2)
theorem z_t321_332 : ∀ k, 321 ≤ k → k < 332 → zcw k ∈ lw_tbl := fun k h1 h2 => (Nat.lt_or_ge k 326).elim (fun h => z_t321_326 k h1 h) (fun h => z_t326_332 k h h2)
theorem z_t311_332 : ∀ k, 311 ≤ k → k < 332 → zcw k ∈ lw_tbl := fun k h1 h2 => (Nat.lt_or_ge k 321).elim (fun h => z_t311_321 k h1 h) (fun h => z_t321_332 k h h2)
theorem z_t290_332 : ∀ k, 290 ≤ k → k < 332 → zcw k ∈ lw_tbl := fun k h1 h2 => (Nat.lt_or_ge k 311).elim (fun h => z_t290_311 k h1 h) (fun h => z_t311_332 k h h2)
theorem z_t249_332 : ∀ k, 249 ≤ k → k < 332 → zcw k ∈ lw_tbl := fun k h1 h2 => (Nat.lt_or_ge k 290).elim (fun h => z_t249_290 k h1 h) (fun h => z_t290_332 k h h2)
theorem z_t166_332 : ∀ k, 166 ≤ k → k < 332 → zcw k ∈ lw_tbl := fun k h1 h2 => (Nat.lt_or_ge k 249).elim (fun h => z_t166_249 k h1 h) (fun h => z_t249_332 k h h2)
theorem z_t1_332 : ∀ k, 1 ≤ k → k < 332 → zcw k ∈ lw_tbl := fun k h1 h2 => (Nat.lt_or_ge k 166).elim (fun h => z_t1_166 k h1 h) (fun h => z_t166_332 k h h2)
theorem z_codes : ∀ k, 1 ≤ k → k < 332 → zcw k ∈ lw_tbl := z_t1_332
theorem z_notlaw : zlk.all (fun e => decide (5 < e.2.1.1) || decide (e.2.1.2 ≠ 0)) = true := by decide +kernel
theorem z_nomh : (List.range 332).all (fun y => decide ((zmn y).cls ≠ "java/lang/invoke/MethodHandle") && decide ((zmn y).cls ≠ "java/lang/invoke/VarHandle")) = true := by decide +kernel
theorem z_nargs {y : Nat} (h : y < 332) : (parseMethodDescriptor (zmn y).desc).map (fun d => d.parameters.length) = some (zma y) ∧ plainName (zmn y).cls = true := by
  have key : ∀ (N c : Nat), y < N → c ≤ y → ((List.range N).drop c).all (fun y => decide ((parseMethodDescriptor (zmn y).desc).map (fun d => d.parameters.length) = some (zma y)) && plainName (zmn y).cls) = true → (parseMethodDescriptor (zmn y).desc).map (fun d => d.parameters.length) = some (zma y) ∧ plainName (zmn y).cls = true := by
    intro N c h1 h2 h3
    have := List.all_eq_true.mp h3 y (List.mem_of_getElem? (i := y - c) (by rw [List.getElem?_drop, show c + (y - c) = y by omega]; simp [h1]))
    simpa using this
  rcases Nat.lt_or_ge y 40 with q0 | q0
  · exact key _ _ q0 (by omega) z_args0
  rcases Nat.lt_or_ge y 80 with q1 | q1
  · exact key _ _ q1 (by omega) z_args1
  rcases Nat.lt_or_ge y 120 with q2 | q2
  · exact key _ _ q2 (by omega) z_args2
  rcases Nat.lt_or_ge y 160 with q3 | q3
  · exact key _ _ q3 (by omega) z_args3
  rcases Nat.lt_or_ge y 200 with q4 | q4
  · exact key _ _ q4 (by omega) z_args4
  rcases Nat.lt_or_ge y 240 with q5 | q5
  · exact key _ _ q5 (by omega) z_args5
  rcases Nat.lt_or_ge y 280 with q6 | q6
  · exact key _ _ q6 (by omega) z_args6
  rcases Nat.lt_or_ge y 320 with q7 | q7
  · exact key _ _ q7 (by omega) z_args7
  exact key _ _ h (by omega) z_args8
theorem zlink_y {c idx k y' : Nat} (h : zlink c idx = some (k, y')) (hk : k ≤ 5) : 1 ≤ y' := by
  unfold zlink at h
  obtain ⟨q, hq, e⟩ := Option.map_eq_some_iff.mp h
  have h1 := List.all_eq_true.mp z_notlaw q (List.mem_of_find?_eq_some hq)
  rw [e] at h1
  simp only [Bool.or_eq_true, decide_eq_true_eq] at h1
  omega
theorem z_GI {y' : Nat} (h1 : 1 ≤ y') (h2 : y' < 332) : GoodIn zTB (zcw y' :: zTB) := by
  intro w hw
  rcases List.mem_cons.mp hw with hw | hw
  · subst hw
    exact ⟨List.mem_filter.mpr ⟨z_codes y' h1 h2, rfl⟩, Or.inl rfl⟩
  · exact ⟨hw, good_of_word (List.mem_filter.mp hw).2⟩
theorem zflat_rev (l : List zV) : (zflat l.reverse).length = (zflat l).length := by
  unfold zflat
  induction l with
  | nil => rfl
  | cons a l ih =>
    rw [List.reverse_cons, List.flatMap_append, List.length_append, ih]
    simp only [List.flatMap_cons, List.flatMap_nil, List.append_nil, List.length_append]
    omega
theorem zPc_blind (B b : Nat) (adK : Nat → Nat) (D : va_G) (cy : ClassId × ClassId × ClassId × ClassId) (L : Nat) (xs : Nat → Int32) (R m : zM) (as : List zV) : FrameBlind (zPc B b adK D cy L xs R m as) := by
  intro a U g mk h
  obtain ⟨h1, h2, h3⟩ := h
  exact ⟨h1, zSt_same (u := U) rfl rfl h2, h3⟩
theorem z_cats2 (B : Nat) (adK : Nat → Nat) (b : Nat) (l : List zV) (h : zcs l ≤ 8) : ((l.map (zval B adK b)).map fun v => v.category).sum ≤ 8 := by
  refine Nat.le_trans ?_ h
  clear h
  induction l with
  | nil => exact Nat.le_refl _
  | cons v l ih =>
    have h1 : (zval B adK b v).category ≤ (if v.1 = 1 then 2 else 1) := by
      unfold zval
      split
      · rename_i q; rw [q]; exact Nat.le_refl _
      · rename_i q; rw [q]; exact Nat.le_refl _
      · split <;> (rename_i q _; rw [q]; exact Nat.le_refl _)
      · rename_i q; rw [q]; exact Nat.le_refl _
      · rename_i q; rw [q]; exact Nat.le_refl _
      · split <;> decide
    simp only [zcs, List.map_cons, List.sum_cons] at ih ⊢
    omega
section CALLS
variable {X : zX} {y pc : Nat} {ls st : List zV} {R m : zM}
/-- behind a call -/
theorem z_after {p : Program} {l : Launch} {e : Env} {Rm : Room} {s : State} {mi : MethodId} {args : Array Value} {below : List Frame} {meth : Method} {c : Code} {H : Heap} {locs : List Loc} {cells slots : Nat} {Q : State → Prop} {B b : Nat} {adK : Nat → Nat} {D : va_G} {cy : ClassId × ClassId × ClassId × ClassId} {L : Nat} {xs : Nat → Int32} {Re : zM} {rr r1 : zR} {LS : Array Slot} {stk : List Value} {rest : List zV} {a : Array Value}
    (hr : va_Run p l e Rm s mi args below meth c H locs cells slots (r1.2.1 0 0 - R 0 0).toNat (r1.2.1 0 1 - R 0 1).toNat (F0 mi pc LS stk) (rest.map (zval B adK b)) (zQc B b adK D cy L xs r1 a) (fun q => B ≤ q))
    (hJ : zJ B b D cy L xs R m s.heap H locs) (hl : zlh B adK b LS (zml y) ls) (hls : ∀ v ∈ ls, zvok R v) (hrest : ∀ v ∈ rest, zvok R v) (hR : Re 0 0 ≤ R 0 0 ∧ R 0 0 ≤ rr.2.1 0 0 ∧ Re 0 1 ≤ R 0 1 ∧ R 0 1 ≤ rr.2.1 0 1) (hc : cells = (R 0 0 - Re 0 0).toNat) (hs : slots = (R 0 1 - Re 0 1).toNat)
    (h1 : R 0 0 ≤ r1.2.1 0 0 ∧ R 0 1 ≤ r1.2.1 0 1) (h2 : r1.2.1 0 0 ≤ rr.2.1 0 0 ∧ r1.2.1 0 1 ≤ rr.2.1 0 1)
    (k : zG (p, l, e, Rm, s, mi, args, below, meth, c, Q, (B, b, adK, D, cy, L, xs), Re, rr) y (pc + 3) ls (if r1.1.1 = 9 then rest else r1.1 :: rest) r1.2.1 r1.2.2) :
    W p l e Rm s mi args below meth c H locs cells slots Q (F0 mi pc LS stk) := by
  intro T hT X0
  obtain ⟨v, st₀, t, T', L1, h0, X', hL, e1, e2, ⟨hv, hJ1, hvo, hz, hk⟩, stp⟩ := hr T hT X0
  have hv : v = zrv B adK b r1.1 := by
    have := hv
    simpa using this
  rw [h0] at hz hk
  have hS := hJ.2.2.2.1
  have hJ2 : zJ B b D cy L xs r1.2.1 r1.2.2 s.heap T'.heap (locs ++ L1) := by
    rw [e1]
    refine ⟨hJ1.1, hJ1.2.1, hJ1.2.2.1, ⟨Nat.le_trans hS.1 hz, fun q q1 q2 => by rw [hk q (Nat.lt_of_lt_of_le q1 hS.1) q2]; exact hS.2.1 q q1 q2, fun q hq => ?_⟩, hJ1.2.2.2.2⟩
    rcases List.mem_append.mp hq with h | h
    · exact hS.2.2 q h
    · exact hL q h
  have hk2 := k T'.heap LS (locs ++ L1) (cells + (r1.2.1 0 0 - R 0 0).toNat) (slots + (r1.2.1 0 1 - R 0 1).toNat) hJ2 hl (z_okR h1.1 hls) (by
    split
    · exact z_okR h1.1 hrest
    · exact z_push hvo (z_okR h1.1 hrest)) (by omega) (by omega) (by omega)
  have e3 : (if r1.1.1 = 9 then rest else r1.1 :: rest).map (zval B adK b) = v.toList ++ rest.map (zval B adK b) := by
    rw [hv]
    unfold zrv
    split <;> rfl
  rw [e3] at hk2
  obtain ⟨t2, a1, b1⟩ := hk2 T' rfl X'
  exact ⟨t2, stp t2 a1, b1⟩
theorem z_rcv {na : Nat} (h : KX R (zrcv st na) ≠ 0) : st[na]? = some (2, zrcv st na) := by
  unfold zrcv at h ⊢
  split at h
  next q => rw [q]
  next => exact absurd rfl h
theorem z_split {na : Nat} {v : zV} (h : st[na]? = some v) : st = st.take na ++ v :: st.drop (na + 1) ∧ (st.take (na + 1)).reverse = v :: (st.take na).reverse := by
  obtain ⟨h1, h2⟩ := List.getElem?_eq_some_iff.mp h
  constructor
  · rw [← h2, ← List.drop_eq_getElem_cons h1, List.take_append_drop]
  · rw [List.take_add_one, h]
    simp

theorem g_callV {n idx y' : Nat} {r1 : zR} (ih : zSound n) (C : zCx X y) (hd : decode (zmb y) pc = .ok (.invokevirtual idx, 3)) (hz : zlink (zoc y) idx = some (0, y')) (hrun : zrun n (y', 0, zent (st.take (zma y' + 1)).reverse (zml y'), [], R, m) = some r1)
    (hcond : (zma y' + 1) ≤ st.length ∧ zcs (st.drop (zma y' + 1)) ≤ 8 ∧ zmf y' + 1 ≤ zmf y ∧ 8 + (zml y' + 11) + zmo y' ≤ zmo y ∧ ((st.take (zma y' + 1)).flatMap (fun v => if v.1 = 1 then [v, (8, 0)] else [v])).length ≤ zml y' ∧ ((st.take (zma y' + 1)).all (fun v => decide (v.1 < 5))) = true)
    (hrcv : KX R (zrcv st (zma y')) = zoc y' + 1 ∧ zoc y' < 12) (hle : r1.2.1 0 0 ≤ X.2.2.2.2.2.2.2.2.2.2.2.2.2.2.1 0 0 ∧ r1.2.1 0 1 ≤ X.2.2.2.2.2.2.2.2.2.2.2.2.2.2.1 0 1) (k : zG X y (pc + 3) ls (if r1.1.1 = 9 then st.drop (zma y' + 1) else r1.1 :: st.drop (zma y' + 1)) r1.2.1 r1.2.2) : zG X y pc ls st R m := by
  obtain ⟨p, l, e, Rm, s, mi, args, below, meth, c, Q, ⟨B, b, adK, D, cy, L, xs⟩, Re, rr⟩ := X
  obtain ⟨hx, hb, hml, hown, hts, hSt, hfr, hlo, hinit, hrc, hrs⟩ := C
  intro H LS locs cells slots hJ hl hls hst hR hc hs
  have hy' := (zlink_ok hz).choose_spec.2.2.2.2
  obtain ⟨q, q1, q2, q3, q4, -⟩ := zlink_ok hz
  have hy1 := zlink_y hz (by omega)
  have hna := (z_nargs hy').1
  have hmh := List.all_eq_true.mp z_nomh y' (List.mem_range.mpr hy')
  simp only [Bool.and_eq_true, decide_eq_true_eq] at hmh
  have hw0 : ∀ w ∈ lw_tbl, goodWord w = true → w.before args s = true := fun w h1 h2 => hts w (List.mem_filter.mpr ⟨h1, h2⟩)
  simp only [zlw, q1, q2] at q4
  obtain ⟨c1, c2, c3, c4, c5, c6⟩ := hcond
  have htag : ∀ v ∈ (st.take (zma y' + 1)).reverse, v.1 < 5 := fun v hv => by
    have := List.all_eq_true.mp c6 v (List.mem_reverse.mp hv)
    simpa using this
  have hok : ∀ v ∈ (st.take (zma y' + 1)).reverse, zvok R v := fun v hv => hst v (List.mem_of_mem_take (List.mem_reverse.mp hv))
  have hrest : ∀ v ∈ st.drop (zma y' + 1), zvok R v := fun v hv => hst v (List.mem_of_mem_drop hv)
  have hM := zmet ih l (B := B) (b := b) (adK := adK) (D := D) (cy := cy) (L := L) (xs := xs) hy' (z_nargs hy').2 hrun (by rw [zflat_rev]; exact c5) hok htag
  have hmon := zmono n _ r1 hrun
  have hle : r1.2.1 0 0 ≤ rr.2.1 0 0 ∧ r1.2.1 0 1 ≤ rr.2.1 0 1 := hle
  have hroom := lv_room (pc := pc) (ls := LS) (m := mi) (rest := st.map (zval B adK b)) (z_cats2 B adK b (st.drop (zma y' + 1)) c2)
  have hpre : ∀ U : State, U.heap = H → s.WarmedH U.vm → zPc B b adK D cy L xs R m ((st.take (zma y' + 1)).reverse) ((((st.take (zma y' + 1)).reverse).map (zval B adK b)).toArray) U := fun U hU hW => ⟨rfl, zSt_warm (locs := locs) hW (by rw [hU]; exact hJ.2.2.2.1) hSt, by rw [hU]; exact zJ_self hJ⟩
  have hsp := z_rcv (R := R) (st := st) (na := zma y') (by omega)
  obtain ⟨hs1, hs2⟩ := z_split hsp
  have h0 : 0 < zrcv st (zma y') := KX_pos (R := R) (by omega)
  have ho : 0 ≤ zrcv st (zma y') ∧ zrcv st (zma y') ≤ R 0 0 := hst _ (List.mem_of_getElem? hsp)
  have ez : zval B adK b (2, zrcv st (zma y')) = .ref (B + (zrcv st (zma y') - 1).toNat) := by
    have : ¬ zrcv st (zma y') ≤ 0 := by omega
    simp [zval, this]
  have hstk : st.map (zval B adK b) = (((st.take (zma y')).reverse).map (zval B adK b)).reverse ++ .ref (B + (zrcv st (zma y') - 1).toNat) :: (st.drop (zma y' + 1)).map (zval B adK b) := by
    rw [← List.map_reverse, List.reverse_reverse, ← ez, ← List.map_cons, ← List.map_append, ← hs1]
  have hlenA : (((st.take (zma y')).reverse).map (zval B adK b)).length = zma y' := by
    rw [List.length_map, List.length_reverse, List.length_take]
    omega
  have hpre2 : ∀ U : State, U.heap = H → s.WarmedH U.vm → zPc B b adK D cy L xs R m ((st.take (zma y' + 1)).reverse) ((Value.ref (B + (zrcv st (zma y') - 1).toNat) :: ((st.take (zma y')).reverse).map (zval B adK b)).toArray) U := by
    intro U hU hW
    have := hpre U hU hW
    rw [hs2, List.map_cons, ez] at this
    rw [hs2]
    exact this
  have jP := hJ.1
  have he := zws_lab B cy R m (n := (R 0 0).toNat) h0 (by omega)
  rw [zcell_obj B cy R m hrcv.1 hrcv.2] at he
  have hcn : (zcl (zoc y')).1 = (zmn y').cls := by
    rw [z_owns hy']
    exact z_13 (P := fun ci => (zcl ci).1 = zcn ci) ⟨rfl, rfl, rfl, rfl, rfl, rfl, rfl, rfl, rfl, rfl, rfl, rfl⟩ _ hrcv.2
  have hrv := va_recv hSt.1 jP (z_cl _ hrcv.2) he
  rw [hcn] at hrv
  rw [hstk]
  exact z_after (va_runV (As := ((st.take (zma y')).reverse).map (zval B adK b)) (rest := (st.drop (zma y' + 1)).map (zval B adK b)) (C := (zmn y').cls) (Ts := zTB) ⟨hx, hb, hml, hown, hts⟩ hM
    ⟨callB_of (zma y') hts (z_GI hy1 hy') rfl rfl rfl (hw0 _ (q4 _ (by simp)) rfl) (hw0 _ (q4 _ (by simp)) rfl) ⟨hmh.1, hmh.2, hna⟩ ⟨Nat.le_trans c3 hfr, Nat.le_trans c4 hlo⟩, hw0 _ (q4 _ (by simp)) rfl, hw0 _ (q4 _ (by simp)) rfl⟩
    ⟨zPc_blind _ _ _ _ _ _ _ _ _ _, hrv, hpre2⟩ rfl hlenA hl.1 rfl (by rw [← hstk]; exact hroom) hd ⟨by omega, by omega⟩) hJ hl hls hrest hR hc hs hmon hle k
theorem g_callS {n idx y' : Nat} {r1 : zR} (ih : zSound n) (C : zCx X y) (hd : decode (zmb y) pc = .ok (.invokestatic idx, 3)) (hz : zlink (zoc y) idx = some (1, y')) (hrun : zrun n (y', 0, zent (st.take (zma y')).reverse (zml y'), [], R, m) = some r1)
    (hcond : (zma y') ≤ st.length ∧ zcs (st.drop (zma y')) ≤ 8 ∧ zmf y' + 1 ≤ zmf y ∧ 8 + (zml y' + 11) + zmo y' ≤ zmo y ∧ ((st.take (zma y')).flatMap (fun v => if v.1 = 1 then [v, (8, 0)] else [v])).length ≤ zml y' ∧ ((st.take (zma y')).all (fun v => decide (v.1 < 5))) = true)
    (hle : r1.2.1 0 0 ≤ X.2.2.2.2.2.2.2.2.2.2.2.2.2.2.1 0 0 ∧ r1.2.1 0 1 ≤ X.2.2.2.2.2.2.2.2.2.2.2.2.2.2.1 0 1) (k : zG X y (pc + 3) ls (if r1.1.1 = 9 then st.drop (zma y') else r1.1 :: st.drop (zma y')) r1.2.1 r1.2.2) : zG X y pc ls st R m := by
  obtain ⟨p, l, e, Rm, s, mi, args, below, meth, c, Q, ⟨B, b, adK, D, cy, L, xs⟩, Re, rr⟩ := X
  obtain ⟨hx, hb, hml, hown, hts, hSt, hfr, hlo, hinit, hrc, hrs⟩ := C
  intro H LS locs cells slots hJ hl hls hst hR hc hs
  have hy' := (zlink_ok hz).choose_spec.2.2.2.2
  obtain ⟨q, q1, q2, q3, q4, -⟩ := zlink_ok hz
  have hy1 := zlink_y hz (by omega)
  have hna := (z_nargs hy').1
  have hmh := List.all_eq_true.mp z_nomh y' (List.mem_range.mpr hy')
  simp only [Bool.and_eq_true, decide_eq_true_eq] at hmh
  have hw0 : ∀ w ∈ lw_tbl, goodWord w = true → w.before args s = true := fun w h1 h2 => hts w (List.mem_filter.mpr ⟨h1, h2⟩)
  simp only [zlw, q1, q2] at q4
  obtain ⟨c1, c2, c3, c4, c5, c6⟩ := hcond
  have htag : ∀ v ∈ (st.take (zma y')).reverse, v.1 < 5 := fun v hv => by
    have := List.all_eq_true.mp c6 v (List.mem_reverse.mp hv)
    simpa using this
  have hok : ∀ v ∈ (st.take (zma y')).reverse, zvok R v := fun v hv => hst v (List.mem_of_mem_take (List.mem_reverse.mp hv))
  have hrest : ∀ v ∈ st.drop (zma y'), zvok R v := fun v hv => hst v (List.mem_of_mem_drop hv)
  have hM := zmet ih l (B := B) (b := b) (adK := adK) (D := D) (cy := cy) (L := L) (xs := xs) hy' (z_nargs hy').2 hrun (by rw [zflat_rev]; exact c5) hok htag
  have hmon := zmono n _ r1 hrun
  have hle : r1.2.1 0 0 ≤ rr.2.1 0 0 ∧ r1.2.1 0 1 ≤ rr.2.1 0 1 := hle
  have hroom := lv_room (pc := pc) (ls := LS) (m := mi) (rest := st.map (zval B adK b)) (z_cats2 B adK b (st.drop (zma y')) c2)
  have hpre : ∀ U : State, U.heap = H → s.WarmedH U.vm → zPc B b adK D cy L xs R m ((st.take (zma y')).reverse) ((((st.take (zma y')).reverse).map (zval B adK b)).toArray) U := fun U hU hW => ⟨rfl, zSt_warm (locs := locs) hW (by rw [hU]; exact hJ.2.2.2.1) hSt, by rw [hU]; exact zJ_self hJ⟩
  have hstk : st.map (zval B adK b) = (((st.take (zma y')).reverse).map (zval B adK b)).reverse ++ (st.drop (zma y')).map (zval B adK b) := by
    rw [← List.map_reverse, List.reverse_reverse, ← List.map_append, List.take_append_drop]
  have hlenA : (((st.take (zma y')).reverse).map (zval B adK b)).length = zma y' := by
    rw [List.length_map, List.length_reverse, List.length_take]
    omega
  rw [hstk]
  exact z_after (va_runS (As := ((st.take (zma y')).reverse).map (zval B adK b)) (rest := (st.drop (zma y')).map (zval B adK b)) (Ts := zTB) ⟨hx, hb, hml, hown, hts⟩ hM
    ⟨callB_of (zma y') hts (z_GI hy1 hy') rfl rfl rfl (hw0 _ (q4 _ (by simp)) rfl) (hw0 _ (q4 _ (by simp)) rfl) ⟨hmh.1, hmh.2, hna⟩ ⟨Nat.le_trans c3 hfr, Nat.le_trans c4 hlo⟩, hw0 _ (q4 _ (by simp)) rfl⟩
    ⟨zPc_blind _ _ _ _ _ _ _ _ _ _, hpre⟩ rfl hlenA hl.1 rfl (by rw [← hstk]; exact hroom) hd ⟨by omega, by omega⟩) hJ hl hls hrest hR hc hs hmon hle k
theorem g_callSN {n idx y' : Nat} {r1 : zR} (ih : zSound n) (C : zCx X y) (hd : decode (zmb y) pc = .ok (.invokestatic idx, 3)) (hz : zlink (zoc y) idx = some (4, y')) (hrun : zrun n (y', 0, zent (st.take (zma y')).reverse (zml y'), [], R, m) = some r1)
    (hcond : (zma y') ≤ st.length ∧ zcs (st.drop (zma y')) ≤ 8 ∧ zmf y' + 1 ≤ zmf y ∧ 8 + (zml y' + 11) + zmo y' ≤ zmo y ∧ ((st.take (zma y')).flatMap (fun v => if v.1 = 1 then [v, (8, 0)] else [v])).length ≤ zml y' ∧ ((st.take (zma y')).all (fun v => decide (v.1 < 5))) = true)
    (hle : r1.2.1 0 0 ≤ X.2.2.2.2.2.2.2.2.2.2.2.2.2.2.1 0 0 ∧ r1.2.1 0 1 ≤ X.2.2.2.2.2.2.2.2.2.2.2.2.2.2.1 0 1) (k : zG X y (pc + 3) ls (if r1.1.1 = 9 then st.drop (zma y') else r1.1 :: st.drop (zma y')) r1.2.1 r1.2.2) : zG X y pc ls st R m := by
  obtain ⟨p, l, e, Rm, s, mi, args, below, meth, c, Q, ⟨B, b, adK, D, cy, L, xs⟩, Re, rr⟩ := X
  obtain ⟨hx, hb, hml, hown, hts, hSt, hfr, hlo, hinit, hrc, hrs⟩ := C
  intro H LS locs cells slots hJ hl hls hst hR hc hs
  have hy' := (zlink_ok hz).choose_spec.2.2.2.2
  obtain ⟨q, q1, q2, q3, q4, -⟩ := zlink_ok hz
  have hy1 := zlink_y hz (by omega)
  have hna := (z_nargs hy').1
  have hmh := List.all_eq_true.mp z_nomh y' (List.mem_range.mpr hy')
  simp only [Bool.and_eq_true, decide_eq_true_eq] at hmh
  have hw0 : ∀ w ∈ lw_tbl, goodWord w = true → w.before args s = true := fun w h1 h2 => hts w (List.mem_filter.mpr ⟨h1, h2⟩)
  simp only [zlw, q1, q2] at q4
  obtain ⟨c1, c2, c3, c4, c5, c6⟩ := hcond
  have htag : ∀ v ∈ (st.take (zma y')).reverse, v.1 < 5 := fun v hv => by
    have := List.all_eq_true.mp c6 v (List.mem_reverse.mp hv)
    simpa using this
  have hok : ∀ v ∈ (st.take (zma y')).reverse, zvok R v := fun v hv => hst v (List.mem_of_mem_take (List.mem_reverse.mp hv))
  have hrest : ∀ v ∈ st.drop (zma y'), zvok R v := fun v hv => hst v (List.mem_of_mem_drop hv)
  have hM := zmet ih l (B := B) (b := b) (adK := adK) (D := D) (cy := cy) (L := L) (xs := xs) hy' (z_nargs hy').2 hrun (by rw [zflat_rev]; exact c5) hok htag
  have hmon := zmono n _ r1 hrun
  have hle : r1.2.1 0 0 ≤ rr.2.1 0 0 ∧ r1.2.1 0 1 ≤ rr.2.1 0 1 := hle
  have hroom := lv_room (pc := pc) (ls := LS) (m := mi) (rest := st.map (zval B adK b)) (z_cats2 B adK b (st.drop (zma y')) c2)
  have hpre : ∀ U : State, U.heap = H → s.WarmedH U.vm → zPc B b adK D cy L xs R m ((st.take (zma y')).reverse) ((((st.take (zma y')).reverse).map (zval B adK b)).toArray) U := fun U hU hW => ⟨rfl, zSt_warm (locs := locs) hW (by rw [hU]; exact hJ.2.2.2.1) hSt, by rw [hU]; exact zJ_self hJ⟩
  have hnw : va_Nw (.methodLinkNest (zcn (zoc y)) idx (zmn y') "GrownTown") s := hSt.2.2.1 _ (List.mem_filter.mpr ⟨q4 _ (by simp), rfl⟩)
  have hstk : st.map (zval B adK b) = (((st.take (zma y')).reverse).map (zval B adK b)).reverse ++ (st.drop (zma y')).map (zval B adK b) := by
    rw [← List.map_reverse, List.reverse_reverse, ← List.map_append, List.take_append_drop]
  have hlenA : (((st.take (zma y')).reverse).map (zval B adK b)).length = zma y' := by
    rw [List.length_map, List.length_reverse, List.length_take]
    omega
  rw [hstk]
  exact z_after (va_runSN (As := ((st.take (zma y')).reverse).map (zval B adK b)) (rest := (st.drop (zma y')).map (zval B adK b)) (Ts := zTB) ⟨hx, hb, hml, hown, hts⟩ hM
    ⟨va_cnB (zma y') hts (z_GI hy1 hy') rfl rfl rfl hnw (hw0 _ (q4 _ (by simp)) rfl) ⟨hmh.1, hmh.2, hna⟩ ⟨Nat.le_trans c3 hfr, Nat.le_trans c4 hlo⟩, hw0 _ (q4 _ (by simp)) rfl, trivial⟩
    ⟨zPc_blind _ _ _ _ _ _ _ _ _ _, hpre⟩ rfl hlenA hl.1 rfl (by rw [← hstk]; exact hroom) hd ⟨by omega, by omega⟩) hJ hl hls hrest hR hc hs hmon hle k
theorem g_callI {n idx y' : Nat} {r1 : zR} (ih : zSound n) (C : zCx X y) (hd : decode (zmb y) pc = .ok (.invokespecial idx, 3)) (hz : zlink (zoc y) idx = some (2, y')) (hrun : zrun n (y', 0, zent (st.take (zma y' + 1)).reverse (zml y'), [], R, m) = some r1)
    (hcond : (zma y' + 1) ≤ st.length ∧ zcs (st.drop (zma y' + 1)) ≤ 8 ∧ zmf y' + 1 ≤ zmf y ∧ 8 + (zml y' + 11) + zmo y' ≤ zmo y ∧ ((st.take (zma y' + 1)).flatMap (fun v => if v.1 = 1 then [v, (8, 0)] else [v])).length ≤ zml y' ∧ ((st.take (zma y' + 1)).all (fun v => decide (v.1 < 5))) = true)
    (hrcv : KX R (zrcv st (zma y')) = zoc y' + 1) (hle : r1.2.1 0 0 ≤ X.2.2.2.2.2.2.2.2.2.2.2.2.2.2.1 0 0 ∧ r1.2.1 0 1 ≤ X.2.2.2.2.2.2.2.2.2.2.2.2.2.2.1 0 1) (k : zG X y (pc + 3) ls (if r1.1.1 = 9 then st.drop (zma y' + 1) else r1.1 :: st.drop (zma y' + 1)) r1.2.1 r1.2.2) : zG X y pc ls st R m := by
  obtain ⟨p, l, e, Rm, s, mi, args, below, meth, c, Q, ⟨B, b, adK, D, cy, L, xs⟩, Re, rr⟩ := X
  obtain ⟨hx, hb, hml, hown, hts, hSt, hfr, hlo, hinit, hrc, hrs⟩ := C
  intro H LS locs cells slots hJ hl hls hst hR hc hs
  have hy' := (zlink_ok hz).choose_spec.2.2.2.2
  obtain ⟨q, q1, q2, q3, q4, -⟩ := zlink_ok hz
  have hy1 := zlink_y hz (by omega)
  have hna := (z_nargs hy').1
  have hmh := List.all_eq_true.mp z_nomh y' (List.mem_range.mpr hy')
  simp only [Bool.and_eq_true, decide_eq_true_eq] at hmh
  have hw0 : ∀ w ∈ lw_tbl, goodWord w = true → w.before args s = true := fun w h1 h2 => hts w (List.mem_filter.mpr ⟨h1, h2⟩)
  simp only [zlw, q1, q2] at q4
  obtain ⟨c1, c2, c3, c4, c5, c6⟩ := hcond
  have htag : ∀ v ∈ (st.take (zma y' + 1)).reverse, v.1 < 5 := fun v hv => by
    have := List.all_eq_true.mp c6 v (List.mem_reverse.mp hv)
    simpa using this
  have hok : ∀ v ∈ (st.take (zma y' + 1)).reverse, zvok R v := fun v hv => hst v (List.mem_of_mem_take (List.mem_reverse.mp hv))
  have hrest : ∀ v ∈ st.drop (zma y' + 1), zvok R v := fun v hv => hst v (List.mem_of_mem_drop hv)
  have hM := zmet ih l (B := B) (b := b) (adK := adK) (D := D) (cy := cy) (L := L) (xs := xs) hy' (z_nargs hy').2 hrun (by rw [zflat_rev]; exact c5) hok htag
  have hmon := zmono n _ r1 hrun
  have hle : r1.2.1 0 0 ≤ rr.2.1 0 0 ∧ r1.2.1 0 1 ≤ rr.2.1 0 1 := hle
  have hroom := lv_room (pc := pc) (ls := LS) (m := mi) (rest := st.map (zval B adK b)) (z_cats2 B adK b (st.drop (zma y' + 1)) c2)
  have hpre : ∀ U : State, U.heap = H → s.WarmedH U.vm → zPc B b adK D cy L xs R m ((st.take (zma y' + 1)).reverse) ((((st.take (zma y' + 1)).reverse).map (zval B adK b)).toArray) U := fun U hU hW => ⟨rfl, zSt_warm (locs := locs) hW (by rw [hU]; exact hJ.2.2.2.1) hSt, by rw [hU]; exact zJ_self hJ⟩
  have hsp := z_rcv (R := R) (st := st) (na := zma y') (by omega)
  obtain ⟨hs1, hs2⟩ := z_split hsp
  have h0 : 0 < zrcv st (zma y') := KX_pos (R := R) (by omega)
  have ho : 0 ≤ zrcv st (zma y') ∧ zrcv st (zma y') ≤ R 0 0 := hst _ (List.mem_of_getElem? hsp)
  have ez : zval B adK b (2, zrcv st (zma y')) = .ref (B + (zrcv st (zma y') - 1).toNat) := by
    have : ¬ zrcv st (zma y') ≤ 0 := by omega
    simp [zval, this]
  have hstk : st.map (zval B adK b) = (((st.take (zma y')).reverse).map (zval B adK b)).reverse ++ .ref (B + (zrcv st (zma y') - 1).toNat) :: (st.drop (zma y' + 1)).map (zval B adK b) := by
    rw [← List.map_reverse, List.reverse_reverse, ← ez, ← List.map_cons, ← List.map_append, ← hs1]
  have hlenA : (((st.take (zma y')).reverse).map (zval B adK b)).length = zma y' := by
    rw [List.length_map, List.length_reverse, List.length_take]
    omega
  have hpre2 : ∀ U : State, U.heap = H → s.WarmedH U.vm → zPc B b adK D cy L xs R m ((st.take (zma y' + 1)).reverse) ((Value.ref (B + (zrcv st (zma y') - 1).toNat) :: ((st.take (zma y')).reverse).map (zval B adK b)).toArray) U := by
    intro U hU hW
    have := hpre U hU hW
    rw [hs2, List.map_cons, ez] at this
    rw [hs2]
    exact this
  have hini2 : (zmn y').name = "<init>" ∧ zmr y' = none := by
    have h3 := q3
    simp only [zlkT, q2, Bool.and_eq_true, decide_eq_true_eq] at h3
    exact ⟨h3.1.1.1.2, h3.1.1.2⟩
  have hM2 := hM
  unfold zcw at hM2
  rw [hini2.2] at hM2
  have hGI := z_GI hy1 hy'
  unfold zcw at hGI
  rw [hini2.2] at hGI
  rw [hstk]
  exact z_after (va_runI (As := ((st.take (zma y')).reverse).map (zval B adK b)) (rest := (st.drop (zma y' + 1)).map (zval B adK b)) (Ts := zTB) ⟨hx, hb, hml, hown, hts⟩ hM2
    ⟨callB_of (zma y') hts hGI rfl rfl rfl (hw0 _ (q4 _ (by simp)) rfl) (hw0 _ (q4 _ (by simp)) rfl) ⟨hmh.1, hmh.2, hna⟩ ⟨Nat.le_trans c3 hfr, Nat.le_trans c4 hlo⟩, hini2.1, hw0 _ (q4 _ (by simp)) rfl⟩
    ⟨zPc_blind _ _ _ _ _ _ _ _ _ _, hpre2⟩ rfl hlenA hl.1 rfl (by rw [← hstk]; exact hroom) hd ⟨by omega, by omega⟩) hJ hl hls hrest hR hc hs hmon hle k
theorem g_callIN {n idx y' : Nat} {r1 : zR} (ih : zSound n) (C : zCx X y) (hd : decode (zmb y) pc = .ok (.invokespecial idx, 3)) (hz : zlink (zoc y) idx = some (5, y')) (hrun : zrun n (y', 0, zent (st.take (zma y' + 1)).reverse (zml y'), [], R, m) = some r1)
    (hcond : (zma y' + 1) ≤ st.length ∧ zcs (st.drop (zma y' + 1)) ≤ 8 ∧ zmf y' + 1 ≤ zmf y ∧ 8 + (zml y' + 11) + zmo y' ≤ zmo y ∧ ((st.take (zma y' + 1)).flatMap (fun v => if v.1 = 1 then [v, (8, 0)] else [v])).length ≤ zml y' ∧ ((st.take (zma y' + 1)).all (fun v => decide (v.1 < 5))) = true)
    (hrcv : KX R (zrcv st (zma y')) = zoc y' + 1) (hle : r1.2.1 0 0 ≤ X.2.2.2.2.2.2.2.2.2.2.2.2.2.2.1 0 0 ∧ r1.2.1 0 1 ≤ X.2.2.2.2.2.2.2.2.2.2.2.2.2.2.1 0 1) (k : zG X y (pc + 3) ls (if r1.1.1 = 9 then st.drop (zma y' + 1) else r1.1 :: st.drop (zma y' + 1)) r1.2.1 r1.2.2) : zG X y pc ls st R m := by
  obtain ⟨p, l, e, Rm, s, mi, args, below, meth, c, Q, ⟨B, b, adK, D, cy, L, xs⟩, Re, rr⟩ := X
  obtain ⟨hx, hb, hml, hown, hts, hSt, hfr, hlo, hinit, hrc, hrs⟩ := C
  intro H LS locs cells slots hJ hl hls hst hR hc hs
  have hy' := (zlink_ok hz).choose_spec.2.2.2.2
  obtain ⟨q, q1, q2, q3, q4, -⟩ := zlink_ok hz
  have hy1 := zlink_y hz (by omega)
  have hna := (z_nargs hy').1
  have hmh := List.all_eq_true.mp z_nomh y' (List.mem_range.mpr hy')
  simp only [Bool.and_eq_true, decide_eq_true_eq] at hmh
  have hw0 : ∀ w ∈ lw_tbl, goodWord w = true → w.before args s = true := fun w h1 h2 => hts w (List.mem_filter.mpr ⟨h1, h2⟩)
  simp only [zlw, q1, q2] at q4
  obtain ⟨c1, c2, c3, c4, c5, c6⟩ := hcond
  have htag : ∀ v ∈ (st.take (zma y' + 1)).reverse, v.1 < 5 := fun v hv => by
    have := List.all_eq_true.mp c6 v (List.mem_reverse.mp hv)
    simpa using this
  have hok : ∀ v ∈ (st.take (zma y' + 1)).reverse, zvok R v := fun v hv => hst v (List.mem_of_mem_take (List.mem_reverse.mp hv))
  have hrest : ∀ v ∈ st.drop (zma y' + 1), zvok R v := fun v hv => hst v (List.mem_of_mem_drop hv)
  have hM := zmet ih l (B := B) (b := b) (adK := adK) (D := D) (cy := cy) (L := L) (xs := xs) hy' (z_nargs hy').2 hrun (by rw [zflat_rev]; exact c5) hok htag
  have hmon := zmono n _ r1 hrun
  have hle : r1.2.1 0 0 ≤ rr.2.1 0 0 ∧ r1.2.1 0 1 ≤ rr.2.1 0 1 := hle
  have hroom := lv_room (pc := pc) (ls := LS) (m := mi) (rest := st.map (zval B adK b)) (z_cats2 B adK b (st.drop (zma y' + 1)) c2)
  have hpre : ∀ U : State, U.heap = H → s.WarmedH U.vm → zPc B b adK D cy L xs R m ((st.take (zma y' + 1)).reverse) ((((st.take (zma y' + 1)).reverse).map (zval B adK b)).toArray) U := fun U hU hW => ⟨rfl, zSt_warm (locs := locs) hW (by rw [hU]; exact hJ.2.2.2.1) hSt, by rw [hU]; exact zJ_self hJ⟩
  have hsp := z_rcv (R := R) (st := st) (na := zma y') (by omega)
  obtain ⟨hs1, hs2⟩ := z_split hsp
  have h0 : 0 < zrcv st (zma y') := KX_pos (R := R) (by omega)
  have ho : 0 ≤ zrcv st (zma y') ∧ zrcv st (zma y') ≤ R 0 0 := hst _ (List.mem_of_getElem? hsp)
  have ez : zval B adK b (2, zrcv st (zma y')) = .ref (B + (zrcv st (zma y') - 1).toNat) := by
    have : ¬ zrcv st (zma y') ≤ 0 := by omega
    simp [zval, this]
  have hstk : st.map (zval B adK b) = (((st.take (zma y')).reverse).map (zval B adK b)).reverse ++ .ref (B + (zrcv st (zma y') - 1).toNat) :: (st.drop (zma y' + 1)).map (zval B adK b) := by
    rw [← List.map_reverse, List.reverse_reverse, ← ez, ← List.map_cons, ← List.map_append, ← hs1]
  have hlenA : (((st.take (zma y')).reverse).map (zval B adK b)).length = zma y' := by
    rw [List.length_map, List.length_reverse, List.length_take]
    omega
  have hpre2 : ∀ U : State, U.heap = H → s.WarmedH U.vm → zPc B b adK D cy L xs R m ((st.take (zma y' + 1)).reverse) ((Value.ref (B + (zrcv st (zma y') - 1).toNat) :: ((st.take (zma y')).reverse).map (zval B adK b)).toArray) U := by
    intro U hU hW
    have := hpre U hU hW
    rw [hs2, List.map_cons, ez] at this
    rw [hs2]
    exact this
  have hini2 : (zmn y').name = "<init>" ∧ zmr y' = none := by
    have h3 := q3
    simp only [zlkT, q2, Bool.and_eq_true, decide_eq_true_eq] at h3
    exact ⟨h3.1.1.1.2, h3.1.1.2⟩
  have hM2 := hM
  unfold zcw at hM2
  rw [hini2.2] at hM2
  have hnw : va_Nw (.methodLinkNest (zcn (zoc y)) idx (zmn y') "GrownTown") s := hSt.2.2.1 _ (List.mem_filter.mpr ⟨q4 _ (by simp), rfl⟩)
  have hGI := z_GI hy1 hy'
  unfold zcw at hGI
  rw [hini2.2] at hGI
  rw [hstk]
  exact z_after (va_runIN (As := ((st.take (zma y')).reverse).map (zval B adK b)) (rest := (st.drop (zma y' + 1)).map (zval B adK b)) (Ts := zTB) ⟨hx, hb, hml, hown, hts⟩ hM2
    ⟨va_cnB (zma y') hts hGI rfl rfl rfl hnw (hw0 _ (q4 _ (by simp)) rfl) ⟨hmh.1, hmh.2, hna⟩ ⟨Nat.le_trans c3 hfr, Nat.le_trans c4 hlo⟩, hini2.1, hw0 _ (q4 _ (by simp)) rfl⟩
    ⟨zPc_blind _ _ _ _ _ _ _ _ _ _, hpre2⟩ rfl hlenA hl.1 rfl (by rw [← hstk]; exact hroom) hd ⟨by omega, by omega⟩) hJ hl hls hrest hR hc hs hmon hle k
end CALLS
