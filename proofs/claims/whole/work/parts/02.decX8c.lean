set_option maxRecDepth 20000 in
theorem gX8_kdf_X8_addAll : GoodIn wsX8_kdf (wsV RX8 121 RX8 yX8_addAll wsX8_addAll) := goodIn_app (goodIn_of _ (by decide +kernel)) ggX8_kdf_X8_addAll
set_option maxRecDepth 20000 in
theorem ggX8_kdf_X8_cmac : GoodIn wsX8_kdf wsX8_cmac := goodIn_r _ [21, 22, 8, 13, 2, 23, 24, 25, 6, 26, 27, 28, 29, 30, 31, 32, 33, 34, 35, 36, 37, 38, 39, 40, 41, 42, 43, 44, 45, 46, 47, 48, 49, 50, 51, 52, 53, 54, 55, 56, 9, 10, 11, 12, 57, 58, 59, 60, 61, 62, 63, 64, 65, 66, 67, 68, 69, 70, 71, 72, 73, 74, 75, 76, 77, 78, 79, 80, 81, 82, 83, 84, 85, 86, 87, 88, 89, 90, 91] rfl (by decide +kernel)
set_option maxRecDepth 20000 in
theorem gX8_kdf_X8_cmac : GoodIn wsX8_kdf (wsV RX8 124 RX8 yX8_cmac wsX8_cmac) := goodIn_app (goodIn_of _ (by decide +kernel)) ggX8_kdf_X8_cmac
theorem dX8_kdf_0 : decode cX8_kdf 0 = .ok (.iconst 1, 1) := by decide +kernel
theorem dX8_kdf_1 : decode cX8_kdf 1 = .ok (.istore 9, 2) := by decide +kernel
theorem dX8_kdf_3 : decode cX8_kdf 3 = .ok (.bipush 16, 2) := by decide +kernel
theorem dX8_kdf_5 : decode cX8_kdf 5 = .ok (.iload 9, 2) := by decide +kernel
theorem dX8_kdf_7 : decode cX8_kdf 7 = .ok (.iconst 1, 1) := by decide +kernel
theorem dX8_kdf_8 : decode cX8_kdf 8 = .ok (.isub, 1) := by decide +kernel
theorem dX8_kdf_9 : decode cX8_kdf 9 = .ok (.imul, 1) := by decide +kernel
theorem dX8_kdf_10 : decode cX8_kdf 10 = .ok (.iload 5, 2) := by decide +kernel
theorem dX8_kdf_12 : decode cX8_kdf 12 = .ok (.if_icmp .ge 144, 3) := by decide +kernel
theorem dX8_kdf_15 : decode cX8_kdf 15 = .ok (.aload_n 0, 1) := by decide +kernel
theorem dX8_kdf_16 : decode cX8_kdf 16 = .ok (.invokevirtual 114, 3) := by decide +kernel
theorem dX8_kdf_19 : decode cX8_kdf 19 = .ok (.iconst 0, 1) := by decide +kernel
theorem dX8_kdf_20 : decode cX8_kdf 20 = .ok (.istore 10, 2) := by decide +kernel
theorem dX8_kdf_22 : decode cX8_kdf 22 = .ok (.iload 10, 2) := by decide +kernel
theorem dX8_kdf_24 : decode cX8_kdf 24 = .ok (.bipush 11, 2) := by decide +kernel
theorem dX8_kdf_26 : decode cX8_kdf 26 = .ok (.if_icmp .ge 14, 3) := by decide +kernel
theorem dX8_kdf_29 : decode cX8_kdf 29 = .ok (.aload_n 0, 1) := by decide +kernel
theorem dX8_kdf_30 : decode cX8_kdf 30 = .ok (.iconst 0, 1) := by decide +kernel
theorem dX8_kdf_31 : decode cX8_kdf 31 = .ok (.invokevirtual 87, 3) := by decide +kernel
theorem dX8_kdf_34 : decode cX8_kdf 34 = .ok (.iinc 10 1, 3) := by decide +kernel
theorem dX8_kdf_37 : decode cX8_kdf 37 = .ok (.goto (-15), 3) := by decide +kernel
theorem dX8_kdf_40 : decode cX8_kdf 40 = .ok (.aload_n 0, 1) := by decide +kernel
theorem dX8_kdf_41 : decode cX8_kdf 41 = .ok (.iload 4, 2) := by decide +kernel
theorem dX8_kdf_43 : decode cX8_kdf 43 = .ok (.invokevirtual 87, 3) := by decide +kernel
theorem dX8_kdf_46 : decode cX8_kdf 46 = .ok (.aload_n 0, 1) := by decide +kernel
theorem dX8_kdf_47 : decode cX8_kdf 47 = .ok (.iconst 0, 1) := by decide +kernel
theorem dX8_kdf_48 : decode cX8_kdf 48 = .ok (.invokevirtual 87, 3) := by decide +kernel
theorem dX8_kdf_51 : decode cX8_kdf 51 = .ok (.aload_n 0, 1) := by decide +kernel
theorem dX8_kdf_52 : decode cX8_kdf 52 = .ok (.bipush 8, 2) := by decide +kernel
theorem dX8_kdf_54 : decode cX8_kdf 54 = .ok (.iload 5, 2) := by decide +kernel
theorem dX8_kdf_56 : decode cX8_kdf 56 = .ok (.imul, 1) := by decide +kernel
theorem dX8_kdf_57 : decode cX8_kdf 57 = .ok (.bipush 8, 2) := by decide +kernel
theorem dX8_kdf_59 : decode cX8_kdf 59 = .ok (.ishr, 1) := by decide +kernel
theorem dX8_kdf_60 : decode cX8_kdf 60 = .ok (.invokevirtual 87, 3) := by decide +kernel
theorem dX8_kdf_63 : decode cX8_kdf 63 = .ok (.aload_n 0, 1) := by decide +kernel
theorem dX8_kdf_64 : decode cX8_kdf 64 = .ok (.bipush 8, 2) := by decide +kernel
theorem dX8_kdf_66 : decode cX8_kdf 66 = .ok (.iload 5, 2) := by decide +kernel
theorem dX8_kdf_68 : decode cX8_kdf 68 = .ok (.imul, 1) := by decide +kernel
theorem dX8_kdf_69 : decode cX8_kdf 69 = .ok (.invokevirtual 87, 3) := by decide +kernel
theorem dX8_kdf_72 : decode cX8_kdf 72 = .ok (.aload_n 0, 1) := by decide +kernel
theorem dX8_kdf_73 : decode cX8_kdf 73 = .ok (.iload 9, 2) := by decide +kernel
theorem dX8_kdf_75 : decode cX8_kdf 75 = .ok (.invokevirtual 87, 3) := by decide +kernel
theorem dX8_kdf_78 : decode cX8_kdf 78 = .ok (.aload_n 0, 1) := by decide +kernel
theorem dX8_kdf_79 : decode cX8_kdf 79 = .ok (.aload_n 0, 1) := by decide +kernel
theorem dX8_kdf_80 : decode cX8_kdf 80 = .ok (.getfield 118, 3) := by decide +kernel
theorem dX8_kdf_83 : decode cX8_kdf 83 = .ok (.iconst 0, 1) := by decide +kernel
theorem dX8_kdf_84 : decode cX8_kdf 84 = .ok (.iload 6, 2) := by decide +kernel
theorem dX8_kdf_86 : decode cX8_kdf 86 = .ok (.invokevirtual 121, 3) := by decide +kernel
theorem dX8_kdf_89 : decode cX8_kdf 89 = .ok (.aload_n 0, 1) := by decide +kernel
theorem dX8_kdf_90 : decode cX8_kdf 90 = .ok (.aload_n 1, 1) := by decide +kernel
theorem dX8_kdf_91 : decode cX8_kdf 91 = .ok (.iload_n 2, 1) := by decide +kernel
theorem dX8_kdf_92 : decode cX8_kdf 92 = .ok (.iload_n 3, 1) := by decide +kernel
theorem dX8_kdf_93 : decode cX8_kdf 93 = .ok (.invokevirtual 124, 3) := by decide +kernel
theorem dX8_kdf_96 : decode cX8_kdf 96 = .ok (.iconst 0, 1) := by decide +kernel
theorem dX8_kdf_97 : decode cX8_kdf 97 = .ok (.istore 10, 2) := by decide +kernel
theorem dX8_kdf_99 : decode cX8_kdf 99 = .ok (.iload 10, 2) := by decide +kernel
theorem dX8_kdf_101 : decode cX8_kdf 101 = .ok (.bipush 16, 2) := by decide +kernel
theorem dX8_kdf_103 : decode cX8_kdf 103 = .ok (.if_icmp .ge 47, 3) := by decide +kernel
theorem dX8_kdf_106 : decode cX8_kdf 106 = .ok (.bipush 16, 2) := by decide +kernel
theorem dX8_kdf_108 : decode cX8_kdf 108 = .ok (.iload 9, 2) := by decide +kernel
theorem dX8_kdf_110 : decode cX8_kdf 110 = .ok (.iconst 1, 1) := by decide +kernel
theorem dX8_kdf_111 : decode cX8_kdf 111 = .ok (.isub, 1) := by decide +kernel
theorem dX8_kdf_112 : decode cX8_kdf 112 = .ok (.imul, 1) := by decide +kernel
theorem dX8_kdf_113 : decode cX8_kdf 113 = .ok (.iload 10, 2) := by decide +kernel
theorem dX8_kdf_115 : decode cX8_kdf 115 = .ok (.iadd, 1) := by decide +kernel
theorem dX8_kdf_116 : decode cX8_kdf 116 = .ok (.iload 5, 2) := by decide +kernel
theorem dX8_kdf_118 : decode cX8_kdf 118 = .ok (.if_icmp .ge 32, 3) := by decide +kernel
theorem dX8_kdf_121 : decode cX8_kdf 121 = .ok (.aload 7, 2) := by decide +kernel
theorem dX8_kdf_123 : decode cX8_kdf 123 = .ok (.iload 8, 2) := by decide +kernel
theorem dX8_kdf_125 : decode cX8_kdf 125 = .ok (.bipush 16, 2) := by decide +kernel
theorem dX8_kdf_127 : decode cX8_kdf 127 = .ok (.iload 9, 2) := by decide +kernel
theorem dX8_kdf_129 : decode cX8_kdf 129 = .ok (.iconst 1, 1) := by decide +kernel
theorem dX8_kdf_130 : decode cX8_kdf 130 = .ok (.isub, 1) := by decide +kernel
theorem dX8_kdf_131 : decode cX8_kdf 131 = .ok (.imul, 1) := by decide +kernel
theorem dX8_kdf_132 : decode cX8_kdf 132 = .ok (.iadd, 1) := by decide +kernel
theorem dX8_kdf_133 : decode cX8_kdf 133 = .ok (.iload 10, 2) := by decide +kernel
theorem dX8_kdf_135 : decode cX8_kdf 135 = .ok (.iadd, 1) := by decide +kernel
theorem dX8_kdf_136 : decode cX8_kdf 136 = .ok (.aload_n 0, 1) := by decide +kernel
theorem dX8_kdf_137 : decode cX8_kdf 137 = .ok (.getfield 94, 3) := by decide +kernel
theorem dX8_kdf_140 : decode cX8_kdf 140 = .ok (.iload 10, 2) := by decide +kernel
theorem dX8_kdf_142 : decode cX8_kdf 142 = .ok (.baload, 1) := by decide +kernel
theorem dX8_kdf_143 : decode cX8_kdf 143 = .ok (.bastore, 1) := by decide +kernel
theorem dX8_kdf_144 : decode cX8_kdf 144 = .ok (.iinc 10 1, 3) := by decide +kernel
theorem dX8_kdf_147 : decode cX8_kdf 147 = .ok (.goto (-48), 3) := by decide +kernel
theorem dX8_kdf_150 : decode cX8_kdf 150 = .ok (.iinc 9 1, 3) := by decide +kernel
theorem dX8_kdf_153 : decode cX8_kdf 153 = .ok (.goto (-150), 3) := by decide +kernel
theorem dX8_kdf_156 : decode cX8_kdf 156 = .ok (.return_, 1) := by decide +kernel
theorem dX8_turn_0 : decode cX8_turn 0 = .ok (.iload_n 0, 1) := by decide +kernel
theorem dX8_turn_1 : decode cX8_turn 1 = .ok (.iload_n 1, 1) := by decide +kernel
theorem dX8_turn_2 : decode cX8_turn 2 = .ok (.iushr, 1) := by decide +kernel
theorem dX8_turn_3 : decode cX8_turn 3 = .ok (.iload_n 0, 1) := by decide +kernel
theorem dX8_turn_4 : decode cX8_turn 4 = .ok (.bipush 32, 2) := by decide +kernel
theorem dX8_turn_6 : decode cX8_turn 6 = .ok (.iload_n 1, 1) := by decide +kernel
theorem dX8_turn_7 : decode cX8_turn 7 = .ok (.isub, 1) := by decide +kernel
theorem dX8_turn_8 : decode cX8_turn 8 = .ok (.ishl, 1) := by decide +kernel
theorem dX8_turn_9 : decode cX8_turn 9 = .ok (.ior, 1) := by decide +kernel
theorem dX8_turn_10 : decode cX8_turn 10 = .ok (.ireturn, 1) := by decide +kernel
set_option maxRecDepth 20000 in
theorem ggX8_digest_X8_add : GoodIn wsX8_digest wsX8_add := goodIn_r _ [10, 11, 2, 21, 22, 23, 24, 25, 26, 27, 28, 29, 30, 31, 32, 33, 34, 35, 36, 37, 38, 39, 40, 41, 42, 43, 44, 45, 46, 47, 48, 49, 50, 51, 52, 53, 54, 55] rfl (by decide +kernel)
set_option maxRecDepth 20000 in
theorem gX8_digest_X8_add : GoodIn wsX8_digest (wsV RX8 87 RX8 yX8_add wsX8_add) := goodIn_app (goodIn_of _ (by decide +kernel)) ggX8_digest_X8_add
set_option maxRecDepth 20000 in
theorem ggX8_digest_X8_digestBlock : GoodIn wsX8_digest wsX8_digestBlock := goodIn_r _ [15, 16, 11, 3, 17, 18, 19, 9, 20, 21, 22, 23, 24, 25, 26, 27, 28, 29, 30, 31, 32, 33, 34, 35, 36, 37, 38, 39, 40, 41, 42, 43, 44, 45, 46, 47, 48, 49, 50, 51, 52, 53, 54, 55] rfl (by decide +kernel)
set_option maxRecDepth 20000 in
theorem gX8_digest_X8_digestBlock : GoodIn wsX8_digest (wsV RX8 135 RX8 yX8_digestBlock wsX8_digestBlock) := goodIn_app (goodIn_of _ (by decide +kernel)) ggX8_digest_X8_digestBlock
theorem dX8_digest_0 : decode cX8_digest 0 = .ok (.ldc2_w 127, 3) := by decide +kernel
theorem dX8_digest_3 : decode cX8_digest 3 = .ok (.aload_n 0, 1) := by decide +kernel
theorem dX8_digest_4 : decode cX8_digest 4 = .ok (.getfield 81, 3) := by decide +kernel
theorem dX8_digest_7 : decode cX8_digest 7 = .ok (.i2l, 1) := by decide +kernel
theorem dX8_digest_8 : decode cX8_digest 8 = .ok (.lmul, 1) := by decide +kernel
theorem dX8_digest_9 : decode cX8_digest 9 = .ok (.lstore_n 1, 1) := by decide +kernel
theorem dX8_digest_10 : decode cX8_digest 10 = .ok (.aload_n 0, 1) := by decide +kernel
theorem dX8_digest_11 : decode cX8_digest 11 = .ok (.sipush 128, 3) := by decide +kernel
theorem dX8_digest_14 : decode cX8_digest 14 = .ok (.invokevirtual 87, 3) := by decide +kernel
theorem dX8_digest_17 : decode cX8_digest 17 = .ok (.aload_n 0, 1) := by decide +kernel
theorem dX8_digest_18 : decode cX8_digest 18 = .ok (.getfield 81, 3) := by decide +kernel
theorem dX8_digest_21 : decode cX8_digest 21 = .ok (.bipush 64, 2) := by decide +kernel
theorem dX8_digest_23 : decode cX8_digest 23 = .ok (.irem, 1) := by decide +kernel
theorem dX8_digest_24 : decode cX8_digest 24 = .ok (.bipush 56, 2) := by decide +kernel
theorem dX8_digest_26 : decode cX8_digest 26 = .ok (.if_icmp .eq 11, 3) := by decide +kernel
theorem dX8_digest_29 : decode cX8_digest 29 = .ok (.aload_n 0, 1) := by decide +kernel
theorem dX8_digest_30 : decode cX8_digest 30 = .ok (.iconst 0, 1) := by decide +kernel
theorem dX8_digest_31 : decode cX8_digest 31 = .ok (.invokevirtual 87, 3) := by decide +kernel
theorem dX8_digest_34 : decode cX8_digest 34 = .ok (.goto (-17), 3) := by decide +kernel
theorem dX8_digest_37 : decode cX8_digest 37 = .ok (.bipush 56, 2) := by decide +kernel
theorem dX8_digest_39 : decode cX8_digest 39 = .ok (.istore_n 3, 1) := by decide +kernel
theorem dX8_digest_40 : decode cX8_digest 40 = .ok (.iload_n 3, 1) := by decide +kernel
theorem dX8_digest_41 : decode cX8_digest 41 = .ok (.ifCond .lt 17, 3) := by decide +kernel
theorem dX8_digest_44 : decode cX8_digest 44 = .ok (.aload_n 0, 1) := by decide +kernel
theorem dX8_digest_45 : decode cX8_digest 45 = .ok (.lload_n 1, 1) := by decide +kernel
theorem dX8_digest_46 : decode cX8_digest 46 = .ok (.iload_n 3, 1) := by decide +kernel
theorem dX8_digest_47 : decode cX8_digest 47 = .ok (.lshr, 1) := by decide +kernel
theorem dX8_digest_48 : decode cX8_digest 48 = .ok (.l2i, 1) := by decide +kernel
theorem dX8_digest_49 : decode cX8_digest 49 = .ok (.invokevirtual 87, 3) := by decide +kernel
theorem dX8_digest_52 : decode cX8_digest 52 = .ok (.iinc 3 (-8), 3) := by decide +kernel
theorem dX8_digest_55 : decode cX8_digest 55 = .ok (.goto (-15), 3) := by decide +kernel
theorem dX8_digest_58 : decode cX8_digest 58 = .ok (.iconst 0, 1) := by decide +kernel
theorem dX8_digest_59 : decode cX8_digest 59 = .ok (.istore_n 3, 1) := by decide +kernel
theorem dX8_digest_60 : decode cX8_digest 60 = .ok (.iload_n 3, 1) := by decide +kernel
theorem dX8_digest_61 : decode cX8_digest 61 = .ok (.bipush 8, 2) := by decide +kernel
theorem dX8_digest_63 : decode cX8_digest 63 = .ok (.if_icmp .ge 21, 3) := by decide +kernel
theorem dX8_digest_66 : decode cX8_digest 66 = .ok (.aload_n 0, 1) := by decide +kernel
theorem dX8_digest_67 : decode cX8_digest 67 = .ok (.getfield 129, 3) := by decide +kernel
theorem dX8_digest_70 : decode cX8_digest 70 = .ok (.iload_n 3, 1) := by decide +kernel
theorem dX8_digest_71 : decode cX8_digest 71 = .ok (.aload_n 0, 1) := by decide +kernel
theorem dX8_digest_72 : decode cX8_digest 72 = .ok (.getfield 132, 3) := by decide +kernel
theorem dX8_digest_75 : decode cX8_digest 75 = .ok (.iload_n 3, 1) := by decide +kernel
theorem dX8_digest_76 : decode cX8_digest 76 = .ok (.iaload, 1) := by decide +kernel
theorem dX8_digest_77 : decode cX8_digest 77 = .ok (.iastore, 1) := by decide +kernel
theorem dX8_digest_78 : decode cX8_digest 78 = .ok (.iinc 3 1, 3) := by decide +kernel
theorem dX8_digest_81 : decode cX8_digest 81 = .ok (.goto (-21), 3) := by decide +kernel
theorem dX8_digest_84 : decode cX8_digest 84 = .ok (.iconst 0, 1) := by decide +kernel
theorem dX8_digest_85 : decode cX8_digest 85 = .ok (.istore_n 3, 1) := by decide +kernel
theorem dX8_digest_86 : decode cX8_digest 86 = .ok (.iload_n 3, 1) := by decide +kernel
theorem dX8_digest_87 : decode cX8_digest 87 = .ok (.aload_n 0, 1) := by decide +kernel
theorem dX8_digest_88 : decode cX8_digest 88 = .ok (.getfield 81, 3) := by decide +kernel
theorem dX8_digest_91 : decode cX8_digest 91 = .ok (.if_icmp .ge 14, 3) := by decide +kernel
theorem dX8_digest_94 : decode cX8_digest 94 = .ok (.aload_n 0, 1) := by decide +kernel
theorem dX8_digest_95 : decode cX8_digest 95 = .ok (.iload_n 3, 1) := by decide +kernel
theorem dX8_digest_96 : decode cX8_digest 96 = .ok (.invokevirtual 135, 3) := by decide +kernel
theorem dX8_digest_99 : decode cX8_digest 99 = .ok (.iinc 3 64, 3) := by decide +kernel
theorem dX8_digest_102 : decode cX8_digest 102 = .ok (.goto (-16), 3) := by decide +kernel
theorem dX8_digest_105 : decode cX8_digest 105 = .ok (.iconst 0, 1) := by decide +kernel
theorem dX8_digest_106 : decode cX8_digest 106 = .ok (.istore_n 3, 1) := by decide +kernel
theorem dX8_digest_107 : decode cX8_digest 107 = .ok (.iload_n 3, 1) := by decide +kernel
theorem dX8_digest_108 : decode cX8_digest 108 = .ok (.bipush 32, 2) := by decide +kernel
theorem dX8_digest_110 : decode cX8_digest 110 = .ok (.if_icmp .ge 34, 3) := by decide +kernel
theorem dX8_digest_113 : decode cX8_digest 113 = .ok (.aload_n 0, 1) := by decide +kernel
theorem dX8_digest_114 : decode cX8_digest 114 = .ok (.getfield 138, 3) := by decide +kernel
theorem dX8_digest_117 : decode cX8_digest 117 = .ok (.iload_n 3, 1) := by decide +kernel
theorem dX8_digest_118 : decode cX8_digest 118 = .ok (.aload_n 0, 1) := by decide +kernel
theorem dX8_digest_119 : decode cX8_digest 119 = .ok (.getfield 129, 3) := by decide +kernel
theorem dX8_digest_122 : decode cX8_digest 122 = .ok (.iload_n 3, 1) := by decide +kernel
theorem dX8_digest_123 : decode cX8_digest 123 = .ok (.iconst 4, 1) := by decide +kernel
theorem dX8_digest_124 : decode cX8_digest 124 = .ok (.idiv, 1) := by decide +kernel
theorem dX8_digest_125 : decode cX8_digest 125 = .ok (.iaload, 1) := by decide +kernel
theorem dX8_digest_126 : decode cX8_digest 126 = .ok (.bipush 24, 2) := by decide +kernel
theorem dX8_digest_128 : decode cX8_digest 128 = .ok (.bipush 8, 2) := by decide +kernel
theorem dX8_digest_130 : decode cX8_digest 130 = .ok (.iload_n 3, 1) := by decide +kernel
theorem dX8_digest_131 : decode cX8_digest 131 = .ok (.iconst 4, 1) := by decide +kernel
theorem dX8_digest_132 : decode cX8_digest 132 = .ok (.irem, 1) := by decide +kernel
theorem dX8_digest_133 : decode cX8_digest 133 = .ok (.imul, 1) := by decide +kernel
theorem dX8_digest_134 : decode cX8_digest 134 = .ok (.isub, 1) := by decide +kernel
theorem dX8_digest_135 : decode cX8_digest 135 = .ok (.ishr, 1) := by decide +kernel
theorem dX8_digest_136 : decode cX8_digest 136 = .ok (.i2b, 1) := by decide +kernel
theorem dX8_digest_137 : decode cX8_digest 137 = .ok (.bastore, 1) := by decide +kernel
theorem dX8_digest_138 : decode cX8_digest 138 = .ok (.iinc 3 1, 3) := by decide +kernel
theorem dX8_digest_141 : decode cX8_digest 141 = .ok (.goto (-34), 3) := by decide +kernel
theorem dX8_digest_144 : decode cX8_digest 144 = .ok (.return_, 1) := by decide +kernel
set_option maxRecDepth 20000 in
theorem ggX8_digestBlock_X8_turn : GoodIn wsX8_digestBlock wsX8_turn := goodIn_r _ [8] rfl (by decide +kernel)
set_option maxRecDepth 20000 in
theorem gX8_digestBlock_X8_turn : GoodIn wsX8_digestBlock (va_wsS RX8 144 yX8_turn wsX8_turn) := goodIn_app (goodIn_of _ (by decide +kernel)) ggX8_digestBlock_X8_turn
theorem dX8_digestBlock_0 : decode cX8_digestBlock 0 = .ok (.iconst 0, 1) := by decide +kernel
theorem dX8_digestBlock_1 : decode cX8_digestBlock 1 = .ok (.istore_n 2, 1) := by decide +kernel
theorem dX8_digestBlock_2 : decode cX8_digestBlock 2 = .ok (.iload_n 2, 1) := by decide +kernel
theorem dX8_digestBlock_3 : decode cX8_digestBlock 3 = .ok (.bipush 64, 2) := by decide +kernel
theorem dX8_digestBlock_5 : decode cX8_digestBlock 5 = .ok (.if_icmp .ge 211, 3) := by decide +kernel
theorem dX8_digestBlock_8 : decode cX8_digestBlock 8 = .ok (.iload_n 2, 1) := by decide +kernel
theorem dX8_digestBlock_9 : decode cX8_digestBlock 9 = .ok (.bipush 16, 2) := by decide +kernel
theorem dX8_digestBlock_11 : decode cX8_digestBlock 11 = .ok (.if_icmp .ge 86, 3) := by decide +kernel
theorem dX8_digestBlock_14 : decode cX8_digestBlock 14 = .ok (.aload_n 0, 1) := by decide +kernel
theorem dX8_digestBlock_15 : decode cX8_digestBlock 15 = .ok (.getfield 141, 3) := by decide +kernel
theorem dX8_digestBlock_18 : decode cX8_digestBlock 18 = .ok (.iload_n 2, 1) := by decide +kernel
theorem dX8_digestBlock_19 : decode cX8_digestBlock 19 = .ok (.aload_n 0, 1) := by decide +kernel
theorem dX8_digestBlock_20 : decode cX8_digestBlock 20 = .ok (.getfield 84, 3) := by decide +kernel
theorem dX8_digestBlock_23 : decode cX8_digestBlock 23 = .ok (.iload_n 1, 1) := by decide +kernel
theorem dX8_digestBlock_24 : decode cX8_digestBlock 24 = .ok (.iconst 4, 1) := by decide +kernel
theorem dX8_digestBlock_25 : decode cX8_digestBlock 25 = .ok (.iload_n 2, 1) := by decide +kernel
theorem dX8_digestBlock_26 : decode cX8_digestBlock 26 = .ok (.imul, 1) := by decide +kernel
theorem dX8_digestBlock_27 : decode cX8_digestBlock 27 = .ok (.iadd, 1) := by decide +kernel
theorem dX8_digestBlock_28 : decode cX8_digestBlock 28 = .ok (.baload, 1) := by decide +kernel
theorem dX8_digestBlock_29 : decode cX8_digestBlock 29 = .ok (.sipush 255, 3) := by decide +kernel
theorem dX8_digestBlock_32 : decode cX8_digestBlock 32 = .ok (.iand, 1) := by decide +kernel
theorem dX8_digestBlock_33 : decode cX8_digestBlock 33 = .ok (.bipush 24, 2) := by decide +kernel
theorem dX8_digestBlock_35 : decode cX8_digestBlock 35 = .ok (.ishl, 1) := by decide +kernel
theorem dX8_digestBlock_36 : decode cX8_digestBlock 36 = .ok (.aload_n 0, 1) := by decide +kernel
theorem dX8_digestBlock_37 : decode cX8_digestBlock 37 = .ok (.getfield 84, 3) := by decide +kernel
theorem dX8_digestBlock_40 : decode cX8_digestBlock 40 = .ok (.iload_n 1, 1) := by decide +kernel
theorem dX8_digestBlock_41 : decode cX8_digestBlock 41 = .ok (.iconst 4, 1) := by decide +kernel
theorem dX8_digestBlock_42 : decode cX8_digestBlock 42 = .ok (.iload_n 2, 1) := by decide +kernel
theorem dX8_digestBlock_43 : decode cX8_digestBlock 43 = .ok (.imul, 1) := by decide +kernel
theorem dX8_digestBlock_44 : decode cX8_digestBlock 44 = .ok (.iadd, 1) := by decide +kernel
theorem dX8_digestBlock_45 : decode cX8_digestBlock 45 = .ok (.iconst 1, 1) := by decide +kernel
theorem dX8_digestBlock_46 : decode cX8_digestBlock 46 = .ok (.iadd, 1) := by decide +kernel
theorem dX8_digestBlock_47 : decode cX8_digestBlock 47 = .ok (.baload, 1) := by decide +kernel
theorem dX8_digestBlock_48 : decode cX8_digestBlock 48 = .ok (.sipush 255, 3) := by decide +kernel
theorem dX8_digestBlock_51 : decode cX8_digestBlock 51 = .ok (.iand, 1) := by decide +kernel
theorem dX8_digestBlock_52 : decode cX8_digestBlock 52 = .ok (.bipush 16, 2) := by decide +kernel
theorem dX8_digestBlock_54 : decode cX8_digestBlock 54 = .ok (.ishl, 1) := by decide +kernel
theorem dX8_digestBlock_55 : decode cX8_digestBlock 55 = .ok (.ior, 1) := by decide +kernel
theorem dX8_digestBlock_56 : decode cX8_digestBlock 56 = .ok (.aload_n 0, 1) := by decide +kernel
theorem dX8_digestBlock_57 : decode cX8_digestBlock 57 = .ok (.getfield 84, 3) := by decide +kernel
theorem dX8_digestBlock_60 : decode cX8_digestBlock 60 = .ok (.iload_n 1, 1) := by decide +kernel
theorem dX8_digestBlock_61 : decode cX8_digestBlock 61 = .ok (.iconst 4, 1) := by decide +kernel
theorem dX8_digestBlock_62 : decode cX8_digestBlock 62 = .ok (.iload_n 2, 1) := by decide +kernel
theorem dX8_digestBlock_63 : decode cX8_digestBlock 63 = .ok (.imul, 1) := by decide +kernel
theorem dX8_digestBlock_64 : decode cX8_digestBlock 64 = .ok (.iadd, 1) := by decide +kernel
theorem dX8_digestBlock_65 : decode cX8_digestBlock 65 = .ok (.iconst 2, 1) := by decide +kernel
theorem dX8_digestBlock_66 : decode cX8_digestBlock 66 = .ok (.iadd, 1) := by decide +kernel
theorem dX8_digestBlock_67 : decode cX8_digestBlock 67 = .ok (.baload, 1) := by decide +kernel
theorem dX8_digestBlock_68 : decode cX8_digestBlock 68 = .ok (.sipush 255, 3) := by decide +kernel
theorem dX8_digestBlock_71 : decode cX8_digestBlock 71 = .ok (.iand, 1) := by decide +kernel
theorem dX8_digestBlock_72 : decode cX8_digestBlock 72 = .ok (.bipush 8, 2) := by decide +kernel
theorem dX8_digestBlock_74 : decode cX8_digestBlock 74 = .ok (.ishl, 1) := by decide +kernel
theorem dX8_digestBlock_75 : decode cX8_digestBlock 75 = .ok (.ior, 1) := by decide +kernel
theorem dX8_digestBlock_76 : decode cX8_digestBlock 76 = .ok (.aload_n 0, 1) := by decide +kernel
theorem dX8_digestBlock_77 : decode cX8_digestBlock 77 = .ok (.getfield 84, 3) := by decide +kernel
theorem dX8_digestBlock_80 : decode cX8_digestBlock 80 = .ok (.iload_n 1, 1) := by decide +kernel
theorem dX8_digestBlock_81 : decode cX8_digestBlock 81 = .ok (.iconst 4, 1) := by decide +kernel
theorem dX8_digestBlock_82 : decode cX8_digestBlock 82 = .ok (.iload_n 2, 1) := by decide +kernel
theorem dX8_digestBlock_83 : decode cX8_digestBlock 83 = .ok (.imul, 1) := by decide +kernel
theorem dX8_digestBlock_84 : decode cX8_digestBlock 84 = .ok (.iadd, 1) := by decide +kernel
theorem dX8_digestBlock_85 : decode cX8_digestBlock 85 = .ok (.iconst 3, 1) := by decide +kernel
theorem dX8_digestBlock_86 : decode cX8_digestBlock 86 = .ok (.iadd, 1) := by decide +kernel
theorem dX8_digestBlock_87 : decode cX8_digestBlock 87 = .ok (.baload, 1) := by decide +kernel
theorem dX8_digestBlock_88 : decode cX8_digestBlock 88 = .ok (.sipush 255, 3) := by decide +kernel
theorem dX8_digestBlock_91 : decode cX8_digestBlock 91 = .ok (.iand, 1) := by decide +kernel
theorem dX8_digestBlock_92 : decode cX8_digestBlock 92 = .ok (.ior, 1) := by decide +kernel
theorem dX8_digestBlock_93 : decode cX8_digestBlock 93 = .ok (.iastore, 1) := by decide +kernel
theorem dX8_digestBlock_94 : decode cX8_digestBlock 94 = .ok (.goto 116, 3) := by decide +kernel
theorem dX8_digestBlock_97 : decode cX8_digestBlock 97 = .ok (.aload_n 0, 1) := by decide +kernel
theorem dX8_digestBlock_98 : decode cX8_digestBlock 98 = .ok (.getfield 141, 3) := by decide +kernel
theorem dX8_digestBlock_101 : decode cX8_digestBlock 101 = .ok (.iload_n 2, 1) := by decide +kernel
theorem dX8_digestBlock_102 : decode cX8_digestBlock 102 = .ok (.bipush 15, 2) := by decide +kernel
theorem dX8_digestBlock_104 : decode cX8_digestBlock 104 = .ok (.isub, 1) := by decide +kernel
theorem dX8_digestBlock_105 : decode cX8_digestBlock 105 = .ok (.iaload, 1) := by decide +kernel
theorem dX8_digestBlock_106 : decode cX8_digestBlock 106 = .ok (.bipush 7, 2) := by decide +kernel
theorem dX8_digestBlock_108 : decode cX8_digestBlock 108 = .ok (.invokestatic 144, 3) := by decide +kernel
theorem dX8_digestBlock_111 : decode cX8_digestBlock 111 = .ok (.aload_n 0, 1) := by decide +kernel
theorem dX8_digestBlock_112 : decode cX8_digestBlock 112 = .ok (.getfield 141, 3) := by decide +kernel
theorem dX8_digestBlock_115 : decode cX8_digestBlock 115 = .ok (.iload_n 2, 1) := by decide +kernel
theorem dX8_digestBlock_116 : decode cX8_digestBlock 116 = .ok (.bipush 15, 2) := by decide +kernel
theorem dX8_digestBlock_118 : decode cX8_digestBlock 118 = .ok (.isub, 1) := by decide +kernel
theorem dX8_digestBlock_119 : decode cX8_digestBlock 119 = .ok (.iaload, 1) := by decide +kernel
theorem dX8_digestBlock_120 : decode cX8_digestBlock 120 = .ok (.bipush 18, 2) := by decide +kernel
theorem dX8_digestBlock_122 : decode cX8_digestBlock 122 = .ok (.invokestatic 144, 3) := by decide +kernel
theorem dX8_digestBlock_125 : decode cX8_digestBlock 125 = .ok (.ixor, 1) := by decide +kernel
theorem dX8_digestBlock_126 : decode cX8_digestBlock 126 = .ok (.aload_n 0, 1) := by decide +kernel
theorem dX8_digestBlock_127 : decode cX8_digestBlock 127 = .ok (.getfield 141, 3) := by decide +kernel
theorem dX8_digestBlock_130 : decode cX8_digestBlock 130 = .ok (.iload_n 2, 1) := by decide +kernel
theorem dX8_digestBlock_131 : decode cX8_digestBlock 131 = .ok (.bipush 15, 2) := by decide +kernel
theorem dX8_digestBlock_133 : decode cX8_digestBlock 133 = .ok (.isub, 1) := by decide +kernel
theorem dX8_digestBlock_134 : decode cX8_digestBlock 134 = .ok (.iaload, 1) := by decide +kernel
theorem dX8_digestBlock_135 : decode cX8_digestBlock 135 = .ok (.iconst 3, 1) := by decide +kernel
theorem dX8_digestBlock_136 : decode cX8_digestBlock 136 = .ok (.iushr, 1) := by decide +kernel
theorem dX8_digestBlock_137 : decode cX8_digestBlock 137 = .ok (.ixor, 1) := by decide +kernel
theorem dX8_digestBlock_138 : decode cX8_digestBlock 138 = .ok (.istore_n 3, 1) := by decide +kernel
theorem dX8_digestBlock_139 : decode cX8_digestBlock 139 = .ok (.aload_n 0, 1) := by decide +kernel
theorem dX8_digestBlock_140 : decode cX8_digestBlock 140 = .ok (.getfield 141, 3) := by decide +kernel
theorem dX8_digestBlock_143 : decode cX8_digestBlock 143 = .ok (.iload_n 2, 1) := by decide +kernel
theorem dX8_digestBlock_144 : decode cX8_digestBlock 144 = .ok (.iconst 2, 1) := by decide +kernel
theorem dX8_digestBlock_145 : decode cX8_digestBlock 145 = .ok (.isub, 1) := by decide +kernel
theorem dX8_digestBlock_146 : decode cX8_digestBlock 146 = .ok (.iaload, 1) := by decide +kernel
theorem dX8_digestBlock_147 : decode cX8_digestBlock 147 = .ok (.bipush 17, 2) := by decide +kernel
theorem dX8_digestBlock_149 : decode cX8_digestBlock 149 = .ok (.invokestatic 144, 3) := by decide +kernel
theorem dX8_digestBlock_152 : decode cX8_digestBlock 152 = .ok (.aload_n 0, 1) := by decide +kernel
theorem dX8_digestBlock_153 : decode cX8_digestBlock 153 = .ok (.getfield 141, 3) := by decide +kernel
theorem dX8_digestBlock_156 : decode cX8_digestBlock 156 = .ok (.iload_n 2, 1) := by decide +kernel
theorem dX8_digestBlock_157 : decode cX8_digestBlock 157 = .ok (.iconst 2, 1) := by decide +kernel
theorem dX8_digestBlock_158 : decode cX8_digestBlock 158 = .ok (.isub, 1) := by decide +kernel
theorem dX8_digestBlock_159 : decode cX8_digestBlock 159 = .ok (.iaload, 1) := by decide +kernel
theorem dX8_digestBlock_160 : decode cX8_digestBlock 160 = .ok (.bipush 19, 2) := by decide +kernel
theorem dX8_digestBlock_162 : decode cX8_digestBlock 162 = .ok (.invokestatic 144, 3) := by decide +kernel
theorem dX8_digestBlock_165 : decode cX8_digestBlock 165 = .ok (.ixor, 1) := by decide +kernel
theorem dX8_digestBlock_166 : decode cX8_digestBlock 166 = .ok (.aload_n 0, 1) := by decide +kernel
theorem dX8_digestBlock_167 : decode cX8_digestBlock 167 = .ok (.getfield 141, 3) := by decide +kernel
theorem dX8_digestBlock_170 : decode cX8_digestBlock 170 = .ok (.iload_n 2, 1) := by decide +kernel
theorem dX8_digestBlock_171 : decode cX8_digestBlock 171 = .ok (.iconst 2, 1) := by decide +kernel
theorem dX8_digestBlock_172 : decode cX8_digestBlock 172 = .ok (.isub, 1) := by decide +kernel
theorem dX8_digestBlock_173 : decode cX8_digestBlock 173 = .ok (.iaload, 1) := by decide +kernel
theorem dX8_digestBlock_174 : decode cX8_digestBlock 174 = .ok (.bipush 10, 2) := by decide +kernel
theorem dX8_digestBlock_176 : decode cX8_digestBlock 176 = .ok (.iushr, 1) := by decide +kernel
theorem dX8_digestBlock_177 : decode cX8_digestBlock 177 = .ok (.ixor, 1) := by decide +kernel
theorem dX8_digestBlock_178 : decode cX8_digestBlock 178 = .ok (.istore 4, 2) := by decide +kernel
theorem dX8_digestBlock_180 : decode cX8_digestBlock 180 = .ok (.aload_n 0, 1) := by decide +kernel
theorem dX8_digestBlock_181 : decode cX8_digestBlock 181 = .ok (.getfield 141, 3) := by decide +kernel
theorem dX8_digestBlock_184 : decode cX8_digestBlock 184 = .ok (.iload_n 2, 1) := by decide +kernel
theorem dX8_digestBlock_185 : decode cX8_digestBlock 185 = .ok (.aload_n 0, 1) := by decide +kernel
theorem dX8_digestBlock_186 : decode cX8_digestBlock 186 = .ok (.getfield 141, 3) := by decide +kernel
theorem dX8_digestBlock_189 : decode cX8_digestBlock 189 = .ok (.iload_n 2, 1) := by decide +kernel
theorem dX8_digestBlock_190 : decode cX8_digestBlock 190 = .ok (.bipush 16, 2) := by decide +kernel
theorem dX8_digestBlock_192 : decode cX8_digestBlock 192 = .ok (.isub, 1) := by decide +kernel
theorem dX8_digestBlock_193 : decode cX8_digestBlock 193 = .ok (.iaload, 1) := by decide +kernel
theorem dX8_digestBlock_194 : decode cX8_digestBlock 194 = .ok (.iload_n 3, 1) := by decide +kernel
theorem dX8_digestBlock_195 : decode cX8_digestBlock 195 = .ok (.iadd, 1) := by decide +kernel
theorem dX8_digestBlock_196 : decode cX8_digestBlock 196 = .ok (.aload_n 0, 1) := by decide +kernel
theorem dX8_digestBlock_197 : decode cX8_digestBlock 197 = .ok (.getfield 141, 3) := by decide +kernel
theorem dX8_digestBlock_200 : decode cX8_digestBlock 200 = .ok (.iload_n 2, 1) := by decide +kernel
theorem dX8_digestBlock_201 : decode cX8_digestBlock 201 = .ok (.bipush 7, 2) := by decide +kernel
theorem dX8_digestBlock_203 : decode cX8_digestBlock 203 = .ok (.isub, 1) := by decide +kernel
theorem dX8_digestBlock_204 : decode cX8_digestBlock 204 = .ok (.iaload, 1) := by decide +kernel
theorem dX8_digestBlock_205 : decode cX8_digestBlock 205 = .ok (.iadd, 1) := by decide +kernel
theorem dX8_digestBlock_206 : decode cX8_digestBlock 206 = .ok (.iload 4, 2) := by decide +kernel
theorem dX8_digestBlock_208 : decode cX8_digestBlock 208 = .ok (.iadd, 1) := by decide +kernel
theorem dX8_digestBlock_209 : decode cX8_digestBlock 209 = .ok (.iastore, 1) := by decide +kernel
theorem dX8_digestBlock_210 : decode cX8_digestBlock 210 = .ok (.iinc 2 1, 3) := by decide +kernel
theorem dX8_digestBlock_213 : decode cX8_digestBlock 213 = .ok (.goto (-211), 3) := by decide +kernel
theorem dX8_digestBlock_216 : decode cX8_digestBlock 216 = .ok (.aload_n 0, 1) := by decide +kernel
theorem dX8_digestBlock_217 : decode cX8_digestBlock 217 = .ok (.getfield 129, 3) := by decide +kernel
theorem dX8_digestBlock_220 : decode cX8_digestBlock 220 = .ok (.iconst 0, 1) := by decide +kernel
theorem dX8_digestBlock_221 : decode cX8_digestBlock 221 = .ok (.iaload, 1) := by decide +kernel
theorem dX8_digestBlock_222 : decode cX8_digestBlock 222 = .ok (.istore_n 2, 1) := by decide +kernel
theorem dX8_digestBlock_223 : decode cX8_digestBlock 223 = .ok (.aload_n 0, 1) := by decide +kernel
theorem dX8_digestBlock_224 : decode cX8_digestBlock 224 = .ok (.getfield 129, 3) := by decide +kernel
theorem dX8_digestBlock_227 : decode cX8_digestBlock 227 = .ok (.iconst 1, 1) := by decide +kernel
theorem dX8_digestBlock_228 : decode cX8_digestBlock 228 = .ok (.iaload, 1) := by decide +kernel
theorem dX8_digestBlock_229 : decode cX8_digestBlock 229 = .ok (.istore_n 3, 1) := by decide +kernel
theorem dX8_digestBlock_230 : decode cX8_digestBlock 230 = .ok (.aload_n 0, 1) := by decide +kernel
theorem dX8_digestBlock_231 : decode cX8_digestBlock 231 = .ok (.getfield 129, 3) := by decide +kernel
theorem dX8_digestBlock_234 : decode cX8_digestBlock 234 = .ok (.iconst 2, 1) := by decide +kernel
theorem dX8_digestBlock_235 : decode cX8_digestBlock 235 = .ok (.iaload, 1) := by decide +kernel
theorem dX8_digestBlock_236 : decode cX8_digestBlock 236 = .ok (.istore 4, 2) := by decide +kernel
theorem dX8_digestBlock_238 : decode cX8_digestBlock 238 = .ok (.aload_n 0, 1) := by decide +kernel
theorem dX8_digestBlock_239 : decode cX8_digestBlock 239 = .ok (.getfield 129, 3) := by decide +kernel
theorem dX8_digestBlock_242 : decode cX8_digestBlock 242 = .ok (.iconst 3, 1) := by decide +kernel
theorem dX8_digestBlock_243 : decode cX8_digestBlock 243 = .ok (.iaload, 1) := by decide +kernel
theorem dX8_digestBlock_244 : decode cX8_digestBlock 244 = .ok (.istore 5, 2) := by decide +kernel
theorem dX8_digestBlock_246 : decode cX8_digestBlock 246 = .ok (.aload_n 0, 1) := by decide +kernel
theorem dX8_digestBlock_247 : decode cX8_digestBlock 247 = .ok (.getfield 129, 3) := by decide +kernel
theorem dX8_digestBlock_250 : decode cX8_digestBlock 250 = .ok (.iconst 4, 1) := by decide +kernel
theorem dX8_digestBlock_251 : decode cX8_digestBlock 251 = .ok (.iaload, 1) := by decide +kernel
theorem dX8_digestBlock_252 : decode cX8_digestBlock 252 = .ok (.istore 6, 2) := by decide +kernel
theorem dX8_digestBlock_254 : decode cX8_digestBlock 254 = .ok (.aload_n 0, 1) := by decide +kernel
theorem dX8_digestBlock_255 : decode cX8_digestBlock 255 = .ok (.getfield 129, 3) := by decide +kernel
theorem dX8_digestBlock_258 : decode cX8_digestBlock 258 = .ok (.iconst 5, 1) := by decide +kernel
theorem dX8_digestBlock_259 : decode cX8_digestBlock 259 = .ok (.iaload, 1) := by decide +kernel
theorem dX8_digestBlock_260 : decode cX8_digestBlock 260 = .ok (.istore 7, 2) := by decide +kernel
theorem dX8_digestBlock_262 : decode cX8_digestBlock 262 = .ok (.aload_n 0, 1) := by decide +kernel
theorem dX8_digestBlock_263 : decode cX8_digestBlock 263 = .ok (.getfield 129, 3) := by decide +kernel
theorem dX8_digestBlock_266 : decode cX8_digestBlock 266 = .ok (.bipush 6, 2) := by decide +kernel
theorem dX8_digestBlock_268 : decode cX8_digestBlock 268 = .ok (.iaload, 1) := by decide +kernel
theorem dX8_digestBlock_269 : decode cX8_digestBlock 269 = .ok (.istore 8, 2) := by decide +kernel
theorem dX8_digestBlock_271 : decode cX8_digestBlock 271 = .ok (.aload_n 0, 1) := by decide +kernel
theorem dX8_digestBlock_272 : decode cX8_digestBlock 272 = .ok (.getfield 129, 3) := by decide +kernel
theorem dX8_digestBlock_275 : decode cX8_digestBlock 275 = .ok (.bipush 7, 2) := by decide +kernel
theorem dX8_digestBlock_277 : decode cX8_digestBlock 277 = .ok (.iaload, 1) := by decide +kernel
theorem dX8_digestBlock_278 : decode cX8_digestBlock 278 = .ok (.istore 9, 2) := by decide +kernel
theorem dX8_digestBlock_280 : decode cX8_digestBlock 280 = .ok (.iconst 0, 1) := by decide +kernel
theorem dX8_digestBlock_281 : decode cX8_digestBlock 281 = .ok (.istore 10, 2) := by decide +kernel
theorem dX8_digestBlock_283 : decode cX8_digestBlock 283 = .ok (.iload 10, 2) := by decide +kernel
theorem dX8_digestBlock_285 : decode cX8_digestBlock 285 = .ok (.bipush 64, 2) := by decide +kernel
theorem dX8_digestBlock_287 : decode cX8_digestBlock 287 = .ok (.if_icmp .ge 136, 3) := by decide +kernel
theorem dX8_digestBlock_290 : decode cX8_digestBlock 290 = .ok (.iload 9, 2) := by decide +kernel
theorem dX8_digestBlock_292 : decode cX8_digestBlock 292 = .ok (.iload 6, 2) := by decide +kernel
theorem dX8_digestBlock_294 : decode cX8_digestBlock 294 = .ok (.bipush 6, 2) := by decide +kernel
theorem dX8_digestBlock_296 : decode cX8_digestBlock 296 = .ok (.invokestatic 144, 3) := by decide +kernel
theorem dX8_digestBlock_299 : decode cX8_digestBlock 299 = .ok (.iload 6, 2) := by decide +kernel
theorem dX8_digestBlock_301 : decode cX8_digestBlock 301 = .ok (.bipush 11, 2) := by decide +kernel
theorem dX8_digestBlock_303 : decode cX8_digestBlock 303 = .ok (.invokestatic 144, 3) := by decide +kernel
theorem dX8_digestBlock_306 : decode cX8_digestBlock 306 = .ok (.ixor, 1) := by decide +kernel
theorem dX8_digestBlock_307 : decode cX8_digestBlock 307 = .ok (.iload 6, 2) := by decide +kernel
theorem dX8_digestBlock_309 : decode cX8_digestBlock 309 = .ok (.bipush 25, 2) := by decide +kernel
theorem dX8_digestBlock_311 : decode cX8_digestBlock 311 = .ok (.invokestatic 144, 3) := by decide +kernel
theorem dX8_digestBlock_314 : decode cX8_digestBlock 314 = .ok (.ixor, 1) := by decide +kernel
theorem dX8_digestBlock_315 : decode cX8_digestBlock 315 = .ok (.iadd, 1) := by decide +kernel
theorem dX8_digestBlock_316 : decode cX8_digestBlock 316 = .ok (.iload 6, 2) := by decide +kernel
theorem dX8_digestBlock_318 : decode cX8_digestBlock 318 = .ok (.iload 7, 2) := by decide +kernel
theorem dX8_digestBlock_320 : decode cX8_digestBlock 320 = .ok (.iand, 1) := by decide +kernel
theorem dX8_digestBlock_321 : decode cX8_digestBlock 321 = .ok (.iload 6, 2) := by decide +kernel
theorem dX8_digestBlock_323 : decode cX8_digestBlock 323 = .ok (.iconst (-1), 1) := by decide +kernel
theorem dX8_digestBlock_324 : decode cX8_digestBlock 324 = .ok (.ixor, 1) := by decide +kernel
theorem dX8_digestBlock_325 : decode cX8_digestBlock 325 = .ok (.iload 8, 2) := by decide +kernel
theorem dX8_digestBlock_327 : decode cX8_digestBlock 327 = .ok (.iand, 1) := by decide +kernel
theorem dX8_digestBlock_328 : decode cX8_digestBlock 328 = .ok (.ixor, 1) := by decide +kernel
theorem dX8_digestBlock_329 : decode cX8_digestBlock 329 = .ok (.iadd, 1) := by decide +kernel
theorem dX8_digestBlock_330 : decode cX8_digestBlock 330 = .ok (.aload_n 0, 1) := by decide +kernel
theorem dX8_digestBlock_331 : decode cX8_digestBlock 331 = .ok (.getfield 147, 3) := by decide +kernel
theorem dX8_digestBlock_334 : decode cX8_digestBlock 334 = .ok (.iload 10, 2) := by decide +kernel
theorem dX8_digestBlock_336 : decode cX8_digestBlock 336 = .ok (.iaload, 1) := by decide +kernel
theorem dX8_digestBlock_337 : decode cX8_digestBlock 337 = .ok (.iadd, 1) := by decide +kernel
theorem dX8_digestBlock_338 : decode cX8_digestBlock 338 = .ok (.aload_n 0, 1) := by decide +kernel
theorem dX8_digestBlock_339 : decode cX8_digestBlock 339 = .ok (.getfield 141, 3) := by decide +kernel
theorem dX8_digestBlock_342 : decode cX8_digestBlock 342 = .ok (.iload 10, 2) := by decide +kernel
theorem dX8_digestBlock_344 : decode cX8_digestBlock 344 = .ok (.iaload, 1) := by decide +kernel
theorem dX8_digestBlock_345 : decode cX8_digestBlock 345 = .ok (.iadd, 1) := by decide +kernel
theorem dX8_digestBlock_346 : decode cX8_digestBlock 346 = .ok (.istore 11, 2) := by decide +kernel
theorem dX8_digestBlock_348 : decode cX8_digestBlock 348 = .ok (.iload_n 2, 1) := by decide +kernel
theorem dX8_digestBlock_349 : decode cX8_digestBlock 349 = .ok (.iconst 2, 1) := by decide +kernel
theorem dX8_digestBlock_350 : decode cX8_digestBlock 350 = .ok (.invokestatic 144, 3) := by decide +kernel
theorem dX8_digestBlock_353 : decode cX8_digestBlock 353 = .ok (.iload_n 2, 1) := by decide +kernel
theorem dX8_digestBlock_354 : decode cX8_digestBlock 354 = .ok (.bipush 13, 2) := by decide +kernel
theorem dX8_digestBlock_356 : decode cX8_digestBlock 356 = .ok (.invokestatic 144, 3) := by decide +kernel
theorem dX8_digestBlock_359 : decode cX8_digestBlock 359 = .ok (.ixor, 1) := by decide +kernel
theorem dX8_digestBlock_360 : decode cX8_digestBlock 360 = .ok (.iload_n 2, 1) := by decide +kernel
theorem dX8_digestBlock_361 : decode cX8_digestBlock 361 = .ok (.bipush 22, 2) := by decide +kernel
theorem dX8_digestBlock_363 : decode cX8_digestBlock 363 = .ok (.invokestatic 144, 3) := by decide +kernel
theorem dX8_digestBlock_366 : decode cX8_digestBlock 366 = .ok (.ixor, 1) := by decide +kernel
theorem dX8_digestBlock_367 : decode cX8_digestBlock 367 = .ok (.iload_n 2, 1) := by decide +kernel
theorem dX8_digestBlock_368 : decode cX8_digestBlock 368 = .ok (.iload_n 3, 1) := by decide +kernel
theorem dX8_digestBlock_369 : decode cX8_digestBlock 369 = .ok (.iand, 1) := by decide +kernel
theorem dX8_digestBlock_370 : decode cX8_digestBlock 370 = .ok (.iload_n 2, 1) := by decide +kernel
theorem dX8_digestBlock_371 : decode cX8_digestBlock 371 = .ok (.iload 4, 2) := by decide +kernel
theorem dX8_digestBlock_373 : decode cX8_digestBlock 373 = .ok (.iand, 1) := by decide +kernel
theorem dX8_digestBlock_374 : decode cX8_digestBlock 374 = .ok (.ixor, 1) := by decide +kernel
theorem dX8_digestBlock_375 : decode cX8_digestBlock 375 = .ok (.iload_n 3, 1) := by decide +kernel
theorem dX8_digestBlock_376 : decode cX8_digestBlock 376 = .ok (.iload 4, 2) := by decide +kernel
theorem dX8_digestBlock_378 : decode cX8_digestBlock 378 = .ok (.iand, 1) := by decide +kernel
theorem dX8_digestBlock_379 : decode cX8_digestBlock 379 = .ok (.ixor, 1) := by decide +kernel
theorem dX8_digestBlock_380 : decode cX8_digestBlock 380 = .ok (.iadd, 1) := by decide +kernel
theorem dX8_digestBlock_381 : decode cX8_digestBlock 381 = .ok (.istore 12, 2) := by decide +kernel
theorem dX8_digestBlock_383 : decode cX8_digestBlock 383 = .ok (.iload 8, 2) := by decide +kernel
theorem dX8_digestBlock_385 : decode cX8_digestBlock 385 = .ok (.istore 9, 2) := by decide +kernel
theorem dX8_digestBlock_387 : decode cX8_digestBlock 387 = .ok (.iload 7, 2) := by decide +kernel
theorem dX8_digestBlock_389 : decode cX8_digestBlock 389 = .ok (.istore 8, 2) := by decide +kernel
theorem dX8_digestBlock_391 : decode cX8_digestBlock 391 = .ok (.iload 6, 2) := by decide +kernel
theorem dX8_digestBlock_393 : decode cX8_digestBlock 393 = .ok (.istore 7, 2) := by decide +kernel
theorem dX8_digestBlock_395 : decode cX8_digestBlock 395 = .ok (.iload 5, 2) := by decide +kernel
theorem dX8_digestBlock_397 : decode cX8_digestBlock 397 = .ok (.iload 11, 2) := by decide +kernel
theorem dX8_digestBlock_399 : decode cX8_digestBlock 399 = .ok (.iadd, 1) := by decide +kernel
theorem dX8_digestBlock_400 : decode cX8_digestBlock 400 = .ok (.istore 6, 2) := by decide +kernel
theorem dX8_digestBlock_402 : decode cX8_digestBlock 402 = .ok (.iload 4, 2) := by decide +kernel
theorem dX8_digestBlock_404 : decode cX8_digestBlock 404 = .ok (.istore 5, 2) := by decide +kernel
theorem dX8_digestBlock_406 : decode cX8_digestBlock 406 = .ok (.iload_n 3, 1) := by decide +kernel
theorem dX8_digestBlock_407 : decode cX8_digestBlock 407 = .ok (.istore 4, 2) := by decide +kernel
theorem dX8_digestBlock_409 : decode cX8_digestBlock 409 = .ok (.iload_n 2, 1) := by decide +kernel
theorem dX8_digestBlock_410 : decode cX8_digestBlock 410 = .ok (.istore_n 3, 1) := by decide +kernel
theorem dX8_digestBlock_411 : decode cX8_digestBlock 411 = .ok (.iload 11, 2) := by decide +kernel
theorem dX8_digestBlock_413 : decode cX8_digestBlock 413 = .ok (.iload 12, 2) := by decide +kernel
theorem dX8_digestBlock_415 : decode cX8_digestBlock 415 = .ok (.iadd, 1) := by decide +kernel
theorem dX8_digestBlock_416 : decode cX8_digestBlock 416 = .ok (.istore_n 2, 1) := by decide +kernel
theorem dX8_digestBlock_417 : decode cX8_digestBlock 417 = .ok (.iinc 10 1, 3) := by decide +kernel
theorem dX8_digestBlock_420 : decode cX8_digestBlock 420 = .ok (.goto (-137), 3) := by decide +kernel
theorem dX8_digestBlock_423 : decode cX8_digestBlock 423 = .ok (.aload_n 0, 1) := by decide +kernel
theorem dX8_digestBlock_424 : decode cX8_digestBlock 424 = .ok (.getfield 129, 3) := by decide +kernel
theorem dX8_digestBlock_427 : decode cX8_digestBlock 427 = .ok (.iconst 0, 1) := by decide +kernel
theorem dX8_digestBlock_428 : decode cX8_digestBlock 428 = .ok (.dup2, 1) := by decide +kernel
theorem dX8_digestBlock_429 : decode cX8_digestBlock 429 = .ok (.iaload, 1) := by decide +kernel
theorem dX8_digestBlock_430 : decode cX8_digestBlock 430 = .ok (.iload_n 2, 1) := by decide +kernel
theorem dX8_digestBlock_431 : decode cX8_digestBlock 431 = .ok (.iadd, 1) := by decide +kernel
theorem dX8_digestBlock_432 : decode cX8_digestBlock 432 = .ok (.iastore, 1) := by decide +kernel
theorem dX8_digestBlock_433 : decode cX8_digestBlock 433 = .ok (.aload_n 0, 1) := by decide +kernel
theorem dX8_digestBlock_434 : decode cX8_digestBlock 434 = .ok (.getfield 129, 3) := by decide +kernel
theorem dX8_digestBlock_437 : decode cX8_digestBlock 437 = .ok (.iconst 1, 1) := by decide +kernel
theorem dX8_digestBlock_438 : decode cX8_digestBlock 438 = .ok (.dup2, 1) := by decide +kernel
theorem dX8_digestBlock_439 : decode cX8_digestBlock 439 = .ok (.iaload, 1) := by decide +kernel
theorem dX8_digestBlock_440 : decode cX8_digestBlock 440 = .ok (.iload_n 3, 1) := by decide +kernel
theorem dX8_digestBlock_441 : decode cX8_digestBlock 441 = .ok (.iadd, 1) := by decide +kernel
theorem dX8_digestBlock_442 : decode cX8_digestBlock 442 = .ok (.iastore, 1) := by decide +kernel
theorem dX8_digestBlock_443 : decode cX8_digestBlock 443 = .ok (.aload_n 0, 1) := by decide +kernel
theorem dX8_digestBlock_444 : decode cX8_digestBlock 444 = .ok (.getfield 129, 3) := by decide +kernel
theorem dX8_digestBlock_447 : decode cX8_digestBlock 447 = .ok (.iconst 2, 1) := by decide +kernel
theorem dX8_digestBlock_448 : decode cX8_digestBlock 448 = .ok (.dup2, 1) := by decide +kernel
theorem dX8_digestBlock_449 : decode cX8_digestBlock 449 = .ok (.iaload, 1) := by decide +kernel
theorem dX8_digestBlock_450 : decode cX8_digestBlock 450 = .ok (.iload 4, 2) := by decide +kernel
theorem dX8_digestBlock_452 : decode cX8_digestBlock 452 = .ok (.iadd, 1) := by decide +kernel
theorem dX8_digestBlock_453 : decode cX8_digestBlock 453 = .ok (.iastore, 1) := by decide +kernel
theorem dX8_digestBlock_454 : decode cX8_digestBlock 454 = .ok (.aload_n 0, 1) := by decide +kernel
theorem dX8_digestBlock_455 : decode cX8_digestBlock 455 = .ok (.getfield 129, 3) := by decide +kernel
theorem dX8_digestBlock_458 : decode cX8_digestBlock 458 = .ok (.iconst 3, 1) := by decide +kernel
theorem dX8_digestBlock_459 : decode cX8_digestBlock 459 = .ok (.dup2, 1) := by decide +kernel
theorem dX8_digestBlock_460 : decode cX8_digestBlock 460 = .ok (.iaload, 1) := by decide +kernel
theorem dX8_digestBlock_461 : decode cX8_digestBlock 461 = .ok (.iload 5, 2) := by decide +kernel
theorem dX8_digestBlock_463 : decode cX8_digestBlock 463 = .ok (.iadd, 1) := by decide +kernel
theorem dX8_digestBlock_464 : decode cX8_digestBlock 464 = .ok (.iastore, 1) := by decide +kernel
theorem dX8_digestBlock_465 : decode cX8_digestBlock 465 = .ok (.aload_n 0, 1) := by decide +kernel
theorem dX8_digestBlock_466 : decode cX8_digestBlock 466 = .ok (.getfield 129, 3) := by decide +kernel
theorem dX8_digestBlock_469 : decode cX8_digestBlock 469 = .ok (.iconst 4, 1) := by decide +kernel
theorem dX8_digestBlock_470 : decode cX8_digestBlock 470 = .ok (.dup2, 1) := by decide +kernel
theorem dX8_digestBlock_471 : decode cX8_digestBlock 471 = .ok (.iaload, 1) := by decide +kernel
theorem dX8_digestBlock_472 : decode cX8_digestBlock 472 = .ok (.iload 6, 2) := by decide +kernel
theorem dX8_digestBlock_474 : decode cX8_digestBlock 474 = .ok (.iadd, 1) := by decide +kernel
theorem dX8_digestBlock_475 : decode cX8_digestBlock 475 = .ok (.iastore, 1) := by decide +kernel
theorem dX8_digestBlock_476 : decode cX8_digestBlock 476 = .ok (.aload_n 0, 1) := by decide +kernel
theorem dX8_digestBlock_477 : decode cX8_digestBlock 477 = .ok (.getfield 129, 3) := by decide +kernel
theorem dX8_digestBlock_480 : decode cX8_digestBlock 480 = .ok (.iconst 5, 1) := by decide +kernel
theorem dX8_digestBlock_481 : decode cX8_digestBlock 481 = .ok (.dup2, 1) := by decide +kernel
theorem dX8_digestBlock_482 : decode cX8_digestBlock 482 = .ok (.iaload, 1) := by decide +kernel
theorem dX8_digestBlock_483 : decode cX8_digestBlock 483 = .ok (.iload 7, 2) := by decide +kernel
theorem dX8_digestBlock_485 : decode cX8_digestBlock 485 = .ok (.iadd, 1) := by decide +kernel
theorem dX8_digestBlock_486 : decode cX8_digestBlock 486 = .ok (.iastore, 1) := by decide +kernel
theorem dX8_digestBlock_487 : decode cX8_digestBlock 487 = .ok (.aload_n 0, 1) := by decide +kernel
theorem dX8_digestBlock_488 : decode cX8_digestBlock 488 = .ok (.getfield 129, 3) := by decide +kernel
theorem dX8_digestBlock_491 : decode cX8_digestBlock 491 = .ok (.bipush 6, 2) := by decide +kernel
theorem dX8_digestBlock_493 : decode cX8_digestBlock 493 = .ok (.dup2, 1) := by decide +kernel
theorem dX8_digestBlock_494 : decode cX8_digestBlock 494 = .ok (.iaload, 1) := by decide +kernel
theorem dX8_digestBlock_495 : decode cX8_digestBlock 495 = .ok (.iload 8, 2) := by decide +kernel
theorem dX8_digestBlock_497 : decode cX8_digestBlock 497 = .ok (.iadd, 1) := by decide +kernel
theorem dX8_digestBlock_498 : decode cX8_digestBlock 498 = .ok (.iastore, 1) := by decide +kernel
theorem dX8_digestBlock_499 : decode cX8_digestBlock 499 = .ok (.aload_n 0, 1) := by decide +kernel
theorem dX8_digestBlock_500 : decode cX8_digestBlock 500 = .ok (.getfield 129, 3) := by decide +kernel
theorem dX8_digestBlock_503 : decode cX8_digestBlock 503 = .ok (.bipush 7, 2) := by decide +kernel
theorem dX8_digestBlock_505 : decode cX8_digestBlock 505 = .ok (.dup2, 1) := by decide +kernel
theorem dX8_digestBlock_506 : decode cX8_digestBlock 506 = .ok (.iaload, 1) := by decide +kernel
theorem dX8_digestBlock_507 : decode cX8_digestBlock 507 = .ok (.iload 9, 2) := by decide +kernel
theorem dX8_digestBlock_509 : decode cX8_digestBlock 509 = .ok (.iadd, 1) := by decide +kernel
theorem dX8_digestBlock_510 : decode cX8_digestBlock 510 = .ok (.iastore, 1) := by decide +kernel
theorem dX8_digestBlock_511 : decode cX8_digestBlock 511 = .ok (.return_, 1) := by decide +kernel
set_option maxRecDepth 20000 in
theorem ggX8_init_X8_makeBoxes : GoodIn wsX8_init wsX8_makeBoxes := goodIn_r _ [112, 85, 86, 113, 114, 111, 115, 116, 117, 118, 119, 120, 121, 122, 123, 124, 125, 126, 127, 128, 129, 130, 131, 132, 133, 134, 135, 136, 137, 138, 139, 140, 141, 142, 143, 144, 145, 146, 147, 148, 149, 150, 151, 152, 153] rfl (by decide +kernel)
set_option maxRecDepth 20000 in
theorem gX8_init_X8_makeBoxes : GoodIn wsX8_init (wsV RX8 242 RX8 yX8_makeBoxes wsX8_makeBoxes) := goodIn_app (goodIn_of _ (by decide +kernel)) ggX8_init_X8_makeBoxes
theorem dX8_putFour_0 : decode cX8_putFour 0 = .ok (.bipush 24, 2) := by decide +kernel
theorem dX8_putFour_2 : decode cX8_putFour 2 = .ok (.istore_n 2, 1) := by decide +kernel
theorem dX8_putFour_3 : decode cX8_putFour 3 = .ok (.iload_n 2, 1) := by decide +kernel
theorem dX8_putFour_4 : decode cX8_putFour 4 = .ok (.ifCond .lt 32, 3) := by decide +kernel
theorem dX8_putFour_7 : decode cX8_putFour 7 = .ok (.aload_n 0, 1) := by decide +kernel
theorem dX8_putFour_8 : decode cX8_putFour 8 = .ok (.getfield 227, 3) := by decide +kernel
theorem dX8_putFour_11 : decode cX8_putFour 11 = .ok (.aload_n 0, 1) := by decide +kernel
theorem dX8_putFour_12 : decode cX8_putFour 12 = .ok (.getfield 245, 3) := by decide +kernel
theorem dX8_putFour_15 : decode cX8_putFour 15 = .ok (.iload_n 1, 1) := by decide +kernel
theorem dX8_putFour_16 : decode cX8_putFour 16 = .ok (.iload_n 2, 1) := by decide +kernel
theorem dX8_putFour_17 : decode cX8_putFour 17 = .ok (.ishr, 1) := by decide +kernel
theorem dX8_putFour_18 : decode cX8_putFour 18 = .ok (.i2b, 1) := by decide +kernel
theorem dX8_putFour_19 : decode cX8_putFour 19 = .ok (.bastore, 1) := by decide +kernel
theorem dX8_putFour_20 : decode cX8_putFour 20 = .ok (.aload_n 0, 1) := by decide +kernel
theorem dX8_putFour_21 : decode cX8_putFour 21 = .ok (.dup, 1) := by decide +kernel
theorem dX8_putFour_22 : decode cX8_putFour 22 = .ok (.getfield 245, 3) := by decide +kernel
theorem dX8_putFour_25 : decode cX8_putFour 25 = .ok (.iconst 1, 1) := by decide +kernel
theorem dX8_putFour_26 : decode cX8_putFour 26 = .ok (.iadd, 1) := by decide +kernel
theorem dX8_putFour_27 : decode cX8_putFour 27 = .ok (.putfield 245, 3) := by decide +kernel
theorem dX8_putFour_30 : decode cX8_putFour 30 = .ok (.iinc 2 (-8), 3) := by decide +kernel
theorem dX8_putFour_33 : decode cX8_putFour 33 = .ok (.goto (-30), 3) := by decide +kernel
theorem dX8_putFour_36 : decode cX8_putFour 36 = .ok (.return_, 1) := by decide +kernel
set_option maxRecDepth 20000 in
theorem ggX8_feed_X8_putFour : GoodIn wsX8_feed wsX8_putFour := goodIn_r _ [6, 7, 1, 8, 9, 10, 11, 12, 13, 14, 15, 16, 17, 18, 19, 20, 21, 22, 23, 24, 25, 26, 27, 28, 29, 30, 31, 32, 33, 34, 35, 36, 37, 38, 39, 40, 41, 42] rfl (by decide +kernel)
set_option maxRecDepth 20000 in
theorem gX8_feed_X8_putFour : GoodIn wsX8_feed (wsV RX8 248 RX8 yX8_putFour wsX8_putFour) := goodIn_app (goodIn_of _ (by decide +kernel)) ggX8_feed_X8_putFour
theorem dX8_feed_0 : decode cX8_feed 0 = .ok (.aload_n 0, 1) := by decide +kernel
theorem dX8_feed_1 : decode cX8_feed 1 = .ok (.getfield 245, 3) := by decide +kernel
theorem dX8_feed_4 : decode cX8_feed 4 = .ok (.bipush 20, 2) := by decide +kernel
theorem dX8_feed_6 : decode cX8_feed 6 = .ok (.iadd, 1) := by decide +kernel
theorem dX8_feed_7 : decode cX8_feed 7 = .ok (.sipush 400, 3) := by decide +kernel
theorem dX8_feed_10 : decode cX8_feed 10 = .ok (.if_icmp .le 5, 3) := by decide +kernel
theorem dX8_feed_13 : decode cX8_feed 13 = .ok (.iconst (-1), 1) := by decide +kernel
theorem dX8_feed_14 : decode cX8_feed 14 = .ok (.ireturn, 1) := by decide +kernel
theorem dX8_feed_15 : decode cX8_feed 15 = .ok (.aload_n 0, 1) := by decide +kernel
theorem dX8_feed_16 : decode cX8_feed 16 = .ok (.iload_n 1, 1) := by decide +kernel
theorem dX8_feed_17 : decode cX8_feed 17 = .ok (.invokevirtual 248, 3) := by decide +kernel
theorem dX8_feed_20 : decode cX8_feed 20 = .ok (.aload_n 0, 1) := by decide +kernel
theorem dX8_feed_21 : decode cX8_feed 21 = .ok (.iload_n 2, 1) := by decide +kernel
theorem dX8_feed_22 : decode cX8_feed 22 = .ok (.invokevirtual 248, 3) := by decide +kernel
theorem dX8_feed_25 : decode cX8_feed 25 = .ok (.aload_n 0, 1) := by decide +kernel
theorem dX8_feed_26 : decode cX8_feed 26 = .ok (.iload_n 3, 1) := by decide +kernel
theorem dX8_feed_27 : decode cX8_feed 27 = .ok (.invokevirtual 248, 3) := by decide +kernel
theorem dX8_feed_30 : decode cX8_feed 30 = .ok (.aload_n 0, 1) := by decide +kernel
theorem dX8_feed_31 : decode cX8_feed 31 = .ok (.iload 4, 2) := by decide +kernel
theorem dX8_feed_33 : decode cX8_feed 33 = .ok (.invokevirtual 248, 3) := by decide +kernel
theorem dX8_feed_36 : decode cX8_feed 36 = .ok (.aload_n 0, 1) := by decide +kernel
theorem dX8_feed_37 : decode cX8_feed 37 = .ok (.iload 5, 2) := by decide +kernel
theorem dX8_feed_39 : decode cX8_feed 39 = .ok (.invokevirtual 248, 3) := by decide +kernel
theorem dX8_feed_42 : decode cX8_feed 42 = .ok (.aload_n 0, 1) := by decide +kernel
theorem dX8_feed_43 : decode cX8_feed 43 = .ok (.getfield 245, 3) := by decide +kernel
theorem dX8_feed_46 : decode cX8_feed 46 = .ok (.ireturn, 1) := by decide +kernel
theorem dX8_end_0 : decode cX8_end 0 = .ok (.iload_n 1, 1) := by decide +kernel
theorem dX8_end_1 : decode cX8_end 1 = .ok (.ifCond .lt 11, 3) := by decide +kernel
theorem dX8_end_4 : decode cX8_end 4 = .ok (.iload_n 1, 1) := by decide +kernel
theorem dX8_end_5 : decode cX8_end 5 = .ok (.aload_n 0, 1) := by decide +kernel
theorem dX8_end_6 : decode cX8_end 6 = .ok (.getfield 245, 3) := by decide +kernel
theorem dX8_end_9 : decode cX8_end 9 = .ok (.if_icmp .le 5, 3) := by decide +kernel
theorem dX8_end_12 : decode cX8_end 12 = .ok (.iconst (-1), 1) := by decide +kernel
theorem dX8_end_13 : decode cX8_end 13 = .ok (.ireturn, 1) := by decide +kernel
theorem dX8_end_14 : decode cX8_end 14 = .ok (.aload_n 0, 1) := by decide +kernel
theorem dX8_end_15 : decode cX8_end 15 = .ok (.iload_n 1, 1) := by decide +kernel
theorem dX8_end_16 : decode cX8_end 16 = .ok (.putfield 245, 3) := by decide +kernel
theorem dX8_end_19 : decode cX8_end 19 = .ok (.iload_n 1, 1) := by decide +kernel
theorem dX8_end_20 : decode cX8_end 20 = .ok (.ireturn, 1) := by decide +kernel
theorem dX8_out_0 : decode cX8_out 0 = .ok (.iload_n 1, 1) := by decide +kernel
theorem dX8_out_1 : decode cX8_out 1 = .ok (.ifCond .lt 11, 3) := by decide +kernel
theorem dX8_out_4 : decode cX8_out 4 = .ok (.iload_n 1, 1) := by decide +kernel
theorem dX8_out_5 : decode cX8_out 5 = .ok (.aload_n 0, 1) := by decide +kernel
theorem dX8_out_6 : decode cX8_out 6 = .ok (.getfield 251, 3) := by decide +kernel
theorem dX8_out_9 : decode cX8_out 9 = .ok (.if_icmp .lt 7, 3) := by decide +kernel
theorem dX8_out_12 : decode cX8_out 12 = .ok (.iconst (-1), 1) := by decide +kernel
theorem dX8_out_13 : decode cX8_out 13 = .ok (.goto 13, 3) := by decide +kernel
theorem dX8_out_16 : decode cX8_out 16 = .ok (.aload_n 0, 1) := by decide +kernel
theorem dX8_out_17 : decode cX8_out 17 = .ok (.getfield 230, 3) := by decide +kernel
theorem dX8_out_20 : decode cX8_out 20 = .ok (.iload_n 1, 1) := by decide +kernel
theorem dX8_out_21 : decode cX8_out 21 = .ok (.baload, 1) := by decide +kernel
theorem dX8_out_22 : decode cX8_out 22 = .ok (.sipush 255, 3) := by decide +kernel
theorem dX8_out_25 : decode cX8_out 25 = .ok (.iand, 1) := by decide +kernel
theorem dX8_out_26 : decode cX8_out 26 = .ok (.ireturn, 1) := by decide +kernel
theorem dX8_take_0 : decode cX8_take 0 = .ok (.aload_n 0, 1) := by decide +kernel
theorem dX8_take_1 : decode cX8_take 1 = .ok (.getfield 245, 3) := by decide +kernel
theorem dX8_take_4 : decode cX8_take 4 = .ok (.aload_n 0, 1) := by decide +kernel
theorem dX8_take_5 : decode cX8_take 5 = .ok (.getfield 251, 3) := by decide +kernel
theorem dX8_take_8 : decode cX8_take 8 = .ok (.iadd, 1) := by decide +kernel
theorem dX8_take_9 : decode cX8_take 9 = .ok (.sipush 400, 3) := by decide +kernel
theorem dX8_take_12 : decode cX8_take 12 = .ok (.if_icmp .le 5, 3) := by decide +kernel
theorem dX8_take_15 : decode cX8_take 15 = .ok (.iconst (-1), 1) := by decide +kernel
theorem dX8_take_16 : decode cX8_take 16 = .ok (.ireturn, 1) := by decide +kernel
theorem dX8_take_17 : decode cX8_take 17 = .ok (.iconst 0, 1) := by decide +kernel
theorem dX8_take_18 : decode cX8_take 18 = .ok (.istore_n 1, 1) := by decide +kernel
theorem dX8_take_19 : decode cX8_take 19 = .ok (.iload_n 1, 1) := by decide +kernel
theorem dX8_take_20 : decode cX8_take 20 = .ok (.aload_n 0, 1) := by decide +kernel
theorem dX8_take_21 : decode cX8_take 21 = .ok (.getfield 251, 3) := by decide +kernel
theorem dX8_take_24 : decode cX8_take 24 = .ok (.if_icmp .ge 26, 3) := by decide +kernel
theorem dX8_take_27 : decode cX8_take 27 = .ok (.aload_n 0, 1) := by decide +kernel
theorem dX8_take_28 : decode cX8_take 28 = .ok (.getfield 227, 3) := by decide +kernel
theorem dX8_take_31 : decode cX8_take 31 = .ok (.aload_n 0, 1) := by decide +kernel
theorem dX8_take_32 : decode cX8_take 32 = .ok (.getfield 245, 3) := by decide +kernel
theorem dX8_take_35 : decode cX8_take 35 = .ok (.iload_n 1, 1) := by decide +kernel
theorem dX8_take_36 : decode cX8_take 36 = .ok (.iadd, 1) := by decide +kernel
theorem dX8_take_37 : decode cX8_take 37 = .ok (.aload_n 0, 1) := by decide +kernel
theorem dX8_take_38 : decode cX8_take 38 = .ok (.getfield 230, 3) := by decide +kernel
theorem dX8_take_41 : decode cX8_take 41 = .ok (.iload_n 1, 1) := by decide +kernel
theorem dX8_take_42 : decode cX8_take 42 = .ok (.baload, 1) := by decide +kernel
theorem dX8_take_43 : decode cX8_take 43 = .ok (.bastore, 1) := by decide +kernel
theorem dX8_take_44 : decode cX8_take 44 = .ok (.iinc 1 1, 3) := by decide +kernel
theorem dX8_take_47 : decode cX8_take 47 = .ok (.goto (-28), 3) := by decide +kernel
theorem dX8_take_50 : decode cX8_take 50 = .ok (.aload_n 0, 1) := by decide +kernel
theorem dX8_take_51 : decode cX8_take 51 = .ok (.dup, 1) := by decide +kernel
theorem dX8_take_52 : decode cX8_take 52 = .ok (.getfield 245, 3) := by decide +kernel
theorem dX8_take_55 : decode cX8_take 55 = .ok (.aload_n 0, 1) := by decide +kernel
theorem dX8_take_56 : decode cX8_take 56 = .ok (.getfield 251, 3) := by decide +kernel
theorem dX8_take_59 : decode cX8_take 59 = .ok (.iadd, 1) := by decide +kernel
theorem dX8_take_60 : decode cX8_take 60 = .ok (.putfield 245, 3) := by decide +kernel
theorem dX8_take_63 : decode cX8_take 63 = .ok (.aload_n 0, 1) := by decide +kernel
theorem dX8_take_64 : decode cX8_take 64 = .ok (.getfield 245, 3) := by decide +kernel
theorem dX8_take_67 : decode cX8_take 67 = .ok (.ireturn, 1) := by decide +kernel
theorem dX8_use_0 : decode cX8_use 0 = .ok (.aload_n 0, 1) := by decide +kernel
theorem dX8_use_1 : decode cX8_use 1 = .ok (.getfield 245, 3) := by decide +kernel
theorem dX8_use_4 : decode cX8_use 4 = .ok (.istore_n 1, 1) := by decide +kernel
theorem dX8_use_5 : decode cX8_use 5 = .ok (.aload_n 0, 1) := by decide +kernel
theorem dX8_use_6 : decode cX8_use 6 = .ok (.iconst 0, 1) := by decide +kernel
theorem dX8_use_7 : decode cX8_use 7 = .ok (.putfield 245, 3) := by decide +kernel
theorem dX8_use_10 : decode cX8_use 10 = .ok (.iload_n 1, 1) := by decide +kernel
theorem dX8_use_11 : decode cX8_use 11 = .ok (.ireturn, 1) := by decide +kernel
set_option maxRecDepth 20000 in
theorem ggX8_key_X8_use : GoodIn wsX8_key wsX8_use := goodIn_r _ [9, 10, 11, 12, 13, 14, 15, 16, 17, 18, 19, 20, 21, 22, 23, 24, 25, 26, 27, 28, 29, 30, 31, 32, 33, 34, 35, 36, 37, 38, 39, 40, 41, 42, 43, 44, 45] rfl (by decide +kernel)
set_option maxRecDepth 20000 in
theorem gX8_key_X8_use : GoodIn wsX8_key (wsV RX8 254 RX8 yX8_use wsX8_use) := goodIn_app (goodIn_of _ (by decide +kernel)) ggX8_key_X8_use
theorem dX8_key_0 : decode cX8_key 0 = .ok (.aload_n 0, 1) := by decide +kernel
theorem dX8_key_1 : decode cX8_key 1 = .ok (.invokevirtual 254, 3) := by decide +kernel
theorem dX8_key_4 : decode cX8_key 4 = .ok (.istore_n 2, 1) := by decide +kernel
theorem dX8_key_5 : decode cX8_key 5 = .ok (.iload_n 1, 1) := by decide +kernel
theorem dX8_key_6 : decode cX8_key 6 = .ok (.ifCond .ne 17, 3) := by decide +kernel
theorem dX8_key_9 : decode cX8_key 9 = .ok (.iload_n 2, 1) := by decide +kernel
theorem dX8_key_10 : decode cX8_key 10 = .ok (.bipush 16, 2) := by decide +kernel
theorem dX8_key_12 : decode cX8_key 12 = .ok (.if_icmp .ne 7, 3) := by decide +kernel
theorem dX8_key_15 : decode cX8_key 15 = .ok (.iconst 1, 1) := by decide +kernel
theorem dX8_key_16 : decode cX8_key 16 = .ok (.goto 35, 3) := by decide +kernel
theorem dX8_key_19 : decode cX8_key 19 = .ok (.iconst 0, 1) := by decide +kernel
theorem dX8_key_20 : decode cX8_key 20 = .ok (.goto 31, 3) := by decide +kernel
theorem dX8_key_23 : decode cX8_key 23 = .ok (.iload_n 1, 1) := by decide +kernel
theorem dX8_key_24 : decode cX8_key 24 = .ok (.iconst 1, 1) := by decide +kernel
theorem dX8_key_25 : decode cX8_key 25 = .ok (.if_icmp .ne 25, 3) := by decide +kernel
theorem dX8_key_28 : decode cX8_key 28 = .ok (.iload_n 2, 1) := by decide +kernel
theorem dX8_key_29 : decode cX8_key 29 = .ok (.bipush 16, 2) := by decide +kernel
theorem dX8_key_31 : decode cX8_key 31 = .ok (.if_icmp .eq 15, 3) := by decide +kernel
theorem dX8_key_34 : decode cX8_key 34 = .ok (.iload_n 2, 1) := by decide +kernel
theorem dX8_key_35 : decode cX8_key 35 = .ok (.bipush 24, 2) := by decide +kernel
theorem dX8_key_37 : decode cX8_key 37 = .ok (.if_icmp .eq 9, 3) := by decide +kernel
theorem dX8_key_40 : decode cX8_key 40 = .ok (.iload_n 2, 1) := by decide +kernel
theorem dX8_key_41 : decode cX8_key 41 = .ok (.bipush 32, 2) := by decide +kernel
theorem dX8_key_43 : decode cX8_key 43 = .ok (.if_icmp .ne 7, 3) := by decide +kernel
theorem dX8_key_46 : decode cX8_key 46 = .ok (.iconst 1, 1) := by decide +kernel
theorem dX8_key_47 : decode cX8_key 47 = .ok (.goto 4, 3) := by decide +kernel
theorem dX8_key_50 : decode cX8_key 50 = .ok (.iconst 0, 1) := by decide +kernel
theorem dX8_key_51 : decode cX8_key 51 = .ok (.istore_n 3, 1) := by decide +kernel
theorem dX8_key_52 : decode cX8_key 52 = .ok (.iload_n 3, 1) := by decide +kernel
theorem dX8_key_53 : decode cX8_key 53 = .ok (.ifCond .ne 5, 3) := by decide +kernel
theorem dX8_key_56 : decode cX8_key 56 = .ok (.iconst (-1), 1) := by decide +kernel
theorem dX8_key_57 : decode cX8_key 57 = .ok (.ireturn, 1) := by decide +kernel
theorem dX8_key_58 : decode cX8_key 58 = .ok (.aload_n 0, 1) := by decide +kernel
theorem dX8_key_59 : decode cX8_key 59 = .ok (.iload_n 1, 1) := by decide +kernel
theorem dX8_key_60 : decode cX8_key 60 = .ok (.putfield 233, 3) := by decide +kernel
theorem dX8_key_63 : decode cX8_key 63 = .ok (.aload_n 0, 1) := by decide +kernel
theorem dX8_key_64 : decode cX8_key 64 = .ok (.iload_n 2, 1) := by decide +kernel
theorem dX8_key_65 : decode cX8_key 65 = .ok (.putfield 258, 3) := by decide +kernel
theorem dX8_key_68 : decode cX8_key 68 = .ok (.iconst 0, 1) := by decide +kernel
theorem dX8_key_69 : decode cX8_key 69 = .ok (.istore 4, 2) := by decide +kernel
theorem dX8_key_71 : decode cX8_key 71 = .ok (.iload 4, 2) := by decide +kernel
theorem dX8_key_73 : decode cX8_key 73 = .ok (.iload_n 2, 1) := by decide +kernel
theorem dX8_key_74 : decode cX8_key 74 = .ok (.if_icmp .ge 23, 3) := by decide +kernel
theorem dX8_key_77 : decode cX8_key 77 = .ok (.aload_n 0, 1) := by decide +kernel
theorem dX8_key_78 : decode cX8_key 78 = .ok (.getfield 236, 3) := by decide +kernel
theorem dX8_key_81 : decode cX8_key 81 = .ok (.iload 4, 2) := by decide +kernel
theorem dX8_key_83 : decode cX8_key 83 = .ok (.aload_n 0, 1) := by decide +kernel
