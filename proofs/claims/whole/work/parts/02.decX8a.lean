theorem dX8_desKey_0 : decode cX8_desKey 0 = .ok (.iconst 0, 1) := by decide +kernel
theorem dX8_desKey_1 : decode cX8_desKey 1 = .ok (.istore_n 3, 1) := by decide +kernel
theorem dX8_desKey_2 : decode cX8_desKey 2 = .ok (.iload_n 3, 1) := by decide +kernel
theorem dX8_desKey_3 : decode cX8_desKey 3 = .ok (.bipush 56, 2) := by decide +kernel
theorem dX8_desKey_5 : decode cX8_desKey 5 = .ok (.if_icmp .ge 45, 3) := by decide +kernel
theorem dX8_desKey_8 : decode cX8_desKey 8 = .ok (.aload_n 0, 1) := by decide +kernel
theorem dX8_desKey_9 : decode cX8_desKey 9 = .ok (.getfield 1, 3) := by decide +kernel
theorem dX8_desKey_12 : decode cX8_desKey 12 = .ok (.iload_n 3, 1) := by decide +kernel
theorem dX8_desKey_13 : decode cX8_desKey 13 = .ok (.iaload, 1) := by decide +kernel
theorem dX8_desKey_14 : decode cX8_desKey 14 = .ok (.iconst 1, 1) := by decide +kernel
theorem dX8_desKey_15 : decode cX8_desKey 15 = .ok (.isub, 1) := by decide +kernel
theorem dX8_desKey_16 : decode cX8_desKey 16 = .ok (.istore 4, 2) := by decide +kernel
theorem dX8_desKey_18 : decode cX8_desKey 18 = .ok (.aload_n 0, 1) := by decide +kernel
theorem dX8_desKey_19 : decode cX8_desKey 19 = .ok (.getfield 7, 3) := by decide +kernel
theorem dX8_desKey_22 : decode cX8_desKey 22 = .ok (.iload_n 3, 1) := by decide +kernel
theorem dX8_desKey_23 : decode cX8_desKey 23 = .ok (.aload_n 1, 1) := by decide +kernel
theorem dX8_desKey_24 : decode cX8_desKey 24 = .ok (.iload_n 2, 1) := by decide +kernel
theorem dX8_desKey_25 : decode cX8_desKey 25 = .ok (.iload 4, 2) := by decide +kernel
theorem dX8_desKey_27 : decode cX8_desKey 27 = .ok (.bipush 8, 2) := by decide +kernel
theorem dX8_desKey_29 : decode cX8_desKey 29 = .ok (.idiv, 1) := by decide +kernel
theorem dX8_desKey_30 : decode cX8_desKey 30 = .ok (.iadd, 1) := by decide +kernel
theorem dX8_desKey_31 : decode cX8_desKey 31 = .ok (.baload, 1) := by decide +kernel
theorem dX8_desKey_32 : decode cX8_desKey 32 = .ok (.bipush 7, 2) := by decide +kernel
theorem dX8_desKey_34 : decode cX8_desKey 34 = .ok (.iload 4, 2) := by decide +kernel
theorem dX8_desKey_36 : decode cX8_desKey 36 = .ok (.bipush 8, 2) := by decide +kernel
theorem dX8_desKey_38 : decode cX8_desKey 38 = .ok (.irem, 1) := by decide +kernel
theorem dX8_desKey_39 : decode cX8_desKey 39 = .ok (.isub, 1) := by decide +kernel
theorem dX8_desKey_40 : decode cX8_desKey 40 = .ok (.ishr, 1) := by decide +kernel
theorem dX8_desKey_41 : decode cX8_desKey 41 = .ok (.iconst 1, 1) := by decide +kernel
theorem dX8_desKey_42 : decode cX8_desKey 42 = .ok (.iand, 1) := by decide +kernel
theorem dX8_desKey_43 : decode cX8_desKey 43 = .ok (.iastore, 1) := by decide +kernel
theorem dX8_desKey_44 : decode cX8_desKey 44 = .ok (.iinc 3 1, 3) := by decide +kernel
theorem dX8_desKey_47 : decode cX8_desKey 47 = .ok (.goto (-45), 3) := by decide +kernel
theorem dX8_desKey_50 : decode cX8_desKey 50 = .ok (.iconst 0, 1) := by decide +kernel
theorem dX8_desKey_51 : decode cX8_desKey 51 = .ok (.istore_n 3, 1) := by decide +kernel
theorem dX8_desKey_52 : decode cX8_desKey 52 = .ok (.iload_n 3, 1) := by decide +kernel
theorem dX8_desKey_53 : decode cX8_desKey 53 = .ok (.bipush 16, 2) := by decide +kernel
theorem dX8_desKey_55 : decode cX8_desKey 55 = .ok (.if_icmp .ge 182, 3) := by decide +kernel
theorem dX8_desKey_58 : decode cX8_desKey 58 = .ok (.iload_n 3, 1) := by decide +kernel
theorem dX8_desKey_59 : decode cX8_desKey 59 = .ok (.ifCond .eq 20, 3) := by decide +kernel
theorem dX8_desKey_62 : decode cX8_desKey 62 = .ok (.iload_n 3, 1) := by decide +kernel
theorem dX8_desKey_63 : decode cX8_desKey 63 = .ok (.iconst 1, 1) := by decide +kernel
theorem dX8_desKey_64 : decode cX8_desKey 64 = .ok (.if_icmp .eq 15, 3) := by decide +kernel
theorem dX8_desKey_67 : decode cX8_desKey 67 = .ok (.iload_n 3, 1) := by decide +kernel
theorem dX8_desKey_68 : decode cX8_desKey 68 = .ok (.bipush 8, 2) := by decide +kernel
theorem dX8_desKey_70 : decode cX8_desKey 70 = .ok (.if_icmp .eq 9, 3) := by decide +kernel
theorem dX8_desKey_73 : decode cX8_desKey 73 = .ok (.iload_n 3, 1) := by decide +kernel
theorem dX8_desKey_74 : decode cX8_desKey 74 = .ok (.bipush 15, 2) := by decide +kernel
theorem dX8_desKey_76 : decode cX8_desKey 76 = .ok (.if_icmp .ne 7, 3) := by decide +kernel
theorem dX8_desKey_79 : decode cX8_desKey 79 = .ok (.iconst 1, 1) := by decide +kernel
theorem dX8_desKey_80 : decode cX8_desKey 80 = .ok (.goto 4, 3) := by decide +kernel
theorem dX8_desKey_83 : decode cX8_desKey 83 = .ok (.iconst 2, 1) := by decide +kernel
theorem dX8_desKey_84 : decode cX8_desKey 84 = .ok (.istore 4, 2) := by decide +kernel
theorem dX8_desKey_86 : decode cX8_desKey 86 = .ok (.iconst 0, 1) := by decide +kernel
theorem dX8_desKey_87 : decode cX8_desKey 87 = .ok (.istore 5, 2) := by decide +kernel
theorem dX8_desKey_89 : decode cX8_desKey 89 = .ok (.iload 5, 2) := by decide +kernel
theorem dX8_desKey_91 : decode cX8_desKey 91 = .ok (.iload 4, 2) := by decide +kernel
theorem dX8_desKey_93 : decode cX8_desKey 93 = .ok (.if_icmp .ge 96, 3) := by decide +kernel
theorem dX8_desKey_96 : decode cX8_desKey 96 = .ok (.aload_n 0, 1) := by decide +kernel
theorem dX8_desKey_97 : decode cX8_desKey 97 = .ok (.getfield 7, 3) := by decide +kernel
theorem dX8_desKey_100 : decode cX8_desKey 100 = .ok (.iconst 0, 1) := by decide +kernel
theorem dX8_desKey_101 : decode cX8_desKey 101 = .ok (.iaload, 1) := by decide +kernel
theorem dX8_desKey_102 : decode cX8_desKey 102 = .ok (.istore 6, 2) := by decide +kernel
theorem dX8_desKey_104 : decode cX8_desKey 104 = .ok (.aload_n 0, 1) := by decide +kernel
theorem dX8_desKey_105 : decode cX8_desKey 105 = .ok (.getfield 7, 3) := by decide +kernel
theorem dX8_desKey_108 : decode cX8_desKey 108 = .ok (.bipush 28, 2) := by decide +kernel
theorem dX8_desKey_110 : decode cX8_desKey 110 = .ok (.iaload, 1) := by decide +kernel
theorem dX8_desKey_111 : decode cX8_desKey 111 = .ok (.istore 7, 2) := by decide +kernel
theorem dX8_desKey_113 : decode cX8_desKey 113 = .ok (.iconst 0, 1) := by decide +kernel
theorem dX8_desKey_114 : decode cX8_desKey 114 = .ok (.istore 8, 2) := by decide +kernel
theorem dX8_desKey_116 : decode cX8_desKey 116 = .ok (.iload 8, 2) := by decide +kernel
theorem dX8_desKey_118 : decode cX8_desKey 118 = .ok (.bipush 27, 2) := by decide +kernel
theorem dX8_desKey_120 : decode cX8_desKey 120 = .ok (.if_icmp .ge 45, 3) := by decide +kernel
theorem dX8_desKey_123 : decode cX8_desKey 123 = .ok (.aload_n 0, 1) := by decide +kernel
theorem dX8_desKey_124 : decode cX8_desKey 124 = .ok (.getfield 7, 3) := by decide +kernel
theorem dX8_desKey_127 : decode cX8_desKey 127 = .ok (.iload 8, 2) := by decide +kernel
theorem dX8_desKey_129 : decode cX8_desKey 129 = .ok (.aload_n 0, 1) := by decide +kernel
theorem dX8_desKey_130 : decode cX8_desKey 130 = .ok (.getfield 7, 3) := by decide +kernel
theorem dX8_desKey_133 : decode cX8_desKey 133 = .ok (.iload 8, 2) := by decide +kernel
theorem dX8_desKey_135 : decode cX8_desKey 135 = .ok (.iconst 1, 1) := by decide +kernel
theorem dX8_desKey_136 : decode cX8_desKey 136 = .ok (.iadd, 1) := by decide +kernel
theorem dX8_desKey_137 : decode cX8_desKey 137 = .ok (.iaload, 1) := by decide +kernel
theorem dX8_desKey_138 : decode cX8_desKey 138 = .ok (.iastore, 1) := by decide +kernel
theorem dX8_desKey_139 : decode cX8_desKey 139 = .ok (.aload_n 0, 1) := by decide +kernel
theorem dX8_desKey_140 : decode cX8_desKey 140 = .ok (.getfield 7, 3) := by decide +kernel
theorem dX8_desKey_143 : decode cX8_desKey 143 = .ok (.bipush 28, 2) := by decide +kernel
theorem dX8_desKey_145 : decode cX8_desKey 145 = .ok (.iload 8, 2) := by decide +kernel
theorem dX8_desKey_147 : decode cX8_desKey 147 = .ok (.iadd, 1) := by decide +kernel
theorem dX8_desKey_148 : decode cX8_desKey 148 = .ok (.aload_n 0, 1) := by decide +kernel
theorem dX8_desKey_149 : decode cX8_desKey 149 = .ok (.getfield 7, 3) := by decide +kernel
theorem dX8_desKey_152 : decode cX8_desKey 152 = .ok (.bipush 29, 2) := by decide +kernel
theorem dX8_desKey_154 : decode cX8_desKey 154 = .ok (.iload 8, 2) := by decide +kernel
theorem dX8_desKey_156 : decode cX8_desKey 156 = .ok (.iadd, 1) := by decide +kernel
theorem dX8_desKey_157 : decode cX8_desKey 157 = .ok (.iaload, 1) := by decide +kernel
theorem dX8_desKey_158 : decode cX8_desKey 158 = .ok (.iastore, 1) := by decide +kernel
theorem dX8_desKey_159 : decode cX8_desKey 159 = .ok (.iinc 8 1, 3) := by decide +kernel
theorem dX8_desKey_162 : decode cX8_desKey 162 = .ok (.goto (-46), 3) := by decide +kernel
theorem dX8_desKey_165 : decode cX8_desKey 165 = .ok (.aload_n 0, 1) := by decide +kernel
theorem dX8_desKey_166 : decode cX8_desKey 166 = .ok (.getfield 7, 3) := by decide +kernel
theorem dX8_desKey_169 : decode cX8_desKey 169 = .ok (.bipush 27, 2) := by decide +kernel
theorem dX8_desKey_171 : decode cX8_desKey 171 = .ok (.iload 6, 2) := by decide +kernel
theorem dX8_desKey_173 : decode cX8_desKey 173 = .ok (.iastore, 1) := by decide +kernel
theorem dX8_desKey_174 : decode cX8_desKey 174 = .ok (.aload_n 0, 1) := by decide +kernel
theorem dX8_desKey_175 : decode cX8_desKey 175 = .ok (.getfield 7, 3) := by decide +kernel
theorem dX8_desKey_178 : decode cX8_desKey 178 = .ok (.bipush 55, 2) := by decide +kernel
theorem dX8_desKey_180 : decode cX8_desKey 180 = .ok (.iload 7, 2) := by decide +kernel
theorem dX8_desKey_182 : decode cX8_desKey 182 = .ok (.iastore, 1) := by decide +kernel
theorem dX8_desKey_183 : decode cX8_desKey 183 = .ok (.iinc 5 1, 3) := by decide +kernel
theorem dX8_desKey_186 : decode cX8_desKey 186 = .ok (.goto (-97), 3) := by decide +kernel
theorem dX8_desKey_189 : decode cX8_desKey 189 = .ok (.iconst 0, 1) := by decide +kernel
theorem dX8_desKey_190 : decode cX8_desKey 190 = .ok (.istore 5, 2) := by decide +kernel
theorem dX8_desKey_192 : decode cX8_desKey 192 = .ok (.iload 5, 2) := by decide +kernel
theorem dX8_desKey_194 : decode cX8_desKey 194 = .ok (.bipush 48, 2) := by decide +kernel
theorem dX8_desKey_196 : decode cX8_desKey 196 = .ok (.if_icmp .ge 35, 3) := by decide +kernel
theorem dX8_desKey_199 : decode cX8_desKey 199 = .ok (.aload_n 0, 1) := by decide +kernel
theorem dX8_desKey_200 : decode cX8_desKey 200 = .ok (.getfield 10, 3) := by decide +kernel
theorem dX8_desKey_203 : decode cX8_desKey 203 = .ok (.bipush 48, 2) := by decide +kernel
theorem dX8_desKey_205 : decode cX8_desKey 205 = .ok (.iload_n 3, 1) := by decide +kernel
theorem dX8_desKey_206 : decode cX8_desKey 206 = .ok (.imul, 1) := by decide +kernel
theorem dX8_desKey_207 : decode cX8_desKey 207 = .ok (.iload 5, 2) := by decide +kernel
theorem dX8_desKey_209 : decode cX8_desKey 209 = .ok (.iadd, 1) := by decide +kernel
theorem dX8_desKey_210 : decode cX8_desKey 210 = .ok (.aload_n 0, 1) := by decide +kernel
theorem dX8_desKey_211 : decode cX8_desKey 211 = .ok (.getfield 7, 3) := by decide +kernel
theorem dX8_desKey_214 : decode cX8_desKey 214 = .ok (.aload_n 0, 1) := by decide +kernel
theorem dX8_desKey_215 : decode cX8_desKey 215 = .ok (.getfield 13, 3) := by decide +kernel
theorem dX8_desKey_218 : decode cX8_desKey 218 = .ok (.iload 5, 2) := by decide +kernel
theorem dX8_desKey_220 : decode cX8_desKey 220 = .ok (.iaload, 1) := by decide +kernel
theorem dX8_desKey_221 : decode cX8_desKey 221 = .ok (.iconst 1, 1) := by decide +kernel
theorem dX8_desKey_222 : decode cX8_desKey 222 = .ok (.isub, 1) := by decide +kernel
theorem dX8_desKey_223 : decode cX8_desKey 223 = .ok (.iaload, 1) := by decide +kernel
theorem dX8_desKey_224 : decode cX8_desKey 224 = .ok (.iastore, 1) := by decide +kernel
theorem dX8_desKey_225 : decode cX8_desKey 225 = .ok (.iinc 5 1, 3) := by decide +kernel
theorem dX8_desKey_228 : decode cX8_desKey 228 = .ok (.goto (-36), 3) := by decide +kernel
theorem dX8_desKey_231 : decode cX8_desKey 231 = .ok (.iinc 3 1, 3) := by decide +kernel
theorem dX8_desKey_234 : decode cX8_desKey 234 = .ok (.goto (-182), 3) := by decide +kernel
theorem dX8_desKey_237 : decode cX8_desKey 237 = .ok (.return_, 1) := by decide +kernel
set_option maxRecDepth 20000 in
theorem ggX8_des_X8_desKey : GoodIn wsX8_des wsX8_desKey := goodIn_r _ [14, 15, 16, 5, 17, 18, 19, 20, 21, 22, 23, 24, 25, 26, 27, 28, 29, 30, 31, 32, 33, 34, 35, 36, 37, 38, 39, 40, 41, 42, 43, 44, 45, 46, 47, 48, 49, 50, 51, 52] rfl (by decide +kernel)
set_option maxRecDepth 20000 in
theorem gX8_des_X8_desKey : GoodIn wsX8_des (wsV RX8 16 RX8 yX8_desKey wsX8_desKey) := goodIn_app (goodIn_of _ (by decide +kernel)) ggX8_des_X8_desKey
theorem dX8_des_0 : decode cX8_des 0 = .ok (.aload_n 0, 1) := by decide +kernel
theorem dX8_des_1 : decode cX8_des 1 = .ok (.aload_n 3, 1) := by decide +kernel
theorem dX8_des_2 : decode cX8_des 2 = .ok (.iload 4, 2) := by decide +kernel
theorem dX8_des_4 : decode cX8_des 4 = .ok (.invokevirtual 16, 3) := by decide +kernel
theorem dX8_des_7 : decode cX8_des 7 = .ok (.iconst 0, 1) := by decide +kernel
theorem dX8_des_8 : decode cX8_des 8 = .ok (.istore 6, 2) := by decide +kernel
theorem dX8_des_10 : decode cX8_des 10 = .ok (.iload 6, 2) := by decide +kernel
theorem dX8_des_12 : decode cX8_des 12 = .ok (.bipush 64, 2) := by decide +kernel
theorem dX8_des_14 : decode cX8_des 14 = .ok (.if_icmp .ge 50, 3) := by decide +kernel
theorem dX8_des_17 : decode cX8_des 17 = .ok (.aload_n 0, 1) := by decide +kernel
theorem dX8_des_18 : decode cX8_des 18 = .ok (.getfield 20, 3) := by decide +kernel
theorem dX8_des_21 : decode cX8_des 21 = .ok (.iload 6, 2) := by decide +kernel
theorem dX8_des_23 : decode cX8_des 23 = .ok (.aload_n 1, 1) := by decide +kernel
theorem dX8_des_24 : decode cX8_des 24 = .ok (.iload_n 2, 1) := by decide +kernel
theorem dX8_des_25 : decode cX8_des 25 = .ok (.aload_n 0, 1) := by decide +kernel
theorem dX8_des_26 : decode cX8_des 26 = .ok (.getfield 23, 3) := by decide +kernel
theorem dX8_des_29 : decode cX8_des 29 = .ok (.iload 6, 2) := by decide +kernel
theorem dX8_des_31 : decode cX8_des 31 = .ok (.iaload, 1) := by decide +kernel
theorem dX8_des_32 : decode cX8_des 32 = .ok (.iconst 1, 1) := by decide +kernel
theorem dX8_des_33 : decode cX8_des 33 = .ok (.isub, 1) := by decide +kernel
theorem dX8_des_34 : decode cX8_des 34 = .ok (.bipush 8, 2) := by decide +kernel
theorem dX8_des_36 : decode cX8_des 36 = .ok (.idiv, 1) := by decide +kernel
theorem dX8_des_37 : decode cX8_des 37 = .ok (.iadd, 1) := by decide +kernel
theorem dX8_des_38 : decode cX8_des 38 = .ok (.baload, 1) := by decide +kernel
theorem dX8_des_39 : decode cX8_des 39 = .ok (.bipush 7, 2) := by decide +kernel
theorem dX8_des_41 : decode cX8_des 41 = .ok (.aload_n 0, 1) := by decide +kernel
theorem dX8_des_42 : decode cX8_des 42 = .ok (.getfield 23, 3) := by decide +kernel
theorem dX8_des_45 : decode cX8_des 45 = .ok (.iload 6, 2) := by decide +kernel
theorem dX8_des_47 : decode cX8_des 47 = .ok (.iaload, 1) := by decide +kernel
theorem dX8_des_48 : decode cX8_des 48 = .ok (.iconst 1, 1) := by decide +kernel
theorem dX8_des_49 : decode cX8_des 49 = .ok (.isub, 1) := by decide +kernel
theorem dX8_des_50 : decode cX8_des 50 = .ok (.bipush 8, 2) := by decide +kernel
theorem dX8_des_52 : decode cX8_des 52 = .ok (.irem, 1) := by decide +kernel
theorem dX8_des_53 : decode cX8_des 53 = .ok (.isub, 1) := by decide +kernel
theorem dX8_des_54 : decode cX8_des 54 = .ok (.ishr, 1) := by decide +kernel
theorem dX8_des_55 : decode cX8_des 55 = .ok (.iconst 1, 1) := by decide +kernel
theorem dX8_des_56 : decode cX8_des 56 = .ok (.iand, 1) := by decide +kernel
theorem dX8_des_57 : decode cX8_des 57 = .ok (.iastore, 1) := by decide +kernel
theorem dX8_des_58 : decode cX8_des 58 = .ok (.iinc 6 1, 3) := by decide +kernel
theorem dX8_des_61 : decode cX8_des 61 = .ok (.goto (-51), 3) := by decide +kernel
theorem dX8_des_64 : decode cX8_des 64 = .ok (.iconst 0, 1) := by decide +kernel
theorem dX8_des_65 : decode cX8_des 65 = .ok (.istore 6, 2) := by decide +kernel
theorem dX8_des_67 : decode cX8_des 67 = .ok (.iload 6, 2) := by decide +kernel
theorem dX8_des_69 : decode cX8_des 69 = .ok (.bipush 16, 2) := by decide +kernel
theorem dX8_des_71 : decode cX8_des 71 = .ok (.if_icmp .ge 335, 3) := by decide +kernel
theorem dX8_des_74 : decode cX8_des 74 = .ok (.bipush 48, 2) := by decide +kernel
theorem dX8_des_76 : decode cX8_des 76 = .ok (.iload 5, 2) := by decide +kernel
theorem dX8_des_78 : decode cX8_des 78 = .ok (.ifCond .eq 11, 3) := by decide +kernel
theorem dX8_des_81 : decode cX8_des 81 = .ok (.bipush 15, 2) := by decide +kernel
theorem dX8_des_83 : decode cX8_des 83 = .ok (.iload 6, 2) := by decide +kernel
theorem dX8_des_85 : decode cX8_des 85 = .ok (.isub, 1) := by decide +kernel
theorem dX8_des_86 : decode cX8_des 86 = .ok (.goto 5, 3) := by decide +kernel
theorem dX8_des_89 : decode cX8_des 89 = .ok (.iload 6, 2) := by decide +kernel
theorem dX8_des_91 : decode cX8_des 91 = .ok (.imul, 1) := by decide +kernel
theorem dX8_des_92 : decode cX8_des 92 = .ok (.istore 7, 2) := by decide +kernel
theorem dX8_des_94 : decode cX8_des 94 = .ok (.iconst 0, 1) := by decide +kernel
theorem dX8_des_95 : decode cX8_des 95 = .ok (.istore 8, 2) := by decide +kernel
theorem dX8_des_97 : decode cX8_des 97 = .ok (.iload 8, 2) := by decide +kernel
theorem dX8_des_99 : decode cX8_des 99 = .ok (.bipush 48, 2) := by decide +kernel
theorem dX8_des_101 : decode cX8_des 101 = .ok (.if_icmp .ge 44, 3) := by decide +kernel
theorem dX8_des_104 : decode cX8_des 104 = .ok (.aload_n 0, 1) := by decide +kernel
theorem dX8_des_105 : decode cX8_des 105 = .ok (.getfield 26, 3) := by decide +kernel
theorem dX8_des_108 : decode cX8_des 108 = .ok (.iload 8, 2) := by decide +kernel
theorem dX8_des_110 : decode cX8_des 110 = .ok (.aload_n 0, 1) := by decide +kernel
theorem dX8_des_111 : decode cX8_des 111 = .ok (.getfield 20, 3) := by decide +kernel
theorem dX8_des_114 : decode cX8_des 114 = .ok (.bipush 32, 2) := by decide +kernel
theorem dX8_des_116 : decode cX8_des 116 = .ok (.aload_n 0, 1) := by decide +kernel
theorem dX8_des_117 : decode cX8_des 117 = .ok (.getfield 29, 3) := by decide +kernel
theorem dX8_des_120 : decode cX8_des 120 = .ok (.iload 8, 2) := by decide +kernel
theorem dX8_des_122 : decode cX8_des 122 = .ok (.iaload, 1) := by decide +kernel
theorem dX8_des_123 : decode cX8_des 123 = .ok (.iadd, 1) := by decide +kernel
theorem dX8_des_124 : decode cX8_des 124 = .ok (.iconst 1, 1) := by decide +kernel
theorem dX8_des_125 : decode cX8_des 125 = .ok (.isub, 1) := by decide +kernel
theorem dX8_des_126 : decode cX8_des 126 = .ok (.iaload, 1) := by decide +kernel
theorem dX8_des_127 : decode cX8_des 127 = .ok (.aload_n 0, 1) := by decide +kernel
theorem dX8_des_128 : decode cX8_des 128 = .ok (.getfield 10, 3) := by decide +kernel
theorem dX8_des_131 : decode cX8_des 131 = .ok (.iload 7, 2) := by decide +kernel
theorem dX8_des_133 : decode cX8_des 133 = .ok (.iload 8, 2) := by decide +kernel
theorem dX8_des_135 : decode cX8_des 135 = .ok (.iadd, 1) := by decide +kernel
theorem dX8_des_136 : decode cX8_des 136 = .ok (.iaload, 1) := by decide +kernel
theorem dX8_des_137 : decode cX8_des 137 = .ok (.ixor, 1) := by decide +kernel
theorem dX8_des_138 : decode cX8_des 138 = .ok (.iastore, 1) := by decide +kernel
theorem dX8_des_139 : decode cX8_des 139 = .ok (.iinc 8 1, 3) := by decide +kernel
theorem dX8_des_142 : decode cX8_des 142 = .ok (.goto (-45), 3) := by decide +kernel
theorem dX8_des_145 : decode cX8_des 145 = .ok (.iconst 0, 1) := by decide +kernel
theorem dX8_des_146 : decode cX8_des 146 = .ok (.istore 8, 2) := by decide +kernel
theorem dX8_des_148 : decode cX8_des 148 = .ok (.iload 8, 2) := by decide +kernel
theorem dX8_des_150 : decode cX8_des 150 = .ok (.bipush 8, 2) := by decide +kernel
theorem dX8_des_152 : decode cX8_des 152 = .ok (.if_icmp .ge 153, 3) := by decide +kernel
theorem dX8_des_155 : decode cX8_des 155 = .ok (.iconst 2, 1) := by decide +kernel
theorem dX8_des_156 : decode cX8_des 156 = .ok (.aload_n 0, 1) := by decide +kernel
theorem dX8_des_157 : decode cX8_des 157 = .ok (.getfield 26, 3) := by decide +kernel
theorem dX8_des_160 : decode cX8_des 160 = .ok (.bipush 6, 2) := by decide +kernel
theorem dX8_des_162 : decode cX8_des 162 = .ok (.iload 8, 2) := by decide +kernel
theorem dX8_des_164 : decode cX8_des 164 = .ok (.imul, 1) := by decide +kernel
theorem dX8_des_165 : decode cX8_des 165 = .ok (.iaload, 1) := by decide +kernel
theorem dX8_des_166 : decode cX8_des 166 = .ok (.imul, 1) := by decide +kernel
theorem dX8_des_167 : decode cX8_des 167 = .ok (.aload_n 0, 1) := by decide +kernel
theorem dX8_des_168 : decode cX8_des 168 = .ok (.getfield 26, 3) := by decide +kernel
theorem dX8_des_171 : decode cX8_des 171 = .ok (.bipush 6, 2) := by decide +kernel
theorem dX8_des_173 : decode cX8_des 173 = .ok (.iload 8, 2) := by decide +kernel
theorem dX8_des_175 : decode cX8_des 175 = .ok (.imul, 1) := by decide +kernel
theorem dX8_des_176 : decode cX8_des 176 = .ok (.iconst 5, 1) := by decide +kernel
theorem dX8_des_177 : decode cX8_des 177 = .ok (.iadd, 1) := by decide +kernel
theorem dX8_des_178 : decode cX8_des 178 = .ok (.iaload, 1) := by decide +kernel
theorem dX8_des_179 : decode cX8_des 179 = .ok (.iadd, 1) := by decide +kernel
theorem dX8_des_180 : decode cX8_des 180 = .ok (.istore 9, 2) := by decide +kernel
theorem dX8_des_182 : decode cX8_des 182 = .ok (.bipush 8, 2) := by decide +kernel
theorem dX8_des_184 : decode cX8_des 184 = .ok (.aload_n 0, 1) := by decide +kernel
theorem dX8_des_185 : decode cX8_des 185 = .ok (.getfield 26, 3) := by decide +kernel
theorem dX8_des_188 : decode cX8_des 188 = .ok (.bipush 6, 2) := by decide +kernel
theorem dX8_des_190 : decode cX8_des 190 = .ok (.iload 8, 2) := by decide +kernel
theorem dX8_des_192 : decode cX8_des 192 = .ok (.imul, 1) := by decide +kernel
theorem dX8_des_193 : decode cX8_des 193 = .ok (.iconst 1, 1) := by decide +kernel
theorem dX8_des_194 : decode cX8_des 194 = .ok (.iadd, 1) := by decide +kernel
theorem dX8_des_195 : decode cX8_des 195 = .ok (.iaload, 1) := by decide +kernel
theorem dX8_des_196 : decode cX8_des 196 = .ok (.imul, 1) := by decide +kernel
theorem dX8_des_197 : decode cX8_des 197 = .ok (.iconst 4, 1) := by decide +kernel
theorem dX8_des_198 : decode cX8_des 198 = .ok (.aload_n 0, 1) := by decide +kernel
theorem dX8_des_199 : decode cX8_des 199 = .ok (.getfield 26, 3) := by decide +kernel
theorem dX8_des_202 : decode cX8_des 202 = .ok (.bipush 6, 2) := by decide +kernel
theorem dX8_des_204 : decode cX8_des 204 = .ok (.iload 8, 2) := by decide +kernel
theorem dX8_des_206 : decode cX8_des 206 = .ok (.imul, 1) := by decide +kernel
theorem dX8_des_207 : decode cX8_des 207 = .ok (.iconst 2, 1) := by decide +kernel
theorem dX8_des_208 : decode cX8_des 208 = .ok (.iadd, 1) := by decide +kernel
theorem dX8_des_209 : decode cX8_des 209 = .ok (.iaload, 1) := by decide +kernel
theorem dX8_des_210 : decode cX8_des 210 = .ok (.imul, 1) := by decide +kernel
theorem dX8_des_211 : decode cX8_des 211 = .ok (.iadd, 1) := by decide +kernel
theorem dX8_des_212 : decode cX8_des 212 = .ok (.iconst 2, 1) := by decide +kernel
theorem dX8_des_213 : decode cX8_des 213 = .ok (.aload_n 0, 1) := by decide +kernel
theorem dX8_des_214 : decode cX8_des 214 = .ok (.getfield 26, 3) := by decide +kernel
theorem dX8_des_217 : decode cX8_des 217 = .ok (.bipush 6, 2) := by decide +kernel
theorem dX8_des_219 : decode cX8_des 219 = .ok (.iload 8, 2) := by decide +kernel
theorem dX8_des_221 : decode cX8_des 221 = .ok (.imul, 1) := by decide +kernel
theorem dX8_des_222 : decode cX8_des 222 = .ok (.iconst 3, 1) := by decide +kernel
theorem dX8_des_223 : decode cX8_des 223 = .ok (.iadd, 1) := by decide +kernel
theorem dX8_des_224 : decode cX8_des 224 = .ok (.iaload, 1) := by decide +kernel
theorem dX8_des_225 : decode cX8_des 225 = .ok (.imul, 1) := by decide +kernel
theorem dX8_des_226 : decode cX8_des 226 = .ok (.iadd, 1) := by decide +kernel
theorem dX8_des_227 : decode cX8_des 227 = .ok (.aload_n 0, 1) := by decide +kernel
theorem dX8_des_228 : decode cX8_des 228 = .ok (.getfield 26, 3) := by decide +kernel
theorem dX8_des_231 : decode cX8_des 231 = .ok (.bipush 6, 2) := by decide +kernel
theorem dX8_des_233 : decode cX8_des 233 = .ok (.iload 8, 2) := by decide +kernel
theorem dX8_des_235 : decode cX8_des 235 = .ok (.imul, 1) := by decide +kernel
theorem dX8_des_236 : decode cX8_des 236 = .ok (.iconst 4, 1) := by decide +kernel
theorem dX8_des_237 : decode cX8_des 237 = .ok (.iadd, 1) := by decide +kernel
theorem dX8_des_238 : decode cX8_des 238 = .ok (.iaload, 1) := by decide +kernel
theorem dX8_des_239 : decode cX8_des 239 = .ok (.iadd, 1) := by decide +kernel
theorem dX8_des_240 : decode cX8_des 240 = .ok (.istore 10, 2) := by decide +kernel
theorem dX8_des_242 : decode cX8_des 242 = .ok (.aload_n 0, 1) := by decide +kernel
theorem dX8_des_243 : decode cX8_des 243 = .ok (.getfield 32, 3) := by decide +kernel
theorem dX8_des_246 : decode cX8_des 246 = .ok (.bipush 64, 2) := by decide +kernel
theorem dX8_des_248 : decode cX8_des 248 = .ok (.iload 8, 2) := by decide +kernel
theorem dX8_des_250 : decode cX8_des 250 = .ok (.imul, 1) := by decide +kernel
theorem dX8_des_251 : decode cX8_des 251 = .ok (.bipush 16, 2) := by decide +kernel
theorem dX8_des_253 : decode cX8_des 253 = .ok (.iload 9, 2) := by decide +kernel
theorem dX8_des_255 : decode cX8_des 255 = .ok (.imul, 1) := by decide +kernel
theorem dX8_des_256 : decode cX8_des 256 = .ok (.iadd, 1) := by decide +kernel
theorem dX8_des_257 : decode cX8_des 257 = .ok (.iload 10, 2) := by decide +kernel
theorem dX8_des_259 : decode cX8_des 259 = .ok (.iadd, 1) := by decide +kernel
theorem dX8_des_260 : decode cX8_des 260 = .ok (.iaload, 1) := by decide +kernel
theorem dX8_des_261 : decode cX8_des 261 = .ok (.istore 11, 2) := by decide +kernel
theorem dX8_des_263 : decode cX8_des 263 = .ok (.iconst 0, 1) := by decide +kernel
theorem dX8_des_264 : decode cX8_des 264 = .ok (.istore 12, 2) := by decide +kernel
theorem dX8_des_266 : decode cX8_des 266 = .ok (.iload 12, 2) := by decide +kernel
theorem dX8_des_268 : decode cX8_des 268 = .ok (.iconst 4, 1) := by decide +kernel
theorem dX8_des_269 : decode cX8_des 269 = .ok (.if_icmp .ge 30, 3) := by decide +kernel
theorem dX8_des_272 : decode cX8_des 272 = .ok (.aload_n 0, 1) := by decide +kernel
theorem dX8_des_273 : decode cX8_des 273 = .ok (.getfield 35, 3) := by decide +kernel
theorem dX8_des_276 : decode cX8_des 276 = .ok (.iconst 4, 1) := by decide +kernel
theorem dX8_des_277 : decode cX8_des 277 = .ok (.iload 8, 2) := by decide +kernel
theorem dX8_des_279 : decode cX8_des 279 = .ok (.imul, 1) := by decide +kernel
theorem dX8_des_280 : decode cX8_des 280 = .ok (.iload 12, 2) := by decide +kernel
theorem dX8_des_282 : decode cX8_des 282 = .ok (.iadd, 1) := by decide +kernel
theorem dX8_des_283 : decode cX8_des 283 = .ok (.iload 11, 2) := by decide +kernel
theorem dX8_des_285 : decode cX8_des 285 = .ok (.iconst 3, 1) := by decide +kernel
theorem dX8_des_286 : decode cX8_des 286 = .ok (.iload 12, 2) := by decide +kernel
theorem dX8_des_288 : decode cX8_des 288 = .ok (.isub, 1) := by decide +kernel
theorem dX8_des_289 : decode cX8_des 289 = .ok (.ishr, 1) := by decide +kernel
theorem dX8_des_290 : decode cX8_des 290 = .ok (.iconst 1, 1) := by decide +kernel
theorem dX8_des_291 : decode cX8_des 291 = .ok (.iand, 1) := by decide +kernel
theorem dX8_des_292 : decode cX8_des 292 = .ok (.iastore, 1) := by decide +kernel
theorem dX8_des_293 : decode cX8_des 293 = .ok (.iinc 12 1, 3) := by decide +kernel
theorem dX8_des_296 : decode cX8_des 296 = .ok (.goto (-30), 3) := by decide +kernel
theorem dX8_des_299 : decode cX8_des 299 = .ok (.iinc 8 1, 3) := by decide +kernel
theorem dX8_des_302 : decode cX8_des 302 = .ok (.goto (-154), 3) := by decide +kernel
theorem dX8_des_305 : decode cX8_des 305 = .ok (.iconst 0, 1) := by decide +kernel
theorem dX8_des_306 : decode cX8_des 306 = .ok (.istore 8, 2) := by decide +kernel
theorem dX8_des_308 : decode cX8_des 308 = .ok (.iload 8, 2) := by decide +kernel
theorem dX8_des_310 : decode cX8_des 310 = .ok (.bipush 32, 2) := by decide +kernel
theorem dX8_des_312 : decode cX8_des 312 = .ok (.if_icmp .ge 38, 3) := by decide +kernel
theorem dX8_des_315 : decode cX8_des 315 = .ok (.aload_n 0, 1) := by decide +kernel
theorem dX8_des_316 : decode cX8_des 316 = .ok (.getfield 38, 3) := by decide +kernel
theorem dX8_des_319 : decode cX8_des 319 = .ok (.iload 8, 2) := by decide +kernel
theorem dX8_des_321 : decode cX8_des 321 = .ok (.aload_n 0, 1) := by decide +kernel
theorem dX8_des_322 : decode cX8_des 322 = .ok (.getfield 20, 3) := by decide +kernel
theorem dX8_des_325 : decode cX8_des 325 = .ok (.iload 8, 2) := by decide +kernel
theorem dX8_des_327 : decode cX8_des 327 = .ok (.iaload, 1) := by decide +kernel
theorem dX8_des_328 : decode cX8_des 328 = .ok (.aload_n 0, 1) := by decide +kernel
theorem dX8_des_329 : decode cX8_des 329 = .ok (.getfield 35, 3) := by decide +kernel
theorem dX8_des_332 : decode cX8_des 332 = .ok (.aload_n 0, 1) := by decide +kernel
theorem dX8_des_333 : decode cX8_des 333 = .ok (.getfield 41, 3) := by decide +kernel
theorem dX8_des_336 : decode cX8_des 336 = .ok (.iload 8, 2) := by decide +kernel
theorem dX8_des_338 : decode cX8_des 338 = .ok (.iaload, 1) := by decide +kernel
theorem dX8_des_339 : decode cX8_des 339 = .ok (.iconst 1, 1) := by decide +kernel
theorem dX8_des_340 : decode cX8_des 340 = .ok (.isub, 1) := by decide +kernel
theorem dX8_des_341 : decode cX8_des 341 = .ok (.iaload, 1) := by decide +kernel
theorem dX8_des_342 : decode cX8_des 342 = .ok (.ixor, 1) := by decide +kernel
theorem dX8_des_343 : decode cX8_des 343 = .ok (.iastore, 1) := by decide +kernel
theorem dX8_des_344 : decode cX8_des 344 = .ok (.iinc 8 1, 3) := by decide +kernel
theorem dX8_des_347 : decode cX8_des 347 = .ok (.goto (-39), 3) := by decide +kernel
theorem dX8_des_350 : decode cX8_des 350 = .ok (.iconst 0, 1) := by decide +kernel
theorem dX8_des_351 : decode cX8_des 351 = .ok (.istore 8, 2) := by decide +kernel
theorem dX8_des_353 : decode cX8_des 353 = .ok (.iload 8, 2) := by decide +kernel
theorem dX8_des_355 : decode cX8_des 355 = .ok (.bipush 32, 2) := by decide +kernel
theorem dX8_des_357 : decode cX8_des 357 = .ok (.if_icmp .ge 43, 3) := by decide +kernel
theorem dX8_des_360 : decode cX8_des 360 = .ok (.aload_n 0, 1) := by decide +kernel
theorem dX8_des_361 : decode cX8_des 361 = .ok (.getfield 20, 3) := by decide +kernel
theorem dX8_des_364 : decode cX8_des 364 = .ok (.iload 8, 2) := by decide +kernel
theorem dX8_des_366 : decode cX8_des 366 = .ok (.aload_n 0, 1) := by decide +kernel
theorem dX8_des_367 : decode cX8_des 367 = .ok (.getfield 20, 3) := by decide +kernel
theorem dX8_des_370 : decode cX8_des 370 = .ok (.bipush 32, 2) := by decide +kernel
theorem dX8_des_372 : decode cX8_des 372 = .ok (.iload 8, 2) := by decide +kernel
theorem dX8_des_374 : decode cX8_des 374 = .ok (.iadd, 1) := by decide +kernel
theorem dX8_des_375 : decode cX8_des 375 = .ok (.iaload, 1) := by decide +kernel
theorem dX8_des_376 : decode cX8_des 376 = .ok (.iastore, 1) := by decide +kernel
theorem dX8_des_377 : decode cX8_des 377 = .ok (.aload_n 0, 1) := by decide +kernel
theorem dX8_des_378 : decode cX8_des 378 = .ok (.getfield 20, 3) := by decide +kernel
theorem dX8_des_381 : decode cX8_des 381 = .ok (.bipush 32, 2) := by decide +kernel
theorem dX8_des_383 : decode cX8_des 383 = .ok (.iload 8, 2) := by decide +kernel
theorem dX8_des_385 : decode cX8_des 385 = .ok (.iadd, 1) := by decide +kernel
theorem dX8_des_386 : decode cX8_des 386 = .ok (.aload_n 0, 1) := by decide +kernel
theorem dX8_des_387 : decode cX8_des 387 = .ok (.getfield 38, 3) := by decide +kernel
theorem dX8_des_390 : decode cX8_des 390 = .ok (.iload 8, 2) := by decide +kernel
theorem dX8_des_392 : decode cX8_des 392 = .ok (.iaload, 1) := by decide +kernel
theorem dX8_des_393 : decode cX8_des 393 = .ok (.iastore, 1) := by decide +kernel
theorem dX8_des_394 : decode cX8_des 394 = .ok (.iinc 8 1, 3) := by decide +kernel
theorem dX8_des_397 : decode cX8_des 397 = .ok (.goto (-44), 3) := by decide +kernel
theorem dX8_des_400 : decode cX8_des 400 = .ok (.iinc 6 1, 3) := by decide +kernel
theorem dX8_des_403 : decode cX8_des 403 = .ok (.goto (-336), 3) := by decide +kernel
theorem dX8_des_406 : decode cX8_des 406 = .ok (.iconst 0, 1) := by decide +kernel
theorem dX8_des_407 : decode cX8_des 407 = .ok (.istore 6, 2) := by decide +kernel
theorem dX8_des_409 : decode cX8_des 409 = .ok (.iload 6, 2) := by decide +kernel
theorem dX8_des_411 : decode cX8_des 411 = .ok (.bipush 8, 2) := by decide +kernel
theorem dX8_des_413 : decode cX8_des 413 = .ok (.if_icmp .ge 16, 3) := by decide +kernel
theorem dX8_des_416 : decode cX8_des 416 = .ok (.aload_n 1, 1) := by decide +kernel
theorem dX8_des_417 : decode cX8_des 417 = .ok (.iload_n 2, 1) := by decide +kernel
theorem dX8_des_418 : decode cX8_des 418 = .ok (.iload 6, 2) := by decide +kernel
theorem dX8_des_420 : decode cX8_des 420 = .ok (.iadd, 1) := by decide +kernel
theorem dX8_des_421 : decode cX8_des 421 = .ok (.iconst 0, 1) := by decide +kernel
theorem dX8_des_422 : decode cX8_des 422 = .ok (.bastore, 1) := by decide +kernel
theorem dX8_des_423 : decode cX8_des 423 = .ok (.iinc 6 1, 3) := by decide +kernel
theorem dX8_des_426 : decode cX8_des 426 = .ok (.goto (-17), 3) := by decide +kernel
theorem dX8_des_429 : decode cX8_des 429 = .ok (.iconst 0, 1) := by decide +kernel
theorem dX8_des_430 : decode cX8_des 430 = .ok (.istore 6, 2) := by decide +kernel
theorem dX8_des_432 : decode cX8_des 432 = .ok (.iload 6, 2) := by decide +kernel
theorem dX8_des_434 : decode cX8_des 434 = .ok (.bipush 64, 2) := by decide +kernel
theorem dX8_des_436 : decode cX8_des 436 = .ok (.if_icmp .ge 75, 3) := by decide +kernel
theorem dX8_des_439 : decode cX8_des 439 = .ok (.aload_n 0, 1) := by decide +kernel
theorem dX8_des_440 : decode cX8_des 440 = .ok (.getfield 20, 3) := by decide +kernel
theorem dX8_des_443 : decode cX8_des 443 = .ok (.iload 6, 2) := by decide +kernel
theorem dX8_des_445 : decode cX8_des 445 = .ok (.bipush 32, 2) := by decide +kernel
theorem dX8_des_447 : decode cX8_des 447 = .ok (.if_icmp .ge 11, 3) := by decide +kernel
theorem dX8_des_450 : decode cX8_des 450 = .ok (.bipush 32, 2) := by decide +kernel
theorem dX8_des_452 : decode cX8_des 452 = .ok (.iload 6, 2) := by decide +kernel
theorem dX8_des_454 : decode cX8_des 454 = .ok (.iadd, 1) := by decide +kernel
theorem dX8_des_455 : decode cX8_des 455 = .ok (.goto 8, 3) := by decide +kernel
theorem dX8_des_458 : decode cX8_des 458 = .ok (.iload 6, 2) := by decide +kernel
theorem dX8_des_460 : decode cX8_des 460 = .ok (.bipush 32, 2) := by decide +kernel
theorem dX8_des_462 : decode cX8_des 462 = .ok (.isub, 1) := by decide +kernel
theorem dX8_des_463 : decode cX8_des 463 = .ok (.iaload, 1) := by decide +kernel
theorem dX8_des_464 : decode cX8_des 464 = .ok (.istore 7, 2) := by decide +kernel
theorem dX8_des_466 : decode cX8_des 466 = .ok (.aload_n 1, 1) := by decide +kernel
theorem dX8_des_467 : decode cX8_des 467 = .ok (.iload_n 2, 1) := by decide +kernel
theorem dX8_des_468 : decode cX8_des 468 = .ok (.aload_n 0, 1) := by decide +kernel
theorem dX8_des_469 : decode cX8_des 469 = .ok (.getfield 23, 3) := by decide +kernel
theorem dX8_des_472 : decode cX8_des 472 = .ok (.iload 6, 2) := by decide +kernel
theorem dX8_des_474 : decode cX8_des 474 = .ok (.iaload, 1) := by decide +kernel
theorem dX8_des_475 : decode cX8_des 475 = .ok (.iconst 1, 1) := by decide +kernel
theorem dX8_des_476 : decode cX8_des 476 = .ok (.isub, 1) := by decide +kernel
theorem dX8_des_477 : decode cX8_des 477 = .ok (.bipush 8, 2) := by decide +kernel
theorem dX8_des_479 : decode cX8_des 479 = .ok (.idiv, 1) := by decide +kernel
theorem dX8_des_480 : decode cX8_des 480 = .ok (.iadd, 1) := by decide +kernel
theorem dX8_des_481 : decode cX8_des 481 = .ok (.dup2, 1) := by decide +kernel
theorem dX8_des_482 : decode cX8_des 482 = .ok (.baload, 1) := by decide +kernel
theorem dX8_des_483 : decode cX8_des 483 = .ok (.iload 7, 2) := by decide +kernel
theorem dX8_des_485 : decode cX8_des 485 = .ok (.bipush 7, 2) := by decide +kernel
theorem dX8_des_487 : decode cX8_des 487 = .ok (.aload_n 0, 1) := by decide +kernel
theorem dX8_des_488 : decode cX8_des 488 = .ok (.getfield 23, 3) := by decide +kernel
theorem dX8_des_491 : decode cX8_des 491 = .ok (.iload 6, 2) := by decide +kernel
theorem dX8_des_493 : decode cX8_des 493 = .ok (.iaload, 1) := by decide +kernel
theorem dX8_des_494 : decode cX8_des 494 = .ok (.iconst 1, 1) := by decide +kernel
theorem dX8_des_495 : decode cX8_des 495 = .ok (.isub, 1) := by decide +kernel
theorem dX8_des_496 : decode cX8_des 496 = .ok (.bipush 8, 2) := by decide +kernel
theorem dX8_des_498 : decode cX8_des 498 = .ok (.irem, 1) := by decide +kernel
theorem dX8_des_499 : decode cX8_des 499 = .ok (.isub, 1) := by decide +kernel
theorem dX8_des_500 : decode cX8_des 500 = .ok (.ishl, 1) := by decide +kernel
theorem dX8_des_501 : decode cX8_des 501 = .ok (.i2b, 1) := by decide +kernel
theorem dX8_des_502 : decode cX8_des 502 = .ok (.ior, 1) := by decide +kernel
theorem dX8_des_503 : decode cX8_des 503 = .ok (.i2b, 1) := by decide +kernel
theorem dX8_des_504 : decode cX8_des 504 = .ok (.bastore, 1) := by decide +kernel
theorem dX8_des_505 : decode cX8_des 505 = .ok (.iinc 6 1, 3) := by decide +kernel
theorem dX8_des_508 : decode cX8_des 508 = .ok (.goto (-76), 3) := by decide +kernel
theorem dX8_des_511 : decode cX8_des 511 = .ok (.return_, 1) := by decide +kernel
set_option maxRecDepth 20000 in
theorem ggX8_des3_X8_des : GoodIn wsX8_des3 wsX8_des := goodIn_r _ [5, 6, 7, 8, 9, 10, 11, 12, 13, 14, 15, 16, 17, 4, 18, 19, 20, 21, 22, 23, 24, 25, 26, 27, 28, 29, 30, 31, 32, 33, 34, 35, 36, 37, 38, 39, 40, 41, 42, 43, 44, 45, 46, 47, 48, 49, 50, 51, 52, 53, 54, 55, 56] rfl (by decide +kernel)
set_option maxRecDepth 20000 in
theorem gX8_des3_X8_des : GoodIn wsX8_des3 (wsV RX8 44 RX8 yX8_des wsX8_des) := goodIn_app (goodIn_of _ (by decide +kernel)) ggX8_des3_X8_des
theorem dX8_des3_0 : decode cX8_des3 0 = .ok (.aload_n 0, 1) := by decide +kernel
theorem dX8_des3_1 : decode cX8_des3 1 = .ok (.aload_n 1, 1) := by decide +kernel
theorem dX8_des3_2 : decode cX8_des3 2 = .ok (.iload_n 2, 1) := by decide +kernel
theorem dX8_des3_3 : decode cX8_des3 3 = .ok (.aload_n 3, 1) := by decide +kernel
theorem dX8_des3_4 : decode cX8_des3 4 = .ok (.iload 4, 2) := by decide +kernel
theorem dX8_des3_6 : decode cX8_des3 6 = .ok (.iload 5, 2) := by decide +kernel
theorem dX8_des3_8 : decode cX8_des3 8 = .ok (.invokevirtual 44, 3) := by decide +kernel
theorem dX8_des3_11 : decode cX8_des3 11 = .ok (.aload_n 0, 1) := by decide +kernel
theorem dX8_des3_12 : decode cX8_des3 12 = .ok (.aload_n 1, 1) := by decide +kernel
theorem dX8_des3_13 : decode cX8_des3 13 = .ok (.iload_n 2, 1) := by decide +kernel
theorem dX8_des3_14 : decode cX8_des3 14 = .ok (.aload_n 3, 1) := by decide +kernel
theorem dX8_des3_15 : decode cX8_des3 15 = .ok (.iload 4, 2) := by decide +kernel
theorem dX8_des3_17 : decode cX8_des3 17 = .ok (.bipush 8, 2) := by decide +kernel
theorem dX8_des3_19 : decode cX8_des3 19 = .ok (.iadd, 1) := by decide +kernel
theorem dX8_des3_20 : decode cX8_des3 20 = .ok (.iload 5, 2) := by decide +kernel
theorem dX8_des3_22 : decode cX8_des3 22 = .ok (.ifCond .ne 7, 3) := by decide +kernel
theorem dX8_des3_25 : decode cX8_des3 25 = .ok (.iconst 1, 1) := by decide +kernel
theorem dX8_des3_26 : decode cX8_des3 26 = .ok (.goto 4, 3) := by decide +kernel
theorem dX8_des3_29 : decode cX8_des3 29 = .ok (.iconst 0, 1) := by decide +kernel
theorem dX8_des3_30 : decode cX8_des3 30 = .ok (.invokevirtual 44, 3) := by decide +kernel
theorem dX8_des3_33 : decode cX8_des3 33 = .ok (.aload_n 0, 1) := by decide +kernel
theorem dX8_des3_34 : decode cX8_des3 34 = .ok (.aload_n 1, 1) := by decide +kernel
theorem dX8_des3_35 : decode cX8_des3 35 = .ok (.iload_n 2, 1) := by decide +kernel
theorem dX8_des3_36 : decode cX8_des3 36 = .ok (.aload_n 3, 1) := by decide +kernel
theorem dX8_des3_37 : decode cX8_des3 37 = .ok (.iload 4, 2) := by decide +kernel
theorem dX8_des3_39 : decode cX8_des3 39 = .ok (.iload 5, 2) := by decide +kernel
theorem dX8_des3_41 : decode cX8_des3 41 = .ok (.invokevirtual 44, 3) := by decide +kernel
theorem dX8_des3_44 : decode cX8_des3 44 = .ok (.return_, 1) := by decide +kernel
theorem dX8_twice_0 : decode cX8_twice 0 = .ok (.iload_n 0, 1) := by decide +kernel
theorem dX8_twice_1 : decode cX8_twice 1 = .ok (.iconst 1, 1) := by decide +kernel
theorem dX8_twice_2 : decode cX8_twice 2 = .ok (.ishl, 1) := by decide +kernel
theorem dX8_twice_3 : decode cX8_twice 3 = .ok (.iload_n 0, 1) := by decide +kernel
theorem dX8_twice_4 : decode cX8_twice 4 = .ok (.bipush 127, 2) := by decide +kernel
theorem dX8_twice_6 : decode cX8_twice 6 = .ok (.if_icmp .le 9, 3) := by decide +kernel
theorem dX8_twice_9 : decode cX8_twice 9 = .ok (.sipush 283, 3) := by decide +kernel
theorem dX8_twice_12 : decode cX8_twice 12 = .ok (.goto 4, 3) := by decide +kernel
theorem dX8_twice_15 : decode cX8_twice 15 = .ok (.iconst 0, 1) := by decide +kernel
theorem dX8_twice_16 : decode cX8_twice 16 = .ok (.ixor, 1) := by decide +kernel
theorem dX8_twice_17 : decode cX8_twice 17 = .ok (.sipush 255, 3) := by decide +kernel
theorem dX8_twice_20 : decode cX8_twice 20 = .ok (.iand, 1) := by decide +kernel
theorem dX8_twice_21 : decode cX8_twice 21 = .ok (.ireturn, 1) := by decide +kernel
set_option maxRecDepth 20000 in
theorem ggX8_times_X8_twice : GoodIn wsX8_times wsX8_twice := goodIn_r _ [4] rfl (by decide +kernel)
set_option maxRecDepth 20000 in
theorem gX8_times_X8_twice : GoodIn wsX8_times (va_wsS RX8 48 yX8_twice wsX8_twice) := goodIn_app (goodIn_of _ (by decide +kernel)) ggX8_times_X8_twice
theorem dX8_times_0 : decode cX8_times 0 = .ok (.iconst 0, 1) := by decide +kernel
theorem dX8_times_1 : decode cX8_times 1 = .ok (.istore_n 2, 1) := by decide +kernel
theorem dX8_times_2 : decode cX8_times 2 = .ok (.iload_n 0, 1) := by decide +kernel
theorem dX8_times_3 : decode cX8_times 3 = .ok (.istore_n 3, 1) := by decide +kernel
theorem dX8_times_4 : decode cX8_times 4 = .ok (.iconst 0, 1) := by decide +kernel
theorem dX8_times_5 : decode cX8_times 5 = .ok (.istore 4, 2) := by decide +kernel
theorem dX8_times_7 : decode cX8_times 7 = .ok (.iload 4, 2) := by decide +kernel
theorem dX8_times_9 : decode cX8_times 9 = .ok (.bipush 8, 2) := by decide +kernel
theorem dX8_times_11 : decode cX8_times 11 = .ok (.if_icmp .ge 32, 3) := by decide +kernel
theorem dX8_times_14 : decode cX8_times 14 = .ok (.iload_n 2, 1) := by decide +kernel
theorem dX8_times_15 : decode cX8_times 15 = .ok (.iload_n 1, 1) := by decide +kernel
theorem dX8_times_16 : decode cX8_times 16 = .ok (.iload 4, 2) := by decide +kernel
theorem dX8_times_18 : decode cX8_times 18 = .ok (.ishr, 1) := by decide +kernel
theorem dX8_times_19 : decode cX8_times 19 = .ok (.iconst 1, 1) := by decide +kernel
theorem dX8_times_20 : decode cX8_times 20 = .ok (.iand, 1) := by decide +kernel
theorem dX8_times_21 : decode cX8_times 21 = .ok (.iconst 1, 1) := by decide +kernel
theorem dX8_times_22 : decode cX8_times 22 = .ok (.if_icmp .ne 7, 3) := by decide +kernel
theorem dX8_times_25 : decode cX8_times 25 = .ok (.iload_n 3, 1) := by decide +kernel
theorem dX8_times_26 : decode cX8_times 26 = .ok (.goto 4, 3) := by decide +kernel
theorem dX8_times_29 : decode cX8_times 29 = .ok (.iconst 0, 1) := by decide +kernel
theorem dX8_times_30 : decode cX8_times 30 = .ok (.ixor, 1) := by decide +kernel
theorem dX8_times_31 : decode cX8_times 31 = .ok (.istore_n 2, 1) := by decide +kernel
theorem dX8_times_32 : decode cX8_times 32 = .ok (.iload_n 3, 1) := by decide +kernel
theorem dX8_times_33 : decode cX8_times 33 = .ok (.invokestatic 48, 3) := by decide +kernel
theorem dX8_times_36 : decode cX8_times 36 = .ok (.istore_n 3, 1) := by decide +kernel
theorem dX8_times_37 : decode cX8_times 37 = .ok (.iinc 4 1, 3) := by decide +kernel
theorem dX8_times_40 : decode cX8_times 40 = .ok (.goto (-33), 3) := by decide +kernel
theorem dX8_times_43 : decode cX8_times 43 = .ok (.iload_n 2, 1) := by decide +kernel
theorem dX8_times_44 : decode cX8_times 44 = .ok (.ireturn, 1) := by decide +kernel
set_option maxRecDepth 20000 in
theorem ggX8_makeBoxes_X8_times : GoodIn wsX8_makeBoxes wsX8_times := goodIn_r _ [6, 7, 8, 5, 9] rfl (by decide +kernel)
set_option maxRecDepth 20000 in
theorem gX8_makeBoxes_X8_times : GoodIn wsX8_makeBoxes (va_wsS RX8 52 yX8_times wsX8_times) := goodIn_app (goodIn_of _ (by decide +kernel)) ggX8_makeBoxes_X8_times
theorem dX8_makeBoxes_0 : decode cX8_makeBoxes 0 = .ok (.iconst 0, 1) := by decide +kernel
theorem dX8_makeBoxes_1 : decode cX8_makeBoxes 1 = .ok (.istore_n 1, 1) := by decide +kernel
theorem dX8_makeBoxes_2 : decode cX8_makeBoxes 2 = .ok (.iload_n 1, 1) := by decide +kernel
theorem dX8_makeBoxes_3 : decode cX8_makeBoxes 3 = .ok (.sipush 256, 3) := by decide +kernel
theorem dX8_makeBoxes_6 : decode cX8_makeBoxes 6 = .ok (.if_icmp .ge 133, 3) := by decide +kernel
theorem dX8_makeBoxes_9 : decode cX8_makeBoxes 9 = .ok (.iconst 0, 1) := by decide +kernel
theorem dX8_makeBoxes_10 : decode cX8_makeBoxes 10 = .ok (.istore_n 2, 1) := by decide +kernel
theorem dX8_makeBoxes_11 : decode cX8_makeBoxes 11 = .ok (.iconst 1, 1) := by decide +kernel
theorem dX8_makeBoxes_12 : decode cX8_makeBoxes 12 = .ok (.istore_n 3, 1) := by decide +kernel
theorem dX8_makeBoxes_13 : decode cX8_makeBoxes 13 = .ok (.iload_n 3, 1) := by decide +kernel
theorem dX8_makeBoxes_14 : decode cX8_makeBoxes 14 = .ok (.sipush 256, 3) := by decide +kernel
theorem dX8_makeBoxes_17 : decode cX8_makeBoxes 17 = .ok (.if_icmp .ge 20, 3) := by decide +kernel
theorem dX8_makeBoxes_20 : decode cX8_makeBoxes 20 = .ok (.iload_n 1, 1) := by decide +kernel
theorem dX8_makeBoxes_21 : decode cX8_makeBoxes 21 = .ok (.iload_n 3, 1) := by decide +kernel
theorem dX8_makeBoxes_22 : decode cX8_makeBoxes 22 = .ok (.invokestatic 52, 3) := by decide +kernel
theorem dX8_makeBoxes_25 : decode cX8_makeBoxes 25 = .ok (.iconst 1, 1) := by decide +kernel
theorem dX8_makeBoxes_26 : decode cX8_makeBoxes 26 = .ok (.if_icmp .ne 5, 3) := by decide +kernel
theorem dX8_makeBoxes_29 : decode cX8_makeBoxes 29 = .ok (.iload_n 3, 1) := by decide +kernel
theorem dX8_makeBoxes_30 : decode cX8_makeBoxes 30 = .ok (.istore_n 2, 1) := by decide +kernel
theorem dX8_makeBoxes_31 : decode cX8_makeBoxes 31 = .ok (.iinc 3 1, 3) := by decide +kernel
theorem dX8_makeBoxes_34 : decode cX8_makeBoxes 34 = .ok (.goto (-21), 3) := by decide +kernel
theorem dX8_makeBoxes_37 : decode cX8_makeBoxes 37 = .ok (.iconst 0, 1) := by decide +kernel
theorem dX8_makeBoxes_38 : decode cX8_makeBoxes 38 = .ok (.istore_n 3, 1) := by decide +kernel
theorem dX8_makeBoxes_39 : decode cX8_makeBoxes 39 = .ok (.iconst 0, 1) := by decide +kernel
theorem dX8_makeBoxes_40 : decode cX8_makeBoxes 40 = .ok (.istore 4, 2) := by decide +kernel
theorem dX8_makeBoxes_42 : decode cX8_makeBoxes 42 = .ok (.iload 4, 2) := by decide +kernel
theorem dX8_makeBoxes_44 : decode cX8_makeBoxes 44 = .ok (.bipush 8, 2) := by decide +kernel
theorem dX8_makeBoxes_46 : decode cX8_makeBoxes 46 = .ok (.if_icmp .ge 73, 3) := by decide +kernel
theorem dX8_makeBoxes_49 : decode cX8_makeBoxes 49 = .ok (.iload_n 2, 1) := by decide +kernel
theorem dX8_makeBoxes_50 : decode cX8_makeBoxes 50 = .ok (.iload 4, 2) := by decide +kernel
theorem dX8_makeBoxes_52 : decode cX8_makeBoxes 52 = .ok (.ishr, 1) := by decide +kernel
theorem dX8_makeBoxes_53 : decode cX8_makeBoxes 53 = .ok (.iload_n 2, 1) := by decide +kernel
theorem dX8_makeBoxes_54 : decode cX8_makeBoxes 54 = .ok (.iload 4, 2) := by decide +kernel
theorem dX8_makeBoxes_56 : decode cX8_makeBoxes 56 = .ok (.iconst 4, 1) := by decide +kernel
theorem dX8_makeBoxes_57 : decode cX8_makeBoxes 57 = .ok (.iadd, 1) := by decide +kernel
theorem dX8_makeBoxes_58 : decode cX8_makeBoxes 58 = .ok (.bipush 8, 2) := by decide +kernel
theorem dX8_makeBoxes_60 : decode cX8_makeBoxes 60 = .ok (.irem, 1) := by decide +kernel
theorem dX8_makeBoxes_61 : decode cX8_makeBoxes 61 = .ok (.ishr, 1) := by decide +kernel
theorem dX8_makeBoxes_62 : decode cX8_makeBoxes 62 = .ok (.ixor, 1) := by decide +kernel
theorem dX8_makeBoxes_63 : decode cX8_makeBoxes 63 = .ok (.iload_n 2, 1) := by decide +kernel
theorem dX8_makeBoxes_64 : decode cX8_makeBoxes 64 = .ok (.iload 4, 2) := by decide +kernel
theorem dX8_makeBoxes_66 : decode cX8_makeBoxes 66 = .ok (.iconst 5, 1) := by decide +kernel
theorem dX8_makeBoxes_67 : decode cX8_makeBoxes 67 = .ok (.iadd, 1) := by decide +kernel
theorem dX8_makeBoxes_68 : decode cX8_makeBoxes 68 = .ok (.bipush 8, 2) := by decide +kernel
theorem dX8_makeBoxes_70 : decode cX8_makeBoxes 70 = .ok (.irem, 1) := by decide +kernel
theorem dX8_makeBoxes_71 : decode cX8_makeBoxes 71 = .ok (.ishr, 1) := by decide +kernel
theorem dX8_makeBoxes_72 : decode cX8_makeBoxes 72 = .ok (.ixor, 1) := by decide +kernel
theorem dX8_makeBoxes_73 : decode cX8_makeBoxes 73 = .ok (.iload_n 2, 1) := by decide +kernel
theorem dX8_makeBoxes_74 : decode cX8_makeBoxes 74 = .ok (.iload 4, 2) := by decide +kernel
theorem dX8_makeBoxes_76 : decode cX8_makeBoxes 76 = .ok (.bipush 6, 2) := by decide +kernel
theorem dX8_makeBoxes_78 : decode cX8_makeBoxes 78 = .ok (.iadd, 1) := by decide +kernel
theorem dX8_makeBoxes_79 : decode cX8_makeBoxes 79 = .ok (.bipush 8, 2) := by decide +kernel
theorem dX8_makeBoxes_81 : decode cX8_makeBoxes 81 = .ok (.irem, 1) := by decide +kernel
theorem dX8_makeBoxes_82 : decode cX8_makeBoxes 82 = .ok (.ishr, 1) := by decide +kernel
theorem dX8_makeBoxes_83 : decode cX8_makeBoxes 83 = .ok (.ixor, 1) := by decide +kernel
theorem dX8_makeBoxes_84 : decode cX8_makeBoxes 84 = .ok (.iload_n 2, 1) := by decide +kernel
theorem dX8_makeBoxes_85 : decode cX8_makeBoxes 85 = .ok (.iload 4, 2) := by decide +kernel
theorem dX8_makeBoxes_87 : decode cX8_makeBoxes 87 = .ok (.bipush 7, 2) := by decide +kernel
theorem dX8_makeBoxes_89 : decode cX8_makeBoxes 89 = .ok (.iadd, 1) := by decide +kernel
theorem dX8_makeBoxes_90 : decode cX8_makeBoxes 90 = .ok (.bipush 8, 2) := by decide +kernel
theorem dX8_makeBoxes_92 : decode cX8_makeBoxes 92 = .ok (.irem, 1) := by decide +kernel
theorem dX8_makeBoxes_93 : decode cX8_makeBoxes 93 = .ok (.ishr, 1) := by decide +kernel
theorem dX8_makeBoxes_94 : decode cX8_makeBoxes 94 = .ok (.ixor, 1) := by decide +kernel
theorem dX8_makeBoxes_95 : decode cX8_makeBoxes 95 = .ok (.bipush 99, 2) := by decide +kernel
theorem dX8_makeBoxes_97 : decode cX8_makeBoxes 97 = .ok (.iload 4, 2) := by decide +kernel
theorem dX8_makeBoxes_99 : decode cX8_makeBoxes 99 = .ok (.ishr, 1) := by decide +kernel
theorem dX8_makeBoxes_100 : decode cX8_makeBoxes 100 = .ok (.ixor, 1) := by decide +kernel
theorem dX8_makeBoxes_101 : decode cX8_makeBoxes 101 = .ok (.istore 5, 2) := by decide +kernel
theorem dX8_makeBoxes_103 : decode cX8_makeBoxes 103 = .ok (.iload_n 3, 1) := by decide +kernel
theorem dX8_makeBoxes_104 : decode cX8_makeBoxes 104 = .ok (.iload 5, 2) := by decide +kernel
theorem dX8_makeBoxes_106 : decode cX8_makeBoxes 106 = .ok (.iconst 1, 1) := by decide +kernel
theorem dX8_makeBoxes_107 : decode cX8_makeBoxes 107 = .ok (.iand, 1) := by decide +kernel
theorem dX8_makeBoxes_108 : decode cX8_makeBoxes 108 = .ok (.iload 4, 2) := by decide +kernel
theorem dX8_makeBoxes_110 : decode cX8_makeBoxes 110 = .ok (.ishl, 1) := by decide +kernel
theorem dX8_makeBoxes_111 : decode cX8_makeBoxes 111 = .ok (.ior, 1) := by decide +kernel
theorem dX8_makeBoxes_112 : decode cX8_makeBoxes 112 = .ok (.istore_n 3, 1) := by decide +kernel
theorem dX8_makeBoxes_113 : decode cX8_makeBoxes 113 = .ok (.iinc 4 1, 3) := by decide +kernel
theorem dX8_makeBoxes_116 : decode cX8_makeBoxes 116 = .ok (.goto (-74), 3) := by decide +kernel
theorem dX8_makeBoxes_119 : decode cX8_makeBoxes 119 = .ok (.aload_n 0, 1) := by decide +kernel
theorem dX8_makeBoxes_120 : decode cX8_makeBoxes 120 = .ok (.getfield 56, 3) := by decide +kernel
theorem dX8_makeBoxes_123 : decode cX8_makeBoxes 123 = .ok (.iload_n 1, 1) := by decide +kernel
theorem dX8_makeBoxes_124 : decode cX8_makeBoxes 124 = .ok (.iload_n 3, 1) := by decide +kernel
theorem dX8_makeBoxes_125 : decode cX8_makeBoxes 125 = .ok (.iastore, 1) := by decide +kernel
theorem dX8_makeBoxes_126 : decode cX8_makeBoxes 126 = .ok (.aload_n 0, 1) := by decide +kernel
theorem dX8_makeBoxes_127 : decode cX8_makeBoxes 127 = .ok (.getfield 59, 3) := by decide +kernel
theorem dX8_makeBoxes_130 : decode cX8_makeBoxes 130 = .ok (.iload_n 3, 1) := by decide +kernel
theorem dX8_makeBoxes_131 : decode cX8_makeBoxes 131 = .ok (.iload_n 1, 1) := by decide +kernel
theorem dX8_makeBoxes_132 : decode cX8_makeBoxes 132 = .ok (.iastore, 1) := by decide +kernel
theorem dX8_makeBoxes_133 : decode cX8_makeBoxes 133 = .ok (.iinc 1 1, 3) := by decide +kernel
theorem dX8_makeBoxes_136 : decode cX8_makeBoxes 136 = .ok (.goto (-134), 3) := by decide +kernel
theorem dX8_makeBoxes_139 : decode cX8_makeBoxes 139 = .ok (.return_, 1) := by decide +kernel
set_option maxRecDepth 20000 in
theorem ggX8_aesKey_X8_twice : GoodIn wsX8_aesKey wsX8_twice := goodIn_r _ [7] rfl (by decide +kernel)
set_option maxRecDepth 20000 in
theorem gX8_aesKey_X8_twice : GoodIn wsX8_aesKey (va_wsS RX8 48 yX8_twice wsX8_twice) := goodIn_app (goodIn_of _ (by decide +kernel)) ggX8_aesKey_X8_twice
theorem dX8_aesKey_0 : decode cX8_aesKey 0 = .ok (.iload_n 3, 1) := by decide +kernel
theorem dX8_aesKey_1 : decode cX8_aesKey 1 = .ok (.iconst 4, 1) := by decide +kernel
theorem dX8_aesKey_2 : decode cX8_aesKey 2 = .ok (.idiv, 1) := by decide +kernel
theorem dX8_aesKey_3 : decode cX8_aesKey 3 = .ok (.istore 4, 2) := by decide +kernel
theorem dX8_aesKey_5 : decode cX8_aesKey 5 = .ok (.aload_n 0, 1) := by decide +kernel
theorem dX8_aesKey_6 : decode cX8_aesKey 6 = .ok (.iload 4, 2) := by decide +kernel
theorem dX8_aesKey_8 : decode cX8_aesKey 8 = .ok (.bipush 6, 2) := by decide +kernel
theorem dX8_aesKey_10 : decode cX8_aesKey 10 = .ok (.iadd, 1) := by decide +kernel
theorem dX8_aesKey_11 : decode cX8_aesKey 11 = .ok (.putfield 62, 3) := by decide +kernel
theorem dX8_aesKey_14 : decode cX8_aesKey 14 = .ok (.iconst 1, 1) := by decide +kernel
theorem dX8_aesKey_15 : decode cX8_aesKey 15 = .ok (.istore 5, 2) := by decide +kernel
theorem dX8_aesKey_17 : decode cX8_aesKey 17 = .ok (.iconst 0, 1) := by decide +kernel
theorem dX8_aesKey_18 : decode cX8_aesKey 18 = .ok (.istore 6, 2) := by decide +kernel
theorem dX8_aesKey_20 : decode cX8_aesKey 20 = .ok (.iload 6, 2) := by decide +kernel
theorem dX8_aesKey_22 : decode cX8_aesKey 22 = .ok (.iload_n 3, 1) := by decide +kernel
theorem dX8_aesKey_23 : decode cX8_aesKey 23 = .ok (.if_icmp .ge 22, 3) := by decide +kernel
theorem dX8_aesKey_26 : decode cX8_aesKey 26 = .ok (.aload_n 0, 1) := by decide +kernel
theorem dX8_aesKey_27 : decode cX8_aesKey 27 = .ok (.getfield 66, 3) := by decide +kernel
theorem dX8_aesKey_30 : decode cX8_aesKey 30 = .ok (.iload 6, 2) := by decide +kernel
theorem dX8_aesKey_32 : decode cX8_aesKey 32 = .ok (.aload_n 1, 1) := by decide +kernel
theorem dX8_aesKey_33 : decode cX8_aesKey 33 = .ok (.iload_n 2, 1) := by decide +kernel
theorem dX8_aesKey_34 : decode cX8_aesKey 34 = .ok (.iload 6, 2) := by decide +kernel
theorem dX8_aesKey_36 : decode cX8_aesKey 36 = .ok (.iadd, 1) := by decide +kernel
theorem dX8_aesKey_37 : decode cX8_aesKey 37 = .ok (.baload, 1) := by decide +kernel
theorem dX8_aesKey_38 : decode cX8_aesKey 38 = .ok (.bastore, 1) := by decide +kernel
theorem dX8_aesKey_39 : decode cX8_aesKey 39 = .ok (.iinc 6 1, 3) := by decide +kernel
theorem dX8_aesKey_42 : decode cX8_aesKey 42 = .ok (.goto (-22), 3) := by decide +kernel
theorem dX8_aesKey_45 : decode cX8_aesKey 45 = .ok (.iload 4, 2) := by decide +kernel
theorem dX8_aesKey_47 : decode cX8_aesKey 47 = .ok (.istore 6, 2) := by decide +kernel
theorem dX8_aesKey_49 : decode cX8_aesKey 49 = .ok (.iload 6, 2) := by decide +kernel
theorem dX8_aesKey_51 : decode cX8_aesKey 51 = .ok (.iconst 4, 1) := by decide +kernel
theorem dX8_aesKey_52 : decode cX8_aesKey 52 = .ok (.aload_n 0, 1) := by decide +kernel
theorem dX8_aesKey_53 : decode cX8_aesKey 53 = .ok (.getfield 62, 3) := by decide +kernel
theorem dX8_aesKey_56 : decode cX8_aesKey 56 = .ok (.iconst 1, 1) := by decide +kernel
theorem dX8_aesKey_57 : decode cX8_aesKey 57 = .ok (.iadd, 1) := by decide +kernel
theorem dX8_aesKey_58 : decode cX8_aesKey 58 = .ok (.imul, 1) := by decide +kernel
theorem dX8_aesKey_59 : decode cX8_aesKey 59 = .ok (.if_icmp .ge 182, 3) := by decide +kernel
theorem dX8_aesKey_62 : decode cX8_aesKey 62 = .ok (.iconst 0, 1) := by decide +kernel
theorem dX8_aesKey_63 : decode cX8_aesKey 63 = .ok (.istore 7, 2) := by decide +kernel
theorem dX8_aesKey_65 : decode cX8_aesKey 65 = .ok (.iload 7, 2) := by decide +kernel
theorem dX8_aesKey_67 : decode cX8_aesKey 67 = .ok (.iconst 4, 1) := by decide +kernel
theorem dX8_aesKey_68 : decode cX8_aesKey 68 = .ok (.if_icmp .ge 152, 3) := by decide +kernel
theorem dX8_aesKey_71 : decode cX8_aesKey 71 = .ok (.iload 6, 2) := by decide +kernel
theorem dX8_aesKey_73 : decode cX8_aesKey 73 = .ok (.iload 4, 2) := by decide +kernel
theorem dX8_aesKey_75 : decode cX8_aesKey 75 = .ok (.irem, 1) := by decide +kernel
theorem dX8_aesKey_76 : decode cX8_aesKey 76 = .ok (.ifCond .ne 47, 3) := by decide +kernel
theorem dX8_aesKey_79 : decode cX8_aesKey 79 = .ok (.aload_n 0, 1) := by decide +kernel
theorem dX8_aesKey_80 : decode cX8_aesKey 80 = .ok (.getfield 56, 3) := by decide +kernel
theorem dX8_aesKey_83 : decode cX8_aesKey 83 = .ok (.aload_n 0, 1) := by decide +kernel
theorem dX8_aesKey_84 : decode cX8_aesKey 84 = .ok (.getfield 66, 3) := by decide +kernel
theorem dX8_aesKey_87 : decode cX8_aesKey 87 = .ok (.iconst 4, 1) := by decide +kernel
theorem dX8_aesKey_88 : decode cX8_aesKey 88 = .ok (.iload 6, 2) := by decide +kernel
theorem dX8_aesKey_90 : decode cX8_aesKey 90 = .ok (.iconst 1, 1) := by decide +kernel
theorem dX8_aesKey_91 : decode cX8_aesKey 91 = .ok (.isub, 1) := by decide +kernel
theorem dX8_aesKey_92 : decode cX8_aesKey 92 = .ok (.imul, 1) := by decide +kernel
theorem dX8_aesKey_93 : decode cX8_aesKey 93 = .ok (.iload 7, 2) := by decide +kernel
theorem dX8_aesKey_95 : decode cX8_aesKey 95 = .ok (.iconst 1, 1) := by decide +kernel
theorem dX8_aesKey_96 : decode cX8_aesKey 96 = .ok (.iadd, 1) := by decide +kernel
theorem dX8_aesKey_97 : decode cX8_aesKey 97 = .ok (.iconst 4, 1) := by decide +kernel
theorem dX8_aesKey_98 : decode cX8_aesKey 98 = .ok (.irem, 1) := by decide +kernel
theorem dX8_aesKey_99 : decode cX8_aesKey 99 = .ok (.iadd, 1) := by decide +kernel
theorem dX8_aesKey_100 : decode cX8_aesKey 100 = .ok (.baload, 1) := by decide +kernel
theorem dX8_aesKey_101 : decode cX8_aesKey 101 = .ok (.sipush 255, 3) := by decide +kernel
theorem dX8_aesKey_104 : decode cX8_aesKey 104 = .ok (.iand, 1) := by decide +kernel
theorem dX8_aesKey_105 : decode cX8_aesKey 105 = .ok (.iaload, 1) := by decide +kernel
theorem dX8_aesKey_106 : decode cX8_aesKey 106 = .ok (.iload 7, 2) := by decide +kernel
theorem dX8_aesKey_108 : decode cX8_aesKey 108 = .ok (.ifCond .ne 8, 3) := by decide +kernel
theorem dX8_aesKey_111 : decode cX8_aesKey 111 = .ok (.iload 5, 2) := by decide +kernel
theorem dX8_aesKey_113 : decode cX8_aesKey 113 = .ok (.goto 4, 3) := by decide +kernel
theorem dX8_aesKey_116 : decode cX8_aesKey 116 = .ok (.iconst 0, 1) := by decide +kernel
theorem dX8_aesKey_117 : decode cX8_aesKey 117 = .ok (.ixor, 1) := by decide +kernel
theorem dX8_aesKey_118 : decode cX8_aesKey 118 = .ok (.istore 8, 2) := by decide +kernel
theorem dX8_aesKey_120 : decode cX8_aesKey 120 = .ok (.goto 63, 3) := by decide +kernel
theorem dX8_aesKey_123 : decode cX8_aesKey 123 = .ok (.iload 4, 2) := by decide +kernel
theorem dX8_aesKey_125 : decode cX8_aesKey 125 = .ok (.bipush 8, 2) := by decide +kernel
theorem dX8_aesKey_127 : decode cX8_aesKey 127 = .ok (.if_icmp .ne 40, 3) := by decide +kernel
theorem dX8_aesKey_130 : decode cX8_aesKey 130 = .ok (.iload 6, 2) := by decide +kernel
theorem dX8_aesKey_132 : decode cX8_aesKey 132 = .ok (.bipush 8, 2) := by decide +kernel
theorem dX8_aesKey_134 : decode cX8_aesKey 134 = .ok (.irem, 1) := by decide +kernel
theorem dX8_aesKey_135 : decode cX8_aesKey 135 = .ok (.iconst 4, 1) := by decide +kernel
theorem dX8_aesKey_136 : decode cX8_aesKey 136 = .ok (.if_icmp .ne 31, 3) := by decide +kernel
theorem dX8_aesKey_139 : decode cX8_aesKey 139 = .ok (.aload_n 0, 1) := by decide +kernel
theorem dX8_aesKey_140 : decode cX8_aesKey 140 = .ok (.getfield 56, 3) := by decide +kernel
theorem dX8_aesKey_143 : decode cX8_aesKey 143 = .ok (.aload_n 0, 1) := by decide +kernel
theorem dX8_aesKey_144 : decode cX8_aesKey 144 = .ok (.getfield 66, 3) := by decide +kernel
theorem dX8_aesKey_147 : decode cX8_aesKey 147 = .ok (.iconst 4, 1) := by decide +kernel
theorem dX8_aesKey_148 : decode cX8_aesKey 148 = .ok (.iload 6, 2) := by decide +kernel
theorem dX8_aesKey_150 : decode cX8_aesKey 150 = .ok (.iconst 1, 1) := by decide +kernel
theorem dX8_aesKey_151 : decode cX8_aesKey 151 = .ok (.isub, 1) := by decide +kernel
