theorem dX8_aesKey_152 : decode cX8_aesKey 152 = .ok (.imul, 1) := by decide +kernel
theorem dX8_aesKey_153 : decode cX8_aesKey 153 = .ok (.iload 7, 2) := by decide +kernel
theorem dX8_aesKey_155 : decode cX8_aesKey 155 = .ok (.iadd, 1) := by decide +kernel
theorem dX8_aesKey_156 : decode cX8_aesKey 156 = .ok (.baload, 1) := by decide +kernel
theorem dX8_aesKey_157 : decode cX8_aesKey 157 = .ok (.sipush 255, 3) := by decide +kernel
theorem dX8_aesKey_160 : decode cX8_aesKey 160 = .ok (.iand, 1) := by decide +kernel
theorem dX8_aesKey_161 : decode cX8_aesKey 161 = .ok (.iaload, 1) := by decide +kernel
theorem dX8_aesKey_162 : decode cX8_aesKey 162 = .ok (.istore 8, 2) := by decide +kernel
theorem dX8_aesKey_164 : decode cX8_aesKey 164 = .ok (.goto 19, 3) := by decide +kernel
theorem dX8_aesKey_167 : decode cX8_aesKey 167 = .ok (.aload_n 0, 1) := by decide +kernel
theorem dX8_aesKey_168 : decode cX8_aesKey 168 = .ok (.getfield 66, 3) := by decide +kernel
theorem dX8_aesKey_171 : decode cX8_aesKey 171 = .ok (.iconst 4, 1) := by decide +kernel
theorem dX8_aesKey_172 : decode cX8_aesKey 172 = .ok (.iload 6, 2) := by decide +kernel
theorem dX8_aesKey_174 : decode cX8_aesKey 174 = .ok (.iconst 1, 1) := by decide +kernel
theorem dX8_aesKey_175 : decode cX8_aesKey 175 = .ok (.isub, 1) := by decide +kernel
theorem dX8_aesKey_176 : decode cX8_aesKey 176 = .ok (.imul, 1) := by decide +kernel
theorem dX8_aesKey_177 : decode cX8_aesKey 177 = .ok (.iload 7, 2) := by decide +kernel
theorem dX8_aesKey_179 : decode cX8_aesKey 179 = .ok (.iadd, 1) := by decide +kernel
theorem dX8_aesKey_180 : decode cX8_aesKey 180 = .ok (.baload, 1) := by decide +kernel
theorem dX8_aesKey_181 : decode cX8_aesKey 181 = .ok (.istore 8, 2) := by decide +kernel
theorem dX8_aesKey_183 : decode cX8_aesKey 183 = .ok (.aload_n 0, 1) := by decide +kernel
theorem dX8_aesKey_184 : decode cX8_aesKey 184 = .ok (.getfield 66, 3) := by decide +kernel
theorem dX8_aesKey_187 : decode cX8_aesKey 187 = .ok (.iconst 4, 1) := by decide +kernel
theorem dX8_aesKey_188 : decode cX8_aesKey 188 = .ok (.iload 6, 2) := by decide +kernel
theorem dX8_aesKey_190 : decode cX8_aesKey 190 = .ok (.imul, 1) := by decide +kernel
theorem dX8_aesKey_191 : decode cX8_aesKey 191 = .ok (.iload 7, 2) := by decide +kernel
theorem dX8_aesKey_193 : decode cX8_aesKey 193 = .ok (.iadd, 1) := by decide +kernel
theorem dX8_aesKey_194 : decode cX8_aesKey 194 = .ok (.aload_n 0, 1) := by decide +kernel
theorem dX8_aesKey_195 : decode cX8_aesKey 195 = .ok (.getfield 66, 3) := by decide +kernel
theorem dX8_aesKey_198 : decode cX8_aesKey 198 = .ok (.iconst 4, 1) := by decide +kernel
theorem dX8_aesKey_199 : decode cX8_aesKey 199 = .ok (.iload 6, 2) := by decide +kernel
theorem dX8_aesKey_201 : decode cX8_aesKey 201 = .ok (.iload 4, 2) := by decide +kernel
theorem dX8_aesKey_203 : decode cX8_aesKey 203 = .ok (.isub, 1) := by decide +kernel
theorem dX8_aesKey_204 : decode cX8_aesKey 204 = .ok (.imul, 1) := by decide +kernel
theorem dX8_aesKey_205 : decode cX8_aesKey 205 = .ok (.iload 7, 2) := by decide +kernel
theorem dX8_aesKey_207 : decode cX8_aesKey 207 = .ok (.iadd, 1) := by decide +kernel
theorem dX8_aesKey_208 : decode cX8_aesKey 208 = .ok (.baload, 1) := by decide +kernel
theorem dX8_aesKey_209 : decode cX8_aesKey 209 = .ok (.iload 8, 2) := by decide +kernel
theorem dX8_aesKey_211 : decode cX8_aesKey 211 = .ok (.ixor, 1) := by decide +kernel
theorem dX8_aesKey_212 : decode cX8_aesKey 212 = .ok (.i2b, 1) := by decide +kernel
theorem dX8_aesKey_213 : decode cX8_aesKey 213 = .ok (.bastore, 1) := by decide +kernel
theorem dX8_aesKey_214 : decode cX8_aesKey 214 = .ok (.iinc 7 1, 3) := by decide +kernel
theorem dX8_aesKey_217 : decode cX8_aesKey 217 = .ok (.goto (-152), 3) := by decide +kernel
theorem dX8_aesKey_220 : decode cX8_aesKey 220 = .ok (.iload 6, 2) := by decide +kernel
theorem dX8_aesKey_222 : decode cX8_aesKey 222 = .ok (.iload 4, 2) := by decide +kernel
theorem dX8_aesKey_224 : decode cX8_aesKey 224 = .ok (.irem, 1) := by decide +kernel
theorem dX8_aesKey_225 : decode cX8_aesKey 225 = .ok (.ifCond .ne 10, 3) := by decide +kernel
theorem dX8_aesKey_228 : decode cX8_aesKey 228 = .ok (.iload 5, 2) := by decide +kernel
theorem dX8_aesKey_230 : decode cX8_aesKey 230 = .ok (.invokestatic 48, 3) := by decide +kernel
theorem dX8_aesKey_233 : decode cX8_aesKey 233 = .ok (.istore 5, 2) := by decide +kernel
theorem dX8_aesKey_235 : decode cX8_aesKey 235 = .ok (.iinc 6 1, 3) := by decide +kernel
theorem dX8_aesKey_238 : decode cX8_aesKey 238 = .ok (.goto (-189), 3) := by decide +kernel
theorem dX8_aesKey_241 : decode cX8_aesKey 241 = .ok (.return_, 1) := by decide +kernel
theorem dX8_addKey_0 : decode cX8_addKey 0 = .ok (.iconst 0, 1) := by decide +kernel
theorem dX8_addKey_1 : decode cX8_addKey 1 = .ok (.istore 4, 2) := by decide +kernel
theorem dX8_addKey_3 : decode cX8_addKey 3 = .ok (.iload 4, 2) := by decide +kernel
theorem dX8_addKey_5 : decode cX8_addKey 5 = .ok (.bipush 16, 2) := by decide +kernel
theorem dX8_addKey_7 : decode cX8_addKey 7 = .ok (.if_icmp .ge 31, 3) := by decide +kernel
theorem dX8_addKey_10 : decode cX8_addKey 10 = .ok (.aload_n 1, 1) := by decide +kernel
theorem dX8_addKey_11 : decode cX8_addKey 11 = .ok (.iload_n 2, 1) := by decide +kernel
theorem dX8_addKey_12 : decode cX8_addKey 12 = .ok (.iload 4, 2) := by decide +kernel
theorem dX8_addKey_14 : decode cX8_addKey 14 = .ok (.iadd, 1) := by decide +kernel
theorem dX8_addKey_15 : decode cX8_addKey 15 = .ok (.dup2, 1) := by decide +kernel
theorem dX8_addKey_16 : decode cX8_addKey 16 = .ok (.baload, 1) := by decide +kernel
theorem dX8_addKey_17 : decode cX8_addKey 17 = .ok (.aload_n 0, 1) := by decide +kernel
theorem dX8_addKey_18 : decode cX8_addKey 18 = .ok (.getfield 66, 3) := by decide +kernel
theorem dX8_addKey_21 : decode cX8_addKey 21 = .ok (.bipush 16, 2) := by decide +kernel
theorem dX8_addKey_23 : decode cX8_addKey 23 = .ok (.iload_n 3, 1) := by decide +kernel
theorem dX8_addKey_24 : decode cX8_addKey 24 = .ok (.imul, 1) := by decide +kernel
theorem dX8_addKey_25 : decode cX8_addKey 25 = .ok (.iload 4, 2) := by decide +kernel
theorem dX8_addKey_27 : decode cX8_addKey 27 = .ok (.iadd, 1) := by decide +kernel
theorem dX8_addKey_28 : decode cX8_addKey 28 = .ok (.baload, 1) := by decide +kernel
theorem dX8_addKey_29 : decode cX8_addKey 29 = .ok (.ixor, 1) := by decide +kernel
theorem dX8_addKey_30 : decode cX8_addKey 30 = .ok (.i2b, 1) := by decide +kernel
theorem dX8_addKey_31 : decode cX8_addKey 31 = .ok (.bastore, 1) := by decide +kernel
theorem dX8_addKey_32 : decode cX8_addKey 32 = .ok (.iinc 4 1, 3) := by decide +kernel
theorem dX8_addKey_35 : decode cX8_addKey 35 = .ok (.goto (-32), 3) := by decide +kernel
theorem dX8_addKey_38 : decode cX8_addKey 38 = .ok (.return_, 1) := by decide +kernel
set_option maxRecDepth 20000 in
theorem ggX8_aes_X8_addKey : GoodIn wsX8_aes wsX8_addKey := goodIn_r _ [9, 10, 21, 22, 23, 24, 25, 26, 27, 28, 29, 30, 31, 32, 33, 34, 35, 36, 37, 38, 39, 40, 41, 42, 43, 44, 45, 46, 47, 48, 49, 50, 51, 52, 53, 54, 55] rfl (by decide +kernel)
set_option maxRecDepth 20000 in
theorem gX8_aes_X8_addKey : GoodIn wsX8_aes (wsV RX8 70 RX8 yX8_addKey wsX8_addKey) := goodIn_app (goodIn_of _ (by decide +kernel)) ggX8_aes_X8_addKey
set_option maxRecDepth 20000 in
theorem ggX8_aes_X8_mixColumns : GoodIn wsX8_aes wsX8_mixColumns := goodIn_r _ [14, 2, 15, 16, 8, 17, 18, 19, 20, 21, 22, 23, 24, 25, 26, 27, 28, 29, 30, 31, 32, 33, 34, 35, 36, 37, 38, 39, 40, 41, 42, 43, 44, 45, 46, 47, 48, 49, 50, 51, 52, 53, 54, 55] rfl (by decide +kernel)
set_option maxRecDepth 20000 in
theorem gX8_aes_X8_mixColumns : GoodIn wsX8_aes (wsV RX8 77 RX8 yX8_mixColumns wsX8_mixColumns) := goodIn_app (goodIn_of _ (by decide +kernel)) ggX8_aes_X8_mixColumns
theorem dX8_aes_0 : decode cX8_aes 0 = .ok (.iload_n 3, 1) := by decide +kernel
theorem dX8_aes_1 : decode cX8_aes 1 = .ok (.ifCond .eq 138, 3) := by decide +kernel
theorem dX8_aes_4 : decode cX8_aes 4 = .ok (.aload_n 0, 1) := by decide +kernel
theorem dX8_aes_5 : decode cX8_aes 5 = .ok (.aload_n 1, 1) := by decide +kernel
theorem dX8_aes_6 : decode cX8_aes 6 = .ok (.iload_n 2, 1) := by decide +kernel
theorem dX8_aes_7 : decode cX8_aes 7 = .ok (.aload_n 0, 1) := by decide +kernel
theorem dX8_aes_8 : decode cX8_aes 8 = .ok (.getfield 62, 3) := by decide +kernel
theorem dX8_aes_11 : decode cX8_aes 11 = .ok (.invokevirtual 70, 3) := by decide +kernel
theorem dX8_aes_14 : decode cX8_aes 14 = .ok (.aload_n 0, 1) := by decide +kernel
theorem dX8_aes_15 : decode cX8_aes 15 = .ok (.getfield 62, 3) := by decide +kernel
theorem dX8_aes_18 : decode cX8_aes 18 = .ok (.iconst 1, 1) := by decide +kernel
theorem dX8_aes_19 : decode cX8_aes 19 = .ok (.isub, 1) := by decide +kernel
theorem dX8_aes_20 : decode cX8_aes 20 = .ok (.istore 4, 2) := by decide +kernel
theorem dX8_aes_22 : decode cX8_aes 22 = .ok (.iload 4, 2) := by decide +kernel
theorem dX8_aes_24 : decode cX8_aes 24 = .ok (.ifCond .lt 114, 3) := by decide +kernel
theorem dX8_aes_27 : decode cX8_aes 27 = .ok (.iconst 0, 1) := by decide +kernel
theorem dX8_aes_28 : decode cX8_aes 28 = .ok (.istore 5, 2) := by decide +kernel
theorem dX8_aes_30 : decode cX8_aes 30 = .ok (.iload 5, 2) := by decide +kernel
theorem dX8_aes_32 : decode cX8_aes 32 = .ok (.bipush 16, 2) := by decide +kernel
theorem dX8_aes_34 : decode cX8_aes 34 = .ok (.if_icmp .ge 42, 3) := by decide +kernel
theorem dX8_aes_37 : decode cX8_aes 37 = .ok (.aload_n 0, 1) := by decide +kernel
theorem dX8_aes_38 : decode cX8_aes 38 = .ok (.getfield 74, 3) := by decide +kernel
theorem dX8_aes_41 : decode cX8_aes 41 = .ok (.iload 5, 2) := by decide +kernel
theorem dX8_aes_43 : decode cX8_aes 43 = .ok (.iconst 4, 1) := by decide +kernel
theorem dX8_aes_44 : decode cX8_aes 44 = .ok (.iload 5, 2) := by decide +kernel
theorem dX8_aes_46 : decode cX8_aes 46 = .ok (.iconst 4, 1) := by decide +kernel
theorem dX8_aes_47 : decode cX8_aes 47 = .ok (.irem, 1) := by decide +kernel
theorem dX8_aes_48 : decode cX8_aes 48 = .ok (.imul, 1) := by decide +kernel
theorem dX8_aes_49 : decode cX8_aes 49 = .ok (.iadd, 1) := by decide +kernel
theorem dX8_aes_50 : decode cX8_aes 50 = .ok (.bipush 16, 2) := by decide +kernel
theorem dX8_aes_52 : decode cX8_aes 52 = .ok (.irem, 1) := by decide +kernel
theorem dX8_aes_53 : decode cX8_aes 53 = .ok (.aload_n 0, 1) := by decide +kernel
theorem dX8_aes_54 : decode cX8_aes 54 = .ok (.getfield 59, 3) := by decide +kernel
theorem dX8_aes_57 : decode cX8_aes 57 = .ok (.aload_n 1, 1) := by decide +kernel
theorem dX8_aes_58 : decode cX8_aes 58 = .ok (.iload_n 2, 1) := by decide +kernel
theorem dX8_aes_59 : decode cX8_aes 59 = .ok (.iload 5, 2) := by decide +kernel
theorem dX8_aes_61 : decode cX8_aes 61 = .ok (.iadd, 1) := by decide +kernel
theorem dX8_aes_62 : decode cX8_aes 62 = .ok (.baload, 1) := by decide +kernel
theorem dX8_aes_63 : decode cX8_aes 63 = .ok (.sipush 255, 3) := by decide +kernel
theorem dX8_aes_66 : decode cX8_aes 66 = .ok (.iand, 1) := by decide +kernel
theorem dX8_aes_67 : decode cX8_aes 67 = .ok (.iaload, 1) := by decide +kernel
theorem dX8_aes_68 : decode cX8_aes 68 = .ok (.i2b, 1) := by decide +kernel
theorem dX8_aes_69 : decode cX8_aes 69 = .ok (.bastore, 1) := by decide +kernel
theorem dX8_aes_70 : decode cX8_aes 70 = .ok (.iinc 5 1, 3) := by decide +kernel
theorem dX8_aes_73 : decode cX8_aes 73 = .ok (.goto (-43), 3) := by decide +kernel
theorem dX8_aes_76 : decode cX8_aes 76 = .ok (.iconst 0, 1) := by decide +kernel
theorem dX8_aes_77 : decode cX8_aes 77 = .ok (.istore 5, 2) := by decide +kernel
theorem dX8_aes_79 : decode cX8_aes 79 = .ok (.iload 5, 2) := by decide +kernel
theorem dX8_aes_81 : decode cX8_aes 81 = .ok (.bipush 16, 2) := by decide +kernel
theorem dX8_aes_83 : decode cX8_aes 83 = .ok (.if_icmp .ge 22, 3) := by decide +kernel
theorem dX8_aes_86 : decode cX8_aes 86 = .ok (.aload_n 1, 1) := by decide +kernel
theorem dX8_aes_87 : decode cX8_aes 87 = .ok (.iload_n 2, 1) := by decide +kernel
theorem dX8_aes_88 : decode cX8_aes 88 = .ok (.iload 5, 2) := by decide +kernel
theorem dX8_aes_90 : decode cX8_aes 90 = .ok (.iadd, 1) := by decide +kernel
theorem dX8_aes_91 : decode cX8_aes 91 = .ok (.aload_n 0, 1) := by decide +kernel
theorem dX8_aes_92 : decode cX8_aes 92 = .ok (.getfield 74, 3) := by decide +kernel
theorem dX8_aes_95 : decode cX8_aes 95 = .ok (.iload 5, 2) := by decide +kernel
theorem dX8_aes_97 : decode cX8_aes 97 = .ok (.baload, 1) := by decide +kernel
theorem dX8_aes_98 : decode cX8_aes 98 = .ok (.bastore, 1) := by decide +kernel
theorem dX8_aes_99 : decode cX8_aes 99 = .ok (.iinc 5 1, 3) := by decide +kernel
theorem dX8_aes_102 : decode cX8_aes 102 = .ok (.goto (-23), 3) := by decide +kernel
theorem dX8_aes_105 : decode cX8_aes 105 = .ok (.aload_n 0, 1) := by decide +kernel
theorem dX8_aes_106 : decode cX8_aes 106 = .ok (.aload_n 1, 1) := by decide +kernel
theorem dX8_aes_107 : decode cX8_aes 107 = .ok (.iload_n 2, 1) := by decide +kernel
theorem dX8_aes_108 : decode cX8_aes 108 = .ok (.iload 4, 2) := by decide +kernel
theorem dX8_aes_110 : decode cX8_aes 110 = .ok (.invokevirtual 70, 3) := by decide +kernel
theorem dX8_aes_113 : decode cX8_aes 113 = .ok (.iload 4, 2) := by decide +kernel
theorem dX8_aes_115 : decode cX8_aes 115 = .ok (.ifCond .le 17, 3) := by decide +kernel
theorem dX8_aes_118 : decode cX8_aes 118 = .ok (.aload_n 0, 1) := by decide +kernel
theorem dX8_aes_119 : decode cX8_aes 119 = .ok (.aload_n 1, 1) := by decide +kernel
theorem dX8_aes_120 : decode cX8_aes 120 = .ok (.iload_n 2, 1) := by decide +kernel
theorem dX8_aes_121 : decode cX8_aes 121 = .ok (.bipush 14, 2) := by decide +kernel
theorem dX8_aes_123 : decode cX8_aes 123 = .ok (.bipush 11, 2) := by decide +kernel
theorem dX8_aes_125 : decode cX8_aes 125 = .ok (.bipush 13, 2) := by decide +kernel
theorem dX8_aes_127 : decode cX8_aes 127 = .ok (.bipush 9, 2) := by decide +kernel
theorem dX8_aes_129 : decode cX8_aes 129 = .ok (.invokevirtual 77, 3) := by decide +kernel
theorem dX8_aes_132 : decode cX8_aes 132 = .ok (.iinc 4 (-1), 3) := by decide +kernel
theorem dX8_aes_135 : decode cX8_aes 135 = .ok (.goto (-113), 3) := by decide +kernel
theorem dX8_aes_138 : decode cX8_aes 138 = .ok (.return_, 1) := by decide +kernel
theorem dX8_aes_139 : decode cX8_aes 139 = .ok (.aload_n 0, 1) := by decide +kernel
theorem dX8_aes_140 : decode cX8_aes 140 = .ok (.aload_n 1, 1) := by decide +kernel
theorem dX8_aes_141 : decode cX8_aes 141 = .ok (.iload_n 2, 1) := by decide +kernel
theorem dX8_aes_142 : decode cX8_aes 142 = .ok (.iconst 0, 1) := by decide +kernel
theorem dX8_aes_143 : decode cX8_aes 143 = .ok (.invokevirtual 70, 3) := by decide +kernel
theorem dX8_aes_146 : decode cX8_aes 146 = .ok (.iconst 1, 1) := by decide +kernel
theorem dX8_aes_147 : decode cX8_aes 147 = .ok (.istore 4, 2) := by decide +kernel
theorem dX8_aes_149 : decode cX8_aes 149 = .ok (.iload 4, 2) := by decide +kernel
theorem dX8_aes_151 : decode cX8_aes 151 = .ok (.aload_n 0, 1) := by decide +kernel
theorem dX8_aes_152 : decode cX8_aes 152 = .ok (.getfield 62, 3) := by decide +kernel
theorem dX8_aes_155 : decode cX8_aes 155 = .ok (.if_icmp .gt 114, 3) := by decide +kernel
theorem dX8_aes_158 : decode cX8_aes 158 = .ok (.iconst 0, 1) := by decide +kernel
theorem dX8_aes_159 : decode cX8_aes 159 = .ok (.istore 5, 2) := by decide +kernel
theorem dX8_aes_161 : decode cX8_aes 161 = .ok (.iload 5, 2) := by decide +kernel
theorem dX8_aes_163 : decode cX8_aes 163 = .ok (.bipush 16, 2) := by decide +kernel
theorem dX8_aes_165 : decode cX8_aes 165 = .ok (.if_icmp .ge 42, 3) := by decide +kernel
theorem dX8_aes_168 : decode cX8_aes 168 = .ok (.aload_n 0, 1) := by decide +kernel
theorem dX8_aes_169 : decode cX8_aes 169 = .ok (.getfield 74, 3) := by decide +kernel
theorem dX8_aes_172 : decode cX8_aes 172 = .ok (.iload 5, 2) := by decide +kernel
theorem dX8_aes_174 : decode cX8_aes 174 = .ok (.aload_n 0, 1) := by decide +kernel
theorem dX8_aes_175 : decode cX8_aes 175 = .ok (.getfield 56, 3) := by decide +kernel
theorem dX8_aes_178 : decode cX8_aes 178 = .ok (.aload_n 1, 1) := by decide +kernel
theorem dX8_aes_179 : decode cX8_aes 179 = .ok (.iload_n 2, 1) := by decide +kernel
theorem dX8_aes_180 : decode cX8_aes 180 = .ok (.iload 5, 2) := by decide +kernel
theorem dX8_aes_182 : decode cX8_aes 182 = .ok (.iconst 4, 1) := by decide +kernel
theorem dX8_aes_183 : decode cX8_aes 183 = .ok (.iload 5, 2) := by decide +kernel
theorem dX8_aes_185 : decode cX8_aes 185 = .ok (.iconst 4, 1) := by decide +kernel
theorem dX8_aes_186 : decode cX8_aes 186 = .ok (.irem, 1) := by decide +kernel
theorem dX8_aes_187 : decode cX8_aes 187 = .ok (.imul, 1) := by decide +kernel
theorem dX8_aes_188 : decode cX8_aes 188 = .ok (.iadd, 1) := by decide +kernel
theorem dX8_aes_189 : decode cX8_aes 189 = .ok (.bipush 16, 2) := by decide +kernel
theorem dX8_aes_191 : decode cX8_aes 191 = .ok (.irem, 1) := by decide +kernel
theorem dX8_aes_192 : decode cX8_aes 192 = .ok (.iadd, 1) := by decide +kernel
theorem dX8_aes_193 : decode cX8_aes 193 = .ok (.baload, 1) := by decide +kernel
theorem dX8_aes_194 : decode cX8_aes 194 = .ok (.sipush 255, 3) := by decide +kernel
theorem dX8_aes_197 : decode cX8_aes 197 = .ok (.iand, 1) := by decide +kernel
theorem dX8_aes_198 : decode cX8_aes 198 = .ok (.iaload, 1) := by decide +kernel
theorem dX8_aes_199 : decode cX8_aes 199 = .ok (.i2b, 1) := by decide +kernel
theorem dX8_aes_200 : decode cX8_aes 200 = .ok (.bastore, 1) := by decide +kernel
theorem dX8_aes_201 : decode cX8_aes 201 = .ok (.iinc 5 1, 3) := by decide +kernel
theorem dX8_aes_204 : decode cX8_aes 204 = .ok (.goto (-43), 3) := by decide +kernel
theorem dX8_aes_207 : decode cX8_aes 207 = .ok (.iconst 0, 1) := by decide +kernel
theorem dX8_aes_208 : decode cX8_aes 208 = .ok (.istore 5, 2) := by decide +kernel
theorem dX8_aes_210 : decode cX8_aes 210 = .ok (.iload 5, 2) := by decide +kernel
theorem dX8_aes_212 : decode cX8_aes 212 = .ok (.bipush 16, 2) := by decide +kernel
theorem dX8_aes_214 : decode cX8_aes 214 = .ok (.if_icmp .ge 22, 3) := by decide +kernel
theorem dX8_aes_217 : decode cX8_aes 217 = .ok (.aload_n 1, 1) := by decide +kernel
theorem dX8_aes_218 : decode cX8_aes 218 = .ok (.iload_n 2, 1) := by decide +kernel
theorem dX8_aes_219 : decode cX8_aes 219 = .ok (.iload 5, 2) := by decide +kernel
theorem dX8_aes_221 : decode cX8_aes 221 = .ok (.iadd, 1) := by decide +kernel
theorem dX8_aes_222 : decode cX8_aes 222 = .ok (.aload_n 0, 1) := by decide +kernel
theorem dX8_aes_223 : decode cX8_aes 223 = .ok (.getfield 74, 3) := by decide +kernel
theorem dX8_aes_226 : decode cX8_aes 226 = .ok (.iload 5, 2) := by decide +kernel
theorem dX8_aes_228 : decode cX8_aes 228 = .ok (.baload, 1) := by decide +kernel
theorem dX8_aes_229 : decode cX8_aes 229 = .ok (.bastore, 1) := by decide +kernel
theorem dX8_aes_230 : decode cX8_aes 230 = .ok (.iinc 5 1, 3) := by decide +kernel
theorem dX8_aes_233 : decode cX8_aes 233 = .ok (.goto (-23), 3) := by decide +kernel
theorem dX8_aes_236 : decode cX8_aes 236 = .ok (.iload 4, 2) := by decide +kernel
theorem dX8_aes_238 : decode cX8_aes 238 = .ok (.aload_n 0, 1) := by decide +kernel
theorem dX8_aes_239 : decode cX8_aes 239 = .ok (.getfield 62, 3) := by decide +kernel
theorem dX8_aes_242 : decode cX8_aes 242 = .ok (.if_icmp .ge 13, 3) := by decide +kernel
theorem dX8_aes_245 : decode cX8_aes 245 = .ok (.aload_n 0, 1) := by decide +kernel
theorem dX8_aes_246 : decode cX8_aes 246 = .ok (.aload_n 1, 1) := by decide +kernel
theorem dX8_aes_247 : decode cX8_aes 247 = .ok (.iload_n 2, 1) := by decide +kernel
theorem dX8_aes_248 : decode cX8_aes 248 = .ok (.iconst 2, 1) := by decide +kernel
theorem dX8_aes_249 : decode cX8_aes 249 = .ok (.iconst 3, 1) := by decide +kernel
theorem dX8_aes_250 : decode cX8_aes 250 = .ok (.iconst 1, 1) := by decide +kernel
theorem dX8_aes_251 : decode cX8_aes 251 = .ok (.iconst 1, 1) := by decide +kernel
theorem dX8_aes_252 : decode cX8_aes 252 = .ok (.invokevirtual 77, 3) := by decide +kernel
theorem dX8_aes_255 : decode cX8_aes 255 = .ok (.aload_n 0, 1) := by decide +kernel
theorem dX8_aes_256 : decode cX8_aes 256 = .ok (.aload_n 1, 1) := by decide +kernel
theorem dX8_aes_257 : decode cX8_aes 257 = .ok (.iload_n 2, 1) := by decide +kernel
theorem dX8_aes_258 : decode cX8_aes 258 = .ok (.iload 4, 2) := by decide +kernel
theorem dX8_aes_260 : decode cX8_aes 260 = .ok (.invokevirtual 70, 3) := by decide +kernel
theorem dX8_aes_263 : decode cX8_aes 263 = .ok (.iinc 4 1, 3) := by decide +kernel
theorem dX8_aes_266 : decode cX8_aes 266 = .ok (.goto (-117), 3) := by decide +kernel
theorem dX8_aes_269 : decode cX8_aes 269 = .ok (.return_, 1) := by decide +kernel
set_option maxRecDepth 20000 in
theorem ggX8_mixColumns_X8_times : GoodIn wsX8_mixColumns wsX8_times := goodIn_r _ [5, 6, 7, 4, 8] rfl (by decide +kernel)
set_option maxRecDepth 20000 in
theorem gX8_mixColumns_X8_times : GoodIn wsX8_mixColumns (va_wsS RX8 52 yX8_times wsX8_times) := goodIn_app (goodIn_of _ (by decide +kernel)) ggX8_mixColumns_X8_times
theorem dX8_mixColumns_0 : decode cX8_mixColumns 0 = .ok (.iconst 0, 1) := by decide +kernel
theorem dX8_mixColumns_1 : decode cX8_mixColumns 1 = .ok (.istore 7, 2) := by decide +kernel
theorem dX8_mixColumns_3 : decode cX8_mixColumns 3 = .ok (.iload 7, 2) := by decide +kernel
theorem dX8_mixColumns_5 : decode cX8_mixColumns 5 = .ok (.bipush 16, 2) := by decide +kernel
theorem dX8_mixColumns_7 : decode cX8_mixColumns 7 = .ok (.if_icmp .ge 125, 3) := by decide +kernel
theorem dX8_mixColumns_10 : decode cX8_mixColumns 10 = .ok (.iconst 0, 1) := by decide +kernel
theorem dX8_mixColumns_11 : decode cX8_mixColumns 11 = .ok (.istore 8, 2) := by decide +kernel
theorem dX8_mixColumns_13 : decode cX8_mixColumns 13 = .ok (.iload 8, 2) := by decide +kernel
theorem dX8_mixColumns_15 : decode cX8_mixColumns 15 = .ok (.iconst 4, 1) := by decide +kernel
theorem dX8_mixColumns_16 : decode cX8_mixColumns 16 = .ok (.if_icmp .ge 110, 3) := by decide +kernel
theorem dX8_mixColumns_19 : decode cX8_mixColumns 19 = .ok (.aload_n 1, 1) := by decide +kernel
theorem dX8_mixColumns_20 : decode cX8_mixColumns 20 = .ok (.iload_n 2, 1) := by decide +kernel
theorem dX8_mixColumns_21 : decode cX8_mixColumns 21 = .ok (.iload 7, 2) := by decide +kernel
theorem dX8_mixColumns_23 : decode cX8_mixColumns 23 = .ok (.iadd, 1) := by decide +kernel
theorem dX8_mixColumns_24 : decode cX8_mixColumns 24 = .ok (.iload 8, 2) := by decide +kernel
theorem dX8_mixColumns_26 : decode cX8_mixColumns 26 = .ok (.iadd, 1) := by decide +kernel
theorem dX8_mixColumns_27 : decode cX8_mixColumns 27 = .ok (.baload, 1) := by decide +kernel
theorem dX8_mixColumns_28 : decode cX8_mixColumns 28 = .ok (.sipush 255, 3) := by decide +kernel
theorem dX8_mixColumns_31 : decode cX8_mixColumns 31 = .ok (.iand, 1) := by decide +kernel
theorem dX8_mixColumns_32 : decode cX8_mixColumns 32 = .ok (.iload_n 3, 1) := by decide +kernel
theorem dX8_mixColumns_33 : decode cX8_mixColumns 33 = .ok (.invokestatic 52, 3) := by decide +kernel
theorem dX8_mixColumns_36 : decode cX8_mixColumns 36 = .ok (.aload_n 1, 1) := by decide +kernel
theorem dX8_mixColumns_37 : decode cX8_mixColumns 37 = .ok (.iload_n 2, 1) := by decide +kernel
theorem dX8_mixColumns_38 : decode cX8_mixColumns 38 = .ok (.iload 7, 2) := by decide +kernel
theorem dX8_mixColumns_40 : decode cX8_mixColumns 40 = .ok (.iadd, 1) := by decide +kernel
theorem dX8_mixColumns_41 : decode cX8_mixColumns 41 = .ok (.iload 8, 2) := by decide +kernel
theorem dX8_mixColumns_43 : decode cX8_mixColumns 43 = .ok (.iconst 1, 1) := by decide +kernel
theorem dX8_mixColumns_44 : decode cX8_mixColumns 44 = .ok (.iadd, 1) := by decide +kernel
theorem dX8_mixColumns_45 : decode cX8_mixColumns 45 = .ok (.iconst 4, 1) := by decide +kernel
theorem dX8_mixColumns_46 : decode cX8_mixColumns 46 = .ok (.irem, 1) := by decide +kernel
theorem dX8_mixColumns_47 : decode cX8_mixColumns 47 = .ok (.iadd, 1) := by decide +kernel
theorem dX8_mixColumns_48 : decode cX8_mixColumns 48 = .ok (.baload, 1) := by decide +kernel
theorem dX8_mixColumns_49 : decode cX8_mixColumns 49 = .ok (.sipush 255, 3) := by decide +kernel
theorem dX8_mixColumns_52 : decode cX8_mixColumns 52 = .ok (.iand, 1) := by decide +kernel
theorem dX8_mixColumns_53 : decode cX8_mixColumns 53 = .ok (.iload 4, 2) := by decide +kernel
theorem dX8_mixColumns_55 : decode cX8_mixColumns 55 = .ok (.invokestatic 52, 3) := by decide +kernel
theorem dX8_mixColumns_58 : decode cX8_mixColumns 58 = .ok (.ixor, 1) := by decide +kernel
theorem dX8_mixColumns_59 : decode cX8_mixColumns 59 = .ok (.aload_n 1, 1) := by decide +kernel
theorem dX8_mixColumns_60 : decode cX8_mixColumns 60 = .ok (.iload_n 2, 1) := by decide +kernel
theorem dX8_mixColumns_61 : decode cX8_mixColumns 61 = .ok (.iload 7, 2) := by decide +kernel
theorem dX8_mixColumns_63 : decode cX8_mixColumns 63 = .ok (.iadd, 1) := by decide +kernel
theorem dX8_mixColumns_64 : decode cX8_mixColumns 64 = .ok (.iload 8, 2) := by decide +kernel
theorem dX8_mixColumns_66 : decode cX8_mixColumns 66 = .ok (.iconst 2, 1) := by decide +kernel
theorem dX8_mixColumns_67 : decode cX8_mixColumns 67 = .ok (.iadd, 1) := by decide +kernel
theorem dX8_mixColumns_68 : decode cX8_mixColumns 68 = .ok (.iconst 4, 1) := by decide +kernel
theorem dX8_mixColumns_69 : decode cX8_mixColumns 69 = .ok (.irem, 1) := by decide +kernel
theorem dX8_mixColumns_70 : decode cX8_mixColumns 70 = .ok (.iadd, 1) := by decide +kernel
theorem dX8_mixColumns_71 : decode cX8_mixColumns 71 = .ok (.baload, 1) := by decide +kernel
theorem dX8_mixColumns_72 : decode cX8_mixColumns 72 = .ok (.sipush 255, 3) := by decide +kernel
theorem dX8_mixColumns_75 : decode cX8_mixColumns 75 = .ok (.iand, 1) := by decide +kernel
theorem dX8_mixColumns_76 : decode cX8_mixColumns 76 = .ok (.iload 5, 2) := by decide +kernel
theorem dX8_mixColumns_78 : decode cX8_mixColumns 78 = .ok (.invokestatic 52, 3) := by decide +kernel
theorem dX8_mixColumns_81 : decode cX8_mixColumns 81 = .ok (.ixor, 1) := by decide +kernel
theorem dX8_mixColumns_82 : decode cX8_mixColumns 82 = .ok (.aload_n 1, 1) := by decide +kernel
theorem dX8_mixColumns_83 : decode cX8_mixColumns 83 = .ok (.iload_n 2, 1) := by decide +kernel
theorem dX8_mixColumns_84 : decode cX8_mixColumns 84 = .ok (.iload 7, 2) := by decide +kernel
theorem dX8_mixColumns_86 : decode cX8_mixColumns 86 = .ok (.iadd, 1) := by decide +kernel
theorem dX8_mixColumns_87 : decode cX8_mixColumns 87 = .ok (.iload 8, 2) := by decide +kernel
theorem dX8_mixColumns_89 : decode cX8_mixColumns 89 = .ok (.iconst 3, 1) := by decide +kernel
theorem dX8_mixColumns_90 : decode cX8_mixColumns 90 = .ok (.iadd, 1) := by decide +kernel
theorem dX8_mixColumns_91 : decode cX8_mixColumns 91 = .ok (.iconst 4, 1) := by decide +kernel
theorem dX8_mixColumns_92 : decode cX8_mixColumns 92 = .ok (.irem, 1) := by decide +kernel
theorem dX8_mixColumns_93 : decode cX8_mixColumns 93 = .ok (.iadd, 1) := by decide +kernel
theorem dX8_mixColumns_94 : decode cX8_mixColumns 94 = .ok (.baload, 1) := by decide +kernel
theorem dX8_mixColumns_95 : decode cX8_mixColumns 95 = .ok (.sipush 255, 3) := by decide +kernel
theorem dX8_mixColumns_98 : decode cX8_mixColumns 98 = .ok (.iand, 1) := by decide +kernel
theorem dX8_mixColumns_99 : decode cX8_mixColumns 99 = .ok (.iload 6, 2) := by decide +kernel
theorem dX8_mixColumns_101 : decode cX8_mixColumns 101 = .ok (.invokestatic 52, 3) := by decide +kernel
theorem dX8_mixColumns_104 : decode cX8_mixColumns 104 = .ok (.ixor, 1) := by decide +kernel
theorem dX8_mixColumns_105 : decode cX8_mixColumns 105 = .ok (.istore 9, 2) := by decide +kernel
theorem dX8_mixColumns_107 : decode cX8_mixColumns 107 = .ok (.aload_n 0, 1) := by decide +kernel
theorem dX8_mixColumns_108 : decode cX8_mixColumns 108 = .ok (.getfield 74, 3) := by decide +kernel
theorem dX8_mixColumns_111 : decode cX8_mixColumns 111 = .ok (.iload 7, 2) := by decide +kernel
theorem dX8_mixColumns_113 : decode cX8_mixColumns 113 = .ok (.iload 8, 2) := by decide +kernel
theorem dX8_mixColumns_115 : decode cX8_mixColumns 115 = .ok (.iadd, 1) := by decide +kernel
theorem dX8_mixColumns_116 : decode cX8_mixColumns 116 = .ok (.iload 9, 2) := by decide +kernel
theorem dX8_mixColumns_118 : decode cX8_mixColumns 118 = .ok (.i2b, 1) := by decide +kernel
theorem dX8_mixColumns_119 : decode cX8_mixColumns 119 = .ok (.bastore, 1) := by decide +kernel
theorem dX8_mixColumns_120 : decode cX8_mixColumns 120 = .ok (.iinc 8 1, 3) := by decide +kernel
theorem dX8_mixColumns_123 : decode cX8_mixColumns 123 = .ok (.goto (-110), 3) := by decide +kernel
theorem dX8_mixColumns_126 : decode cX8_mixColumns 126 = .ok (.iinc 7 4, 3) := by decide +kernel
theorem dX8_mixColumns_129 : decode cX8_mixColumns 129 = .ok (.goto (-126), 3) := by decide +kernel
theorem dX8_mixColumns_132 : decode cX8_mixColumns 132 = .ok (.iconst 0, 1) := by decide +kernel
theorem dX8_mixColumns_133 : decode cX8_mixColumns 133 = .ok (.istore 7, 2) := by decide +kernel
theorem dX8_mixColumns_135 : decode cX8_mixColumns 135 = .ok (.iload 7, 2) := by decide +kernel
theorem dX8_mixColumns_137 : decode cX8_mixColumns 137 = .ok (.bipush 16, 2) := by decide +kernel
theorem dX8_mixColumns_139 : decode cX8_mixColumns 139 = .ok (.if_icmp .ge 22, 3) := by decide +kernel
theorem dX8_mixColumns_142 : decode cX8_mixColumns 142 = .ok (.aload_n 1, 1) := by decide +kernel
theorem dX8_mixColumns_143 : decode cX8_mixColumns 143 = .ok (.iload_n 2, 1) := by decide +kernel
theorem dX8_mixColumns_144 : decode cX8_mixColumns 144 = .ok (.iload 7, 2) := by decide +kernel
theorem dX8_mixColumns_146 : decode cX8_mixColumns 146 = .ok (.iadd, 1) := by decide +kernel
theorem dX8_mixColumns_147 : decode cX8_mixColumns 147 = .ok (.aload_n 0, 1) := by decide +kernel
theorem dX8_mixColumns_148 : decode cX8_mixColumns 148 = .ok (.getfield 74, 3) := by decide +kernel
theorem dX8_mixColumns_151 : decode cX8_mixColumns 151 = .ok (.iload 7, 2) := by decide +kernel
theorem dX8_mixColumns_153 : decode cX8_mixColumns 153 = .ok (.baload, 1) := by decide +kernel
theorem dX8_mixColumns_154 : decode cX8_mixColumns 154 = .ok (.bastore, 1) := by decide +kernel
theorem dX8_mixColumns_155 : decode cX8_mixColumns 155 = .ok (.iinc 7 1, 3) := by decide +kernel
theorem dX8_mixColumns_158 : decode cX8_mixColumns 158 = .ok (.goto (-23), 3) := by decide +kernel
theorem dX8_mixColumns_161 : decode cX8_mixColumns 161 = .ok (.return_, 1) := by decide +kernel
theorem dX8_start_0 : decode cX8_start 0 = .ok (.aload_n 0, 1) := by decide +kernel
theorem dX8_start_1 : decode cX8_start 1 = .ok (.iconst 0, 1) := by decide +kernel
theorem dX8_start_2 : decode cX8_start 2 = .ok (.putfield 81, 3) := by decide +kernel
theorem dX8_start_5 : decode cX8_start 5 = .ok (.return_, 1) := by decide +kernel
theorem dX8_add_0 : decode cX8_add 0 = .ok (.aload_n 0, 1) := by decide +kernel
theorem dX8_add_1 : decode cX8_add 1 = .ok (.getfield 84, 3) := by decide +kernel
theorem dX8_add_4 : decode cX8_add 4 = .ok (.aload_n 0, 1) := by decide +kernel
theorem dX8_add_5 : decode cX8_add 5 = .ok (.getfield 81, 3) := by decide +kernel
theorem dX8_add_8 : decode cX8_add 8 = .ok (.iload_n 1, 1) := by decide +kernel
theorem dX8_add_9 : decode cX8_add 9 = .ok (.i2b, 1) := by decide +kernel
theorem dX8_add_10 : decode cX8_add 10 = .ok (.bastore, 1) := by decide +kernel
theorem dX8_add_11 : decode cX8_add 11 = .ok (.aload_n 0, 1) := by decide +kernel
theorem dX8_add_12 : decode cX8_add 12 = .ok (.dup, 1) := by decide +kernel
theorem dX8_add_13 : decode cX8_add 13 = .ok (.getfield 81, 3) := by decide +kernel
theorem dX8_add_16 : decode cX8_add 16 = .ok (.iconst 1, 1) := by decide +kernel
theorem dX8_add_17 : decode cX8_add 17 = .ok (.iadd, 1) := by decide +kernel
theorem dX8_add_18 : decode cX8_add 18 = .ok (.putfield 81, 3) := by decide +kernel
theorem dX8_add_21 : decode cX8_add 21 = .ok (.return_, 1) := by decide +kernel
set_option maxRecDepth 20000 in
theorem ggX8_addAll_X8_add : GoodIn wsX8_addAll wsX8_add := goodIn_r _ [5, 6, 7, 8, 9, 10, 11, 12, 13, 14, 15, 16, 17, 18, 19, 20, 21, 22, 23, 24, 25, 26, 27, 28, 29, 30, 31, 32, 33, 34, 35, 36, 37, 38, 39, 40, 41, 42] rfl (by decide +kernel)
set_option maxRecDepth 20000 in
theorem gX8_addAll_X8_add : GoodIn wsX8_addAll (wsV RX8 87 RX8 yX8_add wsX8_add) := goodIn_app (goodIn_of _ (by decide +kernel)) ggX8_addAll_X8_add
theorem dX8_addAll_0 : decode cX8_addAll 0 = .ok (.iconst 0, 1) := by decide +kernel
theorem dX8_addAll_1 : decode cX8_addAll 1 = .ok (.istore 4, 2) := by decide +kernel
theorem dX8_addAll_3 : decode cX8_addAll 3 = .ok (.iload 4, 2) := by decide +kernel
theorem dX8_addAll_5 : decode cX8_addAll 5 = .ok (.iload_n 3, 1) := by decide +kernel
theorem dX8_addAll_6 : decode cX8_addAll 6 = .ok (.if_icmp .ge 19, 3) := by decide +kernel
theorem dX8_addAll_9 : decode cX8_addAll 9 = .ok (.aload_n 0, 1) := by decide +kernel
theorem dX8_addAll_10 : decode cX8_addAll 10 = .ok (.aload_n 1, 1) := by decide +kernel
theorem dX8_addAll_11 : decode cX8_addAll 11 = .ok (.iload_n 2, 1) := by decide +kernel
theorem dX8_addAll_12 : decode cX8_addAll 12 = .ok (.iload 4, 2) := by decide +kernel
theorem dX8_addAll_14 : decode cX8_addAll 14 = .ok (.iadd, 1) := by decide +kernel
theorem dX8_addAll_15 : decode cX8_addAll 15 = .ok (.baload, 1) := by decide +kernel
theorem dX8_addAll_16 : decode cX8_addAll 16 = .ok (.invokevirtual 87, 3) := by decide +kernel
theorem dX8_addAll_19 : decode cX8_addAll 19 = .ok (.iinc 4 1, 3) := by decide +kernel
theorem dX8_addAll_22 : decode cX8_addAll 22 = .ok (.goto (-19), 3) := by decide +kernel
theorem dX8_addAll_25 : decode cX8_addAll 25 = .ok (.return_, 1) := by decide +kernel
set_option maxRecDepth 20000 in
theorem ggX8_fillUp_X8_add : GoodIn wsX8_fillUp wsX8_add := goodIn_r _ [6, 7, 1, 8, 9, 10, 11, 12, 13, 14, 15, 16, 17, 18, 19, 20, 21, 22, 23, 24, 25, 26, 27, 28, 29, 30, 31, 32, 33, 34, 35, 36, 37, 38, 39, 40, 41, 42] rfl (by decide +kernel)
set_option maxRecDepth 20000 in
theorem gX8_fillUp_X8_add : GoodIn wsX8_fillUp (wsV RX8 87 RX8 yX8_add wsX8_add) := goodIn_app (goodIn_of _ (by decide +kernel)) ggX8_fillUp_X8_add
theorem dX8_fillUp_0 : decode cX8_fillUp 0 = .ok (.aload_n 0, 1) := by decide +kernel
theorem dX8_fillUp_1 : decode cX8_fillUp 1 = .ok (.sipush 128, 3) := by decide +kernel
theorem dX8_fillUp_4 : decode cX8_fillUp 4 = .ok (.invokevirtual 87, 3) := by decide +kernel
theorem dX8_fillUp_7 : decode cX8_fillUp 7 = .ok (.aload_n 0, 1) := by decide +kernel
theorem dX8_fillUp_8 : decode cX8_fillUp 8 = .ok (.getfield 81, 3) := by decide +kernel
theorem dX8_fillUp_11 : decode cX8_fillUp 11 = .ok (.iload_n 1, 1) := by decide +kernel
theorem dX8_fillUp_12 : decode cX8_fillUp 12 = .ok (.irem, 1) := by decide +kernel
theorem dX8_fillUp_13 : decode cX8_fillUp 13 = .ok (.ifCond .eq 11, 3) := by decide +kernel
theorem dX8_fillUp_16 : decode cX8_fillUp 16 = .ok (.aload_n 0, 1) := by decide +kernel
theorem dX8_fillUp_17 : decode cX8_fillUp 17 = .ok (.iconst 0, 1) := by decide +kernel
theorem dX8_fillUp_18 : decode cX8_fillUp 18 = .ok (.invokevirtual 87, 3) := by decide +kernel
theorem dX8_fillUp_21 : decode cX8_fillUp 21 = .ok (.goto (-14), 3) := by decide +kernel
theorem dX8_fillUp_24 : decode cX8_fillUp 24 = .ok (.return_, 1) := by decide +kernel
set_option maxRecDepth 20000 in
theorem ggX8_mac3_X8_fillUp : GoodIn wsX8_mac3 wsX8_fillUp := goodIn_r _ [8, 2, 9, 10, 11, 7, 12, 3, 37, 38, 39, 40, 41, 42, 43, 44, 45, 46, 47, 48, 49, 50, 51, 52, 53, 54, 55, 56, 57, 58, 59, 60, 61, 62, 63, 64, 65, 66, 67, 68, 69, 70, 71] rfl (by decide +kernel)
set_option maxRecDepth 20000 in
theorem gX8_mac3_X8_fillUp : GoodIn wsX8_mac3 (wsV RX8 91 RX8 yX8_fillUp wsX8_fillUp) := goodIn_app (goodIn_of _ (by decide +kernel)) ggX8_mac3_X8_fillUp
set_option maxRecDepth 20000 in
theorem ggX8_mac3_X8_des3 : GoodIn wsX8_mac3 wsX8_des3 := goodIn_r _ [16, 17, 18, 19, 7, 20, 21, 22, 23, 24, 25, 26, 27, 28, 29, 30, 31, 32, 33, 34, 35, 36, 37, 38, 39, 40, 41, 42, 43, 44, 45, 46, 47, 48, 49, 50, 51, 52, 53, 54, 55, 56, 57, 58, 59, 60, 61, 62, 63, 64, 65, 66, 67, 68, 69, 70, 71] rfl (by decide +kernel)
set_option maxRecDepth 20000 in
theorem gX8_mac3_X8_des3 : GoodIn wsX8_mac3 (wsV RX8 97 RX8 yX8_des3 wsX8_des3) := goodIn_app (goodIn_of _ (by decide +kernel)) ggX8_mac3_X8_des3
theorem dX8_mac3_0 : decode cX8_mac3 0 = .ok (.aload_n 0, 1) := by decide +kernel
theorem dX8_mac3_1 : decode cX8_mac3 1 = .ok (.bipush 8, 2) := by decide +kernel
theorem dX8_mac3_3 : decode cX8_mac3 3 = .ok (.invokevirtual 91, 3) := by decide +kernel
theorem dX8_mac3_6 : decode cX8_mac3 6 = .ok (.iconst 0, 1) := by decide +kernel
theorem dX8_mac3_7 : decode cX8_mac3 7 = .ok (.istore_n 3, 1) := by decide +kernel
theorem dX8_mac3_8 : decode cX8_mac3 8 = .ok (.iload_n 3, 1) := by decide +kernel
theorem dX8_mac3_9 : decode cX8_mac3 9 = .ok (.bipush 8, 2) := by decide +kernel
theorem dX8_mac3_11 : decode cX8_mac3 11 = .ok (.if_icmp .ge 16, 3) := by decide +kernel
theorem dX8_mac3_14 : decode cX8_mac3 14 = .ok (.aload_n 0, 1) := by decide +kernel
theorem dX8_mac3_15 : decode cX8_mac3 15 = .ok (.getfield 94, 3) := by decide +kernel
theorem dX8_mac3_18 : decode cX8_mac3 18 = .ok (.iload_n 3, 1) := by decide +kernel
theorem dX8_mac3_19 : decode cX8_mac3 19 = .ok (.iconst 0, 1) := by decide +kernel
theorem dX8_mac3_20 : decode cX8_mac3 20 = .ok (.bastore, 1) := by decide +kernel
theorem dX8_mac3_21 : decode cX8_mac3 21 = .ok (.iinc 3 1, 3) := by decide +kernel
theorem dX8_mac3_24 : decode cX8_mac3 24 = .ok (.goto (-16), 3) := by decide +kernel
theorem dX8_mac3_27 : decode cX8_mac3 27 = .ok (.iconst 0, 1) := by decide +kernel
theorem dX8_mac3_28 : decode cX8_mac3 28 = .ok (.istore_n 3, 1) := by decide +kernel
theorem dX8_mac3_29 : decode cX8_mac3 29 = .ok (.iload_n 3, 1) := by decide +kernel
theorem dX8_mac3_30 : decode cX8_mac3 30 = .ok (.aload_n 0, 1) := by decide +kernel
theorem dX8_mac3_31 : decode cX8_mac3 31 = .ok (.getfield 81, 3) := by decide +kernel
theorem dX8_mac3_34 : decode cX8_mac3 34 = .ok (.if_icmp .ge 57, 3) := by decide +kernel
theorem dX8_mac3_37 : decode cX8_mac3 37 = .ok (.iconst 0, 1) := by decide +kernel
theorem dX8_mac3_38 : decode cX8_mac3 38 = .ok (.istore 4, 2) := by decide +kernel
theorem dX8_mac3_40 : decode cX8_mac3 40 = .ok (.iload 4, 2) := by decide +kernel
theorem dX8_mac3_42 : decode cX8_mac3 42 = .ok (.bipush 8, 2) := by decide +kernel
theorem dX8_mac3_44 : decode cX8_mac3 44 = .ok (.if_icmp .ge 29, 3) := by decide +kernel
theorem dX8_mac3_47 : decode cX8_mac3 47 = .ok (.aload_n 0, 1) := by decide +kernel
theorem dX8_mac3_48 : decode cX8_mac3 48 = .ok (.getfield 94, 3) := by decide +kernel
theorem dX8_mac3_51 : decode cX8_mac3 51 = .ok (.iload 4, 2) := by decide +kernel
theorem dX8_mac3_53 : decode cX8_mac3 53 = .ok (.dup2, 1) := by decide +kernel
theorem dX8_mac3_54 : decode cX8_mac3 54 = .ok (.baload, 1) := by decide +kernel
theorem dX8_mac3_55 : decode cX8_mac3 55 = .ok (.aload_n 0, 1) := by decide +kernel
theorem dX8_mac3_56 : decode cX8_mac3 56 = .ok (.getfield 84, 3) := by decide +kernel
theorem dX8_mac3_59 : decode cX8_mac3 59 = .ok (.iload_n 3, 1) := by decide +kernel
theorem dX8_mac3_60 : decode cX8_mac3 60 = .ok (.iload 4, 2) := by decide +kernel
theorem dX8_mac3_62 : decode cX8_mac3 62 = .ok (.iadd, 1) := by decide +kernel
theorem dX8_mac3_63 : decode cX8_mac3 63 = .ok (.baload, 1) := by decide +kernel
theorem dX8_mac3_64 : decode cX8_mac3 64 = .ok (.ixor, 1) := by decide +kernel
theorem dX8_mac3_65 : decode cX8_mac3 65 = .ok (.i2b, 1) := by decide +kernel
theorem dX8_mac3_66 : decode cX8_mac3 66 = .ok (.bastore, 1) := by decide +kernel
theorem dX8_mac3_67 : decode cX8_mac3 67 = .ok (.iinc 4 1, 3) := by decide +kernel
theorem dX8_mac3_70 : decode cX8_mac3 70 = .ok (.goto (-30), 3) := by decide +kernel
theorem dX8_mac3_73 : decode cX8_mac3 73 = .ok (.aload_n 0, 1) := by decide +kernel
theorem dX8_mac3_74 : decode cX8_mac3 74 = .ok (.aload_n 0, 1) := by decide +kernel
theorem dX8_mac3_75 : decode cX8_mac3 75 = .ok (.getfield 94, 3) := by decide +kernel
theorem dX8_mac3_78 : decode cX8_mac3 78 = .ok (.iconst 0, 1) := by decide +kernel
theorem dX8_mac3_79 : decode cX8_mac3 79 = .ok (.aload_n 1, 1) := by decide +kernel
theorem dX8_mac3_80 : decode cX8_mac3 80 = .ok (.iload_n 2, 1) := by decide +kernel
theorem dX8_mac3_81 : decode cX8_mac3 81 = .ok (.iconst 0, 1) := by decide +kernel
theorem dX8_mac3_82 : decode cX8_mac3 82 = .ok (.invokevirtual 97, 3) := by decide +kernel
theorem dX8_mac3_85 : decode cX8_mac3 85 = .ok (.iinc 3 8, 3) := by decide +kernel
theorem dX8_mac3_88 : decode cX8_mac3 88 = .ok (.goto (-59), 3) := by decide +kernel
theorem dX8_mac3_91 : decode cX8_mac3 91 = .ok (.return_, 1) := by decide +kernel
set_option maxRecDepth 20000 in
theorem ggX8_retail_X8_fillUp : GoodIn wsX8_retail wsX8_fillUp := goodIn_r _ [8, 2, 9, 10, 11, 7, 12, 3, 33, 34, 35, 36, 37, 38, 39, 40, 41, 42, 43, 44, 45, 46, 47, 48, 49, 50, 51, 52, 53, 54, 55, 56, 57, 58, 59, 60, 61, 62, 63, 64, 65, 66, 67] rfl (by decide +kernel)
set_option maxRecDepth 20000 in
theorem gX8_retail_X8_fillUp : GoodIn wsX8_retail (wsV RX8 91 RX8 yX8_fillUp wsX8_fillUp) := goodIn_app (goodIn_of _ (by decide +kernel)) ggX8_retail_X8_fillUp
set_option maxRecDepth 20000 in
theorem ggX8_retail_X8_des : GoodIn wsX8_retail wsX8_des := goodIn_r _ [16, 17, 18, 19, 20, 21, 22, 23, 24, 25, 26, 27, 28, 7, 29, 30, 31, 32, 33, 34, 35, 36, 37, 38, 39, 40, 41, 42, 43, 44, 45, 46, 47, 48, 49, 50, 51, 52, 53, 54, 55, 56, 57, 58, 59, 60, 61, 62, 63, 64, 65, 66, 67] rfl (by decide +kernel)
set_option maxRecDepth 20000 in
theorem gX8_retail_X8_des : GoodIn wsX8_retail (wsV RX8 44 RX8 yX8_des wsX8_des) := goodIn_app (goodIn_of _ (by decide +kernel)) ggX8_retail_X8_des
theorem dX8_retail_0 : decode cX8_retail 0 = .ok (.aload_n 0, 1) := by decide +kernel
theorem dX8_retail_1 : decode cX8_retail 1 = .ok (.bipush 8, 2) := by decide +kernel
theorem dX8_retail_3 : decode cX8_retail 3 = .ok (.invokevirtual 91, 3) := by decide +kernel
theorem dX8_retail_6 : decode cX8_retail 6 = .ok (.iconst 0, 1) := by decide +kernel
theorem dX8_retail_7 : decode cX8_retail 7 = .ok (.istore 5, 2) := by decide +kernel
theorem dX8_retail_9 : decode cX8_retail 9 = .ok (.iload 5, 2) := by decide +kernel
theorem dX8_retail_11 : decode cX8_retail 11 = .ok (.bipush 8, 2) := by decide +kernel
theorem dX8_retail_13 : decode cX8_retail 13 = .ok (.if_icmp .ge 23, 3) := by decide +kernel
theorem dX8_retail_16 : decode cX8_retail 16 = .ok (.aload_n 0, 1) := by decide +kernel
theorem dX8_retail_17 : decode cX8_retail 17 = .ok (.getfield 94, 3) := by decide +kernel
theorem dX8_retail_20 : decode cX8_retail 20 = .ok (.iload 5, 2) := by decide +kernel
theorem dX8_retail_22 : decode cX8_retail 22 = .ok (.aload_n 3, 1) := by decide +kernel
theorem dX8_retail_23 : decode cX8_retail 23 = .ok (.iload 4, 2) := by decide +kernel
theorem dX8_retail_25 : decode cX8_retail 25 = .ok (.iload 5, 2) := by decide +kernel
theorem dX8_retail_27 : decode cX8_retail 27 = .ok (.iadd, 1) := by decide +kernel
theorem dX8_retail_28 : decode cX8_retail 28 = .ok (.baload, 1) := by decide +kernel
theorem dX8_retail_29 : decode cX8_retail 29 = .ok (.bastore, 1) := by decide +kernel
theorem dX8_retail_30 : decode cX8_retail 30 = .ok (.iinc 5 1, 3) := by decide +kernel
theorem dX8_retail_33 : decode cX8_retail 33 = .ok (.goto (-24), 3) := by decide +kernel
theorem dX8_retail_36 : decode cX8_retail 36 = .ok (.iconst 0, 1) := by decide +kernel
theorem dX8_retail_37 : decode cX8_retail 37 = .ok (.istore 5, 2) := by decide +kernel
theorem dX8_retail_39 : decode cX8_retail 39 = .ok (.iload 5, 2) := by decide +kernel
theorem dX8_retail_41 : decode cX8_retail 41 = .ok (.aload_n 0, 1) := by decide +kernel
theorem dX8_retail_42 : decode cX8_retail 42 = .ok (.getfield 81, 3) := by decide +kernel
theorem dX8_retail_45 : decode cX8_retail 45 = .ok (.if_icmp .ge 58, 3) := by decide +kernel
theorem dX8_retail_48 : decode cX8_retail 48 = .ok (.iconst 0, 1) := by decide +kernel
theorem dX8_retail_49 : decode cX8_retail 49 = .ok (.istore 6, 2) := by decide +kernel
theorem dX8_retail_51 : decode cX8_retail 51 = .ok (.iload 6, 2) := by decide +kernel
theorem dX8_retail_53 : decode cX8_retail 53 = .ok (.bipush 8, 2) := by decide +kernel
theorem dX8_retail_55 : decode cX8_retail 55 = .ok (.if_icmp .ge 30, 3) := by decide +kernel
theorem dX8_retail_58 : decode cX8_retail 58 = .ok (.aload_n 0, 1) := by decide +kernel
theorem dX8_retail_59 : decode cX8_retail 59 = .ok (.getfield 94, 3) := by decide +kernel
theorem dX8_retail_62 : decode cX8_retail 62 = .ok (.iload 6, 2) := by decide +kernel
theorem dX8_retail_64 : decode cX8_retail 64 = .ok (.dup2, 1) := by decide +kernel
theorem dX8_retail_65 : decode cX8_retail 65 = .ok (.baload, 1) := by decide +kernel
theorem dX8_retail_66 : decode cX8_retail 66 = .ok (.aload_n 0, 1) := by decide +kernel
theorem dX8_retail_67 : decode cX8_retail 67 = .ok (.getfield 84, 3) := by decide +kernel
theorem dX8_retail_70 : decode cX8_retail 70 = .ok (.iload 5, 2) := by decide +kernel
theorem dX8_retail_72 : decode cX8_retail 72 = .ok (.iload 6, 2) := by decide +kernel
theorem dX8_retail_74 : decode cX8_retail 74 = .ok (.iadd, 1) := by decide +kernel
theorem dX8_retail_75 : decode cX8_retail 75 = .ok (.baload, 1) := by decide +kernel
theorem dX8_retail_76 : decode cX8_retail 76 = .ok (.ixor, 1) := by decide +kernel
theorem dX8_retail_77 : decode cX8_retail 77 = .ok (.i2b, 1) := by decide +kernel
theorem dX8_retail_78 : decode cX8_retail 78 = .ok (.bastore, 1) := by decide +kernel
theorem dX8_retail_79 : decode cX8_retail 79 = .ok (.iinc 6 1, 3) := by decide +kernel
theorem dX8_retail_82 : decode cX8_retail 82 = .ok (.goto (-31), 3) := by decide +kernel
theorem dX8_retail_85 : decode cX8_retail 85 = .ok (.aload_n 0, 1) := by decide +kernel
theorem dX8_retail_86 : decode cX8_retail 86 = .ok (.aload_n 0, 1) := by decide +kernel
theorem dX8_retail_87 : decode cX8_retail 87 = .ok (.getfield 94, 3) := by decide +kernel
theorem dX8_retail_90 : decode cX8_retail 90 = .ok (.iconst 0, 1) := by decide +kernel
theorem dX8_retail_91 : decode cX8_retail 91 = .ok (.aload_n 1, 1) := by decide +kernel
theorem dX8_retail_92 : decode cX8_retail 92 = .ok (.iload_n 2, 1) := by decide +kernel
theorem dX8_retail_93 : decode cX8_retail 93 = .ok (.iconst 0, 1) := by decide +kernel
theorem dX8_retail_94 : decode cX8_retail 94 = .ok (.invokevirtual 44, 3) := by decide +kernel
theorem dX8_retail_97 : decode cX8_retail 97 = .ok (.iinc 5 8, 3) := by decide +kernel
theorem dX8_retail_100 : decode cX8_retail 100 = .ok (.goto (-61), 3) := by decide +kernel
theorem dX8_retail_103 : decode cX8_retail 103 = .ok (.aload_n 0, 1) := by decide +kernel
theorem dX8_retail_104 : decode cX8_retail 104 = .ok (.aload_n 0, 1) := by decide +kernel
theorem dX8_retail_105 : decode cX8_retail 105 = .ok (.getfield 94, 3) := by decide +kernel
theorem dX8_retail_108 : decode cX8_retail 108 = .ok (.iconst 0, 1) := by decide +kernel
theorem dX8_retail_109 : decode cX8_retail 109 = .ok (.aload_n 1, 1) := by decide +kernel
theorem dX8_retail_110 : decode cX8_retail 110 = .ok (.iload_n 2, 1) := by decide +kernel
theorem dX8_retail_111 : decode cX8_retail 111 = .ok (.bipush 8, 2) := by decide +kernel
theorem dX8_retail_113 : decode cX8_retail 113 = .ok (.iadd, 1) := by decide +kernel
theorem dX8_retail_114 : decode cX8_retail 114 = .ok (.iconst 1, 1) := by decide +kernel
theorem dX8_retail_115 : decode cX8_retail 115 = .ok (.invokevirtual 44, 3) := by decide +kernel
theorem dX8_retail_118 : decode cX8_retail 118 = .ok (.aload_n 0, 1) := by decide +kernel
theorem dX8_retail_119 : decode cX8_retail 119 = .ok (.aload_n 0, 1) := by decide +kernel
theorem dX8_retail_120 : decode cX8_retail 120 = .ok (.getfield 94, 3) := by decide +kernel
theorem dX8_retail_123 : decode cX8_retail 123 = .ok (.iconst 0, 1) := by decide +kernel
theorem dX8_retail_124 : decode cX8_retail 124 = .ok (.aload_n 1, 1) := by decide +kernel
theorem dX8_retail_125 : decode cX8_retail 125 = .ok (.iload_n 2, 1) := by decide +kernel
theorem dX8_retail_126 : decode cX8_retail 126 = .ok (.iconst 0, 1) := by decide +kernel
theorem dX8_retail_127 : decode cX8_retail 127 = .ok (.invokevirtual 44, 3) := by decide +kernel
theorem dX8_retail_130 : decode cX8_retail 130 = .ok (.return_, 1) := by decide +kernel
theorem dX8_shift_0 : decode cX8_shift 0 = .ok (.aload_n 0, 1) := by decide +kernel
theorem dX8_shift_1 : decode cX8_shift 1 = .ok (.iconst 0, 1) := by decide +kernel
theorem dX8_shift_2 : decode cX8_shift 2 = .ok (.baload, 1) := by decide +kernel
theorem dX8_shift_3 : decode cX8_shift 3 = .ok (.bipush 7, 2) := by decide +kernel
theorem dX8_shift_5 : decode cX8_shift 5 = .ok (.ishr, 1) := by decide +kernel
theorem dX8_shift_6 : decode cX8_shift 6 = .ok (.iconst 1, 1) := by decide +kernel
theorem dX8_shift_7 : decode cX8_shift 7 = .ok (.iand, 1) := by decide +kernel
theorem dX8_shift_8 : decode cX8_shift 8 = .ok (.istore_n 1, 1) := by decide +kernel
theorem dX8_shift_9 : decode cX8_shift 9 = .ok (.iconst 0, 1) := by decide +kernel
theorem dX8_shift_10 : decode cX8_shift 10 = .ok (.istore_n 2, 1) := by decide +kernel
theorem dX8_shift_11 : decode cX8_shift 11 = .ok (.iload_n 2, 1) := by decide +kernel
theorem dX8_shift_12 : decode cX8_shift 12 = .ok (.bipush 16, 2) := by decide +kernel
theorem dX8_shift_14 : decode cX8_shift 14 = .ok (.if_icmp .ge 39, 3) := by decide +kernel
theorem dX8_shift_17 : decode cX8_shift 17 = .ok (.aload_n 0, 1) := by decide +kernel
theorem dX8_shift_18 : decode cX8_shift 18 = .ok (.iload_n 2, 1) := by decide +kernel
theorem dX8_shift_19 : decode cX8_shift 19 = .ok (.aload_n 0, 1) := by decide +kernel
theorem dX8_shift_20 : decode cX8_shift 20 = .ok (.iload_n 2, 1) := by decide +kernel
theorem dX8_shift_21 : decode cX8_shift 21 = .ok (.baload, 1) := by decide +kernel
theorem dX8_shift_22 : decode cX8_shift 22 = .ok (.iconst 1, 1) := by decide +kernel
theorem dX8_shift_23 : decode cX8_shift 23 = .ok (.ishl, 1) := by decide +kernel
theorem dX8_shift_24 : decode cX8_shift 24 = .ok (.iload_n 2, 1) := by decide +kernel
theorem dX8_shift_25 : decode cX8_shift 25 = .ok (.bipush 15, 2) := by decide +kernel
theorem dX8_shift_27 : decode cX8_shift 27 = .ok (.if_icmp .ge 16, 3) := by decide +kernel
theorem dX8_shift_30 : decode cX8_shift 30 = .ok (.aload_n 0, 1) := by decide +kernel
theorem dX8_shift_31 : decode cX8_shift 31 = .ok (.iload_n 2, 1) := by decide +kernel
theorem dX8_shift_32 : decode cX8_shift 32 = .ok (.iconst 1, 1) := by decide +kernel
theorem dX8_shift_33 : decode cX8_shift 33 = .ok (.iadd, 1) := by decide +kernel
theorem dX8_shift_34 : decode cX8_shift 34 = .ok (.baload, 1) := by decide +kernel
theorem dX8_shift_35 : decode cX8_shift 35 = .ok (.bipush 7, 2) := by decide +kernel
theorem dX8_shift_37 : decode cX8_shift 37 = .ok (.ishr, 1) := by decide +kernel
theorem dX8_shift_38 : decode cX8_shift 38 = .ok (.iconst 1, 1) := by decide +kernel
theorem dX8_shift_39 : decode cX8_shift 39 = .ok (.iand, 1) := by decide +kernel
theorem dX8_shift_40 : decode cX8_shift 40 = .ok (.goto 4, 3) := by decide +kernel
theorem dX8_shift_43 : decode cX8_shift 43 = .ok (.iconst 0, 1) := by decide +kernel
theorem dX8_shift_44 : decode cX8_shift 44 = .ok (.ior, 1) := by decide +kernel
theorem dX8_shift_45 : decode cX8_shift 45 = .ok (.i2b, 1) := by decide +kernel
theorem dX8_shift_46 : decode cX8_shift 46 = .ok (.bastore, 1) := by decide +kernel
theorem dX8_shift_47 : decode cX8_shift 47 = .ok (.iinc 2 1, 3) := by decide +kernel
theorem dX8_shift_50 : decode cX8_shift 50 = .ok (.goto (-39), 3) := by decide +kernel
theorem dX8_shift_53 : decode cX8_shift 53 = .ok (.iload_n 1, 1) := by decide +kernel
theorem dX8_shift_54 : decode cX8_shift 54 = .ok (.iconst 1, 1) := by decide +kernel
theorem dX8_shift_55 : decode cX8_shift 55 = .ok (.if_icmp .ne 13, 3) := by decide +kernel
theorem dX8_shift_58 : decode cX8_shift 58 = .ok (.aload_n 0, 1) := by decide +kernel
theorem dX8_shift_59 : decode cX8_shift 59 = .ok (.bipush 15, 2) := by decide +kernel
theorem dX8_shift_61 : decode cX8_shift 61 = .ok (.dup2, 1) := by decide +kernel
theorem dX8_shift_62 : decode cX8_shift 62 = .ok (.baload, 1) := by decide +kernel
theorem dX8_shift_63 : decode cX8_shift 63 = .ok (.bipush (-121), 2) := by decide +kernel
theorem dX8_shift_65 : decode cX8_shift 65 = .ok (.ixor, 1) := by decide +kernel
theorem dX8_shift_66 : decode cX8_shift 66 = .ok (.i2b, 1) := by decide +kernel
theorem dX8_shift_67 : decode cX8_shift 67 = .ok (.bastore, 1) := by decide +kernel
theorem dX8_shift_68 : decode cX8_shift 68 = .ok (.return_, 1) := by decide +kernel
set_option maxRecDepth 20000 in
theorem ggX8_cmac_X8_aesKey : GoodIn wsX8_cmac wsX8_aesKey := goodIn_r _ [9, 10, 11, 12, 13, 14, 8, 15, 44, 45, 46, 47, 48, 49, 50, 51, 52, 53, 54, 55, 56, 57, 58, 59, 60, 61, 62, 63, 64, 65, 66, 67, 68, 69, 70, 71, 72, 73, 74, 75, 76, 77, 78] rfl (by decide +kernel)
set_option maxRecDepth 20000 in
theorem gX8_cmac_X8_aesKey : GoodIn wsX8_cmac (wsV RX8 100 RX8 yX8_aesKey wsX8_aesKey) := goodIn_app (goodIn_of _ (by decide +kernel)) ggX8_cmac_X8_aesKey
set_option maxRecDepth 20000 in
theorem ggX8_cmac_X8_aes : GoodIn wsX8_cmac wsX8_aes := goodIn_r _ [19, 10, 20, 21, 12, 22, 23, 24, 8, 25, 11, 26, 27, 28, 29, 30, 31, 32, 13, 14, 15, 44, 45, 46, 47, 48, 49, 50, 51, 52, 53, 54, 55, 56, 57, 58, 59, 60, 61, 62, 63, 64, 65, 66, 67, 68, 69, 70, 71, 72, 73, 74, 75, 76, 77, 78] rfl (by decide +kernel)
set_option maxRecDepth 20000 in
theorem gX8_cmac_X8_aes : GoodIn wsX8_cmac (wsV RX8 106 RX8 yX8_aes wsX8_aes) := goodIn_app (goodIn_of _ (by decide +kernel)) ggX8_cmac_X8_aes
set_option maxRecDepth 20000 in
theorem ggX8_cmac_X8_shift : GoodIn wsX8_cmac wsX8_shift := goodIn_r _ [35] rfl (by decide +kernel)
set_option maxRecDepth 20000 in
theorem gX8_cmac_X8_shift : GoodIn wsX8_cmac (va_wsS RX8 110 yX8_shift wsX8_shift) := goodIn_app (goodIn_of _ (by decide +kernel)) ggX8_cmac_X8_shift
set_option maxRecDepth 20000 in
theorem ggX8_cmac_X8_fillUp : GoodIn wsX8_cmac wsX8_fillUp := goodIn_r _ [39, 2, 40, 41, 42, 8, 43, 3, 44, 45, 46, 47, 48, 49, 50, 51, 52, 53, 54, 55, 56, 57, 58, 59, 60, 61, 62, 63, 64, 65, 66, 67, 68, 69, 70, 71, 72, 73, 74, 75, 76, 77, 78] rfl (by decide +kernel)
set_option maxRecDepth 20000 in
theorem gX8_cmac_X8_fillUp : GoodIn wsX8_cmac (wsV RX8 91 RX8 yX8_fillUp wsX8_fillUp) := goodIn_app (goodIn_of _ (by decide +kernel)) ggX8_cmac_X8_fillUp
theorem dX8_cmac_0 : decode cX8_cmac 0 = .ok (.aload_n 0, 1) := by decide +kernel
theorem dX8_cmac_1 : decode cX8_cmac 1 = .ok (.aload_n 1, 1) := by decide +kernel
theorem dX8_cmac_2 : decode cX8_cmac 2 = .ok (.iload_n 2, 1) := by decide +kernel
theorem dX8_cmac_3 : decode cX8_cmac 3 = .ok (.iload_n 3, 1) := by decide +kernel
theorem dX8_cmac_4 : decode cX8_cmac 4 = .ok (.invokevirtual 100, 3) := by decide +kernel
theorem dX8_cmac_7 : decode cX8_cmac 7 = .ok (.iconst 0, 1) := by decide +kernel
theorem dX8_cmac_8 : decode cX8_cmac 8 = .ok (.istore 4, 2) := by decide +kernel
theorem dX8_cmac_10 : decode cX8_cmac 10 = .ok (.iload 4, 2) := by decide +kernel
theorem dX8_cmac_12 : decode cX8_cmac 12 = .ok (.bipush 16, 2) := by decide +kernel
theorem dX8_cmac_14 : decode cX8_cmac 14 = .ok (.if_icmp .ge 17, 3) := by decide +kernel
theorem dX8_cmac_17 : decode cX8_cmac 17 = .ok (.aload_n 0, 1) := by decide +kernel
theorem dX8_cmac_18 : decode cX8_cmac 18 = .ok (.getfield 103, 3) := by decide +kernel
theorem dX8_cmac_21 : decode cX8_cmac 21 = .ok (.iload 4, 2) := by decide +kernel
theorem dX8_cmac_23 : decode cX8_cmac 23 = .ok (.iconst 0, 1) := by decide +kernel
theorem dX8_cmac_24 : decode cX8_cmac 24 = .ok (.bastore, 1) := by decide +kernel
theorem dX8_cmac_25 : decode cX8_cmac 25 = .ok (.iinc 4 1, 3) := by decide +kernel
theorem dX8_cmac_28 : decode cX8_cmac 28 = .ok (.goto (-18), 3) := by decide +kernel
theorem dX8_cmac_31 : decode cX8_cmac 31 = .ok (.aload_n 0, 1) := by decide +kernel
theorem dX8_cmac_32 : decode cX8_cmac 32 = .ok (.aload_n 0, 1) := by decide +kernel
theorem dX8_cmac_33 : decode cX8_cmac 33 = .ok (.getfield 103, 3) := by decide +kernel
theorem dX8_cmac_36 : decode cX8_cmac 36 = .ok (.iconst 0, 1) := by decide +kernel
theorem dX8_cmac_37 : decode cX8_cmac 37 = .ok (.iconst 0, 1) := by decide +kernel
theorem dX8_cmac_38 : decode cX8_cmac 38 = .ok (.invokevirtual 106, 3) := by decide +kernel
theorem dX8_cmac_41 : decode cX8_cmac 41 = .ok (.aload_n 0, 1) := by decide +kernel
theorem dX8_cmac_42 : decode cX8_cmac 42 = .ok (.getfield 103, 3) := by decide +kernel
theorem dX8_cmac_45 : decode cX8_cmac 45 = .ok (.invokestatic 110, 3) := by decide +kernel
theorem dX8_cmac_48 : decode cX8_cmac 48 = .ok (.aload_n 0, 1) := by decide +kernel
theorem dX8_cmac_49 : decode cX8_cmac 49 = .ok (.getfield 81, 3) := by decide +kernel
theorem dX8_cmac_52 : decode cX8_cmac 52 = .ok (.ifCond .le 17, 3) := by decide +kernel
theorem dX8_cmac_55 : decode cX8_cmac 55 = .ok (.aload_n 0, 1) := by decide +kernel
theorem dX8_cmac_56 : decode cX8_cmac 56 = .ok (.getfield 81, 3) := by decide +kernel
theorem dX8_cmac_59 : decode cX8_cmac 59 = .ok (.bipush 16, 2) := by decide +kernel
theorem dX8_cmac_61 : decode cX8_cmac 61 = .ok (.irem, 1) := by decide +kernel
theorem dX8_cmac_62 : decode cX8_cmac 62 = .ok (.ifCond .ne 7, 3) := by decide +kernel
theorem dX8_cmac_65 : decode cX8_cmac 65 = .ok (.iconst 1, 1) := by decide +kernel
theorem dX8_cmac_66 : decode cX8_cmac 66 = .ok (.goto 4, 3) := by decide +kernel
theorem dX8_cmac_69 : decode cX8_cmac 69 = .ok (.iconst 0, 1) := by decide +kernel
theorem dX8_cmac_70 : decode cX8_cmac 70 = .ok (.istore 4, 2) := by decide +kernel
theorem dX8_cmac_72 : decode cX8_cmac 72 = .ok (.iload 4, 2) := by decide +kernel
theorem dX8_cmac_74 : decode cX8_cmac 74 = .ok (.ifCond .ne 16, 3) := by decide +kernel
theorem dX8_cmac_77 : decode cX8_cmac 77 = .ok (.aload_n 0, 1) := by decide +kernel
theorem dX8_cmac_78 : decode cX8_cmac 78 = .ok (.getfield 103, 3) := by decide +kernel
theorem dX8_cmac_81 : decode cX8_cmac 81 = .ok (.invokestatic 110, 3) := by decide +kernel
theorem dX8_cmac_84 : decode cX8_cmac 84 = .ok (.aload_n 0, 1) := by decide +kernel
theorem dX8_cmac_85 : decode cX8_cmac 85 = .ok (.bipush 16, 2) := by decide +kernel
theorem dX8_cmac_87 : decode cX8_cmac 87 = .ok (.invokevirtual 91, 3) := by decide +kernel
theorem dX8_cmac_90 : decode cX8_cmac 90 = .ok (.iconst 0, 1) := by decide +kernel
theorem dX8_cmac_91 : decode cX8_cmac 91 = .ok (.istore 5, 2) := by decide +kernel
theorem dX8_cmac_93 : decode cX8_cmac 93 = .ok (.iload 5, 2) := by decide +kernel
theorem dX8_cmac_95 : decode cX8_cmac 95 = .ok (.bipush 16, 2) := by decide +kernel
theorem dX8_cmac_97 : decode cX8_cmac 97 = .ok (.if_icmp .ge 43, 3) := by decide +kernel
theorem dX8_cmac_100 : decode cX8_cmac 100 = .ok (.aload_n 0, 1) := by decide +kernel
theorem dX8_cmac_101 : decode cX8_cmac 101 = .ok (.getfield 84, 3) := by decide +kernel
theorem dX8_cmac_104 : decode cX8_cmac 104 = .ok (.aload_n 0, 1) := by decide +kernel
theorem dX8_cmac_105 : decode cX8_cmac 105 = .ok (.getfield 81, 3) := by decide +kernel
theorem dX8_cmac_108 : decode cX8_cmac 108 = .ok (.bipush 16, 2) := by decide +kernel
theorem dX8_cmac_110 : decode cX8_cmac 110 = .ok (.isub, 1) := by decide +kernel
theorem dX8_cmac_111 : decode cX8_cmac 111 = .ok (.iload 5, 2) := by decide +kernel
theorem dX8_cmac_113 : decode cX8_cmac 113 = .ok (.iadd, 1) := by decide +kernel
theorem dX8_cmac_114 : decode cX8_cmac 114 = .ok (.dup2, 1) := by decide +kernel
theorem dX8_cmac_115 : decode cX8_cmac 115 = .ok (.baload, 1) := by decide +kernel
theorem dX8_cmac_116 : decode cX8_cmac 116 = .ok (.aload_n 0, 1) := by decide +kernel
theorem dX8_cmac_117 : decode cX8_cmac 117 = .ok (.getfield 103, 3) := by decide +kernel
theorem dX8_cmac_120 : decode cX8_cmac 120 = .ok (.iload 5, 2) := by decide +kernel
theorem dX8_cmac_122 : decode cX8_cmac 122 = .ok (.baload, 1) := by decide +kernel
theorem dX8_cmac_123 : decode cX8_cmac 123 = .ok (.ixor, 1) := by decide +kernel
theorem dX8_cmac_124 : decode cX8_cmac 124 = .ok (.i2b, 1) := by decide +kernel
theorem dX8_cmac_125 : decode cX8_cmac 125 = .ok (.bastore, 1) := by decide +kernel
theorem dX8_cmac_126 : decode cX8_cmac 126 = .ok (.aload_n 0, 1) := by decide +kernel
theorem dX8_cmac_127 : decode cX8_cmac 127 = .ok (.getfield 94, 3) := by decide +kernel
theorem dX8_cmac_130 : decode cX8_cmac 130 = .ok (.iload 5, 2) := by decide +kernel
theorem dX8_cmac_132 : decode cX8_cmac 132 = .ok (.iconst 0, 1) := by decide +kernel
theorem dX8_cmac_133 : decode cX8_cmac 133 = .ok (.bastore, 1) := by decide +kernel
theorem dX8_cmac_134 : decode cX8_cmac 134 = .ok (.iinc 5 1, 3) := by decide +kernel
theorem dX8_cmac_137 : decode cX8_cmac 137 = .ok (.goto (-44), 3) := by decide +kernel
theorem dX8_cmac_140 : decode cX8_cmac 140 = .ok (.iconst 0, 1) := by decide +kernel
theorem dX8_cmac_141 : decode cX8_cmac 141 = .ok (.istore 5, 2) := by decide +kernel
theorem dX8_cmac_143 : decode cX8_cmac 143 = .ok (.iload 5, 2) := by decide +kernel
theorem dX8_cmac_145 : decode cX8_cmac 145 = .ok (.aload_n 0, 1) := by decide +kernel
theorem dX8_cmac_146 : decode cX8_cmac 146 = .ok (.getfield 81, 3) := by decide +kernel
theorem dX8_cmac_149 : decode cX8_cmac 149 = .ok (.if_icmp .ge 56, 3) := by decide +kernel
theorem dX8_cmac_152 : decode cX8_cmac 152 = .ok (.iconst 0, 1) := by decide +kernel
theorem dX8_cmac_153 : decode cX8_cmac 153 = .ok (.istore 6, 2) := by decide +kernel
theorem dX8_cmac_155 : decode cX8_cmac 155 = .ok (.iload 6, 2) := by decide +kernel
theorem dX8_cmac_157 : decode cX8_cmac 157 = .ok (.bipush 16, 2) := by decide +kernel
theorem dX8_cmac_159 : decode cX8_cmac 159 = .ok (.if_icmp .ge 30, 3) := by decide +kernel
theorem dX8_cmac_162 : decode cX8_cmac 162 = .ok (.aload_n 0, 1) := by decide +kernel
theorem dX8_cmac_163 : decode cX8_cmac 163 = .ok (.getfield 94, 3) := by decide +kernel
theorem dX8_cmac_166 : decode cX8_cmac 166 = .ok (.iload 6, 2) := by decide +kernel
theorem dX8_cmac_168 : decode cX8_cmac 168 = .ok (.dup2, 1) := by decide +kernel
theorem dX8_cmac_169 : decode cX8_cmac 169 = .ok (.baload, 1) := by decide +kernel
theorem dX8_cmac_170 : decode cX8_cmac 170 = .ok (.aload_n 0, 1) := by decide +kernel
theorem dX8_cmac_171 : decode cX8_cmac 171 = .ok (.getfield 84, 3) := by decide +kernel
theorem dX8_cmac_174 : decode cX8_cmac 174 = .ok (.iload 5, 2) := by decide +kernel
theorem dX8_cmac_176 : decode cX8_cmac 176 = .ok (.iload 6, 2) := by decide +kernel
theorem dX8_cmac_178 : decode cX8_cmac 178 = .ok (.iadd, 1) := by decide +kernel
theorem dX8_cmac_179 : decode cX8_cmac 179 = .ok (.baload, 1) := by decide +kernel
theorem dX8_cmac_180 : decode cX8_cmac 180 = .ok (.ixor, 1) := by decide +kernel
theorem dX8_cmac_181 : decode cX8_cmac 181 = .ok (.i2b, 1) := by decide +kernel
theorem dX8_cmac_182 : decode cX8_cmac 182 = .ok (.bastore, 1) := by decide +kernel
theorem dX8_cmac_183 : decode cX8_cmac 183 = .ok (.iinc 6 1, 3) := by decide +kernel
theorem dX8_cmac_186 : decode cX8_cmac 186 = .ok (.goto (-31), 3) := by decide +kernel
theorem dX8_cmac_189 : decode cX8_cmac 189 = .ok (.aload_n 0, 1) := by decide +kernel
theorem dX8_cmac_190 : decode cX8_cmac 190 = .ok (.aload_n 0, 1) := by decide +kernel
theorem dX8_cmac_191 : decode cX8_cmac 191 = .ok (.getfield 94, 3) := by decide +kernel
theorem dX8_cmac_194 : decode cX8_cmac 194 = .ok (.iconst 0, 1) := by decide +kernel
theorem dX8_cmac_195 : decode cX8_cmac 195 = .ok (.iconst 0, 1) := by decide +kernel
theorem dX8_cmac_196 : decode cX8_cmac 196 = .ok (.invokevirtual 106, 3) := by decide +kernel
theorem dX8_cmac_199 : decode cX8_cmac 199 = .ok (.iinc 5 16, 3) := by decide +kernel
theorem dX8_cmac_202 : decode cX8_cmac 202 = .ok (.goto (-59), 3) := by decide +kernel
theorem dX8_cmac_205 : decode cX8_cmac 205 = .ok (.return_, 1) := by decide +kernel
set_option maxRecDepth 20000 in
theorem ggX8_kdf_X8_start : GoodIn wsX8_kdf wsX8_start := goodIn_r _ [7, 8, 57, 58, 59, 60, 61, 62, 63, 64, 65, 66, 67, 68, 69, 70, 71, 72, 73, 74, 75, 76, 77, 78, 79, 80, 81, 82, 83, 84, 85, 86, 87, 88, 89, 90, 91] rfl (by decide +kernel)
set_option maxRecDepth 20000 in
theorem gX8_kdf_X8_start : GoodIn wsX8_kdf (wsV RX8 114 RX8 yX8_start wsX8_start) := goodIn_app (goodIn_of _ (by decide +kernel)) ggX8_kdf_X8_start
set_option maxRecDepth 20000 in
theorem ggX8_kdf_X8_add : GoodIn wsX8_kdf wsX8_add := goodIn_r _ [12, 13, 8, 57, 58, 59, 60, 61, 62, 63, 64, 65, 66, 67, 68, 69, 70, 71, 72, 73, 74, 75, 76, 77, 78, 79, 80, 81, 82, 83, 84, 85, 86, 87, 88, 89, 90, 91] rfl (by decide +kernel)
set_option maxRecDepth 20000 in
theorem gX8_kdf_X8_add : GoodIn wsX8_kdf (wsV RX8 87 RX8 yX8_add wsX8_add) := goodIn_app (goodIn_of _ (by decide +kernel)) ggX8_kdf_X8_add
set_option maxRecDepth 20000 in
theorem ggX8_kdf_X8_addAll : GoodIn wsX8_kdf wsX8_addAll := goodIn_r _ [17, 9, 10, 11, 6, 12, 13, 8, 57, 58, 59, 60, 61, 62, 63, 64, 65, 66, 67, 68, 69, 70, 71, 72, 73, 74, 75, 76, 77, 78, 79, 80, 81, 82, 83, 84, 85, 86, 87, 88, 89, 90, 91] rfl (by decide +kernel)
