theorem dX8_key_84 : decode cX8_key 84 = .ok (.getfield 227, 3) := by decide +kernel
theorem dX8_key_87 : decode cX8_key 87 = .ok (.iload 4, 2) := by decide +kernel
theorem dX8_key_89 : decode cX8_key 89 = .ok (.baload, 1) := by decide +kernel
theorem dX8_key_90 : decode cX8_key 90 = .ok (.bastore, 1) := by decide +kernel
theorem dX8_key_91 : decode cX8_key 91 = .ok (.iinc 4 1, 3) := by decide +kernel
theorem dX8_key_94 : decode cX8_key 94 = .ok (.goto (-23), 3) := by decide +kernel
theorem dX8_key_97 : decode cX8_key 97 = .ok (.iconst 1, 1) := by decide +kernel
theorem dX8_key_98 : decode cX8_key 98 = .ok (.ireturn, 1) := by decide +kernel
set_option maxRecDepth 20000 in
theorem ggX8_begin_X8_use : GoodIn wsX8_begin wsX8_use := goodIn_r _ [7, 8, 9, 10, 11, 12, 13, 14, 15, 16, 17, 18, 19, 20, 21, 22, 23, 24, 25, 26, 27, 28, 29, 30, 31, 32, 33, 34, 35, 36, 37, 38, 39, 40, 41, 42, 43] rfl (by decide +kernel)
set_option maxRecDepth 20000 in
theorem gX8_begin_X8_use : GoodIn wsX8_begin (wsV RX8 254 RX8 yX8_use wsX8_use) := goodIn_app (goodIn_of _ (by decide +kernel)) ggX8_begin_X8_use
theorem dX8_begin_0 : decode cX8_begin 0 = .ok (.aload_n 0, 1) := by decide +kernel
theorem dX8_begin_1 : decode cX8_begin 1 = .ok (.invokevirtual 254, 3) := by decide +kernel
theorem dX8_begin_4 : decode cX8_begin 4 = .ok (.istore_n 1, 1) := by decide +kernel
theorem dX8_begin_5 : decode cX8_begin 5 = .ok (.iload_n 1, 1) := by decide +kernel
theorem dX8_begin_6 : decode cX8_begin 6 = .ok (.bipush 16, 2) := by decide +kernel
theorem dX8_begin_8 : decode cX8_begin 8 = .ok (.if_icmp .eq 5, 3) := by decide +kernel
theorem dX8_begin_11 : decode cX8_begin 11 = .ok (.iconst (-1), 1) := by decide +kernel
theorem dX8_begin_12 : decode cX8_begin 12 = .ok (.ireturn, 1) := by decide +kernel
theorem dX8_begin_13 : decode cX8_begin 13 = .ok (.iconst 0, 1) := by decide +kernel
theorem dX8_begin_14 : decode cX8_begin 14 = .ok (.istore_n 2, 1) := by decide +kernel
theorem dX8_begin_15 : decode cX8_begin 15 = .ok (.iload_n 2, 1) := by decide +kernel
theorem dX8_begin_16 : decode cX8_begin 16 = .ok (.bipush 16, 2) := by decide +kernel
theorem dX8_begin_18 : decode cX8_begin 18 = .ok (.if_icmp .ge 21, 3) := by decide +kernel
theorem dX8_begin_21 : decode cX8_begin 21 = .ok (.aload_n 0, 1) := by decide +kernel
theorem dX8_begin_22 : decode cX8_begin 22 = .ok (.getfield 239, 3) := by decide +kernel
theorem dX8_begin_25 : decode cX8_begin 25 = .ok (.iload_n 2, 1) := by decide +kernel
theorem dX8_begin_26 : decode cX8_begin 26 = .ok (.aload_n 0, 1) := by decide +kernel
theorem dX8_begin_27 : decode cX8_begin 27 = .ok (.getfield 227, 3) := by decide +kernel
theorem dX8_begin_30 : decode cX8_begin 30 = .ok (.iload_n 2, 1) := by decide +kernel
theorem dX8_begin_31 : decode cX8_begin 31 = .ok (.baload, 1) := by decide +kernel
theorem dX8_begin_32 : decode cX8_begin 32 = .ok (.bastore, 1) := by decide +kernel
theorem dX8_begin_33 : decode cX8_begin 33 = .ok (.iinc 2 1, 3) := by decide +kernel
theorem dX8_begin_36 : decode cX8_begin 36 = .ok (.goto (-21), 3) := by decide +kernel
theorem dX8_begin_39 : decode cX8_begin 39 = .ok (.iconst 1, 1) := by decide +kernel
theorem dX8_begin_40 : decode cX8_begin 40 = .ok (.ireturn, 1) := by decide +kernel
set_option maxRecDepth 20000 in
theorem ggX8_oneBlock_X8_des3 : GoodIn wsX8_oneBlock wsX8_des3 := goodIn_r _ [8, 9, 10, 11, 7, 12, 13, 14, 15, 16, 17, 18, 19, 20, 21, 22, 23, 24, 25, 26, 27, 28, 52, 53, 54, 55, 56, 57, 58, 59, 60, 61, 62, 63, 64, 65, 66, 67, 68, 69, 70, 71, 72, 73, 74, 75, 76, 77, 78, 79, 80, 81, 82, 83, 84, 85, 86] rfl (by decide +kernel)
set_option maxRecDepth 20000 in
theorem gX8_oneBlock_X8_des3 : GoodIn wsX8_oneBlock (wsV RX8 97 RX8 yX8_des3 wsX8_des3) := goodIn_app (goodIn_of _ (by decide +kernel)) ggX8_oneBlock_X8_des3
set_option maxRecDepth 20000 in
theorem ggX8_oneBlock_X8_aes : GoodIn wsX8_oneBlock wsX8_aes := goodIn_r _ [32, 33, 34, 35, 36, 37, 38, 39, 7, 40, 41, 42, 43, 44, 45, 46, 47, 48, 49, 50, 51, 52, 53, 54, 55, 56, 57, 58, 59, 60, 61, 62, 63, 64, 65, 66, 67, 68, 69, 70, 71, 72, 73, 74, 75, 76, 77, 78, 79, 80, 81, 82, 83, 84, 85, 86] rfl (by decide +kernel)
set_option maxRecDepth 20000 in
theorem gX8_oneBlock_X8_aes : GoodIn wsX8_oneBlock (wsV RX8 106 RX8 yX8_aes wsX8_aes) := goodIn_app (goodIn_of _ (by decide +kernel)) ggX8_oneBlock_X8_aes
theorem dX8_oneBlock_0 : decode cX8_oneBlock 0 = .ok (.aload_n 0, 1) := by decide +kernel
theorem dX8_oneBlock_1 : decode cX8_oneBlock 1 = .ok (.getfield 233, 3) := by decide +kernel
theorem dX8_oneBlock_4 : decode cX8_oneBlock 4 = .ok (.ifCond .ne 21, 3) := by decide +kernel
theorem dX8_oneBlock_7 : decode cX8_oneBlock 7 = .ok (.aload_n 0, 1) := by decide +kernel
theorem dX8_oneBlock_8 : decode cX8_oneBlock 8 = .ok (.aload_n 0, 1) := by decide +kernel
theorem dX8_oneBlock_9 : decode cX8_oneBlock 9 = .ok (.getfield 230, 3) := by decide +kernel
theorem dX8_oneBlock_12 : decode cX8_oneBlock 12 = .ok (.iload_n 1, 1) := by decide +kernel
theorem dX8_oneBlock_13 : decode cX8_oneBlock 13 = .ok (.aload_n 0, 1) := by decide +kernel
theorem dX8_oneBlock_14 : decode cX8_oneBlock 14 = .ok (.getfield 236, 3) := by decide +kernel
theorem dX8_oneBlock_17 : decode cX8_oneBlock 17 = .ok (.iconst 0, 1) := by decide +kernel
theorem dX8_oneBlock_18 : decode cX8_oneBlock 18 = .ok (.iload_n 2, 1) := by decide +kernel
theorem dX8_oneBlock_19 : decode cX8_oneBlock 19 = .ok (.invokevirtual 97, 3) := by decide +kernel
theorem dX8_oneBlock_22 : decode cX8_oneBlock 22 = .ok (.goto 13, 3) := by decide +kernel
theorem dX8_oneBlock_25 : decode cX8_oneBlock 25 = .ok (.aload_n 0, 1) := by decide +kernel
theorem dX8_oneBlock_26 : decode cX8_oneBlock 26 = .ok (.aload_n 0, 1) := by decide +kernel
theorem dX8_oneBlock_27 : decode cX8_oneBlock 27 = .ok (.getfield 230, 3) := by decide +kernel
theorem dX8_oneBlock_30 : decode cX8_oneBlock 30 = .ok (.iload_n 1, 1) := by decide +kernel
theorem dX8_oneBlock_31 : decode cX8_oneBlock 31 = .ok (.iload_n 2, 1) := by decide +kernel
theorem dX8_oneBlock_32 : decode cX8_oneBlock 32 = .ok (.invokevirtual 106, 3) := by decide +kernel
theorem dX8_oneBlock_35 : decode cX8_oneBlock 35 = .ok (.return_, 1) := by decide +kernel
set_option maxRecDepth 20000 in
theorem ggX8_code_X8_use : GoodIn wsX8_code wsX8_use := goodIn_r _ [12, 13, 69, 70, 71, 72, 73, 74, 75, 76, 77, 78, 79, 80, 81, 82, 83, 84, 85, 86, 87, 88, 89, 90, 91, 92, 93, 94, 95, 96, 97, 98, 99, 100, 101, 102, 103] rfl (by decide +kernel)
set_option maxRecDepth 20000 in
theorem gX8_code_X8_use : GoodIn wsX8_code (wsV RX8 254 RX8 yX8_use wsX8_use) := goodIn_app (goodIn_of _ (by decide +kernel)) ggX8_code_X8_use
set_option maxRecDepth 20000 in
theorem ggX8_code_X8_aesKey : GoodIn wsX8_code wsX8_aesKey := goodIn_r _ [17, 18, 19, 20, 21, 22, 11, 23, 69, 70, 71, 72, 73, 74, 75, 76, 77, 78, 79, 80, 81, 82, 83, 84, 85, 86, 87, 88, 89, 90, 91, 92, 93, 94, 95, 96, 97, 98, 99, 100, 101, 102, 103] rfl (by decide +kernel)
set_option maxRecDepth 20000 in
theorem gX8_code_X8_aesKey : GoodIn wsX8_code (wsV RX8 100 RX8 yX8_aesKey wsX8_aesKey) := goodIn_app (goodIn_of _ (by decide +kernel)) ggX8_code_X8_aesKey
set_option maxRecDepth 20000 in
theorem ggX8_code_X8_oneBlock : GoodIn wsX8_code wsX8_oneBlock := goodIn_r _ [27, 1, 4, 2, 28, 29, 30, 11, 31, 32, 33, 34, 35, 36, 37, 38, 39, 40, 41, 42, 43, 44, 45, 46, 47, 48, 49, 50, 51, 52, 53, 54, 55, 18, 56, 57, 20, 58, 59, 60, 61, 19, 62, 63, 64, 65, 66, 67, 68, 21, 22, 23, 69, 70, 71, 72, 73, 74, 75, 76, 77, 78, 79, 80, 81, 82, 83, 84, 85, 86, 87, 88, 89, 90, 91, 92, 93, 94, 95, 96, 97, 98, 99, 100, 101, 102, 103] rfl (by decide +kernel)
set_option maxRecDepth 20000 in
theorem gX8_code_X8_oneBlock : GoodIn wsX8_code (wsV RX8 261 RX8 yX8_oneBlock wsX8_oneBlock) := goodIn_app (goodIn_of _ (by decide +kernel)) ggX8_code_X8_oneBlock
theorem dX8_code_0 : decode cX8_code 0 = .ok (.aload_n 0, 1) := by decide +kernel
theorem dX8_code_1 : decode cX8_code 1 = .ok (.invokevirtual 254, 3) := by decide +kernel
theorem dX8_code_4 : decode cX8_code 4 = .ok (.istore_n 3, 1) := by decide +kernel
theorem dX8_code_5 : decode cX8_code 5 = .ok (.aload_n 0, 1) := by decide +kernel
theorem dX8_code_6 : decode cX8_code 6 = .ok (.getfield 233, 3) := by decide +kernel
theorem dX8_code_9 : decode cX8_code 9 = .ok (.ifCond .ne 8, 3) := by decide +kernel
theorem dX8_code_12 : decode cX8_code 12 = .ok (.bipush 8, 2) := by decide +kernel
theorem dX8_code_14 : decode cX8_code 14 = .ok (.goto 5, 3) := by decide +kernel
theorem dX8_code_17 : decode cX8_code 17 = .ok (.bipush 16, 2) := by decide +kernel
theorem dX8_code_19 : decode cX8_code 19 = .ok (.istore 4, 2) := by decide +kernel
theorem dX8_code_21 : decode cX8_code 21 = .ok (.aload_n 0, 1) := by decide +kernel
theorem dX8_code_22 : decode cX8_code 22 = .ok (.getfield 233, 3) := by decide +kernel
theorem dX8_code_25 : decode cX8_code 25 = .ok (.iconst (-1), 1) := by decide +kernel
theorem dX8_code_26 : decode cX8_code 26 = .ok (.if_icmp .eq 14, 3) := by decide +kernel
theorem dX8_code_29 : decode cX8_code 29 = .ok (.iload_n 3, 1) := by decide +kernel
theorem dX8_code_30 : decode cX8_code 30 = .ok (.ifCond .eq 10, 3) := by decide +kernel
theorem dX8_code_33 : decode cX8_code 33 = .ok (.iload_n 3, 1) := by decide +kernel
theorem dX8_code_34 : decode cX8_code 34 = .ok (.iload 4, 2) := by decide +kernel
theorem dX8_code_36 : decode cX8_code 36 = .ok (.irem, 1) := by decide +kernel
theorem dX8_code_37 : decode cX8_code 37 = .ok (.ifCond .eq 5, 3) := by decide +kernel
theorem dX8_code_40 : decode cX8_code 40 = .ok (.iconst (-1), 1) := by decide +kernel
theorem dX8_code_41 : decode cX8_code 41 = .ok (.ireturn, 1) := by decide +kernel
theorem dX8_code_42 : decode cX8_code 42 = .ok (.aload_n 0, 1) := by decide +kernel
theorem dX8_code_43 : decode cX8_code 43 = .ok (.getfield 233, 3) := by decide +kernel
theorem dX8_code_46 : decode cX8_code 46 = .ok (.iconst 1, 1) := by decide +kernel
theorem dX8_code_47 : decode cX8_code 47 = .ok (.if_icmp .ne 16, 3) := by decide +kernel
theorem dX8_code_50 : decode cX8_code 50 = .ok (.aload_n 0, 1) := by decide +kernel
theorem dX8_code_51 : decode cX8_code 51 = .ok (.aload_n 0, 1) := by decide +kernel
theorem dX8_code_52 : decode cX8_code 52 = .ok (.getfield 236, 3) := by decide +kernel
theorem dX8_code_55 : decode cX8_code 55 = .ok (.iconst 0, 1) := by decide +kernel
theorem dX8_code_56 : decode cX8_code 56 = .ok (.aload_n 0, 1) := by decide +kernel
theorem dX8_code_57 : decode cX8_code 57 = .ok (.getfield 258, 3) := by decide +kernel
theorem dX8_code_60 : decode cX8_code 60 = .ok (.invokevirtual 100, 3) := by decide +kernel
theorem dX8_code_63 : decode cX8_code 63 = .ok (.iconst 0, 1) := by decide +kernel
theorem dX8_code_64 : decode cX8_code 64 = .ok (.istore 5, 2) := by decide +kernel
theorem dX8_code_66 : decode cX8_code 66 = .ok (.iload 5, 2) := by decide +kernel
theorem dX8_code_68 : decode cX8_code 68 = .ok (.iload_n 3, 1) := by decide +kernel
theorem dX8_code_69 : decode cX8_code 69 = .ok (.if_icmp .ge 23, 3) := by decide +kernel
theorem dX8_code_72 : decode cX8_code 72 = .ok (.aload_n 0, 1) := by decide +kernel
theorem dX8_code_73 : decode cX8_code 73 = .ok (.getfield 230, 3) := by decide +kernel
theorem dX8_code_76 : decode cX8_code 76 = .ok (.iload 5, 2) := by decide +kernel
theorem dX8_code_78 : decode cX8_code 78 = .ok (.aload_n 0, 1) := by decide +kernel
theorem dX8_code_79 : decode cX8_code 79 = .ok (.getfield 227, 3) := by decide +kernel
theorem dX8_code_82 : decode cX8_code 82 = .ok (.iload 5, 2) := by decide +kernel
theorem dX8_code_84 : decode cX8_code 84 = .ok (.baload, 1) := by decide +kernel
theorem dX8_code_85 : decode cX8_code 85 = .ok (.bastore, 1) := by decide +kernel
theorem dX8_code_86 : decode cX8_code 86 = .ok (.iinc 5 1, 3) := by decide +kernel
theorem dX8_code_89 : decode cX8_code 89 = .ok (.goto (-23), 3) := by decide +kernel
theorem dX8_code_92 : decode cX8_code 92 = .ok (.iconst 0, 1) := by decide +kernel
theorem dX8_code_93 : decode cX8_code 93 = .ok (.istore 5, 2) := by decide +kernel
theorem dX8_code_95 : decode cX8_code 95 = .ok (.iload 5, 2) := by decide +kernel
theorem dX8_code_97 : decode cX8_code 97 = .ok (.iload_n 3, 1) := by decide +kernel
theorem dX8_code_98 : decode cX8_code 98 = .ok (.if_icmp .ge 152, 3) := by decide +kernel
theorem dX8_code_101 : decode cX8_code 101 = .ok (.iconst 0, 1) := by decide +kernel
theorem dX8_code_102 : decode cX8_code 102 = .ok (.istore 6, 2) := by decide +kernel
theorem dX8_code_104 : decode cX8_code 104 = .ok (.iload 6, 2) := by decide +kernel
theorem dX8_code_106 : decode cX8_code 106 = .ok (.iload 4, 2) := by decide +kernel
theorem dX8_code_108 : decode cX8_code 108 = .ok (.if_icmp .ge 59, 3) := by decide +kernel
theorem dX8_code_111 : decode cX8_code 111 = .ok (.iload_n 1, 1) := by decide +kernel
theorem dX8_code_112 : decode cX8_code 112 = .ok (.ifCond .eq 55, 3) := by decide +kernel
theorem dX8_code_115 : decode cX8_code 115 = .ok (.iload_n 2, 1) := by decide +kernel
theorem dX8_code_116 : decode cX8_code 116 = .ok (.ifCond .ne 51, 3) := by decide +kernel
theorem dX8_code_119 : decode cX8_code 119 = .ok (.aload_n 0, 1) := by decide +kernel
theorem dX8_code_120 : decode cX8_code 120 = .ok (.getfield 230, 3) := by decide +kernel
theorem dX8_code_123 : decode cX8_code 123 = .ok (.iload 5, 2) := by decide +kernel
theorem dX8_code_125 : decode cX8_code 125 = .ok (.iload 6, 2) := by decide +kernel
theorem dX8_code_127 : decode cX8_code 127 = .ok (.iadd, 1) := by decide +kernel
theorem dX8_code_128 : decode cX8_code 128 = .ok (.dup2, 1) := by decide +kernel
theorem dX8_code_129 : decode cX8_code 129 = .ok (.baload, 1) := by decide +kernel
theorem dX8_code_130 : decode cX8_code 130 = .ok (.iload 5, 2) := by decide +kernel
theorem dX8_code_132 : decode cX8_code 132 = .ok (.ifCond .ne 13, 3) := by decide +kernel
theorem dX8_code_135 : decode cX8_code 135 = .ok (.aload_n 0, 1) := by decide +kernel
theorem dX8_code_136 : decode cX8_code 136 = .ok (.getfield 239, 3) := by decide +kernel
theorem dX8_code_139 : decode cX8_code 139 = .ok (.iload 6, 2) := by decide +kernel
theorem dX8_code_141 : decode cX8_code 141 = .ok (.baload, 1) := by decide +kernel
theorem dX8_code_142 : decode cX8_code 142 = .ok (.goto 16, 3) := by decide +kernel
theorem dX8_code_145 : decode cX8_code 145 = .ok (.aload_n 0, 1) := by decide +kernel
theorem dX8_code_146 : decode cX8_code 146 = .ok (.getfield 230, 3) := by decide +kernel
theorem dX8_code_149 : decode cX8_code 149 = .ok (.iload 5, 2) := by decide +kernel
theorem dX8_code_151 : decode cX8_code 151 = .ok (.iload 4, 2) := by decide +kernel
theorem dX8_code_153 : decode cX8_code 153 = .ok (.isub, 1) := by decide +kernel
theorem dX8_code_154 : decode cX8_code 154 = .ok (.iload 6, 2) := by decide +kernel
theorem dX8_code_156 : decode cX8_code 156 = .ok (.iadd, 1) := by decide +kernel
theorem dX8_code_157 : decode cX8_code 157 = .ok (.baload, 1) := by decide +kernel
theorem dX8_code_158 : decode cX8_code 158 = .ok (.ixor, 1) := by decide +kernel
theorem dX8_code_159 : decode cX8_code 159 = .ok (.i2b, 1) := by decide +kernel
theorem dX8_code_160 : decode cX8_code 160 = .ok (.bastore, 1) := by decide +kernel
theorem dX8_code_161 : decode cX8_code 161 = .ok (.iinc 6 1, 3) := by decide +kernel
theorem dX8_code_164 : decode cX8_code 164 = .ok (.goto (-60), 3) := by decide +kernel
theorem dX8_code_167 : decode cX8_code 167 = .ok (.aload_n 0, 1) := by decide +kernel
theorem dX8_code_168 : decode cX8_code 168 = .ok (.iload 5, 2) := by decide +kernel
theorem dX8_code_170 : decode cX8_code 170 = .ok (.iload_n 2, 1) := by decide +kernel
theorem dX8_code_171 : decode cX8_code 171 = .ok (.invokevirtual 261, 3) := by decide +kernel
theorem dX8_code_174 : decode cX8_code 174 = .ok (.iconst 0, 1) := by decide +kernel
theorem dX8_code_175 : decode cX8_code 175 = .ok (.istore 6, 2) := by decide +kernel
theorem dX8_code_177 : decode cX8_code 177 = .ok (.iload 6, 2) := by decide +kernel
theorem dX8_code_179 : decode cX8_code 179 = .ok (.iload 4, 2) := by decide +kernel
theorem dX8_code_181 : decode cX8_code 181 = .ok (.if_icmp .ge 59, 3) := by decide +kernel
theorem dX8_code_184 : decode cX8_code 184 = .ok (.iload_n 1, 1) := by decide +kernel
theorem dX8_code_185 : decode cX8_code 185 = .ok (.ifCond .eq 55, 3) := by decide +kernel
theorem dX8_code_188 : decode cX8_code 188 = .ok (.iload_n 2, 1) := by decide +kernel
theorem dX8_code_189 : decode cX8_code 189 = .ok (.ifCond .eq 51, 3) := by decide +kernel
theorem dX8_code_192 : decode cX8_code 192 = .ok (.aload_n 0, 1) := by decide +kernel
theorem dX8_code_193 : decode cX8_code 193 = .ok (.getfield 230, 3) := by decide +kernel
theorem dX8_code_196 : decode cX8_code 196 = .ok (.iload 5, 2) := by decide +kernel
theorem dX8_code_198 : decode cX8_code 198 = .ok (.iload 6, 2) := by decide +kernel
theorem dX8_code_200 : decode cX8_code 200 = .ok (.iadd, 1) := by decide +kernel
theorem dX8_code_201 : decode cX8_code 201 = .ok (.dup2, 1) := by decide +kernel
theorem dX8_code_202 : decode cX8_code 202 = .ok (.baload, 1) := by decide +kernel
theorem dX8_code_203 : decode cX8_code 203 = .ok (.iload 5, 2) := by decide +kernel
theorem dX8_code_205 : decode cX8_code 205 = .ok (.ifCond .ne 13, 3) := by decide +kernel
theorem dX8_code_208 : decode cX8_code 208 = .ok (.aload_n 0, 1) := by decide +kernel
theorem dX8_code_209 : decode cX8_code 209 = .ok (.getfield 239, 3) := by decide +kernel
theorem dX8_code_212 : decode cX8_code 212 = .ok (.iload 6, 2) := by decide +kernel
theorem dX8_code_214 : decode cX8_code 214 = .ok (.baload, 1) := by decide +kernel
theorem dX8_code_215 : decode cX8_code 215 = .ok (.goto 16, 3) := by decide +kernel
theorem dX8_code_218 : decode cX8_code 218 = .ok (.aload_n 0, 1) := by decide +kernel
theorem dX8_code_219 : decode cX8_code 219 = .ok (.getfield 227, 3) := by decide +kernel
theorem dX8_code_222 : decode cX8_code 222 = .ok (.iload 5, 2) := by decide +kernel
theorem dX8_code_224 : decode cX8_code 224 = .ok (.iload 4, 2) := by decide +kernel
theorem dX8_code_226 : decode cX8_code 226 = .ok (.isub, 1) := by decide +kernel
theorem dX8_code_227 : decode cX8_code 227 = .ok (.iload 6, 2) := by decide +kernel
theorem dX8_code_229 : decode cX8_code 229 = .ok (.iadd, 1) := by decide +kernel
theorem dX8_code_230 : decode cX8_code 230 = .ok (.baload, 1) := by decide +kernel
theorem dX8_code_231 : decode cX8_code 231 = .ok (.ixor, 1) := by decide +kernel
theorem dX8_code_232 : decode cX8_code 232 = .ok (.i2b, 1) := by decide +kernel
theorem dX8_code_233 : decode cX8_code 233 = .ok (.bastore, 1) := by decide +kernel
theorem dX8_code_234 : decode cX8_code 234 = .ok (.iinc 6 1, 3) := by decide +kernel
theorem dX8_code_237 : decode cX8_code 237 = .ok (.goto (-60), 3) := by decide +kernel
theorem dX8_code_240 : decode cX8_code 240 = .ok (.iload 5, 2) := by decide +kernel
theorem dX8_code_242 : decode cX8_code 242 = .ok (.iload 4, 2) := by decide +kernel
theorem dX8_code_244 : decode cX8_code 244 = .ok (.iadd, 1) := by decide +kernel
theorem dX8_code_245 : decode cX8_code 245 = .ok (.istore 5, 2) := by decide +kernel
theorem dX8_code_247 : decode cX8_code 247 = .ok (.goto (-152), 3) := by decide +kernel
theorem dX8_code_250 : decode cX8_code 250 = .ok (.aload_n 0, 1) := by decide +kernel
theorem dX8_code_251 : decode cX8_code 251 = .ok (.iload_n 3, 1) := by decide +kernel
theorem dX8_code_252 : decode cX8_code 252 = .ok (.putfield 251, 3) := by decide +kernel
theorem dX8_code_255 : decode cX8_code 255 = .ok (.iload_n 3, 1) := by decide +kernel
theorem dX8_code_256 : decode cX8_code 256 = .ok (.ireturn, 1) := by decide +kernel
set_option maxRecDepth 20000 in
theorem ggX8_pad_X8_use : GoodIn wsX8_pad wsX8_use := goodIn_r _ [8, 9, 10, 11, 12, 13, 14, 15, 16, 17, 18, 19, 20, 21, 22, 23, 24, 25, 26, 27, 28, 29, 30, 31, 32, 33, 34, 35, 36, 37, 38, 39, 40, 41, 42, 43, 44] rfl (by decide +kernel)
set_option maxRecDepth 20000 in
theorem gX8_pad_X8_use : GoodIn wsX8_pad (wsV RX8 254 RX8 yX8_use wsX8_use) := goodIn_app (goodIn_of _ (by decide +kernel)) ggX8_pad_X8_use
theorem dX8_pad_0 : decode cX8_pad 0 = .ok (.aload_n 0, 1) := by decide +kernel
theorem dX8_pad_1 : decode cX8_pad 1 = .ok (.invokevirtual 254, 3) := by decide +kernel
theorem dX8_pad_4 : decode cX8_pad 4 = .ok (.istore_n 2, 1) := by decide +kernel
theorem dX8_pad_5 : decode cX8_pad 5 = .ok (.iload_n 1, 1) := by decide +kernel
theorem dX8_pad_6 : decode cX8_pad 6 = .ok (.bipush 8, 2) := by decide +kernel
theorem dX8_pad_8 : decode cX8_pad 8 = .ok (.if_icmp .eq 11, 3) := by decide +kernel
theorem dX8_pad_11 : decode cX8_pad 11 = .ok (.iload_n 1, 1) := by decide +kernel
theorem dX8_pad_12 : decode cX8_pad 12 = .ok (.bipush 16, 2) := by decide +kernel
theorem dX8_pad_14 : decode cX8_pad 14 = .ok (.if_icmp .eq 5, 3) := by decide +kernel
theorem dX8_pad_17 : decode cX8_pad 17 = .ok (.iconst (-1), 1) := by decide +kernel
theorem dX8_pad_18 : decode cX8_pad 18 = .ok (.ireturn, 1) := by decide +kernel
theorem dX8_pad_19 : decode cX8_pad 19 = .ok (.iload_n 2, 1) := by decide +kernel
theorem dX8_pad_20 : decode cX8_pad 20 = .ok (.iload_n 1, 1) := by decide +kernel
theorem dX8_pad_21 : decode cX8_pad 21 = .ok (.idiv, 1) := by decide +kernel
theorem dX8_pad_22 : decode cX8_pad 22 = .ok (.iconst 1, 1) := by decide +kernel
theorem dX8_pad_23 : decode cX8_pad 23 = .ok (.iadd, 1) := by decide +kernel
theorem dX8_pad_24 : decode cX8_pad 24 = .ok (.iload_n 1, 1) := by decide +kernel
theorem dX8_pad_25 : decode cX8_pad 25 = .ok (.imul, 1) := by decide +kernel
theorem dX8_pad_26 : decode cX8_pad 26 = .ok (.istore_n 3, 1) := by decide +kernel
theorem dX8_pad_27 : decode cX8_pad 27 = .ok (.iload_n 3, 1) := by decide +kernel
theorem dX8_pad_28 : decode cX8_pad 28 = .ok (.sipush 400, 3) := by decide +kernel
theorem dX8_pad_31 : decode cX8_pad 31 = .ok (.if_icmp .le 5, 3) := by decide +kernel
theorem dX8_pad_34 : decode cX8_pad 34 = .ok (.iconst (-1), 1) := by decide +kernel
theorem dX8_pad_35 : decode cX8_pad 35 = .ok (.ireturn, 1) := by decide +kernel
theorem dX8_pad_36 : decode cX8_pad 36 = .ok (.iconst 0, 1) := by decide +kernel
theorem dX8_pad_37 : decode cX8_pad 37 = .ok (.istore 4, 2) := by decide +kernel
theorem dX8_pad_39 : decode cX8_pad 39 = .ok (.iload 4, 2) := by decide +kernel
theorem dX8_pad_41 : decode cX8_pad 41 = .ok (.iload_n 3, 1) := by decide +kernel
theorem dX8_pad_42 : decode cX8_pad 42 = .ok (.if_icmp .ge 44, 3) := by decide +kernel
theorem dX8_pad_45 : decode cX8_pad 45 = .ok (.aload_n 0, 1) := by decide +kernel
theorem dX8_pad_46 : decode cX8_pad 46 = .ok (.getfield 230, 3) := by decide +kernel
theorem dX8_pad_49 : decode cX8_pad 49 = .ok (.iload 4, 2) := by decide +kernel
theorem dX8_pad_51 : decode cX8_pad 51 = .ok (.iload 4, 2) := by decide +kernel
theorem dX8_pad_53 : decode cX8_pad 53 = .ok (.iload_n 2, 1) := by decide +kernel
theorem dX8_pad_54 : decode cX8_pad 54 = .ok (.if_icmp .ge 13, 3) := by decide +kernel
theorem dX8_pad_57 : decode cX8_pad 57 = .ok (.aload_n 0, 1) := by decide +kernel
theorem dX8_pad_58 : decode cX8_pad 58 = .ok (.getfield 227, 3) := by decide +kernel
theorem dX8_pad_61 : decode cX8_pad 61 = .ok (.iload 4, 2) := by decide +kernel
theorem dX8_pad_63 : decode cX8_pad 63 = .ok (.baload, 1) := by decide +kernel
theorem dX8_pad_64 : decode cX8_pad 64 = .ok (.goto 15, 3) := by decide +kernel
theorem dX8_pad_67 : decode cX8_pad 67 = .ok (.iload 4, 2) := by decide +kernel
theorem dX8_pad_69 : decode cX8_pad 69 = .ok (.iload_n 2, 1) := by decide +kernel
theorem dX8_pad_70 : decode cX8_pad 70 = .ok (.if_icmp .ne 8, 3) := by decide +kernel
theorem dX8_pad_73 : decode cX8_pad 73 = .ok (.bipush (-128), 2) := by decide +kernel
theorem dX8_pad_75 : decode cX8_pad 75 = .ok (.goto 4, 3) := by decide +kernel
theorem dX8_pad_78 : decode cX8_pad 78 = .ok (.iconst 0, 1) := by decide +kernel
theorem dX8_pad_79 : decode cX8_pad 79 = .ok (.bastore, 1) := by decide +kernel
theorem dX8_pad_80 : decode cX8_pad 80 = .ok (.iinc 4 1, 3) := by decide +kernel
theorem dX8_pad_83 : decode cX8_pad 83 = .ok (.goto (-44), 3) := by decide +kernel
theorem dX8_pad_86 : decode cX8_pad 86 = .ok (.aload_n 0, 1) := by decide +kernel
theorem dX8_pad_87 : decode cX8_pad 87 = .ok (.iload_n 3, 1) := by decide +kernel
theorem dX8_pad_88 : decode cX8_pad 88 = .ok (.putfield 251, 3) := by decide +kernel
theorem dX8_pad_91 : decode cX8_pad 91 = .ok (.iload_n 3, 1) := by decide +kernel
theorem dX8_pad_92 : decode cX8_pad 92 = .ok (.ireturn, 1) := by decide +kernel
set_option maxRecDepth 20000 in
theorem ggX8_unpad_X8_use : GoodIn wsX8_unpad wsX8_use := goodIn_r _ [8, 9, 10, 11, 12, 13, 14, 15, 16, 17, 18, 19, 20, 21, 22, 23, 24, 25, 26, 27, 28, 29, 30, 31, 32, 33, 34, 35, 36, 37, 38, 39, 40, 41, 42, 43, 44] rfl (by decide +kernel)
set_option maxRecDepth 20000 in
theorem gX8_unpad_X8_use : GoodIn wsX8_unpad (wsV RX8 254 RX8 yX8_use wsX8_use) := goodIn_app (goodIn_of _ (by decide +kernel)) ggX8_unpad_X8_use
theorem dX8_unpad_0 : decode cX8_unpad 0 = .ok (.aload_n 0, 1) := by decide +kernel
theorem dX8_unpad_1 : decode cX8_unpad 1 = .ok (.invokevirtual 254, 3) := by decide +kernel
theorem dX8_unpad_4 : decode cX8_unpad 4 = .ok (.istore_n 1, 1) := by decide +kernel
theorem dX8_unpad_5 : decode cX8_unpad 5 = .ok (.iload_n 1, 1) := by decide +kernel
theorem dX8_unpad_6 : decode cX8_unpad 6 = .ok (.iconst 1, 1) := by decide +kernel
theorem dX8_unpad_7 : decode cX8_unpad 7 = .ok (.isub, 1) := by decide +kernel
theorem dX8_unpad_8 : decode cX8_unpad 8 = .ok (.istore_n 2, 1) := by decide +kernel
theorem dX8_unpad_9 : decode cX8_unpad 9 = .ok (.iload_n 2, 1) := by decide +kernel
theorem dX8_unpad_10 : decode cX8_unpad 10 = .ok (.ifCond .lt 18, 3) := by decide +kernel
theorem dX8_unpad_13 : decode cX8_unpad 13 = .ok (.aload_n 0, 1) := by decide +kernel
theorem dX8_unpad_14 : decode cX8_unpad 14 = .ok (.getfield 227, 3) := by decide +kernel
theorem dX8_unpad_17 : decode cX8_unpad 17 = .ok (.iload_n 2, 1) := by decide +kernel
theorem dX8_unpad_18 : decode cX8_unpad 18 = .ok (.baload, 1) := by decide +kernel
theorem dX8_unpad_19 : decode cX8_unpad 19 = .ok (.ifCond .ne 9, 3) := by decide +kernel
theorem dX8_unpad_22 : decode cX8_unpad 22 = .ok (.iinc 2 (-1), 3) := by decide +kernel
theorem dX8_unpad_25 : decode cX8_unpad 25 = .ok (.goto (-16), 3) := by decide +kernel
theorem dX8_unpad_28 : decode cX8_unpad 28 = .ok (.iload_n 2, 1) := by decide +kernel
theorem dX8_unpad_29 : decode cX8_unpad 29 = .ok (.ifCond .lt 14, 3) := by decide +kernel
theorem dX8_unpad_32 : decode cX8_unpad 32 = .ok (.aload_n 0, 1) := by decide +kernel
theorem dX8_unpad_33 : decode cX8_unpad 33 = .ok (.getfield 227, 3) := by decide +kernel
theorem dX8_unpad_36 : decode cX8_unpad 36 = .ok (.iload_n 2, 1) := by decide +kernel
theorem dX8_unpad_37 : decode cX8_unpad 37 = .ok (.baload, 1) := by decide +kernel
theorem dX8_unpad_38 : decode cX8_unpad 38 = .ok (.bipush (-128), 2) := by decide +kernel
theorem dX8_unpad_40 : decode cX8_unpad 40 = .ok (.if_icmp .eq 5, 3) := by decide +kernel
theorem dX8_unpad_43 : decode cX8_unpad 43 = .ok (.iconst (-1), 1) := by decide +kernel
theorem dX8_unpad_44 : decode cX8_unpad 44 = .ok (.ireturn, 1) := by decide +kernel
theorem dX8_unpad_45 : decode cX8_unpad 45 = .ok (.iconst 0, 1) := by decide +kernel
theorem dX8_unpad_46 : decode cX8_unpad 46 = .ok (.istore_n 3, 1) := by decide +kernel
theorem dX8_unpad_47 : decode cX8_unpad 47 = .ok (.iload_n 3, 1) := by decide +kernel
theorem dX8_unpad_48 : decode cX8_unpad 48 = .ok (.iload_n 2, 1) := by decide +kernel
theorem dX8_unpad_49 : decode cX8_unpad 49 = .ok (.if_icmp .ge 21, 3) := by decide +kernel
theorem dX8_unpad_52 : decode cX8_unpad 52 = .ok (.aload_n 0, 1) := by decide +kernel
theorem dX8_unpad_53 : decode cX8_unpad 53 = .ok (.getfield 230, 3) := by decide +kernel
theorem dX8_unpad_56 : decode cX8_unpad 56 = .ok (.iload_n 3, 1) := by decide +kernel
theorem dX8_unpad_57 : decode cX8_unpad 57 = .ok (.aload_n 0, 1) := by decide +kernel
theorem dX8_unpad_58 : decode cX8_unpad 58 = .ok (.getfield 227, 3) := by decide +kernel
theorem dX8_unpad_61 : decode cX8_unpad 61 = .ok (.iload_n 3, 1) := by decide +kernel
theorem dX8_unpad_62 : decode cX8_unpad 62 = .ok (.baload, 1) := by decide +kernel
theorem dX8_unpad_63 : decode cX8_unpad 63 = .ok (.bastore, 1) := by decide +kernel
theorem dX8_unpad_64 : decode cX8_unpad 64 = .ok (.iinc 3 1, 3) := by decide +kernel
theorem dX8_unpad_67 : decode cX8_unpad 67 = .ok (.goto (-20), 3) := by decide +kernel
theorem dX8_unpad_70 : decode cX8_unpad 70 = .ok (.aload_n 0, 1) := by decide +kernel
theorem dX8_unpad_71 : decode cX8_unpad 71 = .ok (.iload_n 2, 1) := by decide +kernel
theorem dX8_unpad_72 : decode cX8_unpad 72 = .ok (.putfield 251, 3) := by decide +kernel
theorem dX8_unpad_75 : decode cX8_unpad 75 = .ok (.iload_n 2, 1) := by decide +kernel
theorem dX8_unpad_76 : decode cX8_unpad 76 = .ok (.ireturn, 1) := by decide +kernel
set_option maxRecDepth 20000 in
theorem ggX8_mac_X8_use : GoodIn wsX8_mac wsX8_use := goodIn_r _ [13, 14, 100, 101, 102, 103, 104, 105, 106, 107, 108, 109, 110, 111, 112, 113, 114, 115, 116, 117, 118, 119, 120, 121, 122, 123, 124, 125, 126, 127, 128, 129, 130, 131, 132, 133, 134] rfl (by decide +kernel)
set_option maxRecDepth 20000 in
theorem gX8_mac_X8_use : GoodIn wsX8_mac (wsV RX8 254 RX8 yX8_use wsX8_use) := goodIn_app (goodIn_of _ (by decide +kernel)) ggX8_mac_X8_use
set_option maxRecDepth 20000 in
theorem ggX8_mac_X8_start : GoodIn wsX8_mac wsX8_start := goodIn_r _ [18, 19, 100, 101, 102, 103, 104, 105, 106, 107, 108, 109, 110, 111, 112, 113, 114, 115, 116, 117, 118, 119, 120, 121, 122, 123, 124, 125, 126, 127, 128, 129, 130, 131, 132, 133, 134] rfl (by decide +kernel)
set_option maxRecDepth 20000 in
theorem gX8_mac_X8_start : GoodIn wsX8_mac (wsV RX8 114 RX8 yX8_start wsX8_start) := goodIn_app (goodIn_of _ (by decide +kernel)) ggX8_mac_X8_start
set_option maxRecDepth 20000 in
theorem ggX8_mac_X8_addAll : GoodIn wsX8_mac wsX8_addAll := goodIn_r _ [23, 24, 25, 26, 12, 27, 28, 19, 100, 101, 102, 103, 104, 105, 106, 107, 108, 109, 110, 111, 112, 113, 114, 115, 116, 117, 118, 119, 120, 121, 122, 123, 124, 125, 126, 127, 128, 129, 130, 131, 132, 133, 134] rfl (by decide +kernel)
set_option maxRecDepth 20000 in
theorem gX8_mac_X8_addAll : GoodIn wsX8_mac (wsV RX8 121 RX8 yX8_addAll wsX8_addAll) := goodIn_app (goodIn_of _ (by decide +kernel)) ggX8_mac_X8_addAll
set_option maxRecDepth 20000 in
theorem ggX8_mac_X8_mac3 : GoodIn wsX8_mac wsX8_mac3 := goodIn_r _ [32, 8, 19, 28, 33, 34, 35, 12, 36, 24, 25, 26, 27, 37, 38, 39, 40, 41, 42, 43, 44, 45, 46, 47, 48, 49, 50, 51, 52, 53, 54, 55, 56, 57, 58, 59, 60, 100, 101, 102, 103, 104, 105, 106, 107, 108, 109, 110, 111, 112, 113, 114, 115, 116, 117, 118, 119, 120, 121, 122, 123, 124, 125, 126, 127, 128, 129, 130, 131, 132, 133, 134] rfl (by decide +kernel)
set_option maxRecDepth 20000 in
theorem gX8_mac_X8_mac3 : GoodIn wsX8_mac (wsV RX8 265 RX8 yX8_mac3 wsX8_mac3) := goodIn_app (goodIn_of _ (by decide +kernel)) ggX8_mac_X8_mac3
set_option maxRecDepth 20000 in
theorem ggX8_mac_X8_retail : GoodIn wsX8_mac wsX8_retail := goodIn_r _ [64, 8, 19, 28, 33, 34, 35, 12, 36, 24, 25, 26, 27, 41, 42, 43, 44, 45, 46, 47, 48, 49, 50, 51, 52, 53, 54, 55, 56, 57, 58, 59, 60, 100, 101, 102, 103, 104, 105, 106, 107, 108, 109, 110, 111, 112, 113, 114, 115, 116, 117, 118, 119, 120, 121, 122, 123, 124, 125, 126, 127, 128, 129, 130, 131, 132, 133, 134] rfl (by decide +kernel)
set_option maxRecDepth 20000 in
theorem gX8_mac_X8_retail : GoodIn wsX8_mac (wsV RX8 268 RX8 yX8_retail wsX8_retail) := goodIn_app (goodIn_of _ (by decide +kernel)) ggX8_mac_X8_retail
set_option maxRecDepth 20000 in
theorem ggX8_mac_X8_cmac : GoodIn wsX8_mac wsX8_cmac := goodIn_r _ [68, 69, 19, 28, 8, 70, 71, 72, 12, 73, 74, 75, 76, 77, 78, 79, 80, 81, 82, 83, 84, 85, 86, 87, 88, 89, 90, 91, 92, 93, 94, 95, 96, 97, 98, 99, 33, 34, 35, 36, 24, 25, 26, 27, 100, 101, 102, 103, 104, 105, 106, 107, 108, 109, 110, 111, 112, 113, 114, 115, 116, 117, 118, 119, 120, 121, 122, 123, 124, 125, 126, 127, 128, 129, 130, 131, 132, 133, 134] rfl (by decide +kernel)
set_option maxRecDepth 20000 in
theorem gX8_mac_X8_cmac : GoodIn wsX8_mac (wsV RX8 124 RX8 yX8_cmac wsX8_cmac) := goodIn_app (goodIn_of _ (by decide +kernel)) ggX8_mac_X8_cmac
theorem dX8_mac_0 : decode cX8_mac 0 = .ok (.aload_n 0, 1) := by decide +kernel
theorem dX8_mac_1 : decode cX8_mac 1 = .ok (.invokevirtual 254, 3) := by decide +kernel
theorem dX8_mac_4 : decode cX8_mac 4 = .ok (.istore_n 2, 1) := by decide +kernel
theorem dX8_mac_5 : decode cX8_mac 5 = .ok (.iload_n 1, 1) := by decide +kernel
theorem dX8_mac_6 : decode cX8_mac 6 = .ok (.ifCond .lt 25, 3) := by decide +kernel
theorem dX8_mac_9 : decode cX8_mac 9 = .ok (.iload_n 1, 1) := by decide +kernel
theorem dX8_mac_10 : decode cX8_mac 10 = .ok (.iconst 2, 1) := by decide +kernel
theorem dX8_mac_11 : decode cX8_mac 11 = .ok (.if_icmp .gt 20, 3) := by decide +kernel
theorem dX8_mac_14 : decode cX8_mac 14 = .ok (.aload_n 0, 1) := by decide +kernel
theorem dX8_mac_15 : decode cX8_mac 15 = .ok (.getfield 233, 3) := by decide +kernel
theorem dX8_mac_18 : decode cX8_mac 18 = .ok (.iload_n 1, 1) := by decide +kernel
theorem dX8_mac_19 : decode cX8_mac 19 = .ok (.iconst 2, 1) := by decide +kernel
theorem dX8_mac_20 : decode cX8_mac 20 = .ok (.if_icmp .ne 7, 3) := by decide +kernel
theorem dX8_mac_23 : decode cX8_mac 23 = .ok (.iconst 1, 1) := by decide +kernel
theorem dX8_mac_24 : decode cX8_mac 24 = .ok (.goto 4, 3) := by decide +kernel
theorem dX8_mac_27 : decode cX8_mac 27 = .ok (.iconst 0, 1) := by decide +kernel
theorem dX8_mac_28 : decode cX8_mac 28 = .ok (.if_icmp .eq 5, 3) := by decide +kernel
theorem dX8_mac_31 : decode cX8_mac 31 = .ok (.iconst (-1), 1) := by decide +kernel
theorem dX8_mac_32 : decode cX8_mac 32 = .ok (.ireturn, 1) := by decide +kernel
theorem dX8_mac_33 : decode cX8_mac 33 = .ok (.aload_n 0, 1) := by decide +kernel
theorem dX8_mac_34 : decode cX8_mac 34 = .ok (.invokevirtual 114, 3) := by decide +kernel
theorem dX8_mac_37 : decode cX8_mac 37 = .ok (.aload_n 0, 1) := by decide +kernel
theorem dX8_mac_38 : decode cX8_mac 38 = .ok (.aload_n 0, 1) := by decide +kernel
theorem dX8_mac_39 : decode cX8_mac 39 = .ok (.getfield 227, 3) := by decide +kernel
theorem dX8_mac_42 : decode cX8_mac 42 = .ok (.iconst 0, 1) := by decide +kernel
theorem dX8_mac_43 : decode cX8_mac 43 = .ok (.iload_n 2, 1) := by decide +kernel
theorem dX8_mac_44 : decode cX8_mac 44 = .ok (.invokevirtual 121, 3) := by decide +kernel
theorem dX8_mac_47 : decode cX8_mac 47 = .ok (.iload_n 1, 1) := by decide +kernel
theorem dX8_mac_48 : decode cX8_mac 48 = .ok (.ifCond .ne 15, 3) := by decide +kernel
theorem dX8_mac_51 : decode cX8_mac 51 = .ok (.aload_n 0, 1) := by decide +kernel
theorem dX8_mac_52 : decode cX8_mac 52 = .ok (.aload_n 0, 1) := by decide +kernel
theorem dX8_mac_53 : decode cX8_mac 53 = .ok (.getfield 236, 3) := by decide +kernel
theorem dX8_mac_56 : decode cX8_mac 56 = .ok (.iconst 0, 1) := by decide +kernel
theorem dX8_mac_57 : decode cX8_mac 57 = .ok (.invokevirtual 265, 3) := by decide +kernel
theorem dX8_mac_60 : decode cX8_mac 60 = .ok (.goto 38, 3) := by decide +kernel
theorem dX8_mac_63 : decode cX8_mac 63 = .ok (.iload_n 1, 1) := by decide +kernel
theorem dX8_mac_64 : decode cX8_mac 64 = .ok (.iconst 1, 1) := by decide +kernel
theorem dX8_mac_65 : decode cX8_mac 65 = .ok (.if_icmp .ne 20, 3) := by decide +kernel
theorem dX8_mac_68 : decode cX8_mac 68 = .ok (.aload_n 0, 1) := by decide +kernel
theorem dX8_mac_69 : decode cX8_mac 69 = .ok (.aload_n 0, 1) := by decide +kernel
theorem dX8_mac_70 : decode cX8_mac 70 = .ok (.getfield 236, 3) := by decide +kernel
theorem dX8_mac_73 : decode cX8_mac 73 = .ok (.iconst 0, 1) := by decide +kernel
theorem dX8_mac_74 : decode cX8_mac 74 = .ok (.aload_n 0, 1) := by decide +kernel
theorem dX8_mac_75 : decode cX8_mac 75 = .ok (.getfield 239, 3) := by decide +kernel
theorem dX8_mac_78 : decode cX8_mac 78 = .ok (.iconst 0, 1) := by decide +kernel
theorem dX8_mac_79 : decode cX8_mac 79 = .ok (.invokevirtual 268, 3) := by decide +kernel
theorem dX8_mac_82 : decode cX8_mac 82 = .ok (.goto 16, 3) := by decide +kernel
theorem dX8_mac_85 : decode cX8_mac 85 = .ok (.aload_n 0, 1) := by decide +kernel
theorem dX8_mac_86 : decode cX8_mac 86 = .ok (.aload_n 0, 1) := by decide +kernel
theorem dX8_mac_87 : decode cX8_mac 87 = .ok (.getfield 236, 3) := by decide +kernel
theorem dX8_mac_90 : decode cX8_mac 90 = .ok (.iconst 0, 1) := by decide +kernel
theorem dX8_mac_91 : decode cX8_mac 91 = .ok (.aload_n 0, 1) := by decide +kernel
theorem dX8_mac_92 : decode cX8_mac 92 = .ok (.getfield 258, 3) := by decide +kernel
theorem dX8_mac_95 : decode cX8_mac 95 = .ok (.invokevirtual 124, 3) := by decide +kernel
theorem dX8_mac_98 : decode cX8_mac 98 = .ok (.aload_n 0, 1) := by decide +kernel
theorem dX8_mac_99 : decode cX8_mac 99 = .ok (.iload_n 1, 1) := by decide +kernel
theorem dX8_mac_100 : decode cX8_mac 100 = .ok (.iconst 2, 1) := by decide +kernel
theorem dX8_mac_101 : decode cX8_mac 101 = .ok (.if_icmp .ne 8, 3) := by decide +kernel
theorem dX8_mac_104 : decode cX8_mac 104 = .ok (.bipush 16, 2) := by decide +kernel
theorem dX8_mac_106 : decode cX8_mac 106 = .ok (.goto 5, 3) := by decide +kernel
theorem dX8_mac_109 : decode cX8_mac 109 = .ok (.bipush 8, 2) := by decide +kernel
theorem dX8_mac_111 : decode cX8_mac 111 = .ok (.putfield 251, 3) := by decide +kernel
theorem dX8_mac_114 : decode cX8_mac 114 = .ok (.iconst 0, 1) := by decide +kernel
theorem dX8_mac_115 : decode cX8_mac 115 = .ok (.istore_n 3, 1) := by decide +kernel
theorem dX8_mac_116 : decode cX8_mac 116 = .ok (.iload_n 3, 1) := by decide +kernel
theorem dX8_mac_117 : decode cX8_mac 117 = .ok (.aload_n 0, 1) := by decide +kernel
theorem dX8_mac_118 : decode cX8_mac 118 = .ok (.getfield 251, 3) := by decide +kernel
theorem dX8_mac_121 : decode cX8_mac 121 = .ok (.if_icmp .ge 21, 3) := by decide +kernel
theorem dX8_mac_124 : decode cX8_mac 124 = .ok (.aload_n 0, 1) := by decide +kernel
theorem dX8_mac_125 : decode cX8_mac 125 = .ok (.getfield 230, 3) := by decide +kernel
theorem dX8_mac_128 : decode cX8_mac 128 = .ok (.iload_n 3, 1) := by decide +kernel
theorem dX8_mac_129 : decode cX8_mac 129 = .ok (.aload_n 0, 1) := by decide +kernel
theorem dX8_mac_130 : decode cX8_mac 130 = .ok (.getfield 94, 3) := by decide +kernel
theorem dX8_mac_133 : decode cX8_mac 133 = .ok (.iload_n 3, 1) := by decide +kernel
theorem dX8_mac_134 : decode cX8_mac 134 = .ok (.baload, 1) := by decide +kernel
theorem dX8_mac_135 : decode cX8_mac 135 = .ok (.bastore, 1) := by decide +kernel
theorem dX8_mac_136 : decode cX8_mac 136 = .ok (.iinc 3 1, 3) := by decide +kernel
theorem dX8_mac_139 : decode cX8_mac 139 = .ok (.goto (-23), 3) := by decide +kernel
theorem dX8_mac_142 : decode cX8_mac 142 = .ok (.aload_n 0, 1) := by decide +kernel
theorem dX8_mac_143 : decode cX8_mac 143 = .ok (.getfield 251, 3) := by decide +kernel
theorem dX8_mac_146 : decode cX8_mac 146 = .ok (.ireturn, 1) := by decide +kernel
set_option maxRecDepth 20000 in
theorem ggX8_derive_X8_use : GoodIn wsX8_derive wsX8_use := goodIn_r _ [12, 13, 72, 73, 74, 75, 76, 77, 78, 79, 80, 81, 82, 83, 84, 85, 86, 87, 88, 89, 90, 91, 92, 93, 94, 95, 96, 97, 98, 99, 100, 101, 102, 103, 104, 105, 106] rfl (by decide +kernel)
set_option maxRecDepth 20000 in
theorem gX8_derive_X8_use : GoodIn wsX8_derive (wsV RX8 254 RX8 yX8_use wsX8_use) := goodIn_app (goodIn_of _ (by decide +kernel)) ggX8_derive_X8_use
set_option maxRecDepth 20000 in
theorem ggX8_derive_X8_kdf : GoodIn wsX8_derive wsX8_kdf := goodIn_r _ [17, 2, 18, 19, 20, 21, 11, 22, 23, 24, 25, 26, 27, 28, 29, 30, 31, 32, 33, 34, 35, 36, 37, 38, 39, 40, 41, 42, 43, 44, 45, 46, 47, 48, 49, 50, 51, 52, 53, 54, 55, 56, 57, 58, 59, 60, 61, 62, 63, 64, 65, 66, 67, 68, 69, 70, 71, 72, 73, 74, 75, 76, 77, 78, 79, 80, 81, 82, 83, 84, 85, 86, 87, 88, 89, 90, 91, 92, 93, 94, 95, 96, 97, 98, 99, 100, 101, 102, 103, 104, 105, 106] rfl (by decide +kernel)
set_option maxRecDepth 20000 in
theorem gX8_derive_X8_kdf : GoodIn wsX8_derive (wsV RX8 272 RX8 yX8_kdf wsX8_kdf) := goodIn_app (goodIn_of _ (by decide +kernel)) ggX8_derive_X8_kdf
theorem dX8_derive_0 : decode cX8_derive 0 = .ok (.aload_n 0, 1) := by decide +kernel
theorem dX8_derive_1 : decode cX8_derive 1 = .ok (.invokevirtual 254, 3) := by decide +kernel
theorem dX8_derive_4 : decode cX8_derive 4 = .ok (.istore_n 3, 1) := by decide +kernel
theorem dX8_derive_5 : decode cX8_derive 5 = .ok (.aload_n 0, 1) := by decide +kernel
theorem dX8_derive_6 : decode cX8_derive 6 = .ok (.getfield 233, 3) := by decide +kernel
theorem dX8_derive_9 : decode cX8_derive 9 = .ok (.iconst 1, 1) := by decide +kernel
theorem dX8_derive_10 : decode cX8_derive 10 = .ok (.if_icmp .ne 31, 3) := by decide +kernel
theorem dX8_derive_13 : decode cX8_derive 13 = .ok (.iload_n 1, 1) := by decide +kernel
theorem dX8_derive_14 : decode cX8_derive 14 = .ok (.ifCond .lt 27, 3) := by decide +kernel
theorem dX8_derive_17 : decode cX8_derive 17 = .ok (.iload_n 1, 1) := by decide +kernel
theorem dX8_derive_18 : decode cX8_derive 18 = .ok (.sipush 255, 3) := by decide +kernel
theorem dX8_derive_21 : decode cX8_derive 21 = .ok (.if_icmp .gt 20, 3) := by decide +kernel
theorem dX8_derive_24 : decode cX8_derive 24 = .ok (.iload_n 2, 1) := by decide +kernel
theorem dX8_derive_25 : decode cX8_derive 25 = .ok (.iconst 1, 1) := by decide +kernel
theorem dX8_derive_26 : decode cX8_derive 26 = .ok (.if_icmp .lt 15, 3) := by decide +kernel
theorem dX8_derive_29 : decode cX8_derive 29 = .ok (.iload_n 2, 1) := by decide +kernel
theorem dX8_derive_30 : decode cX8_derive 30 = .ok (.bipush 64, 2) := by decide +kernel
theorem dX8_derive_32 : decode cX8_derive 32 = .ok (.if_icmp .gt 9, 3) := by decide +kernel
theorem dX8_derive_35 : decode cX8_derive 35 = .ok (.iload_n 3, 1) := by decide +kernel
theorem dX8_derive_36 : decode cX8_derive 36 = .ok (.bipush 100, 2) := by decide +kernel
theorem dX8_derive_38 : decode cX8_derive 38 = .ok (.if_icmp .le 5, 3) := by decide +kernel
theorem dX8_derive_41 : decode cX8_derive 41 = .ok (.iconst (-1), 1) := by decide +kernel
theorem dX8_derive_42 : decode cX8_derive 42 = .ok (.ireturn, 1) := by decide +kernel
theorem dX8_derive_43 : decode cX8_derive 43 = .ok (.iconst 0, 1) := by decide +kernel
theorem dX8_derive_44 : decode cX8_derive 44 = .ok (.istore 4, 2) := by decide +kernel
theorem dX8_derive_46 : decode cX8_derive 46 = .ok (.iload 4, 2) := by decide +kernel
theorem dX8_derive_48 : decode cX8_derive 48 = .ok (.iload_n 3, 1) := by decide +kernel
theorem dX8_derive_49 : decode cX8_derive 49 = .ok (.if_icmp .ge 23, 3) := by decide +kernel
theorem dX8_derive_52 : decode cX8_derive 52 = .ok (.aload_n 0, 1) := by decide +kernel
theorem dX8_derive_53 : decode cX8_derive 53 = .ok (.getfield 118, 3) := by decide +kernel
theorem dX8_derive_56 : decode cX8_derive 56 = .ok (.iload 4, 2) := by decide +kernel
theorem dX8_derive_58 : decode cX8_derive 58 = .ok (.aload_n 0, 1) := by decide +kernel
theorem dX8_derive_59 : decode cX8_derive 59 = .ok (.getfield 227, 3) := by decide +kernel
theorem dX8_derive_62 : decode cX8_derive 62 = .ok (.iload 4, 2) := by decide +kernel
theorem dX8_derive_64 : decode cX8_derive 64 = .ok (.baload, 1) := by decide +kernel
theorem dX8_derive_65 : decode cX8_derive 65 = .ok (.bastore, 1) := by decide +kernel
theorem dX8_derive_66 : decode cX8_derive 66 = .ok (.iinc 4 1, 3) := by decide +kernel
theorem dX8_derive_69 : decode cX8_derive 69 = .ok (.goto (-23), 3) := by decide +kernel
theorem dX8_derive_72 : decode cX8_derive 72 = .ok (.aload_n 0, 1) := by decide +kernel
theorem dX8_derive_73 : decode cX8_derive 73 = .ok (.aload_n 0, 1) := by decide +kernel
theorem dX8_derive_74 : decode cX8_derive 74 = .ok (.getfield 236, 3) := by decide +kernel
theorem dX8_derive_77 : decode cX8_derive 77 = .ok (.iconst 0, 1) := by decide +kernel
theorem dX8_derive_78 : decode cX8_derive 78 = .ok (.aload_n 0, 1) := by decide +kernel
theorem dX8_derive_79 : decode cX8_derive 79 = .ok (.getfield 258, 3) := by decide +kernel
theorem dX8_derive_82 : decode cX8_derive 82 = .ok (.iload_n 1, 1) := by decide +kernel
theorem dX8_derive_83 : decode cX8_derive 83 = .ok (.iload_n 2, 1) := by decide +kernel
theorem dX8_derive_84 : decode cX8_derive 84 = .ok (.iload_n 3, 1) := by decide +kernel
theorem dX8_derive_85 : decode cX8_derive 85 = .ok (.aload_n 0, 1) := by decide +kernel
theorem dX8_derive_86 : decode cX8_derive 86 = .ok (.getfield 230, 3) := by decide +kernel
theorem dX8_derive_89 : decode cX8_derive 89 = .ok (.iconst 0, 1) := by decide +kernel
theorem dX8_derive_90 : decode cX8_derive 90 = .ok (.invokevirtual 272, 3) := by decide +kernel
theorem dX8_derive_93 : decode cX8_derive 93 = .ok (.aload_n 0, 1) := by decide +kernel
theorem dX8_derive_94 : decode cX8_derive 94 = .ok (.iload_n 2, 1) := by decide +kernel
theorem dX8_derive_95 : decode cX8_derive 95 = .ok (.putfield 251, 3) := by decide +kernel
theorem dX8_derive_98 : decode cX8_derive 98 = .ok (.iload_n 2, 1) := by decide +kernel
theorem dX8_derive_99 : decode cX8_derive 99 = .ok (.ireturn, 1) := by decide +kernel
set_option maxRecDepth 20000 in
theorem ggX8_hash_X8_use : GoodIn wsX8_hash wsX8_use := goodIn_r _ [9, 10, 41, 42, 43, 44, 45, 46, 47, 48, 49, 50, 51, 52, 53, 54, 55, 56, 57, 58, 59, 60, 61, 62, 63, 64, 65, 66, 67, 68, 69, 70, 71, 72, 73, 74, 75] rfl (by decide +kernel)
set_option maxRecDepth 20000 in
theorem gX8_hash_X8_use : GoodIn wsX8_hash (wsV RX8 254 RX8 yX8_use wsX8_use) := goodIn_app (goodIn_of _ (by decide +kernel)) ggX8_hash_X8_use
set_option maxRecDepth 20000 in
theorem ggX8_hash_X8_start : GoodIn wsX8_hash wsX8_start := goodIn_r _ [14, 15, 41, 42, 43, 44, 45, 46, 47, 48, 49, 50, 51, 52, 53, 54, 55, 56, 57, 58, 59, 60, 61, 62, 63, 64, 65, 66, 67, 68, 69, 70, 71, 72, 73, 74, 75] rfl (by decide +kernel)
set_option maxRecDepth 20000 in
theorem gX8_hash_X8_start : GoodIn wsX8_hash (wsV RX8 114 RX8 yX8_start wsX8_start) := goodIn_app (goodIn_of _ (by decide +kernel)) ggX8_hash_X8_start
set_option maxRecDepth 20000 in
theorem ggX8_hash_X8_addAll : GoodIn wsX8_hash wsX8_addAll := goodIn_r _ [19, 20, 21, 22, 8, 23, 24, 15, 41, 42, 43, 44, 45, 46, 47, 48, 49, 50, 51, 52, 53, 54, 55, 56, 57, 58, 59, 60, 61, 62, 63, 64, 65, 66, 67, 68, 69, 70, 71, 72, 73, 74, 75] rfl (by decide +kernel)
set_option maxRecDepth 20000 in
theorem gX8_hash_X8_addAll : GoodIn wsX8_hash (wsV RX8 121 RX8 yX8_addAll wsX8_addAll) := goodIn_app (goodIn_of _ (by decide +kernel)) ggX8_hash_X8_addAll
set_option maxRecDepth 20000 in
theorem ggX8_hash_X8_digest : GoodIn wsX8_hash wsX8_digest := goodIn_r _ [28, 29, 15, 30, 31, 3, 20, 21, 22, 8, 23, 24, 32, 33, 34, 35, 36, 37, 38, 39, 40, 41, 42, 43, 44, 45, 46, 47, 48, 49, 50, 51, 52, 53, 54, 55, 56, 57, 58, 59, 60, 61, 62, 63, 64, 65, 66, 67, 68, 69, 70, 71, 72, 73, 74, 75] rfl (by decide +kernel)
set_option maxRecDepth 20000 in
theorem gX8_hash_X8_digest : GoodIn wsX8_hash (wsV RX8 276 RX8 yX8_digest wsX8_digest) := goodIn_app (goodIn_of _ (by decide +kernel)) ggX8_hash_X8_digest
theorem dX8_hash_0 : decode cX8_hash 0 = .ok (.aload_n 0, 1) := by decide +kernel
theorem dX8_hash_1 : decode cX8_hash 1 = .ok (.invokevirtual 254, 3) := by decide +kernel
theorem dX8_hash_4 : decode cX8_hash 4 = .ok (.istore_n 1, 1) := by decide +kernel
theorem dX8_hash_5 : decode cX8_hash 5 = .ok (.aload_n 0, 1) := by decide +kernel
theorem dX8_hash_6 : decode cX8_hash 6 = .ok (.invokevirtual 114, 3) := by decide +kernel
theorem dX8_hash_9 : decode cX8_hash 9 = .ok (.aload_n 0, 1) := by decide +kernel
theorem dX8_hash_10 : decode cX8_hash 10 = .ok (.aload_n 0, 1) := by decide +kernel
theorem dX8_hash_11 : decode cX8_hash 11 = .ok (.getfield 227, 3) := by decide +kernel
theorem dX8_hash_14 : decode cX8_hash 14 = .ok (.iconst 0, 1) := by decide +kernel
theorem dX8_hash_15 : decode cX8_hash 15 = .ok (.iload_n 1, 1) := by decide +kernel
theorem dX8_hash_16 : decode cX8_hash 16 = .ok (.invokevirtual 121, 3) := by decide +kernel
theorem dX8_hash_19 : decode cX8_hash 19 = .ok (.aload_n 0, 1) := by decide +kernel
theorem dX8_hash_20 : decode cX8_hash 20 = .ok (.invokevirtual 276, 3) := by decide +kernel
theorem dX8_hash_23 : decode cX8_hash 23 = .ok (.iconst 0, 1) := by decide +kernel
theorem dX8_hash_24 : decode cX8_hash 24 = .ok (.istore_n 2, 1) := by decide +kernel
theorem dX8_hash_25 : decode cX8_hash 25 = .ok (.iload_n 2, 1) := by decide +kernel
theorem dX8_hash_26 : decode cX8_hash 26 = .ok (.bipush 32, 2) := by decide +kernel
theorem dX8_hash_28 : decode cX8_hash 28 = .ok (.if_icmp .ge 21, 3) := by decide +kernel
theorem dX8_hash_31 : decode cX8_hash 31 = .ok (.aload_n 0, 1) := by decide +kernel
theorem dX8_hash_32 : decode cX8_hash 32 = .ok (.getfield 230, 3) := by decide +kernel
theorem dX8_hash_35 : decode cX8_hash 35 = .ok (.iload_n 2, 1) := by decide +kernel
theorem dX8_hash_36 : decode cX8_hash 36 = .ok (.aload_n 0, 1) := by decide +kernel
theorem dX8_hash_37 : decode cX8_hash 37 = .ok (.getfield 138, 3) := by decide +kernel
theorem dX8_hash_40 : decode cX8_hash 40 = .ok (.iload_n 2, 1) := by decide +kernel
theorem dX8_hash_41 : decode cX8_hash 41 = .ok (.baload, 1) := by decide +kernel
theorem dX8_hash_42 : decode cX8_hash 42 = .ok (.bastore, 1) := by decide +kernel
theorem dX8_hash_43 : decode cX8_hash 43 = .ok (.iinc 2 1, 3) := by decide +kernel
theorem dX8_hash_46 : decode cX8_hash 46 = .ok (.goto (-21), 3) := by decide +kernel
theorem dX8_hash_49 : decode cX8_hash 49 = .ok (.aload_n 0, 1) := by decide +kernel
theorem dX8_hash_50 : decode cX8_hash 50 = .ok (.bipush 32, 2) := by decide +kernel
theorem dX8_hash_52 : decode cX8_hash 52 = .ok (.putfield 251, 3) := by decide +kernel
theorem dX8_hash_55 : decode cX8_hash 55 = .ok (.bipush 32, 2) := by decide +kernel
theorem dX8_hash_57 : decode cX8_hash 57 = .ok (.ireturn, 1) := by decide +kernel
set_option maxRecDepth 20000 in
theorem ggX8_same_X8_use : GoodIn wsX8_same wsX8_use := goodIn_r _ [8, 9, 10, 11, 12, 13, 14, 15, 16, 17, 18, 19, 20, 21, 22, 23, 24, 25, 26, 27, 28, 29, 30, 31, 32, 33, 34, 35, 36, 37, 38, 39, 40, 41, 42, 43, 44] rfl (by decide +kernel)
set_option maxRecDepth 20000 in
theorem gX8_same_X8_use : GoodIn wsX8_same (wsV RX8 254 RX8 yX8_use wsX8_use) := goodIn_app (goodIn_of _ (by decide +kernel)) ggX8_same_X8_use
theorem dX8_same_0 : decode cX8_same 0 = .ok (.aload_n 0, 1) := by decide +kernel
theorem dX8_same_1 : decode cX8_same 1 = .ok (.invokevirtual 254, 3) := by decide +kernel
theorem dX8_same_4 : decode cX8_same 4 = .ok (.istore_n 1, 1) := by decide +kernel
theorem dX8_same_5 : decode cX8_same 5 = .ok (.iload_n 1, 1) := by decide +kernel
theorem dX8_same_6 : decode cX8_same 6 = .ok (.aload_n 0, 1) := by decide +kernel
theorem dX8_same_7 : decode cX8_same 7 = .ok (.getfield 251, 3) := by decide +kernel
theorem dX8_same_10 : decode cX8_same 10 = .ok (.if_icmp .ne 7, 3) := by decide +kernel
theorem dX8_same_13 : decode cX8_same 13 = .ok (.iconst 1, 1) := by decide +kernel
theorem dX8_same_14 : decode cX8_same 14 = .ok (.goto 4, 3) := by decide +kernel
theorem dX8_same_17 : decode cX8_same 17 = .ok (.iconst 0, 1) := by decide +kernel
theorem dX8_same_18 : decode cX8_same 18 = .ok (.istore_n 2, 1) := by decide +kernel
theorem dX8_same_19 : decode cX8_same 19 = .ok (.iconst 0, 1) := by decide +kernel
theorem dX8_same_20 : decode cX8_same 20 = .ok (.istore_n 3, 1) := by decide +kernel
theorem dX8_same_21 : decode cX8_same 21 = .ok (.iload_n 3, 1) := by decide +kernel
theorem dX8_same_22 : decode cX8_same 22 = .ok (.iload_n 1, 1) := by decide +kernel
theorem dX8_same_23 : decode cX8_same 23 = .ok (.if_icmp .ge 34, 3) := by decide +kernel
theorem dX8_same_26 : decode cX8_same 26 = .ok (.iload_n 2, 1) := by decide +kernel
theorem dX8_same_27 : decode cX8_same 27 = .ok (.ifCond .eq 30, 3) := by decide +kernel
theorem dX8_same_30 : decode cX8_same 30 = .ok (.aload_n 0, 1) := by decide +kernel
theorem dX8_same_31 : decode cX8_same 31 = .ok (.getfield 227, 3) := by decide +kernel
theorem dX8_same_34 : decode cX8_same 34 = .ok (.iload_n 3, 1) := by decide +kernel
theorem dX8_same_35 : decode cX8_same 35 = .ok (.baload, 1) := by decide +kernel
theorem dX8_same_36 : decode cX8_same 36 = .ok (.aload_n 0, 1) := by decide +kernel
theorem dX8_same_37 : decode cX8_same 37 = .ok (.getfield 230, 3) := by decide +kernel
theorem dX8_same_40 : decode cX8_same 40 = .ok (.iload_n 3, 1) := by decide +kernel
theorem dX8_same_41 : decode cX8_same 41 = .ok (.baload, 1) := by decide +kernel
theorem dX8_same_42 : decode cX8_same 42 = .ok (.if_icmp .ne 7, 3) := by decide +kernel
theorem dX8_same_45 : decode cX8_same 45 = .ok (.iconst 1, 1) := by decide +kernel
theorem dX8_same_46 : decode cX8_same 46 = .ok (.goto 4, 3) := by decide +kernel
theorem dX8_same_49 : decode cX8_same 49 = .ok (.iconst 0, 1) := by decide +kernel
theorem dX8_same_50 : decode cX8_same 50 = .ok (.istore_n 2, 1) := by decide +kernel
theorem dX8_same_51 : decode cX8_same 51 = .ok (.iinc 3 1, 3) := by decide +kernel
theorem dX8_same_54 : decode cX8_same 54 = .ok (.goto (-33), 3) := by decide +kernel
theorem dX8_same_57 : decode cX8_same 57 = .ok (.iload_n 2, 1) := by decide +kernel
theorem dX8_same_58 : decode cX8_same 58 = .ok (.ifCond .eq 7, 3) := by decide +kernel
theorem dX8_same_61 : decode cX8_same 61 = .ok (.iconst 1, 1) := by decide +kernel
theorem dX8_same_62 : decode cX8_same 62 = .ok (.goto 4, 3) := by decide +kernel
theorem dX8_same_65 : decode cX8_same 65 = .ok (.iconst 0, 1) := by decide +kernel
theorem dX8_same_66 : decode cX8_same 66 = .ok (.ireturn, 1) := by decide +kernel
theorem dX8_odd_0 : decode cX8_odd 0 = .ok (.iconst 0, 1) := by decide +kernel
theorem dX8_odd_1 : decode cX8_odd 1 = .ok (.istore_n 1, 1) := by decide +kernel
theorem dX8_odd_2 : decode cX8_odd 2 = .ok (.iconst 0, 1) := by decide +kernel
theorem dX8_odd_3 : decode cX8_odd 3 = .ok (.istore_n 2, 1) := by decide +kernel
theorem dX8_odd_4 : decode cX8_odd 4 = .ok (.iload_n 2, 1) := by decide +kernel
theorem dX8_odd_5 : decode cX8_odd 5 = .ok (.bipush 8, 2) := by decide +kernel
theorem dX8_odd_7 : decode cX8_odd 7 = .ok (.if_icmp .ge 17, 3) := by decide +kernel
theorem dX8_odd_10 : decode cX8_odd 10 = .ok (.iload_n 1, 1) := by decide +kernel
theorem dX8_odd_11 : decode cX8_odd 11 = .ok (.iload_n 0, 1) := by decide +kernel
theorem dX8_odd_12 : decode cX8_odd 12 = .ok (.iload_n 2, 1) := by decide +kernel
theorem dX8_odd_13 : decode cX8_odd 13 = .ok (.ishr, 1) := by decide +kernel
theorem dX8_odd_14 : decode cX8_odd 14 = .ok (.iconst 1, 1) := by decide +kernel
theorem dX8_odd_15 : decode cX8_odd 15 = .ok (.iand, 1) := by decide +kernel
theorem dX8_odd_16 : decode cX8_odd 16 = .ok (.iadd, 1) := by decide +kernel
theorem dX8_odd_17 : decode cX8_odd 17 = .ok (.istore_n 1, 1) := by decide +kernel
theorem dX8_odd_18 : decode cX8_odd 18 = .ok (.iinc 2 1, 3) := by decide +kernel
theorem dX8_odd_21 : decode cX8_odd 21 = .ok (.goto (-17), 3) := by decide +kernel
theorem dX8_odd_24 : decode cX8_odd 24 = .ok (.iload_n 1, 1) := by decide +kernel
theorem dX8_odd_25 : decode cX8_odd 25 = .ok (.iconst 2, 1) := by decide +kernel
theorem dX8_odd_26 : decode cX8_odd 26 = .ok (.irem, 1) := by decide +kernel
theorem dX8_odd_27 : decode cX8_odd 27 = .ok (.ireturn, 1) := by decide +kernel
set_option maxRecDepth 20000 in
theorem ggX8_about_X8_odd : GoodIn wsX8_about wsX8_odd := goodIn_r _ [9] rfl (by decide +kernel)
set_option maxRecDepth 20000 in
theorem gX8_about_X8_odd : GoodIn wsX8_about (va_wsS RX8 279 yX8_odd wsX8_odd) := goodIn_app (goodIn_of _ (by decide +kernel)) ggX8_about_X8_odd
theorem dX8_about_0 : decode cX8_about 0 = .ok (.iconst 0, 1) := by decide +kernel
theorem dX8_about_1 : decode cX8_about 1 = .ok (.istore_n 2, 1) := by decide +kernel
theorem dX8_about_2 : decode cX8_about 2 = .ok (.iload_n 1, 1) := by decide +kernel
theorem dX8_about_3 : decode cX8_about 3 = .ok (.tableswitch 83 0 4 #[33, 38, 43, 48, 53], 33) := by decide +kernel
theorem dX8_about_36 : decode cX8_about 36 = .ok (.aload_n 0, 1) := by decide +kernel
theorem dX8_about_37 : decode cX8_about 37 = .ok (.getfield 245, 3) := by decide +kernel
theorem dX8_about_40 : decode cX8_about 40 = .ok (.ireturn, 1) := by decide +kernel
theorem dX8_about_41 : decode cX8_about 41 = .ok (.aload_n 0, 1) := by decide +kernel
theorem dX8_about_42 : decode cX8_about 42 = .ok (.getfield 251, 3) := by decide +kernel
theorem dX8_about_45 : decode cX8_about 45 = .ok (.ireturn, 1) := by decide +kernel
theorem dX8_about_46 : decode cX8_about 46 = .ok (.aload_n 0, 1) := by decide +kernel
theorem dX8_about_47 : decode cX8_about 47 = .ok (.getfield 233, 3) := by decide +kernel
theorem dX8_about_50 : decode cX8_about 50 = .ok (.ireturn, 1) := by decide +kernel
theorem dX8_about_51 : decode cX8_about 51 = .ok (.aload_n 0, 1) := by decide +kernel
theorem dX8_about_52 : decode cX8_about 52 = .ok (.getfield 258, 3) := by decide +kernel
theorem dX8_about_55 : decode cX8_about 55 = .ok (.ireturn, 1) := by decide +kernel
theorem dX8_about_56 : decode cX8_about 56 = .ok (.iconst 0, 1) := by decide +kernel
theorem dX8_about_57 : decode cX8_about 57 = .ok (.istore_n 3, 1) := by decide +kernel
theorem dX8_about_58 : decode cX8_about 58 = .ok (.iload_n 3, 1) := by decide +kernel
theorem dX8_about_59 : decode cX8_about 59 = .ok (.aload_n 0, 1) := by decide +kernel
theorem dX8_about_60 : decode cX8_about 60 = .ok (.getfield 258, 3) := by decide +kernel
theorem dX8_about_63 : decode cX8_about 63 = .ok (.if_icmp .ge 21, 3) := by decide +kernel
theorem dX8_about_66 : decode cX8_about 66 = .ok (.iload_n 2, 1) := by decide +kernel
theorem dX8_about_67 : decode cX8_about 67 = .ok (.aload_n 0, 1) := by decide +kernel
theorem dX8_about_68 : decode cX8_about 68 = .ok (.getfield 236, 3) := by decide +kernel
theorem dX8_about_71 : decode cX8_about 71 = .ok (.iload_n 3, 1) := by decide +kernel
theorem dX8_about_72 : decode cX8_about 72 = .ok (.baload, 1) := by decide +kernel
theorem dX8_about_73 : decode cX8_about 73 = .ok (.invokestatic 279, 3) := by decide +kernel
theorem dX8_about_76 : decode cX8_about 76 = .ok (.iadd, 1) := by decide +kernel
theorem dX8_about_77 : decode cX8_about 77 = .ok (.istore_n 2, 1) := by decide +kernel
theorem dX8_about_78 : decode cX8_about 78 = .ok (.iinc 3 1, 3) := by decide +kernel
theorem dX8_about_81 : decode cX8_about 81 = .ok (.goto (-23), 3) := by decide +kernel
theorem dX8_about_84 : decode cX8_about 84 = .ok (.iload_n 2, 1) := by decide +kernel
theorem dX8_about_85 : decode cX8_about 85 = .ok (.ireturn, 1) := by decide +kernel
theorem dX8_about_86 : decode cX8_about 86 = .ok (.iconst (-1), 1) := by decide +kernel
theorem dX8_about_87 : decode cX8_about 87 = .ok (.ireturn, 1) := by decide +kernel
