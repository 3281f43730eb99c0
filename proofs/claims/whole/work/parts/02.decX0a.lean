set_option maxRecDepth 20000 in
theorem ggX0_init_X1_init : GoodIn wsX0_init wsX1_init := goodIn_r _ [9, 10, 11, 12, 13, 1, 14, 15, 16, 17, 18, 19, 20, 21, 22, 23, 24] rfl (by decide +kernel)
set_option maxRecDepth 20000 in
theorem gX0_init_X1_init : GoodIn wsX0_init (wsX1_init) := ggX0_init_X1_init
theorem dX0_init_0 : decode cX0_init 0 = .ok (.aload_n 0, 1) := by decide +kernel
theorem dX0_init_1 : decode cX0_init 1 = .ok (.iconst 4, 1) := by decide +kernel
theorem dX0_init_2 : decode cX0_init 2 = .ok (.invokespecial 1, 3) := by decide +kernel
theorem dX0_init_5 : decode cX0_init 5 = .ok (.aload_n 0, 1) := by decide +kernel
theorem dX0_init_6 : decode cX0_init 6 = .ok (.sipush 256, 3) := by decide +kernel
theorem dX0_init_9 : decode cX0_init 9 = .ok (.newarray .int, 2) := by decide +kernel
theorem dX0_init_11 : decode cX0_init 11 = .ok (.putfield 7, 3) := by decide +kernel
theorem dX0_init_14 : decode cX0_init 14 = .ok (.aload_n 0, 1) := by decide +kernel
theorem dX0_init_15 : decode cX0_init 15 = .ok (.bipush 60, 2) := by decide +kernel
theorem dX0_init_17 : decode cX0_init 17 = .ok (.newarray .int, 2) := by decide +kernel
theorem dX0_init_19 : decode cX0_init 19 = .ok (.putfield 13, 3) := by decide +kernel
theorem dX0_init_22 : decode cX0_init 22 = .ok (.aload_n 0, 1) := by decide +kernel
theorem dX0_init_23 : decode cX0_init 23 = .ok (.bipush 16, 2) := by decide +kernel
theorem dX0_init_25 : decode cX0_init 25 = .ok (.newarray .int, 2) := by decide +kernel
theorem dX0_init_27 : decode cX0_init 27 = .ok (.putfield 16, 3) := by decide +kernel
theorem dX0_init_30 : decode cX0_init 30 = .ok (.iconst 0, 1) := by decide +kernel
theorem dX0_init_31 : decode cX0_init 31 = .ok (.istore_n 1, 1) := by decide +kernel
theorem dX0_init_32 : decode cX0_init 32 = .ok (.iload_n 1, 1) := by decide +kernel
theorem dX0_init_33 : decode cX0_init 33 = .ok (.sipush 256, 3) := by decide +kernel
theorem dX0_init_36 : decode cX0_init 36 = .ok (.if_icmp .ge 24, 3) := by decide +kernel
theorem dX0_init_39 : decode cX0_init 39 = .ok (.aload_n 0, 1) := by decide +kernel
theorem dX0_init_40 : decode cX0_init 40 = .ok (.getfield 7, 3) := by decide +kernel
theorem dX0_init_43 : decode cX0_init 43 = .ok (.getstatic 19, 3) := by decide +kernel
theorem dX0_init_46 : decode cX0_init 46 = .ok (.iload_n 1, 1) := by decide +kernel
theorem dX0_init_47 : decode cX0_init 47 = .ok (.iaload, 1) := by decide +kernel
theorem dX0_init_48 : decode cX0_init 48 = .ok (.sipush 255, 3) := by decide +kernel
theorem dX0_init_51 : decode cX0_init 51 = .ok (.iand, 1) := by decide +kernel
theorem dX0_init_52 : decode cX0_init 52 = .ok (.iload_n 1, 1) := by decide +kernel
theorem dX0_init_53 : decode cX0_init 53 = .ok (.iastore, 1) := by decide +kernel
theorem dX0_init_54 : decode cX0_init 54 = .ok (.iinc 1 1, 3) := by decide +kernel
theorem dX0_init_57 : decode cX0_init 57 = .ok (.goto (-25), 3) := by decide +kernel
theorem dX0_init_60 : decode cX0_init 60 = .ok (.return_, 1) := by decide +kernel
set_option maxRecDepth 20000 in
theorem ggX0_schedule_X5_size : GoodIn wsX0_schedule wsX5_size := goodIn_r _ [7, 8, 35, 36] rfl (by decide +kernel)
set_option maxRecDepth 20000 in
theorem gX0_schedule_X5_size : GoodIn wsX0_schedule (wsV RX0 22 RX5 yX5_size wsX5_size) := goodIn_app (goodIn_of _ (by decide +kernel)) ggX0_schedule_X5_size
set_option maxRecDepth 20000 in
theorem ggX0_schedule_X5_wordAt : GoodIn wsX0_schedule wsX5_wordAt := goodIn_r _ [12, 13, 14, 15, 6, 16, 8, 17, 35, 36] rfl (by decide +kernel)
set_option maxRecDepth 20000 in
theorem gX0_schedule_X5_wordAt : GoodIn wsX0_schedule (wsV RX0 32 RX5 yX5_wordAt wsX5_wordAt) := goodIn_app (goodIn_of _ (by decide +kernel)) ggX0_schedule_X5_wordAt
set_option maxRecDepth 20000 in
theorem ggX0_schedule_X7_turnRight : GoodIn wsX0_schedule wsX7_turnRight := goodIn_r _ [20] rfl (by decide +kernel)
set_option maxRecDepth 20000 in
theorem gX0_schedule_X7_turnRight_n36 : GoodIn wsX0_schedule (wsX7_turnRight) := ggX0_schedule_X7_turnRight
set_option maxRecDepth 20000 in
theorem ggX0_schedule_X0_substituted : GoodIn wsX0_schedule wsX0_substituted := goodIn_r _ [24, 25] rfl (by decide +kernel)
set_option maxRecDepth 20000 in
theorem gX0_schedule_X0_substituted : GoodIn wsX0_schedule (va_wsS RX0 42 yX0_substituted wsX0_substituted) := goodIn_app (goodIn_of _ (by decide +kernel)) ggX0_schedule_X0_substituted
set_option maxRecDepth 20000 in
theorem ggX0_schedule_X0_doubled : GoodIn wsX0_schedule wsX0_doubled := goodIn_r _ [28] rfl (by decide +kernel)
set_option maxRecDepth 20000 in
theorem gX0_schedule_X0_doubled : GoodIn wsX0_schedule (va_wsS RX0 45 yX0_doubled wsX0_doubled) := goodIn_app (goodIn_of _ (by decide +kernel)) ggX0_schedule_X0_doubled
theorem dX0_schedule_0 : decode cX0_schedule 0 = .ok (.aload_n 1, 1) := by decide +kernel
theorem dX0_schedule_1 : decode cX0_schedule 1 = .ok (.invokevirtual 22, 3) := by decide +kernel
theorem dX0_schedule_4 : decode cX0_schedule 4 = .ok (.iconst 2, 1) := by decide +kernel
theorem dX0_schedule_5 : decode cX0_schedule 5 = .ok (.ishr, 1) := by decide +kernel
theorem dX0_schedule_6 : decode cX0_schedule 6 = .ok (.istore_n 2, 1) := by decide +kernel
theorem dX0_schedule_7 : decode cX0_schedule 7 = .ok (.iload_n 2, 1) := by decide +kernel
theorem dX0_schedule_8 : decode cX0_schedule 8 = .ok (.iconst 4, 1) := by decide +kernel
theorem dX0_schedule_9 : decode cX0_schedule 9 = .ok (.if_icmp .eq 16, 3) := by decide +kernel
theorem dX0_schedule_12 : decode cX0_schedule 12 = .ok (.iload_n 2, 1) := by decide +kernel
theorem dX0_schedule_13 : decode cX0_schedule 13 = .ok (.bipush 6, 2) := by decide +kernel
theorem dX0_schedule_15 : decode cX0_schedule 15 = .ok (.if_icmp .eq 10, 3) := by decide +kernel
theorem dX0_schedule_18 : decode cX0_schedule 18 = .ok (.iload_n 2, 1) := by decide +kernel
theorem dX0_schedule_19 : decode cX0_schedule 19 = .ok (.bipush 8, 2) := by decide +kernel
theorem dX0_schedule_21 : decode cX0_schedule 21 = .ok (.if_icmp .eq 4, 3) := by decide +kernel
theorem dX0_schedule_24 : decode cX0_schedule 24 = .ok (.return_, 1) := by decide +kernel
theorem dX0_schedule_25 : decode cX0_schedule 25 = .ok (.aload_n 0, 1) := by decide +kernel
theorem dX0_schedule_26 : decode cX0_schedule 26 = .ok (.iload_n 2, 1) := by decide +kernel
theorem dX0_schedule_27 : decode cX0_schedule 27 = .ok (.bipush 6, 2) := by decide +kernel
theorem dX0_schedule_29 : decode cX0_schedule 29 = .ok (.iadd, 1) := by decide +kernel
theorem dX0_schedule_30 : decode cX0_schedule 30 = .ok (.putfield 28, 3) := by decide +kernel
theorem dX0_schedule_33 : decode cX0_schedule 33 = .ok (.iconst 0, 1) := by decide +kernel
theorem dX0_schedule_34 : decode cX0_schedule 34 = .ok (.istore_n 3, 1) := by decide +kernel
theorem dX0_schedule_35 : decode cX0_schedule 35 = .ok (.iload_n 3, 1) := by decide +kernel
theorem dX0_schedule_36 : decode cX0_schedule 36 = .ok (.iload_n 2, 1) := by decide +kernel
theorem dX0_schedule_37 : decode cX0_schedule 37 = .ok (.if_icmp .ge 22, 3) := by decide +kernel
theorem dX0_schedule_40 : decode cX0_schedule 40 = .ok (.aload_n 0, 1) := by decide +kernel
theorem dX0_schedule_41 : decode cX0_schedule 41 = .ok (.getfield 13, 3) := by decide +kernel
theorem dX0_schedule_44 : decode cX0_schedule 44 = .ok (.iload_n 3, 1) := by decide +kernel
theorem dX0_schedule_45 : decode cX0_schedule 45 = .ok (.aload_n 1, 1) := by decide +kernel
theorem dX0_schedule_46 : decode cX0_schedule 46 = .ok (.iconst 4, 1) := by decide +kernel
theorem dX0_schedule_47 : decode cX0_schedule 47 = .ok (.iload_n 3, 1) := by decide +kernel
theorem dX0_schedule_48 : decode cX0_schedule 48 = .ok (.imul, 1) := by decide +kernel
theorem dX0_schedule_49 : decode cX0_schedule 49 = .ok (.invokevirtual 32, 3) := by decide +kernel
theorem dX0_schedule_52 : decode cX0_schedule 52 = .ok (.iastore, 1) := by decide +kernel
theorem dX0_schedule_53 : decode cX0_schedule 53 = .ok (.iinc 3 1, 3) := by decide +kernel
theorem dX0_schedule_56 : decode cX0_schedule 56 = .ok (.goto (-21), 3) := by decide +kernel
theorem dX0_schedule_59 : decode cX0_schedule 59 = .ok (.iconst 4, 1) := by decide +kernel
theorem dX0_schedule_60 : decode cX0_schedule 60 = .ok (.aload_n 0, 1) := by decide +kernel
theorem dX0_schedule_61 : decode cX0_schedule 61 = .ok (.getfield 28, 3) := by decide +kernel
theorem dX0_schedule_64 : decode cX0_schedule 64 = .ok (.iconst 1, 1) := by decide +kernel
theorem dX0_schedule_65 : decode cX0_schedule 65 = .ok (.iadd, 1) := by decide +kernel
theorem dX0_schedule_66 : decode cX0_schedule 66 = .ok (.imul, 1) := by decide +kernel
theorem dX0_schedule_67 : decode cX0_schedule 67 = .ok (.istore_n 3, 1) := by decide +kernel
theorem dX0_schedule_68 : decode cX0_schedule 68 = .ok (.iconst 1, 1) := by decide +kernel
theorem dX0_schedule_69 : decode cX0_schedule 69 = .ok (.istore 4, 2) := by decide +kernel
theorem dX0_schedule_71 : decode cX0_schedule 71 = .ok (.iconst 0, 1) := by decide +kernel
theorem dX0_schedule_72 : decode cX0_schedule 72 = .ok (.istore 5, 2) := by decide +kernel
theorem dX0_schedule_74 : decode cX0_schedule 74 = .ok (.iload_n 2, 1) := by decide +kernel
theorem dX0_schedule_75 : decode cX0_schedule 75 = .ok (.istore 6, 2) := by decide +kernel
theorem dX0_schedule_77 : decode cX0_schedule 77 = .ok (.iload 6, 2) := by decide +kernel
theorem dX0_schedule_79 : decode cX0_schedule 79 = .ok (.iload_n 3, 1) := by decide +kernel
theorem dX0_schedule_80 : decode cX0_schedule 80 = .ok (.if_icmp .ge 109, 3) := by decide +kernel
theorem dX0_schedule_83 : decode cX0_schedule 83 = .ok (.aload_n 0, 1) := by decide +kernel
theorem dX0_schedule_84 : decode cX0_schedule 84 = .ok (.getfield 13, 3) := by decide +kernel
theorem dX0_schedule_87 : decode cX0_schedule 87 = .ok (.iload 6, 2) := by decide +kernel
theorem dX0_schedule_89 : decode cX0_schedule 89 = .ok (.iconst 1, 1) := by decide +kernel
theorem dX0_schedule_90 : decode cX0_schedule 90 = .ok (.isub, 1) := by decide +kernel
theorem dX0_schedule_91 : decode cX0_schedule 91 = .ok (.iaload, 1) := by decide +kernel
theorem dX0_schedule_92 : decode cX0_schedule 92 = .ok (.istore 7, 2) := by decide +kernel
theorem dX0_schedule_94 : decode cX0_schedule 94 = .ok (.iload 5, 2) := by decide +kernel
theorem dX0_schedule_96 : decode cX0_schedule 96 = .ok (.ifCond .ne 31, 3) := by decide +kernel
theorem dX0_schedule_99 : decode cX0_schedule 99 = .ok (.iload 7, 2) := by decide +kernel
theorem dX0_schedule_101 : decode cX0_schedule 101 = .ok (.bipush 24, 2) := by decide +kernel
theorem dX0_schedule_103 : decode cX0_schedule 103 = .ok (.invokestatic 36, 3) := by decide +kernel
theorem dX0_schedule_106 : decode cX0_schedule 106 = .ok (.invokestatic 42, 3) := by decide +kernel
theorem dX0_schedule_109 : decode cX0_schedule 109 = .ok (.iload 4, 2) := by decide +kernel
theorem dX0_schedule_111 : decode cX0_schedule 111 = .ok (.bipush 24, 2) := by decide +kernel
theorem dX0_schedule_113 : decode cX0_schedule 113 = .ok (.ishl, 1) := by decide +kernel
theorem dX0_schedule_114 : decode cX0_schedule 114 = .ok (.ixor, 1) := by decide +kernel
theorem dX0_schedule_115 : decode cX0_schedule 115 = .ok (.istore 7, 2) := by decide +kernel
theorem dX0_schedule_117 : decode cX0_schedule 117 = .ok (.iload 4, 2) := by decide +kernel
theorem dX0_schedule_119 : decode cX0_schedule 119 = .ok (.invokestatic 45, 3) := by decide +kernel
theorem dX0_schedule_122 : decode cX0_schedule 122 = .ok (.istore 4, 2) := by decide +kernel
theorem dX0_schedule_124 : decode cX0_schedule 124 = .ok (.goto 22, 3) := by decide +kernel
theorem dX0_schedule_127 : decode cX0_schedule 127 = .ok (.iload_n 2, 1) := by decide +kernel
theorem dX0_schedule_128 : decode cX0_schedule 128 = .ok (.bipush 8, 2) := by decide +kernel
theorem dX0_schedule_130 : decode cX0_schedule 130 = .ok (.if_icmp .ne 16, 3) := by decide +kernel
theorem dX0_schedule_133 : decode cX0_schedule 133 = .ok (.iload 5, 2) := by decide +kernel
theorem dX0_schedule_135 : decode cX0_schedule 135 = .ok (.iconst 4, 1) := by decide +kernel
theorem dX0_schedule_136 : decode cX0_schedule 136 = .ok (.if_icmp .ne 10, 3) := by decide +kernel
theorem dX0_schedule_139 : decode cX0_schedule 139 = .ok (.iload 7, 2) := by decide +kernel
theorem dX0_schedule_141 : decode cX0_schedule 141 = .ok (.invokestatic 42, 3) := by decide +kernel
theorem dX0_schedule_144 : decode cX0_schedule 144 = .ok (.istore 7, 2) := by decide +kernel
theorem dX0_schedule_146 : decode cX0_schedule 146 = .ok (.aload_n 0, 1) := by decide +kernel
theorem dX0_schedule_147 : decode cX0_schedule 147 = .ok (.getfield 13, 3) := by decide +kernel
theorem dX0_schedule_150 : decode cX0_schedule 150 = .ok (.iload 6, 2) := by decide +kernel
theorem dX0_schedule_152 : decode cX0_schedule 152 = .ok (.aload_n 0, 1) := by decide +kernel
theorem dX0_schedule_153 : decode cX0_schedule 153 = .ok (.getfield 13, 3) := by decide +kernel
theorem dX0_schedule_156 : decode cX0_schedule 156 = .ok (.iload 6, 2) := by decide +kernel
theorem dX0_schedule_158 : decode cX0_schedule 158 = .ok (.iload_n 2, 1) := by decide +kernel
theorem dX0_schedule_159 : decode cX0_schedule 159 = .ok (.isub, 1) := by decide +kernel
theorem dX0_schedule_160 : decode cX0_schedule 160 = .ok (.iaload, 1) := by decide +kernel
theorem dX0_schedule_161 : decode cX0_schedule 161 = .ok (.iload 7, 2) := by decide +kernel
theorem dX0_schedule_163 : decode cX0_schedule 163 = .ok (.ixor, 1) := by decide +kernel
theorem dX0_schedule_164 : decode cX0_schedule 164 = .ok (.iastore, 1) := by decide +kernel
theorem dX0_schedule_165 : decode cX0_schedule 165 = .ok (.iload 5, 2) := by decide +kernel
theorem dX0_schedule_167 : decode cX0_schedule 167 = .ok (.iconst 1, 1) := by decide +kernel
theorem dX0_schedule_168 : decode cX0_schedule 168 = .ok (.iadd, 1) := by decide +kernel
theorem dX0_schedule_169 : decode cX0_schedule 169 = .ok (.iload_n 2, 1) := by decide +kernel
theorem dX0_schedule_170 : decode cX0_schedule 170 = .ok (.if_icmp .ne 7, 3) := by decide +kernel
theorem dX0_schedule_173 : decode cX0_schedule 173 = .ok (.iconst 0, 1) := by decide +kernel
theorem dX0_schedule_174 : decode cX0_schedule 174 = .ok (.goto 7, 3) := by decide +kernel
theorem dX0_schedule_177 : decode cX0_schedule 177 = .ok (.iload 5, 2) := by decide +kernel
theorem dX0_schedule_179 : decode cX0_schedule 179 = .ok (.iconst 1, 1) := by decide +kernel
theorem dX0_schedule_180 : decode cX0_schedule 180 = .ok (.iadd, 1) := by decide +kernel
theorem dX0_schedule_181 : decode cX0_schedule 181 = .ok (.istore 5, 2) := by decide +kernel
theorem dX0_schedule_183 : decode cX0_schedule 183 = .ok (.iinc 6 1, 3) := by decide +kernel
theorem dX0_schedule_186 : decode cX0_schedule 186 = .ok (.goto (-109), 3) := by decide +kernel
theorem dX0_schedule_189 : decode cX0_schedule 189 = .ok (.return_, 1) := by decide +kernel
theorem dX0_substituted_0 : decode cX0_substituted 0 = .ok (.getstatic 19, 3) := by decide +kernel
theorem dX0_substituted_3 : decode cX0_substituted 3 = .ok (.iload_n 0, 1) := by decide +kernel
theorem dX0_substituted_4 : decode cX0_substituted 4 = .ok (.bipush 24, 2) := by decide +kernel
theorem dX0_substituted_6 : decode cX0_substituted 6 = .ok (.iushr, 1) := by decide +kernel
theorem dX0_substituted_7 : decode cX0_substituted 7 = .ok (.iaload, 1) := by decide +kernel
theorem dX0_substituted_8 : decode cX0_substituted 8 = .ok (.bipush 24, 2) := by decide +kernel
theorem dX0_substituted_10 : decode cX0_substituted 10 = .ok (.ishl, 1) := by decide +kernel
theorem dX0_substituted_11 : decode cX0_substituted 11 = .ok (.getstatic 19, 3) := by decide +kernel
theorem dX0_substituted_14 : decode cX0_substituted 14 = .ok (.iload_n 0, 1) := by decide +kernel
theorem dX0_substituted_15 : decode cX0_substituted 15 = .ok (.bipush 16, 2) := by decide +kernel
theorem dX0_substituted_17 : decode cX0_substituted 17 = .ok (.iushr, 1) := by decide +kernel
theorem dX0_substituted_18 : decode cX0_substituted 18 = .ok (.sipush 255, 3) := by decide +kernel
theorem dX0_substituted_21 : decode cX0_substituted 21 = .ok (.iand, 1) := by decide +kernel
theorem dX0_substituted_22 : decode cX0_substituted 22 = .ok (.iaload, 1) := by decide +kernel
theorem dX0_substituted_23 : decode cX0_substituted 23 = .ok (.bipush 16, 2) := by decide +kernel
theorem dX0_substituted_25 : decode cX0_substituted 25 = .ok (.ishl, 1) := by decide +kernel
theorem dX0_substituted_26 : decode cX0_substituted 26 = .ok (.ior, 1) := by decide +kernel
theorem dX0_substituted_27 : decode cX0_substituted 27 = .ok (.getstatic 19, 3) := by decide +kernel
theorem dX0_substituted_30 : decode cX0_substituted 30 = .ok (.iload_n 0, 1) := by decide +kernel
theorem dX0_substituted_31 : decode cX0_substituted 31 = .ok (.bipush 8, 2) := by decide +kernel
theorem dX0_substituted_33 : decode cX0_substituted 33 = .ok (.iushr, 1) := by decide +kernel
theorem dX0_substituted_34 : decode cX0_substituted 34 = .ok (.sipush 255, 3) := by decide +kernel
theorem dX0_substituted_37 : decode cX0_substituted 37 = .ok (.iand, 1) := by decide +kernel
theorem dX0_substituted_38 : decode cX0_substituted 38 = .ok (.iaload, 1) := by decide +kernel
theorem dX0_substituted_39 : decode cX0_substituted 39 = .ok (.bipush 8, 2) := by decide +kernel
theorem dX0_substituted_41 : decode cX0_substituted 41 = .ok (.ishl, 1) := by decide +kernel
theorem dX0_substituted_42 : decode cX0_substituted 42 = .ok (.ior, 1) := by decide +kernel
theorem dX0_substituted_43 : decode cX0_substituted 43 = .ok (.getstatic 19, 3) := by decide +kernel
theorem dX0_substituted_46 : decode cX0_substituted 46 = .ok (.iload_n 0, 1) := by decide +kernel
theorem dX0_substituted_47 : decode cX0_substituted 47 = .ok (.sipush 255, 3) := by decide +kernel
theorem dX0_substituted_50 : decode cX0_substituted 50 = .ok (.iand, 1) := by decide +kernel
theorem dX0_substituted_51 : decode cX0_substituted 51 = .ok (.iaload, 1) := by decide +kernel
theorem dX0_substituted_52 : decode cX0_substituted 52 = .ok (.ior, 1) := by decide +kernel
theorem dX0_substituted_53 : decode cX0_substituted 53 = .ok (.ireturn, 1) := by decide +kernel
theorem dX0_doubled_0 : decode cX0_doubled 0 = .ok (.iload_n 0, 1) := by decide +kernel
theorem dX0_doubled_1 : decode cX0_doubled 1 = .ok (.iconst 1, 1) := by decide +kernel
theorem dX0_doubled_2 : decode cX0_doubled 2 = .ok (.ishl, 1) := by decide +kernel
theorem dX0_doubled_3 : decode cX0_doubled 3 = .ok (.istore_n 1, 1) := by decide +kernel
theorem dX0_doubled_4 : decode cX0_doubled 4 = .ok (.iload_n 1, 1) := by decide +kernel
theorem dX0_doubled_5 : decode cX0_doubled 5 = .ok (.sipush 256, 3) := by decide +kernel
theorem dX0_doubled_8 : decode cX0_doubled 8 = .ok (.iand, 1) := by decide +kernel
theorem dX0_doubled_9 : decode cX0_doubled 9 = .ok (.ifCond .ne 7, 3) := by decide +kernel
theorem dX0_doubled_12 : decode cX0_doubled 12 = .ok (.iload_n 1, 1) := by decide +kernel
theorem dX0_doubled_13 : decode cX0_doubled 13 = .ok (.goto 8, 3) := by decide +kernel
theorem dX0_doubled_16 : decode cX0_doubled 16 = .ok (.iload_n 1, 1) := by decide +kernel
theorem dX0_doubled_17 : decode cX0_doubled 17 = .ok (.sipush 283, 3) := by decide +kernel
theorem dX0_doubled_20 : decode cX0_doubled 20 = .ok (.ixor, 1) := by decide +kernel
theorem dX0_doubled_21 : decode cX0_doubled 21 = .ok (.ireturn, 1) := by decide +kernel
set_option maxRecDepth 20000 in
theorem ggX0_codeThere_X0_addRoundKey : GoodIn wsX0_codeThere wsX0_addRoundKey := goodIn_r _ [6, 7, 8, 9, 27, 28, 29, 30, 31, 32, 33, 34, 35, 36] rfl (by decide +kernel)
set_option maxRecDepth 20000 in
theorem gX0_codeThere_X0_addRoundKey : GoodIn wsX0_codeThere (wsV RX0 48 RX0 yX0_addRoundKey wsX0_addRoundKey) := goodIn_app (goodIn_of _ (by decide +kernel)) ggX0_codeThere_X0_addRoundKey
set_option maxRecDepth 20000 in
theorem ggX0_codeThere_X0_substituteAndShift : GoodIn wsX0_codeThere wsX0_substituteAndShift := goodIn_r _ [13, 14, 15, 8, 9, 16, 17, 18, 19, 27, 28, 29, 30, 31, 32, 33, 34, 35, 36] rfl (by decide +kernel)
set_option maxRecDepth 20000 in
theorem gX0_codeThere_X0_substituteAndShift : GoodIn wsX0_codeThere (wsV RX0 51 RX0 yX0_substituteAndShift wsX0_substituteAndShift) := goodIn_app (goodIn_of _ (by decide +kernel)) ggX0_codeThere_X0_substituteAndShift
set_option maxRecDepth 20000 in
theorem ggX0_codeThere_X0_mixColumns : GoodIn wsX0_codeThere wsX0_mixColumns := goodIn_r _ [23, 8, 9, 24, 25, 5, 26, 27, 28, 29, 30, 31, 32, 33, 34, 35, 36] rfl (by decide +kernel)
set_option maxRecDepth 20000 in
theorem gX0_codeThere_X0_mixColumns : GoodIn wsX0_codeThere (wsV RX0 55 RX0 yX0_mixColumns wsX0_mixColumns) := goodIn_app (goodIn_of _ (by decide +kernel)) ggX0_codeThere_X0_mixColumns
theorem dX0_codeThere_0 : decode cX0_codeThere 0 = .ok (.aload_n 0, 1) := by decide +kernel
theorem dX0_codeThere_1 : decode cX0_codeThere 1 = .ok (.iconst 0, 1) := by decide +kernel
theorem dX0_codeThere_2 : decode cX0_codeThere 2 = .ok (.invokevirtual 48, 3) := by decide +kernel
theorem dX0_codeThere_5 : decode cX0_codeThere 5 = .ok (.iconst 1, 1) := by decide +kernel
theorem dX0_codeThere_6 : decode cX0_codeThere 6 = .ok (.istore_n 1, 1) := by decide +kernel
theorem dX0_codeThere_7 : decode cX0_codeThere 7 = .ok (.iload_n 1, 1) := by decide +kernel
theorem dX0_codeThere_8 : decode cX0_codeThere 8 = .ok (.aload_n 0, 1) := by decide +kernel
theorem dX0_codeThere_9 : decode cX0_codeThere 9 = .ok (.getfield 28, 3) := by decide +kernel
theorem dX0_codeThere_12 : decode cX0_codeThere 12 = .ok (.if_icmp .ge 22, 3) := by decide +kernel
theorem dX0_codeThere_15 : decode cX0_codeThere 15 = .ok (.aload_n 0, 1) := by decide +kernel
theorem dX0_codeThere_16 : decode cX0_codeThere 16 = .ok (.invokevirtual 51, 3) := by decide +kernel
theorem dX0_codeThere_19 : decode cX0_codeThere 19 = .ok (.aload_n 0, 1) := by decide +kernel
theorem dX0_codeThere_20 : decode cX0_codeThere 20 = .ok (.invokevirtual 55, 3) := by decide +kernel
theorem dX0_codeThere_23 : decode cX0_codeThere 23 = .ok (.aload_n 0, 1) := by decide +kernel
theorem dX0_codeThere_24 : decode cX0_codeThere 24 = .ok (.iload_n 1, 1) := by decide +kernel
theorem dX0_codeThere_25 : decode cX0_codeThere 25 = .ok (.invokevirtual 48, 3) := by decide +kernel
theorem dX0_codeThere_28 : decode cX0_codeThere 28 = .ok (.iinc 1 1, 3) := by decide +kernel
theorem dX0_codeThere_31 : decode cX0_codeThere 31 = .ok (.goto (-24), 3) := by decide +kernel
theorem dX0_codeThere_34 : decode cX0_codeThere 34 = .ok (.aload_n 0, 1) := by decide +kernel
theorem dX0_codeThere_35 : decode cX0_codeThere 35 = .ok (.invokevirtual 51, 3) := by decide +kernel
theorem dX0_codeThere_38 : decode cX0_codeThere 38 = .ok (.aload_n 0, 1) := by decide +kernel
theorem dX0_codeThere_39 : decode cX0_codeThere 39 = .ok (.aload_n 0, 1) := by decide +kernel
theorem dX0_codeThere_40 : decode cX0_codeThere 40 = .ok (.getfield 28, 3) := by decide +kernel
theorem dX0_codeThere_43 : decode cX0_codeThere 43 = .ok (.invokevirtual 48, 3) := by decide +kernel
theorem dX0_codeThere_46 : decode cX0_codeThere 46 = .ok (.return_, 1) := by decide +kernel
set_option maxRecDepth 20000 in
theorem ggX0_codeBack_X0_addRoundKey : GoodIn wsX0_codeBack wsX0_addRoundKey := goodIn_r _ [6, 7, 8, 9, 31, 32, 33, 34, 35, 36, 37, 38, 39, 40] rfl (by decide +kernel)
set_option maxRecDepth 20000 in
theorem gX0_codeBack_X0_addRoundKey : GoodIn wsX0_codeBack (wsV RX0 48 RX0 yX0_addRoundKey wsX0_addRoundKey) := goodIn_app (goodIn_of _ (by decide +kernel)) ggX0_codeBack_X0_addRoundKey
set_option maxRecDepth 20000 in
theorem ggX0_codeBack_X0_shiftAndRestore : GoodIn wsX0_codeBack wsX0_shiftAndRestore := goodIn_r _ [13, 14, 15, 8, 9, 16, 17, 18, 19, 31, 32, 33, 34, 35, 36, 37, 38, 39, 40] rfl (by decide +kernel)
set_option maxRecDepth 20000 in
theorem gX0_codeBack_X0_shiftAndRestore : GoodIn wsX0_codeBack (wsV RX0 58 RX0 yX0_shiftAndRestore wsX0_shiftAndRestore) := goodIn_app (goodIn_of _ (by decide +kernel)) ggX0_codeBack_X0_shiftAndRestore
set_option maxRecDepth 20000 in
theorem ggX0_codeBack_X0_unmixColumns : GoodIn wsX0_codeBack wsX0_unmixColumns := goodIn_r _ [23, 8, 9, 24, 25, 5, 26, 27, 28, 29, 30, 31, 32, 33, 34, 35, 36, 37, 38, 39, 40] rfl (by decide +kernel)
set_option maxRecDepth 20000 in
theorem gX0_codeBack_X0_unmixColumns : GoodIn wsX0_codeBack (wsV RX0 61 RX0 yX0_unmixColumns wsX0_unmixColumns) := goodIn_app (goodIn_of _ (by decide +kernel)) ggX0_codeBack_X0_unmixColumns
theorem dX0_codeBack_0 : decode cX0_codeBack 0 = .ok (.aload_n 0, 1) := by decide +kernel
theorem dX0_codeBack_1 : decode cX0_codeBack 1 = .ok (.aload_n 0, 1) := by decide +kernel
theorem dX0_codeBack_2 : decode cX0_codeBack 2 = .ok (.getfield 28, 3) := by decide +kernel
theorem dX0_codeBack_5 : decode cX0_codeBack 5 = .ok (.invokevirtual 48, 3) := by decide +kernel
theorem dX0_codeBack_8 : decode cX0_codeBack 8 = .ok (.aload_n 0, 1) := by decide +kernel
theorem dX0_codeBack_9 : decode cX0_codeBack 9 = .ok (.getfield 28, 3) := by decide +kernel
theorem dX0_codeBack_12 : decode cX0_codeBack 12 = .ok (.iconst 1, 1) := by decide +kernel
theorem dX0_codeBack_13 : decode cX0_codeBack 13 = .ok (.isub, 1) := by decide +kernel
theorem dX0_codeBack_14 : decode cX0_codeBack 14 = .ok (.istore_n 1, 1) := by decide +kernel
theorem dX0_codeBack_15 : decode cX0_codeBack 15 = .ok (.iload_n 1, 1) := by decide +kernel
theorem dX0_codeBack_16 : decode cX0_codeBack 16 = .ok (.ifCond .le 22, 3) := by decide +kernel
theorem dX0_codeBack_19 : decode cX0_codeBack 19 = .ok (.aload_n 0, 1) := by decide +kernel
theorem dX0_codeBack_20 : decode cX0_codeBack 20 = .ok (.invokevirtual 58, 3) := by decide +kernel
theorem dX0_codeBack_23 : decode cX0_codeBack 23 = .ok (.aload_n 0, 1) := by decide +kernel
theorem dX0_codeBack_24 : decode cX0_codeBack 24 = .ok (.iload_n 1, 1) := by decide +kernel
theorem dX0_codeBack_25 : decode cX0_codeBack 25 = .ok (.invokevirtual 48, 3) := by decide +kernel
theorem dX0_codeBack_28 : decode cX0_codeBack 28 = .ok (.aload_n 0, 1) := by decide +kernel
theorem dX0_codeBack_29 : decode cX0_codeBack 29 = .ok (.invokevirtual 61, 3) := by decide +kernel
theorem dX0_codeBack_32 : decode cX0_codeBack 32 = .ok (.iinc 1 (-1), 3) := by decide +kernel
theorem dX0_codeBack_35 : decode cX0_codeBack 35 = .ok (.goto (-20), 3) := by decide +kernel
theorem dX0_codeBack_38 : decode cX0_codeBack 38 = .ok (.aload_n 0, 1) := by decide +kernel
theorem dX0_codeBack_39 : decode cX0_codeBack 39 = .ok (.invokevirtual 58, 3) := by decide +kernel
theorem dX0_codeBack_42 : decode cX0_codeBack 42 = .ok (.aload_n 0, 1) := by decide +kernel
theorem dX0_codeBack_43 : decode cX0_codeBack 43 = .ok (.iconst 0, 1) := by decide +kernel
theorem dX0_codeBack_44 : decode cX0_codeBack 44 = .ok (.invokevirtual 48, 3) := by decide +kernel
theorem dX0_codeBack_47 : decode cX0_codeBack 47 = .ok (.return_, 1) := by decide +kernel
theorem dX0_addRoundKey_0 : decode cX0_addRoundKey 0 = .ok (.iconst 0, 1) := by decide +kernel
theorem dX0_addRoundKey_1 : decode cX0_addRoundKey 1 = .ok (.istore_n 2, 1) := by decide +kernel
theorem dX0_addRoundKey_2 : decode cX0_addRoundKey 2 = .ok (.iload_n 2, 1) := by decide +kernel
theorem dX0_addRoundKey_3 : decode cX0_addRoundKey 3 = .ok (.iconst 4, 1) := by decide +kernel
theorem dX0_addRoundKey_4 : decode cX0_addRoundKey 4 = .ok (.if_icmp .ge 96, 3) := by decide +kernel
theorem dX0_addRoundKey_7 : decode cX0_addRoundKey 7 = .ok (.aload_n 0, 1) := by decide +kernel
theorem dX0_addRoundKey_8 : decode cX0_addRoundKey 8 = .ok (.getfield 13, 3) := by decide +kernel
theorem dX0_addRoundKey_11 : decode cX0_addRoundKey 11 = .ok (.iconst 4, 1) := by decide +kernel
theorem dX0_addRoundKey_12 : decode cX0_addRoundKey 12 = .ok (.iload_n 1, 1) := by decide +kernel
theorem dX0_addRoundKey_13 : decode cX0_addRoundKey 13 = .ok (.imul, 1) := by decide +kernel
theorem dX0_addRoundKey_14 : decode cX0_addRoundKey 14 = .ok (.iload_n 2, 1) := by decide +kernel
theorem dX0_addRoundKey_15 : decode cX0_addRoundKey 15 = .ok (.iadd, 1) := by decide +kernel
theorem dX0_addRoundKey_16 : decode cX0_addRoundKey 16 = .ok (.iaload, 1) := by decide +kernel
theorem dX0_addRoundKey_17 : decode cX0_addRoundKey 17 = .ok (.istore_n 3, 1) := by decide +kernel
theorem dX0_addRoundKey_18 : decode cX0_addRoundKey 18 = .ok (.iconst 4, 1) := by decide +kernel
theorem dX0_addRoundKey_19 : decode cX0_addRoundKey 19 = .ok (.iload_n 2, 1) := by decide +kernel
theorem dX0_addRoundKey_20 : decode cX0_addRoundKey 20 = .ok (.imul, 1) := by decide +kernel
theorem dX0_addRoundKey_21 : decode cX0_addRoundKey 21 = .ok (.istore 4, 2) := by decide +kernel
theorem dX0_addRoundKey_23 : decode cX0_addRoundKey 23 = .ok (.aload_n 0, 1) := by decide +kernel
theorem dX0_addRoundKey_24 : decode cX0_addRoundKey 24 = .ok (.getfield 64, 3) := by decide +kernel
theorem dX0_addRoundKey_27 : decode cX0_addRoundKey 27 = .ok (.iload 4, 2) := by decide +kernel
theorem dX0_addRoundKey_29 : decode cX0_addRoundKey 29 = .ok (.dup2, 1) := by decide +kernel
theorem dX0_addRoundKey_30 : decode cX0_addRoundKey 30 = .ok (.iaload, 1) := by decide +kernel
theorem dX0_addRoundKey_31 : decode cX0_addRoundKey 31 = .ok (.iload_n 3, 1) := by decide +kernel
theorem dX0_addRoundKey_32 : decode cX0_addRoundKey 32 = .ok (.bipush 24, 2) := by decide +kernel
theorem dX0_addRoundKey_34 : decode cX0_addRoundKey 34 = .ok (.iushr, 1) := by decide +kernel
theorem dX0_addRoundKey_35 : decode cX0_addRoundKey 35 = .ok (.ixor, 1) := by decide +kernel
theorem dX0_addRoundKey_36 : decode cX0_addRoundKey 36 = .ok (.iastore, 1) := by decide +kernel
theorem dX0_addRoundKey_37 : decode cX0_addRoundKey 37 = .ok (.aload_n 0, 1) := by decide +kernel
theorem dX0_addRoundKey_38 : decode cX0_addRoundKey 38 = .ok (.getfield 64, 3) := by decide +kernel
theorem dX0_addRoundKey_41 : decode cX0_addRoundKey 41 = .ok (.iload 4, 2) := by decide +kernel
theorem dX0_addRoundKey_43 : decode cX0_addRoundKey 43 = .ok (.iconst 1, 1) := by decide +kernel
theorem dX0_addRoundKey_44 : decode cX0_addRoundKey 44 = .ok (.iadd, 1) := by decide +kernel
theorem dX0_addRoundKey_45 : decode cX0_addRoundKey 45 = .ok (.dup2, 1) := by decide +kernel
theorem dX0_addRoundKey_46 : decode cX0_addRoundKey 46 = .ok (.iaload, 1) := by decide +kernel
theorem dX0_addRoundKey_47 : decode cX0_addRoundKey 47 = .ok (.iload_n 3, 1) := by decide +kernel
theorem dX0_addRoundKey_48 : decode cX0_addRoundKey 48 = .ok (.bipush 16, 2) := by decide +kernel
theorem dX0_addRoundKey_50 : decode cX0_addRoundKey 50 = .ok (.iushr, 1) := by decide +kernel
theorem dX0_addRoundKey_51 : decode cX0_addRoundKey 51 = .ok (.sipush 255, 3) := by decide +kernel
theorem dX0_addRoundKey_54 : decode cX0_addRoundKey 54 = .ok (.iand, 1) := by decide +kernel
theorem dX0_addRoundKey_55 : decode cX0_addRoundKey 55 = .ok (.ixor, 1) := by decide +kernel
theorem dX0_addRoundKey_56 : decode cX0_addRoundKey 56 = .ok (.iastore, 1) := by decide +kernel
theorem dX0_addRoundKey_57 : decode cX0_addRoundKey 57 = .ok (.aload_n 0, 1) := by decide +kernel
theorem dX0_addRoundKey_58 : decode cX0_addRoundKey 58 = .ok (.getfield 64, 3) := by decide +kernel
theorem dX0_addRoundKey_61 : decode cX0_addRoundKey 61 = .ok (.iload 4, 2) := by decide +kernel
theorem dX0_addRoundKey_63 : decode cX0_addRoundKey 63 = .ok (.iconst 2, 1) := by decide +kernel
theorem dX0_addRoundKey_64 : decode cX0_addRoundKey 64 = .ok (.iadd, 1) := by decide +kernel
theorem dX0_addRoundKey_65 : decode cX0_addRoundKey 65 = .ok (.dup2, 1) := by decide +kernel
theorem dX0_addRoundKey_66 : decode cX0_addRoundKey 66 = .ok (.iaload, 1) := by decide +kernel
theorem dX0_addRoundKey_67 : decode cX0_addRoundKey 67 = .ok (.iload_n 3, 1) := by decide +kernel
theorem dX0_addRoundKey_68 : decode cX0_addRoundKey 68 = .ok (.bipush 8, 2) := by decide +kernel
theorem dX0_addRoundKey_70 : decode cX0_addRoundKey 70 = .ok (.iushr, 1) := by decide +kernel
theorem dX0_addRoundKey_71 : decode cX0_addRoundKey 71 = .ok (.sipush 255, 3) := by decide +kernel
theorem dX0_addRoundKey_74 : decode cX0_addRoundKey 74 = .ok (.iand, 1) := by decide +kernel
theorem dX0_addRoundKey_75 : decode cX0_addRoundKey 75 = .ok (.ixor, 1) := by decide +kernel
theorem dX0_addRoundKey_76 : decode cX0_addRoundKey 76 = .ok (.iastore, 1) := by decide +kernel
theorem dX0_addRoundKey_77 : decode cX0_addRoundKey 77 = .ok (.aload_n 0, 1) := by decide +kernel
theorem dX0_addRoundKey_78 : decode cX0_addRoundKey 78 = .ok (.getfield 64, 3) := by decide +kernel
theorem dX0_addRoundKey_81 : decode cX0_addRoundKey 81 = .ok (.iload 4, 2) := by decide +kernel
theorem dX0_addRoundKey_83 : decode cX0_addRoundKey 83 = .ok (.iconst 3, 1) := by decide +kernel
theorem dX0_addRoundKey_84 : decode cX0_addRoundKey 84 = .ok (.iadd, 1) := by decide +kernel
theorem dX0_addRoundKey_85 : decode cX0_addRoundKey 85 = .ok (.dup2, 1) := by decide +kernel
theorem dX0_addRoundKey_86 : decode cX0_addRoundKey 86 = .ok (.iaload, 1) := by decide +kernel
theorem dX0_addRoundKey_87 : decode cX0_addRoundKey 87 = .ok (.iload_n 3, 1) := by decide +kernel
theorem dX0_addRoundKey_88 : decode cX0_addRoundKey 88 = .ok (.sipush 255, 3) := by decide +kernel
theorem dX0_addRoundKey_91 : decode cX0_addRoundKey 91 = .ok (.iand, 1) := by decide +kernel
theorem dX0_addRoundKey_92 : decode cX0_addRoundKey 92 = .ok (.ixor, 1) := by decide +kernel
theorem dX0_addRoundKey_93 : decode cX0_addRoundKey 93 = .ok (.iastore, 1) := by decide +kernel
theorem dX0_addRoundKey_94 : decode cX0_addRoundKey 94 = .ok (.iinc 2 1, 3) := by decide +kernel
theorem dX0_addRoundKey_97 : decode cX0_addRoundKey 97 = .ok (.goto (-95), 3) := by decide +kernel
theorem dX0_addRoundKey_100 : decode cX0_addRoundKey 100 = .ok (.return_, 1) := by decide +kernel
theorem dX0_substituteAndShift_0 : decode cX0_substituteAndShift 0 = .ok (.iconst 0, 1) := by decide +kernel
theorem dX0_substituteAndShift_1 : decode cX0_substituteAndShift 1 = .ok (.istore_n 1, 1) := by decide +kernel
theorem dX0_substituteAndShift_2 : decode cX0_substituteAndShift 2 = .ok (.iload_n 1, 1) := by decide +kernel
theorem dX0_substituteAndShift_3 : decode cX0_substituteAndShift 3 = .ok (.bipush 16, 2) := by decide +kernel
theorem dX0_substituteAndShift_5 : decode cX0_substituteAndShift 5 = .ok (.if_icmp .ge 38, 3) := by decide +kernel
theorem dX0_substituteAndShift_8 : decode cX0_substituteAndShift 8 = .ok (.aload_n 0, 1) := by decide +kernel
theorem dX0_substituteAndShift_9 : decode cX0_substituteAndShift 9 = .ok (.getfield 16, 3) := by decide +kernel
theorem dX0_substituteAndShift_12 : decode cX0_substituteAndShift 12 = .ok (.iload_n 1, 1) := by decide +kernel
theorem dX0_substituteAndShift_13 : decode cX0_substituteAndShift 13 = .ok (.getstatic 19, 3) := by decide +kernel
theorem dX0_substituteAndShift_16 : decode cX0_substituteAndShift 16 = .ok (.aload_n 0, 1) := by decide +kernel
theorem dX0_substituteAndShift_17 : decode cX0_substituteAndShift 17 = .ok (.getfield 64, 3) := by decide +kernel
theorem dX0_substituteAndShift_20 : decode cX0_substituteAndShift 20 = .ok (.iload_n 1, 1) := by decide +kernel
theorem dX0_substituteAndShift_21 : decode cX0_substituteAndShift 21 = .ok (.iconst 4, 1) := by decide +kernel
theorem dX0_substituteAndShift_22 : decode cX0_substituteAndShift 22 = .ok (.iload_n 1, 1) := by decide +kernel
theorem dX0_substituteAndShift_23 : decode cX0_substituteAndShift 23 = .ok (.iconst 3, 1) := by decide +kernel
theorem dX0_substituteAndShift_24 : decode cX0_substituteAndShift 24 = .ok (.iand, 1) := by decide +kernel
theorem dX0_substituteAndShift_25 : decode cX0_substituteAndShift 25 = .ok (.imul, 1) := by decide +kernel
theorem dX0_substituteAndShift_26 : decode cX0_substituteAndShift 26 = .ok (.iadd, 1) := by decide +kernel
theorem dX0_substituteAndShift_27 : decode cX0_substituteAndShift 27 = .ok (.bipush 15, 2) := by decide +kernel
theorem dX0_substituteAndShift_29 : decode cX0_substituteAndShift 29 = .ok (.iand, 1) := by decide +kernel
theorem dX0_substituteAndShift_30 : decode cX0_substituteAndShift 30 = .ok (.iaload, 1) := by decide +kernel
theorem dX0_substituteAndShift_31 : decode cX0_substituteAndShift 31 = .ok (.sipush 255, 3) := by decide +kernel
theorem dX0_substituteAndShift_34 : decode cX0_substituteAndShift 34 = .ok (.iand, 1) := by decide +kernel
theorem dX0_substituteAndShift_35 : decode cX0_substituteAndShift 35 = .ok (.iaload, 1) := by decide +kernel
theorem dX0_substituteAndShift_36 : decode cX0_substituteAndShift 36 = .ok (.iastore, 1) := by decide +kernel
theorem dX0_substituteAndShift_37 : decode cX0_substituteAndShift 37 = .ok (.iinc 1 1, 3) := by decide +kernel
theorem dX0_substituteAndShift_40 : decode cX0_substituteAndShift 40 = .ok (.goto (-38), 3) := by decide +kernel
theorem dX0_substituteAndShift_43 : decode cX0_substituteAndShift 43 = .ok (.aload_n 0, 1) := by decide +kernel
theorem dX0_substituteAndShift_44 : decode cX0_substituteAndShift 44 = .ok (.getfield 16, 3) := by decide +kernel
theorem dX0_substituteAndShift_47 : decode cX0_substituteAndShift 47 = .ok (.iconst 0, 1) := by decide +kernel
theorem dX0_substituteAndShift_48 : decode cX0_substituteAndShift 48 = .ok (.aload_n 0, 1) := by decide +kernel
theorem dX0_substituteAndShift_49 : decode cX0_substituteAndShift 49 = .ok (.getfield 64, 3) := by decide +kernel
theorem dX0_substituteAndShift_52 : decode cX0_substituteAndShift 52 = .ok (.iconst 0, 1) := by decide +kernel
theorem dX0_substituteAndShift_53 : decode cX0_substituteAndShift 53 = .ok (.bipush 16, 2) := by decide +kernel
theorem dX0_substituteAndShift_55 : decode cX0_substituteAndShift 55 = .ok (.invokestatic 67, 3) := by decide +kernel
theorem dX0_substituteAndShift_58 : decode cX0_substituteAndShift 58 = .ok (.return_, 1) := by decide +kernel
theorem dX0_shiftAndRestore_0 : decode cX0_shiftAndRestore 0 = .ok (.iconst 0, 1) := by decide +kernel
theorem dX0_shiftAndRestore_1 : decode cX0_shiftAndRestore 1 = .ok (.istore_n 1, 1) := by decide +kernel
theorem dX0_shiftAndRestore_2 : decode cX0_shiftAndRestore 2 = .ok (.iload_n 1, 1) := by decide +kernel
theorem dX0_shiftAndRestore_3 : decode cX0_shiftAndRestore 3 = .ok (.bipush 16, 2) := by decide +kernel
theorem dX0_shiftAndRestore_5 : decode cX0_shiftAndRestore 5 = .ok (.if_icmp .ge 39, 3) := by decide +kernel
theorem dX0_shiftAndRestore_8 : decode cX0_shiftAndRestore 8 = .ok (.aload_n 0, 1) := by decide +kernel
theorem dX0_shiftAndRestore_9 : decode cX0_shiftAndRestore 9 = .ok (.getfield 16, 3) := by decide +kernel
theorem dX0_shiftAndRestore_12 : decode cX0_shiftAndRestore 12 = .ok (.iload_n 1, 1) := by decide +kernel
theorem dX0_shiftAndRestore_13 : decode cX0_shiftAndRestore 13 = .ok (.aload_n 0, 1) := by decide +kernel
theorem dX0_shiftAndRestore_14 : decode cX0_shiftAndRestore 14 = .ok (.getfield 7, 3) := by decide +kernel
theorem dX0_shiftAndRestore_17 : decode cX0_shiftAndRestore 17 = .ok (.aload_n 0, 1) := by decide +kernel
theorem dX0_shiftAndRestore_18 : decode cX0_shiftAndRestore 18 = .ok (.getfield 64, 3) := by decide +kernel
theorem dX0_shiftAndRestore_21 : decode cX0_shiftAndRestore 21 = .ok (.iload_n 1, 1) := by decide +kernel
theorem dX0_shiftAndRestore_22 : decode cX0_shiftAndRestore 22 = .ok (.iconst 4, 1) := by decide +kernel
theorem dX0_shiftAndRestore_23 : decode cX0_shiftAndRestore 23 = .ok (.iload_n 1, 1) := by decide +kernel
theorem dX0_shiftAndRestore_24 : decode cX0_shiftAndRestore 24 = .ok (.iconst 3, 1) := by decide +kernel
theorem dX0_shiftAndRestore_25 : decode cX0_shiftAndRestore 25 = .ok (.iand, 1) := by decide +kernel
theorem dX0_shiftAndRestore_26 : decode cX0_shiftAndRestore 26 = .ok (.imul, 1) := by decide +kernel
theorem dX0_shiftAndRestore_27 : decode cX0_shiftAndRestore 27 = .ok (.isub, 1) := by decide +kernel
theorem dX0_shiftAndRestore_28 : decode cX0_shiftAndRestore 28 = .ok (.bipush 15, 2) := by decide +kernel
theorem dX0_shiftAndRestore_30 : decode cX0_shiftAndRestore 30 = .ok (.iand, 1) := by decide +kernel
theorem dX0_shiftAndRestore_31 : decode cX0_shiftAndRestore 31 = .ok (.iaload, 1) := by decide +kernel
theorem dX0_shiftAndRestore_32 : decode cX0_shiftAndRestore 32 = .ok (.sipush 255, 3) := by decide +kernel
theorem dX0_shiftAndRestore_35 : decode cX0_shiftAndRestore 35 = .ok (.iand, 1) := by decide +kernel
theorem dX0_shiftAndRestore_36 : decode cX0_shiftAndRestore 36 = .ok (.iaload, 1) := by decide +kernel
theorem dX0_shiftAndRestore_37 : decode cX0_shiftAndRestore 37 = .ok (.iastore, 1) := by decide +kernel
theorem dX0_shiftAndRestore_38 : decode cX0_shiftAndRestore 38 = .ok (.iinc 1 1, 3) := by decide +kernel
theorem dX0_shiftAndRestore_41 : decode cX0_shiftAndRestore 41 = .ok (.goto (-39), 3) := by decide +kernel
theorem dX0_shiftAndRestore_44 : decode cX0_shiftAndRestore 44 = .ok (.aload_n 0, 1) := by decide +kernel
theorem dX0_shiftAndRestore_45 : decode cX0_shiftAndRestore 45 = .ok (.getfield 16, 3) := by decide +kernel
theorem dX0_shiftAndRestore_48 : decode cX0_shiftAndRestore 48 = .ok (.iconst 0, 1) := by decide +kernel
theorem dX0_shiftAndRestore_49 : decode cX0_shiftAndRestore 49 = .ok (.aload_n 0, 1) := by decide +kernel
theorem dX0_shiftAndRestore_50 : decode cX0_shiftAndRestore 50 = .ok (.getfield 64, 3) := by decide +kernel
theorem dX0_shiftAndRestore_53 : decode cX0_shiftAndRestore 53 = .ok (.iconst 0, 1) := by decide +kernel
theorem dX0_shiftAndRestore_54 : decode cX0_shiftAndRestore 54 = .ok (.bipush 16, 2) := by decide +kernel
theorem dX0_shiftAndRestore_56 : decode cX0_shiftAndRestore 56 = .ok (.invokestatic 67, 3) := by decide +kernel
theorem dX0_shiftAndRestore_59 : decode cX0_shiftAndRestore 59 = .ok (.return_, 1) := by decide +kernel
set_option maxRecDepth 20000 in
theorem ggX0_mixColumns_X0_doubled : GoodIn wsX0_mixColumns wsX0_doubled := goodIn_r _ [6] rfl (by decide +kernel)
set_option maxRecDepth 20000 in
theorem gX0_mixColumns_X0_doubled : GoodIn wsX0_mixColumns (va_wsS RX0 45 yX0_doubled wsX0_doubled) := goodIn_app (goodIn_of _ (by decide +kernel)) ggX0_mixColumns_X0_doubled
theorem dX0_mixColumns_0 : decode cX0_mixColumns 0 = .ok (.iconst 0, 1) := by decide +kernel
theorem dX0_mixColumns_1 : decode cX0_mixColumns 1 = .ok (.istore_n 1, 1) := by decide +kernel
theorem dX0_mixColumns_2 : decode cX0_mixColumns 2 = .ok (.iload_n 1, 1) := by decide +kernel
theorem dX0_mixColumns_3 : decode cX0_mixColumns 3 = .ok (.bipush 16, 2) := by decide +kernel
theorem dX0_mixColumns_5 : decode cX0_mixColumns 5 = .ok (.if_icmp .ge 166, 3) := by decide +kernel
theorem dX0_mixColumns_8 : decode cX0_mixColumns 8 = .ok (.aload_n 0, 1) := by decide +kernel
theorem dX0_mixColumns_9 : decode cX0_mixColumns 9 = .ok (.getfield 64, 3) := by decide +kernel
theorem dX0_mixColumns_12 : decode cX0_mixColumns 12 = .ok (.iload_n 1, 1) := by decide +kernel
theorem dX0_mixColumns_13 : decode cX0_mixColumns 13 = .ok (.iaload, 1) := by decide +kernel
theorem dX0_mixColumns_14 : decode cX0_mixColumns 14 = .ok (.istore_n 2, 1) := by decide +kernel
theorem dX0_mixColumns_15 : decode cX0_mixColumns 15 = .ok (.iload_n 2, 1) := by decide +kernel
theorem dX0_mixColumns_16 : decode cX0_mixColumns 16 = .ok (.aload_n 0, 1) := by decide +kernel
theorem dX0_mixColumns_17 : decode cX0_mixColumns 17 = .ok (.getfield 64, 3) := by decide +kernel
theorem dX0_mixColumns_20 : decode cX0_mixColumns 20 = .ok (.iload_n 1, 1) := by decide +kernel
theorem dX0_mixColumns_21 : decode cX0_mixColumns 21 = .ok (.iconst 1, 1) := by decide +kernel
theorem dX0_mixColumns_22 : decode cX0_mixColumns 22 = .ok (.iadd, 1) := by decide +kernel
theorem dX0_mixColumns_23 : decode cX0_mixColumns 23 = .ok (.iaload, 1) := by decide +kernel
theorem dX0_mixColumns_24 : decode cX0_mixColumns 24 = .ok (.ixor, 1) := by decide +kernel
theorem dX0_mixColumns_25 : decode cX0_mixColumns 25 = .ok (.aload_n 0, 1) := by decide +kernel
theorem dX0_mixColumns_26 : decode cX0_mixColumns 26 = .ok (.getfield 64, 3) := by decide +kernel
theorem dX0_mixColumns_29 : decode cX0_mixColumns 29 = .ok (.iload_n 1, 1) := by decide +kernel
theorem dX0_mixColumns_30 : decode cX0_mixColumns 30 = .ok (.iconst 2, 1) := by decide +kernel
theorem dX0_mixColumns_31 : decode cX0_mixColumns 31 = .ok (.iadd, 1) := by decide +kernel
theorem dX0_mixColumns_32 : decode cX0_mixColumns 32 = .ok (.iaload, 1) := by decide +kernel
theorem dX0_mixColumns_33 : decode cX0_mixColumns 33 = .ok (.ixor, 1) := by decide +kernel
theorem dX0_mixColumns_34 : decode cX0_mixColumns 34 = .ok (.aload_n 0, 1) := by decide +kernel
theorem dX0_mixColumns_35 : decode cX0_mixColumns 35 = .ok (.getfield 64, 3) := by decide +kernel
theorem dX0_mixColumns_38 : decode cX0_mixColumns 38 = .ok (.iload_n 1, 1) := by decide +kernel
theorem dX0_mixColumns_39 : decode cX0_mixColumns 39 = .ok (.iconst 3, 1) := by decide +kernel
theorem dX0_mixColumns_40 : decode cX0_mixColumns 40 = .ok (.iadd, 1) := by decide +kernel
theorem dX0_mixColumns_41 : decode cX0_mixColumns 41 = .ok (.iaload, 1) := by decide +kernel
theorem dX0_mixColumns_42 : decode cX0_mixColumns 42 = .ok (.ixor, 1) := by decide +kernel
theorem dX0_mixColumns_43 : decode cX0_mixColumns 43 = .ok (.istore_n 3, 1) := by decide +kernel
theorem dX0_mixColumns_44 : decode cX0_mixColumns 44 = .ok (.aload_n 0, 1) := by decide +kernel
theorem dX0_mixColumns_45 : decode cX0_mixColumns 45 = .ok (.getfield 64, 3) := by decide +kernel
theorem dX0_mixColumns_48 : decode cX0_mixColumns 48 = .ok (.iload_n 1, 1) := by decide +kernel
theorem dX0_mixColumns_49 : decode cX0_mixColumns 49 = .ok (.dup2, 1) := by decide +kernel
theorem dX0_mixColumns_50 : decode cX0_mixColumns 50 = .ok (.iaload, 1) := by decide +kernel
theorem dX0_mixColumns_51 : decode cX0_mixColumns 51 = .ok (.iload_n 3, 1) := by decide +kernel
theorem dX0_mixColumns_52 : decode cX0_mixColumns 52 = .ok (.aload_n 0, 1) := by decide +kernel
theorem dX0_mixColumns_53 : decode cX0_mixColumns 53 = .ok (.getfield 64, 3) := by decide +kernel
theorem dX0_mixColumns_56 : decode cX0_mixColumns 56 = .ok (.iload_n 1, 1) := by decide +kernel
theorem dX0_mixColumns_57 : decode cX0_mixColumns 57 = .ok (.iaload, 1) := by decide +kernel
theorem dX0_mixColumns_58 : decode cX0_mixColumns 58 = .ok (.aload_n 0, 1) := by decide +kernel
theorem dX0_mixColumns_59 : decode cX0_mixColumns 59 = .ok (.getfield 64, 3) := by decide +kernel
theorem dX0_mixColumns_62 : decode cX0_mixColumns 62 = .ok (.iload_n 1, 1) := by decide +kernel
theorem dX0_mixColumns_63 : decode cX0_mixColumns 63 = .ok (.iconst 1, 1) := by decide +kernel
theorem dX0_mixColumns_64 : decode cX0_mixColumns 64 = .ok (.iadd, 1) := by decide +kernel
theorem dX0_mixColumns_65 : decode cX0_mixColumns 65 = .ok (.iaload, 1) := by decide +kernel
theorem dX0_mixColumns_66 : decode cX0_mixColumns 66 = .ok (.ixor, 1) := by decide +kernel
theorem dX0_mixColumns_67 : decode cX0_mixColumns 67 = .ok (.invokestatic 45, 3) := by decide +kernel
theorem dX0_mixColumns_70 : decode cX0_mixColumns 70 = .ok (.ixor, 1) := by decide +kernel
theorem dX0_mixColumns_71 : decode cX0_mixColumns 71 = .ok (.ixor, 1) := by decide +kernel
theorem dX0_mixColumns_72 : decode cX0_mixColumns 72 = .ok (.iastore, 1) := by decide +kernel
theorem dX0_mixColumns_73 : decode cX0_mixColumns 73 = .ok (.aload_n 0, 1) := by decide +kernel
theorem dX0_mixColumns_74 : decode cX0_mixColumns 74 = .ok (.getfield 64, 3) := by decide +kernel
theorem dX0_mixColumns_77 : decode cX0_mixColumns 77 = .ok (.iload_n 1, 1) := by decide +kernel
theorem dX0_mixColumns_78 : decode cX0_mixColumns 78 = .ok (.iconst 1, 1) := by decide +kernel
theorem dX0_mixColumns_79 : decode cX0_mixColumns 79 = .ok (.iadd, 1) := by decide +kernel
theorem dX0_mixColumns_80 : decode cX0_mixColumns 80 = .ok (.dup2, 1) := by decide +kernel
theorem dX0_mixColumns_81 : decode cX0_mixColumns 81 = .ok (.iaload, 1) := by decide +kernel
theorem dX0_mixColumns_82 : decode cX0_mixColumns 82 = .ok (.iload_n 3, 1) := by decide +kernel
theorem dX0_mixColumns_83 : decode cX0_mixColumns 83 = .ok (.aload_n 0, 1) := by decide +kernel
theorem dX0_mixColumns_84 : decode cX0_mixColumns 84 = .ok (.getfield 64, 3) := by decide +kernel
theorem dX0_mixColumns_87 : decode cX0_mixColumns 87 = .ok (.iload_n 1, 1) := by decide +kernel
theorem dX0_mixColumns_88 : decode cX0_mixColumns 88 = .ok (.iconst 1, 1) := by decide +kernel
theorem dX0_mixColumns_89 : decode cX0_mixColumns 89 = .ok (.iadd, 1) := by decide +kernel
theorem dX0_mixColumns_90 : decode cX0_mixColumns 90 = .ok (.iaload, 1) := by decide +kernel
theorem dX0_mixColumns_91 : decode cX0_mixColumns 91 = .ok (.aload_n 0, 1) := by decide +kernel
theorem dX0_mixColumns_92 : decode cX0_mixColumns 92 = .ok (.getfield 64, 3) := by decide +kernel
theorem dX0_mixColumns_95 : decode cX0_mixColumns 95 = .ok (.iload_n 1, 1) := by decide +kernel
theorem dX0_mixColumns_96 : decode cX0_mixColumns 96 = .ok (.iconst 2, 1) := by decide +kernel
theorem dX0_mixColumns_97 : decode cX0_mixColumns 97 = .ok (.iadd, 1) := by decide +kernel
theorem dX0_mixColumns_98 : decode cX0_mixColumns 98 = .ok (.iaload, 1) := by decide +kernel
theorem dX0_mixColumns_99 : decode cX0_mixColumns 99 = .ok (.ixor, 1) := by decide +kernel
theorem dX0_mixColumns_100 : decode cX0_mixColumns 100 = .ok (.invokestatic 45, 3) := by decide +kernel
theorem dX0_mixColumns_103 : decode cX0_mixColumns 103 = .ok (.ixor, 1) := by decide +kernel
theorem dX0_mixColumns_104 : decode cX0_mixColumns 104 = .ok (.ixor, 1) := by decide +kernel
theorem dX0_mixColumns_105 : decode cX0_mixColumns 105 = .ok (.iastore, 1) := by decide +kernel
theorem dX0_mixColumns_106 : decode cX0_mixColumns 106 = .ok (.aload_n 0, 1) := by decide +kernel
theorem dX0_mixColumns_107 : decode cX0_mixColumns 107 = .ok (.getfield 64, 3) := by decide +kernel
theorem dX0_mixColumns_110 : decode cX0_mixColumns 110 = .ok (.iload_n 1, 1) := by decide +kernel
theorem dX0_mixColumns_111 : decode cX0_mixColumns 111 = .ok (.iconst 2, 1) := by decide +kernel
theorem dX0_mixColumns_112 : decode cX0_mixColumns 112 = .ok (.iadd, 1) := by decide +kernel
theorem dX0_mixColumns_113 : decode cX0_mixColumns 113 = .ok (.dup2, 1) := by decide +kernel
theorem dX0_mixColumns_114 : decode cX0_mixColumns 114 = .ok (.iaload, 1) := by decide +kernel
theorem dX0_mixColumns_115 : decode cX0_mixColumns 115 = .ok (.iload_n 3, 1) := by decide +kernel
theorem dX0_mixColumns_116 : decode cX0_mixColumns 116 = .ok (.aload_n 0, 1) := by decide +kernel
theorem dX0_mixColumns_117 : decode cX0_mixColumns 117 = .ok (.getfield 64, 3) := by decide +kernel
theorem dX0_mixColumns_120 : decode cX0_mixColumns 120 = .ok (.iload_n 1, 1) := by decide +kernel
theorem dX0_mixColumns_121 : decode cX0_mixColumns 121 = .ok (.iconst 2, 1) := by decide +kernel
theorem dX0_mixColumns_122 : decode cX0_mixColumns 122 = .ok (.iadd, 1) := by decide +kernel
theorem dX0_mixColumns_123 : decode cX0_mixColumns 123 = .ok (.iaload, 1) := by decide +kernel
theorem dX0_mixColumns_124 : decode cX0_mixColumns 124 = .ok (.aload_n 0, 1) := by decide +kernel
theorem dX0_mixColumns_125 : decode cX0_mixColumns 125 = .ok (.getfield 64, 3) := by decide +kernel
theorem dX0_mixColumns_128 : decode cX0_mixColumns 128 = .ok (.iload_n 1, 1) := by decide +kernel
theorem dX0_mixColumns_129 : decode cX0_mixColumns 129 = .ok (.iconst 3, 1) := by decide +kernel
theorem dX0_mixColumns_130 : decode cX0_mixColumns 130 = .ok (.iadd, 1) := by decide +kernel
theorem dX0_mixColumns_131 : decode cX0_mixColumns 131 = .ok (.iaload, 1) := by decide +kernel
theorem dX0_mixColumns_132 : decode cX0_mixColumns 132 = .ok (.ixor, 1) := by decide +kernel
theorem dX0_mixColumns_133 : decode cX0_mixColumns 133 = .ok (.invokestatic 45, 3) := by decide +kernel
theorem dX0_mixColumns_136 : decode cX0_mixColumns 136 = .ok (.ixor, 1) := by decide +kernel
theorem dX0_mixColumns_137 : decode cX0_mixColumns 137 = .ok (.ixor, 1) := by decide +kernel
theorem dX0_mixColumns_138 : decode cX0_mixColumns 138 = .ok (.iastore, 1) := by decide +kernel
theorem dX0_mixColumns_139 : decode cX0_mixColumns 139 = .ok (.aload_n 0, 1) := by decide +kernel
theorem dX0_mixColumns_140 : decode cX0_mixColumns 140 = .ok (.getfield 64, 3) := by decide +kernel
theorem dX0_mixColumns_143 : decode cX0_mixColumns 143 = .ok (.iload_n 1, 1) := by decide +kernel
theorem dX0_mixColumns_144 : decode cX0_mixColumns 144 = .ok (.iconst 3, 1) := by decide +kernel
theorem dX0_mixColumns_145 : decode cX0_mixColumns 145 = .ok (.iadd, 1) := by decide +kernel
theorem dX0_mixColumns_146 : decode cX0_mixColumns 146 = .ok (.dup2, 1) := by decide +kernel
theorem dX0_mixColumns_147 : decode cX0_mixColumns 147 = .ok (.iaload, 1) := by decide +kernel
theorem dX0_mixColumns_148 : decode cX0_mixColumns 148 = .ok (.iload_n 3, 1) := by decide +kernel
theorem dX0_mixColumns_149 : decode cX0_mixColumns 149 = .ok (.aload_n 0, 1) := by decide +kernel
theorem dX0_mixColumns_150 : decode cX0_mixColumns 150 = .ok (.getfield 64, 3) := by decide +kernel
theorem dX0_mixColumns_153 : decode cX0_mixColumns 153 = .ok (.iload_n 1, 1) := by decide +kernel
theorem dX0_mixColumns_154 : decode cX0_mixColumns 154 = .ok (.iconst 3, 1) := by decide +kernel
theorem dX0_mixColumns_155 : decode cX0_mixColumns 155 = .ok (.iadd, 1) := by decide +kernel
theorem dX0_mixColumns_156 : decode cX0_mixColumns 156 = .ok (.iaload, 1) := by decide +kernel
theorem dX0_mixColumns_157 : decode cX0_mixColumns 157 = .ok (.iload_n 2, 1) := by decide +kernel
theorem dX0_mixColumns_158 : decode cX0_mixColumns 158 = .ok (.ixor, 1) := by decide +kernel
theorem dX0_mixColumns_159 : decode cX0_mixColumns 159 = .ok (.invokestatic 45, 3) := by decide +kernel
theorem dX0_mixColumns_162 : decode cX0_mixColumns 162 = .ok (.ixor, 1) := by decide +kernel
theorem dX0_mixColumns_163 : decode cX0_mixColumns 163 = .ok (.ixor, 1) := by decide +kernel
theorem dX0_mixColumns_164 : decode cX0_mixColumns 164 = .ok (.iastore, 1) := by decide +kernel
theorem dX0_mixColumns_165 : decode cX0_mixColumns 165 = .ok (.iinc 1 4, 3) := by decide +kernel
theorem dX0_mixColumns_168 : decode cX0_mixColumns 168 = .ok (.goto (-166), 3) := by decide +kernel
theorem dX0_mixColumns_171 : decode cX0_mixColumns 171 = .ok (.return_, 1) := by decide +kernel
set_option maxRecDepth 20000 in
theorem ggX0_unmixColumns_X0_doubled : GoodIn wsX0_unmixColumns wsX0_doubled := goodIn_r _ [6] rfl (by decide +kernel)
set_option maxRecDepth 20000 in
theorem gX0_unmixColumns_X0_doubled : GoodIn wsX0_unmixColumns (va_wsS RX0 45 yX0_doubled wsX0_doubled) := goodIn_app (goodIn_of _ (by decide +kernel)) ggX0_unmixColumns_X0_doubled
set_option maxRecDepth 20000 in
theorem ggX0_unmixColumns_X0_mixColumns : GoodIn wsX0_unmixColumns wsX0_mixColumns := goodIn_r _ [10, 1, 2, 3, 4, 5, 6, 11, 12, 13, 14, 15, 16, 17, 18, 19, 20] rfl (by decide +kernel)
set_option maxRecDepth 20000 in
theorem gX0_unmixColumns_X0_mixColumns : GoodIn wsX0_unmixColumns (wsV RX0 55 RX0 yX0_mixColumns wsX0_mixColumns) := goodIn_app (goodIn_of _ (by decide +kernel)) ggX0_unmixColumns_X0_mixColumns
theorem dX0_unmixColumns_0 : decode cX0_unmixColumns 0 = .ok (.iconst 0, 1) := by decide +kernel
theorem dX0_unmixColumns_1 : decode cX0_unmixColumns 1 = .ok (.istore_n 1, 1) := by decide +kernel
theorem dX0_unmixColumns_2 : decode cX0_unmixColumns 2 = .ok (.iload_n 1, 1) := by decide +kernel
theorem dX0_unmixColumns_3 : decode cX0_unmixColumns 3 = .ok (.bipush 16, 2) := by decide +kernel
theorem dX0_unmixColumns_5 : decode cX0_unmixColumns 5 = .ok (.if_icmp .ge 101, 3) := by decide +kernel
theorem dX0_unmixColumns_8 : decode cX0_unmixColumns 8 = .ok (.aload_n 0, 1) := by decide +kernel
theorem dX0_unmixColumns_9 : decode cX0_unmixColumns 9 = .ok (.getfield 64, 3) := by decide +kernel
theorem dX0_unmixColumns_12 : decode cX0_unmixColumns 12 = .ok (.iload_n 1, 1) := by decide +kernel
theorem dX0_unmixColumns_13 : decode cX0_unmixColumns 13 = .ok (.iaload, 1) := by decide +kernel
theorem dX0_unmixColumns_14 : decode cX0_unmixColumns 14 = .ok (.aload_n 0, 1) := by decide +kernel
theorem dX0_unmixColumns_15 : decode cX0_unmixColumns 15 = .ok (.getfield 64, 3) := by decide +kernel
theorem dX0_unmixColumns_18 : decode cX0_unmixColumns 18 = .ok (.iload_n 1, 1) := by decide +kernel
theorem dX0_unmixColumns_19 : decode cX0_unmixColumns 19 = .ok (.iconst 2, 1) := by decide +kernel
theorem dX0_unmixColumns_20 : decode cX0_unmixColumns 20 = .ok (.iadd, 1) := by decide +kernel
theorem dX0_unmixColumns_21 : decode cX0_unmixColumns 21 = .ok (.iaload, 1) := by decide +kernel
theorem dX0_unmixColumns_22 : decode cX0_unmixColumns 22 = .ok (.ixor, 1) := by decide +kernel
theorem dX0_unmixColumns_23 : decode cX0_unmixColumns 23 = .ok (.invokestatic 45, 3) := by decide +kernel
theorem dX0_unmixColumns_26 : decode cX0_unmixColumns 26 = .ok (.invokestatic 45, 3) := by decide +kernel
theorem dX0_unmixColumns_29 : decode cX0_unmixColumns 29 = .ok (.istore_n 2, 1) := by decide +kernel
theorem dX0_unmixColumns_30 : decode cX0_unmixColumns 30 = .ok (.aload_n 0, 1) := by decide +kernel
theorem dX0_unmixColumns_31 : decode cX0_unmixColumns 31 = .ok (.getfield 64, 3) := by decide +kernel
theorem dX0_unmixColumns_34 : decode cX0_unmixColumns 34 = .ok (.iload_n 1, 1) := by decide +kernel
theorem dX0_unmixColumns_35 : decode cX0_unmixColumns 35 = .ok (.iconst 1, 1) := by decide +kernel
theorem dX0_unmixColumns_36 : decode cX0_unmixColumns 36 = .ok (.iadd, 1) := by decide +kernel
theorem dX0_unmixColumns_37 : decode cX0_unmixColumns 37 = .ok (.iaload, 1) := by decide +kernel
theorem dX0_unmixColumns_38 : decode cX0_unmixColumns 38 = .ok (.aload_n 0, 1) := by decide +kernel
theorem dX0_unmixColumns_39 : decode cX0_unmixColumns 39 = .ok (.getfield 64, 3) := by decide +kernel
theorem dX0_unmixColumns_42 : decode cX0_unmixColumns 42 = .ok (.iload_n 1, 1) := by decide +kernel
theorem dX0_unmixColumns_43 : decode cX0_unmixColumns 43 = .ok (.iconst 3, 1) := by decide +kernel
theorem dX0_unmixColumns_44 : decode cX0_unmixColumns 44 = .ok (.iadd, 1) := by decide +kernel
theorem dX0_unmixColumns_45 : decode cX0_unmixColumns 45 = .ok (.iaload, 1) := by decide +kernel
theorem dX0_unmixColumns_46 : decode cX0_unmixColumns 46 = .ok (.ixor, 1) := by decide +kernel
theorem dX0_unmixColumns_47 : decode cX0_unmixColumns 47 = .ok (.invokestatic 45, 3) := by decide +kernel
theorem dX0_unmixColumns_50 : decode cX0_unmixColumns 50 = .ok (.invokestatic 45, 3) := by decide +kernel
theorem dX0_unmixColumns_53 : decode cX0_unmixColumns 53 = .ok (.istore_n 3, 1) := by decide +kernel
theorem dX0_unmixColumns_54 : decode cX0_unmixColumns 54 = .ok (.aload_n 0, 1) := by decide +kernel
theorem dX0_unmixColumns_55 : decode cX0_unmixColumns 55 = .ok (.getfield 64, 3) := by decide +kernel
theorem dX0_unmixColumns_58 : decode cX0_unmixColumns 58 = .ok (.iload_n 1, 1) := by decide +kernel
theorem dX0_unmixColumns_59 : decode cX0_unmixColumns 59 = .ok (.dup2, 1) := by decide +kernel
theorem dX0_unmixColumns_60 : decode cX0_unmixColumns 60 = .ok (.iaload, 1) := by decide +kernel
theorem dX0_unmixColumns_61 : decode cX0_unmixColumns 61 = .ok (.iload_n 2, 1) := by decide +kernel
theorem dX0_unmixColumns_62 : decode cX0_unmixColumns 62 = .ok (.ixor, 1) := by decide +kernel
theorem dX0_unmixColumns_63 : decode cX0_unmixColumns 63 = .ok (.iastore, 1) := by decide +kernel
theorem dX0_unmixColumns_64 : decode cX0_unmixColumns 64 = .ok (.aload_n 0, 1) := by decide +kernel
theorem dX0_unmixColumns_65 : decode cX0_unmixColumns 65 = .ok (.getfield 64, 3) := by decide +kernel
theorem dX0_unmixColumns_68 : decode cX0_unmixColumns 68 = .ok (.iload_n 1, 1) := by decide +kernel
theorem dX0_unmixColumns_69 : decode cX0_unmixColumns 69 = .ok (.iconst 1, 1) := by decide +kernel
theorem dX0_unmixColumns_70 : decode cX0_unmixColumns 70 = .ok (.iadd, 1) := by decide +kernel
theorem dX0_unmixColumns_71 : decode cX0_unmixColumns 71 = .ok (.dup2, 1) := by decide +kernel
theorem dX0_unmixColumns_72 : decode cX0_unmixColumns 72 = .ok (.iaload, 1) := by decide +kernel
theorem dX0_unmixColumns_73 : decode cX0_unmixColumns 73 = .ok (.iload_n 3, 1) := by decide +kernel
theorem dX0_unmixColumns_74 : decode cX0_unmixColumns 74 = .ok (.ixor, 1) := by decide +kernel
theorem dX0_unmixColumns_75 : decode cX0_unmixColumns 75 = .ok (.iastore, 1) := by decide +kernel
theorem dX0_unmixColumns_76 : decode cX0_unmixColumns 76 = .ok (.aload_n 0, 1) := by decide +kernel
theorem dX0_unmixColumns_77 : decode cX0_unmixColumns 77 = .ok (.getfield 64, 3) := by decide +kernel
theorem dX0_unmixColumns_80 : decode cX0_unmixColumns 80 = .ok (.iload_n 1, 1) := by decide +kernel
theorem dX0_unmixColumns_81 : decode cX0_unmixColumns 81 = .ok (.iconst 2, 1) := by decide +kernel
theorem dX0_unmixColumns_82 : decode cX0_unmixColumns 82 = .ok (.iadd, 1) := by decide +kernel
theorem dX0_unmixColumns_83 : decode cX0_unmixColumns 83 = .ok (.dup2, 1) := by decide +kernel
theorem dX0_unmixColumns_84 : decode cX0_unmixColumns 84 = .ok (.iaload, 1) := by decide +kernel
theorem dX0_unmixColumns_85 : decode cX0_unmixColumns 85 = .ok (.iload_n 2, 1) := by decide +kernel
theorem dX0_unmixColumns_86 : decode cX0_unmixColumns 86 = .ok (.ixor, 1) := by decide +kernel
theorem dX0_unmixColumns_87 : decode cX0_unmixColumns 87 = .ok (.iastore, 1) := by decide +kernel
theorem dX0_unmixColumns_88 : decode cX0_unmixColumns 88 = .ok (.aload_n 0, 1) := by decide +kernel
theorem dX0_unmixColumns_89 : decode cX0_unmixColumns 89 = .ok (.getfield 64, 3) := by decide +kernel
theorem dX0_unmixColumns_92 : decode cX0_unmixColumns 92 = .ok (.iload_n 1, 1) := by decide +kernel
theorem dX0_unmixColumns_93 : decode cX0_unmixColumns 93 = .ok (.iconst 3, 1) := by decide +kernel
theorem dX0_unmixColumns_94 : decode cX0_unmixColumns 94 = .ok (.iadd, 1) := by decide +kernel
theorem dX0_unmixColumns_95 : decode cX0_unmixColumns 95 = .ok (.dup2, 1) := by decide +kernel
theorem dX0_unmixColumns_96 : decode cX0_unmixColumns 96 = .ok (.iaload, 1) := by decide +kernel
theorem dX0_unmixColumns_97 : decode cX0_unmixColumns 97 = .ok (.iload_n 3, 1) := by decide +kernel
theorem dX0_unmixColumns_98 : decode cX0_unmixColumns 98 = .ok (.ixor, 1) := by decide +kernel
theorem dX0_unmixColumns_99 : decode cX0_unmixColumns 99 = .ok (.iastore, 1) := by decide +kernel
theorem dX0_unmixColumns_100 : decode cX0_unmixColumns 100 = .ok (.iinc 1 4, 3) := by decide +kernel
theorem dX0_unmixColumns_103 : decode cX0_unmixColumns 103 = .ok (.goto (-101), 3) := by decide +kernel
theorem dX0_unmixColumns_106 : decode cX0_unmixColumns 106 = .ok (.aload_n 0, 1) := by decide +kernel
theorem dX0_unmixColumns_107 : decode cX0_unmixColumns 107 = .ok (.invokevirtual 55, 3) := by decide +kernel
theorem dX0_unmixColumns_110 : decode cX0_unmixColumns 110 = .ok (.return_, 1) := by decide +kernel
