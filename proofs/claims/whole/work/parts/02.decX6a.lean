theorem dX6_init_0 : decode cX6_init 0 = .ok (.aload_n 0, 1) := by decide +kernel
theorem dX6_init_1 : decode cX6_init 1 = .ok (.invokespecial 1, 3) := by decide +kernel
theorem dX6_init_4 : decode cX6_init 4 = .ok (.aload_n 0, 1) := by decide +kernel
theorem dX6_init_5 : decode cX6_init 5 = .ok (.bipush 8, 2) := by decide +kernel
theorem dX6_init_7 : decode cX6_init 7 = .ok (.newarray .int, 2) := by decide +kernel
theorem dX6_init_9 : decode cX6_init 9 = .ok (.putfield 7, 3) := by decide +kernel
theorem dX6_init_12 : decode cX6_init 12 = .ok (.aload_n 0, 1) := by decide +kernel
theorem dX6_init_13 : decode cX6_init 13 = .ok (.bipush 64, 2) := by decide +kernel
theorem dX6_init_15 : decode cX6_init 15 = .ok (.newarray .int, 2) := by decide +kernel
theorem dX6_init_17 : decode cX6_init 17 = .ok (.putfield 13, 3) := by decide +kernel
theorem dX6_init_20 : decode cX6_init 20 = .ok (.return_, 1) := by decide +kernel
set_option maxRecDepth 20000 in
theorem ggX6_digest_X5_size : GoodIn wsX6_digest wsX5_size := goodIn_r _ [12, 13, 57, 58] rfl (by decide +kernel)
set_option maxRecDepth 20000 in
theorem gX6_digest_X5_size : GoodIn wsX6_digest (wsV RX6 18 RX5 yX5_size wsX5_size) := goodIn_app (goodIn_of _ (by decide +kernel)) ggX6_digest_X5_size
set_option maxRecDepth 20000 in
theorem ggX6_digest_X5_add : GoodIn wsX6_digest wsX5_add := goodIn_r _ [17, 13, 18, 57, 58] rfl (by decide +kernel)
set_option maxRecDepth 20000 in
theorem gX6_digest_X5_add : GoodIn wsX6_digest (wsV RX6 24 RX5 yX5_add wsX5_add) := goodIn_app (goodIn_of _ (by decide +kernel)) ggX6_digest_X5_add
set_option maxRecDepth 20000 in
theorem ggX6_digest_X5_addZeros : GoodIn wsX6_digest wsX5_addZeros := goodIn_r _ [22, 23, 15, 16, 11, 17, 13, 18, 57, 58] rfl (by decide +kernel)
set_option maxRecDepth 20000 in
theorem gX6_digest_X5_addZeros : GoodIn wsX6_digest (wsV RX6 28 RX5 yX5_addZeros wsX5_addZeros) := goodIn_app (goodIn_of _ (by decide +kernel)) ggX6_digest_X5_addZeros
set_option maxRecDepth 20000 in
theorem ggX6_digest_X5_addLong : GoodIn wsX6_digest wsX5_addLong := goodIn_r _ [27, 28, 29, 30, 11, 31, 23, 15, 16, 17, 13, 18, 57, 58] rfl (by decide +kernel)
set_option maxRecDepth 20000 in
theorem gX6_digest_X5_addLong : GoodIn wsX6_digest (wsV RX6 31 RX5 yX5_addLong wsX5_addLong) := goodIn_app (goodIn_of _ (by decide +kernel)) ggX6_digest_X5_addLong
set_option maxRecDepth 20000 in
theorem ggX6_digest_X6_expand : GoodIn wsX6_digest wsX6_expand := goodIn_r _ [36, 37, 38, 39, 40, 11, 41, 42, 43, 44, 45, 13, 18, 46, 47, 48, 55, 56, 57, 58] rfl (by decide +kernel)
set_option maxRecDepth 20000 in
theorem gX6_digest_X6_expand : GoodIn wsX6_digest (wsV RX6 44 RX6 yX6_expand wsX6_expand) := goodIn_app (goodIn_of _ (by decide +kernel)) ggX6_digest_X6_expand
set_option maxRecDepth 20000 in
theorem ggX6_digest_X6_compress : GoodIn wsX6_digest wsX6_compress := goodIn_r _ [52, 3, 53, 37, 46, 47, 48, 55, 56] rfl (by decide +kernel)
set_option maxRecDepth 20000 in
theorem gX6_digest_X6_compress : GoodIn wsX6_digest (wsV RX6 48 RX6 yX6_compress wsX6_compress) := goodIn_app (goodIn_of _ (by decide +kernel)) ggX6_digest_X6_compress
set_option maxRecDepth 20000 in
theorem ggX6_digest_X5_addWord : GoodIn wsX6_digest wsX5_addWord := goodIn_r _ [31, 23, 15, 16, 11, 17, 13, 18, 57, 58] rfl (by decide +kernel)
set_option maxRecDepth 20000 in
theorem gX6_digest_X5_addWord : GoodIn wsX6_digest (wsV RX6 51 RX5 yX5_addWord wsX5_addWord) := goodIn_app (goodIn_of _ (by decide +kernel)) ggX6_digest_X5_addWord
theorem dX6_digest_0 : decode cX6_digest 0 = .ok (.ldc2_w 16, 3) := by decide +kernel
theorem dX6_digest_3 : decode cX6_digest 3 = .ok (.aload_n 1, 1) := by decide +kernel
theorem dX6_digest_4 : decode cX6_digest 4 = .ok (.invokevirtual 18, 3) := by decide +kernel
theorem dX6_digest_7 : decode cX6_digest 7 = .ok (.i2l, 1) := by decide +kernel
theorem dX6_digest_8 : decode cX6_digest 8 = .ok (.lmul, 1) := by decide +kernel
theorem dX6_digest_9 : decode cX6_digest 9 = .ok (.lstore_n 3, 1) := by decide +kernel
theorem dX6_digest_10 : decode cX6_digest 10 = .ok (.aload_n 1, 1) := by decide +kernel
theorem dX6_digest_11 : decode cX6_digest 11 = .ok (.sipush 128, 3) := by decide +kernel
theorem dX6_digest_14 : decode cX6_digest 14 = .ok (.invokevirtual 24, 3) := by decide +kernel
theorem dX6_digest_17 : decode cX6_digest 17 = .ok (.aload_n 1, 1) := by decide +kernel
theorem dX6_digest_18 : decode cX6_digest 18 = .ok (.bipush 56, 2) := by decide +kernel
theorem dX6_digest_20 : decode cX6_digest 20 = .ok (.aload_n 1, 1) := by decide +kernel
theorem dX6_digest_21 : decode cX6_digest 21 = .ok (.invokevirtual 18, 3) := by decide +kernel
theorem dX6_digest_24 : decode cX6_digest 24 = .ok (.isub, 1) := by decide +kernel
theorem dX6_digest_25 : decode cX6_digest 25 = .ok (.bipush 63, 2) := by decide +kernel
theorem dX6_digest_27 : decode cX6_digest 27 = .ok (.iand, 1) := by decide +kernel
theorem dX6_digest_28 : decode cX6_digest 28 = .ok (.invokevirtual 28, 3) := by decide +kernel
theorem dX6_digest_31 : decode cX6_digest 31 = .ok (.aload_n 1, 1) := by decide +kernel
theorem dX6_digest_32 : decode cX6_digest 32 = .ok (.lload_n 3, 1) := by decide +kernel
theorem dX6_digest_33 : decode cX6_digest 33 = .ok (.invokevirtual 31, 3) := by decide +kernel
theorem dX6_digest_36 : decode cX6_digest 36 = .ok (.getstatic 35, 3) := by decide +kernel
theorem dX6_digest_39 : decode cX6_digest 39 = .ok (.iconst 0, 1) := by decide +kernel
theorem dX6_digest_40 : decode cX6_digest 40 = .ok (.aload_n 0, 1) := by decide +kernel
theorem dX6_digest_41 : decode cX6_digest 41 = .ok (.getfield 7, 3) := by decide +kernel
theorem dX6_digest_44 : decode cX6_digest 44 = .ok (.iconst 0, 1) := by decide +kernel
theorem dX6_digest_45 : decode cX6_digest 45 = .ok (.bipush 8, 2) := by decide +kernel
theorem dX6_digest_47 : decode cX6_digest 47 = .ok (.invokestatic 38, 3) := by decide +kernel
theorem dX6_digest_50 : decode cX6_digest 50 = .ok (.aload_n 1, 1) := by decide +kernel
theorem dX6_digest_51 : decode cX6_digest 51 = .ok (.invokevirtual 18, 3) := by decide +kernel
theorem dX6_digest_54 : decode cX6_digest 54 = .ok (.bipush 6, 2) := by decide +kernel
theorem dX6_digest_56 : decode cX6_digest 56 = .ok (.ishr, 1) := by decide +kernel
theorem dX6_digest_57 : decode cX6_digest 57 = .ok (.istore 5, 2) := by decide +kernel
theorem dX6_digest_59 : decode cX6_digest 59 = .ok (.iconst 0, 1) := by decide +kernel
theorem dX6_digest_60 : decode cX6_digest 60 = .ok (.istore 6, 2) := by decide +kernel
theorem dX6_digest_62 : decode cX6_digest 62 = .ok (.iload 6, 2) := by decide +kernel
theorem dX6_digest_64 : decode cX6_digest 64 = .ok (.iload 5, 2) := by decide +kernel
theorem dX6_digest_66 : decode cX6_digest 66 = .ok (.if_icmp .ge 23, 3) := by decide +kernel
theorem dX6_digest_69 : decode cX6_digest 69 = .ok (.aload_n 0, 1) := by decide +kernel
theorem dX6_digest_70 : decode cX6_digest 70 = .ok (.aload_n 1, 1) := by decide +kernel
theorem dX6_digest_71 : decode cX6_digest 71 = .ok (.iload 6, 2) := by decide +kernel
theorem dX6_digest_73 : decode cX6_digest 73 = .ok (.bipush 6, 2) := by decide +kernel
theorem dX6_digest_75 : decode cX6_digest 75 = .ok (.ishl, 1) := by decide +kernel
theorem dX6_digest_76 : decode cX6_digest 76 = .ok (.invokevirtual 44, 3) := by decide +kernel
theorem dX6_digest_79 : decode cX6_digest 79 = .ok (.aload_n 0, 1) := by decide +kernel
theorem dX6_digest_80 : decode cX6_digest 80 = .ok (.invokevirtual 48, 3) := by decide +kernel
theorem dX6_digest_83 : decode cX6_digest 83 = .ok (.iinc 6 1, 3) := by decide +kernel
theorem dX6_digest_86 : decode cX6_digest 86 = .ok (.goto (-24), 3) := by decide +kernel
theorem dX6_digest_89 : decode cX6_digest 89 = .ok (.iconst 0, 1) := by decide +kernel
theorem dX6_digest_90 : decode cX6_digest 90 = .ok (.istore 6, 2) := by decide +kernel
theorem dX6_digest_92 : decode cX6_digest 92 = .ok (.iload 6, 2) := by decide +kernel
theorem dX6_digest_94 : decode cX6_digest 94 = .ok (.bipush 8, 2) := by decide +kernel
theorem dX6_digest_96 : decode cX6_digest 96 = .ok (.if_icmp .ge 20, 3) := by decide +kernel
theorem dX6_digest_99 : decode cX6_digest 99 = .ok (.aload_n 2, 1) := by decide +kernel
theorem dX6_digest_100 : decode cX6_digest 100 = .ok (.aload_n 0, 1) := by decide +kernel
theorem dX6_digest_101 : decode cX6_digest 101 = .ok (.getfield 7, 3) := by decide +kernel
theorem dX6_digest_104 : decode cX6_digest 104 = .ok (.iload 6, 2) := by decide +kernel
theorem dX6_digest_106 : decode cX6_digest 106 = .ok (.iaload, 1) := by decide +kernel
theorem dX6_digest_107 : decode cX6_digest 107 = .ok (.invokevirtual 51, 3) := by decide +kernel
theorem dX6_digest_110 : decode cX6_digest 110 = .ok (.iinc 6 1, 3) := by decide +kernel
theorem dX6_digest_113 : decode cX6_digest 113 = .ok (.goto (-21), 3) := by decide +kernel
theorem dX6_digest_116 : decode cX6_digest 116 = .ok (.return_, 1) := by decide +kernel
set_option maxRecDepth 20000 in
theorem ggX6_expand_X5_wordAt : GoodIn wsX6_expand wsX5_wordAt := goodIn_r _ [6, 7, 8, 9, 5, 10, 11, 12, 18, 19] rfl (by decide +kernel)
set_option maxRecDepth 20000 in
theorem gX6_expand_X5_wordAt : GoodIn wsX6_expand (wsV RX6 54 RX5 yX5_wordAt wsX5_wordAt) := goodIn_app (goodIn_of _ (by decide +kernel)) ggX6_expand_X5_wordAt
set_option maxRecDepth 20000 in
theorem ggX6_expand_X7_turnRight : GoodIn wsX6_expand wsX7_turnRight := goodIn_r _ [15] rfl (by decide +kernel)
set_option maxRecDepth 20000 in
theorem gX6_expand_X7_turnRight_n58 : GoodIn wsX6_expand (wsX7_turnRight) := ggX6_expand_X7_turnRight
theorem dX6_expand_0 : decode cX6_expand 0 = .ok (.iconst 0, 1) := by decide +kernel
theorem dX6_expand_1 : decode cX6_expand 1 = .ok (.istore_n 3, 1) := by decide +kernel
theorem dX6_expand_2 : decode cX6_expand 2 = .ok (.iload_n 3, 1) := by decide +kernel
theorem dX6_expand_3 : decode cX6_expand 3 = .ok (.bipush 16, 2) := by decide +kernel
theorem dX6_expand_5 : decode cX6_expand 5 = .ok (.if_icmp .ge 24, 3) := by decide +kernel
theorem dX6_expand_8 : decode cX6_expand 8 = .ok (.aload_n 0, 1) := by decide +kernel
theorem dX6_expand_9 : decode cX6_expand 9 = .ok (.getfield 13, 3) := by decide +kernel
theorem dX6_expand_12 : decode cX6_expand 12 = .ok (.iload_n 3, 1) := by decide +kernel
theorem dX6_expand_13 : decode cX6_expand 13 = .ok (.aload_n 1, 1) := by decide +kernel
theorem dX6_expand_14 : decode cX6_expand 14 = .ok (.iload_n 2, 1) := by decide +kernel
theorem dX6_expand_15 : decode cX6_expand 15 = .ok (.iconst 4, 1) := by decide +kernel
theorem dX6_expand_16 : decode cX6_expand 16 = .ok (.iload_n 3, 1) := by decide +kernel
theorem dX6_expand_17 : decode cX6_expand 17 = .ok (.imul, 1) := by decide +kernel
theorem dX6_expand_18 : decode cX6_expand 18 = .ok (.iadd, 1) := by decide +kernel
theorem dX6_expand_19 : decode cX6_expand 19 = .ok (.invokevirtual 54, 3) := by decide +kernel
theorem dX6_expand_22 : decode cX6_expand 22 = .ok (.iastore, 1) := by decide +kernel
theorem dX6_expand_23 : decode cX6_expand 23 = .ok (.iinc 3 1, 3) := by decide +kernel
theorem dX6_expand_26 : decode cX6_expand 26 = .ok (.goto (-24), 3) := by decide +kernel
theorem dX6_expand_29 : decode cX6_expand 29 = .ok (.bipush 16, 2) := by decide +kernel
theorem dX6_expand_31 : decode cX6_expand 31 = .ok (.istore_n 3, 1) := by decide +kernel
theorem dX6_expand_32 : decode cX6_expand 32 = .ok (.iload_n 3, 1) := by decide +kernel
theorem dX6_expand_33 : decode cX6_expand 33 = .ok (.bipush 64, 2) := by decide +kernel
theorem dX6_expand_35 : decode cX6_expand 35 = .ok (.if_icmp .ge 106, 3) := by decide +kernel
theorem dX6_expand_38 : decode cX6_expand 38 = .ok (.aload_n 0, 1) := by decide +kernel
theorem dX6_expand_39 : decode cX6_expand 39 = .ok (.getfield 13, 3) := by decide +kernel
theorem dX6_expand_42 : decode cX6_expand 42 = .ok (.iload_n 3, 1) := by decide +kernel
theorem dX6_expand_43 : decode cX6_expand 43 = .ok (.bipush 15, 2) := by decide +kernel
theorem dX6_expand_45 : decode cX6_expand 45 = .ok (.isub, 1) := by decide +kernel
theorem dX6_expand_46 : decode cX6_expand 46 = .ok (.iaload, 1) := by decide +kernel
theorem dX6_expand_47 : decode cX6_expand 47 = .ok (.istore 4, 2) := by decide +kernel
theorem dX6_expand_49 : decode cX6_expand 49 = .ok (.aload_n 0, 1) := by decide +kernel
theorem dX6_expand_50 : decode cX6_expand 50 = .ok (.getfield 13, 3) := by decide +kernel
theorem dX6_expand_53 : decode cX6_expand 53 = .ok (.iload_n 3, 1) := by decide +kernel
theorem dX6_expand_54 : decode cX6_expand 54 = .ok (.iconst 2, 1) := by decide +kernel
theorem dX6_expand_55 : decode cX6_expand 55 = .ok (.isub, 1) := by decide +kernel
theorem dX6_expand_56 : decode cX6_expand 56 = .ok (.iaload, 1) := by decide +kernel
theorem dX6_expand_57 : decode cX6_expand 57 = .ok (.istore 5, 2) := by decide +kernel
theorem dX6_expand_59 : decode cX6_expand 59 = .ok (.iload 4, 2) := by decide +kernel
theorem dX6_expand_61 : decode cX6_expand 61 = .ok (.bipush 7, 2) := by decide +kernel
theorem dX6_expand_63 : decode cX6_expand 63 = .ok (.invokestatic 58, 3) := by decide +kernel
theorem dX6_expand_66 : decode cX6_expand 66 = .ok (.iload 4, 2) := by decide +kernel
theorem dX6_expand_68 : decode cX6_expand 68 = .ok (.bipush 18, 2) := by decide +kernel
theorem dX6_expand_70 : decode cX6_expand 70 = .ok (.invokestatic 58, 3) := by decide +kernel
theorem dX6_expand_73 : decode cX6_expand 73 = .ok (.ixor, 1) := by decide +kernel
theorem dX6_expand_74 : decode cX6_expand 74 = .ok (.iload 4, 2) := by decide +kernel
theorem dX6_expand_76 : decode cX6_expand 76 = .ok (.iconst 3, 1) := by decide +kernel
theorem dX6_expand_77 : decode cX6_expand 77 = .ok (.iushr, 1) := by decide +kernel
theorem dX6_expand_78 : decode cX6_expand 78 = .ok (.ixor, 1) := by decide +kernel
theorem dX6_expand_79 : decode cX6_expand 79 = .ok (.istore 6, 2) := by decide +kernel
theorem dX6_expand_81 : decode cX6_expand 81 = .ok (.iload 5, 2) := by decide +kernel
theorem dX6_expand_83 : decode cX6_expand 83 = .ok (.bipush 17, 2) := by decide +kernel
theorem dX6_expand_85 : decode cX6_expand 85 = .ok (.invokestatic 58, 3) := by decide +kernel
theorem dX6_expand_88 : decode cX6_expand 88 = .ok (.iload 5, 2) := by decide +kernel
theorem dX6_expand_90 : decode cX6_expand 90 = .ok (.bipush 19, 2) := by decide +kernel
theorem dX6_expand_92 : decode cX6_expand 92 = .ok (.invokestatic 58, 3) := by decide +kernel
theorem dX6_expand_95 : decode cX6_expand 95 = .ok (.ixor, 1) := by decide +kernel
theorem dX6_expand_96 : decode cX6_expand 96 = .ok (.iload 5, 2) := by decide +kernel
theorem dX6_expand_98 : decode cX6_expand 98 = .ok (.bipush 10, 2) := by decide +kernel
theorem dX6_expand_100 : decode cX6_expand 100 = .ok (.iushr, 1) := by decide +kernel
theorem dX6_expand_101 : decode cX6_expand 101 = .ok (.ixor, 1) := by decide +kernel
theorem dX6_expand_102 : decode cX6_expand 102 = .ok (.istore 7, 2) := by decide +kernel
theorem dX6_expand_104 : decode cX6_expand 104 = .ok (.aload_n 0, 1) := by decide +kernel
theorem dX6_expand_105 : decode cX6_expand 105 = .ok (.getfield 13, 3) := by decide +kernel
theorem dX6_expand_108 : decode cX6_expand 108 = .ok (.iload_n 3, 1) := by decide +kernel
theorem dX6_expand_109 : decode cX6_expand 109 = .ok (.aload_n 0, 1) := by decide +kernel
theorem dX6_expand_110 : decode cX6_expand 110 = .ok (.getfield 13, 3) := by decide +kernel
theorem dX6_expand_113 : decode cX6_expand 113 = .ok (.iload_n 3, 1) := by decide +kernel
theorem dX6_expand_114 : decode cX6_expand 114 = .ok (.bipush 16, 2) := by decide +kernel
theorem dX6_expand_116 : decode cX6_expand 116 = .ok (.isub, 1) := by decide +kernel
theorem dX6_expand_117 : decode cX6_expand 117 = .ok (.iaload, 1) := by decide +kernel
theorem dX6_expand_118 : decode cX6_expand 118 = .ok (.iload 6, 2) := by decide +kernel
theorem dX6_expand_120 : decode cX6_expand 120 = .ok (.iadd, 1) := by decide +kernel
theorem dX6_expand_121 : decode cX6_expand 121 = .ok (.aload_n 0, 1) := by decide +kernel
theorem dX6_expand_122 : decode cX6_expand 122 = .ok (.getfield 13, 3) := by decide +kernel
theorem dX6_expand_125 : decode cX6_expand 125 = .ok (.iload_n 3, 1) := by decide +kernel
theorem dX6_expand_126 : decode cX6_expand 126 = .ok (.bipush 7, 2) := by decide +kernel
theorem dX6_expand_128 : decode cX6_expand 128 = .ok (.isub, 1) := by decide +kernel
theorem dX6_expand_129 : decode cX6_expand 129 = .ok (.iaload, 1) := by decide +kernel
theorem dX6_expand_130 : decode cX6_expand 130 = .ok (.iadd, 1) := by decide +kernel
theorem dX6_expand_131 : decode cX6_expand 131 = .ok (.iload 7, 2) := by decide +kernel
theorem dX6_expand_133 : decode cX6_expand 133 = .ok (.iadd, 1) := by decide +kernel
theorem dX6_expand_134 : decode cX6_expand 134 = .ok (.iastore, 1) := by decide +kernel
theorem dX6_expand_135 : decode cX6_expand 135 = .ok (.iinc 3 1, 3) := by decide +kernel
theorem dX6_expand_138 : decode cX6_expand 138 = .ok (.goto (-106), 3) := by decide +kernel
theorem dX6_expand_141 : decode cX6_expand 141 = .ok (.return_, 1) := by decide +kernel
set_option maxRecDepth 20000 in
theorem ggX6_compress_X7_turnRight : GoodIn wsX6_compress wsX7_turnRight := goodIn_r _ [6] rfl (by decide +kernel)
set_option maxRecDepth 20000 in
theorem gX6_compress_X7_turnRight_n58 : GoodIn wsX6_compress (wsX7_turnRight) := ggX6_compress_X7_turnRight
theorem dX6_compress_0 : decode cX6_compress 0 = .ok (.aload_n 0, 1) := by decide +kernel
theorem dX6_compress_1 : decode cX6_compress 1 = .ok (.getfield 7, 3) := by decide +kernel
theorem dX6_compress_4 : decode cX6_compress 4 = .ok (.iconst 0, 1) := by decide +kernel
theorem dX6_compress_5 : decode cX6_compress 5 = .ok (.iaload, 1) := by decide +kernel
theorem dX6_compress_6 : decode cX6_compress 6 = .ok (.istore_n 1, 1) := by decide +kernel
theorem dX6_compress_7 : decode cX6_compress 7 = .ok (.aload_n 0, 1) := by decide +kernel
theorem dX6_compress_8 : decode cX6_compress 8 = .ok (.getfield 7, 3) := by decide +kernel
theorem dX6_compress_11 : decode cX6_compress 11 = .ok (.iconst 1, 1) := by decide +kernel
theorem dX6_compress_12 : decode cX6_compress 12 = .ok (.iaload, 1) := by decide +kernel
theorem dX6_compress_13 : decode cX6_compress 13 = .ok (.istore_n 2, 1) := by decide +kernel
theorem dX6_compress_14 : decode cX6_compress 14 = .ok (.aload_n 0, 1) := by decide +kernel
theorem dX6_compress_15 : decode cX6_compress 15 = .ok (.getfield 7, 3) := by decide +kernel
theorem dX6_compress_18 : decode cX6_compress 18 = .ok (.iconst 2, 1) := by decide +kernel
theorem dX6_compress_19 : decode cX6_compress 19 = .ok (.iaload, 1) := by decide +kernel
theorem dX6_compress_20 : decode cX6_compress 20 = .ok (.istore_n 3, 1) := by decide +kernel
theorem dX6_compress_21 : decode cX6_compress 21 = .ok (.aload_n 0, 1) := by decide +kernel
theorem dX6_compress_22 : decode cX6_compress 22 = .ok (.getfield 7, 3) := by decide +kernel
theorem dX6_compress_25 : decode cX6_compress 25 = .ok (.iconst 3, 1) := by decide +kernel
theorem dX6_compress_26 : decode cX6_compress 26 = .ok (.iaload, 1) := by decide +kernel
theorem dX6_compress_27 : decode cX6_compress 27 = .ok (.istore 4, 2) := by decide +kernel
theorem dX6_compress_29 : decode cX6_compress 29 = .ok (.aload_n 0, 1) := by decide +kernel
theorem dX6_compress_30 : decode cX6_compress 30 = .ok (.getfield 7, 3) := by decide +kernel
theorem dX6_compress_33 : decode cX6_compress 33 = .ok (.iconst 4, 1) := by decide +kernel
theorem dX6_compress_34 : decode cX6_compress 34 = .ok (.iaload, 1) := by decide +kernel
theorem dX6_compress_35 : decode cX6_compress 35 = .ok (.istore 5, 2) := by decide +kernel
theorem dX6_compress_37 : decode cX6_compress 37 = .ok (.aload_n 0, 1) := by decide +kernel
theorem dX6_compress_38 : decode cX6_compress 38 = .ok (.getfield 7, 3) := by decide +kernel
theorem dX6_compress_41 : decode cX6_compress 41 = .ok (.iconst 5, 1) := by decide +kernel
theorem dX6_compress_42 : decode cX6_compress 42 = .ok (.iaload, 1) := by decide +kernel
theorem dX6_compress_43 : decode cX6_compress 43 = .ok (.istore 6, 2) := by decide +kernel
theorem dX6_compress_45 : decode cX6_compress 45 = .ok (.aload_n 0, 1) := by decide +kernel
theorem dX6_compress_46 : decode cX6_compress 46 = .ok (.getfield 7, 3) := by decide +kernel
theorem dX6_compress_49 : decode cX6_compress 49 = .ok (.bipush 6, 2) := by decide +kernel
theorem dX6_compress_51 : decode cX6_compress 51 = .ok (.iaload, 1) := by decide +kernel
theorem dX6_compress_52 : decode cX6_compress 52 = .ok (.istore 7, 2) := by decide +kernel
theorem dX6_compress_54 : decode cX6_compress 54 = .ok (.aload_n 0, 1) := by decide +kernel
theorem dX6_compress_55 : decode cX6_compress 55 = .ok (.getfield 7, 3) := by decide +kernel
theorem dX6_compress_58 : decode cX6_compress 58 = .ok (.bipush 7, 2) := by decide +kernel
theorem dX6_compress_60 : decode cX6_compress 60 = .ok (.iaload, 1) := by decide +kernel
theorem dX6_compress_61 : decode cX6_compress 61 = .ok (.istore 8, 2) := by decide +kernel
theorem dX6_compress_63 : decode cX6_compress 63 = .ok (.iconst 0, 1) := by decide +kernel
theorem dX6_compress_64 : decode cX6_compress 64 = .ok (.istore 9, 2) := by decide +kernel
theorem dX6_compress_66 : decode cX6_compress 66 = .ok (.iload 9, 2) := by decide +kernel
theorem dX6_compress_68 : decode cX6_compress 68 = .ok (.bipush 64, 2) := by decide +kernel
theorem dX6_compress_70 : decode cX6_compress 70 = .ok (.if_icmp .ge 139, 3) := by decide +kernel
theorem dX6_compress_73 : decode cX6_compress 73 = .ok (.iload 5, 2) := by decide +kernel
theorem dX6_compress_75 : decode cX6_compress 75 = .ok (.iload 6, 2) := by decide +kernel
theorem dX6_compress_77 : decode cX6_compress 77 = .ok (.iand, 1) := by decide +kernel
theorem dX6_compress_78 : decode cX6_compress 78 = .ok (.iload 5, 2) := by decide +kernel
theorem dX6_compress_80 : decode cX6_compress 80 = .ok (.iconst (-1), 1) := by decide +kernel
theorem dX6_compress_81 : decode cX6_compress 81 = .ok (.ixor, 1) := by decide +kernel
theorem dX6_compress_82 : decode cX6_compress 82 = .ok (.iload 7, 2) := by decide +kernel
theorem dX6_compress_84 : decode cX6_compress 84 = .ok (.iand, 1) := by decide +kernel
theorem dX6_compress_85 : decode cX6_compress 85 = .ok (.ixor, 1) := by decide +kernel
theorem dX6_compress_86 : decode cX6_compress 86 = .ok (.istore 10, 2) := by decide +kernel
theorem dX6_compress_88 : decode cX6_compress 88 = .ok (.iload_n 1, 1) := by decide +kernel
theorem dX6_compress_89 : decode cX6_compress 89 = .ok (.iload_n 2, 1) := by decide +kernel
theorem dX6_compress_90 : decode cX6_compress 90 = .ok (.iand, 1) := by decide +kernel
theorem dX6_compress_91 : decode cX6_compress 91 = .ok (.iload_n 1, 1) := by decide +kernel
theorem dX6_compress_92 : decode cX6_compress 92 = .ok (.iload_n 3, 1) := by decide +kernel
theorem dX6_compress_93 : decode cX6_compress 93 = .ok (.iand, 1) := by decide +kernel
theorem dX6_compress_94 : decode cX6_compress 94 = .ok (.ixor, 1) := by decide +kernel
theorem dX6_compress_95 : decode cX6_compress 95 = .ok (.iload_n 2, 1) := by decide +kernel
theorem dX6_compress_96 : decode cX6_compress 96 = .ok (.iload_n 3, 1) := by decide +kernel
theorem dX6_compress_97 : decode cX6_compress 97 = .ok (.iand, 1) := by decide +kernel
theorem dX6_compress_98 : decode cX6_compress 98 = .ok (.ixor, 1) := by decide +kernel
theorem dX6_compress_99 : decode cX6_compress 99 = .ok (.istore 11, 2) := by decide +kernel
theorem dX6_compress_101 : decode cX6_compress 101 = .ok (.iload 8, 2) := by decide +kernel
theorem dX6_compress_103 : decode cX6_compress 103 = .ok (.iload 5, 2) := by decide +kernel
theorem dX6_compress_105 : decode cX6_compress 105 = .ok (.bipush 6, 2) := by decide +kernel
theorem dX6_compress_107 : decode cX6_compress 107 = .ok (.invokestatic 58, 3) := by decide +kernel
theorem dX6_compress_110 : decode cX6_compress 110 = .ok (.iload 5, 2) := by decide +kernel
theorem dX6_compress_112 : decode cX6_compress 112 = .ok (.bipush 11, 2) := by decide +kernel
theorem dX6_compress_114 : decode cX6_compress 114 = .ok (.invokestatic 58, 3) := by decide +kernel
theorem dX6_compress_117 : decode cX6_compress 117 = .ok (.ixor, 1) := by decide +kernel
theorem dX6_compress_118 : decode cX6_compress 118 = .ok (.iload 5, 2) := by decide +kernel
theorem dX6_compress_120 : decode cX6_compress 120 = .ok (.bipush 25, 2) := by decide +kernel
theorem dX6_compress_122 : decode cX6_compress 122 = .ok (.invokestatic 58, 3) := by decide +kernel
theorem dX6_compress_125 : decode cX6_compress 125 = .ok (.ixor, 1) := by decide +kernel
theorem dX6_compress_126 : decode cX6_compress 126 = .ok (.iadd, 1) := by decide +kernel
theorem dX6_compress_127 : decode cX6_compress 127 = .ok (.iload 10, 2) := by decide +kernel
theorem dX6_compress_129 : decode cX6_compress 129 = .ok (.iadd, 1) := by decide +kernel
theorem dX6_compress_130 : decode cX6_compress 130 = .ok (.getstatic 64, 3) := by decide +kernel
theorem dX6_compress_133 : decode cX6_compress 133 = .ok (.iload 9, 2) := by decide +kernel
theorem dX6_compress_135 : decode cX6_compress 135 = .ok (.iaload, 1) := by decide +kernel
theorem dX6_compress_136 : decode cX6_compress 136 = .ok (.iadd, 1) := by decide +kernel
theorem dX6_compress_137 : decode cX6_compress 137 = .ok (.aload_n 0, 1) := by decide +kernel
theorem dX6_compress_138 : decode cX6_compress 138 = .ok (.getfield 13, 3) := by decide +kernel
theorem dX6_compress_141 : decode cX6_compress 141 = .ok (.iload 9, 2) := by decide +kernel
theorem dX6_compress_143 : decode cX6_compress 143 = .ok (.iaload, 1) := by decide +kernel
theorem dX6_compress_144 : decode cX6_compress 144 = .ok (.iadd, 1) := by decide +kernel
theorem dX6_compress_145 : decode cX6_compress 145 = .ok (.istore 12, 2) := by decide +kernel
theorem dX6_compress_147 : decode cX6_compress 147 = .ok (.iload_n 1, 1) := by decide +kernel
theorem dX6_compress_148 : decode cX6_compress 148 = .ok (.iconst 2, 1) := by decide +kernel
theorem dX6_compress_149 : decode cX6_compress 149 = .ok (.invokestatic 58, 3) := by decide +kernel
theorem dX6_compress_152 : decode cX6_compress 152 = .ok (.iload_n 1, 1) := by decide +kernel
theorem dX6_compress_153 : decode cX6_compress 153 = .ok (.bipush 13, 2) := by decide +kernel
theorem dX6_compress_155 : decode cX6_compress 155 = .ok (.invokestatic 58, 3) := by decide +kernel
theorem dX6_compress_158 : decode cX6_compress 158 = .ok (.ixor, 1) := by decide +kernel
theorem dX6_compress_159 : decode cX6_compress 159 = .ok (.iload_n 1, 1) := by decide +kernel
theorem dX6_compress_160 : decode cX6_compress 160 = .ok (.bipush 22, 2) := by decide +kernel
theorem dX6_compress_162 : decode cX6_compress 162 = .ok (.invokestatic 58, 3) := by decide +kernel
theorem dX6_compress_165 : decode cX6_compress 165 = .ok (.ixor, 1) := by decide +kernel
theorem dX6_compress_166 : decode cX6_compress 166 = .ok (.iload 11, 2) := by decide +kernel
theorem dX6_compress_168 : decode cX6_compress 168 = .ok (.iadd, 1) := by decide +kernel
theorem dX6_compress_169 : decode cX6_compress 169 = .ok (.istore 13, 2) := by decide +kernel
theorem dX6_compress_171 : decode cX6_compress 171 = .ok (.iload 7, 2) := by decide +kernel
theorem dX6_compress_173 : decode cX6_compress 173 = .ok (.istore 8, 2) := by decide +kernel
theorem dX6_compress_175 : decode cX6_compress 175 = .ok (.iload 6, 2) := by decide +kernel
theorem dX6_compress_177 : decode cX6_compress 177 = .ok (.istore 7, 2) := by decide +kernel
theorem dX6_compress_179 : decode cX6_compress 179 = .ok (.iload 5, 2) := by decide +kernel
theorem dX6_compress_181 : decode cX6_compress 181 = .ok (.istore 6, 2) := by decide +kernel
theorem dX6_compress_183 : decode cX6_compress 183 = .ok (.iload 4, 2) := by decide +kernel
theorem dX6_compress_185 : decode cX6_compress 185 = .ok (.iload 12, 2) := by decide +kernel
theorem dX6_compress_187 : decode cX6_compress 187 = .ok (.iadd, 1) := by decide +kernel
theorem dX6_compress_188 : decode cX6_compress 188 = .ok (.istore 5, 2) := by decide +kernel
theorem dX6_compress_190 : decode cX6_compress 190 = .ok (.iload_n 3, 1) := by decide +kernel
theorem dX6_compress_191 : decode cX6_compress 191 = .ok (.istore 4, 2) := by decide +kernel
theorem dX6_compress_193 : decode cX6_compress 193 = .ok (.iload_n 2, 1) := by decide +kernel
theorem dX6_compress_194 : decode cX6_compress 194 = .ok (.istore_n 3, 1) := by decide +kernel
theorem dX6_compress_195 : decode cX6_compress 195 = .ok (.iload_n 1, 1) := by decide +kernel
theorem dX6_compress_196 : decode cX6_compress 196 = .ok (.istore_n 2, 1) := by decide +kernel
theorem dX6_compress_197 : decode cX6_compress 197 = .ok (.iload 12, 2) := by decide +kernel
theorem dX6_compress_199 : decode cX6_compress 199 = .ok (.iload 13, 2) := by decide +kernel
theorem dX6_compress_201 : decode cX6_compress 201 = .ok (.iadd, 1) := by decide +kernel
theorem dX6_compress_202 : decode cX6_compress 202 = .ok (.istore_n 1, 1) := by decide +kernel
theorem dX6_compress_203 : decode cX6_compress 203 = .ok (.iinc 9 1, 3) := by decide +kernel
theorem dX6_compress_206 : decode cX6_compress 206 = .ok (.goto (-140), 3) := by decide +kernel
theorem dX6_compress_209 : decode cX6_compress 209 = .ok (.aload_n 0, 1) := by decide +kernel
theorem dX6_compress_210 : decode cX6_compress 210 = .ok (.getfield 7, 3) := by decide +kernel
theorem dX6_compress_213 : decode cX6_compress 213 = .ok (.iconst 0, 1) := by decide +kernel
theorem dX6_compress_214 : decode cX6_compress 214 = .ok (.dup2, 1) := by decide +kernel
theorem dX6_compress_215 : decode cX6_compress 215 = .ok (.iaload, 1) := by decide +kernel
theorem dX6_compress_216 : decode cX6_compress 216 = .ok (.iload_n 1, 1) := by decide +kernel
theorem dX6_compress_217 : decode cX6_compress 217 = .ok (.iadd, 1) := by decide +kernel
theorem dX6_compress_218 : decode cX6_compress 218 = .ok (.iastore, 1) := by decide +kernel
theorem dX6_compress_219 : decode cX6_compress 219 = .ok (.aload_n 0, 1) := by decide +kernel
theorem dX6_compress_220 : decode cX6_compress 220 = .ok (.getfield 7, 3) := by decide +kernel
theorem dX6_compress_223 : decode cX6_compress 223 = .ok (.iconst 1, 1) := by decide +kernel
theorem dX6_compress_224 : decode cX6_compress 224 = .ok (.dup2, 1) := by decide +kernel
theorem dX6_compress_225 : decode cX6_compress 225 = .ok (.iaload, 1) := by decide +kernel
theorem dX6_compress_226 : decode cX6_compress 226 = .ok (.iload_n 2, 1) := by decide +kernel
theorem dX6_compress_227 : decode cX6_compress 227 = .ok (.iadd, 1) := by decide +kernel
theorem dX6_compress_228 : decode cX6_compress 228 = .ok (.iastore, 1) := by decide +kernel
theorem dX6_compress_229 : decode cX6_compress 229 = .ok (.aload_n 0, 1) := by decide +kernel
theorem dX6_compress_230 : decode cX6_compress 230 = .ok (.getfield 7, 3) := by decide +kernel
theorem dX6_compress_233 : decode cX6_compress 233 = .ok (.iconst 2, 1) := by decide +kernel
theorem dX6_compress_234 : decode cX6_compress 234 = .ok (.dup2, 1) := by decide +kernel
theorem dX6_compress_235 : decode cX6_compress 235 = .ok (.iaload, 1) := by decide +kernel
theorem dX6_compress_236 : decode cX6_compress 236 = .ok (.iload_n 3, 1) := by decide +kernel
theorem dX6_compress_237 : decode cX6_compress 237 = .ok (.iadd, 1) := by decide +kernel
theorem dX6_compress_238 : decode cX6_compress 238 = .ok (.iastore, 1) := by decide +kernel
theorem dX6_compress_239 : decode cX6_compress 239 = .ok (.aload_n 0, 1) := by decide +kernel
theorem dX6_compress_240 : decode cX6_compress 240 = .ok (.getfield 7, 3) := by decide +kernel
theorem dX6_compress_243 : decode cX6_compress 243 = .ok (.iconst 3, 1) := by decide +kernel
theorem dX6_compress_244 : decode cX6_compress 244 = .ok (.dup2, 1) := by decide +kernel
theorem dX6_compress_245 : decode cX6_compress 245 = .ok (.iaload, 1) := by decide +kernel
theorem dX6_compress_246 : decode cX6_compress 246 = .ok (.iload 4, 2) := by decide +kernel
theorem dX6_compress_248 : decode cX6_compress 248 = .ok (.iadd, 1) := by decide +kernel
theorem dX6_compress_249 : decode cX6_compress 249 = .ok (.iastore, 1) := by decide +kernel
theorem dX6_compress_250 : decode cX6_compress 250 = .ok (.aload_n 0, 1) := by decide +kernel
theorem dX6_compress_251 : decode cX6_compress 251 = .ok (.getfield 7, 3) := by decide +kernel
theorem dX6_compress_254 : decode cX6_compress 254 = .ok (.iconst 4, 1) := by decide +kernel
theorem dX6_compress_255 : decode cX6_compress 255 = .ok (.dup2, 1) := by decide +kernel
theorem dX6_compress_256 : decode cX6_compress 256 = .ok (.iaload, 1) := by decide +kernel
theorem dX6_compress_257 : decode cX6_compress 257 = .ok (.iload 5, 2) := by decide +kernel
theorem dX6_compress_259 : decode cX6_compress 259 = .ok (.iadd, 1) := by decide +kernel
theorem dX6_compress_260 : decode cX6_compress 260 = .ok (.iastore, 1) := by decide +kernel
theorem dX6_compress_261 : decode cX6_compress 261 = .ok (.aload_n 0, 1) := by decide +kernel
theorem dX6_compress_262 : decode cX6_compress 262 = .ok (.getfield 7, 3) := by decide +kernel
theorem dX6_compress_265 : decode cX6_compress 265 = .ok (.iconst 5, 1) := by decide +kernel
theorem dX6_compress_266 : decode cX6_compress 266 = .ok (.dup2, 1) := by decide +kernel
theorem dX6_compress_267 : decode cX6_compress 267 = .ok (.iaload, 1) := by decide +kernel
theorem dX6_compress_268 : decode cX6_compress 268 = .ok (.iload 6, 2) := by decide +kernel
theorem dX6_compress_270 : decode cX6_compress 270 = .ok (.iadd, 1) := by decide +kernel
theorem dX6_compress_271 : decode cX6_compress 271 = .ok (.iastore, 1) := by decide +kernel
theorem dX6_compress_272 : decode cX6_compress 272 = .ok (.aload_n 0, 1) := by decide +kernel
theorem dX6_compress_273 : decode cX6_compress 273 = .ok (.getfield 7, 3) := by decide +kernel
theorem dX6_compress_276 : decode cX6_compress 276 = .ok (.bipush 6, 2) := by decide +kernel
theorem dX6_compress_278 : decode cX6_compress 278 = .ok (.dup2, 1) := by decide +kernel
theorem dX6_compress_279 : decode cX6_compress 279 = .ok (.iaload, 1) := by decide +kernel
theorem dX6_compress_280 : decode cX6_compress 280 = .ok (.iload 7, 2) := by decide +kernel
theorem dX6_compress_282 : decode cX6_compress 282 = .ok (.iadd, 1) := by decide +kernel
theorem dX6_compress_283 : decode cX6_compress 283 = .ok (.iastore, 1) := by decide +kernel
theorem dX6_compress_284 : decode cX6_compress 284 = .ok (.aload_n 0, 1) := by decide +kernel
theorem dX6_compress_285 : decode cX6_compress 285 = .ok (.getfield 7, 3) := by decide +kernel
theorem dX6_compress_288 : decode cX6_compress 288 = .ok (.bipush 7, 2) := by decide +kernel
theorem dX6_compress_290 : decode cX6_compress 290 = .ok (.dup2, 1) := by decide +kernel
theorem dX6_compress_291 : decode cX6_compress 291 = .ok (.iaload, 1) := by decide +kernel
theorem dX6_compress_292 : decode cX6_compress 292 = .ok (.iload 8, 2) := by decide +kernel
theorem dX6_compress_294 : decode cX6_compress 294 = .ok (.iadd, 1) := by decide +kernel
theorem dX6_compress_295 : decode cX6_compress 295 = .ok (.iastore, 1) := by decide +kernel
theorem dX6_compress_296 : decode cX6_compress 296 = .ok (.return_, 1) := by decide +kernel
