theorem dX2_init_0 : decode cX2_init 0 = .ok (.aload_n 0, 1) := by decide +kernel
theorem dX2_init_1 : decode cX2_init 1 = .ok (.invokespecial 1, 3) := by decide +kernel
theorem dX2_init_4 : decode cX2_init 4 = .ok (.aload_n 0, 1) := by decide +kernel
theorem dX2_init_5 : decode cX2_init 5 = .ok (.bipush 16, 2) := by decide +kernel
theorem dX2_init_7 : decode cX2_init 7 = .ok (.newarray .int, 2) := by decide +kernel
theorem dX2_init_9 : decode cX2_init 9 = .ok (.putfield 9, 3) := by decide +kernel
theorem dX2_init_12 : decode cX2_init 12 = .ok (.return_, 1) := by decide +kernel
set_option maxRecDepth 20000 in
theorem ggX2_tag_X5_size : GoodIn wsX2_tag wsX5_size := goodIn_r _ [8, 9, 147, 148] rfl (by decide +kernel)
set_option maxRecDepth 20000 in
theorem gX2_tag_X5_size : GoodIn wsX2_tag (wsV RX2 15 RX5 yX5_size wsX5_size) := goodIn_app (goodIn_of _ (by decide +kernel)) ggX2_tag_X5_size
set_option maxRecDepth 20000 in
theorem ggX2_tag_X1_isWhole : GoodIn wsX2_tag wsX1_isWhole := goodIn_r _ [15, 16, 136, 137, 138, 139, 140, 141, 142, 143, 144, 145] rfl (by decide +kernel)
set_option maxRecDepth 20000 in
theorem gX2_tag_X1_isWhole_u21X0 : GoodIn wsX2_tag (va_wsU RX2 21 RX0 "CipherBox$BlockCipher" ⟨"CipherBox$Aes", "isWhole", "(I)Z"⟩ yX1_isWhole wsX1_isWhole) := goodIn_app (goodIn_of _ (by decide +kernel)) ggX2_tag_X1_isWhole
set_option maxRecDepth 20000 in
theorem ggX2_tag_X2_makeSubkey : GoodIn wsX2_tag wsX2_makeSubkey := goodIn_r _ [21, 1, 2, 3, 22, 23, 24, 25, 26, 27, 28, 29, 14, 30, 16, 31, 32, 33, 34, 35, 36, 37, 38, 39, 40, 41, 42, 43, 44, 45, 46, 47, 48, 49, 50, 51, 52, 53, 54, 55, 56, 57, 58, 59, 60, 61, 62, 63, 20, 64, 136, 137, 138, 139, 140, 141, 142, 143, 144, 145, 146] rfl (by decide +kernel)
set_option maxRecDepth 20000 in
theorem gX2_tag_X2_makeSubkey : GoodIn wsX2_tag (wsV RX2 25 RX2 yX2_makeSubkey wsX2_makeSubkey) := goodIn_app (goodIn_of _ (by decide +kernel)) ggX2_tag_X2_makeSubkey
set_option maxRecDepth 20000 in
theorem ggX2_tag_X1_blocksIn : GoodIn wsX2_tag wsX1_blocksIn := goodIn_r _ [69, 70, 71, 5, 6, 7, 8, 9, 136, 137, 138, 139, 140, 141, 142, 143, 144, 145, 147, 148] rfl (by decide +kernel)
set_option maxRecDepth 20000 in
theorem gX2_tag_X1_blocksIn_u29X0 : GoodIn wsX2_tag (va_wsU RX2 29 RX0 "CipherBox$BlockCipher" ⟨"CipherBox$Aes", "blocksIn", "(LCipherBox$Row;)I"⟩ yX1_blocksIn wsX1_blocksIn) := goodIn_app (goodIn_of _ (by decide +kernel)) ggX2_tag_X1_blocksIn
set_option maxRecDepth 20000 in
theorem ggX2_tag_X1_zero : GoodIn wsX2_tag wsX1_zero := goodIn_r _ [30, 16, 31, 32, 33, 34, 136, 137, 138, 139, 140, 141, 142, 143, 144, 145] rfl (by decide +kernel)
set_option maxRecDepth 20000 in
theorem gX2_tag_X1_zero_u33X0 : GoodIn wsX2_tag (va_wsU RX2 33 RX0 "CipherBox$BlockCipher" ⟨"CipherBox$Aes", "zero", "()V"⟩ yX1_zero wsX1_zero) := goodIn_app (goodIn_of _ (by decide +kernel)) ggX2_tag_X1_zero
set_option maxRecDepth 20000 in
theorem ggX2_tag_X1_absorb : GoodIn wsX2_tag wsX1_absorb := goodIn_r _ [76, 70, 77, 78, 79, 80, 14, 81, 16, 82, 83, 84, 7, 85, 9, 86, 87, 88, 89, 90, 36, 38, 39, 40, 41, 42, 43, 44, 45, 46, 2, 47, 48, 49, 50, 51, 52, 53, 23, 24, 25, 54, 55, 56, 57, 58, 59, 60, 91, 92, 93, 94, 95, 96, 97, 98, 99, 100, 101, 102, 103, 104, 105, 106, 107, 108, 109, 110, 111, 112, 113, 114, 115, 116, 117, 118, 119, 120, 121, 122, 123, 136, 137, 138, 139, 140, 141, 142, 143, 144, 145, 147, 148, 149, 150] rfl (by decide +kernel)
set_option maxRecDepth 20000 in
theorem gX2_tag_X1_absorb_u36X0 : GoodIn wsX2_tag (va_wsU RX2 36 RX0 "CipherBox$BlockCipher" ⟨"CipherBox$Aes", "absorb", "(LCipherBox$Row;I)V"⟩ yX1_absorb wsX1_absorb) := goodIn_app (goodIn_of _ (by decide +kernel)) ggX2_tag_X1_absorb
set_option maxRecDepth 20000 in
theorem ggX2_tag_X1_mix : GoodIn wsX2_tag wsX1_mix := goodIn_r _ [81, 16, 82, 83, 84, 7, 85, 9, 86, 136, 137, 138, 139, 140, 141, 142, 143, 144, 145, 147, 148] rfl (by decide +kernel)
set_option maxRecDepth 20000 in
theorem gX2_tag_X1_mix_u40X0 : GoodIn wsX2_tag (va_wsU RX2 40 RX0 "CipherBox$BlockCipher" ⟨"CipherBox$Aes", "mix", "(LCipherBox$Row;I)V"⟩ yX1_mix wsX1_mix) := goodIn_app (goodIn_of _ (by decide +kernel)) ggX2_tag_X1_mix
set_option maxRecDepth 20000 in
theorem ggX2_tag_X0_codeThere : GoodIn wsX2_tag wsX0_codeThere := goodIn_r _ [39, 40, 41, 42, 43, 38, 44, 45, 46, 2, 47, 48, 49, 50, 51, 52, 53, 23, 24, 25, 54, 55, 56, 57, 58, 59, 60, 136, 137, 138, 139, 140, 141, 142, 143, 144, 145] rfl (by decide +kernel)
set_option maxRecDepth 20000 in
theorem gX2_tag_X0_codeThere : GoodIn wsX2_tag (wsV RX2 46 RX0 yX0_codeThere wsX0_codeThere) := goodIn_app (goodIn_of _ (by decide +kernel)) ggX2_tag_X0_codeThere
set_option maxRecDepth 20000 in
theorem ggX2_tag_X1_storeFirst : GoodIn wsX2_tag wsX1_storeFirst := goodIn_r _ [131, 16, 132, 133, 134, 7, 135, 9, 86, 136, 137, 138, 139, 140, 141, 142, 143, 144, 145, 147, 148] rfl (by decide +kernel)
set_option maxRecDepth 20000 in
theorem gX2_tag_X1_storeFirst_u49X0 : GoodIn wsX2_tag (va_wsU RX2 49 RX0 "CipherBox$BlockCipher" ⟨"CipherBox$Aes", "storeFirst", "(LCipherBox$Row;I)V"⟩ yX1_storeFirst wsX1_storeFirst) := goodIn_app (goodIn_of _ (by decide +kernel)) ggX2_tag_X1_storeFirst
theorem dX2_tag_0 : decode cX2_tag 0 = .ok (.aload_n 1, 1) := by decide +kernel
theorem dX2_tag_1 : decode cX2_tag 1 = .ok (.aload_n 2, 1) := by decide +kernel
theorem dX2_tag_2 : decode cX2_tag 2 = .ok (.invokevirtual 15, 3) := by decide +kernel
theorem dX2_tag_5 : decode cX2_tag 5 = .ok (.invokevirtual 21, 3) := by decide +kernel
theorem dX2_tag_8 : decode cX2_tag 8 = .ok (.istore 5, 2) := by decide +kernel
theorem dX2_tag_10 : decode cX2_tag 10 = .ok (.aload_n 0, 1) := by decide +kernel
theorem dX2_tag_11 : decode cX2_tag 11 = .ok (.aload_n 1, 1) := by decide +kernel
theorem dX2_tag_12 : decode cX2_tag 12 = .ok (.iload 5, 2) := by decide +kernel
theorem dX2_tag_14 : decode cX2_tag 14 = .ok (.invokevirtual 25, 3) := by decide +kernel
theorem dX2_tag_17 : decode cX2_tag 17 = .ok (.iload 5, 2) := by decide +kernel
theorem dX2_tag_19 : decode cX2_tag 19 = .ok (.ifCond .eq 13, 3) := by decide +kernel
theorem dX2_tag_22 : decode cX2_tag 22 = .ok (.aload_n 1, 1) := by decide +kernel
theorem dX2_tag_23 : decode cX2_tag 23 = .ok (.aload_n 2, 1) := by decide +kernel
theorem dX2_tag_24 : decode cX2_tag 24 = .ok (.invokevirtual 29, 3) := by decide +kernel
theorem dX2_tag_27 : decode cX2_tag 27 = .ok (.iconst 1, 1) := by decide +kernel
theorem dX2_tag_28 : decode cX2_tag 28 = .ok (.isub, 1) := by decide +kernel
theorem dX2_tag_29 : decode cX2_tag 29 = .ok (.goto 8, 3) := by decide +kernel
theorem dX2_tag_32 : decode cX2_tag 32 = .ok (.aload_n 1, 1) := by decide +kernel
theorem dX2_tag_33 : decode cX2_tag 33 = .ok (.aload_n 2, 1) := by decide +kernel
theorem dX2_tag_34 : decode cX2_tag 34 = .ok (.invokevirtual 29, 3) := by decide +kernel
theorem dX2_tag_37 : decode cX2_tag 37 = .ok (.istore 6, 2) := by decide +kernel
theorem dX2_tag_39 : decode cX2_tag 39 = .ok (.aload_n 1, 1) := by decide +kernel
theorem dX2_tag_40 : decode cX2_tag 40 = .ok (.invokevirtual 33, 3) := by decide +kernel
theorem dX2_tag_43 : decode cX2_tag 43 = .ok (.aload_n 1, 1) := by decide +kernel
theorem dX2_tag_44 : decode cX2_tag 44 = .ok (.aload_n 2, 1) := by decide +kernel
theorem dX2_tag_45 : decode cX2_tag 45 = .ok (.iload 6, 2) := by decide +kernel
theorem dX2_tag_47 : decode cX2_tag 47 = .ok (.invokevirtual 36, 3) := by decide +kernel
theorem dX2_tag_50 : decode cX2_tag 50 = .ok (.aload_n 1, 1) := by decide +kernel
theorem dX2_tag_51 : decode cX2_tag 51 = .ok (.aload_n 2, 1) := by decide +kernel
theorem dX2_tag_52 : decode cX2_tag 52 = .ok (.iload 6, 2) := by decide +kernel
theorem dX2_tag_54 : decode cX2_tag 54 = .ok (.bipush 16, 2) := by decide +kernel
theorem dX2_tag_56 : decode cX2_tag 56 = .ok (.imul, 1) := by decide +kernel
theorem dX2_tag_57 : decode cX2_tag 57 = .ok (.invokevirtual 40, 3) := by decide +kernel
theorem dX2_tag_60 : decode cX2_tag 60 = .ok (.iload 5, 2) := by decide +kernel
theorem dX2_tag_62 : decode cX2_tag 62 = .ok (.ifCond .ne 21, 3) := by decide +kernel
theorem dX2_tag_65 : decode cX2_tag 65 = .ok (.aload_n 1, 1) := by decide +kernel
theorem dX2_tag_66 : decode cX2_tag 66 = .ok (.getfield 43, 3) := by decide +kernel
theorem dX2_tag_69 : decode cX2_tag 69 = .ok (.aload_n 2, 1) := by decide +kernel
theorem dX2_tag_70 : decode cX2_tag 70 = .ok (.invokevirtual 15, 3) := by decide +kernel
theorem dX2_tag_73 : decode cX2_tag 73 = .ok (.bipush 15, 2) := by decide +kernel
theorem dX2_tag_75 : decode cX2_tag 75 = .ok (.iand, 1) := by decide +kernel
theorem dX2_tag_76 : decode cX2_tag 76 = .ok (.dup2, 1) := by decide +kernel
theorem dX2_tag_77 : decode cX2_tag 77 = .ok (.iaload, 1) := by decide +kernel
theorem dX2_tag_78 : decode cX2_tag 78 = .ok (.sipush 128, 3) := by decide +kernel
theorem dX2_tag_81 : decode cX2_tag 81 = .ok (.ixor, 1) := by decide +kernel
theorem dX2_tag_82 : decode cX2_tag 82 = .ok (.iastore, 1) := by decide +kernel
theorem dX2_tag_83 : decode cX2_tag 83 = .ok (.iconst 0, 1) := by decide +kernel
theorem dX2_tag_84 : decode cX2_tag 84 = .ok (.istore 7, 2) := by decide +kernel
theorem dX2_tag_86 : decode cX2_tag 86 = .ok (.iload 7, 2) := by decide +kernel
theorem dX2_tag_88 : decode cX2_tag 88 = .ok (.bipush 16, 2) := by decide +kernel
theorem dX2_tag_90 : decode cX2_tag 90 = .ok (.if_icmp .ge 26, 3) := by decide +kernel
theorem dX2_tag_93 : decode cX2_tag 93 = .ok (.aload_n 1, 1) := by decide +kernel
theorem dX2_tag_94 : decode cX2_tag 94 = .ok (.getfield 43, 3) := by decide +kernel
theorem dX2_tag_97 : decode cX2_tag 97 = .ok (.iload 7, 2) := by decide +kernel
theorem dX2_tag_99 : decode cX2_tag 99 = .ok (.dup2, 1) := by decide +kernel
theorem dX2_tag_100 : decode cX2_tag 100 = .ok (.iaload, 1) := by decide +kernel
theorem dX2_tag_101 : decode cX2_tag 101 = .ok (.aload_n 0, 1) := by decide +kernel
theorem dX2_tag_102 : decode cX2_tag 102 = .ok (.getfield 9, 3) := by decide +kernel
theorem dX2_tag_105 : decode cX2_tag 105 = .ok (.iload 7, 2) := by decide +kernel
theorem dX2_tag_107 : decode cX2_tag 107 = .ok (.iaload, 1) := by decide +kernel
theorem dX2_tag_108 : decode cX2_tag 108 = .ok (.ixor, 1) := by decide +kernel
theorem dX2_tag_109 : decode cX2_tag 109 = .ok (.iastore, 1) := by decide +kernel
theorem dX2_tag_110 : decode cX2_tag 110 = .ok (.iinc 7 1, 3) := by decide +kernel
theorem dX2_tag_113 : decode cX2_tag 113 = .ok (.goto (-27), 3) := by decide +kernel
theorem dX2_tag_116 : decode cX2_tag 116 = .ok (.aload_n 1, 1) := by decide +kernel
theorem dX2_tag_117 : decode cX2_tag 117 = .ok (.invokevirtual 46, 3) := by decide +kernel
theorem dX2_tag_120 : decode cX2_tag 120 = .ok (.aload_n 1, 1) := by decide +kernel
theorem dX2_tag_121 : decode cX2_tag 121 = .ok (.aload_n 3, 1) := by decide +kernel
theorem dX2_tag_122 : decode cX2_tag 122 = .ok (.iload 4, 2) := by decide +kernel
theorem dX2_tag_124 : decode cX2_tag 124 = .ok (.invokevirtual 49, 3) := by decide +kernel
theorem dX2_tag_127 : decode cX2_tag 127 = .ok (.return_, 1) := by decide +kernel
set_option maxRecDepth 20000 in
theorem ggX2_makeSubkey_X1_zero : GoodIn wsX2_makeSubkey wsX1_zero := goodIn_r _ [13, 14, 15, 16, 17, 18, 50, 51, 52, 53, 54, 55, 56, 57, 58, 59] rfl (by decide +kernel)
set_option maxRecDepth 20000 in
theorem gX2_makeSubkey_X1_zero_u33X0 : GoodIn wsX2_makeSubkey (va_wsU RX2 33 RX0 "CipherBox$BlockCipher" ⟨"CipherBox$Aes", "zero", "()V"⟩ yX1_zero wsX1_zero) := goodIn_app (goodIn_of _ (by decide +kernel)) ggX2_makeSubkey_X1_zero
set_option maxRecDepth 20000 in
theorem ggX2_makeSubkey_X0_codeThere : GoodIn wsX2_makeSubkey wsX0_codeThere := goodIn_r _ [23, 24, 25, 26, 27, 22, 28, 29, 30, 2, 31, 32, 33, 34, 35, 36, 37, 5, 6, 7, 38, 39, 40, 41, 42, 43, 44, 50, 51, 52, 53, 54, 55, 56, 57, 58, 59] rfl (by decide +kernel)
set_option maxRecDepth 20000 in
theorem gX2_makeSubkey_X0_codeThere : GoodIn wsX2_makeSubkey (wsV RX2 46 RX0 yX0_codeThere wsX0_codeThere) := goodIn_app (goodIn_of _ (by decide +kernel)) ggX2_makeSubkey_X0_codeThere
set_option maxRecDepth 20000 in
theorem ggX2_makeSubkey_X2_doubleSubkey : GoodIn wsX2_makeSubkey wsX2_doubleSubkey := goodIn_r _ [49, 3, 60] rfl (by decide +kernel)
set_option maxRecDepth 20000 in
theorem gX2_makeSubkey_X2_doubleSubkey : GoodIn wsX2_makeSubkey (wsV RX2 58 RX2 yX2_doubleSubkey wsX2_doubleSubkey) := goodIn_app (goodIn_of _ (by decide +kernel)) ggX2_makeSubkey_X2_doubleSubkey
theorem dX2_makeSubkey_0 : decode cX2_makeSubkey 0 = .ok (.aload_n 1, 1) := by decide +kernel
theorem dX2_makeSubkey_1 : decode cX2_makeSubkey 1 = .ok (.invokevirtual 33, 3) := by decide +kernel
theorem dX2_makeSubkey_4 : decode cX2_makeSubkey 4 = .ok (.aload_n 1, 1) := by decide +kernel
theorem dX2_makeSubkey_5 : decode cX2_makeSubkey 5 = .ok (.invokevirtual 46, 3) := by decide +kernel
theorem dX2_makeSubkey_8 : decode cX2_makeSubkey 8 = .ok (.aload_n 1, 1) := by decide +kernel
theorem dX2_makeSubkey_9 : decode cX2_makeSubkey 9 = .ok (.getfield 43, 3) := by decide +kernel
theorem dX2_makeSubkey_12 : decode cX2_makeSubkey 12 = .ok (.iconst 0, 1) := by decide +kernel
theorem dX2_makeSubkey_13 : decode cX2_makeSubkey 13 = .ok (.aload_n 0, 1) := by decide +kernel
theorem dX2_makeSubkey_14 : decode cX2_makeSubkey 14 = .ok (.getfield 9, 3) := by decide +kernel
theorem dX2_makeSubkey_17 : decode cX2_makeSubkey 17 = .ok (.iconst 0, 1) := by decide +kernel
theorem dX2_makeSubkey_18 : decode cX2_makeSubkey 18 = .ok (.bipush 16, 2) := by decide +kernel
theorem dX2_makeSubkey_20 : decode cX2_makeSubkey 20 = .ok (.invokestatic 52, 3) := by decide +kernel
theorem dX2_makeSubkey_23 : decode cX2_makeSubkey 23 = .ok (.aload_n 0, 1) := by decide +kernel
theorem dX2_makeSubkey_24 : decode cX2_makeSubkey 24 = .ok (.invokevirtual 58, 3) := by decide +kernel
theorem dX2_makeSubkey_27 : decode cX2_makeSubkey 27 = .ok (.iload_n 2, 1) := by decide +kernel
theorem dX2_makeSubkey_28 : decode cX2_makeSubkey 28 = .ok (.ifCond .ne 7, 3) := by decide +kernel
theorem dX2_makeSubkey_31 : decode cX2_makeSubkey 31 = .ok (.aload_n 0, 1) := by decide +kernel
theorem dX2_makeSubkey_32 : decode cX2_makeSubkey 32 = .ok (.invokevirtual 58, 3) := by decide +kernel
theorem dX2_makeSubkey_35 : decode cX2_makeSubkey 35 = .ok (.return_, 1) := by decide +kernel
theorem dX2_doubleSubkey_0 : decode cX2_doubleSubkey 0 = .ok (.aload_n 0, 1) := by decide +kernel
theorem dX2_doubleSubkey_1 : decode cX2_doubleSubkey 1 = .ok (.getfield 9, 3) := by decide +kernel
theorem dX2_doubleSubkey_4 : decode cX2_doubleSubkey 4 = .ok (.iconst 0, 1) := by decide +kernel
theorem dX2_doubleSubkey_5 : decode cX2_doubleSubkey 5 = .ok (.iaload, 1) := by decide +kernel
theorem dX2_doubleSubkey_6 : decode cX2_doubleSubkey 6 = .ok (.bipush 7, 2) := by decide +kernel
theorem dX2_doubleSubkey_8 : decode cX2_doubleSubkey 8 = .ok (.ishr, 1) := by decide +kernel
theorem dX2_doubleSubkey_9 : decode cX2_doubleSubkey 9 = .ok (.istore_n 1, 1) := by decide +kernel
theorem dX2_doubleSubkey_10 : decode cX2_doubleSubkey 10 = .ok (.iconst 0, 1) := by decide +kernel
theorem dX2_doubleSubkey_11 : decode cX2_doubleSubkey 11 = .ok (.istore_n 2, 1) := by decide +kernel
theorem dX2_doubleSubkey_12 : decode cX2_doubleSubkey 12 = .ok (.iload_n 2, 1) := by decide +kernel
theorem dX2_doubleSubkey_13 : decode cX2_doubleSubkey 13 = .ok (.bipush 15, 2) := by decide +kernel
theorem dX2_doubleSubkey_15 : decode cX2_doubleSubkey 15 = .ok (.if_icmp .ge 39, 3) := by decide +kernel
theorem dX2_doubleSubkey_18 : decode cX2_doubleSubkey 18 = .ok (.aload_n 0, 1) := by decide +kernel
theorem dX2_doubleSubkey_19 : decode cX2_doubleSubkey 19 = .ok (.getfield 9, 3) := by decide +kernel
theorem dX2_doubleSubkey_22 : decode cX2_doubleSubkey 22 = .ok (.iload_n 2, 1) := by decide +kernel
theorem dX2_doubleSubkey_23 : decode cX2_doubleSubkey 23 = .ok (.aload_n 0, 1) := by decide +kernel
theorem dX2_doubleSubkey_24 : decode cX2_doubleSubkey 24 = .ok (.getfield 9, 3) := by decide +kernel
theorem dX2_doubleSubkey_27 : decode cX2_doubleSubkey 27 = .ok (.iload_n 2, 1) := by decide +kernel
theorem dX2_doubleSubkey_28 : decode cX2_doubleSubkey 28 = .ok (.iaload, 1) := by decide +kernel
theorem dX2_doubleSubkey_29 : decode cX2_doubleSubkey 29 = .ok (.iconst 1, 1) := by decide +kernel
theorem dX2_doubleSubkey_30 : decode cX2_doubleSubkey 30 = .ok (.ishl, 1) := by decide +kernel
theorem dX2_doubleSubkey_31 : decode cX2_doubleSubkey 31 = .ok (.aload_n 0, 1) := by decide +kernel
theorem dX2_doubleSubkey_32 : decode cX2_doubleSubkey 32 = .ok (.getfield 9, 3) := by decide +kernel
theorem dX2_doubleSubkey_35 : decode cX2_doubleSubkey 35 = .ok (.iload_n 2, 1) := by decide +kernel
theorem dX2_doubleSubkey_36 : decode cX2_doubleSubkey 36 = .ok (.iconst 1, 1) := by decide +kernel
theorem dX2_doubleSubkey_37 : decode cX2_doubleSubkey 37 = .ok (.iadd, 1) := by decide +kernel
theorem dX2_doubleSubkey_38 : decode cX2_doubleSubkey 38 = .ok (.iaload, 1) := by decide +kernel
theorem dX2_doubleSubkey_39 : decode cX2_doubleSubkey 39 = .ok (.bipush 7, 2) := by decide +kernel
theorem dX2_doubleSubkey_41 : decode cX2_doubleSubkey 41 = .ok (.ishr, 1) := by decide +kernel
theorem dX2_doubleSubkey_42 : decode cX2_doubleSubkey 42 = .ok (.ior, 1) := by decide +kernel
theorem dX2_doubleSubkey_43 : decode cX2_doubleSubkey 43 = .ok (.sipush 255, 3) := by decide +kernel
theorem dX2_doubleSubkey_46 : decode cX2_doubleSubkey 46 = .ok (.iand, 1) := by decide +kernel
theorem dX2_doubleSubkey_47 : decode cX2_doubleSubkey 47 = .ok (.iastore, 1) := by decide +kernel
theorem dX2_doubleSubkey_48 : decode cX2_doubleSubkey 48 = .ok (.iinc 2 1, 3) := by decide +kernel
theorem dX2_doubleSubkey_51 : decode cX2_doubleSubkey 51 = .ok (.goto (-39), 3) := by decide +kernel
theorem dX2_doubleSubkey_54 : decode cX2_doubleSubkey 54 = .ok (.aload_n 0, 1) := by decide +kernel
theorem dX2_doubleSubkey_55 : decode cX2_doubleSubkey 55 = .ok (.getfield 9, 3) := by decide +kernel
theorem dX2_doubleSubkey_58 : decode cX2_doubleSubkey 58 = .ok (.bipush 15, 2) := by decide +kernel
theorem dX2_doubleSubkey_60 : decode cX2_doubleSubkey 60 = .ok (.aload_n 0, 1) := by decide +kernel
theorem dX2_doubleSubkey_61 : decode cX2_doubleSubkey 61 = .ok (.getfield 9, 3) := by decide +kernel
theorem dX2_doubleSubkey_64 : decode cX2_doubleSubkey 64 = .ok (.bipush 15, 2) := by decide +kernel
theorem dX2_doubleSubkey_66 : decode cX2_doubleSubkey 66 = .ok (.iaload, 1) := by decide +kernel
theorem dX2_doubleSubkey_67 : decode cX2_doubleSubkey 67 = .ok (.iconst 1, 1) := by decide +kernel
theorem dX2_doubleSubkey_68 : decode cX2_doubleSubkey 68 = .ok (.ishl, 1) := by decide +kernel
theorem dX2_doubleSubkey_69 : decode cX2_doubleSubkey 69 = .ok (.sipush 255, 3) := by decide +kernel
theorem dX2_doubleSubkey_72 : decode cX2_doubleSubkey 72 = .ok (.iand, 1) := by decide +kernel
theorem dX2_doubleSubkey_73 : decode cX2_doubleSubkey 73 = .ok (.iload_n 1, 1) := by decide +kernel
theorem dX2_doubleSubkey_74 : decode cX2_doubleSubkey 74 = .ok (.ifCond .ne 7, 3) := by decide +kernel
theorem dX2_doubleSubkey_77 : decode cX2_doubleSubkey 77 = .ok (.iconst 0, 1) := by decide +kernel
theorem dX2_doubleSubkey_78 : decode cX2_doubleSubkey 78 = .ok (.goto 6, 3) := by decide +kernel
theorem dX2_doubleSubkey_81 : decode cX2_doubleSubkey 81 = .ok (.sipush 135, 3) := by decide +kernel
theorem dX2_doubleSubkey_84 : decode cX2_doubleSubkey 84 = .ok (.ixor, 1) := by decide +kernel
theorem dX2_doubleSubkey_85 : decode cX2_doubleSubkey 85 = .ok (.iastore, 1) := by decide +kernel
theorem dX2_doubleSubkey_86 : decode cX2_doubleSubkey 86 = .ok (.return_, 1) := by decide +kernel
