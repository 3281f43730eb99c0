theorem dX1_init_0 : decode cX1_init 0 = .ok (.aload_n 0, 1) := by decide +kernel
theorem dX1_init_1 : decode cX1_init 1 = .ok (.invokespecial 1, 3) := by decide +kernel
theorem dX1_init_4 : decode cX1_init 4 = .ok (.aload_n 0, 1) := by decide +kernel
theorem dX1_init_5 : decode cX1_init 5 = .ok (.iload_n 1, 1) := by decide +kernel
theorem dX1_init_6 : decode cX1_init 6 = .ok (.putfield 7, 3) := by decide +kernel
theorem dX1_init_9 : decode cX1_init 9 = .ok (.aload_n 0, 1) := by decide +kernel
theorem dX1_init_10 : decode cX1_init 10 = .ok (.iconst 1, 1) := by decide +kernel
theorem dX1_init_11 : decode cX1_init 11 = .ok (.iload_n 1, 1) := by decide +kernel
theorem dX1_init_12 : decode cX1_init 12 = .ok (.bipush 7, 2) := by decide +kernel
theorem dX1_init_14 : decode cX1_init 14 = .ok (.iand, 1) := by decide +kernel
theorem dX1_init_15 : decode cX1_init 15 = .ok (.ishl, 1) := by decide +kernel
theorem dX1_init_16 : decode cX1_init 16 = .ok (.newarray .int, 2) := by decide +kernel
theorem dX1_init_18 : decode cX1_init 18 = .ok (.putfield 13, 3) := by decide +kernel
theorem dX1_init_21 : decode cX1_init 21 = .ok (.return_, 1) := by decide +kernel
theorem dX1_isWhole_0 : decode cX1_isWhole 0 = .ok (.iload_n 1, 1) := by decide +kernel
theorem dX1_isWhole_1 : decode cX1_isWhole 1 = .ok (.ifCond .le 19, 3) := by decide +kernel
theorem dX1_isWhole_4 : decode cX1_isWhole 4 = .ok (.iload_n 1, 1) := by decide +kernel
theorem dX1_isWhole_5 : decode cX1_isWhole 5 = .ok (.aload_n 0, 1) := by decide +kernel
theorem dX1_isWhole_6 : decode cX1_isWhole 6 = .ok (.getfield 13, 3) := by decide +kernel
theorem dX1_isWhole_9 : decode cX1_isWhole 9 = .ok (.arraylength, 1) := by decide +kernel
theorem dX1_isWhole_10 : decode cX1_isWhole 10 = .ok (.iconst 1, 1) := by decide +kernel
theorem dX1_isWhole_11 : decode cX1_isWhole 11 = .ok (.isub, 1) := by decide +kernel
theorem dX1_isWhole_12 : decode cX1_isWhole 12 = .ok (.iand, 1) := by decide +kernel
theorem dX1_isWhole_13 : decode cX1_isWhole 13 = .ok (.ifCond .ne 7, 3) := by decide +kernel
theorem dX1_isWhole_16 : decode cX1_isWhole 16 = .ok (.iconst 1, 1) := by decide +kernel
theorem dX1_isWhole_17 : decode cX1_isWhole 17 = .ok (.goto 4, 3) := by decide +kernel
theorem dX1_isWhole_20 : decode cX1_isWhole 20 = .ok (.iconst 0, 1) := by decide +kernel
theorem dX1_isWhole_21 : decode cX1_isWhole 21 = .ok (.ireturn, 1) := by decide +kernel
set_option maxRecDepth 20000 in
theorem ggX1_blocksIn_X5_size : GoodIn wsX1_blocksIn wsX5_size := goodIn_r _ [6, 7, 18, 19] rfl (by decide +kernel)
set_option maxRecDepth 20000 in
theorem gX1_blocksIn_X5_size : GoodIn wsX1_blocksIn (wsV RX1 17 RX5 yX5_size wsX5_size) := goodIn_app (goodIn_of _ (by decide +kernel)) ggX1_blocksIn_X5_size
theorem dX1_blocksIn_0 : decode cX1_blocksIn 0 = .ok (.aload_n 1, 1) := by decide +kernel
theorem dX1_blocksIn_1 : decode cX1_blocksIn 1 = .ok (.invokevirtual 17, 3) := by decide +kernel
theorem dX1_blocksIn_4 : decode cX1_blocksIn 4 = .ok (.aload_n 0, 1) := by decide +kernel
theorem dX1_blocksIn_5 : decode cX1_blocksIn 5 = .ok (.getfield 7, 3) := by decide +kernel
theorem dX1_blocksIn_8 : decode cX1_blocksIn 8 = .ok (.ishr, 1) := by decide +kernel
theorem dX1_blocksIn_9 : decode cX1_blocksIn 9 = .ok (.ireturn, 1) := by decide +kernel
set_option maxRecDepth 20000 in
theorem ggX1_zero_J7_fill_53178 : GoodIn wsX1_zero wsJ7_fill_53178 := goodIn_r _ [5] rfl (by decide +kernel)
set_option maxRecDepth 20000 in
theorem gX1_zero_J7_fill_53178 : GoodIn wsX1_zero (va_wsS RX1 23 yJ7_fill_53178 wsJ7_fill_53178) := goodIn_app (goodIn_of _ (by decide +kernel)) ggX1_zero_J7_fill_53178
theorem dX1_zero_0 : decode cX1_zero 0 = .ok (.aload_n 0, 1) := by decide +kernel
theorem dX1_zero_1 : decode cX1_zero 1 = .ok (.getfield 13, 3) := by decide +kernel
theorem dX1_zero_4 : decode cX1_zero 4 = .ok (.iconst 0, 1) := by decide +kernel
theorem dX1_zero_5 : decode cX1_zero 5 = .ok (.invokestatic 23, 3) := by decide +kernel
theorem dX1_zero_8 : decode cX1_zero 8 = .ok (.return_, 1) := by decide +kernel
set_option maxRecDepth 20000 in
theorem ggX1_load_X5_at : GoodIn wsX1_load wsX5_at := goodIn_r _ [6, 7, 8, 19, 20] rfl (by decide +kernel)
set_option maxRecDepth 20000 in
theorem gX1_load_X5_at : GoodIn wsX1_load (wsV RX1 29 RX5 yX5_at wsX5_at) := goodIn_app (goodIn_of _ (by decide +kernel)) ggX1_load_X5_at
theorem dX1_load_0 : decode cX1_load 0 = .ok (.iconst 0, 1) := by decide +kernel
theorem dX1_load_1 : decode cX1_load 1 = .ok (.istore_n 3, 1) := by decide +kernel
theorem dX1_load_2 : decode cX1_load 2 = .ok (.iload_n 3, 1) := by decide +kernel
theorem dX1_load_3 : decode cX1_load 3 = .ok (.aload_n 0, 1) := by decide +kernel
theorem dX1_load_4 : decode cX1_load 4 = .ok (.getfield 13, 3) := by decide +kernel
theorem dX1_load_7 : decode cX1_load 7 = .ok (.arraylength, 1) := by decide +kernel
theorem dX1_load_8 : decode cX1_load 8 = .ok (.if_icmp .ge 22, 3) := by decide +kernel
theorem dX1_load_11 : decode cX1_load 11 = .ok (.aload_n 0, 1) := by decide +kernel
theorem dX1_load_12 : decode cX1_load 12 = .ok (.getfield 13, 3) := by decide +kernel
theorem dX1_load_15 : decode cX1_load 15 = .ok (.iload_n 3, 1) := by decide +kernel
theorem dX1_load_16 : decode cX1_load 16 = .ok (.aload_n 1, 1) := by decide +kernel
theorem dX1_load_17 : decode cX1_load 17 = .ok (.iload_n 2, 1) := by decide +kernel
theorem dX1_load_18 : decode cX1_load 18 = .ok (.iload_n 3, 1) := by decide +kernel
theorem dX1_load_19 : decode cX1_load 19 = .ok (.iadd, 1) := by decide +kernel
theorem dX1_load_20 : decode cX1_load 20 = .ok (.invokevirtual 29, 3) := by decide +kernel
theorem dX1_load_23 : decode cX1_load 23 = .ok (.iastore, 1) := by decide +kernel
theorem dX1_load_24 : decode cX1_load 24 = .ok (.iinc 3 1, 3) := by decide +kernel
theorem dX1_load_27 : decode cX1_load 27 = .ok (.goto (-25), 3) := by decide +kernel
theorem dX1_load_30 : decode cX1_load 30 = .ok (.return_, 1) := by decide +kernel
set_option maxRecDepth 20000 in
theorem ggX1_mix_X5_at : GoodIn wsX1_mix wsX5_at := goodIn_r _ [6, 7, 8, 19, 20] rfl (by decide +kernel)
set_option maxRecDepth 20000 in
theorem gX1_mix_X5_at : GoodIn wsX1_mix (wsV RX1 29 RX5 yX5_at wsX5_at) := goodIn_app (goodIn_of _ (by decide +kernel)) ggX1_mix_X5_at
theorem dX1_mix_0 : decode cX1_mix 0 = .ok (.iconst 0, 1) := by decide +kernel
theorem dX1_mix_1 : decode cX1_mix 1 = .ok (.istore_n 3, 1) := by decide +kernel
theorem dX1_mix_2 : decode cX1_mix 2 = .ok (.iload_n 3, 1) := by decide +kernel
theorem dX1_mix_3 : decode cX1_mix 3 = .ok (.aload_n 0, 1) := by decide +kernel
theorem dX1_mix_4 : decode cX1_mix 4 = .ok (.getfield 13, 3) := by decide +kernel
theorem dX1_mix_7 : decode cX1_mix 7 = .ok (.arraylength, 1) := by decide +kernel
theorem dX1_mix_8 : decode cX1_mix 8 = .ok (.if_icmp .ge 25, 3) := by decide +kernel
theorem dX1_mix_11 : decode cX1_mix 11 = .ok (.aload_n 0, 1) := by decide +kernel
theorem dX1_mix_12 : decode cX1_mix 12 = .ok (.getfield 13, 3) := by decide +kernel
theorem dX1_mix_15 : decode cX1_mix 15 = .ok (.iload_n 3, 1) := by decide +kernel
theorem dX1_mix_16 : decode cX1_mix 16 = .ok (.dup2, 1) := by decide +kernel
theorem dX1_mix_17 : decode cX1_mix 17 = .ok (.iaload, 1) := by decide +kernel
theorem dX1_mix_18 : decode cX1_mix 18 = .ok (.aload_n 1, 1) := by decide +kernel
theorem dX1_mix_19 : decode cX1_mix 19 = .ok (.iload_n 2, 1) := by decide +kernel
theorem dX1_mix_20 : decode cX1_mix 20 = .ok (.iload_n 3, 1) := by decide +kernel
theorem dX1_mix_21 : decode cX1_mix 21 = .ok (.iadd, 1) := by decide +kernel
theorem dX1_mix_22 : decode cX1_mix 22 = .ok (.invokevirtual 29, 3) := by decide +kernel
theorem dX1_mix_25 : decode cX1_mix 25 = .ok (.ixor, 1) := by decide +kernel
theorem dX1_mix_26 : decode cX1_mix 26 = .ok (.iastore, 1) := by decide +kernel
theorem dX1_mix_27 : decode cX1_mix 27 = .ok (.iinc 3 1, 3) := by decide +kernel
theorem dX1_mix_30 : decode cX1_mix 30 = .ok (.goto (-28), 3) := by decide +kernel
theorem dX1_mix_33 : decode cX1_mix 33 = .ok (.return_, 1) := by decide +kernel
set_option maxRecDepth 20000 in
theorem ggX1_storeFirst_X5_add : GoodIn wsX1_storeFirst wsX5_add := goodIn_r _ [6, 7, 8, 19, 20] rfl (by decide +kernel)
set_option maxRecDepth 20000 in
theorem gX1_storeFirst_X5_add : GoodIn wsX1_storeFirst (wsV RX1 33 RX5 yX5_add wsX5_add) := goodIn_app (goodIn_of _ (by decide +kernel)) ggX1_storeFirst_X5_add
theorem dX1_storeFirst_0 : decode cX1_storeFirst 0 = .ok (.iconst 0, 1) := by decide +kernel
theorem dX1_storeFirst_1 : decode cX1_storeFirst 1 = .ok (.istore_n 3, 1) := by decide +kernel
theorem dX1_storeFirst_2 : decode cX1_storeFirst 2 = .ok (.iload_n 3, 1) := by decide +kernel
theorem dX1_storeFirst_3 : decode cX1_storeFirst 3 = .ok (.iload_n 2, 1) := by decide +kernel
theorem dX1_storeFirst_4 : decode cX1_storeFirst 4 = .ok (.if_icmp .ge 28, 3) := by decide +kernel
theorem dX1_storeFirst_7 : decode cX1_storeFirst 7 = .ok (.iload_n 3, 1) := by decide +kernel
theorem dX1_storeFirst_8 : decode cX1_storeFirst 8 = .ok (.aload_n 0, 1) := by decide +kernel
theorem dX1_storeFirst_9 : decode cX1_storeFirst 9 = .ok (.getfield 13, 3) := by decide +kernel
theorem dX1_storeFirst_12 : decode cX1_storeFirst 12 = .ok (.arraylength, 1) := by decide +kernel
theorem dX1_storeFirst_13 : decode cX1_storeFirst 13 = .ok (.if_icmp .ge 19, 3) := by decide +kernel
theorem dX1_storeFirst_16 : decode cX1_storeFirst 16 = .ok (.aload_n 1, 1) := by decide +kernel
theorem dX1_storeFirst_17 : decode cX1_storeFirst 17 = .ok (.aload_n 0, 1) := by decide +kernel
theorem dX1_storeFirst_18 : decode cX1_storeFirst 18 = .ok (.getfield 13, 3) := by decide +kernel
theorem dX1_storeFirst_21 : decode cX1_storeFirst 21 = .ok (.iload_n 3, 1) := by decide +kernel
theorem dX1_storeFirst_22 : decode cX1_storeFirst 22 = .ok (.iaload, 1) := by decide +kernel
theorem dX1_storeFirst_23 : decode cX1_storeFirst 23 = .ok (.invokevirtual 33, 3) := by decide +kernel
theorem dX1_storeFirst_26 : decode cX1_storeFirst 26 = .ok (.iinc 3 1, 3) := by decide +kernel
theorem dX1_storeFirst_29 : decode cX1_storeFirst 29 = .ok (.goto (-27), 3) := by decide +kernel
theorem dX1_storeFirst_32 : decode cX1_storeFirst 32 = .ok (.return_, 1) := by decide +kernel
set_option maxRecDepth 20000 in
theorem ggX1_codeEach_X1_blocksIn : GoodIn wsX1_codeEach wsX1_blocksIn := goodIn_r _ [8, 1, 9, 10, 11, 12, 13, 14, 118, 119, 120, 121, 122, 123, 124, 125, 126, 127, 128, 129] rfl (by decide +kernel)
set_option maxRecDepth 20000 in
theorem gX1_codeEach_X1_blocksIn_u37X0 : GoodIn wsX1_codeEach (va_wsU RX1 37 RX0 "CipherBox$BlockCipher" ⟨"CipherBox$BlockCipher", "blocksIn", "(LCipherBox$Row;)I"⟩ yX1_blocksIn wsX1_blocksIn) := goodIn_app (goodIn_of _ (by decide +kernel)) ggX1_codeEach_X1_blocksIn
set_option maxRecDepth 20000 in
theorem gX1_codeEach_X1_blocksIn_u37X4 : GoodIn wsX1_codeEach (va_wsU RX1 37 RX4 "CipherBox$BlockCipher" ⟨"CipherBox$BlockCipher", "blocksIn", "(LCipherBox$Row;)I"⟩ yX1_blocksIn wsX1_blocksIn) := goodIn_app (goodIn_of _ (by decide +kernel)) ggX1_codeEach_X1_blocksIn
set_option maxRecDepth 20000 in
theorem ggX1_codeEach_X1_load : GoodIn wsX1_codeEach wsX1_load := goodIn_r _ [20, 2, 21, 22, 23, 12, 24, 14, 25, 118, 119, 120, 121, 122, 123, 124, 125, 126, 127, 128, 129] rfl (by decide +kernel)
set_option maxRecDepth 20000 in
theorem gX1_codeEach_X1_load_u41X0 : GoodIn wsX1_codeEach (va_wsU RX1 41 RX0 "CipherBox$BlockCipher" ⟨"CipherBox$BlockCipher", "load", "(LCipherBox$Row;I)V"⟩ yX1_load wsX1_load) := goodIn_app (goodIn_of _ (by decide +kernel)) ggX1_codeEach_X1_load
set_option maxRecDepth 20000 in
theorem gX1_codeEach_X1_load_u41X4 : GoodIn wsX1_codeEach (va_wsU RX1 41 RX4 "CipherBox$BlockCipher" ⟨"CipherBox$BlockCipher", "load", "(LCipherBox$Row;I)V"⟩ yX1_load wsX1_load) := goodIn_app (goodIn_of _ (by decide +kernel)) ggX1_codeEach_X1_load
set_option maxRecDepth 20000 in
theorem ggX1_codeEach_X0_codeBack : GoodIn wsX1_codeEach wsX0_codeBack := goodIn_r _ [32, 33, 34, 35, 36, 31, 37, 38, 39, 40, 41, 42, 43, 44, 45, 46, 47, 48, 49, 50, 51, 52, 53, 54, 55, 56, 57, 58, 59, 60, 61, 118, 119, 120, 121, 122, 123, 124, 125, 126, 127] rfl (by decide +kernel)
set_option maxRecDepth 20000 in
theorem gX1_codeEach_X0_codeBack_u45X0 : GoodIn wsX1_codeEach (va_wsU RX1 45 RX0 "CipherBox$BlockCipher" ⟨"CipherBox$BlockCipher", "codeBack", "()V"⟩ yX0_codeBack wsX0_codeBack) := goodIn_app (goodIn_of _ (by decide +kernel)) ggX1_codeEach_X0_codeBack
set_option maxRecDepth 20000 in
theorem ggX1_codeEach_X4_codeBack : GoodIn wsX1_codeEach wsX4_codeBack := goodIn_r _ [65, 66, 67, 68, 69, 70, 71, 72, 64, 73, 74, 75, 76, 77, 78, 79, 80, 81, 82, 83, 84, 85, 86, 87, 88, 89, 90, 91, 92, 93, 94, 124, 125, 126, 127, 118, 119, 120, 121, 122, 123, 130, 131] rfl (by decide +kernel)
set_option maxRecDepth 20000 in
theorem gX1_codeEach_X4_codeBack_u45X4 : GoodIn wsX1_codeEach (va_wsU RX1 45 RX4 "CipherBox$BlockCipher" ⟨"CipherBox$BlockCipher", "codeBack", "()V"⟩ yX4_codeBack wsX4_codeBack) := goodIn_app (goodIn_of _ (by decide +kernel)) ggX1_codeEach_X4_codeBack
set_option maxRecDepth 20000 in
theorem ggX1_codeEach_X0_codeThere : GoodIn wsX1_codeEach wsX0_codeThere := goodIn_r _ [99, 33, 34, 35, 36, 31, 37, 38, 39, 40, 100, 101, 102, 103, 45, 104, 47, 48, 49, 50, 58, 59, 60, 61, 55, 56, 57, 118, 119, 120, 121, 122, 123, 124, 125, 126, 127] rfl (by decide +kernel)
set_option maxRecDepth 20000 in
theorem gX1_codeEach_X0_codeThere_u48X0 : GoodIn wsX1_codeEach (va_wsU RX1 48 RX0 "CipherBox$BlockCipher" ⟨"CipherBox$BlockCipher", "codeThere", "()V"⟩ yX0_codeThere wsX0_codeThere) := goodIn_app (goodIn_of _ (by decide +kernel)) ggX1_codeEach_X0_codeThere
set_option maxRecDepth 20000 in
theorem ggX1_codeEach_X4_codeThere : GoodIn wsX1_codeEach wsX4_codeThere := goodIn_r _ [107, 66, 67, 68, 69, 70, 71, 72, 64, 73, 74, 75, 76, 77, 78, 79, 80, 81, 82, 83, 84, 85, 86, 87, 88, 89, 90, 91, 92, 93, 94, 124, 125, 126, 127, 118, 119, 120, 121, 122, 123, 130, 131] rfl (by decide +kernel)
set_option maxRecDepth 20000 in
theorem gX1_codeEach_X4_codeThere_u48X4 : GoodIn wsX1_codeEach (va_wsU RX1 48 RX4 "CipherBox$BlockCipher" ⟨"CipherBox$BlockCipher", "codeThere", "()V"⟩ yX4_codeThere wsX4_codeThere) := goodIn_app (goodIn_of _ (by decide +kernel)) ggX1_codeEach_X4_codeThere
set_option maxRecDepth 20000 in
theorem ggX1_codeEach_X1_storeFirst : GoodIn wsX1_codeEach wsX1_storeFirst := goodIn_r _ [112, 2, 113, 114, 115, 12, 116, 14, 25, 118, 119, 120, 121, 122, 123, 124, 125, 126, 127, 128, 129] rfl (by decide +kernel)
set_option maxRecDepth 20000 in
theorem gX1_codeEach_X1_storeFirst_u51X0 : GoodIn wsX1_codeEach (va_wsU RX1 51 RX0 "CipherBox$BlockCipher" ⟨"CipherBox$BlockCipher", "storeFirst", "(LCipherBox$Row;I)V"⟩ yX1_storeFirst wsX1_storeFirst) := goodIn_app (goodIn_of _ (by decide +kernel)) ggX1_codeEach_X1_storeFirst
set_option maxRecDepth 20000 in
theorem gX1_codeEach_X1_storeFirst_u51X4 : GoodIn wsX1_codeEach (va_wsU RX1 51 RX4 "CipherBox$BlockCipher" ⟨"CipherBox$BlockCipher", "storeFirst", "(LCipherBox$Row;I)V"⟩ yX1_storeFirst wsX1_storeFirst) := goodIn_app (goodIn_of _ (by decide +kernel)) ggX1_codeEach_X1_storeFirst
theorem dX1_codeEach_0 : decode cX1_codeEach 0 = .ok (.aload_n 0, 1) := by decide +kernel
theorem dX1_codeEach_1 : decode cX1_codeEach 1 = .ok (.aload_n 1, 1) := by decide +kernel
theorem dX1_codeEach_2 : decode cX1_codeEach 2 = .ok (.invokevirtual 37, 3) := by decide +kernel
theorem dX1_codeEach_5 : decode cX1_codeEach 5 = .ok (.istore 4, 2) := by decide +kernel
theorem dX1_codeEach_7 : decode cX1_codeEach 7 = .ok (.iconst 0, 1) := by decide +kernel
theorem dX1_codeEach_8 : decode cX1_codeEach 8 = .ok (.istore 5, 2) := by decide +kernel
theorem dX1_codeEach_10 : decode cX1_codeEach 10 = .ok (.iload 5, 2) := by decide +kernel
theorem dX1_codeEach_12 : decode cX1_codeEach 12 = .ok (.iload 4, 2) := by decide +kernel
theorem dX1_codeEach_14 : decode cX1_codeEach 14 = .ok (.if_icmp .ge 46, 3) := by decide +kernel
theorem dX1_codeEach_17 : decode cX1_codeEach 17 = .ok (.aload_n 0, 1) := by decide +kernel
theorem dX1_codeEach_18 : decode cX1_codeEach 18 = .ok (.aload_n 1, 1) := by decide +kernel
theorem dX1_codeEach_19 : decode cX1_codeEach 19 = .ok (.iload 5, 2) := by decide +kernel
theorem dX1_codeEach_21 : decode cX1_codeEach 21 = .ok (.aload_n 0, 1) := by decide +kernel
theorem dX1_codeEach_22 : decode cX1_codeEach 22 = .ok (.getfield 7, 3) := by decide +kernel
theorem dX1_codeEach_25 : decode cX1_codeEach 25 = .ok (.ishl, 1) := by decide +kernel
theorem dX1_codeEach_26 : decode cX1_codeEach 26 = .ok (.invokevirtual 41, 3) := by decide +kernel
theorem dX1_codeEach_29 : decode cX1_codeEach 29 = .ok (.iload_n 3, 1) := by decide +kernel
theorem dX1_codeEach_30 : decode cX1_codeEach 30 = .ok (.ifCond .eq 10, 3) := by decide +kernel
theorem dX1_codeEach_33 : decode cX1_codeEach 33 = .ok (.aload_n 0, 1) := by decide +kernel
theorem dX1_codeEach_34 : decode cX1_codeEach 34 = .ok (.invokevirtual 45, 3) := by decide +kernel
theorem dX1_codeEach_37 : decode cX1_codeEach 37 = .ok (.goto 7, 3) := by decide +kernel
theorem dX1_codeEach_40 : decode cX1_codeEach 40 = .ok (.aload_n 0, 1) := by decide +kernel
theorem dX1_codeEach_41 : decode cX1_codeEach 41 = .ok (.invokevirtual 48, 3) := by decide +kernel
theorem dX1_codeEach_44 : decode cX1_codeEach 44 = .ok (.aload_n 0, 1) := by decide +kernel
theorem dX1_codeEach_45 : decode cX1_codeEach 45 = .ok (.aload_n 2, 1) := by decide +kernel
theorem dX1_codeEach_46 : decode cX1_codeEach 46 = .ok (.aload_n 0, 1) := by decide +kernel
theorem dX1_codeEach_47 : decode cX1_codeEach 47 = .ok (.getfield 13, 3) := by decide +kernel
theorem dX1_codeEach_50 : decode cX1_codeEach 50 = .ok (.arraylength, 1) := by decide +kernel
theorem dX1_codeEach_51 : decode cX1_codeEach 51 = .ok (.invokevirtual 51, 3) := by decide +kernel
theorem dX1_codeEach_54 : decode cX1_codeEach 54 = .ok (.iinc 5 1, 3) := by decide +kernel
theorem dX1_codeEach_57 : decode cX1_codeEach 57 = .ok (.goto (-47), 3) := by decide +kernel
theorem dX1_codeEach_60 : decode cX1_codeEach 60 = .ok (.return_, 1) := by decide +kernel
set_option maxRecDepth 20000 in
theorem ggX1_chainThere_X1_blocksIn : GoodIn wsX1_chainThere wsX1_blocksIn := goodIn_r _ [8, 1, 9, 10, 11, 12, 13, 14, 107, 108, 109, 110, 111, 112, 113, 114, 115, 116, 117, 118] rfl (by decide +kernel)
set_option maxRecDepth 20000 in
theorem gX1_chainThere_X1_blocksIn_u37X0 : GoodIn wsX1_chainThere (va_wsU RX1 37 RX0 "CipherBox$BlockCipher" ⟨"CipherBox$BlockCipher", "blocksIn", "(LCipherBox$Row;)I"⟩ yX1_blocksIn wsX1_blocksIn) := goodIn_app (goodIn_of _ (by decide +kernel)) ggX1_chainThere_X1_blocksIn
set_option maxRecDepth 20000 in
theorem gX1_chainThere_X1_blocksIn_u37X4 : GoodIn wsX1_chainThere (va_wsU RX1 37 RX4 "CipherBox$BlockCipher" ⟨"CipherBox$BlockCipher", "blocksIn", "(LCipherBox$Row;)I"⟩ yX1_blocksIn wsX1_blocksIn) := goodIn_app (goodIn_of _ (by decide +kernel)) ggX1_chainThere_X1_blocksIn
set_option maxRecDepth 20000 in
theorem ggX1_chainThere_X1_load : GoodIn wsX1_chainThere wsX1_load := goodIn_r _ [20, 2, 21, 22, 23, 12, 24, 14, 25, 107, 108, 109, 110, 111, 112, 113, 114, 115, 116, 117, 118] rfl (by decide +kernel)
set_option maxRecDepth 20000 in
theorem gX1_chainThere_X1_load_u41X0 : GoodIn wsX1_chainThere (va_wsU RX1 41 RX0 "CipherBox$BlockCipher" ⟨"CipherBox$BlockCipher", "load", "(LCipherBox$Row;I)V"⟩ yX1_load wsX1_load) := goodIn_app (goodIn_of _ (by decide +kernel)) ggX1_chainThere_X1_load
set_option maxRecDepth 20000 in
theorem gX1_chainThere_X1_load_u41X4 : GoodIn wsX1_chainThere (va_wsU RX1 41 RX4 "CipherBox$BlockCipher" ⟨"CipherBox$BlockCipher", "load", "(LCipherBox$Row;I)V"⟩ yX1_load wsX1_load) := goodIn_app (goodIn_of _ (by decide +kernel)) ggX1_chainThere_X1_load
set_option maxRecDepth 20000 in
theorem ggX1_chainThere_X1_mix : GoodIn wsX1_chainThere wsX1_mix := goodIn_r _ [31, 2, 21, 22, 23, 12, 24, 14, 25, 107, 108, 109, 110, 111, 112, 113, 114, 115, 116, 117, 118] rfl (by decide +kernel)
set_option maxRecDepth 20000 in
theorem gX1_chainThere_X1_mix_u54X0 : GoodIn wsX1_chainThere (va_wsU RX1 54 RX0 "CipherBox$BlockCipher" ⟨"CipherBox$BlockCipher", "mix", "(LCipherBox$Row;I)V"⟩ yX1_mix wsX1_mix) := goodIn_app (goodIn_of _ (by decide +kernel)) ggX1_chainThere_X1_mix
set_option maxRecDepth 20000 in
theorem gX1_chainThere_X1_mix_u54X4 : GoodIn wsX1_chainThere (va_wsU RX1 54 RX4 "CipherBox$BlockCipher" ⟨"CipherBox$BlockCipher", "mix", "(LCipherBox$Row;I)V"⟩ yX1_mix wsX1_mix) := goodIn_app (goodIn_of _ (by decide +kernel)) ggX1_chainThere_X1_mix
set_option maxRecDepth 20000 in
theorem ggX1_chainThere_X0_codeThere : GoodIn wsX1_chainThere wsX0_codeThere := goodIn_r _ [38, 39, 40, 41, 42, 37, 43, 44, 45, 46, 47, 48, 49, 50, 51, 52, 53, 54, 55, 56, 57, 58, 59, 60, 61, 62, 63, 107, 108, 109, 110, 111, 112, 113, 114, 115, 116] rfl (by decide +kernel)
set_option maxRecDepth 20000 in
theorem gX1_chainThere_X0_codeThere_u48X0 : GoodIn wsX1_chainThere (va_wsU RX1 48 RX0 "CipherBox$BlockCipher" ⟨"CipherBox$BlockCipher", "codeThere", "()V"⟩ yX0_codeThere wsX0_codeThere) := goodIn_app (goodIn_of _ (by decide +kernel)) ggX1_chainThere_X0_codeThere
set_option maxRecDepth 20000 in
theorem ggX1_chainThere_X4_codeThere : GoodIn wsX1_chainThere wsX4_codeThere := goodIn_r _ [67, 68, 69, 70, 71, 72, 73, 74, 66, 75, 76, 77, 78, 79, 80, 81, 82, 83, 84, 85, 86, 87, 88, 89, 90, 91, 92, 93, 94, 95, 96, 113, 114, 115, 116, 107, 108, 109, 110, 111, 112, 119, 120] rfl (by decide +kernel)
set_option maxRecDepth 20000 in
theorem gX1_chainThere_X4_codeThere_u48X4 : GoodIn wsX1_chainThere (va_wsU RX1 48 RX4 "CipherBox$BlockCipher" ⟨"CipherBox$BlockCipher", "codeThere", "()V"⟩ yX4_codeThere wsX4_codeThere) := goodIn_app (goodIn_of _ (by decide +kernel)) ggX1_chainThere_X4_codeThere
set_option maxRecDepth 20000 in
theorem ggX1_chainThere_X1_storeFirst : GoodIn wsX1_chainThere wsX1_storeFirst := goodIn_r _ [101, 2, 102, 103, 104, 12, 105, 14, 25, 107, 108, 109, 110, 111, 112, 113, 114, 115, 116, 117, 118] rfl (by decide +kernel)
set_option maxRecDepth 20000 in
theorem gX1_chainThere_X1_storeFirst_u51X0 : GoodIn wsX1_chainThere (va_wsU RX1 51 RX0 "CipherBox$BlockCipher" ⟨"CipherBox$BlockCipher", "storeFirst", "(LCipherBox$Row;I)V"⟩ yX1_storeFirst wsX1_storeFirst) := goodIn_app (goodIn_of _ (by decide +kernel)) ggX1_chainThere_X1_storeFirst
set_option maxRecDepth 20000 in
theorem gX1_chainThere_X1_storeFirst_u51X4 : GoodIn wsX1_chainThere (va_wsU RX1 51 RX4 "CipherBox$BlockCipher" ⟨"CipherBox$BlockCipher", "storeFirst", "(LCipherBox$Row;I)V"⟩ yX1_storeFirst wsX1_storeFirst) := goodIn_app (goodIn_of _ (by decide +kernel)) ggX1_chainThere_X1_storeFirst
theorem dX1_chainThere_0 : decode cX1_chainThere 0 = .ok (.aload_n 0, 1) := by decide +kernel
theorem dX1_chainThere_1 : decode cX1_chainThere 1 = .ok (.aload_n 1, 1) := by decide +kernel
theorem dX1_chainThere_2 : decode cX1_chainThere 2 = .ok (.invokevirtual 37, 3) := by decide +kernel
theorem dX1_chainThere_5 : decode cX1_chainThere 5 = .ok (.istore 4, 2) := by decide +kernel
theorem dX1_chainThere_7 : decode cX1_chainThere 7 = .ok (.aload_n 0, 1) := by decide +kernel
theorem dX1_chainThere_8 : decode cX1_chainThere 8 = .ok (.aload_n 2, 1) := by decide +kernel
theorem dX1_chainThere_9 : decode cX1_chainThere 9 = .ok (.iconst 0, 1) := by decide +kernel
theorem dX1_chainThere_10 : decode cX1_chainThere 10 = .ok (.invokevirtual 41, 3) := by decide +kernel
theorem dX1_chainThere_13 : decode cX1_chainThere 13 = .ok (.iconst 0, 1) := by decide +kernel
theorem dX1_chainThere_14 : decode cX1_chainThere 14 = .ok (.istore 5, 2) := by decide +kernel
theorem dX1_chainThere_16 : decode cX1_chainThere 16 = .ok (.iload 5, 2) := by decide +kernel
theorem dX1_chainThere_18 : decode cX1_chainThere 18 = .ok (.iload 4, 2) := by decide +kernel
theorem dX1_chainThere_20 : decode cX1_chainThere 20 = .ok (.if_icmp .ge 35, 3) := by decide +kernel
theorem dX1_chainThere_23 : decode cX1_chainThere 23 = .ok (.aload_n 0, 1) := by decide +kernel
theorem dX1_chainThere_24 : decode cX1_chainThere 24 = .ok (.aload_n 1, 1) := by decide +kernel
theorem dX1_chainThere_25 : decode cX1_chainThere 25 = .ok (.iload 5, 2) := by decide +kernel
theorem dX1_chainThere_27 : decode cX1_chainThere 27 = .ok (.aload_n 0, 1) := by decide +kernel
theorem dX1_chainThere_28 : decode cX1_chainThere 28 = .ok (.getfield 7, 3) := by decide +kernel
theorem dX1_chainThere_31 : decode cX1_chainThere 31 = .ok (.ishl, 1) := by decide +kernel
theorem dX1_chainThere_32 : decode cX1_chainThere 32 = .ok (.invokevirtual 54, 3) := by decide +kernel
theorem dX1_chainThere_35 : decode cX1_chainThere 35 = .ok (.aload_n 0, 1) := by decide +kernel
theorem dX1_chainThere_36 : decode cX1_chainThere 36 = .ok (.invokevirtual 48, 3) := by decide +kernel
theorem dX1_chainThere_39 : decode cX1_chainThere 39 = .ok (.aload_n 0, 1) := by decide +kernel
theorem dX1_chainThere_40 : decode cX1_chainThere 40 = .ok (.aload_n 3, 1) := by decide +kernel
theorem dX1_chainThere_41 : decode cX1_chainThere 41 = .ok (.aload_n 0, 1) := by decide +kernel
theorem dX1_chainThere_42 : decode cX1_chainThere 42 = .ok (.getfield 13, 3) := by decide +kernel
theorem dX1_chainThere_45 : decode cX1_chainThere 45 = .ok (.arraylength, 1) := by decide +kernel
theorem dX1_chainThere_46 : decode cX1_chainThere 46 = .ok (.invokevirtual 51, 3) := by decide +kernel
theorem dX1_chainThere_49 : decode cX1_chainThere 49 = .ok (.iinc 5 1, 3) := by decide +kernel
theorem dX1_chainThere_52 : decode cX1_chainThere 52 = .ok (.goto (-36), 3) := by decide +kernel
theorem dX1_chainThere_55 : decode cX1_chainThere 55 = .ok (.return_, 1) := by decide +kernel
set_option maxRecDepth 20000 in
theorem ggX1_chainBack_X1_blocksIn : GoodIn wsX1_chainBack wsX1_blocksIn := goodIn_r _ [8, 1, 9, 10, 11, 12, 13, 14, 111, 112, 113, 114, 115, 116, 117, 118, 119, 120, 121, 122] rfl (by decide +kernel)
set_option maxRecDepth 20000 in
theorem gX1_chainBack_X1_blocksIn_u37X0 : GoodIn wsX1_chainBack (va_wsU RX1 37 RX0 "CipherBox$BlockCipher" ⟨"CipherBox$BlockCipher", "blocksIn", "(LCipherBox$Row;)I"⟩ yX1_blocksIn wsX1_blocksIn) := goodIn_app (goodIn_of _ (by decide +kernel)) ggX1_chainBack_X1_blocksIn
set_option maxRecDepth 20000 in
theorem gX1_chainBack_X1_blocksIn_u37X4 : GoodIn wsX1_chainBack (va_wsU RX1 37 RX4 "CipherBox$BlockCipher" ⟨"CipherBox$BlockCipher", "blocksIn", "(LCipherBox$Row;)I"⟩ yX1_blocksIn wsX1_blocksIn) := goodIn_app (goodIn_of _ (by decide +kernel)) ggX1_chainBack_X1_blocksIn
set_option maxRecDepth 20000 in
theorem ggX1_chainBack_X1_load : GoodIn wsX1_chainBack wsX1_load := goodIn_r _ [20, 2, 21, 22, 23, 12, 24, 14, 25, 111, 112, 113, 114, 115, 116, 117, 118, 119, 120, 121, 122] rfl (by decide +kernel)
set_option maxRecDepth 20000 in
theorem gX1_chainBack_X1_load_u41X0 : GoodIn wsX1_chainBack (va_wsU RX1 41 RX0 "CipherBox$BlockCipher" ⟨"CipherBox$BlockCipher", "load", "(LCipherBox$Row;I)V"⟩ yX1_load wsX1_load) := goodIn_app (goodIn_of _ (by decide +kernel)) ggX1_chainBack_X1_load
set_option maxRecDepth 20000 in
theorem gX1_chainBack_X1_load_u41X4 : GoodIn wsX1_chainBack (va_wsU RX1 41 RX4 "CipherBox$BlockCipher" ⟨"CipherBox$BlockCipher", "load", "(LCipherBox$Row;I)V"⟩ yX1_load wsX1_load) := goodIn_app (goodIn_of _ (by decide +kernel)) ggX1_chainBack_X1_load
set_option maxRecDepth 20000 in
theorem ggX1_chainBack_X0_codeBack : GoodIn wsX1_chainBack wsX0_codeBack := goodIn_r _ [32, 33, 34, 35, 36, 31, 37, 38, 39, 40, 41, 42, 43, 44, 45, 46, 47, 48, 49, 50, 51, 52, 53, 54, 55, 56, 57, 58, 59, 60, 61, 111, 112, 113, 114, 115, 116, 117, 118, 119, 120] rfl (by decide +kernel)
set_option maxRecDepth 20000 in
theorem gX1_chainBack_X0_codeBack_u45X0 : GoodIn wsX1_chainBack (va_wsU RX1 45 RX0 "CipherBox$BlockCipher" ⟨"CipherBox$BlockCipher", "codeBack", "()V"⟩ yX0_codeBack wsX0_codeBack) := goodIn_app (goodIn_of _ (by decide +kernel)) ggX1_chainBack_X0_codeBack
set_option maxRecDepth 20000 in
theorem ggX1_chainBack_X4_codeBack : GoodIn wsX1_chainBack wsX4_codeBack := goodIn_r _ [65, 66, 67, 68, 69, 70, 71, 72, 64, 73, 74, 75, 76, 77, 78, 79, 80, 81, 82, 83, 84, 85, 86, 87, 88, 89, 90, 91, 92, 93, 94, 117, 118, 119, 120, 111, 112, 113, 114, 115, 116, 123, 124] rfl (by decide +kernel)
set_option maxRecDepth 20000 in
theorem gX1_chainBack_X4_codeBack_u45X4 : GoodIn wsX1_chainBack (va_wsU RX1 45 RX4 "CipherBox$BlockCipher" ⟨"CipherBox$BlockCipher", "codeBack", "()V"⟩ yX4_codeBack wsX4_codeBack) := goodIn_app (goodIn_of _ (by decide +kernel)) ggX1_chainBack_X4_codeBack
set_option maxRecDepth 20000 in
theorem ggX1_chainBack_X1_mix : GoodIn wsX1_chainBack wsX1_mix := goodIn_r _ [99, 2, 21, 22, 23, 12, 24, 14, 25, 111, 112, 113, 114, 115, 116, 117, 118, 119, 120, 121, 122] rfl (by decide +kernel)
set_option maxRecDepth 20000 in
theorem gX1_chainBack_X1_mix_u54X0 : GoodIn wsX1_chainBack (va_wsU RX1 54 RX0 "CipherBox$BlockCipher" ⟨"CipherBox$BlockCipher", "mix", "(LCipherBox$Row;I)V"⟩ yX1_mix wsX1_mix) := goodIn_app (goodIn_of _ (by decide +kernel)) ggX1_chainBack_X1_mix
set_option maxRecDepth 20000 in
theorem gX1_chainBack_X1_mix_u54X4 : GoodIn wsX1_chainBack (va_wsU RX1 54 RX4 "CipherBox$BlockCipher" ⟨"CipherBox$BlockCipher", "mix", "(LCipherBox$Row;I)V"⟩ yX1_mix wsX1_mix) := goodIn_app (goodIn_of _ (by decide +kernel)) ggX1_chainBack_X1_mix
set_option maxRecDepth 20000 in
theorem ggX1_chainBack_X1_storeFirst : GoodIn wsX1_chainBack wsX1_storeFirst := goodIn_r _ [105, 2, 106, 107, 108, 12, 109, 14, 25, 111, 112, 113, 114, 115, 116, 117, 118, 119, 120, 121, 122] rfl (by decide +kernel)
set_option maxRecDepth 20000 in
theorem gX1_chainBack_X1_storeFirst_u51X0 : GoodIn wsX1_chainBack (va_wsU RX1 51 RX0 "CipherBox$BlockCipher" ⟨"CipherBox$BlockCipher", "storeFirst", "(LCipherBox$Row;I)V"⟩ yX1_storeFirst wsX1_storeFirst) := goodIn_app (goodIn_of _ (by decide +kernel)) ggX1_chainBack_X1_storeFirst
set_option maxRecDepth 20000 in
theorem gX1_chainBack_X1_storeFirst_u51X4 : GoodIn wsX1_chainBack (va_wsU RX1 51 RX4 "CipherBox$BlockCipher" ⟨"CipherBox$BlockCipher", "storeFirst", "(LCipherBox$Row;I)V"⟩ yX1_storeFirst wsX1_storeFirst) := goodIn_app (goodIn_of _ (by decide +kernel)) ggX1_chainBack_X1_storeFirst
theorem dX1_chainBack_0 : decode cX1_chainBack 0 = .ok (.aload_n 0, 1) := by decide +kernel
theorem dX1_chainBack_1 : decode cX1_chainBack 1 = .ok (.aload_n 1, 1) := by decide +kernel
theorem dX1_chainBack_2 : decode cX1_chainBack 2 = .ok (.invokevirtual 37, 3) := by decide +kernel
theorem dX1_chainBack_5 : decode cX1_chainBack 5 = .ok (.istore 4, 2) := by decide +kernel
theorem dX1_chainBack_7 : decode cX1_chainBack 7 = .ok (.iconst 0, 1) := by decide +kernel
theorem dX1_chainBack_8 : decode cX1_chainBack 8 = .ok (.istore 5, 2) := by decide +kernel
theorem dX1_chainBack_10 : decode cX1_chainBack 10 = .ok (.iload 5, 2) := by decide +kernel
theorem dX1_chainBack_12 : decode cX1_chainBack 12 = .ok (.iload 4, 2) := by decide +kernel
theorem dX1_chainBack_14 : decode cX1_chainBack 14 = .ok (.if_icmp .ge 63, 3) := by decide +kernel
theorem dX1_chainBack_17 : decode cX1_chainBack 17 = .ok (.aload_n 0, 1) := by decide +kernel
theorem dX1_chainBack_18 : decode cX1_chainBack 18 = .ok (.aload_n 1, 1) := by decide +kernel
theorem dX1_chainBack_19 : decode cX1_chainBack 19 = .ok (.iload 5, 2) := by decide +kernel
theorem dX1_chainBack_21 : decode cX1_chainBack 21 = .ok (.aload_n 0, 1) := by decide +kernel
theorem dX1_chainBack_22 : decode cX1_chainBack 22 = .ok (.getfield 7, 3) := by decide +kernel
theorem dX1_chainBack_25 : decode cX1_chainBack 25 = .ok (.ishl, 1) := by decide +kernel
theorem dX1_chainBack_26 : decode cX1_chainBack 26 = .ok (.invokevirtual 41, 3) := by decide +kernel
theorem dX1_chainBack_29 : decode cX1_chainBack 29 = .ok (.aload_n 0, 1) := by decide +kernel
theorem dX1_chainBack_30 : decode cX1_chainBack 30 = .ok (.invokevirtual 45, 3) := by decide +kernel
theorem dX1_chainBack_33 : decode cX1_chainBack 33 = .ok (.iload 5, 2) := by decide +kernel
theorem dX1_chainBack_35 : decode cX1_chainBack 35 = .ok (.ifCond .ne 12, 3) := by decide +kernel
theorem dX1_chainBack_38 : decode cX1_chainBack 38 = .ok (.aload_n 0, 1) := by decide +kernel
theorem dX1_chainBack_39 : decode cX1_chainBack 39 = .ok (.aload_n 2, 1) := by decide +kernel
theorem dX1_chainBack_40 : decode cX1_chainBack 40 = .ok (.iconst 0, 1) := by decide +kernel
theorem dX1_chainBack_41 : decode cX1_chainBack 41 = .ok (.invokevirtual 54, 3) := by decide +kernel
theorem dX1_chainBack_44 : decode cX1_chainBack 44 = .ok (.goto 17, 3) := by decide +kernel
theorem dX1_chainBack_47 : decode cX1_chainBack 47 = .ok (.aload_n 0, 1) := by decide +kernel
theorem dX1_chainBack_48 : decode cX1_chainBack 48 = .ok (.aload_n 1, 1) := by decide +kernel
theorem dX1_chainBack_49 : decode cX1_chainBack 49 = .ok (.iload 5, 2) := by decide +kernel
theorem dX1_chainBack_51 : decode cX1_chainBack 51 = .ok (.iconst 1, 1) := by decide +kernel
theorem dX1_chainBack_52 : decode cX1_chainBack 52 = .ok (.isub, 1) := by decide +kernel
theorem dX1_chainBack_53 : decode cX1_chainBack 53 = .ok (.aload_n 0, 1) := by decide +kernel
theorem dX1_chainBack_54 : decode cX1_chainBack 54 = .ok (.getfield 7, 3) := by decide +kernel
theorem dX1_chainBack_57 : decode cX1_chainBack 57 = .ok (.ishl, 1) := by decide +kernel
theorem dX1_chainBack_58 : decode cX1_chainBack 58 = .ok (.invokevirtual 54, 3) := by decide +kernel
theorem dX1_chainBack_61 : decode cX1_chainBack 61 = .ok (.aload_n 0, 1) := by decide +kernel
theorem dX1_chainBack_62 : decode cX1_chainBack 62 = .ok (.aload_n 3, 1) := by decide +kernel
theorem dX1_chainBack_63 : decode cX1_chainBack 63 = .ok (.aload_n 0, 1) := by decide +kernel
theorem dX1_chainBack_64 : decode cX1_chainBack 64 = .ok (.getfield 13, 3) := by decide +kernel
theorem dX1_chainBack_67 : decode cX1_chainBack 67 = .ok (.arraylength, 1) := by decide +kernel
theorem dX1_chainBack_68 : decode cX1_chainBack 68 = .ok (.invokevirtual 51, 3) := by decide +kernel
theorem dX1_chainBack_71 : decode cX1_chainBack 71 = .ok (.iinc 5 1, 3) := by decide +kernel
theorem dX1_chainBack_74 : decode cX1_chainBack 74 = .ok (.goto (-64), 3) := by decide +kernel
theorem dX1_chainBack_77 : decode cX1_chainBack 77 = .ok (.return_, 1) := by decide +kernel
set_option maxRecDepth 20000 in
theorem ggX1_absorb_X1_mix : GoodIn wsX1_absorb wsX1_mix := goodIn_r _ [7, 8, 9, 10, 11, 12, 13, 14, 15, 81, 82, 83, 84, 85, 86, 87, 88, 89, 90, 91, 92] rfl (by decide +kernel)
set_option maxRecDepth 20000 in
theorem gX1_absorb_X1_mix_u54X0 : GoodIn wsX1_absorb (va_wsU RX1 54 RX0 "CipherBox$BlockCipher" ⟨"CipherBox$BlockCipher", "mix", "(LCipherBox$Row;I)V"⟩ yX1_mix wsX1_mix) := goodIn_app (goodIn_of _ (by decide +kernel)) ggX1_absorb_X1_mix
set_option maxRecDepth 20000 in
theorem gX1_absorb_X1_mix_u54X4 : GoodIn wsX1_absorb (va_wsU RX1 54 RX4 "CipherBox$BlockCipher" ⟨"CipherBox$BlockCipher", "mix", "(LCipherBox$Row;I)V"⟩ yX1_mix wsX1_mix) := goodIn_app (goodIn_of _ (by decide +kernel)) ggX1_absorb_X1_mix
set_option maxRecDepth 20000 in
theorem ggX1_absorb_X0_codeThere : GoodIn wsX1_absorb wsX0_codeThere := goodIn_r _ [22, 23, 24, 25, 26, 21, 27, 28, 29, 30, 31, 32, 33, 34, 35, 36, 37, 38, 39, 40, 41, 42, 43, 44, 45, 46, 47, 81, 82, 83, 84, 85, 86, 87, 88, 89, 90] rfl (by decide +kernel)
set_option maxRecDepth 20000 in
theorem gX1_absorb_X0_codeThere_u48X0 : GoodIn wsX1_absorb (va_wsU RX1 48 RX0 "CipherBox$BlockCipher" ⟨"CipherBox$BlockCipher", "codeThere", "()V"⟩ yX0_codeThere wsX0_codeThere) := goodIn_app (goodIn_of _ (by decide +kernel)) ggX1_absorb_X0_codeThere
set_option maxRecDepth 20000 in
theorem ggX1_absorb_X4_codeThere : GoodIn wsX1_absorb wsX4_codeThere := goodIn_r _ [51, 52, 53, 54, 55, 56, 57, 58, 50, 59, 60, 61, 62, 63, 64, 65, 66, 67, 68, 69, 70, 71, 72, 73, 74, 75, 76, 77, 78, 79, 80, 87, 88, 89, 90, 81, 82, 83, 84, 85, 86, 93, 94] rfl (by decide +kernel)
set_option maxRecDepth 20000 in
theorem gX1_absorb_X4_codeThere_u48X4 : GoodIn wsX1_absorb (va_wsU RX1 48 RX4 "CipherBox$BlockCipher" ⟨"CipherBox$BlockCipher", "codeThere", "()V"⟩ yX4_codeThere wsX4_codeThere) := goodIn_app (goodIn_of _ (by decide +kernel)) ggX1_absorb_X4_codeThere
theorem dX1_absorb_0 : decode cX1_absorb 0 = .ok (.iconst 0, 1) := by decide +kernel
theorem dX1_absorb_1 : decode cX1_absorb 1 = .ok (.istore_n 3, 1) := by decide +kernel
theorem dX1_absorb_2 : decode cX1_absorb 2 = .ok (.iload_n 3, 1) := by decide +kernel
theorem dX1_absorb_3 : decode cX1_absorb 3 = .ok (.iload_n 2, 1) := by decide +kernel
theorem dX1_absorb_4 : decode cX1_absorb 4 = .ok (.if_icmp .ge 24, 3) := by decide +kernel
theorem dX1_absorb_7 : decode cX1_absorb 7 = .ok (.aload_n 0, 1) := by decide +kernel
theorem dX1_absorb_8 : decode cX1_absorb 8 = .ok (.aload_n 1, 1) := by decide +kernel
theorem dX1_absorb_9 : decode cX1_absorb 9 = .ok (.iload_n 3, 1) := by decide +kernel
theorem dX1_absorb_10 : decode cX1_absorb 10 = .ok (.aload_n 0, 1) := by decide +kernel
theorem dX1_absorb_11 : decode cX1_absorb 11 = .ok (.getfield 7, 3) := by decide +kernel
theorem dX1_absorb_14 : decode cX1_absorb 14 = .ok (.ishl, 1) := by decide +kernel
theorem dX1_absorb_15 : decode cX1_absorb 15 = .ok (.invokevirtual 54, 3) := by decide +kernel
theorem dX1_absorb_18 : decode cX1_absorb 18 = .ok (.aload_n 0, 1) := by decide +kernel
theorem dX1_absorb_19 : decode cX1_absorb 19 = .ok (.invokevirtual 48, 3) := by decide +kernel
theorem dX1_absorb_22 : decode cX1_absorb 22 = .ok (.iinc 3 1, 3) := by decide +kernel
theorem dX1_absorb_25 : decode cX1_absorb 25 = .ok (.goto (-23), 3) := by decide +kernel
theorem dX1_absorb_28 : decode cX1_absorb 28 = .ok (.return_, 1) := by decide +kernel
set_option maxRecDepth 20000 in
theorem ggX1_lastOfChain_X1_zero : GoodIn wsX1_lastOfChain wsX1_zero := goodIn_r _ [7, 1, 8, 9, 10, 11, 117, 118, 119, 120, 121, 122, 123, 124, 125, 126] rfl (by decide +kernel)
set_option maxRecDepth 20000 in
theorem gX1_lastOfChain_X1_zero_u57X0 : GoodIn wsX1_lastOfChain (va_wsU RX1 57 RX0 "CipherBox$BlockCipher" ⟨"CipherBox$BlockCipher", "zero", "()V"⟩ yX1_zero wsX1_zero) := goodIn_app (goodIn_of _ (by decide +kernel)) ggX1_lastOfChain_X1_zero
set_option maxRecDepth 20000 in
theorem gX1_lastOfChain_X1_zero_u57X4 : GoodIn wsX1_lastOfChain (va_wsU RX1 57 RX4 "CipherBox$BlockCipher" ⟨"CipherBox$BlockCipher", "zero", "()V"⟩ yX1_zero wsX1_zero) := goodIn_app (goodIn_of _ (by decide +kernel)) ggX1_lastOfChain_X1_zero
set_option maxRecDepth 20000 in
theorem ggX1_lastOfChain_X1_blocksIn : GoodIn wsX1_lastOfChain wsX1_blocksIn := goodIn_r _ [17, 18, 19, 20, 21, 22, 23, 24, 117, 118, 119, 120, 121, 122, 123, 124, 125, 126, 127, 128] rfl (by decide +kernel)
set_option maxRecDepth 20000 in
theorem gX1_lastOfChain_X1_blocksIn_u37X0 : GoodIn wsX1_lastOfChain (va_wsU RX1 37 RX0 "CipherBox$BlockCipher" ⟨"CipherBox$BlockCipher", "blocksIn", "(LCipherBox$Row;)I"⟩ yX1_blocksIn wsX1_blocksIn) := goodIn_app (goodIn_of _ (by decide +kernel)) ggX1_lastOfChain_X1_blocksIn
set_option maxRecDepth 20000 in
theorem gX1_lastOfChain_X1_blocksIn_u37X4 : GoodIn wsX1_lastOfChain (va_wsU RX1 37 RX4 "CipherBox$BlockCipher" ⟨"CipherBox$BlockCipher", "blocksIn", "(LCipherBox$Row;)I"⟩ yX1_blocksIn wsX1_blocksIn) := goodIn_app (goodIn_of _ (by decide +kernel)) ggX1_lastOfChain_X1_blocksIn
set_option maxRecDepth 20000 in
theorem ggX1_lastOfChain_X1_absorb : GoodIn wsX1_lastOfChain wsX1_absorb := goodIn_r _ [30, 18, 31, 32, 33, 34, 6, 35, 1, 36, 37, 38, 22, 39, 24, 40, 41, 42, 43, 44, 45, 46, 47, 48, 49, 50, 51, 52, 53, 54, 55, 56, 57, 58, 59, 60, 61, 62, 63, 64, 65, 66, 67, 68, 69, 70, 71, 72, 73, 74, 75, 76, 77, 78, 79, 80, 81, 82, 83, 84, 85, 86, 87, 88, 89, 90, 91, 92, 93, 94, 95, 96, 97, 98, 99, 100, 101, 102, 103, 104, 105, 117, 118, 119, 120, 121, 122, 123, 124, 125, 126, 127, 128, 129, 130] rfl (by decide +kernel)
set_option maxRecDepth 20000 in
theorem gX1_lastOfChain_X1_absorb_u60X0 : GoodIn wsX1_lastOfChain (va_wsU RX1 60 RX0 "CipherBox$BlockCipher" ⟨"CipherBox$BlockCipher", "absorb", "(LCipherBox$Row;I)V"⟩ yX1_absorb wsX1_absorb) := goodIn_app (goodIn_of _ (by decide +kernel)) ggX1_lastOfChain_X1_absorb
set_option maxRecDepth 20000 in
theorem gX1_lastOfChain_X1_absorb_u60X4 : GoodIn wsX1_lastOfChain (va_wsU RX1 60 RX4 "CipherBox$BlockCipher" ⟨"CipherBox$BlockCipher", "absorb", "(LCipherBox$Row;I)V"⟩ yX1_absorb wsX1_absorb) := goodIn_app (goodIn_of _ (by decide +kernel)) ggX1_lastOfChain_X1_absorb
set_option maxRecDepth 20000 in
theorem ggX1_lastOfChain_X1_storeFirst : GoodIn wsX1_lastOfChain wsX1_storeFirst := goodIn_r _ [111, 1, 112, 113, 114, 22, 115, 24, 40, 117, 118, 119, 120, 121, 122, 123, 124, 125, 126, 127, 128] rfl (by decide +kernel)
set_option maxRecDepth 20000 in
theorem gX1_lastOfChain_X1_storeFirst_u51X0 : GoodIn wsX1_lastOfChain (va_wsU RX1 51 RX0 "CipherBox$BlockCipher" ⟨"CipherBox$BlockCipher", "storeFirst", "(LCipherBox$Row;I)V"⟩ yX1_storeFirst wsX1_storeFirst) := goodIn_app (goodIn_of _ (by decide +kernel)) ggX1_lastOfChain_X1_storeFirst
set_option maxRecDepth 20000 in
theorem gX1_lastOfChain_X1_storeFirst_u51X4 : GoodIn wsX1_lastOfChain (va_wsU RX1 51 RX4 "CipherBox$BlockCipher" ⟨"CipherBox$BlockCipher", "storeFirst", "(LCipherBox$Row;I)V"⟩ yX1_storeFirst wsX1_storeFirst) := goodIn_app (goodIn_of _ (by decide +kernel)) ggX1_lastOfChain_X1_storeFirst
theorem dX1_lastOfChain_0 : decode cX1_lastOfChain 0 = .ok (.aload_n 0, 1) := by decide +kernel
theorem dX1_lastOfChain_1 : decode cX1_lastOfChain 1 = .ok (.invokevirtual 57, 3) := by decide +kernel
theorem dX1_lastOfChain_4 : decode cX1_lastOfChain 4 = .ok (.aload_n 0, 1) := by decide +kernel
theorem dX1_lastOfChain_5 : decode cX1_lastOfChain 5 = .ok (.aload_n 1, 1) := by decide +kernel
theorem dX1_lastOfChain_6 : decode cX1_lastOfChain 6 = .ok (.aload_n 0, 1) := by decide +kernel
theorem dX1_lastOfChain_7 : decode cX1_lastOfChain 7 = .ok (.aload_n 1, 1) := by decide +kernel
theorem dX1_lastOfChain_8 : decode cX1_lastOfChain 8 = .ok (.invokevirtual 37, 3) := by decide +kernel
theorem dX1_lastOfChain_11 : decode cX1_lastOfChain 11 = .ok (.invokevirtual 60, 3) := by decide +kernel
theorem dX1_lastOfChain_14 : decode cX1_lastOfChain 14 = .ok (.aload_n 0, 1) := by decide +kernel
theorem dX1_lastOfChain_15 : decode cX1_lastOfChain 15 = .ok (.aload_n 2, 1) := by decide +kernel
theorem dX1_lastOfChain_16 : decode cX1_lastOfChain 16 = .ok (.aload_n 0, 1) := by decide +kernel
theorem dX1_lastOfChain_17 : decode cX1_lastOfChain 17 = .ok (.getfield 13, 3) := by decide +kernel
theorem dX1_lastOfChain_20 : decode cX1_lastOfChain 20 = .ok (.arraylength, 1) := by decide +kernel
theorem dX1_lastOfChain_21 : decode cX1_lastOfChain 21 = .ok (.invokevirtual 51, 3) := by decide +kernel
theorem dX1_lastOfChain_24 : decode cX1_lastOfChain 24 = .ok (.return_, 1) := by decide +kernel
