set_option maxRecDepth 20000 in
theorem ggX4_init_X1_init : GoodIn wsX4_init wsX1_init := goodIn_r _ [9, 10, 11, 12, 13, 14, 15, 33, 34, 35, 36, 37, 38, 29, 30, 31, 32] rfl (by decide +kernel)
set_option maxRecDepth 20000 in
theorem gX4_init_X1_init : GoodIn wsX4_init (wsX1_init) := ggX4_init_X1_init
set_option maxRecDepth 20000 in
theorem ggX4_init_X3_makeBoxes : GoodIn wsX4_init wsX3_makeBoxes := goodIn_r _ [18, 14, 19, 20] rfl (by decide +kernel)
set_option maxRecDepth 20000 in
theorem gX4_init_X3_makeBoxes : GoodIn wsX4_init (va_wsS RX4 7 yX3_makeBoxes wsX3_makeBoxes) := goodIn_app (goodIn_of _ (by decide +kernel)) ggX4_init_X3_makeBoxes
set_option maxRecDepth 20000 in
theorem ggX4_init_X3_init : GoodIn wsX4_init wsX3_init := goodIn_r _ [23, 24, 11, 12, 14, 25, 26, 27, 28] rfl (by decide +kernel)
set_option maxRecDepth 20000 in
theorem gX4_init_X3_init : GoodIn wsX4_init (wsX3_init) := ggX4_init_X3_init
theorem dX4_init_0 : decode cX4_init 0 = .ok (.aload_n 0, 1) := by decide +kernel
theorem dX4_init_1 : decode cX4_init 1 = .ok (.iconst 3, 1) := by decide +kernel
theorem dX4_init_2 : decode cX4_init 2 = .ok (.invokespecial 1, 3) := by decide +kernel
theorem dX4_init_5 : decode cX4_init 5 = .ok (.invokestatic 7, 3) := by decide +kernel
theorem dX4_init_8 : decode cX4_init 8 = .ok (.astore_n 1, 1) := by decide +kernel
theorem dX4_init_9 : decode cX4_init 9 = .ok (.aload_n 0, 1) := by decide +kernel
theorem dX4_init_10 : decode cX4_init 10 = .ok (.new 8, 3) := by decide +kernel
theorem dX4_init_13 : decode cX4_init 13 = .ok (.dup, 1) := by decide +kernel
theorem dX4_init_14 : decode cX4_init 14 = .ok (.aload_n 1, 1) := by decide +kernel
theorem dX4_init_15 : decode cX4_init 15 = .ok (.invokespecial 13, 3) := by decide +kernel
theorem dX4_init_18 : decode cX4_init 18 = .ok (.putfield 16, 3) := by decide +kernel
theorem dX4_init_21 : decode cX4_init 21 = .ok (.aload_n 0, 1) := by decide +kernel
theorem dX4_init_22 : decode cX4_init 22 = .ok (.new 8, 3) := by decide +kernel
theorem dX4_init_25 : decode cX4_init 25 = .ok (.dup, 1) := by decide +kernel
theorem dX4_init_26 : decode cX4_init 26 = .ok (.aload_n 1, 1) := by decide +kernel
theorem dX4_init_27 : decode cX4_init 27 = .ok (.invokespecial 13, 3) := by decide +kernel
theorem dX4_init_30 : decode cX4_init 30 = .ok (.putfield 22, 3) := by decide +kernel
theorem dX4_init_33 : decode cX4_init 33 = .ok (.return_, 1) := by decide +kernel
set_option maxRecDepth 20000 in
theorem ggX4_schedule_X5_longAt : GoodIn wsX4_schedule wsX5_longAt := goodIn_r _ [7, 8, 9, 10, 11, 6, 12, 13, 14, 15, 16, 17, 18, 39, 40] rfl (by decide +kernel)
set_option maxRecDepth 20000 in
theorem gX4_schedule_X5_longAt : GoodIn wsX4_schedule (wsV RX4 25 RX5 yX5_longAt wsX5_longAt) := goodIn_app (goodIn_of _ (by decide +kernel)) ggX4_schedule_X5_longAt
set_option maxRecDepth 20000 in
theorem ggX4_schedule_X3_schedule : GoodIn wsX4_schedule wsX3_schedule := goodIn_r _ [23, 24, 25, 26, 27, 28, 29, 30, 22, 31, 32, 33, 34, 41, 42] rfl (by decide +kernel)
set_option maxRecDepth 20000 in
theorem gX4_schedule_X3_schedule : GoodIn wsX4_schedule (wsV RX4 31 RX3 yX3_schedule wsX3_schedule) := goodIn_app (goodIn_of _ (by decide +kernel)) ggX4_schedule_X3_schedule
theorem dX4_schedule_0 : decode cX4_schedule 0 = .ok (.aload_n 0, 1) := by decide +kernel
theorem dX4_schedule_1 : decode cX4_schedule 1 = .ok (.getfield 16, 3) := by decide +kernel
theorem dX4_schedule_4 : decode cX4_schedule 4 = .ok (.aload_n 1, 1) := by decide +kernel
theorem dX4_schedule_5 : decode cX4_schedule 5 = .ok (.iconst 0, 1) := by decide +kernel
theorem dX4_schedule_6 : decode cX4_schedule 6 = .ok (.invokevirtual 25, 3) := by decide +kernel
theorem dX4_schedule_9 : decode cX4_schedule 9 = .ok (.invokevirtual 31, 3) := by decide +kernel
theorem dX4_schedule_12 : decode cX4_schedule 12 = .ok (.aload_n 0, 1) := by decide +kernel
theorem dX4_schedule_13 : decode cX4_schedule 13 = .ok (.getfield 22, 3) := by decide +kernel
theorem dX4_schedule_16 : decode cX4_schedule 16 = .ok (.aload_n 1, 1) := by decide +kernel
theorem dX4_schedule_17 : decode cX4_schedule 17 = .ok (.bipush 8, 2) := by decide +kernel
theorem dX4_schedule_19 : decode cX4_schedule 19 = .ok (.invokevirtual 25, 3) := by decide +kernel
theorem dX4_schedule_22 : decode cX4_schedule 22 = .ok (.invokevirtual 31, 3) := by decide +kernel
theorem dX4_schedule_25 : decode cX4_schedule 25 = .ok (.return_, 1) := by decide +kernel
set_option maxRecDepth 20000 in
theorem ggX4_codeThere_X4_gathered : GoodIn wsX4_codeThere wsX4_gathered := goodIn_r _ [9, 10, 11, 35, 36, 37, 38, 39, 40, 31, 32, 33, 34] rfl (by decide +kernel)
set_option maxRecDepth 20000 in
theorem gX4_codeThere_X4_gathered : GoodIn wsX4_codeThere (wsV RX4 35 RX4 yX4_gathered wsX4_gathered) := goodIn_app (goodIn_of _ (by decide +kernel)) ggX4_codeThere_X4_gathered
set_option maxRecDepth 20000 in
theorem ggX4_codeThere_X3_permute : GoodIn wsX4_codeThere wsX3_permute := goodIn_r _ [15] rfl (by decide +kernel)
set_option maxRecDepth 20000 in
theorem gX4_codeThere_X3_permute : GoodIn wsX4_codeThere (va_wsS RX4 43 yX3_permute wsX3_permute) := goodIn_app (goodIn_of _ (by decide +kernel)) ggX4_codeThere_X3_permute
set_option maxRecDepth 20000 in
theorem ggX4_codeThere_X3_rounds : GoodIn wsX4_codeThere wsX3_rounds := goodIn_r _ [19, 20, 21, 22, 23, 14, 24, 25, 26, 41, 42] rfl (by decide +kernel)
set_option maxRecDepth 20000 in
theorem gX4_codeThere_X3_rounds : GoodIn wsX4_codeThere (wsV RX4 47 RX3 yX3_rounds wsX3_rounds) := goodIn_app (goodIn_of _ (by decide +kernel)) ggX4_codeThere_X3_rounds
set_option maxRecDepth 20000 in
theorem ggX4_codeThere_X4_spread : GoodIn wsX4_codeThere wsX4_spread := goodIn_r _ [30, 10, 11, 35, 36, 37, 38, 39, 40, 31, 32, 33, 34] rfl (by decide +kernel)
set_option maxRecDepth 20000 in
theorem gX4_codeThere_X4_spread : GoodIn wsX4_codeThere (wsV RX4 54 RX4 yX4_spread wsX4_spread) := goodIn_app (goodIn_of _ (by decide +kernel)) ggX4_codeThere_X4_spread
theorem dX4_codeThere_0 : decode cX4_codeThere 0 = .ok (.aload_n 0, 1) := by decide +kernel
theorem dX4_codeThere_1 : decode cX4_codeThere 1 = .ok (.invokevirtual 35, 3) := by decide +kernel
theorem dX4_codeThere_4 : decode cX4_codeThere 4 = .ok (.bipush 64, 2) := by decide +kernel
theorem dX4_codeThere_6 : decode cX4_codeThere 6 = .ok (.getstatic 39, 3) := by decide +kernel
theorem dX4_codeThere_9 : decode cX4_codeThere 9 = .ok (.invokestatic 43, 3) := by decide +kernel
theorem dX4_codeThere_12 : decode cX4_codeThere 12 = .ok (.lstore_n 1, 1) := by decide +kernel
theorem dX4_codeThere_13 : decode cX4_codeThere 13 = .ok (.aload_n 0, 1) := by decide +kernel
theorem dX4_codeThere_14 : decode cX4_codeThere 14 = .ok (.getfield 16, 3) := by decide +kernel
theorem dX4_codeThere_17 : decode cX4_codeThere 17 = .ok (.lload_n 1, 1) := by decide +kernel
theorem dX4_codeThere_18 : decode cX4_codeThere 18 = .ok (.iconst 0, 1) := by decide +kernel
theorem dX4_codeThere_19 : decode cX4_codeThere 19 = .ok (.invokevirtual 47, 3) := by decide +kernel
theorem dX4_codeThere_22 : decode cX4_codeThere 22 = .ok (.lstore_n 1, 1) := by decide +kernel
theorem dX4_codeThere_23 : decode cX4_codeThere 23 = .ok (.aload_n 0, 1) := by decide +kernel
theorem dX4_codeThere_24 : decode cX4_codeThere 24 = .ok (.getfield 22, 3) := by decide +kernel
theorem dX4_codeThere_27 : decode cX4_codeThere 27 = .ok (.lload_n 1, 1) := by decide +kernel
theorem dX4_codeThere_28 : decode cX4_codeThere 28 = .ok (.iconst 1, 1) := by decide +kernel
theorem dX4_codeThere_29 : decode cX4_codeThere 29 = .ok (.invokevirtual 47, 3) := by decide +kernel
theorem dX4_codeThere_32 : decode cX4_codeThere 32 = .ok (.lstore_n 1, 1) := by decide +kernel
theorem dX4_codeThere_33 : decode cX4_codeThere 33 = .ok (.aload_n 0, 1) := by decide +kernel
theorem dX4_codeThere_34 : decode cX4_codeThere 34 = .ok (.getfield 16, 3) := by decide +kernel
theorem dX4_codeThere_37 : decode cX4_codeThere 37 = .ok (.lload_n 1, 1) := by decide +kernel
theorem dX4_codeThere_38 : decode cX4_codeThere 38 = .ok (.iconst 0, 1) := by decide +kernel
theorem dX4_codeThere_39 : decode cX4_codeThere 39 = .ok (.invokevirtual 47, 3) := by decide +kernel
theorem dX4_codeThere_42 : decode cX4_codeThere 42 = .ok (.lstore_n 1, 1) := by decide +kernel
theorem dX4_codeThere_43 : decode cX4_codeThere 43 = .ok (.aload_n 0, 1) := by decide +kernel
theorem dX4_codeThere_44 : decode cX4_codeThere 44 = .ok (.lload_n 1, 1) := by decide +kernel
theorem dX4_codeThere_45 : decode cX4_codeThere 45 = .ok (.bipush 64, 2) := by decide +kernel
theorem dX4_codeThere_47 : decode cX4_codeThere 47 = .ok (.getstatic 51, 3) := by decide +kernel
theorem dX4_codeThere_50 : decode cX4_codeThere 50 = .ok (.invokestatic 43, 3) := by decide +kernel
theorem dX4_codeThere_53 : decode cX4_codeThere 53 = .ok (.invokevirtual 54, 3) := by decide +kernel
theorem dX4_codeThere_56 : decode cX4_codeThere 56 = .ok (.return_, 1) := by decide +kernel
set_option maxRecDepth 20000 in
theorem ggX4_codeBack_X4_gathered : GoodIn wsX4_codeBack wsX4_gathered := goodIn_r _ [9, 10, 11, 35, 36, 37, 38, 39, 40, 31, 32, 33, 34] rfl (by decide +kernel)
set_option maxRecDepth 20000 in
theorem gX4_codeBack_X4_gathered : GoodIn wsX4_codeBack (wsV RX4 35 RX4 yX4_gathered wsX4_gathered) := goodIn_app (goodIn_of _ (by decide +kernel)) ggX4_codeBack_X4_gathered
set_option maxRecDepth 20000 in
theorem ggX4_codeBack_X3_permute : GoodIn wsX4_codeBack wsX3_permute := goodIn_r _ [15] rfl (by decide +kernel)
set_option maxRecDepth 20000 in
theorem gX4_codeBack_X3_permute : GoodIn wsX4_codeBack (va_wsS RX4 43 yX3_permute wsX3_permute) := goodIn_app (goodIn_of _ (by decide +kernel)) ggX4_codeBack_X3_permute
set_option maxRecDepth 20000 in
theorem ggX4_codeBack_X3_rounds : GoodIn wsX4_codeBack wsX3_rounds := goodIn_r _ [19, 20, 21, 22, 23, 14, 24, 25, 26, 41, 42] rfl (by decide +kernel)
set_option maxRecDepth 20000 in
theorem gX4_codeBack_X3_rounds : GoodIn wsX4_codeBack (wsV RX4 47 RX3 yX3_rounds wsX3_rounds) := goodIn_app (goodIn_of _ (by decide +kernel)) ggX4_codeBack_X3_rounds
set_option maxRecDepth 20000 in
theorem ggX4_codeBack_X4_spread : GoodIn wsX4_codeBack wsX4_spread := goodIn_r _ [30, 10, 11, 35, 36, 37, 38, 39, 40, 31, 32, 33, 34] rfl (by decide +kernel)
set_option maxRecDepth 20000 in
theorem gX4_codeBack_X4_spread : GoodIn wsX4_codeBack (wsV RX4 54 RX4 yX4_spread wsX4_spread) := goodIn_app (goodIn_of _ (by decide +kernel)) ggX4_codeBack_X4_spread
theorem dX4_codeBack_0 : decode cX4_codeBack 0 = .ok (.aload_n 0, 1) := by decide +kernel
theorem dX4_codeBack_1 : decode cX4_codeBack 1 = .ok (.invokevirtual 35, 3) := by decide +kernel
theorem dX4_codeBack_4 : decode cX4_codeBack 4 = .ok (.bipush 64, 2) := by decide +kernel
theorem dX4_codeBack_6 : decode cX4_codeBack 6 = .ok (.getstatic 39, 3) := by decide +kernel
theorem dX4_codeBack_9 : decode cX4_codeBack 9 = .ok (.invokestatic 43, 3) := by decide +kernel
theorem dX4_codeBack_12 : decode cX4_codeBack 12 = .ok (.lstore_n 1, 1) := by decide +kernel
theorem dX4_codeBack_13 : decode cX4_codeBack 13 = .ok (.aload_n 0, 1) := by decide +kernel
theorem dX4_codeBack_14 : decode cX4_codeBack 14 = .ok (.getfield 16, 3) := by decide +kernel
theorem dX4_codeBack_17 : decode cX4_codeBack 17 = .ok (.lload_n 1, 1) := by decide +kernel
theorem dX4_codeBack_18 : decode cX4_codeBack 18 = .ok (.iconst 1, 1) := by decide +kernel
theorem dX4_codeBack_19 : decode cX4_codeBack 19 = .ok (.invokevirtual 47, 3) := by decide +kernel
theorem dX4_codeBack_22 : decode cX4_codeBack 22 = .ok (.lstore_n 1, 1) := by decide +kernel
theorem dX4_codeBack_23 : decode cX4_codeBack 23 = .ok (.aload_n 0, 1) := by decide +kernel
theorem dX4_codeBack_24 : decode cX4_codeBack 24 = .ok (.getfield 22, 3) := by decide +kernel
theorem dX4_codeBack_27 : decode cX4_codeBack 27 = .ok (.lload_n 1, 1) := by decide +kernel
theorem dX4_codeBack_28 : decode cX4_codeBack 28 = .ok (.iconst 0, 1) := by decide +kernel
theorem dX4_codeBack_29 : decode cX4_codeBack 29 = .ok (.invokevirtual 47, 3) := by decide +kernel
theorem dX4_codeBack_32 : decode cX4_codeBack 32 = .ok (.lstore_n 1, 1) := by decide +kernel
theorem dX4_codeBack_33 : decode cX4_codeBack 33 = .ok (.aload_n 0, 1) := by decide +kernel
theorem dX4_codeBack_34 : decode cX4_codeBack 34 = .ok (.getfield 16, 3) := by decide +kernel
theorem dX4_codeBack_37 : decode cX4_codeBack 37 = .ok (.lload_n 1, 1) := by decide +kernel
theorem dX4_codeBack_38 : decode cX4_codeBack 38 = .ok (.iconst 1, 1) := by decide +kernel
theorem dX4_codeBack_39 : decode cX4_codeBack 39 = .ok (.invokevirtual 47, 3) := by decide +kernel
theorem dX4_codeBack_42 : decode cX4_codeBack 42 = .ok (.lstore_n 1, 1) := by decide +kernel
theorem dX4_codeBack_43 : decode cX4_codeBack 43 = .ok (.aload_n 0, 1) := by decide +kernel
theorem dX4_codeBack_44 : decode cX4_codeBack 44 = .ok (.lload_n 1, 1) := by decide +kernel
theorem dX4_codeBack_45 : decode cX4_codeBack 45 = .ok (.bipush 64, 2) := by decide +kernel
theorem dX4_codeBack_47 : decode cX4_codeBack 47 = .ok (.getstatic 51, 3) := by decide +kernel
theorem dX4_codeBack_50 : decode cX4_codeBack 50 = .ok (.invokestatic 43, 3) := by decide +kernel
theorem dX4_codeBack_53 : decode cX4_codeBack 53 = .ok (.invokevirtual 54, 3) := by decide +kernel
theorem dX4_codeBack_56 : decode cX4_codeBack 56 = .ok (.return_, 1) := by decide +kernel
set_option maxRecDepth 20000 in
theorem ggX4_retail_X1_blocksIn : GoodIn wsX4_retail wsX1_blocksIn := goodIn_r _ [8, 9, 10, 11, 12, 13, 14, 15, 67, 68, 69, 70, 71, 72, 63, 64, 65, 66, 73, 74] rfl (by decide +kernel)
set_option maxRecDepth 20000 in
theorem gX4_retail_X1_blocksIn_u57X4 : GoodIn wsX4_retail (va_wsU RX4 57 RX4 "CipherBox$BlockCipher" ⟨"CipherBox$Des3", "blocksIn", "(LCipherBox$Row;)I"⟩ yX1_blocksIn wsX1_blocksIn) := goodIn_app (goodIn_of _ (by decide +kernel)) ggX4_retail_X1_blocksIn
set_option maxRecDepth 20000 in
theorem ggX4_retail_X5_longAt : GoodIn wsX4_retail wsX5_longAt := goodIn_r _ [19, 20, 21, 22, 23, 13, 24, 25, 26, 27, 28, 15, 29, 73, 74] rfl (by decide +kernel)
set_option maxRecDepth 20000 in
theorem gX4_retail_X5_longAt : GoodIn wsX4_retail (wsV RX4 25 RX5 yX5_longAt wsX5_longAt) := goodIn_app (goodIn_of _ (by decide +kernel)) ggX4_retail_X5_longAt
set_option maxRecDepth 20000 in
theorem ggX4_retail_X3_coded : GoodIn wsX4_retail wsX3_coded := goodIn_r _ [34, 35, 36, 37, 38, 33, 39, 40, 41, 42, 43, 44, 45, 46, 47, 48, 49, 50, 75, 76] rfl (by decide +kernel)
set_option maxRecDepth 20000 in
theorem gX4_retail_X3_coded : GoodIn wsX4_retail (wsV RX4 61 RX3 yX3_coded wsX3_coded) := goodIn_app (goodIn_of _ (by decide +kernel)) ggX4_retail_X3_coded
set_option maxRecDepth 20000 in
theorem ggX4_retail_X5_addLong : GoodIn wsX4_retail wsX5_addLong := goodIn_r _ [54, 55, 56, 57, 13, 58, 59, 60, 61, 62, 15, 29, 73, 74] rfl (by decide +kernel)
set_option maxRecDepth 20000 in
theorem gX4_retail_X5_addLong : GoodIn wsX4_retail (wsV RX4 64 RX5 yX5_addLong wsX5_addLong) := goodIn_app (goodIn_of _ (by decide +kernel)) ggX4_retail_X5_addLong
theorem dX4_retail_0 : decode cX4_retail 0 = .ok (.aload_n 0, 1) := by decide +kernel
theorem dX4_retail_1 : decode cX4_retail 1 = .ok (.aload_n 1, 1) := by decide +kernel
theorem dX4_retail_2 : decode cX4_retail 2 = .ok (.invokevirtual 57, 3) := by decide +kernel
theorem dX4_retail_5 : decode cX4_retail 5 = .ok (.istore 4, 2) := by decide +kernel
theorem dX4_retail_7 : decode cX4_retail 7 = .ok (.aload_n 2, 1) := by decide +kernel
theorem dX4_retail_8 : decode cX4_retail 8 = .ok (.iconst 0, 1) := by decide +kernel
theorem dX4_retail_9 : decode cX4_retail 9 = .ok (.invokevirtual 25, 3) := by decide +kernel
theorem dX4_retail_12 : decode cX4_retail 12 = .ok (.lstore 5, 2) := by decide +kernel
theorem dX4_retail_14 : decode cX4_retail 14 = .ok (.iconst 0, 1) := by decide +kernel
theorem dX4_retail_15 : decode cX4_retail 15 = .ok (.istore 7, 2) := by decide +kernel
theorem dX4_retail_17 : decode cX4_retail 17 = .ok (.iload 7, 2) := by decide +kernel
theorem dX4_retail_19 : decode cX4_retail 19 = .ok (.iload 4, 2) := by decide +kernel
theorem dX4_retail_21 : decode cX4_retail 21 = .ok (.if_icmp .ge 31, 3) := by decide +kernel
theorem dX4_retail_24 : decode cX4_retail 24 = .ok (.aload_n 0, 1) := by decide +kernel
theorem dX4_retail_25 : decode cX4_retail 25 = .ok (.getfield 16, 3) := by decide +kernel
theorem dX4_retail_28 : decode cX4_retail 28 = .ok (.lload 5, 2) := by decide +kernel
theorem dX4_retail_30 : decode cX4_retail 30 = .ok (.aload_n 1, 1) := by decide +kernel
theorem dX4_retail_31 : decode cX4_retail 31 = .ok (.bipush 8, 2) := by decide +kernel
theorem dX4_retail_33 : decode cX4_retail 33 = .ok (.iload 7, 2) := by decide +kernel
theorem dX4_retail_35 : decode cX4_retail 35 = .ok (.imul, 1) := by decide +kernel
theorem dX4_retail_36 : decode cX4_retail 36 = .ok (.invokevirtual 25, 3) := by decide +kernel
theorem dX4_retail_39 : decode cX4_retail 39 = .ok (.lxor, 1) := by decide +kernel
theorem dX4_retail_40 : decode cX4_retail 40 = .ok (.iconst 0, 1) := by decide +kernel
theorem dX4_retail_41 : decode cX4_retail 41 = .ok (.invokevirtual 61, 3) := by decide +kernel
theorem dX4_retail_44 : decode cX4_retail 44 = .ok (.lstore 5, 2) := by decide +kernel
theorem dX4_retail_46 : decode cX4_retail 46 = .ok (.iinc 7 1, 3) := by decide +kernel
theorem dX4_retail_49 : decode cX4_retail 49 = .ok (.goto (-32), 3) := by decide +kernel
theorem dX4_retail_52 : decode cX4_retail 52 = .ok (.aload_n 0, 1) := by decide +kernel
theorem dX4_retail_53 : decode cX4_retail 53 = .ok (.getfield 22, 3) := by decide +kernel
theorem dX4_retail_56 : decode cX4_retail 56 = .ok (.lload 5, 2) := by decide +kernel
theorem dX4_retail_58 : decode cX4_retail 58 = .ok (.iconst 1, 1) := by decide +kernel
theorem dX4_retail_59 : decode cX4_retail 59 = .ok (.invokevirtual 61, 3) := by decide +kernel
theorem dX4_retail_62 : decode cX4_retail 62 = .ok (.lstore 5, 2) := by decide +kernel
theorem dX4_retail_64 : decode cX4_retail 64 = .ok (.aload_n 3, 1) := by decide +kernel
theorem dX4_retail_65 : decode cX4_retail 65 = .ok (.aload_n 0, 1) := by decide +kernel
theorem dX4_retail_66 : decode cX4_retail 66 = .ok (.getfield 16, 3) := by decide +kernel
theorem dX4_retail_69 : decode cX4_retail 69 = .ok (.lload 5, 2) := by decide +kernel
theorem dX4_retail_71 : decode cX4_retail 71 = .ok (.iconst 0, 1) := by decide +kernel
theorem dX4_retail_72 : decode cX4_retail 72 = .ok (.invokevirtual 61, 3) := by decide +kernel
theorem dX4_retail_75 : decode cX4_retail 75 = .ok (.invokevirtual 64, 3) := by decide +kernel
theorem dX4_retail_78 : decode cX4_retail 78 = .ok (.return_, 1) := by decide +kernel
theorem dX4_gathered_0 : decode cX4_gathered 0 = .ok (.lconst 0, 1) := by decide +kernel
theorem dX4_gathered_1 : decode cX4_gathered 1 = .ok (.lstore_n 1, 1) := by decide +kernel
theorem dX4_gathered_2 : decode cX4_gathered 2 = .ok (.aload_n 0, 1) := by decide +kernel
theorem dX4_gathered_3 : decode cX4_gathered 3 = .ok (.getfield 67, 3) := by decide +kernel
theorem dX4_gathered_6 : decode cX4_gathered 6 = .ok (.astore_n 3, 1) := by decide +kernel
theorem dX4_gathered_7 : decode cX4_gathered 7 = .ok (.aload_n 3, 1) := by decide +kernel
theorem dX4_gathered_8 : decode cX4_gathered 8 = .ok (.arraylength, 1) := by decide +kernel
theorem dX4_gathered_9 : decode cX4_gathered 9 = .ok (.istore 4, 2) := by decide +kernel
theorem dX4_gathered_11 : decode cX4_gathered 11 = .ok (.iconst 0, 1) := by decide +kernel
theorem dX4_gathered_12 : decode cX4_gathered 12 = .ok (.istore 5, 2) := by decide +kernel
theorem dX4_gathered_14 : decode cX4_gathered 14 = .ok (.iload 5, 2) := by decide +kernel
theorem dX4_gathered_16 : decode cX4_gathered 16 = .ok (.iload 4, 2) := by decide +kernel
theorem dX4_gathered_18 : decode cX4_gathered 18 = .ok (.if_icmp .ge 28, 3) := by decide +kernel
theorem dX4_gathered_21 : decode cX4_gathered 21 = .ok (.aload_n 3, 1) := by decide +kernel
theorem dX4_gathered_22 : decode cX4_gathered 22 = .ok (.iload 5, 2) := by decide +kernel
theorem dX4_gathered_24 : decode cX4_gathered 24 = .ok (.iaload, 1) := by decide +kernel
theorem dX4_gathered_25 : decode cX4_gathered 25 = .ok (.istore 6, 2) := by decide +kernel
theorem dX4_gathered_27 : decode cX4_gathered 27 = .ok (.lload_n 1, 1) := by decide +kernel
theorem dX4_gathered_28 : decode cX4_gathered 28 = .ok (.bipush 8, 2) := by decide +kernel
theorem dX4_gathered_30 : decode cX4_gathered 30 = .ok (.lshl, 1) := by decide +kernel
theorem dX4_gathered_31 : decode cX4_gathered 31 = .ok (.iload 6, 2) := by decide +kernel
theorem dX4_gathered_33 : decode cX4_gathered 33 = .ok (.sipush 255, 3) := by decide +kernel
theorem dX4_gathered_36 : decode cX4_gathered 36 = .ok (.iand, 1) := by decide +kernel
theorem dX4_gathered_37 : decode cX4_gathered 37 = .ok (.i2l, 1) := by decide +kernel
theorem dX4_gathered_38 : decode cX4_gathered 38 = .ok (.lor, 1) := by decide +kernel
theorem dX4_gathered_39 : decode cX4_gathered 39 = .ok (.lstore_n 1, 1) := by decide +kernel
theorem dX4_gathered_40 : decode cX4_gathered 40 = .ok (.iinc 5 1, 3) := by decide +kernel
theorem dX4_gathered_43 : decode cX4_gathered 43 = .ok (.goto (-29), 3) := by decide +kernel
theorem dX4_gathered_46 : decode cX4_gathered 46 = .ok (.lload_n 1, 1) := by decide +kernel
theorem dX4_gathered_47 : decode cX4_gathered 47 = .ok (.lreturn, 1) := by decide +kernel
theorem dX4_spread_0 : decode cX4_spread 0 = .ok (.lload_n 1, 1) := by decide +kernel
theorem dX4_spread_1 : decode cX4_spread 1 = .ok (.lstore_n 3, 1) := by decide +kernel
theorem dX4_spread_2 : decode cX4_spread 2 = .ok (.aload_n 0, 1) := by decide +kernel
theorem dX4_spread_3 : decode cX4_spread 3 = .ok (.getfield 67, 3) := by decide +kernel
theorem dX4_spread_6 : decode cX4_spread 6 = .ok (.arraylength, 1) := by decide +kernel
theorem dX4_spread_7 : decode cX4_spread 7 = .ok (.iconst 1, 1) := by decide +kernel
theorem dX4_spread_8 : decode cX4_spread 8 = .ok (.isub, 1) := by decide +kernel
theorem dX4_spread_9 : decode cX4_spread 9 = .ok (.istore 5, 2) := by decide +kernel
theorem dX4_spread_11 : decode cX4_spread 11 = .ok (.iload 5, 2) := by decide +kernel
theorem dX4_spread_13 : decode cX4_spread 13 = .ok (.ifCond .lt 27, 3) := by decide +kernel
theorem dX4_spread_16 : decode cX4_spread 16 = .ok (.aload_n 0, 1) := by decide +kernel
theorem dX4_spread_17 : decode cX4_spread 17 = .ok (.getfield 67, 3) := by decide +kernel
theorem dX4_spread_20 : decode cX4_spread 20 = .ok (.iload 5, 2) := by decide +kernel
theorem dX4_spread_22 : decode cX4_spread 22 = .ok (.lload_n 3, 1) := by decide +kernel
theorem dX4_spread_23 : decode cX4_spread 23 = .ok (.l2i, 1) := by decide +kernel
theorem dX4_spread_24 : decode cX4_spread 24 = .ok (.sipush 255, 3) := by decide +kernel
theorem dX4_spread_27 : decode cX4_spread 27 = .ok (.iand, 1) := by decide +kernel
theorem dX4_spread_28 : decode cX4_spread 28 = .ok (.iastore, 1) := by decide +kernel
theorem dX4_spread_29 : decode cX4_spread 29 = .ok (.lload_n 3, 1) := by decide +kernel
theorem dX4_spread_30 : decode cX4_spread 30 = .ok (.bipush 8, 2) := by decide +kernel
theorem dX4_spread_32 : decode cX4_spread 32 = .ok (.lushr, 1) := by decide +kernel
theorem dX4_spread_33 : decode cX4_spread 33 = .ok (.lstore_n 3, 1) := by decide +kernel
theorem dX4_spread_34 : decode cX4_spread 34 = .ok (.iinc 5 (-1), 3) := by decide +kernel
theorem dX4_spread_37 : decode cX4_spread 37 = .ok (.goto (-26), 3) := by decide +kernel
theorem dX4_spread_40 : decode cX4_spread 40 = .ok (.return_, 1) := by decide +kernel
