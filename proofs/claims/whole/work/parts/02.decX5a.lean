theorem dX5_init_0 : decode cX5_init 0 = .ok (.aload_n 0, 1) := by decide +kernel
theorem dX5_init_1 : decode cX5_init 1 = .ok (.invokespecial 3, 3) := by decide +kernel
theorem dX5_init_4 : decode cX5_init 4 = .ok (.aload_n 0, 1) := by decide +kernel
theorem dX5_init_5 : decode cX5_init 5 = .ok (.iload_n 1, 1) := by decide +kernel
theorem dX5_init_6 : decode cX5_init 6 = .ok (.iconst 0, 1) := by decide +kernel
theorem dX5_init_7 : decode cX5_init 7 = .ok (.invokestatic 9, 3) := by decide +kernel
theorem dX5_init_10 : decode cX5_init 10 = .ok (.newarray .int, 2) := by decide +kernel
theorem dX5_init_12 : decode cX5_init 12 = .ok (.putfield 15, 3) := by decide +kernel
theorem dX5_init_15 : decode cX5_init 15 = .ok (.return_, 1) := by decide +kernel
theorem dX5_size_0 : decode cX5_size 0 = .ok (.aload_n 0, 1) := by decide +kernel
theorem dX5_size_1 : decode cX5_size 1 = .ok (.getfield 21, 3) := by decide +kernel
theorem dX5_size_4 : decode cX5_size 4 = .ok (.ireturn, 1) := by decide +kernel
theorem dX5_room_0 : decode cX5_room 0 = .ok (.aload_n 0, 1) := by decide +kernel
theorem dX5_room_1 : decode cX5_room 1 = .ok (.getfield 15, 3) := by decide +kernel
theorem dX5_room_4 : decode cX5_room 4 = .ok (.arraylength, 1) := by decide +kernel
theorem dX5_room_5 : decode cX5_room 5 = .ok (.aload_n 0, 1) := by decide +kernel
theorem dX5_room_6 : decode cX5_room 6 = .ok (.getfield 21, 3) := by decide +kernel
theorem dX5_room_9 : decode cX5_room 9 = .ok (.isub, 1) := by decide +kernel
theorem dX5_room_10 : decode cX5_room 10 = .ok (.ireturn, 1) := by decide +kernel
theorem dX5_at_0 : decode cX5_at 0 = .ok (.iload_n 1, 1) := by decide +kernel
theorem dX5_at_1 : decode cX5_at 1 = .ok (.ifCond .lt 20, 3) := by decide +kernel
theorem dX5_at_4 : decode cX5_at 4 = .ok (.iload_n 1, 1) := by decide +kernel
theorem dX5_at_5 : decode cX5_at 5 = .ok (.aload_n 0, 1) := by decide +kernel
theorem dX5_at_6 : decode cX5_at 6 = .ok (.getfield 21, 3) := by decide +kernel
theorem dX5_at_9 : decode cX5_at 9 = .ok (.if_icmp .ge 12, 3) := by decide +kernel
theorem dX5_at_12 : decode cX5_at 12 = .ok (.aload_n 0, 1) := by decide +kernel
theorem dX5_at_13 : decode cX5_at 13 = .ok (.getfield 15, 3) := by decide +kernel
theorem dX5_at_16 : decode cX5_at 16 = .ok (.iload_n 1, 1) := by decide +kernel
theorem dX5_at_17 : decode cX5_at 17 = .ok (.iaload, 1) := by decide +kernel
theorem dX5_at_18 : decode cX5_at 18 = .ok (.goto 4, 3) := by decide +kernel
theorem dX5_at_21 : decode cX5_at 21 = .ok (.iconst 0, 1) := by decide +kernel
theorem dX5_at_22 : decode cX5_at 22 = .ok (.ireturn, 1) := by decide +kernel
set_option maxRecDepth 20000 in
theorem ggX5_wordAt_X5_at : GoodIn wsX5_wordAt wsX5_at := goodIn_r _ [5, 6, 7, 8, 9] rfl (by decide +kernel)
set_option maxRecDepth 20000 in
theorem gX5_wordAt_X5_at : GoodIn wsX5_wordAt (wsV RX5 25 RX5 yX5_at wsX5_at) := goodIn_app (goodIn_of _ (by decide +kernel)) ggX5_wordAt_X5_at
theorem dX5_wordAt_0 : decode cX5_wordAt 0 = .ok (.aload_n 0, 1) := by decide +kernel
theorem dX5_wordAt_1 : decode cX5_wordAt 1 = .ok (.iload_n 1, 1) := by decide +kernel
theorem dX5_wordAt_2 : decode cX5_wordAt 2 = .ok (.invokevirtual 25, 3) := by decide +kernel
theorem dX5_wordAt_5 : decode cX5_wordAt 5 = .ok (.bipush 24, 2) := by decide +kernel
theorem dX5_wordAt_7 : decode cX5_wordAt 7 = .ok (.ishl, 1) := by decide +kernel
theorem dX5_wordAt_8 : decode cX5_wordAt 8 = .ok (.aload_n 0, 1) := by decide +kernel
theorem dX5_wordAt_9 : decode cX5_wordAt 9 = .ok (.iload_n 1, 1) := by decide +kernel
theorem dX5_wordAt_10 : decode cX5_wordAt 10 = .ok (.iconst 1, 1) := by decide +kernel
theorem dX5_wordAt_11 : decode cX5_wordAt 11 = .ok (.iadd, 1) := by decide +kernel
theorem dX5_wordAt_12 : decode cX5_wordAt 12 = .ok (.invokevirtual 25, 3) := by decide +kernel
theorem dX5_wordAt_15 : decode cX5_wordAt 15 = .ok (.bipush 16, 2) := by decide +kernel
theorem dX5_wordAt_17 : decode cX5_wordAt 17 = .ok (.ishl, 1) := by decide +kernel
theorem dX5_wordAt_18 : decode cX5_wordAt 18 = .ok (.ior, 1) := by decide +kernel
theorem dX5_wordAt_19 : decode cX5_wordAt 19 = .ok (.aload_n 0, 1) := by decide +kernel
theorem dX5_wordAt_20 : decode cX5_wordAt 20 = .ok (.iload_n 1, 1) := by decide +kernel
theorem dX5_wordAt_21 : decode cX5_wordAt 21 = .ok (.iconst 2, 1) := by decide +kernel
theorem dX5_wordAt_22 : decode cX5_wordAt 22 = .ok (.iadd, 1) := by decide +kernel
theorem dX5_wordAt_23 : decode cX5_wordAt 23 = .ok (.invokevirtual 25, 3) := by decide +kernel
theorem dX5_wordAt_26 : decode cX5_wordAt 26 = .ok (.bipush 8, 2) := by decide +kernel
theorem dX5_wordAt_28 : decode cX5_wordAt 28 = .ok (.ishl, 1) := by decide +kernel
theorem dX5_wordAt_29 : decode cX5_wordAt 29 = .ok (.ior, 1) := by decide +kernel
theorem dX5_wordAt_30 : decode cX5_wordAt 30 = .ok (.aload_n 0, 1) := by decide +kernel
theorem dX5_wordAt_31 : decode cX5_wordAt 31 = .ok (.iload_n 1, 1) := by decide +kernel
theorem dX5_wordAt_32 : decode cX5_wordAt 32 = .ok (.iconst 3, 1) := by decide +kernel
theorem dX5_wordAt_33 : decode cX5_wordAt 33 = .ok (.iadd, 1) := by decide +kernel
theorem dX5_wordAt_34 : decode cX5_wordAt 34 = .ok (.invokevirtual 25, 3) := by decide +kernel
theorem dX5_wordAt_37 : decode cX5_wordAt 37 = .ok (.ior, 1) := by decide +kernel
theorem dX5_wordAt_38 : decode cX5_wordAt 38 = .ok (.ireturn, 1) := by decide +kernel
set_option maxRecDepth 20000 in
theorem ggX5_longAt_X5_wordAt : GoodIn wsX5_longAt wsX5_wordAt := goodIn_r _ [6, 7, 8, 9, 5, 10, 11, 12, 13, 14] rfl (by decide +kernel)
set_option maxRecDepth 20000 in
theorem gX5_longAt_X5_wordAt : GoodIn wsX5_longAt (wsV RX5 29 RX5 yX5_wordAt wsX5_wordAt) := goodIn_app (goodIn_of _ (by decide +kernel)) ggX5_longAt_X5_wordAt
theorem dX5_longAt_0 : decode cX5_longAt 0 = .ok (.aload_n 0, 1) := by decide +kernel
theorem dX5_longAt_1 : decode cX5_longAt 1 = .ok (.iload_n 1, 1) := by decide +kernel
theorem dX5_longAt_2 : decode cX5_longAt 2 = .ok (.invokevirtual 29, 3) := by decide +kernel
theorem dX5_longAt_5 : decode cX5_longAt 5 = .ok (.i2l, 1) := by decide +kernel
theorem dX5_longAt_6 : decode cX5_longAt 6 = .ok (.bipush 32, 2) := by decide +kernel
theorem dX5_longAt_8 : decode cX5_longAt 8 = .ok (.lshl, 1) := by decide +kernel
theorem dX5_longAt_9 : decode cX5_longAt 9 = .ok (.aload_n 0, 1) := by decide +kernel
theorem dX5_longAt_10 : decode cX5_longAt 10 = .ok (.iload_n 1, 1) := by decide +kernel
theorem dX5_longAt_11 : decode cX5_longAt 11 = .ok (.iconst 4, 1) := by decide +kernel
theorem dX5_longAt_12 : decode cX5_longAt 12 = .ok (.iadd, 1) := by decide +kernel
theorem dX5_longAt_13 : decode cX5_longAt 13 = .ok (.invokevirtual 29, 3) := by decide +kernel
theorem dX5_longAt_16 : decode cX5_longAt 16 = .ok (.i2l, 1) := by decide +kernel
theorem dX5_longAt_17 : decode cX5_longAt 17 = .ok (.ldc2_w 32, 3) := by decide +kernel
theorem dX5_longAt_20 : decode cX5_longAt 20 = .ok (.land, 1) := by decide +kernel
theorem dX5_longAt_21 : decode cX5_longAt 21 = .ok (.lor, 1) := by decide +kernel
theorem dX5_longAt_22 : decode cX5_longAt 22 = .ok (.lreturn, 1) := by decide +kernel
theorem dX5_add_0 : decode cX5_add 0 = .ok (.aload_n 0, 1) := by decide +kernel
theorem dX5_add_1 : decode cX5_add 1 = .ok (.getfield 21, 3) := by decide +kernel
theorem dX5_add_4 : decode cX5_add 4 = .ok (.aload_n 0, 1) := by decide +kernel
theorem dX5_add_5 : decode cX5_add 5 = .ok (.getfield 15, 3) := by decide +kernel
theorem dX5_add_8 : decode cX5_add 8 = .ok (.arraylength, 1) := by decide +kernel
theorem dX5_add_9 : decode cX5_add 9 = .ok (.if_icmp .ge 27, 3) := by decide +kernel
theorem dX5_add_12 : decode cX5_add 12 = .ok (.aload_n 0, 1) := by decide +kernel
theorem dX5_add_13 : decode cX5_add 13 = .ok (.getfield 15, 3) := by decide +kernel
theorem dX5_add_16 : decode cX5_add 16 = .ok (.aload_n 0, 1) := by decide +kernel
theorem dX5_add_17 : decode cX5_add 17 = .ok (.getfield 21, 3) := by decide +kernel
theorem dX5_add_20 : decode cX5_add 20 = .ok (.iload_n 1, 1) := by decide +kernel
theorem dX5_add_21 : decode cX5_add 21 = .ok (.sipush 255, 3) := by decide +kernel
theorem dX5_add_24 : decode cX5_add 24 = .ok (.iand, 1) := by decide +kernel
theorem dX5_add_25 : decode cX5_add 25 = .ok (.iastore, 1) := by decide +kernel
theorem dX5_add_26 : decode cX5_add 26 = .ok (.aload_n 0, 1) := by decide +kernel
theorem dX5_add_27 : decode cX5_add 27 = .ok (.dup, 1) := by decide +kernel
theorem dX5_add_28 : decode cX5_add 28 = .ok (.getfield 21, 3) := by decide +kernel
theorem dX5_add_31 : decode cX5_add 31 = .ok (.iconst 1, 1) := by decide +kernel
theorem dX5_add_32 : decode cX5_add 32 = .ok (.iadd, 1) := by decide +kernel
theorem dX5_add_33 : decode cX5_add 33 = .ok (.putfield 21, 3) := by decide +kernel
theorem dX5_add_36 : decode cX5_add 36 = .ok (.return_, 1) := by decide +kernel
set_option maxRecDepth 20000 in
theorem ggX5_addWord_X5_add : GoodIn wsX5_addWord wsX5_add := goodIn_r _ [5, 6, 7, 8, 9] rfl (by decide +kernel)
set_option maxRecDepth 20000 in
theorem gX5_addWord_X5_add : GoodIn wsX5_addWord (wsV RX5 34 RX5 yX5_add wsX5_add) := goodIn_app (goodIn_of _ (by decide +kernel)) ggX5_addWord_X5_add
theorem dX5_addWord_0 : decode cX5_addWord 0 = .ok (.aload_n 0, 1) := by decide +kernel
theorem dX5_addWord_1 : decode cX5_addWord 1 = .ok (.iload_n 1, 1) := by decide +kernel
theorem dX5_addWord_2 : decode cX5_addWord 2 = .ok (.bipush 24, 2) := by decide +kernel
theorem dX5_addWord_4 : decode cX5_addWord 4 = .ok (.iushr, 1) := by decide +kernel
theorem dX5_addWord_5 : decode cX5_addWord 5 = .ok (.invokevirtual 34, 3) := by decide +kernel
theorem dX5_addWord_8 : decode cX5_addWord 8 = .ok (.aload_n 0, 1) := by decide +kernel
theorem dX5_addWord_9 : decode cX5_addWord 9 = .ok (.iload_n 1, 1) := by decide +kernel
theorem dX5_addWord_10 : decode cX5_addWord 10 = .ok (.bipush 16, 2) := by decide +kernel
theorem dX5_addWord_12 : decode cX5_addWord 12 = .ok (.iushr, 1) := by decide +kernel
theorem dX5_addWord_13 : decode cX5_addWord 13 = .ok (.invokevirtual 34, 3) := by decide +kernel
theorem dX5_addWord_16 : decode cX5_addWord 16 = .ok (.aload_n 0, 1) := by decide +kernel
theorem dX5_addWord_17 : decode cX5_addWord 17 = .ok (.iload_n 1, 1) := by decide +kernel
theorem dX5_addWord_18 : decode cX5_addWord 18 = .ok (.bipush 8, 2) := by decide +kernel
theorem dX5_addWord_20 : decode cX5_addWord 20 = .ok (.iushr, 1) := by decide +kernel
theorem dX5_addWord_21 : decode cX5_addWord 21 = .ok (.invokevirtual 34, 3) := by decide +kernel
theorem dX5_addWord_24 : decode cX5_addWord 24 = .ok (.aload_n 0, 1) := by decide +kernel
theorem dX5_addWord_25 : decode cX5_addWord 25 = .ok (.iload_n 1, 1) := by decide +kernel
theorem dX5_addWord_26 : decode cX5_addWord 26 = .ok (.invokevirtual 34, 3) := by decide +kernel
theorem dX5_addWord_29 : decode cX5_addWord 29 = .ok (.return_, 1) := by decide +kernel
set_option maxRecDepth 20000 in
theorem ggX5_addLong_X5_addWord : GoodIn wsX5_addLong wsX5_addWord := goodIn_r _ [5, 6, 7, 8, 4, 9, 10, 11, 12, 13] rfl (by decide +kernel)
set_option maxRecDepth 20000 in
theorem gX5_addLong_X5_addWord : GoodIn wsX5_addLong (wsV RX5 38 RX5 yX5_addWord wsX5_addWord) := goodIn_app (goodIn_of _ (by decide +kernel)) ggX5_addLong_X5_addWord
theorem dX5_addLong_0 : decode cX5_addLong 0 = .ok (.aload_n 0, 1) := by decide +kernel
theorem dX5_addLong_1 : decode cX5_addLong 1 = .ok (.lload_n 1, 1) := by decide +kernel
theorem dX5_addLong_2 : decode cX5_addLong 2 = .ok (.bipush 32, 2) := by decide +kernel
theorem dX5_addLong_4 : decode cX5_addLong 4 = .ok (.lushr, 1) := by decide +kernel
theorem dX5_addLong_5 : decode cX5_addLong 5 = .ok (.l2i, 1) := by decide +kernel
theorem dX5_addLong_6 : decode cX5_addLong 6 = .ok (.invokevirtual 38, 3) := by decide +kernel
theorem dX5_addLong_9 : decode cX5_addLong 9 = .ok (.aload_n 0, 1) := by decide +kernel
theorem dX5_addLong_10 : decode cX5_addLong 10 = .ok (.lload_n 1, 1) := by decide +kernel
theorem dX5_addLong_11 : decode cX5_addLong 11 = .ok (.l2i, 1) := by decide +kernel
theorem dX5_addLong_12 : decode cX5_addLong 12 = .ok (.invokevirtual 38, 3) := by decide +kernel
theorem dX5_addLong_15 : decode cX5_addLong 15 = .ok (.return_, 1) := by decide +kernel
set_option maxRecDepth 20000 in
theorem ggX5_addZeros_X5_add : GoodIn wsX5_addZeros wsX5_add := goodIn_r _ [5, 6, 7, 8, 9] rfl (by decide +kernel)
set_option maxRecDepth 20000 in
theorem gX5_addZeros_X5_add : GoodIn wsX5_addZeros (wsV RX5 34 RX5 yX5_add wsX5_add) := goodIn_app (goodIn_of _ (by decide +kernel)) ggX5_addZeros_X5_add
theorem dX5_addZeros_0 : decode cX5_addZeros 0 = .ok (.iconst 0, 1) := by decide +kernel
theorem dX5_addZeros_1 : decode cX5_addZeros 1 = .ok (.istore_n 2, 1) := by decide +kernel
theorem dX5_addZeros_2 : decode cX5_addZeros 2 = .ok (.iload_n 2, 1) := by decide +kernel
theorem dX5_addZeros_3 : decode cX5_addZeros 3 = .ok (.iload_n 1, 1) := by decide +kernel
theorem dX5_addZeros_4 : decode cX5_addZeros 4 = .ok (.if_icmp .ge 14, 3) := by decide +kernel
theorem dX5_addZeros_7 : decode cX5_addZeros 7 = .ok (.aload_n 0, 1) := by decide +kernel
theorem dX5_addZeros_8 : decode cX5_addZeros 8 = .ok (.iconst 0, 1) := by decide +kernel
theorem dX5_addZeros_9 : decode cX5_addZeros 9 = .ok (.invokevirtual 34, 3) := by decide +kernel
theorem dX5_addZeros_12 : decode cX5_addZeros 12 = .ok (.iinc 2 1, 3) := by decide +kernel
theorem dX5_addZeros_15 : decode cX5_addZeros 15 = .ok (.goto (-13), 3) := by decide +kernel
theorem dX5_addZeros_18 : decode cX5_addZeros 18 = .ok (.return_, 1) := by decide +kernel
set_option maxRecDepth 20000 in
theorem ggX5_addFirst_X5_at : GoodIn wsX5_addFirst wsX5_at := goodIn_r _ [5, 6, 7, 12, 13] rfl (by decide +kernel)
set_option maxRecDepth 20000 in
theorem gX5_addFirst_X5_at : GoodIn wsX5_addFirst (wsV RX5 25 RX5 yX5_at wsX5_at) := goodIn_app (goodIn_of _ (by decide +kernel)) ggX5_addFirst_X5_at
set_option maxRecDepth 20000 in
theorem ggX5_addFirst_X5_add : GoodIn wsX5_addFirst wsX5_add := goodIn_r _ [11, 6, 7, 12, 13] rfl (by decide +kernel)
set_option maxRecDepth 20000 in
theorem gX5_addFirst_X5_add : GoodIn wsX5_addFirst (wsV RX5 34 RX5 yX5_add wsX5_add) := goodIn_app (goodIn_of _ (by decide +kernel)) ggX5_addFirst_X5_add
theorem dX5_addFirst_0 : decode cX5_addFirst 0 = .ok (.iconst 0, 1) := by decide +kernel
theorem dX5_addFirst_1 : decode cX5_addFirst 1 = .ok (.istore_n 3, 1) := by decide +kernel
theorem dX5_addFirst_2 : decode cX5_addFirst 2 = .ok (.iload_n 3, 1) := by decide +kernel
theorem dX5_addFirst_3 : decode cX5_addFirst 3 = .ok (.iload_n 2, 1) := by decide +kernel
theorem dX5_addFirst_4 : decode cX5_addFirst 4 = .ok (.if_icmp .ge 18, 3) := by decide +kernel
theorem dX5_addFirst_7 : decode cX5_addFirst 7 = .ok (.aload_n 0, 1) := by decide +kernel
theorem dX5_addFirst_8 : decode cX5_addFirst 8 = .ok (.aload_n 1, 1) := by decide +kernel
theorem dX5_addFirst_9 : decode cX5_addFirst 9 = .ok (.iload_n 3, 1) := by decide +kernel
theorem dX5_addFirst_10 : decode cX5_addFirst 10 = .ok (.invokevirtual 25, 3) := by decide +kernel
theorem dX5_addFirst_13 : decode cX5_addFirst 13 = .ok (.invokevirtual 34, 3) := by decide +kernel
theorem dX5_addFirst_16 : decode cX5_addFirst 16 = .ok (.iinc 3 1, 3) := by decide +kernel
theorem dX5_addFirst_19 : decode cX5_addFirst 19 = .ok (.goto (-17), 3) := by decide +kernel
theorem dX5_addFirst_22 : decode cX5_addFirst 22 = .ok (.return_, 1) := by decide +kernel
set_option maxRecDepth 20000 in
theorem ggX5_addPadding_X5_add : GoodIn wsX5_addPadding wsX5_add := goodIn_r _ [6, 1, 7, 12, 13] rfl (by decide +kernel)
set_option maxRecDepth 20000 in
theorem gX5_addPadding_X5_add : GoodIn wsX5_addPadding (wsV RX5 34 RX5 yX5_add wsX5_add) := goodIn_app (goodIn_of _ (by decide +kernel)) ggX5_addPadding_X5_add
set_option maxRecDepth 20000 in
theorem ggX5_addPadding_X5_addZeros : GoodIn wsX5_addPadding wsX5_addZeros := goodIn_r _ [11, 2, 3, 4, 5, 6, 1, 7, 12, 13] rfl (by decide +kernel)
set_option maxRecDepth 20000 in
theorem gX5_addPadding_X5_addZeros : GoodIn wsX5_addPadding (wsV RX5 41 RX5 yX5_addZeros wsX5_addZeros) := goodIn_app (goodIn_of _ (by decide +kernel)) ggX5_addPadding_X5_addZeros
theorem dX5_addPadding_0 : decode cX5_addPadding 0 = .ok (.aload_n 0, 1) := by decide +kernel
theorem dX5_addPadding_1 : decode cX5_addPadding 1 = .ok (.sipush 128, 3) := by decide +kernel
theorem dX5_addPadding_4 : decode cX5_addPadding 4 = .ok (.invokevirtual 34, 3) := by decide +kernel
theorem dX5_addPadding_7 : decode cX5_addPadding 7 = .ok (.aload_n 0, 1) := by decide +kernel
theorem dX5_addPadding_8 : decode cX5_addPadding 8 = .ok (.aload_n 0, 1) := by decide +kernel
theorem dX5_addPadding_9 : decode cX5_addPadding 9 = .ok (.getfield 21, 3) := by decide +kernel
theorem dX5_addPadding_12 : decode cX5_addPadding 12 = .ok (.ineg, 1) := by decide +kernel
theorem dX5_addPadding_13 : decode cX5_addPadding 13 = .ok (.iload_n 1, 1) := by decide +kernel
theorem dX5_addPadding_14 : decode cX5_addPadding 14 = .ok (.iconst 1, 1) := by decide +kernel
theorem dX5_addPadding_15 : decode cX5_addPadding 15 = .ok (.isub, 1) := by decide +kernel
theorem dX5_addPadding_16 : decode cX5_addPadding 16 = .ok (.iand, 1) := by decide +kernel
theorem dX5_addPadding_17 : decode cX5_addPadding 17 = .ok (.invokevirtual 41, 3) := by decide +kernel
theorem dX5_addPadding_20 : decode cX5_addPadding 20 = .ok (.return_, 1) := by decide +kernel
theorem dX5_cut_0 : decode cX5_cut 0 = .ok (.iload_n 1, 1) := by decide +kernel
theorem dX5_cut_1 : decode cX5_cut 1 = .ok (.ifCond .lt 16, 3) := by decide +kernel
theorem dX5_cut_4 : decode cX5_cut 4 = .ok (.iload_n 1, 1) := by decide +kernel
theorem dX5_cut_5 : decode cX5_cut 5 = .ok (.aload_n 0, 1) := by decide +kernel
theorem dX5_cut_6 : decode cX5_cut 6 = .ok (.getfield 21, 3) := by decide +kernel
theorem dX5_cut_9 : decode cX5_cut 9 = .ok (.if_icmp .ge 8, 3) := by decide +kernel
theorem dX5_cut_12 : decode cX5_cut 12 = .ok (.aload_n 0, 1) := by decide +kernel
theorem dX5_cut_13 : decode cX5_cut 13 = .ok (.iload_n 1, 1) := by decide +kernel
theorem dX5_cut_14 : decode cX5_cut 14 = .ok (.putfield 21, 3) := by decide +kernel
theorem dX5_cut_17 : decode cX5_cut 17 = .ok (.return_, 1) := by decide +kernel
set_option maxRecDepth 20000 in
theorem ggX5_become_X5_cut : GoodIn wsX5_become wsX5_cut := goodIn_r _ [5, 6, 24, 25] rfl (by decide +kernel)
set_option maxRecDepth 20000 in
theorem gX5_become_X5_cut : GoodIn wsX5_become (wsV RX5 44 RX5 yX5_cut wsX5_cut) := goodIn_app (goodIn_of _ (by decide +kernel)) ggX5_become_X5_cut
set_option maxRecDepth 20000 in
theorem ggX5_become_X5_size : GoodIn wsX5_become wsX5_size := goodIn_r _ [10, 6, 24, 25] rfl (by decide +kernel)
set_option maxRecDepth 20000 in
theorem gX5_become_X5_size : GoodIn wsX5_become (wsV RX5 47 RX5 yX5_size wsX5_size) := goodIn_app (goodIn_of _ (by decide +kernel)) ggX5_become_X5_size
set_option maxRecDepth 20000 in
theorem ggX5_become_X5_addFirst : GoodIn wsX5_become wsX5_addFirst := goodIn_r _ [14, 15, 16, 17, 4, 18, 6, 19, 20, 21, 22, 23, 24, 25] rfl (by decide +kernel)
set_option maxRecDepth 20000 in
theorem gX5_become_X5_addFirst : GoodIn wsX5_become (wsV RX5 50 RX5 yX5_addFirst wsX5_addFirst) := goodIn_app (goodIn_of _ (by decide +kernel)) ggX5_become_X5_addFirst
theorem dX5_become_0 : decode cX5_become 0 = .ok (.aload_n 0, 1) := by decide +kernel
theorem dX5_become_1 : decode cX5_become 1 = .ok (.iconst 0, 1) := by decide +kernel
theorem dX5_become_2 : decode cX5_become 2 = .ok (.invokevirtual 44, 3) := by decide +kernel
theorem dX5_become_5 : decode cX5_become 5 = .ok (.aload_n 0, 1) := by decide +kernel
theorem dX5_become_6 : decode cX5_become 6 = .ok (.aload_n 1, 1) := by decide +kernel
theorem dX5_become_7 : decode cX5_become 7 = .ok (.aload_n 1, 1) := by decide +kernel
theorem dX5_become_8 : decode cX5_become 8 = .ok (.invokevirtual 47, 3) := by decide +kernel
theorem dX5_become_11 : decode cX5_become 11 = .ok (.invokevirtual 50, 3) := by decide +kernel
theorem dX5_become_14 : decode cX5_become 14 = .ok (.return_, 1) := by decide +kernel
set_option maxRecDepth 20000 in
theorem ggX5_holdsWhat_X5_size : GoodIn wsX5_holdsWhat wsX5_size := goodIn_r _ [6, 1, 12, 13] rfl (by decide +kernel)
set_option maxRecDepth 20000 in
theorem gX5_holdsWhat_X5_size : GoodIn wsX5_holdsWhat (wsV RX5 47 RX5 yX5_size wsX5_size) := goodIn_app (goodIn_of _ (by decide +kernel)) ggX5_holdsWhat_X5_size
set_option maxRecDepth 20000 in
theorem ggX5_holdsWhat_X5_at : GoodIn wsX5_holdsWhat wsX5_at := goodIn_r _ [10, 1, 11, 12, 13] rfl (by decide +kernel)
set_option maxRecDepth 20000 in
theorem gX5_holdsWhat_X5_at : GoodIn wsX5_holdsWhat (wsV RX5 25 RX5 yX5_at wsX5_at) := goodIn_app (goodIn_of _ (by decide +kernel)) ggX5_holdsWhat_X5_at
theorem dX5_holdsWhat_0 : decode cX5_holdsWhat 0 = .ok (.aload_n 0, 1) := by decide +kernel
theorem dX5_holdsWhat_1 : decode cX5_holdsWhat 1 = .ok (.getfield 21, 3) := by decide +kernel
theorem dX5_holdsWhat_4 : decode cX5_holdsWhat 4 = .ok (.aload_n 1, 1) := by decide +kernel
theorem dX5_holdsWhat_5 : decode cX5_holdsWhat 5 = .ok (.invokevirtual 47, 3) := by decide +kernel
theorem dX5_holdsWhat_8 : decode cX5_holdsWhat 8 = .ok (.if_icmp .eq 5, 3) := by decide +kernel
theorem dX5_holdsWhat_11 : decode cX5_holdsWhat 11 = .ok (.iconst 0, 1) := by decide +kernel
theorem dX5_holdsWhat_12 : decode cX5_holdsWhat 12 = .ok (.ireturn, 1) := by decide +kernel
theorem dX5_holdsWhat_13 : decode cX5_holdsWhat 13 = .ok (.iconst 0, 1) := by decide +kernel
theorem dX5_holdsWhat_14 : decode cX5_holdsWhat 14 = .ok (.istore_n 2, 1) := by decide +kernel
theorem dX5_holdsWhat_15 : decode cX5_holdsWhat 15 = .ok (.iload_n 2, 1) := by decide +kernel
theorem dX5_holdsWhat_16 : decode cX5_holdsWhat 16 = .ok (.aload_n 0, 1) := by decide +kernel
theorem dX5_holdsWhat_17 : decode cX5_holdsWhat 17 = .ok (.getfield 21, 3) := by decide +kernel
theorem dX5_holdsWhat_20 : decode cX5_holdsWhat 20 = .ok (.if_icmp .ge 24, 3) := by decide +kernel
theorem dX5_holdsWhat_23 : decode cX5_holdsWhat 23 = .ok (.aload_n 0, 1) := by decide +kernel
theorem dX5_holdsWhat_24 : decode cX5_holdsWhat 24 = .ok (.iload_n 2, 1) := by decide +kernel
theorem dX5_holdsWhat_25 : decode cX5_holdsWhat 25 = .ok (.invokevirtual 25, 3) := by decide +kernel
theorem dX5_holdsWhat_28 : decode cX5_holdsWhat 28 = .ok (.aload_n 1, 1) := by decide +kernel
theorem dX5_holdsWhat_29 : decode cX5_holdsWhat 29 = .ok (.iload_n 2, 1) := by decide +kernel
theorem dX5_holdsWhat_30 : decode cX5_holdsWhat 30 = .ok (.invokevirtual 25, 3) := by decide +kernel
theorem dX5_holdsWhat_33 : decode cX5_holdsWhat 33 = .ok (.if_icmp .eq 5, 3) := by decide +kernel
theorem dX5_holdsWhat_36 : decode cX5_holdsWhat 36 = .ok (.iconst 0, 1) := by decide +kernel
theorem dX5_holdsWhat_37 : decode cX5_holdsWhat 37 = .ok (.ireturn, 1) := by decide +kernel
theorem dX5_holdsWhat_38 : decode cX5_holdsWhat 38 = .ok (.iinc 2 1, 3) := by decide +kernel
theorem dX5_holdsWhat_41 : decode cX5_holdsWhat 41 = .ok (.goto (-26), 3) := by decide +kernel
theorem dX5_holdsWhat_44 : decode cX5_holdsWhat 44 = .ok (.iconst 1, 1) := by decide +kernel
theorem dX5_holdsWhat_45 : decode cX5_holdsWhat 45 = .ok (.ireturn, 1) := by decide +kernel
set_option maxRecDepth 20000 in
theorem ggX5_lastNotZero_X5_at : GoodIn wsX5_lastNotZero wsX5_at := goodIn_r _ [6, 1, 7, 8, 9] rfl (by decide +kernel)
set_option maxRecDepth 20000 in
theorem gX5_lastNotZero_X5_at : GoodIn wsX5_lastNotZero (wsV RX5 25 RX5 yX5_at wsX5_at) := goodIn_app (goodIn_of _ (by decide +kernel)) ggX5_lastNotZero_X5_at
theorem dX5_lastNotZero_0 : decode cX5_lastNotZero 0 = .ok (.aload_n 0, 1) := by decide +kernel
theorem dX5_lastNotZero_1 : decode cX5_lastNotZero 1 = .ok (.getfield 21, 3) := by decide +kernel
theorem dX5_lastNotZero_4 : decode cX5_lastNotZero 4 = .ok (.iconst 1, 1) := by decide +kernel
theorem dX5_lastNotZero_5 : decode cX5_lastNotZero 5 = .ok (.isub, 1) := by decide +kernel
theorem dX5_lastNotZero_6 : decode cX5_lastNotZero 6 = .ok (.istore_n 1, 1) := by decide +kernel
theorem dX5_lastNotZero_7 : decode cX5_lastNotZero 7 = .ok (.iload_n 1, 1) := by decide +kernel
theorem dX5_lastNotZero_8 : decode cX5_lastNotZero 8 = .ok (.ifCond .lt 19, 3) := by decide +kernel
theorem dX5_lastNotZero_11 : decode cX5_lastNotZero 11 = .ok (.aload_n 0, 1) := by decide +kernel
theorem dX5_lastNotZero_12 : decode cX5_lastNotZero 12 = .ok (.iload_n 1, 1) := by decide +kernel
theorem dX5_lastNotZero_13 : decode cX5_lastNotZero 13 = .ok (.invokevirtual 25, 3) := by decide +kernel
theorem dX5_lastNotZero_16 : decode cX5_lastNotZero 16 = .ok (.ifCond .eq 5, 3) := by decide +kernel
theorem dX5_lastNotZero_19 : decode cX5_lastNotZero 19 = .ok (.iload_n 1, 1) := by decide +kernel
theorem dX5_lastNotZero_20 : decode cX5_lastNotZero 20 = .ok (.ireturn, 1) := by decide +kernel
theorem dX5_lastNotZero_21 : decode cX5_lastNotZero 21 = .ok (.iinc 1 (-1), 3) := by decide +kernel
theorem dX5_lastNotZero_24 : decode cX5_lastNotZero 24 = .ok (.goto (-17), 3) := by decide +kernel
theorem dX5_lastNotZero_27 : decode cX5_lastNotZero 27 = .ok (.iconst (-1), 1) := by decide +kernel
theorem dX5_lastNotZero_28 : decode cX5_lastNotZero 28 = .ok (.ireturn, 1) := by decide +kernel
set_option maxRecDepth 20000 in
theorem ggX5_countOdd_X5_at : GoodIn wsX5_countOdd wsX5_at := goodIn_r _ [6, 1, 7, 15, 16] rfl (by decide +kernel)
set_option maxRecDepth 20000 in
theorem gX5_countOdd_X5_at : GoodIn wsX5_countOdd (wsV RX5 25 RX5 yX5_at wsX5_at) := goodIn_app (goodIn_of _ (by decide +kernel)) ggX5_countOdd_X5_at
set_option maxRecDepth 20000 in
theorem ggX5_countOdd_J6_bitCount_0f7a4 : GoodIn wsX5_countOdd wsJ6_bitCount_0f7a4 := goodIn_r _ [11, 12, 13, 14] rfl (by decide +kernel)
set_option maxRecDepth 20000 in
theorem gX5_countOdd_J6_bitCount_0f7a4 : GoodIn wsX5_countOdd (va_wsS RX5 54 yJ6_bitCount_0f7a4 wsJ6_bitCount_0f7a4) := goodIn_app (goodIn_of _ (by decide +kernel)) ggX5_countOdd_J6_bitCount_0f7a4
theorem dX5_countOdd_0 : decode cX5_countOdd 0 = .ok (.iconst 0, 1) := by decide +kernel
theorem dX5_countOdd_1 : decode cX5_countOdd 1 = .ok (.istore_n 1, 1) := by decide +kernel
theorem dX5_countOdd_2 : decode cX5_countOdd 2 = .ok (.iconst 0, 1) := by decide +kernel
theorem dX5_countOdd_3 : decode cX5_countOdd 3 = .ok (.istore_n 2, 1) := by decide +kernel
theorem dX5_countOdd_4 : decode cX5_countOdd 4 = .ok (.iload_n 2, 1) := by decide +kernel
theorem dX5_countOdd_5 : decode cX5_countOdd 5 = .ok (.aload_n 0, 1) := by decide +kernel
theorem dX5_countOdd_6 : decode cX5_countOdd 6 = .ok (.getfield 21, 3) := by decide +kernel
theorem dX5_countOdd_9 : decode cX5_countOdd 9 = .ok (.if_icmp .ge 22, 3) := by decide +kernel
theorem dX5_countOdd_12 : decode cX5_countOdd 12 = .ok (.iload_n 1, 1) := by decide +kernel
theorem dX5_countOdd_13 : decode cX5_countOdd 13 = .ok (.aload_n 0, 1) := by decide +kernel
theorem dX5_countOdd_14 : decode cX5_countOdd 14 = .ok (.iload_n 2, 1) := by decide +kernel
theorem dX5_countOdd_15 : decode cX5_countOdd 15 = .ok (.invokevirtual 25, 3) := by decide +kernel
theorem dX5_countOdd_18 : decode cX5_countOdd 18 = .ok (.invokestatic 54, 3) := by decide +kernel
theorem dX5_countOdd_21 : decode cX5_countOdd 21 = .ok (.iconst 1, 1) := by decide +kernel
theorem dX5_countOdd_22 : decode cX5_countOdd 22 = .ok (.iand, 1) := by decide +kernel
theorem dX5_countOdd_23 : decode cX5_countOdd 23 = .ok (.iadd, 1) := by decide +kernel
theorem dX5_countOdd_24 : decode cX5_countOdd 24 = .ok (.istore_n 1, 1) := by decide +kernel
theorem dX5_countOdd_25 : decode cX5_countOdd 25 = .ok (.iinc 2 1, 3) := by decide +kernel
theorem dX5_countOdd_28 : decode cX5_countOdd 28 = .ok (.goto (-24), 3) := by decide +kernel
theorem dX5_countOdd_31 : decode cX5_countOdd 31 = .ok (.iload_n 1, 1) := by decide +kernel
theorem dX5_countOdd_32 : decode cX5_countOdd 32 = .ok (.ireturn, 1) := by decide +kernel
