set_option maxRecDepth 20000 in
theorem ggX7_init_X5_init : GoodIn wsX7_init wsX5_init := goodIn_r _ [31, 32, 2, 3, 33, 34, 35, 36, 37, 38, 91, 92] rfl (by decide +kernel)
set_option maxRecDepth 20000 in
theorem gX7_init_X5_init : GoodIn wsX7_init (wsX5_init) := ggX7_init_X5_init
set_option maxRecDepth 20000 in
theorem ggX7_init_X4_init : GoodIn wsX7_init wsX4_init := goodIn_r _ [41, 42, 43, 44, 45, 46, 47, 48, 49, 50, 51, 2, 3, 52, 37, 53, 54, 55, 56, 57, 58, 59, 60, 61, 62, 63, 64, 116, 117, 103, 104, 105, 106, 107, 108, 109, 110, 111, 112] rfl (by decide +kernel)
set_option maxRecDepth 20000 in
theorem gX7_init_X4_init : GoodIn wsX7_init (wsX4_init) := ggX7_init_X4_init
set_option maxRecDepth 20000 in
theorem ggX7_init_X0_init : GoodIn wsX7_init wsX0_init := goodIn_r _ [67, 37, 68, 69, 70, 71, 72, 48, 49, 50, 51, 2, 3, 52, 53, 107, 108, 109, 110, 111, 112, 103, 104, 105, 106] rfl (by decide +kernel)
set_option maxRecDepth 20000 in
theorem gX7_init_X0_init : GoodIn wsX7_init (wsX0_init) := ggX7_init_X0_init
set_option maxRecDepth 20000 in
theorem ggX7_init_X2_init : GoodIn wsX7_init wsX2_init := goodIn_r _ [74, 75, 2, 3, 37, 76, 113] rfl (by decide +kernel)
set_option maxRecDepth 20000 in
theorem gX7_init_X2_init_n46 : GoodIn wsX7_init (wsX2_init) := ggX7_init_X2_init
set_option maxRecDepth 20000 in
theorem ggX7_init_X6_init : GoodIn wsX7_init wsX6_init := goodIn_r _ [78, 79, 2, 3, 37, 80, 81, 114, 115] rfl (by decide +kernel)
set_option maxRecDepth 20000 in
theorem gX7_init_X6_init_n53 : GoodIn wsX7_init (wsX6_init) := ggX7_init_X6_init
set_option maxRecDepth 20000 in
theorem ggX7_init_X5_addZeros : GoodIn wsX7_init wsX5_addZeros := goodIn_r _ [85, 86, 87, 88, 6, 89, 90, 38, 91, 92] rfl (by decide +kernel)
set_option maxRecDepth 20000 in
theorem gX7_init_X5_addZeros : GoodIn wsX7_init (wsV RX7 62 RX5 yX5_addZeros wsX5_addZeros) := goodIn_app (goodIn_of _ (by decide +kernel)) ggX7_init_X5_addZeros
theorem dX7_init_0 : decode cX7_init 0 = .ok (.aload_n 0, 1) := by decide +kernel
theorem dX7_init_1 : decode cX7_init 1 = .ok (.invokespecial 1, 3) := by decide +kernel
theorem dX7_init_4 : decode cX7_init 4 = .ok (.aload_n 0, 1) := by decide +kernel
theorem dX7_init_5 : decode cX7_init 5 = .ok (.new 7, 3) := by decide +kernel
theorem dX7_init_8 : decode cX7_init 8 = .ok (.dup, 1) := by decide +kernel
theorem dX7_init_9 : decode cX7_init 9 = .ok (.sipush 400, 3) := by decide +kernel
theorem dX7_init_12 : decode cX7_init 12 = .ok (.invokespecial 11, 3) := by decide +kernel
theorem dX7_init_15 : decode cX7_init 15 = .ok (.putfield 14, 3) := by decide +kernel
theorem dX7_init_18 : decode cX7_init 18 = .ok (.aload_n 0, 1) := by decide +kernel
theorem dX7_init_19 : decode cX7_init 19 = .ok (.new 7, 3) := by decide +kernel
theorem dX7_init_22 : decode cX7_init 22 = .ok (.dup, 1) := by decide +kernel
theorem dX7_init_23 : decode cX7_init 23 = .ok (.sipush 400, 3) := by decide +kernel
theorem dX7_init_26 : decode cX7_init 26 = .ok (.invokespecial 11, 3) := by decide +kernel
theorem dX7_init_29 : decode cX7_init 29 = .ok (.putfield 18, 3) := by decide +kernel
theorem dX7_init_32 : decode cX7_init 32 = .ok (.aload_n 0, 1) := by decide +kernel
theorem dX7_init_33 : decode cX7_init 33 = .ok (.new 7, 3) := by decide +kernel
theorem dX7_init_36 : decode cX7_init 36 = .ok (.dup, 1) := by decide +kernel
theorem dX7_init_37 : decode cX7_init 37 = .ok (.sipush 448, 3) := by decide +kernel
theorem dX7_init_40 : decode cX7_init 40 = .ok (.invokespecial 11, 3) := by decide +kernel
theorem dX7_init_43 : decode cX7_init 43 = .ok (.putfield 21, 3) := by decide +kernel
theorem dX7_init_46 : decode cX7_init 46 = .ok (.aload_n 0, 1) := by decide +kernel
theorem dX7_init_47 : decode cX7_init 47 = .ok (.new 7, 3) := by decide +kernel
theorem dX7_init_50 : decode cX7_init 50 = .ok (.dup, 1) := by decide +kernel
theorem dX7_init_51 : decode cX7_init 51 = .ok (.bipush 32, 2) := by decide +kernel
theorem dX7_init_53 : decode cX7_init 53 = .ok (.invokespecial 11, 3) := by decide +kernel
theorem dX7_init_56 : decode cX7_init 56 = .ok (.putfield 24, 3) := by decide +kernel
theorem dX7_init_59 : decode cX7_init 59 = .ok (.aload_n 0, 1) := by decide +kernel
theorem dX7_init_60 : decode cX7_init 60 = .ok (.new 7, 3) := by decide +kernel
theorem dX7_init_63 : decode cX7_init 63 = .ok (.dup, 1) := by decide +kernel
theorem dX7_init_64 : decode cX7_init 64 = .ok (.bipush 16, 2) := by decide +kernel
theorem dX7_init_66 : decode cX7_init 66 = .ok (.invokespecial 11, 3) := by decide +kernel
theorem dX7_init_69 : decode cX7_init 69 = .ok (.putfield 27, 3) := by decide +kernel
theorem dX7_init_72 : decode cX7_init 72 = .ok (.aload_n 0, 1) := by decide +kernel
theorem dX7_init_73 : decode cX7_init 73 = .ok (.new 30, 3) := by decide +kernel
theorem dX7_init_76 : decode cX7_init 76 = .ok (.dup, 1) := by decide +kernel
theorem dX7_init_77 : decode cX7_init 77 = .ok (.invokespecial 32, 3) := by decide +kernel
theorem dX7_init_80 : decode cX7_init 80 = .ok (.putfield 33, 3) := by decide +kernel
theorem dX7_init_83 : decode cX7_init 83 = .ok (.aload_n 0, 1) := by decide +kernel
theorem dX7_init_84 : decode cX7_init 84 = .ok (.new 37, 3) := by decide +kernel
theorem dX7_init_87 : decode cX7_init 87 = .ok (.dup, 1) := by decide +kernel
theorem dX7_init_88 : decode cX7_init 88 = .ok (.invokespecial 39, 3) := by decide +kernel
theorem dX7_init_91 : decode cX7_init 91 = .ok (.putfield 40, 3) := by decide +kernel
theorem dX7_init_94 : decode cX7_init 94 = .ok (.aload_n 0, 1) := by decide +kernel
theorem dX7_init_95 : decode cX7_init 95 = .ok (.new 44, 3) := by decide +kernel
theorem dX7_init_98 : decode cX7_init 98 = .ok (.dup, 1) := by decide +kernel
theorem dX7_init_99 : decode cX7_init 99 = .ok (.invokespecial 46, 3) := by decide +kernel
theorem dX7_init_102 : decode cX7_init 102 = .ok (.putfield 47, 3) := by decide +kernel
theorem dX7_init_105 : decode cX7_init 105 = .ok (.aload_n 0, 1) := by decide +kernel
theorem dX7_init_106 : decode cX7_init 106 = .ok (.new 51, 3) := by decide +kernel
theorem dX7_init_109 : decode cX7_init 109 = .ok (.dup, 1) := by decide +kernel
theorem dX7_init_110 : decode cX7_init 110 = .ok (.invokespecial 53, 3) := by decide +kernel
theorem dX7_init_113 : decode cX7_init 113 = .ok (.putfield 54, 3) := by decide +kernel
theorem dX7_init_116 : decode cX7_init 116 = .ok (.aload_n 0, 1) := by decide +kernel
theorem dX7_init_117 : decode cX7_init 117 = .ok (.iconst (-1), 1) := by decide +kernel
theorem dX7_init_118 : decode cX7_init 118 = .ok (.putfield 58, 3) := by decide +kernel
theorem dX7_init_121 : decode cX7_init 121 = .ok (.aload_n 0, 1) := by decide +kernel
theorem dX7_init_122 : decode cX7_init 122 = .ok (.getfield 27, 3) := by decide +kernel
theorem dX7_init_125 : decode cX7_init 125 = .ok (.bipush 16, 2) := by decide +kernel
theorem dX7_init_127 : decode cX7_init 127 = .ok (.invokevirtual 62, 3) := by decide +kernel
theorem dX7_init_130 : decode cX7_init 130 = .ok (.return_, 1) := by decide +kernel
set_option maxRecDepth 20000 in
theorem ggX7_feed_X5_room : GoodIn wsX7_feed wsX5_room := goodIn_r _ [6, 7, 8, 31, 32] rfl (by decide +kernel)
set_option maxRecDepth 20000 in
theorem gX7_feed_X5_room : GoodIn wsX7_feed (wsV RX7 65 RX5 yX5_room wsX5_room) := goodIn_app (goodIn_of _ (by decide +kernel)) ggX7_feed_X5_room
set_option maxRecDepth 20000 in
theorem ggX7_feed_X5_addWord : GoodIn wsX7_feed wsX5_addWord := goodIn_r _ [12, 13, 14, 15, 5, 16, 8, 7, 31, 32] rfl (by decide +kernel)
set_option maxRecDepth 20000 in
theorem gX7_feed_X5_addWord : GoodIn wsX7_feed (wsV RX7 69 RX5 yX5_addWord wsX5_addWord) := goodIn_app (goodIn_of _ (by decide +kernel)) ggX7_feed_X5_addWord
set_option maxRecDepth 20000 in
theorem ggX7_feed_X5_size : GoodIn wsX7_feed wsX5_size := goodIn_r _ [20, 8, 31, 32] rfl (by decide +kernel)
set_option maxRecDepth 20000 in
theorem gX7_feed_X5_size : GoodIn wsX7_feed (wsV RX7 72 RX5 yX5_size wsX5_size) := goodIn_app (goodIn_of _ (by decide +kernel)) ggX7_feed_X5_size
theorem dX7_feed_0 : decode cX7_feed 0 = .ok (.aload_n 0, 1) := by decide +kernel
theorem dX7_feed_1 : decode cX7_feed 1 = .ok (.getfield 14, 3) := by decide +kernel
theorem dX7_feed_4 : decode cX7_feed 4 = .ok (.invokevirtual 65, 3) := by decide +kernel
theorem dX7_feed_7 : decode cX7_feed 7 = .ok (.bipush 20, 2) := by decide +kernel
theorem dX7_feed_9 : decode cX7_feed 9 = .ok (.if_icmp .ge 5, 3) := by decide +kernel
theorem dX7_feed_12 : decode cX7_feed 12 = .ok (.iconst (-1), 1) := by decide +kernel
theorem dX7_feed_13 : decode cX7_feed 13 = .ok (.ireturn, 1) := by decide +kernel
theorem dX7_feed_14 : decode cX7_feed 14 = .ok (.aload_n 0, 1) := by decide +kernel
theorem dX7_feed_15 : decode cX7_feed 15 = .ok (.getfield 14, 3) := by decide +kernel
theorem dX7_feed_18 : decode cX7_feed 18 = .ok (.iload_n 1, 1) := by decide +kernel
theorem dX7_feed_19 : decode cX7_feed 19 = .ok (.invokevirtual 69, 3) := by decide +kernel
theorem dX7_feed_22 : decode cX7_feed 22 = .ok (.aload_n 0, 1) := by decide +kernel
theorem dX7_feed_23 : decode cX7_feed 23 = .ok (.getfield 14, 3) := by decide +kernel
theorem dX7_feed_26 : decode cX7_feed 26 = .ok (.iload_n 2, 1) := by decide +kernel
theorem dX7_feed_27 : decode cX7_feed 27 = .ok (.invokevirtual 69, 3) := by decide +kernel
theorem dX7_feed_30 : decode cX7_feed 30 = .ok (.aload_n 0, 1) := by decide +kernel
theorem dX7_feed_31 : decode cX7_feed 31 = .ok (.getfield 14, 3) := by decide +kernel
theorem dX7_feed_34 : decode cX7_feed 34 = .ok (.iload_n 3, 1) := by decide +kernel
theorem dX7_feed_35 : decode cX7_feed 35 = .ok (.invokevirtual 69, 3) := by decide +kernel
theorem dX7_feed_38 : decode cX7_feed 38 = .ok (.aload_n 0, 1) := by decide +kernel
theorem dX7_feed_39 : decode cX7_feed 39 = .ok (.getfield 14, 3) := by decide +kernel
theorem dX7_feed_42 : decode cX7_feed 42 = .ok (.iload 4, 2) := by decide +kernel
theorem dX7_feed_44 : decode cX7_feed 44 = .ok (.invokevirtual 69, 3) := by decide +kernel
theorem dX7_feed_47 : decode cX7_feed 47 = .ok (.aload_n 0, 1) := by decide +kernel
theorem dX7_feed_48 : decode cX7_feed 48 = .ok (.getfield 14, 3) := by decide +kernel
theorem dX7_feed_51 : decode cX7_feed 51 = .ok (.iload 5, 2) := by decide +kernel
theorem dX7_feed_53 : decode cX7_feed 53 = .ok (.invokevirtual 69, 3) := by decide +kernel
theorem dX7_feed_56 : decode cX7_feed 56 = .ok (.aload_n 0, 1) := by decide +kernel
theorem dX7_feed_57 : decode cX7_feed 57 = .ok (.getfield 14, 3) := by decide +kernel
theorem dX7_feed_60 : decode cX7_feed 60 = .ok (.invokevirtual 72, 3) := by decide +kernel
theorem dX7_feed_63 : decode cX7_feed 63 = .ok (.ireturn, 1) := by decide +kernel
set_option maxRecDepth 20000 in
theorem ggX7_end_X5_size : GoodIn wsX7_end wsX5_size := goodIn_r _ [6, 7, 22, 23] rfl (by decide +kernel)
set_option maxRecDepth 20000 in
theorem gX7_end_X5_size : GoodIn wsX7_end (wsV RX7 72 RX5 yX5_size wsX5_size) := goodIn_app (goodIn_of _ (by decide +kernel)) ggX7_end_X5_size
set_option maxRecDepth 20000 in
theorem ggX7_end_X5_cut : GoodIn wsX7_end wsX5_cut := goodIn_r _ [11, 7, 22, 23] rfl (by decide +kernel)
set_option maxRecDepth 20000 in
theorem gX7_end_X5_cut : GoodIn wsX7_end (wsV RX7 75 RX5 yX5_cut wsX5_cut) := goodIn_app (goodIn_of _ (by decide +kernel)) ggX7_end_X5_cut
theorem dX7_end_0 : decode cX7_end 0 = .ok (.iload_n 1, 1) := by decide +kernel
theorem dX7_end_1 : decode cX7_end 1 = .ok (.ifCond .lt 14, 3) := by decide +kernel
theorem dX7_end_4 : decode cX7_end 4 = .ok (.iload_n 1, 1) := by decide +kernel
theorem dX7_end_5 : decode cX7_end 5 = .ok (.aload_n 0, 1) := by decide +kernel
theorem dX7_end_6 : decode cX7_end 6 = .ok (.getfield 14, 3) := by decide +kernel
theorem dX7_end_9 : decode cX7_end 9 = .ok (.invokevirtual 72, 3) := by decide +kernel
theorem dX7_end_12 : decode cX7_end 12 = .ok (.if_icmp .le 5, 3) := by decide +kernel
theorem dX7_end_15 : decode cX7_end 15 = .ok (.iconst (-1), 1) := by decide +kernel
theorem dX7_end_16 : decode cX7_end 16 = .ok (.ireturn, 1) := by decide +kernel
theorem dX7_end_17 : decode cX7_end 17 = .ok (.aload_n 0, 1) := by decide +kernel
theorem dX7_end_18 : decode cX7_end 18 = .ok (.getfield 14, 3) := by decide +kernel
theorem dX7_end_21 : decode cX7_end 21 = .ok (.iload_n 1, 1) := by decide +kernel
theorem dX7_end_22 : decode cX7_end 22 = .ok (.invokevirtual 75, 3) := by decide +kernel
theorem dX7_end_25 : decode cX7_end 25 = .ok (.iload_n 1, 1) := by decide +kernel
theorem dX7_end_26 : decode cX7_end 26 = .ok (.ireturn, 1) := by decide +kernel
set_option maxRecDepth 20000 in
theorem ggX7_out_X5_size : GoodIn wsX7_out wsX5_size := goodIn_r _ [6, 7, 23, 24] rfl (by decide +kernel)
set_option maxRecDepth 20000 in
theorem gX7_out_X5_size : GoodIn wsX7_out (wsV RX7 72 RX5 yX5_size wsX5_size) := goodIn_app (goodIn_of _ (by decide +kernel)) ggX7_out_X5_size
set_option maxRecDepth 20000 in
theorem ggX7_out_X5_at : GoodIn wsX7_out wsX5_at := goodIn_r _ [11, 7, 12, 23, 24] rfl (by decide +kernel)
set_option maxRecDepth 20000 in
theorem gX7_out_X5_at : GoodIn wsX7_out (wsV RX7 78 RX5 yX5_at wsX5_at) := goodIn_app (goodIn_of _ (by decide +kernel)) ggX7_out_X5_at
theorem dX7_out_0 : decode cX7_out 0 = .ok (.iload_n 1, 1) := by decide +kernel
theorem dX7_out_1 : decode cX7_out 1 = .ok (.ifCond .lt 14, 3) := by decide +kernel
theorem dX7_out_4 : decode cX7_out 4 = .ok (.iload_n 1, 1) := by decide +kernel
theorem dX7_out_5 : decode cX7_out 5 = .ok (.aload_n 0, 1) := by decide +kernel
theorem dX7_out_6 : decode cX7_out 6 = .ok (.getfield 18, 3) := by decide +kernel
theorem dX7_out_9 : decode cX7_out 9 = .ok (.invokevirtual 72, 3) := by decide +kernel
theorem dX7_out_12 : decode cX7_out 12 = .ok (.if_icmp .lt 5, 3) := by decide +kernel
theorem dX7_out_15 : decode cX7_out 15 = .ok (.iconst (-1), 1) := by decide +kernel
theorem dX7_out_16 : decode cX7_out 16 = .ok (.ireturn, 1) := by decide +kernel
theorem dX7_out_17 : decode cX7_out 17 = .ok (.aload_n 0, 1) := by decide +kernel
theorem dX7_out_18 : decode cX7_out 18 = .ok (.getfield 18, 3) := by decide +kernel
theorem dX7_out_21 : decode cX7_out 21 = .ok (.iload_n 1, 1) := by decide +kernel
theorem dX7_out_22 : decode cX7_out 22 = .ok (.invokevirtual 78, 3) := by decide +kernel
theorem dX7_out_25 : decode cX7_out 25 = .ok (.ireturn, 1) := by decide +kernel
set_option maxRecDepth 20000 in
theorem ggX7_take_X5_room : GoodIn wsX7_take wsX5_room := goodIn_r _ [7, 8, 9, 36, 37] rfl (by decide +kernel)
set_option maxRecDepth 20000 in
theorem gX7_take_X5_room : GoodIn wsX7_take (wsV RX7 65 RX5 yX5_room wsX5_room) := goodIn_app (goodIn_of _ (by decide +kernel)) ggX7_take_X5_room
set_option maxRecDepth 20000 in
theorem ggX7_take_X5_size : GoodIn wsX7_take wsX5_size := goodIn_r _ [13, 9, 36, 37] rfl (by decide +kernel)
set_option maxRecDepth 20000 in
theorem gX7_take_X5_size : GoodIn wsX7_take (wsV RX7 72 RX5 yX5_size wsX5_size) := goodIn_app (goodIn_of _ (by decide +kernel)) ggX7_take_X5_size
set_option maxRecDepth 20000 in
theorem ggX7_take_X5_addFirst : GoodIn wsX7_take wsX5_addFirst := goodIn_r _ [17, 18, 19, 20, 6, 21, 9, 8, 22, 23, 24, 25, 36, 37] rfl (by decide +kernel)
set_option maxRecDepth 20000 in
theorem gX7_take_X5_addFirst : GoodIn wsX7_take (wsV RX7 82 RX5 yX5_addFirst wsX5_addFirst) := goodIn_app (goodIn_of _ (by decide +kernel)) ggX7_take_X5_addFirst
theorem dX7_take_0 : decode cX7_take 0 = .ok (.aload_n 0, 1) := by decide +kernel
theorem dX7_take_1 : decode cX7_take 1 = .ok (.getfield 14, 3) := by decide +kernel
theorem dX7_take_4 : decode cX7_take 4 = .ok (.invokevirtual 65, 3) := by decide +kernel
theorem dX7_take_7 : decode cX7_take 7 = .ok (.aload_n 0, 1) := by decide +kernel
theorem dX7_take_8 : decode cX7_take 8 = .ok (.getfield 18, 3) := by decide +kernel
theorem dX7_take_11 : decode cX7_take 11 = .ok (.invokevirtual 72, 3) := by decide +kernel
theorem dX7_take_14 : decode cX7_take 14 = .ok (.if_icmp .ge 5, 3) := by decide +kernel
theorem dX7_take_17 : decode cX7_take 17 = .ok (.iconst (-1), 1) := by decide +kernel
theorem dX7_take_18 : decode cX7_take 18 = .ok (.ireturn, 1) := by decide +kernel
theorem dX7_take_19 : decode cX7_take 19 = .ok (.aload_n 0, 1) := by decide +kernel
theorem dX7_take_20 : decode cX7_take 20 = .ok (.getfield 14, 3) := by decide +kernel
theorem dX7_take_23 : decode cX7_take 23 = .ok (.aload_n 0, 1) := by decide +kernel
theorem dX7_take_24 : decode cX7_take 24 = .ok (.getfield 18, 3) := by decide +kernel
theorem dX7_take_27 : decode cX7_take 27 = .ok (.aload_n 0, 1) := by decide +kernel
theorem dX7_take_28 : decode cX7_take 28 = .ok (.getfield 18, 3) := by decide +kernel
theorem dX7_take_31 : decode cX7_take 31 = .ok (.invokevirtual 72, 3) := by decide +kernel
theorem dX7_take_34 : decode cX7_take 34 = .ok (.invokevirtual 82, 3) := by decide +kernel
theorem dX7_take_37 : decode cX7_take 37 = .ok (.aload_n 0, 1) := by decide +kernel
theorem dX7_take_38 : decode cX7_take 38 = .ok (.getfield 14, 3) := by decide +kernel
theorem dX7_take_41 : decode cX7_take 41 = .ok (.invokevirtual 72, 3) := by decide +kernel
theorem dX7_take_44 : decode cX7_take 44 = .ok (.ireturn, 1) := by decide +kernel
set_option maxRecDepth 20000 in
theorem ggX7_key_X7_keepKey : GoodIn wsX7_key wsX7_keepKey := goodIn_r _ [6, 1, 7, 8, 9, 10, 11, 12, 13, 14, 15, 16, 17, 18, 5, 19, 20, 21, 22, 23, 24, 25, 26, 27, 28, 29, 30, 31, 32, 33, 34, 35, 36, 37, 38, 39, 40, 41, 42, 43, 44, 45, 46, 47, 48, 49, 50, 51, 52, 53, 54, 55, 56, 57, 58, 59, 60, 61, 62, 63, 64, 65, 66, 67, 68, 69, 70, 71, 72, 73, 74, 75, 76, 77, 78, 79, 80, 81, 82, 83, 84, 85, 86, 87, 88, 89, 90, 91, 93, 94, 95, 96, 97, 98, 99, 100, 101, 102, 103, 104, 105, 106, 107, 108, 109, 110, 111, 112, 113, 114, 115, 116] rfl (by decide +kernel)
set_option maxRecDepth 20000 in
theorem gX7_key_X7_keepKey : GoodIn wsX7_key (wsV RX7 86 RX7 yX7_keepKey wsX7_keepKey) := goodIn_app (goodIn_of _ (by decide +kernel)) ggX7_key_X7_keepKey
set_option maxRecDepth 20000 in
theorem ggX7_key_X5_cut : GoodIn wsX7_key wsX5_cut := goodIn_r _ [27, 16, 103, 104] rfl (by decide +kernel)
set_option maxRecDepth 20000 in
theorem gX7_key_X5_cut : GoodIn wsX7_key (wsV RX7 75 RX5 yX5_cut wsX5_cut) := goodIn_app (goodIn_of _ (by decide +kernel)) ggX7_key_X5_cut
theorem dX7_key_0 : decode cX7_key 0 = .ok (.aload_n 0, 1) := by decide +kernel
theorem dX7_key_1 : decode cX7_key 1 = .ok (.iload_n 1, 1) := by decide +kernel
theorem dX7_key_2 : decode cX7_key 2 = .ok (.invokevirtual 86, 3) := by decide +kernel
theorem dX7_key_5 : decode cX7_key 5 = .ok (.istore_n 2, 1) := by decide +kernel
theorem dX7_key_6 : decode cX7_key 6 = .ok (.aload_n 0, 1) := by decide +kernel
theorem dX7_key_7 : decode cX7_key 7 = .ok (.getfield 14, 3) := by decide +kernel
theorem dX7_key_10 : decode cX7_key 10 = .ok (.iconst 0, 1) := by decide +kernel
theorem dX7_key_11 : decode cX7_key 11 = .ok (.invokevirtual 75, 3) := by decide +kernel
theorem dX7_key_14 : decode cX7_key 14 = .ok (.iload_n 2, 1) := by decide +kernel
theorem dX7_key_15 : decode cX7_key 15 = .ok (.ireturn, 1) := by decide +kernel
set_option maxRecDepth 20000 in
theorem ggX7_begin_X7_keepStart : GoodIn wsX7_begin wsX7_keepStart := goodIn_r _ [6, 1, 7, 8, 9, 10, 11, 12, 13, 14, 15, 16, 17, 18, 19, 20, 21, 22, 23, 24, 25, 26, 27, 28, 29, 30, 31, 32, 33, 34, 35, 37, 38, 39, 40, 41, 42, 43, 44, 45, 46, 47, 48] rfl (by decide +kernel)
set_option maxRecDepth 20000 in
theorem gX7_begin_X7_keepStart : GoodIn wsX7_begin (wsV RX7 89 RX7 yX7_keepStart wsX7_keepStart) := goodIn_app (goodIn_of _ (by decide +kernel)) ggX7_begin_X7_keepStart
set_option maxRecDepth 20000 in
theorem ggX7_begin_X5_cut : GoodIn wsX7_begin wsX5_cut := goodIn_r _ [21, 13, 47, 48] rfl (by decide +kernel)
set_option maxRecDepth 20000 in
theorem gX7_begin_X5_cut : GoodIn wsX7_begin (wsV RX7 75 RX5 yX5_cut wsX5_cut) := goodIn_app (goodIn_of _ (by decide +kernel)) ggX7_begin_X5_cut
theorem dX7_begin_0 : decode cX7_begin 0 = .ok (.aload_n 0, 1) := by decide +kernel
theorem dX7_begin_1 : decode cX7_begin 1 = .ok (.invokevirtual 89, 3) := by decide +kernel
theorem dX7_begin_4 : decode cX7_begin 4 = .ok (.istore_n 1, 1) := by decide +kernel
theorem dX7_begin_5 : decode cX7_begin 5 = .ok (.aload_n 0, 1) := by decide +kernel
theorem dX7_begin_6 : decode cX7_begin 6 = .ok (.getfield 14, 3) := by decide +kernel
theorem dX7_begin_9 : decode cX7_begin 9 = .ok (.iconst 0, 1) := by decide +kernel
theorem dX7_begin_10 : decode cX7_begin 10 = .ok (.invokevirtual 75, 3) := by decide +kernel
theorem dX7_begin_13 : decode cX7_begin 13 = .ok (.iload_n 1, 1) := by decide +kernel
theorem dX7_begin_14 : decode cX7_begin 14 = .ok (.ireturn, 1) := by decide +kernel
set_option maxRecDepth 20000 in
theorem ggX7_code_X7_writeCoded : GoodIn wsX7_code wsX7_writeCoded := goodIn_r _ [6, 1, 7, 8, 9, 10, 11, 5, 12, 13, 14, 15, 16, 17, 18, 19, 20, 21, 22, 23, 24, 25, 26, 27, 28, 29, 30, 31, 32, 33, 34, 35, 36, 37, 38, 39, 40, 41, 42, 43, 44, 45, 46, 47, 48, 49, 50, 51, 52, 53, 54, 55, 56, 57, 58, 59, 60, 61, 62, 63, 64, 65, 66, 67, 68, 69, 70, 71, 72, 73, 74, 75, 76, 77, 78, 79, 80, 81, 82, 83, 84, 85, 86, 87, 88, 89, 90, 91, 92, 93, 94, 95, 96, 97, 98, 99, 100, 101, 102, 103, 104, 105, 106, 107, 108, 109, 110, 111, 112, 113, 114, 115, 116, 117, 118, 119, 120, 121, 122, 123, 124, 125, 126, 127, 128, 129, 130, 131, 132, 133, 134, 135, 136, 137, 138, 139, 140, 141, 142, 143, 144, 145, 146, 147, 148, 149, 150, 151, 152, 153, 154, 155, 156, 157, 158, 159, 160, 161, 162, 163, 164, 165, 166, 167, 168, 169, 170, 171, 172, 173, 174, 175, 176, 177, 178, 179, 180, 181, 182, 183, 184, 185, 186, 187, 188, 189, 190, 191] rfl (by decide +kernel)
set_option maxRecDepth 20000 in
theorem gX7_code_X7_writeCoded : GoodIn wsX7_code (wsV RX7 92 RX7 yX7_writeCoded wsX7_writeCoded) := goodIn_app (goodIn_of _ (by decide +kernel)) ggX7_code_X7_writeCoded
set_option maxRecDepth 20000 in
theorem ggX7_code_X5_cut : GoodIn wsX7_code wsX5_cut := goodIn_r _ [33, 21, 178, 179] rfl (by decide +kernel)
set_option maxRecDepth 20000 in
theorem gX7_code_X5_cut : GoodIn wsX7_code (wsV RX7 75 RX5 yX5_cut wsX5_cut) := goodIn_app (goodIn_of _ (by decide +kernel)) ggX7_code_X5_cut
theorem dX7_code_0 : decode cX7_code 0 = .ok (.aload_n 0, 1) := by decide +kernel
theorem dX7_code_1 : decode cX7_code 1 = .ok (.iload_n 1, 1) := by decide +kernel
theorem dX7_code_2 : decode cX7_code 2 = .ok (.iload_n 2, 1) := by decide +kernel
theorem dX7_code_3 : decode cX7_code 3 = .ok (.invokevirtual 92, 3) := by decide +kernel
theorem dX7_code_6 : decode cX7_code 6 = .ok (.istore_n 3, 1) := by decide +kernel
theorem dX7_code_7 : decode cX7_code 7 = .ok (.aload_n 0, 1) := by decide +kernel
theorem dX7_code_8 : decode cX7_code 8 = .ok (.getfield 14, 3) := by decide +kernel
theorem dX7_code_11 : decode cX7_code 11 = .ok (.iconst 0, 1) := by decide +kernel
theorem dX7_code_12 : decode cX7_code 12 = .ok (.invokevirtual 75, 3) := by decide +kernel
theorem dX7_code_15 : decode cX7_code 15 = .ok (.iload_n 3, 1) := by decide +kernel
theorem dX7_code_16 : decode cX7_code 16 = .ok (.ireturn, 1) := by decide +kernel
set_option maxRecDepth 20000 in
theorem ggX7_pad_X7_writePadded : GoodIn wsX7_pad wsX7_writePadded := goodIn_r _ [6, 7, 1, 8, 9, 10, 11, 12, 13, 14, 15, 16, 17, 18, 19, 20, 21, 22, 23, 24, 25, 26, 27, 28, 29, 30, 31, 32, 33, 34, 35, 36, 37, 38, 39, 40, 41, 42, 43, 44, 46, 47, 48, 49, 50, 51, 52, 53, 54, 55, 56, 57] rfl (by decide +kernel)
set_option maxRecDepth 20000 in
theorem gX7_pad_X7_writePadded : GoodIn wsX7_pad (wsV RX7 96 RX7 yX7_writePadded wsX7_writePadded) := goodIn_app (goodIn_of _ (by decide +kernel)) ggX7_pad_X7_writePadded
set_option maxRecDepth 20000 in
theorem ggX7_pad_X5_cut : GoodIn wsX7_pad wsX5_cut := goodIn_r _ [17, 18, 56, 57] rfl (by decide +kernel)
set_option maxRecDepth 20000 in
theorem gX7_pad_X5_cut : GoodIn wsX7_pad (wsV RX7 75 RX5 yX5_cut wsX5_cut) := goodIn_app (goodIn_of _ (by decide +kernel)) ggX7_pad_X5_cut
theorem dX7_pad_0 : decode cX7_pad 0 = .ok (.aload_n 0, 1) := by decide +kernel
theorem dX7_pad_1 : decode cX7_pad 1 = .ok (.iload_n 1, 1) := by decide +kernel
theorem dX7_pad_2 : decode cX7_pad 2 = .ok (.invokevirtual 96, 3) := by decide +kernel
theorem dX7_pad_5 : decode cX7_pad 5 = .ok (.istore_n 2, 1) := by decide +kernel
theorem dX7_pad_6 : decode cX7_pad 6 = .ok (.aload_n 0, 1) := by decide +kernel
theorem dX7_pad_7 : decode cX7_pad 7 = .ok (.getfield 14, 3) := by decide +kernel
theorem dX7_pad_10 : decode cX7_pad 10 = .ok (.iconst 0, 1) := by decide +kernel
theorem dX7_pad_11 : decode cX7_pad 11 = .ok (.invokevirtual 75, 3) := by decide +kernel
theorem dX7_pad_14 : decode cX7_pad 14 = .ok (.iload_n 2, 1) := by decide +kernel
theorem dX7_pad_15 : decode cX7_pad 15 = .ok (.ireturn, 1) := by decide +kernel
set_option maxRecDepth 20000 in
theorem ggX7_unpad_X7_writeUnpadded : GoodIn wsX7_unpad wsX7_writeUnpadded := goodIn_r _ [6, 1, 7, 8, 9, 10, 11, 12, 13, 14, 15, 16, 17, 18, 19, 20, 21, 22, 23, 24, 25, 26, 27, 28, 29, 30, 31, 32, 33, 34, 35, 36, 37, 38, 39, 40, 41, 42, 43, 44, 45, 46, 47] rfl (by decide +kernel)
set_option maxRecDepth 20000 in
theorem gX7_unpad_X7_writeUnpadded : GoodIn wsX7_unpad (wsV RX7 99 RX7 yX7_writeUnpadded wsX7_writeUnpadded) := goodIn_app (goodIn_of _ (by decide +kernel)) ggX7_unpad_X7_writeUnpadded
set_option maxRecDepth 20000 in
theorem ggX7_unpad_X5_cut : GoodIn wsX7_unpad wsX5_cut := goodIn_r _ [23, 13, 46, 47] rfl (by decide +kernel)
set_option maxRecDepth 20000 in
theorem gX7_unpad_X5_cut : GoodIn wsX7_unpad (wsV RX7 75 RX5 yX5_cut wsX5_cut) := goodIn_app (goodIn_of _ (by decide +kernel)) ggX7_unpad_X5_cut
theorem dX7_unpad_0 : decode cX7_unpad 0 = .ok (.aload_n 0, 1) := by decide +kernel
theorem dX7_unpad_1 : decode cX7_unpad 1 = .ok (.invokevirtual 99, 3) := by decide +kernel
theorem dX7_unpad_4 : decode cX7_unpad 4 = .ok (.istore_n 1, 1) := by decide +kernel
theorem dX7_unpad_5 : decode cX7_unpad 5 = .ok (.aload_n 0, 1) := by decide +kernel
theorem dX7_unpad_6 : decode cX7_unpad 6 = .ok (.getfield 14, 3) := by decide +kernel
theorem dX7_unpad_9 : decode cX7_unpad 9 = .ok (.iconst 0, 1) := by decide +kernel
theorem dX7_unpad_10 : decode cX7_unpad 10 = .ok (.invokevirtual 75, 3) := by decide +kernel
theorem dX7_unpad_13 : decode cX7_unpad 13 = .ok (.iload_n 1, 1) := by decide +kernel
theorem dX7_unpad_14 : decode cX7_unpad 14 = .ok (.ireturn, 1) := by decide +kernel
set_option maxRecDepth 20000 in
theorem ggX7_mac_X7_writeDesMac : GoodIn wsX7_mac wsX7_writeDesMac := goodIn_r _ [7, 8, 2, 9, 10, 11, 12, 13, 14, 15, 16, 17, 18, 19, 20, 21, 22, 23, 24, 25, 26, 27, 28, 29, 30, 31, 32, 33, 34, 35, 36, 37, 38, 39, 40, 41, 42, 43, 44, 45, 46, 47, 48, 49, 50, 51, 52, 53, 54, 55, 56, 57, 58, 59, 60, 61, 62, 63, 64, 65, 66, 67, 68, 69, 70, 71, 72, 73, 74, 75, 76, 77, 78, 79, 80, 81, 82, 83, 84, 85, 86, 87, 88, 89, 90, 91, 92, 93, 94, 95, 96, 97, 98, 99, 100, 101, 102, 103, 104, 105, 106, 107, 108, 109, 110, 111, 112, 113, 114, 115, 116, 117, 118, 119, 120, 121, 122, 123, 124, 125, 126, 127, 128, 129, 130, 131, 132, 133, 134, 135, 136, 137, 138, 139, 140, 141, 142, 143, 144, 145, 146, 147, 148, 149, 150, 151, 152, 153, 154, 155, 156, 157, 158, 159, 160, 161, 162, 163, 164, 165, 166, 167, 168, 169, 170, 171, 172, 173, 174, 175, 176, 177, 178, 179, 180, 181, 182, 183, 184, 185, 186, 187, 188, 189, 235, 236, 237, 238, 239, 240, 241, 242, 243, 244, 245, 246, 247, 248, 249, 250, 251, 252, 253, 254, 255, 256, 257, 258] rfl (by decide +kernel)
set_option maxRecDepth 20000 in
theorem gX7_mac_X7_writeDesMac : GoodIn wsX7_mac (wsV RX7 102 RX7 yX7_writeDesMac wsX7_writeDesMac) := goodIn_app (goodIn_of _ (by decide +kernel)) ggX7_mac_X7_writeDesMac
set_option maxRecDepth 20000 in
theorem ggX7_mac_X7_writeCmac : GoodIn wsX7_mac wsX7_writeCmac := goodIn_r _ [193, 9, 194, 195, 2, 47, 18, 19, 15, 20, 21, 196, 197, 198, 199, 200, 201, 146, 202, 203, 23, 24, 25, 204, 205, 206, 207, 59, 208, 106, 209, 210, 211, 212, 213, 154, 155, 156, 214, 215, 216, 110, 111, 112, 113, 114, 115, 217, 136, 218, 137, 138, 139, 140, 141, 142, 143, 144, 145, 147, 148, 149, 150, 151, 152, 153, 157, 158, 159, 160, 161, 162, 163, 219, 220, 221, 222, 223, 224, 225, 58, 60, 61, 62, 226, 227, 228, 124, 125, 126, 127, 128, 129, 130, 131, 31, 32, 33, 34, 132, 133, 134, 135, 164, 165, 51, 166, 167, 53, 54, 168, 169, 170, 171, 172, 173, 174, 175, 80, 75, 81, 176, 83, 84, 85, 86, 87, 88, 89, 90, 91, 92, 177, 178, 179, 180, 229, 230, 231, 232, 233, 234, 185, 186, 187, 36, 37, 38, 189, 235, 236, 237, 238, 239, 240, 241, 242, 243, 244, 245, 246, 251, 252, 253, 254, 255, 256, 247, 248, 249, 250, 259, 257, 258] rfl (by decide +kernel)
set_option maxRecDepth 20000 in
theorem gX7_mac_X7_writeCmac : GoodIn wsX7_mac (wsV RX7 106 RX7 yX7_writeCmac wsX7_writeCmac) := goodIn_app (goodIn_of _ (by decide +kernel)) ggX7_mac_X7_writeCmac
set_option maxRecDepth 20000 in
theorem ggX7_mac_X5_cut : GoodIn wsX7_mac wsX5_cut := goodIn_r _ [20, 21, 245, 246] rfl (by decide +kernel)
set_option maxRecDepth 20000 in
theorem gX7_mac_X5_cut : GoodIn wsX7_mac (wsV RX7 75 RX5 yX5_cut wsX5_cut) := goodIn_app (goodIn_of _ (by decide +kernel)) ggX7_mac_X5_cut
theorem dX7_mac_0 : decode cX7_mac 0 = .ok (.iconst (-1), 1) := by decide +kernel
theorem dX7_mac_1 : decode cX7_mac 1 = .ok (.istore_n 2, 1) := by decide +kernel
theorem dX7_mac_2 : decode cX7_mac 2 = .ok (.aload_n 0, 1) := by decide +kernel
theorem dX7_mac_3 : decode cX7_mac 3 = .ok (.getfield 58, 3) := by decide +kernel
theorem dX7_mac_6 : decode cX7_mac 6 = .ok (.ifCond .ne 30, 3) := by decide +kernel
theorem dX7_mac_9 : decode cX7_mac 9 = .ok (.iload_n 1, 1) := by decide +kernel
theorem dX7_mac_10 : decode cX7_mac 10 = .ok (.ifCond .eq 8, 3) := by decide +kernel
theorem dX7_mac_13 : decode cX7_mac 13 = .ok (.iload_n 1, 1) := by decide +kernel
theorem dX7_mac_14 : decode cX7_mac 14 = .ok (.iconst 1, 1) := by decide +kernel
theorem dX7_mac_15 : decode cX7_mac 15 = .ok (.if_icmp .ne 21, 3) := by decide +kernel
theorem dX7_mac_18 : decode cX7_mac 18 = .ok (.aload_n 0, 1) := by decide +kernel
theorem dX7_mac_19 : decode cX7_mac 19 = .ok (.iload_n 1, 1) := by decide +kernel
theorem dX7_mac_20 : decode cX7_mac 20 = .ok (.iconst 1, 1) := by decide +kernel
theorem dX7_mac_21 : decode cX7_mac 21 = .ok (.if_icmp .ne 7, 3) := by decide +kernel
theorem dX7_mac_24 : decode cX7_mac 24 = .ok (.iconst 1, 1) := by decide +kernel
theorem dX7_mac_25 : decode cX7_mac 25 = .ok (.goto 4, 3) := by decide +kernel
theorem dX7_mac_28 : decode cX7_mac 28 = .ok (.iconst 0, 1) := by decide +kernel
theorem dX7_mac_29 : decode cX7_mac 29 = .ok (.invokevirtual 102, 3) := by decide +kernel
theorem dX7_mac_32 : decode cX7_mac 32 = .ok (.istore_n 2, 1) := by decide +kernel
theorem dX7_mac_33 : decode cX7_mac 33 = .ok (.goto 21, 3) := by decide +kernel
theorem dX7_mac_36 : decode cX7_mac 36 = .ok (.aload_n 0, 1) := by decide +kernel
theorem dX7_mac_37 : decode cX7_mac 37 = .ok (.getfield 58, 3) := by decide +kernel
theorem dX7_mac_40 : decode cX7_mac 40 = .ok (.iconst 1, 1) := by decide +kernel
theorem dX7_mac_41 : decode cX7_mac 41 = .ok (.if_icmp .ne 13, 3) := by decide +kernel
theorem dX7_mac_44 : decode cX7_mac 44 = .ok (.iload_n 1, 1) := by decide +kernel
theorem dX7_mac_45 : decode cX7_mac 45 = .ok (.iconst 2, 1) := by decide +kernel
theorem dX7_mac_46 : decode cX7_mac 46 = .ok (.if_icmp .ne 8, 3) := by decide +kernel
theorem dX7_mac_49 : decode cX7_mac 49 = .ok (.aload_n 0, 1) := by decide +kernel
theorem dX7_mac_50 : decode cX7_mac 50 = .ok (.invokevirtual 106, 3) := by decide +kernel
theorem dX7_mac_53 : decode cX7_mac 53 = .ok (.istore_n 2, 1) := by decide +kernel
theorem dX7_mac_54 : decode cX7_mac 54 = .ok (.aload_n 0, 1) := by decide +kernel
theorem dX7_mac_55 : decode cX7_mac 55 = .ok (.getfield 14, 3) := by decide +kernel
theorem dX7_mac_58 : decode cX7_mac 58 = .ok (.iconst 0, 1) := by decide +kernel
theorem dX7_mac_59 : decode cX7_mac 59 = .ok (.invokevirtual 75, 3) := by decide +kernel
theorem dX7_mac_62 : decode cX7_mac 62 = .ok (.iload_n 2, 1) := by decide +kernel
theorem dX7_mac_63 : decode cX7_mac 63 = .ok (.ireturn, 1) := by decide +kernel
set_option maxRecDepth 20000 in
theorem ggX7_derive_X7_writeDerived : GoodIn wsX7_derive wsX7_writeDerived := goodIn_r _ [6, 7, 1, 8, 9, 10, 11, 12, 13, 14, 15, 16, 17, 18, 19, 20, 21, 22, 23, 24, 25, 26, 27, 28, 5, 29, 30, 31, 32, 33, 34, 35, 36, 37, 38, 39, 40, 41, 42, 43, 44, 45, 46, 47, 48, 49, 50, 51, 52, 53, 54, 55, 56, 57, 58, 59, 60, 61, 62, 63, 64, 65, 66, 67, 68, 69, 70, 71, 72, 73, 74, 75, 76, 77, 78, 79, 80, 81, 82, 83, 84, 85, 86, 87, 88, 89, 90, 91, 92, 93, 94, 95, 96, 97, 98, 99, 100, 101, 102, 103, 104, 105, 106, 107, 108, 109, 110, 111, 112, 113, 114, 115, 116, 117, 118, 119, 120, 121, 122, 123, 124, 125, 126, 127, 128, 129, 130, 131, 132, 133, 134, 135, 136, 137, 138, 139, 140, 141, 142, 143, 144, 145, 146, 147, 148, 149, 150, 151, 152, 153, 154, 155, 156, 157, 158, 159, 160, 161, 162, 163, 164, 165, 166, 167, 168, 169, 170, 171, 172, 173, 174, 175, 176, 177, 178, 179, 180, 181, 182, 183, 184, 185, 186, 187, 188, 189, 190, 191, 192, 193, 194, 195, 196, 197, 198, 199] rfl (by decide +kernel)
set_option maxRecDepth 20000 in
theorem gX7_derive_X7_writeDerived : GoodIn wsX7_derive (wsV RX7 109 RX7 yX7_writeDerived wsX7_writeDerived) := goodIn_app (goodIn_of _ (by decide +kernel)) ggX7_derive_X7_writeDerived
set_option maxRecDepth 20000 in
theorem ggX7_derive_X5_cut : GoodIn wsX7_derive wsX5_cut := goodIn_r _ [25, 21, 185, 186] rfl (by decide +kernel)
set_option maxRecDepth 20000 in
theorem gX7_derive_X5_cut : GoodIn wsX7_derive (wsV RX7 75 RX5 yX5_cut wsX5_cut) := goodIn_app (goodIn_of _ (by decide +kernel)) ggX7_derive_X5_cut
theorem dX7_derive_0 : decode cX7_derive 0 = .ok (.aload_n 0, 1) := by decide +kernel
theorem dX7_derive_1 : decode cX7_derive 1 = .ok (.iload_n 1, 1) := by decide +kernel
theorem dX7_derive_2 : decode cX7_derive 2 = .ok (.iload_n 2, 1) := by decide +kernel
theorem dX7_derive_3 : decode cX7_derive 3 = .ok (.invokevirtual 109, 3) := by decide +kernel
theorem dX7_derive_6 : decode cX7_derive 6 = .ok (.istore_n 3, 1) := by decide +kernel
theorem dX7_derive_7 : decode cX7_derive 7 = .ok (.aload_n 0, 1) := by decide +kernel
theorem dX7_derive_8 : decode cX7_derive 8 = .ok (.getfield 14, 3) := by decide +kernel
theorem dX7_derive_11 : decode cX7_derive 11 = .ok (.iconst 0, 1) := by decide +kernel
theorem dX7_derive_12 : decode cX7_derive 12 = .ok (.invokevirtual 75, 3) := by decide +kernel
theorem dX7_derive_15 : decode cX7_derive 15 = .ok (.iload_n 3, 1) := by decide +kernel
theorem dX7_derive_16 : decode cX7_derive 16 = .ok (.ireturn, 1) := by decide +kernel
set_option maxRecDepth 20000 in
theorem ggX7_hash_X5_become : GoodIn wsX7_hash wsX5_become := goodIn_r _ [9, 10, 11, 12, 8, 13, 14, 15, 16, 17, 18, 19, 20, 21, 22, 23, 24, 25, 26, 27, 28, 29, 30, 31, 88, 89] rfl (by decide +kernel)
set_option maxRecDepth 20000 in
theorem gX7_hash_X5_become : GoodIn wsX7_hash (wsV RX7 113 RX5 yX5_become wsX5_become) := goodIn_app (goodIn_of _ (by decide +kernel)) ggX7_hash_X5_become
set_option maxRecDepth 20000 in
theorem ggX7_hash_X5_cut : GoodIn wsX7_hash wsX5_cut := goodIn_r _ [13, 14, 88, 89] rfl (by decide +kernel)
set_option maxRecDepth 20000 in
theorem gX7_hash_X5_cut : GoodIn wsX7_hash (wsV RX7 75 RX5 yX5_cut wsX5_cut) := goodIn_app (goodIn_of _ (by decide +kernel)) ggX7_hash_X5_cut
set_option maxRecDepth 20000 in
theorem ggX7_hash_X6_digest : GoodIn wsX7_hash wsX6_digest := goodIn_r _ [37, 38, 39, 40, 41, 42, 43, 44, 45, 16, 17, 8, 18, 14, 46, 29, 30, 31, 27, 47, 48, 49, 50, 28, 51, 52, 53, 54, 55, 56, 57, 58, 59, 60, 61, 36, 62, 63, 64, 65, 66, 67, 23, 24, 25, 26, 68, 69, 70, 71, 72, 73, 74, 75, 76, 90, 91, 88, 89] rfl (by decide +kernel)
set_option maxRecDepth 20000 in
theorem gX7_hash_X6_digest : GoodIn wsX7_hash (wsV RX7 117 RX6 yX6_digest wsX6_digest) := goodIn_app (goodIn_of _ (by decide +kernel)) ggX7_hash_X6_digest
set_option maxRecDepth 20000 in
theorem ggX7_hash_X5_size : GoodIn wsX7_hash wsX5_size := goodIn_r _ [18, 14, 88, 89] rfl (by decide +kernel)
set_option maxRecDepth 20000 in
theorem gX7_hash_X5_size : GoodIn wsX7_hash (wsV RX7 72 RX5 yX5_size wsX5_size) := goodIn_app (goodIn_of _ (by decide +kernel)) ggX7_hash_X5_size
theorem dX7_hash_0 : decode cX7_hash 0 = .ok (.aload_n 0, 1) := by decide +kernel
theorem dX7_hash_1 : decode cX7_hash 1 = .ok (.getfield 21, 3) := by decide +kernel
theorem dX7_hash_4 : decode cX7_hash 4 = .ok (.aload_n 0, 1) := by decide +kernel
theorem dX7_hash_5 : decode cX7_hash 5 = .ok (.getfield 14, 3) := by decide +kernel
theorem dX7_hash_8 : decode cX7_hash 8 = .ok (.invokevirtual 113, 3) := by decide +kernel
theorem dX7_hash_11 : decode cX7_hash 11 = .ok (.aload_n 0, 1) := by decide +kernel
theorem dX7_hash_12 : decode cX7_hash 12 = .ok (.getfield 18, 3) := by decide +kernel
theorem dX7_hash_15 : decode cX7_hash 15 = .ok (.iconst 0, 1) := by decide +kernel
theorem dX7_hash_16 : decode cX7_hash 16 = .ok (.invokevirtual 75, 3) := by decide +kernel
theorem dX7_hash_19 : decode cX7_hash 19 = .ok (.aload_n 0, 1) := by decide +kernel
theorem dX7_hash_20 : decode cX7_hash 20 = .ok (.getfield 54, 3) := by decide +kernel
theorem dX7_hash_23 : decode cX7_hash 23 = .ok (.aload_n 0, 1) := by decide +kernel
theorem dX7_hash_24 : decode cX7_hash 24 = .ok (.getfield 21, 3) := by decide +kernel
theorem dX7_hash_27 : decode cX7_hash 27 = .ok (.aload_n 0, 1) := by decide +kernel
theorem dX7_hash_28 : decode cX7_hash 28 = .ok (.getfield 18, 3) := by decide +kernel
theorem dX7_hash_31 : decode cX7_hash 31 = .ok (.invokevirtual 117, 3) := by decide +kernel
theorem dX7_hash_34 : decode cX7_hash 34 = .ok (.aload_n 0, 1) := by decide +kernel
theorem dX7_hash_35 : decode cX7_hash 35 = .ok (.getfield 14, 3) := by decide +kernel
theorem dX7_hash_38 : decode cX7_hash 38 = .ok (.iconst 0, 1) := by decide +kernel
theorem dX7_hash_39 : decode cX7_hash 39 = .ok (.invokevirtual 75, 3) := by decide +kernel
theorem dX7_hash_42 : decode cX7_hash 42 = .ok (.aload_n 0, 1) := by decide +kernel
theorem dX7_hash_43 : decode cX7_hash 43 = .ok (.getfield 18, 3) := by decide +kernel
theorem dX7_hash_46 : decode cX7_hash 46 = .ok (.invokevirtual 72, 3) := by decide +kernel
theorem dX7_hash_49 : decode cX7_hash 49 = .ok (.ireturn, 1) := by decide +kernel
set_option maxRecDepth 20000 in
theorem ggX7_same_X5_holdsWhat : GoodIn wsX7_same wsX5_holdsWhat := goodIn_r _ [7, 8, 9, 10, 11, 6, 12, 13, 14, 15, 16, 17, 32, 33] rfl (by decide +kernel)
set_option maxRecDepth 20000 in
theorem gX7_same_X5_holdsWhat : GoodIn wsX7_same (wsV RX7 121 RX5 yX5_holdsWhat wsX5_holdsWhat) := goodIn_app (goodIn_of _ (by decide +kernel)) ggX7_same_X5_holdsWhat
set_option maxRecDepth 20000 in
theorem ggX7_same_X5_cut : GoodIn wsX7_same wsX5_cut := goodIn_r _ [21, 8, 32, 33] rfl (by decide +kernel)
set_option maxRecDepth 20000 in
theorem gX7_same_X5_cut : GoodIn wsX7_same (wsV RX7 75 RX5 yX5_cut wsX5_cut) := goodIn_app (goodIn_of _ (by decide +kernel)) ggX7_same_X5_cut
theorem dX7_same_0 : decode cX7_same 0 = .ok (.aload_n 0, 1) := by decide +kernel
theorem dX7_same_1 : decode cX7_same 1 = .ok (.getfield 14, 3) := by decide +kernel
theorem dX7_same_4 : decode cX7_same 4 = .ok (.aload_n 0, 1) := by decide +kernel
theorem dX7_same_5 : decode cX7_same 5 = .ok (.getfield 18, 3) := by decide +kernel
theorem dX7_same_8 : decode cX7_same 8 = .ok (.invokevirtual 121, 3) := by decide +kernel
theorem dX7_same_11 : decode cX7_same 11 = .ok (.ifCond .eq 7, 3) := by decide +kernel
theorem dX7_same_14 : decode cX7_same 14 = .ok (.iconst 1, 1) := by decide +kernel
theorem dX7_same_15 : decode cX7_same 15 = .ok (.goto 4, 3) := by decide +kernel
theorem dX7_same_18 : decode cX7_same 18 = .ok (.iconst 0, 1) := by decide +kernel
theorem dX7_same_19 : decode cX7_same 19 = .ok (.istore_n 1, 1) := by decide +kernel
theorem dX7_same_20 : decode cX7_same 20 = .ok (.aload_n 0, 1) := by decide +kernel
theorem dX7_same_21 : decode cX7_same 21 = .ok (.getfield 14, 3) := by decide +kernel
theorem dX7_same_24 : decode cX7_same 24 = .ok (.iconst 0, 1) := by decide +kernel
theorem dX7_same_25 : decode cX7_same 25 = .ok (.invokevirtual 75, 3) := by decide +kernel
theorem dX7_same_28 : decode cX7_same 28 = .ok (.iload_n 1, 1) := by decide +kernel
theorem dX7_same_29 : decode cX7_same 29 = .ok (.ireturn, 1) := by decide +kernel
set_option maxRecDepth 20000 in
theorem ggX7_about_X5_size : GoodIn wsX7_about wsX5_size := goodIn_r _ [9, 10, 37, 38] rfl (by decide +kernel)
set_option maxRecDepth 20000 in
theorem gX7_about_X5_size : GoodIn wsX7_about (wsV RX7 72 RX5 yX5_size wsX5_size) := goodIn_app (goodIn_of _ (by decide +kernel)) ggX7_about_X5_size
set_option maxRecDepth 20000 in
theorem ggX7_about_X5_countOdd : GoodIn wsX7_about wsX5_countOdd := goodIn_r _ [14, 10, 15, 16, 17, 8, 18, 19, 20, 21, 22, 23, 24, 25, 26, 37, 38] rfl (by decide +kernel)
set_option maxRecDepth 20000 in
theorem gX7_about_X5_countOdd : GoodIn wsX7_about (wsV RX7 125 RX5 yX5_countOdd wsX5_countOdd) := goodIn_app (goodIn_of _ (by decide +kernel)) ggX7_about_X5_countOdd
theorem dX7_about_0 : decode cX7_about 0 = .ok (.iload_n 1, 1) := by decide +kernel
theorem dX7_about_1 : decode cX7_about 1 = .ok (.tableswitch 72 0 4 #[35, 43, 51, 56, 64], 35) := by decide +kernel
theorem dX7_about_36 : decode cX7_about 36 = .ok (.aload_n 0, 1) := by decide +kernel
theorem dX7_about_37 : decode cX7_about 37 = .ok (.getfield 14, 3) := by decide +kernel
theorem dX7_about_40 : decode cX7_about 40 = .ok (.invokevirtual 72, 3) := by decide +kernel
theorem dX7_about_43 : decode cX7_about 43 = .ok (.ireturn, 1) := by decide +kernel
theorem dX7_about_44 : decode cX7_about 44 = .ok (.aload_n 0, 1) := by decide +kernel
theorem dX7_about_45 : decode cX7_about 45 = .ok (.getfield 18, 3) := by decide +kernel
theorem dX7_about_48 : decode cX7_about 48 = .ok (.invokevirtual 72, 3) := by decide +kernel
theorem dX7_about_51 : decode cX7_about 51 = .ok (.ireturn, 1) := by decide +kernel
theorem dX7_about_52 : decode cX7_about 52 = .ok (.aload_n 0, 1) := by decide +kernel
theorem dX7_about_53 : decode cX7_about 53 = .ok (.getfield 58, 3) := by decide +kernel
theorem dX7_about_56 : decode cX7_about 56 = .ok (.ireturn, 1) := by decide +kernel
theorem dX7_about_57 : decode cX7_about 57 = .ok (.aload_n 0, 1) := by decide +kernel
theorem dX7_about_58 : decode cX7_about 58 = .ok (.getfield 24, 3) := by decide +kernel
theorem dX7_about_61 : decode cX7_about 61 = .ok (.invokevirtual 72, 3) := by decide +kernel
theorem dX7_about_64 : decode cX7_about 64 = .ok (.ireturn, 1) := by decide +kernel
theorem dX7_about_65 : decode cX7_about 65 = .ok (.aload_n 0, 1) := by decide +kernel
theorem dX7_about_66 : decode cX7_about 66 = .ok (.getfield 24, 3) := by decide +kernel
theorem dX7_about_69 : decode cX7_about 69 = .ok (.invokevirtual 125, 3) := by decide +kernel
theorem dX7_about_72 : decode cX7_about 72 = .ok (.ireturn, 1) := by decide +kernel
theorem dX7_about_73 : decode cX7_about 73 = .ok (.iconst (-1), 1) := by decide +kernel
theorem dX7_about_74 : decode cX7_about 74 = .ok (.ireturn, 1) := by decide +kernel
set_option maxRecDepth 20000 in
theorem ggX7_keepKey_X5_size : GoodIn wsX7_keepKey wsX5_size := goodIn_r _ [10, 11, 98, 99] rfl (by decide +kernel)
set_option maxRecDepth 20000 in
theorem gX7_keepKey_X5_size : GoodIn wsX7_keepKey (wsV RX7 72 RX5 yX5_size wsX5_size) := goodIn_app (goodIn_of _ (by decide +kernel)) ggX7_keepKey_X5_size
set_option maxRecDepth 20000 in
theorem ggX7_keepKey_X7_isKeyLength : GoodIn wsX7_keepKey wsX7_isKeyLength := goodIn_r _ [15] rfl (by decide +kernel)
set_option maxRecDepth 20000 in
theorem gX7_keepKey_X7_isKeyLength : GoodIn wsX7_keepKey (va_wsS RX7 128 yX7_isKeyLength wsX7_isKeyLength) := goodIn_app (goodIn_of _ (by decide +kernel)) ggX7_keepKey_X7_isKeyLength
set_option maxRecDepth 20000 in
theorem ggX7_keepKey_X5_become : GoodIn wsX7_keepKey wsX5_become := goodIn_r _ [19, 20, 21, 22, 9, 23, 11, 24, 7, 8, 10, 25, 26, 27, 28, 29, 30, 31, 32, 33, 34, 35, 36, 37, 98, 99] rfl (by decide +kernel)
set_option maxRecDepth 20000 in
theorem gX7_keepKey_X5_become : GoodIn wsX7_keepKey (wsV RX7 113 RX5 yX5_become wsX5_become) := goodIn_app (goodIn_of _ (by decide +kernel)) ggX7_keepKey_X5_become
set_option maxRecDepth 20000 in
theorem ggX7_keepKey_X4_schedule : GoodIn wsX7_keepKey wsX4_schedule := goodIn_r _ [42, 43, 44, 45, 46, 47, 9, 48, 49, 50, 51, 52, 53, 29, 30, 31, 32, 11, 33, 54, 55, 56, 57, 58, 59, 60, 61, 62, 63, 64, 65, 66, 67, 68, 69, 100, 101, 102, 103, 98, 99, 104, 105] rfl (by decide +kernel)
set_option maxRecDepth 20000 in
theorem gX7_keepKey_X4_schedule : GoodIn wsX7_keepKey (wsV RX7 132 RX4 yX4_schedule wsX4_schedule) := goodIn_app (goodIn_of _ (by decide +kernel)) ggX7_keepKey_X4_schedule
set_option maxRecDepth 20000 in
theorem ggX7_keepKey_X0_schedule : GoodIn wsX7_keepKey wsX0_schedule := goodIn_r _ [74, 75, 76, 77, 7, 8, 9, 10, 11, 78, 51, 52, 53, 29, 30, 31, 32, 33, 79, 14, 80, 81, 82, 73, 83, 84, 85, 86, 87, 106, 107, 108, 109, 110, 111, 98, 99] rfl (by decide +kernel)
set_option maxRecDepth 20000 in
theorem gX7_keepKey_X0_schedule : GoodIn wsX7_keepKey (wsV RX7 135 RX0 yX0_schedule wsX0_schedule) := goodIn_app (goodIn_of _ (by decide +kernel)) ggX7_keepKey_X0_schedule
theorem dX7_keepKey_0 : decode cX7_keepKey 0 = .ok (.iload_n 1, 1) := by decide +kernel
theorem dX7_keepKey_1 : decode cX7_keepKey 1 = .ok (.aload_n 0, 1) := by decide +kernel
theorem dX7_keepKey_2 : decode cX7_keepKey 2 = .ok (.getfield 14, 3) := by decide +kernel
theorem dX7_keepKey_5 : decode cX7_keepKey 5 = .ok (.invokevirtual 72, 3) := by decide +kernel
theorem dX7_keepKey_8 : decode cX7_keepKey 8 = .ok (.invokestatic 128, 3) := by decide +kernel
theorem dX7_keepKey_11 : decode cX7_keepKey 11 = .ok (.ifCond .ne 5, 3) := by decide +kernel
theorem dX7_keepKey_14 : decode cX7_keepKey 14 = .ok (.iconst (-1), 1) := by decide +kernel
theorem dX7_keepKey_15 : decode cX7_keepKey 15 = .ok (.ireturn, 1) := by decide +kernel
theorem dX7_keepKey_16 : decode cX7_keepKey 16 = .ok (.aload_n 0, 1) := by decide +kernel
theorem dX7_keepKey_17 : decode cX7_keepKey 17 = .ok (.getfield 24, 3) := by decide +kernel
theorem dX7_keepKey_20 : decode cX7_keepKey 20 = .ok (.aload_n 0, 1) := by decide +kernel
theorem dX7_keepKey_21 : decode cX7_keepKey 21 = .ok (.getfield 14, 3) := by decide +kernel
theorem dX7_keepKey_24 : decode cX7_keepKey 24 = .ok (.invokevirtual 113, 3) := by decide +kernel
theorem dX7_keepKey_27 : decode cX7_keepKey 27 = .ok (.aload_n 0, 1) := by decide +kernel
theorem dX7_keepKey_28 : decode cX7_keepKey 28 = .ok (.iload_n 1, 1) := by decide +kernel
theorem dX7_keepKey_29 : decode cX7_keepKey 29 = .ok (.putfield 58, 3) := by decide +kernel
theorem dX7_keepKey_32 : decode cX7_keepKey 32 = .ok (.iload_n 1, 1) := by decide +kernel
theorem dX7_keepKey_33 : decode cX7_keepKey 33 = .ok (.ifCond .ne 17, 3) := by decide +kernel
theorem dX7_keepKey_36 : decode cX7_keepKey 36 = .ok (.aload_n 0, 1) := by decide +kernel
theorem dX7_keepKey_37 : decode cX7_keepKey 37 = .ok (.getfield 33, 3) := by decide +kernel
theorem dX7_keepKey_40 : decode cX7_keepKey 40 = .ok (.aload_n 0, 1) := by decide +kernel
theorem dX7_keepKey_41 : decode cX7_keepKey 41 = .ok (.getfield 24, 3) := by decide +kernel
theorem dX7_keepKey_44 : decode cX7_keepKey 44 = .ok (.invokevirtual 132, 3) := by decide +kernel
theorem dX7_keepKey_47 : decode cX7_keepKey 47 = .ok (.goto 14, 3) := by decide +kernel
theorem dX7_keepKey_50 : decode cX7_keepKey 50 = .ok (.aload_n 0, 1) := by decide +kernel
theorem dX7_keepKey_51 : decode cX7_keepKey 51 = .ok (.getfield 40, 3) := by decide +kernel
theorem dX7_keepKey_54 : decode cX7_keepKey 54 = .ok (.aload_n 0, 1) := by decide +kernel
theorem dX7_keepKey_55 : decode cX7_keepKey 55 = .ok (.getfield 24, 3) := by decide +kernel
theorem dX7_keepKey_58 : decode cX7_keepKey 58 = .ok (.invokevirtual 135, 3) := by decide +kernel
theorem dX7_keepKey_61 : decode cX7_keepKey 61 = .ok (.iconst 1, 1) := by decide +kernel
theorem dX7_keepKey_62 : decode cX7_keepKey 62 = .ok (.ireturn, 1) := by decide +kernel
theorem dX7_isKeyLength_0 : decode cX7_isKeyLength 0 = .ok (.iload_n 0, 1) := by decide +kernel
theorem dX7_isKeyLength_1 : decode cX7_isKeyLength 1 = .ok (.ifCond .ne 15, 3) := by decide +kernel
theorem dX7_isKeyLength_4 : decode cX7_isKeyLength 4 = .ok (.iload_n 1, 1) := by decide +kernel
theorem dX7_isKeyLength_5 : decode cX7_isKeyLength 5 = .ok (.bipush 16, 2) := by decide +kernel
theorem dX7_isKeyLength_7 : decode cX7_isKeyLength 7 = .ok (.if_icmp .ne 7, 3) := by decide +kernel
theorem dX7_isKeyLength_10 : decode cX7_isKeyLength 10 = .ok (.iconst 1, 1) := by decide +kernel
theorem dX7_isKeyLength_11 : decode cX7_isKeyLength 11 = .ok (.goto 4, 3) := by decide +kernel
theorem dX7_isKeyLength_14 : decode cX7_isKeyLength 14 = .ok (.iconst 0, 1) := by decide +kernel
theorem dX7_isKeyLength_15 : decode cX7_isKeyLength 15 = .ok (.ireturn, 1) := by decide +kernel
theorem dX7_isKeyLength_16 : decode cX7_isKeyLength 16 = .ok (.iload_n 0, 1) := by decide +kernel
theorem dX7_isKeyLength_17 : decode cX7_isKeyLength 17 = .ok (.iconst 1, 1) := by decide +kernel
theorem dX7_isKeyLength_18 : decode cX7_isKeyLength 18 = .ok (.if_icmp .ne 25, 3) := by decide +kernel
theorem dX7_isKeyLength_21 : decode cX7_isKeyLength 21 = .ok (.iload_n 1, 1) := by decide +kernel
theorem dX7_isKeyLength_22 : decode cX7_isKeyLength 22 = .ok (.bipush 16, 2) := by decide +kernel
theorem dX7_isKeyLength_24 : decode cX7_isKeyLength 24 = .ok (.if_icmp .eq 15, 3) := by decide +kernel
theorem dX7_isKeyLength_27 : decode cX7_isKeyLength 27 = .ok (.iload_n 1, 1) := by decide +kernel
theorem dX7_isKeyLength_28 : decode cX7_isKeyLength 28 = .ok (.bipush 24, 2) := by decide +kernel
theorem dX7_isKeyLength_30 : decode cX7_isKeyLength 30 = .ok (.if_icmp .eq 9, 3) := by decide +kernel
theorem dX7_isKeyLength_33 : decode cX7_isKeyLength 33 = .ok (.iload_n 1, 1) := by decide +kernel
theorem dX7_isKeyLength_34 : decode cX7_isKeyLength 34 = .ok (.bipush 32, 2) := by decide +kernel
theorem dX7_isKeyLength_36 : decode cX7_isKeyLength 36 = .ok (.if_icmp .ne 7, 3) := by decide +kernel
theorem dX7_isKeyLength_39 : decode cX7_isKeyLength 39 = .ok (.iconst 1, 1) := by decide +kernel
theorem dX7_isKeyLength_40 : decode cX7_isKeyLength 40 = .ok (.goto 4, 3) := by decide +kernel
theorem dX7_isKeyLength_43 : decode cX7_isKeyLength 43 = .ok (.iconst 0, 1) := by decide +kernel
theorem dX7_isKeyLength_44 : decode cX7_isKeyLength 44 = .ok (.ireturn, 1) := by decide +kernel
set_option maxRecDepth 20000 in
theorem ggX7_keepStart_X5_size : GoodIn wsX7_keepStart wsX5_size := goodIn_r _ [7, 8, 41, 42] rfl (by decide +kernel)
set_option maxRecDepth 20000 in
theorem gX7_keepStart_X5_size : GoodIn wsX7_keepStart (wsV RX7 72 RX5 yX5_size wsX5_size) := goodIn_app (goodIn_of _ (by decide +kernel)) ggX7_keepStart_X5_size
set_option maxRecDepth 20000 in
theorem ggX7_keepStart_X5_become : GoodIn wsX7_keepStart wsX5_become := goodIn_r _ [12, 13, 14, 15, 6, 16, 8, 17, 4, 5, 7, 18, 19, 20, 21, 22, 23, 24, 25, 26, 27, 28, 29, 30, 41, 42] rfl (by decide +kernel)
set_option maxRecDepth 20000 in
theorem gX7_keepStart_X5_become : GoodIn wsX7_keepStart (wsV RX7 113 RX5 yX5_become wsX5_become) := goodIn_app (goodIn_of _ (by decide +kernel)) ggX7_keepStart_X5_become
theorem dX7_keepStart_0 : decode cX7_keepStart 0 = .ok (.aload_n 0, 1) := by decide +kernel
theorem dX7_keepStart_1 : decode cX7_keepStart 1 = .ok (.getfield 14, 3) := by decide +kernel
theorem dX7_keepStart_4 : decode cX7_keepStart 4 = .ok (.invokevirtual 72, 3) := by decide +kernel
theorem dX7_keepStart_7 : decode cX7_keepStart 7 = .ok (.bipush 16, 2) := by decide +kernel
theorem dX7_keepStart_9 : decode cX7_keepStart 9 = .ok (.if_icmp .eq 5, 3) := by decide +kernel
theorem dX7_keepStart_12 : decode cX7_keepStart 12 = .ok (.iconst (-1), 1) := by decide +kernel
theorem dX7_keepStart_13 : decode cX7_keepStart 13 = .ok (.ireturn, 1) := by decide +kernel
theorem dX7_keepStart_14 : decode cX7_keepStart 14 = .ok (.aload_n 0, 1) := by decide +kernel
theorem dX7_keepStart_15 : decode cX7_keepStart 15 = .ok (.getfield 27, 3) := by decide +kernel
theorem dX7_keepStart_18 : decode cX7_keepStart 18 = .ok (.aload_n 0, 1) := by decide +kernel
theorem dX7_keepStart_19 : decode cX7_keepStart 19 = .ok (.getfield 14, 3) := by decide +kernel
theorem dX7_keepStart_22 : decode cX7_keepStart 22 = .ok (.invokevirtual 113, 3) := by decide +kernel
theorem dX7_keepStart_25 : decode cX7_keepStart 25 = .ok (.iconst 1, 1) := by decide +kernel
theorem dX7_keepStart_26 : decode cX7_keepStart 26 = .ok (.ireturn, 1) := by decide +kernel
theorem dX7_cipherOfKey_0 : decode cX7_cipherOfKey 0 = .ok (.aload_n 0, 1) := by decide +kernel
theorem dX7_cipherOfKey_1 : decode cX7_cipherOfKey 1 = .ok (.getfield 58, 3) := by decide +kernel
theorem dX7_cipherOfKey_4 : decode cX7_cipherOfKey 4 = .ok (.ifCond .ne 8, 3) := by decide +kernel
theorem dX7_cipherOfKey_7 : decode cX7_cipherOfKey 7 = .ok (.aload_n 0, 1) := by decide +kernel
theorem dX7_cipherOfKey_8 : decode cX7_cipherOfKey 8 = .ok (.getfield 33, 3) := by decide +kernel
theorem dX7_cipherOfKey_11 : decode cX7_cipherOfKey 11 = .ok (.areturn, 1) := by decide +kernel
theorem dX7_cipherOfKey_12 : decode cX7_cipherOfKey 12 = .ok (.aload_n 0, 1) := by decide +kernel
theorem dX7_cipherOfKey_13 : decode cX7_cipherOfKey 13 = .ok (.getfield 58, 3) := by decide +kernel
theorem dX7_cipherOfKey_16 : decode cX7_cipherOfKey 16 = .ok (.iconst 1, 1) := by decide +kernel
theorem dX7_cipherOfKey_17 : decode cX7_cipherOfKey 17 = .ok (.if_icmp .ne 10, 3) := by decide +kernel
theorem dX7_cipherOfKey_20 : decode cX7_cipherOfKey 20 = .ok (.aload_n 0, 1) := by decide +kernel
theorem dX7_cipherOfKey_21 : decode cX7_cipherOfKey 21 = .ok (.getfield 40, 3) := by decide +kernel
theorem dX7_cipherOfKey_24 : decode cX7_cipherOfKey 24 = .ok (.goto 4, 3) := by decide +kernel
theorem dX7_cipherOfKey_27 : decode cX7_cipherOfKey 27 = .ok (.aconst_null, 1) := by decide +kernel
theorem dX7_cipherOfKey_28 : decode cX7_cipherOfKey 28 = .ok (.areturn, 1) := by decide +kernel
set_option maxRecDepth 20000 in
theorem ggX7_writeCoded_X7_cipherOfKey : GoodIn wsX7_writeCoded wsX7_cipherOfKey := goodIn_r _ [8, 9, 10, 11, 164, 165, 166, 167, 168, 169, 170, 171, 172, 173] rfl (by decide +kernel)
set_option maxRecDepth 20000 in
theorem gX7_writeCoded_X7_cipherOfKey : GoodIn wsX7_writeCoded (wsV RX7 136 RX7 yX7_cipherOfKey wsX7_cipherOfKey) := goodIn_app (goodIn_of _ (by decide +kernel)) ggX7_writeCoded_X7_cipherOfKey
set_option maxRecDepth 20000 in
theorem ggX7_writeCoded_X5_size : GoodIn wsX7_writeCoded wsX5_size := goodIn_r _ [16, 17, 174, 175] rfl (by decide +kernel)
set_option maxRecDepth 20000 in
theorem gX7_writeCoded_X5_size : GoodIn wsX7_writeCoded (wsV RX7 72 RX5 yX5_size wsX5_size) := goodIn_app (goodIn_of _ (by decide +kernel)) ggX7_writeCoded_X5_size
set_option maxRecDepth 20000 in
theorem ggX7_writeCoded_X1_isWhole : GoodIn wsX7_writeCoded wsX1_isWhole := goodIn_r _ [23, 24, 176, 177, 178, 179, 180, 181, 182, 183, 184, 185] rfl (by decide +kernel)
set_option maxRecDepth 20000 in
theorem gX7_writeCoded_X1_isWhole_u140X0 : GoodIn wsX7_writeCoded (va_wsU RX7 140 RX0 "CipherBox$BlockCipher" ⟨"CipherBox$BlockCipher", "isWhole", "(I)Z"⟩ yX1_isWhole wsX1_isWhole) := goodIn_app (goodIn_of _ (by decide +kernel)) ggX7_writeCoded_X1_isWhole
set_option maxRecDepth 20000 in
theorem gX7_writeCoded_X1_isWhole_u140X4 : GoodIn wsX7_writeCoded (va_wsU RX7 140 RX4 "CipherBox$BlockCipher" ⟨"CipherBox$BlockCipher", "isWhole", "(I)Z"⟩ yX1_isWhole wsX1_isWhole) := goodIn_app (goodIn_of _ (by decide +kernel)) ggX7_writeCoded_X1_isWhole
set_option maxRecDepth 20000 in
theorem ggX7_writeCoded_X5_cut : GoodIn wsX7_writeCoded wsX5_cut := goodIn_r _ [29, 17, 174, 175] rfl (by decide +kernel)
set_option maxRecDepth 20000 in
theorem gX7_writeCoded_X5_cut : GoodIn wsX7_writeCoded (wsV RX7 75 RX5 yX5_cut wsX5_cut) := goodIn_app (goodIn_of _ (by decide +kernel)) ggX7_writeCoded_X5_cut
set_option maxRecDepth 20000 in
theorem ggX7_writeCoded_X1_codeEach : GoodIn wsX7_writeCoded wsX1_codeEach := goodIn_r _ [34, 35, 24, 36, 37, 38, 39, 22, 40, 41, 13, 14, 15, 16, 17, 42, 43, 44, 45, 46, 47, 48, 49, 50, 51, 52, 53, 54, 55, 56, 57, 58, 59, 60, 61, 62, 63, 64, 65, 66, 67, 68, 69, 70, 71, 72, 73, 74, 75, 76, 77, 78, 79, 80, 81, 82, 83, 84, 85, 86, 87, 88, 89, 90, 91, 92, 93, 94, 95, 96, 97, 98, 99, 100, 101, 102, 103, 104, 105, 106, 107, 108, 109, 110, 111, 112, 113, 114, 115, 116, 117, 118, 119, 120, 121, 122, 123, 124, 125, 126, 127, 128, 129, 130, 131, 132, 133, 134, 135, 136, 137, 138, 139, 140, 141, 142, 143, 144, 176, 177, 178, 179, 180, 181, 182, 183, 184, 185, 174, 175, 186, 187] rfl (by decide +kernel)
set_option maxRecDepth 20000 in
theorem gX7_writeCoded_X1_codeEach_u146X0 : GoodIn wsX7_writeCoded (va_wsU RX7 146 RX0 "CipherBox$BlockCipher" ⟨"CipherBox$BlockCipher", "codeEach", "(LCipherBox$Row;LCipherBox$Row;Z)V"⟩ yX1_codeEach wsX1_codeEach) := goodIn_app (goodIn_of _ (by decide +kernel)) ggX7_writeCoded_X1_codeEach
set_option maxRecDepth 20000 in
theorem gX7_writeCoded_X1_codeEach_u146X4 : GoodIn wsX7_writeCoded (va_wsU RX7 146 RX4 "CipherBox$BlockCipher" ⟨"CipherBox$BlockCipher", "codeEach", "(LCipherBox$Row;LCipherBox$Row;Z)V"⟩ yX1_codeEach wsX1_codeEach) := goodIn_app (goodIn_of _ (by decide +kernel)) ggX7_writeCoded_X1_codeEach
set_option maxRecDepth 20000 in
theorem ggX7_writeCoded_X1_chainBack : GoodIn wsX7_writeCoded wsX1_chainBack := goodIn_r _ [150, 35, 24, 36, 37, 38, 39, 22, 40, 41, 13, 14, 15, 16, 17, 42, 43, 44, 45, 46, 47, 48, 49, 50, 51, 52, 53, 54, 55, 56, 57, 58, 59, 60, 61, 62, 63, 64, 65, 66, 67, 68, 69, 70, 71, 72, 73, 74, 75, 76, 77, 78, 79, 80, 81, 82, 83, 84, 85, 86, 87, 88, 89, 90, 91, 92, 93, 94, 95, 96, 97, 98, 99, 100, 101, 102, 103, 104, 105, 106, 107, 108, 109, 110, 111, 112, 113, 114, 115, 116, 117, 118, 119, 120, 121, 151, 152, 153, 154, 155, 156, 135, 136, 137, 138, 139, 140, 141, 142, 143, 144, 176, 177, 178, 179, 180, 181, 182, 183, 184, 185, 174, 175, 186, 187] rfl (by decide +kernel)
set_option maxRecDepth 20000 in
theorem gX7_writeCoded_X1_chainBack_u150X0 : GoodIn wsX7_writeCoded (va_wsU RX7 150 RX0 "CipherBox$BlockCipher" ⟨"CipherBox$BlockCipher", "chainBack", "(LCipherBox$Row;LCipherBox$Row;LCipherBox$Row;)V"⟩ yX1_chainBack wsX1_chainBack) := goodIn_app (goodIn_of _ (by decide +kernel)) ggX7_writeCoded_X1_chainBack
set_option maxRecDepth 20000 in
theorem gX7_writeCoded_X1_chainBack_u150X4 : GoodIn wsX7_writeCoded (va_wsU RX7 150 RX4 "CipherBox$BlockCipher" ⟨"CipherBox$BlockCipher", "chainBack", "(LCipherBox$Row;LCipherBox$Row;LCipherBox$Row;)V"⟩ yX1_chainBack wsX1_chainBack) := goodIn_app (goodIn_of _ (by decide +kernel)) ggX7_writeCoded_X1_chainBack
set_option maxRecDepth 20000 in
theorem ggX7_writeCoded_X1_chainThere : GoodIn wsX7_writeCoded wsX1_chainThere := goodIn_r _ [162, 35, 24, 36, 37, 38, 39, 22, 40, 41, 13, 14, 15, 16, 17, 42, 43, 44, 45, 46, 47, 48, 49, 50, 51, 52, 53, 151, 152, 153, 154, 155, 156, 122, 123, 124, 125, 58, 126, 60, 61, 62, 63, 64, 65, 66, 67, 127, 128, 129, 130, 72, 131, 74, 75, 76, 77, 85, 86, 87, 88, 82, 83, 84, 132, 133, 91, 134, 93, 94, 95, 96, 97, 98, 99, 100, 101, 102, 103, 104, 105, 106, 107, 108, 109, 110, 111, 112, 113, 114, 115, 116, 117, 118, 119, 120, 121, 135, 136, 137, 138, 139, 140, 141, 142, 143, 144, 176, 177, 178, 179, 180, 181, 182, 183, 184, 185, 174, 175, 186, 187] rfl (by decide +kernel)
set_option maxRecDepth 20000 in
theorem gX7_writeCoded_X1_chainThere_u154X0 : GoodIn wsX7_writeCoded (va_wsU RX7 154 RX0 "CipherBox$BlockCipher" ⟨"CipherBox$BlockCipher", "chainThere", "(LCipherBox$Row;LCipherBox$Row;LCipherBox$Row;)V"⟩ yX1_chainThere wsX1_chainThere) := goodIn_app (goodIn_of _ (by decide +kernel)) ggX7_writeCoded_X1_chainThere
set_option maxRecDepth 20000 in
theorem gX7_writeCoded_X1_chainThere_u154X4 : GoodIn wsX7_writeCoded (va_wsU RX7 154 RX4 "CipherBox$BlockCipher" ⟨"CipherBox$BlockCipher", "chainThere", "(LCipherBox$Row;LCipherBox$Row;LCipherBox$Row;)V"⟩ yX1_chainThere wsX1_chainThere) := goodIn_app (goodIn_of _ (by decide +kernel)) ggX7_writeCoded_X1_chainThere
theorem dX7_writeCoded_0 : decode cX7_writeCoded 0 = .ok (.aload_n 0, 1) := by decide +kernel
theorem dX7_writeCoded_1 : decode cX7_writeCoded 1 = .ok (.invokevirtual 136, 3) := by decide +kernel
theorem dX7_writeCoded_4 : decode cX7_writeCoded 4 = .ok (.astore_n 3, 1) := by decide +kernel
theorem dX7_writeCoded_5 : decode cX7_writeCoded 5 = .ok (.aload_n 3, 1) := by decide +kernel
theorem dX7_writeCoded_6 : decode cX7_writeCoded 6 = .ok (.ifnull 17, 3) := by decide +kernel
theorem dX7_writeCoded_9 : decode cX7_writeCoded 9 = .ok (.aload_n 3, 1) := by decide +kernel
theorem dX7_writeCoded_10 : decode cX7_writeCoded 10 = .ok (.aload_n 0, 1) := by decide +kernel
theorem dX7_writeCoded_11 : decode cX7_writeCoded 11 = .ok (.getfield 14, 3) := by decide +kernel
theorem dX7_writeCoded_14 : decode cX7_writeCoded 14 = .ok (.invokevirtual 72, 3) := by decide +kernel
theorem dX7_writeCoded_17 : decode cX7_writeCoded 17 = .ok (.invokevirtual 140, 3) := by decide +kernel
theorem dX7_writeCoded_20 : decode cX7_writeCoded 20 = .ok (.ifCond .ne 5, 3) := by decide +kernel
theorem dX7_writeCoded_23 : decode cX7_writeCoded 23 = .ok (.iconst (-1), 1) := by decide +kernel
theorem dX7_writeCoded_24 : decode cX7_writeCoded 24 = .ok (.ireturn, 1) := by decide +kernel
theorem dX7_writeCoded_25 : decode cX7_writeCoded 25 = .ok (.aload_n 0, 1) := by decide +kernel
theorem dX7_writeCoded_26 : decode cX7_writeCoded 26 = .ok (.getfield 18, 3) := by decide +kernel
theorem dX7_writeCoded_29 : decode cX7_writeCoded 29 = .ok (.iconst 0, 1) := by decide +kernel
theorem dX7_writeCoded_30 : decode cX7_writeCoded 30 = .ok (.invokevirtual 75, 3) := by decide +kernel
theorem dX7_writeCoded_33 : decode cX7_writeCoded 33 = .ok (.iload_n 1, 1) := by decide +kernel
theorem dX7_writeCoded_34 : decode cX7_writeCoded 34 = .ok (.ifCond .ne 19, 3) := by decide +kernel
theorem dX7_writeCoded_37 : decode cX7_writeCoded 37 = .ok (.aload_n 3, 1) := by decide +kernel
theorem dX7_writeCoded_38 : decode cX7_writeCoded 38 = .ok (.aload_n 0, 1) := by decide +kernel
theorem dX7_writeCoded_39 : decode cX7_writeCoded 39 = .ok (.getfield 14, 3) := by decide +kernel
theorem dX7_writeCoded_42 : decode cX7_writeCoded 42 = .ok (.aload_n 0, 1) := by decide +kernel
theorem dX7_writeCoded_43 : decode cX7_writeCoded 43 = .ok (.getfield 18, 3) := by decide +kernel
theorem dX7_writeCoded_46 : decode cX7_writeCoded 46 = .ok (.iload_n 2, 1) := by decide +kernel
theorem dX7_writeCoded_47 : decode cX7_writeCoded 47 = .ok (.invokevirtual 146, 3) := by decide +kernel
theorem dX7_writeCoded_50 : decode cX7_writeCoded 50 = .ok (.goto 42, 3) := by decide +kernel
theorem dX7_writeCoded_53 : decode cX7_writeCoded 53 = .ok (.iload_n 2, 1) := by decide +kernel
theorem dX7_writeCoded_54 : decode cX7_writeCoded 54 = .ok (.ifCond .eq 22, 3) := by decide +kernel
theorem dX7_writeCoded_57 : decode cX7_writeCoded 57 = .ok (.aload_n 3, 1) := by decide +kernel
theorem dX7_writeCoded_58 : decode cX7_writeCoded 58 = .ok (.aload_n 0, 1) := by decide +kernel
theorem dX7_writeCoded_59 : decode cX7_writeCoded 59 = .ok (.getfield 14, 3) := by decide +kernel
theorem dX7_writeCoded_62 : decode cX7_writeCoded 62 = .ok (.aload_n 0, 1) := by decide +kernel
theorem dX7_writeCoded_63 : decode cX7_writeCoded 63 = .ok (.getfield 27, 3) := by decide +kernel
theorem dX7_writeCoded_66 : decode cX7_writeCoded 66 = .ok (.aload_n 0, 1) := by decide +kernel
theorem dX7_writeCoded_67 : decode cX7_writeCoded 67 = .ok (.getfield 18, 3) := by decide +kernel
theorem dX7_writeCoded_70 : decode cX7_writeCoded 70 = .ok (.invokevirtual 150, 3) := by decide +kernel
theorem dX7_writeCoded_73 : decode cX7_writeCoded 73 = .ok (.goto 19, 3) := by decide +kernel
theorem dX7_writeCoded_76 : decode cX7_writeCoded 76 = .ok (.aload_n 3, 1) := by decide +kernel
theorem dX7_writeCoded_77 : decode cX7_writeCoded 77 = .ok (.aload_n 0, 1) := by decide +kernel
theorem dX7_writeCoded_78 : decode cX7_writeCoded 78 = .ok (.getfield 14, 3) := by decide +kernel
theorem dX7_writeCoded_81 : decode cX7_writeCoded 81 = .ok (.aload_n 0, 1) := by decide +kernel
theorem dX7_writeCoded_82 : decode cX7_writeCoded 82 = .ok (.getfield 27, 3) := by decide +kernel
theorem dX7_writeCoded_85 : decode cX7_writeCoded 85 = .ok (.aload_n 0, 1) := by decide +kernel
theorem dX7_writeCoded_86 : decode cX7_writeCoded 86 = .ok (.getfield 18, 3) := by decide +kernel
theorem dX7_writeCoded_89 : decode cX7_writeCoded 89 = .ok (.invokevirtual 154, 3) := by decide +kernel
theorem dX7_writeCoded_92 : decode cX7_writeCoded 92 = .ok (.aload_n 0, 1) := by decide +kernel
theorem dX7_writeCoded_93 : decode cX7_writeCoded 93 = .ok (.getfield 18, 3) := by decide +kernel
theorem dX7_writeCoded_96 : decode cX7_writeCoded 96 = .ok (.invokevirtual 72, 3) := by decide +kernel
theorem dX7_writeCoded_99 : decode cX7_writeCoded 99 = .ok (.ireturn, 1) := by decide +kernel
set_option maxRecDepth 20000 in
theorem ggX7_writePadded_X5_become : GoodIn wsX7_writePadded wsX5_become := goodIn_r _ [8, 9, 10, 11, 7, 12, 13, 14, 15, 16, 17, 18, 19, 20, 21, 22, 23, 24, 25, 26, 27, 28, 29, 30, 50, 51] rfl (by decide +kernel)
set_option maxRecDepth 20000 in
theorem gX7_writePadded_X5_become : GoodIn wsX7_writePadded (wsV RX7 113 RX5 yX5_become wsX5_become) := goodIn_app (goodIn_of _ (by decide +kernel)) ggX7_writePadded_X5_become
set_option maxRecDepth 20000 in
theorem ggX7_writePadded_X5_addPadding : GoodIn wsX7_writePadded wsX5_addPadding := goodIn_r _ [34, 13, 27, 28, 29, 7, 30, 26, 35, 36, 37, 38, 50, 51] rfl (by decide +kernel)
set_option maxRecDepth 20000 in
theorem gX7_writePadded_X5_addPadding : GoodIn wsX7_writePadded (wsV RX7 157 RX5 yX5_addPadding wsX5_addPadding) := goodIn_app (goodIn_of _ (by decide +kernel)) ggX7_writePadded_X5_addPadding
set_option maxRecDepth 20000 in
theorem ggX7_writePadded_X5_size : GoodIn wsX7_writePadded wsX5_size := goodIn_r _ [17, 13, 50, 51] rfl (by decide +kernel)
set_option maxRecDepth 20000 in
theorem gX7_writePadded_X5_size : GoodIn wsX7_writePadded (wsV RX7 72 RX5 yX5_size wsX5_size) := goodIn_app (goodIn_of _ (by decide +kernel)) ggX7_writePadded_X5_size
theorem dX7_writePadded_0 : decode cX7_writePadded 0 = .ok (.iload_n 1, 1) := by decide +kernel
theorem dX7_writePadded_1 : decode cX7_writePadded 1 = .ok (.bipush 8, 2) := by decide +kernel
theorem dX7_writePadded_3 : decode cX7_writePadded 3 = .ok (.if_icmp .eq 11, 3) := by decide +kernel
theorem dX7_writePadded_6 : decode cX7_writePadded 6 = .ok (.iload_n 1, 1) := by decide +kernel
theorem dX7_writePadded_7 : decode cX7_writePadded 7 = .ok (.bipush 16, 2) := by decide +kernel
theorem dX7_writePadded_9 : decode cX7_writePadded 9 = .ok (.if_icmp .eq 5, 3) := by decide +kernel
theorem dX7_writePadded_12 : decode cX7_writePadded 12 = .ok (.iconst (-1), 1) := by decide +kernel
theorem dX7_writePadded_13 : decode cX7_writePadded 13 = .ok (.ireturn, 1) := by decide +kernel
theorem dX7_writePadded_14 : decode cX7_writePadded 14 = .ok (.aload_n 0, 1) := by decide +kernel
theorem dX7_writePadded_15 : decode cX7_writePadded 15 = .ok (.getfield 21, 3) := by decide +kernel
theorem dX7_writePadded_18 : decode cX7_writePadded 18 = .ok (.aload_n 0, 1) := by decide +kernel
theorem dX7_writePadded_19 : decode cX7_writePadded 19 = .ok (.getfield 14, 3) := by decide +kernel
theorem dX7_writePadded_22 : decode cX7_writePadded 22 = .ok (.invokevirtual 113, 3) := by decide +kernel
theorem dX7_writePadded_25 : decode cX7_writePadded 25 = .ok (.aload_n 0, 1) := by decide +kernel
theorem dX7_writePadded_26 : decode cX7_writePadded 26 = .ok (.getfield 21, 3) := by decide +kernel
theorem dX7_writePadded_29 : decode cX7_writePadded 29 = .ok (.iload_n 1, 1) := by decide +kernel
theorem dX7_writePadded_30 : decode cX7_writePadded 30 = .ok (.invokevirtual 157, 3) := by decide +kernel
theorem dX7_writePadded_33 : decode cX7_writePadded 33 = .ok (.aload_n 0, 1) := by decide +kernel
theorem dX7_writePadded_34 : decode cX7_writePadded 34 = .ok (.getfield 21, 3) := by decide +kernel
theorem dX7_writePadded_37 : decode cX7_writePadded 37 = .ok (.invokevirtual 72, 3) := by decide +kernel
theorem dX7_writePadded_40 : decode cX7_writePadded 40 = .ok (.sipush 400, 3) := by decide +kernel
theorem dX7_writePadded_43 : decode cX7_writePadded 43 = .ok (.if_icmp .le 5, 3) := by decide +kernel
theorem dX7_writePadded_46 : decode cX7_writePadded 46 = .ok (.iconst (-1), 1) := by decide +kernel
theorem dX7_writePadded_47 : decode cX7_writePadded 47 = .ok (.ireturn, 1) := by decide +kernel
theorem dX7_writePadded_48 : decode cX7_writePadded 48 = .ok (.aload_n 0, 1) := by decide +kernel
theorem dX7_writePadded_49 : decode cX7_writePadded 49 = .ok (.getfield 18, 3) := by decide +kernel
theorem dX7_writePadded_52 : decode cX7_writePadded 52 = .ok (.aload_n 0, 1) := by decide +kernel
theorem dX7_writePadded_53 : decode cX7_writePadded 53 = .ok (.getfield 21, 3) := by decide +kernel
theorem dX7_writePadded_56 : decode cX7_writePadded 56 = .ok (.invokevirtual 113, 3) := by decide +kernel
theorem dX7_writePadded_59 : decode cX7_writePadded 59 = .ok (.aload_n 0, 1) := by decide +kernel
theorem dX7_writePadded_60 : decode cX7_writePadded 60 = .ok (.getfield 18, 3) := by decide +kernel
theorem dX7_writePadded_63 : decode cX7_writePadded 63 = .ok (.invokevirtual 72, 3) := by decide +kernel
theorem dX7_writePadded_66 : decode cX7_writePadded 66 = .ok (.ireturn, 1) := by decide +kernel
set_option maxRecDepth 20000 in
theorem ggX7_writeUnpadded_X5_lastNotZero : GoodIn wsX7_writeUnpadded wsX5_lastNotZero := goodIn_r _ [7, 8, 9, 10, 11, 6, 12, 13, 41, 42] rfl (by decide +kernel)
set_option maxRecDepth 20000 in
theorem gX7_writeUnpadded_X5_lastNotZero : GoodIn wsX7_writeUnpadded (wsV RX7 160 RX5 yX5_lastNotZero wsX5_lastNotZero) := goodIn_app (goodIn_of _ (by decide +kernel)) ggX7_writeUnpadded_X5_lastNotZero
set_option maxRecDepth 20000 in
theorem ggX7_writeUnpadded_X5_at : GoodIn wsX7_writeUnpadded wsX5_at := goodIn_r _ [12, 8, 13, 41, 42] rfl (by decide +kernel)
set_option maxRecDepth 20000 in
theorem gX7_writeUnpadded_X5_at : GoodIn wsX7_writeUnpadded (wsV RX7 78 RX5 yX5_at wsX5_at) := goodIn_app (goodIn_of _ (by decide +kernel)) ggX7_writeUnpadded_X5_at
set_option maxRecDepth 20000 in
theorem ggX7_writeUnpadded_X5_cut : GoodIn wsX7_writeUnpadded wsX5_cut := goodIn_r _ [18, 8, 41, 42] rfl (by decide +kernel)
set_option maxRecDepth 20000 in
theorem gX7_writeUnpadded_X5_cut : GoodIn wsX7_writeUnpadded (wsV RX7 75 RX5 yX5_cut wsX5_cut) := goodIn_app (goodIn_of _ (by decide +kernel)) ggX7_writeUnpadded_X5_cut
set_option maxRecDepth 20000 in
theorem ggX7_writeUnpadded_X5_addFirst : GoodIn wsX7_writeUnpadded wsX5_addFirst := goodIn_r _ [22, 9, 10, 11, 6, 12, 8, 13, 23, 24, 25, 26, 41, 42] rfl (by decide +kernel)
set_option maxRecDepth 20000 in
theorem gX7_writeUnpadded_X5_addFirst : GoodIn wsX7_writeUnpadded (wsV RX7 82 RX5 yX5_addFirst wsX5_addFirst) := goodIn_app (goodIn_of _ (by decide +kernel)) ggX7_writeUnpadded_X5_addFirst
set_option maxRecDepth 20000 in
theorem ggX7_writeUnpadded_X5_size : GoodIn wsX7_writeUnpadded wsX5_size := goodIn_r _ [30, 8, 41, 42] rfl (by decide +kernel)
set_option maxRecDepth 20000 in
theorem gX7_writeUnpadded_X5_size : GoodIn wsX7_writeUnpadded (wsV RX7 72 RX5 yX5_size wsX5_size) := goodIn_app (goodIn_of _ (by decide +kernel)) ggX7_writeUnpadded_X5_size
theorem dX7_writeUnpadded_0 : decode cX7_writeUnpadded 0 = .ok (.aload_n 0, 1) := by decide +kernel
theorem dX7_writeUnpadded_1 : decode cX7_writeUnpadded 1 = .ok (.getfield 14, 3) := by decide +kernel
theorem dX7_writeUnpadded_4 : decode cX7_writeUnpadded 4 = .ok (.invokevirtual 160, 3) := by decide +kernel
theorem dX7_writeUnpadded_7 : decode cX7_writeUnpadded 7 = .ok (.istore_n 1, 1) := by decide +kernel
theorem dX7_writeUnpadded_8 : decode cX7_writeUnpadded 8 = .ok (.iload_n 1, 1) := by decide +kernel
theorem dX7_writeUnpadded_9 : decode cX7_writeUnpadded 9 = .ok (.ifCond .lt 17, 3) := by decide +kernel
theorem dX7_writeUnpadded_12 : decode cX7_writeUnpadded 12 = .ok (.aload_n 0, 1) := by decide +kernel
theorem dX7_writeUnpadded_13 : decode cX7_writeUnpadded 13 = .ok (.getfield 14, 3) := by decide +kernel
theorem dX7_writeUnpadded_16 : decode cX7_writeUnpadded 16 = .ok (.iload_n 1, 1) := by decide +kernel
theorem dX7_writeUnpadded_17 : decode cX7_writeUnpadded 17 = .ok (.invokevirtual 78, 3) := by decide +kernel
theorem dX7_writeUnpadded_20 : decode cX7_writeUnpadded 20 = .ok (.sipush 128, 3) := by decide +kernel
theorem dX7_writeUnpadded_23 : decode cX7_writeUnpadded 23 = .ok (.if_icmp .eq 5, 3) := by decide +kernel
theorem dX7_writeUnpadded_26 : decode cX7_writeUnpadded 26 = .ok (.iconst (-1), 1) := by decide +kernel
theorem dX7_writeUnpadded_27 : decode cX7_writeUnpadded 27 = .ok (.ireturn, 1) := by decide +kernel
theorem dX7_writeUnpadded_28 : decode cX7_writeUnpadded 28 = .ok (.aload_n 0, 1) := by decide +kernel
theorem dX7_writeUnpadded_29 : decode cX7_writeUnpadded 29 = .ok (.getfield 18, 3) := by decide +kernel
theorem dX7_writeUnpadded_32 : decode cX7_writeUnpadded 32 = .ok (.iconst 0, 1) := by decide +kernel
theorem dX7_writeUnpadded_33 : decode cX7_writeUnpadded 33 = .ok (.invokevirtual 75, 3) := by decide +kernel
theorem dX7_writeUnpadded_36 : decode cX7_writeUnpadded 36 = .ok (.aload_n 0, 1) := by decide +kernel
theorem dX7_writeUnpadded_37 : decode cX7_writeUnpadded 37 = .ok (.getfield 18, 3) := by decide +kernel
theorem dX7_writeUnpadded_40 : decode cX7_writeUnpadded 40 = .ok (.aload_n 0, 1) := by decide +kernel
theorem dX7_writeUnpadded_41 : decode cX7_writeUnpadded 41 = .ok (.getfield 14, 3) := by decide +kernel
theorem dX7_writeUnpadded_44 : decode cX7_writeUnpadded 44 = .ok (.iload_n 1, 1) := by decide +kernel
theorem dX7_writeUnpadded_45 : decode cX7_writeUnpadded 45 = .ok (.invokevirtual 82, 3) := by decide +kernel
theorem dX7_writeUnpadded_48 : decode cX7_writeUnpadded 48 = .ok (.aload_n 0, 1) := by decide +kernel
theorem dX7_writeUnpadded_49 : decode cX7_writeUnpadded 49 = .ok (.getfield 18, 3) := by decide +kernel
theorem dX7_writeUnpadded_52 : decode cX7_writeUnpadded 52 = .ok (.invokevirtual 72, 3) := by decide +kernel
theorem dX7_writeUnpadded_55 : decode cX7_writeUnpadded 55 = .ok (.ireturn, 1) := by decide +kernel
set_option maxRecDepth 20000 in
theorem ggX7_writeDesMac_X5_become : GoodIn wsX7_writeDesMac wsX5_become := goodIn_r _ [10, 11, 12, 13, 9, 14, 15, 16, 17, 18, 19, 20, 21, 22, 23, 24, 25, 26, 27, 28, 29, 30, 31, 32, 194, 195] rfl (by decide +kernel)
set_option maxRecDepth 20000 in
theorem gX7_writeDesMac_X5_become : GoodIn wsX7_writeDesMac (wsV RX7 113 RX5 yX5_become wsX5_become) := goodIn_app (goodIn_of _ (by decide +kernel)) ggX7_writeDesMac_X5_become
set_option maxRecDepth 20000 in
theorem ggX7_writeDesMac_X5_addPadding : GoodIn wsX7_writeDesMac wsX5_addPadding := goodIn_r _ [36, 15, 29, 30, 31, 9, 32, 28, 37, 38, 39, 40, 194, 195] rfl (by decide +kernel)
set_option maxRecDepth 20000 in
theorem gX7_writeDesMac_X5_addPadding : GoodIn wsX7_writeDesMac (wsV RX7 157 RX5 yX5_addPadding wsX5_addPadding) := goodIn_app (goodIn_of _ (by decide +kernel)) ggX7_writeDesMac_X5_addPadding
set_option maxRecDepth 20000 in
theorem ggX7_writeDesMac_X5_cut : GoodIn wsX7_writeDesMac wsX5_cut := goodIn_r _ [14, 15, 194, 195] rfl (by decide +kernel)
set_option maxRecDepth 20000 in
theorem gX7_writeDesMac_X5_cut : GoodIn wsX7_writeDesMac (wsV RX7 75 RX5 yX5_cut wsX5_cut) := goodIn_app (goodIn_of _ (by decide +kernel)) ggX7_writeDesMac_X5_cut
set_option maxRecDepth 20000 in
theorem ggX7_writeDesMac_X4_retail : GoodIn wsX7_writeDesMac wsX4_retail := goodIn_r _ [46, 47, 48, 49, 50, 51, 52, 53, 54, 55, 56, 17, 18, 9, 19, 15, 57, 58, 59, 60, 61, 62, 63, 64, 65, 24, 25, 26, 27, 28, 66, 67, 68, 69, 70, 71, 72, 73, 74, 75, 76, 77, 78, 79, 80, 81, 82, 83, 84, 85, 86, 87, 88, 89, 90, 91, 92, 93, 94, 29, 30, 31, 32, 196, 197, 198, 199, 200, 201, 202, 203, 204, 205, 194, 195, 206, 207] rfl (by decide +kernel)
set_option maxRecDepth 20000 in
theorem gX7_writeDesMac_X4_retail : GoodIn wsX7_writeDesMac (wsV RX7 163 RX4 yX4_retail wsX4_retail) := goodIn_app (goodIn_of _ (by decide +kernel)) ggX7_writeDesMac_X4_retail
set_option maxRecDepth 20000 in
theorem ggX7_writeDesMac_X1_lastOfChain : GoodIn wsX7_writeDesMac wsX1_lastOfChain := goodIn_r _ [99, 100, 101, 102, 103, 104, 53, 105, 106, 107, 108, 109, 110, 111, 112, 113, 52, 54, 55, 56, 17, 18, 9, 19, 15, 114, 115, 116, 117, 118, 119, 120, 121, 122, 123, 124, 125, 25, 26, 27, 28, 126, 127, 128, 129, 130, 131, 132, 133, 134, 135, 136, 137, 138, 139, 140, 141, 142, 143, 144, 145, 146, 147, 148, 149, 150, 151, 152, 153, 154, 155, 156, 157, 158, 159, 45, 160, 161, 47, 48, 162, 163, 164, 165, 166, 167, 168, 169, 74, 69, 75, 170, 77, 78, 79, 80, 81, 82, 83, 84, 85, 86, 171, 172, 173, 174, 175, 176, 177, 178, 179, 180, 181, 30, 31, 32, 182, 200, 201, 202, 203, 204, 205, 196, 197, 198, 199, 194, 195, 206, 207] rfl (by decide +kernel)
set_option maxRecDepth 20000 in
theorem gX7_writeDesMac_X1_lastOfChain_u166X4 : GoodIn wsX7_writeDesMac (va_wsU RX7 166 RX4 "CipherBox$BlockCipher" ⟨"CipherBox$Des3", "lastOfChain", "(LCipherBox$Row;LCipherBox$Row;)V"⟩ yX1_lastOfChain wsX1_lastOfChain) := goodIn_app (goodIn_of _ (by decide +kernel)) ggX7_writeDesMac_X1_lastOfChain
set_option maxRecDepth 20000 in
theorem ggX7_writeDesMac_X5_size : GoodIn wsX7_writeDesMac wsX5_size := goodIn_r _ [19, 15, 194, 195] rfl (by decide +kernel)
set_option maxRecDepth 20000 in
theorem gX7_writeDesMac_X5_size : GoodIn wsX7_writeDesMac (wsV RX7 72 RX5 yX5_size wsX5_size) := goodIn_app (goodIn_of _ (by decide +kernel)) ggX7_writeDesMac_X5_size
theorem dX7_writeDesMac_0 : decode cX7_writeDesMac 0 = .ok (.aload_n 0, 1) := by decide +kernel
theorem dX7_writeDesMac_1 : decode cX7_writeDesMac 1 = .ok (.getfield 21, 3) := by decide +kernel
theorem dX7_writeDesMac_4 : decode cX7_writeDesMac 4 = .ok (.aload_n 0, 1) := by decide +kernel
theorem dX7_writeDesMac_5 : decode cX7_writeDesMac 5 = .ok (.getfield 14, 3) := by decide +kernel
theorem dX7_writeDesMac_8 : decode cX7_writeDesMac 8 = .ok (.invokevirtual 113, 3) := by decide +kernel
theorem dX7_writeDesMac_11 : decode cX7_writeDesMac 11 = .ok (.aload_n 0, 1) := by decide +kernel
theorem dX7_writeDesMac_12 : decode cX7_writeDesMac 12 = .ok (.getfield 21, 3) := by decide +kernel
theorem dX7_writeDesMac_15 : decode cX7_writeDesMac 15 = .ok (.bipush 8, 2) := by decide +kernel
theorem dX7_writeDesMac_17 : decode cX7_writeDesMac 17 = .ok (.invokevirtual 157, 3) := by decide +kernel
theorem dX7_writeDesMac_20 : decode cX7_writeDesMac 20 = .ok (.aload_n 0, 1) := by decide +kernel
theorem dX7_writeDesMac_21 : decode cX7_writeDesMac 21 = .ok (.getfield 18, 3) := by decide +kernel
theorem dX7_writeDesMac_24 : decode cX7_writeDesMac 24 = .ok (.iconst 0, 1) := by decide +kernel
theorem dX7_writeDesMac_25 : decode cX7_writeDesMac 25 = .ok (.invokevirtual 75, 3) := by decide +kernel
theorem dX7_writeDesMac_28 : decode cX7_writeDesMac 28 = .ok (.iload_n 1, 1) := by decide +kernel
theorem dX7_writeDesMac_29 : decode cX7_writeDesMac 29 = .ok (.ifCond .eq 25, 3) := by decide +kernel
theorem dX7_writeDesMac_32 : decode cX7_writeDesMac 32 = .ok (.aload_n 0, 1) := by decide +kernel
theorem dX7_writeDesMac_33 : decode cX7_writeDesMac 33 = .ok (.getfield 33, 3) := by decide +kernel
theorem dX7_writeDesMac_36 : decode cX7_writeDesMac 36 = .ok (.aload_n 0, 1) := by decide +kernel
theorem dX7_writeDesMac_37 : decode cX7_writeDesMac 37 = .ok (.getfield 21, 3) := by decide +kernel
theorem dX7_writeDesMac_40 : decode cX7_writeDesMac 40 = .ok (.aload_n 0, 1) := by decide +kernel
theorem dX7_writeDesMac_41 : decode cX7_writeDesMac 41 = .ok (.getfield 27, 3) := by decide +kernel
theorem dX7_writeDesMac_44 : decode cX7_writeDesMac 44 = .ok (.aload_n 0, 1) := by decide +kernel
theorem dX7_writeDesMac_45 : decode cX7_writeDesMac 45 = .ok (.getfield 18, 3) := by decide +kernel
theorem dX7_writeDesMac_48 : decode cX7_writeDesMac 48 = .ok (.invokevirtual 163, 3) := by decide +kernel
theorem dX7_writeDesMac_51 : decode cX7_writeDesMac 51 = .ok (.goto 18, 3) := by decide +kernel
theorem dX7_writeDesMac_54 : decode cX7_writeDesMac 54 = .ok (.aload_n 0, 1) := by decide +kernel
theorem dX7_writeDesMac_55 : decode cX7_writeDesMac 55 = .ok (.getfield 33, 3) := by decide +kernel
theorem dX7_writeDesMac_58 : decode cX7_writeDesMac 58 = .ok (.aload_n 0, 1) := by decide +kernel
theorem dX7_writeDesMac_59 : decode cX7_writeDesMac 59 = .ok (.getfield 21, 3) := by decide +kernel
theorem dX7_writeDesMac_62 : decode cX7_writeDesMac 62 = .ok (.aload_n 0, 1) := by decide +kernel
theorem dX7_writeDesMac_63 : decode cX7_writeDesMac 63 = .ok (.getfield 18, 3) := by decide +kernel
theorem dX7_writeDesMac_66 : decode cX7_writeDesMac 66 = .ok (.invokevirtual 166, 3) := by decide +kernel
theorem dX7_writeDesMac_69 : decode cX7_writeDesMac 69 = .ok (.aload_n 0, 1) := by decide +kernel
theorem dX7_writeDesMac_70 : decode cX7_writeDesMac 70 = .ok (.getfield 18, 3) := by decide +kernel
theorem dX7_writeDesMac_73 : decode cX7_writeDesMac 73 = .ok (.invokevirtual 72, 3) := by decide +kernel
theorem dX7_writeDesMac_76 : decode cX7_writeDesMac 76 = .ok (.ireturn, 1) := by decide +kernel
set_option maxRecDepth 20000 in
theorem ggX7_writeCmac_X5_cut : GoodIn wsX7_writeCmac wsX5_cut := goodIn_r _ [9, 10, 159, 160] rfl (by decide +kernel)
set_option maxRecDepth 20000 in
theorem gX7_writeCmac_X5_cut : GoodIn wsX7_writeCmac (wsV RX7 75 RX5 yX5_cut wsX5_cut) := goodIn_app (goodIn_of _ (by decide +kernel)) ggX7_writeCmac_X5_cut
set_option maxRecDepth 20000 in
theorem ggX7_writeCmac_X2_tag : GoodIn wsX7_writeCmac wsX2_tag := goodIn_r _ [15, 16, 17, 18, 19, 20, 21, 8, 22, 10, 23, 24, 25, 26, 27, 28, 29, 30, 31, 32, 14, 33, 34, 35, 36, 37, 38, 39, 40, 41, 42, 43, 44, 45, 46, 47, 48, 49, 50, 51, 52, 53, 54, 55, 56, 57, 58, 59, 60, 61, 62, 63, 64, 65, 66, 67, 68, 69, 70, 71, 72, 73, 74, 75, 76, 77, 78, 79, 80, 81, 82, 83, 84, 85, 86, 87, 88, 89, 90, 91, 92, 93, 94, 95, 96, 97, 98, 99, 100, 101, 102, 103, 104, 105, 106, 107, 108, 109, 110, 111, 112, 113, 114, 115, 116, 117, 118, 119, 120, 121, 122, 123, 124, 125, 126, 127, 128, 129, 130, 131, 132, 133, 134, 135, 136, 137, 138, 139, 140, 141, 142, 143, 144, 145, 146, 147, 161, 162, 163, 164, 165, 166, 167, 168, 169, 170, 171, 159, 160, 172, 173] rfl (by decide +kernel)
set_option maxRecDepth 20000 in
theorem gX7_writeCmac_X2_tag : GoodIn wsX7_writeCmac (wsV RX7 169 RX2 yX2_tag wsX2_tag) := goodIn_app (goodIn_of _ (by decide +kernel)) ggX7_writeCmac_X2_tag
set_option maxRecDepth 20000 in
theorem ggX7_writeCmac_X5_size : GoodIn wsX7_writeCmac wsX5_size := goodIn_r _ [22, 10, 159, 160] rfl (by decide +kernel)
set_option maxRecDepth 20000 in
theorem gX7_writeCmac_X5_size : GoodIn wsX7_writeCmac (wsV RX7 72 RX5 yX5_size wsX5_size) := goodIn_app (goodIn_of _ (by decide +kernel)) ggX7_writeCmac_X5_size
theorem dX7_writeCmac_0 : decode cX7_writeCmac 0 = .ok (.aload_n 0, 1) := by decide +kernel
theorem dX7_writeCmac_1 : decode cX7_writeCmac 1 = .ok (.getfield 18, 3) := by decide +kernel
theorem dX7_writeCmac_4 : decode cX7_writeCmac 4 = .ok (.iconst 0, 1) := by decide +kernel
theorem dX7_writeCmac_5 : decode cX7_writeCmac 5 = .ok (.invokevirtual 75, 3) := by decide +kernel
theorem dX7_writeCmac_8 : decode cX7_writeCmac 8 = .ok (.aload_n 0, 1) := by decide +kernel
theorem dX7_writeCmac_9 : decode cX7_writeCmac 9 = .ok (.getfield 47, 3) := by decide +kernel
theorem dX7_writeCmac_12 : decode cX7_writeCmac 12 = .ok (.aload_n 0, 1) := by decide +kernel
theorem dX7_writeCmac_13 : decode cX7_writeCmac 13 = .ok (.getfield 40, 3) := by decide +kernel
theorem dX7_writeCmac_16 : decode cX7_writeCmac 16 = .ok (.aload_n 0, 1) := by decide +kernel
theorem dX7_writeCmac_17 : decode cX7_writeCmac 17 = .ok (.getfield 14, 3) := by decide +kernel
theorem dX7_writeCmac_20 : decode cX7_writeCmac 20 = .ok (.aload_n 0, 1) := by decide +kernel
theorem dX7_writeCmac_21 : decode cX7_writeCmac 21 = .ok (.getfield 18, 3) := by decide +kernel
theorem dX7_writeCmac_24 : decode cX7_writeCmac 24 = .ok (.bipush 16, 2) := by decide +kernel
theorem dX7_writeCmac_26 : decode cX7_writeCmac 26 = .ok (.invokevirtual 169, 3) := by decide +kernel
theorem dX7_writeCmac_29 : decode cX7_writeCmac 29 = .ok (.aload_n 0, 1) := by decide +kernel
theorem dX7_writeCmac_30 : decode cX7_writeCmac 30 = .ok (.getfield 18, 3) := by decide +kernel
theorem dX7_writeCmac_33 : decode cX7_writeCmac 33 = .ok (.invokevirtual 72, 3) := by decide +kernel
theorem dX7_writeCmac_36 : decode cX7_writeCmac 36 = .ok (.ireturn, 1) := by decide +kernel
set_option maxRecDepth 20000 in
theorem ggX7_writeDerived_X5_size : GoodIn wsX7_writeDerived wsX5_size := goodIn_r _ [15, 16, 181, 182] rfl (by decide +kernel)
set_option maxRecDepth 20000 in
theorem gX7_writeDerived_X5_size : GoodIn wsX7_writeDerived (wsV RX7 72 RX5 yX5_size wsX5_size) := goodIn_app (goodIn_of _ (by decide +kernel)) ggX7_writeDerived_X5_size
set_option maxRecDepth 20000 in
theorem ggX7_writeDerived_X5_cut : GoodIn wsX7_writeDerived wsX5_cut := goodIn_r _ [20, 16, 181, 182] rfl (by decide +kernel)
set_option maxRecDepth 20000 in
theorem gX7_writeDerived_X5_cut : GoodIn wsX7_writeDerived (wsV RX7 75 RX5 yX5_cut wsX5_cut) := goodIn_app (goodIn_of _ (by decide +kernel)) ggX7_writeDerived_X5_cut
set_option maxRecDepth 20000 in
theorem ggX7_writeDerived_X7_layDerivation : GoodIn wsX7_writeDerived wsX7_layDerivation := goodIn_r _ [25, 6, 2, 17, 18, 19, 14, 20, 16, 26, 27, 28, 29, 30, 31, 32, 33, 34, 35, 11, 12, 13, 15, 36, 37, 38, 39, 40, 41, 42, 43, 171, 172, 173, 174, 175, 176, 177, 178, 179, 180, 181, 182] rfl (by decide +kernel)
set_option maxRecDepth 20000 in
theorem gX7_writeDerived_X7_layDerivation : GoodIn wsX7_writeDerived (wsV RX7 173 RX7 yX7_layDerivation wsX7_layDerivation) := goodIn_app (goodIn_of _ (by decide +kernel)) ggX7_writeDerived_X7_layDerivation
