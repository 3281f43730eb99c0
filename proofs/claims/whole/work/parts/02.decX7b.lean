set_option maxRecDepth 20000 in
theorem ggX7_writeDerived_X2_tag : GoodIn wsX7_writeDerived wsX2_tag := goodIn_r _ [48, 49, 50, 51, 52, 12, 13, 14, 15, 16, 53, 54, 55, 56, 57, 58, 59, 60, 61, 62, 47, 63, 64, 65, 66, 67, 68, 69, 70, 71, 72, 73, 74, 75, 76, 77, 78, 79, 80, 81, 82, 83, 84, 85, 86, 87, 88, 89, 90, 91, 92, 93, 94, 95, 96, 97, 98, 99, 100, 101, 102, 103, 104, 105, 106, 107, 108, 109, 110, 111, 112, 113, 114, 115, 116, 117, 118, 119, 120, 121, 122, 123, 124, 41, 42, 43, 34, 125, 126, 127, 128, 129, 130, 131, 132, 133, 134, 135, 136, 137, 138, 139, 140, 141, 142, 143, 144, 145, 146, 147, 148, 149, 150, 151, 152, 153, 154, 155, 156, 157, 158, 159, 160, 161, 162, 163, 164, 165, 166, 167, 168, 169, 170, 31, 32, 33, 183, 184, 185, 186, 187, 188, 189, 190, 191, 192, 193, 181, 182, 194, 195] rfl (by decide +kernel)
set_option maxRecDepth 20000 in
theorem gX7_writeDerived_X2_tag : GoodIn wsX7_writeDerived (wsV RX7 169 RX2 yX2_tag wsX2_tag) := goodIn_app (goodIn_of _ (by decide +kernel)) ggX7_writeDerived_X2_tag
theorem dX7_writeDerived_0 : decode cX7_writeDerived 0 = .ok (.aload_n 0, 1) := by decide +kernel
theorem dX7_writeDerived_1 : decode cX7_writeDerived 1 = .ok (.getfield 58, 3) := by decide +kernel
theorem dX7_writeDerived_4 : decode cX7_writeDerived 4 = .ok (.iconst 1, 1) := by decide +kernel
theorem dX7_writeDerived_5 : decode cX7_writeDerived 5 = .ok (.if_icmp .ne 14, 3) := by decide +kernel
theorem dX7_writeDerived_8 : decode cX7_writeDerived 8 = .ok (.iload_n 1, 1) := by decide +kernel
theorem dX7_writeDerived_9 : decode cX7_writeDerived 9 = .ok (.ifCond .lt 10, 3) := by decide +kernel
theorem dX7_writeDerived_12 : decode cX7_writeDerived 12 = .ok (.iload_n 1, 1) := by decide +kernel
theorem dX7_writeDerived_13 : decode cX7_writeDerived 13 = .ok (.sipush 255, 3) := by decide +kernel
theorem dX7_writeDerived_16 : decode cX7_writeDerived 16 = .ok (.if_icmp .le 5, 3) := by decide +kernel
theorem dX7_writeDerived_19 : decode cX7_writeDerived 19 = .ok (.iconst (-1), 1) := by decide +kernel
theorem dX7_writeDerived_20 : decode cX7_writeDerived 20 = .ok (.ireturn, 1) := by decide +kernel
theorem dX7_writeDerived_21 : decode cX7_writeDerived 21 = .ok (.iload_n 2, 1) := by decide +kernel
theorem dX7_writeDerived_22 : decode cX7_writeDerived 22 = .ok (.iconst 1, 1) := by decide +kernel
theorem dX7_writeDerived_23 : decode cX7_writeDerived 23 = .ok (.if_icmp .lt 21, 3) := by decide +kernel
theorem dX7_writeDerived_26 : decode cX7_writeDerived 26 = .ok (.iload_n 2, 1) := by decide +kernel
theorem dX7_writeDerived_27 : decode cX7_writeDerived 27 = .ok (.bipush 64, 2) := by decide +kernel
theorem dX7_writeDerived_29 : decode cX7_writeDerived 29 = .ok (.if_icmp .gt 15, 3) := by decide +kernel
theorem dX7_writeDerived_32 : decode cX7_writeDerived 32 = .ok (.aload_n 0, 1) := by decide +kernel
theorem dX7_writeDerived_33 : decode cX7_writeDerived 33 = .ok (.getfield 14, 3) := by decide +kernel
theorem dX7_writeDerived_36 : decode cX7_writeDerived 36 = .ok (.invokevirtual 72, 3) := by decide +kernel
theorem dX7_writeDerived_39 : decode cX7_writeDerived 39 = .ok (.bipush 100, 2) := by decide +kernel
theorem dX7_writeDerived_41 : decode cX7_writeDerived 41 = .ok (.if_icmp .le 5, 3) := by decide +kernel
theorem dX7_writeDerived_44 : decode cX7_writeDerived 44 = .ok (.iconst (-1), 1) := by decide +kernel
theorem dX7_writeDerived_45 : decode cX7_writeDerived 45 = .ok (.ireturn, 1) := by decide +kernel
theorem dX7_writeDerived_46 : decode cX7_writeDerived 46 = .ok (.aload_n 0, 1) := by decide +kernel
theorem dX7_writeDerived_47 : decode cX7_writeDerived 47 = .ok (.getfield 18, 3) := by decide +kernel
theorem dX7_writeDerived_50 : decode cX7_writeDerived 50 = .ok (.iconst 0, 1) := by decide +kernel
theorem dX7_writeDerived_51 : decode cX7_writeDerived 51 = .ok (.invokevirtual 75, 3) := by decide +kernel
theorem dX7_writeDerived_54 : decode cX7_writeDerived 54 = .ok (.iload_n 2, 1) := by decide +kernel
theorem dX7_writeDerived_55 : decode cX7_writeDerived 55 = .ok (.bipush 16, 2) := by decide +kernel
theorem dX7_writeDerived_57 : decode cX7_writeDerived 57 = .ok (.iadd, 1) := by decide +kernel
theorem dX7_writeDerived_58 : decode cX7_writeDerived 58 = .ok (.iconst 1, 1) := by decide +kernel
theorem dX7_writeDerived_59 : decode cX7_writeDerived 59 = .ok (.isub, 1) := by decide +kernel
theorem dX7_writeDerived_60 : decode cX7_writeDerived 60 = .ok (.bipush 16, 2) := by decide +kernel
theorem dX7_writeDerived_62 : decode cX7_writeDerived 62 = .ok (.idiv, 1) := by decide +kernel
theorem dX7_writeDerived_63 : decode cX7_writeDerived 63 = .ok (.istore_n 3, 1) := by decide +kernel
theorem dX7_writeDerived_64 : decode cX7_writeDerived 64 = .ok (.iconst 1, 1) := by decide +kernel
theorem dX7_writeDerived_65 : decode cX7_writeDerived 65 = .ok (.istore 4, 2) := by decide +kernel
theorem dX7_writeDerived_67 : decode cX7_writeDerived 67 = .ok (.iload 4, 2) := by decide +kernel
theorem dX7_writeDerived_69 : decode cX7_writeDerived 69 = .ok (.iload_n 3, 1) := by decide +kernel
theorem dX7_writeDerived_70 : decode cX7_writeDerived 70 = .ok (.if_icmp .gt 50, 3) := by decide +kernel
theorem dX7_writeDerived_73 : decode cX7_writeDerived 73 = .ok (.aload_n 0, 1) := by decide +kernel
theorem dX7_writeDerived_74 : decode cX7_writeDerived 74 = .ok (.iload_n 1, 1) := by decide +kernel
theorem dX7_writeDerived_75 : decode cX7_writeDerived 75 = .ok (.iload_n 2, 1) := by decide +kernel
theorem dX7_writeDerived_76 : decode cX7_writeDerived 76 = .ok (.iload 4, 2) := by decide +kernel
theorem dX7_writeDerived_78 : decode cX7_writeDerived 78 = .ok (.invokevirtual 173, 3) := by decide +kernel
theorem dX7_writeDerived_81 : decode cX7_writeDerived 81 = .ok (.aload_n 0, 1) := by decide +kernel
theorem dX7_writeDerived_82 : decode cX7_writeDerived 82 = .ok (.getfield 47, 3) := by decide +kernel
theorem dX7_writeDerived_85 : decode cX7_writeDerived 85 = .ok (.aload_n 0, 1) := by decide +kernel
theorem dX7_writeDerived_86 : decode cX7_writeDerived 86 = .ok (.getfield 40, 3) := by decide +kernel
theorem dX7_writeDerived_89 : decode cX7_writeDerived 89 = .ok (.aload_n 0, 1) := by decide +kernel
theorem dX7_writeDerived_90 : decode cX7_writeDerived 90 = .ok (.getfield 21, 3) := by decide +kernel
theorem dX7_writeDerived_93 : decode cX7_writeDerived 93 = .ok (.aload_n 0, 1) := by decide +kernel
theorem dX7_writeDerived_94 : decode cX7_writeDerived 94 = .ok (.getfield 18, 3) := by decide +kernel
theorem dX7_writeDerived_97 : decode cX7_writeDerived 97 = .ok (.bipush 16, 2) := by decide +kernel
theorem dX7_writeDerived_99 : decode cX7_writeDerived 99 = .ok (.iload_n 2, 1) := by decide +kernel
theorem dX7_writeDerived_100 : decode cX7_writeDerived 100 = .ok (.aload_n 0, 1) := by decide +kernel
theorem dX7_writeDerived_101 : decode cX7_writeDerived 101 = .ok (.getfield 18, 3) := by decide +kernel
theorem dX7_writeDerived_104 : decode cX7_writeDerived 104 = .ok (.invokevirtual 72, 3) := by decide +kernel
theorem dX7_writeDerived_107 : decode cX7_writeDerived 107 = .ok (.isub, 1) := by decide +kernel
theorem dX7_writeDerived_108 : decode cX7_writeDerived 108 = .ok (.invokestatic 177, 3) := by decide +kernel
theorem dX7_writeDerived_111 : decode cX7_writeDerived 111 = .ok (.invokevirtual 169, 3) := by decide +kernel
theorem dX7_writeDerived_114 : decode cX7_writeDerived 114 = .ok (.iinc 4 1, 3) := by decide +kernel
theorem dX7_writeDerived_117 : decode cX7_writeDerived 117 = .ok (.goto (-50), 3) := by decide +kernel
theorem dX7_writeDerived_120 : decode cX7_writeDerived 120 = .ok (.aload_n 0, 1) := by decide +kernel
theorem dX7_writeDerived_121 : decode cX7_writeDerived 121 = .ok (.getfield 18, 3) := by decide +kernel
theorem dX7_writeDerived_124 : decode cX7_writeDerived 124 = .ok (.invokevirtual 72, 3) := by decide +kernel
theorem dX7_writeDerived_127 : decode cX7_writeDerived 127 = .ok (.ireturn, 1) := by decide +kernel
set_option maxRecDepth 20000 in
theorem ggX7_layDerivation_X5_cut : GoodIn wsX7_layDerivation wsX5_cut := goodIn_r _ [7, 8, 41, 42] rfl (by decide +kernel)
set_option maxRecDepth 20000 in
theorem gX7_layDerivation_X5_cut : GoodIn wsX7_layDerivation (wsV RX7 75 RX5 yX5_cut wsX5_cut) := goodIn_app (goodIn_of _ (by decide +kernel)) ggX7_layDerivation_X5_cut
set_option maxRecDepth 20000 in
theorem ggX7_layDerivation_X5_addZeros : GoodIn wsX7_layDerivation wsX5_addZeros := goodIn_r _ [12, 13, 14, 15, 6, 16, 8, 17, 41, 42] rfl (by decide +kernel)
set_option maxRecDepth 20000 in
theorem gX7_layDerivation_X5_addZeros : GoodIn wsX7_layDerivation (wsV RX7 62 RX5 yX5_addZeros wsX5_addZeros) := goodIn_app (goodIn_of _ (by decide +kernel)) ggX7_layDerivation_X5_addZeros
set_option maxRecDepth 20000 in
theorem ggX7_layDerivation_X5_add : GoodIn wsX7_layDerivation wsX5_add := goodIn_r _ [16, 8, 17, 41, 42] rfl (by decide +kernel)
set_option maxRecDepth 20000 in
theorem gX7_layDerivation_X5_add : GoodIn wsX7_layDerivation (wsV RX7 182 RX5 yX5_add wsX5_add) := goodIn_app (goodIn_of _ (by decide +kernel)) ggX7_layDerivation_X5_add
set_option maxRecDepth 20000 in
theorem ggX7_layDerivation_X5_size : GoodIn wsX7_layDerivation wsX5_size := goodIn_r _ [22, 8, 41, 42] rfl (by decide +kernel)
set_option maxRecDepth 20000 in
theorem gX7_layDerivation_X5_size : GoodIn wsX7_layDerivation (wsV RX7 72 RX5 yX5_size wsX5_size) := goodIn_app (goodIn_of _ (by decide +kernel)) ggX7_layDerivation_X5_size
set_option maxRecDepth 20000 in
theorem ggX7_layDerivation_X5_addFirst : GoodIn wsX7_layDerivation wsX5_addFirst := goodIn_r _ [26, 27, 28, 29, 6, 30, 8, 17, 13, 14, 15, 16, 41, 42] rfl (by decide +kernel)
set_option maxRecDepth 20000 in
theorem gX7_layDerivation_X5_addFirst : GoodIn wsX7_layDerivation (wsV RX7 82 RX5 yX5_addFirst wsX5_addFirst) := goodIn_app (goodIn_of _ (by decide +kernel)) ggX7_layDerivation_X5_addFirst
theorem dX7_layDerivation_0 : decode cX7_layDerivation 0 = .ok (.bipush 8, 2) := by decide +kernel
theorem dX7_layDerivation_2 : decode cX7_layDerivation 2 = .ok (.iload_n 2, 1) := by decide +kernel
theorem dX7_layDerivation_3 : decode cX7_layDerivation 3 = .ok (.imul, 1) := by decide +kernel
theorem dX7_layDerivation_4 : decode cX7_layDerivation 4 = .ok (.istore 4, 2) := by decide +kernel
theorem dX7_layDerivation_6 : decode cX7_layDerivation 6 = .ok (.aload_n 0, 1) := by decide +kernel
theorem dX7_layDerivation_7 : decode cX7_layDerivation 7 = .ok (.getfield 21, 3) := by decide +kernel
theorem dX7_layDerivation_10 : decode cX7_layDerivation 10 = .ok (.iconst 0, 1) := by decide +kernel
theorem dX7_layDerivation_11 : decode cX7_layDerivation 11 = .ok (.invokevirtual 75, 3) := by decide +kernel
theorem dX7_layDerivation_14 : decode cX7_layDerivation 14 = .ok (.aload_n 0, 1) := by decide +kernel
theorem dX7_layDerivation_15 : decode cX7_layDerivation 15 = .ok (.getfield 21, 3) := by decide +kernel
theorem dX7_layDerivation_18 : decode cX7_layDerivation 18 = .ok (.bipush 11, 2) := by decide +kernel
theorem dX7_layDerivation_20 : decode cX7_layDerivation 20 = .ok (.invokevirtual 62, 3) := by decide +kernel
theorem dX7_layDerivation_23 : decode cX7_layDerivation 23 = .ok (.aload_n 0, 1) := by decide +kernel
theorem dX7_layDerivation_24 : decode cX7_layDerivation 24 = .ok (.getfield 21, 3) := by decide +kernel
theorem dX7_layDerivation_27 : decode cX7_layDerivation 27 = .ok (.iload_n 1, 1) := by decide +kernel
theorem dX7_layDerivation_28 : decode cX7_layDerivation 28 = .ok (.invokevirtual 182, 3) := by decide +kernel
theorem dX7_layDerivation_31 : decode cX7_layDerivation 31 = .ok (.aload_n 0, 1) := by decide +kernel
theorem dX7_layDerivation_32 : decode cX7_layDerivation 32 = .ok (.getfield 21, 3) := by decide +kernel
theorem dX7_layDerivation_35 : decode cX7_layDerivation 35 = .ok (.iconst 0, 1) := by decide +kernel
theorem dX7_layDerivation_36 : decode cX7_layDerivation 36 = .ok (.invokevirtual 182, 3) := by decide +kernel
theorem dX7_layDerivation_39 : decode cX7_layDerivation 39 = .ok (.aload_n 0, 1) := by decide +kernel
theorem dX7_layDerivation_40 : decode cX7_layDerivation 40 = .ok (.getfield 21, 3) := by decide +kernel
theorem dX7_layDerivation_43 : decode cX7_layDerivation 43 = .ok (.iload 4, 2) := by decide +kernel
theorem dX7_layDerivation_45 : decode cX7_layDerivation 45 = .ok (.bipush 8, 2) := by decide +kernel
theorem dX7_layDerivation_47 : decode cX7_layDerivation 47 = .ok (.iushr, 1) := by decide +kernel
theorem dX7_layDerivation_48 : decode cX7_layDerivation 48 = .ok (.invokevirtual 182, 3) := by decide +kernel
theorem dX7_layDerivation_51 : decode cX7_layDerivation 51 = .ok (.aload_n 0, 1) := by decide +kernel
theorem dX7_layDerivation_52 : decode cX7_layDerivation 52 = .ok (.getfield 21, 3) := by decide +kernel
theorem dX7_layDerivation_55 : decode cX7_layDerivation 55 = .ok (.iload 4, 2) := by decide +kernel
theorem dX7_layDerivation_57 : decode cX7_layDerivation 57 = .ok (.invokevirtual 182, 3) := by decide +kernel
theorem dX7_layDerivation_60 : decode cX7_layDerivation 60 = .ok (.aload_n 0, 1) := by decide +kernel
theorem dX7_layDerivation_61 : decode cX7_layDerivation 61 = .ok (.getfield 21, 3) := by decide +kernel
theorem dX7_layDerivation_64 : decode cX7_layDerivation 64 = .ok (.iload_n 3, 1) := by decide +kernel
theorem dX7_layDerivation_65 : decode cX7_layDerivation 65 = .ok (.invokevirtual 182, 3) := by decide +kernel
theorem dX7_layDerivation_68 : decode cX7_layDerivation 68 = .ok (.aload_n 0, 1) := by decide +kernel
theorem dX7_layDerivation_69 : decode cX7_layDerivation 69 = .ok (.getfield 21, 3) := by decide +kernel
theorem dX7_layDerivation_72 : decode cX7_layDerivation 72 = .ok (.aload_n 0, 1) := by decide +kernel
theorem dX7_layDerivation_73 : decode cX7_layDerivation 73 = .ok (.getfield 14, 3) := by decide +kernel
theorem dX7_layDerivation_76 : decode cX7_layDerivation 76 = .ok (.aload_n 0, 1) := by decide +kernel
theorem dX7_layDerivation_77 : decode cX7_layDerivation 77 = .ok (.getfield 14, 3) := by decide +kernel
theorem dX7_layDerivation_80 : decode cX7_layDerivation 80 = .ok (.invokevirtual 72, 3) := by decide +kernel
theorem dX7_layDerivation_83 : decode cX7_layDerivation 83 = .ok (.invokevirtual 82, 3) := by decide +kernel
theorem dX7_layDerivation_86 : decode cX7_layDerivation 86 = .ok (.return_, 1) := by decide +kernel
theorem dX7_turnRight_0 : decode cX7_turnRight 0 = .ok (.iload_n 0, 1) := by decide +kernel
theorem dX7_turnRight_1 : decode cX7_turnRight 1 = .ok (.iload_n 1, 1) := by decide +kernel
theorem dX7_turnRight_2 : decode cX7_turnRight 2 = .ok (.iushr, 1) := by decide +kernel
theorem dX7_turnRight_3 : decode cX7_turnRight 3 = .ok (.iload_n 0, 1) := by decide +kernel
theorem dX7_turnRight_4 : decode cX7_turnRight 4 = .ok (.iload_n 1, 1) := by decide +kernel
theorem dX7_turnRight_5 : decode cX7_turnRight 5 = .ok (.ineg, 1) := by decide +kernel
theorem dX7_turnRight_6 : decode cX7_turnRight 6 = .ok (.ishl, 1) := by decide +kernel
theorem dX7_turnRight_7 : decode cX7_turnRight 7 = .ok (.ior, 1) := by decide +kernel
theorem dX7_turnRight_8 : decode cX7_turnRight 8 = .ok (.ireturn, 1) := by decide +kernel
