theorem dX3_init_0 : decode cX3_init 0 = .ok (.aload_n 0, 1) := by decide +kernel
theorem dX3_init_1 : decode cX3_init 1 = .ok (.invokespecial 1, 3) := by decide +kernel
theorem dX3_init_4 : decode cX3_init 4 = .ok (.aload_n 0, 1) := by decide +kernel
theorem dX3_init_5 : decode cX3_init 5 = .ok (.sipush 128, 3) := by decide +kernel
theorem dX3_init_8 : decode cX3_init 8 = .ok (.newarray .int, 2) := by decide +kernel
theorem dX3_init_10 : decode cX3_init 10 = .ok (.putfield 9, 3) := by decide +kernel
theorem dX3_init_13 : decode cX3_init 13 = .ok (.aload_n 0, 1) := by decide +kernel
theorem dX3_init_14 : decode cX3_init 14 = .ok (.aload_n 1, 1) := by decide +kernel
theorem dX3_init_15 : decode cX3_init 15 = .ok (.putfield 13, 3) := by decide +kernel
theorem dX3_init_18 : decode cX3_init 18 = .ok (.return_, 1) := by decide +kernel
theorem dX3_makeBoxes_0 : decode cX3_makeBoxes 0 = .ok (.bipush 32, 2) := by decide +kernel
theorem dX3_makeBoxes_2 : decode cX3_makeBoxes 2 = .ok (.newarray .int, 2) := by decide +kernel
theorem dX3_makeBoxes_4 : decode cX3_makeBoxes 4 = .ok (.astore_n 0, 1) := by decide +kernel
theorem dX3_makeBoxes_5 : decode cX3_makeBoxes 5 = .ok (.iconst 0, 1) := by decide +kernel
theorem dX3_makeBoxes_6 : decode cX3_makeBoxes 6 = .ok (.istore_n 1, 1) := by decide +kernel
theorem dX3_makeBoxes_7 : decode cX3_makeBoxes 7 = .ok (.iload_n 1, 1) := by decide +kernel
theorem dX3_makeBoxes_8 : decode cX3_makeBoxes 8 = .ok (.bipush 32, 2) := by decide +kernel
theorem dX3_makeBoxes_10 : decode cX3_makeBoxes 10 = .ok (.if_icmp .ge 25, 3) := by decide +kernel
theorem dX3_makeBoxes_13 : decode cX3_makeBoxes 13 = .ok (.aload_n 0, 1) := by decide +kernel
theorem dX3_makeBoxes_14 : decode cX3_makeBoxes 14 = .ok (.getstatic 16, 3) := by decide +kernel
theorem dX3_makeBoxes_17 : decode cX3_makeBoxes 17 = .ok (.iload_n 1, 1) := by decide +kernel
theorem dX3_makeBoxes_18 : decode cX3_makeBoxes 18 = .ok (.iaload, 1) := by decide +kernel
theorem dX3_makeBoxes_19 : decode cX3_makeBoxes 19 = .ok (.iconst 1, 1) := by decide +kernel
theorem dX3_makeBoxes_20 : decode cX3_makeBoxes 20 = .ok (.isub, 1) := by decide +kernel
theorem dX3_makeBoxes_21 : decode cX3_makeBoxes 21 = .ok (.bipush 31, 2) := by decide +kernel
theorem dX3_makeBoxes_23 : decode cX3_makeBoxes 23 = .ok (.iand, 1) := by decide +kernel
theorem dX3_makeBoxes_24 : decode cX3_makeBoxes 24 = .ok (.bipush 31, 2) := by decide +kernel
theorem dX3_makeBoxes_26 : decode cX3_makeBoxes 26 = .ok (.iload_n 1, 1) := by decide +kernel
theorem dX3_makeBoxes_27 : decode cX3_makeBoxes 27 = .ok (.isub, 1) := by decide +kernel
theorem dX3_makeBoxes_28 : decode cX3_makeBoxes 28 = .ok (.iastore, 1) := by decide +kernel
theorem dX3_makeBoxes_29 : decode cX3_makeBoxes 29 = .ok (.iinc 1 1, 3) := by decide +kernel
theorem dX3_makeBoxes_32 : decode cX3_makeBoxes 32 = .ok (.goto (-25), 3) := by decide +kernel
theorem dX3_makeBoxes_35 : decode cX3_makeBoxes 35 = .ok (.sipush 512, 3) := by decide +kernel
theorem dX3_makeBoxes_38 : decode cX3_makeBoxes 38 = .ok (.newarray .int, 2) := by decide +kernel
theorem dX3_makeBoxes_40 : decode cX3_makeBoxes 40 = .ok (.astore_n 1, 1) := by decide +kernel
theorem dX3_makeBoxes_41 : decode cX3_makeBoxes 41 = .ok (.iconst 0, 1) := by decide +kernel
theorem dX3_makeBoxes_42 : decode cX3_makeBoxes 42 = .ok (.istore_n 2, 1) := by decide +kernel
theorem dX3_makeBoxes_43 : decode cX3_makeBoxes 43 = .ok (.iload_n 2, 1) := by decide +kernel
theorem dX3_makeBoxes_44 : decode cX3_makeBoxes 44 = .ok (.aload_n 1, 1) := by decide +kernel
theorem dX3_makeBoxes_45 : decode cX3_makeBoxes 45 = .ok (.arraylength, 1) := by decide +kernel
theorem dX3_makeBoxes_46 : decode cX3_makeBoxes 46 = .ok (.if_icmp .ge 91, 3) := by decide +kernel
theorem dX3_makeBoxes_49 : decode cX3_makeBoxes 49 = .ok (.iload_n 2, 1) := by decide +kernel
theorem dX3_makeBoxes_50 : decode cX3_makeBoxes 50 = .ok (.bipush 6, 2) := by decide +kernel
theorem dX3_makeBoxes_52 : decode cX3_makeBoxes 52 = .ok (.ishr, 1) := by decide +kernel
theorem dX3_makeBoxes_53 : decode cX3_makeBoxes 53 = .ok (.istore_n 3, 1) := by decide +kernel
theorem dX3_makeBoxes_54 : decode cX3_makeBoxes 54 = .ok (.iload_n 2, 1) := by decide +kernel
theorem dX3_makeBoxes_55 : decode cX3_makeBoxes 55 = .ok (.iconst 4, 1) := by decide +kernel
theorem dX3_makeBoxes_56 : decode cX3_makeBoxes 56 = .ok (.ishr, 1) := by decide +kernel
theorem dX3_makeBoxes_57 : decode cX3_makeBoxes 57 = .ok (.iconst 2, 1) := by decide +kernel
theorem dX3_makeBoxes_58 : decode cX3_makeBoxes 58 = .ok (.iand, 1) := by decide +kernel
theorem dX3_makeBoxes_59 : decode cX3_makeBoxes 59 = .ok (.iload_n 2, 1) := by decide +kernel
theorem dX3_makeBoxes_60 : decode cX3_makeBoxes 60 = .ok (.iconst 1, 1) := by decide +kernel
theorem dX3_makeBoxes_61 : decode cX3_makeBoxes 61 = .ok (.iand, 1) := by decide +kernel
theorem dX3_makeBoxes_62 : decode cX3_makeBoxes 62 = .ok (.ior, 1) := by decide +kernel
theorem dX3_makeBoxes_63 : decode cX3_makeBoxes 63 = .ok (.istore 4, 2) := by decide +kernel
theorem dX3_makeBoxes_65 : decode cX3_makeBoxes 65 = .ok (.iload_n 2, 1) := by decide +kernel
theorem dX3_makeBoxes_66 : decode cX3_makeBoxes 66 = .ok (.iconst 1, 1) := by decide +kernel
theorem dX3_makeBoxes_67 : decode cX3_makeBoxes 67 = .ok (.ishr, 1) := by decide +kernel
theorem dX3_makeBoxes_68 : decode cX3_makeBoxes 68 = .ok (.bipush 15, 2) := by decide +kernel
theorem dX3_makeBoxes_70 : decode cX3_makeBoxes 70 = .ok (.iand, 1) := by decide +kernel
theorem dX3_makeBoxes_71 : decode cX3_makeBoxes 71 = .ok (.istore 5, 2) := by decide +kernel
theorem dX3_makeBoxes_73 : decode cX3_makeBoxes 73 = .ok (.getstatic 19, 3) := by decide +kernel
theorem dX3_makeBoxes_76 : decode cX3_makeBoxes 76 = .ok (.iload_n 3, 1) := by decide +kernel
theorem dX3_makeBoxes_77 : decode cX3_makeBoxes 77 = .ok (.bipush 64, 2) := by decide +kernel
theorem dX3_makeBoxes_79 : decode cX3_makeBoxes 79 = .ok (.imul, 1) := by decide +kernel
theorem dX3_makeBoxes_80 : decode cX3_makeBoxes 80 = .ok (.iload 4, 2) := by decide +kernel
theorem dX3_makeBoxes_82 : decode cX3_makeBoxes 82 = .ok (.bipush 16, 2) := by decide +kernel
theorem dX3_makeBoxes_84 : decode cX3_makeBoxes 84 = .ok (.imul, 1) := by decide +kernel
theorem dX3_makeBoxes_85 : decode cX3_makeBoxes 85 = .ok (.iadd, 1) := by decide +kernel
theorem dX3_makeBoxes_86 : decode cX3_makeBoxes 86 = .ok (.iload 5, 2) := by decide +kernel
theorem dX3_makeBoxes_88 : decode cX3_makeBoxes 88 = .ok (.iadd, 1) := by decide +kernel
theorem dX3_makeBoxes_89 : decode cX3_makeBoxes 89 = .ok (.iaload, 1) := by decide +kernel
theorem dX3_makeBoxes_90 : decode cX3_makeBoxes 90 = .ok (.istore 6, 2) := by decide +kernel
theorem dX3_makeBoxes_92 : decode cX3_makeBoxes 92 = .ok (.iconst 0, 1) := by decide +kernel
theorem dX3_makeBoxes_93 : decode cX3_makeBoxes 93 = .ok (.istore 7, 2) := by decide +kernel
theorem dX3_makeBoxes_95 : decode cX3_makeBoxes 95 = .ok (.iload 7, 2) := by decide +kernel
theorem dX3_makeBoxes_97 : decode cX3_makeBoxes 97 = .ok (.iconst 4, 1) := by decide +kernel
theorem dX3_makeBoxes_98 : decode cX3_makeBoxes 98 = .ok (.if_icmp .ge 33, 3) := by decide +kernel
theorem dX3_makeBoxes_101 : decode cX3_makeBoxes 101 = .ok (.aload_n 1, 1) := by decide +kernel
theorem dX3_makeBoxes_102 : decode cX3_makeBoxes 102 = .ok (.iload_n 2, 1) := by decide +kernel
theorem dX3_makeBoxes_103 : decode cX3_makeBoxes 103 = .ok (.dup2, 1) := by decide +kernel
theorem dX3_makeBoxes_104 : decode cX3_makeBoxes 104 = .ok (.iaload, 1) := by decide +kernel
theorem dX3_makeBoxes_105 : decode cX3_makeBoxes 105 = .ok (.iload 6, 2) := by decide +kernel
theorem dX3_makeBoxes_107 : decode cX3_makeBoxes 107 = .ok (.iconst 3, 1) := by decide +kernel
theorem dX3_makeBoxes_108 : decode cX3_makeBoxes 108 = .ok (.iload 7, 2) := by decide +kernel
theorem dX3_makeBoxes_110 : decode cX3_makeBoxes 110 = .ok (.isub, 1) := by decide +kernel
theorem dX3_makeBoxes_111 : decode cX3_makeBoxes 111 = .ok (.ishr, 1) := by decide +kernel
theorem dX3_makeBoxes_112 : decode cX3_makeBoxes 112 = .ok (.iconst 1, 1) := by decide +kernel
theorem dX3_makeBoxes_113 : decode cX3_makeBoxes 113 = .ok (.iand, 1) := by decide +kernel
theorem dX3_makeBoxes_114 : decode cX3_makeBoxes 114 = .ok (.aload_n 0, 1) := by decide +kernel
theorem dX3_makeBoxes_115 : decode cX3_makeBoxes 115 = .ok (.iload_n 3, 1) := by decide +kernel
theorem dX3_makeBoxes_116 : decode cX3_makeBoxes 116 = .ok (.iconst 4, 1) := by decide +kernel
theorem dX3_makeBoxes_117 : decode cX3_makeBoxes 117 = .ok (.imul, 1) := by decide +kernel
theorem dX3_makeBoxes_118 : decode cX3_makeBoxes 118 = .ok (.iload 7, 2) := by decide +kernel
theorem dX3_makeBoxes_120 : decode cX3_makeBoxes 120 = .ok (.iadd, 1) := by decide +kernel
theorem dX3_makeBoxes_121 : decode cX3_makeBoxes 121 = .ok (.iaload, 1) := by decide +kernel
theorem dX3_makeBoxes_122 : decode cX3_makeBoxes 122 = .ok (.ishl, 1) := by decide +kernel
theorem dX3_makeBoxes_123 : decode cX3_makeBoxes 123 = .ok (.ior, 1) := by decide +kernel
theorem dX3_makeBoxes_124 : decode cX3_makeBoxes 124 = .ok (.iastore, 1) := by decide +kernel
theorem dX3_makeBoxes_125 : decode cX3_makeBoxes 125 = .ok (.iinc 7 1, 3) := by decide +kernel
theorem dX3_makeBoxes_128 : decode cX3_makeBoxes 128 = .ok (.goto (-33), 3) := by decide +kernel
theorem dX3_makeBoxes_131 : decode cX3_makeBoxes 131 = .ok (.iinc 2 1, 3) := by decide +kernel
theorem dX3_makeBoxes_134 : decode cX3_makeBoxes 134 = .ok (.goto (-91), 3) := by decide +kernel
theorem dX3_makeBoxes_137 : decode cX3_makeBoxes 137 = .ok (.aload_n 1, 1) := by decide +kernel
theorem dX3_makeBoxes_138 : decode cX3_makeBoxes 138 = .ok (.areturn, 1) := by decide +kernel
theorem dX3_permute_0 : decode cX3_permute 0 = .ok (.lconst 0, 1) := by decide +kernel
theorem dX3_permute_1 : decode cX3_permute 1 = .ok (.lstore 4, 2) := by decide +kernel
theorem dX3_permute_3 : decode cX3_permute 3 = .ok (.aload_n 3, 1) := by decide +kernel
theorem dX3_permute_4 : decode cX3_permute 4 = .ok (.astore 6, 2) := by decide +kernel
theorem dX3_permute_6 : decode cX3_permute 6 = .ok (.aload 6, 2) := by decide +kernel
theorem dX3_permute_8 : decode cX3_permute 8 = .ok (.arraylength, 1) := by decide +kernel
theorem dX3_permute_9 : decode cX3_permute 9 = .ok (.istore 7, 2) := by decide +kernel
theorem dX3_permute_11 : decode cX3_permute 11 = .ok (.iconst 0, 1) := by decide +kernel
theorem dX3_permute_12 : decode cX3_permute 12 = .ok (.istore 8, 2) := by decide +kernel
theorem dX3_permute_14 : decode cX3_permute 14 = .ok (.iload 8, 2) := by decide +kernel
theorem dX3_permute_16 : decode cX3_permute 16 = .ok (.iload 7, 2) := by decide +kernel
theorem dX3_permute_18 : decode cX3_permute 18 = .ok (.if_icmp .ge 31, 3) := by decide +kernel
theorem dX3_permute_21 : decode cX3_permute 21 = .ok (.aload 6, 2) := by decide +kernel
theorem dX3_permute_23 : decode cX3_permute 23 = .ok (.iload 8, 2) := by decide +kernel
theorem dX3_permute_25 : decode cX3_permute 25 = .ok (.iaload, 1) := by decide +kernel
theorem dX3_permute_26 : decode cX3_permute 26 = .ok (.istore 9, 2) := by decide +kernel
theorem dX3_permute_28 : decode cX3_permute 28 = .ok (.lload 4, 2) := by decide +kernel
theorem dX3_permute_30 : decode cX3_permute 30 = .ok (.iconst 1, 1) := by decide +kernel
theorem dX3_permute_31 : decode cX3_permute 31 = .ok (.lshl, 1) := by decide +kernel
theorem dX3_permute_32 : decode cX3_permute 32 = .ok (.lload_n 0, 1) := by decide +kernel
theorem dX3_permute_33 : decode cX3_permute 33 = .ok (.iload_n 2, 1) := by decide +kernel
theorem dX3_permute_34 : decode cX3_permute 34 = .ok (.iload 9, 2) := by decide +kernel
theorem dX3_permute_36 : decode cX3_permute 36 = .ok (.isub, 1) := by decide +kernel
theorem dX3_permute_37 : decode cX3_permute 37 = .ok (.lushr, 1) := by decide +kernel
theorem dX3_permute_38 : decode cX3_permute 38 = .ok (.lconst 1, 1) := by decide +kernel
theorem dX3_permute_39 : decode cX3_permute 39 = .ok (.land, 1) := by decide +kernel
theorem dX3_permute_40 : decode cX3_permute 40 = .ok (.lor, 1) := by decide +kernel
theorem dX3_permute_41 : decode cX3_permute 41 = .ok (.lstore 4, 2) := by decide +kernel
theorem dX3_permute_43 : decode cX3_permute 43 = .ok (.iinc 8 1, 3) := by decide +kernel
theorem dX3_permute_46 : decode cX3_permute 46 = .ok (.goto (-32), 3) := by decide +kernel
theorem dX3_permute_49 : decode cX3_permute 49 = .ok (.lload 4, 2) := by decide +kernel
theorem dX3_permute_51 : decode cX3_permute 51 = .ok (.lreturn, 1) := by decide +kernel
set_option maxRecDepth 20000 in
theorem ggX3_schedule_X3_permute : GoodIn wsX3_schedule wsX3_permute := goodIn_r _ [9] rfl (by decide +kernel)
set_option maxRecDepth 20000 in
theorem gX3_schedule_X3_permute : GoodIn wsX3_schedule (va_wsS RX3 25 yX3_permute wsX3_permute) := goodIn_app (goodIn_of _ (by decide +kernel)) ggX3_schedule_X3_permute
set_option maxRecDepth 20000 in
theorem ggX3_schedule_X3_turnHalf : GoodIn wsX3_schedule wsX3_turnHalf := goodIn_r _ [12, 2] rfl (by decide +kernel)
set_option maxRecDepth 20000 in
theorem gX3_schedule_X3_turnHalf : GoodIn wsX3_schedule (va_wsS RX3 33 yX3_turnHalf wsX3_turnHalf) := goodIn_app (goodIn_of _ (by decide +kernel)) ggX3_schedule_X3_turnHalf
theorem dX3_schedule_0 : decode cX3_schedule 0 = .ok (.lload_n 1, 1) := by decide +kernel
theorem dX3_schedule_1 : decode cX3_schedule 1 = .ok (.bipush 64, 2) := by decide +kernel
theorem dX3_schedule_3 : decode cX3_schedule 3 = .ok (.getstatic 22, 3) := by decide +kernel
theorem dX3_schedule_6 : decode cX3_schedule 6 = .ok (.invokestatic 25, 3) := by decide +kernel
theorem dX3_schedule_9 : decode cX3_schedule 9 = .ok (.lstore_n 3, 1) := by decide +kernel
theorem dX3_schedule_10 : decode cX3_schedule 10 = .ok (.lload_n 3, 1) := by decide +kernel
theorem dX3_schedule_11 : decode cX3_schedule 11 = .ok (.bipush 28, 2) := by decide +kernel
theorem dX3_schedule_13 : decode cX3_schedule 13 = .ok (.lushr, 1) := by decide +kernel
theorem dX3_schedule_14 : decode cX3_schedule 14 = .ok (.l2i, 1) := by decide +kernel
theorem dX3_schedule_15 : decode cX3_schedule 15 = .ok (.ldc 29, 2) := by decide +kernel
theorem dX3_schedule_17 : decode cX3_schedule 17 = .ok (.iand, 1) := by decide +kernel
theorem dX3_schedule_18 : decode cX3_schedule 18 = .ok (.istore 5, 2) := by decide +kernel
theorem dX3_schedule_20 : decode cX3_schedule 20 = .ok (.lload_n 3, 1) := by decide +kernel
theorem dX3_schedule_21 : decode cX3_schedule 21 = .ok (.l2i, 1) := by decide +kernel
theorem dX3_schedule_22 : decode cX3_schedule 22 = .ok (.ldc 29, 2) := by decide +kernel
theorem dX3_schedule_24 : decode cX3_schedule 24 = .ok (.iand, 1) := by decide +kernel
theorem dX3_schedule_25 : decode cX3_schedule 25 = .ok (.istore 6, 2) := by decide +kernel
theorem dX3_schedule_27 : decode cX3_schedule 27 = .ok (.iconst 0, 1) := by decide +kernel
theorem dX3_schedule_28 : decode cX3_schedule 28 = .ok (.istore 7, 2) := by decide +kernel
theorem dX3_schedule_30 : decode cX3_schedule 30 = .ok (.iload 7, 2) := by decide +kernel
theorem dX3_schedule_32 : decode cX3_schedule 32 = .ok (.bipush 16, 2) := by decide +kernel
theorem dX3_schedule_34 : decode cX3_schedule 34 = .ok (.if_icmp .ge 99, 3) := by decide +kernel
theorem dX3_schedule_37 : decode cX3_schedule 37 = .ok (.iload 5, 2) := by decide +kernel
theorem dX3_schedule_39 : decode cX3_schedule 39 = .ok (.getstatic 30, 3) := by decide +kernel
theorem dX3_schedule_42 : decode cX3_schedule 42 = .ok (.iload 7, 2) := by decide +kernel
theorem dX3_schedule_44 : decode cX3_schedule 44 = .ok (.iaload, 1) := by decide +kernel
theorem dX3_schedule_45 : decode cX3_schedule 45 = .ok (.invokestatic 33, 3) := by decide +kernel
theorem dX3_schedule_48 : decode cX3_schedule 48 = .ok (.istore 5, 2) := by decide +kernel
theorem dX3_schedule_50 : decode cX3_schedule 50 = .ok (.iload 6, 2) := by decide +kernel
theorem dX3_schedule_52 : decode cX3_schedule 52 = .ok (.getstatic 30, 3) := by decide +kernel
theorem dX3_schedule_55 : decode cX3_schedule 55 = .ok (.iload 7, 2) := by decide +kernel
theorem dX3_schedule_57 : decode cX3_schedule 57 = .ok (.iaload, 1) := by decide +kernel
theorem dX3_schedule_58 : decode cX3_schedule 58 = .ok (.invokestatic 33, 3) := by decide +kernel
theorem dX3_schedule_61 : decode cX3_schedule 61 = .ok (.istore 6, 2) := by decide +kernel
theorem dX3_schedule_63 : decode cX3_schedule 63 = .ok (.iload 5, 2) := by decide +kernel
theorem dX3_schedule_65 : decode cX3_schedule 65 = .ok (.i2l, 1) := by decide +kernel
theorem dX3_schedule_66 : decode cX3_schedule 66 = .ok (.bipush 28, 2) := by decide +kernel
theorem dX3_schedule_68 : decode cX3_schedule 68 = .ok (.lshl, 1) := by decide +kernel
theorem dX3_schedule_69 : decode cX3_schedule 69 = .ok (.iload 6, 2) := by decide +kernel
theorem dX3_schedule_71 : decode cX3_schedule 71 = .ok (.i2l, 1) := by decide +kernel
theorem dX3_schedule_72 : decode cX3_schedule 72 = .ok (.lor, 1) := by decide +kernel
theorem dX3_schedule_73 : decode cX3_schedule 73 = .ok (.bipush 56, 2) := by decide +kernel
theorem dX3_schedule_75 : decode cX3_schedule 75 = .ok (.getstatic 37, 3) := by decide +kernel
theorem dX3_schedule_78 : decode cX3_schedule 78 = .ok (.invokestatic 25, 3) := by decide +kernel
theorem dX3_schedule_81 : decode cX3_schedule 81 = .ok (.lstore 8, 2) := by decide +kernel
theorem dX3_schedule_83 : decode cX3_schedule 83 = .ok (.iconst 0, 1) := by decide +kernel
theorem dX3_schedule_84 : decode cX3_schedule 84 = .ok (.istore 10, 2) := by decide +kernel
theorem dX3_schedule_86 : decode cX3_schedule 86 = .ok (.iload 10, 2) := by decide +kernel
theorem dX3_schedule_88 : decode cX3_schedule 88 = .ok (.bipush 8, 2) := by decide +kernel
theorem dX3_schedule_90 : decode cX3_schedule 90 = .ok (.if_icmp .ge 37, 3) := by decide +kernel
theorem dX3_schedule_93 : decode cX3_schedule 93 = .ok (.aload_n 0, 1) := by decide +kernel
theorem dX3_schedule_94 : decode cX3_schedule 94 = .ok (.getfield 9, 3) := by decide +kernel
theorem dX3_schedule_97 : decode cX3_schedule 97 = .ok (.iload 7, 2) := by decide +kernel
theorem dX3_schedule_99 : decode cX3_schedule 99 = .ok (.bipush 8, 2) := by decide +kernel
theorem dX3_schedule_101 : decode cX3_schedule 101 = .ok (.imul, 1) := by decide +kernel
theorem dX3_schedule_102 : decode cX3_schedule 102 = .ok (.iload 10, 2) := by decide +kernel
theorem dX3_schedule_104 : decode cX3_schedule 104 = .ok (.iadd, 1) := by decide +kernel
theorem dX3_schedule_105 : decode cX3_schedule 105 = .ok (.lload 8, 2) := by decide +kernel
theorem dX3_schedule_107 : decode cX3_schedule 107 = .ok (.bipush 42, 2) := by decide +kernel
theorem dX3_schedule_109 : decode cX3_schedule 109 = .ok (.bipush 6, 2) := by decide +kernel
theorem dX3_schedule_111 : decode cX3_schedule 111 = .ok (.iload 10, 2) := by decide +kernel
theorem dX3_schedule_113 : decode cX3_schedule 113 = .ok (.imul, 1) := by decide +kernel
theorem dX3_schedule_114 : decode cX3_schedule 114 = .ok (.isub, 1) := by decide +kernel
theorem dX3_schedule_115 : decode cX3_schedule 115 = .ok (.lushr, 1) := by decide +kernel
theorem dX3_schedule_116 : decode cX3_schedule 116 = .ok (.l2i, 1) := by decide +kernel
theorem dX3_schedule_117 : decode cX3_schedule 117 = .ok (.bipush 63, 2) := by decide +kernel
theorem dX3_schedule_119 : decode cX3_schedule 119 = .ok (.iand, 1) := by decide +kernel
theorem dX3_schedule_120 : decode cX3_schedule 120 = .ok (.iastore, 1) := by decide +kernel
theorem dX3_schedule_121 : decode cX3_schedule 121 = .ok (.iinc 10 1, 3) := by decide +kernel
theorem dX3_schedule_124 : decode cX3_schedule 124 = .ok (.goto (-38), 3) := by decide +kernel
theorem dX3_schedule_127 : decode cX3_schedule 127 = .ok (.iinc 7 1, 3) := by decide +kernel
theorem dX3_schedule_130 : decode cX3_schedule 130 = .ok (.goto (-100), 3) := by decide +kernel
theorem dX3_schedule_133 : decode cX3_schedule 133 = .ok (.return_, 1) := by decide +kernel
theorem dX3_turnHalf_0 : decode cX3_turnHalf 0 = .ok (.iload_n 0, 1) := by decide +kernel
theorem dX3_turnHalf_1 : decode cX3_turnHalf 1 = .ok (.iload_n 1, 1) := by decide +kernel
theorem dX3_turnHalf_2 : decode cX3_turnHalf 2 = .ok (.ishl, 1) := by decide +kernel
theorem dX3_turnHalf_3 : decode cX3_turnHalf 3 = .ok (.iload_n 0, 1) := by decide +kernel
theorem dX3_turnHalf_4 : decode cX3_turnHalf 4 = .ok (.bipush 28, 2) := by decide +kernel
theorem dX3_turnHalf_6 : decode cX3_turnHalf 6 = .ok (.iload_n 1, 1) := by decide +kernel
theorem dX3_turnHalf_7 : decode cX3_turnHalf 7 = .ok (.isub, 1) := by decide +kernel
theorem dX3_turnHalf_8 : decode cX3_turnHalf 8 = .ok (.iushr, 1) := by decide +kernel
theorem dX3_turnHalf_9 : decode cX3_turnHalf 9 = .ok (.ior, 1) := by decide +kernel
theorem dX3_turnHalf_10 : decode cX3_turnHalf 10 = .ok (.ldc 29, 2) := by decide +kernel
theorem dX3_turnHalf_12 : decode cX3_turnHalf 12 = .ok (.iand, 1) := by decide +kernel
theorem dX3_turnHalf_13 : decode cX3_turnHalf 13 = .ok (.ireturn, 1) := by decide +kernel
set_option maxRecDepth 20000 in
theorem ggX3_coded_X3_permute : GoodIn wsX3_coded wsX3_permute := goodIn_r _ [6] rfl (by decide +kernel)
set_option maxRecDepth 20000 in
theorem gX3_coded_X3_permute : GoodIn wsX3_coded (va_wsS RX3 25 yX3_permute wsX3_permute) := goodIn_app (goodIn_of _ (by decide +kernel)) ggX3_coded_X3_permute
set_option maxRecDepth 20000 in
theorem ggX3_coded_X3_rounds : GoodIn wsX3_coded wsX3_rounds := goodIn_r _ [10, 11, 12, 13, 14, 5, 15, 16, 17, 18, 19] rfl (by decide +kernel)
set_option maxRecDepth 20000 in
theorem gX3_coded_X3_rounds : GoodIn wsX3_coded (wsV RX3 43 RX3 yX3_rounds wsX3_rounds) := goodIn_app (goodIn_of _ (by decide +kernel)) ggX3_coded_X3_rounds
theorem dX3_coded_0 : decode cX3_coded 0 = .ok (.aload_n 0, 1) := by decide +kernel
theorem dX3_coded_1 : decode cX3_coded 1 = .ok (.lload_n 1, 1) := by decide +kernel
theorem dX3_coded_2 : decode cX3_coded 2 = .ok (.bipush 64, 2) := by decide +kernel
theorem dX3_coded_4 : decode cX3_coded 4 = .ok (.getstatic 40, 3) := by decide +kernel
theorem dX3_coded_7 : decode cX3_coded 7 = .ok (.invokestatic 25, 3) := by decide +kernel
theorem dX3_coded_10 : decode cX3_coded 10 = .ok (.iload_n 3, 1) := by decide +kernel
theorem dX3_coded_11 : decode cX3_coded 11 = .ok (.invokevirtual 43, 3) := by decide +kernel
theorem dX3_coded_14 : decode cX3_coded 14 = .ok (.bipush 64, 2) := by decide +kernel
theorem dX3_coded_16 : decode cX3_coded 16 = .ok (.getstatic 47, 3) := by decide +kernel
theorem dX3_coded_19 : decode cX3_coded 19 = .ok (.invokestatic 25, 3) := by decide +kernel
theorem dX3_coded_22 : decode cX3_coded 22 = .ok (.lreturn, 1) := by decide +kernel
set_option maxRecDepth 20000 in
theorem ggX3_rounds_X3_scrambled : GoodIn wsX3_rounds wsX3_scrambled := goodIn_r _ [6, 1, 7, 8, 9, 10] rfl (by decide +kernel)
set_option maxRecDepth 20000 in
theorem gX3_rounds_X3_scrambled : GoodIn wsX3_rounds (wsV RX3 50 RX3 yX3_scrambled wsX3_scrambled) := goodIn_app (goodIn_of _ (by decide +kernel)) ggX3_rounds_X3_scrambled
theorem dX3_rounds_0 : decode cX3_rounds 0 = .ok (.lload_n 1, 1) := by decide +kernel
theorem dX3_rounds_1 : decode cX3_rounds 1 = .ok (.bipush 32, 2) := by decide +kernel
theorem dX3_rounds_3 : decode cX3_rounds 3 = .ok (.lushr, 1) := by decide +kernel
theorem dX3_rounds_4 : decode cX3_rounds 4 = .ok (.l2i, 1) := by decide +kernel
theorem dX3_rounds_5 : decode cX3_rounds 5 = .ok (.istore 4, 2) := by decide +kernel
theorem dX3_rounds_7 : decode cX3_rounds 7 = .ok (.lload_n 1, 1) := by decide +kernel
theorem dX3_rounds_8 : decode cX3_rounds 8 = .ok (.l2i, 1) := by decide +kernel
theorem dX3_rounds_9 : decode cX3_rounds 9 = .ok (.istore 5, 2) := by decide +kernel
theorem dX3_rounds_11 : decode cX3_rounds 11 = .ok (.iconst 0, 1) := by decide +kernel
theorem dX3_rounds_12 : decode cX3_rounds 12 = .ok (.istore 6, 2) := by decide +kernel
theorem dX3_rounds_14 : decode cX3_rounds 14 = .ok (.iload 6, 2) := by decide +kernel
theorem dX3_rounds_16 : decode cX3_rounds 16 = .ok (.bipush 16, 2) := by decide +kernel
theorem dX3_rounds_18 : decode cX3_rounds 18 = .ok (.if_icmp .ge 42, 3) := by decide +kernel
theorem dX3_rounds_21 : decode cX3_rounds 21 = .ok (.iload 4, 2) := by decide +kernel
theorem dX3_rounds_23 : decode cX3_rounds 23 = .ok (.aload_n 0, 1) := by decide +kernel
theorem dX3_rounds_24 : decode cX3_rounds 24 = .ok (.iload 5, 2) := by decide +kernel
theorem dX3_rounds_26 : decode cX3_rounds 26 = .ok (.iload_n 3, 1) := by decide +kernel
theorem dX3_rounds_27 : decode cX3_rounds 27 = .ok (.ifCond .eq 11, 3) := by decide +kernel
theorem dX3_rounds_30 : decode cX3_rounds 30 = .ok (.bipush 15, 2) := by decide +kernel
theorem dX3_rounds_32 : decode cX3_rounds 32 = .ok (.iload 6, 2) := by decide +kernel
theorem dX3_rounds_34 : decode cX3_rounds 34 = .ok (.isub, 1) := by decide +kernel
theorem dX3_rounds_35 : decode cX3_rounds 35 = .ok (.goto 5, 3) := by decide +kernel
theorem dX3_rounds_38 : decode cX3_rounds 38 = .ok (.iload 6, 2) := by decide +kernel
theorem dX3_rounds_40 : decode cX3_rounds 40 = .ok (.invokevirtual 50, 3) := by decide +kernel
theorem dX3_rounds_43 : decode cX3_rounds 43 = .ok (.ixor, 1) := by decide +kernel
theorem dX3_rounds_44 : decode cX3_rounds 44 = .ok (.istore 7, 2) := by decide +kernel
theorem dX3_rounds_46 : decode cX3_rounds 46 = .ok (.iload 5, 2) := by decide +kernel
theorem dX3_rounds_48 : decode cX3_rounds 48 = .ok (.istore 4, 2) := by decide +kernel
theorem dX3_rounds_50 : decode cX3_rounds 50 = .ok (.iload 7, 2) := by decide +kernel
theorem dX3_rounds_52 : decode cX3_rounds 52 = .ok (.istore 5, 2) := by decide +kernel
theorem dX3_rounds_54 : decode cX3_rounds 54 = .ok (.iinc 6 1, 3) := by decide +kernel
theorem dX3_rounds_57 : decode cX3_rounds 57 = .ok (.goto (-43), 3) := by decide +kernel
theorem dX3_rounds_60 : decode cX3_rounds 60 = .ok (.iload 5, 2) := by decide +kernel
theorem dX3_rounds_62 : decode cX3_rounds 62 = .ok (.i2l, 1) := by decide +kernel
theorem dX3_rounds_63 : decode cX3_rounds 63 = .ok (.bipush 32, 2) := by decide +kernel
theorem dX3_rounds_65 : decode cX3_rounds 65 = .ok (.lshl, 1) := by decide +kernel
theorem dX3_rounds_66 : decode cX3_rounds 66 = .ok (.iload 4, 2) := by decide +kernel
theorem dX3_rounds_68 : decode cX3_rounds 68 = .ok (.i2l, 1) := by decide +kernel
theorem dX3_rounds_69 : decode cX3_rounds 69 = .ok (.ldc2_w 53, 3) := by decide +kernel
theorem dX3_rounds_72 : decode cX3_rounds 72 = .ok (.land, 1) := by decide +kernel
theorem dX3_rounds_73 : decode cX3_rounds 73 = .ok (.lor, 1) := by decide +kernel
theorem dX3_rounds_74 : decode cX3_rounds 74 = .ok (.lreturn, 1) := by decide +kernel
theorem dX3_scrambled_0 : decode cX3_scrambled 0 = .ok (.iload_n 1, 1) := by decide +kernel
theorem dX3_scrambled_1 : decode cX3_scrambled 1 = .ok (.iconst 1, 1) := by decide +kernel
theorem dX3_scrambled_2 : decode cX3_scrambled 2 = .ok (.iand, 1) := by decide +kernel
theorem dX3_scrambled_3 : decode cX3_scrambled 3 = .ok (.i2l, 1) := by decide +kernel
theorem dX3_scrambled_4 : decode cX3_scrambled 4 = .ok (.bipush 33, 2) := by decide +kernel
theorem dX3_scrambled_6 : decode cX3_scrambled 6 = .ok (.lshl, 1) := by decide +kernel
theorem dX3_scrambled_7 : decode cX3_scrambled 7 = .ok (.iload_n 1, 1) := by decide +kernel
theorem dX3_scrambled_8 : decode cX3_scrambled 8 = .ok (.i2l, 1) := by decide +kernel
theorem dX3_scrambled_9 : decode cX3_scrambled 9 = .ok (.ldc2_w 53, 3) := by decide +kernel
theorem dX3_scrambled_12 : decode cX3_scrambled 12 = .ok (.land, 1) := by decide +kernel
theorem dX3_scrambled_13 : decode cX3_scrambled 13 = .ok (.iconst 1, 1) := by decide +kernel
theorem dX3_scrambled_14 : decode cX3_scrambled 14 = .ok (.lshl, 1) := by decide +kernel
theorem dX3_scrambled_15 : decode cX3_scrambled 15 = .ok (.lor, 1) := by decide +kernel
theorem dX3_scrambled_16 : decode cX3_scrambled 16 = .ok (.iload_n 1, 1) := by decide +kernel
theorem dX3_scrambled_17 : decode cX3_scrambled 17 = .ok (.bipush 31, 2) := by decide +kernel
theorem dX3_scrambled_19 : decode cX3_scrambled 19 = .ok (.iushr, 1) := by decide +kernel
theorem dX3_scrambled_20 : decode cX3_scrambled 20 = .ok (.i2l, 1) := by decide +kernel
theorem dX3_scrambled_21 : decode cX3_scrambled 21 = .ok (.lor, 1) := by decide +kernel
theorem dX3_scrambled_22 : decode cX3_scrambled 22 = .ok (.lstore_n 3, 1) := by decide +kernel
theorem dX3_scrambled_23 : decode cX3_scrambled 23 = .ok (.iconst 0, 1) := by decide +kernel
theorem dX3_scrambled_24 : decode cX3_scrambled 24 = .ok (.istore 5, 2) := by decide +kernel
theorem dX3_scrambled_26 : decode cX3_scrambled 26 = .ok (.iconst 0, 1) := by decide +kernel
theorem dX3_scrambled_27 : decode cX3_scrambled 27 = .ok (.istore 6, 2) := by decide +kernel
theorem dX3_scrambled_29 : decode cX3_scrambled 29 = .ok (.iload 6, 2) := by decide +kernel
theorem dX3_scrambled_31 : decode cX3_scrambled 31 = .ok (.bipush 8, 2) := by decide +kernel
theorem dX3_scrambled_33 : decode cX3_scrambled 33 = .ok (.if_icmp .ge 55, 3) := by decide +kernel
theorem dX3_scrambled_36 : decode cX3_scrambled 36 = .ok (.lload_n 3, 1) := by decide +kernel
theorem dX3_scrambled_37 : decode cX3_scrambled 37 = .ok (.bipush 28, 2) := by decide +kernel
theorem dX3_scrambled_39 : decode cX3_scrambled 39 = .ok (.iconst 4, 1) := by decide +kernel
theorem dX3_scrambled_40 : decode cX3_scrambled 40 = .ok (.iload 6, 2) := by decide +kernel
theorem dX3_scrambled_42 : decode cX3_scrambled 42 = .ok (.imul, 1) := by decide +kernel
theorem dX3_scrambled_43 : decode cX3_scrambled 43 = .ok (.isub, 1) := by decide +kernel
theorem dX3_scrambled_44 : decode cX3_scrambled 44 = .ok (.lushr, 1) := by decide +kernel
theorem dX3_scrambled_45 : decode cX3_scrambled 45 = .ok (.l2i, 1) := by decide +kernel
theorem dX3_scrambled_46 : decode cX3_scrambled 46 = .ok (.aload_n 0, 1) := by decide +kernel
theorem dX3_scrambled_47 : decode cX3_scrambled 47 = .ok (.getfield 9, 3) := by decide +kernel
theorem dX3_scrambled_50 : decode cX3_scrambled 50 = .ok (.iload_n 2, 1) := by decide +kernel
theorem dX3_scrambled_51 : decode cX3_scrambled 51 = .ok (.bipush 8, 2) := by decide +kernel
theorem dX3_scrambled_53 : decode cX3_scrambled 53 = .ok (.imul, 1) := by decide +kernel
theorem dX3_scrambled_54 : decode cX3_scrambled 54 = .ok (.iload 6, 2) := by decide +kernel
theorem dX3_scrambled_56 : decode cX3_scrambled 56 = .ok (.iadd, 1) := by decide +kernel
theorem dX3_scrambled_57 : decode cX3_scrambled 57 = .ok (.iaload, 1) := by decide +kernel
theorem dX3_scrambled_58 : decode cX3_scrambled 58 = .ok (.ixor, 1) := by decide +kernel
theorem dX3_scrambled_59 : decode cX3_scrambled 59 = .ok (.bipush 63, 2) := by decide +kernel
theorem dX3_scrambled_61 : decode cX3_scrambled 61 = .ok (.iand, 1) := by decide +kernel
theorem dX3_scrambled_62 : decode cX3_scrambled 62 = .ok (.istore 7, 2) := by decide +kernel
theorem dX3_scrambled_64 : decode cX3_scrambled 64 = .ok (.iload 5, 2) := by decide +kernel
theorem dX3_scrambled_66 : decode cX3_scrambled 66 = .ok (.aload_n 0, 1) := by decide +kernel
theorem dX3_scrambled_67 : decode cX3_scrambled 67 = .ok (.getfield 13, 3) := by decide +kernel
theorem dX3_scrambled_70 : decode cX3_scrambled 70 = .ok (.iload 6, 2) := by decide +kernel
theorem dX3_scrambled_72 : decode cX3_scrambled 72 = .ok (.bipush 64, 2) := by decide +kernel
theorem dX3_scrambled_74 : decode cX3_scrambled 74 = .ok (.imul, 1) := by decide +kernel
theorem dX3_scrambled_75 : decode cX3_scrambled 75 = .ok (.iload 7, 2) := by decide +kernel
theorem dX3_scrambled_77 : decode cX3_scrambled 77 = .ok (.iadd, 1) := by decide +kernel
theorem dX3_scrambled_78 : decode cX3_scrambled 78 = .ok (.iaload, 1) := by decide +kernel
theorem dX3_scrambled_79 : decode cX3_scrambled 79 = .ok (.ior, 1) := by decide +kernel
theorem dX3_scrambled_80 : decode cX3_scrambled 80 = .ok (.istore 5, 2) := by decide +kernel
theorem dX3_scrambled_82 : decode cX3_scrambled 82 = .ok (.iinc 6 1, 3) := by decide +kernel
theorem dX3_scrambled_85 : decode cX3_scrambled 85 = .ok (.goto (-56), 3) := by decide +kernel
theorem dX3_scrambled_88 : decode cX3_scrambled 88 = .ok (.iload 5, 2) := by decide +kernel
theorem dX3_scrambled_90 : decode cX3_scrambled 90 = .ok (.ireturn, 1) := by decide +kernel
