theorem dX8_blow_294 : decode cX8_blow 294 = .ok (.iload 5, 2) := by decide +kernel
theorem dX8_blow_296 : decode cX8_blow 296 = .ok (.dup2, 1) := by decide +kernel
theorem dX8_blow_297 : decode cX8_blow 297 = .ok (.iaload, 1) := by decide +kernel
theorem dX8_blow_298 : decode cX8_blow 298 = .ok (.aload_n 0, 1) := by decide +kernel
theorem dX8_blow_299 : decode cX8_blow 299 = .ok (.getfield 61, 3) := by decide +kernel
theorem dX8_blow_302 : decode cX8_blow 302 = .ok (.iload 4, 2) := by decide +kernel
theorem dX8_blow_304 : decode cX8_blow 304 = .ok (.iaload, 1) := by decide +kernel
theorem dX8_blow_305 : decode cX8_blow 305 = .ok (.iadd, 1) := by decide +kernel
theorem dX8_blow_306 : decode cX8_blow 306 = .ok (.iastore, 1) := by decide +kernel
theorem dX8_blow_307 : decode cX8_blow 307 = .ok (.iinc 4 1, 3) := by decide +kernel
theorem dX8_blow_310 : decode cX8_blow 310 = .ok (.goto (-118), 3) := by decide +kernel
theorem dX8_blow_313 : decode cX8_blow 313 = .ok (.return_, 1) := by decide +kernel
theorem dX8_far_0 : decode cX8_far 0 = .ok (.iload_n 0, 1) := by decide +kernel
theorem dX8_far_1 : decode cX8_far 1 = .ok (.bipush 6, 2) := by decide +kernel
theorem dX8_far_3 : decode cX8_far 3 = .ok (.idiv, 1) := by decide +kernel
theorem dX8_far_4 : decode cX8_far 4 = .ok (.iload_n 1, 1) := by decide +kernel
theorem dX8_far_5 : decode cX8_far 5 = .ok (.bipush 6, 2) := by decide +kernel
theorem dX8_far_7 : decode cX8_far 7 = .ok (.idiv, 1) := by decide +kernel
theorem dX8_far_8 : decode cX8_far 8 = .ok (.isub, 1) := by decide +kernel
theorem dX8_far_9 : decode cX8_far 9 = .ok (.invokestatic 253, 3) := by decide +kernel
theorem dX8_far_12 : decode cX8_far 12 = .ok (.iload_n 0, 1) := by decide +kernel
theorem dX8_far_13 : decode cX8_far 13 = .ok (.bipush 6, 2) := by decide +kernel
theorem dX8_far_15 : decode cX8_far 15 = .ok (.irem, 1) := by decide +kernel
theorem dX8_far_16 : decode cX8_far 16 = .ok (.iload_n 1, 1) := by decide +kernel
theorem dX8_far_17 : decode cX8_far 17 = .ok (.bipush 6, 2) := by decide +kernel
theorem dX8_far_19 : decode cX8_far 19 = .ok (.irem, 1) := by decide +kernel
theorem dX8_far_20 : decode cX8_far 20 = .ok (.isub, 1) := by decide +kernel
theorem dX8_far_21 : decode cX8_far 21 = .ok (.invokestatic 253, 3) := by decide +kernel
theorem dX8_far_24 : decode cX8_far 24 = .ok (.iadd, 1) := by decide +kernel
theorem dX8_far_25 : decode cX8_far 25 = .ok (.ireturn, 1) := by decide +kernel
set_option maxRecDepth 20000 in
theorem ggX8_costs_X8_far : GoodIn wsX8_costs wsX8_far := goodIn_r _ [6, 7, 8, 9, 10] (by decide +kernel) (by decide +kernel)
set_option maxRecDepth 20000 in
theorem gX8_costs_X8_far : GoodIn wsX8_costs (va_wsS RX8 257 yX8_far wsX8_far) := goodIn_app (goodIn_of _ (by decide +kernel)) ggX8_costs_X8_far
set_option maxRecDepth 20000 in
theorem ggX8_costs_J13_bitCount_95d88 : GoodIn wsX8_costs wsJ13_bitCount_95d88 := goodIn_r _ [14, 15, 16, 17] (by decide +kernel) (by decide +kernel)
set_option maxRecDepth 20000 in
theorem gX8_costs_J13_bitCount_95d88 : GoodIn wsX8_costs (va_wsS RX8 260 yJ13_bitCount_95d88 wsJ13_bitCount_95d88) := goodIn_app (goodIn_of _ (by decide +kernel)) ggX8_costs_J13_bitCount_95d88
theorem dX8_costs_0 : decode cX8_costs 0 = .ok (.iconst 0, 1) := by decide +kernel
theorem dX8_costs_1 : decode cX8_costs 1 = .ok (.istore_n 3, 1) := by decide +kernel
theorem dX8_costs_2 : decode cX8_costs 2 = .ok (.lconst 0, 1) := by decide +kernel
theorem dX8_costs_3 : decode cX8_costs 3 = .ok (.lstore 4, 2) := by decide +kernel
theorem dX8_costs_5 : decode cX8_costs 5 = .ok (.iconst 0, 1) := by decide +kernel
theorem dX8_costs_6 : decode cX8_costs 6 = .ok (.istore 6, 2) := by decide +kernel
theorem dX8_costs_8 : decode cX8_costs 8 = .ok (.iload 6, 2) := by decide +kernel
theorem dX8_costs_10 : decode cX8_costs 10 = .ok (.bipush 36, 2) := by decide +kernel
theorem dX8_costs_12 : decode cX8_costs 12 = .ok (.if_icmp .ge 114, 3) := by decide +kernel
theorem dX8_costs_15 : decode cX8_costs 15 = .ok (.aload_n 0, 1) := by decide +kernel
theorem dX8_costs_16 : decode cX8_costs 16 = .ok (.getfield 43, 3) := by decide +kernel
theorem dX8_costs_19 : decode cX8_costs 19 = .ok (.iload 6, 2) := by decide +kernel
theorem dX8_costs_21 : decode cX8_costs 21 = .ok (.iaload, 1) := by decide +kernel
theorem dX8_costs_22 : decode cX8_costs 22 = .ok (.iconst 4, 1) := by decide +kernel
theorem dX8_costs_23 : decode cX8_costs 23 = .ok (.aload_n 0, 1) := by decide +kernel
theorem dX8_costs_24 : decode cX8_costs 24 = .ok (.getfield 46, 3) := by decide +kernel
theorem dX8_costs_27 : decode cX8_costs 27 = .ok (.iload 6, 2) := by decide +kernel
theorem dX8_costs_29 : decode cX8_costs 29 = .ok (.iaload, 1) := by decide +kernel
theorem dX8_costs_30 : decode cX8_costs 30 = .ok (.imul, 1) := by decide +kernel
theorem dX8_costs_31 : decode cX8_costs 31 = .ok (.iadd, 1) := by decide +kernel
theorem dX8_costs_32 : decode cX8_costs 32 = .ok (.istore 7, 2) := by decide +kernel
theorem dX8_costs_34 : decode cX8_costs 34 = .ok (.iload 7, 2) := by decide +kernel
theorem dX8_costs_36 : decode cX8_costs 36 = .ok (.ifCond .ne 6, 3) := by decide +kernel
theorem dX8_costs_39 : decode cX8_costs 39 = .ok (.goto 81, 3) := by decide +kernel
theorem dX8_costs_42 : decode cX8_costs 42 = .ok (.iconst (-1), 1) := by decide +kernel
theorem dX8_costs_43 : decode cX8_costs 43 = .ok (.istore 8, 2) := by decide +kernel
theorem dX8_costs_45 : decode cX8_costs 45 = .ok (.iconst 0, 1) := by decide +kernel
theorem dX8_costs_46 : decode cX8_costs 46 = .ok (.istore 9, 2) := by decide +kernel
theorem dX8_costs_48 : decode cX8_costs 48 = .ok (.iload 9, 2) := by decide +kernel
theorem dX8_costs_50 : decode cX8_costs 50 = .ok (.bipush 36, 2) := by decide +kernel
theorem dX8_costs_52 : decode cX8_costs 52 = .ok (.if_icmp .ge 46, 3) := by decide +kernel
theorem dX8_costs_55 : decode cX8_costs 55 = .ok (.lload_n 1, 1) := by decide +kernel
theorem dX8_costs_56 : decode cX8_costs 56 = .ok (.iload 9, 2) := by decide +kernel
theorem dX8_costs_58 : decode cX8_costs 58 = .ok (.lshr, 1) := by decide +kernel
theorem dX8_costs_59 : decode cX8_costs 59 = .ok (.lconst 1, 1) := by decide +kernel
theorem dX8_costs_60 : decode cX8_costs 60 = .ok (.land, 1) := by decide +kernel
theorem dX8_costs_61 : decode cX8_costs 61 = .ok (.lconst 1, 1) := by decide +kernel
theorem dX8_costs_62 : decode cX8_costs 62 = .ok (.lcmp, 1) := by decide +kernel
theorem dX8_costs_63 : decode cX8_costs 63 = .ok (.ifCond .ne 29, 3) := by decide +kernel
theorem dX8_costs_66 : decode cX8_costs 66 = .ok (.iload 8, 2) := by decide +kernel
theorem dX8_costs_68 : decode cX8_costs 68 = .ok (.ifCond .lt 20, 3) := by decide +kernel
theorem dX8_costs_71 : decode cX8_costs 71 = .ok (.iload 6, 2) := by decide +kernel
theorem dX8_costs_73 : decode cX8_costs 73 = .ok (.iload 9, 2) := by decide +kernel
theorem dX8_costs_75 : decode cX8_costs 75 = .ok (.invokestatic 257, 3) := by decide +kernel
theorem dX8_costs_78 : decode cX8_costs 78 = .ok (.iload 6, 2) := by decide +kernel
theorem dX8_costs_80 : decode cX8_costs 80 = .ok (.iload 8, 2) := by decide +kernel
theorem dX8_costs_82 : decode cX8_costs 82 = .ok (.invokestatic 257, 3) := by decide +kernel
theorem dX8_costs_85 : decode cX8_costs 85 = .ok (.if_icmp .ge 7, 3) := by decide +kernel
theorem dX8_costs_88 : decode cX8_costs 88 = .ok (.iload 9, 2) := by decide +kernel
theorem dX8_costs_90 : decode cX8_costs 90 = .ok (.istore 8, 2) := by decide +kernel
theorem dX8_costs_92 : decode cX8_costs 92 = .ok (.iinc 9 1, 3) := by decide +kernel
theorem dX8_costs_95 : decode cX8_costs 95 = .ok (.goto (-47), 3) := by decide +kernel
theorem dX8_costs_98 : decode cX8_costs 98 = .ok (.iload_n 3, 1) := by decide +kernel
theorem dX8_costs_99 : decode cX8_costs 99 = .ok (.iload 7, 2) := by decide +kernel
theorem dX8_costs_101 : decode cX8_costs 101 = .ok (.iload 6, 2) := by decide +kernel
theorem dX8_costs_103 : decode cX8_costs 103 = .ok (.iload 8, 2) := by decide +kernel
theorem dX8_costs_105 : decode cX8_costs 105 = .ok (.invokestatic 257, 3) := by decide +kernel
theorem dX8_costs_108 : decode cX8_costs 108 = .ok (.imul, 1) := by decide +kernel
theorem dX8_costs_109 : decode cX8_costs 109 = .ok (.iadd, 1) := by decide +kernel
theorem dX8_costs_110 : decode cX8_costs 110 = .ok (.istore_n 3, 1) := by decide +kernel
theorem dX8_costs_111 : decode cX8_costs 111 = .ok (.lload 4, 2) := by decide +kernel
theorem dX8_costs_113 : decode cX8_costs 113 = .ok (.lconst 1, 1) := by decide +kernel
theorem dX8_costs_114 : decode cX8_costs 114 = .ok (.iload 8, 2) := by decide +kernel
theorem dX8_costs_116 : decode cX8_costs 116 = .ok (.lshl, 1) := by decide +kernel
theorem dX8_costs_117 : decode cX8_costs 117 = .ok (.lor, 1) := by decide +kernel
theorem dX8_costs_118 : decode cX8_costs 118 = .ok (.lstore 4, 2) := by decide +kernel
theorem dX8_costs_120 : decode cX8_costs 120 = .ok (.iinc 6 1, 3) := by decide +kernel
theorem dX8_costs_123 : decode cX8_costs 123 = .ok (.goto (-115), 3) := by decide +kernel
theorem dX8_costs_126 : decode cX8_costs 126 = .ok (.iload_n 3, 1) := by decide +kernel
theorem dX8_costs_127 : decode cX8_costs 127 = .ok (.bipush 30, 2) := by decide +kernel
theorem dX8_costs_129 : decode cX8_costs 129 = .ok (.lload 4, 2) := by decide +kernel
theorem dX8_costs_131 : decode cX8_costs 131 = .ok (.invokestatic 260, 3) := by decide +kernel
theorem dX8_costs_134 : decode cX8_costs 134 = .ok (.imul, 1) := by decide +kernel
theorem dX8_costs_135 : decode cX8_costs 135 = .ok (.iadd, 1) := by decide +kernel
theorem dX8_costs_136 : decode cX8_costs 136 = .ok (.ireturn, 1) := by decide +kernel
set_option maxRecDepth 20000 in
theorem ggX8_day_X8_worth : GoodIn wsX8_day wsX8_worth := goodIn_r _ [25, 26, 27, 28, 29, 8, 9, 10, 11, 30, 31, 32, 69, 70, 71, 72, 73, 74, 75, 76, 77, 78, 79, 80, 81, 82, 83, 84, 85, 86, 87, 88, 89, 90, 91, 92, 93, 94, 95, 96, 97, 98, 99, 100, 101, 102, 103, 104, 105, 106, 107, 108, 109, 110, 111, 112, 113, 114, 115] (by decide +kernel) (by decide +kernel)
set_option maxRecDepth 20000 in
theorem gX8_day_X8_worth : GoodIn wsX8_day (wsV RX8 219 RX8 yX8_worth wsX8_worth) := goodIn_app (goodIn_of _ (by decide +kernel)) ggX8_day_X8_worth
set_option maxRecDepth 20000 in
theorem ggX8_day_X8_blow : GoodIn wsX8_day wsX8_blow := goodIn_r _ [36, 2, 3, 37, 38, 39, 21, 22, 23, 24, 25, 26, 27, 28, 29, 8, 9, 10, 11, 30, 31, 32, 40, 41, 42, 43, 15, 44, 45, 46, 47, 48, 49, 50, 51, 69, 70, 71, 72, 73, 74, 75, 76, 77, 78, 79, 80, 81, 82, 83, 84, 85, 86, 87, 88, 89, 90, 91, 92, 93, 94, 95, 96, 97, 98, 99, 100, 101, 102, 103, 104, 105, 106, 107, 108, 109, 110, 111, 112, 113, 114, 115] (by decide +kernel) (by decide +kernel)
set_option maxRecDepth 20000 in
theorem gX8_day_X8_blow : GoodIn wsX8_day (wsV RX8 272 RX8 yX8_blow wsX8_blow) := goodIn_app (goodIn_of _ (by decide +kernel)) ggX8_day_X8_blow
set_option maxRecDepth 20000 in
theorem ggX8_day_X8_costs : GoodIn wsX8_day wsX8_costs := goodIn_r _ [55, 2, 3, 56, 57, 24, 58, 59, 60, 10, 61, 62, 63, 64, 65, 66, 67, 68, 69, 70, 71, 72, 73, 74, 75, 76, 77, 78, 79, 80, 81, 82, 83, 84, 85, 86, 87, 88, 89, 90, 91, 92, 93, 94, 95, 96, 97, 98, 99, 100, 101, 102, 103, 104, 105, 106, 107, 108, 109, 110, 111, 112, 113, 114, 115] (by decide +kernel) (by decide +kernel)
set_option maxRecDepth 20000 in
theorem gX8_day_X8_costs : GoodIn wsX8_day (wsV RX8 282 RX8 yX8_costs wsX8_costs) := goodIn_app (goodIn_of _ (by decide +kernel)) ggX8_day_X8_costs
theorem dX8_day_0 : decode cX8_day 0 = .ok (.aload_n 0, 1) := by decide +kernel
theorem dX8_day_1 : decode cX8_day 1 = .ok (.getfield 7, 3) := by decide +kernel
theorem dX8_day_4 : decode cX8_day 4 = .ok (.iconst 4, 1) := by decide +kernel
theorem dX8_day_5 : decode cX8_day 5 = .ok (.iload_n 1, 1) := by decide +kernel
theorem dX8_day_6 : decode cX8_day 6 = .ok (.imul, 1) := by decide +kernel
theorem dX8_day_7 : decode cX8_day 7 = .ok (.iaload, 1) := by decide +kernel
theorem dX8_day_8 : decode cX8_day 8 = .ok (.istore_n 2, 1) := by decide +kernel
theorem dX8_day_9 : decode cX8_day 9 = .ok (.aload_n 0, 1) := by decide +kernel
theorem dX8_day_10 : decode cX8_day 10 = .ok (.getfield 7, 3) := by decide +kernel
theorem dX8_day_13 : decode cX8_day 13 = .ok (.iconst 4, 1) := by decide +kernel
theorem dX8_day_14 : decode cX8_day 14 = .ok (.iload_n 1, 1) := by decide +kernel
theorem dX8_day_15 : decode cX8_day 15 = .ok (.imul, 1) := by decide +kernel
theorem dX8_day_16 : decode cX8_day 16 = .ok (.iconst 1, 1) := by decide +kernel
theorem dX8_day_17 : decode cX8_day 17 = .ok (.iadd, 1) := by decide +kernel
theorem dX8_day_18 : decode cX8_day 18 = .ok (.iaload, 1) := by decide +kernel
theorem dX8_day_19 : decode cX8_day 19 = .ok (.istore_n 3, 1) := by decide +kernel
theorem dX8_day_20 : decode cX8_day 20 = .ok (.aload_n 0, 1) := by decide +kernel
theorem dX8_day_21 : decode cX8_day 21 = .ok (.getfield 7, 3) := by decide +kernel
theorem dX8_day_24 : decode cX8_day 24 = .ok (.iconst 4, 1) := by decide +kernel
theorem dX8_day_25 : decode cX8_day 25 = .ok (.iload_n 1, 1) := by decide +kernel
theorem dX8_day_26 : decode cX8_day 26 = .ok (.imul, 1) := by decide +kernel
theorem dX8_day_27 : decode cX8_day 27 = .ok (.iconst 2, 1) := by decide +kernel
theorem dX8_day_28 : decode cX8_day 28 = .ok (.iadd, 1) := by decide +kernel
theorem dX8_day_29 : decode cX8_day 29 = .ok (.iaload, 1) := by decide +kernel
theorem dX8_day_30 : decode cX8_day 30 = .ok (.istore 4, 2) := by decide +kernel
theorem dX8_day_32 : decode cX8_day 32 = .ok (.aload_n 0, 1) := by decide +kernel
theorem dX8_day_33 : decode cX8_day 33 = .ok (.getfield 7, 3) := by decide +kernel
theorem dX8_day_36 : decode cX8_day 36 = .ok (.iconst 4, 1) := by decide +kernel
theorem dX8_day_37 : decode cX8_day 37 = .ok (.iload_n 1, 1) := by decide +kernel
theorem dX8_day_38 : decode cX8_day 38 = .ok (.imul, 1) := by decide +kernel
theorem dX8_day_39 : decode cX8_day 39 = .ok (.iconst 3, 1) := by decide +kernel
theorem dX8_day_40 : decode cX8_day 40 = .ok (.iadd, 1) := by decide +kernel
theorem dX8_day_41 : decode cX8_day 41 = .ok (.iaload, 1) := by decide +kernel
theorem dX8_day_42 : decode cX8_day 42 = .ok (.istore 5, 2) := by decide +kernel
theorem dX8_day_44 : decode cX8_day 44 = .ok (.iconst 0, 1) := by decide +kernel
theorem dX8_day_45 : decode cX8_day 45 = .ok (.istore 6, 2) := by decide +kernel
theorem dX8_day_47 : decode cX8_day 47 = .ok (.iload 6, 2) := by decide +kernel
theorem dX8_day_49 : decode cX8_day 49 = .ok (.bipush 36, 2) := by decide +kernel
theorem dX8_day_51 : decode cX8_day 51 = .ok (.if_icmp .ge 61, 3) := by decide +kernel
theorem dX8_day_54 : decode cX8_day 54 = .ok (.iload 5, 2) := by decide +kernel
theorem dX8_day_56 : decode cX8_day 56 = .ok (.iconst 1, 1) := by decide +kernel
theorem dX8_day_57 : decode cX8_day 57 = .ok (.if_icmp .ne 14, 3) := by decide +kernel
theorem dX8_day_60 : decode cX8_day 60 = .ok (.aload_n 0, 1) := by decide +kernel
theorem dX8_day_61 : decode cX8_day 61 = .ok (.getfield 43, 3) := by decide +kernel
theorem dX8_day_64 : decode cX8_day 64 = .ok (.iload 6, 2) := by decide +kernel
theorem dX8_day_66 : decode cX8_day 66 = .ok (.iaload, 1) := by decide +kernel
theorem dX8_day_67 : decode cX8_day 67 = .ok (.ineg, 1) := by decide +kernel
theorem dX8_day_68 : decode cX8_day 68 = .ok (.goto 12, 3) := by decide +kernel
theorem dX8_day_71 : decode cX8_day 71 = .ok (.aload_n 0, 1) := by decide +kernel
theorem dX8_day_72 : decode cX8_day 72 = .ok (.getfield 46, 3) := by decide +kernel
theorem dX8_day_75 : decode cX8_day 75 = .ok (.iload 6, 2) := by decide +kernel
theorem dX8_day_77 : decode cX8_day 77 = .ok (.iaload, 1) := by decide +kernel
theorem dX8_day_78 : decode cX8_day 78 = .ok (.iconst 2, 1) := by decide +kernel
theorem dX8_day_79 : decode cX8_day 79 = .ok (.idiv, 1) := by decide +kernel
theorem dX8_day_80 : decode cX8_day 80 = .ok (.istore 7, 2) := by decide +kernel
theorem dX8_day_82 : decode cX8_day 82 = .ok (.aload_n 0, 1) := by decide +kernel
theorem dX8_day_83 : decode cX8_day 83 = .ok (.getfield 43, 3) := by decide +kernel
theorem dX8_day_86 : decode cX8_day 86 = .ok (.iload 6, 2) := by decide +kernel
theorem dX8_day_88 : decode cX8_day 88 = .ok (.dup2, 1) := by decide +kernel
theorem dX8_day_89 : decode cX8_day 89 = .ok (.iaload, 1) := by decide +kernel
theorem dX8_day_90 : decode cX8_day 90 = .ok (.iload 7, 2) := by decide +kernel
theorem dX8_day_92 : decode cX8_day 92 = .ok (.iadd, 1) := by decide +kernel
theorem dX8_day_93 : decode cX8_day 93 = .ok (.iastore, 1) := by decide +kernel
theorem dX8_day_94 : decode cX8_day 94 = .ok (.aload_n 0, 1) := by decide +kernel
theorem dX8_day_95 : decode cX8_day 95 = .ok (.getfield 46, 3) := by decide +kernel
theorem dX8_day_98 : decode cX8_day 98 = .ok (.iload 6, 2) := by decide +kernel
theorem dX8_day_100 : decode cX8_day 100 = .ok (.dup2, 1) := by decide +kernel
theorem dX8_day_101 : decode cX8_day 101 = .ok (.iaload, 1) := by decide +kernel
theorem dX8_day_102 : decode cX8_day 102 = .ok (.iload 7, 2) := by decide +kernel
theorem dX8_day_104 : decode cX8_day 104 = .ok (.isub, 1) := by decide +kernel
theorem dX8_day_105 : decode cX8_day 105 = .ok (.iastore, 1) := by decide +kernel
theorem dX8_day_106 : decode cX8_day 106 = .ok (.iinc 6 1, 3) := by decide +kernel
theorem dX8_day_109 : decode cX8_day 109 = .ok (.goto (-62), 3) := by decide +kernel
theorem dX8_day_112 : decode cX8_day 112 = .ok (.aload_n 0, 1) := by decide +kernel
theorem dX8_day_113 : decode cX8_day 113 = .ok (.iconst 0, 1) := by decide +kernel
theorem dX8_day_114 : decode cX8_day 114 = .ok (.putfield 266, 3) := by decide +kernel
theorem dX8_day_117 : decode cX8_day 117 = .ok (.iconst 0, 1) := by decide +kernel
theorem dX8_day_118 : decode cX8_day 118 = .ok (.istore 6, 2) := by decide +kernel
theorem dX8_day_120 : decode cX8_day 120 = .ok (.iload 6, 2) := by decide +kernel
theorem dX8_day_122 : decode cX8_day 122 = .ok (.aload_n 0, 1) := by decide +kernel
theorem dX8_day_123 : decode cX8_day 123 = .ok (.getfield 112, 3) := by decide +kernel
theorem dX8_day_126 : decode cX8_day 126 = .ok (.if_icmp .ge 112, 3) := by decide +kernel
theorem dX8_day_129 : decode cX8_day 129 = .ok (.aload_n 0, 1) := by decide +kernel
theorem dX8_day_130 : decode cX8_day 130 = .ok (.getfield 52, 3) := by decide +kernel
theorem dX8_day_133 : decode cX8_day 133 = .ok (.iload 6, 2) := by decide +kernel
theorem dX8_day_135 : decode cX8_day 135 = .ok (.iaload, 1) := by decide +kernel
theorem dX8_day_136 : decode cX8_day 136 = .ok (.aload_n 0, 1) := by decide +kernel
theorem dX8_day_137 : decode cX8_day 137 = .ok (.iconst 0, 1) := by decide +kernel
theorem dX8_day_138 : decode cX8_day 138 = .ok (.aload_n 0, 1) := by decide +kernel
theorem dX8_day_139 : decode cX8_day 139 = .ok (.getfield 52, 3) := by decide +kernel
theorem dX8_day_142 : decode cX8_day 142 = .ok (.iload 6, 2) := by decide +kernel
theorem dX8_day_144 : decode cX8_day 144 = .ok (.iaload, 1) := by decide +kernel
theorem dX8_day_145 : decode cX8_day 145 = .ok (.iload_n 3, 1) := by decide +kernel
theorem dX8_day_146 : decode cX8_day 146 = .ok (.iload 4, 2) := by decide +kernel
theorem dX8_day_148 : decode cX8_day 148 = .ok (.iload 5, 2) := by decide +kernel
theorem dX8_day_150 : decode cX8_day 150 = .ok (.aload_n 0, 1) := by decide +kernel
theorem dX8_day_151 : decode cX8_day 151 = .ok (.getfield 25, 3) := by decide +kernel
theorem dX8_day_154 : decode cX8_day 154 = .ok (.iload 6, 2) := by decide +kernel
theorem dX8_day_156 : decode cX8_day 156 = .ok (.iaload, 1) := by decide +kernel
theorem dX8_day_157 : decode cX8_day 157 = .ok (.iconst 0, 1) := by decide +kernel
theorem dX8_day_158 : decode cX8_day 158 = .ok (.invokevirtual 219, 3) := by decide +kernel
theorem dX8_day_161 : decode cX8_day 161 = .ok (.invokestatic 210, 3) := by decide +kernel
theorem dX8_day_164 : decode cX8_day 164 = .ok (.istore 7, 2) := by decide +kernel
theorem dX8_day_166 : decode cX8_day 166 = .ok (.aload_n 0, 1) := by decide +kernel
theorem dX8_day_167 : decode cX8_day 167 = .ok (.getfield 52, 3) := by decide +kernel
theorem dX8_day_170 : decode cX8_day 170 = .ok (.iload 6, 2) := by decide +kernel
theorem dX8_day_172 : decode cX8_day 172 = .ok (.dup2, 1) := by decide +kernel
theorem dX8_day_173 : decode cX8_day 173 = .ok (.iaload, 1) := by decide +kernel
theorem dX8_day_174 : decode cX8_day 174 = .ok (.iload 7, 2) := by decide +kernel
theorem dX8_day_176 : decode cX8_day 176 = .ok (.isub, 1) := by decide +kernel
theorem dX8_day_177 : decode cX8_day 177 = .ok (.iastore, 1) := by decide +kernel
theorem dX8_day_178 : decode cX8_day 178 = .ok (.aload_n 0, 1) := by decide +kernel
theorem dX8_day_179 : decode cX8_day 179 = .ok (.dup, 1) := by decide +kernel
theorem dX8_day_180 : decode cX8_day 180 = .ok (.getfield 266, 3) := by decide +kernel
theorem dX8_day_183 : decode cX8_day 183 = .ok (.iload 7, 2) := by decide +kernel
theorem dX8_day_185 : decode cX8_day 185 = .ok (.iadd, 1) := by decide +kernel
theorem dX8_day_186 : decode cX8_day 186 = .ok (.putfield 266, 3) := by decide +kernel
theorem dX8_day_189 : decode cX8_day 189 = .ok (.iload 5, 2) := by decide +kernel
theorem dX8_day_191 : decode cX8_day 191 = .ok (.iconst 1, 1) := by decide +kernel
theorem dX8_day_192 : decode cX8_day 192 = .ok (.if_icmp .ne 23, 3) := by decide +kernel
theorem dX8_day_195 : decode cX8_day 195 = .ok (.aload_n 0, 1) := by decide +kernel
theorem dX8_day_196 : decode cX8_day 196 = .ok (.getfield 46, 3) := by decide +kernel
theorem dX8_day_199 : decode cX8_day 199 = .ok (.aload_n 0, 1) := by decide +kernel
theorem dX8_day_200 : decode cX8_day 200 = .ok (.getfield 22, 3) := by decide +kernel
theorem dX8_day_203 : decode cX8_day 203 = .ok (.iload 6, 2) := by decide +kernel
theorem dX8_day_205 : decode cX8_day 205 = .ok (.iaload, 1) := by decide +kernel
theorem dX8_day_206 : decode cX8_day 206 = .ok (.dup2, 1) := by decide +kernel
theorem dX8_day_207 : decode cX8_day 207 = .ok (.iaload, 1) := by decide +kernel
theorem dX8_day_208 : decode cX8_day 208 = .ok (.iload 7, 2) := by decide +kernel
theorem dX8_day_210 : decode cX8_day 210 = .ok (.iadd, 1) := by decide +kernel
theorem dX8_day_211 : decode cX8_day 211 = .ok (.iastore, 1) := by decide +kernel
theorem dX8_day_212 : decode cX8_day 212 = .ok (.goto 20, 3) := by decide +kernel
theorem dX8_day_215 : decode cX8_day 215 = .ok (.aload_n 0, 1) := by decide +kernel
theorem dX8_day_216 : decode cX8_day 216 = .ok (.getfield 43, 3) := by decide +kernel
theorem dX8_day_219 : decode cX8_day 219 = .ok (.aload_n 0, 1) := by decide +kernel
theorem dX8_day_220 : decode cX8_day 220 = .ok (.getfield 22, 3) := by decide +kernel
theorem dX8_day_223 : decode cX8_day 223 = .ok (.iload 6, 2) := by decide +kernel
theorem dX8_day_225 : decode cX8_day 225 = .ok (.iaload, 1) := by decide +kernel
theorem dX8_day_226 : decode cX8_day 226 = .ok (.dup2, 1) := by decide +kernel
theorem dX8_day_227 : decode cX8_day 227 = .ok (.iaload, 1) := by decide +kernel
theorem dX8_day_228 : decode cX8_day 228 = .ok (.iload 7, 2) := by decide +kernel
theorem dX8_day_230 : decode cX8_day 230 = .ok (.iadd, 1) := by decide +kernel
theorem dX8_day_231 : decode cX8_day 231 = .ok (.iastore, 1) := by decide +kernel
theorem dX8_day_232 : decode cX8_day 232 = .ok (.iinc 6 1, 3) := by decide +kernel
theorem dX8_day_235 : decode cX8_day 235 = .ok (.goto (-115), 3) := by decide +kernel
theorem dX8_day_238 : decode cX8_day 238 = .ok (.aload_n 0, 1) := by decide +kernel
theorem dX8_day_239 : decode cX8_day 239 = .ok (.dup, 1) := by decide +kernel
theorem dX8_day_240 : decode cX8_day 240 = .ok (.getfield 269, 3) := by decide +kernel
theorem dX8_day_243 : decode cX8_day 243 = .ok (.aload_n 0, 1) := by decide +kernel
theorem dX8_day_244 : decode cX8_day 244 = .ok (.getfield 266, 3) := by decide +kernel
theorem dX8_day_247 : decode cX8_day 247 = .ok (.iadd, 1) := by decide +kernel
theorem dX8_day_248 : decode cX8_day 248 = .ok (.putfield 269, 3) := by decide +kernel
theorem dX8_day_251 : decode cX8_day 251 = .ok (.aload_n 0, 1) := by decide +kernel
theorem dX8_day_252 : decode cX8_day 252 = .ok (.iload_n 2, 1) := by decide +kernel
theorem dX8_day_253 : decode cX8_day 253 = .ok (.iload_n 3, 1) := by decide +kernel
theorem dX8_day_254 : decode cX8_day 254 = .ok (.iload 4, 2) := by decide +kernel
theorem dX8_day_256 : decode cX8_day 256 = .ok (.invokevirtual 272, 3) := by decide +kernel
theorem dX8_day_259 : decode cX8_day 259 = .ok (.iconst 0, 1) := by decide +kernel
theorem dX8_day_260 : decode cX8_day 260 = .ok (.istore 6, 2) := by decide +kernel
theorem dX8_day_262 : decode cX8_day 262 = .ok (.iload 6, 2) := by decide +kernel
theorem dX8_day_264 : decode cX8_day 264 = .ok (.bipush 36, 2) := by decide +kernel
theorem dX8_day_266 : decode cX8_day 266 = .ok (.if_icmp .ge 165, 3) := by decide +kernel
theorem dX8_day_269 : decode cX8_day 269 = .ok (.aload_n 0, 1) := by decide +kernel
theorem dX8_day_270 : decode cX8_day 270 = .ok (.getfield 43, 3) := by decide +kernel
theorem dX8_day_273 : decode cX8_day 273 = .ok (.iload 6, 2) := by decide +kernel
theorem dX8_day_275 : decode cX8_day 275 = .ok (.iaload, 1) := by decide +kernel
theorem dX8_day_276 : decode cX8_day 276 = .ok (.aload_n 0, 1) := by decide +kernel
theorem dX8_day_277 : decode cX8_day 277 = .ok (.getfield 46, 3) := by decide +kernel
theorem dX8_day_280 : decode cX8_day 280 = .ok (.iload 6, 2) := by decide +kernel
theorem dX8_day_282 : decode cX8_day 282 = .ok (.iaload, 1) := by decide +kernel
theorem dX8_day_283 : decode cX8_day 283 = .ok (.iadd, 1) := by decide +kernel
theorem dX8_day_284 : decode cX8_day 284 = .ok (.istore 7, 2) := by decide +kernel
theorem dX8_day_286 : decode cX8_day 286 = .ok (.iload 7, 2) := by decide +kernel
theorem dX8_day_288 : decode cX8_day 288 = .ok (.ifCond .ne 6, 3) := by decide +kernel
theorem dX8_day_291 : decode cX8_day 291 = .ok (.goto 134, 3) := by decide +kernel
theorem dX8_day_294 : decode cX8_day 294 = .ok (.aload_n 0, 1) := by decide +kernel
theorem dX8_day_295 : decode cX8_day 295 = .ok (.getfield 43, 3) := by decide +kernel
theorem dX8_day_298 : decode cX8_day 298 = .ok (.iload 6, 2) := by decide +kernel
theorem dX8_day_300 : decode cX8_day 300 = .ok (.iaload, 1) := by decide +kernel
theorem dX8_day_301 : decode cX8_day 301 = .ok (.aload_n 0, 1) := by decide +kernel
theorem dX8_day_302 : decode cX8_day 302 = .ok (.iconst 2, 1) := by decide +kernel
theorem dX8_day_303 : decode cX8_day 303 = .ok (.iconst 0, 1) := by decide +kernel
theorem dX8_day_304 : decode cX8_day 304 = .ok (.iload_n 3, 1) := by decide +kernel
theorem dX8_day_305 : decode cX8_day 305 = .ok (.iload 4, 2) := by decide +kernel
theorem dX8_day_307 : decode cX8_day 307 = .ok (.iconst 0, 1) := by decide +kernel
theorem dX8_day_308 : decode cX8_day 308 = .ok (.iconst 0, 1) := by decide +kernel
theorem dX8_day_309 : decode cX8_day 309 = .ok (.iload 7, 2) := by decide +kernel
theorem dX8_day_311 : decode cX8_day 311 = .ok (.invokevirtual 219, 3) := by decide +kernel
theorem dX8_day_314 : decode cX8_day 314 = .ok (.imul, 1) := by decide +kernel
theorem dX8_day_315 : decode cX8_day 315 = .ok (.bipush 100, 2) := by decide +kernel
theorem dX8_day_317 : decode cX8_day 317 = .ok (.idiv, 1) := by decide +kernel
theorem dX8_day_318 : decode cX8_day 318 = .ok (.istore 8, 2) := by decide +kernel
theorem dX8_day_320 : decode cX8_day 320 = .ok (.aload_n 0, 1) := by decide +kernel
theorem dX8_day_321 : decode cX8_day 321 = .ok (.getfield 46, 3) := by decide +kernel
theorem dX8_day_324 : decode cX8_day 324 = .ok (.iload 6, 2) := by decide +kernel
theorem dX8_day_326 : decode cX8_day 326 = .ok (.iaload, 1) := by decide +kernel
theorem dX8_day_327 : decode cX8_day 327 = .ok (.aload_n 0, 1) := by decide +kernel
theorem dX8_day_328 : decode cX8_day 328 = .ok (.iconst 2, 1) := by decide +kernel
theorem dX8_day_329 : decode cX8_day 329 = .ok (.iconst 0, 1) := by decide +kernel
theorem dX8_day_330 : decode cX8_day 330 = .ok (.iload_n 3, 1) := by decide +kernel
theorem dX8_day_331 : decode cX8_day 331 = .ok (.iload 4, 2) := by decide +kernel
theorem dX8_day_333 : decode cX8_day 333 = .ok (.iconst 1, 1) := by decide +kernel
theorem dX8_day_334 : decode cX8_day 334 = .ok (.iconst 0, 1) := by decide +kernel
theorem dX8_day_335 : decode cX8_day 335 = .ok (.iload 7, 2) := by decide +kernel
theorem dX8_day_337 : decode cX8_day 337 = .ok (.invokevirtual 219, 3) := by decide +kernel
theorem dX8_day_340 : decode cX8_day 340 = .ok (.imul, 1) := by decide +kernel
theorem dX8_day_341 : decode cX8_day 341 = .ok (.bipush 100, 2) := by decide +kernel
theorem dX8_day_343 : decode cX8_day 343 = .ok (.idiv, 1) := by decide +kernel
theorem dX8_day_344 : decode cX8_day 344 = .ok (.istore 9, 2) := by decide +kernel
theorem dX8_day_346 : decode cX8_day 346 = .ok (.aload_n 0, 1) := by decide +kernel
theorem dX8_day_347 : decode cX8_day 347 = .ok (.getfield 43, 3) := by decide +kernel
theorem dX8_day_350 : decode cX8_day 350 = .ok (.iload 6, 2) := by decide +kernel
theorem dX8_day_352 : decode cX8_day 352 = .ok (.dup2, 1) := by decide +kernel
theorem dX8_day_353 : decode cX8_day 353 = .ok (.iaload, 1) := by decide +kernel
theorem dX8_day_354 : decode cX8_day 354 = .ok (.iload 8, 2) := by decide +kernel
theorem dX8_day_356 : decode cX8_day 356 = .ok (.isub, 1) := by decide +kernel
theorem dX8_day_357 : decode cX8_day 357 = .ok (.iastore, 1) := by decide +kernel
theorem dX8_day_358 : decode cX8_day 358 = .ok (.aload_n 0, 1) := by decide +kernel
theorem dX8_day_359 : decode cX8_day 359 = .ok (.getfield 46, 3) := by decide +kernel
theorem dX8_day_362 : decode cX8_day 362 = .ok (.iload 6, 2) := by decide +kernel
theorem dX8_day_364 : decode cX8_day 364 = .ok (.dup2, 1) := by decide +kernel
theorem dX8_day_365 : decode cX8_day 365 = .ok (.iaload, 1) := by decide +kernel
theorem dX8_day_366 : decode cX8_day 366 = .ok (.iload 9, 2) := by decide +kernel
theorem dX8_day_368 : decode cX8_day 368 = .ok (.isub, 1) := by decide +kernel
theorem dX8_day_369 : decode cX8_day 369 = .ok (.iastore, 1) := by decide +kernel
theorem dX8_day_370 : decode cX8_day 370 = .ok (.aload_n 0, 1) := by decide +kernel
theorem dX8_day_371 : decode cX8_day 371 = .ok (.dup, 1) := by decide +kernel
theorem dX8_day_372 : decode cX8_day 372 = .ok (.getfield 276, 3) := by decide +kernel
theorem dX8_day_375 : decode cX8_day 375 = .ok (.iload 8, 2) := by decide +kernel
theorem dX8_day_377 : decode cX8_day 377 = .ok (.iload 9, 2) := by decide +kernel
theorem dX8_day_379 : decode cX8_day 379 = .ok (.iadd, 1) := by decide +kernel
theorem dX8_day_380 : decode cX8_day 380 = .ok (.iadd, 1) := by decide +kernel
theorem dX8_day_381 : decode cX8_day 381 = .ok (.putfield 276, 3) := by decide +kernel
theorem dX8_day_384 : decode cX8_day 384 = .ok (.aload_n 0, 1) := by decide +kernel
theorem dX8_day_385 : decode cX8_day 385 = .ok (.getfield 13, 3) := by decide +kernel
theorem dX8_day_388 : decode cX8_day 388 = .ok (.iload 6, 2) := by decide +kernel
theorem dX8_day_390 : decode cX8_day 390 = .ok (.iaload, 1) := by decide +kernel
theorem dX8_day_391 : decode cX8_day 391 = .ok (.ifCond .ne 34, 3) := by decide +kernel
theorem dX8_day_394 : decode cX8_day 394 = .ok (.aload_n 0, 1) := by decide +kernel
theorem dX8_day_395 : decode cX8_day 395 = .ok (.getfield 43, 3) := by decide +kernel
theorem dX8_day_398 : decode cX8_day 398 = .ok (.iload 6, 2) := by decide +kernel
theorem dX8_day_400 : decode cX8_day 400 = .ok (.iaload, 1) := by decide +kernel
theorem dX8_day_401 : decode cX8_day 401 = .ok (.aload_n 0, 1) := by decide +kernel
theorem dX8_day_402 : decode cX8_day 402 = .ok (.getfield 46, 3) := by decide +kernel
theorem dX8_day_405 : decode cX8_day 405 = .ok (.iload 6, 2) := by decide +kernel
theorem dX8_day_407 : decode cX8_day 407 = .ok (.iaload, 1) := by decide +kernel
theorem dX8_day_408 : decode cX8_day 408 = .ok (.iadd, 1) := by decide +kernel
theorem dX8_day_409 : decode cX8_day 409 = .ok (.bipush 20, 2) := by decide +kernel
theorem dX8_day_411 : decode cX8_day 411 = .ok (.if_icmp .lt 14, 3) := by decide +kernel
theorem dX8_day_414 : decode cX8_day 414 = .ok (.aload_n 0, 1) := by decide +kernel
theorem dX8_day_415 : decode cX8_day 415 = .ok (.getfield 49, 3) := by decide +kernel
theorem dX8_day_418 : decode cX8_day 418 = .ok (.iload 6, 2) := by decide +kernel
theorem dX8_day_420 : decode cX8_day 420 = .ok (.dup2, 1) := by decide +kernel
theorem dX8_day_421 : decode cX8_day 421 = .ok (.iaload, 1) := by decide +kernel
theorem dX8_day_422 : decode cX8_day 422 = .ok (.iconst 1, 1) := by decide +kernel
theorem dX8_day_423 : decode cX8_day 423 = .ok (.iadd, 1) := by decide +kernel
theorem dX8_day_424 : decode cX8_day 424 = .ok (.iastore, 1) := by decide +kernel
theorem dX8_day_425 : decode cX8_day 425 = .ok (.iinc 6 1, 3) := by decide +kernel
theorem dX8_day_428 : decode cX8_day 428 = .ok (.goto (-166), 3) := by decide +kernel
theorem dX8_day_431 : decode cX8_day 431 = .ok (.aload_n 0, 1) := by decide +kernel
theorem dX8_day_432 : decode cX8_day 432 = .ok (.getfield 115, 3) := by decide +kernel
theorem dX8_day_435 : decode cX8_day 435 = .ok (.iload_n 1, 1) := by decide +kernel
theorem dX8_day_436 : decode cX8_day 436 = .ok (.ishr, 1) := by decide +kernel
theorem dX8_day_437 : decode cX8_day 437 = .ok (.iconst 1, 1) := by decide +kernel
theorem dX8_day_438 : decode cX8_day 438 = .ok (.iand, 1) := by decide +kernel
theorem dX8_day_439 : decode cX8_day 439 = .ok (.ifCond .ne 4, 3) := by decide +kernel
theorem dX8_day_442 : decode cX8_day 442 = .ok (.return_, 1) := by decide +kernel
theorem dX8_day_443 : decode cX8_day 443 = .ok (.aload_n 0, 1) := by decide +kernel
theorem dX8_day_444 : decode cX8_day 444 = .ok (.dup, 1) := by decide +kernel
theorem dX8_day_445 : decode cX8_day 445 = .ok (.getfield 279, 3) := by decide +kernel
theorem dX8_day_448 : decode cX8_day 448 = .ok (.aload_n 0, 1) := by decide +kernel
theorem dX8_day_449 : decode cX8_day 449 = .ok (.aload_n 0, 1) := by decide +kernel
theorem dX8_day_450 : decode cX8_day 450 = .ok (.getfield 85, 3) := by decide +kernel
theorem dX8_day_453 : decode cX8_day 453 = .ok (.invokevirtual 282, 3) := by decide +kernel
theorem dX8_day_456 : decode cX8_day 456 = .ok (.iadd, 1) := by decide +kernel
theorem dX8_day_457 : decode cX8_day 457 = .ok (.putfield 279, 3) := by decide +kernel
theorem dX8_day_460 : decode cX8_day 460 = .ok (.iconst 0, 1) := by decide +kernel
theorem dX8_day_461 : decode cX8_day 461 = .ok (.istore 6, 2) := by decide +kernel
theorem dX8_day_463 : decode cX8_day 463 = .ok (.iload 6, 2) := by decide +kernel
theorem dX8_day_465 : decode cX8_day 465 = .ok (.bipush 36, 2) := by decide +kernel
theorem dX8_day_467 : decode cX8_day 467 = .ok (.if_icmp .ge 49, 3) := by decide +kernel
theorem dX8_day_470 : decode cX8_day 470 = .ok (.aload_n 0, 1) := by decide +kernel
theorem dX8_day_471 : decode cX8_day 471 = .ok (.dup, 1) := by decide +kernel
theorem dX8_day_472 : decode cX8_day 472 = .ok (.getfield 285, 3) := by decide +kernel
theorem dX8_day_475 : decode cX8_day 475 = .ok (.aload_n 0, 1) := by decide +kernel
theorem dX8_day_476 : decode cX8_day 476 = .ok (.getfield 43, 3) := by decide +kernel
theorem dX8_day_479 : decode cX8_day 479 = .ok (.iload 6, 2) := by decide +kernel
theorem dX8_day_481 : decode cX8_day 481 = .ok (.iaload, 1) := by decide +kernel
theorem dX8_day_482 : decode cX8_day 482 = .ok (.aload_n 0, 1) := by decide +kernel
theorem dX8_day_483 : decode cX8_day 483 = .ok (.getfield 46, 3) := by decide +kernel
theorem dX8_day_486 : decode cX8_day 486 = .ok (.iload 6, 2) := by decide +kernel
theorem dX8_day_488 : decode cX8_day 488 = .ok (.iaload, 1) := by decide +kernel
theorem dX8_day_489 : decode cX8_day 489 = .ok (.iadd, 1) := by decide +kernel
theorem dX8_day_490 : decode cX8_day 490 = .ok (.iadd, 1) := by decide +kernel
theorem dX8_day_491 : decode cX8_day 491 = .ok (.putfield 285, 3) := by decide +kernel
theorem dX8_day_494 : decode cX8_day 494 = .ok (.aload_n 0, 1) := by decide +kernel
theorem dX8_day_495 : decode cX8_day 495 = .ok (.getfield 43, 3) := by decide +kernel
theorem dX8_day_498 : decode cX8_day 498 = .ok (.iload 6, 2) := by decide +kernel
theorem dX8_day_500 : decode cX8_day 500 = .ok (.iconst 0, 1) := by decide +kernel
theorem dX8_day_501 : decode cX8_day 501 = .ok (.iastore, 1) := by decide +kernel
theorem dX8_day_502 : decode cX8_day 502 = .ok (.aload_n 0, 1) := by decide +kernel
theorem dX8_day_503 : decode cX8_day 503 = .ok (.getfield 46, 3) := by decide +kernel
theorem dX8_day_506 : decode cX8_day 506 = .ok (.iload 6, 2) := by decide +kernel
theorem dX8_day_508 : decode cX8_day 508 = .ok (.iconst 0, 1) := by decide +kernel
theorem dX8_day_509 : decode cX8_day 509 = .ok (.iastore, 1) := by decide +kernel
theorem dX8_day_510 : decode cX8_day 510 = .ok (.iinc 6 1, 3) := by decide +kernel
theorem dX8_day_513 : decode cX8_day 513 = .ok (.goto (-50), 3) := by decide +kernel
theorem dX8_day_516 : decode cX8_day 516 = .ok (.return_, 1) := by decide +kernel
theorem dX8_begin_0 : decode cX8_begin 0 = .ok (.iconst 0, 1) := by decide +kernel
theorem dX8_begin_1 : decode cX8_begin 1 = .ok (.istore_n 1, 1) := by decide +kernel
theorem dX8_begin_2 : decode cX8_begin 2 = .ok (.iload_n 1, 1) := by decide +kernel
theorem dX8_begin_3 : decode cX8_begin 3 = .ok (.bipush 36, 2) := by decide +kernel
theorem dX8_begin_5 : decode cX8_begin 5 = .ok (.if_icmp .ge 35, 3) := by decide +kernel
theorem dX8_begin_8 : decode cX8_begin 8 = .ok (.aload_n 0, 1) := by decide +kernel
theorem dX8_begin_9 : decode cX8_begin 9 = .ok (.getfield 43, 3) := by decide +kernel
theorem dX8_begin_12 : decode cX8_begin 12 = .ok (.iload_n 1, 1) := by decide +kernel
theorem dX8_begin_13 : decode cX8_begin 13 = .ok (.aload_n 0, 1) := by decide +kernel
theorem dX8_begin_14 : decode cX8_begin 14 = .ok (.getfield 19, 3) := by decide +kernel
theorem dX8_begin_17 : decode cX8_begin 17 = .ok (.iload_n 1, 1) := by decide +kernel
theorem dX8_begin_18 : decode cX8_begin 18 = .ok (.iaload, 1) := by decide +kernel
theorem dX8_begin_19 : decode cX8_begin 19 = .ok (.iastore, 1) := by decide +kernel
theorem dX8_begin_20 : decode cX8_begin 20 = .ok (.aload_n 0, 1) := by decide +kernel
theorem dX8_begin_21 : decode cX8_begin 21 = .ok (.getfield 46, 3) := by decide +kernel
theorem dX8_begin_24 : decode cX8_begin 24 = .ok (.iload_n 1, 1) := by decide +kernel
theorem dX8_begin_25 : decode cX8_begin 25 = .ok (.iconst 0, 1) := by decide +kernel
theorem dX8_begin_26 : decode cX8_begin 26 = .ok (.iastore, 1) := by decide +kernel
theorem dX8_begin_27 : decode cX8_begin 27 = .ok (.aload_n 0, 1) := by decide +kernel
theorem dX8_begin_28 : decode cX8_begin 28 = .ok (.getfield 49, 3) := by decide +kernel
theorem dX8_begin_31 : decode cX8_begin 31 = .ok (.iload_n 1, 1) := by decide +kernel
theorem dX8_begin_32 : decode cX8_begin 32 = .ok (.iconst 0, 1) := by decide +kernel
theorem dX8_begin_33 : decode cX8_begin 33 = .ok (.iastore, 1) := by decide +kernel
theorem dX8_begin_34 : decode cX8_begin 34 = .ok (.iinc 1 1, 3) := by decide +kernel
theorem dX8_begin_37 : decode cX8_begin 37 = .ok (.goto (-35), 3) := by decide +kernel
theorem dX8_begin_40 : decode cX8_begin 40 = .ok (.iconst 0, 1) := by decide +kernel
theorem dX8_begin_41 : decode cX8_begin 41 = .ok (.istore_n 1, 1) := by decide +kernel
theorem dX8_begin_42 : decode cX8_begin 42 = .ok (.iload_n 1, 1) := by decide +kernel
theorem dX8_begin_43 : decode cX8_begin 43 = .ok (.aload_n 0, 1) := by decide +kernel
theorem dX8_begin_44 : decode cX8_begin 44 = .ok (.getfield 112, 3) := by decide +kernel
theorem dX8_begin_47 : decode cX8_begin 47 = .ok (.if_icmp .ge 21, 3) := by decide +kernel
theorem dX8_begin_50 : decode cX8_begin 50 = .ok (.aload_n 0, 1) := by decide +kernel
theorem dX8_begin_51 : decode cX8_begin 51 = .ok (.getfield 52, 3) := by decide +kernel
theorem dX8_begin_54 : decode cX8_begin 54 = .ok (.iload_n 1, 1) := by decide +kernel
theorem dX8_begin_55 : decode cX8_begin 55 = .ok (.aload_n 0, 1) := by decide +kernel
theorem dX8_begin_56 : decode cX8_begin 56 = .ok (.getfield 28, 3) := by decide +kernel
theorem dX8_begin_59 : decode cX8_begin 59 = .ok (.iload_n 1, 1) := by decide +kernel
theorem dX8_begin_60 : decode cX8_begin 60 = .ok (.iaload, 1) := by decide +kernel
theorem dX8_begin_61 : decode cX8_begin 61 = .ok (.iastore, 1) := by decide +kernel
theorem dX8_begin_62 : decode cX8_begin 62 = .ok (.iinc 1 1, 3) := by decide +kernel
theorem dX8_begin_65 : decode cX8_begin 65 = .ok (.goto (-23), 3) := by decide +kernel
theorem dX8_begin_68 : decode cX8_begin 68 = .ok (.iconst 0, 1) := by decide +kernel
theorem dX8_begin_69 : decode cX8_begin 69 = .ok (.istore_n 1, 1) := by decide +kernel
theorem dX8_begin_70 : decode cX8_begin 70 = .ok (.iload_n 1, 1) := by decide +kernel
theorem dX8_begin_71 : decode cX8_begin 71 = .ok (.iconst 4, 1) := by decide +kernel
theorem dX8_begin_72 : decode cX8_begin 72 = .ok (.if_icmp .ge 16, 3) := by decide +kernel
theorem dX8_begin_75 : decode cX8_begin 75 = .ok (.aload_n 0, 1) := by decide +kernel
theorem dX8_begin_76 : decode cX8_begin 76 = .ok (.getfield 55, 3) := by decide +kernel
theorem dX8_begin_79 : decode cX8_begin 79 = .ok (.iload_n 1, 1) := by decide +kernel
theorem dX8_begin_80 : decode cX8_begin 80 = .ok (.iconst 0, 1) := by decide +kernel
theorem dX8_begin_81 : decode cX8_begin 81 = .ok (.iastore, 1) := by decide +kernel
theorem dX8_begin_82 : decode cX8_begin 82 = .ok (.iinc 1 1, 3) := by decide +kernel
theorem dX8_begin_85 : decode cX8_begin 85 = .ok (.goto (-15), 3) := by decide +kernel
theorem dX8_begin_88 : decode cX8_begin 88 = .ok (.aload_n 0, 1) := by decide +kernel
theorem dX8_begin_89 : decode cX8_begin 89 = .ok (.iconst 0, 1) := by decide +kernel
theorem dX8_begin_90 : decode cX8_begin 90 = .ok (.putfield 269, 3) := by decide +kernel
theorem dX8_begin_93 : decode cX8_begin 93 = .ok (.aload_n 0, 1) := by decide +kernel
theorem dX8_begin_94 : decode cX8_begin 94 = .ok (.iconst 0, 1) := by decide +kernel
theorem dX8_begin_95 : decode cX8_begin 95 = .ok (.putfield 276, 3) := by decide +kernel
theorem dX8_begin_98 : decode cX8_begin 98 = .ok (.aload_n 0, 1) := by decide +kernel
theorem dX8_begin_99 : decode cX8_begin 99 = .ok (.iconst 0, 1) := by decide +kernel
theorem dX8_begin_100 : decode cX8_begin 100 = .ok (.putfield 285, 3) := by decide +kernel
theorem dX8_begin_103 : decode cX8_begin 103 = .ok (.aload_n 0, 1) := by decide +kernel
theorem dX8_begin_104 : decode cX8_begin 104 = .ok (.iconst 0, 1) := by decide +kernel
theorem dX8_begin_105 : decode cX8_begin 105 = .ok (.putfield 279, 3) := by decide +kernel
theorem dX8_begin_108 : decode cX8_begin 108 = .ok (.return_, 1) := by decide +kernel
set_option maxRecDepth 20000 in
theorem ggX8_go_X8_begin : GoodIn wsX8_go wsX8_begin := goodIn_r _ [5, 6, 7, 8, 9, 10, 11, 12, 13, 14, 15, 16, 17, 79, 80, 81, 82, 83, 84, 85, 86, 87, 88, 89, 90, 91, 92, 93, 94, 95, 96, 97, 98, 99, 100, 101, 102, 103, 104, 105, 106, 107, 108, 109, 110, 111, 112, 113, 114, 115, 116, 117, 118, 119, 120, 121, 122, 123, 124, 125] (by decide +kernel) (by decide +kernel)
set_option maxRecDepth 20000 in
theorem gX8_go_X8_begin : GoodIn wsX8_go (wsV RX8 288 RX8 yX8_begin wsX8_begin) := goodIn_app (goodIn_of _ (by decide +kernel)) ggX8_go_X8_begin
set_option maxRecDepth 20000 in
theorem ggX8_go_X8_day : GoodIn wsX8_go wsX8_day := goodIn_r _ [21, 22, 6, 8, 23, 10, 11, 24, 25, 26, 27, 28, 29, 14, 15, 30, 9, 31, 17, 32, 16, 33, 34, 35, 4, 36, 37, 38, 39, 40, 41, 42, 43, 44, 45, 46, 47, 48, 49, 13, 50, 51, 52, 53, 54, 55, 56, 57, 58, 59, 60, 61, 62, 63, 64, 65, 66, 67, 68, 69, 70, 71, 72, 73, 74, 75, 76, 77, 78, 79, 80, 81, 82, 83, 84, 85, 86, 87, 88, 89, 90, 91, 92, 93, 94, 95, 96, 97, 98, 99, 100, 101, 102, 103, 104, 105, 106, 107, 108, 109, 110, 111, 112, 113, 114, 115, 116, 117, 118, 119, 120, 121, 122, 123, 124, 125] (by decide +kernel) (by decide +kernel)
set_option maxRecDepth 20000 in
theorem gX8_go_X8_day : GoodIn wsX8_go (wsV RX8 291 RX8 yX8_day wsX8_day) := goodIn_app (goodIn_of _ (by decide +kernel)) ggX8_go_X8_day
theorem dX8_go_0 : decode cX8_go 0 = .ok (.aload_n 0, 1) := by decide +kernel
theorem dX8_go_1 : decode cX8_go 1 = .ok (.invokevirtual 288, 3) := by decide +kernel
theorem dX8_go_4 : decode cX8_go 4 = .ok (.iconst 0, 1) := by decide +kernel
theorem dX8_go_5 : decode cX8_go 5 = .ok (.istore_n 2, 1) := by decide +kernel
theorem dX8_go_6 : decode cX8_go 6 = .ok (.iload_n 2, 1) := by decide +kernel
theorem dX8_go_7 : decode cX8_go 7 = .ok (.iload_n 1, 1) := by decide +kernel
theorem dX8_go_8 : decode cX8_go 8 = .ok (.if_icmp .ge 14, 3) := by decide +kernel
theorem dX8_go_11 : decode cX8_go 11 = .ok (.aload_n 0, 1) := by decide +kernel
theorem dX8_go_12 : decode cX8_go 12 = .ok (.iload_n 2, 1) := by decide +kernel
theorem dX8_go_13 : decode cX8_go 13 = .ok (.invokevirtual 291, 3) := by decide +kernel
theorem dX8_go_16 : decode cX8_go 16 = .ok (.iinc 2 1, 3) := by decide +kernel
theorem dX8_go_19 : decode cX8_go 19 = .ok (.goto (-13), 3) := by decide +kernel
theorem dX8_go_22 : decode cX8_go 22 = .ok (.return_, 1) := by decide +kernel
set_option maxRecDepth 20000 in
theorem ggX8_isDays_X8_within : GoodIn wsX8_isDays wsX8_within := goodIn_r _ [4] (by decide +kernel) (by decide +kernel)
set_option maxRecDepth 20000 in
theorem gX8_isDays_X8_within : GoodIn wsX8_isDays (va_wsS RX8 108 yX8_within wsX8_within) := goodIn_app (goodIn_of _ (by decide +kernel)) ggX8_isDays_X8_within
theorem dX8_isDays_0 : decode cX8_isDays 0 = .ok (.iload_n 0, 1) := by decide +kernel
theorem dX8_isDays_1 : decode cX8_isDays 1 = .ok (.iconst 0, 1) := by decide +kernel
theorem dX8_isDays_2 : decode cX8_isDays 2 = .ok (.bipush 14, 2) := by decide +kernel
theorem dX8_isDays_4 : decode cX8_isDays 4 = .ok (.invokestatic 108, 3) := by decide +kernel
theorem dX8_isDays_7 : decode cX8_isDays 7 = .ok (.ireturn, 1) := by decide +kernel
set_option maxRecDepth 20000 in
theorem ggX8_lie_X8_isDays : GoodIn wsX8_lie wsX8_isDays := goodIn_r _ [7, 8, 9, 6, 10] (by decide +kernel) (by decide +kernel)
set_option maxRecDepth 20000 in
theorem gX8_lie_X8_isDays : GoodIn wsX8_lie (va_wsS RX8 294 yX8_isDays wsX8_isDays) := goodIn_app (goodIn_of _ (by decide +kernel)) ggX8_lie_X8_isDays
set_option maxRecDepth 20000 in
theorem ggX8_lie_X8_isCell : GoodIn wsX8_lie wsX8_isCell := goodIn_r _ [13, 8, 9, 6, 10] (by decide +kernel) (by decide +kernel)
set_option maxRecDepth 20000 in
theorem gX8_lie_X8_isCell : GoodIn wsX8_lie (va_wsS RX8 223 yX8_isCell wsX8_isCell) := goodIn_app (goodIn_of _ (by decide +kernel)) ggX8_lie_X8_isCell
set_option maxRecDepth 20000 in
theorem ggX8_lie_X8_within : GoodIn wsX8_lie wsX8_within := goodIn_r _ [10] (by decide +kernel) (by decide +kernel)
set_option maxRecDepth 20000 in
theorem gX8_lie_X8_within : GoodIn wsX8_lie (va_wsS RX8 108 yX8_within wsX8_within) := goodIn_app (goodIn_of _ (by decide +kernel)) ggX8_lie_X8_within
set_option maxRecDepth 20000 in
theorem ggX8_lie_X8_go : GoodIn wsX8_lie wsX8_go := goodIn_r _ [17, 18, 19, 20, 6, 21, 1, 22, 2, 3, 23, 24, 25, 26, 27, 28, 29, 30, 31, 32, 33, 34, 35, 36, 37, 38, 39, 40, 41, 42, 43, 44, 45, 46, 47, 48, 49, 50, 51, 52, 53, 54, 55, 56, 57, 58, 59, 60, 61, 62, 63, 64, 65, 66, 67, 68, 69, 70, 71, 72, 73, 74, 75, 76, 77, 78, 79, 80, 81, 82, 83, 84, 85, 86, 87, 88, 89, 90, 91, 92, 93, 94, 95, 96, 97, 98, 99, 100, 101, 102, 103, 104, 105, 106, 107, 108, 109, 110, 111, 112, 113, 114, 115, 116, 117, 118, 119, 120, 121, 122, 123, 124, 125, 126, 127, 128, 129, 130, 131, 132, 133, 134, 135, 136, 137, 138] (by decide +kernel) (by decide +kernel)
set_option maxRecDepth 20000 in
theorem gX8_lie_X8_go : GoodIn wsX8_lie (wsV RX8 297 RX8 yX8_go wsX8_go) := goodIn_app (goodIn_of _ (by decide +kernel)) ggX8_lie_X8_go
theorem dX8_lie_0 : decode cX8_lie 0 = .ok (.iload_n 1, 1) := by decide +kernel
theorem dX8_lie_1 : decode cX8_lie 1 = .ok (.invokestatic 294, 3) := by decide +kernel
theorem dX8_lie_4 : decode cX8_lie 4 = .ok (.ifCond .eq 10, 3) := by decide +kernel
theorem dX8_lie_7 : decode cX8_lie 7 = .ok (.iload_n 2, 1) := by decide +kernel
theorem dX8_lie_8 : decode cX8_lie 8 = .ok (.invokestatic 223, 3) := by decide +kernel
theorem dX8_lie_11 : decode cX8_lie 11 = .ok (.ifCond .ne 6, 3) := by decide +kernel
theorem dX8_lie_14 : decode cX8_lie 14 = .ok (.bipush (-5), 2) := by decide +kernel
theorem dX8_lie_16 : decode cX8_lie 16 = .ok (.ireturn, 1) := by decide +kernel
theorem dX8_lie_17 : decode cX8_lie 17 = .ok (.iload_n 3, 1) := by decide +kernel
theorem dX8_lie_18 : decode cX8_lie 18 = .ok (.iconst 0, 1) := by decide +kernel
theorem dX8_lie_19 : decode cX8_lie 19 = .ok (.iconst 2, 1) := by decide +kernel
theorem dX8_lie_20 : decode cX8_lie 20 = .ok (.invokestatic 108, 3) := by decide +kernel
theorem dX8_lie_23 : decode cX8_lie 23 = .ok (.ifCond .ne 6, 3) := by decide +kernel
theorem dX8_lie_26 : decode cX8_lie 26 = .ok (.bipush (-7), 2) := by decide +kernel
theorem dX8_lie_28 : decode cX8_lie 28 = .ok (.ireturn, 1) := by decide +kernel
theorem dX8_lie_29 : decode cX8_lie 29 = .ok (.aload_n 0, 1) := by decide +kernel
theorem dX8_lie_30 : decode cX8_lie 30 = .ok (.iload_n 1, 1) := by decide +kernel
theorem dX8_lie_31 : decode cX8_lie 31 = .ok (.invokevirtual 297, 3) := by decide +kernel
theorem dX8_lie_34 : decode cX8_lie 34 = .ok (.iload_n 3, 1) := by decide +kernel
theorem dX8_lie_35 : decode cX8_lie 35 = .ok (.ifCond .ne 12, 3) := by decide +kernel
theorem dX8_lie_38 : decode cX8_lie 38 = .ok (.aload_n 0, 1) := by decide +kernel
theorem dX8_lie_39 : decode cX8_lie 39 = .ok (.getfield 43, 3) := by decide +kernel
theorem dX8_lie_42 : decode cX8_lie 42 = .ok (.iload_n 2, 1) := by decide +kernel
theorem dX8_lie_43 : decode cX8_lie 43 = .ok (.iaload, 1) := by decide +kernel
theorem dX8_lie_44 : decode cX8_lie 44 = .ok (.goto 23, 3) := by decide +kernel
theorem dX8_lie_47 : decode cX8_lie 47 = .ok (.iload_n 3, 1) := by decide +kernel
theorem dX8_lie_48 : decode cX8_lie 48 = .ok (.iconst 1, 1) := by decide +kernel
theorem dX8_lie_49 : decode cX8_lie 49 = .ok (.if_icmp .ne 12, 3) := by decide +kernel
theorem dX8_lie_52 : decode cX8_lie 52 = .ok (.aload_n 0, 1) := by decide +kernel
theorem dX8_lie_53 : decode cX8_lie 53 = .ok (.getfield 46, 3) := by decide +kernel
theorem dX8_lie_56 : decode cX8_lie 56 = .ok (.iload_n 2, 1) := by decide +kernel
theorem dX8_lie_57 : decode cX8_lie 57 = .ok (.iaload, 1) := by decide +kernel
theorem dX8_lie_58 : decode cX8_lie 58 = .ok (.goto 9, 3) := by decide +kernel
theorem dX8_lie_61 : decode cX8_lie 61 = .ok (.aload_n 0, 1) := by decide +kernel
theorem dX8_lie_62 : decode cX8_lie 62 = .ok (.getfield 49, 3) := by decide +kernel
theorem dX8_lie_65 : decode cX8_lie 65 = .ok (.iload_n 2, 1) := by decide +kernel
theorem dX8_lie_66 : decode cX8_lie 66 = .ok (.iaload, 1) := by decide +kernel
theorem dX8_lie_67 : decode cX8_lie 67 = .ok (.ireturn, 1) := by decide +kernel
theorem dX8_lying_0 : decode cX8_lying 0 = .ok (.iconst 0, 1) := by decide +kernel
theorem dX8_lying_1 : decode cX8_lying 1 = .ok (.istore_n 1, 1) := by decide +kernel
theorem dX8_lying_2 : decode cX8_lying 2 = .ok (.iconst 0, 1) := by decide +kernel
theorem dX8_lying_3 : decode cX8_lying 3 = .ok (.istore_n 2, 1) := by decide +kernel
theorem dX8_lying_4 : decode cX8_lying 4 = .ok (.iload_n 2, 1) := by decide +kernel
theorem dX8_lying_5 : decode cX8_lying 5 = .ok (.bipush 36, 2) := by decide +kernel
theorem dX8_lying_7 : decode cX8_lying 7 = .ok (.if_icmp .ge 25, 3) := by decide +kernel
theorem dX8_lying_10 : decode cX8_lying 10 = .ok (.iload_n 1, 1) := by decide +kernel
theorem dX8_lying_11 : decode cX8_lying 11 = .ok (.aload_n 0, 1) := by decide +kernel
theorem dX8_lying_12 : decode cX8_lying 12 = .ok (.getfield 43, 3) := by decide +kernel
theorem dX8_lying_15 : decode cX8_lying 15 = .ok (.iload_n 2, 1) := by decide +kernel
theorem dX8_lying_16 : decode cX8_lying 16 = .ok (.iaload, 1) := by decide +kernel
theorem dX8_lying_17 : decode cX8_lying 17 = .ok (.aload_n 0, 1) := by decide +kernel
theorem dX8_lying_18 : decode cX8_lying 18 = .ok (.getfield 46, 3) := by decide +kernel
theorem dX8_lying_21 : decode cX8_lying 21 = .ok (.iload_n 2, 1) := by decide +kernel
theorem dX8_lying_22 : decode cX8_lying 22 = .ok (.iaload, 1) := by decide +kernel
theorem dX8_lying_23 : decode cX8_lying 23 = .ok (.iadd, 1) := by decide +kernel
theorem dX8_lying_24 : decode cX8_lying 24 = .ok (.iadd, 1) := by decide +kernel
theorem dX8_lying_25 : decode cX8_lying 25 = .ok (.istore_n 1, 1) := by decide +kernel
theorem dX8_lying_26 : decode cX8_lying 26 = .ok (.iinc 2 1, 3) := by decide +kernel
theorem dX8_lying_29 : decode cX8_lying 29 = .ok (.goto (-25), 3) := by decide +kernel
theorem dX8_lying_32 : decode cX8_lying 32 = .ok (.iload_n 1, 1) := by decide +kernel
theorem dX8_lying_33 : decode cX8_lying 33 = .ok (.ireturn, 1) := by decide +kernel
set_option maxRecDepth 20000 in
theorem ggX8_summed_X8_lying : GoodIn wsX8_summed wsX8_lying := goodIn_r _ [11, 12, 13, 14, 15, 16, 17, 18, 19, 20, 21, 22, 23, 24, 25, 26, 27, 28, 29, 30, 31, 32, 33, 34, 35, 36, 37, 38, 39, 40, 41, 42, 43, 44, 45, 46, 47, 48, 49, 50, 51, 52, 53, 54, 55, 56, 57, 58, 59, 60] (by decide +kernel) (by decide +kernel)
set_option maxRecDepth 20000 in
theorem gX8_summed_X8_lying : GoodIn wsX8_summed (wsV RX8 300 RX8 yX8_lying wsX8_lying) := goodIn_app (goodIn_of _ (by decide +kernel)) ggX8_summed_X8_lying
theorem dX8_summed_0 : decode cX8_summed 0 = .ok (.iconst 0, 1) := by decide +kernel
theorem dX8_summed_1 : decode cX8_summed 1 = .ok (.istore_n 2, 1) := by decide +kernel
theorem dX8_summed_2 : decode cX8_summed 2 = .ok (.iload_n 1, 1) := by decide +kernel
theorem dX8_summed_3 : decode cX8_summed 3 = .ok (.tableswitch 80 0 4 #[33, 38, 65, 70, 75], 33) := by decide +kernel
theorem dX8_summed_36 : decode cX8_summed 36 = .ok (.aload_n 0, 1) := by decide +kernel
theorem dX8_summed_37 : decode cX8_summed 37 = .ok (.invokevirtual 300, 3) := by decide +kernel
theorem dX8_summed_40 : decode cX8_summed 40 = .ok (.ireturn, 1) := by decide +kernel
theorem dX8_summed_41 : decode cX8_summed 41 = .ok (.iconst 0, 1) := by decide +kernel
theorem dX8_summed_42 : decode cX8_summed 42 = .ok (.istore_n 3, 1) := by decide +kernel
theorem dX8_summed_43 : decode cX8_summed 43 = .ok (.iload_n 3, 1) := by decide +kernel
theorem dX8_summed_44 : decode cX8_summed 44 = .ok (.aload_n 0, 1) := by decide +kernel
theorem dX8_summed_45 : decode cX8_summed 45 = .ok (.getfield 112, 3) := by decide +kernel
theorem dX8_summed_48 : decode cX8_summed 48 = .ok (.if_icmp .ge 18, 3) := by decide +kernel
theorem dX8_summed_51 : decode cX8_summed 51 = .ok (.iload_n 2, 1) := by decide +kernel
theorem dX8_summed_52 : decode cX8_summed 52 = .ok (.aload_n 0, 1) := by decide +kernel
theorem dX8_summed_53 : decode cX8_summed 53 = .ok (.getfield 52, 3) := by decide +kernel
theorem dX8_summed_56 : decode cX8_summed 56 = .ok (.iload_n 3, 1) := by decide +kernel
theorem dX8_summed_57 : decode cX8_summed 57 = .ok (.iaload, 1) := by decide +kernel
theorem dX8_summed_58 : decode cX8_summed 58 = .ok (.iadd, 1) := by decide +kernel
theorem dX8_summed_59 : decode cX8_summed 59 = .ok (.istore_n 2, 1) := by decide +kernel
theorem dX8_summed_60 : decode cX8_summed 60 = .ok (.iinc 3 1, 3) := by decide +kernel
theorem dX8_summed_63 : decode cX8_summed 63 = .ok (.goto (-20), 3) := by decide +kernel
theorem dX8_summed_66 : decode cX8_summed 66 = .ok (.iload_n 2, 1) := by decide +kernel
theorem dX8_summed_67 : decode cX8_summed 67 = .ok (.ireturn, 1) := by decide +kernel
theorem dX8_summed_68 : decode cX8_summed 68 = .ok (.aload_n 0, 1) := by decide +kernel
theorem dX8_summed_69 : decode cX8_summed 69 = .ok (.getfield 276, 3) := by decide +kernel
theorem dX8_summed_72 : decode cX8_summed 72 = .ok (.ireturn, 1) := by decide +kernel
theorem dX8_summed_73 : decode cX8_summed 73 = .ok (.aload_n 0, 1) := by decide +kernel
theorem dX8_summed_74 : decode cX8_summed 74 = .ok (.getfield 285, 3) := by decide +kernel
theorem dX8_summed_77 : decode cX8_summed 77 = .ok (.ireturn, 1) := by decide +kernel
theorem dX8_summed_78 : decode cX8_summed 78 = .ok (.aload_n 0, 1) := by decide +kernel
theorem dX8_summed_79 : decode cX8_summed 79 = .ok (.getfield 279, 3) := by decide +kernel
theorem dX8_summed_82 : decode cX8_summed 82 = .ok (.ireturn, 1) := by decide +kernel
theorem dX8_summed_83 : decode cX8_summed 83 = .ok (.aload_n 0, 1) := by decide +kernel
theorem dX8_summed_84 : decode cX8_summed 84 = .ok (.getfield 55, 3) := by decide +kernel
theorem dX8_summed_87 : decode cX8_summed 87 = .ok (.iload_n 1, 1) := by decide +kernel
theorem dX8_summed_88 : decode cX8_summed 88 = .ok (.iconst 5, 1) := by decide +kernel
theorem dX8_summed_89 : decode cX8_summed 89 = .ok (.isub, 1) := by decide +kernel
theorem dX8_summed_90 : decode cX8_summed 90 = .ok (.iaload, 1) := by decide +kernel
theorem dX8_summed_91 : decode cX8_summed 91 = .ok (.ireturn, 1) := by decide +kernel
set_option maxRecDepth 20000 in
theorem ggX8_sum__X8_isDays : GoodIn wsX8_sum_ wsX8_isDays := goodIn_r _ [4, 5, 6, 3, 7] (by decide +kernel) (by decide +kernel)
set_option maxRecDepth 20000 in
theorem gX8_sum__X8_isDays : GoodIn wsX8_sum_ (va_wsS RX8 294 yX8_isDays wsX8_isDays) := goodIn_app (goodIn_of _ (by decide +kernel)) ggX8_sum__X8_isDays
set_option maxRecDepth 20000 in
theorem ggX8_sum__X8_within : GoodIn wsX8_sum_ wsX8_within := goodIn_r _ [7] (by decide +kernel) (by decide +kernel)
set_option maxRecDepth 20000 in
theorem gX8_sum__X8_within : GoodIn wsX8_sum_ (va_wsS RX8 108 yX8_within wsX8_within) := goodIn_app (goodIn_of _ (by decide +kernel)) ggX8_sum__X8_within
set_option maxRecDepth 20000 in
theorem ggX8_sum__X8_go : GoodIn wsX8_sum_ wsX8_go := goodIn_r _ [11, 12, 13, 14, 3, 15, 16, 17, 18, 19, 20, 21, 22, 23, 24, 25, 26, 27, 28, 29, 30, 31, 32, 33, 34, 35, 36, 37, 38, 39, 40, 41, 42, 43, 44, 45, 46, 47, 48, 49, 50, 51, 52, 53, 54, 55, 56, 57, 58, 59, 60, 61, 62, 63, 64, 65, 66, 67, 68, 69, 70, 71, 72, 73, 74, 75, 76, 77, 78, 79, 80, 81, 82, 83, 84, 85, 86, 87, 88, 97, 98, 99, 100, 101, 102, 103, 104, 105, 106, 107, 108, 109, 110, 111, 112, 113, 114, 115, 116, 117, 118, 119, 120, 121, 122, 123, 124, 125, 126, 127, 128, 129, 130, 131, 132, 133, 134, 135, 136, 137, 138, 139, 140, 141, 142, 143] (by decide +kernel) (by decide +kernel)
set_option maxRecDepth 20000 in
theorem gX8_sum__X8_go : GoodIn wsX8_sum_ (wsV RX8 297 RX8 yX8_go wsX8_go) := goodIn_app (goodIn_of _ (by decide +kernel)) ggX8_sum__X8_go
set_option maxRecDepth 20000 in
theorem ggX8_sum__X8_summed : GoodIn wsX8_sum_ wsX8_summed := goodIn_r _ [92, 20, 21, 25, 26, 27, 23, 93, 94, 95, 3, 96, 16, 18, 97, 98, 99, 100, 101, 102, 103, 104, 105, 106, 107, 108, 109, 110, 111, 112, 113, 114, 115, 116, 117, 118, 119, 120, 121, 122, 123, 124, 125, 126, 127, 128, 129, 130, 131, 132, 133, 134, 135, 136, 137, 138, 139, 140, 141, 142, 143] (by decide +kernel) (by decide +kernel)
set_option maxRecDepth 20000 in
theorem gX8_sum__X8_summed : GoodIn wsX8_sum_ (wsV RX8 303 RX8 yX8_summed wsX8_summed) := goodIn_app (goodIn_of _ (by decide +kernel)) ggX8_sum__X8_summed
theorem dX8_sum__0 : decode cX8_sum_ 0 = .ok (.iload_n 1, 1) := by decide +kernel
theorem dX8_sum__1 : decode cX8_sum_ 1 = .ok (.invokestatic 294, 3) := by decide +kernel
theorem dX8_sum__4 : decode cX8_sum_ 4 = .ok (.ifCond .ne 6, 3) := by decide +kernel
theorem dX8_sum__7 : decode cX8_sum_ 7 = .ok (.bipush (-5), 2) := by decide +kernel
theorem dX8_sum__9 : decode cX8_sum_ 9 = .ok (.ireturn, 1) := by decide +kernel
theorem dX8_sum__10 : decode cX8_sum_ 10 = .ok (.iload_n 2, 1) := by decide +kernel
theorem dX8_sum__11 : decode cX8_sum_ 11 = .ok (.iconst 0, 1) := by decide +kernel
theorem dX8_sum__12 : decode cX8_sum_ 12 = .ok (.bipush 8, 2) := by decide +kernel
theorem dX8_sum__14 : decode cX8_sum_ 14 = .ok (.invokestatic 108, 3) := by decide +kernel
theorem dX8_sum__17 : decode cX8_sum_ 17 = .ok (.ifCond .ne 6, 3) := by decide +kernel
theorem dX8_sum__20 : decode cX8_sum_ 20 = .ok (.bipush (-7), 2) := by decide +kernel
theorem dX8_sum__22 : decode cX8_sum_ 22 = .ok (.ireturn, 1) := by decide +kernel
theorem dX8_sum__23 : decode cX8_sum_ 23 = .ok (.aload_n 0, 1) := by decide +kernel
theorem dX8_sum__24 : decode cX8_sum_ 24 = .ok (.iload_n 1, 1) := by decide +kernel
theorem dX8_sum__25 : decode cX8_sum_ 25 = .ok (.invokevirtual 297, 3) := by decide +kernel
theorem dX8_sum__28 : decode cX8_sum_ 28 = .ok (.aload_n 0, 1) := by decide +kernel
theorem dX8_sum__29 : decode cX8_sum_ 29 = .ok (.iload_n 2, 1) := by decide +kernel
theorem dX8_sum__30 : decode cX8_sum_ 30 = .ok (.invokevirtual 303, 3) := by decide +kernel
theorem dX8_sum__33 : decode cX8_sum_ 33 = .ok (.ireturn, 1) := by decide +kernel
set_option maxRecDepth 20000 in
theorem ggX8_hang_X8_isDays : GoodIn wsX8_hang wsX8_isDays := goodIn_r _ [5, 6, 7, 4, 8] (by decide +kernel) (by decide +kernel)
set_option maxRecDepth 20000 in
theorem gX8_hang_X8_isDays : GoodIn wsX8_hang (va_wsS RX8 294 yX8_isDays wsX8_isDays) := goodIn_app (goodIn_of _ (by decide +kernel)) ggX8_hang_X8_isDays
set_option maxRecDepth 20000 in
theorem ggX8_hang_X8_isTree : GoodIn wsX8_hang wsX8_isTree := goodIn_r _ [12, 13, 6, 7, 4, 8, 93, 94, 95, 96, 97, 98, 99, 100, 101, 102, 103, 104, 105, 106, 107, 108, 109, 110, 111, 112, 113, 114, 115, 116, 117, 118, 119, 120, 121, 122, 123, 124, 125, 126, 127, 128, 129, 130, 131, 132, 133, 134, 135, 136, 137, 138, 139] (by decide +kernel) (by decide +kernel)
set_option maxRecDepth 20000 in
theorem gX8_hang_X8_isTree : GoodIn wsX8_hang (wsV RX8 230 RX8 yX8_isTree wsX8_isTree) := goodIn_app (goodIn_of _ (by decide +kernel)) ggX8_hang_X8_isTree
set_option maxRecDepth 20000 in
theorem ggX8_hang_X8_go : GoodIn wsX8_hang wsX8_go := goodIn_r _ [17, 18, 19, 20, 4, 21, 22, 23, 24, 25, 13, 1, 26, 27, 28, 29, 30, 31, 32, 33, 34, 35, 36, 37, 38, 39, 40, 41, 42, 43, 44, 45, 46, 47, 48, 49, 50, 51, 52, 53, 54, 55, 56, 57, 58, 59, 60, 61, 62, 63, 64, 65, 66, 67, 68, 69, 70, 71, 72, 73, 74, 75, 76, 77, 78, 79, 80, 81, 82, 83, 84, 85, 86, 87, 88, 89, 90, 91, 92, 93, 94, 95, 96, 97, 98, 99, 100, 101, 102, 103, 104, 105, 106, 107, 108, 109, 110, 111, 112, 113, 114, 115, 116, 117, 118, 119, 120, 121, 122, 123, 124, 125, 126, 127, 128, 129, 130, 131, 132, 133, 134, 135, 136, 137, 138, 139] (by decide +kernel) (by decide +kernel)
set_option maxRecDepth 20000 in
theorem gX8_hang_X8_go : GoodIn wsX8_hang (wsV RX8 297 RX8 yX8_go wsX8_go) := goodIn_app (goodIn_of _ (by decide +kernel)) ggX8_hang_X8_go
theorem dX8_hang_0 : decode cX8_hang 0 = .ok (.iload_n 1, 1) := by decide +kernel
theorem dX8_hang_1 : decode cX8_hang 1 = .ok (.invokestatic 294, 3) := by decide +kernel
theorem dX8_hang_4 : decode cX8_hang 4 = .ok (.ifCond .eq 11, 3) := by decide +kernel
theorem dX8_hang_7 : decode cX8_hang 7 = .ok (.aload_n 0, 1) := by decide +kernel
theorem dX8_hang_8 : decode cX8_hang 8 = .ok (.iload_n 2, 1) := by decide +kernel
theorem dX8_hang_9 : decode cX8_hang 9 = .ok (.invokevirtual 230, 3) := by decide +kernel
theorem dX8_hang_12 : decode cX8_hang 12 = .ok (.ifCond .ne 6, 3) := by decide +kernel
theorem dX8_hang_15 : decode cX8_hang 15 = .ok (.bipush (-5), 2) := by decide +kernel
theorem dX8_hang_17 : decode cX8_hang 17 = .ok (.ireturn, 1) := by decide +kernel
theorem dX8_hang_18 : decode cX8_hang 18 = .ok (.aload_n 0, 1) := by decide +kernel
theorem dX8_hang_19 : decode cX8_hang 19 = .ok (.iload_n 1, 1) := by decide +kernel
theorem dX8_hang_20 : decode cX8_hang 20 = .ok (.invokevirtual 297, 3) := by decide +kernel
theorem dX8_hang_23 : decode cX8_hang 23 = .ok (.aload_n 0, 1) := by decide +kernel
theorem dX8_hang_24 : decode cX8_hang 24 = .ok (.getfield 52, 3) := by decide +kernel
theorem dX8_hang_27 : decode cX8_hang 27 = .ok (.iload_n 2, 1) := by decide +kernel
theorem dX8_hang_28 : decode cX8_hang 28 = .ok (.iaload, 1) := by decide +kernel
theorem dX8_hang_29 : decode cX8_hang 29 = .ok (.ireturn, 1) := by decide +kernel
set_option maxRecDepth 20000 in
theorem ggX8_great_X8_within : GoodIn wsX8_great wsX8_within := goodIn_r _ [5] (by decide +kernel) (by decide +kernel)
set_option maxRecDepth 20000 in
theorem gX8_great_X8_within : GoodIn wsX8_great (va_wsS RX8 108 yX8_within wsX8_within) := goodIn_app (goodIn_of _ (by decide +kernel)) ggX8_great_X8_within
set_option maxRecDepth 20000 in
theorem ggX8_great_X8_begin : GoodIn wsX8_great wsX8_begin := goodIn_r _ [9, 10, 11, 12, 13, 14, 15, 16, 17, 18, 19, 20, 21, 82, 83, 84, 85, 86, 87, 88, 89, 90, 91, 92, 93, 94, 95, 96, 97, 98, 99, 100, 101, 102, 103, 104, 105, 106, 107, 108, 109, 110, 111, 112, 113, 114, 115, 116, 117, 118, 119, 120, 121, 122, 123, 124, 125, 126, 127, 128] (by decide +kernel) (by decide +kernel)
set_option maxRecDepth 20000 in
theorem gX8_great_X8_begin : GoodIn wsX8_great (wsV RX8 288 RX8 yX8_begin wsX8_begin) := goodIn_app (goodIn_of _ (by decide +kernel)) ggX8_great_X8_begin
set_option maxRecDepth 20000 in
theorem ggX8_great_X8_day : GoodIn wsX8_great wsX8_day := goodIn_r _ [25, 26, 10, 12, 1, 14, 15, 27, 28, 29, 30, 31, 32, 18, 19, 33, 13, 34, 21, 35, 20, 36, 37, 38, 4, 39, 40, 41, 42, 43, 44, 45, 46, 47, 48, 49, 50, 51, 52, 17, 53, 54, 55, 56, 57, 58, 59, 60, 61, 62, 63, 64, 65, 66, 67, 68, 69, 70, 71, 72, 73, 74, 75, 76, 77, 78, 79, 80, 81, 82, 83, 84, 85, 86, 87, 88, 89, 90, 91, 92, 93, 94, 95, 96, 97, 98, 99, 100, 101, 102, 103, 104, 105, 106, 107, 108, 109, 110, 111, 112, 113, 114, 115, 116, 117, 118, 119, 120, 121, 122, 123, 124, 125, 126, 127, 128] (by decide +kernel) (by decide +kernel)
set_option maxRecDepth 20000 in
theorem gX8_great_X8_day : GoodIn wsX8_great (wsV RX8 291 RX8 yX8_day wsX8_day) := goodIn_app (goodIn_of _ (by decide +kernel)) ggX8_great_X8_day
theorem dX8_great_0 : decode cX8_great 0 = .ok (.iload_n 1, 1) := by decide +kernel
theorem dX8_great_1 : decode cX8_great 1 = .ok (.iconst 0, 1) := by decide +kernel
theorem dX8_great_2 : decode cX8_great 2 = .ok (.iconst 1, 1) := by decide +kernel
theorem dX8_great_3 : decode cX8_great 3 = .ok (.invokestatic 108, 3) := by decide +kernel
theorem dX8_great_6 : decode cX8_great 6 = .ok (.ifCond .ne 6, 3) := by decide +kernel
theorem dX8_great_9 : decode cX8_great 9 = .ok (.bipush (-2), 2) := by decide +kernel
theorem dX8_great_11 : decode cX8_great 11 = .ok (.ireturn, 1) := by decide +kernel
theorem dX8_great_12 : decode cX8_great 12 = .ok (.aload_n 0, 1) := by decide +kernel
theorem dX8_great_13 : decode cX8_great 13 = .ok (.invokevirtual 288, 3) := by decide +kernel
theorem dX8_great_16 : decode cX8_great 16 = .ok (.iconst (-1), 1) := by decide +kernel
theorem dX8_great_17 : decode cX8_great 17 = .ok (.istore_n 2, 1) := by decide +kernel
theorem dX8_great_18 : decode cX8_great 18 = .ok (.iconst 0, 1) := by decide +kernel
theorem dX8_great_19 : decode cX8_great 19 = .ok (.istore_n 3, 1) := by decide +kernel
theorem dX8_great_20 : decode cX8_great 20 = .ok (.iconst 0, 1) := by decide +kernel
theorem dX8_great_21 : decode cX8_great 21 = .ok (.istore 4, 2) := by decide +kernel
theorem dX8_great_23 : decode cX8_great 23 = .ok (.iload 4, 2) := by decide +kernel
theorem dX8_great_25 : decode cX8_great 25 = .ok (.bipush 14, 2) := by decide +kernel
theorem dX8_great_27 : decode cX8_great 27 = .ok (.if_icmp .ge 34, 3) := by decide +kernel
theorem dX8_great_30 : decode cX8_great 30 = .ok (.aload_n 0, 1) := by decide +kernel
theorem dX8_great_31 : decode cX8_great 31 = .ok (.iload 4, 2) := by decide +kernel
theorem dX8_great_33 : decode cX8_great 33 = .ok (.invokevirtual 291, 3) := by decide +kernel
theorem dX8_great_36 : decode cX8_great 36 = .ok (.aload_n 0, 1) := by decide +kernel
theorem dX8_great_37 : decode cX8_great 37 = .ok (.getfield 266, 3) := by decide +kernel
theorem dX8_great_40 : decode cX8_great 40 = .ok (.iload_n 3, 1) := by decide +kernel
theorem dX8_great_41 : decode cX8_great 41 = .ok (.if_icmp .gt 6, 3) := by decide +kernel
theorem dX8_great_44 : decode cX8_great 44 = .ok (.goto 11, 3) := by decide +kernel
theorem dX8_great_47 : decode cX8_great 47 = .ok (.aload_n 0, 1) := by decide +kernel
theorem dX8_great_48 : decode cX8_great 48 = .ok (.getfield 266, 3) := by decide +kernel
theorem dX8_great_51 : decode cX8_great 51 = .ok (.istore_n 3, 1) := by decide +kernel
theorem dX8_great_52 : decode cX8_great 52 = .ok (.iload 4, 2) := by decide +kernel
theorem dX8_great_54 : decode cX8_great 54 = .ok (.istore_n 2, 1) := by decide +kernel
theorem dX8_great_55 : decode cX8_great 55 = .ok (.iinc 4 1, 3) := by decide +kernel
theorem dX8_great_58 : decode cX8_great 58 = .ok (.goto (-35), 3) := by decide +kernel
theorem dX8_great_61 : decode cX8_great 61 = .ok (.iload_n 1, 1) := by decide +kernel
theorem dX8_great_62 : decode cX8_great 62 = .ok (.ifCond .ne 7, 3) := by decide +kernel
theorem dX8_great_65 : decode cX8_great 65 = .ok (.iload_n 2, 1) := by decide +kernel
theorem dX8_great_66 : decode cX8_great 66 = .ok (.goto 4, 3) := by decide +kernel
theorem dX8_great_69 : decode cX8_great 69 = .ok (.iload_n 3, 1) := by decide +kernel
theorem dX8_great_70 : decode cX8_great 70 = .ok (.ireturn, 1) := by decide +kernel
set_option maxRecDepth 20000 in
theorem ggX8_worst_X8_isDays : GoodIn wsX8_worst wsX8_isDays := goodIn_r _ [5, 6, 7, 4, 8] (by decide +kernel) (by decide +kernel)
set_option maxRecDepth 20000 in
theorem gX8_worst_X8_isDays : GoodIn wsX8_worst (va_wsS RX8 294 yX8_isDays wsX8_isDays) := goodIn_app (goodIn_of _ (by decide +kernel)) ggX8_worst_X8_isDays
set_option maxRecDepth 20000 in
theorem ggX8_worst_X8_within : GoodIn wsX8_worst wsX8_within := goodIn_r _ [8] (by decide +kernel) (by decide +kernel)
set_option maxRecDepth 20000 in
theorem gX8_worst_X8_within : GoodIn wsX8_worst (va_wsS RX8 108 yX8_within wsX8_within) := goodIn_app (goodIn_of _ (by decide +kernel)) ggX8_worst_X8_within
set_option maxRecDepth 20000 in
theorem ggX8_worst_X8_go : GoodIn wsX8_worst wsX8_go := goodIn_r _ [12, 13, 14, 15, 4, 16, 17, 18, 19, 1, 20, 21, 22, 23, 24, 25, 26, 27, 28, 29, 30, 31, 32, 33, 34, 35, 36, 37, 38, 39, 40, 41, 42, 43, 44, 45, 46, 47, 48, 49, 50, 51, 52, 53, 54, 55, 56, 57, 58, 59, 60, 61, 62, 63, 64, 65, 66, 67, 68, 69, 70, 71, 72, 73, 74, 75, 76, 77, 78, 79, 80, 81, 82, 83, 84, 85, 86, 87, 88, 89, 90, 91, 92, 93, 94, 95, 96, 97, 98, 99, 100, 101, 102, 103, 104, 105, 106, 107, 108, 109, 110, 111, 112, 113, 114, 115, 116, 117, 118, 119, 120, 121, 122, 123, 124, 125, 126, 127, 128, 129, 130, 131, 132, 133, 134, 135] (by decide +kernel) (by decide +kernel)
set_option maxRecDepth 20000 in
theorem gX8_worst_X8_go : GoodIn wsX8_worst (wsV RX8 297 RX8 yX8_go wsX8_go) := goodIn_app (goodIn_of _ (by decide +kernel)) ggX8_worst_X8_go
theorem dX8_worst_0 : decode cX8_worst 0 = .ok (.iload_n 1, 1) := by decide +kernel
theorem dX8_worst_1 : decode cX8_worst 1 = .ok (.invokestatic 294, 3) := by decide +kernel
theorem dX8_worst_4 : decode cX8_worst 4 = .ok (.ifCond .ne 6, 3) := by decide +kernel
theorem dX8_worst_7 : decode cX8_worst 7 = .ok (.bipush (-5), 2) := by decide +kernel
theorem dX8_worst_9 : decode cX8_worst 9 = .ok (.ireturn, 1) := by decide +kernel
theorem dX8_worst_10 : decode cX8_worst 10 = .ok (.iload_n 2, 1) := by decide +kernel
theorem dX8_worst_11 : decode cX8_worst 11 = .ok (.iconst 0, 1) := by decide +kernel
theorem dX8_worst_12 : decode cX8_worst 12 = .ok (.iconst 1, 1) := by decide +kernel
theorem dX8_worst_13 : decode cX8_worst 13 = .ok (.invokestatic 108, 3) := by decide +kernel
theorem dX8_worst_16 : decode cX8_worst 16 = .ok (.ifCond .ne 6, 3) := by decide +kernel
theorem dX8_worst_19 : decode cX8_worst 19 = .ok (.bipush (-7), 2) := by decide +kernel
theorem dX8_worst_21 : decode cX8_worst 21 = .ok (.ireturn, 1) := by decide +kernel
theorem dX8_worst_22 : decode cX8_worst 22 = .ok (.aload_n 0, 1) := by decide +kernel
theorem dX8_worst_23 : decode cX8_worst 23 = .ok (.iload_n 1, 1) := by decide +kernel
theorem dX8_worst_24 : decode cX8_worst 24 = .ok (.invokevirtual 297, 3) := by decide +kernel
theorem dX8_worst_27 : decode cX8_worst 27 = .ok (.iconst 0, 1) := by decide +kernel
theorem dX8_worst_28 : decode cX8_worst 28 = .ok (.istore_n 3, 1) := by decide +kernel
theorem dX8_worst_29 : decode cX8_worst 29 = .ok (.iconst 1, 1) := by decide +kernel
theorem dX8_worst_30 : decode cX8_worst 30 = .ok (.istore 4, 2) := by decide +kernel
theorem dX8_worst_32 : decode cX8_worst 32 = .ok (.iload 4, 2) := by decide +kernel
theorem dX8_worst_34 : decode cX8_worst 34 = .ok (.bipush 36, 2) := by decide +kernel
theorem dX8_worst_36 : decode cX8_worst 36 = .ok (.if_icmp .ge 28, 3) := by decide +kernel
theorem dX8_worst_39 : decode cX8_worst 39 = .ok (.aload_n 0, 1) := by decide +kernel
theorem dX8_worst_40 : decode cX8_worst 40 = .ok (.getfield 49, 3) := by decide +kernel
theorem dX8_worst_43 : decode cX8_worst 43 = .ok (.iload 4, 2) := by decide +kernel
theorem dX8_worst_45 : decode cX8_worst 45 = .ok (.iaload, 1) := by decide +kernel
theorem dX8_worst_46 : decode cX8_worst 46 = .ok (.aload_n 0, 1) := by decide +kernel
theorem dX8_worst_47 : decode cX8_worst 47 = .ok (.getfield 49, 3) := by decide +kernel
theorem dX8_worst_50 : decode cX8_worst 50 = .ok (.iload_n 3, 1) := by decide +kernel
theorem dX8_worst_51 : decode cX8_worst 51 = .ok (.iaload, 1) := by decide +kernel
theorem dX8_worst_52 : decode cX8_worst 52 = .ok (.if_icmp .le 6, 3) := by decide +kernel
theorem dX8_worst_55 : decode cX8_worst 55 = .ok (.iload 4, 2) := by decide +kernel
theorem dX8_worst_57 : decode cX8_worst 57 = .ok (.istore_n 3, 1) := by decide +kernel
theorem dX8_worst_58 : decode cX8_worst 58 = .ok (.iinc 4 1, 3) := by decide +kernel
theorem dX8_worst_61 : decode cX8_worst 61 = .ok (.goto (-29), 3) := by decide +kernel
theorem dX8_worst_64 : decode cX8_worst 64 = .ok (.iload_n 2, 1) := by decide +kernel
theorem dX8_worst_65 : decode cX8_worst 65 = .ok (.ifCond .ne 7, 3) := by decide +kernel
theorem dX8_worst_68 : decode cX8_worst 68 = .ok (.iload_n 3, 1) := by decide +kernel
theorem dX8_worst_69 : decode cX8_worst 69 = .ok (.goto 9, 3) := by decide +kernel
theorem dX8_worst_72 : decode cX8_worst 72 = .ok (.aload_n 0, 1) := by decide +kernel
theorem dX8_worst_73 : decode cX8_worst 73 = .ok (.getfield 49, 3) := by decide +kernel
theorem dX8_worst_76 : decode cX8_worst 76 = .ok (.iload_n 3, 1) := by decide +kernel
theorem dX8_worst_77 : decode cX8_worst 77 = .ok (.iaload, 1) := by decide +kernel
theorem dX8_worst_78 : decode cX8_worst 78 = .ok (.ireturn, 1) := by decide +kernel
set_option maxRecDepth 20000 in
theorem ggX8_corner_X8_isDays : GoodIn wsX8_corner wsX8_isDays := goodIn_r _ [6, 7, 8, 5, 9] (by decide +kernel) (by decide +kernel)
set_option maxRecDepth 20000 in
theorem gX8_corner_X8_isDays : GoodIn wsX8_corner (va_wsS RX8 294 yX8_isDays wsX8_isDays) := goodIn_app (goodIn_of _ (by decide +kernel)) ggX8_corner_X8_isDays
set_option maxRecDepth 20000 in
theorem ggX8_corner_X8_within : GoodIn wsX8_corner wsX8_within := goodIn_r _ [9] (by decide +kernel) (by decide +kernel)
set_option maxRecDepth 20000 in
theorem gX8_corner_X8_within : GoodIn wsX8_corner (va_wsS RX8 108 yX8_within wsX8_within) := goodIn_app (goodIn_of _ (by decide +kernel)) ggX8_corner_X8_within
set_option maxRecDepth 20000 in
theorem ggX8_corner_X8_go : GoodIn wsX8_corner wsX8_go := goodIn_r _ [13, 14, 15, 16, 5, 17, 1, 18, 2, 19, 20, 21, 22, 23, 24, 25, 26, 27, 28, 29, 30, 31, 32, 33, 34, 35, 36, 37, 38, 39, 40, 41, 42, 43, 44, 45, 46, 47, 48, 49, 50, 51, 52, 53, 54, 55, 56, 57, 58, 59, 60, 61, 62, 63, 64, 65, 66, 67, 68, 69, 70, 71, 72, 73, 74, 75, 76, 77, 78, 79, 80, 81, 82, 83, 84, 85, 86, 87, 88, 89, 90, 91, 92, 93, 94, 95, 96, 97, 98, 99, 100, 101, 102, 103, 104, 105, 106, 107, 108, 109, 110, 111, 112, 113, 114, 115, 116, 117, 118, 119, 120, 121, 122, 123, 124, 125, 126, 127, 128, 129, 130, 131, 132, 133, 134, 135] (by decide +kernel) (by decide +kernel)
set_option maxRecDepth 20000 in
theorem gX8_corner_X8_go : GoodIn wsX8_corner (wsV RX8 297 RX8 yX8_go wsX8_go) := goodIn_app (goodIn_of _ (by decide +kernel)) ggX8_corner_X8_go
theorem dX8_corner_0 : decode cX8_corner 0 = .ok (.iload_n 1, 1) := by decide +kernel
theorem dX8_corner_1 : decode cX8_corner 1 = .ok (.invokestatic 294, 3) := by decide +kernel
theorem dX8_corner_4 : decode cX8_corner 4 = .ok (.ifCond .ne 6, 3) := by decide +kernel
theorem dX8_corner_7 : decode cX8_corner 7 = .ok (.bipush (-5), 2) := by decide +kernel
theorem dX8_corner_9 : decode cX8_corner 9 = .ok (.ireturn, 1) := by decide +kernel
theorem dX8_corner_10 : decode cX8_corner 10 = .ok (.iload_n 2, 1) := by decide +kernel
theorem dX8_corner_11 : decode cX8_corner 11 = .ok (.iconst 0, 1) := by decide +kernel
theorem dX8_corner_12 : decode cX8_corner 12 = .ok (.iconst 1, 1) := by decide +kernel
theorem dX8_corner_13 : decode cX8_corner 13 = .ok (.invokestatic 108, 3) := by decide +kernel
theorem dX8_corner_16 : decode cX8_corner 16 = .ok (.ifCond .ne 6, 3) := by decide +kernel
theorem dX8_corner_19 : decode cX8_corner 19 = .ok (.bipush (-7), 2) := by decide +kernel
theorem dX8_corner_21 : decode cX8_corner 21 = .ok (.ireturn, 1) := by decide +kernel
theorem dX8_corner_22 : decode cX8_corner 22 = .ok (.aload_n 0, 1) := by decide +kernel
theorem dX8_corner_23 : decode cX8_corner 23 = .ok (.iload_n 1, 1) := by decide +kernel
theorem dX8_corner_24 : decode cX8_corner 24 = .ok (.invokevirtual 297, 3) := by decide +kernel
theorem dX8_corner_27 : decode cX8_corner 27 = .ok (.iconst 0, 1) := by decide +kernel
theorem dX8_corner_28 : decode cX8_corner 28 = .ok (.istore_n 3, 1) := by decide +kernel
theorem dX8_corner_29 : decode cX8_corner 29 = .ok (.iconst 1, 1) := by decide +kernel
theorem dX8_corner_30 : decode cX8_corner 30 = .ok (.istore 4, 2) := by decide +kernel
theorem dX8_corner_32 : decode cX8_corner 32 = .ok (.iload 4, 2) := by decide +kernel
theorem dX8_corner_34 : decode cX8_corner 34 = .ok (.bipush 36, 2) := by decide +kernel
theorem dX8_corner_36 : decode cX8_corner 36 = .ok (.if_icmp .ge 43, 3) := by decide +kernel
theorem dX8_corner_39 : decode cX8_corner 39 = .ok (.aload_n 0, 1) := by decide +kernel
theorem dX8_corner_40 : decode cX8_corner 40 = .ok (.getfield 43, 3) := by decide +kernel
theorem dX8_corner_43 : decode cX8_corner 43 = .ok (.iload 4, 2) := by decide +kernel
theorem dX8_corner_45 : decode cX8_corner 45 = .ok (.iaload, 1) := by decide +kernel
theorem dX8_corner_46 : decode cX8_corner 46 = .ok (.aload_n 0, 1) := by decide +kernel
theorem dX8_corner_47 : decode cX8_corner 47 = .ok (.getfield 46, 3) := by decide +kernel
theorem dX8_corner_50 : decode cX8_corner 50 = .ok (.iload 4, 2) := by decide +kernel
theorem dX8_corner_52 : decode cX8_corner 52 = .ok (.iaload, 1) := by decide +kernel
theorem dX8_corner_53 : decode cX8_corner 53 = .ok (.iadd, 1) := by decide +kernel
theorem dX8_corner_54 : decode cX8_corner 54 = .ok (.aload_n 0, 1) := by decide +kernel
theorem dX8_corner_55 : decode cX8_corner 55 = .ok (.getfield 43, 3) := by decide +kernel
theorem dX8_corner_58 : decode cX8_corner 58 = .ok (.iload_n 3, 1) := by decide +kernel
theorem dX8_corner_59 : decode cX8_corner 59 = .ok (.iaload, 1) := by decide +kernel
theorem dX8_corner_60 : decode cX8_corner 60 = .ok (.aload_n 0, 1) := by decide +kernel
theorem dX8_corner_61 : decode cX8_corner 61 = .ok (.getfield 46, 3) := by decide +kernel
theorem dX8_corner_64 : decode cX8_corner 64 = .ok (.iload_n 3, 1) := by decide +kernel
theorem dX8_corner_65 : decode cX8_corner 65 = .ok (.iaload, 1) := by decide +kernel
theorem dX8_corner_66 : decode cX8_corner 66 = .ok (.iadd, 1) := by decide +kernel
theorem dX8_corner_67 : decode cX8_corner 67 = .ok (.if_icmp .le 6, 3) := by decide +kernel
theorem dX8_corner_70 : decode cX8_corner 70 = .ok (.iload 4, 2) := by decide +kernel
theorem dX8_corner_72 : decode cX8_corner 72 = .ok (.istore_n 3, 1) := by decide +kernel
theorem dX8_corner_73 : decode cX8_corner 73 = .ok (.iinc 4 1, 3) := by decide +kernel
theorem dX8_corner_76 : decode cX8_corner 76 = .ok (.goto (-44), 3) := by decide +kernel
theorem dX8_corner_79 : decode cX8_corner 79 = .ok (.iload_n 2, 1) := by decide +kernel
theorem dX8_corner_80 : decode cX8_corner 80 = .ok (.ifCond .ne 7, 3) := by decide +kernel
theorem dX8_corner_83 : decode cX8_corner 83 = .ok (.iload_n 3, 1) := by decide +kernel
theorem dX8_corner_84 : decode cX8_corner 84 = .ok (.goto 16, 3) := by decide +kernel
theorem dX8_corner_87 : decode cX8_corner 87 = .ok (.aload_n 0, 1) := by decide +kernel
theorem dX8_corner_88 : decode cX8_corner 88 = .ok (.getfield 43, 3) := by decide +kernel
theorem dX8_corner_91 : decode cX8_corner 91 = .ok (.iload_n 3, 1) := by decide +kernel
theorem dX8_corner_92 : decode cX8_corner 92 = .ok (.iaload, 1) := by decide +kernel
theorem dX8_corner_93 : decode cX8_corner 93 = .ok (.aload_n 0, 1) := by decide +kernel
theorem dX8_corner_94 : decode cX8_corner 94 = .ok (.getfield 46, 3) := by decide +kernel
theorem dX8_corner_97 : decode cX8_corner 97 = .ok (.iload_n 3, 1) := by decide +kernel
theorem dX8_corner_98 : decode cX8_corner 98 = .ok (.iaload, 1) := by decide +kernel
theorem dX8_corner_99 : decode cX8_corner 99 = .ok (.iadd, 1) := by decide +kernel
theorem dX8_corner_100 : decode cX8_corner 100 = .ok (.ireturn, 1) := by decide +kernel
set_option maxRecDepth 20000 in
theorem ggX8_least_X8_within : GoodIn wsX8_least wsX8_within := goodIn_r _ [7] (by decide +kernel) (by decide +kernel)
set_option maxRecDepth 20000 in
theorem gX8_least_X8_within : GoodIn wsX8_least (va_wsS RX8 108 yX8_within wsX8_within) := goodIn_app (goodIn_of _ (by decide +kernel)) ggX8_least_X8_within
set_option maxRecDepth 20000 in
theorem ggX8_least_X8_go : GoodIn wsX8_least wsX8_go := goodIn_r _ [11, 12, 13, 14, 6, 15, 16, 17, 18, 2, 19, 20, 21, 22, 23, 24, 25, 3, 26, 27, 28, 29, 30, 31, 32, 33, 34, 35, 36, 37, 38, 1, 39, 40, 41, 42, 43, 44, 45, 46, 47, 48, 49, 50, 51, 52, 53, 54, 55, 56, 57, 58, 59, 60, 61, 62, 63, 64, 65, 66, 67, 68, 69, 70, 71, 72, 73, 74, 75, 76, 77, 78, 79, 80, 81, 82, 83, 84, 85, 86, 87, 88, 89, 90, 91, 92, 93, 94, 95, 96, 97, 98, 99, 100, 101, 102, 103, 104, 105, 106, 107, 108, 109, 110, 111, 112, 113, 114, 115, 116, 117, 118, 119, 120, 121, 122, 123, 124, 125, 126, 127, 128, 129, 130, 131, 132] (by decide +kernel) (by decide +kernel)
set_option maxRecDepth 20000 in
theorem gX8_least_X8_go : GoodIn wsX8_least (wsV RX8 297 RX8 yX8_go wsX8_go) := goodIn_app (goodIn_of _ (by decide +kernel)) ggX8_least_X8_go
theorem dX8_least_0 : decode cX8_least 0 = .ok (.iload_n 1, 1) := by decide +kernel
theorem dX8_least_1 : decode cX8_least 1 = .ok (.iconst 0, 1) := by decide +kernel
theorem dX8_least_2 : decode cX8_least 2 = .ok (.bipush 14, 2) := by decide +kernel
theorem dX8_least_4 : decode cX8_least 4 = .ok (.invokestatic 108, 3) := by decide +kernel
theorem dX8_least_7 : decode cX8_least 7 = .ok (.ifCond .eq 12, 3) := by decide +kernel
theorem dX8_least_10 : decode cX8_least 10 = .ok (.iload_n 2, 1) := by decide +kernel
theorem dX8_least_11 : decode cX8_least 11 = .ok (.iconst 0, 1) := by decide +kernel
theorem dX8_least_12 : decode cX8_least 12 = .ok (.iconst 1, 1) := by decide +kernel
theorem dX8_least_13 : decode cX8_least 13 = .ok (.invokestatic 108, 3) := by decide +kernel
theorem dX8_least_16 : decode cX8_least 16 = .ok (.ifCond .ne 6, 3) := by decide +kernel
theorem dX8_least_19 : decode cX8_least 19 = .ok (.bipush (-2), 2) := by decide +kernel
theorem dX8_least_21 : decode cX8_least 21 = .ok (.ireturn, 1) := by decide +kernel
theorem dX8_least_22 : decode cX8_least 22 = .ok (.aload_n 0, 1) := by decide +kernel
theorem dX8_least_23 : decode cX8_least 23 = .ok (.getfield 115, 3) := by decide +kernel
theorem dX8_least_26 : decode cX8_least 26 = .ok (.istore_n 3, 1) := by decide +kernel
theorem dX8_least_27 : decode cX8_least 27 = .ok (.iconst (-1), 1) := by decide +kernel
theorem dX8_least_28 : decode cX8_least 28 = .ok (.istore 4, 2) := by decide +kernel
theorem dX8_least_30 : decode cX8_least 30 = .ok (.iconst (-1), 1) := by decide +kernel
theorem dX8_least_31 : decode cX8_least 31 = .ok (.istore 5, 2) := by decide +kernel
theorem dX8_least_33 : decode cX8_least 33 = .ok (.iconst 0, 1) := by decide +kernel
theorem dX8_least_34 : decode cX8_least 34 = .ok (.istore 6, 2) := by decide +kernel
theorem dX8_least_36 : decode cX8_least 36 = .ok (.iload 6, 2) := by decide +kernel
theorem dX8_least_38 : decode cX8_least 38 = .ok (.bipush 16, 2) := by decide +kernel
theorem dX8_least_40 : decode cX8_least 40 = .ok (.if_icmp .ge 122, 3) := by decide +kernel
theorem dX8_least_43 : decode cX8_least 43 = .ok (.aload_n 0, 1) := by decide +kernel
theorem dX8_least_44 : decode cX8_least 44 = .ok (.iload 6, 2) := by decide +kernel
theorem dX8_least_46 : decode cX8_least 46 = .ok (.iconst 1, 1) := by decide +kernel
theorem dX8_least_47 : decode cX8_least 47 = .ok (.iand, 1) := by decide +kernel
theorem dX8_least_48 : decode cX8_least 48 = .ok (.iconst 3, 1) := by decide +kernel
theorem dX8_least_49 : decode cX8_least 49 = .ok (.ishl, 1) := by decide +kernel
theorem dX8_least_50 : decode cX8_least 50 = .ok (.iload 6, 2) := by decide +kernel
theorem dX8_least_52 : decode cX8_least 52 = .ok (.iconst 1, 1) := by decide +kernel
theorem dX8_least_53 : decode cX8_least 53 = .ok (.ishr, 1) := by decide +kernel
theorem dX8_least_54 : decode cX8_least 54 = .ok (.iconst 1, 1) := by decide +kernel
theorem dX8_least_55 : decode cX8_least 55 = .ok (.iand, 1) := by decide +kernel
theorem dX8_least_56 : decode cX8_least 56 = .ok (.bipush 6, 2) := by decide +kernel
theorem dX8_least_58 : decode cX8_least 58 = .ok (.ishl, 1) := by decide +kernel
theorem dX8_least_59 : decode cX8_least 59 = .ok (.ior, 1) := by decide +kernel
theorem dX8_least_60 : decode cX8_least 60 = .ok (.iload 6, 2) := by decide +kernel
theorem dX8_least_62 : decode cX8_least 62 = .ok (.iconst 2, 1) := by decide +kernel
theorem dX8_least_63 : decode cX8_least 63 = .ok (.ishr, 1) := by decide +kernel
theorem dX8_least_64 : decode cX8_least 64 = .ok (.iconst 1, 1) := by decide +kernel
theorem dX8_least_65 : decode cX8_least 65 = .ok (.iand, 1) := by decide +kernel
theorem dX8_least_66 : decode cX8_least 66 = .ok (.bipush 10, 2) := by decide +kernel
theorem dX8_least_68 : decode cX8_least 68 = .ok (.ishl, 1) := by decide +kernel
theorem dX8_least_69 : decode cX8_least 69 = .ok (.ior, 1) := by decide +kernel
theorem dX8_least_70 : decode cX8_least 70 = .ok (.iload 6, 2) := by decide +kernel
theorem dX8_least_72 : decode cX8_least 72 = .ok (.iconst 3, 1) := by decide +kernel
theorem dX8_least_73 : decode cX8_least 73 = .ok (.ishr, 1) := by decide +kernel
theorem dX8_least_74 : decode cX8_least 74 = .ok (.iconst 1, 1) := by decide +kernel
theorem dX8_least_75 : decode cX8_least 75 = .ok (.iand, 1) := by decide +kernel
theorem dX8_least_76 : decode cX8_least 76 = .ok (.bipush 13, 2) := by decide +kernel
theorem dX8_least_78 : decode cX8_least 78 = .ok (.ishl, 1) := by decide +kernel
theorem dX8_least_79 : decode cX8_least 79 = .ok (.ior, 1) := by decide +kernel
theorem dX8_least_80 : decode cX8_least 80 = .ok (.putfield 115, 3) := by decide +kernel
theorem dX8_least_83 : decode cX8_least 83 = .ok (.aload_n 0, 1) := by decide +kernel
theorem dX8_least_84 : decode cX8_least 84 = .ok (.bipush 14, 2) := by decide +kernel
theorem dX8_least_86 : decode cX8_least 86 = .ok (.invokevirtual 297, 3) := by decide +kernel
theorem dX8_least_89 : decode cX8_least 89 = .ok (.iconst 1, 1) := by decide +kernel
theorem dX8_least_90 : decode cX8_least 90 = .ok (.istore 7, 2) := by decide +kernel
theorem dX8_least_92 : decode cX8_least 92 = .ok (.iconst 0, 1) := by decide +kernel
theorem dX8_least_93 : decode cX8_least 93 = .ok (.istore 8, 2) := by decide +kernel
theorem dX8_least_95 : decode cX8_least 95 = .ok (.iload 8, 2) := by decide +kernel
theorem dX8_least_97 : decode cX8_least 97 = .ok (.bipush 36, 2) := by decide +kernel
theorem dX8_least_99 : decode cX8_least 99 = .ok (.if_icmp .ge 23, 3) := by decide +kernel
theorem dX8_least_102 : decode cX8_least 102 = .ok (.aload_n 0, 1) := by decide +kernel
theorem dX8_least_103 : decode cX8_least 103 = .ok (.getfield 49, 3) := by decide +kernel
theorem dX8_least_106 : decode cX8_least 106 = .ok (.iload 8, 2) := by decide +kernel
theorem dX8_least_108 : decode cX8_least 108 = .ok (.iaload, 1) := by decide +kernel
theorem dX8_least_109 : decode cX8_least 109 = .ok (.iload_n 1, 1) := by decide +kernel
theorem dX8_least_110 : decode cX8_least 110 = .ok (.if_icmp .le 6, 3) := by decide +kernel
theorem dX8_least_113 : decode cX8_least 113 = .ok (.iconst 0, 1) := by decide +kernel
theorem dX8_least_114 : decode cX8_least 114 = .ok (.istore 7, 2) := by decide +kernel
theorem dX8_least_116 : decode cX8_least 116 = .ok (.iinc 8 1, 3) := by decide +kernel
theorem dX8_least_119 : decode cX8_least 119 = .ok (.goto (-24), 3) := by decide +kernel
theorem dX8_least_122 : decode cX8_least 122 = .ok (.iload 7, 2) := by decide +kernel
theorem dX8_least_124 : decode cX8_least 124 = .ok (.ifCond .eq 32, 3) := by decide +kernel
theorem dX8_least_127 : decode cX8_least 127 = .ok (.iload 4, 2) := by decide +kernel
theorem dX8_least_129 : decode cX8_least 129 = .ok (.ifCond .lt 15, 3) := by decide +kernel
theorem dX8_least_132 : decode cX8_least 132 = .ok (.aload_n 0, 1) := by decide +kernel
theorem dX8_least_133 : decode cX8_least 133 = .ok (.getfield 279, 3) := by decide +kernel
theorem dX8_least_136 : decode cX8_least 136 = .ok (.iload 5, 2) := by decide +kernel
theorem dX8_least_138 : decode cX8_least 138 = .ok (.if_icmp .lt 6, 3) := by decide +kernel
theorem dX8_least_141 : decode cX8_least 141 = .ok (.goto 15, 3) := by decide +kernel
theorem dX8_least_144 : decode cX8_least 144 = .ok (.aload_n 0, 1) := by decide +kernel
theorem dX8_least_145 : decode cX8_least 145 = .ok (.getfield 115, 3) := by decide +kernel
theorem dX8_least_148 : decode cX8_least 148 = .ok (.istore 4, 2) := by decide +kernel
theorem dX8_least_150 : decode cX8_least 150 = .ok (.aload_n 0, 1) := by decide +kernel
theorem dX8_least_151 : decode cX8_least 151 = .ok (.getfield 279, 3) := by decide +kernel
theorem dX8_least_154 : decode cX8_least 154 = .ok (.istore 5, 2) := by decide +kernel
theorem dX8_least_156 : decode cX8_least 156 = .ok (.iinc 6 1, 3) := by decide +kernel
theorem dX8_least_159 : decode cX8_least 159 = .ok (.goto (-123), 3) := by decide +kernel
theorem dX8_least_162 : decode cX8_least 162 = .ok (.aload_n 0, 1) := by decide +kernel
theorem dX8_least_163 : decode cX8_least 163 = .ok (.iload_n 3, 1) := by decide +kernel
theorem dX8_least_164 : decode cX8_least 164 = .ok (.putfield 115, 3) := by decide +kernel
theorem dX8_least_167 : decode cX8_least 167 = .ok (.iload_n 2, 1) := by decide +kernel
theorem dX8_least_168 : decode cX8_least 168 = .ok (.ifCond .ne 8, 3) := by decide +kernel
theorem dX8_least_171 : decode cX8_least 171 = .ok (.iload 4, 2) := by decide +kernel
theorem dX8_least_173 : decode cX8_least 173 = .ok (.goto 5, 3) := by decide +kernel
theorem dX8_least_176 : decode cX8_least 176 = .ok (.iload 5, 2) := by decide +kernel
theorem dX8_least_178 : decode cX8_least 178 = .ok (.ireturn, 1) := by decide +kernel
set_option maxRecDepth 20000 in
theorem ggX8_costOf_X8_go : GoodIn wsX8_costOf wsX8_go := goodIn_r _ [7, 8, 9, 10, 6, 11, 12, 13, 14, 15, 16, 17, 18, 19, 20, 21, 22, 2, 23, 24, 25, 26, 27, 28, 29, 30, 31, 32, 33, 34, 35, 1, 36, 37, 38, 39, 40, 41, 42, 43, 44, 45, 46, 47, 48, 49, 50, 51, 52, 53, 54, 55, 56, 57, 58, 59, 60, 61, 62, 63, 64, 65, 66, 67, 68, 69, 70, 71, 72, 73, 74, 75, 76, 77, 78, 79, 80, 81, 82, 83, 84, 85, 86, 87, 88, 89, 90, 91, 92, 93, 94, 95, 96, 97, 98, 99, 100, 101, 102, 103, 104, 105, 106, 107, 108, 109, 110, 111, 112, 113, 114, 115, 116, 117, 118, 119, 120, 121, 122, 123, 124, 125, 126, 127, 128, 129] (by decide +kernel) (by decide +kernel)
set_option maxRecDepth 20000 in
theorem gX8_costOf_X8_go : GoodIn wsX8_costOf (wsV RX8 297 RX8 yX8_go wsX8_go) := goodIn_app (goodIn_of _ (by decide +kernel)) ggX8_costOf_X8_go
theorem dX8_costOf_0 : decode cX8_costOf 0 = .ok (.aload_n 0, 1) := by decide +kernel
theorem dX8_costOf_1 : decode cX8_costOf 1 = .ok (.getfield 115, 3) := by decide +kernel
theorem dX8_costOf_4 : decode cX8_costOf 4 = .ok (.istore_n 2, 1) := by decide +kernel
theorem dX8_costOf_5 : decode cX8_costOf 5 = .ok (.aload_n 0, 1) := by decide +kernel
theorem dX8_costOf_6 : decode cX8_costOf 6 = .ok (.iload_n 1, 1) := by decide +kernel
theorem dX8_costOf_7 : decode cX8_costOf 7 = .ok (.putfield 115, 3) := by decide +kernel
theorem dX8_costOf_10 : decode cX8_costOf 10 = .ok (.aload_n 0, 1) := by decide +kernel
theorem dX8_costOf_11 : decode cX8_costOf 11 = .ok (.bipush 14, 2) := by decide +kernel
theorem dX8_costOf_13 : decode cX8_costOf 13 = .ok (.invokevirtual 297, 3) := by decide +kernel
theorem dX8_costOf_16 : decode cX8_costOf 16 = .ok (.aload_n 0, 1) := by decide +kernel
theorem dX8_costOf_17 : decode cX8_costOf 17 = .ok (.iload_n 2, 1) := by decide +kernel
theorem dX8_costOf_18 : decode cX8_costOf 18 = .ok (.putfield 115, 3) := by decide +kernel
theorem dX8_costOf_21 : decode cX8_costOf 21 = .ok (.aload_n 0, 1) := by decide +kernel
theorem dX8_costOf_22 : decode cX8_costOf 22 = .ok (.getfield 279, 3) := by decide +kernel
theorem dX8_costOf_25 : decode cX8_costOf 25 = .ok (.ireturn, 1) := by decide +kernel
set_option maxRecDepth 20000 in
theorem ggX8_thrice_X8_costOf : GoodIn wsX8_thrice wsX8_costOf := goodIn_r _ [5, 6, 7, 8, 9, 10, 4, 11, 12, 13, 14, 15, 16, 17, 18, 19, 20, 21, 22, 23, 24, 25, 26, 27, 28, 29, 30, 31, 32, 33, 34, 35, 36, 37, 38, 39, 40, 41, 42, 43, 44, 45, 46, 47, 48, 49, 50, 51, 52, 53, 54, 55, 56, 57, 58, 59, 60, 61, 62, 63, 64, 65, 66, 67, 68, 69, 70, 71, 72, 73, 74, 75, 76, 77, 78, 79, 80, 81, 82, 83, 84, 85, 86, 87, 88, 89, 90, 91, 92, 93, 94, 95, 96, 97, 98, 99, 100, 101, 102, 103, 104, 105, 106, 107, 108, 109, 110, 111, 112, 113, 114, 115, 116, 117, 118, 119, 120, 121, 122, 123, 124, 125, 126, 127, 128, 129, 130, 131, 132, 133] (by decide +kernel) (by decide +kernel)
set_option maxRecDepth 20000 in
theorem gX8_thrice_X8_costOf : GoodIn wsX8_thrice (wsV RX8 306 RX8 yX8_costOf wsX8_costOf) := goodIn_app (goodIn_of _ (by decide +kernel)) ggX8_thrice_X8_costOf
theorem dX8_thrice_0 : decode cX8_thrice 0 = .ok (.aload_n 0, 1) := by decide +kernel
theorem dX8_thrice_1 : decode cX8_thrice 1 = .ok (.sipush 8720, 3) := by decide +kernel
theorem dX8_thrice_4 : decode cX8_thrice 4 = .ok (.invokevirtual 306, 3) := by decide +kernel
theorem dX8_thrice_7 : decode cX8_thrice 7 = .ok (.aload_n 0, 1) := by decide +kernel
theorem dX8_thrice_8 : decode cX8_thrice 8 = .ok (.sipush 8192, 3) := by decide +kernel
theorem dX8_thrice_11 : decode cX8_thrice 11 = .ok (.invokevirtual 306, 3) := by decide +kernel
theorem dX8_thrice_14 : decode cX8_thrice 14 = .ok (.isub, 1) := by decide +kernel
theorem dX8_thrice_15 : decode cX8_thrice 15 = .ok (.ireturn, 1) := by decide +kernel
set_option maxRecDepth 20000 in
theorem ggX8_where_X8_isDays : GoodIn wsX8_where wsX8_isDays := goodIn_r _ [4, 5, 6, 3, 7] (by decide +kernel) (by decide +kernel)
set_option maxRecDepth 20000 in
theorem gX8_where_X8_isDays : GoodIn wsX8_where (va_wsS RX8 294 yX8_isDays wsX8_isDays) := goodIn_app (goodIn_of _ (by decide +kernel)) ggX8_where_X8_isDays
set_option maxRecDepth 20000 in
theorem ggX8_where_X8_within : GoodIn wsX8_where wsX8_within := goodIn_r _ [7] (by decide +kernel) (by decide +kernel)
set_option maxRecDepth 20000 in
theorem gX8_where_X8_within : GoodIn wsX8_where (va_wsS RX8 108 yX8_within wsX8_within) := goodIn_app (goodIn_of _ (by decide +kernel)) ggX8_where_X8_within
set_option maxRecDepth 20000 in
theorem ggX8_where_X8_go : GoodIn wsX8_where wsX8_go := goodIn_r _ [11, 12, 13, 14, 3, 15, 16, 17, 18, 19, 20, 21, 22, 23, 24, 25, 26, 27, 28, 29, 30, 31, 32, 33, 34, 35, 36, 37, 38, 39, 40, 41, 42, 43, 44, 45, 46, 47, 48, 49, 50, 51, 52, 53, 54, 55, 56, 57, 58, 59, 60, 61, 62, 63, 64, 65, 66, 67, 68, 69, 70, 71, 72, 73, 74, 75, 76, 77, 78, 79, 80, 81, 82, 83, 84, 85, 86, 87, 88, 89, 90, 91, 92, 93, 94, 95, 96, 97, 98, 99, 100, 101, 102, 103, 104, 105, 106, 107, 108, 109, 110, 111, 112, 113, 114, 115, 116, 117, 118, 119, 120, 121, 122, 123, 124, 125, 126, 127, 128, 129, 130, 131, 132, 133, 134, 135] (by decide +kernel) (by decide +kernel)
set_option maxRecDepth 20000 in
theorem gX8_where_X8_go : GoodIn wsX8_where (wsV RX8 297 RX8 yX8_go wsX8_go) := goodIn_app (goodIn_of _ (by decide +kernel)) ggX8_where_X8_go
set_option maxRecDepth 20000 in
theorem ggX8_where_X8_costs : GoodIn wsX8_where wsX8_costs := goodIn_r _ [75, 16, 18, 76, 77, 3, 78, 79, 80, 37, 81, 82, 83, 84, 85, 86, 87, 88, 89, 90, 91, 92, 93, 94, 95, 96, 97, 98, 99, 100, 101, 102, 103, 104, 105, 106, 107, 108, 109, 110, 111, 112, 113, 114, 115, 116, 117, 118, 119, 120, 121, 122, 123, 124, 125, 126, 127, 128, 129, 130, 131, 132, 133, 134, 135] (by decide +kernel) (by decide +kernel)
set_option maxRecDepth 20000 in
theorem gX8_where_X8_costs : GoodIn wsX8_where (wsV RX8 282 RX8 yX8_costs wsX8_costs) := goodIn_app (goodIn_of _ (by decide +kernel)) ggX8_where_X8_costs
theorem dX8_where_0 : decode cX8_where 0 = .ok (.iload_n 1, 1) := by decide +kernel
theorem dX8_where_1 : decode cX8_where 1 = .ok (.invokestatic 294, 3) := by decide +kernel
theorem dX8_where_4 : decode cX8_where 4 = .ok (.ifCond .ne 6, 3) := by decide +kernel
theorem dX8_where_7 : decode cX8_where 7 = .ok (.bipush (-5), 2) := by decide +kernel
theorem dX8_where_9 : decode cX8_where 9 = .ok (.ireturn, 1) := by decide +kernel
theorem dX8_where_10 : decode cX8_where 10 = .ok (.iload_n 2, 1) := by decide +kernel
theorem dX8_where_11 : decode cX8_where 11 = .ok (.iconst 0, 1) := by decide +kernel
theorem dX8_where_12 : decode cX8_where 12 = .ok (.iconst 3, 1) := by decide +kernel
theorem dX8_where_13 : decode cX8_where 13 = .ok (.invokestatic 108, 3) := by decide +kernel
theorem dX8_where_16 : decode cX8_where 16 = .ok (.ifCond .ne 6, 3) := by decide +kernel
theorem dX8_where_19 : decode cX8_where 19 = .ok (.bipush (-7), 2) := by decide +kernel
theorem dX8_where_21 : decode cX8_where 21 = .ok (.ireturn, 1) := by decide +kernel
theorem dX8_where_22 : decode cX8_where 22 = .ok (.aload_n 0, 1) := by decide +kernel
theorem dX8_where_23 : decode cX8_where 23 = .ok (.iload_n 1, 1) := by decide +kernel
theorem dX8_where_24 : decode cX8_where 24 = .ok (.invokevirtual 297, 3) := by decide +kernel
theorem dX8_where_27 : decode cX8_where 27 = .ok (.iconst (-1), 1) := by decide +kernel
theorem dX8_where_28 : decode cX8_where 28 = .ok (.istore_n 3, 1) := by decide +kernel
theorem dX8_where_29 : decode cX8_where 29 = .ok (.iconst 0, 1) := by decide +kernel
theorem dX8_where_30 : decode cX8_where 30 = .ok (.istore 4, 2) := by decide +kernel
theorem dX8_where_32 : decode cX8_where 32 = .ok (.iconst 0, 1) := by decide +kernel
theorem dX8_where_33 : decode cX8_where 33 = .ok (.istore 5, 2) := by decide +kernel
theorem dX8_where_35 : decode cX8_where 35 = .ok (.iload 5, 2) := by decide +kernel
theorem dX8_where_37 : decode cX8_where 37 = .ok (.bipush 36, 2) := by decide +kernel
theorem dX8_where_39 : decode cX8_where 39 = .ok (.if_icmp .ge 105, 3) := by decide +kernel
theorem dX8_where_42 : decode cX8_where 42 = .ok (.iload_n 2, 1) := by decide +kernel
theorem dX8_where_43 : decode cX8_where 43 = .ok (.iconst 2, 1) := by decide +kernel
theorem dX8_where_44 : decode cX8_where 44 = .ok (.if_icmp .ge 8, 3) := by decide +kernel
theorem dX8_where_47 : decode cX8_where 47 = .ok (.iload 5, 2) := by decide +kernel
theorem dX8_where_49 : decode cX8_where 49 = .ok (.goto 7, 3) := by decide +kernel
theorem dX8_where_52 : decode cX8_where 52 = .ok (.iload 5, 2) := by decide +kernel
theorem dX8_where_54 : decode cX8_where 54 = .ok (.iconst 1, 1) := by decide +kernel
theorem dX8_where_55 : decode cX8_where 55 = .ok (.iadd, 1) := by decide +kernel
theorem dX8_where_56 : decode cX8_where 56 = .ok (.istore 6, 2) := by decide +kernel
theorem dX8_where_58 : decode cX8_where 58 = .ok (.iload 6, 2) := by decide +kernel
theorem dX8_where_60 : decode cX8_where 60 = .ok (.bipush 36, 2) := by decide +kernel
theorem dX8_where_62 : decode cX8_where 62 = .ok (.if_icmp .ge 76, 3) := by decide +kernel
theorem dX8_where_65 : decode cX8_where 65 = .ok (.iload_n 2, 1) := by decide +kernel
theorem dX8_where_66 : decode cX8_where 66 = .ok (.iconst 2, 1) := by decide +kernel
theorem dX8_where_67 : decode cX8_where 67 = .ok (.if_icmp .ge 13, 3) := by decide +kernel
theorem dX8_where_70 : decode cX8_where 70 = .ok (.iload 6, 2) := by decide +kernel
theorem dX8_where_72 : decode cX8_where 72 = .ok (.iload 5, 2) := by decide +kernel
theorem dX8_where_74 : decode cX8_where 74 = .ok (.if_icmp .le 6, 3) := by decide +kernel
theorem dX8_where_77 : decode cX8_where 77 = .ok (.goto 61, 3) := by decide +kernel
theorem dX8_where_80 : decode cX8_where 80 = .ok (.aload_n 0, 1) := by decide +kernel
theorem dX8_where_81 : decode cX8_where 81 = .ok (.lconst 1, 1) := by decide +kernel
theorem dX8_where_82 : decode cX8_where 82 = .ok (.iload 5, 2) := by decide +kernel
theorem dX8_where_84 : decode cX8_where 84 = .ok (.lshl, 1) := by decide +kernel
theorem dX8_where_85 : decode cX8_where 85 = .ok (.lconst 1, 1) := by decide +kernel
theorem dX8_where_86 : decode cX8_where 86 = .ok (.iload 6, 2) := by decide +kernel
theorem dX8_where_88 : decode cX8_where 88 = .ok (.lshl, 1) := by decide +kernel
theorem dX8_where_89 : decode cX8_where 89 = .ok (.lor, 1) := by decide +kernel
theorem dX8_where_90 : decode cX8_where 90 = .ok (.invokevirtual 282, 3) := by decide +kernel
theorem dX8_where_93 : decode cX8_where 93 = .ok (.istore 7, 2) := by decide +kernel
theorem dX8_where_95 : decode cX8_where 95 = .ok (.iload_n 3, 1) := by decide +kernel
theorem dX8_where_96 : decode cX8_where 96 = .ok (.ifCond .lt 13, 3) := by decide +kernel
theorem dX8_where_99 : decode cX8_where 99 = .ok (.iload 7, 2) := by decide +kernel
theorem dX8_where_101 : decode cX8_where 101 = .ok (.iload 4, 2) := by decide +kernel
theorem dX8_where_103 : decode cX8_where 103 = .ok (.if_icmp .lt 6, 3) := by decide +kernel
theorem dX8_where_106 : decode cX8_where 106 = .ok (.goto 26, 3) := by decide +kernel
theorem dX8_where_109 : decode cX8_where 109 = .ok (.iload_n 2, 1) := by decide +kernel
theorem dX8_where_110 : decode cX8_where 110 = .ok (.iconst 2, 1) := by decide +kernel
theorem dX8_where_111 : decode cX8_where 111 = .ok (.if_icmp .ge 8, 3) := by decide +kernel
theorem dX8_where_114 : decode cX8_where 114 = .ok (.iload 5, 2) := by decide +kernel
theorem dX8_where_116 : decode cX8_where 116 = .ok (.goto 11, 3) := by decide +kernel
theorem dX8_where_119 : decode cX8_where 119 = .ok (.bipush 100, 2) := by decide +kernel
theorem dX8_where_121 : decode cX8_where 121 = .ok (.iload 5, 2) := by decide +kernel
theorem dX8_where_123 : decode cX8_where 123 = .ok (.imul, 1) := by decide +kernel
theorem dX8_where_124 : decode cX8_where 124 = .ok (.iload 6, 2) := by decide +kernel
theorem dX8_where_126 : decode cX8_where 126 = .ok (.iadd, 1) := by decide +kernel
theorem dX8_where_127 : decode cX8_where 127 = .ok (.istore_n 3, 1) := by decide +kernel
theorem dX8_where_128 : decode cX8_where 128 = .ok (.iload 7, 2) := by decide +kernel
theorem dX8_where_130 : decode cX8_where 130 = .ok (.istore 4, 2) := by decide +kernel
theorem dX8_where_132 : decode cX8_where 132 = .ok (.iinc 6 1, 3) := by decide +kernel
theorem dX8_where_135 : decode cX8_where 135 = .ok (.goto (-77), 3) := by decide +kernel
theorem dX8_where_138 : decode cX8_where 138 = .ok (.iinc 5 1, 3) := by decide +kernel
theorem dX8_where_141 : decode cX8_where 141 = .ok (.goto (-106), 3) := by decide +kernel
theorem dX8_where_144 : decode cX8_where 144 = .ok (.iload_n 2, 1) := by decide +kernel
theorem dX8_where_145 : decode cX8_where 145 = .ok (.iconst 2, 1) := by decide +kernel
theorem dX8_where_146 : decode cX8_where 146 = .ok (.irem, 1) := by decide +kernel
theorem dX8_where_147 : decode cX8_where 147 = .ok (.ifCond .ne 7, 3) := by decide +kernel
theorem dX8_where_150 : decode cX8_where 150 = .ok (.iload_n 3, 1) := by decide +kernel
theorem dX8_where_151 : decode cX8_where 151 = .ok (.goto 5, 3) := by decide +kernel
theorem dX8_where_154 : decode cX8_where 154 = .ok (.iload 4, 2) := by decide +kernel
theorem dX8_where_156 : decode cX8_where 156 = .ok (.ireturn, 1) := by decide +kernel
set_option maxRecDepth 20000 in
theorem ggX8_raking_X8_isDays : GoodIn wsX8_raking wsX8_isDays := goodIn_r _ [5, 6, 7, 4, 8] (by decide +kernel) (by decide +kernel)
set_option maxRecDepth 20000 in
theorem gX8_raking_X8_isDays : GoodIn wsX8_raking (va_wsS RX8 294 yX8_isDays wsX8_isDays) := goodIn_app (goodIn_of _ (by decide +kernel)) ggX8_raking_X8_isDays
set_option maxRecDepth 20000 in
theorem ggX8_raking_X8_go : GoodIn wsX8_raking wsX8_go := goodIn_r _ [12, 13, 14, 15, 4, 16, 17, 18, 19, 20, 21, 22, 23, 24, 25, 26, 27, 28, 29, 30, 31, 32, 33, 34, 35, 36, 37, 38, 39, 40, 41, 42, 1, 43, 44, 45, 46, 47, 48, 49, 50, 51, 52, 53, 54, 55, 56, 57, 58, 59, 60, 61, 62, 63, 64, 65, 66, 67, 68, 69, 70, 71, 72, 73, 74, 75, 76, 77, 78, 79, 80, 81, 82, 83, 84, 85, 86, 87, 88, 89, 90, 91, 92, 93, 94, 95, 96, 97, 98, 99, 100, 101, 102, 103, 104, 105, 106, 107, 108, 109, 110, 111, 112, 113, 114, 115, 116, 117, 118, 119, 120, 121, 122, 123, 124, 125, 126, 127, 128, 129, 130, 131, 132, 133, 134, 135] (by decide +kernel) (by decide +kernel)
set_option maxRecDepth 20000 in
theorem gX8_raking_X8_go : GoodIn wsX8_raking (wsV RX8 297 RX8 yX8_go wsX8_go) := goodIn_app (goodIn_of _ (by decide +kernel)) ggX8_raking_X8_go
set_option maxRecDepth 20000 in
theorem ggX8_raking_X8_costs : GoodIn wsX8_raking wsX8_costs := goodIn_r _ [75, 17, 19, 76, 77, 4, 78, 79, 80, 38, 81, 82, 83, 84, 85, 86, 87, 88, 89, 90, 91, 92, 93, 94, 95, 96, 97, 98, 99, 100, 101, 102, 103, 104, 105, 106, 107, 108, 109, 110, 111, 112, 113, 114, 115, 116, 117, 118, 119, 120, 121, 122, 123, 124, 125, 126, 127, 128, 129, 130, 131, 132, 133, 134, 135] (by decide +kernel) (by decide +kernel)
set_option maxRecDepth 20000 in
theorem gX8_raking_X8_costs : GoodIn wsX8_raking (wsV RX8 282 RX8 yX8_costs wsX8_costs) := goodIn_app (goodIn_of _ (by decide +kernel)) ggX8_raking_X8_costs
theorem dX8_raking_0 : decode cX8_raking 0 = .ok (.iload_n 1, 1) := by decide +kernel
theorem dX8_raking_1 : decode cX8_raking 1 = .ok (.invokestatic 294, 3) := by decide +kernel
theorem dX8_raking_4 : decode cX8_raking 4 = .ok (.ifCond .ne 6, 3) := by decide +kernel
theorem dX8_raking_7 : decode cX8_raking 7 = .ok (.bipush (-5), 2) := by decide +kernel
theorem dX8_raking_9 : decode cX8_raking 9 = .ok (.ireturn, 1) := by decide +kernel
theorem dX8_raking_10 : decode cX8_raking 10 = .ok (.aload_n 0, 1) := by decide +kernel
theorem dX8_raking_11 : decode cX8_raking 11 = .ok (.iload_n 1, 1) := by decide +kernel
theorem dX8_raking_12 : decode cX8_raking 12 = .ok (.invokevirtual 297, 3) := by decide +kernel
theorem dX8_raking_15 : decode cX8_raking 15 = .ok (.aload_n 0, 1) := by decide +kernel
theorem dX8_raking_16 : decode cX8_raking 16 = .ok (.aload_n 0, 1) := by decide +kernel
theorem dX8_raking_17 : decode cX8_raking 17 = .ok (.getfield 85, 3) := by decide +kernel
theorem dX8_raking_20 : decode cX8_raking 20 = .ok (.invokevirtual 282, 3) := by decide +kernel
theorem dX8_raking_23 : decode cX8_raking 23 = .ok (.ireturn, 1) := by decide +kernel
set_option maxRecDepth 20000 in
theorem ggX8_tonight_X8_isDays : GoodIn wsX8_tonight wsX8_isDays := goodIn_r _ [12, 13, 14, 11, 15] (by decide +kernel) (by decide +kernel)
set_option maxRecDepth 20000 in
theorem gX8_tonight_X8_isDays : GoodIn wsX8_tonight (va_wsS RX8 294 yX8_isDays wsX8_isDays) := goodIn_app (goodIn_of _ (by decide +kernel)) ggX8_tonight_X8_isDays
set_option maxRecDepth 20000 in
theorem ggX8_tonight_X8_within : GoodIn wsX8_tonight wsX8_within := goodIn_r _ [15] (by decide +kernel) (by decide +kernel)
set_option maxRecDepth 20000 in
theorem gX8_tonight_X8_within : GoodIn wsX8_tonight (va_wsS RX8 108 yX8_within wsX8_within) := goodIn_app (goodIn_of _ (by decide +kernel)) ggX8_tonight_X8_within
set_option maxRecDepth 20000 in
theorem ggX8_tonight_X8_go : GoodIn wsX8_tonight wsX8_go := goodIn_r _ [19, 20, 21, 22, 11, 23, 3, 24, 4, 25, 26, 27, 28, 1, 29, 30, 31, 32, 33, 34, 35, 36, 37, 38, 39, 5, 6, 7, 8, 40, 41, 42, 43, 44, 45, 46, 47, 48, 49, 50, 51, 52, 53, 54, 55, 56, 57, 58, 59, 60, 61, 62, 63, 64, 65, 66, 67, 68, 69, 70, 71, 72, 73, 74, 75, 76, 77, 78, 79, 80, 81, 82, 83, 84, 85, 86, 87, 88, 89, 90, 91, 92, 93, 94, 95, 96, 97, 98, 99, 100, 101, 102, 103, 104, 105, 106, 107, 108, 109, 110, 111, 112, 113, 114, 115, 116, 117, 118, 119, 120, 121, 122, 123, 124, 125, 126, 127, 128, 129, 130, 131, 132, 133, 134, 135, 136] (by decide +kernel) (by decide +kernel)
set_option maxRecDepth 20000 in
theorem gX8_tonight_X8_go : GoodIn wsX8_tonight (wsV RX8 297 RX8 yX8_go wsX8_go) := goodIn_app (goodIn_of _ (by decide +kernel)) ggX8_tonight_X8_go
set_option maxRecDepth 20000 in
theorem ggX8_tonight_X8_blow : GoodIn wsX8_tonight wsX8_blow := goodIn_r _ [58, 3, 4, 59, 60, 1, 44, 45, 46, 11, 47, 48, 49, 50, 51, 5, 6, 7, 8, 52, 53, 54, 61, 62, 63, 64, 41, 65, 66, 67, 68, 69, 70, 71, 72, 90, 91, 92, 93, 94, 95, 96, 97, 98, 99, 100, 101, 102, 103, 104, 105, 106, 107, 108, 109, 110, 111, 112, 113, 114, 115, 116, 117, 118, 119, 120, 121, 122, 123, 124, 125, 126, 127, 128, 129, 130, 131, 132, 133, 134, 135, 136] (by decide +kernel) (by decide +kernel)
set_option maxRecDepth 20000 in
theorem gX8_tonight_X8_blow : GoodIn wsX8_tonight (wsV RX8 272 RX8 yX8_blow wsX8_blow) := goodIn_app (goodIn_of _ (by decide +kernel)) ggX8_tonight_X8_blow
theorem dX8_tonight_0 : decode cX8_tonight 0 = .ok (.iload_n 1, 1) := by decide +kernel
theorem dX8_tonight_1 : decode cX8_tonight 1 = .ok (.invokestatic 294, 3) := by decide +kernel
theorem dX8_tonight_4 : decode cX8_tonight 4 = .ok (.ifCond .ne 6, 3) := by decide +kernel
theorem dX8_tonight_7 : decode cX8_tonight 7 = .ok (.bipush (-5), 2) := by decide +kernel
theorem dX8_tonight_9 : decode cX8_tonight 9 = .ok (.ireturn, 1) := by decide +kernel
theorem dX8_tonight_10 : decode cX8_tonight 10 = .ok (.iload_n 2, 1) := by decide +kernel
theorem dX8_tonight_11 : decode cX8_tonight 11 = .ok (.iconst 0, 1) := by decide +kernel
theorem dX8_tonight_12 : decode cX8_tonight 12 = .ok (.bipush 39, 2) := by decide +kernel
theorem dX8_tonight_14 : decode cX8_tonight 14 = .ok (.invokestatic 108, 3) := by decide +kernel
theorem dX8_tonight_17 : decode cX8_tonight 17 = .ok (.ifCond .eq 12, 3) := by decide +kernel
theorem dX8_tonight_20 : decode cX8_tonight 20 = .ok (.iload_n 3, 1) := by decide +kernel
theorem dX8_tonight_21 : decode cX8_tonight 21 = .ok (.iconst 0, 1) := by decide +kernel
theorem dX8_tonight_22 : decode cX8_tonight 22 = .ok (.iconst 2, 1) := by decide +kernel
theorem dX8_tonight_23 : decode cX8_tonight 23 = .ok (.invokestatic 108, 3) := by decide +kernel
theorem dX8_tonight_26 : decode cX8_tonight 26 = .ok (.ifCond .ne 6, 3) := by decide +kernel
theorem dX8_tonight_29 : decode cX8_tonight 29 = .ok (.bipush (-7), 2) := by decide +kernel
theorem dX8_tonight_31 : decode cX8_tonight 31 = .ok (.ireturn, 1) := by decide +kernel
theorem dX8_tonight_32 : decode cX8_tonight 32 = .ok (.aload_n 0, 1) := by decide +kernel
theorem dX8_tonight_33 : decode cX8_tonight 33 = .ok (.iload_n 1, 1) := by decide +kernel
theorem dX8_tonight_34 : decode cX8_tonight 34 = .ok (.invokevirtual 297, 3) := by decide +kernel
theorem dX8_tonight_37 : decode cX8_tonight 37 = .ok (.iload_n 2, 1) := by decide +kernel
theorem dX8_tonight_38 : decode cX8_tonight 38 = .ok (.bipush 10, 2) := by decide +kernel
theorem dX8_tonight_40 : decode cX8_tonight 40 = .ok (.idiv, 1) := by decide +kernel
theorem dX8_tonight_41 : decode cX8_tonight 41 = .ok (.istore 4, 2) := by decide +kernel
theorem dX8_tonight_43 : decode cX8_tonight 43 = .ok (.aload_n 0, 1) := by decide +kernel
theorem dX8_tonight_44 : decode cX8_tonight 44 = .ok (.getfield 55, 3) := by decide +kernel
theorem dX8_tonight_47 : decode cX8_tonight 47 = .ok (.iload 4, 2) := by decide +kernel
theorem dX8_tonight_49 : decode cX8_tonight 49 = .ok (.iaload, 1) := by decide +kernel
theorem dX8_tonight_50 : decode cX8_tonight 50 = .ok (.istore 5, 2) := by decide +kernel
theorem dX8_tonight_52 : decode cX8_tonight 52 = .ok (.iconst 0, 1) := by decide +kernel
theorem dX8_tonight_53 : decode cX8_tonight 53 = .ok (.istore 6, 2) := by decide +kernel
theorem dX8_tonight_55 : decode cX8_tonight 55 = .ok (.iload 6, 2) := by decide +kernel
theorem dX8_tonight_57 : decode cX8_tonight 57 = .ok (.bipush 36, 2) := by decide +kernel
theorem dX8_tonight_59 : decode cX8_tonight 59 = .ok (.if_icmp .ge 31, 3) := by decide +kernel
theorem dX8_tonight_62 : decode cX8_tonight 62 = .ok (.aload_n 0, 1) := by decide +kernel
theorem dX8_tonight_63 : decode cX8_tonight 63 = .ok (.getfield 82, 3) := by decide +kernel
theorem dX8_tonight_66 : decode cX8_tonight 66 = .ok (.iload 6, 2) := by decide +kernel
theorem dX8_tonight_68 : decode cX8_tonight 68 = .ok (.aload_n 0, 1) := by decide +kernel
theorem dX8_tonight_69 : decode cX8_tonight 69 = .ok (.getfield 43, 3) := by decide +kernel
theorem dX8_tonight_72 : decode cX8_tonight 72 = .ok (.iload 6, 2) := by decide +kernel
theorem dX8_tonight_74 : decode cX8_tonight 74 = .ok (.iaload, 1) := by decide +kernel
theorem dX8_tonight_75 : decode cX8_tonight 75 = .ok (.aload_n 0, 1) := by decide +kernel
theorem dX8_tonight_76 : decode cX8_tonight 76 = .ok (.getfield 46, 3) := by decide +kernel
theorem dX8_tonight_79 : decode cX8_tonight 79 = .ok (.iload 6, 2) := by decide +kernel
theorem dX8_tonight_81 : decode cX8_tonight 81 = .ok (.iaload, 1) := by decide +kernel
theorem dX8_tonight_82 : decode cX8_tonight 82 = .ok (.iadd, 1) := by decide +kernel
theorem dX8_tonight_83 : decode cX8_tonight 83 = .ok (.iastore, 1) := by decide +kernel
theorem dX8_tonight_84 : decode cX8_tonight 84 = .ok (.iinc 6 1, 3) := by decide +kernel
theorem dX8_tonight_87 : decode cX8_tonight 87 = .ok (.goto (-32), 3) := by decide +kernel
theorem dX8_tonight_90 : decode cX8_tonight 90 = .ok (.aload_n 0, 1) := by decide +kernel
theorem dX8_tonight_91 : decode cX8_tonight 91 = .ok (.iload 4, 2) := by decide +kernel
theorem dX8_tonight_93 : decode cX8_tonight 93 = .ok (.iload_n 2, 1) := by decide +kernel
theorem dX8_tonight_94 : decode cX8_tonight 94 = .ok (.bipush 10, 2) := by decide +kernel
theorem dX8_tonight_96 : decode cX8_tonight 96 = .ok (.irem, 1) := by decide +kernel
theorem dX8_tonight_97 : decode cX8_tonight 97 = .ok (.iconst 0, 1) := by decide +kernel
theorem dX8_tonight_98 : decode cX8_tonight 98 = .ok (.invokevirtual 272, 3) := by decide +kernel
theorem dX8_tonight_101 : decode cX8_tonight 101 = .ok (.iconst 0, 1) := by decide +kernel
theorem dX8_tonight_102 : decode cX8_tonight 102 = .ok (.istore 6, 2) := by decide +kernel
theorem dX8_tonight_104 : decode cX8_tonight 104 = .ok (.iconst 0, 1) := by decide +kernel
theorem dX8_tonight_105 : decode cX8_tonight 105 = .ok (.istore 7, 2) := by decide +kernel
theorem dX8_tonight_107 : decode cX8_tonight 107 = .ok (.iconst 0, 1) := by decide +kernel
theorem dX8_tonight_108 : decode cX8_tonight 108 = .ok (.istore 8, 2) := by decide +kernel
theorem dX8_tonight_110 : decode cX8_tonight 110 = .ok (.iload 8, 2) := by decide +kernel
theorem dX8_tonight_112 : decode cX8_tonight 112 = .ok (.bipush 36, 2) := by decide +kernel
theorem dX8_tonight_114 : decode cX8_tonight 114 = .ok (.if_icmp .ge 60, 3) := by decide +kernel
theorem dX8_tonight_117 : decode cX8_tonight 117 = .ok (.aload_n 0, 1) := by decide +kernel
theorem dX8_tonight_118 : decode cX8_tonight 118 = .ok (.getfield 43, 3) := by decide +kernel
theorem dX8_tonight_121 : decode cX8_tonight 121 = .ok (.iload 8, 2) := by decide +kernel
theorem dX8_tonight_123 : decode cX8_tonight 123 = .ok (.iaload, 1) := by decide +kernel
theorem dX8_tonight_124 : decode cX8_tonight 124 = .ok (.aload_n 0, 1) := by decide +kernel
theorem dX8_tonight_125 : decode cX8_tonight 125 = .ok (.getfield 46, 3) := by decide +kernel
theorem dX8_tonight_128 : decode cX8_tonight 128 = .ok (.iload 8, 2) := by decide +kernel
theorem dX8_tonight_130 : decode cX8_tonight 130 = .ok (.iaload, 1) := by decide +kernel
theorem dX8_tonight_131 : decode cX8_tonight 131 = .ok (.iadd, 1) := by decide +kernel
theorem dX8_tonight_132 : decode cX8_tonight 132 = .ok (.istore 9, 2) := by decide +kernel
theorem dX8_tonight_134 : decode cX8_tonight 134 = .ok (.aload_n 0, 1) := by decide +kernel
theorem dX8_tonight_135 : decode cX8_tonight 135 = .ok (.getfield 82, 3) := by decide +kernel
theorem dX8_tonight_138 : decode cX8_tonight 138 = .ok (.iload 8, 2) := by decide +kernel
theorem dX8_tonight_140 : decode cX8_tonight 140 = .ok (.iaload, 1) := by decide +kernel
theorem dX8_tonight_141 : decode cX8_tonight 141 = .ok (.ifCond .ne 10, 3) := by decide +kernel
theorem dX8_tonight_144 : decode cX8_tonight 144 = .ok (.iload 6, 2) := by decide +kernel
theorem dX8_tonight_146 : decode cX8_tonight 146 = .ok (.iload 9, 2) := by decide +kernel
theorem dX8_tonight_148 : decode cX8_tonight 148 = .ok (.iadd, 1) := by decide +kernel
theorem dX8_tonight_149 : decode cX8_tonight 149 = .ok (.istore 6, 2) := by decide +kernel
theorem dX8_tonight_151 : decode cX8_tonight 151 = .ok (.iload 7, 2) := by decide +kernel
theorem dX8_tonight_153 : decode cX8_tonight 153 = .ok (.iload 9, 2) := by decide +kernel
theorem dX8_tonight_155 : decode cX8_tonight 155 = .ok (.aload_n 0, 1) := by decide +kernel
theorem dX8_tonight_156 : decode cX8_tonight 156 = .ok (.getfield 82, 3) := by decide +kernel
theorem dX8_tonight_159 : decode cX8_tonight 159 = .ok (.iload 8, 2) := by decide +kernel
theorem dX8_tonight_161 : decode cX8_tonight 161 = .ok (.iaload, 1) := by decide +kernel
theorem dX8_tonight_162 : decode cX8_tonight 162 = .ok (.invokestatic 210, 3) := by decide +kernel
theorem dX8_tonight_165 : decode cX8_tonight 165 = .ok (.iadd, 1) := by decide +kernel
theorem dX8_tonight_166 : decode cX8_tonight 166 = .ok (.istore 7, 2) := by decide +kernel
theorem dX8_tonight_168 : decode cX8_tonight 168 = .ok (.iinc 8 1, 3) := by decide +kernel
theorem dX8_tonight_171 : decode cX8_tonight 171 = .ok (.goto (-61), 3) := by decide +kernel
theorem dX8_tonight_174 : decode cX8_tonight 174 = .ok (.iload_n 3, 1) := by decide +kernel
theorem dX8_tonight_175 : decode cX8_tonight 175 = .ok (.ifCond .ne 8, 3) := by decide +kernel
theorem dX8_tonight_178 : decode cX8_tonight 178 = .ok (.iload 6, 2) := by decide +kernel
theorem dX8_tonight_180 : decode cX8_tonight 180 = .ok (.goto 23, 3) := by decide +kernel
theorem dX8_tonight_183 : decode cX8_tonight 183 = .ok (.iload_n 3, 1) := by decide +kernel
theorem dX8_tonight_184 : decode cX8_tonight 184 = .ok (.iconst 1, 1) := by decide +kernel
theorem dX8_tonight_185 : decode cX8_tonight 185 = .ok (.if_icmp .ne 16, 3) := by decide +kernel
theorem dX8_tonight_188 : decode cX8_tonight 188 = .ok (.aload_n 0, 1) := by decide +kernel
theorem dX8_tonight_189 : decode cX8_tonight 189 = .ok (.getfield 55, 3) := by decide +kernel
theorem dX8_tonight_192 : decode cX8_tonight 192 = .ok (.iload 4, 2) := by decide +kernel
theorem dX8_tonight_194 : decode cX8_tonight 194 = .ok (.iaload, 1) := by decide +kernel
theorem dX8_tonight_195 : decode cX8_tonight 195 = .ok (.iload 5, 2) := by decide +kernel
theorem dX8_tonight_197 : decode cX8_tonight 197 = .ok (.isub, 1) := by decide +kernel
theorem dX8_tonight_198 : decode cX8_tonight 198 = .ok (.goto 5, 3) := by decide +kernel
theorem dX8_tonight_201 : decode cX8_tonight 201 = .ok (.iload 7, 2) := by decide +kernel
theorem dX8_tonight_203 : decode cX8_tonight 203 = .ok (.ireturn, 1) := by decide +kernel
set_option maxRecDepth 20000 in
theorem ggX8_hurdle_X8_isDays : GoodIn wsX8_hurdle wsX8_isDays := goodIn_r _ [8, 9, 10, 7, 11] (by decide +kernel) (by decide +kernel)
set_option maxRecDepth 20000 in
theorem gX8_hurdle_X8_isDays : GoodIn wsX8_hurdle (va_wsS RX8 294 yX8_isDays wsX8_isDays) := goodIn_app (goodIn_of _ (by decide +kernel)) ggX8_hurdle_X8_isDays
set_option maxRecDepth 20000 in
theorem ggX8_hurdle_X8_within : GoodIn wsX8_hurdle wsX8_within := goodIn_r _ [11] (by decide +kernel) (by decide +kernel)
set_option maxRecDepth 20000 in
theorem gX8_hurdle_X8_within : GoodIn wsX8_hurdle (va_wsS RX8 108 yX8_within wsX8_within) := goodIn_app (goodIn_of _ (by decide +kernel)) ggX8_hurdle_X8_within
set_option maxRecDepth 20000 in
theorem ggX8_hurdle_X8_go : GoodIn wsX8_hurdle wsX8_go := goodIn_r _ [15, 16, 17, 18, 7, 19, 3, 20, 4, 21, 22, 23, 24, 25, 26, 27, 28, 29, 30, 31, 32, 33, 34, 35, 36, 37, 38, 39, 40, 41, 1, 42, 43, 44, 45, 46, 47, 48, 49, 50, 51, 52, 53, 54, 55, 56, 57, 58, 59, 60, 61, 62, 63, 64, 2, 65, 66, 67, 68, 69, 70, 71, 72, 73, 74, 75, 76, 77, 78, 79, 80, 81, 82, 83, 84, 85, 86, 87, 88, 89, 90, 91, 92, 93, 94, 95, 96, 97, 98, 99, 100, 101, 102, 103, 104, 105, 106, 107, 108, 109, 110, 111, 112, 113, 114, 115, 116, 117, 118, 119, 120, 121, 122, 123, 124, 125, 126, 127, 128, 129, 130, 131, 132, 133, 134, 135] (by decide +kernel) (by decide +kernel)
set_option maxRecDepth 20000 in
theorem gX8_hurdle_X8_go : GoodIn wsX8_hurdle (wsV RX8 297 RX8 yX8_go wsX8_go) := goodIn_app (goodIn_of _ (by decide +kernel)) ggX8_hurdle_X8_go
theorem dX8_hurdle_0 : decode cX8_hurdle 0 = .ok (.iload_n 1, 1) := by decide +kernel
theorem dX8_hurdle_1 : decode cX8_hurdle 1 = .ok (.invokestatic 294, 3) := by decide +kernel
theorem dX8_hurdle_4 : decode cX8_hurdle 4 = .ok (.ifCond .ne 6, 3) := by decide +kernel
theorem dX8_hurdle_7 : decode cX8_hurdle 7 = .ok (.bipush (-5), 2) := by decide +kernel
theorem dX8_hurdle_9 : decode cX8_hurdle 9 = .ok (.ireturn, 1) := by decide +kernel
theorem dX8_hurdle_10 : decode cX8_hurdle 10 = .ok (.iload_n 2, 1) := by decide +kernel
theorem dX8_hurdle_11 : decode cX8_hurdle 11 = .ok (.iconst 0, 1) := by decide +kernel
theorem dX8_hurdle_12 : decode cX8_hurdle 12 = .ok (.bipush 99, 2) := by decide +kernel
theorem dX8_hurdle_14 : decode cX8_hurdle 14 = .ok (.invokestatic 108, 3) := by decide +kernel
theorem dX8_hurdle_17 : decode cX8_hurdle 17 = .ok (.ifCond .eq 12, 3) := by decide +kernel
theorem dX8_hurdle_20 : decode cX8_hurdle 20 = .ok (.iload_n 3, 1) := by decide +kernel
theorem dX8_hurdle_21 : decode cX8_hurdle 21 = .ok (.iconst 0, 1) := by decide +kernel
theorem dX8_hurdle_22 : decode cX8_hurdle 22 = .ok (.iconst 1, 1) := by decide +kernel
theorem dX8_hurdle_23 : decode cX8_hurdle 23 = .ok (.invokestatic 108, 3) := by decide +kernel
theorem dX8_hurdle_26 : decode cX8_hurdle 26 = .ok (.ifCond .ne 6, 3) := by decide +kernel
theorem dX8_hurdle_29 : decode cX8_hurdle 29 = .ok (.bipush (-7), 2) := by decide +kernel
theorem dX8_hurdle_31 : decode cX8_hurdle 31 = .ok (.ireturn, 1) := by decide +kernel
theorem dX8_hurdle_32 : decode cX8_hurdle 32 = .ok (.iconst (-1), 1) := by decide +kernel
theorem dX8_hurdle_33 : decode cX8_hurdle 33 = .ok (.istore 4, 2) := by decide +kernel
theorem dX8_hurdle_35 : decode cX8_hurdle 35 = .ok (.iconst (-1), 1) := by decide +kernel
theorem dX8_hurdle_36 : decode cX8_hurdle 36 = .ok (.istore 5, 2) := by decide +kernel
theorem dX8_hurdle_38 : decode cX8_hurdle 38 = .ok (.iconst 0, 1) := by decide +kernel
theorem dX8_hurdle_39 : decode cX8_hurdle 39 = .ok (.istore 6, 2) := by decide +kernel
theorem dX8_hurdle_41 : decode cX8_hurdle 41 = .ok (.iload 6, 2) := by decide +kernel
theorem dX8_hurdle_43 : decode cX8_hurdle 43 = .ok (.bipush 36, 2) := by decide +kernel
theorem dX8_hurdle_45 : decode cX8_hurdle 45 = .ok (.if_icmp .ge 110, 3) := by decide +kernel
theorem dX8_hurdle_48 : decode cX8_hurdle 48 = .ok (.aload_n 0, 1) := by decide +kernel
theorem dX8_hurdle_49 : decode cX8_hurdle 49 = .ok (.getfield 13, 3) := by decide +kernel
theorem dX8_hurdle_52 : decode cX8_hurdle 52 = .ok (.iload 6, 2) := by decide +kernel
theorem dX8_hurdle_54 : decode cX8_hurdle 54 = .ok (.iaload, 1) := by decide +kernel
theorem dX8_hurdle_55 : decode cX8_hurdle 55 = .ok (.istore 7, 2) := by decide +kernel
theorem dX8_hurdle_57 : decode cX8_hurdle 57 = .ok (.aload_n 0, 1) := by decide +kernel
theorem dX8_hurdle_58 : decode cX8_hurdle 58 = .ok (.getfield 16, 3) := by decide +kernel
theorem dX8_hurdle_61 : decode cX8_hurdle 61 = .ok (.iload 6, 2) := by decide +kernel
theorem dX8_hurdle_63 : decode cX8_hurdle 63 = .ok (.iaload, 1) := by decide +kernel
theorem dX8_hurdle_64 : decode cX8_hurdle 64 = .ok (.istore 8, 2) := by decide +kernel
theorem dX8_hurdle_66 : decode cX8_hurdle 66 = .ok (.aload_n 0, 1) := by decide +kernel
theorem dX8_hurdle_67 : decode cX8_hurdle 67 = .ok (.getfield 13, 3) := by decide +kernel
theorem dX8_hurdle_70 : decode cX8_hurdle 70 = .ok (.iload 6, 2) := by decide +kernel
theorem dX8_hurdle_72 : decode cX8_hurdle 72 = .ok (.iconst 3, 1) := by decide +kernel
theorem dX8_hurdle_73 : decode cX8_hurdle 73 = .ok (.iastore, 1) := by decide +kernel
theorem dX8_hurdle_74 : decode cX8_hurdle 74 = .ok (.aload_n 0, 1) := by decide +kernel
theorem dX8_hurdle_75 : decode cX8_hurdle 75 = .ok (.getfield 16, 3) := by decide +kernel
theorem dX8_hurdle_78 : decode cX8_hurdle 78 = .ok (.iload 6, 2) := by decide +kernel
theorem dX8_hurdle_80 : decode cX8_hurdle 80 = .ok (.iload_n 2, 1) := by decide +kernel
theorem dX8_hurdle_81 : decode cX8_hurdle 81 = .ok (.iastore, 1) := by decide +kernel
theorem dX8_hurdle_82 : decode cX8_hurdle 82 = .ok (.aload_n 0, 1) := by decide +kernel
theorem dX8_hurdle_83 : decode cX8_hurdle 83 = .ok (.iload_n 1, 1) := by decide +kernel
theorem dX8_hurdle_84 : decode cX8_hurdle 84 = .ok (.invokevirtual 297, 3) := by decide +kernel
theorem dX8_hurdle_87 : decode cX8_hurdle 87 = .ok (.aload_n 0, 1) := by decide +kernel
theorem dX8_hurdle_88 : decode cX8_hurdle 88 = .ok (.getfield 13, 3) := by decide +kernel
theorem dX8_hurdle_91 : decode cX8_hurdle 91 = .ok (.iload 6, 2) := by decide +kernel
theorem dX8_hurdle_93 : decode cX8_hurdle 93 = .ok (.iload 7, 2) := by decide +kernel
theorem dX8_hurdle_95 : decode cX8_hurdle 95 = .ok (.iastore, 1) := by decide +kernel
theorem dX8_hurdle_96 : decode cX8_hurdle 96 = .ok (.aload_n 0, 1) := by decide +kernel
theorem dX8_hurdle_97 : decode cX8_hurdle 97 = .ok (.getfield 16, 3) := by decide +kernel
theorem dX8_hurdle_100 : decode cX8_hurdle 100 = .ok (.iload 6, 2) := by decide +kernel
theorem dX8_hurdle_102 : decode cX8_hurdle 102 = .ok (.iload 8, 2) := by decide +kernel
theorem dX8_hurdle_104 : decode cX8_hurdle 104 = .ok (.iastore, 1) := by decide +kernel
theorem dX8_hurdle_105 : decode cX8_hurdle 105 = .ok (.aload_n 0, 1) := by decide +kernel
theorem dX8_hurdle_106 : decode cX8_hurdle 106 = .ok (.getfield 43, 3) := by decide +kernel
theorem dX8_hurdle_109 : decode cX8_hurdle 109 = .ok (.iload 6, 2) := by decide +kernel
theorem dX8_hurdle_111 : decode cX8_hurdle 111 = .ok (.iaload, 1) := by decide +kernel
theorem dX8_hurdle_112 : decode cX8_hurdle 112 = .ok (.aload_n 0, 1) := by decide +kernel
theorem dX8_hurdle_113 : decode cX8_hurdle 113 = .ok (.getfield 46, 3) := by decide +kernel
theorem dX8_hurdle_116 : decode cX8_hurdle 116 = .ok (.iload 6, 2) := by decide +kernel
theorem dX8_hurdle_118 : decode cX8_hurdle 118 = .ok (.iaload, 1) := by decide +kernel
theorem dX8_hurdle_119 : decode cX8_hurdle 119 = .ok (.iadd, 1) := by decide +kernel
theorem dX8_hurdle_120 : decode cX8_hurdle 120 = .ok (.iload 5, 2) := by decide +kernel
theorem dX8_hurdle_122 : decode cX8_hurdle 122 = .ok (.if_icmp .gt 6, 3) := by decide +kernel
theorem dX8_hurdle_125 : decode cX8_hurdle 125 = .ok (.goto 24, 3) := by decide +kernel
theorem dX8_hurdle_128 : decode cX8_hurdle 128 = .ok (.aload_n 0, 1) := by decide +kernel
theorem dX8_hurdle_129 : decode cX8_hurdle 129 = .ok (.getfield 43, 3) := by decide +kernel
theorem dX8_hurdle_132 : decode cX8_hurdle 132 = .ok (.iload 6, 2) := by decide +kernel
theorem dX8_hurdle_134 : decode cX8_hurdle 134 = .ok (.iaload, 1) := by decide +kernel
theorem dX8_hurdle_135 : decode cX8_hurdle 135 = .ok (.aload_n 0, 1) := by decide +kernel
theorem dX8_hurdle_136 : decode cX8_hurdle 136 = .ok (.getfield 46, 3) := by decide +kernel
theorem dX8_hurdle_139 : decode cX8_hurdle 139 = .ok (.iload 6, 2) := by decide +kernel
theorem dX8_hurdle_141 : decode cX8_hurdle 141 = .ok (.iaload, 1) := by decide +kernel
theorem dX8_hurdle_142 : decode cX8_hurdle 142 = .ok (.iadd, 1) := by decide +kernel
theorem dX8_hurdle_143 : decode cX8_hurdle 143 = .ok (.istore 5, 2) := by decide +kernel
theorem dX8_hurdle_145 : decode cX8_hurdle 145 = .ok (.iload 6, 2) := by decide +kernel
theorem dX8_hurdle_147 : decode cX8_hurdle 147 = .ok (.istore 4, 2) := by decide +kernel
theorem dX8_hurdle_149 : decode cX8_hurdle 149 = .ok (.iinc 6 1, 3) := by decide +kernel
theorem dX8_hurdle_152 : decode cX8_hurdle 152 = .ok (.goto (-111), 3) := by decide +kernel
theorem dX8_hurdle_155 : decode cX8_hurdle 155 = .ok (.iload_n 3, 1) := by decide +kernel
theorem dX8_hurdle_156 : decode cX8_hurdle 156 = .ok (.ifCond .ne 8, 3) := by decide +kernel
theorem dX8_hurdle_159 : decode cX8_hurdle 159 = .ok (.iload 4, 2) := by decide +kernel
theorem dX8_hurdle_161 : decode cX8_hurdle 161 = .ok (.goto 5, 3) := by decide +kernel
theorem dX8_hurdle_164 : decode cX8_hurdle 164 = .ok (.iload 5, 2) := by decide +kernel
theorem dX8_hurdle_166 : decode cX8_hurdle 166 = .ok (.ireturn, 1) := by decide +kernel
theorem dX8_lowest_0 : decode cX8_lowest 0 = .ok (.lload_n 0, 1) := by decide +kernel
theorem dX8_lowest_1 : decode cX8_lowest 1 = .ok (.lstore 5, 2) := by decide +kernel
theorem dX8_lowest_3 : decode cX8_lowest 3 = .ok (.lload_n 2, 1) := by decide +kernel
theorem dX8_lowest_4 : decode cX8_lowest 4 = .ok (.lstore 7, 2) := by decide +kernel
theorem dX8_lowest_6 : decode cX8_lowest 6 = .ok (.lload 7, 2) := by decide +kernel
theorem dX8_lowest_8 : decode cX8_lowest 8 = .ok (.lconst 0, 1) := by decide +kernel
theorem dX8_lowest_9 : decode cX8_lowest 9 = .ok (.lcmp, 1) := by decide +kernel
theorem dX8_lowest_10 : decode cX8_lowest 10 = .ok (.ifCond .eq 21, 3) := by decide +kernel
theorem dX8_lowest_13 : decode cX8_lowest 13 = .ok (.lload 5, 2) := by decide +kernel
theorem dX8_lowest_15 : decode cX8_lowest 15 = .ok (.lload 7, 2) := by decide +kernel
theorem dX8_lowest_17 : decode cX8_lowest 17 = .ok (.lrem, 1) := by decide +kernel
theorem dX8_lowest_18 : decode cX8_lowest 18 = .ok (.lstore 9, 2) := by decide +kernel
theorem dX8_lowest_20 : decode cX8_lowest 20 = .ok (.lload 7, 2) := by decide +kernel
theorem dX8_lowest_22 : decode cX8_lowest 22 = .ok (.lstore 5, 2) := by decide +kernel
theorem dX8_lowest_24 : decode cX8_lowest 24 = .ok (.lload 9, 2) := by decide +kernel
theorem dX8_lowest_26 : decode cX8_lowest 26 = .ok (.lstore 7, 2) := by decide +kernel
theorem dX8_lowest_28 : decode cX8_lowest 28 = .ok (.goto (-22), 3) := by decide +kernel
theorem dX8_lowest_31 : decode cX8_lowest 31 = .ok (.iload 4, 2) := by decide +kernel
theorem dX8_lowest_33 : decode cX8_lowest 33 = .ok (.ifCond .ne 10, 3) := by decide +kernel
theorem dX8_lowest_36 : decode cX8_lowest 36 = .ok (.lload_n 0, 1) := by decide +kernel
theorem dX8_lowest_37 : decode cX8_lowest 37 = .ok (.lload 5, 2) := by decide +kernel
theorem dX8_lowest_39 : decode cX8_lowest 39 = .ok (.ldiv, 1) := by decide +kernel
theorem dX8_lowest_40 : decode cX8_lowest 40 = .ok (.goto 7, 3) := by decide +kernel
theorem dX8_lowest_43 : decode cX8_lowest 43 = .ok (.lload_n 2, 1) := by decide +kernel
theorem dX8_lowest_44 : decode cX8_lowest 44 = .ok (.lload 5, 2) := by decide +kernel
theorem dX8_lowest_46 : decode cX8_lowest 46 = .ok (.ldiv, 1) := by decide +kernel
theorem dX8_lowest_47 : decode cX8_lowest 47 = .ok (.lreturn, 1) := by decide +kernel
set_option maxRecDepth 20000 in
theorem ggX8_share_X8_isDays : GoodIn wsX8_share wsX8_isDays := goodIn_r _ [8, 9, 10, 7, 11] (by decide +kernel) (by decide +kernel)
set_option maxRecDepth 20000 in
theorem gX8_share_X8_isDays : GoodIn wsX8_share (va_wsS RX8 294 yX8_isDays wsX8_isDays) := goodIn_app (goodIn_of _ (by decide +kernel)) ggX8_share_X8_isDays
set_option maxRecDepth 20000 in
theorem ggX8_share_X8_within : GoodIn wsX8_share wsX8_within := goodIn_r _ [11] (by decide +kernel) (by decide +kernel)
set_option maxRecDepth 20000 in
theorem gX8_share_X8_within : GoodIn wsX8_share (va_wsS RX8 108 yX8_within wsX8_within) := goodIn_app (goodIn_of _ (by decide +kernel)) ggX8_share_X8_within
set_option maxRecDepth 20000 in
theorem ggX8_share_X8_go : GoodIn wsX8_share wsX8_go := goodIn_r _ [15, 16, 17, 18, 7, 19, 20, 3, 21, 22, 23, 24, 25, 4, 2, 26, 27, 28, 29, 30, 31, 32, 33, 34, 35, 36, 37, 38, 39, 40, 41, 42, 43, 44, 45, 46, 47, 48, 49, 50, 51, 52, 53, 54, 55, 56, 57, 58, 59, 60, 61, 62, 63, 64, 65, 66, 67, 68, 69, 70, 71, 72, 73, 74, 75, 76, 77, 78, 79, 80, 81, 82, 83, 84, 85, 86, 87, 88, 89, 93, 94, 95, 96, 97, 98, 99, 100, 101, 102, 103, 104, 105, 106, 107, 108, 109, 110, 111, 112, 113, 114, 115, 116, 117, 118, 119, 120, 121, 122, 123, 124, 125, 126, 127, 128, 129, 130, 131, 132, 133, 134, 135, 136, 137, 138, 139] (by decide +kernel) (by decide +kernel)
set_option maxRecDepth 20000 in
theorem gX8_share_X8_go : GoodIn wsX8_share (wsV RX8 297 RX8 yX8_go wsX8_go) := goodIn_app (goodIn_of _ (by decide +kernel)) ggX8_share_X8_go
set_option maxRecDepth 20000 in
theorem ggX8_share_X8_lowest : GoodIn wsX8_share wsX8_lowest := goodIn_r _ [92] (by decide +kernel) (by decide +kernel)
set_option maxRecDepth 20000 in
theorem gX8_share_X8_lowest : GoodIn wsX8_share (va_wsS RX8 309 yX8_lowest wsX8_lowest) := goodIn_app (goodIn_of _ (by decide +kernel)) ggX8_share_X8_lowest
theorem dX8_share_0 : decode cX8_share 0 = .ok (.iload_n 1, 1) := by decide +kernel
theorem dX8_share_1 : decode cX8_share 1 = .ok (.invokestatic 294, 3) := by decide +kernel
theorem dX8_share_4 : decode cX8_share 4 = .ok (.ifCond .eq 21, 3) := by decide +kernel
theorem dX8_share_7 : decode cX8_share 7 = .ok (.iload_n 2, 1) := by decide +kernel
theorem dX8_share_8 : decode cX8_share 8 = .ok (.iconst 0, 1) := by decide +kernel
theorem dX8_share_9 : decode cX8_share 9 = .ok (.iconst 3, 1) := by decide +kernel
theorem dX8_share_10 : decode cX8_share 10 = .ok (.invokestatic 108, 3) := by decide +kernel
theorem dX8_share_13 : decode cX8_share 13 = .ok (.ifCond .eq 12, 3) := by decide +kernel
theorem dX8_share_16 : decode cX8_share 16 = .ok (.iload_n 3, 1) := by decide +kernel
theorem dX8_share_17 : decode cX8_share 17 = .ok (.iconst 0, 1) := by decide +kernel
theorem dX8_share_18 : decode cX8_share 18 = .ok (.iconst 1, 1) := by decide +kernel
theorem dX8_share_19 : decode cX8_share 19 = .ok (.invokestatic 108, 3) := by decide +kernel
theorem dX8_share_22 : decode cX8_share 22 = .ok (.ifCond .ne 7, 3) := by decide +kernel
theorem dX8_share_25 : decode cX8_share 25 = .ok (.ldc2_w 242, 3) := by decide +kernel
theorem dX8_share_28 : decode cX8_share 28 = .ok (.lreturn, 1) := by decide +kernel
theorem dX8_share_29 : decode cX8_share 29 = .ok (.aload_n 0, 1) := by decide +kernel
theorem dX8_share_30 : decode cX8_share 30 = .ok (.iload_n 1, 1) := by decide +kernel
theorem dX8_share_31 : decode cX8_share 31 = .ok (.invokevirtual 297, 3) := by decide +kernel
theorem dX8_share_34 : decode cX8_share 34 = .ok (.aload_n 0, 1) := by decide +kernel
theorem dX8_share_35 : decode cX8_share 35 = .ok (.getfield 269, 3) := by decide +kernel
theorem dX8_share_38 : decode cX8_share 38 = .ok (.istore 4, 2) := by decide +kernel
theorem dX8_share_40 : decode cX8_share 40 = .ok (.iconst 0, 1) := by decide +kernel
theorem dX8_share_41 : decode cX8_share 41 = .ok (.istore 5, 2) := by decide +kernel
theorem dX8_share_43 : decode cX8_share 43 = .ok (.iload 5, 2) := by decide +kernel
theorem dX8_share_45 : decode cX8_share 45 = .ok (.bipush 36, 2) := by decide +kernel
theorem dX8_share_47 : decode cX8_share 47 = .ok (.if_icmp .ge 21, 3) := by decide +kernel
theorem dX8_share_50 : decode cX8_share 50 = .ok (.iload 4, 2) := by decide +kernel
theorem dX8_share_52 : decode cX8_share 52 = .ok (.aload_n 0, 1) := by decide +kernel
theorem dX8_share_53 : decode cX8_share 53 = .ok (.getfield 19, 3) := by decide +kernel
theorem dX8_share_56 : decode cX8_share 56 = .ok (.iload 5, 2) := by decide +kernel
theorem dX8_share_58 : decode cX8_share 58 = .ok (.iaload, 1) := by decide +kernel
theorem dX8_share_59 : decode cX8_share 59 = .ok (.iadd, 1) := by decide +kernel
theorem dX8_share_60 : decode cX8_share 60 = .ok (.istore 4, 2) := by decide +kernel
theorem dX8_share_62 : decode cX8_share 62 = .ok (.iinc 5 1, 3) := by decide +kernel
theorem dX8_share_65 : decode cX8_share 65 = .ok (.goto (-22), 3) := by decide +kernel
theorem dX8_share_68 : decode cX8_share 68 = .ok (.iload 4, 2) := by decide +kernel
theorem dX8_share_70 : decode cX8_share 70 = .ok (.ifCond .ne 9, 3) := by decide +kernel
theorem dX8_share_73 : decode cX8_share 73 = .ok (.ldc2_w 242, 3) := by decide +kernel
theorem dX8_share_76 : decode cX8_share 76 = .ok (.goto 17, 3) := by decide +kernel
theorem dX8_share_79 : decode cX8_share 79 = .ok (.aload_n 0, 1) := by decide +kernel
theorem dX8_share_80 : decode cX8_share 80 = .ok (.getfield 55, 3) := by decide +kernel
theorem dX8_share_83 : decode cX8_share 83 = .ok (.iload_n 2, 1) := by decide +kernel
theorem dX8_share_84 : decode cX8_share 84 = .ok (.iaload, 1) := by decide +kernel
theorem dX8_share_85 : decode cX8_share 85 = .ok (.i2l, 1) := by decide +kernel
theorem dX8_share_86 : decode cX8_share 86 = .ok (.iload 4, 2) := by decide +kernel
theorem dX8_share_88 : decode cX8_share 88 = .ok (.i2l, 1) := by decide +kernel
theorem dX8_share_89 : decode cX8_share 89 = .ok (.iload_n 3, 1) := by decide +kernel
theorem dX8_share_90 : decode cX8_share 90 = .ok (.invokestatic 309, 3) := by decide +kernel
theorem dX8_share_93 : decode cX8_share 93 = .ok (.lreturn, 1) := by decide +kernel
theorem dX8_keepSky_0 : decode cX8_keepSky 0 = .ok (.iconst 0, 1) := by decide +kernel
theorem dX8_keepSky_1 : decode cX8_keepSky 1 = .ok (.istore_n 1, 1) := by decide +kernel
theorem dX8_keepSky_2 : decode cX8_keepSky 2 = .ok (.iload_n 1, 1) := by decide +kernel
theorem dX8_keepSky_3 : decode cX8_keepSky 3 = .ok (.bipush 56, 2) := by decide +kernel
theorem dX8_keepSky_5 : decode cX8_keepSky 5 = .ok (.if_icmp .ge 21, 3) := by decide +kernel
theorem dX8_keepSky_8 : decode cX8_keepSky 8 = .ok (.aload_n 0, 1) := by decide +kernel
theorem dX8_keepSky_9 : decode cX8_keepSky 9 = .ok (.getfield 64, 3) := by decide +kernel
theorem dX8_keepSky_12 : decode cX8_keepSky 12 = .ok (.iload_n 1, 1) := by decide +kernel
theorem dX8_keepSky_13 : decode cX8_keepSky 13 = .ok (.aload_n 0, 1) := by decide +kernel
theorem dX8_keepSky_14 : decode cX8_keepSky 14 = .ok (.getfield 7, 3) := by decide +kernel
theorem dX8_keepSky_17 : decode cX8_keepSky 17 = .ok (.iload_n 1, 1) := by decide +kernel
theorem dX8_keepSky_18 : decode cX8_keepSky 18 = .ok (.iaload, 1) := by decide +kernel
theorem dX8_keepSky_19 : decode cX8_keepSky 19 = .ok (.iastore, 1) := by decide +kernel
theorem dX8_keepSky_20 : decode cX8_keepSky 20 = .ok (.iinc 1 1, 3) := by decide +kernel
theorem dX8_keepSky_23 : decode cX8_keepSky 23 = .ok (.goto (-21), 3) := by decide +kernel
theorem dX8_keepSky_26 : decode cX8_keepSky 26 = .ok (.return_, 1) := by decide +kernel
theorem dX8_skyAgain_0 : decode cX8_skyAgain 0 = .ok (.iconst 0, 1) := by decide +kernel
theorem dX8_skyAgain_1 : decode cX8_skyAgain 1 = .ok (.istore_n 1, 1) := by decide +kernel
theorem dX8_skyAgain_2 : decode cX8_skyAgain 2 = .ok (.iload_n 1, 1) := by decide +kernel
theorem dX8_skyAgain_3 : decode cX8_skyAgain 3 = .ok (.bipush 56, 2) := by decide +kernel
theorem dX8_skyAgain_5 : decode cX8_skyAgain 5 = .ok (.if_icmp .ge 21, 3) := by decide +kernel
theorem dX8_skyAgain_8 : decode cX8_skyAgain 8 = .ok (.aload_n 0, 1) := by decide +kernel
theorem dX8_skyAgain_9 : decode cX8_skyAgain 9 = .ok (.getfield 7, 3) := by decide +kernel
theorem dX8_skyAgain_12 : decode cX8_skyAgain 12 = .ok (.iload_n 1, 1) := by decide +kernel
theorem dX8_skyAgain_13 : decode cX8_skyAgain 13 = .ok (.aload_n 0, 1) := by decide +kernel
theorem dX8_skyAgain_14 : decode cX8_skyAgain 14 = .ok (.getfield 64, 3) := by decide +kernel
theorem dX8_skyAgain_17 : decode cX8_skyAgain 17 = .ok (.iload_n 1, 1) := by decide +kernel
theorem dX8_skyAgain_18 : decode cX8_skyAgain 18 = .ok (.iaload, 1) := by decide +kernel
theorem dX8_skyAgain_19 : decode cX8_skyAgain 19 = .ok (.iastore, 1) := by decide +kernel
theorem dX8_skyAgain_20 : decode cX8_skyAgain 20 = .ok (.iinc 1 1, 3) := by decide +kernel
theorem dX8_skyAgain_23 : decode cX8_skyAgain 23 = .ok (.goto (-21), 3) := by decide +kernel
theorem dX8_skyAgain_26 : decode cX8_skyAgain 26 = .ok (.return_, 1) := by decide +kernel
set_option maxRecDepth 20000 in
theorem ggX8_away_X8_within : GoodIn wsX8_away wsX8_within := goodIn_r _ [6] (by decide +kernel) (by decide +kernel)
set_option maxRecDepth 20000 in
theorem gX8_away_X8_within : GoodIn wsX8_away (va_wsS RX8 108 yX8_within wsX8_within) := goodIn_app (goodIn_of _ (by decide +kernel)) ggX8_away_X8_within
set_option maxRecDepth 20000 in
theorem ggX8_away_X8_keepSky : GoodIn wsX8_away wsX8_keepSky := goodIn_r _ [10, 11, 1, 95, 96, 97, 98, 99, 100, 101, 102, 103, 104, 105, 106, 107, 108, 109, 110, 111, 112, 113, 114, 115, 116, 117, 118, 119, 120, 121, 122, 123, 124, 125, 126, 127, 128, 129, 130, 131, 132, 133, 134, 135, 136, 137, 138, 139, 140, 141] (by decide +kernel) (by decide +kernel)
set_option maxRecDepth 20000 in
theorem gX8_away_X8_keepSky : GoodIn wsX8_away (wsV RX8 313 RX8 yX8_keepSky wsX8_keepSky) := goodIn_app (goodIn_of _ (by decide +kernel)) ggX8_away_X8_keepSky
set_option maxRecDepth 20000 in
theorem ggX8_away_X8_go : GoodIn wsX8_away wsX8_go := goodIn_r _ [15, 16, 17, 18, 5, 19, 20, 21, 22, 23, 24, 25, 26, 2, 27, 28, 29, 30, 31, 32, 33, 34, 1, 35, 36, 37, 38, 39, 40, 41, 42, 43, 44, 45, 46, 47, 48, 49, 50, 51, 52, 53, 54, 55, 56, 57, 58, 59, 60, 61, 62, 63, 64, 65, 66, 67, 68, 69, 70, 71, 72, 73, 74, 75, 76, 77, 78, 79, 80, 81, 82, 83, 84, 85, 86, 87, 88, 89, 90, 95, 96, 97, 98, 99, 100, 101, 102, 103, 104, 105, 106, 107, 108, 109, 110, 111, 112, 113, 114, 115, 116, 117, 118, 119, 120, 121, 122, 123, 124, 125, 126, 127, 128, 129, 130, 131, 132, 133, 134, 135, 136, 137, 138, 139, 140, 141] (by decide +kernel) (by decide +kernel)
set_option maxRecDepth 20000 in
theorem gX8_away_X8_go : GoodIn wsX8_away (wsV RX8 297 RX8 yX8_go wsX8_go) := goodIn_app (goodIn_of _ (by decide +kernel)) ggX8_away_X8_go
set_option maxRecDepth 20000 in
theorem ggX8_away_X8_skyAgain : GoodIn wsX8_away wsX8_skyAgain := goodIn_r _ [94, 1, 11, 95, 96, 97, 98, 99, 100, 101, 102, 103, 104, 105, 106, 107, 108, 109, 110, 111, 112, 113, 114, 115, 116, 117, 118, 119, 120, 121, 122, 123, 124, 125, 126, 127, 128, 129, 130, 131, 132, 133, 134, 135, 136, 137, 138, 139, 140, 141] (by decide +kernel) (by decide +kernel)
set_option maxRecDepth 20000 in
theorem gX8_away_X8_skyAgain : GoodIn wsX8_away (wsV RX8 316 RX8 yX8_skyAgain wsX8_skyAgain) := goodIn_app (goodIn_of _ (by decide +kernel)) ggX8_away_X8_skyAgain
theorem dX8_away_0 : decode cX8_away 0 = .ok (.iload_n 1, 1) := by decide +kernel
theorem dX8_away_1 : decode cX8_away 1 = .ok (.iconst 0, 1) := by decide +kernel
theorem dX8_away_2 : decode cX8_away 2 = .ok (.iconst 1, 1) := by decide +kernel
theorem dX8_away_3 : decode cX8_away 3 = .ok (.invokestatic 108, 3) := by decide +kernel
theorem dX8_away_6 : decode cX8_away 6 = .ok (.ifCond .ne 6, 3) := by decide +kernel
theorem dX8_away_9 : decode cX8_away 9 = .ok (.bipush (-2), 2) := by decide +kernel
theorem dX8_away_11 : decode cX8_away 11 = .ok (.ireturn, 1) := by decide +kernel
theorem dX8_away_12 : decode cX8_away 12 = .ok (.aload_n 0, 1) := by decide +kernel
theorem dX8_away_13 : decode cX8_away 13 = .ok (.invokevirtual 313, 3) := by decide +kernel
theorem dX8_away_16 : decode cX8_away 16 = .ok (.iconst 0, 1) := by decide +kernel
theorem dX8_away_17 : decode cX8_away 17 = .ok (.istore_n 2, 1) := by decide +kernel
theorem dX8_away_18 : decode cX8_away 18 = .ok (.iconst (-1), 1) := by decide +kernel
theorem dX8_away_19 : decode cX8_away 19 = .ok (.istore_n 3, 1) := by decide +kernel
theorem dX8_away_20 : decode cX8_away 20 = .ok (.iconst 0, 1) := by decide +kernel
theorem dX8_away_21 : decode cX8_away 21 = .ok (.istore 4, 2) := by decide +kernel
theorem dX8_away_23 : decode cX8_away 23 = .ok (.iload 4, 2) := by decide +kernel
theorem dX8_away_25 : decode cX8_away 25 = .ok (.iconst 4, 1) := by decide +kernel
theorem dX8_away_26 : decode cX8_away 26 = .ok (.if_icmp .ge 67, 3) := by decide +kernel
theorem dX8_away_29 : decode cX8_away 29 = .ok (.iconst 0, 1) := by decide +kernel
theorem dX8_away_30 : decode cX8_away 30 = .ok (.istore 5, 2) := by decide +kernel
theorem dX8_away_32 : decode cX8_away 32 = .ok (.iload 5, 2) := by decide +kernel
theorem dX8_away_34 : decode cX8_away 34 = .ok (.bipush 14, 2) := by decide +kernel
theorem dX8_away_36 : decode cX8_away 36 = .ok (.if_icmp .ge 20, 3) := by decide +kernel
theorem dX8_away_39 : decode cX8_away 39 = .ok (.aload_n 0, 1) := by decide +kernel
theorem dX8_away_40 : decode cX8_away 40 = .ok (.getfield 7, 3) := by decide +kernel
theorem dX8_away_43 : decode cX8_away 43 = .ok (.iconst 4, 1) := by decide +kernel
theorem dX8_away_44 : decode cX8_away 44 = .ok (.iload 5, 2) := by decide +kernel
theorem dX8_away_46 : decode cX8_away 46 = .ok (.imul, 1) := by decide +kernel
theorem dX8_away_47 : decode cX8_away 47 = .ok (.iload 4, 2) := by decide +kernel
theorem dX8_away_49 : decode cX8_away 49 = .ok (.iastore, 1) := by decide +kernel
theorem dX8_away_50 : decode cX8_away 50 = .ok (.iinc 5 1, 3) := by decide +kernel
theorem dX8_away_53 : decode cX8_away 53 = .ok (.goto (-21), 3) := by decide +kernel
theorem dX8_away_56 : decode cX8_away 56 = .ok (.aload_n 0, 1) := by decide +kernel
theorem dX8_away_57 : decode cX8_away 57 = .ok (.bipush 14, 2) := by decide +kernel
theorem dX8_away_59 : decode cX8_away 59 = .ok (.invokevirtual 297, 3) := by decide +kernel
theorem dX8_away_62 : decode cX8_away 62 = .ok (.aload_n 0, 1) := by decide +kernel
theorem dX8_away_63 : decode cX8_away 63 = .ok (.getfield 55, 3) := by decide +kernel
theorem dX8_away_66 : decode cX8_away 66 = .ok (.iload 4, 2) := by decide +kernel
theorem dX8_away_68 : decode cX8_away 68 = .ok (.iaload, 1) := by decide +kernel
theorem dX8_away_69 : decode cX8_away 69 = .ok (.iload_n 3, 1) := by decide +kernel
theorem dX8_away_70 : decode cX8_away 70 = .ok (.if_icmp .gt 6, 3) := by decide +kernel
theorem dX8_away_73 : decode cX8_away 73 = .ok (.goto 14, 3) := by decide +kernel
theorem dX8_away_76 : decode cX8_away 76 = .ok (.aload_n 0, 1) := by decide +kernel
theorem dX8_away_77 : decode cX8_away 77 = .ok (.getfield 55, 3) := by decide +kernel
theorem dX8_away_80 : decode cX8_away 80 = .ok (.iload 4, 2) := by decide +kernel
theorem dX8_away_82 : decode cX8_away 82 = .ok (.iaload, 1) := by decide +kernel
theorem dX8_away_83 : decode cX8_away 83 = .ok (.istore_n 3, 1) := by decide +kernel
theorem dX8_away_84 : decode cX8_away 84 = .ok (.iload 4, 2) := by decide +kernel
theorem dX8_away_86 : decode cX8_away 86 = .ok (.istore_n 2, 1) := by decide +kernel
theorem dX8_away_87 : decode cX8_away 87 = .ok (.iinc 4 1, 3) := by decide +kernel
theorem dX8_away_90 : decode cX8_away 90 = .ok (.goto (-67), 3) := by decide +kernel
theorem dX8_away_93 : decode cX8_away 93 = .ok (.aload_n 0, 1) := by decide +kernel
theorem dX8_away_94 : decode cX8_away 94 = .ok (.invokevirtual 316, 3) := by decide +kernel
theorem dX8_away_97 : decode cX8_away 97 = .ok (.iload_n 1, 1) := by decide +kernel
theorem dX8_away_98 : decode cX8_away 98 = .ok (.ifCond .ne 7, 3) := by decide +kernel
theorem dX8_away_101 : decode cX8_away 101 = .ok (.iload_n 2, 1) := by decide +kernel
theorem dX8_away_102 : decode cX8_away 102 = .ok (.goto 4, 3) := by decide +kernel
theorem dX8_away_105 : decode cX8_away 105 = .ok (.iload_n 3, 1) := by decide +kernel
theorem dX8_away_106 : decode cX8_away 106 = .ok (.ireturn, 1) := by decide +kernel
set_option maxRecDepth 20000 in
theorem ggX8_unfit_X8_within : GoodIn wsX8_unfit wsX8_within := goodIn_r _ [6] (by decide +kernel) (by decide +kernel)
set_option maxRecDepth 20000 in
theorem gX8_unfit_X8_within : GoodIn wsX8_unfit (va_wsS RX8 108 yX8_within wsX8_within) := goodIn_app (goodIn_of _ (by decide +kernel)) ggX8_unfit_X8_within
theorem dX8_unfit_0 : decode cX8_unfit 0 = .ok (.iload_n 1, 1) := by decide +kernel
theorem dX8_unfit_1 : decode cX8_unfit 1 = .ok (.iconst 0, 1) := by decide +kernel
theorem dX8_unfit_2 : decode cX8_unfit 2 = .ok (.iconst 3, 1) := by decide +kernel
theorem dX8_unfit_3 : decode cX8_unfit 3 = .ok (.invokestatic 108, 3) := by decide +kernel
theorem dX8_unfit_6 : decode cX8_unfit 6 = .ok (.ifCond .ne 6, 3) := by decide +kernel
theorem dX8_unfit_9 : decode cX8_unfit 9 = .ok (.bipush (-2), 2) := by decide +kernel
theorem dX8_unfit_11 : decode cX8_unfit 11 = .ok (.ireturn, 1) := by decide +kernel
theorem dX8_unfit_12 : decode cX8_unfit 12 = .ok (.aload_n 0, 1) := by decide +kernel
theorem dX8_unfit_13 : decode cX8_unfit 13 = .ok (.getfield 73, 3) := by decide +kernel
theorem dX8_unfit_16 : decode cX8_unfit 16 = .ok (.iload_n 1, 1) := by decide +kernel
theorem dX8_unfit_17 : decode cX8_unfit 17 = .ok (.iaload, 1) := by decide +kernel
theorem dX8_unfit_18 : decode cX8_unfit 18 = .ok (.iconst (-1), 1) := by decide +kernel
theorem dX8_unfit_19 : decode cX8_unfit 19 = .ok (.if_icmp .ne 6, 3) := by decide +kernel
theorem dX8_unfit_22 : decode cX8_unfit 22 = .ok (.bipush (-11), 2) := by decide +kernel
theorem dX8_unfit_24 : decode cX8_unfit 24 = .ok (.ireturn, 1) := by decide +kernel
theorem dX8_unfit_25 : decode cX8_unfit 25 = .ok (.aload_n 0, 1) := by decide +kernel
theorem dX8_unfit_26 : decode cX8_unfit 26 = .ok (.getfield 76, 3) := by decide +kernel
theorem dX8_unfit_29 : decode cX8_unfit 29 = .ok (.iload_n 1, 1) := by decide +kernel
theorem dX8_unfit_30 : decode cX8_unfit 30 = .ok (.iaload, 1) := by decide +kernel
theorem dX8_unfit_31 : decode cX8_unfit 31 = .ok (.bipush 36, 2) := by decide +kernel
theorem dX8_unfit_33 : decode cX8_unfit 33 = .ok (.if_icmp .eq 6, 3) := by decide +kernel
theorem dX8_unfit_36 : decode cX8_unfit 36 = .ok (.bipush (-2), 2) := by decide +kernel
theorem dX8_unfit_38 : decode cX8_unfit 38 = .ok (.ireturn, 1) := by decide +kernel
theorem dX8_unfit_39 : decode cX8_unfit 39 = .ok (.iload_n 2, 1) := by decide +kernel
theorem dX8_unfit_40 : decode cX8_unfit 40 = .ok (.iload_n 3, 1) := by decide +kernel
theorem dX8_unfit_41 : decode cX8_unfit 41 = .ok (.bipush 14, 2) := by decide +kernel
theorem dX8_unfit_43 : decode cX8_unfit 43 = .ok (.invokestatic 108, 3) := by decide +kernel
theorem dX8_unfit_46 : decode cX8_unfit 46 = .ok (.ifCond .eq 7, 3) := by decide +kernel
theorem dX8_unfit_49 : decode cX8_unfit 49 = .ok (.iconst 0, 1) := by decide +kernel
theorem dX8_unfit_50 : decode cX8_unfit 50 = .ok (.goto 5, 3) := by decide +kernel
theorem dX8_unfit_53 : decode cX8_unfit 53 = .ok (.bipush (-7), 2) := by decide +kernel
theorem dX8_unfit_55 : decode cX8_unfit 55 = .ok (.ireturn, 1) := by decide +kernel
set_option maxRecDepth 20000 in
theorem ggX8_look_X8_go : GoodIn wsX8_look wsX8_go := goodIn_r _ [8, 9, 10, 11, 7, 12, 2, 13, 3, 14, 15, 16, 17, 18, 19, 20, 21, 22, 23, 24, 25, 26, 27, 28, 29, 30, 31, 32, 33, 34, 35, 36, 37, 38, 39, 40, 41, 42, 43, 44, 45, 46, 47, 48, 49, 50, 51, 52, 53, 54, 55, 56, 57, 58, 59, 60, 61, 62, 63, 64, 65, 66, 67, 68, 69, 70, 71, 72, 73, 74, 75, 76, 77, 78, 79, 80, 81, 82, 83, 84, 85, 86, 87, 88, 89, 90, 91, 92, 93, 94, 95, 96, 97, 98, 99, 100, 101, 102, 103, 104, 105, 106, 107, 108, 109, 110, 111, 112, 113, 114, 115, 116, 117, 118, 119, 120, 121, 122, 123, 124, 125, 126, 127, 128, 129, 130] (by decide +kernel) (by decide +kernel)
set_option maxRecDepth 20000 in
theorem gX8_look_X8_go : GoodIn wsX8_look (wsV RX8 297 RX8 yX8_go wsX8_go) := goodIn_app (goodIn_of _ (by decide +kernel)) ggX8_look_X8_go
theorem dX8_look_0 : decode cX8_look 0 = .ok (.aload_n 0, 1) := by decide +kernel
theorem dX8_look_1 : decode cX8_look 1 = .ok (.iload_n 2, 1) := by decide +kernel
theorem dX8_look_2 : decode cX8_look 2 = .ok (.invokevirtual 297, 3) := by decide +kernel
theorem dX8_look_5 : decode cX8_look 5 = .ok (.iconst 0, 1) := by decide +kernel
theorem dX8_look_6 : decode cX8_look 6 = .ok (.istore_n 3, 1) := by decide +kernel
theorem dX8_look_7 : decode cX8_look 7 = .ok (.iload_n 3, 1) := by decide +kernel
theorem dX8_look_8 : decode cX8_look 8 = .ok (.bipush 36, 2) := by decide +kernel
theorem dX8_look_10 : decode cX8_look 10 = .ok (.if_icmp .ge 38, 3) := by decide +kernel
theorem dX8_look_13 : decode cX8_look 13 = .ok (.aload_n 0, 1) := by decide +kernel
theorem dX8_look_14 : decode cX8_look 14 = .ok (.getfield 79, 3) := by decide +kernel
theorem dX8_look_17 : decode cX8_look 17 = .ok (.bipush 40, 2) := by decide +kernel
theorem dX8_look_19 : decode cX8_look 19 = .ok (.iload_n 1, 1) := by decide +kernel
theorem dX8_look_20 : decode cX8_look 20 = .ok (.imul, 1) := by decide +kernel
theorem dX8_look_21 : decode cX8_look 21 = .ok (.iload_n 3, 1) := by decide +kernel
theorem dX8_look_22 : decode cX8_look 22 = .ok (.iadd, 1) := by decide +kernel
theorem dX8_look_23 : decode cX8_look 23 = .ok (.iaload, 1) := by decide +kernel
theorem dX8_look_24 : decode cX8_look 24 = .ok (.aload_n 0, 1) := by decide +kernel
theorem dX8_look_25 : decode cX8_look 25 = .ok (.getfield 43, 3) := by decide +kernel
theorem dX8_look_28 : decode cX8_look 28 = .ok (.iload_n 3, 1) := by decide +kernel
theorem dX8_look_29 : decode cX8_look 29 = .ok (.iaload, 1) := by decide +kernel
theorem dX8_look_30 : decode cX8_look 30 = .ok (.aload_n 0, 1) := by decide +kernel
theorem dX8_look_31 : decode cX8_look 31 = .ok (.getfield 46, 3) := by decide +kernel
theorem dX8_look_34 : decode cX8_look 34 = .ok (.iload_n 3, 1) := by decide +kernel
theorem dX8_look_35 : decode cX8_look 35 = .ok (.iaload, 1) := by decide +kernel
theorem dX8_look_36 : decode cX8_look 36 = .ok (.iadd, 1) := by decide +kernel
theorem dX8_look_37 : decode cX8_look 37 = .ok (.if_icmp .eq 5, 3) := by decide +kernel
theorem dX8_look_40 : decode cX8_look 40 = .ok (.iload_n 3, 1) := by decide +kernel
theorem dX8_look_41 : decode cX8_look 41 = .ok (.ireturn, 1) := by decide +kernel
theorem dX8_look_42 : decode cX8_look 42 = .ok (.iinc 3 1, 3) := by decide +kernel
theorem dX8_look_45 : decode cX8_look 45 = .ok (.goto (-38), 3) := by decide +kernel
theorem dX8_look_48 : decode cX8_look 48 = .ok (.iconst (-1), 1) := by decide +kernel
theorem dX8_look_49 : decode cX8_look 49 = .ok (.ireturn, 1) := by decide +kernel
set_option maxRecDepth 20000 in
theorem ggX8_judge_X8_unfit : GoodIn wsX8_judge wsX8_unfit := goodIn_r _ [5, 6, 7, 8, 9, 4, 10, 97, 98, 99, 100, 101, 102, 103, 104, 105, 106, 107, 108, 109, 110, 111, 112, 113, 114, 115, 116, 117, 118, 119, 120, 121, 122, 123, 124, 125, 126, 127, 128, 129, 130, 131, 132, 133, 134, 135, 136, 137, 138, 139, 140, 141, 142, 143] (by decide +kernel) (by decide +kernel)
set_option maxRecDepth 20000 in
theorem gX8_judge_X8_unfit : GoodIn wsX8_judge (wsV RX8 319 RX8 yX8_unfit wsX8_unfit) := goodIn_app (goodIn_of _ (by decide +kernel)) ggX8_judge_X8_unfit
set_option maxRecDepth 20000 in
theorem ggX8_judge_X8_look : GoodIn wsX8_judge wsX8_look := goodIn_r _ [14, 15, 16, 17, 18, 19, 20, 4, 21, 22, 23, 24, 25, 26, 27, 28, 29, 30, 31, 32, 33, 34, 35, 36, 37, 38, 39, 40, 41, 42, 43, 44, 45, 46, 47, 48, 49, 50, 51, 52, 53, 54, 55, 56, 57, 58, 59, 60, 61, 62, 63, 64, 65, 66, 67, 68, 69, 70, 71, 72, 73, 74, 75, 76, 77, 78, 79, 80, 81, 82, 83, 84, 85, 86, 87, 88, 89, 90, 91, 92, 93, 94, 95, 96, 97, 98, 99, 100, 101, 102, 103, 104, 105, 106, 107, 108, 109, 110, 111, 112, 113, 114, 115, 116, 117, 118, 119, 120, 121, 122, 123, 124, 125, 126, 127, 128, 129, 130, 131, 132, 133, 134, 135, 136, 137, 138, 139, 140, 141, 142, 143] (by decide +kernel) (by decide +kernel)
set_option maxRecDepth 20000 in
theorem gX8_judge_X8_look : GoodIn wsX8_judge (wsV RX8 322 RX8 yX8_look wsX8_look) := goodIn_app (goodIn_of _ (by decide +kernel)) ggX8_judge_X8_look
theorem dX8_judge_0 : decode cX8_judge 0 = .ok (.aload_n 0, 1) := by decide +kernel
theorem dX8_judge_1 : decode cX8_judge 1 = .ok (.iload_n 1, 1) := by decide +kernel
theorem dX8_judge_2 : decode cX8_judge 2 = .ok (.iload_n 2, 1) := by decide +kernel
theorem dX8_judge_3 : decode cX8_judge 3 = .ok (.iconst 0, 1) := by decide +kernel
theorem dX8_judge_4 : decode cX8_judge 4 = .ok (.invokevirtual 319, 3) := by decide +kernel
theorem dX8_judge_7 : decode cX8_judge 7 = .ok (.istore_n 3, 1) := by decide +kernel
theorem dX8_judge_8 : decode cX8_judge 8 = .ok (.iload_n 3, 1) := by decide +kernel
theorem dX8_judge_9 : decode cX8_judge 9 = .ok (.ifCond .ge 7, 3) := by decide +kernel
theorem dX8_judge_12 : decode cX8_judge 12 = .ok (.iload_n 3, 1) := by decide +kernel
theorem dX8_judge_13 : decode cX8_judge 13 = .ok (.goto 9, 3) := by decide +kernel
theorem dX8_judge_16 : decode cX8_judge 16 = .ok (.aload_n 0, 1) := by decide +kernel
theorem dX8_judge_17 : decode cX8_judge 17 = .ok (.iload_n 1, 1) := by decide +kernel
theorem dX8_judge_18 : decode cX8_judge 18 = .ok (.iload_n 2, 1) := by decide +kernel
theorem dX8_judge_19 : decode cX8_judge 19 = .ok (.invokevirtual 322, 3) := by decide +kernel
theorem dX8_judge_22 : decode cX8_judge 22 = .ok (.ireturn, 1) := by decide +kernel
set_option maxRecDepth 20000 in
theorem ggX8_laws_X8_unfit : GoodIn wsX8_laws wsX8_unfit := goodIn_r _ [7, 8, 9, 10, 11, 6, 12, 98, 99, 100, 101, 102, 103, 104, 105, 106, 107, 108, 109, 110, 111, 112, 113, 114, 115, 116, 117, 118, 119, 120, 121, 122, 123, 124, 125, 126, 127, 128, 129, 130, 131, 132, 133, 134, 135, 136, 137, 138, 139, 140, 141, 142, 143, 144] (by decide +kernel) (by decide +kernel)
set_option maxRecDepth 20000 in
theorem gX8_laws_X8_unfit : GoodIn wsX8_laws (wsV RX8 319 RX8 yX8_unfit wsX8_unfit) := goodIn_app (goodIn_of _ (by decide +kernel)) ggX8_laws_X8_unfit
set_option maxRecDepth 20000 in
theorem ggX8_laws_X8_look : GoodIn wsX8_laws wsX8_look := goodIn_r _ [16, 17, 18, 19, 20, 21, 22, 6, 23, 24, 25, 26, 27, 28, 29, 30, 31, 32, 33, 34, 35, 36, 37, 38, 39, 40, 41, 42, 43, 44, 45, 46, 47, 48, 49, 50, 51, 52, 53, 54, 55, 56, 57, 1, 58, 59, 60, 61, 62, 63, 64, 65, 66, 67, 68, 69, 70, 71, 72, 73, 74, 75, 76, 77, 78, 79, 80, 81, 82, 83, 84, 85, 86, 87, 88, 89, 90, 91, 92, 93, 94, 95, 96, 97, 98, 99, 100, 101, 102, 103, 104, 105, 106, 107, 108, 109, 110, 111, 112, 113, 114, 115, 116, 117, 118, 119, 120, 121, 122, 123, 124, 125, 126, 127, 128, 129, 130, 131, 132, 133, 134, 135, 136, 137, 138, 139, 140, 141, 142, 143, 144] (by decide +kernel) (by decide +kernel)
set_option maxRecDepth 20000 in
theorem gX8_laws_X8_look : GoodIn wsX8_laws (wsV RX8 322 RX8 yX8_look wsX8_look) := goodIn_app (goodIn_of _ (by decide +kernel)) ggX8_laws_X8_look
theorem dX8_laws_0 : decode cX8_laws 0 = .ok (.aload_n 0, 1) := by decide +kernel
theorem dX8_laws_1 : decode cX8_laws 1 = .ok (.iload_n 1, 1) := by decide +kernel
theorem dX8_laws_2 : decode cX8_laws 2 = .ok (.iload_n 2, 1) := by decide +kernel
theorem dX8_laws_3 : decode cX8_laws 3 = .ok (.iconst 0, 1) := by decide +kernel
theorem dX8_laws_4 : decode cX8_laws 4 = .ok (.invokevirtual 319, 3) := by decide +kernel
theorem dX8_laws_7 : decode cX8_laws 7 = .ok (.istore_n 3, 1) := by decide +kernel
theorem dX8_laws_8 : decode cX8_laws 8 = .ok (.iload_n 3, 1) := by decide +kernel
theorem dX8_laws_9 : decode cX8_laws 9 = .ok (.ifCond .ge 5, 3) := by decide +kernel
theorem dX8_laws_12 : decode cX8_laws 12 = .ok (.iload_n 3, 1) := by decide +kernel
theorem dX8_laws_13 : decode cX8_laws 13 = .ok (.ireturn, 1) := by decide +kernel
theorem dX8_laws_14 : decode cX8_laws 14 = .ok (.aload_n 0, 1) := by decide +kernel
theorem dX8_laws_15 : decode cX8_laws 15 = .ok (.getfield 121, 3) := by decide +kernel
theorem dX8_laws_18 : decode cX8_laws 18 = .ok (.istore 4, 2) := by decide +kernel
theorem dX8_laws_20 : decode cX8_laws 20 = .ok (.iconst 0, 1) := by decide +kernel
theorem dX8_laws_21 : decode cX8_laws 21 = .ok (.istore 5, 2) := by decide +kernel
theorem dX8_laws_23 : decode cX8_laws 23 = .ok (.iconst 0, 1) := by decide +kernel
theorem dX8_laws_24 : decode cX8_laws 24 = .ok (.istore 6, 2) := by decide +kernel
theorem dX8_laws_26 : decode cX8_laws 26 = .ok (.iload 6, 2) := by decide +kernel
theorem dX8_laws_28 : decode cX8_laws 28 = .ok (.aload_n 0, 1) := by decide +kernel
theorem dX8_laws_29 : decode cX8_laws 29 = .ok (.getfield 118, 3) := by decide +kernel
theorem dX8_laws_32 : decode cX8_laws 32 = .ok (.if_icmp .ge 33, 3) := by decide +kernel
theorem dX8_laws_35 : decode cX8_laws 35 = .ok (.aload_n 0, 1) := by decide +kernel
theorem dX8_laws_36 : decode cX8_laws 36 = .ok (.iload 6, 2) := by decide +kernel
theorem dX8_laws_38 : decode cX8_laws 38 = .ok (.putfield 121, 3) := by decide +kernel
theorem dX8_laws_41 : decode cX8_laws 41 = .ok (.aload_n 0, 1) := by decide +kernel
theorem dX8_laws_42 : decode cX8_laws 42 = .ok (.iload_n 1, 1) := by decide +kernel
theorem dX8_laws_43 : decode cX8_laws 43 = .ok (.iload_n 2, 1) := by decide +kernel
theorem dX8_laws_44 : decode cX8_laws 44 = .ok (.invokevirtual 322, 3) := by decide +kernel
theorem dX8_laws_47 : decode cX8_laws 47 = .ok (.ifCond .ge 12, 3) := by decide +kernel
theorem dX8_laws_50 : decode cX8_laws 50 = .ok (.iload 5, 2) := by decide +kernel
theorem dX8_laws_52 : decode cX8_laws 52 = .ok (.iconst 1, 1) := by decide +kernel
theorem dX8_laws_53 : decode cX8_laws 53 = .ok (.iload 6, 2) := by decide +kernel
theorem dX8_laws_55 : decode cX8_laws 55 = .ok (.ishl, 1) := by decide +kernel
theorem dX8_laws_56 : decode cX8_laws 56 = .ok (.ior, 1) := by decide +kernel
theorem dX8_laws_57 : decode cX8_laws 57 = .ok (.istore 5, 2) := by decide +kernel
theorem dX8_laws_59 : decode cX8_laws 59 = .ok (.iinc 6 1, 3) := by decide +kernel
theorem dX8_laws_62 : decode cX8_laws 62 = .ok (.goto (-36), 3) := by decide +kernel
theorem dX8_laws_65 : decode cX8_laws 65 = .ok (.aload_n 0, 1) := by decide +kernel
theorem dX8_laws_66 : decode cX8_laws 66 = .ok (.iload 4, 2) := by decide +kernel
theorem dX8_laws_68 : decode cX8_laws 68 = .ok (.putfield 121, 3) := by decide +kernel
theorem dX8_laws_71 : decode cX8_laws 71 = .ok (.iload 5, 2) := by decide +kernel
theorem dX8_laws_73 : decode cX8_laws 73 = .ok (.ireturn, 1) := by decide +kernel
set_option maxRecDepth 20000 in
theorem ggX8_winds_X8_unfit : GoodIn wsX8_winds wsX8_unfit := goodIn_r _ [6, 7, 8, 9, 10, 5, 11, 97, 98, 99, 100, 101, 102, 103, 104, 105, 106, 107, 108, 109, 110, 111, 112, 113, 114, 115, 116, 117, 118, 119, 120, 121, 122, 123, 124, 125, 126, 127, 128, 129, 130, 131, 132, 133, 134, 135, 136, 137, 138, 139, 140, 141, 142, 143] (by decide +kernel) (by decide +kernel)
set_option maxRecDepth 20000 in
theorem gX8_winds_X8_unfit : GoodIn wsX8_winds (wsV RX8 319 RX8 yX8_unfit wsX8_unfit) := goodIn_app (goodIn_of _ (by decide +kernel)) ggX8_winds_X8_unfit
set_option maxRecDepth 20000 in
theorem ggX8_winds_X8_look : GoodIn wsX8_winds wsX8_look := goodIn_r _ [15, 16, 17, 18, 19, 20, 21, 5, 22, 23, 24, 25, 26, 27, 28, 29, 30, 31, 32, 33, 34, 35, 36, 37, 38, 39, 40, 1, 41, 42, 43, 44, 45, 46, 47, 48, 49, 50, 51, 52, 53, 54, 55, 56, 57, 58, 59, 60, 61, 62, 63, 64, 65, 66, 67, 68, 69, 70, 71, 72, 73, 74, 75, 76, 77, 78, 79, 80, 81, 82, 83, 84, 85, 86, 87, 88, 89, 90, 91, 92, 93, 94, 95, 96, 97, 98, 99, 100, 101, 102, 103, 104, 105, 106, 107, 108, 109, 110, 111, 112, 113, 114, 115, 116, 117, 118, 119, 120, 121, 122, 123, 124, 125, 126, 127, 128, 129, 130, 131, 132, 133, 134, 135, 136, 137, 138, 139, 140, 141, 142, 143] (by decide +kernel) (by decide +kernel)
set_option maxRecDepth 20000 in
theorem gX8_winds_X8_look : GoodIn wsX8_winds (wsV RX8 322 RX8 yX8_look wsX8_look) := goodIn_app (goodIn_of _ (by decide +kernel)) ggX8_winds_X8_look
theorem dX8_winds_0 : decode cX8_winds 0 = .ok (.aload_n 0, 1) := by decide +kernel
theorem dX8_winds_1 : decode cX8_winds 1 = .ok (.iload_n 1, 1) := by decide +kernel
theorem dX8_winds_2 : decode cX8_winds 2 = .ok (.iload_n 2, 1) := by decide +kernel
theorem dX8_winds_3 : decode cX8_winds 3 = .ok (.iconst 1, 1) := by decide +kernel
theorem dX8_winds_4 : decode cX8_winds 4 = .ok (.invokevirtual 319, 3) := by decide +kernel
theorem dX8_winds_7 : decode cX8_winds 7 = .ok (.istore_n 3, 1) := by decide +kernel
theorem dX8_winds_8 : decode cX8_winds 8 = .ok (.iload_n 3, 1) := by decide +kernel
theorem dX8_winds_9 : decode cX8_winds 9 = .ok (.ifCond .ge 5, 3) := by decide +kernel
theorem dX8_winds_12 : decode cX8_winds 12 = .ok (.iload_n 3, 1) := by decide +kernel
theorem dX8_winds_13 : decode cX8_winds 13 = .ok (.ireturn, 1) := by decide +kernel
theorem dX8_winds_14 : decode cX8_winds 14 = .ok (.aload_n 0, 1) := by decide +kernel
theorem dX8_winds_15 : decode cX8_winds 15 = .ok (.getfield 7, 3) := by decide +kernel
theorem dX8_winds_18 : decode cX8_winds 18 = .ok (.iconst 4, 1) := by decide +kernel
theorem dX8_winds_19 : decode cX8_winds 19 = .ok (.iload_n 2, 1) := by decide +kernel
theorem dX8_winds_20 : decode cX8_winds 20 = .ok (.imul, 1) := by decide +kernel
theorem dX8_winds_21 : decode cX8_winds 21 = .ok (.iconst 4, 1) := by decide +kernel
theorem dX8_winds_22 : decode cX8_winds 22 = .ok (.isub, 1) := by decide +kernel
theorem dX8_winds_23 : decode cX8_winds 23 = .ok (.iaload, 1) := by decide +kernel
theorem dX8_winds_24 : decode cX8_winds 24 = .ok (.istore 4, 2) := by decide +kernel
theorem dX8_winds_26 : decode cX8_winds 26 = .ok (.iconst 0, 1) := by decide +kernel
theorem dX8_winds_27 : decode cX8_winds 27 = .ok (.istore 5, 2) := by decide +kernel
theorem dX8_winds_29 : decode cX8_winds 29 = .ok (.iconst 0, 1) := by decide +kernel
theorem dX8_winds_30 : decode cX8_winds 30 = .ok (.istore 6, 2) := by decide +kernel
theorem dX8_winds_32 : decode cX8_winds 32 = .ok (.iload 6, 2) := by decide +kernel
theorem dX8_winds_34 : decode cX8_winds 34 = .ok (.iconst 4, 1) := by decide +kernel
theorem dX8_winds_35 : decode cX8_winds 35 = .ok (.if_icmp .ge 39, 3) := by decide +kernel
theorem dX8_winds_38 : decode cX8_winds 38 = .ok (.aload_n 0, 1) := by decide +kernel
theorem dX8_winds_39 : decode cX8_winds 39 = .ok (.getfield 7, 3) := by decide +kernel
theorem dX8_winds_42 : decode cX8_winds 42 = .ok (.iconst 4, 1) := by decide +kernel
theorem dX8_winds_43 : decode cX8_winds 43 = .ok (.iload_n 2, 1) := by decide +kernel
theorem dX8_winds_44 : decode cX8_winds 44 = .ok (.imul, 1) := by decide +kernel
theorem dX8_winds_45 : decode cX8_winds 45 = .ok (.iconst 4, 1) := by decide +kernel
theorem dX8_winds_46 : decode cX8_winds 46 = .ok (.isub, 1) := by decide +kernel
theorem dX8_winds_47 : decode cX8_winds 47 = .ok (.iload 6, 2) := by decide +kernel
theorem dX8_winds_49 : decode cX8_winds 49 = .ok (.iastore, 1) := by decide +kernel
theorem dX8_winds_50 : decode cX8_winds 50 = .ok (.aload_n 0, 1) := by decide +kernel
theorem dX8_winds_51 : decode cX8_winds 51 = .ok (.iload_n 1, 1) := by decide +kernel
theorem dX8_winds_52 : decode cX8_winds 52 = .ok (.iload_n 2, 1) := by decide +kernel
theorem dX8_winds_53 : decode cX8_winds 53 = .ok (.invokevirtual 322, 3) := by decide +kernel
theorem dX8_winds_56 : decode cX8_winds 56 = .ok (.ifCond .ge 12, 3) := by decide +kernel
theorem dX8_winds_59 : decode cX8_winds 59 = .ok (.iload 5, 2) := by decide +kernel
theorem dX8_winds_61 : decode cX8_winds 61 = .ok (.iconst 1, 1) := by decide +kernel
theorem dX8_winds_62 : decode cX8_winds 62 = .ok (.iload 6, 2) := by decide +kernel
theorem dX8_winds_64 : decode cX8_winds 64 = .ok (.ishl, 1) := by decide +kernel
theorem dX8_winds_65 : decode cX8_winds 65 = .ok (.ior, 1) := by decide +kernel
theorem dX8_winds_66 : decode cX8_winds 66 = .ok (.istore 5, 2) := by decide +kernel
theorem dX8_winds_68 : decode cX8_winds 68 = .ok (.iinc 6 1, 3) := by decide +kernel
theorem dX8_winds_71 : decode cX8_winds 71 = .ok (.goto (-39), 3) := by decide +kernel
theorem dX8_winds_74 : decode cX8_winds 74 = .ok (.aload_n 0, 1) := by decide +kernel
theorem dX8_winds_75 : decode cX8_winds 75 = .ok (.getfield 7, 3) := by decide +kernel
theorem dX8_winds_78 : decode cX8_winds 78 = .ok (.iconst 4, 1) := by decide +kernel
theorem dX8_winds_79 : decode cX8_winds 79 = .ok (.iload_n 2, 1) := by decide +kernel
theorem dX8_winds_80 : decode cX8_winds 80 = .ok (.imul, 1) := by decide +kernel
theorem dX8_winds_81 : decode cX8_winds 81 = .ok (.iconst 4, 1) := by decide +kernel
theorem dX8_winds_82 : decode cX8_winds 82 = .ok (.isub, 1) := by decide +kernel
theorem dX8_winds_83 : decode cX8_winds 83 = .ok (.iload 4, 2) := by decide +kernel
theorem dX8_winds_85 : decode cX8_winds 85 = .ok (.iastore, 1) := by decide +kernel
theorem dX8_winds_86 : decode cX8_winds 86 = .ok (.iload 5, 2) := by decide +kernel
theorem dX8_winds_88 : decode cX8_winds 88 = .ok (.ireturn, 1) := by decide +kernel
set_option maxRecDepth 20000 in
theorem ggX8_film_X8_within : GoodIn wsX8_film wsX8_within := goodIn_r _ [9] (by decide +kernel) (by decide +kernel)
set_option maxRecDepth 20000 in
theorem gX8_film_X8_within : GoodIn wsX8_film (va_wsS RX8 108 yX8_within wsX8_within) := goodIn_app (goodIn_of _ (by decide +kernel)) ggX8_film_X8_within
set_option maxRecDepth 20000 in
theorem ggX8_film_X8_isDays : GoodIn wsX8_film wsX8_isDays := goodIn_r _ [12, 6, 7, 8, 9] (by decide +kernel) (by decide +kernel)
set_option maxRecDepth 20000 in
theorem gX8_film_X8_isDays : GoodIn wsX8_film (va_wsS RX8 294 yX8_isDays wsX8_isDays) := goodIn_app (goodIn_of _ (by decide +kernel)) ggX8_film_X8_isDays
set_option maxRecDepth 20000 in
theorem ggX8_film_X8_go : GoodIn wsX8_film wsX8_go := goodIn_r _ [16, 17, 18, 19, 8, 20, 4, 21, 5, 22, 23, 24, 25, 26, 27, 28, 29, 30, 31, 32, 33, 34, 35, 36, 37, 38, 39, 40, 41, 42, 43, 44, 45, 46, 47, 48, 49, 50, 51, 52, 53, 54, 55, 56, 57, 58, 59, 60, 61, 62, 63, 64, 65, 66, 67, 68, 69, 70, 71, 72, 73, 74, 75, 76, 77, 78, 79, 80, 81, 82, 83, 84, 85, 86, 87, 88, 89, 90, 91, 92, 93, 94, 95, 96, 97, 98, 99, 100, 101, 102, 103, 104, 105, 106, 107, 108, 109, 110, 111, 112, 113, 114, 115, 116, 117, 118, 119, 120, 121, 122, 123, 124, 125, 126, 127, 128, 129, 130, 131, 132, 133, 134, 135, 136, 137, 138] (by decide +kernel) (by decide +kernel)
set_option maxRecDepth 20000 in
theorem gX8_film_X8_go : GoodIn wsX8_film (wsV RX8 297 RX8 yX8_go wsX8_go) := goodIn_app (goodIn_of _ (by decide +kernel)) ggX8_film_X8_go
theorem dX8_film_0 : decode cX8_film 0 = .ok (.iload_n 1, 1) := by decide +kernel
theorem dX8_film_1 : decode cX8_film 1 = .ok (.iconst 0, 1) := by decide +kernel
theorem dX8_film_2 : decode cX8_film 2 = .ok (.iconst 3, 1) := by decide +kernel
theorem dX8_film_3 : decode cX8_film 3 = .ok (.invokestatic 108, 3) := by decide +kernel
theorem dX8_film_6 : decode cX8_film 6 = .ok (.ifCond .ne 6, 3) := by decide +kernel
theorem dX8_film_9 : decode cX8_film 9 = .ok (.bipush (-2), 2) := by decide +kernel
theorem dX8_film_11 : decode cX8_film 11 = .ok (.ireturn, 1) := by decide +kernel
theorem dX8_film_12 : decode cX8_film 12 = .ok (.iload_n 2, 1) := by decide +kernel
theorem dX8_film_13 : decode cX8_film 13 = .ok (.invokestatic 294, 3) := by decide +kernel
theorem dX8_film_16 : decode cX8_film 16 = .ok (.ifCond .ne 6, 3) := by decide +kernel
theorem dX8_film_19 : decode cX8_film 19 = .ok (.bipush (-7), 2) := by decide +kernel
theorem dX8_film_21 : decode cX8_film 21 = .ok (.ireturn, 1) := by decide +kernel
theorem dX8_film_22 : decode cX8_film 22 = .ok (.aload_n 0, 1) := by decide +kernel
theorem dX8_film_23 : decode cX8_film 23 = .ok (.iload_n 2, 1) := by decide +kernel
theorem dX8_film_24 : decode cX8_film 24 = .ok (.invokevirtual 297, 3) := by decide +kernel
theorem dX8_film_27 : decode cX8_film 27 = .ok (.aload_n 0, 1) := by decide +kernel
theorem dX8_film_28 : decode cX8_film 28 = .ok (.getfield 73, 3) := by decide +kernel
theorem dX8_film_31 : decode cX8_film 31 = .ok (.iload_n 1, 1) := by decide +kernel
theorem dX8_film_32 : decode cX8_film 32 = .ok (.iconst 2, 1) := by decide +kernel
theorem dX8_film_33 : decode cX8_film 33 = .ok (.iastore, 1) := by decide +kernel
theorem dX8_film_34 : decode cX8_film 34 = .ok (.aload_n 0, 1) := by decide +kernel
theorem dX8_film_35 : decode cX8_film 35 = .ok (.getfield 76, 3) := by decide +kernel
theorem dX8_film_38 : decode cX8_film 38 = .ok (.iload_n 1, 1) := by decide +kernel
theorem dX8_film_39 : decode cX8_film 39 = .ok (.bipush 36, 2) := by decide +kernel
theorem dX8_film_41 : decode cX8_film 41 = .ok (.iastore, 1) := by decide +kernel
theorem dX8_film_42 : decode cX8_film 42 = .ok (.iconst 0, 1) := by decide +kernel
theorem dX8_film_43 : decode cX8_film 43 = .ok (.istore_n 3, 1) := by decide +kernel
theorem dX8_film_44 : decode cX8_film 44 = .ok (.iload_n 3, 1) := by decide +kernel
theorem dX8_film_45 : decode cX8_film 45 = .ok (.bipush 40, 2) := by decide +kernel
theorem dX8_film_47 : decode cX8_film 47 = .ok (.if_icmp .ge 43, 3) := by decide +kernel
theorem dX8_film_50 : decode cX8_film 50 = .ok (.aload_n 0, 1) := by decide +kernel
theorem dX8_film_51 : decode cX8_film 51 = .ok (.getfield 79, 3) := by decide +kernel
theorem dX8_film_54 : decode cX8_film 54 = .ok (.bipush 40, 2) := by decide +kernel
theorem dX8_film_56 : decode cX8_film 56 = .ok (.iload_n 1, 1) := by decide +kernel
theorem dX8_film_57 : decode cX8_film 57 = .ok (.imul, 1) := by decide +kernel
theorem dX8_film_58 : decode cX8_film 58 = .ok (.iload_n 3, 1) := by decide +kernel
theorem dX8_film_59 : decode cX8_film 59 = .ok (.iadd, 1) := by decide +kernel
theorem dX8_film_60 : decode cX8_film 60 = .ok (.iload_n 3, 1) := by decide +kernel
theorem dX8_film_61 : decode cX8_film 61 = .ok (.bipush 36, 2) := by decide +kernel
theorem dX8_film_63 : decode cX8_film 63 = .ok (.if_icmp .ge 19, 3) := by decide +kernel
theorem dX8_film_66 : decode cX8_film 66 = .ok (.aload_n 0, 1) := by decide +kernel
theorem dX8_film_67 : decode cX8_film 67 = .ok (.getfield 43, 3) := by decide +kernel
theorem dX8_film_70 : decode cX8_film 70 = .ok (.iload_n 3, 1) := by decide +kernel
theorem dX8_film_71 : decode cX8_film 71 = .ok (.iaload, 1) := by decide +kernel
theorem dX8_film_72 : decode cX8_film 72 = .ok (.aload_n 0, 1) := by decide +kernel
theorem dX8_film_73 : decode cX8_film 73 = .ok (.getfield 46, 3) := by decide +kernel
theorem dX8_film_76 : decode cX8_film 76 = .ok (.iload_n 3, 1) := by decide +kernel
theorem dX8_film_77 : decode cX8_film 77 = .ok (.iaload, 1) := by decide +kernel
theorem dX8_film_78 : decode cX8_film 78 = .ok (.iadd, 1) := by decide +kernel
theorem dX8_film_79 : decode cX8_film 79 = .ok (.goto 4, 3) := by decide +kernel
theorem dX8_film_82 : decode cX8_film 82 = .ok (.iconst 0, 1) := by decide +kernel
theorem dX8_film_83 : decode cX8_film 83 = .ok (.iastore, 1) := by decide +kernel
theorem dX8_film_84 : decode cX8_film 84 = .ok (.iinc 3 1, 3) := by decide +kernel
theorem dX8_film_87 : decode cX8_film 87 = .ok (.goto (-43), 3) := by decide +kernel
theorem dX8_film_90 : decode cX8_film 90 = .ok (.bipush 36, 2) := by decide +kernel
theorem dX8_film_92 : decode cX8_film 92 = .ok (.ireturn, 1) := by decide +kernel
set_option maxRecDepth 20000 in
theorem ggX8_draws_X8_keepSky : GoodIn wsX8_draws wsX8_keepSky := goodIn_r _ [10, 11, 3, 96, 97, 98, 99, 100, 101, 102, 103, 104, 105, 106, 107, 108, 109, 110, 111, 112, 113, 114, 115, 116, 117, 118, 119, 120, 121, 122, 123, 124, 125, 126, 127, 128, 129, 130, 131, 132, 133, 134, 135, 136, 137, 138, 139, 140, 141, 142] (by decide +kernel) (by decide +kernel)
set_option maxRecDepth 20000 in
theorem gX8_draws_X8_keepSky : GoodIn wsX8_draws (wsV RX8 313 RX8 yX8_keepSky wsX8_keepSky) := goodIn_app (goodIn_of _ (by decide +kernel)) ggX8_draws_X8_keepSky
set_option maxRecDepth 20000 in
theorem ggX8_draws_X8_go : GoodIn wsX8_draws wsX8_go := goodIn_r _ [15, 16, 17, 18, 9, 19, 20, 21, 22, 23, 24, 25, 26, 27, 28, 29, 30, 31, 32, 33, 34, 35, 3, 36, 37, 38, 39, 40, 41, 42, 43, 44, 45, 46, 47, 48, 49, 50, 51, 52, 53, 54, 55, 56, 57, 58, 59, 60, 61, 62, 63, 64, 65, 66, 67, 68, 69, 70, 71, 72, 73, 74, 75, 76, 77, 78, 79, 80, 81, 82, 83, 84, 85, 86, 87, 88, 89, 90, 91, 96, 97, 98, 99, 100, 101, 102, 103, 104, 105, 106, 107, 108, 109, 110, 111, 112, 113, 114, 115, 116, 117, 118, 119, 120, 121, 122, 123, 124, 125, 126, 127, 128, 129, 130, 131, 132, 133, 134, 135, 136, 137, 138, 139, 140, 141, 142] (by decide +kernel) (by decide +kernel)
set_option maxRecDepth 20000 in
theorem gX8_draws_X8_go : GoodIn wsX8_draws (wsV RX8 297 RX8 yX8_go wsX8_go) := goodIn_app (goodIn_of _ (by decide +kernel)) ggX8_draws_X8_go
set_option maxRecDepth 20000 in
theorem ggX8_draws_X8_skyAgain : GoodIn wsX8_draws wsX8_skyAgain := goodIn_r _ [95, 3, 11, 96, 97, 98, 99, 100, 101, 102, 103, 104, 105, 106, 107, 108, 109, 110, 111, 112, 113, 114, 115, 116, 117, 118, 119, 120, 121, 122, 123, 124, 125, 126, 127, 128, 129, 130, 131, 132, 133, 134, 135, 136, 137, 138, 139, 140, 141, 142] (by decide +kernel) (by decide +kernel)
set_option maxRecDepth 20000 in
theorem gX8_draws_X8_skyAgain : GoodIn wsX8_draws (wsV RX8 316 RX8 yX8_skyAgain wsX8_skyAgain) := goodIn_app (goodIn_of _ (by decide +kernel)) ggX8_draws_X8_skyAgain
theorem dX8_draws_0 : decode cX8_draws 0 = .ok (.aload_n 0, 1) := by decide +kernel
theorem dX8_draws_1 : decode cX8_draws 1 = .ok (.invokevirtual 313, 3) := by decide +kernel
theorem dX8_draws_4 : decode cX8_draws 4 = .ok (.iload_n 1, 1) := by decide +kernel
theorem dX8_draws_5 : decode cX8_draws 5 = .ok (.i2l, 1) := by decide +kernel
theorem dX8_draws_6 : decode cX8_draws 6 = .ok (.lconst 1, 1) := by decide +kernel
theorem dX8_draws_7 : decode cX8_draws 7 = .ok (.ladd, 1) := by decide +kernel
theorem dX8_draws_8 : decode cX8_draws 8 = .ok (.lstore_n 3, 1) := by decide +kernel
theorem dX8_draws_9 : decode cX8_draws 9 = .ok (.iconst 0, 1) := by decide +kernel
theorem dX8_draws_10 : decode cX8_draws 10 = .ok (.istore 5, 2) := by decide +kernel
theorem dX8_draws_12 : decode cX8_draws 12 = .ok (.iload 5, 2) := by decide +kernel
theorem dX8_draws_14 : decode cX8_draws 14 = .ok (.bipush 14, 2) := by decide +kernel
theorem dX8_draws_16 : decode cX8_draws 16 = .ok (.if_icmp .ge 55, 3) := by decide +kernel
theorem dX8_draws_19 : decode cX8_draws 19 = .ok (.lload_n 3, 1) := by decide +kernel
theorem dX8_draws_20 : decode cX8_draws 20 = .ok (.ldc2_w 325, 3) := by decide +kernel
theorem dX8_draws_23 : decode cX8_draws 23 = .ok (.lmul, 1) := by decide +kernel
theorem dX8_draws_24 : decode cX8_draws 24 = .ok (.ldc2_w 327, 3) := by decide +kernel
theorem dX8_draws_27 : decode cX8_draws 27 = .ok (.lrem, 1) := by decide +kernel
theorem dX8_draws_28 : decode cX8_draws 28 = .ok (.lstore_n 3, 1) := by decide +kernel
theorem dX8_draws_29 : decode cX8_draws 29 = .ok (.aload_n 0, 1) := by decide +kernel
theorem dX8_draws_30 : decode cX8_draws 30 = .ok (.getfield 7, 3) := by decide +kernel
theorem dX8_draws_33 : decode cX8_draws 33 = .ok (.iconst 4, 1) := by decide +kernel
theorem dX8_draws_34 : decode cX8_draws 34 = .ok (.iload 5, 2) := by decide +kernel
theorem dX8_draws_36 : decode cX8_draws 36 = .ok (.imul, 1) := by decide +kernel
theorem dX8_draws_37 : decode cX8_draws 37 = .ok (.lload_n 3, 1) := by decide +kernel
theorem dX8_draws_38 : decode cX8_draws 38 = .ok (.ldc2_w 329, 3) := by decide +kernel
theorem dX8_draws_41 : decode cX8_draws 41 = .ok (.lrem, 1) := by decide +kernel
theorem dX8_draws_42 : decode cX8_draws 42 = .ok (.l2i, 1) := by decide +kernel
theorem dX8_draws_43 : decode cX8_draws 43 = .ok (.iastore, 1) := by decide +kernel
theorem dX8_draws_44 : decode cX8_draws 44 = .ok (.aload_n 0, 1) := by decide +kernel
theorem dX8_draws_45 : decode cX8_draws 45 = .ok (.getfield 7, 3) := by decide +kernel
theorem dX8_draws_48 : decode cX8_draws 48 = .ok (.iconst 4, 1) := by decide +kernel
theorem dX8_draws_49 : decode cX8_draws 49 = .ok (.iload 5, 2) := by decide +kernel
theorem dX8_draws_51 : decode cX8_draws 51 = .ok (.imul, 1) := by decide +kernel
theorem dX8_draws_52 : decode cX8_draws 52 = .ok (.iconst 1, 1) := by decide +kernel
theorem dX8_draws_53 : decode cX8_draws 53 = .ok (.iadd, 1) := by decide +kernel
theorem dX8_draws_54 : decode cX8_draws 54 = .ok (.lload_n 3, 1) := by decide +kernel
theorem dX8_draws_55 : decode cX8_draws 55 = .ok (.ldc2_w 329, 3) := by decide +kernel
theorem dX8_draws_58 : decode cX8_draws 58 = .ok (.ldiv, 1) := by decide +kernel
theorem dX8_draws_59 : decode cX8_draws 59 = .ok (.ldc2_w 331, 3) := by decide +kernel
theorem dX8_draws_62 : decode cX8_draws 62 = .ok (.lrem, 1) := by decide +kernel
theorem dX8_draws_63 : decode cX8_draws 63 = .ok (.l2i, 1) := by decide +kernel
theorem dX8_draws_64 : decode cX8_draws 64 = .ok (.iastore, 1) := by decide +kernel
theorem dX8_draws_65 : decode cX8_draws 65 = .ok (.iinc 5 1, 3) := by decide +kernel
theorem dX8_draws_68 : decode cX8_draws 68 = .ok (.goto (-56), 3) := by decide +kernel
theorem dX8_draws_71 : decode cX8_draws 71 = .ok (.aload_n 0, 1) := by decide +kernel
theorem dX8_draws_72 : decode cX8_draws 72 = .ok (.iload_n 2, 1) := by decide +kernel
theorem dX8_draws_73 : decode cX8_draws 73 = .ok (.invokevirtual 297, 3) := by decide +kernel
theorem dX8_draws_76 : decode cX8_draws 76 = .ok (.aload_n 0, 1) := by decide +kernel
theorem dX8_draws_77 : decode cX8_draws 77 = .ok (.invokevirtual 316, 3) := by decide +kernel
theorem dX8_draws_80 : decode cX8_draws 80 = .ok (.return_, 1) := by decide +kernel
set_option maxRecDepth 20000 in
theorem ggX8_drawn_X8_within : GoodIn wsX8_drawn wsX8_within := goodIn_r _ [5] (by decide +kernel) (by decide +kernel)
set_option maxRecDepth 20000 in
theorem gX8_drawn_X8_within : GoodIn wsX8_drawn (va_wsS RX8 108 yX8_within wsX8_within) := goodIn_app (goodIn_of _ (by decide +kernel)) ggX8_drawn_X8_within
set_option maxRecDepth 20000 in
theorem ggX8_drawn_X8_isDays : GoodIn wsX8_drawn wsX8_isDays := goodIn_r _ [8, 2, 3, 4, 5] (by decide +kernel) (by decide +kernel)
set_option maxRecDepth 20000 in
theorem gX8_drawn_X8_isDays : GoodIn wsX8_drawn (va_wsS RX8 294 yX8_isDays wsX8_isDays) := goodIn_app (goodIn_of _ (by decide +kernel)) ggX8_drawn_X8_isDays
set_option maxRecDepth 20000 in
theorem ggX8_drawn_X8_draws : GoodIn wsX8_drawn wsX8_draws := goodIn_r _ [12, 13, 14, 15, 16, 17, 18, 19, 20, 4, 21, 22, 23, 24, 25, 26, 27, 28, 29, 30, 31, 32, 33, 34, 35, 36, 37, 38, 39, 40, 41, 42, 43, 44, 45, 46, 47, 48, 49, 50, 51, 52, 53, 54, 55, 56, 57, 58, 59, 60, 61, 62, 63, 64, 65, 66, 67, 68, 69, 70, 71, 72, 73, 74, 75, 76, 77, 78, 79, 80, 81, 82, 83, 84, 85, 86, 87, 88, 89, 90, 91, 92, 93, 94, 95, 96, 97, 98, 99, 100, 101, 102, 103, 104, 105, 106, 115, 116, 117, 118, 119, 120, 121, 122, 123, 124, 125, 126, 127, 128, 129, 130, 131, 132, 133, 134, 135, 136, 137, 138, 139, 140, 141, 142, 143, 144, 145, 146, 147, 148, 149, 150, 151, 152, 153, 154, 155, 156, 157, 158, 159, 160, 161] (by decide +kernel) (by decide +kernel)
set_option maxRecDepth 20000 in
theorem gX8_drawn_X8_draws : GoodIn wsX8_drawn (wsV RX8 334 RX8 yX8_draws wsX8_draws) := goodIn_app (goodIn_of _ (by decide +kernel)) ggX8_drawn_X8_draws
set_option maxRecDepth 20000 in
theorem ggX8_drawn_X8_summed : GoodIn wsX8_drawn wsX8_summed := goodIn_r _ [110, 35, 36, 40, 41, 42, 38, 111, 112, 113, 4, 114, 31, 33, 115, 116, 117, 118, 119, 120, 121, 122, 123, 124, 125, 126, 127, 128, 129, 130, 131, 132, 133, 134, 135, 136, 137, 138, 139, 140, 141, 142, 143, 144, 145, 146, 147, 148, 149, 150, 151, 152, 153, 154, 155, 156, 157, 158, 159, 160, 161] (by decide +kernel) (by decide +kernel)
set_option maxRecDepth 20000 in
theorem gX8_drawn_X8_summed : GoodIn wsX8_drawn (wsV RX8 303 RX8 yX8_summed wsX8_summed) := goodIn_app (goodIn_of _ (by decide +kernel)) ggX8_drawn_X8_summed
theorem dX8_drawn_0 : decode cX8_drawn 0 = .ok (.iload_n 1, 1) := by decide +kernel
theorem dX8_drawn_1 : decode cX8_drawn 1 = .ok (.iconst 0, 1) := by decide +kernel
theorem dX8_drawn_2 : decode cX8_drawn 2 = .ok (.ldc_w 333, 3) := by decide +kernel
theorem dX8_drawn_5 : decode cX8_drawn 5 = .ok (.invokestatic 108, 3) := by decide +kernel
theorem dX8_drawn_8 : decode cX8_drawn 8 = .ok (.ifCond .eq 20, 3) := by decide +kernel
theorem dX8_drawn_11 : decode cX8_drawn 11 = .ok (.iload_n 2, 1) := by decide +kernel
theorem dX8_drawn_12 : decode cX8_drawn 12 = .ok (.invokestatic 294, 3) := by decide +kernel
theorem dX8_drawn_15 : decode cX8_drawn 15 = .ok (.ifCond .eq 13, 3) := by decide +kernel
theorem dX8_drawn_18 : decode cX8_drawn 18 = .ok (.iload_n 3, 1) := by decide +kernel
theorem dX8_drawn_19 : decode cX8_drawn 19 = .ok (.iconst 0, 1) := by decide +kernel
theorem dX8_drawn_20 : decode cX8_drawn 20 = .ok (.bipush 8, 2) := by decide +kernel
theorem dX8_drawn_22 : decode cX8_drawn 22 = .ok (.invokestatic 108, 3) := by decide +kernel
theorem dX8_drawn_25 : decode cX8_drawn 25 = .ok (.ifCond .ne 6, 3) := by decide +kernel
theorem dX8_drawn_28 : decode cX8_drawn 28 = .ok (.bipush (-2), 2) := by decide +kernel
theorem dX8_drawn_30 : decode cX8_drawn 30 = .ok (.ireturn, 1) := by decide +kernel
theorem dX8_drawn_31 : decode cX8_drawn 31 = .ok (.aload_n 0, 1) := by decide +kernel
theorem dX8_drawn_32 : decode cX8_drawn 32 = .ok (.iload_n 1, 1) := by decide +kernel
theorem dX8_drawn_33 : decode cX8_drawn 33 = .ok (.iload_n 2, 1) := by decide +kernel
theorem dX8_drawn_34 : decode cX8_drawn 34 = .ok (.invokevirtual 334, 3) := by decide +kernel
theorem dX8_drawn_37 : decode cX8_drawn 37 = .ok (.aload_n 0, 1) := by decide +kernel
theorem dX8_drawn_38 : decode cX8_drawn 38 = .ok (.iload_n 3, 1) := by decide +kernel
theorem dX8_drawn_39 : decode cX8_drawn 39 = .ok (.invokevirtual 303, 3) := by decide +kernel
theorem dX8_drawn_42 : decode cX8_drawn 42 = .ok (.ireturn, 1) := by decide +kernel
set_option maxRecDepth 20000 in
theorem ggX8_odds_X8_within : GoodIn wsX8_odds wsX8_within := goodIn_r _ [6] (by decide +kernel) (by decide +kernel)
set_option maxRecDepth 20000 in
theorem gX8_odds_X8_within : GoodIn wsX8_odds (va_wsS RX8 108 yX8_within wsX8_within) := goodIn_app (goodIn_of _ (by decide +kernel)) ggX8_odds_X8_within
set_option maxRecDepth 20000 in
theorem ggX8_odds_X8_draws : GoodIn wsX8_odds wsX8_draws := goodIn_r _ [10, 11, 12, 13, 14, 15, 16, 17, 18, 5, 19, 20, 21, 22, 23, 24, 25, 26, 27, 28, 29, 30, 31, 32, 33, 34, 35, 36, 37, 38, 39, 40, 41, 42, 43, 44, 45, 46, 47, 48, 49, 50, 51, 52, 53, 54, 55, 56, 57, 58, 59, 60, 61, 62, 63, 64, 65, 66, 67, 68, 69, 70, 71, 72, 73, 74, 75, 76, 77, 78, 79, 80, 81, 82, 83, 84, 85, 86, 87, 88, 89, 90, 91, 92, 93, 94, 95, 96, 97, 98, 99, 100, 101, 102, 103, 104, 112, 113, 114, 115, 116, 117, 118, 119, 120, 121, 122, 123, 124, 125, 126, 127, 128, 129, 130, 131, 132, 133, 134, 135, 136, 137, 138, 139, 140, 141, 142, 143, 144, 145, 146, 147, 148, 149, 150, 151, 152, 153, 154, 155, 156, 157, 158] (by decide +kernel) (by decide +kernel)
set_option maxRecDepth 20000 in
theorem gX8_odds_X8_draws : GoodIn wsX8_odds (wsV RX8 334 RX8 yX8_draws wsX8_draws) := goodIn_app (goodIn_of _ (by decide +kernel)) ggX8_odds_X8_draws
set_option maxRecDepth 20000 in
theorem ggX8_odds_X8_lying : GoodIn wsX8_odds wsX8_lying := goodIn_r _ [108, 29, 31, 112, 113, 114, 115, 116, 117, 118, 119, 120, 121, 122, 123, 124, 125, 126, 127, 128, 129, 130, 131, 132, 133, 134, 135, 136, 137, 138, 139, 140, 141, 142, 143, 144, 145, 146, 147, 148, 149, 150, 151, 152, 153, 154, 155, 156, 157, 158] (by decide +kernel) (by decide +kernel)
set_option maxRecDepth 20000 in
theorem gX8_odds_X8_lying : GoodIn wsX8_odds (wsV RX8 300 RX8 yX8_lying wsX8_lying) := goodIn_app (goodIn_of _ (by decide +kernel)) ggX8_odds_X8_lying
set_option maxRecDepth 20000 in
theorem ggX8_odds_X8_lowest : GoodIn wsX8_odds wsX8_lowest := goodIn_r _ [111] (by decide +kernel) (by decide +kernel)
set_option maxRecDepth 20000 in
theorem gX8_odds_X8_lowest : GoodIn wsX8_odds (va_wsS RX8 309 yX8_lowest wsX8_lowest) := goodIn_app (goodIn_of _ (by decide +kernel)) ggX8_odds_X8_lowest
theorem dX8_odds_0 : decode cX8_odds 0 = .ok (.iload_n 1, 1) := by decide +kernel
theorem dX8_odds_1 : decode cX8_odds 1 = .ok (.iconst 0, 1) := by decide +kernel
theorem dX8_odds_2 : decode cX8_odds 2 = .ok (.ldc_w 333, 3) := by decide +kernel
theorem dX8_odds_5 : decode cX8_odds 5 = .ok (.invokestatic 108, 3) := by decide +kernel
theorem dX8_odds_8 : decode cX8_odds 8 = .ok (.ifCond .eq 34, 3) := by decide +kernel
theorem dX8_odds_11 : decode cX8_odds 11 = .ok (.iload_n 2, 1) := by decide +kernel
theorem dX8_odds_12 : decode cX8_odds 12 = .ok (.iconst 1, 1) := by decide +kernel
theorem dX8_odds_13 : decode cX8_odds 13 = .ok (.bipush 10, 2) := by decide +kernel
theorem dX8_odds_15 : decode cX8_odds 15 = .ok (.invokestatic 108, 3) := by decide +kernel
theorem dX8_odds_18 : decode cX8_odds 18 = .ok (.ifCond .eq 24, 3) := by decide +kernel
theorem dX8_odds_21 : decode cX8_odds 21 = .ok (.iload_n 3, 1) := by decide +kernel
theorem dX8_odds_22 : decode cX8_odds 22 = .ok (.iconst 0, 1) := by decide +kernel
theorem dX8_odds_23 : decode cX8_odds 23 = .ok (.sipush 9999, 3) := by decide +kernel
theorem dX8_odds_26 : decode cX8_odds 26 = .ok (.invokestatic 108, 3) := by decide +kernel
theorem dX8_odds_29 : decode cX8_odds 29 = .ok (.ifCond .eq 13, 3) := by decide +kernel
theorem dX8_odds_32 : decode cX8_odds 32 = .ok (.iload 4, 2) := by decide +kernel
theorem dX8_odds_34 : decode cX8_odds 34 = .ok (.iconst 0, 1) := by decide +kernel
theorem dX8_odds_35 : decode cX8_odds 35 = .ok (.iconst 1, 1) := by decide +kernel
theorem dX8_odds_36 : decode cX8_odds 36 = .ok (.invokestatic 108, 3) := by decide +kernel
theorem dX8_odds_39 : decode cX8_odds 39 = .ok (.ifCond .ne 7, 3) := by decide +kernel
theorem dX8_odds_42 : decode cX8_odds 42 = .ok (.ldc2_w 242, 3) := by decide +kernel
theorem dX8_odds_45 : decode cX8_odds 45 = .ok (.lreturn, 1) := by decide +kernel
theorem dX8_odds_46 : decode cX8_odds 46 = .ok (.iconst 0, 1) := by decide +kernel
theorem dX8_odds_47 : decode cX8_odds 47 = .ok (.istore 5, 2) := by decide +kernel
theorem dX8_odds_49 : decode cX8_odds 49 = .ok (.iconst 0, 1) := by decide +kernel
theorem dX8_odds_50 : decode cX8_odds 50 = .ok (.istore 6, 2) := by decide +kernel
theorem dX8_odds_52 : decode cX8_odds 52 = .ok (.iload 6, 2) := by decide +kernel
theorem dX8_odds_54 : decode cX8_odds 54 = .ok (.iload_n 2, 1) := by decide +kernel
theorem dX8_odds_55 : decode cX8_odds 55 = .ok (.if_icmp .ge 30, 3) := by decide +kernel
theorem dX8_odds_58 : decode cX8_odds 58 = .ok (.aload_n 0, 1) := by decide +kernel
theorem dX8_odds_59 : decode cX8_odds 59 = .ok (.iload_n 1, 1) := by decide +kernel
theorem dX8_odds_60 : decode cX8_odds 60 = .ok (.iload 6, 2) := by decide +kernel
theorem dX8_odds_62 : decode cX8_odds 62 = .ok (.iadd, 1) := by decide +kernel
theorem dX8_odds_63 : decode cX8_odds 63 = .ok (.bipush 14, 2) := by decide +kernel
theorem dX8_odds_65 : decode cX8_odds 65 = .ok (.invokevirtual 334, 3) := by decide +kernel
theorem dX8_odds_68 : decode cX8_odds 68 = .ok (.aload_n 0, 1) := by decide +kernel
theorem dX8_odds_69 : decode cX8_odds 69 = .ok (.invokevirtual 300, 3) := by decide +kernel
theorem dX8_odds_72 : decode cX8_odds 72 = .ok (.iload_n 3, 1) := by decide +kernel
theorem dX8_odds_73 : decode cX8_odds 73 = .ok (.if_icmp .gt 6, 3) := by decide +kernel
theorem dX8_odds_76 : decode cX8_odds 76 = .ok (.iinc 5 1, 3) := by decide +kernel
theorem dX8_odds_79 : decode cX8_odds 79 = .ok (.iinc 6 1, 3) := by decide +kernel
theorem dX8_odds_82 : decode cX8_odds 82 = .ok (.goto (-30), 3) := by decide +kernel
theorem dX8_odds_85 : decode cX8_odds 85 = .ok (.iload 5, 2) := by decide +kernel
theorem dX8_odds_87 : decode cX8_odds 87 = .ok (.i2l, 1) := by decide +kernel
theorem dX8_odds_88 : decode cX8_odds 88 = .ok (.iload_n 2, 1) := by decide +kernel
theorem dX8_odds_89 : decode cX8_odds 89 = .ok (.i2l, 1) := by decide +kernel
theorem dX8_odds_90 : decode cX8_odds 90 = .ok (.iload 4, 2) := by decide +kernel
theorem dX8_odds_92 : decode cX8_odds 92 = .ok (.invokestatic 309, 3) := by decide +kernel
theorem dX8_odds_95 : decode cX8_odds 95 = .ok (.lreturn, 1) := by decide +kernel
theorem dX8_image_0 : decode cX8_image 0 = .ok (.aload_n 0, 1) := by decide +kernel
theorem dX8_image_1 : decode cX8_image 1 = .ok (.iconst 1, 1) := by decide +kernel
theorem dX8_image_2 : decode cX8_image 2 = .ok (.putfield 236, 3) := by decide +kernel
theorem dX8_image_5 : decode cX8_image 5 = .ok (.aload_n 0, 1) := by decide +kernel
theorem dX8_image_6 : decode cX8_image 6 = .ok (.aload_n 0, 1) := by decide +kernel
theorem dX8_image_7 : decode cX8_image 7 = .ok (.getfield 112, 3) := by decide +kernel
theorem dX8_image_10 : decode cX8_image 10 = .ok (.putfield 233, 3) := by decide +kernel
theorem dX8_image_13 : decode cX8_image 13 = .ok (.aload_n 0, 1) := by decide +kernel
theorem dX8_image_14 : decode cX8_image 14 = .ok (.aload_n 0, 1) := by decide +kernel
theorem dX8_image_15 : decode cX8_image 15 = .ok (.getfield 115, 3) := by decide +kernel
theorem dX8_image_18 : decode cX8_image 18 = .ok (.putfield 338, 3) := by decide +kernel
theorem dX8_image_21 : decode cX8_image 21 = .ok (.aload_n 0, 1) := by decide +kernel
theorem dX8_image_22 : decode cX8_image 22 = .ok (.aload_n 0, 1) := by decide +kernel
theorem dX8_image_23 : decode cX8_image 23 = .ok (.getfield 85, 3) := by decide +kernel
theorem dX8_image_26 : decode cX8_image 26 = .ok (.putfield 341, 3) := by decide +kernel
theorem dX8_image_29 : decode cX8_image 29 = .ok (.aload_n 0, 1) := by decide +kernel
theorem dX8_image_30 : decode cX8_image 30 = .ok (.aload_n 0, 1) := by decide +kernel
theorem dX8_image_31 : decode cX8_image 31 = .ok (.getfield 121, 3) := by decide +kernel
theorem dX8_image_34 : decode cX8_image 34 = .ok (.putfield 344, 3) := by decide +kernel
theorem dX8_image_37 : decode cX8_image 37 = .ok (.iconst 0, 1) := by decide +kernel
theorem dX8_image_38 : decode cX8_image 38 = .ok (.istore_n 1, 1) := by decide +kernel
theorem dX8_image_39 : decode cX8_image 39 = .ok (.iload_n 1, 1) := by decide +kernel
theorem dX8_image_40 : decode cX8_image 40 = .ok (.bipush 56, 2) := by decide +kernel
theorem dX8_image_42 : decode cX8_image 42 = .ok (.if_icmp .ge 21, 3) := by decide +kernel
theorem dX8_image_45 : decode cX8_image 45 = .ok (.aload_n 0, 1) := by decide +kernel
theorem dX8_image_46 : decode cX8_image 46 = .ok (.getfield 67, 3) := by decide +kernel
theorem dX8_image_49 : decode cX8_image 49 = .ok (.iload_n 1, 1) := by decide +kernel
theorem dX8_image_50 : decode cX8_image 50 = .ok (.aload_n 0, 1) := by decide +kernel
theorem dX8_image_51 : decode cX8_image 51 = .ok (.getfield 7, 3) := by decide +kernel
theorem dX8_image_54 : decode cX8_image 54 = .ok (.iload_n 1, 1) := by decide +kernel
theorem dX8_image_55 : decode cX8_image 55 = .ok (.iaload, 1) := by decide +kernel
theorem dX8_image_56 : decode cX8_image 56 = .ok (.iastore, 1) := by decide +kernel
theorem dX8_image_57 : decode cX8_image 57 = .ok (.iinc 1 1, 3) := by decide +kernel
theorem dX8_image_60 : decode cX8_image 60 = .ok (.goto (-21), 3) := by decide +kernel
theorem dX8_image_63 : decode cX8_image 63 = .ok (.iconst 0, 1) := by decide +kernel
theorem dX8_image_64 : decode cX8_image 64 = .ok (.istore_n 1, 1) := by decide +kernel
theorem dX8_image_65 : decode cX8_image 65 = .ok (.iload_n 1, 1) := by decide +kernel
theorem dX8_image_66 : decode cX8_image 66 = .ok (.bipush 36, 2) := by decide +kernel
theorem dX8_image_68 : decode cX8_image 68 = .ok (.if_icmp .ge 51, 3) := by decide +kernel
theorem dX8_image_71 : decode cX8_image 71 = .ok (.aload_n 0, 1) := by decide +kernel
theorem dX8_image_72 : decode cX8_image 72 = .ok (.getfield 70, 3) := by decide +kernel
theorem dX8_image_75 : decode cX8_image 75 = .ok (.iload_n 1, 1) := by decide +kernel
theorem dX8_image_76 : decode cX8_image 76 = .ok (.aload_n 0, 1) := by decide +kernel
theorem dX8_image_77 : decode cX8_image 77 = .ok (.getfield 13, 3) := by decide +kernel
theorem dX8_image_80 : decode cX8_image 80 = .ok (.iload_n 1, 1) := by decide +kernel
theorem dX8_image_81 : decode cX8_image 81 = .ok (.iaload, 1) := by decide +kernel
theorem dX8_image_82 : decode cX8_image 82 = .ok (.iastore, 1) := by decide +kernel
theorem dX8_image_83 : decode cX8_image 83 = .ok (.aload_n 0, 1) := by decide +kernel
theorem dX8_image_84 : decode cX8_image 84 = .ok (.getfield 70, 3) := by decide +kernel
theorem dX8_image_87 : decode cX8_image 87 = .ok (.bipush 36, 2) := by decide +kernel
theorem dX8_image_89 : decode cX8_image 89 = .ok (.iload_n 1, 1) := by decide +kernel
theorem dX8_image_90 : decode cX8_image 90 = .ok (.iadd, 1) := by decide +kernel
theorem dX8_image_91 : decode cX8_image 91 = .ok (.aload_n 0, 1) := by decide +kernel
theorem dX8_image_92 : decode cX8_image 92 = .ok (.getfield 16, 3) := by decide +kernel
theorem dX8_image_95 : decode cX8_image 95 = .ok (.iload_n 1, 1) := by decide +kernel
theorem dX8_image_96 : decode cX8_image 96 = .ok (.iaload, 1) := by decide +kernel
theorem dX8_image_97 : decode cX8_image 97 = .ok (.iastore, 1) := by decide +kernel
theorem dX8_image_98 : decode cX8_image 98 = .ok (.aload_n 0, 1) := by decide +kernel
theorem dX8_image_99 : decode cX8_image 99 = .ok (.getfield 70, 3) := by decide +kernel
theorem dX8_image_102 : decode cX8_image 102 = .ok (.bipush 72, 2) := by decide +kernel
theorem dX8_image_104 : decode cX8_image 104 = .ok (.iload_n 1, 1) := by decide +kernel
theorem dX8_image_105 : decode cX8_image 105 = .ok (.iadd, 1) := by decide +kernel
theorem dX8_image_106 : decode cX8_image 106 = .ok (.aload_n 0, 1) := by decide +kernel
theorem dX8_image_107 : decode cX8_image 107 = .ok (.getfield 19, 3) := by decide +kernel
theorem dX8_image_110 : decode cX8_image 110 = .ok (.iload_n 1, 1) := by decide +kernel
theorem dX8_image_111 : decode cX8_image 111 = .ok (.iaload, 1) := by decide +kernel
theorem dX8_image_112 : decode cX8_image 112 = .ok (.iastore, 1) := by decide +kernel
theorem dX8_image_113 : decode cX8_image 113 = .ok (.iinc 1 1, 3) := by decide +kernel
theorem dX8_image_116 : decode cX8_image 116 = .ok (.goto (-51), 3) := by decide +kernel
theorem dX8_image_119 : decode cX8_image 119 = .ok (.aload_n 0, 1) := by decide +kernel
theorem dX8_image_120 : decode cX8_image 120 = .ok (.getfield 112, 3) := by decide +kernel
theorem dX8_image_123 : decode cX8_image 123 = .ok (.ireturn, 1) := by decide +kernel
theorem dX8_back_0 : decode cX8_back 0 = .ok (.aload_n 0, 1) := by decide +kernel
theorem dX8_back_1 : decode cX8_back 1 = .ok (.getfield 236, 3) := by decide +kernel
theorem dX8_back_4 : decode cX8_back 4 = .ok (.ifCond .ne 6, 3) := by decide +kernel
theorem dX8_back_7 : decode cX8_back 7 = .ok (.bipush (-3), 2) := by decide +kernel
theorem dX8_back_9 : decode cX8_back 9 = .ok (.ireturn, 1) := by decide +kernel
theorem dX8_back_10 : decode cX8_back 10 = .ok (.aload_n 0, 1) := by decide +kernel
theorem dX8_back_11 : decode cX8_back 11 = .ok (.aload_n 0, 1) := by decide +kernel
theorem dX8_back_12 : decode cX8_back 12 = .ok (.getfield 233, 3) := by decide +kernel
theorem dX8_back_15 : decode cX8_back 15 = .ok (.putfield 112, 3) := by decide +kernel
theorem dX8_back_18 : decode cX8_back 18 = .ok (.aload_n 0, 1) := by decide +kernel
theorem dX8_back_19 : decode cX8_back 19 = .ok (.aload_n 0, 1) := by decide +kernel
theorem dX8_back_20 : decode cX8_back 20 = .ok (.getfield 338, 3) := by decide +kernel
theorem dX8_back_23 : decode cX8_back 23 = .ok (.putfield 115, 3) := by decide +kernel
theorem dX8_back_26 : decode cX8_back 26 = .ok (.aload_n 0, 1) := by decide +kernel
theorem dX8_back_27 : decode cX8_back 27 = .ok (.aload_n 0, 1) := by decide +kernel
theorem dX8_back_28 : decode cX8_back 28 = .ok (.getfield 341, 3) := by decide +kernel
theorem dX8_back_31 : decode cX8_back 31 = .ok (.putfield 85, 3) := by decide +kernel
theorem dX8_back_34 : decode cX8_back 34 = .ok (.aload_n 0, 1) := by decide +kernel
theorem dX8_back_35 : decode cX8_back 35 = .ok (.aload_n 0, 1) := by decide +kernel
theorem dX8_back_36 : decode cX8_back 36 = .ok (.getfield 344, 3) := by decide +kernel
theorem dX8_back_39 : decode cX8_back 39 = .ok (.putfield 121, 3) := by decide +kernel
theorem dX8_back_42 : decode cX8_back 42 = .ok (.iconst 0, 1) := by decide +kernel
theorem dX8_back_43 : decode cX8_back 43 = .ok (.istore_n 1, 1) := by decide +kernel
theorem dX8_back_44 : decode cX8_back 44 = .ok (.iload_n 1, 1) := by decide +kernel
theorem dX8_back_45 : decode cX8_back 45 = .ok (.bipush 56, 2) := by decide +kernel
theorem dX8_back_47 : decode cX8_back 47 = .ok (.if_icmp .ge 21, 3) := by decide +kernel
theorem dX8_back_50 : decode cX8_back 50 = .ok (.aload_n 0, 1) := by decide +kernel
theorem dX8_back_51 : decode cX8_back 51 = .ok (.getfield 7, 3) := by decide +kernel
theorem dX8_back_54 : decode cX8_back 54 = .ok (.iload_n 1, 1) := by decide +kernel
theorem dX8_back_55 : decode cX8_back 55 = .ok (.aload_n 0, 1) := by decide +kernel
theorem dX8_back_56 : decode cX8_back 56 = .ok (.getfield 67, 3) := by decide +kernel
theorem dX8_back_59 : decode cX8_back 59 = .ok (.iload_n 1, 1) := by decide +kernel
theorem dX8_back_60 : decode cX8_back 60 = .ok (.iaload, 1) := by decide +kernel
theorem dX8_back_61 : decode cX8_back 61 = .ok (.iastore, 1) := by decide +kernel
theorem dX8_back_62 : decode cX8_back 62 = .ok (.iinc 1 1, 3) := by decide +kernel
theorem dX8_back_65 : decode cX8_back 65 = .ok (.goto (-21), 3) := by decide +kernel
theorem dX8_back_68 : decode cX8_back 68 = .ok (.iconst 0, 1) := by decide +kernel
theorem dX8_back_69 : decode cX8_back 69 = .ok (.istore_n 1, 1) := by decide +kernel
theorem dX8_back_70 : decode cX8_back 70 = .ok (.iload_n 1, 1) := by decide +kernel
theorem dX8_back_71 : decode cX8_back 71 = .ok (.bipush 36, 2) := by decide +kernel
theorem dX8_back_73 : decode cX8_back 73 = .ok (.if_icmp .ge 51, 3) := by decide +kernel
theorem dX8_back_76 : decode cX8_back 76 = .ok (.aload_n 0, 1) := by decide +kernel
theorem dX8_back_77 : decode cX8_back 77 = .ok (.getfield 13, 3) := by decide +kernel
theorem dX8_back_80 : decode cX8_back 80 = .ok (.iload_n 1, 1) := by decide +kernel
theorem dX8_back_81 : decode cX8_back 81 = .ok (.aload_n 0, 1) := by decide +kernel
theorem dX8_back_82 : decode cX8_back 82 = .ok (.getfield 70, 3) := by decide +kernel
theorem dX8_back_85 : decode cX8_back 85 = .ok (.iload_n 1, 1) := by decide +kernel
theorem dX8_back_86 : decode cX8_back 86 = .ok (.iaload, 1) := by decide +kernel
theorem dX8_back_87 : decode cX8_back 87 = .ok (.iastore, 1) := by decide +kernel
theorem dX8_back_88 : decode cX8_back 88 = .ok (.aload_n 0, 1) := by decide +kernel
theorem dX8_back_89 : decode cX8_back 89 = .ok (.getfield 16, 3) := by decide +kernel
theorem dX8_back_92 : decode cX8_back 92 = .ok (.iload_n 1, 1) := by decide +kernel
theorem dX8_back_93 : decode cX8_back 93 = .ok (.aload_n 0, 1) := by decide +kernel
theorem dX8_back_94 : decode cX8_back 94 = .ok (.getfield 70, 3) := by decide +kernel
theorem dX8_back_97 : decode cX8_back 97 = .ok (.bipush 36, 2) := by decide +kernel
theorem dX8_back_99 : decode cX8_back 99 = .ok (.iload_n 1, 1) := by decide +kernel
theorem dX8_back_100 : decode cX8_back 100 = .ok (.iadd, 1) := by decide +kernel
theorem dX8_back_101 : decode cX8_back 101 = .ok (.iaload, 1) := by decide +kernel
theorem dX8_back_102 : decode cX8_back 102 = .ok (.iastore, 1) := by decide +kernel
theorem dX8_back_103 : decode cX8_back 103 = .ok (.aload_n 0, 1) := by decide +kernel
theorem dX8_back_104 : decode cX8_back 104 = .ok (.getfield 19, 3) := by decide +kernel
theorem dX8_back_107 : decode cX8_back 107 = .ok (.iload_n 1, 1) := by decide +kernel
theorem dX8_back_108 : decode cX8_back 108 = .ok (.aload_n 0, 1) := by decide +kernel
theorem dX8_back_109 : decode cX8_back 109 = .ok (.getfield 70, 3) := by decide +kernel
theorem dX8_back_112 : decode cX8_back 112 = .ok (.bipush 72, 2) := by decide +kernel
theorem dX8_back_114 : decode cX8_back 114 = .ok (.iload_n 1, 1) := by decide +kernel
theorem dX8_back_115 : decode cX8_back 115 = .ok (.iadd, 1) := by decide +kernel
theorem dX8_back_116 : decode cX8_back 116 = .ok (.iaload, 1) := by decide +kernel
theorem dX8_back_117 : decode cX8_back 117 = .ok (.iastore, 1) := by decide +kernel
theorem dX8_back_118 : decode cX8_back 118 = .ok (.iinc 1 1, 3) := by decide +kernel
theorem dX8_back_121 : decode cX8_back 121 = .ok (.goto (-51), 3) := by decide +kernel
theorem dX8_back_124 : decode cX8_back 124 = .ok (.aload_n 0, 1) := by decide +kernel
theorem dX8_back_125 : decode cX8_back 125 = .ok (.getfield 112, 3) := by decide +kernel
theorem dX8_back_128 : decode cX8_back 128 = .ok (.ireturn, 1) := by decide +kernel
set_option maxRecDepth 20000 in
theorem ggX8_sheet_X8_within : GoodIn wsX8_sheet wsX8_within := goodIn_r _ [7] (by decide +kernel) (by decide +kernel)
set_option maxRecDepth 20000 in
theorem gX8_sheet_X8_within : GoodIn wsX8_sheet (va_wsS RX8 108 yX8_within wsX8_within) := goodIn_app (goodIn_of _ (by decide +kernel)) ggX8_sheet_X8_within
theorem dX8_sheet_0 : decode cX8_sheet 0 = .ok (.iload_n 1, 1) := by decide +kernel
theorem dX8_sheet_1 : decode cX8_sheet 1 = .ok (.iconst 0, 1) := by decide +kernel
theorem dX8_sheet_2 : decode cX8_sheet 2 = .ok (.iconst 3, 1) := by decide +kernel
theorem dX8_sheet_3 : decode cX8_sheet 3 = .ok (.invokestatic 108, 3) := by decide +kernel
theorem dX8_sheet_6 : decode cX8_sheet 6 = .ok (.ifCond .eq 12, 3) := by decide +kernel
theorem dX8_sheet_9 : decode cX8_sheet 9 = .ok (.iload_n 2, 1) := by decide +kernel
theorem dX8_sheet_10 : decode cX8_sheet 10 = .ok (.iconst (-1), 1) := by decide +kernel
theorem dX8_sheet_11 : decode cX8_sheet 11 = .ok (.iconst 2, 1) := by decide +kernel
theorem dX8_sheet_12 : decode cX8_sheet 12 = .ok (.invokestatic 108, 3) := by decide +kernel
theorem dX8_sheet_15 : decode cX8_sheet 15 = .ok (.ifCond .ne 6, 3) := by decide +kernel
theorem dX8_sheet_18 : decode cX8_sheet 18 = .ok (.bipush (-2), 2) := by decide +kernel
theorem dX8_sheet_20 : decode cX8_sheet 20 = .ok (.ireturn, 1) := by decide +kernel
theorem dX8_sheet_21 : decode cX8_sheet 21 = .ok (.iload_n 2, 1) := by decide +kernel
theorem dX8_sheet_22 : decode cX8_sheet 22 = .ok (.iconst (-1), 1) := by decide +kernel
theorem dX8_sheet_23 : decode cX8_sheet 23 = .ok (.if_icmp .ne 12, 3) := by decide +kernel
theorem dX8_sheet_26 : decode cX8_sheet 26 = .ok (.aload_n 0, 1) := by decide +kernel
theorem dX8_sheet_27 : decode cX8_sheet 27 = .ok (.getfield 73, 3) := by decide +kernel
theorem dX8_sheet_30 : decode cX8_sheet 30 = .ok (.iload_n 1, 1) := by decide +kernel
theorem dX8_sheet_31 : decode cX8_sheet 31 = .ok (.iconst (-1), 1) := by decide +kernel
theorem dX8_sheet_32 : decode cX8_sheet 32 = .ok (.iastore, 1) := by decide +kernel
theorem dX8_sheet_33 : decode cX8_sheet 33 = .ok (.iconst 1, 1) := by decide +kernel
theorem dX8_sheet_34 : decode cX8_sheet 34 = .ok (.ireturn, 1) := by decide +kernel
theorem dX8_sheet_35 : decode cX8_sheet 35 = .ok (.iload_n 3, 1) := by decide +kernel
theorem dX8_sheet_36 : decode cX8_sheet 36 = .ok (.bipush 40, 2) := by decide +kernel
theorem dX8_sheet_38 : decode cX8_sheet 38 = .ok (.if_icmp .le 6, 3) := by decide +kernel
theorem dX8_sheet_41 : decode cX8_sheet 41 = .ok (.bipush (-2), 2) := by decide +kernel
theorem dX8_sheet_43 : decode cX8_sheet 43 = .ok (.ireturn, 1) := by decide +kernel
theorem dX8_sheet_44 : decode cX8_sheet 44 = .ok (.iload_n 3, 1) := by decide +kernel
theorem dX8_sheet_45 : decode cX8_sheet 45 = .ok (.ifCond .ge 6, 3) := by decide +kernel
theorem dX8_sheet_48 : decode cX8_sheet 48 = .ok (.bipush (-14), 2) := by decide +kernel
theorem dX8_sheet_50 : decode cX8_sheet 50 = .ok (.ireturn, 1) := by decide +kernel
theorem dX8_sheet_51 : decode cX8_sheet 51 = .ok (.aload_n 0, 1) := by decide +kernel
theorem dX8_sheet_52 : decode cX8_sheet 52 = .ok (.getfield 73, 3) := by decide +kernel
theorem dX8_sheet_55 : decode cX8_sheet 55 = .ok (.iload_n 1, 1) := by decide +kernel
theorem dX8_sheet_56 : decode cX8_sheet 56 = .ok (.iload_n 2, 1) := by decide +kernel
theorem dX8_sheet_57 : decode cX8_sheet 57 = .ok (.iastore, 1) := by decide +kernel
theorem dX8_sheet_58 : decode cX8_sheet 58 = .ok (.aload_n 0, 1) := by decide +kernel
theorem dX8_sheet_59 : decode cX8_sheet 59 = .ok (.getfield 76, 3) := by decide +kernel
theorem dX8_sheet_62 : decode cX8_sheet 62 = .ok (.iload_n 1, 1) := by decide +kernel
theorem dX8_sheet_63 : decode cX8_sheet 63 = .ok (.iload_n 3, 1) := by decide +kernel
theorem dX8_sheet_64 : decode cX8_sheet 64 = .ok (.iastore, 1) := by decide +kernel
theorem dX8_sheet_65 : decode cX8_sheet 65 = .ok (.iconst 0, 1) := by decide +kernel
theorem dX8_sheet_66 : decode cX8_sheet 66 = .ok (.istore 4, 2) := by decide +kernel
theorem dX8_sheet_68 : decode cX8_sheet 68 = .ok (.iload 4, 2) := by decide +kernel
theorem dX8_sheet_70 : decode cX8_sheet 70 = .ok (.bipush 40, 2) := by decide +kernel
theorem dX8_sheet_72 : decode cX8_sheet 72 = .ok (.if_icmp .ge 22, 3) := by decide +kernel
theorem dX8_sheet_75 : decode cX8_sheet 75 = .ok (.aload_n 0, 1) := by decide +kernel
theorem dX8_sheet_76 : decode cX8_sheet 76 = .ok (.getfield 79, 3) := by decide +kernel
theorem dX8_sheet_79 : decode cX8_sheet 79 = .ok (.bipush 40, 2) := by decide +kernel
theorem dX8_sheet_81 : decode cX8_sheet 81 = .ok (.iload_n 1, 1) := by decide +kernel
theorem dX8_sheet_82 : decode cX8_sheet 82 = .ok (.imul, 1) := by decide +kernel
theorem dX8_sheet_83 : decode cX8_sheet 83 = .ok (.iload 4, 2) := by decide +kernel
theorem dX8_sheet_85 : decode cX8_sheet 85 = .ok (.iadd, 1) := by decide +kernel
theorem dX8_sheet_86 : decode cX8_sheet 86 = .ok (.iconst 0, 1) := by decide +kernel
theorem dX8_sheet_87 : decode cX8_sheet 87 = .ok (.iastore, 1) := by decide +kernel
theorem dX8_sheet_88 : decode cX8_sheet 88 = .ok (.iinc 4 1, 3) := by decide +kernel
theorem dX8_sheet_91 : decode cX8_sheet 91 = .ok (.goto (-23), 3) := by decide +kernel
theorem dX8_sheet_94 : decode cX8_sheet 94 = .ok (.iconst 1, 1) := by decide +kernel
theorem dX8_sheet_95 : decode cX8_sheet 95 = .ok (.ireturn, 1) := by decide +kernel
set_option maxRecDepth 20000 in
theorem ggX8_cell_X8_within : GoodIn wsX8_cell wsX8_within := goodIn_r _ [7] (by decide +kernel) (by decide +kernel)
set_option maxRecDepth 20000 in
theorem gX8_cell_X8_within : GoodIn wsX8_cell (va_wsS RX8 108 yX8_within wsX8_within) := goodIn_app (goodIn_of _ (by decide +kernel)) ggX8_cell_X8_within
theorem dX8_cell_0 : decode cX8_cell 0 = .ok (.iload_n 1, 1) := by decide +kernel
theorem dX8_cell_1 : decode cX8_cell 1 = .ok (.iconst 0, 1) := by decide +kernel
theorem dX8_cell_2 : decode cX8_cell 2 = .ok (.iconst 3, 1) := by decide +kernel
theorem dX8_cell_3 : decode cX8_cell 3 = .ok (.invokestatic 108, 3) := by decide +kernel
theorem dX8_cell_6 : decode cX8_cell 6 = .ok (.ifCond .ne 6, 3) := by decide +kernel
theorem dX8_cell_9 : decode cX8_cell 9 = .ok (.bipush (-2), 2) := by decide +kernel
theorem dX8_cell_11 : decode cX8_cell 11 = .ok (.ireturn, 1) := by decide +kernel
theorem dX8_cell_12 : decode cX8_cell 12 = .ok (.aload_n 0, 1) := by decide +kernel
theorem dX8_cell_13 : decode cX8_cell 13 = .ok (.getfield 73, 3) := by decide +kernel
theorem dX8_cell_16 : decode cX8_cell 16 = .ok (.iload_n 1, 1) := by decide +kernel
theorem dX8_cell_17 : decode cX8_cell 17 = .ok (.iaload, 1) := by decide +kernel
theorem dX8_cell_18 : decode cX8_cell 18 = .ok (.iconst (-1), 1) := by decide +kernel
theorem dX8_cell_19 : decode cX8_cell 19 = .ok (.if_icmp .ne 6, 3) := by decide +kernel
theorem dX8_cell_22 : decode cX8_cell 22 = .ok (.bipush (-11), 2) := by decide +kernel
theorem dX8_cell_24 : decode cX8_cell 24 = .ok (.ireturn, 1) := by decide +kernel
theorem dX8_cell_25 : decode cX8_cell 25 = .ok (.iload_n 2, 1) := by decide +kernel
theorem dX8_cell_26 : decode cX8_cell 26 = .ok (.iconst 0, 1) := by decide +kernel
theorem dX8_cell_27 : decode cX8_cell 27 = .ok (.aload_n 0, 1) := by decide +kernel
theorem dX8_cell_28 : decode cX8_cell 28 = .ok (.getfield 76, 3) := by decide +kernel
theorem dX8_cell_31 : decode cX8_cell 31 = .ok (.iload_n 1, 1) := by decide +kernel
theorem dX8_cell_32 : decode cX8_cell 32 = .ok (.iaload, 1) := by decide +kernel
theorem dX8_cell_33 : decode cX8_cell 33 = .ok (.iconst 1, 1) := by decide +kernel
theorem dX8_cell_34 : decode cX8_cell 34 = .ok (.isub, 1) := by decide +kernel
theorem dX8_cell_35 : decode cX8_cell 35 = .ok (.invokestatic 108, 3) := by decide +kernel
theorem dX8_cell_38 : decode cX8_cell 38 = .ok (.ifCond .ne 6, 3) := by decide +kernel
theorem dX8_cell_41 : decode cX8_cell 41 = .ok (.bipush (-12), 2) := by decide +kernel
theorem dX8_cell_43 : decode cX8_cell 43 = .ok (.ireturn, 1) := by decide +kernel
theorem dX8_cell_44 : decode cX8_cell 44 = .ok (.aload_n 0, 1) := by decide +kernel
theorem dX8_cell_45 : decode cX8_cell 45 = .ok (.getfield 79, 3) := by decide +kernel
theorem dX8_cell_48 : decode cX8_cell 48 = .ok (.bipush 40, 2) := by decide +kernel
theorem dX8_cell_50 : decode cX8_cell 50 = .ok (.iload_n 1, 1) := by decide +kernel
theorem dX8_cell_51 : decode cX8_cell 51 = .ok (.imul, 1) := by decide +kernel
theorem dX8_cell_52 : decode cX8_cell 52 = .ok (.iload_n 2, 1) := by decide +kernel
theorem dX8_cell_53 : decode cX8_cell 53 = .ok (.iadd, 1) := by decide +kernel
theorem dX8_cell_54 : decode cX8_cell 54 = .ok (.aload_n 0, 1) := by decide +kernel
theorem dX8_cell_55 : decode cX8_cell 55 = .ok (.getfield 73, 3) := by decide +kernel
theorem dX8_cell_58 : decode cX8_cell 58 = .ok (.iload_n 1, 1) := by decide +kernel
theorem dX8_cell_59 : decode cX8_cell 59 = .ok (.iaload, 1) := by decide +kernel
theorem dX8_cell_60 : decode cX8_cell 60 = .ok (.ifCond .ne 8, 3) := by decide +kernel
theorem dX8_cell_63 : decode cX8_cell 63 = .ok (.iload_n 3, 1) := by decide +kernel
theorem dX8_cell_64 : decode cX8_cell 64 = .ok (.i2b, 1) := by decide +kernel
theorem dX8_cell_65 : decode cX8_cell 65 = .ok (.goto 19, 3) := by decide +kernel
theorem dX8_cell_68 : decode cX8_cell 68 = .ok (.aload_n 0, 1) := by decide +kernel
theorem dX8_cell_69 : decode cX8_cell 69 = .ok (.getfield 73, 3) := by decide +kernel
theorem dX8_cell_72 : decode cX8_cell 72 = .ok (.iload_n 1, 1) := by decide +kernel
theorem dX8_cell_73 : decode cX8_cell 73 = .ok (.iaload, 1) := by decide +kernel
theorem dX8_cell_74 : decode cX8_cell 74 = .ok (.iconst 1, 1) := by decide +kernel
theorem dX8_cell_75 : decode cX8_cell 75 = .ok (.if_icmp .ne 8, 3) := by decide +kernel
theorem dX8_cell_78 : decode cX8_cell 78 = .ok (.iload_n 3, 1) := by decide +kernel
theorem dX8_cell_79 : decode cX8_cell 79 = .ok (.i2s, 1) := by decide +kernel
theorem dX8_cell_80 : decode cX8_cell 80 = .ok (.goto 4, 3) := by decide +kernel
theorem dX8_cell_83 : decode cX8_cell 83 = .ok (.iload_n 3, 1) := by decide +kernel
theorem dX8_cell_84 : decode cX8_cell 84 = .ok (.iastore, 1) := by decide +kernel
theorem dX8_cell_85 : decode cX8_cell 85 = .ok (.iconst 1, 1) := by decide +kernel
theorem dX8_cell_86 : decode cX8_cell 86 = .ok (.ireturn, 1) := by decide +kernel
set_option maxRecDepth 20000 in
theorem ggX8_copy_X8_within : GoodIn wsX8_copy wsX8_within := goodIn_r _ [8] (by decide +kernel) (by decide +kernel)
set_option maxRecDepth 20000 in
theorem gX8_copy_X8_within : GoodIn wsX8_copy (va_wsS RX8 108 yX8_within wsX8_within) := goodIn_app (goodIn_of _ (by decide +kernel)) ggX8_copy_X8_within
theorem dX8_copy_0 : decode cX8_copy 0 = .ok (.iload_n 1, 1) := by decide +kernel
theorem dX8_copy_1 : decode cX8_copy 1 = .ok (.iconst 0, 1) := by decide +kernel
theorem dX8_copy_2 : decode cX8_copy 2 = .ok (.iconst 3, 1) := by decide +kernel
theorem dX8_copy_3 : decode cX8_copy 3 = .ok (.invokestatic 108, 3) := by decide +kernel
theorem dX8_copy_6 : decode cX8_copy 6 = .ok (.ifCond .eq 12, 3) := by decide +kernel
theorem dX8_copy_9 : decode cX8_copy 9 = .ok (.iload_n 3, 1) := by decide +kernel
theorem dX8_copy_10 : decode cX8_copy 10 = .ok (.iconst 0, 1) := by decide +kernel
theorem dX8_copy_11 : decode cX8_copy 11 = .ok (.iconst 3, 1) := by decide +kernel
theorem dX8_copy_12 : decode cX8_copy 12 = .ok (.invokestatic 108, 3) := by decide +kernel
theorem dX8_copy_15 : decode cX8_copy 15 = .ok (.ifCond .ne 6, 3) := by decide +kernel
theorem dX8_copy_18 : decode cX8_copy 18 = .ok (.bipush (-2), 2) := by decide +kernel
theorem dX8_copy_20 : decode cX8_copy 20 = .ok (.ireturn, 1) := by decide +kernel
theorem dX8_copy_21 : decode cX8_copy 21 = .ok (.aload_n 0, 1) := by decide +kernel
theorem dX8_copy_22 : decode cX8_copy 22 = .ok (.getfield 73, 3) := by decide +kernel
theorem dX8_copy_25 : decode cX8_copy 25 = .ok (.iload_n 1, 1) := by decide +kernel
theorem dX8_copy_26 : decode cX8_copy 26 = .ok (.iaload, 1) := by decide +kernel
theorem dX8_copy_27 : decode cX8_copy 27 = .ok (.iconst (-1), 1) := by decide +kernel
theorem dX8_copy_28 : decode cX8_copy 28 = .ok (.if_icmp .eq 13, 3) := by decide +kernel
theorem dX8_copy_31 : decode cX8_copy 31 = .ok (.aload_n 0, 1) := by decide +kernel
theorem dX8_copy_32 : decode cX8_copy 32 = .ok (.getfield 73, 3) := by decide +kernel
theorem dX8_copy_35 : decode cX8_copy 35 = .ok (.iload_n 3, 1) := by decide +kernel
theorem dX8_copy_36 : decode cX8_copy 36 = .ok (.iaload, 1) := by decide +kernel
theorem dX8_copy_37 : decode cX8_copy 37 = .ok (.iconst (-1), 1) := by decide +kernel
theorem dX8_copy_38 : decode cX8_copy 38 = .ok (.if_icmp .ne 6, 3) := by decide +kernel
theorem dX8_copy_41 : decode cX8_copy 41 = .ok (.bipush (-11), 2) := by decide +kernel
theorem dX8_copy_43 : decode cX8_copy 43 = .ok (.ireturn, 1) := by decide +kernel
theorem dX8_copy_44 : decode cX8_copy 44 = .ok (.aload_n 0, 1) := by decide +kernel
theorem dX8_copy_45 : decode cX8_copy 45 = .ok (.getfield 73, 3) := by decide +kernel
theorem dX8_copy_48 : decode cX8_copy 48 = .ok (.iload_n 1, 1) := by decide +kernel
theorem dX8_copy_49 : decode cX8_copy 49 = .ok (.iaload, 1) := by decide +kernel
theorem dX8_copy_50 : decode cX8_copy 50 = .ok (.aload_n 0, 1) := by decide +kernel
theorem dX8_copy_51 : decode cX8_copy 51 = .ok (.getfield 73, 3) := by decide +kernel
theorem dX8_copy_54 : decode cX8_copy 54 = .ok (.iload_n 3, 1) := by decide +kernel
theorem dX8_copy_55 : decode cX8_copy 55 = .ok (.iaload, 1) := by decide +kernel
theorem dX8_copy_56 : decode cX8_copy 56 = .ok (.if_icmp .eq 6, 3) := by decide +kernel
theorem dX8_copy_59 : decode cX8_copy 59 = .ok (.bipush (-13), 2) := by decide +kernel
theorem dX8_copy_61 : decode cX8_copy 61 = .ok (.ireturn, 1) := by decide +kernel
theorem dX8_copy_62 : decode cX8_copy 62 = .ok (.iload_n 2, 1) := by decide +kernel
theorem dX8_copy_63 : decode cX8_copy 63 = .ok (.ifCond .lt 48, 3) := by decide +kernel
theorem dX8_copy_66 : decode cX8_copy 66 = .ok (.iload 4, 2) := by decide +kernel
theorem dX8_copy_68 : decode cX8_copy 68 = .ok (.ifCond .lt 43, 3) := by decide +kernel
theorem dX8_copy_71 : decode cX8_copy 71 = .ok (.iload 5, 2) := by decide +kernel
theorem dX8_copy_73 : decode cX8_copy 73 = .ok (.ifCond .lt 38, 3) := by decide +kernel
theorem dX8_copy_76 : decode cX8_copy 76 = .ok (.iload_n 2, 1) := by decide +kernel
theorem dX8_copy_77 : decode cX8_copy 77 = .ok (.i2l, 1) := by decide +kernel
theorem dX8_copy_78 : decode cX8_copy 78 = .ok (.iload 5, 2) := by decide +kernel
theorem dX8_copy_80 : decode cX8_copy 80 = .ok (.i2l, 1) := by decide +kernel
theorem dX8_copy_81 : decode cX8_copy 81 = .ok (.ladd, 1) := by decide +kernel
theorem dX8_copy_82 : decode cX8_copy 82 = .ok (.aload_n 0, 1) := by decide +kernel
theorem dX8_copy_83 : decode cX8_copy 83 = .ok (.getfield 76, 3) := by decide +kernel
theorem dX8_copy_86 : decode cX8_copy 86 = .ok (.iload_n 1, 1) := by decide +kernel
theorem dX8_copy_87 : decode cX8_copy 87 = .ok (.iaload, 1) := by decide +kernel
theorem dX8_copy_88 : decode cX8_copy 88 = .ok (.i2l, 1) := by decide +kernel
theorem dX8_copy_89 : decode cX8_copy 89 = .ok (.lcmp, 1) := by decide +kernel
theorem dX8_copy_90 : decode cX8_copy 90 = .ok (.ifCond .gt 21, 3) := by decide +kernel
theorem dX8_copy_93 : decode cX8_copy 93 = .ok (.iload 4, 2) := by decide +kernel
theorem dX8_copy_95 : decode cX8_copy 95 = .ok (.i2l, 1) := by decide +kernel
theorem dX8_copy_96 : decode cX8_copy 96 = .ok (.iload 5, 2) := by decide +kernel
theorem dX8_copy_98 : decode cX8_copy 98 = .ok (.i2l, 1) := by decide +kernel
theorem dX8_copy_99 : decode cX8_copy 99 = .ok (.ladd, 1) := by decide +kernel
theorem dX8_copy_100 : decode cX8_copy 100 = .ok (.aload_n 0, 1) := by decide +kernel
theorem dX8_copy_101 : decode cX8_copy 101 = .ok (.getfield 76, 3) := by decide +kernel
theorem dX8_copy_104 : decode cX8_copy 104 = .ok (.iload_n 3, 1) := by decide +kernel
theorem dX8_copy_105 : decode cX8_copy 105 = .ok (.iaload, 1) := by decide +kernel
theorem dX8_copy_106 : decode cX8_copy 106 = .ok (.i2l, 1) := by decide +kernel
theorem dX8_copy_107 : decode cX8_copy 107 = .ok (.lcmp, 1) := by decide +kernel
theorem dX8_copy_108 : decode cX8_copy 108 = .ok (.ifCond .le 6, 3) := by decide +kernel
theorem dX8_copy_111 : decode cX8_copy 111 = .ok (.bipush (-12), 2) := by decide +kernel
theorem dX8_copy_113 : decode cX8_copy 113 = .ok (.ireturn, 1) := by decide +kernel
theorem dX8_copy_114 : decode cX8_copy 114 = .ok (.iconst 0, 1) := by decide +kernel
theorem dX8_copy_115 : decode cX8_copy 115 = .ok (.istore 6, 2) := by decide +kernel
theorem dX8_copy_117 : decode cX8_copy 117 = .ok (.iload 6, 2) := by decide +kernel
theorem dX8_copy_119 : decode cX8_copy 119 = .ok (.iload 5, 2) := by decide +kernel
theorem dX8_copy_121 : decode cX8_copy 121 = .ok (.if_icmp .ge 30, 3) := by decide +kernel
theorem dX8_copy_124 : decode cX8_copy 124 = .ok (.aload_n 0, 1) := by decide +kernel
theorem dX8_copy_125 : decode cX8_copy 125 = .ok (.getfield 82, 3) := by decide +kernel
theorem dX8_copy_128 : decode cX8_copy 128 = .ok (.iload 6, 2) := by decide +kernel
theorem dX8_copy_130 : decode cX8_copy 130 = .ok (.aload_n 0, 1) := by decide +kernel
theorem dX8_copy_131 : decode cX8_copy 131 = .ok (.getfield 79, 3) := by decide +kernel
theorem dX8_copy_134 : decode cX8_copy 134 = .ok (.bipush 40, 2) := by decide +kernel
theorem dX8_copy_136 : decode cX8_copy 136 = .ok (.iload_n 1, 1) := by decide +kernel
theorem dX8_copy_137 : decode cX8_copy 137 = .ok (.imul, 1) := by decide +kernel
theorem dX8_copy_138 : decode cX8_copy 138 = .ok (.iload_n 2, 1) := by decide +kernel
theorem dX8_copy_139 : decode cX8_copy 139 = .ok (.iadd, 1) := by decide +kernel
theorem dX8_copy_140 : decode cX8_copy 140 = .ok (.iload 6, 2) := by decide +kernel
theorem dX8_copy_142 : decode cX8_copy 142 = .ok (.iadd, 1) := by decide +kernel
theorem dX8_copy_143 : decode cX8_copy 143 = .ok (.iaload, 1) := by decide +kernel
theorem dX8_copy_144 : decode cX8_copy 144 = .ok (.iastore, 1) := by decide +kernel
theorem dX8_copy_145 : decode cX8_copy 145 = .ok (.iinc 6 1, 3) := by decide +kernel
theorem dX8_copy_148 : decode cX8_copy 148 = .ok (.goto (-31), 3) := by decide +kernel
theorem dX8_copy_151 : decode cX8_copy 151 = .ok (.iconst 0, 1) := by decide +kernel
theorem dX8_copy_152 : decode cX8_copy 152 = .ok (.istore 6, 2) := by decide +kernel
theorem dX8_copy_154 : decode cX8_copy 154 = .ok (.iload 6, 2) := by decide +kernel
theorem dX8_copy_156 : decode cX8_copy 156 = .ok (.iload 5, 2) := by decide +kernel
theorem dX8_copy_158 : decode cX8_copy 158 = .ok (.if_icmp .ge 31, 3) := by decide +kernel
theorem dX8_copy_161 : decode cX8_copy 161 = .ok (.aload_n 0, 1) := by decide +kernel
