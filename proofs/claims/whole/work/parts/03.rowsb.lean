theorem dX7_init_0 : decode cX7_init 0 = .ok (.aload_n 0, 1) := by decide +kernel
theorem dX7_init_1 : decode cX7_init 1 = .ok (.invokespecial 1, 3) := by decide +kernel
theorem dX7_init_4 : decode cX7_init 4 = .ok (.aload_n 0, 1) := by decide +kernel
theorem dX7_init_5 : decode cX7_init 5 = .ok (.new 7, 3) := by decide +kernel
theorem dX7_init_8 : decode cX7_init 8 = .ok (.dup, 1) := by decide +kernel
theorem dX7_init_9 : decode cX7_init 9 = .ok (.invokespecial 9, 3) := by decide +kernel
theorem dX7_init_12 : decode cX7_init 12 = .ok (.putfield 10, 3) := by decide +kernel
theorem dX7_init_15 : decode cX7_init 15 = .ok (.aload_n 0, 1) := by decide +kernel
theorem dX7_init_16 : decode cX7_init 16 = .ok (.new 7, 3) := by decide +kernel
theorem dX7_init_19 : decode cX7_init 19 = .ok (.dup, 1) := by decide +kernel
theorem dX7_init_20 : decode cX7_init 20 = .ok (.invokespecial 9, 3) := by decide +kernel
theorem dX7_init_23 : decode cX7_init 23 = .ok (.putfield 16, 3) := by decide +kernel
theorem dX7_init_26 : decode cX7_init 26 = .ok (.aload_n 0, 1) := by decide +kernel
theorem dX7_init_27 : decode cX7_init 27 = .ok (.new 7, 3) := by decide +kernel
theorem dX7_init_30 : decode cX7_init 30 = .ok (.dup, 1) := by decide +kernel
theorem dX7_init_31 : decode cX7_init 31 = .ok (.invokespecial 9, 3) := by decide +kernel
theorem dX7_init_34 : decode cX7_init 34 = .ok (.putfield 19, 3) := by decide +kernel
theorem dX7_init_37 : decode cX7_init 37 = .ok (.aload_n 0, 1) := by decide +kernel
theorem dX7_init_38 : decode cX7_init 38 = .ok (.new 22, 3) := by decide +kernel
theorem dX7_init_41 : decode cX7_init 41 = .ok (.dup, 1) := by decide +kernel
theorem dX7_init_42 : decode cX7_init 42 = .ok (.invokespecial 24, 3) := by decide +kernel
theorem dX7_init_45 : decode cX7_init 45 = .ok (.putfield 25, 3) := by decide +kernel
theorem dX7_init_48 : decode cX7_init 48 = .ok (.aload_n 0, 1) := by decide +kernel
theorem dX7_init_49 : decode cX7_init 49 = .ok (.new 29, 3) := by decide +kernel
theorem dX7_init_52 : decode cX7_init 52 = .ok (.dup, 1) := by decide +kernel
theorem dX7_init_53 : decode cX7_init 53 = .ok (.invokespecial 31, 3) := by decide +kernel
theorem dX7_init_56 : decode cX7_init 56 = .ok (.putfield 32, 3) := by decide +kernel
theorem dX7_init_59 : decode cX7_init 59 = .ok (.aload_n 0, 1) := by decide +kernel
theorem dX7_init_60 : decode cX7_init 60 = .ok (.new 36, 3) := by decide +kernel
theorem dX7_init_63 : decode cX7_init 63 = .ok (.dup, 1) := by decide +kernel
theorem dX7_init_64 : decode cX7_init 64 = .ok (.invokespecial 38, 3) := by decide +kernel
theorem dX7_init_67 : decode cX7_init 67 = .ok (.putfield 39, 3) := by decide +kernel
theorem dX7_init_70 : decode cX7_init 70 = .ok (.aload_n 0, 1) := by decide +kernel
theorem dX7_init_71 : decode cX7_init 71 = .ok (.bipush 6, 2) := by decide +kernel
theorem dX7_init_73 : decode cX7_init 73 = .ok (.anewarray 43, 3) := by decide +kernel
theorem dX7_init_76 : decode cX7_init 76 = .ok (.putfield 45, 3) := by decide +kernel
theorem dX7_init_79 : decode cX7_init 79 = .ok (.aload_n 0, 1) := by decide +kernel
theorem dX7_init_80 : decode cX7_init 80 = .ok (.iconst 4, 1) := by decide +kernel
theorem dX7_init_81 : decode cX7_init 81 = .ok (.anewarray 49, 3) := by decide +kernel
theorem dX7_init_84 : decode cX7_init 84 = .ok (.putfield 51, 3) := by decide +kernel
theorem dX7_init_87 : decode cX7_init 87 = .ok (.aload_n 0, 1) := by decide +kernel
theorem dX7_init_88 : decode cX7_init 88 = .ok (.bipush 6, 2) := by decide +kernel
theorem dX7_init_90 : decode cX7_init 90 = .ok (.newarray .int, 2) := by decide +kernel
theorem dX7_init_92 : decode cX7_init 92 = .ok (.putfield 55, 3) := by decide +kernel
theorem dX7_init_95 : decode cX7_init 95 = .ok (.aload_n 0, 1) := by decide +kernel
theorem dX7_init_96 : decode cX7_init 96 = .ok (.bipush 36, 2) := by decide +kernel
theorem dX7_init_98 : decode cX7_init 98 = .ok (.newarray .int, 2) := by decide +kernel
theorem dX7_init_100 : decode cX7_init 100 = .ok (.putfield 59, 3) := by decide +kernel
theorem dX7_init_103 : decode cX7_init 103 = .ok (.iconst 0, 1) := by decide +kernel
theorem dX7_init_104 : decode cX7_init 104 = .ok (.istore_n 1, 1) := by decide +kernel
theorem dX7_init_105 : decode cX7_init 105 = .ok (.iload_n 1, 1) := by decide +kernel
theorem dX7_init_106 : decode cX7_init 106 = .ok (.bipush 6, 2) := by decide +kernel
theorem dX7_init_108 : decode cX7_init 108 = .ok (.if_icmp .ge 22, 3) := by decide +kernel
theorem dX7_init_111 : decode cX7_init 111 = .ok (.aload_n 0, 1) := by decide +kernel
theorem dX7_init_112 : decode cX7_init 112 = .ok (.getfield 45, 3) := by decide +kernel
theorem dX7_init_115 : decode cX7_init 115 = .ok (.iload_n 1, 1) := by decide +kernel
theorem dX7_init_116 : decode cX7_init 116 = .ok (.new 43, 3) := by decide +kernel
theorem dX7_init_119 : decode cX7_init 119 = .ok (.dup, 1) := by decide +kernel
theorem dX7_init_120 : decode cX7_init 120 = .ok (.invokespecial 62, 3) := by decide +kernel
theorem dX7_init_123 : decode cX7_init 123 = .ok (.aastore, 1) := by decide +kernel
theorem dX7_init_124 : decode cX7_init 124 = .ok (.iinc 1 1, 3) := by decide +kernel
theorem dX7_init_127 : decode cX7_init 127 = .ok (.goto (-22), 3) := by decide +kernel
theorem dX7_init_130 : decode cX7_init 130 = .ok (.iconst 0, 1) := by decide +kernel
theorem dX7_init_131 : decode cX7_init 131 = .ok (.istore_n 1, 1) := by decide +kernel
theorem dX7_init_132 : decode cX7_init 132 = .ok (.iload_n 1, 1) := by decide +kernel
theorem dX7_init_133 : decode cX7_init 133 = .ok (.iconst 4, 1) := by decide +kernel
theorem dX7_init_134 : decode cX7_init 134 = .ok (.if_icmp .ge 22, 3) := by decide +kernel
theorem dX7_init_137 : decode cX7_init 137 = .ok (.aload_n 0, 1) := by decide +kernel
theorem dX7_init_138 : decode cX7_init 138 = .ok (.getfield 51, 3) := by decide +kernel
theorem dX7_init_141 : decode cX7_init 141 = .ok (.iload_n 1, 1) := by decide +kernel
theorem dX7_init_142 : decode cX7_init 142 = .ok (.new 49, 3) := by decide +kernel
theorem dX7_init_145 : decode cX7_init 145 = .ok (.dup, 1) := by decide +kernel
theorem dX7_init_146 : decode cX7_init 146 = .ok (.invokespecial 63, 3) := by decide +kernel
theorem dX7_init_149 : decode cX7_init 149 = .ok (.aastore, 1) := by decide +kernel
theorem dX7_init_150 : decode cX7_init 150 = .ok (.iinc 1 1, 3) := by decide +kernel
theorem dX7_init_153 : decode cX7_init 153 = .ok (.goto (-21), 3) := by decide +kernel
theorem dX7_init_156 : decode cX7_init 156 = .ok (.iconst 0, 1) := by decide +kernel
theorem dX7_init_157 : decode cX7_init 157 = .ok (.istore_n 1, 1) := by decide +kernel
theorem dX7_init_158 : decode cX7_init 158 = .ok (.iload_n 1, 1) := by decide +kernel
theorem dX7_init_159 : decode cX7_init 159 = .ok (.ldc 64, 2) := by decide +kernel
theorem dX7_init_161 : decode cX7_init 161 = .ok (.invokevirtual 66, 3) := by decide +kernel
theorem dX7_init_164 : decode cX7_init 164 = .ok (.if_icmp .ge 22, 3) := by decide +kernel
theorem dX7_init_167 : decode cX7_init 167 = .ok (.aload_n 0, 1) := by decide +kernel
theorem dX7_init_168 : decode cX7_init 168 = .ok (.getfield 39, 3) := by decide +kernel
theorem dX7_init_171 : decode cX7_init 171 = .ok (.ldc 64, 2) := by decide +kernel
theorem dX7_init_173 : decode cX7_init 173 = .ok (.iload_n 1, 1) := by decide +kernel
theorem dX7_init_174 : decode cX7_init 174 = .ok (.invokevirtual 72, 3) := by decide +kernel
theorem dX7_init_177 : decode cX7_init 177 = .ok (.invokevirtual 76, 3) := by decide +kernel
theorem dX7_init_180 : decode cX7_init 180 = .ok (.iinc 1 1, 3) := by decide +kernel
theorem dX7_init_183 : decode cX7_init 183 = .ok (.goto (-25), 3) := by decide +kernel
theorem dX7_init_186 : decode cX7_init 186 = .ok (.aload_n 0, 1) := by decide +kernel
theorem dX7_init_187 : decode cX7_init 187 = .ok (.getfield 39, 3) := by decide +kernel
theorem dX7_init_190 : decode cX7_init 190 = .ok (.aload_n 0, 1) := by decide +kernel
theorem dX7_init_191 : decode cX7_init 191 = .ok (.getfield 45, 3) := by decide +kernel
theorem dX7_init_194 : decode cX7_init 194 = .ok (.iconst 0, 1) := by decide +kernel
theorem dX7_init_195 : decode cX7_init 195 = .ok (.aaload, 1) := by decide +kernel
theorem dX7_init_196 : decode cX7_init 196 = .ok (.invokevirtual 80, 3) := by decide +kernel
theorem dX7_init_199 : decode cX7_init 199 = .ok (.pop, 1) := by decide +kernel
theorem dX7_init_200 : decode cX7_init 200 = .ok (.aload_n 0, 1) := by decide +kernel
theorem dX7_init_201 : decode cX7_init 201 = .ok (.iconst 1, 1) := by decide +kernel
theorem dX7_init_202 : decode cX7_init 202 = .ok (.putfield 84, 3) := by decide +kernel
theorem dX7_init_205 : decode cX7_init 205 = .ok (.return_, 1) := by decide +kernel
set_option maxRecDepth 20000 in
theorem ggX7_sky_X7_isDay : GoodIn wsX7_sky wsX7_isDay := goodIn_r _ [5, 6, 7, 4, 8] (by decide +kernel) (by decide +kernel)
set_option maxRecDepth 20000 in
theorem gX7_sky_X7_isDay : GoodIn wsX7_sky (va_wsS RX7 88 yX7_isDay wsX7_isDay) := goodIn_app (goodIn_of _ (by decide +kernel)) ggX7_sky_X7_isDay
set_option maxRecDepth 20000 in
theorem ggX7_sky_X7_within : GoodIn wsX7_sky wsX7_within := goodIn_r _ [8] (by decide +kernel) (by decide +kernel)
set_option maxRecDepth 20000 in
theorem gX7_sky_X7_within : GoodIn wsX7_sky (va_wsS RX7 92 yX7_within wsX7_within) := goodIn_app (goodIn_of _ (by decide +kernel)) ggX7_sky_X7_within
set_option maxRecDepth 20000 in
theorem ggX7_sky_X7_mostOfSky : GoodIn wsX7_sky wsX7_mostOfSky := goodIn_r _ [11] (by decide +kernel) (by decide +kernel)
set_option maxRecDepth 20000 in
theorem gX7_sky_X7_mostOfSky : GoodIn wsX7_sky (va_wsS RX7 96 yX7_mostOfSky wsX7_mostOfSky) := goodIn_app (goodIn_of _ (by decide +kernel)) ggX7_sky_X7_mostOfSky
theorem dX7_sky_0 : decode cX7_sky 0 = .ok (.iload_n 1, 1) := by decide +kernel
theorem dX7_sky_1 : decode cX7_sky 1 = .ok (.invokestatic 88, 3) := by decide +kernel
theorem dX7_sky_4 : decode cX7_sky 4 = .ok (.ifCond .ne 6, 3) := by decide +kernel
theorem dX7_sky_7 : decode cX7_sky 7 = .ok (.bipush (-5), 2) := by decide +kernel
theorem dX7_sky_9 : decode cX7_sky 9 = .ok (.ireturn, 1) := by decide +kernel
theorem dX7_sky_10 : decode cX7_sky 10 = .ok (.iload_n 2, 1) := by decide +kernel
theorem dX7_sky_11 : decode cX7_sky 11 = .ok (.iconst 0, 1) := by decide +kernel
theorem dX7_sky_12 : decode cX7_sky 12 = .ok (.iconst 3, 1) := by decide +kernel
theorem dX7_sky_13 : decode cX7_sky 13 = .ok (.invokestatic 92, 3) := by decide +kernel
theorem dX7_sky_16 : decode cX7_sky 16 = .ok (.ifCond .eq 15, 3) := by decide +kernel
theorem dX7_sky_19 : decode cX7_sky 19 = .ok (.iload_n 3, 1) := by decide +kernel
theorem dX7_sky_20 : decode cX7_sky 20 = .ok (.iconst 0, 1) := by decide +kernel
theorem dX7_sky_21 : decode cX7_sky 21 = .ok (.iload_n 2, 1) := by decide +kernel
theorem dX7_sky_22 : decode cX7_sky 22 = .ok (.invokestatic 96, 3) := by decide +kernel
theorem dX7_sky_25 : decode cX7_sky 25 = .ok (.invokestatic 92, 3) := by decide +kernel
theorem dX7_sky_28 : decode cX7_sky 28 = .ok (.ifCond .ne 6, 3) := by decide +kernel
theorem dX7_sky_31 : decode cX7_sky 31 = .ok (.bipush (-7), 2) := by decide +kernel
theorem dX7_sky_33 : decode cX7_sky 33 = .ok (.ireturn, 1) := by decide +kernel
theorem dX7_sky_34 : decode cX7_sky 34 = .ok (.aload_n 0, 1) := by decide +kernel
theorem dX7_sky_35 : decode cX7_sky 35 = .ok (.getfield 10, 3) := by decide +kernel
theorem dX7_sky_38 : decode cX7_sky 38 = .ok (.getfield 100, 3) := by decide +kernel
theorem dX7_sky_41 : decode cX7_sky 41 = .ok (.iload_n 2, 1) := by decide +kernel
theorem dX7_sky_42 : decode cX7_sky 42 = .ok (.aaload, 1) := by decide +kernel
theorem dX7_sky_43 : decode cX7_sky 43 = .ok (.iload_n 1, 1) := by decide +kernel
theorem dX7_sky_44 : decode cX7_sky 44 = .ok (.iaload, 1) := by decide +kernel
theorem dX7_sky_45 : decode cX7_sky 45 = .ok (.istore 4, 2) := by decide +kernel
theorem dX7_sky_47 : decode cX7_sky 47 = .ok (.aload_n 0, 1) := by decide +kernel
theorem dX7_sky_48 : decode cX7_sky 48 = .ok (.getfield 10, 3) := by decide +kernel
theorem dX7_sky_51 : decode cX7_sky 51 = .ok (.getfield 100, 3) := by decide +kernel
theorem dX7_sky_54 : decode cX7_sky 54 = .ok (.iload_n 2, 1) := by decide +kernel
theorem dX7_sky_55 : decode cX7_sky 55 = .ok (.aaload, 1) := by decide +kernel
theorem dX7_sky_56 : decode cX7_sky 56 = .ok (.iload_n 1, 1) := by decide +kernel
theorem dX7_sky_57 : decode cX7_sky 57 = .ok (.iload_n 3, 1) := by decide +kernel
theorem dX7_sky_58 : decode cX7_sky 58 = .ok (.iastore, 1) := by decide +kernel
theorem dX7_sky_59 : decode cX7_sky 59 = .ok (.iload 4, 2) := by decide +kernel
theorem dX7_sky_61 : decode cX7_sky 61 = .ok (.ireturn, 1) := by decide +kernel
set_option maxRecDepth 20000 in
theorem ggX7_skyTold_X7_isDay : GoodIn wsX7_skyTold wsX7_isDay := goodIn_r _ [5, 6, 7, 4, 8] (by decide +kernel) (by decide +kernel)
set_option maxRecDepth 20000 in
theorem gX7_skyTold_X7_isDay : GoodIn wsX7_skyTold (va_wsS RX7 88 yX7_isDay wsX7_isDay) := goodIn_app (goodIn_of _ (by decide +kernel)) ggX7_skyTold_X7_isDay
set_option maxRecDepth 20000 in
theorem ggX7_skyTold_X7_within : GoodIn wsX7_skyTold wsX7_within := goodIn_r _ [8] (by decide +kernel) (by decide +kernel)
set_option maxRecDepth 20000 in
theorem gX7_skyTold_X7_within : GoodIn wsX7_skyTold (va_wsS RX7 92 yX7_within wsX7_within) := goodIn_app (goodIn_of _ (by decide +kernel)) ggX7_skyTold_X7_within
theorem dX7_skyTold_0 : decode cX7_skyTold 0 = .ok (.iload_n 1, 1) := by decide +kernel
theorem dX7_skyTold_1 : decode cX7_skyTold 1 = .ok (.invokestatic 88, 3) := by decide +kernel
theorem dX7_skyTold_4 : decode cX7_skyTold 4 = .ok (.ifCond .ne 6, 3) := by decide +kernel
theorem dX7_skyTold_7 : decode cX7_skyTold 7 = .ok (.bipush (-5), 2) := by decide +kernel
theorem dX7_skyTold_9 : decode cX7_skyTold 9 = .ok (.ireturn, 1) := by decide +kernel
theorem dX7_skyTold_10 : decode cX7_skyTold 10 = .ok (.iload_n 2, 1) := by decide +kernel
theorem dX7_skyTold_11 : decode cX7_skyTold 11 = .ok (.iconst 0, 1) := by decide +kernel
theorem dX7_skyTold_12 : decode cX7_skyTold 12 = .ok (.iconst 3, 1) := by decide +kernel
theorem dX7_skyTold_13 : decode cX7_skyTold 13 = .ok (.invokestatic 92, 3) := by decide +kernel
theorem dX7_skyTold_16 : decode cX7_skyTold 16 = .ok (.ifCond .ne 6, 3) := by decide +kernel
theorem dX7_skyTold_19 : decode cX7_skyTold 19 = .ok (.bipush (-7), 2) := by decide +kernel
theorem dX7_skyTold_21 : decode cX7_skyTold 21 = .ok (.ireturn, 1) := by decide +kernel
theorem dX7_skyTold_22 : decode cX7_skyTold 22 = .ok (.aload_n 0, 1) := by decide +kernel
theorem dX7_skyTold_23 : decode cX7_skyTold 23 = .ok (.getfield 10, 3) := by decide +kernel
theorem dX7_skyTold_26 : decode cX7_skyTold 26 = .ok (.getfield 100, 3) := by decide +kernel
theorem dX7_skyTold_29 : decode cX7_skyTold 29 = .ok (.iload_n 2, 1) := by decide +kernel
theorem dX7_skyTold_30 : decode cX7_skyTold 30 = .ok (.aaload, 1) := by decide +kernel
theorem dX7_skyTold_31 : decode cX7_skyTold 31 = .ok (.iload_n 1, 1) := by decide +kernel
theorem dX7_skyTold_32 : decode cX7_skyTold 32 = .ok (.iaload, 1) := by decide +kernel
theorem dX7_skyTold_33 : decode cX7_skyTold 33 = .ok (.ireturn, 1) := by decide +kernel
theorem dX7_count_0 : decode cX7_count 0 = .ok (.iload_n 1, 1) := by decide +kernel
theorem dX7_count_1 : decode cX7_count 1 = .ok (.tableswitch 72 0 4 #[35, 43, 51, 56, 64], 35) := by decide +kernel
theorem dX7_count_36 : decode cX7_count 36 = .ok (.aload_n 0, 1) := by decide +kernel
theorem dX7_count_37 : decode cX7_count 37 = .ok (.getfield 10, 3) := by decide +kernel
theorem dX7_count_40 : decode cX7_count 40 = .ok (.getfield 104, 3) := by decide +kernel
theorem dX7_count_43 : decode cX7_count 43 = .ok (.ireturn, 1) := by decide +kernel
theorem dX7_count_44 : decode cX7_count 44 = .ok (.aload_n 0, 1) := by decide +kernel
theorem dX7_count_45 : decode cX7_count 45 = .ok (.getfield 10, 3) := by decide +kernel
theorem dX7_count_48 : decode cX7_count 48 = .ok (.getfield 107, 3) := by decide +kernel
theorem dX7_count_51 : decode cX7_count 51 = .ok (.ireturn, 1) := by decide +kernel
theorem dX7_count_52 : decode cX7_count 52 = .ok (.aload_n 0, 1) := by decide +kernel
theorem dX7_count_53 : decode cX7_count 53 = .ok (.getfield 84, 3) := by decide +kernel
theorem dX7_count_56 : decode cX7_count 56 = .ok (.ireturn, 1) := by decide +kernel
theorem dX7_count_57 : decode cX7_count 57 = .ok (.aload_n 0, 1) := by decide +kernel
theorem dX7_count_58 : decode cX7_count 58 = .ok (.getfield 10, 3) := by decide +kernel
theorem dX7_count_61 : decode cX7_count 61 = .ok (.getfield 110, 3) := by decide +kernel
theorem dX7_count_64 : decode cX7_count 64 = .ok (.ireturn, 1) := by decide +kernel
theorem dX7_count_65 : decode cX7_count 65 = .ok (.aload_n 0, 1) := by decide +kernel
theorem dX7_count_66 : decode cX7_count 66 = .ok (.getfield 39, 3) := by decide +kernel
theorem dX7_count_69 : decode cX7_count 69 = .ok (.getfield 113, 3) := by decide +kernel
theorem dX7_count_72 : decode cX7_count 72 = .ok (.ireturn, 1) := by decide +kernel
theorem dX7_count_73 : decode cX7_count 73 = .ok (.bipush (-2), 2) := by decide +kernel
theorem dX7_count_75 : decode cX7_count 75 = .ok (.ireturn, 1) := by decide +kernel
set_option maxRecDepth 20000 in
theorem ggX7_feed_X7_isByte : GoodIn wsX7_feed wsX7_isByte := goodIn_r _ [5, 6, 7, 4, 8] (by decide +kernel) (by decide +kernel)
set_option maxRecDepth 20000 in
theorem gX7_feed_X7_isByte : GoodIn wsX7_feed (va_wsS RX7 116 yX7_isByte wsX7_isByte) := goodIn_app (goodIn_of _ (by decide +kernel)) ggX7_feed_X7_isByte
set_option maxRecDepth 20000 in
theorem ggX7_feed_X7_within : GoodIn wsX7_feed wsX7_within := goodIn_r _ [8] (by decide +kernel) (by decide +kernel)
set_option maxRecDepth 20000 in
theorem gX7_feed_X7_within : GoodIn wsX7_feed (va_wsS RX7 92 yX7_within wsX7_within) := goodIn_app (goodIn_of _ (by decide +kernel)) ggX7_feed_X7_within
set_option maxRecDepth 20000 in
theorem ggX7_feed_X5_add : GoodIn wsX7_feed wsX5_add := goodIn_r _ [13, 14, 15, 28, 29, 30, 31, 32, 33, 34, 35] (by decide +kernel) (by decide +kernel)
set_option maxRecDepth 20000 in
theorem gX7_feed_X5_add : GoodIn wsX7_feed (wsV RX7 76 RX5 yX5_add wsX5_add) := goodIn_app (goodIn_of _ (by decide +kernel)) ggX7_feed_X5_add
theorem dX7_feed_0 : decode cX7_feed 0 = .ok (.iload_n 2, 1) := by decide +kernel
theorem dX7_feed_1 : decode cX7_feed 1 = .ok (.invokestatic 116, 3) := by decide +kernel
theorem dX7_feed_4 : decode cX7_feed 4 = .ok (.ifCond .eq 38, 3) := by decide +kernel
theorem dX7_feed_7 : decode cX7_feed 7 = .ok (.iload_n 3, 1) := by decide +kernel
theorem dX7_feed_8 : decode cX7_feed 8 = .ok (.invokestatic 116, 3) := by decide +kernel
theorem dX7_feed_11 : decode cX7_feed 11 = .ok (.ifCond .eq 31, 3) := by decide +kernel
theorem dX7_feed_14 : decode cX7_feed 14 = .ok (.iload 4, 2) := by decide +kernel
theorem dX7_feed_16 : decode cX7_feed 16 = .ok (.invokestatic 116, 3) := by decide +kernel
theorem dX7_feed_19 : decode cX7_feed 19 = .ok (.ifCond .eq 23, 3) := by decide +kernel
theorem dX7_feed_22 : decode cX7_feed 22 = .ok (.iload 5, 2) := by decide +kernel
theorem dX7_feed_24 : decode cX7_feed 24 = .ok (.invokestatic 116, 3) := by decide +kernel
theorem dX7_feed_27 : decode cX7_feed 27 = .ok (.ifCond .eq 15, 3) := by decide +kernel
theorem dX7_feed_30 : decode cX7_feed 30 = .ok (.iload 6, 2) := by decide +kernel
theorem dX7_feed_32 : decode cX7_feed 32 = .ok (.invokestatic 116, 3) := by decide +kernel
theorem dX7_feed_35 : decode cX7_feed 35 = .ok (.ifCond .eq 7, 3) := by decide +kernel
theorem dX7_feed_38 : decode cX7_feed 38 = .ok (.iconst 1, 1) := by decide +kernel
theorem dX7_feed_39 : decode cX7_feed 39 = .ok (.goto 4, 3) := by decide +kernel
theorem dX7_feed_42 : decode cX7_feed 42 = .ok (.iconst 0, 1) := by decide +kernel
theorem dX7_feed_43 : decode cX7_feed 43 = .ok (.istore 7, 2) := by decide +kernel
theorem dX7_feed_45 : decode cX7_feed 45 = .ok (.iload_n 1, 1) := by decide +kernel
theorem dX7_feed_46 : decode cX7_feed 46 = .ok (.iconst 1, 1) := by decide +kernel
theorem dX7_feed_47 : decode cX7_feed 47 = .ok (.iconst 5, 1) := by decide +kernel
theorem dX7_feed_48 : decode cX7_feed 48 = .ok (.invokestatic 92, 3) := by decide +kernel
theorem dX7_feed_51 : decode cX7_feed 51 = .ok (.ifCond .eq 8, 3) := by decide +kernel
theorem dX7_feed_54 : decode cX7_feed 54 = .ok (.iload 7, 2) := by decide +kernel
theorem dX7_feed_56 : decode cX7_feed 56 = .ok (.ifCond .ne 6, 3) := by decide +kernel
theorem dX7_feed_59 : decode cX7_feed 59 = .ok (.bipush (-2), 2) := by decide +kernel
theorem dX7_feed_61 : decode cX7_feed 61 = .ok (.ireturn, 1) := by decide +kernel
theorem dX7_feed_62 : decode cX7_feed 62 = .ok (.aload_n 0, 1) := by decide +kernel
theorem dX7_feed_63 : decode cX7_feed 63 = .ok (.getfield 39, 3) := by decide +kernel
theorem dX7_feed_66 : decode cX7_feed 66 = .ok (.getfield 113, 3) := by decide +kernel
theorem dX7_feed_69 : decode cX7_feed 69 = .ok (.iload_n 1, 1) := by decide +kernel
theorem dX7_feed_70 : decode cX7_feed 70 = .ok (.iadd, 1) := by decide +kernel
theorem dX7_feed_71 : decode cX7_feed 71 = .ok (.sipush 160, 3) := by decide +kernel
theorem dX7_feed_74 : decode cX7_feed 74 = .ok (.if_icmp .le 6, 3) := by decide +kernel
theorem dX7_feed_77 : decode cX7_feed 77 = .ok (.bipush (-4), 2) := by decide +kernel
theorem dX7_feed_79 : decode cX7_feed 79 = .ok (.ireturn, 1) := by decide +kernel
theorem dX7_feed_80 : decode cX7_feed 80 = .ok (.aload_n 0, 1) := by decide +kernel
theorem dX7_feed_81 : decode cX7_feed 81 = .ok (.getfield 39, 3) := by decide +kernel
theorem dX7_feed_84 : decode cX7_feed 84 = .ok (.iload_n 2, 1) := by decide +kernel
theorem dX7_feed_85 : decode cX7_feed 85 = .ok (.invokevirtual 76, 3) := by decide +kernel
theorem dX7_feed_88 : decode cX7_feed 88 = .ok (.iload_n 1, 1) := by decide +kernel
theorem dX7_feed_89 : decode cX7_feed 89 = .ok (.iconst 1, 1) := by decide +kernel
theorem dX7_feed_90 : decode cX7_feed 90 = .ok (.if_icmp .le 11, 3) := by decide +kernel
theorem dX7_feed_93 : decode cX7_feed 93 = .ok (.aload_n 0, 1) := by decide +kernel
theorem dX7_feed_94 : decode cX7_feed 94 = .ok (.getfield 39, 3) := by decide +kernel
theorem dX7_feed_97 : decode cX7_feed 97 = .ok (.iload_n 3, 1) := by decide +kernel
theorem dX7_feed_98 : decode cX7_feed 98 = .ok (.invokevirtual 76, 3) := by decide +kernel
theorem dX7_feed_101 : decode cX7_feed 101 = .ok (.iload_n 1, 1) := by decide +kernel
theorem dX7_feed_102 : decode cX7_feed 102 = .ok (.iconst 2, 1) := by decide +kernel
theorem dX7_feed_103 : decode cX7_feed 103 = .ok (.if_icmp .le 12, 3) := by decide +kernel
theorem dX7_feed_106 : decode cX7_feed 106 = .ok (.aload_n 0, 1) := by decide +kernel
theorem dX7_feed_107 : decode cX7_feed 107 = .ok (.getfield 39, 3) := by decide +kernel
theorem dX7_feed_110 : decode cX7_feed 110 = .ok (.iload 4, 2) := by decide +kernel
theorem dX7_feed_112 : decode cX7_feed 112 = .ok (.invokevirtual 76, 3) := by decide +kernel
theorem dX7_feed_115 : decode cX7_feed 115 = .ok (.iload_n 1, 1) := by decide +kernel
theorem dX7_feed_116 : decode cX7_feed 116 = .ok (.iconst 3, 1) := by decide +kernel
theorem dX7_feed_117 : decode cX7_feed 117 = .ok (.if_icmp .le 12, 3) := by decide +kernel
theorem dX7_feed_120 : decode cX7_feed 120 = .ok (.aload_n 0, 1) := by decide +kernel
theorem dX7_feed_121 : decode cX7_feed 121 = .ok (.getfield 39, 3) := by decide +kernel
theorem dX7_feed_124 : decode cX7_feed 124 = .ok (.iload 5, 2) := by decide +kernel
theorem dX7_feed_126 : decode cX7_feed 126 = .ok (.invokevirtual 76, 3) := by decide +kernel
theorem dX7_feed_129 : decode cX7_feed 129 = .ok (.iload_n 1, 1) := by decide +kernel
theorem dX7_feed_130 : decode cX7_feed 130 = .ok (.iconst 4, 1) := by decide +kernel
theorem dX7_feed_131 : decode cX7_feed 131 = .ok (.if_icmp .le 12, 3) := by decide +kernel
theorem dX7_feed_134 : decode cX7_feed 134 = .ok (.aload_n 0, 1) := by decide +kernel
theorem dX7_feed_135 : decode cX7_feed 135 = .ok (.getfield 39, 3) := by decide +kernel
theorem dX7_feed_138 : decode cX7_feed 138 = .ok (.iload 6, 2) := by decide +kernel
theorem dX7_feed_140 : decode cX7_feed 140 = .ok (.invokevirtual 76, 3) := by decide +kernel
theorem dX7_feed_143 : decode cX7_feed 143 = .ok (.aload_n 0, 1) := by decide +kernel
theorem dX7_feed_144 : decode cX7_feed 144 = .ok (.getfield 39, 3) := by decide +kernel
theorem dX7_feed_147 : decode cX7_feed 147 = .ok (.getfield 113, 3) := by decide +kernel
theorem dX7_feed_150 : decode cX7_feed 150 = .ok (.ireturn, 1) := by decide +kernel
set_option maxRecDepth 20000 in
theorem ggX7_text_X5_read : GoodIn wsX7_text wsX5_read := goodIn_r _ [8, 9, 10, 11, 12, 13, 14, 15, 16, 17, 18, 19, 20, 21, 7, 22, 23, 24, 25, 26, 27, 28, 29, 30, 31, 32, 33, 34, 35, 36, 37, 38, 39, 40, 41, 42, 43, 44, 45, 46, 47, 48, 49, 50, 51, 52, 53, 54, 55, 56, 57, 58, 59, 60, 61, 62, 63, 64, 65, 66, 67, 68, 69, 70, 71, 72, 73, 74, 75, 76, 77, 78, 79, 80, 81, 82, 83, 84, 85, 86, 87, 88, 89, 90, 91, 92, 93, 94, 95, 96, 97, 98, 99, 100, 101, 102, 103, 104, 105, 106, 107, 108, 109, 110, 111, 112, 113, 114, 115, 116, 117, 118, 119, 120, 121, 122, 123, 124, 125, 126, 127, 128, 129, 130, 131, 132, 133, 134, 135, 136, 137, 138, 139, 140, 141, 142, 143, 144, 145, 146, 147, 160, 161, 162, 163, 164, 165, 166, 167, 168, 169, 170, 171] (by decide +kernel) (by decide +kernel)
set_option maxRecDepth 20000 in
theorem gX7_text_X5_read : GoodIn wsX7_text (wsV RX7 80 RX5 yX5_read wsX5_read) := goodIn_app (goodIn_of _ (by decide +kernel)) ggX7_text_X5_read
theorem dX7_text_0 : decode cX7_text 0 = .ok (.aload_n 0, 1) := by decide +kernel
theorem dX7_text_1 : decode cX7_text 1 = .ok (.getfield 84, 3) := by decide +kernel
theorem dX7_text_4 : decode cX7_text 4 = .ok (.bipush 6, 2) := by decide +kernel
theorem dX7_text_6 : decode cX7_text 6 = .ok (.if_icmp .lt 6, 3) := by decide +kernel
theorem dX7_text_9 : decode cX7_text 9 = .ok (.bipush (-4), 2) := by decide +kernel
theorem dX7_text_11 : decode cX7_text 11 = .ok (.ireturn, 1) := by decide +kernel
theorem dX7_text_12 : decode cX7_text 12 = .ok (.aload_n 0, 1) := by decide +kernel
theorem dX7_text_13 : decode cX7_text 13 = .ok (.getfield 39, 3) := by decide +kernel
theorem dX7_text_16 : decode cX7_text 16 = .ok (.aload_n 0, 1) := by decide +kernel
theorem dX7_text_17 : decode cX7_text 17 = .ok (.getfield 45, 3) := by decide +kernel
theorem dX7_text_20 : decode cX7_text 20 = .ok (.aload_n 0, 1) := by decide +kernel
theorem dX7_text_21 : decode cX7_text 21 = .ok (.getfield 84, 3) := by decide +kernel
theorem dX7_text_24 : decode cX7_text 24 = .ok (.aaload, 1) := by decide +kernel
theorem dX7_text_25 : decode cX7_text 25 = .ok (.invokevirtual 80, 3) := by decide +kernel
theorem dX7_text_28 : decode cX7_text 28 = .ok (.istore_n 1, 1) := by decide +kernel
theorem dX7_text_29 : decode cX7_text 29 = .ok (.iload_n 1, 1) := by decide +kernel
theorem dX7_text_30 : decode cX7_text 30 = .ok (.ifCond .lt 8, 3) := by decide +kernel
theorem dX7_text_33 : decode cX7_text 33 = .ok (.bipush (-100), 2) := by decide +kernel
theorem dX7_text_35 : decode cX7_text 35 = .ok (.iload_n 1, 1) := by decide +kernel
theorem dX7_text_36 : decode cX7_text 36 = .ok (.isub, 1) := by decide +kernel
theorem dX7_text_37 : decode cX7_text 37 = .ok (.ireturn, 1) := by decide +kernel
theorem dX7_text_38 : decode cX7_text 38 = .ok (.aload_n 0, 1) := by decide +kernel
theorem dX7_text_39 : decode cX7_text 39 = .ok (.dup, 1) := by decide +kernel
theorem dX7_text_40 : decode cX7_text 40 = .ok (.getfield 84, 3) := by decide +kernel
theorem dX7_text_43 : decode cX7_text 43 = .ok (.iconst 1, 1) := by decide +kernel
theorem dX7_text_44 : decode cX7_text 44 = .ok (.iadd, 1) := by decide +kernel
theorem dX7_text_45 : decode cX7_text 45 = .ok (.putfield 84, 3) := by decide +kernel
theorem dX7_text_48 : decode cX7_text 48 = .ok (.aload_n 0, 1) := by decide +kernel
theorem dX7_text_49 : decode cX7_text 49 = .ok (.getfield 84, 3) := by decide +kernel
theorem dX7_text_52 : decode cX7_text 52 = .ok (.iconst 1, 1) := by decide +kernel
theorem dX7_text_53 : decode cX7_text 53 = .ok (.isub, 1) := by decide +kernel
theorem dX7_text_54 : decode cX7_text 54 = .ok (.ireturn, 1) := by decide +kernel
set_option maxRecDepth 20000 in
theorem ggX7_force_X7_within : GoodIn wsX7_force wsX7_within := goodIn_r _ [6] (by decide +kernel) (by decide +kernel)
set_option maxRecDepth 20000 in
theorem gX7_force_X7_within : GoodIn wsX7_force (va_wsS RX7 92 yX7_within wsX7_within) := goodIn_app (goodIn_of _ (by decide +kernel)) ggX7_force_X7_within
theorem dX7_force_0 : decode cX7_force 0 = .ok (.iload_n 1, 1) := by decide +kernel
theorem dX7_force_1 : decode cX7_force 1 = .ok (.iconst 0, 1) := by decide +kernel
theorem dX7_force_2 : decode cX7_force 2 = .ok (.aload_n 0, 1) := by decide +kernel
theorem dX7_force_3 : decode cX7_force 3 = .ok (.getfield 84, 3) := by decide +kernel
theorem dX7_force_6 : decode cX7_force 6 = .ok (.iconst 1, 1) := by decide +kernel
theorem dX7_force_7 : decode cX7_force 7 = .ok (.isub, 1) := by decide +kernel
theorem dX7_force_8 : decode cX7_force 8 = .ok (.invokestatic 92, 3) := by decide +kernel
theorem dX7_force_11 : decode cX7_force 11 = .ok (.ifCond .ne 6, 3) := by decide +kernel
theorem dX7_force_14 : decode cX7_force 14 = .ok (.bipush (-2), 2) := by decide +kernel
theorem dX7_force_16 : decode cX7_force 16 = .ok (.ireturn, 1) := by decide +kernel
theorem dX7_force_17 : decode cX7_force 17 = .ok (.aload_n 0, 1) := by decide +kernel
theorem dX7_force_18 : decode cX7_force 18 = .ok (.getfield 10, 3) := by decide +kernel
theorem dX7_force_21 : decode cX7_force 21 = .ok (.getfield 110, 3) := by decide +kernel
theorem dX7_force_24 : decode cX7_force 24 = .ok (.istore_n 2, 1) := by decide +kernel
theorem dX7_force_25 : decode cX7_force 25 = .ok (.aload_n 0, 1) := by decide +kernel
theorem dX7_force_26 : decode cX7_force 26 = .ok (.getfield 10, 3) := by decide +kernel
theorem dX7_force_29 : decode cX7_force 29 = .ok (.iload_n 1, 1) := by decide +kernel
theorem dX7_force_30 : decode cX7_force 30 = .ok (.putfield 110, 3) := by decide +kernel
theorem dX7_force_33 : decode cX7_force 33 = .ok (.iload_n 2, 1) := by decide +kernel
theorem dX7_force_34 : decode cX7_force 34 = .ok (.ireturn, 1) := by decide +kernel
set_option maxRecDepth 20000 in
theorem ggX7_asks_X7_within : GoodIn wsX7_asks wsX7_within := goodIn_r _ [7] (by decide +kernel) (by decide +kernel)
set_option maxRecDepth 20000 in
theorem gX7_asks_X7_within : GoodIn wsX7_asks (va_wsS RX7 92 yX7_within wsX7_within) := goodIn_app (goodIn_of _ (by decide +kernel)) ggX7_asks_X7_within
set_option maxRecDepth 20000 in
theorem ggX7_asks_X3_says : GoodIn wsX7_asks wsX3_says := goodIn_r _ [12, 13, 14, 15, 16, 17, 18, 19, 20, 21, 22, 23, 24, 11, 25, 26, 27, 28, 29, 30, 31, 55, 56, 57, 58] (by decide +kernel) (by decide +kernel)
set_option maxRecDepth 20000 in
theorem gX7_asks_X3_says : GoodIn wsX7_asks (wsV RX7 119 RX3 yX3_says wsX3_says) := goodIn_app (goodIn_of _ (by decide +kernel)) ggX7_asks_X3_says
theorem dX7_asks_0 : decode cX7_asks 0 = .ok (.iload_n 1, 1) := by decide +kernel
theorem dX7_asks_1 : decode cX7_asks 1 = .ok (.iconst 0, 1) := by decide +kernel
theorem dX7_asks_2 : decode cX7_asks 2 = .ok (.iconst 2, 1) := by decide +kernel
theorem dX7_asks_3 : decode cX7_asks 3 = .ok (.invokestatic 92, 3) := by decide +kernel
theorem dX7_asks_6 : decode cX7_asks 6 = .ok (.ifCond .eq 30, 3) := by decide +kernel
theorem dX7_asks_9 : decode cX7_asks 9 = .ok (.iload_n 2, 1) := by decide +kernel
theorem dX7_asks_10 : decode cX7_asks 10 = .ok (.iconst 0, 1) := by decide +kernel
theorem dX7_asks_11 : decode cX7_asks 11 = .ok (.sipush 9999, 3) := by decide +kernel
theorem dX7_asks_14 : decode cX7_asks 14 = .ok (.invokestatic 92, 3) := by decide +kernel
theorem dX7_asks_17 : decode cX7_asks 17 = .ok (.ifCond .eq 19, 3) := by decide +kernel
theorem dX7_asks_20 : decode cX7_asks 20 = .ok (.iload 5, 2) := by decide +kernel
theorem dX7_asks_22 : decode cX7_asks 22 = .ok (.iconst 0, 1) := by decide +kernel
theorem dX7_asks_23 : decode cX7_asks 23 = .ok (.sipush 9999, 3) := by decide +kernel
theorem dX7_asks_26 : decode cX7_asks 26 = .ok (.invokestatic 92, 3) := by decide +kernel
theorem dX7_asks_29 : decode cX7_asks 29 = .ok (.ifCond .eq 7, 3) := by decide +kernel
theorem dX7_asks_32 : decode cX7_asks 32 = .ok (.iconst 1, 1) := by decide +kernel
theorem dX7_asks_33 : decode cX7_asks 33 = .ok (.goto 4, 3) := by decide +kernel
theorem dX7_asks_36 : decode cX7_asks 36 = .ok (.iconst 0, 1) := by decide +kernel
theorem dX7_asks_37 : decode cX7_asks 37 = .ok (.istore 6, 2) := by decide +kernel
theorem dX7_asks_39 : decode cX7_asks 39 = .ok (.iload_n 3, 1) := by decide +kernel
theorem dX7_asks_40 : decode cX7_asks 40 = .ok (.iconst 0, 1) := by decide +kernel
theorem dX7_asks_41 : decode cX7_asks 41 = .ok (.bipush 91, 2) := by decide +kernel
theorem dX7_asks_43 : decode cX7_asks 43 = .ok (.invokestatic 92, 3) := by decide +kernel
theorem dX7_asks_46 : decode cX7_asks 46 = .ok (.ifCond .eq 15, 3) := by decide +kernel
theorem dX7_asks_49 : decode cX7_asks 49 = .ok (.iload_n 3, 1) := by decide +kernel
theorem dX7_asks_50 : decode cX7_asks 50 = .ok (.bipush 10, 2) := by decide +kernel
theorem dX7_asks_52 : decode cX7_asks 52 = .ok (.irem, 1) := by decide +kernel
theorem dX7_asks_53 : decode cX7_asks 53 = .ok (.iconst 1, 1) := by decide +kernel
theorem dX7_asks_54 : decode cX7_asks 54 = .ok (.if_icmp .gt 7, 3) := by decide +kernel
theorem dX7_asks_57 : decode cX7_asks 57 = .ok (.iconst 1, 1) := by decide +kernel
theorem dX7_asks_58 : decode cX7_asks 58 = .ok (.goto 4, 3) := by decide +kernel
theorem dX7_asks_61 : decode cX7_asks 61 = .ok (.iconst 0, 1) := by decide +kernel
theorem dX7_asks_62 : decode cX7_asks 62 = .ok (.istore 7, 2) := by decide +kernel
theorem dX7_asks_64 : decode cX7_asks 64 = .ok (.iload 6, 2) := by decide +kernel
theorem dX7_asks_66 : decode cX7_asks 66 = .ok (.ifCond .eq 19, 3) := by decide +kernel
theorem dX7_asks_69 : decode cX7_asks 69 = .ok (.iload 7, 2) := by decide +kernel
theorem dX7_asks_71 : decode cX7_asks 71 = .ok (.ifCond .eq 14, 3) := by decide +kernel
theorem dX7_asks_74 : decode cX7_asks 74 = .ok (.iload 4, 2) := by decide +kernel
theorem dX7_asks_76 : decode cX7_asks 76 = .ok (.iconst 0, 1) := by decide +kernel
theorem dX7_asks_77 : decode cX7_asks 77 = .ok (.bipush 19, 2) := by decide +kernel
theorem dX7_asks_79 : decode cX7_asks 79 = .ok (.invokestatic 92, 3) := by decide +kernel
theorem dX7_asks_82 : decode cX7_asks 82 = .ok (.ifCond .ne 6, 3) := by decide +kernel
theorem dX7_asks_85 : decode cX7_asks 85 = .ok (.bipush (-2), 2) := by decide +kernel
theorem dX7_asks_87 : decode cX7_asks 87 = .ok (.ireturn, 1) := by decide +kernel
theorem dX7_asks_88 : decode cX7_asks 88 = .ok (.aload_n 0, 1) := by decide +kernel
theorem dX7_asks_89 : decode cX7_asks 89 = .ok (.getfield 55, 3) := by decide +kernel
theorem dX7_asks_92 : decode cX7_asks 92 = .ok (.iconst 0, 1) := by decide +kernel
theorem dX7_asks_93 : decode cX7_asks 93 = .ok (.iload_n 2, 1) := by decide +kernel
theorem dX7_asks_94 : decode cX7_asks 94 = .ok (.iastore, 1) := by decide +kernel
theorem dX7_asks_95 : decode cX7_asks 95 = .ok (.aload_n 0, 1) := by decide +kernel
theorem dX7_asks_96 : decode cX7_asks 96 = .ok (.getfield 55, 3) := by decide +kernel
theorem dX7_asks_99 : decode cX7_asks 99 = .ok (.iconst 1, 1) := by decide +kernel
theorem dX7_asks_100 : decode cX7_asks 100 = .ok (.iload_n 3, 1) := by decide +kernel
theorem dX7_asks_101 : decode cX7_asks 101 = .ok (.bipush 10, 2) := by decide +kernel
theorem dX7_asks_103 : decode cX7_asks 103 = .ok (.idiv, 1) := by decide +kernel
theorem dX7_asks_104 : decode cX7_asks 104 = .ok (.iastore, 1) := by decide +kernel
theorem dX7_asks_105 : decode cX7_asks 105 = .ok (.aload_n 0, 1) := by decide +kernel
theorem dX7_asks_106 : decode cX7_asks 106 = .ok (.getfield 55, 3) := by decide +kernel
theorem dX7_asks_109 : decode cX7_asks 109 = .ok (.iconst 2, 1) := by decide +kernel
theorem dX7_asks_110 : decode cX7_asks 110 = .ok (.iload_n 3, 1) := by decide +kernel
theorem dX7_asks_111 : decode cX7_asks 111 = .ok (.bipush 10, 2) := by decide +kernel
theorem dX7_asks_113 : decode cX7_asks 113 = .ok (.irem, 1) := by decide +kernel
theorem dX7_asks_114 : decode cX7_asks 114 = .ok (.iastore, 1) := by decide +kernel
theorem dX7_asks_115 : decode cX7_asks 115 = .ok (.aload_n 0, 1) := by decide +kernel
theorem dX7_asks_116 : decode cX7_asks 116 = .ok (.getfield 55, 3) := by decide +kernel
theorem dX7_asks_119 : decode cX7_asks 119 = .ok (.iconst 3, 1) := by decide +kernel
theorem dX7_asks_120 : decode cX7_asks 120 = .ok (.iload 4, 2) := by decide +kernel
theorem dX7_asks_122 : decode cX7_asks 122 = .ok (.bipush 10, 2) := by decide +kernel
theorem dX7_asks_124 : decode cX7_asks 124 = .ok (.idiv, 1) := by decide +kernel
theorem dX7_asks_125 : decode cX7_asks 125 = .ok (.iastore, 1) := by decide +kernel
theorem dX7_asks_126 : decode cX7_asks 126 = .ok (.aload_n 0, 1) := by decide +kernel
theorem dX7_asks_127 : decode cX7_asks 127 = .ok (.getfield 55, 3) := by decide +kernel
theorem dX7_asks_130 : decode cX7_asks 130 = .ok (.iconst 4, 1) := by decide +kernel
theorem dX7_asks_131 : decode cX7_asks 131 = .ok (.iload 4, 2) := by decide +kernel
theorem dX7_asks_133 : decode cX7_asks 133 = .ok (.bipush 10, 2) := by decide +kernel
theorem dX7_asks_135 : decode cX7_asks 135 = .ok (.irem, 1) := by decide +kernel
theorem dX7_asks_136 : decode cX7_asks 136 = .ok (.iastore, 1) := by decide +kernel
theorem dX7_asks_137 : decode cX7_asks 137 = .ok (.aload_n 0, 1) := by decide +kernel
theorem dX7_asks_138 : decode cX7_asks 138 = .ok (.getfield 55, 3) := by decide +kernel
theorem dX7_asks_141 : decode cX7_asks 141 = .ok (.iconst 5, 1) := by decide +kernel
theorem dX7_asks_142 : decode cX7_asks 142 = .ok (.iload 5, 2) := by decide +kernel
theorem dX7_asks_144 : decode cX7_asks 144 = .ok (.iastore, 1) := by decide +kernel
theorem dX7_asks_145 : decode cX7_asks 145 = .ok (.aload_n 0, 1) := by decide +kernel
theorem dX7_asks_146 : decode cX7_asks 146 = .ok (.getfield 45, 3) := by decide +kernel
theorem dX7_asks_149 : decode cX7_asks 149 = .ok (.aload_n 0, 1) := by decide +kernel
theorem dX7_asks_150 : decode cX7_asks 150 = .ok (.getfield 10, 3) := by decide +kernel
theorem dX7_asks_153 : decode cX7_asks 153 = .ok (.getfield 110, 3) := by decide +kernel
theorem dX7_asks_156 : decode cX7_asks 156 = .ok (.aaload, 1) := by decide +kernel
theorem dX7_asks_157 : decode cX7_asks 157 = .ok (.iload_n 1, 1) := by decide +kernel
theorem dX7_asks_158 : decode cX7_asks 158 = .ok (.aload_n 0, 1) := by decide +kernel
theorem dX7_asks_159 : decode cX7_asks 159 = .ok (.getfield 55, 3) := by decide +kernel
theorem dX7_asks_162 : decode cX7_asks 162 = .ok (.invokevirtual 119, 3) := by decide +kernel
theorem dX7_asks_165 : decode cX7_asks 165 = .ok (.ireturn, 1) := by decide +kernel
set_option maxRecDepth 20000 in
theorem ggX7_lay_X7_isCell : GoodIn wsX7_lay wsX7_isCell := goodIn_r _ [5, 6, 7, 4, 8] (by decide +kernel) (by decide +kernel)
set_option maxRecDepth 20000 in
theorem gX7_lay_X7_isCell : GoodIn wsX7_lay (va_wsS RX7 123 yX7_isCell wsX7_isCell) := goodIn_app (goodIn_of _ (by decide +kernel)) ggX7_lay_X7_isCell
set_option maxRecDepth 20000 in
theorem ggX7_lay_X7_isKind : GoodIn wsX7_lay wsX7_isKind := goodIn_r _ [11, 6, 7, 4, 8] (by decide +kernel) (by decide +kernel)
set_option maxRecDepth 20000 in
theorem gX7_lay_X7_isKind : GoodIn wsX7_lay (va_wsS RX7 126 yX7_isKind wsX7_isKind) := goodIn_app (goodIn_of _ (by decide +kernel)) ggX7_lay_X7_isKind
set_option maxRecDepth 20000 in
theorem ggX7_lay_X4_layOut : GoodIn wsX7_lay wsX4_layOut := goodIn_r _ [16, 17, 18, 31, 32, 33, 34, 35, 36, 37, 38, 39, 40, 41] (by decide +kernel) (by decide +kernel)
set_option maxRecDepth 20000 in
theorem gX7_lay_X4_layOut : GoodIn wsX7_lay (wsV RX7 133 RX4 yX4_layOut wsX4_layOut) := goodIn_app (goodIn_of _ (by decide +kernel)) ggX7_lay_X4_layOut
theorem dX7_lay_0 : decode cX7_lay 0 = .ok (.iload_n 1, 1) := by decide +kernel
theorem dX7_lay_1 : decode cX7_lay 1 = .ok (.invokestatic 123, 3) := by decide +kernel
theorem dX7_lay_4 : decode cX7_lay 4 = .ok (.ifCond .ne 6, 3) := by decide +kernel
theorem dX7_lay_7 : decode cX7_lay 7 = .ok (.bipush (-5), 2) := by decide +kernel
theorem dX7_lay_9 : decode cX7_lay 9 = .ok (.ireturn, 1) := by decide +kernel
theorem dX7_lay_10 : decode cX7_lay 10 = .ok (.iload_n 2, 1) := by decide +kernel
theorem dX7_lay_11 : decode cX7_lay 11 = .ok (.iload_n 3, 1) := by decide +kernel
theorem dX7_lay_12 : decode cX7_lay 12 = .ok (.invokestatic 126, 3) := by decide +kernel
theorem dX7_lay_15 : decode cX7_lay 15 = .ok (.ifCond .ne 6, 3) := by decide +kernel
theorem dX7_lay_18 : decode cX7_lay 18 = .ok (.bipush (-7), 2) := by decide +kernel
theorem dX7_lay_20 : decode cX7_lay 20 = .ok (.ireturn, 1) := by decide +kernel
theorem dX7_lay_21 : decode cX7_lay 21 = .ok (.aload_n 0, 1) := by decide +kernel
theorem dX7_lay_22 : decode cX7_lay 22 = .ok (.getfield 10, 3) := by decide +kernel
theorem dX7_lay_25 : decode cX7_lay 25 = .ok (.getfield 130, 3) := by decide +kernel
theorem dX7_lay_28 : decode cX7_lay 28 = .ok (.iload_n 1, 1) := by decide +kernel
theorem dX7_lay_29 : decode cX7_lay 29 = .ok (.iaload, 1) := by decide +kernel
theorem dX7_lay_30 : decode cX7_lay 30 = .ok (.istore 4, 2) := by decide +kernel
theorem dX7_lay_32 : decode cX7_lay 32 = .ok (.aload_n 0, 1) := by decide +kernel
theorem dX7_lay_33 : decode cX7_lay 33 = .ok (.getfield 10, 3) := by decide +kernel
theorem dX7_lay_36 : decode cX7_lay 36 = .ok (.iload_n 1, 1) := by decide +kernel
theorem dX7_lay_37 : decode cX7_lay 37 = .ok (.iload_n 2, 1) := by decide +kernel
theorem dX7_lay_38 : decode cX7_lay 38 = .ok (.iload_n 3, 1) := by decide +kernel
theorem dX7_lay_39 : decode cX7_lay 39 = .ok (.invokevirtual 133, 3) := by decide +kernel
theorem dX7_lay_42 : decode cX7_lay 42 = .ok (.iload 4, 2) := by decide +kernel
theorem dX7_lay_44 : decode cX7_lay 44 = .ok (.ireturn, 1) := by decide +kernel
set_option maxRecDepth 20000 in
theorem ggX7_plot_X7_isCell : GoodIn wsX7_plot wsX7_isCell := goodIn_r _ [9, 10, 11, 8, 12] (by decide +kernel) (by decide +kernel)
set_option maxRecDepth 20000 in
theorem gX7_plot_X7_isCell : GoodIn wsX7_plot (va_wsS RX7 123 yX7_isCell wsX7_isCell) := goodIn_app (goodIn_of _ (by decide +kernel)) ggX7_plot_X7_isCell
set_option maxRecDepth 20000 in
theorem ggX7_plot_X7_within : GoodIn wsX7_plot wsX7_within := goodIn_r _ [12] (by decide +kernel) (by decide +kernel)
set_option maxRecDepth 20000 in
theorem gX7_plot_X7_within : GoodIn wsX7_plot (va_wsS RX7 92 yX7_within wsX7_within) := goodIn_app (goodIn_of _ (by decide +kernel)) ggX7_plot_X7_within
set_option maxRecDepth 20000 in
theorem ggX7_plot_X7_isKind : GoodIn wsX7_plot wsX7_isKind := goodIn_r _ [15, 10, 11, 8, 12] (by decide +kernel) (by decide +kernel)
set_option maxRecDepth 20000 in
theorem gX7_plot_X7_isKind : GoodIn wsX7_plot (va_wsS RX7 126 yX7_isKind wsX7_isKind) := goodIn_app (goodIn_of _ (by decide +kernel)) ggX7_plot_X7_isKind
set_option maxRecDepth 20000 in
theorem ggX7_plot_X4_layOut : GoodIn wsX7_plot wsX4_layOut := goodIn_r _ [20, 21, 22, 35, 36, 37, 38, 39, 40, 41, 42, 43, 44, 45] (by decide +kernel) (by decide +kernel)
set_option maxRecDepth 20000 in
theorem gX7_plot_X4_layOut : GoodIn wsX7_plot (wsV RX7 133 RX4 yX4_layOut wsX4_layOut) := goodIn_app (goodIn_of _ (by decide +kernel)) ggX7_plot_X4_layOut
theorem dX7_plot_0 : decode cX7_plot 0 = .ok (.iload_n 2, 1) := by decide +kernel
theorem dX7_plot_1 : decode cX7_plot 1 = .ok (.bipush 10, 2) := by decide +kernel
theorem dX7_plot_3 : decode cX7_plot 3 = .ok (.idiv, 1) := by decide +kernel
theorem dX7_plot_4 : decode cX7_plot 4 = .ok (.istore 5, 2) := by decide +kernel
theorem dX7_plot_6 : decode cX7_plot 6 = .ok (.iload_n 2, 1) := by decide +kernel
theorem dX7_plot_7 : decode cX7_plot 7 = .ok (.bipush 10, 2) := by decide +kernel
theorem dX7_plot_9 : decode cX7_plot 9 = .ok (.irem, 1) := by decide +kernel
theorem dX7_plot_10 : decode cX7_plot 10 = .ok (.istore 6, 2) := by decide +kernel
theorem dX7_plot_12 : decode cX7_plot 12 = .ok (.iload_n 1, 1) := by decide +kernel
theorem dX7_plot_13 : decode cX7_plot 13 = .ok (.invokestatic 123, 3) := by decide +kernel
theorem dX7_plot_16 : decode cX7_plot 16 = .ok (.ifCond .eq 25, 3) := by decide +kernel
theorem dX7_plot_19 : decode cX7_plot 19 = .ok (.iload 5, 2) := by decide +kernel
theorem dX7_plot_21 : decode cX7_plot 21 = .ok (.iconst 1, 1) := by decide +kernel
theorem dX7_plot_22 : decode cX7_plot 22 = .ok (.bipush 6, 2) := by decide +kernel
theorem dX7_plot_24 : decode cX7_plot 24 = .ok (.invokestatic 92, 3) := by decide +kernel
theorem dX7_plot_27 : decode cX7_plot 27 = .ok (.ifCond .eq 14, 3) := by decide +kernel
theorem dX7_plot_30 : decode cX7_plot 30 = .ok (.iload 6, 2) := by decide +kernel
theorem dX7_plot_32 : decode cX7_plot 32 = .ok (.iconst 1, 1) := by decide +kernel
theorem dX7_plot_33 : decode cX7_plot 33 = .ok (.bipush 6, 2) := by decide +kernel
theorem dX7_plot_35 : decode cX7_plot 35 = .ok (.invokestatic 92, 3) := by decide +kernel
theorem dX7_plot_38 : decode cX7_plot 38 = .ok (.ifCond .ne 6, 3) := by decide +kernel
theorem dX7_plot_41 : decode cX7_plot 41 = .ok (.bipush (-2), 2) := by decide +kernel
theorem dX7_plot_43 : decode cX7_plot 43 = .ok (.ireturn, 1) := by decide +kernel
theorem dX7_plot_44 : decode cX7_plot 44 = .ok (.iload_n 3, 1) := by decide +kernel
theorem dX7_plot_45 : decode cX7_plot 45 = .ok (.iload 4, 2) := by decide +kernel
theorem dX7_plot_47 : decode cX7_plot 47 = .ok (.invokestatic 126, 3) := by decide +kernel
theorem dX7_plot_50 : decode cX7_plot 50 = .ok (.ifCond .ne 6, 3) := by decide +kernel
theorem dX7_plot_53 : decode cX7_plot 53 = .ok (.bipush (-7), 2) := by decide +kernel
theorem dX7_plot_55 : decode cX7_plot 55 = .ok (.ireturn, 1) := by decide +kernel
theorem dX7_plot_56 : decode cX7_plot 56 = .ok (.bipush 6, 2) := by decide +kernel
theorem dX7_plot_58 : decode cX7_plot 58 = .ok (.iload_n 1, 1) := by decide +kernel
theorem dX7_plot_59 : decode cX7_plot 59 = .ok (.bipush 6, 2) := by decide +kernel
theorem dX7_plot_61 : decode cX7_plot 61 = .ok (.idiv, 1) := by decide +kernel
theorem dX7_plot_62 : decode cX7_plot 62 = .ok (.iload 5, 2) := by decide +kernel
theorem dX7_plot_64 : decode cX7_plot 64 = .ok (.iadd, 1) := by decide +kernel
theorem dX7_plot_65 : decode cX7_plot 65 = .ok (.invokestatic 137, 3) := by decide +kernel
theorem dX7_plot_68 : decode cX7_plot 68 = .ok (.istore 7, 2) := by decide +kernel
theorem dX7_plot_70 : decode cX7_plot 70 = .ok (.bipush 6, 2) := by decide +kernel
theorem dX7_plot_72 : decode cX7_plot 72 = .ok (.iload_n 1, 1) := by decide +kernel
theorem dX7_plot_73 : decode cX7_plot 73 = .ok (.bipush 6, 2) := by decide +kernel
theorem dX7_plot_75 : decode cX7_plot 75 = .ok (.irem, 1) := by decide +kernel
theorem dX7_plot_76 : decode cX7_plot 76 = .ok (.iload 6, 2) := by decide +kernel
theorem dX7_plot_78 : decode cX7_plot 78 = .ok (.iadd, 1) := by decide +kernel
theorem dX7_plot_79 : decode cX7_plot 79 = .ok (.invokestatic 137, 3) := by decide +kernel
theorem dX7_plot_82 : decode cX7_plot 82 = .ok (.istore 8, 2) := by decide +kernel
theorem dX7_plot_84 : decode cX7_plot 84 = .ok (.iconst 0, 1) := by decide +kernel
theorem dX7_plot_85 : decode cX7_plot 85 = .ok (.istore 9, 2) := by decide +kernel
theorem dX7_plot_87 : decode cX7_plot 87 = .ok (.iload_n 1, 1) := by decide +kernel
theorem dX7_plot_88 : decode cX7_plot 88 = .ok (.bipush 6, 2) := by decide +kernel
theorem dX7_plot_90 : decode cX7_plot 90 = .ok (.idiv, 1) := by decide +kernel
theorem dX7_plot_91 : decode cX7_plot 91 = .ok (.istore 10, 2) := by decide +kernel
theorem dX7_plot_93 : decode cX7_plot 93 = .ok (.iload 10, 2) := by decide +kernel
theorem dX7_plot_95 : decode cX7_plot 95 = .ok (.iload 7, 2) := by decide +kernel
theorem dX7_plot_97 : decode cX7_plot 97 = .ok (.if_icmp .ge 49, 3) := by decide +kernel
theorem dX7_plot_100 : decode cX7_plot 100 = .ok (.iload_n 1, 1) := by decide +kernel
theorem dX7_plot_101 : decode cX7_plot 101 = .ok (.bipush 6, 2) := by decide +kernel
theorem dX7_plot_103 : decode cX7_plot 103 = .ok (.irem, 1) := by decide +kernel
theorem dX7_plot_104 : decode cX7_plot 104 = .ok (.istore 11, 2) := by decide +kernel
theorem dX7_plot_106 : decode cX7_plot 106 = .ok (.iload 11, 2) := by decide +kernel
theorem dX7_plot_108 : decode cX7_plot 108 = .ok (.iload 8, 2) := by decide +kernel
theorem dX7_plot_110 : decode cX7_plot 110 = .ok (.if_icmp .ge 30, 3) := by decide +kernel
theorem dX7_plot_113 : decode cX7_plot 113 = .ok (.aload_n 0, 1) := by decide +kernel
theorem dX7_plot_114 : decode cX7_plot 114 = .ok (.getfield 10, 3) := by decide +kernel
theorem dX7_plot_117 : decode cX7_plot 117 = .ok (.bipush 6, 2) := by decide +kernel
theorem dX7_plot_119 : decode cX7_plot 119 = .ok (.iload 10, 2) := by decide +kernel
theorem dX7_plot_121 : decode cX7_plot 121 = .ok (.imul, 1) := by decide +kernel
theorem dX7_plot_122 : decode cX7_plot 122 = .ok (.iload 11, 2) := by decide +kernel
theorem dX7_plot_124 : decode cX7_plot 124 = .ok (.iadd, 1) := by decide +kernel
theorem dX7_plot_125 : decode cX7_plot 125 = .ok (.iload_n 3, 1) := by decide +kernel
theorem dX7_plot_126 : decode cX7_plot 126 = .ok (.iload 4, 2) := by decide +kernel
theorem dX7_plot_128 : decode cX7_plot 128 = .ok (.invokevirtual 133, 3) := by decide +kernel
theorem dX7_plot_131 : decode cX7_plot 131 = .ok (.iinc 9 1, 3) := by decide +kernel
theorem dX7_plot_134 : decode cX7_plot 134 = .ok (.iinc 11 1, 3) := by decide +kernel
theorem dX7_plot_137 : decode cX7_plot 137 = .ok (.goto (-31), 3) := by decide +kernel
theorem dX7_plot_140 : decode cX7_plot 140 = .ok (.iinc 10 1, 3) := by decide +kernel
theorem dX7_plot_143 : decode cX7_plot 143 = .ok (.goto (-50), 3) := by decide +kernel
theorem dX7_plot_146 : decode cX7_plot 146 = .ok (.iload 9, 2) := by decide +kernel
theorem dX7_plot_148 : decode cX7_plot 148 = .ok (.ireturn, 1) := by decide +kernel
set_option maxRecDepth 20000 in
theorem ggX7_cellTold_X7_isCell : GoodIn wsX7_cellTold wsX7_isCell := goodIn_r _ [5, 6, 7, 4, 8] (by decide +kernel) (by decide +kernel)
set_option maxRecDepth 20000 in
theorem gX7_cellTold_X7_isCell : GoodIn wsX7_cellTold (va_wsS RX7 123 yX7_isCell wsX7_isCell) := goodIn_app (goodIn_of _ (by decide +kernel)) ggX7_cellTold_X7_isCell
theorem dX7_cellTold_0 : decode cX7_cellTold 0 = .ok (.iload_n 1, 1) := by decide +kernel
theorem dX7_cellTold_1 : decode cX7_cellTold 1 = .ok (.invokestatic 123, 3) := by decide +kernel
theorem dX7_cellTold_4 : decode cX7_cellTold 4 = .ok (.ifCond .ne 6, 3) := by decide +kernel
theorem dX7_cellTold_7 : decode cX7_cellTold 7 = .ok (.bipush (-5), 2) := by decide +kernel
theorem dX7_cellTold_9 : decode cX7_cellTold 9 = .ok (.ireturn, 1) := by decide +kernel
theorem dX7_cellTold_10 : decode cX7_cellTold 10 = .ok (.iload_n 2, 1) := by decide +kernel
theorem dX7_cellTold_11 : decode cX7_cellTold 11 = .ok (.tableswitch 55 0 2 #[25, 35, 45], 25) := by decide +kernel
theorem dX7_cellTold_36 : decode cX7_cellTold 36 = .ok (.aload_n 0, 1) := by decide +kernel
theorem dX7_cellTold_37 : decode cX7_cellTold 37 = .ok (.getfield 10, 3) := by decide +kernel
theorem dX7_cellTold_40 : decode cX7_cellTold 40 = .ok (.getfield 130, 3) := by decide +kernel
theorem dX7_cellTold_43 : decode cX7_cellTold 43 = .ok (.iload_n 1, 1) := by decide +kernel
theorem dX7_cellTold_44 : decode cX7_cellTold 44 = .ok (.iaload, 1) := by decide +kernel
theorem dX7_cellTold_45 : decode cX7_cellTold 45 = .ok (.ireturn, 1) := by decide +kernel
theorem dX7_cellTold_46 : decode cX7_cellTold 46 = .ok (.aload_n 0, 1) := by decide +kernel
theorem dX7_cellTold_47 : decode cX7_cellTold 47 = .ok (.getfield 10, 3) := by decide +kernel
theorem dX7_cellTold_50 : decode cX7_cellTold 50 = .ok (.getfield 143, 3) := by decide +kernel
theorem dX7_cellTold_53 : decode cX7_cellTold 53 = .ok (.iload_n 1, 1) := by decide +kernel
theorem dX7_cellTold_54 : decode cX7_cellTold 54 = .ok (.iaload, 1) := by decide +kernel
theorem dX7_cellTold_55 : decode cX7_cellTold 55 = .ok (.ireturn, 1) := by decide +kernel
theorem dX7_cellTold_56 : decode cX7_cellTold 56 = .ok (.aload_n 0, 1) := by decide +kernel
theorem dX7_cellTold_57 : decode cX7_cellTold 57 = .ok (.getfield 10, 3) := by decide +kernel
theorem dX7_cellTold_60 : decode cX7_cellTold 60 = .ok (.getfield 146, 3) := by decide +kernel
theorem dX7_cellTold_63 : decode cX7_cellTold 63 = .ok (.iload_n 1, 1) := by decide +kernel
theorem dX7_cellTold_64 : decode cX7_cellTold 64 = .ok (.iaload, 1) := by decide +kernel
theorem dX7_cellTold_65 : decode cX7_cellTold 65 = .ok (.ireturn, 1) := by decide +kernel
theorem dX7_cellTold_66 : decode cX7_cellTold 66 = .ok (.bipush (-7), 2) := by decide +kernel
theorem dX7_cellTold_68 : decode cX7_cellTold 68 = .ok (.ireturn, 1) := by decide +kernel
set_option maxRecDepth 20000 in
theorem ggX7_tree_X7_isCell : GoodIn wsX7_tree wsX7_isCell := goodIn_r _ [5, 6, 7, 4, 8] (by decide +kernel) (by decide +kernel)
set_option maxRecDepth 20000 in
theorem gX7_tree_X7_isCell : GoodIn wsX7_tree (va_wsS RX7 123 yX7_isCell wsX7_isCell) := goodIn_app (goodIn_of _ (by decide +kernel)) ggX7_tree_X7_isCell
set_option maxRecDepth 20000 in
theorem ggX7_tree_X7_within : GoodIn wsX7_tree wsX7_within := goodIn_r _ [8] (by decide +kernel) (by decide +kernel)
set_option maxRecDepth 20000 in
theorem gX7_tree_X7_within : GoodIn wsX7_tree (va_wsS RX7 92 yX7_within wsX7_within) := goodIn_app (goodIn_of _ (by decide +kernel)) ggX7_tree_X7_within
theorem dX7_tree_0 : decode cX7_tree 0 = .ok (.iload_n 1, 1) := by decide +kernel
theorem dX7_tree_1 : decode cX7_tree 1 = .ok (.invokestatic 123, 3) := by decide +kernel
theorem dX7_tree_4 : decode cX7_tree 4 = .ok (.ifCond .eq 24, 3) := by decide +kernel
theorem dX7_tree_7 : decode cX7_tree 7 = .ok (.iload_n 2, 1) := by decide +kernel
theorem dX7_tree_8 : decode cX7_tree 8 = .ok (.iconst 0, 1) := by decide +kernel
theorem dX7_tree_9 : decode cX7_tree 9 = .ok (.bipush 9, 2) := by decide +kernel
theorem dX7_tree_11 : decode cX7_tree 11 = .ok (.invokestatic 92, 3) := by decide +kernel
theorem dX7_tree_14 : decode cX7_tree 14 = .ok (.ifCond .eq 14, 3) := by decide +kernel
theorem dX7_tree_17 : decode cX7_tree 17 = .ok (.iload_n 3, 1) := by decide +kernel
theorem dX7_tree_18 : decode cX7_tree 18 = .ok (.iconst 0, 1) := by decide +kernel
theorem dX7_tree_19 : decode cX7_tree 19 = .ok (.sipush 999, 3) := by decide +kernel
theorem dX7_tree_22 : decode cX7_tree 22 = .ok (.invokestatic 92, 3) := by decide +kernel
theorem dX7_tree_25 : decode cX7_tree 25 = .ok (.ifCond .ne 6, 3) := by decide +kernel
theorem dX7_tree_28 : decode cX7_tree 28 = .ok (.bipush (-2), 2) := by decide +kernel
theorem dX7_tree_30 : decode cX7_tree 30 = .ok (.ireturn, 1) := by decide +kernel
theorem dX7_tree_31 : decode cX7_tree 31 = .ok (.aload_n 0, 1) := by decide +kernel
theorem dX7_tree_32 : decode cX7_tree 32 = .ok (.getfield 10, 3) := by decide +kernel
theorem dX7_tree_35 : decode cX7_tree 35 = .ok (.getfield 104, 3) := by decide +kernel
theorem dX7_tree_38 : decode cX7_tree 38 = .ok (.istore 4, 2) := by decide +kernel
theorem dX7_tree_40 : decode cX7_tree 40 = .ok (.iload 4, 2) := by decide +kernel
theorem dX7_tree_42 : decode cX7_tree 42 = .ok (.iconst 4, 1) := by decide +kernel
theorem dX7_tree_43 : decode cX7_tree 43 = .ok (.if_icmp .lt 6, 3) := by decide +kernel
theorem dX7_tree_46 : decode cX7_tree 46 = .ok (.bipush (-4), 2) := by decide +kernel
theorem dX7_tree_48 : decode cX7_tree 48 = .ok (.ireturn, 1) := by decide +kernel
theorem dX7_tree_49 : decode cX7_tree 49 = .ok (.aload_n 0, 1) := by decide +kernel
theorem dX7_tree_50 : decode cX7_tree 50 = .ok (.getfield 10, 3) := by decide +kernel
theorem dX7_tree_53 : decode cX7_tree 53 = .ok (.getfield 149, 3) := by decide +kernel
theorem dX7_tree_56 : decode cX7_tree 56 = .ok (.iload 4, 2) := by decide +kernel
theorem dX7_tree_58 : decode cX7_tree 58 = .ok (.iload_n 1, 1) := by decide +kernel
theorem dX7_tree_59 : decode cX7_tree 59 = .ok (.iastore, 1) := by decide +kernel
theorem dX7_tree_60 : decode cX7_tree 60 = .ok (.aload_n 0, 1) := by decide +kernel
theorem dX7_tree_61 : decode cX7_tree 61 = .ok (.getfield 10, 3) := by decide +kernel
theorem dX7_tree_64 : decode cX7_tree 64 = .ok (.getfield 152, 3) := by decide +kernel
theorem dX7_tree_67 : decode cX7_tree 67 = .ok (.iload 4, 2) := by decide +kernel
theorem dX7_tree_69 : decode cX7_tree 69 = .ok (.iload_n 2, 1) := by decide +kernel
theorem dX7_tree_70 : decode cX7_tree 70 = .ok (.iastore, 1) := by decide +kernel
theorem dX7_tree_71 : decode cX7_tree 71 = .ok (.aload_n 0, 1) := by decide +kernel
theorem dX7_tree_72 : decode cX7_tree 72 = .ok (.getfield 10, 3) := by decide +kernel
theorem dX7_tree_75 : decode cX7_tree 75 = .ok (.getfield 155, 3) := by decide +kernel
theorem dX7_tree_78 : decode cX7_tree 78 = .ok (.iload 4, 2) := by decide +kernel
theorem dX7_tree_80 : decode cX7_tree 80 = .ok (.iload_n 3, 1) := by decide +kernel
theorem dX7_tree_81 : decode cX7_tree 81 = .ok (.iastore, 1) := by decide +kernel
theorem dX7_tree_82 : decode cX7_tree 82 = .ok (.aload_n 0, 1) := by decide +kernel
theorem dX7_tree_83 : decode cX7_tree 83 = .ok (.getfield 10, 3) := by decide +kernel
theorem dX7_tree_86 : decode cX7_tree 86 = .ok (.iload 4, 2) := by decide +kernel
theorem dX7_tree_88 : decode cX7_tree 88 = .ok (.iconst 1, 1) := by decide +kernel
theorem dX7_tree_89 : decode cX7_tree 89 = .ok (.iadd, 1) := by decide +kernel
theorem dX7_tree_90 : decode cX7_tree 90 = .ok (.putfield 104, 3) := by decide +kernel
theorem dX7_tree_93 : decode cX7_tree 93 = .ok (.iload 4, 2) := by decide +kernel
theorem dX7_tree_95 : decode cX7_tree 95 = .ok (.ireturn, 1) := by decide +kernel
set_option maxRecDepth 20000 in
theorem ggX7_treeTold_X7_isTree : GoodIn wsX7_treeTold wsX7_isTree := goodIn_r _ [6, 1, 7, 8, 5, 9, 10, 11, 12, 13, 14, 15, 16, 17, 18, 19, 20, 21, 22, 23, 24, 25, 26, 27, 28, 29, 30, 31, 32] (by decide +kernel) (by decide +kernel)
set_option maxRecDepth 20000 in
theorem gX7_treeTold_X7_isTree : GoodIn wsX7_treeTold (wsV RX7 158 RX7 yX7_isTree wsX7_isTree) := goodIn_app (goodIn_of _ (by decide +kernel)) ggX7_treeTold_X7_isTree
theorem dX7_treeTold_0 : decode cX7_treeTold 0 = .ok (.aload_n 0, 1) := by decide +kernel
theorem dX7_treeTold_1 : decode cX7_treeTold 1 = .ok (.iload_n 1, 1) := by decide +kernel
theorem dX7_treeTold_2 : decode cX7_treeTold 2 = .ok (.invokevirtual 158, 3) := by decide +kernel
theorem dX7_treeTold_5 : decode cX7_treeTold 5 = .ok (.ifCond .ne 6, 3) := by decide +kernel
theorem dX7_treeTold_8 : decode cX7_treeTold 8 = .ok (.bipush (-5), 2) := by decide +kernel
theorem dX7_treeTold_10 : decode cX7_treeTold 10 = .ok (.ireturn, 1) := by decide +kernel
theorem dX7_treeTold_11 : decode cX7_treeTold 11 = .ok (.iload_n 2, 1) := by decide +kernel
theorem dX7_treeTold_12 : decode cX7_treeTold 12 = .ok (.tableswitch 58 0 2 #[28, 38, 48], 28) := by decide +kernel
theorem dX7_treeTold_40 : decode cX7_treeTold 40 = .ok (.aload_n 0, 1) := by decide +kernel
theorem dX7_treeTold_41 : decode cX7_treeTold 41 = .ok (.getfield 10, 3) := by decide +kernel
theorem dX7_treeTold_44 : decode cX7_treeTold 44 = .ok (.getfield 149, 3) := by decide +kernel
theorem dX7_treeTold_47 : decode cX7_treeTold 47 = .ok (.iload_n 1, 1) := by decide +kernel
theorem dX7_treeTold_48 : decode cX7_treeTold 48 = .ok (.iaload, 1) := by decide +kernel
theorem dX7_treeTold_49 : decode cX7_treeTold 49 = .ok (.ireturn, 1) := by decide +kernel
theorem dX7_treeTold_50 : decode cX7_treeTold 50 = .ok (.aload_n 0, 1) := by decide +kernel
theorem dX7_treeTold_51 : decode cX7_treeTold 51 = .ok (.getfield 10, 3) := by decide +kernel
theorem dX7_treeTold_54 : decode cX7_treeTold 54 = .ok (.getfield 152, 3) := by decide +kernel
theorem dX7_treeTold_57 : decode cX7_treeTold 57 = .ok (.iload_n 1, 1) := by decide +kernel
theorem dX7_treeTold_58 : decode cX7_treeTold 58 = .ok (.iaload, 1) := by decide +kernel
theorem dX7_treeTold_59 : decode cX7_treeTold 59 = .ok (.ireturn, 1) := by decide +kernel
theorem dX7_treeTold_60 : decode cX7_treeTold 60 = .ok (.aload_n 0, 1) := by decide +kernel
theorem dX7_treeTold_61 : decode cX7_treeTold 61 = .ok (.getfield 10, 3) := by decide +kernel
theorem dX7_treeTold_64 : decode cX7_treeTold 64 = .ok (.getfield 155, 3) := by decide +kernel
theorem dX7_treeTold_67 : decode cX7_treeTold 67 = .ok (.iload_n 1, 1) := by decide +kernel
theorem dX7_treeTold_68 : decode cX7_treeTold 68 = .ok (.iaload, 1) := by decide +kernel
theorem dX7_treeTold_69 : decode cX7_treeTold 69 = .ok (.ireturn, 1) := by decide +kernel
theorem dX7_treeTold_70 : decode cX7_treeTold 70 = .ok (.bipush (-7), 2) := by decide +kernel
theorem dX7_treeTold_72 : decode cX7_treeTold 72 = .ok (.ireturn, 1) := by decide +kernel
theorem dX7_fell_0 : decode cX7_fell 0 = .ok (.aload_n 0, 1) := by decide +kernel
theorem dX7_fell_1 : decode cX7_fell 1 = .ok (.getfield 10, 3) := by decide +kernel
theorem dX7_fell_4 : decode cX7_fell 4 = .ok (.getfield 104, 3) := by decide +kernel
theorem dX7_fell_7 : decode cX7_fell 7 = .ok (.ifCond .ne 6, 3) := by decide +kernel
theorem dX7_fell_10 : decode cX7_fell 10 = .ok (.bipush (-3), 2) := by decide +kernel
theorem dX7_fell_12 : decode cX7_fell 12 = .ok (.ireturn, 1) := by decide +kernel
theorem dX7_fell_13 : decode cX7_fell 13 = .ok (.aload_n 0, 1) := by decide +kernel
theorem dX7_fell_14 : decode cX7_fell 14 = .ok (.getfield 10, 3) := by decide +kernel
theorem dX7_fell_17 : decode cX7_fell 17 = .ok (.dup, 1) := by decide +kernel
theorem dX7_fell_18 : decode cX7_fell 18 = .ok (.getfield 104, 3) := by decide +kernel
theorem dX7_fell_21 : decode cX7_fell 21 = .ok (.iconst 1, 1) := by decide +kernel
theorem dX7_fell_22 : decode cX7_fell 22 = .ok (.isub, 1) := by decide +kernel
theorem dX7_fell_23 : decode cX7_fell 23 = .ok (.putfield 104, 3) := by decide +kernel
theorem dX7_fell_26 : decode cX7_fell 26 = .ok (.aload_n 0, 1) := by decide +kernel
theorem dX7_fell_27 : decode cX7_fell 27 = .ok (.getfield 16, 3) := by decide +kernel
theorem dX7_fell_30 : decode cX7_fell 30 = .ok (.getfield 104, 3) := by decide +kernel
theorem dX7_fell_33 : decode cX7_fell 33 = .ok (.aload_n 0, 1) := by decide +kernel
theorem dX7_fell_34 : decode cX7_fell 34 = .ok (.getfield 10, 3) := by decide +kernel
theorem dX7_fell_37 : decode cX7_fell 37 = .ok (.getfield 104, 3) := by decide +kernel
theorem dX7_fell_40 : decode cX7_fell 40 = .ok (.if_icmp .le 8, 3) := by decide +kernel
theorem dX7_fell_43 : decode cX7_fell 43 = .ok (.aload_n 0, 1) := by decide +kernel
theorem dX7_fell_44 : decode cX7_fell 44 = .ok (.iconst 0, 1) := by decide +kernel
theorem dX7_fell_45 : decode cX7_fell 45 = .ok (.putfield 161, 3) := by decide +kernel
theorem dX7_fell_48 : decode cX7_fell 48 = .ok (.aload_n 0, 1) := by decide +kernel
theorem dX7_fell_49 : decode cX7_fell 49 = .ok (.getfield 10, 3) := by decide +kernel
theorem dX7_fell_52 : decode cX7_fell 52 = .ok (.getfield 104, 3) := by decide +kernel
theorem dX7_fell_55 : decode cX7_fell 55 = .ok (.ireturn, 1) := by decide +kernel
set_option maxRecDepth 20000 in
theorem ggX7_strew_X7_isCell : GoodIn wsX7_strew wsX7_isCell := goodIn_r _ [5, 6, 7, 4, 8] (by decide +kernel) (by decide +kernel)
set_option maxRecDepth 20000 in
theorem gX7_strew_X7_isCell : GoodIn wsX7_strew (va_wsS RX7 123 yX7_isCell wsX7_isCell) := goodIn_app (goodIn_of _ (by decide +kernel)) ggX7_strew_X7_isCell
set_option maxRecDepth 20000 in
theorem ggX7_strew_X7_within : GoodIn wsX7_strew wsX7_within := goodIn_r _ [8] (by decide +kernel) (by decide +kernel)
set_option maxRecDepth 20000 in
theorem gX7_strew_X7_within : GoodIn wsX7_strew (va_wsS RX7 92 yX7_within wsX7_within) := goodIn_app (goodIn_of _ (by decide +kernel)) ggX7_strew_X7_within
theorem dX7_strew_0 : decode cX7_strew 0 = .ok (.iload_n 1, 1) := by decide +kernel
theorem dX7_strew_1 : decode cX7_strew 1 = .ok (.invokestatic 123, 3) := by decide +kernel
theorem dX7_strew_4 : decode cX7_strew 4 = .ok (.ifCond .ne 6, 3) := by decide +kernel
theorem dX7_strew_7 : decode cX7_strew 7 = .ok (.bipush (-5), 2) := by decide +kernel
theorem dX7_strew_9 : decode cX7_strew 9 = .ok (.ireturn, 1) := by decide +kernel
theorem dX7_strew_10 : decode cX7_strew 10 = .ok (.iload_n 2, 1) := by decide +kernel
theorem dX7_strew_11 : decode cX7_strew 11 = .ok (.iconst 0, 1) := by decide +kernel
theorem dX7_strew_12 : decode cX7_strew 12 = .ok (.sipush 999, 3) := by decide +kernel
theorem dX7_strew_15 : decode cX7_strew 15 = .ok (.invokestatic 92, 3) := by decide +kernel
theorem dX7_strew_18 : decode cX7_strew 18 = .ok (.ifCond .ne 6, 3) := by decide +kernel
theorem dX7_strew_21 : decode cX7_strew 21 = .ok (.bipush (-7), 2) := by decide +kernel
theorem dX7_strew_23 : decode cX7_strew 23 = .ok (.ireturn, 1) := by decide +kernel
theorem dX7_strew_24 : decode cX7_strew 24 = .ok (.aload_n 0, 1) := by decide +kernel
theorem dX7_strew_25 : decode cX7_strew 25 = .ok (.getfield 10, 3) := by decide +kernel
theorem dX7_strew_28 : decode cX7_strew 28 = .ok (.getfield 146, 3) := by decide +kernel
theorem dX7_strew_31 : decode cX7_strew 31 = .ok (.iload_n 1, 1) := by decide +kernel
theorem dX7_strew_32 : decode cX7_strew 32 = .ok (.iaload, 1) := by decide +kernel
theorem dX7_strew_33 : decode cX7_strew 33 = .ok (.istore_n 3, 1) := by decide +kernel
theorem dX7_strew_34 : decode cX7_strew 34 = .ok (.aload_n 0, 1) := by decide +kernel
theorem dX7_strew_35 : decode cX7_strew 35 = .ok (.getfield 10, 3) := by decide +kernel
theorem dX7_strew_38 : decode cX7_strew 38 = .ok (.getfield 146, 3) := by decide +kernel
theorem dX7_strew_41 : decode cX7_strew 41 = .ok (.iload_n 1, 1) := by decide +kernel
theorem dX7_strew_42 : decode cX7_strew 42 = .ok (.iload_n 2, 1) := by decide +kernel
theorem dX7_strew_43 : decode cX7_strew 43 = .ok (.iastore, 1) := by decide +kernel
theorem dX7_strew_44 : decode cX7_strew 44 = .ok (.iload_n 3, 1) := by decide +kernel
theorem dX7_strew_45 : decode cX7_strew 45 = .ok (.ireturn, 1) := by decide +kernel
set_option maxRecDepth 20000 in
theorem ggX7_rake_X7_within : GoodIn wsX7_rake wsX7_within := goodIn_r _ [5] (by decide +kernel) (by decide +kernel)
set_option maxRecDepth 20000 in
theorem gX7_rake_X7_within : GoodIn wsX7_rake (va_wsS RX7 92 yX7_within wsX7_within) := goodIn_app (goodIn_of _ (by decide +kernel)) ggX7_rake_X7_within
theorem dX7_rake_0 : decode cX7_rake 0 = .ok (.iload_n 1, 1) := by decide +kernel
theorem dX7_rake_1 : decode cX7_rake 1 = .ok (.iconst 0, 1) := by decide +kernel
theorem dX7_rake_2 : decode cX7_rake 2 = .ok (.sipush 16383, 3) := by decide +kernel
theorem dX7_rake_5 : decode cX7_rake 5 = .ok (.invokestatic 92, 3) := by decide +kernel
theorem dX7_rake_8 : decode cX7_rake 8 = .ok (.ifCond .ne 6, 3) := by decide +kernel
theorem dX7_rake_11 : decode cX7_rake 11 = .ok (.bipush (-2), 2) := by decide +kernel
theorem dX7_rake_13 : decode cX7_rake 13 = .ok (.ireturn, 1) := by decide +kernel
theorem dX7_rake_14 : decode cX7_rake 14 = .ok (.aload_n 0, 1) := by decide +kernel
theorem dX7_rake_15 : decode cX7_rake 15 = .ok (.getfield 10, 3) := by decide +kernel
theorem dX7_rake_18 : decode cX7_rake 18 = .ok (.getfield 107, 3) := by decide +kernel
theorem dX7_rake_21 : decode cX7_rake 21 = .ok (.istore_n 2, 1) := by decide +kernel
theorem dX7_rake_22 : decode cX7_rake 22 = .ok (.aload_n 0, 1) := by decide +kernel
theorem dX7_rake_23 : decode cX7_rake 23 = .ok (.getfield 10, 3) := by decide +kernel
theorem dX7_rake_26 : decode cX7_rake 26 = .ok (.iload_n 1, 1) := by decide +kernel
theorem dX7_rake_27 : decode cX7_rake 27 = .ok (.putfield 107, 3) := by decide +kernel
theorem dX7_rake_30 : decode cX7_rake 30 = .ok (.iload_n 2, 1) := by decide +kernel
theorem dX7_rake_31 : decode cX7_rake 31 = .ok (.ireturn, 1) := by decide +kernel
theorem dX7_heap_0 : decode cX7_heap 0 = .ok (.lload_n 1, 1) := by decide +kernel
theorem dX7_heap_1 : decode cX7_heap 1 = .ok (.lconst 1, 1) := by decide +kernel
theorem dX7_heap_2 : decode cX7_heap 2 = .ok (.lcmp, 1) := by decide +kernel
theorem dX7_heap_3 : decode cX7_heap 3 = .ok (.ifCond .lt 11, 3) := by decide +kernel
theorem dX7_heap_6 : decode cX7_heap 6 = .ok (.lload_n 1, 1) := by decide +kernel
theorem dX7_heap_7 : decode cX7_heap 7 = .ok (.ldc2_w 165, 3) := by decide +kernel
theorem dX7_heap_10 : decode cX7_heap 10 = .ok (.lcmp, 1) := by decide +kernel
theorem dX7_heap_11 : decode cX7_heap 11 = .ok (.ifCond .lt 7, 3) := by decide +kernel
theorem dX7_heap_14 : decode cX7_heap 14 = .ok (.ldc2_w 167, 3) := by decide +kernel
theorem dX7_heap_17 : decode cX7_heap 17 = .ok (.lreturn, 1) := by decide +kernel
theorem dX7_heap_18 : decode cX7_heap 18 = .ok (.aload_n 0, 1) := by decide +kernel
theorem dX7_heap_19 : decode cX7_heap 19 = .ok (.getfield 10, 3) := by decide +kernel
theorem dX7_heap_22 : decode cX7_heap 22 = .ok (.getfield 169, 3) := by decide +kernel
theorem dX7_heap_25 : decode cX7_heap 25 = .ok (.lstore_n 3, 1) := by decide +kernel
theorem dX7_heap_26 : decode cX7_heap 26 = .ok (.aload_n 0, 1) := by decide +kernel
theorem dX7_heap_27 : decode cX7_heap 27 = .ok (.getfield 10, 3) := by decide +kernel
theorem dX7_heap_30 : decode cX7_heap 30 = .ok (.lload_n 1, 1) := by decide +kernel
theorem dX7_heap_31 : decode cX7_heap 31 = .ok (.putfield 169, 3) := by decide +kernel
theorem dX7_heap_34 : decode cX7_heap 34 = .ok (.lload_n 3, 1) := by decide +kernel
theorem dX7_heap_35 : decode cX7_heap 35 = .ok (.lreturn, 1) := by decide +kernel
set_option maxRecDepth 20000 in
theorem ggX7_lie_X7_isSpan : GoodIn wsX7_lie wsX7_isSpan := goodIn_r _ [6, 7, 8, 5, 9] (by decide +kernel) (by decide +kernel)
set_option maxRecDepth 20000 in
theorem gX7_lie_X7_isSpan : GoodIn wsX7_lie (va_wsS RX7 173 yX7_isSpan wsX7_isSpan) := goodIn_app (goodIn_of _ (by decide +kernel)) ggX7_lie_X7_isSpan
set_option maxRecDepth 20000 in
theorem ggX7_lie_X7_isCell : GoodIn wsX7_lie wsX7_isCell := goodIn_r _ [12, 7, 8, 5, 9] (by decide +kernel) (by decide +kernel)
set_option maxRecDepth 20000 in
theorem gX7_lie_X7_isCell : GoodIn wsX7_lie (va_wsS RX7 123 yX7_isCell wsX7_isCell) := goodIn_app (goodIn_of _ (by decide +kernel)) ggX7_lie_X7_isCell
set_option maxRecDepth 20000 in
theorem ggX7_lie_X7_within : GoodIn wsX7_lie wsX7_within := goodIn_r _ [9] (by decide +kernel) (by decide +kernel)
set_option maxRecDepth 20000 in
theorem gX7_lie_X7_within : GoodIn wsX7_lie (va_wsS RX7 92 yX7_within wsX7_within) := goodIn_app (goodIn_of _ (by decide +kernel)) ggX7_lie_X7_within
set_option maxRecDepth 20000 in
theorem ggX7_lie_X7_goThrough : GoodIn wsX7_lie wsX7_goThrough := goodIn_r _ [16, 17, 2, 18, 19, 20, 21, 22, 23, 24, 25, 26, 27, 28, 29, 30, 31, 32, 33, 34, 35, 36, 37, 38, 39, 40, 41, 42, 43, 44, 45, 46, 47, 48, 49, 50, 51, 52, 53, 54, 55, 56, 57, 58, 59, 60, 61, 62, 63, 64, 65, 66, 67, 68, 69, 70, 71, 72, 73, 74, 75, 76, 77, 78, 79, 80, 81, 82, 83, 84, 85, 86, 87, 88, 89, 90, 91, 92, 93, 94, 95, 96, 97, 98, 99, 100, 101, 102, 103, 104, 105, 106, 107, 108, 109, 110, 111, 112, 113, 114, 115, 116, 117, 118, 119, 120, 121, 122, 123, 124, 125, 126, 127, 128, 129, 130, 131, 132, 133, 134, 135, 136, 137, 138, 139, 140, 141, 142, 143, 144, 145, 146, 147, 148, 149, 150, 151, 152, 153, 154, 155, 156, 157, 158, 159, 160, 161, 162, 163, 174, 175, 176, 177, 178, 179, 180, 181, 182, 183, 184, 164, 165, 166, 167, 168, 169, 170, 171, 172, 173, 185, 186, 187, 188, 189] (by decide +kernel) (by decide +kernel)
set_option maxRecDepth 20000 in
theorem gX7_lie_X7_goThrough : GoodIn wsX7_lie (wsV RX7 176 RX7 yX7_goThrough wsX7_goThrough) := goodIn_app (goodIn_of _ (by decide +kernel)) ggX7_lie_X7_goThrough
theorem dX7_lie_0 : decode cX7_lie 0 = .ok (.iload_n 1, 1) := by decide +kernel
theorem dX7_lie_1 : decode cX7_lie 1 = .ok (.invokestatic 173, 3) := by decide +kernel
theorem dX7_lie_4 : decode cX7_lie 4 = .ok (.ifCond .eq 10, 3) := by decide +kernel
theorem dX7_lie_7 : decode cX7_lie 7 = .ok (.iload_n 2, 1) := by decide +kernel
theorem dX7_lie_8 : decode cX7_lie 8 = .ok (.invokestatic 123, 3) := by decide +kernel
theorem dX7_lie_11 : decode cX7_lie 11 = .ok (.ifCond .ne 6, 3) := by decide +kernel
theorem dX7_lie_14 : decode cX7_lie 14 = .ok (.bipush (-5), 2) := by decide +kernel
theorem dX7_lie_16 : decode cX7_lie 16 = .ok (.ireturn, 1) := by decide +kernel
theorem dX7_lie_17 : decode cX7_lie 17 = .ok (.iload_n 3, 1) := by decide +kernel
theorem dX7_lie_18 : decode cX7_lie 18 = .ok (.iconst 0, 1) := by decide +kernel
theorem dX7_lie_19 : decode cX7_lie 19 = .ok (.iconst 2, 1) := by decide +kernel
theorem dX7_lie_20 : decode cX7_lie 20 = .ok (.invokestatic 92, 3) := by decide +kernel
theorem dX7_lie_23 : decode cX7_lie 23 = .ok (.ifCond .ne 6, 3) := by decide +kernel
theorem dX7_lie_26 : decode cX7_lie 26 = .ok (.bipush (-7), 2) := by decide +kernel
theorem dX7_lie_28 : decode cX7_lie 28 = .ok (.ireturn, 1) := by decide +kernel
theorem dX7_lie_29 : decode cX7_lie 29 = .ok (.aload_n 0, 1) := by decide +kernel
theorem dX7_lie_30 : decode cX7_lie 30 = .ok (.aload_n 0, 1) := by decide +kernel
theorem dX7_lie_31 : decode cX7_lie 31 = .ok (.getfield 10, 3) := by decide +kernel
theorem dX7_lie_34 : decode cX7_lie 34 = .ok (.iload_n 1, 1) := by decide +kernel
theorem dX7_lie_35 : decode cX7_lie 35 = .ok (.invokevirtual 176, 3) := by decide +kernel
theorem dX7_lie_38 : decode cX7_lie 38 = .ok (.iload_n 3, 1) := by decide +kernel
theorem dX7_lie_39 : decode cX7_lie 39 = .ok (.iconst 2, 1) := by decide +kernel
theorem dX7_lie_40 : decode cX7_lie 40 = .ok (.if_icmp .ne 15, 3) := by decide +kernel
theorem dX7_lie_43 : decode cX7_lie 43 = .ok (.aload_n 0, 1) := by decide +kernel
theorem dX7_lie_44 : decode cX7_lie 44 = .ok (.getfield 25, 3) := by decide +kernel
theorem dX7_lie_47 : decode cX7_lie 47 = .ok (.getfield 180, 3) := by decide +kernel
theorem dX7_lie_50 : decode cX7_lie 50 = .ok (.iload_n 2, 1) := by decide +kernel
theorem dX7_lie_51 : decode cX7_lie 51 = .ok (.iaload, 1) := by decide +kernel
theorem dX7_lie_52 : decode cX7_lie 52 = .ok (.goto 22, 3) := by decide +kernel
theorem dX7_lie_55 : decode cX7_lie 55 = .ok (.aload_n 0, 1) := by decide +kernel
theorem dX7_lie_56 : decode cX7_lie 56 = .ok (.getfield 25, 3) := by decide +kernel
theorem dX7_lie_59 : decode cX7_lie 59 = .ok (.getfield 183, 3) := by decide +kernel
theorem dX7_lie_62 : decode cX7_lie 62 = .ok (.iload_n 3, 1) := by decide +kernel
theorem dX7_lie_63 : decode cX7_lie 63 = .ok (.ifCond .ne 7, 3) := by decide +kernel
theorem dX7_lie_66 : decode cX7_lie 66 = .ok (.iconst 0, 1) := by decide +kernel
theorem dX7_lie_67 : decode cX7_lie 67 = .ok (.goto 4, 3) := by decide +kernel
theorem dX7_lie_70 : decode cX7_lie 70 = .ok (.iconst 1, 1) := by decide +kernel
theorem dX7_lie_71 : decode cX7_lie 71 = .ok (.aaload, 1) := by decide +kernel
theorem dX7_lie_72 : decode cX7_lie 72 = .ok (.iload_n 2, 1) := by decide +kernel
theorem dX7_lie_73 : decode cX7_lie 73 = .ok (.iaload, 1) := by decide +kernel
theorem dX7_lie_74 : decode cX7_lie 74 = .ok (.ireturn, 1) := by decide +kernel
set_option maxRecDepth 20000 in
theorem ggX7_sum_X7_isSpan : GoodIn wsX7_sum wsX7_isSpan := goodIn_r _ [6, 7, 8, 5, 9] (by decide +kernel) (by decide +kernel)
set_option maxRecDepth 20000 in
theorem gX7_sum_X7_isSpan : GoodIn wsX7_sum (va_wsS RX7 173 yX7_isSpan wsX7_isSpan) := goodIn_app (goodIn_of _ (by decide +kernel)) ggX7_sum_X7_isSpan
set_option maxRecDepth 20000 in
theorem ggX7_sum_X7_within : GoodIn wsX7_sum wsX7_within := goodIn_r _ [9] (by decide +kernel) (by decide +kernel)
set_option maxRecDepth 20000 in
theorem gX7_sum_X7_within : GoodIn wsX7_sum (va_wsS RX7 92 yX7_within wsX7_within) := goodIn_app (goodIn_of _ (by decide +kernel)) ggX7_sum_X7_within
set_option maxRecDepth 20000 in
theorem ggX7_sum_X7_goThrough : GoodIn wsX7_sum wsX7_goThrough := goodIn_r _ [13, 14, 2, 15, 16, 17, 18, 19, 20, 21, 22, 23, 24, 25, 26, 27, 28, 29, 30, 31, 32, 33, 34, 35, 36, 37, 38, 39, 40, 41, 42, 43, 44, 45, 46, 47, 48, 49, 50, 51, 52, 53, 54, 55, 56, 57, 58, 59, 60, 61, 62, 63, 64, 65, 66, 67, 68, 69, 70, 71, 72, 73, 74, 75, 76, 77, 78, 79, 80, 81, 82, 83, 84, 85, 86, 87, 88, 89, 90, 91, 92, 93, 94, 95, 96, 97, 98, 99, 100, 101, 102, 103, 104, 105, 106, 107, 108, 109, 110, 111, 112, 113, 114, 115, 116, 117, 118, 119, 120, 121, 122, 123, 124, 125, 126, 127, 128, 129, 130, 131, 132, 133, 134, 135, 136, 137, 138, 139, 140, 141, 142, 143, 144, 145, 146, 147, 148, 157, 158, 159, 160, 161, 162, 163, 164, 165, 166, 167, 168, 169, 170, 171, 172, 173, 174, 175, 176, 177, 178, 179, 180, 181, 182, 183, 184, 185, 186, 187, 188, 189, 190, 191, 192, 193, 194] (by decide +kernel) (by decide +kernel)
set_option maxRecDepth 20000 in
theorem gX7_sum_X7_goThrough : GoodIn wsX7_sum (wsV RX7 176 RX7 yX7_goThrough wsX7_goThrough) := goodIn_app (goodIn_of _ (by decide +kernel)) ggX7_sum_X7_goThrough
set_option maxRecDepth 20000 in
theorem ggX7_sum_X0_total : GoodIn wsX7_sum wsX0_total := goodIn_r _ [152, 30, 31, 32, 29, 145, 146, 147, 19, 148, 83, 84, 85, 86, 21, 153, 154, 155, 156, 27, 180, 181, 182, 183, 184, 185, 186, 187, 188, 189] (by decide +kernel) (by decide +kernel)
set_option maxRecDepth 20000 in
theorem gX7_sum_X0_total : GoodIn wsX7_sum (wsV RX7 186 RX0 yX0_total wsX0_total) := goodIn_app (goodIn_of _ (by decide +kernel)) ggX7_sum_X0_total
theorem dX7_sum_0 : decode cX7_sum 0 = .ok (.iload_n 1, 1) := by decide +kernel
theorem dX7_sum_1 : decode cX7_sum 1 = .ok (.invokestatic 173, 3) := by decide +kernel
theorem dX7_sum_4 : decode cX7_sum 4 = .ok (.ifCond .ne 6, 3) := by decide +kernel
theorem dX7_sum_7 : decode cX7_sum 7 = .ok (.bipush (-5), 2) := by decide +kernel
theorem dX7_sum_9 : decode cX7_sum 9 = .ok (.ireturn, 1) := by decide +kernel
theorem dX7_sum_10 : decode cX7_sum 10 = .ok (.iload_n 2, 1) := by decide +kernel
theorem dX7_sum_11 : decode cX7_sum 11 = .ok (.iconst 0, 1) := by decide +kernel
theorem dX7_sum_12 : decode cX7_sum 12 = .ok (.bipush 8, 2) := by decide +kernel
theorem dX7_sum_14 : decode cX7_sum 14 = .ok (.invokestatic 92, 3) := by decide +kernel
theorem dX7_sum_17 : decode cX7_sum 17 = .ok (.ifCond .ne 6, 3) := by decide +kernel
theorem dX7_sum_20 : decode cX7_sum 20 = .ok (.bipush (-7), 2) := by decide +kernel
theorem dX7_sum_22 : decode cX7_sum 22 = .ok (.ireturn, 1) := by decide +kernel
theorem dX7_sum_23 : decode cX7_sum 23 = .ok (.aload_n 0, 1) := by decide +kernel
theorem dX7_sum_24 : decode cX7_sum 24 = .ok (.aload_n 0, 1) := by decide +kernel
theorem dX7_sum_25 : decode cX7_sum 25 = .ok (.getfield 10, 3) := by decide +kernel
theorem dX7_sum_28 : decode cX7_sum 28 = .ok (.iload_n 1, 1) := by decide +kernel
theorem dX7_sum_29 : decode cX7_sum 29 = .ok (.invokevirtual 176, 3) := by decide +kernel
theorem dX7_sum_32 : decode cX7_sum 32 = .ok (.aload_n 0, 1) := by decide +kernel
theorem dX7_sum_33 : decode cX7_sum 33 = .ok (.getfield 25, 3) := by decide +kernel
theorem dX7_sum_36 : decode cX7_sum 36 = .ok (.iload_n 2, 1) := by decide +kernel
theorem dX7_sum_37 : decode cX7_sum 37 = .ok (.invokevirtual 186, 3) := by decide +kernel
theorem dX7_sum_40 : decode cX7_sum 40 = .ok (.ireturn, 1) := by decide +kernel
set_option maxRecDepth 20000 in
theorem ggX7_hang_X7_isSpan : GoodIn wsX7_hang wsX7_isSpan := goodIn_r _ [6, 7, 8, 5, 9] (by decide +kernel) (by decide +kernel)
set_option maxRecDepth 20000 in
theorem gX7_hang_X7_isSpan : GoodIn wsX7_hang (va_wsS RX7 173 yX7_isSpan wsX7_isSpan) := goodIn_app (goodIn_of _ (by decide +kernel)) ggX7_hang_X7_isSpan
set_option maxRecDepth 20000 in
theorem ggX7_hang_X7_isTree : GoodIn wsX7_hang wsX7_isTree := goodIn_r _ [13, 1, 7, 8, 5, 9, 153, 154, 155, 156, 157, 158, 159, 160, 161, 162, 163, 164, 175, 176, 177, 178, 179, 180, 181, 182, 183, 184, 185] (by decide +kernel) (by decide +kernel)
set_option maxRecDepth 20000 in
theorem gX7_hang_X7_isTree : GoodIn wsX7_hang (wsV RX7 158 RX7 yX7_isTree wsX7_isTree) := goodIn_app (goodIn_of _ (by decide +kernel)) ggX7_hang_X7_isTree
set_option maxRecDepth 20000 in
theorem ggX7_hang_X7_goThrough : GoodIn wsX7_hang wsX7_goThrough := goodIn_r _ [17, 18, 2, 19, 20, 21, 22, 23, 24, 25, 26, 27, 28, 29, 30, 31, 32, 33, 34, 35, 36, 37, 38, 39, 40, 41, 42, 43, 44, 45, 46, 47, 48, 49, 50, 51, 52, 53, 54, 55, 56, 57, 58, 59, 60, 61, 62, 63, 64, 65, 66, 67, 68, 69, 70, 71, 72, 73, 74, 75, 76, 77, 78, 79, 80, 81, 82, 83, 84, 85, 86, 87, 88, 89, 90, 91, 92, 93, 94, 95, 96, 97, 98, 99, 100, 101, 102, 103, 104, 105, 106, 107, 108, 109, 110, 111, 112, 113, 114, 115, 116, 117, 118, 119, 120, 121, 122, 123, 124, 125, 126, 127, 128, 129, 130, 131, 132, 133, 134, 135, 136, 137, 138, 139, 140, 141, 142, 143, 144, 145, 146, 147, 148, 149, 150, 151, 152, 153, 154, 155, 156, 157, 158, 159, 160, 161, 162, 163, 164, 175, 176, 177, 178, 179, 180, 181, 182, 183, 184, 185, 165, 166, 167, 168, 169, 170, 171, 172, 173, 174, 186, 187, 188, 189, 190] (by decide +kernel) (by decide +kernel)
set_option maxRecDepth 20000 in
theorem gX7_hang_X7_goThrough : GoodIn wsX7_hang (wsV RX7 176 RX7 yX7_goThrough wsX7_goThrough) := goodIn_app (goodIn_of _ (by decide +kernel)) ggX7_hang_X7_goThrough
theorem dX7_hang_0 : decode cX7_hang 0 = .ok (.iload_n 1, 1) := by decide +kernel
theorem dX7_hang_1 : decode cX7_hang 1 = .ok (.invokestatic 173, 3) := by decide +kernel
theorem dX7_hang_4 : decode cX7_hang 4 = .ok (.ifCond .eq 11, 3) := by decide +kernel
theorem dX7_hang_7 : decode cX7_hang 7 = .ok (.aload_n 0, 1) := by decide +kernel
theorem dX7_hang_8 : decode cX7_hang 8 = .ok (.iload_n 2, 1) := by decide +kernel
theorem dX7_hang_9 : decode cX7_hang 9 = .ok (.invokevirtual 158, 3) := by decide +kernel
theorem dX7_hang_12 : decode cX7_hang 12 = .ok (.ifCond .ne 6, 3) := by decide +kernel
theorem dX7_hang_15 : decode cX7_hang 15 = .ok (.bipush (-5), 2) := by decide +kernel
theorem dX7_hang_17 : decode cX7_hang 17 = .ok (.ireturn, 1) := by decide +kernel
theorem dX7_hang_18 : decode cX7_hang 18 = .ok (.aload_n 0, 1) := by decide +kernel
theorem dX7_hang_19 : decode cX7_hang 19 = .ok (.aload_n 0, 1) := by decide +kernel
theorem dX7_hang_20 : decode cX7_hang 20 = .ok (.getfield 10, 3) := by decide +kernel
theorem dX7_hang_23 : decode cX7_hang 23 = .ok (.iload_n 1, 1) := by decide +kernel
theorem dX7_hang_24 : decode cX7_hang 24 = .ok (.invokevirtual 176, 3) := by decide +kernel
theorem dX7_hang_27 : decode cX7_hang 27 = .ok (.aload_n 0, 1) := by decide +kernel
theorem dX7_hang_28 : decode cX7_hang 28 = .ok (.getfield 25, 3) := by decide +kernel
theorem dX7_hang_31 : decode cX7_hang 31 = .ok (.getfield 189, 3) := by decide +kernel
theorem dX7_hang_34 : decode cX7_hang 34 = .ok (.iload_n 2, 1) := by decide +kernel
theorem dX7_hang_35 : decode cX7_hang 35 = .ok (.iaload, 1) := by decide +kernel
theorem dX7_hang_36 : decode cX7_hang 36 = .ok (.ireturn, 1) := by decide +kernel
set_option maxRecDepth 20000 in
theorem ggX7_great_X7_isChoice : GoodIn wsX7_great wsX7_isChoice := goodIn_r _ [6, 7, 8, 5, 9] (by decide +kernel) (by decide +kernel)
set_option maxRecDepth 20000 in
theorem gX7_great_X7_isChoice : GoodIn wsX7_great (va_wsS RX7 192 yX7_isChoice wsX7_isChoice) := goodIn_app (goodIn_of _ (by decide +kernel)) ggX7_great_X7_isChoice
set_option maxRecDepth 20000 in
theorem ggX7_great_X7_goThrough : GoodIn wsX7_great wsX7_goThrough := goodIn_r _ [13, 14, 2, 15, 16, 17, 18, 19, 20, 21, 22, 23, 24, 25, 26, 27, 28, 29, 30, 31, 32, 33, 34, 35, 36, 37, 38, 39, 40, 41, 42, 43, 44, 45, 46, 47, 48, 49, 50, 51, 52, 53, 54, 55, 56, 57, 58, 59, 60, 61, 62, 63, 64, 65, 66, 67, 68, 69, 70, 71, 72, 73, 74, 75, 76, 77, 78, 79, 80, 81, 82, 83, 84, 85, 86, 87, 88, 89, 90, 91, 92, 93, 94, 95, 96, 97, 98, 99, 100, 101, 102, 103, 104, 105, 106, 107, 108, 109, 110, 111, 112, 113, 114, 115, 116, 117, 118, 119, 120, 121, 122, 123, 124, 125, 126, 127, 128, 129, 130, 131, 132, 133, 134, 135, 136, 137, 138, 139, 140, 141, 142, 143, 144, 145, 146, 147, 148, 156, 157, 158, 159, 160, 161, 162, 163, 164, 165, 166, 167, 178, 179, 180, 181, 182, 183, 184, 185, 186, 187, 188, 168, 169, 170, 171, 172, 173, 174, 175, 176, 177, 189, 190, 191, 192, 193] (by decide +kernel) (by decide +kernel)
set_option maxRecDepth 20000 in
theorem gX7_great_X7_goThrough : GoodIn wsX7_great (wsV RX7 176 RX7 yX7_goThrough wsX7_goThrough) := goodIn_app (goodIn_of _ (by decide +kernel)) ggX7_great_X7_goThrough
set_option maxRecDepth 20000 in
theorem ggX7_great_X0_fallenIn : GoodIn wsX7_great wsX0_fallenIn := goodIn_r _ [152, 28, 168, 169, 170, 171, 172, 173, 174, 175, 176, 177] (by decide +kernel) (by decide +kernel)
set_option maxRecDepth 20000 in
theorem gX7_great_X0_fallenIn : GoodIn wsX7_great (wsV RX7 195 RX0 yX0_fallenIn wsX0_fallenIn) := goodIn_app (goodIn_of _ (by decide +kernel)) ggX7_great_X0_fallenIn
set_option maxRecDepth 20000 in
theorem ggX7_great_X7_firstOfMost : GoodIn wsX7_great wsX7_firstOfMost := goodIn_r _ [155] (by decide +kernel) (by decide +kernel)
set_option maxRecDepth 20000 in
theorem gX7_great_X7_firstOfMost : GoodIn wsX7_great (va_wsS RX7 201 yX7_firstOfMost wsX7_firstOfMost) := goodIn_app (goodIn_of _ (by decide +kernel)) ggX7_great_X7_firstOfMost
theorem dX7_great_0 : decode cX7_great 0 = .ok (.iload_n 1, 1) := by decide +kernel
theorem dX7_great_1 : decode cX7_great 1 = .ok (.invokestatic 192, 3) := by decide +kernel
theorem dX7_great_4 : decode cX7_great 4 = .ok (.ifCond .ne 6, 3) := by decide +kernel
theorem dX7_great_7 : decode cX7_great 7 = .ok (.bipush (-2), 2) := by decide +kernel
theorem dX7_great_9 : decode cX7_great 9 = .ok (.ireturn, 1) := by decide +kernel
theorem dX7_great_10 : decode cX7_great 10 = .ok (.aload_n 0, 1) := by decide +kernel
theorem dX7_great_11 : decode cX7_great 11 = .ok (.aload_n 0, 1) := by decide +kernel
theorem dX7_great_12 : decode cX7_great 12 = .ok (.getfield 10, 3) := by decide +kernel
theorem dX7_great_15 : decode cX7_great 15 = .ok (.bipush 14, 2) := by decide +kernel
theorem dX7_great_17 : decode cX7_great 17 = .ok (.invokevirtual 176, 3) := by decide +kernel
theorem dX7_great_20 : decode cX7_great 20 = .ok (.iload_n 1, 1) := by decide +kernel
theorem dX7_great_21 : decode cX7_great 21 = .ok (.ifCond .ne 17, 3) := by decide +kernel
theorem dX7_great_24 : decode cX7_great 24 = .ok (.aload_n 0, 1) := by decide +kernel
theorem dX7_great_25 : decode cX7_great 25 = .ok (.getfield 25, 3) := by decide +kernel
theorem dX7_great_28 : decode cX7_great 28 = .ok (.bipush 14, 2) := by decide +kernel
theorem dX7_great_30 : decode cX7_great 30 = .ok (.invokevirtual 195, 3) := by decide +kernel
theorem dX7_great_33 : decode cX7_great 33 = .ok (.ifCond .ne 5, 3) := by decide +kernel
theorem dX7_great_36 : decode cX7_great 36 = .ok (.iconst (-1), 1) := by decide +kernel
theorem dX7_great_37 : decode cX7_great 37 = .ok (.ireturn, 1) := by decide +kernel
theorem dX7_great_38 : decode cX7_great 38 = .ok (.aload_n 0, 1) := by decide +kernel
theorem dX7_great_39 : decode cX7_great 39 = .ok (.getfield 25, 3) := by decide +kernel
theorem dX7_great_42 : decode cX7_great 42 = .ok (.getfield 198, 3) := by decide +kernel
theorem dX7_great_45 : decode cX7_great 45 = .ok (.bipush 14, 2) := by decide +kernel
theorem dX7_great_47 : decode cX7_great 47 = .ok (.iload_n 1, 1) := by decide +kernel
theorem dX7_great_48 : decode cX7_great 48 = .ok (.invokestatic 201, 3) := by decide +kernel
theorem dX7_great_51 : decode cX7_great 51 = .ok (.ireturn, 1) := by decide +kernel
set_option maxRecDepth 20000 in
theorem ggX7_worst_X7_isSpan : GoodIn wsX7_worst wsX7_isSpan := goodIn_r _ [6, 7, 8, 5, 9] (by decide +kernel) (by decide +kernel)
set_option maxRecDepth 20000 in
theorem gX7_worst_X7_isSpan : GoodIn wsX7_worst (va_wsS RX7 173 yX7_isSpan wsX7_isSpan) := goodIn_app (goodIn_of _ (by decide +kernel)) ggX7_worst_X7_isSpan
set_option maxRecDepth 20000 in
theorem ggX7_worst_X7_isChoice : GoodIn wsX7_worst wsX7_isChoice := goodIn_r _ [12, 7, 8, 5, 9] (by decide +kernel) (by decide +kernel)
set_option maxRecDepth 20000 in
theorem gX7_worst_X7_isChoice : GoodIn wsX7_worst (va_wsS RX7 192 yX7_isChoice wsX7_isChoice) := goodIn_app (goodIn_of _ (by decide +kernel)) ggX7_worst_X7_isChoice
set_option maxRecDepth 20000 in
theorem ggX7_worst_X7_goThrough : GoodIn wsX7_worst wsX7_goThrough := goodIn_r _ [16, 17, 2, 18, 19, 20, 21, 22, 23, 24, 25, 26, 27, 28, 29, 30, 31, 32, 33, 34, 35, 36, 37, 38, 39, 40, 41, 42, 43, 44, 45, 46, 47, 48, 49, 50, 51, 52, 53, 54, 55, 56, 57, 58, 59, 60, 61, 62, 63, 64, 65, 66, 67, 68, 69, 70, 71, 72, 73, 74, 75, 76, 77, 78, 79, 80, 81, 82, 83, 84, 85, 86, 87, 88, 89, 90, 91, 92, 93, 94, 95, 96, 97, 98, 99, 100, 101, 102, 103, 104, 105, 106, 107, 108, 109, 110, 111, 112, 113, 114, 115, 116, 117, 118, 119, 120, 121, 122, 123, 124, 125, 126, 127, 128, 129, 130, 131, 132, 133, 134, 135, 136, 137, 138, 139, 140, 141, 142, 143, 144, 145, 146, 147, 148, 149, 150, 151, 155, 156, 157, 158, 159, 160, 161, 162, 163, 164, 165, 166, 177, 178, 179, 180, 181, 182, 183, 184, 185, 186, 187, 167, 168, 169, 170, 171, 172, 173, 174, 175, 176, 188, 189, 190, 191, 192] (by decide +kernel) (by decide +kernel)
set_option maxRecDepth 20000 in
theorem gX7_worst_X7_goThrough : GoodIn wsX7_worst (wsV RX7 176 RX7 yX7_goThrough wsX7_goThrough) := goodIn_app (goodIn_of _ (by decide +kernel)) ggX7_worst_X7_goThrough
set_option maxRecDepth 20000 in
theorem ggX7_worst_X7_firstOfMost : GoodIn wsX7_worst wsX7_firstOfMost := goodIn_r _ [154] (by decide +kernel) (by decide +kernel)
set_option maxRecDepth 20000 in
theorem gX7_worst_X7_firstOfMost : GoodIn wsX7_worst (va_wsS RX7 201 yX7_firstOfMost wsX7_firstOfMost) := goodIn_app (goodIn_of _ (by decide +kernel)) ggX7_worst_X7_firstOfMost
theorem dX7_worst_0 : decode cX7_worst 0 = .ok (.iload_n 1, 1) := by decide +kernel
theorem dX7_worst_1 : decode cX7_worst 1 = .ok (.invokestatic 173, 3) := by decide +kernel
theorem dX7_worst_4 : decode cX7_worst 4 = .ok (.ifCond .ne 6, 3) := by decide +kernel
theorem dX7_worst_7 : decode cX7_worst 7 = .ok (.bipush (-5), 2) := by decide +kernel
theorem dX7_worst_9 : decode cX7_worst 9 = .ok (.ireturn, 1) := by decide +kernel
theorem dX7_worst_10 : decode cX7_worst 10 = .ok (.iload_n 2, 1) := by decide +kernel
theorem dX7_worst_11 : decode cX7_worst 11 = .ok (.invokestatic 192, 3) := by decide +kernel
theorem dX7_worst_14 : decode cX7_worst 14 = .ok (.ifCond .ne 6, 3) := by decide +kernel
theorem dX7_worst_17 : decode cX7_worst 17 = .ok (.bipush (-7), 2) := by decide +kernel
theorem dX7_worst_19 : decode cX7_worst 19 = .ok (.ireturn, 1) := by decide +kernel
theorem dX7_worst_20 : decode cX7_worst 20 = .ok (.aload_n 0, 1) := by decide +kernel
theorem dX7_worst_21 : decode cX7_worst 21 = .ok (.aload_n 0, 1) := by decide +kernel
theorem dX7_worst_22 : decode cX7_worst 22 = .ok (.getfield 10, 3) := by decide +kernel
theorem dX7_worst_25 : decode cX7_worst 25 = .ok (.iload_n 1, 1) := by decide +kernel
theorem dX7_worst_26 : decode cX7_worst 26 = .ok (.invokevirtual 176, 3) := by decide +kernel
theorem dX7_worst_29 : decode cX7_worst 29 = .ok (.aload_n 0, 1) := by decide +kernel
theorem dX7_worst_30 : decode cX7_worst 30 = .ok (.getfield 25, 3) := by decide +kernel
theorem dX7_worst_33 : decode cX7_worst 33 = .ok (.getfield 180, 3) := by decide +kernel
theorem dX7_worst_36 : decode cX7_worst 36 = .ok (.bipush 36, 2) := by decide +kernel
theorem dX7_worst_38 : decode cX7_worst 38 = .ok (.iload_n 2, 1) := by decide +kernel
theorem dX7_worst_39 : decode cX7_worst 39 = .ok (.invokestatic 201, 3) := by decide +kernel
theorem dX7_worst_42 : decode cX7_worst 42 = .ok (.ireturn, 1) := by decide +kernel
set_option maxRecDepth 20000 in
theorem ggX7_corner_X7_isSpan : GoodIn wsX7_corner wsX7_isSpan := goodIn_r _ [7, 8, 9, 6, 10] (by decide +kernel) (by decide +kernel)
set_option maxRecDepth 20000 in
theorem gX7_corner_X7_isSpan : GoodIn wsX7_corner (va_wsS RX7 173 yX7_isSpan wsX7_isSpan) := goodIn_app (goodIn_of _ (by decide +kernel)) ggX7_corner_X7_isSpan
set_option maxRecDepth 20000 in
theorem ggX7_corner_X7_isChoice : GoodIn wsX7_corner wsX7_isChoice := goodIn_r _ [13, 8, 9, 6, 10] (by decide +kernel) (by decide +kernel)
set_option maxRecDepth 20000 in
theorem gX7_corner_X7_isChoice : GoodIn wsX7_corner (va_wsS RX7 192 yX7_isChoice wsX7_isChoice) := goodIn_app (goodIn_of _ (by decide +kernel)) ggX7_corner_X7_isChoice
set_option maxRecDepth 20000 in
theorem ggX7_corner_X7_goThrough : GoodIn wsX7_corner wsX7_goThrough := goodIn_r _ [17, 18, 2, 19, 20, 21, 22, 23, 24, 25, 26, 27, 28, 29, 30, 31, 32, 33, 34, 35, 36, 37, 38, 39, 40, 41, 42, 43, 44, 45, 46, 47, 48, 49, 50, 51, 52, 53, 54, 55, 56, 57, 58, 59, 60, 61, 62, 63, 64, 65, 66, 67, 68, 69, 70, 71, 72, 73, 74, 75, 76, 77, 78, 79, 80, 81, 82, 83, 84, 85, 86, 87, 88, 89, 90, 91, 92, 93, 94, 95, 96, 97, 98, 99, 100, 101, 102, 103, 104, 105, 106, 107, 108, 109, 110, 111, 112, 113, 114, 115, 116, 117, 118, 119, 120, 121, 122, 123, 124, 125, 126, 127, 128, 129, 130, 131, 132, 133, 134, 135, 136, 137, 138, 139, 140, 141, 142, 143, 144, 145, 146, 147, 148, 149, 150, 151, 152, 160, 161, 162, 163, 164, 165, 166, 167, 168, 169, 170, 171, 172, 173, 174, 175, 176, 177, 178, 179, 180, 181, 182, 183, 184, 185, 186, 187, 188, 189, 190, 191, 192, 193, 194, 195, 196, 197] (by decide +kernel) (by decide +kernel)
set_option maxRecDepth 20000 in
theorem gX7_corner_X7_goThrough : GoodIn wsX7_corner (wsV RX7 176 RX7 yX7_goThrough wsX7_goThrough) := goodIn_app (goodIn_of _ (by decide +kernel)) ggX7_corner_X7_goThrough
set_option maxRecDepth 20000 in
theorem ggX7_corner_X0_tellLying : GoodIn wsX7_corner wsX0_tellLying := goodIn_r _ [156, 87, 88, 89, 23, 90, 25, 183, 184, 185, 186, 187, 188, 189, 190, 191, 192] (by decide +kernel) (by decide +kernel)
set_option maxRecDepth 20000 in
theorem gX7_corner_X0_tellLying : GoodIn wsX7_corner (wsV RX7 205 RX0 yX0_tellLying wsX0_tellLying) := goodIn_app (goodIn_of _ (by decide +kernel)) ggX7_corner_X0_tellLying
set_option maxRecDepth 20000 in
theorem ggX7_corner_X7_firstOfMost : GoodIn wsX7_corner wsX7_firstOfMost := goodIn_r _ [159] (by decide +kernel) (by decide +kernel)
set_option maxRecDepth 20000 in
theorem gX7_corner_X7_firstOfMost : GoodIn wsX7_corner (va_wsS RX7 201 yX7_firstOfMost wsX7_firstOfMost) := goodIn_app (goodIn_of _ (by decide +kernel)) ggX7_corner_X7_firstOfMost
theorem dX7_corner_0 : decode cX7_corner 0 = .ok (.iload_n 1, 1) := by decide +kernel
theorem dX7_corner_1 : decode cX7_corner 1 = .ok (.invokestatic 173, 3) := by decide +kernel
theorem dX7_corner_4 : decode cX7_corner 4 = .ok (.ifCond .ne 6, 3) := by decide +kernel
theorem dX7_corner_7 : decode cX7_corner 7 = .ok (.bipush (-5), 2) := by decide +kernel
theorem dX7_corner_9 : decode cX7_corner 9 = .ok (.ireturn, 1) := by decide +kernel
theorem dX7_corner_10 : decode cX7_corner 10 = .ok (.iload_n 2, 1) := by decide +kernel
theorem dX7_corner_11 : decode cX7_corner 11 = .ok (.invokestatic 192, 3) := by decide +kernel
theorem dX7_corner_14 : decode cX7_corner 14 = .ok (.ifCond .ne 6, 3) := by decide +kernel
theorem dX7_corner_17 : decode cX7_corner 17 = .ok (.bipush (-7), 2) := by decide +kernel
theorem dX7_corner_19 : decode cX7_corner 19 = .ok (.ireturn, 1) := by decide +kernel
theorem dX7_corner_20 : decode cX7_corner 20 = .ok (.aload_n 0, 1) := by decide +kernel
theorem dX7_corner_21 : decode cX7_corner 21 = .ok (.aload_n 0, 1) := by decide +kernel
theorem dX7_corner_22 : decode cX7_corner 22 = .ok (.getfield 10, 3) := by decide +kernel
theorem dX7_corner_25 : decode cX7_corner 25 = .ok (.iload_n 1, 1) := by decide +kernel
theorem dX7_corner_26 : decode cX7_corner 26 = .ok (.invokevirtual 176, 3) := by decide +kernel
theorem dX7_corner_29 : decode cX7_corner 29 = .ok (.aload_n 0, 1) := by decide +kernel
theorem dX7_corner_30 : decode cX7_corner 30 = .ok (.getfield 25, 3) := by decide +kernel
theorem dX7_corner_33 : decode cX7_corner 33 = .ok (.aload_n 0, 1) := by decide +kernel
theorem dX7_corner_34 : decode cX7_corner 34 = .ok (.getfield 59, 3) := by decide +kernel
theorem dX7_corner_37 : decode cX7_corner 37 = .ok (.invokevirtual 205, 3) := by decide +kernel
theorem dX7_corner_40 : decode cX7_corner 40 = .ok (.aload_n 0, 1) := by decide +kernel
theorem dX7_corner_41 : decode cX7_corner 41 = .ok (.getfield 59, 3) := by decide +kernel
theorem dX7_corner_44 : decode cX7_corner 44 = .ok (.bipush 36, 2) := by decide +kernel
theorem dX7_corner_46 : decode cX7_corner 46 = .ok (.iload_n 2, 1) := by decide +kernel
theorem dX7_corner_47 : decode cX7_corner 47 = .ok (.invokestatic 201, 3) := by decide +kernel
theorem dX7_corner_50 : decode cX7_corner 50 = .ok (.ireturn, 1) := by decide +kernel
set_option maxRecDepth 20000 in
theorem ggX7_least_X7_within : GoodIn wsX7_least wsX7_within := goodIn_r _ [7] (by decide +kernel) (by decide +kernel)
set_option maxRecDepth 20000 in
theorem gX7_least_X7_within : GoodIn wsX7_least (va_wsS RX7 92 yX7_within wsX7_within) := goodIn_app (goodIn_of _ (by decide +kernel)) ggX7_least_X7_within
set_option maxRecDepth 20000 in
theorem ggX7_least_X7_isChoice : GoodIn wsX7_least wsX7_isChoice := goodIn_r _ [10, 4, 5, 6, 7] (by decide +kernel) (by decide +kernel)
set_option maxRecDepth 20000 in
theorem gX7_least_X7_isChoice : GoodIn wsX7_least (va_wsS RX7 192 yX7_isChoice wsX7_isChoice) := goodIn_app (goodIn_of _ (by decide +kernel)) ggX7_least_X7_isChoice
set_option maxRecDepth 20000 in
theorem ggX7_least_X4_become : GoodIn wsX7_least wsX4_become := goodIn_r _ [15, 16, 17, 18, 19, 20, 21, 22, 23, 24, 25, 26, 27, 28, 29, 30, 185, 186, 187, 188, 189, 190, 191, 192, 193, 194, 195] (by decide +kernel) (by decide +kernel)
set_option maxRecDepth 20000 in
theorem gX7_least_X4_become : GoodIn wsX7_least (wsV RX7 209 RX4 yX4_become wsX4_become) := goodIn_app (goodIn_of _ (by decide +kernel)) ggX7_least_X4_become
set_option maxRecDepth 20000 in
theorem ggX7_least_X7_chosenSaturdays : GoodIn wsX7_least wsX7_chosenSaturdays := goodIn_r _ [33] (by decide +kernel) (by decide +kernel)
set_option maxRecDepth 20000 in
theorem gX7_least_X7_chosenSaturdays : GoodIn wsX7_least (va_wsS RX7 213 yX7_chosenSaturdays wsX7_chosenSaturdays) := goodIn_app (goodIn_of _ (by decide +kernel)) ggX7_least_X7_chosenSaturdays
set_option maxRecDepth 20000 in
theorem ggX7_least_X7_goThrough : GoodIn wsX7_least wsX7_goThrough := goodIn_r _ [37, 38, 3, 39, 40, 41, 42, 43, 44, 45, 46, 18, 19, 20, 47, 48, 49, 50, 51, 52, 53, 54, 55, 56, 57, 58, 59, 60, 61, 62, 63, 64, 65, 66, 67, 68, 69, 70, 71, 72, 73, 74, 75, 76, 77, 78, 79, 80, 81, 82, 83, 84, 85, 86, 87, 88, 89, 90, 91, 92, 93, 94, 95, 96, 97, 98, 99, 100, 101, 102, 103, 104, 105, 106, 107, 108, 109, 110, 111, 112, 113, 114, 115, 116, 117, 118, 119, 120, 121, 122, 123, 124, 125, 126, 127, 128, 129, 130, 131, 132, 133, 134, 135, 136, 137, 138, 139, 140, 141, 142, 143, 144, 145, 146, 147, 148, 149, 150, 151, 152, 153, 154, 155, 156, 157, 158, 159, 160, 161, 162, 163, 164, 165, 166, 167, 168, 169, 173, 174, 175, 176, 177, 178, 179, 180, 181, 182, 183, 184, 185, 186, 187, 188, 189, 190, 191, 192, 193, 194, 195, 196, 197, 198, 199, 200, 201, 202, 203, 204, 205, 206, 207, 208, 209, 210] (by decide +kernel) (by decide +kernel)
set_option maxRecDepth 20000 in
theorem gX7_least_X7_goThrough : GoodIn wsX7_least (wsV RX7 176 RX7 yX7_goThrough wsX7_goThrough) := goodIn_app (goodIn_of _ (by decide +kernel)) ggX7_least_X7_goThrough
set_option maxRecDepth 20000 in
theorem ggX7_least_X7_firstOfMost : GoodIn wsX7_least wsX7_firstOfMost := goodIn_r _ [172] (by decide +kernel) (by decide +kernel)
set_option maxRecDepth 20000 in
theorem gX7_least_X7_firstOfMost : GoodIn wsX7_least (va_wsS RX7 201 yX7_firstOfMost wsX7_firstOfMost) := goodIn_app (goodIn_of _ (by decide +kernel)) ggX7_least_X7_firstOfMost
theorem dX7_least_0 : decode cX7_least 0 = .ok (.iload_n 1, 1) := by decide +kernel
theorem dX7_least_1 : decode cX7_least 1 = .ok (.iconst 0, 1) := by decide +kernel
theorem dX7_least_2 : decode cX7_least 2 = .ok (.bipush 14, 2) := by decide +kernel
theorem dX7_least_4 : decode cX7_least 4 = .ok (.invokestatic 92, 3) := by decide +kernel
theorem dX7_least_7 : decode cX7_least 7 = .ok (.ifCond .eq 10, 3) := by decide +kernel
theorem dX7_least_10 : decode cX7_least 10 = .ok (.iload_n 2, 1) := by decide +kernel
theorem dX7_least_11 : decode cX7_least 11 = .ok (.invokestatic 192, 3) := by decide +kernel
theorem dX7_least_14 : decode cX7_least 14 = .ok (.ifCond .ne 6, 3) := by decide +kernel
theorem dX7_least_17 : decode cX7_least 17 = .ok (.bipush (-2), 2) := by decide +kernel
theorem dX7_least_19 : decode cX7_least 19 = .ok (.ireturn, 1) := by decide +kernel
theorem dX7_least_20 : decode cX7_least 20 = .ok (.iconst (-1), 1) := by decide +kernel
theorem dX7_least_21 : decode cX7_least 21 = .ok (.istore_n 3, 1) := by decide +kernel
theorem dX7_least_22 : decode cX7_least 22 = .ok (.iconst (-1), 1) := by decide +kernel
theorem dX7_least_23 : decode cX7_least 23 = .ok (.istore 4, 2) := by decide +kernel
theorem dX7_least_25 : decode cX7_least 25 = .ok (.aload_n 0, 1) := by decide +kernel
theorem dX7_least_26 : decode cX7_least 26 = .ok (.getfield 19, 3) := by decide +kernel
theorem dX7_least_29 : decode cX7_least 29 = .ok (.aload_n 0, 1) := by decide +kernel
theorem dX7_least_30 : decode cX7_least 30 = .ok (.getfield 10, 3) := by decide +kernel
theorem dX7_least_33 : decode cX7_least 33 = .ok (.invokevirtual 209, 3) := by decide +kernel
theorem dX7_least_36 : decode cX7_least 36 = .ok (.iconst 0, 1) := by decide +kernel
theorem dX7_least_37 : decode cX7_least 37 = .ok (.istore 5, 2) := by decide +kernel
theorem dX7_least_39 : decode cX7_least 39 = .ok (.iload 5, 2) := by decide +kernel
theorem dX7_least_41 : decode cX7_least 41 = .ok (.bipush 16, 2) := by decide +kernel
theorem dX7_least_43 : decode cX7_least 43 = .ok (.if_icmp .ge 94, 3) := by decide +kernel
theorem dX7_least_46 : decode cX7_least 46 = .ok (.aload_n 0, 1) := by decide +kernel
theorem dX7_least_47 : decode cX7_least 47 = .ok (.getfield 19, 3) := by decide +kernel
theorem dX7_least_50 : decode cX7_least 50 = .ok (.iload 5, 2) := by decide +kernel
theorem dX7_least_52 : decode cX7_least 52 = .ok (.invokestatic 213, 3) := by decide +kernel
theorem dX7_least_55 : decode cX7_least 55 = .ok (.putfield 107, 3) := by decide +kernel
theorem dX7_least_58 : decode cX7_least 58 = .ok (.aload_n 0, 1) := by decide +kernel
theorem dX7_least_59 : decode cX7_least 59 = .ok (.aload_n 0, 1) := by decide +kernel
theorem dX7_least_60 : decode cX7_least 60 = .ok (.getfield 19, 3) := by decide +kernel
theorem dX7_least_63 : decode cX7_least 63 = .ok (.bipush 14, 2) := by decide +kernel
theorem dX7_least_65 : decode cX7_least 65 = .ok (.invokevirtual 176, 3) := by decide +kernel
theorem dX7_least_68 : decode cX7_least 68 = .ok (.aload_n 0, 1) := by decide +kernel
theorem dX7_least_69 : decode cX7_least 69 = .ok (.getfield 25, 3) := by decide +kernel
theorem dX7_least_72 : decode cX7_least 72 = .ok (.getfield 180, 3) := by decide +kernel
theorem dX7_least_75 : decode cX7_least 75 = .ok (.bipush 36, 2) := by decide +kernel
theorem dX7_least_77 : decode cX7_least 77 = .ok (.iconst 1, 1) := by decide +kernel
theorem dX7_least_78 : decode cX7_least 78 = .ok (.invokestatic 201, 3) := by decide +kernel
theorem dX7_least_81 : decode cX7_least 81 = .ok (.iload_n 1, 1) := by decide +kernel
theorem dX7_least_82 : decode cX7_least 82 = .ok (.if_icmp .gt 7, 3) := by decide +kernel
theorem dX7_least_85 : decode cX7_least 85 = .ok (.iconst 1, 1) := by decide +kernel
theorem dX7_least_86 : decode cX7_least 86 = .ok (.goto 4, 3) := by decide +kernel
theorem dX7_least_89 : decode cX7_least 89 = .ok (.iconst 0, 1) := by decide +kernel
theorem dX7_least_90 : decode cX7_least 90 = .ok (.istore 6, 2) := by decide +kernel
theorem dX7_least_92 : decode cX7_least 92 = .ok (.iload 6, 2) := by decide +kernel
theorem dX7_least_94 : decode cX7_least 94 = .ok (.ifCond .eq 37, 3) := by decide +kernel
theorem dX7_least_97 : decode cX7_least 97 = .ok (.iload_n 3, 1) := by decide +kernel
theorem dX7_least_98 : decode cX7_least 98 = .ok (.iconst (-1), 1) := by decide +kernel
theorem dX7_least_99 : decode cX7_least 99 = .ok (.if_icmp .eq 15, 3) := by decide +kernel
theorem dX7_least_102 : decode cX7_least 102 = .ok (.aload_n 0, 1) := by decide +kernel
theorem dX7_least_103 : decode cX7_least 103 = .ok (.getfield 25, 3) := by decide +kernel
theorem dX7_least_106 : decode cX7_least 106 = .ok (.getfield 216, 3) := by decide +kernel
theorem dX7_least_109 : decode cX7_least 109 = .ok (.iload 4, 2) := by decide +kernel
theorem dX7_least_111 : decode cX7_least 111 = .ok (.if_icmp .ge 20, 3) := by decide +kernel
theorem dX7_least_114 : decode cX7_least 114 = .ok (.aload_n 0, 1) := by decide +kernel
theorem dX7_least_115 : decode cX7_least 115 = .ok (.getfield 19, 3) := by decide +kernel
theorem dX7_least_118 : decode cX7_least 118 = .ok (.getfield 107, 3) := by decide +kernel
theorem dX7_least_121 : decode cX7_least 121 = .ok (.istore_n 3, 1) := by decide +kernel
theorem dX7_least_122 : decode cX7_least 122 = .ok (.aload_n 0, 1) := by decide +kernel
theorem dX7_least_123 : decode cX7_least 123 = .ok (.getfield 25, 3) := by decide +kernel
theorem dX7_least_126 : decode cX7_least 126 = .ok (.getfield 216, 3) := by decide +kernel
theorem dX7_least_129 : decode cX7_least 129 = .ok (.istore 4, 2) := by decide +kernel
theorem dX7_least_131 : decode cX7_least 131 = .ok (.iinc 5 1, 3) := by decide +kernel
theorem dX7_least_134 : decode cX7_least 134 = .ok (.goto (-95), 3) := by decide +kernel
theorem dX7_least_137 : decode cX7_least 137 = .ok (.iload_n 2, 1) := by decide +kernel
theorem dX7_least_138 : decode cX7_least 138 = .ok (.ifCond .ne 7, 3) := by decide +kernel
theorem dX7_least_141 : decode cX7_least 141 = .ok (.iload_n 3, 1) := by decide +kernel
theorem dX7_least_142 : decode cX7_least 142 = .ok (.goto 5, 3) := by decide +kernel
theorem dX7_least_145 : decode cX7_least 145 = .ok (.iload 4, 2) := by decide +kernel
theorem dX7_least_147 : decode cX7_least 147 = .ok (.ireturn, 1) := by decide +kernel
set_option maxRecDepth 20000 in
theorem ggX7_thrice_X4_become : GoodIn wsX7_thrice wsX4_become := goodIn_r _ [8, 9, 10, 11, 12, 13, 14, 15, 16, 17, 18, 19, 20, 21, 22, 23, 173, 174, 175, 176, 177, 178, 179, 180, 181, 182, 183] (by decide +kernel) (by decide +kernel)
set_option maxRecDepth 20000 in
theorem gX7_thrice_X4_become : GoodIn wsX7_thrice (wsV RX7 209 RX4 yX4_become wsX4_become) := goodIn_app (goodIn_of _ (by decide +kernel)) ggX7_thrice_X4_become
set_option maxRecDepth 20000 in
theorem ggX7_thrice_X7_goThrough : GoodIn wsX7_thrice wsX7_goThrough := goodIn_r _ [28, 29, 3, 30, 31, 32, 33, 34, 35, 36, 37, 11, 12, 13, 38, 39, 40, 41, 42, 43, 44, 45, 46, 47, 48, 49, 50, 51, 52, 53, 54, 55, 56, 57, 58, 59, 60, 61, 62, 63, 64, 65, 66, 67, 68, 69, 70, 71, 72, 73, 74, 75, 76, 77, 78, 79, 80, 81, 82, 83, 84, 85, 86, 87, 88, 89, 90, 91, 92, 93, 94, 95, 96, 97, 98, 99, 100, 101, 102, 103, 104, 105, 106, 107, 108, 109, 110, 111, 112, 113, 114, 115, 116, 117, 118, 119, 120, 121, 122, 123, 124, 125, 126, 127, 128, 129, 130, 131, 132, 133, 134, 135, 136, 137, 138, 139, 140, 141, 142, 143, 144, 145, 146, 147, 148, 149, 150, 151, 152, 153, 154, 155, 156, 157, 158, 159, 160, 161, 162, 163, 164, 165, 166, 167, 168, 169, 170, 171, 172, 173, 174, 175, 176, 177, 178, 179, 180, 181, 182, 183, 184, 185, 186, 187, 188, 189, 190, 191, 192, 193, 194, 195, 196, 197, 198] (by decide +kernel) (by decide +kernel)
set_option maxRecDepth 20000 in
theorem gX7_thrice_X7_goThrough : GoodIn wsX7_thrice (wsV RX7 176 RX7 yX7_goThrough wsX7_goThrough) := goodIn_app (goodIn_of _ (by decide +kernel)) ggX7_thrice_X7_goThrough
theorem dX7_thrice_0 : decode cX7_thrice 0 = .ok (.aload_n 0, 1) := by decide +kernel
theorem dX7_thrice_1 : decode cX7_thrice 1 = .ok (.getfield 19, 3) := by decide +kernel
theorem dX7_thrice_4 : decode cX7_thrice 4 = .ok (.aload_n 0, 1) := by decide +kernel
theorem dX7_thrice_5 : decode cX7_thrice 5 = .ok (.getfield 10, 3) := by decide +kernel
theorem dX7_thrice_8 : decode cX7_thrice 8 = .ok (.invokevirtual 209, 3) := by decide +kernel
theorem dX7_thrice_11 : decode cX7_thrice 11 = .ok (.aload_n 0, 1) := by decide +kernel
theorem dX7_thrice_12 : decode cX7_thrice 12 = .ok (.getfield 19, 3) := by decide +kernel
theorem dX7_thrice_15 : decode cX7_thrice 15 = .ok (.sipush 8720, 3) := by decide +kernel
theorem dX7_thrice_18 : decode cX7_thrice 18 = .ok (.putfield 107, 3) := by decide +kernel
theorem dX7_thrice_21 : decode cX7_thrice 21 = .ok (.aload_n 0, 1) := by decide +kernel
theorem dX7_thrice_22 : decode cX7_thrice 22 = .ok (.aload_n 0, 1) := by decide +kernel
theorem dX7_thrice_23 : decode cX7_thrice 23 = .ok (.getfield 19, 3) := by decide +kernel
theorem dX7_thrice_26 : decode cX7_thrice 26 = .ok (.bipush 14, 2) := by decide +kernel
theorem dX7_thrice_28 : decode cX7_thrice 28 = .ok (.invokevirtual 176, 3) := by decide +kernel
theorem dX7_thrice_31 : decode cX7_thrice 31 = .ok (.aload_n 0, 1) := by decide +kernel
theorem dX7_thrice_32 : decode cX7_thrice 32 = .ok (.getfield 25, 3) := by decide +kernel
theorem dX7_thrice_35 : decode cX7_thrice 35 = .ok (.getfield 216, 3) := by decide +kernel
theorem dX7_thrice_38 : decode cX7_thrice 38 = .ok (.istore_n 1, 1) := by decide +kernel
theorem dX7_thrice_39 : decode cX7_thrice 39 = .ok (.aload_n 0, 1) := by decide +kernel
theorem dX7_thrice_40 : decode cX7_thrice 40 = .ok (.getfield 19, 3) := by decide +kernel
theorem dX7_thrice_43 : decode cX7_thrice 43 = .ok (.sipush 8192, 3) := by decide +kernel
theorem dX7_thrice_46 : decode cX7_thrice 46 = .ok (.putfield 107, 3) := by decide +kernel
theorem dX7_thrice_49 : decode cX7_thrice 49 = .ok (.aload_n 0, 1) := by decide +kernel
theorem dX7_thrice_50 : decode cX7_thrice 50 = .ok (.aload_n 0, 1) := by decide +kernel
theorem dX7_thrice_51 : decode cX7_thrice 51 = .ok (.getfield 19, 3) := by decide +kernel
theorem dX7_thrice_54 : decode cX7_thrice 54 = .ok (.bipush 14, 2) := by decide +kernel
theorem dX7_thrice_56 : decode cX7_thrice 56 = .ok (.invokevirtual 176, 3) := by decide +kernel
theorem dX7_thrice_59 : decode cX7_thrice 59 = .ok (.iload_n 1, 1) := by decide +kernel
theorem dX7_thrice_60 : decode cX7_thrice 60 = .ok (.aload_n 0, 1) := by decide +kernel
theorem dX7_thrice_61 : decode cX7_thrice 61 = .ok (.getfield 25, 3) := by decide +kernel
theorem dX7_thrice_64 : decode cX7_thrice 64 = .ok (.getfield 216, 3) := by decide +kernel
theorem dX7_thrice_67 : decode cX7_thrice 67 = .ok (.isub, 1) := by decide +kernel
theorem dX7_thrice_68 : decode cX7_thrice 68 = .ok (.ireturn, 1) := by decide +kernel
set_option maxRecDepth 20000 in
theorem ggX7_where_X7_isSpan : GoodIn wsX7_where wsX7_isSpan := goodIn_r _ [5, 6, 7, 4, 8] (by decide +kernel) (by decide +kernel)
set_option maxRecDepth 20000 in
theorem gX7_where_X7_isSpan : GoodIn wsX7_where (va_wsS RX7 173 yX7_isSpan wsX7_isSpan) := goodIn_app (goodIn_of _ (by decide +kernel)) ggX7_where_X7_isSpan
set_option maxRecDepth 20000 in
theorem ggX7_where_X7_within : GoodIn wsX7_where wsX7_within := goodIn_r _ [8] (by decide +kernel) (by decide +kernel)
set_option maxRecDepth 20000 in
theorem gX7_where_X7_within : GoodIn wsX7_where (va_wsS RX7 92 yX7_within wsX7_within) := goodIn_app (goodIn_of _ (by decide +kernel)) ggX7_where_X7_within
set_option maxRecDepth 20000 in
theorem ggX7_where_X7_goThrough : GoodIn wsX7_where wsX7_goThrough := goodIn_r _ [12, 13, 14, 15, 16, 17, 18, 19, 20, 21, 22, 23, 24, 25, 26, 27, 28, 29, 30, 31, 32, 33, 34, 35, 36, 37, 38, 39, 40, 41, 42, 43, 44, 45, 46, 47, 48, 49, 50, 51, 52, 53, 54, 55, 56, 57, 58, 59, 60, 61, 62, 63, 64, 65, 66, 67, 68, 69, 70, 71, 72, 73, 74, 75, 76, 77, 78, 79, 80, 81, 82, 83, 84, 85, 86, 87, 88, 89, 90, 91, 92, 93, 94, 95, 96, 97, 98, 99, 100, 101, 102, 103, 104, 105, 106, 107, 108, 109, 110, 111, 112, 113, 114, 115, 116, 117, 118, 119, 120, 121, 122, 123, 124, 125, 126, 127, 128, 129, 130, 131, 132, 133, 134, 135, 136, 137, 138, 139, 140, 141, 142, 143, 144, 145, 146, 147, 148, 158, 159, 160, 161, 162, 163, 164, 165, 166, 167, 168, 169, 170, 171, 172, 173, 174, 175, 176, 177, 178, 179, 180, 181, 182, 183, 184, 185, 186, 187, 188, 189, 190, 191, 192, 193, 194, 195] (by decide +kernel) (by decide +kernel)
set_option maxRecDepth 20000 in
theorem gX7_where_X7_goThrough : GoodIn wsX7_where (wsV RX7 176 RX7 yX7_goThrough wsX7_goThrough) := goodIn_app (goodIn_of _ (by decide +kernel)) ggX7_where_X7_goThrough
set_option maxRecDepth 20000 in
theorem ggX7_where_X7_bestHeap : GoodIn wsX7_where wsX7_bestHeap := goodIn_r _ [152, 15, 14, 153, 115, 116, 117, 118, 119, 120, 121, 122, 123, 124, 125, 126, 127, 128, 129, 130, 131, 132, 52, 133, 134, 135, 136, 137, 138, 139, 140, 158, 159, 160, 161, 162, 163, 164, 165, 166, 167, 168, 169, 181, 182, 183, 184, 185, 186, 187, 188, 189, 190, 195] (by decide +kernel) (by decide +kernel)
set_option maxRecDepth 20000 in
theorem gX7_where_X7_bestHeap : GoodIn wsX7_where (wsV RX7 219 RX7 yX7_bestHeap wsX7_bestHeap) := goodIn_app (goodIn_of _ (by decide +kernel)) ggX7_where_X7_bestHeap
set_option maxRecDepth 20000 in
theorem ggX7_where_X7_bestTwoHeaps : GoodIn wsX7_where wsX7_bestTwoHeaps := goodIn_r _ [157, 15, 14, 153, 115, 116, 117, 118, 119, 120, 121, 122, 123, 124, 125, 126, 127, 128, 129, 130, 131, 132, 52, 133, 134, 135, 136, 137, 138, 139, 140, 158, 159, 160, 161, 162, 163, 164, 165, 166, 167, 168, 169, 181, 182, 183, 184, 185, 186, 187, 188, 189, 190, 195] (by decide +kernel) (by decide +kernel)
set_option maxRecDepth 20000 in
theorem gX7_where_X7_bestTwoHeaps : GoodIn wsX7_where (wsV RX7 222 RX7 yX7_bestTwoHeaps wsX7_bestTwoHeaps) := goodIn_app (goodIn_of _ (by decide +kernel)) ggX7_where_X7_bestTwoHeaps
theorem dX7_where_0 : decode cX7_where 0 = .ok (.iload_n 1, 1) := by decide +kernel
theorem dX7_where_1 : decode cX7_where 1 = .ok (.invokestatic 173, 3) := by decide +kernel
theorem dX7_where_4 : decode cX7_where 4 = .ok (.ifCond .ne 6, 3) := by decide +kernel
theorem dX7_where_7 : decode cX7_where 7 = .ok (.bipush (-5), 2) := by decide +kernel
theorem dX7_where_9 : decode cX7_where 9 = .ok (.ireturn, 1) := by decide +kernel
theorem dX7_where_10 : decode cX7_where 10 = .ok (.iload_n 2, 1) := by decide +kernel
theorem dX7_where_11 : decode cX7_where 11 = .ok (.iconst 0, 1) := by decide +kernel
theorem dX7_where_12 : decode cX7_where 12 = .ok (.iconst 3, 1) := by decide +kernel
theorem dX7_where_13 : decode cX7_where 13 = .ok (.invokestatic 92, 3) := by decide +kernel
theorem dX7_where_16 : decode cX7_where 16 = .ok (.ifCond .ne 6, 3) := by decide +kernel
theorem dX7_where_19 : decode cX7_where 19 = .ok (.bipush (-7), 2) := by decide +kernel
theorem dX7_where_21 : decode cX7_where 21 = .ok (.ireturn, 1) := by decide +kernel
theorem dX7_where_22 : decode cX7_where 22 = .ok (.aload_n 0, 1) := by decide +kernel
theorem dX7_where_23 : decode cX7_where 23 = .ok (.aload_n 0, 1) := by decide +kernel
theorem dX7_where_24 : decode cX7_where 24 = .ok (.getfield 10, 3) := by decide +kernel
theorem dX7_where_27 : decode cX7_where 27 = .ok (.iload_n 1, 1) := by decide +kernel
theorem dX7_where_28 : decode cX7_where 28 = .ok (.invokevirtual 176, 3) := by decide +kernel
theorem dX7_where_31 : decode cX7_where 31 = .ok (.iload_n 2, 1) := by decide +kernel
theorem dX7_where_32 : decode cX7_where 32 = .ok (.iconst 2, 1) := by decide +kernel
theorem dX7_where_33 : decode cX7_where 33 = .ok (.if_icmp .ge 11, 3) := by decide +kernel
theorem dX7_where_36 : decode cX7_where 36 = .ok (.aload_n 0, 1) := by decide +kernel
theorem dX7_where_37 : decode cX7_where 37 = .ok (.iload_n 2, 1) := by decide +kernel
theorem dX7_where_38 : decode cX7_where 38 = .ok (.invokevirtual 219, 3) := by decide +kernel
theorem dX7_where_41 : decode cX7_where 41 = .ok (.goto 10, 3) := by decide +kernel
theorem dX7_where_44 : decode cX7_where 44 = .ok (.aload_n 0, 1) := by decide +kernel
theorem dX7_where_45 : decode cX7_where 45 = .ok (.iload_n 2, 1) := by decide +kernel
theorem dX7_where_46 : decode cX7_where 46 = .ok (.iconst 2, 1) := by decide +kernel
theorem dX7_where_47 : decode cX7_where 47 = .ok (.isub, 1) := by decide +kernel
theorem dX7_where_48 : decode cX7_where 48 = .ok (.invokevirtual 222, 3) := by decide +kernel
theorem dX7_where_51 : decode cX7_where 51 = .ok (.ireturn, 1) := by decide +kernel
set_option maxRecDepth 20000 in
theorem ggX7_raking_X7_isSpan : GoodIn wsX7_raking wsX7_isSpan := goodIn_r _ [7, 8, 9, 6, 10] (by decide +kernel) (by decide +kernel)
set_option maxRecDepth 20000 in
theorem gX7_raking_X7_isSpan : GoodIn wsX7_raking (va_wsS RX7 173 yX7_isSpan wsX7_isSpan) := goodIn_app (goodIn_of _ (by decide +kernel)) ggX7_raking_X7_isSpan
set_option maxRecDepth 20000 in
theorem ggX7_raking_X7_goThrough : GoodIn wsX7_raking wsX7_goThrough := goodIn_r _ [14, 15, 3, 2, 16, 17, 18, 19, 20, 21, 22, 23, 24, 25, 26, 27, 28, 29, 30, 31, 32, 33, 34, 35, 36, 37, 38, 39, 40, 41, 42, 43, 44, 45, 46, 47, 48, 49, 50, 51, 52, 53, 54, 55, 56, 57, 58, 59, 60, 61, 62, 63, 64, 65, 66, 67, 68, 69, 70, 71, 72, 73, 74, 75, 76, 77, 78, 79, 80, 81, 82, 83, 84, 85, 86, 87, 88, 89, 90, 91, 92, 93, 94, 95, 96, 97, 98, 99, 100, 101, 102, 103, 104, 105, 106, 107, 108, 109, 110, 111, 112, 113, 114, 115, 116, 117, 118, 119, 120, 121, 122, 123, 124, 125, 126, 127, 128, 129, 130, 131, 132, 133, 134, 135, 136, 137, 138, 139, 140, 141, 142, 143, 144, 145, 146, 147, 148, 150, 151, 152, 153, 154, 155, 156, 157, 158, 159, 160, 161, 162, 163, 164, 165, 166, 167, 168, 169, 170, 171, 172, 173, 174, 175, 176, 177, 178, 179, 180, 181, 182, 183, 184, 185, 186, 187] (by decide +kernel) (by decide +kernel)
set_option maxRecDepth 20000 in
theorem gX7_raking_X7_goThrough : GoodIn wsX7_raking (wsV RX7 176 RX7 yX7_goThrough wsX7_goThrough) := goodIn_app (goodIn_of _ (by decide +kernel)) ggX7_raking_X7_goThrough
set_option maxRecDepth 20000 in
theorem ggX7_raking_X1_cost : GoodIn wsX7_raking wsX1_cost := goodIn_r _ [118, 119, 120, 121, 117, 122, 123, 124, 125, 126, 127, 128, 129, 130, 131, 132, 52, 133, 134, 135, 136, 137, 138, 139, 140, 187] (by decide +kernel) (by decide +kernel)
set_option maxRecDepth 20000 in
theorem gX7_raking_X1_cost : GoodIn wsX7_raking (wsV RX7 225 RX1 yX1_cost wsX1_cost) := goodIn_app (goodIn_of _ (by decide +kernel)) ggX7_raking_X1_cost
theorem dX7_raking_0 : decode cX7_raking 0 = .ok (.iload_n 1, 1) := by decide +kernel
theorem dX7_raking_1 : decode cX7_raking 1 = .ok (.invokestatic 173, 3) := by decide +kernel
theorem dX7_raking_4 : decode cX7_raking 4 = .ok (.ifCond .ne 6, 3) := by decide +kernel
theorem dX7_raking_7 : decode cX7_raking 7 = .ok (.bipush (-5), 2) := by decide +kernel
theorem dX7_raking_9 : decode cX7_raking 9 = .ok (.ireturn, 1) := by decide +kernel
theorem dX7_raking_10 : decode cX7_raking 10 = .ok (.aload_n 0, 1) := by decide +kernel
theorem dX7_raking_11 : decode cX7_raking 11 = .ok (.aload_n 0, 1) := by decide +kernel
theorem dX7_raking_12 : decode cX7_raking 12 = .ok (.getfield 10, 3) := by decide +kernel
theorem dX7_raking_15 : decode cX7_raking 15 = .ok (.iload_n 1, 1) := by decide +kernel
theorem dX7_raking_16 : decode cX7_raking 16 = .ok (.invokevirtual 176, 3) := by decide +kernel
theorem dX7_raking_19 : decode cX7_raking 19 = .ok (.aload_n 0, 1) := by decide +kernel
theorem dX7_raking_20 : decode cX7_raking 20 = .ok (.getfield 32, 3) := by decide +kernel
theorem dX7_raking_23 : decode cX7_raking 23 = .ok (.aload_n 0, 1) := by decide +kernel
theorem dX7_raking_24 : decode cX7_raking 24 = .ok (.getfield 10, 3) := by decide +kernel
theorem dX7_raking_27 : decode cX7_raking 27 = .ok (.getfield 169, 3) := by decide +kernel
theorem dX7_raking_30 : decode cX7_raking 30 = .ok (.aload_n 0, 1) := by decide +kernel
theorem dX7_raking_31 : decode cX7_raking 31 = .ok (.getfield 25, 3) := by decide +kernel
theorem dX7_raking_34 : decode cX7_raking 34 = .ok (.getfield 183, 3) := by decide +kernel
theorem dX7_raking_37 : decode cX7_raking 37 = .ok (.invokevirtual 225, 3) := by decide +kernel
theorem dX7_raking_40 : decode cX7_raking 40 = .ok (.ireturn, 1) := by decide +kernel
set_option maxRecDepth 20000 in
theorem ggX7_tonight_X7_isSpan : GoodIn wsX7_tonight wsX7_isSpan := goodIn_r _ [12, 13, 14, 11, 15] (by decide +kernel) (by decide +kernel)
set_option maxRecDepth 20000 in
theorem gX7_tonight_X7_isSpan : GoodIn wsX7_tonight (va_wsS RX7 173 yX7_isSpan wsX7_isSpan) := goodIn_app (goodIn_of _ (by decide +kernel)) ggX7_tonight_X7_isSpan
set_option maxRecDepth 20000 in
theorem ggX7_tonight_X7_within : GoodIn wsX7_tonight wsX7_within := goodIn_r _ [15] (by decide +kernel) (by decide +kernel)
set_option maxRecDepth 20000 in
theorem gX7_tonight_X7_within : GoodIn wsX7_tonight (va_wsS RX7 92 yX7_within wsX7_within) := goodIn_app (goodIn_of _ (by decide +kernel)) ggX7_tonight_X7_within
set_option maxRecDepth 20000 in
theorem ggX7_tonight_X7_goThrough : GoodIn wsX7_tonight wsX7_goThrough := goodIn_r _ [19, 4, 2, 20, 21, 22, 23, 24, 25, 26, 27, 28, 29, 30, 31, 32, 33, 34, 35, 36, 37, 38, 39, 40, 41, 42, 43, 44, 45, 46, 47, 48, 49, 50, 51, 52, 53, 54, 55, 6, 7, 8, 56, 57, 58, 59, 60, 61, 62, 63, 64, 65, 66, 67, 68, 69, 70, 71, 72, 73, 74, 75, 76, 77, 78, 79, 80, 81, 82, 83, 84, 85, 86, 87, 88, 89, 90, 91, 92, 93, 94, 95, 96, 97, 98, 99, 100, 101, 102, 103, 104, 105, 106, 107, 108, 109, 110, 111, 112, 113, 114, 115, 116, 117, 118, 119, 120, 121, 122, 123, 124, 125, 126, 127, 128, 129, 130, 131, 132, 133, 134, 135, 136, 137, 138, 139, 140, 141, 142, 143, 144, 145, 146, 147, 148, 149, 150, 161, 162, 163, 164, 165, 166, 167, 168, 169, 170, 171, 172, 173, 174, 175, 176, 177, 178, 179, 180, 181, 182, 183, 184, 185, 186, 187, 188, 189, 190, 191, 192, 193, 194, 195, 196, 197, 198] (by decide +kernel) (by decide +kernel)
set_option maxRecDepth 20000 in
theorem gX7_tonight_X7_goThrough : GoodIn wsX7_tonight (wsV RX7 176 RX7 yX7_goThrough wsX7_goThrough) := goodIn_app (goodIn_of _ (by decide +kernel)) ggX7_tonight_X7_goThrough
set_option maxRecDepth 20000 in
theorem ggX7_tonight_X0_tellLying : GoodIn wsX7_tonight wsX0_tellLying := goodIn_r _ [154, 85, 86, 87, 24, 88, 26, 184, 185, 186, 187, 188, 189, 190, 191, 192, 193] (by decide +kernel) (by decide +kernel)
set_option maxRecDepth 20000 in
theorem gX7_tonight_X0_tellLying : GoodIn wsX7_tonight (wsV RX7 205 RX0 yX0_tellLying wsX0_tellLying) := goodIn_app (goodIn_of _ (by decide +kernel)) ggX7_tonight_X0_tellLying
set_option maxRecDepth 20000 in
theorem ggX7_tonight_X0_offTogether : GoodIn wsX7_tonight wsX0_offTogether := goodIn_r _ [158, 34, 184, 185, 186, 187, 188, 189, 190, 191, 192, 193] (by decide +kernel) (by decide +kernel)
set_option maxRecDepth 20000 in
theorem gX7_tonight_X0_offTogether : GoodIn wsX7_tonight (wsV RX7 228 RX0 yX0_offTogether wsX0_offTogether) := goodIn_app (goodIn_of _ (by decide +kernel)) ggX7_tonight_X0_offTogether
set_option maxRecDepth 20000 in
theorem ggX7_tonight_X0_blow : GoodIn wsX7_tonight wsX0_blow := goodIn_r _ [80, 54, 26, 81, 34, 82, 83, 24, 84, 27, 28, 29, 30, 85, 86, 87, 88, 89, 90, 91, 92, 93, 94, 95, 56, 57, 58, 59, 60, 61, 62, 63, 64, 6, 7, 8, 65, 66, 67, 68, 69, 70, 71, 72, 73, 74, 75, 76, 96, 97, 98, 99, 100, 101, 102, 103, 104, 184, 185, 186, 187, 188, 189, 190, 191, 192, 193, 173, 174, 175, 176, 177, 178, 179, 180, 181, 182, 183, 194, 195, 196, 197] (by decide +kernel) (by decide +kernel)
set_option maxRecDepth 20000 in
theorem gX7_tonight_X0_blow : GoodIn wsX7_tonight (wsV RX7 231 RX0 yX0_blow wsX0_blow) := goodIn_app (goodIn_of _ (by decide +kernel)) ggX7_tonight_X0_blow
set_option maxRecDepth 20000 in
theorem ggX7_tonight_X0_lyingIn : GoodIn wsX7_tonight wsX0_lyingIn := goodIn_r _ [88, 26, 184, 185, 186, 187, 188, 189, 190, 191, 192, 193] (by decide +kernel) (by decide +kernel)
set_option maxRecDepth 20000 in
theorem gX7_tonight_X0_lyingIn : GoodIn wsX7_tonight (wsV RX7 235 RX0 yX0_lyingIn wsX0_lyingIn) := goodIn_app (goodIn_of _ (by decide +kernel)) ggX7_tonight_X0_lyingIn
theorem dX7_tonight_0 : decode cX7_tonight 0 = .ok (.iload_n 1, 1) := by decide +kernel
theorem dX7_tonight_1 : decode cX7_tonight 1 = .ok (.invokestatic 173, 3) := by decide +kernel
theorem dX7_tonight_4 : decode cX7_tonight 4 = .ok (.ifCond .ne 6, 3) := by decide +kernel
theorem dX7_tonight_7 : decode cX7_tonight 7 = .ok (.bipush (-5), 2) := by decide +kernel
theorem dX7_tonight_9 : decode cX7_tonight 9 = .ok (.ireturn, 1) := by decide +kernel
theorem dX7_tonight_10 : decode cX7_tonight 10 = .ok (.iload_n 2, 1) := by decide +kernel
theorem dX7_tonight_11 : decode cX7_tonight 11 = .ok (.iconst 0, 1) := by decide +kernel
theorem dX7_tonight_12 : decode cX7_tonight 12 = .ok (.bipush 39, 2) := by decide +kernel
theorem dX7_tonight_14 : decode cX7_tonight 14 = .ok (.invokestatic 92, 3) := by decide +kernel
theorem dX7_tonight_17 : decode cX7_tonight 17 = .ok (.ifCond .eq 12, 3) := by decide +kernel
theorem dX7_tonight_20 : decode cX7_tonight 20 = .ok (.iload_n 3, 1) := by decide +kernel
theorem dX7_tonight_21 : decode cX7_tonight 21 = .ok (.iconst 0, 1) := by decide +kernel
theorem dX7_tonight_22 : decode cX7_tonight 22 = .ok (.iconst 2, 1) := by decide +kernel
theorem dX7_tonight_23 : decode cX7_tonight 23 = .ok (.invokestatic 92, 3) := by decide +kernel
theorem dX7_tonight_26 : decode cX7_tonight 26 = .ok (.ifCond .ne 6, 3) := by decide +kernel
theorem dX7_tonight_29 : decode cX7_tonight 29 = .ok (.bipush (-7), 2) := by decide +kernel
theorem dX7_tonight_31 : decode cX7_tonight 31 = .ok (.ireturn, 1) := by decide +kernel
theorem dX7_tonight_32 : decode cX7_tonight 32 = .ok (.aload_n 0, 1) := by decide +kernel
theorem dX7_tonight_33 : decode cX7_tonight 33 = .ok (.aload_n 0, 1) := by decide +kernel
theorem dX7_tonight_34 : decode cX7_tonight 34 = .ok (.getfield 10, 3) := by decide +kernel
theorem dX7_tonight_37 : decode cX7_tonight 37 = .ok (.iload_n 1, 1) := by decide +kernel
theorem dX7_tonight_38 : decode cX7_tonight 38 = .ok (.invokevirtual 176, 3) := by decide +kernel
theorem dX7_tonight_41 : decode cX7_tonight 41 = .ok (.aload_n 0, 1) := by decide +kernel
theorem dX7_tonight_42 : decode cX7_tonight 42 = .ok (.getfield 25, 3) := by decide +kernel
theorem dX7_tonight_45 : decode cX7_tonight 45 = .ok (.aload_n 0, 1) := by decide +kernel
theorem dX7_tonight_46 : decode cX7_tonight 46 = .ok (.getfield 59, 3) := by decide +kernel
theorem dX7_tonight_49 : decode cX7_tonight 49 = .ok (.invokevirtual 205, 3) := by decide +kernel
theorem dX7_tonight_52 : decode cX7_tonight 52 = .ok (.aload_n 0, 1) := by decide +kernel
theorem dX7_tonight_53 : decode cX7_tonight 53 = .ok (.getfield 25, 3) := by decide +kernel
theorem dX7_tonight_56 : decode cX7_tonight 56 = .ok (.invokevirtual 228, 3) := by decide +kernel
theorem dX7_tonight_59 : decode cX7_tonight 59 = .ok (.istore 4, 2) := by decide +kernel
theorem dX7_tonight_61 : decode cX7_tonight 61 = .ok (.aload_n 0, 1) := by decide +kernel
theorem dX7_tonight_62 : decode cX7_tonight 62 = .ok (.getfield 25, 3) := by decide +kernel
theorem dX7_tonight_65 : decode cX7_tonight 65 = .ok (.aload_n 0, 1) := by decide +kernel
theorem dX7_tonight_66 : decode cX7_tonight 66 = .ok (.getfield 10, 3) := by decide +kernel
theorem dX7_tonight_69 : decode cX7_tonight 69 = .ok (.aload_n 0, 1) := by decide +kernel
theorem dX7_tonight_70 : decode cX7_tonight 70 = .ok (.getfield 45, 3) := by decide +kernel
theorem dX7_tonight_73 : decode cX7_tonight 73 = .ok (.aload_n 0, 1) := by decide +kernel
theorem dX7_tonight_74 : decode cX7_tonight 74 = .ok (.getfield 10, 3) := by decide +kernel
theorem dX7_tonight_77 : decode cX7_tonight 77 = .ok (.getfield 110, 3) := by decide +kernel
theorem dX7_tonight_80 : decode cX7_tonight 80 = .ok (.aaload, 1) := by decide +kernel
theorem dX7_tonight_81 : decode cX7_tonight 81 = .ok (.iload_n 2, 1) := by decide +kernel
theorem dX7_tonight_82 : decode cX7_tonight 82 = .ok (.bipush 10, 2) := by decide +kernel
theorem dX7_tonight_84 : decode cX7_tonight 84 = .ok (.idiv, 1) := by decide +kernel
theorem dX7_tonight_85 : decode cX7_tonight 85 = .ok (.iload_n 2, 1) := by decide +kernel
theorem dX7_tonight_86 : decode cX7_tonight 86 = .ok (.bipush 10, 2) := by decide +kernel
theorem dX7_tonight_88 : decode cX7_tonight 88 = .ok (.irem, 1) := by decide +kernel
theorem dX7_tonight_89 : decode cX7_tonight 89 = .ok (.iconst 0, 1) := by decide +kernel
theorem dX7_tonight_90 : decode cX7_tonight 90 = .ok (.invokevirtual 231, 3) := by decide +kernel
theorem dX7_tonight_93 : decode cX7_tonight 93 = .ok (.iload_n 3, 1) := by decide +kernel
theorem dX7_tonight_94 : decode cX7_tonight 94 = .ok (.iconst 1, 1) := by decide +kernel
theorem dX7_tonight_95 : decode cX7_tonight 95 = .ok (.if_icmp .ne 14, 3) := by decide +kernel
theorem dX7_tonight_98 : decode cX7_tonight 98 = .ok (.aload_n 0, 1) := by decide +kernel
theorem dX7_tonight_99 : decode cX7_tonight 99 = .ok (.getfield 25, 3) := by decide +kernel
theorem dX7_tonight_102 : decode cX7_tonight 102 = .ok (.invokevirtual 228, 3) := by decide +kernel
theorem dX7_tonight_105 : decode cX7_tonight 105 = .ok (.iload 4, 2) := by decide +kernel
theorem dX7_tonight_107 : decode cX7_tonight 107 = .ok (.isub, 1) := by decide +kernel
theorem dX7_tonight_108 : decode cX7_tonight 108 = .ok (.ireturn, 1) := by decide +kernel
theorem dX7_tonight_109 : decode cX7_tonight 109 = .ok (.iconst 0, 1) := by decide +kernel
theorem dX7_tonight_110 : decode cX7_tonight 110 = .ok (.istore 5, 2) := by decide +kernel
theorem dX7_tonight_112 : decode cX7_tonight 112 = .ok (.iconst 0, 1) := by decide +kernel
theorem dX7_tonight_113 : decode cX7_tonight 113 = .ok (.istore 6, 2) := by decide +kernel
theorem dX7_tonight_115 : decode cX7_tonight 115 = .ok (.iload 6, 2) := by decide +kernel
theorem dX7_tonight_117 : decode cX7_tonight 117 = .ok (.bipush 36, 2) := by decide +kernel
theorem dX7_tonight_119 : decode cX7_tonight 119 = .ok (.if_icmp .ge 62, 3) := by decide +kernel
theorem dX7_tonight_122 : decode cX7_tonight 122 = .ok (.aload_n 0, 1) := by decide +kernel
theorem dX7_tonight_123 : decode cX7_tonight 123 = .ok (.getfield 25, 3) := by decide +kernel
theorem dX7_tonight_126 : decode cX7_tonight 126 = .ok (.iload 6, 2) := by decide +kernel
theorem dX7_tonight_128 : decode cX7_tonight 128 = .ok (.invokevirtual 235, 3) := by decide +kernel
theorem dX7_tonight_131 : decode cX7_tonight 131 = .ok (.istore 7, 2) := by decide +kernel
theorem dX7_tonight_133 : decode cX7_tonight 133 = .ok (.iload_n 3, 1) := by decide +kernel
theorem dX7_tonight_134 : decode cX7_tonight 134 = .ok (.iconst 2, 1) := by decide +kernel
theorem dX7_tonight_135 : decode cX7_tonight 135 = .ok (.if_icmp .ne 23, 3) := by decide +kernel
theorem dX7_tonight_138 : decode cX7_tonight 138 = .ok (.iload 5, 2) := by decide +kernel
theorem dX7_tonight_140 : decode cX7_tonight 140 = .ok (.aload_n 0, 1) := by decide +kernel
theorem dX7_tonight_141 : decode cX7_tonight 141 = .ok (.getfield 59, 3) := by decide +kernel
theorem dX7_tonight_144 : decode cX7_tonight 144 = .ok (.iload 6, 2) := by decide +kernel
theorem dX7_tonight_146 : decode cX7_tonight 146 = .ok (.iaload, 1) := by decide +kernel
theorem dX7_tonight_147 : decode cX7_tonight 147 = .ok (.iload 7, 2) := by decide +kernel
theorem dX7_tonight_149 : decode cX7_tonight 149 = .ok (.invokestatic 137, 3) := by decide +kernel
theorem dX7_tonight_152 : decode cX7_tonight 152 = .ok (.iadd, 1) := by decide +kernel
theorem dX7_tonight_153 : decode cX7_tonight 153 = .ok (.istore 5, 2) := by decide +kernel
theorem dX7_tonight_155 : decode cX7_tonight 155 = .ok (.goto 20, 3) := by decide +kernel
theorem dX7_tonight_158 : decode cX7_tonight 158 = .ok (.aload_n 0, 1) := by decide +kernel
theorem dX7_tonight_159 : decode cX7_tonight 159 = .ok (.getfield 59, 3) := by decide +kernel
theorem dX7_tonight_162 : decode cX7_tonight 162 = .ok (.iload 6, 2) := by decide +kernel
theorem dX7_tonight_164 : decode cX7_tonight 164 = .ok (.iaload, 1) := by decide +kernel
theorem dX7_tonight_165 : decode cX7_tonight 165 = .ok (.ifCond .ne 10, 3) := by decide +kernel
theorem dX7_tonight_168 : decode cX7_tonight 168 = .ok (.iload 5, 2) := by decide +kernel
theorem dX7_tonight_170 : decode cX7_tonight 170 = .ok (.iload 7, 2) := by decide +kernel
theorem dX7_tonight_172 : decode cX7_tonight 172 = .ok (.iadd, 1) := by decide +kernel
theorem dX7_tonight_173 : decode cX7_tonight 173 = .ok (.istore 5, 2) := by decide +kernel
theorem dX7_tonight_175 : decode cX7_tonight 175 = .ok (.iinc 6 1, 3) := by decide +kernel
theorem dX7_tonight_178 : decode cX7_tonight 178 = .ok (.goto (-63), 3) := by decide +kernel
theorem dX7_tonight_181 : decode cX7_tonight 181 = .ok (.iload 5, 2) := by decide +kernel
theorem dX7_tonight_183 : decode cX7_tonight 183 = .ok (.ireturn, 1) := by decide +kernel
set_option maxRecDepth 20000 in
theorem ggX7_hurdle_X7_isSpan : GoodIn wsX7_hurdle wsX7_isSpan := goodIn_r _ [8, 9, 10, 7, 11] (by decide +kernel) (by decide +kernel)
set_option maxRecDepth 20000 in
theorem gX7_hurdle_X7_isSpan : GoodIn wsX7_hurdle (va_wsS RX7 173 yX7_isSpan wsX7_isSpan) := goodIn_app (goodIn_of _ (by decide +kernel)) ggX7_hurdle_X7_isSpan
set_option maxRecDepth 20000 in
theorem ggX7_hurdle_X7_within : GoodIn wsX7_hurdle wsX7_within := goodIn_r _ [11] (by decide +kernel) (by decide +kernel)
set_option maxRecDepth 20000 in
theorem gX7_hurdle_X7_within : GoodIn wsX7_hurdle (va_wsS RX7 92 yX7_within wsX7_within) := goodIn_app (goodIn_of _ (by decide +kernel)) ggX7_hurdle_X7_within
set_option maxRecDepth 20000 in
theorem ggX7_hurdle_X7_isChoice : GoodIn wsX7_hurdle wsX7_isChoice := goodIn_r _ [14, 9, 10, 7, 11] (by decide +kernel) (by decide +kernel)
set_option maxRecDepth 20000 in
theorem gX7_hurdle_X7_isChoice : GoodIn wsX7_hurdle (va_wsS RX7 192 yX7_isChoice wsX7_isChoice) := goodIn_app (goodIn_of _ (by decide +kernel)) ggX7_hurdle_X7_isChoice
set_option maxRecDepth 20000 in
theorem ggX7_hurdle_X4_become : GoodIn wsX7_hurdle wsX4_become := goodIn_r _ [19, 20, 21, 22, 23, 24, 25, 26, 27, 28, 29, 30, 31, 32, 33, 34, 191, 192, 193, 194, 195, 196, 197, 198, 199, 200, 201] (by decide +kernel) (by decide +kernel)
set_option maxRecDepth 20000 in
theorem gX7_hurdle_X4_become : GoodIn wsX7_hurdle (wsV RX7 209 RX4 yX4_become wsX4_become) := goodIn_app (goodIn_of _ (by decide +kernel)) ggX7_hurdle_X4_become
set_option maxRecDepth 20000 in
theorem ggX7_hurdle_X4_layOut : GoodIn wsX7_hurdle wsX4_layOut := goodIn_r _ [38, 25, 26, 191, 192, 193, 194, 195, 196, 197, 198, 199, 200, 201] (by decide +kernel) (by decide +kernel)
set_option maxRecDepth 20000 in
theorem gX7_hurdle_X4_layOut : GoodIn wsX7_hurdle (wsV RX7 133 RX4 yX4_layOut wsX4_layOut) := goodIn_app (goodIn_of _ (by decide +kernel)) ggX7_hurdle_X4_layOut
set_option maxRecDepth 20000 in
theorem ggX7_hurdle_X7_goThrough : GoodIn wsX7_hurdle wsX7_goThrough := goodIn_r _ [42, 43, 4, 44, 45, 46, 47, 48, 49, 50, 51, 22, 23, 24, 52, 53, 54, 55, 56, 57, 58, 59, 60, 61, 62, 63, 64, 65, 66, 67, 68, 69, 70, 71, 72, 73, 74, 75, 76, 77, 78, 79, 80, 81, 82, 83, 84, 85, 86, 87, 88, 89, 90, 91, 92, 93, 94, 95, 96, 97, 98, 99, 100, 101, 102, 103, 104, 105, 106, 107, 108, 109, 110, 111, 112, 113, 114, 115, 116, 117, 118, 119, 120, 121, 122, 123, 124, 125, 126, 127, 128, 129, 130, 131, 132, 133, 134, 135, 136, 137, 138, 139, 140, 141, 142, 143, 144, 145, 146, 147, 148, 149, 150, 151, 152, 153, 154, 155, 156, 157, 158, 159, 160, 161, 162, 163, 164, 165, 166, 167, 168, 169, 170, 171, 172, 173, 174, 179, 180, 181, 182, 183, 184, 185, 186, 187, 188, 189, 190, 191, 192, 193, 194, 195, 196, 197, 198, 199, 200, 201, 202, 203, 204, 205, 206, 207, 208, 209, 210, 211, 212, 213, 214, 215, 216] (by decide +kernel) (by decide +kernel)
set_option maxRecDepth 20000 in
theorem gX7_hurdle_X7_goThrough : GoodIn wsX7_hurdle (wsV RX7 176 RX7 yX7_goThrough wsX7_goThrough) := goodIn_app (goodIn_of _ (by decide +kernel)) ggX7_hurdle_X7_goThrough
set_option maxRecDepth 20000 in
theorem ggX7_hurdle_X0_lyingIn : GoodIn wsX7_hurdle wsX0_lyingIn := goodIn_r _ [112, 50, 202, 203, 204, 205, 206, 207, 208, 209, 210, 211] (by decide +kernel) (by decide +kernel)
set_option maxRecDepth 20000 in
theorem gX7_hurdle_X0_lyingIn : GoodIn wsX7_hurdle (wsV RX7 235 RX0 yX0_lyingIn wsX0_lyingIn) := goodIn_app (goodIn_of _ (by decide +kernel)) ggX7_hurdle_X0_lyingIn
set_option maxRecDepth 20000 in
theorem ggX7_hurdle_X7_firstOfMost : GoodIn wsX7_hurdle wsX7_firstOfMost := goodIn_r _ [178] (by decide +kernel) (by decide +kernel)
set_option maxRecDepth 20000 in
theorem gX7_hurdle_X7_firstOfMost : GoodIn wsX7_hurdle (va_wsS RX7 201 yX7_firstOfMost wsX7_firstOfMost) := goodIn_app (goodIn_of _ (by decide +kernel)) ggX7_hurdle_X7_firstOfMost
theorem dX7_hurdle_0 : decode cX7_hurdle 0 = .ok (.iload_n 1, 1) := by decide +kernel
theorem dX7_hurdle_1 : decode cX7_hurdle 1 = .ok (.invokestatic 173, 3) := by decide +kernel
theorem dX7_hurdle_4 : decode cX7_hurdle 4 = .ok (.ifCond .ne 6, 3) := by decide +kernel
theorem dX7_hurdle_7 : decode cX7_hurdle 7 = .ok (.bipush (-5), 2) := by decide +kernel
theorem dX7_hurdle_9 : decode cX7_hurdle 9 = .ok (.ireturn, 1) := by decide +kernel
theorem dX7_hurdle_10 : decode cX7_hurdle 10 = .ok (.iload_n 2, 1) := by decide +kernel
theorem dX7_hurdle_11 : decode cX7_hurdle 11 = .ok (.iconst 0, 1) := by decide +kernel
theorem dX7_hurdle_12 : decode cX7_hurdle 12 = .ok (.bipush 99, 2) := by decide +kernel
theorem dX7_hurdle_14 : decode cX7_hurdle 14 = .ok (.invokestatic 92, 3) := by decide +kernel
theorem dX7_hurdle_17 : decode cX7_hurdle 17 = .ok (.ifCond .eq 10, 3) := by decide +kernel
theorem dX7_hurdle_20 : decode cX7_hurdle 20 = .ok (.iload_n 3, 1) := by decide +kernel
theorem dX7_hurdle_21 : decode cX7_hurdle 21 = .ok (.invokestatic 192, 3) := by decide +kernel
theorem dX7_hurdle_24 : decode cX7_hurdle 24 = .ok (.ifCond .ne 6, 3) := by decide +kernel
theorem dX7_hurdle_27 : decode cX7_hurdle 27 = .ok (.bipush (-7), 2) := by decide +kernel
theorem dX7_hurdle_29 : decode cX7_hurdle 29 = .ok (.ireturn, 1) := by decide +kernel
theorem dX7_hurdle_30 : decode cX7_hurdle 30 = .ok (.iconst 0, 1) := by decide +kernel
theorem dX7_hurdle_31 : decode cX7_hurdle 31 = .ok (.istore 4, 2) := by decide +kernel
theorem dX7_hurdle_33 : decode cX7_hurdle 33 = .ok (.iload 4, 2) := by decide +kernel
theorem dX7_hurdle_35 : decode cX7_hurdle 35 = .ok (.bipush 36, 2) := by decide +kernel
theorem dX7_hurdle_37 : decode cX7_hurdle 37 = .ok (.if_icmp .ge 56, 3) := by decide +kernel
theorem dX7_hurdle_40 : decode cX7_hurdle 40 = .ok (.aload_n 0, 1) := by decide +kernel
theorem dX7_hurdle_41 : decode cX7_hurdle 41 = .ok (.getfield 19, 3) := by decide +kernel
theorem dX7_hurdle_44 : decode cX7_hurdle 44 = .ok (.aload_n 0, 1) := by decide +kernel
theorem dX7_hurdle_45 : decode cX7_hurdle 45 = .ok (.getfield 10, 3) := by decide +kernel
theorem dX7_hurdle_48 : decode cX7_hurdle 48 = .ok (.invokevirtual 209, 3) := by decide +kernel
theorem dX7_hurdle_51 : decode cX7_hurdle 51 = .ok (.aload_n 0, 1) := by decide +kernel
theorem dX7_hurdle_52 : decode cX7_hurdle 52 = .ok (.getfield 19, 3) := by decide +kernel
theorem dX7_hurdle_55 : decode cX7_hurdle 55 = .ok (.iload 4, 2) := by decide +kernel
theorem dX7_hurdle_57 : decode cX7_hurdle 57 = .ok (.iconst 3, 1) := by decide +kernel
theorem dX7_hurdle_58 : decode cX7_hurdle 58 = .ok (.iload_n 2, 1) := by decide +kernel
theorem dX7_hurdle_59 : decode cX7_hurdle 59 = .ok (.invokevirtual 133, 3) := by decide +kernel
theorem dX7_hurdle_62 : decode cX7_hurdle 62 = .ok (.aload_n 0, 1) := by decide +kernel
theorem dX7_hurdle_63 : decode cX7_hurdle 63 = .ok (.aload_n 0, 1) := by decide +kernel
theorem dX7_hurdle_64 : decode cX7_hurdle 64 = .ok (.getfield 19, 3) := by decide +kernel
theorem dX7_hurdle_67 : decode cX7_hurdle 67 = .ok (.iload_n 1, 1) := by decide +kernel
theorem dX7_hurdle_68 : decode cX7_hurdle 68 = .ok (.invokevirtual 176, 3) := by decide +kernel
theorem dX7_hurdle_71 : decode cX7_hurdle 71 = .ok (.aload_n 0, 1) := by decide +kernel
theorem dX7_hurdle_72 : decode cX7_hurdle 72 = .ok (.getfield 59, 3) := by decide +kernel
theorem dX7_hurdle_75 : decode cX7_hurdle 75 = .ok (.iload 4, 2) := by decide +kernel
theorem dX7_hurdle_77 : decode cX7_hurdle 77 = .ok (.aload_n 0, 1) := by decide +kernel
theorem dX7_hurdle_78 : decode cX7_hurdle 78 = .ok (.getfield 25, 3) := by decide +kernel
theorem dX7_hurdle_81 : decode cX7_hurdle 81 = .ok (.iload 4, 2) := by decide +kernel
theorem dX7_hurdle_83 : decode cX7_hurdle 83 = .ok (.invokevirtual 235, 3) := by decide +kernel
theorem dX7_hurdle_86 : decode cX7_hurdle 86 = .ok (.iastore, 1) := by decide +kernel
theorem dX7_hurdle_87 : decode cX7_hurdle 87 = .ok (.iinc 4 1, 3) := by decide +kernel
theorem dX7_hurdle_90 : decode cX7_hurdle 90 = .ok (.goto (-57), 3) := by decide +kernel
theorem dX7_hurdle_93 : decode cX7_hurdle 93 = .ok (.aload_n 0, 1) := by decide +kernel
theorem dX7_hurdle_94 : decode cX7_hurdle 94 = .ok (.getfield 59, 3) := by decide +kernel
theorem dX7_hurdle_97 : decode cX7_hurdle 97 = .ok (.bipush 36, 2) := by decide +kernel
theorem dX7_hurdle_99 : decode cX7_hurdle 99 = .ok (.iload_n 3, 1) := by decide +kernel
theorem dX7_hurdle_100 : decode cX7_hurdle 100 = .ok (.invokestatic 201, 3) := by decide +kernel
theorem dX7_hurdle_103 : decode cX7_hurdle 103 = .ok (.ireturn, 1) := by decide +kernel
set_option maxRecDepth 20000 in
theorem ggX7_share_X7_isSpan : GoodIn wsX7_share wsX7_isSpan := goodIn_r _ [7, 8, 9, 6, 10] (by decide +kernel) (by decide +kernel)
set_option maxRecDepth 20000 in
theorem gX7_share_X7_isSpan : GoodIn wsX7_share (va_wsS RX7 173 yX7_isSpan wsX7_isSpan) := goodIn_app (goodIn_of _ (by decide +kernel)) ggX7_share_X7_isSpan
set_option maxRecDepth 20000 in
theorem ggX7_share_X7_within : GoodIn wsX7_share wsX7_within := goodIn_r _ [10] (by decide +kernel) (by decide +kernel)
set_option maxRecDepth 20000 in
theorem gX7_share_X7_within : GoodIn wsX7_share (va_wsS RX7 92 yX7_within wsX7_within) := goodIn_app (goodIn_of _ (by decide +kernel)) ggX7_share_X7_within
set_option maxRecDepth 20000 in
theorem ggX7_share_X7_isChoice : GoodIn wsX7_share wsX7_isChoice := goodIn_r _ [13, 8, 9, 6, 10] (by decide +kernel) (by decide +kernel)
set_option maxRecDepth 20000 in
theorem gX7_share_X7_isChoice : GoodIn wsX7_share (va_wsS RX7 192 yX7_isChoice wsX7_isChoice) := goodIn_app (goodIn_of _ (by decide +kernel)) ggX7_share_X7_isChoice
set_option maxRecDepth 20000 in
theorem ggX7_share_X7_goThrough : GoodIn wsX7_share wsX7_goThrough := goodIn_r _ [17, 18, 3, 19, 20, 21, 22, 23, 24, 25, 26, 27, 28, 29, 30, 31, 32, 33, 34, 35, 36, 37, 38, 39, 40, 41, 42, 43, 44, 45, 46, 47, 48, 49, 50, 51, 52, 53, 54, 55, 56, 57, 58, 59, 60, 61, 62, 63, 64, 65, 66, 67, 68, 69, 70, 71, 72, 73, 74, 75, 76, 77, 78, 79, 80, 81, 82, 83, 84, 85, 86, 87, 88, 89, 90, 91, 92, 93, 94, 95, 96, 97, 98, 99, 100, 101, 102, 103, 104, 105, 106, 107, 108, 109, 110, 111, 112, 113, 114, 115, 116, 117, 118, 119, 120, 121, 122, 123, 124, 125, 126, 127, 128, 129, 130, 131, 132, 133, 134, 135, 136, 137, 138, 139, 140, 141, 142, 143, 144, 145, 146, 147, 148, 149, 150, 151, 152, 166, 167, 168, 169, 170, 171, 172, 173, 174, 175, 176, 177, 188, 189, 190, 191, 192, 193, 194, 195, 196, 197, 198, 178, 179, 180, 181, 182, 183, 184, 185, 186, 187, 199, 200, 201, 202, 203] (by decide +kernel) (by decide +kernel)
set_option maxRecDepth 20000 in
theorem gX7_share_X7_goThrough : GoodIn wsX7_share (wsV RX7 176 RX7 yX7_goThrough wsX7_goThrough) := goodIn_app (goodIn_of _ (by decide +kernel)) ggX7_share_X7_goThrough
set_option maxRecDepth 20000 in
theorem ggX7_share_X4_leavesTogether : GoodIn wsX7_share wsX4_leavesTogether := goodIn_r _ [157, 158, 188, 189, 190, 191, 192, 193, 194, 195, 196, 197, 198] (by decide +kernel) (by decide +kernel)
set_option maxRecDepth 20000 in
theorem gX7_share_X4_leavesTogether : GoodIn wsX7_share (wsV RX7 238 RX4 yX4_leavesTogether wsX4_leavesTogether) := goodIn_app (goodIn_of _ (by decide +kernel)) ggX7_share_X4_leavesTogether
set_option maxRecDepth 20000 in
theorem ggX7_share_X0_fallenIn : GoodIn wsX7_share wsX0_fallenIn := goodIn_r _ [162, 32, 178, 179, 180, 181, 182, 183, 184, 185, 186, 187] (by decide +kernel) (by decide +kernel)
set_option maxRecDepth 20000 in
theorem gX7_share_X0_fallenIn : GoodIn wsX7_share (wsV RX7 195 RX0 yX0_fallenIn wsX0_fallenIn) := goodIn_app (goodIn_of _ (by decide +kernel)) ggX7_share_X0_fallenIn
set_option maxRecDepth 20000 in
theorem ggX7_share_X7_inLowestTerms : GoodIn wsX7_share wsX7_inLowestTerms := goodIn_r _ [165, 1] (by decide +kernel) (by decide +kernel)
set_option maxRecDepth 20000 in
theorem gX7_share_X7_inLowestTerms : GoodIn wsX7_share (va_wsS RX7 244 yX7_inLowestTerms wsX7_inLowestTerms) := goodIn_app (goodIn_of _ (by decide +kernel)) ggX7_share_X7_inLowestTerms
theorem dX7_share_0 : decode cX7_share 0 = .ok (.iload_n 1, 1) := by decide +kernel
theorem dX7_share_1 : decode cX7_share 1 = .ok (.invokestatic 173, 3) := by decide +kernel
theorem dX7_share_4 : decode cX7_share 4 = .ok (.ifCond .eq 19, 3) := by decide +kernel
theorem dX7_share_7 : decode cX7_share 7 = .ok (.iload_n 2, 1) := by decide +kernel
theorem dX7_share_8 : decode cX7_share 8 = .ok (.iconst 0, 1) := by decide +kernel
theorem dX7_share_9 : decode cX7_share 9 = .ok (.iconst 3, 1) := by decide +kernel
theorem dX7_share_10 : decode cX7_share 10 = .ok (.invokestatic 92, 3) := by decide +kernel
theorem dX7_share_13 : decode cX7_share 13 = .ok (.ifCond .eq 10, 3) := by decide +kernel
theorem dX7_share_16 : decode cX7_share 16 = .ok (.iload_n 3, 1) := by decide +kernel
theorem dX7_share_17 : decode cX7_share 17 = .ok (.invokestatic 192, 3) := by decide +kernel
theorem dX7_share_20 : decode cX7_share 20 = .ok (.ifCond .ne 7, 3) := by decide +kernel
theorem dX7_share_23 : decode cX7_share 23 = .ok (.ldc2_w 167, 3) := by decide +kernel
theorem dX7_share_26 : decode cX7_share 26 = .ok (.lreturn, 1) := by decide +kernel
theorem dX7_share_27 : decode cX7_share 27 = .ok (.aload_n 0, 1) := by decide +kernel
theorem dX7_share_28 : decode cX7_share 28 = .ok (.aload_n 0, 1) := by decide +kernel
theorem dX7_share_29 : decode cX7_share 29 = .ok (.getfield 10, 3) := by decide +kernel
theorem dX7_share_32 : decode cX7_share 32 = .ok (.iload_n 1, 1) := by decide +kernel
theorem dX7_share_33 : decode cX7_share 33 = .ok (.invokevirtual 176, 3) := by decide +kernel
theorem dX7_share_36 : decode cX7_share 36 = .ok (.aload_n 0, 1) := by decide +kernel
theorem dX7_share_37 : decode cX7_share 37 = .ok (.getfield 10, 3) := by decide +kernel
theorem dX7_share_40 : decode cX7_share 40 = .ok (.invokevirtual 238, 3) := by decide +kernel
theorem dX7_share_43 : decode cX7_share 43 = .ok (.aload_n 0, 1) := by decide +kernel
theorem dX7_share_44 : decode cX7_share 44 = .ok (.getfield 25, 3) := by decide +kernel
theorem dX7_share_47 : decode cX7_share 47 = .ok (.iload_n 1, 1) := by decide +kernel
theorem dX7_share_48 : decode cX7_share 48 = .ok (.invokevirtual 195, 3) := by decide +kernel
theorem dX7_share_51 : decode cX7_share 51 = .ok (.iadd, 1) := by decide +kernel
theorem dX7_share_52 : decode cX7_share 52 = .ok (.istore 4, 2) := by decide +kernel
theorem dX7_share_54 : decode cX7_share 54 = .ok (.iload 4, 2) := by decide +kernel
theorem dX7_share_56 : decode cX7_share 56 = .ok (.ifCond .ne 9, 3) := by decide +kernel
theorem dX7_share_59 : decode cX7_share 59 = .ok (.ldc2_w 167, 3) := by decide +kernel
theorem dX7_share_62 : decode cX7_share 62 = .ok (.goto 18, 3) := by decide +kernel
theorem dX7_share_65 : decode cX7_share 65 = .ok (.aload_n 0, 1) := by decide +kernel
theorem dX7_share_66 : decode cX7_share 66 = .ok (.getfield 25, 3) := by decide +kernel
theorem dX7_share_69 : decode cX7_share 69 = .ok (.getfield 241, 3) := by decide +kernel
theorem dX7_share_72 : decode cX7_share 72 = .ok (.iload_n 2, 1) := by decide +kernel
theorem dX7_share_73 : decode cX7_share 73 = .ok (.iaload, 1) := by decide +kernel
theorem dX7_share_74 : decode cX7_share 74 = .ok (.iload 4, 2) := by decide +kernel
theorem dX7_share_76 : decode cX7_share 76 = .ok (.iload_n 3, 1) := by decide +kernel
theorem dX7_share_77 : decode cX7_share 77 = .ok (.invokestatic 244, 3) := by decide +kernel
theorem dX7_share_80 : decode cX7_share 80 = .ok (.lreturn, 1) := by decide +kernel
set_option maxRecDepth 20000 in
theorem ggX7_away_X7_isChoice : GoodIn wsX7_away wsX7_isChoice := goodIn_r _ [8, 9, 10, 7, 11] (by decide +kernel) (by decide +kernel)
set_option maxRecDepth 20000 in
theorem gX7_away_X7_isChoice : GoodIn wsX7_away (va_wsS RX7 192 yX7_isChoice wsX7_isChoice) := goodIn_app (goodIn_of _ (by decide +kernel)) ggX7_away_X7_isChoice
set_option maxRecDepth 20000 in
theorem ggX7_away_X4_become : GoodIn wsX7_away wsX4_become := goodIn_r _ [16, 17, 18, 19, 20, 21, 22, 23, 24, 25, 26, 27, 28, 29, 30, 31, 183, 184, 185, 186, 187, 188, 189, 190, 191, 192, 193] (by decide +kernel) (by decide +kernel)
set_option maxRecDepth 20000 in
theorem gX7_away_X4_become : GoodIn wsX7_away (wsV RX7 209 RX4 yX4_become wsX4_become) := goodIn_app (goodIn_of _ (by decide +kernel)) ggX7_away_X4_become
set_option maxRecDepth 20000 in
theorem ggX7_away_X7_goThrough : GoodIn wsX7_away wsX7_goThrough := goodIn_r _ [35, 36, 4, 37, 38, 39, 40, 41, 42, 43, 44, 19, 20, 21, 45, 46, 47, 48, 49, 50, 51, 52, 53, 54, 55, 56, 57, 58, 59, 60, 61, 62, 63, 64, 65, 66, 67, 68, 69, 70, 71, 72, 73, 74, 75, 76, 77, 78, 79, 80, 81, 82, 83, 84, 85, 86, 87, 88, 89, 90, 91, 92, 93, 94, 95, 96, 97, 98, 99, 100, 101, 102, 103, 104, 105, 106, 107, 108, 109, 110, 111, 112, 113, 114, 115, 116, 117, 118, 119, 120, 121, 122, 123, 124, 125, 126, 127, 128, 129, 130, 131, 132, 133, 134, 135, 136, 137, 138, 139, 140, 141, 142, 143, 144, 145, 146, 147, 148, 149, 150, 151, 152, 153, 154, 155, 156, 157, 158, 159, 160, 161, 162, 163, 164, 165, 166, 167, 171, 172, 173, 174, 175, 176, 177, 178, 179, 180, 181, 182, 183, 184, 185, 186, 187, 188, 189, 190, 191, 192, 193, 194, 195, 196, 197, 198, 199, 200, 201, 202, 203, 204, 205, 206, 207, 208] (by decide +kernel) (by decide +kernel)
set_option maxRecDepth 20000 in
theorem gX7_away_X7_goThrough : GoodIn wsX7_away (wsV RX7 176 RX7 yX7_goThrough wsX7_goThrough) := goodIn_app (goodIn_of _ (by decide +kernel)) ggX7_away_X7_goThrough
set_option maxRecDepth 20000 in
theorem ggX7_away_X7_firstOfMost : GoodIn wsX7_away wsX7_firstOfMost := goodIn_r _ [170] (by decide +kernel) (by decide +kernel)
set_option maxRecDepth 20000 in
theorem gX7_away_X7_firstOfMost : GoodIn wsX7_away (va_wsS RX7 201 yX7_firstOfMost wsX7_firstOfMost) := goodIn_app (goodIn_of _ (by decide +kernel)) ggX7_away_X7_firstOfMost
theorem dX7_away_0 : decode cX7_away 0 = .ok (.iload_n 1, 1) := by decide +kernel
theorem dX7_away_1 : decode cX7_away 1 = .ok (.invokestatic 192, 3) := by decide +kernel
theorem dX7_away_4 : decode cX7_away 4 = .ok (.ifCond .ne 6, 3) := by decide +kernel
theorem dX7_away_7 : decode cX7_away 7 = .ok (.bipush (-2), 2) := by decide +kernel
theorem dX7_away_9 : decode cX7_away 9 = .ok (.ireturn, 1) := by decide +kernel
theorem dX7_away_10 : decode cX7_away 10 = .ok (.aload_n 0, 1) := by decide +kernel
theorem dX7_away_11 : decode cX7_away 11 = .ok (.getfield 19, 3) := by decide +kernel
theorem dX7_away_14 : decode cX7_away 14 = .ok (.aload_n 0, 1) := by decide +kernel
theorem dX7_away_15 : decode cX7_away 15 = .ok (.getfield 10, 3) := by decide +kernel
theorem dX7_away_18 : decode cX7_away 18 = .ok (.invokevirtual 209, 3) := by decide +kernel
theorem dX7_away_21 : decode cX7_away 21 = .ok (.iconst 0, 1) := by decide +kernel
theorem dX7_away_22 : decode cX7_away 22 = .ok (.istore_n 2, 1) := by decide +kernel
theorem dX7_away_23 : decode cX7_away 23 = .ok (.iload_n 2, 1) := by decide +kernel
theorem dX7_away_24 : decode cX7_away 24 = .ok (.iconst 4, 1) := by decide +kernel
theorem dX7_away_25 : decode cX7_away 25 = .ok (.if_icmp .ge 60, 3) := by decide +kernel
theorem dX7_away_28 : decode cX7_away 28 = .ok (.iconst 0, 1) := by decide +kernel
theorem dX7_away_29 : decode cX7_away 29 = .ok (.istore_n 3, 1) := by decide +kernel
theorem dX7_away_30 : decode cX7_away 30 = .ok (.iload_n 3, 1) := by decide +kernel
theorem dX7_away_31 : decode cX7_away 31 = .ok (.bipush 14, 2) := by decide +kernel
theorem dX7_away_33 : decode cX7_away 33 = .ok (.if_icmp .ge 21, 3) := by decide +kernel
theorem dX7_away_36 : decode cX7_away 36 = .ok (.aload_n 0, 1) := by decide +kernel
theorem dX7_away_37 : decode cX7_away 37 = .ok (.getfield 19, 3) := by decide +kernel
theorem dX7_away_40 : decode cX7_away 40 = .ok (.getfield 100, 3) := by decide +kernel
theorem dX7_away_43 : decode cX7_away 43 = .ok (.iconst 0, 1) := by decide +kernel
theorem dX7_away_44 : decode cX7_away 44 = .ok (.aaload, 1) := by decide +kernel
theorem dX7_away_45 : decode cX7_away 45 = .ok (.iload_n 3, 1) := by decide +kernel
theorem dX7_away_46 : decode cX7_away 46 = .ok (.iload_n 2, 1) := by decide +kernel
theorem dX7_away_47 : decode cX7_away 47 = .ok (.iastore, 1) := by decide +kernel
theorem dX7_away_48 : decode cX7_away 48 = .ok (.iinc 3 1, 3) := by decide +kernel
theorem dX7_away_51 : decode cX7_away 51 = .ok (.goto (-21), 3) := by decide +kernel
theorem dX7_away_54 : decode cX7_away 54 = .ok (.aload_n 0, 1) := by decide +kernel
theorem dX7_away_55 : decode cX7_away 55 = .ok (.aload_n 0, 1) := by decide +kernel
theorem dX7_away_56 : decode cX7_away 56 = .ok (.getfield 19, 3) := by decide +kernel
theorem dX7_away_59 : decode cX7_away 59 = .ok (.bipush 14, 2) := by decide +kernel
theorem dX7_away_61 : decode cX7_away 61 = .ok (.invokevirtual 176, 3) := by decide +kernel
theorem dX7_away_64 : decode cX7_away 64 = .ok (.aload_n 0, 1) := by decide +kernel
theorem dX7_away_65 : decode cX7_away 65 = .ok (.getfield 59, 3) := by decide +kernel
theorem dX7_away_68 : decode cX7_away 68 = .ok (.iload_n 2, 1) := by decide +kernel
theorem dX7_away_69 : decode cX7_away 69 = .ok (.aload_n 0, 1) := by decide +kernel
theorem dX7_away_70 : decode cX7_away 70 = .ok (.getfield 25, 3) := by decide +kernel
theorem dX7_away_73 : decode cX7_away 73 = .ok (.getfield 241, 3) := by decide +kernel
theorem dX7_away_76 : decode cX7_away 76 = .ok (.iload_n 2, 1) := by decide +kernel
theorem dX7_away_77 : decode cX7_away 77 = .ok (.iaload, 1) := by decide +kernel
theorem dX7_away_78 : decode cX7_away 78 = .ok (.iastore, 1) := by decide +kernel
theorem dX7_away_79 : decode cX7_away 79 = .ok (.iinc 2 1, 3) := by decide +kernel
theorem dX7_away_82 : decode cX7_away 82 = .ok (.goto (-59), 3) := by decide +kernel
theorem dX7_away_85 : decode cX7_away 85 = .ok (.aload_n 0, 1) := by decide +kernel
theorem dX7_away_86 : decode cX7_away 86 = .ok (.getfield 59, 3) := by decide +kernel
theorem dX7_away_89 : decode cX7_away 89 = .ok (.iconst 4, 1) := by decide +kernel
theorem dX7_away_90 : decode cX7_away 90 = .ok (.iload_n 1, 1) := by decide +kernel
theorem dX7_away_91 : decode cX7_away 91 = .ok (.invokestatic 201, 3) := by decide +kernel
theorem dX7_away_94 : decode cX7_away 94 = .ok (.ireturn, 1) := by decide +kernel
set_option maxRecDepth 20000 in
theorem ggX7_judge_X7_refusalOfLook : GoodIn wsX7_judge wsX7_refusalOfLook := goodIn_r _ [8, 3, 9, 10, 7, 11, 12, 13, 14, 15, 16, 17, 18, 19, 20, 164, 165, 166, 167, 168, 169, 170, 171, 172, 173, 174, 175, 176, 177, 178] (by decide +kernel) (by decide +kernel)
set_option maxRecDepth 20000 in
theorem gX7_judge_X7_refusalOfLook : GoodIn wsX7_judge (wsV RX7 248 RX7 yX7_refusalOfLook wsX7_refusalOfLook) := goodIn_app (goodIn_of _ (by decide +kernel)) ggX7_judge_X7_refusalOfLook
set_option maxRecDepth 20000 in
theorem ggX7_judge_X7_goThrough : GoodIn wsX7_judge wsX7_goThrough := goodIn_r _ [24, 25, 2, 26, 27, 28, 29, 30, 31, 32, 33, 34, 35, 36, 37, 38, 39, 40, 41, 42, 43, 44, 45, 46, 47, 48, 49, 50, 51, 52, 53, 54, 55, 56, 57, 58, 59, 60, 61, 62, 63, 64, 65, 66, 67, 68, 69, 70, 71, 72, 73, 74, 75, 76, 77, 78, 79, 80, 81, 82, 83, 84, 85, 86, 87, 88, 89, 90, 91, 92, 93, 94, 95, 96, 97, 98, 99, 100, 101, 102, 103, 104, 105, 106, 107, 108, 109, 110, 111, 112, 113, 114, 115, 116, 117, 118, 119, 120, 121, 122, 123, 124, 125, 126, 127, 128, 129, 130, 131, 132, 133, 134, 135, 136, 137, 138, 139, 140, 141, 142, 143, 144, 145, 146, 147, 148, 149, 150, 151, 152, 153, 154, 155, 156, 157, 158, 159, 164, 165, 166, 167, 168, 169, 170, 171, 172, 173, 174, 175, 179, 180, 181, 182, 183, 184, 185, 186, 187, 188, 189, 190, 191, 192, 193, 194, 195, 196, 197, 198, 199, 200, 201, 202, 203, 204] (by decide +kernel) (by decide +kernel)
set_option maxRecDepth 20000 in
theorem gX7_judge_X7_goThrough : GoodIn wsX7_judge (wsV RX7 176 RX7 yX7_goThrough wsX7_goThrough) := goodIn_app (goodIn_of _ (by decide +kernel)) ggX7_judge_X7_goThrough
set_option maxRecDepth 20000 in
theorem ggX7_judge_X0_firstUnlike : GoodIn wsX7_judge wsX0_firstUnlike := goodIn_r _ [163, 94, 95, 96, 30, 97, 32, 190, 191, 192, 193, 194, 195, 196, 197, 198, 199] (by decide +kernel) (by decide +kernel)
set_option maxRecDepth 20000 in
theorem gX7_judge_X0_firstUnlike : GoodIn wsX7_judge (wsV RX7 255 RX0 yX0_firstUnlike wsX0_firstUnlike) := goodIn_app (goodIn_of _ (by decide +kernel)) ggX7_judge_X0_firstUnlike
theorem dX7_judge_0 : decode cX7_judge 0 = .ok (.aload_n 0, 1) := by decide +kernel
theorem dX7_judge_1 : decode cX7_judge 1 = .ok (.iload_n 1, 1) := by decide +kernel
theorem dX7_judge_2 : decode cX7_judge 2 = .ok (.iload_n 2, 1) := by decide +kernel
theorem dX7_judge_3 : decode cX7_judge 3 = .ok (.iconst 0, 1) := by decide +kernel
theorem dX7_judge_4 : decode cX7_judge 4 = .ok (.invokevirtual 248, 3) := by decide +kernel
theorem dX7_judge_7 : decode cX7_judge 7 = .ok (.istore_n 3, 1) := by decide +kernel
theorem dX7_judge_8 : decode cX7_judge 8 = .ok (.iload_n 3, 1) := by decide +kernel
theorem dX7_judge_9 : decode cX7_judge 9 = .ok (.ifCond .eq 5, 3) := by decide +kernel
theorem dX7_judge_12 : decode cX7_judge 12 = .ok (.iload_n 3, 1) := by decide +kernel
theorem dX7_judge_13 : decode cX7_judge 13 = .ok (.ireturn, 1) := by decide +kernel
theorem dX7_judge_14 : decode cX7_judge 14 = .ok (.aload_n 0, 1) := by decide +kernel
theorem dX7_judge_15 : decode cX7_judge 15 = .ok (.aload_n 0, 1) := by decide +kernel
theorem dX7_judge_16 : decode cX7_judge 16 = .ok (.getfield 10, 3) := by decide +kernel
theorem dX7_judge_19 : decode cX7_judge 19 = .ok (.iload_n 2, 1) := by decide +kernel
theorem dX7_judge_20 : decode cX7_judge 20 = .ok (.invokevirtual 176, 3) := by decide +kernel
theorem dX7_judge_23 : decode cX7_judge 23 = .ok (.aload_n 0, 1) := by decide +kernel
theorem dX7_judge_24 : decode cX7_judge 24 = .ok (.getfield 25, 3) := by decide +kernel
theorem dX7_judge_27 : decode cX7_judge 27 = .ok (.aload_n 0, 1) := by decide +kernel
theorem dX7_judge_28 : decode cX7_judge 28 = .ok (.getfield 51, 3) := by decide +kernel
theorem dX7_judge_31 : decode cX7_judge 31 = .ok (.iload_n 1, 1) := by decide +kernel
theorem dX7_judge_32 : decode cX7_judge 32 = .ok (.aaload, 1) := by decide +kernel
theorem dX7_judge_33 : decode cX7_judge 33 = .ok (.getfield 252, 3) := by decide +kernel
theorem dX7_judge_36 : decode cX7_judge 36 = .ok (.invokevirtual 255, 3) := by decide +kernel
theorem dX7_judge_39 : decode cX7_judge 39 = .ok (.ireturn, 1) := by decide +kernel
set_option maxRecDepth 20000 in
theorem ggX7_laws_X7_refusalOfLook : GoodIn wsX7_laws wsX7_refusalOfLook := goodIn_r _ [10, 5, 11, 12, 9, 13, 14, 15, 16, 17, 18, 19, 20, 21, 22, 183, 184, 185, 186, 187, 188, 189, 190, 191, 192, 193, 194, 206, 207, 208] (by decide +kernel) (by decide +kernel)
set_option maxRecDepth 20000 in
theorem gX7_laws_X7_refusalOfLook : GoodIn wsX7_laws (wsV RX7 248 RX7 yX7_refusalOfLook wsX7_refusalOfLook) := goodIn_app (goodIn_of _ (by decide +kernel)) ggX7_laws_X7_refusalOfLook
set_option maxRecDepth 20000 in
theorem ggX7_laws_X4_become : GoodIn wsX7_laws wsX4_become := goodIn_r _ [27, 28, 29, 30, 31, 32, 33, 34, 35, 36, 37, 38, 39, 40, 41, 42, 195, 196, 197, 198, 199, 200, 201, 202, 203, 204, 205] (by decide +kernel) (by decide +kernel)
set_option maxRecDepth 20000 in
theorem gX7_laws_X4_become : GoodIn wsX7_laws (wsV RX7 209 RX4 yX4_become wsX4_become) := goodIn_app (goodIn_of _ (by decide +kernel)) ggX7_laws_X4_become
set_option maxRecDepth 20000 in
theorem ggX7_laws_X7_goThrough : GoodIn wsX7_laws wsX7_goThrough := goodIn_r _ [46, 47, 4, 48, 49, 50, 51, 52, 53, 54, 55, 30, 31, 32, 56, 57, 58, 59, 60, 61, 62, 63, 64, 65, 66, 67, 68, 69, 70, 71, 72, 73, 74, 75, 76, 77, 78, 79, 80, 81, 82, 83, 84, 85, 86, 87, 88, 89, 90, 91, 92, 93, 94, 95, 96, 97, 98, 99, 100, 101, 102, 103, 104, 105, 106, 107, 108, 109, 110, 111, 112, 113, 114, 115, 116, 117, 118, 119, 120, 121, 122, 123, 124, 125, 126, 127, 128, 129, 130, 131, 132, 133, 134, 135, 136, 137, 138, 139, 140, 141, 142, 143, 144, 145, 146, 147, 148, 149, 150, 151, 152, 153, 154, 155, 156, 157, 158, 159, 160, 161, 162, 163, 164, 165, 166, 167, 168, 169, 170, 171, 172, 173, 174, 175, 176, 177, 178, 183, 184, 185, 186, 187, 188, 189, 190, 191, 192, 193, 194, 195, 196, 197, 198, 199, 200, 201, 202, 203, 204, 205, 209, 210, 211, 212, 213, 214, 215, 216, 217, 218, 219, 220, 221, 222, 223] (by decide +kernel) (by decide +kernel)
set_option maxRecDepth 20000 in
theorem gX7_laws_X7_goThrough : GoodIn wsX7_laws (wsV RX7 176 RX7 yX7_goThrough wsX7_goThrough) := goodIn_app (goodIn_of _ (by decide +kernel)) ggX7_laws_X7_goThrough
set_option maxRecDepth 20000 in
theorem ggX7_laws_X0_firstUnlike : GoodIn wsX7_laws wsX0_firstUnlike := goodIn_r _ [182, 113, 114, 115, 52, 116, 54, 209, 210, 211, 212, 213, 214, 215, 216, 217, 218] (by decide +kernel) (by decide +kernel)
set_option maxRecDepth 20000 in
theorem gX7_laws_X0_firstUnlike : GoodIn wsX7_laws (wsV RX7 255 RX0 yX0_firstUnlike wsX0_firstUnlike) := goodIn_app (goodIn_of _ (by decide +kernel)) ggX7_laws_X0_firstUnlike
theorem dX7_laws_0 : decode cX7_laws 0 = .ok (.aload_n 0, 1) := by decide +kernel
theorem dX7_laws_1 : decode cX7_laws 1 = .ok (.iload_n 1, 1) := by decide +kernel
theorem dX7_laws_2 : decode cX7_laws 2 = .ok (.iload_n 2, 1) := by decide +kernel
theorem dX7_laws_3 : decode cX7_laws 3 = .ok (.iconst 0, 1) := by decide +kernel
theorem dX7_laws_4 : decode cX7_laws 4 = .ok (.invokevirtual 248, 3) := by decide +kernel
theorem dX7_laws_7 : decode cX7_laws 7 = .ok (.istore_n 3, 1) := by decide +kernel
theorem dX7_laws_8 : decode cX7_laws 8 = .ok (.iload_n 3, 1) := by decide +kernel
theorem dX7_laws_9 : decode cX7_laws 9 = .ok (.ifCond .eq 5, 3) := by decide +kernel
theorem dX7_laws_12 : decode cX7_laws 12 = .ok (.iload_n 3, 1) := by decide +kernel
theorem dX7_laws_13 : decode cX7_laws 13 = .ok (.ireturn, 1) := by decide +kernel
theorem dX7_laws_14 : decode cX7_laws 14 = .ok (.iconst 0, 1) := by decide +kernel
theorem dX7_laws_15 : decode cX7_laws 15 = .ok (.istore 4, 2) := by decide +kernel
theorem dX7_laws_17 : decode cX7_laws 17 = .ok (.aload_n 0, 1) := by decide +kernel
theorem dX7_laws_18 : decode cX7_laws 18 = .ok (.getfield 19, 3) := by decide +kernel
theorem dX7_laws_21 : decode cX7_laws 21 = .ok (.aload_n 0, 1) := by decide +kernel
theorem dX7_laws_22 : decode cX7_laws 22 = .ok (.getfield 10, 3) := by decide +kernel
theorem dX7_laws_25 : decode cX7_laws 25 = .ok (.invokevirtual 209, 3) := by decide +kernel
theorem dX7_laws_28 : decode cX7_laws 28 = .ok (.iconst 0, 1) := by decide +kernel
theorem dX7_laws_29 : decode cX7_laws 29 = .ok (.istore 5, 2) := by decide +kernel
theorem dX7_laws_31 : decode cX7_laws 31 = .ok (.iload 5, 2) := by decide +kernel
theorem dX7_laws_33 : decode cX7_laws 33 = .ok (.aload_n 0, 1) := by decide +kernel
theorem dX7_laws_34 : decode cX7_laws 34 = .ok (.getfield 84, 3) := by decide +kernel
theorem dX7_laws_37 : decode cX7_laws 37 = .ok (.if_icmp .ge 56, 3) := by decide +kernel
theorem dX7_laws_40 : decode cX7_laws 40 = .ok (.aload_n 0, 1) := by decide +kernel
theorem dX7_laws_41 : decode cX7_laws 41 = .ok (.getfield 19, 3) := by decide +kernel
theorem dX7_laws_44 : decode cX7_laws 44 = .ok (.iload 5, 2) := by decide +kernel
theorem dX7_laws_46 : decode cX7_laws 46 = .ok (.putfield 110, 3) := by decide +kernel
theorem dX7_laws_49 : decode cX7_laws 49 = .ok (.aload_n 0, 1) := by decide +kernel
theorem dX7_laws_50 : decode cX7_laws 50 = .ok (.aload_n 0, 1) := by decide +kernel
theorem dX7_laws_51 : decode cX7_laws 51 = .ok (.getfield 19, 3) := by decide +kernel
theorem dX7_laws_54 : decode cX7_laws 54 = .ok (.iload_n 2, 1) := by decide +kernel
theorem dX7_laws_55 : decode cX7_laws 55 = .ok (.invokevirtual 176, 3) := by decide +kernel
theorem dX7_laws_58 : decode cX7_laws 58 = .ok (.aload_n 0, 1) := by decide +kernel
theorem dX7_laws_59 : decode cX7_laws 59 = .ok (.getfield 25, 3) := by decide +kernel
theorem dX7_laws_62 : decode cX7_laws 62 = .ok (.aload_n 0, 1) := by decide +kernel
theorem dX7_laws_63 : decode cX7_laws 63 = .ok (.getfield 51, 3) := by decide +kernel
theorem dX7_laws_66 : decode cX7_laws 66 = .ok (.iload_n 1, 1) := by decide +kernel
theorem dX7_laws_67 : decode cX7_laws 67 = .ok (.aaload, 1) := by decide +kernel
theorem dX7_laws_68 : decode cX7_laws 68 = .ok (.getfield 252, 3) := by decide +kernel
theorem dX7_laws_71 : decode cX7_laws 71 = .ok (.invokevirtual 255, 3) := by decide +kernel
theorem dX7_laws_74 : decode cX7_laws 74 = .ok (.iconst (-1), 1) := by decide +kernel
theorem dX7_laws_75 : decode cX7_laws 75 = .ok (.if_icmp .ne 12, 3) := by decide +kernel
theorem dX7_laws_78 : decode cX7_laws 78 = .ok (.iload 4, 2) := by decide +kernel
theorem dX7_laws_80 : decode cX7_laws 80 = .ok (.iconst 1, 1) := by decide +kernel
theorem dX7_laws_81 : decode cX7_laws 81 = .ok (.iload 5, 2) := by decide +kernel
theorem dX7_laws_83 : decode cX7_laws 83 = .ok (.ishl, 1) := by decide +kernel
theorem dX7_laws_84 : decode cX7_laws 84 = .ok (.ior, 1) := by decide +kernel
theorem dX7_laws_85 : decode cX7_laws 85 = .ok (.istore 4, 2) := by decide +kernel
theorem dX7_laws_87 : decode cX7_laws 87 = .ok (.iinc 5 1, 3) := by decide +kernel
theorem dX7_laws_90 : decode cX7_laws 90 = .ok (.goto (-59), 3) := by decide +kernel
theorem dX7_laws_93 : decode cX7_laws 93 = .ok (.iload 4, 2) := by decide +kernel
theorem dX7_laws_95 : decode cX7_laws 95 = .ok (.ireturn, 1) := by decide +kernel
set_option maxRecDepth 20000 in
theorem ggX7_winds_X7_refusalOfLook : GoodIn wsX7_winds wsX7_refusalOfLook := goodIn_r _ [9, 4, 10, 11, 8, 12, 13, 14, 15, 16, 17, 18, 19, 20, 21, 182, 183, 184, 185, 186, 187, 188, 189, 190, 191, 192, 193, 205, 206, 207] (by decide +kernel) (by decide +kernel)
set_option maxRecDepth 20000 in
theorem gX7_winds_X7_refusalOfLook : GoodIn wsX7_winds (wsV RX7 248 RX7 yX7_refusalOfLook wsX7_refusalOfLook) := goodIn_app (goodIn_of _ (by decide +kernel)) ggX7_winds_X7_refusalOfLook
set_option maxRecDepth 20000 in
theorem ggX7_winds_X4_become : GoodIn wsX7_winds wsX4_become := goodIn_r _ [26, 27, 28, 29, 30, 31, 32, 33, 34, 35, 36, 37, 38, 39, 40, 41, 194, 195, 196, 197, 198, 199, 200, 201, 202, 203, 204] (by decide +kernel) (by decide +kernel)
set_option maxRecDepth 20000 in
theorem gX7_winds_X4_become : GoodIn wsX7_winds (wsV RX7 209 RX4 yX4_become wsX4_become) := goodIn_app (goodIn_of _ (by decide +kernel)) ggX7_winds_X4_become
set_option maxRecDepth 20000 in
theorem ggX7_winds_X7_goThrough : GoodIn wsX7_winds wsX7_goThrough := goodIn_r _ [45, 46, 3, 47, 48, 49, 50, 51, 52, 53, 54, 29, 30, 31, 55, 56, 57, 58, 59, 60, 61, 62, 63, 64, 65, 66, 67, 68, 69, 70, 71, 72, 73, 74, 75, 76, 77, 78, 79, 80, 81, 82, 83, 84, 85, 86, 87, 88, 89, 90, 91, 92, 93, 94, 95, 96, 97, 98, 99, 100, 101, 102, 103, 104, 105, 106, 107, 108, 109, 110, 111, 112, 113, 114, 115, 116, 117, 118, 119, 120, 121, 122, 123, 124, 125, 126, 127, 128, 129, 130, 131, 132, 133, 134, 135, 136, 137, 138, 139, 140, 141, 142, 143, 144, 145, 146, 147, 148, 149, 150, 151, 152, 153, 154, 155, 156, 157, 158, 159, 160, 161, 162, 163, 164, 165, 166, 167, 168, 169, 170, 171, 172, 173, 174, 175, 176, 177, 182, 183, 184, 185, 186, 187, 188, 189, 190, 191, 192, 193, 194, 195, 196, 197, 198, 199, 200, 201, 202, 203, 204, 208, 209, 210, 211, 212, 213, 214, 215, 216, 217, 218, 219, 220, 221, 222] (by decide +kernel) (by decide +kernel)
set_option maxRecDepth 20000 in
theorem gX7_winds_X7_goThrough : GoodIn wsX7_winds (wsV RX7 176 RX7 yX7_goThrough wsX7_goThrough) := goodIn_app (goodIn_of _ (by decide +kernel)) ggX7_winds_X7_goThrough
set_option maxRecDepth 20000 in
theorem ggX7_winds_X0_firstUnlike : GoodIn wsX7_winds wsX0_firstUnlike := goodIn_r _ [181, 112, 113, 114, 51, 115, 53, 208, 209, 210, 211, 212, 213, 214, 215, 216, 217] (by decide +kernel) (by decide +kernel)
set_option maxRecDepth 20000 in
theorem gX7_winds_X0_firstUnlike : GoodIn wsX7_winds (wsV RX7 255 RX0 yX0_firstUnlike wsX0_firstUnlike) := goodIn_app (goodIn_of _ (by decide +kernel)) ggX7_winds_X0_firstUnlike
theorem dX7_winds_0 : decode cX7_winds 0 = .ok (.aload_n 0, 1) := by decide +kernel
theorem dX7_winds_1 : decode cX7_winds 1 = .ok (.iload_n 1, 1) := by decide +kernel
theorem dX7_winds_2 : decode cX7_winds 2 = .ok (.iload_n 2, 1) := by decide +kernel
theorem dX7_winds_3 : decode cX7_winds 3 = .ok (.iconst 1, 1) := by decide +kernel
theorem dX7_winds_4 : decode cX7_winds 4 = .ok (.invokevirtual 248, 3) := by decide +kernel
theorem dX7_winds_7 : decode cX7_winds 7 = .ok (.istore_n 3, 1) := by decide +kernel
theorem dX7_winds_8 : decode cX7_winds 8 = .ok (.iload_n 3, 1) := by decide +kernel
theorem dX7_winds_9 : decode cX7_winds 9 = .ok (.ifCond .eq 5, 3) := by decide +kernel
theorem dX7_winds_12 : decode cX7_winds 12 = .ok (.iload_n 3, 1) := by decide +kernel
theorem dX7_winds_13 : decode cX7_winds 13 = .ok (.ireturn, 1) := by decide +kernel
theorem dX7_winds_14 : decode cX7_winds 14 = .ok (.iconst 0, 1) := by decide +kernel
theorem dX7_winds_15 : decode cX7_winds 15 = .ok (.istore 4, 2) := by decide +kernel
theorem dX7_winds_17 : decode cX7_winds 17 = .ok (.aload_n 0, 1) := by decide +kernel
theorem dX7_winds_18 : decode cX7_winds 18 = .ok (.getfield 19, 3) := by decide +kernel
theorem dX7_winds_21 : decode cX7_winds 21 = .ok (.aload_n 0, 1) := by decide +kernel
theorem dX7_winds_22 : decode cX7_winds 22 = .ok (.getfield 10, 3) := by decide +kernel
theorem dX7_winds_25 : decode cX7_winds 25 = .ok (.invokevirtual 209, 3) := by decide +kernel
theorem dX7_winds_28 : decode cX7_winds 28 = .ok (.iconst 0, 1) := by decide +kernel
theorem dX7_winds_29 : decode cX7_winds 29 = .ok (.istore 5, 2) := by decide +kernel
theorem dX7_winds_31 : decode cX7_winds 31 = .ok (.iload 5, 2) := by decide +kernel
theorem dX7_winds_33 : decode cX7_winds 33 = .ok (.iconst 4, 1) := by decide +kernel
theorem dX7_winds_34 : decode cX7_winds 34 = .ok (.if_icmp .ge 62, 3) := by decide +kernel
theorem dX7_winds_37 : decode cX7_winds 37 = .ok (.aload_n 0, 1) := by decide +kernel
theorem dX7_winds_38 : decode cX7_winds 38 = .ok (.getfield 19, 3) := by decide +kernel
theorem dX7_winds_41 : decode cX7_winds 41 = .ok (.getfield 100, 3) := by decide +kernel
theorem dX7_winds_44 : decode cX7_winds 44 = .ok (.iconst 0, 1) := by decide +kernel
theorem dX7_winds_45 : decode cX7_winds 45 = .ok (.aaload, 1) := by decide +kernel
theorem dX7_winds_46 : decode cX7_winds 46 = .ok (.iload_n 2, 1) := by decide +kernel
theorem dX7_winds_47 : decode cX7_winds 47 = .ok (.iconst 1, 1) := by decide +kernel
theorem dX7_winds_48 : decode cX7_winds 48 = .ok (.isub, 1) := by decide +kernel
theorem dX7_winds_49 : decode cX7_winds 49 = .ok (.iload 5, 2) := by decide +kernel
theorem dX7_winds_51 : decode cX7_winds 51 = .ok (.iastore, 1) := by decide +kernel
theorem dX7_winds_52 : decode cX7_winds 52 = .ok (.aload_n 0, 1) := by decide +kernel
theorem dX7_winds_53 : decode cX7_winds 53 = .ok (.aload_n 0, 1) := by decide +kernel
theorem dX7_winds_54 : decode cX7_winds 54 = .ok (.getfield 19, 3) := by decide +kernel
theorem dX7_winds_57 : decode cX7_winds 57 = .ok (.iload_n 2, 1) := by decide +kernel
theorem dX7_winds_58 : decode cX7_winds 58 = .ok (.invokevirtual 176, 3) := by decide +kernel
theorem dX7_winds_61 : decode cX7_winds 61 = .ok (.aload_n 0, 1) := by decide +kernel
theorem dX7_winds_62 : decode cX7_winds 62 = .ok (.getfield 25, 3) := by decide +kernel
theorem dX7_winds_65 : decode cX7_winds 65 = .ok (.aload_n 0, 1) := by decide +kernel
theorem dX7_winds_66 : decode cX7_winds 66 = .ok (.getfield 51, 3) := by decide +kernel
theorem dX7_winds_69 : decode cX7_winds 69 = .ok (.iload_n 1, 1) := by decide +kernel
theorem dX7_winds_70 : decode cX7_winds 70 = .ok (.aaload, 1) := by decide +kernel
theorem dX7_winds_71 : decode cX7_winds 71 = .ok (.getfield 252, 3) := by decide +kernel
theorem dX7_winds_74 : decode cX7_winds 74 = .ok (.invokevirtual 255, 3) := by decide +kernel
theorem dX7_winds_77 : decode cX7_winds 77 = .ok (.iconst (-1), 1) := by decide +kernel
theorem dX7_winds_78 : decode cX7_winds 78 = .ok (.if_icmp .ne 12, 3) := by decide +kernel
theorem dX7_winds_81 : decode cX7_winds 81 = .ok (.iload 4, 2) := by decide +kernel
theorem dX7_winds_83 : decode cX7_winds 83 = .ok (.iconst 1, 1) := by decide +kernel
theorem dX7_winds_84 : decode cX7_winds 84 = .ok (.iload 5, 2) := by decide +kernel
theorem dX7_winds_86 : decode cX7_winds 86 = .ok (.ishl, 1) := by decide +kernel
theorem dX7_winds_87 : decode cX7_winds 87 = .ok (.ior, 1) := by decide +kernel
theorem dX7_winds_88 : decode cX7_winds 88 = .ok (.istore 4, 2) := by decide +kernel
theorem dX7_winds_90 : decode cX7_winds 90 = .ok (.iinc 5 1, 3) := by decide +kernel
theorem dX7_winds_93 : decode cX7_winds 93 = .ok (.goto (-62), 3) := by decide +kernel
theorem dX7_winds_96 : decode cX7_winds 96 = .ok (.iload 4, 2) := by decide +kernel
theorem dX7_winds_98 : decode cX7_winds 98 = .ok (.ireturn, 1) := by decide +kernel
set_option maxRecDepth 20000 in
theorem ggX7_film_X7_isSheet : GoodIn wsX7_film wsX7_isSheet := goodIn_r _ [7, 8, 9, 6, 10] (by decide +kernel) (by decide +kernel)
set_option maxRecDepth 20000 in
theorem gX7_film_X7_isSheet : GoodIn wsX7_film (va_wsS RX7 259 yX7_isSheet wsX7_isSheet) := goodIn_app (goodIn_of _ (by decide +kernel)) ggX7_film_X7_isSheet
set_option maxRecDepth 20000 in
theorem ggX7_film_X7_isSpan : GoodIn wsX7_film wsX7_isSpan := goodIn_r _ [13, 8, 9, 6, 10] (by decide +kernel) (by decide +kernel)
set_option maxRecDepth 20000 in
theorem gX7_film_X7_isSpan : GoodIn wsX7_film (va_wsS RX7 173 yX7_isSpan wsX7_isSpan) := goodIn_app (goodIn_of _ (by decide +kernel)) ggX7_film_X7_isSpan
set_option maxRecDepth 20000 in
theorem ggX7_film_X7_goThrough : GoodIn wsX7_film wsX7_goThrough := goodIn_r _ [17, 18, 3, 19, 20, 21, 22, 23, 24, 25, 26, 27, 28, 29, 30, 31, 32, 33, 34, 35, 36, 37, 38, 39, 40, 41, 42, 43, 44, 45, 46, 47, 48, 49, 50, 51, 52, 53, 54, 55, 56, 57, 58, 59, 60, 61, 62, 63, 64, 65, 66, 67, 68, 69, 70, 71, 72, 73, 74, 75, 76, 77, 78, 79, 80, 81, 82, 83, 84, 85, 86, 87, 88, 89, 90, 91, 92, 93, 94, 95, 96, 97, 98, 99, 100, 101, 102, 103, 104, 105, 106, 107, 108, 109, 110, 111, 112, 113, 114, 115, 116, 117, 118, 119, 120, 121, 122, 123, 124, 125, 126, 127, 128, 129, 130, 131, 132, 133, 134, 135, 136, 137, 138, 139, 140, 141, 142, 143, 144, 145, 146, 147, 148, 149, 150, 151, 152, 166, 167, 168, 169, 170, 171, 172, 173, 174, 175, 176, 177, 181, 182, 183, 184, 185, 186, 187, 188, 189, 190, 191, 192, 193, 194, 195, 196, 197, 198, 199, 200, 201, 202, 203, 204, 205, 206] (by decide +kernel) (by decide +kernel)
set_option maxRecDepth 20000 in
theorem gX7_film_X7_goThrough : GoodIn wsX7_film (wsV RX7 176 RX7 yX7_goThrough wsX7_goThrough) := goodIn_app (goodIn_of _ (by decide +kernel)) ggX7_film_X7_goThrough
set_option maxRecDepth 20000 in
theorem ggX7_film_X6_become : GoodIn wsX7_film wsX6_become := goodIn_r _ [157, 158, 159, 160, 161, 38, 39, 40, 178, 179, 180] (by decide +kernel) (by decide +kernel)
set_option maxRecDepth 20000 in
theorem gX7_film_X6_become : GoodIn wsX7_film (wsV RX7 262 RX6 yX6_become wsX6_become) := goodIn_app (goodIn_of _ (by decide +kernel)) ggX7_film_X6_become
set_option maxRecDepth 20000 in
theorem ggX7_film_X0_tellLying : GoodIn wsX7_film wsX0_tellLying := goodIn_r _ [165, 87, 88, 89, 23, 90, 25, 192, 193, 194, 195, 196, 197, 198, 199, 200, 201] (by decide +kernel) (by decide +kernel)
set_option maxRecDepth 20000 in
theorem gX7_film_X0_tellLying : GoodIn wsX7_film (wsV RX7 205 RX0 yX0_tellLying wsX0_tellLying) := goodIn_app (goodIn_of _ (by decide +kernel)) ggX7_film_X0_tellLying
theorem dX7_film_0 : decode cX7_film 0 = .ok (.iload_n 1, 1) := by decide +kernel
theorem dX7_film_1 : decode cX7_film 1 = .ok (.invokestatic 259, 3) := by decide +kernel
theorem dX7_film_4 : decode cX7_film 4 = .ok (.ifCond .ne 6, 3) := by decide +kernel
theorem dX7_film_7 : decode cX7_film 7 = .ok (.bipush (-2), 2) := by decide +kernel
theorem dX7_film_9 : decode cX7_film 9 = .ok (.ireturn, 1) := by decide +kernel
theorem dX7_film_10 : decode cX7_film 10 = .ok (.iload_n 2, 1) := by decide +kernel
theorem dX7_film_11 : decode cX7_film 11 = .ok (.invokestatic 173, 3) := by decide +kernel
theorem dX7_film_14 : decode cX7_film 14 = .ok (.ifCond .ne 6, 3) := by decide +kernel
theorem dX7_film_17 : decode cX7_film 17 = .ok (.bipush (-7), 2) := by decide +kernel
theorem dX7_film_19 : decode cX7_film 19 = .ok (.ireturn, 1) := by decide +kernel
theorem dX7_film_20 : decode cX7_film 20 = .ok (.aload_n 0, 1) := by decide +kernel
theorem dX7_film_21 : decode cX7_film 21 = .ok (.aload_n 0, 1) := by decide +kernel
theorem dX7_film_22 : decode cX7_film 22 = .ok (.getfield 10, 3) := by decide +kernel
theorem dX7_film_25 : decode cX7_film 25 = .ok (.iload_n 2, 1) := by decide +kernel
theorem dX7_film_26 : decode cX7_film 26 = .ok (.invokevirtual 176, 3) := by decide +kernel
theorem dX7_film_29 : decode cX7_film 29 = .ok (.aload_n 0, 1) := by decide +kernel
theorem dX7_film_30 : decode cX7_film 30 = .ok (.getfield 51, 3) := by decide +kernel
theorem dX7_film_33 : decode cX7_film 33 = .ok (.iload_n 1, 1) := by decide +kernel
theorem dX7_film_34 : decode cX7_film 34 = .ok (.aaload, 1) := by decide +kernel
theorem dX7_film_35 : decode cX7_film 35 = .ok (.iconst 2, 1) := by decide +kernel
theorem dX7_film_36 : decode cX7_film 36 = .ok (.bipush 36, 2) := by decide +kernel
theorem dX7_film_38 : decode cX7_film 38 = .ok (.invokevirtual 262, 3) := by decide +kernel
theorem dX7_film_41 : decode cX7_film 41 = .ok (.aload_n 0, 1) := by decide +kernel
theorem dX7_film_42 : decode cX7_film 42 = .ok (.getfield 25, 3) := by decide +kernel
theorem dX7_film_45 : decode cX7_film 45 = .ok (.aload_n 0, 1) := by decide +kernel
theorem dX7_film_46 : decode cX7_film 46 = .ok (.getfield 51, 3) := by decide +kernel
theorem dX7_film_49 : decode cX7_film 49 = .ok (.iload_n 1, 1) := by decide +kernel
theorem dX7_film_50 : decode cX7_film 50 = .ok (.aaload, 1) := by decide +kernel
theorem dX7_film_51 : decode cX7_film 51 = .ok (.getfield 252, 3) := by decide +kernel
theorem dX7_film_54 : decode cX7_film 54 = .ok (.invokevirtual 205, 3) := by decide +kernel
theorem dX7_film_57 : decode cX7_film 57 = .ok (.bipush 36, 2) := by decide +kernel
theorem dX7_film_59 : decode cX7_film 59 = .ok (.ireturn, 1) := by decide +kernel
set_option maxRecDepth 20000 in
theorem ggX7_drawn_X7_within : GoodIn wsX7_drawn wsX7_within := goodIn_r _ [8] (by decide +kernel) (by decide +kernel)
set_option maxRecDepth 20000 in
theorem gX7_drawn_X7_within : GoodIn wsX7_drawn (va_wsS RX7 92 yX7_within wsX7_within) := goodIn_app (goodIn_of _ (by decide +kernel)) ggX7_drawn_X7_within
set_option maxRecDepth 20000 in
theorem ggX7_drawn_X7_isSpan : GoodIn wsX7_drawn wsX7_isSpan := goodIn_r _ [11, 5, 6, 7, 8] (by decide +kernel) (by decide +kernel)
set_option maxRecDepth 20000 in
theorem gX7_drawn_X7_isSpan : GoodIn wsX7_drawn (va_wsS RX7 173 yX7_isSpan wsX7_isSpan) := goodIn_app (goodIn_of _ (by decide +kernel)) ggX7_drawn_X7_isSpan
set_option maxRecDepth 20000 in
theorem ggX7_drawn_X4_become : GoodIn wsX7_drawn wsX4_become := goodIn_r _ [16, 17, 18, 19, 20, 21, 22, 23, 24, 25, 26, 27, 28, 29, 30, 31, 196, 197, 198, 199, 200, 201, 202, 203, 204, 205, 206] (by decide +kernel) (by decide +kernel)
set_option maxRecDepth 20000 in
theorem gX7_drawn_X4_become : GoodIn wsX7_drawn (wsV RX7 209 RX4 yX4_become wsX4_become) := goodIn_app (goodIn_of _ (by decide +kernel)) ggX7_drawn_X4_become
set_option maxRecDepth 20000 in
theorem ggX7_drawn_X4_draw : GoodIn wsX7_drawn wsX4_draw := goodIn_r _ [35, 36, 37, 17, 38, 39, 196, 197, 198, 199, 200, 201, 202, 203, 204, 205, 206] (by decide +kernel) (by decide +kernel)
set_option maxRecDepth 20000 in
theorem gX7_drawn_X4_draw : GoodIn wsX7_drawn (wsV RX7 266 RX4 yX4_draw wsX4_draw) := goodIn_app (goodIn_of _ (by decide +kernel)) ggX7_drawn_X4_draw
set_option maxRecDepth 20000 in
theorem ggX7_drawn_X7_goThrough : GoodIn wsX7_drawn wsX7_goThrough := goodIn_r _ [43, 44, 4, 45, 46, 47, 48, 49, 50, 51, 52, 19, 20, 21, 53, 54, 55, 56, 57, 58, 59, 60, 61, 62, 63, 64, 65, 66, 67, 68, 69, 70, 71, 72, 73, 74, 75, 76, 77, 78, 79, 80, 81, 82, 83, 84, 85, 86, 87, 88, 89, 90, 91, 92, 93, 94, 95, 96, 97, 98, 99, 100, 101, 102, 103, 104, 105, 106, 107, 108, 109, 110, 111, 112, 113, 114, 115, 116, 117, 118, 119, 120, 121, 122, 123, 124, 125, 126, 127, 128, 129, 130, 131, 132, 133, 134, 135, 136, 137, 138, 139, 140, 141, 142, 143, 144, 145, 146, 147, 148, 149, 150, 151, 152, 153, 154, 155, 156, 157, 158, 159, 160, 161, 162, 163, 164, 165, 166, 167, 168, 169, 170, 171, 172, 173, 174, 175, 184, 185, 186, 187, 188, 189, 190, 191, 192, 193, 194, 195, 196, 197, 198, 199, 200, 201, 202, 203, 204, 205, 206, 207, 208, 209, 210, 211, 212, 213, 214, 215, 216, 217, 218, 219, 220, 221] (by decide +kernel) (by decide +kernel)
set_option maxRecDepth 20000 in
theorem gX7_drawn_X7_goThrough : GoodIn wsX7_drawn (wsV RX7 176 RX7 yX7_goThrough wsX7_goThrough) := goodIn_app (goodIn_of _ (by decide +kernel)) ggX7_drawn_X7_goThrough
set_option maxRecDepth 20000 in
theorem ggX7_drawn_X0_total : GoodIn wsX7_drawn wsX0_total := goodIn_r _ [179, 57, 58, 59, 56, 172, 173, 174, 49, 175, 110, 111, 112, 113, 51, 180, 181, 182, 183, 54, 207, 208, 209, 210, 211, 212, 213, 214, 215, 216] (by decide +kernel) (by decide +kernel)
set_option maxRecDepth 20000 in
theorem gX7_drawn_X0_total : GoodIn wsX7_drawn (wsV RX7 186 RX0 yX0_total wsX0_total) := goodIn_app (goodIn_of _ (by decide +kernel)) ggX7_drawn_X0_total
theorem dX7_drawn_0 : decode cX7_drawn 0 = .ok (.iload_n 1, 1) := by decide +kernel
theorem dX7_drawn_1 : decode cX7_drawn 1 = .ok (.iconst 0, 1) := by decide +kernel
theorem dX7_drawn_2 : decode cX7_drawn 2 = .ok (.ldc_w 265, 3) := by decide +kernel
theorem dX7_drawn_5 : decode cX7_drawn 5 = .ok (.invokestatic 92, 3) := by decide +kernel
theorem dX7_drawn_8 : decode cX7_drawn 8 = .ok (.ifCond .eq 20, 3) := by decide +kernel
theorem dX7_drawn_11 : decode cX7_drawn 11 = .ok (.iload_n 2, 1) := by decide +kernel
theorem dX7_drawn_12 : decode cX7_drawn 12 = .ok (.invokestatic 173, 3) := by decide +kernel
theorem dX7_drawn_15 : decode cX7_drawn 15 = .ok (.ifCond .eq 13, 3) := by decide +kernel
theorem dX7_drawn_18 : decode cX7_drawn 18 = .ok (.iload_n 3, 1) := by decide +kernel
theorem dX7_drawn_19 : decode cX7_drawn 19 = .ok (.iconst 0, 1) := by decide +kernel
theorem dX7_drawn_20 : decode cX7_drawn 20 = .ok (.bipush 8, 2) := by decide +kernel
theorem dX7_drawn_22 : decode cX7_drawn 22 = .ok (.invokestatic 92, 3) := by decide +kernel
theorem dX7_drawn_25 : decode cX7_drawn 25 = .ok (.ifCond .ne 6, 3) := by decide +kernel
theorem dX7_drawn_28 : decode cX7_drawn 28 = .ok (.bipush (-2), 2) := by decide +kernel
theorem dX7_drawn_30 : decode cX7_drawn 30 = .ok (.ireturn, 1) := by decide +kernel
theorem dX7_drawn_31 : decode cX7_drawn 31 = .ok (.aload_n 0, 1) := by decide +kernel
theorem dX7_drawn_32 : decode cX7_drawn 32 = .ok (.getfield 19, 3) := by decide +kernel
theorem dX7_drawn_35 : decode cX7_drawn 35 = .ok (.aload_n 0, 1) := by decide +kernel
theorem dX7_drawn_36 : decode cX7_drawn 36 = .ok (.getfield 10, 3) := by decide +kernel
theorem dX7_drawn_39 : decode cX7_drawn 39 = .ok (.invokevirtual 209, 3) := by decide +kernel
theorem dX7_drawn_42 : decode cX7_drawn 42 = .ok (.aload_n 0, 1) := by decide +kernel
theorem dX7_drawn_43 : decode cX7_drawn 43 = .ok (.getfield 19, 3) := by decide +kernel
theorem dX7_drawn_46 : decode cX7_drawn 46 = .ok (.iload_n 1, 1) := by decide +kernel
theorem dX7_drawn_47 : decode cX7_drawn 47 = .ok (.invokevirtual 266, 3) := by decide +kernel
theorem dX7_drawn_50 : decode cX7_drawn 50 = .ok (.aload_n 0, 1) := by decide +kernel
theorem dX7_drawn_51 : decode cX7_drawn 51 = .ok (.aload_n 0, 1) := by decide +kernel
theorem dX7_drawn_52 : decode cX7_drawn 52 = .ok (.getfield 19, 3) := by decide +kernel
theorem dX7_drawn_55 : decode cX7_drawn 55 = .ok (.iload_n 2, 1) := by decide +kernel
theorem dX7_drawn_56 : decode cX7_drawn 56 = .ok (.invokevirtual 176, 3) := by decide +kernel
theorem dX7_drawn_59 : decode cX7_drawn 59 = .ok (.aload_n 0, 1) := by decide +kernel
theorem dX7_drawn_60 : decode cX7_drawn 60 = .ok (.getfield 25, 3) := by decide +kernel
theorem dX7_drawn_63 : decode cX7_drawn 63 = .ok (.iload_n 3, 1) := by decide +kernel
theorem dX7_drawn_64 : decode cX7_drawn 64 = .ok (.invokevirtual 186, 3) := by decide +kernel
theorem dX7_drawn_67 : decode cX7_drawn 67 = .ok (.ireturn, 1) := by decide +kernel
set_option maxRecDepth 20000 in
theorem ggX7_odds_X7_within : GoodIn wsX7_odds wsX7_within := goodIn_r _ [9] (by decide +kernel) (by decide +kernel)
set_option maxRecDepth 20000 in
theorem gX7_odds_X7_within : GoodIn wsX7_odds (va_wsS RX7 92 yX7_within wsX7_within) := goodIn_app (goodIn_of _ (by decide +kernel)) ggX7_odds_X7_within
set_option maxRecDepth 20000 in
theorem ggX7_odds_X7_isChoice : GoodIn wsX7_odds wsX7_isChoice := goodIn_r _ [12, 6, 7, 8, 9] (by decide +kernel) (by decide +kernel)
set_option maxRecDepth 20000 in
theorem gX7_odds_X7_isChoice : GoodIn wsX7_odds (va_wsS RX7 192 yX7_isChoice wsX7_isChoice) := goodIn_app (goodIn_of _ (by decide +kernel)) ggX7_odds_X7_isChoice
set_option maxRecDepth 20000 in
theorem ggX7_odds_X4_become : GoodIn wsX7_odds wsX4_become := goodIn_r _ [17, 18, 19, 20, 21, 22, 23, 24, 25, 26, 27, 28, 29, 30, 31, 32, 200, 201, 202, 203, 204, 205, 206, 207, 208, 209, 210] (by decide +kernel) (by decide +kernel)
set_option maxRecDepth 20000 in
theorem gX7_odds_X4_become : GoodIn wsX7_odds (wsV RX7 209 RX4 yX4_become wsX4_become) := goodIn_app (goodIn_of _ (by decide +kernel)) ggX7_odds_X4_become
set_option maxRecDepth 20000 in
theorem ggX7_odds_X4_draw : GoodIn wsX7_odds wsX4_draw := goodIn_r _ [36, 37, 38, 18, 39, 40, 200, 201, 202, 203, 204, 205, 206, 207, 208, 209, 210] (by decide +kernel) (by decide +kernel)
set_option maxRecDepth 20000 in
theorem gX7_odds_X4_draw : GoodIn wsX7_odds (wsV RX7 266 RX4 yX4_draw wsX4_draw) := goodIn_app (goodIn_of _ (by decide +kernel)) ggX7_odds_X4_draw
set_option maxRecDepth 20000 in
theorem ggX7_odds_X7_goThrough : GoodIn wsX7_odds wsX7_goThrough := goodIn_r _ [44, 45, 5, 46, 47, 48, 49, 50, 51, 52, 53, 20, 21, 22, 54, 55, 56, 57, 58, 59, 60, 61, 62, 63, 64, 65, 66, 67, 68, 69, 70, 71, 72, 73, 74, 75, 76, 77, 78, 79, 80, 81, 82, 83, 84, 85, 86, 87, 88, 89, 90, 91, 92, 93, 94, 95, 96, 97, 98, 99, 100, 101, 102, 103, 104, 105, 106, 107, 108, 109, 110, 111, 112, 113, 114, 115, 116, 117, 118, 119, 120, 121, 122, 123, 124, 125, 126, 127, 128, 129, 130, 131, 132, 133, 134, 135, 136, 137, 138, 139, 140, 141, 142, 143, 144, 145, 146, 147, 148, 149, 150, 151, 152, 153, 154, 155, 156, 157, 158, 159, 160, 161, 162, 163, 164, 165, 166, 167, 168, 169, 170, 171, 172, 173, 174, 175, 176, 188, 189, 190, 191, 192, 193, 194, 195, 196, 197, 198, 199, 200, 201, 202, 203, 204, 205, 206, 207, 208, 209, 210, 211, 212, 213, 214, 215, 216, 217, 218, 219, 220, 221, 222, 223, 224, 225] (by decide +kernel) (by decide +kernel)
set_option maxRecDepth 20000 in
theorem gX7_odds_X7_goThrough : GoodIn wsX7_odds (wsV RX7 176 RX7 yX7_goThrough wsX7_goThrough) := goodIn_app (goodIn_of _ (by decide +kernel)) ggX7_odds_X7_goThrough
set_option maxRecDepth 20000 in
theorem ggX7_odds_X0_total : GoodIn wsX7_odds wsX0_total := goodIn_r _ [180, 58, 59, 60, 57, 173, 174, 175, 50, 176, 111, 112, 113, 114, 52, 181, 182, 183, 184, 55, 211, 212, 213, 214, 215, 216, 217, 218, 219, 220] (by decide +kernel) (by decide +kernel)
set_option maxRecDepth 20000 in
theorem gX7_odds_X0_total : GoodIn wsX7_odds (wsV RX7 186 RX0 yX0_total wsX0_total) := goodIn_app (goodIn_of _ (by decide +kernel)) ggX7_odds_X0_total
set_option maxRecDepth 20000 in
theorem ggX7_odds_X7_inLowestTerms : GoodIn wsX7_odds wsX7_inLowestTerms := goodIn_r _ [187, 2] (by decide +kernel) (by decide +kernel)
set_option maxRecDepth 20000 in
theorem gX7_odds_X7_inLowestTerms : GoodIn wsX7_odds (va_wsS RX7 244 yX7_inLowestTerms wsX7_inLowestTerms) := goodIn_app (goodIn_of _ (by decide +kernel)) ggX7_odds_X7_inLowestTerms
theorem dX7_odds_0 : decode cX7_odds 0 = .ok (.iload_n 1, 1) := by decide +kernel
theorem dX7_odds_1 : decode cX7_odds 1 = .ok (.iconst 0, 1) := by decide +kernel
theorem dX7_odds_2 : decode cX7_odds 2 = .ok (.ldc_w 265, 3) := by decide +kernel
theorem dX7_odds_5 : decode cX7_odds 5 = .ok (.invokestatic 92, 3) := by decide +kernel
theorem dX7_odds_8 : decode cX7_odds 8 = .ok (.ifCond .eq 13, 3) := by decide +kernel
theorem dX7_odds_11 : decode cX7_odds 11 = .ok (.iload_n 2, 1) := by decide +kernel
theorem dX7_odds_12 : decode cX7_odds 12 = .ok (.iconst 1, 1) := by decide +kernel
theorem dX7_odds_13 : decode cX7_odds 13 = .ok (.bipush 10, 2) := by decide +kernel
theorem dX7_odds_15 : decode cX7_odds 15 = .ok (.invokestatic 92, 3) := by decide +kernel
theorem dX7_odds_18 : decode cX7_odds 18 = .ok (.ifCond .ne 7, 3) := by decide +kernel
theorem dX7_odds_21 : decode cX7_odds 21 = .ok (.ldc2_w 167, 3) := by decide +kernel
theorem dX7_odds_24 : decode cX7_odds 24 = .ok (.lreturn, 1) := by decide +kernel
theorem dX7_odds_25 : decode cX7_odds 25 = .ok (.iload_n 3, 1) := by decide +kernel
theorem dX7_odds_26 : decode cX7_odds 26 = .ok (.iconst 0, 1) := by decide +kernel
theorem dX7_odds_27 : decode cX7_odds 27 = .ok (.sipush 9999, 3) := by decide +kernel
theorem dX7_odds_30 : decode cX7_odds 30 = .ok (.invokestatic 92, 3) := by decide +kernel
theorem dX7_odds_33 : decode cX7_odds 33 = .ok (.ifCond .eq 11, 3) := by decide +kernel
theorem dX7_odds_36 : decode cX7_odds 36 = .ok (.iload 4, 2) := by decide +kernel
theorem dX7_odds_38 : decode cX7_odds 38 = .ok (.invokestatic 192, 3) := by decide +kernel
theorem dX7_odds_41 : decode cX7_odds 41 = .ok (.ifCond .ne 7, 3) := by decide +kernel
theorem dX7_odds_44 : decode cX7_odds 44 = .ok (.ldc2_w 167, 3) := by decide +kernel
theorem dX7_odds_47 : decode cX7_odds 47 = .ok (.lreturn, 1) := by decide +kernel
theorem dX7_odds_48 : decode cX7_odds 48 = .ok (.iconst 0, 1) := by decide +kernel
theorem dX7_odds_49 : decode cX7_odds 49 = .ok (.istore 5, 2) := by decide +kernel
theorem dX7_odds_51 : decode cX7_odds 51 = .ok (.aload_n 0, 1) := by decide +kernel
theorem dX7_odds_52 : decode cX7_odds 52 = .ok (.getfield 19, 3) := by decide +kernel
theorem dX7_odds_55 : decode cX7_odds 55 = .ok (.aload_n 0, 1) := by decide +kernel
theorem dX7_odds_56 : decode cX7_odds 56 = .ok (.getfield 10, 3) := by decide +kernel
theorem dX7_odds_59 : decode cX7_odds 59 = .ok (.invokevirtual 209, 3) := by decide +kernel
theorem dX7_odds_62 : decode cX7_odds 62 = .ok (.iconst 0, 1) := by decide +kernel
theorem dX7_odds_63 : decode cX7_odds 63 = .ok (.istore 6, 2) := by decide +kernel
theorem dX7_odds_65 : decode cX7_odds 65 = .ok (.iload 6, 2) := by decide +kernel
theorem dX7_odds_67 : decode cX7_odds 67 = .ok (.iload_n 2, 1) := by decide +kernel
theorem dX7_odds_68 : decode cX7_odds 68 = .ok (.if_icmp .ge 45, 3) := by decide +kernel
theorem dX7_odds_71 : decode cX7_odds 71 = .ok (.aload_n 0, 1) := by decide +kernel
theorem dX7_odds_72 : decode cX7_odds 72 = .ok (.getfield 19, 3) := by decide +kernel
theorem dX7_odds_75 : decode cX7_odds 75 = .ok (.iload_n 1, 1) := by decide +kernel
theorem dX7_odds_76 : decode cX7_odds 76 = .ok (.iload 6, 2) := by decide +kernel
theorem dX7_odds_78 : decode cX7_odds 78 = .ok (.iadd, 1) := by decide +kernel
theorem dX7_odds_79 : decode cX7_odds 79 = .ok (.invokevirtual 266, 3) := by decide +kernel
theorem dX7_odds_82 : decode cX7_odds 82 = .ok (.aload_n 0, 1) := by decide +kernel
theorem dX7_odds_83 : decode cX7_odds 83 = .ok (.aload_n 0, 1) := by decide +kernel
theorem dX7_odds_84 : decode cX7_odds 84 = .ok (.getfield 19, 3) := by decide +kernel
theorem dX7_odds_87 : decode cX7_odds 87 = .ok (.bipush 14, 2) := by decide +kernel
theorem dX7_odds_89 : decode cX7_odds 89 = .ok (.invokevirtual 176, 3) := by decide +kernel
theorem dX7_odds_92 : decode cX7_odds 92 = .ok (.aload_n 0, 1) := by decide +kernel
theorem dX7_odds_93 : decode cX7_odds 93 = .ok (.getfield 25, 3) := by decide +kernel
theorem dX7_odds_96 : decode cX7_odds 96 = .ok (.iconst 0, 1) := by decide +kernel
theorem dX7_odds_97 : decode cX7_odds 97 = .ok (.invokevirtual 186, 3) := by decide +kernel
theorem dX7_odds_100 : decode cX7_odds 100 = .ok (.iload_n 3, 1) := by decide +kernel
theorem dX7_odds_101 : decode cX7_odds 101 = .ok (.if_icmp .gt 6, 3) := by decide +kernel
theorem dX7_odds_104 : decode cX7_odds 104 = .ok (.iinc 5 1, 3) := by decide +kernel
theorem dX7_odds_107 : decode cX7_odds 107 = .ok (.iinc 6 1, 3) := by decide +kernel
theorem dX7_odds_110 : decode cX7_odds 110 = .ok (.goto (-45), 3) := by decide +kernel
theorem dX7_odds_113 : decode cX7_odds 113 = .ok (.iload 5, 2) := by decide +kernel
theorem dX7_odds_115 : decode cX7_odds 115 = .ok (.iload_n 2, 1) := by decide +kernel
theorem dX7_odds_116 : decode cX7_odds 116 = .ok (.iload 4, 2) := by decide +kernel
theorem dX7_odds_118 : decode cX7_odds 118 = .ok (.invokestatic 244, 3) := by decide +kernel
theorem dX7_odds_121 : decode cX7_odds 121 = .ok (.lreturn, 1) := by decide +kernel
set_option maxRecDepth 20000 in
theorem ggX7_image_X4_become : GoodIn wsX7_image wsX4_become := goodIn_r _ [8, 9, 10, 11, 12, 13, 14, 15, 16, 17, 18, 19, 20, 21, 22, 23, 36, 37, 38, 39, 40, 41, 42, 43, 44, 45, 46] (by decide +kernel) (by decide +kernel)
set_option maxRecDepth 20000 in
theorem gX7_image_X4_become : GoodIn wsX7_image (wsV RX7 209 RX4 yX4_become wsX4_become) := goodIn_app (goodIn_of _ (by decide +kernel)) ggX7_image_X4_become
theorem dX7_image_0 : decode cX7_image 0 = .ok (.aload_n 0, 1) := by decide +kernel
theorem dX7_image_1 : decode cX7_image 1 = .ok (.getfield 16, 3) := by decide +kernel
theorem dX7_image_4 : decode cX7_image 4 = .ok (.aload_n 0, 1) := by decide +kernel
theorem dX7_image_5 : decode cX7_image 5 = .ok (.getfield 10, 3) := by decide +kernel
theorem dX7_image_8 : decode cX7_image 8 = .ok (.invokevirtual 209, 3) := by decide +kernel
theorem dX7_image_11 : decode cX7_image 11 = .ok (.aload_n 0, 1) := by decide +kernel
theorem dX7_image_12 : decode cX7_image 12 = .ok (.iconst 1, 1) := by decide +kernel
theorem dX7_image_13 : decode cX7_image 13 = .ok (.putfield 161, 3) := by decide +kernel
theorem dX7_image_16 : decode cX7_image 16 = .ok (.aload_n 0, 1) := by decide +kernel
theorem dX7_image_17 : decode cX7_image 17 = .ok (.getfield 10, 3) := by decide +kernel
theorem dX7_image_20 : decode cX7_image 20 = .ok (.getfield 104, 3) := by decide +kernel
theorem dX7_image_23 : decode cX7_image 23 = .ok (.ireturn, 1) := by decide +kernel
set_option maxRecDepth 20000 in
theorem ggX7_back_X4_become : GoodIn wsX7_back wsX4_become := goodIn_r _ [8, 9, 10, 11, 12, 13, 14, 15, 16, 17, 18, 19, 20, 21, 22, 23, 36, 37, 38, 39, 40, 41, 42, 43, 44, 45, 46] (by decide +kernel) (by decide +kernel)
set_option maxRecDepth 20000 in
theorem gX7_back_X4_become : GoodIn wsX7_back (wsV RX7 209 RX4 yX4_become wsX4_become) := goodIn_app (goodIn_of _ (by decide +kernel)) ggX7_back_X4_become
theorem dX7_back_0 : decode cX7_back 0 = .ok (.aload_n 0, 1) := by decide +kernel
theorem dX7_back_1 : decode cX7_back 1 = .ok (.getfield 161, 3) := by decide +kernel
theorem dX7_back_4 : decode cX7_back 4 = .ok (.ifCond .ne 6, 3) := by decide +kernel
theorem dX7_back_7 : decode cX7_back 7 = .ok (.bipush (-3), 2) := by decide +kernel
theorem dX7_back_9 : decode cX7_back 9 = .ok (.ireturn, 1) := by decide +kernel
theorem dX7_back_10 : decode cX7_back 10 = .ok (.aload_n 0, 1) := by decide +kernel
theorem dX7_back_11 : decode cX7_back 11 = .ok (.getfield 10, 3) := by decide +kernel
theorem dX7_back_14 : decode cX7_back 14 = .ok (.aload_n 0, 1) := by decide +kernel
theorem dX7_back_15 : decode cX7_back 15 = .ok (.getfield 16, 3) := by decide +kernel
theorem dX7_back_18 : decode cX7_back 18 = .ok (.invokevirtual 209, 3) := by decide +kernel
theorem dX7_back_21 : decode cX7_back 21 = .ok (.aload_n 0, 1) := by decide +kernel
theorem dX7_back_22 : decode cX7_back 22 = .ok (.getfield 10, 3) := by decide +kernel
theorem dX7_back_25 : decode cX7_back 25 = .ok (.getfield 104, 3) := by decide +kernel
theorem dX7_back_28 : decode cX7_back 28 = .ok (.ireturn, 1) := by decide +kernel
set_option maxRecDepth 20000 in
theorem ggX7_sheet_X7_isSheet : GoodIn wsX7_sheet wsX7_isSheet := goodIn_r _ [5, 6, 7, 4, 8] (by decide +kernel) (by decide +kernel)
set_option maxRecDepth 20000 in
theorem gX7_sheet_X7_isSheet : GoodIn wsX7_sheet (va_wsS RX7 259 yX7_isSheet wsX7_isSheet) := goodIn_app (goodIn_of _ (by decide +kernel)) ggX7_sheet_X7_isSheet
set_option maxRecDepth 20000 in
theorem ggX7_sheet_X7_within : GoodIn wsX7_sheet wsX7_within := goodIn_r _ [8] (by decide +kernel) (by decide +kernel)
set_option maxRecDepth 20000 in
theorem gX7_sheet_X7_within : GoodIn wsX7_sheet (va_wsS RX7 92 yX7_within wsX7_within) := goodIn_app (goodIn_of _ (by decide +kernel)) ggX7_sheet_X7_within
set_option maxRecDepth 20000 in
theorem ggX7_sheet_X6_become : GoodIn wsX7_sheet wsX6_become := goodIn_r _ [13, 14, 15, 16, 17, 18, 19, 20, 33, 34, 35] (by decide +kernel) (by decide +kernel)
set_option maxRecDepth 20000 in
theorem gX7_sheet_X6_become : GoodIn wsX7_sheet (wsV RX7 262 RX6 yX6_become wsX6_become) := goodIn_app (goodIn_of _ (by decide +kernel)) ggX7_sheet_X6_become
theorem dX7_sheet_0 : decode cX7_sheet 0 = .ok (.iload_n 1, 1) := by decide +kernel
theorem dX7_sheet_1 : decode cX7_sheet 1 = .ok (.invokestatic 259, 3) := by decide +kernel
theorem dX7_sheet_4 : decode cX7_sheet 4 = .ok (.ifCond .eq 12, 3) := by decide +kernel
theorem dX7_sheet_7 : decode cX7_sheet 7 = .ok (.iload_n 2, 1) := by decide +kernel
theorem dX7_sheet_8 : decode cX7_sheet 8 = .ok (.iconst (-1), 1) := by decide +kernel
theorem dX7_sheet_9 : decode cX7_sheet 9 = .ok (.iconst 2, 1) := by decide +kernel
theorem dX7_sheet_10 : decode cX7_sheet 10 = .ok (.invokestatic 92, 3) := by decide +kernel
theorem dX7_sheet_13 : decode cX7_sheet 13 = .ok (.ifCond .ne 6, 3) := by decide +kernel
theorem dX7_sheet_16 : decode cX7_sheet 16 = .ok (.bipush (-2), 2) := by decide +kernel
theorem dX7_sheet_18 : decode cX7_sheet 18 = .ok (.ireturn, 1) := by decide +kernel
theorem dX7_sheet_19 : decode cX7_sheet 19 = .ok (.iload_n 2, 1) := by decide +kernel
theorem dX7_sheet_20 : decode cX7_sheet 20 = .ok (.iconst (-1), 1) := by decide +kernel
theorem dX7_sheet_21 : decode cX7_sheet 21 = .ok (.if_icmp .ne 7, 3) := by decide +kernel
theorem dX7_sheet_24 : decode cX7_sheet 24 = .ok (.iconst 0, 1) := by decide +kernel
theorem dX7_sheet_25 : decode cX7_sheet 25 = .ok (.goto 4, 3) := by decide +kernel
theorem dX7_sheet_28 : decode cX7_sheet 28 = .ok (.iload_n 3, 1) := by decide +kernel
theorem dX7_sheet_29 : decode cX7_sheet 29 = .ok (.istore 4, 2) := by decide +kernel
theorem dX7_sheet_31 : decode cX7_sheet 31 = .ok (.iload 4, 2) := by decide +kernel
theorem dX7_sheet_33 : decode cX7_sheet 33 = .ok (.bipush 40, 2) := by decide +kernel
theorem dX7_sheet_35 : decode cX7_sheet 35 = .ok (.if_icmp .le 6, 3) := by decide +kernel
theorem dX7_sheet_38 : decode cX7_sheet 38 = .ok (.bipush (-2), 2) := by decide +kernel
theorem dX7_sheet_40 : decode cX7_sheet 40 = .ok (.ireturn, 1) := by decide +kernel
theorem dX7_sheet_41 : decode cX7_sheet 41 = .ok (.iload 4, 2) := by decide +kernel
theorem dX7_sheet_43 : decode cX7_sheet 43 = .ok (.ifCond .ge 6, 3) := by decide +kernel
theorem dX7_sheet_46 : decode cX7_sheet 46 = .ok (.bipush (-14), 2) := by decide +kernel
theorem dX7_sheet_48 : decode cX7_sheet 48 = .ok (.ireturn, 1) := by decide +kernel
theorem dX7_sheet_49 : decode cX7_sheet 49 = .ok (.aload_n 0, 1) := by decide +kernel
theorem dX7_sheet_50 : decode cX7_sheet 50 = .ok (.getfield 51, 3) := by decide +kernel
theorem dX7_sheet_53 : decode cX7_sheet 53 = .ok (.iload_n 1, 1) := by decide +kernel
theorem dX7_sheet_54 : decode cX7_sheet 54 = .ok (.aaload, 1) := by decide +kernel
theorem dX7_sheet_55 : decode cX7_sheet 55 = .ok (.iload_n 2, 1) := by decide +kernel
theorem dX7_sheet_56 : decode cX7_sheet 56 = .ok (.iload 4, 2) := by decide +kernel
theorem dX7_sheet_58 : decode cX7_sheet 58 = .ok (.invokevirtual 262, 3) := by decide +kernel
theorem dX7_sheet_61 : decode cX7_sheet 61 = .ok (.iconst 1, 1) := by decide +kernel
theorem dX7_sheet_62 : decode cX7_sheet 62 = .ok (.ireturn, 1) := by decide +kernel
set_option maxRecDepth 20000 in
theorem ggX7_cell_X7_isSheet : GoodIn wsX7_cell wsX7_isSheet := goodIn_r _ [5, 6, 7, 4, 8] (by decide +kernel) (by decide +kernel)
set_option maxRecDepth 20000 in
theorem gX7_cell_X7_isSheet : GoodIn wsX7_cell (va_wsS RX7 259 yX7_isSheet wsX7_isSheet) := goodIn_app (goodIn_of _ (by decide +kernel)) ggX7_cell_X7_isSheet
set_option maxRecDepth 20000 in
theorem ggX7_cell_X6_isMissing : GoodIn wsX7_cell wsX6_isMissing := goodIn_r _ [13, 14, 32, 33, 34] (by decide +kernel) (by decide +kernel)
set_option maxRecDepth 20000 in
theorem gX7_cell_X6_isMissing : GoodIn wsX7_cell (wsV RX7 269 RX6 yX6_isMissing wsX6_isMissing) := goodIn_app (goodIn_of _ (by decide +kernel)) ggX7_cell_X6_isMissing
set_option maxRecDepth 20000 in
theorem ggX7_cell_X7_within : GoodIn wsX7_cell wsX7_within := goodIn_r _ [8] (by decide +kernel) (by decide +kernel)
set_option maxRecDepth 20000 in
theorem gX7_cell_X7_within : GoodIn wsX7_cell (va_wsS RX7 92 yX7_within wsX7_within) := goodIn_app (goodIn_of _ (by decide +kernel)) ggX7_cell_X7_within
set_option maxRecDepth 20000 in
theorem ggX7_cell_X6_put : GoodIn wsX7_cell wsX6_put := goodIn_r _ [18, 14, 19, 32, 33, 34] (by decide +kernel) (by decide +kernel)
set_option maxRecDepth 20000 in
theorem gX7_cell_X6_put : GoodIn wsX7_cell (wsV RX7 274 RX6 yX6_put wsX6_put) := goodIn_app (goodIn_of _ (by decide +kernel)) ggX7_cell_X6_put
theorem dX7_cell_0 : decode cX7_cell 0 = .ok (.iload_n 1, 1) := by decide +kernel
theorem dX7_cell_1 : decode cX7_cell 1 = .ok (.invokestatic 259, 3) := by decide +kernel
theorem dX7_cell_4 : decode cX7_cell 4 = .ok (.ifCond .ne 6, 3) := by decide +kernel
theorem dX7_cell_7 : decode cX7_cell 7 = .ok (.bipush (-2), 2) := by decide +kernel
theorem dX7_cell_9 : decode cX7_cell 9 = .ok (.ireturn, 1) := by decide +kernel
theorem dX7_cell_10 : decode cX7_cell 10 = .ok (.aload_n 0, 1) := by decide +kernel
theorem dX7_cell_11 : decode cX7_cell 11 = .ok (.getfield 51, 3) := by decide +kernel
theorem dX7_cell_14 : decode cX7_cell 14 = .ok (.iload_n 1, 1) := by decide +kernel
theorem dX7_cell_15 : decode cX7_cell 15 = .ok (.aaload, 1) := by decide +kernel
theorem dX7_cell_16 : decode cX7_cell 16 = .ok (.astore 4, 2) := by decide +kernel
theorem dX7_cell_18 : decode cX7_cell 18 = .ok (.aload 4, 2) := by decide +kernel
theorem dX7_cell_20 : decode cX7_cell 20 = .ok (.invokevirtual 269, 3) := by decide +kernel
theorem dX7_cell_23 : decode cX7_cell 23 = .ok (.ifCond .eq 6, 3) := by decide +kernel
theorem dX7_cell_26 : decode cX7_cell 26 = .ok (.bipush (-11), 2) := by decide +kernel
theorem dX7_cell_28 : decode cX7_cell 28 = .ok (.ireturn, 1) := by decide +kernel
theorem dX7_cell_29 : decode cX7_cell 29 = .ok (.iload_n 2, 1) := by decide +kernel
theorem dX7_cell_30 : decode cX7_cell 30 = .ok (.iconst 0, 1) := by decide +kernel
theorem dX7_cell_31 : decode cX7_cell 31 = .ok (.aload 4, 2) := by decide +kernel
theorem dX7_cell_33 : decode cX7_cell 33 = .ok (.getfield 273, 3) := by decide +kernel
theorem dX7_cell_36 : decode cX7_cell 36 = .ok (.iconst 1, 1) := by decide +kernel
theorem dX7_cell_37 : decode cX7_cell 37 = .ok (.isub, 1) := by decide +kernel
theorem dX7_cell_38 : decode cX7_cell 38 = .ok (.invokestatic 92, 3) := by decide +kernel
theorem dX7_cell_41 : decode cX7_cell 41 = .ok (.ifCond .ne 6, 3) := by decide +kernel
theorem dX7_cell_44 : decode cX7_cell 44 = .ok (.bipush (-12), 2) := by decide +kernel
theorem dX7_cell_46 : decode cX7_cell 46 = .ok (.ireturn, 1) := by decide +kernel
theorem dX7_cell_47 : decode cX7_cell 47 = .ok (.aload 4, 2) := by decide +kernel
theorem dX7_cell_49 : decode cX7_cell 49 = .ok (.iload_n 2, 1) := by decide +kernel
theorem dX7_cell_50 : decode cX7_cell 50 = .ok (.iload_n 3, 1) := by decide +kernel
theorem dX7_cell_51 : decode cX7_cell 51 = .ok (.invokevirtual 274, 3) := by decide +kernel
theorem dX7_cell_54 : decode cX7_cell 54 = .ok (.iconst 1, 1) := by decide +kernel
theorem dX7_cell_55 : decode cX7_cell 55 = .ok (.ireturn, 1) := by decide +kernel
set_option maxRecDepth 20000 in
theorem ggX7_copy_X7_isSheet : GoodIn wsX7_copy wsX7_isSheet := goodIn_r _ [9, 10, 11, 8, 12] (by decide +kernel) (by decide +kernel)
set_option maxRecDepth 20000 in
theorem gX7_copy_X7_isSheet : GoodIn wsX7_copy (va_wsS RX7 259 yX7_isSheet wsX7_isSheet) := goodIn_app (goodIn_of _ (by decide +kernel)) ggX7_copy_X7_isSheet
set_option maxRecDepth 20000 in
theorem ggX7_copy_X6_isMissing : GoodIn wsX7_copy wsX6_isMissing := goodIn_r _ [17, 18, 31, 32, 33] (by decide +kernel) (by decide +kernel)
set_option maxRecDepth 20000 in
theorem gX7_copy_X6_isMissing : GoodIn wsX7_copy (wsV RX7 269 RX6 yX6_isMissing wsX6_isMissing) := goodIn_app (goodIn_of _ (by decide +kernel)) ggX7_copy_X6_isMissing
set_option maxRecDepth 20000 in
theorem ggX7_copy_X7_within : GoodIn wsX7_copy wsX7_within := goodIn_r _ [12] (by decide +kernel) (by decide +kernel)
set_option maxRecDepth 20000 in
theorem gX7_copy_X7_within : GoodIn wsX7_copy (va_wsS RX7 92 yX7_within wsX7_within) := goodIn_app (goodIn_of _ (by decide +kernel)) ggX7_copy_X7_within
theorem dX7_copy_0 : decode cX7_copy 0 = .ok (.iload_n 1, 1) := by decide +kernel
theorem dX7_copy_1 : decode cX7_copy 1 = .ok (.invokestatic 259, 3) := by decide +kernel
theorem dX7_copy_4 : decode cX7_copy 4 = .ok (.ifCond .eq 10, 3) := by decide +kernel
theorem dX7_copy_7 : decode cX7_copy 7 = .ok (.iload_n 3, 1) := by decide +kernel
theorem dX7_copy_8 : decode cX7_copy 8 = .ok (.invokestatic 259, 3) := by decide +kernel
theorem dX7_copy_11 : decode cX7_copy 11 = .ok (.ifCond .ne 6, 3) := by decide +kernel
theorem dX7_copy_14 : decode cX7_copy 14 = .ok (.bipush (-2), 2) := by decide +kernel
theorem dX7_copy_16 : decode cX7_copy 16 = .ok (.ireturn, 1) := by decide +kernel
theorem dX7_copy_17 : decode cX7_copy 17 = .ok (.aload_n 0, 1) := by decide +kernel
theorem dX7_copy_18 : decode cX7_copy 18 = .ok (.getfield 51, 3) := by decide +kernel
theorem dX7_copy_21 : decode cX7_copy 21 = .ok (.iload_n 1, 1) := by decide +kernel
theorem dX7_copy_22 : decode cX7_copy 22 = .ok (.aaload, 1) := by decide +kernel
theorem dX7_copy_23 : decode cX7_copy 23 = .ok (.astore 6, 2) := by decide +kernel
theorem dX7_copy_25 : decode cX7_copy 25 = .ok (.aload_n 0, 1) := by decide +kernel
theorem dX7_copy_26 : decode cX7_copy 26 = .ok (.getfield 51, 3) := by decide +kernel
theorem dX7_copy_29 : decode cX7_copy 29 = .ok (.iload_n 3, 1) := by decide +kernel
theorem dX7_copy_30 : decode cX7_copy 30 = .ok (.aaload, 1) := by decide +kernel
theorem dX7_copy_31 : decode cX7_copy 31 = .ok (.astore 7, 2) := by decide +kernel
theorem dX7_copy_33 : decode cX7_copy 33 = .ok (.aload 6, 2) := by decide +kernel
theorem dX7_copy_35 : decode cX7_copy 35 = .ok (.invokevirtual 269, 3) := by decide +kernel
theorem dX7_copy_38 : decode cX7_copy 38 = .ok (.ifCond .ne 11, 3) := by decide +kernel
theorem dX7_copy_41 : decode cX7_copy 41 = .ok (.aload 7, 2) := by decide +kernel
theorem dX7_copy_43 : decode cX7_copy 43 = .ok (.invokevirtual 269, 3) := by decide +kernel
theorem dX7_copy_46 : decode cX7_copy 46 = .ok (.ifCond .eq 6, 3) := by decide +kernel
theorem dX7_copy_49 : decode cX7_copy 49 = .ok (.bipush (-11), 2) := by decide +kernel
theorem dX7_copy_51 : decode cX7_copy 51 = .ok (.ireturn, 1) := by decide +kernel
theorem dX7_copy_52 : decode cX7_copy 52 = .ok (.aload 6, 2) := by decide +kernel
theorem dX7_copy_54 : decode cX7_copy 54 = .ok (.getfield 277, 3) := by decide +kernel
theorem dX7_copy_57 : decode cX7_copy 57 = .ok (.aload 7, 2) := by decide +kernel
theorem dX7_copy_59 : decode cX7_copy 59 = .ok (.getfield 277, 3) := by decide +kernel
theorem dX7_copy_62 : decode cX7_copy 62 = .ok (.if_icmp .eq 6, 3) := by decide +kernel
theorem dX7_copy_65 : decode cX7_copy 65 = .ok (.bipush (-13), 2) := by decide +kernel
theorem dX7_copy_67 : decode cX7_copy 67 = .ok (.ireturn, 1) := by decide +kernel
theorem dX7_copy_68 : decode cX7_copy 68 = .ok (.iload 5, 2) := by decide +kernel
theorem dX7_copy_70 : decode cX7_copy 70 = .ok (.ifCond .lt 36, 3) := by decide +kernel
theorem dX7_copy_73 : decode cX7_copy 73 = .ok (.iload_n 2, 1) := by decide +kernel
theorem dX7_copy_74 : decode cX7_copy 74 = .ok (.iconst 0, 1) := by decide +kernel
theorem dX7_copy_75 : decode cX7_copy 75 = .ok (.aload 6, 2) := by decide +kernel
theorem dX7_copy_77 : decode cX7_copy 77 = .ok (.getfield 273, 3) := by decide +kernel
theorem dX7_copy_80 : decode cX7_copy 80 = .ok (.iload 5, 2) := by decide +kernel
theorem dX7_copy_82 : decode cX7_copy 82 = .ok (.isub, 1) := by decide +kernel
theorem dX7_copy_83 : decode cX7_copy 83 = .ok (.invokestatic 92, 3) := by decide +kernel
theorem dX7_copy_86 : decode cX7_copy 86 = .ok (.ifCond .eq 20, 3) := by decide +kernel
theorem dX7_copy_89 : decode cX7_copy 89 = .ok (.iload 4, 2) := by decide +kernel
theorem dX7_copy_91 : decode cX7_copy 91 = .ok (.iconst 0, 1) := by decide +kernel
theorem dX7_copy_92 : decode cX7_copy 92 = .ok (.aload 7, 2) := by decide +kernel
theorem dX7_copy_94 : decode cX7_copy 94 = .ok (.getfield 273, 3) := by decide +kernel
theorem dX7_copy_97 : decode cX7_copy 97 = .ok (.iload 5, 2) := by decide +kernel
theorem dX7_copy_99 : decode cX7_copy 99 = .ok (.isub, 1) := by decide +kernel
theorem dX7_copy_100 : decode cX7_copy 100 = .ok (.invokestatic 92, 3) := by decide +kernel
theorem dX7_copy_103 : decode cX7_copy 103 = .ok (.ifCond .ne 6, 3) := by decide +kernel
theorem dX7_copy_106 : decode cX7_copy 106 = .ok (.bipush (-12), 2) := by decide +kernel
theorem dX7_copy_108 : decode cX7_copy 108 = .ok (.ireturn, 1) := by decide +kernel
theorem dX7_copy_109 : decode cX7_copy 109 = .ok (.aload 6, 2) := by decide +kernel
theorem dX7_copy_111 : decode cX7_copy 111 = .ok (.getfield 252, 3) := by decide +kernel
theorem dX7_copy_114 : decode cX7_copy 114 = .ok (.iload_n 2, 1) := by decide +kernel
theorem dX7_copy_115 : decode cX7_copy 115 = .ok (.aload 7, 2) := by decide +kernel
theorem dX7_copy_117 : decode cX7_copy 117 = .ok (.getfield 252, 3) := by decide +kernel
theorem dX7_copy_120 : decode cX7_copy 120 = .ok (.iload 4, 2) := by decide +kernel
theorem dX7_copy_122 : decode cX7_copy 122 = .ok (.iload 5, 2) := by decide +kernel
theorem dX7_copy_124 : decode cX7_copy 124 = .ok (.invokestatic 280, 3) := by decide +kernel
theorem dX7_copy_127 : decode cX7_copy 127 = .ok (.iload 5, 2) := by decide +kernel
theorem dX7_copy_129 : decode cX7_copy 129 = .ok (.ireturn, 1) := by decide +kernel
set_option maxRecDepth 20000 in
theorem ggX7_treesBy_X7_isSheet : GoodIn wsX7_treesBy wsX7_isSheet := goodIn_r _ [5, 6, 7, 4, 8] (by decide +kernel) (by decide +kernel)
set_option maxRecDepth 20000 in
theorem gX7_treesBy_X7_isSheet : GoodIn wsX7_treesBy (va_wsS RX7 259 yX7_isSheet wsX7_isSheet) := goodIn_app (goodIn_of _ (by decide +kernel)) ggX7_treesBy_X7_isSheet
set_option maxRecDepth 20000 in
theorem ggX7_treesBy_X7_within : GoodIn wsX7_treesBy wsX7_within := goodIn_r _ [8] (by decide +kernel) (by decide +kernel)
set_option maxRecDepth 20000 in
theorem gX7_treesBy_X7_within : GoodIn wsX7_treesBy (va_wsS RX7 92 yX7_within wsX7_within) := goodIn_app (goodIn_of _ (by decide +kernel)) ggX7_treesBy_X7_within
set_option maxRecDepth 20000 in
theorem ggX7_treesBy_X6_isMissing : GoodIn wsX7_treesBy wsX6_isMissing := goodIn_r _ [13, 14, 35, 36, 37] (by decide +kernel) (by decide +kernel)
set_option maxRecDepth 20000 in
theorem gX7_treesBy_X6_isMissing : GoodIn wsX7_treesBy (wsV RX7 269 RX6 yX6_isMissing wsX6_isMissing) := goodIn_app (goodIn_of _ (by decide +kernel)) ggX7_treesBy_X6_isMissing
set_option maxRecDepth 20000 in
theorem ggX7_treesBy_X7_tree : GoodIn wsX7_treesBy wsX7_tree := goodIn_r _ [18, 19, 20, 21, 4, 22, 6, 7, 8, 23, 24, 25, 26, 27, 28, 29, 30, 31, 32, 33, 34, 38, 39, 40, 41, 42, 43, 44, 45, 46, 47, 48] (by decide +kernel) (by decide +kernel)
set_option maxRecDepth 20000 in
theorem gX7_treesBy_X7_tree : GoodIn wsX7_treesBy (wsV RX7 286 RX7 yX7_tree wsX7_tree) := goodIn_app (goodIn_of _ (by decide +kernel)) ggX7_treesBy_X7_tree
theorem dX7_treesBy_0 : decode cX7_treesBy 0 = .ok (.iload_n 1, 1) := by decide +kernel
theorem dX7_treesBy_1 : decode cX7_treesBy 1 = .ok (.invokestatic 259, 3) := by decide +kernel
theorem dX7_treesBy_4 : decode cX7_treesBy 4 = .ok (.ifCond .eq 22, 3) := by decide +kernel
theorem dX7_treesBy_7 : decode cX7_treesBy 7 = .ok (.iload_n 2, 1) := by decide +kernel
theorem dX7_treesBy_8 : decode cX7_treesBy 8 = .ok (.iconst 0, 1) := by decide +kernel
theorem dX7_treesBy_9 : decode cX7_treesBy 9 = .ok (.iconst 2, 1) := by decide +kernel
theorem dX7_treesBy_10 : decode cX7_treesBy 10 = .ok (.invokestatic 92, 3) := by decide +kernel
theorem dX7_treesBy_13 : decode cX7_treesBy 13 = .ok (.ifCond .eq 13, 3) := by decide +kernel
theorem dX7_treesBy_16 : decode cX7_treesBy 16 = .ok (.iload 4, 2) := by decide +kernel
theorem dX7_treesBy_18 : decode cX7_treesBy 18 = .ok (.iconst 0, 1) := by decide +kernel
theorem dX7_treesBy_19 : decode cX7_treesBy 19 = .ok (.iconst 4, 1) := by decide +kernel
theorem dX7_treesBy_20 : decode cX7_treesBy 20 = .ok (.invokestatic 92, 3) := by decide +kernel
theorem dX7_treesBy_23 : decode cX7_treesBy 23 = .ok (.ifCond .ne 6, 3) := by decide +kernel
theorem dX7_treesBy_26 : decode cX7_treesBy 26 = .ok (.bipush (-2), 2) := by decide +kernel
theorem dX7_treesBy_28 : decode cX7_treesBy 28 = .ok (.ireturn, 1) := by decide +kernel
theorem dX7_treesBy_29 : decode cX7_treesBy 29 = .ok (.aload_n 0, 1) := by decide +kernel
theorem dX7_treesBy_30 : decode cX7_treesBy 30 = .ok (.getfield 51, 3) := by decide +kernel
theorem dX7_treesBy_33 : decode cX7_treesBy 33 = .ok (.iload_n 1, 1) := by decide +kernel
theorem dX7_treesBy_34 : decode cX7_treesBy 34 = .ok (.aaload, 1) := by decide +kernel
theorem dX7_treesBy_35 : decode cX7_treesBy 35 = .ok (.astore 5, 2) := by decide +kernel
theorem dX7_treesBy_37 : decode cX7_treesBy 37 = .ok (.aload 5, 2) := by decide +kernel
theorem dX7_treesBy_39 : decode cX7_treesBy 39 = .ok (.invokevirtual 269, 3) := by decide +kernel
theorem dX7_treesBy_42 : decode cX7_treesBy 42 = .ok (.ifCond .eq 6, 3) := by decide +kernel
theorem dX7_treesBy_45 : decode cX7_treesBy 45 = .ok (.bipush (-11), 2) := by decide +kernel
theorem dX7_treesBy_47 : decode cX7_treesBy 47 = .ok (.ireturn, 1) := by decide +kernel
theorem dX7_treesBy_48 : decode cX7_treesBy 48 = .ok (.aload 5, 2) := by decide +kernel
theorem dX7_treesBy_50 : decode cX7_treesBy 50 = .ok (.getfield 277, 3) := by decide +kernel
theorem dX7_treesBy_53 : decode cX7_treesBy 53 = .ok (.iload_n 2, 1) := by decide +kernel
theorem dX7_treesBy_54 : decode cX7_treesBy 54 = .ok (.if_icmp .eq 6, 3) := by decide +kernel
theorem dX7_treesBy_57 : decode cX7_treesBy 57 = .ok (.bipush (-13), 2) := by decide +kernel
theorem dX7_treesBy_59 : decode cX7_treesBy 59 = .ok (.ireturn, 1) := by decide +kernel
theorem dX7_treesBy_60 : decode cX7_treesBy 60 = .ok (.iconst 0, 1) := by decide +kernel
theorem dX7_treesBy_61 : decode cX7_treesBy 61 = .ok (.istore 6, 2) := by decide +kernel
theorem dX7_treesBy_63 : decode cX7_treesBy 63 = .ok (.iconst 0, 1) := by decide +kernel
theorem dX7_treesBy_64 : decode cX7_treesBy 64 = .ok (.istore 7, 2) := by decide +kernel
theorem dX7_treesBy_66 : decode cX7_treesBy 66 = .ok (.iload 7, 2) := by decide +kernel
theorem dX7_treesBy_68 : decode cX7_treesBy 68 = .ok (.iload 4, 2) := by decide +kernel
theorem dX7_treesBy_70 : decode cX7_treesBy 70 = .ok (.if_icmp .ge 78, 3) := by decide +kernel
theorem dX7_treesBy_73 : decode cX7_treesBy 73 = .ok (.iload_n 3, 1) := by decide +kernel
theorem dX7_treesBy_74 : decode cX7_treesBy 74 = .ok (.iconst 0, 1) := by decide +kernel
theorem dX7_treesBy_75 : decode cX7_treesBy 75 = .ok (.aload 5, 2) := by decide +kernel
theorem dX7_treesBy_77 : decode cX7_treesBy 77 = .ok (.getfield 273, 3) := by decide +kernel
theorem dX7_treesBy_80 : decode cX7_treesBy 80 = .ok (.iconst 3, 1) := by decide +kernel
theorem dX7_treesBy_81 : decode cX7_treesBy 81 = .ok (.iload 7, 2) := by decide +kernel
theorem dX7_treesBy_83 : decode cX7_treesBy 83 = .ok (.imul, 1) := by decide +kernel
theorem dX7_treesBy_84 : decode cX7_treesBy 84 = .ok (.isub, 1) := by decide +kernel
theorem dX7_treesBy_85 : decode cX7_treesBy 85 = .ok (.iconst 3, 1) := by decide +kernel
theorem dX7_treesBy_86 : decode cX7_treesBy 86 = .ok (.isub, 1) := by decide +kernel
theorem dX7_treesBy_87 : decode cX7_treesBy 87 = .ok (.invokestatic 92, 3) := by decide +kernel
theorem dX7_treesBy_90 : decode cX7_treesBy 90 = .ok (.ifCond .ne 6, 3) := by decide +kernel
theorem dX7_treesBy_93 : decode cX7_treesBy 93 = .ok (.bipush (-12), 2) := by decide +kernel
theorem dX7_treesBy_95 : decode cX7_treesBy 95 = .ok (.ireturn, 1) := by decide +kernel
theorem dX7_treesBy_96 : decode cX7_treesBy 96 = .ok (.iload_n 3, 1) := by decide +kernel
theorem dX7_treesBy_97 : decode cX7_treesBy 97 = .ok (.iconst 3, 1) := by decide +kernel
theorem dX7_treesBy_98 : decode cX7_treesBy 98 = .ok (.iload 7, 2) := by decide +kernel
theorem dX7_treesBy_100 : decode cX7_treesBy 100 = .ok (.imul, 1) := by decide +kernel
theorem dX7_treesBy_101 : decode cX7_treesBy 101 = .ok (.iadd, 1) := by decide +kernel
theorem dX7_treesBy_102 : decode cX7_treesBy 102 = .ok (.istore 8, 2) := by decide +kernel
theorem dX7_treesBy_104 : decode cX7_treesBy 104 = .ok (.aload_n 0, 1) := by decide +kernel
theorem dX7_treesBy_105 : decode cX7_treesBy 105 = .ok (.aload 5, 2) := by decide +kernel
theorem dX7_treesBy_107 : decode cX7_treesBy 107 = .ok (.getfield 252, 3) := by decide +kernel
theorem dX7_treesBy_110 : decode cX7_treesBy 110 = .ok (.iload 8, 2) := by decide +kernel
theorem dX7_treesBy_112 : decode cX7_treesBy 112 = .ok (.iaload, 1) := by decide +kernel
theorem dX7_treesBy_113 : decode cX7_treesBy 113 = .ok (.aload 5, 2) := by decide +kernel
theorem dX7_treesBy_115 : decode cX7_treesBy 115 = .ok (.getfield 252, 3) := by decide +kernel
theorem dX7_treesBy_118 : decode cX7_treesBy 118 = .ok (.iload 8, 2) := by decide +kernel
theorem dX7_treesBy_120 : decode cX7_treesBy 120 = .ok (.iconst 1, 1) := by decide +kernel
theorem dX7_treesBy_121 : decode cX7_treesBy 121 = .ok (.iadd, 1) := by decide +kernel
theorem dX7_treesBy_122 : decode cX7_treesBy 122 = .ok (.iaload, 1) := by decide +kernel
theorem dX7_treesBy_123 : decode cX7_treesBy 123 = .ok (.aload 5, 2) := by decide +kernel
theorem dX7_treesBy_125 : decode cX7_treesBy 125 = .ok (.getfield 252, 3) := by decide +kernel
theorem dX7_treesBy_128 : decode cX7_treesBy 128 = .ok (.iload 8, 2) := by decide +kernel
theorem dX7_treesBy_130 : decode cX7_treesBy 130 = .ok (.iconst 2, 1) := by decide +kernel
theorem dX7_treesBy_131 : decode cX7_treesBy 131 = .ok (.iadd, 1) := by decide +kernel
theorem dX7_treesBy_132 : decode cX7_treesBy 132 = .ok (.iaload, 1) := by decide +kernel
theorem dX7_treesBy_133 : decode cX7_treesBy 133 = .ok (.invokevirtual 286, 3) := by decide +kernel
theorem dX7_treesBy_136 : decode cX7_treesBy 136 = .ok (.ifCond .lt 6, 3) := by decide +kernel
theorem dX7_treesBy_139 : decode cX7_treesBy 139 = .ok (.iinc 6 1, 3) := by decide +kernel
theorem dX7_treesBy_142 : decode cX7_treesBy 142 = .ok (.iinc 7 1, 3) := by decide +kernel
theorem dX7_treesBy_145 : decode cX7_treesBy 145 = .ok (.goto (-79), 3) := by decide +kernel
theorem dX7_treesBy_148 : decode cX7_treesBy 148 = .ok (.iload 6, 2) := by decide +kernel
theorem dX7_treesBy_150 : decode cX7_treesBy 150 = .ok (.ireturn, 1) := by decide +kernel
set_option maxRecDepth 20000 in
theorem ggX7_taken_X7_within : GoodIn wsX7_taken wsX7_within := goodIn_r _ [5] (by decide +kernel) (by decide +kernel)
set_option maxRecDepth 20000 in
theorem gX7_taken_X7_within : GoodIn wsX7_taken (va_wsS RX7 92 yX7_within wsX7_within) := goodIn_app (goodIn_of _ (by decide +kernel)) ggX7_taken_X7_within
set_option maxRecDepth 20000 in
theorem ggX7_taken_X2_isOne : GoodIn wsX7_taken wsX2_isOne := goodIn_r _ [9] (by decide +kernel) (by decide +kernel)
set_option maxRecDepth 20000 in
theorem gX7_taken_X2_isOne : GoodIn wsX7_taken (va_wsS RX7 289 yX2_isOne wsX2_isOne) := goodIn_app (goodIn_of _ (by decide +kernel)) ggX7_taken_X2_isOne
set_option maxRecDepth 20000 in
theorem ggX7_taken_X7_isTree : GoodIn wsX7_taken wsX7_isTree := goodIn_r _ [13, 1, 2, 3, 4, 5, 14, 15, 16, 17, 18, 19, 20, 21, 22, 23, 24, 25, 26, 27, 28, 29, 30, 31, 32, 33, 34, 35, 36] (by decide +kernel) (by decide +kernel)
set_option maxRecDepth 20000 in
theorem gX7_taken_X7_isTree : GoodIn wsX7_taken (wsV RX7 158 RX7 yX7_isTree wsX7_isTree) := goodIn_app (goodIn_of _ (by decide +kernel)) ggX7_taken_X7_isTree
theorem dX7_taken_0 : decode cX7_taken 0 = .ok (.iload_n 2, 1) := by decide +kernel
theorem dX7_taken_1 : decode cX7_taken 1 = .ok (.iconst 0, 1) := by decide +kernel
theorem dX7_taken_2 : decode cX7_taken 2 = .ok (.bipush 6, 2) := by decide +kernel
theorem dX7_taken_4 : decode cX7_taken 4 = .ok (.invokestatic 92, 3) := by decide +kernel
theorem dX7_taken_7 : decode cX7_taken 7 = .ok (.ifCond .ne 6, 3) := by decide +kernel
theorem dX7_taken_10 : decode cX7_taken 10 = .ok (.bipush (-2), 2) := by decide +kernel
theorem dX7_taken_12 : decode cX7_taken 12 = .ok (.ireturn, 1) := by decide +kernel
theorem dX7_taken_13 : decode cX7_taken 13 = .ok (.iload_n 1, 1) := by decide +kernel
theorem dX7_taken_14 : decode cX7_taken 14 = .ok (.iconst 0, 1) := by decide +kernel
theorem dX7_taken_15 : decode cX7_taken 15 = .ok (.bipush 39, 2) := by decide +kernel
theorem dX7_taken_17 : decode cX7_taken 17 = .ok (.invokestatic 92, 3) := by decide +kernel
theorem dX7_taken_20 : decode cX7_taken 20 = .ok (.ifCond .ne 6, 3) := by decide +kernel
theorem dX7_taken_23 : decode cX7_taken 23 = .ok (.bipush (-12), 2) := by decide +kernel
theorem dX7_taken_25 : decode cX7_taken 25 = .ok (.ireturn, 1) := by decide +kernel
theorem dX7_taken_26 : decode cX7_taken 26 = .ok (.iload_n 1, 1) := by decide +kernel
theorem dX7_taken_27 : decode cX7_taken 27 = .ok (.bipush 36, 2) := by decide +kernel
theorem dX7_taken_29 : decode cX7_taken 29 = .ok (.if_icmp .ge 32, 3) := by decide +kernel
theorem dX7_taken_32 : decode cX7_taken 32 = .ok (.iload_n 2, 1) := by decide +kernel
theorem dX7_taken_33 : decode cX7_taken 33 = .ok (.bipush 6, 2) := by decide +kernel
theorem dX7_taken_35 : decode cX7_taken 35 = .ok (.if_icmp .eq 23, 3) := by decide +kernel
theorem dX7_taken_38 : decode cX7_taken 38 = .ok (.aload_n 0, 1) := by decide +kernel
theorem dX7_taken_39 : decode cX7_taken 39 = .ok (.getfield 10, 3) := by decide +kernel
theorem dX7_taken_42 : decode cX7_taken 42 = .ok (.getfield 130, 3) := by decide +kernel
theorem dX7_taken_45 : decode cX7_taken 45 = .ok (.iload_n 1, 1) := by decide +kernel
theorem dX7_taken_46 : decode cX7_taken 46 = .ok (.iaload, 1) := by decide +kernel
theorem dX7_taken_47 : decode cX7_taken 47 = .ok (.iload_n 2, 1) := by decide +kernel
theorem dX7_taken_48 : decode cX7_taken 48 = .ok (.invokestatic 289, 3) := by decide +kernel
theorem dX7_taken_51 : decode cX7_taken 51 = .ok (.ifCond .eq 7, 3) := by decide +kernel
theorem dX7_taken_54 : decode cX7_taken 54 = .ok (.iload_n 1, 1) := by decide +kernel
theorem dX7_taken_55 : decode cX7_taken 55 = .ok (.goto 5, 3) := by decide +kernel
theorem dX7_taken_58 : decode cX7_taken 58 = .ok (.bipush (-13), 2) := by decide +kernel
theorem dX7_taken_60 : decode cX7_taken 60 = .ok (.ireturn, 1) := by decide +kernel
theorem dX7_taken_61 : decode cX7_taken 61 = .ok (.aload_n 0, 1) := by decide +kernel
theorem dX7_taken_62 : decode cX7_taken 62 = .ok (.iload_n 1, 1) := by decide +kernel
theorem dX7_taken_63 : decode cX7_taken 63 = .ok (.bipush 36, 2) := by decide +kernel
theorem dX7_taken_65 : decode cX7_taken 65 = .ok (.isub, 1) := by decide +kernel
theorem dX7_taken_66 : decode cX7_taken 66 = .ok (.invokevirtual 158, 3) := by decide +kernel
theorem dX7_taken_69 : decode cX7_taken 69 = .ok (.ifCond .ne 6, 3) := by decide +kernel
theorem dX7_taken_72 : decode cX7_taken 72 = .ok (.bipush (-11), 2) := by decide +kernel
theorem dX7_taken_74 : decode cX7_taken 74 = .ok (.ireturn, 1) := by decide +kernel
theorem dX7_taken_75 : decode cX7_taken 75 = .ok (.iload_n 2, 1) := by decide +kernel
theorem dX7_taken_76 : decode cX7_taken 76 = .ok (.bipush 6, 2) := by decide +kernel
theorem dX7_taken_78 : decode cX7_taken 78 = .ok (.if_icmp .ne 18, 3) := by decide +kernel
theorem dX7_taken_81 : decode cX7_taken 81 = .ok (.aload_n 0, 1) := by decide +kernel
theorem dX7_taken_82 : decode cX7_taken 82 = .ok (.getfield 10, 3) := by decide +kernel
theorem dX7_taken_85 : decode cX7_taken 85 = .ok (.getfield 155, 3) := by decide +kernel
theorem dX7_taken_88 : decode cX7_taken 88 = .ok (.iload_n 1, 1) := by decide +kernel
theorem dX7_taken_89 : decode cX7_taken 89 = .ok (.bipush 36, 2) := by decide +kernel
theorem dX7_taken_91 : decode cX7_taken 91 = .ok (.isub, 1) := by decide +kernel
theorem dX7_taken_92 : decode cX7_taken 92 = .ok (.iaload, 1) := by decide +kernel
theorem dX7_taken_93 : decode cX7_taken 93 = .ok (.goto 5, 3) := by decide +kernel
theorem dX7_taken_96 : decode cX7_taken 96 = .ok (.bipush (-13), 2) := by decide +kernel
theorem dX7_taken_98 : decode cX7_taken 98 = .ok (.ireturn, 1) := by decide +kernel
theorem dX7_within_0 : decode cX7_within 0 = .ok (.iload_n 0, 1) := by decide +kernel
theorem dX7_within_1 : decode cX7_within 1 = .ok (.iload_n 1, 1) := by decide +kernel
theorem dX7_within_2 : decode cX7_within 2 = .ok (.if_icmp .lt 12, 3) := by decide +kernel
theorem dX7_within_5 : decode cX7_within 5 = .ok (.iload_n 0, 1) := by decide +kernel
theorem dX7_within_6 : decode cX7_within 6 = .ok (.iload_n 2, 1) := by decide +kernel
theorem dX7_within_7 : decode cX7_within 7 = .ok (.if_icmp .gt 7, 3) := by decide +kernel
theorem dX7_within_10 : decode cX7_within 10 = .ok (.iconst 1, 1) := by decide +kernel
theorem dX7_within_11 : decode cX7_within 11 = .ok (.goto 4, 3) := by decide +kernel
theorem dX7_within_14 : decode cX7_within 14 = .ok (.iconst 0, 1) := by decide +kernel
theorem dX7_within_15 : decode cX7_within 15 = .ok (.ireturn, 1) := by decide +kernel
set_option maxRecDepth 20000 in
theorem ggX7_isDay_X7_within : GoodIn wsX7_isDay wsX7_within := goodIn_r _ [4] (by decide +kernel) (by decide +kernel)
set_option maxRecDepth 20000 in
theorem gX7_isDay_X7_within : GoodIn wsX7_isDay (va_wsS RX7 92 yX7_within wsX7_within) := goodIn_app (goodIn_of _ (by decide +kernel)) ggX7_isDay_X7_within
theorem dX7_isDay_0 : decode cX7_isDay 0 = .ok (.iload_n 0, 1) := by decide +kernel
theorem dX7_isDay_1 : decode cX7_isDay 1 = .ok (.iconst 0, 1) := by decide +kernel
theorem dX7_isDay_2 : decode cX7_isDay 2 = .ok (.bipush 13, 2) := by decide +kernel
theorem dX7_isDay_4 : decode cX7_isDay 4 = .ok (.invokestatic 92, 3) := by decide +kernel
theorem dX7_isDay_7 : decode cX7_isDay 7 = .ok (.ireturn, 1) := by decide +kernel
set_option maxRecDepth 20000 in
theorem ggX7_isSpan_X7_within : GoodIn wsX7_isSpan wsX7_within := goodIn_r _ [4] (by decide +kernel) (by decide +kernel)
set_option maxRecDepth 20000 in
theorem gX7_isSpan_X7_within : GoodIn wsX7_isSpan (va_wsS RX7 92 yX7_within wsX7_within) := goodIn_app (goodIn_of _ (by decide +kernel)) ggX7_isSpan_X7_within
theorem dX7_isSpan_0 : decode cX7_isSpan 0 = .ok (.iload_n 0, 1) := by decide +kernel
theorem dX7_isSpan_1 : decode cX7_isSpan 1 = .ok (.iconst 0, 1) := by decide +kernel
theorem dX7_isSpan_2 : decode cX7_isSpan 2 = .ok (.bipush 14, 2) := by decide +kernel
theorem dX7_isSpan_4 : decode cX7_isSpan 4 = .ok (.invokestatic 92, 3) := by decide +kernel
theorem dX7_isSpan_7 : decode cX7_isSpan 7 = .ok (.ireturn, 1) := by decide +kernel
set_option maxRecDepth 20000 in
theorem ggX7_isCell_X7_within : GoodIn wsX7_isCell wsX7_within := goodIn_r _ [4] (by decide +kernel) (by decide +kernel)
set_option maxRecDepth 20000 in
theorem gX7_isCell_X7_within : GoodIn wsX7_isCell (va_wsS RX7 92 yX7_within wsX7_within) := goodIn_app (goodIn_of _ (by decide +kernel)) ggX7_isCell_X7_within
theorem dX7_isCell_0 : decode cX7_isCell 0 = .ok (.iload_n 0, 1) := by decide +kernel
theorem dX7_isCell_1 : decode cX7_isCell 1 = .ok (.iconst 0, 1) := by decide +kernel
theorem dX7_isCell_2 : decode cX7_isCell 2 = .ok (.bipush 35, 2) := by decide +kernel
theorem dX7_isCell_4 : decode cX7_isCell 4 = .ok (.invokestatic 92, 3) := by decide +kernel
theorem dX7_isCell_7 : decode cX7_isCell 7 = .ok (.ireturn, 1) := by decide +kernel
set_option maxRecDepth 20000 in
theorem ggX7_isChoice_X7_within : GoodIn wsX7_isChoice wsX7_within := goodIn_r _ [4] (by decide +kernel) (by decide +kernel)
set_option maxRecDepth 20000 in
theorem gX7_isChoice_X7_within : GoodIn wsX7_isChoice (va_wsS RX7 92 yX7_within wsX7_within) := goodIn_app (goodIn_of _ (by decide +kernel)) ggX7_isChoice_X7_within
theorem dX7_isChoice_0 : decode cX7_isChoice 0 = .ok (.iload_n 0, 1) := by decide +kernel
theorem dX7_isChoice_1 : decode cX7_isChoice 1 = .ok (.iconst 0, 1) := by decide +kernel
