theorem dX7_sheet_49 : decode cX7_sheet 49 = .ok (.aload_n 0, 1) := by decide +kernel
theorem dX7_sheet_50 : decode cX7_sheet 50 = .ok (.getfield 51, 3) := by decide +kernel
theorem dX7_sheet_53 : decode cX7_sheet 53 = .ok (.iload_n 1, 1) := by decide +kernel
theorem dX7_sheet_54 : decode cX7_sheet 54 = .ok (.aaload, 1) := by decide +kernel
theorem dX7_sheet_55 : decode cX7_sheet 55 = .ok (.iload_n 2, 1) := by decide +kernel
theorem dX7_sheet_56 : decode cX7_sheet 56 = .ok (.iload 4, 2) := by decide +kernel
theorem dX7_sheet_58 : decode cX7_sheet 58 = .ok (.invokevirtual 262, 3) := by decide +kernel
theorem dX7_sheet_61 : decode cX7_sheet 61 = .ok (.iconst 1, 1) := by decide +kernel
theorem dX7_sheet_62 : decode cX7_sheet 62 = .ok (.ireturn, 1) := by decide +kernel
theorem dX7_cell_0 : decode cX7_cell 0 = .ok (.iload_n 1, 1) := by decide +kernel
theorem dX7_cell_1 : decode cX7_cell 1 = .ok (.invokestatic 259, 3) := by decide +kernel
theorem dX7_cell_4 : decode cX7_cell 4 = .ok (.ifCond .ne 6, 3) := by decide +kernel
theorem dX7_cell_7 : decode cX7_cell 7 = .ok (.bipush (-2), 2) := by decide +kernel
theorem dX7_cell_9 : decode cX7_cell 9 = .ok (.ireturn, 1) := by decide +kernel
theorem dX7_cell_10 : decode cX7_cell 10 = .ok (.aload_n 0, 1) := by decide +kernel
theorem dX7_cell_11 : decode cX7_cell 11 = .ok (.getfield 51, 3) := by decide +kernel
theorem dX7_cell_14 : decode cX7_cell 14 = .ok (.iload_n 1, 1) := by decide +kernel
theorem dX7_cell_15 : decode cX7_cell 15 = .ok (.aaload, 1) := by decide +kernel
theorem dX7_cell_16 : decode cX7_cell 16 = .ok (.astore 4, 2) := by decide +kernel
theorem dX7_cell_18 : decode cX7_cell 18 = .ok (.aload 4, 2) := by decide +kernel
theorem dX7_cell_20 : decode cX7_cell 20 = .ok (.invokevirtual 269, 3) := by decide +kernel
theorem dX7_cell_23 : decode cX7_cell 23 = .ok (.ifCond .eq 6, 3) := by decide +kernel
theorem dX7_cell_26 : decode cX7_cell 26 = .ok (.bipush (-11), 2) := by decide +kernel
theorem dX7_cell_28 : decode cX7_cell 28 = .ok (.ireturn, 1) := by decide +kernel
theorem dX7_cell_29 : decode cX7_cell 29 = .ok (.iload_n 2, 1) := by decide +kernel
theorem dX7_cell_30 : decode cX7_cell 30 = .ok (.iconst 0, 1) := by decide +kernel
theorem dX7_cell_31 : decode cX7_cell 31 = .ok (.aload 4, 2) := by decide +kernel
theorem dX7_cell_33 : decode cX7_cell 33 = .ok (.getfield 273, 3) := by decide +kernel
theorem dX7_cell_36 : decode cX7_cell 36 = .ok (.iconst 1, 1) := by decide +kernel
theorem dX7_cell_37 : decode cX7_cell 37 = .ok (.isub, 1) := by decide +kernel
theorem dX7_cell_38 : decode cX7_cell 38 = .ok (.invokestatic 92, 3) := by decide +kernel
theorem dX7_cell_41 : decode cX7_cell 41 = .ok (.ifCond .ne 6, 3) := by decide +kernel
theorem dX7_cell_44 : decode cX7_cell 44 = .ok (.bipush (-12), 2) := by decide +kernel
theorem dX7_cell_46 : decode cX7_cell 46 = .ok (.ireturn, 1) := by decide +kernel
theorem dX7_cell_47 : decode cX7_cell 47 = .ok (.aload 4, 2) := by decide +kernel
theorem dX7_cell_49 : decode cX7_cell 49 = .ok (.iload_n 2, 1) := by decide +kernel
theorem dX7_cell_50 : decode cX7_cell 50 = .ok (.iload_n 3, 1) := by decide +kernel
theorem dX7_cell_51 : decode cX7_cell 51 = .ok (.invokevirtual 274, 3) := by decide +kernel
theorem dX7_cell_54 : decode cX7_cell 54 = .ok (.iconst 1, 1) := by decide +kernel
theorem dX7_cell_55 : decode cX7_cell 55 = .ok (.ireturn, 1) := by decide +kernel
theorem dX7_copy_0 : decode cX7_copy 0 = .ok (.iload_n 1, 1) := by decide +kernel
theorem dX7_copy_1 : decode cX7_copy 1 = .ok (.invokestatic 259, 3) := by decide +kernel
theorem dX7_copy_4 : decode cX7_copy 4 = .ok (.ifCond .eq 10, 3) := by decide +kernel
theorem dX7_copy_7 : decode cX7_copy 7 = .ok (.iload_n 3, 1) := by decide +kernel
theorem dX7_copy_8 : decode cX7_copy 8 = .ok (.invokestatic 259, 3) := by decide +kernel
theorem dX7_copy_11 : decode cX7_copy 11 = .ok (.ifCond .ne 6, 3) := by decide +kernel
theorem dX7_copy_14 : decode cX7_copy 14 = .ok (.bipush (-2), 2) := by decide +kernel
theorem dX7_copy_16 : decode cX7_copy 16 = .ok (.ireturn, 1) := by decide +kernel
theorem dX7_copy_17 : decode cX7_copy 17 = .ok (.aload_n 0, 1) := by decide +kernel
theorem dX7_copy_18 : decode cX7_copy 18 = .ok (.getfield 51, 3) := by decide +kernel
theorem dX7_copy_21 : decode cX7_copy 21 = .ok (.iload_n 1, 1) := by decide +kernel
theorem dX7_copy_22 : decode cX7_copy 22 = .ok (.aaload, 1) := by decide +kernel
theorem dX7_copy_23 : decode cX7_copy 23 = .ok (.astore 6, 2) := by decide +kernel
theorem dX7_copy_25 : decode cX7_copy 25 = .ok (.aload_n 0, 1) := by decide +kernel
theorem dX7_copy_26 : decode cX7_copy 26 = .ok (.getfield 51, 3) := by decide +kernel
theorem dX7_copy_29 : decode cX7_copy 29 = .ok (.iload_n 3, 1) := by decide +kernel
theorem dX7_copy_30 : decode cX7_copy 30 = .ok (.aaload, 1) := by decide +kernel
theorem dX7_copy_31 : decode cX7_copy 31 = .ok (.astore 7, 2) := by decide +kernel
theorem dX7_copy_33 : decode cX7_copy 33 = .ok (.aload 6, 2) := by decide +kernel
theorem dX7_copy_35 : decode cX7_copy 35 = .ok (.invokevirtual 269, 3) := by decide +kernel
theorem dX7_copy_38 : decode cX7_copy 38 = .ok (.ifCond .ne 11, 3) := by decide +kernel
theorem dX7_copy_41 : decode cX7_copy 41 = .ok (.aload 7, 2) := by decide +kernel
theorem dX7_copy_43 : decode cX7_copy 43 = .ok (.invokevirtual 269, 3) := by decide +kernel
theorem dX7_copy_46 : decode cX7_copy 46 = .ok (.ifCond .eq 6, 3) := by decide +kernel
theorem dX7_copy_49 : decode cX7_copy 49 = .ok (.bipush (-11), 2) := by decide +kernel
theorem dX7_copy_51 : decode cX7_copy 51 = .ok (.ireturn, 1) := by decide +kernel
theorem dX7_copy_52 : decode cX7_copy 52 = .ok (.aload 6, 2) := by decide +kernel
theorem dX7_copy_54 : decode cX7_copy 54 = .ok (.getfield 277, 3) := by decide +kernel
theorem dX7_copy_57 : decode cX7_copy 57 = .ok (.aload 7, 2) := by decide +kernel
theorem dX7_copy_59 : decode cX7_copy 59 = .ok (.getfield 277, 3) := by decide +kernel
theorem dX7_copy_62 : decode cX7_copy 62 = .ok (.if_icmp .eq 6, 3) := by decide +kernel
theorem dX7_copy_65 : decode cX7_copy 65 = .ok (.bipush (-13), 2) := by decide +kernel
theorem dX7_copy_67 : decode cX7_copy 67 = .ok (.ireturn, 1) := by decide +kernel
theorem dX7_copy_68 : decode cX7_copy 68 = .ok (.iload 5, 2) := by decide +kernel
theorem dX7_copy_70 : decode cX7_copy 70 = .ok (.ifCond .lt 36, 3) := by decide +kernel
theorem dX7_copy_73 : decode cX7_copy 73 = .ok (.iload_n 2, 1) := by decide +kernel
theorem dX7_copy_74 : decode cX7_copy 74 = .ok (.iconst 0, 1) := by decide +kernel
theorem dX7_copy_75 : decode cX7_copy 75 = .ok (.aload 6, 2) := by decide +kernel
theorem dX7_copy_77 : decode cX7_copy 77 = .ok (.getfield 273, 3) := by decide +kernel
theorem dX7_copy_80 : decode cX7_copy 80 = .ok (.iload 5, 2) := by decide +kernel
theorem dX7_copy_82 : decode cX7_copy 82 = .ok (.isub, 1) := by decide +kernel
theorem dX7_copy_83 : decode cX7_copy 83 = .ok (.invokestatic 92, 3) := by decide +kernel
theorem dX7_copy_86 : decode cX7_copy 86 = .ok (.ifCond .eq 20, 3) := by decide +kernel
theorem dX7_copy_89 : decode cX7_copy 89 = .ok (.iload 4, 2) := by decide +kernel
theorem dX7_copy_91 : decode cX7_copy 91 = .ok (.iconst 0, 1) := by decide +kernel
theorem dX7_copy_92 : decode cX7_copy 92 = .ok (.aload 7, 2) := by decide +kernel
theorem dX7_copy_94 : decode cX7_copy 94 = .ok (.getfield 273, 3) := by decide +kernel
theorem dX7_copy_97 : decode cX7_copy 97 = .ok (.iload 5, 2) := by decide +kernel
theorem dX7_copy_99 : decode cX7_copy 99 = .ok (.isub, 1) := by decide +kernel
theorem dX7_copy_100 : decode cX7_copy 100 = .ok (.invokestatic 92, 3) := by decide +kernel
theorem dX7_copy_103 : decode cX7_copy 103 = .ok (.ifCond .ne 6, 3) := by decide +kernel
theorem dX7_copy_106 : decode cX7_copy 106 = .ok (.bipush (-12), 2) := by decide +kernel
theorem dX7_copy_108 : decode cX7_copy 108 = .ok (.ireturn, 1) := by decide +kernel
theorem dX7_copy_109 : decode cX7_copy 109 = .ok (.aload 6, 2) := by decide +kernel
theorem dX7_copy_111 : decode cX7_copy 111 = .ok (.getfield 252, 3) := by decide +kernel
theorem dX7_copy_114 : decode cX7_copy 114 = .ok (.iload_n 2, 1) := by decide +kernel
theorem dX7_copy_115 : decode cX7_copy 115 = .ok (.aload 7, 2) := by decide +kernel
theorem dX7_copy_117 : decode cX7_copy 117 = .ok (.getfield 252, 3) := by decide +kernel
theorem dX7_copy_120 : decode cX7_copy 120 = .ok (.iload 4, 2) := by decide +kernel
theorem dX7_copy_122 : decode cX7_copy 122 = .ok (.iload 5, 2) := by decide +kernel
theorem dX7_copy_124 : decode cX7_copy 124 = .ok (.invokestatic 280, 3) := by decide +kernel
theorem dX7_copy_127 : decode cX7_copy 127 = .ok (.iload 5, 2) := by decide +kernel
theorem dX7_copy_129 : decode cX7_copy 129 = .ok (.ireturn, 1) := by decide +kernel
theorem dX7_treesBy_0 : decode cX7_treesBy 0 = .ok (.iload_n 1, 1) := by decide +kernel
theorem dX7_treesBy_1 : decode cX7_treesBy 1 = .ok (.invokestatic 259, 3) := by decide +kernel
theorem dX7_treesBy_4 : decode cX7_treesBy 4 = .ok (.ifCond .eq 22, 3) := by decide +kernel
theorem dX7_treesBy_7 : decode cX7_treesBy 7 = .ok (.iload_n 2, 1) := by decide +kernel
theorem dX7_treesBy_8 : decode cX7_treesBy 8 = .ok (.iconst 0, 1) := by decide +kernel
theorem dX7_treesBy_9 : decode cX7_treesBy 9 = .ok (.iconst 2, 1) := by decide +kernel
theorem dX7_treesBy_10 : decode cX7_treesBy 10 = .ok (.invokestatic 92, 3) := by decide +kernel
theorem dX7_treesBy_13 : decode cX7_treesBy 13 = .ok (.ifCond .eq 13, 3) := by decide +kernel
theorem dX7_treesBy_16 : decode cX7_treesBy 16 = .ok (.iload 4, 2) := by decide +kernel
theorem dX7_treesBy_18 : decode cX7_treesBy 18 = .ok (.iconst 0, 1) := by decide +kernel
theorem dX7_treesBy_19 : decode cX7_treesBy 19 = .ok (.iconst 4, 1) := by decide +kernel
theorem dX7_treesBy_20 : decode cX7_treesBy 20 = .ok (.invokestatic 92, 3) := by decide +kernel
theorem dX7_treesBy_23 : decode cX7_treesBy 23 = .ok (.ifCond .ne 6, 3) := by decide +kernel
theorem dX7_treesBy_26 : decode cX7_treesBy 26 = .ok (.bipush (-2), 2) := by decide +kernel
theorem dX7_treesBy_28 : decode cX7_treesBy 28 = .ok (.ireturn, 1) := by decide +kernel
theorem dX7_treesBy_29 : decode cX7_treesBy 29 = .ok (.aload_n 0, 1) := by decide +kernel
theorem dX7_treesBy_30 : decode cX7_treesBy 30 = .ok (.getfield 51, 3) := by decide +kernel
theorem dX7_treesBy_33 : decode cX7_treesBy 33 = .ok (.iload_n 1, 1) := by decide +kernel
theorem dX7_treesBy_34 : decode cX7_treesBy 34 = .ok (.aaload, 1) := by decide +kernel
theorem dX7_treesBy_35 : decode cX7_treesBy 35 = .ok (.astore 5, 2) := by decide +kernel
theorem dX7_treesBy_37 : decode cX7_treesBy 37 = .ok (.aload 5, 2) := by decide +kernel
theorem dX7_treesBy_39 : decode cX7_treesBy 39 = .ok (.invokevirtual 269, 3) := by decide +kernel
theorem dX7_treesBy_42 : decode cX7_treesBy 42 = .ok (.ifCond .eq 6, 3) := by decide +kernel
theorem dX7_treesBy_45 : decode cX7_treesBy 45 = .ok (.bipush (-11), 2) := by decide +kernel
theorem dX7_treesBy_47 : decode cX7_treesBy 47 = .ok (.ireturn, 1) := by decide +kernel
theorem dX7_treesBy_48 : decode cX7_treesBy 48 = .ok (.aload 5, 2) := by decide +kernel
theorem dX7_treesBy_50 : decode cX7_treesBy 50 = .ok (.getfield 277, 3) := by decide +kernel
theorem dX7_treesBy_53 : decode cX7_treesBy 53 = .ok (.iload_n 2, 1) := by decide +kernel
theorem dX7_treesBy_54 : decode cX7_treesBy 54 = .ok (.if_icmp .eq 6, 3) := by decide +kernel
theorem dX7_treesBy_57 : decode cX7_treesBy 57 = .ok (.bipush (-13), 2) := by decide +kernel
theorem dX7_treesBy_59 : decode cX7_treesBy 59 = .ok (.ireturn, 1) := by decide +kernel
theorem dX7_treesBy_60 : decode cX7_treesBy 60 = .ok (.iconst 0, 1) := by decide +kernel
theorem dX7_treesBy_61 : decode cX7_treesBy 61 = .ok (.istore 6, 2) := by decide +kernel
theorem dX7_treesBy_63 : decode cX7_treesBy 63 = .ok (.iconst 0, 1) := by decide +kernel
theorem dX7_treesBy_64 : decode cX7_treesBy 64 = .ok (.istore 7, 2) := by decide +kernel
theorem dX7_treesBy_66 : decode cX7_treesBy 66 = .ok (.iload 7, 2) := by decide +kernel
theorem dX7_treesBy_68 : decode cX7_treesBy 68 = .ok (.iload 4, 2) := by decide +kernel
theorem dX7_treesBy_70 : decode cX7_treesBy 70 = .ok (.if_icmp .ge 78, 3) := by decide +kernel
theorem dX7_treesBy_73 : decode cX7_treesBy 73 = .ok (.iload_n 3, 1) := by decide +kernel
theorem dX7_treesBy_74 : decode cX7_treesBy 74 = .ok (.iconst 0, 1) := by decide +kernel
theorem dX7_treesBy_75 : decode cX7_treesBy 75 = .ok (.aload 5, 2) := by decide +kernel
theorem dX7_treesBy_77 : decode cX7_treesBy 77 = .ok (.getfield 273, 3) := by decide +kernel
theorem dX7_treesBy_80 : decode cX7_treesBy 80 = .ok (.iconst 3, 1) := by decide +kernel
theorem dX7_treesBy_81 : decode cX7_treesBy 81 = .ok (.iload 7, 2) := by decide +kernel
theorem dX7_treesBy_83 : decode cX7_treesBy 83 = .ok (.imul, 1) := by decide +kernel
theorem dX7_treesBy_84 : decode cX7_treesBy 84 = .ok (.isub, 1) := by decide +kernel
theorem dX7_treesBy_85 : decode cX7_treesBy 85 = .ok (.iconst 3, 1) := by decide +kernel
theorem dX7_treesBy_86 : decode cX7_treesBy 86 = .ok (.isub, 1) := by decide +kernel
theorem dX7_treesBy_87 : decode cX7_treesBy 87 = .ok (.invokestatic 92, 3) := by decide +kernel
theorem dX7_treesBy_90 : decode cX7_treesBy 90 = .ok (.ifCond .ne 6, 3) := by decide +kernel
theorem dX7_treesBy_93 : decode cX7_treesBy 93 = .ok (.bipush (-12), 2) := by decide +kernel
theorem dX7_treesBy_95 : decode cX7_treesBy 95 = .ok (.ireturn, 1) := by decide +kernel
theorem dX7_treesBy_96 : decode cX7_treesBy 96 = .ok (.iload_n 3, 1) := by decide +kernel
theorem dX7_treesBy_97 : decode cX7_treesBy 97 = .ok (.iconst 3, 1) := by decide +kernel
theorem dX7_treesBy_98 : decode cX7_treesBy 98 = .ok (.iload 7, 2) := by decide +kernel
theorem dX7_treesBy_100 : decode cX7_treesBy 100 = .ok (.imul, 1) := by decide +kernel
theorem dX7_treesBy_101 : decode cX7_treesBy 101 = .ok (.iadd, 1) := by decide +kernel
theorem dX7_treesBy_102 : decode cX7_treesBy 102 = .ok (.istore 8, 2) := by decide +kernel
theorem dX7_treesBy_104 : decode cX7_treesBy 104 = .ok (.aload_n 0, 1) := by decide +kernel
theorem dX7_treesBy_105 : decode cX7_treesBy 105 = .ok (.aload 5, 2) := by decide +kernel
theorem dX7_treesBy_107 : decode cX7_treesBy 107 = .ok (.getfield 252, 3) := by decide +kernel
theorem dX7_treesBy_110 : decode cX7_treesBy 110 = .ok (.iload 8, 2) := by decide +kernel
theorem dX7_treesBy_112 : decode cX7_treesBy 112 = .ok (.iaload, 1) := by decide +kernel
theorem dX7_treesBy_113 : decode cX7_treesBy 113 = .ok (.aload 5, 2) := by decide +kernel
theorem dX7_treesBy_115 : decode cX7_treesBy 115 = .ok (.getfield 252, 3) := by decide +kernel
theorem dX7_treesBy_118 : decode cX7_treesBy 118 = .ok (.iload 8, 2) := by decide +kernel
theorem dX7_treesBy_120 : decode cX7_treesBy 120 = .ok (.iconst 1, 1) := by decide +kernel
theorem dX7_treesBy_121 : decode cX7_treesBy 121 = .ok (.iadd, 1) := by decide +kernel
theorem dX7_treesBy_122 : decode cX7_treesBy 122 = .ok (.iaload, 1) := by decide +kernel
theorem dX7_treesBy_123 : decode cX7_treesBy 123 = .ok (.aload 5, 2) := by decide +kernel
theorem dX7_treesBy_125 : decode cX7_treesBy 125 = .ok (.getfield 252, 3) := by decide +kernel
theorem dX7_treesBy_128 : decode cX7_treesBy 128 = .ok (.iload 8, 2) := by decide +kernel
theorem dX7_treesBy_130 : decode cX7_treesBy 130 = .ok (.iconst 2, 1) := by decide +kernel
theorem dX7_treesBy_131 : decode cX7_treesBy 131 = .ok (.iadd, 1) := by decide +kernel
theorem dX7_treesBy_132 : decode cX7_treesBy 132 = .ok (.iaload, 1) := by decide +kernel
theorem dX7_treesBy_133 : decode cX7_treesBy 133 = .ok (.invokevirtual 286, 3) := by decide +kernel
theorem dX7_treesBy_136 : decode cX7_treesBy 136 = .ok (.ifCond .lt 6, 3) := by decide +kernel
theorem dX7_treesBy_139 : decode cX7_treesBy 139 = .ok (.iinc 6 1, 3) := by decide +kernel
theorem dX7_treesBy_142 : decode cX7_treesBy 142 = .ok (.iinc 7 1, 3) := by decide +kernel
theorem dX7_treesBy_145 : decode cX7_treesBy 145 = .ok (.goto (-79), 3) := by decide +kernel
theorem dX7_treesBy_148 : decode cX7_treesBy 148 = .ok (.iload 6, 2) := by decide +kernel
theorem dX7_treesBy_150 : decode cX7_treesBy 150 = .ok (.ireturn, 1) := by decide +kernel
theorem dX7_taken_0 : decode cX7_taken 0 = .ok (.iload_n 2, 1) := by decide +kernel
theorem dX7_taken_1 : decode cX7_taken 1 = .ok (.iconst 0, 1) := by decide +kernel
theorem dX7_taken_2 : decode cX7_taken 2 = .ok (.bipush 6, 2) := by decide +kernel
theorem dX7_taken_4 : decode cX7_taken 4 = .ok (.invokestatic 92, 3) := by decide +kernel
theorem dX7_taken_7 : decode cX7_taken 7 = .ok (.ifCond .ne 6, 3) := by decide +kernel
theorem dX7_taken_10 : decode cX7_taken 10 = .ok (.bipush (-2), 2) := by decide +kernel
theorem dX7_taken_12 : decode cX7_taken 12 = .ok (.ireturn, 1) := by decide +kernel
theorem dX7_taken_13 : decode cX7_taken 13 = .ok (.iload_n 1, 1) := by decide +kernel
theorem dX7_taken_14 : decode cX7_taken 14 = .ok (.iconst 0, 1) := by decide +kernel
theorem dX7_taken_15 : decode cX7_taken 15 = .ok (.bipush 39, 2) := by decide +kernel
theorem dX7_taken_17 : decode cX7_taken 17 = .ok (.invokestatic 92, 3) := by decide +kernel
theorem dX7_taken_20 : decode cX7_taken 20 = .ok (.ifCond .ne 6, 3) := by decide +kernel
theorem dX7_taken_23 : decode cX7_taken 23 = .ok (.bipush (-12), 2) := by decide +kernel
theorem dX7_taken_25 : decode cX7_taken 25 = .ok (.ireturn, 1) := by decide +kernel
theorem dX7_taken_26 : decode cX7_taken 26 = .ok (.iload_n 1, 1) := by decide +kernel
theorem dX7_taken_27 : decode cX7_taken 27 = .ok (.bipush 36, 2) := by decide +kernel
theorem dX7_taken_29 : decode cX7_taken 29 = .ok (.if_icmp .ge 32, 3) := by decide +kernel
theorem dX7_taken_32 : decode cX7_taken 32 = .ok (.iload_n 2, 1) := by decide +kernel
theorem dX7_taken_33 : decode cX7_taken 33 = .ok (.bipush 6, 2) := by decide +kernel
theorem dX7_taken_35 : decode cX7_taken 35 = .ok (.if_icmp .eq 23, 3) := by decide +kernel
theorem dX7_taken_38 : decode cX7_taken 38 = .ok (.aload_n 0, 1) := by decide +kernel
theorem dX7_taken_39 : decode cX7_taken 39 = .ok (.getfield 10, 3) := by decide +kernel
theorem dX7_taken_42 : decode cX7_taken 42 = .ok (.getfield 130, 3) := by decide +kernel
theorem dX7_taken_45 : decode cX7_taken 45 = .ok (.iload_n 1, 1) := by decide +kernel
theorem dX7_taken_46 : decode cX7_taken 46 = .ok (.iaload, 1) := by decide +kernel
theorem dX7_taken_47 : decode cX7_taken 47 = .ok (.iload_n 2, 1) := by decide +kernel
theorem dX7_taken_48 : decode cX7_taken 48 = .ok (.invokestatic 289, 3) := by decide +kernel
theorem dX7_taken_51 : decode cX7_taken 51 = .ok (.ifCond .eq 7, 3) := by decide +kernel
theorem dX7_taken_54 : decode cX7_taken 54 = .ok (.iload_n 1, 1) := by decide +kernel
theorem dX7_taken_55 : decode cX7_taken 55 = .ok (.goto 5, 3) := by decide +kernel
theorem dX7_taken_58 : decode cX7_taken 58 = .ok (.bipush (-13), 2) := by decide +kernel
theorem dX7_taken_60 : decode cX7_taken 60 = .ok (.ireturn, 1) := by decide +kernel
theorem dX7_taken_61 : decode cX7_taken 61 = .ok (.aload_n 0, 1) := by decide +kernel
theorem dX7_taken_62 : decode cX7_taken 62 = .ok (.iload_n 1, 1) := by decide +kernel
theorem dX7_taken_63 : decode cX7_taken 63 = .ok (.bipush 36, 2) := by decide +kernel
theorem dX7_taken_65 : decode cX7_taken 65 = .ok (.isub, 1) := by decide +kernel
theorem dX7_taken_66 : decode cX7_taken 66 = .ok (.invokevirtual 158, 3) := by decide +kernel
theorem dX7_taken_69 : decode cX7_taken 69 = .ok (.ifCond .ne 6, 3) := by decide +kernel
theorem dX7_taken_72 : decode cX7_taken 72 = .ok (.bipush (-11), 2) := by decide +kernel
theorem dX7_taken_74 : decode cX7_taken 74 = .ok (.ireturn, 1) := by decide +kernel
theorem dX7_taken_75 : decode cX7_taken 75 = .ok (.iload_n 2, 1) := by decide +kernel
theorem dX7_taken_76 : decode cX7_taken 76 = .ok (.bipush 6, 2) := by decide +kernel
theorem dX7_taken_78 : decode cX7_taken 78 = .ok (.if_icmp .ne 18, 3) := by decide +kernel
theorem dX7_taken_81 : decode cX7_taken 81 = .ok (.aload_n 0, 1) := by decide +kernel
theorem dX7_taken_82 : decode cX7_taken 82 = .ok (.getfield 10, 3) := by decide +kernel
theorem dX7_taken_85 : decode cX7_taken 85 = .ok (.getfield 155, 3) := by decide +kernel
theorem dX7_taken_88 : decode cX7_taken 88 = .ok (.iload_n 1, 1) := by decide +kernel
theorem dX7_taken_89 : decode cX7_taken 89 = .ok (.bipush 36, 2) := by decide +kernel
theorem dX7_taken_91 : decode cX7_taken 91 = .ok (.isub, 1) := by decide +kernel
theorem dX7_taken_92 : decode cX7_taken 92 = .ok (.iaload, 1) := by decide +kernel
theorem dX7_taken_93 : decode cX7_taken 93 = .ok (.goto 5, 3) := by decide +kernel
theorem dX7_taken_96 : decode cX7_taken 96 = .ok (.bipush (-13), 2) := by decide +kernel
theorem dX7_taken_98 : decode cX7_taken 98 = .ok (.ireturn, 1) := by decide +kernel
theorem dX7_within_0 : decode cX7_within 0 = .ok (.iload_n 0, 1) := by decide +kernel
theorem dX7_within_1 : decode cX7_within 1 = .ok (.iload_n 1, 1) := by decide +kernel
theorem dX7_within_2 : decode cX7_within 2 = .ok (.if_icmp .lt 12, 3) := by decide +kernel
theorem dX7_within_5 : decode cX7_within 5 = .ok (.iload_n 0, 1) := by decide +kernel
theorem dX7_within_6 : decode cX7_within 6 = .ok (.iload_n 2, 1) := by decide +kernel
theorem dX7_within_7 : decode cX7_within 7 = .ok (.if_icmp .gt 7, 3) := by decide +kernel
theorem dX7_within_10 : decode cX7_within 10 = .ok (.iconst 1, 1) := by decide +kernel
theorem dX7_within_11 : decode cX7_within 11 = .ok (.goto 4, 3) := by decide +kernel
theorem dX7_within_14 : decode cX7_within 14 = .ok (.iconst 0, 1) := by decide +kernel
theorem dX7_within_15 : decode cX7_within 15 = .ok (.ireturn, 1) := by decide +kernel
theorem dX7_isDay_0 : decode cX7_isDay 0 = .ok (.iload_n 0, 1) := by decide +kernel
theorem dX7_isDay_1 : decode cX7_isDay 1 = .ok (.iconst 0, 1) := by decide +kernel
theorem dX7_isDay_2 : decode cX7_isDay 2 = .ok (.bipush 13, 2) := by decide +kernel
theorem dX7_isDay_4 : decode cX7_isDay 4 = .ok (.invokestatic 92, 3) := by decide +kernel
theorem dX7_isDay_7 : decode cX7_isDay 7 = .ok (.ireturn, 1) := by decide +kernel
theorem dX7_isSpan_0 : decode cX7_isSpan 0 = .ok (.iload_n 0, 1) := by decide +kernel
theorem dX7_isSpan_1 : decode cX7_isSpan 1 = .ok (.iconst 0, 1) := by decide +kernel
theorem dX7_isSpan_2 : decode cX7_isSpan 2 = .ok (.bipush 14, 2) := by decide +kernel
theorem dX7_isSpan_4 : decode cX7_isSpan 4 = .ok (.invokestatic 92, 3) := by decide +kernel
theorem dX7_isSpan_7 : decode cX7_isSpan 7 = .ok (.ireturn, 1) := by decide +kernel
theorem dX7_isCell_0 : decode cX7_isCell 0 = .ok (.iload_n 0, 1) := by decide +kernel
theorem dX7_isCell_1 : decode cX7_isCell 1 = .ok (.iconst 0, 1) := by decide +kernel
theorem dX7_isCell_2 : decode cX7_isCell 2 = .ok (.bipush 35, 2) := by decide +kernel
theorem dX7_isCell_4 : decode cX7_isCell 4 = .ok (.invokestatic 92, 3) := by decide +kernel
theorem dX7_isCell_7 : decode cX7_isCell 7 = .ok (.ireturn, 1) := by decide +kernel
theorem dX7_isChoice_0 : decode cX7_isChoice 0 = .ok (.iload_n 0, 1) := by decide +kernel
theorem dX7_isChoice_1 : decode cX7_isChoice 1 = .ok (.iconst 0, 1) := by decide +kernel
theorem dX7_isChoice_2 : decode cX7_isChoice 2 = .ok (.iconst 1, 1) := by decide +kernel
theorem dX7_isChoice_3 : decode cX7_isChoice 3 = .ok (.invokestatic 92, 3) := by decide +kernel
theorem dX7_isChoice_6 : decode cX7_isChoice 6 = .ok (.ireturn, 1) := by decide +kernel
theorem dX7_isByte_0 : decode cX7_isByte 0 = .ok (.iload_n 0, 1) := by decide +kernel
theorem dX7_isByte_1 : decode cX7_isByte 1 = .ok (.iconst 0, 1) := by decide +kernel
theorem dX7_isByte_2 : decode cX7_isByte 2 = .ok (.sipush 255, 3) := by decide +kernel
theorem dX7_isByte_5 : decode cX7_isByte 5 = .ok (.invokestatic 92, 3) := by decide +kernel
theorem dX7_isByte_8 : decode cX7_isByte 8 = .ok (.ireturn, 1) := by decide +kernel
theorem dX7_isSheet_0 : decode cX7_isSheet 0 = .ok (.iload_n 0, 1) := by decide +kernel
theorem dX7_isSheet_1 : decode cX7_isSheet 1 = .ok (.iconst 0, 1) := by decide +kernel
theorem dX7_isSheet_2 : decode cX7_isSheet 2 = .ok (.iconst 3, 1) := by decide +kernel
theorem dX7_isSheet_3 : decode cX7_isSheet 3 = .ok (.invokestatic 92, 3) := by decide +kernel
theorem dX7_isSheet_6 : decode cX7_isSheet 6 = .ok (.ireturn, 1) := by decide +kernel
theorem dX7_isKind_0 : decode cX7_isKind 0 = .ok (.iload_n 0, 1) := by decide +kernel
theorem dX7_isKind_1 : decode cX7_isKind 1 = .ok (.iconst 0, 1) := by decide +kernel
theorem dX7_isKind_2 : decode cX7_isKind 2 = .ok (.iconst 5, 1) := by decide +kernel
theorem dX7_isKind_3 : decode cX7_isKind 3 = .ok (.invokestatic 92, 3) := by decide +kernel
theorem dX7_isKind_6 : decode cX7_isKind 6 = .ok (.ifCond .eq 17, 3) := by decide +kernel
theorem dX7_isKind_9 : decode cX7_isKind 9 = .ok (.iload_n 1, 1) := by decide +kernel
theorem dX7_isKind_10 : decode cX7_isKind 10 = .ok (.iconst 0, 1) := by decide +kernel
theorem dX7_isKind_11 : decode cX7_isKind 11 = .ok (.bipush 99, 2) := by decide +kernel
theorem dX7_isKind_13 : decode cX7_isKind 13 = .ok (.invokestatic 92, 3) := by decide +kernel
theorem dX7_isKind_16 : decode cX7_isKind 16 = .ok (.ifCond .eq 7, 3) := by decide +kernel
theorem dX7_isKind_19 : decode cX7_isKind 19 = .ok (.iconst 1, 1) := by decide +kernel
theorem dX7_isKind_20 : decode cX7_isKind 20 = .ok (.goto 4, 3) := by decide +kernel
theorem dX7_isKind_23 : decode cX7_isKind 23 = .ok (.iconst 0, 1) := by decide +kernel
theorem dX7_isKind_24 : decode cX7_isKind 24 = .ok (.ireturn, 1) := by decide +kernel
theorem dX7_isTree_0 : decode cX7_isTree 0 = .ok (.iload_n 1, 1) := by decide +kernel
theorem dX7_isTree_1 : decode cX7_isTree 1 = .ok (.iconst 0, 1) := by decide +kernel
theorem dX7_isTree_2 : decode cX7_isTree 2 = .ok (.aload_n 0, 1) := by decide +kernel
theorem dX7_isTree_3 : decode cX7_isTree 3 = .ok (.getfield 10, 3) := by decide +kernel
theorem dX7_isTree_6 : decode cX7_isTree 6 = .ok (.getfield 104, 3) := by decide +kernel
theorem dX7_isTree_9 : decode cX7_isTree 9 = .ok (.iconst 1, 1) := by decide +kernel
theorem dX7_isTree_10 : decode cX7_isTree 10 = .ok (.isub, 1) := by decide +kernel
theorem dX7_isTree_11 : decode cX7_isTree 11 = .ok (.invokestatic 92, 3) := by decide +kernel
theorem dX7_isTree_14 : decode cX7_isTree 14 = .ok (.ireturn, 1) := by decide +kernel
theorem dX7_mostOfSky_0 : decode cX7_mostOfSky 0 = .ok (.iload_n 0, 1) := by decide +kernel
theorem dX7_mostOfSky_1 : decode cX7_mostOfSky 1 = .ok (.lookupswitch 32 #[(0, 27), (1, 29)], 27) := by decide +kernel
theorem dX7_mostOfSky_28 : decode cX7_mostOfSky 28 = .ok (.iconst 3, 1) := by decide +kernel
theorem dX7_mostOfSky_29 : decode cX7_mostOfSky 29 = .ok (.ireturn, 1) := by decide +kernel
theorem dX7_mostOfSky_30 : decode cX7_mostOfSky 30 = .ok (.bipush 9, 2) := by decide +kernel
theorem dX7_mostOfSky_32 : decode cX7_mostOfSky 32 = .ok (.ireturn, 1) := by decide +kernel
theorem dX7_mostOfSky_33 : decode cX7_mostOfSky 33 = .ok (.iconst 1, 1) := by decide +kernel
theorem dX7_mostOfSky_34 : decode cX7_mostOfSky 34 = .ok (.ireturn, 1) := by decide +kernel
theorem dX7_goThrough_0 : decode cX7_goThrough 0 = .ok (.aload_n 0, 1) := by decide +kernel
theorem dX7_goThrough_1 : decode cX7_goThrough 1 = .ok (.getfield 45, 3) := by decide +kernel
theorem dX7_goThrough_4 : decode cX7_goThrough 4 = .ok (.aload_n 1, 1) := by decide +kernel
theorem dX7_goThrough_5 : decode cX7_goThrough 5 = .ok (.getfield 110, 3) := by decide +kernel
theorem dX7_goThrough_8 : decode cX7_goThrough 8 = .ok (.aaload, 1) := by decide +kernel
theorem dX7_goThrough_9 : decode cX7_goThrough 9 = .ok (.astore_n 3, 1) := by decide +kernel
theorem dX7_goThrough_10 : decode cX7_goThrough 10 = .ok (.aload_n 0, 1) := by decide +kernel
theorem dX7_goThrough_11 : decode cX7_goThrough 11 = .ok (.getfield 25, 3) := by decide +kernel
theorem dX7_goThrough_14 : decode cX7_goThrough 14 = .ok (.aload_n 1, 1) := by decide +kernel
theorem dX7_goThrough_15 : decode cX7_goThrough 15 = .ok (.invokevirtual 294, 3) := by decide +kernel
theorem dX7_goThrough_18 : decode cX7_goThrough 18 = .ok (.iconst 0, 1) := by decide +kernel
theorem dX7_goThrough_19 : decode cX7_goThrough 19 = .ok (.istore 4, 2) := by decide +kernel
theorem dX7_goThrough_21 : decode cX7_goThrough 21 = .ok (.iload 4, 2) := by decide +kernel
theorem dX7_goThrough_23 : decode cX7_goThrough 23 = .ok (.iload_n 2, 1) := by decide +kernel
theorem dX7_goThrough_24 : decode cX7_goThrough 24 = .ok (.if_icmp .ge 24, 3) := by decide +kernel
theorem dX7_goThrough_27 : decode cX7_goThrough 27 = .ok (.aload_n 0, 1) := by decide +kernel
theorem dX7_goThrough_28 : decode cX7_goThrough 28 = .ok (.getfield 25, 3) := by decide +kernel
theorem dX7_goThrough_31 : decode cX7_goThrough 31 = .ok (.aload_n 1, 1) := by decide +kernel
theorem dX7_goThrough_32 : decode cX7_goThrough 32 = .ok (.aload_n 3, 1) := by decide +kernel
theorem dX7_goThrough_33 : decode cX7_goThrough 33 = .ok (.iload 4, 2) := by decide +kernel
theorem dX7_goThrough_35 : decode cX7_goThrough 35 = .ok (.aload_n 0, 1) := by decide +kernel
theorem dX7_goThrough_36 : decode cX7_goThrough 36 = .ok (.getfield 32, 3) := by decide +kernel
theorem dX7_goThrough_39 : decode cX7_goThrough 39 = .ok (.invokevirtual 297, 3) := by decide +kernel
theorem dX7_goThrough_42 : decode cX7_goThrough 42 = .ok (.iinc 4 1, 3) := by decide +kernel
theorem dX7_goThrough_45 : decode cX7_goThrough 45 = .ok (.goto (-24), 3) := by decide +kernel
theorem dX7_goThrough_48 : decode cX7_goThrough 48 = .ok (.return_, 1) := by decide +kernel
theorem dX7_firstOfMost_0 : decode cX7_firstOfMost 0 = .ok (.iconst 0, 1) := by decide +kernel
theorem dX7_firstOfMost_1 : decode cX7_firstOfMost 1 = .ok (.istore_n 3, 1) := by decide +kernel
theorem dX7_firstOfMost_2 : decode cX7_firstOfMost 2 = .ok (.iconst 1, 1) := by decide +kernel
theorem dX7_firstOfMost_3 : decode cX7_firstOfMost 3 = .ok (.istore 4, 2) := by decide +kernel
theorem dX7_firstOfMost_5 : decode cX7_firstOfMost 5 = .ok (.iload 4, 2) := by decide +kernel
theorem dX7_firstOfMost_7 : decode cX7_firstOfMost 7 = .ok (.iload_n 1, 1) := by decide +kernel
theorem dX7_firstOfMost_8 : decode cX7_firstOfMost 8 = .ok (.if_icmp .ge 22, 3) := by decide +kernel
theorem dX7_firstOfMost_11 : decode cX7_firstOfMost 11 = .ok (.aload_n 0, 1) := by decide +kernel
theorem dX7_firstOfMost_12 : decode cX7_firstOfMost 12 = .ok (.iload 4, 2) := by decide +kernel
theorem dX7_firstOfMost_14 : decode cX7_firstOfMost 14 = .ok (.iaload, 1) := by decide +kernel
theorem dX7_firstOfMost_15 : decode cX7_firstOfMost 15 = .ok (.aload_n 0, 1) := by decide +kernel
theorem dX7_firstOfMost_16 : decode cX7_firstOfMost 16 = .ok (.iload_n 3, 1) := by decide +kernel
theorem dX7_firstOfMost_17 : decode cX7_firstOfMost 17 = .ok (.iaload, 1) := by decide +kernel
theorem dX7_firstOfMost_18 : decode cX7_firstOfMost 18 = .ok (.if_icmp .le 6, 3) := by decide +kernel
theorem dX7_firstOfMost_21 : decode cX7_firstOfMost 21 = .ok (.iload 4, 2) := by decide +kernel
theorem dX7_firstOfMost_23 : decode cX7_firstOfMost 23 = .ok (.istore_n 3, 1) := by decide +kernel
theorem dX7_firstOfMost_24 : decode cX7_firstOfMost 24 = .ok (.iinc 4 1, 3) := by decide +kernel
theorem dX7_firstOfMost_27 : decode cX7_firstOfMost 27 = .ok (.goto (-22), 3) := by decide +kernel
theorem dX7_firstOfMost_30 : decode cX7_firstOfMost 30 = .ok (.iload_n 2, 1) := by decide +kernel
theorem dX7_firstOfMost_31 : decode cX7_firstOfMost 31 = .ok (.ifCond .ne 7, 3) := by decide +kernel
theorem dX7_firstOfMost_34 : decode cX7_firstOfMost 34 = .ok (.iload_n 3, 1) := by decide +kernel
theorem dX7_firstOfMost_35 : decode cX7_firstOfMost 35 = .ok (.goto 6, 3) := by decide +kernel
theorem dX7_firstOfMost_38 : decode cX7_firstOfMost 38 = .ok (.aload_n 0, 1) := by decide +kernel
theorem dX7_firstOfMost_39 : decode cX7_firstOfMost 39 = .ok (.iload_n 3, 1) := by decide +kernel
theorem dX7_firstOfMost_40 : decode cX7_firstOfMost 40 = .ok (.iaload, 1) := by decide +kernel
theorem dX7_firstOfMost_41 : decode cX7_firstOfMost 41 = .ok (.ireturn, 1) := by decide +kernel
theorem dX7_chosenSaturdays_0 : decode cX7_chosenSaturdays 0 = .ok (.iload_n 0, 1) := by decide +kernel
theorem dX7_chosenSaturdays_1 : decode cX7_chosenSaturdays 1 = .ok (.iconst 1, 1) := by decide +kernel
theorem dX7_chosenSaturdays_2 : decode cX7_chosenSaturdays 2 = .ok (.iand, 1) := by decide +kernel
theorem dX7_chosenSaturdays_3 : decode cX7_chosenSaturdays 3 = .ok (.iconst 3, 1) := by decide +kernel
theorem dX7_chosenSaturdays_4 : decode cX7_chosenSaturdays 4 = .ok (.ishl, 1) := by decide +kernel
theorem dX7_chosenSaturdays_5 : decode cX7_chosenSaturdays 5 = .ok (.iload_n 0, 1) := by decide +kernel
theorem dX7_chosenSaturdays_6 : decode cX7_chosenSaturdays 6 = .ok (.iconst 2, 1) := by decide +kernel
theorem dX7_chosenSaturdays_7 : decode cX7_chosenSaturdays 7 = .ok (.iand, 1) := by decide +kernel
theorem dX7_chosenSaturdays_8 : decode cX7_chosenSaturdays 8 = .ok (.iconst 5, 1) := by decide +kernel
theorem dX7_chosenSaturdays_9 : decode cX7_chosenSaturdays 9 = .ok (.ishl, 1) := by decide +kernel
theorem dX7_chosenSaturdays_10 : decode cX7_chosenSaturdays 10 = .ok (.ior, 1) := by decide +kernel
theorem dX7_chosenSaturdays_11 : decode cX7_chosenSaturdays 11 = .ok (.iload_n 0, 1) := by decide +kernel
theorem dX7_chosenSaturdays_12 : decode cX7_chosenSaturdays 12 = .ok (.iconst 4, 1) := by decide +kernel
theorem dX7_chosenSaturdays_13 : decode cX7_chosenSaturdays 13 = .ok (.iand, 1) := by decide +kernel
theorem dX7_chosenSaturdays_14 : decode cX7_chosenSaturdays 14 = .ok (.bipush 8, 2) := by decide +kernel
theorem dX7_chosenSaturdays_16 : decode cX7_chosenSaturdays 16 = .ok (.ishl, 1) := by decide +kernel
theorem dX7_chosenSaturdays_17 : decode cX7_chosenSaturdays 17 = .ok (.ior, 1) := by decide +kernel
theorem dX7_chosenSaturdays_18 : decode cX7_chosenSaturdays 18 = .ok (.iload_n 0, 1) := by decide +kernel
theorem dX7_chosenSaturdays_19 : decode cX7_chosenSaturdays 19 = .ok (.bipush 8, 2) := by decide +kernel
theorem dX7_chosenSaturdays_21 : decode cX7_chosenSaturdays 21 = .ok (.iand, 1) := by decide +kernel
theorem dX7_chosenSaturdays_22 : decode cX7_chosenSaturdays 22 = .ok (.bipush 10, 2) := by decide +kernel
theorem dX7_chosenSaturdays_24 : decode cX7_chosenSaturdays 24 = .ok (.ishl, 1) := by decide +kernel
theorem dX7_chosenSaturdays_25 : decode cX7_chosenSaturdays 25 = .ok (.ior, 1) := by decide +kernel
theorem dX7_chosenSaturdays_26 : decode cX7_chosenSaturdays 26 = .ok (.ireturn, 1) := by decide +kernel
theorem dX7_bestHeap_0 : decode cX7_bestHeap 0 = .ok (.iconst (-1), 1) := by decide +kernel
theorem dX7_bestHeap_1 : decode cX7_bestHeap 1 = .ok (.istore_n 2, 1) := by decide +kernel
theorem dX7_bestHeap_2 : decode cX7_bestHeap 2 = .ok (.iconst (-1), 1) := by decide +kernel
theorem dX7_bestHeap_3 : decode cX7_bestHeap 3 = .ok (.istore_n 3, 1) := by decide +kernel
theorem dX7_bestHeap_4 : decode cX7_bestHeap 4 = .ok (.iconst 0, 1) := by decide +kernel
theorem dX7_bestHeap_5 : decode cX7_bestHeap 5 = .ok (.istore 4, 2) := by decide +kernel
theorem dX7_bestHeap_7 : decode cX7_bestHeap 7 = .ok (.iload 4, 2) := by decide +kernel
theorem dX7_bestHeap_9 : decode cX7_bestHeap 9 = .ok (.bipush 36, 2) := by decide +kernel
theorem dX7_bestHeap_11 : decode cX7_bestHeap 11 = .ok (.if_icmp .ge 46, 3) := by decide +kernel
theorem dX7_bestHeap_14 : decode cX7_bestHeap 14 = .ok (.aload_n 0, 1) := by decide +kernel
theorem dX7_bestHeap_15 : decode cX7_bestHeap 15 = .ok (.getfield 32, 3) := by decide +kernel
theorem dX7_bestHeap_18 : decode cX7_bestHeap 18 = .ok (.lconst 1, 1) := by decide +kernel
theorem dX7_bestHeap_19 : decode cX7_bestHeap 19 = .ok (.iload 4, 2) := by decide +kernel
theorem dX7_bestHeap_21 : decode cX7_bestHeap 21 = .ok (.lshl, 1) := by decide +kernel
theorem dX7_bestHeap_22 : decode cX7_bestHeap 22 = .ok (.aload_n 0, 1) := by decide +kernel
theorem dX7_bestHeap_23 : decode cX7_bestHeap 23 = .ok (.getfield 25, 3) := by decide +kernel
theorem dX7_bestHeap_26 : decode cX7_bestHeap 26 = .ok (.getfield 183, 3) := by decide +kernel
theorem dX7_bestHeap_29 : decode cX7_bestHeap 29 = .ok (.invokevirtual 225, 3) := by decide +kernel
theorem dX7_bestHeap_32 : decode cX7_bestHeap 32 = .ok (.istore 5, 2) := by decide +kernel
theorem dX7_bestHeap_34 : decode cX7_bestHeap 34 = .ok (.iload_n 2, 1) := by decide +kernel
theorem dX7_bestHeap_35 : decode cX7_bestHeap 35 = .ok (.iconst (-1), 1) := by decide +kernel
theorem dX7_bestHeap_36 : decode cX7_bestHeap 36 = .ok (.if_icmp .eq 9, 3) := by decide +kernel
theorem dX7_bestHeap_39 : decode cX7_bestHeap 39 = .ok (.iload 5, 2) := by decide +kernel
theorem dX7_bestHeap_41 : decode cX7_bestHeap 41 = .ok (.iload_n 3, 1) := by decide +kernel
theorem dX7_bestHeap_42 : decode cX7_bestHeap 42 = .ok (.if_icmp .ge 9, 3) := by decide +kernel
theorem dX7_bestHeap_45 : decode cX7_bestHeap 45 = .ok (.iload 4, 2) := by decide +kernel
theorem dX7_bestHeap_47 : decode cX7_bestHeap 47 = .ok (.istore_n 2, 1) := by decide +kernel
theorem dX7_bestHeap_48 : decode cX7_bestHeap 48 = .ok (.iload 5, 2) := by decide +kernel
theorem dX7_bestHeap_50 : decode cX7_bestHeap 50 = .ok (.istore_n 3, 1) := by decide +kernel
theorem dX7_bestHeap_51 : decode cX7_bestHeap 51 = .ok (.iinc 4 1, 3) := by decide +kernel
theorem dX7_bestHeap_54 : decode cX7_bestHeap 54 = .ok (.goto (-47), 3) := by decide +kernel
theorem dX7_bestHeap_57 : decode cX7_bestHeap 57 = .ok (.iload_n 1, 1) := by decide +kernel
theorem dX7_bestHeap_58 : decode cX7_bestHeap 58 = .ok (.ifCond .ne 7, 3) := by decide +kernel
theorem dX7_bestHeap_61 : decode cX7_bestHeap 61 = .ok (.iload_n 2, 1) := by decide +kernel
theorem dX7_bestHeap_62 : decode cX7_bestHeap 62 = .ok (.goto 4, 3) := by decide +kernel
theorem dX7_bestHeap_65 : decode cX7_bestHeap 65 = .ok (.iload_n 3, 1) := by decide +kernel
theorem dX7_bestHeap_66 : decode cX7_bestHeap 66 = .ok (.ireturn, 1) := by decide +kernel
theorem dX7_bestTwoHeaps_0 : decode cX7_bestTwoHeaps 0 = .ok (.iconst (-1), 1) := by decide +kernel
theorem dX7_bestTwoHeaps_1 : decode cX7_bestTwoHeaps 1 = .ok (.istore_n 2, 1) := by decide +kernel
theorem dX7_bestTwoHeaps_2 : decode cX7_bestTwoHeaps 2 = .ok (.iconst (-1), 1) := by decide +kernel
theorem dX7_bestTwoHeaps_3 : decode cX7_bestTwoHeaps 3 = .ok (.istore_n 3, 1) := by decide +kernel
theorem dX7_bestTwoHeaps_4 : decode cX7_bestTwoHeaps 4 = .ok (.iconst 0, 1) := by decide +kernel
theorem dX7_bestTwoHeaps_5 : decode cX7_bestTwoHeaps 5 = .ok (.istore 4, 2) := by decide +kernel
theorem dX7_bestTwoHeaps_7 : decode cX7_bestTwoHeaps 7 = .ok (.iload 4, 2) := by decide +kernel
theorem dX7_bestTwoHeaps_9 : decode cX7_bestTwoHeaps 9 = .ok (.bipush 36, 2) := by decide +kernel
theorem dX7_bestTwoHeaps_11 : decode cX7_bestTwoHeaps 11 = .ok (.if_icmp .ge 76, 3) := by decide +kernel
theorem dX7_bestTwoHeaps_14 : decode cX7_bestTwoHeaps 14 = .ok (.iload 4, 2) := by decide +kernel
theorem dX7_bestTwoHeaps_16 : decode cX7_bestTwoHeaps 16 = .ok (.iconst 1, 1) := by decide +kernel
theorem dX7_bestTwoHeaps_17 : decode cX7_bestTwoHeaps 17 = .ok (.iadd, 1) := by decide +kernel
theorem dX7_bestTwoHeaps_18 : decode cX7_bestTwoHeaps 18 = .ok (.istore 5, 2) := by decide +kernel
theorem dX7_bestTwoHeaps_20 : decode cX7_bestTwoHeaps 20 = .ok (.iload 5, 2) := by decide +kernel
theorem dX7_bestTwoHeaps_22 : decode cX7_bestTwoHeaps 22 = .ok (.bipush 36, 2) := by decide +kernel
theorem dX7_bestTwoHeaps_24 : decode cX7_bestTwoHeaps 24 = .ok (.if_icmp .ge 57, 3) := by decide +kernel
theorem dX7_bestTwoHeaps_27 : decode cX7_bestTwoHeaps 27 = .ok (.aload_n 0, 1) := by decide +kernel
theorem dX7_bestTwoHeaps_28 : decode cX7_bestTwoHeaps 28 = .ok (.getfield 32, 3) := by decide +kernel
theorem dX7_bestTwoHeaps_31 : decode cX7_bestTwoHeaps 31 = .ok (.lconst 1, 1) := by decide +kernel
theorem dX7_bestTwoHeaps_32 : decode cX7_bestTwoHeaps 32 = .ok (.iload 4, 2) := by decide +kernel
theorem dX7_bestTwoHeaps_34 : decode cX7_bestTwoHeaps 34 = .ok (.lshl, 1) := by decide +kernel
theorem dX7_bestTwoHeaps_35 : decode cX7_bestTwoHeaps 35 = .ok (.lconst 1, 1) := by decide +kernel
theorem dX7_bestTwoHeaps_36 : decode cX7_bestTwoHeaps 36 = .ok (.iload 5, 2) := by decide +kernel
theorem dX7_bestTwoHeaps_38 : decode cX7_bestTwoHeaps 38 = .ok (.lshl, 1) := by decide +kernel
theorem dX7_bestTwoHeaps_39 : decode cX7_bestTwoHeaps 39 = .ok (.lor, 1) := by decide +kernel
theorem dX7_bestTwoHeaps_40 : decode cX7_bestTwoHeaps 40 = .ok (.aload_n 0, 1) := by decide +kernel
theorem dX7_bestTwoHeaps_41 : decode cX7_bestTwoHeaps 41 = .ok (.getfield 25, 3) := by decide +kernel
theorem dX7_bestTwoHeaps_44 : decode cX7_bestTwoHeaps 44 = .ok (.getfield 183, 3) := by decide +kernel
theorem dX7_bestTwoHeaps_47 : decode cX7_bestTwoHeaps 47 = .ok (.invokevirtual 225, 3) := by decide +kernel
theorem dX7_bestTwoHeaps_50 : decode cX7_bestTwoHeaps 50 = .ok (.istore 6, 2) := by decide +kernel
theorem dX7_bestTwoHeaps_52 : decode cX7_bestTwoHeaps 52 = .ok (.iload_n 2, 1) := by decide +kernel
theorem dX7_bestTwoHeaps_53 : decode cX7_bestTwoHeaps 53 = .ok (.iconst (-1), 1) := by decide +kernel
theorem dX7_bestTwoHeaps_54 : decode cX7_bestTwoHeaps 54 = .ok (.if_icmp .eq 9, 3) := by decide +kernel
theorem dX7_bestTwoHeaps_57 : decode cX7_bestTwoHeaps 57 = .ok (.iload 6, 2) := by decide +kernel
theorem dX7_bestTwoHeaps_59 : decode cX7_bestTwoHeaps 59 = .ok (.iload_n 3, 1) := by decide +kernel
theorem dX7_bestTwoHeaps_60 : decode cX7_bestTwoHeaps 60 = .ok (.if_icmp .ge 15, 3) := by decide +kernel
theorem dX7_bestTwoHeaps_63 : decode cX7_bestTwoHeaps 63 = .ok (.bipush 100, 2) := by decide +kernel
theorem dX7_bestTwoHeaps_65 : decode cX7_bestTwoHeaps 65 = .ok (.iload 4, 2) := by decide +kernel
theorem dX7_bestTwoHeaps_67 : decode cX7_bestTwoHeaps 67 = .ok (.imul, 1) := by decide +kernel
theorem dX7_bestTwoHeaps_68 : decode cX7_bestTwoHeaps 68 = .ok (.iload 5, 2) := by decide +kernel
theorem dX7_bestTwoHeaps_70 : decode cX7_bestTwoHeaps 70 = .ok (.iadd, 1) := by decide +kernel
theorem dX7_bestTwoHeaps_71 : decode cX7_bestTwoHeaps 71 = .ok (.istore_n 2, 1) := by decide +kernel
theorem dX7_bestTwoHeaps_72 : decode cX7_bestTwoHeaps 72 = .ok (.iload 6, 2) := by decide +kernel
theorem dX7_bestTwoHeaps_74 : decode cX7_bestTwoHeaps 74 = .ok (.istore_n 3, 1) := by decide +kernel
theorem dX7_bestTwoHeaps_75 : decode cX7_bestTwoHeaps 75 = .ok (.iinc 5 1, 3) := by decide +kernel
theorem dX7_bestTwoHeaps_78 : decode cX7_bestTwoHeaps 78 = .ok (.goto (-58), 3) := by decide +kernel
theorem dX7_bestTwoHeaps_81 : decode cX7_bestTwoHeaps 81 = .ok (.iinc 4 1, 3) := by decide +kernel
theorem dX7_bestTwoHeaps_84 : decode cX7_bestTwoHeaps 84 = .ok (.goto (-77), 3) := by decide +kernel
theorem dX7_bestTwoHeaps_87 : decode cX7_bestTwoHeaps 87 = .ok (.iload_n 1, 1) := by decide +kernel
theorem dX7_bestTwoHeaps_88 : decode cX7_bestTwoHeaps 88 = .ok (.ifCond .ne 7, 3) := by decide +kernel
theorem dX7_bestTwoHeaps_91 : decode cX7_bestTwoHeaps 91 = .ok (.iload_n 2, 1) := by decide +kernel
theorem dX7_bestTwoHeaps_92 : decode cX7_bestTwoHeaps 92 = .ok (.goto 4, 3) := by decide +kernel
theorem dX7_bestTwoHeaps_95 : decode cX7_bestTwoHeaps 95 = .ok (.iload_n 3, 1) := by decide +kernel
theorem dX7_bestTwoHeaps_96 : decode cX7_bestTwoHeaps 96 = .ok (.ireturn, 1) := by decide +kernel
theorem dX7_inLowestTerms_0 : decode cX7_inLowestTerms 0 = .ok (.iload_n 1, 1) := by decide +kernel
theorem dX7_inLowestTerms_1 : decode cX7_inLowestTerms 1 = .ok (.istore_n 3, 1) := by decide +kernel
theorem dX7_inLowestTerms_2 : decode cX7_inLowestTerms 2 = .ok (.iload_n 0, 1) := by decide +kernel
theorem dX7_inLowestTerms_3 : decode cX7_inLowestTerms 3 = .ok (.istore 4, 2) := by decide +kernel
theorem dX7_inLowestTerms_5 : decode cX7_inLowestTerms 5 = .ok (.iconst 0, 1) := by decide +kernel
theorem dX7_inLowestTerms_6 : decode cX7_inLowestTerms 6 = .ok (.istore 5, 2) := by decide +kernel
theorem dX7_inLowestTerms_8 : decode cX7_inLowestTerms 8 = .ok (.iload 5, 2) := by decide +kernel
theorem dX7_inLowestTerms_10 : decode cX7_inLowestTerms 10 = .ok (.bipush 64, 2) := by decide +kernel
theorem dX7_inLowestTerms_12 : decode cX7_inLowestTerms 12 = .ok (.if_icmp .ge 27, 3) := by decide +kernel
theorem dX7_inLowestTerms_15 : decode cX7_inLowestTerms 15 = .ok (.iload 4, 2) := by decide +kernel
theorem dX7_inLowestTerms_17 : decode cX7_inLowestTerms 17 = .ok (.ifCond .eq 22, 3) := by decide +kernel
theorem dX7_inLowestTerms_20 : decode cX7_inLowestTerms 20 = .ok (.iload_n 3, 1) := by decide +kernel
theorem dX7_inLowestTerms_21 : decode cX7_inLowestTerms 21 = .ok (.iload 4, 2) := by decide +kernel
theorem dX7_inLowestTerms_23 : decode cX7_inLowestTerms 23 = .ok (.irem, 1) := by decide +kernel
theorem dX7_inLowestTerms_24 : decode cX7_inLowestTerms 24 = .ok (.istore 6, 2) := by decide +kernel
theorem dX7_inLowestTerms_26 : decode cX7_inLowestTerms 26 = .ok (.iload 4, 2) := by decide +kernel
theorem dX7_inLowestTerms_28 : decode cX7_inLowestTerms 28 = .ok (.istore_n 3, 1) := by decide +kernel
theorem dX7_inLowestTerms_29 : decode cX7_inLowestTerms 29 = .ok (.iload 6, 2) := by decide +kernel
theorem dX7_inLowestTerms_31 : decode cX7_inLowestTerms 31 = .ok (.istore 4, 2) := by decide +kernel
theorem dX7_inLowestTerms_33 : decode cX7_inLowestTerms 33 = .ok (.iinc 5 1, 3) := by decide +kernel
theorem dX7_inLowestTerms_36 : decode cX7_inLowestTerms 36 = .ok (.goto (-28), 3) := by decide +kernel
theorem dX7_inLowestTerms_39 : decode cX7_inLowestTerms 39 = .ok (.iload_n 3, 1) := by decide +kernel
theorem dX7_inLowestTerms_40 : decode cX7_inLowestTerms 40 = .ok (.ifCond .ne 7, 3) := by decide +kernel
theorem dX7_inLowestTerms_43 : decode cX7_inLowestTerms 43 = .ok (.ldc2_w 167, 3) := by decide +kernel
theorem dX7_inLowestTerms_46 : decode cX7_inLowestTerms 46 = .ok (.lreturn, 1) := by decide +kernel
theorem dX7_inLowestTerms_47 : decode cX7_inLowestTerms 47 = .ok (.iload_n 2, 1) := by decide +kernel
theorem dX7_inLowestTerms_48 : decode cX7_inLowestTerms 48 = .ok (.ifCond .ne 7, 3) := by decide +kernel
theorem dX7_inLowestTerms_51 : decode cX7_inLowestTerms 51 = .ok (.iload_n 0, 1) := by decide +kernel
theorem dX7_inLowestTerms_52 : decode cX7_inLowestTerms 52 = .ok (.goto 4, 3) := by decide +kernel
theorem dX7_inLowestTerms_55 : decode cX7_inLowestTerms 55 = .ok (.iload_n 1, 1) := by decide +kernel
theorem dX7_inLowestTerms_56 : decode cX7_inLowestTerms 56 = .ok (.iload_n 3, 1) := by decide +kernel
theorem dX7_inLowestTerms_57 : decode cX7_inLowestTerms 57 = .ok (.idiv, 1) := by decide +kernel
theorem dX7_inLowestTerms_58 : decode cX7_inLowestTerms 58 = .ok (.i2l, 1) := by decide +kernel
theorem dX7_inLowestTerms_59 : decode cX7_inLowestTerms 59 = .ok (.lreturn, 1) := by decide +kernel
theorem dX7_refusalOfLook_0 : decode cX7_refusalOfLook 0 = .ok (.iload_n 1, 1) := by decide +kernel
theorem dX7_refusalOfLook_1 : decode cX7_refusalOfLook 1 = .ok (.invokestatic 259, 3) := by decide +kernel
theorem dX7_refusalOfLook_4 : decode cX7_refusalOfLook 4 = .ok (.ifCond .ne 6, 3) := by decide +kernel
theorem dX7_refusalOfLook_7 : decode cX7_refusalOfLook 7 = .ok (.bipush (-2), 2) := by decide +kernel
theorem dX7_refusalOfLook_9 : decode cX7_refusalOfLook 9 = .ok (.ireturn, 1) := by decide +kernel
theorem dX7_refusalOfLook_10 : decode cX7_refusalOfLook 10 = .ok (.aload_n 0, 1) := by decide +kernel
theorem dX7_refusalOfLook_11 : decode cX7_refusalOfLook 11 = .ok (.getfield 51, 3) := by decide +kernel
theorem dX7_refusalOfLook_14 : decode cX7_refusalOfLook 14 = .ok (.iload_n 1, 1) := by decide +kernel
theorem dX7_refusalOfLook_15 : decode cX7_refusalOfLook 15 = .ok (.aaload, 1) := by decide +kernel
theorem dX7_refusalOfLook_16 : decode cX7_refusalOfLook 16 = .ok (.invokevirtual 269, 3) := by decide +kernel
theorem dX7_refusalOfLook_19 : decode cX7_refusalOfLook 19 = .ok (.ifCond .eq 6, 3) := by decide +kernel
theorem dX7_refusalOfLook_22 : decode cX7_refusalOfLook 22 = .ok (.bipush (-11), 2) := by decide +kernel
theorem dX7_refusalOfLook_24 : decode cX7_refusalOfLook 24 = .ok (.ireturn, 1) := by decide +kernel
theorem dX7_refusalOfLook_25 : decode cX7_refusalOfLook 25 = .ok (.aload_n 0, 1) := by decide +kernel
theorem dX7_refusalOfLook_26 : decode cX7_refusalOfLook 26 = .ok (.getfield 51, 3) := by decide +kernel
theorem dX7_refusalOfLook_29 : decode cX7_refusalOfLook 29 = .ok (.iload_n 1, 1) := by decide +kernel
theorem dX7_refusalOfLook_30 : decode cX7_refusalOfLook 30 = .ok (.aaload, 1) := by decide +kernel
theorem dX7_refusalOfLook_31 : decode cX7_refusalOfLook 31 = .ok (.getfield 273, 3) := by decide +kernel
theorem dX7_refusalOfLook_34 : decode cX7_refusalOfLook 34 = .ok (.bipush 36, 2) := by decide +kernel
theorem dX7_refusalOfLook_36 : decode cX7_refusalOfLook 36 = .ok (.if_icmp .eq 6, 3) := by decide +kernel
theorem dX7_refusalOfLook_39 : decode cX7_refusalOfLook 39 = .ok (.bipush (-2), 2) := by decide +kernel
theorem dX7_refusalOfLook_41 : decode cX7_refusalOfLook 41 = .ok (.ireturn, 1) := by decide +kernel
theorem dX7_refusalOfLook_42 : decode cX7_refusalOfLook 42 = .ok (.iload_n 2, 1) := by decide +kernel
theorem dX7_refusalOfLook_43 : decode cX7_refusalOfLook 43 = .ok (.iload_n 3, 1) := by decide +kernel
theorem dX7_refusalOfLook_44 : decode cX7_refusalOfLook 44 = .ok (.bipush 14, 2) := by decide +kernel
theorem dX7_refusalOfLook_46 : decode cX7_refusalOfLook 46 = .ok (.invokestatic 92, 3) := by decide +kernel
theorem dX7_refusalOfLook_49 : decode cX7_refusalOfLook 49 = .ok (.ifCond .eq 7, 3) := by decide +kernel
theorem dX7_refusalOfLook_52 : decode cX7_refusalOfLook 52 = .ok (.iconst 0, 1) := by decide +kernel
theorem dX7_refusalOfLook_53 : decode cX7_refusalOfLook 53 = .ok (.goto 5, 3) := by decide +kernel
theorem dX7_refusalOfLook_56 : decode cX7_refusalOfLook 56 = .ok (.bipush (-7), 2) := by decide +kernel
theorem dX7_refusalOfLook_58 : decode cX7_refusalOfLook 58 = .ok (.ireturn, 1) := by decide +kernel
theorem dX8_init_0 : decode cX8_init 0 = .ok (.aload_n 0, 1) := by decide +kernel
theorem dX8_init_1 : decode cX8_init 1 = .ok (.invokespecial 1, 3) := by decide +kernel
theorem dX8_init_4 : decode cX8_init 4 = .ok (.aload_n 0, 1) := by decide +kernel
theorem dX8_init_5 : decode cX8_init 5 = .ok (.bipush 56, 2) := by decide +kernel
theorem dX8_init_7 : decode cX8_init 7 = .ok (.newarray .int, 2) := by decide +kernel
theorem dX8_init_9 : decode cX8_init 9 = .ok (.putfield 7, 3) := by decide +kernel
theorem dX8_init_12 : decode cX8_init 12 = .ok (.aload_n 0, 1) := by decide +kernel
theorem dX8_init_13 : decode cX8_init 13 = .ok (.bipush 36, 2) := by decide +kernel
theorem dX8_init_15 : decode cX8_init 15 = .ok (.newarray .int, 2) := by decide +kernel
theorem dX8_init_17 : decode cX8_init 17 = .ok (.putfield 13, 3) := by decide +kernel
theorem dX8_init_20 : decode cX8_init 20 = .ok (.aload_n 0, 1) := by decide +kernel
theorem dX8_init_21 : decode cX8_init 21 = .ok (.bipush 36, 2) := by decide +kernel
theorem dX8_init_23 : decode cX8_init 23 = .ok (.newarray .int, 2) := by decide +kernel
theorem dX8_init_25 : decode cX8_init 25 = .ok (.putfield 16, 3) := by decide +kernel
theorem dX8_init_28 : decode cX8_init 28 = .ok (.aload_n 0, 1) := by decide +kernel
theorem dX8_init_29 : decode cX8_init 29 = .ok (.bipush 36, 2) := by decide +kernel
theorem dX8_init_31 : decode cX8_init 31 = .ok (.newarray .int, 2) := by decide +kernel
theorem dX8_init_33 : decode cX8_init 33 = .ok (.putfield 19, 3) := by decide +kernel
theorem dX8_init_36 : decode cX8_init 36 = .ok (.aload_n 0, 1) := by decide +kernel
theorem dX8_init_37 : decode cX8_init 37 = .ok (.iconst 4, 1) := by decide +kernel
theorem dX8_init_38 : decode cX8_init 38 = .ok (.newarray .int, 2) := by decide +kernel
theorem dX8_init_40 : decode cX8_init 40 = .ok (.putfield 22, 3) := by decide +kernel
theorem dX8_init_43 : decode cX8_init 43 = .ok (.aload_n 0, 1) := by decide +kernel
theorem dX8_init_44 : decode cX8_init 44 = .ok (.iconst 4, 1) := by decide +kernel
theorem dX8_init_45 : decode cX8_init 45 = .ok (.newarray .int, 2) := by decide +kernel
theorem dX8_init_47 : decode cX8_init 47 = .ok (.putfield 25, 3) := by decide +kernel
theorem dX8_init_50 : decode cX8_init 50 = .ok (.aload_n 0, 1) := by decide +kernel
theorem dX8_init_51 : decode cX8_init 51 = .ok (.iconst 4, 1) := by decide +kernel
theorem dX8_init_52 : decode cX8_init 52 = .ok (.newarray .int, 2) := by decide +kernel
theorem dX8_init_54 : decode cX8_init 54 = .ok (.putfield 28, 3) := by decide +kernel
theorem dX8_init_57 : decode cX8_init 57 = .ok (.aload_n 0, 1) := by decide +kernel
theorem dX8_init_58 : decode cX8_init 58 = .ok (.sipush 160, 3) := by decide +kernel
theorem dX8_init_61 : decode cX8_init 61 = .ok (.newarray .int, 2) := by decide +kernel
theorem dX8_init_63 : decode cX8_init 63 = .ok (.putfield 31, 3) := by decide +kernel
theorem dX8_init_66 : decode cX8_init 66 = .ok (.aload_n 0, 1) := by decide +kernel
theorem dX8_init_67 : decode cX8_init 67 = .ok (.sipush 1020, 3) := by decide +kernel
theorem dX8_init_70 : decode cX8_init 70 = .ok (.newarray .int, 2) := by decide +kernel
theorem dX8_init_72 : decode cX8_init 72 = .ok (.putfield 34, 3) := by decide +kernel
theorem dX8_init_75 : decode cX8_init 75 = .ok (.aload_n 0, 1) := by decide +kernel
theorem dX8_init_76 : decode cX8_init 76 = .ok (.bipush 24, 2) := by decide +kernel
theorem dX8_init_78 : decode cX8_init 78 = .ok (.newarray .int, 2) := by decide +kernel
theorem dX8_init_80 : decode cX8_init 80 = .ok (.putfield 37, 3) := by decide +kernel
theorem dX8_init_83 : decode cX8_init 83 = .ok (.aload_n 0, 1) := by decide +kernel
theorem dX8_init_84 : decode cX8_init 84 = .ok (.sipush 170, 3) := by decide +kernel
theorem dX8_init_87 : decode cX8_init 87 = .ok (.newarray .int, 2) := by decide +kernel
theorem dX8_init_89 : decode cX8_init 89 = .ok (.putfield 40, 3) := by decide +kernel
theorem dX8_init_92 : decode cX8_init 92 = .ok (.aload_n 0, 1) := by decide +kernel
theorem dX8_init_93 : decode cX8_init 93 = .ok (.bipush 36, 2) := by decide +kernel
theorem dX8_init_95 : decode cX8_init 95 = .ok (.newarray .int, 2) := by decide +kernel
theorem dX8_init_97 : decode cX8_init 97 = .ok (.putfield 43, 3) := by decide +kernel
theorem dX8_init_100 : decode cX8_init 100 = .ok (.aload_n 0, 1) := by decide +kernel
theorem dX8_init_101 : decode cX8_init 101 = .ok (.bipush 36, 2) := by decide +kernel
theorem dX8_init_103 : decode cX8_init 103 = .ok (.newarray .int, 2) := by decide +kernel
theorem dX8_init_105 : decode cX8_init 105 = .ok (.putfield 46, 3) := by decide +kernel
theorem dX8_init_108 : decode cX8_init 108 = .ok (.aload_n 0, 1) := by decide +kernel
theorem dX8_init_109 : decode cX8_init 109 = .ok (.bipush 36, 2) := by decide +kernel
theorem dX8_init_111 : decode cX8_init 111 = .ok (.newarray .int, 2) := by decide +kernel
theorem dX8_init_113 : decode cX8_init 113 = .ok (.putfield 49, 3) := by decide +kernel
theorem dX8_init_116 : decode cX8_init 116 = .ok (.aload_n 0, 1) := by decide +kernel
theorem dX8_init_117 : decode cX8_init 117 = .ok (.iconst 4, 1) := by decide +kernel
theorem dX8_init_118 : decode cX8_init 118 = .ok (.newarray .int, 2) := by decide +kernel
theorem dX8_init_120 : decode cX8_init 120 = .ok (.putfield 52, 3) := by decide +kernel
theorem dX8_init_123 : decode cX8_init 123 = .ok (.aload_n 0, 1) := by decide +kernel
theorem dX8_init_124 : decode cX8_init 124 = .ok (.iconst 4, 1) := by decide +kernel
theorem dX8_init_125 : decode cX8_init 125 = .ok (.newarray .int, 2) := by decide +kernel
theorem dX8_init_127 : decode cX8_init 127 = .ok (.putfield 55, 3) := by decide +kernel
theorem dX8_init_130 : decode cX8_init 130 = .ok (.aload_n 0, 1) := by decide +kernel
theorem dX8_init_131 : decode cX8_init 131 = .ok (.bipush 36, 2) := by decide +kernel
theorem dX8_init_133 : decode cX8_init 133 = .ok (.newarray .int, 2) := by decide +kernel
theorem dX8_init_135 : decode cX8_init 135 = .ok (.putfield 58, 3) := by decide +kernel
theorem dX8_init_138 : decode cX8_init 138 = .ok (.aload_n 0, 1) := by decide +kernel
theorem dX8_init_139 : decode cX8_init 139 = .ok (.bipush 36, 2) := by decide +kernel
theorem dX8_init_141 : decode cX8_init 141 = .ok (.newarray .int, 2) := by decide +kernel
theorem dX8_init_143 : decode cX8_init 143 = .ok (.putfield 61, 3) := by decide +kernel
theorem dX8_init_146 : decode cX8_init 146 = .ok (.aload_n 0, 1) := by decide +kernel
theorem dX8_init_147 : decode cX8_init 147 = .ok (.bipush 56, 2) := by decide +kernel
theorem dX8_init_149 : decode cX8_init 149 = .ok (.newarray .int, 2) := by decide +kernel
theorem dX8_init_151 : decode cX8_init 151 = .ok (.putfield 64, 3) := by decide +kernel
theorem dX8_init_154 : decode cX8_init 154 = .ok (.aload_n 0, 1) := by decide +kernel
theorem dX8_init_155 : decode cX8_init 155 = .ok (.bipush 56, 2) := by decide +kernel
theorem dX8_init_157 : decode cX8_init 157 = .ok (.newarray .int, 2) := by decide +kernel
theorem dX8_init_159 : decode cX8_init 159 = .ok (.putfield 67, 3) := by decide +kernel
theorem dX8_init_162 : decode cX8_init 162 = .ok (.aload_n 0, 1) := by decide +kernel
theorem dX8_init_163 : decode cX8_init 163 = .ok (.bipush 108, 2) := by decide +kernel
theorem dX8_init_165 : decode cX8_init 165 = .ok (.newarray .int, 2) := by decide +kernel
theorem dX8_init_167 : decode cX8_init 167 = .ok (.putfield 70, 3) := by decide +kernel
theorem dX8_init_170 : decode cX8_init 170 = .ok (.aload_n 0, 1) := by decide +kernel
theorem dX8_init_171 : decode cX8_init 171 = .ok (.iconst 4, 1) := by decide +kernel
theorem dX8_init_172 : decode cX8_init 172 = .ok (.newarray .int, 2) := by decide +kernel
theorem dX8_init_174 : decode cX8_init 174 = .ok (.putfield 73, 3) := by decide +kernel
theorem dX8_init_177 : decode cX8_init 177 = .ok (.aload_n 0, 1) := by decide +kernel
theorem dX8_init_178 : decode cX8_init 178 = .ok (.iconst 4, 1) := by decide +kernel
theorem dX8_init_179 : decode cX8_init 179 = .ok (.newarray .int, 2) := by decide +kernel
theorem dX8_init_181 : decode cX8_init 181 = .ok (.putfield 76, 3) := by decide +kernel
theorem dX8_init_184 : decode cX8_init 184 = .ok (.aload_n 0, 1) := by decide +kernel
theorem dX8_init_185 : decode cX8_init 185 = .ok (.sipush 160, 3) := by decide +kernel
theorem dX8_init_188 : decode cX8_init 188 = .ok (.newarray .int, 2) := by decide +kernel
theorem dX8_init_190 : decode cX8_init 190 = .ok (.putfield 79, 3) := by decide +kernel
theorem dX8_init_193 : decode cX8_init 193 = .ok (.aload_n 0, 1) := by decide +kernel
theorem dX8_init_194 : decode cX8_init 194 = .ok (.bipush 40, 2) := by decide +kernel
theorem dX8_init_196 : decode cX8_init 196 = .ok (.newarray .int, 2) := by decide +kernel
theorem dX8_init_198 : decode cX8_init 198 = .ok (.putfield 82, 3) := by decide +kernel
theorem dX8_init_201 : decode cX8_init 201 = .ok (.iconst 0, 1) := by decide +kernel
theorem dX8_init_202 : decode cX8_init 202 = .ok (.istore_n 1, 1) := by decide +kernel
theorem dX8_init_203 : decode cX8_init 203 = .ok (.iload_n 1, 1) := by decide +kernel
theorem dX8_init_204 : decode cX8_init 204 = .ok (.iconst 4, 1) := by decide +kernel
theorem dX8_init_205 : decode cX8_init 205 = .ok (.if_icmp .ge 16, 3) := by decide +kernel
theorem dX8_init_208 : decode cX8_init 208 = .ok (.aload_n 0, 1) := by decide +kernel
theorem dX8_init_209 : decode cX8_init 209 = .ok (.getfield 73, 3) := by decide +kernel
theorem dX8_init_212 : decode cX8_init 212 = .ok (.iload_n 1, 1) := by decide +kernel
theorem dX8_init_213 : decode cX8_init 213 = .ok (.iconst (-1), 1) := by decide +kernel
theorem dX8_init_214 : decode cX8_init 214 = .ok (.iastore, 1) := by decide +kernel
theorem dX8_init_215 : decode cX8_init 215 = .ok (.iinc 1 1, 3) := by decide +kernel
theorem dX8_init_218 : decode cX8_init 218 = .ok (.goto (-15), 3) := by decide +kernel
theorem dX8_init_221 : decode cX8_init 221 = .ok (.aload_n 0, 1) := by decide +kernel
theorem dX8_init_222 : decode cX8_init 222 = .ok (.lconst 1, 1) := by decide +kernel
theorem dX8_init_223 : decode cX8_init 223 = .ok (.putfield 85, 3) := by decide +kernel
theorem dX8_init_226 : decode cX8_init 226 = .ok (.ldc 89, 2) := by decide +kernel
theorem dX8_init_228 : decode cX8_init 228 = .ok (.astore_n 1, 1) := by decide +kernel
theorem dX8_init_229 : decode cX8_init 229 = .ok (.iconst 0, 1) := by decide +kernel
theorem dX8_init_230 : decode cX8_init 230 = .ok (.istore_n 2, 1) := by decide +kernel
theorem dX8_init_231 : decode cX8_init 231 = .ok (.iload_n 2, 1) := by decide +kernel
theorem dX8_init_232 : decode cX8_init 232 = .ok (.aload_n 1, 1) := by decide +kernel
theorem dX8_init_233 : decode cX8_init 233 = .ok (.invokevirtual 91, 3) := by decide +kernel
theorem dX8_init_236 : decode cX8_init 236 = .ok (.if_icmp .ge 30, 3) := by decide +kernel
theorem dX8_init_239 : decode cX8_init 239 = .ok (.aload_n 0, 1) := by decide +kernel
theorem dX8_init_240 : decode cX8_init 240 = .ok (.getfield 31, 3) := by decide +kernel
theorem dX8_init_243 : decode cX8_init 243 = .ok (.aload_n 0, 1) := by decide +kernel
theorem dX8_init_244 : decode cX8_init 244 = .ok (.dup, 1) := by decide +kernel
theorem dX8_init_245 : decode cX8_init 245 = .ok (.getfield 97, 3) := by decide +kernel
theorem dX8_init_248 : decode cX8_init 248 = .ok (.dup_x1, 1) := by decide +kernel
theorem dX8_init_249 : decode cX8_init 249 = .ok (.iconst 1, 1) := by decide +kernel
theorem dX8_init_250 : decode cX8_init 250 = .ok (.iadd, 1) := by decide +kernel
theorem dX8_init_251 : decode cX8_init 251 = .ok (.putfield 97, 3) := by decide +kernel
theorem dX8_init_254 : decode cX8_init 254 = .ok (.aload_n 1, 1) := by decide +kernel
theorem dX8_init_255 : decode cX8_init 255 = .ok (.iload_n 2, 1) := by decide +kernel
theorem dX8_init_256 : decode cX8_init 256 = .ok (.invokevirtual 101, 3) := by decide +kernel
theorem dX8_init_259 : decode cX8_init 259 = .ok (.iastore, 1) := by decide +kernel
theorem dX8_init_260 : decode cX8_init 260 = .ok (.iinc 2 1, 3) := by decide +kernel
theorem dX8_init_263 : decode cX8_init 263 = .ok (.goto (-32), 3) := by decide +kernel
theorem dX8_init_266 : decode cX8_init 266 = .ok (.aload_n 0, 1) := by decide +kernel
theorem dX8_init_267 : decode cX8_init 267 = .ok (.invokevirtual 105, 3) := by decide +kernel
theorem dX8_init_270 : decode cX8_init 270 = .ok (.pop, 1) := by decide +kernel
theorem dX8_init_271 : decode cX8_init 271 = .ok (.return_, 1) := by decide +kernel
theorem dX8_within_0 : decode cX8_within 0 = .ok (.iload_n 0, 1) := by decide +kernel
theorem dX8_within_1 : decode cX8_within 1 = .ok (.iload_n 1, 1) := by decide +kernel
theorem dX8_within_2 : decode cX8_within 2 = .ok (.if_icmp .lt 12, 3) := by decide +kernel
theorem dX8_within_5 : decode cX8_within 5 = .ok (.iload_n 0, 1) := by decide +kernel
theorem dX8_within_6 : decode cX8_within 6 = .ok (.iload_n 2, 1) := by decide +kernel
theorem dX8_within_7 : decode cX8_within 7 = .ok (.if_icmp .gt 7, 3) := by decide +kernel
theorem dX8_within_10 : decode cX8_within 10 = .ok (.iconst 1, 1) := by decide +kernel
theorem dX8_within_11 : decode cX8_within 11 = .ok (.goto 4, 3) := by decide +kernel
theorem dX8_within_14 : decode cX8_within 14 = .ok (.iconst 0, 1) := by decide +kernel
theorem dX8_within_15 : decode cX8_within 15 = .ok (.ireturn, 1) := by decide +kernel
theorem dX8_isCell_0 : decode cX8_isCell 0 = .ok (.iload_n 0, 1) := by decide +kernel
theorem dX8_isCell_1 : decode cX8_isCell 1 = .ok (.iconst 0, 1) := by decide +kernel
theorem dX8_isCell_2 : decode cX8_isCell 2 = .ok (.bipush 35, 2) := by decide +kernel
theorem dX8_isCell_4 : decode cX8_isCell 4 = .ok (.invokestatic 108, 3) := by decide +kernel
theorem dX8_isCell_7 : decode cX8_isCell 7 = .ok (.ireturn, 1) := by decide +kernel
theorem dX8_isTree_0 : decode cX8_isTree 0 = .ok (.iload_n 1, 1) := by decide +kernel
theorem dX8_isTree_1 : decode cX8_isTree 1 = .ok (.iconst 0, 1) := by decide +kernel
theorem dX8_isTree_2 : decode cX8_isTree 2 = .ok (.aload_n 0, 1) := by decide +kernel
theorem dX8_isTree_3 : decode cX8_isTree 3 = .ok (.getfield 112, 3) := by decide +kernel
theorem dX8_isTree_6 : decode cX8_isTree 6 = .ok (.iconst 1, 1) := by decide +kernel
theorem dX8_isTree_7 : decode cX8_isTree 7 = .ok (.isub, 1) := by decide +kernel
theorem dX8_isTree_8 : decode cX8_isTree 8 = .ok (.invokestatic 108, 3) := by decide +kernel
theorem dX8_isTree_11 : decode cX8_isTree 11 = .ok (.ireturn, 1) := by decide +kernel
theorem dX8_sky_0 : decode cX8_sky 0 = .ok (.iload_n 1, 1) := by decide +kernel
theorem dX8_sky_1 : decode cX8_sky 1 = .ok (.iconst 0, 1) := by decide +kernel
theorem dX8_sky_2 : decode cX8_sky 2 = .ok (.bipush 13, 2) := by decide +kernel
theorem dX8_sky_4 : decode cX8_sky 4 = .ok (.invokestatic 108, 3) := by decide +kernel
theorem dX8_sky_7 : decode cX8_sky 7 = .ok (.ifCond .ne 6, 3) := by decide +kernel
theorem dX8_sky_10 : decode cX8_sky 10 = .ok (.bipush (-5), 2) := by decide +kernel
theorem dX8_sky_12 : decode cX8_sky 12 = .ok (.ireturn, 1) := by decide +kernel
theorem dX8_sky_13 : decode cX8_sky 13 = .ok (.iload_n 2, 1) := by decide +kernel
theorem dX8_sky_14 : decode cX8_sky 14 = .ok (.iconst 0, 1) := by decide +kernel
theorem dX8_sky_15 : decode cX8_sky 15 = .ok (.iconst 3, 1) := by decide +kernel
theorem dX8_sky_16 : decode cX8_sky 16 = .ok (.invokestatic 108, 3) := by decide +kernel
theorem dX8_sky_19 : decode cX8_sky 19 = .ok (.ifCond .eq 30, 3) := by decide +kernel
theorem dX8_sky_22 : decode cX8_sky 22 = .ok (.iload_n 3, 1) := by decide +kernel
theorem dX8_sky_23 : decode cX8_sky 23 = .ok (.iconst 0, 1) := by decide +kernel
theorem dX8_sky_24 : decode cX8_sky 24 = .ok (.iload_n 2, 1) := by decide +kernel
theorem dX8_sky_25 : decode cX8_sky 25 = .ok (.ifCond .ne 7, 3) := by decide +kernel
theorem dX8_sky_28 : decode cX8_sky 28 = .ok (.iconst 3, 1) := by decide +kernel
theorem dX8_sky_29 : decode cX8_sky 29 = .ok (.goto 14, 3) := by decide +kernel
theorem dX8_sky_32 : decode cX8_sky 32 = .ok (.iload_n 2, 1) := by decide +kernel
theorem dX8_sky_33 : decode cX8_sky 33 = .ok (.iconst 1, 1) := by decide +kernel
theorem dX8_sky_34 : decode cX8_sky 34 = .ok (.if_icmp .ne 8, 3) := by decide +kernel
theorem dX8_sky_37 : decode cX8_sky 37 = .ok (.bipush 9, 2) := by decide +kernel
theorem dX8_sky_39 : decode cX8_sky 39 = .ok (.goto 4, 3) := by decide +kernel
theorem dX8_sky_42 : decode cX8_sky 42 = .ok (.iconst 1, 1) := by decide +kernel
theorem dX8_sky_43 : decode cX8_sky 43 = .ok (.invokestatic 108, 3) := by decide +kernel
theorem dX8_sky_46 : decode cX8_sky 46 = .ok (.ifCond .ne 6, 3) := by decide +kernel
theorem dX8_sky_49 : decode cX8_sky 49 = .ok (.bipush (-7), 2) := by decide +kernel
theorem dX8_sky_51 : decode cX8_sky 51 = .ok (.ireturn, 1) := by decide +kernel
theorem dX8_sky_52 : decode cX8_sky 52 = .ok (.aload_n 0, 1) := by decide +kernel
theorem dX8_sky_53 : decode cX8_sky 53 = .ok (.getfield 7, 3) := by decide +kernel
theorem dX8_sky_56 : decode cX8_sky 56 = .ok (.iconst 4, 1) := by decide +kernel
theorem dX8_sky_57 : decode cX8_sky 57 = .ok (.iload_n 1, 1) := by decide +kernel
theorem dX8_sky_58 : decode cX8_sky 58 = .ok (.imul, 1) := by decide +kernel
theorem dX8_sky_59 : decode cX8_sky 59 = .ok (.iload_n 2, 1) := by decide +kernel
theorem dX8_sky_60 : decode cX8_sky 60 = .ok (.iadd, 1) := by decide +kernel
theorem dX8_sky_61 : decode cX8_sky 61 = .ok (.iaload, 1) := by decide +kernel
theorem dX8_sky_62 : decode cX8_sky 62 = .ok (.istore 4, 2) := by decide +kernel
theorem dX8_sky_64 : decode cX8_sky 64 = .ok (.aload_n 0, 1) := by decide +kernel
theorem dX8_sky_65 : decode cX8_sky 65 = .ok (.getfield 7, 3) := by decide +kernel
theorem dX8_sky_68 : decode cX8_sky 68 = .ok (.iconst 4, 1) := by decide +kernel
theorem dX8_sky_69 : decode cX8_sky 69 = .ok (.iload_n 1, 1) := by decide +kernel
theorem dX8_sky_70 : decode cX8_sky 70 = .ok (.imul, 1) := by decide +kernel
theorem dX8_sky_71 : decode cX8_sky 71 = .ok (.iload_n 2, 1) := by decide +kernel
theorem dX8_sky_72 : decode cX8_sky 72 = .ok (.iadd, 1) := by decide +kernel
theorem dX8_sky_73 : decode cX8_sky 73 = .ok (.iload_n 3, 1) := by decide +kernel
theorem dX8_sky_74 : decode cX8_sky 74 = .ok (.iastore, 1) := by decide +kernel
theorem dX8_sky_75 : decode cX8_sky 75 = .ok (.iload 4, 2) := by decide +kernel
theorem dX8_sky_77 : decode cX8_sky 77 = .ok (.ireturn, 1) := by decide +kernel
theorem dX8_skyTold_0 : decode cX8_skyTold 0 = .ok (.iload_n 1, 1) := by decide +kernel
theorem dX8_skyTold_1 : decode cX8_skyTold 1 = .ok (.iconst 0, 1) := by decide +kernel
theorem dX8_skyTold_2 : decode cX8_skyTold 2 = .ok (.bipush 13, 2) := by decide +kernel
theorem dX8_skyTold_4 : decode cX8_skyTold 4 = .ok (.invokestatic 108, 3) := by decide +kernel
theorem dX8_skyTold_7 : decode cX8_skyTold 7 = .ok (.ifCond .ne 8, 3) := by decide +kernel
theorem dX8_skyTold_10 : decode cX8_skyTold 10 = .ok (.bipush (-5), 2) := by decide +kernel
theorem dX8_skyTold_12 : decode cX8_skyTold 12 = .ok (.goto 27, 3) := by decide +kernel
theorem dX8_skyTold_15 : decode cX8_skyTold 15 = .ok (.iload_n 2, 1) := by decide +kernel
theorem dX8_skyTold_16 : decode cX8_skyTold 16 = .ok (.iconst 0, 1) := by decide +kernel
theorem dX8_skyTold_17 : decode cX8_skyTold 17 = .ok (.iconst 3, 1) := by decide +kernel
theorem dX8_skyTold_18 : decode cX8_skyTold 18 = .ok (.invokestatic 108, 3) := by decide +kernel
theorem dX8_skyTold_21 : decode cX8_skyTold 21 = .ok (.ifCond .ne 8, 3) := by decide +kernel
theorem dX8_skyTold_24 : decode cX8_skyTold 24 = .ok (.bipush (-7), 2) := by decide +kernel
theorem dX8_skyTold_26 : decode cX8_skyTold 26 = .ok (.goto 13, 3) := by decide +kernel
theorem dX8_skyTold_29 : decode cX8_skyTold 29 = .ok (.aload_n 0, 1) := by decide +kernel
theorem dX8_skyTold_30 : decode cX8_skyTold 30 = .ok (.getfield 7, 3) := by decide +kernel
theorem dX8_skyTold_33 : decode cX8_skyTold 33 = .ok (.iconst 4, 1) := by decide +kernel
theorem dX8_skyTold_34 : decode cX8_skyTold 34 = .ok (.iload_n 1, 1) := by decide +kernel
theorem dX8_skyTold_35 : decode cX8_skyTold 35 = .ok (.imul, 1) := by decide +kernel
theorem dX8_skyTold_36 : decode cX8_skyTold 36 = .ok (.iload_n 2, 1) := by decide +kernel
theorem dX8_skyTold_37 : decode cX8_skyTold 37 = .ok (.iadd, 1) := by decide +kernel
theorem dX8_skyTold_38 : decode cX8_skyTold 38 = .ok (.iaload, 1) := by decide +kernel
theorem dX8_skyTold_39 : decode cX8_skyTold 39 = .ok (.ireturn, 1) := by decide +kernel
theorem dX8_count_0 : decode cX8_count 0 = .ok (.iload_n 1, 1) := by decide +kernel
theorem dX8_count_1 : decode cX8_count 1 = .ok (.tableswitch 60 0 4 #[35, 40, 45, 50, 55], 35) := by decide +kernel
theorem dX8_count_36 : decode cX8_count 36 = .ok (.aload_n 0, 1) := by decide +kernel
theorem dX8_count_37 : decode cX8_count 37 = .ok (.getfield 112, 3) := by decide +kernel
theorem dX8_count_40 : decode cX8_count 40 = .ok (.ireturn, 1) := by decide +kernel
theorem dX8_count_41 : decode cX8_count 41 = .ok (.aload_n 0, 1) := by decide +kernel
theorem dX8_count_42 : decode cX8_count 42 = .ok (.getfield 115, 3) := by decide +kernel
theorem dX8_count_45 : decode cX8_count 45 = .ok (.ireturn, 1) := by decide +kernel
theorem dX8_count_46 : decode cX8_count 46 = .ok (.aload_n 0, 1) := by decide +kernel
theorem dX8_count_47 : decode cX8_count 47 = .ok (.getfield 118, 3) := by decide +kernel
theorem dX8_count_50 : decode cX8_count 50 = .ok (.ireturn, 1) := by decide +kernel
theorem dX8_count_51 : decode cX8_count 51 = .ok (.aload_n 0, 1) := by decide +kernel
theorem dX8_count_52 : decode cX8_count 52 = .ok (.getfield 121, 3) := by decide +kernel
theorem dX8_count_55 : decode cX8_count 55 = .ok (.ireturn, 1) := by decide +kernel
theorem dX8_count_56 : decode cX8_count 56 = .ok (.aload_n 0, 1) := by decide +kernel
theorem dX8_count_57 : decode cX8_count 57 = .ok (.getfield 97, 3) := by decide +kernel
theorem dX8_count_60 : decode cX8_count 60 = .ok (.ireturn, 1) := by decide +kernel
theorem dX8_count_61 : decode cX8_count 61 = .ok (.bipush (-2), 2) := by decide +kernel
theorem dX8_count_63 : decode cX8_count 63 = .ok (.ireturn, 1) := by decide +kernel
theorem dX8_feed_0 : decode cX8_feed 0 = .ok (.iload_n 1, 1) := by decide +kernel
theorem dX8_feed_1 : decode cX8_feed 1 = .ok (.iconst 1, 1) := by decide +kernel
theorem dX8_feed_2 : decode cX8_feed 2 = .ok (.iconst 5, 1) := by decide +kernel
theorem dX8_feed_3 : decode cX8_feed 3 = .ok (.invokestatic 108, 3) := by decide +kernel
theorem dX8_feed_6 : decode cX8_feed 6 = .ok (.ifCond .ne 6, 3) := by decide +kernel
theorem dX8_feed_9 : decode cX8_feed 9 = .ok (.bipush (-2), 2) := by decide +kernel
theorem dX8_feed_11 : decode cX8_feed 11 = .ok (.ireturn, 1) := by decide +kernel
theorem dX8_feed_12 : decode cX8_feed 12 = .ok (.iconst 0, 1) := by decide +kernel
theorem dX8_feed_13 : decode cX8_feed 13 = .ok (.istore 7, 2) := by decide +kernel
theorem dX8_feed_15 : decode cX8_feed 15 = .ok (.iload 7, 2) := by decide +kernel
theorem dX8_feed_17 : decode cX8_feed 17 = .ok (.iconst 5, 1) := by decide +kernel
theorem dX8_feed_18 : decode cX8_feed 18 = .ok (.if_icmp .ge 65, 3) := by decide +kernel
theorem dX8_feed_21 : decode cX8_feed 21 = .ok (.iload 7, 2) := by decide +kernel
theorem dX8_feed_23 : decode cX8_feed 23 = .ok (.ifCond .ne 7, 3) := by decide +kernel
theorem dX8_feed_26 : decode cX8_feed 26 = .ok (.iload_n 2, 1) := by decide +kernel
theorem dX8_feed_27 : decode cX8_feed 27 = .ok (.goto 37, 3) := by decide +kernel
theorem dX8_feed_30 : decode cX8_feed 30 = .ok (.iload 7, 2) := by decide +kernel
theorem dX8_feed_32 : decode cX8_feed 32 = .ok (.iconst 1, 1) := by decide +kernel
theorem dX8_feed_33 : decode cX8_feed 33 = .ok (.if_icmp .ne 7, 3) := by decide +kernel
theorem dX8_feed_36 : decode cX8_feed 36 = .ok (.iload_n 3, 1) := by decide +kernel
theorem dX8_feed_37 : decode cX8_feed 37 = .ok (.goto 27, 3) := by decide +kernel
theorem dX8_feed_40 : decode cX8_feed 40 = .ok (.iload 7, 2) := by decide +kernel
theorem dX8_feed_42 : decode cX8_feed 42 = .ok (.iconst 2, 1) := by decide +kernel
theorem dX8_feed_43 : decode cX8_feed 43 = .ok (.if_icmp .ne 8, 3) := by decide +kernel
theorem dX8_feed_46 : decode cX8_feed 46 = .ok (.iload 4, 2) := by decide +kernel
theorem dX8_feed_48 : decode cX8_feed 48 = .ok (.goto 16, 3) := by decide +kernel
theorem dX8_feed_51 : decode cX8_feed 51 = .ok (.iload 7, 2) := by decide +kernel
theorem dX8_feed_53 : decode cX8_feed 53 = .ok (.iconst 3, 1) := by decide +kernel
theorem dX8_feed_54 : decode cX8_feed 54 = .ok (.if_icmp .ne 8, 3) := by decide +kernel
theorem dX8_feed_57 : decode cX8_feed 57 = .ok (.iload 5, 2) := by decide +kernel
theorem dX8_feed_59 : decode cX8_feed 59 = .ok (.goto 5, 3) := by decide +kernel
theorem dX8_feed_62 : decode cX8_feed 62 = .ok (.iload 6, 2) := by decide +kernel
theorem dX8_feed_64 : decode cX8_feed 64 = .ok (.iconst 0, 1) := by decide +kernel
theorem dX8_feed_65 : decode cX8_feed 65 = .ok (.sipush 255, 3) := by decide +kernel
theorem dX8_feed_68 : decode cX8_feed 68 = .ok (.invokestatic 108, 3) := by decide +kernel
theorem dX8_feed_71 : decode cX8_feed 71 = .ok (.ifCond .ne 6, 3) := by decide +kernel
theorem dX8_feed_74 : decode cX8_feed 74 = .ok (.bipush (-2), 2) := by decide +kernel
theorem dX8_feed_76 : decode cX8_feed 76 = .ok (.ireturn, 1) := by decide +kernel
theorem dX8_feed_77 : decode cX8_feed 77 = .ok (.iinc 7 1, 3) := by decide +kernel
theorem dX8_feed_80 : decode cX8_feed 80 = .ok (.goto (-65), 3) := by decide +kernel
theorem dX8_feed_83 : decode cX8_feed 83 = .ok (.aload_n 0, 1) := by decide +kernel
theorem dX8_feed_84 : decode cX8_feed 84 = .ok (.getfield 97, 3) := by decide +kernel
theorem dX8_feed_87 : decode cX8_feed 87 = .ok (.iload_n 1, 1) := by decide +kernel
theorem dX8_feed_88 : decode cX8_feed 88 = .ok (.iadd, 1) := by decide +kernel
theorem dX8_feed_89 : decode cX8_feed 89 = .ok (.sipush 160, 3) := by decide +kernel
theorem dX8_feed_92 : decode cX8_feed 92 = .ok (.if_icmp .le 6, 3) := by decide +kernel
theorem dX8_feed_95 : decode cX8_feed 95 = .ok (.bipush (-4), 2) := by decide +kernel
theorem dX8_feed_97 : decode cX8_feed 97 = .ok (.ireturn, 1) := by decide +kernel
theorem dX8_feed_98 : decode cX8_feed 98 = .ok (.iconst 0, 1) := by decide +kernel
theorem dX8_feed_99 : decode cX8_feed 99 = .ok (.istore 7, 2) := by decide +kernel
theorem dX8_feed_101 : decode cX8_feed 101 = .ok (.iload 7, 2) := by decide +kernel
theorem dX8_feed_103 : decode cX8_feed 103 = .ok (.iload_n 1, 1) := by decide +kernel
theorem dX8_feed_104 : decode cX8_feed 104 = .ok (.if_icmp .ge 68, 3) := by decide +kernel
theorem dX8_feed_107 : decode cX8_feed 107 = .ok (.aload_n 0, 1) := by decide +kernel
theorem dX8_feed_108 : decode cX8_feed 108 = .ok (.getfield 31, 3) := by decide +kernel
theorem dX8_feed_111 : decode cX8_feed 111 = .ok (.aload_n 0, 1) := by decide +kernel
theorem dX8_feed_112 : decode cX8_feed 112 = .ok (.dup, 1) := by decide +kernel
theorem dX8_feed_113 : decode cX8_feed 113 = .ok (.getfield 97, 3) := by decide +kernel
theorem dX8_feed_116 : decode cX8_feed 116 = .ok (.dup_x1, 1) := by decide +kernel
theorem dX8_feed_117 : decode cX8_feed 117 = .ok (.iconst 1, 1) := by decide +kernel
theorem dX8_feed_118 : decode cX8_feed 118 = .ok (.iadd, 1) := by decide +kernel
theorem dX8_feed_119 : decode cX8_feed 119 = .ok (.putfield 97, 3) := by decide +kernel
theorem dX8_feed_122 : decode cX8_feed 122 = .ok (.iload 7, 2) := by decide +kernel
theorem dX8_feed_124 : decode cX8_feed 124 = .ok (.ifCond .ne 7, 3) := by decide +kernel
theorem dX8_feed_127 : decode cX8_feed 127 = .ok (.iload_n 2, 1) := by decide +kernel
theorem dX8_feed_128 : decode cX8_feed 128 = .ok (.goto 37, 3) := by decide +kernel
theorem dX8_feed_131 : decode cX8_feed 131 = .ok (.iload 7, 2) := by decide +kernel
theorem dX8_feed_133 : decode cX8_feed 133 = .ok (.iconst 1, 1) := by decide +kernel
theorem dX8_feed_134 : decode cX8_feed 134 = .ok (.if_icmp .ne 7, 3) := by decide +kernel
theorem dX8_feed_137 : decode cX8_feed 137 = .ok (.iload_n 3, 1) := by decide +kernel
theorem dX8_feed_138 : decode cX8_feed 138 = .ok (.goto 27, 3) := by decide +kernel
theorem dX8_feed_141 : decode cX8_feed 141 = .ok (.iload 7, 2) := by decide +kernel
theorem dX8_feed_143 : decode cX8_feed 143 = .ok (.iconst 2, 1) := by decide +kernel
theorem dX8_feed_144 : decode cX8_feed 144 = .ok (.if_icmp .ne 8, 3) := by decide +kernel
theorem dX8_feed_147 : decode cX8_feed 147 = .ok (.iload 4, 2) := by decide +kernel
theorem dX8_feed_149 : decode cX8_feed 149 = .ok (.goto 16, 3) := by decide +kernel
theorem dX8_feed_152 : decode cX8_feed 152 = .ok (.iload 7, 2) := by decide +kernel
theorem dX8_feed_154 : decode cX8_feed 154 = .ok (.iconst 3, 1) := by decide +kernel
theorem dX8_feed_155 : decode cX8_feed 155 = .ok (.if_icmp .ne 8, 3) := by decide +kernel
theorem dX8_feed_158 : decode cX8_feed 158 = .ok (.iload 5, 2) := by decide +kernel
theorem dX8_feed_160 : decode cX8_feed 160 = .ok (.goto 5, 3) := by decide +kernel
theorem dX8_feed_163 : decode cX8_feed 163 = .ok (.iload 6, 2) := by decide +kernel
theorem dX8_feed_165 : decode cX8_feed 165 = .ok (.iastore, 1) := by decide +kernel
theorem dX8_feed_166 : decode cX8_feed 166 = .ok (.iinc 7 1, 3) := by decide +kernel
theorem dX8_feed_169 : decode cX8_feed 169 = .ok (.goto (-68), 3) := by decide +kernel
theorem dX8_feed_172 : decode cX8_feed 172 = .ok (.aload_n 0, 1) := by decide +kernel
theorem dX8_feed_173 : decode cX8_feed 173 = .ok (.getfield 97, 3) := by decide +kernel
theorem dX8_feed_176 : decode cX8_feed 176 = .ok (.ireturn, 1) := by decide +kernel
theorem dX8_next_0 : decode cX8_next 0 = .ok (.aload_n 0, 1) := by decide +kernel
theorem dX8_next_1 : decode cX8_next 1 = .ok (.getfield 124, 3) := by decide +kernel
theorem dX8_next_4 : decode cX8_next 4 = .ok (.aload_n 0, 1) := by decide +kernel
theorem dX8_next_5 : decode cX8_next 5 = .ok (.getfield 97, 3) := by decide +kernel
theorem dX8_next_8 : decode cX8_next 8 = .ok (.if_icmp .ge 44, 3) := by decide +kernel
theorem dX8_next_11 : decode cX8_next 11 = .ok (.aload_n 0, 1) := by decide +kernel
theorem dX8_next_12 : decode cX8_next 12 = .ok (.getfield 31, 3) := by decide +kernel
theorem dX8_next_15 : decode cX8_next 15 = .ok (.aload_n 0, 1) := by decide +kernel
theorem dX8_next_16 : decode cX8_next 16 = .ok (.getfield 124, 3) := by decide +kernel
theorem dX8_next_19 : decode cX8_next 19 = .ok (.iaload, 1) := by decide +kernel
theorem dX8_next_20 : decode cX8_next 20 = .ok (.bipush 32, 2) := by decide +kernel
theorem dX8_next_22 : decode cX8_next 22 = .ok (.if_icmp .eq 17, 3) := by decide +kernel
theorem dX8_next_25 : decode cX8_next 25 = .ok (.aload_n 0, 1) := by decide +kernel
theorem dX8_next_26 : decode cX8_next 26 = .ok (.getfield 31, 3) := by decide +kernel
theorem dX8_next_29 : decode cX8_next 29 = .ok (.aload_n 0, 1) := by decide +kernel
theorem dX8_next_30 : decode cX8_next 30 = .ok (.getfield 124, 3) := by decide +kernel
theorem dX8_next_33 : decode cX8_next 33 = .ok (.iaload, 1) := by decide +kernel
theorem dX8_next_34 : decode cX8_next 34 = .ok (.bipush 10, 2) := by decide +kernel
theorem dX8_next_36 : decode cX8_next 36 = .ok (.if_icmp .ne 16, 3) := by decide +kernel
theorem dX8_next_39 : decode cX8_next 39 = .ok (.aload_n 0, 1) := by decide +kernel
theorem dX8_next_40 : decode cX8_next 40 = .ok (.dup, 1) := by decide +kernel
theorem dX8_next_41 : decode cX8_next 41 = .ok (.getfield 124, 3) := by decide +kernel
theorem dX8_next_44 : decode cX8_next 44 = .ok (.iconst 1, 1) := by decide +kernel
theorem dX8_next_45 : decode cX8_next 45 = .ok (.iadd, 1) := by decide +kernel
theorem dX8_next_46 : decode cX8_next 46 = .ok (.putfield 124, 3) := by decide +kernel
theorem dX8_next_49 : decode cX8_next 49 = .ok (.goto (-49), 3) := by decide +kernel
theorem dX8_next_52 : decode cX8_next 52 = .ok (.aload_n 0, 1) := by decide +kernel
theorem dX8_next_53 : decode cX8_next 53 = .ok (.aload_n 0, 1) := by decide +kernel
theorem dX8_next_54 : decode cX8_next 54 = .ok (.getfield 124, 3) := by decide +kernel
theorem dX8_next_57 : decode cX8_next 57 = .ok (.putfield 127, 3) := by decide +kernel
theorem dX8_next_60 : decode cX8_next 60 = .ok (.aload_n 0, 1) := by decide +kernel
theorem dX8_next_61 : decode cX8_next 61 = .ok (.getfield 124, 3) := by decide +kernel
theorem dX8_next_64 : decode cX8_next 64 = .ok (.aload_n 0, 1) := by decide +kernel
theorem dX8_next_65 : decode cX8_next 65 = .ok (.getfield 97, 3) := by decide +kernel
theorem dX8_next_68 : decode cX8_next 68 = .ok (.if_icmp .ne 9, 3) := by decide +kernel
theorem dX8_next_71 : decode cX8_next 71 = .ok (.aload_n 0, 1) := by decide +kernel
theorem dX8_next_72 : decode cX8_next 72 = .ok (.iconst 0, 1) := by decide +kernel
theorem dX8_next_73 : decode cX8_next 73 = .ok (.putfield 130, 3) := by decide +kernel
theorem dX8_next_76 : decode cX8_next 76 = .ok (.return_, 1) := by decide +kernel
theorem dX8_next_77 : decode cX8_next 77 = .ok (.aload_n 0, 1) := by decide +kernel
theorem dX8_next_78 : decode cX8_next 78 = .ok (.getfield 31, 3) := by decide +kernel
theorem dX8_next_81 : decode cX8_next 81 = .ok (.aload_n 0, 1) := by decide +kernel
theorem dX8_next_82 : decode cX8_next 82 = .ok (.getfield 124, 3) := by decide +kernel
theorem dX8_next_85 : decode cX8_next 85 = .ok (.iaload, 1) := by decide +kernel
theorem dX8_next_86 : decode cX8_next 86 = .ok (.istore_n 1, 1) := by decide +kernel
theorem dX8_next_87 : decode cX8_next 87 = .ok (.iload_n 1, 1) := by decide +kernel
theorem dX8_next_88 : decode cX8_next 88 = .ok (.invokestatic 133, 3) := by decide +kernel
theorem dX8_next_91 : decode cX8_next 91 = .ok (.ifCond .eq 107, 3) := by decide +kernel
theorem dX8_next_94 : decode cX8_next 94 = .ok (.aload_n 0, 1) := by decide +kernel
theorem dX8_next_95 : decode cX8_next 95 = .ok (.iconst 0, 1) := by decide +kernel
theorem dX8_next_96 : decode cX8_next 96 = .ok (.putfield 137, 3) := by decide +kernel
theorem dX8_next_99 : decode cX8_next 99 = .ok (.aload_n 0, 1) := by decide +kernel
theorem dX8_next_100 : decode cX8_next 100 = .ok (.getfield 124, 3) := by decide +kernel
theorem dX8_next_103 : decode cX8_next 103 = .ok (.aload_n 0, 1) := by decide +kernel
theorem dX8_next_104 : decode cX8_next 104 = .ok (.getfield 97, 3) := by decide +kernel
theorem dX8_next_107 : decode cX8_next 107 = .ok (.if_icmp .ge 68, 3) := by decide +kernel
theorem dX8_next_110 : decode cX8_next 110 = .ok (.aload_n 0, 1) := by decide +kernel
theorem dX8_next_111 : decode cX8_next 111 = .ok (.getfield 31, 3) := by decide +kernel
theorem dX8_next_114 : decode cX8_next 114 = .ok (.aload_n 0, 1) := by decide +kernel
theorem dX8_next_115 : decode cX8_next 115 = .ok (.getfield 124, 3) := by decide +kernel
theorem dX8_next_118 : decode cX8_next 118 = .ok (.iaload, 1) := by decide +kernel
theorem dX8_next_119 : decode cX8_next 119 = .ok (.invokestatic 133, 3) := by decide +kernel
theorem dX8_next_122 : decode cX8_next 122 = .ok (.ifCond .eq 53, 3) := by decide +kernel
theorem dX8_next_125 : decode cX8_next 125 = .ok (.aload_n 0, 1) := by decide +kernel
theorem dX8_next_126 : decode cX8_next 126 = .ok (.getfield 124, 3) := by decide +kernel
theorem dX8_next_129 : decode cX8_next 129 = .ok (.aload_n 0, 1) := by decide +kernel
theorem dX8_next_130 : decode cX8_next 130 = .ok (.getfield 127, 3) := by decide +kernel
theorem dX8_next_133 : decode cX8_next 133 = .ok (.isub, 1) := by decide +kernel
theorem dX8_next_134 : decode cX8_next 134 = .ok (.iconst 4, 1) := by decide +kernel
theorem dX8_next_135 : decode cX8_next 135 = .ok (.if_icmp .ge 27, 3) := by decide +kernel
theorem dX8_next_138 : decode cX8_next 138 = .ok (.aload_n 0, 1) := by decide +kernel
theorem dX8_next_139 : decode cX8_next 139 = .ok (.bipush 10, 2) := by decide +kernel
theorem dX8_next_141 : decode cX8_next 141 = .ok (.aload_n 0, 1) := by decide +kernel
theorem dX8_next_142 : decode cX8_next 142 = .ok (.getfield 137, 3) := by decide +kernel
theorem dX8_next_145 : decode cX8_next 145 = .ok (.imul, 1) := by decide +kernel
theorem dX8_next_146 : decode cX8_next 146 = .ok (.aload_n 0, 1) := by decide +kernel
theorem dX8_next_147 : decode cX8_next 147 = .ok (.getfield 31, 3) := by decide +kernel
theorem dX8_next_150 : decode cX8_next 150 = .ok (.aload_n 0, 1) := by decide +kernel
theorem dX8_next_151 : decode cX8_next 151 = .ok (.getfield 124, 3) := by decide +kernel
theorem dX8_next_154 : decode cX8_next 154 = .ok (.iaload, 1) := by decide +kernel
theorem dX8_next_155 : decode cX8_next 155 = .ok (.iadd, 1) := by decide +kernel
theorem dX8_next_156 : decode cX8_next 156 = .ok (.bipush 48, 2) := by decide +kernel
theorem dX8_next_158 : decode cX8_next 158 = .ok (.isub, 1) := by decide +kernel
theorem dX8_next_159 : decode cX8_next 159 = .ok (.putfield 137, 3) := by decide +kernel
theorem dX8_next_162 : decode cX8_next 162 = .ok (.aload_n 0, 1) := by decide +kernel
theorem dX8_next_163 : decode cX8_next 163 = .ok (.dup, 1) := by decide +kernel
theorem dX8_next_164 : decode cX8_next 164 = .ok (.getfield 124, 3) := by decide +kernel
theorem dX8_next_167 : decode cX8_next 167 = .ok (.iconst 1, 1) := by decide +kernel
theorem dX8_next_168 : decode cX8_next 168 = .ok (.iadd, 1) := by decide +kernel
theorem dX8_next_169 : decode cX8_next 169 = .ok (.putfield 124, 3) := by decide +kernel
theorem dX8_next_172 : decode cX8_next 172 = .ok (.goto (-73), 3) := by decide +kernel
theorem dX8_next_175 : decode cX8_next 175 = .ok (.aload_n 0, 1) := by decide +kernel
theorem dX8_next_176 : decode cX8_next 176 = .ok (.aload_n 0, 1) := by decide +kernel
theorem dX8_next_177 : decode cX8_next 177 = .ok (.getfield 124, 3) := by decide +kernel
theorem dX8_next_180 : decode cX8_next 180 = .ok (.aload_n 0, 1) := by decide +kernel
theorem dX8_next_181 : decode cX8_next 181 = .ok (.getfield 127, 3) := by decide +kernel
theorem dX8_next_184 : decode cX8_next 184 = .ok (.isub, 1) := by decide +kernel
theorem dX8_next_185 : decode cX8_next 185 = .ok (.iconst 4, 1) := by decide +kernel
theorem dX8_next_186 : decode cX8_next 186 = .ok (.if_icmp .le 7, 3) := by decide +kernel
theorem dX8_next_189 : decode cX8_next 189 = .ok (.iconst 4, 1) := by decide +kernel
theorem dX8_next_190 : decode cX8_next 190 = .ok (.goto 4, 3) := by decide +kernel
theorem dX8_next_193 : decode cX8_next 193 = .ok (.iconst 1, 1) := by decide +kernel
theorem dX8_next_194 : decode cX8_next 194 = .ok (.putfield 130, 3) := by decide +kernel
theorem dX8_next_197 : decode cX8_next 197 = .ok (.return_, 1) := by decide +kernel
theorem dX8_next_198 : decode cX8_next 198 = .ok (.iload_n 1, 1) := by decide +kernel
theorem dX8_next_199 : decode cX8_next 199 = .ok (.invokestatic 140, 3) := by decide +kernel
theorem dX8_next_202 : decode cX8_next 202 = .ok (.ifCond .eq 48, 3) := by decide +kernel
theorem dX8_next_205 : decode cX8_next 205 = .ok (.aload_n 0, 1) := by decide +kernel
theorem dX8_next_206 : decode cX8_next 206 = .ok (.getfield 124, 3) := by decide +kernel
theorem dX8_next_209 : decode cX8_next 209 = .ok (.aload_n 0, 1) := by decide +kernel
theorem dX8_next_210 : decode cX8_next 210 = .ok (.getfield 97, 3) := by decide +kernel
theorem dX8_next_213 : decode cX8_next 213 = .ok (.if_icmp .ge 31, 3) := by decide +kernel
theorem dX8_next_216 : decode cX8_next 216 = .ok (.aload_n 0, 1) := by decide +kernel
theorem dX8_next_217 : decode cX8_next 217 = .ok (.getfield 31, 3) := by decide +kernel
theorem dX8_next_220 : decode cX8_next 220 = .ok (.aload_n 0, 1) := by decide +kernel
theorem dX8_next_221 : decode cX8_next 221 = .ok (.getfield 124, 3) := by decide +kernel
theorem dX8_next_224 : decode cX8_next 224 = .ok (.iaload, 1) := by decide +kernel
theorem dX8_next_225 : decode cX8_next 225 = .ok (.invokestatic 140, 3) := by decide +kernel
theorem dX8_next_228 : decode cX8_next 228 = .ok (.ifCond .eq 16, 3) := by decide +kernel
theorem dX8_next_231 : decode cX8_next 231 = .ok (.aload_n 0, 1) := by decide +kernel
theorem dX8_next_232 : decode cX8_next 232 = .ok (.dup, 1) := by decide +kernel
theorem dX8_next_233 : decode cX8_next 233 = .ok (.getfield 124, 3) := by decide +kernel
theorem dX8_next_236 : decode cX8_next 236 = .ok (.iconst 1, 1) := by decide +kernel
theorem dX8_next_237 : decode cX8_next 237 = .ok (.iadd, 1) := by decide +kernel
theorem dX8_next_238 : decode cX8_next 238 = .ok (.putfield 124, 3) := by decide +kernel
theorem dX8_next_241 : decode cX8_next 241 = .ok (.goto (-36), 3) := by decide +kernel
theorem dX8_next_244 : decode cX8_next 244 = .ok (.aload_n 0, 1) := by decide +kernel
theorem dX8_next_245 : decode cX8_next 245 = .ok (.iconst 2, 1) := by decide +kernel
theorem dX8_next_246 : decode cX8_next 246 = .ok (.putfield 130, 3) := by decide +kernel
theorem dX8_next_249 : decode cX8_next 249 = .ok (.return_, 1) := by decide +kernel
theorem dX8_next_250 : decode cX8_next 250 = .ok (.aload_n 0, 1) := by decide +kernel
theorem dX8_next_251 : decode cX8_next 251 = .ok (.dup, 1) := by decide +kernel
theorem dX8_next_252 : decode cX8_next 252 = .ok (.getfield 124, 3) := by decide +kernel
theorem dX8_next_255 : decode cX8_next 255 = .ok (.iconst 1, 1) := by decide +kernel
theorem dX8_next_256 : decode cX8_next 256 = .ok (.iadd, 1) := by decide +kernel
theorem dX8_next_257 : decode cX8_next 257 = .ok (.putfield 124, 3) := by decide +kernel
theorem dX8_next_260 : decode cX8_next 260 = .ok (.aload_n 0, 1) := by decide +kernel
theorem dX8_next_261 : decode cX8_next 261 = .ok (.iload_n 1, 1) := by decide +kernel
theorem dX8_next_262 : decode cX8_next 262 = .ok (.putfield 137, 3) := by decide +kernel
theorem dX8_next_265 : decode cX8_next 265 = .ok (.aload_n 0, 1) := by decide +kernel
theorem dX8_next_266 : decode cX8_next 266 = .ok (.iload_n 1, 1) := by decide +kernel
theorem dX8_next_267 : decode cX8_next 267 = .ok (.bipush 40, 2) := by decide +kernel
theorem dX8_next_269 : decode cX8_next 269 = .ok (.if_icmp .eq 45, 3) := by decide +kernel
theorem dX8_next_272 : decode cX8_next 272 = .ok (.iload_n 1, 1) := by decide +kernel
theorem dX8_next_273 : decode cX8_next 273 = .ok (.bipush 41, 2) := by decide +kernel
theorem dX8_next_275 : decode cX8_next 275 = .ok (.if_icmp .eq 39, 3) := by decide +kernel
theorem dX8_next_278 : decode cX8_next 278 = .ok (.iload_n 1, 1) := by decide +kernel
theorem dX8_next_279 : decode cX8_next 279 = .ok (.bipush 59, 2) := by decide +kernel
theorem dX8_next_281 : decode cX8_next 281 = .ok (.if_icmp .eq 33, 3) := by decide +kernel
theorem dX8_next_284 : decode cX8_next 284 = .ok (.iload_n 1, 1) := by decide +kernel
theorem dX8_next_285 : decode cX8_next 285 = .ok (.bipush 43, 2) := by decide +kernel
theorem dX8_next_287 : decode cX8_next 287 = .ok (.if_icmp .eq 27, 3) := by decide +kernel
theorem dX8_next_290 : decode cX8_next 290 = .ok (.iload_n 1, 1) := by decide +kernel
theorem dX8_next_291 : decode cX8_next 291 = .ok (.bipush 45, 2) := by decide +kernel
theorem dX8_next_293 : decode cX8_next 293 = .ok (.if_icmp .eq 21, 3) := by decide +kernel
theorem dX8_next_296 : decode cX8_next 296 = .ok (.iload_n 1, 1) := by decide +kernel
theorem dX8_next_297 : decode cX8_next 297 = .ok (.bipush 42, 2) := by decide +kernel
theorem dX8_next_299 : decode cX8_next 299 = .ok (.if_icmp .eq 15, 3) := by decide +kernel
theorem dX8_next_302 : decode cX8_next 302 = .ok (.iload_n 1, 1) := by decide +kernel
theorem dX8_next_303 : decode cX8_next 303 = .ok (.bipush 60, 2) := by decide +kernel
theorem dX8_next_305 : decode cX8_next 305 = .ok (.if_icmp .eq 9, 3) := by decide +kernel
theorem dX8_next_308 : decode cX8_next 308 = .ok (.iload_n 1, 1) := by decide +kernel
theorem dX8_next_309 : decode cX8_next 309 = .ok (.bipush 61, 2) := by decide +kernel
theorem dX8_next_311 : decode cX8_next 311 = .ok (.if_icmp .ne 7, 3) := by decide +kernel
theorem dX8_next_314 : decode cX8_next 314 = .ok (.iconst 3, 1) := by decide +kernel
theorem dX8_next_315 : decode cX8_next 315 = .ok (.goto 4, 3) := by decide +kernel
theorem dX8_next_318 : decode cX8_next 318 = .ok (.iconst 4, 1) := by decide +kernel
theorem dX8_next_319 : decode cX8_next 319 = .ok (.putfield 130, 3) := by decide +kernel
theorem dX8_next_322 : decode cX8_next 322 = .ok (.return_, 1) := by decide +kernel
theorem dX8_isDigit_0 : decode cX8_isDigit 0 = .ok (.iload_n 0, 1) := by decide +kernel
theorem dX8_isDigit_1 : decode cX8_isDigit 1 = .ok (.bipush 48, 2) := by decide +kernel
theorem dX8_isDigit_3 : decode cX8_isDigit 3 = .ok (.if_icmp .lt 13, 3) := by decide +kernel
theorem dX8_isDigit_6 : decode cX8_isDigit 6 = .ok (.iload_n 0, 1) := by decide +kernel
theorem dX8_isDigit_7 : decode cX8_isDigit 7 = .ok (.bipush 57, 2) := by decide +kernel
theorem dX8_isDigit_9 : decode cX8_isDigit 9 = .ok (.if_icmp .gt 7, 3) := by decide +kernel
theorem dX8_isDigit_12 : decode cX8_isDigit 12 = .ok (.iconst 1, 1) := by decide +kernel
theorem dX8_isDigit_13 : decode cX8_isDigit 13 = .ok (.goto 4, 3) := by decide +kernel
theorem dX8_isDigit_16 : decode cX8_isDigit 16 = .ok (.iconst 0, 1) := by decide +kernel
theorem dX8_isDigit_17 : decode cX8_isDigit 17 = .ok (.ireturn, 1) := by decide +kernel
theorem dX8_isLetter_0 : decode cX8_isLetter 0 = .ok (.iload_n 0, 1) := by decide +kernel
theorem dX8_isLetter_1 : decode cX8_isLetter 1 = .ok (.bipush 97, 2) := by decide +kernel
theorem dX8_isLetter_3 : decode cX8_isLetter 3 = .ok (.if_icmp .lt 13, 3) := by decide +kernel
theorem dX8_isLetter_6 : decode cX8_isLetter 6 = .ok (.iload_n 0, 1) := by decide +kernel
theorem dX8_isLetter_7 : decode cX8_isLetter 7 = .ok (.bipush 122, 2) := by decide +kernel
theorem dX8_isLetter_9 : decode cX8_isLetter 9 = .ok (.if_icmp .gt 7, 3) := by decide +kernel
theorem dX8_isLetter_12 : decode cX8_isLetter 12 = .ok (.iconst 1, 1) := by decide +kernel
theorem dX8_isLetter_13 : decode cX8_isLetter 13 = .ok (.goto 4, 3) := by decide +kernel
theorem dX8_isLetter_16 : decode cX8_isLetter 16 = .ok (.iconst 0, 1) := by decide +kernel
theorem dX8_isLetter_17 : decode cX8_isLetter 17 = .ok (.ireturn, 1) := by decide +kernel
theorem dX8_is_0 : decode cX8_is 0 = .ok (.aload_n 0, 1) := by decide +kernel
theorem dX8_is_1 : decode cX8_is 1 = .ok (.getfield 130, 3) := by decide +kernel
theorem dX8_is_4 : decode cX8_is 4 = .ok (.iconst 2, 1) := by decide +kernel
theorem dX8_is_5 : decode cX8_is 5 = .ok (.if_icmp .ne 19, 3) := by decide +kernel
theorem dX8_is_8 : decode cX8_is 8 = .ok (.aload_n 0, 1) := by decide +kernel
theorem dX8_is_9 : decode cX8_is 9 = .ok (.getfield 124, 3) := by decide +kernel
theorem dX8_is_12 : decode cX8_is 12 = .ok (.aload_n 0, 1) := by decide +kernel
theorem dX8_is_13 : decode cX8_is 13 = .ok (.getfield 127, 3) := by decide +kernel
theorem dX8_is_16 : decode cX8_is 16 = .ok (.isub, 1) := by decide +kernel
theorem dX8_is_17 : decode cX8_is 17 = .ok (.aload_n 1, 1) := by decide +kernel
theorem dX8_is_18 : decode cX8_is 18 = .ok (.invokevirtual 91, 3) := by decide +kernel
theorem dX8_is_21 : decode cX8_is 21 = .ok (.if_icmp .eq 5, 3) := by decide +kernel
theorem dX8_is_24 : decode cX8_is 24 = .ok (.iconst 0, 1) := by decide +kernel
theorem dX8_is_25 : decode cX8_is 25 = .ok (.ireturn, 1) := by decide +kernel
theorem dX8_is_26 : decode cX8_is 26 = .ok (.iconst 0, 1) := by decide +kernel
theorem dX8_is_27 : decode cX8_is 27 = .ok (.istore_n 2, 1) := by decide +kernel
theorem dX8_is_28 : decode cX8_is 28 = .ok (.iload_n 2, 1) := by decide +kernel
theorem dX8_is_29 : decode cX8_is 29 = .ok (.aload_n 1, 1) := by decide +kernel
theorem dX8_is_30 : decode cX8_is 30 = .ok (.invokevirtual 91, 3) := by decide +kernel
theorem dX8_is_33 : decode cX8_is 33 = .ok (.if_icmp .ge 30, 3) := by decide +kernel
theorem dX8_is_36 : decode cX8_is 36 = .ok (.aload_n 0, 1) := by decide +kernel
theorem dX8_is_37 : decode cX8_is 37 = .ok (.getfield 31, 3) := by decide +kernel
theorem dX8_is_40 : decode cX8_is 40 = .ok (.aload_n 0, 1) := by decide +kernel
theorem dX8_is_41 : decode cX8_is 41 = .ok (.getfield 127, 3) := by decide +kernel
theorem dX8_is_44 : decode cX8_is 44 = .ok (.iload_n 2, 1) := by decide +kernel
theorem dX8_is_45 : decode cX8_is 45 = .ok (.iadd, 1) := by decide +kernel
theorem dX8_is_46 : decode cX8_is 46 = .ok (.iaload, 1) := by decide +kernel
theorem dX8_is_47 : decode cX8_is 47 = .ok (.aload_n 1, 1) := by decide +kernel
theorem dX8_is_48 : decode cX8_is 48 = .ok (.iload_n 2, 1) := by decide +kernel
theorem dX8_is_49 : decode cX8_is 49 = .ok (.invokevirtual 101, 3) := by decide +kernel
theorem dX8_is_52 : decode cX8_is 52 = .ok (.if_icmp .eq 5, 3) := by decide +kernel
theorem dX8_is_55 : decode cX8_is 55 = .ok (.iconst 0, 1) := by decide +kernel
theorem dX8_is_56 : decode cX8_is 56 = .ok (.ireturn, 1) := by decide +kernel
theorem dX8_is_57 : decode cX8_is 57 = .ok (.iinc 2 1, 3) := by decide +kernel
theorem dX8_is_60 : decode cX8_is 60 = .ok (.goto (-32), 3) := by decide +kernel
theorem dX8_is_63 : decode cX8_is 63 = .ok (.iconst 1, 1) := by decide +kernel
theorem dX8_is_64 : decode cX8_is 64 = .ok (.ireturn, 1) := by decide +kernel
theorem dX8_is__0 : decode cX8_is_ 0 = .ok (.aload_n 0, 1) := by decide +kernel
theorem dX8_is__1 : decode cX8_is_ 1 = .ok (.getfield 130, 3) := by decide +kernel
theorem dX8_is__4 : decode cX8_is_ 4 = .ok (.iconst 3, 1) := by decide +kernel
theorem dX8_is__5 : decode cX8_is_ 5 = .ok (.if_icmp .ne 15, 3) := by decide +kernel
theorem dX8_is__8 : decode cX8_is_ 8 = .ok (.aload_n 0, 1) := by decide +kernel
theorem dX8_is__9 : decode cX8_is_ 9 = .ok (.getfield 137, 3) := by decide +kernel
theorem dX8_is__12 : decode cX8_is_ 12 = .ok (.iload_n 1, 1) := by decide +kernel
theorem dX8_is__13 : decode cX8_is_ 13 = .ok (.if_icmp .ne 7, 3) := by decide +kernel
theorem dX8_is__16 : decode cX8_is_ 16 = .ok (.iconst 1, 1) := by decide +kernel
theorem dX8_is__17 : decode cX8_is_ 17 = .ok (.goto 4, 3) := by decide +kernel
theorem dX8_is__20 : decode cX8_is_ 20 = .ok (.iconst 0, 1) := by decide +kernel
theorem dX8_is__21 : decode cX8_is_ 21 = .ok (.ireturn, 1) := by decide +kernel
theorem dX8_name_0 : decode cX8_name 0 = .ok (.aload_n 0, 1) := by decide +kernel
theorem dX8_name_1 : decode cX8_name 1 = .ok (.ldc 143, 2) := by decide +kernel
theorem dX8_name_3 : decode cX8_name 3 = .ok (.invokevirtual 145, 3) := by decide +kernel
theorem dX8_name_6 : decode cX8_name 6 = .ok (.ifCond .eq 5, 3) := by decide +kernel
theorem dX8_name_9 : decode cX8_name 9 = .ok (.iconst 1, 1) := by decide +kernel
theorem dX8_name_10 : decode cX8_name 10 = .ok (.ireturn, 1) := by decide +kernel
theorem dX8_name_11 : decode cX8_name 11 = .ok (.aload_n 0, 1) := by decide +kernel
theorem dX8_name_12 : decode cX8_name 12 = .ok (.ldc 149, 2) := by decide +kernel
theorem dX8_name_14 : decode cX8_name 14 = .ok (.invokevirtual 145, 3) := by decide +kernel
theorem dX8_name_17 : decode cX8_name 17 = .ok (.ifCond .eq 5, 3) := by decide +kernel
theorem dX8_name_20 : decode cX8_name 20 = .ok (.iconst 2, 1) := by decide +kernel
theorem dX8_name_21 : decode cX8_name 21 = .ok (.ireturn, 1) := by decide +kernel
theorem dX8_name_22 : decode cX8_name 22 = .ok (.aload_n 0, 1) := by decide +kernel
theorem dX8_name_23 : decode cX8_name 23 = .ok (.ldc 151, 2) := by decide +kernel
theorem dX8_name_25 : decode cX8_name 25 = .ok (.invokevirtual 145, 3) := by decide +kernel
theorem dX8_name_28 : decode cX8_name 28 = .ok (.ifCond .eq 5, 3) := by decide +kernel
theorem dX8_name_31 : decode cX8_name 31 = .ok (.iconst 3, 1) := by decide +kernel
theorem dX8_name_32 : decode cX8_name 32 = .ok (.ireturn, 1) := by decide +kernel
theorem dX8_name_33 : decode cX8_name 33 = .ok (.aload_n 0, 1) := by decide +kernel
theorem dX8_name_34 : decode cX8_name 34 = .ok (.ldc 153, 2) := by decide +kernel
theorem dX8_name_36 : decode cX8_name 36 = .ok (.invokevirtual 145, 3) := by decide +kernel
theorem dX8_name_39 : decode cX8_name 39 = .ok (.ifCond .eq 5, 3) := by decide +kernel
theorem dX8_name_42 : decode cX8_name 42 = .ok (.iconst 4, 1) := by decide +kernel
theorem dX8_name_43 : decode cX8_name 43 = .ok (.ireturn, 1) := by decide +kernel
theorem dX8_name_44 : decode cX8_name 44 = .ok (.aload_n 0, 1) := by decide +kernel
theorem dX8_name_45 : decode cX8_name 45 = .ok (.ldc 154, 2) := by decide +kernel
theorem dX8_name_47 : decode cX8_name 47 = .ok (.invokevirtual 145, 3) := by decide +kernel
theorem dX8_name_50 : decode cX8_name 50 = .ok (.ifCond .eq 5, 3) := by decide +kernel
theorem dX8_name_53 : decode cX8_name 53 = .ok (.iconst 5, 1) := by decide +kernel
theorem dX8_name_54 : decode cX8_name 54 = .ok (.ireturn, 1) := by decide +kernel
theorem dX8_name_55 : decode cX8_name 55 = .ok (.aload_n 0, 1) := by decide +kernel
theorem dX8_name_56 : decode cX8_name 56 = .ok (.ldc 155, 2) := by decide +kernel
theorem dX8_name_58 : decode cX8_name 58 = .ok (.invokevirtual 145, 3) := by decide +kernel
theorem dX8_name_61 : decode cX8_name 61 = .ok (.ifCond .eq 6, 3) := by decide +kernel
theorem dX8_name_64 : decode cX8_name 64 = .ok (.bipush 6, 2) := by decide +kernel
theorem dX8_name_66 : decode cX8_name 66 = .ok (.ireturn, 1) := by decide +kernel
theorem dX8_name_67 : decode cX8_name 67 = .ok (.iconst 0, 1) := by decide +kernel
theorem dX8_name_68 : decode cX8_name 68 = .ok (.ireturn, 1) := by decide +kernel
theorem dX8_put_0 : decode cX8_put 0 = .ok (.aload_n 0, 1) := by decide +kernel
theorem dX8_put_1 : decode cX8_put 1 = .ok (.getfield 34, 3) := by decide +kernel
theorem dX8_put_4 : decode cX8_put 4 = .ok (.sipush 170, 3) := by decide +kernel
theorem dX8_put_7 : decode cX8_put 7 = .ok (.aload_n 0, 1) := by decide +kernel
theorem dX8_put_8 : decode cX8_put 8 = .ok (.getfield 118, 3) := by decide +kernel
theorem dX8_put_11 : decode cX8_put 11 = .ok (.imul, 1) := by decide +kernel
theorem dX8_put_12 : decode cX8_put 12 = .ok (.aload_n 0, 1) := by decide +kernel
theorem dX8_put_13 : decode cX8_put 13 = .ok (.dup, 1) := by decide +kernel
theorem dX8_put_14 : decode cX8_put 14 = .ok (.getfield 157, 3) := by decide +kernel
theorem dX8_put_17 : decode cX8_put 17 = .ok (.dup_x1, 1) := by decide +kernel
theorem dX8_put_18 : decode cX8_put 18 = .ok (.iconst 1, 1) := by decide +kernel
theorem dX8_put_19 : decode cX8_put 19 = .ok (.iadd, 1) := by decide +kernel
theorem dX8_put_20 : decode cX8_put 20 = .ok (.putfield 157, 3) := by decide +kernel
theorem dX8_put_23 : decode cX8_put 23 = .ok (.iadd, 1) := by decide +kernel
theorem dX8_put_24 : decode cX8_put 24 = .ok (.iload_n 1, 1) := by decide +kernel
theorem dX8_put_25 : decode cX8_put 25 = .ok (.iastore, 1) := by decide +kernel
theorem dX8_put_26 : decode cX8_put 26 = .ok (.return_, 1) := by decide +kernel
theorem dX8_any_0 : decode cX8_any 0 = .ok (.aload_n 0, 1) := by decide +kernel
theorem dX8_any_1 : decode cX8_any 1 = .ok (.invokevirtual 160, 3) := by decide +kernel
theorem dX8_any_4 : decode cX8_any 4 = .ok (.ifCond .ne 5, 3) := by decide +kernel
theorem dX8_any_7 : decode cX8_any 7 = .ok (.iconst 0, 1) := by decide +kernel
theorem dX8_any_8 : decode cX8_any 8 = .ok (.ireturn, 1) := by decide +kernel
theorem dX8_any_9 : decode cX8_any 9 = .ok (.aload_n 0, 1) := by decide +kernel
theorem dX8_any_10 : decode cX8_any 10 = .ok (.ldc 164, 2) := by decide +kernel
theorem dX8_any_12 : decode cX8_any 12 = .ok (.invokevirtual 145, 3) := by decide +kernel
theorem dX8_any_15 : decode cX8_any 15 = .ok (.ifCond .eq 25, 3) := by decide +kernel
theorem dX8_any_18 : decode cX8_any 18 = .ok (.aload_n 0, 1) := by decide +kernel
theorem dX8_any_19 : decode cX8_any 19 = .ok (.invokevirtual 166, 3) := by decide +kernel
theorem dX8_any_22 : decode cX8_any 22 = .ok (.aload_n 0, 1) := by decide +kernel
theorem dX8_any_23 : decode cX8_any 23 = .ok (.invokevirtual 160, 3) := by decide +kernel
theorem dX8_any_26 : decode cX8_any 26 = .ok (.ifCond .ne 5, 3) := by decide +kernel
theorem dX8_any_29 : decode cX8_any 29 = .ok (.iconst 0, 1) := by decide +kernel
theorem dX8_any_30 : decode cX8_any 30 = .ok (.ireturn, 1) := by decide +kernel
theorem dX8_any_31 : decode cX8_any 31 = .ok (.aload_n 0, 1) := by decide +kernel
theorem dX8_any_32 : decode cX8_any 32 = .ok (.bipush (-11), 2) := by decide +kernel
theorem dX8_any_34 : decode cX8_any 34 = .ok (.invokevirtual 169, 3) := by decide +kernel
theorem dX8_any_37 : decode cX8_any 37 = .ok (.goto (-28), 3) := by decide +kernel
theorem dX8_any_40 : decode cX8_any 40 = .ok (.iconst 1, 1) := by decide +kernel
theorem dX8_any_41 : decode cX8_any 41 = .ok (.ireturn, 1) := by decide +kernel
theorem dX8_both_0 : decode cX8_both 0 = .ok (.aload_n 0, 1) := by decide +kernel
theorem dX8_both_1 : decode cX8_both 1 = .ok (.invokevirtual 173, 3) := by decide +kernel
theorem dX8_both_4 : decode cX8_both 4 = .ok (.ifCond .ne 5, 3) := by decide +kernel
theorem dX8_both_7 : decode cX8_both 7 = .ok (.iconst 0, 1) := by decide +kernel
theorem dX8_both_8 : decode cX8_both 8 = .ok (.ireturn, 1) := by decide +kernel
theorem dX8_both_9 : decode cX8_both 9 = .ok (.aload_n 0, 1) := by decide +kernel
theorem dX8_both_10 : decode cX8_both 10 = .ok (.ldc 176, 2) := by decide +kernel
theorem dX8_both_12 : decode cX8_both 12 = .ok (.invokevirtual 145, 3) := by decide +kernel
theorem dX8_both_15 : decode cX8_both 15 = .ok (.ifCond .eq 25, 3) := by decide +kernel
theorem dX8_both_18 : decode cX8_both 18 = .ok (.aload_n 0, 1) := by decide +kernel
theorem dX8_both_19 : decode cX8_both 19 = .ok (.invokevirtual 166, 3) := by decide +kernel
theorem dX8_both_22 : decode cX8_both 22 = .ok (.aload_n 0, 1) := by decide +kernel
theorem dX8_both_23 : decode cX8_both 23 = .ok (.invokevirtual 173, 3) := by decide +kernel
theorem dX8_both_26 : decode cX8_both 26 = .ok (.ifCond .ne 5, 3) := by decide +kernel
theorem dX8_both_29 : decode cX8_both 29 = .ok (.iconst 0, 1) := by decide +kernel
theorem dX8_both_30 : decode cX8_both 30 = .ok (.ireturn, 1) := by decide +kernel
theorem dX8_both_31 : decode cX8_both 31 = .ok (.aload_n 0, 1) := by decide +kernel
theorem dX8_both_32 : decode cX8_both 32 = .ok (.bipush (-12), 2) := by decide +kernel
theorem dX8_both_34 : decode cX8_both 34 = .ok (.invokevirtual 169, 3) := by decide +kernel
theorem dX8_both_37 : decode cX8_both 37 = .ok (.goto (-28), 3) := by decide +kernel
theorem dX8_both_40 : decode cX8_both 40 = .ok (.iconst 1, 1) := by decide +kernel
theorem dX8_both_41 : decode cX8_both 41 = .ok (.ireturn, 1) := by decide +kernel
theorem dX8_not_0 : decode cX8_not 0 = .ok (.aload_n 0, 1) := by decide +kernel
theorem dX8_not_1 : decode cX8_not 1 = .ok (.ldc 178, 2) := by decide +kernel
theorem dX8_not_3 : decode cX8_not 3 = .ok (.invokevirtual 145, 3) := by decide +kernel
theorem dX8_not_6 : decode cX8_not 6 = .ok (.ifCond .eq 54, 3) := by decide +kernel
theorem dX8_not_9 : decode cX8_not 9 = .ok (.aload_n 0, 1) := by decide +kernel
theorem dX8_not_10 : decode cX8_not 10 = .ok (.getfield 179, 3) := by decide +kernel
theorem dX8_not_13 : decode cX8_not 13 = .ok (.iconst 5, 1) := by decide +kernel
theorem dX8_not_14 : decode cX8_not 14 = .ok (.if_icmp .ne 5, 3) := by decide +kernel
theorem dX8_not_17 : decode cX8_not 17 = .ok (.iconst 0, 1) := by decide +kernel
theorem dX8_not_18 : decode cX8_not 18 = .ok (.ireturn, 1) := by decide +kernel
theorem dX8_not_19 : decode cX8_not 19 = .ok (.aload_n 0, 1) := by decide +kernel
theorem dX8_not_20 : decode cX8_not 20 = .ok (.dup, 1) := by decide +kernel
theorem dX8_not_21 : decode cX8_not 21 = .ok (.getfield 179, 3) := by decide +kernel
theorem dX8_not_24 : decode cX8_not 24 = .ok (.iconst 1, 1) := by decide +kernel
theorem dX8_not_25 : decode cX8_not 25 = .ok (.iadd, 1) := by decide +kernel
theorem dX8_not_26 : decode cX8_not 26 = .ok (.putfield 179, 3) := by decide +kernel
theorem dX8_not_29 : decode cX8_not 29 = .ok (.aload_n 0, 1) := by decide +kernel
theorem dX8_not_30 : decode cX8_not 30 = .ok (.invokevirtual 166, 3) := by decide +kernel
theorem dX8_not_33 : decode cX8_not 33 = .ok (.aload_n 0, 1) := by decide +kernel
theorem dX8_not_34 : decode cX8_not 34 = .ok (.invokevirtual 173, 3) := by decide +kernel
theorem dX8_not_37 : decode cX8_not 37 = .ok (.ifCond .ne 5, 3) := by decide +kernel
theorem dX8_not_40 : decode cX8_not 40 = .ok (.iconst 0, 1) := by decide +kernel
theorem dX8_not_41 : decode cX8_not 41 = .ok (.ireturn, 1) := by decide +kernel
theorem dX8_not_42 : decode cX8_not 42 = .ok (.aload_n 0, 1) := by decide +kernel
theorem dX8_not_43 : decode cX8_not 43 = .ok (.dup, 1) := by decide +kernel
theorem dX8_not_44 : decode cX8_not 44 = .ok (.getfield 179, 3) := by decide +kernel
theorem dX8_not_47 : decode cX8_not 47 = .ok (.iconst 1, 1) := by decide +kernel
theorem dX8_not_48 : decode cX8_not 48 = .ok (.isub, 1) := by decide +kernel
theorem dX8_not_49 : decode cX8_not 49 = .ok (.putfield 179, 3) := by decide +kernel
theorem dX8_not_52 : decode cX8_not 52 = .ok (.aload_n 0, 1) := by decide +kernel
theorem dX8_not_53 : decode cX8_not 53 = .ok (.bipush (-13), 2) := by decide +kernel
theorem dX8_not_55 : decode cX8_not 55 = .ok (.invokevirtual 169, 3) := by decide +kernel
theorem dX8_not_58 : decode cX8_not 58 = .ok (.iconst 1, 1) := by decide +kernel
theorem dX8_not_59 : decode cX8_not 59 = .ok (.ireturn, 1) := by decide +kernel
theorem dX8_not_60 : decode cX8_not 60 = .ok (.aload_n 0, 1) := by decide +kernel
theorem dX8_not_61 : decode cX8_not 61 = .ok (.invokevirtual 182, 3) := by decide +kernel
theorem dX8_not_64 : decode cX8_not 64 = .ok (.ifCond .ne 5, 3) := by decide +kernel
theorem dX8_not_67 : decode cX8_not 67 = .ok (.iconst 0, 1) := by decide +kernel
theorem dX8_not_68 : decode cX8_not 68 = .ok (.ireturn, 1) := by decide +kernel
theorem dX8_not_69 : decode cX8_not 69 = .ok (.aload_n 0, 1) := by decide +kernel
theorem dX8_not_70 : decode cX8_not 70 = .ok (.bipush 60, 2) := by decide +kernel
theorem dX8_not_72 : decode cX8_not 72 = .ok (.invokevirtual 185, 3) := by decide +kernel
theorem dX8_not_75 : decode cX8_not 75 = .ok (.ifCond .ne 12, 3) := by decide +kernel
theorem dX8_not_78 : decode cX8_not 78 = .ok (.aload_n 0, 1) := by decide +kernel
theorem dX8_not_79 : decode cX8_not 79 = .ok (.bipush 61, 2) := by decide +kernel
theorem dX8_not_81 : decode cX8_not 81 = .ok (.invokevirtual 185, 3) := by decide +kernel
theorem dX8_not_84 : decode cX8_not 84 = .ok (.ifCond .eq 38, 3) := by decide +kernel
theorem dX8_not_87 : decode cX8_not 87 = .ok (.aload_n 0, 1) := by decide +kernel
theorem dX8_not_88 : decode cX8_not 88 = .ok (.bipush 60, 2) := by decide +kernel
theorem dX8_not_90 : decode cX8_not 90 = .ok (.invokevirtual 185, 3) := by decide +kernel
theorem dX8_not_93 : decode cX8_not 93 = .ok (.ifCond .eq 8, 3) := by decide +kernel
theorem dX8_not_96 : decode cX8_not 96 = .ok (.bipush (-14), 2) := by decide +kernel
theorem dX8_not_98 : decode cX8_not 98 = .ok (.goto 5, 3) := by decide +kernel
theorem dX8_not_101 : decode cX8_not 101 = .ok (.bipush (-15), 2) := by decide +kernel
theorem dX8_not_103 : decode cX8_not 103 = .ok (.istore_n 1, 1) := by decide +kernel
theorem dX8_not_104 : decode cX8_not 104 = .ok (.aload_n 0, 1) := by decide +kernel
theorem dX8_not_105 : decode cX8_not 105 = .ok (.invokevirtual 166, 3) := by decide +kernel
theorem dX8_not_108 : decode cX8_not 108 = .ok (.aload_n 0, 1) := by decide +kernel
theorem dX8_not_109 : decode cX8_not 109 = .ok (.invokevirtual 182, 3) := by decide +kernel
theorem dX8_not_112 : decode cX8_not 112 = .ok (.ifCond .ne 5, 3) := by decide +kernel
theorem dX8_not_115 : decode cX8_not 115 = .ok (.iconst 0, 1) := by decide +kernel
theorem dX8_not_116 : decode cX8_not 116 = .ok (.ireturn, 1) := by decide +kernel
theorem dX8_not_117 : decode cX8_not 117 = .ok (.aload_n 0, 1) := by decide +kernel
theorem dX8_not_118 : decode cX8_not 118 = .ok (.iload_n 1, 1) := by decide +kernel
theorem dX8_not_119 : decode cX8_not 119 = .ok (.invokevirtual 169, 3) := by decide +kernel
theorem dX8_not_122 : decode cX8_not 122 = .ok (.iconst 1, 1) := by decide +kernel
theorem dX8_not_123 : decode cX8_not 123 = .ok (.ireturn, 1) := by decide +kernel
theorem dX8_sum_0 : decode cX8_sum 0 = .ok (.aload_n 0, 1) := by decide +kernel
theorem dX8_sum_1 : decode cX8_sum 1 = .ok (.invokevirtual 188, 3) := by decide +kernel
theorem dX8_sum_4 : decode cX8_sum 4 = .ok (.ifCond .ne 5, 3) := by decide +kernel
theorem dX8_sum_7 : decode cX8_sum 7 = .ok (.iconst 0, 1) := by decide +kernel
theorem dX8_sum_8 : decode cX8_sum 8 = .ok (.ireturn, 1) := by decide +kernel
theorem dX8_sum_9 : decode cX8_sum 9 = .ok (.aload_n 0, 1) := by decide +kernel
theorem dX8_sum_10 : decode cX8_sum 10 = .ok (.bipush 43, 2) := by decide +kernel
theorem dX8_sum_12 : decode cX8_sum 12 = .ok (.invokevirtual 185, 3) := by decide +kernel
theorem dX8_sum_15 : decode cX8_sum 15 = .ok (.ifCond .ne 12, 3) := by decide +kernel
theorem dX8_sum_18 : decode cX8_sum 18 = .ok (.aload_n 0, 1) := by decide +kernel
theorem dX8_sum_19 : decode cX8_sum 19 = .ok (.bipush 45, 2) := by decide +kernel
theorem dX8_sum_21 : decode cX8_sum 21 = .ok (.invokevirtual 185, 3) := by decide +kernel
theorem dX8_sum_24 : decode cX8_sum 24 = .ok (.ifCond .eq 41, 3) := by decide +kernel
theorem dX8_sum_27 : decode cX8_sum 27 = .ok (.aload_n 0, 1) := by decide +kernel
theorem dX8_sum_28 : decode cX8_sum 28 = .ok (.bipush 43, 2) := by decide +kernel
theorem dX8_sum_30 : decode cX8_sum 30 = .ok (.invokevirtual 185, 3) := by decide +kernel
theorem dX8_sum_33 : decode cX8_sum 33 = .ok (.ifCond .eq 8, 3) := by decide +kernel
theorem dX8_sum_36 : decode cX8_sum 36 = .ok (.bipush (-16), 2) := by decide +kernel
theorem dX8_sum_38 : decode cX8_sum 38 = .ok (.goto 5, 3) := by decide +kernel
theorem dX8_sum_41 : decode cX8_sum 41 = .ok (.bipush (-17), 2) := by decide +kernel
theorem dX8_sum_43 : decode cX8_sum 43 = .ok (.istore_n 1, 1) := by decide +kernel
theorem dX8_sum_44 : decode cX8_sum 44 = .ok (.aload_n 0, 1) := by decide +kernel
theorem dX8_sum_45 : decode cX8_sum 45 = .ok (.invokevirtual 166, 3) := by decide +kernel
theorem dX8_sum_48 : decode cX8_sum 48 = .ok (.aload_n 0, 1) := by decide +kernel
theorem dX8_sum_49 : decode cX8_sum 49 = .ok (.invokevirtual 188, 3) := by decide +kernel
theorem dX8_sum_52 : decode cX8_sum 52 = .ok (.ifCond .ne 5, 3) := by decide +kernel
theorem dX8_sum_55 : decode cX8_sum 55 = .ok (.iconst 0, 1) := by decide +kernel
theorem dX8_sum_56 : decode cX8_sum 56 = .ok (.ireturn, 1) := by decide +kernel
theorem dX8_sum_57 : decode cX8_sum 57 = .ok (.aload_n 0, 1) := by decide +kernel
theorem dX8_sum_58 : decode cX8_sum 58 = .ok (.iload_n 1, 1) := by decide +kernel
theorem dX8_sum_59 : decode cX8_sum 59 = .ok (.invokevirtual 169, 3) := by decide +kernel
theorem dX8_sum_62 : decode cX8_sum 62 = .ok (.goto (-53), 3) := by decide +kernel
theorem dX8_sum_65 : decode cX8_sum 65 = .ok (.iconst 1, 1) := by decide +kernel
theorem dX8_sum_66 : decode cX8_sum 66 = .ok (.ireturn, 1) := by decide +kernel
theorem dX8_term_0 : decode cX8_term 0 = .ok (.aload_n 0, 1) := by decide +kernel
theorem dX8_term_1 : decode cX8_term 1 = .ok (.invokevirtual 191, 3) := by decide +kernel
theorem dX8_term_4 : decode cX8_term 4 = .ok (.ifCond .ne 5, 3) := by decide +kernel
theorem dX8_term_7 : decode cX8_term 7 = .ok (.iconst 0, 1) := by decide +kernel
theorem dX8_term_8 : decode cX8_term 8 = .ok (.ireturn, 1) := by decide +kernel
theorem dX8_term_9 : decode cX8_term 9 = .ok (.aload_n 0, 1) := by decide +kernel
theorem dX8_term_10 : decode cX8_term 10 = .ok (.bipush 42, 2) := by decide +kernel
theorem dX8_term_12 : decode cX8_term 12 = .ok (.invokevirtual 185, 3) := by decide +kernel
theorem dX8_term_15 : decode cX8_term 15 = .ok (.ifCond .eq 25, 3) := by decide +kernel
theorem dX8_term_18 : decode cX8_term 18 = .ok (.aload_n 0, 1) := by decide +kernel
theorem dX8_term_19 : decode cX8_term 19 = .ok (.invokevirtual 166, 3) := by decide +kernel
theorem dX8_term_22 : decode cX8_term 22 = .ok (.aload_n 0, 1) := by decide +kernel
theorem dX8_term_23 : decode cX8_term 23 = .ok (.invokevirtual 191, 3) := by decide +kernel
theorem dX8_term_26 : decode cX8_term 26 = .ok (.ifCond .ne 5, 3) := by decide +kernel
theorem dX8_term_29 : decode cX8_term 29 = .ok (.iconst 0, 1) := by decide +kernel
theorem dX8_term_30 : decode cX8_term 30 = .ok (.ireturn, 1) := by decide +kernel
theorem dX8_term_31 : decode cX8_term 31 = .ok (.aload_n 0, 1) := by decide +kernel
theorem dX8_term_32 : decode cX8_term 32 = .ok (.bipush (-18), 2) := by decide +kernel
theorem dX8_term_34 : decode cX8_term 34 = .ok (.invokevirtual 169, 3) := by decide +kernel
theorem dX8_term_37 : decode cX8_term 37 = .ok (.goto (-28), 3) := by decide +kernel
theorem dX8_term_40 : decode cX8_term 40 = .ok (.iconst 1, 1) := by decide +kernel
theorem dX8_term_41 : decode cX8_term 41 = .ok (.ireturn, 1) := by decide +kernel
theorem dX8_one_0 : decode cX8_one 0 = .ok (.aload_n 0, 1) := by decide +kernel
theorem dX8_one_1 : decode cX8_one 1 = .ok (.getfield 130, 3) := by decide +kernel
theorem dX8_one_4 : decode cX8_one 4 = .ok (.iconst 1, 1) := by decide +kernel
theorem dX8_one_5 : decode cX8_one 5 = .ok (.if_icmp .ne 17, 3) := by decide +kernel
theorem dX8_one_8 : decode cX8_one 8 = .ok (.aload_n 0, 1) := by decide +kernel
theorem dX8_one_9 : decode cX8_one 9 = .ok (.aload_n 0, 1) := by decide +kernel
theorem dX8_one_10 : decode cX8_one 10 = .ok (.getfield 137, 3) := by decide +kernel
theorem dX8_one_13 : decode cX8_one 13 = .ok (.invokevirtual 169, 3) := by decide +kernel
theorem dX8_one_16 : decode cX8_one 16 = .ok (.aload_n 0, 1) := by decide +kernel
theorem dX8_one_17 : decode cX8_one 17 = .ok (.invokevirtual 166, 3) := by decide +kernel
theorem dX8_one_20 : decode cX8_one 20 = .ok (.iconst 1, 1) := by decide +kernel
theorem dX8_one_21 : decode cX8_one 21 = .ok (.ireturn, 1) := by decide +kernel
theorem dX8_one_22 : decode cX8_one 22 = .ok (.aload_n 0, 1) := by decide +kernel
theorem dX8_one_23 : decode cX8_one 23 = .ok (.invokevirtual 194, 3) := by decide +kernel
theorem dX8_one_26 : decode cX8_one 26 = .ok (.istore_n 1, 1) := by decide +kernel
theorem dX8_one_27 : decode cX8_one 27 = .ok (.iload_n 1, 1) := by decide +kernel
theorem dX8_one_28 : decode cX8_one 28 = .ok (.ifCond .le 15, 3) := by decide +kernel
theorem dX8_one_31 : decode cX8_one 31 = .ok (.aload_n 0, 1) := by decide +kernel
theorem dX8_one_32 : decode cX8_one 32 = .ok (.iload_n 1, 1) := by decide +kernel
theorem dX8_one_33 : decode cX8_one 33 = .ok (.ineg, 1) := by decide +kernel
theorem dX8_one_34 : decode cX8_one 34 = .ok (.invokevirtual 169, 3) := by decide +kernel
theorem dX8_one_37 : decode cX8_one 37 = .ok (.aload_n 0, 1) := by decide +kernel
theorem dX8_one_38 : decode cX8_one 38 = .ok (.invokevirtual 166, 3) := by decide +kernel
theorem dX8_one_41 : decode cX8_one 41 = .ok (.iconst 1, 1) := by decide +kernel
theorem dX8_one_42 : decode cX8_one 42 = .ok (.ireturn, 1) := by decide +kernel
theorem dX8_one_43 : decode cX8_one 43 = .ok (.aload_n 0, 1) := by decide +kernel
theorem dX8_one_44 : decode cX8_one 44 = .ok (.bipush 45, 2) := by decide +kernel
theorem dX8_one_46 : decode cX8_one 46 = .ok (.invokevirtual 185, 3) := by decide +kernel
theorem dX8_one_49 : decode cX8_one 49 = .ok (.ifCond .eq 54, 3) := by decide +kernel
theorem dX8_one_52 : decode cX8_one 52 = .ok (.aload_n 0, 1) := by decide +kernel
theorem dX8_one_53 : decode cX8_one 53 = .ok (.getfield 179, 3) := by decide +kernel
theorem dX8_one_56 : decode cX8_one 56 = .ok (.iconst 5, 1) := by decide +kernel
theorem dX8_one_57 : decode cX8_one 57 = .ok (.if_icmp .ne 5, 3) := by decide +kernel
theorem dX8_one_60 : decode cX8_one 60 = .ok (.iconst 0, 1) := by decide +kernel
theorem dX8_one_61 : decode cX8_one 61 = .ok (.ireturn, 1) := by decide +kernel
theorem dX8_one_62 : decode cX8_one 62 = .ok (.aload_n 0, 1) := by decide +kernel
theorem dX8_one_63 : decode cX8_one 63 = .ok (.dup, 1) := by decide +kernel
theorem dX8_one_64 : decode cX8_one 64 = .ok (.getfield 179, 3) := by decide +kernel
theorem dX8_one_67 : decode cX8_one 67 = .ok (.iconst 1, 1) := by decide +kernel
theorem dX8_one_68 : decode cX8_one 68 = .ok (.iadd, 1) := by decide +kernel
theorem dX8_one_69 : decode cX8_one 69 = .ok (.putfield 179, 3) := by decide +kernel
theorem dX8_one_72 : decode cX8_one 72 = .ok (.aload_n 0, 1) := by decide +kernel
theorem dX8_one_73 : decode cX8_one 73 = .ok (.invokevirtual 166, 3) := by decide +kernel
theorem dX8_one_76 : decode cX8_one 76 = .ok (.aload_n 0, 1) := by decide +kernel
theorem dX8_one_77 : decode cX8_one 77 = .ok (.invokevirtual 191, 3) := by decide +kernel
theorem dX8_one_80 : decode cX8_one 80 = .ok (.ifCond .ne 5, 3) := by decide +kernel
theorem dX8_one_83 : decode cX8_one 83 = .ok (.iconst 0, 1) := by decide +kernel
theorem dX8_one_84 : decode cX8_one 84 = .ok (.ireturn, 1) := by decide +kernel
theorem dX8_one_85 : decode cX8_one 85 = .ok (.aload_n 0, 1) := by decide +kernel
theorem dX8_one_86 : decode cX8_one 86 = .ok (.dup, 1) := by decide +kernel
theorem dX8_one_87 : decode cX8_one 87 = .ok (.getfield 179, 3) := by decide +kernel
theorem dX8_one_90 : decode cX8_one 90 = .ok (.iconst 1, 1) := by decide +kernel
theorem dX8_one_91 : decode cX8_one 91 = .ok (.isub, 1) := by decide +kernel
theorem dX8_one_92 : decode cX8_one 92 = .ok (.putfield 179, 3) := by decide +kernel
theorem dX8_one_95 : decode cX8_one 95 = .ok (.aload_n 0, 1) := by decide +kernel
theorem dX8_one_96 : decode cX8_one 96 = .ok (.bipush (-19), 2) := by decide +kernel
theorem dX8_one_98 : decode cX8_one 98 = .ok (.invokevirtual 169, 3) := by decide +kernel
theorem dX8_one_101 : decode cX8_one 101 = .ok (.iconst 1, 1) := by decide +kernel
theorem dX8_one_102 : decode cX8_one 102 = .ok (.ireturn, 1) := by decide +kernel
theorem dX8_one_103 : decode cX8_one 103 = .ok (.aload_n 0, 1) := by decide +kernel
theorem dX8_one_104 : decode cX8_one 104 = .ok (.bipush 40, 2) := by decide +kernel
theorem dX8_one_106 : decode cX8_one 106 = .ok (.invokevirtual 185, 3) := by decide +kernel
theorem dX8_one_109 : decode cX8_one 109 = .ok (.ifCond .eq 11, 3) := by decide +kernel
theorem dX8_one_112 : decode cX8_one 112 = .ok (.aload_n 0, 1) := by decide +kernel
theorem dX8_one_113 : decode cX8_one 113 = .ok (.getfield 179, 3) := by decide +kernel
theorem dX8_one_116 : decode cX8_one 116 = .ok (.iconst 5, 1) := by decide +kernel
theorem dX8_one_117 : decode cX8_one 117 = .ok (.if_icmp .ne 5, 3) := by decide +kernel
theorem dX8_one_120 : decode cX8_one 120 = .ok (.iconst 0, 1) := by decide +kernel
theorem dX8_one_121 : decode cX8_one 121 = .ok (.ireturn, 1) := by decide +kernel
theorem dX8_one_122 : decode cX8_one 122 = .ok (.aload_n 0, 1) := by decide +kernel
theorem dX8_one_123 : decode cX8_one 123 = .ok (.dup, 1) := by decide +kernel
theorem dX8_one_124 : decode cX8_one 124 = .ok (.getfield 179, 3) := by decide +kernel
theorem dX8_one_127 : decode cX8_one 127 = .ok (.iconst 1, 1) := by decide +kernel
theorem dX8_one_128 : decode cX8_one 128 = .ok (.iadd, 1) := by decide +kernel
theorem dX8_one_129 : decode cX8_one 129 = .ok (.putfield 179, 3) := by decide +kernel
theorem dX8_one_132 : decode cX8_one 132 = .ok (.aload_n 0, 1) := by decide +kernel
theorem dX8_one_133 : decode cX8_one 133 = .ok (.invokevirtual 166, 3) := by decide +kernel
theorem dX8_one_136 : decode cX8_one 136 = .ok (.aload_n 0, 1) := by decide +kernel
theorem dX8_one_137 : decode cX8_one 137 = .ok (.invokevirtual 197, 3) := by decide +kernel
theorem dX8_one_140 : decode cX8_one 140 = .ok (.ifCond .eq 12, 3) := by decide +kernel
theorem dX8_one_143 : decode cX8_one 143 = .ok (.aload_n 0, 1) := by decide +kernel
theorem dX8_one_144 : decode cX8_one 144 = .ok (.bipush 41, 2) := by decide +kernel
theorem dX8_one_146 : decode cX8_one 146 = .ok (.invokevirtual 185, 3) := by decide +kernel
theorem dX8_one_149 : decode cX8_one 149 = .ok (.ifCond .ne 5, 3) := by decide +kernel
theorem dX8_one_152 : decode cX8_one 152 = .ok (.iconst 0, 1) := by decide +kernel
theorem dX8_one_153 : decode cX8_one 153 = .ok (.ireturn, 1) := by decide +kernel
theorem dX8_one_154 : decode cX8_one 154 = .ok (.aload_n 0, 1) := by decide +kernel
theorem dX8_one_155 : decode cX8_one 155 = .ok (.dup, 1) := by decide +kernel
theorem dX8_one_156 : decode cX8_one 156 = .ok (.getfield 179, 3) := by decide +kernel
theorem dX8_one_159 : decode cX8_one 159 = .ok (.iconst 1, 1) := by decide +kernel
theorem dX8_one_160 : decode cX8_one 160 = .ok (.isub, 1) := by decide +kernel
theorem dX8_one_161 : decode cX8_one 161 = .ok (.putfield 179, 3) := by decide +kernel
theorem dX8_one_164 : decode cX8_one 164 = .ok (.aload_n 0, 1) := by decide +kernel
theorem dX8_one_165 : decode cX8_one 165 = .ok (.invokevirtual 166, 3) := by decide +kernel
theorem dX8_one_168 : decode cX8_one 168 = .ok (.iconst 1, 1) := by decide +kernel
theorem dX8_one_169 : decode cX8_one 169 = .ok (.ireturn, 1) := by decide +kernel
theorem dX8_part_0 : decode cX8_part 0 = .ok (.aload_n 0, 1) := by decide +kernel
theorem dX8_part_1 : decode cX8_part 1 = .ok (.aload_n 1, 1) := by decide +kernel
theorem dX8_part_2 : decode cX8_part 2 = .ok (.invokevirtual 145, 3) := by decide +kernel
theorem dX8_part_5 : decode cX8_part 5 = .ok (.ifCond .ne 5, 3) := by decide +kernel
theorem dX8_part_8 : decode cX8_part 8 = .ok (.iconst 0, 1) := by decide +kernel
theorem dX8_part_9 : decode cX8_part 9 = .ok (.ireturn, 1) := by decide +kernel
theorem dX8_part_10 : decode cX8_part 10 = .ok (.aload_n 0, 1) := by decide +kernel
theorem dX8_part_11 : decode cX8_part 11 = .ok (.invokevirtual 166, 3) := by decide +kernel
theorem dX8_part_14 : decode cX8_part 14 = .ok (.aload_n 0, 1) := by decide +kernel
theorem dX8_part_15 : decode cX8_part 15 = .ok (.getfield 37, 3) := by decide +kernel
theorem dX8_part_18 : decode cX8_part 18 = .ok (.iconst 4, 1) := by decide +kernel
theorem dX8_part_19 : decode cX8_part 19 = .ok (.aload_n 0, 1) := by decide +kernel
theorem dX8_part_20 : decode cX8_part 20 = .ok (.getfield 118, 3) := by decide +kernel
theorem dX8_part_23 : decode cX8_part 23 = .ok (.imul, 1) := by decide +kernel
theorem dX8_part_24 : decode cX8_part 24 = .ok (.iload_n 2, 1) := by decide +kernel
theorem dX8_part_25 : decode cX8_part 25 = .ok (.iadd, 1) := by decide +kernel
theorem dX8_part_26 : decode cX8_part 26 = .ok (.aload_n 0, 1) := by decide +kernel
theorem dX8_part_27 : decode cX8_part 27 = .ok (.getfield 157, 3) := by decide +kernel
theorem dX8_part_30 : decode cX8_part 30 = .ok (.iastore, 1) := by decide +kernel
theorem dX8_part_31 : decode cX8_part 31 = .ok (.aload_n 0, 1) := by decide +kernel
theorem dX8_part_32 : decode cX8_part 32 = .ok (.invokevirtual 197, 3) := by decide +kernel
theorem dX8_part_35 : decode cX8_part 35 = .ok (.ifCond .eq 12, 3) := by decide +kernel
theorem dX8_part_38 : decode cX8_part 38 = .ok (.aload_n 0, 1) := by decide +kernel
theorem dX8_part_39 : decode cX8_part 39 = .ok (.bipush 59, 2) := by decide +kernel
theorem dX8_part_41 : decode cX8_part 41 = .ok (.invokevirtual 185, 3) := by decide +kernel
theorem dX8_part_44 : decode cX8_part 44 = .ok (.ifCond .ne 5, 3) := by decide +kernel
theorem dX8_part_47 : decode cX8_part 47 = .ok (.iconst 0, 1) := by decide +kernel
theorem dX8_part_48 : decode cX8_part 48 = .ok (.ireturn, 1) := by decide +kernel
theorem dX8_part_49 : decode cX8_part 49 = .ok (.aload_n 0, 1) := by decide +kernel
theorem dX8_part_50 : decode cX8_part 50 = .ok (.invokevirtual 166, 3) := by decide +kernel
theorem dX8_part_53 : decode cX8_part 53 = .ok (.iconst 1, 1) := by decide +kernel
theorem dX8_part_54 : decode cX8_part 54 = .ok (.ireturn, 1) := by decide +kernel
theorem dX8_text_0 : decode cX8_text 0 = .ok (.aload_n 0, 1) := by decide +kernel
theorem dX8_text_1 : decode cX8_text 1 = .ok (.getfield 118, 3) := by decide +kernel
theorem dX8_text_4 : decode cX8_text 4 = .ok (.bipush 6, 2) := by decide +kernel
theorem dX8_text_6 : decode cX8_text 6 = .ok (.if_icmp .ne 6, 3) := by decide +kernel
theorem dX8_text_9 : decode cX8_text 9 = .ok (.bipush (-4), 2) := by decide +kernel
theorem dX8_text_11 : decode cX8_text 11 = .ok (.ireturn, 1) := by decide +kernel
theorem dX8_text_12 : decode cX8_text 12 = .ok (.aload_n 0, 1) := by decide +kernel
theorem dX8_text_13 : decode cX8_text 13 = .ok (.iconst 0, 1) := by decide +kernel
theorem dX8_text_14 : decode cX8_text 14 = .ok (.putfield 124, 3) := by decide +kernel
theorem dX8_text_17 : decode cX8_text 17 = .ok (.aload_n 0, 1) := by decide +kernel
theorem dX8_text_18 : decode cX8_text 18 = .ok (.iconst 0, 1) := by decide +kernel
theorem dX8_text_19 : decode cX8_text 19 = .ok (.putfield 179, 3) := by decide +kernel
theorem dX8_text_22 : decode cX8_text 22 = .ok (.aload_n 0, 1) := by decide +kernel
theorem dX8_text_23 : decode cX8_text 23 = .ok (.iconst 0, 1) := by decide +kernel
theorem dX8_text_24 : decode cX8_text 24 = .ok (.putfield 157, 3) := by decide +kernel
theorem dX8_text_27 : decode cX8_text 27 = .ok (.aload_n 0, 1) := by decide +kernel
theorem dX8_text_28 : decode cX8_text 28 = .ok (.invokevirtual 166, 3) := by decide +kernel
theorem dX8_text_31 : decode cX8_text 31 = .ok (.aload_n 0, 1) := by decide +kernel
theorem dX8_text_32 : decode cX8_text 32 = .ok (.ldc 200, 2) := by decide +kernel
theorem dX8_text_34 : decode cX8_text 34 = .ok (.iconst 0, 1) := by decide +kernel
theorem dX8_text_35 : decode cX8_text 35 = .ok (.invokevirtual 202, 3) := by decide +kernel
theorem dX8_text_38 : decode cX8_text 38 = .ok (.ifCond .eq 34, 3) := by decide +kernel
theorem dX8_text_41 : decode cX8_text 41 = .ok (.aload_n 0, 1) := by decide +kernel
theorem dX8_text_42 : decode cX8_text 42 = .ok (.ldc 206, 2) := by decide +kernel
theorem dX8_text_44 : decode cX8_text 44 = .ok (.iconst 1, 1) := by decide +kernel
theorem dX8_text_45 : decode cX8_text 45 = .ok (.invokevirtual 202, 3) := by decide +kernel
theorem dX8_text_48 : decode cX8_text 48 = .ok (.ifCond .eq 24, 3) := by decide +kernel
theorem dX8_text_51 : decode cX8_text 51 = .ok (.aload_n 0, 1) := by decide +kernel
theorem dX8_text_52 : decode cX8_text 52 = .ok (.ldc 208, 2) := by decide +kernel
theorem dX8_text_54 : decode cX8_text 54 = .ok (.iconst 2, 1) := by decide +kernel
theorem dX8_text_55 : decode cX8_text 55 = .ok (.invokevirtual 202, 3) := by decide +kernel
theorem dX8_text_58 : decode cX8_text 58 = .ok (.ifCond .eq 14, 3) := by decide +kernel
theorem dX8_text_61 : decode cX8_text 61 = .ok (.aload_n 0, 1) := by decide +kernel
theorem dX8_text_62 : decode cX8_text 62 = .ok (.getfield 130, 3) := by decide +kernel
theorem dX8_text_65 : decode cX8_text 65 = .ok (.ifCond .ne 7, 3) := by decide +kernel
theorem dX8_text_68 : decode cX8_text 68 = .ok (.iconst 1, 1) := by decide +kernel
theorem dX8_text_69 : decode cX8_text 69 = .ok (.goto 4, 3) := by decide +kernel
theorem dX8_text_72 : decode cX8_text 72 = .ok (.iconst 0, 1) := by decide +kernel
theorem dX8_text_73 : decode cX8_text 73 = .ok (.istore_n 1, 1) := by decide +kernel
theorem dX8_text_74 : decode cX8_text 74 = .ok (.aload_n 0, 1) := by decide +kernel
theorem dX8_text_75 : decode cX8_text 75 = .ok (.iconst 0, 1) := by decide +kernel
theorem dX8_text_76 : decode cX8_text 76 = .ok (.putfield 97, 3) := by decide +kernel
theorem dX8_text_79 : decode cX8_text 79 = .ok (.iload_n 1, 1) := by decide +kernel
theorem dX8_text_80 : decode cX8_text 80 = .ok (.ifCond .ne 11, 3) := by decide +kernel
theorem dX8_text_83 : decode cX8_text 83 = .ok (.bipush (-100), 2) := by decide +kernel
theorem dX8_text_85 : decode cX8_text 85 = .ok (.aload_n 0, 1) := by decide +kernel
theorem dX8_text_86 : decode cX8_text 86 = .ok (.getfield 127, 3) := by decide +kernel
theorem dX8_text_89 : decode cX8_text 89 = .ok (.isub, 1) := by decide +kernel
theorem dX8_text_90 : decode cX8_text 90 = .ok (.ireturn, 1) := by decide +kernel
theorem dX8_text_91 : decode cX8_text 91 = .ok (.aload_n 0, 1) := by decide +kernel
theorem dX8_text_92 : decode cX8_text 92 = .ok (.getfield 37, 3) := by decide +kernel
theorem dX8_text_95 : decode cX8_text 95 = .ok (.iconst 4, 1) := by decide +kernel
theorem dX8_text_96 : decode cX8_text 96 = .ok (.aload_n 0, 1) := by decide +kernel
theorem dX8_text_97 : decode cX8_text 97 = .ok (.getfield 118, 3) := by decide +kernel
theorem dX8_text_100 : decode cX8_text 100 = .ok (.imul, 1) := by decide +kernel
theorem dX8_text_101 : decode cX8_text 101 = .ok (.iconst 3, 1) := by decide +kernel
theorem dX8_text_102 : decode cX8_text 102 = .ok (.iadd, 1) := by decide +kernel
theorem dX8_text_103 : decode cX8_text 103 = .ok (.aload_n 0, 1) := by decide +kernel
theorem dX8_text_104 : decode cX8_text 104 = .ok (.getfield 157, 3) := by decide +kernel
theorem dX8_text_107 : decode cX8_text 107 = .ok (.iastore, 1) := by decide +kernel
theorem dX8_text_108 : decode cX8_text 108 = .ok (.aload_n 0, 1) := by decide +kernel
theorem dX8_text_109 : decode cX8_text 109 = .ok (.dup, 1) := by decide +kernel
theorem dX8_text_110 : decode cX8_text 110 = .ok (.getfield 118, 3) := by decide +kernel
theorem dX8_text_113 : decode cX8_text 113 = .ok (.dup_x1, 1) := by decide +kernel
theorem dX8_text_114 : decode cX8_text 114 = .ok (.iconst 1, 1) := by decide +kernel
theorem dX8_text_115 : decode cX8_text 115 = .ok (.iadd, 1) := by decide +kernel
theorem dX8_text_116 : decode cX8_text 116 = .ok (.putfield 118, 3) := by decide +kernel
theorem dX8_text_119 : decode cX8_text 119 = .ok (.ireturn, 1) := by decide +kernel
theorem dX8_force_0 : decode cX8_force 0 = .ok (.iload_n 1, 1) := by decide +kernel
theorem dX8_force_1 : decode cX8_force 1 = .ok (.iconst 0, 1) := by decide +kernel
theorem dX8_force_2 : decode cX8_force 2 = .ok (.aload_n 0, 1) := by decide +kernel
theorem dX8_force_3 : decode cX8_force 3 = .ok (.getfield 118, 3) := by decide +kernel
theorem dX8_force_6 : decode cX8_force 6 = .ok (.iconst 1, 1) := by decide +kernel
theorem dX8_force_7 : decode cX8_force 7 = .ok (.isub, 1) := by decide +kernel
theorem dX8_force_8 : decode cX8_force 8 = .ok (.invokestatic 108, 3) := by decide +kernel
theorem dX8_force_11 : decode cX8_force 11 = .ok (.ifCond .ne 6, 3) := by decide +kernel
theorem dX8_force_14 : decode cX8_force 14 = .ok (.bipush (-2), 2) := by decide +kernel
theorem dX8_force_16 : decode cX8_force 16 = .ok (.ireturn, 1) := by decide +kernel
theorem dX8_force_17 : decode cX8_force 17 = .ok (.aload_n 0, 1) := by decide +kernel
theorem dX8_force_18 : decode cX8_force 18 = .ok (.getfield 121, 3) := by decide +kernel
theorem dX8_force_21 : decode cX8_force 21 = .ok (.istore_n 2, 1) := by decide +kernel
theorem dX8_force_22 : decode cX8_force 22 = .ok (.aload_n 0, 1) := by decide +kernel
theorem dX8_force_23 : decode cX8_force 23 = .ok (.iload_n 1, 1) := by decide +kernel
theorem dX8_force_24 : decode cX8_force 24 = .ok (.putfield 121, 3) := by decide +kernel
theorem dX8_force_27 : decode cX8_force 27 = .ok (.iload_n 2, 1) := by decide +kernel
theorem dX8_force_28 : decode cX8_force 28 = .ok (.ireturn, 1) := by decide +kernel
theorem dX8_worth_0 : decode cX8_worth 0 = .ok (.aload_n 0, 1) := by decide +kernel
theorem dX8_worth_1 : decode cX8_worth 1 = .ok (.getfield 37, 3) := by decide +kernel
theorem dX8_worth_4 : decode cX8_worth 4 = .ok (.iconst 4, 1) := by decide +kernel
theorem dX8_worth_5 : decode cX8_worth 5 = .ok (.aload_n 0, 1) := by decide +kernel
theorem dX8_worth_6 : decode cX8_worth 6 = .ok (.getfield 121, 3) := by decide +kernel
theorem dX8_worth_9 : decode cX8_worth 9 = .ok (.imul, 1) := by decide +kernel
theorem dX8_worth_10 : decode cX8_worth 10 = .ok (.iload_n 1, 1) := by decide +kernel
theorem dX8_worth_11 : decode cX8_worth 11 = .ok (.iadd, 1) := by decide +kernel
theorem dX8_worth_12 : decode cX8_worth 12 = .ok (.iconst 1, 1) := by decide +kernel
theorem dX8_worth_13 : decode cX8_worth 13 = .ok (.iadd, 1) := by decide +kernel
theorem dX8_worth_14 : decode cX8_worth 14 = .ok (.iaload, 1) := by decide +kernel
theorem dX8_worth_15 : decode cX8_worth 15 = .ok (.istore 8, 2) := by decide +kernel
theorem dX8_worth_17 : decode cX8_worth 17 = .ok (.iconst 0, 1) := by decide +kernel
theorem dX8_worth_18 : decode cX8_worth 18 = .ok (.istore 9, 2) := by decide +kernel
theorem dX8_worth_20 : decode cX8_worth 20 = .ok (.aload_n 0, 1) := by decide +kernel
theorem dX8_worth_21 : decode cX8_worth 21 = .ok (.getfield 37, 3) := by decide +kernel
theorem dX8_worth_24 : decode cX8_worth 24 = .ok (.iconst 4, 1) := by decide +kernel
theorem dX8_worth_25 : decode cX8_worth 25 = .ok (.aload_n 0, 1) := by decide +kernel
theorem dX8_worth_26 : decode cX8_worth 26 = .ok (.getfield 121, 3) := by decide +kernel
theorem dX8_worth_29 : decode cX8_worth 29 = .ok (.imul, 1) := by decide +kernel
theorem dX8_worth_30 : decode cX8_worth 30 = .ok (.iload_n 1, 1) := by decide +kernel
theorem dX8_worth_31 : decode cX8_worth 31 = .ok (.iadd, 1) := by decide +kernel
theorem dX8_worth_32 : decode cX8_worth 32 = .ok (.iaload, 1) := by decide +kernel
theorem dX8_worth_33 : decode cX8_worth 33 = .ok (.istore 10, 2) := by decide +kernel
theorem dX8_worth_35 : decode cX8_worth 35 = .ok (.iload 10, 2) := by decide +kernel
theorem dX8_worth_37 : decode cX8_worth 37 = .ok (.iload 8, 2) := by decide +kernel
theorem dX8_worth_39 : decode cX8_worth 39 = .ok (.if_icmp .ge 359, 3) := by decide +kernel
theorem dX8_worth_42 : decode cX8_worth 42 = .ok (.aload_n 0, 1) := by decide +kernel
theorem dX8_worth_43 : decode cX8_worth 43 = .ok (.getfield 34, 3) := by decide +kernel
theorem dX8_worth_46 : decode cX8_worth 46 = .ok (.sipush 170, 3) := by decide +kernel
theorem dX8_worth_49 : decode cX8_worth 49 = .ok (.aload_n 0, 1) := by decide +kernel
theorem dX8_worth_50 : decode cX8_worth 50 = .ok (.getfield 121, 3) := by decide +kernel
theorem dX8_worth_53 : decode cX8_worth 53 = .ok (.imul, 1) := by decide +kernel
theorem dX8_worth_54 : decode cX8_worth 54 = .ok (.iload 10, 2) := by decide +kernel
theorem dX8_worth_56 : decode cX8_worth 56 = .ok (.iadd, 1) := by decide +kernel
theorem dX8_worth_57 : decode cX8_worth 57 = .ok (.iaload, 1) := by decide +kernel
theorem dX8_worth_58 : decode cX8_worth 58 = .ok (.istore 11, 2) := by decide +kernel
theorem dX8_worth_60 : decode cX8_worth 60 = .ok (.iload 11, 2) := by decide +kernel
theorem dX8_worth_62 : decode cX8_worth 62 = .ok (.ifCond .lt 18, 3) := by decide +kernel
theorem dX8_worth_65 : decode cX8_worth 65 = .ok (.aload_n 0, 1) := by decide +kernel
theorem dX8_worth_66 : decode cX8_worth 66 = .ok (.getfield 40, 3) := by decide +kernel
theorem dX8_worth_69 : decode cX8_worth 69 = .ok (.iload 9, 2) := by decide +kernel
theorem dX8_worth_71 : decode cX8_worth 71 = .ok (.iinc 9 1, 3) := by decide +kernel
theorem dX8_worth_74 : decode cX8_worth 74 = .ok (.iload 11, 2) := by decide +kernel
theorem dX8_worth_76 : decode cX8_worth 76 = .ok (.iastore, 1) := by decide +kernel
theorem dX8_worth_77 : decode cX8_worth 77 = .ok (.goto 315, 3) := by decide +kernel
theorem dX8_worth_80 : decode cX8_worth 80 = .ok (.iload 11, 2) := by decide +kernel
theorem dX8_worth_82 : decode cX8_worth 82 = .ok (.bipush (-7), 2) := by decide +kernel
theorem dX8_worth_84 : decode cX8_worth 84 = .ok (.if_icmp .le 75, 3) := by decide +kernel
theorem dX8_worth_87 : decode cX8_worth 87 = .ok (.aload_n 0, 1) := by decide +kernel
theorem dX8_worth_88 : decode cX8_worth 88 = .ok (.getfield 40, 3) := by decide +kernel
theorem dX8_worth_91 : decode cX8_worth 91 = .ok (.iload 9, 2) := by decide +kernel
theorem dX8_worth_93 : decode cX8_worth 93 = .ok (.iinc 9 1, 3) := by decide +kernel
theorem dX8_worth_96 : decode cX8_worth 96 = .ok (.iload 11, 2) := by decide +kernel
theorem dX8_worth_98 : decode cX8_worth 98 = .ok (.iconst (-1), 1) := by decide +kernel
theorem dX8_worth_99 : decode cX8_worth 99 = .ok (.if_icmp .ne 7, 3) := by decide +kernel
theorem dX8_worth_102 : decode cX8_worth 102 = .ok (.iload_n 2, 1) := by decide +kernel
theorem dX8_worth_103 : decode cX8_worth 103 = .ok (.goto 52, 3) := by decide +kernel
theorem dX8_worth_106 : decode cX8_worth 106 = .ok (.iload 11, 2) := by decide +kernel
theorem dX8_worth_108 : decode cX8_worth 108 = .ok (.bipush (-2), 2) := by decide +kernel
theorem dX8_worth_110 : decode cX8_worth 110 = .ok (.if_icmp .ne 7, 3) := by decide +kernel
theorem dX8_worth_113 : decode cX8_worth 113 = .ok (.iload_n 3, 1) := by decide +kernel
theorem dX8_worth_114 : decode cX8_worth 114 = .ok (.goto 41, 3) := by decide +kernel
theorem dX8_worth_117 : decode cX8_worth 117 = .ok (.iload 11, 2) := by decide +kernel
theorem dX8_worth_119 : decode cX8_worth 119 = .ok (.bipush (-3), 2) := by decide +kernel
theorem dX8_worth_121 : decode cX8_worth 121 = .ok (.if_icmp .ne 8, 3) := by decide +kernel
theorem dX8_worth_124 : decode cX8_worth 124 = .ok (.iload 4, 2) := by decide +kernel
theorem dX8_worth_126 : decode cX8_worth 126 = .ok (.goto 29, 3) := by decide +kernel
theorem dX8_worth_129 : decode cX8_worth 129 = .ok (.iload 11, 2) := by decide +kernel
theorem dX8_worth_131 : decode cX8_worth 131 = .ok (.bipush (-4), 2) := by decide +kernel
theorem dX8_worth_133 : decode cX8_worth 133 = .ok (.if_icmp .ne 8, 3) := by decide +kernel
theorem dX8_worth_136 : decode cX8_worth 136 = .ok (.iload 5, 2) := by decide +kernel
theorem dX8_worth_138 : decode cX8_worth 138 = .ok (.goto 17, 3) := by decide +kernel
theorem dX8_worth_141 : decode cX8_worth 141 = .ok (.iload 11, 2) := by decide +kernel
theorem dX8_worth_143 : decode cX8_worth 143 = .ok (.bipush (-5), 2) := by decide +kernel
theorem dX8_worth_145 : decode cX8_worth 145 = .ok (.if_icmp .ne 8, 3) := by decide +kernel
theorem dX8_worth_148 : decode cX8_worth 148 = .ok (.iload 6, 2) := by decide +kernel
theorem dX8_worth_150 : decode cX8_worth 150 = .ok (.goto 5, 3) := by decide +kernel
theorem dX8_worth_153 : decode cX8_worth 153 = .ok (.iload 7, 2) := by decide +kernel
theorem dX8_worth_155 : decode cX8_worth 155 = .ok (.iastore, 1) := by decide +kernel
theorem dX8_worth_156 : decode cX8_worth 156 = .ok (.goto 236, 3) := by decide +kernel
theorem dX8_worth_159 : decode cX8_worth 159 = .ok (.aload_n 0, 1) := by decide +kernel
theorem dX8_worth_160 : decode cX8_worth 160 = .ok (.getfield 40, 3) := by decide +kernel
theorem dX8_worth_163 : decode cX8_worth 163 = .ok (.iload 9, 2) := by decide +kernel
theorem dX8_worth_165 : decode cX8_worth 165 = .ok (.iconst 1, 1) := by decide +kernel
theorem dX8_worth_166 : decode cX8_worth 166 = .ok (.isub, 1) := by decide +kernel
theorem dX8_worth_167 : decode cX8_worth 167 = .ok (.iaload, 1) := by decide +kernel
theorem dX8_worth_168 : decode cX8_worth 168 = .ok (.istore 12, 2) := by decide +kernel
theorem dX8_worth_170 : decode cX8_worth 170 = .ok (.iload 11, 2) := by decide +kernel
theorem dX8_worth_172 : decode cX8_worth 172 = .ok (.bipush (-13), 2) := by decide +kernel
theorem dX8_worth_174 : decode cX8_worth 174 = .ok (.if_icmp .ne 25, 3) := by decide +kernel
theorem dX8_worth_177 : decode cX8_worth 177 = .ok (.aload_n 0, 1) := by decide +kernel
theorem dX8_worth_178 : decode cX8_worth 178 = .ok (.getfield 40, 3) := by decide +kernel
theorem dX8_worth_181 : decode cX8_worth 181 = .ok (.iload 9, 2) := by decide +kernel
theorem dX8_worth_183 : decode cX8_worth 183 = .ok (.iconst 1, 1) := by decide +kernel
theorem dX8_worth_184 : decode cX8_worth 184 = .ok (.isub, 1) := by decide +kernel
theorem dX8_worth_185 : decode cX8_worth 185 = .ok (.iload 12, 2) := by decide +kernel
theorem dX8_worth_187 : decode cX8_worth 187 = .ok (.ifCond .ne 7, 3) := by decide +kernel
theorem dX8_worth_190 : decode cX8_worth 190 = .ok (.iconst 1, 1) := by decide +kernel
theorem dX8_worth_191 : decode cX8_worth 191 = .ok (.goto 4, 3) := by decide +kernel
theorem dX8_worth_194 : decode cX8_worth 194 = .ok (.iconst 0, 1) := by decide +kernel
theorem dX8_worth_195 : decode cX8_worth 195 = .ok (.iastore, 1) := by decide +kernel
theorem dX8_worth_196 : decode cX8_worth 196 = .ok (.goto 196, 3) := by decide +kernel
theorem dX8_worth_199 : decode cX8_worth 199 = .ok (.iload 11, 2) := by decide +kernel
theorem dX8_worth_201 : decode cX8_worth 201 = .ok (.bipush (-19), 2) := by decide +kernel
theorem dX8_worth_203 : decode cX8_worth 203 = .ok (.if_icmp .ne 18, 3) := by decide +kernel
theorem dX8_worth_206 : decode cX8_worth 206 = .ok (.aload_n 0, 1) := by decide +kernel
theorem dX8_worth_207 : decode cX8_worth 207 = .ok (.getfield 40, 3) := by decide +kernel
theorem dX8_worth_210 : decode cX8_worth 210 = .ok (.iload 9, 2) := by decide +kernel
theorem dX8_worth_212 : decode cX8_worth 212 = .ok (.iconst 1, 1) := by decide +kernel
theorem dX8_worth_213 : decode cX8_worth 213 = .ok (.isub, 1) := by decide +kernel
theorem dX8_worth_214 : decode cX8_worth 214 = .ok (.iload 12, 2) := by decide +kernel
theorem dX8_worth_216 : decode cX8_worth 216 = .ok (.ineg, 1) := by decide +kernel
theorem dX8_worth_217 : decode cX8_worth 217 = .ok (.iastore, 1) := by decide +kernel
theorem dX8_worth_218 : decode cX8_worth 218 = .ok (.goto 174, 3) := by decide +kernel
theorem dX8_worth_221 : decode cX8_worth 221 = .ok (.aload_n 0, 1) := by decide +kernel
theorem dX8_worth_222 : decode cX8_worth 222 = .ok (.getfield 40, 3) := by decide +kernel
theorem dX8_worth_225 : decode cX8_worth 225 = .ok (.iload 9, 2) := by decide +kernel
theorem dX8_worth_227 : decode cX8_worth 227 = .ok (.iconst 2, 1) := by decide +kernel
theorem dX8_worth_228 : decode cX8_worth 228 = .ok (.isub, 1) := by decide +kernel
theorem dX8_worth_229 : decode cX8_worth 229 = .ok (.iaload, 1) := by decide +kernel
theorem dX8_worth_230 : decode cX8_worth 230 = .ok (.istore 13, 2) := by decide +kernel
theorem dX8_worth_232 : decode cX8_worth 232 = .ok (.iinc 9 (-1), 3) := by decide +kernel
theorem dX8_worth_235 : decode cX8_worth 235 = .ok (.iload 11, 2) := by decide +kernel
theorem dX8_worth_237 : decode cX8_worth 237 = .ok (.tableswitch 137 (-17) (-11) #[127, 117, 100, 83, 137, 63, 43], 43) := by decide +kernel
theorem dX8_worth_280 : decode cX8_worth 280 = .ok (.iload 13, 2) := by decide +kernel
theorem dX8_worth_282 : decode cX8_worth 282 = .ok (.ifCond .ne 8, 3) := by decide +kernel
theorem dX8_worth_285 : decode cX8_worth 285 = .ok (.iload 12, 2) := by decide +kernel
theorem dX8_worth_287 : decode cX8_worth 287 = .ok (.ifCond .eq 7, 3) := by decide +kernel
theorem dX8_worth_290 : decode cX8_worth 290 = .ok (.iconst 1, 1) := by decide +kernel
theorem dX8_worth_291 : decode cX8_worth 291 = .ok (.goto 4, 3) := by decide +kernel
theorem dX8_worth_294 : decode cX8_worth 294 = .ok (.iconst 0, 1) := by decide +kernel
theorem dX8_worth_295 : decode cX8_worth 295 = .ok (.istore 14, 2) := by decide +kernel
theorem dX8_worth_297 : decode cX8_worth 297 = .ok (.goto 84, 3) := by decide +kernel
theorem dX8_worth_300 : decode cX8_worth 300 = .ok (.iload 13, 2) := by decide +kernel
theorem dX8_worth_302 : decode cX8_worth 302 = .ok (.ifCond .eq 12, 3) := by decide +kernel
theorem dX8_worth_305 : decode cX8_worth 305 = .ok (.iload 12, 2) := by decide +kernel
theorem dX8_worth_307 : decode cX8_worth 307 = .ok (.ifCond .eq 7, 3) := by decide +kernel
theorem dX8_worth_310 : decode cX8_worth 310 = .ok (.iconst 1, 1) := by decide +kernel
theorem dX8_worth_311 : decode cX8_worth 311 = .ok (.goto 4, 3) := by decide +kernel
theorem dX8_worth_314 : decode cX8_worth 314 = .ok (.iconst 0, 1) := by decide +kernel
theorem dX8_worth_315 : decode cX8_worth 315 = .ok (.istore 14, 2) := by decide +kernel
theorem dX8_worth_317 : decode cX8_worth 317 = .ok (.goto 64, 3) := by decide +kernel
theorem dX8_worth_320 : decode cX8_worth 320 = .ok (.iload 13, 2) := by decide +kernel
theorem dX8_worth_322 : decode cX8_worth 322 = .ok (.iload 12, 2) := by decide +kernel
theorem dX8_worth_324 : decode cX8_worth 324 = .ok (.if_icmp .ge 7, 3) := by decide +kernel
theorem dX8_worth_327 : decode cX8_worth 327 = .ok (.iconst 1, 1) := by decide +kernel
theorem dX8_worth_328 : decode cX8_worth 328 = .ok (.goto 4, 3) := by decide +kernel
theorem dX8_worth_331 : decode cX8_worth 331 = .ok (.iconst 0, 1) := by decide +kernel
theorem dX8_worth_332 : decode cX8_worth 332 = .ok (.istore 14, 2) := by decide +kernel
theorem dX8_worth_334 : decode cX8_worth 334 = .ok (.goto 47, 3) := by decide +kernel
theorem dX8_worth_337 : decode cX8_worth 337 = .ok (.iload 13, 2) := by decide +kernel
theorem dX8_worth_339 : decode cX8_worth 339 = .ok (.iload 12, 2) := by decide +kernel
theorem dX8_worth_341 : decode cX8_worth 341 = .ok (.if_icmp .ne 7, 3) := by decide +kernel
theorem dX8_worth_344 : decode cX8_worth 344 = .ok (.iconst 1, 1) := by decide +kernel
theorem dX8_worth_345 : decode cX8_worth 345 = .ok (.goto 4, 3) := by decide +kernel
theorem dX8_worth_348 : decode cX8_worth 348 = .ok (.iconst 0, 1) := by decide +kernel
theorem dX8_worth_349 : decode cX8_worth 349 = .ok (.istore 14, 2) := by decide +kernel
theorem dX8_worth_351 : decode cX8_worth 351 = .ok (.goto 30, 3) := by decide +kernel
theorem dX8_worth_354 : decode cX8_worth 354 = .ok (.iload 13, 2) := by decide +kernel
theorem dX8_worth_356 : decode cX8_worth 356 = .ok (.iload 12, 2) := by decide +kernel
theorem dX8_worth_358 : decode cX8_worth 358 = .ok (.iadd, 1) := by decide +kernel
theorem dX8_worth_359 : decode cX8_worth 359 = .ok (.istore 14, 2) := by decide +kernel
theorem dX8_worth_361 : decode cX8_worth 361 = .ok (.goto 20, 3) := by decide +kernel
theorem dX8_worth_364 : decode cX8_worth 364 = .ok (.iload 13, 2) := by decide +kernel
theorem dX8_worth_366 : decode cX8_worth 366 = .ok (.iload 12, 2) := by decide +kernel
theorem dX8_worth_368 : decode cX8_worth 368 = .ok (.isub, 1) := by decide +kernel
theorem dX8_worth_369 : decode cX8_worth 369 = .ok (.istore 14, 2) := by decide +kernel
theorem dX8_worth_371 : decode cX8_worth 371 = .ok (.goto 10, 3) := by decide +kernel
theorem dX8_worth_374 : decode cX8_worth 374 = .ok (.iload 13, 2) := by decide +kernel
theorem dX8_worth_376 : decode cX8_worth 376 = .ok (.iload 12, 2) := by decide +kernel
theorem dX8_worth_378 : decode cX8_worth 378 = .ok (.imul, 1) := by decide +kernel
theorem dX8_worth_379 : decode cX8_worth 379 = .ok (.istore 14, 2) := by decide +kernel
theorem dX8_worth_381 : decode cX8_worth 381 = .ok (.aload_n 0, 1) := by decide +kernel
theorem dX8_worth_382 : decode cX8_worth 382 = .ok (.getfield 40, 3) := by decide +kernel
theorem dX8_worth_385 : decode cX8_worth 385 = .ok (.iload 9, 2) := by decide +kernel
theorem dX8_worth_387 : decode cX8_worth 387 = .ok (.iconst 1, 1) := by decide +kernel
theorem dX8_worth_388 : decode cX8_worth 388 = .ok (.isub, 1) := by decide +kernel
theorem dX8_worth_389 : decode cX8_worth 389 = .ok (.iload 14, 2) := by decide +kernel
theorem dX8_worth_391 : decode cX8_worth 391 = .ok (.iastore, 1) := by decide +kernel
theorem dX8_worth_392 : decode cX8_worth 392 = .ok (.iinc 10 1, 3) := by decide +kernel
theorem dX8_worth_395 : decode cX8_worth 395 = .ok (.goto (-360), 3) := by decide +kernel
theorem dX8_worth_398 : decode cX8_worth 398 = .ok (.iconst 0, 1) := by decide +kernel
theorem dX8_worth_399 : decode cX8_worth 399 = .ok (.iload_n 1, 1) := by decide +kernel
theorem dX8_worth_400 : decode cX8_worth 400 = .ok (.ifCond .ne 9, 3) := by decide +kernel
theorem dX8_worth_403 : decode cX8_worth 403 = .ok (.sipush 999, 3) := by decide +kernel
theorem dX8_worth_406 : decode cX8_worth 406 = .ok (.goto 5, 3) := by decide +kernel
theorem dX8_worth_409 : decode cX8_worth 409 = .ok (.bipush 100, 2) := by decide +kernel
theorem dX8_worth_411 : decode cX8_worth 411 = .ok (.aload_n 0, 1) := by decide +kernel
theorem dX8_worth_412 : decode cX8_worth 412 = .ok (.getfield 40, 3) := by decide +kernel
theorem dX8_worth_415 : decode cX8_worth 415 = .ok (.iconst 0, 1) := by decide +kernel
theorem dX8_worth_416 : decode cX8_worth 416 = .ok (.iaload, 1) := by decide +kernel
theorem dX8_worth_417 : decode cX8_worth 417 = .ok (.invokestatic 210, 3) := by decide +kernel
theorem dX8_worth_420 : decode cX8_worth 420 = .ok (.invokestatic 216, 3) := by decide +kernel
theorem dX8_worth_423 : decode cX8_worth 423 = .ok (.ireturn, 1) := by decide +kernel
theorem dX8_asks_0 : decode cX8_asks 0 = .ok (.iload_n 1, 1) := by decide +kernel
theorem dX8_asks_1 : decode cX8_asks 1 = .ok (.iconst 0, 1) := by decide +kernel
theorem dX8_asks_2 : decode cX8_asks 2 = .ok (.iconst 2, 1) := by decide +kernel
theorem dX8_asks_3 : decode cX8_asks 3 = .ok (.invokestatic 108, 3) := by decide +kernel
theorem dX8_asks_6 : decode cX8_asks 6 = .ok (.ifCond .eq 55, 3) := by decide +kernel
theorem dX8_asks_9 : decode cX8_asks 9 = .ok (.iload_n 2, 1) := by decide +kernel
theorem dX8_asks_10 : decode cX8_asks 10 = .ok (.iconst 0, 1) := by decide +kernel
theorem dX8_asks_11 : decode cX8_asks 11 = .ok (.sipush 9999, 3) := by decide +kernel
theorem dX8_asks_14 : decode cX8_asks 14 = .ok (.invokestatic 108, 3) := by decide +kernel
theorem dX8_asks_17 : decode cX8_asks 17 = .ok (.ifCond .eq 44, 3) := by decide +kernel
theorem dX8_asks_20 : decode cX8_asks 20 = .ok (.iload_n 3, 1) := by decide +kernel
theorem dX8_asks_21 : decode cX8_asks 21 = .ok (.iconst 0, 1) := by decide +kernel
theorem dX8_asks_22 : decode cX8_asks 22 = .ok (.bipush 91, 2) := by decide +kernel
theorem dX8_asks_24 : decode cX8_asks 24 = .ok (.invokestatic 108, 3) := by decide +kernel
theorem dX8_asks_27 : decode cX8_asks 27 = .ok (.ifCond .eq 34, 3) := by decide +kernel
theorem dX8_asks_30 : decode cX8_asks 30 = .ok (.iload_n 3, 1) := by decide +kernel
theorem dX8_asks_31 : decode cX8_asks 31 = .ok (.bipush 10, 2) := by decide +kernel
theorem dX8_asks_33 : decode cX8_asks 33 = .ok (.irem, 1) := by decide +kernel
theorem dX8_asks_34 : decode cX8_asks 34 = .ok (.iconst 1, 1) := by decide +kernel
theorem dX8_asks_35 : decode cX8_asks 35 = .ok (.if_icmp .gt 26, 3) := by decide +kernel
theorem dX8_asks_38 : decode cX8_asks 38 = .ok (.iload 4, 2) := by decide +kernel
theorem dX8_asks_40 : decode cX8_asks 40 = .ok (.iconst 0, 1) := by decide +kernel
theorem dX8_asks_41 : decode cX8_asks 41 = .ok (.bipush 19, 2) := by decide +kernel
theorem dX8_asks_43 : decode cX8_asks 43 = .ok (.invokestatic 108, 3) := by decide +kernel
theorem dX8_asks_46 : decode cX8_asks 46 = .ok (.ifCond .eq 15, 3) := by decide +kernel
theorem dX8_asks_49 : decode cX8_asks 49 = .ok (.iload 5, 2) := by decide +kernel
theorem dX8_asks_51 : decode cX8_asks 51 = .ok (.iconst 0, 1) := by decide +kernel
theorem dX8_asks_52 : decode cX8_asks 52 = .ok (.sipush 9999, 3) := by decide +kernel
theorem dX8_asks_55 : decode cX8_asks 55 = .ok (.invokestatic 108, 3) := by decide +kernel
theorem dX8_asks_58 : decode cX8_asks 58 = .ok (.ifCond .ne 6, 3) := by decide +kernel
theorem dX8_asks_61 : decode cX8_asks 61 = .ok (.bipush (-2), 2) := by decide +kernel
theorem dX8_asks_63 : decode cX8_asks 63 = .ok (.ireturn, 1) := by decide +kernel
theorem dX8_asks_64 : decode cX8_asks 64 = .ok (.aload_n 0, 1) := by decide +kernel
theorem dX8_asks_65 : decode cX8_asks 65 = .ok (.iload_n 1, 1) := by decide +kernel
theorem dX8_asks_66 : decode cX8_asks 66 = .ok (.iload_n 2, 1) := by decide +kernel
theorem dX8_asks_67 : decode cX8_asks 67 = .ok (.iload_n 3, 1) := by decide +kernel
theorem dX8_asks_68 : decode cX8_asks 68 = .ok (.bipush 10, 2) := by decide +kernel
theorem dX8_asks_70 : decode cX8_asks 70 = .ok (.idiv, 1) := by decide +kernel
theorem dX8_asks_71 : decode cX8_asks 71 = .ok (.iload_n 3, 1) := by decide +kernel
theorem dX8_asks_72 : decode cX8_asks 72 = .ok (.bipush 10, 2) := by decide +kernel
theorem dX8_asks_74 : decode cX8_asks 74 = .ok (.irem, 1) := by decide +kernel
theorem dX8_asks_75 : decode cX8_asks 75 = .ok (.iload 4, 2) := by decide +kernel
theorem dX8_asks_77 : decode cX8_asks 77 = .ok (.bipush 10, 2) := by decide +kernel
theorem dX8_asks_79 : decode cX8_asks 79 = .ok (.idiv, 1) := by decide +kernel
theorem dX8_asks_80 : decode cX8_asks 80 = .ok (.iload 4, 2) := by decide +kernel
