theorem dX8_asks_82 : decode cX8_asks 82 = .ok (.bipush 10, 2) := by decide +kernel
theorem dX8_asks_84 : decode cX8_asks 84 = .ok (.irem, 1) := by decide +kernel
theorem dX8_asks_85 : decode cX8_asks 85 = .ok (.iload 5, 2) := by decide +kernel
theorem dX8_asks_87 : decode cX8_asks 87 = .ok (.invokevirtual 219, 3) := by decide +kernel
theorem dX8_asks_90 : decode cX8_asks 90 = .ok (.ireturn, 1) := by decide +kernel
theorem dX8_lay_0 : decode cX8_lay 0 = .ok (.iload_n 1, 1) := by decide +kernel
theorem dX8_lay_1 : decode cX8_lay 1 = .ok (.invokestatic 223, 3) := by decide +kernel
theorem dX8_lay_4 : decode cX8_lay 4 = .ok (.ifCond .ne 6, 3) := by decide +kernel
theorem dX8_lay_7 : decode cX8_lay 7 = .ok (.bipush (-5), 2) := by decide +kernel
theorem dX8_lay_9 : decode cX8_lay 9 = .ok (.ireturn, 1) := by decide +kernel
theorem dX8_lay_10 : decode cX8_lay 10 = .ok (.iload_n 2, 1) := by decide +kernel
theorem dX8_lay_11 : decode cX8_lay 11 = .ok (.iconst 0, 1) := by decide +kernel
theorem dX8_lay_12 : decode cX8_lay 12 = .ok (.iconst 5, 1) := by decide +kernel
theorem dX8_lay_13 : decode cX8_lay 13 = .ok (.invokestatic 108, 3) := by decide +kernel
theorem dX8_lay_16 : decode cX8_lay 16 = .ok (.ifCond .eq 13, 3) := by decide +kernel
theorem dX8_lay_19 : decode cX8_lay 19 = .ok (.iload_n 3, 1) := by decide +kernel
theorem dX8_lay_20 : decode cX8_lay 20 = .ok (.iconst 0, 1) := by decide +kernel
theorem dX8_lay_21 : decode cX8_lay 21 = .ok (.bipush 99, 2) := by decide +kernel
theorem dX8_lay_23 : decode cX8_lay 23 = .ok (.invokestatic 108, 3) := by decide +kernel
theorem dX8_lay_26 : decode cX8_lay 26 = .ok (.ifCond .ne 6, 3) := by decide +kernel
theorem dX8_lay_29 : decode cX8_lay 29 = .ok (.bipush (-7), 2) := by decide +kernel
theorem dX8_lay_31 : decode cX8_lay 31 = .ok (.ireturn, 1) := by decide +kernel
theorem dX8_lay_32 : decode cX8_lay 32 = .ok (.aload_n 0, 1) := by decide +kernel
theorem dX8_lay_33 : decode cX8_lay 33 = .ok (.getfield 13, 3) := by decide +kernel
theorem dX8_lay_36 : decode cX8_lay 36 = .ok (.iload_n 1, 1) := by decide +kernel
theorem dX8_lay_37 : decode cX8_lay 37 = .ok (.iaload, 1) := by decide +kernel
theorem dX8_lay_38 : decode cX8_lay 38 = .ok (.istore 4, 2) := by decide +kernel
theorem dX8_lay_40 : decode cX8_lay 40 = .ok (.aload_n 0, 1) := by decide +kernel
theorem dX8_lay_41 : decode cX8_lay 41 = .ok (.getfield 13, 3) := by decide +kernel
theorem dX8_lay_44 : decode cX8_lay 44 = .ok (.iload_n 1, 1) := by decide +kernel
theorem dX8_lay_45 : decode cX8_lay 45 = .ok (.iload_n 2, 1) := by decide +kernel
theorem dX8_lay_46 : decode cX8_lay 46 = .ok (.iastore, 1) := by decide +kernel
theorem dX8_lay_47 : decode cX8_lay 47 = .ok (.aload_n 0, 1) := by decide +kernel
theorem dX8_lay_48 : decode cX8_lay 48 = .ok (.getfield 16, 3) := by decide +kernel
theorem dX8_lay_51 : decode cX8_lay 51 = .ok (.iload_n 1, 1) := by decide +kernel
theorem dX8_lay_52 : decode cX8_lay 52 = .ok (.iload_n 3, 1) := by decide +kernel
theorem dX8_lay_53 : decode cX8_lay 53 = .ok (.iastore, 1) := by decide +kernel
theorem dX8_lay_54 : decode cX8_lay 54 = .ok (.iload 4, 2) := by decide +kernel
theorem dX8_lay_56 : decode cX8_lay 56 = .ok (.ireturn, 1) := by decide +kernel
theorem dX8_plot_0 : decode cX8_plot 0 = .ok (.iload_n 1, 1) := by decide +kernel
theorem dX8_plot_1 : decode cX8_plot 1 = .ok (.invokestatic 223, 3) := by decide +kernel
theorem dX8_plot_4 : decode cX8_plot 4 = .ok (.ifCond .eq 29, 3) := by decide +kernel
theorem dX8_plot_7 : decode cX8_plot 7 = .ok (.iload_n 2, 1) := by decide +kernel
theorem dX8_plot_8 : decode cX8_plot 8 = .ok (.bipush 10, 2) := by decide +kernel
theorem dX8_plot_10 : decode cX8_plot 10 = .ok (.idiv, 1) := by decide +kernel
theorem dX8_plot_11 : decode cX8_plot 11 = .ok (.iconst 1, 1) := by decide +kernel
theorem dX8_plot_12 : decode cX8_plot 12 = .ok (.bipush 6, 2) := by decide +kernel
theorem dX8_plot_14 : decode cX8_plot 14 = .ok (.invokestatic 108, 3) := by decide +kernel
theorem dX8_plot_17 : decode cX8_plot 17 = .ok (.ifCond .eq 16, 3) := by decide +kernel
theorem dX8_plot_20 : decode cX8_plot 20 = .ok (.iload_n 2, 1) := by decide +kernel
theorem dX8_plot_21 : decode cX8_plot 21 = .ok (.bipush 10, 2) := by decide +kernel
theorem dX8_plot_23 : decode cX8_plot 23 = .ok (.irem, 1) := by decide +kernel
theorem dX8_plot_24 : decode cX8_plot 24 = .ok (.iconst 1, 1) := by decide +kernel
theorem dX8_plot_25 : decode cX8_plot 25 = .ok (.bipush 6, 2) := by decide +kernel
theorem dX8_plot_27 : decode cX8_plot 27 = .ok (.invokestatic 108, 3) := by decide +kernel
theorem dX8_plot_30 : decode cX8_plot 30 = .ok (.ifCond .ne 6, 3) := by decide +kernel
theorem dX8_plot_33 : decode cX8_plot 33 = .ok (.bipush (-2), 2) := by decide +kernel
theorem dX8_plot_35 : decode cX8_plot 35 = .ok (.ireturn, 1) := by decide +kernel
theorem dX8_plot_36 : decode cX8_plot 36 = .ok (.iload_n 3, 1) := by decide +kernel
theorem dX8_plot_37 : decode cX8_plot 37 = .ok (.iconst 0, 1) := by decide +kernel
theorem dX8_plot_38 : decode cX8_plot 38 = .ok (.iconst 5, 1) := by decide +kernel
theorem dX8_plot_39 : decode cX8_plot 39 = .ok (.invokestatic 108, 3) := by decide +kernel
theorem dX8_plot_42 : decode cX8_plot 42 = .ok (.ifCond .eq 14, 3) := by decide +kernel
theorem dX8_plot_45 : decode cX8_plot 45 = .ok (.iload 4, 2) := by decide +kernel
theorem dX8_plot_47 : decode cX8_plot 47 = .ok (.iconst 0, 1) := by decide +kernel
theorem dX8_plot_48 : decode cX8_plot 48 = .ok (.bipush 99, 2) := by decide +kernel
theorem dX8_plot_50 : decode cX8_plot 50 = .ok (.invokestatic 108, 3) := by decide +kernel
theorem dX8_plot_53 : decode cX8_plot 53 = .ok (.ifCond .ne 6, 3) := by decide +kernel
theorem dX8_plot_56 : decode cX8_plot 56 = .ok (.bipush (-7), 2) := by decide +kernel
theorem dX8_plot_58 : decode cX8_plot 58 = .ok (.ireturn, 1) := by decide +kernel
theorem dX8_plot_59 : decode cX8_plot 59 = .ok (.iconst 0, 1) := by decide +kernel
theorem dX8_plot_60 : decode cX8_plot 60 = .ok (.istore 5, 2) := by decide +kernel
theorem dX8_plot_62 : decode cX8_plot 62 = .ok (.iload_n 1, 1) := by decide +kernel
theorem dX8_plot_63 : decode cX8_plot 63 = .ok (.bipush 6, 2) := by decide +kernel
theorem dX8_plot_65 : decode cX8_plot 65 = .ok (.idiv, 1) := by decide +kernel
theorem dX8_plot_66 : decode cX8_plot 66 = .ok (.istore 6, 2) := by decide +kernel
theorem dX8_plot_68 : decode cX8_plot 68 = .ok (.iload 6, 2) := by decide +kernel
theorem dX8_plot_70 : decode cX8_plot 70 = .ok (.bipush 6, 2) := by decide +kernel
theorem dX8_plot_72 : decode cX8_plot 72 = .ok (.if_icmp .ge 75, 3) := by decide +kernel
theorem dX8_plot_75 : decode cX8_plot 75 = .ok (.iload 6, 2) := by decide +kernel
theorem dX8_plot_77 : decode cX8_plot 77 = .ok (.iload_n 1, 1) := by decide +kernel
theorem dX8_plot_78 : decode cX8_plot 78 = .ok (.bipush 6, 2) := by decide +kernel
theorem dX8_plot_80 : decode cX8_plot 80 = .ok (.idiv, 1) := by decide +kernel
theorem dX8_plot_81 : decode cX8_plot 81 = .ok (.iload_n 2, 1) := by decide +kernel
theorem dX8_plot_82 : decode cX8_plot 82 = .ok (.bipush 10, 2) := by decide +kernel
theorem dX8_plot_84 : decode cX8_plot 84 = .ok (.idiv, 1) := by decide +kernel
theorem dX8_plot_85 : decode cX8_plot 85 = .ok (.iadd, 1) := by decide +kernel
theorem dX8_plot_86 : decode cX8_plot 86 = .ok (.if_icmp .ge 61, 3) := by decide +kernel
theorem dX8_plot_89 : decode cX8_plot 89 = .ok (.iload_n 1, 1) := by decide +kernel
theorem dX8_plot_90 : decode cX8_plot 90 = .ok (.bipush 6, 2) := by decide +kernel
theorem dX8_plot_92 : decode cX8_plot 92 = .ok (.irem, 1) := by decide +kernel
theorem dX8_plot_93 : decode cX8_plot 93 = .ok (.istore 7, 2) := by decide +kernel
theorem dX8_plot_95 : decode cX8_plot 95 = .ok (.iload 7, 2) := by decide +kernel
theorem dX8_plot_97 : decode cX8_plot 97 = .ok (.bipush 6, 2) := by decide +kernel
theorem dX8_plot_99 : decode cX8_plot 99 = .ok (.if_icmp .ge 42, 3) := by decide +kernel
theorem dX8_plot_102 : decode cX8_plot 102 = .ok (.iload 7, 2) := by decide +kernel
theorem dX8_plot_104 : decode cX8_plot 104 = .ok (.iload_n 1, 1) := by decide +kernel
theorem dX8_plot_105 : decode cX8_plot 105 = .ok (.bipush 6, 2) := by decide +kernel
theorem dX8_plot_107 : decode cX8_plot 107 = .ok (.irem, 1) := by decide +kernel
theorem dX8_plot_108 : decode cX8_plot 108 = .ok (.iload_n 2, 1) := by decide +kernel
theorem dX8_plot_109 : decode cX8_plot 109 = .ok (.bipush 10, 2) := by decide +kernel
theorem dX8_plot_111 : decode cX8_plot 111 = .ok (.irem, 1) := by decide +kernel
theorem dX8_plot_112 : decode cX8_plot 112 = .ok (.iadd, 1) := by decide +kernel
theorem dX8_plot_113 : decode cX8_plot 113 = .ok (.if_icmp .ge 28, 3) := by decide +kernel
theorem dX8_plot_116 : decode cX8_plot 116 = .ok (.aload_n 0, 1) := by decide +kernel
theorem dX8_plot_117 : decode cX8_plot 117 = .ok (.bipush 6, 2) := by decide +kernel
theorem dX8_plot_119 : decode cX8_plot 119 = .ok (.iload 6, 2) := by decide +kernel
theorem dX8_plot_121 : decode cX8_plot 121 = .ok (.imul, 1) := by decide +kernel
theorem dX8_plot_122 : decode cX8_plot 122 = .ok (.iload 7, 2) := by decide +kernel
theorem dX8_plot_124 : decode cX8_plot 124 = .ok (.iadd, 1) := by decide +kernel
theorem dX8_plot_125 : decode cX8_plot 125 = .ok (.iload_n 3, 1) := by decide +kernel
theorem dX8_plot_126 : decode cX8_plot 126 = .ok (.iload 4, 2) := by decide +kernel
theorem dX8_plot_128 : decode cX8_plot 128 = .ok (.invokevirtual 226, 3) := by decide +kernel
theorem dX8_plot_131 : decode cX8_plot 131 = .ok (.pop, 1) := by decide +kernel
theorem dX8_plot_132 : decode cX8_plot 132 = .ok (.iinc 5 1, 3) := by decide +kernel
theorem dX8_plot_135 : decode cX8_plot 135 = .ok (.iinc 7 1, 3) := by decide +kernel
theorem dX8_plot_138 : decode cX8_plot 138 = .ok (.goto (-43), 3) := by decide +kernel
theorem dX8_plot_141 : decode cX8_plot 141 = .ok (.iinc 6 1, 3) := by decide +kernel
theorem dX8_plot_144 : decode cX8_plot 144 = .ok (.goto (-76), 3) := by decide +kernel
theorem dX8_plot_147 : decode cX8_plot 147 = .ok (.iload 5, 2) := by decide +kernel
theorem dX8_plot_149 : decode cX8_plot 149 = .ok (.ireturn, 1) := by decide +kernel
theorem dX8_cellTold_0 : decode cX8_cellTold 0 = .ok (.iload_n 1, 1) := by decide +kernel
theorem dX8_cellTold_1 : decode cX8_cellTold 1 = .ok (.invokestatic 223, 3) := by decide +kernel
theorem dX8_cellTold_4 : decode cX8_cellTold 4 = .ok (.ifCond .ne 6, 3) := by decide +kernel
theorem dX8_cellTold_7 : decode cX8_cellTold 7 = .ok (.bipush (-5), 2) := by decide +kernel
theorem dX8_cellTold_9 : decode cX8_cellTold 9 = .ok (.ireturn, 1) := by decide +kernel
theorem dX8_cellTold_10 : decode cX8_cellTold 10 = .ok (.iload_n 2, 1) := by decide +kernel
theorem dX8_cellTold_11 : decode cX8_cellTold 11 = .ok (.tableswitch 46 0 2 #[25, 32, 39], 25) := by decide +kernel
theorem dX8_cellTold_36 : decode cX8_cellTold 36 = .ok (.aload_n 0, 1) := by decide +kernel
theorem dX8_cellTold_37 : decode cX8_cellTold 37 = .ok (.getfield 13, 3) := by decide +kernel
theorem dX8_cellTold_40 : decode cX8_cellTold 40 = .ok (.iload_n 1, 1) := by decide +kernel
theorem dX8_cellTold_41 : decode cX8_cellTold 41 = .ok (.iaload, 1) := by decide +kernel
theorem dX8_cellTold_42 : decode cX8_cellTold 42 = .ok (.ireturn, 1) := by decide +kernel
theorem dX8_cellTold_43 : decode cX8_cellTold 43 = .ok (.aload_n 0, 1) := by decide +kernel
theorem dX8_cellTold_44 : decode cX8_cellTold 44 = .ok (.getfield 16, 3) := by decide +kernel
theorem dX8_cellTold_47 : decode cX8_cellTold 47 = .ok (.iload_n 1, 1) := by decide +kernel
theorem dX8_cellTold_48 : decode cX8_cellTold 48 = .ok (.iaload, 1) := by decide +kernel
theorem dX8_cellTold_49 : decode cX8_cellTold 49 = .ok (.ireturn, 1) := by decide +kernel
theorem dX8_cellTold_50 : decode cX8_cellTold 50 = .ok (.aload_n 0, 1) := by decide +kernel
theorem dX8_cellTold_51 : decode cX8_cellTold 51 = .ok (.getfield 19, 3) := by decide +kernel
theorem dX8_cellTold_54 : decode cX8_cellTold 54 = .ok (.iload_n 1, 1) := by decide +kernel
theorem dX8_cellTold_55 : decode cX8_cellTold 55 = .ok (.iaload, 1) := by decide +kernel
theorem dX8_cellTold_56 : decode cX8_cellTold 56 = .ok (.ireturn, 1) := by decide +kernel
theorem dX8_cellTold_57 : decode cX8_cellTold 57 = .ok (.bipush (-7), 2) := by decide +kernel
theorem dX8_cellTold_59 : decode cX8_cellTold 59 = .ok (.ireturn, 1) := by decide +kernel
theorem dX8_tree_0 : decode cX8_tree 0 = .ok (.iload_n 1, 1) := by decide +kernel
theorem dX8_tree_1 : decode cX8_tree 1 = .ok (.invokestatic 223, 3) := by decide +kernel
theorem dX8_tree_4 : decode cX8_tree 4 = .ok (.ifCond .eq 24, 3) := by decide +kernel
theorem dX8_tree_7 : decode cX8_tree 7 = .ok (.iload_n 2, 1) := by decide +kernel
theorem dX8_tree_8 : decode cX8_tree 8 = .ok (.iconst 0, 1) := by decide +kernel
theorem dX8_tree_9 : decode cX8_tree 9 = .ok (.bipush 9, 2) := by decide +kernel
theorem dX8_tree_11 : decode cX8_tree 11 = .ok (.invokestatic 108, 3) := by decide +kernel
theorem dX8_tree_14 : decode cX8_tree 14 = .ok (.ifCond .eq 14, 3) := by decide +kernel
theorem dX8_tree_17 : decode cX8_tree 17 = .ok (.iload_n 3, 1) := by decide +kernel
theorem dX8_tree_18 : decode cX8_tree 18 = .ok (.iconst 0, 1) := by decide +kernel
theorem dX8_tree_19 : decode cX8_tree 19 = .ok (.sipush 999, 3) := by decide +kernel
theorem dX8_tree_22 : decode cX8_tree 22 = .ok (.invokestatic 108, 3) := by decide +kernel
theorem dX8_tree_25 : decode cX8_tree 25 = .ok (.ifCond .ne 6, 3) := by decide +kernel
theorem dX8_tree_28 : decode cX8_tree 28 = .ok (.bipush (-2), 2) := by decide +kernel
theorem dX8_tree_30 : decode cX8_tree 30 = .ok (.ireturn, 1) := by decide +kernel
theorem dX8_tree_31 : decode cX8_tree 31 = .ok (.aload_n 0, 1) := by decide +kernel
theorem dX8_tree_32 : decode cX8_tree 32 = .ok (.getfield 112, 3) := by decide +kernel
theorem dX8_tree_35 : decode cX8_tree 35 = .ok (.iconst 4, 1) := by decide +kernel
theorem dX8_tree_36 : decode cX8_tree 36 = .ok (.if_icmp .ne 6, 3) := by decide +kernel
theorem dX8_tree_39 : decode cX8_tree 39 = .ok (.bipush (-4), 2) := by decide +kernel
theorem dX8_tree_41 : decode cX8_tree 41 = .ok (.ireturn, 1) := by decide +kernel
theorem dX8_tree_42 : decode cX8_tree 42 = .ok (.aload_n 0, 1) := by decide +kernel
theorem dX8_tree_43 : decode cX8_tree 43 = .ok (.getfield 22, 3) := by decide +kernel
theorem dX8_tree_46 : decode cX8_tree 46 = .ok (.aload_n 0, 1) := by decide +kernel
theorem dX8_tree_47 : decode cX8_tree 47 = .ok (.getfield 112, 3) := by decide +kernel
theorem dX8_tree_50 : decode cX8_tree 50 = .ok (.iload_n 1, 1) := by decide +kernel
theorem dX8_tree_51 : decode cX8_tree 51 = .ok (.iastore, 1) := by decide +kernel
theorem dX8_tree_52 : decode cX8_tree 52 = .ok (.aload_n 0, 1) := by decide +kernel
theorem dX8_tree_53 : decode cX8_tree 53 = .ok (.getfield 25, 3) := by decide +kernel
theorem dX8_tree_56 : decode cX8_tree 56 = .ok (.aload_n 0, 1) := by decide +kernel
theorem dX8_tree_57 : decode cX8_tree 57 = .ok (.getfield 112, 3) := by decide +kernel
theorem dX8_tree_60 : decode cX8_tree 60 = .ok (.iload_n 2, 1) := by decide +kernel
theorem dX8_tree_61 : decode cX8_tree 61 = .ok (.iastore, 1) := by decide +kernel
theorem dX8_tree_62 : decode cX8_tree 62 = .ok (.aload_n 0, 1) := by decide +kernel
theorem dX8_tree_63 : decode cX8_tree 63 = .ok (.getfield 28, 3) := by decide +kernel
theorem dX8_tree_66 : decode cX8_tree 66 = .ok (.aload_n 0, 1) := by decide +kernel
theorem dX8_tree_67 : decode cX8_tree 67 = .ok (.getfield 112, 3) := by decide +kernel
theorem dX8_tree_70 : decode cX8_tree 70 = .ok (.iload_n 3, 1) := by decide +kernel
theorem dX8_tree_71 : decode cX8_tree 71 = .ok (.iastore, 1) := by decide +kernel
theorem dX8_tree_72 : decode cX8_tree 72 = .ok (.aload_n 0, 1) := by decide +kernel
theorem dX8_tree_73 : decode cX8_tree 73 = .ok (.dup, 1) := by decide +kernel
theorem dX8_tree_74 : decode cX8_tree 74 = .ok (.getfield 112, 3) := by decide +kernel
theorem dX8_tree_77 : decode cX8_tree 77 = .ok (.dup_x1, 1) := by decide +kernel
theorem dX8_tree_78 : decode cX8_tree 78 = .ok (.iconst 1, 1) := by decide +kernel
theorem dX8_tree_79 : decode cX8_tree 79 = .ok (.iadd, 1) := by decide +kernel
theorem dX8_tree_80 : decode cX8_tree 80 = .ok (.putfield 112, 3) := by decide +kernel
theorem dX8_tree_83 : decode cX8_tree 83 = .ok (.ireturn, 1) := by decide +kernel
theorem dX8_treeTold_0 : decode cX8_treeTold 0 = .ok (.aload_n 0, 1) := by decide +kernel
theorem dX8_treeTold_1 : decode cX8_treeTold 1 = .ok (.iload_n 1, 1) := by decide +kernel
theorem dX8_treeTold_2 : decode cX8_treeTold 2 = .ok (.invokevirtual 230, 3) := by decide +kernel
theorem dX8_treeTold_5 : decode cX8_treeTold 5 = .ok (.ifCond .ne 6, 3) := by decide +kernel
theorem dX8_treeTold_8 : decode cX8_treeTold 8 = .ok (.bipush (-5), 2) := by decide +kernel
theorem dX8_treeTold_10 : decode cX8_treeTold 10 = .ok (.ireturn, 1) := by decide +kernel
theorem dX8_treeTold_11 : decode cX8_treeTold 11 = .ok (.iload_n 2, 1) := by decide +kernel
theorem dX8_treeTold_12 : decode cX8_treeTold 12 = .ok (.tableswitch 49 0 2 #[28, 35, 42], 28) := by decide +kernel
theorem dX8_treeTold_40 : decode cX8_treeTold 40 = .ok (.aload_n 0, 1) := by decide +kernel
theorem dX8_treeTold_41 : decode cX8_treeTold 41 = .ok (.getfield 22, 3) := by decide +kernel
theorem dX8_treeTold_44 : decode cX8_treeTold 44 = .ok (.iload_n 1, 1) := by decide +kernel
theorem dX8_treeTold_45 : decode cX8_treeTold 45 = .ok (.iaload, 1) := by decide +kernel
theorem dX8_treeTold_46 : decode cX8_treeTold 46 = .ok (.ireturn, 1) := by decide +kernel
theorem dX8_treeTold_47 : decode cX8_treeTold 47 = .ok (.aload_n 0, 1) := by decide +kernel
theorem dX8_treeTold_48 : decode cX8_treeTold 48 = .ok (.getfield 25, 3) := by decide +kernel
theorem dX8_treeTold_51 : decode cX8_treeTold 51 = .ok (.iload_n 1, 1) := by decide +kernel
theorem dX8_treeTold_52 : decode cX8_treeTold 52 = .ok (.iaload, 1) := by decide +kernel
theorem dX8_treeTold_53 : decode cX8_treeTold 53 = .ok (.ireturn, 1) := by decide +kernel
theorem dX8_treeTold_54 : decode cX8_treeTold 54 = .ok (.aload_n 0, 1) := by decide +kernel
theorem dX8_treeTold_55 : decode cX8_treeTold 55 = .ok (.getfield 28, 3) := by decide +kernel
theorem dX8_treeTold_58 : decode cX8_treeTold 58 = .ok (.iload_n 1, 1) := by decide +kernel
theorem dX8_treeTold_59 : decode cX8_treeTold 59 = .ok (.iaload, 1) := by decide +kernel
theorem dX8_treeTold_60 : decode cX8_treeTold 60 = .ok (.ireturn, 1) := by decide +kernel
theorem dX8_treeTold_61 : decode cX8_treeTold 61 = .ok (.bipush (-7), 2) := by decide +kernel
theorem dX8_treeTold_63 : decode cX8_treeTold 63 = .ok (.ireturn, 1) := by decide +kernel
theorem dX8_fell_0 : decode cX8_fell 0 = .ok (.aload_n 0, 1) := by decide +kernel
theorem dX8_fell_1 : decode cX8_fell 1 = .ok (.getfield 112, 3) := by decide +kernel
theorem dX8_fell_4 : decode cX8_fell 4 = .ok (.ifCond .ne 6, 3) := by decide +kernel
theorem dX8_fell_7 : decode cX8_fell 7 = .ok (.bipush (-3), 2) := by decide +kernel
theorem dX8_fell_9 : decode cX8_fell 9 = .ok (.ireturn, 1) := by decide +kernel
theorem dX8_fell_10 : decode cX8_fell 10 = .ok (.aload_n 0, 1) := by decide +kernel
theorem dX8_fell_11 : decode cX8_fell 11 = .ok (.getfield 233, 3) := by decide +kernel
theorem dX8_fell_14 : decode cX8_fell 14 = .ok (.aload_n 0, 1) := by decide +kernel
theorem dX8_fell_15 : decode cX8_fell 15 = .ok (.getfield 112, 3) := by decide +kernel
theorem dX8_fell_18 : decode cX8_fell 18 = .ok (.if_icmp .lt 8, 3) := by decide +kernel
theorem dX8_fell_21 : decode cX8_fell 21 = .ok (.aload_n 0, 1) := by decide +kernel
theorem dX8_fell_22 : decode cX8_fell 22 = .ok (.iconst 0, 1) := by decide +kernel
theorem dX8_fell_23 : decode cX8_fell 23 = .ok (.putfield 236, 3) := by decide +kernel
theorem dX8_fell_26 : decode cX8_fell 26 = .ok (.aload_n 0, 1) := by decide +kernel
theorem dX8_fell_27 : decode cX8_fell 27 = .ok (.dup, 1) := by decide +kernel
theorem dX8_fell_28 : decode cX8_fell 28 = .ok (.getfield 112, 3) := by decide +kernel
theorem dX8_fell_31 : decode cX8_fell 31 = .ok (.iconst 1, 1) := by decide +kernel
theorem dX8_fell_32 : decode cX8_fell 32 = .ok (.isub, 1) := by decide +kernel
theorem dX8_fell_33 : decode cX8_fell 33 = .ok (.dup_x1, 1) := by decide +kernel
theorem dX8_fell_34 : decode cX8_fell 34 = .ok (.putfield 112, 3) := by decide +kernel
theorem dX8_fell_37 : decode cX8_fell 37 = .ok (.ireturn, 1) := by decide +kernel
theorem dX8_strew_0 : decode cX8_strew 0 = .ok (.iload_n 1, 1) := by decide +kernel
theorem dX8_strew_1 : decode cX8_strew 1 = .ok (.invokestatic 223, 3) := by decide +kernel
theorem dX8_strew_4 : decode cX8_strew 4 = .ok (.ifCond .ne 6, 3) := by decide +kernel
theorem dX8_strew_7 : decode cX8_strew 7 = .ok (.bipush (-5), 2) := by decide +kernel
theorem dX8_strew_9 : decode cX8_strew 9 = .ok (.ireturn, 1) := by decide +kernel
theorem dX8_strew_10 : decode cX8_strew 10 = .ok (.iload_n 2, 1) := by decide +kernel
theorem dX8_strew_11 : decode cX8_strew 11 = .ok (.iconst 0, 1) := by decide +kernel
theorem dX8_strew_12 : decode cX8_strew 12 = .ok (.sipush 999, 3) := by decide +kernel
theorem dX8_strew_15 : decode cX8_strew 15 = .ok (.invokestatic 108, 3) := by decide +kernel
theorem dX8_strew_18 : decode cX8_strew 18 = .ok (.ifCond .ne 6, 3) := by decide +kernel
theorem dX8_strew_21 : decode cX8_strew 21 = .ok (.bipush (-7), 2) := by decide +kernel
theorem dX8_strew_23 : decode cX8_strew 23 = .ok (.ireturn, 1) := by decide +kernel
theorem dX8_strew_24 : decode cX8_strew 24 = .ok (.aload_n 0, 1) := by decide +kernel
theorem dX8_strew_25 : decode cX8_strew 25 = .ok (.getfield 19, 3) := by decide +kernel
theorem dX8_strew_28 : decode cX8_strew 28 = .ok (.iload_n 1, 1) := by decide +kernel
theorem dX8_strew_29 : decode cX8_strew 29 = .ok (.iaload, 1) := by decide +kernel
theorem dX8_strew_30 : decode cX8_strew 30 = .ok (.istore_n 3, 1) := by decide +kernel
theorem dX8_strew_31 : decode cX8_strew 31 = .ok (.aload_n 0, 1) := by decide +kernel
theorem dX8_strew_32 : decode cX8_strew 32 = .ok (.getfield 19, 3) := by decide +kernel
theorem dX8_strew_35 : decode cX8_strew 35 = .ok (.iload_n 1, 1) := by decide +kernel
theorem dX8_strew_36 : decode cX8_strew 36 = .ok (.iload_n 2, 1) := by decide +kernel
theorem dX8_strew_37 : decode cX8_strew 37 = .ok (.iastore, 1) := by decide +kernel
theorem dX8_strew_38 : decode cX8_strew 38 = .ok (.iload_n 3, 1) := by decide +kernel
theorem dX8_strew_39 : decode cX8_strew 39 = .ok (.ireturn, 1) := by decide +kernel
theorem dX8_rake_0 : decode cX8_rake 0 = .ok (.iload_n 1, 1) := by decide +kernel
theorem dX8_rake_1 : decode cX8_rake 1 = .ok (.iconst 0, 1) := by decide +kernel
theorem dX8_rake_2 : decode cX8_rake 2 = .ok (.sipush 16383, 3) := by decide +kernel
theorem dX8_rake_5 : decode cX8_rake 5 = .ok (.invokestatic 108, 3) := by decide +kernel
theorem dX8_rake_8 : decode cX8_rake 8 = .ok (.ifCond .ne 6, 3) := by decide +kernel
theorem dX8_rake_11 : decode cX8_rake 11 = .ok (.bipush (-2), 2) := by decide +kernel
theorem dX8_rake_13 : decode cX8_rake 13 = .ok (.ireturn, 1) := by decide +kernel
theorem dX8_rake_14 : decode cX8_rake 14 = .ok (.aload_n 0, 1) := by decide +kernel
theorem dX8_rake_15 : decode cX8_rake 15 = .ok (.getfield 115, 3) := by decide +kernel
theorem dX8_rake_18 : decode cX8_rake 18 = .ok (.istore_n 2, 1) := by decide +kernel
theorem dX8_rake_19 : decode cX8_rake 19 = .ok (.aload_n 0, 1) := by decide +kernel
theorem dX8_rake_20 : decode cX8_rake 20 = .ok (.iload_n 1, 1) := by decide +kernel
theorem dX8_rake_21 : decode cX8_rake 21 = .ok (.putfield 115, 3) := by decide +kernel
theorem dX8_rake_24 : decode cX8_rake 24 = .ok (.iload_n 2, 1) := by decide +kernel
theorem dX8_rake_25 : decode cX8_rake 25 = .ok (.ireturn, 1) := by decide +kernel
theorem dX8_heap_0 : decode cX8_heap 0 = .ok (.lload_n 1, 1) := by decide +kernel
theorem dX8_heap_1 : decode cX8_heap 1 = .ok (.lconst 1, 1) := by decide +kernel
theorem dX8_heap_2 : decode cX8_heap 2 = .ok (.lcmp, 1) := by decide +kernel
theorem dX8_heap_3 : decode cX8_heap 3 = .ok (.ifCond .lt 11, 3) := by decide +kernel
theorem dX8_heap_6 : decode cX8_heap 6 = .ok (.lload_n 1, 1) := by decide +kernel
theorem dX8_heap_7 : decode cX8_heap 7 = .ok (.ldc2_w 240, 3) := by decide +kernel
theorem dX8_heap_10 : decode cX8_heap 10 = .ok (.lcmp, 1) := by decide +kernel
theorem dX8_heap_11 : decode cX8_heap 11 = .ok (.ifCond .lt 7, 3) := by decide +kernel
theorem dX8_heap_14 : decode cX8_heap 14 = .ok (.ldc2_w 242, 3) := by decide +kernel
theorem dX8_heap_17 : decode cX8_heap 17 = .ok (.lreturn, 1) := by decide +kernel
theorem dX8_heap_18 : decode cX8_heap 18 = .ok (.aload_n 0, 1) := by decide +kernel
theorem dX8_heap_19 : decode cX8_heap 19 = .ok (.getfield 85, 3) := by decide +kernel
theorem dX8_heap_22 : decode cX8_heap 22 = .ok (.lstore_n 3, 1) := by decide +kernel
theorem dX8_heap_23 : decode cX8_heap 23 = .ok (.aload_n 0, 1) := by decide +kernel
theorem dX8_heap_24 : decode cX8_heap 24 = .ok (.lload_n 1, 1) := by decide +kernel
theorem dX8_heap_25 : decode cX8_heap 25 = .ok (.putfield 85, 3) := by decide +kernel
theorem dX8_heap_28 : decode cX8_heap 28 = .ok (.lload_n 3, 1) := by decide +kernel
theorem dX8_heap_29 : decode cX8_heap 29 = .ok (.lreturn, 1) := by decide +kernel
theorem dX8_goesOff_0 : decode cX8_goesOff 0 = .ok (.aload_n 0, 1) := by decide +kernel
theorem dX8_goesOff_1 : decode cX8_goesOff 1 = .ok (.getfield 13, 3) := by decide +kernel
theorem dX8_goesOff_4 : decode cX8_goesOff 4 = .ok (.iload_n 1, 1) := by decide +kernel
theorem dX8_goesOff_5 : decode cX8_goesOff 5 = .ok (.iaload, 1) := by decide +kernel
theorem dX8_goesOff_6 : decode cX8_goesOff 6 = .ok (.tableswitch 60 1 4 #[30, 60, 34, 47], 30) := by decide +kernel
theorem dX8_goesOff_36 : decode cX8_goesOff 36 = .ok (.iload_n 2, 1) := by decide +kernel
theorem dX8_goesOff_37 : decode cX8_goesOff 37 = .ok (.iconst 2, 1) := by decide +kernel
theorem dX8_goesOff_38 : decode cX8_goesOff 38 = .ok (.idiv, 1) := by decide +kernel
theorem dX8_goesOff_39 : decode cX8_goesOff 39 = .ok (.ireturn, 1) := by decide +kernel
theorem dX8_goesOff_40 : decode cX8_goesOff 40 = .ok (.iload_n 2, 1) := by decide +kernel
theorem dX8_goesOff_41 : decode cX8_goesOff 41 = .ok (.iconst 2, 1) := by decide +kernel
theorem dX8_goesOff_42 : decode cX8_goesOff 42 = .ok (.idiv, 1) := by decide +kernel
theorem dX8_goesOff_43 : decode cX8_goesOff 43 = .ok (.aload_n 0, 1) := by decide +kernel
theorem dX8_goesOff_44 : decode cX8_goesOff 44 = .ok (.getfield 16, 3) := by decide +kernel
theorem dX8_goesOff_47 : decode cX8_goesOff 47 = .ok (.iload_n 1, 1) := by decide +kernel
theorem dX8_goesOff_48 : decode cX8_goesOff 48 = .ok (.iaload, 1) := by decide +kernel
theorem dX8_goesOff_49 : decode cX8_goesOff 49 = .ok (.invokestatic 210, 3) := by decide +kernel
theorem dX8_goesOff_52 : decode cX8_goesOff 52 = .ok (.ireturn, 1) := by decide +kernel
theorem dX8_goesOff_53 : decode cX8_goesOff 53 = .ok (.iconst 0, 1) := by decide +kernel
theorem dX8_goesOff_54 : decode cX8_goesOff 54 = .ok (.iload_n 2, 1) := by decide +kernel
theorem dX8_goesOff_55 : decode cX8_goesOff 55 = .ok (.aload_n 0, 1) := by decide +kernel
theorem dX8_goesOff_56 : decode cX8_goesOff 56 = .ok (.getfield 16, 3) := by decide +kernel
theorem dX8_goesOff_59 : decode cX8_goesOff 59 = .ok (.iload_n 1, 1) := by decide +kernel
theorem dX8_goesOff_60 : decode cX8_goesOff 60 = .ok (.iaload, 1) := by decide +kernel
theorem dX8_goesOff_61 : decode cX8_goesOff 61 = .ok (.isub, 1) := by decide +kernel
theorem dX8_goesOff_62 : decode cX8_goesOff 62 = .ok (.invokestatic 216, 3) := by decide +kernel
theorem dX8_goesOff_65 : decode cX8_goesOff 65 = .ok (.ireturn, 1) := by decide +kernel
theorem dX8_goesOff_66 : decode cX8_goesOff 66 = .ok (.iload_n 2, 1) := by decide +kernel
theorem dX8_goesOff_67 : decode cX8_goesOff 67 = .ok (.ireturn, 1) := by decide +kernel
theorem dX8_comes_0 : decode cX8_comes 0 = .ok (.aload_n 0, 1) := by decide +kernel
theorem dX8_comes_1 : decode cX8_comes 1 = .ok (.getfield 13, 3) := by decide +kernel
theorem dX8_comes_4 : decode cX8_comes 4 = .ok (.iload_n 1, 1) := by decide +kernel
theorem dX8_comes_5 : decode cX8_comes 5 = .ok (.iaload, 1) := by decide +kernel
theorem dX8_comes_6 : decode cX8_comes 6 = .ok (.iconst 2, 1) := by decide +kernel
theorem dX8_comes_7 : decode cX8_comes 7 = .ok (.if_icmp .ne 7, 3) := by decide +kernel
theorem dX8_comes_10 : decode cX8_comes 10 = .ok (.iconst 0, 1) := by decide +kernel
theorem dX8_comes_11 : decode cX8_comes 11 = .ok (.goto 27, 3) := by decide +kernel
theorem dX8_comes_14 : decode cX8_comes 14 = .ok (.aload_n 0, 1) := by decide +kernel
theorem dX8_comes_15 : decode cX8_comes 15 = .ok (.getfield 13, 3) := by decide +kernel
theorem dX8_comes_18 : decode cX8_comes 18 = .ok (.iload_n 1, 1) := by decide +kernel
theorem dX8_comes_19 : decode cX8_comes 19 = .ok (.iaload, 1) := by decide +kernel
theorem dX8_comes_20 : decode cX8_comes 20 = .ok (.iconst 5, 1) := by decide +kernel
theorem dX8_comes_21 : decode cX8_comes 21 = .ok (.if_icmp .ne 16, 3) := by decide +kernel
theorem dX8_comes_24 : decode cX8_comes 24 = .ok (.iload_n 2, 1) := by decide +kernel
theorem dX8_comes_25 : decode cX8_comes 25 = .ok (.aload_n 0, 1) := by decide +kernel
theorem dX8_comes_26 : decode cX8_comes 26 = .ok (.getfield 16, 3) := by decide +kernel
theorem dX8_comes_29 : decode cX8_comes 29 = .ok (.iload_n 1, 1) := by decide +kernel
theorem dX8_comes_30 : decode cX8_comes 30 = .ok (.iaload, 1) := by decide +kernel
theorem dX8_comes_31 : decode cX8_comes 31 = .ok (.invokestatic 210, 3) := by decide +kernel
theorem dX8_comes_34 : decode cX8_comes 34 = .ok (.goto 4, 3) := by decide +kernel
theorem dX8_comes_37 : decode cX8_comes 37 = .ok (.iload_n 2, 1) := by decide +kernel
theorem dX8_comes_38 : decode cX8_comes 38 = .ok (.ireturn, 1) := by decide +kernel
theorem dX8_on_0 : decode cX8_on 0 = .ok (.iload_n 1, 1) := by decide +kernel
theorem dX8_on_1 : decode cX8_on 1 = .ok (.tableswitch 72 0 2 #[27, 42, 58], 27) := by decide +kernel
theorem dX8_on_28 : decode cX8_on 28 = .ok (.iload_n 0, 1) := by decide +kernel
theorem dX8_on_29 : decode cX8_on 29 = .ok (.bipush 30, 2) := by decide +kernel
theorem dX8_on_31 : decode cX8_on 31 = .ok (.if_icmp .ge 10, 3) := by decide +kernel
theorem dX8_on_34 : decode cX8_on 34 = .ok (.iload_n 0, 1) := by decide +kernel
theorem dX8_on_35 : decode cX8_on 35 = .ok (.bipush 6, 2) := by decide +kernel
theorem dX8_on_37 : decode cX8_on 37 = .ok (.iadd, 1) := by decide +kernel
theorem dX8_on_38 : decode cX8_on 38 = .ok (.goto 4, 3) := by decide +kernel
theorem dX8_on_41 : decode cX8_on 41 = .ok (.iconst (-1), 1) := by decide +kernel
theorem dX8_on_42 : decode cX8_on 42 = .ok (.ireturn, 1) := by decide +kernel
theorem dX8_on_43 : decode cX8_on 43 = .ok (.iload_n 0, 1) := by decide +kernel
theorem dX8_on_44 : decode cX8_on 44 = .ok (.bipush 6, 2) := by decide +kernel
theorem dX8_on_46 : decode cX8_on 46 = .ok (.irem, 1) := by decide +kernel
theorem dX8_on_47 : decode cX8_on 47 = .ok (.iconst 5, 1) := by decide +kernel
theorem dX8_on_48 : decode cX8_on 48 = .ok (.if_icmp .ge 9, 3) := by decide +kernel
theorem dX8_on_51 : decode cX8_on 51 = .ok (.iload_n 0, 1) := by decide +kernel
theorem dX8_on_52 : decode cX8_on 52 = .ok (.iconst 1, 1) := by decide +kernel
theorem dX8_on_53 : decode cX8_on 53 = .ok (.iadd, 1) := by decide +kernel
theorem dX8_on_54 : decode cX8_on 54 = .ok (.goto 4, 3) := by decide +kernel
theorem dX8_on_57 : decode cX8_on 57 = .ok (.iconst (-1), 1) := by decide +kernel
theorem dX8_on_58 : decode cX8_on 58 = .ok (.ireturn, 1) := by decide +kernel
theorem dX8_on_59 : decode cX8_on 59 = .ok (.iload_n 0, 1) := by decide +kernel
theorem dX8_on_60 : decode cX8_on 60 = .ok (.iconst 5, 1) := by decide +kernel
theorem dX8_on_61 : decode cX8_on 61 = .ok (.if_icmp .le 10, 3) := by decide +kernel
theorem dX8_on_64 : decode cX8_on 64 = .ok (.iload_n 0, 1) := by decide +kernel
theorem dX8_on_65 : decode cX8_on 65 = .ok (.bipush 6, 2) := by decide +kernel
theorem dX8_on_67 : decode cX8_on 67 = .ok (.isub, 1) := by decide +kernel
theorem dX8_on_68 : decode cX8_on 68 = .ok (.goto 4, 3) := by decide +kernel
theorem dX8_on_71 : decode cX8_on 71 = .ok (.iconst (-1), 1) := by decide +kernel
theorem dX8_on_72 : decode cX8_on 72 = .ok (.ireturn, 1) := by decide +kernel
theorem dX8_on_73 : decode cX8_on 73 = .ok (.iload_n 0, 1) := by decide +kernel
theorem dX8_on_74 : decode cX8_on 74 = .ok (.bipush 6, 2) := by decide +kernel
theorem dX8_on_76 : decode cX8_on 76 = .ok (.irem, 1) := by decide +kernel
theorem dX8_on_77 : decode cX8_on 77 = .ok (.ifCond .le 9, 3) := by decide +kernel
theorem dX8_on_80 : decode cX8_on 80 = .ok (.iload_n 0, 1) := by decide +kernel
theorem dX8_on_81 : decode cX8_on 81 = .ok (.iconst 1, 1) := by decide +kernel
theorem dX8_on_82 : decode cX8_on 82 = .ok (.isub, 1) := by decide +kernel
theorem dX8_on_83 : decode cX8_on 83 = .ok (.goto 4, 3) := by decide +kernel
theorem dX8_on_86 : decode cX8_on 86 = .ok (.iconst (-1), 1) := by decide +kernel
theorem dX8_on_87 : decode cX8_on 87 = .ok (.ireturn, 1) := by decide +kernel
theorem dX8_blow_0 : decode cX8_blow 0 = .ok (.iconst 0, 1) := by decide +kernel
theorem dX8_blow_1 : decode cX8_blow 1 = .ok (.istore 4, 2) := by decide +kernel
theorem dX8_blow_3 : decode cX8_blow 3 = .ok (.iload 4, 2) := by decide +kernel
theorem dX8_blow_5 : decode cX8_blow 5 = .ok (.bipush 36, 2) := by decide +kernel
theorem dX8_blow_7 : decode cX8_blow 7 = .ok (.if_icmp .ge 182, 3) := by decide +kernel
theorem dX8_blow_10 : decode cX8_blow 10 = .ok (.aload_n 0, 1) := by decide +kernel
theorem dX8_blow_11 : decode cX8_blow 11 = .ok (.getfield 43, 3) := by decide +kernel
theorem dX8_blow_14 : decode cX8_blow 14 = .ok (.iload 4, 2) := by decide +kernel
theorem dX8_blow_16 : decode cX8_blow 16 = .ok (.iaload, 1) := by decide +kernel
theorem dX8_blow_17 : decode cX8_blow 17 = .ok (.aload_n 0, 1) := by decide +kernel
theorem dX8_blow_18 : decode cX8_blow 18 = .ok (.getfield 46, 3) := by decide +kernel
theorem dX8_blow_21 : decode cX8_blow 21 = .ok (.iload 4, 2) := by decide +kernel
theorem dX8_blow_23 : decode cX8_blow 23 = .ok (.iaload, 1) := by decide +kernel
theorem dX8_blow_24 : decode cX8_blow 24 = .ok (.iadd, 1) := by decide +kernel
theorem dX8_blow_25 : decode cX8_blow 25 = .ok (.istore 5, 2) := by decide +kernel
theorem dX8_blow_27 : decode cX8_blow 27 = .ok (.aload_n 0, 1) := by decide +kernel
theorem dX8_blow_28 : decode cX8_blow 28 = .ok (.getfield 58, 3) := by decide +kernel
theorem dX8_blow_31 : decode cX8_blow 31 = .ok (.iload 4, 2) := by decide +kernel
theorem dX8_blow_33 : decode cX8_blow 33 = .ok (.aload_n 0, 1) := by decide +kernel
theorem dX8_blow_34 : decode cX8_blow 34 = .ok (.getfield 43, 3) := by decide +kernel
theorem dX8_blow_37 : decode cX8_blow 37 = .ok (.iload 4, 2) := by decide +kernel
theorem dX8_blow_39 : decode cX8_blow 39 = .ok (.iaload, 1) := by decide +kernel
theorem dX8_blow_40 : decode cX8_blow 40 = .ok (.ifCond .ne 7, 3) := by decide +kernel
theorem dX8_blow_43 : decode cX8_blow 43 = .ok (.iconst 0, 1) := by decide +kernel
theorem dX8_blow_44 : decode cX8_blow 44 = .ok (.goto 32, 3) := by decide +kernel
theorem dX8_blow_47 : decode cX8_blow 47 = .ok (.aload_n 0, 1) := by decide +kernel
theorem dX8_blow_48 : decode cX8_blow 48 = .ok (.iload 4, 2) := by decide +kernel
theorem dX8_blow_50 : decode cX8_blow 50 = .ok (.aload_n 0, 1) := by decide +kernel
theorem dX8_blow_51 : decode cX8_blow 51 = .ok (.getfield 43, 3) := by decide +kernel
theorem dX8_blow_54 : decode cX8_blow 54 = .ok (.iload 4, 2) := by decide +kernel
theorem dX8_blow_56 : decode cX8_blow 56 = .ok (.iaload, 1) := by decide +kernel
theorem dX8_blow_57 : decode cX8_blow 57 = .ok (.aload_n 0, 1) := by decide +kernel
theorem dX8_blow_58 : decode cX8_blow 58 = .ok (.iconst 1, 1) := by decide +kernel
theorem dX8_blow_59 : decode cX8_blow 59 = .ok (.iconst 0, 1) := by decide +kernel
theorem dX8_blow_60 : decode cX8_blow 60 = .ok (.iload_n 2, 1) := by decide +kernel
theorem dX8_blow_61 : decode cX8_blow 61 = .ok (.iload_n 3, 1) := by decide +kernel
theorem dX8_blow_62 : decode cX8_blow 62 = .ok (.iconst 0, 1) := by decide +kernel
theorem dX8_blow_63 : decode cX8_blow 63 = .ok (.iconst 0, 1) := by decide +kernel
theorem dX8_blow_64 : decode cX8_blow 64 = .ok (.iload 5, 2) := by decide +kernel
theorem dX8_blow_66 : decode cX8_blow 66 = .ok (.invokevirtual 219, 3) := by decide +kernel
theorem dX8_blow_69 : decode cX8_blow 69 = .ok (.imul, 1) := by decide +kernel
theorem dX8_blow_70 : decode cX8_blow 70 = .ok (.bipush 100, 2) := by decide +kernel
theorem dX8_blow_72 : decode cX8_blow 72 = .ok (.idiv, 1) := by decide +kernel
theorem dX8_blow_73 : decode cX8_blow 73 = .ok (.invokevirtual 244, 3) := by decide +kernel
theorem dX8_blow_76 : decode cX8_blow 76 = .ok (.iastore, 1) := by decide +kernel
theorem dX8_blow_77 : decode cX8_blow 77 = .ok (.aload_n 0, 1) := by decide +kernel
theorem dX8_blow_78 : decode cX8_blow 78 = .ok (.getfield 61, 3) := by decide +kernel
theorem dX8_blow_81 : decode cX8_blow 81 = .ok (.iload 4, 2) := by decide +kernel
theorem dX8_blow_83 : decode cX8_blow 83 = .ok (.aload_n 0, 1) := by decide +kernel
theorem dX8_blow_84 : decode cX8_blow 84 = .ok (.getfield 46, 3) := by decide +kernel
theorem dX8_blow_87 : decode cX8_blow 87 = .ok (.iload 4, 2) := by decide +kernel
theorem dX8_blow_89 : decode cX8_blow 89 = .ok (.iaload, 1) := by decide +kernel
theorem dX8_blow_90 : decode cX8_blow 90 = .ok (.ifCond .ne 7, 3) := by decide +kernel
theorem dX8_blow_93 : decode cX8_blow 93 = .ok (.iconst 0, 1) := by decide +kernel
theorem dX8_blow_94 : decode cX8_blow 94 = .ok (.goto 32, 3) := by decide +kernel
theorem dX8_blow_97 : decode cX8_blow 97 = .ok (.aload_n 0, 1) := by decide +kernel
theorem dX8_blow_98 : decode cX8_blow 98 = .ok (.iload 4, 2) := by decide +kernel
theorem dX8_blow_100 : decode cX8_blow 100 = .ok (.aload_n 0, 1) := by decide +kernel
theorem dX8_blow_101 : decode cX8_blow 101 = .ok (.getfield 46, 3) := by decide +kernel
theorem dX8_blow_104 : decode cX8_blow 104 = .ok (.iload 4, 2) := by decide +kernel
theorem dX8_blow_106 : decode cX8_blow 106 = .ok (.iaload, 1) := by decide +kernel
theorem dX8_blow_107 : decode cX8_blow 107 = .ok (.aload_n 0, 1) := by decide +kernel
theorem dX8_blow_108 : decode cX8_blow 108 = .ok (.iconst 1, 1) := by decide +kernel
theorem dX8_blow_109 : decode cX8_blow 109 = .ok (.iconst 0, 1) := by decide +kernel
theorem dX8_blow_110 : decode cX8_blow 110 = .ok (.iload_n 2, 1) := by decide +kernel
theorem dX8_blow_111 : decode cX8_blow 111 = .ok (.iload_n 3, 1) := by decide +kernel
theorem dX8_blow_112 : decode cX8_blow 112 = .ok (.iconst 1, 1) := by decide +kernel
theorem dX8_blow_113 : decode cX8_blow 113 = .ok (.iconst 0, 1) := by decide +kernel
theorem dX8_blow_114 : decode cX8_blow 114 = .ok (.iload 5, 2) := by decide +kernel
theorem dX8_blow_116 : decode cX8_blow 116 = .ok (.invokevirtual 219, 3) := by decide +kernel
theorem dX8_blow_119 : decode cX8_blow 119 = .ok (.imul, 1) := by decide +kernel
theorem dX8_blow_120 : decode cX8_blow 120 = .ok (.bipush 100, 2) := by decide +kernel
theorem dX8_blow_122 : decode cX8_blow 122 = .ok (.idiv, 1) := by decide +kernel
theorem dX8_blow_123 : decode cX8_blow 123 = .ok (.invokevirtual 244, 3) := by decide +kernel
theorem dX8_blow_126 : decode cX8_blow 126 = .ok (.iastore, 1) := by decide +kernel
theorem dX8_blow_127 : decode cX8_blow 127 = .ok (.iload 4, 2) := by decide +kernel
theorem dX8_blow_129 : decode cX8_blow 129 = .ok (.iload_n 1, 1) := by decide +kernel
theorem dX8_blow_130 : decode cX8_blow 130 = .ok (.invokestatic 247, 3) := by decide +kernel
theorem dX8_blow_133 : decode cX8_blow 133 = .ok (.istore 6, 2) := by decide +kernel
theorem dX8_blow_135 : decode cX8_blow 135 = .ok (.iload 6, 2) := by decide +kernel
theorem dX8_blow_137 : decode cX8_blow 137 = .ok (.ifCond .ge 6, 3) := by decide +kernel
theorem dX8_blow_140 : decode cX8_blow 140 = .ok (.goto 43, 3) := by decide +kernel
theorem dX8_blow_143 : decode cX8_blow 143 = .ok (.aload_n 0, 1) := by decide +kernel
theorem dX8_blow_144 : decode cX8_blow 144 = .ok (.getfield 58, 3) := by decide +kernel
theorem dX8_blow_147 : decode cX8_blow 147 = .ok (.iload 4, 2) := by decide +kernel
theorem dX8_blow_149 : decode cX8_blow 149 = .ok (.aload_n 0, 1) := by decide +kernel
theorem dX8_blow_150 : decode cX8_blow 150 = .ok (.iload 6, 2) := by decide +kernel
theorem dX8_blow_152 : decode cX8_blow 152 = .ok (.aload_n 0, 1) := by decide +kernel
theorem dX8_blow_153 : decode cX8_blow 153 = .ok (.getfield 58, 3) := by decide +kernel
theorem dX8_blow_156 : decode cX8_blow 156 = .ok (.iload 4, 2) := by decide +kernel
theorem dX8_blow_158 : decode cX8_blow 158 = .ok (.iaload, 1) := by decide +kernel
theorem dX8_blow_159 : decode cX8_blow 159 = .ok (.invokevirtual 250, 3) := by decide +kernel
theorem dX8_blow_162 : decode cX8_blow 162 = .ok (.iastore, 1) := by decide +kernel
theorem dX8_blow_163 : decode cX8_blow 163 = .ok (.aload_n 0, 1) := by decide +kernel
theorem dX8_blow_164 : decode cX8_blow 164 = .ok (.getfield 61, 3) := by decide +kernel
theorem dX8_blow_167 : decode cX8_blow 167 = .ok (.iload 4, 2) := by decide +kernel
theorem dX8_blow_169 : decode cX8_blow 169 = .ok (.aload_n 0, 1) := by decide +kernel
theorem dX8_blow_170 : decode cX8_blow 170 = .ok (.iload 6, 2) := by decide +kernel
theorem dX8_blow_172 : decode cX8_blow 172 = .ok (.aload_n 0, 1) := by decide +kernel
theorem dX8_blow_173 : decode cX8_blow 173 = .ok (.getfield 61, 3) := by decide +kernel
theorem dX8_blow_176 : decode cX8_blow 176 = .ok (.iload 4, 2) := by decide +kernel
theorem dX8_blow_178 : decode cX8_blow 178 = .ok (.iaload, 1) := by decide +kernel
theorem dX8_blow_179 : decode cX8_blow 179 = .ok (.invokevirtual 250, 3) := by decide +kernel
theorem dX8_blow_182 : decode cX8_blow 182 = .ok (.iastore, 1) := by decide +kernel
theorem dX8_blow_183 : decode cX8_blow 183 = .ok (.iinc 4 1, 3) := by decide +kernel
theorem dX8_blow_186 : decode cX8_blow 186 = .ok (.goto (-183), 3) := by decide +kernel
theorem dX8_blow_189 : decode cX8_blow 189 = .ok (.iconst 0, 1) := by decide +kernel
theorem dX8_blow_190 : decode cX8_blow 190 = .ok (.istore 4, 2) := by decide +kernel
theorem dX8_blow_192 : decode cX8_blow 192 = .ok (.iload 4, 2) := by decide +kernel
theorem dX8_blow_194 : decode cX8_blow 194 = .ok (.bipush 36, 2) := by decide +kernel
theorem dX8_blow_196 : decode cX8_blow 196 = .ok (.if_icmp .ge 117, 3) := by decide +kernel
theorem dX8_blow_199 : decode cX8_blow 199 = .ok (.aload_n 0, 1) := by decide +kernel
theorem dX8_blow_200 : decode cX8_blow 200 = .ok (.getfield 43, 3) := by decide +kernel
theorem dX8_blow_203 : decode cX8_blow 203 = .ok (.iload 4, 2) := by decide +kernel
theorem dX8_blow_205 : decode cX8_blow 205 = .ok (.dup2, 1) := by decide +kernel
theorem dX8_blow_206 : decode cX8_blow 206 = .ok (.iaload, 1) := by decide +kernel
theorem dX8_blow_207 : decode cX8_blow 207 = .ok (.aload_n 0, 1) := by decide +kernel
theorem dX8_blow_208 : decode cX8_blow 208 = .ok (.getfield 58, 3) := by decide +kernel
theorem dX8_blow_211 : decode cX8_blow 211 = .ok (.iload 4, 2) := by decide +kernel
theorem dX8_blow_213 : decode cX8_blow 213 = .ok (.iaload, 1) := by decide +kernel
theorem dX8_blow_214 : decode cX8_blow 214 = .ok (.isub, 1) := by decide +kernel
theorem dX8_blow_215 : decode cX8_blow 215 = .ok (.iastore, 1) := by decide +kernel
theorem dX8_blow_216 : decode cX8_blow 216 = .ok (.aload_n 0, 1) := by decide +kernel
theorem dX8_blow_217 : decode cX8_blow 217 = .ok (.getfield 46, 3) := by decide +kernel
theorem dX8_blow_220 : decode cX8_blow 220 = .ok (.iload 4, 2) := by decide +kernel
theorem dX8_blow_222 : decode cX8_blow 222 = .ok (.dup2, 1) := by decide +kernel
theorem dX8_blow_223 : decode cX8_blow 223 = .ok (.iaload, 1) := by decide +kernel
theorem dX8_blow_224 : decode cX8_blow 224 = .ok (.aload_n 0, 1) := by decide +kernel
theorem dX8_blow_225 : decode cX8_blow 225 = .ok (.getfield 61, 3) := by decide +kernel
theorem dX8_blow_228 : decode cX8_blow 228 = .ok (.iload 4, 2) := by decide +kernel
theorem dX8_blow_230 : decode cX8_blow 230 = .ok (.iaload, 1) := by decide +kernel
theorem dX8_blow_231 : decode cX8_blow 231 = .ok (.isub, 1) := by decide +kernel
theorem dX8_blow_232 : decode cX8_blow 232 = .ok (.iastore, 1) := by decide +kernel
theorem dX8_blow_233 : decode cX8_blow 233 = .ok (.iload 4, 2) := by decide +kernel
theorem dX8_blow_235 : decode cX8_blow 235 = .ok (.iload_n 1, 1) := by decide +kernel
theorem dX8_blow_236 : decode cX8_blow 236 = .ok (.invokestatic 247, 3) := by decide +kernel
theorem dX8_blow_239 : decode cX8_blow 239 = .ok (.istore 5, 2) := by decide +kernel
theorem dX8_blow_241 : decode cX8_blow 241 = .ok (.iload 5, 2) := by decide +kernel
theorem dX8_blow_243 : decode cX8_blow 243 = .ok (.ifCond .ge 30, 3) := by decide +kernel
theorem dX8_blow_246 : decode cX8_blow 246 = .ok (.aload_n 0, 1) := by decide +kernel
theorem dX8_blow_247 : decode cX8_blow 247 = .ok (.getfield 55, 3) := by decide +kernel
theorem dX8_blow_250 : decode cX8_blow 250 = .ok (.iload_n 1, 1) := by decide +kernel
theorem dX8_blow_251 : decode cX8_blow 251 = .ok (.dup2, 1) := by decide +kernel
theorem dX8_blow_252 : decode cX8_blow 252 = .ok (.iaload, 1) := by decide +kernel
theorem dX8_blow_253 : decode cX8_blow 253 = .ok (.aload_n 0, 1) := by decide +kernel
theorem dX8_blow_254 : decode cX8_blow 254 = .ok (.getfield 58, 3) := by decide +kernel
theorem dX8_blow_257 : decode cX8_blow 257 = .ok (.iload 4, 2) := by decide +kernel
theorem dX8_blow_259 : decode cX8_blow 259 = .ok (.iaload, 1) := by decide +kernel
theorem dX8_blow_260 : decode cX8_blow 260 = .ok (.aload_n 0, 1) := by decide +kernel
theorem dX8_blow_261 : decode cX8_blow 261 = .ok (.getfield 61, 3) := by decide +kernel
theorem dX8_blow_264 : decode cX8_blow 264 = .ok (.iload 4, 2) := by decide +kernel
theorem dX8_blow_266 : decode cX8_blow 266 = .ok (.iaload, 1) := by decide +kernel
theorem dX8_blow_267 : decode cX8_blow 267 = .ok (.iadd, 1) := by decide +kernel
theorem dX8_blow_268 : decode cX8_blow 268 = .ok (.iadd, 1) := by decide +kernel
theorem dX8_blow_269 : decode cX8_blow 269 = .ok (.iastore, 1) := by decide +kernel
theorem dX8_blow_270 : decode cX8_blow 270 = .ok (.goto 37, 3) := by decide +kernel
theorem dX8_blow_273 : decode cX8_blow 273 = .ok (.aload_n 0, 1) := by decide +kernel
theorem dX8_blow_274 : decode cX8_blow 274 = .ok (.getfield 43, 3) := by decide +kernel
theorem dX8_blow_277 : decode cX8_blow 277 = .ok (.iload 5, 2) := by decide +kernel
theorem dX8_blow_279 : decode cX8_blow 279 = .ok (.dup2, 1) := by decide +kernel
theorem dX8_blow_280 : decode cX8_blow 280 = .ok (.iaload, 1) := by decide +kernel
theorem dX8_blow_281 : decode cX8_blow 281 = .ok (.aload_n 0, 1) := by decide +kernel
theorem dX8_blow_282 : decode cX8_blow 282 = .ok (.getfield 58, 3) := by decide +kernel
theorem dX8_blow_285 : decode cX8_blow 285 = .ok (.iload 4, 2) := by decide +kernel
theorem dX8_blow_287 : decode cX8_blow 287 = .ok (.iaload, 1) := by decide +kernel
theorem dX8_blow_288 : decode cX8_blow 288 = .ok (.iadd, 1) := by decide +kernel
theorem dX8_blow_289 : decode cX8_blow 289 = .ok (.iastore, 1) := by decide +kernel
theorem dX8_blow_290 : decode cX8_blow 290 = .ok (.aload_n 0, 1) := by decide +kernel
theorem dX8_blow_291 : decode cX8_blow 291 = .ok (.getfield 46, 3) := by decide +kernel
theorem dX8_blow_294 : decode cX8_blow 294 = .ok (.iload 5, 2) := by decide +kernel
theorem dX8_blow_296 : decode cX8_blow 296 = .ok (.dup2, 1) := by decide +kernel
theorem dX8_blow_297 : decode cX8_blow 297 = .ok (.iaload, 1) := by decide +kernel
theorem dX8_blow_298 : decode cX8_blow 298 = .ok (.aload_n 0, 1) := by decide +kernel
theorem dX8_blow_299 : decode cX8_blow 299 = .ok (.getfield 61, 3) := by decide +kernel
theorem dX8_blow_302 : decode cX8_blow 302 = .ok (.iload 4, 2) := by decide +kernel
theorem dX8_blow_304 : decode cX8_blow 304 = .ok (.iaload, 1) := by decide +kernel
theorem dX8_blow_305 : decode cX8_blow 305 = .ok (.iadd, 1) := by decide +kernel
theorem dX8_blow_306 : decode cX8_blow 306 = .ok (.iastore, 1) := by decide +kernel
theorem dX8_blow_307 : decode cX8_blow 307 = .ok (.iinc 4 1, 3) := by decide +kernel
theorem dX8_blow_310 : decode cX8_blow 310 = .ok (.goto (-118), 3) := by decide +kernel
theorem dX8_blow_313 : decode cX8_blow 313 = .ok (.return_, 1) := by decide +kernel
theorem dX8_far_0 : decode cX8_far 0 = .ok (.iload_n 0, 1) := by decide +kernel
theorem dX8_far_1 : decode cX8_far 1 = .ok (.bipush 6, 2) := by decide +kernel
theorem dX8_far_3 : decode cX8_far 3 = .ok (.idiv, 1) := by decide +kernel
theorem dX8_far_4 : decode cX8_far 4 = .ok (.iload_n 1, 1) := by decide +kernel
theorem dX8_far_5 : decode cX8_far 5 = .ok (.bipush 6, 2) := by decide +kernel
theorem dX8_far_7 : decode cX8_far 7 = .ok (.idiv, 1) := by decide +kernel
theorem dX8_far_8 : decode cX8_far 8 = .ok (.isub, 1) := by decide +kernel
theorem dX8_far_9 : decode cX8_far 9 = .ok (.invokestatic 253, 3) := by decide +kernel
theorem dX8_far_12 : decode cX8_far 12 = .ok (.iload_n 0, 1) := by decide +kernel
theorem dX8_far_13 : decode cX8_far 13 = .ok (.bipush 6, 2) := by decide +kernel
theorem dX8_far_15 : decode cX8_far 15 = .ok (.irem, 1) := by decide +kernel
theorem dX8_far_16 : decode cX8_far 16 = .ok (.iload_n 1, 1) := by decide +kernel
theorem dX8_far_17 : decode cX8_far 17 = .ok (.bipush 6, 2) := by decide +kernel
theorem dX8_far_19 : decode cX8_far 19 = .ok (.irem, 1) := by decide +kernel
theorem dX8_far_20 : decode cX8_far 20 = .ok (.isub, 1) := by decide +kernel
theorem dX8_far_21 : decode cX8_far 21 = .ok (.invokestatic 253, 3) := by decide +kernel
theorem dX8_far_24 : decode cX8_far 24 = .ok (.iadd, 1) := by decide +kernel
theorem dX8_far_25 : decode cX8_far 25 = .ok (.ireturn, 1) := by decide +kernel
theorem dX8_costs_0 : decode cX8_costs 0 = .ok (.iconst 0, 1) := by decide +kernel
theorem dX8_costs_1 : decode cX8_costs 1 = .ok (.istore_n 3, 1) := by decide +kernel
theorem dX8_costs_2 : decode cX8_costs 2 = .ok (.lconst 0, 1) := by decide +kernel
theorem dX8_costs_3 : decode cX8_costs 3 = .ok (.lstore 4, 2) := by decide +kernel
theorem dX8_costs_5 : decode cX8_costs 5 = .ok (.iconst 0, 1) := by decide +kernel
theorem dX8_costs_6 : decode cX8_costs 6 = .ok (.istore 6, 2) := by decide +kernel
theorem dX8_costs_8 : decode cX8_costs 8 = .ok (.iload 6, 2) := by decide +kernel
theorem dX8_costs_10 : decode cX8_costs 10 = .ok (.bipush 36, 2) := by decide +kernel
theorem dX8_costs_12 : decode cX8_costs 12 = .ok (.if_icmp .ge 114, 3) := by decide +kernel
theorem dX8_costs_15 : decode cX8_costs 15 = .ok (.aload_n 0, 1) := by decide +kernel
theorem dX8_costs_16 : decode cX8_costs 16 = .ok (.getfield 43, 3) := by decide +kernel
theorem dX8_costs_19 : decode cX8_costs 19 = .ok (.iload 6, 2) := by decide +kernel
theorem dX8_costs_21 : decode cX8_costs 21 = .ok (.iaload, 1) := by decide +kernel
theorem dX8_costs_22 : decode cX8_costs 22 = .ok (.iconst 4, 1) := by decide +kernel
theorem dX8_costs_23 : decode cX8_costs 23 = .ok (.aload_n 0, 1) := by decide +kernel
theorem dX8_costs_24 : decode cX8_costs 24 = .ok (.getfield 46, 3) := by decide +kernel
theorem dX8_costs_27 : decode cX8_costs 27 = .ok (.iload 6, 2) := by decide +kernel
theorem dX8_costs_29 : decode cX8_costs 29 = .ok (.iaload, 1) := by decide +kernel
theorem dX8_costs_30 : decode cX8_costs 30 = .ok (.imul, 1) := by decide +kernel
theorem dX8_costs_31 : decode cX8_costs 31 = .ok (.iadd, 1) := by decide +kernel
theorem dX8_costs_32 : decode cX8_costs 32 = .ok (.istore 7, 2) := by decide +kernel
theorem dX8_costs_34 : decode cX8_costs 34 = .ok (.iload 7, 2) := by decide +kernel
theorem dX8_costs_36 : decode cX8_costs 36 = .ok (.ifCond .ne 6, 3) := by decide +kernel
theorem dX8_costs_39 : decode cX8_costs 39 = .ok (.goto 81, 3) := by decide +kernel
theorem dX8_costs_42 : decode cX8_costs 42 = .ok (.iconst (-1), 1) := by decide +kernel
theorem dX8_costs_43 : decode cX8_costs 43 = .ok (.istore 8, 2) := by decide +kernel
theorem dX8_costs_45 : decode cX8_costs 45 = .ok (.iconst 0, 1) := by decide +kernel
theorem dX8_costs_46 : decode cX8_costs 46 = .ok (.istore 9, 2) := by decide +kernel
theorem dX8_costs_48 : decode cX8_costs 48 = .ok (.iload 9, 2) := by decide +kernel
theorem dX8_costs_50 : decode cX8_costs 50 = .ok (.bipush 36, 2) := by decide +kernel
theorem dX8_costs_52 : decode cX8_costs 52 = .ok (.if_icmp .ge 46, 3) := by decide +kernel
theorem dX8_costs_55 : decode cX8_costs 55 = .ok (.lload_n 1, 1) := by decide +kernel
theorem dX8_costs_56 : decode cX8_costs 56 = .ok (.iload 9, 2) := by decide +kernel
theorem dX8_costs_58 : decode cX8_costs 58 = .ok (.lshr, 1) := by decide +kernel
theorem dX8_costs_59 : decode cX8_costs 59 = .ok (.lconst 1, 1) := by decide +kernel
theorem dX8_costs_60 : decode cX8_costs 60 = .ok (.land, 1) := by decide +kernel
theorem dX8_costs_61 : decode cX8_costs 61 = .ok (.lconst 1, 1) := by decide +kernel
theorem dX8_costs_62 : decode cX8_costs 62 = .ok (.lcmp, 1) := by decide +kernel
theorem dX8_costs_63 : decode cX8_costs 63 = .ok (.ifCond .ne 29, 3) := by decide +kernel
theorem dX8_costs_66 : decode cX8_costs 66 = .ok (.iload 8, 2) := by decide +kernel
theorem dX8_costs_68 : decode cX8_costs 68 = .ok (.ifCond .lt 20, 3) := by decide +kernel
theorem dX8_costs_71 : decode cX8_costs 71 = .ok (.iload 6, 2) := by decide +kernel
theorem dX8_costs_73 : decode cX8_costs 73 = .ok (.iload 9, 2) := by decide +kernel
theorem dX8_costs_75 : decode cX8_costs 75 = .ok (.invokestatic 257, 3) := by decide +kernel
theorem dX8_costs_78 : decode cX8_costs 78 = .ok (.iload 6, 2) := by decide +kernel
theorem dX8_costs_80 : decode cX8_costs 80 = .ok (.iload 8, 2) := by decide +kernel
theorem dX8_costs_82 : decode cX8_costs 82 = .ok (.invokestatic 257, 3) := by decide +kernel
theorem dX8_costs_85 : decode cX8_costs 85 = .ok (.if_icmp .ge 7, 3) := by decide +kernel
theorem dX8_costs_88 : decode cX8_costs 88 = .ok (.iload 9, 2) := by decide +kernel
theorem dX8_costs_90 : decode cX8_costs 90 = .ok (.istore 8, 2) := by decide +kernel
theorem dX8_costs_92 : decode cX8_costs 92 = .ok (.iinc 9 1, 3) := by decide +kernel
theorem dX8_costs_95 : decode cX8_costs 95 = .ok (.goto (-47), 3) := by decide +kernel
theorem dX8_costs_98 : decode cX8_costs 98 = .ok (.iload_n 3, 1) := by decide +kernel
theorem dX8_costs_99 : decode cX8_costs 99 = .ok (.iload 7, 2) := by decide +kernel
theorem dX8_costs_101 : decode cX8_costs 101 = .ok (.iload 6, 2) := by decide +kernel
theorem dX8_costs_103 : decode cX8_costs 103 = .ok (.iload 8, 2) := by decide +kernel
theorem dX8_costs_105 : decode cX8_costs 105 = .ok (.invokestatic 257, 3) := by decide +kernel
theorem dX8_costs_108 : decode cX8_costs 108 = .ok (.imul, 1) := by decide +kernel
theorem dX8_costs_109 : decode cX8_costs 109 = .ok (.iadd, 1) := by decide +kernel
theorem dX8_costs_110 : decode cX8_costs 110 = .ok (.istore_n 3, 1) := by decide +kernel
theorem dX8_costs_111 : decode cX8_costs 111 = .ok (.lload 4, 2) := by decide +kernel
theorem dX8_costs_113 : decode cX8_costs 113 = .ok (.lconst 1, 1) := by decide +kernel
theorem dX8_costs_114 : decode cX8_costs 114 = .ok (.iload 8, 2) := by decide +kernel
theorem dX8_costs_116 : decode cX8_costs 116 = .ok (.lshl, 1) := by decide +kernel
theorem dX8_costs_117 : decode cX8_costs 117 = .ok (.lor, 1) := by decide +kernel
theorem dX8_costs_118 : decode cX8_costs 118 = .ok (.lstore 4, 2) := by decide +kernel
theorem dX8_costs_120 : decode cX8_costs 120 = .ok (.iinc 6 1, 3) := by decide +kernel
theorem dX8_costs_123 : decode cX8_costs 123 = .ok (.goto (-115), 3) := by decide +kernel
theorem dX8_costs_126 : decode cX8_costs 126 = .ok (.iload_n 3, 1) := by decide +kernel
theorem dX8_costs_127 : decode cX8_costs 127 = .ok (.bipush 30, 2) := by decide +kernel
theorem dX8_costs_129 : decode cX8_costs 129 = .ok (.lload 4, 2) := by decide +kernel
theorem dX8_costs_131 : decode cX8_costs 131 = .ok (.invokestatic 260, 3) := by decide +kernel
theorem dX8_costs_134 : decode cX8_costs 134 = .ok (.imul, 1) := by decide +kernel
theorem dX8_costs_135 : decode cX8_costs 135 = .ok (.iadd, 1) := by decide +kernel
theorem dX8_costs_136 : decode cX8_costs 136 = .ok (.ireturn, 1) := by decide +kernel
theorem dX8_day_0 : decode cX8_day 0 = .ok (.aload_n 0, 1) := by decide +kernel
theorem dX8_day_1 : decode cX8_day 1 = .ok (.getfield 7, 3) := by decide +kernel
theorem dX8_day_4 : decode cX8_day 4 = .ok (.iconst 4, 1) := by decide +kernel
theorem dX8_day_5 : decode cX8_day 5 = .ok (.iload_n 1, 1) := by decide +kernel
theorem dX8_day_6 : decode cX8_day 6 = .ok (.imul, 1) := by decide +kernel
theorem dX8_day_7 : decode cX8_day 7 = .ok (.iaload, 1) := by decide +kernel
theorem dX8_day_8 : decode cX8_day 8 = .ok (.istore_n 2, 1) := by decide +kernel
theorem dX8_day_9 : decode cX8_day 9 = .ok (.aload_n 0, 1) := by decide +kernel
theorem dX8_day_10 : decode cX8_day 10 = .ok (.getfield 7, 3) := by decide +kernel
theorem dX8_day_13 : decode cX8_day 13 = .ok (.iconst 4, 1) := by decide +kernel
theorem dX8_day_14 : decode cX8_day 14 = .ok (.iload_n 1, 1) := by decide +kernel
theorem dX8_day_15 : decode cX8_day 15 = .ok (.imul, 1) := by decide +kernel
theorem dX8_day_16 : decode cX8_day 16 = .ok (.iconst 1, 1) := by decide +kernel
theorem dX8_day_17 : decode cX8_day 17 = .ok (.iadd, 1) := by decide +kernel
theorem dX8_day_18 : decode cX8_day 18 = .ok (.iaload, 1) := by decide +kernel
theorem dX8_day_19 : decode cX8_day 19 = .ok (.istore_n 3, 1) := by decide +kernel
theorem dX8_day_20 : decode cX8_day 20 = .ok (.aload_n 0, 1) := by decide +kernel
theorem dX8_day_21 : decode cX8_day 21 = .ok (.getfield 7, 3) := by decide +kernel
theorem dX8_day_24 : decode cX8_day 24 = .ok (.iconst 4, 1) := by decide +kernel
theorem dX8_day_25 : decode cX8_day 25 = .ok (.iload_n 1, 1) := by decide +kernel
theorem dX8_day_26 : decode cX8_day 26 = .ok (.imul, 1) := by decide +kernel
theorem dX8_day_27 : decode cX8_day 27 = .ok (.iconst 2, 1) := by decide +kernel
theorem dX8_day_28 : decode cX8_day 28 = .ok (.iadd, 1) := by decide +kernel
theorem dX8_day_29 : decode cX8_day 29 = .ok (.iaload, 1) := by decide +kernel
theorem dX8_day_30 : decode cX8_day 30 = .ok (.istore 4, 2) := by decide +kernel
theorem dX8_day_32 : decode cX8_day 32 = .ok (.aload_n 0, 1) := by decide +kernel
theorem dX8_day_33 : decode cX8_day 33 = .ok (.getfield 7, 3) := by decide +kernel
theorem dX8_day_36 : decode cX8_day 36 = .ok (.iconst 4, 1) := by decide +kernel
theorem dX8_day_37 : decode cX8_day 37 = .ok (.iload_n 1, 1) := by decide +kernel
theorem dX8_day_38 : decode cX8_day 38 = .ok (.imul, 1) := by decide +kernel
theorem dX8_day_39 : decode cX8_day 39 = .ok (.iconst 3, 1) := by decide +kernel
theorem dX8_day_40 : decode cX8_day 40 = .ok (.iadd, 1) := by decide +kernel
theorem dX8_day_41 : decode cX8_day 41 = .ok (.iaload, 1) := by decide +kernel
theorem dX8_day_42 : decode cX8_day 42 = .ok (.istore 5, 2) := by decide +kernel
theorem dX8_day_44 : decode cX8_day 44 = .ok (.iconst 0, 1) := by decide +kernel
theorem dX8_day_45 : decode cX8_day 45 = .ok (.istore 6, 2) := by decide +kernel
theorem dX8_day_47 : decode cX8_day 47 = .ok (.iload 6, 2) := by decide +kernel
theorem dX8_day_49 : decode cX8_day 49 = .ok (.bipush 36, 2) := by decide +kernel
theorem dX8_day_51 : decode cX8_day 51 = .ok (.if_icmp .ge 61, 3) := by decide +kernel
theorem dX8_day_54 : decode cX8_day 54 = .ok (.iload 5, 2) := by decide +kernel
theorem dX8_day_56 : decode cX8_day 56 = .ok (.iconst 1, 1) := by decide +kernel
theorem dX8_day_57 : decode cX8_day 57 = .ok (.if_icmp .ne 14, 3) := by decide +kernel
theorem dX8_day_60 : decode cX8_day 60 = .ok (.aload_n 0, 1) := by decide +kernel
theorem dX8_day_61 : decode cX8_day 61 = .ok (.getfield 43, 3) := by decide +kernel
theorem dX8_day_64 : decode cX8_day 64 = .ok (.iload 6, 2) := by decide +kernel
theorem dX8_day_66 : decode cX8_day 66 = .ok (.iaload, 1) := by decide +kernel
theorem dX8_day_67 : decode cX8_day 67 = .ok (.ineg, 1) := by decide +kernel
theorem dX8_day_68 : decode cX8_day 68 = .ok (.goto 12, 3) := by decide +kernel
theorem dX8_day_71 : decode cX8_day 71 = .ok (.aload_n 0, 1) := by decide +kernel
theorem dX8_day_72 : decode cX8_day 72 = .ok (.getfield 46, 3) := by decide +kernel
theorem dX8_day_75 : decode cX8_day 75 = .ok (.iload 6, 2) := by decide +kernel
theorem dX8_day_77 : decode cX8_day 77 = .ok (.iaload, 1) := by decide +kernel
theorem dX8_day_78 : decode cX8_day 78 = .ok (.iconst 2, 1) := by decide +kernel
theorem dX8_day_79 : decode cX8_day 79 = .ok (.idiv, 1) := by decide +kernel
theorem dX8_day_80 : decode cX8_day 80 = .ok (.istore 7, 2) := by decide +kernel
theorem dX8_day_82 : decode cX8_day 82 = .ok (.aload_n 0, 1) := by decide +kernel
theorem dX8_day_83 : decode cX8_day 83 = .ok (.getfield 43, 3) := by decide +kernel
theorem dX8_day_86 : decode cX8_day 86 = .ok (.iload 6, 2) := by decide +kernel
theorem dX8_day_88 : decode cX8_day 88 = .ok (.dup2, 1) := by decide +kernel
theorem dX8_day_89 : decode cX8_day 89 = .ok (.iaload, 1) := by decide +kernel
theorem dX8_day_90 : decode cX8_day 90 = .ok (.iload 7, 2) := by decide +kernel
theorem dX8_day_92 : decode cX8_day 92 = .ok (.iadd, 1) := by decide +kernel
theorem dX8_day_93 : decode cX8_day 93 = .ok (.iastore, 1) := by decide +kernel
theorem dX8_day_94 : decode cX8_day 94 = .ok (.aload_n 0, 1) := by decide +kernel
theorem dX8_day_95 : decode cX8_day 95 = .ok (.getfield 46, 3) := by decide +kernel
theorem dX8_day_98 : decode cX8_day 98 = .ok (.iload 6, 2) := by decide +kernel
theorem dX8_day_100 : decode cX8_day 100 = .ok (.dup2, 1) := by decide +kernel
theorem dX8_day_101 : decode cX8_day 101 = .ok (.iaload, 1) := by decide +kernel
theorem dX8_day_102 : decode cX8_day 102 = .ok (.iload 7, 2) := by decide +kernel
theorem dX8_day_104 : decode cX8_day 104 = .ok (.isub, 1) := by decide +kernel
theorem dX8_day_105 : decode cX8_day 105 = .ok (.iastore, 1) := by decide +kernel
theorem dX8_day_106 : decode cX8_day 106 = .ok (.iinc 6 1, 3) := by decide +kernel
theorem dX8_day_109 : decode cX8_day 109 = .ok (.goto (-62), 3) := by decide +kernel
theorem dX8_day_112 : decode cX8_day 112 = .ok (.aload_n 0, 1) := by decide +kernel
theorem dX8_day_113 : decode cX8_day 113 = .ok (.iconst 0, 1) := by decide +kernel
theorem dX8_day_114 : decode cX8_day 114 = .ok (.putfield 266, 3) := by decide +kernel
theorem dX8_day_117 : decode cX8_day 117 = .ok (.iconst 0, 1) := by decide +kernel
theorem dX8_day_118 : decode cX8_day 118 = .ok (.istore 6, 2) := by decide +kernel
theorem dX8_day_120 : decode cX8_day 120 = .ok (.iload 6, 2) := by decide +kernel
theorem dX8_day_122 : decode cX8_day 122 = .ok (.aload_n 0, 1) := by decide +kernel
theorem dX8_day_123 : decode cX8_day 123 = .ok (.getfield 112, 3) := by decide +kernel
theorem dX8_day_126 : decode cX8_day 126 = .ok (.if_icmp .ge 112, 3) := by decide +kernel
theorem dX8_day_129 : decode cX8_day 129 = .ok (.aload_n 0, 1) := by decide +kernel
theorem dX8_day_130 : decode cX8_day 130 = .ok (.getfield 52, 3) := by decide +kernel
theorem dX8_day_133 : decode cX8_day 133 = .ok (.iload 6, 2) := by decide +kernel
theorem dX8_day_135 : decode cX8_day 135 = .ok (.iaload, 1) := by decide +kernel
theorem dX8_day_136 : decode cX8_day 136 = .ok (.aload_n 0, 1) := by decide +kernel
theorem dX8_day_137 : decode cX8_day 137 = .ok (.iconst 0, 1) := by decide +kernel
theorem dX8_day_138 : decode cX8_day 138 = .ok (.aload_n 0, 1) := by decide +kernel
theorem dX8_day_139 : decode cX8_day 139 = .ok (.getfield 52, 3) := by decide +kernel
theorem dX8_day_142 : decode cX8_day 142 = .ok (.iload 6, 2) := by decide +kernel
theorem dX8_day_144 : decode cX8_day 144 = .ok (.iaload, 1) := by decide +kernel
theorem dX8_day_145 : decode cX8_day 145 = .ok (.iload_n 3, 1) := by decide +kernel
theorem dX8_day_146 : decode cX8_day 146 = .ok (.iload 4, 2) := by decide +kernel
theorem dX8_day_148 : decode cX8_day 148 = .ok (.iload 5, 2) := by decide +kernel
theorem dX8_day_150 : decode cX8_day 150 = .ok (.aload_n 0, 1) := by decide +kernel
theorem dX8_day_151 : decode cX8_day 151 = .ok (.getfield 25, 3) := by decide +kernel
theorem dX8_day_154 : decode cX8_day 154 = .ok (.iload 6, 2) := by decide +kernel
theorem dX8_day_156 : decode cX8_day 156 = .ok (.iaload, 1) := by decide +kernel
theorem dX8_day_157 : decode cX8_day 157 = .ok (.iconst 0, 1) := by decide +kernel
theorem dX8_day_158 : decode cX8_day 158 = .ok (.invokevirtual 219, 3) := by decide +kernel
theorem dX8_day_161 : decode cX8_day 161 = .ok (.invokestatic 210, 3) := by decide +kernel
theorem dX8_day_164 : decode cX8_day 164 = .ok (.istore 7, 2) := by decide +kernel
theorem dX8_day_166 : decode cX8_day 166 = .ok (.aload_n 0, 1) := by decide +kernel
theorem dX8_day_167 : decode cX8_day 167 = .ok (.getfield 52, 3) := by decide +kernel
theorem dX8_day_170 : decode cX8_day 170 = .ok (.iload 6, 2) := by decide +kernel
theorem dX8_day_172 : decode cX8_day 172 = .ok (.dup2, 1) := by decide +kernel
theorem dX8_day_173 : decode cX8_day 173 = .ok (.iaload, 1) := by decide +kernel
theorem dX8_day_174 : decode cX8_day 174 = .ok (.iload 7, 2) := by decide +kernel
theorem dX8_day_176 : decode cX8_day 176 = .ok (.isub, 1) := by decide +kernel
theorem dX8_day_177 : decode cX8_day 177 = .ok (.iastore, 1) := by decide +kernel
theorem dX8_day_178 : decode cX8_day 178 = .ok (.aload_n 0, 1) := by decide +kernel
theorem dX8_day_179 : decode cX8_day 179 = .ok (.dup, 1) := by decide +kernel
theorem dX8_day_180 : decode cX8_day 180 = .ok (.getfield 266, 3) := by decide +kernel
theorem dX8_day_183 : decode cX8_day 183 = .ok (.iload 7, 2) := by decide +kernel
theorem dX8_day_185 : decode cX8_day 185 = .ok (.iadd, 1) := by decide +kernel
theorem dX8_day_186 : decode cX8_day 186 = .ok (.putfield 266, 3) := by decide +kernel
theorem dX8_day_189 : decode cX8_day 189 = .ok (.iload 5, 2) := by decide +kernel
theorem dX8_day_191 : decode cX8_day 191 = .ok (.iconst 1, 1) := by decide +kernel
theorem dX8_day_192 : decode cX8_day 192 = .ok (.if_icmp .ne 23, 3) := by decide +kernel
theorem dX8_day_195 : decode cX8_day 195 = .ok (.aload_n 0, 1) := by decide +kernel
theorem dX8_day_196 : decode cX8_day 196 = .ok (.getfield 46, 3) := by decide +kernel
theorem dX8_day_199 : decode cX8_day 199 = .ok (.aload_n 0, 1) := by decide +kernel
theorem dX8_day_200 : decode cX8_day 200 = .ok (.getfield 22, 3) := by decide +kernel
theorem dX8_day_203 : decode cX8_day 203 = .ok (.iload 6, 2) := by decide +kernel
theorem dX8_day_205 : decode cX8_day 205 = .ok (.iaload, 1) := by decide +kernel
theorem dX8_day_206 : decode cX8_day 206 = .ok (.dup2, 1) := by decide +kernel
theorem dX8_day_207 : decode cX8_day 207 = .ok (.iaload, 1) := by decide +kernel
theorem dX8_day_208 : decode cX8_day 208 = .ok (.iload 7, 2) := by decide +kernel
theorem dX8_day_210 : decode cX8_day 210 = .ok (.iadd, 1) := by decide +kernel
theorem dX8_day_211 : decode cX8_day 211 = .ok (.iastore, 1) := by decide +kernel
theorem dX8_day_212 : decode cX8_day 212 = .ok (.goto 20, 3) := by decide +kernel
theorem dX8_day_215 : decode cX8_day 215 = .ok (.aload_n 0, 1) := by decide +kernel
theorem dX8_day_216 : decode cX8_day 216 = .ok (.getfield 43, 3) := by decide +kernel
theorem dX8_day_219 : decode cX8_day 219 = .ok (.aload_n 0, 1) := by decide +kernel
theorem dX8_day_220 : decode cX8_day 220 = .ok (.getfield 22, 3) := by decide +kernel
theorem dX8_day_223 : decode cX8_day 223 = .ok (.iload 6, 2) := by decide +kernel
theorem dX8_day_225 : decode cX8_day 225 = .ok (.iaload, 1) := by decide +kernel
theorem dX8_day_226 : decode cX8_day 226 = .ok (.dup2, 1) := by decide +kernel
theorem dX8_day_227 : decode cX8_day 227 = .ok (.iaload, 1) := by decide +kernel
theorem dX8_day_228 : decode cX8_day 228 = .ok (.iload 7, 2) := by decide +kernel
theorem dX8_day_230 : decode cX8_day 230 = .ok (.iadd, 1) := by decide +kernel
theorem dX8_day_231 : decode cX8_day 231 = .ok (.iastore, 1) := by decide +kernel
theorem dX8_day_232 : decode cX8_day 232 = .ok (.iinc 6 1, 3) := by decide +kernel
theorem dX8_day_235 : decode cX8_day 235 = .ok (.goto (-115), 3) := by decide +kernel
theorem dX8_day_238 : decode cX8_day 238 = .ok (.aload_n 0, 1) := by decide +kernel
theorem dX8_day_239 : decode cX8_day 239 = .ok (.dup, 1) := by decide +kernel
theorem dX8_day_240 : decode cX8_day 240 = .ok (.getfield 269, 3) := by decide +kernel
theorem dX8_day_243 : decode cX8_day 243 = .ok (.aload_n 0, 1) := by decide +kernel
theorem dX8_day_244 : decode cX8_day 244 = .ok (.getfield 266, 3) := by decide +kernel
theorem dX8_day_247 : decode cX8_day 247 = .ok (.iadd, 1) := by decide +kernel
theorem dX8_day_248 : decode cX8_day 248 = .ok (.putfield 269, 3) := by decide +kernel
theorem dX8_day_251 : decode cX8_day 251 = .ok (.aload_n 0, 1) := by decide +kernel
theorem dX8_day_252 : decode cX8_day 252 = .ok (.iload_n 2, 1) := by decide +kernel
theorem dX8_day_253 : decode cX8_day 253 = .ok (.iload_n 3, 1) := by decide +kernel
theorem dX8_day_254 : decode cX8_day 254 = .ok (.iload 4, 2) := by decide +kernel
theorem dX8_day_256 : decode cX8_day 256 = .ok (.invokevirtual 272, 3) := by decide +kernel
theorem dX8_day_259 : decode cX8_day 259 = .ok (.iconst 0, 1) := by decide +kernel
theorem dX8_day_260 : decode cX8_day 260 = .ok (.istore 6, 2) := by decide +kernel
theorem dX8_day_262 : decode cX8_day 262 = .ok (.iload 6, 2) := by decide +kernel
theorem dX8_day_264 : decode cX8_day 264 = .ok (.bipush 36, 2) := by decide +kernel
theorem dX8_day_266 : decode cX8_day 266 = .ok (.if_icmp .ge 165, 3) := by decide +kernel
theorem dX8_day_269 : decode cX8_day 269 = .ok (.aload_n 0, 1) := by decide +kernel
theorem dX8_day_270 : decode cX8_day 270 = .ok (.getfield 43, 3) := by decide +kernel
theorem dX8_day_273 : decode cX8_day 273 = .ok (.iload 6, 2) := by decide +kernel
theorem dX8_day_275 : decode cX8_day 275 = .ok (.iaload, 1) := by decide +kernel
theorem dX8_day_276 : decode cX8_day 276 = .ok (.aload_n 0, 1) := by decide +kernel
theorem dX8_day_277 : decode cX8_day 277 = .ok (.getfield 46, 3) := by decide +kernel
theorem dX8_day_280 : decode cX8_day 280 = .ok (.iload 6, 2) := by decide +kernel
theorem dX8_day_282 : decode cX8_day 282 = .ok (.iaload, 1) := by decide +kernel
theorem dX8_day_283 : decode cX8_day 283 = .ok (.iadd, 1) := by decide +kernel
theorem dX8_day_284 : decode cX8_day 284 = .ok (.istore 7, 2) := by decide +kernel
theorem dX8_day_286 : decode cX8_day 286 = .ok (.iload 7, 2) := by decide +kernel
theorem dX8_day_288 : decode cX8_day 288 = .ok (.ifCond .ne 6, 3) := by decide +kernel
theorem dX8_day_291 : decode cX8_day 291 = .ok (.goto 134, 3) := by decide +kernel
theorem dX8_day_294 : decode cX8_day 294 = .ok (.aload_n 0, 1) := by decide +kernel
theorem dX8_day_295 : decode cX8_day 295 = .ok (.getfield 43, 3) := by decide +kernel
theorem dX8_day_298 : decode cX8_day 298 = .ok (.iload 6, 2) := by decide +kernel
theorem dX8_day_300 : decode cX8_day 300 = .ok (.iaload, 1) := by decide +kernel
theorem dX8_day_301 : decode cX8_day 301 = .ok (.aload_n 0, 1) := by decide +kernel
theorem dX8_day_302 : decode cX8_day 302 = .ok (.iconst 2, 1) := by decide +kernel
theorem dX8_day_303 : decode cX8_day 303 = .ok (.iconst 0, 1) := by decide +kernel
theorem dX8_day_304 : decode cX8_day 304 = .ok (.iload_n 3, 1) := by decide +kernel
theorem dX8_day_305 : decode cX8_day 305 = .ok (.iload 4, 2) := by decide +kernel
theorem dX8_day_307 : decode cX8_day 307 = .ok (.iconst 0, 1) := by decide +kernel
theorem dX8_day_308 : decode cX8_day 308 = .ok (.iconst 0, 1) := by decide +kernel
theorem dX8_day_309 : decode cX8_day 309 = .ok (.iload 7, 2) := by decide +kernel
theorem dX8_day_311 : decode cX8_day 311 = .ok (.invokevirtual 219, 3) := by decide +kernel
theorem dX8_day_314 : decode cX8_day 314 = .ok (.imul, 1) := by decide +kernel
theorem dX8_day_315 : decode cX8_day 315 = .ok (.bipush 100, 2) := by decide +kernel
theorem dX8_day_317 : decode cX8_day 317 = .ok (.idiv, 1) := by decide +kernel
theorem dX8_day_318 : decode cX8_day 318 = .ok (.istore 8, 2) := by decide +kernel
theorem dX8_day_320 : decode cX8_day 320 = .ok (.aload_n 0, 1) := by decide +kernel
theorem dX8_day_321 : decode cX8_day 321 = .ok (.getfield 46, 3) := by decide +kernel
theorem dX8_day_324 : decode cX8_day 324 = .ok (.iload 6, 2) := by decide +kernel
theorem dX8_day_326 : decode cX8_day 326 = .ok (.iaload, 1) := by decide +kernel
theorem dX8_day_327 : decode cX8_day 327 = .ok (.aload_n 0, 1) := by decide +kernel
theorem dX8_day_328 : decode cX8_day 328 = .ok (.iconst 2, 1) := by decide +kernel
theorem dX8_day_329 : decode cX8_day 329 = .ok (.iconst 0, 1) := by decide +kernel
theorem dX8_day_330 : decode cX8_day 330 = .ok (.iload_n 3, 1) := by decide +kernel
theorem dX8_day_331 : decode cX8_day 331 = .ok (.iload 4, 2) := by decide +kernel
theorem dX8_day_333 : decode cX8_day 333 = .ok (.iconst 1, 1) := by decide +kernel
theorem dX8_day_334 : decode cX8_day 334 = .ok (.iconst 0, 1) := by decide +kernel
theorem dX8_day_335 : decode cX8_day 335 = .ok (.iload 7, 2) := by decide +kernel
theorem dX8_day_337 : decode cX8_day 337 = .ok (.invokevirtual 219, 3) := by decide +kernel
theorem dX8_day_340 : decode cX8_day 340 = .ok (.imul, 1) := by decide +kernel
theorem dX8_day_341 : decode cX8_day 341 = .ok (.bipush 100, 2) := by decide +kernel
theorem dX8_day_343 : decode cX8_day 343 = .ok (.idiv, 1) := by decide +kernel
theorem dX8_day_344 : decode cX8_day 344 = .ok (.istore 9, 2) := by decide +kernel
theorem dX8_day_346 : decode cX8_day 346 = .ok (.aload_n 0, 1) := by decide +kernel
theorem dX8_day_347 : decode cX8_day 347 = .ok (.getfield 43, 3) := by decide +kernel
theorem dX8_day_350 : decode cX8_day 350 = .ok (.iload 6, 2) := by decide +kernel
theorem dX8_day_352 : decode cX8_day 352 = .ok (.dup2, 1) := by decide +kernel
theorem dX8_day_353 : decode cX8_day 353 = .ok (.iaload, 1) := by decide +kernel
theorem dX8_day_354 : decode cX8_day 354 = .ok (.iload 8, 2) := by decide +kernel
theorem dX8_day_356 : decode cX8_day 356 = .ok (.isub, 1) := by decide +kernel
theorem dX8_day_357 : decode cX8_day 357 = .ok (.iastore, 1) := by decide +kernel
theorem dX8_day_358 : decode cX8_day 358 = .ok (.aload_n 0, 1) := by decide +kernel
theorem dX8_day_359 : decode cX8_day 359 = .ok (.getfield 46, 3) := by decide +kernel
theorem dX8_day_362 : decode cX8_day 362 = .ok (.iload 6, 2) := by decide +kernel
theorem dX8_day_364 : decode cX8_day 364 = .ok (.dup2, 1) := by decide +kernel
theorem dX8_day_365 : decode cX8_day 365 = .ok (.iaload, 1) := by decide +kernel
theorem dX8_day_366 : decode cX8_day 366 = .ok (.iload 9, 2) := by decide +kernel
theorem dX8_day_368 : decode cX8_day 368 = .ok (.isub, 1) := by decide +kernel
theorem dX8_day_369 : decode cX8_day 369 = .ok (.iastore, 1) := by decide +kernel
theorem dX8_day_370 : decode cX8_day 370 = .ok (.aload_n 0, 1) := by decide +kernel
theorem dX8_day_371 : decode cX8_day 371 = .ok (.dup, 1) := by decide +kernel
theorem dX8_day_372 : decode cX8_day 372 = .ok (.getfield 276, 3) := by decide +kernel
theorem dX8_day_375 : decode cX8_day 375 = .ok (.iload 8, 2) := by decide +kernel
theorem dX8_day_377 : decode cX8_day 377 = .ok (.iload 9, 2) := by decide +kernel
theorem dX8_day_379 : decode cX8_day 379 = .ok (.iadd, 1) := by decide +kernel
theorem dX8_day_380 : decode cX8_day 380 = .ok (.iadd, 1) := by decide +kernel
theorem dX8_day_381 : decode cX8_day 381 = .ok (.putfield 276, 3) := by decide +kernel
theorem dX8_day_384 : decode cX8_day 384 = .ok (.aload_n 0, 1) := by decide +kernel
theorem dX8_day_385 : decode cX8_day 385 = .ok (.getfield 13, 3) := by decide +kernel
theorem dX8_day_388 : decode cX8_day 388 = .ok (.iload 6, 2) := by decide +kernel
theorem dX8_day_390 : decode cX8_day 390 = .ok (.iaload, 1) := by decide +kernel
theorem dX8_day_391 : decode cX8_day 391 = .ok (.ifCond .ne 34, 3) := by decide +kernel
theorem dX8_day_394 : decode cX8_day 394 = .ok (.aload_n 0, 1) := by decide +kernel
theorem dX8_day_395 : decode cX8_day 395 = .ok (.getfield 43, 3) := by decide +kernel
theorem dX8_day_398 : decode cX8_day 398 = .ok (.iload 6, 2) := by decide +kernel
theorem dX8_day_400 : decode cX8_day 400 = .ok (.iaload, 1) := by decide +kernel
theorem dX8_day_401 : decode cX8_day 401 = .ok (.aload_n 0, 1) := by decide +kernel
theorem dX8_day_402 : decode cX8_day 402 = .ok (.getfield 46, 3) := by decide +kernel
theorem dX8_day_405 : decode cX8_day 405 = .ok (.iload 6, 2) := by decide +kernel
theorem dX8_day_407 : decode cX8_day 407 = .ok (.iaload, 1) := by decide +kernel
theorem dX8_day_408 : decode cX8_day 408 = .ok (.iadd, 1) := by decide +kernel
theorem dX8_day_409 : decode cX8_day 409 = .ok (.bipush 20, 2) := by decide +kernel
theorem dX8_day_411 : decode cX8_day 411 = .ok (.if_icmp .lt 14, 3) := by decide +kernel
theorem dX8_day_414 : decode cX8_day 414 = .ok (.aload_n 0, 1) := by decide +kernel
theorem dX8_day_415 : decode cX8_day 415 = .ok (.getfield 49, 3) := by decide +kernel
theorem dX8_day_418 : decode cX8_day 418 = .ok (.iload 6, 2) := by decide +kernel
theorem dX8_day_420 : decode cX8_day 420 = .ok (.dup2, 1) := by decide +kernel
theorem dX8_day_421 : decode cX8_day 421 = .ok (.iaload, 1) := by decide +kernel
theorem dX8_day_422 : decode cX8_day 422 = .ok (.iconst 1, 1) := by decide +kernel
theorem dX8_day_423 : decode cX8_day 423 = .ok (.iadd, 1) := by decide +kernel
theorem dX8_day_424 : decode cX8_day 424 = .ok (.iastore, 1) := by decide +kernel
theorem dX8_day_425 : decode cX8_day 425 = .ok (.iinc 6 1, 3) := by decide +kernel
theorem dX8_day_428 : decode cX8_day 428 = .ok (.goto (-166), 3) := by decide +kernel
theorem dX8_day_431 : decode cX8_day 431 = .ok (.aload_n 0, 1) := by decide +kernel
theorem dX8_day_432 : decode cX8_day 432 = .ok (.getfield 115, 3) := by decide +kernel
theorem dX8_day_435 : decode cX8_day 435 = .ok (.iload_n 1, 1) := by decide +kernel
theorem dX8_day_436 : decode cX8_day 436 = .ok (.ishr, 1) := by decide +kernel
theorem dX8_day_437 : decode cX8_day 437 = .ok (.iconst 1, 1) := by decide +kernel
theorem dX8_day_438 : decode cX8_day 438 = .ok (.iand, 1) := by decide +kernel
theorem dX8_day_439 : decode cX8_day 439 = .ok (.ifCond .ne 4, 3) := by decide +kernel
theorem dX8_day_442 : decode cX8_day 442 = .ok (.return_, 1) := by decide +kernel
theorem dX8_day_443 : decode cX8_day 443 = .ok (.aload_n 0, 1) := by decide +kernel
theorem dX8_day_444 : decode cX8_day 444 = .ok (.dup, 1) := by decide +kernel
theorem dX8_day_445 : decode cX8_day 445 = .ok (.getfield 279, 3) := by decide +kernel
theorem dX8_day_448 : decode cX8_day 448 = .ok (.aload_n 0, 1) := by decide +kernel
theorem dX8_day_449 : decode cX8_day 449 = .ok (.aload_n 0, 1) := by decide +kernel
theorem dX8_day_450 : decode cX8_day 450 = .ok (.getfield 85, 3) := by decide +kernel
theorem dX8_day_453 : decode cX8_day 453 = .ok (.invokevirtual 282, 3) := by decide +kernel
theorem dX8_day_456 : decode cX8_day 456 = .ok (.iadd, 1) := by decide +kernel
theorem dX8_day_457 : decode cX8_day 457 = .ok (.putfield 279, 3) := by decide +kernel
theorem dX8_day_460 : decode cX8_day 460 = .ok (.iconst 0, 1) := by decide +kernel
theorem dX8_day_461 : decode cX8_day 461 = .ok (.istore 6, 2) := by decide +kernel
theorem dX8_day_463 : decode cX8_day 463 = .ok (.iload 6, 2) := by decide +kernel
theorem dX8_day_465 : decode cX8_day 465 = .ok (.bipush 36, 2) := by decide +kernel
theorem dX8_day_467 : decode cX8_day 467 = .ok (.if_icmp .ge 49, 3) := by decide +kernel
theorem dX8_day_470 : decode cX8_day 470 = .ok (.aload_n 0, 1) := by decide +kernel
theorem dX8_day_471 : decode cX8_day 471 = .ok (.dup, 1) := by decide +kernel
theorem dX8_day_472 : decode cX8_day 472 = .ok (.getfield 285, 3) := by decide +kernel
theorem dX8_day_475 : decode cX8_day 475 = .ok (.aload_n 0, 1) := by decide +kernel
theorem dX8_day_476 : decode cX8_day 476 = .ok (.getfield 43, 3) := by decide +kernel
theorem dX8_day_479 : decode cX8_day 479 = .ok (.iload 6, 2) := by decide +kernel
theorem dX8_day_481 : decode cX8_day 481 = .ok (.iaload, 1) := by decide +kernel
theorem dX8_day_482 : decode cX8_day 482 = .ok (.aload_n 0, 1) := by decide +kernel
theorem dX8_day_483 : decode cX8_day 483 = .ok (.getfield 46, 3) := by decide +kernel
theorem dX8_day_486 : decode cX8_day 486 = .ok (.iload 6, 2) := by decide +kernel
theorem dX8_day_488 : decode cX8_day 488 = .ok (.iaload, 1) := by decide +kernel
theorem dX8_day_489 : decode cX8_day 489 = .ok (.iadd, 1) := by decide +kernel
theorem dX8_day_490 : decode cX8_day 490 = .ok (.iadd, 1) := by decide +kernel
theorem dX8_day_491 : decode cX8_day 491 = .ok (.putfield 285, 3) := by decide +kernel
theorem dX8_day_494 : decode cX8_day 494 = .ok (.aload_n 0, 1) := by decide +kernel
theorem dX8_day_495 : decode cX8_day 495 = .ok (.getfield 43, 3) := by decide +kernel
theorem dX8_day_498 : decode cX8_day 498 = .ok (.iload 6, 2) := by decide +kernel
theorem dX8_day_500 : decode cX8_day 500 = .ok (.iconst 0, 1) := by decide +kernel
theorem dX8_day_501 : decode cX8_day 501 = .ok (.iastore, 1) := by decide +kernel
theorem dX8_day_502 : decode cX8_day 502 = .ok (.aload_n 0, 1) := by decide +kernel
theorem dX8_day_503 : decode cX8_day 503 = .ok (.getfield 46, 3) := by decide +kernel
theorem dX8_day_506 : decode cX8_day 506 = .ok (.iload 6, 2) := by decide +kernel
theorem dX8_day_508 : decode cX8_day 508 = .ok (.iconst 0, 1) := by decide +kernel
theorem dX8_day_509 : decode cX8_day 509 = .ok (.iastore, 1) := by decide +kernel
theorem dX8_day_510 : decode cX8_day 510 = .ok (.iinc 6 1, 3) := by decide +kernel
theorem dX8_day_513 : decode cX8_day 513 = .ok (.goto (-50), 3) := by decide +kernel
theorem dX8_day_516 : decode cX8_day 516 = .ok (.return_, 1) := by decide +kernel
theorem dX8_begin_0 : decode cX8_begin 0 = .ok (.iconst 0, 1) := by decide +kernel
theorem dX8_begin_1 : decode cX8_begin 1 = .ok (.istore_n 1, 1) := by decide +kernel
theorem dX8_begin_2 : decode cX8_begin 2 = .ok (.iload_n 1, 1) := by decide +kernel
theorem dX8_begin_3 : decode cX8_begin 3 = .ok (.bipush 36, 2) := by decide +kernel
theorem dX8_begin_5 : decode cX8_begin 5 = .ok (.if_icmp .ge 35, 3) := by decide +kernel
theorem dX8_begin_8 : decode cX8_begin 8 = .ok (.aload_n 0, 1) := by decide +kernel
theorem dX8_begin_9 : decode cX8_begin 9 = .ok (.getfield 43, 3) := by decide +kernel
theorem dX8_begin_12 : decode cX8_begin 12 = .ok (.iload_n 1, 1) := by decide +kernel
theorem dX8_begin_13 : decode cX8_begin 13 = .ok (.aload_n 0, 1) := by decide +kernel
theorem dX8_begin_14 : decode cX8_begin 14 = .ok (.getfield 19, 3) := by decide +kernel
theorem dX8_begin_17 : decode cX8_begin 17 = .ok (.iload_n 1, 1) := by decide +kernel
theorem dX8_begin_18 : decode cX8_begin 18 = .ok (.iaload, 1) := by decide +kernel
theorem dX8_begin_19 : decode cX8_begin 19 = .ok (.iastore, 1) := by decide +kernel
theorem dX8_begin_20 : decode cX8_begin 20 = .ok (.aload_n 0, 1) := by decide +kernel
theorem dX8_begin_21 : decode cX8_begin 21 = .ok (.getfield 46, 3) := by decide +kernel
theorem dX8_begin_24 : decode cX8_begin 24 = .ok (.iload_n 1, 1) := by decide +kernel
theorem dX8_begin_25 : decode cX8_begin 25 = .ok (.iconst 0, 1) := by decide +kernel
theorem dX8_begin_26 : decode cX8_begin 26 = .ok (.iastore, 1) := by decide +kernel
theorem dX8_begin_27 : decode cX8_begin 27 = .ok (.aload_n 0, 1) := by decide +kernel
theorem dX8_begin_28 : decode cX8_begin 28 = .ok (.getfield 49, 3) := by decide +kernel
theorem dX8_begin_31 : decode cX8_begin 31 = .ok (.iload_n 1, 1) := by decide +kernel
theorem dX8_begin_32 : decode cX8_begin 32 = .ok (.iconst 0, 1) := by decide +kernel
theorem dX8_begin_33 : decode cX8_begin 33 = .ok (.iastore, 1) := by decide +kernel
theorem dX8_begin_34 : decode cX8_begin 34 = .ok (.iinc 1 1, 3) := by decide +kernel
theorem dX8_begin_37 : decode cX8_begin 37 = .ok (.goto (-35), 3) := by decide +kernel
theorem dX8_begin_40 : decode cX8_begin 40 = .ok (.iconst 0, 1) := by decide +kernel
theorem dX8_begin_41 : decode cX8_begin 41 = .ok (.istore_n 1, 1) := by decide +kernel
theorem dX8_begin_42 : decode cX8_begin 42 = .ok (.iload_n 1, 1) := by decide +kernel
theorem dX8_begin_43 : decode cX8_begin 43 = .ok (.aload_n 0, 1) := by decide +kernel
theorem dX8_begin_44 : decode cX8_begin 44 = .ok (.getfield 112, 3) := by decide +kernel
theorem dX8_begin_47 : decode cX8_begin 47 = .ok (.if_icmp .ge 21, 3) := by decide +kernel
theorem dX8_begin_50 : decode cX8_begin 50 = .ok (.aload_n 0, 1) := by decide +kernel
theorem dX8_begin_51 : decode cX8_begin 51 = .ok (.getfield 52, 3) := by decide +kernel
theorem dX8_begin_54 : decode cX8_begin 54 = .ok (.iload_n 1, 1) := by decide +kernel
theorem dX8_begin_55 : decode cX8_begin 55 = .ok (.aload_n 0, 1) := by decide +kernel
theorem dX8_begin_56 : decode cX8_begin 56 = .ok (.getfield 28, 3) := by decide +kernel
theorem dX8_begin_59 : decode cX8_begin 59 = .ok (.iload_n 1, 1) := by decide +kernel
theorem dX8_begin_60 : decode cX8_begin 60 = .ok (.iaload, 1) := by decide +kernel
theorem dX8_begin_61 : decode cX8_begin 61 = .ok (.iastore, 1) := by decide +kernel
theorem dX8_begin_62 : decode cX8_begin 62 = .ok (.iinc 1 1, 3) := by decide +kernel
theorem dX8_begin_65 : decode cX8_begin 65 = .ok (.goto (-23), 3) := by decide +kernel
theorem dX8_begin_68 : decode cX8_begin 68 = .ok (.iconst 0, 1) := by decide +kernel
theorem dX8_begin_69 : decode cX8_begin 69 = .ok (.istore_n 1, 1) := by decide +kernel
theorem dX8_begin_70 : decode cX8_begin 70 = .ok (.iload_n 1, 1) := by decide +kernel
theorem dX8_begin_71 : decode cX8_begin 71 = .ok (.iconst 4, 1) := by decide +kernel
theorem dX8_begin_72 : decode cX8_begin 72 = .ok (.if_icmp .ge 16, 3) := by decide +kernel
theorem dX8_begin_75 : decode cX8_begin 75 = .ok (.aload_n 0, 1) := by decide +kernel
theorem dX8_begin_76 : decode cX8_begin 76 = .ok (.getfield 55, 3) := by decide +kernel
theorem dX8_begin_79 : decode cX8_begin 79 = .ok (.iload_n 1, 1) := by decide +kernel
theorem dX8_begin_80 : decode cX8_begin 80 = .ok (.iconst 0, 1) := by decide +kernel
theorem dX8_begin_81 : decode cX8_begin 81 = .ok (.iastore, 1) := by decide +kernel
theorem dX8_begin_82 : decode cX8_begin 82 = .ok (.iinc 1 1, 3) := by decide +kernel
theorem dX8_begin_85 : decode cX8_begin 85 = .ok (.goto (-15), 3) := by decide +kernel
theorem dX8_begin_88 : decode cX8_begin 88 = .ok (.aload_n 0, 1) := by decide +kernel
theorem dX8_begin_89 : decode cX8_begin 89 = .ok (.iconst 0, 1) := by decide +kernel
theorem dX8_begin_90 : decode cX8_begin 90 = .ok (.putfield 269, 3) := by decide +kernel
theorem dX8_begin_93 : decode cX8_begin 93 = .ok (.aload_n 0, 1) := by decide +kernel
theorem dX8_begin_94 : decode cX8_begin 94 = .ok (.iconst 0, 1) := by decide +kernel
theorem dX8_begin_95 : decode cX8_begin 95 = .ok (.putfield 276, 3) := by decide +kernel
theorem dX8_begin_98 : decode cX8_begin 98 = .ok (.aload_n 0, 1) := by decide +kernel
theorem dX8_begin_99 : decode cX8_begin 99 = .ok (.iconst 0, 1) := by decide +kernel
theorem dX8_begin_100 : decode cX8_begin 100 = .ok (.putfield 285, 3) := by decide +kernel
theorem dX8_begin_103 : decode cX8_begin 103 = .ok (.aload_n 0, 1) := by decide +kernel
theorem dX8_begin_104 : decode cX8_begin 104 = .ok (.iconst 0, 1) := by decide +kernel
theorem dX8_begin_105 : decode cX8_begin 105 = .ok (.putfield 279, 3) := by decide +kernel
theorem dX8_begin_108 : decode cX8_begin 108 = .ok (.return_, 1) := by decide +kernel
theorem dX8_go_0 : decode cX8_go 0 = .ok (.aload_n 0, 1) := by decide +kernel
theorem dX8_go_1 : decode cX8_go 1 = .ok (.invokevirtual 288, 3) := by decide +kernel
theorem dX8_go_4 : decode cX8_go 4 = .ok (.iconst 0, 1) := by decide +kernel
theorem dX8_go_5 : decode cX8_go 5 = .ok (.istore_n 2, 1) := by decide +kernel
theorem dX8_go_6 : decode cX8_go 6 = .ok (.iload_n 2, 1) := by decide +kernel
theorem dX8_go_7 : decode cX8_go 7 = .ok (.iload_n 1, 1) := by decide +kernel
theorem dX8_go_8 : decode cX8_go 8 = .ok (.if_icmp .ge 14, 3) := by decide +kernel
theorem dX8_go_11 : decode cX8_go 11 = .ok (.aload_n 0, 1) := by decide +kernel
theorem dX8_go_12 : decode cX8_go 12 = .ok (.iload_n 2, 1) := by decide +kernel
theorem dX8_go_13 : decode cX8_go 13 = .ok (.invokevirtual 291, 3) := by decide +kernel
theorem dX8_go_16 : decode cX8_go 16 = .ok (.iinc 2 1, 3) := by decide +kernel
theorem dX8_go_19 : decode cX8_go 19 = .ok (.goto (-13), 3) := by decide +kernel
theorem dX8_go_22 : decode cX8_go 22 = .ok (.return_, 1) := by decide +kernel
theorem dX8_isDays_0 : decode cX8_isDays 0 = .ok (.iload_n 0, 1) := by decide +kernel
theorem dX8_isDays_1 : decode cX8_isDays 1 = .ok (.iconst 0, 1) := by decide +kernel
theorem dX8_isDays_2 : decode cX8_isDays 2 = .ok (.bipush 14, 2) := by decide +kernel
theorem dX8_isDays_4 : decode cX8_isDays 4 = .ok (.invokestatic 108, 3) := by decide +kernel
theorem dX8_isDays_7 : decode cX8_isDays 7 = .ok (.ireturn, 1) := by decide +kernel
theorem dX8_lie_0 : decode cX8_lie 0 = .ok (.iload_n 1, 1) := by decide +kernel
theorem dX8_lie_1 : decode cX8_lie 1 = .ok (.invokestatic 294, 3) := by decide +kernel
theorem dX8_lie_4 : decode cX8_lie 4 = .ok (.ifCond .eq 10, 3) := by decide +kernel
theorem dX8_lie_7 : decode cX8_lie 7 = .ok (.iload_n 2, 1) := by decide +kernel
theorem dX8_lie_8 : decode cX8_lie 8 = .ok (.invokestatic 223, 3) := by decide +kernel
theorem dX8_lie_11 : decode cX8_lie 11 = .ok (.ifCond .ne 6, 3) := by decide +kernel
theorem dX8_lie_14 : decode cX8_lie 14 = .ok (.bipush (-5), 2) := by decide +kernel
theorem dX8_lie_16 : decode cX8_lie 16 = .ok (.ireturn, 1) := by decide +kernel
theorem dX8_lie_17 : decode cX8_lie 17 = .ok (.iload_n 3, 1) := by decide +kernel
theorem dX8_lie_18 : decode cX8_lie 18 = .ok (.iconst 0, 1) := by decide +kernel
theorem dX8_lie_19 : decode cX8_lie 19 = .ok (.iconst 2, 1) := by decide +kernel
theorem dX8_lie_20 : decode cX8_lie 20 = .ok (.invokestatic 108, 3) := by decide +kernel
theorem dX8_lie_23 : decode cX8_lie 23 = .ok (.ifCond .ne 6, 3) := by decide +kernel
theorem dX8_lie_26 : decode cX8_lie 26 = .ok (.bipush (-7), 2) := by decide +kernel
theorem dX8_lie_28 : decode cX8_lie 28 = .ok (.ireturn, 1) := by decide +kernel
theorem dX8_lie_29 : decode cX8_lie 29 = .ok (.aload_n 0, 1) := by decide +kernel
theorem dX8_lie_30 : decode cX8_lie 30 = .ok (.iload_n 1, 1) := by decide +kernel
theorem dX8_lie_31 : decode cX8_lie 31 = .ok (.invokevirtual 297, 3) := by decide +kernel
theorem dX8_lie_34 : decode cX8_lie 34 = .ok (.iload_n 3, 1) := by decide +kernel
theorem dX8_lie_35 : decode cX8_lie 35 = .ok (.ifCond .ne 12, 3) := by decide +kernel
theorem dX8_lie_38 : decode cX8_lie 38 = .ok (.aload_n 0, 1) := by decide +kernel
theorem dX8_lie_39 : decode cX8_lie 39 = .ok (.getfield 43, 3) := by decide +kernel
theorem dX8_lie_42 : decode cX8_lie 42 = .ok (.iload_n 2, 1) := by decide +kernel
theorem dX8_lie_43 : decode cX8_lie 43 = .ok (.iaload, 1) := by decide +kernel
theorem dX8_lie_44 : decode cX8_lie 44 = .ok (.goto 23, 3) := by decide +kernel
theorem dX8_lie_47 : decode cX8_lie 47 = .ok (.iload_n 3, 1) := by decide +kernel
theorem dX8_lie_48 : decode cX8_lie 48 = .ok (.iconst 1, 1) := by decide +kernel
theorem dX8_lie_49 : decode cX8_lie 49 = .ok (.if_icmp .ne 12, 3) := by decide +kernel
theorem dX8_lie_52 : decode cX8_lie 52 = .ok (.aload_n 0, 1) := by decide +kernel
theorem dX8_lie_53 : decode cX8_lie 53 = .ok (.getfield 46, 3) := by decide +kernel
theorem dX8_lie_56 : decode cX8_lie 56 = .ok (.iload_n 2, 1) := by decide +kernel
theorem dX8_lie_57 : decode cX8_lie 57 = .ok (.iaload, 1) := by decide +kernel
theorem dX8_lie_58 : decode cX8_lie 58 = .ok (.goto 9, 3) := by decide +kernel
theorem dX8_lie_61 : decode cX8_lie 61 = .ok (.aload_n 0, 1) := by decide +kernel
theorem dX8_lie_62 : decode cX8_lie 62 = .ok (.getfield 49, 3) := by decide +kernel
theorem dX8_lie_65 : decode cX8_lie 65 = .ok (.iload_n 2, 1) := by decide +kernel
theorem dX8_lie_66 : decode cX8_lie 66 = .ok (.iaload, 1) := by decide +kernel
theorem dX8_lie_67 : decode cX8_lie 67 = .ok (.ireturn, 1) := by decide +kernel
theorem dX8_lying_0 : decode cX8_lying 0 = .ok (.iconst 0, 1) := by decide +kernel
theorem dX8_lying_1 : decode cX8_lying 1 = .ok (.istore_n 1, 1) := by decide +kernel
theorem dX8_lying_2 : decode cX8_lying 2 = .ok (.iconst 0, 1) := by decide +kernel
theorem dX8_lying_3 : decode cX8_lying 3 = .ok (.istore_n 2, 1) := by decide +kernel
theorem dX8_lying_4 : decode cX8_lying 4 = .ok (.iload_n 2, 1) := by decide +kernel
theorem dX8_lying_5 : decode cX8_lying 5 = .ok (.bipush 36, 2) := by decide +kernel
theorem dX8_lying_7 : decode cX8_lying 7 = .ok (.if_icmp .ge 25, 3) := by decide +kernel
theorem dX8_lying_10 : decode cX8_lying 10 = .ok (.iload_n 1, 1) := by decide +kernel
theorem dX8_lying_11 : decode cX8_lying 11 = .ok (.aload_n 0, 1) := by decide +kernel
theorem dX8_lying_12 : decode cX8_lying 12 = .ok (.getfield 43, 3) := by decide +kernel
theorem dX8_lying_15 : decode cX8_lying 15 = .ok (.iload_n 2, 1) := by decide +kernel
theorem dX8_lying_16 : decode cX8_lying 16 = .ok (.iaload, 1) := by decide +kernel
theorem dX8_lying_17 : decode cX8_lying 17 = .ok (.aload_n 0, 1) := by decide +kernel
theorem dX8_lying_18 : decode cX8_lying 18 = .ok (.getfield 46, 3) := by decide +kernel
theorem dX8_lying_21 : decode cX8_lying 21 = .ok (.iload_n 2, 1) := by decide +kernel
theorem dX8_lying_22 : decode cX8_lying 22 = .ok (.iaload, 1) := by decide +kernel
theorem dX8_lying_23 : decode cX8_lying 23 = .ok (.iadd, 1) := by decide +kernel
theorem dX8_lying_24 : decode cX8_lying 24 = .ok (.iadd, 1) := by decide +kernel
theorem dX8_lying_25 : decode cX8_lying 25 = .ok (.istore_n 1, 1) := by decide +kernel
theorem dX8_lying_26 : decode cX8_lying 26 = .ok (.iinc 2 1, 3) := by decide +kernel
theorem dX8_lying_29 : decode cX8_lying 29 = .ok (.goto (-25), 3) := by decide +kernel
theorem dX8_lying_32 : decode cX8_lying 32 = .ok (.iload_n 1, 1) := by decide +kernel
theorem dX8_lying_33 : decode cX8_lying 33 = .ok (.ireturn, 1) := by decide +kernel
theorem dX8_summed_0 : decode cX8_summed 0 = .ok (.iconst 0, 1) := by decide +kernel
theorem dX8_summed_1 : decode cX8_summed 1 = .ok (.istore_n 2, 1) := by decide +kernel
theorem dX8_summed_2 : decode cX8_summed 2 = .ok (.iload_n 1, 1) := by decide +kernel
theorem dX8_summed_3 : decode cX8_summed 3 = .ok (.tableswitch 80 0 4 #[33, 38, 65, 70, 75], 33) := by decide +kernel
theorem dX8_summed_36 : decode cX8_summed 36 = .ok (.aload_n 0, 1) := by decide +kernel
theorem dX8_summed_37 : decode cX8_summed 37 = .ok (.invokevirtual 300, 3) := by decide +kernel
theorem dX8_summed_40 : decode cX8_summed 40 = .ok (.ireturn, 1) := by decide +kernel
theorem dX8_summed_41 : decode cX8_summed 41 = .ok (.iconst 0, 1) := by decide +kernel
theorem dX8_summed_42 : decode cX8_summed 42 = .ok (.istore_n 3, 1) := by decide +kernel
theorem dX8_summed_43 : decode cX8_summed 43 = .ok (.iload_n 3, 1) := by decide +kernel
theorem dX8_summed_44 : decode cX8_summed 44 = .ok (.aload_n 0, 1) := by decide +kernel
theorem dX8_summed_45 : decode cX8_summed 45 = .ok (.getfield 112, 3) := by decide +kernel
theorem dX8_summed_48 : decode cX8_summed 48 = .ok (.if_icmp .ge 18, 3) := by decide +kernel
theorem dX8_summed_51 : decode cX8_summed 51 = .ok (.iload_n 2, 1) := by decide +kernel
theorem dX8_summed_52 : decode cX8_summed 52 = .ok (.aload_n 0, 1) := by decide +kernel
theorem dX8_summed_53 : decode cX8_summed 53 = .ok (.getfield 52, 3) := by decide +kernel
theorem dX8_summed_56 : decode cX8_summed 56 = .ok (.iload_n 3, 1) := by decide +kernel
theorem dX8_summed_57 : decode cX8_summed 57 = .ok (.iaload, 1) := by decide +kernel
theorem dX8_summed_58 : decode cX8_summed 58 = .ok (.iadd, 1) := by decide +kernel
theorem dX8_summed_59 : decode cX8_summed 59 = .ok (.istore_n 2, 1) := by decide +kernel
theorem dX8_summed_60 : decode cX8_summed 60 = .ok (.iinc 3 1, 3) := by decide +kernel
theorem dX8_summed_63 : decode cX8_summed 63 = .ok (.goto (-20), 3) := by decide +kernel
theorem dX8_summed_66 : decode cX8_summed 66 = .ok (.iload_n 2, 1) := by decide +kernel
theorem dX8_summed_67 : decode cX8_summed 67 = .ok (.ireturn, 1) := by decide +kernel
theorem dX8_summed_68 : decode cX8_summed 68 = .ok (.aload_n 0, 1) := by decide +kernel
theorem dX8_summed_69 : decode cX8_summed 69 = .ok (.getfield 276, 3) := by decide +kernel
theorem dX8_summed_72 : decode cX8_summed 72 = .ok (.ireturn, 1) := by decide +kernel
theorem dX8_summed_73 : decode cX8_summed 73 = .ok (.aload_n 0, 1) := by decide +kernel
theorem dX8_summed_74 : decode cX8_summed 74 = .ok (.getfield 285, 3) := by decide +kernel
theorem dX8_summed_77 : decode cX8_summed 77 = .ok (.ireturn, 1) := by decide +kernel
theorem dX8_summed_78 : decode cX8_summed 78 = .ok (.aload_n 0, 1) := by decide +kernel
theorem dX8_summed_79 : decode cX8_summed 79 = .ok (.getfield 279, 3) := by decide +kernel
theorem dX8_summed_82 : decode cX8_summed 82 = .ok (.ireturn, 1) := by decide +kernel
theorem dX8_summed_83 : decode cX8_summed 83 = .ok (.aload_n 0, 1) := by decide +kernel
theorem dX8_summed_84 : decode cX8_summed 84 = .ok (.getfield 55, 3) := by decide +kernel
theorem dX8_summed_87 : decode cX8_summed 87 = .ok (.iload_n 1, 1) := by decide +kernel
theorem dX8_summed_88 : decode cX8_summed 88 = .ok (.iconst 5, 1) := by decide +kernel
theorem dX8_summed_89 : decode cX8_summed 89 = .ok (.isub, 1) := by decide +kernel
theorem dX8_summed_90 : decode cX8_summed 90 = .ok (.iaload, 1) := by decide +kernel
theorem dX8_summed_91 : decode cX8_summed 91 = .ok (.ireturn, 1) := by decide +kernel
theorem dX8_sum__0 : decode cX8_sum_ 0 = .ok (.iload_n 1, 1) := by decide +kernel
theorem dX8_sum__1 : decode cX8_sum_ 1 = .ok (.invokestatic 294, 3) := by decide +kernel
theorem dX8_sum__4 : decode cX8_sum_ 4 = .ok (.ifCond .ne 6, 3) := by decide +kernel
theorem dX8_sum__7 : decode cX8_sum_ 7 = .ok (.bipush (-5), 2) := by decide +kernel
theorem dX8_sum__9 : decode cX8_sum_ 9 = .ok (.ireturn, 1) := by decide +kernel
theorem dX8_sum__10 : decode cX8_sum_ 10 = .ok (.iload_n 2, 1) := by decide +kernel
theorem dX8_sum__11 : decode cX8_sum_ 11 = .ok (.iconst 0, 1) := by decide +kernel
theorem dX8_sum__12 : decode cX8_sum_ 12 = .ok (.bipush 8, 2) := by decide +kernel
theorem dX8_sum__14 : decode cX8_sum_ 14 = .ok (.invokestatic 108, 3) := by decide +kernel
theorem dX8_sum__17 : decode cX8_sum_ 17 = .ok (.ifCond .ne 6, 3) := by decide +kernel
theorem dX8_sum__20 : decode cX8_sum_ 20 = .ok (.bipush (-7), 2) := by decide +kernel
theorem dX8_sum__22 : decode cX8_sum_ 22 = .ok (.ireturn, 1) := by decide +kernel
theorem dX8_sum__23 : decode cX8_sum_ 23 = .ok (.aload_n 0, 1) := by decide +kernel
theorem dX8_sum__24 : decode cX8_sum_ 24 = .ok (.iload_n 1, 1) := by decide +kernel
theorem dX8_sum__25 : decode cX8_sum_ 25 = .ok (.invokevirtual 297, 3) := by decide +kernel
theorem dX8_sum__28 : decode cX8_sum_ 28 = .ok (.aload_n 0, 1) := by decide +kernel
theorem dX8_sum__29 : decode cX8_sum_ 29 = .ok (.iload_n 2, 1) := by decide +kernel
theorem dX8_sum__30 : decode cX8_sum_ 30 = .ok (.invokevirtual 303, 3) := by decide +kernel
theorem dX8_sum__33 : decode cX8_sum_ 33 = .ok (.ireturn, 1) := by decide +kernel
theorem dX8_hang_0 : decode cX8_hang 0 = .ok (.iload_n 1, 1) := by decide +kernel
theorem dX8_hang_1 : decode cX8_hang 1 = .ok (.invokestatic 294, 3) := by decide +kernel
theorem dX8_hang_4 : decode cX8_hang 4 = .ok (.ifCond .eq 11, 3) := by decide +kernel
theorem dX8_hang_7 : decode cX8_hang 7 = .ok (.aload_n 0, 1) := by decide +kernel
theorem dX8_hang_8 : decode cX8_hang 8 = .ok (.iload_n 2, 1) := by decide +kernel
theorem dX8_hang_9 : decode cX8_hang 9 = .ok (.invokevirtual 230, 3) := by decide +kernel
theorem dX8_hang_12 : decode cX8_hang 12 = .ok (.ifCond .ne 6, 3) := by decide +kernel
theorem dX8_hang_15 : decode cX8_hang 15 = .ok (.bipush (-5), 2) := by decide +kernel
theorem dX8_hang_17 : decode cX8_hang 17 = .ok (.ireturn, 1) := by decide +kernel
theorem dX8_hang_18 : decode cX8_hang 18 = .ok (.aload_n 0, 1) := by decide +kernel
theorem dX8_hang_19 : decode cX8_hang 19 = .ok (.iload_n 1, 1) := by decide +kernel
theorem dX8_hang_20 : decode cX8_hang 20 = .ok (.invokevirtual 297, 3) := by decide +kernel
theorem dX8_hang_23 : decode cX8_hang 23 = .ok (.aload_n 0, 1) := by decide +kernel
theorem dX8_hang_24 : decode cX8_hang 24 = .ok (.getfield 52, 3) := by decide +kernel
theorem dX8_hang_27 : decode cX8_hang 27 = .ok (.iload_n 2, 1) := by decide +kernel
theorem dX8_hang_28 : decode cX8_hang 28 = .ok (.iaload, 1) := by decide +kernel
theorem dX8_hang_29 : decode cX8_hang 29 = .ok (.ireturn, 1) := by decide +kernel
theorem dX8_great_0 : decode cX8_great 0 = .ok (.iload_n 1, 1) := by decide +kernel
theorem dX8_great_1 : decode cX8_great 1 = .ok (.iconst 0, 1) := by decide +kernel
theorem dX8_great_2 : decode cX8_great 2 = .ok (.iconst 1, 1) := by decide +kernel
theorem dX8_great_3 : decode cX8_great 3 = .ok (.invokestatic 108, 3) := by decide +kernel
theorem dX8_great_6 : decode cX8_great 6 = .ok (.ifCond .ne 6, 3) := by decide +kernel
theorem dX8_great_9 : decode cX8_great 9 = .ok (.bipush (-2), 2) := by decide +kernel
theorem dX8_great_11 : decode cX8_great 11 = .ok (.ireturn, 1) := by decide +kernel
theorem dX8_great_12 : decode cX8_great 12 = .ok (.aload_n 0, 1) := by decide +kernel
theorem dX8_great_13 : decode cX8_great 13 = .ok (.invokevirtual 288, 3) := by decide +kernel
theorem dX8_great_16 : decode cX8_great 16 = .ok (.iconst (-1), 1) := by decide +kernel
theorem dX8_great_17 : decode cX8_great 17 = .ok (.istore_n 2, 1) := by decide +kernel
theorem dX8_great_18 : decode cX8_great 18 = .ok (.iconst 0, 1) := by decide +kernel
theorem dX8_great_19 : decode cX8_great 19 = .ok (.istore_n 3, 1) := by decide +kernel
theorem dX8_great_20 : decode cX8_great 20 = .ok (.iconst 0, 1) := by decide +kernel
theorem dX8_great_21 : decode cX8_great 21 = .ok (.istore 4, 2) := by decide +kernel
theorem dX8_great_23 : decode cX8_great 23 = .ok (.iload 4, 2) := by decide +kernel
theorem dX8_great_25 : decode cX8_great 25 = .ok (.bipush 14, 2) := by decide +kernel
theorem dX8_great_27 : decode cX8_great 27 = .ok (.if_icmp .ge 34, 3) := by decide +kernel
theorem dX8_great_30 : decode cX8_great 30 = .ok (.aload_n 0, 1) := by decide +kernel
theorem dX8_great_31 : decode cX8_great 31 = .ok (.iload 4, 2) := by decide +kernel
theorem dX8_great_33 : decode cX8_great 33 = .ok (.invokevirtual 291, 3) := by decide +kernel
theorem dX8_great_36 : decode cX8_great 36 = .ok (.aload_n 0, 1) := by decide +kernel
theorem dX8_great_37 : decode cX8_great 37 = .ok (.getfield 266, 3) := by decide +kernel
theorem dX8_great_40 : decode cX8_great 40 = .ok (.iload_n 3, 1) := by decide +kernel
theorem dX8_great_41 : decode cX8_great 41 = .ok (.if_icmp .gt 6, 3) := by decide +kernel
theorem dX8_great_44 : decode cX8_great 44 = .ok (.goto 11, 3) := by decide +kernel
theorem dX8_great_47 : decode cX8_great 47 = .ok (.aload_n 0, 1) := by decide +kernel
theorem dX8_great_48 : decode cX8_great 48 = .ok (.getfield 266, 3) := by decide +kernel
theorem dX8_great_51 : decode cX8_great 51 = .ok (.istore_n 3, 1) := by decide +kernel
theorem dX8_great_52 : decode cX8_great 52 = .ok (.iload 4, 2) := by decide +kernel
theorem dX8_great_54 : decode cX8_great 54 = .ok (.istore_n 2, 1) := by decide +kernel
theorem dX8_great_55 : decode cX8_great 55 = .ok (.iinc 4 1, 3) := by decide +kernel
theorem dX8_great_58 : decode cX8_great 58 = .ok (.goto (-35), 3) := by decide +kernel
theorem dX8_great_61 : decode cX8_great 61 = .ok (.iload_n 1, 1) := by decide +kernel
theorem dX8_great_62 : decode cX8_great 62 = .ok (.ifCond .ne 7, 3) := by decide +kernel
theorem dX8_great_65 : decode cX8_great 65 = .ok (.iload_n 2, 1) := by decide +kernel
theorem dX8_great_66 : decode cX8_great 66 = .ok (.goto 4, 3) := by decide +kernel
theorem dX8_great_69 : decode cX8_great 69 = .ok (.iload_n 3, 1) := by decide +kernel
theorem dX8_great_70 : decode cX8_great 70 = .ok (.ireturn, 1) := by decide +kernel
theorem dX8_worst_0 : decode cX8_worst 0 = .ok (.iload_n 1, 1) := by decide +kernel
theorem dX8_worst_1 : decode cX8_worst 1 = .ok (.invokestatic 294, 3) := by decide +kernel
theorem dX8_worst_4 : decode cX8_worst 4 = .ok (.ifCond .ne 6, 3) := by decide +kernel
theorem dX8_worst_7 : decode cX8_worst 7 = .ok (.bipush (-5), 2) := by decide +kernel
theorem dX8_worst_9 : decode cX8_worst 9 = .ok (.ireturn, 1) := by decide +kernel
theorem dX8_worst_10 : decode cX8_worst 10 = .ok (.iload_n 2, 1) := by decide +kernel
theorem dX8_worst_11 : decode cX8_worst 11 = .ok (.iconst 0, 1) := by decide +kernel
theorem dX8_worst_12 : decode cX8_worst 12 = .ok (.iconst 1, 1) := by decide +kernel
theorem dX8_worst_13 : decode cX8_worst 13 = .ok (.invokestatic 108, 3) := by decide +kernel
theorem dX8_worst_16 : decode cX8_worst 16 = .ok (.ifCond .ne 6, 3) := by decide +kernel
theorem dX8_worst_19 : decode cX8_worst 19 = .ok (.bipush (-7), 2) := by decide +kernel
theorem dX8_worst_21 : decode cX8_worst 21 = .ok (.ireturn, 1) := by decide +kernel
theorem dX8_worst_22 : decode cX8_worst 22 = .ok (.aload_n 0, 1) := by decide +kernel
theorem dX8_worst_23 : decode cX8_worst 23 = .ok (.iload_n 1, 1) := by decide +kernel
theorem dX8_worst_24 : decode cX8_worst 24 = .ok (.invokevirtual 297, 3) := by decide +kernel
theorem dX8_worst_27 : decode cX8_worst 27 = .ok (.iconst 0, 1) := by decide +kernel
theorem dX8_worst_28 : decode cX8_worst 28 = .ok (.istore_n 3, 1) := by decide +kernel
theorem dX8_worst_29 : decode cX8_worst 29 = .ok (.iconst 1, 1) := by decide +kernel
theorem dX8_worst_30 : decode cX8_worst 30 = .ok (.istore 4, 2) := by decide +kernel
theorem dX8_worst_32 : decode cX8_worst 32 = .ok (.iload 4, 2) := by decide +kernel
theorem dX8_worst_34 : decode cX8_worst 34 = .ok (.bipush 36, 2) := by decide +kernel
theorem dX8_worst_36 : decode cX8_worst 36 = .ok (.if_icmp .ge 28, 3) := by decide +kernel
theorem dX8_worst_39 : decode cX8_worst 39 = .ok (.aload_n 0, 1) := by decide +kernel
theorem dX8_worst_40 : decode cX8_worst 40 = .ok (.getfield 49, 3) := by decide +kernel
theorem dX8_worst_43 : decode cX8_worst 43 = .ok (.iload 4, 2) := by decide +kernel
theorem dX8_worst_45 : decode cX8_worst 45 = .ok (.iaload, 1) := by decide +kernel
theorem dX8_worst_46 : decode cX8_worst 46 = .ok (.aload_n 0, 1) := by decide +kernel
theorem dX8_worst_47 : decode cX8_worst 47 = .ok (.getfield 49, 3) := by decide +kernel
theorem dX8_worst_50 : decode cX8_worst 50 = .ok (.iload_n 3, 1) := by decide +kernel
theorem dX8_worst_51 : decode cX8_worst 51 = .ok (.iaload, 1) := by decide +kernel
theorem dX8_worst_52 : decode cX8_worst 52 = .ok (.if_icmp .le 6, 3) := by decide +kernel
theorem dX8_worst_55 : decode cX8_worst 55 = .ok (.iload 4, 2) := by decide +kernel
theorem dX8_worst_57 : decode cX8_worst 57 = .ok (.istore_n 3, 1) := by decide +kernel
theorem dX8_worst_58 : decode cX8_worst 58 = .ok (.iinc 4 1, 3) := by decide +kernel
theorem dX8_worst_61 : decode cX8_worst 61 = .ok (.goto (-29), 3) := by decide +kernel
theorem dX8_worst_64 : decode cX8_worst 64 = .ok (.iload_n 2, 1) := by decide +kernel
theorem dX8_worst_65 : decode cX8_worst 65 = .ok (.ifCond .ne 7, 3) := by decide +kernel
theorem dX8_worst_68 : decode cX8_worst 68 = .ok (.iload_n 3, 1) := by decide +kernel
theorem dX8_worst_69 : decode cX8_worst 69 = .ok (.goto 9, 3) := by decide +kernel
theorem dX8_worst_72 : decode cX8_worst 72 = .ok (.aload_n 0, 1) := by decide +kernel
theorem dX8_worst_73 : decode cX8_worst 73 = .ok (.getfield 49, 3) := by decide +kernel
theorem dX8_worst_76 : decode cX8_worst 76 = .ok (.iload_n 3, 1) := by decide +kernel
theorem dX8_worst_77 : decode cX8_worst 77 = .ok (.iaload, 1) := by decide +kernel
theorem dX8_worst_78 : decode cX8_worst 78 = .ok (.ireturn, 1) := by decide +kernel
theorem dX8_corner_0 : decode cX8_corner 0 = .ok (.iload_n 1, 1) := by decide +kernel
theorem dX8_corner_1 : decode cX8_corner 1 = .ok (.invokestatic 294, 3) := by decide +kernel
theorem dX8_corner_4 : decode cX8_corner 4 = .ok (.ifCond .ne 6, 3) := by decide +kernel
theorem dX8_corner_7 : decode cX8_corner 7 = .ok (.bipush (-5), 2) := by decide +kernel
theorem dX8_corner_9 : decode cX8_corner 9 = .ok (.ireturn, 1) := by decide +kernel
theorem dX8_corner_10 : decode cX8_corner 10 = .ok (.iload_n 2, 1) := by decide +kernel
theorem dX8_corner_11 : decode cX8_corner 11 = .ok (.iconst 0, 1) := by decide +kernel
theorem dX8_corner_12 : decode cX8_corner 12 = .ok (.iconst 1, 1) := by decide +kernel
theorem dX8_corner_13 : decode cX8_corner 13 = .ok (.invokestatic 108, 3) := by decide +kernel
theorem dX8_corner_16 : decode cX8_corner 16 = .ok (.ifCond .ne 6, 3) := by decide +kernel
theorem dX8_corner_19 : decode cX8_corner 19 = .ok (.bipush (-7), 2) := by decide +kernel
theorem dX8_corner_21 : decode cX8_corner 21 = .ok (.ireturn, 1) := by decide +kernel
theorem dX8_corner_22 : decode cX8_corner 22 = .ok (.aload_n 0, 1) := by decide +kernel
theorem dX8_corner_23 : decode cX8_corner 23 = .ok (.iload_n 1, 1) := by decide +kernel
theorem dX8_corner_24 : decode cX8_corner 24 = .ok (.invokevirtual 297, 3) := by decide +kernel
theorem dX8_corner_27 : decode cX8_corner 27 = .ok (.iconst 0, 1) := by decide +kernel
theorem dX8_corner_28 : decode cX8_corner 28 = .ok (.istore_n 3, 1) := by decide +kernel
theorem dX8_corner_29 : decode cX8_corner 29 = .ok (.iconst 1, 1) := by decide +kernel
theorem dX8_corner_30 : decode cX8_corner 30 = .ok (.istore 4, 2) := by decide +kernel
theorem dX8_corner_32 : decode cX8_corner 32 = .ok (.iload 4, 2) := by decide +kernel
theorem dX8_corner_34 : decode cX8_corner 34 = .ok (.bipush 36, 2) := by decide +kernel
theorem dX8_corner_36 : decode cX8_corner 36 = .ok (.if_icmp .ge 43, 3) := by decide +kernel
theorem dX8_corner_39 : decode cX8_corner 39 = .ok (.aload_n 0, 1) := by decide +kernel
theorem dX8_corner_40 : decode cX8_corner 40 = .ok (.getfield 43, 3) := by decide +kernel
theorem dX8_corner_43 : decode cX8_corner 43 = .ok (.iload 4, 2) := by decide +kernel
theorem dX8_corner_45 : decode cX8_corner 45 = .ok (.iaload, 1) := by decide +kernel
theorem dX8_corner_46 : decode cX8_corner 46 = .ok (.aload_n 0, 1) := by decide +kernel
theorem dX8_corner_47 : decode cX8_corner 47 = .ok (.getfield 46, 3) := by decide +kernel
theorem dX8_corner_50 : decode cX8_corner 50 = .ok (.iload 4, 2) := by decide +kernel
theorem dX8_corner_52 : decode cX8_corner 52 = .ok (.iaload, 1) := by decide +kernel
theorem dX8_corner_53 : decode cX8_corner 53 = .ok (.iadd, 1) := by decide +kernel
theorem dX8_corner_54 : decode cX8_corner 54 = .ok (.aload_n 0, 1) := by decide +kernel
theorem dX8_corner_55 : decode cX8_corner 55 = .ok (.getfield 43, 3) := by decide +kernel
theorem dX8_corner_58 : decode cX8_corner 58 = .ok (.iload_n 3, 1) := by decide +kernel
theorem dX8_corner_59 : decode cX8_corner 59 = .ok (.iaload, 1) := by decide +kernel
theorem dX8_corner_60 : decode cX8_corner 60 = .ok (.aload_n 0, 1) := by decide +kernel
theorem dX8_corner_61 : decode cX8_corner 61 = .ok (.getfield 46, 3) := by decide +kernel
theorem dX8_corner_64 : decode cX8_corner 64 = .ok (.iload_n 3, 1) := by decide +kernel
theorem dX8_corner_65 : decode cX8_corner 65 = .ok (.iaload, 1) := by decide +kernel
theorem dX8_corner_66 : decode cX8_corner 66 = .ok (.iadd, 1) := by decide +kernel
theorem dX8_corner_67 : decode cX8_corner 67 = .ok (.if_icmp .le 6, 3) := by decide +kernel
theorem dX8_corner_70 : decode cX8_corner 70 = .ok (.iload 4, 2) := by decide +kernel
theorem dX8_corner_72 : decode cX8_corner 72 = .ok (.istore_n 3, 1) := by decide +kernel
theorem dX8_corner_73 : decode cX8_corner 73 = .ok (.iinc 4 1, 3) := by decide +kernel
theorem dX8_corner_76 : decode cX8_corner 76 = .ok (.goto (-44), 3) := by decide +kernel
theorem dX8_corner_79 : decode cX8_corner 79 = .ok (.iload_n 2, 1) := by decide +kernel
theorem dX8_corner_80 : decode cX8_corner 80 = .ok (.ifCond .ne 7, 3) := by decide +kernel
theorem dX8_corner_83 : decode cX8_corner 83 = .ok (.iload_n 3, 1) := by decide +kernel
theorem dX8_corner_84 : decode cX8_corner 84 = .ok (.goto 16, 3) := by decide +kernel
theorem dX8_corner_87 : decode cX8_corner 87 = .ok (.aload_n 0, 1) := by decide +kernel
theorem dX8_corner_88 : decode cX8_corner 88 = .ok (.getfield 43, 3) := by decide +kernel
theorem dX8_corner_91 : decode cX8_corner 91 = .ok (.iload_n 3, 1) := by decide +kernel
theorem dX8_corner_92 : decode cX8_corner 92 = .ok (.iaload, 1) := by decide +kernel
theorem dX8_corner_93 : decode cX8_corner 93 = .ok (.aload_n 0, 1) := by decide +kernel
theorem dX8_corner_94 : decode cX8_corner 94 = .ok (.getfield 46, 3) := by decide +kernel
theorem dX8_corner_97 : decode cX8_corner 97 = .ok (.iload_n 3, 1) := by decide +kernel
theorem dX8_corner_98 : decode cX8_corner 98 = .ok (.iaload, 1) := by decide +kernel
theorem dX8_corner_99 : decode cX8_corner 99 = .ok (.iadd, 1) := by decide +kernel
theorem dX8_corner_100 : decode cX8_corner 100 = .ok (.ireturn, 1) := by decide +kernel
theorem dX8_least_0 : decode cX8_least 0 = .ok (.iload_n 1, 1) := by decide +kernel
theorem dX8_least_1 : decode cX8_least 1 = .ok (.iconst 0, 1) := by decide +kernel
theorem dX8_least_2 : decode cX8_least 2 = .ok (.bipush 14, 2) := by decide +kernel
theorem dX8_least_4 : decode cX8_least 4 = .ok (.invokestatic 108, 3) := by decide +kernel
theorem dX8_least_7 : decode cX8_least 7 = .ok (.ifCond .eq 12, 3) := by decide +kernel
theorem dX8_least_10 : decode cX8_least 10 = .ok (.iload_n 2, 1) := by decide +kernel
theorem dX8_least_11 : decode cX8_least 11 = .ok (.iconst 0, 1) := by decide +kernel
theorem dX8_least_12 : decode cX8_least 12 = .ok (.iconst 1, 1) := by decide +kernel
theorem dX8_least_13 : decode cX8_least 13 = .ok (.invokestatic 108, 3) := by decide +kernel
theorem dX8_least_16 : decode cX8_least 16 = .ok (.ifCond .ne 6, 3) := by decide +kernel
theorem dX8_least_19 : decode cX8_least 19 = .ok (.bipush (-2), 2) := by decide +kernel
theorem dX8_least_21 : decode cX8_least 21 = .ok (.ireturn, 1) := by decide +kernel
theorem dX8_least_22 : decode cX8_least 22 = .ok (.aload_n 0, 1) := by decide +kernel
theorem dX8_least_23 : decode cX8_least 23 = .ok (.getfield 115, 3) := by decide +kernel
theorem dX8_least_26 : decode cX8_least 26 = .ok (.istore_n 3, 1) := by decide +kernel
theorem dX8_least_27 : decode cX8_least 27 = .ok (.iconst (-1), 1) := by decide +kernel
theorem dX8_least_28 : decode cX8_least 28 = .ok (.istore 4, 2) := by decide +kernel
theorem dX8_least_30 : decode cX8_least 30 = .ok (.iconst (-1), 1) := by decide +kernel
theorem dX8_least_31 : decode cX8_least 31 = .ok (.istore 5, 2) := by decide +kernel
theorem dX8_least_33 : decode cX8_least 33 = .ok (.iconst 0, 1) := by decide +kernel
theorem dX8_least_34 : decode cX8_least 34 = .ok (.istore 6, 2) := by decide +kernel
theorem dX8_least_36 : decode cX8_least 36 = .ok (.iload 6, 2) := by decide +kernel
theorem dX8_least_38 : decode cX8_least 38 = .ok (.bipush 16, 2) := by decide +kernel
theorem dX8_least_40 : decode cX8_least 40 = .ok (.if_icmp .ge 122, 3) := by decide +kernel
theorem dX8_least_43 : decode cX8_least 43 = .ok (.aload_n 0, 1) := by decide +kernel
theorem dX8_least_44 : decode cX8_least 44 = .ok (.iload 6, 2) := by decide +kernel
theorem dX8_least_46 : decode cX8_least 46 = .ok (.iconst 1, 1) := by decide +kernel
theorem dX8_least_47 : decode cX8_least 47 = .ok (.iand, 1) := by decide +kernel
theorem dX8_least_48 : decode cX8_least 48 = .ok (.iconst 3, 1) := by decide +kernel
theorem dX8_least_49 : decode cX8_least 49 = .ok (.ishl, 1) := by decide +kernel
theorem dX8_least_50 : decode cX8_least 50 = .ok (.iload 6, 2) := by decide +kernel
theorem dX8_least_52 : decode cX8_least 52 = .ok (.iconst 1, 1) := by decide +kernel
theorem dX8_least_53 : decode cX8_least 53 = .ok (.ishr, 1) := by decide +kernel
theorem dX8_least_54 : decode cX8_least 54 = .ok (.iconst 1, 1) := by decide +kernel
theorem dX8_least_55 : decode cX8_least 55 = .ok (.iand, 1) := by decide +kernel
theorem dX8_least_56 : decode cX8_least 56 = .ok (.bipush 6, 2) := by decide +kernel
theorem dX8_least_58 : decode cX8_least 58 = .ok (.ishl, 1) := by decide +kernel
theorem dX8_least_59 : decode cX8_least 59 = .ok (.ior, 1) := by decide +kernel
theorem dX8_least_60 : decode cX8_least 60 = .ok (.iload 6, 2) := by decide +kernel
theorem dX8_least_62 : decode cX8_least 62 = .ok (.iconst 2, 1) := by decide +kernel
theorem dX8_least_63 : decode cX8_least 63 = .ok (.ishr, 1) := by decide +kernel
theorem dX8_least_64 : decode cX8_least 64 = .ok (.iconst 1, 1) := by decide +kernel
theorem dX8_least_65 : decode cX8_least 65 = .ok (.iand, 1) := by decide +kernel
theorem dX8_least_66 : decode cX8_least 66 = .ok (.bipush 10, 2) := by decide +kernel
theorem dX8_least_68 : decode cX8_least 68 = .ok (.ishl, 1) := by decide +kernel
theorem dX8_least_69 : decode cX8_least 69 = .ok (.ior, 1) := by decide +kernel
theorem dX8_least_70 : decode cX8_least 70 = .ok (.iload 6, 2) := by decide +kernel
theorem dX8_least_72 : decode cX8_least 72 = .ok (.iconst 3, 1) := by decide +kernel
theorem dX8_least_73 : decode cX8_least 73 = .ok (.ishr, 1) := by decide +kernel
theorem dX8_least_74 : decode cX8_least 74 = .ok (.iconst 1, 1) := by decide +kernel
theorem dX8_least_75 : decode cX8_least 75 = .ok (.iand, 1) := by decide +kernel
theorem dX8_least_76 : decode cX8_least 76 = .ok (.bipush 13, 2) := by decide +kernel
theorem dX8_least_78 : decode cX8_least 78 = .ok (.ishl, 1) := by decide +kernel
theorem dX8_least_79 : decode cX8_least 79 = .ok (.ior, 1) := by decide +kernel
theorem dX8_least_80 : decode cX8_least 80 = .ok (.putfield 115, 3) := by decide +kernel
theorem dX8_least_83 : decode cX8_least 83 = .ok (.aload_n 0, 1) := by decide +kernel
theorem dX8_least_84 : decode cX8_least 84 = .ok (.bipush 14, 2) := by decide +kernel
theorem dX8_least_86 : decode cX8_least 86 = .ok (.invokevirtual 297, 3) := by decide +kernel
theorem dX8_least_89 : decode cX8_least 89 = .ok (.iconst 1, 1) := by decide +kernel
theorem dX8_least_90 : decode cX8_least 90 = .ok (.istore 7, 2) := by decide +kernel
theorem dX8_least_92 : decode cX8_least 92 = .ok (.iconst 0, 1) := by decide +kernel
theorem dX8_least_93 : decode cX8_least 93 = .ok (.istore 8, 2) := by decide +kernel
theorem dX8_least_95 : decode cX8_least 95 = .ok (.iload 8, 2) := by decide +kernel
theorem dX8_least_97 : decode cX8_least 97 = .ok (.bipush 36, 2) := by decide +kernel
theorem dX8_least_99 : decode cX8_least 99 = .ok (.if_icmp .ge 23, 3) := by decide +kernel
theorem dX8_least_102 : decode cX8_least 102 = .ok (.aload_n 0, 1) := by decide +kernel
theorem dX8_least_103 : decode cX8_least 103 = .ok (.getfield 49, 3) := by decide +kernel
theorem dX8_least_106 : decode cX8_least 106 = .ok (.iload 8, 2) := by decide +kernel
theorem dX8_least_108 : decode cX8_least 108 = .ok (.iaload, 1) := by decide +kernel
theorem dX8_least_109 : decode cX8_least 109 = .ok (.iload_n 1, 1) := by decide +kernel
theorem dX8_least_110 : decode cX8_least 110 = .ok (.if_icmp .le 6, 3) := by decide +kernel
theorem dX8_least_113 : decode cX8_least 113 = .ok (.iconst 0, 1) := by decide +kernel
theorem dX8_least_114 : decode cX8_least 114 = .ok (.istore 7, 2) := by decide +kernel
theorem dX8_least_116 : decode cX8_least 116 = .ok (.iinc 8 1, 3) := by decide +kernel
theorem dX8_least_119 : decode cX8_least 119 = .ok (.goto (-24), 3) := by decide +kernel
theorem dX8_least_122 : decode cX8_least 122 = .ok (.iload 7, 2) := by decide +kernel
theorem dX8_least_124 : decode cX8_least 124 = .ok (.ifCond .eq 32, 3) := by decide +kernel
theorem dX8_least_127 : decode cX8_least 127 = .ok (.iload 4, 2) := by decide +kernel
theorem dX8_least_129 : decode cX8_least 129 = .ok (.ifCond .lt 15, 3) := by decide +kernel
theorem dX8_least_132 : decode cX8_least 132 = .ok (.aload_n 0, 1) := by decide +kernel
theorem dX8_least_133 : decode cX8_least 133 = .ok (.getfield 279, 3) := by decide +kernel
theorem dX8_least_136 : decode cX8_least 136 = .ok (.iload 5, 2) := by decide +kernel
theorem dX8_least_138 : decode cX8_least 138 = .ok (.if_icmp .lt 6, 3) := by decide +kernel
theorem dX8_least_141 : decode cX8_least 141 = .ok (.goto 15, 3) := by decide +kernel
theorem dX8_least_144 : decode cX8_least 144 = .ok (.aload_n 0, 1) := by decide +kernel
theorem dX8_least_145 : decode cX8_least 145 = .ok (.getfield 115, 3) := by decide +kernel
theorem dX8_least_148 : decode cX8_least 148 = .ok (.istore 4, 2) := by decide +kernel
theorem dX8_least_150 : decode cX8_least 150 = .ok (.aload_n 0, 1) := by decide +kernel
theorem dX8_least_151 : decode cX8_least 151 = .ok (.getfield 279, 3) := by decide +kernel
theorem dX8_least_154 : decode cX8_least 154 = .ok (.istore 5, 2) := by decide +kernel
theorem dX8_least_156 : decode cX8_least 156 = .ok (.iinc 6 1, 3) := by decide +kernel
theorem dX8_least_159 : decode cX8_least 159 = .ok (.goto (-123), 3) := by decide +kernel
theorem dX8_least_162 : decode cX8_least 162 = .ok (.aload_n 0, 1) := by decide +kernel
theorem dX8_least_163 : decode cX8_least 163 = .ok (.iload_n 3, 1) := by decide +kernel
theorem dX8_least_164 : decode cX8_least 164 = .ok (.putfield 115, 3) := by decide +kernel
theorem dX8_least_167 : decode cX8_least 167 = .ok (.iload_n 2, 1) := by decide +kernel
theorem dX8_least_168 : decode cX8_least 168 = .ok (.ifCond .ne 8, 3) := by decide +kernel
theorem dX8_least_171 : decode cX8_least 171 = .ok (.iload 4, 2) := by decide +kernel
theorem dX8_least_173 : decode cX8_least 173 = .ok (.goto 5, 3) := by decide +kernel
theorem dX8_least_176 : decode cX8_least 176 = .ok (.iload 5, 2) := by decide +kernel
theorem dX8_least_178 : decode cX8_least 178 = .ok (.ireturn, 1) := by decide +kernel
theorem dX8_costOf_0 : decode cX8_costOf 0 = .ok (.aload_n 0, 1) := by decide +kernel
theorem dX8_costOf_1 : decode cX8_costOf 1 = .ok (.getfield 115, 3) := by decide +kernel
theorem dX8_costOf_4 : decode cX8_costOf 4 = .ok (.istore_n 2, 1) := by decide +kernel
theorem dX8_costOf_5 : decode cX8_costOf 5 = .ok (.aload_n 0, 1) := by decide +kernel
theorem dX8_costOf_6 : decode cX8_costOf 6 = .ok (.iload_n 1, 1) := by decide +kernel
theorem dX8_costOf_7 : decode cX8_costOf 7 = .ok (.putfield 115, 3) := by decide +kernel
theorem dX8_costOf_10 : decode cX8_costOf 10 = .ok (.aload_n 0, 1) := by decide +kernel
theorem dX8_costOf_11 : decode cX8_costOf 11 = .ok (.bipush 14, 2) := by decide +kernel
theorem dX8_costOf_13 : decode cX8_costOf 13 = .ok (.invokevirtual 297, 3) := by decide +kernel
theorem dX8_costOf_16 : decode cX8_costOf 16 = .ok (.aload_n 0, 1) := by decide +kernel
theorem dX8_costOf_17 : decode cX8_costOf 17 = .ok (.iload_n 2, 1) := by decide +kernel
theorem dX8_costOf_18 : decode cX8_costOf 18 = .ok (.putfield 115, 3) := by decide +kernel
theorem dX8_costOf_21 : decode cX8_costOf 21 = .ok (.aload_n 0, 1) := by decide +kernel
theorem dX8_costOf_22 : decode cX8_costOf 22 = .ok (.getfield 279, 3) := by decide +kernel
theorem dX8_costOf_25 : decode cX8_costOf 25 = .ok (.ireturn, 1) := by decide +kernel
theorem dX8_thrice_0 : decode cX8_thrice 0 = .ok (.aload_n 0, 1) := by decide +kernel
theorem dX8_thrice_1 : decode cX8_thrice 1 = .ok (.sipush 8720, 3) := by decide +kernel
theorem dX8_thrice_4 : decode cX8_thrice 4 = .ok (.invokevirtual 306, 3) := by decide +kernel
theorem dX8_thrice_7 : decode cX8_thrice 7 = .ok (.aload_n 0, 1) := by decide +kernel
theorem dX8_thrice_8 : decode cX8_thrice 8 = .ok (.sipush 8192, 3) := by decide +kernel
theorem dX8_thrice_11 : decode cX8_thrice 11 = .ok (.invokevirtual 306, 3) := by decide +kernel
theorem dX8_thrice_14 : decode cX8_thrice 14 = .ok (.isub, 1) := by decide +kernel
theorem dX8_thrice_15 : decode cX8_thrice 15 = .ok (.ireturn, 1) := by decide +kernel
theorem dX8_where_0 : decode cX8_where 0 = .ok (.iload_n 1, 1) := by decide +kernel
theorem dX8_where_1 : decode cX8_where 1 = .ok (.invokestatic 294, 3) := by decide +kernel
theorem dX8_where_4 : decode cX8_where 4 = .ok (.ifCond .ne 6, 3) := by decide +kernel
theorem dX8_where_7 : decode cX8_where 7 = .ok (.bipush (-5), 2) := by decide +kernel
theorem dX8_where_9 : decode cX8_where 9 = .ok (.ireturn, 1) := by decide +kernel
theorem dX8_where_10 : decode cX8_where 10 = .ok (.iload_n 2, 1) := by decide +kernel
theorem dX8_where_11 : decode cX8_where 11 = .ok (.iconst 0, 1) := by decide +kernel
theorem dX8_where_12 : decode cX8_where 12 = .ok (.iconst 3, 1) := by decide +kernel
theorem dX8_where_13 : decode cX8_where 13 = .ok (.invokestatic 108, 3) := by decide +kernel
theorem dX8_where_16 : decode cX8_where 16 = .ok (.ifCond .ne 6, 3) := by decide +kernel
theorem dX8_where_19 : decode cX8_where 19 = .ok (.bipush (-7), 2) := by decide +kernel
theorem dX8_where_21 : decode cX8_where 21 = .ok (.ireturn, 1) := by decide +kernel
theorem dX8_where_22 : decode cX8_where 22 = .ok (.aload_n 0, 1) := by decide +kernel
theorem dX8_where_23 : decode cX8_where 23 = .ok (.iload_n 1, 1) := by decide +kernel
theorem dX8_where_24 : decode cX8_where 24 = .ok (.invokevirtual 297, 3) := by decide +kernel
theorem dX8_where_27 : decode cX8_where 27 = .ok (.iconst (-1), 1) := by decide +kernel
theorem dX8_where_28 : decode cX8_where 28 = .ok (.istore_n 3, 1) := by decide +kernel
theorem dX8_where_29 : decode cX8_where 29 = .ok (.iconst 0, 1) := by decide +kernel
theorem dX8_where_30 : decode cX8_where 30 = .ok (.istore 4, 2) := by decide +kernel
theorem dX8_where_32 : decode cX8_where 32 = .ok (.iconst 0, 1) := by decide +kernel
theorem dX8_where_33 : decode cX8_where 33 = .ok (.istore 5, 2) := by decide +kernel
theorem dX8_where_35 : decode cX8_where 35 = .ok (.iload 5, 2) := by decide +kernel
theorem dX8_where_37 : decode cX8_where 37 = .ok (.bipush 36, 2) := by decide +kernel
theorem dX8_where_39 : decode cX8_where 39 = .ok (.if_icmp .ge 105, 3) := by decide +kernel
theorem dX8_where_42 : decode cX8_where 42 = .ok (.iload_n 2, 1) := by decide +kernel
theorem dX8_where_43 : decode cX8_where 43 = .ok (.iconst 2, 1) := by decide +kernel
theorem dX8_where_44 : decode cX8_where 44 = .ok (.if_icmp .ge 8, 3) := by decide +kernel
theorem dX8_where_47 : decode cX8_where 47 = .ok (.iload 5, 2) := by decide +kernel
theorem dX8_where_49 : decode cX8_where 49 = .ok (.goto 7, 3) := by decide +kernel
theorem dX8_where_52 : decode cX8_where 52 = .ok (.iload 5, 2) := by decide +kernel
theorem dX8_where_54 : decode cX8_where 54 = .ok (.iconst 1, 1) := by decide +kernel
theorem dX8_where_55 : decode cX8_where 55 = .ok (.iadd, 1) := by decide +kernel
theorem dX8_where_56 : decode cX8_where 56 = .ok (.istore 6, 2) := by decide +kernel
theorem dX8_where_58 : decode cX8_where 58 = .ok (.iload 6, 2) := by decide +kernel
theorem dX8_where_60 : decode cX8_where 60 = .ok (.bipush 36, 2) := by decide +kernel
theorem dX8_where_62 : decode cX8_where 62 = .ok (.if_icmp .ge 76, 3) := by decide +kernel
theorem dX8_where_65 : decode cX8_where 65 = .ok (.iload_n 2, 1) := by decide +kernel
theorem dX8_where_66 : decode cX8_where 66 = .ok (.iconst 2, 1) := by decide +kernel
theorem dX8_where_67 : decode cX8_where 67 = .ok (.if_icmp .ge 13, 3) := by decide +kernel
theorem dX8_where_70 : decode cX8_where 70 = .ok (.iload 6, 2) := by decide +kernel
theorem dX8_where_72 : decode cX8_where 72 = .ok (.iload 5, 2) := by decide +kernel
theorem dX8_where_74 : decode cX8_where 74 = .ok (.if_icmp .le 6, 3) := by decide +kernel
theorem dX8_where_77 : decode cX8_where 77 = .ok (.goto 61, 3) := by decide +kernel
theorem dX8_where_80 : decode cX8_where 80 = .ok (.aload_n 0, 1) := by decide +kernel
theorem dX8_where_81 : decode cX8_where 81 = .ok (.lconst 1, 1) := by decide +kernel
theorem dX8_where_82 : decode cX8_where 82 = .ok (.iload 5, 2) := by decide +kernel
theorem dX8_where_84 : decode cX8_where 84 = .ok (.lshl, 1) := by decide +kernel
theorem dX8_where_85 : decode cX8_where 85 = .ok (.lconst 1, 1) := by decide +kernel
theorem dX8_where_86 : decode cX8_where 86 = .ok (.iload 6, 2) := by decide +kernel
theorem dX8_where_88 : decode cX8_where 88 = .ok (.lshl, 1) := by decide +kernel
theorem dX8_where_89 : decode cX8_where 89 = .ok (.lor, 1) := by decide +kernel
theorem dX8_where_90 : decode cX8_where 90 = .ok (.invokevirtual 282, 3) := by decide +kernel
theorem dX8_where_93 : decode cX8_where 93 = .ok (.istore 7, 2) := by decide +kernel
theorem dX8_where_95 : decode cX8_where 95 = .ok (.iload_n 3, 1) := by decide +kernel
theorem dX8_where_96 : decode cX8_where 96 = .ok (.ifCond .lt 13, 3) := by decide +kernel
theorem dX8_where_99 : decode cX8_where 99 = .ok (.iload 7, 2) := by decide +kernel
theorem dX8_where_101 : decode cX8_where 101 = .ok (.iload 4, 2) := by decide +kernel
theorem dX8_where_103 : decode cX8_where 103 = .ok (.if_icmp .lt 6, 3) := by decide +kernel
theorem dX8_where_106 : decode cX8_where 106 = .ok (.goto 26, 3) := by decide +kernel
theorem dX8_where_109 : decode cX8_where 109 = .ok (.iload_n 2, 1) := by decide +kernel
theorem dX8_where_110 : decode cX8_where 110 = .ok (.iconst 2, 1) := by decide +kernel
theorem dX8_where_111 : decode cX8_where 111 = .ok (.if_icmp .ge 8, 3) := by decide +kernel
theorem dX8_where_114 : decode cX8_where 114 = .ok (.iload 5, 2) := by decide +kernel
theorem dX8_where_116 : decode cX8_where 116 = .ok (.goto 11, 3) := by decide +kernel
theorem dX8_where_119 : decode cX8_where 119 = .ok (.bipush 100, 2) := by decide +kernel
theorem dX8_where_121 : decode cX8_where 121 = .ok (.iload 5, 2) := by decide +kernel
theorem dX8_where_123 : decode cX8_where 123 = .ok (.imul, 1) := by decide +kernel
theorem dX8_where_124 : decode cX8_where 124 = .ok (.iload 6, 2) := by decide +kernel
theorem dX8_where_126 : decode cX8_where 126 = .ok (.iadd, 1) := by decide +kernel
theorem dX8_where_127 : decode cX8_where 127 = .ok (.istore_n 3, 1) := by decide +kernel
theorem dX8_where_128 : decode cX8_where 128 = .ok (.iload 7, 2) := by decide +kernel
theorem dX8_where_130 : decode cX8_where 130 = .ok (.istore 4, 2) := by decide +kernel
theorem dX8_where_132 : decode cX8_where 132 = .ok (.iinc 6 1, 3) := by decide +kernel
theorem dX8_where_135 : decode cX8_where 135 = .ok (.goto (-77), 3) := by decide +kernel
theorem dX8_where_138 : decode cX8_where 138 = .ok (.iinc 5 1, 3) := by decide +kernel
theorem dX8_where_141 : decode cX8_where 141 = .ok (.goto (-106), 3) := by decide +kernel
theorem dX8_where_144 : decode cX8_where 144 = .ok (.iload_n 2, 1) := by decide +kernel
theorem dX8_where_145 : decode cX8_where 145 = .ok (.iconst 2, 1) := by decide +kernel
theorem dX8_where_146 : decode cX8_where 146 = .ok (.irem, 1) := by decide +kernel
theorem dX8_where_147 : decode cX8_where 147 = .ok (.ifCond .ne 7, 3) := by decide +kernel
theorem dX8_where_150 : decode cX8_where 150 = .ok (.iload_n 3, 1) := by decide +kernel
theorem dX8_where_151 : decode cX8_where 151 = .ok (.goto 5, 3) := by decide +kernel
theorem dX8_where_154 : decode cX8_where 154 = .ok (.iload 4, 2) := by decide +kernel
theorem dX8_where_156 : decode cX8_where 156 = .ok (.ireturn, 1) := by decide +kernel
theorem dX8_raking_0 : decode cX8_raking 0 = .ok (.iload_n 1, 1) := by decide +kernel
theorem dX8_raking_1 : decode cX8_raking 1 = .ok (.invokestatic 294, 3) := by decide +kernel
theorem dX8_raking_4 : decode cX8_raking 4 = .ok (.ifCond .ne 6, 3) := by decide +kernel
theorem dX8_raking_7 : decode cX8_raking 7 = .ok (.bipush (-5), 2) := by decide +kernel
theorem dX8_raking_9 : decode cX8_raking 9 = .ok (.ireturn, 1) := by decide +kernel
theorem dX8_raking_10 : decode cX8_raking 10 = .ok (.aload_n 0, 1) := by decide +kernel
theorem dX8_raking_11 : decode cX8_raking 11 = .ok (.iload_n 1, 1) := by decide +kernel
theorem dX8_raking_12 : decode cX8_raking 12 = .ok (.invokevirtual 297, 3) := by decide +kernel
theorem dX8_raking_15 : decode cX8_raking 15 = .ok (.aload_n 0, 1) := by decide +kernel
theorem dX8_raking_16 : decode cX8_raking 16 = .ok (.aload_n 0, 1) := by decide +kernel
theorem dX8_raking_17 : decode cX8_raking 17 = .ok (.getfield 85, 3) := by decide +kernel
theorem dX8_raking_20 : decode cX8_raking 20 = .ok (.invokevirtual 282, 3) := by decide +kernel
theorem dX8_raking_23 : decode cX8_raking 23 = .ok (.ireturn, 1) := by decide +kernel
theorem dX8_tonight_0 : decode cX8_tonight 0 = .ok (.iload_n 1, 1) := by decide +kernel
theorem dX8_tonight_1 : decode cX8_tonight 1 = .ok (.invokestatic 294, 3) := by decide +kernel
theorem dX8_tonight_4 : decode cX8_tonight 4 = .ok (.ifCond .ne 6, 3) := by decide +kernel
theorem dX8_tonight_7 : decode cX8_tonight 7 = .ok (.bipush (-5), 2) := by decide +kernel
theorem dX8_tonight_9 : decode cX8_tonight 9 = .ok (.ireturn, 1) := by decide +kernel
theorem dX8_tonight_10 : decode cX8_tonight 10 = .ok (.iload_n 2, 1) := by decide +kernel
theorem dX8_tonight_11 : decode cX8_tonight 11 = .ok (.iconst 0, 1) := by decide +kernel
theorem dX8_tonight_12 : decode cX8_tonight 12 = .ok (.bipush 39, 2) := by decide +kernel
theorem dX8_tonight_14 : decode cX8_tonight 14 = .ok (.invokestatic 108, 3) := by decide +kernel
theorem dX8_tonight_17 : decode cX8_tonight 17 = .ok (.ifCond .eq 12, 3) := by decide +kernel
theorem dX8_tonight_20 : decode cX8_tonight 20 = .ok (.iload_n 3, 1) := by decide +kernel
theorem dX8_tonight_21 : decode cX8_tonight 21 = .ok (.iconst 0, 1) := by decide +kernel
theorem dX8_tonight_22 : decode cX8_tonight 22 = .ok (.iconst 2, 1) := by decide +kernel
theorem dX8_tonight_23 : decode cX8_tonight 23 = .ok (.invokestatic 108, 3) := by decide +kernel
theorem dX8_tonight_26 : decode cX8_tonight 26 = .ok (.ifCond .ne 6, 3) := by decide +kernel
theorem dX8_tonight_29 : decode cX8_tonight 29 = .ok (.bipush (-7), 2) := by decide +kernel
theorem dX8_tonight_31 : decode cX8_tonight 31 = .ok (.ireturn, 1) := by decide +kernel
theorem dX8_tonight_32 : decode cX8_tonight 32 = .ok (.aload_n 0, 1) := by decide +kernel
theorem dX8_tonight_33 : decode cX8_tonight 33 = .ok (.iload_n 1, 1) := by decide +kernel
theorem dX8_tonight_34 : decode cX8_tonight 34 = .ok (.invokevirtual 297, 3) := by decide +kernel
theorem dX8_tonight_37 : decode cX8_tonight 37 = .ok (.iload_n 2, 1) := by decide +kernel
theorem dX8_tonight_38 : decode cX8_tonight 38 = .ok (.bipush 10, 2) := by decide +kernel
theorem dX8_tonight_40 : decode cX8_tonight 40 = .ok (.idiv, 1) := by decide +kernel
theorem dX8_tonight_41 : decode cX8_tonight 41 = .ok (.istore 4, 2) := by decide +kernel
theorem dX8_tonight_43 : decode cX8_tonight 43 = .ok (.aload_n 0, 1) := by decide +kernel
theorem dX8_tonight_44 : decode cX8_tonight 44 = .ok (.getfield 55, 3) := by decide +kernel
theorem dX8_tonight_47 : decode cX8_tonight 47 = .ok (.iload 4, 2) := by decide +kernel
theorem dX8_tonight_49 : decode cX8_tonight 49 = .ok (.iaload, 1) := by decide +kernel
theorem dX8_tonight_50 : decode cX8_tonight 50 = .ok (.istore 5, 2) := by decide +kernel
theorem dX8_tonight_52 : decode cX8_tonight 52 = .ok (.iconst 0, 1) := by decide +kernel
theorem dX8_tonight_53 : decode cX8_tonight 53 = .ok (.istore 6, 2) := by decide +kernel
theorem dX8_tonight_55 : decode cX8_tonight 55 = .ok (.iload 6, 2) := by decide +kernel
theorem dX8_tonight_57 : decode cX8_tonight 57 = .ok (.bipush 36, 2) := by decide +kernel
theorem dX8_tonight_59 : decode cX8_tonight 59 = .ok (.if_icmp .ge 31, 3) := by decide +kernel
theorem dX8_tonight_62 : decode cX8_tonight 62 = .ok (.aload_n 0, 1) := by decide +kernel
theorem dX8_tonight_63 : decode cX8_tonight 63 = .ok (.getfield 82, 3) := by decide +kernel
theorem dX8_tonight_66 : decode cX8_tonight 66 = .ok (.iload 6, 2) := by decide +kernel
theorem dX8_tonight_68 : decode cX8_tonight 68 = .ok (.aload_n 0, 1) := by decide +kernel
theorem dX8_tonight_69 : decode cX8_tonight 69 = .ok (.getfield 43, 3) := by decide +kernel
theorem dX8_tonight_72 : decode cX8_tonight 72 = .ok (.iload 6, 2) := by decide +kernel
theorem dX8_tonight_74 : decode cX8_tonight 74 = .ok (.iaload, 1) := by decide +kernel
theorem dX8_tonight_75 : decode cX8_tonight 75 = .ok (.aload_n 0, 1) := by decide +kernel
theorem dX8_tonight_76 : decode cX8_tonight 76 = .ok (.getfield 46, 3) := by decide +kernel
theorem dX8_tonight_79 : decode cX8_tonight 79 = .ok (.iload 6, 2) := by decide +kernel
theorem dX8_tonight_81 : decode cX8_tonight 81 = .ok (.iaload, 1) := by decide +kernel
theorem dX8_tonight_82 : decode cX8_tonight 82 = .ok (.iadd, 1) := by decide +kernel
theorem dX8_tonight_83 : decode cX8_tonight 83 = .ok (.iastore, 1) := by decide +kernel
theorem dX8_tonight_84 : decode cX8_tonight 84 = .ok (.iinc 6 1, 3) := by decide +kernel
theorem dX8_tonight_87 : decode cX8_tonight 87 = .ok (.goto (-32), 3) := by decide +kernel
theorem dX8_tonight_90 : decode cX8_tonight 90 = .ok (.aload_n 0, 1) := by decide +kernel
theorem dX8_tonight_91 : decode cX8_tonight 91 = .ok (.iload 4, 2) := by decide +kernel
theorem dX8_tonight_93 : decode cX8_tonight 93 = .ok (.iload_n 2, 1) := by decide +kernel
theorem dX8_tonight_94 : decode cX8_tonight 94 = .ok (.bipush 10, 2) := by decide +kernel
theorem dX8_tonight_96 : decode cX8_tonight 96 = .ok (.irem, 1) := by decide +kernel
theorem dX8_tonight_97 : decode cX8_tonight 97 = .ok (.iconst 0, 1) := by decide +kernel
theorem dX8_tonight_98 : decode cX8_tonight 98 = .ok (.invokevirtual 272, 3) := by decide +kernel
theorem dX8_tonight_101 : decode cX8_tonight 101 = .ok (.iconst 0, 1) := by decide +kernel
theorem dX8_tonight_102 : decode cX8_tonight 102 = .ok (.istore 6, 2) := by decide +kernel
theorem dX8_tonight_104 : decode cX8_tonight 104 = .ok (.iconst 0, 1) := by decide +kernel
theorem dX8_tonight_105 : decode cX8_tonight 105 = .ok (.istore 7, 2) := by decide +kernel
theorem dX8_tonight_107 : decode cX8_tonight 107 = .ok (.iconst 0, 1) := by decide +kernel
theorem dX8_tonight_108 : decode cX8_tonight 108 = .ok (.istore 8, 2) := by decide +kernel
theorem dX8_tonight_110 : decode cX8_tonight 110 = .ok (.iload 8, 2) := by decide +kernel
theorem dX8_tonight_112 : decode cX8_tonight 112 = .ok (.bipush 36, 2) := by decide +kernel
theorem dX8_tonight_114 : decode cX8_tonight 114 = .ok (.if_icmp .ge 60, 3) := by decide +kernel
theorem dX8_tonight_117 : decode cX8_tonight 117 = .ok (.aload_n 0, 1) := by decide +kernel
theorem dX8_tonight_118 : decode cX8_tonight 118 = .ok (.getfield 43, 3) := by decide +kernel
theorem dX8_tonight_121 : decode cX8_tonight 121 = .ok (.iload 8, 2) := by decide +kernel
theorem dX8_tonight_123 : decode cX8_tonight 123 = .ok (.iaload, 1) := by decide +kernel
theorem dX8_tonight_124 : decode cX8_tonight 124 = .ok (.aload_n 0, 1) := by decide +kernel
theorem dX8_tonight_125 : decode cX8_tonight 125 = .ok (.getfield 46, 3) := by decide +kernel
theorem dX8_tonight_128 : decode cX8_tonight 128 = .ok (.iload 8, 2) := by decide +kernel
theorem dX8_tonight_130 : decode cX8_tonight 130 = .ok (.iaload, 1) := by decide +kernel
theorem dX8_tonight_131 : decode cX8_tonight 131 = .ok (.iadd, 1) := by decide +kernel
theorem dX8_tonight_132 : decode cX8_tonight 132 = .ok (.istore 9, 2) := by decide +kernel
theorem dX8_tonight_134 : decode cX8_tonight 134 = .ok (.aload_n 0, 1) := by decide +kernel
theorem dX8_tonight_135 : decode cX8_tonight 135 = .ok (.getfield 82, 3) := by decide +kernel
theorem dX8_tonight_138 : decode cX8_tonight 138 = .ok (.iload 8, 2) := by decide +kernel
theorem dX8_tonight_140 : decode cX8_tonight 140 = .ok (.iaload, 1) := by decide +kernel
theorem dX8_tonight_141 : decode cX8_tonight 141 = .ok (.ifCond .ne 10, 3) := by decide +kernel
theorem dX8_tonight_144 : decode cX8_tonight 144 = .ok (.iload 6, 2) := by decide +kernel
theorem dX8_tonight_146 : decode cX8_tonight 146 = .ok (.iload 9, 2) := by decide +kernel
theorem dX8_tonight_148 : decode cX8_tonight 148 = .ok (.iadd, 1) := by decide +kernel
theorem dX8_tonight_149 : decode cX8_tonight 149 = .ok (.istore 6, 2) := by decide +kernel
theorem dX8_tonight_151 : decode cX8_tonight 151 = .ok (.iload 7, 2) := by decide +kernel
theorem dX8_tonight_153 : decode cX8_tonight 153 = .ok (.iload 9, 2) := by decide +kernel
theorem dX8_tonight_155 : decode cX8_tonight 155 = .ok (.aload_n 0, 1) := by decide +kernel
theorem dX8_tonight_156 : decode cX8_tonight 156 = .ok (.getfield 82, 3) := by decide +kernel
theorem dX8_tonight_159 : decode cX8_tonight 159 = .ok (.iload 8, 2) := by decide +kernel
theorem dX8_tonight_161 : decode cX8_tonight 161 = .ok (.iaload, 1) := by decide +kernel
theorem dX8_tonight_162 : decode cX8_tonight 162 = .ok (.invokestatic 210, 3) := by decide +kernel
theorem dX8_tonight_165 : decode cX8_tonight 165 = .ok (.iadd, 1) := by decide +kernel
theorem dX8_tonight_166 : decode cX8_tonight 166 = .ok (.istore 7, 2) := by decide +kernel
theorem dX8_tonight_168 : decode cX8_tonight 168 = .ok (.iinc 8 1, 3) := by decide +kernel
theorem dX8_tonight_171 : decode cX8_tonight 171 = .ok (.goto (-61), 3) := by decide +kernel
theorem dX8_tonight_174 : decode cX8_tonight 174 = .ok (.iload_n 3, 1) := by decide +kernel
theorem dX8_tonight_175 : decode cX8_tonight 175 = .ok (.ifCond .ne 8, 3) := by decide +kernel
theorem dX8_tonight_178 : decode cX8_tonight 178 = .ok (.iload 6, 2) := by decide +kernel
theorem dX8_tonight_180 : decode cX8_tonight 180 = .ok (.goto 23, 3) := by decide +kernel
theorem dX8_tonight_183 : decode cX8_tonight 183 = .ok (.iload_n 3, 1) := by decide +kernel
theorem dX8_tonight_184 : decode cX8_tonight 184 = .ok (.iconst 1, 1) := by decide +kernel
theorem dX8_tonight_185 : decode cX8_tonight 185 = .ok (.if_icmp .ne 16, 3) := by decide +kernel
theorem dX8_tonight_188 : decode cX8_tonight 188 = .ok (.aload_n 0, 1) := by decide +kernel
theorem dX8_tonight_189 : decode cX8_tonight 189 = .ok (.getfield 55, 3) := by decide +kernel
theorem dX8_tonight_192 : decode cX8_tonight 192 = .ok (.iload 4, 2) := by decide +kernel
theorem dX8_tonight_194 : decode cX8_tonight 194 = .ok (.iaload, 1) := by decide +kernel
theorem dX8_tonight_195 : decode cX8_tonight 195 = .ok (.iload 5, 2) := by decide +kernel
theorem dX8_tonight_197 : decode cX8_tonight 197 = .ok (.isub, 1) := by decide +kernel
theorem dX8_tonight_198 : decode cX8_tonight 198 = .ok (.goto 5, 3) := by decide +kernel
theorem dX8_tonight_201 : decode cX8_tonight 201 = .ok (.iload 7, 2) := by decide +kernel
theorem dX8_tonight_203 : decode cX8_tonight 203 = .ok (.ireturn, 1) := by decide +kernel
theorem dX8_hurdle_0 : decode cX8_hurdle 0 = .ok (.iload_n 1, 1) := by decide +kernel
theorem dX8_hurdle_1 : decode cX8_hurdle 1 = .ok (.invokestatic 294, 3) := by decide +kernel
theorem dX8_hurdle_4 : decode cX8_hurdle 4 = .ok (.ifCond .ne 6, 3) := by decide +kernel
theorem dX8_hurdle_7 : decode cX8_hurdle 7 = .ok (.bipush (-5), 2) := by decide +kernel
theorem dX8_hurdle_9 : decode cX8_hurdle 9 = .ok (.ireturn, 1) := by decide +kernel
theorem dX8_hurdle_10 : decode cX8_hurdle 10 = .ok (.iload_n 2, 1) := by decide +kernel
theorem dX8_hurdle_11 : decode cX8_hurdle 11 = .ok (.iconst 0, 1) := by decide +kernel
theorem dX8_hurdle_12 : decode cX8_hurdle 12 = .ok (.bipush 99, 2) := by decide +kernel
theorem dX8_hurdle_14 : decode cX8_hurdle 14 = .ok (.invokestatic 108, 3) := by decide +kernel
theorem dX8_hurdle_17 : decode cX8_hurdle 17 = .ok (.ifCond .eq 12, 3) := by decide +kernel
theorem dX8_hurdle_20 : decode cX8_hurdle 20 = .ok (.iload_n 3, 1) := by decide +kernel
theorem dX8_hurdle_21 : decode cX8_hurdle 21 = .ok (.iconst 0, 1) := by decide +kernel
theorem dX8_hurdle_22 : decode cX8_hurdle 22 = .ok (.iconst 1, 1) := by decide +kernel
theorem dX8_hurdle_23 : decode cX8_hurdle 23 = .ok (.invokestatic 108, 3) := by decide +kernel
theorem dX8_hurdle_26 : decode cX8_hurdle 26 = .ok (.ifCond .ne 6, 3) := by decide +kernel
theorem dX8_hurdle_29 : decode cX8_hurdle 29 = .ok (.bipush (-7), 2) := by decide +kernel
theorem dX8_hurdle_31 : decode cX8_hurdle 31 = .ok (.ireturn, 1) := by decide +kernel
theorem dX8_hurdle_32 : decode cX8_hurdle 32 = .ok (.iconst (-1), 1) := by decide +kernel
theorem dX8_hurdle_33 : decode cX8_hurdle 33 = .ok (.istore 4, 2) := by decide +kernel
theorem dX8_hurdle_35 : decode cX8_hurdle 35 = .ok (.iconst (-1), 1) := by decide +kernel
theorem dX8_hurdle_36 : decode cX8_hurdle 36 = .ok (.istore 5, 2) := by decide +kernel
theorem dX8_hurdle_38 : decode cX8_hurdle 38 = .ok (.iconst 0, 1) := by decide +kernel
theorem dX8_hurdle_39 : decode cX8_hurdle 39 = .ok (.istore 6, 2) := by decide +kernel
theorem dX8_hurdle_41 : decode cX8_hurdle 41 = .ok (.iload 6, 2) := by decide +kernel
theorem dX8_hurdle_43 : decode cX8_hurdle 43 = .ok (.bipush 36, 2) := by decide +kernel
theorem dX8_hurdle_45 : decode cX8_hurdle 45 = .ok (.if_icmp .ge 110, 3) := by decide +kernel
theorem dX8_hurdle_48 : decode cX8_hurdle 48 = .ok (.aload_n 0, 1) := by decide +kernel
theorem dX8_hurdle_49 : decode cX8_hurdle 49 = .ok (.getfield 13, 3) := by decide +kernel
theorem dX8_hurdle_52 : decode cX8_hurdle 52 = .ok (.iload 6, 2) := by decide +kernel
theorem dX8_hurdle_54 : decode cX8_hurdle 54 = .ok (.iaload, 1) := by decide +kernel
theorem dX8_hurdle_55 : decode cX8_hurdle 55 = .ok (.istore 7, 2) := by decide +kernel
theorem dX8_hurdle_57 : decode cX8_hurdle 57 = .ok (.aload_n 0, 1) := by decide +kernel
theorem dX8_hurdle_58 : decode cX8_hurdle 58 = .ok (.getfield 16, 3) := by decide +kernel
theorem dX8_hurdle_61 : decode cX8_hurdle 61 = .ok (.iload 6, 2) := by decide +kernel
theorem dX8_hurdle_63 : decode cX8_hurdle 63 = .ok (.iaload, 1) := by decide +kernel
theorem dX8_hurdle_64 : decode cX8_hurdle 64 = .ok (.istore 8, 2) := by decide +kernel
theorem dX8_hurdle_66 : decode cX8_hurdle 66 = .ok (.aload_n 0, 1) := by decide +kernel
theorem dX8_hurdle_67 : decode cX8_hurdle 67 = .ok (.getfield 13, 3) := by decide +kernel
theorem dX8_hurdle_70 : decode cX8_hurdle 70 = .ok (.iload 6, 2) := by decide +kernel
theorem dX8_hurdle_72 : decode cX8_hurdle 72 = .ok (.iconst 3, 1) := by decide +kernel
theorem dX8_hurdle_73 : decode cX8_hurdle 73 = .ok (.iastore, 1) := by decide +kernel
theorem dX8_hurdle_74 : decode cX8_hurdle 74 = .ok (.aload_n 0, 1) := by decide +kernel
theorem dX8_hurdle_75 : decode cX8_hurdle 75 = .ok (.getfield 16, 3) := by decide +kernel
theorem dX8_hurdle_78 : decode cX8_hurdle 78 = .ok (.iload 6, 2) := by decide +kernel
theorem dX8_hurdle_80 : decode cX8_hurdle 80 = .ok (.iload_n 2, 1) := by decide +kernel
theorem dX8_hurdle_81 : decode cX8_hurdle 81 = .ok (.iastore, 1) := by decide +kernel
theorem dX8_hurdle_82 : decode cX8_hurdle 82 = .ok (.aload_n 0, 1) := by decide +kernel
theorem dX8_hurdle_83 : decode cX8_hurdle 83 = .ok (.iload_n 1, 1) := by decide +kernel
theorem dX8_hurdle_84 : decode cX8_hurdle 84 = .ok (.invokevirtual 297, 3) := by decide +kernel
theorem dX8_hurdle_87 : decode cX8_hurdle 87 = .ok (.aload_n 0, 1) := by decide +kernel
theorem dX8_hurdle_88 : decode cX8_hurdle 88 = .ok (.getfield 13, 3) := by decide +kernel
theorem dX8_hurdle_91 : decode cX8_hurdle 91 = .ok (.iload 6, 2) := by decide +kernel
theorem dX8_hurdle_93 : decode cX8_hurdle 93 = .ok (.iload 7, 2) := by decide +kernel
theorem dX8_hurdle_95 : decode cX8_hurdle 95 = .ok (.iastore, 1) := by decide +kernel
theorem dX8_hurdle_96 : decode cX8_hurdle 96 = .ok (.aload_n 0, 1) := by decide +kernel
theorem dX8_hurdle_97 : decode cX8_hurdle 97 = .ok (.getfield 16, 3) := by decide +kernel
theorem dX8_hurdle_100 : decode cX8_hurdle 100 = .ok (.iload 6, 2) := by decide +kernel
theorem dX8_hurdle_102 : decode cX8_hurdle 102 = .ok (.iload 8, 2) := by decide +kernel
theorem dX8_hurdle_104 : decode cX8_hurdle 104 = .ok (.iastore, 1) := by decide +kernel
theorem dX8_hurdle_105 : decode cX8_hurdle 105 = .ok (.aload_n 0, 1) := by decide +kernel
theorem dX8_hurdle_106 : decode cX8_hurdle 106 = .ok (.getfield 43, 3) := by decide +kernel
theorem dX8_hurdle_109 : decode cX8_hurdle 109 = .ok (.iload 6, 2) := by decide +kernel
theorem dX8_hurdle_111 : decode cX8_hurdle 111 = .ok (.iaload, 1) := by decide +kernel
theorem dX8_hurdle_112 : decode cX8_hurdle 112 = .ok (.aload_n 0, 1) := by decide +kernel
theorem dX8_hurdle_113 : decode cX8_hurdle 113 = .ok (.getfield 46, 3) := by decide +kernel
theorem dX8_hurdle_116 : decode cX8_hurdle 116 = .ok (.iload 6, 2) := by decide +kernel
theorem dX8_hurdle_118 : decode cX8_hurdle 118 = .ok (.iaload, 1) := by decide +kernel
theorem dX8_hurdle_119 : decode cX8_hurdle 119 = .ok (.iadd, 1) := by decide +kernel
theorem dX8_hurdle_120 : decode cX8_hurdle 120 = .ok (.iload 5, 2) := by decide +kernel
theorem dX8_hurdle_122 : decode cX8_hurdle 122 = .ok (.if_icmp .gt 6, 3) := by decide +kernel
theorem dX8_hurdle_125 : decode cX8_hurdle 125 = .ok (.goto 24, 3) := by decide +kernel
theorem dX8_hurdle_128 : decode cX8_hurdle 128 = .ok (.aload_n 0, 1) := by decide +kernel
theorem dX8_hurdle_129 : decode cX8_hurdle 129 = .ok (.getfield 43, 3) := by decide +kernel
theorem dX8_hurdle_132 : decode cX8_hurdle 132 = .ok (.iload 6, 2) := by decide +kernel
theorem dX8_hurdle_134 : decode cX8_hurdle 134 = .ok (.iaload, 1) := by decide +kernel
theorem dX8_hurdle_135 : decode cX8_hurdle 135 = .ok (.aload_n 0, 1) := by decide +kernel
theorem dX8_hurdle_136 : decode cX8_hurdle 136 = .ok (.getfield 46, 3) := by decide +kernel
theorem dX8_hurdle_139 : decode cX8_hurdle 139 = .ok (.iload 6, 2) := by decide +kernel
theorem dX8_hurdle_141 : decode cX8_hurdle 141 = .ok (.iaload, 1) := by decide +kernel
theorem dX8_hurdle_142 : decode cX8_hurdle 142 = .ok (.iadd, 1) := by decide +kernel
theorem dX8_hurdle_143 : decode cX8_hurdle 143 = .ok (.istore 5, 2) := by decide +kernel
theorem dX8_hurdle_145 : decode cX8_hurdle 145 = .ok (.iload 6, 2) := by decide +kernel
theorem dX8_hurdle_147 : decode cX8_hurdle 147 = .ok (.istore 4, 2) := by decide +kernel
theorem dX8_hurdle_149 : decode cX8_hurdle 149 = .ok (.iinc 6 1, 3) := by decide +kernel
theorem dX8_hurdle_152 : decode cX8_hurdle 152 = .ok (.goto (-111), 3) := by decide +kernel
theorem dX8_hurdle_155 : decode cX8_hurdle 155 = .ok (.iload_n 3, 1) := by decide +kernel
theorem dX8_hurdle_156 : decode cX8_hurdle 156 = .ok (.ifCond .ne 8, 3) := by decide +kernel
theorem dX8_hurdle_159 : decode cX8_hurdle 159 = .ok (.iload 4, 2) := by decide +kernel
theorem dX8_hurdle_161 : decode cX8_hurdle 161 = .ok (.goto 5, 3) := by decide +kernel
theorem dX8_hurdle_164 : decode cX8_hurdle 164 = .ok (.iload 5, 2) := by decide +kernel
theorem dX8_hurdle_166 : decode cX8_hurdle 166 = .ok (.ireturn, 1) := by decide +kernel
theorem dX8_lowest_0 : decode cX8_lowest 0 = .ok (.lload_n 0, 1) := by decide +kernel
theorem dX8_lowest_1 : decode cX8_lowest 1 = .ok (.lstore 5, 2) := by decide +kernel
theorem dX8_lowest_3 : decode cX8_lowest 3 = .ok (.lload_n 2, 1) := by decide +kernel
theorem dX8_lowest_4 : decode cX8_lowest 4 = .ok (.lstore 7, 2) := by decide +kernel
theorem dX8_lowest_6 : decode cX8_lowest 6 = .ok (.lload 7, 2) := by decide +kernel
theorem dX8_lowest_8 : decode cX8_lowest 8 = .ok (.lconst 0, 1) := by decide +kernel
theorem dX8_lowest_9 : decode cX8_lowest 9 = .ok (.lcmp, 1) := by decide +kernel
theorem dX8_lowest_10 : decode cX8_lowest 10 = .ok (.ifCond .eq 21, 3) := by decide +kernel
theorem dX8_lowest_13 : decode cX8_lowest 13 = .ok (.lload 5, 2) := by decide +kernel
theorem dX8_lowest_15 : decode cX8_lowest 15 = .ok (.lload 7, 2) := by decide +kernel
theorem dX8_lowest_17 : decode cX8_lowest 17 = .ok (.lrem, 1) := by decide +kernel
theorem dX8_lowest_18 : decode cX8_lowest 18 = .ok (.lstore 9, 2) := by decide +kernel
theorem dX8_lowest_20 : decode cX8_lowest 20 = .ok (.lload 7, 2) := by decide +kernel
theorem dX8_lowest_22 : decode cX8_lowest 22 = .ok (.lstore 5, 2) := by decide +kernel
theorem dX8_lowest_24 : decode cX8_lowest 24 = .ok (.lload 9, 2) := by decide +kernel
theorem dX8_lowest_26 : decode cX8_lowest 26 = .ok (.lstore 7, 2) := by decide +kernel
theorem dX8_lowest_28 : decode cX8_lowest 28 = .ok (.goto (-22), 3) := by decide +kernel
theorem dX8_lowest_31 : decode cX8_lowest 31 = .ok (.iload 4, 2) := by decide +kernel
theorem dX8_lowest_33 : decode cX8_lowest 33 = .ok (.ifCond .ne 10, 3) := by decide +kernel
theorem dX8_lowest_36 : decode cX8_lowest 36 = .ok (.lload_n 0, 1) := by decide +kernel
theorem dX8_lowest_37 : decode cX8_lowest 37 = .ok (.lload 5, 2) := by decide +kernel
theorem dX8_lowest_39 : decode cX8_lowest 39 = .ok (.ldiv, 1) := by decide +kernel
theorem dX8_lowest_40 : decode cX8_lowest 40 = .ok (.goto 7, 3) := by decide +kernel
theorem dX8_lowest_43 : decode cX8_lowest 43 = .ok (.lload_n 2, 1) := by decide +kernel
theorem dX8_lowest_44 : decode cX8_lowest 44 = .ok (.lload 5, 2) := by decide +kernel
theorem dX8_lowest_46 : decode cX8_lowest 46 = .ok (.ldiv, 1) := by decide +kernel
theorem dX8_lowest_47 : decode cX8_lowest 47 = .ok (.lreturn, 1) := by decide +kernel
theorem dX8_share_0 : decode cX8_share 0 = .ok (.iload_n 1, 1) := by decide +kernel
theorem dX8_share_1 : decode cX8_share 1 = .ok (.invokestatic 294, 3) := by decide +kernel
theorem dX8_share_4 : decode cX8_share 4 = .ok (.ifCond .eq 21, 3) := by decide +kernel
theorem dX8_share_7 : decode cX8_share 7 = .ok (.iload_n 2, 1) := by decide +kernel
theorem dX8_share_8 : decode cX8_share 8 = .ok (.iconst 0, 1) := by decide +kernel
theorem dX8_share_9 : decode cX8_share 9 = .ok (.iconst 3, 1) := by decide +kernel
theorem dX8_share_10 : decode cX8_share 10 = .ok (.invokestatic 108, 3) := by decide +kernel
theorem dX8_share_13 : decode cX8_share 13 = .ok (.ifCond .eq 12, 3) := by decide +kernel
theorem dX8_share_16 : decode cX8_share 16 = .ok (.iload_n 3, 1) := by decide +kernel
theorem dX8_share_17 : decode cX8_share 17 = .ok (.iconst 0, 1) := by decide +kernel
theorem dX8_share_18 : decode cX8_share 18 = .ok (.iconst 1, 1) := by decide +kernel
theorem dX8_share_19 : decode cX8_share 19 = .ok (.invokestatic 108, 3) := by decide +kernel
theorem dX8_share_22 : decode cX8_share 22 = .ok (.ifCond .ne 7, 3) := by decide +kernel
theorem dX8_share_25 : decode cX8_share 25 = .ok (.ldc2_w 242, 3) := by decide +kernel
theorem dX8_share_28 : decode cX8_share 28 = .ok (.lreturn, 1) := by decide +kernel
theorem dX8_share_29 : decode cX8_share 29 = .ok (.aload_n 0, 1) := by decide +kernel
theorem dX8_share_30 : decode cX8_share 30 = .ok (.iload_n 1, 1) := by decide +kernel
