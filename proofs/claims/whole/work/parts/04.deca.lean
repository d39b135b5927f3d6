theorem dX0_init_0 : decode cX0_init 0 = .ok (.aload_n 0, 1) := by decide +kernel
theorem dX0_init_1 : decode cX0_init 1 = .ok (.invokespecial 3, 3) := by decide +kernel
theorem dX0_init_4 : decode cX0_init 4 = .ok (.aload_n 0, 1) := by decide +kernel
theorem dX0_init_5 : decode cX0_init 5 = .ok (.iconst 2, 1) := by decide +kernel
theorem dX0_init_6 : decode cX0_init 6 = .ok (.bipush 36, 2) := by decide +kernel
theorem dX0_init_8 : decode cX0_init 8 = .ok (.multianewarray 9 2, 4) := by decide +kernel
theorem dX0_init_12 : decode cX0_init 12 = .ok (.putfield 11, 3) := by decide +kernel
theorem dX0_init_15 : decode cX0_init 15 = .ok (.aload_n 0, 1) := by decide +kernel
theorem dX0_init_16 : decode cX0_init 16 = .ok (.iconst 2, 1) := by decide +kernel
theorem dX0_init_17 : decode cX0_init 17 = .ok (.bipush 36, 2) := by decide +kernel
theorem dX0_init_19 : decode cX0_init 19 = .ok (.multianewarray 9 2, 4) := by decide +kernel
theorem dX0_init_23 : decode cX0_init 23 = .ok (.putfield 16, 3) := by decide +kernel
theorem dX0_init_26 : decode cX0_init 26 = .ok (.aload_n 0, 1) := by decide +kernel
theorem dX0_init_27 : decode cX0_init 27 = .ok (.bipush 36, 2) := by decide +kernel
theorem dX0_init_29 : decode cX0_init 29 = .ok (.newarray .int, 2) := by decide +kernel
theorem dX0_init_31 : decode cX0_init 31 = .ok (.putfield 19, 3) := by decide +kernel
theorem dX0_init_34 : decode cX0_init 34 = .ok (.aload_n 0, 1) := by decide +kernel
theorem dX0_init_35 : decode cX0_init 35 = .ok (.iconst 4, 1) := by decide +kernel
theorem dX0_init_36 : decode cX0_init 36 = .ok (.newarray .int, 2) := by decide +kernel
theorem dX0_init_38 : decode cX0_init 38 = .ok (.putfield 23, 3) := by decide +kernel
theorem dX0_init_41 : decode cX0_init 41 = .ok (.aload_n 0, 1) := by decide +kernel
theorem dX0_init_42 : decode cX0_init 42 = .ok (.bipush 14, 2) := by decide +kernel
theorem dX0_init_44 : decode cX0_init 44 = .ok (.newarray .int, 2) := by decide +kernel
theorem dX0_init_46 : decode cX0_init 46 = .ok (.putfield 26, 3) := by decide +kernel
theorem dX0_init_49 : decode cX0_init 49 = .ok (.aload_n 0, 1) := by decide +kernel
theorem dX0_init_50 : decode cX0_init 50 = .ok (.iconst 4, 1) := by decide +kernel
theorem dX0_init_51 : decode cX0_init 51 = .ok (.newarray .int, 2) := by decide +kernel
theorem dX0_init_53 : decode cX0_init 53 = .ok (.putfield 29, 3) := by decide +kernel
theorem dX0_init_56 : decode cX0_init 56 = .ok (.aload_n 0, 1) := by decide +kernel
theorem dX0_init_57 : decode cX0_init 57 = .ok (.bipush 6, 2) := by decide +kernel
theorem dX0_init_59 : decode cX0_init 59 = .ok (.newarray .int, 2) := by decide +kernel
theorem dX0_init_61 : decode cX0_init 61 = .ok (.putfield 32, 3) := by decide +kernel
theorem dX0_init_64 : decode cX0_init 64 = .ok (.return_, 1) := by decide +kernel
theorem dX0_begin_0 : decode cX0_begin 0 = .ok (.aload_n 1, 1) := by decide +kernel
theorem dX0_begin_1 : decode cX0_begin 1 = .ok (.getfield 35, 3) := by decide +kernel
theorem dX0_begin_4 : decode cX0_begin 4 = .ok (.iconst 0, 1) := by decide +kernel
theorem dX0_begin_5 : decode cX0_begin 5 = .ok (.aload_n 0, 1) := by decide +kernel
theorem dX0_begin_6 : decode cX0_begin 6 = .ok (.getfield 11, 3) := by decide +kernel
theorem dX0_begin_9 : decode cX0_begin 9 = .ok (.iconst 0, 1) := by decide +kernel
theorem dX0_begin_10 : decode cX0_begin 10 = .ok (.aaload, 1) := by decide +kernel
theorem dX0_begin_11 : decode cX0_begin 11 = .ok (.iconst 0, 1) := by decide +kernel
theorem dX0_begin_12 : decode cX0_begin 12 = .ok (.bipush 36, 2) := by decide +kernel
theorem dX0_begin_14 : decode cX0_begin 14 = .ok (.invokestatic 40, 3) := by decide +kernel
theorem dX0_begin_17 : decode cX0_begin 17 = .ok (.aload_n 0, 1) := by decide +kernel
theorem dX0_begin_18 : decode cX0_begin 18 = .ok (.getfield 11, 3) := by decide +kernel
theorem dX0_begin_21 : decode cX0_begin 21 = .ok (.iconst 1, 1) := by decide +kernel
theorem dX0_begin_22 : decode cX0_begin 22 = .ok (.aaload, 1) := by decide +kernel
theorem dX0_begin_23 : decode cX0_begin 23 = .ok (.iconst 0, 1) := by decide +kernel
theorem dX0_begin_24 : decode cX0_begin 24 = .ok (.invokestatic 46, 3) := by decide +kernel
theorem dX0_begin_27 : decode cX0_begin 27 = .ok (.aload_n 0, 1) := by decide +kernel
theorem dX0_begin_28 : decode cX0_begin 28 = .ok (.getfield 19, 3) := by decide +kernel
theorem dX0_begin_31 : decode cX0_begin 31 = .ok (.iconst 0, 1) := by decide +kernel
theorem dX0_begin_32 : decode cX0_begin 32 = .ok (.invokestatic 46, 3) := by decide +kernel
theorem dX0_begin_35 : decode cX0_begin 35 = .ok (.aload_n 0, 1) := by decide +kernel
theorem dX0_begin_36 : decode cX0_begin 36 = .ok (.getfield 23, 3) := by decide +kernel
theorem dX0_begin_39 : decode cX0_begin 39 = .ok (.iconst 0, 1) := by decide +kernel
theorem dX0_begin_40 : decode cX0_begin 40 = .ok (.invokestatic 46, 3) := by decide +kernel
theorem dX0_begin_43 : decode cX0_begin 43 = .ok (.aload_n 1, 1) := by decide +kernel
theorem dX0_begin_44 : decode cX0_begin 44 = .ok (.getfield 52, 3) := by decide +kernel
theorem dX0_begin_47 : decode cX0_begin 47 = .ok (.iconst 0, 1) := by decide +kernel
theorem dX0_begin_48 : decode cX0_begin 48 = .ok (.aload_n 0, 1) := by decide +kernel
theorem dX0_begin_49 : decode cX0_begin 49 = .ok (.getfield 23, 3) := by decide +kernel
theorem dX0_begin_52 : decode cX0_begin 52 = .ok (.iconst 0, 1) := by decide +kernel
theorem dX0_begin_53 : decode cX0_begin 53 = .ok (.aload_n 1, 1) := by decide +kernel
theorem dX0_begin_54 : decode cX0_begin 54 = .ok (.getfield 55, 3) := by decide +kernel
theorem dX0_begin_57 : decode cX0_begin 57 = .ok (.invokestatic 40, 3) := by decide +kernel
theorem dX0_begin_60 : decode cX0_begin 60 = .ok (.aload_n 0, 1) := by decide +kernel
theorem dX0_begin_61 : decode cX0_begin 61 = .ok (.getfield 26, 3) := by decide +kernel
theorem dX0_begin_64 : decode cX0_begin 64 = .ok (.iconst 0, 1) := by decide +kernel
theorem dX0_begin_65 : decode cX0_begin 65 = .ok (.invokestatic 46, 3) := by decide +kernel
theorem dX0_begin_68 : decode cX0_begin 68 = .ok (.aload_n 0, 1) := by decide +kernel
theorem dX0_begin_69 : decode cX0_begin 69 = .ok (.getfield 29, 3) := by decide +kernel
theorem dX0_begin_72 : decode cX0_begin 72 = .ok (.iconst 0, 1) := by decide +kernel
theorem dX0_begin_73 : decode cX0_begin 73 = .ok (.invokestatic 46, 3) := by decide +kernel
theorem dX0_begin_76 : decode cX0_begin 76 = .ok (.aload_n 0, 1) := by decide +kernel
theorem dX0_begin_77 : decode cX0_begin 77 = .ok (.iconst 0, 1) := by decide +kernel
theorem dX0_begin_78 : decode cX0_begin 78 = .ok (.putfield 59, 3) := by decide +kernel
theorem dX0_begin_81 : decode cX0_begin 81 = .ok (.aload_n 0, 1) := by decide +kernel
theorem dX0_begin_82 : decode cX0_begin 82 = .ok (.iconst 0, 1) := by decide +kernel
theorem dX0_begin_83 : decode cX0_begin 83 = .ok (.putfield 62, 3) := by decide +kernel
theorem dX0_begin_86 : decode cX0_begin 86 = .ok (.aload_n 0, 1) := by decide +kernel
theorem dX0_begin_87 : decode cX0_begin 87 = .ok (.iconst 0, 1) := by decide +kernel
theorem dX0_begin_88 : decode cX0_begin 88 = .ok (.putfield 65, 3) := by decide +kernel
theorem dX0_begin_91 : decode cX0_begin 91 = .ok (.return_, 1) := by decide +kernel
theorem dX0_pass_0 : decode cX0_pass 0 = .ok (.aload_n 0, 1) := by decide +kernel
theorem dX0_pass_1 : decode cX0_pass 1 = .ok (.aload_n 1, 1) := by decide +kernel
theorem dX0_pass_2 : decode cX0_pass 2 = .ok (.getfield 68, 3) := by decide +kernel
theorem dX0_pass_5 : decode cX0_pass 5 = .ok (.iconst 3, 1) := by decide +kernel
theorem dX0_pass_6 : decode cX0_pass 6 = .ok (.aaload, 1) := by decide +kernel
theorem dX0_pass_7 : decode cX0_pass 7 = .ok (.iload_n 3, 1) := by decide +kernel
theorem dX0_pass_8 : decode cX0_pass 8 = .ok (.iaload, 1) := by decide +kernel
theorem dX0_pass_9 : decode cX0_pass 9 = .ok (.iconst 1, 1) := by decide +kernel
theorem dX0_pass_10 : decode cX0_pass 10 = .ok (.if_icmp .ne 7, 3) := by decide +kernel
theorem dX0_pass_13 : decode cX0_pass 13 = .ok (.iconst 1, 1) := by decide +kernel
theorem dX0_pass_14 : decode cX0_pass 14 = .ok (.goto 4, 3) := by decide +kernel
theorem dX0_pass_17 : decode cX0_pass 17 = .ok (.iconst 0, 1) := by decide +kernel
theorem dX0_pass_18 : decode cX0_pass 18 = .ok (.invokevirtual 71, 3) := by decide +kernel
theorem dX0_pass_21 : decode cX0_pass 21 = .ok (.aload_n 0, 1) := by decide +kernel
theorem dX0_pass_22 : decode cX0_pass 22 = .ok (.aload_n 1, 1) := by decide +kernel
theorem dX0_pass_23 : decode cX0_pass 23 = .ok (.aload_n 2, 1) := by decide +kernel
theorem dX0_pass_24 : decode cX0_pass 24 = .ok (.iload_n 3, 1) := by decide +kernel
theorem dX0_pass_25 : decode cX0_pass 25 = .ok (.invokevirtual 75, 3) := by decide +kernel
theorem dX0_pass_28 : decode cX0_pass 28 = .ok (.aload_n 0, 1) := by decide +kernel
theorem dX0_pass_29 : decode cX0_pass 29 = .ok (.aload_n 1, 1) := by decide +kernel
theorem dX0_pass_30 : decode cX0_pass 30 = .ok (.aload_n 2, 1) := by decide +kernel
theorem dX0_pass_31 : decode cX0_pass 31 = .ok (.aload_n 1, 1) := by decide +kernel
theorem dX0_pass_32 : decode cX0_pass 32 = .ok (.getfield 68, 3) := by decide +kernel
theorem dX0_pass_35 : decode cX0_pass 35 = .ok (.iconst 0, 1) := by decide +kernel
theorem dX0_pass_36 : decode cX0_pass 36 = .ok (.aaload, 1) := by decide +kernel
theorem dX0_pass_37 : decode cX0_pass 37 = .ok (.iload_n 3, 1) := by decide +kernel
theorem dX0_pass_38 : decode cX0_pass 38 = .ok (.iaload, 1) := by decide +kernel
theorem dX0_pass_39 : decode cX0_pass 39 = .ok (.aload_n 1, 1) := by decide +kernel
theorem dX0_pass_40 : decode cX0_pass 40 = .ok (.getfield 68, 3) := by decide +kernel
theorem dX0_pass_43 : decode cX0_pass 43 = .ok (.iconst 1, 1) := by decide +kernel
theorem dX0_pass_44 : decode cX0_pass 44 = .ok (.aaload, 1) := by decide +kernel
theorem dX0_pass_45 : decode cX0_pass 45 = .ok (.iload_n 3, 1) := by decide +kernel
theorem dX0_pass_46 : decode cX0_pass 46 = .ok (.iaload, 1) := by decide +kernel
theorem dX0_pass_47 : decode cX0_pass 47 = .ok (.aload_n 1, 1) := by decide +kernel
theorem dX0_pass_48 : decode cX0_pass 48 = .ok (.getfield 68, 3) := by decide +kernel
theorem dX0_pass_51 : decode cX0_pass 51 = .ok (.iconst 2, 1) := by decide +kernel
theorem dX0_pass_52 : decode cX0_pass 52 = .ok (.aaload, 1) := by decide +kernel
theorem dX0_pass_53 : decode cX0_pass 53 = .ok (.iload_n 3, 1) := by decide +kernel
theorem dX0_pass_54 : decode cX0_pass 54 = .ok (.iaload, 1) := by decide +kernel
theorem dX0_pass_55 : decode cX0_pass 55 = .ok (.invokevirtual 79, 3) := by decide +kernel
theorem dX0_pass_58 : decode cX0_pass 58 = .ok (.aload_n 0, 1) := by decide +kernel
theorem dX0_pass_59 : decode cX0_pass 59 = .ok (.aload_n 2, 1) := by decide +kernel
theorem dX0_pass_60 : decode cX0_pass 60 = .ok (.invokevirtual 83, 3) := by decide +kernel
theorem dX0_pass_63 : decode cX0_pass 63 = .ok (.aload_n 0, 1) := by decide +kernel
theorem dX0_pass_64 : decode cX0_pass 64 = .ok (.aload_n 1, 1) := by decide +kernel
theorem dX0_pass_65 : decode cX0_pass 65 = .ok (.invokevirtual 87, 3) := by decide +kernel
theorem dX0_pass_68 : decode cX0_pass 68 = .ok (.aload_n 1, 1) := by decide +kernel
theorem dX0_pass_69 : decode cX0_pass 69 = .ok (.getfield 91, 3) := by decide +kernel
theorem dX0_pass_72 : decode cX0_pass 72 = .ok (.iload_n 3, 1) := by decide +kernel
theorem dX0_pass_73 : decode cX0_pass 73 = .ok (.ishr, 1) := by decide +kernel
theorem dX0_pass_74 : decode cX0_pass 74 = .ok (.iconst 1, 1) := by decide +kernel
theorem dX0_pass_75 : decode cX0_pass 75 = .ok (.iand, 1) := by decide +kernel
theorem dX0_pass_76 : decode cX0_pass 76 = .ok (.iconst 1, 1) := by decide +kernel
theorem dX0_pass_77 : decode cX0_pass 77 = .ok (.if_icmp .ne 20, 3) := by decide +kernel
theorem dX0_pass_80 : decode cX0_pass 80 = .ok (.aload_n 0, 1) := by decide +kernel
theorem dX0_pass_81 : decode cX0_pass 81 = .ok (.aload 4, 2) := by decide +kernel
theorem dX0_pass_83 : decode cX0_pass 83 = .ok (.aload_n 1, 1) := by decide +kernel
theorem dX0_pass_84 : decode cX0_pass 84 = .ok (.getfield 94, 3) := by decide +kernel
theorem dX0_pass_87 : decode cX0_pass 87 = .ok (.aload_n 0, 1) := by decide +kernel
theorem dX0_pass_88 : decode cX0_pass 88 = .ok (.getfield 11, 3) := by decide +kernel
theorem dX0_pass_91 : decode cX0_pass 91 = .ok (.invokevirtual 98, 3) := by decide +kernel
theorem dX0_pass_94 : decode cX0_pass 94 = .ok (.invokevirtual 103, 3) := by decide +kernel
theorem dX0_pass_97 : decode cX0_pass 97 = .ok (.return_, 1) := by decide +kernel
theorem dX0_soakOrDry_0 : decode cX0_soakOrDry 0 = .ok (.iconst 0, 1) := by decide +kernel
theorem dX0_soakOrDry_1 : decode cX0_soakOrDry 1 = .ok (.istore_n 2, 1) := by decide +kernel
theorem dX0_soakOrDry_2 : decode cX0_soakOrDry 2 = .ok (.iload_n 2, 1) := by decide +kernel
theorem dX0_soakOrDry_3 : decode cX0_soakOrDry 3 = .ok (.bipush 36, 2) := by decide +kernel
theorem dX0_soakOrDry_5 : decode cX0_soakOrDry 5 = .ok (.if_icmp .ge 60, 3) := by decide +kernel
theorem dX0_soakOrDry_8 : decode cX0_soakOrDry 8 = .ok (.iload_n 1, 1) := by decide +kernel
theorem dX0_soakOrDry_9 : decode cX0_soakOrDry 9 = .ok (.ifCond .eq 15, 3) := by decide +kernel
theorem dX0_soakOrDry_12 : decode cX0_soakOrDry 12 = .ok (.aload_n 0, 1) := by decide +kernel
theorem dX0_soakOrDry_13 : decode cX0_soakOrDry 13 = .ok (.getfield 11, 3) := by decide +kernel
theorem dX0_soakOrDry_16 : decode cX0_soakOrDry 16 = .ok (.iconst 0, 1) := by decide +kernel
theorem dX0_soakOrDry_17 : decode cX0_soakOrDry 17 = .ok (.aaload, 1) := by decide +kernel
theorem dX0_soakOrDry_18 : decode cX0_soakOrDry 18 = .ok (.iload_n 2, 1) := by decide +kernel
theorem dX0_soakOrDry_19 : decode cX0_soakOrDry 19 = .ok (.iaload, 1) := by decide +kernel
theorem dX0_soakOrDry_20 : decode cX0_soakOrDry 20 = .ok (.ineg, 1) := by decide +kernel
theorem dX0_soakOrDry_21 : decode cX0_soakOrDry 21 = .ok (.goto 13, 3) := by decide +kernel
theorem dX0_soakOrDry_24 : decode cX0_soakOrDry 24 = .ok (.aload_n 0, 1) := by decide +kernel
theorem dX0_soakOrDry_25 : decode cX0_soakOrDry 25 = .ok (.getfield 11, 3) := by decide +kernel
theorem dX0_soakOrDry_28 : decode cX0_soakOrDry 28 = .ok (.iconst 1, 1) := by decide +kernel
theorem dX0_soakOrDry_29 : decode cX0_soakOrDry 29 = .ok (.aaload, 1) := by decide +kernel
theorem dX0_soakOrDry_30 : decode cX0_soakOrDry 30 = .ok (.iload_n 2, 1) := by decide +kernel
theorem dX0_soakOrDry_31 : decode cX0_soakOrDry 31 = .ok (.iaload, 1) := by decide +kernel
theorem dX0_soakOrDry_32 : decode cX0_soakOrDry 32 = .ok (.iconst 2, 1) := by decide +kernel
theorem dX0_soakOrDry_33 : decode cX0_soakOrDry 33 = .ok (.idiv, 1) := by decide +kernel
theorem dX0_soakOrDry_34 : decode cX0_soakOrDry 34 = .ok (.istore_n 3, 1) := by decide +kernel
theorem dX0_soakOrDry_35 : decode cX0_soakOrDry 35 = .ok (.aload_n 0, 1) := by decide +kernel
theorem dX0_soakOrDry_36 : decode cX0_soakOrDry 36 = .ok (.getfield 11, 3) := by decide +kernel
theorem dX0_soakOrDry_39 : decode cX0_soakOrDry 39 = .ok (.iconst 0, 1) := by decide +kernel
theorem dX0_soakOrDry_40 : decode cX0_soakOrDry 40 = .ok (.aaload, 1) := by decide +kernel
theorem dX0_soakOrDry_41 : decode cX0_soakOrDry 41 = .ok (.iload_n 2, 1) := by decide +kernel
theorem dX0_soakOrDry_42 : decode cX0_soakOrDry 42 = .ok (.dup2, 1) := by decide +kernel
theorem dX0_soakOrDry_43 : decode cX0_soakOrDry 43 = .ok (.iaload, 1) := by decide +kernel
theorem dX0_soakOrDry_44 : decode cX0_soakOrDry 44 = .ok (.iload_n 3, 1) := by decide +kernel
theorem dX0_soakOrDry_45 : decode cX0_soakOrDry 45 = .ok (.iadd, 1) := by decide +kernel
theorem dX0_soakOrDry_46 : decode cX0_soakOrDry 46 = .ok (.iastore, 1) := by decide +kernel
theorem dX0_soakOrDry_47 : decode cX0_soakOrDry 47 = .ok (.aload_n 0, 1) := by decide +kernel
theorem dX0_soakOrDry_48 : decode cX0_soakOrDry 48 = .ok (.getfield 11, 3) := by decide +kernel
theorem dX0_soakOrDry_51 : decode cX0_soakOrDry 51 = .ok (.iconst 1, 1) := by decide +kernel
theorem dX0_soakOrDry_52 : decode cX0_soakOrDry 52 = .ok (.aaload, 1) := by decide +kernel
theorem dX0_soakOrDry_53 : decode cX0_soakOrDry 53 = .ok (.iload_n 2, 1) := by decide +kernel
theorem dX0_soakOrDry_54 : decode cX0_soakOrDry 54 = .ok (.dup2, 1) := by decide +kernel
theorem dX0_soakOrDry_55 : decode cX0_soakOrDry 55 = .ok (.iaload, 1) := by decide +kernel
theorem dX0_soakOrDry_56 : decode cX0_soakOrDry 56 = .ok (.iload_n 3, 1) := by decide +kernel
theorem dX0_soakOrDry_57 : decode cX0_soakOrDry 57 = .ok (.isub, 1) := by decide +kernel
theorem dX0_soakOrDry_58 : decode cX0_soakOrDry 58 = .ok (.iastore, 1) := by decide +kernel
theorem dX0_soakOrDry_59 : decode cX0_soakOrDry 59 = .ok (.iinc 2 1, 3) := by decide +kernel
theorem dX0_soakOrDry_62 : decode cX0_soakOrDry 62 = .ok (.goto (-60), 3) := by decide +kernel
theorem dX0_soakOrDry_65 : decode cX0_soakOrDry 65 = .ok (.return_, 1) := by decide +kernel
theorem dX0_shed_0 : decode cX0_shed 0 = .ok (.aload_n 1, 1) := by decide +kernel
theorem dX0_shed_1 : decode cX0_shed 1 = .ok (.getfield 68, 3) := by decide +kernel
theorem dX0_shed_4 : decode cX0_shed 4 = .ok (.iconst 3, 1) := by decide +kernel
theorem dX0_shed_5 : decode cX0_shed 5 = .ok (.aaload, 1) := by decide +kernel
theorem dX0_shed_6 : decode cX0_shed 6 = .ok (.iload_n 3, 1) := by decide +kernel
theorem dX0_shed_7 : decode cX0_shed 7 = .ok (.iaload, 1) := by decide +kernel
theorem dX0_shed_8 : decode cX0_shed 8 = .ok (.istore 4, 2) := by decide +kernel
theorem dX0_shed_10 : decode cX0_shed 10 = .ok (.aload_n 0, 1) := by decide +kernel
theorem dX0_shed_11 : decode cX0_shed 11 = .ok (.getfield 32, 3) := by decide +kernel
theorem dX0_shed_14 : decode cX0_shed 14 = .ok (.iconst 1, 1) := by decide +kernel
theorem dX0_shed_15 : decode cX0_shed 15 = .ok (.aload_n 1, 1) := by decide +kernel
theorem dX0_shed_16 : decode cX0_shed 16 = .ok (.getfield 68, 3) := by decide +kernel
theorem dX0_shed_19 : decode cX0_shed 19 = .ok (.iconst 1, 1) := by decide +kernel
theorem dX0_shed_20 : decode cX0_shed 20 = .ok (.aaload, 1) := by decide +kernel
theorem dX0_shed_21 : decode cX0_shed 21 = .ok (.iload_n 3, 1) := by decide +kernel
theorem dX0_shed_22 : decode cX0_shed 22 = .ok (.iaload, 1) := by decide +kernel
theorem dX0_shed_23 : decode cX0_shed 23 = .ok (.iastore, 1) := by decide +kernel
theorem dX0_shed_24 : decode cX0_shed 24 = .ok (.aload_n 0, 1) := by decide +kernel
theorem dX0_shed_25 : decode cX0_shed 25 = .ok (.getfield 32, 3) := by decide +kernel
theorem dX0_shed_28 : decode cX0_shed 28 = .ok (.iconst 2, 1) := by decide +kernel
theorem dX0_shed_29 : decode cX0_shed 29 = .ok (.aload_n 1, 1) := by decide +kernel
theorem dX0_shed_30 : decode cX0_shed 30 = .ok (.getfield 68, 3) := by decide +kernel
theorem dX0_shed_33 : decode cX0_shed 33 = .ok (.iconst 2, 1) := by decide +kernel
theorem dX0_shed_34 : decode cX0_shed 34 = .ok (.aaload, 1) := by decide +kernel
theorem dX0_shed_35 : decode cX0_shed 35 = .ok (.iload_n 3, 1) := by decide +kernel
theorem dX0_shed_36 : decode cX0_shed 36 = .ok (.iaload, 1) := by decide +kernel
theorem dX0_shed_37 : decode cX0_shed 37 = .ok (.iastore, 1) := by decide +kernel
theorem dX0_shed_38 : decode cX0_shed 38 = .ok (.aload_n 0, 1) := by decide +kernel
theorem dX0_shed_39 : decode cX0_shed 39 = .ok (.getfield 32, 3) := by decide +kernel
theorem dX0_shed_42 : decode cX0_shed 42 = .ok (.iconst 3, 1) := by decide +kernel
theorem dX0_shed_43 : decode cX0_shed 43 = .ok (.iload 4, 2) := by decide +kernel
theorem dX0_shed_45 : decode cX0_shed 45 = .ok (.iastore, 1) := by decide +kernel
theorem dX0_shed_46 : decode cX0_shed 46 = .ok (.aload_n 0, 1) := by decide +kernel
theorem dX0_shed_47 : decode cX0_shed 47 = .ok (.getfield 32, 3) := by decide +kernel
theorem dX0_shed_50 : decode cX0_shed 50 = .ok (.iconst 5, 1) := by decide +kernel
theorem dX0_shed_51 : decode cX0_shed 51 = .ok (.iconst 0, 1) := by decide +kernel
theorem dX0_shed_52 : decode cX0_shed 52 = .ok (.iastore, 1) := by decide +kernel
theorem dX0_shed_53 : decode cX0_shed 53 = .ok (.iconst 0, 1) := by decide +kernel
theorem dX0_shed_54 : decode cX0_shed 54 = .ok (.istore 5, 2) := by decide +kernel
theorem dX0_shed_56 : decode cX0_shed 56 = .ok (.iload 5, 2) := by decide +kernel
theorem dX0_shed_58 : decode cX0_shed 58 = .ok (.aload_n 1, 1) := by decide +kernel
theorem dX0_shed_59 : decode cX0_shed 59 = .ok (.getfield 55, 3) := by decide +kernel
theorem dX0_shed_62 : decode cX0_shed 62 = .ok (.if_icmp .ge 108, 3) := by decide +kernel
theorem dX0_shed_65 : decode cX0_shed 65 = .ok (.aload_n 0, 1) := by decide +kernel
theorem dX0_shed_66 : decode cX0_shed 66 = .ok (.getfield 32, 3) := by decide +kernel
theorem dX0_shed_69 : decode cX0_shed 69 = .ok (.iconst 0, 1) := by decide +kernel
theorem dX0_shed_70 : decode cX0_shed 70 = .ok (.aload_n 0, 1) := by decide +kernel
theorem dX0_shed_71 : decode cX0_shed 71 = .ok (.getfield 23, 3) := by decide +kernel
theorem dX0_shed_74 : decode cX0_shed 74 = .ok (.iload 5, 2) := by decide +kernel
theorem dX0_shed_76 : decode cX0_shed 76 = .ok (.iaload, 1) := by decide +kernel
theorem dX0_shed_77 : decode cX0_shed 77 = .ok (.iastore, 1) := by decide +kernel
theorem dX0_shed_78 : decode cX0_shed 78 = .ok (.aload_n 0, 1) := by decide +kernel
theorem dX0_shed_79 : decode cX0_shed 79 = .ok (.getfield 32, 3) := by decide +kernel
theorem dX0_shed_82 : decode cX0_shed 82 = .ok (.iconst 4, 1) := by decide +kernel
theorem dX0_shed_83 : decode cX0_shed 83 = .ok (.aload_n 1, 1) := by decide +kernel
theorem dX0_shed_84 : decode cX0_shed 84 = .ok (.getfield 107, 3) := by decide +kernel
theorem dX0_shed_87 : decode cX0_shed 87 = .ok (.iload 5, 2) := by decide +kernel
theorem dX0_shed_89 : decode cX0_shed 89 = .ok (.iaload, 1) := by decide +kernel
theorem dX0_shed_90 : decode cX0_shed 90 = .ok (.iastore, 1) := by decide +kernel
theorem dX0_shed_91 : decode cX0_shed 91 = .ok (.aload_n 0, 1) := by decide +kernel
theorem dX0_shed_92 : decode cX0_shed 92 = .ok (.getfield 23, 3) := by decide +kernel
theorem dX0_shed_95 : decode cX0_shed 95 = .ok (.iload 5, 2) := by decide +kernel
theorem dX0_shed_97 : decode cX0_shed 97 = .ok (.iaload, 1) := by decide +kernel
theorem dX0_shed_98 : decode cX0_shed 98 = .ok (.aload_n 2, 1) := by decide +kernel
theorem dX0_shed_99 : decode cX0_shed 99 = .ok (.iconst 0, 1) := by decide +kernel
theorem dX0_shed_100 : decode cX0_shed 100 = .ok (.aload_n 0, 1) := by decide +kernel
theorem dX0_shed_101 : decode cX0_shed 101 = .ok (.getfield 32, 3) := by decide +kernel
theorem dX0_shed_104 : decode cX0_shed 104 = .ok (.invokevirtual 110, 3) := by decide +kernel
theorem dX0_shed_107 : decode cX0_shed 107 = .ok (.invokestatic 116, 3) := by decide +kernel
theorem dX0_shed_110 : decode cX0_shed 110 = .ok (.istore 6, 2) := by decide +kernel
theorem dX0_shed_112 : decode cX0_shed 112 = .ok (.aload_n 0, 1) := by decide +kernel
theorem dX0_shed_113 : decode cX0_shed 113 = .ok (.getfield 23, 3) := by decide +kernel
theorem dX0_shed_116 : decode cX0_shed 116 = .ok (.iload 5, 2) := by decide +kernel
theorem dX0_shed_118 : decode cX0_shed 118 = .ok (.dup2, 1) := by decide +kernel
theorem dX0_shed_119 : decode cX0_shed 119 = .ok (.iaload, 1) := by decide +kernel
theorem dX0_shed_120 : decode cX0_shed 120 = .ok (.iload 6, 2) := by decide +kernel
theorem dX0_shed_122 : decode cX0_shed 122 = .ok (.isub, 1) := by decide +kernel
theorem dX0_shed_123 : decode cX0_shed 123 = .ok (.iastore, 1) := by decide +kernel
theorem dX0_shed_124 : decode cX0_shed 124 = .ok (.aload_n 0, 1) := by decide +kernel
theorem dX0_shed_125 : decode cX0_shed 125 = .ok (.getfield 26, 3) := by decide +kernel
theorem dX0_shed_128 : decode cX0_shed 128 = .ok (.iload_n 3, 1) := by decide +kernel
theorem dX0_shed_129 : decode cX0_shed 129 = .ok (.dup2, 1) := by decide +kernel
theorem dX0_shed_130 : decode cX0_shed 130 = .ok (.iaload, 1) := by decide +kernel
theorem dX0_shed_131 : decode cX0_shed 131 = .ok (.iload 6, 2) := by decide +kernel
theorem dX0_shed_133 : decode cX0_shed 133 = .ok (.iadd, 1) := by decide +kernel
theorem dX0_shed_134 : decode cX0_shed 134 = .ok (.iastore, 1) := by decide +kernel
theorem dX0_shed_135 : decode cX0_shed 135 = .ok (.aload_n 0, 1) := by decide +kernel
theorem dX0_shed_136 : decode cX0_shed 136 = .ok (.getfield 11, 3) := by decide +kernel
theorem dX0_shed_139 : decode cX0_shed 139 = .ok (.iload 4, 2) := by decide +kernel
theorem dX0_shed_141 : decode cX0_shed 141 = .ok (.iconst 1, 1) := by decide +kernel
theorem dX0_shed_142 : decode cX0_shed 142 = .ok (.if_icmp .ne 7, 3) := by decide +kernel
theorem dX0_shed_145 : decode cX0_shed 145 = .ok (.iconst 1, 1) := by decide +kernel
theorem dX0_shed_146 : decode cX0_shed 146 = .ok (.goto 4, 3) := by decide +kernel
theorem dX0_shed_149 : decode cX0_shed 149 = .ok (.iconst 0, 1) := by decide +kernel
theorem dX0_shed_150 : decode cX0_shed 150 = .ok (.aaload, 1) := by decide +kernel
theorem dX0_shed_151 : decode cX0_shed 151 = .ok (.aload_n 1, 1) := by decide +kernel
theorem dX0_shed_152 : decode cX0_shed 152 = .ok (.getfield 122, 3) := by decide +kernel
theorem dX0_shed_155 : decode cX0_shed 155 = .ok (.iload 5, 2) := by decide +kernel
theorem dX0_shed_157 : decode cX0_shed 157 = .ok (.iaload, 1) := by decide +kernel
theorem dX0_shed_158 : decode cX0_shed 158 = .ok (.dup2, 1) := by decide +kernel
theorem dX0_shed_159 : decode cX0_shed 159 = .ok (.iaload, 1) := by decide +kernel
theorem dX0_shed_160 : decode cX0_shed 160 = .ok (.iload 6, 2) := by decide +kernel
theorem dX0_shed_162 : decode cX0_shed 162 = .ok (.iadd, 1) := by decide +kernel
theorem dX0_shed_163 : decode cX0_shed 163 = .ok (.iastore, 1) := by decide +kernel
theorem dX0_shed_164 : decode cX0_shed 164 = .ok (.iinc 5 1, 3) := by decide +kernel
theorem dX0_shed_167 : decode cX0_shed 167 = .ok (.goto (-111), 3) := by decide +kernel
theorem dX0_shed_170 : decode cX0_shed 170 = .ok (.return_, 1) := by decide +kernel
theorem dX0_blow_0 : decode cX0_blow 0 = .ok (.aload_n 0, 1) := by decide +kernel
theorem dX0_blow_1 : decode cX0_blow 1 = .ok (.getfield 32, 3) := by decide +kernel
theorem dX0_blow_4 : decode cX0_blow 4 = .ok (.iconst 1, 1) := by decide +kernel
theorem dX0_blow_5 : decode cX0_blow 5 = .ok (.iload 4, 2) := by decide +kernel
theorem dX0_blow_7 : decode cX0_blow 7 = .ok (.iastore, 1) := by decide +kernel
theorem dX0_blow_8 : decode cX0_blow 8 = .ok (.aload_n 0, 1) := by decide +kernel
theorem dX0_blow_9 : decode cX0_blow 9 = .ok (.getfield 32, 3) := by decide +kernel
theorem dX0_blow_12 : decode cX0_blow 12 = .ok (.iconst 2, 1) := by decide +kernel
theorem dX0_blow_13 : decode cX0_blow 13 = .ok (.iload 5, 2) := by decide +kernel
theorem dX0_blow_15 : decode cX0_blow 15 = .ok (.iastore, 1) := by decide +kernel
theorem dX0_blow_16 : decode cX0_blow 16 = .ok (.aload_n 0, 1) := by decide +kernel
theorem dX0_blow_17 : decode cX0_blow 17 = .ok (.getfield 11, 3) := by decide +kernel
theorem dX0_blow_20 : decode cX0_blow 20 = .ok (.aload_n 0, 1) := by decide +kernel
theorem dX0_blow_21 : decode cX0_blow 21 = .ok (.getfield 16, 3) := by decide +kernel
theorem dX0_blow_24 : decode cX0_blow 24 = .ok (.invokestatic 125, 3) := by decide +kernel
theorem dX0_blow_27 : decode cX0_blow 27 = .ok (.iconst 0, 1) := by decide +kernel
theorem dX0_blow_28 : decode cX0_blow 28 = .ok (.istore 6, 2) := by decide +kernel
theorem dX0_blow_30 : decode cX0_blow 30 = .ok (.iload 6, 2) := by decide +kernel
theorem dX0_blow_32 : decode cX0_blow 32 = .ok (.bipush 36, 2) := by decide +kernel
theorem dX0_blow_34 : decode cX0_blow 34 = .ok (.if_icmp .ge 154, 3) := by decide +kernel
theorem dX0_blow_37 : decode cX0_blow 37 = .ok (.aload_n 0, 1) := by decide +kernel
theorem dX0_blow_38 : decode cX0_blow 38 = .ok (.iload 6, 2) := by decide +kernel
theorem dX0_blow_40 : decode cX0_blow 40 = .ok (.invokevirtual 129, 3) := by decide +kernel
theorem dX0_blow_43 : decode cX0_blow 43 = .ok (.istore 7, 2) := by decide +kernel
theorem dX0_blow_45 : decode cX0_blow 45 = .ok (.iload 7, 2) := by decide +kernel
theorem dX0_blow_47 : decode cX0_blow 47 = .ok (.ifCond .ne 6, 3) := by decide +kernel
theorem dX0_blow_50 : decode cX0_blow 50 = .ok (.goto 132, 3) := by decide +kernel
theorem dX0_blow_53 : decode cX0_blow 53 = .ok (.iload 6, 2) := by decide +kernel
theorem dX0_blow_55 : decode cX0_blow 55 = .ok (.iload_n 3, 1) := by decide +kernel
theorem dX0_blow_56 : decode cX0_blow 56 = .ok (.invokestatic 133, 3) := by decide +kernel
theorem dX0_blow_59 : decode cX0_blow 59 = .ok (.istore 8, 2) := by decide +kernel
theorem dX0_blow_61 : decode cX0_blow 61 = .ok (.iconst 0, 1) := by decide +kernel
theorem dX0_blow_62 : decode cX0_blow 62 = .ok (.istore 9, 2) := by decide +kernel
theorem dX0_blow_64 : decode cX0_blow 64 = .ok (.iload 9, 2) := by decide +kernel
theorem dX0_blow_66 : decode cX0_blow 66 = .ok (.iconst 2, 1) := by decide +kernel
theorem dX0_blow_67 : decode cX0_blow 67 = .ok (.if_icmp .ge 115, 3) := by decide +kernel
theorem dX0_blow_70 : decode cX0_blow 70 = .ok (.aload_n 0, 1) := by decide +kernel
theorem dX0_blow_71 : decode cX0_blow 71 = .ok (.aload_n 2, 1) := by decide +kernel
theorem dX0_blow_72 : decode cX0_blow 72 = .ok (.iconst 1, 1) := by decide +kernel
theorem dX0_blow_73 : decode cX0_blow 73 = .ok (.iload 6, 2) := by decide +kernel
theorem dX0_blow_75 : decode cX0_blow 75 = .ok (.iload 9, 2) := by decide +kernel
theorem dX0_blow_77 : decode cX0_blow 77 = .ok (.iload 7, 2) := by decide +kernel
theorem dX0_blow_79 : decode cX0_blow 79 = .ok (.invokevirtual 136, 3) := by decide +kernel
theorem dX0_blow_82 : decode cX0_blow 82 = .ok (.istore 10, 2) := by decide +kernel
theorem dX0_blow_84 : decode cX0_blow 84 = .ok (.aload_n 1, 1) := by decide +kernel
theorem dX0_blow_85 : decode cX0_blow 85 = .ok (.getfield 140, 3) := by decide +kernel
theorem dX0_blow_88 : decode cX0_blow 88 = .ok (.iload 6, 2) := by decide +kernel
theorem dX0_blow_90 : decode cX0_blow 90 = .ok (.iaload, 1) := by decide +kernel
theorem dX0_blow_91 : decode cX0_blow 91 = .ok (.aload_n 1, 1) := by decide +kernel
theorem dX0_blow_92 : decode cX0_blow 92 = .ok (.getfield 143, 3) := by decide +kernel
theorem dX0_blow_95 : decode cX0_blow 95 = .ok (.iload 6, 2) := by decide +kernel
theorem dX0_blow_97 : decode cX0_blow 97 = .ok (.iaload, 1) := by decide +kernel
theorem dX0_blow_98 : decode cX0_blow 98 = .ok (.iload 10, 2) := by decide +kernel
theorem dX0_blow_100 : decode cX0_blow 100 = .ok (.invokestatic 146, 3) := by decide +kernel
theorem dX0_blow_103 : decode cX0_blow 103 = .ok (.istore 11, 2) := by decide +kernel
theorem dX0_blow_105 : decode cX0_blow 105 = .ok (.iload 8, 2) := by decide +kernel
theorem dX0_blow_107 : decode cX0_blow 107 = .ok (.iconst (-1), 1) := by decide +kernel
theorem dX0_blow_108 : decode cX0_blow 108 = .ok (.if_icmp .ne 17, 3) := by decide +kernel
theorem dX0_blow_111 : decode cX0_blow 111 = .ok (.aload_n 0, 1) := by decide +kernel
theorem dX0_blow_112 : decode cX0_blow 112 = .ok (.getfield 29, 3) := by decide +kernel
theorem dX0_blow_115 : decode cX0_blow 115 = .ok (.iload_n 3, 1) := by decide +kernel
theorem dX0_blow_116 : decode cX0_blow 116 = .ok (.dup2, 1) := by decide +kernel
theorem dX0_blow_117 : decode cX0_blow 117 = .ok (.iaload, 1) := by decide +kernel
theorem dX0_blow_118 : decode cX0_blow 118 = .ok (.iload 11, 2) := by decide +kernel
theorem dX0_blow_120 : decode cX0_blow 120 = .ok (.iadd, 1) := by decide +kernel
theorem dX0_blow_121 : decode cX0_blow 121 = .ok (.iastore, 1) := by decide +kernel
theorem dX0_blow_122 : decode cX0_blow 122 = .ok (.goto 39, 3) := by decide +kernel
theorem dX0_blow_125 : decode cX0_blow 125 = .ok (.aload_n 1, 1) := by decide +kernel
theorem dX0_blow_126 : decode cX0_blow 126 = .ok (.getfield 140, 3) := by decide +kernel
theorem dX0_blow_129 : decode cX0_blow 129 = .ok (.iload 8, 2) := by decide +kernel
theorem dX0_blow_131 : decode cX0_blow 131 = .ok (.iaload, 1) := by decide +kernel
theorem dX0_blow_132 : decode cX0_blow 132 = .ok (.aload_n 1, 1) := by decide +kernel
theorem dX0_blow_133 : decode cX0_blow 133 = .ok (.getfield 143, 3) := by decide +kernel
theorem dX0_blow_136 : decode cX0_blow 136 = .ok (.iload 8, 2) := by decide +kernel
theorem dX0_blow_138 : decode cX0_blow 138 = .ok (.iaload, 1) := by decide +kernel
theorem dX0_blow_139 : decode cX0_blow 139 = .ok (.iload 11, 2) := by decide +kernel
theorem dX0_blow_141 : decode cX0_blow 141 = .ok (.invokestatic 152, 3) := by decide +kernel
theorem dX0_blow_144 : decode cX0_blow 144 = .ok (.istore 11, 2) := by decide +kernel
theorem dX0_blow_146 : decode cX0_blow 146 = .ok (.aload_n 0, 1) := by decide +kernel
theorem dX0_blow_147 : decode cX0_blow 147 = .ok (.getfield 16, 3) := by decide +kernel
theorem dX0_blow_150 : decode cX0_blow 150 = .ok (.iload 9, 2) := by decide +kernel
theorem dX0_blow_152 : decode cX0_blow 152 = .ok (.aaload, 1) := by decide +kernel
theorem dX0_blow_153 : decode cX0_blow 153 = .ok (.iload 8, 2) := by decide +kernel
theorem dX0_blow_155 : decode cX0_blow 155 = .ok (.dup2, 1) := by decide +kernel
theorem dX0_blow_156 : decode cX0_blow 156 = .ok (.iaload, 1) := by decide +kernel
theorem dX0_blow_157 : decode cX0_blow 157 = .ok (.iload 11, 2) := by decide +kernel
theorem dX0_blow_159 : decode cX0_blow 159 = .ok (.iadd, 1) := by decide +kernel
theorem dX0_blow_160 : decode cX0_blow 160 = .ok (.iastore, 1) := by decide +kernel
theorem dX0_blow_161 : decode cX0_blow 161 = .ok (.aload_n 0, 1) := by decide +kernel
theorem dX0_blow_162 : decode cX0_blow 162 = .ok (.getfield 16, 3) := by decide +kernel
theorem dX0_blow_165 : decode cX0_blow 165 = .ok (.iload 9, 2) := by decide +kernel
theorem dX0_blow_167 : decode cX0_blow 167 = .ok (.aaload, 1) := by decide +kernel
theorem dX0_blow_168 : decode cX0_blow 168 = .ok (.iload 6, 2) := by decide +kernel
theorem dX0_blow_170 : decode cX0_blow 170 = .ok (.dup2, 1) := by decide +kernel
theorem dX0_blow_171 : decode cX0_blow 171 = .ok (.iaload, 1) := by decide +kernel
theorem dX0_blow_172 : decode cX0_blow 172 = .ok (.iload 11, 2) := by decide +kernel
theorem dX0_blow_174 : decode cX0_blow 174 = .ok (.isub, 1) := by decide +kernel
theorem dX0_blow_175 : decode cX0_blow 175 = .ok (.iastore, 1) := by decide +kernel
theorem dX0_blow_176 : decode cX0_blow 176 = .ok (.iinc 9 1, 3) := by decide +kernel
theorem dX0_blow_179 : decode cX0_blow 179 = .ok (.goto (-115), 3) := by decide +kernel
theorem dX0_blow_182 : decode cX0_blow 182 = .ok (.iinc 6 1, 3) := by decide +kernel
theorem dX0_blow_185 : decode cX0_blow 185 = .ok (.goto (-155), 3) := by decide +kernel
theorem dX0_blow_188 : decode cX0_blow 188 = .ok (.aload_n 0, 1) := by decide +kernel
theorem dX0_blow_189 : decode cX0_blow 189 = .ok (.getfield 16, 3) := by decide +kernel
theorem dX0_blow_192 : decode cX0_blow 192 = .ok (.aload_n 0, 1) := by decide +kernel
theorem dX0_blow_193 : decode cX0_blow 193 = .ok (.getfield 11, 3) := by decide +kernel
theorem dX0_blow_196 : decode cX0_blow 196 = .ok (.invokestatic 125, 3) := by decide +kernel
theorem dX0_blow_199 : decode cX0_blow 199 = .ok (.return_, 1) := by decide +kernel
theorem dX0_rot_0 : decode cX0_rot 0 = .ok (.iconst 0, 1) := by decide +kernel
theorem dX0_rot_1 : decode cX0_rot 1 = .ok (.istore_n 2, 1) := by decide +kernel
theorem dX0_rot_2 : decode cX0_rot 2 = .ok (.iload_n 2, 1) := by decide +kernel
theorem dX0_rot_3 : decode cX0_rot 3 = .ok (.bipush 36, 2) := by decide +kernel
theorem dX0_rot_5 : decode cX0_rot 5 = .ok (.if_icmp .ge 67, 3) := by decide +kernel
theorem dX0_rot_8 : decode cX0_rot 8 = .ok (.aload_n 0, 1) := by decide +kernel
theorem dX0_rot_9 : decode cX0_rot 9 = .ok (.iload_n 2, 1) := by decide +kernel
theorem dX0_rot_10 : decode cX0_rot 10 = .ok (.invokevirtual 129, 3) := by decide +kernel
theorem dX0_rot_13 : decode cX0_rot 13 = .ok (.istore_n 3, 1) := by decide +kernel
theorem dX0_rot_14 : decode cX0_rot 14 = .ok (.iconst 0, 1) := by decide +kernel
theorem dX0_rot_15 : decode cX0_rot 15 = .ok (.istore 4, 2) := by decide +kernel
theorem dX0_rot_17 : decode cX0_rot 17 = .ok (.iload 4, 2) := by decide +kernel
theorem dX0_rot_19 : decode cX0_rot 19 = .ok (.iconst 2, 1) := by decide +kernel
theorem dX0_rot_20 : decode cX0_rot 20 = .ok (.if_icmp .ge 46, 3) := by decide +kernel
theorem dX0_rot_23 : decode cX0_rot 23 = .ok (.aload_n 0, 1) := by decide +kernel
theorem dX0_rot_24 : decode cX0_rot 24 = .ok (.aload_n 1, 1) := by decide +kernel
theorem dX0_rot_25 : decode cX0_rot 25 = .ok (.iconst 2, 1) := by decide +kernel
theorem dX0_rot_26 : decode cX0_rot 26 = .ok (.iload_n 2, 1) := by decide +kernel
theorem dX0_rot_27 : decode cX0_rot 27 = .ok (.iload 4, 2) := by decide +kernel
theorem dX0_rot_29 : decode cX0_rot 29 = .ok (.iload_n 3, 1) := by decide +kernel
theorem dX0_rot_30 : decode cX0_rot 30 = .ok (.invokevirtual 136, 3) := by decide +kernel
theorem dX0_rot_33 : decode cX0_rot 33 = .ok (.istore 5, 2) := by decide +kernel
theorem dX0_rot_35 : decode cX0_rot 35 = .ok (.aload_n 0, 1) := by decide +kernel
theorem dX0_rot_36 : decode cX0_rot 36 = .ok (.getfield 11, 3) := by decide +kernel
theorem dX0_rot_39 : decode cX0_rot 39 = .ok (.iload 4, 2) := by decide +kernel
theorem dX0_rot_41 : decode cX0_rot 41 = .ok (.aaload, 1) := by decide +kernel
theorem dX0_rot_42 : decode cX0_rot 42 = .ok (.iload_n 2, 1) := by decide +kernel
theorem dX0_rot_43 : decode cX0_rot 43 = .ok (.dup2, 1) := by decide +kernel
theorem dX0_rot_44 : decode cX0_rot 44 = .ok (.iaload, 1) := by decide +kernel
theorem dX0_rot_45 : decode cX0_rot 45 = .ok (.iload 5, 2) := by decide +kernel
theorem dX0_rot_47 : decode cX0_rot 47 = .ok (.isub, 1) := by decide +kernel
theorem dX0_rot_48 : decode cX0_rot 48 = .ok (.iastore, 1) := by decide +kernel
theorem dX0_rot_49 : decode cX0_rot 49 = .ok (.aload_n 0, 1) := by decide +kernel
theorem dX0_rot_50 : decode cX0_rot 50 = .ok (.dup, 1) := by decide +kernel
theorem dX0_rot_51 : decode cX0_rot 51 = .ok (.getfield 59, 3) := by decide +kernel
theorem dX0_rot_54 : decode cX0_rot 54 = .ok (.iload 5, 2) := by decide +kernel
theorem dX0_rot_56 : decode cX0_rot 56 = .ok (.iadd, 1) := by decide +kernel
theorem dX0_rot_57 : decode cX0_rot 57 = .ok (.putfield 59, 3) := by decide +kernel
theorem dX0_rot_60 : decode cX0_rot 60 = .ok (.iinc 4 1, 3) := by decide +kernel
theorem dX0_rot_63 : decode cX0_rot 63 = .ok (.goto (-46), 3) := by decide +kernel
theorem dX0_rot_66 : decode cX0_rot 66 = .ok (.iinc 2 1, 3) := by decide +kernel
theorem dX0_rot_69 : decode cX0_rot 69 = .ok (.goto (-67), 3) := by decide +kernel
theorem dX0_rot_72 : decode cX0_rot 72 = .ok (.return_, 1) := by decide +kernel
theorem dX0_portion_0 : decode cX0_portion 0 = .ok (.aload_n 0, 1) := by decide +kernel
theorem dX0_portion_1 : decode cX0_portion 1 = .ok (.getfield 11, 3) := by decide +kernel
theorem dX0_portion_4 : decode cX0_portion 4 = .ok (.iload 4, 2) := by decide +kernel
theorem dX0_portion_6 : decode cX0_portion 6 = .ok (.aaload, 1) := by decide +kernel
theorem dX0_portion_7 : decode cX0_portion 7 = .ok (.iload_n 3, 1) := by decide +kernel
theorem dX0_portion_8 : decode cX0_portion 8 = .ok (.iaload, 1) := by decide +kernel
theorem dX0_portion_9 : decode cX0_portion 9 = .ok (.istore 6, 2) := by decide +kernel
theorem dX0_portion_11 : decode cX0_portion 11 = .ok (.iload 6, 2) := by decide +kernel
theorem dX0_portion_13 : decode cX0_portion 13 = .ok (.ifCond .ne 5, 3) := by decide +kernel
theorem dX0_portion_16 : decode cX0_portion 16 = .ok (.iconst 0, 1) := by decide +kernel
theorem dX0_portion_17 : decode cX0_portion 17 = .ok (.ireturn, 1) := by decide +kernel
theorem dX0_portion_18 : decode cX0_portion 18 = .ok (.aload_n 0, 1) := by decide +kernel
theorem dX0_portion_19 : decode cX0_portion 19 = .ok (.getfield 32, 3) := by decide +kernel
theorem dX0_portion_22 : decode cX0_portion 22 = .ok (.iconst 0, 1) := by decide +kernel
theorem dX0_portion_23 : decode cX0_portion 23 = .ok (.iconst 0, 1) := by decide +kernel
theorem dX0_portion_24 : decode cX0_portion 24 = .ok (.iastore, 1) := by decide +kernel
theorem dX0_portion_25 : decode cX0_portion 25 = .ok (.aload_n 0, 1) := by decide +kernel
theorem dX0_portion_26 : decode cX0_portion 26 = .ok (.getfield 32, 3) := by decide +kernel
theorem dX0_portion_29 : decode cX0_portion 29 = .ok (.iconst 3, 1) := by decide +kernel
theorem dX0_portion_30 : decode cX0_portion 30 = .ok (.iload 4, 2) := by decide +kernel
theorem dX0_portion_32 : decode cX0_portion 32 = .ok (.iastore, 1) := by decide +kernel
theorem dX0_portion_33 : decode cX0_portion 33 = .ok (.aload_n 0, 1) := by decide +kernel
theorem dX0_portion_34 : decode cX0_portion 34 = .ok (.getfield 32, 3) := by decide +kernel
theorem dX0_portion_37 : decode cX0_portion 37 = .ok (.iconst 4, 1) := by decide +kernel
theorem dX0_portion_38 : decode cX0_portion 38 = .ok (.iconst 0, 1) := by decide +kernel
theorem dX0_portion_39 : decode cX0_portion 39 = .ok (.iastore, 1) := by decide +kernel
theorem dX0_portion_40 : decode cX0_portion 40 = .ok (.aload_n 0, 1) := by decide +kernel
theorem dX0_portion_41 : decode cX0_portion 41 = .ok (.getfield 32, 3) := by decide +kernel
theorem dX0_portion_44 : decode cX0_portion 44 = .ok (.iconst 5, 1) := by decide +kernel
theorem dX0_portion_45 : decode cX0_portion 45 = .ok (.iload 5, 2) := by decide +kernel
theorem dX0_portion_47 : decode cX0_portion 47 = .ok (.iastore, 1) := by decide +kernel
theorem dX0_portion_48 : decode cX0_portion 48 = .ok (.iload 6, 2) := by decide +kernel
theorem dX0_portion_50 : decode cX0_portion 50 = .ok (.aload_n 1, 1) := by decide +kernel
theorem dX0_portion_51 : decode cX0_portion 51 = .ok (.iload_n 2, 1) := by decide +kernel
theorem dX0_portion_52 : decode cX0_portion 52 = .ok (.aload_n 0, 1) := by decide +kernel
theorem dX0_portion_53 : decode cX0_portion 53 = .ok (.getfield 32, 3) := by decide +kernel
theorem dX0_portion_56 : decode cX0_portion 56 = .ok (.invokevirtual 110, 3) := by decide +kernel
theorem dX0_portion_59 : decode cX0_portion 59 = .ok (.imul, 1) := by decide +kernel
theorem dX0_portion_60 : decode cX0_portion 60 = .ok (.bipush 100, 2) := by decide +kernel
theorem dX0_portion_62 : decode cX0_portion 62 = .ok (.idiv, 1) := by decide +kernel
theorem dX0_portion_63 : decode cX0_portion 63 = .ok (.ireturn, 1) := by decide +kernel
theorem dX0_cover_0 : decode cX0_cover 0 = .ok (.iconst 0, 1) := by decide +kernel
theorem dX0_cover_1 : decode cX0_cover 1 = .ok (.istore_n 2, 1) := by decide +kernel
theorem dX0_cover_2 : decode cX0_cover 2 = .ok (.iload_n 2, 1) := by decide +kernel
theorem dX0_cover_3 : decode cX0_cover 3 = .ok (.bipush 36, 2) := by decide +kernel
theorem dX0_cover_5 : decode cX0_cover 5 = .ok (.if_icmp .ge 41, 3) := by decide +kernel
theorem dX0_cover_8 : decode cX0_cover 8 = .ok (.aload_n 1, 1) := by decide +kernel
theorem dX0_cover_9 : decode cX0_cover 9 = .ok (.getfield 140, 3) := by decide +kernel
theorem dX0_cover_12 : decode cX0_cover 12 = .ok (.iload_n 2, 1) := by decide +kernel
theorem dX0_cover_13 : decode cX0_cover 13 = .ok (.iaload, 1) := by decide +kernel
theorem dX0_cover_14 : decode cX0_cover 14 = .ok (.invokestatic 155, 3) := by decide +kernel
theorem dX0_cover_17 : decode cX0_cover 17 = .ok (.ifCond .eq 23, 3) := by decide +kernel
theorem dX0_cover_20 : decode cX0_cover 20 = .ok (.aload_n 0, 1) := by decide +kernel
theorem dX0_cover_21 : decode cX0_cover 21 = .ok (.iload_n 2, 1) := by decide +kernel
theorem dX0_cover_22 : decode cX0_cover 22 = .ok (.invokevirtual 129, 3) := by decide +kernel
theorem dX0_cover_25 : decode cX0_cover 25 = .ok (.bipush 20, 2) := by decide +kernel
theorem dX0_cover_27 : decode cX0_cover 27 = .ok (.if_icmp .lt 13, 3) := by decide +kernel
theorem dX0_cover_30 : decode cX0_cover 30 = .ok (.aload_n 0, 1) := by decide +kernel
theorem dX0_cover_31 : decode cX0_cover 31 = .ok (.getfield 19, 3) := by decide +kernel
theorem dX0_cover_34 : decode cX0_cover 34 = .ok (.iload_n 2, 1) := by decide +kernel
theorem dX0_cover_35 : decode cX0_cover 35 = .ok (.dup2, 1) := by decide +kernel
theorem dX0_cover_36 : decode cX0_cover 36 = .ok (.iaload, 1) := by decide +kernel
theorem dX0_cover_37 : decode cX0_cover 37 = .ok (.iconst 1, 1) := by decide +kernel
theorem dX0_cover_38 : decode cX0_cover 38 = .ok (.iadd, 1) := by decide +kernel
theorem dX0_cover_39 : decode cX0_cover 39 = .ok (.iastore, 1) := by decide +kernel
theorem dX0_cover_40 : decode cX0_cover 40 = .ok (.iinc 2 1, 3) := by decide +kernel
theorem dX0_cover_43 : decode cX0_cover 43 = .ok (.goto (-41), 3) := by decide +kernel
theorem dX0_cover_46 : decode cX0_cover 46 = .ok (.return_, 1) := by decide +kernel
theorem dX0_rakeUp_0 : decode cX0_rakeUp 0 = .ok (.aload_n 0, 1) := by decide +kernel
theorem dX0_rakeUp_1 : decode cX0_rakeUp 1 = .ok (.dup, 1) := by decide +kernel
theorem dX0_rakeUp_2 : decode cX0_rakeUp 2 = .ok (.getfield 65, 3) := by decide +kernel
theorem dX0_rakeUp_5 : decode cX0_rakeUp 5 = .ok (.iload_n 1, 1) := by decide +kernel
theorem dX0_rakeUp_6 : decode cX0_rakeUp 6 = .ok (.iadd, 1) := by decide +kernel
theorem dX0_rakeUp_7 : decode cX0_rakeUp 7 = .ok (.putfield 65, 3) := by decide +kernel
theorem dX0_rakeUp_10 : decode cX0_rakeUp 10 = .ok (.aload_n 0, 1) := by decide +kernel
theorem dX0_rakeUp_11 : decode cX0_rakeUp 11 = .ok (.dup, 1) := by decide +kernel
theorem dX0_rakeUp_12 : decode cX0_rakeUp 12 = .ok (.getfield 62, 3) := by decide +kernel
theorem dX0_rakeUp_15 : decode cX0_rakeUp 15 = .ok (.aload_n 0, 1) := by decide +kernel
theorem dX0_rakeUp_16 : decode cX0_rakeUp 16 = .ok (.invokevirtual 159, 3) := by decide +kernel
theorem dX0_rakeUp_19 : decode cX0_rakeUp 19 = .ok (.iadd, 1) := by decide +kernel
theorem dX0_rakeUp_20 : decode cX0_rakeUp 20 = .ok (.putfield 62, 3) := by decide +kernel
theorem dX0_rakeUp_23 : decode cX0_rakeUp 23 = .ok (.aload_n 0, 1) := by decide +kernel
theorem dX0_rakeUp_24 : decode cX0_rakeUp 24 = .ok (.getfield 11, 3) := by decide +kernel
theorem dX0_rakeUp_27 : decode cX0_rakeUp 27 = .ok (.iconst 0, 1) := by decide +kernel
theorem dX0_rakeUp_28 : decode cX0_rakeUp 28 = .ok (.aaload, 1) := by decide +kernel
theorem dX0_rakeUp_29 : decode cX0_rakeUp 29 = .ok (.iconst 0, 1) := by decide +kernel
theorem dX0_rakeUp_30 : decode cX0_rakeUp 30 = .ok (.invokestatic 46, 3) := by decide +kernel
theorem dX0_rakeUp_33 : decode cX0_rakeUp 33 = .ok (.aload_n 0, 1) := by decide +kernel
theorem dX0_rakeUp_34 : decode cX0_rakeUp 34 = .ok (.getfield 11, 3) := by decide +kernel
theorem dX0_rakeUp_37 : decode cX0_rakeUp 37 = .ok (.iconst 1, 1) := by decide +kernel
theorem dX0_rakeUp_38 : decode cX0_rakeUp 38 = .ok (.aaload, 1) := by decide +kernel
theorem dX0_rakeUp_39 : decode cX0_rakeUp 39 = .ok (.iconst 0, 1) := by decide +kernel
theorem dX0_rakeUp_40 : decode cX0_rakeUp 40 = .ok (.invokestatic 46, 3) := by decide +kernel
theorem dX0_rakeUp_43 : decode cX0_rakeUp 43 = .ok (.return_, 1) := by decide +kernel
theorem dX0_copyRows_0 : decode cX0_copyRows 0 = .ok (.aload_n 0, 1) := by decide +kernel
theorem dX0_copyRows_1 : decode cX0_copyRows 1 = .ok (.iconst 0, 1) := by decide +kernel
theorem dX0_copyRows_2 : decode cX0_copyRows 2 = .ok (.aaload, 1) := by decide +kernel
theorem dX0_copyRows_3 : decode cX0_copyRows 3 = .ok (.iconst 0, 1) := by decide +kernel
theorem dX0_copyRows_4 : decode cX0_copyRows 4 = .ok (.aload_n 1, 1) := by decide +kernel
theorem dX0_copyRows_5 : decode cX0_copyRows 5 = .ok (.iconst 0, 1) := by decide +kernel
theorem dX0_copyRows_6 : decode cX0_copyRows 6 = .ok (.aaload, 1) := by decide +kernel
theorem dX0_copyRows_7 : decode cX0_copyRows 7 = .ok (.iconst 0, 1) := by decide +kernel
theorem dX0_copyRows_8 : decode cX0_copyRows 8 = .ok (.bipush 36, 2) := by decide +kernel
theorem dX0_copyRows_10 : decode cX0_copyRows 10 = .ok (.invokestatic 40, 3) := by decide +kernel
theorem dX0_copyRows_13 : decode cX0_copyRows 13 = .ok (.aload_n 0, 1) := by decide +kernel
theorem dX0_copyRows_14 : decode cX0_copyRows 14 = .ok (.iconst 1, 1) := by decide +kernel
theorem dX0_copyRows_15 : decode cX0_copyRows 15 = .ok (.aaload, 1) := by decide +kernel
theorem dX0_copyRows_16 : decode cX0_copyRows 16 = .ok (.iconst 0, 1) := by decide +kernel
theorem dX0_copyRows_17 : decode cX0_copyRows 17 = .ok (.aload_n 1, 1) := by decide +kernel
theorem dX0_copyRows_18 : decode cX0_copyRows 18 = .ok (.iconst 1, 1) := by decide +kernel
theorem dX0_copyRows_19 : decode cX0_copyRows 19 = .ok (.aaload, 1) := by decide +kernel
theorem dX0_copyRows_20 : decode cX0_copyRows 20 = .ok (.iconst 0, 1) := by decide +kernel
theorem dX0_copyRows_21 : decode cX0_copyRows 21 = .ok (.bipush 36, 2) := by decide +kernel
theorem dX0_copyRows_23 : decode cX0_copyRows 23 = .ok (.invokestatic 40, 3) := by decide +kernel
theorem dX0_copyRows_26 : decode cX0_copyRows 26 = .ok (.return_, 1) := by decide +kernel
theorem dX0_next_0 : decode cX0_next 0 = .ok (.iload_n 1, 1) := by decide +kernel
theorem dX0_next_1 : decode cX0_next 1 = .ok (.tableswitch 76 0 2 #[27, 44, 60], 27) := by decide +kernel
theorem dX0_next_28 : decode cX0_next 28 = .ok (.iload_n 0, 1) := by decide +kernel
theorem dX0_next_29 : decode cX0_next 29 = .ok (.bipush 6, 2) := by decide +kernel
theorem dX0_next_31 : decode cX0_next 31 = .ok (.idiv, 1) := by decide +kernel
theorem dX0_next_32 : decode cX0_next 32 = .ok (.iconst 5, 1) := by decide +kernel
theorem dX0_next_33 : decode cX0_next 33 = .ok (.if_icmp .ge 10, 3) := by decide +kernel
theorem dX0_next_36 : decode cX0_next 36 = .ok (.iload_n 0, 1) := by decide +kernel
theorem dX0_next_37 : decode cX0_next 37 = .ok (.bipush 6, 2) := by decide +kernel
theorem dX0_next_39 : decode cX0_next 39 = .ok (.iadd, 1) := by decide +kernel
theorem dX0_next_40 : decode cX0_next 40 = .ok (.goto 4, 3) := by decide +kernel
theorem dX0_next_43 : decode cX0_next 43 = .ok (.iconst (-1), 1) := by decide +kernel
theorem dX0_next_44 : decode cX0_next 44 = .ok (.ireturn, 1) := by decide +kernel
theorem dX0_next_45 : decode cX0_next 45 = .ok (.iload_n 0, 1) := by decide +kernel
theorem dX0_next_46 : decode cX0_next 46 = .ok (.bipush 6, 2) := by decide +kernel
theorem dX0_next_48 : decode cX0_next 48 = .ok (.irem, 1) := by decide +kernel
theorem dX0_next_49 : decode cX0_next 49 = .ok (.iconst 5, 1) := by decide +kernel
theorem dX0_next_50 : decode cX0_next 50 = .ok (.if_icmp .ge 9, 3) := by decide +kernel
theorem dX0_next_53 : decode cX0_next 53 = .ok (.iload_n 0, 1) := by decide +kernel
theorem dX0_next_54 : decode cX0_next 54 = .ok (.iconst 1, 1) := by decide +kernel
theorem dX0_next_55 : decode cX0_next 55 = .ok (.iadd, 1) := by decide +kernel
theorem dX0_next_56 : decode cX0_next 56 = .ok (.goto 4, 3) := by decide +kernel
theorem dX0_next_59 : decode cX0_next 59 = .ok (.iconst (-1), 1) := by decide +kernel
theorem dX0_next_60 : decode cX0_next 60 = .ok (.ireturn, 1) := by decide +kernel
theorem dX0_next_61 : decode cX0_next 61 = .ok (.iload_n 0, 1) := by decide +kernel
theorem dX0_next_62 : decode cX0_next 62 = .ok (.bipush 6, 2) := by decide +kernel
theorem dX0_next_64 : decode cX0_next 64 = .ok (.idiv, 1) := by decide +kernel
theorem dX0_next_65 : decode cX0_next 65 = .ok (.ifCond .le 10, 3) := by decide +kernel
theorem dX0_next_68 : decode cX0_next 68 = .ok (.iload_n 0, 1) := by decide +kernel
theorem dX0_next_69 : decode cX0_next 69 = .ok (.bipush 6, 2) := by decide +kernel
theorem dX0_next_71 : decode cX0_next 71 = .ok (.isub, 1) := by decide +kernel
theorem dX0_next_72 : decode cX0_next 72 = .ok (.goto 4, 3) := by decide +kernel
theorem dX0_next_75 : decode cX0_next 75 = .ok (.iconst (-1), 1) := by decide +kernel
theorem dX0_next_76 : decode cX0_next 76 = .ok (.ireturn, 1) := by decide +kernel
theorem dX0_next_77 : decode cX0_next 77 = .ok (.iload_n 0, 1) := by decide +kernel
theorem dX0_next_78 : decode cX0_next 78 = .ok (.bipush 6, 2) := by decide +kernel
theorem dX0_next_80 : decode cX0_next 80 = .ok (.irem, 1) := by decide +kernel
theorem dX0_next_81 : decode cX0_next 81 = .ok (.ifCond .le 9, 3) := by decide +kernel
theorem dX0_next_84 : decode cX0_next 84 = .ok (.iload_n 0, 1) := by decide +kernel
theorem dX0_next_85 : decode cX0_next 85 = .ok (.iconst 1, 1) := by decide +kernel
theorem dX0_next_86 : decode cX0_next 86 = .ok (.isub, 1) := by decide +kernel
theorem dX0_next_87 : decode cX0_next 87 = .ok (.goto 4, 3) := by decide +kernel
theorem dX0_next_90 : decode cX0_next 90 = .ok (.iconst (-1), 1) := by decide +kernel
theorem dX0_next_91 : decode cX0_next 91 = .ok (.ireturn, 1) := by decide +kernel
theorem dX0_lyingIn_0 : decode cX0_lyingIn 0 = .ok (.aload_n 0, 1) := by decide +kernel
theorem dX0_lyingIn_1 : decode cX0_lyingIn 1 = .ok (.getfield 11, 3) := by decide +kernel
theorem dX0_lyingIn_4 : decode cX0_lyingIn 4 = .ok (.iconst 0, 1) := by decide +kernel
theorem dX0_lyingIn_5 : decode cX0_lyingIn 5 = .ok (.aaload, 1) := by decide +kernel
theorem dX0_lyingIn_6 : decode cX0_lyingIn 6 = .ok (.iload_n 1, 1) := by decide +kernel
theorem dX0_lyingIn_7 : decode cX0_lyingIn 7 = .ok (.iaload, 1) := by decide +kernel
theorem dX0_lyingIn_8 : decode cX0_lyingIn 8 = .ok (.aload_n 0, 1) := by decide +kernel
theorem dX0_lyingIn_9 : decode cX0_lyingIn 9 = .ok (.getfield 11, 3) := by decide +kernel
theorem dX0_lyingIn_12 : decode cX0_lyingIn 12 = .ok (.iconst 1, 1) := by decide +kernel
theorem dX0_lyingIn_13 : decode cX0_lyingIn 13 = .ok (.aaload, 1) := by decide +kernel
theorem dX0_lyingIn_14 : decode cX0_lyingIn 14 = .ok (.iload_n 1, 1) := by decide +kernel
theorem dX0_lyingIn_15 : decode cX0_lyingIn 15 = .ok (.iaload, 1) := by decide +kernel
theorem dX0_lyingIn_16 : decode cX0_lyingIn 16 = .ok (.iadd, 1) := by decide +kernel
theorem dX0_lyingIn_17 : decode cX0_lyingIn 17 = .ok (.ireturn, 1) := by decide +kernel
theorem dX0_tellLying_0 : decode cX0_tellLying 0 = .ok (.iconst 0, 1) := by decide +kernel
theorem dX0_tellLying_1 : decode cX0_tellLying 1 = .ok (.istore_n 2, 1) := by decide +kernel
theorem dX0_tellLying_2 : decode cX0_tellLying 2 = .ok (.iload_n 2, 1) := by decide +kernel
theorem dX0_tellLying_3 : decode cX0_tellLying 3 = .ok (.bipush 36, 2) := by decide +kernel
theorem dX0_tellLying_5 : decode cX0_tellLying 5 = .ok (.if_icmp .ge 17, 3) := by decide +kernel
theorem dX0_tellLying_8 : decode cX0_tellLying 8 = .ok (.aload_n 1, 1) := by decide +kernel
theorem dX0_tellLying_9 : decode cX0_tellLying 9 = .ok (.iload_n 2, 1) := by decide +kernel
theorem dX0_tellLying_10 : decode cX0_tellLying 10 = .ok (.aload_n 0, 1) := by decide +kernel
theorem dX0_tellLying_11 : decode cX0_tellLying 11 = .ok (.iload_n 2, 1) := by decide +kernel
theorem dX0_tellLying_12 : decode cX0_tellLying 12 = .ok (.invokevirtual 129, 3) := by decide +kernel
theorem dX0_tellLying_15 : decode cX0_tellLying 15 = .ok (.iastore, 1) := by decide +kernel
theorem dX0_tellLying_16 : decode cX0_tellLying 16 = .ok (.iinc 2 1, 3) := by decide +kernel
theorem dX0_tellLying_19 : decode cX0_tellLying 19 = .ok (.goto (-17), 3) := by decide +kernel
theorem dX0_tellLying_22 : decode cX0_tellLying 22 = .ok (.return_, 1) := by decide +kernel
theorem dX0_firstUnlike_0 : decode cX0_firstUnlike 0 = .ok (.iconst 0, 1) := by decide +kernel
theorem dX0_firstUnlike_1 : decode cX0_firstUnlike 1 = .ok (.istore_n 2, 1) := by decide +kernel
theorem dX0_firstUnlike_2 : decode cX0_firstUnlike 2 = .ok (.iload_n 2, 1) := by decide +kernel
theorem dX0_firstUnlike_3 : decode cX0_firstUnlike 3 = .ok (.bipush 36, 2) := by decide +kernel
theorem dX0_firstUnlike_5 : decode cX0_firstUnlike 5 = .ok (.if_icmp .ge 22, 3) := by decide +kernel
theorem dX0_firstUnlike_8 : decode cX0_firstUnlike 8 = .ok (.aload_n 1, 1) := by decide +kernel
theorem dX0_firstUnlike_9 : decode cX0_firstUnlike 9 = .ok (.iload_n 2, 1) := by decide +kernel
theorem dX0_firstUnlike_10 : decode cX0_firstUnlike 10 = .ok (.iaload, 1) := by decide +kernel
theorem dX0_firstUnlike_11 : decode cX0_firstUnlike 11 = .ok (.aload_n 0, 1) := by decide +kernel
theorem dX0_firstUnlike_12 : decode cX0_firstUnlike 12 = .ok (.iload_n 2, 1) := by decide +kernel
theorem dX0_firstUnlike_13 : decode cX0_firstUnlike 13 = .ok (.invokevirtual 129, 3) := by decide +kernel
theorem dX0_firstUnlike_16 : decode cX0_firstUnlike 16 = .ok (.if_icmp .eq 5, 3) := by decide +kernel
theorem dX0_firstUnlike_19 : decode cX0_firstUnlike 19 = .ok (.iload_n 2, 1) := by decide +kernel
theorem dX0_firstUnlike_20 : decode cX0_firstUnlike 20 = .ok (.ireturn, 1) := by decide +kernel
theorem dX0_firstUnlike_21 : decode cX0_firstUnlike 21 = .ok (.iinc 2 1, 3) := by decide +kernel
theorem dX0_firstUnlike_24 : decode cX0_firstUnlike 24 = .ok (.goto (-22), 3) := by decide +kernel
theorem dX0_firstUnlike_27 : decode cX0_firstUnlike 27 = .ok (.iconst (-1), 1) := by decide +kernel
theorem dX0_firstUnlike_28 : decode cX0_firstUnlike 28 = .ok (.ireturn, 1) := by decide +kernel
theorem dX0_lyingTogether_0 : decode cX0_lyingTogether 0 = .ok (.iconst 0, 1) := by decide +kernel
theorem dX0_lyingTogether_1 : decode cX0_lyingTogether 1 = .ok (.istore_n 1, 1) := by decide +kernel
theorem dX0_lyingTogether_2 : decode cX0_lyingTogether 2 = .ok (.iconst 0, 1) := by decide +kernel
theorem dX0_lyingTogether_3 : decode cX0_lyingTogether 3 = .ok (.istore_n 2, 1) := by decide +kernel
theorem dX0_lyingTogether_4 : decode cX0_lyingTogether 4 = .ok (.iload_n 2, 1) := by decide +kernel
theorem dX0_lyingTogether_5 : decode cX0_lyingTogether 5 = .ok (.bipush 36, 2) := by decide +kernel
theorem dX0_lyingTogether_7 : decode cX0_lyingTogether 7 = .ok (.if_icmp .ge 17, 3) := by decide +kernel
theorem dX0_lyingTogether_10 : decode cX0_lyingTogether 10 = .ok (.iload_n 1, 1) := by decide +kernel
theorem dX0_lyingTogether_11 : decode cX0_lyingTogether 11 = .ok (.aload_n 0, 1) := by decide +kernel
theorem dX0_lyingTogether_12 : decode cX0_lyingTogether 12 = .ok (.iload_n 2, 1) := by decide +kernel
theorem dX0_lyingTogether_13 : decode cX0_lyingTogether 13 = .ok (.invokevirtual 129, 3) := by decide +kernel
theorem dX0_lyingTogether_16 : decode cX0_lyingTogether 16 = .ok (.iadd, 1) := by decide +kernel
theorem dX0_lyingTogether_17 : decode cX0_lyingTogether 17 = .ok (.istore_n 1, 1) := by decide +kernel
theorem dX0_lyingTogether_18 : decode cX0_lyingTogether 18 = .ok (.iinc 2 1, 3) := by decide +kernel
theorem dX0_lyingTogether_21 : decode cX0_lyingTogether 21 = .ok (.goto (-17), 3) := by decide +kernel
theorem dX0_lyingTogether_24 : decode cX0_lyingTogether 24 = .ok (.iload_n 1, 1) := by decide +kernel
theorem dX0_lyingTogether_25 : decode cX0_lyingTogether 25 = .ok (.ireturn, 1) := by decide +kernel
theorem dX0_hangingTogether_0 : decode cX0_hangingTogether 0 = .ok (.iconst 0, 1) := by decide +kernel
theorem dX0_hangingTogether_1 : decode cX0_hangingTogether 1 = .ok (.istore_n 1, 1) := by decide +kernel
theorem dX0_hangingTogether_2 : decode cX0_hangingTogether 2 = .ok (.iconst 0, 1) := by decide +kernel
theorem dX0_hangingTogether_3 : decode cX0_hangingTogether 3 = .ok (.istore_n 2, 1) := by decide +kernel
theorem dX0_hangingTogether_4 : decode cX0_hangingTogether 4 = .ok (.iload_n 2, 1) := by decide +kernel
theorem dX0_hangingTogether_5 : decode cX0_hangingTogether 5 = .ok (.iconst 4, 1) := by decide +kernel
theorem dX0_hangingTogether_6 : decode cX0_hangingTogether 6 = .ok (.if_icmp .ge 18, 3) := by decide +kernel
theorem dX0_hangingTogether_9 : decode cX0_hangingTogether 9 = .ok (.iload_n 1, 1) := by decide +kernel
theorem dX0_hangingTogether_10 : decode cX0_hangingTogether 10 = .ok (.aload_n 0, 1) := by decide +kernel
theorem dX0_hangingTogether_11 : decode cX0_hangingTogether 11 = .ok (.getfield 23, 3) := by decide +kernel
theorem dX0_hangingTogether_14 : decode cX0_hangingTogether 14 = .ok (.iload_n 2, 1) := by decide +kernel
theorem dX0_hangingTogether_15 : decode cX0_hangingTogether 15 = .ok (.iaload, 1) := by decide +kernel
theorem dX0_hangingTogether_16 : decode cX0_hangingTogether 16 = .ok (.iadd, 1) := by decide +kernel
theorem dX0_hangingTogether_17 : decode cX0_hangingTogether 17 = .ok (.istore_n 1, 1) := by decide +kernel
theorem dX0_hangingTogether_18 : decode cX0_hangingTogether 18 = .ok (.iinc 2 1, 3) := by decide +kernel
theorem dX0_hangingTogether_21 : decode cX0_hangingTogether 21 = .ok (.goto (-17), 3) := by decide +kernel
theorem dX0_hangingTogether_24 : decode cX0_hangingTogether 24 = .ok (.iload_n 1, 1) := by decide +kernel
theorem dX0_hangingTogether_25 : decode cX0_hangingTogether 25 = .ok (.ireturn, 1) := by decide +kernel
theorem dX0_fallenIn_0 : decode cX0_fallenIn 0 = .ok (.iconst 0, 1) := by decide +kernel
theorem dX0_fallenIn_1 : decode cX0_fallenIn 1 = .ok (.istore_n 2, 1) := by decide +kernel
theorem dX0_fallenIn_2 : decode cX0_fallenIn 2 = .ok (.iconst 0, 1) := by decide +kernel
theorem dX0_fallenIn_3 : decode cX0_fallenIn 3 = .ok (.istore_n 3, 1) := by decide +kernel
theorem dX0_fallenIn_4 : decode cX0_fallenIn 4 = .ok (.iload_n 3, 1) := by decide +kernel
theorem dX0_fallenIn_5 : decode cX0_fallenIn 5 = .ok (.iload_n 1, 1) := by decide +kernel
theorem dX0_fallenIn_6 : decode cX0_fallenIn 6 = .ok (.if_icmp .ge 18, 3) := by decide +kernel
theorem dX0_fallenIn_9 : decode cX0_fallenIn 9 = .ok (.iload_n 2, 1) := by decide +kernel
theorem dX0_fallenIn_10 : decode cX0_fallenIn 10 = .ok (.aload_n 0, 1) := by decide +kernel
theorem dX0_fallenIn_11 : decode cX0_fallenIn 11 = .ok (.getfield 26, 3) := by decide +kernel
theorem dX0_fallenIn_14 : decode cX0_fallenIn 14 = .ok (.iload_n 3, 1) := by decide +kernel
theorem dX0_fallenIn_15 : decode cX0_fallenIn 15 = .ok (.iaload, 1) := by decide +kernel
theorem dX0_fallenIn_16 : decode cX0_fallenIn 16 = .ok (.iadd, 1) := by decide +kernel
theorem dX0_fallenIn_17 : decode cX0_fallenIn 17 = .ok (.istore_n 2, 1) := by decide +kernel
theorem dX0_fallenIn_18 : decode cX0_fallenIn 18 = .ok (.iinc 3 1, 3) := by decide +kernel
theorem dX0_fallenIn_21 : decode cX0_fallenIn 21 = .ok (.goto (-17), 3) := by decide +kernel
theorem dX0_fallenIn_24 : decode cX0_fallenIn 24 = .ok (.iload_n 2, 1) := by decide +kernel
theorem dX0_fallenIn_25 : decode cX0_fallenIn 25 = .ok (.ireturn, 1) := by decide +kernel
theorem dX0_offTogether_0 : decode cX0_offTogether 0 = .ok (.iconst 0, 1) := by decide +kernel
theorem dX0_offTogether_1 : decode cX0_offTogether 1 = .ok (.istore_n 1, 1) := by decide +kernel
theorem dX0_offTogether_2 : decode cX0_offTogether 2 = .ok (.iconst 0, 1) := by decide +kernel
theorem dX0_offTogether_3 : decode cX0_offTogether 3 = .ok (.istore_n 2, 1) := by decide +kernel
theorem dX0_offTogether_4 : decode cX0_offTogether 4 = .ok (.iload_n 2, 1) := by decide +kernel
theorem dX0_offTogether_5 : decode cX0_offTogether 5 = .ok (.iconst 4, 1) := by decide +kernel
theorem dX0_offTogether_6 : decode cX0_offTogether 6 = .ok (.if_icmp .ge 18, 3) := by decide +kernel
theorem dX0_offTogether_9 : decode cX0_offTogether 9 = .ok (.iload_n 1, 1) := by decide +kernel
theorem dX0_offTogether_10 : decode cX0_offTogether 10 = .ok (.aload_n 0, 1) := by decide +kernel
theorem dX0_offTogether_11 : decode cX0_offTogether 11 = .ok (.getfield 29, 3) := by decide +kernel
theorem dX0_offTogether_14 : decode cX0_offTogether 14 = .ok (.iload_n 2, 1) := by decide +kernel
theorem dX0_offTogether_15 : decode cX0_offTogether 15 = .ok (.iaload, 1) := by decide +kernel
theorem dX0_offTogether_16 : decode cX0_offTogether 16 = .ok (.iadd, 1) := by decide +kernel
theorem dX0_offTogether_17 : decode cX0_offTogether 17 = .ok (.istore_n 1, 1) := by decide +kernel
theorem dX0_offTogether_18 : decode cX0_offTogether 18 = .ok (.iinc 2 1, 3) := by decide +kernel
theorem dX0_offTogether_21 : decode cX0_offTogether 21 = .ok (.goto (-17), 3) := by decide +kernel
theorem dX0_offTogether_24 : decode cX0_offTogether 24 = .ok (.iload_n 1, 1) := by decide +kernel
theorem dX0_offTogether_25 : decode cX0_offTogether 25 = .ok (.ireturn, 1) := by decide +kernel
theorem dX0_total_0 : decode cX0_total 0 = .ok (.iload_n 1, 1) := by decide +kernel
theorem dX0_total_1 : decode cX0_total 1 = .ok (.tableswitch 60 0 4 #[35, 40, 45, 50, 55], 35) := by decide +kernel
theorem dX0_total_36 : decode cX0_total 36 = .ok (.aload_n 0, 1) := by decide +kernel
theorem dX0_total_37 : decode cX0_total 37 = .ok (.invokevirtual 159, 3) := by decide +kernel
theorem dX0_total_40 : decode cX0_total 40 = .ok (.ireturn, 1) := by decide +kernel
theorem dX0_total_41 : decode cX0_total 41 = .ok (.aload_n 0, 1) := by decide +kernel
theorem dX0_total_42 : decode cX0_total 42 = .ok (.invokevirtual 163, 3) := by decide +kernel
theorem dX0_total_45 : decode cX0_total 45 = .ok (.ireturn, 1) := by decide +kernel
theorem dX0_total_46 : decode cX0_total 46 = .ok (.aload_n 0, 1) := by decide +kernel
theorem dX0_total_47 : decode cX0_total 47 = .ok (.getfield 59, 3) := by decide +kernel
theorem dX0_total_50 : decode cX0_total 50 = .ok (.ireturn, 1) := by decide +kernel
theorem dX0_total_51 : decode cX0_total 51 = .ok (.aload_n 0, 1) := by decide +kernel
theorem dX0_total_52 : decode cX0_total 52 = .ok (.getfield 62, 3) := by decide +kernel
theorem dX0_total_55 : decode cX0_total 55 = .ok (.ireturn, 1) := by decide +kernel
theorem dX0_total_56 : decode cX0_total 56 = .ok (.aload_n 0, 1) := by decide +kernel
theorem dX0_total_57 : decode cX0_total 57 = .ok (.getfield 65, 3) := by decide +kernel
theorem dX0_total_60 : decode cX0_total 60 = .ok (.ireturn, 1) := by decide +kernel
theorem dX0_total_61 : decode cX0_total 61 = .ok (.aload_n 0, 1) := by decide +kernel
theorem dX0_total_62 : decode cX0_total 62 = .ok (.getfield 29, 3) := by decide +kernel
theorem dX0_total_65 : decode cX0_total 65 = .ok (.iload_n 1, 1) := by decide +kernel
theorem dX0_total_66 : decode cX0_total 66 = .ok (.iconst 5, 1) := by decide +kernel
theorem dX0_total_67 : decode cX0_total 67 = .ok (.isub, 1) := by decide +kernel
theorem dX0_total_68 : decode cX0_total 68 = .ok (.iaload, 1) := by decide +kernel
theorem dX0_total_69 : decode cX0_total 69 = .ok (.ireturn, 1) := by decide +kernel
theorem dX1_init_0 : decode cX1_init 0 = .ok (.aload_n 0, 1) := by decide +kernel
theorem dX1_init_1 : decode cX1_init 1 = .ok (.invokespecial 3, 3) := by decide +kernel
theorem dX1_init_4 : decode cX1_init 4 = .ok (.aload_n 0, 1) := by decide +kernel
theorem dX1_init_5 : decode cX1_init 5 = .ok (.bipush 36, 2) := by decide +kernel
theorem dX1_init_7 : decode cX1_init 7 = .ok (.newarray .int, 2) := by decide +kernel
theorem dX1_init_9 : decode cX1_init 9 = .ok (.putfield 9, 3) := by decide +kernel
theorem dX1_init_12 : decode cX1_init 12 = .ok (.return_, 1) := by decide +kernel
theorem dX1_cost_0 : decode cX1_cost 0 = .ok (.aload_n 0, 1) := by decide +kernel
theorem dX1_cost_1 : decode cX1_cost 1 = .ok (.lload_n 1, 1) := by decide +kernel
theorem dX1_cost_2 : decode cX1_cost 2 = .ok (.invokevirtual 15, 3) := by decide +kernel
theorem dX1_cost_5 : decode cX1_cost 5 = .ok (.istore 4, 2) := by decide +kernel
theorem dX1_cost_7 : decode cX1_cost 7 = .ok (.iconst 0, 1) := by decide +kernel
theorem dX1_cost_8 : decode cX1_cost 8 = .ok (.istore 5, 2) := by decide +kernel
theorem dX1_cost_10 : decode cX1_cost 10 = .ok (.lconst 0, 1) := by decide +kernel
theorem dX1_cost_11 : decode cX1_cost 11 = .ok (.lstore 6, 2) := by decide +kernel
theorem dX1_cost_13 : decode cX1_cost 13 = .ok (.iconst 0, 1) := by decide +kernel
theorem dX1_cost_14 : decode cX1_cost 14 = .ok (.istore 8, 2) := by decide +kernel
theorem dX1_cost_16 : decode cX1_cost 16 = .ok (.iload 8, 2) := by decide +kernel
theorem dX1_cost_18 : decode cX1_cost 18 = .ok (.bipush 36, 2) := by decide +kernel
theorem dX1_cost_20 : decode cX1_cost 20 = .ok (.if_icmp .ge 68, 3) := by decide +kernel
theorem dX1_cost_23 : decode cX1_cost 23 = .ok (.aload_n 3, 1) := by decide +kernel
theorem dX1_cost_24 : decode cX1_cost 24 = .ok (.iconst 0, 1) := by decide +kernel
theorem dX1_cost_25 : decode cX1_cost 25 = .ok (.aaload, 1) := by decide +kernel
theorem dX1_cost_26 : decode cX1_cost 26 = .ok (.iload 8, 2) := by decide +kernel
theorem dX1_cost_28 : decode cX1_cost 28 = .ok (.iaload, 1) := by decide +kernel
theorem dX1_cost_29 : decode cX1_cost 29 = .ok (.iconst 4, 1) := by decide +kernel
theorem dX1_cost_30 : decode cX1_cost 30 = .ok (.aload_n 3, 1) := by decide +kernel
theorem dX1_cost_31 : decode cX1_cost 31 = .ok (.iconst 1, 1) := by decide +kernel
theorem dX1_cost_32 : decode cX1_cost 32 = .ok (.aaload, 1) := by decide +kernel
theorem dX1_cost_33 : decode cX1_cost 33 = .ok (.iload 8, 2) := by decide +kernel
theorem dX1_cost_35 : decode cX1_cost 35 = .ok (.iaload, 1) := by decide +kernel
theorem dX1_cost_36 : decode cX1_cost 36 = .ok (.imul, 1) := by decide +kernel
theorem dX1_cost_37 : decode cX1_cost 37 = .ok (.iadd, 1) := by decide +kernel
theorem dX1_cost_38 : decode cX1_cost 38 = .ok (.istore 9, 2) := by decide +kernel
theorem dX1_cost_40 : decode cX1_cost 40 = .ok (.iload 9, 2) := by decide +kernel
theorem dX1_cost_42 : decode cX1_cost 42 = .ok (.ifCond .ne 6, 3) := by decide +kernel
theorem dX1_cost_45 : decode cX1_cost 45 = .ok (.goto 37, 3) := by decide +kernel
theorem dX1_cost_48 : decode cX1_cost 48 = .ok (.aload_n 0, 1) := by decide +kernel
theorem dX1_cost_49 : decode cX1_cost 49 = .ok (.iload 8, 2) := by decide +kernel
theorem dX1_cost_51 : decode cX1_cost 51 = .ok (.iload 4, 2) := by decide +kernel
theorem dX1_cost_53 : decode cX1_cost 53 = .ok (.invokevirtual 19, 3) := by decide +kernel
theorem dX1_cost_56 : decode cX1_cost 56 = .ok (.istore 10, 2) := by decide +kernel
theorem dX1_cost_58 : decode cX1_cost 58 = .ok (.iload 5, 2) := by decide +kernel
theorem dX1_cost_60 : decode cX1_cost 60 = .ok (.iload 9, 2) := by decide +kernel
theorem dX1_cost_62 : decode cX1_cost 62 = .ok (.iload 8, 2) := by decide +kernel
theorem dX1_cost_64 : decode cX1_cost 64 = .ok (.iload 10, 2) := by decide +kernel
theorem dX1_cost_66 : decode cX1_cost 66 = .ok (.invokestatic 23, 3) := by decide +kernel
theorem dX1_cost_69 : decode cX1_cost 69 = .ok (.imul, 1) := by decide +kernel
theorem dX1_cost_70 : decode cX1_cost 70 = .ok (.iadd, 1) := by decide +kernel
theorem dX1_cost_71 : decode cX1_cost 71 = .ok (.istore 5, 2) := by decide +kernel
theorem dX1_cost_73 : decode cX1_cost 73 = .ok (.lload 6, 2) := by decide +kernel
theorem dX1_cost_75 : decode cX1_cost 75 = .ok (.lconst 1, 1) := by decide +kernel
theorem dX1_cost_76 : decode cX1_cost 76 = .ok (.iload 10, 2) := by decide +kernel
theorem dX1_cost_78 : decode cX1_cost 78 = .ok (.lshl, 1) := by decide +kernel
theorem dX1_cost_79 : decode cX1_cost 79 = .ok (.lor, 1) := by decide +kernel
theorem dX1_cost_80 : decode cX1_cost 80 = .ok (.lstore 6, 2) := by decide +kernel
theorem dX1_cost_82 : decode cX1_cost 82 = .ok (.iinc 8 1, 3) := by decide +kernel
theorem dX1_cost_85 : decode cX1_cost 85 = .ok (.goto (-69), 3) := by decide +kernel
theorem dX1_cost_88 : decode cX1_cost 88 = .ok (.iload 5, 2) := by decide +kernel
theorem dX1_cost_90 : decode cX1_cost 90 = .ok (.bipush 30, 2) := by decide +kernel
theorem dX1_cost_92 : decode cX1_cost 92 = .ok (.lload 6, 2) := by decide +kernel
theorem dX1_cost_94 : decode cX1_cost 94 = .ok (.invokestatic 26, 3) := by decide +kernel
theorem dX1_cost_97 : decode cX1_cost 97 = .ok (.imul, 1) := by decide +kernel
theorem dX1_cost_98 : decode cX1_cost 98 = .ok (.iadd, 1) := by decide +kernel
theorem dX1_cost_99 : decode cX1_cost 99 = .ok (.ireturn, 1) := by decide +kernel
theorem dX1_list_0 : decode cX1_list 0 = .ok (.iconst 0, 1) := by decide +kernel
theorem dX1_list_1 : decode cX1_list 1 = .ok (.istore_n 3, 1) := by decide +kernel
theorem dX1_list_2 : decode cX1_list 2 = .ok (.iconst 0, 1) := by decide +kernel
theorem dX1_list_3 : decode cX1_list 3 = .ok (.istore 4, 2) := by decide +kernel
theorem dX1_list_5 : decode cX1_list 5 = .ok (.iload 4, 2) := by decide +kernel
theorem dX1_list_7 : decode cX1_list 7 = .ok (.bipush 36, 2) := by decide +kernel
theorem dX1_list_9 : decode cX1_list 9 = .ok (.if_icmp .ge 31, 3) := by decide +kernel
theorem dX1_list_12 : decode cX1_list 12 = .ok (.lload_n 1, 1) := by decide +kernel
theorem dX1_list_13 : decode cX1_list 13 = .ok (.iload 4, 2) := by decide +kernel
theorem dX1_list_15 : decode cX1_list 15 = .ok (.lushr, 1) := by decide +kernel
theorem dX1_list_16 : decode cX1_list 16 = .ok (.lconst 1, 1) := by decide +kernel
theorem dX1_list_17 : decode cX1_list 17 = .ok (.land, 1) := by decide +kernel
theorem dX1_list_18 : decode cX1_list 18 = .ok (.lconst 1, 1) := by decide +kernel
theorem dX1_list_19 : decode cX1_list 19 = .ok (.lcmp, 1) := by decide +kernel
theorem dX1_list_20 : decode cX1_list 20 = .ok (.ifCond .ne 14, 3) := by decide +kernel
theorem dX1_list_23 : decode cX1_list 23 = .ok (.aload_n 0, 1) := by decide +kernel
theorem dX1_list_24 : decode cX1_list 24 = .ok (.getfield 9, 3) := by decide +kernel
theorem dX1_list_27 : decode cX1_list 27 = .ok (.iload_n 3, 1) := by decide +kernel
theorem dX1_list_28 : decode cX1_list 28 = .ok (.iload 4, 2) := by decide +kernel
theorem dX1_list_30 : decode cX1_list 30 = .ok (.iastore, 1) := by decide +kernel
theorem dX1_list_31 : decode cX1_list 31 = .ok (.iinc 3 1, 3) := by decide +kernel
theorem dX1_list_34 : decode cX1_list 34 = .ok (.iinc 4 1, 3) := by decide +kernel
theorem dX1_list_37 : decode cX1_list 37 = .ok (.goto (-32), 3) := by decide +kernel
theorem dX1_list_40 : decode cX1_list 40 = .ok (.iload_n 3, 1) := by decide +kernel
theorem dX1_list_41 : decode cX1_list 41 = .ok (.ireturn, 1) := by decide +kernel
theorem dX1_nearest_0 : decode cX1_nearest 0 = .ok (.aload_n 0, 1) := by decide +kernel
theorem dX1_nearest_1 : decode cX1_nearest 1 = .ok (.getfield 9, 3) := by decide +kernel
theorem dX1_nearest_4 : decode cX1_nearest 4 = .ok (.iconst 0, 1) := by decide +kernel
theorem dX1_nearest_5 : decode cX1_nearest 5 = .ok (.iaload, 1) := by decide +kernel
theorem dX1_nearest_6 : decode cX1_nearest 6 = .ok (.istore_n 3, 1) := by decide +kernel
theorem dX1_nearest_7 : decode cX1_nearest 7 = .ok (.iconst 1, 1) := by decide +kernel
theorem dX1_nearest_8 : decode cX1_nearest 8 = .ok (.istore 4, 2) := by decide +kernel
theorem dX1_nearest_10 : decode cX1_nearest 10 = .ok (.iload 4, 2) := by decide +kernel
theorem dX1_nearest_12 : decode cX1_nearest 12 = .ok (.iload_n 2, 1) := by decide +kernel
theorem dX1_nearest_13 : decode cX1_nearest 13 = .ok (.if_icmp .ge 36, 3) := by decide +kernel
theorem dX1_nearest_16 : decode cX1_nearest 16 = .ok (.iload_n 1, 1) := by decide +kernel
theorem dX1_nearest_17 : decode cX1_nearest 17 = .ok (.aload_n 0, 1) := by decide +kernel
theorem dX1_nearest_18 : decode cX1_nearest 18 = .ok (.getfield 9, 3) := by decide +kernel
theorem dX1_nearest_21 : decode cX1_nearest 21 = .ok (.iload 4, 2) := by decide +kernel
theorem dX1_nearest_23 : decode cX1_nearest 23 = .ok (.iaload, 1) := by decide +kernel
theorem dX1_nearest_24 : decode cX1_nearest 24 = .ok (.invokestatic 23, 3) := by decide +kernel
theorem dX1_nearest_27 : decode cX1_nearest 27 = .ok (.iload_n 1, 1) := by decide +kernel
theorem dX1_nearest_28 : decode cX1_nearest 28 = .ok (.iload_n 3, 1) := by decide +kernel
theorem dX1_nearest_29 : decode cX1_nearest 29 = .ok (.invokestatic 23, 3) := by decide +kernel
theorem dX1_nearest_32 : decode cX1_nearest 32 = .ok (.if_icmp .ge 11, 3) := by decide +kernel
theorem dX1_nearest_35 : decode cX1_nearest 35 = .ok (.aload_n 0, 1) := by decide +kernel
theorem dX1_nearest_36 : decode cX1_nearest 36 = .ok (.getfield 9, 3) := by decide +kernel
theorem dX1_nearest_39 : decode cX1_nearest 39 = .ok (.iload 4, 2) := by decide +kernel
theorem dX1_nearest_41 : decode cX1_nearest 41 = .ok (.iaload, 1) := by decide +kernel
theorem dX1_nearest_42 : decode cX1_nearest 42 = .ok (.istore_n 3, 1) := by decide +kernel
theorem dX1_nearest_43 : decode cX1_nearest 43 = .ok (.iinc 4 1, 3) := by decide +kernel
theorem dX1_nearest_46 : decode cX1_nearest 46 = .ok (.goto (-36), 3) := by decide +kernel
theorem dX1_nearest_49 : decode cX1_nearest 49 = .ok (.iload_n 3, 1) := by decide +kernel
theorem dX1_nearest_50 : decode cX1_nearest 50 = .ok (.ireturn, 1) := by decide +kernel
theorem dX1_far_0 : decode cX1_far 0 = .ok (.iload_n 0, 1) := by decide +kernel
theorem dX1_far_1 : decode cX1_far 1 = .ok (.bipush 6, 2) := by decide +kernel
theorem dX1_far_3 : decode cX1_far 3 = .ok (.idiv, 1) := by decide +kernel
theorem dX1_far_4 : decode cX1_far 4 = .ok (.iload_n 1, 1) := by decide +kernel
theorem dX1_far_5 : decode cX1_far 5 = .ok (.bipush 6, 2) := by decide +kernel
theorem dX1_far_7 : decode cX1_far 7 = .ok (.idiv, 1) := by decide +kernel
theorem dX1_far_8 : decode cX1_far 8 = .ok (.isub, 1) := by decide +kernel
theorem dX1_far_9 : decode cX1_far 9 = .ok (.invokestatic 31, 3) := by decide +kernel
theorem dX1_far_12 : decode cX1_far 12 = .ok (.iload_n 0, 1) := by decide +kernel
theorem dX1_far_13 : decode cX1_far 13 = .ok (.bipush 6, 2) := by decide +kernel
theorem dX1_far_15 : decode cX1_far 15 = .ok (.irem, 1) := by decide +kernel
theorem dX1_far_16 : decode cX1_far 16 = .ok (.iload_n 1, 1) := by decide +kernel
theorem dX1_far_17 : decode cX1_far 17 = .ok (.bipush 6, 2) := by decide +kernel
theorem dX1_far_19 : decode cX1_far 19 = .ok (.irem, 1) := by decide +kernel
theorem dX1_far_20 : decode cX1_far 20 = .ok (.isub, 1) := by decide +kernel
theorem dX1_far_21 : decode cX1_far 21 = .ok (.invokestatic 31, 3) := by decide +kernel
theorem dX1_far_24 : decode cX1_far 24 = .ok (.iadd, 1) := by decide +kernel
theorem dX1_far_25 : decode cX1_far 25 = .ok (.ireturn, 1) := by decide +kernel
theorem dX2_goOff_0 : decode cX2_goOff 0 = .ok (.iload_n 0, 1) := by decide +kernel
theorem dX2_goOff_1 : decode cX2_goOff 1 = .ok (.tableswitch 51 1 4 #[31, 51, 35, 43], 31) := by decide +kernel
theorem dX2_goOff_32 : decode cX2_goOff 32 = .ok (.iload_n 2, 1) := by decide +kernel
theorem dX2_goOff_33 : decode cX2_goOff 33 = .ok (.iconst 2, 1) := by decide +kernel
theorem dX2_goOff_34 : decode cX2_goOff 34 = .ok (.idiv, 1) := by decide +kernel
theorem dX2_goOff_35 : decode cX2_goOff 35 = .ok (.ireturn, 1) := by decide +kernel
theorem dX2_goOff_36 : decode cX2_goOff 36 = .ok (.iload_n 2, 1) := by decide +kernel
theorem dX2_goOff_37 : decode cX2_goOff 37 = .ok (.iconst 2, 1) := by decide +kernel
theorem dX2_goOff_38 : decode cX2_goOff 38 = .ok (.idiv, 1) := by decide +kernel
theorem dX2_goOff_39 : decode cX2_goOff 39 = .ok (.iload_n 1, 1) := by decide +kernel
theorem dX2_goOff_40 : decode cX2_goOff 40 = .ok (.invokestatic 9, 3) := by decide +kernel
theorem dX2_goOff_43 : decode cX2_goOff 43 = .ok (.ireturn, 1) := by decide +kernel
theorem dX2_goOff_44 : decode cX2_goOff 44 = .ok (.iload_n 2, 1) := by decide +kernel
theorem dX2_goOff_45 : decode cX2_goOff 45 = .ok (.iload_n 1, 1) := by decide +kernel
theorem dX2_goOff_46 : decode cX2_goOff 46 = .ok (.isub, 1) := by decide +kernel
theorem dX2_goOff_47 : decode cX2_goOff 47 = .ok (.iconst 0, 1) := by decide +kernel
theorem dX2_goOff_48 : decode cX2_goOff 48 = .ok (.invokestatic 15, 3) := by decide +kernel
theorem dX2_goOff_51 : decode cX2_goOff 51 = .ok (.ireturn, 1) := by decide +kernel
theorem dX2_goOff_52 : decode cX2_goOff 52 = .ok (.iload_n 2, 1) := by decide +kernel
theorem dX2_goOff_53 : decode cX2_goOff 53 = .ok (.ireturn, 1) := by decide +kernel
theorem dX2_come_0 : decode cX2_come 0 = .ok (.iload_n 0, 1) := by decide +kernel
theorem dX2_come_1 : decode cX2_come 1 = .ok (.lookupswitch 35 #[(2, 27), (5, 29)], 27) := by decide +kernel
theorem dX2_come_28 : decode cX2_come 28 = .ok (.iconst 0, 1) := by decide +kernel
theorem dX2_come_29 : decode cX2_come 29 = .ok (.ireturn, 1) := by decide +kernel
theorem dX2_come_30 : decode cX2_come 30 = .ok (.iload_n 2, 1) := by decide +kernel
theorem dX2_come_31 : decode cX2_come 31 = .ok (.iload_n 1, 1) := by decide +kernel
theorem dX2_come_32 : decode cX2_come 32 = .ok (.invokestatic 9, 3) := by decide +kernel
theorem dX2_come_35 : decode cX2_come 35 = .ok (.ireturn, 1) := by decide +kernel
theorem dX2_come_36 : decode cX2_come 36 = .ok (.iload_n 2, 1) := by decide +kernel
theorem dX2_come_37 : decode cX2_come 37 = .ok (.ireturn, 1) := by decide +kernel
theorem dX2_suffers_0 : decode cX2_suffers 0 = .ok (.iload_n 0, 1) := by decide +kernel
theorem dX2_suffers_1 : decode cX2_suffers 1 = .ok (.ifCond .ne 7, 3) := by decide +kernel
theorem dX2_suffers_4 : decode cX2_suffers 4 = .ok (.iconst 1, 1) := by decide +kernel
theorem dX2_suffers_5 : decode cX2_suffers 5 = .ok (.goto 4, 3) := by decide +kernel
theorem dX2_suffers_8 : decode cX2_suffers 8 = .ok (.iconst 0, 1) := by decide +kernel
theorem dX2_suffers_9 : decode cX2_suffers 9 = .ok (.ireturn, 1) := by decide +kernel
theorem dX2_isOne_0 : decode cX2_isOne 0 = .ok (.iload_n 1, 1) := by decide +kernel
theorem dX2_isOne_1 : decode cX2_isOne 1 = .ok (.tableswitch 61 0 2 #[27, 29, 45], 27) := by decide +kernel
theorem dX2_isOne_28 : decode cX2_isOne 28 = .ok (.iconst 1, 1) := by decide +kernel
theorem dX2_isOne_29 : decode cX2_isOne 29 = .ok (.ireturn, 1) := by decide +kernel
theorem dX2_isOne_30 : decode cX2_isOne 30 = .ok (.iload_n 0, 1) := by decide +kernel
theorem dX2_isOne_31 : decode cX2_isOne 31 = .ok (.iconst 1, 1) := by decide +kernel
theorem dX2_isOne_32 : decode cX2_isOne 32 = .ok (.if_icmp .eq 8, 3) := by decide +kernel
theorem dX2_isOne_35 : decode cX2_isOne 35 = .ok (.iload_n 0, 1) := by decide +kernel
theorem dX2_isOne_36 : decode cX2_isOne 36 = .ok (.iconst 3, 1) := by decide +kernel
theorem dX2_isOne_37 : decode cX2_isOne 37 = .ok (.if_icmp .ne 7, 3) := by decide +kernel
theorem dX2_isOne_40 : decode cX2_isOne 40 = .ok (.iconst 1, 1) := by decide +kernel
theorem dX2_isOne_41 : decode cX2_isOne 41 = .ok (.goto 4, 3) := by decide +kernel
theorem dX2_isOne_44 : decode cX2_isOne 44 = .ok (.iconst 0, 1) := by decide +kernel
theorem dX2_isOne_45 : decode cX2_isOne 45 = .ok (.ireturn, 1) := by decide +kernel
theorem dX2_isOne_46 : decode cX2_isOne 46 = .ok (.iload_n 0, 1) := by decide +kernel
theorem dX2_isOne_47 : decode cX2_isOne 47 = .ok (.iconst 2, 1) := by decide +kernel
theorem dX2_isOne_48 : decode cX2_isOne 48 = .ok (.if_icmp .eq 8, 3) := by decide +kernel
theorem dX2_isOne_51 : decode cX2_isOne 51 = .ok (.iload_n 0, 1) := by decide +kernel
theorem dX2_isOne_52 : decode cX2_isOne 52 = .ok (.iconst 5, 1) := by decide +kernel
theorem dX2_isOne_53 : decode cX2_isOne 53 = .ok (.if_icmp .ne 7, 3) := by decide +kernel
theorem dX2_isOne_56 : decode cX2_isOne 56 = .ok (.iconst 1, 1) := by decide +kernel
theorem dX2_isOne_57 : decode cX2_isOne 57 = .ok (.goto 4, 3) := by decide +kernel
theorem dX2_isOne_60 : decode cX2_isOne 60 = .ok (.iconst 0, 1) := by decide +kernel
theorem dX2_isOne_61 : decode cX2_isOne 61 = .ok (.ireturn, 1) := by decide +kernel
theorem dX2_isOne_62 : decode cX2_isOne 62 = .ok (.iload_n 0, 1) := by decide +kernel
theorem dX2_isOne_63 : decode cX2_isOne 63 = .ok (.iload_n 1, 1) := by decide +kernel
theorem dX2_isOne_64 : decode cX2_isOne 64 = .ok (.if_icmp .ne 7, 3) := by decide +kernel
theorem dX2_isOne_67 : decode cX2_isOne 67 = .ok (.iconst 1, 1) := by decide +kernel
theorem dX2_isOne_68 : decode cX2_isOne 68 = .ok (.goto 4, 3) := by decide +kernel
theorem dX2_isOne_71 : decode cX2_isOne 71 = .ok (.iconst 0, 1) := by decide +kernel
theorem dX2_isOne_72 : decode cX2_isOne 72 = .ok (.ireturn, 1) := by decide +kernel
theorem dX3_init_0 : decode cX3_init 0 = .ok (.aload_n 0, 1) := by decide +kernel
theorem dX3_init_1 : decode cX3_init 1 = .ok (.invokespecial 3, 3) := by decide +kernel
theorem dX3_init_4 : decode cX3_init 4 = .ok (.aload_n 0, 1) := by decide +kernel
theorem dX3_init_5 : decode cX3_init 5 = .ok (.sipush 160, 3) := by decide +kernel
theorem dX3_init_8 : decode cX3_init 8 = .ok (.newarray .int, 2) := by decide +kernel
theorem dX3_init_10 : decode cX3_init 10 = .ok (.putfield 9, 3) := by decide +kernel
theorem dX3_init_13 : decode cX3_init 13 = .ok (.aload_n 0, 1) := by decide +kernel
theorem dX3_init_14 : decode cX3_init 14 = .ok (.sipush 160, 3) := by decide +kernel
theorem dX3_init_17 : decode cX3_init 17 = .ok (.newarray .int, 2) := by decide +kernel
theorem dX3_init_19 : decode cX3_init 19 = .ok (.putfield 15, 3) := by decide +kernel
theorem dX3_init_22 : decode cX3_init 22 = .ok (.aload_n 0, 1) := by decide +kernel
theorem dX3_init_23 : decode cX3_init 23 = .ok (.iconst 3, 1) := by decide +kernel
theorem dX3_init_24 : decode cX3_init 24 = .ok (.newarray .int, 2) := by decide +kernel
theorem dX3_init_26 : decode cX3_init 26 = .ok (.putfield 18, 3) := by decide +kernel
theorem dX3_init_29 : decode cX3_init 29 = .ok (.return_, 1) := by decide +kernel
theorem dX3_clear_0 : decode cX3_clear 0 = .ok (.aload_n 0, 1) := by decide +kernel
theorem dX3_clear_1 : decode cX3_clear 1 = .ok (.iconst 0, 1) := by decide +kernel
theorem dX3_clear_2 : decode cX3_clear 2 = .ok (.putfield 21, 3) := by decide +kernel
theorem dX3_clear_5 : decode cX3_clear 5 = .ok (.return_, 1) := by decide +kernel
theorem dX3_add_0 : decode cX3_add 0 = .ok (.aload_n 0, 1) := by decide +kernel
theorem dX3_add_1 : decode cX3_add 1 = .ok (.getfield 21, 3) := by decide +kernel
theorem dX3_add_4 : decode cX3_add 4 = .ok (.sipush 160, 3) := by decide +kernel
theorem dX3_add_7 : decode cX3_add 7 = .ok (.if_icmp .lt 4, 3) := by decide +kernel
theorem dX3_add_10 : decode cX3_add 10 = .ok (.return_, 1) := by decide +kernel
theorem dX3_add_11 : decode cX3_add 11 = .ok (.aload_n 0, 1) := by decide +kernel
theorem dX3_add_12 : decode cX3_add 12 = .ok (.getfield 9, 3) := by decide +kernel
theorem dX3_add_15 : decode cX3_add 15 = .ok (.aload_n 0, 1) := by decide +kernel
theorem dX3_add_16 : decode cX3_add 16 = .ok (.getfield 21, 3) := by decide +kernel
theorem dX3_add_19 : decode cX3_add 19 = .ok (.iload_n 1, 1) := by decide +kernel
theorem dX3_add_20 : decode cX3_add 20 = .ok (.iastore, 1) := by decide +kernel
theorem dX3_add_21 : decode cX3_add 21 = .ok (.aload_n 0, 1) := by decide +kernel
theorem dX3_add_22 : decode cX3_add 22 = .ok (.dup, 1) := by decide +kernel
theorem dX3_add_23 : decode cX3_add 23 = .ok (.getfield 21, 3) := by decide +kernel
theorem dX3_add_26 : decode cX3_add 26 = .ok (.iconst 1, 1) := by decide +kernel
theorem dX3_add_27 : decode cX3_add 27 = .ok (.iadd, 1) := by decide +kernel
theorem dX3_add_28 : decode cX3_add 28 = .ok (.putfield 21, 3) := by decide +kernel
theorem dX3_add_31 : decode cX3_add 31 = .ok (.return_, 1) := by decide +kernel
theorem dX3_endPart_0 : decode cX3_endPart 0 = .ok (.aload_n 0, 1) := by decide +kernel
theorem dX3_endPart_1 : decode cX3_endPart 1 = .ok (.getfield 18, 3) := by decide +kernel
theorem dX3_endPart_4 : decode cX3_endPart 4 = .ok (.iload_n 1, 1) := by decide +kernel
theorem dX3_endPart_5 : decode cX3_endPart 5 = .ok (.aload_n 0, 1) := by decide +kernel
theorem dX3_endPart_6 : decode cX3_endPart 6 = .ok (.getfield 21, 3) := by decide +kernel
theorem dX3_endPart_9 : decode cX3_endPart 9 = .ok (.iastore, 1) := by decide +kernel
theorem dX3_endPart_10 : decode cX3_endPart 10 = .ok (.return_, 1) := by decide +kernel
theorem dX3_says_0 : decode cX3_says 0 = .ok (.iconst 0, 1) := by decide +kernel
theorem dX3_says_1 : decode cX3_says 1 = .ok (.istore_n 3, 1) := by decide +kernel
theorem dX3_says_2 : decode cX3_says 2 = .ok (.iload_n 1, 1) := by decide +kernel
theorem dX3_says_3 : decode cX3_says 3 = .ok (.ifCond .ne 7, 3) := by decide +kernel
theorem dX3_says_6 : decode cX3_says 6 = .ok (.iconst 0, 1) := by decide +kernel
theorem dX3_says_7 : decode cX3_says 7 = .ok (.goto 11, 3) := by decide +kernel
theorem dX3_says_10 : decode cX3_says 10 = .ok (.aload_n 0, 1) := by decide +kernel
theorem dX3_says_11 : decode cX3_says 11 = .ok (.getfield 18, 3) := by decide +kernel
theorem dX3_says_14 : decode cX3_says 14 = .ok (.iload_n 1, 1) := by decide +kernel
theorem dX3_says_15 : decode cX3_says 15 = .ok (.iconst 1, 1) := by decide +kernel
theorem dX3_says_16 : decode cX3_says 16 = .ok (.isub, 1) := by decide +kernel
theorem dX3_says_17 : decode cX3_says 17 = .ok (.iaload, 1) := by decide +kernel
theorem dX3_says_18 : decode cX3_says 18 = .ok (.istore 4, 2) := by decide +kernel
theorem dX3_says_20 : decode cX3_says 20 = .ok (.iload 4, 2) := by decide +kernel
theorem dX3_says_22 : decode cX3_says 22 = .ok (.aload_n 0, 1) := by decide +kernel
theorem dX3_says_23 : decode cX3_says 23 = .ok (.getfield 18, 3) := by decide +kernel
theorem dX3_says_26 : decode cX3_says 26 = .ok (.iload_n 1, 1) := by decide +kernel
theorem dX3_says_27 : decode cX3_says 27 = .ok (.iaload, 1) := by decide +kernel
theorem dX3_says_28 : decode cX3_says 28 = .ok (.if_icmp .ge 137, 3) := by decide +kernel
theorem dX3_says_31 : decode cX3_says 31 = .ok (.aload_n 0, 1) := by decide +kernel
theorem dX3_says_32 : decode cX3_says 32 = .ok (.getfield 9, 3) := by decide +kernel
theorem dX3_says_35 : decode cX3_says 35 = .ok (.iload 4, 2) := by decide +kernel
theorem dX3_says_37 : decode cX3_says 37 = .ok (.iaload, 1) := by decide +kernel
theorem dX3_says_38 : decode cX3_says 38 = .ok (.istore 5, 2) := by decide +kernel
theorem dX3_says_40 : decode cX3_says 40 = .ok (.iload 5, 2) := by decide +kernel
theorem dX3_says_42 : decode cX3_says 42 = .ok (.bipush (-6), 2) := by decide +kernel
theorem dX3_says_44 : decode cX3_says 44 = .ok (.if_icmp .lt 40, 3) := by decide +kernel
theorem dX3_says_47 : decode cX3_says 47 = .ok (.iload_n 3, 1) := by decide +kernel
theorem dX3_says_48 : decode cX3_says 48 = .ok (.sipush 160, 3) := by decide +kernel
theorem dX3_says_51 : decode cX3_says 51 = .ok (.if_icmp .lt 5, 3) := by decide +kernel
theorem dX3_says_54 : decode cX3_says 54 = .ok (.iconst 0, 1) := by decide +kernel
theorem dX3_says_55 : decode cX3_says 55 = .ok (.ireturn, 1) := by decide +kernel
theorem dX3_says_56 : decode cX3_says 56 = .ok (.aload_n 0, 1) := by decide +kernel
theorem dX3_says_57 : decode cX3_says 57 = .ok (.getfield 15, 3) := by decide +kernel
theorem dX3_says_60 : decode cX3_says 60 = .ok (.iload_n 3, 1) := by decide +kernel
theorem dX3_says_61 : decode cX3_says 61 = .ok (.iload 5, 2) := by decide +kernel
theorem dX3_says_63 : decode cX3_says 63 = .ok (.ifCond .lt 8, 3) := by decide +kernel
theorem dX3_says_66 : decode cX3_says 66 = .ok (.iload 5, 2) := by decide +kernel
theorem dX3_says_68 : decode cX3_says 68 = .ok (.goto 9, 3) := by decide +kernel
theorem dX3_says_71 : decode cX3_says 71 = .ok (.aload_n 2, 1) := by decide +kernel
theorem dX3_says_72 : decode cX3_says 72 = .ok (.iconst (-1), 1) := by decide +kernel
theorem dX3_says_73 : decode cX3_says 73 = .ok (.iload 5, 2) := by decide +kernel
theorem dX3_says_75 : decode cX3_says 75 = .ok (.isub, 1) := by decide +kernel
theorem dX3_says_76 : decode cX3_says 76 = .ok (.iaload, 1) := by decide +kernel
theorem dX3_says_77 : decode cX3_says 77 = .ok (.iastore, 1) := by decide +kernel
theorem dX3_says_78 : decode cX3_says 78 = .ok (.iinc 3 1, 3) := by decide +kernel
theorem dX3_says_81 : decode cX3_says 81 = .ok (.goto 78, 3) := by decide +kernel
theorem dX3_says_84 : decode cX3_says 84 = .ok (.iload 5, 2) := by decide +kernel
theorem dX3_says_86 : decode cX3_says 86 = .ok (.bipush (-8), 2) := by decide +kernel
theorem dX3_says_88 : decode cX3_says 88 = .ok (.if_icmp .lt 34, 3) := by decide +kernel
theorem dX3_says_91 : decode cX3_says 91 = .ok (.iload_n 3, 1) := by decide +kernel
theorem dX3_says_92 : decode cX3_says 92 = .ok (.iconst 1, 1) := by decide +kernel
theorem dX3_says_93 : decode cX3_says 93 = .ok (.if_icmp .ge 5, 3) := by decide +kernel
theorem dX3_says_96 : decode cX3_says 96 = .ok (.iconst 0, 1) := by decide +kernel
theorem dX3_says_97 : decode cX3_says 97 = .ok (.ireturn, 1) := by decide +kernel
theorem dX3_says_98 : decode cX3_says 98 = .ok (.aload_n 0, 1) := by decide +kernel
theorem dX3_says_99 : decode cX3_says 99 = .ok (.getfield 15, 3) := by decide +kernel
theorem dX3_says_102 : decode cX3_says 102 = .ok (.iload_n 3, 1) := by decide +kernel
theorem dX3_says_103 : decode cX3_says 103 = .ok (.iconst 1, 1) := by decide +kernel
theorem dX3_says_104 : decode cX3_says 104 = .ok (.isub, 1) := by decide +kernel
theorem dX3_says_105 : decode cX3_says 105 = .ok (.iload 5, 2) := by decide +kernel
theorem dX3_says_107 : decode cX3_says 107 = .ok (.aload_n 0, 1) := by decide +kernel
theorem dX3_says_108 : decode cX3_says 108 = .ok (.getfield 15, 3) := by decide +kernel
theorem dX3_says_111 : decode cX3_says 111 = .ok (.iload_n 3, 1) := by decide +kernel
theorem dX3_says_112 : decode cX3_says 112 = .ok (.iconst 1, 1) := by decide +kernel
theorem dX3_says_113 : decode cX3_says 113 = .ok (.isub, 1) := by decide +kernel
theorem dX3_says_114 : decode cX3_says 114 = .ok (.iaload, 1) := by decide +kernel
theorem dX3_says_115 : decode cX3_says 115 = .ok (.invokestatic 25, 3) := by decide +kernel
theorem dX3_says_118 : decode cX3_says 118 = .ok (.iastore, 1) := by decide +kernel
theorem dX3_says_119 : decode cX3_says 119 = .ok (.goto 40, 3) := by decide +kernel
theorem dX3_says_122 : decode cX3_says 122 = .ok (.iload_n 3, 1) := by decide +kernel
theorem dX3_says_123 : decode cX3_says 123 = .ok (.iconst 2, 1) := by decide +kernel
theorem dX3_says_124 : decode cX3_says 124 = .ok (.if_icmp .ge 5, 3) := by decide +kernel
theorem dX3_says_127 : decode cX3_says 127 = .ok (.iconst 0, 1) := by decide +kernel
theorem dX3_says_128 : decode cX3_says 128 = .ok (.ireturn, 1) := by decide +kernel
theorem dX3_says_129 : decode cX3_says 129 = .ok (.iinc 3 (-1), 3) := by decide +kernel
theorem dX3_says_132 : decode cX3_says 132 = .ok (.aload_n 0, 1) := by decide +kernel
theorem dX3_says_133 : decode cX3_says 133 = .ok (.getfield 15, 3) := by decide +kernel
theorem dX3_says_136 : decode cX3_says 136 = .ok (.iload_n 3, 1) := by decide +kernel
theorem dX3_says_137 : decode cX3_says 137 = .ok (.iconst 1, 1) := by decide +kernel
theorem dX3_says_138 : decode cX3_says 138 = .ok (.isub, 1) := by decide +kernel
theorem dX3_says_139 : decode cX3_says 139 = .ok (.iload 5, 2) := by decide +kernel
theorem dX3_says_141 : decode cX3_says 141 = .ok (.aload_n 0, 1) := by decide +kernel
theorem dX3_says_142 : decode cX3_says 142 = .ok (.getfield 15, 3) := by decide +kernel
theorem dX3_says_145 : decode cX3_says 145 = .ok (.iload_n 3, 1) := by decide +kernel
theorem dX3_says_146 : decode cX3_says 146 = .ok (.iconst 1, 1) := by decide +kernel
theorem dX3_says_147 : decode cX3_says 147 = .ok (.isub, 1) := by decide +kernel
theorem dX3_says_148 : decode cX3_says 148 = .ok (.iaload, 1) := by decide +kernel
theorem dX3_says_149 : decode cX3_says 149 = .ok (.aload_n 0, 1) := by decide +kernel
theorem dX3_says_150 : decode cX3_says 150 = .ok (.getfield 15, 3) := by decide +kernel
theorem dX3_says_153 : decode cX3_says 153 = .ok (.iload_n 3, 1) := by decide +kernel
theorem dX3_says_154 : decode cX3_says 154 = .ok (.iaload, 1) := by decide +kernel
theorem dX3_says_155 : decode cX3_says 155 = .ok (.invokestatic 29, 3) := by decide +kernel
theorem dX3_says_158 : decode cX3_says 158 = .ok (.iastore, 1) := by decide +kernel
theorem dX3_says_159 : decode cX3_says 159 = .ok (.iinc 4 1, 3) := by decide +kernel
theorem dX3_says_162 : decode cX3_says 162 = .ok (.goto (-142), 3) := by decide +kernel
theorem dX3_says_165 : decode cX3_says 165 = .ok (.iload_n 1, 1) := by decide +kernel
theorem dX3_says_166 : decode cX3_says 166 = .ok (.ifCond .ne 9, 3) := by decide +kernel
theorem dX3_says_169 : decode cX3_says 169 = .ok (.sipush 999, 3) := by decide +kernel
theorem dX3_says_172 : decode cX3_says 172 = .ok (.goto 5, 3) := by decide +kernel
theorem dX3_says_175 : decode cX3_says 175 = .ok (.bipush 100, 2) := by decide +kernel
theorem dX3_says_177 : decode cX3_says 177 = .ok (.istore 4, 2) := by decide +kernel
theorem dX3_says_179 : decode cX3_says 179 = .ok (.iconst 0, 1) := by decide +kernel
theorem dX3_says_180 : decode cX3_says 180 = .ok (.iload 4, 2) := by decide +kernel
theorem dX3_says_182 : decode cX3_says 182 = .ok (.aload_n 0, 1) := by decide +kernel
theorem dX3_says_183 : decode cX3_says 183 = .ok (.getfield 15, 3) := by decide +kernel
theorem dX3_says_186 : decode cX3_says 186 = .ok (.iconst 0, 1) := by decide +kernel
theorem dX3_says_187 : decode cX3_says 187 = .ok (.iaload, 1) := by decide +kernel
theorem dX3_says_188 : decode cX3_says 188 = .ok (.invokestatic 33, 3) := by decide +kernel
theorem dX3_says_191 : decode cX3_says 191 = .ok (.invokestatic 38, 3) := by decide +kernel
theorem dX3_says_194 : decode cX3_says 194 = .ok (.ireturn, 1) := by decide +kernel
theorem dX3_turned_0 : decode cX3_turned 0 = .ok (.iload_n 0, 1) := by decide +kernel
theorem dX3_turned_1 : decode cX3_turned 1 = .ok (.bipush (-7), 2) := by decide +kernel
theorem dX3_turned_3 : decode cX3_turned 3 = .ok (.if_icmp .ne 8, 3) := by decide +kernel
theorem dX3_turned_6 : decode cX3_turned 6 = .ok (.iload_n 1, 1) := by decide +kernel
theorem dX3_turned_7 : decode cX3_turned 7 = .ok (.ineg, 1) := by decide +kernel
theorem dX3_turned_8 : decode cX3_turned 8 = .ok (.goto 15, 3) := by decide +kernel
theorem dX3_turned_11 : decode cX3_turned 11 = .ok (.iload_n 1, 1) := by decide +kernel
theorem dX3_turned_12 : decode cX3_turned 12 = .ok (.ifCond .ne 7, 3) := by decide +kernel
theorem dX3_turned_15 : decode cX3_turned 15 = .ok (.iconst 1, 1) := by decide +kernel
theorem dX3_turned_16 : decode cX3_turned 16 = .ok (.goto 4, 3) := by decide +kernel
theorem dX3_turned_19 : decode cX3_turned 19 = .ok (.iconst 0, 1) := by decide +kernel
theorem dX3_turned_20 : decode cX3_turned 20 = .ok (.invokestatic 41, 3) := by decide +kernel
theorem dX3_turned_23 : decode cX3_turned 23 = .ok (.ireturn, 1) := by decide +kernel
theorem dX3_joined_0 : decode cX3_joined 0 = .ok (.iload_n 0, 1) := by decide +kernel
theorem dX3_joined_1 : decode cX3_joined 1 = .ok (.tableswitch 96 (-14) (-9) #[79, 65, 51, 47, 43, 39], 39) := by decide +kernel
theorem dX3_joined_40 : decode cX3_joined 40 = .ok (.iload_n 1, 1) := by decide +kernel
theorem dX3_joined_41 : decode cX3_joined 41 = .ok (.iload_n 2, 1) := by decide +kernel
theorem dX3_joined_42 : decode cX3_joined 42 = .ok (.iadd, 1) := by decide +kernel
theorem dX3_joined_43 : decode cX3_joined 43 = .ok (.ireturn, 1) := by decide +kernel
theorem dX3_joined_44 : decode cX3_joined 44 = .ok (.iload_n 1, 1) := by decide +kernel
theorem dX3_joined_45 : decode cX3_joined 45 = .ok (.iload_n 2, 1) := by decide +kernel
theorem dX3_joined_46 : decode cX3_joined 46 = .ok (.isub, 1) := by decide +kernel
theorem dX3_joined_47 : decode cX3_joined 47 = .ok (.ireturn, 1) := by decide +kernel
theorem dX3_joined_48 : decode cX3_joined 48 = .ok (.iload_n 1, 1) := by decide +kernel
theorem dX3_joined_49 : decode cX3_joined 49 = .ok (.iload_n 2, 1) := by decide +kernel
theorem dX3_joined_50 : decode cX3_joined 50 = .ok (.imul, 1) := by decide +kernel
theorem dX3_joined_51 : decode cX3_joined 51 = .ok (.ireturn, 1) := by decide +kernel
theorem dX3_joined_52 : decode cX3_joined 52 = .ok (.iload_n 1, 1) := by decide +kernel
theorem dX3_joined_53 : decode cX3_joined 53 = .ok (.iload_n 2, 1) := by decide +kernel
theorem dX3_joined_54 : decode cX3_joined 54 = .ok (.if_icmp .ge 7, 3) := by decide +kernel
theorem dX3_joined_57 : decode cX3_joined 57 = .ok (.iconst 1, 1) := by decide +kernel
theorem dX3_joined_58 : decode cX3_joined 58 = .ok (.goto 4, 3) := by decide +kernel
theorem dX3_joined_61 : decode cX3_joined 61 = .ok (.iconst 0, 1) := by decide +kernel
theorem dX3_joined_62 : decode cX3_joined 62 = .ok (.invokestatic 41, 3) := by decide +kernel
theorem dX3_joined_65 : decode cX3_joined 65 = .ok (.ireturn, 1) := by decide +kernel
theorem dX3_joined_66 : decode cX3_joined 66 = .ok (.iload_n 1, 1) := by decide +kernel
theorem dX3_joined_67 : decode cX3_joined 67 = .ok (.iload_n 2, 1) := by decide +kernel
theorem dX3_joined_68 : decode cX3_joined 68 = .ok (.if_icmp .ne 7, 3) := by decide +kernel
theorem dX3_joined_71 : decode cX3_joined 71 = .ok (.iconst 1, 1) := by decide +kernel
theorem dX3_joined_72 : decode cX3_joined 72 = .ok (.goto 4, 3) := by decide +kernel
theorem dX3_joined_75 : decode cX3_joined 75 = .ok (.iconst 0, 1) := by decide +kernel
theorem dX3_joined_76 : decode cX3_joined 76 = .ok (.invokestatic 41, 3) := by decide +kernel
theorem dX3_joined_79 : decode cX3_joined 79 = .ok (.ireturn, 1) := by decide +kernel
theorem dX3_joined_80 : decode cX3_joined 80 = .ok (.iload_n 1, 1) := by decide +kernel
theorem dX3_joined_81 : decode cX3_joined 81 = .ok (.ifCond .eq 11, 3) := by decide +kernel
theorem dX3_joined_84 : decode cX3_joined 84 = .ok (.iload_n 2, 1) := by decide +kernel
theorem dX3_joined_85 : decode cX3_joined 85 = .ok (.ifCond .eq 7, 3) := by decide +kernel
theorem dX3_joined_88 : decode cX3_joined 88 = .ok (.iconst 1, 1) := by decide +kernel
theorem dX3_joined_89 : decode cX3_joined 89 = .ok (.goto 4, 3) := by decide +kernel
theorem dX3_joined_92 : decode cX3_joined 92 = .ok (.iconst 0, 1) := by decide +kernel
theorem dX3_joined_93 : decode cX3_joined 93 = .ok (.invokestatic 41, 3) := by decide +kernel
theorem dX3_joined_96 : decode cX3_joined 96 = .ok (.ireturn, 1) := by decide +kernel
theorem dX3_joined_97 : decode cX3_joined 97 = .ok (.iload_n 1, 1) := by decide +kernel
theorem dX3_joined_98 : decode cX3_joined 98 = .ok (.ifCond .ne 7, 3) := by decide +kernel
theorem dX3_joined_101 : decode cX3_joined 101 = .ok (.iload_n 2, 1) := by decide +kernel
theorem dX3_joined_102 : decode cX3_joined 102 = .ok (.ifCond .eq 7, 3) := by decide +kernel
theorem dX3_joined_105 : decode cX3_joined 105 = .ok (.iconst 1, 1) := by decide +kernel
theorem dX3_joined_106 : decode cX3_joined 106 = .ok (.goto 4, 3) := by decide +kernel
theorem dX3_joined_109 : decode cX3_joined 109 = .ok (.iconst 0, 1) := by decide +kernel
theorem dX3_joined_110 : decode cX3_joined 110 = .ok (.invokestatic 41, 3) := by decide +kernel
theorem dX3_joined_113 : decode cX3_joined 113 = .ok (.ireturn, 1) := by decide +kernel
theorem dX3_truth_0 : decode cX3_truth 0 = .ok (.iload_n 0, 1) := by decide +kernel
theorem dX3_truth_1 : decode cX3_truth 1 = .ok (.ifCond .eq 7, 3) := by decide +kernel
theorem dX3_truth_4 : decode cX3_truth 4 = .ok (.iconst 1, 1) := by decide +kernel
theorem dX3_truth_5 : decode cX3_truth 5 = .ok (.goto 4, 3) := by decide +kernel
theorem dX3_truth_8 : decode cX3_truth 8 = .ok (.iconst 0, 1) := by decide +kernel
theorem dX3_truth_9 : decode cX3_truth 9 = .ok (.ireturn, 1) := by decide +kernel
theorem dX4_init_0 : decode cX4_init 0 = .ok (.aload_n 0, 1) := by decide +kernel
theorem dX4_init_1 : decode cX4_init 1 = .ok (.invokespecial 3, 3) := by decide +kernel
theorem dX4_init_4 : decode cX4_init 4 = .ok (.aload_n 0, 1) := by decide +kernel
theorem dX4_init_5 : decode cX4_init 5 = .ok (.iconst 4, 1) := by decide +kernel
theorem dX4_init_6 : decode cX4_init 6 = .ok (.bipush 14, 2) := by decide +kernel
theorem dX4_init_8 : decode cX4_init 8 = .ok (.multianewarray 9 2, 4) := by decide +kernel
theorem dX4_init_12 : decode cX4_init 12 = .ok (.putfield 11, 3) := by decide +kernel
theorem dX4_init_15 : decode cX4_init 15 = .ok (.aload_n 0, 1) := by decide +kernel
theorem dX4_init_16 : decode cX4_init 16 = .ok (.bipush 36, 2) := by decide +kernel
theorem dX4_init_18 : decode cX4_init 18 = .ok (.newarray .int, 2) := by decide +kernel
theorem dX4_init_20 : decode cX4_init 20 = .ok (.putfield 16, 3) := by decide +kernel
theorem dX4_init_23 : decode cX4_init 23 = .ok (.aload_n 0, 1) := by decide +kernel
theorem dX4_init_24 : decode cX4_init 24 = .ok (.bipush 36, 2) := by decide +kernel
theorem dX4_init_26 : decode cX4_init 26 = .ok (.newarray .int, 2) := by decide +kernel
theorem dX4_init_28 : decode cX4_init 28 = .ok (.putfield 20, 3) := by decide +kernel
theorem dX4_init_31 : decode cX4_init 31 = .ok (.aload_n 0, 1) := by decide +kernel
theorem dX4_init_32 : decode cX4_init 32 = .ok (.bipush 36, 2) := by decide +kernel
theorem dX4_init_34 : decode cX4_init 34 = .ok (.newarray .int, 2) := by decide +kernel
theorem dX4_init_36 : decode cX4_init 36 = .ok (.putfield 23, 3) := by decide +kernel
theorem dX4_init_39 : decode cX4_init 39 = .ok (.aload_n 0, 1) := by decide +kernel
theorem dX4_init_40 : decode cX4_init 40 = .ok (.iconst 4, 1) := by decide +kernel
theorem dX4_init_41 : decode cX4_init 41 = .ok (.newarray .int, 2) := by decide +kernel
theorem dX4_init_43 : decode cX4_init 43 = .ok (.putfield 26, 3) := by decide +kernel
theorem dX4_init_46 : decode cX4_init 46 = .ok (.aload_n 0, 1) := by decide +kernel
theorem dX4_init_47 : decode cX4_init 47 = .ok (.iconst 4, 1) := by decide +kernel
theorem dX4_init_48 : decode cX4_init 48 = .ok (.newarray .int, 2) := by decide +kernel
theorem dX4_init_50 : decode cX4_init 50 = .ok (.putfield 29, 3) := by decide +kernel
theorem dX4_init_53 : decode cX4_init 53 = .ok (.aload_n 0, 1) := by decide +kernel
theorem dX4_init_54 : decode cX4_init 54 = .ok (.iconst 4, 1) := by decide +kernel
theorem dX4_init_55 : decode cX4_init 55 = .ok (.newarray .int, 2) := by decide +kernel
theorem dX4_init_57 : decode cX4_init 57 = .ok (.putfield 32, 3) := by decide +kernel
theorem dX4_init_60 : decode cX4_init 60 = .ok (.aload_n 0, 1) := by decide +kernel
theorem dX4_init_61 : decode cX4_init 61 = .ok (.lconst 1, 1) := by decide +kernel
theorem dX4_init_62 : decode cX4_init 62 = .ok (.putfield 35, 3) := by decide +kernel
theorem dX4_init_65 : decode cX4_init 65 = .ok (.return_, 1) := by decide +kernel
theorem dX4_become_0 : decode cX4_become 0 = .ok (.iconst 0, 1) := by decide +kernel
theorem dX4_become_1 : decode cX4_become 1 = .ok (.istore_n 2, 1) := by decide +kernel
theorem dX4_become_2 : decode cX4_become 2 = .ok (.iload_n 2, 1) := by decide +kernel
theorem dX4_become_3 : decode cX4_become 3 = .ok (.iconst 4, 1) := by decide +kernel
theorem dX4_become_4 : decode cX4_become 4 = .ok (.if_icmp .ge 28, 3) := by decide +kernel
theorem dX4_become_7 : decode cX4_become 7 = .ok (.aload_n 1, 1) := by decide +kernel
theorem dX4_become_8 : decode cX4_become 8 = .ok (.getfield 11, 3) := by decide +kernel
theorem dX4_become_11 : decode cX4_become 11 = .ok (.iload_n 2, 1) := by decide +kernel
theorem dX4_become_12 : decode cX4_become 12 = .ok (.aaload, 1) := by decide +kernel
theorem dX4_become_13 : decode cX4_become 13 = .ok (.iconst 0, 1) := by decide +kernel
theorem dX4_become_14 : decode cX4_become 14 = .ok (.aload_n 0, 1) := by decide +kernel
theorem dX4_become_15 : decode cX4_become 15 = .ok (.getfield 11, 3) := by decide +kernel
theorem dX4_become_18 : decode cX4_become 18 = .ok (.iload_n 2, 1) := by decide +kernel
theorem dX4_become_19 : decode cX4_become 19 = .ok (.aaload, 1) := by decide +kernel
theorem dX4_become_20 : decode cX4_become 20 = .ok (.iconst 0, 1) := by decide +kernel
theorem dX4_become_21 : decode cX4_become 21 = .ok (.bipush 14, 2) := by decide +kernel
theorem dX4_become_23 : decode cX4_become 23 = .ok (.invokestatic 39, 3) := by decide +kernel
theorem dX4_become_26 : decode cX4_become 26 = .ok (.iinc 2 1, 3) := by decide +kernel
theorem dX4_become_29 : decode cX4_become 29 = .ok (.goto (-27), 3) := by decide +kernel
theorem dX4_become_32 : decode cX4_become 32 = .ok (.aload_n 1, 1) := by decide +kernel
theorem dX4_become_33 : decode cX4_become 33 = .ok (.getfield 16, 3) := by decide +kernel
theorem dX4_become_36 : decode cX4_become 36 = .ok (.iconst 0, 1) := by decide +kernel
theorem dX4_become_37 : decode cX4_become 37 = .ok (.aload_n 0, 1) := by decide +kernel
theorem dX4_become_38 : decode cX4_become 38 = .ok (.getfield 16, 3) := by decide +kernel
theorem dX4_become_41 : decode cX4_become 41 = .ok (.iconst 0, 1) := by decide +kernel
theorem dX4_become_42 : decode cX4_become 42 = .ok (.bipush 36, 2) := by decide +kernel
theorem dX4_become_44 : decode cX4_become 44 = .ok (.invokestatic 39, 3) := by decide +kernel
theorem dX4_become_47 : decode cX4_become 47 = .ok (.aload_n 1, 1) := by decide +kernel
theorem dX4_become_48 : decode cX4_become 48 = .ok (.getfield 20, 3) := by decide +kernel
theorem dX4_become_51 : decode cX4_become 51 = .ok (.iconst 0, 1) := by decide +kernel
theorem dX4_become_52 : decode cX4_become 52 = .ok (.aload_n 0, 1) := by decide +kernel
theorem dX4_become_53 : decode cX4_become 53 = .ok (.getfield 20, 3) := by decide +kernel
theorem dX4_become_56 : decode cX4_become 56 = .ok (.iconst 0, 1) := by decide +kernel
theorem dX4_become_57 : decode cX4_become 57 = .ok (.bipush 36, 2) := by decide +kernel
theorem dX4_become_59 : decode cX4_become 59 = .ok (.invokestatic 39, 3) := by decide +kernel
theorem dX4_become_62 : decode cX4_become 62 = .ok (.aload_n 1, 1) := by decide +kernel
theorem dX4_become_63 : decode cX4_become 63 = .ok (.getfield 23, 3) := by decide +kernel
theorem dX4_become_66 : decode cX4_become 66 = .ok (.iconst 0, 1) := by decide +kernel
theorem dX4_become_67 : decode cX4_become 67 = .ok (.aload_n 0, 1) := by decide +kernel
theorem dX4_become_68 : decode cX4_become 68 = .ok (.getfield 23, 3) := by decide +kernel
theorem dX4_become_71 : decode cX4_become 71 = .ok (.iconst 0, 1) := by decide +kernel
theorem dX4_become_72 : decode cX4_become 72 = .ok (.bipush 36, 2) := by decide +kernel
theorem dX4_become_74 : decode cX4_become 74 = .ok (.invokestatic 39, 3) := by decide +kernel
theorem dX4_become_77 : decode cX4_become 77 = .ok (.aload_n 1, 1) := by decide +kernel
theorem dX4_become_78 : decode cX4_become 78 = .ok (.getfield 26, 3) := by decide +kernel
theorem dX4_become_81 : decode cX4_become 81 = .ok (.iconst 0, 1) := by decide +kernel
theorem dX4_become_82 : decode cX4_become 82 = .ok (.aload_n 0, 1) := by decide +kernel
theorem dX4_become_83 : decode cX4_become 83 = .ok (.getfield 26, 3) := by decide +kernel
theorem dX4_become_86 : decode cX4_become 86 = .ok (.iconst 0, 1) := by decide +kernel
theorem dX4_become_87 : decode cX4_become 87 = .ok (.iconst 4, 1) := by decide +kernel
theorem dX4_become_88 : decode cX4_become 88 = .ok (.invokestatic 39, 3) := by decide +kernel
theorem dX4_become_91 : decode cX4_become 91 = .ok (.aload_n 1, 1) := by decide +kernel
theorem dX4_become_92 : decode cX4_become 92 = .ok (.getfield 29, 3) := by decide +kernel
theorem dX4_become_95 : decode cX4_become 95 = .ok (.iconst 0, 1) := by decide +kernel
theorem dX4_become_96 : decode cX4_become 96 = .ok (.aload_n 0, 1) := by decide +kernel
theorem dX4_become_97 : decode cX4_become 97 = .ok (.getfield 29, 3) := by decide +kernel
theorem dX4_become_100 : decode cX4_become 100 = .ok (.iconst 0, 1) := by decide +kernel
theorem dX4_become_101 : decode cX4_become 101 = .ok (.iconst 4, 1) := by decide +kernel
theorem dX4_become_102 : decode cX4_become 102 = .ok (.invokestatic 39, 3) := by decide +kernel
theorem dX4_become_105 : decode cX4_become 105 = .ok (.aload_n 1, 1) := by decide +kernel
theorem dX4_become_106 : decode cX4_become 106 = .ok (.getfield 32, 3) := by decide +kernel
theorem dX4_become_109 : decode cX4_become 109 = .ok (.iconst 0, 1) := by decide +kernel
theorem dX4_become_110 : decode cX4_become 110 = .ok (.aload_n 0, 1) := by decide +kernel
theorem dX4_become_111 : decode cX4_become 111 = .ok (.getfield 32, 3) := by decide +kernel
theorem dX4_become_114 : decode cX4_become 114 = .ok (.iconst 0, 1) := by decide +kernel
theorem dX4_become_115 : decode cX4_become 115 = .ok (.iconst 4, 1) := by decide +kernel
theorem dX4_become_116 : decode cX4_become 116 = .ok (.invokestatic 39, 3) := by decide +kernel
theorem dX4_become_119 : decode cX4_become 119 = .ok (.aload_n 0, 1) := by decide +kernel
theorem dX4_become_120 : decode cX4_become 120 = .ok (.aload_n 1, 1) := by decide +kernel
theorem dX4_become_121 : decode cX4_become 121 = .ok (.getfield 45, 3) := by decide +kernel
theorem dX4_become_124 : decode cX4_become 124 = .ok (.putfield 45, 3) := by decide +kernel
theorem dX4_become_127 : decode cX4_become 127 = .ok (.aload_n 0, 1) := by decide +kernel
theorem dX4_become_128 : decode cX4_become 128 = .ok (.aload_n 1, 1) := by decide +kernel
theorem dX4_become_129 : decode cX4_become 129 = .ok (.getfield 49, 3) := by decide +kernel
theorem dX4_become_132 : decode cX4_become 132 = .ok (.putfield 49, 3) := by decide +kernel
theorem dX4_become_135 : decode cX4_become 135 = .ok (.aload_n 0, 1) := by decide +kernel
theorem dX4_become_136 : decode cX4_become 136 = .ok (.aload_n 1, 1) := by decide +kernel
theorem dX4_become_137 : decode cX4_become 137 = .ok (.getfield 35, 3) := by decide +kernel
theorem dX4_become_140 : decode cX4_become 140 = .ok (.putfield 35, 3) := by decide +kernel
theorem dX4_become_143 : decode cX4_become 143 = .ok (.aload_n 0, 1) := by decide +kernel
theorem dX4_become_144 : decode cX4_become 144 = .ok (.aload_n 1, 1) := by decide +kernel
theorem dX4_become_145 : decode cX4_become 145 = .ok (.getfield 52, 3) := by decide +kernel
theorem dX4_become_148 : decode cX4_become 148 = .ok (.putfield 52, 3) := by decide +kernel
theorem dX4_become_151 : decode cX4_become 151 = .ok (.return_, 1) := by decide +kernel
theorem dX4_layOut_0 : decode cX4_layOut 0 = .ok (.aload_n 0, 1) := by decide +kernel
theorem dX4_layOut_1 : decode cX4_layOut 1 = .ok (.getfield 16, 3) := by decide +kernel
theorem dX4_layOut_4 : decode cX4_layOut 4 = .ok (.iload_n 1, 1) := by decide +kernel
theorem dX4_layOut_5 : decode cX4_layOut 5 = .ok (.iload_n 2, 1) := by decide +kernel
theorem dX4_layOut_6 : decode cX4_layOut 6 = .ok (.iastore, 1) := by decide +kernel
theorem dX4_layOut_7 : decode cX4_layOut 7 = .ok (.aload_n 0, 1) := by decide +kernel
theorem dX4_layOut_8 : decode cX4_layOut 8 = .ok (.getfield 20, 3) := by decide +kernel
theorem dX4_layOut_11 : decode cX4_layOut 11 = .ok (.iload_n 1, 1) := by decide +kernel
theorem dX4_layOut_12 : decode cX4_layOut 12 = .ok (.iload_n 3, 1) := by decide +kernel
theorem dX4_layOut_13 : decode cX4_layOut 13 = .ok (.iastore, 1) := by decide +kernel
theorem dX4_layOut_14 : decode cX4_layOut 14 = .ok (.return_, 1) := by decide +kernel
theorem dX4_leavesTogether_0 : decode cX4_leavesTogether 0 = .ok (.iconst 0, 1) := by decide +kernel
theorem dX4_leavesTogether_1 : decode cX4_leavesTogether 1 = .ok (.istore_n 1, 1) := by decide +kernel
theorem dX4_leavesTogether_2 : decode cX4_leavesTogether 2 = .ok (.iconst 0, 1) := by decide +kernel
theorem dX4_leavesTogether_3 : decode cX4_leavesTogether 3 = .ok (.istore_n 2, 1) := by decide +kernel
theorem dX4_leavesTogether_4 : decode cX4_leavesTogether 4 = .ok (.iload_n 2, 1) := by decide +kernel
theorem dX4_leavesTogether_5 : decode cX4_leavesTogether 5 = .ok (.bipush 36, 2) := by decide +kernel
theorem dX4_leavesTogether_7 : decode cX4_leavesTogether 7 = .ok (.if_icmp .ge 18, 3) := by decide +kernel
theorem dX4_leavesTogether_10 : decode cX4_leavesTogether 10 = .ok (.iload_n 1, 1) := by decide +kernel
theorem dX4_leavesTogether_11 : decode cX4_leavesTogether 11 = .ok (.aload_n 0, 1) := by decide +kernel
theorem dX4_leavesTogether_12 : decode cX4_leavesTogether 12 = .ok (.getfield 23, 3) := by decide +kernel
theorem dX4_leavesTogether_15 : decode cX4_leavesTogether 15 = .ok (.iload_n 2, 1) := by decide +kernel
theorem dX4_leavesTogether_16 : decode cX4_leavesTogether 16 = .ok (.iaload, 1) := by decide +kernel
theorem dX4_leavesTogether_17 : decode cX4_leavesTogether 17 = .ok (.iadd, 1) := by decide +kernel
theorem dX4_leavesTogether_18 : decode cX4_leavesTogether 18 = .ok (.istore_n 1, 1) := by decide +kernel
theorem dX4_leavesTogether_19 : decode cX4_leavesTogether 19 = .ok (.iinc 2 1, 3) := by decide +kernel
theorem dX4_leavesTogether_22 : decode cX4_leavesTogether 22 = .ok (.goto (-18), 3) := by decide +kernel
theorem dX4_leavesTogether_25 : decode cX4_leavesTogether 25 = .ok (.iload_n 1, 1) := by decide +kernel
theorem dX4_leavesTogether_26 : decode cX4_leavesTogether 26 = .ok (.ireturn, 1) := by decide +kernel
theorem dX4_draw_0 : decode cX4_draw 0 = .ok (.iload_n 1, 1) := by decide +kernel
theorem dX4_draw_1 : decode cX4_draw 1 = .ok (.iconst 1, 1) := by decide +kernel
theorem dX4_draw_2 : decode cX4_draw 2 = .ok (.iadd, 1) := by decide +kernel
theorem dX4_draw_3 : decode cX4_draw 3 = .ok (.i2l, 1) := by decide +kernel
theorem dX4_draw_4 : decode cX4_draw 4 = .ok (.lstore_n 2, 1) := by decide +kernel
theorem dX4_draw_5 : decode cX4_draw 5 = .ok (.iconst 0, 1) := by decide +kernel
theorem dX4_draw_6 : decode cX4_draw 6 = .ok (.istore 4, 2) := by decide +kernel
theorem dX4_draw_8 : decode cX4_draw 8 = .ok (.iload 4, 2) := by decide +kernel
theorem dX4_draw_10 : decode cX4_draw 10 = .ok (.bipush 14, 2) := by decide +kernel
theorem dX4_draw_12 : decode cX4_draw 12 = .ok (.if_icmp .ge 53, 3) := by decide +kernel
theorem dX4_draw_15 : decode cX4_draw 15 = .ok (.lload_n 2, 1) := by decide +kernel
theorem dX4_draw_16 : decode cX4_draw 16 = .ok (.ldc2_w 55, 3) := by decide +kernel
theorem dX4_draw_19 : decode cX4_draw 19 = .ok (.lmul, 1) := by decide +kernel
theorem dX4_draw_20 : decode cX4_draw 20 = .ok (.ldc2_w 57, 3) := by decide +kernel
theorem dX4_draw_23 : decode cX4_draw 23 = .ok (.lrem, 1) := by decide +kernel
theorem dX4_draw_24 : decode cX4_draw 24 = .ok (.lstore_n 2, 1) := by decide +kernel
theorem dX4_draw_25 : decode cX4_draw 25 = .ok (.aload_n 0, 1) := by decide +kernel
theorem dX4_draw_26 : decode cX4_draw 26 = .ok (.getfield 11, 3) := by decide +kernel
theorem dX4_draw_29 : decode cX4_draw 29 = .ok (.iconst 0, 1) := by decide +kernel
theorem dX4_draw_30 : decode cX4_draw 30 = .ok (.aaload, 1) := by decide +kernel
theorem dX4_draw_31 : decode cX4_draw 31 = .ok (.iload 4, 2) := by decide +kernel
theorem dX4_draw_33 : decode cX4_draw 33 = .ok (.lload_n 2, 1) := by decide +kernel
theorem dX4_draw_34 : decode cX4_draw 34 = .ok (.ldc2_w 59, 3) := by decide +kernel
theorem dX4_draw_37 : decode cX4_draw 37 = .ok (.lrem, 1) := by decide +kernel
theorem dX4_draw_38 : decode cX4_draw 38 = .ok (.l2i, 1) := by decide +kernel
theorem dX4_draw_39 : decode cX4_draw 39 = .ok (.iastore, 1) := by decide +kernel
theorem dX4_draw_40 : decode cX4_draw 40 = .ok (.aload_n 0, 1) := by decide +kernel
theorem dX4_draw_41 : decode cX4_draw 41 = .ok (.getfield 11, 3) := by decide +kernel
theorem dX4_draw_44 : decode cX4_draw 44 = .ok (.iconst 1, 1) := by decide +kernel
theorem dX4_draw_45 : decode cX4_draw 45 = .ok (.aaload, 1) := by decide +kernel
theorem dX4_draw_46 : decode cX4_draw 46 = .ok (.iload 4, 2) := by decide +kernel
theorem dX4_draw_48 : decode cX4_draw 48 = .ok (.lload_n 2, 1) := by decide +kernel
theorem dX4_draw_49 : decode cX4_draw 49 = .ok (.ldc2_w 59, 3) := by decide +kernel
theorem dX4_draw_52 : decode cX4_draw 52 = .ok (.ldiv, 1) := by decide +kernel
theorem dX4_draw_53 : decode cX4_draw 53 = .ok (.ldc2_w 61, 3) := by decide +kernel
theorem dX4_draw_56 : decode cX4_draw 56 = .ok (.lrem, 1) := by decide +kernel
theorem dX4_draw_57 : decode cX4_draw 57 = .ok (.l2i, 1) := by decide +kernel
theorem dX4_draw_58 : decode cX4_draw 58 = .ok (.iastore, 1) := by decide +kernel
theorem dX4_draw_59 : decode cX4_draw 59 = .ok (.iinc 4 1, 3) := by decide +kernel
theorem dX4_draw_62 : decode cX4_draw 62 = .ok (.goto (-54), 3) := by decide +kernel
theorem dX4_draw_65 : decode cX4_draw 65 = .ok (.return_, 1) := by decide +kernel
theorem dX5_init_0 : decode cX5_init 0 = .ok (.aload_n 0, 1) := by decide +kernel
theorem dX5_init_1 : decode cX5_init 1 = .ok (.invokespecial 3, 3) := by decide +kernel
theorem dX5_init_4 : decode cX5_init 4 = .ok (.aload_n 0, 1) := by decide +kernel
theorem dX5_init_5 : decode cX5_init 5 = .ok (.sipush 160, 3) := by decide +kernel
theorem dX5_init_8 : decode cX5_init 8 = .ok (.newarray .int, 2) := by decide +kernel
theorem dX5_init_10 : decode cX5_init 10 = .ok (.putfield 9, 3) := by decide +kernel
theorem dX5_init_13 : decode cX5_init 13 = .ok (.return_, 1) := by decide +kernel
theorem dX5_add_0 : decode cX5_add 0 = .ok (.aload_n 0, 1) := by decide +kernel
theorem dX5_add_1 : decode cX5_add 1 = .ok (.getfield 15, 3) := by decide +kernel
theorem dX5_add_4 : decode cX5_add 4 = .ok (.sipush 160, 3) := by decide +kernel
theorem dX5_add_7 : decode cX5_add 7 = .ok (.if_icmp .lt 4, 3) := by decide +kernel
theorem dX5_add_10 : decode cX5_add 10 = .ok (.return_, 1) := by decide +kernel
theorem dX5_add_11 : decode cX5_add 11 = .ok (.aload_n 0, 1) := by decide +kernel
theorem dX5_add_12 : decode cX5_add 12 = .ok (.getfield 9, 3) := by decide +kernel
theorem dX5_add_15 : decode cX5_add 15 = .ok (.aload_n 0, 1) := by decide +kernel
theorem dX5_add_16 : decode cX5_add 16 = .ok (.getfield 15, 3) := by decide +kernel
theorem dX5_add_19 : decode cX5_add 19 = .ok (.iload_n 1, 1) := by decide +kernel
theorem dX5_add_20 : decode cX5_add 20 = .ok (.iastore, 1) := by decide +kernel
theorem dX5_add_21 : decode cX5_add 21 = .ok (.aload_n 0, 1) := by decide +kernel
theorem dX5_add_22 : decode cX5_add 22 = .ok (.dup, 1) := by decide +kernel
theorem dX5_add_23 : decode cX5_add 23 = .ok (.getfield 15, 3) := by decide +kernel
theorem dX5_add_26 : decode cX5_add 26 = .ok (.iconst 1, 1) := by decide +kernel
theorem dX5_add_27 : decode cX5_add 27 = .ok (.iadd, 1) := by decide +kernel
theorem dX5_add_28 : decode cX5_add 28 = .ok (.putfield 15, 3) := by decide +kernel
theorem dX5_add_31 : decode cX5_add 31 = .ok (.return_, 1) := by decide +kernel
theorem dX5_read_0 : decode cX5_read 0 = .ok (.aload_n 0, 1) := by decide +kernel
theorem dX5_read_1 : decode cX5_read 1 = .ok (.aload_n 1, 1) := by decide +kernel
theorem dX5_read_2 : decode cX5_read 2 = .ok (.putfield 19, 3) := by decide +kernel
theorem dX5_read_5 : decode cX5_read 5 = .ok (.aload_n 0, 1) := by decide +kernel
theorem dX5_read_6 : decode cX5_read 6 = .ok (.getfield 19, 3) := by decide +kernel
theorem dX5_read_9 : decode cX5_read 9 = .ok (.invokevirtual 23, 3) := by decide +kernel
theorem dX5_read_12 : decode cX5_read 12 = .ok (.aload_n 0, 1) := by decide +kernel
theorem dX5_read_13 : decode cX5_read 13 = .ok (.iconst 0, 1) := by decide +kernel
theorem dX5_read_14 : decode cX5_read 14 = .ok (.putfield 28, 3) := by decide +kernel
theorem dX5_read_17 : decode cX5_read 17 = .ok (.aload_n 0, 1) := by decide +kernel
theorem dX5_read_18 : decode cX5_read 18 = .ok (.iconst (-1), 1) := by decide +kernel
theorem dX5_read_19 : decode cX5_read 19 = .ok (.putfield 31, 3) := by decide +kernel
theorem dX5_read_22 : decode cX5_read 22 = .ok (.aload_n 0, 1) := by decide +kernel
theorem dX5_read_23 : decode cX5_read 23 = .ok (.invokevirtual 34, 3) := by decide +kernel
theorem dX5_read_26 : decode cX5_read 26 = .ok (.iconst 0, 1) := by decide +kernel
theorem dX5_read_27 : decode cX5_read 27 = .ok (.istore_n 2, 1) := by decide +kernel
theorem dX5_read_28 : decode cX5_read 28 = .ok (.iload_n 2, 1) := by decide +kernel
theorem dX5_read_29 : decode cX5_read 29 = .ok (.iconst 3, 1) := by decide +kernel
theorem dX5_read_30 : decode cX5_read 30 = .ok (.if_icmp .ge 35, 3) := by decide +kernel
theorem dX5_read_33 : decode cX5_read 33 = .ok (.aload_n 0, 1) := by decide +kernel
theorem dX5_read_34 : decode cX5_read 34 = .ok (.iconst 4, 1) := by decide +kernel
theorem dX5_read_35 : decode cX5_read 35 = .ok (.iload_n 2, 1) := by decide +kernel
theorem dX5_read_36 : decode cX5_read 36 = .ok (.iadd, 1) := by decide +kernel
theorem dX5_read_37 : decode cX5_read 37 = .ok (.invokevirtual 37, 3) := by decide +kernel
theorem dX5_read_40 : decode cX5_read 40 = .ok (.aload_n 0, 1) := by decide +kernel
theorem dX5_read_41 : decode cX5_read 41 = .ok (.iconst 0, 1) := by decide +kernel
theorem dX5_read_42 : decode cX5_read 42 = .ok (.invokevirtual 41, 3) := by decide +kernel
theorem dX5_read_45 : decode cX5_read 45 = .ok (.aload_n 0, 1) := by decide +kernel
theorem dX5_read_46 : decode cX5_read 46 = .ok (.getfield 19, 3) := by decide +kernel
theorem dX5_read_49 : decode cX5_read 49 = .ok (.iload_n 2, 1) := by decide +kernel
theorem dX5_read_50 : decode cX5_read 50 = .ok (.invokevirtual 44, 3) := by decide +kernel
theorem dX5_read_53 : decode cX5_read 53 = .ok (.aload_n 0, 1) := by decide +kernel
theorem dX5_read_54 : decode cX5_read 54 = .ok (.bipush 59, 2) := by decide +kernel
theorem dX5_read_56 : decode cX5_read 56 = .ok (.invokevirtual 37, 3) := by decide +kernel
theorem dX5_read_59 : decode cX5_read 59 = .ok (.iinc 2 1, 3) := by decide +kernel
theorem dX5_read_62 : decode cX5_read 62 = .ok (.goto (-34), 3) := by decide +kernel
theorem dX5_read_65 : decode cX5_read 65 = .ok (.aload_n 0, 1) := by decide +kernel
theorem dX5_read_66 : decode cX5_read 66 = .ok (.iconst 0, 1) := by decide +kernel
theorem dX5_read_67 : decode cX5_read 67 = .ok (.invokevirtual 47, 3) := by decide +kernel
theorem dX5_read_70 : decode cX5_read 70 = .ok (.ifCond .ne 7, 3) := by decide +kernel
theorem dX5_read_73 : decode cX5_read 73 = .ok (.aload_n 0, 1) := by decide +kernel
theorem dX5_read_74 : decode cX5_read 74 = .ok (.invokevirtual 51, 3) := by decide +kernel
theorem dX5_read_77 : decode cX5_read 77 = .ok (.aload_n 0, 1) := by decide +kernel
theorem dX5_read_78 : decode cX5_read 78 = .ok (.iconst 0, 1) := by decide +kernel
theorem dX5_read_79 : decode cX5_read 79 = .ok (.putfield 15, 3) := by decide +kernel
theorem dX5_read_82 : decode cX5_read 82 = .ok (.aload_n 0, 1) := by decide +kernel
theorem dX5_read_83 : decode cX5_read 83 = .ok (.getfield 31, 3) := by decide +kernel
theorem dX5_read_86 : decode cX5_read 86 = .ok (.ireturn, 1) := by decide +kernel
theorem dX5_readOr_0 : decode cX5_readOr 0 = .ok (.aload_n 0, 1) := by decide +kernel
theorem dX5_readOr_1 : decode cX5_readOr 1 = .ok (.iload_n 1, 1) := by decide +kernel
theorem dX5_readOr_2 : decode cX5_readOr 2 = .ok (.invokevirtual 54, 3) := by decide +kernel
theorem dX5_readOr_5 : decode cX5_readOr 5 = .ok (.iconst 0, 1) := by decide +kernel
theorem dX5_readOr_6 : decode cX5_readOr 6 = .ok (.istore_n 2, 1) := by decide +kernel
theorem dX5_readOr_7 : decode cX5_readOr 7 = .ok (.iload_n 2, 1) := by decide +kernel
theorem dX5_readOr_8 : decode cX5_readOr 8 = .ok (.sipush 160, 3) := by decide +kernel
theorem dX5_readOr_11 : decode cX5_readOr 11 = .ok (.if_icmp .ge 36, 3) := by decide +kernel
theorem dX5_readOr_14 : decode cX5_readOr 14 = .ok (.aload_n 0, 1) := by decide +kernel
theorem dX5_readOr_15 : decode cX5_readOr 15 = .ok (.bipush 7, 2) := by decide +kernel
theorem dX5_readOr_17 : decode cX5_readOr 17 = .ok (.invokevirtual 47, 3) := by decide +kernel
theorem dX5_readOr_20 : decode cX5_readOr 20 = .ok (.ifCond .eq 27, 3) := by decide +kernel
theorem dX5_readOr_23 : decode cX5_readOr 23 = .ok (.aload_n 0, 1) := by decide +kernel
theorem dX5_readOr_24 : decode cX5_readOr 24 = .ok (.invokevirtual 34, 3) := by decide +kernel
theorem dX5_readOr_27 : decode cX5_readOr 27 = .ok (.aload_n 0, 1) := by decide +kernel
theorem dX5_readOr_28 : decode cX5_readOr 28 = .ok (.iload_n 1, 1) := by decide +kernel
theorem dX5_readOr_29 : decode cX5_readOr 29 = .ok (.invokevirtual 54, 3) := by decide +kernel
theorem dX5_readOr_32 : decode cX5_readOr 32 = .ok (.aload_n 0, 1) := by decide +kernel
theorem dX5_readOr_33 : decode cX5_readOr 33 = .ok (.getfield 19, 3) := by decide +kernel
theorem dX5_readOr_36 : decode cX5_readOr 36 = .ok (.bipush (-15), 2) := by decide +kernel
theorem dX5_readOr_38 : decode cX5_readOr 38 = .ok (.invokevirtual 57, 3) := by decide +kernel
theorem dX5_readOr_41 : decode cX5_readOr 41 = .ok (.iinc 2 1, 3) := by decide +kernel
theorem dX5_readOr_44 : decode cX5_readOr 44 = .ok (.goto (-37), 3) := by decide +kernel
theorem dX5_readOr_47 : decode cX5_readOr 47 = .ok (.return_, 1) := by decide +kernel
theorem dX5_readAnd_0 : decode cX5_readAnd 0 = .ok (.aload_n 0, 1) := by decide +kernel
theorem dX5_readAnd_1 : decode cX5_readAnd 1 = .ok (.iload_n 1, 1) := by decide +kernel
theorem dX5_readAnd_2 : decode cX5_readAnd 2 = .ok (.invokevirtual 60, 3) := by decide +kernel
theorem dX5_readAnd_5 : decode cX5_readAnd 5 = .ok (.iconst 0, 1) := by decide +kernel
theorem dX5_readAnd_6 : decode cX5_readAnd 6 = .ok (.istore_n 2, 1) := by decide +kernel
theorem dX5_readAnd_7 : decode cX5_readAnd 7 = .ok (.iload_n 2, 1) := by decide +kernel
theorem dX5_readAnd_8 : decode cX5_readAnd 8 = .ok (.sipush 160, 3) := by decide +kernel
theorem dX5_readAnd_11 : decode cX5_readAnd 11 = .ok (.if_icmp .ge 36, 3) := by decide +kernel
theorem dX5_readAnd_14 : decode cX5_readAnd 14 = .ok (.aload_n 0, 1) := by decide +kernel
theorem dX5_readAnd_15 : decode cX5_readAnd 15 = .ok (.bipush 8, 2) := by decide +kernel
theorem dX5_readAnd_17 : decode cX5_readAnd 17 = .ok (.invokevirtual 47, 3) := by decide +kernel
theorem dX5_readAnd_20 : decode cX5_readAnd 20 = .ok (.ifCond .eq 27, 3) := by decide +kernel
theorem dX5_readAnd_23 : decode cX5_readAnd 23 = .ok (.aload_n 0, 1) := by decide +kernel
theorem dX5_readAnd_24 : decode cX5_readAnd 24 = .ok (.invokevirtual 34, 3) := by decide +kernel
theorem dX5_readAnd_27 : decode cX5_readAnd 27 = .ok (.aload_n 0, 1) := by decide +kernel
theorem dX5_readAnd_28 : decode cX5_readAnd 28 = .ok (.iload_n 1, 1) := by decide +kernel
theorem dX5_readAnd_29 : decode cX5_readAnd 29 = .ok (.invokevirtual 60, 3) := by decide +kernel
theorem dX5_readAnd_32 : decode cX5_readAnd 32 = .ok (.aload_n 0, 1) := by decide +kernel
theorem dX5_readAnd_33 : decode cX5_readAnd 33 = .ok (.getfield 19, 3) := by decide +kernel
theorem dX5_readAnd_36 : decode cX5_readAnd 36 = .ok (.bipush (-14), 2) := by decide +kernel
theorem dX5_readAnd_38 : decode cX5_readAnd 38 = .ok (.invokevirtual 57, 3) := by decide +kernel
theorem dX5_readAnd_41 : decode cX5_readAnd 41 = .ok (.iinc 2 1, 3) := by decide +kernel
theorem dX5_readAnd_44 : decode cX5_readAnd 44 = .ok (.goto (-37), 3) := by decide +kernel
theorem dX5_readAnd_47 : decode cX5_readAnd 47 = .ok (.return_, 1) := by decide +kernel
theorem dX5_readNot_0 : decode cX5_readNot 0 = .ok (.aload_n 0, 1) := by decide +kernel
theorem dX5_readNot_1 : decode cX5_readNot 1 = .ok (.bipush 9, 2) := by decide +kernel
theorem dX5_readNot_3 : decode cX5_readNot 3 = .ok (.invokevirtual 47, 3) := by decide +kernel
theorem dX5_readNot_6 : decode cX5_readNot 6 = .ok (.ifCond .eq 28, 3) := by decide +kernel
theorem dX5_readNot_9 : decode cX5_readNot 9 = .ok (.aload_n 0, 1) := by decide +kernel
theorem dX5_readNot_10 : decode cX5_readNot 10 = .ok (.iload_n 1, 1) := by decide +kernel
theorem dX5_readNot_11 : decode cX5_readNot 11 = .ok (.invokevirtual 63, 3) := by decide +kernel
theorem dX5_readNot_14 : decode cX5_readNot 14 = .ok (.ifCond .eq 19, 3) := by decide +kernel
theorem dX5_readNot_17 : decode cX5_readNot 17 = .ok (.aload_n 0, 1) := by decide +kernel
theorem dX5_readNot_18 : decode cX5_readNot 18 = .ok (.iload_n 1, 1) := by decide +kernel
theorem dX5_readNot_19 : decode cX5_readNot 19 = .ok (.iconst 1, 1) := by decide +kernel
theorem dX5_readNot_20 : decode cX5_readNot 20 = .ok (.iadd, 1) := by decide +kernel
theorem dX5_readNot_21 : decode cX5_readNot 21 = .ok (.invokevirtual 60, 3) := by decide +kernel
theorem dX5_readNot_24 : decode cX5_readNot 24 = .ok (.aload_n 0, 1) := by decide +kernel
theorem dX5_readNot_25 : decode cX5_readNot 25 = .ok (.getfield 19, 3) := by decide +kernel
theorem dX5_readNot_28 : decode cX5_readNot 28 = .ok (.bipush (-8), 2) := by decide +kernel
theorem dX5_readNot_30 : decode cX5_readNot 30 = .ok (.invokevirtual 57, 3) := by decide +kernel
theorem dX5_readNot_33 : decode cX5_readNot 33 = .ok (.return_, 1) := by decide +kernel
theorem dX5_readNot_34 : decode cX5_readNot 34 = .ok (.aload_n 0, 1) := by decide +kernel
theorem dX5_readNot_35 : decode cX5_readNot 35 = .ok (.iload_n 1, 1) := by decide +kernel
theorem dX5_readNot_36 : decode cX5_readNot 36 = .ok (.invokevirtual 66, 3) := by decide +kernel
theorem dX5_readNot_39 : decode cX5_readNot 39 = .ok (.aload_n 0, 1) := by decide +kernel
theorem dX5_readNot_40 : decode cX5_readNot 40 = .ok (.bipush 60, 2) := by decide +kernel
theorem dX5_readNot_42 : decode cX5_readNot 42 = .ok (.invokevirtual 47, 3) := by decide +kernel
theorem dX5_readNot_45 : decode cX5_readNot 45 = .ok (.ifCond .ne 13, 3) := by decide +kernel
theorem dX5_readNot_48 : decode cX5_readNot 48 = .ok (.aload_n 0, 1) := by decide +kernel
theorem dX5_readNot_49 : decode cX5_readNot 49 = .ok (.bipush 61, 2) := by decide +kernel
theorem dX5_readNot_51 : decode cX5_readNot 51 = .ok (.invokevirtual 47, 3) := by decide +kernel
theorem dX5_readNot_54 : decode cX5_readNot 54 = .ok (.ifCond .ne 4, 3) := by decide +kernel
theorem dX5_readNot_57 : decode cX5_readNot 57 = .ok (.return_, 1) := by decide +kernel
theorem dX5_readNot_58 : decode cX5_readNot 58 = .ok (.aload_n 0, 1) := by decide +kernel
theorem dX5_readNot_59 : decode cX5_readNot 59 = .ok (.getfield 69, 3) := by decide +kernel
theorem dX5_readNot_62 : decode cX5_readNot 62 = .ok (.bipush 60, 2) := by decide +kernel
theorem dX5_readNot_64 : decode cX5_readNot 64 = .ok (.if_icmp .ne 8, 3) := by decide +kernel
theorem dX5_readNot_67 : decode cX5_readNot 67 = .ok (.bipush (-12), 2) := by decide +kernel
theorem dX5_readNot_69 : decode cX5_readNot 69 = .ok (.goto 5, 3) := by decide +kernel
theorem dX5_readNot_72 : decode cX5_readNot 72 = .ok (.bipush (-13), 2) := by decide +kernel
theorem dX5_readNot_74 : decode cX5_readNot 74 = .ok (.istore_n 2, 1) := by decide +kernel
theorem dX5_readNot_75 : decode cX5_readNot 75 = .ok (.aload_n 0, 1) := by decide +kernel
theorem dX5_readNot_76 : decode cX5_readNot 76 = .ok (.invokevirtual 34, 3) := by decide +kernel
theorem dX5_readNot_79 : decode cX5_readNot 79 = .ok (.aload_n 0, 1) := by decide +kernel
theorem dX5_readNot_80 : decode cX5_readNot 80 = .ok (.iload_n 1, 1) := by decide +kernel
theorem dX5_readNot_81 : decode cX5_readNot 81 = .ok (.invokevirtual 66, 3) := by decide +kernel
theorem dX5_readNot_84 : decode cX5_readNot 84 = .ok (.aload_n 0, 1) := by decide +kernel
theorem dX5_readNot_85 : decode cX5_readNot 85 = .ok (.getfield 19, 3) := by decide +kernel
theorem dX5_readNot_88 : decode cX5_readNot 88 = .ok (.iload_n 2, 1) := by decide +kernel
theorem dX5_readNot_89 : decode cX5_readNot 89 = .ok (.invokevirtual 57, 3) := by decide +kernel
theorem dX5_readNot_92 : decode cX5_readNot 92 = .ok (.return_, 1) := by decide +kernel
theorem dX5_readSum_0 : decode cX5_readSum 0 = .ok (.aload_n 0, 1) := by decide +kernel
theorem dX5_readSum_1 : decode cX5_readSum 1 = .ok (.iload_n 1, 1) := by decide +kernel
theorem dX5_readSum_2 : decode cX5_readSum 2 = .ok (.invokevirtual 72, 3) := by decide +kernel
theorem dX5_readSum_5 : decode cX5_readSum 5 = .ok (.iconst 0, 1) := by decide +kernel
theorem dX5_readSum_6 : decode cX5_readSum 6 = .ok (.istore_n 2, 1) := by decide +kernel
theorem dX5_readSum_7 : decode cX5_readSum 7 = .ok (.iload_n 2, 1) := by decide +kernel
theorem dX5_readSum_8 : decode cX5_readSum 8 = .ok (.sipush 160, 3) := by decide +kernel
theorem dX5_readSum_11 : decode cX5_readSum 11 = .ok (.if_icmp .ge 61, 3) := by decide +kernel
theorem dX5_readSum_14 : decode cX5_readSum 14 = .ok (.aload_n 0, 1) := by decide +kernel
theorem dX5_readSum_15 : decode cX5_readSum 15 = .ok (.bipush 43, 2) := by decide +kernel
theorem dX5_readSum_17 : decode cX5_readSum 17 = .ok (.invokevirtual 47, 3) := by decide +kernel
theorem dX5_readSum_20 : decode cX5_readSum 20 = .ok (.ifCond .ne 12, 3) := by decide +kernel
theorem dX5_readSum_23 : decode cX5_readSum 23 = .ok (.aload_n 0, 1) := by decide +kernel
theorem dX5_readSum_24 : decode cX5_readSum 24 = .ok (.bipush 45, 2) := by decide +kernel
theorem dX5_readSum_26 : decode cX5_readSum 26 = .ok (.invokevirtual 47, 3) := by decide +kernel
theorem dX5_readSum_29 : decode cX5_readSum 29 = .ok (.ifCond .eq 43, 3) := by decide +kernel
theorem dX5_readSum_32 : decode cX5_readSum 32 = .ok (.aload_n 0, 1) := by decide +kernel
theorem dX5_readSum_33 : decode cX5_readSum 33 = .ok (.getfield 69, 3) := by decide +kernel
theorem dX5_readSum_36 : decode cX5_readSum 36 = .ok (.bipush 43, 2) := by decide +kernel
theorem dX5_readSum_38 : decode cX5_readSum 38 = .ok (.if_icmp .ne 8, 3) := by decide +kernel
theorem dX5_readSum_41 : decode cX5_readSum 41 = .ok (.bipush (-9), 2) := by decide +kernel
theorem dX5_readSum_43 : decode cX5_readSum 43 = .ok (.goto 5, 3) := by decide +kernel
theorem dX5_readSum_46 : decode cX5_readSum 46 = .ok (.bipush (-10), 2) := by decide +kernel
theorem dX5_readSum_48 : decode cX5_readSum 48 = .ok (.istore_n 3, 1) := by decide +kernel
theorem dX5_readSum_49 : decode cX5_readSum 49 = .ok (.aload_n 0, 1) := by decide +kernel
theorem dX5_readSum_50 : decode cX5_readSum 50 = .ok (.invokevirtual 34, 3) := by decide +kernel
theorem dX5_readSum_53 : decode cX5_readSum 53 = .ok (.aload_n 0, 1) := by decide +kernel
theorem dX5_readSum_54 : decode cX5_readSum 54 = .ok (.iload_n 1, 1) := by decide +kernel
theorem dX5_readSum_55 : decode cX5_readSum 55 = .ok (.invokevirtual 72, 3) := by decide +kernel
theorem dX5_readSum_58 : decode cX5_readSum 58 = .ok (.aload_n 0, 1) := by decide +kernel
theorem dX5_readSum_59 : decode cX5_readSum 59 = .ok (.getfield 19, 3) := by decide +kernel
theorem dX5_readSum_62 : decode cX5_readSum 62 = .ok (.iload_n 3, 1) := by decide +kernel
theorem dX5_readSum_63 : decode cX5_readSum 63 = .ok (.invokevirtual 57, 3) := by decide +kernel
theorem dX5_readSum_66 : decode cX5_readSum 66 = .ok (.iinc 2 1, 3) := by decide +kernel
theorem dX5_readSum_69 : decode cX5_readSum 69 = .ok (.goto (-62), 3) := by decide +kernel
theorem dX5_readSum_72 : decode cX5_readSum 72 = .ok (.return_, 1) := by decide +kernel
theorem dX5_readTerm_0 : decode cX5_readTerm 0 = .ok (.aload_n 0, 1) := by decide +kernel
theorem dX5_readTerm_1 : decode cX5_readTerm 1 = .ok (.iload_n 1, 1) := by decide +kernel
theorem dX5_readTerm_2 : decode cX5_readTerm 2 = .ok (.invokevirtual 75, 3) := by decide +kernel
theorem dX5_readTerm_5 : decode cX5_readTerm 5 = .ok (.iconst 0, 1) := by decide +kernel
theorem dX5_readTerm_6 : decode cX5_readTerm 6 = .ok (.istore_n 2, 1) := by decide +kernel
theorem dX5_readTerm_7 : decode cX5_readTerm 7 = .ok (.iload_n 2, 1) := by decide +kernel
theorem dX5_readTerm_8 : decode cX5_readTerm 8 = .ok (.sipush 160, 3) := by decide +kernel
theorem dX5_readTerm_11 : decode cX5_readTerm 11 = .ok (.if_icmp .ge 36, 3) := by decide +kernel
theorem dX5_readTerm_14 : decode cX5_readTerm 14 = .ok (.aload_n 0, 1) := by decide +kernel
theorem dX5_readTerm_15 : decode cX5_readTerm 15 = .ok (.bipush 42, 2) := by decide +kernel
theorem dX5_readTerm_17 : decode cX5_readTerm 17 = .ok (.invokevirtual 47, 3) := by decide +kernel
theorem dX5_readTerm_20 : decode cX5_readTerm 20 = .ok (.ifCond .eq 27, 3) := by decide +kernel
theorem dX5_readTerm_23 : decode cX5_readTerm 23 = .ok (.aload_n 0, 1) := by decide +kernel
theorem dX5_readTerm_24 : decode cX5_readTerm 24 = .ok (.invokevirtual 34, 3) := by decide +kernel
theorem dX5_readTerm_27 : decode cX5_readTerm 27 = .ok (.aload_n 0, 1) := by decide +kernel
theorem dX5_readTerm_28 : decode cX5_readTerm 28 = .ok (.iload_n 1, 1) := by decide +kernel
theorem dX5_readTerm_29 : decode cX5_readTerm 29 = .ok (.invokevirtual 75, 3) := by decide +kernel
theorem dX5_readTerm_32 : decode cX5_readTerm 32 = .ok (.aload_n 0, 1) := by decide +kernel
theorem dX5_readTerm_33 : decode cX5_readTerm 33 = .ok (.getfield 19, 3) := by decide +kernel
theorem dX5_readTerm_36 : decode cX5_readTerm 36 = .ok (.bipush (-11), 2) := by decide +kernel
theorem dX5_readTerm_38 : decode cX5_readTerm 38 = .ok (.invokevirtual 57, 3) := by decide +kernel
theorem dX5_readTerm_41 : decode cX5_readTerm 41 = .ok (.iinc 2 1, 3) := by decide +kernel
theorem dX5_readTerm_44 : decode cX5_readTerm 44 = .ok (.goto (-37), 3) := by decide +kernel
theorem dX5_readTerm_47 : decode cX5_readTerm 47 = .ok (.return_, 1) := by decide +kernel
theorem dX5_readOne_0 : decode cX5_readOne 0 = .ok (.aload_n 0, 1) := by decide +kernel
theorem dX5_readOne_1 : decode cX5_readOne 1 = .ok (.iconst 2, 1) := by decide +kernel
theorem dX5_readOne_2 : decode cX5_readOne 2 = .ok (.invokevirtual 47, 3) := by decide +kernel
theorem dX5_readOne_5 : decode cX5_readOne 5 = .ok (.ifCond .ne 11, 3) := by decide +kernel
theorem dX5_readOne_8 : decode cX5_readOne 8 = .ok (.aload_n 0, 1) := by decide +kernel
theorem dX5_readOne_9 : decode cX5_readOne 9 = .ok (.iconst 3, 1) := by decide +kernel
theorem dX5_readOne_10 : decode cX5_readOne 10 = .ok (.invokevirtual 47, 3) := by decide +kernel
theorem dX5_readOne_13 : decode cX5_readOne 13 = .ok (.ifCond .eq 38, 3) := by decide +kernel
theorem dX5_readOne_16 : decode cX5_readOne 16 = .ok (.aload_n 0, 1) := by decide +kernel
theorem dX5_readOne_17 : decode cX5_readOne 17 = .ok (.getfield 19, 3) := by decide +kernel
theorem dX5_readOne_20 : decode cX5_readOne 20 = .ok (.aload_n 0, 1) := by decide +kernel
theorem dX5_readOne_21 : decode cX5_readOne 21 = .ok (.getfield 69, 3) := by decide +kernel
theorem dX5_readOne_24 : decode cX5_readOne 24 = .ok (.iconst 2, 1) := by decide +kernel
theorem dX5_readOne_25 : decode cX5_readOne 25 = .ok (.if_icmp .ne 10, 3) := by decide +kernel
theorem dX5_readOne_28 : decode cX5_readOne 28 = .ok (.aload_n 0, 1) := by decide +kernel
theorem dX5_readOne_29 : decode cX5_readOne 29 = .ok (.getfield 78, 3) := by decide +kernel
theorem dX5_readOne_32 : decode cX5_readOne 32 = .ok (.goto 9, 3) := by decide +kernel
theorem dX5_readOne_35 : decode cX5_readOne 35 = .ok (.iconst (-1), 1) := by decide +kernel
theorem dX5_readOne_36 : decode cX5_readOne 36 = .ok (.aload_n 0, 1) := by decide +kernel
theorem dX5_readOne_37 : decode cX5_readOne 37 = .ok (.getfield 78, 3) := by decide +kernel
theorem dX5_readOne_40 : decode cX5_readOne 40 = .ok (.isub, 1) := by decide +kernel
theorem dX5_readOne_41 : decode cX5_readOne 41 = .ok (.invokevirtual 57, 3) := by decide +kernel
theorem dX5_readOne_44 : decode cX5_readOne 44 = .ok (.aload_n 0, 1) := by decide +kernel
theorem dX5_readOne_45 : decode cX5_readOne 45 = .ok (.invokevirtual 34, 3) := by decide +kernel
theorem dX5_readOne_48 : decode cX5_readOne 48 = .ok (.goto 76, 3) := by decide +kernel
theorem dX5_readOne_51 : decode cX5_readOne 51 = .ok (.aload_n 0, 1) := by decide +kernel
theorem dX5_readOne_52 : decode cX5_readOne 52 = .ok (.bipush 45, 2) := by decide +kernel
theorem dX5_readOne_54 : decode cX5_readOne 54 = .ok (.invokevirtual 47, 3) := by decide +kernel
theorem dX5_readOne_57 : decode cX5_readOne 57 = .ok (.ifCond .eq 30, 3) := by decide +kernel
theorem dX5_readOne_60 : decode cX5_readOne 60 = .ok (.aload_n 0, 1) := by decide +kernel
theorem dX5_readOne_61 : decode cX5_readOne 61 = .ok (.iload_n 1, 1) := by decide +kernel
theorem dX5_readOne_62 : decode cX5_readOne 62 = .ok (.invokevirtual 63, 3) := by decide +kernel
theorem dX5_readOne_65 : decode cX5_readOne 65 = .ok (.ifCond .eq 59, 3) := by decide +kernel
theorem dX5_readOne_68 : decode cX5_readOne 68 = .ok (.aload_n 0, 1) := by decide +kernel
theorem dX5_readOne_69 : decode cX5_readOne 69 = .ok (.iload_n 1, 1) := by decide +kernel
theorem dX5_readOne_70 : decode cX5_readOne 70 = .ok (.iconst 1, 1) := by decide +kernel
theorem dX5_readOne_71 : decode cX5_readOne 71 = .ok (.iadd, 1) := by decide +kernel
theorem dX5_readOne_72 : decode cX5_readOne 72 = .ok (.invokevirtual 75, 3) := by decide +kernel
theorem dX5_readOne_75 : decode cX5_readOne 75 = .ok (.aload_n 0, 1) := by decide +kernel
theorem dX5_readOne_76 : decode cX5_readOne 76 = .ok (.getfield 19, 3) := by decide +kernel
theorem dX5_readOne_79 : decode cX5_readOne 79 = .ok (.bipush (-7), 2) := by decide +kernel
theorem dX5_readOne_81 : decode cX5_readOne 81 = .ok (.invokevirtual 57, 3) := by decide +kernel
theorem dX5_readOne_84 : decode cX5_readOne 84 = .ok (.goto 40, 3) := by decide +kernel
theorem dX5_readOne_87 : decode cX5_readOne 87 = .ok (.aload_n 0, 1) := by decide +kernel
theorem dX5_readOne_88 : decode cX5_readOne 88 = .ok (.bipush 40, 2) := by decide +kernel
theorem dX5_readOne_90 : decode cX5_readOne 90 = .ok (.invokevirtual 47, 3) := by decide +kernel
theorem dX5_readOne_93 : decode cX5_readOne 93 = .ok (.ifCond .eq 27, 3) := by decide +kernel
theorem dX5_readOne_96 : decode cX5_readOne 96 = .ok (.aload_n 0, 1) := by decide +kernel
theorem dX5_readOne_97 : decode cX5_readOne 97 = .ok (.iload_n 1, 1) := by decide +kernel
theorem dX5_readOne_98 : decode cX5_readOne 98 = .ok (.invokevirtual 63, 3) := by decide +kernel
theorem dX5_readOne_101 : decode cX5_readOne 101 = .ok (.ifCond .eq 23, 3) := by decide +kernel
theorem dX5_readOne_104 : decode cX5_readOne 104 = .ok (.aload_n 0, 1) := by decide +kernel
theorem dX5_readOne_105 : decode cX5_readOne 105 = .ok (.iload_n 1, 1) := by decide +kernel
theorem dX5_readOne_106 : decode cX5_readOne 106 = .ok (.iconst 1, 1) := by decide +kernel
theorem dX5_readOne_107 : decode cX5_readOne 107 = .ok (.iadd, 1) := by decide +kernel
theorem dX5_readOne_108 : decode cX5_readOne 108 = .ok (.invokevirtual 41, 3) := by decide +kernel
theorem dX5_readOne_111 : decode cX5_readOne 111 = .ok (.aload_n 0, 1) := by decide +kernel
theorem dX5_readOne_112 : decode cX5_readOne 112 = .ok (.bipush 41, 2) := by decide +kernel
theorem dX5_readOne_114 : decode cX5_readOne 114 = .ok (.invokevirtual 37, 3) := by decide +kernel
theorem dX5_readOne_117 : decode cX5_readOne 117 = .ok (.goto 7, 3) := by decide +kernel
theorem dX5_readOne_120 : decode cX5_readOne 120 = .ok (.aload_n 0, 1) := by decide +kernel
theorem dX5_readOne_121 : decode cX5_readOne 121 = .ok (.invokevirtual 51, 3) := by decide +kernel
theorem dX5_readOne_124 : decode cX5_readOne 124 = .ok (.return_, 1) := by decide +kernel
theorem dX5_goesDeeper_0 : decode cX5_goesDeeper 0 = .ok (.iload_n 1, 1) := by decide +kernel
theorem dX5_goesDeeper_1 : decode cX5_goesDeeper 1 = .ok (.iconst 5, 1) := by decide +kernel
theorem dX5_goesDeeper_2 : decode cX5_goesDeeper 2 = .ok (.if_icmp .lt 10, 3) := by decide +kernel
theorem dX5_goesDeeper_5 : decode cX5_goesDeeper 5 = .ok (.aload_n 0, 1) := by decide +kernel
theorem dX5_goesDeeper_6 : decode cX5_goesDeeper 6 = .ok (.invokevirtual 51, 3) := by decide +kernel
theorem dX5_goesDeeper_9 : decode cX5_goesDeeper 9 = .ok (.goto 7, 3) := by decide +kernel
theorem dX5_goesDeeper_12 : decode cX5_goesDeeper 12 = .ok (.aload_n 0, 1) := by decide +kernel
theorem dX5_goesDeeper_13 : decode cX5_goesDeeper 13 = .ok (.invokevirtual 34, 3) := by decide +kernel
theorem dX5_goesDeeper_16 : decode cX5_goesDeeper 16 = .ok (.iload_n 1, 1) := by decide +kernel
theorem dX5_goesDeeper_17 : decode cX5_goesDeeper 17 = .ok (.iconst 5, 1) := by decide +kernel
theorem dX5_goesDeeper_18 : decode cX5_goesDeeper 18 = .ok (.if_icmp .ge 7, 3) := by decide +kernel
theorem dX5_goesDeeper_21 : decode cX5_goesDeeper 21 = .ok (.iconst 1, 1) := by decide +kernel
theorem dX5_goesDeeper_22 : decode cX5_goesDeeper 22 = .ok (.goto 4, 3) := by decide +kernel
theorem dX5_goesDeeper_25 : decode cX5_goesDeeper 25 = .ok (.iconst 0, 1) := by decide +kernel
theorem dX5_goesDeeper_26 : decode cX5_goesDeeper 26 = .ok (.ireturn, 1) := by decide +kernel
theorem dX5_has_0 : decode cX5_has 0 = .ok (.aload_n 0, 1) := by decide +kernel
theorem dX5_has_1 : decode cX5_has 1 = .ok (.getfield 31, 3) := by decide +kernel
theorem dX5_has_4 : decode cX5_has 4 = .ok (.iconst (-1), 1) := by decide +kernel
theorem dX5_has_5 : decode cX5_has 5 = .ok (.if_icmp .ne 15, 3) := by decide +kernel
theorem dX5_has_8 : decode cX5_has 8 = .ok (.aload_n 0, 1) := by decide +kernel
theorem dX5_has_9 : decode cX5_has 9 = .ok (.getfield 69, 3) := by decide +kernel
theorem dX5_has_12 : decode cX5_has 12 = .ok (.iload_n 1, 1) := by decide +kernel
theorem dX5_has_13 : decode cX5_has 13 = .ok (.if_icmp .ne 7, 3) := by decide +kernel
theorem dX5_has_16 : decode cX5_has 16 = .ok (.iconst 1, 1) := by decide +kernel
theorem dX5_has_17 : decode cX5_has 17 = .ok (.goto 4, 3) := by decide +kernel
theorem dX5_has_20 : decode cX5_has 20 = .ok (.iconst 0, 1) := by decide +kernel
theorem dX5_has_21 : decode cX5_has 21 = .ok (.ireturn, 1) := by decide +kernel
theorem dX5_expect_0 : decode cX5_expect 0 = .ok (.aload_n 0, 1) := by decide +kernel
theorem dX5_expect_1 : decode cX5_expect 1 = .ok (.iload_n 1, 1) := by decide +kernel
theorem dX5_expect_2 : decode cX5_expect 2 = .ok (.invokevirtual 47, 3) := by decide +kernel
theorem dX5_expect_5 : decode cX5_expect 5 = .ok (.ifCond .eq 10, 3) := by decide +kernel
theorem dX5_expect_8 : decode cX5_expect 8 = .ok (.aload_n 0, 1) := by decide +kernel
theorem dX5_expect_9 : decode cX5_expect 9 = .ok (.invokevirtual 34, 3) := by decide +kernel
theorem dX5_expect_12 : decode cX5_expect 12 = .ok (.goto 7, 3) := by decide +kernel
theorem dX5_expect_15 : decode cX5_expect 15 = .ok (.aload_n 0, 1) := by decide +kernel
theorem dX5_expect_16 : decode cX5_expect 16 = .ok (.invokevirtual 51, 3) := by decide +kernel
theorem dX5_expect_19 : decode cX5_expect 19 = .ok (.return_, 1) := by decide +kernel
theorem dX5_faultHere_0 : decode cX5_faultHere 0 = .ok (.aload_n 0, 1) := by decide +kernel
theorem dX5_faultHere_1 : decode cX5_faultHere 1 = .ok (.getfield 31, 3) := by decide +kernel
theorem dX5_faultHere_4 : decode cX5_faultHere 4 = .ok (.iconst (-1), 1) := by decide +kernel
theorem dX5_faultHere_5 : decode cX5_faultHere 5 = .ok (.if_icmp .ne 11, 3) := by decide +kernel
theorem dX5_faultHere_8 : decode cX5_faultHere 8 = .ok (.aload_n 0, 1) := by decide +kernel
theorem dX5_faultHere_9 : decode cX5_faultHere 9 = .ok (.aload_n 0, 1) := by decide +kernel
theorem dX5_faultHere_10 : decode cX5_faultHere 10 = .ok (.getfield 81, 3) := by decide +kernel
theorem dX5_faultHere_13 : decode cX5_faultHere 13 = .ok (.putfield 31, 3) := by decide +kernel
theorem dX5_faultHere_16 : decode cX5_faultHere 16 = .ok (.return_, 1) := by decide +kernel
theorem dX5_advance_0 : decode cX5_advance 0 = .ok (.aload_n 0, 1) := by decide +kernel
theorem dX5_advance_1 : decode cX5_advance 1 = .ok (.getfield 28, 3) := by decide +kernel
theorem dX5_advance_4 : decode cX5_advance 4 = .ok (.aload_n 0, 1) := by decide +kernel
theorem dX5_advance_5 : decode cX5_advance 5 = .ok (.getfield 15, 3) := by decide +kernel
theorem dX5_advance_8 : decode cX5_advance 8 = .ok (.if_icmp .ge 44, 3) := by decide +kernel
theorem dX5_advance_11 : decode cX5_advance 11 = .ok (.aload_n 0, 1) := by decide +kernel
theorem dX5_advance_12 : decode cX5_advance 12 = .ok (.getfield 9, 3) := by decide +kernel
theorem dX5_advance_15 : decode cX5_advance 15 = .ok (.aload_n 0, 1) := by decide +kernel
theorem dX5_advance_16 : decode cX5_advance 16 = .ok (.getfield 28, 3) := by decide +kernel
theorem dX5_advance_19 : decode cX5_advance 19 = .ok (.iaload, 1) := by decide +kernel
theorem dX5_advance_20 : decode cX5_advance 20 = .ok (.bipush 32, 2) := by decide +kernel
theorem dX5_advance_22 : decode cX5_advance 22 = .ok (.if_icmp .eq 17, 3) := by decide +kernel
theorem dX5_advance_25 : decode cX5_advance 25 = .ok (.aload_n 0, 1) := by decide +kernel
theorem dX5_advance_26 : decode cX5_advance 26 = .ok (.getfield 9, 3) := by decide +kernel
theorem dX5_advance_29 : decode cX5_advance 29 = .ok (.aload_n 0, 1) := by decide +kernel
theorem dX5_advance_30 : decode cX5_advance 30 = .ok (.getfield 28, 3) := by decide +kernel
theorem dX5_advance_33 : decode cX5_advance 33 = .ok (.iaload, 1) := by decide +kernel
theorem dX5_advance_34 : decode cX5_advance 34 = .ok (.bipush 10, 2) := by decide +kernel
theorem dX5_advance_36 : decode cX5_advance 36 = .ok (.if_icmp .ne 16, 3) := by decide +kernel
theorem dX5_advance_39 : decode cX5_advance 39 = .ok (.aload_n 0, 1) := by decide +kernel
theorem dX5_advance_40 : decode cX5_advance 40 = .ok (.dup, 1) := by decide +kernel
theorem dX5_advance_41 : decode cX5_advance 41 = .ok (.getfield 28, 3) := by decide +kernel
theorem dX5_advance_44 : decode cX5_advance 44 = .ok (.iconst 1, 1) := by decide +kernel
theorem dX5_advance_45 : decode cX5_advance 45 = .ok (.iadd, 1) := by decide +kernel
theorem dX5_advance_46 : decode cX5_advance 46 = .ok (.putfield 28, 3) := by decide +kernel
theorem dX5_advance_49 : decode cX5_advance 49 = .ok (.goto (-49), 3) := by decide +kernel
theorem dX5_advance_52 : decode cX5_advance 52 = .ok (.aload_n 0, 1) := by decide +kernel
theorem dX5_advance_53 : decode cX5_advance 53 = .ok (.aload_n 0, 1) := by decide +kernel
theorem dX5_advance_54 : decode cX5_advance 54 = .ok (.getfield 28, 3) := by decide +kernel
theorem dX5_advance_57 : decode cX5_advance 57 = .ok (.putfield 81, 3) := by decide +kernel
theorem dX5_advance_60 : decode cX5_advance 60 = .ok (.aload_n 0, 1) := by decide +kernel
theorem dX5_advance_61 : decode cX5_advance 61 = .ok (.getfield 28, 3) := by decide +kernel
theorem dX5_advance_64 : decode cX5_advance 64 = .ok (.aload_n 0, 1) := by decide +kernel
theorem dX5_advance_65 : decode cX5_advance 65 = .ok (.getfield 15, 3) := by decide +kernel
theorem dX5_advance_68 : decode cX5_advance 68 = .ok (.if_icmp .lt 11, 3) := by decide +kernel
theorem dX5_advance_71 : decode cX5_advance 71 = .ok (.aload_n 0, 1) := by decide +kernel
theorem dX5_advance_72 : decode cX5_advance 72 = .ok (.iconst 0, 1) := by decide +kernel
theorem dX5_advance_73 : decode cX5_advance 73 = .ok (.putfield 69, 3) := by decide +kernel
theorem dX5_advance_76 : decode cX5_advance 76 = .ok (.goto 51, 3) := by decide +kernel
theorem dX5_advance_79 : decode cX5_advance 79 = .ok (.aload_n 0, 1) := by decide +kernel
theorem dX5_advance_80 : decode cX5_advance 80 = .ok (.getfield 9, 3) := by decide +kernel
theorem dX5_advance_83 : decode cX5_advance 83 = .ok (.aload_n 0, 1) := by decide +kernel
theorem dX5_advance_84 : decode cX5_advance 84 = .ok (.getfield 28, 3) := by decide +kernel
theorem dX5_advance_87 : decode cX5_advance 87 = .ok (.iaload, 1) := by decide +kernel
theorem dX5_advance_88 : decode cX5_advance 88 = .ok (.invokestatic 84, 3) := by decide +kernel
theorem dX5_advance_91 : decode cX5_advance 91 = .ok (.ifCond .eq 10, 3) := by decide +kernel
theorem dX5_advance_94 : decode cX5_advance 94 = .ok (.aload_n 0, 1) := by decide +kernel
theorem dX5_advance_95 : decode cX5_advance 95 = .ok (.invokevirtual 87, 3) := by decide +kernel
theorem dX5_advance_98 : decode cX5_advance 98 = .ok (.goto 29, 3) := by decide +kernel
theorem dX5_advance_101 : decode cX5_advance 101 = .ok (.aload_n 0, 1) := by decide +kernel
theorem dX5_advance_102 : decode cX5_advance 102 = .ok (.getfield 9, 3) := by decide +kernel
theorem dX5_advance_105 : decode cX5_advance 105 = .ok (.aload_n 0, 1) := by decide +kernel
theorem dX5_advance_106 : decode cX5_advance 106 = .ok (.getfield 28, 3) := by decide +kernel
theorem dX5_advance_109 : decode cX5_advance 109 = .ok (.iaload, 1) := by decide +kernel
theorem dX5_advance_110 : decode cX5_advance 110 = .ok (.invokestatic 90, 3) := by decide +kernel
theorem dX5_advance_113 : decode cX5_advance 113 = .ok (.ifCond .eq 10, 3) := by decide +kernel
theorem dX5_advance_116 : decode cX5_advance 116 = .ok (.aload_n 0, 1) := by decide +kernel
theorem dX5_advance_117 : decode cX5_advance 117 = .ok (.invokevirtual 93, 3) := by decide +kernel
theorem dX5_advance_120 : decode cX5_advance 120 = .ok (.goto 7, 3) := by decide +kernel
theorem dX5_advance_123 : decode cX5_advance 123 = .ok (.aload_n 0, 1) := by decide +kernel
theorem dX5_advance_124 : decode cX5_advance 124 = .ok (.invokevirtual 96, 3) := by decide +kernel
theorem dX5_advance_127 : decode cX5_advance 127 = .ok (.return_, 1) := by decide +kernel
theorem dX5_advanceNumber_0 : decode cX5_advanceNumber 0 = .ok (.aload_n 0, 1) := by decide +kernel
theorem dX5_advanceNumber_1 : decode cX5_advanceNumber 1 = .ok (.iconst 0, 1) := by decide +kernel
theorem dX5_advanceNumber_2 : decode cX5_advanceNumber 2 = .ok (.putfield 78, 3) := by decide +kernel
theorem dX5_advanceNumber_5 : decode cX5_advanceNumber 5 = .ok (.aload_n 0, 1) := by decide +kernel
theorem dX5_advanceNumber_6 : decode cX5_advanceNumber 6 = .ok (.getfield 28, 3) := by decide +kernel
theorem dX5_advanceNumber_9 : decode cX5_advanceNumber 9 = .ok (.aload_n 0, 1) := by decide +kernel
theorem dX5_advanceNumber_10 : decode cX5_advanceNumber 10 = .ok (.getfield 15, 3) := by decide +kernel
theorem dX5_advanceNumber_13 : decode cX5_advanceNumber 13 = .ok (.if_icmp .ge 55, 3) := by decide +kernel
theorem dX5_advanceNumber_16 : decode cX5_advanceNumber 16 = .ok (.aload_n 0, 1) := by decide +kernel
theorem dX5_advanceNumber_17 : decode cX5_advanceNumber 17 = .ok (.getfield 9, 3) := by decide +kernel
theorem dX5_advanceNumber_20 : decode cX5_advanceNumber 20 = .ok (.aload_n 0, 1) := by decide +kernel
theorem dX5_advanceNumber_21 : decode cX5_advanceNumber 21 = .ok (.getfield 28, 3) := by decide +kernel
theorem dX5_advanceNumber_24 : decode cX5_advanceNumber 24 = .ok (.iaload, 1) := by decide +kernel
theorem dX5_advanceNumber_25 : decode cX5_advanceNumber 25 = .ok (.invokestatic 84, 3) := by decide +kernel
theorem dX5_advanceNumber_28 : decode cX5_advanceNumber 28 = .ok (.ifCond .eq 40, 3) := by decide +kernel
theorem dX5_advanceNumber_31 : decode cX5_advanceNumber 31 = .ok (.aload_n 0, 1) := by decide +kernel
theorem dX5_advanceNumber_32 : decode cX5_advanceNumber 32 = .ok (.aload_n 0, 1) := by decide +kernel
theorem dX5_advanceNumber_33 : decode cX5_advanceNumber 33 = .ok (.getfield 78, 3) := by decide +kernel
theorem dX5_advanceNumber_36 : decode cX5_advanceNumber 36 = .ok (.bipush 10, 2) := by decide +kernel
theorem dX5_advanceNumber_38 : decode cX5_advanceNumber 38 = .ok (.imul, 1) := by decide +kernel
theorem dX5_advanceNumber_39 : decode cX5_advanceNumber 39 = .ok (.aload_n 0, 1) := by decide +kernel
theorem dX5_advanceNumber_40 : decode cX5_advanceNumber 40 = .ok (.getfield 9, 3) := by decide +kernel
theorem dX5_advanceNumber_43 : decode cX5_advanceNumber 43 = .ok (.aload_n 0, 1) := by decide +kernel
theorem dX5_advanceNumber_44 : decode cX5_advanceNumber 44 = .ok (.getfield 28, 3) := by decide +kernel
theorem dX5_advanceNumber_47 : decode cX5_advanceNumber 47 = .ok (.iaload, 1) := by decide +kernel
theorem dX5_advanceNumber_48 : decode cX5_advanceNumber 48 = .ok (.iadd, 1) := by decide +kernel
theorem dX5_advanceNumber_49 : decode cX5_advanceNumber 49 = .ok (.bipush 48, 2) := by decide +kernel
theorem dX5_advanceNumber_51 : decode cX5_advanceNumber 51 = .ok (.isub, 1) := by decide +kernel
theorem dX5_advanceNumber_52 : decode cX5_advanceNumber 52 = .ok (.putfield 78, 3) := by decide +kernel
theorem dX5_advanceNumber_55 : decode cX5_advanceNumber 55 = .ok (.aload_n 0, 1) := by decide +kernel
theorem dX5_advanceNumber_56 : decode cX5_advanceNumber 56 = .ok (.dup, 1) := by decide +kernel
theorem dX5_advanceNumber_57 : decode cX5_advanceNumber 57 = .ok (.getfield 28, 3) := by decide +kernel
theorem dX5_advanceNumber_60 : decode cX5_advanceNumber 60 = .ok (.iconst 1, 1) := by decide +kernel
