theorem dX5_advanceNumber_61 : decode cX5_advanceNumber 61 = .ok (.iadd, 1) := by decide +kernel
theorem dX5_advanceNumber_62 : decode cX5_advanceNumber 62 = .ok (.putfield 28, 3) := by decide +kernel
theorem dX5_advanceNumber_65 : decode cX5_advanceNumber 65 = .ok (.goto (-60), 3) := by decide +kernel
theorem dX5_advanceNumber_68 : decode cX5_advanceNumber 68 = .ok (.aload_n 0, 1) := by decide +kernel
theorem dX5_advanceNumber_69 : decode cX5_advanceNumber 69 = .ok (.aload_n 0, 1) := by decide +kernel
theorem dX5_advanceNumber_70 : decode cX5_advanceNumber 70 = .ok (.getfield 28, 3) := by decide +kernel
theorem dX5_advanceNumber_73 : decode cX5_advanceNumber 73 = .ok (.aload_n 0, 1) := by decide +kernel
theorem dX5_advanceNumber_74 : decode cX5_advanceNumber 74 = .ok (.getfield 81, 3) := by decide +kernel
theorem dX5_advanceNumber_77 : decode cX5_advanceNumber 77 = .ok (.isub, 1) := by decide +kernel
theorem dX5_advanceNumber_78 : decode cX5_advanceNumber 78 = .ok (.iconst 4, 1) := by decide +kernel
theorem dX5_advanceNumber_79 : decode cX5_advanceNumber 79 = .ok (.if_icmp .le 7, 3) := by decide +kernel
theorem dX5_advanceNumber_82 : decode cX5_advanceNumber 82 = .ok (.iconst 1, 1) := by decide +kernel
theorem dX5_advanceNumber_83 : decode cX5_advanceNumber 83 = .ok (.goto 4, 3) := by decide +kernel
theorem dX5_advanceNumber_86 : decode cX5_advanceNumber 86 = .ok (.iconst 2, 1) := by decide +kernel
theorem dX5_advanceNumber_87 : decode cX5_advanceNumber 87 = .ok (.putfield 69, 3) := by decide +kernel
theorem dX5_advanceNumber_90 : decode cX5_advanceNumber 90 = .ok (.return_, 1) := by decide +kernel
theorem dX5_advanceWord_0 : decode cX5_advanceWord 0 = .ok (.aload_n 0, 1) := by decide +kernel
theorem dX5_advanceWord_1 : decode cX5_advanceWord 1 = .ok (.getfield 28, 3) := by decide +kernel
theorem dX5_advanceWord_4 : decode cX5_advanceWord 4 = .ok (.aload_n 0, 1) := by decide +kernel
theorem dX5_advanceWord_5 : decode cX5_advanceWord 5 = .ok (.getfield 15, 3) := by decide +kernel
theorem dX5_advanceWord_8 : decode cX5_advanceWord 8 = .ok (.if_icmp .ge 31, 3) := by decide +kernel
theorem dX5_advanceWord_11 : decode cX5_advanceWord 11 = .ok (.aload_n 0, 1) := by decide +kernel
theorem dX5_advanceWord_12 : decode cX5_advanceWord 12 = .ok (.getfield 9, 3) := by decide +kernel
theorem dX5_advanceWord_15 : decode cX5_advanceWord 15 = .ok (.aload_n 0, 1) := by decide +kernel
theorem dX5_advanceWord_16 : decode cX5_advanceWord 16 = .ok (.getfield 28, 3) := by decide +kernel
theorem dX5_advanceWord_19 : decode cX5_advanceWord 19 = .ok (.iaload, 1) := by decide +kernel
theorem dX5_advanceWord_20 : decode cX5_advanceWord 20 = .ok (.invokestatic 90, 3) := by decide +kernel
theorem dX5_advanceWord_23 : decode cX5_advanceWord 23 = .ok (.ifCond .eq 16, 3) := by decide +kernel
theorem dX5_advanceWord_26 : decode cX5_advanceWord 26 = .ok (.aload_n 0, 1) := by decide +kernel
theorem dX5_advanceWord_27 : decode cX5_advanceWord 27 = .ok (.dup, 1) := by decide +kernel
theorem dX5_advanceWord_28 : decode cX5_advanceWord 28 = .ok (.getfield 28, 3) := by decide +kernel
theorem dX5_advanceWord_31 : decode cX5_advanceWord 31 = .ok (.iconst 1, 1) := by decide +kernel
theorem dX5_advanceWord_32 : decode cX5_advanceWord 32 = .ok (.iadd, 1) := by decide +kernel
theorem dX5_advanceWord_33 : decode cX5_advanceWord 33 = .ok (.putfield 28, 3) := by decide +kernel
theorem dX5_advanceWord_36 : decode cX5_advanceWord 36 = .ok (.goto (-36), 3) := by decide +kernel
theorem dX5_advanceWord_39 : decode cX5_advanceWord 39 = .ok (.aload_n 0, 1) := by decide +kernel
theorem dX5_advanceWord_40 : decode cX5_advanceWord 40 = .ok (.invokevirtual 99, 3) := by decide +kernel
theorem dX5_advanceWord_43 : decode cX5_advanceWord 43 = .ok (.istore_n 1, 1) := by decide +kernel
theorem dX5_advanceWord_44 : decode cX5_advanceWord 44 = .ok (.aload_n 0, 1) := by decide +kernel
theorem dX5_advanceWord_45 : decode cX5_advanceWord 45 = .ok (.iload_n 1, 1) := by decide +kernel
theorem dX5_advanceWord_46 : decode cX5_advanceWord 46 = .ok (.bipush 6, 2) := by decide +kernel
theorem dX5_advanceWord_48 : decode cX5_advanceWord 48 = .ok (.isub, 1) := by decide +kernel
theorem dX5_advanceWord_49 : decode cX5_advanceWord 49 = .ok (.putfield 78, 3) := by decide +kernel
theorem dX5_advanceWord_52 : decode cX5_advanceWord 52 = .ok (.iload_n 1, 1) := by decide +kernel
theorem dX5_advanceWord_53 : decode cX5_advanceWord 53 = .ok (.iconst (-1), 1) := by decide +kernel
theorem dX5_advanceWord_54 : decode cX5_advanceWord 54 = .ok (.if_icmp .ne 11, 3) := by decide +kernel
theorem dX5_advanceWord_57 : decode cX5_advanceWord 57 = .ok (.aload_n 0, 1) := by decide +kernel
theorem dX5_advanceWord_58 : decode cX5_advanceWord 58 = .ok (.iconst 1, 1) := by decide +kernel
theorem dX5_advanceWord_59 : decode cX5_advanceWord 59 = .ok (.putfield 69, 3) := by decide +kernel
theorem dX5_advanceWord_62 : decode cX5_advanceWord 62 = .ok (.goto 20, 3) := by decide +kernel
theorem dX5_advanceWord_65 : decode cX5_advanceWord 65 = .ok (.aload_n 0, 1) := by decide +kernel
theorem dX5_advanceWord_66 : decode cX5_advanceWord 66 = .ok (.iload_n 1, 1) := by decide +kernel
theorem dX5_advanceWord_67 : decode cX5_advanceWord 67 = .ok (.bipush 6, 2) := by decide +kernel
theorem dX5_advanceWord_69 : decode cX5_advanceWord 69 = .ok (.if_icmp .ge 9, 3) := by decide +kernel
theorem dX5_advanceWord_72 : decode cX5_advanceWord 72 = .ok (.iconst 4, 1) := by decide +kernel
theorem dX5_advanceWord_73 : decode cX5_advanceWord 73 = .ok (.iload_n 1, 1) := by decide +kernel
theorem dX5_advanceWord_74 : decode cX5_advanceWord 74 = .ok (.iadd, 1) := by decide +kernel
theorem dX5_advanceWord_75 : decode cX5_advanceWord 75 = .ok (.goto 4, 3) := by decide +kernel
theorem dX5_advanceWord_78 : decode cX5_advanceWord 78 = .ok (.iconst 3, 1) := by decide +kernel
theorem dX5_advanceWord_79 : decode cX5_advanceWord 79 = .ok (.putfield 69, 3) := by decide +kernel
theorem dX5_advanceWord_82 : decode cX5_advanceWord 82 = .ok (.return_, 1) := by decide +kernel
theorem dX5_advanceSign_0 : decode cX5_advanceSign 0 = .ok (.aload_n 0, 1) := by decide +kernel
theorem dX5_advanceSign_1 : decode cX5_advanceSign 1 = .ok (.getfield 9, 3) := by decide +kernel
theorem dX5_advanceSign_4 : decode cX5_advanceSign 4 = .ok (.aload_n 0, 1) := by decide +kernel
theorem dX5_advanceSign_5 : decode cX5_advanceSign 5 = .ok (.getfield 28, 3) := by decide +kernel
theorem dX5_advanceSign_8 : decode cX5_advanceSign 8 = .ok (.iaload, 1) := by decide +kernel
theorem dX5_advanceSign_9 : decode cX5_advanceSign 9 = .ok (.istore_n 1, 1) := by decide +kernel
theorem dX5_advanceSign_10 : decode cX5_advanceSign 10 = .ok (.iload_n 1, 1) := by decide +kernel
theorem dX5_advanceSign_11 : decode cX5_advanceSign 11 = .ok (.bipush 40, 2) := by decide +kernel
theorem dX5_advanceSign_13 : decode cX5_advanceSign 13 = .ok (.if_icmp .eq 45, 3) := by decide +kernel
theorem dX5_advanceSign_16 : decode cX5_advanceSign 16 = .ok (.iload_n 1, 1) := by decide +kernel
theorem dX5_advanceSign_17 : decode cX5_advanceSign 17 = .ok (.bipush 41, 2) := by decide +kernel
theorem dX5_advanceSign_19 : decode cX5_advanceSign 19 = .ok (.if_icmp .eq 39, 3) := by decide +kernel
theorem dX5_advanceSign_22 : decode cX5_advanceSign 22 = .ok (.iload_n 1, 1) := by decide +kernel
theorem dX5_advanceSign_23 : decode cX5_advanceSign 23 = .ok (.bipush 59, 2) := by decide +kernel
theorem dX5_advanceSign_25 : decode cX5_advanceSign 25 = .ok (.if_icmp .eq 33, 3) := by decide +kernel
theorem dX5_advanceSign_28 : decode cX5_advanceSign 28 = .ok (.iload_n 1, 1) := by decide +kernel
theorem dX5_advanceSign_29 : decode cX5_advanceSign 29 = .ok (.bipush 43, 2) := by decide +kernel
theorem dX5_advanceSign_31 : decode cX5_advanceSign 31 = .ok (.if_icmp .eq 27, 3) := by decide +kernel
theorem dX5_advanceSign_34 : decode cX5_advanceSign 34 = .ok (.iload_n 1, 1) := by decide +kernel
theorem dX5_advanceSign_35 : decode cX5_advanceSign 35 = .ok (.bipush 45, 2) := by decide +kernel
theorem dX5_advanceSign_37 : decode cX5_advanceSign 37 = .ok (.if_icmp .eq 21, 3) := by decide +kernel
theorem dX5_advanceSign_40 : decode cX5_advanceSign 40 = .ok (.iload_n 1, 1) := by decide +kernel
theorem dX5_advanceSign_41 : decode cX5_advanceSign 41 = .ok (.bipush 42, 2) := by decide +kernel
theorem dX5_advanceSign_43 : decode cX5_advanceSign 43 = .ok (.if_icmp .eq 15, 3) := by decide +kernel
theorem dX5_advanceSign_46 : decode cX5_advanceSign 46 = .ok (.iload_n 1, 1) := by decide +kernel
theorem dX5_advanceSign_47 : decode cX5_advanceSign 47 = .ok (.bipush 60, 2) := by decide +kernel
theorem dX5_advanceSign_49 : decode cX5_advanceSign 49 = .ok (.if_icmp .eq 9, 3) := by decide +kernel
theorem dX5_advanceSign_52 : decode cX5_advanceSign 52 = .ok (.iload_n 1, 1) := by decide +kernel
theorem dX5_advanceSign_53 : decode cX5_advanceSign 53 = .ok (.bipush 61, 2) := by decide +kernel
theorem dX5_advanceSign_55 : decode cX5_advanceSign 55 = .ok (.if_icmp .ne 7, 3) := by decide +kernel
theorem dX5_advanceSign_58 : decode cX5_advanceSign 58 = .ok (.iconst 1, 1) := by decide +kernel
theorem dX5_advanceSign_59 : decode cX5_advanceSign 59 = .ok (.goto 4, 3) := by decide +kernel
theorem dX5_advanceSign_62 : decode cX5_advanceSign 62 = .ok (.iconst 0, 1) := by decide +kernel
theorem dX5_advanceSign_63 : decode cX5_advanceSign 63 = .ok (.istore_n 2, 1) := by decide +kernel
theorem dX5_advanceSign_64 : decode cX5_advanceSign 64 = .ok (.aload_n 0, 1) := by decide +kernel
theorem dX5_advanceSign_65 : decode cX5_advanceSign 65 = .ok (.iload_n 2, 1) := by decide +kernel
theorem dX5_advanceSign_66 : decode cX5_advanceSign 66 = .ok (.ifCond .eq 7, 3) := by decide +kernel
theorem dX5_advanceSign_69 : decode cX5_advanceSign 69 = .ok (.iload_n 1, 1) := by decide +kernel
theorem dX5_advanceSign_70 : decode cX5_advanceSign 70 = .ok (.goto 4, 3) := by decide +kernel
theorem dX5_advanceSign_73 : decode cX5_advanceSign 73 = .ok (.iconst 1, 1) := by decide +kernel
theorem dX5_advanceSign_74 : decode cX5_advanceSign 74 = .ok (.putfield 69, 3) := by decide +kernel
theorem dX5_advanceSign_77 : decode cX5_advanceSign 77 = .ok (.aload_n 0, 1) := by decide +kernel
theorem dX5_advanceSign_78 : decode cX5_advanceSign 78 = .ok (.dup, 1) := by decide +kernel
theorem dX5_advanceSign_79 : decode cX5_advanceSign 79 = .ok (.getfield 28, 3) := by decide +kernel
theorem dX5_advanceSign_82 : decode cX5_advanceSign 82 = .ok (.iconst 1, 1) := by decide +kernel
theorem dX5_advanceSign_83 : decode cX5_advanceSign 83 = .ok (.iadd, 1) := by decide +kernel
theorem dX5_advanceSign_84 : decode cX5_advanceSign 84 = .ok (.putfield 28, 3) := by decide +kernel
theorem dX5_advanceSign_87 : decode cX5_advanceSign 87 = .ok (.return_, 1) := by decide +kernel
theorem dX5_wordNumber_0 : decode cX5_wordNumber 0 = .ok (.iconst 0, 1) := by decide +kernel
theorem dX5_wordNumber_1 : decode cX5_wordNumber 1 = .ok (.istore_n 1, 1) := by decide +kernel
theorem dX5_wordNumber_2 : decode cX5_wordNumber 2 = .ok (.aload_n 0, 1) := by decide +kernel
theorem dX5_wordNumber_3 : decode cX5_wordNumber 3 = .ok (.getfield 81, 3) := by decide +kernel
theorem dX5_wordNumber_6 : decode cX5_wordNumber 6 = .ok (.istore_n 2, 1) := by decide +kernel
theorem dX5_wordNumber_7 : decode cX5_wordNumber 7 = .ok (.iconst 1, 1) := by decide +kernel
theorem dX5_wordNumber_8 : decode cX5_wordNumber 8 = .ok (.istore_n 3, 1) := by decide +kernel
theorem dX5_wordNumber_9 : decode cX5_wordNumber 9 = .ok (.iconst 0, 1) := by decide +kernel
theorem dX5_wordNumber_10 : decode cX5_wordNumber 10 = .ok (.istore 4, 2) := by decide +kernel
theorem dX5_wordNumber_12 : decode cX5_wordNumber 12 = .ok (.iload 4, 2) := by decide +kernel
theorem dX5_wordNumber_14 : decode cX5_wordNumber 14 = .ok (.ldc 103, 2) := by decide +kernel
theorem dX5_wordNumber_16 : decode cX5_wordNumber 16 = .ok (.invokevirtual 105, 3) := by decide +kernel
theorem dX5_wordNumber_19 : decode cX5_wordNumber 19 = .ok (.if_icmp .ge 84, 3) := by decide +kernel
theorem dX5_wordNumber_22 : decode cX5_wordNumber 22 = .ok (.ldc 103, 2) := by decide +kernel
theorem dX5_wordNumber_24 : decode cX5_wordNumber 24 = .ok (.iload 4, 2) := by decide +kernel
theorem dX5_wordNumber_26 : decode cX5_wordNumber 26 = .ok (.invokevirtual 110, 3) := by decide +kernel
theorem dX5_wordNumber_29 : decode cX5_wordNumber 29 = .ok (.istore 5, 2) := by decide +kernel
theorem dX5_wordNumber_31 : decode cX5_wordNumber 31 = .ok (.iload 5, 2) := by decide +kernel
theorem dX5_wordNumber_33 : decode cX5_wordNumber 33 = .ok (.bipush 32, 2) := by decide +kernel
theorem dX5_wordNumber_35 : decode cX5_wordNumber 35 = .ok (.if_icmp .eq 38, 3) := by decide +kernel
theorem dX5_wordNumber_38 : decode cX5_wordNumber 38 = .ok (.iload_n 3, 1) := by decide +kernel
theorem dX5_wordNumber_39 : decode cX5_wordNumber 39 = .ok (.ifCond .eq 26, 3) := by decide +kernel
theorem dX5_wordNumber_42 : decode cX5_wordNumber 42 = .ok (.iload_n 2, 1) := by decide +kernel
theorem dX5_wordNumber_43 : decode cX5_wordNumber 43 = .ok (.aload_n 0, 1) := by decide +kernel
theorem dX5_wordNumber_44 : decode cX5_wordNumber 44 = .ok (.getfield 28, 3) := by decide +kernel
theorem dX5_wordNumber_47 : decode cX5_wordNumber 47 = .ok (.if_icmp .ge 18, 3) := by decide +kernel
theorem dX5_wordNumber_50 : decode cX5_wordNumber 50 = .ok (.aload_n 0, 1) := by decide +kernel
theorem dX5_wordNumber_51 : decode cX5_wordNumber 51 = .ok (.getfield 9, 3) := by decide +kernel
theorem dX5_wordNumber_54 : decode cX5_wordNumber 54 = .ok (.iload_n 2, 1) := by decide +kernel
theorem dX5_wordNumber_55 : decode cX5_wordNumber 55 = .ok (.iaload, 1) := by decide +kernel
theorem dX5_wordNumber_56 : decode cX5_wordNumber 56 = .ok (.iload 5, 2) := by decide +kernel
theorem dX5_wordNumber_58 : decode cX5_wordNumber 58 = .ok (.if_icmp .ne 7, 3) := by decide +kernel
theorem dX5_wordNumber_61 : decode cX5_wordNumber 61 = .ok (.iconst 1, 1) := by decide +kernel
theorem dX5_wordNumber_62 : decode cX5_wordNumber 62 = .ok (.goto 4, 3) := by decide +kernel
theorem dX5_wordNumber_65 : decode cX5_wordNumber 65 = .ok (.iconst 0, 1) := by decide +kernel
theorem dX5_wordNumber_66 : decode cX5_wordNumber 66 = .ok (.istore_n 3, 1) := by decide +kernel
theorem dX5_wordNumber_67 : decode cX5_wordNumber 67 = .ok (.iinc 2 1, 3) := by decide +kernel
theorem dX5_wordNumber_70 : decode cX5_wordNumber 70 = .ok (.goto 27, 3) := by decide +kernel
theorem dX5_wordNumber_73 : decode cX5_wordNumber 73 = .ok (.iload_n 3, 1) := by decide +kernel
theorem dX5_wordNumber_74 : decode cX5_wordNumber 74 = .ok (.ifCond .eq 13, 3) := by decide +kernel
theorem dX5_wordNumber_77 : decode cX5_wordNumber 77 = .ok (.iload_n 2, 1) := by decide +kernel
theorem dX5_wordNumber_78 : decode cX5_wordNumber 78 = .ok (.aload_n 0, 1) := by decide +kernel
theorem dX5_wordNumber_79 : decode cX5_wordNumber 79 = .ok (.getfield 28, 3) := by decide +kernel
theorem dX5_wordNumber_82 : decode cX5_wordNumber 82 = .ok (.if_icmp .ne 5, 3) := by decide +kernel
theorem dX5_wordNumber_85 : decode cX5_wordNumber 85 = .ok (.iload_n 1, 1) := by decide +kernel
theorem dX5_wordNumber_86 : decode cX5_wordNumber 86 = .ok (.ireturn, 1) := by decide +kernel
theorem dX5_wordNumber_87 : decode cX5_wordNumber 87 = .ok (.iinc 1 1, 3) := by decide +kernel
theorem dX5_wordNumber_90 : decode cX5_wordNumber 90 = .ok (.aload_n 0, 1) := by decide +kernel
theorem dX5_wordNumber_91 : decode cX5_wordNumber 91 = .ok (.getfield 81, 3) := by decide +kernel
theorem dX5_wordNumber_94 : decode cX5_wordNumber 94 = .ok (.istore_n 2, 1) := by decide +kernel
theorem dX5_wordNumber_95 : decode cX5_wordNumber 95 = .ok (.iconst 1, 1) := by decide +kernel
theorem dX5_wordNumber_96 : decode cX5_wordNumber 96 = .ok (.istore_n 3, 1) := by decide +kernel
theorem dX5_wordNumber_97 : decode cX5_wordNumber 97 = .ok (.iinc 4 1, 3) := by decide +kernel
theorem dX5_wordNumber_100 : decode cX5_wordNumber 100 = .ok (.goto (-88), 3) := by decide +kernel
theorem dX5_wordNumber_103 : decode cX5_wordNumber 103 = .ok (.iconst (-1), 1) := by decide +kernel
theorem dX5_wordNumber_104 : decode cX5_wordNumber 104 = .ok (.ireturn, 1) := by decide +kernel
theorem dX5_isDigit_0 : decode cX5_isDigit 0 = .ok (.iload_n 0, 1) := by decide +kernel
theorem dX5_isDigit_1 : decode cX5_isDigit 1 = .ok (.bipush 48, 2) := by decide +kernel
theorem dX5_isDigit_3 : decode cX5_isDigit 3 = .ok (.if_icmp .lt 13, 3) := by decide +kernel
theorem dX5_isDigit_6 : decode cX5_isDigit 6 = .ok (.iload_n 0, 1) := by decide +kernel
theorem dX5_isDigit_7 : decode cX5_isDigit 7 = .ok (.bipush 57, 2) := by decide +kernel
theorem dX5_isDigit_9 : decode cX5_isDigit 9 = .ok (.if_icmp .gt 7, 3) := by decide +kernel
theorem dX5_isDigit_12 : decode cX5_isDigit 12 = .ok (.iconst 1, 1) := by decide +kernel
theorem dX5_isDigit_13 : decode cX5_isDigit 13 = .ok (.goto 4, 3) := by decide +kernel
theorem dX5_isDigit_16 : decode cX5_isDigit 16 = .ok (.iconst 0, 1) := by decide +kernel
theorem dX5_isDigit_17 : decode cX5_isDigit 17 = .ok (.ireturn, 1) := by decide +kernel
theorem dX5_isLetter_0 : decode cX5_isLetter 0 = .ok (.iload_n 0, 1) := by decide +kernel
theorem dX5_isLetter_1 : decode cX5_isLetter 1 = .ok (.bipush 97, 2) := by decide +kernel
theorem dX5_isLetter_3 : decode cX5_isLetter 3 = .ok (.if_icmp .lt 13, 3) := by decide +kernel
theorem dX5_isLetter_6 : decode cX5_isLetter 6 = .ok (.iload_n 0, 1) := by decide +kernel
theorem dX5_isLetter_7 : decode cX5_isLetter 7 = .ok (.bipush 122, 2) := by decide +kernel
theorem dX5_isLetter_9 : decode cX5_isLetter 9 = .ok (.if_icmp .gt 7, 3) := by decide +kernel
theorem dX5_isLetter_12 : decode cX5_isLetter 12 = .ok (.iconst 1, 1) := by decide +kernel
theorem dX5_isLetter_13 : decode cX5_isLetter 13 = .ok (.goto 4, 3) := by decide +kernel
theorem dX5_isLetter_16 : decode cX5_isLetter 16 = .ok (.iconst 0, 1) := by decide +kernel
theorem dX5_isLetter_17 : decode cX5_isLetter 17 = .ok (.ireturn, 1) := by decide +kernel
theorem dX6_init_0 : decode cX6_init 0 = .ok (.aload_n 0, 1) := by decide +kernel
theorem dX6_init_1 : decode cX6_init 1 = .ok (.invokespecial 3, 3) := by decide +kernel
theorem dX6_init_4 : decode cX6_init 4 = .ok (.aload_n 0, 1) := by decide +kernel
theorem dX6_init_5 : decode cX6_init 5 = .ok (.bipush 40, 2) := by decide +kernel
theorem dX6_init_7 : decode cX6_init 7 = .ok (.newarray .int, 2) := by decide +kernel
theorem dX6_init_9 : decode cX6_init 9 = .ok (.putfield 9, 3) := by decide +kernel
theorem dX6_init_12 : decode cX6_init 12 = .ok (.aload_n 0, 1) := by decide +kernel
theorem dX6_init_13 : decode cX6_init 13 = .ok (.iconst (-1), 1) := by decide +kernel
theorem dX6_init_14 : decode cX6_init 14 = .ok (.putfield 15, 3) := by decide +kernel
theorem dX6_init_17 : decode cX6_init 17 = .ok (.return_, 1) := by decide +kernel
theorem dX6_isMissing_0 : decode cX6_isMissing 0 = .ok (.aload_n 0, 1) := by decide +kernel
theorem dX6_isMissing_1 : decode cX6_isMissing 1 = .ok (.getfield 15, 3) := by decide +kernel
theorem dX6_isMissing_4 : decode cX6_isMissing 4 = .ok (.iconst (-1), 1) := by decide +kernel
theorem dX6_isMissing_5 : decode cX6_isMissing 5 = .ok (.if_icmp .ne 7, 3) := by decide +kernel
theorem dX6_isMissing_8 : decode cX6_isMissing 8 = .ok (.iconst 1, 1) := by decide +kernel
theorem dX6_isMissing_9 : decode cX6_isMissing 9 = .ok (.goto 4, 3) := by decide +kernel
theorem dX6_isMissing_12 : decode cX6_isMissing 12 = .ok (.iconst 0, 1) := by decide +kernel
theorem dX6_isMissing_13 : decode cX6_isMissing 13 = .ok (.ireturn, 1) := by decide +kernel
theorem dX6_become_0 : decode cX6_become 0 = .ok (.aload_n 0, 1) := by decide +kernel
theorem dX6_become_1 : decode cX6_become 1 = .ok (.getfield 9, 3) := by decide +kernel
theorem dX6_become_4 : decode cX6_become 4 = .ok (.iconst 0, 1) := by decide +kernel
theorem dX6_become_5 : decode cX6_become 5 = .ok (.invokestatic 19, 3) := by decide +kernel
theorem dX6_become_8 : decode cX6_become 8 = .ok (.aload_n 0, 1) := by decide +kernel
theorem dX6_become_9 : decode cX6_become 9 = .ok (.iload_n 1, 1) := by decide +kernel
theorem dX6_become_10 : decode cX6_become 10 = .ok (.putfield 15, 3) := by decide +kernel
theorem dX6_become_13 : decode cX6_become 13 = .ok (.aload_n 0, 1) := by decide +kernel
theorem dX6_become_14 : decode cX6_become 14 = .ok (.iload_n 2, 1) := by decide +kernel
theorem dX6_become_15 : decode cX6_become 15 = .ok (.putfield 25, 3) := by decide +kernel
theorem dX6_become_18 : decode cX6_become 18 = .ok (.return_, 1) := by decide +kernel
theorem dX6_put_0 : decode cX6_put 0 = .ok (.aload_n 0, 1) := by decide +kernel
theorem dX6_put_1 : decode cX6_put 1 = .ok (.getfield 15, 3) := by decide +kernel
theorem dX6_put_4 : decode cX6_put 4 = .ok (.ifCond .ne 14, 3) := by decide +kernel
theorem dX6_put_7 : decode cX6_put 7 = .ok (.aload_n 0, 1) := by decide +kernel
theorem dX6_put_8 : decode cX6_put 8 = .ok (.getfield 9, 3) := by decide +kernel
theorem dX6_put_11 : decode cX6_put 11 = .ok (.iload_n 1, 1) := by decide +kernel
theorem dX6_put_12 : decode cX6_put 12 = .ok (.iload_n 2, 1) := by decide +kernel
theorem dX6_put_13 : decode cX6_put 13 = .ok (.i2b, 1) := by decide +kernel
theorem dX6_put_14 : decode cX6_put 14 = .ok (.iastore, 1) := by decide +kernel
theorem dX6_put_15 : decode cX6_put 15 = .ok (.goto 29, 3) := by decide +kernel
theorem dX6_put_18 : decode cX6_put 18 = .ok (.aload_n 0, 1) := by decide +kernel
theorem dX6_put_19 : decode cX6_put 19 = .ok (.getfield 15, 3) := by decide +kernel
theorem dX6_put_22 : decode cX6_put 22 = .ok (.iconst 1, 1) := by decide +kernel
theorem dX6_put_23 : decode cX6_put 23 = .ok (.if_icmp .ne 14, 3) := by decide +kernel
theorem dX6_put_26 : decode cX6_put 26 = .ok (.aload_n 0, 1) := by decide +kernel
theorem dX6_put_27 : decode cX6_put 27 = .ok (.getfield 9, 3) := by decide +kernel
theorem dX6_put_30 : decode cX6_put 30 = .ok (.iload_n 1, 1) := by decide +kernel
theorem dX6_put_31 : decode cX6_put 31 = .ok (.iload_n 2, 1) := by decide +kernel
theorem dX6_put_32 : decode cX6_put 32 = .ok (.i2s, 1) := by decide +kernel
theorem dX6_put_33 : decode cX6_put 33 = .ok (.iastore, 1) := by decide +kernel
theorem dX6_put_34 : decode cX6_put 34 = .ok (.goto 10, 3) := by decide +kernel
theorem dX6_put_37 : decode cX6_put 37 = .ok (.aload_n 0, 1) := by decide +kernel
theorem dX6_put_38 : decode cX6_put 38 = .ok (.getfield 9, 3) := by decide +kernel
theorem dX6_put_41 : decode cX6_put 41 = .ok (.iload_n 1, 1) := by decide +kernel
theorem dX6_put_42 : decode cX6_put 42 = .ok (.iload_n 2, 1) := by decide +kernel
theorem dX6_put_43 : decode cX6_put 43 = .ok (.iastore, 1) := by decide +kernel
theorem dX6_put_44 : decode cX6_put 44 = .ok (.return_, 1) := by decide +kernel
theorem dX7_init_0 : decode cX7_init 0 = .ok (.aload_n 0, 1) := by decide +kernel
theorem dX7_init_1 : decode cX7_init 1 = .ok (.invokespecial 1, 3) := by decide +kernel
theorem dX7_init_4 : decode cX7_init 4 = .ok (.aload_n 0, 1) := by decide +kernel
theorem dX7_init_5 : decode cX7_init 5 = .ok (.new 7, 3) := by decide +kernel
theorem dX7_init_8 : decode cX7_init 8 = .ok (.dup, 1) := by decide +kernel
theorem dX7_init_9 : decode cX7_init 9 = .ok (.invokespecial 9, 3) := by decide +kernel
theorem dX7_init_12 : decode cX7_init 12 = .ok (.putfield 10, 3) := by decide +kernel
theorem dX7_init_15 : decode cX7_init 15 = .ok (.aload_n 0, 1) := by decide +kernel
theorem dX7_init_16 : decode cX7_init 16 = .ok (.new 7, 3) := by decide +kernel
theorem dX7_init_19 : decode cX7_init 19 = .ok (.dup, 1) := by decide +kernel
theorem dX7_init_20 : decode cX7_init 20 = .ok (.invokespecial 9, 3) := by decide +kernel
theorem dX7_init_23 : decode cX7_init 23 = .ok (.putfield 16, 3) := by decide +kernel
theorem dX7_init_26 : decode cX7_init 26 = .ok (.aload_n 0, 1) := by decide +kernel
theorem dX7_init_27 : decode cX7_init 27 = .ok (.new 7, 3) := by decide +kernel
theorem dX7_init_30 : decode cX7_init 30 = .ok (.dup, 1) := by decide +kernel
theorem dX7_init_31 : decode cX7_init 31 = .ok (.invokespecial 9, 3) := by decide +kernel
theorem dX7_init_34 : decode cX7_init 34 = .ok (.putfield 19, 3) := by decide +kernel
theorem dX7_init_37 : decode cX7_init 37 = .ok (.aload_n 0, 1) := by decide +kernel
theorem dX7_init_38 : decode cX7_init 38 = .ok (.new 22, 3) := by decide +kernel
theorem dX7_init_41 : decode cX7_init 41 = .ok (.dup, 1) := by decide +kernel
theorem dX7_init_42 : decode cX7_init 42 = .ok (.invokespecial 24, 3) := by decide +kernel
theorem dX7_init_45 : decode cX7_init 45 = .ok (.putfield 25, 3) := by decide +kernel
theorem dX7_init_48 : decode cX7_init 48 = .ok (.aload_n 0, 1) := by decide +kernel
theorem dX7_init_49 : decode cX7_init 49 = .ok (.new 29, 3) := by decide +kernel
theorem dX7_init_52 : decode cX7_init 52 = .ok (.dup, 1) := by decide +kernel
theorem dX7_init_53 : decode cX7_init 53 = .ok (.invokespecial 31, 3) := by decide +kernel
theorem dX7_init_56 : decode cX7_init 56 = .ok (.putfield 32, 3) := by decide +kernel
theorem dX7_init_59 : decode cX7_init 59 = .ok (.aload_n 0, 1) := by decide +kernel
theorem dX7_init_60 : decode cX7_init 60 = .ok (.new 36, 3) := by decide +kernel
theorem dX7_init_63 : decode cX7_init 63 = .ok (.dup, 1) := by decide +kernel
theorem dX7_init_64 : decode cX7_init 64 = .ok (.invokespecial 38, 3) := by decide +kernel
theorem dX7_init_67 : decode cX7_init 67 = .ok (.putfield 39, 3) := by decide +kernel
theorem dX7_init_70 : decode cX7_init 70 = .ok (.aload_n 0, 1) := by decide +kernel
theorem dX7_init_71 : decode cX7_init 71 = .ok (.bipush 6, 2) := by decide +kernel
theorem dX7_init_73 : decode cX7_init 73 = .ok (.anewarray 43, 3) := by decide +kernel
theorem dX7_init_76 : decode cX7_init 76 = .ok (.putfield 45, 3) := by decide +kernel
theorem dX7_init_79 : decode cX7_init 79 = .ok (.aload_n 0, 1) := by decide +kernel
theorem dX7_init_80 : decode cX7_init 80 = .ok (.iconst 4, 1) := by decide +kernel
theorem dX7_init_81 : decode cX7_init 81 = .ok (.anewarray 49, 3) := by decide +kernel
theorem dX7_init_84 : decode cX7_init 84 = .ok (.putfield 51, 3) := by decide +kernel
theorem dX7_init_87 : decode cX7_init 87 = .ok (.aload_n 0, 1) := by decide +kernel
theorem dX7_init_88 : decode cX7_init 88 = .ok (.bipush 6, 2) := by decide +kernel
theorem dX7_init_90 : decode cX7_init 90 = .ok (.newarray .int, 2) := by decide +kernel
theorem dX7_init_92 : decode cX7_init 92 = .ok (.putfield 55, 3) := by decide +kernel
theorem dX7_init_95 : decode cX7_init 95 = .ok (.aload_n 0, 1) := by decide +kernel
theorem dX7_init_96 : decode cX7_init 96 = .ok (.bipush 36, 2) := by decide +kernel
theorem dX7_init_98 : decode cX7_init 98 = .ok (.newarray .int, 2) := by decide +kernel
theorem dX7_init_100 : decode cX7_init 100 = .ok (.putfield 59, 3) := by decide +kernel
theorem dX7_init_103 : decode cX7_init 103 = .ok (.iconst 0, 1) := by decide +kernel
theorem dX7_init_104 : decode cX7_init 104 = .ok (.istore_n 1, 1) := by decide +kernel
theorem dX7_init_105 : decode cX7_init 105 = .ok (.iload_n 1, 1) := by decide +kernel
theorem dX7_init_106 : decode cX7_init 106 = .ok (.bipush 6, 2) := by decide +kernel
theorem dX7_init_108 : decode cX7_init 108 = .ok (.if_icmp .ge 22, 3) := by decide +kernel
theorem dX7_init_111 : decode cX7_init 111 = .ok (.aload_n 0, 1) := by decide +kernel
theorem dX7_init_112 : decode cX7_init 112 = .ok (.getfield 45, 3) := by decide +kernel
theorem dX7_init_115 : decode cX7_init 115 = .ok (.iload_n 1, 1) := by decide +kernel
theorem dX7_init_116 : decode cX7_init 116 = .ok (.new 43, 3) := by decide +kernel
theorem dX7_init_119 : decode cX7_init 119 = .ok (.dup, 1) := by decide +kernel
theorem dX7_init_120 : decode cX7_init 120 = .ok (.invokespecial 62, 3) := by decide +kernel
theorem dX7_init_123 : decode cX7_init 123 = .ok (.aastore, 1) := by decide +kernel
theorem dX7_init_124 : decode cX7_init 124 = .ok (.iinc 1 1, 3) := by decide +kernel
theorem dX7_init_127 : decode cX7_init 127 = .ok (.goto (-22), 3) := by decide +kernel
theorem dX7_init_130 : decode cX7_init 130 = .ok (.iconst 0, 1) := by decide +kernel
theorem dX7_init_131 : decode cX7_init 131 = .ok (.istore_n 1, 1) := by decide +kernel
theorem dX7_init_132 : decode cX7_init 132 = .ok (.iload_n 1, 1) := by decide +kernel
theorem dX7_init_133 : decode cX7_init 133 = .ok (.iconst 4, 1) := by decide +kernel
theorem dX7_init_134 : decode cX7_init 134 = .ok (.if_icmp .ge 22, 3) := by decide +kernel
theorem dX7_init_137 : decode cX7_init 137 = .ok (.aload_n 0, 1) := by decide +kernel
theorem dX7_init_138 : decode cX7_init 138 = .ok (.getfield 51, 3) := by decide +kernel
theorem dX7_init_141 : decode cX7_init 141 = .ok (.iload_n 1, 1) := by decide +kernel
theorem dX7_init_142 : decode cX7_init 142 = .ok (.new 49, 3) := by decide +kernel
theorem dX7_init_145 : decode cX7_init 145 = .ok (.dup, 1) := by decide +kernel
theorem dX7_init_146 : decode cX7_init 146 = .ok (.invokespecial 63, 3) := by decide +kernel
theorem dX7_init_149 : decode cX7_init 149 = .ok (.aastore, 1) := by decide +kernel
theorem dX7_init_150 : decode cX7_init 150 = .ok (.iinc 1 1, 3) := by decide +kernel
theorem dX7_init_153 : decode cX7_init 153 = .ok (.goto (-21), 3) := by decide +kernel
theorem dX7_init_156 : decode cX7_init 156 = .ok (.iconst 0, 1) := by decide +kernel
theorem dX7_init_157 : decode cX7_init 157 = .ok (.istore_n 1, 1) := by decide +kernel
theorem dX7_init_158 : decode cX7_init 158 = .ok (.iload_n 1, 1) := by decide +kernel
theorem dX7_init_159 : decode cX7_init 159 = .ok (.ldc 64, 2) := by decide +kernel
theorem dX7_init_161 : decode cX7_init 161 = .ok (.invokevirtual 66, 3) := by decide +kernel
theorem dX7_init_164 : decode cX7_init 164 = .ok (.if_icmp .ge 22, 3) := by decide +kernel
theorem dX7_init_167 : decode cX7_init 167 = .ok (.aload_n 0, 1) := by decide +kernel
theorem dX7_init_168 : decode cX7_init 168 = .ok (.getfield 39, 3) := by decide +kernel
theorem dX7_init_171 : decode cX7_init 171 = .ok (.ldc 64, 2) := by decide +kernel
theorem dX7_init_173 : decode cX7_init 173 = .ok (.iload_n 1, 1) := by decide +kernel
theorem dX7_init_174 : decode cX7_init 174 = .ok (.invokevirtual 72, 3) := by decide +kernel
theorem dX7_init_177 : decode cX7_init 177 = .ok (.invokevirtual 76, 3) := by decide +kernel
theorem dX7_init_180 : decode cX7_init 180 = .ok (.iinc 1 1, 3) := by decide +kernel
theorem dX7_init_183 : decode cX7_init 183 = .ok (.goto (-25), 3) := by decide +kernel
theorem dX7_init_186 : decode cX7_init 186 = .ok (.aload_n 0, 1) := by decide +kernel
theorem dX7_init_187 : decode cX7_init 187 = .ok (.getfield 39, 3) := by decide +kernel
theorem dX7_init_190 : decode cX7_init 190 = .ok (.aload_n 0, 1) := by decide +kernel
theorem dX7_init_191 : decode cX7_init 191 = .ok (.getfield 45, 3) := by decide +kernel
theorem dX7_init_194 : decode cX7_init 194 = .ok (.iconst 0, 1) := by decide +kernel
theorem dX7_init_195 : decode cX7_init 195 = .ok (.aaload, 1) := by decide +kernel
theorem dX7_init_196 : decode cX7_init 196 = .ok (.invokevirtual 80, 3) := by decide +kernel
theorem dX7_init_199 : decode cX7_init 199 = .ok (.pop, 1) := by decide +kernel
theorem dX7_init_200 : decode cX7_init 200 = .ok (.aload_n 0, 1) := by decide +kernel
theorem dX7_init_201 : decode cX7_init 201 = .ok (.iconst 1, 1) := by decide +kernel
theorem dX7_init_202 : decode cX7_init 202 = .ok (.putfield 84, 3) := by decide +kernel
theorem dX7_init_205 : decode cX7_init 205 = .ok (.return_, 1) := by decide +kernel
theorem dX7_sky_0 : decode cX7_sky 0 = .ok (.iload_n 1, 1) := by decide +kernel
theorem dX7_sky_1 : decode cX7_sky 1 = .ok (.invokestatic 88, 3) := by decide +kernel
theorem dX7_sky_4 : decode cX7_sky 4 = .ok (.ifCond .ne 6, 3) := by decide +kernel
theorem dX7_sky_7 : decode cX7_sky 7 = .ok (.bipush (-5), 2) := by decide +kernel
theorem dX7_sky_9 : decode cX7_sky 9 = .ok (.ireturn, 1) := by decide +kernel
theorem dX7_sky_10 : decode cX7_sky 10 = .ok (.iload_n 2, 1) := by decide +kernel
theorem dX7_sky_11 : decode cX7_sky 11 = .ok (.iconst 0, 1) := by decide +kernel
theorem dX7_sky_12 : decode cX7_sky 12 = .ok (.iconst 3, 1) := by decide +kernel
theorem dX7_sky_13 : decode cX7_sky 13 = .ok (.invokestatic 92, 3) := by decide +kernel
theorem dX7_sky_16 : decode cX7_sky 16 = .ok (.ifCond .eq 15, 3) := by decide +kernel
theorem dX7_sky_19 : decode cX7_sky 19 = .ok (.iload_n 3, 1) := by decide +kernel
theorem dX7_sky_20 : decode cX7_sky 20 = .ok (.iconst 0, 1) := by decide +kernel
theorem dX7_sky_21 : decode cX7_sky 21 = .ok (.iload_n 2, 1) := by decide +kernel
theorem dX7_sky_22 : decode cX7_sky 22 = .ok (.invokestatic 96, 3) := by decide +kernel
theorem dX7_sky_25 : decode cX7_sky 25 = .ok (.invokestatic 92, 3) := by decide +kernel
theorem dX7_sky_28 : decode cX7_sky 28 = .ok (.ifCond .ne 6, 3) := by decide +kernel
theorem dX7_sky_31 : decode cX7_sky 31 = .ok (.bipush (-7), 2) := by decide +kernel
theorem dX7_sky_33 : decode cX7_sky 33 = .ok (.ireturn, 1) := by decide +kernel
theorem dX7_sky_34 : decode cX7_sky 34 = .ok (.aload_n 0, 1) := by decide +kernel
theorem dX7_sky_35 : decode cX7_sky 35 = .ok (.getfield 10, 3) := by decide +kernel
theorem dX7_sky_38 : decode cX7_sky 38 = .ok (.getfield 100, 3) := by decide +kernel
theorem dX7_sky_41 : decode cX7_sky 41 = .ok (.iload_n 2, 1) := by decide +kernel
theorem dX7_sky_42 : decode cX7_sky 42 = .ok (.aaload, 1) := by decide +kernel
theorem dX7_sky_43 : decode cX7_sky 43 = .ok (.iload_n 1, 1) := by decide +kernel
theorem dX7_sky_44 : decode cX7_sky 44 = .ok (.iaload, 1) := by decide +kernel
theorem dX7_sky_45 : decode cX7_sky 45 = .ok (.istore 4, 2) := by decide +kernel
theorem dX7_sky_47 : decode cX7_sky 47 = .ok (.aload_n 0, 1) := by decide +kernel
theorem dX7_sky_48 : decode cX7_sky 48 = .ok (.getfield 10, 3) := by decide +kernel
theorem dX7_sky_51 : decode cX7_sky 51 = .ok (.getfield 100, 3) := by decide +kernel
theorem dX7_sky_54 : decode cX7_sky 54 = .ok (.iload_n 2, 1) := by decide +kernel
theorem dX7_sky_55 : decode cX7_sky 55 = .ok (.aaload, 1) := by decide +kernel
theorem dX7_sky_56 : decode cX7_sky 56 = .ok (.iload_n 1, 1) := by decide +kernel
theorem dX7_sky_57 : decode cX7_sky 57 = .ok (.iload_n 3, 1) := by decide +kernel
theorem dX7_sky_58 : decode cX7_sky 58 = .ok (.iastore, 1) := by decide +kernel
theorem dX7_sky_59 : decode cX7_sky 59 = .ok (.iload 4, 2) := by decide +kernel
theorem dX7_sky_61 : decode cX7_sky 61 = .ok (.ireturn, 1) := by decide +kernel
theorem dX7_skyTold_0 : decode cX7_skyTold 0 = .ok (.iload_n 1, 1) := by decide +kernel
theorem dX7_skyTold_1 : decode cX7_skyTold 1 = .ok (.invokestatic 88, 3) := by decide +kernel
theorem dX7_skyTold_4 : decode cX7_skyTold 4 = .ok (.ifCond .ne 6, 3) := by decide +kernel
theorem dX7_skyTold_7 : decode cX7_skyTold 7 = .ok (.bipush (-5), 2) := by decide +kernel
theorem dX7_skyTold_9 : decode cX7_skyTold 9 = .ok (.ireturn, 1) := by decide +kernel
theorem dX7_skyTold_10 : decode cX7_skyTold 10 = .ok (.iload_n 2, 1) := by decide +kernel
theorem dX7_skyTold_11 : decode cX7_skyTold 11 = .ok (.iconst 0, 1) := by decide +kernel
theorem dX7_skyTold_12 : decode cX7_skyTold 12 = .ok (.iconst 3, 1) := by decide +kernel
theorem dX7_skyTold_13 : decode cX7_skyTold 13 = .ok (.invokestatic 92, 3) := by decide +kernel
theorem dX7_skyTold_16 : decode cX7_skyTold 16 = .ok (.ifCond .ne 6, 3) := by decide +kernel
theorem dX7_skyTold_19 : decode cX7_skyTold 19 = .ok (.bipush (-7), 2) := by decide +kernel
theorem dX7_skyTold_21 : decode cX7_skyTold 21 = .ok (.ireturn, 1) := by decide +kernel
theorem dX7_skyTold_22 : decode cX7_skyTold 22 = .ok (.aload_n 0, 1) := by decide +kernel
theorem dX7_skyTold_23 : decode cX7_skyTold 23 = .ok (.getfield 10, 3) := by decide +kernel
theorem dX7_skyTold_26 : decode cX7_skyTold 26 = .ok (.getfield 100, 3) := by decide +kernel
theorem dX7_skyTold_29 : decode cX7_skyTold 29 = .ok (.iload_n 2, 1) := by decide +kernel
theorem dX7_skyTold_30 : decode cX7_skyTold 30 = .ok (.aaload, 1) := by decide +kernel
theorem dX7_skyTold_31 : decode cX7_skyTold 31 = .ok (.iload_n 1, 1) := by decide +kernel
theorem dX7_skyTold_32 : decode cX7_skyTold 32 = .ok (.iaload, 1) := by decide +kernel
theorem dX7_skyTold_33 : decode cX7_skyTold 33 = .ok (.ireturn, 1) := by decide +kernel
theorem dX7_count_0 : decode cX7_count 0 = .ok (.iload_n 1, 1) := by decide +kernel
theorem dX7_count_1 : decode cX7_count 1 = .ok (.tableswitch 72 0 4 #[35, 43, 51, 56, 64], 35) := by decide +kernel
theorem dX7_count_36 : decode cX7_count 36 = .ok (.aload_n 0, 1) := by decide +kernel
theorem dX7_count_37 : decode cX7_count 37 = .ok (.getfield 10, 3) := by decide +kernel
theorem dX7_count_40 : decode cX7_count 40 = .ok (.getfield 104, 3) := by decide +kernel
theorem dX7_count_43 : decode cX7_count 43 = .ok (.ireturn, 1) := by decide +kernel
theorem dX7_count_44 : decode cX7_count 44 = .ok (.aload_n 0, 1) := by decide +kernel
theorem dX7_count_45 : decode cX7_count 45 = .ok (.getfield 10, 3) := by decide +kernel
theorem dX7_count_48 : decode cX7_count 48 = .ok (.getfield 107, 3) := by decide +kernel
theorem dX7_count_51 : decode cX7_count 51 = .ok (.ireturn, 1) := by decide +kernel
theorem dX7_count_52 : decode cX7_count 52 = .ok (.aload_n 0, 1) := by decide +kernel
theorem dX7_count_53 : decode cX7_count 53 = .ok (.getfield 84, 3) := by decide +kernel
theorem dX7_count_56 : decode cX7_count 56 = .ok (.ireturn, 1) := by decide +kernel
theorem dX7_count_57 : decode cX7_count 57 = .ok (.aload_n 0, 1) := by decide +kernel
theorem dX7_count_58 : decode cX7_count 58 = .ok (.getfield 10, 3) := by decide +kernel
theorem dX7_count_61 : decode cX7_count 61 = .ok (.getfield 110, 3) := by decide +kernel
theorem dX7_count_64 : decode cX7_count 64 = .ok (.ireturn, 1) := by decide +kernel
theorem dX7_count_65 : decode cX7_count 65 = .ok (.aload_n 0, 1) := by decide +kernel
theorem dX7_count_66 : decode cX7_count 66 = .ok (.getfield 39, 3) := by decide +kernel
theorem dX7_count_69 : decode cX7_count 69 = .ok (.getfield 113, 3) := by decide +kernel
theorem dX7_count_72 : decode cX7_count 72 = .ok (.ireturn, 1) := by decide +kernel
theorem dX7_count_73 : decode cX7_count 73 = .ok (.bipush (-2), 2) := by decide +kernel
theorem dX7_count_75 : decode cX7_count 75 = .ok (.ireturn, 1) := by decide +kernel
theorem dX7_feed_0 : decode cX7_feed 0 = .ok (.iload_n 2, 1) := by decide +kernel
theorem dX7_feed_1 : decode cX7_feed 1 = .ok (.invokestatic 116, 3) := by decide +kernel
theorem dX7_feed_4 : decode cX7_feed 4 = .ok (.ifCond .eq 38, 3) := by decide +kernel
theorem dX7_feed_7 : decode cX7_feed 7 = .ok (.iload_n 3, 1) := by decide +kernel
theorem dX7_feed_8 : decode cX7_feed 8 = .ok (.invokestatic 116, 3) := by decide +kernel
theorem dX7_feed_11 : decode cX7_feed 11 = .ok (.ifCond .eq 31, 3) := by decide +kernel
theorem dX7_feed_14 : decode cX7_feed 14 = .ok (.iload 4, 2) := by decide +kernel
theorem dX7_feed_16 : decode cX7_feed 16 = .ok (.invokestatic 116, 3) := by decide +kernel
theorem dX7_feed_19 : decode cX7_feed 19 = .ok (.ifCond .eq 23, 3) := by decide +kernel
theorem dX7_feed_22 : decode cX7_feed 22 = .ok (.iload 5, 2) := by decide +kernel
theorem dX7_feed_24 : decode cX7_feed 24 = .ok (.invokestatic 116, 3) := by decide +kernel
theorem dX7_feed_27 : decode cX7_feed 27 = .ok (.ifCond .eq 15, 3) := by decide +kernel
theorem dX7_feed_30 : decode cX7_feed 30 = .ok (.iload 6, 2) := by decide +kernel
theorem dX7_feed_32 : decode cX7_feed 32 = .ok (.invokestatic 116, 3) := by decide +kernel
theorem dX7_feed_35 : decode cX7_feed 35 = .ok (.ifCond .eq 7, 3) := by decide +kernel
theorem dX7_feed_38 : decode cX7_feed 38 = .ok (.iconst 1, 1) := by decide +kernel
theorem dX7_feed_39 : decode cX7_feed 39 = .ok (.goto 4, 3) := by decide +kernel
theorem dX7_feed_42 : decode cX7_feed 42 = .ok (.iconst 0, 1) := by decide +kernel
theorem dX7_feed_43 : decode cX7_feed 43 = .ok (.istore 7, 2) := by decide +kernel
theorem dX7_feed_45 : decode cX7_feed 45 = .ok (.iload_n 1, 1) := by decide +kernel
theorem dX7_feed_46 : decode cX7_feed 46 = .ok (.iconst 1, 1) := by decide +kernel
theorem dX7_feed_47 : decode cX7_feed 47 = .ok (.iconst 5, 1) := by decide +kernel
theorem dX7_feed_48 : decode cX7_feed 48 = .ok (.invokestatic 92, 3) := by decide +kernel
theorem dX7_feed_51 : decode cX7_feed 51 = .ok (.ifCond .eq 8, 3) := by decide +kernel
theorem dX7_feed_54 : decode cX7_feed 54 = .ok (.iload 7, 2) := by decide +kernel
theorem dX7_feed_56 : decode cX7_feed 56 = .ok (.ifCond .ne 6, 3) := by decide +kernel
theorem dX7_feed_59 : decode cX7_feed 59 = .ok (.bipush (-2), 2) := by decide +kernel
theorem dX7_feed_61 : decode cX7_feed 61 = .ok (.ireturn, 1) := by decide +kernel
theorem dX7_feed_62 : decode cX7_feed 62 = .ok (.aload_n 0, 1) := by decide +kernel
theorem dX7_feed_63 : decode cX7_feed 63 = .ok (.getfield 39, 3) := by decide +kernel
theorem dX7_feed_66 : decode cX7_feed 66 = .ok (.getfield 113, 3) := by decide +kernel
theorem dX7_feed_69 : decode cX7_feed 69 = .ok (.iload_n 1, 1) := by decide +kernel
theorem dX7_feed_70 : decode cX7_feed 70 = .ok (.iadd, 1) := by decide +kernel
theorem dX7_feed_71 : decode cX7_feed 71 = .ok (.sipush 160, 3) := by decide +kernel
theorem dX7_feed_74 : decode cX7_feed 74 = .ok (.if_icmp .le 6, 3) := by decide +kernel
theorem dX7_feed_77 : decode cX7_feed 77 = .ok (.bipush (-4), 2) := by decide +kernel
theorem dX7_feed_79 : decode cX7_feed 79 = .ok (.ireturn, 1) := by decide +kernel
theorem dX7_feed_80 : decode cX7_feed 80 = .ok (.aload_n 0, 1) := by decide +kernel
theorem dX7_feed_81 : decode cX7_feed 81 = .ok (.getfield 39, 3) := by decide +kernel
theorem dX7_feed_84 : decode cX7_feed 84 = .ok (.iload_n 2, 1) := by decide +kernel
theorem dX7_feed_85 : decode cX7_feed 85 = .ok (.invokevirtual 76, 3) := by decide +kernel
theorem dX7_feed_88 : decode cX7_feed 88 = .ok (.iload_n 1, 1) := by decide +kernel
theorem dX7_feed_89 : decode cX7_feed 89 = .ok (.iconst 1, 1) := by decide +kernel
theorem dX7_feed_90 : decode cX7_feed 90 = .ok (.if_icmp .le 11, 3) := by decide +kernel
theorem dX7_feed_93 : decode cX7_feed 93 = .ok (.aload_n 0, 1) := by decide +kernel
theorem dX7_feed_94 : decode cX7_feed 94 = .ok (.getfield 39, 3) := by decide +kernel
theorem dX7_feed_97 : decode cX7_feed 97 = .ok (.iload_n 3, 1) := by decide +kernel
theorem dX7_feed_98 : decode cX7_feed 98 = .ok (.invokevirtual 76, 3) := by decide +kernel
theorem dX7_feed_101 : decode cX7_feed 101 = .ok (.iload_n 1, 1) := by decide +kernel
theorem dX7_feed_102 : decode cX7_feed 102 = .ok (.iconst 2, 1) := by decide +kernel
theorem dX7_feed_103 : decode cX7_feed 103 = .ok (.if_icmp .le 12, 3) := by decide +kernel
theorem dX7_feed_106 : decode cX7_feed 106 = .ok (.aload_n 0, 1) := by decide +kernel
theorem dX7_feed_107 : decode cX7_feed 107 = .ok (.getfield 39, 3) := by decide +kernel
theorem dX7_feed_110 : decode cX7_feed 110 = .ok (.iload 4, 2) := by decide +kernel
theorem dX7_feed_112 : decode cX7_feed 112 = .ok (.invokevirtual 76, 3) := by decide +kernel
theorem dX7_feed_115 : decode cX7_feed 115 = .ok (.iload_n 1, 1) := by decide +kernel
theorem dX7_feed_116 : decode cX7_feed 116 = .ok (.iconst 3, 1) := by decide +kernel
theorem dX7_feed_117 : decode cX7_feed 117 = .ok (.if_icmp .le 12, 3) := by decide +kernel
theorem dX7_feed_120 : decode cX7_feed 120 = .ok (.aload_n 0, 1) := by decide +kernel
theorem dX7_feed_121 : decode cX7_feed 121 = .ok (.getfield 39, 3) := by decide +kernel
theorem dX7_feed_124 : decode cX7_feed 124 = .ok (.iload 5, 2) := by decide +kernel
theorem dX7_feed_126 : decode cX7_feed 126 = .ok (.invokevirtual 76, 3) := by decide +kernel
theorem dX7_feed_129 : decode cX7_feed 129 = .ok (.iload_n 1, 1) := by decide +kernel
theorem dX7_feed_130 : decode cX7_feed 130 = .ok (.iconst 4, 1) := by decide +kernel
theorem dX7_feed_131 : decode cX7_feed 131 = .ok (.if_icmp .le 12, 3) := by decide +kernel
theorem dX7_feed_134 : decode cX7_feed 134 = .ok (.aload_n 0, 1) := by decide +kernel
theorem dX7_feed_135 : decode cX7_feed 135 = .ok (.getfield 39, 3) := by decide +kernel
theorem dX7_feed_138 : decode cX7_feed 138 = .ok (.iload 6, 2) := by decide +kernel
theorem dX7_feed_140 : decode cX7_feed 140 = .ok (.invokevirtual 76, 3) := by decide +kernel
theorem dX7_feed_143 : decode cX7_feed 143 = .ok (.aload_n 0, 1) := by decide +kernel
theorem dX7_feed_144 : decode cX7_feed 144 = .ok (.getfield 39, 3) := by decide +kernel
theorem dX7_feed_147 : decode cX7_feed 147 = .ok (.getfield 113, 3) := by decide +kernel
theorem dX7_feed_150 : decode cX7_feed 150 = .ok (.ireturn, 1) := by decide +kernel
theorem dX7_text_0 : decode cX7_text 0 = .ok (.aload_n 0, 1) := by decide +kernel
theorem dX7_text_1 : decode cX7_text 1 = .ok (.getfield 84, 3) := by decide +kernel
theorem dX7_text_4 : decode cX7_text 4 = .ok (.bipush 6, 2) := by decide +kernel
theorem dX7_text_6 : decode cX7_text 6 = .ok (.if_icmp .lt 6, 3) := by decide +kernel
theorem dX7_text_9 : decode cX7_text 9 = .ok (.bipush (-4), 2) := by decide +kernel
theorem dX7_text_11 : decode cX7_text 11 = .ok (.ireturn, 1) := by decide +kernel
theorem dX7_text_12 : decode cX7_text 12 = .ok (.aload_n 0, 1) := by decide +kernel
theorem dX7_text_13 : decode cX7_text 13 = .ok (.getfield 39, 3) := by decide +kernel
theorem dX7_text_16 : decode cX7_text 16 = .ok (.aload_n 0, 1) := by decide +kernel
theorem dX7_text_17 : decode cX7_text 17 = .ok (.getfield 45, 3) := by decide +kernel
theorem dX7_text_20 : decode cX7_text 20 = .ok (.aload_n 0, 1) := by decide +kernel
theorem dX7_text_21 : decode cX7_text 21 = .ok (.getfield 84, 3) := by decide +kernel
theorem dX7_text_24 : decode cX7_text 24 = .ok (.aaload, 1) := by decide +kernel
theorem dX7_text_25 : decode cX7_text 25 = .ok (.invokevirtual 80, 3) := by decide +kernel
theorem dX7_text_28 : decode cX7_text 28 = .ok (.istore_n 1, 1) := by decide +kernel
theorem dX7_text_29 : decode cX7_text 29 = .ok (.iload_n 1, 1) := by decide +kernel
theorem dX7_text_30 : decode cX7_text 30 = .ok (.ifCond .lt 8, 3) := by decide +kernel
theorem dX7_text_33 : decode cX7_text 33 = .ok (.bipush (-100), 2) := by decide +kernel
theorem dX7_text_35 : decode cX7_text 35 = .ok (.iload_n 1, 1) := by decide +kernel
theorem dX7_text_36 : decode cX7_text 36 = .ok (.isub, 1) := by decide +kernel
theorem dX7_text_37 : decode cX7_text 37 = .ok (.ireturn, 1) := by decide +kernel
theorem dX7_text_38 : decode cX7_text 38 = .ok (.aload_n 0, 1) := by decide +kernel
theorem dX7_text_39 : decode cX7_text 39 = .ok (.dup, 1) := by decide +kernel
theorem dX7_text_40 : decode cX7_text 40 = .ok (.getfield 84, 3) := by decide +kernel
theorem dX7_text_43 : decode cX7_text 43 = .ok (.iconst 1, 1) := by decide +kernel
theorem dX7_text_44 : decode cX7_text 44 = .ok (.iadd, 1) := by decide +kernel
theorem dX7_text_45 : decode cX7_text 45 = .ok (.putfield 84, 3) := by decide +kernel
theorem dX7_text_48 : decode cX7_text 48 = .ok (.aload_n 0, 1) := by decide +kernel
theorem dX7_text_49 : decode cX7_text 49 = .ok (.getfield 84, 3) := by decide +kernel
theorem dX7_text_52 : decode cX7_text 52 = .ok (.iconst 1, 1) := by decide +kernel
theorem dX7_text_53 : decode cX7_text 53 = .ok (.isub, 1) := by decide +kernel
theorem dX7_text_54 : decode cX7_text 54 = .ok (.ireturn, 1) := by decide +kernel
theorem dX7_force_0 : decode cX7_force 0 = .ok (.iload_n 1, 1) := by decide +kernel
theorem dX7_force_1 : decode cX7_force 1 = .ok (.iconst 0, 1) := by decide +kernel
theorem dX7_force_2 : decode cX7_force 2 = .ok (.aload_n 0, 1) := by decide +kernel
theorem dX7_force_3 : decode cX7_force 3 = .ok (.getfield 84, 3) := by decide +kernel
theorem dX7_force_6 : decode cX7_force 6 = .ok (.iconst 1, 1) := by decide +kernel
theorem dX7_force_7 : decode cX7_force 7 = .ok (.isub, 1) := by decide +kernel
theorem dX7_force_8 : decode cX7_force 8 = .ok (.invokestatic 92, 3) := by decide +kernel
theorem dX7_force_11 : decode cX7_force 11 = .ok (.ifCond .ne 6, 3) := by decide +kernel
theorem dX7_force_14 : decode cX7_force 14 = .ok (.bipush (-2), 2) := by decide +kernel
theorem dX7_force_16 : decode cX7_force 16 = .ok (.ireturn, 1) := by decide +kernel
theorem dX7_force_17 : decode cX7_force 17 = .ok (.aload_n 0, 1) := by decide +kernel
theorem dX7_force_18 : decode cX7_force 18 = .ok (.getfield 10, 3) := by decide +kernel
theorem dX7_force_21 : decode cX7_force 21 = .ok (.getfield 110, 3) := by decide +kernel
theorem dX7_force_24 : decode cX7_force 24 = .ok (.istore_n 2, 1) := by decide +kernel
theorem dX7_force_25 : decode cX7_force 25 = .ok (.aload_n 0, 1) := by decide +kernel
theorem dX7_force_26 : decode cX7_force 26 = .ok (.getfield 10, 3) := by decide +kernel
theorem dX7_force_29 : decode cX7_force 29 = .ok (.iload_n 1, 1) := by decide +kernel
theorem dX7_force_30 : decode cX7_force 30 = .ok (.putfield 110, 3) := by decide +kernel
theorem dX7_force_33 : decode cX7_force 33 = .ok (.iload_n 2, 1) := by decide +kernel
theorem dX7_force_34 : decode cX7_force 34 = .ok (.ireturn, 1) := by decide +kernel
theorem dX7_asks_0 : decode cX7_asks 0 = .ok (.iload_n 1, 1) := by decide +kernel
theorem dX7_asks_1 : decode cX7_asks 1 = .ok (.iconst 0, 1) := by decide +kernel
theorem dX7_asks_2 : decode cX7_asks 2 = .ok (.iconst 2, 1) := by decide +kernel
theorem dX7_asks_3 : decode cX7_asks 3 = .ok (.invokestatic 92, 3) := by decide +kernel
theorem dX7_asks_6 : decode cX7_asks 6 = .ok (.ifCond .eq 30, 3) := by decide +kernel
theorem dX7_asks_9 : decode cX7_asks 9 = .ok (.iload_n 2, 1) := by decide +kernel
theorem dX7_asks_10 : decode cX7_asks 10 = .ok (.iconst 0, 1) := by decide +kernel
theorem dX7_asks_11 : decode cX7_asks 11 = .ok (.sipush 9999, 3) := by decide +kernel
theorem dX7_asks_14 : decode cX7_asks 14 = .ok (.invokestatic 92, 3) := by decide +kernel
theorem dX7_asks_17 : decode cX7_asks 17 = .ok (.ifCond .eq 19, 3) := by decide +kernel
theorem dX7_asks_20 : decode cX7_asks 20 = .ok (.iload 5, 2) := by decide +kernel
theorem dX7_asks_22 : decode cX7_asks 22 = .ok (.iconst 0, 1) := by decide +kernel
theorem dX7_asks_23 : decode cX7_asks 23 = .ok (.sipush 9999, 3) := by decide +kernel
theorem dX7_asks_26 : decode cX7_asks 26 = .ok (.invokestatic 92, 3) := by decide +kernel
theorem dX7_asks_29 : decode cX7_asks 29 = .ok (.ifCond .eq 7, 3) := by decide +kernel
theorem dX7_asks_32 : decode cX7_asks 32 = .ok (.iconst 1, 1) := by decide +kernel
theorem dX7_asks_33 : decode cX7_asks 33 = .ok (.goto 4, 3) := by decide +kernel
theorem dX7_asks_36 : decode cX7_asks 36 = .ok (.iconst 0, 1) := by decide +kernel
theorem dX7_asks_37 : decode cX7_asks 37 = .ok (.istore 6, 2) := by decide +kernel
theorem dX7_asks_39 : decode cX7_asks 39 = .ok (.iload_n 3, 1) := by decide +kernel
theorem dX7_asks_40 : decode cX7_asks 40 = .ok (.iconst 0, 1) := by decide +kernel
theorem dX7_asks_41 : decode cX7_asks 41 = .ok (.bipush 91, 2) := by decide +kernel
theorem dX7_asks_43 : decode cX7_asks 43 = .ok (.invokestatic 92, 3) := by decide +kernel
theorem dX7_asks_46 : decode cX7_asks 46 = .ok (.ifCond .eq 15, 3) := by decide +kernel
theorem dX7_asks_49 : decode cX7_asks 49 = .ok (.iload_n 3, 1) := by decide +kernel
theorem dX7_asks_50 : decode cX7_asks 50 = .ok (.bipush 10, 2) := by decide +kernel
theorem dX7_asks_52 : decode cX7_asks 52 = .ok (.irem, 1) := by decide +kernel
theorem dX7_asks_53 : decode cX7_asks 53 = .ok (.iconst 1, 1) := by decide +kernel
theorem dX7_asks_54 : decode cX7_asks 54 = .ok (.if_icmp .gt 7, 3) := by decide +kernel
theorem dX7_asks_57 : decode cX7_asks 57 = .ok (.iconst 1, 1) := by decide +kernel
theorem dX7_asks_58 : decode cX7_asks 58 = .ok (.goto 4, 3) := by decide +kernel
theorem dX7_asks_61 : decode cX7_asks 61 = .ok (.iconst 0, 1) := by decide +kernel
theorem dX7_asks_62 : decode cX7_asks 62 = .ok (.istore 7, 2) := by decide +kernel
theorem dX7_asks_64 : decode cX7_asks 64 = .ok (.iload 6, 2) := by decide +kernel
theorem dX7_asks_66 : decode cX7_asks 66 = .ok (.ifCond .eq 19, 3) := by decide +kernel
theorem dX7_asks_69 : decode cX7_asks 69 = .ok (.iload 7, 2) := by decide +kernel
theorem dX7_asks_71 : decode cX7_asks 71 = .ok (.ifCond .eq 14, 3) := by decide +kernel
theorem dX7_asks_74 : decode cX7_asks 74 = .ok (.iload 4, 2) := by decide +kernel
theorem dX7_asks_76 : decode cX7_asks 76 = .ok (.iconst 0, 1) := by decide +kernel
theorem dX7_asks_77 : decode cX7_asks 77 = .ok (.bipush 19, 2) := by decide +kernel
theorem dX7_asks_79 : decode cX7_asks 79 = .ok (.invokestatic 92, 3) := by decide +kernel
theorem dX7_asks_82 : decode cX7_asks 82 = .ok (.ifCond .ne 6, 3) := by decide +kernel
theorem dX7_asks_85 : decode cX7_asks 85 = .ok (.bipush (-2), 2) := by decide +kernel
theorem dX7_asks_87 : decode cX7_asks 87 = .ok (.ireturn, 1) := by decide +kernel
theorem dX7_asks_88 : decode cX7_asks 88 = .ok (.aload_n 0, 1) := by decide +kernel
theorem dX7_asks_89 : decode cX7_asks 89 = .ok (.getfield 55, 3) := by decide +kernel
theorem dX7_asks_92 : decode cX7_asks 92 = .ok (.iconst 0, 1) := by decide +kernel
theorem dX7_asks_93 : decode cX7_asks 93 = .ok (.iload_n 2, 1) := by decide +kernel
theorem dX7_asks_94 : decode cX7_asks 94 = .ok (.iastore, 1) := by decide +kernel
theorem dX7_asks_95 : decode cX7_asks 95 = .ok (.aload_n 0, 1) := by decide +kernel
theorem dX7_asks_96 : decode cX7_asks 96 = .ok (.getfield 55, 3) := by decide +kernel
theorem dX7_asks_99 : decode cX7_asks 99 = .ok (.iconst 1, 1) := by decide +kernel
theorem dX7_asks_100 : decode cX7_asks 100 = .ok (.iload_n 3, 1) := by decide +kernel
theorem dX7_asks_101 : decode cX7_asks 101 = .ok (.bipush 10, 2) := by decide +kernel
theorem dX7_asks_103 : decode cX7_asks 103 = .ok (.idiv, 1) := by decide +kernel
theorem dX7_asks_104 : decode cX7_asks 104 = .ok (.iastore, 1) := by decide +kernel
theorem dX7_asks_105 : decode cX7_asks 105 = .ok (.aload_n 0, 1) := by decide +kernel
theorem dX7_asks_106 : decode cX7_asks 106 = .ok (.getfield 55, 3) := by decide +kernel
theorem dX7_asks_109 : decode cX7_asks 109 = .ok (.iconst 2, 1) := by decide +kernel
theorem dX7_asks_110 : decode cX7_asks 110 = .ok (.iload_n 3, 1) := by decide +kernel
theorem dX7_asks_111 : decode cX7_asks 111 = .ok (.bipush 10, 2) := by decide +kernel
theorem dX7_asks_113 : decode cX7_asks 113 = .ok (.irem, 1) := by decide +kernel
theorem dX7_asks_114 : decode cX7_asks 114 = .ok (.iastore, 1) := by decide +kernel
theorem dX7_asks_115 : decode cX7_asks 115 = .ok (.aload_n 0, 1) := by decide +kernel
theorem dX7_asks_116 : decode cX7_asks 116 = .ok (.getfield 55, 3) := by decide +kernel
theorem dX7_asks_119 : decode cX7_asks 119 = .ok (.iconst 3, 1) := by decide +kernel
theorem dX7_asks_120 : decode cX7_asks 120 = .ok (.iload 4, 2) := by decide +kernel
theorem dX7_asks_122 : decode cX7_asks 122 = .ok (.bipush 10, 2) := by decide +kernel
theorem dX7_asks_124 : decode cX7_asks 124 = .ok (.idiv, 1) := by decide +kernel
theorem dX7_asks_125 : decode cX7_asks 125 = .ok (.iastore, 1) := by decide +kernel
theorem dX7_asks_126 : decode cX7_asks 126 = .ok (.aload_n 0, 1) := by decide +kernel
theorem dX7_asks_127 : decode cX7_asks 127 = .ok (.getfield 55, 3) := by decide +kernel
theorem dX7_asks_130 : decode cX7_asks 130 = .ok (.iconst 4, 1) := by decide +kernel
theorem dX7_asks_131 : decode cX7_asks 131 = .ok (.iload 4, 2) := by decide +kernel
theorem dX7_asks_133 : decode cX7_asks 133 = .ok (.bipush 10, 2) := by decide +kernel
theorem dX7_asks_135 : decode cX7_asks 135 = .ok (.irem, 1) := by decide +kernel
theorem dX7_asks_136 : decode cX7_asks 136 = .ok (.iastore, 1) := by decide +kernel
theorem dX7_asks_137 : decode cX7_asks 137 = .ok (.aload_n 0, 1) := by decide +kernel
theorem dX7_asks_138 : decode cX7_asks 138 = .ok (.getfield 55, 3) := by decide +kernel
theorem dX7_asks_141 : decode cX7_asks 141 = .ok (.iconst 5, 1) := by decide +kernel
theorem dX7_asks_142 : decode cX7_asks 142 = .ok (.iload 5, 2) := by decide +kernel
theorem dX7_asks_144 : decode cX7_asks 144 = .ok (.iastore, 1) := by decide +kernel
theorem dX7_asks_145 : decode cX7_asks 145 = .ok (.aload_n 0, 1) := by decide +kernel
theorem dX7_asks_146 : decode cX7_asks 146 = .ok (.getfield 45, 3) := by decide +kernel
theorem dX7_asks_149 : decode cX7_asks 149 = .ok (.aload_n 0, 1) := by decide +kernel
theorem dX7_asks_150 : decode cX7_asks 150 = .ok (.getfield 10, 3) := by decide +kernel
theorem dX7_asks_153 : decode cX7_asks 153 = .ok (.getfield 110, 3) := by decide +kernel
theorem dX7_asks_156 : decode cX7_asks 156 = .ok (.aaload, 1) := by decide +kernel
theorem dX7_asks_157 : decode cX7_asks 157 = .ok (.iload_n 1, 1) := by decide +kernel
theorem dX7_asks_158 : decode cX7_asks 158 = .ok (.aload_n 0, 1) := by decide +kernel
theorem dX7_asks_159 : decode cX7_asks 159 = .ok (.getfield 55, 3) := by decide +kernel
theorem dX7_asks_162 : decode cX7_asks 162 = .ok (.invokevirtual 119, 3) := by decide +kernel
theorem dX7_asks_165 : decode cX7_asks 165 = .ok (.ireturn, 1) := by decide +kernel
theorem dX7_lay_0 : decode cX7_lay 0 = .ok (.iload_n 1, 1) := by decide +kernel
theorem dX7_lay_1 : decode cX7_lay 1 = .ok (.invokestatic 123, 3) := by decide +kernel
theorem dX7_lay_4 : decode cX7_lay 4 = .ok (.ifCond .ne 6, 3) := by decide +kernel
theorem dX7_lay_7 : decode cX7_lay 7 = .ok (.bipush (-5), 2) := by decide +kernel
theorem dX7_lay_9 : decode cX7_lay 9 = .ok (.ireturn, 1) := by decide +kernel
theorem dX7_lay_10 : decode cX7_lay 10 = .ok (.iload_n 2, 1) := by decide +kernel
theorem dX7_lay_11 : decode cX7_lay 11 = .ok (.iload_n 3, 1) := by decide +kernel
theorem dX7_lay_12 : decode cX7_lay 12 = .ok (.invokestatic 126, 3) := by decide +kernel
theorem dX7_lay_15 : decode cX7_lay 15 = .ok (.ifCond .ne 6, 3) := by decide +kernel
theorem dX7_lay_18 : decode cX7_lay 18 = .ok (.bipush (-7), 2) := by decide +kernel
theorem dX7_lay_20 : decode cX7_lay 20 = .ok (.ireturn, 1) := by decide +kernel
theorem dX7_lay_21 : decode cX7_lay 21 = .ok (.aload_n 0, 1) := by decide +kernel
theorem dX7_lay_22 : decode cX7_lay 22 = .ok (.getfield 10, 3) := by decide +kernel
theorem dX7_lay_25 : decode cX7_lay 25 = .ok (.getfield 130, 3) := by decide +kernel
theorem dX7_lay_28 : decode cX7_lay 28 = .ok (.iload_n 1, 1) := by decide +kernel
theorem dX7_lay_29 : decode cX7_lay 29 = .ok (.iaload, 1) := by decide +kernel
theorem dX7_lay_30 : decode cX7_lay 30 = .ok (.istore 4, 2) := by decide +kernel
theorem dX7_lay_32 : decode cX7_lay 32 = .ok (.aload_n 0, 1) := by decide +kernel
theorem dX7_lay_33 : decode cX7_lay 33 = .ok (.getfield 10, 3) := by decide +kernel
theorem dX7_lay_36 : decode cX7_lay 36 = .ok (.iload_n 1, 1) := by decide +kernel
theorem dX7_lay_37 : decode cX7_lay 37 = .ok (.iload_n 2, 1) := by decide +kernel
theorem dX7_lay_38 : decode cX7_lay 38 = .ok (.iload_n 3, 1) := by decide +kernel
theorem dX7_lay_39 : decode cX7_lay 39 = .ok (.invokevirtual 133, 3) := by decide +kernel
theorem dX7_lay_42 : decode cX7_lay 42 = .ok (.iload 4, 2) := by decide +kernel
theorem dX7_lay_44 : decode cX7_lay 44 = .ok (.ireturn, 1) := by decide +kernel
theorem dX7_plot_0 : decode cX7_plot 0 = .ok (.iload_n 2, 1) := by decide +kernel
theorem dX7_plot_1 : decode cX7_plot 1 = .ok (.bipush 10, 2) := by decide +kernel
theorem dX7_plot_3 : decode cX7_plot 3 = .ok (.idiv, 1) := by decide +kernel
theorem dX7_plot_4 : decode cX7_plot 4 = .ok (.istore 5, 2) := by decide +kernel
theorem dX7_plot_6 : decode cX7_plot 6 = .ok (.iload_n 2, 1) := by decide +kernel
theorem dX7_plot_7 : decode cX7_plot 7 = .ok (.bipush 10, 2) := by decide +kernel
theorem dX7_plot_9 : decode cX7_plot 9 = .ok (.irem, 1) := by decide +kernel
theorem dX7_plot_10 : decode cX7_plot 10 = .ok (.istore 6, 2) := by decide +kernel
theorem dX7_plot_12 : decode cX7_plot 12 = .ok (.iload_n 1, 1) := by decide +kernel
theorem dX7_plot_13 : decode cX7_plot 13 = .ok (.invokestatic 123, 3) := by decide +kernel
theorem dX7_plot_16 : decode cX7_plot 16 = .ok (.ifCond .eq 25, 3) := by decide +kernel
theorem dX7_plot_19 : decode cX7_plot 19 = .ok (.iload 5, 2) := by decide +kernel
theorem dX7_plot_21 : decode cX7_plot 21 = .ok (.iconst 1, 1) := by decide +kernel
theorem dX7_plot_22 : decode cX7_plot 22 = .ok (.bipush 6, 2) := by decide +kernel
theorem dX7_plot_24 : decode cX7_plot 24 = .ok (.invokestatic 92, 3) := by decide +kernel
theorem dX7_plot_27 : decode cX7_plot 27 = .ok (.ifCond .eq 14, 3) := by decide +kernel
theorem dX7_plot_30 : decode cX7_plot 30 = .ok (.iload 6, 2) := by decide +kernel
theorem dX7_plot_32 : decode cX7_plot 32 = .ok (.iconst 1, 1) := by decide +kernel
theorem dX7_plot_33 : decode cX7_plot 33 = .ok (.bipush 6, 2) := by decide +kernel
theorem dX7_plot_35 : decode cX7_plot 35 = .ok (.invokestatic 92, 3) := by decide +kernel
theorem dX7_plot_38 : decode cX7_plot 38 = .ok (.ifCond .ne 6, 3) := by decide +kernel
theorem dX7_plot_41 : decode cX7_plot 41 = .ok (.bipush (-2), 2) := by decide +kernel
theorem dX7_plot_43 : decode cX7_plot 43 = .ok (.ireturn, 1) := by decide +kernel
theorem dX7_plot_44 : decode cX7_plot 44 = .ok (.iload_n 3, 1) := by decide +kernel
theorem dX7_plot_45 : decode cX7_plot 45 = .ok (.iload 4, 2) := by decide +kernel
theorem dX7_plot_47 : decode cX7_plot 47 = .ok (.invokestatic 126, 3) := by decide +kernel
theorem dX7_plot_50 : decode cX7_plot 50 = .ok (.ifCond .ne 6, 3) := by decide +kernel
theorem dX7_plot_53 : decode cX7_plot 53 = .ok (.bipush (-7), 2) := by decide +kernel
theorem dX7_plot_55 : decode cX7_plot 55 = .ok (.ireturn, 1) := by decide +kernel
theorem dX7_plot_56 : decode cX7_plot 56 = .ok (.bipush 6, 2) := by decide +kernel
theorem dX7_plot_58 : decode cX7_plot 58 = .ok (.iload_n 1, 1) := by decide +kernel
theorem dX7_plot_59 : decode cX7_plot 59 = .ok (.bipush 6, 2) := by decide +kernel
theorem dX7_plot_61 : decode cX7_plot 61 = .ok (.idiv, 1) := by decide +kernel
theorem dX7_plot_62 : decode cX7_plot 62 = .ok (.iload 5, 2) := by decide +kernel
theorem dX7_plot_64 : decode cX7_plot 64 = .ok (.iadd, 1) := by decide +kernel
theorem dX7_plot_65 : decode cX7_plot 65 = .ok (.invokestatic 137, 3) := by decide +kernel
theorem dX7_plot_68 : decode cX7_plot 68 = .ok (.istore 7, 2) := by decide +kernel
theorem dX7_plot_70 : decode cX7_plot 70 = .ok (.bipush 6, 2) := by decide +kernel
theorem dX7_plot_72 : decode cX7_plot 72 = .ok (.iload_n 1, 1) := by decide +kernel
theorem dX7_plot_73 : decode cX7_plot 73 = .ok (.bipush 6, 2) := by decide +kernel
theorem dX7_plot_75 : decode cX7_plot 75 = .ok (.irem, 1) := by decide +kernel
theorem dX7_plot_76 : decode cX7_plot 76 = .ok (.iload 6, 2) := by decide +kernel
theorem dX7_plot_78 : decode cX7_plot 78 = .ok (.iadd, 1) := by decide +kernel
theorem dX7_plot_79 : decode cX7_plot 79 = .ok (.invokestatic 137, 3) := by decide +kernel
theorem dX7_plot_82 : decode cX7_plot 82 = .ok (.istore 8, 2) := by decide +kernel
theorem dX7_plot_84 : decode cX7_plot 84 = .ok (.iconst 0, 1) := by decide +kernel
theorem dX7_plot_85 : decode cX7_plot 85 = .ok (.istore 9, 2) := by decide +kernel
theorem dX7_plot_87 : decode cX7_plot 87 = .ok (.iload_n 1, 1) := by decide +kernel
theorem dX7_plot_88 : decode cX7_plot 88 = .ok (.bipush 6, 2) := by decide +kernel
theorem dX7_plot_90 : decode cX7_plot 90 = .ok (.idiv, 1) := by decide +kernel
theorem dX7_plot_91 : decode cX7_plot 91 = .ok (.istore 10, 2) := by decide +kernel
theorem dX7_plot_93 : decode cX7_plot 93 = .ok (.iload 10, 2) := by decide +kernel
theorem dX7_plot_95 : decode cX7_plot 95 = .ok (.iload 7, 2) := by decide +kernel
theorem dX7_plot_97 : decode cX7_plot 97 = .ok (.if_icmp .ge 49, 3) := by decide +kernel
theorem dX7_plot_100 : decode cX7_plot 100 = .ok (.iload_n 1, 1) := by decide +kernel
theorem dX7_plot_101 : decode cX7_plot 101 = .ok (.bipush 6, 2) := by decide +kernel
theorem dX7_plot_103 : decode cX7_plot 103 = .ok (.irem, 1) := by decide +kernel
theorem dX7_plot_104 : decode cX7_plot 104 = .ok (.istore 11, 2) := by decide +kernel
theorem dX7_plot_106 : decode cX7_plot 106 = .ok (.iload 11, 2) := by decide +kernel
theorem dX7_plot_108 : decode cX7_plot 108 = .ok (.iload 8, 2) := by decide +kernel
theorem dX7_plot_110 : decode cX7_plot 110 = .ok (.if_icmp .ge 30, 3) := by decide +kernel
theorem dX7_plot_113 : decode cX7_plot 113 = .ok (.aload_n 0, 1) := by decide +kernel
theorem dX7_plot_114 : decode cX7_plot 114 = .ok (.getfield 10, 3) := by decide +kernel
theorem dX7_plot_117 : decode cX7_plot 117 = .ok (.bipush 6, 2) := by decide +kernel
theorem dX7_plot_119 : decode cX7_plot 119 = .ok (.iload 10, 2) := by decide +kernel
theorem dX7_plot_121 : decode cX7_plot 121 = .ok (.imul, 1) := by decide +kernel
theorem dX7_plot_122 : decode cX7_plot 122 = .ok (.iload 11, 2) := by decide +kernel
theorem dX7_plot_124 : decode cX7_plot 124 = .ok (.iadd, 1) := by decide +kernel
theorem dX7_plot_125 : decode cX7_plot 125 = .ok (.iload_n 3, 1) := by decide +kernel
theorem dX7_plot_126 : decode cX7_plot 126 = .ok (.iload 4, 2) := by decide +kernel
theorem dX7_plot_128 : decode cX7_plot 128 = .ok (.invokevirtual 133, 3) := by decide +kernel
theorem dX7_plot_131 : decode cX7_plot 131 = .ok (.iinc 9 1, 3) := by decide +kernel
theorem dX7_plot_134 : decode cX7_plot 134 = .ok (.iinc 11 1, 3) := by decide +kernel
theorem dX7_plot_137 : decode cX7_plot 137 = .ok (.goto (-31), 3) := by decide +kernel
theorem dX7_plot_140 : decode cX7_plot 140 = .ok (.iinc 10 1, 3) := by decide +kernel
theorem dX7_plot_143 : decode cX7_plot 143 = .ok (.goto (-50), 3) := by decide +kernel
theorem dX7_plot_146 : decode cX7_plot 146 = .ok (.iload 9, 2) := by decide +kernel
theorem dX7_plot_148 : decode cX7_plot 148 = .ok (.ireturn, 1) := by decide +kernel
theorem dX7_cellTold_0 : decode cX7_cellTold 0 = .ok (.iload_n 1, 1) := by decide +kernel
theorem dX7_cellTold_1 : decode cX7_cellTold 1 = .ok (.invokestatic 123, 3) := by decide +kernel
theorem dX7_cellTold_4 : decode cX7_cellTold 4 = .ok (.ifCond .ne 6, 3) := by decide +kernel
theorem dX7_cellTold_7 : decode cX7_cellTold 7 = .ok (.bipush (-5), 2) := by decide +kernel
theorem dX7_cellTold_9 : decode cX7_cellTold 9 = .ok (.ireturn, 1) := by decide +kernel
theorem dX7_cellTold_10 : decode cX7_cellTold 10 = .ok (.iload_n 2, 1) := by decide +kernel
theorem dX7_cellTold_11 : decode cX7_cellTold 11 = .ok (.tableswitch 55 0 2 #[25, 35, 45], 25) := by decide +kernel
theorem dX7_cellTold_36 : decode cX7_cellTold 36 = .ok (.aload_n 0, 1) := by decide +kernel
theorem dX7_cellTold_37 : decode cX7_cellTold 37 = .ok (.getfield 10, 3) := by decide +kernel
theorem dX7_cellTold_40 : decode cX7_cellTold 40 = .ok (.getfield 130, 3) := by decide +kernel
theorem dX7_cellTold_43 : decode cX7_cellTold 43 = .ok (.iload_n 1, 1) := by decide +kernel
theorem dX7_cellTold_44 : decode cX7_cellTold 44 = .ok (.iaload, 1) := by decide +kernel
theorem dX7_cellTold_45 : decode cX7_cellTold 45 = .ok (.ireturn, 1) := by decide +kernel
theorem dX7_cellTold_46 : decode cX7_cellTold 46 = .ok (.aload_n 0, 1) := by decide +kernel
theorem dX7_cellTold_47 : decode cX7_cellTold 47 = .ok (.getfield 10, 3) := by decide +kernel
theorem dX7_cellTold_50 : decode cX7_cellTold 50 = .ok (.getfield 143, 3) := by decide +kernel
theorem dX7_cellTold_53 : decode cX7_cellTold 53 = .ok (.iload_n 1, 1) := by decide +kernel
theorem dX7_cellTold_54 : decode cX7_cellTold 54 = .ok (.iaload, 1) := by decide +kernel
theorem dX7_cellTold_55 : decode cX7_cellTold 55 = .ok (.ireturn, 1) := by decide +kernel
theorem dX7_cellTold_56 : decode cX7_cellTold 56 = .ok (.aload_n 0, 1) := by decide +kernel
theorem dX7_cellTold_57 : decode cX7_cellTold 57 = .ok (.getfield 10, 3) := by decide +kernel
theorem dX7_cellTold_60 : decode cX7_cellTold 60 = .ok (.getfield 146, 3) := by decide +kernel
theorem dX7_cellTold_63 : decode cX7_cellTold 63 = .ok (.iload_n 1, 1) := by decide +kernel
theorem dX7_cellTold_64 : decode cX7_cellTold 64 = .ok (.iaload, 1) := by decide +kernel
theorem dX7_cellTold_65 : decode cX7_cellTold 65 = .ok (.ireturn, 1) := by decide +kernel
theorem dX7_cellTold_66 : decode cX7_cellTold 66 = .ok (.bipush (-7), 2) := by decide +kernel
theorem dX7_cellTold_68 : decode cX7_cellTold 68 = .ok (.ireturn, 1) := by decide +kernel
theorem dX7_tree_0 : decode cX7_tree 0 = .ok (.iload_n 1, 1) := by decide +kernel
theorem dX7_tree_1 : decode cX7_tree 1 = .ok (.invokestatic 123, 3) := by decide +kernel
theorem dX7_tree_4 : decode cX7_tree 4 = .ok (.ifCond .eq 24, 3) := by decide +kernel
theorem dX7_tree_7 : decode cX7_tree 7 = .ok (.iload_n 2, 1) := by decide +kernel
theorem dX7_tree_8 : decode cX7_tree 8 = .ok (.iconst 0, 1) := by decide +kernel
theorem dX7_tree_9 : decode cX7_tree 9 = .ok (.bipush 9, 2) := by decide +kernel
theorem dX7_tree_11 : decode cX7_tree 11 = .ok (.invokestatic 92, 3) := by decide +kernel
theorem dX7_tree_14 : decode cX7_tree 14 = .ok (.ifCond .eq 14, 3) := by decide +kernel
theorem dX7_tree_17 : decode cX7_tree 17 = .ok (.iload_n 3, 1) := by decide +kernel
theorem dX7_tree_18 : decode cX7_tree 18 = .ok (.iconst 0, 1) := by decide +kernel
theorem dX7_tree_19 : decode cX7_tree 19 = .ok (.sipush 999, 3) := by decide +kernel
theorem dX7_tree_22 : decode cX7_tree 22 = .ok (.invokestatic 92, 3) := by decide +kernel
theorem dX7_tree_25 : decode cX7_tree 25 = .ok (.ifCond .ne 6, 3) := by decide +kernel
theorem dX7_tree_28 : decode cX7_tree 28 = .ok (.bipush (-2), 2) := by decide +kernel
theorem dX7_tree_30 : decode cX7_tree 30 = .ok (.ireturn, 1) := by decide +kernel
theorem dX7_tree_31 : decode cX7_tree 31 = .ok (.aload_n 0, 1) := by decide +kernel
theorem dX7_tree_32 : decode cX7_tree 32 = .ok (.getfield 10, 3) := by decide +kernel
theorem dX7_tree_35 : decode cX7_tree 35 = .ok (.getfield 104, 3) := by decide +kernel
theorem dX7_tree_38 : decode cX7_tree 38 = .ok (.istore 4, 2) := by decide +kernel
theorem dX7_tree_40 : decode cX7_tree 40 = .ok (.iload 4, 2) := by decide +kernel
theorem dX7_tree_42 : decode cX7_tree 42 = .ok (.iconst 4, 1) := by decide +kernel
theorem dX7_tree_43 : decode cX7_tree 43 = .ok (.if_icmp .lt 6, 3) := by decide +kernel
theorem dX7_tree_46 : decode cX7_tree 46 = .ok (.bipush (-4), 2) := by decide +kernel
theorem dX7_tree_48 : decode cX7_tree 48 = .ok (.ireturn, 1) := by decide +kernel
theorem dX7_tree_49 : decode cX7_tree 49 = .ok (.aload_n 0, 1) := by decide +kernel
theorem dX7_tree_50 : decode cX7_tree 50 = .ok (.getfield 10, 3) := by decide +kernel
theorem dX7_tree_53 : decode cX7_tree 53 = .ok (.getfield 149, 3) := by decide +kernel
theorem dX7_tree_56 : decode cX7_tree 56 = .ok (.iload 4, 2) := by decide +kernel
theorem dX7_tree_58 : decode cX7_tree 58 = .ok (.iload_n 1, 1) := by decide +kernel
theorem dX7_tree_59 : decode cX7_tree 59 = .ok (.iastore, 1) := by decide +kernel
theorem dX7_tree_60 : decode cX7_tree 60 = .ok (.aload_n 0, 1) := by decide +kernel
theorem dX7_tree_61 : decode cX7_tree 61 = .ok (.getfield 10, 3) := by decide +kernel
theorem dX7_tree_64 : decode cX7_tree 64 = .ok (.getfield 152, 3) := by decide +kernel
theorem dX7_tree_67 : decode cX7_tree 67 = .ok (.iload 4, 2) := by decide +kernel
theorem dX7_tree_69 : decode cX7_tree 69 = .ok (.iload_n 2, 1) := by decide +kernel
theorem dX7_tree_70 : decode cX7_tree 70 = .ok (.iastore, 1) := by decide +kernel
theorem dX7_tree_71 : decode cX7_tree 71 = .ok (.aload_n 0, 1) := by decide +kernel
theorem dX7_tree_72 : decode cX7_tree 72 = .ok (.getfield 10, 3) := by decide +kernel
theorem dX7_tree_75 : decode cX7_tree 75 = .ok (.getfield 155, 3) := by decide +kernel
theorem dX7_tree_78 : decode cX7_tree 78 = .ok (.iload 4, 2) := by decide +kernel
theorem dX7_tree_80 : decode cX7_tree 80 = .ok (.iload_n 3, 1) := by decide +kernel
theorem dX7_tree_81 : decode cX7_tree 81 = .ok (.iastore, 1) := by decide +kernel
theorem dX7_tree_82 : decode cX7_tree 82 = .ok (.aload_n 0, 1) := by decide +kernel
theorem dX7_tree_83 : decode cX7_tree 83 = .ok (.getfield 10, 3) := by decide +kernel
theorem dX7_tree_86 : decode cX7_tree 86 = .ok (.iload 4, 2) := by decide +kernel
theorem dX7_tree_88 : decode cX7_tree 88 = .ok (.iconst 1, 1) := by decide +kernel
theorem dX7_tree_89 : decode cX7_tree 89 = .ok (.iadd, 1) := by decide +kernel
theorem dX7_tree_90 : decode cX7_tree 90 = .ok (.putfield 104, 3) := by decide +kernel
theorem dX7_tree_93 : decode cX7_tree 93 = .ok (.iload 4, 2) := by decide +kernel
theorem dX7_tree_95 : decode cX7_tree 95 = .ok (.ireturn, 1) := by decide +kernel
theorem dX7_treeTold_0 : decode cX7_treeTold 0 = .ok (.aload_n 0, 1) := by decide +kernel
theorem dX7_treeTold_1 : decode cX7_treeTold 1 = .ok (.iload_n 1, 1) := by decide +kernel
theorem dX7_treeTold_2 : decode cX7_treeTold 2 = .ok (.invokevirtual 158, 3) := by decide +kernel
theorem dX7_treeTold_5 : decode cX7_treeTold 5 = .ok (.ifCond .ne 6, 3) := by decide +kernel
theorem dX7_treeTold_8 : decode cX7_treeTold 8 = .ok (.bipush (-5), 2) := by decide +kernel
theorem dX7_treeTold_10 : decode cX7_treeTold 10 = .ok (.ireturn, 1) := by decide +kernel
theorem dX7_treeTold_11 : decode cX7_treeTold 11 = .ok (.iload_n 2, 1) := by decide +kernel
theorem dX7_treeTold_12 : decode cX7_treeTold 12 = .ok (.tableswitch 58 0 2 #[28, 38, 48], 28) := by decide +kernel
theorem dX7_treeTold_40 : decode cX7_treeTold 40 = .ok (.aload_n 0, 1) := by decide +kernel
theorem dX7_treeTold_41 : decode cX7_treeTold 41 = .ok (.getfield 10, 3) := by decide +kernel
theorem dX7_treeTold_44 : decode cX7_treeTold 44 = .ok (.getfield 149, 3) := by decide +kernel
theorem dX7_treeTold_47 : decode cX7_treeTold 47 = .ok (.iload_n 1, 1) := by decide +kernel
theorem dX7_treeTold_48 : decode cX7_treeTold 48 = .ok (.iaload, 1) := by decide +kernel
theorem dX7_treeTold_49 : decode cX7_treeTold 49 = .ok (.ireturn, 1) := by decide +kernel
theorem dX7_treeTold_50 : decode cX7_treeTold 50 = .ok (.aload_n 0, 1) := by decide +kernel
theorem dX7_treeTold_51 : decode cX7_treeTold 51 = .ok (.getfield 10, 3) := by decide +kernel
theorem dX7_treeTold_54 : decode cX7_treeTold 54 = .ok (.getfield 152, 3) := by decide +kernel
theorem dX7_treeTold_57 : decode cX7_treeTold 57 = .ok (.iload_n 1, 1) := by decide +kernel
theorem dX7_treeTold_58 : decode cX7_treeTold 58 = .ok (.iaload, 1) := by decide +kernel
theorem dX7_treeTold_59 : decode cX7_treeTold 59 = .ok (.ireturn, 1) := by decide +kernel
theorem dX7_treeTold_60 : decode cX7_treeTold 60 = .ok (.aload_n 0, 1) := by decide +kernel
theorem dX7_treeTold_61 : decode cX7_treeTold 61 = .ok (.getfield 10, 3) := by decide +kernel
theorem dX7_treeTold_64 : decode cX7_treeTold 64 = .ok (.getfield 155, 3) := by decide +kernel
theorem dX7_treeTold_67 : decode cX7_treeTold 67 = .ok (.iload_n 1, 1) := by decide +kernel
theorem dX7_treeTold_68 : decode cX7_treeTold 68 = .ok (.iaload, 1) := by decide +kernel
theorem dX7_treeTold_69 : decode cX7_treeTold 69 = .ok (.ireturn, 1) := by decide +kernel
theorem dX7_treeTold_70 : decode cX7_treeTold 70 = .ok (.bipush (-7), 2) := by decide +kernel
theorem dX7_treeTold_72 : decode cX7_treeTold 72 = .ok (.ireturn, 1) := by decide +kernel
theorem dX7_fell_0 : decode cX7_fell 0 = .ok (.aload_n 0, 1) := by decide +kernel
theorem dX7_fell_1 : decode cX7_fell 1 = .ok (.getfield 10, 3) := by decide +kernel
theorem dX7_fell_4 : decode cX7_fell 4 = .ok (.getfield 104, 3) := by decide +kernel
theorem dX7_fell_7 : decode cX7_fell 7 = .ok (.ifCond .ne 6, 3) := by decide +kernel
theorem dX7_fell_10 : decode cX7_fell 10 = .ok (.bipush (-3), 2) := by decide +kernel
theorem dX7_fell_12 : decode cX7_fell 12 = .ok (.ireturn, 1) := by decide +kernel
theorem dX7_fell_13 : decode cX7_fell 13 = .ok (.aload_n 0, 1) := by decide +kernel
theorem dX7_fell_14 : decode cX7_fell 14 = .ok (.getfield 10, 3) := by decide +kernel
theorem dX7_fell_17 : decode cX7_fell 17 = .ok (.dup, 1) := by decide +kernel
theorem dX7_fell_18 : decode cX7_fell 18 = .ok (.getfield 104, 3) := by decide +kernel
theorem dX7_fell_21 : decode cX7_fell 21 = .ok (.iconst 1, 1) := by decide +kernel
theorem dX7_fell_22 : decode cX7_fell 22 = .ok (.isub, 1) := by decide +kernel
theorem dX7_fell_23 : decode cX7_fell 23 = .ok (.putfield 104, 3) := by decide +kernel
theorem dX7_fell_26 : decode cX7_fell 26 = .ok (.aload_n 0, 1) := by decide +kernel
theorem dX7_fell_27 : decode cX7_fell 27 = .ok (.getfield 16, 3) := by decide +kernel
theorem dX7_fell_30 : decode cX7_fell 30 = .ok (.getfield 104, 3) := by decide +kernel
theorem dX7_fell_33 : decode cX7_fell 33 = .ok (.aload_n 0, 1) := by decide +kernel
theorem dX7_fell_34 : decode cX7_fell 34 = .ok (.getfield 10, 3) := by decide +kernel
theorem dX7_fell_37 : decode cX7_fell 37 = .ok (.getfield 104, 3) := by decide +kernel
theorem dX7_fell_40 : decode cX7_fell 40 = .ok (.if_icmp .le 8, 3) := by decide +kernel
theorem dX7_fell_43 : decode cX7_fell 43 = .ok (.aload_n 0, 1) := by decide +kernel
theorem dX7_fell_44 : decode cX7_fell 44 = .ok (.iconst 0, 1) := by decide +kernel
theorem dX7_fell_45 : decode cX7_fell 45 = .ok (.putfield 161, 3) := by decide +kernel
theorem dX7_fell_48 : decode cX7_fell 48 = .ok (.aload_n 0, 1) := by decide +kernel
theorem dX7_fell_49 : decode cX7_fell 49 = .ok (.getfield 10, 3) := by decide +kernel
theorem dX7_fell_52 : decode cX7_fell 52 = .ok (.getfield 104, 3) := by decide +kernel
theorem dX7_fell_55 : decode cX7_fell 55 = .ok (.ireturn, 1) := by decide +kernel
theorem dX7_strew_0 : decode cX7_strew 0 = .ok (.iload_n 1, 1) := by decide +kernel
theorem dX7_strew_1 : decode cX7_strew 1 = .ok (.invokestatic 123, 3) := by decide +kernel
theorem dX7_strew_4 : decode cX7_strew 4 = .ok (.ifCond .ne 6, 3) := by decide +kernel
theorem dX7_strew_7 : decode cX7_strew 7 = .ok (.bipush (-5), 2) := by decide +kernel
theorem dX7_strew_9 : decode cX7_strew 9 = .ok (.ireturn, 1) := by decide +kernel
theorem dX7_strew_10 : decode cX7_strew 10 = .ok (.iload_n 2, 1) := by decide +kernel
theorem dX7_strew_11 : decode cX7_strew 11 = .ok (.iconst 0, 1) := by decide +kernel
theorem dX7_strew_12 : decode cX7_strew 12 = .ok (.sipush 999, 3) := by decide +kernel
theorem dX7_strew_15 : decode cX7_strew 15 = .ok (.invokestatic 92, 3) := by decide +kernel
theorem dX7_strew_18 : decode cX7_strew 18 = .ok (.ifCond .ne 6, 3) := by decide +kernel
theorem dX7_strew_21 : decode cX7_strew 21 = .ok (.bipush (-7), 2) := by decide +kernel
theorem dX7_strew_23 : decode cX7_strew 23 = .ok (.ireturn, 1) := by decide +kernel
theorem dX7_strew_24 : decode cX7_strew 24 = .ok (.aload_n 0, 1) := by decide +kernel
theorem dX7_strew_25 : decode cX7_strew 25 = .ok (.getfield 10, 3) := by decide +kernel
theorem dX7_strew_28 : decode cX7_strew 28 = .ok (.getfield 146, 3) := by decide +kernel
theorem dX7_strew_31 : decode cX7_strew 31 = .ok (.iload_n 1, 1) := by decide +kernel
theorem dX7_strew_32 : decode cX7_strew 32 = .ok (.iaload, 1) := by decide +kernel
theorem dX7_strew_33 : decode cX7_strew 33 = .ok (.istore_n 3, 1) := by decide +kernel
theorem dX7_strew_34 : decode cX7_strew 34 = .ok (.aload_n 0, 1) := by decide +kernel
theorem dX7_strew_35 : decode cX7_strew 35 = .ok (.getfield 10, 3) := by decide +kernel
theorem dX7_strew_38 : decode cX7_strew 38 = .ok (.getfield 146, 3) := by decide +kernel
theorem dX7_strew_41 : decode cX7_strew 41 = .ok (.iload_n 1, 1) := by decide +kernel
theorem dX7_strew_42 : decode cX7_strew 42 = .ok (.iload_n 2, 1) := by decide +kernel
theorem dX7_strew_43 : decode cX7_strew 43 = .ok (.iastore, 1) := by decide +kernel
theorem dX7_strew_44 : decode cX7_strew 44 = .ok (.iload_n 3, 1) := by decide +kernel
theorem dX7_strew_45 : decode cX7_strew 45 = .ok (.ireturn, 1) := by decide +kernel
theorem dX7_rake_0 : decode cX7_rake 0 = .ok (.iload_n 1, 1) := by decide +kernel
theorem dX7_rake_1 : decode cX7_rake 1 = .ok (.iconst 0, 1) := by decide +kernel
theorem dX7_rake_2 : decode cX7_rake 2 = .ok (.sipush 16383, 3) := by decide +kernel
theorem dX7_rake_5 : decode cX7_rake 5 = .ok (.invokestatic 92, 3) := by decide +kernel
theorem dX7_rake_8 : decode cX7_rake 8 = .ok (.ifCond .ne 6, 3) := by decide +kernel
theorem dX7_rake_11 : decode cX7_rake 11 = .ok (.bipush (-2), 2) := by decide +kernel
theorem dX7_rake_13 : decode cX7_rake 13 = .ok (.ireturn, 1) := by decide +kernel
theorem dX7_rake_14 : decode cX7_rake 14 = .ok (.aload_n 0, 1) := by decide +kernel
theorem dX7_rake_15 : decode cX7_rake 15 = .ok (.getfield 10, 3) := by decide +kernel
theorem dX7_rake_18 : decode cX7_rake 18 = .ok (.getfield 107, 3) := by decide +kernel
theorem dX7_rake_21 : decode cX7_rake 21 = .ok (.istore_n 2, 1) := by decide +kernel
theorem dX7_rake_22 : decode cX7_rake 22 = .ok (.aload_n 0, 1) := by decide +kernel
theorem dX7_rake_23 : decode cX7_rake 23 = .ok (.getfield 10, 3) := by decide +kernel
theorem dX7_rake_26 : decode cX7_rake 26 = .ok (.iload_n 1, 1) := by decide +kernel
theorem dX7_rake_27 : decode cX7_rake 27 = .ok (.putfield 107, 3) := by decide +kernel
theorem dX7_rake_30 : decode cX7_rake 30 = .ok (.iload_n 2, 1) := by decide +kernel
theorem dX7_rake_31 : decode cX7_rake 31 = .ok (.ireturn, 1) := by decide +kernel
theorem dX7_heap_0 : decode cX7_heap 0 = .ok (.lload_n 1, 1) := by decide +kernel
theorem dX7_heap_1 : decode cX7_heap 1 = .ok (.lconst 1, 1) := by decide +kernel
theorem dX7_heap_2 : decode cX7_heap 2 = .ok (.lcmp, 1) := by decide +kernel
theorem dX7_heap_3 : decode cX7_heap 3 = .ok (.ifCond .lt 11, 3) := by decide +kernel
theorem dX7_heap_6 : decode cX7_heap 6 = .ok (.lload_n 1, 1) := by decide +kernel
theorem dX7_heap_7 : decode cX7_heap 7 = .ok (.ldc2_w 165, 3) := by decide +kernel
theorem dX7_heap_10 : decode cX7_heap 10 = .ok (.lcmp, 1) := by decide +kernel
theorem dX7_heap_11 : decode cX7_heap 11 = .ok (.ifCond .lt 7, 3) := by decide +kernel
theorem dX7_heap_14 : decode cX7_heap 14 = .ok (.ldc2_w 167, 3) := by decide +kernel
theorem dX7_heap_17 : decode cX7_heap 17 = .ok (.lreturn, 1) := by decide +kernel
theorem dX7_heap_18 : decode cX7_heap 18 = .ok (.aload_n 0, 1) := by decide +kernel
theorem dX7_heap_19 : decode cX7_heap 19 = .ok (.getfield 10, 3) := by decide +kernel
theorem dX7_heap_22 : decode cX7_heap 22 = .ok (.getfield 169, 3) := by decide +kernel
theorem dX7_heap_25 : decode cX7_heap 25 = .ok (.lstore_n 3, 1) := by decide +kernel
theorem dX7_heap_26 : decode cX7_heap 26 = .ok (.aload_n 0, 1) := by decide +kernel
theorem dX7_heap_27 : decode cX7_heap 27 = .ok (.getfield 10, 3) := by decide +kernel
theorem dX7_heap_30 : decode cX7_heap 30 = .ok (.lload_n 1, 1) := by decide +kernel
theorem dX7_heap_31 : decode cX7_heap 31 = .ok (.putfield 169, 3) := by decide +kernel
theorem dX7_heap_34 : decode cX7_heap 34 = .ok (.lload_n 3, 1) := by decide +kernel
theorem dX7_heap_35 : decode cX7_heap 35 = .ok (.lreturn, 1) := by decide +kernel
theorem dX7_lie_0 : decode cX7_lie 0 = .ok (.iload_n 1, 1) := by decide +kernel
theorem dX7_lie_1 : decode cX7_lie 1 = .ok (.invokestatic 173, 3) := by decide +kernel
theorem dX7_lie_4 : decode cX7_lie 4 = .ok (.ifCond .eq 10, 3) := by decide +kernel
theorem dX7_lie_7 : decode cX7_lie 7 = .ok (.iload_n 2, 1) := by decide +kernel
theorem dX7_lie_8 : decode cX7_lie 8 = .ok (.invokestatic 123, 3) := by decide +kernel
theorem dX7_lie_11 : decode cX7_lie 11 = .ok (.ifCond .ne 6, 3) := by decide +kernel
theorem dX7_lie_14 : decode cX7_lie 14 = .ok (.bipush (-5), 2) := by decide +kernel
theorem dX7_lie_16 : decode cX7_lie 16 = .ok (.ireturn, 1) := by decide +kernel
theorem dX7_lie_17 : decode cX7_lie 17 = .ok (.iload_n 3, 1) := by decide +kernel
theorem dX7_lie_18 : decode cX7_lie 18 = .ok (.iconst 0, 1) := by decide +kernel
theorem dX7_lie_19 : decode cX7_lie 19 = .ok (.iconst 2, 1) := by decide +kernel
theorem dX7_lie_20 : decode cX7_lie 20 = .ok (.invokestatic 92, 3) := by decide +kernel
theorem dX7_lie_23 : decode cX7_lie 23 = .ok (.ifCond .ne 6, 3) := by decide +kernel
theorem dX7_lie_26 : decode cX7_lie 26 = .ok (.bipush (-7), 2) := by decide +kernel
theorem dX7_lie_28 : decode cX7_lie 28 = .ok (.ireturn, 1) := by decide +kernel
theorem dX7_lie_29 : decode cX7_lie 29 = .ok (.aload_n 0, 1) := by decide +kernel
theorem dX7_lie_30 : decode cX7_lie 30 = .ok (.aload_n 0, 1) := by decide +kernel
theorem dX7_lie_31 : decode cX7_lie 31 = .ok (.getfield 10, 3) := by decide +kernel
theorem dX7_lie_34 : decode cX7_lie 34 = .ok (.iload_n 1, 1) := by decide +kernel
theorem dX7_lie_35 : decode cX7_lie 35 = .ok (.invokevirtual 176, 3) := by decide +kernel
theorem dX7_lie_38 : decode cX7_lie 38 = .ok (.iload_n 3, 1) := by decide +kernel
theorem dX7_lie_39 : decode cX7_lie 39 = .ok (.iconst 2, 1) := by decide +kernel
theorem dX7_lie_40 : decode cX7_lie 40 = .ok (.if_icmp .ne 15, 3) := by decide +kernel
theorem dX7_lie_43 : decode cX7_lie 43 = .ok (.aload_n 0, 1) := by decide +kernel
theorem dX7_lie_44 : decode cX7_lie 44 = .ok (.getfield 25, 3) := by decide +kernel
theorem dX7_lie_47 : decode cX7_lie 47 = .ok (.getfield 180, 3) := by decide +kernel
theorem dX7_lie_50 : decode cX7_lie 50 = .ok (.iload_n 2, 1) := by decide +kernel
theorem dX7_lie_51 : decode cX7_lie 51 = .ok (.iaload, 1) := by decide +kernel
theorem dX7_lie_52 : decode cX7_lie 52 = .ok (.goto 22, 3) := by decide +kernel
theorem dX7_lie_55 : decode cX7_lie 55 = .ok (.aload_n 0, 1) := by decide +kernel
theorem dX7_lie_56 : decode cX7_lie 56 = .ok (.getfield 25, 3) := by decide +kernel
theorem dX7_lie_59 : decode cX7_lie 59 = .ok (.getfield 183, 3) := by decide +kernel
theorem dX7_lie_62 : decode cX7_lie 62 = .ok (.iload_n 3, 1) := by decide +kernel
theorem dX7_lie_63 : decode cX7_lie 63 = .ok (.ifCond .ne 7, 3) := by decide +kernel
theorem dX7_lie_66 : decode cX7_lie 66 = .ok (.iconst 0, 1) := by decide +kernel
theorem dX7_lie_67 : decode cX7_lie 67 = .ok (.goto 4, 3) := by decide +kernel
theorem dX7_lie_70 : decode cX7_lie 70 = .ok (.iconst 1, 1) := by decide +kernel
theorem dX7_lie_71 : decode cX7_lie 71 = .ok (.aaload, 1) := by decide +kernel
theorem dX7_lie_72 : decode cX7_lie 72 = .ok (.iload_n 2, 1) := by decide +kernel
theorem dX7_lie_73 : decode cX7_lie 73 = .ok (.iaload, 1) := by decide +kernel
theorem dX7_lie_74 : decode cX7_lie 74 = .ok (.ireturn, 1) := by decide +kernel
theorem dX7_sum_0 : decode cX7_sum 0 = .ok (.iload_n 1, 1) := by decide +kernel
theorem dX7_sum_1 : decode cX7_sum 1 = .ok (.invokestatic 173, 3) := by decide +kernel
theorem dX7_sum_4 : decode cX7_sum 4 = .ok (.ifCond .ne 6, 3) := by decide +kernel
theorem dX7_sum_7 : decode cX7_sum 7 = .ok (.bipush (-5), 2) := by decide +kernel
theorem dX7_sum_9 : decode cX7_sum 9 = .ok (.ireturn, 1) := by decide +kernel
theorem dX7_sum_10 : decode cX7_sum 10 = .ok (.iload_n 2, 1) := by decide +kernel
theorem dX7_sum_11 : decode cX7_sum 11 = .ok (.iconst 0, 1) := by decide +kernel
theorem dX7_sum_12 : decode cX7_sum 12 = .ok (.bipush 8, 2) := by decide +kernel
theorem dX7_sum_14 : decode cX7_sum 14 = .ok (.invokestatic 92, 3) := by decide +kernel
theorem dX7_sum_17 : decode cX7_sum 17 = .ok (.ifCond .ne 6, 3) := by decide +kernel
theorem dX7_sum_20 : decode cX7_sum 20 = .ok (.bipush (-7), 2) := by decide +kernel
theorem dX7_sum_22 : decode cX7_sum 22 = .ok (.ireturn, 1) := by decide +kernel
theorem dX7_sum_23 : decode cX7_sum 23 = .ok (.aload_n 0, 1) := by decide +kernel
theorem dX7_sum_24 : decode cX7_sum 24 = .ok (.aload_n 0, 1) := by decide +kernel
theorem dX7_sum_25 : decode cX7_sum 25 = .ok (.getfield 10, 3) := by decide +kernel
theorem dX7_sum_28 : decode cX7_sum 28 = .ok (.iload_n 1, 1) := by decide +kernel
theorem dX7_sum_29 : decode cX7_sum 29 = .ok (.invokevirtual 176, 3) := by decide +kernel
theorem dX7_sum_32 : decode cX7_sum 32 = .ok (.aload_n 0, 1) := by decide +kernel
theorem dX7_sum_33 : decode cX7_sum 33 = .ok (.getfield 25, 3) := by decide +kernel
theorem dX7_sum_36 : decode cX7_sum 36 = .ok (.iload_n 2, 1) := by decide +kernel
theorem dX7_sum_37 : decode cX7_sum 37 = .ok (.invokevirtual 186, 3) := by decide +kernel
theorem dX7_sum_40 : decode cX7_sum 40 = .ok (.ireturn, 1) := by decide +kernel
theorem dX7_hang_0 : decode cX7_hang 0 = .ok (.iload_n 1, 1) := by decide +kernel
theorem dX7_hang_1 : decode cX7_hang 1 = .ok (.invokestatic 173, 3) := by decide +kernel
theorem dX7_hang_4 : decode cX7_hang 4 = .ok (.ifCond .eq 11, 3) := by decide +kernel
theorem dX7_hang_7 : decode cX7_hang 7 = .ok (.aload_n 0, 1) := by decide +kernel
theorem dX7_hang_8 : decode cX7_hang 8 = .ok (.iload_n 2, 1) := by decide +kernel
theorem dX7_hang_9 : decode cX7_hang 9 = .ok (.invokevirtual 158, 3) := by decide +kernel
theorem dX7_hang_12 : decode cX7_hang 12 = .ok (.ifCond .ne 6, 3) := by decide +kernel
theorem dX7_hang_15 : decode cX7_hang 15 = .ok (.bipush (-5), 2) := by decide +kernel
theorem dX7_hang_17 : decode cX7_hang 17 = .ok (.ireturn, 1) := by decide +kernel
theorem dX7_hang_18 : decode cX7_hang 18 = .ok (.aload_n 0, 1) := by decide +kernel
theorem dX7_hang_19 : decode cX7_hang 19 = .ok (.aload_n 0, 1) := by decide +kernel
theorem dX7_hang_20 : decode cX7_hang 20 = .ok (.getfield 10, 3) := by decide +kernel
theorem dX7_hang_23 : decode cX7_hang 23 = .ok (.iload_n 1, 1) := by decide +kernel
theorem dX7_hang_24 : decode cX7_hang 24 = .ok (.invokevirtual 176, 3) := by decide +kernel
theorem dX7_hang_27 : decode cX7_hang 27 = .ok (.aload_n 0, 1) := by decide +kernel
theorem dX7_hang_28 : decode cX7_hang 28 = .ok (.getfield 25, 3) := by decide +kernel
theorem dX7_hang_31 : decode cX7_hang 31 = .ok (.getfield 189, 3) := by decide +kernel
theorem dX7_hang_34 : decode cX7_hang 34 = .ok (.iload_n 2, 1) := by decide +kernel
theorem dX7_hang_35 : decode cX7_hang 35 = .ok (.iaload, 1) := by decide +kernel
theorem dX7_hang_36 : decode cX7_hang 36 = .ok (.ireturn, 1) := by decide +kernel
theorem dX7_great_0 : decode cX7_great 0 = .ok (.iload_n 1, 1) := by decide +kernel
theorem dX7_great_1 : decode cX7_great 1 = .ok (.invokestatic 192, 3) := by decide +kernel
theorem dX7_great_4 : decode cX7_great 4 = .ok (.ifCond .ne 6, 3) := by decide +kernel
theorem dX7_great_7 : decode cX7_great 7 = .ok (.bipush (-2), 2) := by decide +kernel
theorem dX7_great_9 : decode cX7_great 9 = .ok (.ireturn, 1) := by decide +kernel
theorem dX7_great_10 : decode cX7_great 10 = .ok (.aload_n 0, 1) := by decide +kernel
theorem dX7_great_11 : decode cX7_great 11 = .ok (.aload_n 0, 1) := by decide +kernel
theorem dX7_great_12 : decode cX7_great 12 = .ok (.getfield 10, 3) := by decide +kernel
theorem dX7_great_15 : decode cX7_great 15 = .ok (.bipush 14, 2) := by decide +kernel
theorem dX7_great_17 : decode cX7_great 17 = .ok (.invokevirtual 176, 3) := by decide +kernel
theorem dX7_great_20 : decode cX7_great 20 = .ok (.iload_n 1, 1) := by decide +kernel
theorem dX7_great_21 : decode cX7_great 21 = .ok (.ifCond .ne 17, 3) := by decide +kernel
theorem dX7_great_24 : decode cX7_great 24 = .ok (.aload_n 0, 1) := by decide +kernel
theorem dX7_great_25 : decode cX7_great 25 = .ok (.getfield 25, 3) := by decide +kernel
theorem dX7_great_28 : decode cX7_great 28 = .ok (.bipush 14, 2) := by decide +kernel
theorem dX7_great_30 : decode cX7_great 30 = .ok (.invokevirtual 195, 3) := by decide +kernel
theorem dX7_great_33 : decode cX7_great 33 = .ok (.ifCond .ne 5, 3) := by decide +kernel
theorem dX7_great_36 : decode cX7_great 36 = .ok (.iconst (-1), 1) := by decide +kernel
theorem dX7_great_37 : decode cX7_great 37 = .ok (.ireturn, 1) := by decide +kernel
theorem dX7_great_38 : decode cX7_great 38 = .ok (.aload_n 0, 1) := by decide +kernel
theorem dX7_great_39 : decode cX7_great 39 = .ok (.getfield 25, 3) := by decide +kernel
theorem dX7_great_42 : decode cX7_great 42 = .ok (.getfield 198, 3) := by decide +kernel
theorem dX7_great_45 : decode cX7_great 45 = .ok (.bipush 14, 2) := by decide +kernel
theorem dX7_great_47 : decode cX7_great 47 = .ok (.iload_n 1, 1) := by decide +kernel
theorem dX7_great_48 : decode cX7_great 48 = .ok (.invokestatic 201, 3) := by decide +kernel
theorem dX7_great_51 : decode cX7_great 51 = .ok (.ireturn, 1) := by decide +kernel
theorem dX7_worst_0 : decode cX7_worst 0 = .ok (.iload_n 1, 1) := by decide +kernel
theorem dX7_worst_1 : decode cX7_worst 1 = .ok (.invokestatic 173, 3) := by decide +kernel
theorem dX7_worst_4 : decode cX7_worst 4 = .ok (.ifCond .ne 6, 3) := by decide +kernel
theorem dX7_worst_7 : decode cX7_worst 7 = .ok (.bipush (-5), 2) := by decide +kernel
theorem dX7_worst_9 : decode cX7_worst 9 = .ok (.ireturn, 1) := by decide +kernel
theorem dX7_worst_10 : decode cX7_worst 10 = .ok (.iload_n 2, 1) := by decide +kernel
theorem dX7_worst_11 : decode cX7_worst 11 = .ok (.invokestatic 192, 3) := by decide +kernel
theorem dX7_worst_14 : decode cX7_worst 14 = .ok (.ifCond .ne 6, 3) := by decide +kernel
theorem dX7_worst_17 : decode cX7_worst 17 = .ok (.bipush (-7), 2) := by decide +kernel
theorem dX7_worst_19 : decode cX7_worst 19 = .ok (.ireturn, 1) := by decide +kernel
theorem dX7_worst_20 : decode cX7_worst 20 = .ok (.aload_n 0, 1) := by decide +kernel
theorem dX7_worst_21 : decode cX7_worst 21 = .ok (.aload_n 0, 1) := by decide +kernel
theorem dX7_worst_22 : decode cX7_worst 22 = .ok (.getfield 10, 3) := by decide +kernel
theorem dX7_worst_25 : decode cX7_worst 25 = .ok (.iload_n 1, 1) := by decide +kernel
theorem dX7_worst_26 : decode cX7_worst 26 = .ok (.invokevirtual 176, 3) := by decide +kernel
theorem dX7_worst_29 : decode cX7_worst 29 = .ok (.aload_n 0, 1) := by decide +kernel
theorem dX7_worst_30 : decode cX7_worst 30 = .ok (.getfield 25, 3) := by decide +kernel
theorem dX7_worst_33 : decode cX7_worst 33 = .ok (.getfield 180, 3) := by decide +kernel
theorem dX7_worst_36 : decode cX7_worst 36 = .ok (.bipush 36, 2) := by decide +kernel
theorem dX7_worst_38 : decode cX7_worst 38 = .ok (.iload_n 2, 1) := by decide +kernel
theorem dX7_worst_39 : decode cX7_worst 39 = .ok (.invokestatic 201, 3) := by decide +kernel
theorem dX7_worst_42 : decode cX7_worst 42 = .ok (.ireturn, 1) := by decide +kernel
theorem dX7_corner_0 : decode cX7_corner 0 = .ok (.iload_n 1, 1) := by decide +kernel
theorem dX7_corner_1 : decode cX7_corner 1 = .ok (.invokestatic 173, 3) := by decide +kernel
theorem dX7_corner_4 : decode cX7_corner 4 = .ok (.ifCond .ne 6, 3) := by decide +kernel
theorem dX7_corner_7 : decode cX7_corner 7 = .ok (.bipush (-5), 2) := by decide +kernel
theorem dX7_corner_9 : decode cX7_corner 9 = .ok (.ireturn, 1) := by decide +kernel
theorem dX7_corner_10 : decode cX7_corner 10 = .ok (.iload_n 2, 1) := by decide +kernel
theorem dX7_corner_11 : decode cX7_corner 11 = .ok (.invokestatic 192, 3) := by decide +kernel
theorem dX7_corner_14 : decode cX7_corner 14 = .ok (.ifCond .ne 6, 3) := by decide +kernel
theorem dX7_corner_17 : decode cX7_corner 17 = .ok (.bipush (-7), 2) := by decide +kernel
theorem dX7_corner_19 : decode cX7_corner 19 = .ok (.ireturn, 1) := by decide +kernel
theorem dX7_corner_20 : decode cX7_corner 20 = .ok (.aload_n 0, 1) := by decide +kernel
theorem dX7_corner_21 : decode cX7_corner 21 = .ok (.aload_n 0, 1) := by decide +kernel
theorem dX7_corner_22 : decode cX7_corner 22 = .ok (.getfield 10, 3) := by decide +kernel
theorem dX7_corner_25 : decode cX7_corner 25 = .ok (.iload_n 1, 1) := by decide +kernel
theorem dX7_corner_26 : decode cX7_corner 26 = .ok (.invokevirtual 176, 3) := by decide +kernel
theorem dX7_corner_29 : decode cX7_corner 29 = .ok (.aload_n 0, 1) := by decide +kernel
theorem dX7_corner_30 : decode cX7_corner 30 = .ok (.getfield 25, 3) := by decide +kernel
theorem dX7_corner_33 : decode cX7_corner 33 = .ok (.aload_n 0, 1) := by decide +kernel
theorem dX7_corner_34 : decode cX7_corner 34 = .ok (.getfield 59, 3) := by decide +kernel
theorem dX7_corner_37 : decode cX7_corner 37 = .ok (.invokevirtual 205, 3) := by decide +kernel
theorem dX7_corner_40 : decode cX7_corner 40 = .ok (.aload_n 0, 1) := by decide +kernel
theorem dX7_corner_41 : decode cX7_corner 41 = .ok (.getfield 59, 3) := by decide +kernel
theorem dX7_corner_44 : decode cX7_corner 44 = .ok (.bipush 36, 2) := by decide +kernel
theorem dX7_corner_46 : decode cX7_corner 46 = .ok (.iload_n 2, 1) := by decide +kernel
theorem dX7_corner_47 : decode cX7_corner 47 = .ok (.invokestatic 201, 3) := by decide +kernel
theorem dX7_corner_50 : decode cX7_corner 50 = .ok (.ireturn, 1) := by decide +kernel
theorem dX7_least_0 : decode cX7_least 0 = .ok (.iload_n 1, 1) := by decide +kernel
theorem dX7_least_1 : decode cX7_least 1 = .ok (.iconst 0, 1) := by decide +kernel
theorem dX7_least_2 : decode cX7_least 2 = .ok (.bipush 14, 2) := by decide +kernel
theorem dX7_least_4 : decode cX7_least 4 = .ok (.invokestatic 92, 3) := by decide +kernel
theorem dX7_least_7 : decode cX7_least 7 = .ok (.ifCond .eq 10, 3) := by decide +kernel
theorem dX7_least_10 : decode cX7_least 10 = .ok (.iload_n 2, 1) := by decide +kernel
theorem dX7_least_11 : decode cX7_least 11 = .ok (.invokestatic 192, 3) := by decide +kernel
theorem dX7_least_14 : decode cX7_least 14 = .ok (.ifCond .ne 6, 3) := by decide +kernel
theorem dX7_least_17 : decode cX7_least 17 = .ok (.bipush (-2), 2) := by decide +kernel
theorem dX7_least_19 : decode cX7_least 19 = .ok (.ireturn, 1) := by decide +kernel
theorem dX7_least_20 : decode cX7_least 20 = .ok (.iconst (-1), 1) := by decide +kernel
theorem dX7_least_21 : decode cX7_least 21 = .ok (.istore_n 3, 1) := by decide +kernel
theorem dX7_least_22 : decode cX7_least 22 = .ok (.iconst (-1), 1) := by decide +kernel
theorem dX7_least_23 : decode cX7_least 23 = .ok (.istore 4, 2) := by decide +kernel
theorem dX7_least_25 : decode cX7_least 25 = .ok (.aload_n 0, 1) := by decide +kernel
theorem dX7_least_26 : decode cX7_least 26 = .ok (.getfield 19, 3) := by decide +kernel
theorem dX7_least_29 : decode cX7_least 29 = .ok (.aload_n 0, 1) := by decide +kernel
theorem dX7_least_30 : decode cX7_least 30 = .ok (.getfield 10, 3) := by decide +kernel
theorem dX7_least_33 : decode cX7_least 33 = .ok (.invokevirtual 209, 3) := by decide +kernel
theorem dX7_least_36 : decode cX7_least 36 = .ok (.iconst 0, 1) := by decide +kernel
theorem dX7_least_37 : decode cX7_least 37 = .ok (.istore 5, 2) := by decide +kernel
theorem dX7_least_39 : decode cX7_least 39 = .ok (.iload 5, 2) := by decide +kernel
theorem dX7_least_41 : decode cX7_least 41 = .ok (.bipush 16, 2) := by decide +kernel
theorem dX7_least_43 : decode cX7_least 43 = .ok (.if_icmp .ge 94, 3) := by decide +kernel
theorem dX7_least_46 : decode cX7_least 46 = .ok (.aload_n 0, 1) := by decide +kernel
theorem dX7_least_47 : decode cX7_least 47 = .ok (.getfield 19, 3) := by decide +kernel
theorem dX7_least_50 : decode cX7_least 50 = .ok (.iload 5, 2) := by decide +kernel
theorem dX7_least_52 : decode cX7_least 52 = .ok (.invokestatic 213, 3) := by decide +kernel
theorem dX7_least_55 : decode cX7_least 55 = .ok (.putfield 107, 3) := by decide +kernel
theorem dX7_least_58 : decode cX7_least 58 = .ok (.aload_n 0, 1) := by decide +kernel
theorem dX7_least_59 : decode cX7_least 59 = .ok (.aload_n 0, 1) := by decide +kernel
theorem dX7_least_60 : decode cX7_least 60 = .ok (.getfield 19, 3) := by decide +kernel
theorem dX7_least_63 : decode cX7_least 63 = .ok (.bipush 14, 2) := by decide +kernel
theorem dX7_least_65 : decode cX7_least 65 = .ok (.invokevirtual 176, 3) := by decide +kernel
theorem dX7_least_68 : decode cX7_least 68 = .ok (.aload_n 0, 1) := by decide +kernel
theorem dX7_least_69 : decode cX7_least 69 = .ok (.getfield 25, 3) := by decide +kernel
theorem dX7_least_72 : decode cX7_least 72 = .ok (.getfield 180, 3) := by decide +kernel
theorem dX7_least_75 : decode cX7_least 75 = .ok (.bipush 36, 2) := by decide +kernel
theorem dX7_least_77 : decode cX7_least 77 = .ok (.iconst 1, 1) := by decide +kernel
theorem dX7_least_78 : decode cX7_least 78 = .ok (.invokestatic 201, 3) := by decide +kernel
theorem dX7_least_81 : decode cX7_least 81 = .ok (.iload_n 1, 1) := by decide +kernel
theorem dX7_least_82 : decode cX7_least 82 = .ok (.if_icmp .gt 7, 3) := by decide +kernel
theorem dX7_least_85 : decode cX7_least 85 = .ok (.iconst 1, 1) := by decide +kernel
theorem dX7_least_86 : decode cX7_least 86 = .ok (.goto 4, 3) := by decide +kernel
theorem dX7_least_89 : decode cX7_least 89 = .ok (.iconst 0, 1) := by decide +kernel
theorem dX7_least_90 : decode cX7_least 90 = .ok (.istore 6, 2) := by decide +kernel
theorem dX7_least_92 : decode cX7_least 92 = .ok (.iload 6, 2) := by decide +kernel
theorem dX7_least_94 : decode cX7_least 94 = .ok (.ifCond .eq 37, 3) := by decide +kernel
theorem dX7_least_97 : decode cX7_least 97 = .ok (.iload_n 3, 1) := by decide +kernel
theorem dX7_least_98 : decode cX7_least 98 = .ok (.iconst (-1), 1) := by decide +kernel
theorem dX7_least_99 : decode cX7_least 99 = .ok (.if_icmp .eq 15, 3) := by decide +kernel
theorem dX7_least_102 : decode cX7_least 102 = .ok (.aload_n 0, 1) := by decide +kernel
theorem dX7_least_103 : decode cX7_least 103 = .ok (.getfield 25, 3) := by decide +kernel
theorem dX7_least_106 : decode cX7_least 106 = .ok (.getfield 216, 3) := by decide +kernel
theorem dX7_least_109 : decode cX7_least 109 = .ok (.iload 4, 2) := by decide +kernel
theorem dX7_least_111 : decode cX7_least 111 = .ok (.if_icmp .ge 20, 3) := by decide +kernel
theorem dX7_least_114 : decode cX7_least 114 = .ok (.aload_n 0, 1) := by decide +kernel
theorem dX7_least_115 : decode cX7_least 115 = .ok (.getfield 19, 3) := by decide +kernel
theorem dX7_least_118 : decode cX7_least 118 = .ok (.getfield 107, 3) := by decide +kernel
theorem dX7_least_121 : decode cX7_least 121 = .ok (.istore_n 3, 1) := by decide +kernel
theorem dX7_least_122 : decode cX7_least 122 = .ok (.aload_n 0, 1) := by decide +kernel
theorem dX7_least_123 : decode cX7_least 123 = .ok (.getfield 25, 3) := by decide +kernel
theorem dX7_least_126 : decode cX7_least 126 = .ok (.getfield 216, 3) := by decide +kernel
theorem dX7_least_129 : decode cX7_least 129 = .ok (.istore 4, 2) := by decide +kernel
theorem dX7_least_131 : decode cX7_least 131 = .ok (.iinc 5 1, 3) := by decide +kernel
theorem dX7_least_134 : decode cX7_least 134 = .ok (.goto (-95), 3) := by decide +kernel
theorem dX7_least_137 : decode cX7_least 137 = .ok (.iload_n 2, 1) := by decide +kernel
theorem dX7_least_138 : decode cX7_least 138 = .ok (.ifCond .ne 7, 3) := by decide +kernel
theorem dX7_least_141 : decode cX7_least 141 = .ok (.iload_n 3, 1) := by decide +kernel
theorem dX7_least_142 : decode cX7_least 142 = .ok (.goto 5, 3) := by decide +kernel
theorem dX7_least_145 : decode cX7_least 145 = .ok (.iload 4, 2) := by decide +kernel
theorem dX7_least_147 : decode cX7_least 147 = .ok (.ireturn, 1) := by decide +kernel
theorem dX7_thrice_0 : decode cX7_thrice 0 = .ok (.aload_n 0, 1) := by decide +kernel
theorem dX7_thrice_1 : decode cX7_thrice 1 = .ok (.getfield 19, 3) := by decide +kernel
theorem dX7_thrice_4 : decode cX7_thrice 4 = .ok (.aload_n 0, 1) := by decide +kernel
theorem dX7_thrice_5 : decode cX7_thrice 5 = .ok (.getfield 10, 3) := by decide +kernel
theorem dX7_thrice_8 : decode cX7_thrice 8 = .ok (.invokevirtual 209, 3) := by decide +kernel
theorem dX7_thrice_11 : decode cX7_thrice 11 = .ok (.aload_n 0, 1) := by decide +kernel
theorem dX7_thrice_12 : decode cX7_thrice 12 = .ok (.getfield 19, 3) := by decide +kernel
theorem dX7_thrice_15 : decode cX7_thrice 15 = .ok (.sipush 8720, 3) := by decide +kernel
theorem dX7_thrice_18 : decode cX7_thrice 18 = .ok (.putfield 107, 3) := by decide +kernel
theorem dX7_thrice_21 : decode cX7_thrice 21 = .ok (.aload_n 0, 1) := by decide +kernel
theorem dX7_thrice_22 : decode cX7_thrice 22 = .ok (.aload_n 0, 1) := by decide +kernel
theorem dX7_thrice_23 : decode cX7_thrice 23 = .ok (.getfield 19, 3) := by decide +kernel
theorem dX7_thrice_26 : decode cX7_thrice 26 = .ok (.bipush 14, 2) := by decide +kernel
theorem dX7_thrice_28 : decode cX7_thrice 28 = .ok (.invokevirtual 176, 3) := by decide +kernel
theorem dX7_thrice_31 : decode cX7_thrice 31 = .ok (.aload_n 0, 1) := by decide +kernel
theorem dX7_thrice_32 : decode cX7_thrice 32 = .ok (.getfield 25, 3) := by decide +kernel
theorem dX7_thrice_35 : decode cX7_thrice 35 = .ok (.getfield 216, 3) := by decide +kernel
theorem dX7_thrice_38 : decode cX7_thrice 38 = .ok (.istore_n 1, 1) := by decide +kernel
theorem dX7_thrice_39 : decode cX7_thrice 39 = .ok (.aload_n 0, 1) := by decide +kernel
theorem dX7_thrice_40 : decode cX7_thrice 40 = .ok (.getfield 19, 3) := by decide +kernel
theorem dX7_thrice_43 : decode cX7_thrice 43 = .ok (.sipush 8192, 3) := by decide +kernel
theorem dX7_thrice_46 : decode cX7_thrice 46 = .ok (.putfield 107, 3) := by decide +kernel
theorem dX7_thrice_49 : decode cX7_thrice 49 = .ok (.aload_n 0, 1) := by decide +kernel
theorem dX7_thrice_50 : decode cX7_thrice 50 = .ok (.aload_n 0, 1) := by decide +kernel
theorem dX7_thrice_51 : decode cX7_thrice 51 = .ok (.getfield 19, 3) := by decide +kernel
theorem dX7_thrice_54 : decode cX7_thrice 54 = .ok (.bipush 14, 2) := by decide +kernel
theorem dX7_thrice_56 : decode cX7_thrice 56 = .ok (.invokevirtual 176, 3) := by decide +kernel
theorem dX7_thrice_59 : decode cX7_thrice 59 = .ok (.iload_n 1, 1) := by decide +kernel
theorem dX7_thrice_60 : decode cX7_thrice 60 = .ok (.aload_n 0, 1) := by decide +kernel
theorem dX7_thrice_61 : decode cX7_thrice 61 = .ok (.getfield 25, 3) := by decide +kernel
theorem dX7_thrice_64 : decode cX7_thrice 64 = .ok (.getfield 216, 3) := by decide +kernel
theorem dX7_thrice_67 : decode cX7_thrice 67 = .ok (.isub, 1) := by decide +kernel
theorem dX7_thrice_68 : decode cX7_thrice 68 = .ok (.ireturn, 1) := by decide +kernel
theorem dX7_where_0 : decode cX7_where 0 = .ok (.iload_n 1, 1) := by decide +kernel
theorem dX7_where_1 : decode cX7_where 1 = .ok (.invokestatic 173, 3) := by decide +kernel
theorem dX7_where_4 : decode cX7_where 4 = .ok (.ifCond .ne 6, 3) := by decide +kernel
theorem dX7_where_7 : decode cX7_where 7 = .ok (.bipush (-5), 2) := by decide +kernel
theorem dX7_where_9 : decode cX7_where 9 = .ok (.ireturn, 1) := by decide +kernel
theorem dX7_where_10 : decode cX7_where 10 = .ok (.iload_n 2, 1) := by decide +kernel
theorem dX7_where_11 : decode cX7_where 11 = .ok (.iconst 0, 1) := by decide +kernel
theorem dX7_where_12 : decode cX7_where 12 = .ok (.iconst 3, 1) := by decide +kernel
theorem dX7_where_13 : decode cX7_where 13 = .ok (.invokestatic 92, 3) := by decide +kernel
theorem dX7_where_16 : decode cX7_where 16 = .ok (.ifCond .ne 6, 3) := by decide +kernel
theorem dX7_where_19 : decode cX7_where 19 = .ok (.bipush (-7), 2) := by decide +kernel
theorem dX7_where_21 : decode cX7_where 21 = .ok (.ireturn, 1) := by decide +kernel
theorem dX7_where_22 : decode cX7_where 22 = .ok (.aload_n 0, 1) := by decide +kernel
theorem dX7_where_23 : decode cX7_where 23 = .ok (.aload_n 0, 1) := by decide +kernel
theorem dX7_where_24 : decode cX7_where 24 = .ok (.getfield 10, 3) := by decide +kernel
theorem dX7_where_27 : decode cX7_where 27 = .ok (.iload_n 1, 1) := by decide +kernel
theorem dX7_where_28 : decode cX7_where 28 = .ok (.invokevirtual 176, 3) := by decide +kernel
theorem dX7_where_31 : decode cX7_where 31 = .ok (.iload_n 2, 1) := by decide +kernel
theorem dX7_where_32 : decode cX7_where 32 = .ok (.iconst 2, 1) := by decide +kernel
theorem dX7_where_33 : decode cX7_where 33 = .ok (.if_icmp .ge 11, 3) := by decide +kernel
theorem dX7_where_36 : decode cX7_where 36 = .ok (.aload_n 0, 1) := by decide +kernel
theorem dX7_where_37 : decode cX7_where 37 = .ok (.iload_n 2, 1) := by decide +kernel
theorem dX7_where_38 : decode cX7_where 38 = .ok (.invokevirtual 219, 3) := by decide +kernel
theorem dX7_where_41 : decode cX7_where 41 = .ok (.goto 10, 3) := by decide +kernel
theorem dX7_where_44 : decode cX7_where 44 = .ok (.aload_n 0, 1) := by decide +kernel
theorem dX7_where_45 : decode cX7_where 45 = .ok (.iload_n 2, 1) := by decide +kernel
theorem dX7_where_46 : decode cX7_where 46 = .ok (.iconst 2, 1) := by decide +kernel
theorem dX7_where_47 : decode cX7_where 47 = .ok (.isub, 1) := by decide +kernel
theorem dX7_where_48 : decode cX7_where 48 = .ok (.invokevirtual 222, 3) := by decide +kernel
theorem dX7_where_51 : decode cX7_where 51 = .ok (.ireturn, 1) := by decide +kernel
theorem dX7_raking_0 : decode cX7_raking 0 = .ok (.iload_n 1, 1) := by decide +kernel
theorem dX7_raking_1 : decode cX7_raking 1 = .ok (.invokestatic 173, 3) := by decide +kernel
theorem dX7_raking_4 : decode cX7_raking 4 = .ok (.ifCond .ne 6, 3) := by decide +kernel
theorem dX7_raking_7 : decode cX7_raking 7 = .ok (.bipush (-5), 2) := by decide +kernel
theorem dX7_raking_9 : decode cX7_raking 9 = .ok (.ireturn, 1) := by decide +kernel
theorem dX7_raking_10 : decode cX7_raking 10 = .ok (.aload_n 0, 1) := by decide +kernel
theorem dX7_raking_11 : decode cX7_raking 11 = .ok (.aload_n 0, 1) := by decide +kernel
theorem dX7_raking_12 : decode cX7_raking 12 = .ok (.getfield 10, 3) := by decide +kernel
theorem dX7_raking_15 : decode cX7_raking 15 = .ok (.iload_n 1, 1) := by decide +kernel
theorem dX7_raking_16 : decode cX7_raking 16 = .ok (.invokevirtual 176, 3) := by decide +kernel
theorem dX7_raking_19 : decode cX7_raking 19 = .ok (.aload_n 0, 1) := by decide +kernel
theorem dX7_raking_20 : decode cX7_raking 20 = .ok (.getfield 32, 3) := by decide +kernel
theorem dX7_raking_23 : decode cX7_raking 23 = .ok (.aload_n 0, 1) := by decide +kernel
theorem dX7_raking_24 : decode cX7_raking 24 = .ok (.getfield 10, 3) := by decide +kernel
theorem dX7_raking_27 : decode cX7_raking 27 = .ok (.getfield 169, 3) := by decide +kernel
theorem dX7_raking_30 : decode cX7_raking 30 = .ok (.aload_n 0, 1) := by decide +kernel
theorem dX7_raking_31 : decode cX7_raking 31 = .ok (.getfield 25, 3) := by decide +kernel
theorem dX7_raking_34 : decode cX7_raking 34 = .ok (.getfield 183, 3) := by decide +kernel
theorem dX7_raking_37 : decode cX7_raking 37 = .ok (.invokevirtual 225, 3) := by decide +kernel
theorem dX7_raking_40 : decode cX7_raking 40 = .ok (.ireturn, 1) := by decide +kernel
theorem dX7_tonight_0 : decode cX7_tonight 0 = .ok (.iload_n 1, 1) := by decide +kernel
theorem dX7_tonight_1 : decode cX7_tonight 1 = .ok (.invokestatic 173, 3) := by decide +kernel
theorem dX7_tonight_4 : decode cX7_tonight 4 = .ok (.ifCond .ne 6, 3) := by decide +kernel
theorem dX7_tonight_7 : decode cX7_tonight 7 = .ok (.bipush (-5), 2) := by decide +kernel
theorem dX7_tonight_9 : decode cX7_tonight 9 = .ok (.ireturn, 1) := by decide +kernel
theorem dX7_tonight_10 : decode cX7_tonight 10 = .ok (.iload_n 2, 1) := by decide +kernel
theorem dX7_tonight_11 : decode cX7_tonight 11 = .ok (.iconst 0, 1) := by decide +kernel
theorem dX7_tonight_12 : decode cX7_tonight 12 = .ok (.bipush 39, 2) := by decide +kernel
theorem dX7_tonight_14 : decode cX7_tonight 14 = .ok (.invokestatic 92, 3) := by decide +kernel
theorem dX7_tonight_17 : decode cX7_tonight 17 = .ok (.ifCond .eq 12, 3) := by decide +kernel
theorem dX7_tonight_20 : decode cX7_tonight 20 = .ok (.iload_n 3, 1) := by decide +kernel
theorem dX7_tonight_21 : decode cX7_tonight 21 = .ok (.iconst 0, 1) := by decide +kernel
theorem dX7_tonight_22 : decode cX7_tonight 22 = .ok (.iconst 2, 1) := by decide +kernel
theorem dX7_tonight_23 : decode cX7_tonight 23 = .ok (.invokestatic 92, 3) := by decide +kernel
theorem dX7_tonight_26 : decode cX7_tonight 26 = .ok (.ifCond .ne 6, 3) := by decide +kernel
theorem dX7_tonight_29 : decode cX7_tonight 29 = .ok (.bipush (-7), 2) := by decide +kernel
theorem dX7_tonight_31 : decode cX7_tonight 31 = .ok (.ireturn, 1) := by decide +kernel
theorem dX7_tonight_32 : decode cX7_tonight 32 = .ok (.aload_n 0, 1) := by decide +kernel
theorem dX7_tonight_33 : decode cX7_tonight 33 = .ok (.aload_n 0, 1) := by decide +kernel
theorem dX7_tonight_34 : decode cX7_tonight 34 = .ok (.getfield 10, 3) := by decide +kernel
theorem dX7_tonight_37 : decode cX7_tonight 37 = .ok (.iload_n 1, 1) := by decide +kernel
theorem dX7_tonight_38 : decode cX7_tonight 38 = .ok (.invokevirtual 176, 3) := by decide +kernel
theorem dX7_tonight_41 : decode cX7_tonight 41 = .ok (.aload_n 0, 1) := by decide +kernel
theorem dX7_tonight_42 : decode cX7_tonight 42 = .ok (.getfield 25, 3) := by decide +kernel
theorem dX7_tonight_45 : decode cX7_tonight 45 = .ok (.aload_n 0, 1) := by decide +kernel
theorem dX7_tonight_46 : decode cX7_tonight 46 = .ok (.getfield 59, 3) := by decide +kernel
theorem dX7_tonight_49 : decode cX7_tonight 49 = .ok (.invokevirtual 205, 3) := by decide +kernel
theorem dX7_tonight_52 : decode cX7_tonight 52 = .ok (.aload_n 0, 1) := by decide +kernel
theorem dX7_tonight_53 : decode cX7_tonight 53 = .ok (.getfield 25, 3) := by decide +kernel
theorem dX7_tonight_56 : decode cX7_tonight 56 = .ok (.invokevirtual 228, 3) := by decide +kernel
theorem dX7_tonight_59 : decode cX7_tonight 59 = .ok (.istore 4, 2) := by decide +kernel
theorem dX7_tonight_61 : decode cX7_tonight 61 = .ok (.aload_n 0, 1) := by decide +kernel
theorem dX7_tonight_62 : decode cX7_tonight 62 = .ok (.getfield 25, 3) := by decide +kernel
theorem dX7_tonight_65 : decode cX7_tonight 65 = .ok (.aload_n 0, 1) := by decide +kernel
theorem dX7_tonight_66 : decode cX7_tonight 66 = .ok (.getfield 10, 3) := by decide +kernel
theorem dX7_tonight_69 : decode cX7_tonight 69 = .ok (.aload_n 0, 1) := by decide +kernel
theorem dX7_tonight_70 : decode cX7_tonight 70 = .ok (.getfield 45, 3) := by decide +kernel
theorem dX7_tonight_73 : decode cX7_tonight 73 = .ok (.aload_n 0, 1) := by decide +kernel
theorem dX7_tonight_74 : decode cX7_tonight 74 = .ok (.getfield 10, 3) := by decide +kernel
theorem dX7_tonight_77 : decode cX7_tonight 77 = .ok (.getfield 110, 3) := by decide +kernel
theorem dX7_tonight_80 : decode cX7_tonight 80 = .ok (.aaload, 1) := by decide +kernel
theorem dX7_tonight_81 : decode cX7_tonight 81 = .ok (.iload_n 2, 1) := by decide +kernel
theorem dX7_tonight_82 : decode cX7_tonight 82 = .ok (.bipush 10, 2) := by decide +kernel
theorem dX7_tonight_84 : decode cX7_tonight 84 = .ok (.idiv, 1) := by decide +kernel
theorem dX7_tonight_85 : decode cX7_tonight 85 = .ok (.iload_n 2, 1) := by decide +kernel
theorem dX7_tonight_86 : decode cX7_tonight 86 = .ok (.bipush 10, 2) := by decide +kernel
theorem dX7_tonight_88 : decode cX7_tonight 88 = .ok (.irem, 1) := by decide +kernel
theorem dX7_tonight_89 : decode cX7_tonight 89 = .ok (.iconst 0, 1) := by decide +kernel
theorem dX7_tonight_90 : decode cX7_tonight 90 = .ok (.invokevirtual 231, 3) := by decide +kernel
theorem dX7_tonight_93 : decode cX7_tonight 93 = .ok (.iload_n 3, 1) := by decide +kernel
theorem dX7_tonight_94 : decode cX7_tonight 94 = .ok (.iconst 1, 1) := by decide +kernel
theorem dX7_tonight_95 : decode cX7_tonight 95 = .ok (.if_icmp .ne 14, 3) := by decide +kernel
theorem dX7_tonight_98 : decode cX7_tonight 98 = .ok (.aload_n 0, 1) := by decide +kernel
theorem dX7_tonight_99 : decode cX7_tonight 99 = .ok (.getfield 25, 3) := by decide +kernel
theorem dX7_tonight_102 : decode cX7_tonight 102 = .ok (.invokevirtual 228, 3) := by decide +kernel
theorem dX7_tonight_105 : decode cX7_tonight 105 = .ok (.iload 4, 2) := by decide +kernel
theorem dX7_tonight_107 : decode cX7_tonight 107 = .ok (.isub, 1) := by decide +kernel
theorem dX7_tonight_108 : decode cX7_tonight 108 = .ok (.ireturn, 1) := by decide +kernel
theorem dX7_tonight_109 : decode cX7_tonight 109 = .ok (.iconst 0, 1) := by decide +kernel
theorem dX7_tonight_110 : decode cX7_tonight 110 = .ok (.istore 5, 2) := by decide +kernel
theorem dX7_tonight_112 : decode cX7_tonight 112 = .ok (.iconst 0, 1) := by decide +kernel
theorem dX7_tonight_113 : decode cX7_tonight 113 = .ok (.istore 6, 2) := by decide +kernel
theorem dX7_tonight_115 : decode cX7_tonight 115 = .ok (.iload 6, 2) := by decide +kernel
theorem dX7_tonight_117 : decode cX7_tonight 117 = .ok (.bipush 36, 2) := by decide +kernel
theorem dX7_tonight_119 : decode cX7_tonight 119 = .ok (.if_icmp .ge 62, 3) := by decide +kernel
theorem dX7_tonight_122 : decode cX7_tonight 122 = .ok (.aload_n 0, 1) := by decide +kernel
theorem dX7_tonight_123 : decode cX7_tonight 123 = .ok (.getfield 25, 3) := by decide +kernel
theorem dX7_tonight_126 : decode cX7_tonight 126 = .ok (.iload 6, 2) := by decide +kernel
theorem dX7_tonight_128 : decode cX7_tonight 128 = .ok (.invokevirtual 235, 3) := by decide +kernel
theorem dX7_tonight_131 : decode cX7_tonight 131 = .ok (.istore 7, 2) := by decide +kernel
theorem dX7_tonight_133 : decode cX7_tonight 133 = .ok (.iload_n 3, 1) := by decide +kernel
theorem dX7_tonight_134 : decode cX7_tonight 134 = .ok (.iconst 2, 1) := by decide +kernel
theorem dX7_tonight_135 : decode cX7_tonight 135 = .ok (.if_icmp .ne 23, 3) := by decide +kernel
theorem dX7_tonight_138 : decode cX7_tonight 138 = .ok (.iload 5, 2) := by decide +kernel
theorem dX7_tonight_140 : decode cX7_tonight 140 = .ok (.aload_n 0, 1) := by decide +kernel
theorem dX7_tonight_141 : decode cX7_tonight 141 = .ok (.getfield 59, 3) := by decide +kernel
theorem dX7_tonight_144 : decode cX7_tonight 144 = .ok (.iload 6, 2) := by decide +kernel
theorem dX7_tonight_146 : decode cX7_tonight 146 = .ok (.iaload, 1) := by decide +kernel
theorem dX7_tonight_147 : decode cX7_tonight 147 = .ok (.iload 7, 2) := by decide +kernel
theorem dX7_tonight_149 : decode cX7_tonight 149 = .ok (.invokestatic 137, 3) := by decide +kernel
theorem dX7_tonight_152 : decode cX7_tonight 152 = .ok (.iadd, 1) := by decide +kernel
theorem dX7_tonight_153 : decode cX7_tonight 153 = .ok (.istore 5, 2) := by decide +kernel
theorem dX7_tonight_155 : decode cX7_tonight 155 = .ok (.goto 20, 3) := by decide +kernel
theorem dX7_tonight_158 : decode cX7_tonight 158 = .ok (.aload_n 0, 1) := by decide +kernel
theorem dX7_tonight_159 : decode cX7_tonight 159 = .ok (.getfield 59, 3) := by decide +kernel
theorem dX7_tonight_162 : decode cX7_tonight 162 = .ok (.iload 6, 2) := by decide +kernel
theorem dX7_tonight_164 : decode cX7_tonight 164 = .ok (.iaload, 1) := by decide +kernel
theorem dX7_tonight_165 : decode cX7_tonight 165 = .ok (.ifCond .ne 10, 3) := by decide +kernel
theorem dX7_tonight_168 : decode cX7_tonight 168 = .ok (.iload 5, 2) := by decide +kernel
theorem dX7_tonight_170 : decode cX7_tonight 170 = .ok (.iload 7, 2) := by decide +kernel
theorem dX7_tonight_172 : decode cX7_tonight 172 = .ok (.iadd, 1) := by decide +kernel
theorem dX7_tonight_173 : decode cX7_tonight 173 = .ok (.istore 5, 2) := by decide +kernel
theorem dX7_tonight_175 : decode cX7_tonight 175 = .ok (.iinc 6 1, 3) := by decide +kernel
theorem dX7_tonight_178 : decode cX7_tonight 178 = .ok (.goto (-63), 3) := by decide +kernel
theorem dX7_tonight_181 : decode cX7_tonight 181 = .ok (.iload 5, 2) := by decide +kernel
theorem dX7_tonight_183 : decode cX7_tonight 183 = .ok (.ireturn, 1) := by decide +kernel
theorem dX7_hurdle_0 : decode cX7_hurdle 0 = .ok (.iload_n 1, 1) := by decide +kernel
theorem dX7_hurdle_1 : decode cX7_hurdle 1 = .ok (.invokestatic 173, 3) := by decide +kernel
theorem dX7_hurdle_4 : decode cX7_hurdle 4 = .ok (.ifCond .ne 6, 3) := by decide +kernel
theorem dX7_hurdle_7 : decode cX7_hurdle 7 = .ok (.bipush (-5), 2) := by decide +kernel
theorem dX7_hurdle_9 : decode cX7_hurdle 9 = .ok (.ireturn, 1) := by decide +kernel
theorem dX7_hurdle_10 : decode cX7_hurdle 10 = .ok (.iload_n 2, 1) := by decide +kernel
theorem dX7_hurdle_11 : decode cX7_hurdle 11 = .ok (.iconst 0, 1) := by decide +kernel
theorem dX7_hurdle_12 : decode cX7_hurdle 12 = .ok (.bipush 99, 2) := by decide +kernel
theorem dX7_hurdle_14 : decode cX7_hurdle 14 = .ok (.invokestatic 92, 3) := by decide +kernel
theorem dX7_hurdle_17 : decode cX7_hurdle 17 = .ok (.ifCond .eq 10, 3) := by decide +kernel
theorem dX7_hurdle_20 : decode cX7_hurdle 20 = .ok (.iload_n 3, 1) := by decide +kernel
theorem dX7_hurdle_21 : decode cX7_hurdle 21 = .ok (.invokestatic 192, 3) := by decide +kernel
theorem dX7_hurdle_24 : decode cX7_hurdle 24 = .ok (.ifCond .ne 6, 3) := by decide +kernel
theorem dX7_hurdle_27 : decode cX7_hurdle 27 = .ok (.bipush (-7), 2) := by decide +kernel
theorem dX7_hurdle_29 : decode cX7_hurdle 29 = .ok (.ireturn, 1) := by decide +kernel
theorem dX7_hurdle_30 : decode cX7_hurdle 30 = .ok (.iconst 0, 1) := by decide +kernel
theorem dX7_hurdle_31 : decode cX7_hurdle 31 = .ok (.istore 4, 2) := by decide +kernel
theorem dX7_hurdle_33 : decode cX7_hurdle 33 = .ok (.iload 4, 2) := by decide +kernel
theorem dX7_hurdle_35 : decode cX7_hurdle 35 = .ok (.bipush 36, 2) := by decide +kernel
theorem dX7_hurdle_37 : decode cX7_hurdle 37 = .ok (.if_icmp .ge 56, 3) := by decide +kernel
theorem dX7_hurdle_40 : decode cX7_hurdle 40 = .ok (.aload_n 0, 1) := by decide +kernel
theorem dX7_hurdle_41 : decode cX7_hurdle 41 = .ok (.getfield 19, 3) := by decide +kernel
theorem dX7_hurdle_44 : decode cX7_hurdle 44 = .ok (.aload_n 0, 1) := by decide +kernel
theorem dX7_hurdle_45 : decode cX7_hurdle 45 = .ok (.getfield 10, 3) := by decide +kernel
theorem dX7_hurdle_48 : decode cX7_hurdle 48 = .ok (.invokevirtual 209, 3) := by decide +kernel
theorem dX7_hurdle_51 : decode cX7_hurdle 51 = .ok (.aload_n 0, 1) := by decide +kernel
theorem dX7_hurdle_52 : decode cX7_hurdle 52 = .ok (.getfield 19, 3) := by decide +kernel
theorem dX7_hurdle_55 : decode cX7_hurdle 55 = .ok (.iload 4, 2) := by decide +kernel
theorem dX7_hurdle_57 : decode cX7_hurdle 57 = .ok (.iconst 3, 1) := by decide +kernel
theorem dX7_hurdle_58 : decode cX7_hurdle 58 = .ok (.iload_n 2, 1) := by decide +kernel
theorem dX7_hurdle_59 : decode cX7_hurdle 59 = .ok (.invokevirtual 133, 3) := by decide +kernel
theorem dX7_hurdle_62 : decode cX7_hurdle 62 = .ok (.aload_n 0, 1) := by decide +kernel
theorem dX7_hurdle_63 : decode cX7_hurdle 63 = .ok (.aload_n 0, 1) := by decide +kernel
theorem dX7_hurdle_64 : decode cX7_hurdle 64 = .ok (.getfield 19, 3) := by decide +kernel
theorem dX7_hurdle_67 : decode cX7_hurdle 67 = .ok (.iload_n 1, 1) := by decide +kernel
theorem dX7_hurdle_68 : decode cX7_hurdle 68 = .ok (.invokevirtual 176, 3) := by decide +kernel
theorem dX7_hurdle_71 : decode cX7_hurdle 71 = .ok (.aload_n 0, 1) := by decide +kernel
theorem dX7_hurdle_72 : decode cX7_hurdle 72 = .ok (.getfield 59, 3) := by decide +kernel
theorem dX7_hurdle_75 : decode cX7_hurdle 75 = .ok (.iload 4, 2) := by decide +kernel
theorem dX7_hurdle_77 : decode cX7_hurdle 77 = .ok (.aload_n 0, 1) := by decide +kernel
theorem dX7_hurdle_78 : decode cX7_hurdle 78 = .ok (.getfield 25, 3) := by decide +kernel
theorem dX7_hurdle_81 : decode cX7_hurdle 81 = .ok (.iload 4, 2) := by decide +kernel
theorem dX7_hurdle_83 : decode cX7_hurdle 83 = .ok (.invokevirtual 235, 3) := by decide +kernel
theorem dX7_hurdle_86 : decode cX7_hurdle 86 = .ok (.iastore, 1) := by decide +kernel
theorem dX7_hurdle_87 : decode cX7_hurdle 87 = .ok (.iinc 4 1, 3) := by decide +kernel
theorem dX7_hurdle_90 : decode cX7_hurdle 90 = .ok (.goto (-57), 3) := by decide +kernel
theorem dX7_hurdle_93 : decode cX7_hurdle 93 = .ok (.aload_n 0, 1) := by decide +kernel
theorem dX7_hurdle_94 : decode cX7_hurdle 94 = .ok (.getfield 59, 3) := by decide +kernel
theorem dX7_hurdle_97 : decode cX7_hurdle 97 = .ok (.bipush 36, 2) := by decide +kernel
theorem dX7_hurdle_99 : decode cX7_hurdle 99 = .ok (.iload_n 3, 1) := by decide +kernel
theorem dX7_hurdle_100 : decode cX7_hurdle 100 = .ok (.invokestatic 201, 3) := by decide +kernel
theorem dX7_hurdle_103 : decode cX7_hurdle 103 = .ok (.ireturn, 1) := by decide +kernel
theorem dX7_share_0 : decode cX7_share 0 = .ok (.iload_n 1, 1) := by decide +kernel
theorem dX7_share_1 : decode cX7_share 1 = .ok (.invokestatic 173, 3) := by decide +kernel
theorem dX7_share_4 : decode cX7_share 4 = .ok (.ifCond .eq 19, 3) := by decide +kernel
theorem dX7_share_7 : decode cX7_share 7 = .ok (.iload_n 2, 1) := by decide +kernel
theorem dX7_share_8 : decode cX7_share 8 = .ok (.iconst 0, 1) := by decide +kernel
theorem dX7_share_9 : decode cX7_share 9 = .ok (.iconst 3, 1) := by decide +kernel
theorem dX7_share_10 : decode cX7_share 10 = .ok (.invokestatic 92, 3) := by decide +kernel
theorem dX7_share_13 : decode cX7_share 13 = .ok (.ifCond .eq 10, 3) := by decide +kernel
theorem dX7_share_16 : decode cX7_share 16 = .ok (.iload_n 3, 1) := by decide +kernel
theorem dX7_share_17 : decode cX7_share 17 = .ok (.invokestatic 192, 3) := by decide +kernel
theorem dX7_share_20 : decode cX7_share 20 = .ok (.ifCond .ne 7, 3) := by decide +kernel
theorem dX7_share_23 : decode cX7_share 23 = .ok (.ldc2_w 167, 3) := by decide +kernel
theorem dX7_share_26 : decode cX7_share 26 = .ok (.lreturn, 1) := by decide +kernel
theorem dX7_share_27 : decode cX7_share 27 = .ok (.aload_n 0, 1) := by decide +kernel
theorem dX7_share_28 : decode cX7_share 28 = .ok (.aload_n 0, 1) := by decide +kernel
theorem dX7_share_29 : decode cX7_share 29 = .ok (.getfield 10, 3) := by decide +kernel
theorem dX7_share_32 : decode cX7_share 32 = .ok (.iload_n 1, 1) := by decide +kernel
theorem dX7_share_33 : decode cX7_share 33 = .ok (.invokevirtual 176, 3) := by decide +kernel
theorem dX7_share_36 : decode cX7_share 36 = .ok (.aload_n 0, 1) := by decide +kernel
theorem dX7_share_37 : decode cX7_share 37 = .ok (.getfield 10, 3) := by decide +kernel
theorem dX7_share_40 : decode cX7_share 40 = .ok (.invokevirtual 238, 3) := by decide +kernel
theorem dX7_share_43 : decode cX7_share 43 = .ok (.aload_n 0, 1) := by decide +kernel
theorem dX7_share_44 : decode cX7_share 44 = .ok (.getfield 25, 3) := by decide +kernel
theorem dX7_share_47 : decode cX7_share 47 = .ok (.iload_n 1, 1) := by decide +kernel
theorem dX7_share_48 : decode cX7_share 48 = .ok (.invokevirtual 195, 3) := by decide +kernel
theorem dX7_share_51 : decode cX7_share 51 = .ok (.iadd, 1) := by decide +kernel
theorem dX7_share_52 : decode cX7_share 52 = .ok (.istore 4, 2) := by decide +kernel
theorem dX7_share_54 : decode cX7_share 54 = .ok (.iload 4, 2) := by decide +kernel
theorem dX7_share_56 : decode cX7_share 56 = .ok (.ifCond .ne 9, 3) := by decide +kernel
theorem dX7_share_59 : decode cX7_share 59 = .ok (.ldc2_w 167, 3) := by decide +kernel
theorem dX7_share_62 : decode cX7_share 62 = .ok (.goto 18, 3) := by decide +kernel
theorem dX7_share_65 : decode cX7_share 65 = .ok (.aload_n 0, 1) := by decide +kernel
theorem dX7_share_66 : decode cX7_share 66 = .ok (.getfield 25, 3) := by decide +kernel
theorem dX7_share_69 : decode cX7_share 69 = .ok (.getfield 241, 3) := by decide +kernel
theorem dX7_share_72 : decode cX7_share 72 = .ok (.iload_n 2, 1) := by decide +kernel
theorem dX7_share_73 : decode cX7_share 73 = .ok (.iaload, 1) := by decide +kernel
theorem dX7_share_74 : decode cX7_share 74 = .ok (.iload 4, 2) := by decide +kernel
theorem dX7_share_76 : decode cX7_share 76 = .ok (.iload_n 3, 1) := by decide +kernel
theorem dX7_share_77 : decode cX7_share 77 = .ok (.invokestatic 244, 3) := by decide +kernel
theorem dX7_share_80 : decode cX7_share 80 = .ok (.lreturn, 1) := by decide +kernel
theorem dX7_away_0 : decode cX7_away 0 = .ok (.iload_n 1, 1) := by decide +kernel
theorem dX7_away_1 : decode cX7_away 1 = .ok (.invokestatic 192, 3) := by decide +kernel
theorem dX7_away_4 : decode cX7_away 4 = .ok (.ifCond .ne 6, 3) := by decide +kernel
theorem dX7_away_7 : decode cX7_away 7 = .ok (.bipush (-2), 2) := by decide +kernel
theorem dX7_away_9 : decode cX7_away 9 = .ok (.ireturn, 1) := by decide +kernel
theorem dX7_away_10 : decode cX7_away 10 = .ok (.aload_n 0, 1) := by decide +kernel
theorem dX7_away_11 : decode cX7_away 11 = .ok (.getfield 19, 3) := by decide +kernel
theorem dX7_away_14 : decode cX7_away 14 = .ok (.aload_n 0, 1) := by decide +kernel
theorem dX7_away_15 : decode cX7_away 15 = .ok (.getfield 10, 3) := by decide +kernel
theorem dX7_away_18 : decode cX7_away 18 = .ok (.invokevirtual 209, 3) := by decide +kernel
theorem dX7_away_21 : decode cX7_away 21 = .ok (.iconst 0, 1) := by decide +kernel
theorem dX7_away_22 : decode cX7_away 22 = .ok (.istore_n 2, 1) := by decide +kernel
theorem dX7_away_23 : decode cX7_away 23 = .ok (.iload_n 2, 1) := by decide +kernel
theorem dX7_away_24 : decode cX7_away 24 = .ok (.iconst 4, 1) := by decide +kernel
theorem dX7_away_25 : decode cX7_away 25 = .ok (.if_icmp .ge 60, 3) := by decide +kernel
theorem dX7_away_28 : decode cX7_away 28 = .ok (.iconst 0, 1) := by decide +kernel
theorem dX7_away_29 : decode cX7_away 29 = .ok (.istore_n 3, 1) := by decide +kernel
theorem dX7_away_30 : decode cX7_away 30 = .ok (.iload_n 3, 1) := by decide +kernel
theorem dX7_away_31 : decode cX7_away 31 = .ok (.bipush 14, 2) := by decide +kernel
theorem dX7_away_33 : decode cX7_away 33 = .ok (.if_icmp .ge 21, 3) := by decide +kernel
theorem dX7_away_36 : decode cX7_away 36 = .ok (.aload_n 0, 1) := by decide +kernel
theorem dX7_away_37 : decode cX7_away 37 = .ok (.getfield 19, 3) := by decide +kernel
theorem dX7_away_40 : decode cX7_away 40 = .ok (.getfield 100, 3) := by decide +kernel
theorem dX7_away_43 : decode cX7_away 43 = .ok (.iconst 0, 1) := by decide +kernel
theorem dX7_away_44 : decode cX7_away 44 = .ok (.aaload, 1) := by decide +kernel
theorem dX7_away_45 : decode cX7_away 45 = .ok (.iload_n 3, 1) := by decide +kernel
theorem dX7_away_46 : decode cX7_away 46 = .ok (.iload_n 2, 1) := by decide +kernel
theorem dX7_away_47 : decode cX7_away 47 = .ok (.iastore, 1) := by decide +kernel
theorem dX7_away_48 : decode cX7_away 48 = .ok (.iinc 3 1, 3) := by decide +kernel
theorem dX7_away_51 : decode cX7_away 51 = .ok (.goto (-21), 3) := by decide +kernel
theorem dX7_away_54 : decode cX7_away 54 = .ok (.aload_n 0, 1) := by decide +kernel
theorem dX7_away_55 : decode cX7_away 55 = .ok (.aload_n 0, 1) := by decide +kernel
theorem dX7_away_56 : decode cX7_away 56 = .ok (.getfield 19, 3) := by decide +kernel
theorem dX7_away_59 : decode cX7_away 59 = .ok (.bipush 14, 2) := by decide +kernel
theorem dX7_away_61 : decode cX7_away 61 = .ok (.invokevirtual 176, 3) := by decide +kernel
theorem dX7_away_64 : decode cX7_away 64 = .ok (.aload_n 0, 1) := by decide +kernel
theorem dX7_away_65 : decode cX7_away 65 = .ok (.getfield 59, 3) := by decide +kernel
theorem dX7_away_68 : decode cX7_away 68 = .ok (.iload_n 2, 1) := by decide +kernel
theorem dX7_away_69 : decode cX7_away 69 = .ok (.aload_n 0, 1) := by decide +kernel
theorem dX7_away_70 : decode cX7_away 70 = .ok (.getfield 25, 3) := by decide +kernel
theorem dX7_away_73 : decode cX7_away 73 = .ok (.getfield 241, 3) := by decide +kernel
theorem dX7_away_76 : decode cX7_away 76 = .ok (.iload_n 2, 1) := by decide +kernel
theorem dX7_away_77 : decode cX7_away 77 = .ok (.iaload, 1) := by decide +kernel
theorem dX7_away_78 : decode cX7_away 78 = .ok (.iastore, 1) := by decide +kernel
theorem dX7_away_79 : decode cX7_away 79 = .ok (.iinc 2 1, 3) := by decide +kernel
theorem dX7_away_82 : decode cX7_away 82 = .ok (.goto (-59), 3) := by decide +kernel
theorem dX7_away_85 : decode cX7_away 85 = .ok (.aload_n 0, 1) := by decide +kernel
theorem dX7_away_86 : decode cX7_away 86 = .ok (.getfield 59, 3) := by decide +kernel
theorem dX7_away_89 : decode cX7_away 89 = .ok (.iconst 4, 1) := by decide +kernel
theorem dX7_away_90 : decode cX7_away 90 = .ok (.iload_n 1, 1) := by decide +kernel
theorem dX7_away_91 : decode cX7_away 91 = .ok (.invokestatic 201, 3) := by decide +kernel
theorem dX7_away_94 : decode cX7_away 94 = .ok (.ireturn, 1) := by decide +kernel
theorem dX7_judge_0 : decode cX7_judge 0 = .ok (.aload_n 0, 1) := by decide +kernel
theorem dX7_judge_1 : decode cX7_judge 1 = .ok (.iload_n 1, 1) := by decide +kernel
theorem dX7_judge_2 : decode cX7_judge 2 = .ok (.iload_n 2, 1) := by decide +kernel
theorem dX7_judge_3 : decode cX7_judge 3 = .ok (.iconst 0, 1) := by decide +kernel
theorem dX7_judge_4 : decode cX7_judge 4 = .ok (.invokevirtual 248, 3) := by decide +kernel
theorem dX7_judge_7 : decode cX7_judge 7 = .ok (.istore_n 3, 1) := by decide +kernel
theorem dX7_judge_8 : decode cX7_judge 8 = .ok (.iload_n 3, 1) := by decide +kernel
theorem dX7_judge_9 : decode cX7_judge 9 = .ok (.ifCond .eq 5, 3) := by decide +kernel
theorem dX7_judge_12 : decode cX7_judge 12 = .ok (.iload_n 3, 1) := by decide +kernel
theorem dX7_judge_13 : decode cX7_judge 13 = .ok (.ireturn, 1) := by decide +kernel
theorem dX7_judge_14 : decode cX7_judge 14 = .ok (.aload_n 0, 1) := by decide +kernel
theorem dX7_judge_15 : decode cX7_judge 15 = .ok (.aload_n 0, 1) := by decide +kernel
theorem dX7_judge_16 : decode cX7_judge 16 = .ok (.getfield 10, 3) := by decide +kernel
theorem dX7_judge_19 : decode cX7_judge 19 = .ok (.iload_n 2, 1) := by decide +kernel
theorem dX7_judge_20 : decode cX7_judge 20 = .ok (.invokevirtual 176, 3) := by decide +kernel
theorem dX7_judge_23 : decode cX7_judge 23 = .ok (.aload_n 0, 1) := by decide +kernel
theorem dX7_judge_24 : decode cX7_judge 24 = .ok (.getfield 25, 3) := by decide +kernel
theorem dX7_judge_27 : decode cX7_judge 27 = .ok (.aload_n 0, 1) := by decide +kernel
theorem dX7_judge_28 : decode cX7_judge 28 = .ok (.getfield 51, 3) := by decide +kernel
theorem dX7_judge_31 : decode cX7_judge 31 = .ok (.iload_n 1, 1) := by decide +kernel
theorem dX7_judge_32 : decode cX7_judge 32 = .ok (.aaload, 1) := by decide +kernel
theorem dX7_judge_33 : decode cX7_judge 33 = .ok (.getfield 252, 3) := by decide +kernel
theorem dX7_judge_36 : decode cX7_judge 36 = .ok (.invokevirtual 255, 3) := by decide +kernel
theorem dX7_judge_39 : decode cX7_judge 39 = .ok (.ireturn, 1) := by decide +kernel
theorem dX7_laws_0 : decode cX7_laws 0 = .ok (.aload_n 0, 1) := by decide +kernel
theorem dX7_laws_1 : decode cX7_laws 1 = .ok (.iload_n 1, 1) := by decide +kernel
theorem dX7_laws_2 : decode cX7_laws 2 = .ok (.iload_n 2, 1) := by decide +kernel
theorem dX7_laws_3 : decode cX7_laws 3 = .ok (.iconst 0, 1) := by decide +kernel
theorem dX7_laws_4 : decode cX7_laws 4 = .ok (.invokevirtual 248, 3) := by decide +kernel
theorem dX7_laws_7 : decode cX7_laws 7 = .ok (.istore_n 3, 1) := by decide +kernel
theorem dX7_laws_8 : decode cX7_laws 8 = .ok (.iload_n 3, 1) := by decide +kernel
theorem dX7_laws_9 : decode cX7_laws 9 = .ok (.ifCond .eq 5, 3) := by decide +kernel
theorem dX7_laws_12 : decode cX7_laws 12 = .ok (.iload_n 3, 1) := by decide +kernel
theorem dX7_laws_13 : decode cX7_laws 13 = .ok (.ireturn, 1) := by decide +kernel
theorem dX7_laws_14 : decode cX7_laws 14 = .ok (.iconst 0, 1) := by decide +kernel
theorem dX7_laws_15 : decode cX7_laws 15 = .ok (.istore 4, 2) := by decide +kernel
theorem dX7_laws_17 : decode cX7_laws 17 = .ok (.aload_n 0, 1) := by decide +kernel
theorem dX7_laws_18 : decode cX7_laws 18 = .ok (.getfield 19, 3) := by decide +kernel
theorem dX7_laws_21 : decode cX7_laws 21 = .ok (.aload_n 0, 1) := by decide +kernel
theorem dX7_laws_22 : decode cX7_laws 22 = .ok (.getfield 10, 3) := by decide +kernel
theorem dX7_laws_25 : decode cX7_laws 25 = .ok (.invokevirtual 209, 3) := by decide +kernel
theorem dX7_laws_28 : decode cX7_laws 28 = .ok (.iconst 0, 1) := by decide +kernel
theorem dX7_laws_29 : decode cX7_laws 29 = .ok (.istore 5, 2) := by decide +kernel
theorem dX7_laws_31 : decode cX7_laws 31 = .ok (.iload 5, 2) := by decide +kernel
theorem dX7_laws_33 : decode cX7_laws 33 = .ok (.aload_n 0, 1) := by decide +kernel
theorem dX7_laws_34 : decode cX7_laws 34 = .ok (.getfield 84, 3) := by decide +kernel
theorem dX7_laws_37 : decode cX7_laws 37 = .ok (.if_icmp .ge 56, 3) := by decide +kernel
theorem dX7_laws_40 : decode cX7_laws 40 = .ok (.aload_n 0, 1) := by decide +kernel
theorem dX7_laws_41 : decode cX7_laws 41 = .ok (.getfield 19, 3) := by decide +kernel
theorem dX7_laws_44 : decode cX7_laws 44 = .ok (.iload 5, 2) := by decide +kernel
theorem dX7_laws_46 : decode cX7_laws 46 = .ok (.putfield 110, 3) := by decide +kernel
theorem dX7_laws_49 : decode cX7_laws 49 = .ok (.aload_n 0, 1) := by decide +kernel
theorem dX7_laws_50 : decode cX7_laws 50 = .ok (.aload_n 0, 1) := by decide +kernel
theorem dX7_laws_51 : decode cX7_laws 51 = .ok (.getfield 19, 3) := by decide +kernel
theorem dX7_laws_54 : decode cX7_laws 54 = .ok (.iload_n 2, 1) := by decide +kernel
theorem dX7_laws_55 : decode cX7_laws 55 = .ok (.invokevirtual 176, 3) := by decide +kernel
theorem dX7_laws_58 : decode cX7_laws 58 = .ok (.aload_n 0, 1) := by decide +kernel
theorem dX7_laws_59 : decode cX7_laws 59 = .ok (.getfield 25, 3) := by decide +kernel
theorem dX7_laws_62 : decode cX7_laws 62 = .ok (.aload_n 0, 1) := by decide +kernel
theorem dX7_laws_63 : decode cX7_laws 63 = .ok (.getfield 51, 3) := by decide +kernel
theorem dX7_laws_66 : decode cX7_laws 66 = .ok (.iload_n 1, 1) := by decide +kernel
theorem dX7_laws_67 : decode cX7_laws 67 = .ok (.aaload, 1) := by decide +kernel
theorem dX7_laws_68 : decode cX7_laws 68 = .ok (.getfield 252, 3) := by decide +kernel
theorem dX7_laws_71 : decode cX7_laws 71 = .ok (.invokevirtual 255, 3) := by decide +kernel
theorem dX7_laws_74 : decode cX7_laws 74 = .ok (.iconst (-1), 1) := by decide +kernel
theorem dX7_laws_75 : decode cX7_laws 75 = .ok (.if_icmp .ne 12, 3) := by decide +kernel
theorem dX7_laws_78 : decode cX7_laws 78 = .ok (.iload 4, 2) := by decide +kernel
theorem dX7_laws_80 : decode cX7_laws 80 = .ok (.iconst 1, 1) := by decide +kernel
theorem dX7_laws_81 : decode cX7_laws 81 = .ok (.iload 5, 2) := by decide +kernel
theorem dX7_laws_83 : decode cX7_laws 83 = .ok (.ishl, 1) := by decide +kernel
theorem dX7_laws_84 : decode cX7_laws 84 = .ok (.ior, 1) := by decide +kernel
theorem dX7_laws_85 : decode cX7_laws 85 = .ok (.istore 4, 2) := by decide +kernel
theorem dX7_laws_87 : decode cX7_laws 87 = .ok (.iinc 5 1, 3) := by decide +kernel
theorem dX7_laws_90 : decode cX7_laws 90 = .ok (.goto (-59), 3) := by decide +kernel
theorem dX7_laws_93 : decode cX7_laws 93 = .ok (.iload 4, 2) := by decide +kernel
theorem dX7_laws_95 : decode cX7_laws 95 = .ok (.ireturn, 1) := by decide +kernel
theorem dX7_winds_0 : decode cX7_winds 0 = .ok (.aload_n 0, 1) := by decide +kernel
theorem dX7_winds_1 : decode cX7_winds 1 = .ok (.iload_n 1, 1) := by decide +kernel
theorem dX7_winds_2 : decode cX7_winds 2 = .ok (.iload_n 2, 1) := by decide +kernel
theorem dX7_winds_3 : decode cX7_winds 3 = .ok (.iconst 1, 1) := by decide +kernel
theorem dX7_winds_4 : decode cX7_winds 4 = .ok (.invokevirtual 248, 3) := by decide +kernel
theorem dX7_winds_7 : decode cX7_winds 7 = .ok (.istore_n 3, 1) := by decide +kernel
theorem dX7_winds_8 : decode cX7_winds 8 = .ok (.iload_n 3, 1) := by decide +kernel
theorem dX7_winds_9 : decode cX7_winds 9 = .ok (.ifCond .eq 5, 3) := by decide +kernel
theorem dX7_winds_12 : decode cX7_winds 12 = .ok (.iload_n 3, 1) := by decide +kernel
theorem dX7_winds_13 : decode cX7_winds 13 = .ok (.ireturn, 1) := by decide +kernel
theorem dX7_winds_14 : decode cX7_winds 14 = .ok (.iconst 0, 1) := by decide +kernel
theorem dX7_winds_15 : decode cX7_winds 15 = .ok (.istore 4, 2) := by decide +kernel
theorem dX7_winds_17 : decode cX7_winds 17 = .ok (.aload_n 0, 1) := by decide +kernel
theorem dX7_winds_18 : decode cX7_winds 18 = .ok (.getfield 19, 3) := by decide +kernel
theorem dX7_winds_21 : decode cX7_winds 21 = .ok (.aload_n 0, 1) := by decide +kernel
theorem dX7_winds_22 : decode cX7_winds 22 = .ok (.getfield 10, 3) := by decide +kernel
theorem dX7_winds_25 : decode cX7_winds 25 = .ok (.invokevirtual 209, 3) := by decide +kernel
theorem dX7_winds_28 : decode cX7_winds 28 = .ok (.iconst 0, 1) := by decide +kernel
theorem dX7_winds_29 : decode cX7_winds 29 = .ok (.istore 5, 2) := by decide +kernel
theorem dX7_winds_31 : decode cX7_winds 31 = .ok (.iload 5, 2) := by decide +kernel
theorem dX7_winds_33 : decode cX7_winds 33 = .ok (.iconst 4, 1) := by decide +kernel
theorem dX7_winds_34 : decode cX7_winds 34 = .ok (.if_icmp .ge 62, 3) := by decide +kernel
theorem dX7_winds_37 : decode cX7_winds 37 = .ok (.aload_n 0, 1) := by decide +kernel
theorem dX7_winds_38 : decode cX7_winds 38 = .ok (.getfield 19, 3) := by decide +kernel
theorem dX7_winds_41 : decode cX7_winds 41 = .ok (.getfield 100, 3) := by decide +kernel
theorem dX7_winds_44 : decode cX7_winds 44 = .ok (.iconst 0, 1) := by decide +kernel
theorem dX7_winds_45 : decode cX7_winds 45 = .ok (.aaload, 1) := by decide +kernel
theorem dX7_winds_46 : decode cX7_winds 46 = .ok (.iload_n 2, 1) := by decide +kernel
theorem dX7_winds_47 : decode cX7_winds 47 = .ok (.iconst 1, 1) := by decide +kernel
theorem dX7_winds_48 : decode cX7_winds 48 = .ok (.isub, 1) := by decide +kernel
theorem dX7_winds_49 : decode cX7_winds 49 = .ok (.iload 5, 2) := by decide +kernel
theorem dX7_winds_51 : decode cX7_winds 51 = .ok (.iastore, 1) := by decide +kernel
theorem dX7_winds_52 : decode cX7_winds 52 = .ok (.aload_n 0, 1) := by decide +kernel
theorem dX7_winds_53 : decode cX7_winds 53 = .ok (.aload_n 0, 1) := by decide +kernel
theorem dX7_winds_54 : decode cX7_winds 54 = .ok (.getfield 19, 3) := by decide +kernel
theorem dX7_winds_57 : decode cX7_winds 57 = .ok (.iload_n 2, 1) := by decide +kernel
theorem dX7_winds_58 : decode cX7_winds 58 = .ok (.invokevirtual 176, 3) := by decide +kernel
theorem dX7_winds_61 : decode cX7_winds 61 = .ok (.aload_n 0, 1) := by decide +kernel
theorem dX7_winds_62 : decode cX7_winds 62 = .ok (.getfield 25, 3) := by decide +kernel
theorem dX7_winds_65 : decode cX7_winds 65 = .ok (.aload_n 0, 1) := by decide +kernel
theorem dX7_winds_66 : decode cX7_winds 66 = .ok (.getfield 51, 3) := by decide +kernel
theorem dX7_winds_69 : decode cX7_winds 69 = .ok (.iload_n 1, 1) := by decide +kernel
theorem dX7_winds_70 : decode cX7_winds 70 = .ok (.aaload, 1) := by decide +kernel
theorem dX7_winds_71 : decode cX7_winds 71 = .ok (.getfield 252, 3) := by decide +kernel
theorem dX7_winds_74 : decode cX7_winds 74 = .ok (.invokevirtual 255, 3) := by decide +kernel
theorem dX7_winds_77 : decode cX7_winds 77 = .ok (.iconst (-1), 1) := by decide +kernel
theorem dX7_winds_78 : decode cX7_winds 78 = .ok (.if_icmp .ne 12, 3) := by decide +kernel
theorem dX7_winds_81 : decode cX7_winds 81 = .ok (.iload 4, 2) := by decide +kernel
theorem dX7_winds_83 : decode cX7_winds 83 = .ok (.iconst 1, 1) := by decide +kernel
theorem dX7_winds_84 : decode cX7_winds 84 = .ok (.iload 5, 2) := by decide +kernel
theorem dX7_winds_86 : decode cX7_winds 86 = .ok (.ishl, 1) := by decide +kernel
theorem dX7_winds_87 : decode cX7_winds 87 = .ok (.ior, 1) := by decide +kernel
theorem dX7_winds_88 : decode cX7_winds 88 = .ok (.istore 4, 2) := by decide +kernel
theorem dX7_winds_90 : decode cX7_winds 90 = .ok (.iinc 5 1, 3) := by decide +kernel
theorem dX7_winds_93 : decode cX7_winds 93 = .ok (.goto (-62), 3) := by decide +kernel
theorem dX7_winds_96 : decode cX7_winds 96 = .ok (.iload 4, 2) := by decide +kernel
theorem dX7_winds_98 : decode cX7_winds 98 = .ok (.ireturn, 1) := by decide +kernel
theorem dX7_film_0 : decode cX7_film 0 = .ok (.iload_n 1, 1) := by decide +kernel
theorem dX7_film_1 : decode cX7_film 1 = .ok (.invokestatic 259, 3) := by decide +kernel
theorem dX7_film_4 : decode cX7_film 4 = .ok (.ifCond .ne 6, 3) := by decide +kernel
theorem dX7_film_7 : decode cX7_film 7 = .ok (.bipush (-2), 2) := by decide +kernel
theorem dX7_film_9 : decode cX7_film 9 = .ok (.ireturn, 1) := by decide +kernel
theorem dX7_film_10 : decode cX7_film 10 = .ok (.iload_n 2, 1) := by decide +kernel
theorem dX7_film_11 : decode cX7_film 11 = .ok (.invokestatic 173, 3) := by decide +kernel
theorem dX7_film_14 : decode cX7_film 14 = .ok (.ifCond .ne 6, 3) := by decide +kernel
theorem dX7_film_17 : decode cX7_film 17 = .ok (.bipush (-7), 2) := by decide +kernel
theorem dX7_film_19 : decode cX7_film 19 = .ok (.ireturn, 1) := by decide +kernel
theorem dX7_film_20 : decode cX7_film 20 = .ok (.aload_n 0, 1) := by decide +kernel
theorem dX7_film_21 : decode cX7_film 21 = .ok (.aload_n 0, 1) := by decide +kernel
theorem dX7_film_22 : decode cX7_film 22 = .ok (.getfield 10, 3) := by decide +kernel
theorem dX7_film_25 : decode cX7_film 25 = .ok (.iload_n 2, 1) := by decide +kernel
theorem dX7_film_26 : decode cX7_film 26 = .ok (.invokevirtual 176, 3) := by decide +kernel
theorem dX7_film_29 : decode cX7_film 29 = .ok (.aload_n 0, 1) := by decide +kernel
theorem dX7_film_30 : decode cX7_film 30 = .ok (.getfield 51, 3) := by decide +kernel
theorem dX7_film_33 : decode cX7_film 33 = .ok (.iload_n 1, 1) := by decide +kernel
theorem dX7_film_34 : decode cX7_film 34 = .ok (.aaload, 1) := by decide +kernel
theorem dX7_film_35 : decode cX7_film 35 = .ok (.iconst 2, 1) := by decide +kernel
theorem dX7_film_36 : decode cX7_film 36 = .ok (.bipush 36, 2) := by decide +kernel
theorem dX7_film_38 : decode cX7_film 38 = .ok (.invokevirtual 262, 3) := by decide +kernel
theorem dX7_film_41 : decode cX7_film 41 = .ok (.aload_n 0, 1) := by decide +kernel
theorem dX7_film_42 : decode cX7_film 42 = .ok (.getfield 25, 3) := by decide +kernel
theorem dX7_film_45 : decode cX7_film 45 = .ok (.aload_n 0, 1) := by decide +kernel
theorem dX7_film_46 : decode cX7_film 46 = .ok (.getfield 51, 3) := by decide +kernel
theorem dX7_film_49 : decode cX7_film 49 = .ok (.iload_n 1, 1) := by decide +kernel
theorem dX7_film_50 : decode cX7_film 50 = .ok (.aaload, 1) := by decide +kernel
theorem dX7_film_51 : decode cX7_film 51 = .ok (.getfield 252, 3) := by decide +kernel
theorem dX7_film_54 : decode cX7_film 54 = .ok (.invokevirtual 205, 3) := by decide +kernel
theorem dX7_film_57 : decode cX7_film 57 = .ok (.bipush 36, 2) := by decide +kernel
theorem dX7_film_59 : decode cX7_film 59 = .ok (.ireturn, 1) := by decide +kernel
theorem dX7_drawn_0 : decode cX7_drawn 0 = .ok (.iload_n 1, 1) := by decide +kernel
theorem dX7_drawn_1 : decode cX7_drawn 1 = .ok (.iconst 0, 1) := by decide +kernel
theorem dX7_drawn_2 : decode cX7_drawn 2 = .ok (.ldc_w 265, 3) := by decide +kernel
theorem dX7_drawn_5 : decode cX7_drawn 5 = .ok (.invokestatic 92, 3) := by decide +kernel
theorem dX7_drawn_8 : decode cX7_drawn 8 = .ok (.ifCond .eq 20, 3) := by decide +kernel
theorem dX7_drawn_11 : decode cX7_drawn 11 = .ok (.iload_n 2, 1) := by decide +kernel
theorem dX7_drawn_12 : decode cX7_drawn 12 = .ok (.invokestatic 173, 3) := by decide +kernel
theorem dX7_drawn_15 : decode cX7_drawn 15 = .ok (.ifCond .eq 13, 3) := by decide +kernel
theorem dX7_drawn_18 : decode cX7_drawn 18 = .ok (.iload_n 3, 1) := by decide +kernel
theorem dX7_drawn_19 : decode cX7_drawn 19 = .ok (.iconst 0, 1) := by decide +kernel
theorem dX7_drawn_20 : decode cX7_drawn 20 = .ok (.bipush 8, 2) := by decide +kernel
theorem dX7_drawn_22 : decode cX7_drawn 22 = .ok (.invokestatic 92, 3) := by decide +kernel
theorem dX7_drawn_25 : decode cX7_drawn 25 = .ok (.ifCond .ne 6, 3) := by decide +kernel
theorem dX7_drawn_28 : decode cX7_drawn 28 = .ok (.bipush (-2), 2) := by decide +kernel
theorem dX7_drawn_30 : decode cX7_drawn 30 = .ok (.ireturn, 1) := by decide +kernel
theorem dX7_drawn_31 : decode cX7_drawn 31 = .ok (.aload_n 0, 1) := by decide +kernel
theorem dX7_drawn_32 : decode cX7_drawn 32 = .ok (.getfield 19, 3) := by decide +kernel
theorem dX7_drawn_35 : decode cX7_drawn 35 = .ok (.aload_n 0, 1) := by decide +kernel
theorem dX7_drawn_36 : decode cX7_drawn 36 = .ok (.getfield 10, 3) := by decide +kernel
theorem dX7_drawn_39 : decode cX7_drawn 39 = .ok (.invokevirtual 209, 3) := by decide +kernel
theorem dX7_drawn_42 : decode cX7_drawn 42 = .ok (.aload_n 0, 1) := by decide +kernel
theorem dX7_drawn_43 : decode cX7_drawn 43 = .ok (.getfield 19, 3) := by decide +kernel
theorem dX7_drawn_46 : decode cX7_drawn 46 = .ok (.iload_n 1, 1) := by decide +kernel
theorem dX7_drawn_47 : decode cX7_drawn 47 = .ok (.invokevirtual 266, 3) := by decide +kernel
theorem dX7_drawn_50 : decode cX7_drawn 50 = .ok (.aload_n 0, 1) := by decide +kernel
theorem dX7_drawn_51 : decode cX7_drawn 51 = .ok (.aload_n 0, 1) := by decide +kernel
theorem dX7_drawn_52 : decode cX7_drawn 52 = .ok (.getfield 19, 3) := by decide +kernel
theorem dX7_drawn_55 : decode cX7_drawn 55 = .ok (.iload_n 2, 1) := by decide +kernel
theorem dX7_drawn_56 : decode cX7_drawn 56 = .ok (.invokevirtual 176, 3) := by decide +kernel
theorem dX7_drawn_59 : decode cX7_drawn 59 = .ok (.aload_n 0, 1) := by decide +kernel
theorem dX7_drawn_60 : decode cX7_drawn 60 = .ok (.getfield 25, 3) := by decide +kernel
theorem dX7_drawn_63 : decode cX7_drawn 63 = .ok (.iload_n 3, 1) := by decide +kernel
theorem dX7_drawn_64 : decode cX7_drawn 64 = .ok (.invokevirtual 186, 3) := by decide +kernel
theorem dX7_drawn_67 : decode cX7_drawn 67 = .ok (.ireturn, 1) := by decide +kernel
theorem dX7_odds_0 : decode cX7_odds 0 = .ok (.iload_n 1, 1) := by decide +kernel
theorem dX7_odds_1 : decode cX7_odds 1 = .ok (.iconst 0, 1) := by decide +kernel
theorem dX7_odds_2 : decode cX7_odds 2 = .ok (.ldc_w 265, 3) := by decide +kernel
theorem dX7_odds_5 : decode cX7_odds 5 = .ok (.invokestatic 92, 3) := by decide +kernel
theorem dX7_odds_8 : decode cX7_odds 8 = .ok (.ifCond .eq 13, 3) := by decide +kernel
theorem dX7_odds_11 : decode cX7_odds 11 = .ok (.iload_n 2, 1) := by decide +kernel
theorem dX7_odds_12 : decode cX7_odds 12 = .ok (.iconst 1, 1) := by decide +kernel
theorem dX7_odds_13 : decode cX7_odds 13 = .ok (.bipush 10, 2) := by decide +kernel
theorem dX7_odds_15 : decode cX7_odds 15 = .ok (.invokestatic 92, 3) := by decide +kernel
theorem dX7_odds_18 : decode cX7_odds 18 = .ok (.ifCond .ne 7, 3) := by decide +kernel
theorem dX7_odds_21 : decode cX7_odds 21 = .ok (.ldc2_w 167, 3) := by decide +kernel
theorem dX7_odds_24 : decode cX7_odds 24 = .ok (.lreturn, 1) := by decide +kernel
theorem dX7_odds_25 : decode cX7_odds 25 = .ok (.iload_n 3, 1) := by decide +kernel
theorem dX7_odds_26 : decode cX7_odds 26 = .ok (.iconst 0, 1) := by decide +kernel
theorem dX7_odds_27 : decode cX7_odds 27 = .ok (.sipush 9999, 3) := by decide +kernel
theorem dX7_odds_30 : decode cX7_odds 30 = .ok (.invokestatic 92, 3) := by decide +kernel
theorem dX7_odds_33 : decode cX7_odds 33 = .ok (.ifCond .eq 11, 3) := by decide +kernel
theorem dX7_odds_36 : decode cX7_odds 36 = .ok (.iload 4, 2) := by decide +kernel
theorem dX7_odds_38 : decode cX7_odds 38 = .ok (.invokestatic 192, 3) := by decide +kernel
theorem dX7_odds_41 : decode cX7_odds 41 = .ok (.ifCond .ne 7, 3) := by decide +kernel
theorem dX7_odds_44 : decode cX7_odds 44 = .ok (.ldc2_w 167, 3) := by decide +kernel
theorem dX7_odds_47 : decode cX7_odds 47 = .ok (.lreturn, 1) := by decide +kernel
theorem dX7_odds_48 : decode cX7_odds 48 = .ok (.iconst 0, 1) := by decide +kernel
theorem dX7_odds_49 : decode cX7_odds 49 = .ok (.istore 5, 2) := by decide +kernel
theorem dX7_odds_51 : decode cX7_odds 51 = .ok (.aload_n 0, 1) := by decide +kernel
theorem dX7_odds_52 : decode cX7_odds 52 = .ok (.getfield 19, 3) := by decide +kernel
theorem dX7_odds_55 : decode cX7_odds 55 = .ok (.aload_n 0, 1) := by decide +kernel
theorem dX7_odds_56 : decode cX7_odds 56 = .ok (.getfield 10, 3) := by decide +kernel
theorem dX7_odds_59 : decode cX7_odds 59 = .ok (.invokevirtual 209, 3) := by decide +kernel
theorem dX7_odds_62 : decode cX7_odds 62 = .ok (.iconst 0, 1) := by decide +kernel
theorem dX7_odds_63 : decode cX7_odds 63 = .ok (.istore 6, 2) := by decide +kernel
theorem dX7_odds_65 : decode cX7_odds 65 = .ok (.iload 6, 2) := by decide +kernel
theorem dX7_odds_67 : decode cX7_odds 67 = .ok (.iload_n 2, 1) := by decide +kernel
theorem dX7_odds_68 : decode cX7_odds 68 = .ok (.if_icmp .ge 45, 3) := by decide +kernel
theorem dX7_odds_71 : decode cX7_odds 71 = .ok (.aload_n 0, 1) := by decide +kernel
theorem dX7_odds_72 : decode cX7_odds 72 = .ok (.getfield 19, 3) := by decide +kernel
theorem dX7_odds_75 : decode cX7_odds 75 = .ok (.iload_n 1, 1) := by decide +kernel
theorem dX7_odds_76 : decode cX7_odds 76 = .ok (.iload 6, 2) := by decide +kernel
theorem dX7_odds_78 : decode cX7_odds 78 = .ok (.iadd, 1) := by decide +kernel
theorem dX7_odds_79 : decode cX7_odds 79 = .ok (.invokevirtual 266, 3) := by decide +kernel
theorem dX7_odds_82 : decode cX7_odds 82 = .ok (.aload_n 0, 1) := by decide +kernel
theorem dX7_odds_83 : decode cX7_odds 83 = .ok (.aload_n 0, 1) := by decide +kernel
theorem dX7_odds_84 : decode cX7_odds 84 = .ok (.getfield 19, 3) := by decide +kernel
theorem dX7_odds_87 : decode cX7_odds 87 = .ok (.bipush 14, 2) := by decide +kernel
theorem dX7_odds_89 : decode cX7_odds 89 = .ok (.invokevirtual 176, 3) := by decide +kernel
theorem dX7_odds_92 : decode cX7_odds 92 = .ok (.aload_n 0, 1) := by decide +kernel
theorem dX7_odds_93 : decode cX7_odds 93 = .ok (.getfield 25, 3) := by decide +kernel
theorem dX7_odds_96 : decode cX7_odds 96 = .ok (.iconst 0, 1) := by decide +kernel
theorem dX7_odds_97 : decode cX7_odds 97 = .ok (.invokevirtual 186, 3) := by decide +kernel
theorem dX7_odds_100 : decode cX7_odds 100 = .ok (.iload_n 3, 1) := by decide +kernel
theorem dX7_odds_101 : decode cX7_odds 101 = .ok (.if_icmp .gt 6, 3) := by decide +kernel
theorem dX7_odds_104 : decode cX7_odds 104 = .ok (.iinc 5 1, 3) := by decide +kernel
theorem dX7_odds_107 : decode cX7_odds 107 = .ok (.iinc 6 1, 3) := by decide +kernel
theorem dX7_odds_110 : decode cX7_odds 110 = .ok (.goto (-45), 3) := by decide +kernel
theorem dX7_odds_113 : decode cX7_odds 113 = .ok (.iload 5, 2) := by decide +kernel
theorem dX7_odds_115 : decode cX7_odds 115 = .ok (.iload_n 2, 1) := by decide +kernel
theorem dX7_odds_116 : decode cX7_odds 116 = .ok (.iload 4, 2) := by decide +kernel
theorem dX7_odds_118 : decode cX7_odds 118 = .ok (.invokestatic 244, 3) := by decide +kernel
theorem dX7_odds_121 : decode cX7_odds 121 = .ok (.lreturn, 1) := by decide +kernel
theorem dX7_image_0 : decode cX7_image 0 = .ok (.aload_n 0, 1) := by decide +kernel
theorem dX7_image_1 : decode cX7_image 1 = .ok (.getfield 16, 3) := by decide +kernel
theorem dX7_image_4 : decode cX7_image 4 = .ok (.aload_n 0, 1) := by decide +kernel
theorem dX7_image_5 : decode cX7_image 5 = .ok (.getfield 10, 3) := by decide +kernel
theorem dX7_image_8 : decode cX7_image 8 = .ok (.invokevirtual 209, 3) := by decide +kernel
theorem dX7_image_11 : decode cX7_image 11 = .ok (.aload_n 0, 1) := by decide +kernel
theorem dX7_image_12 : decode cX7_image 12 = .ok (.iconst 1, 1) := by decide +kernel
theorem dX7_image_13 : decode cX7_image 13 = .ok (.putfield 161, 3) := by decide +kernel
theorem dX7_image_16 : decode cX7_image 16 = .ok (.aload_n 0, 1) := by decide +kernel
theorem dX7_image_17 : decode cX7_image 17 = .ok (.getfield 10, 3) := by decide +kernel
theorem dX7_image_20 : decode cX7_image 20 = .ok (.getfield 104, 3) := by decide +kernel
theorem dX7_image_23 : decode cX7_image 23 = .ok (.ireturn, 1) := by decide +kernel
theorem dX7_back_0 : decode cX7_back 0 = .ok (.aload_n 0, 1) := by decide +kernel
theorem dX7_back_1 : decode cX7_back 1 = .ok (.getfield 161, 3) := by decide +kernel
theorem dX7_back_4 : decode cX7_back 4 = .ok (.ifCond .ne 6, 3) := by decide +kernel
theorem dX7_back_7 : decode cX7_back 7 = .ok (.bipush (-3), 2) := by decide +kernel
theorem dX7_back_9 : decode cX7_back 9 = .ok (.ireturn, 1) := by decide +kernel
theorem dX7_back_10 : decode cX7_back 10 = .ok (.aload_n 0, 1) := by decide +kernel
theorem dX7_back_11 : decode cX7_back 11 = .ok (.getfield 10, 3) := by decide +kernel
theorem dX7_back_14 : decode cX7_back 14 = .ok (.aload_n 0, 1) := by decide +kernel
theorem dX7_back_15 : decode cX7_back 15 = .ok (.getfield 16, 3) := by decide +kernel
theorem dX7_back_18 : decode cX7_back 18 = .ok (.invokevirtual 209, 3) := by decide +kernel
theorem dX7_back_21 : decode cX7_back 21 = .ok (.aload_n 0, 1) := by decide +kernel
theorem dX7_back_22 : decode cX7_back 22 = .ok (.getfield 10, 3) := by decide +kernel
theorem dX7_back_25 : decode cX7_back 25 = .ok (.getfield 104, 3) := by decide +kernel
theorem dX7_back_28 : decode cX7_back 28 = .ok (.ireturn, 1) := by decide +kernel
theorem dX7_sheet_0 : decode cX7_sheet 0 = .ok (.iload_n 1, 1) := by decide +kernel
theorem dX7_sheet_1 : decode cX7_sheet 1 = .ok (.invokestatic 259, 3) := by decide +kernel
theorem dX7_sheet_4 : decode cX7_sheet 4 = .ok (.ifCond .eq 12, 3) := by decide +kernel
theorem dX7_sheet_7 : decode cX7_sheet 7 = .ok (.iload_n 2, 1) := by decide +kernel
theorem dX7_sheet_8 : decode cX7_sheet 8 = .ok (.iconst (-1), 1) := by decide +kernel
theorem dX7_sheet_9 : decode cX7_sheet 9 = .ok (.iconst 2, 1) := by decide +kernel
theorem dX7_sheet_10 : decode cX7_sheet 10 = .ok (.invokestatic 92, 3) := by decide +kernel
theorem dX7_sheet_13 : decode cX7_sheet 13 = .ok (.ifCond .ne 6, 3) := by decide +kernel
theorem dX7_sheet_16 : decode cX7_sheet 16 = .ok (.bipush (-2), 2) := by decide +kernel
theorem dX7_sheet_18 : decode cX7_sheet 18 = .ok (.ireturn, 1) := by decide +kernel
theorem dX7_sheet_19 : decode cX7_sheet 19 = .ok (.iload_n 2, 1) := by decide +kernel
theorem dX7_sheet_20 : decode cX7_sheet 20 = .ok (.iconst (-1), 1) := by decide +kernel
theorem dX7_sheet_21 : decode cX7_sheet 21 = .ok (.if_icmp .ne 7, 3) := by decide +kernel
theorem dX7_sheet_24 : decode cX7_sheet 24 = .ok (.iconst 0, 1) := by decide +kernel
theorem dX7_sheet_25 : decode cX7_sheet 25 = .ok (.goto 4, 3) := by decide +kernel
theorem dX7_sheet_28 : decode cX7_sheet 28 = .ok (.iload_n 3, 1) := by decide +kernel
theorem dX7_sheet_29 : decode cX7_sheet 29 = .ok (.istore 4, 2) := by decide +kernel
theorem dX7_sheet_31 : decode cX7_sheet 31 = .ok (.iload 4, 2) := by decide +kernel
theorem dX7_sheet_33 : decode cX7_sheet 33 = .ok (.bipush 40, 2) := by decide +kernel
theorem dX7_sheet_35 : decode cX7_sheet 35 = .ok (.if_icmp .le 6, 3) := by decide +kernel
theorem dX7_sheet_38 : decode cX7_sheet 38 = .ok (.bipush (-2), 2) := by decide +kernel
theorem dX7_sheet_40 : decode cX7_sheet 40 = .ok (.ireturn, 1) := by decide +kernel
theorem dX7_sheet_41 : decode cX7_sheet 41 = .ok (.iload 4, 2) := by decide +kernel
theorem dX7_sheet_43 : decode cX7_sheet 43 = .ok (.ifCond .ge 6, 3) := by decide +kernel
theorem dX7_sheet_46 : decode cX7_sheet 46 = .ok (.bipush (-14), 2) := by decide +kernel
theorem dX7_sheet_48 : decode cX7_sheet 48 = .ok (.ireturn, 1) := by decide +kernel
