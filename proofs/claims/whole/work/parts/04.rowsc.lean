theorem dX7_isChoice_2 : decode cX7_isChoice 2 = .ok (.iconst 1, 1) := by decide +kernel
theorem dX7_isChoice_3 : decode cX7_isChoice 3 = .ok (.invokestatic 92, 3) := by decide +kernel
theorem dX7_isChoice_6 : decode cX7_isChoice 6 = .ok (.ireturn, 1) := by decide +kernel
set_option maxRecDepth 20000 in
theorem ggX7_isByte_X7_within : GoodIn wsX7_isByte wsX7_within := goodIn_r _ [4] (by decide +kernel) (by decide +kernel)
set_option maxRecDepth 20000 in
theorem gX7_isByte_X7_within : GoodIn wsX7_isByte (va_wsS RX7 92 yX7_within wsX7_within) := goodIn_app (goodIn_of _ (by decide +kernel)) ggX7_isByte_X7_within
theorem dX7_isByte_0 : decode cX7_isByte 0 = .ok (.iload_n 0, 1) := by decide +kernel
theorem dX7_isByte_1 : decode cX7_isByte 1 = .ok (.iconst 0, 1) := by decide +kernel
theorem dX7_isByte_2 : decode cX7_isByte 2 = .ok (.sipush 255, 3) := by decide +kernel
theorem dX7_isByte_5 : decode cX7_isByte 5 = .ok (.invokestatic 92, 3) := by decide +kernel
theorem dX7_isByte_8 : decode cX7_isByte 8 = .ok (.ireturn, 1) := by decide +kernel
set_option maxRecDepth 20000 in
theorem ggX7_isSheet_X7_within : GoodIn wsX7_isSheet wsX7_within := goodIn_r _ [4] (by decide +kernel) (by decide +kernel)
set_option maxRecDepth 20000 in
theorem gX7_isSheet_X7_within : GoodIn wsX7_isSheet (va_wsS RX7 92 yX7_within wsX7_within) := goodIn_app (goodIn_of _ (by decide +kernel)) ggX7_isSheet_X7_within
theorem dX7_isSheet_0 : decode cX7_isSheet 0 = .ok (.iload_n 0, 1) := by decide +kernel
theorem dX7_isSheet_1 : decode cX7_isSheet 1 = .ok (.iconst 0, 1) := by decide +kernel
theorem dX7_isSheet_2 : decode cX7_isSheet 2 = .ok (.iconst 3, 1) := by decide +kernel
theorem dX7_isSheet_3 : decode cX7_isSheet 3 = .ok (.invokestatic 92, 3) := by decide +kernel
theorem dX7_isSheet_6 : decode cX7_isSheet 6 = .ok (.ireturn, 1) := by decide +kernel
set_option maxRecDepth 20000 in
theorem ggX7_isKind_X7_within : GoodIn wsX7_isKind wsX7_within := goodIn_r _ [4] (by decide +kernel) (by decide +kernel)
set_option maxRecDepth 20000 in
theorem gX7_isKind_X7_within : GoodIn wsX7_isKind (va_wsS RX7 92 yX7_within wsX7_within) := goodIn_app (goodIn_of _ (by decide +kernel)) ggX7_isKind_X7_within
theorem dX7_isKind_0 : decode cX7_isKind 0 = .ok (.iload_n 0, 1) := by decide +kernel
theorem dX7_isKind_1 : decode cX7_isKind 1 = .ok (.iconst 0, 1) := by decide +kernel
theorem dX7_isKind_2 : decode cX7_isKind 2 = .ok (.iconst 5, 1) := by decide +kernel
theorem dX7_isKind_3 : decode cX7_isKind 3 = .ok (.invokestatic 92, 3) := by decide +kernel
theorem dX7_isKind_6 : decode cX7_isKind 6 = .ok (.ifCond .eq 17, 3) := by decide +kernel
theorem dX7_isKind_9 : decode cX7_isKind 9 = .ok (.iload_n 1, 1) := by decide +kernel
theorem dX7_isKind_10 : decode cX7_isKind 10 = .ok (.iconst 0, 1) := by decide +kernel
theorem dX7_isKind_11 : decode cX7_isKind 11 = .ok (.bipush 99, 2) := by decide +kernel
theorem dX7_isKind_13 : decode cX7_isKind 13 = .ok (.invokestatic 92, 3) := by decide +kernel
theorem dX7_isKind_16 : decode cX7_isKind 16 = .ok (.ifCond .eq 7, 3) := by decide +kernel
theorem dX7_isKind_19 : decode cX7_isKind 19 = .ok (.iconst 1, 1) := by decide +kernel
theorem dX7_isKind_20 : decode cX7_isKind 20 = .ok (.goto 4, 3) := by decide +kernel
theorem dX7_isKind_23 : decode cX7_isKind 23 = .ok (.iconst 0, 1) := by decide +kernel
theorem dX7_isKind_24 : decode cX7_isKind 24 = .ok (.ireturn, 1) := by decide +kernel
set_option maxRecDepth 20000 in
theorem ggX7_isTree_X7_within : GoodIn wsX7_isTree wsX7_within := goodIn_r _ [5] (by decide +kernel) (by decide +kernel)
set_option maxRecDepth 20000 in
theorem gX7_isTree_X7_within : GoodIn wsX7_isTree (va_wsS RX7 92 yX7_within wsX7_within) := goodIn_app (goodIn_of _ (by decide +kernel)) ggX7_isTree_X7_within
theorem dX7_isTree_0 : decode cX7_isTree 0 = .ok (.iload_n 1, 1) := by decide +kernel
theorem dX7_isTree_1 : decode cX7_isTree 1 = .ok (.iconst 0, 1) := by decide +kernel
theorem dX7_isTree_2 : decode cX7_isTree 2 = .ok (.aload_n 0, 1) := by decide +kernel
theorem dX7_isTree_3 : decode cX7_isTree 3 = .ok (.getfield 10, 3) := by decide +kernel
theorem dX7_isTree_6 : decode cX7_isTree 6 = .ok (.getfield 104, 3) := by decide +kernel
theorem dX7_isTree_9 : decode cX7_isTree 9 = .ok (.iconst 1, 1) := by decide +kernel
theorem dX7_isTree_10 : decode cX7_isTree 10 = .ok (.isub, 1) := by decide +kernel
theorem dX7_isTree_11 : decode cX7_isTree 11 = .ok (.invokestatic 92, 3) := by decide +kernel
theorem dX7_isTree_14 : decode cX7_isTree 14 = .ok (.ireturn, 1) := by decide +kernel
theorem dX7_mostOfSky_0 : decode cX7_mostOfSky 0 = .ok (.iload_n 0, 1) := by decide +kernel
theorem dX7_mostOfSky_1 : decode cX7_mostOfSky 1 = .ok (.lookupswitch 32 #[(0, 27), (1, 29)], 27) := by decide +kernel
theorem dX7_mostOfSky_28 : decode cX7_mostOfSky 28 = .ok (.iconst 3, 1) := by decide +kernel
theorem dX7_mostOfSky_29 : decode cX7_mostOfSky 29 = .ok (.ireturn, 1) := by decide +kernel
theorem dX7_mostOfSky_30 : decode cX7_mostOfSky 30 = .ok (.bipush 9, 2) := by decide +kernel
theorem dX7_mostOfSky_32 : decode cX7_mostOfSky 32 = .ok (.ireturn, 1) := by decide +kernel
theorem dX7_mostOfSky_33 : decode cX7_mostOfSky 33 = .ok (.iconst 1, 1) := by decide +kernel
theorem dX7_mostOfSky_34 : decode cX7_mostOfSky 34 = .ok (.ireturn, 1) := by decide +kernel
set_option maxRecDepth 20000 in
theorem ggX7_goThrough_X0_begin : GoodIn wsX7_goThrough wsX0_begin := goodIn_r _ [8, 9, 10, 11, 12, 13, 14, 15, 16, 17, 18, 19, 20, 21, 22, 23, 24, 149, 150, 151, 152, 153, 154, 155, 156, 157, 158, 159, 160, 161, 162, 163, 164, 165, 166, 167, 168, 169] (by decide +kernel) (by decide +kernel)
set_option maxRecDepth 20000 in
theorem gX7_goThrough_X0_begin : GoodIn wsX7_goThrough (wsV RX7 294 RX0 yX0_begin wsX0_begin) := goodIn_app (goodIn_of _ (by decide +kernel)) ggX7_goThrough_X0_begin
set_option maxRecDepth 20000 in
theorem ggX7_goThrough_X0_pass : GoodIn wsX7_goThrough wsX0_pass := goodIn_r _ [28, 9, 29, 30, 31, 7, 32, 33, 34, 35, 36, 37, 15, 38, 39, 40, 41, 16, 42, 43, 44, 45, 46, 47, 48, 49, 50, 51, 52, 53, 54, 55, 56, 57, 58, 59, 60, 61, 62, 63, 64, 65, 66, 67, 17, 68, 69, 70, 10, 11, 12, 13, 71, 72, 73, 74, 75, 76, 77, 78, 79, 80, 81, 82, 83, 84, 85, 86, 87, 88, 89, 90, 91, 92, 93, 94, 18, 95, 96, 97, 98, 14, 99, 100, 101, 102, 103, 104, 105, 106, 107, 108, 109, 110, 111, 112, 113, 114, 115, 116, 117, 118, 119, 120, 121, 122, 123, 124, 125, 126, 127, 128, 129, 130, 131, 132, 20, 19, 133, 134, 135, 136, 21, 22, 23, 24, 149, 150, 151, 152, 153, 154, 155, 156, 157, 158, 159, 160, 161, 162, 163, 164, 165, 166, 167, 168, 169, 170, 171, 172, 173, 174] (by decide +kernel) (by decide +kernel)
set_option maxRecDepth 20000 in
theorem gX7_goThrough_X0_pass : GoodIn wsX7_goThrough (wsV RX7 297 RX0 yX0_pass wsX0_pass) := goodIn_app (goodIn_of _ (by decide +kernel)) ggX7_goThrough_X0_pass
theorem dX7_goThrough_0 : decode cX7_goThrough 0 = .ok (.aload_n 0, 1) := by decide +kernel
theorem dX7_goThrough_1 : decode cX7_goThrough 1 = .ok (.getfield 45, 3) := by decide +kernel
theorem dX7_goThrough_4 : decode cX7_goThrough 4 = .ok (.aload_n 1, 1) := by decide +kernel
theorem dX7_goThrough_5 : decode cX7_goThrough 5 = .ok (.getfield 110, 3) := by decide +kernel
theorem dX7_goThrough_8 : decode cX7_goThrough 8 = .ok (.aaload, 1) := by decide +kernel
theorem dX7_goThrough_9 : decode cX7_goThrough 9 = .ok (.astore_n 3, 1) := by decide +kernel
theorem dX7_goThrough_10 : decode cX7_goThrough 10 = .ok (.aload_n 0, 1) := by decide +kernel
theorem dX7_goThrough_11 : decode cX7_goThrough 11 = .ok (.getfield 25, 3) := by decide +kernel
theorem dX7_goThrough_14 : decode cX7_goThrough 14 = .ok (.aload_n 1, 1) := by decide +kernel
theorem dX7_goThrough_15 : decode cX7_goThrough 15 = .ok (.invokevirtual 294, 3) := by decide +kernel
theorem dX7_goThrough_18 : decode cX7_goThrough 18 = .ok (.iconst 0, 1) := by decide +kernel
theorem dX7_goThrough_19 : decode cX7_goThrough 19 = .ok (.istore 4, 2) := by decide +kernel
theorem dX7_goThrough_21 : decode cX7_goThrough 21 = .ok (.iload 4, 2) := by decide +kernel
theorem dX7_goThrough_23 : decode cX7_goThrough 23 = .ok (.iload_n 2, 1) := by decide +kernel
theorem dX7_goThrough_24 : decode cX7_goThrough 24 = .ok (.if_icmp .ge 24, 3) := by decide +kernel
theorem dX7_goThrough_27 : decode cX7_goThrough 27 = .ok (.aload_n 0, 1) := by decide +kernel
theorem dX7_goThrough_28 : decode cX7_goThrough 28 = .ok (.getfield 25, 3) := by decide +kernel
theorem dX7_goThrough_31 : decode cX7_goThrough 31 = .ok (.aload_n 1, 1) := by decide +kernel
theorem dX7_goThrough_32 : decode cX7_goThrough 32 = .ok (.aload_n 3, 1) := by decide +kernel
theorem dX7_goThrough_33 : decode cX7_goThrough 33 = .ok (.iload 4, 2) := by decide +kernel
theorem dX7_goThrough_35 : decode cX7_goThrough 35 = .ok (.aload_n 0, 1) := by decide +kernel
theorem dX7_goThrough_36 : decode cX7_goThrough 36 = .ok (.getfield 32, 3) := by decide +kernel
theorem dX7_goThrough_39 : decode cX7_goThrough 39 = .ok (.invokevirtual 297, 3) := by decide +kernel
theorem dX7_goThrough_42 : decode cX7_goThrough 42 = .ok (.iinc 4 1, 3) := by decide +kernel
theorem dX7_goThrough_45 : decode cX7_goThrough 45 = .ok (.goto (-24), 3) := by decide +kernel
theorem dX7_goThrough_48 : decode cX7_goThrough 48 = .ok (.return_, 1) := by decide +kernel
theorem dX7_firstOfMost_0 : decode cX7_firstOfMost 0 = .ok (.iconst 0, 1) := by decide +kernel
theorem dX7_firstOfMost_1 : decode cX7_firstOfMost 1 = .ok (.istore_n 3, 1) := by decide +kernel
theorem dX7_firstOfMost_2 : decode cX7_firstOfMost 2 = .ok (.iconst 1, 1) := by decide +kernel
theorem dX7_firstOfMost_3 : decode cX7_firstOfMost 3 = .ok (.istore 4, 2) := by decide +kernel
theorem dX7_firstOfMost_5 : decode cX7_firstOfMost 5 = .ok (.iload 4, 2) := by decide +kernel
theorem dX7_firstOfMost_7 : decode cX7_firstOfMost 7 = .ok (.iload_n 1, 1) := by decide +kernel
theorem dX7_firstOfMost_8 : decode cX7_firstOfMost 8 = .ok (.if_icmp .ge 22, 3) := by decide +kernel
theorem dX7_firstOfMost_11 : decode cX7_firstOfMost 11 = .ok (.aload_n 0, 1) := by decide +kernel
theorem dX7_firstOfMost_12 : decode cX7_firstOfMost 12 = .ok (.iload 4, 2) := by decide +kernel
theorem dX7_firstOfMost_14 : decode cX7_firstOfMost 14 = .ok (.iaload, 1) := by decide +kernel
theorem dX7_firstOfMost_15 : decode cX7_firstOfMost 15 = .ok (.aload_n 0, 1) := by decide +kernel
theorem dX7_firstOfMost_16 : decode cX7_firstOfMost 16 = .ok (.iload_n 3, 1) := by decide +kernel
theorem dX7_firstOfMost_17 : decode cX7_firstOfMost 17 = .ok (.iaload, 1) := by decide +kernel
theorem dX7_firstOfMost_18 : decode cX7_firstOfMost 18 = .ok (.if_icmp .le 6, 3) := by decide +kernel
theorem dX7_firstOfMost_21 : decode cX7_firstOfMost 21 = .ok (.iload 4, 2) := by decide +kernel
theorem dX7_firstOfMost_23 : decode cX7_firstOfMost 23 = .ok (.istore_n 3, 1) := by decide +kernel
theorem dX7_firstOfMost_24 : decode cX7_firstOfMost 24 = .ok (.iinc 4 1, 3) := by decide +kernel
theorem dX7_firstOfMost_27 : decode cX7_firstOfMost 27 = .ok (.goto (-22), 3) := by decide +kernel
theorem dX7_firstOfMost_30 : decode cX7_firstOfMost 30 = .ok (.iload_n 2, 1) := by decide +kernel
theorem dX7_firstOfMost_31 : decode cX7_firstOfMost 31 = .ok (.ifCond .ne 7, 3) := by decide +kernel
theorem dX7_firstOfMost_34 : decode cX7_firstOfMost 34 = .ok (.iload_n 3, 1) := by decide +kernel
theorem dX7_firstOfMost_35 : decode cX7_firstOfMost 35 = .ok (.goto 6, 3) := by decide +kernel
theorem dX7_firstOfMost_38 : decode cX7_firstOfMost 38 = .ok (.aload_n 0, 1) := by decide +kernel
theorem dX7_firstOfMost_39 : decode cX7_firstOfMost 39 = .ok (.iload_n 3, 1) := by decide +kernel
theorem dX7_firstOfMost_40 : decode cX7_firstOfMost 40 = .ok (.iaload, 1) := by decide +kernel
theorem dX7_firstOfMost_41 : decode cX7_firstOfMost 41 = .ok (.ireturn, 1) := by decide +kernel
theorem dX7_chosenSaturdays_0 : decode cX7_chosenSaturdays 0 = .ok (.iload_n 0, 1) := by decide +kernel
theorem dX7_chosenSaturdays_1 : decode cX7_chosenSaturdays 1 = .ok (.iconst 1, 1) := by decide +kernel
theorem dX7_chosenSaturdays_2 : decode cX7_chosenSaturdays 2 = .ok (.iand, 1) := by decide +kernel
theorem dX7_chosenSaturdays_3 : decode cX7_chosenSaturdays 3 = .ok (.iconst 3, 1) := by decide +kernel
theorem dX7_chosenSaturdays_4 : decode cX7_chosenSaturdays 4 = .ok (.ishl, 1) := by decide +kernel
theorem dX7_chosenSaturdays_5 : decode cX7_chosenSaturdays 5 = .ok (.iload_n 0, 1) := by decide +kernel
theorem dX7_chosenSaturdays_6 : decode cX7_chosenSaturdays 6 = .ok (.iconst 2, 1) := by decide +kernel
theorem dX7_chosenSaturdays_7 : decode cX7_chosenSaturdays 7 = .ok (.iand, 1) := by decide +kernel
theorem dX7_chosenSaturdays_8 : decode cX7_chosenSaturdays 8 = .ok (.iconst 5, 1) := by decide +kernel
theorem dX7_chosenSaturdays_9 : decode cX7_chosenSaturdays 9 = .ok (.ishl, 1) := by decide +kernel
theorem dX7_chosenSaturdays_10 : decode cX7_chosenSaturdays 10 = .ok (.ior, 1) := by decide +kernel
theorem dX7_chosenSaturdays_11 : decode cX7_chosenSaturdays 11 = .ok (.iload_n 0, 1) := by decide +kernel
theorem dX7_chosenSaturdays_12 : decode cX7_chosenSaturdays 12 = .ok (.iconst 4, 1) := by decide +kernel
theorem dX7_chosenSaturdays_13 : decode cX7_chosenSaturdays 13 = .ok (.iand, 1) := by decide +kernel
theorem dX7_chosenSaturdays_14 : decode cX7_chosenSaturdays 14 = .ok (.bipush 8, 2) := by decide +kernel
theorem dX7_chosenSaturdays_16 : decode cX7_chosenSaturdays 16 = .ok (.ishl, 1) := by decide +kernel
theorem dX7_chosenSaturdays_17 : decode cX7_chosenSaturdays 17 = .ok (.ior, 1) := by decide +kernel
theorem dX7_chosenSaturdays_18 : decode cX7_chosenSaturdays 18 = .ok (.iload_n 0, 1) := by decide +kernel
theorem dX7_chosenSaturdays_19 : decode cX7_chosenSaturdays 19 = .ok (.bipush 8, 2) := by decide +kernel
theorem dX7_chosenSaturdays_21 : decode cX7_chosenSaturdays 21 = .ok (.iand, 1) := by decide +kernel
theorem dX7_chosenSaturdays_22 : decode cX7_chosenSaturdays 22 = .ok (.bipush 10, 2) := by decide +kernel
theorem dX7_chosenSaturdays_24 : decode cX7_chosenSaturdays 24 = .ok (.ishl, 1) := by decide +kernel
theorem dX7_chosenSaturdays_25 : decode cX7_chosenSaturdays 25 = .ok (.ior, 1) := by decide +kernel
theorem dX7_chosenSaturdays_26 : decode cX7_chosenSaturdays 26 = .ok (.ireturn, 1) := by decide +kernel
set_option maxRecDepth 20000 in
theorem ggX7_bestHeap_X1_cost : GoodIn wsX7_bestHeap wsX1_cost := goodIn_r _ [7, 8, 9, 10, 6, 11, 12, 13, 14, 15, 16, 17, 18, 19, 20, 21, 22, 23, 24, 25, 26, 27, 28, 29, 30, 53] (by decide +kernel) (by decide +kernel)
set_option maxRecDepth 20000 in
theorem gX7_bestHeap_X1_cost : GoodIn wsX7_bestHeap (wsV RX7 225 RX1 yX1_cost wsX1_cost) := goodIn_app (goodIn_of _ (by decide +kernel)) ggX7_bestHeap_X1_cost
theorem dX7_bestHeap_0 : decode cX7_bestHeap 0 = .ok (.iconst (-1), 1) := by decide +kernel
theorem dX7_bestHeap_1 : decode cX7_bestHeap 1 = .ok (.istore_n 2, 1) := by decide +kernel
theorem dX7_bestHeap_2 : decode cX7_bestHeap 2 = .ok (.iconst (-1), 1) := by decide +kernel
theorem dX7_bestHeap_3 : decode cX7_bestHeap 3 = .ok (.istore_n 3, 1) := by decide +kernel
theorem dX7_bestHeap_4 : decode cX7_bestHeap 4 = .ok (.iconst 0, 1) := by decide +kernel
theorem dX7_bestHeap_5 : decode cX7_bestHeap 5 = .ok (.istore 4, 2) := by decide +kernel
theorem dX7_bestHeap_7 : decode cX7_bestHeap 7 = .ok (.iload 4, 2) := by decide +kernel
theorem dX7_bestHeap_9 : decode cX7_bestHeap 9 = .ok (.bipush 36, 2) := by decide +kernel
theorem dX7_bestHeap_11 : decode cX7_bestHeap 11 = .ok (.if_icmp .ge 46, 3) := by decide +kernel
theorem dX7_bestHeap_14 : decode cX7_bestHeap 14 = .ok (.aload_n 0, 1) := by decide +kernel
theorem dX7_bestHeap_15 : decode cX7_bestHeap 15 = .ok (.getfield 32, 3) := by decide +kernel
theorem dX7_bestHeap_18 : decode cX7_bestHeap 18 = .ok (.lconst 1, 1) := by decide +kernel
theorem dX7_bestHeap_19 : decode cX7_bestHeap 19 = .ok (.iload 4, 2) := by decide +kernel
theorem dX7_bestHeap_21 : decode cX7_bestHeap 21 = .ok (.lshl, 1) := by decide +kernel
theorem dX7_bestHeap_22 : decode cX7_bestHeap 22 = .ok (.aload_n 0, 1) := by decide +kernel
theorem dX7_bestHeap_23 : decode cX7_bestHeap 23 = .ok (.getfield 25, 3) := by decide +kernel
theorem dX7_bestHeap_26 : decode cX7_bestHeap 26 = .ok (.getfield 183, 3) := by decide +kernel
theorem dX7_bestHeap_29 : decode cX7_bestHeap 29 = .ok (.invokevirtual 225, 3) := by decide +kernel
theorem dX7_bestHeap_32 : decode cX7_bestHeap 32 = .ok (.istore 5, 2) := by decide +kernel
theorem dX7_bestHeap_34 : decode cX7_bestHeap 34 = .ok (.iload_n 2, 1) := by decide +kernel
theorem dX7_bestHeap_35 : decode cX7_bestHeap 35 = .ok (.iconst (-1), 1) := by decide +kernel
theorem dX7_bestHeap_36 : decode cX7_bestHeap 36 = .ok (.if_icmp .eq 9, 3) := by decide +kernel
theorem dX7_bestHeap_39 : decode cX7_bestHeap 39 = .ok (.iload 5, 2) := by decide +kernel
theorem dX7_bestHeap_41 : decode cX7_bestHeap 41 = .ok (.iload_n 3, 1) := by decide +kernel
theorem dX7_bestHeap_42 : decode cX7_bestHeap 42 = .ok (.if_icmp .ge 9, 3) := by decide +kernel
theorem dX7_bestHeap_45 : decode cX7_bestHeap 45 = .ok (.iload 4, 2) := by decide +kernel
theorem dX7_bestHeap_47 : decode cX7_bestHeap 47 = .ok (.istore_n 2, 1) := by decide +kernel
theorem dX7_bestHeap_48 : decode cX7_bestHeap 48 = .ok (.iload 5, 2) := by decide +kernel
theorem dX7_bestHeap_50 : decode cX7_bestHeap 50 = .ok (.istore_n 3, 1) := by decide +kernel
theorem dX7_bestHeap_51 : decode cX7_bestHeap 51 = .ok (.iinc 4 1, 3) := by decide +kernel
theorem dX7_bestHeap_54 : decode cX7_bestHeap 54 = .ok (.goto (-47), 3) := by decide +kernel
theorem dX7_bestHeap_57 : decode cX7_bestHeap 57 = .ok (.iload_n 1, 1) := by decide +kernel
theorem dX7_bestHeap_58 : decode cX7_bestHeap 58 = .ok (.ifCond .ne 7, 3) := by decide +kernel
theorem dX7_bestHeap_61 : decode cX7_bestHeap 61 = .ok (.iload_n 2, 1) := by decide +kernel
theorem dX7_bestHeap_62 : decode cX7_bestHeap 62 = .ok (.goto 4, 3) := by decide +kernel
theorem dX7_bestHeap_65 : decode cX7_bestHeap 65 = .ok (.iload_n 3, 1) := by decide +kernel
theorem dX7_bestHeap_66 : decode cX7_bestHeap 66 = .ok (.ireturn, 1) := by decide +kernel
set_option maxRecDepth 20000 in
theorem ggX7_bestTwoHeaps_X1_cost : GoodIn wsX7_bestTwoHeaps wsX1_cost := goodIn_r _ [7, 8, 9, 10, 6, 11, 12, 13, 14, 15, 16, 17, 18, 19, 20, 21, 22, 23, 24, 25, 26, 27, 28, 29, 30, 53] (by decide +kernel) (by decide +kernel)
set_option maxRecDepth 20000 in
theorem gX7_bestTwoHeaps_X1_cost : GoodIn wsX7_bestTwoHeaps (wsV RX7 225 RX1 yX1_cost wsX1_cost) := goodIn_app (goodIn_of _ (by decide +kernel)) ggX7_bestTwoHeaps_X1_cost
theorem dX7_bestTwoHeaps_0 : decode cX7_bestTwoHeaps 0 = .ok (.iconst (-1), 1) := by decide +kernel
theorem dX7_bestTwoHeaps_1 : decode cX7_bestTwoHeaps 1 = .ok (.istore_n 2, 1) := by decide +kernel
theorem dX7_bestTwoHeaps_2 : decode cX7_bestTwoHeaps 2 = .ok (.iconst (-1), 1) := by decide +kernel
theorem dX7_bestTwoHeaps_3 : decode cX7_bestTwoHeaps 3 = .ok (.istore_n 3, 1) := by decide +kernel
theorem dX7_bestTwoHeaps_4 : decode cX7_bestTwoHeaps 4 = .ok (.iconst 0, 1) := by decide +kernel
theorem dX7_bestTwoHeaps_5 : decode cX7_bestTwoHeaps 5 = .ok (.istore 4, 2) := by decide +kernel
theorem dX7_bestTwoHeaps_7 : decode cX7_bestTwoHeaps 7 = .ok (.iload 4, 2) := by decide +kernel
theorem dX7_bestTwoHeaps_9 : decode cX7_bestTwoHeaps 9 = .ok (.bipush 36, 2) := by decide +kernel
theorem dX7_bestTwoHeaps_11 : decode cX7_bestTwoHeaps 11 = .ok (.if_icmp .ge 76, 3) := by decide +kernel
theorem dX7_bestTwoHeaps_14 : decode cX7_bestTwoHeaps 14 = .ok (.iload 4, 2) := by decide +kernel
theorem dX7_bestTwoHeaps_16 : decode cX7_bestTwoHeaps 16 = .ok (.iconst 1, 1) := by decide +kernel
theorem dX7_bestTwoHeaps_17 : decode cX7_bestTwoHeaps 17 = .ok (.iadd, 1) := by decide +kernel
theorem dX7_bestTwoHeaps_18 : decode cX7_bestTwoHeaps 18 = .ok (.istore 5, 2) := by decide +kernel
theorem dX7_bestTwoHeaps_20 : decode cX7_bestTwoHeaps 20 = .ok (.iload 5, 2) := by decide +kernel
theorem dX7_bestTwoHeaps_22 : decode cX7_bestTwoHeaps 22 = .ok (.bipush 36, 2) := by decide +kernel
theorem dX7_bestTwoHeaps_24 : decode cX7_bestTwoHeaps 24 = .ok (.if_icmp .ge 57, 3) := by decide +kernel
theorem dX7_bestTwoHeaps_27 : decode cX7_bestTwoHeaps 27 = .ok (.aload_n 0, 1) := by decide +kernel
theorem dX7_bestTwoHeaps_28 : decode cX7_bestTwoHeaps 28 = .ok (.getfield 32, 3) := by decide +kernel
theorem dX7_bestTwoHeaps_31 : decode cX7_bestTwoHeaps 31 = .ok (.lconst 1, 1) := by decide +kernel
theorem dX7_bestTwoHeaps_32 : decode cX7_bestTwoHeaps 32 = .ok (.iload 4, 2) := by decide +kernel
theorem dX7_bestTwoHeaps_34 : decode cX7_bestTwoHeaps 34 = .ok (.lshl, 1) := by decide +kernel
theorem dX7_bestTwoHeaps_35 : decode cX7_bestTwoHeaps 35 = .ok (.lconst 1, 1) := by decide +kernel
theorem dX7_bestTwoHeaps_36 : decode cX7_bestTwoHeaps 36 = .ok (.iload 5, 2) := by decide +kernel
theorem dX7_bestTwoHeaps_38 : decode cX7_bestTwoHeaps 38 = .ok (.lshl, 1) := by decide +kernel
theorem dX7_bestTwoHeaps_39 : decode cX7_bestTwoHeaps 39 = .ok (.lor, 1) := by decide +kernel
theorem dX7_bestTwoHeaps_40 : decode cX7_bestTwoHeaps 40 = .ok (.aload_n 0, 1) := by decide +kernel
theorem dX7_bestTwoHeaps_41 : decode cX7_bestTwoHeaps 41 = .ok (.getfield 25, 3) := by decide +kernel
theorem dX7_bestTwoHeaps_44 : decode cX7_bestTwoHeaps 44 = .ok (.getfield 183, 3) := by decide +kernel
theorem dX7_bestTwoHeaps_47 : decode cX7_bestTwoHeaps 47 = .ok (.invokevirtual 225, 3) := by decide +kernel
theorem dX7_bestTwoHeaps_50 : decode cX7_bestTwoHeaps 50 = .ok (.istore 6, 2) := by decide +kernel
theorem dX7_bestTwoHeaps_52 : decode cX7_bestTwoHeaps 52 = .ok (.iload_n 2, 1) := by decide +kernel
theorem dX7_bestTwoHeaps_53 : decode cX7_bestTwoHeaps 53 = .ok (.iconst (-1), 1) := by decide +kernel
theorem dX7_bestTwoHeaps_54 : decode cX7_bestTwoHeaps 54 = .ok (.if_icmp .eq 9, 3) := by decide +kernel
theorem dX7_bestTwoHeaps_57 : decode cX7_bestTwoHeaps 57 = .ok (.iload 6, 2) := by decide +kernel
theorem dX7_bestTwoHeaps_59 : decode cX7_bestTwoHeaps 59 = .ok (.iload_n 3, 1) := by decide +kernel
theorem dX7_bestTwoHeaps_60 : decode cX7_bestTwoHeaps 60 = .ok (.if_icmp .ge 15, 3) := by decide +kernel
theorem dX7_bestTwoHeaps_63 : decode cX7_bestTwoHeaps 63 = .ok (.bipush 100, 2) := by decide +kernel
theorem dX7_bestTwoHeaps_65 : decode cX7_bestTwoHeaps 65 = .ok (.iload 4, 2) := by decide +kernel
theorem dX7_bestTwoHeaps_67 : decode cX7_bestTwoHeaps 67 = .ok (.imul, 1) := by decide +kernel
theorem dX7_bestTwoHeaps_68 : decode cX7_bestTwoHeaps 68 = .ok (.iload 5, 2) := by decide +kernel
theorem dX7_bestTwoHeaps_70 : decode cX7_bestTwoHeaps 70 = .ok (.iadd, 1) := by decide +kernel
theorem dX7_bestTwoHeaps_71 : decode cX7_bestTwoHeaps 71 = .ok (.istore_n 2, 1) := by decide +kernel
theorem dX7_bestTwoHeaps_72 : decode cX7_bestTwoHeaps 72 = .ok (.iload 6, 2) := by decide +kernel
theorem dX7_bestTwoHeaps_74 : decode cX7_bestTwoHeaps 74 = .ok (.istore_n 3, 1) := by decide +kernel
theorem dX7_bestTwoHeaps_75 : decode cX7_bestTwoHeaps 75 = .ok (.iinc 5 1, 3) := by decide +kernel
theorem dX7_bestTwoHeaps_78 : decode cX7_bestTwoHeaps 78 = .ok (.goto (-58), 3) := by decide +kernel
theorem dX7_bestTwoHeaps_81 : decode cX7_bestTwoHeaps 81 = .ok (.iinc 4 1, 3) := by decide +kernel
theorem dX7_bestTwoHeaps_84 : decode cX7_bestTwoHeaps 84 = .ok (.goto (-77), 3) := by decide +kernel
theorem dX7_bestTwoHeaps_87 : decode cX7_bestTwoHeaps 87 = .ok (.iload_n 1, 1) := by decide +kernel
theorem dX7_bestTwoHeaps_88 : decode cX7_bestTwoHeaps 88 = .ok (.ifCond .ne 7, 3) := by decide +kernel
theorem dX7_bestTwoHeaps_91 : decode cX7_bestTwoHeaps 91 = .ok (.iload_n 2, 1) := by decide +kernel
theorem dX7_bestTwoHeaps_92 : decode cX7_bestTwoHeaps 92 = .ok (.goto 4, 3) := by decide +kernel
theorem dX7_bestTwoHeaps_95 : decode cX7_bestTwoHeaps 95 = .ok (.iload_n 3, 1) := by decide +kernel
theorem dX7_bestTwoHeaps_96 : decode cX7_bestTwoHeaps 96 = .ok (.ireturn, 1) := by decide +kernel
theorem dX7_inLowestTerms_0 : decode cX7_inLowestTerms 0 = .ok (.iload_n 1, 1) := by decide +kernel
theorem dX7_inLowestTerms_1 : decode cX7_inLowestTerms 1 = .ok (.istore_n 3, 1) := by decide +kernel
theorem dX7_inLowestTerms_2 : decode cX7_inLowestTerms 2 = .ok (.iload_n 0, 1) := by decide +kernel
theorem dX7_inLowestTerms_3 : decode cX7_inLowestTerms 3 = .ok (.istore 4, 2) := by decide +kernel
theorem dX7_inLowestTerms_5 : decode cX7_inLowestTerms 5 = .ok (.iconst 0, 1) := by decide +kernel
theorem dX7_inLowestTerms_6 : decode cX7_inLowestTerms 6 = .ok (.istore 5, 2) := by decide +kernel
theorem dX7_inLowestTerms_8 : decode cX7_inLowestTerms 8 = .ok (.iload 5, 2) := by decide +kernel
theorem dX7_inLowestTerms_10 : decode cX7_inLowestTerms 10 = .ok (.bipush 64, 2) := by decide +kernel
theorem dX7_inLowestTerms_12 : decode cX7_inLowestTerms 12 = .ok (.if_icmp .ge 27, 3) := by decide +kernel
theorem dX7_inLowestTerms_15 : decode cX7_inLowestTerms 15 = .ok (.iload 4, 2) := by decide +kernel
theorem dX7_inLowestTerms_17 : decode cX7_inLowestTerms 17 = .ok (.ifCond .eq 22, 3) := by decide +kernel
theorem dX7_inLowestTerms_20 : decode cX7_inLowestTerms 20 = .ok (.iload_n 3, 1) := by decide +kernel
theorem dX7_inLowestTerms_21 : decode cX7_inLowestTerms 21 = .ok (.iload 4, 2) := by decide +kernel
theorem dX7_inLowestTerms_23 : decode cX7_inLowestTerms 23 = .ok (.irem, 1) := by decide +kernel
theorem dX7_inLowestTerms_24 : decode cX7_inLowestTerms 24 = .ok (.istore 6, 2) := by decide +kernel
theorem dX7_inLowestTerms_26 : decode cX7_inLowestTerms 26 = .ok (.iload 4, 2) := by decide +kernel
theorem dX7_inLowestTerms_28 : decode cX7_inLowestTerms 28 = .ok (.istore_n 3, 1) := by decide +kernel
theorem dX7_inLowestTerms_29 : decode cX7_inLowestTerms 29 = .ok (.iload 6, 2) := by decide +kernel
theorem dX7_inLowestTerms_31 : decode cX7_inLowestTerms 31 = .ok (.istore 4, 2) := by decide +kernel
theorem dX7_inLowestTerms_33 : decode cX7_inLowestTerms 33 = .ok (.iinc 5 1, 3) := by decide +kernel
theorem dX7_inLowestTerms_36 : decode cX7_inLowestTerms 36 = .ok (.goto (-28), 3) := by decide +kernel
theorem dX7_inLowestTerms_39 : decode cX7_inLowestTerms 39 = .ok (.iload_n 3, 1) := by decide +kernel
theorem dX7_inLowestTerms_40 : decode cX7_inLowestTerms 40 = .ok (.ifCond .ne 7, 3) := by decide +kernel
theorem dX7_inLowestTerms_43 : decode cX7_inLowestTerms 43 = .ok (.ldc2_w 167, 3) := by decide +kernel
theorem dX7_inLowestTerms_46 : decode cX7_inLowestTerms 46 = .ok (.lreturn, 1) := by decide +kernel
theorem dX7_inLowestTerms_47 : decode cX7_inLowestTerms 47 = .ok (.iload_n 2, 1) := by decide +kernel
theorem dX7_inLowestTerms_48 : decode cX7_inLowestTerms 48 = .ok (.ifCond .ne 7, 3) := by decide +kernel
theorem dX7_inLowestTerms_51 : decode cX7_inLowestTerms 51 = .ok (.iload_n 0, 1) := by decide +kernel
theorem dX7_inLowestTerms_52 : decode cX7_inLowestTerms 52 = .ok (.goto 4, 3) := by decide +kernel
theorem dX7_inLowestTerms_55 : decode cX7_inLowestTerms 55 = .ok (.iload_n 1, 1) := by decide +kernel
theorem dX7_inLowestTerms_56 : decode cX7_inLowestTerms 56 = .ok (.iload_n 3, 1) := by decide +kernel
theorem dX7_inLowestTerms_57 : decode cX7_inLowestTerms 57 = .ok (.idiv, 1) := by decide +kernel
theorem dX7_inLowestTerms_58 : decode cX7_inLowestTerms 58 = .ok (.i2l, 1) := by decide +kernel
theorem dX7_inLowestTerms_59 : decode cX7_inLowestTerms 59 = .ok (.lreturn, 1) := by decide +kernel
set_option maxRecDepth 20000 in
theorem ggX7_refusalOfLook_X7_isSheet : GoodIn wsX7_refusalOfLook wsX7_isSheet := goodIn_r _ [5, 6, 7, 4, 8] (by decide +kernel) (by decide +kernel)
set_option maxRecDepth 20000 in
theorem gX7_refusalOfLook_X7_isSheet : GoodIn wsX7_refusalOfLook (va_wsS RX7 259 yX7_isSheet wsX7_isSheet) := goodIn_app (goodIn_of _ (by decide +kernel)) ggX7_refusalOfLook_X7_isSheet
set_option maxRecDepth 20000 in
theorem ggX7_refusalOfLook_X6_isMissing : GoodIn wsX7_refusalOfLook wsX6_isMissing := goodIn_r _ [13, 14, 27, 28, 29] (by decide +kernel) (by decide +kernel)
set_option maxRecDepth 20000 in
theorem gX7_refusalOfLook_X6_isMissing : GoodIn wsX7_refusalOfLook (wsV RX7 269 RX6 yX6_isMissing wsX6_isMissing) := goodIn_app (goodIn_of _ (by decide +kernel)) ggX7_refusalOfLook_X6_isMissing
set_option maxRecDepth 20000 in
theorem ggX7_refusalOfLook_X7_within : GoodIn wsX7_refusalOfLook wsX7_within := goodIn_r _ [8] (by decide +kernel) (by decide +kernel)
set_option maxRecDepth 20000 in
theorem gX7_refusalOfLook_X7_within : GoodIn wsX7_refusalOfLook (va_wsS RX7 92 yX7_within wsX7_within) := goodIn_app (goodIn_of _ (by decide +kernel)) ggX7_refusalOfLook_X7_within
theorem dX7_refusalOfLook_0 : decode cX7_refusalOfLook 0 = .ok (.iload_n 1, 1) := by decide +kernel
theorem dX7_refusalOfLook_1 : decode cX7_refusalOfLook 1 = .ok (.invokestatic 259, 3) := by decide +kernel
theorem dX7_refusalOfLook_4 : decode cX7_refusalOfLook 4 = .ok (.ifCond .ne 6, 3) := by decide +kernel
theorem dX7_refusalOfLook_7 : decode cX7_refusalOfLook 7 = .ok (.bipush (-2), 2) := by decide +kernel
theorem dX7_refusalOfLook_9 : decode cX7_refusalOfLook 9 = .ok (.ireturn, 1) := by decide +kernel
theorem dX7_refusalOfLook_10 : decode cX7_refusalOfLook 10 = .ok (.aload_n 0, 1) := by decide +kernel
theorem dX7_refusalOfLook_11 : decode cX7_refusalOfLook 11 = .ok (.getfield 51, 3) := by decide +kernel
theorem dX7_refusalOfLook_14 : decode cX7_refusalOfLook 14 = .ok (.iload_n 1, 1) := by decide +kernel
theorem dX7_refusalOfLook_15 : decode cX7_refusalOfLook 15 = .ok (.aaload, 1) := by decide +kernel
theorem dX7_refusalOfLook_16 : decode cX7_refusalOfLook 16 = .ok (.invokevirtual 269, 3) := by decide +kernel
theorem dX7_refusalOfLook_19 : decode cX7_refusalOfLook 19 = .ok (.ifCond .eq 6, 3) := by decide +kernel
theorem dX7_refusalOfLook_22 : decode cX7_refusalOfLook 22 = .ok (.bipush (-11), 2) := by decide +kernel
theorem dX7_refusalOfLook_24 : decode cX7_refusalOfLook 24 = .ok (.ireturn, 1) := by decide +kernel
theorem dX7_refusalOfLook_25 : decode cX7_refusalOfLook 25 = .ok (.aload_n 0, 1) := by decide +kernel
theorem dX7_refusalOfLook_26 : decode cX7_refusalOfLook 26 = .ok (.getfield 51, 3) := by decide +kernel
theorem dX7_refusalOfLook_29 : decode cX7_refusalOfLook 29 = .ok (.iload_n 1, 1) := by decide +kernel
theorem dX7_refusalOfLook_30 : decode cX7_refusalOfLook 30 = .ok (.aaload, 1) := by decide +kernel
theorem dX7_refusalOfLook_31 : decode cX7_refusalOfLook 31 = .ok (.getfield 273, 3) := by decide +kernel
theorem dX7_refusalOfLook_34 : decode cX7_refusalOfLook 34 = .ok (.bipush 36, 2) := by decide +kernel
theorem dX7_refusalOfLook_36 : decode cX7_refusalOfLook 36 = .ok (.if_icmp .eq 6, 3) := by decide +kernel
theorem dX7_refusalOfLook_39 : decode cX7_refusalOfLook 39 = .ok (.bipush (-2), 2) := by decide +kernel
theorem dX7_refusalOfLook_41 : decode cX7_refusalOfLook 41 = .ok (.ireturn, 1) := by decide +kernel
theorem dX7_refusalOfLook_42 : decode cX7_refusalOfLook 42 = .ok (.iload_n 2, 1) := by decide +kernel
theorem dX7_refusalOfLook_43 : decode cX7_refusalOfLook 43 = .ok (.iload_n 3, 1) := by decide +kernel
theorem dX7_refusalOfLook_44 : decode cX7_refusalOfLook 44 = .ok (.bipush 14, 2) := by decide +kernel
theorem dX7_refusalOfLook_46 : decode cX7_refusalOfLook 46 = .ok (.invokestatic 92, 3) := by decide +kernel
theorem dX7_refusalOfLook_49 : decode cX7_refusalOfLook 49 = .ok (.ifCond .eq 7, 3) := by decide +kernel
theorem dX7_refusalOfLook_52 : decode cX7_refusalOfLook 52 = .ok (.iconst 0, 1) := by decide +kernel
theorem dX7_refusalOfLook_53 : decode cX7_refusalOfLook 53 = .ok (.goto 5, 3) := by decide +kernel
theorem dX7_refusalOfLook_56 : decode cX7_refusalOfLook 56 = .ok (.bipush (-7), 2) := by decide +kernel
theorem dX7_refusalOfLook_58 : decode cX7_refusalOfLook 58 = .ok (.ireturn, 1) := by decide +kernel
set_option maxRecDepth 20000 in
theorem ggX8_init_J0_length_8abf5 : GoodIn wsX8_init wsJ0_length_8abf5 := goodIn_r _ [36, 37, 38, 39, 40, 35, 41, 42, 43] (by decide +kernel) (by decide +kernel)
set_option maxRecDepth 20000 in
theorem gX8_init_J0_length_8abf5 : GoodIn wsX8_init (wsV RX8 91 RJ0 yJ0_length_8abf5 wsJ0_length_8abf5) := goodIn_app (goodIn_of _ (by decide +kernel)) ggX8_init_J0_length_8abf5
set_option maxRecDepth 20000 in
theorem ggX8_init_J0_charAt_5068e : GoodIn wsX8_init wsJ0_charAt_5068e := goodIn_r _ [47, 37, 48, 49, 50, 35, 51, 42, 43, 52, 53, 54, 55, 56, 57, 58, 59, 60, 61, 62, 63, 64, 65, 66, 67, 68, 69, 70, 71, 72, 73, 74, 75, 76, 77, 78, 79, 80] (by decide +kernel) (by decide +kernel)
set_option maxRecDepth 20000 in
theorem gX8_init_J0_charAt_5068e : GoodIn wsX8_init (wsV RX8 101 RJ0 yJ0_charAt_5068e wsJ0_charAt_5068e) := goodIn_app (goodIn_of _ (by decide +kernel)) ggX8_init_J0_charAt_5068e
set_option maxRecDepth 20000 in
theorem ggX8_init_X8_text : GoodIn wsX8_init wsX8_text := goodIn_r _ [85, 86, 87, 88, 89, 90, 31, 91, 14, 92, 93, 94, 84, 95, 12, 96, 97, 98, 99, 100, 101, 102, 103, 104, 105, 106, 107, 108, 109, 110, 32, 33, 34, 35, 36, 37, 38, 39, 40, 41, 42, 43, 44, 45, 46, 47, 48, 49, 50, 51, 52, 53, 54, 55, 56, 57, 58, 59, 60, 61, 62, 63, 64, 65, 66, 67, 68, 69, 70, 71, 72, 73, 74, 75, 76, 77, 78, 79, 80, 111, 112, 113, 114, 115, 116, 117, 118, 119, 120, 121, 13, 122, 123, 124, 125, 126, 127, 128, 129, 130, 131, 132, 133, 134, 135, 136, 137, 138, 139, 140, 141, 142, 143, 144, 145, 146, 147, 148, 149, 150, 151, 152, 153, 154, 155, 156, 157, 158, 159, 160, 161, 162, 163, 164, 165, 166, 167, 168, 169, 170, 171, 172, 173, 174, 175, 176, 177, 178, 179, 180, 181, 182, 183, 184, 185, 186, 187, 188, 189, 190, 191, 192, 193] (by decide +kernel) (by decide +kernel)
set_option maxRecDepth 20000 in
theorem gX8_init_X8_text : GoodIn wsX8_init (wsV RX8 105 RX8 yX8_text wsX8_text) := goodIn_app (goodIn_of _ (by decide +kernel)) ggX8_init_X8_text
theorem dX8_init_0 : decode cX8_init 0 = .ok (.aload_n 0, 1) := by decide +kernel
theorem dX8_init_1 : decode cX8_init 1 = .ok (.invokespecial 1, 3) := by decide +kernel
theorem dX8_init_4 : decode cX8_init 4 = .ok (.aload_n 0, 1) := by decide +kernel
theorem dX8_init_5 : decode cX8_init 5 = .ok (.bipush 56, 2) := by decide +kernel
theorem dX8_init_7 : decode cX8_init 7 = .ok (.newarray .int, 2) := by decide +kernel
theorem dX8_init_9 : decode cX8_init 9 = .ok (.putfield 7, 3) := by decide +kernel
theorem dX8_init_12 : decode cX8_init 12 = .ok (.aload_n 0, 1) := by decide +kernel
theorem dX8_init_13 : decode cX8_init 13 = .ok (.bipush 36, 2) := by decide +kernel
theorem dX8_init_15 : decode cX8_init 15 = .ok (.newarray .int, 2) := by decide +kernel
theorem dX8_init_17 : decode cX8_init 17 = .ok (.putfield 13, 3) := by decide +kernel
theorem dX8_init_20 : decode cX8_init 20 = .ok (.aload_n 0, 1) := by decide +kernel
theorem dX8_init_21 : decode cX8_init 21 = .ok (.bipush 36, 2) := by decide +kernel
theorem dX8_init_23 : decode cX8_init 23 = .ok (.newarray .int, 2) := by decide +kernel
theorem dX8_init_25 : decode cX8_init 25 = .ok (.putfield 16, 3) := by decide +kernel
theorem dX8_init_28 : decode cX8_init 28 = .ok (.aload_n 0, 1) := by decide +kernel
theorem dX8_init_29 : decode cX8_init 29 = .ok (.bipush 36, 2) := by decide +kernel
theorem dX8_init_31 : decode cX8_init 31 = .ok (.newarray .int, 2) := by decide +kernel
theorem dX8_init_33 : decode cX8_init 33 = .ok (.putfield 19, 3) := by decide +kernel
theorem dX8_init_36 : decode cX8_init 36 = .ok (.aload_n 0, 1) := by decide +kernel
theorem dX8_init_37 : decode cX8_init 37 = .ok (.iconst 4, 1) := by decide +kernel
theorem dX8_init_38 : decode cX8_init 38 = .ok (.newarray .int, 2) := by decide +kernel
theorem dX8_init_40 : decode cX8_init 40 = .ok (.putfield 22, 3) := by decide +kernel
theorem dX8_init_43 : decode cX8_init 43 = .ok (.aload_n 0, 1) := by decide +kernel
theorem dX8_init_44 : decode cX8_init 44 = .ok (.iconst 4, 1) := by decide +kernel
theorem dX8_init_45 : decode cX8_init 45 = .ok (.newarray .int, 2) := by decide +kernel
theorem dX8_init_47 : decode cX8_init 47 = .ok (.putfield 25, 3) := by decide +kernel
theorem dX8_init_50 : decode cX8_init 50 = .ok (.aload_n 0, 1) := by decide +kernel
theorem dX8_init_51 : decode cX8_init 51 = .ok (.iconst 4, 1) := by decide +kernel
theorem dX8_init_52 : decode cX8_init 52 = .ok (.newarray .int, 2) := by decide +kernel
theorem dX8_init_54 : decode cX8_init 54 = .ok (.putfield 28, 3) := by decide +kernel
theorem dX8_init_57 : decode cX8_init 57 = .ok (.aload_n 0, 1) := by decide +kernel
theorem dX8_init_58 : decode cX8_init 58 = .ok (.sipush 160, 3) := by decide +kernel
theorem dX8_init_61 : decode cX8_init 61 = .ok (.newarray .int, 2) := by decide +kernel
theorem dX8_init_63 : decode cX8_init 63 = .ok (.putfield 31, 3) := by decide +kernel
theorem dX8_init_66 : decode cX8_init 66 = .ok (.aload_n 0, 1) := by decide +kernel
theorem dX8_init_67 : decode cX8_init 67 = .ok (.sipush 1020, 3) := by decide +kernel
theorem dX8_init_70 : decode cX8_init 70 = .ok (.newarray .int, 2) := by decide +kernel
theorem dX8_init_72 : decode cX8_init 72 = .ok (.putfield 34, 3) := by decide +kernel
theorem dX8_init_75 : decode cX8_init 75 = .ok (.aload_n 0, 1) := by decide +kernel
theorem dX8_init_76 : decode cX8_init 76 = .ok (.bipush 24, 2) := by decide +kernel
theorem dX8_init_78 : decode cX8_init 78 = .ok (.newarray .int, 2) := by decide +kernel
theorem dX8_init_80 : decode cX8_init 80 = .ok (.putfield 37, 3) := by decide +kernel
theorem dX8_init_83 : decode cX8_init 83 = .ok (.aload_n 0, 1) := by decide +kernel
theorem dX8_init_84 : decode cX8_init 84 = .ok (.sipush 170, 3) := by decide +kernel
theorem dX8_init_87 : decode cX8_init 87 = .ok (.newarray .int, 2) := by decide +kernel
theorem dX8_init_89 : decode cX8_init 89 = .ok (.putfield 40, 3) := by decide +kernel
theorem dX8_init_92 : decode cX8_init 92 = .ok (.aload_n 0, 1) := by decide +kernel
theorem dX8_init_93 : decode cX8_init 93 = .ok (.bipush 36, 2) := by decide +kernel
theorem dX8_init_95 : decode cX8_init 95 = .ok (.newarray .int, 2) := by decide +kernel
theorem dX8_init_97 : decode cX8_init 97 = .ok (.putfield 43, 3) := by decide +kernel
theorem dX8_init_100 : decode cX8_init 100 = .ok (.aload_n 0, 1) := by decide +kernel
theorem dX8_init_101 : decode cX8_init 101 = .ok (.bipush 36, 2) := by decide +kernel
theorem dX8_init_103 : decode cX8_init 103 = .ok (.newarray .int, 2) := by decide +kernel
theorem dX8_init_105 : decode cX8_init 105 = .ok (.putfield 46, 3) := by decide +kernel
theorem dX8_init_108 : decode cX8_init 108 = .ok (.aload_n 0, 1) := by decide +kernel
theorem dX8_init_109 : decode cX8_init 109 = .ok (.bipush 36, 2) := by decide +kernel
theorem dX8_init_111 : decode cX8_init 111 = .ok (.newarray .int, 2) := by decide +kernel
theorem dX8_init_113 : decode cX8_init 113 = .ok (.putfield 49, 3) := by decide +kernel
theorem dX8_init_116 : decode cX8_init 116 = .ok (.aload_n 0, 1) := by decide +kernel
theorem dX8_init_117 : decode cX8_init 117 = .ok (.iconst 4, 1) := by decide +kernel
theorem dX8_init_118 : decode cX8_init 118 = .ok (.newarray .int, 2) := by decide +kernel
theorem dX8_init_120 : decode cX8_init 120 = .ok (.putfield 52, 3) := by decide +kernel
theorem dX8_init_123 : decode cX8_init 123 = .ok (.aload_n 0, 1) := by decide +kernel
theorem dX8_init_124 : decode cX8_init 124 = .ok (.iconst 4, 1) := by decide +kernel
theorem dX8_init_125 : decode cX8_init 125 = .ok (.newarray .int, 2) := by decide +kernel
theorem dX8_init_127 : decode cX8_init 127 = .ok (.putfield 55, 3) := by decide +kernel
theorem dX8_init_130 : decode cX8_init 130 = .ok (.aload_n 0, 1) := by decide +kernel
theorem dX8_init_131 : decode cX8_init 131 = .ok (.bipush 36, 2) := by decide +kernel
theorem dX8_init_133 : decode cX8_init 133 = .ok (.newarray .int, 2) := by decide +kernel
theorem dX8_init_135 : decode cX8_init 135 = .ok (.putfield 58, 3) := by decide +kernel
theorem dX8_init_138 : decode cX8_init 138 = .ok (.aload_n 0, 1) := by decide +kernel
theorem dX8_init_139 : decode cX8_init 139 = .ok (.bipush 36, 2) := by decide +kernel
theorem dX8_init_141 : decode cX8_init 141 = .ok (.newarray .int, 2) := by decide +kernel
theorem dX8_init_143 : decode cX8_init 143 = .ok (.putfield 61, 3) := by decide +kernel
theorem dX8_init_146 : decode cX8_init 146 = .ok (.aload_n 0, 1) := by decide +kernel
theorem dX8_init_147 : decode cX8_init 147 = .ok (.bipush 56, 2) := by decide +kernel
theorem dX8_init_149 : decode cX8_init 149 = .ok (.newarray .int, 2) := by decide +kernel
theorem dX8_init_151 : decode cX8_init 151 = .ok (.putfield 64, 3) := by decide +kernel
theorem dX8_init_154 : decode cX8_init 154 = .ok (.aload_n 0, 1) := by decide +kernel
theorem dX8_init_155 : decode cX8_init 155 = .ok (.bipush 56, 2) := by decide +kernel
theorem dX8_init_157 : decode cX8_init 157 = .ok (.newarray .int, 2) := by decide +kernel
theorem dX8_init_159 : decode cX8_init 159 = .ok (.putfield 67, 3) := by decide +kernel
theorem dX8_init_162 : decode cX8_init 162 = .ok (.aload_n 0, 1) := by decide +kernel
theorem dX8_init_163 : decode cX8_init 163 = .ok (.bipush 108, 2) := by decide +kernel
theorem dX8_init_165 : decode cX8_init 165 = .ok (.newarray .int, 2) := by decide +kernel
theorem dX8_init_167 : decode cX8_init 167 = .ok (.putfield 70, 3) := by decide +kernel
theorem dX8_init_170 : decode cX8_init 170 = .ok (.aload_n 0, 1) := by decide +kernel
theorem dX8_init_171 : decode cX8_init 171 = .ok (.iconst 4, 1) := by decide +kernel
theorem dX8_init_172 : decode cX8_init 172 = .ok (.newarray .int, 2) := by decide +kernel
theorem dX8_init_174 : decode cX8_init 174 = .ok (.putfield 73, 3) := by decide +kernel
theorem dX8_init_177 : decode cX8_init 177 = .ok (.aload_n 0, 1) := by decide +kernel
theorem dX8_init_178 : decode cX8_init 178 = .ok (.iconst 4, 1) := by decide +kernel
theorem dX8_init_179 : decode cX8_init 179 = .ok (.newarray .int, 2) := by decide +kernel
theorem dX8_init_181 : decode cX8_init 181 = .ok (.putfield 76, 3) := by decide +kernel
theorem dX8_init_184 : decode cX8_init 184 = .ok (.aload_n 0, 1) := by decide +kernel
theorem dX8_init_185 : decode cX8_init 185 = .ok (.sipush 160, 3) := by decide +kernel
theorem dX8_init_188 : decode cX8_init 188 = .ok (.newarray .int, 2) := by decide +kernel
theorem dX8_init_190 : decode cX8_init 190 = .ok (.putfield 79, 3) := by decide +kernel
theorem dX8_init_193 : decode cX8_init 193 = .ok (.aload_n 0, 1) := by decide +kernel
theorem dX8_init_194 : decode cX8_init 194 = .ok (.bipush 40, 2) := by decide +kernel
theorem dX8_init_196 : decode cX8_init 196 = .ok (.newarray .int, 2) := by decide +kernel
theorem dX8_init_198 : decode cX8_init 198 = .ok (.putfield 82, 3) := by decide +kernel
theorem dX8_init_201 : decode cX8_init 201 = .ok (.iconst 0, 1) := by decide +kernel
theorem dX8_init_202 : decode cX8_init 202 = .ok (.istore_n 1, 1) := by decide +kernel
theorem dX8_init_203 : decode cX8_init 203 = .ok (.iload_n 1, 1) := by decide +kernel
theorem dX8_init_204 : decode cX8_init 204 = .ok (.iconst 4, 1) := by decide +kernel
theorem dX8_init_205 : decode cX8_init 205 = .ok (.if_icmp .ge 16, 3) := by decide +kernel
theorem dX8_init_208 : decode cX8_init 208 = .ok (.aload_n 0, 1) := by decide +kernel
theorem dX8_init_209 : decode cX8_init 209 = .ok (.getfield 73, 3) := by decide +kernel
theorem dX8_init_212 : decode cX8_init 212 = .ok (.iload_n 1, 1) := by decide +kernel
theorem dX8_init_213 : decode cX8_init 213 = .ok (.iconst (-1), 1) := by decide +kernel
theorem dX8_init_214 : decode cX8_init 214 = .ok (.iastore, 1) := by decide +kernel
theorem dX8_init_215 : decode cX8_init 215 = .ok (.iinc 1 1, 3) := by decide +kernel
theorem dX8_init_218 : decode cX8_init 218 = .ok (.goto (-15), 3) := by decide +kernel
theorem dX8_init_221 : decode cX8_init 221 = .ok (.aload_n 0, 1) := by decide +kernel
theorem dX8_init_222 : decode cX8_init 222 = .ok (.lconst 1, 1) := by decide +kernel
theorem dX8_init_223 : decode cX8_init 223 = .ok (.putfield 85, 3) := by decide +kernel
theorem dX8_init_226 : decode cX8_init 226 = .ok (.ldc 89, 2) := by decide +kernel
theorem dX8_init_228 : decode cX8_init 228 = .ok (.astore_n 1, 1) := by decide +kernel
theorem dX8_init_229 : decode cX8_init 229 = .ok (.iconst 0, 1) := by decide +kernel
theorem dX8_init_230 : decode cX8_init 230 = .ok (.istore_n 2, 1) := by decide +kernel
theorem dX8_init_231 : decode cX8_init 231 = .ok (.iload_n 2, 1) := by decide +kernel
theorem dX8_init_232 : decode cX8_init 232 = .ok (.aload_n 1, 1) := by decide +kernel
theorem dX8_init_233 : decode cX8_init 233 = .ok (.invokevirtual 91, 3) := by decide +kernel
theorem dX8_init_236 : decode cX8_init 236 = .ok (.if_icmp .ge 30, 3) := by decide +kernel
theorem dX8_init_239 : decode cX8_init 239 = .ok (.aload_n 0, 1) := by decide +kernel
theorem dX8_init_240 : decode cX8_init 240 = .ok (.getfield 31, 3) := by decide +kernel
theorem dX8_init_243 : decode cX8_init 243 = .ok (.aload_n 0, 1) := by decide +kernel
theorem dX8_init_244 : decode cX8_init 244 = .ok (.dup, 1) := by decide +kernel
theorem dX8_init_245 : decode cX8_init 245 = .ok (.getfield 97, 3) := by decide +kernel
theorem dX8_init_248 : decode cX8_init 248 = .ok (.dup_x1, 1) := by decide +kernel
theorem dX8_init_249 : decode cX8_init 249 = .ok (.iconst 1, 1) := by decide +kernel
theorem dX8_init_250 : decode cX8_init 250 = .ok (.iadd, 1) := by decide +kernel
theorem dX8_init_251 : decode cX8_init 251 = .ok (.putfield 97, 3) := by decide +kernel
theorem dX8_init_254 : decode cX8_init 254 = .ok (.aload_n 1, 1) := by decide +kernel
theorem dX8_init_255 : decode cX8_init 255 = .ok (.iload_n 2, 1) := by decide +kernel
theorem dX8_init_256 : decode cX8_init 256 = .ok (.invokevirtual 101, 3) := by decide +kernel
theorem dX8_init_259 : decode cX8_init 259 = .ok (.iastore, 1) := by decide +kernel
theorem dX8_init_260 : decode cX8_init 260 = .ok (.iinc 2 1, 3) := by decide +kernel
theorem dX8_init_263 : decode cX8_init 263 = .ok (.goto (-32), 3) := by decide +kernel
theorem dX8_init_266 : decode cX8_init 266 = .ok (.aload_n 0, 1) := by decide +kernel
theorem dX8_init_267 : decode cX8_init 267 = .ok (.invokevirtual 105, 3) := by decide +kernel
theorem dX8_init_270 : decode cX8_init 270 = .ok (.pop, 1) := by decide +kernel
theorem dX8_init_271 : decode cX8_init 271 = .ok (.return_, 1) := by decide +kernel
theorem dX8_within_0 : decode cX8_within 0 = .ok (.iload_n 0, 1) := by decide +kernel
theorem dX8_within_1 : decode cX8_within 1 = .ok (.iload_n 1, 1) := by decide +kernel
theorem dX8_within_2 : decode cX8_within 2 = .ok (.if_icmp .lt 12, 3) := by decide +kernel
theorem dX8_within_5 : decode cX8_within 5 = .ok (.iload_n 0, 1) := by decide +kernel
theorem dX8_within_6 : decode cX8_within 6 = .ok (.iload_n 2, 1) := by decide +kernel
theorem dX8_within_7 : decode cX8_within 7 = .ok (.if_icmp .gt 7, 3) := by decide +kernel
theorem dX8_within_10 : decode cX8_within 10 = .ok (.iconst 1, 1) := by decide +kernel
theorem dX8_within_11 : decode cX8_within 11 = .ok (.goto 4, 3) := by decide +kernel
theorem dX8_within_14 : decode cX8_within 14 = .ok (.iconst 0, 1) := by decide +kernel
theorem dX8_within_15 : decode cX8_within 15 = .ok (.ireturn, 1) := by decide +kernel
set_option maxRecDepth 20000 in
theorem ggX8_isCell_X8_within : GoodIn wsX8_isCell wsX8_within := goodIn_r _ [4] (by decide +kernel) (by decide +kernel)
set_option maxRecDepth 20000 in
theorem gX8_isCell_X8_within : GoodIn wsX8_isCell (va_wsS RX8 108 yX8_within wsX8_within) := goodIn_app (goodIn_of _ (by decide +kernel)) ggX8_isCell_X8_within
theorem dX8_isCell_0 : decode cX8_isCell 0 = .ok (.iload_n 0, 1) := by decide +kernel
theorem dX8_isCell_1 : decode cX8_isCell 1 = .ok (.iconst 0, 1) := by decide +kernel
theorem dX8_isCell_2 : decode cX8_isCell 2 = .ok (.bipush 35, 2) := by decide +kernel
theorem dX8_isCell_4 : decode cX8_isCell 4 = .ok (.invokestatic 108, 3) := by decide +kernel
theorem dX8_isCell_7 : decode cX8_isCell 7 = .ok (.ireturn, 1) := by decide +kernel
set_option maxRecDepth 20000 in
theorem ggX8_isTree_X8_within : GoodIn wsX8_isTree wsX8_within := goodIn_r _ [5] (by decide +kernel) (by decide +kernel)
set_option maxRecDepth 20000 in
theorem gX8_isTree_X8_within : GoodIn wsX8_isTree (va_wsS RX8 108 yX8_within wsX8_within) := goodIn_app (goodIn_of _ (by decide +kernel)) ggX8_isTree_X8_within
theorem dX8_isTree_0 : decode cX8_isTree 0 = .ok (.iload_n 1, 1) := by decide +kernel
theorem dX8_isTree_1 : decode cX8_isTree 1 = .ok (.iconst 0, 1) := by decide +kernel
theorem dX8_isTree_2 : decode cX8_isTree 2 = .ok (.aload_n 0, 1) := by decide +kernel
theorem dX8_isTree_3 : decode cX8_isTree 3 = .ok (.getfield 112, 3) := by decide +kernel
theorem dX8_isTree_6 : decode cX8_isTree 6 = .ok (.iconst 1, 1) := by decide +kernel
theorem dX8_isTree_7 : decode cX8_isTree 7 = .ok (.isub, 1) := by decide +kernel
theorem dX8_isTree_8 : decode cX8_isTree 8 = .ok (.invokestatic 108, 3) := by decide +kernel
theorem dX8_isTree_11 : decode cX8_isTree 11 = .ok (.ireturn, 1) := by decide +kernel
set_option maxRecDepth 20000 in
theorem ggX8_sky_X8_within : GoodIn wsX8_sky wsX8_within := goodIn_r _ [5] (by decide +kernel) (by decide +kernel)
set_option maxRecDepth 20000 in
theorem gX8_sky_X8_within : GoodIn wsX8_sky (va_wsS RX8 108 yX8_within wsX8_within) := goodIn_app (goodIn_of _ (by decide +kernel)) ggX8_sky_X8_within
theorem dX8_sky_0 : decode cX8_sky 0 = .ok (.iload_n 1, 1) := by decide +kernel
theorem dX8_sky_1 : decode cX8_sky 1 = .ok (.iconst 0, 1) := by decide +kernel
theorem dX8_sky_2 : decode cX8_sky 2 = .ok (.bipush 13, 2) := by decide +kernel
theorem dX8_sky_4 : decode cX8_sky 4 = .ok (.invokestatic 108, 3) := by decide +kernel
theorem dX8_sky_7 : decode cX8_sky 7 = .ok (.ifCond .ne 6, 3) := by decide +kernel
theorem dX8_sky_10 : decode cX8_sky 10 = .ok (.bipush (-5), 2) := by decide +kernel
theorem dX8_sky_12 : decode cX8_sky 12 = .ok (.ireturn, 1) := by decide +kernel
theorem dX8_sky_13 : decode cX8_sky 13 = .ok (.iload_n 2, 1) := by decide +kernel
theorem dX8_sky_14 : decode cX8_sky 14 = .ok (.iconst 0, 1) := by decide +kernel
theorem dX8_sky_15 : decode cX8_sky 15 = .ok (.iconst 3, 1) := by decide +kernel
theorem dX8_sky_16 : decode cX8_sky 16 = .ok (.invokestatic 108, 3) := by decide +kernel
theorem dX8_sky_19 : decode cX8_sky 19 = .ok (.ifCond .eq 30, 3) := by decide +kernel
theorem dX8_sky_22 : decode cX8_sky 22 = .ok (.iload_n 3, 1) := by decide +kernel
theorem dX8_sky_23 : decode cX8_sky 23 = .ok (.iconst 0, 1) := by decide +kernel
theorem dX8_sky_24 : decode cX8_sky 24 = .ok (.iload_n 2, 1) := by decide +kernel
theorem dX8_sky_25 : decode cX8_sky 25 = .ok (.ifCond .ne 7, 3) := by decide +kernel
theorem dX8_sky_28 : decode cX8_sky 28 = .ok (.iconst 3, 1) := by decide +kernel
theorem dX8_sky_29 : decode cX8_sky 29 = .ok (.goto 14, 3) := by decide +kernel
theorem dX8_sky_32 : decode cX8_sky 32 = .ok (.iload_n 2, 1) := by decide +kernel
theorem dX8_sky_33 : decode cX8_sky 33 = .ok (.iconst 1, 1) := by decide +kernel
theorem dX8_sky_34 : decode cX8_sky 34 = .ok (.if_icmp .ne 8, 3) := by decide +kernel
theorem dX8_sky_37 : decode cX8_sky 37 = .ok (.bipush 9, 2) := by decide +kernel
theorem dX8_sky_39 : decode cX8_sky 39 = .ok (.goto 4, 3) := by decide +kernel
theorem dX8_sky_42 : decode cX8_sky 42 = .ok (.iconst 1, 1) := by decide +kernel
theorem dX8_sky_43 : decode cX8_sky 43 = .ok (.invokestatic 108, 3) := by decide +kernel
theorem dX8_sky_46 : decode cX8_sky 46 = .ok (.ifCond .ne 6, 3) := by decide +kernel
theorem dX8_sky_49 : decode cX8_sky 49 = .ok (.bipush (-7), 2) := by decide +kernel
theorem dX8_sky_51 : decode cX8_sky 51 = .ok (.ireturn, 1) := by decide +kernel
theorem dX8_sky_52 : decode cX8_sky 52 = .ok (.aload_n 0, 1) := by decide +kernel
theorem dX8_sky_53 : decode cX8_sky 53 = .ok (.getfield 7, 3) := by decide +kernel
theorem dX8_sky_56 : decode cX8_sky 56 = .ok (.iconst 4, 1) := by decide +kernel
theorem dX8_sky_57 : decode cX8_sky 57 = .ok (.iload_n 1, 1) := by decide +kernel
theorem dX8_sky_58 : decode cX8_sky 58 = .ok (.imul, 1) := by decide +kernel
theorem dX8_sky_59 : decode cX8_sky 59 = .ok (.iload_n 2, 1) := by decide +kernel
theorem dX8_sky_60 : decode cX8_sky 60 = .ok (.iadd, 1) := by decide +kernel
theorem dX8_sky_61 : decode cX8_sky 61 = .ok (.iaload, 1) := by decide +kernel
theorem dX8_sky_62 : decode cX8_sky 62 = .ok (.istore 4, 2) := by decide +kernel
theorem dX8_sky_64 : decode cX8_sky 64 = .ok (.aload_n 0, 1) := by decide +kernel
theorem dX8_sky_65 : decode cX8_sky 65 = .ok (.getfield 7, 3) := by decide +kernel
theorem dX8_sky_68 : decode cX8_sky 68 = .ok (.iconst 4, 1) := by decide +kernel
theorem dX8_sky_69 : decode cX8_sky 69 = .ok (.iload_n 1, 1) := by decide +kernel
theorem dX8_sky_70 : decode cX8_sky 70 = .ok (.imul, 1) := by decide +kernel
theorem dX8_sky_71 : decode cX8_sky 71 = .ok (.iload_n 2, 1) := by decide +kernel
theorem dX8_sky_72 : decode cX8_sky 72 = .ok (.iadd, 1) := by decide +kernel
theorem dX8_sky_73 : decode cX8_sky 73 = .ok (.iload_n 3, 1) := by decide +kernel
theorem dX8_sky_74 : decode cX8_sky 74 = .ok (.iastore, 1) := by decide +kernel
theorem dX8_sky_75 : decode cX8_sky 75 = .ok (.iload 4, 2) := by decide +kernel
theorem dX8_sky_77 : decode cX8_sky 77 = .ok (.ireturn, 1) := by decide +kernel
set_option maxRecDepth 20000 in
theorem ggX8_skyTold_X8_within : GoodIn wsX8_skyTold wsX8_within := goodIn_r _ [5] (by decide +kernel) (by decide +kernel)
set_option maxRecDepth 20000 in
theorem gX8_skyTold_X8_within : GoodIn wsX8_skyTold (va_wsS RX8 108 yX8_within wsX8_within) := goodIn_app (goodIn_of _ (by decide +kernel)) ggX8_skyTold_X8_within
theorem dX8_skyTold_0 : decode cX8_skyTold 0 = .ok (.iload_n 1, 1) := by decide +kernel
theorem dX8_skyTold_1 : decode cX8_skyTold 1 = .ok (.iconst 0, 1) := by decide +kernel
theorem dX8_skyTold_2 : decode cX8_skyTold 2 = .ok (.bipush 13, 2) := by decide +kernel
theorem dX8_skyTold_4 : decode cX8_skyTold 4 = .ok (.invokestatic 108, 3) := by decide +kernel
theorem dX8_skyTold_7 : decode cX8_skyTold 7 = .ok (.ifCond .ne 8, 3) := by decide +kernel
theorem dX8_skyTold_10 : decode cX8_skyTold 10 = .ok (.bipush (-5), 2) := by decide +kernel
theorem dX8_skyTold_12 : decode cX8_skyTold 12 = .ok (.goto 27, 3) := by decide +kernel
theorem dX8_skyTold_15 : decode cX8_skyTold 15 = .ok (.iload_n 2, 1) := by decide +kernel
theorem dX8_skyTold_16 : decode cX8_skyTold 16 = .ok (.iconst 0, 1) := by decide +kernel
theorem dX8_skyTold_17 : decode cX8_skyTold 17 = .ok (.iconst 3, 1) := by decide +kernel
theorem dX8_skyTold_18 : decode cX8_skyTold 18 = .ok (.invokestatic 108, 3) := by decide +kernel
theorem dX8_skyTold_21 : decode cX8_skyTold 21 = .ok (.ifCond .ne 8, 3) := by decide +kernel
theorem dX8_skyTold_24 : decode cX8_skyTold 24 = .ok (.bipush (-7), 2) := by decide +kernel
theorem dX8_skyTold_26 : decode cX8_skyTold 26 = .ok (.goto 13, 3) := by decide +kernel
theorem dX8_skyTold_29 : decode cX8_skyTold 29 = .ok (.aload_n 0, 1) := by decide +kernel
theorem dX8_skyTold_30 : decode cX8_skyTold 30 = .ok (.getfield 7, 3) := by decide +kernel
theorem dX8_skyTold_33 : decode cX8_skyTold 33 = .ok (.iconst 4, 1) := by decide +kernel
theorem dX8_skyTold_34 : decode cX8_skyTold 34 = .ok (.iload_n 1, 1) := by decide +kernel
theorem dX8_skyTold_35 : decode cX8_skyTold 35 = .ok (.imul, 1) := by decide +kernel
theorem dX8_skyTold_36 : decode cX8_skyTold 36 = .ok (.iload_n 2, 1) := by decide +kernel
theorem dX8_skyTold_37 : decode cX8_skyTold 37 = .ok (.iadd, 1) := by decide +kernel
theorem dX8_skyTold_38 : decode cX8_skyTold 38 = .ok (.iaload, 1) := by decide +kernel
theorem dX8_skyTold_39 : decode cX8_skyTold 39 = .ok (.ireturn, 1) := by decide +kernel
theorem dX8_count_0 : decode cX8_count 0 = .ok (.iload_n 1, 1) := by decide +kernel
theorem dX8_count_1 : decode cX8_count 1 = .ok (.tableswitch 60 0 4 #[35, 40, 45, 50, 55], 35) := by decide +kernel
theorem dX8_count_36 : decode cX8_count 36 = .ok (.aload_n 0, 1) := by decide +kernel
theorem dX8_count_37 : decode cX8_count 37 = .ok (.getfield 112, 3) := by decide +kernel
theorem dX8_count_40 : decode cX8_count 40 = .ok (.ireturn, 1) := by decide +kernel
theorem dX8_count_41 : decode cX8_count 41 = .ok (.aload_n 0, 1) := by decide +kernel
theorem dX8_count_42 : decode cX8_count 42 = .ok (.getfield 115, 3) := by decide +kernel
theorem dX8_count_45 : decode cX8_count 45 = .ok (.ireturn, 1) := by decide +kernel
theorem dX8_count_46 : decode cX8_count 46 = .ok (.aload_n 0, 1) := by decide +kernel
theorem dX8_count_47 : decode cX8_count 47 = .ok (.getfield 118, 3) := by decide +kernel
theorem dX8_count_50 : decode cX8_count 50 = .ok (.ireturn, 1) := by decide +kernel
theorem dX8_count_51 : decode cX8_count 51 = .ok (.aload_n 0, 1) := by decide +kernel
theorem dX8_count_52 : decode cX8_count 52 = .ok (.getfield 121, 3) := by decide +kernel
theorem dX8_count_55 : decode cX8_count 55 = .ok (.ireturn, 1) := by decide +kernel
theorem dX8_count_56 : decode cX8_count 56 = .ok (.aload_n 0, 1) := by decide +kernel
theorem dX8_count_57 : decode cX8_count 57 = .ok (.getfield 97, 3) := by decide +kernel
theorem dX8_count_60 : decode cX8_count 60 = .ok (.ireturn, 1) := by decide +kernel
theorem dX8_count_61 : decode cX8_count 61 = .ok (.bipush (-2), 2) := by decide +kernel
theorem dX8_count_63 : decode cX8_count 63 = .ok (.ireturn, 1) := by decide +kernel
set_option maxRecDepth 20000 in
theorem ggX8_feed_X8_within : GoodIn wsX8_feed wsX8_within := goodIn_r _ [6] (by decide +kernel) (by decide +kernel)
set_option maxRecDepth 20000 in
theorem gX8_feed_X8_within : GoodIn wsX8_feed (va_wsS RX8 108 yX8_within wsX8_within) := goodIn_app (goodIn_of _ (by decide +kernel)) ggX8_feed_X8_within
theorem dX8_feed_0 : decode cX8_feed 0 = .ok (.iload_n 1, 1) := by decide +kernel
theorem dX8_feed_1 : decode cX8_feed 1 = .ok (.iconst 1, 1) := by decide +kernel
theorem dX8_feed_2 : decode cX8_feed 2 = .ok (.iconst 5, 1) := by decide +kernel
theorem dX8_feed_3 : decode cX8_feed 3 = .ok (.invokestatic 108, 3) := by decide +kernel
theorem dX8_feed_6 : decode cX8_feed 6 = .ok (.ifCond .ne 6, 3) := by decide +kernel
theorem dX8_feed_9 : decode cX8_feed 9 = .ok (.bipush (-2), 2) := by decide +kernel
theorem dX8_feed_11 : decode cX8_feed 11 = .ok (.ireturn, 1) := by decide +kernel
theorem dX8_feed_12 : decode cX8_feed 12 = .ok (.iconst 0, 1) := by decide +kernel
theorem dX8_feed_13 : decode cX8_feed 13 = .ok (.istore 7, 2) := by decide +kernel
theorem dX8_feed_15 : decode cX8_feed 15 = .ok (.iload 7, 2) := by decide +kernel
theorem dX8_feed_17 : decode cX8_feed 17 = .ok (.iconst 5, 1) := by decide +kernel
theorem dX8_feed_18 : decode cX8_feed 18 = .ok (.if_icmp .ge 65, 3) := by decide +kernel
theorem dX8_feed_21 : decode cX8_feed 21 = .ok (.iload 7, 2) := by decide +kernel
theorem dX8_feed_23 : decode cX8_feed 23 = .ok (.ifCond .ne 7, 3) := by decide +kernel
theorem dX8_feed_26 : decode cX8_feed 26 = .ok (.iload_n 2, 1) := by decide +kernel
theorem dX8_feed_27 : decode cX8_feed 27 = .ok (.goto 37, 3) := by decide +kernel
theorem dX8_feed_30 : decode cX8_feed 30 = .ok (.iload 7, 2) := by decide +kernel
theorem dX8_feed_32 : decode cX8_feed 32 = .ok (.iconst 1, 1) := by decide +kernel
theorem dX8_feed_33 : decode cX8_feed 33 = .ok (.if_icmp .ne 7, 3) := by decide +kernel
theorem dX8_feed_36 : decode cX8_feed 36 = .ok (.iload_n 3, 1) := by decide +kernel
theorem dX8_feed_37 : decode cX8_feed 37 = .ok (.goto 27, 3) := by decide +kernel
theorem dX8_feed_40 : decode cX8_feed 40 = .ok (.iload 7, 2) := by decide +kernel
theorem dX8_feed_42 : decode cX8_feed 42 = .ok (.iconst 2, 1) := by decide +kernel
theorem dX8_feed_43 : decode cX8_feed 43 = .ok (.if_icmp .ne 8, 3) := by decide +kernel
theorem dX8_feed_46 : decode cX8_feed 46 = .ok (.iload 4, 2) := by decide +kernel
theorem dX8_feed_48 : decode cX8_feed 48 = .ok (.goto 16, 3) := by decide +kernel
theorem dX8_feed_51 : decode cX8_feed 51 = .ok (.iload 7, 2) := by decide +kernel
theorem dX8_feed_53 : decode cX8_feed 53 = .ok (.iconst 3, 1) := by decide +kernel
theorem dX8_feed_54 : decode cX8_feed 54 = .ok (.if_icmp .ne 8, 3) := by decide +kernel
theorem dX8_feed_57 : decode cX8_feed 57 = .ok (.iload 5, 2) := by decide +kernel
theorem dX8_feed_59 : decode cX8_feed 59 = .ok (.goto 5, 3) := by decide +kernel
theorem dX8_feed_62 : decode cX8_feed 62 = .ok (.iload 6, 2) := by decide +kernel
theorem dX8_feed_64 : decode cX8_feed 64 = .ok (.iconst 0, 1) := by decide +kernel
theorem dX8_feed_65 : decode cX8_feed 65 = .ok (.sipush 255, 3) := by decide +kernel
theorem dX8_feed_68 : decode cX8_feed 68 = .ok (.invokestatic 108, 3) := by decide +kernel
theorem dX8_feed_71 : decode cX8_feed 71 = .ok (.ifCond .ne 6, 3) := by decide +kernel
theorem dX8_feed_74 : decode cX8_feed 74 = .ok (.bipush (-2), 2) := by decide +kernel
theorem dX8_feed_76 : decode cX8_feed 76 = .ok (.ireturn, 1) := by decide +kernel
theorem dX8_feed_77 : decode cX8_feed 77 = .ok (.iinc 7 1, 3) := by decide +kernel
theorem dX8_feed_80 : decode cX8_feed 80 = .ok (.goto (-65), 3) := by decide +kernel
theorem dX8_feed_83 : decode cX8_feed 83 = .ok (.aload_n 0, 1) := by decide +kernel
theorem dX8_feed_84 : decode cX8_feed 84 = .ok (.getfield 97, 3) := by decide +kernel
theorem dX8_feed_87 : decode cX8_feed 87 = .ok (.iload_n 1, 1) := by decide +kernel
theorem dX8_feed_88 : decode cX8_feed 88 = .ok (.iadd, 1) := by decide +kernel
theorem dX8_feed_89 : decode cX8_feed 89 = .ok (.sipush 160, 3) := by decide +kernel
theorem dX8_feed_92 : decode cX8_feed 92 = .ok (.if_icmp .le 6, 3) := by decide +kernel
theorem dX8_feed_95 : decode cX8_feed 95 = .ok (.bipush (-4), 2) := by decide +kernel
theorem dX8_feed_97 : decode cX8_feed 97 = .ok (.ireturn, 1) := by decide +kernel
theorem dX8_feed_98 : decode cX8_feed 98 = .ok (.iconst 0, 1) := by decide +kernel
theorem dX8_feed_99 : decode cX8_feed 99 = .ok (.istore 7, 2) := by decide +kernel
theorem dX8_feed_101 : decode cX8_feed 101 = .ok (.iload 7, 2) := by decide +kernel
theorem dX8_feed_103 : decode cX8_feed 103 = .ok (.iload_n 1, 1) := by decide +kernel
theorem dX8_feed_104 : decode cX8_feed 104 = .ok (.if_icmp .ge 68, 3) := by decide +kernel
theorem dX8_feed_107 : decode cX8_feed 107 = .ok (.aload_n 0, 1) := by decide +kernel
theorem dX8_feed_108 : decode cX8_feed 108 = .ok (.getfield 31, 3) := by decide +kernel
theorem dX8_feed_111 : decode cX8_feed 111 = .ok (.aload_n 0, 1) := by decide +kernel
theorem dX8_feed_112 : decode cX8_feed 112 = .ok (.dup, 1) := by decide +kernel
theorem dX8_feed_113 : decode cX8_feed 113 = .ok (.getfield 97, 3) := by decide +kernel
theorem dX8_feed_116 : decode cX8_feed 116 = .ok (.dup_x1, 1) := by decide +kernel
theorem dX8_feed_117 : decode cX8_feed 117 = .ok (.iconst 1, 1) := by decide +kernel
theorem dX8_feed_118 : decode cX8_feed 118 = .ok (.iadd, 1) := by decide +kernel
theorem dX8_feed_119 : decode cX8_feed 119 = .ok (.putfield 97, 3) := by decide +kernel
theorem dX8_feed_122 : decode cX8_feed 122 = .ok (.iload 7, 2) := by decide +kernel
theorem dX8_feed_124 : decode cX8_feed 124 = .ok (.ifCond .ne 7, 3) := by decide +kernel
theorem dX8_feed_127 : decode cX8_feed 127 = .ok (.iload_n 2, 1) := by decide +kernel
theorem dX8_feed_128 : decode cX8_feed 128 = .ok (.goto 37, 3) := by decide +kernel
theorem dX8_feed_131 : decode cX8_feed 131 = .ok (.iload 7, 2) := by decide +kernel
theorem dX8_feed_133 : decode cX8_feed 133 = .ok (.iconst 1, 1) := by decide +kernel
theorem dX8_feed_134 : decode cX8_feed 134 = .ok (.if_icmp .ne 7, 3) := by decide +kernel
theorem dX8_feed_137 : decode cX8_feed 137 = .ok (.iload_n 3, 1) := by decide +kernel
theorem dX8_feed_138 : decode cX8_feed 138 = .ok (.goto 27, 3) := by decide +kernel
theorem dX8_feed_141 : decode cX8_feed 141 = .ok (.iload 7, 2) := by decide +kernel
theorem dX8_feed_143 : decode cX8_feed 143 = .ok (.iconst 2, 1) := by decide +kernel
theorem dX8_feed_144 : decode cX8_feed 144 = .ok (.if_icmp .ne 8, 3) := by decide +kernel
theorem dX8_feed_147 : decode cX8_feed 147 = .ok (.iload 4, 2) := by decide +kernel
theorem dX8_feed_149 : decode cX8_feed 149 = .ok (.goto 16, 3) := by decide +kernel
theorem dX8_feed_152 : decode cX8_feed 152 = .ok (.iload 7, 2) := by decide +kernel
theorem dX8_feed_154 : decode cX8_feed 154 = .ok (.iconst 3, 1) := by decide +kernel
theorem dX8_feed_155 : decode cX8_feed 155 = .ok (.if_icmp .ne 8, 3) := by decide +kernel
theorem dX8_feed_158 : decode cX8_feed 158 = .ok (.iload 5, 2) := by decide +kernel
theorem dX8_feed_160 : decode cX8_feed 160 = .ok (.goto 5, 3) := by decide +kernel
theorem dX8_feed_163 : decode cX8_feed 163 = .ok (.iload 6, 2) := by decide +kernel
theorem dX8_feed_165 : decode cX8_feed 165 = .ok (.iastore, 1) := by decide +kernel
theorem dX8_feed_166 : decode cX8_feed 166 = .ok (.iinc 7 1, 3) := by decide +kernel
theorem dX8_feed_169 : decode cX8_feed 169 = .ok (.goto (-68), 3) := by decide +kernel
theorem dX8_feed_172 : decode cX8_feed 172 = .ok (.aload_n 0, 1) := by decide +kernel
theorem dX8_feed_173 : decode cX8_feed 173 = .ok (.getfield 97, 3) := by decide +kernel
theorem dX8_feed_176 : decode cX8_feed 176 = .ok (.ireturn, 1) := by decide +kernel
set_option maxRecDepth 20000 in
theorem ggX8_next_X8_isDigit : GoodIn wsX8_next wsX8_isDigit := goodIn_r _ [10] (by decide +kernel) (by decide +kernel)
set_option maxRecDepth 20000 in
theorem gX8_next_X8_isDigit : GoodIn wsX8_next (va_wsS RX8 133 yX8_isDigit wsX8_isDigit) := goodIn_app (goodIn_of _ (by decide +kernel)) ggX8_next_X8_isDigit
set_option maxRecDepth 20000 in
theorem ggX8_next_X8_isLetter : GoodIn wsX8_next wsX8_isLetter := goodIn_r _ [13] (by decide +kernel) (by decide +kernel)
set_option maxRecDepth 20000 in
theorem gX8_next_X8_isLetter : GoodIn wsX8_next (va_wsS RX8 140 yX8_isLetter wsX8_isLetter) := goodIn_app (goodIn_of _ (by decide +kernel)) ggX8_next_X8_isLetter
theorem dX8_next_0 : decode cX8_next 0 = .ok (.aload_n 0, 1) := by decide +kernel
theorem dX8_next_1 : decode cX8_next 1 = .ok (.getfield 124, 3) := by decide +kernel
theorem dX8_next_4 : decode cX8_next 4 = .ok (.aload_n 0, 1) := by decide +kernel
theorem dX8_next_5 : decode cX8_next 5 = .ok (.getfield 97, 3) := by decide +kernel
theorem dX8_next_8 : decode cX8_next 8 = .ok (.if_icmp .ge 44, 3) := by decide +kernel
theorem dX8_next_11 : decode cX8_next 11 = .ok (.aload_n 0, 1) := by decide +kernel
theorem dX8_next_12 : decode cX8_next 12 = .ok (.getfield 31, 3) := by decide +kernel
theorem dX8_next_15 : decode cX8_next 15 = .ok (.aload_n 0, 1) := by decide +kernel
theorem dX8_next_16 : decode cX8_next 16 = .ok (.getfield 124, 3) := by decide +kernel
theorem dX8_next_19 : decode cX8_next 19 = .ok (.iaload, 1) := by decide +kernel
theorem dX8_next_20 : decode cX8_next 20 = .ok (.bipush 32, 2) := by decide +kernel
theorem dX8_next_22 : decode cX8_next 22 = .ok (.if_icmp .eq 17, 3) := by decide +kernel
theorem dX8_next_25 : decode cX8_next 25 = .ok (.aload_n 0, 1) := by decide +kernel
theorem dX8_next_26 : decode cX8_next 26 = .ok (.getfield 31, 3) := by decide +kernel
theorem dX8_next_29 : decode cX8_next 29 = .ok (.aload_n 0, 1) := by decide +kernel
theorem dX8_next_30 : decode cX8_next 30 = .ok (.getfield 124, 3) := by decide +kernel
theorem dX8_next_33 : decode cX8_next 33 = .ok (.iaload, 1) := by decide +kernel
theorem dX8_next_34 : decode cX8_next 34 = .ok (.bipush 10, 2) := by decide +kernel
theorem dX8_next_36 : decode cX8_next 36 = .ok (.if_icmp .ne 16, 3) := by decide +kernel
theorem dX8_next_39 : decode cX8_next 39 = .ok (.aload_n 0, 1) := by decide +kernel
theorem dX8_next_40 : decode cX8_next 40 = .ok (.dup, 1) := by decide +kernel
theorem dX8_next_41 : decode cX8_next 41 = .ok (.getfield 124, 3) := by decide +kernel
theorem dX8_next_44 : decode cX8_next 44 = .ok (.iconst 1, 1) := by decide +kernel
theorem dX8_next_45 : decode cX8_next 45 = .ok (.iadd, 1) := by decide +kernel
theorem dX8_next_46 : decode cX8_next 46 = .ok (.putfield 124, 3) := by decide +kernel
theorem dX8_next_49 : decode cX8_next 49 = .ok (.goto (-49), 3) := by decide +kernel
theorem dX8_next_52 : decode cX8_next 52 = .ok (.aload_n 0, 1) := by decide +kernel
theorem dX8_next_53 : decode cX8_next 53 = .ok (.aload_n 0, 1) := by decide +kernel
theorem dX8_next_54 : decode cX8_next 54 = .ok (.getfield 124, 3) := by decide +kernel
theorem dX8_next_57 : decode cX8_next 57 = .ok (.putfield 127, 3) := by decide +kernel
theorem dX8_next_60 : decode cX8_next 60 = .ok (.aload_n 0, 1) := by decide +kernel
theorem dX8_next_61 : decode cX8_next 61 = .ok (.getfield 124, 3) := by decide +kernel
theorem dX8_next_64 : decode cX8_next 64 = .ok (.aload_n 0, 1) := by decide +kernel
theorem dX8_next_65 : decode cX8_next 65 = .ok (.getfield 97, 3) := by decide +kernel
theorem dX8_next_68 : decode cX8_next 68 = .ok (.if_icmp .ne 9, 3) := by decide +kernel
theorem dX8_next_71 : decode cX8_next 71 = .ok (.aload_n 0, 1) := by decide +kernel
theorem dX8_next_72 : decode cX8_next 72 = .ok (.iconst 0, 1) := by decide +kernel
theorem dX8_next_73 : decode cX8_next 73 = .ok (.putfield 130, 3) := by decide +kernel
theorem dX8_next_76 : decode cX8_next 76 = .ok (.return_, 1) := by decide +kernel
theorem dX8_next_77 : decode cX8_next 77 = .ok (.aload_n 0, 1) := by decide +kernel
theorem dX8_next_78 : decode cX8_next 78 = .ok (.getfield 31, 3) := by decide +kernel
theorem dX8_next_81 : decode cX8_next 81 = .ok (.aload_n 0, 1) := by decide +kernel
theorem dX8_next_82 : decode cX8_next 82 = .ok (.getfield 124, 3) := by decide +kernel
theorem dX8_next_85 : decode cX8_next 85 = .ok (.iaload, 1) := by decide +kernel
theorem dX8_next_86 : decode cX8_next 86 = .ok (.istore_n 1, 1) := by decide +kernel
theorem dX8_next_87 : decode cX8_next 87 = .ok (.iload_n 1, 1) := by decide +kernel
theorem dX8_next_88 : decode cX8_next 88 = .ok (.invokestatic 133, 3) := by decide +kernel
theorem dX8_next_91 : decode cX8_next 91 = .ok (.ifCond .eq 107, 3) := by decide +kernel
theorem dX8_next_94 : decode cX8_next 94 = .ok (.aload_n 0, 1) := by decide +kernel
theorem dX8_next_95 : decode cX8_next 95 = .ok (.iconst 0, 1) := by decide +kernel
theorem dX8_next_96 : decode cX8_next 96 = .ok (.putfield 137, 3) := by decide +kernel
theorem dX8_next_99 : decode cX8_next 99 = .ok (.aload_n 0, 1) := by decide +kernel
theorem dX8_next_100 : decode cX8_next 100 = .ok (.getfield 124, 3) := by decide +kernel
theorem dX8_next_103 : decode cX8_next 103 = .ok (.aload_n 0, 1) := by decide +kernel
theorem dX8_next_104 : decode cX8_next 104 = .ok (.getfield 97, 3) := by decide +kernel
theorem dX8_next_107 : decode cX8_next 107 = .ok (.if_icmp .ge 68, 3) := by decide +kernel
theorem dX8_next_110 : decode cX8_next 110 = .ok (.aload_n 0, 1) := by decide +kernel
theorem dX8_next_111 : decode cX8_next 111 = .ok (.getfield 31, 3) := by decide +kernel
theorem dX8_next_114 : decode cX8_next 114 = .ok (.aload_n 0, 1) := by decide +kernel
theorem dX8_next_115 : decode cX8_next 115 = .ok (.getfield 124, 3) := by decide +kernel
theorem dX8_next_118 : decode cX8_next 118 = .ok (.iaload, 1) := by decide +kernel
theorem dX8_next_119 : decode cX8_next 119 = .ok (.invokestatic 133, 3) := by decide +kernel
theorem dX8_next_122 : decode cX8_next 122 = .ok (.ifCond .eq 53, 3) := by decide +kernel
theorem dX8_next_125 : decode cX8_next 125 = .ok (.aload_n 0, 1) := by decide +kernel
theorem dX8_next_126 : decode cX8_next 126 = .ok (.getfield 124, 3) := by decide +kernel
theorem dX8_next_129 : decode cX8_next 129 = .ok (.aload_n 0, 1) := by decide +kernel
theorem dX8_next_130 : decode cX8_next 130 = .ok (.getfield 127, 3) := by decide +kernel
theorem dX8_next_133 : decode cX8_next 133 = .ok (.isub, 1) := by decide +kernel
theorem dX8_next_134 : decode cX8_next 134 = .ok (.iconst 4, 1) := by decide +kernel
theorem dX8_next_135 : decode cX8_next 135 = .ok (.if_icmp .ge 27, 3) := by decide +kernel
theorem dX8_next_138 : decode cX8_next 138 = .ok (.aload_n 0, 1) := by decide +kernel
theorem dX8_next_139 : decode cX8_next 139 = .ok (.bipush 10, 2) := by decide +kernel
theorem dX8_next_141 : decode cX8_next 141 = .ok (.aload_n 0, 1) := by decide +kernel
theorem dX8_next_142 : decode cX8_next 142 = .ok (.getfield 137, 3) := by decide +kernel
theorem dX8_next_145 : decode cX8_next 145 = .ok (.imul, 1) := by decide +kernel
theorem dX8_next_146 : decode cX8_next 146 = .ok (.aload_n 0, 1) := by decide +kernel
theorem dX8_next_147 : decode cX8_next 147 = .ok (.getfield 31, 3) := by decide +kernel
theorem dX8_next_150 : decode cX8_next 150 = .ok (.aload_n 0, 1) := by decide +kernel
theorem dX8_next_151 : decode cX8_next 151 = .ok (.getfield 124, 3) := by decide +kernel
theorem dX8_next_154 : decode cX8_next 154 = .ok (.iaload, 1) := by decide +kernel
theorem dX8_next_155 : decode cX8_next 155 = .ok (.iadd, 1) := by decide +kernel
theorem dX8_next_156 : decode cX8_next 156 = .ok (.bipush 48, 2) := by decide +kernel
theorem dX8_next_158 : decode cX8_next 158 = .ok (.isub, 1) := by decide +kernel
theorem dX8_next_159 : decode cX8_next 159 = .ok (.putfield 137, 3) := by decide +kernel
theorem dX8_next_162 : decode cX8_next 162 = .ok (.aload_n 0, 1) := by decide +kernel
theorem dX8_next_163 : decode cX8_next 163 = .ok (.dup, 1) := by decide +kernel
theorem dX8_next_164 : decode cX8_next 164 = .ok (.getfield 124, 3) := by decide +kernel
theorem dX8_next_167 : decode cX8_next 167 = .ok (.iconst 1, 1) := by decide +kernel
theorem dX8_next_168 : decode cX8_next 168 = .ok (.iadd, 1) := by decide +kernel
theorem dX8_next_169 : decode cX8_next 169 = .ok (.putfield 124, 3) := by decide +kernel
theorem dX8_next_172 : decode cX8_next 172 = .ok (.goto (-73), 3) := by decide +kernel
theorem dX8_next_175 : decode cX8_next 175 = .ok (.aload_n 0, 1) := by decide +kernel
theorem dX8_next_176 : decode cX8_next 176 = .ok (.aload_n 0, 1) := by decide +kernel
theorem dX8_next_177 : decode cX8_next 177 = .ok (.getfield 124, 3) := by decide +kernel
theorem dX8_next_180 : decode cX8_next 180 = .ok (.aload_n 0, 1) := by decide +kernel
theorem dX8_next_181 : decode cX8_next 181 = .ok (.getfield 127, 3) := by decide +kernel
theorem dX8_next_184 : decode cX8_next 184 = .ok (.isub, 1) := by decide +kernel
theorem dX8_next_185 : decode cX8_next 185 = .ok (.iconst 4, 1) := by decide +kernel
theorem dX8_next_186 : decode cX8_next 186 = .ok (.if_icmp .le 7, 3) := by decide +kernel
theorem dX8_next_189 : decode cX8_next 189 = .ok (.iconst 4, 1) := by decide +kernel
theorem dX8_next_190 : decode cX8_next 190 = .ok (.goto 4, 3) := by decide +kernel
theorem dX8_next_193 : decode cX8_next 193 = .ok (.iconst 1, 1) := by decide +kernel
theorem dX8_next_194 : decode cX8_next 194 = .ok (.putfield 130, 3) := by decide +kernel
theorem dX8_next_197 : decode cX8_next 197 = .ok (.return_, 1) := by decide +kernel
theorem dX8_next_198 : decode cX8_next 198 = .ok (.iload_n 1, 1) := by decide +kernel
theorem dX8_next_199 : decode cX8_next 199 = .ok (.invokestatic 140, 3) := by decide +kernel
theorem dX8_next_202 : decode cX8_next 202 = .ok (.ifCond .eq 48, 3) := by decide +kernel
theorem dX8_next_205 : decode cX8_next 205 = .ok (.aload_n 0, 1) := by decide +kernel
theorem dX8_next_206 : decode cX8_next 206 = .ok (.getfield 124, 3) := by decide +kernel
theorem dX8_next_209 : decode cX8_next 209 = .ok (.aload_n 0, 1) := by decide +kernel
theorem dX8_next_210 : decode cX8_next 210 = .ok (.getfield 97, 3) := by decide +kernel
theorem dX8_next_213 : decode cX8_next 213 = .ok (.if_icmp .ge 31, 3) := by decide +kernel
theorem dX8_next_216 : decode cX8_next 216 = .ok (.aload_n 0, 1) := by decide +kernel
theorem dX8_next_217 : decode cX8_next 217 = .ok (.getfield 31, 3) := by decide +kernel
theorem dX8_next_220 : decode cX8_next 220 = .ok (.aload_n 0, 1) := by decide +kernel
theorem dX8_next_221 : decode cX8_next 221 = .ok (.getfield 124, 3) := by decide +kernel
theorem dX8_next_224 : decode cX8_next 224 = .ok (.iaload, 1) := by decide +kernel
theorem dX8_next_225 : decode cX8_next 225 = .ok (.invokestatic 140, 3) := by decide +kernel
theorem dX8_next_228 : decode cX8_next 228 = .ok (.ifCond .eq 16, 3) := by decide +kernel
theorem dX8_next_231 : decode cX8_next 231 = .ok (.aload_n 0, 1) := by decide +kernel
theorem dX8_next_232 : decode cX8_next 232 = .ok (.dup, 1) := by decide +kernel
theorem dX8_next_233 : decode cX8_next 233 = .ok (.getfield 124, 3) := by decide +kernel
theorem dX8_next_236 : decode cX8_next 236 = .ok (.iconst 1, 1) := by decide +kernel
theorem dX8_next_237 : decode cX8_next 237 = .ok (.iadd, 1) := by decide +kernel
theorem dX8_next_238 : decode cX8_next 238 = .ok (.putfield 124, 3) := by decide +kernel
theorem dX8_next_241 : decode cX8_next 241 = .ok (.goto (-36), 3) := by decide +kernel
theorem dX8_next_244 : decode cX8_next 244 = .ok (.aload_n 0, 1) := by decide +kernel
theorem dX8_next_245 : decode cX8_next 245 = .ok (.iconst 2, 1) := by decide +kernel
theorem dX8_next_246 : decode cX8_next 246 = .ok (.putfield 130, 3) := by decide +kernel
theorem dX8_next_249 : decode cX8_next 249 = .ok (.return_, 1) := by decide +kernel
theorem dX8_next_250 : decode cX8_next 250 = .ok (.aload_n 0, 1) := by decide +kernel
theorem dX8_next_251 : decode cX8_next 251 = .ok (.dup, 1) := by decide +kernel
theorem dX8_next_252 : decode cX8_next 252 = .ok (.getfield 124, 3) := by decide +kernel
theorem dX8_next_255 : decode cX8_next 255 = .ok (.iconst 1, 1) := by decide +kernel
theorem dX8_next_256 : decode cX8_next 256 = .ok (.iadd, 1) := by decide +kernel
theorem dX8_next_257 : decode cX8_next 257 = .ok (.putfield 124, 3) := by decide +kernel
theorem dX8_next_260 : decode cX8_next 260 = .ok (.aload_n 0, 1) := by decide +kernel
theorem dX8_next_261 : decode cX8_next 261 = .ok (.iload_n 1, 1) := by decide +kernel
theorem dX8_next_262 : decode cX8_next 262 = .ok (.putfield 137, 3) := by decide +kernel
theorem dX8_next_265 : decode cX8_next 265 = .ok (.aload_n 0, 1) := by decide +kernel
theorem dX8_next_266 : decode cX8_next 266 = .ok (.iload_n 1, 1) := by decide +kernel
theorem dX8_next_267 : decode cX8_next 267 = .ok (.bipush 40, 2) := by decide +kernel
theorem dX8_next_269 : decode cX8_next 269 = .ok (.if_icmp .eq 45, 3) := by decide +kernel
theorem dX8_next_272 : decode cX8_next 272 = .ok (.iload_n 1, 1) := by decide +kernel
theorem dX8_next_273 : decode cX8_next 273 = .ok (.bipush 41, 2) := by decide +kernel
theorem dX8_next_275 : decode cX8_next 275 = .ok (.if_icmp .eq 39, 3) := by decide +kernel
theorem dX8_next_278 : decode cX8_next 278 = .ok (.iload_n 1, 1) := by decide +kernel
theorem dX8_next_279 : decode cX8_next 279 = .ok (.bipush 59, 2) := by decide +kernel
theorem dX8_next_281 : decode cX8_next 281 = .ok (.if_icmp .eq 33, 3) := by decide +kernel
theorem dX8_next_284 : decode cX8_next 284 = .ok (.iload_n 1, 1) := by decide +kernel
theorem dX8_next_285 : decode cX8_next 285 = .ok (.bipush 43, 2) := by decide +kernel
theorem dX8_next_287 : decode cX8_next 287 = .ok (.if_icmp .eq 27, 3) := by decide +kernel
theorem dX8_next_290 : decode cX8_next 290 = .ok (.iload_n 1, 1) := by decide +kernel
theorem dX8_next_291 : decode cX8_next 291 = .ok (.bipush 45, 2) := by decide +kernel
theorem dX8_next_293 : decode cX8_next 293 = .ok (.if_icmp .eq 21, 3) := by decide +kernel
theorem dX8_next_296 : decode cX8_next 296 = .ok (.iload_n 1, 1) := by decide +kernel
theorem dX8_next_297 : decode cX8_next 297 = .ok (.bipush 42, 2) := by decide +kernel
theorem dX8_next_299 : decode cX8_next 299 = .ok (.if_icmp .eq 15, 3) := by decide +kernel
theorem dX8_next_302 : decode cX8_next 302 = .ok (.iload_n 1, 1) := by decide +kernel
theorem dX8_next_303 : decode cX8_next 303 = .ok (.bipush 60, 2) := by decide +kernel
theorem dX8_next_305 : decode cX8_next 305 = .ok (.if_icmp .eq 9, 3) := by decide +kernel
theorem dX8_next_308 : decode cX8_next 308 = .ok (.iload_n 1, 1) := by decide +kernel
theorem dX8_next_309 : decode cX8_next 309 = .ok (.bipush 61, 2) := by decide +kernel
theorem dX8_next_311 : decode cX8_next 311 = .ok (.if_icmp .ne 7, 3) := by decide +kernel
theorem dX8_next_314 : decode cX8_next 314 = .ok (.iconst 3, 1) := by decide +kernel
theorem dX8_next_315 : decode cX8_next 315 = .ok (.goto 4, 3) := by decide +kernel
theorem dX8_next_318 : decode cX8_next 318 = .ok (.iconst 4, 1) := by decide +kernel
theorem dX8_next_319 : decode cX8_next 319 = .ok (.putfield 130, 3) := by decide +kernel
theorem dX8_next_322 : decode cX8_next 322 = .ok (.return_, 1) := by decide +kernel
theorem dX8_isDigit_0 : decode cX8_isDigit 0 = .ok (.iload_n 0, 1) := by decide +kernel
theorem dX8_isDigit_1 : decode cX8_isDigit 1 = .ok (.bipush 48, 2) := by decide +kernel
theorem dX8_isDigit_3 : decode cX8_isDigit 3 = .ok (.if_icmp .lt 13, 3) := by decide +kernel
theorem dX8_isDigit_6 : decode cX8_isDigit 6 = .ok (.iload_n 0, 1) := by decide +kernel
theorem dX8_isDigit_7 : decode cX8_isDigit 7 = .ok (.bipush 57, 2) := by decide +kernel
theorem dX8_isDigit_9 : decode cX8_isDigit 9 = .ok (.if_icmp .gt 7, 3) := by decide +kernel
theorem dX8_isDigit_12 : decode cX8_isDigit 12 = .ok (.iconst 1, 1) := by decide +kernel
theorem dX8_isDigit_13 : decode cX8_isDigit 13 = .ok (.goto 4, 3) := by decide +kernel
theorem dX8_isDigit_16 : decode cX8_isDigit 16 = .ok (.iconst 0, 1) := by decide +kernel
theorem dX8_isDigit_17 : decode cX8_isDigit 17 = .ok (.ireturn, 1) := by decide +kernel
theorem dX8_isLetter_0 : decode cX8_isLetter 0 = .ok (.iload_n 0, 1) := by decide +kernel
theorem dX8_isLetter_1 : decode cX8_isLetter 1 = .ok (.bipush 97, 2) := by decide +kernel
theorem dX8_isLetter_3 : decode cX8_isLetter 3 = .ok (.if_icmp .lt 13, 3) := by decide +kernel
theorem dX8_isLetter_6 : decode cX8_isLetter 6 = .ok (.iload_n 0, 1) := by decide +kernel
theorem dX8_isLetter_7 : decode cX8_isLetter 7 = .ok (.bipush 122, 2) := by decide +kernel
theorem dX8_isLetter_9 : decode cX8_isLetter 9 = .ok (.if_icmp .gt 7, 3) := by decide +kernel
theorem dX8_isLetter_12 : decode cX8_isLetter 12 = .ok (.iconst 1, 1) := by decide +kernel
theorem dX8_isLetter_13 : decode cX8_isLetter 13 = .ok (.goto 4, 3) := by decide +kernel
theorem dX8_isLetter_16 : decode cX8_isLetter 16 = .ok (.iconst 0, 1) := by decide +kernel
theorem dX8_isLetter_17 : decode cX8_isLetter 17 = .ok (.ireturn, 1) := by decide +kernel
set_option maxRecDepth 20000 in
theorem ggX8_is_J0_length_8abf5 : GoodIn wsX8_is wsJ0_length_8abf5 := goodIn_r _ [9, 10, 11, 12, 13, 8, 14, 15, 16] (by decide +kernel) (by decide +kernel)
set_option maxRecDepth 20000 in
theorem gX8_is_J0_length_8abf5 : GoodIn wsX8_is (wsV RX8 91 RJ0 yJ0_length_8abf5 wsJ0_length_8abf5) := goodIn_app (goodIn_of _ (by decide +kernel)) ggX8_is_J0_length_8abf5
set_option maxRecDepth 20000 in
theorem ggX8_is_J0_charAt_5068e : GoodIn wsX8_is wsJ0_charAt_5068e := goodIn_r _ [20, 10, 21, 22, 23, 8, 24, 15, 16, 25, 26, 27, 28, 29, 30, 31, 32, 33, 34, 35, 36, 37, 38, 39, 40, 41, 42, 43, 44, 45, 46, 47, 48, 49, 50, 51, 52, 53] (by decide +kernel) (by decide +kernel)
set_option maxRecDepth 20000 in
theorem gX8_is_J0_charAt_5068e : GoodIn wsX8_is (wsV RX8 101 RJ0 yJ0_charAt_5068e wsJ0_charAt_5068e) := goodIn_app (goodIn_of _ (by decide +kernel)) ggX8_is_J0_charAt_5068e
theorem dX8_is_0 : decode cX8_is 0 = .ok (.aload_n 0, 1) := by decide +kernel
theorem dX8_is_1 : decode cX8_is 1 = .ok (.getfield 130, 3) := by decide +kernel
theorem dX8_is_4 : decode cX8_is 4 = .ok (.iconst 2, 1) := by decide +kernel
theorem dX8_is_5 : decode cX8_is 5 = .ok (.if_icmp .ne 19, 3) := by decide +kernel
theorem dX8_is_8 : decode cX8_is 8 = .ok (.aload_n 0, 1) := by decide +kernel
theorem dX8_is_9 : decode cX8_is 9 = .ok (.getfield 124, 3) := by decide +kernel
theorem dX8_is_12 : decode cX8_is 12 = .ok (.aload_n 0, 1) := by decide +kernel
theorem dX8_is_13 : decode cX8_is 13 = .ok (.getfield 127, 3) := by decide +kernel
theorem dX8_is_16 : decode cX8_is 16 = .ok (.isub, 1) := by decide +kernel
theorem dX8_is_17 : decode cX8_is 17 = .ok (.aload_n 1, 1) := by decide +kernel
theorem dX8_is_18 : decode cX8_is 18 = .ok (.invokevirtual 91, 3) := by decide +kernel
theorem dX8_is_21 : decode cX8_is 21 = .ok (.if_icmp .eq 5, 3) := by decide +kernel
theorem dX8_is_24 : decode cX8_is 24 = .ok (.iconst 0, 1) := by decide +kernel
theorem dX8_is_25 : decode cX8_is 25 = .ok (.ireturn, 1) := by decide +kernel
theorem dX8_is_26 : decode cX8_is 26 = .ok (.iconst 0, 1) := by decide +kernel
theorem dX8_is_27 : decode cX8_is 27 = .ok (.istore_n 2, 1) := by decide +kernel
theorem dX8_is_28 : decode cX8_is 28 = .ok (.iload_n 2, 1) := by decide +kernel
theorem dX8_is_29 : decode cX8_is 29 = .ok (.aload_n 1, 1) := by decide +kernel
theorem dX8_is_30 : decode cX8_is 30 = .ok (.invokevirtual 91, 3) := by decide +kernel
theorem dX8_is_33 : decode cX8_is 33 = .ok (.if_icmp .ge 30, 3) := by decide +kernel
theorem dX8_is_36 : decode cX8_is 36 = .ok (.aload_n 0, 1) := by decide +kernel
theorem dX8_is_37 : decode cX8_is 37 = .ok (.getfield 31, 3) := by decide +kernel
theorem dX8_is_40 : decode cX8_is 40 = .ok (.aload_n 0, 1) := by decide +kernel
theorem dX8_is_41 : decode cX8_is 41 = .ok (.getfield 127, 3) := by decide +kernel
theorem dX8_is_44 : decode cX8_is 44 = .ok (.iload_n 2, 1) := by decide +kernel
theorem dX8_is_45 : decode cX8_is 45 = .ok (.iadd, 1) := by decide +kernel
theorem dX8_is_46 : decode cX8_is 46 = .ok (.iaload, 1) := by decide +kernel
theorem dX8_is_47 : decode cX8_is 47 = .ok (.aload_n 1, 1) := by decide +kernel
theorem dX8_is_48 : decode cX8_is 48 = .ok (.iload_n 2, 1) := by decide +kernel
theorem dX8_is_49 : decode cX8_is 49 = .ok (.invokevirtual 101, 3) := by decide +kernel
theorem dX8_is_52 : decode cX8_is 52 = .ok (.if_icmp .eq 5, 3) := by decide +kernel
theorem dX8_is_55 : decode cX8_is 55 = .ok (.iconst 0, 1) := by decide +kernel
theorem dX8_is_56 : decode cX8_is 56 = .ok (.ireturn, 1) := by decide +kernel
theorem dX8_is_57 : decode cX8_is 57 = .ok (.iinc 2 1, 3) := by decide +kernel
theorem dX8_is_60 : decode cX8_is 60 = .ok (.goto (-32), 3) := by decide +kernel
theorem dX8_is_63 : decode cX8_is 63 = .ok (.iconst 1, 1) := by decide +kernel
theorem dX8_is_64 : decode cX8_is 64 = .ok (.ireturn, 1) := by decide +kernel
theorem dX8_is__0 : decode cX8_is_ 0 = .ok (.aload_n 0, 1) := by decide +kernel
theorem dX8_is__1 : decode cX8_is_ 1 = .ok (.getfield 130, 3) := by decide +kernel
theorem dX8_is__4 : decode cX8_is_ 4 = .ok (.iconst 3, 1) := by decide +kernel
theorem dX8_is__5 : decode cX8_is_ 5 = .ok (.if_icmp .ne 15, 3) := by decide +kernel
theorem dX8_is__8 : decode cX8_is_ 8 = .ok (.aload_n 0, 1) := by decide +kernel
theorem dX8_is__9 : decode cX8_is_ 9 = .ok (.getfield 137, 3) := by decide +kernel
theorem dX8_is__12 : decode cX8_is_ 12 = .ok (.iload_n 1, 1) := by decide +kernel
theorem dX8_is__13 : decode cX8_is_ 13 = .ok (.if_icmp .ne 7, 3) := by decide +kernel
theorem dX8_is__16 : decode cX8_is_ 16 = .ok (.iconst 1, 1) := by decide +kernel
theorem dX8_is__17 : decode cX8_is_ 17 = .ok (.goto 4, 3) := by decide +kernel
theorem dX8_is__20 : decode cX8_is_ 20 = .ok (.iconst 0, 1) := by decide +kernel
theorem dX8_is__21 : decode cX8_is_ 21 = .ok (.ireturn, 1) := by decide +kernel
set_option maxRecDepth 20000 in
theorem ggX8_name_X8_is : GoodIn wsX8_name wsX8_is := goodIn_r _ [5, 6, 7, 8, 9, 10, 11, 12, 13, 14, 15, 16, 17, 18, 19, 20, 21, 22, 23, 24, 25, 26, 27, 28, 29, 30, 31, 32, 33, 34, 35, 36, 37, 38, 39, 40, 41, 42, 43, 44, 45, 46, 47, 48, 49, 50, 51, 52, 53, 54, 55, 56, 57, 58, 59, 60, 61, 62, 63, 64, 65, 66, 67, 68, 69, 70, 71, 72, 73, 74, 75, 76, 77, 78, 79, 80, 81, 82, 83, 84, 85, 86, 87, 88, 89, 90, 91, 92, 93, 94, 95, 96, 97, 98, 99, 100, 101, 102, 103, 104, 105] (by decide +kernel) (by decide +kernel)
set_option maxRecDepth 20000 in
theorem gX8_name_X8_is : GoodIn wsX8_name (wsV RX8 145 RX8 yX8_is wsX8_is) := goodIn_app (goodIn_of _ (by decide +kernel)) ggX8_name_X8_is
theorem dX8_name_0 : decode cX8_name 0 = .ok (.aload_n 0, 1) := by decide +kernel
theorem dX8_name_1 : decode cX8_name 1 = .ok (.ldc 143, 2) := by decide +kernel
theorem dX8_name_3 : decode cX8_name 3 = .ok (.invokevirtual 145, 3) := by decide +kernel
theorem dX8_name_6 : decode cX8_name 6 = .ok (.ifCond .eq 5, 3) := by decide +kernel
theorem dX8_name_9 : decode cX8_name 9 = .ok (.iconst 1, 1) := by decide +kernel
theorem dX8_name_10 : decode cX8_name 10 = .ok (.ireturn, 1) := by decide +kernel
theorem dX8_name_11 : decode cX8_name 11 = .ok (.aload_n 0, 1) := by decide +kernel
theorem dX8_name_12 : decode cX8_name 12 = .ok (.ldc 149, 2) := by decide +kernel
theorem dX8_name_14 : decode cX8_name 14 = .ok (.invokevirtual 145, 3) := by decide +kernel
theorem dX8_name_17 : decode cX8_name 17 = .ok (.ifCond .eq 5, 3) := by decide +kernel
theorem dX8_name_20 : decode cX8_name 20 = .ok (.iconst 2, 1) := by decide +kernel
theorem dX8_name_21 : decode cX8_name 21 = .ok (.ireturn, 1) := by decide +kernel
theorem dX8_name_22 : decode cX8_name 22 = .ok (.aload_n 0, 1) := by decide +kernel
theorem dX8_name_23 : decode cX8_name 23 = .ok (.ldc 151, 2) := by decide +kernel
theorem dX8_name_25 : decode cX8_name 25 = .ok (.invokevirtual 145, 3) := by decide +kernel
theorem dX8_name_28 : decode cX8_name 28 = .ok (.ifCond .eq 5, 3) := by decide +kernel
theorem dX8_name_31 : decode cX8_name 31 = .ok (.iconst 3, 1) := by decide +kernel
theorem dX8_name_32 : decode cX8_name 32 = .ok (.ireturn, 1) := by decide +kernel
theorem dX8_name_33 : decode cX8_name 33 = .ok (.aload_n 0, 1) := by decide +kernel
theorem dX8_name_34 : decode cX8_name 34 = .ok (.ldc 153, 2) := by decide +kernel
theorem dX8_name_36 : decode cX8_name 36 = .ok (.invokevirtual 145, 3) := by decide +kernel
theorem dX8_name_39 : decode cX8_name 39 = .ok (.ifCond .eq 5, 3) := by decide +kernel
theorem dX8_name_42 : decode cX8_name 42 = .ok (.iconst 4, 1) := by decide +kernel
theorem dX8_name_43 : decode cX8_name 43 = .ok (.ireturn, 1) := by decide +kernel
theorem dX8_name_44 : decode cX8_name 44 = .ok (.aload_n 0, 1) := by decide +kernel
theorem dX8_name_45 : decode cX8_name 45 = .ok (.ldc 154, 2) := by decide +kernel
theorem dX8_name_47 : decode cX8_name 47 = .ok (.invokevirtual 145, 3) := by decide +kernel
theorem dX8_name_50 : decode cX8_name 50 = .ok (.ifCond .eq 5, 3) := by decide +kernel
theorem dX8_name_53 : decode cX8_name 53 = .ok (.iconst 5, 1) := by decide +kernel
theorem dX8_name_54 : decode cX8_name 54 = .ok (.ireturn, 1) := by decide +kernel
theorem dX8_name_55 : decode cX8_name 55 = .ok (.aload_n 0, 1) := by decide +kernel
theorem dX8_name_56 : decode cX8_name 56 = .ok (.ldc 155, 2) := by decide +kernel
theorem dX8_name_58 : decode cX8_name 58 = .ok (.invokevirtual 145, 3) := by decide +kernel
theorem dX8_name_61 : decode cX8_name 61 = .ok (.ifCond .eq 6, 3) := by decide +kernel
theorem dX8_name_64 : decode cX8_name 64 = .ok (.bipush 6, 2) := by decide +kernel
theorem dX8_name_66 : decode cX8_name 66 = .ok (.ireturn, 1) := by decide +kernel
theorem dX8_name_67 : decode cX8_name 67 = .ok (.iconst 0, 1) := by decide +kernel
theorem dX8_name_68 : decode cX8_name 68 = .ok (.ireturn, 1) := by decide +kernel
theorem dX8_put_0 : decode cX8_put 0 = .ok (.aload_n 0, 1) := by decide +kernel
theorem dX8_put_1 : decode cX8_put 1 = .ok (.getfield 34, 3) := by decide +kernel
theorem dX8_put_4 : decode cX8_put 4 = .ok (.sipush 170, 3) := by decide +kernel
theorem dX8_put_7 : decode cX8_put 7 = .ok (.aload_n 0, 1) := by decide +kernel
theorem dX8_put_8 : decode cX8_put 8 = .ok (.getfield 118, 3) := by decide +kernel
theorem dX8_put_11 : decode cX8_put 11 = .ok (.imul, 1) := by decide +kernel
theorem dX8_put_12 : decode cX8_put 12 = .ok (.aload_n 0, 1) := by decide +kernel
theorem dX8_put_13 : decode cX8_put 13 = .ok (.dup, 1) := by decide +kernel
theorem dX8_put_14 : decode cX8_put 14 = .ok (.getfield 157, 3) := by decide +kernel
theorem dX8_put_17 : decode cX8_put 17 = .ok (.dup_x1, 1) := by decide +kernel
theorem dX8_put_18 : decode cX8_put 18 = .ok (.iconst 1, 1) := by decide +kernel
theorem dX8_put_19 : decode cX8_put 19 = .ok (.iadd, 1) := by decide +kernel
theorem dX8_put_20 : decode cX8_put 20 = .ok (.putfield 157, 3) := by decide +kernel
theorem dX8_put_23 : decode cX8_put 23 = .ok (.iadd, 1) := by decide +kernel
theorem dX8_put_24 : decode cX8_put 24 = .ok (.iload_n 1, 1) := by decide +kernel
theorem dX8_put_25 : decode cX8_put 25 = .ok (.iastore, 1) := by decide +kernel
theorem dX8_put_26 : decode cX8_put 26 = .ok (.return_, 1) := by decide +kernel
set_option maxRecDepth 20000 in
theorem ggX8_any_X8_both : GoodIn wsX8_any wsX8_both := goodIn_r _ [81, 82, 83, 84, 4, 5, 6, 7, 8, 9, 10, 11, 12, 13, 14, 15, 16, 17, 18, 19, 20, 21, 22, 23, 24, 25, 26, 27, 28, 29, 30, 31, 32, 33, 34, 35, 36, 37, 38, 39, 40, 41, 42, 43, 44, 45, 46, 47, 48, 49, 50, 51, 52, 53, 54, 55, 56, 57, 58, 59, 60, 61, 62, 63, 64, 65, 66, 67, 68, 69, 70, 71, 72, 73, 74, 75, 76, 77, 78, 79, 80, 0, 1, 2, 3, 85, 86, 87, 88, 89, 90, 91, 92, 93, 94, 95, 96, 97, 98, 99, 100, 101, 102, 103, 104, 105, 106, 107, 108, 109, 110, 111, 112, 113, 114, 115, 116, 117, 118, 119, 120, 121, 122, 123, 124, 125, 126, 127, 128, 129, 130, 131, 132, 133, 134, 135, 136, 137, 138, 139, 140, 141, 142, 143, 144, 145, 146, 147, 148, 149, 150, 151, 152, 153, 154, 155, 156] (by decide +kernel) (by decide +kernel)
set_option maxRecDepth 20000 in
theorem gX8_any_X8_both : GoodIn wsX8_any (wsV RX8 160 RX8 yX8_both wsX8_both) := goodIn_app (goodIn_of _ (by decide +kernel)) ggX8_any_X8_both
set_option maxRecDepth 20000 in
theorem ggX8_any_X8_is : GoodIn wsX8_any wsX8_is := goodIn_r _ [8, 9, 10, 11, 12, 13, 14, 15, 16, 17, 18, 19, 20, 21, 22, 23, 24, 25, 26, 27, 28, 29, 30, 31, 32, 33, 34, 35, 36, 37, 38, 39, 40, 41, 42, 43, 44, 45, 46, 47, 48, 49, 50, 51, 52, 53, 54, 55, 56, 57, 58, 59, 60, 61, 110, 111, 112, 113, 114, 115, 116, 117, 118, 119, 120, 121, 122, 123, 124, 125, 126, 127, 128, 129, 130, 131, 132, 133, 134, 135, 136, 137, 138, 139, 140, 141, 142, 143, 144, 145, 146, 147, 148, 149, 150, 151, 152, 153, 154, 155, 156] (by decide +kernel) (by decide +kernel)
set_option maxRecDepth 20000 in
theorem gX8_any_X8_is : GoodIn wsX8_any (wsV RX8 145 RX8 yX8_is wsX8_is) := goodIn_app (goodIn_of _ (by decide +kernel)) ggX8_any_X8_is
set_option maxRecDepth 20000 in
theorem ggX8_any_X8_next : GoodIn wsX8_any wsX8_next := goodIn_r _ [65, 10, 66, 12, 11, 9, 67, 68, 69, 4, 70, 71, 72, 73, 110, 111, 112, 113, 114, 115, 116, 117, 118, 119, 120, 121, 122, 123, 124, 125, 126, 127, 128, 129, 130, 131, 132, 133, 134, 135, 136, 137, 138, 139, 140, 141, 142, 143, 144, 145, 146, 147, 148, 149, 150, 151, 152, 153, 154, 155, 156] (by decide +kernel) (by decide +kernel)
set_option maxRecDepth 20000 in
theorem gX8_any_X8_next : GoodIn wsX8_any (wsV RX8 166 RX8 yX8_next wsX8_next) := goodIn_app (goodIn_of _ (by decide +kernel)) ggX8_any_X8_next
set_option maxRecDepth 20000 in
theorem ggX8_any_X8_put : GoodIn wsX8_any wsX8_put := goodIn_r _ [77, 78, 79, 80, 110, 111, 112, 113, 114, 115, 116, 117, 118, 119, 120, 121, 122, 123, 124, 125, 126, 127, 128, 129, 130, 131, 132, 133, 134, 135, 136, 137, 138, 139, 140, 141, 142, 143, 144, 145, 146, 147, 148, 149, 150, 151, 152, 153, 154, 155, 156] (by decide +kernel) (by decide +kernel)
set_option maxRecDepth 20000 in
theorem gX8_any_X8_put : GoodIn wsX8_any (wsV RX8 169 RX8 yX8_put wsX8_put) := goodIn_app (goodIn_of _ (by decide +kernel)) ggX8_any_X8_put
theorem dX8_any_0 : decode cX8_any 0 = .ok (.aload_n 0, 1) := by decide +kernel
theorem dX8_any_1 : decode cX8_any 1 = .ok (.invokevirtual 160, 3) := by decide +kernel
theorem dX8_any_4 : decode cX8_any 4 = .ok (.ifCond .ne 5, 3) := by decide +kernel
theorem dX8_any_7 : decode cX8_any 7 = .ok (.iconst 0, 1) := by decide +kernel
theorem dX8_any_8 : decode cX8_any 8 = .ok (.ireturn, 1) := by decide +kernel
theorem dX8_any_9 : decode cX8_any 9 = .ok (.aload_n 0, 1) := by decide +kernel
theorem dX8_any_10 : decode cX8_any 10 = .ok (.ldc 164, 2) := by decide +kernel
theorem dX8_any_12 : decode cX8_any 12 = .ok (.invokevirtual 145, 3) := by decide +kernel
theorem dX8_any_15 : decode cX8_any 15 = .ok (.ifCond .eq 25, 3) := by decide +kernel
theorem dX8_any_18 : decode cX8_any 18 = .ok (.aload_n 0, 1) := by decide +kernel
theorem dX8_any_19 : decode cX8_any 19 = .ok (.invokevirtual 166, 3) := by decide +kernel
theorem dX8_any_22 : decode cX8_any 22 = .ok (.aload_n 0, 1) := by decide +kernel
theorem dX8_any_23 : decode cX8_any 23 = .ok (.invokevirtual 160, 3) := by decide +kernel
theorem dX8_any_26 : decode cX8_any 26 = .ok (.ifCond .ne 5, 3) := by decide +kernel
theorem dX8_any_29 : decode cX8_any 29 = .ok (.iconst 0, 1) := by decide +kernel
theorem dX8_any_30 : decode cX8_any 30 = .ok (.ireturn, 1) := by decide +kernel
theorem dX8_any_31 : decode cX8_any 31 = .ok (.aload_n 0, 1) := by decide +kernel
theorem dX8_any_32 : decode cX8_any 32 = .ok (.bipush (-11), 2) := by decide +kernel
theorem dX8_any_34 : decode cX8_any 34 = .ok (.invokevirtual 169, 3) := by decide +kernel
theorem dX8_any_37 : decode cX8_any 37 = .ok (.goto (-28), 3) := by decide +kernel
theorem dX8_any_40 : decode cX8_any 40 = .ok (.iconst 1, 1) := by decide +kernel
theorem dX8_any_41 : decode cX8_any 41 = .ok (.ireturn, 1) := by decide +kernel
set_option maxRecDepth 20000 in
theorem ggX8_both_X8_not : GoodIn wsX8_both wsX8_not := goodIn_r _ [85, 86, 5, 6, 7, 4, 8, 9, 10, 11, 12, 13, 14, 15, 16, 17, 18, 19, 20, 21, 22, 23, 24, 25, 26, 27, 28, 29, 30, 31, 32, 33, 34, 35, 36, 37, 38, 39, 40, 41, 42, 43, 44, 45, 46, 47, 48, 49, 50, 51, 52, 53, 54, 55, 56, 57, 58, 59, 60, 61, 62, 63, 64, 65, 66, 67, 68, 69, 70, 71, 72, 73, 1, 2, 3, 74, 75, 76, 77, 78, 79, 80, 87, 88, 89, 90, 91, 92, 93, 81, 82, 83, 84, 0, 94, 95, 96, 97, 98, 99, 100, 101, 102, 103, 104, 105, 106, 107, 108, 109, 110, 111, 112, 113, 114, 115, 116, 117, 118, 119, 120, 121, 122, 123, 124, 125, 126, 127, 128, 129, 130, 131, 132, 133, 134, 135, 136, 137, 138, 139, 140, 141, 142, 143, 144, 145, 146, 147, 148, 149, 150, 151, 152, 153, 154, 155, 156] (by decide +kernel) (by decide +kernel)
set_option maxRecDepth 20000 in
theorem gX8_both_X8_not : GoodIn wsX8_both (wsV RX8 173 RX8 yX8_not wsX8_not) := goodIn_app (goodIn_of _ (by decide +kernel)) ggX8_both_X8_not
set_option maxRecDepth 20000 in
theorem ggX8_both_X8_is : GoodIn wsX8_both wsX8_is := goodIn_r _ [8, 9, 10, 11, 12, 13, 14, 15, 16, 17, 18, 19, 20, 21, 22, 23, 24, 25, 26, 27, 28, 29, 30, 31, 32, 33, 34, 35, 36, 37, 38, 39, 40, 41, 42, 43, 44, 45, 46, 47, 48, 49, 50, 51, 52, 53, 54, 55, 56, 57, 58, 59, 60, 61, 110, 111, 112, 113, 114, 115, 116, 117, 118, 119, 120, 121, 122, 123, 124, 125, 126, 127, 128, 129, 130, 131, 132, 133, 134, 135, 136, 137, 138, 139, 140, 141, 142, 143, 144, 145, 146, 147, 148, 149, 150, 151, 152, 153, 154, 155, 156] (by decide +kernel) (by decide +kernel)
set_option maxRecDepth 20000 in
theorem gX8_both_X8_is : GoodIn wsX8_both (wsV RX8 145 RX8 yX8_is wsX8_is) := goodIn_app (goodIn_of _ (by decide +kernel)) ggX8_both_X8_is
set_option maxRecDepth 20000 in
theorem ggX8_both_X8_next : GoodIn wsX8_both wsX8_next := goodIn_r _ [65, 10, 66, 12, 11, 9, 67, 68, 69, 4, 70, 71, 72, 73, 110, 111, 112, 113, 114, 115, 116, 117, 118, 119, 120, 121, 122, 123, 124, 125, 126, 127, 128, 129, 130, 131, 132, 133, 134, 135, 136, 137, 138, 139, 140, 141, 142, 143, 144, 145, 146, 147, 148, 149, 150, 151, 152, 153, 154, 155, 156] (by decide +kernel) (by decide +kernel)
set_option maxRecDepth 20000 in
theorem gX8_both_X8_next : GoodIn wsX8_both (wsV RX8 166 RX8 yX8_next wsX8_next) := goodIn_app (goodIn_of _ (by decide +kernel)) ggX8_both_X8_next
set_option maxRecDepth 20000 in
theorem ggX8_both_X8_put : GoodIn wsX8_both wsX8_put := goodIn_r _ [77, 78, 79, 80, 110, 111, 112, 113, 114, 115, 116, 117, 118, 119, 120, 121, 122, 123, 124, 125, 126, 127, 128, 129, 130, 131, 132, 133, 134, 135, 136, 137, 138, 139, 140, 141, 142, 143, 144, 145, 146, 147, 148, 149, 150, 151, 152, 153, 154, 155, 156] (by decide +kernel) (by decide +kernel)
set_option maxRecDepth 20000 in
theorem gX8_both_X8_put : GoodIn wsX8_both (wsV RX8 169 RX8 yX8_put wsX8_put) := goodIn_app (goodIn_of _ (by decide +kernel)) ggX8_both_X8_put
theorem dX8_both_0 : decode cX8_both 0 = .ok (.aload_n 0, 1) := by decide +kernel
theorem dX8_both_1 : decode cX8_both 1 = .ok (.invokevirtual 173, 3) := by decide +kernel
theorem dX8_both_4 : decode cX8_both 4 = .ok (.ifCond .ne 5, 3) := by decide +kernel
theorem dX8_both_7 : decode cX8_both 7 = .ok (.iconst 0, 1) := by decide +kernel
theorem dX8_both_8 : decode cX8_both 8 = .ok (.ireturn, 1) := by decide +kernel
theorem dX8_both_9 : decode cX8_both 9 = .ok (.aload_n 0, 1) := by decide +kernel
theorem dX8_both_10 : decode cX8_both 10 = .ok (.ldc 176, 2) := by decide +kernel
theorem dX8_both_12 : decode cX8_both 12 = .ok (.invokevirtual 145, 3) := by decide +kernel
theorem dX8_both_15 : decode cX8_both 15 = .ok (.ifCond .eq 25, 3) := by decide +kernel
theorem dX8_both_18 : decode cX8_both 18 = .ok (.aload_n 0, 1) := by decide +kernel
theorem dX8_both_19 : decode cX8_both 19 = .ok (.invokevirtual 166, 3) := by decide +kernel
theorem dX8_both_22 : decode cX8_both 22 = .ok (.aload_n 0, 1) := by decide +kernel
theorem dX8_both_23 : decode cX8_both 23 = .ok (.invokevirtual 173, 3) := by decide +kernel
theorem dX8_both_26 : decode cX8_both 26 = .ok (.ifCond .ne 5, 3) := by decide +kernel
theorem dX8_both_29 : decode cX8_both 29 = .ok (.iconst 0, 1) := by decide +kernel
theorem dX8_both_30 : decode cX8_both 30 = .ok (.ireturn, 1) := by decide +kernel
theorem dX8_both_31 : decode cX8_both 31 = .ok (.aload_n 0, 1) := by decide +kernel
theorem dX8_both_32 : decode cX8_both 32 = .ok (.bipush (-12), 2) := by decide +kernel
theorem dX8_both_34 : decode cX8_both 34 = .ok (.invokevirtual 169, 3) := by decide +kernel
theorem dX8_both_37 : decode cX8_both 37 = .ok (.goto (-28), 3) := by decide +kernel
theorem dX8_both_40 : decode cX8_both 40 = .ok (.iconst 1, 1) := by decide +kernel
theorem dX8_both_41 : decode cX8_both 41 = .ok (.ireturn, 1) := by decide +kernel
set_option maxRecDepth 20000 in
theorem ggX8_not_X8_is : GoodIn wsX8_not wsX8_is := goodIn_r _ [6, 7, 8, 9, 10, 11, 12, 13, 14, 15, 16, 17, 18, 19, 20, 21, 22, 23, 24, 25, 26, 27, 28, 29, 30, 31, 32, 33, 34, 35, 36, 37, 38, 39, 40, 41, 42, 43, 44, 45, 46, 47, 48, 49, 50, 51, 52, 53, 54, 55, 56, 57, 58, 59, 110, 111, 112, 113, 114, 115, 116, 117, 118, 119, 120, 121, 122, 123, 124, 125, 126, 127, 128, 129, 130, 131, 132, 133, 134, 135, 136, 137, 138, 139, 140, 141, 142, 143, 144, 145, 146, 147, 148, 149, 150, 151, 152, 153, 154, 155, 156] (by decide +kernel) (by decide +kernel)
set_option maxRecDepth 20000 in
theorem gX8_not_X8_is : GoodIn wsX8_not (wsV RX8 145 RX8 yX8_is wsX8_is) := goodIn_app (goodIn_of _ (by decide +kernel)) ggX8_not_X8_is
set_option maxRecDepth 20000 in
theorem ggX8_not_X8_next : GoodIn wsX8_not wsX8_next := goodIn_r _ [63, 8, 64, 10, 9, 7, 65, 66, 67, 5, 68, 69, 70, 71, 110, 111, 112, 113, 114, 115, 116, 117, 118, 119, 120, 121, 122, 123, 124, 125, 126, 127, 128, 129, 130, 131, 132, 133, 134, 135, 136, 137, 138, 139, 140, 141, 142, 143, 144, 145, 146, 147, 148, 149, 150, 151, 152, 153, 154, 155, 156] (by decide +kernel) (by decide +kernel)
set_option maxRecDepth 20000 in
theorem gX8_not_X8_next : GoodIn wsX8_not (wsV RX8 166 RX8 yX8_next wsX8_next) := goodIn_app (goodIn_of _ (by decide +kernel)) ggX8_not_X8_next
set_option maxRecDepth 20000 in
theorem ggX8_not_X8_not : GoodIn wsX8_not wsX8_not := goodIn_r _ [0, 1, 2, 3, 4, 5, 6, 7, 8, 9, 10, 11, 12, 13, 14, 15, 16, 17, 18, 19, 20, 21, 22, 23, 24, 25, 26, 27, 28, 29, 30, 31, 32, 33, 34, 35, 36, 37, 38, 39, 40, 41, 42, 43, 44, 45, 46, 47, 48, 49, 50, 51, 52, 53, 54, 55, 56, 57, 58, 59, 60, 61, 62, 63, 64, 65, 66, 67, 68, 69, 70, 71, 72, 73, 74, 75, 76, 77, 78, 79, 80, 81, 82, 83, 84, 85, 86, 87, 88, 89, 90, 91, 92, 93, 94, 95, 96, 97, 98, 99, 100, 101, 102, 103, 104, 105, 106, 107, 108, 109, 110, 111, 112, 113, 114, 115, 116, 117, 118, 119, 120, 121, 122, 123, 124, 125, 126, 127, 128, 129, 130, 131, 132, 133, 134, 135, 136, 137, 138, 139, 140, 141, 142, 143, 144, 145, 146, 147, 148, 149, 150, 151, 152, 153, 154, 155, 156] (by decide +kernel) (by decide +kernel)
set_option maxRecDepth 20000 in
theorem gX8_not_X8_not : GoodIn wsX8_not (wsV RX8 173 RX8 yX8_not wsX8_not) := goodIn_app (goodIn_of _ (by decide +kernel)) ggX8_not_X8_not
set_option maxRecDepth 20000 in
theorem ggX8_not_X8_put : GoodIn wsX8_not wsX8_put := goodIn_r _ [78, 79, 80, 81, 110, 111, 112, 113, 114, 115, 116, 117, 118, 119, 120, 121, 122, 123, 124, 125, 126, 127, 128, 129, 130, 131, 132, 133, 134, 135, 136, 137, 138, 139, 140, 141, 142, 143, 144, 145, 146, 147, 148, 149, 150, 151, 152, 153, 154, 155, 156] (by decide +kernel) (by decide +kernel)
set_option maxRecDepth 20000 in
theorem gX8_not_X8_put : GoodIn wsX8_not (wsV RX8 169 RX8 yX8_put wsX8_put) := goodIn_app (goodIn_of _ (by decide +kernel)) ggX8_not_X8_put
set_option maxRecDepth 20000 in
theorem ggX8_not_X8_sum : GoodIn wsX8_not wsX8_sum := goodIn_r _ [105, 106, 107, 108, 5, 85, 86, 87, 88, 7, 65, 60, 61, 62, 63, 8, 64, 10, 9, 66, 67, 68, 69, 70, 71, 75, 76, 77, 78, 79, 80, 81, 89, 90, 91, 92, 2, 3, 4, 6, 11, 12, 13, 14, 15, 16, 17, 18, 19, 20, 21, 22, 23, 24, 25, 26, 27, 28, 29, 30, 31, 32, 33, 34, 35, 36, 37, 38, 39, 40, 41, 42, 43, 44, 45, 46, 47, 48, 49, 50, 51, 52, 53, 54, 55, 56, 57, 58, 59, 93, 72, 73, 74, 0, 1, 82, 83, 84, 94, 95, 96, 97, 98, 99, 100, 101, 102, 103, 104, 109, 110, 111, 112, 113, 114, 115, 116, 117, 118, 119, 120, 121, 122, 123, 124, 125, 126, 127, 128, 129, 130, 131, 132, 133, 134, 135, 136, 137, 138, 139, 140, 141, 142, 143, 144, 145, 146, 147, 148, 149, 150, 151, 152, 153, 154, 155, 156] (by decide +kernel) (by decide +kernel)
set_option maxRecDepth 20000 in
theorem gX8_not_X8_sum : GoodIn wsX8_not (wsV RX8 182 RX8 yX8_sum wsX8_sum) := goodIn_app (goodIn_of _ (by decide +kernel)) ggX8_not_X8_sum
set_option maxRecDepth 20000 in
theorem ggX8_not_X8_is_ : GoodIn wsX8_not wsX8_is_ := goodIn_r _ [88, 7, 65, 110, 111, 112, 113, 114, 115, 116, 117, 118, 119, 120, 121, 122, 123, 124, 125, 126, 127, 128, 129, 130, 131, 132, 133, 134, 135, 136, 137, 138, 139, 140, 141, 142, 143, 144, 145, 146, 147, 148, 149, 150, 151, 152, 153, 154, 155, 156] (by decide +kernel) (by decide +kernel)
set_option maxRecDepth 20000 in
theorem gX8_not_X8_is_ : GoodIn wsX8_not (wsV RX8 185 RX8 yX8_is_ wsX8_is_) := goodIn_app (goodIn_of _ (by decide +kernel)) ggX8_not_X8_is_
theorem dX8_not_0 : decode cX8_not 0 = .ok (.aload_n 0, 1) := by decide +kernel
theorem dX8_not_1 : decode cX8_not 1 = .ok (.ldc 178, 2) := by decide +kernel
theorem dX8_not_3 : decode cX8_not 3 = .ok (.invokevirtual 145, 3) := by decide +kernel
theorem dX8_not_6 : decode cX8_not 6 = .ok (.ifCond .eq 54, 3) := by decide +kernel
theorem dX8_not_9 : decode cX8_not 9 = .ok (.aload_n 0, 1) := by decide +kernel
theorem dX8_not_10 : decode cX8_not 10 = .ok (.getfield 179, 3) := by decide +kernel
theorem dX8_not_13 : decode cX8_not 13 = .ok (.iconst 5, 1) := by decide +kernel
theorem dX8_not_14 : decode cX8_not 14 = .ok (.if_icmp .ne 5, 3) := by decide +kernel
theorem dX8_not_17 : decode cX8_not 17 = .ok (.iconst 0, 1) := by decide +kernel
theorem dX8_not_18 : decode cX8_not 18 = .ok (.ireturn, 1) := by decide +kernel
theorem dX8_not_19 : decode cX8_not 19 = .ok (.aload_n 0, 1) := by decide +kernel
theorem dX8_not_20 : decode cX8_not 20 = .ok (.dup, 1) := by decide +kernel
theorem dX8_not_21 : decode cX8_not 21 = .ok (.getfield 179, 3) := by decide +kernel
theorem dX8_not_24 : decode cX8_not 24 = .ok (.iconst 1, 1) := by decide +kernel
theorem dX8_not_25 : decode cX8_not 25 = .ok (.iadd, 1) := by decide +kernel
theorem dX8_not_26 : decode cX8_not 26 = .ok (.putfield 179, 3) := by decide +kernel
theorem dX8_not_29 : decode cX8_not 29 = .ok (.aload_n 0, 1) := by decide +kernel
theorem dX8_not_30 : decode cX8_not 30 = .ok (.invokevirtual 166, 3) := by decide +kernel
theorem dX8_not_33 : decode cX8_not 33 = .ok (.aload_n 0, 1) := by decide +kernel
theorem dX8_not_34 : decode cX8_not 34 = .ok (.invokevirtual 173, 3) := by decide +kernel
theorem dX8_not_37 : decode cX8_not 37 = .ok (.ifCond .ne 5, 3) := by decide +kernel
theorem dX8_not_40 : decode cX8_not 40 = .ok (.iconst 0, 1) := by decide +kernel
theorem dX8_not_41 : decode cX8_not 41 = .ok (.ireturn, 1) := by decide +kernel
theorem dX8_not_42 : decode cX8_not 42 = .ok (.aload_n 0, 1) := by decide +kernel
theorem dX8_not_43 : decode cX8_not 43 = .ok (.dup, 1) := by decide +kernel
theorem dX8_not_44 : decode cX8_not 44 = .ok (.getfield 179, 3) := by decide +kernel
theorem dX8_not_47 : decode cX8_not 47 = .ok (.iconst 1, 1) := by decide +kernel
theorem dX8_not_48 : decode cX8_not 48 = .ok (.isub, 1) := by decide +kernel
theorem dX8_not_49 : decode cX8_not 49 = .ok (.putfield 179, 3) := by decide +kernel
theorem dX8_not_52 : decode cX8_not 52 = .ok (.aload_n 0, 1) := by decide +kernel
theorem dX8_not_53 : decode cX8_not 53 = .ok (.bipush (-13), 2) := by decide +kernel
theorem dX8_not_55 : decode cX8_not 55 = .ok (.invokevirtual 169, 3) := by decide +kernel
theorem dX8_not_58 : decode cX8_not 58 = .ok (.iconst 1, 1) := by decide +kernel
theorem dX8_not_59 : decode cX8_not 59 = .ok (.ireturn, 1) := by decide +kernel
theorem dX8_not_60 : decode cX8_not 60 = .ok (.aload_n 0, 1) := by decide +kernel
theorem dX8_not_61 : decode cX8_not 61 = .ok (.invokevirtual 182, 3) := by decide +kernel
theorem dX8_not_64 : decode cX8_not 64 = .ok (.ifCond .ne 5, 3) := by decide +kernel
theorem dX8_not_67 : decode cX8_not 67 = .ok (.iconst 0, 1) := by decide +kernel
theorem dX8_not_68 : decode cX8_not 68 = .ok (.ireturn, 1) := by decide +kernel
theorem dX8_not_69 : decode cX8_not 69 = .ok (.aload_n 0, 1) := by decide +kernel
theorem dX8_not_70 : decode cX8_not 70 = .ok (.bipush 60, 2) := by decide +kernel
theorem dX8_not_72 : decode cX8_not 72 = .ok (.invokevirtual 185, 3) := by decide +kernel
theorem dX8_not_75 : decode cX8_not 75 = .ok (.ifCond .ne 12, 3) := by decide +kernel
theorem dX8_not_78 : decode cX8_not 78 = .ok (.aload_n 0, 1) := by decide +kernel
theorem dX8_not_79 : decode cX8_not 79 = .ok (.bipush 61, 2) := by decide +kernel
theorem dX8_not_81 : decode cX8_not 81 = .ok (.invokevirtual 185, 3) := by decide +kernel
theorem dX8_not_84 : decode cX8_not 84 = .ok (.ifCond .eq 38, 3) := by decide +kernel
theorem dX8_not_87 : decode cX8_not 87 = .ok (.aload_n 0, 1) := by decide +kernel
theorem dX8_not_88 : decode cX8_not 88 = .ok (.bipush 60, 2) := by decide +kernel
theorem dX8_not_90 : decode cX8_not 90 = .ok (.invokevirtual 185, 3) := by decide +kernel
theorem dX8_not_93 : decode cX8_not 93 = .ok (.ifCond .eq 8, 3) := by decide +kernel
theorem dX8_not_96 : decode cX8_not 96 = .ok (.bipush (-14), 2) := by decide +kernel
theorem dX8_not_98 : decode cX8_not 98 = .ok (.goto 5, 3) := by decide +kernel
theorem dX8_not_101 : decode cX8_not 101 = .ok (.bipush (-15), 2) := by decide +kernel
theorem dX8_not_103 : decode cX8_not 103 = .ok (.istore_n 1, 1) := by decide +kernel
theorem dX8_not_104 : decode cX8_not 104 = .ok (.aload_n 0, 1) := by decide +kernel
theorem dX8_not_105 : decode cX8_not 105 = .ok (.invokevirtual 166, 3) := by decide +kernel
theorem dX8_not_108 : decode cX8_not 108 = .ok (.aload_n 0, 1) := by decide +kernel
theorem dX8_not_109 : decode cX8_not 109 = .ok (.invokevirtual 182, 3) := by decide +kernel
theorem dX8_not_112 : decode cX8_not 112 = .ok (.ifCond .ne 5, 3) := by decide +kernel
theorem dX8_not_115 : decode cX8_not 115 = .ok (.iconst 0, 1) := by decide +kernel
theorem dX8_not_116 : decode cX8_not 116 = .ok (.ireturn, 1) := by decide +kernel
theorem dX8_not_117 : decode cX8_not 117 = .ok (.aload_n 0, 1) := by decide +kernel
theorem dX8_not_118 : decode cX8_not 118 = .ok (.iload_n 1, 1) := by decide +kernel
theorem dX8_not_119 : decode cX8_not 119 = .ok (.invokevirtual 169, 3) := by decide +kernel
theorem dX8_not_122 : decode cX8_not 122 = .ok (.iconst 1, 1) := by decide +kernel
theorem dX8_not_123 : decode cX8_not 123 = .ok (.ireturn, 1) := by decide +kernel
set_option maxRecDepth 20000 in
theorem ggX8_sum_X8_term : GoodIn wsX8_sum wsX8_term := goodIn_r _ [109, 103, 104, 105, 4, 5, 6, 7, 8, 9, 10, 11, 12, 13, 14, 15, 16, 17, 18, 19, 20, 21, 22, 23, 24, 25, 26, 27, 28, 29, 30, 31, 32, 33, 34, 35, 36, 37, 38, 39, 40, 41, 42, 43, 44, 45, 46, 47, 48, 49, 50, 51, 52, 53, 54, 55, 56, 57, 58, 59, 60, 61, 62, 63, 64, 65, 66, 67, 68, 69, 70, 71, 72, 73, 74, 75, 76, 77, 78, 79, 80, 81, 82, 83, 84, 85, 86, 87, 88, 89, 90, 91, 92, 93, 94, 95, 96, 97, 98, 99, 100, 101, 102, 106, 107, 108, 0, 1, 2, 3, 110, 111, 112, 113, 114, 115, 116, 117, 118, 119, 120, 121, 122, 123, 124, 125, 126, 127, 128, 129, 130, 131, 132, 133, 134, 135, 136, 137, 138, 139, 140, 141, 142, 143, 144, 145, 146, 147, 148, 149, 150, 151, 152, 153, 154, 155, 156] (by decide +kernel) (by decide +kernel)
set_option maxRecDepth 20000 in
theorem gX8_sum_X8_term : GoodIn wsX8_sum (wsV RX8 188 RX8 yX8_term wsX8_term) := goodIn_app (goodIn_of _ (by decide +kernel)) ggX8_sum_X8_term
set_option maxRecDepth 20000 in
theorem ggX8_sum_X8_is_ : GoodIn wsX8_sum wsX8_is_ := goodIn_r _ [8, 9, 10, 110, 111, 112, 113, 114, 115, 116, 117, 118, 119, 120, 121, 122, 123, 124, 125, 126, 127, 128, 129, 130, 131, 132, 133, 134, 135, 136, 137, 138, 139, 140, 141, 142, 143, 144, 145, 146, 147, 148, 149, 150, 151, 152, 153, 154, 155, 156] (by decide +kernel) (by decide +kernel)
set_option maxRecDepth 20000 in
theorem gX8_sum_X8_is_ : GoodIn wsX8_sum (wsV RX8 185 RX8 yX8_is_ wsX8_is_) := goodIn_app (goodIn_of _ (by decide +kernel)) ggX8_sum_X8_is_
set_option maxRecDepth 20000 in
theorem ggX8_sum_X8_next : GoodIn wsX8_sum wsX8_next := goodIn_r _ [14, 15, 16, 17, 18, 9, 10, 19, 20, 4, 21, 22, 23, 24, 110, 111, 112, 113, 114, 115, 116, 117, 118, 119, 120, 121, 122, 123, 124, 125, 126, 127, 128, 129, 130, 131, 132, 133, 134, 135, 136, 137, 138, 139, 140, 141, 142, 143, 144, 145, 146, 147, 148, 149, 150, 151, 152, 153, 154, 155, 156] (by decide +kernel) (by decide +kernel)
set_option maxRecDepth 20000 in
theorem gX8_sum_X8_next : GoodIn wsX8_sum (wsV RX8 166 RX8 yX8_next wsX8_next) := goodIn_app (goodIn_of _ (by decide +kernel)) ggX8_sum_X8_next
set_option maxRecDepth 20000 in
theorem ggX8_sum_X8_put : GoodIn wsX8_sum wsX8_put := goodIn_r _ [28, 29, 30, 31, 110, 111, 112, 113, 114, 115, 116, 117, 118, 119, 120, 121, 122, 123, 124, 125, 126, 127, 128, 129, 130, 131, 132, 133, 134, 135, 136, 137, 138, 139, 140, 141, 142, 143, 144, 145, 146, 147, 148, 149, 150, 151, 152, 153, 154, 155, 156] (by decide +kernel) (by decide +kernel)
set_option maxRecDepth 20000 in
theorem gX8_sum_X8_put : GoodIn wsX8_sum (wsV RX8 169 RX8 yX8_put wsX8_put) := goodIn_app (goodIn_of _ (by decide +kernel)) ggX8_sum_X8_put
theorem dX8_sum_0 : decode cX8_sum 0 = .ok (.aload_n 0, 1) := by decide +kernel
theorem dX8_sum_1 : decode cX8_sum 1 = .ok (.invokevirtual 188, 3) := by decide +kernel
theorem dX8_sum_4 : decode cX8_sum 4 = .ok (.ifCond .ne 5, 3) := by decide +kernel
theorem dX8_sum_7 : decode cX8_sum 7 = .ok (.iconst 0, 1) := by decide +kernel
theorem dX8_sum_8 : decode cX8_sum 8 = .ok (.ireturn, 1) := by decide +kernel
theorem dX8_sum_9 : decode cX8_sum 9 = .ok (.aload_n 0, 1) := by decide +kernel
theorem dX8_sum_10 : decode cX8_sum 10 = .ok (.bipush 43, 2) := by decide +kernel
theorem dX8_sum_12 : decode cX8_sum 12 = .ok (.invokevirtual 185, 3) := by decide +kernel
theorem dX8_sum_15 : decode cX8_sum 15 = .ok (.ifCond .ne 12, 3) := by decide +kernel
theorem dX8_sum_18 : decode cX8_sum 18 = .ok (.aload_n 0, 1) := by decide +kernel
theorem dX8_sum_19 : decode cX8_sum 19 = .ok (.bipush 45, 2) := by decide +kernel
theorem dX8_sum_21 : decode cX8_sum 21 = .ok (.invokevirtual 185, 3) := by decide +kernel
theorem dX8_sum_24 : decode cX8_sum 24 = .ok (.ifCond .eq 41, 3) := by decide +kernel
theorem dX8_sum_27 : decode cX8_sum 27 = .ok (.aload_n 0, 1) := by decide +kernel
theorem dX8_sum_28 : decode cX8_sum 28 = .ok (.bipush 43, 2) := by decide +kernel
theorem dX8_sum_30 : decode cX8_sum 30 = .ok (.invokevirtual 185, 3) := by decide +kernel
theorem dX8_sum_33 : decode cX8_sum 33 = .ok (.ifCond .eq 8, 3) := by decide +kernel
theorem dX8_sum_36 : decode cX8_sum 36 = .ok (.bipush (-16), 2) := by decide +kernel
theorem dX8_sum_38 : decode cX8_sum 38 = .ok (.goto 5, 3) := by decide +kernel
theorem dX8_sum_41 : decode cX8_sum 41 = .ok (.bipush (-17), 2) := by decide +kernel
theorem dX8_sum_43 : decode cX8_sum 43 = .ok (.istore_n 1, 1) := by decide +kernel
theorem dX8_sum_44 : decode cX8_sum 44 = .ok (.aload_n 0, 1) := by decide +kernel
theorem dX8_sum_45 : decode cX8_sum 45 = .ok (.invokevirtual 166, 3) := by decide +kernel
theorem dX8_sum_48 : decode cX8_sum 48 = .ok (.aload_n 0, 1) := by decide +kernel
theorem dX8_sum_49 : decode cX8_sum 49 = .ok (.invokevirtual 188, 3) := by decide +kernel
theorem dX8_sum_52 : decode cX8_sum 52 = .ok (.ifCond .ne 5, 3) := by decide +kernel
theorem dX8_sum_55 : decode cX8_sum 55 = .ok (.iconst 0, 1) := by decide +kernel
theorem dX8_sum_56 : decode cX8_sum 56 = .ok (.ireturn, 1) := by decide +kernel
theorem dX8_sum_57 : decode cX8_sum 57 = .ok (.aload_n 0, 1) := by decide +kernel
theorem dX8_sum_58 : decode cX8_sum 58 = .ok (.iload_n 1, 1) := by decide +kernel
theorem dX8_sum_59 : decode cX8_sum 59 = .ok (.invokevirtual 169, 3) := by decide +kernel
theorem dX8_sum_62 : decode cX8_sum 62 = .ok (.goto (-53), 3) := by decide +kernel
theorem dX8_sum_65 : decode cX8_sum 65 = .ok (.iconst 1, 1) := by decide +kernel
theorem dX8_sum_66 : decode cX8_sum 66 = .ok (.ireturn, 1) := by decide +kernel
set_option maxRecDepth 20000 in
theorem ggX8_term_X8_one : GoodIn wsX8_term wsX8_one := goodIn_r _ [98, 9, 10, 94, 25, 26, 27, 4, 28, 29, 30, 31, 11, 12, 13, 14, 15, 16, 17, 18, 19, 20, 21, 22, 23, 24, 99, 100, 101, 102, 36, 37, 38, 39, 40, 41, 42, 43, 44, 45, 46, 47, 48, 49, 50, 51, 52, 53, 54, 55, 56, 57, 58, 59, 60, 61, 62, 63, 64, 65, 66, 67, 68, 69, 70, 71, 72, 73, 74, 75, 76, 77, 78, 79, 80, 81, 82, 83, 84, 85, 86, 87, 88, 5, 6, 7, 8, 1, 2, 3, 103, 104, 105, 32, 33, 34, 35, 89, 90, 91, 92, 93, 95, 96, 97, 106, 107, 108, 109, 0, 110, 111, 112, 113, 114, 115, 116, 117, 118, 119, 120, 121, 122, 123, 124, 125, 126, 127, 128, 129, 130, 131, 132, 133, 134, 135, 136, 137, 138, 139, 140, 141, 142, 143, 144, 145, 146, 147, 148, 149, 150, 151, 152, 153, 154, 155, 156] (by decide +kernel) (by decide +kernel)
set_option maxRecDepth 20000 in
theorem gX8_term_X8_one : GoodIn wsX8_term (wsV RX8 191 RX8 yX8_one wsX8_one) := goodIn_app (goodIn_of _ (by decide +kernel)) ggX8_term_X8_one
set_option maxRecDepth 20000 in
theorem ggX8_term_X8_is_ : GoodIn wsX8_term wsX8_is_ := goodIn_r _ [8, 9, 10, 110, 111, 112, 113, 114, 115, 116, 117, 118, 119, 120, 121, 122, 123, 124, 125, 126, 127, 128, 129, 130, 131, 132, 133, 134, 135, 136, 137, 138, 139, 140, 141, 142, 143, 144, 145, 146, 147, 148, 149, 150, 151, 152, 153, 154, 155, 156] (by decide +kernel) (by decide +kernel)
set_option maxRecDepth 20000 in
theorem gX8_term_X8_is_ : GoodIn wsX8_term (wsV RX8 185 RX8 yX8_is_ wsX8_is_) := goodIn_app (goodIn_of _ (by decide +kernel)) ggX8_term_X8_is_
set_option maxRecDepth 20000 in
theorem ggX8_term_X8_next : GoodIn wsX8_term wsX8_next := goodIn_r _ [14, 15, 16, 17, 18, 9, 10, 19, 20, 4, 21, 22, 23, 24, 110, 111, 112, 113, 114, 115, 116, 117, 118, 119, 120, 121, 122, 123, 124, 125, 126, 127, 128, 129, 130, 131, 132, 133, 134, 135, 136, 137, 138, 139, 140, 141, 142, 143, 144, 145, 146, 147, 148, 149, 150, 151, 152, 153, 154, 155, 156] (by decide +kernel) (by decide +kernel)
set_option maxRecDepth 20000 in
theorem gX8_term_X8_next : GoodIn wsX8_term (wsV RX8 166 RX8 yX8_next wsX8_next) := goodIn_app (goodIn_of _ (by decide +kernel)) ggX8_term_X8_next
set_option maxRecDepth 20000 in
theorem ggX8_term_X8_put : GoodIn wsX8_term wsX8_put := goodIn_r _ [28, 29, 30, 31, 110, 111, 112, 113, 114, 115, 116, 117, 118, 119, 120, 121, 122, 123, 124, 125, 126, 127, 128, 129, 130, 131, 132, 133, 134, 135, 136, 137, 138, 139, 140, 141, 142, 143, 144, 145, 146, 147, 148, 149, 150, 151, 152, 153, 154, 155, 156] (by decide +kernel) (by decide +kernel)
set_option maxRecDepth 20000 in
theorem gX8_term_X8_put : GoodIn wsX8_term (wsV RX8 169 RX8 yX8_put wsX8_put) := goodIn_app (goodIn_of _ (by decide +kernel)) ggX8_term_X8_put
theorem dX8_term_0 : decode cX8_term 0 = .ok (.aload_n 0, 1) := by decide +kernel
theorem dX8_term_1 : decode cX8_term 1 = .ok (.invokevirtual 191, 3) := by decide +kernel
theorem dX8_term_4 : decode cX8_term 4 = .ok (.ifCond .ne 5, 3) := by decide +kernel
theorem dX8_term_7 : decode cX8_term 7 = .ok (.iconst 0, 1) := by decide +kernel
theorem dX8_term_8 : decode cX8_term 8 = .ok (.ireturn, 1) := by decide +kernel
theorem dX8_term_9 : decode cX8_term 9 = .ok (.aload_n 0, 1) := by decide +kernel
theorem dX8_term_10 : decode cX8_term 10 = .ok (.bipush 42, 2) := by decide +kernel
theorem dX8_term_12 : decode cX8_term 12 = .ok (.invokevirtual 185, 3) := by decide +kernel
theorem dX8_term_15 : decode cX8_term 15 = .ok (.ifCond .eq 25, 3) := by decide +kernel
theorem dX8_term_18 : decode cX8_term 18 = .ok (.aload_n 0, 1) := by decide +kernel
theorem dX8_term_19 : decode cX8_term 19 = .ok (.invokevirtual 166, 3) := by decide +kernel
theorem dX8_term_22 : decode cX8_term 22 = .ok (.aload_n 0, 1) := by decide +kernel
theorem dX8_term_23 : decode cX8_term 23 = .ok (.invokevirtual 191, 3) := by decide +kernel
theorem dX8_term_26 : decode cX8_term 26 = .ok (.ifCond .ne 5, 3) := by decide +kernel
theorem dX8_term_29 : decode cX8_term 29 = .ok (.iconst 0, 1) := by decide +kernel
theorem dX8_term_30 : decode cX8_term 30 = .ok (.ireturn, 1) := by decide +kernel
theorem dX8_term_31 : decode cX8_term 31 = .ok (.aload_n 0, 1) := by decide +kernel
theorem dX8_term_32 : decode cX8_term 32 = .ok (.bipush (-18), 2) := by decide +kernel
theorem dX8_term_34 : decode cX8_term 34 = .ok (.invokevirtual 169, 3) := by decide +kernel
theorem dX8_term_37 : decode cX8_term 37 = .ok (.goto (-28), 3) := by decide +kernel
theorem dX8_term_40 : decode cX8_term 40 = .ok (.iconst 1, 1) := by decide +kernel
theorem dX8_term_41 : decode cX8_term 41 = .ok (.ireturn, 1) := by decide +kernel
set_option maxRecDepth 20000 in
theorem ggX8_one_X8_put : GoodIn wsX8_one wsX8_put := goodIn_r _ [8, 9, 10, 11, 110, 111, 112, 113, 114, 115, 116, 117, 118, 119, 120, 121, 122, 123, 124, 125, 126, 127, 128, 129, 130, 131, 132, 133, 134, 135, 136, 137, 138, 139, 140, 141, 142, 143, 144, 145, 146, 147, 148, 149, 150, 151, 152, 153, 154, 155, 156] (by decide +kernel) (by decide +kernel)
set_option maxRecDepth 20000 in
theorem gX8_one_X8_put : GoodIn wsX8_one (wsV RX8 169 RX8 yX8_put wsX8_put) := goodIn_app (goodIn_of _ (by decide +kernel)) ggX8_one_X8_put
set_option maxRecDepth 20000 in
theorem ggX8_one_X8_next : GoodIn wsX8_one wsX8_next := goodIn_r _ [15, 16, 17, 18, 19, 1, 2, 20, 21, 7, 22, 23, 24, 25, 110, 111, 112, 113, 114, 115, 116, 117, 118, 119, 120, 121, 122, 123, 124, 125, 126, 127, 128, 129, 130, 131, 132, 133, 134, 135, 136, 137, 138, 139, 140, 141, 142, 143, 144, 145, 146, 147, 148, 149, 150, 151, 152, 153, 154, 155, 156] (by decide +kernel) (by decide +kernel)
set_option maxRecDepth 20000 in
theorem gX8_one_X8_next : GoodIn wsX8_one (wsV RX8 166 RX8 yX8_next wsX8_next) := goodIn_app (goodIn_of _ (by decide +kernel)) ggX8_one_X8_next
set_option maxRecDepth 20000 in
theorem ggX8_one_X8_name : GoodIn wsX8_one wsX8_name := goodIn_r _ [29, 30, 31, 32, 7, 33, 1, 16, 19, 18, 34, 35, 36, 37, 38, 39, 40, 41, 42, 43, 44, 45, 46, 47, 48, 49, 50, 51, 52, 53, 54, 55, 56, 57, 58, 59, 60, 61, 62, 63, 64, 65, 66, 67, 68, 69, 70, 71, 72, 73, 74, 75, 76, 77, 78, 79, 80, 81, 82, 110, 111, 112, 113, 114, 115, 116, 117, 118, 119, 120, 121, 122, 123, 124, 125, 126, 127, 128, 129, 130, 131, 132, 133, 134, 135, 136, 137, 138, 139, 140, 141, 142, 143, 144, 145, 146, 147, 148, 149, 150, 151, 152, 153, 154, 155, 156] (by decide +kernel) (by decide +kernel)
set_option maxRecDepth 20000 in
theorem gX8_one_X8_name : GoodIn wsX8_one (wsV RX8 194 RX8 yX8_name wsX8_name) := goodIn_app (goodIn_of _ (by decide +kernel)) ggX8_one_X8_name
set_option maxRecDepth 20000 in
theorem ggX8_one_X8_is_ : GoodIn wsX8_one wsX8_is_ := goodIn_r _ [86, 1, 2, 110, 111, 112, 113, 114, 115, 116, 117, 118, 119, 120, 121, 122, 123, 124, 125, 126, 127, 128, 129, 130, 131, 132, 133, 134, 135, 136, 137, 138, 139, 140, 141, 142, 143, 144, 145, 146, 147, 148, 149, 150, 151, 152, 153, 154, 155, 156] (by decide +kernel) (by decide +kernel)
set_option maxRecDepth 20000 in
theorem gX8_one_X8_is_ : GoodIn wsX8_one (wsV RX8 185 RX8 yX8_is_ wsX8_is_) := goodIn_app (goodIn_of _ (by decide +kernel)) ggX8_one_X8_is_
set_option maxRecDepth 20000 in
theorem ggX8_one_X8_one : GoodIn wsX8_one wsX8_one := goodIn_r _ [0, 1, 2, 3, 4, 5, 6, 7, 8, 9, 10, 11, 12, 13, 14, 15, 16, 17, 18, 19, 20, 21, 22, 23, 24, 25, 26, 27, 28, 29, 30, 31, 32, 33, 34, 35, 36, 37, 38, 39, 40, 41, 42, 43, 44, 45, 46, 47, 48, 49, 50, 51, 52, 53, 54, 55, 56, 57, 58, 59, 60, 61, 62, 63, 64, 65, 66, 67, 68, 69, 70, 71, 72, 73, 74, 75, 76, 77, 78, 79, 80, 81, 82, 83, 84, 85, 86, 87, 88, 89, 90, 91, 92, 93, 94, 95, 96, 97, 98, 99, 100, 101, 102, 103, 104, 105, 106, 107, 108, 109, 110, 111, 112, 113, 114, 115, 116, 117, 118, 119, 120, 121, 122, 123, 124, 125, 126, 127, 128, 129, 130, 131, 132, 133, 134, 135, 136, 137, 138, 139, 140, 141, 142, 143, 144, 145, 146, 147, 148, 149, 150, 151, 152, 153, 154, 155, 156] (by decide +kernel) (by decide +kernel)
set_option maxRecDepth 20000 in
theorem gX8_one_X8_one : GoodIn wsX8_one (wsV RX8 191 RX8 yX8_one wsX8_one) := goodIn_app (goodIn_of _ (by decide +kernel)) ggX8_one_X8_one
set_option maxRecDepth 20000 in
theorem ggX8_one_X8_any : GoodIn wsX8_one wsX8_any := goodIn_r _ [93, 94, 95, 96, 7, 30, 31, 32, 33, 1, 16, 19, 18, 34, 35, 36, 37, 38, 39, 40, 41, 42, 43, 44, 45, 46, 47, 48, 49, 50, 51, 52, 53, 54, 55, 56, 57, 58, 59, 60, 61, 62, 63, 64, 65, 66, 67, 68, 69, 70, 71, 72, 73, 74, 75, 76, 77, 78, 79, 80, 81, 82, 12, 13, 14, 15, 17, 2, 20, 21, 22, 23, 24, 25, 4, 5, 6, 8, 9, 10, 11, 97, 98, 99, 100, 101, 3, 102, 103, 104, 83, 84, 85, 86, 0, 26, 27, 28, 29, 87, 88, 89, 90, 91, 92, 105, 106, 107, 108, 109, 110, 111, 112, 113, 114, 115, 116, 117, 118, 119, 120, 121, 122, 123, 124, 125, 126, 127, 128, 129, 130, 131, 132, 133, 134, 135, 136, 137, 138, 139, 140, 141, 142, 143, 144, 145, 146, 147, 148, 149, 150, 151, 152, 153, 154, 155, 156] (by decide +kernel) (by decide +kernel)
set_option maxRecDepth 20000 in
theorem gX8_one_X8_any : GoodIn wsX8_one (wsV RX8 197 RX8 yX8_any wsX8_any) := goodIn_app (goodIn_of _ (by decide +kernel)) ggX8_one_X8_any
theorem dX8_one_0 : decode cX8_one 0 = .ok (.aload_n 0, 1) := by decide +kernel
theorem dX8_one_1 : decode cX8_one 1 = .ok (.getfield 130, 3) := by decide +kernel
theorem dX8_one_4 : decode cX8_one 4 = .ok (.iconst 1, 1) := by decide +kernel
theorem dX8_one_5 : decode cX8_one 5 = .ok (.if_icmp .ne 17, 3) := by decide +kernel
theorem dX8_one_8 : decode cX8_one 8 = .ok (.aload_n 0, 1) := by decide +kernel
theorem dX8_one_9 : decode cX8_one 9 = .ok (.aload_n 0, 1) := by decide +kernel
theorem dX8_one_10 : decode cX8_one 10 = .ok (.getfield 137, 3) := by decide +kernel
theorem dX8_one_13 : decode cX8_one 13 = .ok (.invokevirtual 169, 3) := by decide +kernel
theorem dX8_one_16 : decode cX8_one 16 = .ok (.aload_n 0, 1) := by decide +kernel
theorem dX8_one_17 : decode cX8_one 17 = .ok (.invokevirtual 166, 3) := by decide +kernel
theorem dX8_one_20 : decode cX8_one 20 = .ok (.iconst 1, 1) := by decide +kernel
theorem dX8_one_21 : decode cX8_one 21 = .ok (.ireturn, 1) := by decide +kernel
theorem dX8_one_22 : decode cX8_one 22 = .ok (.aload_n 0, 1) := by decide +kernel
theorem dX8_one_23 : decode cX8_one 23 = .ok (.invokevirtual 194, 3) := by decide +kernel
theorem dX8_one_26 : decode cX8_one 26 = .ok (.istore_n 1, 1) := by decide +kernel
theorem dX8_one_27 : decode cX8_one 27 = .ok (.iload_n 1, 1) := by decide +kernel
theorem dX8_one_28 : decode cX8_one 28 = .ok (.ifCond .le 15, 3) := by decide +kernel
theorem dX8_one_31 : decode cX8_one 31 = .ok (.aload_n 0, 1) := by decide +kernel
theorem dX8_one_32 : decode cX8_one 32 = .ok (.iload_n 1, 1) := by decide +kernel
theorem dX8_one_33 : decode cX8_one 33 = .ok (.ineg, 1) := by decide +kernel
theorem dX8_one_34 : decode cX8_one 34 = .ok (.invokevirtual 169, 3) := by decide +kernel
theorem dX8_one_37 : decode cX8_one 37 = .ok (.aload_n 0, 1) := by decide +kernel
theorem dX8_one_38 : decode cX8_one 38 = .ok (.invokevirtual 166, 3) := by decide +kernel
theorem dX8_one_41 : decode cX8_one 41 = .ok (.iconst 1, 1) := by decide +kernel
theorem dX8_one_42 : decode cX8_one 42 = .ok (.ireturn, 1) := by decide +kernel
theorem dX8_one_43 : decode cX8_one 43 = .ok (.aload_n 0, 1) := by decide +kernel
theorem dX8_one_44 : decode cX8_one 44 = .ok (.bipush 45, 2) := by decide +kernel
theorem dX8_one_46 : decode cX8_one 46 = .ok (.invokevirtual 185, 3) := by decide +kernel
theorem dX8_one_49 : decode cX8_one 49 = .ok (.ifCond .eq 54, 3) := by decide +kernel
theorem dX8_one_52 : decode cX8_one 52 = .ok (.aload_n 0, 1) := by decide +kernel
theorem dX8_one_53 : decode cX8_one 53 = .ok (.getfield 179, 3) := by decide +kernel
theorem dX8_one_56 : decode cX8_one 56 = .ok (.iconst 5, 1) := by decide +kernel
theorem dX8_one_57 : decode cX8_one 57 = .ok (.if_icmp .ne 5, 3) := by decide +kernel
theorem dX8_one_60 : decode cX8_one 60 = .ok (.iconst 0, 1) := by decide +kernel
theorem dX8_one_61 : decode cX8_one 61 = .ok (.ireturn, 1) := by decide +kernel
theorem dX8_one_62 : decode cX8_one 62 = .ok (.aload_n 0, 1) := by decide +kernel
theorem dX8_one_63 : decode cX8_one 63 = .ok (.dup, 1) := by decide +kernel
theorem dX8_one_64 : decode cX8_one 64 = .ok (.getfield 179, 3) := by decide +kernel
theorem dX8_one_67 : decode cX8_one 67 = .ok (.iconst 1, 1) := by decide +kernel
theorem dX8_one_68 : decode cX8_one 68 = .ok (.iadd, 1) := by decide +kernel
theorem dX8_one_69 : decode cX8_one 69 = .ok (.putfield 179, 3) := by decide +kernel
theorem dX8_one_72 : decode cX8_one 72 = .ok (.aload_n 0, 1) := by decide +kernel
theorem dX8_one_73 : decode cX8_one 73 = .ok (.invokevirtual 166, 3) := by decide +kernel
theorem dX8_one_76 : decode cX8_one 76 = .ok (.aload_n 0, 1) := by decide +kernel
theorem dX8_one_77 : decode cX8_one 77 = .ok (.invokevirtual 191, 3) := by decide +kernel
theorem dX8_one_80 : decode cX8_one 80 = .ok (.ifCond .ne 5, 3) := by decide +kernel
theorem dX8_one_83 : decode cX8_one 83 = .ok (.iconst 0, 1) := by decide +kernel
theorem dX8_one_84 : decode cX8_one 84 = .ok (.ireturn, 1) := by decide +kernel
theorem dX8_one_85 : decode cX8_one 85 = .ok (.aload_n 0, 1) := by decide +kernel
theorem dX8_one_86 : decode cX8_one 86 = .ok (.dup, 1) := by decide +kernel
theorem dX8_one_87 : decode cX8_one 87 = .ok (.getfield 179, 3) := by decide +kernel
theorem dX8_one_90 : decode cX8_one 90 = .ok (.iconst 1, 1) := by decide +kernel
theorem dX8_one_91 : decode cX8_one 91 = .ok (.isub, 1) := by decide +kernel
theorem dX8_one_92 : decode cX8_one 92 = .ok (.putfield 179, 3) := by decide +kernel
theorem dX8_one_95 : decode cX8_one 95 = .ok (.aload_n 0, 1) := by decide +kernel
theorem dX8_one_96 : decode cX8_one 96 = .ok (.bipush (-19), 2) := by decide +kernel
theorem dX8_one_98 : decode cX8_one 98 = .ok (.invokevirtual 169, 3) := by decide +kernel
theorem dX8_one_101 : decode cX8_one 101 = .ok (.iconst 1, 1) := by decide +kernel
theorem dX8_one_102 : decode cX8_one 102 = .ok (.ireturn, 1) := by decide +kernel
theorem dX8_one_103 : decode cX8_one 103 = .ok (.aload_n 0, 1) := by decide +kernel
theorem dX8_one_104 : decode cX8_one 104 = .ok (.bipush 40, 2) := by decide +kernel
theorem dX8_one_106 : decode cX8_one 106 = .ok (.invokevirtual 185, 3) := by decide +kernel
theorem dX8_one_109 : decode cX8_one 109 = .ok (.ifCond .eq 11, 3) := by decide +kernel
theorem dX8_one_112 : decode cX8_one 112 = .ok (.aload_n 0, 1) := by decide +kernel
theorem dX8_one_113 : decode cX8_one 113 = .ok (.getfield 179, 3) := by decide +kernel
theorem dX8_one_116 : decode cX8_one 116 = .ok (.iconst 5, 1) := by decide +kernel
theorem dX8_one_117 : decode cX8_one 117 = .ok (.if_icmp .ne 5, 3) := by decide +kernel
theorem dX8_one_120 : decode cX8_one 120 = .ok (.iconst 0, 1) := by decide +kernel
theorem dX8_one_121 : decode cX8_one 121 = .ok (.ireturn, 1) := by decide +kernel
theorem dX8_one_122 : decode cX8_one 122 = .ok (.aload_n 0, 1) := by decide +kernel
theorem dX8_one_123 : decode cX8_one 123 = .ok (.dup, 1) := by decide +kernel
theorem dX8_one_124 : decode cX8_one 124 = .ok (.getfield 179, 3) := by decide +kernel
theorem dX8_one_127 : decode cX8_one 127 = .ok (.iconst 1, 1) := by decide +kernel
theorem dX8_one_128 : decode cX8_one 128 = .ok (.iadd, 1) := by decide +kernel
theorem dX8_one_129 : decode cX8_one 129 = .ok (.putfield 179, 3) := by decide +kernel
theorem dX8_one_132 : decode cX8_one 132 = .ok (.aload_n 0, 1) := by decide +kernel
theorem dX8_one_133 : decode cX8_one 133 = .ok (.invokevirtual 166, 3) := by decide +kernel
theorem dX8_one_136 : decode cX8_one 136 = .ok (.aload_n 0, 1) := by decide +kernel
theorem dX8_one_137 : decode cX8_one 137 = .ok (.invokevirtual 197, 3) := by decide +kernel
theorem dX8_one_140 : decode cX8_one 140 = .ok (.ifCond .eq 12, 3) := by decide +kernel
theorem dX8_one_143 : decode cX8_one 143 = .ok (.aload_n 0, 1) := by decide +kernel
theorem dX8_one_144 : decode cX8_one 144 = .ok (.bipush 41, 2) := by decide +kernel
theorem dX8_one_146 : decode cX8_one 146 = .ok (.invokevirtual 185, 3) := by decide +kernel
theorem dX8_one_149 : decode cX8_one 149 = .ok (.ifCond .ne 5, 3) := by decide +kernel
theorem dX8_one_152 : decode cX8_one 152 = .ok (.iconst 0, 1) := by decide +kernel
theorem dX8_one_153 : decode cX8_one 153 = .ok (.ireturn, 1) := by decide +kernel
theorem dX8_one_154 : decode cX8_one 154 = .ok (.aload_n 0, 1) := by decide +kernel
theorem dX8_one_155 : decode cX8_one 155 = .ok (.dup, 1) := by decide +kernel
theorem dX8_one_156 : decode cX8_one 156 = .ok (.getfield 179, 3) := by decide +kernel
theorem dX8_one_159 : decode cX8_one 159 = .ok (.iconst 1, 1) := by decide +kernel
theorem dX8_one_160 : decode cX8_one 160 = .ok (.isub, 1) := by decide +kernel
theorem dX8_one_161 : decode cX8_one 161 = .ok (.putfield 179, 3) := by decide +kernel
theorem dX8_one_164 : decode cX8_one 164 = .ok (.aload_n 0, 1) := by decide +kernel
theorem dX8_one_165 : decode cX8_one 165 = .ok (.invokevirtual 166, 3) := by decide +kernel
theorem dX8_one_168 : decode cX8_one 168 = .ok (.iconst 1, 1) := by decide +kernel
theorem dX8_one_169 : decode cX8_one 169 = .ok (.ireturn, 1) := by decide +kernel
set_option maxRecDepth 20000 in
theorem ggX8_part_X8_is : GoodIn wsX8_part wsX8_is := goodIn_r _ [8, 9, 10, 11, 12, 13, 14, 15, 16, 17, 18, 19, 20, 21, 22, 23, 24, 25, 26, 27, 28, 29, 30, 31, 32, 33, 34, 35, 36, 37, 38, 39, 40, 41, 42, 43, 44, 45, 46, 47, 48, 49, 50, 51, 52, 53, 54, 55, 56, 57, 58, 59, 60, 61, 112, 113, 114, 115, 116, 117, 118, 119, 120, 121, 122, 123, 124, 125, 126, 127, 128, 129, 130, 131, 132, 133, 134, 135, 136, 137, 138, 139, 140, 141, 142, 143, 144, 145, 146, 147, 148, 149, 150, 151, 152, 153, 154, 155, 156, 157, 158] (by decide +kernel) (by decide +kernel)
set_option maxRecDepth 20000 in
theorem gX8_part_X8_is : GoodIn wsX8_part (wsV RX8 145 RX8 yX8_is wsX8_is) := goodIn_app (goodIn_of _ (by decide +kernel)) ggX8_part_X8_is
set_option maxRecDepth 20000 in
theorem ggX8_part_X8_next : GoodIn wsX8_part wsX8_next := goodIn_r _ [65, 10, 66, 12, 11, 9, 67, 68, 69, 7, 70, 71, 72, 73, 112, 113, 114, 115, 116, 117, 118, 119, 120, 121, 122, 123, 124, 125, 126, 127, 128, 129, 130, 131, 132, 133, 134, 135, 136, 137, 138, 139, 140, 141, 142, 143, 144, 145, 146, 147, 148, 149, 150, 151, 152, 153, 154, 155, 156, 157, 158] (by decide +kernel) (by decide +kernel)
set_option maxRecDepth 20000 in
theorem gX8_part_X8_next : GoodIn wsX8_part (wsV RX8 166 RX8 yX8_next wsX8_next) := goodIn_app (goodIn_of _ (by decide +kernel)) ggX8_part_X8_next
set_option maxRecDepth 20000 in
theorem ggX8_part_X8_any : GoodIn wsX8_part wsX8_any := goodIn_r _ [77, 78, 79, 80, 7, 4, 5, 6, 8, 9, 10, 11, 12, 13, 14, 15, 16, 17, 18, 19, 20, 21, 22, 23, 24, 25, 26, 27, 28, 29, 30, 31, 32, 33, 34, 35, 36, 37, 38, 39, 40, 41, 42, 43, 44, 45, 46, 47, 48, 49, 50, 51, 52, 53, 54, 55, 56, 57, 58, 59, 60, 61, 62, 63, 64, 65, 66, 67, 68, 69, 70, 71, 72, 73, 81, 82, 83, 84, 85, 2, 3, 86, 87, 88, 89, 90, 91, 92, 93, 94, 95, 96, 97, 98, 99, 100, 101, 102, 103, 104, 105, 106, 74, 75, 76, 107, 108, 109, 110, 111, 112, 113, 114, 115, 116, 117, 118, 119, 120, 121, 122, 123, 124, 125, 126, 127, 128, 129, 130, 131, 132, 133, 134, 135, 136, 137, 138, 139, 140, 141, 142, 143, 144, 145, 146, 147, 148, 149, 150, 151, 152, 153, 154, 155, 156, 157, 158] (by decide +kernel) (by decide +kernel)
set_option maxRecDepth 20000 in
theorem gX8_part_X8_any : GoodIn wsX8_part (wsV RX8 197 RX8 yX8_any wsX8_any) := goodIn_app (goodIn_of _ (by decide +kernel)) ggX8_part_X8_any
set_option maxRecDepth 20000 in
theorem ggX8_part_X8_is_ : GoodIn wsX8_part wsX8_is_ := goodIn_r _ [98, 9, 67, 112, 113, 114, 115, 116, 117, 118, 119, 120, 121, 122, 123, 124, 125, 126, 127, 128, 129, 130, 131, 132, 133, 134, 135, 136, 137, 138, 139, 140, 141, 142, 143, 144, 145, 146, 147, 148, 149, 150, 151, 152, 153, 154, 155, 156, 157, 158] (by decide +kernel) (by decide +kernel)
set_option maxRecDepth 20000 in
theorem gX8_part_X8_is_ : GoodIn wsX8_part (wsV RX8 185 RX8 yX8_is_ wsX8_is_) := goodIn_app (goodIn_of _ (by decide +kernel)) ggX8_part_X8_is_
theorem dX8_part_0 : decode cX8_part 0 = .ok (.aload_n 0, 1) := by decide +kernel
theorem dX8_part_1 : decode cX8_part 1 = .ok (.aload_n 1, 1) := by decide +kernel
theorem dX8_part_2 : decode cX8_part 2 = .ok (.invokevirtual 145, 3) := by decide +kernel
theorem dX8_part_5 : decode cX8_part 5 = .ok (.ifCond .ne 5, 3) := by decide +kernel
theorem dX8_part_8 : decode cX8_part 8 = .ok (.iconst 0, 1) := by decide +kernel
theorem dX8_part_9 : decode cX8_part 9 = .ok (.ireturn, 1) := by decide +kernel
theorem dX8_part_10 : decode cX8_part 10 = .ok (.aload_n 0, 1) := by decide +kernel
theorem dX8_part_11 : decode cX8_part 11 = .ok (.invokevirtual 166, 3) := by decide +kernel
theorem dX8_part_14 : decode cX8_part 14 = .ok (.aload_n 0, 1) := by decide +kernel
theorem dX8_part_15 : decode cX8_part 15 = .ok (.getfield 37, 3) := by decide +kernel
theorem dX8_part_18 : decode cX8_part 18 = .ok (.iconst 4, 1) := by decide +kernel
theorem dX8_part_19 : decode cX8_part 19 = .ok (.aload_n 0, 1) := by decide +kernel
theorem dX8_part_20 : decode cX8_part 20 = .ok (.getfield 118, 3) := by decide +kernel
theorem dX8_part_23 : decode cX8_part 23 = .ok (.imul, 1) := by decide +kernel
theorem dX8_part_24 : decode cX8_part 24 = .ok (.iload_n 2, 1) := by decide +kernel
theorem dX8_part_25 : decode cX8_part 25 = .ok (.iadd, 1) := by decide +kernel
theorem dX8_part_26 : decode cX8_part 26 = .ok (.aload_n 0, 1) := by decide +kernel
theorem dX8_part_27 : decode cX8_part 27 = .ok (.getfield 157, 3) := by decide +kernel
theorem dX8_part_30 : decode cX8_part 30 = .ok (.iastore, 1) := by decide +kernel
theorem dX8_part_31 : decode cX8_part 31 = .ok (.aload_n 0, 1) := by decide +kernel
theorem dX8_part_32 : decode cX8_part 32 = .ok (.invokevirtual 197, 3) := by decide +kernel
theorem dX8_part_35 : decode cX8_part 35 = .ok (.ifCond .eq 12, 3) := by decide +kernel
theorem dX8_part_38 : decode cX8_part 38 = .ok (.aload_n 0, 1) := by decide +kernel
theorem dX8_part_39 : decode cX8_part 39 = .ok (.bipush 59, 2) := by decide +kernel
theorem dX8_part_41 : decode cX8_part 41 = .ok (.invokevirtual 185, 3) := by decide +kernel
theorem dX8_part_44 : decode cX8_part 44 = .ok (.ifCond .ne 5, 3) := by decide +kernel
theorem dX8_part_47 : decode cX8_part 47 = .ok (.iconst 0, 1) := by decide +kernel
theorem dX8_part_48 : decode cX8_part 48 = .ok (.ireturn, 1) := by decide +kernel
theorem dX8_part_49 : decode cX8_part 49 = .ok (.aload_n 0, 1) := by decide +kernel
theorem dX8_part_50 : decode cX8_part 50 = .ok (.invokevirtual 166, 3) := by decide +kernel
theorem dX8_part_53 : decode cX8_part 53 = .ok (.iconst 1, 1) := by decide +kernel
theorem dX8_part_54 : decode cX8_part 54 = .ok (.ireturn, 1) := by decide +kernel
set_option maxRecDepth 20000 in
theorem ggX8_text_X8_next : GoodIn wsX8_text wsX8_next := goodIn_r _ [13, 2, 6, 14, 7, 5, 15, 16, 17, 12, 18, 19, 20, 21, 116, 117, 118, 119, 120, 121, 122, 123, 124, 125, 126, 127, 128, 129, 130, 131, 132, 133, 134, 135, 136, 137, 138, 139, 140, 141, 142, 143, 144, 145, 146, 147, 148, 149, 150, 151, 152, 153, 154, 155, 156, 157, 158, 159, 160, 161, 162] (by decide +kernel) (by decide +kernel)
set_option maxRecDepth 20000 in
theorem gX8_text_X8_next : GoodIn wsX8_text (wsV RX8 166 RX8 yX8_next wsX8_next) := goodIn_app (goodIn_of _ (by decide +kernel)) ggX8_text_X8_next
set_option maxRecDepth 20000 in
theorem ggX8_text_X8_part : GoodIn wsX8_text wsX8_part := goodIn_r _ [25, 8, 1, 4, 26, 27, 28, 12, 29, 5, 2, 7, 14, 30, 31, 32, 33, 34, 35, 36, 37, 38, 39, 40, 41, 42, 43, 44, 45, 46, 47, 48, 49, 50, 51, 52, 53, 54, 55, 56, 57, 58, 59, 60, 61, 62, 63, 64, 65, 66, 67, 68, 69, 70, 71, 72, 73, 74, 75, 76, 77, 78, 9, 10, 11, 13, 6, 15, 16, 17, 18, 19, 20, 21, 79, 80, 81, 82, 83, 84, 85, 86, 87, 88, 89, 90, 91, 92, 93, 94, 95, 3, 96, 97, 98, 99, 100, 101, 102, 103, 104, 105, 106, 107, 108, 109, 110, 111, 112, 113, 114, 115, 116, 117, 118, 119, 120, 121, 122, 123, 124, 125, 126, 127, 128, 129, 130, 131, 132, 133, 134, 135, 136, 137, 138, 139, 140, 141, 142, 143, 144, 145, 146, 147, 148, 149, 150, 151, 152, 153, 154, 155, 156, 157, 158, 159, 160, 161, 162] (by decide +kernel) (by decide +kernel)
set_option maxRecDepth 20000 in
theorem gX8_text_X8_part : GoodIn wsX8_text (wsV RX8 202 RX8 yX8_part wsX8_part) := goodIn_app (goodIn_of _ (by decide +kernel)) ggX8_text_X8_part
theorem dX8_text_0 : decode cX8_text 0 = .ok (.aload_n 0, 1) := by decide +kernel
theorem dX8_text_1 : decode cX8_text 1 = .ok (.getfield 118, 3) := by decide +kernel
theorem dX8_text_4 : decode cX8_text 4 = .ok (.bipush 6, 2) := by decide +kernel
theorem dX8_text_6 : decode cX8_text 6 = .ok (.if_icmp .ne 6, 3) := by decide +kernel
theorem dX8_text_9 : decode cX8_text 9 = .ok (.bipush (-4), 2) := by decide +kernel
theorem dX8_text_11 : decode cX8_text 11 = .ok (.ireturn, 1) := by decide +kernel
theorem dX8_text_12 : decode cX8_text 12 = .ok (.aload_n 0, 1) := by decide +kernel
theorem dX8_text_13 : decode cX8_text 13 = .ok (.iconst 0, 1) := by decide +kernel
theorem dX8_text_14 : decode cX8_text 14 = .ok (.putfield 124, 3) := by decide +kernel
theorem dX8_text_17 : decode cX8_text 17 = .ok (.aload_n 0, 1) := by decide +kernel
theorem dX8_text_18 : decode cX8_text 18 = .ok (.iconst 0, 1) := by decide +kernel
theorem dX8_text_19 : decode cX8_text 19 = .ok (.putfield 179, 3) := by decide +kernel
theorem dX8_text_22 : decode cX8_text 22 = .ok (.aload_n 0, 1) := by decide +kernel
theorem dX8_text_23 : decode cX8_text 23 = .ok (.iconst 0, 1) := by decide +kernel
theorem dX8_text_24 : decode cX8_text 24 = .ok (.putfield 157, 3) := by decide +kernel
theorem dX8_text_27 : decode cX8_text 27 = .ok (.aload_n 0, 1) := by decide +kernel
theorem dX8_text_28 : decode cX8_text 28 = .ok (.invokevirtual 166, 3) := by decide +kernel
theorem dX8_text_31 : decode cX8_text 31 = .ok (.aload_n 0, 1) := by decide +kernel
theorem dX8_text_32 : decode cX8_text 32 = .ok (.ldc 200, 2) := by decide +kernel
theorem dX8_text_34 : decode cX8_text 34 = .ok (.iconst 0, 1) := by decide +kernel
theorem dX8_text_35 : decode cX8_text 35 = .ok (.invokevirtual 202, 3) := by decide +kernel
theorem dX8_text_38 : decode cX8_text 38 = .ok (.ifCond .eq 34, 3) := by decide +kernel
theorem dX8_text_41 : decode cX8_text 41 = .ok (.aload_n 0, 1) := by decide +kernel
theorem dX8_text_42 : decode cX8_text 42 = .ok (.ldc 206, 2) := by decide +kernel
theorem dX8_text_44 : decode cX8_text 44 = .ok (.iconst 1, 1) := by decide +kernel
theorem dX8_text_45 : decode cX8_text 45 = .ok (.invokevirtual 202, 3) := by decide +kernel
theorem dX8_text_48 : decode cX8_text 48 = .ok (.ifCond .eq 24, 3) := by decide +kernel
theorem dX8_text_51 : decode cX8_text 51 = .ok (.aload_n 0, 1) := by decide +kernel
theorem dX8_text_52 : decode cX8_text 52 = .ok (.ldc 208, 2) := by decide +kernel
theorem dX8_text_54 : decode cX8_text 54 = .ok (.iconst 2, 1) := by decide +kernel
theorem dX8_text_55 : decode cX8_text 55 = .ok (.invokevirtual 202, 3) := by decide +kernel
theorem dX8_text_58 : decode cX8_text 58 = .ok (.ifCond .eq 14, 3) := by decide +kernel
theorem dX8_text_61 : decode cX8_text 61 = .ok (.aload_n 0, 1) := by decide +kernel
theorem dX8_text_62 : decode cX8_text 62 = .ok (.getfield 130, 3) := by decide +kernel
theorem dX8_text_65 : decode cX8_text 65 = .ok (.ifCond .ne 7, 3) := by decide +kernel
theorem dX8_text_68 : decode cX8_text 68 = .ok (.iconst 1, 1) := by decide +kernel
theorem dX8_text_69 : decode cX8_text 69 = .ok (.goto 4, 3) := by decide +kernel
theorem dX8_text_72 : decode cX8_text 72 = .ok (.iconst 0, 1) := by decide +kernel
theorem dX8_text_73 : decode cX8_text 73 = .ok (.istore_n 1, 1) := by decide +kernel
theorem dX8_text_74 : decode cX8_text 74 = .ok (.aload_n 0, 1) := by decide +kernel
theorem dX8_text_75 : decode cX8_text 75 = .ok (.iconst 0, 1) := by decide +kernel
theorem dX8_text_76 : decode cX8_text 76 = .ok (.putfield 97, 3) := by decide +kernel
theorem dX8_text_79 : decode cX8_text 79 = .ok (.iload_n 1, 1) := by decide +kernel
theorem dX8_text_80 : decode cX8_text 80 = .ok (.ifCond .ne 11, 3) := by decide +kernel
theorem dX8_text_83 : decode cX8_text 83 = .ok (.bipush (-100), 2) := by decide +kernel
theorem dX8_text_85 : decode cX8_text 85 = .ok (.aload_n 0, 1) := by decide +kernel
theorem dX8_text_86 : decode cX8_text 86 = .ok (.getfield 127, 3) := by decide +kernel
theorem dX8_text_89 : decode cX8_text 89 = .ok (.isub, 1) := by decide +kernel
theorem dX8_text_90 : decode cX8_text 90 = .ok (.ireturn, 1) := by decide +kernel
theorem dX8_text_91 : decode cX8_text 91 = .ok (.aload_n 0, 1) := by decide +kernel
theorem dX8_text_92 : decode cX8_text 92 = .ok (.getfield 37, 3) := by decide +kernel
theorem dX8_text_95 : decode cX8_text 95 = .ok (.iconst 4, 1) := by decide +kernel
theorem dX8_text_96 : decode cX8_text 96 = .ok (.aload_n 0, 1) := by decide +kernel
theorem dX8_text_97 : decode cX8_text 97 = .ok (.getfield 118, 3) := by decide +kernel
theorem dX8_text_100 : decode cX8_text 100 = .ok (.imul, 1) := by decide +kernel
theorem dX8_text_101 : decode cX8_text 101 = .ok (.iconst 3, 1) := by decide +kernel
theorem dX8_text_102 : decode cX8_text 102 = .ok (.iadd, 1) := by decide +kernel
theorem dX8_text_103 : decode cX8_text 103 = .ok (.aload_n 0, 1) := by decide +kernel
theorem dX8_text_104 : decode cX8_text 104 = .ok (.getfield 157, 3) := by decide +kernel
theorem dX8_text_107 : decode cX8_text 107 = .ok (.iastore, 1) := by decide +kernel
theorem dX8_text_108 : decode cX8_text 108 = .ok (.aload_n 0, 1) := by decide +kernel
theorem dX8_text_109 : decode cX8_text 109 = .ok (.dup, 1) := by decide +kernel
theorem dX8_text_110 : decode cX8_text 110 = .ok (.getfield 118, 3) := by decide +kernel
theorem dX8_text_113 : decode cX8_text 113 = .ok (.dup_x1, 1) := by decide +kernel
theorem dX8_text_114 : decode cX8_text 114 = .ok (.iconst 1, 1) := by decide +kernel
theorem dX8_text_115 : decode cX8_text 115 = .ok (.iadd, 1) := by decide +kernel
theorem dX8_text_116 : decode cX8_text 116 = .ok (.putfield 118, 3) := by decide +kernel
theorem dX8_text_119 : decode cX8_text 119 = .ok (.ireturn, 1) := by decide +kernel
set_option maxRecDepth 20000 in
theorem ggX8_force_X8_within : GoodIn wsX8_force wsX8_within := goodIn_r _ [6] (by decide +kernel) (by decide +kernel)
set_option maxRecDepth 20000 in
theorem gX8_force_X8_within : GoodIn wsX8_force (va_wsS RX8 108 yX8_within wsX8_within) := goodIn_app (goodIn_of _ (by decide +kernel)) ggX8_force_X8_within
theorem dX8_force_0 : decode cX8_force 0 = .ok (.iload_n 1, 1) := by decide +kernel
theorem dX8_force_1 : decode cX8_force 1 = .ok (.iconst 0, 1) := by decide +kernel
theorem dX8_force_2 : decode cX8_force 2 = .ok (.aload_n 0, 1) := by decide +kernel
theorem dX8_force_3 : decode cX8_force 3 = .ok (.getfield 118, 3) := by decide +kernel
theorem dX8_force_6 : decode cX8_force 6 = .ok (.iconst 1, 1) := by decide +kernel
theorem dX8_force_7 : decode cX8_force 7 = .ok (.isub, 1) := by decide +kernel
theorem dX8_force_8 : decode cX8_force 8 = .ok (.invokestatic 108, 3) := by decide +kernel
theorem dX8_force_11 : decode cX8_force 11 = .ok (.ifCond .ne 6, 3) := by decide +kernel
theorem dX8_force_14 : decode cX8_force 14 = .ok (.bipush (-2), 2) := by decide +kernel
theorem dX8_force_16 : decode cX8_force 16 = .ok (.ireturn, 1) := by decide +kernel
theorem dX8_force_17 : decode cX8_force 17 = .ok (.aload_n 0, 1) := by decide +kernel
theorem dX8_force_18 : decode cX8_force 18 = .ok (.getfield 121, 3) := by decide +kernel
theorem dX8_force_21 : decode cX8_force 21 = .ok (.istore_n 2, 1) := by decide +kernel
theorem dX8_force_22 : decode cX8_force 22 = .ok (.aload_n 0, 1) := by decide +kernel
theorem dX8_force_23 : decode cX8_force 23 = .ok (.iload_n 1, 1) := by decide +kernel
theorem dX8_force_24 : decode cX8_force 24 = .ok (.putfield 121, 3) := by decide +kernel
theorem dX8_force_27 : decode cX8_force 27 = .ok (.iload_n 2, 1) := by decide +kernel
theorem dX8_force_28 : decode cX8_force 28 = .ok (.ireturn, 1) := by decide +kernel
theorem dX8_worth_0 : decode cX8_worth 0 = .ok (.aload_n 0, 1) := by decide +kernel
theorem dX8_worth_1 : decode cX8_worth 1 = .ok (.getfield 37, 3) := by decide +kernel
theorem dX8_worth_4 : decode cX8_worth 4 = .ok (.iconst 4, 1) := by decide +kernel
theorem dX8_worth_5 : decode cX8_worth 5 = .ok (.aload_n 0, 1) := by decide +kernel
theorem dX8_worth_6 : decode cX8_worth 6 = .ok (.getfield 121, 3) := by decide +kernel
theorem dX8_worth_9 : decode cX8_worth 9 = .ok (.imul, 1) := by decide +kernel
theorem dX8_worth_10 : decode cX8_worth 10 = .ok (.iload_n 1, 1) := by decide +kernel
theorem dX8_worth_11 : decode cX8_worth 11 = .ok (.iadd, 1) := by decide +kernel
theorem dX8_worth_12 : decode cX8_worth 12 = .ok (.iconst 1, 1) := by decide +kernel
theorem dX8_worth_13 : decode cX8_worth 13 = .ok (.iadd, 1) := by decide +kernel
theorem dX8_worth_14 : decode cX8_worth 14 = .ok (.iaload, 1) := by decide +kernel
theorem dX8_worth_15 : decode cX8_worth 15 = .ok (.istore 8, 2) := by decide +kernel
theorem dX8_worth_17 : decode cX8_worth 17 = .ok (.iconst 0, 1) := by decide +kernel
theorem dX8_worth_18 : decode cX8_worth 18 = .ok (.istore 9, 2) := by decide +kernel
theorem dX8_worth_20 : decode cX8_worth 20 = .ok (.aload_n 0, 1) := by decide +kernel
theorem dX8_worth_21 : decode cX8_worth 21 = .ok (.getfield 37, 3) := by decide +kernel
theorem dX8_worth_24 : decode cX8_worth 24 = .ok (.iconst 4, 1) := by decide +kernel
theorem dX8_worth_25 : decode cX8_worth 25 = .ok (.aload_n 0, 1) := by decide +kernel
theorem dX8_worth_26 : decode cX8_worth 26 = .ok (.getfield 121, 3) := by decide +kernel
theorem dX8_worth_29 : decode cX8_worth 29 = .ok (.imul, 1) := by decide +kernel
theorem dX8_worth_30 : decode cX8_worth 30 = .ok (.iload_n 1, 1) := by decide +kernel
theorem dX8_worth_31 : decode cX8_worth 31 = .ok (.iadd, 1) := by decide +kernel
theorem dX8_worth_32 : decode cX8_worth 32 = .ok (.iaload, 1) := by decide +kernel
theorem dX8_worth_33 : decode cX8_worth 33 = .ok (.istore 10, 2) := by decide +kernel
theorem dX8_worth_35 : decode cX8_worth 35 = .ok (.iload 10, 2) := by decide +kernel
theorem dX8_worth_37 : decode cX8_worth 37 = .ok (.iload 8, 2) := by decide +kernel
theorem dX8_worth_39 : decode cX8_worth 39 = .ok (.if_icmp .ge 359, 3) := by decide +kernel
theorem dX8_worth_42 : decode cX8_worth 42 = .ok (.aload_n 0, 1) := by decide +kernel
theorem dX8_worth_43 : decode cX8_worth 43 = .ok (.getfield 34, 3) := by decide +kernel
theorem dX8_worth_46 : decode cX8_worth 46 = .ok (.sipush 170, 3) := by decide +kernel
theorem dX8_worth_49 : decode cX8_worth 49 = .ok (.aload_n 0, 1) := by decide +kernel
theorem dX8_worth_50 : decode cX8_worth 50 = .ok (.getfield 121, 3) := by decide +kernel
theorem dX8_worth_53 : decode cX8_worth 53 = .ok (.imul, 1) := by decide +kernel
theorem dX8_worth_54 : decode cX8_worth 54 = .ok (.iload 10, 2) := by decide +kernel
theorem dX8_worth_56 : decode cX8_worth 56 = .ok (.iadd, 1) := by decide +kernel
theorem dX8_worth_57 : decode cX8_worth 57 = .ok (.iaload, 1) := by decide +kernel
theorem dX8_worth_58 : decode cX8_worth 58 = .ok (.istore 11, 2) := by decide +kernel
theorem dX8_worth_60 : decode cX8_worth 60 = .ok (.iload 11, 2) := by decide +kernel
theorem dX8_worth_62 : decode cX8_worth 62 = .ok (.ifCond .lt 18, 3) := by decide +kernel
theorem dX8_worth_65 : decode cX8_worth 65 = .ok (.aload_n 0, 1) := by decide +kernel
theorem dX8_worth_66 : decode cX8_worth 66 = .ok (.getfield 40, 3) := by decide +kernel
theorem dX8_worth_69 : decode cX8_worth 69 = .ok (.iload 9, 2) := by decide +kernel
theorem dX8_worth_71 : decode cX8_worth 71 = .ok (.iinc 9 1, 3) := by decide +kernel
theorem dX8_worth_74 : decode cX8_worth 74 = .ok (.iload 11, 2) := by decide +kernel
theorem dX8_worth_76 : decode cX8_worth 76 = .ok (.iastore, 1) := by decide +kernel
theorem dX8_worth_77 : decode cX8_worth 77 = .ok (.goto 315, 3) := by decide +kernel
theorem dX8_worth_80 : decode cX8_worth 80 = .ok (.iload 11, 2) := by decide +kernel
theorem dX8_worth_82 : decode cX8_worth 82 = .ok (.bipush (-7), 2) := by decide +kernel
theorem dX8_worth_84 : decode cX8_worth 84 = .ok (.if_icmp .le 75, 3) := by decide +kernel
theorem dX8_worth_87 : decode cX8_worth 87 = .ok (.aload_n 0, 1) := by decide +kernel
theorem dX8_worth_88 : decode cX8_worth 88 = .ok (.getfield 40, 3) := by decide +kernel
theorem dX8_worth_91 : decode cX8_worth 91 = .ok (.iload 9, 2) := by decide +kernel
theorem dX8_worth_93 : decode cX8_worth 93 = .ok (.iinc 9 1, 3) := by decide +kernel
theorem dX8_worth_96 : decode cX8_worth 96 = .ok (.iload 11, 2) := by decide +kernel
theorem dX8_worth_98 : decode cX8_worth 98 = .ok (.iconst (-1), 1) := by decide +kernel
theorem dX8_worth_99 : decode cX8_worth 99 = .ok (.if_icmp .ne 7, 3) := by decide +kernel
theorem dX8_worth_102 : decode cX8_worth 102 = .ok (.iload_n 2, 1) := by decide +kernel
theorem dX8_worth_103 : decode cX8_worth 103 = .ok (.goto 52, 3) := by decide +kernel
theorem dX8_worth_106 : decode cX8_worth 106 = .ok (.iload 11, 2) := by decide +kernel
theorem dX8_worth_108 : decode cX8_worth 108 = .ok (.bipush (-2), 2) := by decide +kernel
theorem dX8_worth_110 : decode cX8_worth 110 = .ok (.if_icmp .ne 7, 3) := by decide +kernel
theorem dX8_worth_113 : decode cX8_worth 113 = .ok (.iload_n 3, 1) := by decide +kernel
theorem dX8_worth_114 : decode cX8_worth 114 = .ok (.goto 41, 3) := by decide +kernel
theorem dX8_worth_117 : decode cX8_worth 117 = .ok (.iload 11, 2) := by decide +kernel
theorem dX8_worth_119 : decode cX8_worth 119 = .ok (.bipush (-3), 2) := by decide +kernel
theorem dX8_worth_121 : decode cX8_worth 121 = .ok (.if_icmp .ne 8, 3) := by decide +kernel
theorem dX8_worth_124 : decode cX8_worth 124 = .ok (.iload 4, 2) := by decide +kernel
theorem dX8_worth_126 : decode cX8_worth 126 = .ok (.goto 29, 3) := by decide +kernel
theorem dX8_worth_129 : decode cX8_worth 129 = .ok (.iload 11, 2) := by decide +kernel
theorem dX8_worth_131 : decode cX8_worth 131 = .ok (.bipush (-4), 2) := by decide +kernel
theorem dX8_worth_133 : decode cX8_worth 133 = .ok (.if_icmp .ne 8, 3) := by decide +kernel
theorem dX8_worth_136 : decode cX8_worth 136 = .ok (.iload 5, 2) := by decide +kernel
theorem dX8_worth_138 : decode cX8_worth 138 = .ok (.goto 17, 3) := by decide +kernel
theorem dX8_worth_141 : decode cX8_worth 141 = .ok (.iload 11, 2) := by decide +kernel
theorem dX8_worth_143 : decode cX8_worth 143 = .ok (.bipush (-5), 2) := by decide +kernel
theorem dX8_worth_145 : decode cX8_worth 145 = .ok (.if_icmp .ne 8, 3) := by decide +kernel
theorem dX8_worth_148 : decode cX8_worth 148 = .ok (.iload 6, 2) := by decide +kernel
theorem dX8_worth_150 : decode cX8_worth 150 = .ok (.goto 5, 3) := by decide +kernel
theorem dX8_worth_153 : decode cX8_worth 153 = .ok (.iload 7, 2) := by decide +kernel
theorem dX8_worth_155 : decode cX8_worth 155 = .ok (.iastore, 1) := by decide +kernel
theorem dX8_worth_156 : decode cX8_worth 156 = .ok (.goto 236, 3) := by decide +kernel
theorem dX8_worth_159 : decode cX8_worth 159 = .ok (.aload_n 0, 1) := by decide +kernel
theorem dX8_worth_160 : decode cX8_worth 160 = .ok (.getfield 40, 3) := by decide +kernel
theorem dX8_worth_163 : decode cX8_worth 163 = .ok (.iload 9, 2) := by decide +kernel
theorem dX8_worth_165 : decode cX8_worth 165 = .ok (.iconst 1, 1) := by decide +kernel
theorem dX8_worth_166 : decode cX8_worth 166 = .ok (.isub, 1) := by decide +kernel
theorem dX8_worth_167 : decode cX8_worth 167 = .ok (.iaload, 1) := by decide +kernel
theorem dX8_worth_168 : decode cX8_worth 168 = .ok (.istore 12, 2) := by decide +kernel
theorem dX8_worth_170 : decode cX8_worth 170 = .ok (.iload 11, 2) := by decide +kernel
theorem dX8_worth_172 : decode cX8_worth 172 = .ok (.bipush (-13), 2) := by decide +kernel
theorem dX8_worth_174 : decode cX8_worth 174 = .ok (.if_icmp .ne 25, 3) := by decide +kernel
theorem dX8_worth_177 : decode cX8_worth 177 = .ok (.aload_n 0, 1) := by decide +kernel
theorem dX8_worth_178 : decode cX8_worth 178 = .ok (.getfield 40, 3) := by decide +kernel
theorem dX8_worth_181 : decode cX8_worth 181 = .ok (.iload 9, 2) := by decide +kernel
theorem dX8_worth_183 : decode cX8_worth 183 = .ok (.iconst 1, 1) := by decide +kernel
theorem dX8_worth_184 : decode cX8_worth 184 = .ok (.isub, 1) := by decide +kernel
theorem dX8_worth_185 : decode cX8_worth 185 = .ok (.iload 12, 2) := by decide +kernel
theorem dX8_worth_187 : decode cX8_worth 187 = .ok (.ifCond .ne 7, 3) := by decide +kernel
theorem dX8_worth_190 : decode cX8_worth 190 = .ok (.iconst 1, 1) := by decide +kernel
theorem dX8_worth_191 : decode cX8_worth 191 = .ok (.goto 4, 3) := by decide +kernel
theorem dX8_worth_194 : decode cX8_worth 194 = .ok (.iconst 0, 1) := by decide +kernel
theorem dX8_worth_195 : decode cX8_worth 195 = .ok (.iastore, 1) := by decide +kernel
theorem dX8_worth_196 : decode cX8_worth 196 = .ok (.goto 196, 3) := by decide +kernel
theorem dX8_worth_199 : decode cX8_worth 199 = .ok (.iload 11, 2) := by decide +kernel
theorem dX8_worth_201 : decode cX8_worth 201 = .ok (.bipush (-19), 2) := by decide +kernel
theorem dX8_worth_203 : decode cX8_worth 203 = .ok (.if_icmp .ne 18, 3) := by decide +kernel
theorem dX8_worth_206 : decode cX8_worth 206 = .ok (.aload_n 0, 1) := by decide +kernel
theorem dX8_worth_207 : decode cX8_worth 207 = .ok (.getfield 40, 3) := by decide +kernel
theorem dX8_worth_210 : decode cX8_worth 210 = .ok (.iload 9, 2) := by decide +kernel
theorem dX8_worth_212 : decode cX8_worth 212 = .ok (.iconst 1, 1) := by decide +kernel
theorem dX8_worth_213 : decode cX8_worth 213 = .ok (.isub, 1) := by decide +kernel
theorem dX8_worth_214 : decode cX8_worth 214 = .ok (.iload 12, 2) := by decide +kernel
theorem dX8_worth_216 : decode cX8_worth 216 = .ok (.ineg, 1) := by decide +kernel
theorem dX8_worth_217 : decode cX8_worth 217 = .ok (.iastore, 1) := by decide +kernel
theorem dX8_worth_218 : decode cX8_worth 218 = .ok (.goto 174, 3) := by decide +kernel
theorem dX8_worth_221 : decode cX8_worth 221 = .ok (.aload_n 0, 1) := by decide +kernel
theorem dX8_worth_222 : decode cX8_worth 222 = .ok (.getfield 40, 3) := by decide +kernel
theorem dX8_worth_225 : decode cX8_worth 225 = .ok (.iload 9, 2) := by decide +kernel
theorem dX8_worth_227 : decode cX8_worth 227 = .ok (.iconst 2, 1) := by decide +kernel
theorem dX8_worth_228 : decode cX8_worth 228 = .ok (.isub, 1) := by decide +kernel
theorem dX8_worth_229 : decode cX8_worth 229 = .ok (.iaload, 1) := by decide +kernel
theorem dX8_worth_230 : decode cX8_worth 230 = .ok (.istore 13, 2) := by decide +kernel
theorem dX8_worth_232 : decode cX8_worth 232 = .ok (.iinc 9 (-1), 3) := by decide +kernel
theorem dX8_worth_235 : decode cX8_worth 235 = .ok (.iload 11, 2) := by decide +kernel
theorem dX8_worth_237 : decode cX8_worth 237 = .ok (.tableswitch 137 (-17) (-11) #[127, 117, 100, 83, 137, 63, 43], 43) := by decide +kernel
theorem dX8_worth_280 : decode cX8_worth 280 = .ok (.iload 13, 2) := by decide +kernel
theorem dX8_worth_282 : decode cX8_worth 282 = .ok (.ifCond .ne 8, 3) := by decide +kernel
theorem dX8_worth_285 : decode cX8_worth 285 = .ok (.iload 12, 2) := by decide +kernel
theorem dX8_worth_287 : decode cX8_worth 287 = .ok (.ifCond .eq 7, 3) := by decide +kernel
theorem dX8_worth_290 : decode cX8_worth 290 = .ok (.iconst 1, 1) := by decide +kernel
theorem dX8_worth_291 : decode cX8_worth 291 = .ok (.goto 4, 3) := by decide +kernel
theorem dX8_worth_294 : decode cX8_worth 294 = .ok (.iconst 0, 1) := by decide +kernel
theorem dX8_worth_295 : decode cX8_worth 295 = .ok (.istore 14, 2) := by decide +kernel
theorem dX8_worth_297 : decode cX8_worth 297 = .ok (.goto 84, 3) := by decide +kernel
theorem dX8_worth_300 : decode cX8_worth 300 = .ok (.iload 13, 2) := by decide +kernel
theorem dX8_worth_302 : decode cX8_worth 302 = .ok (.ifCond .eq 12, 3) := by decide +kernel
theorem dX8_worth_305 : decode cX8_worth 305 = .ok (.iload 12, 2) := by decide +kernel
theorem dX8_worth_307 : decode cX8_worth 307 = .ok (.ifCond .eq 7, 3) := by decide +kernel
theorem dX8_worth_310 : decode cX8_worth 310 = .ok (.iconst 1, 1) := by decide +kernel
theorem dX8_worth_311 : decode cX8_worth 311 = .ok (.goto 4, 3) := by decide +kernel
theorem dX8_worth_314 : decode cX8_worth 314 = .ok (.iconst 0, 1) := by decide +kernel
theorem dX8_worth_315 : decode cX8_worth 315 = .ok (.istore 14, 2) := by decide +kernel
theorem dX8_worth_317 : decode cX8_worth 317 = .ok (.goto 64, 3) := by decide +kernel
theorem dX8_worth_320 : decode cX8_worth 320 = .ok (.iload 13, 2) := by decide +kernel
theorem dX8_worth_322 : decode cX8_worth 322 = .ok (.iload 12, 2) := by decide +kernel
theorem dX8_worth_324 : decode cX8_worth 324 = .ok (.if_icmp .ge 7, 3) := by decide +kernel
theorem dX8_worth_327 : decode cX8_worth 327 = .ok (.iconst 1, 1) := by decide +kernel
theorem dX8_worth_328 : decode cX8_worth 328 = .ok (.goto 4, 3) := by decide +kernel
theorem dX8_worth_331 : decode cX8_worth 331 = .ok (.iconst 0, 1) := by decide +kernel
theorem dX8_worth_332 : decode cX8_worth 332 = .ok (.istore 14, 2) := by decide +kernel
theorem dX8_worth_334 : decode cX8_worth 334 = .ok (.goto 47, 3) := by decide +kernel
theorem dX8_worth_337 : decode cX8_worth 337 = .ok (.iload 13, 2) := by decide +kernel
theorem dX8_worth_339 : decode cX8_worth 339 = .ok (.iload 12, 2) := by decide +kernel
theorem dX8_worth_341 : decode cX8_worth 341 = .ok (.if_icmp .ne 7, 3) := by decide +kernel
theorem dX8_worth_344 : decode cX8_worth 344 = .ok (.iconst 1, 1) := by decide +kernel
theorem dX8_worth_345 : decode cX8_worth 345 = .ok (.goto 4, 3) := by decide +kernel
theorem dX8_worth_348 : decode cX8_worth 348 = .ok (.iconst 0, 1) := by decide +kernel
theorem dX8_worth_349 : decode cX8_worth 349 = .ok (.istore 14, 2) := by decide +kernel
theorem dX8_worth_351 : decode cX8_worth 351 = .ok (.goto 30, 3) := by decide +kernel
theorem dX8_worth_354 : decode cX8_worth 354 = .ok (.iload 13, 2) := by decide +kernel
theorem dX8_worth_356 : decode cX8_worth 356 = .ok (.iload 12, 2) := by decide +kernel
theorem dX8_worth_358 : decode cX8_worth 358 = .ok (.iadd, 1) := by decide +kernel
theorem dX8_worth_359 : decode cX8_worth 359 = .ok (.istore 14, 2) := by decide +kernel
theorem dX8_worth_361 : decode cX8_worth 361 = .ok (.goto 20, 3) := by decide +kernel
theorem dX8_worth_364 : decode cX8_worth 364 = .ok (.iload 13, 2) := by decide +kernel
theorem dX8_worth_366 : decode cX8_worth 366 = .ok (.iload 12, 2) := by decide +kernel
theorem dX8_worth_368 : decode cX8_worth 368 = .ok (.isub, 1) := by decide +kernel
theorem dX8_worth_369 : decode cX8_worth 369 = .ok (.istore 14, 2) := by decide +kernel
theorem dX8_worth_371 : decode cX8_worth 371 = .ok (.goto 10, 3) := by decide +kernel
theorem dX8_worth_374 : decode cX8_worth 374 = .ok (.iload 13, 2) := by decide +kernel
theorem dX8_worth_376 : decode cX8_worth 376 = .ok (.iload 12, 2) := by decide +kernel
theorem dX8_worth_378 : decode cX8_worth 378 = .ok (.imul, 1) := by decide +kernel
theorem dX8_worth_379 : decode cX8_worth 379 = .ok (.istore 14, 2) := by decide +kernel
theorem dX8_worth_381 : decode cX8_worth 381 = .ok (.aload_n 0, 1) := by decide +kernel
theorem dX8_worth_382 : decode cX8_worth 382 = .ok (.getfield 40, 3) := by decide +kernel
theorem dX8_worth_385 : decode cX8_worth 385 = .ok (.iload 9, 2) := by decide +kernel
theorem dX8_worth_387 : decode cX8_worth 387 = .ok (.iconst 1, 1) := by decide +kernel
theorem dX8_worth_388 : decode cX8_worth 388 = .ok (.isub, 1) := by decide +kernel
theorem dX8_worth_389 : decode cX8_worth 389 = .ok (.iload 14, 2) := by decide +kernel
theorem dX8_worth_391 : decode cX8_worth 391 = .ok (.iastore, 1) := by decide +kernel
theorem dX8_worth_392 : decode cX8_worth 392 = .ok (.iinc 10 1, 3) := by decide +kernel
theorem dX8_worth_395 : decode cX8_worth 395 = .ok (.goto (-360), 3) := by decide +kernel
theorem dX8_worth_398 : decode cX8_worth 398 = .ok (.iconst 0, 1) := by decide +kernel
theorem dX8_worth_399 : decode cX8_worth 399 = .ok (.iload_n 1, 1) := by decide +kernel
theorem dX8_worth_400 : decode cX8_worth 400 = .ok (.ifCond .ne 9, 3) := by decide +kernel
theorem dX8_worth_403 : decode cX8_worth 403 = .ok (.sipush 999, 3) := by decide +kernel
theorem dX8_worth_406 : decode cX8_worth 406 = .ok (.goto 5, 3) := by decide +kernel
theorem dX8_worth_409 : decode cX8_worth 409 = .ok (.bipush 100, 2) := by decide +kernel
theorem dX8_worth_411 : decode cX8_worth 411 = .ok (.aload_n 0, 1) := by decide +kernel
theorem dX8_worth_412 : decode cX8_worth 412 = .ok (.getfield 40, 3) := by decide +kernel
theorem dX8_worth_415 : decode cX8_worth 415 = .ok (.iconst 0, 1) := by decide +kernel
theorem dX8_worth_416 : decode cX8_worth 416 = .ok (.iaload, 1) := by decide +kernel
theorem dX8_worth_417 : decode cX8_worth 417 = .ok (.invokestatic 210, 3) := by decide +kernel
theorem dX8_worth_420 : decode cX8_worth 420 = .ok (.invokestatic 216, 3) := by decide +kernel
theorem dX8_worth_423 : decode cX8_worth 423 = .ok (.ireturn, 1) := by decide +kernel
set_option maxRecDepth 20000 in
theorem ggX8_asks_X8_within : GoodIn wsX8_asks wsX8_within := goodIn_r _ [4] (by decide +kernel) (by decide +kernel)
set_option maxRecDepth 20000 in
theorem gX8_asks_X8_within : GoodIn wsX8_asks (va_wsS RX8 108 yX8_within wsX8_within) := goodIn_app (goodIn_of _ (by decide +kernel)) ggX8_asks_X8_within
set_option maxRecDepth 20000 in
theorem ggX8_asks_X8_worth : GoodIn wsX8_asks wsX8_worth := goodIn_r _ [8, 9, 10, 11, 12, 13, 14, 15, 16, 17, 18, 19, 20, 21, 22, 23, 24, 25, 26, 27, 28, 29, 30, 31, 32, 33, 34, 35, 36, 37, 38, 39, 40, 41, 42, 43, 44, 45, 46, 47, 48, 49, 50, 51, 52, 53, 54, 55, 56, 57, 58, 59, 60, 61, 62, 63, 64, 65, 66] (by decide +kernel) (by decide +kernel)
set_option maxRecDepth 20000 in
theorem gX8_asks_X8_worth : GoodIn wsX8_asks (wsV RX8 219 RX8 yX8_worth wsX8_worth) := goodIn_app (goodIn_of _ (by decide +kernel)) ggX8_asks_X8_worth
theorem dX8_asks_0 : decode cX8_asks 0 = .ok (.iload_n 1, 1) := by decide +kernel
theorem dX8_asks_1 : decode cX8_asks 1 = .ok (.iconst 0, 1) := by decide +kernel
theorem dX8_asks_2 : decode cX8_asks 2 = .ok (.iconst 2, 1) := by decide +kernel
theorem dX8_asks_3 : decode cX8_asks 3 = .ok (.invokestatic 108, 3) := by decide +kernel
theorem dX8_asks_6 : decode cX8_asks 6 = .ok (.ifCond .eq 55, 3) := by decide +kernel
theorem dX8_asks_9 : decode cX8_asks 9 = .ok (.iload_n 2, 1) := by decide +kernel
theorem dX8_asks_10 : decode cX8_asks 10 = .ok (.iconst 0, 1) := by decide +kernel
theorem dX8_asks_11 : decode cX8_asks 11 = .ok (.sipush 9999, 3) := by decide +kernel
theorem dX8_asks_14 : decode cX8_asks 14 = .ok (.invokestatic 108, 3) := by decide +kernel
theorem dX8_asks_17 : decode cX8_asks 17 = .ok (.ifCond .eq 44, 3) := by decide +kernel
theorem dX8_asks_20 : decode cX8_asks 20 = .ok (.iload_n 3, 1) := by decide +kernel
theorem dX8_asks_21 : decode cX8_asks 21 = .ok (.iconst 0, 1) := by decide +kernel
theorem dX8_asks_22 : decode cX8_asks 22 = .ok (.bipush 91, 2) := by decide +kernel
theorem dX8_asks_24 : decode cX8_asks 24 = .ok (.invokestatic 108, 3) := by decide +kernel
theorem dX8_asks_27 : decode cX8_asks 27 = .ok (.ifCond .eq 34, 3) := by decide +kernel
theorem dX8_asks_30 : decode cX8_asks 30 = .ok (.iload_n 3, 1) := by decide +kernel
theorem dX8_asks_31 : decode cX8_asks 31 = .ok (.bipush 10, 2) := by decide +kernel
theorem dX8_asks_33 : decode cX8_asks 33 = .ok (.irem, 1) := by decide +kernel
theorem dX8_asks_34 : decode cX8_asks 34 = .ok (.iconst 1, 1) := by decide +kernel
theorem dX8_asks_35 : decode cX8_asks 35 = .ok (.if_icmp .gt 26, 3) := by decide +kernel
theorem dX8_asks_38 : decode cX8_asks 38 = .ok (.iload 4, 2) := by decide +kernel
theorem dX8_asks_40 : decode cX8_asks 40 = .ok (.iconst 0, 1) := by decide +kernel
theorem dX8_asks_41 : decode cX8_asks 41 = .ok (.bipush 19, 2) := by decide +kernel
theorem dX8_asks_43 : decode cX8_asks 43 = .ok (.invokestatic 108, 3) := by decide +kernel
theorem dX8_asks_46 : decode cX8_asks 46 = .ok (.ifCond .eq 15, 3) := by decide +kernel
theorem dX8_asks_49 : decode cX8_asks 49 = .ok (.iload 5, 2) := by decide +kernel
theorem dX8_asks_51 : decode cX8_asks 51 = .ok (.iconst 0, 1) := by decide +kernel
theorem dX8_asks_52 : decode cX8_asks 52 = .ok (.sipush 9999, 3) := by decide +kernel
theorem dX8_asks_55 : decode cX8_asks 55 = .ok (.invokestatic 108, 3) := by decide +kernel
theorem dX8_asks_58 : decode cX8_asks 58 = .ok (.ifCond .ne 6, 3) := by decide +kernel
theorem dX8_asks_61 : decode cX8_asks 61 = .ok (.bipush (-2), 2) := by decide +kernel
theorem dX8_asks_63 : decode cX8_asks 63 = .ok (.ireturn, 1) := by decide +kernel
theorem dX8_asks_64 : decode cX8_asks 64 = .ok (.aload_n 0, 1) := by decide +kernel
theorem dX8_asks_65 : decode cX8_asks 65 = .ok (.iload_n 1, 1) := by decide +kernel
theorem dX8_asks_66 : decode cX8_asks 66 = .ok (.iload_n 2, 1) := by decide +kernel
theorem dX8_asks_67 : decode cX8_asks 67 = .ok (.iload_n 3, 1) := by decide +kernel
theorem dX8_asks_68 : decode cX8_asks 68 = .ok (.bipush 10, 2) := by decide +kernel
theorem dX8_asks_70 : decode cX8_asks 70 = .ok (.idiv, 1) := by decide +kernel
theorem dX8_asks_71 : decode cX8_asks 71 = .ok (.iload_n 3, 1) := by decide +kernel
theorem dX8_asks_72 : decode cX8_asks 72 = .ok (.bipush 10, 2) := by decide +kernel
theorem dX8_asks_74 : decode cX8_asks 74 = .ok (.irem, 1) := by decide +kernel
theorem dX8_asks_75 : decode cX8_asks 75 = .ok (.iload 4, 2) := by decide +kernel
theorem dX8_asks_77 : decode cX8_asks 77 = .ok (.bipush 10, 2) := by decide +kernel
theorem dX8_asks_79 : decode cX8_asks 79 = .ok (.idiv, 1) := by decide +kernel
theorem dX8_asks_80 : decode cX8_asks 80 = .ok (.iload 4, 2) := by decide +kernel
theorem dX8_asks_82 : decode cX8_asks 82 = .ok (.bipush 10, 2) := by decide +kernel
theorem dX8_asks_84 : decode cX8_asks 84 = .ok (.irem, 1) := by decide +kernel
theorem dX8_asks_85 : decode cX8_asks 85 = .ok (.iload 5, 2) := by decide +kernel
theorem dX8_asks_87 : decode cX8_asks 87 = .ok (.invokevirtual 219, 3) := by decide +kernel
theorem dX8_asks_90 : decode cX8_asks 90 = .ok (.ireturn, 1) := by decide +kernel
set_option maxRecDepth 20000 in
theorem ggX8_lay_X8_isCell : GoodIn wsX8_lay wsX8_isCell := goodIn_r _ [6, 7, 8, 5, 9] (by decide +kernel) (by decide +kernel)
set_option maxRecDepth 20000 in
theorem gX8_lay_X8_isCell : GoodIn wsX8_lay (va_wsS RX8 223 yX8_isCell wsX8_isCell) := goodIn_app (goodIn_of _ (by decide +kernel)) ggX8_lay_X8_isCell
set_option maxRecDepth 20000 in
theorem ggX8_lay_X8_within : GoodIn wsX8_lay wsX8_within := goodIn_r _ [9] (by decide +kernel) (by decide +kernel)
set_option maxRecDepth 20000 in
theorem gX8_lay_X8_within : GoodIn wsX8_lay (va_wsS RX8 108 yX8_within wsX8_within) := goodIn_app (goodIn_of _ (by decide +kernel)) ggX8_lay_X8_within
theorem dX8_lay_0 : decode cX8_lay 0 = .ok (.iload_n 1, 1) := by decide +kernel
theorem dX8_lay_1 : decode cX8_lay 1 = .ok (.invokestatic 223, 3) := by decide +kernel
theorem dX8_lay_4 : decode cX8_lay 4 = .ok (.ifCond .ne 6, 3) := by decide +kernel
theorem dX8_lay_7 : decode cX8_lay 7 = .ok (.bipush (-5), 2) := by decide +kernel
theorem dX8_lay_9 : decode cX8_lay 9 = .ok (.ireturn, 1) := by decide +kernel
theorem dX8_lay_10 : decode cX8_lay 10 = .ok (.iload_n 2, 1) := by decide +kernel
theorem dX8_lay_11 : decode cX8_lay 11 = .ok (.iconst 0, 1) := by decide +kernel
theorem dX8_lay_12 : decode cX8_lay 12 = .ok (.iconst 5, 1) := by decide +kernel
theorem dX8_lay_13 : decode cX8_lay 13 = .ok (.invokestatic 108, 3) := by decide +kernel
theorem dX8_lay_16 : decode cX8_lay 16 = .ok (.ifCond .eq 13, 3) := by decide +kernel
theorem dX8_lay_19 : decode cX8_lay 19 = .ok (.iload_n 3, 1) := by decide +kernel
theorem dX8_lay_20 : decode cX8_lay 20 = .ok (.iconst 0, 1) := by decide +kernel
theorem dX8_lay_21 : decode cX8_lay 21 = .ok (.bipush 99, 2) := by decide +kernel
theorem dX8_lay_23 : decode cX8_lay 23 = .ok (.invokestatic 108, 3) := by decide +kernel
theorem dX8_lay_26 : decode cX8_lay 26 = .ok (.ifCond .ne 6, 3) := by decide +kernel
theorem dX8_lay_29 : decode cX8_lay 29 = .ok (.bipush (-7), 2) := by decide +kernel
theorem dX8_lay_31 : decode cX8_lay 31 = .ok (.ireturn, 1) := by decide +kernel
theorem dX8_lay_32 : decode cX8_lay 32 = .ok (.aload_n 0, 1) := by decide +kernel
theorem dX8_lay_33 : decode cX8_lay 33 = .ok (.getfield 13, 3) := by decide +kernel
theorem dX8_lay_36 : decode cX8_lay 36 = .ok (.iload_n 1, 1) := by decide +kernel
theorem dX8_lay_37 : decode cX8_lay 37 = .ok (.iaload, 1) := by decide +kernel
theorem dX8_lay_38 : decode cX8_lay 38 = .ok (.istore 4, 2) := by decide +kernel
theorem dX8_lay_40 : decode cX8_lay 40 = .ok (.aload_n 0, 1) := by decide +kernel
theorem dX8_lay_41 : decode cX8_lay 41 = .ok (.getfield 13, 3) := by decide +kernel
theorem dX8_lay_44 : decode cX8_lay 44 = .ok (.iload_n 1, 1) := by decide +kernel
theorem dX8_lay_45 : decode cX8_lay 45 = .ok (.iload_n 2, 1) := by decide +kernel
theorem dX8_lay_46 : decode cX8_lay 46 = .ok (.iastore, 1) := by decide +kernel
theorem dX8_lay_47 : decode cX8_lay 47 = .ok (.aload_n 0, 1) := by decide +kernel
theorem dX8_lay_48 : decode cX8_lay 48 = .ok (.getfield 16, 3) := by decide +kernel
theorem dX8_lay_51 : decode cX8_lay 51 = .ok (.iload_n 1, 1) := by decide +kernel
theorem dX8_lay_52 : decode cX8_lay 52 = .ok (.iload_n 3, 1) := by decide +kernel
theorem dX8_lay_53 : decode cX8_lay 53 = .ok (.iastore, 1) := by decide +kernel
theorem dX8_lay_54 : decode cX8_lay 54 = .ok (.iload 4, 2) := by decide +kernel
theorem dX8_lay_56 : decode cX8_lay 56 = .ok (.ireturn, 1) := by decide +kernel
set_option maxRecDepth 20000 in
theorem ggX8_plot_X8_isCell : GoodIn wsX8_plot wsX8_isCell := goodIn_r _ [4, 5, 6, 3, 7] (by decide +kernel) (by decide +kernel)
set_option maxRecDepth 20000 in
theorem gX8_plot_X8_isCell : GoodIn wsX8_plot (va_wsS RX8 223 yX8_isCell wsX8_isCell) := goodIn_app (goodIn_of _ (by decide +kernel)) ggX8_plot_X8_isCell
set_option maxRecDepth 20000 in
theorem ggX8_plot_X8_within : GoodIn wsX8_plot wsX8_within := goodIn_r _ [7] (by decide +kernel) (by decide +kernel)
set_option maxRecDepth 20000 in
theorem gX8_plot_X8_within : GoodIn wsX8_plot (va_wsS RX8 108 yX8_within wsX8_within) := goodIn_app (goodIn_of _ (by decide +kernel)) ggX8_plot_X8_within
set_option maxRecDepth 20000 in
theorem ggX8_plot_X8_lay : GoodIn wsX8_plot wsX8_lay := goodIn_r _ [11, 12, 13, 1, 2, 3, 4, 5, 6, 7, 14, 15, 16, 17, 18, 19, 20, 21, 22, 23, 24, 25, 26, 27, 28, 29, 30, 31, 32, 33, 34, 35, 36, 37, 38, 39, 40, 41, 42, 43, 44, 45, 46, 47, 48, 49, 50, 51, 52, 53, 54, 55, 56, 57, 58, 59, 60] (by decide +kernel) (by decide +kernel)
set_option maxRecDepth 20000 in
theorem gX8_plot_X8_lay : GoodIn wsX8_plot (wsV RX8 226 RX8 yX8_lay wsX8_lay) := goodIn_app (goodIn_of _ (by decide +kernel)) ggX8_plot_X8_lay
theorem dX8_plot_0 : decode cX8_plot 0 = .ok (.iload_n 1, 1) := by decide +kernel
theorem dX8_plot_1 : decode cX8_plot 1 = .ok (.invokestatic 223, 3) := by decide +kernel
theorem dX8_plot_4 : decode cX8_plot 4 = .ok (.ifCond .eq 29, 3) := by decide +kernel
theorem dX8_plot_7 : decode cX8_plot 7 = .ok (.iload_n 2, 1) := by decide +kernel
theorem dX8_plot_8 : decode cX8_plot 8 = .ok (.bipush 10, 2) := by decide +kernel
theorem dX8_plot_10 : decode cX8_plot 10 = .ok (.idiv, 1) := by decide +kernel
theorem dX8_plot_11 : decode cX8_plot 11 = .ok (.iconst 1, 1) := by decide +kernel
theorem dX8_plot_12 : decode cX8_plot 12 = .ok (.bipush 6, 2) := by decide +kernel
theorem dX8_plot_14 : decode cX8_plot 14 = .ok (.invokestatic 108, 3) := by decide +kernel
theorem dX8_plot_17 : decode cX8_plot 17 = .ok (.ifCond .eq 16, 3) := by decide +kernel
theorem dX8_plot_20 : decode cX8_plot 20 = .ok (.iload_n 2, 1) := by decide +kernel
theorem dX8_plot_21 : decode cX8_plot 21 = .ok (.bipush 10, 2) := by decide +kernel
theorem dX8_plot_23 : decode cX8_plot 23 = .ok (.irem, 1) := by decide +kernel
theorem dX8_plot_24 : decode cX8_plot 24 = .ok (.iconst 1, 1) := by decide +kernel
theorem dX8_plot_25 : decode cX8_plot 25 = .ok (.bipush 6, 2) := by decide +kernel
theorem dX8_plot_27 : decode cX8_plot 27 = .ok (.invokestatic 108, 3) := by decide +kernel
theorem dX8_plot_30 : decode cX8_plot 30 = .ok (.ifCond .ne 6, 3) := by decide +kernel
theorem dX8_plot_33 : decode cX8_plot 33 = .ok (.bipush (-2), 2) := by decide +kernel
theorem dX8_plot_35 : decode cX8_plot 35 = .ok (.ireturn, 1) := by decide +kernel
theorem dX8_plot_36 : decode cX8_plot 36 = .ok (.iload_n 3, 1) := by decide +kernel
theorem dX8_plot_37 : decode cX8_plot 37 = .ok (.iconst 0, 1) := by decide +kernel
theorem dX8_plot_38 : decode cX8_plot 38 = .ok (.iconst 5, 1) := by decide +kernel
theorem dX8_plot_39 : decode cX8_plot 39 = .ok (.invokestatic 108, 3) := by decide +kernel
theorem dX8_plot_42 : decode cX8_plot 42 = .ok (.ifCond .eq 14, 3) := by decide +kernel
theorem dX8_plot_45 : decode cX8_plot 45 = .ok (.iload 4, 2) := by decide +kernel
theorem dX8_plot_47 : decode cX8_plot 47 = .ok (.iconst 0, 1) := by decide +kernel
theorem dX8_plot_48 : decode cX8_plot 48 = .ok (.bipush 99, 2) := by decide +kernel
theorem dX8_plot_50 : decode cX8_plot 50 = .ok (.invokestatic 108, 3) := by decide +kernel
theorem dX8_plot_53 : decode cX8_plot 53 = .ok (.ifCond .ne 6, 3) := by decide +kernel
theorem dX8_plot_56 : decode cX8_plot 56 = .ok (.bipush (-7), 2) := by decide +kernel
theorem dX8_plot_58 : decode cX8_plot 58 = .ok (.ireturn, 1) := by decide +kernel
theorem dX8_plot_59 : decode cX8_plot 59 = .ok (.iconst 0, 1) := by decide +kernel
theorem dX8_plot_60 : decode cX8_plot 60 = .ok (.istore 5, 2) := by decide +kernel
theorem dX8_plot_62 : decode cX8_plot 62 = .ok (.iload_n 1, 1) := by decide +kernel
theorem dX8_plot_63 : decode cX8_plot 63 = .ok (.bipush 6, 2) := by decide +kernel
theorem dX8_plot_65 : decode cX8_plot 65 = .ok (.idiv, 1) := by decide +kernel
theorem dX8_plot_66 : decode cX8_plot 66 = .ok (.istore 6, 2) := by decide +kernel
theorem dX8_plot_68 : decode cX8_plot 68 = .ok (.iload 6, 2) := by decide +kernel
theorem dX8_plot_70 : decode cX8_plot 70 = .ok (.bipush 6, 2) := by decide +kernel
theorem dX8_plot_72 : decode cX8_plot 72 = .ok (.if_icmp .ge 75, 3) := by decide +kernel
theorem dX8_plot_75 : decode cX8_plot 75 = .ok (.iload 6, 2) := by decide +kernel
theorem dX8_plot_77 : decode cX8_plot 77 = .ok (.iload_n 1, 1) := by decide +kernel
theorem dX8_plot_78 : decode cX8_plot 78 = .ok (.bipush 6, 2) := by decide +kernel
theorem dX8_plot_80 : decode cX8_plot 80 = .ok (.idiv, 1) := by decide +kernel
theorem dX8_plot_81 : decode cX8_plot 81 = .ok (.iload_n 2, 1) := by decide +kernel
theorem dX8_plot_82 : decode cX8_plot 82 = .ok (.bipush 10, 2) := by decide +kernel
theorem dX8_plot_84 : decode cX8_plot 84 = .ok (.idiv, 1) := by decide +kernel
theorem dX8_plot_85 : decode cX8_plot 85 = .ok (.iadd, 1) := by decide +kernel
theorem dX8_plot_86 : decode cX8_plot 86 = .ok (.if_icmp .ge 61, 3) := by decide +kernel
theorem dX8_plot_89 : decode cX8_plot 89 = .ok (.iload_n 1, 1) := by decide +kernel
theorem dX8_plot_90 : decode cX8_plot 90 = .ok (.bipush 6, 2) := by decide +kernel
theorem dX8_plot_92 : decode cX8_plot 92 = .ok (.irem, 1) := by decide +kernel
theorem dX8_plot_93 : decode cX8_plot 93 = .ok (.istore 7, 2) := by decide +kernel
theorem dX8_plot_95 : decode cX8_plot 95 = .ok (.iload 7, 2) := by decide +kernel
theorem dX8_plot_97 : decode cX8_plot 97 = .ok (.bipush 6, 2) := by decide +kernel
theorem dX8_plot_99 : decode cX8_plot 99 = .ok (.if_icmp .ge 42, 3) := by decide +kernel
theorem dX8_plot_102 : decode cX8_plot 102 = .ok (.iload 7, 2) := by decide +kernel
theorem dX8_plot_104 : decode cX8_plot 104 = .ok (.iload_n 1, 1) := by decide +kernel
theorem dX8_plot_105 : decode cX8_plot 105 = .ok (.bipush 6, 2) := by decide +kernel
theorem dX8_plot_107 : decode cX8_plot 107 = .ok (.irem, 1) := by decide +kernel
theorem dX8_plot_108 : decode cX8_plot 108 = .ok (.iload_n 2, 1) := by decide +kernel
theorem dX8_plot_109 : decode cX8_plot 109 = .ok (.bipush 10, 2) := by decide +kernel
theorem dX8_plot_111 : decode cX8_plot 111 = .ok (.irem, 1) := by decide +kernel
theorem dX8_plot_112 : decode cX8_plot 112 = .ok (.iadd, 1) := by decide +kernel
theorem dX8_plot_113 : decode cX8_plot 113 = .ok (.if_icmp .ge 28, 3) := by decide +kernel
theorem dX8_plot_116 : decode cX8_plot 116 = .ok (.aload_n 0, 1) := by decide +kernel
theorem dX8_plot_117 : decode cX8_plot 117 = .ok (.bipush 6, 2) := by decide +kernel
theorem dX8_plot_119 : decode cX8_plot 119 = .ok (.iload 6, 2) := by decide +kernel
theorem dX8_plot_121 : decode cX8_plot 121 = .ok (.imul, 1) := by decide +kernel
theorem dX8_plot_122 : decode cX8_plot 122 = .ok (.iload 7, 2) := by decide +kernel
theorem dX8_plot_124 : decode cX8_plot 124 = .ok (.iadd, 1) := by decide +kernel
theorem dX8_plot_125 : decode cX8_plot 125 = .ok (.iload_n 3, 1) := by decide +kernel
theorem dX8_plot_126 : decode cX8_plot 126 = .ok (.iload 4, 2) := by decide +kernel
theorem dX8_plot_128 : decode cX8_plot 128 = .ok (.invokevirtual 226, 3) := by decide +kernel
theorem dX8_plot_131 : decode cX8_plot 131 = .ok (.pop, 1) := by decide +kernel
theorem dX8_plot_132 : decode cX8_plot 132 = .ok (.iinc 5 1, 3) := by decide +kernel
theorem dX8_plot_135 : decode cX8_plot 135 = .ok (.iinc 7 1, 3) := by decide +kernel
theorem dX8_plot_138 : decode cX8_plot 138 = .ok (.goto (-43), 3) := by decide +kernel
theorem dX8_plot_141 : decode cX8_plot 141 = .ok (.iinc 6 1, 3) := by decide +kernel
theorem dX8_plot_144 : decode cX8_plot 144 = .ok (.goto (-76), 3) := by decide +kernel
theorem dX8_plot_147 : decode cX8_plot 147 = .ok (.iload 5, 2) := by decide +kernel
theorem dX8_plot_149 : decode cX8_plot 149 = .ok (.ireturn, 1) := by decide +kernel
set_option maxRecDepth 20000 in
theorem ggX8_cellTold_X8_isCell : GoodIn wsX8_cellTold wsX8_isCell := goodIn_r _ [7, 8, 9, 6, 10] (by decide +kernel) (by decide +kernel)
set_option maxRecDepth 20000 in
theorem gX8_cellTold_X8_isCell : GoodIn wsX8_cellTold (va_wsS RX8 223 yX8_isCell wsX8_isCell) := goodIn_app (goodIn_of _ (by decide +kernel)) ggX8_cellTold_X8_isCell
theorem dX8_cellTold_0 : decode cX8_cellTold 0 = .ok (.iload_n 1, 1) := by decide +kernel
theorem dX8_cellTold_1 : decode cX8_cellTold 1 = .ok (.invokestatic 223, 3) := by decide +kernel
theorem dX8_cellTold_4 : decode cX8_cellTold 4 = .ok (.ifCond .ne 6, 3) := by decide +kernel
theorem dX8_cellTold_7 : decode cX8_cellTold 7 = .ok (.bipush (-5), 2) := by decide +kernel
theorem dX8_cellTold_9 : decode cX8_cellTold 9 = .ok (.ireturn, 1) := by decide +kernel
theorem dX8_cellTold_10 : decode cX8_cellTold 10 = .ok (.iload_n 2, 1) := by decide +kernel
theorem dX8_cellTold_11 : decode cX8_cellTold 11 = .ok (.tableswitch 46 0 2 #[25, 32, 39], 25) := by decide +kernel
theorem dX8_cellTold_36 : decode cX8_cellTold 36 = .ok (.aload_n 0, 1) := by decide +kernel
theorem dX8_cellTold_37 : decode cX8_cellTold 37 = .ok (.getfield 13, 3) := by decide +kernel
theorem dX8_cellTold_40 : decode cX8_cellTold 40 = .ok (.iload_n 1, 1) := by decide +kernel
theorem dX8_cellTold_41 : decode cX8_cellTold 41 = .ok (.iaload, 1) := by decide +kernel
theorem dX8_cellTold_42 : decode cX8_cellTold 42 = .ok (.ireturn, 1) := by decide +kernel
theorem dX8_cellTold_43 : decode cX8_cellTold 43 = .ok (.aload_n 0, 1) := by decide +kernel
theorem dX8_cellTold_44 : decode cX8_cellTold 44 = .ok (.getfield 16, 3) := by decide +kernel
theorem dX8_cellTold_47 : decode cX8_cellTold 47 = .ok (.iload_n 1, 1) := by decide +kernel
theorem dX8_cellTold_48 : decode cX8_cellTold 48 = .ok (.iaload, 1) := by decide +kernel
theorem dX8_cellTold_49 : decode cX8_cellTold 49 = .ok (.ireturn, 1) := by decide +kernel
theorem dX8_cellTold_50 : decode cX8_cellTold 50 = .ok (.aload_n 0, 1) := by decide +kernel
theorem dX8_cellTold_51 : decode cX8_cellTold 51 = .ok (.getfield 19, 3) := by decide +kernel
theorem dX8_cellTold_54 : decode cX8_cellTold 54 = .ok (.iload_n 1, 1) := by decide +kernel
theorem dX8_cellTold_55 : decode cX8_cellTold 55 = .ok (.iaload, 1) := by decide +kernel
theorem dX8_cellTold_56 : decode cX8_cellTold 56 = .ok (.ireturn, 1) := by decide +kernel
theorem dX8_cellTold_57 : decode cX8_cellTold 57 = .ok (.bipush (-7), 2) := by decide +kernel
theorem dX8_cellTold_59 : decode cX8_cellTold 59 = .ok (.ireturn, 1) := by decide +kernel
set_option maxRecDepth 20000 in
theorem ggX8_tree_X8_isCell : GoodIn wsX8_tree wsX8_isCell := goodIn_r _ [8, 9, 10, 7, 11] (by decide +kernel) (by decide +kernel)
set_option maxRecDepth 20000 in
theorem gX8_tree_X8_isCell : GoodIn wsX8_tree (va_wsS RX8 223 yX8_isCell wsX8_isCell) := goodIn_app (goodIn_of _ (by decide +kernel)) ggX8_tree_X8_isCell
set_option maxRecDepth 20000 in
theorem ggX8_tree_X8_within : GoodIn wsX8_tree wsX8_within := goodIn_r _ [11] (by decide +kernel) (by decide +kernel)
set_option maxRecDepth 20000 in
theorem gX8_tree_X8_within : GoodIn wsX8_tree (va_wsS RX8 108 yX8_within wsX8_within) := goodIn_app (goodIn_of _ (by decide +kernel)) ggX8_tree_X8_within
theorem dX8_tree_0 : decode cX8_tree 0 = .ok (.iload_n 1, 1) := by decide +kernel
theorem dX8_tree_1 : decode cX8_tree 1 = .ok (.invokestatic 223, 3) := by decide +kernel
theorem dX8_tree_4 : decode cX8_tree 4 = .ok (.ifCond .eq 24, 3) := by decide +kernel
theorem dX8_tree_7 : decode cX8_tree 7 = .ok (.iload_n 2, 1) := by decide +kernel
theorem dX8_tree_8 : decode cX8_tree 8 = .ok (.iconst 0, 1) := by decide +kernel
theorem dX8_tree_9 : decode cX8_tree 9 = .ok (.bipush 9, 2) := by decide +kernel
theorem dX8_tree_11 : decode cX8_tree 11 = .ok (.invokestatic 108, 3) := by decide +kernel
theorem dX8_tree_14 : decode cX8_tree 14 = .ok (.ifCond .eq 14, 3) := by decide +kernel
theorem dX8_tree_17 : decode cX8_tree 17 = .ok (.iload_n 3, 1) := by decide +kernel
theorem dX8_tree_18 : decode cX8_tree 18 = .ok (.iconst 0, 1) := by decide +kernel
theorem dX8_tree_19 : decode cX8_tree 19 = .ok (.sipush 999, 3) := by decide +kernel
theorem dX8_tree_22 : decode cX8_tree 22 = .ok (.invokestatic 108, 3) := by decide +kernel
theorem dX8_tree_25 : decode cX8_tree 25 = .ok (.ifCond .ne 6, 3) := by decide +kernel
theorem dX8_tree_28 : decode cX8_tree 28 = .ok (.bipush (-2), 2) := by decide +kernel
theorem dX8_tree_30 : decode cX8_tree 30 = .ok (.ireturn, 1) := by decide +kernel
theorem dX8_tree_31 : decode cX8_tree 31 = .ok (.aload_n 0, 1) := by decide +kernel
theorem dX8_tree_32 : decode cX8_tree 32 = .ok (.getfield 112, 3) := by decide +kernel
theorem dX8_tree_35 : decode cX8_tree 35 = .ok (.iconst 4, 1) := by decide +kernel
theorem dX8_tree_36 : decode cX8_tree 36 = .ok (.if_icmp .ne 6, 3) := by decide +kernel
theorem dX8_tree_39 : decode cX8_tree 39 = .ok (.bipush (-4), 2) := by decide +kernel
theorem dX8_tree_41 : decode cX8_tree 41 = .ok (.ireturn, 1) := by decide +kernel
theorem dX8_tree_42 : decode cX8_tree 42 = .ok (.aload_n 0, 1) := by decide +kernel
theorem dX8_tree_43 : decode cX8_tree 43 = .ok (.getfield 22, 3) := by decide +kernel
theorem dX8_tree_46 : decode cX8_tree 46 = .ok (.aload_n 0, 1) := by decide +kernel
theorem dX8_tree_47 : decode cX8_tree 47 = .ok (.getfield 112, 3) := by decide +kernel
theorem dX8_tree_50 : decode cX8_tree 50 = .ok (.iload_n 1, 1) := by decide +kernel
theorem dX8_tree_51 : decode cX8_tree 51 = .ok (.iastore, 1) := by decide +kernel
theorem dX8_tree_52 : decode cX8_tree 52 = .ok (.aload_n 0, 1) := by decide +kernel
theorem dX8_tree_53 : decode cX8_tree 53 = .ok (.getfield 25, 3) := by decide +kernel
theorem dX8_tree_56 : decode cX8_tree 56 = .ok (.aload_n 0, 1) := by decide +kernel
theorem dX8_tree_57 : decode cX8_tree 57 = .ok (.getfield 112, 3) := by decide +kernel
theorem dX8_tree_60 : decode cX8_tree 60 = .ok (.iload_n 2, 1) := by decide +kernel
theorem dX8_tree_61 : decode cX8_tree 61 = .ok (.iastore, 1) := by decide +kernel
theorem dX8_tree_62 : decode cX8_tree 62 = .ok (.aload_n 0, 1) := by decide +kernel
theorem dX8_tree_63 : decode cX8_tree 63 = .ok (.getfield 28, 3) := by decide +kernel
theorem dX8_tree_66 : decode cX8_tree 66 = .ok (.aload_n 0, 1) := by decide +kernel
theorem dX8_tree_67 : decode cX8_tree 67 = .ok (.getfield 112, 3) := by decide +kernel
theorem dX8_tree_70 : decode cX8_tree 70 = .ok (.iload_n 3, 1) := by decide +kernel
theorem dX8_tree_71 : decode cX8_tree 71 = .ok (.iastore, 1) := by decide +kernel
theorem dX8_tree_72 : decode cX8_tree 72 = .ok (.aload_n 0, 1) := by decide +kernel
theorem dX8_tree_73 : decode cX8_tree 73 = .ok (.dup, 1) := by decide +kernel
theorem dX8_tree_74 : decode cX8_tree 74 = .ok (.getfield 112, 3) := by decide +kernel
theorem dX8_tree_77 : decode cX8_tree 77 = .ok (.dup_x1, 1) := by decide +kernel
theorem dX8_tree_78 : decode cX8_tree 78 = .ok (.iconst 1, 1) := by decide +kernel
theorem dX8_tree_79 : decode cX8_tree 79 = .ok (.iadd, 1) := by decide +kernel
theorem dX8_tree_80 : decode cX8_tree 80 = .ok (.putfield 112, 3) := by decide +kernel
theorem dX8_tree_83 : decode cX8_tree 83 = .ok (.ireturn, 1) := by decide +kernel
set_option maxRecDepth 20000 in
theorem ggX8_treeTold_X8_isTree : GoodIn wsX8_treeTold wsX8_isTree := goodIn_r _ [8, 9, 10, 11, 7, 12, 13, 14, 15, 16, 17, 18, 19, 20, 21, 22, 23, 24, 25, 26, 27, 28, 29, 30, 31, 32, 33, 34, 35, 36, 37, 38, 39, 40, 41, 42, 43, 44, 45, 46, 47, 48, 49, 50, 51, 52, 53, 54, 55, 56, 57, 58, 59] (by decide +kernel) (by decide +kernel)
set_option maxRecDepth 20000 in
theorem gX8_treeTold_X8_isTree : GoodIn wsX8_treeTold (wsV RX8 230 RX8 yX8_isTree wsX8_isTree) := goodIn_app (goodIn_of _ (by decide +kernel)) ggX8_treeTold_X8_isTree
theorem dX8_treeTold_0 : decode cX8_treeTold 0 = .ok (.aload_n 0, 1) := by decide +kernel
theorem dX8_treeTold_1 : decode cX8_treeTold 1 = .ok (.iload_n 1, 1) := by decide +kernel
theorem dX8_treeTold_2 : decode cX8_treeTold 2 = .ok (.invokevirtual 230, 3) := by decide +kernel
theorem dX8_treeTold_5 : decode cX8_treeTold 5 = .ok (.ifCond .ne 6, 3) := by decide +kernel
theorem dX8_treeTold_8 : decode cX8_treeTold 8 = .ok (.bipush (-5), 2) := by decide +kernel
theorem dX8_treeTold_10 : decode cX8_treeTold 10 = .ok (.ireturn, 1) := by decide +kernel
theorem dX8_treeTold_11 : decode cX8_treeTold 11 = .ok (.iload_n 2, 1) := by decide +kernel
theorem dX8_treeTold_12 : decode cX8_treeTold 12 = .ok (.tableswitch 49 0 2 #[28, 35, 42], 28) := by decide +kernel
theorem dX8_treeTold_40 : decode cX8_treeTold 40 = .ok (.aload_n 0, 1) := by decide +kernel
theorem dX8_treeTold_41 : decode cX8_treeTold 41 = .ok (.getfield 22, 3) := by decide +kernel
theorem dX8_treeTold_44 : decode cX8_treeTold 44 = .ok (.iload_n 1, 1) := by decide +kernel
theorem dX8_treeTold_45 : decode cX8_treeTold 45 = .ok (.iaload, 1) := by decide +kernel
theorem dX8_treeTold_46 : decode cX8_treeTold 46 = .ok (.ireturn, 1) := by decide +kernel
theorem dX8_treeTold_47 : decode cX8_treeTold 47 = .ok (.aload_n 0, 1) := by decide +kernel
theorem dX8_treeTold_48 : decode cX8_treeTold 48 = .ok (.getfield 25, 3) := by decide +kernel
theorem dX8_treeTold_51 : decode cX8_treeTold 51 = .ok (.iload_n 1, 1) := by decide +kernel
theorem dX8_treeTold_52 : decode cX8_treeTold 52 = .ok (.iaload, 1) := by decide +kernel
theorem dX8_treeTold_53 : decode cX8_treeTold 53 = .ok (.ireturn, 1) := by decide +kernel
theorem dX8_treeTold_54 : decode cX8_treeTold 54 = .ok (.aload_n 0, 1) := by decide +kernel
theorem dX8_treeTold_55 : decode cX8_treeTold 55 = .ok (.getfield 28, 3) := by decide +kernel
theorem dX8_treeTold_58 : decode cX8_treeTold 58 = .ok (.iload_n 1, 1) := by decide +kernel
theorem dX8_treeTold_59 : decode cX8_treeTold 59 = .ok (.iaload, 1) := by decide +kernel
theorem dX8_treeTold_60 : decode cX8_treeTold 60 = .ok (.ireturn, 1) := by decide +kernel
theorem dX8_treeTold_61 : decode cX8_treeTold 61 = .ok (.bipush (-7), 2) := by decide +kernel
theorem dX8_treeTold_63 : decode cX8_treeTold 63 = .ok (.ireturn, 1) := by decide +kernel
theorem dX8_fell_0 : decode cX8_fell 0 = .ok (.aload_n 0, 1) := by decide +kernel
theorem dX8_fell_1 : decode cX8_fell 1 = .ok (.getfield 112, 3) := by decide +kernel
theorem dX8_fell_4 : decode cX8_fell 4 = .ok (.ifCond .ne 6, 3) := by decide +kernel
theorem dX8_fell_7 : decode cX8_fell 7 = .ok (.bipush (-3), 2) := by decide +kernel
theorem dX8_fell_9 : decode cX8_fell 9 = .ok (.ireturn, 1) := by decide +kernel
theorem dX8_fell_10 : decode cX8_fell 10 = .ok (.aload_n 0, 1) := by decide +kernel
theorem dX8_fell_11 : decode cX8_fell 11 = .ok (.getfield 233, 3) := by decide +kernel
theorem dX8_fell_14 : decode cX8_fell 14 = .ok (.aload_n 0, 1) := by decide +kernel
theorem dX8_fell_15 : decode cX8_fell 15 = .ok (.getfield 112, 3) := by decide +kernel
theorem dX8_fell_18 : decode cX8_fell 18 = .ok (.if_icmp .lt 8, 3) := by decide +kernel
theorem dX8_fell_21 : decode cX8_fell 21 = .ok (.aload_n 0, 1) := by decide +kernel
theorem dX8_fell_22 : decode cX8_fell 22 = .ok (.iconst 0, 1) := by decide +kernel
theorem dX8_fell_23 : decode cX8_fell 23 = .ok (.putfield 236, 3) := by decide +kernel
theorem dX8_fell_26 : decode cX8_fell 26 = .ok (.aload_n 0, 1) := by decide +kernel
theorem dX8_fell_27 : decode cX8_fell 27 = .ok (.dup, 1) := by decide +kernel
theorem dX8_fell_28 : decode cX8_fell 28 = .ok (.getfield 112, 3) := by decide +kernel
theorem dX8_fell_31 : decode cX8_fell 31 = .ok (.iconst 1, 1) := by decide +kernel
theorem dX8_fell_32 : decode cX8_fell 32 = .ok (.isub, 1) := by decide +kernel
theorem dX8_fell_33 : decode cX8_fell 33 = .ok (.dup_x1, 1) := by decide +kernel
theorem dX8_fell_34 : decode cX8_fell 34 = .ok (.putfield 112, 3) := by decide +kernel
theorem dX8_fell_37 : decode cX8_fell 37 = .ok (.ireturn, 1) := by decide +kernel
set_option maxRecDepth 20000 in
theorem ggX8_strew_X8_isCell : GoodIn wsX8_strew wsX8_isCell := goodIn_r _ [5, 6, 7, 4, 8] (by decide +kernel) (by decide +kernel)
set_option maxRecDepth 20000 in
theorem gX8_strew_X8_isCell : GoodIn wsX8_strew (va_wsS RX8 223 yX8_isCell wsX8_isCell) := goodIn_app (goodIn_of _ (by decide +kernel)) ggX8_strew_X8_isCell
set_option maxRecDepth 20000 in
theorem ggX8_strew_X8_within : GoodIn wsX8_strew wsX8_within := goodIn_r _ [8] (by decide +kernel) (by decide +kernel)
set_option maxRecDepth 20000 in
theorem gX8_strew_X8_within : GoodIn wsX8_strew (va_wsS RX8 108 yX8_within wsX8_within) := goodIn_app (goodIn_of _ (by decide +kernel)) ggX8_strew_X8_within
theorem dX8_strew_0 : decode cX8_strew 0 = .ok (.iload_n 1, 1) := by decide +kernel
theorem dX8_strew_1 : decode cX8_strew 1 = .ok (.invokestatic 223, 3) := by decide +kernel
theorem dX8_strew_4 : decode cX8_strew 4 = .ok (.ifCond .ne 6, 3) := by decide +kernel
theorem dX8_strew_7 : decode cX8_strew 7 = .ok (.bipush (-5), 2) := by decide +kernel
theorem dX8_strew_9 : decode cX8_strew 9 = .ok (.ireturn, 1) := by decide +kernel
theorem dX8_strew_10 : decode cX8_strew 10 = .ok (.iload_n 2, 1) := by decide +kernel
theorem dX8_strew_11 : decode cX8_strew 11 = .ok (.iconst 0, 1) := by decide +kernel
theorem dX8_strew_12 : decode cX8_strew 12 = .ok (.sipush 999, 3) := by decide +kernel
theorem dX8_strew_15 : decode cX8_strew 15 = .ok (.invokestatic 108, 3) := by decide +kernel
theorem dX8_strew_18 : decode cX8_strew 18 = .ok (.ifCond .ne 6, 3) := by decide +kernel
theorem dX8_strew_21 : decode cX8_strew 21 = .ok (.bipush (-7), 2) := by decide +kernel
theorem dX8_strew_23 : decode cX8_strew 23 = .ok (.ireturn, 1) := by decide +kernel
theorem dX8_strew_24 : decode cX8_strew 24 = .ok (.aload_n 0, 1) := by decide +kernel
theorem dX8_strew_25 : decode cX8_strew 25 = .ok (.getfield 19, 3) := by decide +kernel
theorem dX8_strew_28 : decode cX8_strew 28 = .ok (.iload_n 1, 1) := by decide +kernel
theorem dX8_strew_29 : decode cX8_strew 29 = .ok (.iaload, 1) := by decide +kernel
theorem dX8_strew_30 : decode cX8_strew 30 = .ok (.istore_n 3, 1) := by decide +kernel
theorem dX8_strew_31 : decode cX8_strew 31 = .ok (.aload_n 0, 1) := by decide +kernel
theorem dX8_strew_32 : decode cX8_strew 32 = .ok (.getfield 19, 3) := by decide +kernel
theorem dX8_strew_35 : decode cX8_strew 35 = .ok (.iload_n 1, 1) := by decide +kernel
theorem dX8_strew_36 : decode cX8_strew 36 = .ok (.iload_n 2, 1) := by decide +kernel
theorem dX8_strew_37 : decode cX8_strew 37 = .ok (.iastore, 1) := by decide +kernel
theorem dX8_strew_38 : decode cX8_strew 38 = .ok (.iload_n 3, 1) := by decide +kernel
theorem dX8_strew_39 : decode cX8_strew 39 = .ok (.ireturn, 1) := by decide +kernel
set_option maxRecDepth 20000 in
theorem ggX8_rake_X8_within : GoodIn wsX8_rake wsX8_within := goodIn_r _ [5] (by decide +kernel) (by decide +kernel)
set_option maxRecDepth 20000 in
theorem gX8_rake_X8_within : GoodIn wsX8_rake (va_wsS RX8 108 yX8_within wsX8_within) := goodIn_app (goodIn_of _ (by decide +kernel)) ggX8_rake_X8_within
theorem dX8_rake_0 : decode cX8_rake 0 = .ok (.iload_n 1, 1) := by decide +kernel
theorem dX8_rake_1 : decode cX8_rake 1 = .ok (.iconst 0, 1) := by decide +kernel
theorem dX8_rake_2 : decode cX8_rake 2 = .ok (.sipush 16383, 3) := by decide +kernel
theorem dX8_rake_5 : decode cX8_rake 5 = .ok (.invokestatic 108, 3) := by decide +kernel
theorem dX8_rake_8 : decode cX8_rake 8 = .ok (.ifCond .ne 6, 3) := by decide +kernel
theorem dX8_rake_11 : decode cX8_rake 11 = .ok (.bipush (-2), 2) := by decide +kernel
theorem dX8_rake_13 : decode cX8_rake 13 = .ok (.ireturn, 1) := by decide +kernel
theorem dX8_rake_14 : decode cX8_rake 14 = .ok (.aload_n 0, 1) := by decide +kernel
theorem dX8_rake_15 : decode cX8_rake 15 = .ok (.getfield 115, 3) := by decide +kernel
theorem dX8_rake_18 : decode cX8_rake 18 = .ok (.istore_n 2, 1) := by decide +kernel
theorem dX8_rake_19 : decode cX8_rake 19 = .ok (.aload_n 0, 1) := by decide +kernel
theorem dX8_rake_20 : decode cX8_rake 20 = .ok (.iload_n 1, 1) := by decide +kernel
theorem dX8_rake_21 : decode cX8_rake 21 = .ok (.putfield 115, 3) := by decide +kernel
theorem dX8_rake_24 : decode cX8_rake 24 = .ok (.iload_n 2, 1) := by decide +kernel
theorem dX8_rake_25 : decode cX8_rake 25 = .ok (.ireturn, 1) := by decide +kernel
theorem dX8_heap_0 : decode cX8_heap 0 = .ok (.lload_n 1, 1) := by decide +kernel
theorem dX8_heap_1 : decode cX8_heap 1 = .ok (.lconst 1, 1) := by decide +kernel
theorem dX8_heap_2 : decode cX8_heap 2 = .ok (.lcmp, 1) := by decide +kernel
theorem dX8_heap_3 : decode cX8_heap 3 = .ok (.ifCond .lt 11, 3) := by decide +kernel
theorem dX8_heap_6 : decode cX8_heap 6 = .ok (.lload_n 1, 1) := by decide +kernel
theorem dX8_heap_7 : decode cX8_heap 7 = .ok (.ldc2_w 240, 3) := by decide +kernel
theorem dX8_heap_10 : decode cX8_heap 10 = .ok (.lcmp, 1) := by decide +kernel
theorem dX8_heap_11 : decode cX8_heap 11 = .ok (.ifCond .lt 7, 3) := by decide +kernel
theorem dX8_heap_14 : decode cX8_heap 14 = .ok (.ldc2_w 242, 3) := by decide +kernel
theorem dX8_heap_17 : decode cX8_heap 17 = .ok (.lreturn, 1) := by decide +kernel
theorem dX8_heap_18 : decode cX8_heap 18 = .ok (.aload_n 0, 1) := by decide +kernel
theorem dX8_heap_19 : decode cX8_heap 19 = .ok (.getfield 85, 3) := by decide +kernel
theorem dX8_heap_22 : decode cX8_heap 22 = .ok (.lstore_n 3, 1) := by decide +kernel
theorem dX8_heap_23 : decode cX8_heap 23 = .ok (.aload_n 0, 1) := by decide +kernel
theorem dX8_heap_24 : decode cX8_heap 24 = .ok (.lload_n 1, 1) := by decide +kernel
theorem dX8_heap_25 : decode cX8_heap 25 = .ok (.putfield 85, 3) := by decide +kernel
theorem dX8_heap_28 : decode cX8_heap 28 = .ok (.lload_n 3, 1) := by decide +kernel
theorem dX8_heap_29 : decode cX8_heap 29 = .ok (.lreturn, 1) := by decide +kernel
theorem dX8_goesOff_0 : decode cX8_goesOff 0 = .ok (.aload_n 0, 1) := by decide +kernel
theorem dX8_goesOff_1 : decode cX8_goesOff 1 = .ok (.getfield 13, 3) := by decide +kernel
theorem dX8_goesOff_4 : decode cX8_goesOff 4 = .ok (.iload_n 1, 1) := by decide +kernel
theorem dX8_goesOff_5 : decode cX8_goesOff 5 = .ok (.iaload, 1) := by decide +kernel
theorem dX8_goesOff_6 : decode cX8_goesOff 6 = .ok (.tableswitch 60 1 4 #[30, 60, 34, 47], 30) := by decide +kernel
theorem dX8_goesOff_36 : decode cX8_goesOff 36 = .ok (.iload_n 2, 1) := by decide +kernel
theorem dX8_goesOff_37 : decode cX8_goesOff 37 = .ok (.iconst 2, 1) := by decide +kernel
theorem dX8_goesOff_38 : decode cX8_goesOff 38 = .ok (.idiv, 1) := by decide +kernel
theorem dX8_goesOff_39 : decode cX8_goesOff 39 = .ok (.ireturn, 1) := by decide +kernel
theorem dX8_goesOff_40 : decode cX8_goesOff 40 = .ok (.iload_n 2, 1) := by decide +kernel
theorem dX8_goesOff_41 : decode cX8_goesOff 41 = .ok (.iconst 2, 1) := by decide +kernel
theorem dX8_goesOff_42 : decode cX8_goesOff 42 = .ok (.idiv, 1) := by decide +kernel
theorem dX8_goesOff_43 : decode cX8_goesOff 43 = .ok (.aload_n 0, 1) := by decide +kernel
theorem dX8_goesOff_44 : decode cX8_goesOff 44 = .ok (.getfield 16, 3) := by decide +kernel
theorem dX8_goesOff_47 : decode cX8_goesOff 47 = .ok (.iload_n 1, 1) := by decide +kernel
theorem dX8_goesOff_48 : decode cX8_goesOff 48 = .ok (.iaload, 1) := by decide +kernel
theorem dX8_goesOff_49 : decode cX8_goesOff 49 = .ok (.invokestatic 210, 3) := by decide +kernel
theorem dX8_goesOff_52 : decode cX8_goesOff 52 = .ok (.ireturn, 1) := by decide +kernel
theorem dX8_goesOff_53 : decode cX8_goesOff 53 = .ok (.iconst 0, 1) := by decide +kernel
theorem dX8_goesOff_54 : decode cX8_goesOff 54 = .ok (.iload_n 2, 1) := by decide +kernel
theorem dX8_goesOff_55 : decode cX8_goesOff 55 = .ok (.aload_n 0, 1) := by decide +kernel
theorem dX8_goesOff_56 : decode cX8_goesOff 56 = .ok (.getfield 16, 3) := by decide +kernel
theorem dX8_goesOff_59 : decode cX8_goesOff 59 = .ok (.iload_n 1, 1) := by decide +kernel
theorem dX8_goesOff_60 : decode cX8_goesOff 60 = .ok (.iaload, 1) := by decide +kernel
theorem dX8_goesOff_61 : decode cX8_goesOff 61 = .ok (.isub, 1) := by decide +kernel
theorem dX8_goesOff_62 : decode cX8_goesOff 62 = .ok (.invokestatic 216, 3) := by decide +kernel
theorem dX8_goesOff_65 : decode cX8_goesOff 65 = .ok (.ireturn, 1) := by decide +kernel
theorem dX8_goesOff_66 : decode cX8_goesOff 66 = .ok (.iload_n 2, 1) := by decide +kernel
theorem dX8_goesOff_67 : decode cX8_goesOff 67 = .ok (.ireturn, 1) := by decide +kernel
theorem dX8_comes_0 : decode cX8_comes 0 = .ok (.aload_n 0, 1) := by decide +kernel
theorem dX8_comes_1 : decode cX8_comes 1 = .ok (.getfield 13, 3) := by decide +kernel
theorem dX8_comes_4 : decode cX8_comes 4 = .ok (.iload_n 1, 1) := by decide +kernel
theorem dX8_comes_5 : decode cX8_comes 5 = .ok (.iaload, 1) := by decide +kernel
theorem dX8_comes_6 : decode cX8_comes 6 = .ok (.iconst 2, 1) := by decide +kernel
theorem dX8_comes_7 : decode cX8_comes 7 = .ok (.if_icmp .ne 7, 3) := by decide +kernel
theorem dX8_comes_10 : decode cX8_comes 10 = .ok (.iconst 0, 1) := by decide +kernel
theorem dX8_comes_11 : decode cX8_comes 11 = .ok (.goto 27, 3) := by decide +kernel
theorem dX8_comes_14 : decode cX8_comes 14 = .ok (.aload_n 0, 1) := by decide +kernel
theorem dX8_comes_15 : decode cX8_comes 15 = .ok (.getfield 13, 3) := by decide +kernel
theorem dX8_comes_18 : decode cX8_comes 18 = .ok (.iload_n 1, 1) := by decide +kernel
theorem dX8_comes_19 : decode cX8_comes 19 = .ok (.iaload, 1) := by decide +kernel
theorem dX8_comes_20 : decode cX8_comes 20 = .ok (.iconst 5, 1) := by decide +kernel
theorem dX8_comes_21 : decode cX8_comes 21 = .ok (.if_icmp .ne 16, 3) := by decide +kernel
theorem dX8_comes_24 : decode cX8_comes 24 = .ok (.iload_n 2, 1) := by decide +kernel
theorem dX8_comes_25 : decode cX8_comes 25 = .ok (.aload_n 0, 1) := by decide +kernel
theorem dX8_comes_26 : decode cX8_comes 26 = .ok (.getfield 16, 3) := by decide +kernel
theorem dX8_comes_29 : decode cX8_comes 29 = .ok (.iload_n 1, 1) := by decide +kernel
theorem dX8_comes_30 : decode cX8_comes 30 = .ok (.iaload, 1) := by decide +kernel
theorem dX8_comes_31 : decode cX8_comes 31 = .ok (.invokestatic 210, 3) := by decide +kernel
theorem dX8_comes_34 : decode cX8_comes 34 = .ok (.goto 4, 3) := by decide +kernel
theorem dX8_comes_37 : decode cX8_comes 37 = .ok (.iload_n 2, 1) := by decide +kernel
theorem dX8_comes_38 : decode cX8_comes 38 = .ok (.ireturn, 1) := by decide +kernel
theorem dX8_on_0 : decode cX8_on 0 = .ok (.iload_n 1, 1) := by decide +kernel
theorem dX8_on_1 : decode cX8_on 1 = .ok (.tableswitch 72 0 2 #[27, 42, 58], 27) := by decide +kernel
theorem dX8_on_28 : decode cX8_on 28 = .ok (.iload_n 0, 1) := by decide +kernel
theorem dX8_on_29 : decode cX8_on 29 = .ok (.bipush 30, 2) := by decide +kernel
theorem dX8_on_31 : decode cX8_on 31 = .ok (.if_icmp .ge 10, 3) := by decide +kernel
theorem dX8_on_34 : decode cX8_on 34 = .ok (.iload_n 0, 1) := by decide +kernel
theorem dX8_on_35 : decode cX8_on 35 = .ok (.bipush 6, 2) := by decide +kernel
theorem dX8_on_37 : decode cX8_on 37 = .ok (.iadd, 1) := by decide +kernel
theorem dX8_on_38 : decode cX8_on 38 = .ok (.goto 4, 3) := by decide +kernel
theorem dX8_on_41 : decode cX8_on 41 = .ok (.iconst (-1), 1) := by decide +kernel
theorem dX8_on_42 : decode cX8_on 42 = .ok (.ireturn, 1) := by decide +kernel
theorem dX8_on_43 : decode cX8_on 43 = .ok (.iload_n 0, 1) := by decide +kernel
theorem dX8_on_44 : decode cX8_on 44 = .ok (.bipush 6, 2) := by decide +kernel
theorem dX8_on_46 : decode cX8_on 46 = .ok (.irem, 1) := by decide +kernel
theorem dX8_on_47 : decode cX8_on 47 = .ok (.iconst 5, 1) := by decide +kernel
theorem dX8_on_48 : decode cX8_on 48 = .ok (.if_icmp .ge 9, 3) := by decide +kernel
theorem dX8_on_51 : decode cX8_on 51 = .ok (.iload_n 0, 1) := by decide +kernel
theorem dX8_on_52 : decode cX8_on 52 = .ok (.iconst 1, 1) := by decide +kernel
theorem dX8_on_53 : decode cX8_on 53 = .ok (.iadd, 1) := by decide +kernel
theorem dX8_on_54 : decode cX8_on 54 = .ok (.goto 4, 3) := by decide +kernel
theorem dX8_on_57 : decode cX8_on 57 = .ok (.iconst (-1), 1) := by decide +kernel
theorem dX8_on_58 : decode cX8_on 58 = .ok (.ireturn, 1) := by decide +kernel
theorem dX8_on_59 : decode cX8_on 59 = .ok (.iload_n 0, 1) := by decide +kernel
theorem dX8_on_60 : decode cX8_on 60 = .ok (.iconst 5, 1) := by decide +kernel
theorem dX8_on_61 : decode cX8_on 61 = .ok (.if_icmp .le 10, 3) := by decide +kernel
theorem dX8_on_64 : decode cX8_on 64 = .ok (.iload_n 0, 1) := by decide +kernel
theorem dX8_on_65 : decode cX8_on 65 = .ok (.bipush 6, 2) := by decide +kernel
theorem dX8_on_67 : decode cX8_on 67 = .ok (.isub, 1) := by decide +kernel
theorem dX8_on_68 : decode cX8_on 68 = .ok (.goto 4, 3) := by decide +kernel
theorem dX8_on_71 : decode cX8_on 71 = .ok (.iconst (-1), 1) := by decide +kernel
theorem dX8_on_72 : decode cX8_on 72 = .ok (.ireturn, 1) := by decide +kernel
theorem dX8_on_73 : decode cX8_on 73 = .ok (.iload_n 0, 1) := by decide +kernel
theorem dX8_on_74 : decode cX8_on 74 = .ok (.bipush 6, 2) := by decide +kernel
theorem dX8_on_76 : decode cX8_on 76 = .ok (.irem, 1) := by decide +kernel
theorem dX8_on_77 : decode cX8_on 77 = .ok (.ifCond .le 9, 3) := by decide +kernel
theorem dX8_on_80 : decode cX8_on 80 = .ok (.iload_n 0, 1) := by decide +kernel
theorem dX8_on_81 : decode cX8_on 81 = .ok (.iconst 1, 1) := by decide +kernel
theorem dX8_on_82 : decode cX8_on 82 = .ok (.isub, 1) := by decide +kernel
theorem dX8_on_83 : decode cX8_on 83 = .ok (.goto 4, 3) := by decide +kernel
theorem dX8_on_86 : decode cX8_on 86 = .ok (.iconst (-1), 1) := by decide +kernel
theorem dX8_on_87 : decode cX8_on 87 = .ok (.ireturn, 1) := by decide +kernel
set_option maxRecDepth 20000 in
theorem ggX8_blow_X8_worth : GoodIn wsX8_blow wsX8_worth := goodIn_r _ [10, 11, 12, 13, 14, 15, 16, 17, 18, 19, 20, 21, 35, 36, 37, 38, 39, 40, 41, 42, 43, 44, 45, 46, 47, 48, 49, 50, 51, 52, 53, 54, 55, 56, 57, 58, 59, 60, 61, 62, 63, 64, 65, 66, 67, 68, 69, 70, 71, 72, 73, 74, 75, 76, 77, 78, 79, 80, 81] (by decide +kernel) (by decide +kernel)
set_option maxRecDepth 20000 in
theorem gX8_blow_X8_worth : GoodIn wsX8_blow (wsV RX8 219 RX8 yX8_worth wsX8_worth) := goodIn_app (goodIn_of _ (by decide +kernel)) ggX8_blow_X8_worth
set_option maxRecDepth 20000 in
theorem ggX8_blow_X8_goesOff : GoodIn wsX8_blow wsX8_goesOff := goodIn_r _ [25, 26, 27, 15, 16, 17, 18, 19, 20, 21, 35, 36, 37, 38, 39, 40, 41, 42, 43, 44, 45, 46, 47, 48, 49, 50, 51, 52, 53, 54, 55, 56, 57, 58, 59, 60, 61, 62, 63, 64, 65, 66, 67, 68, 69, 70, 71, 72, 73, 74, 75, 76, 77, 78, 79, 80, 81] (by decide +kernel) (by decide +kernel)
set_option maxRecDepth 20000 in
theorem gX8_blow_X8_goesOff : GoodIn wsX8_blow (wsV RX8 244 RX8 yX8_goesOff wsX8_goesOff) := goodIn_app (goodIn_of _ (by decide +kernel)) ggX8_blow_X8_goesOff
set_option maxRecDepth 20000 in
theorem ggX8_blow_X8_on : GoodIn wsX8_blow wsX8_on := goodIn_r _ [30] (by decide +kernel) (by decide +kernel)
set_option maxRecDepth 20000 in
theorem gX8_blow_X8_on : GoodIn wsX8_blow (va_wsS RX8 247 yX8_on wsX8_on) := goodIn_app (goodIn_of _ (by decide +kernel)) ggX8_blow_X8_on
set_option maxRecDepth 20000 in
theorem ggX8_blow_X8_comes : GoodIn wsX8_blow wsX8_comes := goodIn_r _ [34, 26, 27, 15, 16, 17, 18, 35, 36, 37, 38, 39, 40, 41, 42, 43, 44, 45, 46, 47, 48, 49, 50, 51, 52, 53, 54, 55, 56, 57, 58, 59, 60, 61, 62, 63, 64, 65, 66, 67, 68, 69, 70, 71, 72, 73, 74, 75, 76, 77, 78, 79, 80, 81] (by decide +kernel) (by decide +kernel)
set_option maxRecDepth 20000 in
theorem gX8_blow_X8_comes : GoodIn wsX8_blow (wsV RX8 250 RX8 yX8_comes wsX8_comes) := goodIn_app (goodIn_of _ (by decide +kernel)) ggX8_blow_X8_comes
theorem dX8_blow_0 : decode cX8_blow 0 = .ok (.iconst 0, 1) := by decide +kernel
theorem dX8_blow_1 : decode cX8_blow 1 = .ok (.istore 4, 2) := by decide +kernel
theorem dX8_blow_3 : decode cX8_blow 3 = .ok (.iload 4, 2) := by decide +kernel
theorem dX8_blow_5 : decode cX8_blow 5 = .ok (.bipush 36, 2) := by decide +kernel
theorem dX8_blow_7 : decode cX8_blow 7 = .ok (.if_icmp .ge 182, 3) := by decide +kernel
theorem dX8_blow_10 : decode cX8_blow 10 = .ok (.aload_n 0, 1) := by decide +kernel
theorem dX8_blow_11 : decode cX8_blow 11 = .ok (.getfield 43, 3) := by decide +kernel
theorem dX8_blow_14 : decode cX8_blow 14 = .ok (.iload 4, 2) := by decide +kernel
theorem dX8_blow_16 : decode cX8_blow 16 = .ok (.iaload, 1) := by decide +kernel
theorem dX8_blow_17 : decode cX8_blow 17 = .ok (.aload_n 0, 1) := by decide +kernel
theorem dX8_blow_18 : decode cX8_blow 18 = .ok (.getfield 46, 3) := by decide +kernel
theorem dX8_blow_21 : decode cX8_blow 21 = .ok (.iload 4, 2) := by decide +kernel
theorem dX8_blow_23 : decode cX8_blow 23 = .ok (.iaload, 1) := by decide +kernel
theorem dX8_blow_24 : decode cX8_blow 24 = .ok (.iadd, 1) := by decide +kernel
theorem dX8_blow_25 : decode cX8_blow 25 = .ok (.istore 5, 2) := by decide +kernel
theorem dX8_blow_27 : decode cX8_blow 27 = .ok (.aload_n 0, 1) := by decide +kernel
theorem dX8_blow_28 : decode cX8_blow 28 = .ok (.getfield 58, 3) := by decide +kernel
theorem dX8_blow_31 : decode cX8_blow 31 = .ok (.iload 4, 2) := by decide +kernel
theorem dX8_blow_33 : decode cX8_blow 33 = .ok (.aload_n 0, 1) := by decide +kernel
theorem dX8_blow_34 : decode cX8_blow 34 = .ok (.getfield 43, 3) := by decide +kernel
theorem dX8_blow_37 : decode cX8_blow 37 = .ok (.iload 4, 2) := by decide +kernel
theorem dX8_blow_39 : decode cX8_blow 39 = .ok (.iaload, 1) := by decide +kernel
theorem dX8_blow_40 : decode cX8_blow 40 = .ok (.ifCond .ne 7, 3) := by decide +kernel
theorem dX8_blow_43 : decode cX8_blow 43 = .ok (.iconst 0, 1) := by decide +kernel
theorem dX8_blow_44 : decode cX8_blow 44 = .ok (.goto 32, 3) := by decide +kernel
theorem dX8_blow_47 : decode cX8_blow 47 = .ok (.aload_n 0, 1) := by decide +kernel
theorem dX8_blow_48 : decode cX8_blow 48 = .ok (.iload 4, 2) := by decide +kernel
theorem dX8_blow_50 : decode cX8_blow 50 = .ok (.aload_n 0, 1) := by decide +kernel
theorem dX8_blow_51 : decode cX8_blow 51 = .ok (.getfield 43, 3) := by decide +kernel
theorem dX8_blow_54 : decode cX8_blow 54 = .ok (.iload 4, 2) := by decide +kernel
theorem dX8_blow_56 : decode cX8_blow 56 = .ok (.iaload, 1) := by decide +kernel
theorem dX8_blow_57 : decode cX8_blow 57 = .ok (.aload_n 0, 1) := by decide +kernel
theorem dX8_blow_58 : decode cX8_blow 58 = .ok (.iconst 1, 1) := by decide +kernel
theorem dX8_blow_59 : decode cX8_blow 59 = .ok (.iconst 0, 1) := by decide +kernel
theorem dX8_blow_60 : decode cX8_blow 60 = .ok (.iload_n 2, 1) := by decide +kernel
theorem dX8_blow_61 : decode cX8_blow 61 = .ok (.iload_n 3, 1) := by decide +kernel
theorem dX8_blow_62 : decode cX8_blow 62 = .ok (.iconst 0, 1) := by decide +kernel
theorem dX8_blow_63 : decode cX8_blow 63 = .ok (.iconst 0, 1) := by decide +kernel
theorem dX8_blow_64 : decode cX8_blow 64 = .ok (.iload 5, 2) := by decide +kernel
theorem dX8_blow_66 : decode cX8_blow 66 = .ok (.invokevirtual 219, 3) := by decide +kernel
theorem dX8_blow_69 : decode cX8_blow 69 = .ok (.imul, 1) := by decide +kernel
theorem dX8_blow_70 : decode cX8_blow 70 = .ok (.bipush 100, 2) := by decide +kernel
theorem dX8_blow_72 : decode cX8_blow 72 = .ok (.idiv, 1) := by decide +kernel
theorem dX8_blow_73 : decode cX8_blow 73 = .ok (.invokevirtual 244, 3) := by decide +kernel
theorem dX8_blow_76 : decode cX8_blow 76 = .ok (.iastore, 1) := by decide +kernel
theorem dX8_blow_77 : decode cX8_blow 77 = .ok (.aload_n 0, 1) := by decide +kernel
theorem dX8_blow_78 : decode cX8_blow 78 = .ok (.getfield 61, 3) := by decide +kernel
theorem dX8_blow_81 : decode cX8_blow 81 = .ok (.iload 4, 2) := by decide +kernel
theorem dX8_blow_83 : decode cX8_blow 83 = .ok (.aload_n 0, 1) := by decide +kernel
theorem dX8_blow_84 : decode cX8_blow 84 = .ok (.getfield 46, 3) := by decide +kernel
theorem dX8_blow_87 : decode cX8_blow 87 = .ok (.iload 4, 2) := by decide +kernel
theorem dX8_blow_89 : decode cX8_blow 89 = .ok (.iaload, 1) := by decide +kernel
theorem dX8_blow_90 : decode cX8_blow 90 = .ok (.ifCond .ne 7, 3) := by decide +kernel
theorem dX8_blow_93 : decode cX8_blow 93 = .ok (.iconst 0, 1) := by decide +kernel
theorem dX8_blow_94 : decode cX8_blow 94 = .ok (.goto 32, 3) := by decide +kernel
theorem dX8_blow_97 : decode cX8_blow 97 = .ok (.aload_n 0, 1) := by decide +kernel
theorem dX8_blow_98 : decode cX8_blow 98 = .ok (.iload 4, 2) := by decide +kernel
theorem dX8_blow_100 : decode cX8_blow 100 = .ok (.aload_n 0, 1) := by decide +kernel
theorem dX8_blow_101 : decode cX8_blow 101 = .ok (.getfield 46, 3) := by decide +kernel
theorem dX8_blow_104 : decode cX8_blow 104 = .ok (.iload 4, 2) := by decide +kernel
theorem dX8_blow_106 : decode cX8_blow 106 = .ok (.iaload, 1) := by decide +kernel
theorem dX8_blow_107 : decode cX8_blow 107 = .ok (.aload_n 0, 1) := by decide +kernel
theorem dX8_blow_108 : decode cX8_blow 108 = .ok (.iconst 1, 1) := by decide +kernel
theorem dX8_blow_109 : decode cX8_blow 109 = .ok (.iconst 0, 1) := by decide +kernel
theorem dX8_blow_110 : decode cX8_blow 110 = .ok (.iload_n 2, 1) := by decide +kernel
theorem dX8_blow_111 : decode cX8_blow 111 = .ok (.iload_n 3, 1) := by decide +kernel
theorem dX8_blow_112 : decode cX8_blow 112 = .ok (.iconst 1, 1) := by decide +kernel
theorem dX8_blow_113 : decode cX8_blow 113 = .ok (.iconst 0, 1) := by decide +kernel
theorem dX8_blow_114 : decode cX8_blow 114 = .ok (.iload 5, 2) := by decide +kernel
theorem dX8_blow_116 : decode cX8_blow 116 = .ok (.invokevirtual 219, 3) := by decide +kernel
theorem dX8_blow_119 : decode cX8_blow 119 = .ok (.imul, 1) := by decide +kernel
theorem dX8_blow_120 : decode cX8_blow 120 = .ok (.bipush 100, 2) := by decide +kernel
theorem dX8_blow_122 : decode cX8_blow 122 = .ok (.idiv, 1) := by decide +kernel
theorem dX8_blow_123 : decode cX8_blow 123 = .ok (.invokevirtual 244, 3) := by decide +kernel
theorem dX8_blow_126 : decode cX8_blow 126 = .ok (.iastore, 1) := by decide +kernel
theorem dX8_blow_127 : decode cX8_blow 127 = .ok (.iload 4, 2) := by decide +kernel
theorem dX8_blow_129 : decode cX8_blow 129 = .ok (.iload_n 1, 1) := by decide +kernel
theorem dX8_blow_130 : decode cX8_blow 130 = .ok (.invokestatic 247, 3) := by decide +kernel
theorem dX8_blow_133 : decode cX8_blow 133 = .ok (.istore 6, 2) := by decide +kernel
theorem dX8_blow_135 : decode cX8_blow 135 = .ok (.iload 6, 2) := by decide +kernel
theorem dX8_blow_137 : decode cX8_blow 137 = .ok (.ifCond .ge 6, 3) := by decide +kernel
theorem dX8_blow_140 : decode cX8_blow 140 = .ok (.goto 43, 3) := by decide +kernel
theorem dX8_blow_143 : decode cX8_blow 143 = .ok (.aload_n 0, 1) := by decide +kernel
theorem dX8_blow_144 : decode cX8_blow 144 = .ok (.getfield 58, 3) := by decide +kernel
theorem dX8_blow_147 : decode cX8_blow 147 = .ok (.iload 4, 2) := by decide +kernel
theorem dX8_blow_149 : decode cX8_blow 149 = .ok (.aload_n 0, 1) := by decide +kernel
theorem dX8_blow_150 : decode cX8_blow 150 = .ok (.iload 6, 2) := by decide +kernel
theorem dX8_blow_152 : decode cX8_blow 152 = .ok (.aload_n 0, 1) := by decide +kernel
theorem dX8_blow_153 : decode cX8_blow 153 = .ok (.getfield 58, 3) := by decide +kernel
theorem dX8_blow_156 : decode cX8_blow 156 = .ok (.iload 4, 2) := by decide +kernel
theorem dX8_blow_158 : decode cX8_blow 158 = .ok (.iaload, 1) := by decide +kernel
theorem dX8_blow_159 : decode cX8_blow 159 = .ok (.invokevirtual 250, 3) := by decide +kernel
theorem dX8_blow_162 : decode cX8_blow 162 = .ok (.iastore, 1) := by decide +kernel
theorem dX8_blow_163 : decode cX8_blow 163 = .ok (.aload_n 0, 1) := by decide +kernel
theorem dX8_blow_164 : decode cX8_blow 164 = .ok (.getfield 61, 3) := by decide +kernel
theorem dX8_blow_167 : decode cX8_blow 167 = .ok (.iload 4, 2) := by decide +kernel
theorem dX8_blow_169 : decode cX8_blow 169 = .ok (.aload_n 0, 1) := by decide +kernel
theorem dX8_blow_170 : decode cX8_blow 170 = .ok (.iload 6, 2) := by decide +kernel
theorem dX8_blow_172 : decode cX8_blow 172 = .ok (.aload_n 0, 1) := by decide +kernel
theorem dX8_blow_173 : decode cX8_blow 173 = .ok (.getfield 61, 3) := by decide +kernel
theorem dX8_blow_176 : decode cX8_blow 176 = .ok (.iload 4, 2) := by decide +kernel
theorem dX8_blow_178 : decode cX8_blow 178 = .ok (.iaload, 1) := by decide +kernel
theorem dX8_blow_179 : decode cX8_blow 179 = .ok (.invokevirtual 250, 3) := by decide +kernel
theorem dX8_blow_182 : decode cX8_blow 182 = .ok (.iastore, 1) := by decide +kernel
theorem dX8_blow_183 : decode cX8_blow 183 = .ok (.iinc 4 1, 3) := by decide +kernel
theorem dX8_blow_186 : decode cX8_blow 186 = .ok (.goto (-183), 3) := by decide +kernel
theorem dX8_blow_189 : decode cX8_blow 189 = .ok (.iconst 0, 1) := by decide +kernel
theorem dX8_blow_190 : decode cX8_blow 190 = .ok (.istore 4, 2) := by decide +kernel
theorem dX8_blow_192 : decode cX8_blow 192 = .ok (.iload 4, 2) := by decide +kernel
theorem dX8_blow_194 : decode cX8_blow 194 = .ok (.bipush 36, 2) := by decide +kernel
theorem dX8_blow_196 : decode cX8_blow 196 = .ok (.if_icmp .ge 117, 3) := by decide +kernel
theorem dX8_blow_199 : decode cX8_blow 199 = .ok (.aload_n 0, 1) := by decide +kernel
theorem dX8_blow_200 : decode cX8_blow 200 = .ok (.getfield 43, 3) := by decide +kernel
theorem dX8_blow_203 : decode cX8_blow 203 = .ok (.iload 4, 2) := by decide +kernel
theorem dX8_blow_205 : decode cX8_blow 205 = .ok (.dup2, 1) := by decide +kernel
theorem dX8_blow_206 : decode cX8_blow 206 = .ok (.iaload, 1) := by decide +kernel
theorem dX8_blow_207 : decode cX8_blow 207 = .ok (.aload_n 0, 1) := by decide +kernel
theorem dX8_blow_208 : decode cX8_blow 208 = .ok (.getfield 58, 3) := by decide +kernel
theorem dX8_blow_211 : decode cX8_blow 211 = .ok (.iload 4, 2) := by decide +kernel
theorem dX8_blow_213 : decode cX8_blow 213 = .ok (.iaload, 1) := by decide +kernel
theorem dX8_blow_214 : decode cX8_blow 214 = .ok (.isub, 1) := by decide +kernel
theorem dX8_blow_215 : decode cX8_blow 215 = .ok (.iastore, 1) := by decide +kernel
theorem dX8_blow_216 : decode cX8_blow 216 = .ok (.aload_n 0, 1) := by decide +kernel
theorem dX8_blow_217 : decode cX8_blow 217 = .ok (.getfield 46, 3) := by decide +kernel
theorem dX8_blow_220 : decode cX8_blow 220 = .ok (.iload 4, 2) := by decide +kernel
theorem dX8_blow_222 : decode cX8_blow 222 = .ok (.dup2, 1) := by decide +kernel
theorem dX8_blow_223 : decode cX8_blow 223 = .ok (.iaload, 1) := by decide +kernel
theorem dX8_blow_224 : decode cX8_blow 224 = .ok (.aload_n 0, 1) := by decide +kernel
theorem dX8_blow_225 : decode cX8_blow 225 = .ok (.getfield 61, 3) := by decide +kernel
theorem dX8_blow_228 : decode cX8_blow 228 = .ok (.iload 4, 2) := by decide +kernel
theorem dX8_blow_230 : decode cX8_blow 230 = .ok (.iaload, 1) := by decide +kernel
theorem dX8_blow_231 : decode cX8_blow 231 = .ok (.isub, 1) := by decide +kernel
theorem dX8_blow_232 : decode cX8_blow 232 = .ok (.iastore, 1) := by decide +kernel
theorem dX8_blow_233 : decode cX8_blow 233 = .ok (.iload 4, 2) := by decide +kernel
theorem dX8_blow_235 : decode cX8_blow 235 = .ok (.iload_n 1, 1) := by decide +kernel
theorem dX8_blow_236 : decode cX8_blow 236 = .ok (.invokestatic 247, 3) := by decide +kernel
theorem dX8_blow_239 : decode cX8_blow 239 = .ok (.istore 5, 2) := by decide +kernel
theorem dX8_blow_241 : decode cX8_blow 241 = .ok (.iload 5, 2) := by decide +kernel
theorem dX8_blow_243 : decode cX8_blow 243 = .ok (.ifCond .ge 30, 3) := by decide +kernel
theorem dX8_blow_246 : decode cX8_blow 246 = .ok (.aload_n 0, 1) := by decide +kernel
theorem dX8_blow_247 : decode cX8_blow 247 = .ok (.getfield 55, 3) := by decide +kernel
theorem dX8_blow_250 : decode cX8_blow 250 = .ok (.iload_n 1, 1) := by decide +kernel
theorem dX8_blow_251 : decode cX8_blow 251 = .ok (.dup2, 1) := by decide +kernel
theorem dX8_blow_252 : decode cX8_blow 252 = .ok (.iaload, 1) := by decide +kernel
theorem dX8_blow_253 : decode cX8_blow 253 = .ok (.aload_n 0, 1) := by decide +kernel
theorem dX8_blow_254 : decode cX8_blow 254 = .ok (.getfield 58, 3) := by decide +kernel
theorem dX8_blow_257 : decode cX8_blow 257 = .ok (.iload 4, 2) := by decide +kernel
theorem dX8_blow_259 : decode cX8_blow 259 = .ok (.iaload, 1) := by decide +kernel
theorem dX8_blow_260 : decode cX8_blow 260 = .ok (.aload_n 0, 1) := by decide +kernel
theorem dX8_blow_261 : decode cX8_blow 261 = .ok (.getfield 61, 3) := by decide +kernel
theorem dX8_blow_264 : decode cX8_blow 264 = .ok (.iload 4, 2) := by decide +kernel
theorem dX8_blow_266 : decode cX8_blow 266 = .ok (.iaload, 1) := by decide +kernel
theorem dX8_blow_267 : decode cX8_blow 267 = .ok (.iadd, 1) := by decide +kernel
theorem dX8_blow_268 : decode cX8_blow 268 = .ok (.iadd, 1) := by decide +kernel
theorem dX8_blow_269 : decode cX8_blow 269 = .ok (.iastore, 1) := by decide +kernel
theorem dX8_blow_270 : decode cX8_blow 270 = .ok (.goto 37, 3) := by decide +kernel
theorem dX8_blow_273 : decode cX8_blow 273 = .ok (.aload_n 0, 1) := by decide +kernel
theorem dX8_blow_274 : decode cX8_blow 274 = .ok (.getfield 43, 3) := by decide +kernel
theorem dX8_blow_277 : decode cX8_blow 277 = .ok (.iload 5, 2) := by decide +kernel
theorem dX8_blow_279 : decode cX8_blow 279 = .ok (.dup2, 1) := by decide +kernel
theorem dX8_blow_280 : decode cX8_blow 280 = .ok (.iaload, 1) := by decide +kernel
theorem dX8_blow_281 : decode cX8_blow 281 = .ok (.aload_n 0, 1) := by decide +kernel
theorem dX8_blow_282 : decode cX8_blow 282 = .ok (.getfield 58, 3) := by decide +kernel
theorem dX8_blow_285 : decode cX8_blow 285 = .ok (.iload 4, 2) := by decide +kernel
theorem dX8_blow_287 : decode cX8_blow 287 = .ok (.iaload, 1) := by decide +kernel
theorem dX8_blow_288 : decode cX8_blow 288 = .ok (.iadd, 1) := by decide +kernel
theorem dX8_blow_289 : decode cX8_blow 289 = .ok (.iastore, 1) := by decide +kernel
theorem dX8_blow_290 : decode cX8_blow 290 = .ok (.aload_n 0, 1) := by decide +kernel
theorem dX8_blow_291 : decode cX8_blow 291 = .ok (.getfield 46, 3) := by decide +kernel
