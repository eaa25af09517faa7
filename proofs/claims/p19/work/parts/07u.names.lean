theorem dX5_lookAtOrder_52 : decode cX5_lookAtOrder 52 = .ok (.getfield 42, 3) := by decide +kernel
theorem dX5_lookAtOrder_55 : decode cX5_lookAtOrder 55 = .ok (.getfield 192, 3) := by decide +kernel
theorem dX5_lookAtOrder_58 : decode cX5_lookAtOrder 58 = .ok (.putfield 56, 3) := by decide +kernel
theorem dX5_lookAtOrder_61 : decode cX5_lookAtOrder 61 = .ok (.goto 7, 3) := by decide +kernel
theorem dX5_lookAtOrder_64 : decode cX5_lookAtOrder 64 = .ok (.aload_n 0, 1) := by decide +kernel
theorem dX5_lookAtOrder_65 : decode cX5_lookAtOrder 65 = .ok (.invokevirtual 198, 3) := by decide +kernel
theorem dX5_lookAtOrder_68 : decode cX5_lookAtOrder 68 = .ok (.iload_n 1, 1) := by decide +kernel
theorem dX5_lookAtOrder_69 : decode cX5_lookAtOrder 69 = .ok (.ireturn, 1) := by decide +kernel
set_option maxRecDepth 20000 in
theorem ggX5_carryOut_X5_contains : GoodIn wsX5_carryOut wsX5_contains := goodIn_r _ [8] (by decide +kernel) (by decide +kernel)
set_option maxRecDepth 20000 in
theorem gX5_carryOut_X5_contains : GoodIn wsX5_carryOut (va_wsS RX5 99 yX5_contains wsX5_contains) := goodIn_app (goodIn_of _ (by decide +kernel)) ggX5_carryOut_X5_contains
set_option maxRecDepth 20000 in
theorem ggX5_carryOut_X4_perform : GoodIn wsX5_carryOut wsX4_perform := goodIn_r _ [13, 14, 15, 16, 17, 18, 12, 19, 20, 21, 22, 23, 24, 25, 26, 27, 28, 29, 30, 31, 32, 33, 6, 7, 8, 34, 35, 36, 37, 38, 39, 40, 41, 86, 87, 88, 89, 90, 91] (by decide +kernel) (by decide +kernel)
set_option maxRecDepth 20000 in
theorem gX5_carryOut_X4_perform : GoodIn wsX5_carryOut (wsV RX5 210 RX4 yX4_perform wsX4_perform) := goodIn_app (goodIn_of _ (by decide +kernel)) ggX5_carryOut_X4_perform
set_option maxRecDepth 20000 in
theorem ggX5_carryOut_X1_keep : GoodIn wsX5_carryOut wsX1_keep := goodIn_r _ [46, 47, 48, 49, 50, 51, 52, 53, 54, 55, 56, 57, 58, 92, 93, 94, 95, 96] (by decide +kernel) (by decide +kernel)
set_option maxRecDepth 20000 in
theorem gX5_carryOut_X1_keep : GoodIn wsX5_carryOut (wsV RX5 214 RX1 yX1_keep wsX1_keep) := goodIn_app (goodIn_of _ (by decide +kernel)) ggX5_carryOut_X1_keep
theorem dX5_carryOut_0 : decode cX5_carryOut 0 = .ok (.iconst 0, 1) := by decide +kernel
theorem dX5_carryOut_1 : decode cX5_carryOut 1 = .ok (.istore_n 1, 1) := by decide +kernel
theorem dX5_carryOut_2 : decode cX5_carryOut 2 = .ok (.iconst 0, 1) := by decide +kernel
theorem dX5_carryOut_3 : decode cX5_carryOut 3 = .ok (.istore_n 2, 1) := by decide +kernel
theorem dX5_carryOut_4 : decode cX5_carryOut 4 = .ok (.iload_n 2, 1) := by decide +kernel
theorem dX5_carryOut_5 : decode cX5_carryOut 5 = .ok (.bipush 12, 2) := by decide +kernel
theorem dX5_carryOut_7 : decode cX5_carryOut 7 = .ok (.if_icmp .ge 54, 3) := by decide +kernel
theorem dX5_carryOut_10 : decode cX5_carryOut 10 = .ok (.aload_n 0, 1) := by decide +kernel
theorem dX5_carryOut_11 : decode cX5_carryOut 11 = .ok (.getfield 42, 3) := by decide +kernel
theorem dX5_carryOut_14 : decode cX5_carryOut 14 = .ok (.getfield 201, 3) := by decide +kernel
theorem dX5_carryOut_17 : decode cX5_carryOut 17 = .ok (.iload_n 2, 1) := by decide +kernel
theorem dX5_carryOut_18 : decode cX5_carryOut 18 = .ok (.invokestatic 99, 3) := by decide +kernel
theorem dX5_carryOut_21 : decode cX5_carryOut 21 = .ok (.ifCond .eq 34, 3) := by decide +kernel
theorem dX5_carryOut_24 : decode cX5_carryOut 24 = .ok (.aload_n 0, 1) := by decide +kernel
theorem dX5_carryOut_25 : decode cX5_carryOut 25 = .ok (.getfield 12, 3) := by decide +kernel
theorem dX5_carryOut_28 : decode cX5_carryOut 28 = .ok (.aload_n 0, 1) := by decide +kernel
theorem dX5_carryOut_29 : decode cX5_carryOut 29 = .ok (.getfield 26, 3) := by decide +kernel
theorem dX5_carryOut_32 : decode cX5_carryOut 32 = .ok (.getfield 204, 3) := by decide +kernel
theorem dX5_carryOut_35 : decode cX5_carryOut 35 = .ok (.iload_n 2, 1) := by decide +kernel
theorem dX5_carryOut_36 : decode cX5_carryOut 36 = .ok (.aload_n 0, 1) := by decide +kernel
theorem dX5_carryOut_37 : decode cX5_carryOut 37 = .ok (.getfield 42, 3) := by decide +kernel
theorem dX5_carryOut_40 : decode cX5_carryOut 40 = .ok (.getfield 207, 3) := by decide +kernel
theorem dX5_carryOut_43 : decode cX5_carryOut 43 = .ok (.invokevirtual 210, 3) := by decide +kernel
theorem dX5_carryOut_46 : decode cX5_carryOut 46 = .ok (.ifCond .eq 9, 3) := by decide +kernel
theorem dX5_carryOut_49 : decode cX5_carryOut 49 = .ok (.iload_n 1, 1) := by decide +kernel
theorem dX5_carryOut_50 : decode cX5_carryOut 50 = .ok (.iconst 1, 1) := by decide +kernel
theorem dX5_carryOut_51 : decode cX5_carryOut 51 = .ok (.iload_n 2, 1) := by decide +kernel
theorem dX5_carryOut_52 : decode cX5_carryOut 52 = .ok (.ishl, 1) := by decide +kernel
theorem dX5_carryOut_53 : decode cX5_carryOut 53 = .ok (.ior, 1) := by decide +kernel
theorem dX5_carryOut_54 : decode cX5_carryOut 54 = .ok (.istore_n 1, 1) := by decide +kernel
theorem dX5_carryOut_55 : decode cX5_carryOut 55 = .ok (.iinc 2 1, 3) := by decide +kernel
theorem dX5_carryOut_58 : decode cX5_carryOut 58 = .ok (.goto (-54), 3) := by decide +kernel
theorem dX5_carryOut_61 : decode cX5_carryOut 61 = .ok (.aload_n 0, 1) := by decide +kernel
theorem dX5_carryOut_62 : decode cX5_carryOut 62 = .ok (.getfield 33, 3) := by decide +kernel
theorem dX5_carryOut_65 : decode cX5_carryOut 65 = .ok (.aload_n 0, 1) := by decide +kernel
theorem dX5_carryOut_66 : decode cX5_carryOut 66 = .ok (.getfield 26, 3) := by decide +kernel
theorem dX5_carryOut_69 : decode cX5_carryOut 69 = .ok (.getfield 204, 3) := by decide +kernel
theorem dX5_carryOut_72 : decode cX5_carryOut 72 = .ok (.aload_n 0, 1) := by decide +kernel
theorem dX5_carryOut_73 : decode cX5_carryOut 73 = .ok (.getfield 42, 3) := by decide +kernel
theorem dX5_carryOut_76 : decode cX5_carryOut 76 = .ok (.getfield 201, 3) := by decide +kernel
theorem dX5_carryOut_79 : decode cX5_carryOut 79 = .ok (.iload_n 1, 1) := by decide +kernel
theorem dX5_carryOut_80 : decode cX5_carryOut 80 = .ok (.aload_n 0, 1) := by decide +kernel
theorem dX5_carryOut_81 : decode cX5_carryOut 81 = .ok (.getfield 42, 3) := by decide +kernel
theorem dX5_carryOut_84 : decode cX5_carryOut 84 = .ok (.getfield 207, 3) := by decide +kernel
theorem dX5_carryOut_87 : decode cX5_carryOut 87 = .ok (.invokevirtual 214, 3) := by decide +kernel
theorem dX5_carryOut_90 : decode cX5_carryOut 90 = .ok (.return_, 1) := by decide +kernel
theorem dX5_contains_0 : decode cX5_contains 0 = .ok (.iload_n 1, 1) := by decide +kernel
theorem dX5_contains_1 : decode cX5_contains 1 = .ok (.ifCond .lt 21, 3) := by decide +kernel
theorem dX5_contains_4 : decode cX5_contains 4 = .ok (.iload_n 1, 1) := by decide +kernel
theorem dX5_contains_5 : decode cX5_contains 5 = .ok (.bipush 12, 2) := by decide +kernel
theorem dX5_contains_7 : decode cX5_contains 7 = .ok (.if_icmp .ge 15, 3) := by decide +kernel
theorem dX5_contains_10 : decode cX5_contains 10 = .ok (.iload_n 0, 1) := by decide +kernel
theorem dX5_contains_11 : decode cX5_contains 11 = .ok (.iload_n 1, 1) := by decide +kernel
theorem dX5_contains_12 : decode cX5_contains 12 = .ok (.ishr, 1) := by decide +kernel
theorem dX5_contains_13 : decode cX5_contains 13 = .ok (.iconst 1, 1) := by decide +kernel
theorem dX5_contains_14 : decode cX5_contains 14 = .ok (.iand, 1) := by decide +kernel
theorem dX5_contains_15 : decode cX5_contains 15 = .ok (.ifCond .eq 7, 3) := by decide +kernel
theorem dX5_contains_18 : decode cX5_contains 18 = .ok (.iconst 1, 1) := by decide +kernel
theorem dX5_contains_19 : decode cX5_contains 19 = .ok (.goto 4, 3) := by decide +kernel
theorem dX5_contains_22 : decode cX5_contains 22 = .ok (.iconst 0, 1) := by decide +kernel
theorem dX5_contains_23 : decode cX5_contains 23 = .ok (.ireturn, 1) := by decide +kernel
theorem dX5_isBetween_0 : decode cX5_isBetween 0 = .ok (.iload_n 0, 1) := by decide +kernel
theorem dX5_isBetween_1 : decode cX5_isBetween 1 = .ok (.iload_n 1, 1) := by decide +kernel
theorem dX5_isBetween_2 : decode cX5_isBetween 2 = .ok (.if_icmp .lt 14, 3) := by decide +kernel
theorem dX5_isBetween_5 : decode cX5_isBetween 5 = .ok (.iload_n 0, 1) := by decide +kernel
theorem dX5_isBetween_6 : decode cX5_isBetween 6 = .ok (.iload_n 1, 1) := by decide +kernel
theorem dX5_isBetween_7 : decode cX5_isBetween 7 = .ok (.iload_n 2, 1) := by decide +kernel
theorem dX5_isBetween_8 : decode cX5_isBetween 8 = .ok (.iadd, 1) := by decide +kernel
theorem dX5_isBetween_9 : decode cX5_isBetween 9 = .ok (.if_icmp .ge 7, 3) := by decide +kernel
theorem dX5_isBetween_12 : decode cX5_isBetween 12 = .ok (.iconst 1, 1) := by decide +kernel
theorem dX5_isBetween_13 : decode cX5_isBetween 13 = .ok (.goto 4, 3) := by decide +kernel
theorem dX5_isBetween_16 : decode cX5_isBetween 16 = .ok (.iconst 0, 1) := by decide +kernel
theorem dX5_isBetween_17 : decode cX5_isBetween 17 = .ok (.ireturn, 1) := by decide +kernel
theorem dX5_isVerb_0 : decode cX5_isVerb 0 = .ok (.iload_n 0, 1) := by decide +kernel
theorem dX5_isVerb_1 : decode cX5_isVerb 1 = .ok (.ifCond .lt 12, 3) := by decide +kernel
theorem dX5_isVerb_4 : decode cX5_isVerb 4 = .ok (.iload_n 0, 1) := by decide +kernel
theorem dX5_isVerb_5 : decode cX5_isVerb 5 = .ok (.iconst 4, 1) := by decide +kernel
theorem dX5_isVerb_6 : decode cX5_isVerb 6 = .ok (.if_icmp .gt 7, 3) := by decide +kernel
theorem dX5_isVerb_9 : decode cX5_isVerb 9 = .ok (.iconst 1, 1) := by decide +kernel
theorem dX5_isVerb_10 : decode cX5_isVerb 10 = .ok (.goto 4, 3) := by decide +kernel
theorem dX5_isVerb_13 : decode cX5_isVerb 13 = .ok (.iconst 0, 1) := by decide +kernel
theorem dX5_isVerb_14 : decode cX5_isVerb 14 = .ok (.ireturn, 1) := by decide +kernel
set_option maxRecDepth 20000 in
theorem ggX5_isWord_X5_isVerb : GoodIn wsX5_isWord wsX5_isVerb := goodIn_r _ [4] (by decide +kernel) (by decide +kernel)
set_option maxRecDepth 20000 in
theorem gX5_isWord_X5_isVerb : GoodIn wsX5_isWord (va_wsS RX5 126 yX5_isVerb wsX5_isVerb) := goodIn_app (goodIn_of _ (by decide +kernel)) ggX5_isWord_X5_isVerb
set_option maxRecDepth 20000 in
theorem ggX5_isWord_X5_isBetween : GoodIn wsX5_isWord wsX5_isBetween := goodIn_r _ [7] (by decide +kernel) (by decide +kernel)
set_option maxRecDepth 20000 in
theorem gX5_isWord_X5_isBetween : GoodIn wsX5_isWord (va_wsS RX5 218 yX5_isBetween wsX5_isBetween) := goodIn_app (goodIn_of _ (by decide +kernel)) ggX5_isWord_X5_isBetween
theorem dX5_isWord_0 : decode cX5_isWord 0 = .ok (.iload_n 0, 1) := by decide +kernel
theorem dX5_isWord_1 : decode cX5_isWord 1 = .ok (.invokestatic 126, 3) := by decide +kernel
theorem dX5_isWord_4 : decode cX5_isWord 4 = .ok (.ifCond .ne 48, 3) := by decide +kernel
theorem dX5_isWord_7 : decode cX5_isWord 7 = .ok (.iload_n 0, 1) := by decide +kernel
theorem dX5_isWord_8 : decode cX5_isWord 8 = .ok (.bipush 10, 2) := by decide +kernel
theorem dX5_isWord_10 : decode cX5_isWord 10 = .ok (.if_icmp .lt 9, 3) := by decide +kernel
theorem dX5_isWord_13 : decode cX5_isWord 13 = .ok (.iload_n 0, 1) := by decide +kernel
theorem dX5_isWord_14 : decode cX5_isWord 14 = .ok (.bipush 17, 2) := by decide +kernel
theorem dX5_isWord_16 : decode cX5_isWord 16 = .ok (.if_icmp .le 36, 3) := by decide +kernel
theorem dX5_isWord_19 : decode cX5_isWord 19 = .ok (.iload_n 0, 1) := by decide +kernel
theorem dX5_isWord_20 : decode cX5_isWord 20 = .ok (.bipush 20, 2) := by decide +kernel
theorem dX5_isWord_22 : decode cX5_isWord 22 = .ok (.bipush 6, 2) := by decide +kernel
theorem dX5_isWord_24 : decode cX5_isWord 24 = .ok (.invokestatic 218, 3) := by decide +kernel
theorem dX5_isWord_27 : decode cX5_isWord 27 = .ok (.ifCond .ne 25, 3) := by decide +kernel
theorem dX5_isWord_30 : decode cX5_isWord 30 = .ok (.iload_n 0, 1) := by decide +kernel
theorem dX5_isWord_31 : decode cX5_isWord 31 = .ok (.bipush 30, 2) := by decide +kernel
theorem dX5_isWord_33 : decode cX5_isWord 33 = .ok (.bipush 8, 2) := by decide +kernel
theorem dX5_isWord_35 : decode cX5_isWord 35 = .ok (.invokestatic 218, 3) := by decide +kernel
theorem dX5_isWord_38 : decode cX5_isWord 38 = .ok (.ifCond .ne 14, 3) := by decide +kernel
theorem dX5_isWord_41 : decode cX5_isWord 41 = .ok (.iload_n 0, 1) := by decide +kernel
theorem dX5_isWord_42 : decode cX5_isWord 42 = .ok (.bipush 40, 2) := by decide +kernel
theorem dX5_isWord_44 : decode cX5_isWord 44 = .ok (.bipush 8, 2) := by decide +kernel
theorem dX5_isWord_46 : decode cX5_isWord 46 = .ok (.invokestatic 218, 3) := by decide +kernel
theorem dX5_isWord_49 : decode cX5_isWord 49 = .ok (.ifCond .eq 7, 3) := by decide +kernel
theorem dX5_isWord_52 : decode cX5_isWord 52 = .ok (.iconst 1, 1) := by decide +kernel
theorem dX5_isWord_53 : decode cX5_isWord 53 = .ok (.goto 4, 3) := by decide +kernel
theorem dX5_isWord_56 : decode cX5_isWord 56 = .ok (.iconst 0, 1) := by decide +kernel
theorem dX5_isWord_57 : decode cX5_isWord 57 = .ok (.ireturn, 1) := by decide +kernel
theorem dJ6_bitCount_0f7a4_0 : decode cJ6_bitCount_0f7a4 0 = .ok (.iload_n 0, 1) := by decide +kernel
theorem dJ6_bitCount_0f7a4_1 : decode cJ6_bitCount_0f7a4 1 = .ok (.iload_n 0, 1) := by decide +kernel
theorem dJ6_bitCount_0f7a4_2 : decode cJ6_bitCount_0f7a4 2 = .ok (.iconst 1, 1) := by decide +kernel
theorem dJ6_bitCount_0f7a4_3 : decode cJ6_bitCount_0f7a4 3 = .ok (.iushr, 1) := by decide +kernel
theorem dJ6_bitCount_0f7a4_4 : decode cJ6_bitCount_0f7a4 4 = .ok (.ldc_w 265, 3) := by decide +kernel
theorem dJ6_bitCount_0f7a4_7 : decode cJ6_bitCount_0f7a4 7 = .ok (.iand, 1) := by decide +kernel
theorem dJ6_bitCount_0f7a4_8 : decode cJ6_bitCount_0f7a4 8 = .ok (.isub, 1) := by decide +kernel
theorem dJ6_bitCount_0f7a4_9 : decode cJ6_bitCount_0f7a4 9 = .ok (.istore_n 0, 1) := by decide +kernel
theorem dJ6_bitCount_0f7a4_10 : decode cJ6_bitCount_0f7a4 10 = .ok (.iload_n 0, 1) := by decide +kernel
theorem dJ6_bitCount_0f7a4_11 : decode cJ6_bitCount_0f7a4 11 = .ok (.ldc_w 266, 3) := by decide +kernel
theorem dJ6_bitCount_0f7a4_14 : decode cJ6_bitCount_0f7a4 14 = .ok (.iand, 1) := by decide +kernel
theorem dJ6_bitCount_0f7a4_15 : decode cJ6_bitCount_0f7a4 15 = .ok (.iload_n 0, 1) := by decide +kernel
theorem dJ6_bitCount_0f7a4_16 : decode cJ6_bitCount_0f7a4 16 = .ok (.iconst 2, 1) := by decide +kernel
theorem dJ6_bitCount_0f7a4_17 : decode cJ6_bitCount_0f7a4 17 = .ok (.iushr, 1) := by decide +kernel
theorem dJ6_bitCount_0f7a4_18 : decode cJ6_bitCount_0f7a4 18 = .ok (.ldc_w 266, 3) := by decide +kernel
theorem dJ6_bitCount_0f7a4_21 : decode cJ6_bitCount_0f7a4 21 = .ok (.iand, 1) := by decide +kernel
theorem dJ6_bitCount_0f7a4_22 : decode cJ6_bitCount_0f7a4 22 = .ok (.iadd, 1) := by decide +kernel
theorem dJ6_bitCount_0f7a4_23 : decode cJ6_bitCount_0f7a4 23 = .ok (.istore_n 0, 1) := by decide +kernel
theorem dJ6_bitCount_0f7a4_24 : decode cJ6_bitCount_0f7a4 24 = .ok (.iload_n 0, 1) := by decide +kernel
theorem dJ6_bitCount_0f7a4_25 : decode cJ6_bitCount_0f7a4 25 = .ok (.iload_n 0, 1) := by decide +kernel
theorem dJ6_bitCount_0f7a4_26 : decode cJ6_bitCount_0f7a4 26 = .ok (.iconst 4, 1) := by decide +kernel
theorem dJ6_bitCount_0f7a4_27 : decode cJ6_bitCount_0f7a4 27 = .ok (.iushr, 1) := by decide +kernel
theorem dJ6_bitCount_0f7a4_28 : decode cJ6_bitCount_0f7a4 28 = .ok (.iadd, 1) := by decide +kernel
theorem dJ6_bitCount_0f7a4_29 : decode cJ6_bitCount_0f7a4 29 = .ok (.ldc_w 267, 3) := by decide +kernel
theorem dJ6_bitCount_0f7a4_32 : decode cJ6_bitCount_0f7a4 32 = .ok (.iand, 1) := by decide +kernel
theorem dJ6_bitCount_0f7a4_33 : decode cJ6_bitCount_0f7a4 33 = .ok (.istore_n 0, 1) := by decide +kernel
theorem dJ6_bitCount_0f7a4_34 : decode cJ6_bitCount_0f7a4 34 = .ok (.iload_n 0, 1) := by decide +kernel
theorem dJ6_bitCount_0f7a4_35 : decode cJ6_bitCount_0f7a4 35 = .ok (.iload_n 0, 1) := by decide +kernel
theorem dJ6_bitCount_0f7a4_36 : decode cJ6_bitCount_0f7a4 36 = .ok (.bipush 8, 2) := by decide +kernel
theorem dJ6_bitCount_0f7a4_38 : decode cJ6_bitCount_0f7a4 38 = .ok (.iushr, 1) := by decide +kernel
theorem dJ6_bitCount_0f7a4_39 : decode cJ6_bitCount_0f7a4 39 = .ok (.iadd, 1) := by decide +kernel
theorem dJ6_bitCount_0f7a4_40 : decode cJ6_bitCount_0f7a4 40 = .ok (.istore_n 0, 1) := by decide +kernel
theorem dJ6_bitCount_0f7a4_41 : decode cJ6_bitCount_0f7a4 41 = .ok (.iload_n 0, 1) := by decide +kernel
theorem dJ6_bitCount_0f7a4_42 : decode cJ6_bitCount_0f7a4 42 = .ok (.iload_n 0, 1) := by decide +kernel
theorem dJ6_bitCount_0f7a4_43 : decode cJ6_bitCount_0f7a4 43 = .ok (.bipush 16, 2) := by decide +kernel
theorem dJ6_bitCount_0f7a4_45 : decode cJ6_bitCount_0f7a4 45 = .ok (.iushr, 1) := by decide +kernel
theorem dJ6_bitCount_0f7a4_46 : decode cJ6_bitCount_0f7a4 46 = .ok (.iadd, 1) := by decide +kernel
theorem dJ6_bitCount_0f7a4_47 : decode cJ6_bitCount_0f7a4 47 = .ok (.istore_n 0, 1) := by decide +kernel
theorem dJ6_bitCount_0f7a4_48 : decode cJ6_bitCount_0f7a4 48 = .ok (.iload_n 0, 1) := by decide +kernel
theorem dJ6_bitCount_0f7a4_49 : decode cJ6_bitCount_0f7a4 49 = .ok (.bipush 63, 2) := by decide +kernel
theorem dJ6_bitCount_0f7a4_51 : decode cJ6_bitCount_0f7a4 51 = .ok (.iand, 1) := by decide +kernel
theorem dJ6_bitCount_0f7a4_52 : decode cJ6_bitCount_0f7a4 52 = .ok (.ireturn, 1) := by decide +kernel
theorem dL_cell_0 : decode cL_cell 0 = .ok (.iload_n 1, 1) := by decide +kernel
theorem dL_cell_1 : decode cL_cell 1 = .ok (.aload_n 0, 1) := by decide +kernel
theorem dL_cell_2 : decode cL_cell 2 = .ok (.arraylength, 1) := by decide +kernel
theorem dL_cell_3 : decode cL_cell 3 = .ok (.if_icmp .ge 9, 3) := by decide +kernel
theorem dL_cell_6 : decode cL_cell 6 = .ok (.aload_n 0, 1) := by decide +kernel
theorem dL_cell_7 : decode cL_cell 7 = .ok (.iload_n 1, 1) := by decide +kernel
theorem dL_cell_8 : decode cL_cell 8 = .ok (.iaload, 1) := by decide +kernel
theorem dL_cell_9 : decode cL_cell 9 = .ok (.goto 16, 3) := by decide +kernel
theorem dL_cell_12 : decode cL_cell 12 = .ok (.ldc2_w 7, 3) := by decide +kernel
theorem dL_cell_15 : decode cL_cell 15 = .ok (.iload_n 1, 1) := by decide +kernel
theorem dL_cell_16 : decode cL_cell 16 = .ok (.bipush 12, 2) := by decide +kernel
theorem dL_cell_18 : decode cL_cell 18 = .ok (.iadd, 1) := by decide +kernel
theorem dL_cell_19 : decode cL_cell 19 = .ok (.i2l, 1) := by decide +kernel
theorem dL_cell_20 : decode cL_cell 20 = .ok (.lmul, 1) := by decide +kernel
theorem dL_cell_21 : decode cL_cell 21 = .ok (.bipush 8, 2) := by decide +kernel
theorem dL_cell_23 : decode cL_cell 23 = .ok (.lushr, 1) := by decide +kernel
theorem dL_cell_24 : decode cL_cell 24 = .ok (.l2i, 1) := by decide +kernel
theorem dL_cell_25 : decode cL_cell 25 = .ok (.ireturn, 1) := by decide +kernel
theorem dL_some_0 : decode cL_some 0 = .ok (.iload_n 0, 1) := by decide +kernel
theorem dL_some_1 : decode cL_some 1 = .ok (.iconst 2, 1) := by decide +kernel
theorem dL_some_2 : decode cL_some 2 = .ok (.iushr, 1) := by decide +kernel
theorem dL_some_3 : decode cL_some 3 = .ok (.iload_n 1, 1) := by decide +kernel
theorem dL_some_4 : decode cL_some 4 = .ok (.irem, 1) := by decide +kernel
theorem dL_some_5 : decode cL_some 5 = .ok (.ireturn, 1) := by decide +kernel
theorem dL_isAdjective_0 : decode cL_isAdjective 0 = .ok (.iload_n 0, 1) := by decide +kernel
theorem dL_isAdjective_1 : decode cL_isAdjective 1 = .ok (.bipush 19, 2) := by decide +kernel
theorem dL_isAdjective_3 : decode cL_isAdjective 3 = .ok (.if_icmp .le 13, 3) := by decide +kernel
theorem dL_isAdjective_6 : decode cL_isAdjective 6 = .ok (.iload_n 0, 1) := by decide +kernel
theorem dL_isAdjective_7 : decode cL_isAdjective 7 = .ok (.bipush 26, 2) := by decide +kernel
theorem dL_isAdjective_9 : decode cL_isAdjective 9 = .ok (.if_icmp .ge 7, 3) := by decide +kernel
theorem dL_isAdjective_12 : decode cL_isAdjective 12 = .ok (.iconst 1, 1) := by decide +kernel
theorem dL_isAdjective_13 : decode cL_isAdjective 13 = .ok (.goto 4, 3) := by decide +kernel
theorem dL_isAdjective_16 : decode cL_isAdjective 16 = .ok (.iconst 0, 1) := by decide +kernel
theorem dL_isAdjective_17 : decode cL_isAdjective 17 = .ok (.ireturn, 1) := by decide +kernel
theorem dL_isNoun_0 : decode cL_isNoun 0 = .ok (.iload_n 0, 1) := by decide +kernel
theorem dL_isNoun_1 : decode cL_isNoun 1 = .ok (.bipush 29, 2) := by decide +kernel
theorem dL_isNoun_3 : decode cL_isNoun 3 = .ok (.if_icmp .le 13, 3) := by decide +kernel
theorem dL_isNoun_6 : decode cL_isNoun 6 = .ok (.iload_n 0, 1) := by decide +kernel
theorem dL_isNoun_7 : decode cL_isNoun 7 = .ok (.bipush 38, 2) := by decide +kernel
theorem dL_isNoun_9 : decode cL_isNoun 9 = .ok (.if_icmp .ge 7, 3) := by decide +kernel
theorem dL_isNoun_12 : decode cL_isNoun 12 = .ok (.iconst 1, 1) := by decide +kernel
theorem dL_isNoun_13 : decode cL_isNoun 13 = .ok (.goto 4, 3) := by decide +kernel
theorem dL_isNoun_16 : decode cL_isNoun 16 = .ok (.iconst 0, 1) := by decide +kernel
theorem dL_isNoun_17 : decode cL_isNoun 17 = .ok (.ireturn, 1) := by decide +kernel
theorem dL_isPlural_0 : decode cL_isPlural 0 = .ok (.iload_n 0, 1) := by decide +kernel
theorem dL_isPlural_1 : decode cL_isPlural 1 = .ok (.bipush 39, 2) := by decide +kernel
theorem dL_isPlural_3 : decode cL_isPlural 3 = .ok (.if_icmp .le 13, 3) := by decide +kernel
theorem dL_isPlural_6 : decode cL_isPlural 6 = .ok (.iload_n 0, 1) := by decide +kernel
theorem dL_isPlural_7 : decode cL_isPlural 7 = .ok (.bipush 48, 2) := by decide +kernel
theorem dL_isPlural_9 : decode cL_isPlural 9 = .ok (.if_icmp .ge 7, 3) := by decide +kernel
theorem dL_isPlural_12 : decode cL_isPlural 12 = .ok (.iconst 1, 1) := by decide +kernel
theorem dL_isPlural_13 : decode cL_isPlural 13 = .ok (.goto 4, 3) := by decide +kernel
theorem dL_isPlural_16 : decode cL_isPlural 16 = .ok (.iconst 0, 1) := by decide +kernel
theorem dL_isPlural_17 : decode cL_isPlural 17 = .ok (.ireturn, 1) := by decide +kernel
theorem dL_reach_0 : decode cL_reach 0 = .ok (.iconst 0, 1) := by decide +kernel
theorem dL_reach_1 : decode cL_reach 1 = .ok (.istore_n 2, 1) := by decide +kernel
theorem dL_reach_2 : decode cL_reach 2 = .ok (.iconst 0, 1) := by decide +kernel
theorem dL_reach_3 : decode cL_reach 3 = .ok (.istore_n 3, 1) := by decide +kernel
theorem dL_reach_4 : decode cL_reach 4 = .ok (.iload_n 3, 1) := by decide +kernel
theorem dL_reach_5 : decode cL_reach 5 = .ok (.bipush 7, 2) := by decide +kernel
theorem dL_reach_7 : decode cL_reach 7 = .ok (.if_icmp .ge 72, 3) := by decide +kernel
theorem dL_reach_10 : decode cL_reach 10 = .ok (.iconst 0, 1) := by decide +kernel
theorem dL_reach_11 : decode cL_reach 11 = .ok (.istore 4, 2) := by decide +kernel
theorem dL_reach_13 : decode cL_reach 13 = .ok (.iload 4, 2) := by decide +kernel
theorem dL_reach_15 : decode cL_reach 15 = .ok (.aload_n 1, 1) := by decide +kernel
theorem dL_reach_16 : decode cL_reach 16 = .ok (.iconst 0, 1) := by decide +kernel
theorem dL_reach_17 : decode cL_reach 17 = .ok (.iaload, 1) := by decide +kernel
theorem dL_reach_18 : decode cL_reach 18 = .ok (.if_icmp .ge 55, 3) := by decide +kernel
theorem dL_reach_21 : decode cL_reach 21 = .ok (.aload_n 0, 1) := by decide +kernel
theorem dL_reach_22 : decode cL_reach 22 = .ok (.bipush 24, 2) := by decide +kernel
theorem dL_reach_24 : decode cL_reach 24 = .ok (.iload 4, 2) := by decide +kernel
theorem dL_reach_26 : decode cL_reach 26 = .ok (.iadd, 1) := by decide +kernel
theorem dL_reach_27 : decode cL_reach 27 = .ok (.iaload, 1) := by decide +kernel
theorem dL_reach_28 : decode cL_reach 28 = .ok (.istore 5, 2) := by decide +kernel
theorem dL_reach_30 : decode cL_reach 30 = .ok (.iload_n 2, 1) := by decide +kernel
theorem dL_reach_31 : decode cL_reach 31 = .ok (.iload 5, 2) := by decide +kernel
theorem dL_reach_33 : decode cL_reach 33 = .ok (.ifCond .lt 24, 3) := by decide +kernel
theorem dL_reach_36 : decode cL_reach 36 = .ok (.aload_n 0, 1) := by decide +kernel
theorem dL_reach_37 : decode cL_reach 37 = .ok (.bipush 18, 2) := by decide +kernel
theorem dL_reach_39 : decode cL_reach 39 = .ok (.iload 5, 2) := by decide +kernel
theorem dL_reach_41 : decode cL_reach 41 = .ok (.iadd, 1) := by decide +kernel
theorem dL_reach_42 : decode cL_reach 42 = .ok (.iaload, 1) := by decide +kernel
theorem dL_reach_43 : decode cL_reach 43 = .ok (.iconst 1, 1) := by decide +kernel
theorem dL_reach_44 : decode cL_reach 44 = .ok (.if_icmp .ne 20, 3) := by decide +kernel
theorem dL_reach_47 : decode cL_reach 47 = .ok (.iload_n 2, 1) := by decide +kernel
theorem dL_reach_48 : decode cL_reach 48 = .ok (.iload 5, 2) := by decide +kernel
theorem dL_reach_50 : decode cL_reach 50 = .ok (.ishr, 1) := by decide +kernel
theorem dL_reach_51 : decode cL_reach 51 = .ok (.iconst 1, 1) := by decide +kernel
theorem dL_reach_52 : decode cL_reach 52 = .ok (.iand, 1) := by decide +kernel
theorem dL_reach_53 : decode cL_reach 53 = .ok (.iconst 1, 1) := by decide +kernel
theorem dL_reach_54 : decode cL_reach 54 = .ok (.if_icmp .ne 10, 3) := by decide +kernel
theorem dL_reach_57 : decode cL_reach 57 = .ok (.iconst 1, 1) := by decide +kernel
theorem dL_reach_58 : decode cL_reach 58 = .ok (.iload 4, 2) := by decide +kernel
theorem dL_reach_60 : decode cL_reach 60 = .ok (.ishl, 1) := by decide +kernel
theorem dL_reach_61 : decode cL_reach 61 = .ok (.goto 4, 3) := by decide +kernel
theorem dL_reach_64 : decode cL_reach 64 = .ok (.iconst 0, 1) := by decide +kernel
theorem dL_reach_65 : decode cL_reach 65 = .ok (.ior, 1) := by decide +kernel
theorem dL_reach_66 : decode cL_reach 66 = .ok (.istore_n 2, 1) := by decide +kernel
theorem dL_reach_67 : decode cL_reach 67 = .ok (.iinc 4 1, 3) := by decide +kernel
theorem dL_reach_70 : decode cL_reach 70 = .ok (.goto (-57), 3) := by decide +kernel
theorem dL_reach_73 : decode cL_reach 73 = .ok (.iinc 3 1, 3) := by decide +kernel
theorem dL_reach_76 : decode cL_reach 76 = .ok (.goto (-72), 3) := by decide +kernel
theorem dL_reach_79 : decode cL_reach 79 = .ok (.iload_n 2, 1) := by decide +kernel
theorem dL_reach_80 : decode cL_reach 80 = .ok (.ireturn, 1) := by decide +kernel
theorem dL_held_0 : decode cL_held 0 = .ok (.iconst 0, 1) := by decide +kernel
theorem dL_held_1 : decode cL_held 1 = .ok (.istore_n 2, 1) := by decide +kernel
theorem dL_held_2 : decode cL_held 2 = .ok (.iconst 0, 1) := by decide +kernel
theorem dL_held_3 : decode cL_held 3 = .ok (.istore_n 3, 1) := by decide +kernel
theorem dL_held_4 : decode cL_held 4 = .ok (.iload_n 3, 1) := by decide +kernel
theorem dL_held_5 : decode cL_held 5 = .ok (.aload_n 1, 1) := by decide +kernel
theorem dL_held_6 : decode cL_held 6 = .ok (.iconst 0, 1) := by decide +kernel
theorem dL_held_7 : decode cL_held 7 = .ok (.iaload, 1) := by decide +kernel
theorem dL_held_8 : decode cL_held 8 = .ok (.if_icmp .ge 30, 3) := by decide +kernel
theorem dL_held_11 : decode cL_held 11 = .ok (.iload_n 2, 1) := by decide +kernel
theorem dL_held_12 : decode cL_held 12 = .ok (.aload_n 0, 1) := by decide +kernel
theorem dL_held_13 : decode cL_held 13 = .ok (.bipush 24, 2) := by decide +kernel
theorem dL_held_15 : decode cL_held 15 = .ok (.iload_n 3, 1) := by decide +kernel
theorem dL_held_16 : decode cL_held 16 = .ok (.iadd, 1) := by decide +kernel
theorem dL_held_17 : decode cL_held 17 = .ok (.iaload, 1) := by decide +kernel
theorem dL_held_18 : decode cL_held 18 = .ok (.bipush (-3), 2) := by decide +kernel
theorem dL_held_20 : decode cL_held 20 = .ok (.if_icmp .ne 9, 3) := by decide +kernel
theorem dL_held_23 : decode cL_held 23 = .ok (.iconst 1, 1) := by decide +kernel
theorem dL_held_24 : decode cL_held 24 = .ok (.iload_n 3, 1) := by decide +kernel
theorem dL_held_25 : decode cL_held 25 = .ok (.ishl, 1) := by decide +kernel
theorem dL_held_26 : decode cL_held 26 = .ok (.goto 4, 3) := by decide +kernel
theorem dL_held_29 : decode cL_held 29 = .ok (.iconst 0, 1) := by decide +kernel
theorem dL_held_30 : decode cL_held 30 = .ok (.ior, 1) := by decide +kernel
theorem dL_held_31 : decode cL_held 31 = .ok (.istore_n 2, 1) := by decide +kernel
theorem dL_held_32 : decode cL_held 32 = .ok (.iinc 3 1, 3) := by decide +kernel
theorem dL_held_35 : decode cL_held 35 = .ok (.goto (-31), 3) := by decide +kernel
theorem dL_held_38 : decode cL_held 38 = .ok (.iload_n 2, 1) := by decide +kernel
theorem dL_held_39 : decode cL_held 39 = .ok (.ireturn, 1) := by decide +kernel
set_option maxRecDepth 20000 in
theorem ggL_suited_L_held : GoodIn wsL_suited wsL_held := goodIn_r _ [4] (by decide +kernel) (by decide +kernel)
set_option maxRecDepth 20000 in
theorem gL_suited_L_held : GoodIn wsL_suited (va_wsS RL 11 yL_held wsL_held) := goodIn_app (goodIn_of _ (by decide +kernel)) ggL_suited_L_held
set_option maxRecDepth 20000 in
theorem ggL_suited_L_reach : GoodIn wsL_suited wsL_reach := goodIn_r _ [7] (by decide +kernel) (by decide +kernel)
set_option maxRecDepth 20000 in
theorem gL_suited_L_reach : GoodIn wsL_suited (va_wsS RL 17 yL_reach wsL_reach) := goodIn_app (goodIn_of _ (by decide +kernel)) ggL_suited_L_reach
theorem dL_suited_0 : decode cL_suited 0 = .ok (.iconst 0, 1) := by decide +kernel
theorem dL_suited_1 : decode cL_suited 1 = .ok (.istore_n 3, 1) := by decide +kernel
theorem dL_suited_2 : decode cL_suited 2 = .ok (.iconst 0, 1) := by decide +kernel
theorem dL_suited_3 : decode cL_suited 3 = .ok (.istore 4, 2) := by decide +kernel
theorem dL_suited_5 : decode cL_suited 5 = .ok (.iconst 0, 1) := by decide +kernel
theorem dL_suited_6 : decode cL_suited 6 = .ok (.istore 5, 2) := by decide +kernel
theorem dL_suited_8 : decode cL_suited 8 = .ok (.iload 5, 2) := by decide +kernel
theorem dL_suited_10 : decode cL_suited 10 = .ok (.aload_n 1, 1) := by decide +kernel
theorem dL_suited_11 : decode cL_suited 11 = .ok (.iconst 0, 1) := by decide +kernel
theorem dL_suited_12 : decode cL_suited 12 = .ok (.iaload, 1) := by decide +kernel
theorem dL_suited_13 : decode cL_suited 13 = .ok (.if_icmp .ge 37, 3) := by decide +kernel
theorem dL_suited_16 : decode cL_suited 16 = .ok (.iload_n 3, 1) := by decide +kernel
theorem dL_suited_17 : decode cL_suited 17 = .ok (.aload_n 0, 1) := by decide +kernel
theorem dL_suited_18 : decode cL_suited 18 = .ok (.bipush 18, 2) := by decide +kernel
theorem dL_suited_20 : decode cL_suited 20 = .ok (.iload 5, 2) := by decide +kernel
theorem dL_suited_22 : decode cL_suited 22 = .ok (.iadd, 1) := by decide +kernel
theorem dL_suited_23 : decode cL_suited 23 = .ok (.iaload, 1) := by decide +kernel
theorem dL_suited_24 : decode cL_suited 24 = .ok (.iload 5, 2) := by decide +kernel
theorem dL_suited_26 : decode cL_suited 26 = .ok (.ishl, 1) := by decide +kernel
theorem dL_suited_27 : decode cL_suited 27 = .ok (.ior, 1) := by decide +kernel
theorem dL_suited_28 : decode cL_suited 28 = .ok (.istore_n 3, 1) := by decide +kernel
theorem dL_suited_29 : decode cL_suited 29 = .ok (.iload 4, 2) := by decide +kernel
theorem dL_suited_31 : decode cL_suited 31 = .ok (.aload_n 0, 1) := by decide +kernel
theorem dL_suited_32 : decode cL_suited 32 = .ok (.bipush 12, 2) := by decide +kernel
theorem dL_suited_34 : decode cL_suited 34 = .ok (.iload 5, 2) := by decide +kernel
theorem dL_suited_36 : decode cL_suited 36 = .ok (.iadd, 1) := by decide +kernel
theorem dL_suited_37 : decode cL_suited 37 = .ok (.iaload, 1) := by decide +kernel
theorem dL_suited_38 : decode cL_suited 38 = .ok (.iload 5, 2) := by decide +kernel
theorem dL_suited_40 : decode cL_suited 40 = .ok (.ishl, 1) := by decide +kernel
theorem dL_suited_41 : decode cL_suited 41 = .ok (.ior, 1) := by decide +kernel
theorem dL_suited_42 : decode cL_suited 42 = .ok (.istore 4, 2) := by decide +kernel
theorem dL_suited_44 : decode cL_suited 44 = .ok (.iinc 5 1, 3) := by decide +kernel
theorem dL_suited_47 : decode cL_suited 47 = .ok (.goto (-39), 3) := by decide +kernel
theorem dL_suited_50 : decode cL_suited 50 = .ok (.aload_n 0, 1) := by decide +kernel
theorem dL_suited_51 : decode cL_suited 51 = .ok (.aload_n 1, 1) := by decide +kernel
theorem dL_suited_52 : decode cL_suited 52 = .ok (.invokestatic 11, 3) := by decide +kernel
theorem dL_suited_55 : decode cL_suited 55 = .ok (.istore 5, 2) := by decide +kernel
theorem dL_suited_57 : decode cL_suited 57 = .ok (.iload_n 2, 1) := by decide +kernel
theorem dL_suited_58 : decode cL_suited 58 = .ok (.ifCond .ne 10, 3) := by decide +kernel
theorem dL_suited_61 : decode cL_suited 61 = .ok (.iload 5, 2) := by decide +kernel
theorem dL_suited_63 : decode cL_suited 63 = .ok (.iconst (-1), 1) := by decide +kernel
theorem dL_suited_64 : decode cL_suited 64 = .ok (.ixor, 1) := by decide +kernel
theorem dL_suited_65 : decode cL_suited 65 = .ok (.goto 28, 3) := by decide +kernel
theorem dL_suited_68 : decode cL_suited 68 = .ok (.iload_n 2, 1) := by decide +kernel
theorem dL_suited_69 : decode cL_suited 69 = .ok (.iconst 3, 1) := by decide +kernel
theorem dL_suited_70 : decode cL_suited 70 = .ok (.if_icmp .ge 8, 3) := by decide +kernel
theorem dL_suited_73 : decode cL_suited 73 = .ok (.iload 5, 2) := by decide +kernel
theorem dL_suited_75 : decode cL_suited 75 = .ok (.goto 18, 3) := by decide +kernel
theorem dL_suited_78 : decode cL_suited 78 = .ok (.iload_n 2, 1) := by decide +kernel
theorem dL_suited_79 : decode cL_suited 79 = .ok (.iconst 3, 1) := by decide +kernel
theorem dL_suited_80 : decode cL_suited 80 = .ok (.if_icmp .ne 12, 3) := by decide +kernel
theorem dL_suited_83 : decode cL_suited 83 = .ok (.iload 4, 2) := by decide +kernel
theorem dL_suited_85 : decode cL_suited 85 = .ok (.iload_n 3, 1) := by decide +kernel
theorem dL_suited_86 : decode cL_suited 86 = .ok (.iconst (-1), 1) := by decide +kernel
theorem dL_suited_87 : decode cL_suited 87 = .ok (.ixor, 1) := by decide +kernel
theorem dL_suited_88 : decode cL_suited 88 = .ok (.iand, 1) := by decide +kernel
theorem dL_suited_89 : decode cL_suited 89 = .ok (.goto 4, 3) := by decide +kernel
theorem dL_suited_92 : decode cL_suited 92 = .ok (.iload_n 3, 1) := by decide +kernel
theorem dL_suited_93 : decode cL_suited 93 = .ok (.istore 6, 2) := by decide +kernel
theorem dL_suited_95 : decode cL_suited 95 = .ok (.aload_n 0, 1) := by decide +kernel
theorem dL_suited_96 : decode cL_suited 96 = .ok (.aload_n 1, 1) := by decide +kernel
theorem dL_suited_97 : decode cL_suited 97 = .ok (.invokestatic 17, 3) := by decide +kernel
theorem dL_suited_100 : decode cL_suited 100 = .ok (.iload 6, 2) := by decide +kernel
theorem dL_suited_102 : decode cL_suited 102 = .ok (.iand, 1) := by decide +kernel
theorem dL_suited_103 : decode cL_suited 103 = .ok (.ireturn, 1) := by decide +kernel
theorem dL_bits_0 : decode cL_bits 0 = .ok (.iconst 0, 1) := by decide +kernel
theorem dL_bits_1 : decode cL_bits 1 = .ok (.istore_n 1, 1) := by decide +kernel
theorem dL_bits_2 : decode cL_bits 2 = .ok (.iconst 0, 1) := by decide +kernel
theorem dL_bits_3 : decode cL_bits 3 = .ok (.istore_n 2, 1) := by decide +kernel
theorem dL_bits_4 : decode cL_bits 4 = .ok (.iload_n 2, 1) := by decide +kernel
theorem dL_bits_5 : decode cL_bits 5 = .ok (.bipush 6, 2) := by decide +kernel
theorem dL_bits_7 : decode cL_bits 7 = .ok (.if_icmp .ge 17, 3) := by decide +kernel
theorem dL_bits_10 : decode cL_bits 10 = .ok (.iload_n 1, 1) := by decide +kernel
theorem dL_bits_11 : decode cL_bits 11 = .ok (.iload_n 0, 1) := by decide +kernel
theorem dL_bits_12 : decode cL_bits 12 = .ok (.iload_n 2, 1) := by decide +kernel
theorem dL_bits_13 : decode cL_bits 13 = .ok (.ishr, 1) := by decide +kernel
theorem dL_bits_14 : decode cL_bits 14 = .ok (.iconst 1, 1) := by decide +kernel
theorem dL_bits_15 : decode cL_bits 15 = .ok (.iand, 1) := by decide +kernel
theorem dL_bits_16 : decode cL_bits 16 = .ok (.iadd, 1) := by decide +kernel
theorem dL_bits_17 : decode cL_bits 17 = .ok (.istore_n 1, 1) := by decide +kernel
theorem dL_bits_18 : decode cL_bits 18 = .ok (.iinc 2 1, 3) := by decide +kernel
theorem dL_bits_21 : decode cL_bits 21 = .ok (.goto (-17), 3) := by decide +kernel
theorem dL_bits_24 : decode cL_bits 24 = .ok (.iload_n 1, 1) := by decide +kernel
theorem dL_bits_25 : decode cL_bits 25 = .ok (.ireturn, 1) := by decide +kernel
theorem dL_only_0 : decode cL_only 0 = .ok (.iconst (-1), 1) := by decide +kernel
theorem dL_only_1 : decode cL_only 1 = .ok (.istore_n 1, 1) := by decide +kernel
theorem dL_only_2 : decode cL_only 2 = .ok (.iconst 0, 1) := by decide +kernel
theorem dL_only_3 : decode cL_only 3 = .ok (.istore_n 2, 1) := by decide +kernel
theorem dL_only_4 : decode cL_only 4 = .ok (.iload_n 2, 1) := by decide +kernel
theorem dL_only_5 : decode cL_only 5 = .ok (.bipush 6, 2) := by decide +kernel
theorem dL_only_7 : decode cL_only 7 = .ok (.if_icmp .ge 24, 3) := by decide +kernel
theorem dL_only_10 : decode cL_only 10 = .ok (.iload_n 0, 1) := by decide +kernel
theorem dL_only_11 : decode cL_only 11 = .ok (.iload_n 2, 1) := by decide +kernel
theorem dL_only_12 : decode cL_only 12 = .ok (.ishr, 1) := by decide +kernel
theorem dL_only_13 : decode cL_only 13 = .ok (.iconst 1, 1) := by decide +kernel
theorem dL_only_14 : decode cL_only 14 = .ok (.iand, 1) := by decide +kernel
theorem dL_only_15 : decode cL_only 15 = .ok (.iconst 1, 1) := by decide +kernel
theorem dL_only_16 : decode cL_only 16 = .ok (.if_icmp .ne 7, 3) := by decide +kernel
theorem dL_only_19 : decode cL_only 19 = .ok (.iload_n 2, 1) := by decide +kernel
theorem dL_only_20 : decode cL_only 20 = .ok (.goto 4, 3) := by decide +kernel
theorem dL_only_23 : decode cL_only 23 = .ok (.iload_n 1, 1) := by decide +kernel
theorem dL_only_24 : decode cL_only 24 = .ok (.istore_n 1, 1) := by decide +kernel
theorem dL_only_25 : decode cL_only 25 = .ok (.iinc 2 1, 3) := by decide +kernel
theorem dL_only_28 : decode cL_only 28 = .ok (.goto (-24), 3) := by decide +kernel
theorem dL_only_31 : decode cL_only 31 = .ok (.iload_n 1, 1) := by decide +kernel
theorem dL_only_32 : decode cL_only 32 = .ok (.ireturn, 1) := by decide +kernel
set_option maxRecDepth 20000 in
theorem ggL_fitting_L_isAdjective : GoodIn wsL_fitting wsL_isAdjective := goodIn_r _ [4] (by decide +kernel) (by decide +kernel)
set_option maxRecDepth 20000 in
theorem gL_fitting_L_isAdjective : GoodIn wsL_fitting (va_wsS RL 20 yL_isAdjective wsL_isAdjective) := goodIn_app (goodIn_of _ (by decide +kernel)) ggL_fitting_L_isAdjective
theorem dL_fitting_0 : decode cL_fitting 0 = .ok (.iload_n 1, 1) := by decide +kernel
theorem dL_fitting_1 : decode cL_fitting 1 = .ok (.istore 6, 2) := by decide +kernel
theorem dL_fitting_3 : decode cL_fitting 3 = .ok (.iconst 0, 1) := by decide +kernel
theorem dL_fitting_4 : decode cL_fitting 4 = .ok (.istore 7, 2) := by decide +kernel
theorem dL_fitting_6 : decode cL_fitting 6 = .ok (.iload 7, 2) := by decide +kernel
theorem dL_fitting_8 : decode cL_fitting 8 = .ok (.bipush 6, 2) := by decide +kernel
theorem dL_fitting_10 : decode cL_fitting 10 = .ok (.if_icmp .ge 109, 3) := by decide +kernel
theorem dL_fitting_13 : decode cL_fitting 13 = .ok (.iload 5, 2) := by decide +kernel
theorem dL_fitting_15 : decode cL_fitting 15 = .ok (.ifCond .lt 12, 3) := by decide +kernel
theorem dL_fitting_18 : decode cL_fitting 18 = .ok (.aload_n 0, 1) := by decide +kernel
theorem dL_fitting_19 : decode cL_fitting 19 = .ok (.iload 7, 2) := by decide +kernel
theorem dL_fitting_21 : decode cL_fitting 21 = .ok (.iaload, 1) := by decide +kernel
theorem dL_fitting_22 : decode cL_fitting 22 = .ok (.iload 5, 2) := by decide +kernel
theorem dL_fitting_24 : decode cL_fitting 24 = .ok (.if_icmp .ne 7, 3) := by decide +kernel
theorem dL_fitting_27 : decode cL_fitting 27 = .ok (.iconst 1, 1) := by decide +kernel
theorem dL_fitting_28 : decode cL_fitting 28 = .ok (.goto 4, 3) := by decide +kernel
theorem dL_fitting_31 : decode cL_fitting 31 = .ok (.iconst 0, 1) := by decide +kernel
theorem dL_fitting_32 : decode cL_fitting 32 = .ok (.istore 8, 2) := by decide +kernel
theorem dL_fitting_34 : decode cL_fitting 34 = .ok (.iload_n 3, 1) := by decide +kernel
theorem dL_fitting_35 : decode cL_fitting 35 = .ok (.istore 9, 2) := by decide +kernel
theorem dL_fitting_37 : decode cL_fitting 37 = .ok (.iload 9, 2) := by decide +kernel
theorem dL_fitting_39 : decode cL_fitting 39 = .ok (.iload 4, 2) := by decide +kernel
theorem dL_fitting_41 : decode cL_fitting 41 = .ok (.if_icmp .gt 52, 3) := by decide +kernel
theorem dL_fitting_44 : decode cL_fitting 44 = .ok (.iload 8, 2) := by decide +kernel
theorem dL_fitting_46 : decode cL_fitting 46 = .ok (.ifCond .eq 38, 3) := by decide +kernel
theorem dL_fitting_49 : decode cL_fitting 49 = .ok (.aload_n 2, 1) := by decide +kernel
theorem dL_fitting_50 : decode cL_fitting 50 = .ok (.iload 9, 2) := by decide +kernel
theorem dL_fitting_52 : decode cL_fitting 52 = .ok (.iaload, 1) := by decide +kernel
theorem dL_fitting_53 : decode cL_fitting 53 = .ok (.invokestatic 20, 3) := by decide +kernel
theorem dL_fitting_56 : decode cL_fitting 56 = .ok (.ifCond .eq 24, 3) := by decide +kernel
theorem dL_fitting_59 : decode cL_fitting 59 = .ok (.aload_n 0, 1) := by decide +kernel
theorem dL_fitting_60 : decode cL_fitting 60 = .ok (.bipush 6, 2) := by decide +kernel
theorem dL_fitting_62 : decode cL_fitting 62 = .ok (.iload 7, 2) := by decide +kernel
theorem dL_fitting_64 : decode cL_fitting 64 = .ok (.iadd, 1) := by decide +kernel
theorem dL_fitting_65 : decode cL_fitting 65 = .ok (.iaload, 1) := by decide +kernel
theorem dL_fitting_66 : decode cL_fitting 66 = .ok (.aload_n 2, 1) := by decide +kernel
theorem dL_fitting_67 : decode cL_fitting 67 = .ok (.iload 9, 2) := by decide +kernel
theorem dL_fitting_69 : decode cL_fitting 69 = .ok (.iaload, 1) := by decide +kernel
theorem dL_fitting_70 : decode cL_fitting 70 = .ok (.bipush 20, 2) := by decide +kernel
theorem dL_fitting_72 : decode cL_fitting 72 = .ok (.isub, 1) := by decide +kernel
theorem dL_fitting_73 : decode cL_fitting 73 = .ok (.ishr, 1) := by decide +kernel
theorem dL_fitting_74 : decode cL_fitting 74 = .ok (.iconst 1, 1) := by decide +kernel
theorem dL_fitting_75 : decode cL_fitting 75 = .ok (.iand, 1) := by decide +kernel
theorem dL_fitting_76 : decode cL_fitting 76 = .ok (.iconst 1, 1) := by decide +kernel
theorem dL_fitting_77 : decode cL_fitting 77 = .ok (.if_icmp .ne 7, 3) := by decide +kernel
theorem dL_fitting_80 : decode cL_fitting 80 = .ok (.iconst 1, 1) := by decide +kernel
theorem dL_fitting_81 : decode cL_fitting 81 = .ok (.goto 4, 3) := by decide +kernel
theorem dL_fitting_84 : decode cL_fitting 84 = .ok (.iconst 0, 1) := by decide +kernel
theorem dL_fitting_85 : decode cL_fitting 85 = .ok (.istore 8, 2) := by decide +kernel
theorem dL_fitting_87 : decode cL_fitting 87 = .ok (.iinc 9 1, 3) := by decide +kernel
theorem dL_fitting_90 : decode cL_fitting 90 = .ok (.goto (-53), 3) := by decide +kernel
theorem dL_fitting_93 : decode cL_fitting 93 = .ok (.iload 6, 2) := by decide +kernel
theorem dL_fitting_95 : decode cL_fitting 95 = .ok (.iload 8, 2) := by decide +kernel
theorem dL_fitting_97 : decode cL_fitting 97 = .ok (.ifCond .eq 7, 3) := by decide +kernel
theorem dL_fitting_100 : decode cL_fitting 100 = .ok (.iconst (-1), 1) := by decide +kernel
theorem dL_fitting_101 : decode cL_fitting 101 = .ok (.goto 9, 3) := by decide +kernel
theorem dL_fitting_104 : decode cL_fitting 104 = .ok (.iconst 1, 1) := by decide +kernel
theorem dL_fitting_105 : decode cL_fitting 105 = .ok (.iload 7, 2) := by decide +kernel
theorem dL_fitting_107 : decode cL_fitting 107 = .ok (.ishl, 1) := by decide +kernel
theorem dL_fitting_108 : decode cL_fitting 108 = .ok (.iconst (-1), 1) := by decide +kernel
theorem dL_fitting_109 : decode cL_fitting 109 = .ok (.ixor, 1) := by decide +kernel
theorem dL_fitting_110 : decode cL_fitting 110 = .ok (.iand, 1) := by decide +kernel
theorem dL_fitting_111 : decode cL_fitting 111 = .ok (.istore 6, 2) := by decide +kernel
theorem dL_fitting_113 : decode cL_fitting 113 = .ok (.iinc 7 1, 3) := by decide +kernel
theorem dL_fitting_116 : decode cL_fitting 116 = .ok (.goto (-110), 3) := by decide +kernel
theorem dL_fitting_119 : decode cL_fitting 119 = .ok (.iload 6, 2) := by decide +kernel
theorem dL_fitting_121 : decode cL_fitting 121 = .ok (.ireturn, 1) := by decide +kernel
set_option maxRecDepth 20000 in
theorem ggL_described_L_isAdjective : GoodIn wsL_described wsL_isAdjective := goodIn_r _ [4] (by decide +kernel) (by decide +kernel)
set_option maxRecDepth 20000 in
theorem gL_described_L_isAdjective : GoodIn wsL_described (va_wsS RL 20 yL_isAdjective wsL_isAdjective) := goodIn_app (goodIn_of _ (by decide +kernel)) ggL_described_L_isAdjective
set_option maxRecDepth 20000 in
theorem ggL_described_L_isNoun : GoodIn wsL_described wsL_isNoun := goodIn_r _ [7] (by decide +kernel) (by decide +kernel)
set_option maxRecDepth 20000 in
theorem gL_described_L_isNoun : GoodIn wsL_described (va_wsS RL 24 yL_isNoun wsL_isNoun) := goodIn_app (goodIn_of _ (by decide +kernel)) ggL_described_L_isNoun
set_option maxRecDepth 20000 in
theorem ggL_described_L_isPlural : GoodIn wsL_described wsL_isPlural := goodIn_r _ [10] (by decide +kernel) (by decide +kernel)
set_option maxRecDepth 20000 in
theorem gL_described_L_isPlural : GoodIn wsL_described (va_wsS RL 27 yL_isPlural wsL_isPlural) := goodIn_app (goodIn_of _ (by decide +kernel)) ggL_described_L_isPlural
theorem dL_described_0 : decode cL_described 0 = .ok (.iload_n 2, 1) := by decide +kernel
theorem dL_described_1 : decode cL_described 1 = .ok (.istore 4, 2) := by decide +kernel
theorem dL_described_3 : decode cL_described 3 = .ok (.iload 4, 2) := by decide +kernel
theorem dL_described_5 : decode cL_described 5 = .ok (.iload_n 1, 1) := by decide +kernel
theorem dL_described_6 : decode cL_described 6 = .ok (.if_icmp .ge 17, 3) := by decide +kernel
theorem dL_described_9 : decode cL_described 9 = .ok (.aload_n 0, 1) := by decide +kernel
theorem dL_described_10 : decode cL_described 10 = .ok (.iload 4, 2) := by decide +kernel
theorem dL_described_12 : decode cL_described 12 = .ok (.iaload, 1) := by decide +kernel
theorem dL_described_13 : decode cL_described 13 = .ok (.bipush 14, 2) := by decide +kernel
theorem dL_described_15 : decode cL_described 15 = .ok (.if_icmp .ne 8, 3) := by decide +kernel
theorem dL_described_18 : decode cL_described 18 = .ok (.iload 4, 2) := by decide +kernel
theorem dL_described_20 : decode cL_described 20 = .ok (.iconst 1, 1) := by decide +kernel
theorem dL_described_21 : decode cL_described 21 = .ok (.iadd, 1) := by decide +kernel
theorem dL_described_22 : decode cL_described 22 = .ok (.ireturn, 1) := by decide +kernel
theorem dL_described_23 : decode cL_described 23 = .ok (.iload 4, 2) := by decide +kernel
theorem dL_described_25 : decode cL_described 25 = .ok (.iload 4, 2) := by decide +kernel
theorem dL_described_27 : decode cL_described 27 = .ok (.iload_n 1, 1) := by decide +kernel
theorem dL_described_28 : decode cL_described 28 = .ok (.if_icmp .ge 16, 3) := by decide +kernel
theorem dL_described_31 : decode cL_described 31 = .ok (.aload_n 0, 1) := by decide +kernel
theorem dL_described_32 : decode cL_described 32 = .ok (.iload 4, 2) := by decide +kernel
theorem dL_described_34 : decode cL_described 34 = .ok (.iaload, 1) := by decide +kernel
theorem dL_described_35 : decode cL_described 35 = .ok (.bipush 10, 2) := by decide +kernel
theorem dL_described_37 : decode cL_described 37 = .ok (.if_icmp .ne 7, 3) := by decide +kernel
theorem dL_described_40 : decode cL_described 40 = .ok (.iconst 1, 1) := by decide +kernel
theorem dL_described_41 : decode cL_described 41 = .ok (.goto 4, 3) := by decide +kernel
theorem dL_described_44 : decode cL_described 44 = .ok (.iconst 0, 1) := by decide +kernel
theorem dL_described_45 : decode cL_described 45 = .ok (.iadd, 1) := by decide +kernel
theorem dL_described_46 : decode cL_described 46 = .ok (.istore 4, 2) := by decide +kernel
theorem dL_described_48 : decode cL_described 48 = .ok (.iload 4, 2) := by decide +kernel
theorem dL_described_50 : decode cL_described 50 = .ok (.istore 5, 2) := by decide +kernel
theorem dL_described_52 : decode cL_described 52 = .ok (.iload 4, 2) := by decide +kernel
theorem dL_described_54 : decode cL_described 54 = .ok (.iload_n 1, 1) := by decide +kernel
theorem dL_described_55 : decode cL_described 55 = .ok (.if_icmp .ge 19, 3) := by decide +kernel
theorem dL_described_58 : decode cL_described 58 = .ok (.aload_n 0, 1) := by decide +kernel
theorem dL_described_59 : decode cL_described 59 = .ok (.iload 4, 2) := by decide +kernel
theorem dL_described_61 : decode cL_described 61 = .ok (.iaload, 1) := by decide +kernel
theorem dL_described_62 : decode cL_described 62 = .ok (.invokestatic 20, 3) := by decide +kernel
theorem dL_described_65 : decode cL_described 65 = .ok (.ifCond .eq 9, 3) := by decide +kernel
theorem dL_described_68 : decode cL_described 68 = .ok (.iinc 4 1, 3) := by decide +kernel
theorem dL_described_71 : decode cL_described 71 = .ok (.goto (-19), 3) := by decide +kernel
theorem dL_described_74 : decode cL_described 74 = .ok (.iload 4, 2) := by decide +kernel
theorem dL_described_76 : decode cL_described 76 = .ok (.iload_n 1, 1) := by decide +kernel
theorem dL_described_77 : decode cL_described 77 = .ok (.if_icmp .ge 48, 3) := by decide +kernel
theorem dL_described_80 : decode cL_described 80 = .ok (.aload_n 0, 1) := by decide +kernel
theorem dL_described_81 : decode cL_described 81 = .ok (.iload 4, 2) := by decide +kernel
theorem dL_described_83 : decode cL_described 83 = .ok (.iaload, 1) := by decide +kernel
theorem dL_described_84 : decode cL_described 84 = .ok (.invokestatic 24, 3) := by decide +kernel
theorem dL_described_87 : decode cL_described 87 = .ok (.ifCond .ne 34, 3) := by decide +kernel
theorem dL_described_90 : decode cL_described 90 = .ok (.aload_n 0, 1) := by decide +kernel
theorem dL_described_91 : decode cL_described 91 = .ok (.iload 4, 2) := by decide +kernel
theorem dL_described_93 : decode cL_described 93 = .ok (.iaload, 1) := by decide +kernel
theorem dL_described_94 : decode cL_described 94 = .ok (.bipush 17, 2) := by decide +kernel
theorem dL_described_96 : decode cL_described 96 = .ok (.if_icmp .ne 10, 3) := by decide +kernel
theorem dL_described_99 : decode cL_described 99 = .ok (.iload 4, 2) := by decide +kernel
theorem dL_described_101 : decode cL_described 101 = .ok (.iload 5, 2) := by decide +kernel
theorem dL_described_103 : decode cL_described 103 = .ok (.if_icmp .gt 18, 3) := by decide +kernel
theorem dL_described_106 : decode cL_described 106 = .ok (.iload_n 3, 1) := by decide +kernel
theorem dL_described_107 : decode cL_described 107 = .ok (.iconst 1, 1) := by decide +kernel
theorem dL_described_108 : decode cL_described 108 = .ok (.if_icmp .ne 17, 3) := by decide +kernel
theorem dL_described_111 : decode cL_described 111 = .ok (.aload_n 0, 1) := by decide +kernel
theorem dL_described_112 : decode cL_described 112 = .ok (.iload 4, 2) := by decide +kernel
theorem dL_described_114 : decode cL_described 114 = .ok (.iaload, 1) := by decide +kernel
theorem dL_described_115 : decode cL_described 115 = .ok (.invokestatic 27, 3) := by decide +kernel
theorem dL_described_118 : decode cL_described 118 = .ok (.ifCond .eq 7, 3) := by decide +kernel
theorem dL_described_121 : decode cL_described 121 = .ok (.iconst 1, 1) := by decide +kernel
theorem dL_described_122 : decode cL_described 122 = .ok (.goto 4, 3) := by decide +kernel
theorem dL_described_125 : decode cL_described 125 = .ok (.iconst 0, 1) := by decide +kernel
theorem dL_described_126 : decode cL_described 126 = .ok (.istore 6, 2) := by decide +kernel
theorem dL_described_128 : decode cL_described 128 = .ok (.iload 6, 2) := by decide +kernel
theorem dL_described_130 : decode cL_described 130 = .ok (.ifCond .eq 10, 3) := by decide +kernel
theorem dL_described_133 : decode cL_described 133 = .ok (.iload 4, 2) := by decide +kernel
theorem dL_described_135 : decode cL_described 135 = .ok (.iconst 1, 1) := by decide +kernel
theorem dL_described_136 : decode cL_described 136 = .ok (.iadd, 1) := by decide +kernel
theorem dL_described_137 : decode cL_described 137 = .ok (.goto 7, 3) := by decide +kernel
theorem dL_described_140 : decode cL_described 140 = .ok (.iconst (-1), 1) := by decide +kernel
theorem dL_described_141 : decode cL_described 141 = .ok (.iload 4, 2) := by decide +kernel
theorem dL_described_143 : decode cL_described 143 = .ok (.isub, 1) := by decide +kernel
theorem dL_described_144 : decode cL_described 144 = .ok (.ireturn, 1) := by decide +kernel
set_option maxRecDepth 20000 in
theorem ggL_leftOut_L_described : GoodIn wsL_leftOut wsL_described := goodIn_r _ [4, 5, 6, 3, 7, 8, 9, 10, 11, 12, 13] (by decide +kernel) (by decide +kernel)
set_option maxRecDepth 20000 in
theorem gL_leftOut_L_described : GoodIn wsL_leftOut (va_wsS RL 30 yL_described wsL_described) := goodIn_app (goodIn_of _ (by decide +kernel)) ggL_leftOut_L_described
theorem dL_leftOut_0 : decode cL_leftOut 0 = .ok (.aload_n 0, 1) := by decide +kernel
theorem dL_leftOut_1 : decode cL_leftOut 1 = .ok (.iload_n 1, 1) := by decide +kernel
theorem dL_leftOut_2 : decode cL_leftOut 2 = .ok (.iload_n 2, 1) := by decide +kernel
theorem dL_leftOut_3 : decode cL_leftOut 3 = .ok (.iconst 0, 1) := by decide +kernel
theorem dL_leftOut_4 : decode cL_leftOut 4 = .ok (.invokestatic 30, 3) := by decide +kernel
theorem dL_leftOut_7 : decode cL_leftOut 7 = .ok (.istore_n 3, 1) := by decide +kernel
theorem dL_leftOut_8 : decode cL_leftOut 8 = .ok (.iload_n 3, 1) := by decide +kernel
theorem dL_leftOut_9 : decode cL_leftOut 9 = .ok (.ifCond .le 40, 3) := by decide +kernel
theorem dL_leftOut_12 : decode cL_leftOut 12 = .ok (.iload_n 3, 1) := by decide +kernel
theorem dL_leftOut_13 : decode cL_leftOut 13 = .ok (.iload_n 1, 1) := by decide +kernel
theorem dL_leftOut_14 : decode cL_leftOut 14 = .ok (.if_icmp .ge 35, 3) := by decide +kernel
theorem dL_leftOut_17 : decode cL_leftOut 17 = .ok (.aload_n 0, 1) := by decide +kernel
theorem dL_leftOut_18 : decode cL_leftOut 18 = .ok (.iload_n 3, 1) := by decide +kernel
theorem dL_leftOut_19 : decode cL_leftOut 19 = .ok (.iaload, 1) := by decide +kernel
theorem dL_leftOut_20 : decode cL_leftOut 20 = .ok (.bipush 13, 2) := by decide +kernel
theorem dL_leftOut_22 : decode cL_leftOut 22 = .ok (.if_icmp .ne 27, 3) := by decide +kernel
theorem dL_leftOut_25 : decode cL_leftOut 25 = .ok (.aload_n 0, 1) := by decide +kernel
theorem dL_leftOut_26 : decode cL_leftOut 26 = .ok (.iload_n 1, 1) := by decide +kernel
theorem dL_leftOut_27 : decode cL_leftOut 27 = .ok (.iload_n 3, 1) := by decide +kernel
theorem dL_leftOut_28 : decode cL_leftOut 28 = .ok (.iconst 1, 1) := by decide +kernel
theorem dL_leftOut_29 : decode cL_leftOut 29 = .ok (.iadd, 1) := by decide +kernel
theorem dL_leftOut_30 : decode cL_leftOut 30 = .ok (.iconst 0, 1) := by decide +kernel
theorem dL_leftOut_31 : decode cL_leftOut 31 = .ok (.invokestatic 30, 3) := by decide +kernel
theorem dL_leftOut_34 : decode cL_leftOut 34 = .ok (.istore 4, 2) := by decide +kernel
theorem dL_leftOut_36 : decode cL_leftOut 36 = .ok (.iload 4, 2) := by decide +kernel
theorem dL_leftOut_38 : decode cL_leftOut 38 = .ok (.ifCond .ge 5, 3) := by decide +kernel
theorem dL_leftOut_41 : decode cL_leftOut 41 = .ok (.iload_n 3, 1) := by decide +kernel
theorem dL_leftOut_42 : decode cL_leftOut 42 = .ok (.ireturn, 1) := by decide +kernel
theorem dL_leftOut_43 : decode cL_leftOut 43 = .ok (.iload 4, 2) := by decide +kernel
theorem dL_leftOut_45 : decode cL_leftOut 45 = .ok (.istore_n 3, 1) := by decide +kernel
theorem dL_leftOut_46 : decode cL_leftOut 46 = .ok (.goto (-38), 3) := by decide +kernel
theorem dL_leftOut_49 : decode cL_leftOut 49 = .ok (.iload_n 3, 1) := by decide +kernel
theorem dL_leftOut_50 : decode cL_leftOut 50 = .ok (.ireturn, 1) := by decide +kernel
set_option maxRecDepth 20000 in
theorem ggL_part_L_isAdjective : GoodIn wsL_part wsL_isAdjective := goodIn_r _ [4] (by decide +kernel) (by decide +kernel)
set_option maxRecDepth 20000 in
theorem gL_part_L_isAdjective : GoodIn wsL_part (va_wsS RL 20 yL_isAdjective wsL_isAdjective) := goodIn_app (goodIn_of _ (by decide +kernel)) ggL_part_L_isAdjective
set_option maxRecDepth 20000 in
theorem ggL_part_L_isPlural : GoodIn wsL_part wsL_isPlural := goodIn_r _ [7] (by decide +kernel) (by decide +kernel)
set_option maxRecDepth 20000 in
theorem gL_part_L_isPlural : GoodIn wsL_part (va_wsS RL 27 yL_isPlural wsL_isPlural) := goodIn_app (goodIn_of _ (by decide +kernel)) ggL_part_L_isPlural
set_option maxRecDepth 20000 in
theorem ggL_part_L_described : GoodIn wsL_part wsL_described := goodIn_r _ [10, 1, 2, 3, 4, 11, 12, 13, 5, 6, 7] (by decide +kernel) (by decide +kernel)
set_option maxRecDepth 20000 in
theorem gL_part_L_described : GoodIn wsL_part (va_wsS RL 30 yL_described wsL_described) := goodIn_app (goodIn_of _ (by decide +kernel)) ggL_part_L_described
set_option maxRecDepth 20000 in
theorem ggL_part_L_leftOut : GoodIn wsL_part wsL_leftOut := goodIn_r _ [16, 8, 9, 3, 10, 1, 2, 4, 11, 12, 13, 5, 6, 7] (by decide +kernel) (by decide +kernel)
set_option maxRecDepth 20000 in
theorem gL_part_L_leftOut : GoodIn wsL_part (va_wsS RL 34 yL_leftOut wsL_leftOut) := goodIn_app (goodIn_of _ (by decide +kernel)) ggL_part_L_leftOut
theorem dL_part_0 : decode cL_part 0 = .ok (.iload_n 2, 1) := by decide +kernel
theorem dL_part_1 : decode cL_part 1 = .ok (.iload_n 1, 1) := by decide +kernel
theorem dL_part_2 : decode cL_part 2 = .ok (.if_icmp .ne 7, 3) := by decide +kernel
theorem dL_part_5 : decode cL_part 5 = .ok (.iconst (-1), 1) := by decide +kernel
theorem dL_part_6 : decode cL_part 6 = .ok (.iload_n 1, 1) := by decide +kernel
theorem dL_part_7 : decode cL_part 7 = .ok (.isub, 1) := by decide +kernel
theorem dL_part_8 : decode cL_part 8 = .ok (.ireturn, 1) := by decide +kernel
theorem dL_part_9 : decode cL_part 9 = .ok (.aload_n 0, 1) := by decide +kernel
theorem dL_part_10 : decode cL_part 10 = .ok (.iload_n 2, 1) := by decide +kernel
theorem dL_part_11 : decode cL_part 11 = .ok (.iaload, 1) := by decide +kernel
theorem dL_part_12 : decode cL_part 12 = .ok (.bipush 15, 2) := by decide +kernel
theorem dL_part_14 : decode cL_part 14 = .ok (.if_icmp .ne 7, 3) := by decide +kernel
theorem dL_part_17 : decode cL_part 17 = .ok (.iload_n 2, 1) := by decide +kernel
theorem dL_part_18 : decode cL_part 18 = .ok (.iconst 1, 1) := by decide +kernel
theorem dL_part_19 : decode cL_part 19 = .ok (.iadd, 1) := by decide +kernel
theorem dL_part_20 : decode cL_part 20 = .ok (.ireturn, 1) := by decide +kernel
theorem dL_part_21 : decode cL_part 21 = .ok (.iload_n 2, 1) := by decide +kernel
theorem dL_part_22 : decode cL_part 22 = .ok (.iconst 1, 1) := by decide +kernel
theorem dL_part_23 : decode cL_part 23 = .ok (.iadd, 1) := by decide +kernel
theorem dL_part_24 : decode cL_part 24 = .ok (.istore_n 3, 1) := by decide +kernel
theorem dL_part_25 : decode cL_part 25 = .ok (.aload_n 0, 1) := by decide +kernel
theorem dL_part_26 : decode cL_part 26 = .ok (.iload_n 2, 1) := by decide +kernel
theorem dL_part_27 : decode cL_part 27 = .ok (.iaload, 1) := by decide +kernel
theorem dL_part_28 : decode cL_part 28 = .ok (.bipush 11, 2) := by decide +kernel
theorem dL_part_30 : decode cL_part 30 = .ok (.if_icmp .ne 76, 3) := by decide +kernel
theorem dL_part_33 : decode cL_part 33 = .ok (.iload_n 3, 1) := by decide +kernel
theorem dL_part_34 : decode cL_part 34 = .ok (.iload_n 1, 1) := by decide +kernel
theorem dL_part_35 : decode cL_part 35 = .ok (.if_icmp .ge 18, 3) := by decide +kernel
theorem dL_part_38 : decode cL_part 38 = .ok (.aload_n 0, 1) := by decide +kernel
theorem dL_part_39 : decode cL_part 39 = .ok (.iload_n 3, 1) := by decide +kernel
theorem dL_part_40 : decode cL_part 40 = .ok (.iaload, 1) := by decide +kernel
theorem dL_part_41 : decode cL_part 41 = .ok (.invokestatic 20, 3) := by decide +kernel
theorem dL_part_44 : decode cL_part 44 = .ok (.ifCond .eq 9, 3) := by decide +kernel
theorem dL_part_47 : decode cL_part 47 = .ok (.iinc 3 1, 3) := by decide +kernel
theorem dL_part_50 : decode cL_part 50 = .ok (.goto (-17), 3) := by decide +kernel
theorem dL_part_53 : decode cL_part 53 = .ok (.iload_n 3, 1) := by decide +kernel
theorem dL_part_54 : decode cL_part 54 = .ok (.iload_n 1, 1) := by decide +kernel
theorem dL_part_55 : decode cL_part 55 = .ok (.if_icmp .ge 16, 3) := by decide +kernel
theorem dL_part_58 : decode cL_part 58 = .ok (.aload_n 0, 1) := by decide +kernel
theorem dL_part_59 : decode cL_part 59 = .ok (.iload_n 3, 1) := by decide +kernel
theorem dL_part_60 : decode cL_part 60 = .ok (.iaload, 1) := by decide +kernel
theorem dL_part_61 : decode cL_part 61 = .ok (.invokestatic 27, 3) := by decide +kernel
theorem dL_part_64 : decode cL_part 64 = .ok (.ifCond .eq 7, 3) := by decide +kernel
theorem dL_part_67 : decode cL_part 67 = .ok (.iconst 1, 1) := by decide +kernel
theorem dL_part_68 : decode cL_part 68 = .ok (.goto 4, 3) := by decide +kernel
theorem dL_part_71 : decode cL_part 71 = .ok (.iconst 0, 1) := by decide +kernel
theorem dL_part_72 : decode cL_part 72 = .ok (.istore 4, 2) := by decide +kernel
theorem dL_part_74 : decode cL_part 74 = .ok (.iload 4, 2) := by decide +kernel
theorem dL_part_76 : decode cL_part 76 = .ok (.ifCond .ne 14, 3) := by decide +kernel
theorem dL_part_79 : decode cL_part 79 = .ok (.iload_n 3, 1) := by decide +kernel
theorem dL_part_80 : decode cL_part 80 = .ok (.iload_n 2, 1) := by decide +kernel
theorem dL_part_81 : decode cL_part 81 = .ok (.iconst 1, 1) := by decide +kernel
theorem dL_part_82 : decode cL_part 82 = .ok (.iadd, 1) := by decide +kernel
theorem dL_part_83 : decode cL_part 83 = .ok (.if_icmp .le 7, 3) := by decide +kernel
theorem dL_part_86 : decode cL_part 86 = .ok (.iconst (-1), 1) := by decide +kernel
theorem dL_part_87 : decode cL_part 87 = .ok (.iload_n 3, 1) := by decide +kernel
theorem dL_part_88 : decode cL_part 88 = .ok (.isub, 1) := by decide +kernel
theorem dL_part_89 : decode cL_part 89 = .ok (.ireturn, 1) := by decide +kernel
theorem dL_part_90 : decode cL_part 90 = .ok (.iload_n 3, 1) := by decide +kernel
theorem dL_part_91 : decode cL_part 91 = .ok (.iload 4, 2) := by decide +kernel
theorem dL_part_93 : decode cL_part 93 = .ok (.ifCond .eq 7, 3) := by decide +kernel
theorem dL_part_96 : decode cL_part 96 = .ok (.iconst 1, 1) := by decide +kernel
theorem dL_part_97 : decode cL_part 97 = .ok (.goto 4, 3) := by decide +kernel
