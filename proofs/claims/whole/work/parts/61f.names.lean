set_option maxRecDepth 20000 in
theorem ggX5_hearAnswer_X5_dropQuestion : GoodIn wsX5_hearAnswer wsX5_dropQuestion := goodIn_r _ [69, 4, 6, 182, 183, 184, 185, 186, 187, 188, 189, 190, 191] (by decide +kernel) (by decide +kernel)
set_option maxRecDepth 20000 in
theorem gX5_hearAnswer_X5_dropQuestion : GoodIn wsX5_hearAnswer (wsV RX5 153 RX5 yX5_dropQuestion wsX5_dropQuestion) := goodIn_app (goodIn_of _ (by decide +kernel)) ggX5_hearAnswer_X5_dropQuestion
set_option maxRecDepth 20000 in
theorem ggX5_hearAnswer_X5_lookAtOrder : GoodIn wsX5_hearAnswer wsX5_lookAtOrder := goodIn_r _ [73, 74, 5, 2, 4, 6, 75, 76, 77, 78, 79, 80, 81, 82, 83, 84, 85, 86, 87, 43, 88, 45, 89, 90, 91, 92, 93, 94, 95, 30, 96, 97, 98, 99, 100, 101, 102, 103, 104, 105, 106, 107, 108, 109, 110, 111, 112, 113, 114, 115, 116, 58, 117, 118, 61, 62, 63, 64, 65, 119, 120, 121, 122, 123, 124, 125, 126, 127, 128, 129, 130, 131, 132, 133, 134, 135, 136, 137, 41, 42, 44, 46, 47, 138, 49, 50, 51, 52, 53, 54, 139, 140, 141, 142, 143, 144, 145, 146, 147, 148, 149, 150, 151, 152, 153, 154, 155, 3, 156, 157, 158, 159, 160, 161, 162, 163, 164, 165, 166, 167, 168, 169, 170, 171, 172, 173, 174, 175, 176, 177, 178, 179, 180, 181, 182, 183, 184, 185, 186, 187, 188, 189, 190, 191, 211, 212, 213, 214, 215, 216, 217, 218, 219, 203, 204, 205, 206, 207, 208, 209, 210, 197, 198, 199, 200, 201, 202, 220, 221, 222, 223, 224] (by decide +kernel) (by decide +kernel)
set_option maxRecDepth 20000 in
theorem gX5_hearAnswer_X5_lookAtOrder : GoodIn wsX5_hearAnswer (wsV RX5 163 RX5 yX5_lookAtOrder wsX5_lookAtOrder) := goodIn_app (goodIn_of _ (by decide +kernel)) ggX5_hearAnswer_X5_lookAtOrder
theorem dX5_hearAnswer_0 : decode cX5_hearAnswer 0 = .ok (.aload_n 0, 1) := by decide +kernel
theorem dX5_hearAnswer_1 : decode cX5_hearAnswer 1 = .ok (.getfield 19, 3) := by decide +kernel
theorem dX5_hearAnswer_4 : decode cX5_hearAnswer 4 = .ok (.invokevirtual 166, 3) := by decide +kernel
theorem dX5_hearAnswer_7 : decode cX5_hearAnswer 7 = .ok (.ifCond .ne 16, 3) := by decide +kernel
theorem dX5_hearAnswer_10 : decode cX5_hearAnswer 10 = .ok (.aload_n 0, 1) := by decide +kernel
theorem dX5_hearAnswer_11 : decode cX5_hearAnswer 11 = .ok (.aload_n 0, 1) := by decide +kernel
theorem dX5_hearAnswer_12 : decode cX5_hearAnswer 12 = .ok (.getfield 19, 3) := by decide +kernel
theorem dX5_hearAnswer_15 : decode cX5_hearAnswer 15 = .ok (.getfield 160, 3) := by decide +kernel
theorem dX5_hearAnswer_18 : decode cX5_hearAnswer 18 = .ok (.putfield 50, 3) := by decide +kernel
theorem dX5_hearAnswer_21 : decode cX5_hearAnswer 21 = .ok (.iconst 4, 1) := by decide +kernel
theorem dX5_hearAnswer_22 : decode cX5_hearAnswer 22 = .ok (.ireturn, 1) := by decide +kernel
theorem dX5_hearAnswer_23 : decode cX5_hearAnswer 23 = .ok (.aload_n 0, 1) := by decide +kernel
theorem dX5_hearAnswer_24 : decode cX5_hearAnswer 24 = .ok (.getfield 12, 3) := by decide +kernel
theorem dX5_hearAnswer_27 : decode cX5_hearAnswer 27 = .ok (.aload_n 0, 1) := by decide +kernel
theorem dX5_hearAnswer_28 : decode cX5_hearAnswer 28 = .ok (.getfield 53, 3) := by decide +kernel
theorem dX5_hearAnswer_31 : decode cX5_hearAnswer 31 = .ok (.aload_n 0, 1) := by decide +kernel
theorem dX5_hearAnswer_32 : decode cX5_hearAnswer 32 = .ok (.getfield 19, 3) := by decide +kernel
theorem dX5_hearAnswer_35 : decode cX5_hearAnswer 35 = .ok (.getfield 170, 3) := by decide +kernel
theorem dX5_hearAnswer_38 : decode cX5_hearAnswer 38 = .ok (.aload_n 0, 1) := by decide +kernel
theorem dX5_hearAnswer_39 : decode cX5_hearAnswer 39 = .ok (.getfield 19, 3) := by decide +kernel
theorem dX5_hearAnswer_42 : decode cX5_hearAnswer 42 = .ok (.getfield 173, 3) := by decide +kernel
theorem dX5_hearAnswer_45 : decode cX5_hearAnswer 45 = .ok (.invokevirtual 176, 3) := by decide +kernel
theorem dX5_hearAnswer_48 : decode cX5_hearAnswer 48 = .ok (.istore_n 1, 1) := by decide +kernel
theorem dX5_hearAnswer_49 : decode cX5_hearAnswer 49 = .ok (.iload_n 1, 1) := by decide +kernel
theorem dX5_hearAnswer_50 : decode cX5_hearAnswer 50 = .ok (.ifCond .ne 5, 3) := by decide +kernel
theorem dX5_hearAnswer_53 : decode cX5_hearAnswer 53 = .ok (.iconst 5, 1) := by decide +kernel
theorem dX5_hearAnswer_54 : decode cX5_hearAnswer 54 = .ok (.ireturn, 1) := by decide +kernel
theorem dX5_hearAnswer_55 : decode cX5_hearAnswer 55 = .ok (.iload_n 1, 1) := by decide +kernel
theorem dX5_hearAnswer_56 : decode cX5_hearAnswer 56 = .ok (.invokestatic 180, 3) := by decide +kernel
theorem dX5_hearAnswer_59 : decode cX5_hearAnswer 59 = .ok (.iconst 1, 1) := by decide +kernel
theorem dX5_hearAnswer_60 : decode cX5_hearAnswer 60 = .ok (.if_icmp .le 10, 3) := by decide +kernel
theorem dX5_hearAnswer_63 : decode cX5_hearAnswer 63 = .ok (.aload_n 0, 1) := by decide +kernel
theorem dX5_hearAnswer_64 : decode cX5_hearAnswer 64 = .ok (.iload_n 1, 1) := by decide +kernel
theorem dX5_hearAnswer_65 : decode cX5_hearAnswer 65 = .ok (.putfield 53, 3) := by decide +kernel
theorem dX5_hearAnswer_68 : decode cX5_hearAnswer 68 = .ok (.iconst 1, 1) := by decide +kernel
theorem dX5_hearAnswer_69 : decode cX5_hearAnswer 69 = .ok (.ireturn, 1) := by decide +kernel
theorem dX5_hearAnswer_70 : decode cX5_hearAnswer 70 = .ok (.aload_n 0, 1) := by decide +kernel
theorem dX5_hearAnswer_71 : decode cX5_hearAnswer 71 = .ok (.getfield 26, 3) := by decide +kernel
theorem dX5_hearAnswer_74 : decode cX5_hearAnswer 74 = .ok (.aload_n 0, 1) := by decide +kernel
theorem dX5_hearAnswer_75 : decode cX5_hearAnswer 75 = .ok (.getfield 56, 3) := by decide +kernel
theorem dX5_hearAnswer_78 : decode cX5_hearAnswer 78 = .ok (.iload_n 1, 1) := by decide +kernel
theorem dX5_hearAnswer_79 : decode cX5_hearAnswer 79 = .ok (.invokevirtual 185, 3) := by decide +kernel
theorem dX5_hearAnswer_82 : decode cX5_hearAnswer 82 = .ok (.aload_n 0, 1) := by decide +kernel
theorem dX5_hearAnswer_83 : decode cX5_hearAnswer 83 = .ok (.invokevirtual 153, 3) := by decide +kernel
theorem dX5_hearAnswer_86 : decode cX5_hearAnswer 86 = .ok (.aload_n 0, 1) := by decide +kernel
theorem dX5_hearAnswer_87 : decode cX5_hearAnswer 87 = .ok (.invokevirtual 163, 3) := by decide +kernel
theorem dX5_hearAnswer_90 : decode cX5_hearAnswer 90 = .ok (.ireturn, 1) := by decide +kernel
theorem dX5_dropQuestion_0 : decode cX5_dropQuestion 0 = .ok (.aload_n 0, 1) := by decide +kernel
theorem dX5_dropQuestion_1 : decode cX5_dropQuestion 1 = .ok (.iconst 0, 1) := by decide +kernel
theorem dX5_dropQuestion_2 : decode cX5_dropQuestion 2 = .ok (.putfield 53, 3) := by decide +kernel
theorem dX5_dropQuestion_5 : decode cX5_dropQuestion 5 = .ok (.aload_n 0, 1) := by decide +kernel
theorem dX5_dropQuestion_6 : decode cX5_dropQuestion 6 = .ok (.iconst (-1), 1) := by decide +kernel
theorem dX5_dropQuestion_7 : decode cX5_dropQuestion 7 = .ok (.putfield 56, 3) := by decide +kernel
theorem dX5_dropQuestion_10 : decode cX5_dropQuestion 10 = .ok (.return_, 1) := by decide +kernel
set_option maxRecDepth 20000 in
theorem ggX5_lookAtOrder_X0_find : GoodIn wsX5_lookAtOrder wsX0_find := goodIn_r _ [10, 11, 12, 13, 14, 15, 16, 17, 18, 19, 20, 21, 22, 23, 24, 25, 26, 27, 28, 29, 30, 31, 32, 33, 9, 34, 35, 36, 37, 38, 39, 40, 41, 42, 43, 44, 45, 46, 47, 48, 49, 50, 51, 52, 53, 54, 55, 56, 57, 58, 59, 60, 61, 62, 63, 64, 65, 66, 67, 68, 69, 70, 71, 72, 73, 74, 75, 76, 77, 78, 79, 80, 81, 82, 83, 84, 85, 86, 87, 88, 89, 90, 91, 92, 93, 94, 95, 96, 97, 144, 145, 146, 147, 148, 149, 150, 151, 152, 153, 154, 155, 156, 157, 158, 159, 160, 161, 162, 163, 164, 165, 166, 167, 168, 169, 170, 171] (by decide +kernel) (by decide +kernel)
set_option maxRecDepth 20000 in
theorem gX5_lookAtOrder_X0_find : GoodIn wsX5_lookAtOrder (wsV RX5 189 RX0 yX0_find wsX0_find) := goodIn_app (goodIn_of _ (by decide +kernel)) ggX5_lookAtOrder_X0_find
set_option maxRecDepth 20000 in
theorem ggX5_lookAtOrder_X2_lastPlaceOf : GoodIn wsX5_lookAtOrder wsX2_lastPlaceOf := goodIn_r _ [101, 102, 54, 55, 56, 51, 57, 58, 153, 154, 155, 156, 157, 158, 159, 160] (by decide +kernel) (by decide +kernel)
set_option maxRecDepth 20000 in
theorem gX5_lookAtOrder_X2_lastPlaceOf : GoodIn wsX5_lookAtOrder (wsV RX5 150 RX2 yX2_lastPlaceOf wsX2_lastPlaceOf) := goodIn_app (goodIn_of _ (by decide +kernel)) ggX5_lookAtOrder_X2_lastPlaceOf
set_option maxRecDepth 20000 in
theorem ggX5_lookAtOrder_X5_carryOut : GoodIn wsX5_lookAtOrder wsX5_carryOut := goodIn_r _ [106, 1, 107, 2, 108, 109, 28, 29, 30, 110, 111, 112, 19, 113, 27, 22, 114, 115, 116, 117, 21, 118, 39, 40, 41, 42, 43, 17, 18, 20, 23, 24, 25, 26, 44, 45, 46, 47, 119, 120, 121, 122, 123, 124, 125, 126, 127, 128, 129, 130, 131, 132, 133, 84, 85, 86, 87, 88, 89, 134, 135, 136, 137, 138, 139, 140, 141, 142, 143, 144, 145, 146, 147, 148, 149, 150, 151, 152, 153, 154, 155, 156, 157, 158, 159, 160, 161, 162, 163, 164, 165, 166, 167, 168, 169, 170, 171] (by decide +kernel) (by decide +kernel)
set_option maxRecDepth 20000 in
theorem gX5_lookAtOrder_X5_carryOut : GoodIn wsX5_lookAtOrder (wsV RX5 198 RX5 yX5_carryOut wsX5_carryOut) := goodIn_app (goodIn_of _ (by decide +kernel)) ggX5_lookAtOrder_X5_carryOut
theorem dX5_lookAtOrder_0 : decode cX5_lookAtOrder 0 = .ok (.aload_n 0, 1) := by decide +kernel
theorem dX5_lookAtOrder_1 : decode cX5_lookAtOrder 1 = .ok (.getfield 42, 3) := by decide +kernel
theorem dX5_lookAtOrder_4 : decode cX5_lookAtOrder 4 = .ok (.invokevirtual 189, 3) := by decide +kernel
theorem dX5_lookAtOrder_7 : decode cX5_lookAtOrder 7 = .ok (.istore_n 1, 1) := by decide +kernel
theorem dX5_lookAtOrder_8 : decode cX5_lookAtOrder 8 = .ok (.iload_n 1, 1) := by decide +kernel
theorem dX5_lookAtOrder_9 : decode cX5_lookAtOrder 9 = .ok (.iconst 5, 1) := by decide +kernel
theorem dX5_lookAtOrder_10 : decode cX5_lookAtOrder 10 = .ok (.if_icmp .ne 24, 3) := by decide +kernel
theorem dX5_lookAtOrder_13 : decode cX5_lookAtOrder 13 = .ok (.aload_n 0, 1) := by decide +kernel
theorem dX5_lookAtOrder_14 : decode cX5_lookAtOrder 14 = .ok (.aload_n 0, 1) := by decide +kernel
theorem dX5_lookAtOrder_15 : decode cX5_lookAtOrder 15 = .ok (.getfield 26, 3) := by decide +kernel
theorem dX5_lookAtOrder_18 : decode cX5_lookAtOrder 18 = .ok (.aload_n 0, 1) := by decide +kernel
theorem dX5_lookAtOrder_19 : decode cX5_lookAtOrder 19 = .ok (.getfield 42, 3) := by decide +kernel
theorem dX5_lookAtOrder_22 : decode cX5_lookAtOrder 22 = .ok (.getfield 192, 3) := by decide +kernel
theorem dX5_lookAtOrder_25 : decode cX5_lookAtOrder 25 = .ok (.invokevirtual 150, 3) := by decide +kernel
theorem dX5_lookAtOrder_28 : decode cX5_lookAtOrder 28 = .ok (.putfield 50, 3) := by decide +kernel
theorem dX5_lookAtOrder_31 : decode cX5_lookAtOrder 31 = .ok (.goto 37, 3) := by decide +kernel
theorem dX5_lookAtOrder_34 : decode cX5_lookAtOrder 34 = .ok (.iload_n 1, 1) := by decide +kernel
theorem dX5_lookAtOrder_35 : decode cX5_lookAtOrder 35 = .ok (.iconst 1, 1) := by decide +kernel
theorem dX5_lookAtOrder_36 : decode cX5_lookAtOrder 36 = .ok (.if_icmp .ne 28, 3) := by decide +kernel
theorem dX5_lookAtOrder_39 : decode cX5_lookAtOrder 39 = .ok (.aload_n 0, 1) := by decide +kernel
theorem dX5_lookAtOrder_40 : decode cX5_lookAtOrder 40 = .ok (.aload_n 0, 1) := by decide +kernel
theorem dX5_lookAtOrder_41 : decode cX5_lookAtOrder 41 = .ok (.getfield 42, 3) := by decide +kernel
theorem dX5_lookAtOrder_44 : decode cX5_lookAtOrder 44 = .ok (.getfield 195, 3) := by decide +kernel
theorem dX5_lookAtOrder_47 : decode cX5_lookAtOrder 47 = .ok (.putfield 53, 3) := by decide +kernel
theorem dX5_lookAtOrder_50 : decode cX5_lookAtOrder 50 = .ok (.aload_n 0, 1) := by decide +kernel
theorem dX5_lookAtOrder_51 : decode cX5_lookAtOrder 51 = .ok (.aload_n 0, 1) := by decide +kernel
theorem dX5_lookAtOrder_52 : decode cX5_lookAtOrder 52 = .ok (.getfield 42, 3) := by decide +kernel
theorem dX5_lookAtOrder_55 : decode cX5_lookAtOrder 55 = .ok (.getfield 192, 3) := by decide +kernel
theorem dX5_lookAtOrder_58 : decode cX5_lookAtOrder 58 = .ok (.putfield 56, 3) := by decide +kernel
theorem dX5_lookAtOrder_61 : decode cX5_lookAtOrder 61 = .ok (.goto 7, 3) := by decide +kernel
theorem dX5_lookAtOrder_64 : decode cX5_lookAtOrder 64 = .ok (.aload_n 0, 1) := by decide +kernel
theorem dX5_lookAtOrder_65 : decode cX5_lookAtOrder 65 = .ok (.invokevirtual 198, 3) := by decide +kernel
theorem dX5_lookAtOrder_68 : decode cX5_lookAtOrder 68 = .ok (.iload_n 1, 1) := by decide +kernel
theorem dX5_lookAtOrder_69 : decode cX5_lookAtOrder 69 = .ok (.ireturn, 1) := by decide +kernel
set_option maxRecDepth 20000 in
theorem ggX5_carryOut_X5_contains : GoodIn wsX5_carryOut wsX5_contains := goodIn_r _ [8] (by decide +kernel) (by decide +kernel)
set_option maxRecDepth 20000 in
theorem gX5_carryOut_X5_contains : GoodIn wsX5_carryOut (va_wsS RX5 99 yX5_contains wsX5_contains) := goodIn_app (goodIn_of _ (by decide +kernel)) ggX5_carryOut_X5_contains
set_option maxRecDepth 20000 in
theorem ggX5_carryOut_X4_perform : GoodIn wsX5_carryOut wsX4_perform := goodIn_r _ [13, 14, 15, 16, 17, 18, 12, 19, 20, 21, 22, 23, 24, 25, 26, 27, 28, 29, 30, 31, 32, 33, 6, 7, 8, 34, 35, 36, 37, 38, 39, 40, 41, 86, 87, 88, 89, 90, 91] (by decide +kernel) (by decide +kernel)
set_option maxRecDepth 20000 in
theorem gX5_carryOut_X4_perform : GoodIn wsX5_carryOut (wsV RX5 210 RX4 yX4_perform wsX4_perform) := goodIn_app (goodIn_of _ (by decide +kernel)) ggX5_carryOut_X4_perform
set_option maxRecDepth 20000 in
theorem ggX5_carryOut_X1_keep : GoodIn wsX5_carryOut wsX1_keep := goodIn_r _ [46, 47, 48, 49, 50, 51, 52, 53, 54, 55, 56, 57, 58, 92, 93, 94, 95, 96] (by decide +kernel) (by decide +kernel)
set_option maxRecDepth 20000 in
theorem gX5_carryOut_X1_keep : GoodIn wsX5_carryOut (wsV RX5 214 RX1 yX1_keep wsX1_keep) := goodIn_app (goodIn_of _ (by decide +kernel)) ggX5_carryOut_X1_keep
theorem dX5_carryOut_0 : decode cX5_carryOut 0 = .ok (.iconst 0, 1) := by decide +kernel
theorem dX5_carryOut_1 : decode cX5_carryOut 1 = .ok (.istore_n 1, 1) := by decide +kernel
theorem dX5_carryOut_2 : decode cX5_carryOut 2 = .ok (.iconst 0, 1) := by decide +kernel
theorem dX5_carryOut_3 : decode cX5_carryOut 3 = .ok (.istore_n 2, 1) := by decide +kernel
theorem dX5_carryOut_4 : decode cX5_carryOut 4 = .ok (.iload_n 2, 1) := by decide +kernel
theorem dX5_carryOut_5 : decode cX5_carryOut 5 = .ok (.bipush 12, 2) := by decide +kernel
theorem dX5_carryOut_7 : decode cX5_carryOut 7 = .ok (.if_icmp .ge 54, 3) := by decide +kernel
theorem dX5_carryOut_10 : decode cX5_carryOut 10 = .ok (.aload_n 0, 1) := by decide +kernel
theorem dX5_carryOut_11 : decode cX5_carryOut 11 = .ok (.getfield 42, 3) := by decide +kernel
theorem dX5_carryOut_14 : decode cX5_carryOut 14 = .ok (.getfield 201, 3) := by decide +kernel
theorem dX5_carryOut_17 : decode cX5_carryOut 17 = .ok (.iload_n 2, 1) := by decide +kernel
theorem dX5_carryOut_18 : decode cX5_carryOut 18 = .ok (.invokestatic 99, 3) := by decide +kernel
theorem dX5_carryOut_21 : decode cX5_carryOut 21 = .ok (.ifCond .eq 34, 3) := by decide +kernel
theorem dX5_carryOut_24 : decode cX5_carryOut 24 = .ok (.aload_n 0, 1) := by decide +kernel
theorem dX5_carryOut_25 : decode cX5_carryOut 25 = .ok (.getfield 12, 3) := by decide +kernel
theorem dX5_carryOut_28 : decode cX5_carryOut 28 = .ok (.aload_n 0, 1) := by decide +kernel
theorem dX5_carryOut_29 : decode cX5_carryOut 29 = .ok (.getfield 26, 3) := by decide +kernel
theorem dX5_carryOut_32 : decode cX5_carryOut 32 = .ok (.getfield 204, 3) := by decide +kernel
theorem dX5_carryOut_35 : decode cX5_carryOut 35 = .ok (.iload_n 2, 1) := by decide +kernel
theorem dX5_carryOut_36 : decode cX5_carryOut 36 = .ok (.aload_n 0, 1) := by decide +kernel
theorem dX5_carryOut_37 : decode cX5_carryOut 37 = .ok (.getfield 42, 3) := by decide +kernel
theorem dX5_carryOut_40 : decode cX5_carryOut 40 = .ok (.getfield 207, 3) := by decide +kernel
theorem dX5_carryOut_43 : decode cX5_carryOut 43 = .ok (.invokevirtual 210, 3) := by decide +kernel
theorem dX5_carryOut_46 : decode cX5_carryOut 46 = .ok (.ifCond .eq 9, 3) := by decide +kernel
theorem dX5_carryOut_49 : decode cX5_carryOut 49 = .ok (.iload_n 1, 1) := by decide +kernel
theorem dX5_carryOut_50 : decode cX5_carryOut 50 = .ok (.iconst 1, 1) := by decide +kernel
theorem dX5_carryOut_51 : decode cX5_carryOut 51 = .ok (.iload_n 2, 1) := by decide +kernel
theorem dX5_carryOut_52 : decode cX5_carryOut 52 = .ok (.ishl, 1) := by decide +kernel
theorem dX5_carryOut_53 : decode cX5_carryOut 53 = .ok (.ior, 1) := by decide +kernel
theorem dX5_carryOut_54 : decode cX5_carryOut 54 = .ok (.istore_n 1, 1) := by decide +kernel
theorem dX5_carryOut_55 : decode cX5_carryOut 55 = .ok (.iinc 2 1, 3) := by decide +kernel
theorem dX5_carryOut_58 : decode cX5_carryOut 58 = .ok (.goto (-54), 3) := by decide +kernel
theorem dX5_carryOut_61 : decode cX5_carryOut 61 = .ok (.aload_n 0, 1) := by decide +kernel
theorem dX5_carryOut_62 : decode cX5_carryOut 62 = .ok (.getfield 33, 3) := by decide +kernel
theorem dX5_carryOut_65 : decode cX5_carryOut 65 = .ok (.aload_n 0, 1) := by decide +kernel
theorem dX5_carryOut_66 : decode cX5_carryOut 66 = .ok (.getfield 26, 3) := by decide +kernel
theorem dX5_carryOut_69 : decode cX5_carryOut 69 = .ok (.getfield 204, 3) := by decide +kernel
theorem dX5_carryOut_72 : decode cX5_carryOut 72 = .ok (.aload_n 0, 1) := by decide +kernel
theorem dX5_carryOut_73 : decode cX5_carryOut 73 = .ok (.getfield 42, 3) := by decide +kernel
theorem dX5_carryOut_76 : decode cX5_carryOut 76 = .ok (.getfield 201, 3) := by decide +kernel
theorem dX5_carryOut_79 : decode cX5_carryOut 79 = .ok (.iload_n 1, 1) := by decide +kernel
theorem dX5_carryOut_80 : decode cX5_carryOut 80 = .ok (.aload_n 0, 1) := by decide +kernel
theorem dX5_carryOut_81 : decode cX5_carryOut 81 = .ok (.getfield 42, 3) := by decide +kernel
theorem dX5_carryOut_84 : decode cX5_carryOut 84 = .ok (.getfield 207, 3) := by decide +kernel
theorem dX5_carryOut_87 : decode cX5_carryOut 87 = .ok (.invokevirtual 214, 3) := by decide +kernel
theorem dX5_carryOut_90 : decode cX5_carryOut 90 = .ok (.return_, 1) := by decide +kernel
theorem dX5_contains_0 : decode cX5_contains 0 = .ok (.iload_n 1, 1) := by decide +kernel
theorem dX5_contains_1 : decode cX5_contains 1 = .ok (.ifCond .lt 21, 3) := by decide +kernel
theorem dX5_contains_4 : decode cX5_contains 4 = .ok (.iload_n 1, 1) := by decide +kernel
theorem dX5_contains_5 : decode cX5_contains 5 = .ok (.bipush 12, 2) := by decide +kernel
theorem dX5_contains_7 : decode cX5_contains 7 = .ok (.if_icmp .ge 15, 3) := by decide +kernel
theorem dX5_contains_10 : decode cX5_contains 10 = .ok (.iload_n 0, 1) := by decide +kernel
theorem dX5_contains_11 : decode cX5_contains 11 = .ok (.iload_n 1, 1) := by decide +kernel
theorem dX5_contains_12 : decode cX5_contains 12 = .ok (.ishr, 1) := by decide +kernel
theorem dX5_contains_13 : decode cX5_contains 13 = .ok (.iconst 1, 1) := by decide +kernel
theorem dX5_contains_14 : decode cX5_contains 14 = .ok (.iand, 1) := by decide +kernel
theorem dX5_contains_15 : decode cX5_contains 15 = .ok (.ifCond .eq 7, 3) := by decide +kernel
theorem dX5_contains_18 : decode cX5_contains 18 = .ok (.iconst 1, 1) := by decide +kernel
theorem dX5_contains_19 : decode cX5_contains 19 = .ok (.goto 4, 3) := by decide +kernel
theorem dX5_contains_22 : decode cX5_contains 22 = .ok (.iconst 0, 1) := by decide +kernel
theorem dX5_contains_23 : decode cX5_contains 23 = .ok (.ireturn, 1) := by decide +kernel
theorem dX5_isBetween_0 : decode cX5_isBetween 0 = .ok (.iload_n 0, 1) := by decide +kernel
theorem dX5_isBetween_1 : decode cX5_isBetween 1 = .ok (.iload_n 1, 1) := by decide +kernel
theorem dX5_isBetween_2 : decode cX5_isBetween 2 = .ok (.if_icmp .lt 14, 3) := by decide +kernel
theorem dX5_isBetween_5 : decode cX5_isBetween 5 = .ok (.iload_n 0, 1) := by decide +kernel
theorem dX5_isBetween_6 : decode cX5_isBetween 6 = .ok (.iload_n 1, 1) := by decide +kernel
theorem dX5_isBetween_7 : decode cX5_isBetween 7 = .ok (.iload_n 2, 1) := by decide +kernel
theorem dX5_isBetween_8 : decode cX5_isBetween 8 = .ok (.iadd, 1) := by decide +kernel
theorem dX5_isBetween_9 : decode cX5_isBetween 9 = .ok (.if_icmp .ge 7, 3) := by decide +kernel
theorem dX5_isBetween_12 : decode cX5_isBetween 12 = .ok (.iconst 1, 1) := by decide +kernel
theorem dX5_isBetween_13 : decode cX5_isBetween 13 = .ok (.goto 4, 3) := by decide +kernel
theorem dX5_isBetween_16 : decode cX5_isBetween 16 = .ok (.iconst 0, 1) := by decide +kernel
theorem dX5_isBetween_17 : decode cX5_isBetween 17 = .ok (.ireturn, 1) := by decide +kernel
theorem dX5_isVerb_0 : decode cX5_isVerb 0 = .ok (.iload_n 0, 1) := by decide +kernel
theorem dX5_isVerb_1 : decode cX5_isVerb 1 = .ok (.ifCond .lt 12, 3) := by decide +kernel
theorem dX5_isVerb_4 : decode cX5_isVerb 4 = .ok (.iload_n 0, 1) := by decide +kernel
theorem dX5_isVerb_5 : decode cX5_isVerb 5 = .ok (.iconst 4, 1) := by decide +kernel
theorem dX5_isVerb_6 : decode cX5_isVerb 6 = .ok (.if_icmp .gt 7, 3) := by decide +kernel
theorem dX5_isVerb_9 : decode cX5_isVerb 9 = .ok (.iconst 1, 1) := by decide +kernel
theorem dX5_isVerb_10 : decode cX5_isVerb 10 = .ok (.goto 4, 3) := by decide +kernel
theorem dX5_isVerb_13 : decode cX5_isVerb 13 = .ok (.iconst 0, 1) := by decide +kernel
theorem dX5_isVerb_14 : decode cX5_isVerb 14 = .ok (.ireturn, 1) := by decide +kernel
set_option maxRecDepth 20000 in
theorem ggX5_isWord_X5_isVerb : GoodIn wsX5_isWord wsX5_isVerb := goodIn_r _ [4] (by decide +kernel) (by decide +kernel)
set_option maxRecDepth 20000 in
theorem gX5_isWord_X5_isVerb : GoodIn wsX5_isWord (va_wsS RX5 126 yX5_isVerb wsX5_isVerb) := goodIn_app (goodIn_of _ (by decide +kernel)) ggX5_isWord_X5_isVerb
set_option maxRecDepth 20000 in
theorem ggX5_isWord_X5_isBetween : GoodIn wsX5_isWord wsX5_isBetween := goodIn_r _ [7] (by decide +kernel) (by decide +kernel)
set_option maxRecDepth 20000 in
theorem gX5_isWord_X5_isBetween : GoodIn wsX5_isWord (va_wsS RX5 218 yX5_isBetween wsX5_isBetween) := goodIn_app (goodIn_of _ (by decide +kernel)) ggX5_isWord_X5_isBetween
theorem dX5_isWord_0 : decode cX5_isWord 0 = .ok (.iload_n 0, 1) := by decide +kernel
theorem dX5_isWord_1 : decode cX5_isWord 1 = .ok (.invokestatic 126, 3) := by decide +kernel
theorem dX5_isWord_4 : decode cX5_isWord 4 = .ok (.ifCond .ne 48, 3) := by decide +kernel
theorem dX5_isWord_7 : decode cX5_isWord 7 = .ok (.iload_n 0, 1) := by decide +kernel
theorem dX5_isWord_8 : decode cX5_isWord 8 = .ok (.bipush 10, 2) := by decide +kernel
theorem dX5_isWord_10 : decode cX5_isWord 10 = .ok (.if_icmp .lt 9, 3) := by decide +kernel
theorem dX5_isWord_13 : decode cX5_isWord 13 = .ok (.iload_n 0, 1) := by decide +kernel
theorem dX5_isWord_14 : decode cX5_isWord 14 = .ok (.bipush 17, 2) := by decide +kernel
theorem dX5_isWord_16 : decode cX5_isWord 16 = .ok (.if_icmp .le 36, 3) := by decide +kernel
theorem dX5_isWord_19 : decode cX5_isWord 19 = .ok (.iload_n 0, 1) := by decide +kernel
theorem dX5_isWord_20 : decode cX5_isWord 20 = .ok (.bipush 20, 2) := by decide +kernel
theorem dX5_isWord_22 : decode cX5_isWord 22 = .ok (.bipush 6, 2) := by decide +kernel
theorem dX5_isWord_24 : decode cX5_isWord 24 = .ok (.invokestatic 218, 3) := by decide +kernel
theorem dX5_isWord_27 : decode cX5_isWord 27 = .ok (.ifCond .ne 25, 3) := by decide +kernel
theorem dX5_isWord_30 : decode cX5_isWord 30 = .ok (.iload_n 0, 1) := by decide +kernel
theorem dX5_isWord_31 : decode cX5_isWord 31 = .ok (.bipush 30, 2) := by decide +kernel
theorem dX5_isWord_33 : decode cX5_isWord 33 = .ok (.bipush 8, 2) := by decide +kernel
theorem dX5_isWord_35 : decode cX5_isWord 35 = .ok (.invokestatic 218, 3) := by decide +kernel
theorem dX5_isWord_38 : decode cX5_isWord 38 = .ok (.ifCond .ne 14, 3) := by decide +kernel
theorem dX5_isWord_41 : decode cX5_isWord 41 = .ok (.iload_n 0, 1) := by decide +kernel
theorem dX5_isWord_42 : decode cX5_isWord 42 = .ok (.bipush 40, 2) := by decide +kernel
theorem dX5_isWord_44 : decode cX5_isWord 44 = .ok (.bipush 8, 2) := by decide +kernel
theorem dX5_isWord_46 : decode cX5_isWord 46 = .ok (.invokestatic 218, 3) := by decide +kernel
theorem dX5_isWord_49 : decode cX5_isWord 49 = .ok (.ifCond .eq 7, 3) := by decide +kernel
theorem dX5_isWord_52 : decode cX5_isWord 52 = .ok (.iconst 1, 1) := by decide +kernel
theorem dX5_isWord_53 : decode cX5_isWord 53 = .ok (.goto 4, 3) := by decide +kernel
theorem dX5_isWord_56 : decode cX5_isWord 56 = .ok (.iconst 0, 1) := by decide +kernel
theorem dX5_isWord_57 : decode cX5_isWord 57 = .ok (.ireturn, 1) := by decide +kernel
theorem dX6_init_0 : decode cX6_init 0 = .ok (.aload_n 0, 1) := by decide +kernel
theorem dX6_init_1 : decode cX6_init 1 = .ok (.invokespecial 1, 3) := by decide +kernel
theorem dX6_init_4 : decode cX6_init 4 = .ok (.aload_n 0, 1) := by decide +kernel
theorem dX6_init_5 : decode cX6_init 5 = .ok (.bipush 12, 2) := by decide +kernel
theorem dX6_init_7 : decode cX6_init 7 = .ok (.newarray .int, 2) := by decide +kernel
theorem dX6_init_9 : decode cX6_init 9 = .ok (.putfield 7, 3) := by decide +kernel
theorem dX6_init_12 : decode cX6_init 12 = .ok (.aload_n 0, 1) := by decide +kernel
theorem dX6_init_13 : decode cX6_init 13 = .ok (.bipush 12, 2) := by decide +kernel
theorem dX6_init_15 : decode cX6_init 15 = .ok (.newarray .int, 2) := by decide +kernel
theorem dX6_init_17 : decode cX6_init 17 = .ok (.putfield 13, 3) := by decide +kernel
theorem dX6_init_20 : decode cX6_init 20 = .ok (.aload_n 0, 1) := by decide +kernel
theorem dX6_init_21 : decode cX6_init 21 = .ok (.bipush 12, 2) := by decide +kernel
theorem dX6_init_23 : decode cX6_init 23 = .ok (.newarray .boolean, 2) := by decide +kernel
theorem dX6_init_25 : decode cX6_init 25 = .ok (.putfield 16, 3) := by decide +kernel
theorem dX6_init_28 : decode cX6_init 28 = .ok (.aload_n 0, 1) := by decide +kernel
theorem dX6_init_29 : decode cX6_init 29 = .ok (.bipush 12, 2) := by decide +kernel
theorem dX6_init_31 : decode cX6_init 31 = .ok (.newarray .boolean, 2) := by decide +kernel
theorem dX6_init_33 : decode cX6_init 33 = .ok (.putfield 20, 3) := by decide +kernel
theorem dX6_init_36 : decode cX6_init 36 = .ok (.aload_n 0, 1) := by decide +kernel
theorem dX6_init_37 : decode cX6_init 37 = .ok (.bipush 12, 2) := by decide +kernel
theorem dX6_init_39 : decode cX6_init 39 = .ok (.newarray .int, 2) := by decide +kernel
theorem dX6_init_41 : decode cX6_init 41 = .ok (.putfield 23, 3) := by decide +kernel
theorem dX6_init_44 : decode cX6_init 44 = .ok (.aload_n 0, 1) := by decide +kernel
theorem dX6_init_45 : decode cX6_init 45 = .ok (.bipush 24, 2) := by decide +kernel
theorem dX6_init_47 : decode cX6_init 47 = .ok (.newarray .int, 2) := by decide +kernel
theorem dX6_init_49 : decode cX6_init 49 = .ok (.putfield 26, 3) := by decide +kernel
theorem dX6_init_52 : decode cX6_init 52 = .ok (.aload_n 0, 1) := by decide +kernel
theorem dX6_init_53 : decode cX6_init 53 = .ok (.iconst (-1), 1) := by decide +kernel
theorem dX6_init_54 : decode cX6_init 54 = .ok (.putfield 29, 3) := by decide +kernel
theorem dX6_init_57 : decode cX6_init 57 = .ok (.aload_n 0, 1) := by decide +kernel
theorem dX6_init_58 : decode cX6_init 58 = .ok (.iconst (-1), 1) := by decide +kernel
theorem dX6_init_59 : decode cX6_init 59 = .ok (.putfield 33, 3) := by decide +kernel
theorem dX6_init_62 : decode cX6_init 62 = .ok (.aload_n 0, 1) := by decide +kernel
theorem dX6_init_63 : decode cX6_init 63 = .ok (.iconst (-1), 1) := by decide +kernel
theorem dX6_init_64 : decode cX6_init 64 = .ok (.putfield 36, 3) := by decide +kernel
theorem dX6_init_67 : decode cX6_init 67 = .ok (.aload_n 0, 1) := by decide +kernel
theorem dX6_init_68 : decode cX6_init 68 = .ok (.iconst (-1), 1) := by decide +kernel
theorem dX6_init_69 : decode cX6_init 69 = .ok (.putfield 39, 3) := by decide +kernel
theorem dX6_init_72 : decode cX6_init 72 = .ok (.aload_n 0, 1) := by decide +kernel
theorem dX6_init_73 : decode cX6_init 73 = .ok (.iconst (-1), 1) := by decide +kernel
theorem dX6_init_74 : decode cX6_init 74 = .ok (.putfield 42, 3) := by decide +kernel
theorem dX6_init_77 : decode cX6_init 77 = .ok (.aload_n 0, 1) := by decide +kernel
theorem dX6_init_78 : decode cX6_init 78 = .ok (.bipush 24, 2) := by decide +kernel
theorem dX6_init_80 : decode cX6_init 80 = .ok (.newarray .int, 2) := by decide +kernel
theorem dX6_init_82 : decode cX6_init 82 = .ok (.putfield 45, 3) := by decide +kernel
theorem dX6_init_85 : decode cX6_init 85 = .ok (.aload_n 0, 1) := by decide +kernel
theorem dX6_init_86 : decode cX6_init 86 = .ok (.bipush 24, 2) := by decide +kernel
theorem dX6_init_88 : decode cX6_init 88 = .ok (.newarray .int, 2) := by decide +kernel
theorem dX6_init_90 : decode cX6_init 90 = .ok (.putfield 48, 3) := by decide +kernel
theorem dX6_init_93 : decode cX6_init 93 = .ok (.aload_n 0, 1) := by decide +kernel
theorem dX6_init_94 : decode cX6_init 94 = .ok (.iconst (-1), 1) := by decide +kernel
theorem dX6_init_95 : decode cX6_init 95 = .ok (.putfield 51, 3) := by decide +kernel
theorem dX6_init_98 : decode cX6_init 98 = .ok (.return_, 1) := by decide +kernel
theorem dX6_thrown_0 : decode cX6_thrown 0 = .ok (.aload_n 0, 1) := by decide +kernel
theorem dX6_thrown_1 : decode cX6_thrown 1 = .ok (.getfield 54, 3) := by decide +kernel
theorem dX6_thrown_4 : decode cX6_thrown 4 = .ok (.ireturn, 1) := by decide +kernel
theorem dX6_may_0 : decode cX6_may 0 = .ok (.aload_n 0, 1) := by decide +kernel
theorem dX6_may_1 : decode cX6_may 1 = .ok (.iload_n 1, 1) := by decide +kernel
theorem dX6_may_2 : decode cX6_may 2 = .ok (.ifCond .eq 7, 3) := by decide +kernel
theorem dX6_may_5 : decode cX6_may 5 = .ok (.iconst 0, 1) := by decide +kernel
theorem dX6_may_6 : decode cX6_may 6 = .ok (.goto 4, 3) := by decide +kernel
theorem dX6_may_9 : decode cX6_may 9 = .ok (.iconst 1, 1) := by decide +kernel
theorem dX6_may_10 : decode cX6_may 10 = .ok (.putfield 54, 3) := by decide +kernel
theorem dX6_may_13 : decode cX6_may 13 = .ok (.iload_n 1, 1) := by decide +kernel
theorem dX6_may_14 : decode cX6_may 14 = .ok (.ireturn, 1) := by decide +kernel
theorem dX6_mayBoth_0 : decode cX6_mayBoth 0 = .ok (.aload_n 0, 1) := by decide +kernel
theorem dX6_mayBoth_1 : decode cX6_mayBoth 1 = .ok (.iload_n 1, 1) := by decide +kernel
theorem dX6_mayBoth_2 : decode cX6_mayBoth 2 = .ok (.ifCond .ne 7, 3) := by decide +kernel
theorem dX6_mayBoth_5 : decode cX6_mayBoth 5 = .ok (.iconst 1, 1) := by decide +kernel
theorem dX6_mayBoth_6 : decode cX6_mayBoth 6 = .ok (.goto 12, 3) := by decide +kernel
theorem dX6_mayBoth_9 : decode cX6_mayBoth 9 = .ok (.iload_n 2, 1) := by decide +kernel
theorem dX6_mayBoth_10 : decode cX6_mayBoth 10 = .ok (.ifCond .ne 7, 3) := by decide +kernel
theorem dX6_mayBoth_13 : decode cX6_mayBoth 13 = .ok (.iconst 2, 1) := by decide +kernel
theorem dX6_mayBoth_14 : decode cX6_mayBoth 14 = .ok (.goto 4, 3) := by decide +kernel
theorem dX6_mayBoth_17 : decode cX6_mayBoth 17 = .ok (.iconst 0, 1) := by decide +kernel
theorem dX6_mayBoth_18 : decode cX6_mayBoth 18 = .ok (.putfield 54, 3) := by decide +kernel
theorem dX6_mayBoth_21 : decode cX6_mayBoth 21 = .ok (.aload_n 0, 1) := by decide +kernel
theorem dX6_mayBoth_22 : decode cX6_mayBoth 22 = .ok (.getfield 54, 3) := by decide +kernel
theorem dX6_mayBoth_25 : decode cX6_mayBoth 25 = .ok (.ifCond .ne 7, 3) := by decide +kernel
theorem dX6_mayBoth_28 : decode cX6_mayBoth 28 = .ok (.iconst 1, 1) := by decide +kernel
theorem dX6_mayBoth_29 : decode cX6_mayBoth 29 = .ok (.goto 4, 3) := by decide +kernel
theorem dX6_mayBoth_32 : decode cX6_mayBoth 32 = .ok (.iconst 0, 1) := by decide +kernel
theorem dX6_mayBoth_33 : decode cX6_mayBoth 33 = .ok (.ireturn, 1) := by decide +kernel
set_option maxRecDepth 20000 in
theorem ggX6_thing_X6_mayBoth : GoodIn wsX6_thing wsX6_mayBoth := goodIn_r _ [10, 11, 12, 13, 14, 15, 16, 17, 18, 19, 20, 21, 22, 23, 24, 25, 26, 27, 28, 29, 30, 31, 32, 33, 34, 35, 36] (by decide +kernel) (by decide +kernel)
set_option maxRecDepth 20000 in
theorem gX6_thing_X6_mayBoth : GoodIn wsX6_thing (wsV RX6 60 RX6 yX6_mayBoth wsX6_mayBoth) := goodIn_app (goodIn_of _ (by decide +kernel)) ggX6_thing_X6_mayBoth
theorem dX6_thing_0 : decode cX6_thing 0 = .ok (.aload_n 0, 1) := by decide +kernel
theorem dX6_thing_1 : decode cX6_thing 1 = .ok (.iload_n 1, 1) := by decide +kernel
theorem dX6_thing_2 : decode cX6_thing 2 = .ok (.ifCond .lt 23, 3) := by decide +kernel
theorem dX6_thing_5 : decode cX6_thing 5 = .ok (.iload_n 1, 1) := by decide +kernel
theorem dX6_thing_6 : decode cX6_thing 6 = .ok (.bipush 7, 2) := by decide +kernel
theorem dX6_thing_8 : decode cX6_thing 8 = .ok (.if_icmp .gt 17, 3) := by decide +kernel
theorem dX6_thing_11 : decode cX6_thing 11 = .ok (.iload_n 2, 1) := by decide +kernel
theorem dX6_thing_12 : decode cX6_thing 12 = .ok (.ifCond .lt 13, 3) := by decide +kernel
theorem dX6_thing_15 : decode cX6_thing 15 = .ok (.iload_n 2, 1) := by decide +kernel
theorem dX6_thing_16 : decode cX6_thing 16 = .ok (.bipush 63, 2) := by decide +kernel
theorem dX6_thing_18 : decode cX6_thing 18 = .ok (.if_icmp .gt 7, 3) := by decide +kernel
theorem dX6_thing_21 : decode cX6_thing 21 = .ok (.iconst 1, 1) := by decide +kernel
theorem dX6_thing_22 : decode cX6_thing 22 = .ok (.goto 4, 3) := by decide +kernel
theorem dX6_thing_25 : decode cX6_thing 25 = .ok (.iconst 0, 1) := by decide +kernel
theorem dX6_thing_26 : decode cX6_thing 26 = .ok (.aload_n 0, 1) := by decide +kernel
theorem dX6_thing_27 : decode cX6_thing 27 = .ok (.getfield 57, 3) := by decide +kernel
theorem dX6_thing_30 : decode cX6_thing 30 = .ok (.bipush 12, 2) := by decide +kernel
theorem dX6_thing_32 : decode cX6_thing 32 = .ok (.if_icmp .ge 7, 3) := by decide +kernel
theorem dX6_thing_35 : decode cX6_thing 35 = .ok (.iconst 1, 1) := by decide +kernel
theorem dX6_thing_36 : decode cX6_thing 36 = .ok (.goto 4, 3) := by decide +kernel
theorem dX6_thing_39 : decode cX6_thing 39 = .ok (.iconst 0, 1) := by decide +kernel
theorem dX6_thing_40 : decode cX6_thing 40 = .ok (.invokevirtual 60, 3) := by decide +kernel
theorem dX6_thing_43 : decode cX6_thing 43 = .ok (.ifCond .ne 5, 3) := by decide +kernel
theorem dX6_thing_46 : decode cX6_thing 46 = .ok (.iconst 0, 1) := by decide +kernel
theorem dX6_thing_47 : decode cX6_thing 47 = .ok (.ireturn, 1) := by decide +kernel
theorem dX6_thing_48 : decode cX6_thing 48 = .ok (.aload_n 0, 1) := by decide +kernel
theorem dX6_thing_49 : decode cX6_thing 49 = .ok (.getfield 7, 3) := by decide +kernel
theorem dX6_thing_52 : decode cX6_thing 52 = .ok (.aload_n 0, 1) := by decide +kernel
theorem dX6_thing_53 : decode cX6_thing 53 = .ok (.getfield 57, 3) := by decide +kernel
theorem dX6_thing_56 : decode cX6_thing 56 = .ok (.iload_n 1, 1) := by decide +kernel
theorem dX6_thing_57 : decode cX6_thing 57 = .ok (.iastore, 1) := by decide +kernel
theorem dX6_thing_58 : decode cX6_thing 58 = .ok (.aload_n 0, 1) := by decide +kernel
theorem dX6_thing_59 : decode cX6_thing 59 = .ok (.getfield 13, 3) := by decide +kernel
theorem dX6_thing_62 : decode cX6_thing 62 = .ok (.aload_n 0, 1) := by decide +kernel
theorem dX6_thing_63 : decode cX6_thing 63 = .ok (.getfield 57, 3) := by decide +kernel
theorem dX6_thing_66 : decode cX6_thing 66 = .ok (.iload_n 2, 1) := by decide +kernel
theorem dX6_thing_67 : decode cX6_thing 67 = .ok (.iastore, 1) := by decide +kernel
theorem dX6_thing_68 : decode cX6_thing 68 = .ok (.aload_n 0, 1) := by decide +kernel
theorem dX6_thing_69 : decode cX6_thing 69 = .ok (.getfield 16, 3) := by decide +kernel
theorem dX6_thing_72 : decode cX6_thing 72 = .ok (.aload_n 0, 1) := by decide +kernel
theorem dX6_thing_73 : decode cX6_thing 73 = .ok (.getfield 57, 3) := by decide +kernel
theorem dX6_thing_76 : decode cX6_thing 76 = .ok (.iload_n 3, 1) := by decide +kernel
theorem dX6_thing_77 : decode cX6_thing 77 = .ok (.bastore, 1) := by decide +kernel
theorem dX6_thing_78 : decode cX6_thing 78 = .ok (.aload_n 0, 1) := by decide +kernel
theorem dX6_thing_79 : decode cX6_thing 79 = .ok (.getfield 23, 3) := by decide +kernel
theorem dX6_thing_82 : decode cX6_thing 82 = .ok (.aload_n 0, 1) := by decide +kernel
theorem dX6_thing_83 : decode cX6_thing 83 = .ok (.getfield 57, 3) := by decide +kernel
theorem dX6_thing_86 : decode cX6_thing 86 = .ok (.bipush (-2), 2) := by decide +kernel
theorem dX6_thing_88 : decode cX6_thing 88 = .ok (.iastore, 1) := by decide +kernel
theorem dX6_thing_89 : decode cX6_thing 89 = .ok (.aload_n 0, 1) := by decide +kernel
theorem dX6_thing_90 : decode cX6_thing 90 = .ok (.dup, 1) := by decide +kernel
theorem dX6_thing_91 : decode cX6_thing 91 = .ok (.getfield 57, 3) := by decide +kernel
theorem dX6_thing_94 : decode cX6_thing 94 = .ok (.iconst 1, 1) := by decide +kernel
theorem dX6_thing_95 : decode cX6_thing 95 = .ok (.iadd, 1) := by decide +kernel
theorem dX6_thing_96 : decode cX6_thing 96 = .ok (.putfield 57, 3) := by decide +kernel
theorem dX6_thing_99 : decode cX6_thing 99 = .ok (.aload_n 0, 1) := by decide +kernel
theorem dX6_thing_100 : decode cX6_thing 100 = .ok (.getfield 57, 3) := by decide +kernel
theorem dX6_thing_103 : decode cX6_thing 103 = .ok (.iconst 1, 1) := by decide +kernel
theorem dX6_thing_104 : decode cX6_thing 104 = .ok (.isub, 1) := by decide +kernel
theorem dX6_thing_105 : decode cX6_thing 105 = .ok (.ireturn, 1) := by decide +kernel
theorem dX6_isThing_0 : decode cX6_isThing 0 = .ok (.iload_n 1, 1) := by decide +kernel
theorem dX6_isThing_1 : decode cX6_isThing 1 = .ok (.ifCond .lt 15, 3) := by decide +kernel
theorem dX6_isThing_4 : decode cX6_isThing 4 = .ok (.iload_n 1, 1) := by decide +kernel
theorem dX6_isThing_5 : decode cX6_isThing 5 = .ok (.aload_n 0, 1) := by decide +kernel
theorem dX6_isThing_6 : decode cX6_isThing 6 = .ok (.getfield 57, 3) := by decide +kernel
theorem dX6_isThing_9 : decode cX6_isThing 9 = .ok (.if_icmp .ge 7, 3) := by decide +kernel
theorem dX6_isThing_12 : decode cX6_isThing 12 = .ok (.iconst 1, 1) := by decide +kernel
theorem dX6_isThing_13 : decode cX6_isThing 13 = .ok (.goto 4, 3) := by decide +kernel
theorem dX6_isThing_16 : decode cX6_isThing 16 = .ok (.iconst 0, 1) := by decide +kernel
theorem dX6_isThing_17 : decode cX6_isThing 17 = .ok (.ireturn, 1) := by decide +kernel
set_option maxRecDepth 20000 in
theorem ggX6_placeOf_X6_isThing : GoodIn wsX6_placeOf wsX6_isThing := goodIn_r _ [6, 7, 13, 14, 15, 16, 17, 18, 19, 20, 21, 22, 23, 24, 25, 26, 27, 28, 29, 30, 31, 32, 33, 34, 35, 36, 37] (by decide +kernel) (by decide +kernel)
set_option maxRecDepth 20000 in
theorem gX6_placeOf_X6_isThing : GoodIn wsX6_placeOf (wsV RX6 64 RX6 yX6_isThing wsX6_isThing) := goodIn_app (goodIn_of _ (by decide +kernel)) ggX6_placeOf_X6_isThing
set_option maxRecDepth 20000 in
theorem ggX6_placeOf_X6_may : GoodIn wsX6_placeOf wsX6_may := goodIn_r _ [11, 12, 13, 14, 15, 16, 17, 18, 19, 20, 21, 22, 23, 24, 25, 26, 27, 28, 29, 30, 31, 32, 33, 34, 35, 36, 37] (by decide +kernel) (by decide +kernel)
set_option maxRecDepth 20000 in
theorem gX6_placeOf_X6_may : GoodIn wsX6_placeOf (wsV RX6 68 RX6 yX6_may wsX6_may) := goodIn_app (goodIn_of _ (by decide +kernel)) ggX6_placeOf_X6_may
theorem dX6_placeOf_0 : decode cX6_placeOf 0 = .ok (.aload_n 0, 1) := by decide +kernel
theorem dX6_placeOf_1 : decode cX6_placeOf 1 = .ok (.aload_n 0, 1) := by decide +kernel
theorem dX6_placeOf_2 : decode cX6_placeOf 2 = .ok (.iload_n 1, 1) := by decide +kernel
theorem dX6_placeOf_3 : decode cX6_placeOf 3 = .ok (.invokevirtual 64, 3) := by decide +kernel
theorem dX6_placeOf_6 : decode cX6_placeOf 6 = .ok (.invokevirtual 68, 3) := by decide +kernel
theorem dX6_placeOf_9 : decode cX6_placeOf 9 = .ok (.ifCond .eq 12, 3) := by decide +kernel
theorem dX6_placeOf_12 : decode cX6_placeOf 12 = .ok (.aload_n 0, 1) := by decide +kernel
theorem dX6_placeOf_13 : decode cX6_placeOf 13 = .ok (.getfield 23, 3) := by decide +kernel
theorem dX6_placeOf_16 : decode cX6_placeOf 16 = .ok (.iload_n 1, 1) := by decide +kernel
theorem dX6_placeOf_17 : decode cX6_placeOf 17 = .ok (.iaload, 1) := by decide +kernel
theorem dX6_placeOf_18 : decode cX6_placeOf 18 = .ok (.goto 4, 3) := by decide +kernel
theorem dX6_placeOf_21 : decode cX6_placeOf 21 = .ok (.iconst 0, 1) := by decide +kernel
theorem dX6_placeOf_22 : decode cX6_placeOf 22 = .ok (.ireturn, 1) := by decide +kernel
set_option maxRecDepth 20000 in
theorem ggX6_isOpen_X6_isThing : GoodIn wsX6_isOpen wsX6_isThing := goodIn_r _ [6, 7, 13, 14, 15, 16, 17, 18, 19, 20, 21, 22, 23, 24, 25, 26, 27, 28, 29, 30, 31, 32, 33, 34, 35, 36, 37] (by decide +kernel) (by decide +kernel)
set_option maxRecDepth 20000 in
theorem gX6_isOpen_X6_isThing : GoodIn wsX6_isOpen (wsV RX6 64 RX6 yX6_isThing wsX6_isThing) := goodIn_app (goodIn_of _ (by decide +kernel)) ggX6_isOpen_X6_isThing
set_option maxRecDepth 20000 in
theorem ggX6_isOpen_X6_may : GoodIn wsX6_isOpen wsX6_may := goodIn_r _ [11, 12, 13, 14, 15, 16, 17, 18, 19, 20, 21, 22, 23, 24, 25, 26, 27, 28, 29, 30, 31, 32, 33, 34, 35, 36, 37] (by decide +kernel) (by decide +kernel)
set_option maxRecDepth 20000 in
theorem gX6_isOpen_X6_may : GoodIn wsX6_isOpen (wsV RX6 68 RX6 yX6_may wsX6_may) := goodIn_app (goodIn_of _ (by decide +kernel)) ggX6_isOpen_X6_may
theorem dX6_isOpen_0 : decode cX6_isOpen 0 = .ok (.aload_n 0, 1) := by decide +kernel
theorem dX6_isOpen_1 : decode cX6_isOpen 1 = .ok (.aload_n 0, 1) := by decide +kernel
theorem dX6_isOpen_2 : decode cX6_isOpen 2 = .ok (.iload_n 1, 1) := by decide +kernel
theorem dX6_isOpen_3 : decode cX6_isOpen 3 = .ok (.invokevirtual 64, 3) := by decide +kernel
theorem dX6_isOpen_6 : decode cX6_isOpen 6 = .ok (.invokevirtual 68, 3) := by decide +kernel
theorem dX6_isOpen_9 : decode cX6_isOpen 9 = .ok (.ifCond .eq 16, 3) := by decide +kernel
theorem dX6_isOpen_12 : decode cX6_isOpen 12 = .ok (.aload_n 0, 1) := by decide +kernel
theorem dX6_isOpen_13 : decode cX6_isOpen 13 = .ok (.getfield 20, 3) := by decide +kernel
theorem dX6_isOpen_16 : decode cX6_isOpen 16 = .ok (.iload_n 1, 1) := by decide +kernel
theorem dX6_isOpen_17 : decode cX6_isOpen 17 = .ok (.baload, 1) := by decide +kernel
theorem dX6_isOpen_18 : decode cX6_isOpen 18 = .ok (.ifCond .eq 7, 3) := by decide +kernel
theorem dX6_isOpen_21 : decode cX6_isOpen 21 = .ok (.iconst 1, 1) := by decide +kernel
theorem dX6_isOpen_22 : decode cX6_isOpen 22 = .ok (.goto 4, 3) := by decide +kernel
theorem dX6_isOpen_25 : decode cX6_isOpen 25 = .ok (.iconst 0, 1) := by decide +kernel
theorem dX6_isOpen_26 : decode cX6_isOpen 26 = .ok (.ireturn, 1) := by decide +kernel
theorem dX6_reaches_0 : decode cX6_reaches 0 = .ok (.aload_n 0, 1) := by decide +kernel
theorem dX6_reaches_1 : decode cX6_reaches 1 = .ok (.getfield 23, 3) := by decide +kernel
theorem dX6_reaches_4 : decode cX6_reaches 4 = .ok (.iload_n 1, 1) := by decide +kernel
theorem dX6_reaches_5 : decode cX6_reaches 5 = .ok (.iaload, 1) := by decide +kernel
theorem dX6_reaches_6 : decode cX6_reaches 6 = .ok (.istore_n 2, 1) := by decide +kernel
theorem dX6_reaches_7 : decode cX6_reaches 7 = .ok (.iload_n 2, 1) := by decide +kernel
theorem dX6_reaches_8 : decode cX6_reaches 8 = .ok (.ifCond .lt 24, 3) := by decide +kernel
theorem dX6_reaches_11 : decode cX6_reaches 11 = .ok (.aload_n 0, 1) := by decide +kernel
theorem dX6_reaches_12 : decode cX6_reaches 12 = .ok (.getfield 20, 3) := by decide +kernel
theorem dX6_reaches_15 : decode cX6_reaches 15 = .ok (.iload_n 2, 1) := by decide +kernel
theorem dX6_reaches_16 : decode cX6_reaches 16 = .ok (.baload, 1) := by decide +kernel
theorem dX6_reaches_17 : decode cX6_reaches 17 = .ok (.ifCond .ne 5, 3) := by decide +kernel
theorem dX6_reaches_20 : decode cX6_reaches 20 = .ok (.iconst 0, 1) := by decide +kernel
theorem dX6_reaches_21 : decode cX6_reaches 21 = .ok (.ireturn, 1) := by decide +kernel
theorem dX6_reaches_22 : decode cX6_reaches 22 = .ok (.aload_n 0, 1) := by decide +kernel
theorem dX6_reaches_23 : decode cX6_reaches 23 = .ok (.getfield 23, 3) := by decide +kernel
theorem dX6_reaches_26 : decode cX6_reaches 26 = .ok (.iload_n 2, 1) := by decide +kernel
theorem dX6_reaches_27 : decode cX6_reaches 27 = .ok (.iaload, 1) := by decide +kernel
theorem dX6_reaches_28 : decode cX6_reaches 28 = .ok (.istore_n 2, 1) := by decide +kernel
theorem dX6_reaches_29 : decode cX6_reaches 29 = .ok (.goto (-22), 3) := by decide +kernel
theorem dX6_reaches_32 : decode cX6_reaches 32 = .ok (.iconst 1, 1) := by decide +kernel
theorem dX6_reaches_33 : decode cX6_reaches 33 = .ok (.ireturn, 1) := by decide +kernel
theorem dX6_isInside_0 : decode cX6_isInside 0 = .ok (.aload_n 0, 1) := by decide +kernel
theorem dX6_isInside_1 : decode cX6_isInside 1 = .ok (.getfield 23, 3) := by decide +kernel
theorem dX6_isInside_4 : decode cX6_isInside 4 = .ok (.iload_n 1, 1) := by decide +kernel
theorem dX6_isInside_5 : decode cX6_isInside 5 = .ok (.iaload, 1) := by decide +kernel
theorem dX6_isInside_6 : decode cX6_isInside 6 = .ok (.istore_n 3, 1) := by decide +kernel
theorem dX6_isInside_7 : decode cX6_isInside 7 = .ok (.iload_n 3, 1) := by decide +kernel
theorem dX6_isInside_8 : decode cX6_isInside 8 = .ok (.ifCond .lt 18, 3) := by decide +kernel
theorem dX6_isInside_11 : decode cX6_isInside 11 = .ok (.iload_n 3, 1) := by decide +kernel
theorem dX6_isInside_12 : decode cX6_isInside 12 = .ok (.iload_n 2, 1) := by decide +kernel
theorem dX6_isInside_13 : decode cX6_isInside 13 = .ok (.if_icmp .eq 13, 3) := by decide +kernel
theorem dX6_isInside_16 : decode cX6_isInside 16 = .ok (.aload_n 0, 1) := by decide +kernel
theorem dX6_isInside_17 : decode cX6_isInside 17 = .ok (.getfield 23, 3) := by decide +kernel
theorem dX6_isInside_20 : decode cX6_isInside 20 = .ok (.iload_n 3, 1) := by decide +kernel
theorem dX6_isInside_21 : decode cX6_isInside 21 = .ok (.iaload, 1) := by decide +kernel
theorem dX6_isInside_22 : decode cX6_isInside 22 = .ok (.istore_n 3, 1) := by decide +kernel
theorem dX6_isInside_23 : decode cX6_isInside 23 = .ok (.goto (-16), 3) := by decide +kernel
theorem dX6_isInside_26 : decode cX6_isInside 26 = .ok (.iload_n 3, 1) := by decide +kernel
theorem dX6_isInside_27 : decode cX6_isInside 27 = .ok (.iload_n 2, 1) := by decide +kernel
theorem dX6_isInside_28 : decode cX6_isInside 28 = .ok (.if_icmp .ne 7, 3) := by decide +kernel
theorem dX6_isInside_31 : decode cX6_isInside 31 = .ok (.iconst 1, 1) := by decide +kernel
theorem dX6_isInside_32 : decode cX6_isInside 32 = .ok (.goto 4, 3) := by decide +kernel
theorem dX6_isInside_35 : decode cX6_isInside 35 = .ok (.iconst 0, 1) := by decide +kernel
theorem dX6_isInside_36 : decode cX6_isInside 36 = .ok (.ireturn, 1) := by decide +kernel
set_option maxRecDepth 20000 in
theorem ggX6_reachable_X6_reaches : GoodIn wsX6_reachable wsX6_reaches := goodIn_r _ [6, 7, 8, 9, 10, 11, 12, 13, 14, 15, 16, 17, 18, 19, 20, 21, 22, 23, 24, 25, 26, 27, 28, 29, 30, 31, 32, 33] (by decide +kernel) (by decide +kernel)
set_option maxRecDepth 20000 in
theorem gX6_reachable_X6_reaches : GoodIn wsX6_reachable (wsV RX6 72 RX6 yX6_reaches wsX6_reaches) := goodIn_app (goodIn_of _ (by decide +kernel)) ggX6_reachable_X6_reaches
theorem dX6_reachable_0 : decode cX6_reachable 0 = .ok (.iconst 0, 1) := by decide +kernel
theorem dX6_reachable_1 : decode cX6_reachable 1 = .ok (.istore_n 1, 1) := by decide +kernel
theorem dX6_reachable_2 : decode cX6_reachable 2 = .ok (.iconst 0, 1) := by decide +kernel
theorem dX6_reachable_3 : decode cX6_reachable 3 = .ok (.istore_n 2, 1) := by decide +kernel
theorem dX6_reachable_4 : decode cX6_reachable 4 = .ok (.iload_n 2, 1) := by decide +kernel
theorem dX6_reachable_5 : decode cX6_reachable 5 = .ok (.aload_n 0, 1) := by decide +kernel
theorem dX6_reachable_6 : decode cX6_reachable 6 = .ok (.getfield 57, 3) := by decide +kernel
theorem dX6_reachable_9 : decode cX6_reachable 9 = .ok (.if_icmp .ge 27, 3) := by decide +kernel
theorem dX6_reachable_12 : decode cX6_reachable 12 = .ok (.iload_n 1, 1) := by decide +kernel
theorem dX6_reachable_13 : decode cX6_reachable 13 = .ok (.aload_n 0, 1) := by decide +kernel
theorem dX6_reachable_14 : decode cX6_reachable 14 = .ok (.iload_n 2, 1) := by decide +kernel
theorem dX6_reachable_15 : decode cX6_reachable 15 = .ok (.invokevirtual 72, 3) := by decide +kernel
theorem dX6_reachable_18 : decode cX6_reachable 18 = .ok (.ifCond .eq 9, 3) := by decide +kernel
theorem dX6_reachable_21 : decode cX6_reachable 21 = .ok (.iconst 1, 1) := by decide +kernel
theorem dX6_reachable_22 : decode cX6_reachable 22 = .ok (.iload_n 2, 1) := by decide +kernel
theorem dX6_reachable_23 : decode cX6_reachable 23 = .ok (.ishl, 1) := by decide +kernel
theorem dX6_reachable_24 : decode cX6_reachable 24 = .ok (.goto 4, 3) := by decide +kernel
theorem dX6_reachable_27 : decode cX6_reachable 27 = .ok (.iconst 0, 1) := by decide +kernel
theorem dX6_reachable_28 : decode cX6_reachable 28 = .ok (.ior, 1) := by decide +kernel
theorem dX6_reachable_29 : decode cX6_reachable 29 = .ok (.istore_n 1, 1) := by decide +kernel
theorem dX6_reachable_30 : decode cX6_reachable 30 = .ok (.iinc 2 1, 3) := by decide +kernel
theorem dX6_reachable_33 : decode cX6_reachable 33 = .ok (.goto (-29), 3) := by decide +kernel
theorem dX6_reachable_36 : decode cX6_reachable 36 = .ok (.iload_n 1, 1) := by decide +kernel
theorem dX6_reachable_37 : decode cX6_reachable 37 = .ok (.ireturn, 1) := by decide +kernel
set_option maxRecDepth 20000 in
theorem ggX6_inReach_X6_reachable : GoodIn wsX6_inReach wsX6_reachable := goodIn_r _ [6, 7, 8, 9, 10, 5, 11, 12, 13, 14, 15, 16, 17, 18, 19, 20, 21, 22, 23, 24, 25, 26, 27, 28, 29, 30, 31, 32, 33, 34, 35, 36, 37, 38] (by decide +kernel) (by decide +kernel)
set_option maxRecDepth 20000 in
theorem gX6_inReach_X6_reachable : GoodIn wsX6_inReach (wsV RX6 75 RX6 yX6_reachable wsX6_reachable) := goodIn_app (goodIn_of _ (by decide +kernel)) ggX6_inReach_X6_reachable
theorem dX6_inReach_0 : decode cX6_inReach 0 = .ok (.aload_n 0, 1) := by decide +kernel
theorem dX6_inReach_1 : decode cX6_inReach 1 = .ok (.iconst 0, 1) := by decide +kernel
theorem dX6_inReach_2 : decode cX6_inReach 2 = .ok (.putfield 54, 3) := by decide +kernel
theorem dX6_inReach_5 : decode cX6_inReach 5 = .ok (.aload_n 0, 1) := by decide +kernel
theorem dX6_inReach_6 : decode cX6_inReach 6 = .ok (.invokevirtual 75, 3) := by decide +kernel
theorem dX6_inReach_9 : decode cX6_inReach 9 = .ok (.ireturn, 1) := by decide +kernel
set_option maxRecDepth 20000 in
theorem ggX6_suits_X6_reaches : GoodIn wsX6_suits wsX6_reaches := goodIn_r _ [8, 1, 3, 9, 10, 11, 12, 13, 14, 15, 16, 17, 18, 19, 20, 21, 22, 23, 24, 25, 26, 27, 28, 29, 30, 31, 32, 33] (by decide +kernel) (by decide +kernel)
set_option maxRecDepth 20000 in
theorem gX6_suits_X6_reaches : GoodIn wsX6_suits (wsV RX6 72 RX6 yX6_reaches wsX6_reaches) := goodIn_app (goodIn_of _ (by decide +kernel)) ggX6_suits_X6_reaches
theorem dX6_suits_0 : decode cX6_suits 0 = .ok (.aload_n 0, 1) := by decide +kernel
theorem dX6_suits_1 : decode cX6_suits 1 = .ok (.iload_n 2, 1) := by decide +kernel
theorem dX6_suits_2 : decode cX6_suits 2 = .ok (.invokevirtual 72, 3) := by decide +kernel
theorem dX6_suits_5 : decode cX6_suits 5 = .ok (.ifCond .ne 5, 3) := by decide +kernel
theorem dX6_suits_8 : decode cX6_suits 8 = .ok (.iconst 0, 1) := by decide +kernel
theorem dX6_suits_9 : decode cX6_suits 9 = .ok (.ireturn, 1) := by decide +kernel
theorem dX6_suits_10 : decode cX6_suits 10 = .ok (.aload_n 0, 1) := by decide +kernel
theorem dX6_suits_11 : decode cX6_suits 11 = .ok (.getfield 23, 3) := by decide +kernel
theorem dX6_suits_14 : decode cX6_suits 14 = .ok (.iload_n 2, 1) := by decide +kernel
theorem dX6_suits_15 : decode cX6_suits 15 = .ok (.iaload, 1) := by decide +kernel
theorem dX6_suits_16 : decode cX6_suits 16 = .ok (.bipush (-3), 2) := by decide +kernel
theorem dX6_suits_18 : decode cX6_suits 18 = .ok (.if_icmp .ne 7, 3) := by decide +kernel
theorem dX6_suits_21 : decode cX6_suits 21 = .ok (.iconst 1, 1) := by decide +kernel
theorem dX6_suits_22 : decode cX6_suits 22 = .ok (.goto 4, 3) := by decide +kernel
theorem dX6_suits_25 : decode cX6_suits 25 = .ok (.iconst 0, 1) := by decide +kernel
theorem dX6_suits_26 : decode cX6_suits 26 = .ok (.istore_n 3, 1) := by decide +kernel
theorem dX6_suits_27 : decode cX6_suits 27 = .ok (.iload_n 1, 1) := by decide +kernel
theorem dX6_suits_28 : decode cX6_suits 28 = .ok (.ifCond .ne 15, 3) := by decide +kernel
theorem dX6_suits_31 : decode cX6_suits 31 = .ok (.iload_n 3, 1) := by decide +kernel
theorem dX6_suits_32 : decode cX6_suits 32 = .ok (.ifCond .ne 7, 3) := by decide +kernel
theorem dX6_suits_35 : decode cX6_suits 35 = .ok (.iconst 1, 1) := by decide +kernel
theorem dX6_suits_36 : decode cX6_suits 36 = .ok (.goto 58, 3) := by decide +kernel
theorem dX6_suits_39 : decode cX6_suits 39 = .ok (.iconst 0, 1) := by decide +kernel
theorem dX6_suits_40 : decode cX6_suits 40 = .ok (.goto 54, 3) := by decide +kernel
theorem dX6_suits_43 : decode cX6_suits 43 = .ok (.iload_n 1, 1) := by decide +kernel
theorem dX6_suits_44 : decode cX6_suits 44 = .ok (.iconst 1, 1) := by decide +kernel
theorem dX6_suits_45 : decode cX6_suits 45 = .ok (.if_icmp .eq 8, 3) := by decide +kernel
theorem dX6_suits_48 : decode cX6_suits 48 = .ok (.iload_n 1, 1) := by decide +kernel
theorem dX6_suits_49 : decode cX6_suits 49 = .ok (.iconst 2, 1) := by decide +kernel
theorem dX6_suits_50 : decode cX6_suits 50 = .ok (.if_icmp .ne 7, 3) := by decide +kernel
theorem dX6_suits_53 : decode cX6_suits 53 = .ok (.iload_n 3, 1) := by decide +kernel
theorem dX6_suits_54 : decode cX6_suits 54 = .ok (.goto 40, 3) := by decide +kernel
theorem dX6_suits_57 : decode cX6_suits 57 = .ok (.iload_n 1, 1) := by decide +kernel
theorem dX6_suits_58 : decode cX6_suits 58 = .ok (.iconst 3, 1) := by decide +kernel
theorem dX6_suits_59 : decode cX6_suits 59 = .ok (.if_icmp .ne 29, 3) := by decide +kernel
theorem dX6_suits_62 : decode cX6_suits 62 = .ok (.aload_n 0, 1) := by decide +kernel
theorem dX6_suits_63 : decode cX6_suits 63 = .ok (.getfield 16, 3) := by decide +kernel
theorem dX6_suits_66 : decode cX6_suits 66 = .ok (.iload_n 2, 1) := by decide +kernel
theorem dX6_suits_67 : decode cX6_suits 67 = .ok (.baload, 1) := by decide +kernel
theorem dX6_suits_68 : decode cX6_suits 68 = .ok (.ifCond .eq 16, 3) := by decide +kernel
theorem dX6_suits_71 : decode cX6_suits 71 = .ok (.aload_n 0, 1) := by decide +kernel
theorem dX6_suits_72 : decode cX6_suits 72 = .ok (.getfield 20, 3) := by decide +kernel
theorem dX6_suits_75 : decode cX6_suits 75 = .ok (.iload_n 2, 1) := by decide +kernel
theorem dX6_suits_76 : decode cX6_suits 76 = .ok (.baload, 1) := by decide +kernel
theorem dX6_suits_77 : decode cX6_suits 77 = .ok (.ifCond .ne 7, 3) := by decide +kernel
theorem dX6_suits_80 : decode cX6_suits 80 = .ok (.iconst 1, 1) := by decide +kernel
theorem dX6_suits_81 : decode cX6_suits 81 = .ok (.goto 13, 3) := by decide +kernel
theorem dX6_suits_84 : decode cX6_suits 84 = .ok (.iconst 0, 1) := by decide +kernel
theorem dX6_suits_85 : decode cX6_suits 85 = .ok (.goto 9, 3) := by decide +kernel
theorem dX6_suits_88 : decode cX6_suits 88 = .ok (.aload_n 0, 1) := by decide +kernel
theorem dX6_suits_89 : decode cX6_suits 89 = .ok (.getfield 20, 3) := by decide +kernel
theorem dX6_suits_92 : decode cX6_suits 92 = .ok (.iload_n 2, 1) := by decide +kernel
theorem dX6_suits_93 : decode cX6_suits 93 = .ok (.baload, 1) := by decide +kernel
theorem dX6_suits_94 : decode cX6_suits 94 = .ok (.ireturn, 1) := by decide +kernel
set_option maxRecDepth 20000 in
theorem ggX6_suited_X6_suits : GoodIn wsX6_suited wsX6_suits := goodIn_r _ [6, 7, 8, 9, 10, 11, 12, 5, 13, 14, 15, 16, 17, 18, 19, 20, 21, 22, 23, 24, 25, 26, 27, 28, 29, 30, 31, 32, 33, 34, 35, 36, 37, 38] (by decide +kernel) (by decide +kernel)
set_option maxRecDepth 20000 in
theorem gX6_suited_X6_suits : GoodIn wsX6_suited (wsV RX6 79 RX6 yX6_suits wsX6_suits) := goodIn_app (goodIn_of _ (by decide +kernel)) ggX6_suited_X6_suits
theorem dX6_suited_0 : decode cX6_suited 0 = .ok (.iconst 0, 1) := by decide +kernel
theorem dX6_suited_1 : decode cX6_suited 1 = .ok (.istore_n 3, 1) := by decide +kernel
theorem dX6_suited_2 : decode cX6_suited 2 = .ok (.iconst 0, 1) := by decide +kernel
theorem dX6_suited_3 : decode cX6_suited 3 = .ok (.istore 4, 2) := by decide +kernel
theorem dX6_suited_5 : decode cX6_suited 5 = .ok (.iload 4, 2) := by decide +kernel
theorem dX6_suited_7 : decode cX6_suited 7 = .ok (.aload_n 0, 1) := by decide +kernel
theorem dX6_suited_8 : decode cX6_suited 8 = .ok (.getfield 57, 3) := by decide +kernel
theorem dX6_suited_11 : decode cX6_suited 11 = .ok (.if_icmp .ge 40, 3) := by decide +kernel
theorem dX6_suited_14 : decode cX6_suited 14 = .ok (.iload_n 3, 1) := by decide +kernel
theorem dX6_suited_15 : decode cX6_suited 15 = .ok (.iload_n 2, 1) := by decide +kernel
theorem dX6_suited_16 : decode cX6_suited 16 = .ok (.iload 4, 2) := by decide +kernel
theorem dX6_suited_18 : decode cX6_suited 18 = .ok (.ishr, 1) := by decide +kernel
theorem dX6_suited_19 : decode cX6_suited 19 = .ok (.iconst 1, 1) := by decide +kernel
theorem dX6_suited_20 : decode cX6_suited 20 = .ok (.iand, 1) := by decide +kernel
theorem dX6_suited_21 : decode cX6_suited 21 = .ok (.iconst 1, 1) := by decide +kernel
theorem dX6_suited_22 : decode cX6_suited 22 = .ok (.if_icmp .ne 20, 3) := by decide +kernel
theorem dX6_suited_25 : decode cX6_suited 25 = .ok (.aload_n 0, 1) := by decide +kernel
theorem dX6_suited_26 : decode cX6_suited 26 = .ok (.iload_n 1, 1) := by decide +kernel
theorem dX6_suited_27 : decode cX6_suited 27 = .ok (.iload 4, 2) := by decide +kernel
theorem dX6_suited_29 : decode cX6_suited 29 = .ok (.invokevirtual 79, 3) := by decide +kernel
theorem dX6_suited_32 : decode cX6_suited 32 = .ok (.ifCond .eq 10, 3) := by decide +kernel
theorem dX6_suited_35 : decode cX6_suited 35 = .ok (.iconst 1, 1) := by decide +kernel
theorem dX6_suited_36 : decode cX6_suited 36 = .ok (.iload 4, 2) := by decide +kernel
theorem dX6_suited_38 : decode cX6_suited 38 = .ok (.ishl, 1) := by decide +kernel
theorem dX6_suited_39 : decode cX6_suited 39 = .ok (.goto 4, 3) := by decide +kernel
theorem dX6_suited_42 : decode cX6_suited 42 = .ok (.iconst 0, 1) := by decide +kernel
theorem dX6_suited_43 : decode cX6_suited 43 = .ok (.ior, 1) := by decide +kernel
theorem dX6_suited_44 : decode cX6_suited 44 = .ok (.istore_n 3, 1) := by decide +kernel
theorem dX6_suited_45 : decode cX6_suited 45 = .ok (.iinc 4 1, 3) := by decide +kernel
theorem dX6_suited_48 : decode cX6_suited 48 = .ok (.goto (-43), 3) := by decide +kernel
theorem dX6_suited_51 : decode cX6_suited 51 = .ok (.iload_n 3, 1) := by decide +kernel
theorem dX6_suited_52 : decode cX6_suited 52 = .ok (.ireturn, 1) := by decide +kernel
theorem dX6_having_0 : decode cX6_having 0 = .ok (.iconst 0, 1) := by decide +kernel
theorem dX6_having_1 : decode cX6_having 1 = .ok (.istore 4, 2) := by decide +kernel
theorem dX6_having_3 : decode cX6_having 3 = .ok (.iconst 0, 1) := by decide +kernel
theorem dX6_having_4 : decode cX6_having 4 = .ok (.istore 5, 2) := by decide +kernel
theorem dX6_having_6 : decode cX6_having 6 = .ok (.iload 5, 2) := by decide +kernel
theorem dX6_having_8 : decode cX6_having 8 = .ok (.aload_n 0, 1) := by decide +kernel
theorem dX6_having_9 : decode cX6_having 9 = .ok (.getfield 57, 3) := by decide +kernel
theorem dX6_having_12 : decode cX6_having 12 = .ok (.if_icmp .ge 73, 3) := by decide +kernel
theorem dX6_having_15 : decode cX6_having 15 = .ok (.aload_n 0, 1) := by decide +kernel
theorem dX6_having_16 : decode cX6_having 16 = .ok (.getfield 13, 3) := by decide +kernel
theorem dX6_having_19 : decode cX6_having 19 = .ok (.iload 5, 2) := by decide +kernel
theorem dX6_having_21 : decode cX6_having 21 = .ok (.iaload, 1) := by decide +kernel
theorem dX6_having_22 : decode cX6_having 22 = .ok (.iload_n 2, 1) := by decide +kernel
theorem dX6_having_23 : decode cX6_having 23 = .ok (.iand, 1) := by decide +kernel
theorem dX6_having_24 : decode cX6_having 24 = .ok (.iload_n 2, 1) := by decide +kernel
theorem dX6_having_25 : decode cX6_having 25 = .ok (.if_icmp .ne 23, 3) := by decide +kernel
theorem dX6_having_28 : decode cX6_having 28 = .ok (.iload_n 3, 1) := by decide +kernel
theorem dX6_having_29 : decode cX6_having 29 = .ok (.iconst (-1), 1) := by decide +kernel
theorem dX6_having_30 : decode cX6_having 30 = .ok (.if_icmp .eq 14, 3) := by decide +kernel
theorem dX6_having_33 : decode cX6_having 33 = .ok (.aload_n 0, 1) := by decide +kernel
theorem dX6_having_34 : decode cX6_having 34 = .ok (.getfield 7, 3) := by decide +kernel
theorem dX6_having_37 : decode cX6_having 37 = .ok (.iload 5, 2) := by decide +kernel
theorem dX6_having_39 : decode cX6_having 39 = .ok (.iaload, 1) := by decide +kernel
theorem dX6_having_40 : decode cX6_having 40 = .ok (.iload_n 3, 1) := by decide +kernel
theorem dX6_having_41 : decode cX6_having 41 = .ok (.if_icmp .ne 7, 3) := by decide +kernel
theorem dX6_having_44 : decode cX6_having 44 = .ok (.iconst 1, 1) := by decide +kernel
theorem dX6_having_45 : decode cX6_having 45 = .ok (.goto 4, 3) := by decide +kernel
theorem dX6_having_48 : decode cX6_having 48 = .ok (.iconst 0, 1) := by decide +kernel
theorem dX6_having_49 : decode cX6_having 49 = .ok (.istore 6, 2) := by decide +kernel
theorem dX6_having_51 : decode cX6_having 51 = .ok (.iload 4, 2) := by decide +kernel
theorem dX6_having_53 : decode cX6_having 53 = .ok (.iload_n 1, 1) := by decide +kernel
theorem dX6_having_54 : decode cX6_having 54 = .ok (.iload 5, 2) := by decide +kernel
theorem dX6_having_56 : decode cX6_having 56 = .ok (.ishr, 1) := by decide +kernel
theorem dX6_having_57 : decode cX6_having 57 = .ok (.iconst 1, 1) := by decide +kernel
theorem dX6_having_58 : decode cX6_having 58 = .ok (.iand, 1) := by decide +kernel
theorem dX6_having_59 : decode cX6_having 59 = .ok (.iconst 1, 1) := by decide +kernel
theorem dX6_having_60 : decode cX6_having 60 = .ok (.if_icmp .ne 15, 3) := by decide +kernel
theorem dX6_having_63 : decode cX6_having 63 = .ok (.iload 6, 2) := by decide +kernel
theorem dX6_having_65 : decode cX6_having 65 = .ok (.ifCond .eq 10, 3) := by decide +kernel
theorem dX6_having_68 : decode cX6_having 68 = .ok (.iconst 1, 1) := by decide +kernel
theorem dX6_having_69 : decode cX6_having 69 = .ok (.iload 5, 2) := by decide +kernel
theorem dX6_having_71 : decode cX6_having 71 = .ok (.ishl, 1) := by decide +kernel
theorem dX6_having_72 : decode cX6_having 72 = .ok (.goto 4, 3) := by decide +kernel
theorem dX6_having_75 : decode cX6_having 75 = .ok (.iconst 0, 1) := by decide +kernel
theorem dX6_having_76 : decode cX6_having 76 = .ok (.ior, 1) := by decide +kernel
theorem dX6_having_77 : decode cX6_having 77 = .ok (.istore 4, 2) := by decide +kernel
theorem dX6_having_79 : decode cX6_having 79 = .ok (.iinc 5 1, 3) := by decide +kernel
theorem dX6_having_82 : decode cX6_having 82 = .ok (.goto (-76), 3) := by decide +kernel
theorem dX6_having_85 : decode cX6_having 85 = .ok (.iload 4, 2) := by decide +kernel
theorem dX6_having_87 : decode cX6_having 87 = .ok (.ireturn, 1) := by decide +kernel
theorem dX6_bits_0 : decode cX6_bits 0 = .ok (.iconst 0, 1) := by decide +kernel
theorem dX6_bits_1 : decode cX6_bits 1 = .ok (.istore_n 1, 1) := by decide +kernel
theorem dX6_bits_2 : decode cX6_bits 2 = .ok (.iload_n 0, 1) := by decide +kernel
theorem dX6_bits_3 : decode cX6_bits 3 = .ok (.istore_n 2, 1) := by decide +kernel
theorem dX6_bits_4 : decode cX6_bits 4 = .ok (.iload_n 2, 1) := by decide +kernel
theorem dX6_bits_5 : decode cX6_bits 5 = .ok (.ifCond .le 16, 3) := by decide +kernel
theorem dX6_bits_8 : decode cX6_bits 8 = .ok (.iload_n 1, 1) := by decide +kernel
theorem dX6_bits_9 : decode cX6_bits 9 = .ok (.iload_n 2, 1) := by decide +kernel
theorem dX6_bits_10 : decode cX6_bits 10 = .ok (.iconst 1, 1) := by decide +kernel
theorem dX6_bits_11 : decode cX6_bits 11 = .ok (.iand, 1) := by decide +kernel
theorem dX6_bits_12 : decode cX6_bits 12 = .ok (.iadd, 1) := by decide +kernel
theorem dX6_bits_13 : decode cX6_bits 13 = .ok (.istore_n 1, 1) := by decide +kernel
theorem dX6_bits_14 : decode cX6_bits 14 = .ok (.iload_n 2, 1) := by decide +kernel
theorem dX6_bits_15 : decode cX6_bits 15 = .ok (.iconst 1, 1) := by decide +kernel
theorem dX6_bits_16 : decode cX6_bits 16 = .ok (.ishr, 1) := by decide +kernel
theorem dX6_bits_17 : decode cX6_bits 17 = .ok (.istore_n 2, 1) := by decide +kernel
theorem dX6_bits_18 : decode cX6_bits 18 = .ok (.goto (-14), 3) := by decide +kernel
theorem dX6_bits_21 : decode cX6_bits 21 = .ok (.iload_n 1, 1) := by decide +kernel
theorem dX6_bits_22 : decode cX6_bits 22 = .ok (.ireturn, 1) := by decide +kernel
theorem dX6_lowest_0 : decode cX6_lowest 0 = .ok (.iconst 0, 1) := by decide +kernel
theorem dX6_lowest_1 : decode cX6_lowest 1 = .ok (.istore_n 1, 1) := by decide +kernel
theorem dX6_lowest_2 : decode cX6_lowest 2 = .ok (.iload_n 0, 1) := by decide +kernel
theorem dX6_lowest_3 : decode cX6_lowest 3 = .ok (.iload_n 1, 1) := by decide +kernel
theorem dX6_lowest_4 : decode cX6_lowest 4 = .ok (.ishr, 1) := by decide +kernel
theorem dX6_lowest_5 : decode cX6_lowest 5 = .ok (.iconst 1, 1) := by decide +kernel
theorem dX6_lowest_6 : decode cX6_lowest 6 = .ok (.iand, 1) := by decide +kernel
theorem dX6_lowest_7 : decode cX6_lowest 7 = .ok (.ifCond .ne 9, 3) := by decide +kernel
theorem dX6_lowest_10 : decode cX6_lowest 10 = .ok (.iinc 1 1, 3) := by decide +kernel
theorem dX6_lowest_13 : decode cX6_lowest 13 = .ok (.goto (-11), 3) := by decide +kernel
theorem dX6_lowest_16 : decode cX6_lowest 16 = .ok (.iload_n 1, 1) := by decide +kernel
theorem dX6_lowest_17 : decode cX6_lowest 17 = .ok (.ireturn, 1) := by decide +kernel
theorem dX6_isVerb_0 : decode cX6_isVerb 0 = .ok (.iload_n 0, 1) := by decide +kernel
theorem dX6_isVerb_1 : decode cX6_isVerb 1 = .ok (.ifCond .lt 12, 3) := by decide +kernel
theorem dX6_isVerb_4 : decode cX6_isVerb 4 = .ok (.iload_n 0, 1) := by decide +kernel
theorem dX6_isVerb_5 : decode cX6_isVerb 5 = .ok (.iconst 4, 1) := by decide +kernel
theorem dX6_isVerb_6 : decode cX6_isVerb 6 = .ok (.if_icmp .gt 7, 3) := by decide +kernel
theorem dX6_isVerb_9 : decode cX6_isVerb 9 = .ok (.iconst 1, 1) := by decide +kernel
theorem dX6_isVerb_10 : decode cX6_isVerb 10 = .ok (.goto 4, 3) := by decide +kernel
theorem dX6_isVerb_13 : decode cX6_isVerb 13 = .ok (.iconst 0, 1) := by decide +kernel
theorem dX6_isVerb_14 : decode cX6_isVerb 14 = .ok (.ireturn, 1) := by decide +kernel
theorem dX6_isAdjective_0 : decode cX6_isAdjective 0 = .ok (.iload_n 0, 1) := by decide +kernel
theorem dX6_isAdjective_1 : decode cX6_isAdjective 1 = .ok (.bipush 20, 2) := by decide +kernel
theorem dX6_isAdjective_3 : decode cX6_isAdjective 3 = .ok (.if_icmp .lt 13, 3) := by decide +kernel
theorem dX6_isAdjective_6 : decode cX6_isAdjective 6 = .ok (.iload_n 0, 1) := by decide +kernel
theorem dX6_isAdjective_7 : decode cX6_isAdjective 7 = .ok (.bipush 26, 2) := by decide +kernel
theorem dX6_isAdjective_9 : decode cX6_isAdjective 9 = .ok (.if_icmp .ge 7, 3) := by decide +kernel
theorem dX6_isAdjective_12 : decode cX6_isAdjective 12 = .ok (.iconst 1, 1) := by decide +kernel
theorem dX6_isAdjective_13 : decode cX6_isAdjective 13 = .ok (.goto 4, 3) := by decide +kernel
theorem dX6_isAdjective_16 : decode cX6_isAdjective 16 = .ok (.iconst 0, 1) := by decide +kernel
theorem dX6_isAdjective_17 : decode cX6_isAdjective 17 = .ok (.ireturn, 1) := by decide +kernel
theorem dX6_isNoun_0 : decode cX6_isNoun 0 = .ok (.iload_n 0, 1) := by decide +kernel
theorem dX6_isNoun_1 : decode cX6_isNoun 1 = .ok (.bipush 30, 2) := by decide +kernel
theorem dX6_isNoun_3 : decode cX6_isNoun 3 = .ok (.if_icmp .lt 13, 3) := by decide +kernel
theorem dX6_isNoun_6 : decode cX6_isNoun 6 = .ok (.iload_n 0, 1) := by decide +kernel
theorem dX6_isNoun_7 : decode cX6_isNoun 7 = .ok (.bipush 38, 2) := by decide +kernel
theorem dX6_isNoun_9 : decode cX6_isNoun 9 = .ok (.if_icmp .ge 7, 3) := by decide +kernel
theorem dX6_isNoun_12 : decode cX6_isNoun 12 = .ok (.iconst 1, 1) := by decide +kernel
theorem dX6_isNoun_13 : decode cX6_isNoun 13 = .ok (.goto 4, 3) := by decide +kernel
theorem dX6_isNoun_16 : decode cX6_isNoun 16 = .ok (.iconst 0, 1) := by decide +kernel
theorem dX6_isNoun_17 : decode cX6_isNoun 17 = .ok (.ireturn, 1) := by decide +kernel
theorem dX6_isPlural_0 : decode cX6_isPlural 0 = .ok (.iload_n 0, 1) := by decide +kernel
theorem dX6_isPlural_1 : decode cX6_isPlural 1 = .ok (.bipush 40, 2) := by decide +kernel
theorem dX6_isPlural_3 : decode cX6_isPlural 3 = .ok (.if_icmp .lt 13, 3) := by decide +kernel
theorem dX6_isPlural_6 : decode cX6_isPlural 6 = .ok (.iload_n 0, 1) := by decide +kernel
theorem dX6_isPlural_7 : decode cX6_isPlural 7 = .ok (.bipush 48, 2) := by decide +kernel
theorem dX6_isPlural_9 : decode cX6_isPlural 9 = .ok (.if_icmp .ge 7, 3) := by decide +kernel
theorem dX6_isPlural_12 : decode cX6_isPlural 12 = .ok (.iconst 1, 1) := by decide +kernel
theorem dX6_isPlural_13 : decode cX6_isPlural 13 = .ok (.goto 4, 3) := by decide +kernel
theorem dX6_isPlural_16 : decode cX6_isPlural 16 = .ok (.iconst 0, 1) := by decide +kernel
theorem dX6_isPlural_17 : decode cX6_isPlural 17 = .ok (.ireturn, 1) := by decide +kernel
set_option maxRecDepth 20000 in
theorem ggX6_word_X6_isVerb : GoodIn wsX6_word wsX6_isVerb := goodIn_r _ [6] (by decide +kernel) (by decide +kernel)
set_option maxRecDepth 20000 in
theorem gX6_word_X6_isVerb : GoodIn wsX6_word (va_wsS RX6 83 yX6_isVerb wsX6_isVerb) := goodIn_app (goodIn_of _ (by decide +kernel)) ggX6_word_X6_isVerb
set_option maxRecDepth 20000 in
theorem ggX6_word_X6_isAdjective : GoodIn wsX6_word wsX6_isAdjective := goodIn_r _ [9] (by decide +kernel) (by decide +kernel)
set_option maxRecDepth 20000 in
theorem gX6_word_X6_isAdjective : GoodIn wsX6_word (va_wsS RX6 86 yX6_isAdjective wsX6_isAdjective) := goodIn_app (goodIn_of _ (by decide +kernel)) ggX6_word_X6_isAdjective
set_option maxRecDepth 20000 in
theorem ggX6_word_X6_isNoun : GoodIn wsX6_word wsX6_isNoun := goodIn_r _ [12] (by decide +kernel) (by decide +kernel)
set_option maxRecDepth 20000 in
theorem gX6_word_X6_isNoun : GoodIn wsX6_word (va_wsS RX6 89 yX6_isNoun wsX6_isNoun) := goodIn_app (goodIn_of _ (by decide +kernel)) ggX6_word_X6_isNoun
set_option maxRecDepth 20000 in
theorem ggX6_word_X6_isPlural : GoodIn wsX6_word wsX6_isPlural := goodIn_r _ [15] (by decide +kernel) (by decide +kernel)
set_option maxRecDepth 20000 in
theorem gX6_word_X6_isPlural : GoodIn wsX6_word (va_wsS RX6 92 yX6_isPlural wsX6_isPlural) := goodIn_app (goodIn_of _ (by decide +kernel)) ggX6_word_X6_isPlural
set_option maxRecDepth 20000 in
theorem ggX6_word_X6_mayBoth : GoodIn wsX6_word wsX6_mayBoth := goodIn_r _ [19, 20, 21, 22, 23, 24, 25, 26, 27, 28, 29, 30, 31, 32, 33, 34, 35, 36, 37, 38, 39, 40, 41, 42, 43, 44, 45] (by decide +kernel) (by decide +kernel)
set_option maxRecDepth 20000 in
theorem gX6_word_X6_mayBoth : GoodIn wsX6_word (wsV RX6 60 RX6 yX6_mayBoth wsX6_mayBoth) := goodIn_app (goodIn_of _ (by decide +kernel)) ggX6_word_X6_mayBoth
theorem dX6_word_0 : decode cX6_word 0 = .ok (.iload_n 1, 1) := by decide +kernel
theorem dX6_word_1 : decode cX6_word 1 = .ok (.invokestatic 83, 3) := by decide +kernel
theorem dX6_word_4 : decode cX6_word 4 = .ok (.ifCond .ne 36, 3) := by decide +kernel
theorem dX6_word_7 : decode cX6_word 7 = .ok (.iload_n 1, 1) := by decide +kernel
theorem dX6_word_8 : decode cX6_word 8 = .ok (.bipush 10, 2) := by decide +kernel
theorem dX6_word_10 : decode cX6_word 10 = .ok (.if_icmp .lt 9, 3) := by decide +kernel
theorem dX6_word_13 : decode cX6_word 13 = .ok (.iload_n 1, 1) := by decide +kernel
theorem dX6_word_14 : decode cX6_word 14 = .ok (.bipush 17, 2) := by decide +kernel
theorem dX6_word_16 : decode cX6_word 16 = .ok (.if_icmp .le 24, 3) := by decide +kernel
theorem dX6_word_19 : decode cX6_word 19 = .ok (.iload_n 1, 1) := by decide +kernel
theorem dX6_word_20 : decode cX6_word 20 = .ok (.invokestatic 86, 3) := by decide +kernel
theorem dX6_word_23 : decode cX6_word 23 = .ok (.ifCond .ne 17, 3) := by decide +kernel
theorem dX6_word_26 : decode cX6_word 26 = .ok (.iload_n 1, 1) := by decide +kernel
theorem dX6_word_27 : decode cX6_word 27 = .ok (.invokestatic 89, 3) := by decide +kernel
theorem dX6_word_30 : decode cX6_word 30 = .ok (.ifCond .ne 10, 3) := by decide +kernel
theorem dX6_word_33 : decode cX6_word 33 = .ok (.iload_n 1, 1) := by decide +kernel
theorem dX6_word_34 : decode cX6_word 34 = .ok (.invokestatic 92, 3) := by decide +kernel
theorem dX6_word_37 : decode cX6_word 37 = .ok (.ifCond .eq 7, 3) := by decide +kernel
theorem dX6_word_40 : decode cX6_word 40 = .ok (.iconst 1, 1) := by decide +kernel
theorem dX6_word_41 : decode cX6_word 41 = .ok (.goto 4, 3) := by decide +kernel
theorem dX6_word_44 : decode cX6_word 44 = .ok (.iconst 0, 1) := by decide +kernel
theorem dX6_word_45 : decode cX6_word 45 = .ok (.istore_n 2, 1) := by decide +kernel
theorem dX6_word_46 : decode cX6_word 46 = .ok (.aload_n 0, 1) := by decide +kernel
theorem dX6_word_47 : decode cX6_word 47 = .ok (.iload_n 2, 1) := by decide +kernel
theorem dX6_word_48 : decode cX6_word 48 = .ok (.aload_n 0, 1) := by decide +kernel
theorem dX6_word_49 : decode cX6_word 49 = .ok (.getfield 95, 3) := by decide +kernel
theorem dX6_word_52 : decode cX6_word 52 = .ok (.bipush 24, 2) := by decide +kernel
theorem dX6_word_54 : decode cX6_word 54 = .ok (.if_icmp .ge 7, 3) := by decide +kernel
theorem dX6_word_57 : decode cX6_word 57 = .ok (.iconst 1, 1) := by decide +kernel
theorem dX6_word_58 : decode cX6_word 58 = .ok (.goto 4, 3) := by decide +kernel
theorem dX6_word_61 : decode cX6_word 61 = .ok (.iconst 0, 1) := by decide +kernel
theorem dX6_word_62 : decode cX6_word 62 = .ok (.invokevirtual 60, 3) := by decide +kernel
theorem dX6_word_65 : decode cX6_word 65 = .ok (.ifCond .ne 5, 3) := by decide +kernel
theorem dX6_word_68 : decode cX6_word 68 = .ok (.iconst 0, 1) := by decide +kernel
theorem dX6_word_69 : decode cX6_word 69 = .ok (.ireturn, 1) := by decide +kernel
theorem dX6_word_70 : decode cX6_word 70 = .ok (.aload_n 0, 1) := by decide +kernel
theorem dX6_word_71 : decode cX6_word 71 = .ok (.getfield 26, 3) := by decide +kernel
theorem dX6_word_74 : decode cX6_word 74 = .ok (.aload_n 0, 1) := by decide +kernel
theorem dX6_word_75 : decode cX6_word 75 = .ok (.getfield 95, 3) := by decide +kernel
theorem dX6_word_78 : decode cX6_word 78 = .ok (.iload_n 1, 1) := by decide +kernel
theorem dX6_word_79 : decode cX6_word 79 = .ok (.iastore, 1) := by decide +kernel
theorem dX6_word_80 : decode cX6_word 80 = .ok (.aload_n 0, 1) := by decide +kernel
theorem dX6_word_81 : decode cX6_word 81 = .ok (.dup, 1) := by decide +kernel
