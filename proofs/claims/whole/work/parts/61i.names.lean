set_option maxRecDepth 20000 in
theorem gX6_say_X6_understand : GoodIn wsX6_say (wsV RX6 167 RX6 yX6_understand wsX6_understand) := goodIn_app (goodIn_of _ (by decide +kernel)) ggX6_say_X6_understand
theorem dX6_say_0 : decode cX6_say 0 = .ok (.aload_n 0, 1) := by decide +kernel
theorem dX6_say_1 : decode cX6_say 1 = .ok (.iconst 0, 1) := by decide +kernel
theorem dX6_say_2 : decode cX6_say 2 = .ok (.putfield 54, 3) := by decide +kernel
theorem dX6_say_5 : decode cX6_say 5 = .ok (.aload_n 0, 1) := by decide +kernel
theorem dX6_say_6 : decode cX6_say 6 = .ok (.iconst (-1), 1) := by decide +kernel
theorem dX6_say_7 : decode cX6_say 7 = .ok (.putfield 33, 3) := by decide +kernel
theorem dX6_say_10 : decode cX6_say 10 = .ok (.aload_n 0, 1) := by decide +kernel
theorem dX6_say_11 : decode cX6_say 11 = .ok (.aload_n 0, 1) := by decide +kernel
theorem dX6_say_12 : decode cX6_say 12 = .ok (.invokevirtual 167, 3) := by decide +kernel
theorem dX6_say_15 : decode cX6_say 15 = .ok (.putfield 29, 3) := by decide +kernel
theorem dX6_say_18 : decode cX6_say 18 = .ok (.aload_n 0, 1) := by decide +kernel
theorem dX6_say_19 : decode cX6_say 19 = .ok (.dup, 1) := by decide +kernel
theorem dX6_say_20 : decode cX6_say 20 = .ok (.getfield 170, 3) := by decide +kernel
theorem dX6_say_23 : decode cX6_say 23 = .ok (.aload_n 0, 1) := by decide +kernel
theorem dX6_say_24 : decode cX6_say 24 = .ok (.getfield 29, 3) := by decide +kernel
theorem dX6_say_27 : decode cX6_say 27 = .ok (.iconst 1, 1) := by decide +kernel
theorem dX6_say_28 : decode cX6_say 28 = .ok (.if_icmp .ne 7, 3) := by decide +kernel
theorem dX6_say_31 : decode cX6_say 31 = .ok (.iconst 1, 1) := by decide +kernel
theorem dX6_say_32 : decode cX6_say 32 = .ok (.goto 4, 3) := by decide +kernel
theorem dX6_say_35 : decode cX6_say 35 = .ok (.iconst 0, 1) := by decide +kernel
theorem dX6_say_36 : decode cX6_say 36 = .ok (.iadd, 1) := by decide +kernel
theorem dX6_say_37 : decode cX6_say 37 = .ok (.putfield 170, 3) := by decide +kernel
theorem dX6_say_40 : decode cX6_say 40 = .ok (.aload_n 0, 1) := by decide +kernel
theorem dX6_say_41 : decode cX6_say 41 = .ok (.iconst 0, 1) := by decide +kernel
theorem dX6_say_42 : decode cX6_say 42 = .ok (.putfield 95, 3) := by decide +kernel
theorem dX6_say_45 : decode cX6_say 45 = .ok (.aload_n 0, 1) := by decide +kernel
theorem dX6_say_46 : decode cX6_say 46 = .ok (.getfield 29, 3) := by decide +kernel
theorem dX6_say_49 : decode cX6_say 49 = .ok (.ireturn, 1) := by decide +kernel
set_option maxRecDepth 20000 in
theorem ggX6_understand_X6_isVerb : GoodIn wsX6_understand wsX6_isVerb := goodIn_r _ [12] (by decide +kernel) (by decide +kernel)
set_option maxRecDepth 20000 in
theorem gX6_understand_X6_isVerb : GoodIn wsX6_understand (va_wsS RX6 83 yX6_isVerb wsX6_isVerb) := goodIn_app (goodIn_of _ (by decide +kernel)) ggX6_understand_X6_isVerb
set_option maxRecDepth 20000 in
theorem ggX6_understand_X6_wrongOrder : GoodIn wsX6_understand wsX6_wrongOrder := goodIn_r _ [16, 1, 2, 17, 18, 11, 19, 20, 21, 22, 23, 24, 25, 26, 27, 28, 117, 118, 119, 120, 121, 122, 123, 124, 125, 126, 127, 128, 129, 130, 131, 132, 133, 134, 135, 136, 137, 138, 139, 140, 141] (by decide +kernel) (by decide +kernel)
set_option maxRecDepth 20000 in
theorem gX6_understand_X6_wrongOrder : GoodIn wsX6_understand (wsV RX6 173 RX6 yX6_wrongOrder wsX6_wrongOrder) := goodIn_app (goodIn_of _ (by decide +kernel)) ggX6_understand_X6_wrongOrder
set_option maxRecDepth 20000 in
theorem ggX6_understand_X6_perform : GoodIn wsX6_understand wsX6_perform := goodIn_r _ [32, 3, 4, 33, 7, 34, 35, 36, 37, 38, 39, 40, 41, 42, 11, 43, 6, 44, 45, 46, 47, 48, 49, 50, 51, 52, 53, 54, 55, 56, 57, 58, 59, 60, 61, 62, 63, 64, 65, 66, 67, 17, 18, 19, 20, 21, 22, 68, 69, 70, 71, 8, 72, 73, 74, 75, 76, 77, 78, 79, 80, 81, 82, 83, 84, 85, 86, 87, 88, 89, 90, 91, 92, 93, 94, 95, 96, 97, 98, 99, 100, 26, 27, 28, 101, 102, 103, 104, 5, 105, 106, 107, 108, 109, 110, 111, 112, 117, 118, 119, 120, 121, 122, 123, 124, 125, 126, 127, 128, 129, 130, 131, 132, 133, 134, 135, 136, 137, 138, 139, 140, 141] (by decide +kernel) (by decide +kernel)
set_option maxRecDepth 20000 in
theorem gX6_understand_X6_perform : GoodIn wsX6_understand (wsV RX6 176 RX6 yX6_perform wsX6_perform) := goodIn_app (goodIn_of _ (by decide +kernel)) ggX6_understand_X6_perform
set_option maxRecDepth 20000 in
theorem ggX6_understand_X6_wrongAnswer : GoodIn wsX6_understand wsX6_wrongAnswer := goodIn_r _ [116, 1, 2, 17, 18, 11, 19, 26, 27, 28, 117, 118, 119, 120, 121, 122, 123, 124, 125, 126, 127, 128, 129, 130, 131, 132, 133, 134, 135, 136, 137, 138, 139, 140, 141] (by decide +kernel) (by decide +kernel)
set_option maxRecDepth 20000 in
theorem gX6_understand_X6_wrongAnswer : GoodIn wsX6_understand (wsV RX6 179 RX6 yX6_wrongAnswer wsX6_wrongAnswer) := goodIn_app (goodIn_of _ (by decide +kernel)) ggX6_understand_X6_wrongAnswer
set_option maxRecDepth 20000 in
theorem ggX6_understand_X6_isAdjective : GoodIn wsX6_understand wsX6_isAdjective := goodIn_r _ [19] (by decide +kernel) (by decide +kernel)
set_option maxRecDepth 20000 in
theorem gX6_understand_X6_isAdjective : GoodIn wsX6_understand (va_wsS RX6 86 yX6_isAdjective wsX6_isAdjective) := goodIn_app (goodIn_of _ (by decide +kernel)) ggX6_understand_X6_isAdjective
set_option maxRecDepth 20000 in
theorem ggX6_understand_X6_isNoun : GoodIn wsX6_understand wsX6_isNoun := goodIn_r _ [28] (by decide +kernel) (by decide +kernel)
set_option maxRecDepth 20000 in
theorem gX6_understand_X6_isNoun : GoodIn wsX6_understand (va_wsS RX6 89 yX6_isNoun wsX6_isNoun) := goodIn_app (goodIn_of _ (by decide +kernel)) ggX6_understand_X6_isNoun
set_option maxRecDepth 20000 in
theorem ggX6_understand_X6_having : GoodIn wsX6_understand wsX6_having := goodIn_r _ [79, 39, 80, 81, 117, 118, 119, 120, 121, 122, 123, 124, 125, 126, 127, 128, 129, 130, 131, 132, 133, 134, 135, 136, 137, 138, 139, 140, 141] (by decide +kernel) (by decide +kernel)
set_option maxRecDepth 20000 in
theorem gX6_understand_X6_having : GoodIn wsX6_understand (wsV RX6 125 RX6 yX6_having wsX6_having) := goodIn_app (goodIn_of _ (by decide +kernel)) ggX6_understand_X6_having
set_option maxRecDepth 20000 in
theorem ggX6_understand_X6_bits : GoodIn wsX6_understand wsX6_bits := goodIn_r _ [84] (by decide +kernel) (by decide +kernel)
set_option maxRecDepth 20000 in
theorem gX6_understand_X6_bits : GoodIn wsX6_understand (va_wsS RX6 128 yX6_bits wsX6_bits) := goodIn_app (goodIn_of _ (by decide +kernel)) ggX6_understand_X6_bits
set_option maxRecDepth 20000 in
theorem ggX6_understand_X6_lowest : GoodIn wsX6_understand wsX6_lowest := goodIn_r _ [87] (by decide +kernel) (by decide +kernel)
set_option maxRecDepth 20000 in
theorem gX6_understand_X6_lowest : GoodIn wsX6_understand (va_wsS RX6 131 yX6_lowest wsX6_lowest) := goodIn_app (goodIn_of _ (by decide +kernel)) ggX6_understand_X6_lowest
theorem dX6_understand_0 : decode cX6_understand 0 = .ok (.aload_n 0, 1) := by decide +kernel
theorem dX6_understand_1 : decode cX6_understand 1 = .ok (.getfield 95, 3) := by decide +kernel
theorem dX6_understand_4 : decode cX6_understand 4 = .ok (.ifCond .ne 5, 3) := by decide +kernel
theorem dX6_understand_7 : decode cX6_understand 7 = .ok (.iconst 2, 1) := by decide +kernel
theorem dX6_understand_8 : decode cX6_understand 8 = .ok (.ireturn, 1) := by decide +kernel
theorem dX6_understand_9 : decode cX6_understand 9 = .ok (.aload_n 0, 1) := by decide +kernel
theorem dX6_understand_10 : decode cX6_understand 10 = .ok (.getfield 26, 3) := by decide +kernel
theorem dX6_understand_13 : decode cX6_understand 13 = .ok (.iconst 0, 1) := by decide +kernel
theorem dX6_understand_14 : decode cX6_understand 14 = .ok (.iaload, 1) := by decide +kernel
theorem dX6_understand_15 : decode cX6_understand 15 = .ok (.invokestatic 83, 3) := by decide +kernel
theorem dX6_understand_18 : decode cX6_understand 18 = .ok (.ifCond .eq 79, 3) := by decide +kernel
theorem dX6_understand_21 : decode cX6_understand 21 = .ok (.aload_n 0, 1) := by decide +kernel
theorem dX6_understand_22 : decode cX6_understand 22 = .ok (.iconst 0, 1) := by decide +kernel
theorem dX6_understand_23 : decode cX6_understand 23 = .ok (.putfield 149, 3) := by decide +kernel
theorem dX6_understand_26 : decode cX6_understand 26 = .ok (.aload_n 0, 1) := by decide +kernel
theorem dX6_understand_27 : decode cX6_understand 27 = .ok (.iconst (-1), 1) := by decide +kernel
theorem dX6_understand_28 : decode cX6_understand 28 = .ok (.putfield 51, 3) := by decide +kernel
