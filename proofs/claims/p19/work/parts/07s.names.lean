theorem dX2_readPart_125 : decode cX2_readPart 125 = .ok (.invokevirtual 43, 3) := by decide +kernel
theorem dX2_readPart_128 : decode cX2_readPart 128 = .ok (.ifCond .eq 12, 3) := by decide +kernel
theorem dX2_readPart_131 : decode cX2_readPart 131 = .ok (.aload_n 0, 1) := by decide +kernel
theorem dX2_readPart_132 : decode cX2_readPart 132 = .ok (.aload_n 1, 1) := by decide +kernel
theorem dX2_readPart_133 : decode cX2_readPart 133 = .ok (.iconst 1, 1) := by decide +kernel
theorem dX2_readPart_134 : decode cX2_readPart 134 = .ok (.invokevirtual 51, 3) := by decide +kernel
theorem dX2_readPart_137 : decode cX2_readPart 137 = .ok (.ifCond .eq 7, 3) := by decide +kernel
theorem dX2_readPart_140 : decode cX2_readPart 140 = .ok (.iconst 1, 1) := by decide +kernel
theorem dX2_readPart_141 : decode cX2_readPart 141 = .ok (.goto 4, 3) := by decide +kernel
theorem dX2_readPart_144 : decode cX2_readPart 144 = .ok (.iconst 0, 1) := by decide +kernel
theorem dX2_readPart_145 : decode cX2_readPart 145 = .ok (.ireturn, 1) := by decide +kernel
set_option maxRecDepth 20000 in
theorem ggX2_readSingle_X3_accept : GoodIn wsX2_readSingle wsX3_accept := goodIn_r _ [5, 6, 7, 8, 9, 4, 10, 11, 12, 42, 43, 44, 45, 46] (by decide +kernel) (by decide +kernel)
set_option maxRecDepth 20000 in
theorem gX2_readSingle_X3_accept : GoodIn wsX2_readSingle (wsV RX2 43 RX3 yX3_accept wsX3_accept) := goodIn_app (goodIn_of _ (by decide +kernel)) ggX2_readSingle_X3_accept
set_option maxRecDepth 20000 in
theorem ggX2_readSingle_X2_add : GoodIn wsX2_readSingle wsX2_add := goodIn_r _ [17, 18, 19, 20, 21, 22, 23, 24, 47, 48, 49, 50, 51, 52, 53, 54, 42, 43, 44, 45, 46] (by decide +kernel) (by decide +kernel)
set_option maxRecDepth 20000 in
theorem gX2_readSingle_X2_add : GoodIn wsX2_readSingle (wsV RX2 59 RX2 yX2_add wsX2_add) := goodIn_app (goodIn_of _ (by decide +kernel)) ggX2_readSingle_X2_add
set_option maxRecDepth 20000 in
theorem ggX2_readSingle_X3_readAdjectives : GoodIn wsX2_readSingle wsX3_readAdjectives := goodIn_r _ [28, 29, 30, 6, 7, 8, 9, 4, 10, 11, 12, 31, 32, 33, 42, 43, 44, 45, 46] (by decide +kernel) (by decide +kernel)
set_option maxRecDepth 20000 in
theorem gX2_readSingle_X3_readAdjectives : GoodIn wsX2_readSingle (wsV RX2 66 RX3 yX3_readAdjectives wsX3_readAdjectives) := goodIn_app (goodIn_of _ (by decide +kernel)) ggX2_readSingle_X3_readAdjectives
set_option maxRecDepth 20000 in
theorem ggX2_readSingle_X2_readHead : GoodIn wsX2_readSingle wsX2_readHead := goodIn_r _ [37, 38, 39, 40, 4, 41, 30, 6, 7, 8, 9, 10, 11, 12, 31, 32, 33, 1, 2, 3, 5, 13, 14, 15, 16, 17, 18, 19, 20, 21, 22, 23, 24, 42, 43, 44, 45, 46, 47, 48, 49, 50, 51, 52, 53, 54] (by decide +kernel) (by decide +kernel)
set_option maxRecDepth 20000 in
theorem gX2_readSingle_X2_readHead : GoodIn wsX2_readSingle (wsV RX2 75 RX2 yX2_readHead wsX2_readHead) := goodIn_app (goodIn_of _ (by decide +kernel)) ggX2_readSingle_X2_readHead
theorem dX2_readSingle_0 : decode cX2_readSingle 0 = .ok (.aload_n 1, 1) := by decide +kernel
theorem dX2_readSingle_1 : decode cX2_readSingle 1 = .ok (.bipush 14, 2) := by decide +kernel
theorem dX2_readSingle_3 : decode cX2_readSingle 3 = .ok (.invokevirtual 43, 3) := by decide +kernel
theorem dX2_readSingle_6 : decode cX2_readSingle 6 = .ok (.ifCond .eq 12, 3) := by decide +kernel
theorem dX2_readSingle_9 : decode cX2_readSingle 9 = .ok (.aload_n 0, 1) := by decide +kernel
theorem dX2_readSingle_10 : decode cX2_readSingle 10 = .ok (.bipush 14, 2) := by decide +kernel
theorem dX2_readSingle_12 : decode cX2_readSingle 12 = .ok (.iload_n 2, 1) := by decide +kernel
theorem dX2_readSingle_13 : decode cX2_readSingle 13 = .ok (.aload_n 1, 1) := by decide +kernel
theorem dX2_readSingle_14 : decode cX2_readSingle 14 = .ok (.invokevirtual 59, 3) := by decide +kernel
theorem dX2_readSingle_17 : decode cX2_readSingle 17 = .ok (.ireturn, 1) := by decide +kernel
theorem dX2_readSingle_18 : decode cX2_readSingle 18 = .ok (.aload_n 1, 1) := by decide +kernel
theorem dX2_readSingle_19 : decode cX2_readSingle 19 = .ok (.bipush 10, 2) := by decide +kernel
theorem dX2_readSingle_21 : decode cX2_readSingle 21 = .ok (.invokevirtual 43, 3) := by decide +kernel
theorem dX2_readSingle_24 : decode cX2_readSingle 24 = .ok (.pop, 1) := by decide +kernel
theorem dX2_readSingle_25 : decode cX2_readSingle 25 = .ok (.aload_n 1, 1) := by decide +kernel
theorem dX2_readSingle_26 : decode cX2_readSingle 26 = .ok (.invokevirtual 66, 3) := by decide +kernel
theorem dX2_readSingle_29 : decode cX2_readSingle 29 = .ok (.aload_n 0, 1) := by decide +kernel
theorem dX2_readSingle_30 : decode cX2_readSingle 30 = .ok (.aload_n 1, 1) := by decide +kernel
theorem dX2_readSingle_31 : decode cX2_readSingle 31 = .ok (.iload_n 2, 1) := by decide +kernel
theorem dX2_readSingle_32 : decode cX2_readSingle 32 = .ok (.invokevirtual 75, 3) := by decide +kernel
theorem dX2_readSingle_35 : decode cX2_readSingle 35 = .ok (.ireturn, 1) := by decide +kernel
set_option maxRecDepth 20000 in
theorem ggX2_readHead_X3_acceptNoun : GoodIn wsX2_readHead wsX3_acceptNoun := goodIn_r _ [5, 6, 7, 8, 9, 10, 4, 11, 12, 13, 14, 15, 16, 33, 34, 35, 36, 37] (by decide +kernel) (by decide +kernel)
set_option maxRecDepth 20000 in
theorem gX2_readHead_X3_acceptNoun : GoodIn wsX2_readHead (wsV RX2 72 RX3 yX3_acceptNoun wsX3_acceptNoun) := goodIn_app (goodIn_of _ (by decide +kernel)) ggX2_readHead_X3_acceptNoun
set_option maxRecDepth 20000 in
theorem ggX2_readHead_X3_accept : GoodIn wsX2_readHead wsX3_accept := goodIn_r _ [20, 7, 8, 9, 10, 4, 11, 12, 13, 33, 34, 35, 36, 37] (by decide +kernel) (by decide +kernel)
set_option maxRecDepth 20000 in
theorem gX2_readHead_X3_accept : GoodIn wsX2_readHead (wsV RX2 43 RX3 yX3_accept wsX3_accept) := goodIn_app (goodIn_of _ (by decide +kernel)) ggX2_readHead_X3_accept
set_option maxRecDepth 20000 in
theorem ggX2_readHead_X2_add : GoodIn wsX2_readHead wsX2_add := goodIn_r _ [25, 26, 27, 28, 29, 30, 31, 32, 38, 39, 40, 41, 42, 43, 44, 45, 33, 34, 35, 36, 37] (by decide +kernel) (by decide +kernel)
set_option maxRecDepth 20000 in
theorem gX2_readHead_X2_add : GoodIn wsX2_readHead (wsV RX2 59 RX2 yX2_add wsX2_add) := goodIn_app (goodIn_of _ (by decide +kernel)) ggX2_readHead_X2_add
theorem dX2_readHead_0 : decode cX2_readHead 0 = .ok (.aload_n 1, 1) := by decide +kernel
theorem dX2_readHead_1 : decode cX2_readHead 1 = .ok (.bipush 30, 2) := by decide +kernel
theorem dX2_readHead_3 : decode cX2_readHead 3 = .ok (.invokevirtual 72, 3) := by decide +kernel
theorem dX2_readHead_6 : decode cX2_readHead 6 = .ok (.ifCond .ne 19, 3) := by decide +kernel
theorem dX2_readHead_9 : decode cX2_readHead 9 = .ok (.aload_n 1, 1) := by decide +kernel
theorem dX2_readHead_10 : decode cX2_readHead 10 = .ok (.getfield 69, 3) := by decide +kernel
theorem dX2_readHead_13 : decode cX2_readHead 13 = .ok (.ifCond .eq 21, 3) := by decide +kernel
theorem dX2_readHead_16 : decode cX2_readHead 16 = .ok (.aload_n 1, 1) := by decide +kernel
theorem dX2_readHead_17 : decode cX2_readHead 17 = .ok (.bipush 17, 2) := by decide +kernel
theorem dX2_readHead_19 : decode cX2_readHead 19 = .ok (.invokevirtual 43, 3) := by decide +kernel
theorem dX2_readHead_22 : decode cX2_readHead 22 = .ok (.ifCond .eq 12, 3) := by decide +kernel
theorem dX2_readHead_25 : decode cX2_readHead 25 = .ok (.aload_n 0, 1) := by decide +kernel
theorem dX2_readHead_26 : decode cX2_readHead 26 = .ok (.bipush 17, 2) := by decide +kernel
theorem dX2_readHead_28 : decode cX2_readHead 28 = .ok (.iload_n 2, 1) := by decide +kernel
theorem dX2_readHead_29 : decode cX2_readHead 29 = .ok (.aload_n 1, 1) := by decide +kernel
theorem dX2_readHead_30 : decode cX2_readHead 30 = .ok (.invokevirtual 59, 3) := by decide +kernel
theorem dX2_readHead_33 : decode cX2_readHead 33 = .ok (.ireturn, 1) := by decide +kernel
theorem dX2_readHead_34 : decode cX2_readHead 34 = .ok (.iconst 0, 1) := by decide +kernel
theorem dX2_readHead_35 : decode cX2_readHead 35 = .ok (.ireturn, 1) := by decide +kernel
set_option maxRecDepth 20000 in
theorem ggX2_nextSingleRole_X2_roleOf : GoodIn wsX2_nextSingleRole wsX2_roleOf := goodIn_r _ [6, 7, 8, 9, 10, 5, 11, 1, 12, 13, 14, 15, 16, 17, 18, 19] (by decide +kernel) (by decide +kernel)
set_option maxRecDepth 20000 in
theorem gX2_nextSingleRole_X2_roleOf : GoodIn wsX2_nextSingleRole (wsV RX2 78 RX2 yX2_roleOf wsX2_roleOf) := goodIn_app (goodIn_of _ (by decide +kernel)) ggX2_nextSingleRole_X2_roleOf
theorem dX2_nextSingleRole_0 : decode cX2_nextSingleRole 0 = .ok (.aload_n 0, 1) := by decide +kernel
theorem dX2_nextSingleRole_1 : decode cX2_nextSingleRole 1 = .ok (.aload_n 0, 1) := by decide +kernel
theorem dX2_nextSingleRole_2 : decode cX2_nextSingleRole 2 = .ok (.getfield 15, 3) := by decide +kernel
theorem dX2_nextSingleRole_5 : decode cX2_nextSingleRole 5 = .ok (.iconst 1, 1) := by decide +kernel
theorem dX2_nextSingleRole_6 : decode cX2_nextSingleRole 6 = .ok (.isub, 1) := by decide +kernel
theorem dX2_nextSingleRole_7 : decode cX2_nextSingleRole 7 = .ok (.invokevirtual 78, 3) := by decide +kernel
theorem dX2_nextSingleRole_10 : decode cX2_nextSingleRole 10 = .ok (.iconst 1, 1) := by decide +kernel
theorem dX2_nextSingleRole_11 : decode cX2_nextSingleRole 11 = .ok (.if_icmp .ne 7, 3) := by decide +kernel
theorem dX2_nextSingleRole_14 : decode cX2_nextSingleRole 14 = .ok (.iconst 1, 1) := by decide +kernel
theorem dX2_nextSingleRole_15 : decode cX2_nextSingleRole 15 = .ok (.goto 4, 3) := by decide +kernel
theorem dX2_nextSingleRole_18 : decode cX2_nextSingleRole 18 = .ok (.iconst 0, 1) := by decide +kernel
theorem dX2_nextSingleRole_19 : decode cX2_nextSingleRole 19 = .ok (.ireturn, 1) := by decide +kernel
theorem dX2_add_0 : decode cX2_add 0 = .ok (.aload_n 0, 1) := by decide +kernel
theorem dX2_add_1 : decode cX2_add 1 = .ok (.getfield 15, 3) := by decide +kernel
theorem dX2_add_4 : decode cX2_add 4 = .ok (.ifCond .lt 12, 3) := by decide +kernel
theorem dX2_add_7 : decode cX2_add 7 = .ok (.aload_n 0, 1) := by decide +kernel
theorem dX2_add_8 : decode cX2_add 8 = .ok (.getfield 15, 3) := by decide +kernel
theorem dX2_add_11 : decode cX2_add 11 = .ok (.bipush 24, 2) := by decide +kernel
theorem dX2_add_13 : decode cX2_add 13 = .ok (.if_icmp .lt 5, 3) := by decide +kernel
theorem dX2_add_16 : decode cX2_add 16 = .ok (.iconst 0, 1) := by decide +kernel
theorem dX2_add_17 : decode cX2_add 17 = .ok (.ireturn, 1) := by decide +kernel
theorem dX2_add_18 : decode cX2_add 18 = .ok (.aload_n 0, 1) := by decide +kernel
theorem dX2_add_19 : decode cX2_add 19 = .ok (.getfield 18, 3) := by decide +kernel
theorem dX2_add_22 : decode cX2_add 22 = .ok (.aload_n 0, 1) := by decide +kernel
theorem dX2_add_23 : decode cX2_add 23 = .ok (.getfield 15, 3) := by decide +kernel
theorem dX2_add_26 : decode cX2_add 26 = .ok (.iload_n 2, 1) := by decide +kernel
theorem dX2_add_27 : decode cX2_add 27 = .ok (.iastore, 1) := by decide +kernel
theorem dX2_add_28 : decode cX2_add 28 = .ok (.aload_n 0, 1) := by decide +kernel
theorem dX2_add_29 : decode cX2_add 29 = .ok (.getfield 22, 3) := by decide +kernel
theorem dX2_add_32 : decode cX2_add 32 = .ok (.aload_n 0, 1) := by decide +kernel
theorem dX2_add_33 : decode cX2_add 33 = .ok (.getfield 15, 3) := by decide +kernel
theorem dX2_add_36 : decode cX2_add 36 = .ok (.iload_n 1, 1) := by decide +kernel
theorem dX2_add_37 : decode cX2_add 37 = .ok (.iastore, 1) := by decide +kernel
theorem dX2_add_38 : decode cX2_add 38 = .ok (.aload_n 0, 1) := by decide +kernel
theorem dX2_add_39 : decode cX2_add 39 = .ok (.getfield 25, 3) := by decide +kernel
theorem dX2_add_42 : decode cX2_add 42 = .ok (.aload_n 0, 1) := by decide +kernel
theorem dX2_add_43 : decode cX2_add 43 = .ok (.getfield 15, 3) := by decide +kernel
theorem dX2_add_46 : decode cX2_add 46 = .ok (.aload_n 3, 1) := by decide +kernel
theorem dX2_add_47 : decode cX2_add 47 = .ok (.getfield 69, 3) := by decide +kernel
theorem dX2_add_50 : decode cX2_add 50 = .ok (.iastore, 1) := by decide +kernel
theorem dX2_add_51 : decode cX2_add 51 = .ok (.aload_n 0, 1) := by decide +kernel
theorem dX2_add_52 : decode cX2_add 52 = .ok (.getfield 28, 3) := by decide +kernel
theorem dX2_add_55 : decode cX2_add 55 = .ok (.aload_n 0, 1) := by decide +kernel
theorem dX2_add_56 : decode cX2_add 56 = .ok (.getfield 15, 3) := by decide +kernel
theorem dX2_add_59 : decode cX2_add 59 = .ok (.aload_n 3, 1) := by decide +kernel
theorem dX2_add_60 : decode cX2_add 60 = .ok (.getfield 82, 3) := by decide +kernel
theorem dX2_add_63 : decode cX2_add 63 = .ok (.iastore, 1) := by decide +kernel
theorem dX2_add_64 : decode cX2_add 64 = .ok (.aload_n 0, 1) := by decide +kernel
theorem dX2_add_65 : decode cX2_add 65 = .ok (.getfield 31, 3) := by decide +kernel
theorem dX2_add_68 : decode cX2_add 68 = .ok (.aload_n 0, 1) := by decide +kernel
theorem dX2_add_69 : decode cX2_add 69 = .ok (.getfield 15, 3) := by decide +kernel
theorem dX2_add_72 : decode cX2_add 72 = .ok (.aload_n 3, 1) := by decide +kernel
theorem dX2_add_73 : decode cX2_add 73 = .ok (.getfield 85, 3) := by decide +kernel
theorem dX2_add_76 : decode cX2_add 76 = .ok (.iconst 1, 1) := by decide +kernel
theorem dX2_add_77 : decode cX2_add 77 = .ok (.isub, 1) := by decide +kernel
theorem dX2_add_78 : decode cX2_add 78 = .ok (.iastore, 1) := by decide +kernel
theorem dX2_add_79 : decode cX2_add 79 = .ok (.aload_n 0, 1) := by decide +kernel
theorem dX2_add_80 : decode cX2_add 80 = .ok (.getfield 34, 3) := by decide +kernel
theorem dX2_add_83 : decode cX2_add 83 = .ok (.aload_n 0, 1) := by decide +kernel
theorem dX2_add_84 : decode cX2_add 84 = .ok (.getfield 15, 3) := by decide +kernel
theorem dX2_add_87 : decode cX2_add 87 = .ok (.iconst 0, 1) := by decide +kernel
theorem dX2_add_88 : decode cX2_add 88 = .ok (.iastore, 1) := by decide +kernel
theorem dX2_add_89 : decode cX2_add 89 = .ok (.aload_n 0, 1) := by decide +kernel
theorem dX2_add_90 : decode cX2_add 90 = .ok (.dup, 1) := by decide +kernel
theorem dX2_add_91 : decode cX2_add 91 = .ok (.getfield 15, 3) := by decide +kernel
theorem dX2_add_94 : decode cX2_add 94 = .ok (.iconst 1, 1) := by decide +kernel
theorem dX2_add_95 : decode cX2_add 95 = .ok (.iadd, 1) := by decide +kernel
theorem dX2_add_96 : decode cX2_add 96 = .ok (.putfield 15, 3) := by decide +kernel
theorem dX2_add_99 : decode cX2_add 99 = .ok (.iconst 1, 1) := by decide +kernel
theorem dX2_add_100 : decode cX2_add 100 = .ok (.ireturn, 1) := by decide +kernel
theorem dX2_hasPhrase_0 : decode cX2_hasPhrase 0 = .ok (.iload_n 1, 1) := by decide +kernel
theorem dX2_hasPhrase_1 : decode cX2_hasPhrase 1 = .ok (.ifCond .lt 21, 3) := by decide +kernel
theorem dX2_hasPhrase_4 : decode cX2_hasPhrase 4 = .ok (.iload_n 1, 1) := by decide +kernel
theorem dX2_hasPhrase_5 : decode cX2_hasPhrase 5 = .ok (.aload_n 0, 1) := by decide +kernel
theorem dX2_hasPhrase_6 : decode cX2_hasPhrase 6 = .ok (.getfield 15, 3) := by decide +kernel
theorem dX2_hasPhrase_9 : decode cX2_hasPhrase 9 = .ok (.if_icmp .ge 13, 3) := by decide +kernel
theorem dX2_hasPhrase_12 : decode cX2_hasPhrase 12 = .ok (.iload_n 1, 1) := by decide +kernel
theorem dX2_hasPhrase_13 : decode cX2_hasPhrase 13 = .ok (.bipush 24, 2) := by decide +kernel
theorem dX2_hasPhrase_15 : decode cX2_hasPhrase 15 = .ok (.if_icmp .ge 7, 3) := by decide +kernel
theorem dX2_hasPhrase_18 : decode cX2_hasPhrase 18 = .ok (.iconst 1, 1) := by decide +kernel
theorem dX2_hasPhrase_19 : decode cX2_hasPhrase 19 = .ok (.goto 4, 3) := by decide +kernel
theorem dX2_hasPhrase_22 : decode cX2_hasPhrase 22 = .ok (.iconst 0, 1) := by decide +kernel
theorem dX2_hasPhrase_23 : decode cX2_hasPhrase 23 = .ok (.ireturn, 1) := by decide +kernel
set_option maxRecDepth 20000 in
theorem ggX2_roleOf_X2_hasPhrase : GoodIn wsX2_roleOf wsX2_hasPhrase := goodIn_r _ [6, 7, 8, 9, 10, 11, 12, 13, 14, 15] (by decide +kernel) (by decide +kernel)
set_option maxRecDepth 20000 in
theorem gX2_roleOf_X2_hasPhrase : GoodIn wsX2_roleOf (wsV RX2 88 RX2 yX2_hasPhrase wsX2_hasPhrase) := goodIn_app (goodIn_of _ (by decide +kernel)) ggX2_roleOf_X2_hasPhrase
theorem dX2_roleOf_0 : decode cX2_roleOf 0 = .ok (.aload_n 0, 1) := by decide +kernel
theorem dX2_roleOf_1 : decode cX2_roleOf 1 = .ok (.iload_n 1, 1) := by decide +kernel
theorem dX2_roleOf_2 : decode cX2_roleOf 2 = .ok (.invokevirtual 88, 3) := by decide +kernel
theorem dX2_roleOf_5 : decode cX2_roleOf 5 = .ok (.ifCond .eq 12, 3) := by decide +kernel
theorem dX2_roleOf_8 : decode cX2_roleOf 8 = .ok (.aload_n 0, 1) := by decide +kernel
theorem dX2_roleOf_9 : decode cX2_roleOf 9 = .ok (.getfield 18, 3) := by decide +kernel
theorem dX2_roleOf_12 : decode cX2_roleOf 12 = .ok (.iload_n 1, 1) := by decide +kernel
theorem dX2_roleOf_13 : decode cX2_roleOf 13 = .ok (.iaload, 1) := by decide +kernel
theorem dX2_roleOf_14 : decode cX2_roleOf 14 = .ok (.goto 4, 3) := by decide +kernel
theorem dX2_roleOf_17 : decode cX2_roleOf 17 = .ok (.iconst 0, 1) := by decide +kernel
theorem dX2_roleOf_18 : decode cX2_roleOf 18 = .ok (.ireturn, 1) := by decide +kernel
set_option maxRecDepth 20000 in
theorem ggX2_lastPlaceOf_X2_hasPhrase : GoodIn wsX2_lastPlaceOf wsX2_hasPhrase := goodIn_r _ [6, 7, 8, 9, 10, 11, 12, 13, 14, 15] (by decide +kernel) (by decide +kernel)
set_option maxRecDepth 20000 in
theorem gX2_lastPlaceOf_X2_hasPhrase : GoodIn wsX2_lastPlaceOf (wsV RX2 88 RX2 yX2_hasPhrase wsX2_hasPhrase) := goodIn_app (goodIn_of _ (by decide +kernel)) ggX2_lastPlaceOf_X2_hasPhrase
theorem dX2_lastPlaceOf_0 : decode cX2_lastPlaceOf 0 = .ok (.aload_n 0, 1) := by decide +kernel
theorem dX2_lastPlaceOf_1 : decode cX2_lastPlaceOf 1 = .ok (.iload_n 1, 1) := by decide +kernel
theorem dX2_lastPlaceOf_2 : decode cX2_lastPlaceOf 2 = .ok (.invokevirtual 88, 3) := by decide +kernel
theorem dX2_lastPlaceOf_5 : decode cX2_lastPlaceOf 5 = .ok (.ifCond .eq 12, 3) := by decide +kernel
theorem dX2_lastPlaceOf_8 : decode cX2_lastPlaceOf 8 = .ok (.aload_n 0, 1) := by decide +kernel
theorem dX2_lastPlaceOf_9 : decode cX2_lastPlaceOf 9 = .ok (.getfield 31, 3) := by decide +kernel
theorem dX2_lastPlaceOf_12 : decode cX2_lastPlaceOf 12 = .ok (.iload_n 1, 1) := by decide +kernel
theorem dX2_lastPlaceOf_13 : decode cX2_lastPlaceOf 13 = .ok (.iaload, 1) := by decide +kernel
theorem dX2_lastPlaceOf_14 : decode cX2_lastPlaceOf 14 = .ok (.goto 4, 3) := by decide +kernel
theorem dX2_lastPlaceOf_17 : decode cX2_lastPlaceOf 17 = .ok (.iconst (-1), 1) := by decide +kernel
theorem dX2_lastPlaceOf_18 : decode cX2_lastPlaceOf 18 = .ok (.ireturn, 1) := by decide +kernel
set_option maxRecDepth 20000 in
theorem ggX2_answer_X2_hasPhrase : GoodIn wsX2_answer wsX2_hasPhrase := goodIn_r _ [6, 7, 8, 9, 10, 11, 12, 13, 14, 15] (by decide +kernel) (by decide +kernel)
set_option maxRecDepth 20000 in
theorem gX2_answer_X2_hasPhrase : GoodIn wsX2_answer (wsV RX2 88 RX2 yX2_hasPhrase wsX2_hasPhrase) := goodIn_app (goodIn_of _ (by decide +kernel)) ggX2_answer_X2_hasPhrase
theorem dX2_answer_0 : decode cX2_answer 0 = .ok (.aload_n 0, 1) := by decide +kernel
theorem dX2_answer_1 : decode cX2_answer 1 = .ok (.iload_n 1, 1) := by decide +kernel
theorem dX2_answer_2 : decode cX2_answer 2 = .ok (.invokevirtual 88, 3) := by decide +kernel
theorem dX2_answer_5 : decode cX2_answer 5 = .ok (.ifCond .eq 10, 3) := by decide +kernel
theorem dX2_answer_8 : decode cX2_answer 8 = .ok (.aload_n 0, 1) := by decide +kernel
theorem dX2_answer_9 : decode cX2_answer 9 = .ok (.getfield 34, 3) := by decide +kernel
theorem dX2_answer_12 : decode cX2_answer 12 = .ok (.iload_n 1, 1) := by decide +kernel
theorem dX2_answer_13 : decode cX2_answer 13 = .ok (.iload_n 2, 1) := by decide +kernel
theorem dX2_answer_14 : decode cX2_answer 14 = .ok (.iastore, 1) := by decide +kernel
theorem dX2_answer_15 : decode cX2_answer 15 = .ok (.return_, 1) := by decide +kernel
theorem dX3_init_0 : decode cX3_init 0 = .ok (.aload_n 0, 1) := by decide +kernel
theorem dX3_init_1 : decode cX3_init 1 = .ok (.invokespecial 3, 3) := by decide +kernel
theorem dX3_init_4 : decode cX3_init 4 = .ok (.aload_n 0, 1) := by decide +kernel
theorem dX3_init_5 : decode cX3_init 5 = .ok (.bipush 24, 2) := by decide +kernel
theorem dX3_init_7 : decode cX3_init 7 = .ok (.newarray .int, 2) := by decide +kernel
theorem dX3_init_9 : decode cX3_init 9 = .ok (.putfield 9, 3) := by decide +kernel
theorem dX3_init_12 : decode cX3_init 12 = .ok (.aload_n 0, 1) := by decide +kernel
theorem dX3_init_13 : decode cX3_init 13 = .ok (.iconst 0, 1) := by decide +kernel
theorem dX3_init_14 : decode cX3_init 14 = .ok (.putfield 15, 3) := by decide +kernel
theorem dX3_init_17 : decode cX3_init 17 = .ok (.aload_n 0, 1) := by decide +kernel
theorem dX3_init_18 : decode cX3_init 18 = .ok (.iconst 0, 1) := by decide +kernel
theorem dX3_init_19 : decode cX3_init 19 = .ok (.putfield 19, 3) := by decide +kernel
theorem dX3_init_22 : decode cX3_init 22 = .ok (.aload_n 0, 1) := by decide +kernel
theorem dX3_init_23 : decode cX3_init 23 = .ok (.iconst 0, 1) := by decide +kernel
theorem dX3_init_24 : decode cX3_init 24 = .ok (.putfield 22, 3) := by decide +kernel
theorem dX3_init_27 : decode cX3_init 27 = .ok (.aload_n 0, 1) := by decide +kernel
theorem dX3_init_28 : decode cX3_init 28 = .ok (.iconst (-1), 1) := by decide +kernel
theorem dX3_init_29 : decode cX3_init 29 = .ok (.putfield 25, 3) := by decide +kernel
theorem dX3_init_32 : decode cX3_init 32 = .ok (.return_, 1) := by decide +kernel
theorem dX3_clear_0 : decode cX3_clear 0 = .ok (.aload_n 0, 1) := by decide +kernel
theorem dX3_clear_1 : decode cX3_clear 1 = .ok (.iconst 0, 1) := by decide +kernel
theorem dX3_clear_2 : decode cX3_clear 2 = .ok (.putfield 15, 3) := by decide +kernel
theorem dX3_clear_5 : decode cX3_clear 5 = .ok (.aload_n 0, 1) := by decide +kernel
theorem dX3_clear_6 : decode cX3_clear 6 = .ok (.iconst 0, 1) := by decide +kernel
theorem dX3_clear_7 : decode cX3_clear 7 = .ok (.putfield 19, 3) := by decide +kernel
theorem dX3_clear_10 : decode cX3_clear 10 = .ok (.return_, 1) := by decide +kernel
theorem dX3_add_0 : decode cX3_add 0 = .ok (.aload_n 0, 1) := by decide +kernel
theorem dX3_add_1 : decode cX3_add 1 = .ok (.getfield 15, 3) := by decide +kernel
theorem dX3_add_4 : decode cX3_add 4 = .ok (.ifCond .lt 32, 3) := by decide +kernel
theorem dX3_add_7 : decode cX3_add 7 = .ok (.aload_n 0, 1) := by decide +kernel
theorem dX3_add_8 : decode cX3_add 8 = .ok (.getfield 15, 3) := by decide +kernel
theorem dX3_add_11 : decode cX3_add 11 = .ok (.bipush 24, 2) := by decide +kernel
theorem dX3_add_13 : decode cX3_add 13 = .ok (.if_icmp .ge 23, 3) := by decide +kernel
theorem dX3_add_16 : decode cX3_add 16 = .ok (.aload_n 0, 1) := by decide +kernel
theorem dX3_add_17 : decode cX3_add 17 = .ok (.getfield 9, 3) := by decide +kernel
theorem dX3_add_20 : decode cX3_add 20 = .ok (.aload_n 0, 1) := by decide +kernel
theorem dX3_add_21 : decode cX3_add 21 = .ok (.getfield 15, 3) := by decide +kernel
theorem dX3_add_24 : decode cX3_add 24 = .ok (.iload_n 1, 1) := by decide +kernel
theorem dX3_add_25 : decode cX3_add 25 = .ok (.iastore, 1) := by decide +kernel
theorem dX3_add_26 : decode cX3_add 26 = .ok (.aload_n 0, 1) := by decide +kernel
theorem dX3_add_27 : decode cX3_add 27 = .ok (.dup, 1) := by decide +kernel
theorem dX3_add_28 : decode cX3_add 28 = .ok (.getfield 15, 3) := by decide +kernel
theorem dX3_add_31 : decode cX3_add 31 = .ok (.iconst 1, 1) := by decide +kernel
theorem dX3_add_32 : decode cX3_add 32 = .ok (.iadd, 1) := by decide +kernel
theorem dX3_add_33 : decode cX3_add 33 = .ok (.putfield 15, 3) := by decide +kernel
theorem dX3_add_36 : decode cX3_add 36 = .ok (.return_, 1) := by decide +kernel
theorem dX3_removeLast_0 : decode cX3_removeLast 0 = .ok (.aload_n 0, 1) := by decide +kernel
theorem dX3_removeLast_1 : decode cX3_removeLast 1 = .ok (.getfield 15, 3) := by decide +kernel
theorem dX3_removeLast_4 : decode cX3_removeLast 4 = .ok (.ifCond .le 12, 3) := by decide +kernel
theorem dX3_removeLast_7 : decode cX3_removeLast 7 = .ok (.aload_n 0, 1) := by decide +kernel
theorem dX3_removeLast_8 : decode cX3_removeLast 8 = .ok (.getfield 15, 3) := by decide +kernel
theorem dX3_removeLast_11 : decode cX3_removeLast 11 = .ok (.bipush 24, 2) := by decide +kernel
theorem dX3_removeLast_13 : decode cX3_removeLast 13 = .ok (.if_icmp .le 5, 3) := by decide +kernel
theorem dX3_removeLast_16 : decode cX3_removeLast 16 = .ok (.iconst (-1), 1) := by decide +kernel
theorem dX3_removeLast_17 : decode cX3_removeLast 17 = .ok (.ireturn, 1) := by decide +kernel
theorem dX3_removeLast_18 : decode cX3_removeLast 18 = .ok (.aload_n 0, 1) := by decide +kernel
theorem dX3_removeLast_19 : decode cX3_removeLast 19 = .ok (.dup, 1) := by decide +kernel
theorem dX3_removeLast_20 : decode cX3_removeLast 20 = .ok (.getfield 15, 3) := by decide +kernel
theorem dX3_removeLast_23 : decode cX3_removeLast 23 = .ok (.iconst 1, 1) := by decide +kernel
theorem dX3_removeLast_24 : decode cX3_removeLast 24 = .ok (.isub, 1) := by decide +kernel
theorem dX3_removeLast_25 : decode cX3_removeLast 25 = .ok (.putfield 15, 3) := by decide +kernel
theorem dX3_removeLast_28 : decode cX3_removeLast 28 = .ok (.aload_n 0, 1) := by decide +kernel
theorem dX3_removeLast_29 : decode cX3_removeLast 29 = .ok (.getfield 9, 3) := by decide +kernel
theorem dX3_removeLast_32 : decode cX3_removeLast 32 = .ok (.aload_n 0, 1) := by decide +kernel
theorem dX3_removeLast_33 : decode cX3_removeLast 33 = .ok (.getfield 15, 3) := by decide +kernel
theorem dX3_removeLast_36 : decode cX3_removeLast 36 = .ok (.iaload, 1) := by decide +kernel
theorem dX3_removeLast_37 : decode cX3_removeLast 37 = .ok (.ireturn, 1) := by decide +kernel
theorem dX3_atEnd_0 : decode cX3_atEnd 0 = .ok (.aload_n 0, 1) := by decide +kernel
theorem dX3_atEnd_1 : decode cX3_atEnd 1 = .ok (.getfield 19, 3) := by decide +kernel
theorem dX3_atEnd_4 : decode cX3_atEnd 4 = .ok (.aload_n 0, 1) := by decide +kernel
theorem dX3_atEnd_5 : decode cX3_atEnd 5 = .ok (.getfield 15, 3) := by decide +kernel
theorem dX3_atEnd_8 : decode cX3_atEnd 8 = .ok (.if_icmp .ne 7, 3) := by decide +kernel
theorem dX3_atEnd_11 : decode cX3_atEnd 11 = .ok (.iconst 1, 1) := by decide +kernel
theorem dX3_atEnd_12 : decode cX3_atEnd 12 = .ok (.goto 4, 3) := by decide +kernel
theorem dX3_atEnd_15 : decode cX3_atEnd 15 = .ok (.iconst 0, 1) := by decide +kernel
theorem dX3_atEnd_16 : decode cX3_atEnd 16 = .ok (.ireturn, 1) := by decide +kernel
theorem dX3_peek_0 : decode cX3_peek 0 = .ok (.aload_n 0, 1) := by decide +kernel
theorem dX3_peek_1 : decode cX3_peek 1 = .ok (.getfield 19, 3) := by decide +kernel
theorem dX3_peek_4 : decode cX3_peek 4 = .ok (.ifCond .lt 35, 3) := by decide +kernel
theorem dX3_peek_7 : decode cX3_peek 7 = .ok (.aload_n 0, 1) := by decide +kernel
theorem dX3_peek_8 : decode cX3_peek 8 = .ok (.getfield 19, 3) := by decide +kernel
theorem dX3_peek_11 : decode cX3_peek 11 = .ok (.aload_n 0, 1) := by decide +kernel
theorem dX3_peek_12 : decode cX3_peek 12 = .ok (.getfield 15, 3) := by decide +kernel
theorem dX3_peek_15 : decode cX3_peek 15 = .ok (.if_icmp .ge 24, 3) := by decide +kernel
theorem dX3_peek_18 : decode cX3_peek 18 = .ok (.aload_n 0, 1) := by decide +kernel
theorem dX3_peek_19 : decode cX3_peek 19 = .ok (.getfield 19, 3) := by decide +kernel
theorem dX3_peek_22 : decode cX3_peek 22 = .ok (.bipush 24, 2) := by decide +kernel
theorem dX3_peek_24 : decode cX3_peek 24 = .ok (.if_icmp .ge 15, 3) := by decide +kernel
theorem dX3_peek_27 : decode cX3_peek 27 = .ok (.aload_n 0, 1) := by decide +kernel
theorem dX3_peek_28 : decode cX3_peek 28 = .ok (.getfield 9, 3) := by decide +kernel
theorem dX3_peek_31 : decode cX3_peek 31 = .ok (.aload_n 0, 1) := by decide +kernel
theorem dX3_peek_32 : decode cX3_peek 32 = .ok (.getfield 19, 3) := by decide +kernel
theorem dX3_peek_35 : decode cX3_peek 35 = .ok (.iaload, 1) := by decide +kernel
theorem dX3_peek_36 : decode cX3_peek 36 = .ok (.goto 4, 3) := by decide +kernel
theorem dX3_peek_39 : decode cX3_peek 39 = .ok (.iconst (-1), 1) := by decide +kernel
theorem dX3_peek_40 : decode cX3_peek 40 = .ok (.ireturn, 1) := by decide +kernel
set_option maxRecDepth 20000 in
theorem ggX3_accept_X3_peek : GoodIn wsX3_accept wsX3_peek := goodIn_r _ [6, 1, 7, 8, 9, 10, 11, 12, 13] (by decide +kernel) (by decide +kernel)
set_option maxRecDepth 20000 in
theorem gX3_accept_X3_peek : GoodIn wsX3_accept (wsV RX3 28 RX3 yX3_peek wsX3_peek) := goodIn_app (goodIn_of _ (by decide +kernel)) ggX3_accept_X3_peek
theorem dX3_accept_0 : decode cX3_accept 0 = .ok (.aload_n 0, 1) := by decide +kernel
theorem dX3_accept_1 : decode cX3_accept 1 = .ok (.invokevirtual 28, 3) := by decide +kernel
theorem dX3_accept_4 : decode cX3_accept 4 = .ok (.iload_n 1, 1) := by decide +kernel
theorem dX3_accept_5 : decode cX3_accept 5 = .ok (.if_icmp .eq 5, 3) := by decide +kernel
theorem dX3_accept_8 : decode cX3_accept 8 = .ok (.iconst 0, 1) := by decide +kernel
theorem dX3_accept_9 : decode cX3_accept 9 = .ok (.ireturn, 1) := by decide +kernel
theorem dX3_accept_10 : decode cX3_accept 10 = .ok (.aload_n 0, 1) := by decide +kernel
theorem dX3_accept_11 : decode cX3_accept 11 = .ok (.dup, 1) := by decide +kernel
theorem dX3_accept_12 : decode cX3_accept 12 = .ok (.getfield 19, 3) := by decide +kernel
theorem dX3_accept_15 : decode cX3_accept 15 = .ok (.iconst 1, 1) := by decide +kernel
theorem dX3_accept_16 : decode cX3_accept 16 = .ok (.iadd, 1) := by decide +kernel
theorem dX3_accept_17 : decode cX3_accept 17 = .ok (.putfield 19, 3) := by decide +kernel
theorem dX3_accept_20 : decode cX3_accept 20 = .ok (.iconst 1, 1) := by decide +kernel
theorem dX3_accept_21 : decode cX3_accept 21 = .ok (.ireturn, 1) := by decide +kernel
set_option maxRecDepth 20000 in
theorem ggX3_readAdjectives_X3_peek : GoodIn wsX3_readAdjectives wsX3_peek := goodIn_r _ [8, 3, 9, 10, 14, 15, 16, 17, 18] (by decide +kernel) (by decide +kernel)
set_option maxRecDepth 20000 in
theorem gX3_readAdjectives_X3_peek : GoodIn wsX3_readAdjectives (wsV RX3 28 RX3 yX3_peek wsX3_peek) := goodIn_app (goodIn_of _ (by decide +kernel)) ggX3_readAdjectives_X3_peek
set_option maxRecDepth 20000 in
theorem ggX3_readAdjectives_X5_isBetween : GoodIn wsX3_readAdjectives wsX5_isBetween := goodIn_r _ [13] (by decide +kernel) (by decide +kernel)
set_option maxRecDepth 20000 in
theorem gX3_readAdjectives_X5_isBetween_n32 : GoodIn wsX3_readAdjectives (wsX5_isBetween) := ggX3_readAdjectives_X5_isBetween
theorem dX3_readAdjectives_0 : decode cX3_readAdjectives 0 = .ok (.aload_n 0, 1) := by decide +kernel
theorem dX3_readAdjectives_1 : decode cX3_readAdjectives 1 = .ok (.iconst 0, 1) := by decide +kernel
theorem dX3_readAdjectives_2 : decode cX3_readAdjectives 2 = .ok (.putfield 22, 3) := by decide +kernel
theorem dX3_readAdjectives_5 : decode cX3_readAdjectives 5 = .ok (.aload_n 0, 1) := by decide +kernel
theorem dX3_readAdjectives_6 : decode cX3_readAdjectives 6 = .ok (.iconst (-1), 1) := by decide +kernel
theorem dX3_readAdjectives_7 : decode cX3_readAdjectives 7 = .ok (.putfield 25, 3) := by decide +kernel
theorem dX3_readAdjectives_10 : decode cX3_readAdjectives 10 = .ok (.iconst 0, 1) := by decide +kernel
theorem dX3_readAdjectives_11 : decode cX3_readAdjectives 11 = .ok (.istore_n 1, 1) := by decide +kernel
theorem dX3_readAdjectives_12 : decode cX3_readAdjectives 12 = .ok (.iload_n 1, 1) := by decide +kernel
theorem dX3_readAdjectives_13 : decode cX3_readAdjectives 13 = .ok (.bipush 24, 2) := by decide +kernel
theorem dX3_readAdjectives_15 : decode cX3_readAdjectives 15 = .ok (.if_icmp .ge 51, 3) := by decide +kernel
theorem dX3_readAdjectives_18 : decode cX3_readAdjectives 18 = .ok (.aload_n 0, 1) := by decide +kernel
theorem dX3_readAdjectives_19 : decode cX3_readAdjectives 19 = .ok (.invokevirtual 28, 3) := by decide +kernel
theorem dX3_readAdjectives_22 : decode cX3_readAdjectives 22 = .ok (.bipush 20, 2) := by decide +kernel
theorem dX3_readAdjectives_24 : decode cX3_readAdjectives 24 = .ok (.bipush 6, 2) := by decide +kernel
theorem dX3_readAdjectives_26 : decode cX3_readAdjectives 26 = .ok (.invokestatic 32, 3) := by decide +kernel
theorem dX3_readAdjectives_29 : decode cX3_readAdjectives 29 = .ok (.ifCond .eq 37, 3) := by decide +kernel
theorem dX3_readAdjectives_32 : decode cX3_readAdjectives 32 = .ok (.aload_n 0, 1) := by decide +kernel
theorem dX3_readAdjectives_33 : decode cX3_readAdjectives 33 = .ok (.dup, 1) := by decide +kernel
theorem dX3_readAdjectives_34 : decode cX3_readAdjectives 34 = .ok (.getfield 22, 3) := by decide +kernel
theorem dX3_readAdjectives_37 : decode cX3_readAdjectives 37 = .ok (.iconst 1, 1) := by decide +kernel
theorem dX3_readAdjectives_38 : decode cX3_readAdjectives 38 = .ok (.aload_n 0, 1) := by decide +kernel
theorem dX3_readAdjectives_39 : decode cX3_readAdjectives 39 = .ok (.invokevirtual 28, 3) := by decide +kernel
theorem dX3_readAdjectives_42 : decode cX3_readAdjectives 42 = .ok (.bipush 20, 2) := by decide +kernel
theorem dX3_readAdjectives_44 : decode cX3_readAdjectives 44 = .ok (.isub, 1) := by decide +kernel
theorem dX3_readAdjectives_45 : decode cX3_readAdjectives 45 = .ok (.ishl, 1) := by decide +kernel
theorem dX3_readAdjectives_46 : decode cX3_readAdjectives 46 = .ok (.ior, 1) := by decide +kernel
theorem dX3_readAdjectives_47 : decode cX3_readAdjectives 47 = .ok (.putfield 22, 3) := by decide +kernel
theorem dX3_readAdjectives_50 : decode cX3_readAdjectives 50 = .ok (.aload_n 0, 1) := by decide +kernel
theorem dX3_readAdjectives_51 : decode cX3_readAdjectives 51 = .ok (.dup, 1) := by decide +kernel
theorem dX3_readAdjectives_52 : decode cX3_readAdjectives 52 = .ok (.getfield 19, 3) := by decide +kernel
theorem dX3_readAdjectives_55 : decode cX3_readAdjectives 55 = .ok (.iconst 1, 1) := by decide +kernel
theorem dX3_readAdjectives_56 : decode cX3_readAdjectives 56 = .ok (.iadd, 1) := by decide +kernel
theorem dX3_readAdjectives_57 : decode cX3_readAdjectives 57 = .ok (.putfield 19, 3) := by decide +kernel
theorem dX3_readAdjectives_60 : decode cX3_readAdjectives 60 = .ok (.iinc 1 1, 3) := by decide +kernel
theorem dX3_readAdjectives_63 : decode cX3_readAdjectives 63 = .ok (.goto (-51), 3) := by decide +kernel
theorem dX3_readAdjectives_66 : decode cX3_readAdjectives 66 = .ok (.return_, 1) := by decide +kernel
set_option maxRecDepth 20000 in
theorem ggX3_acceptNoun_X3_peek : GoodIn wsX3_acceptNoun wsX3_peek := goodIn_r _ [7, 2, 8, 9, 13, 14, 15, 16, 17] (by decide +kernel) (by decide +kernel)
set_option maxRecDepth 20000 in
theorem gX3_acceptNoun_X3_peek : GoodIn wsX3_acceptNoun (wsV RX3 28 RX3 yX3_peek wsX3_peek) := goodIn_app (goodIn_of _ (by decide +kernel)) ggX3_acceptNoun_X3_peek
set_option maxRecDepth 20000 in
theorem ggX3_acceptNoun_X5_isBetween : GoodIn wsX3_acceptNoun wsX5_isBetween := goodIn_r _ [12] (by decide +kernel) (by decide +kernel)
set_option maxRecDepth 20000 in
theorem gX3_acceptNoun_X5_isBetween_n32 : GoodIn wsX3_acceptNoun (wsX5_isBetween) := ggX3_acceptNoun_X5_isBetween
theorem dX3_acceptNoun_0 : decode cX3_acceptNoun 0 = .ok (.aload_n 0, 1) := by decide +kernel
theorem dX3_acceptNoun_1 : decode cX3_acceptNoun 1 = .ok (.invokevirtual 28, 3) := by decide +kernel
theorem dX3_acceptNoun_4 : decode cX3_acceptNoun 4 = .ok (.iload_n 1, 1) := by decide +kernel
theorem dX3_acceptNoun_5 : decode cX3_acceptNoun 5 = .ok (.bipush 8, 2) := by decide +kernel
theorem dX3_acceptNoun_7 : decode cX3_acceptNoun 7 = .ok (.invokestatic 32, 3) := by decide +kernel
theorem dX3_acceptNoun_10 : decode cX3_acceptNoun 10 = .ok (.ifCond .ne 5, 3) := by decide +kernel
theorem dX3_acceptNoun_13 : decode cX3_acceptNoun 13 = .ok (.iconst 0, 1) := by decide +kernel
theorem dX3_acceptNoun_14 : decode cX3_acceptNoun 14 = .ok (.ireturn, 1) := by decide +kernel
theorem dX3_acceptNoun_15 : decode cX3_acceptNoun 15 = .ok (.aload_n 0, 1) := by decide +kernel
theorem dX3_acceptNoun_16 : decode cX3_acceptNoun 16 = .ok (.aload_n 0, 1) := by decide +kernel
theorem dX3_acceptNoun_17 : decode cX3_acceptNoun 17 = .ok (.invokevirtual 28, 3) := by decide +kernel
theorem dX3_acceptNoun_20 : decode cX3_acceptNoun 20 = .ok (.iload_n 1, 1) := by decide +kernel
theorem dX3_acceptNoun_21 : decode cX3_acceptNoun 21 = .ok (.isub, 1) := by decide +kernel
theorem dX3_acceptNoun_22 : decode cX3_acceptNoun 22 = .ok (.putfield 25, 3) := by decide +kernel
theorem dX3_acceptNoun_25 : decode cX3_acceptNoun 25 = .ok (.aload_n 0, 1) := by decide +kernel
theorem dX3_acceptNoun_26 : decode cX3_acceptNoun 26 = .ok (.dup, 1) := by decide +kernel
theorem dX3_acceptNoun_27 : decode cX3_acceptNoun 27 = .ok (.getfield 19, 3) := by decide +kernel
theorem dX3_acceptNoun_30 : decode cX3_acceptNoun 30 = .ok (.iconst 1, 1) := by decide +kernel
theorem dX3_acceptNoun_31 : decode cX3_acceptNoun 31 = .ok (.iadd, 1) := by decide +kernel
theorem dX3_acceptNoun_32 : decode cX3_acceptNoun 32 = .ok (.putfield 19, 3) := by decide +kernel
theorem dX3_acceptNoun_35 : decode cX3_acceptNoun 35 = .ok (.iconst 1, 1) := by decide +kernel
theorem dX3_acceptNoun_36 : decode cX3_acceptNoun 36 = .ok (.ireturn, 1) := by decide +kernel
set_option maxRecDepth 20000 in
theorem ggX3_readAnswer_X3_accept : GoodIn wsX3_readAnswer wsX3_accept := goodIn_r _ [6, 7, 8, 9, 10, 5, 11, 12, 13, 30, 31, 32, 33, 34] (by decide +kernel) (by decide +kernel)
set_option maxRecDepth 20000 in
theorem gX3_readAnswer_X3_accept : GoodIn wsX3_readAnswer (wsV RX3 36 RX3 yX3_accept wsX3_accept) := goodIn_app (goodIn_of _ (by decide +kernel)) ggX3_readAnswer_X3_accept
set_option maxRecDepth 20000 in
theorem ggX3_readAnswer_X3_readAdjectives : GoodIn wsX3_readAnswer wsX3_readAdjectives := goodIn_r _ [17, 1, 18, 7, 8, 9, 10, 5, 11, 12, 13, 19, 20, 21, 30, 31, 32, 33, 34] (by decide +kernel) (by decide +kernel)
set_option maxRecDepth 20000 in
theorem gX3_readAnswer_X3_readAdjectives : GoodIn wsX3_readAnswer (wsV RX3 40 RX3 yX3_readAdjectives wsX3_readAdjectives) := goodIn_app (goodIn_of _ (by decide +kernel)) ggX3_readAnswer_X3_readAdjectives
set_option maxRecDepth 20000 in
theorem ggX3_readAnswer_X3_acceptNoun : GoodIn wsX3_readAnswer wsX3_acceptNoun := goodIn_r _ [25, 18, 7, 8, 9, 10, 5, 11, 12, 13, 19, 20, 21, 30, 31, 32, 33, 34] (by decide +kernel) (by decide +kernel)
set_option maxRecDepth 20000 in
theorem gX3_readAnswer_X3_acceptNoun : GoodIn wsX3_readAnswer (wsV RX3 43 RX3 yX3_acceptNoun wsX3_acceptNoun) := goodIn_app (goodIn_of _ (by decide +kernel)) ggX3_readAnswer_X3_acceptNoun
set_option maxRecDepth 20000 in
theorem ggX3_readAnswer_X3_atEnd : GoodIn wsX3_readAnswer wsX3_atEnd := goodIn_r _ [29, 7, 12, 30, 31, 32, 33, 34] (by decide +kernel) (by decide +kernel)
set_option maxRecDepth 20000 in
theorem gX3_readAnswer_X3_atEnd : GoodIn wsX3_readAnswer (wsV RX3 46 RX3 yX3_atEnd wsX3_atEnd) := goodIn_app (goodIn_of _ (by decide +kernel)) ggX3_readAnswer_X3_atEnd
theorem dX3_readAnswer_0 : decode cX3_readAnswer 0 = .ok (.aload_n 0, 1) := by decide +kernel
theorem dX3_readAnswer_1 : decode cX3_readAnswer 1 = .ok (.bipush 10, 2) := by decide +kernel
theorem dX3_readAnswer_3 : decode cX3_readAnswer 3 = .ok (.invokevirtual 36, 3) := by decide +kernel
theorem dX3_readAnswer_6 : decode cX3_readAnswer 6 = .ok (.pop, 1) := by decide +kernel
theorem dX3_readAnswer_7 : decode cX3_readAnswer 7 = .ok (.aload_n 0, 1) := by decide +kernel
theorem dX3_readAnswer_8 : decode cX3_readAnswer 8 = .ok (.invokevirtual 40, 3) := by decide +kernel
theorem dX3_readAnswer_11 : decode cX3_readAnswer 11 = .ok (.aload_n 0, 1) := by decide +kernel
theorem dX3_readAnswer_12 : decode cX3_readAnswer 12 = .ok (.bipush 30, 2) := by decide +kernel
theorem dX3_readAnswer_14 : decode cX3_readAnswer 14 = .ok (.invokevirtual 43, 3) := by decide +kernel
theorem dX3_readAnswer_17 : decode cX3_readAnswer 17 = .ok (.ifCond .ne 12, 3) := by decide +kernel
theorem dX3_readAnswer_20 : decode cX3_readAnswer 20 = .ok (.aload_n 0, 1) := by decide +kernel
theorem dX3_readAnswer_21 : decode cX3_readAnswer 21 = .ok (.bipush 17, 2) := by decide +kernel
theorem dX3_readAnswer_23 : decode cX3_readAnswer 23 = .ok (.invokevirtual 36, 3) := by decide +kernel
theorem dX3_readAnswer_26 : decode cX3_readAnswer 26 = .ok (.ifCond .eq 7, 3) := by decide +kernel
theorem dX3_readAnswer_29 : decode cX3_readAnswer 29 = .ok (.iconst 1, 1) := by decide +kernel
theorem dX3_readAnswer_30 : decode cX3_readAnswer 30 = .ok (.goto 4, 3) := by decide +kernel
theorem dX3_readAnswer_33 : decode cX3_readAnswer 33 = .ok (.iconst 0, 1) := by decide +kernel
theorem dX3_readAnswer_34 : decode cX3_readAnswer 34 = .ok (.istore_n 1, 1) := by decide +kernel
theorem dX3_readAnswer_35 : decode cX3_readAnswer 35 = .ok (.aload_n 0, 1) := by decide +kernel
theorem dX3_readAnswer_36 : decode cX3_readAnswer 36 = .ok (.invokevirtual 46, 3) := by decide +kernel
theorem dX3_readAnswer_39 : decode cX3_readAnswer 39 = .ok (.ifCond .eq 18, 3) := by decide +kernel
theorem dX3_readAnswer_42 : decode cX3_readAnswer 42 = .ok (.iload_n 1, 1) := by decide +kernel
theorem dX3_readAnswer_43 : decode cX3_readAnswer 43 = .ok (.ifCond .ne 10, 3) := by decide +kernel
theorem dX3_readAnswer_46 : decode cX3_readAnswer 46 = .ok (.aload_n 0, 1) := by decide +kernel
theorem dX3_readAnswer_47 : decode cX3_readAnswer 47 = .ok (.getfield 22, 3) := by decide +kernel
theorem dX3_readAnswer_50 : decode cX3_readAnswer 50 = .ok (.ifCond .eq 7, 3) := by decide +kernel
theorem dX3_readAnswer_53 : decode cX3_readAnswer 53 = .ok (.iconst 1, 1) := by decide +kernel
theorem dX3_readAnswer_54 : decode cX3_readAnswer 54 = .ok (.goto 4, 3) := by decide +kernel
theorem dX3_readAnswer_57 : decode cX3_readAnswer 57 = .ok (.iconst 0, 1) := by decide +kernel
theorem dX3_readAnswer_58 : decode cX3_readAnswer 58 = .ok (.ireturn, 1) := by decide +kernel
theorem dX4_init_0 : decode cX4_init 0 = .ok (.aload_n 0, 1) := by decide +kernel
theorem dX4_init_1 : decode cX4_init 1 = .ok (.invokespecial 3, 3) := by decide +kernel
theorem dX4_init_4 : decode cX4_init 4 = .ok (.aload_n 0, 1) := by decide +kernel
theorem dX4_init_5 : decode cX4_init 5 = .ok (.bipush 12, 2) := by decide +kernel
theorem dX4_init_7 : decode cX4_init 7 = .ok (.newarray .int, 2) := by decide +kernel
theorem dX4_init_9 : decode cX4_init 9 = .ok (.putfield 9, 3) := by decide +kernel
theorem dX4_init_12 : decode cX4_init 12 = .ok (.aload_n 0, 1) := by decide +kernel
theorem dX4_init_13 : decode cX4_init 13 = .ok (.bipush 12, 2) := by decide +kernel
theorem dX4_init_15 : decode cX4_init 15 = .ok (.newarray .int, 2) := by decide +kernel
theorem dX4_init_17 : decode cX4_init 17 = .ok (.putfield 15, 3) := by decide +kernel
theorem dX4_init_20 : decode cX4_init 20 = .ok (.aload_n 0, 1) := by decide +kernel
theorem dX4_init_21 : decode cX4_init 21 = .ok (.bipush 12, 2) := by decide +kernel
theorem dX4_init_23 : decode cX4_init 23 = .ok (.newarray .int, 2) := by decide +kernel
theorem dX4_init_25 : decode cX4_init 25 = .ok (.putfield 18, 3) := by decide +kernel
theorem dX4_init_28 : decode cX4_init 28 = .ok (.aload_n 0, 1) := by decide +kernel
theorem dX4_init_29 : decode cX4_init 29 = .ok (.iconst 0, 1) := by decide +kernel
theorem dX4_init_30 : decode cX4_init 30 = .ok (.putfield 21, 3) := by decide +kernel
theorem dX4_init_33 : decode cX4_init 33 = .ok (.aload_n 0, 1) := by decide +kernel
theorem dX4_init_34 : decode cX4_init 34 = .ok (.iconst 0, 1) := by decide +kernel
theorem dX4_init_35 : decode cX4_init 35 = .ok (.putfield 25, 3) := by decide +kernel
theorem dX4_init_38 : decode cX4_init 38 = .ok (.aload_n 0, 1) := by decide +kernel
theorem dX4_init_39 : decode cX4_init 39 = .ok (.iconst 0, 1) := by decide +kernel
theorem dX4_init_40 : decode cX4_init 40 = .ok (.putfield 28, 3) := by decide +kernel
theorem dX4_init_43 : decode cX4_init 43 = .ok (.return_, 1) := by decide +kernel
theorem dX4_add_0 : decode cX4_add 0 = .ok (.aload_n 0, 1) := by decide +kernel
theorem dX4_add_1 : decode cX4_add 1 = .ok (.getfield 21, 3) := by decide +kernel
theorem dX4_add_4 : decode cX4_add 4 = .ok (.istore 4, 2) := by decide +kernel
theorem dX4_add_6 : decode cX4_add 6 = .ok (.iload 4, 2) := by decide +kernel
theorem dX4_add_8 : decode cX4_add 8 = .ok (.ifCond .lt 10, 3) := by decide +kernel
theorem dX4_add_11 : decode cX4_add 11 = .ok (.iload 4, 2) := by decide +kernel
theorem dX4_add_13 : decode cX4_add 13 = .ok (.bipush 12, 2) := by decide +kernel
theorem dX4_add_15 : decode cX4_add 15 = .ok (.if_icmp .lt 5, 3) := by decide +kernel
theorem dX4_add_18 : decode cX4_add 18 = .ok (.iconst (-1), 1) := by decide +kernel
theorem dX4_add_19 : decode cX4_add 19 = .ok (.ireturn, 1) := by decide +kernel
theorem dX4_add_20 : decode cX4_add 20 = .ok (.aload_n 0, 1) := by decide +kernel
theorem dX4_add_21 : decode cX4_add 21 = .ok (.getfield 9, 3) := by decide +kernel
theorem dX4_add_24 : decode cX4_add 24 = .ok (.iload 4, 2) := by decide +kernel
theorem dX4_add_26 : decode cX4_add 26 = .ok (.iload_n 1, 1) := by decide +kernel
theorem dX4_add_27 : decode cX4_add 27 = .ok (.iastore, 1) := by decide +kernel
theorem dX4_add_28 : decode cX4_add 28 = .ok (.aload_n 0, 1) := by decide +kernel
theorem dX4_add_29 : decode cX4_add 29 = .ok (.getfield 15, 3) := by decide +kernel
theorem dX4_add_32 : decode cX4_add 32 = .ok (.iload 4, 2) := by decide +kernel
theorem dX4_add_34 : decode cX4_add 34 = .ok (.iload_n 2, 1) := by decide +kernel
theorem dX4_add_35 : decode cX4_add 35 = .ok (.iastore, 1) := by decide +kernel
theorem dX4_add_36 : decode cX4_add 36 = .ok (.aload_n 0, 1) := by decide +kernel
theorem dX4_add_37 : decode cX4_add 37 = .ok (.getfield 18, 3) := by decide +kernel
theorem dX4_add_40 : decode cX4_add 40 = .ok (.iload 4, 2) := by decide +kernel
theorem dX4_add_42 : decode cX4_add 42 = .ok (.bipush (-2), 2) := by decide +kernel
theorem dX4_add_44 : decode cX4_add 44 = .ok (.iastore, 1) := by decide +kernel
theorem dX4_add_45 : decode cX4_add 45 = .ok (.iload_n 3, 1) := by decide +kernel
theorem dX4_add_46 : decode cX4_add 46 = .ok (.ifCond .eq 16, 3) := by decide +kernel
theorem dX4_add_49 : decode cX4_add 49 = .ok (.aload_n 0, 1) := by decide +kernel
theorem dX4_add_50 : decode cX4_add 50 = .ok (.dup, 1) := by decide +kernel
theorem dX4_add_51 : decode cX4_add 51 = .ok (.getfield 25, 3) := by decide +kernel
theorem dX4_add_54 : decode cX4_add 54 = .ok (.iconst 1, 1) := by decide +kernel
theorem dX4_add_55 : decode cX4_add 55 = .ok (.iload 4, 2) := by decide +kernel
theorem dX4_add_57 : decode cX4_add 57 = .ok (.ishl, 1) := by decide +kernel
theorem dX4_add_58 : decode cX4_add 58 = .ok (.ior, 1) := by decide +kernel
theorem dX4_add_59 : decode cX4_add 59 = .ok (.putfield 25, 3) := by decide +kernel
theorem dX4_add_62 : decode cX4_add 62 = .ok (.aload_n 0, 1) := by decide +kernel
theorem dX4_add_63 : decode cX4_add 63 = .ok (.dup, 1) := by decide +kernel
theorem dX4_add_64 : decode cX4_add 64 = .ok (.getfield 21, 3) := by decide +kernel
theorem dX4_add_67 : decode cX4_add 67 = .ok (.iconst 1, 1) := by decide +kernel
theorem dX4_add_68 : decode cX4_add 68 = .ok (.iadd, 1) := by decide +kernel
theorem dX4_add_69 : decode cX4_add 69 = .ok (.putfield 21, 3) := by decide +kernel
theorem dX4_add_72 : decode cX4_add 72 = .ok (.iload 4, 2) := by decide +kernel
theorem dX4_add_74 : decode cX4_add 74 = .ok (.ireturn, 1) := by decide +kernel
theorem dX4_has_0 : decode cX4_has 0 = .ok (.iload_n 1, 1) := by decide +kernel
theorem dX4_has_1 : decode cX4_has 1 = .ok (.ifCond .lt 21, 3) := by decide +kernel
theorem dX4_has_4 : decode cX4_has 4 = .ok (.iload_n 1, 1) := by decide +kernel
theorem dX4_has_5 : decode cX4_has 5 = .ok (.aload_n 0, 1) := by decide +kernel
theorem dX4_has_6 : decode cX4_has 6 = .ok (.getfield 21, 3) := by decide +kernel
theorem dX4_has_9 : decode cX4_has 9 = .ok (.if_icmp .ge 13, 3) := by decide +kernel
theorem dX4_has_12 : decode cX4_has 12 = .ok (.iload_n 1, 1) := by decide +kernel
theorem dX4_has_13 : decode cX4_has 13 = .ok (.bipush 12, 2) := by decide +kernel
theorem dX4_has_15 : decode cX4_has 15 = .ok (.if_icmp .ge 7, 3) := by decide +kernel
theorem dX4_has_18 : decode cX4_has 18 = .ok (.iconst 1, 1) := by decide +kernel
theorem dX4_has_19 : decode cX4_has 19 = .ok (.goto 4, 3) := by decide +kernel
theorem dX4_has_22 : decode cX4_has 22 = .ok (.iconst 0, 1) := by decide +kernel
theorem dX4_has_23 : decode cX4_has 23 = .ok (.ireturn, 1) := by decide +kernel
theorem dX4_holderOf_0 : decode cX4_holderOf 0 = .ok (.iload_n 1, 1) := by decide +kernel
theorem dX4_holderOf_1 : decode cX4_holderOf 1 = .ok (.ifCond .lt 26, 3) := by decide +kernel
theorem dX4_holderOf_4 : decode cX4_holderOf 4 = .ok (.iload_n 1, 1) := by decide +kernel
theorem dX4_holderOf_5 : decode cX4_holderOf 5 = .ok (.aload_n 0, 1) := by decide +kernel
theorem dX4_holderOf_6 : decode cX4_holderOf 6 = .ok (.getfield 21, 3) := by decide +kernel
theorem dX4_holderOf_9 : decode cX4_holderOf 9 = .ok (.if_icmp .ge 18, 3) := by decide +kernel
theorem dX4_holderOf_12 : decode cX4_holderOf 12 = .ok (.iload_n 1, 1) := by decide +kernel
theorem dX4_holderOf_13 : decode cX4_holderOf 13 = .ok (.bipush 12, 2) := by decide +kernel
theorem dX4_holderOf_15 : decode cX4_holderOf 15 = .ok (.if_icmp .ge 12, 3) := by decide +kernel
theorem dX4_holderOf_18 : decode cX4_holderOf 18 = .ok (.aload_n 0, 1) := by decide +kernel
theorem dX4_holderOf_19 : decode cX4_holderOf 19 = .ok (.getfield 18, 3) := by decide +kernel
theorem dX4_holderOf_22 : decode cX4_holderOf 22 = .ok (.iload_n 1, 1) := by decide +kernel
theorem dX4_holderOf_23 : decode cX4_holderOf 23 = .ok (.iaload, 1) := by decide +kernel
theorem dX4_holderOf_24 : decode cX4_holderOf 24 = .ok (.goto 5, 3) := by decide +kernel
theorem dX4_holderOf_27 : decode cX4_holderOf 27 = .ok (.bipush (-2), 2) := by decide +kernel
theorem dX4_holderOf_29 : decode cX4_holderOf 29 = .ok (.ireturn, 1) := by decide +kernel
set_option maxRecDepth 20000 in
theorem ggX4_reachable_X4_holderOf : GoodIn wsX4_reachable wsX4_holderOf := goodIn_r _ [7, 1, 8, 12, 13, 14, 15, 16, 17] (by decide +kernel) (by decide +kernel)
set_option maxRecDepth 20000 in
theorem gX4_reachable_X4_holderOf : GoodIn wsX4_reachable (wsV RX4 31 RX4 yX4_holderOf wsX4_holderOf) := goodIn_app (goodIn_of _ (by decide +kernel)) ggX4_reachable_X4_holderOf
set_option maxRecDepth 20000 in
theorem ggX4_reachable_X5_contains : GoodIn wsX4_reachable wsX5_contains := goodIn_r _ [11] (by decide +kernel) (by decide +kernel)
set_option maxRecDepth 20000 in
theorem gX4_reachable_X5_contains_n35 : GoodIn wsX4_reachable (wsX5_contains) := ggX4_reachable_X5_contains
theorem dX4_reachable_0 : decode cX4_reachable 0 = .ok (.iconst 0, 1) := by decide +kernel
theorem dX4_reachable_1 : decode cX4_reachable 1 = .ok (.istore_n 1, 1) := by decide +kernel
theorem dX4_reachable_2 : decode cX4_reachable 2 = .ok (.iconst 0, 1) := by decide +kernel
theorem dX4_reachable_3 : decode cX4_reachable 3 = .ok (.istore_n 2, 1) := by decide +kernel
theorem dX4_reachable_4 : decode cX4_reachable 4 = .ok (.iload_n 2, 1) := by decide +kernel
theorem dX4_reachable_5 : decode cX4_reachable 5 = .ok (.aload_n 0, 1) := by decide +kernel
theorem dX4_reachable_6 : decode cX4_reachable 6 = .ok (.getfield 21, 3) := by decide +kernel
theorem dX4_reachable_9 : decode cX4_reachable 9 = .ok (.if_icmp .ge 58, 3) := by decide +kernel
theorem dX4_reachable_12 : decode cX4_reachable 12 = .ok (.aload_n 0, 1) := by decide +kernel
theorem dX4_reachable_13 : decode cX4_reachable 13 = .ok (.iload_n 2, 1) := by decide +kernel
theorem dX4_reachable_14 : decode cX4_reachable 14 = .ok (.invokevirtual 31, 3) := by decide +kernel
theorem dX4_reachable_17 : decode cX4_reachable 17 = .ok (.istore_n 3, 1) := by decide +kernel
theorem dX4_reachable_18 : decode cX4_reachable 18 = .ok (.iconst 0, 1) := by decide +kernel
theorem dX4_reachable_19 : decode cX4_reachable 19 = .ok (.istore 4, 2) := by decide +kernel
theorem dX4_reachable_21 : decode cX4_reachable 21 = .ok (.iload 4, 2) := by decide +kernel
theorem dX4_reachable_23 : decode cX4_reachable 23 = .ok (.bipush 12, 2) := by decide +kernel
theorem dX4_reachable_25 : decode cX4_reachable 25 = .ok (.if_icmp .ge 26, 3) := by decide +kernel
theorem dX4_reachable_28 : decode cX4_reachable 28 = .ok (.aload_n 0, 1) := by decide +kernel
theorem dX4_reachable_29 : decode cX4_reachable 29 = .ok (.getfield 28, 3) := by decide +kernel
theorem dX4_reachable_32 : decode cX4_reachable 32 = .ok (.iload_n 3, 1) := by decide +kernel
theorem dX4_reachable_33 : decode cX4_reachable 33 = .ok (.invokestatic 35, 3) := by decide +kernel
theorem dX4_reachable_36 : decode cX4_reachable 36 = .ok (.ifCond .eq 15, 3) := by decide +kernel
theorem dX4_reachable_39 : decode cX4_reachable 39 = .ok (.aload_n 0, 1) := by decide +kernel
theorem dX4_reachable_40 : decode cX4_reachable 40 = .ok (.iload_n 3, 1) := by decide +kernel
theorem dX4_reachable_41 : decode cX4_reachable 41 = .ok (.invokevirtual 31, 3) := by decide +kernel
theorem dX4_reachable_44 : decode cX4_reachable 44 = .ok (.istore_n 3, 1) := by decide +kernel
theorem dX4_reachable_45 : decode cX4_reachable 45 = .ok (.iinc 4 1, 3) := by decide +kernel
theorem dX4_reachable_48 : decode cX4_reachable 48 = .ok (.goto (-27), 3) := by decide +kernel
theorem dX4_reachable_51 : decode cX4_reachable 51 = .ok (.iload_n 3, 1) := by decide +kernel
theorem dX4_reachable_52 : decode cX4_reachable 52 = .ok (.ifCond .ge 9, 3) := by decide +kernel
theorem dX4_reachable_55 : decode cX4_reachable 55 = .ok (.iload_n 1, 1) := by decide +kernel
theorem dX4_reachable_56 : decode cX4_reachable 56 = .ok (.iconst 1, 1) := by decide +kernel
theorem dX4_reachable_57 : decode cX4_reachable 57 = .ok (.iload_n 2, 1) := by decide +kernel
theorem dX4_reachable_58 : decode cX4_reachable 58 = .ok (.ishl, 1) := by decide +kernel
theorem dX4_reachable_59 : decode cX4_reachable 59 = .ok (.ior, 1) := by decide +kernel
theorem dX4_reachable_60 : decode cX4_reachable 60 = .ok (.istore_n 1, 1) := by decide +kernel
theorem dX4_reachable_61 : decode cX4_reachable 61 = .ok (.iinc 2 1, 3) := by decide +kernel
theorem dX4_reachable_64 : decode cX4_reachable 64 = .ok (.goto (-60), 3) := by decide +kernel
theorem dX4_reachable_67 : decode cX4_reachable 67 = .ok (.iload_n 1, 1) := by decide +kernel
theorem dX4_reachable_68 : decode cX4_reachable 68 = .ok (.ireturn, 1) := by decide +kernel
theorem dX4_described_0 : decode cX4_described 0 = .ok (.iconst 0, 1) := by decide +kernel
theorem dX4_described_1 : decode cX4_described 1 = .ok (.istore 4, 2) := by decide +kernel
theorem dX4_described_3 : decode cX4_described 3 = .ok (.iconst 0, 1) := by decide +kernel
theorem dX4_described_4 : decode cX4_described 4 = .ok (.istore 5, 2) := by decide +kernel
theorem dX4_described_6 : decode cX4_described 6 = .ok (.iload 5, 2) := by decide +kernel
theorem dX4_described_8 : decode cX4_described 8 = .ok (.aload_n 0, 1) := by decide +kernel
theorem dX4_described_9 : decode cX4_described 9 = .ok (.getfield 21, 3) := by decide +kernel
theorem dX4_described_12 : decode cX4_described 12 = .ok (.if_icmp .ge 76, 3) := by decide +kernel
theorem dX4_described_15 : decode cX4_described 15 = .ok (.iload 5, 2) := by decide +kernel
theorem dX4_described_17 : decode cX4_described 17 = .ok (.bipush 12, 2) := by decide +kernel
theorem dX4_described_19 : decode cX4_described 19 = .ok (.if_icmp .ge 69, 3) := by decide +kernel
theorem dX4_described_22 : decode cX4_described 22 = .ok (.iload_n 3, 1) := by decide +kernel
theorem dX4_described_23 : decode cX4_described 23 = .ok (.iconst (-1), 1) := by decide +kernel
theorem dX4_described_24 : decode cX4_described 24 = .ok (.if_icmp .eq 14, 3) := by decide +kernel
theorem dX4_described_27 : decode cX4_described 27 = .ok (.aload_n 0, 1) := by decide +kernel
theorem dX4_described_28 : decode cX4_described 28 = .ok (.getfield 9, 3) := by decide +kernel
theorem dX4_described_31 : decode cX4_described 31 = .ok (.iload 5, 2) := by decide +kernel
theorem dX4_described_33 : decode cX4_described 33 = .ok (.iaload, 1) := by decide +kernel
theorem dX4_described_34 : decode cX4_described 34 = .ok (.iload_n 3, 1) := by decide +kernel
theorem dX4_described_35 : decode cX4_described 35 = .ok (.if_icmp .ne 7, 3) := by decide +kernel
theorem dX4_described_38 : decode cX4_described 38 = .ok (.iconst 1, 1) := by decide +kernel
theorem dX4_described_39 : decode cX4_described 39 = .ok (.goto 4, 3) := by decide +kernel
theorem dX4_described_42 : decode cX4_described 42 = .ok (.iconst 0, 1) := by decide +kernel
theorem dX4_described_43 : decode cX4_described 43 = .ok (.istore 6, 2) := by decide +kernel
theorem dX4_described_45 : decode cX4_described 45 = .ok (.iload_n 1, 1) := by decide +kernel
theorem dX4_described_46 : decode cX4_described 46 = .ok (.iload 5, 2) := by decide +kernel
theorem dX4_described_48 : decode cX4_described 48 = .ok (.ishr, 1) := by decide +kernel
theorem dX4_described_49 : decode cX4_described 49 = .ok (.iconst 1, 1) := by decide +kernel
theorem dX4_described_50 : decode cX4_described 50 = .ok (.iand, 1) := by decide +kernel
theorem dX4_described_51 : decode cX4_described 51 = .ok (.ifCond .eq 31, 3) := by decide +kernel
theorem dX4_described_54 : decode cX4_described 54 = .ok (.iload 6, 2) := by decide +kernel
theorem dX4_described_56 : decode cX4_described 56 = .ok (.ifCond .eq 26, 3) := by decide +kernel
theorem dX4_described_59 : decode cX4_described 59 = .ok (.iload_n 2, 1) := by decide +kernel
theorem dX4_described_60 : decode cX4_described 60 = .ok (.aload_n 0, 1) := by decide +kernel
theorem dX4_described_61 : decode cX4_described 61 = .ok (.getfield 15, 3) := by decide +kernel
theorem dX4_described_64 : decode cX4_described 64 = .ok (.iload 5, 2) := by decide +kernel
theorem dX4_described_66 : decode cX4_described 66 = .ok (.iaload, 1) := by decide +kernel
theorem dX4_described_67 : decode cX4_described 67 = .ok (.iconst (-1), 1) := by decide +kernel
theorem dX4_described_68 : decode cX4_described 68 = .ok (.ixor, 1) := by decide +kernel
theorem dX4_described_69 : decode cX4_described 69 = .ok (.iand, 1) := by decide +kernel
theorem dX4_described_70 : decode cX4_described 70 = .ok (.ifCond .ne 12, 3) := by decide +kernel
theorem dX4_described_73 : decode cX4_described 73 = .ok (.iload 4, 2) := by decide +kernel
theorem dX4_described_75 : decode cX4_described 75 = .ok (.iconst 1, 1) := by decide +kernel
theorem dX4_described_76 : decode cX4_described 76 = .ok (.iload 5, 2) := by decide +kernel
theorem dX4_described_78 : decode cX4_described 78 = .ok (.ishl, 1) := by decide +kernel
theorem dX4_described_79 : decode cX4_described 79 = .ok (.ior, 1) := by decide +kernel
theorem dX4_described_80 : decode cX4_described 80 = .ok (.istore 4, 2) := by decide +kernel
theorem dX4_described_82 : decode cX4_described 82 = .ok (.iinc 5 1, 3) := by decide +kernel
theorem dX4_described_85 : decode cX4_described 85 = .ok (.goto (-79), 3) := by decide +kernel
theorem dX4_described_88 : decode cX4_described 88 = .ok (.iload 4, 2) := by decide +kernel
theorem dX4_described_90 : decode cX4_described 90 = .ok (.ireturn, 1) := by decide +kernel
set_option maxRecDepth 20000 in
theorem ggX4_suited_X4_reachable : GoodIn wsX4_suited wsX4_reachable := goodIn_r _ [7, 8, 2, 9, 10, 11, 6, 12, 13, 14, 15, 16, 21, 22, 23, 24, 25, 26] (by decide +kernel) (by decide +kernel)
set_option maxRecDepth 20000 in
theorem gX4_suited_X4_reachable : GoodIn wsX4_suited (wsV RX4 39 RX4 yX4_reachable wsX4_reachable) := goodIn_app (goodIn_of _ (by decide +kernel)) ggX4_suited_X4_reachable
set_option maxRecDepth 20000 in
theorem ggX4_suited_X4_held : GoodIn wsX4_suited wsX4_held := goodIn_r _ [20, 8, 13, 21, 22, 23, 24, 25, 26] (by decide +kernel) (by decide +kernel)
set_option maxRecDepth 20000 in
theorem gX4_suited_X4_held : GoodIn wsX4_suited (wsV RX4 43 RX4 yX4_held wsX4_held) := goodIn_app (goodIn_of _ (by decide +kernel)) ggX4_suited_X4_held
theorem dX4_suited_0 : decode cX4_suited 0 = .ok (.aload_n 0, 1) := by decide +kernel
theorem dX4_suited_1 : decode cX4_suited 1 = .ok (.invokevirtual 39, 3) := by decide +kernel
theorem dX4_suited_4 : decode cX4_suited 4 = .ok (.istore_n 2, 1) := by decide +kernel
theorem dX4_suited_5 : decode cX4_suited 5 = .ok (.iload_n 1, 1) := by decide +kernel
theorem dX4_suited_6 : decode cX4_suited 6 = .ok (.tableswitch 119 0 16 #[82, 91, 91, 98, 112, 119, 119, 119, 119, 119, 119, 119, 119, 119, 119, 119, 112], 82) := by decide +kernel
theorem dX4_suited_88 : decode cX4_suited 88 = .ok (.iload_n 2, 1) := by decide +kernel
theorem dX4_suited_89 : decode cX4_suited 89 = .ok (.aload_n 0, 1) := by decide +kernel
theorem dX4_suited_90 : decode cX4_suited 90 = .ok (.invokevirtual 43, 3) := by decide +kernel
theorem dX4_suited_93 : decode cX4_suited 93 = .ok (.iconst (-1), 1) := by decide +kernel
theorem dX4_suited_94 : decode cX4_suited 94 = .ok (.ixor, 1) := by decide +kernel
theorem dX4_suited_95 : decode cX4_suited 95 = .ok (.iand, 1) := by decide +kernel
theorem dX4_suited_96 : decode cX4_suited 96 = .ok (.ireturn, 1) := by decide +kernel
theorem dX4_suited_97 : decode cX4_suited 97 = .ok (.iload_n 2, 1) := by decide +kernel
theorem dX4_suited_98 : decode cX4_suited 98 = .ok (.aload_n 0, 1) := by decide +kernel
theorem dX4_suited_99 : decode cX4_suited 99 = .ok (.invokevirtual 43, 3) := by decide +kernel
theorem dX4_suited_102 : decode cX4_suited 102 = .ok (.iand, 1) := by decide +kernel
theorem dX4_suited_103 : decode cX4_suited 103 = .ok (.ireturn, 1) := by decide +kernel
theorem dX4_suited_104 : decode cX4_suited 104 = .ok (.iload_n 2, 1) := by decide +kernel
theorem dX4_suited_105 : decode cX4_suited 105 = .ok (.aload_n 0, 1) := by decide +kernel
theorem dX4_suited_106 : decode cX4_suited 106 = .ok (.getfield 25, 3) := by decide +kernel
theorem dX4_suited_109 : decode cX4_suited 109 = .ok (.iand, 1) := by decide +kernel
theorem dX4_suited_110 : decode cX4_suited 110 = .ok (.aload_n 0, 1) := by decide +kernel
theorem dX4_suited_111 : decode cX4_suited 111 = .ok (.getfield 28, 3) := by decide +kernel
theorem dX4_suited_114 : decode cX4_suited 114 = .ok (.iconst (-1), 1) := by decide +kernel
