theorem dX3_peek_27 : decode cX3_peek 27 = .ok (.aload_n 0, 1) := by decide +kernel
theorem dX3_peek_28 : decode cX3_peek 28 = .ok (.getfield 9, 3) := by decide +kernel
theorem dX3_peek_31 : decode cX3_peek 31 = .ok (.aload_n 0, 1) := by decide +kernel
theorem dX3_peek_32 : decode cX3_peek 32 = .ok (.getfield 19, 3) := by decide +kernel
theorem dX3_peek_35 : decode cX3_peek 35 = .ok (.iaload, 1) := by decide +kernel
theorem dX3_peek_36 : decode cX3_peek 36 = .ok (.goto 4, 3) := by decide +kernel
theorem dX3_peek_39 : decode cX3_peek 39 = .ok (.iconst (-1), 1) := by decide +kernel
theorem dX3_peek_40 : decode cX3_peek 40 = .ok (.ireturn, 1) := by decide +kernel
set_option maxRecDepth 20000 in
theorem ggX3_accept_X3_peek : GoodIn wsX3_accept wsX3_peek := goodIn_r _ [6, 1, 7, 8, 9, 10, 11, 12, 13] (by decide +kernel) (by decide +kernel)
set_option maxRecDepth 20000 in
theorem gX3_accept_X3_peek : GoodIn wsX3_accept (wsV RX3 28 RX3 yX3_peek wsX3_peek) := goodIn_app (goodIn_of _ (by decide +kernel)) ggX3_accept_X3_peek
theorem dX3_accept_0 : decode cX3_accept 0 = .ok (.aload_n 0, 1) := by decide +kernel
theorem dX3_accept_1 : decode cX3_accept 1 = .ok (.invokevirtual 28, 3) := by decide +kernel
theorem dX3_accept_4 : decode cX3_accept 4 = .ok (.iload_n 1, 1) := by decide +kernel
theorem dX3_accept_5 : decode cX3_accept 5 = .ok (.if_icmp .eq 5, 3) := by decide +kernel
theorem dX3_accept_8 : decode cX3_accept 8 = .ok (.iconst 0, 1) := by decide +kernel
theorem dX3_accept_9 : decode cX3_accept 9 = .ok (.ireturn, 1) := by decide +kernel
theorem dX3_accept_10 : decode cX3_accept 10 = .ok (.aload_n 0, 1) := by decide +kernel
theorem dX3_accept_11 : decode cX3_accept 11 = .ok (.dup, 1) := by decide +kernel
theorem dX3_accept_12 : decode cX3_accept 12 = .ok (.getfield 19, 3) := by decide +kernel
theorem dX3_accept_15 : decode cX3_accept 15 = .ok (.iconst 1, 1) := by decide +kernel
theorem dX3_accept_16 : decode cX3_accept 16 = .ok (.iadd, 1) := by decide +kernel
theorem dX3_accept_17 : decode cX3_accept 17 = .ok (.putfield 19, 3) := by decide +kernel
theorem dX3_accept_20 : decode cX3_accept 20 = .ok (.iconst 1, 1) := by decide +kernel
theorem dX3_accept_21 : decode cX3_accept 21 = .ok (.ireturn, 1) := by decide +kernel
set_option maxRecDepth 20000 in
theorem ggX3_readAdjectives_X3_peek : GoodIn wsX3_readAdjectives wsX3_peek := goodIn_r _ [8, 3, 9, 10, 14, 15, 16, 17, 18] (by decide +kernel) (by decide +kernel)
set_option maxRecDepth 20000 in
theorem gX3_readAdjectives_X3_peek : GoodIn wsX3_readAdjectives (wsV RX3 28 RX3 yX3_peek wsX3_peek) := goodIn_app (goodIn_of _ (by decide +kernel)) ggX3_readAdjectives_X3_peek
set_option maxRecDepth 20000 in
theorem ggX3_readAdjectives_X5_isBetween : GoodIn wsX3_readAdjectives wsX5_isBetween := goodIn_r _ [13] (by decide +kernel) (by decide +kernel)
set_option maxRecDepth 20000 in
theorem gX3_readAdjectives_X5_isBetween_n32 : GoodIn wsX3_readAdjectives (wsX5_isBetween) := ggX3_readAdjectives_X5_isBetween
theorem dX3_readAdjectives_0 : decode cX3_readAdjectives 0 = .ok (.aload_n 0, 1) := by decide +kernel
theorem dX3_readAdjectives_1 : decode cX3_readAdjectives 1 = .ok (.iconst 0, 1) := by decide +kernel
theorem dX3_readAdjectives_2 : decode cX3_readAdjectives 2 = .ok (.putfield 22, 3) := by decide +kernel
theorem dX3_readAdjectives_5 : decode cX3_readAdjectives 5 = .ok (.aload_n 0, 1) := by decide +kernel
theorem dX3_readAdjectives_6 : decode cX3_readAdjectives 6 = .ok (.iconst (-1), 1) := by decide +kernel
theorem dX3_readAdjectives_7 : decode cX3_readAdjectives 7 = .ok (.putfield 25, 3) := by decide +kernel
theorem dX3_readAdjectives_10 : decode cX3_readAdjectives 10 = .ok (.iconst 0, 1) := by decide +kernel
theorem dX3_readAdjectives_11 : decode cX3_readAdjectives 11 = .ok (.istore_n 1, 1) := by decide +kernel
theorem dX3_readAdjectives_12 : decode cX3_readAdjectives 12 = .ok (.iload_n 1, 1) := by decide +kernel
theorem dX3_readAdjectives_13 : decode cX3_readAdjectives 13 = .ok (.bipush 24, 2) := by decide +kernel
theorem dX3_readAdjectives_15 : decode cX3_readAdjectives 15 = .ok (.if_icmp .ge 51, 3) := by decide +kernel
theorem dX3_readAdjectives_18 : decode cX3_readAdjectives 18 = .ok (.aload_n 0, 1) := by decide +kernel
theorem dX3_readAdjectives_19 : decode cX3_readAdjectives 19 = .ok (.invokevirtual 28, 3) := by decide +kernel
theorem dX3_readAdjectives_22 : decode cX3_readAdjectives 22 = .ok (.bipush 20, 2) := by decide +kernel
theorem dX3_readAdjectives_24 : decode cX3_readAdjectives 24 = .ok (.bipush 6, 2) := by decide +kernel
theorem dX3_readAdjectives_26 : decode cX3_readAdjectives 26 = .ok (.invokestatic 32, 3) := by decide +kernel
theorem dX3_readAdjectives_29 : decode cX3_readAdjectives 29 = .ok (.ifCond .eq 37, 3) := by decide +kernel
theorem dX3_readAdjectives_32 : decode cX3_readAdjectives 32 = .ok (.aload_n 0, 1) := by decide +kernel
theorem dX3_readAdjectives_33 : decode cX3_readAdjectives 33 = .ok (.dup, 1) := by decide +kernel
theorem dX3_readAdjectives_34 : decode cX3_readAdjectives 34 = .ok (.getfield 22, 3) := by decide +kernel
theorem dX3_readAdjectives_37 : decode cX3_readAdjectives 37 = .ok (.iconst 1, 1) := by decide +kernel
theorem dX3_readAdjectives_38 : decode cX3_readAdjectives 38 = .ok (.aload_n 0, 1) := by decide +kernel
theorem dX3_readAdjectives_39 : decode cX3_readAdjectives 39 = .ok (.invokevirtual 28, 3) := by decide +kernel
theorem dX3_readAdjectives_42 : decode cX3_readAdjectives 42 = .ok (.bipush 20, 2) := by decide +kernel
theorem dX3_readAdjectives_44 : decode cX3_readAdjectives 44 = .ok (.isub, 1) := by decide +kernel
theorem dX3_readAdjectives_45 : decode cX3_readAdjectives 45 = .ok (.ishl, 1) := by decide +kernel
theorem dX3_readAdjectives_46 : decode cX3_readAdjectives 46 = .ok (.ior, 1) := by decide +kernel
theorem dX3_readAdjectives_47 : decode cX3_readAdjectives 47 = .ok (.putfield 22, 3) := by decide +kernel
theorem dX3_readAdjectives_50 : decode cX3_readAdjectives 50 = .ok (.aload_n 0, 1) := by decide +kernel
theorem dX3_readAdjectives_51 : decode cX3_readAdjectives 51 = .ok (.dup, 1) := by decide +kernel
theorem dX3_readAdjectives_52 : decode cX3_readAdjectives 52 = .ok (.getfield 19, 3) := by decide +kernel
theorem dX3_readAdjectives_55 : decode cX3_readAdjectives 55 = .ok (.iconst 1, 1) := by decide +kernel
theorem dX3_readAdjectives_56 : decode cX3_readAdjectives 56 = .ok (.iadd, 1) := by decide +kernel
theorem dX3_readAdjectives_57 : decode cX3_readAdjectives 57 = .ok (.putfield 19, 3) := by decide +kernel
theorem dX3_readAdjectives_60 : decode cX3_readAdjectives 60 = .ok (.iinc 1 1, 3) := by decide +kernel
theorem dX3_readAdjectives_63 : decode cX3_readAdjectives 63 = .ok (.goto (-51), 3) := by decide +kernel
theorem dX3_readAdjectives_66 : decode cX3_readAdjectives 66 = .ok (.return_, 1) := by decide +kernel
set_option maxRecDepth 20000 in
theorem ggX3_acceptNoun_X3_peek : GoodIn wsX3_acceptNoun wsX3_peek := goodIn_r _ [7, 2, 8, 9, 13, 14, 15, 16, 17] (by decide +kernel) (by decide +kernel)
set_option maxRecDepth 20000 in
theorem gX3_acceptNoun_X3_peek : GoodIn wsX3_acceptNoun (wsV RX3 28 RX3 yX3_peek wsX3_peek) := goodIn_app (goodIn_of _ (by decide +kernel)) ggX3_acceptNoun_X3_peek
set_option maxRecDepth 20000 in
theorem ggX3_acceptNoun_X5_isBetween : GoodIn wsX3_acceptNoun wsX5_isBetween := goodIn_r _ [12] (by decide +kernel) (by decide +kernel)
set_option maxRecDepth 20000 in
theorem gX3_acceptNoun_X5_isBetween_n32 : GoodIn wsX3_acceptNoun (wsX5_isBetween) := ggX3_acceptNoun_X5_isBetween
theorem dX3_acceptNoun_0 : decode cX3_acceptNoun 0 = .ok (.aload_n 0, 1) := by decide +kernel
theorem dX3_acceptNoun_1 : decode cX3_acceptNoun 1 = .ok (.invokevirtual 28, 3) := by decide +kernel
theorem dX3_acceptNoun_4 : decode cX3_acceptNoun 4 = .ok (.iload_n 1, 1) := by decide +kernel
theorem dX3_acceptNoun_5 : decode cX3_acceptNoun 5 = .ok (.bipush 8, 2) := by decide +kernel
theorem dX3_acceptNoun_7 : decode cX3_acceptNoun 7 = .ok (.invokestatic 32, 3) := by decide +kernel
theorem dX3_acceptNoun_10 : decode cX3_acceptNoun 10 = .ok (.ifCond .ne 5, 3) := by decide +kernel
theorem dX3_acceptNoun_13 : decode cX3_acceptNoun 13 = .ok (.iconst 0, 1) := by decide +kernel
theorem dX3_acceptNoun_14 : decode cX3_acceptNoun 14 = .ok (.ireturn, 1) := by decide +kernel
theorem dX3_acceptNoun_15 : decode cX3_acceptNoun 15 = .ok (.aload_n 0, 1) := by decide +kernel
theorem dX3_acceptNoun_16 : decode cX3_acceptNoun 16 = .ok (.aload_n 0, 1) := by decide +kernel
theorem dX3_acceptNoun_17 : decode cX3_acceptNoun 17 = .ok (.invokevirtual 28, 3) := by decide +kernel
theorem dX3_acceptNoun_20 : decode cX3_acceptNoun 20 = .ok (.iload_n 1, 1) := by decide +kernel
theorem dX3_acceptNoun_21 : decode cX3_acceptNoun 21 = .ok (.isub, 1) := by decide +kernel
theorem dX3_acceptNoun_22 : decode cX3_acceptNoun 22 = .ok (.putfield 25, 3) := by decide +kernel
theorem dX3_acceptNoun_25 : decode cX3_acceptNoun 25 = .ok (.aload_n 0, 1) := by decide +kernel
theorem dX3_acceptNoun_26 : decode cX3_acceptNoun 26 = .ok (.dup, 1) := by decide +kernel
theorem dX3_acceptNoun_27 : decode cX3_acceptNoun 27 = .ok (.getfield 19, 3) := by decide +kernel
theorem dX3_acceptNoun_30 : decode cX3_acceptNoun 30 = .ok (.iconst 1, 1) := by decide +kernel
theorem dX3_acceptNoun_31 : decode cX3_acceptNoun 31 = .ok (.iadd, 1) := by decide +kernel
theorem dX3_acceptNoun_32 : decode cX3_acceptNoun 32 = .ok (.putfield 19, 3) := by decide +kernel
theorem dX3_acceptNoun_35 : decode cX3_acceptNoun 35 = .ok (.iconst 1, 1) := by decide +kernel
theorem dX3_acceptNoun_36 : decode cX3_acceptNoun 36 = .ok (.ireturn, 1) := by decide +kernel
set_option maxRecDepth 20000 in
theorem ggX3_readAnswer_X3_accept : GoodIn wsX3_readAnswer wsX3_accept := goodIn_r _ [6, 7, 8, 9, 10, 5, 11, 12, 13, 30, 31, 32, 33, 34] (by decide +kernel) (by decide +kernel)
set_option maxRecDepth 20000 in
theorem gX3_readAnswer_X3_accept : GoodIn wsX3_readAnswer (wsV RX3 36 RX3 yX3_accept wsX3_accept) := goodIn_app (goodIn_of _ (by decide +kernel)) ggX3_readAnswer_X3_accept
set_option maxRecDepth 20000 in
theorem ggX3_readAnswer_X3_readAdjectives : GoodIn wsX3_readAnswer wsX3_readAdjectives := goodIn_r _ [17, 1, 18, 7, 8, 9, 10, 5, 11, 12, 13, 19, 20, 21, 30, 31, 32, 33, 34] (by decide +kernel) (by decide +kernel)
set_option maxRecDepth 20000 in
theorem gX3_readAnswer_X3_readAdjectives : GoodIn wsX3_readAnswer (wsV RX3 40 RX3 yX3_readAdjectives wsX3_readAdjectives) := goodIn_app (goodIn_of _ (by decide +kernel)) ggX3_readAnswer_X3_readAdjectives
set_option maxRecDepth 20000 in
theorem ggX3_readAnswer_X3_acceptNoun : GoodIn wsX3_readAnswer wsX3_acceptNoun := goodIn_r _ [25, 18, 7, 8, 9, 10, 5, 11, 12, 13, 19, 20, 21, 30, 31, 32, 33, 34] (by decide +kernel) (by decide +kernel)
set_option maxRecDepth 20000 in
theorem gX3_readAnswer_X3_acceptNoun : GoodIn wsX3_readAnswer (wsV RX3 43 RX3 yX3_acceptNoun wsX3_acceptNoun) := goodIn_app (goodIn_of _ (by decide +kernel)) ggX3_readAnswer_X3_acceptNoun
set_option maxRecDepth 20000 in
theorem ggX3_readAnswer_X3_atEnd : GoodIn wsX3_readAnswer wsX3_atEnd := goodIn_r _ [29, 7, 12, 30, 31, 32, 33, 34] (by decide +kernel) (by decide +kernel)
set_option maxRecDepth 20000 in
theorem gX3_readAnswer_X3_atEnd : GoodIn wsX3_readAnswer (wsV RX3 46 RX3 yX3_atEnd wsX3_atEnd) := goodIn_app (goodIn_of _ (by decide +kernel)) ggX3_readAnswer_X3_atEnd
theorem dX3_readAnswer_0 : decode cX3_readAnswer 0 = .ok (.aload_n 0, 1) := by decide +kernel
theorem dX3_readAnswer_1 : decode cX3_readAnswer 1 = .ok (.bipush 10, 2) := by decide +kernel
theorem dX3_readAnswer_3 : decode cX3_readAnswer 3 = .ok (.invokevirtual 36, 3) := by decide +kernel
theorem dX3_readAnswer_6 : decode cX3_readAnswer 6 = .ok (.pop, 1) := by decide +kernel
theorem dX3_readAnswer_7 : decode cX3_readAnswer 7 = .ok (.aload_n 0, 1) := by decide +kernel
theorem dX3_readAnswer_8 : decode cX3_readAnswer 8 = .ok (.invokevirtual 40, 3) := by decide +kernel
theorem dX3_readAnswer_11 : decode cX3_readAnswer 11 = .ok (.aload_n 0, 1) := by decide +kernel
theorem dX3_readAnswer_12 : decode cX3_readAnswer 12 = .ok (.bipush 30, 2) := by decide +kernel
theorem dX3_readAnswer_14 : decode cX3_readAnswer 14 = .ok (.invokevirtual 43, 3) := by decide +kernel
theorem dX3_readAnswer_17 : decode cX3_readAnswer 17 = .ok (.ifCond .ne 12, 3) := by decide +kernel
theorem dX3_readAnswer_20 : decode cX3_readAnswer 20 = .ok (.aload_n 0, 1) := by decide +kernel
theorem dX3_readAnswer_21 : decode cX3_readAnswer 21 = .ok (.bipush 17, 2) := by decide +kernel
theorem dX3_readAnswer_23 : decode cX3_readAnswer 23 = .ok (.invokevirtual 36, 3) := by decide +kernel
theorem dX3_readAnswer_26 : decode cX3_readAnswer 26 = .ok (.ifCond .eq 7, 3) := by decide +kernel
theorem dX3_readAnswer_29 : decode cX3_readAnswer 29 = .ok (.iconst 1, 1) := by decide +kernel
theorem dX3_readAnswer_30 : decode cX3_readAnswer 30 = .ok (.goto 4, 3) := by decide +kernel
theorem dX3_readAnswer_33 : decode cX3_readAnswer 33 = .ok (.iconst 0, 1) := by decide +kernel
theorem dX3_readAnswer_34 : decode cX3_readAnswer 34 = .ok (.istore_n 1, 1) := by decide +kernel
theorem dX3_readAnswer_35 : decode cX3_readAnswer 35 = .ok (.aload_n 0, 1) := by decide +kernel
theorem dX3_readAnswer_36 : decode cX3_readAnswer 36 = .ok (.invokevirtual 46, 3) := by decide +kernel
theorem dX3_readAnswer_39 : decode cX3_readAnswer 39 = .ok (.ifCond .eq 18, 3) := by decide +kernel
theorem dX3_readAnswer_42 : decode cX3_readAnswer 42 = .ok (.iload_n 1, 1) := by decide +kernel
theorem dX3_readAnswer_43 : decode cX3_readAnswer 43 = .ok (.ifCond .ne 10, 3) := by decide +kernel
theorem dX3_readAnswer_46 : decode cX3_readAnswer 46 = .ok (.aload_n 0, 1) := by decide +kernel
theorem dX3_readAnswer_47 : decode cX3_readAnswer 47 = .ok (.getfield 22, 3) := by decide +kernel
theorem dX3_readAnswer_50 : decode cX3_readAnswer 50 = .ok (.ifCond .eq 7, 3) := by decide +kernel
theorem dX3_readAnswer_53 : decode cX3_readAnswer 53 = .ok (.iconst 1, 1) := by decide +kernel
theorem dX3_readAnswer_54 : decode cX3_readAnswer 54 = .ok (.goto 4, 3) := by decide +kernel
theorem dX3_readAnswer_57 : decode cX3_readAnswer 57 = .ok (.iconst 0, 1) := by decide +kernel
theorem dX3_readAnswer_58 : decode cX3_readAnswer 58 = .ok (.ireturn, 1) := by decide +kernel
theorem dX4_init_0 : decode cX4_init 0 = .ok (.aload_n 0, 1) := by decide +kernel
theorem dX4_init_1 : decode cX4_init 1 = .ok (.invokespecial 3, 3) := by decide +kernel
theorem dX4_init_4 : decode cX4_init 4 = .ok (.aload_n 0, 1) := by decide +kernel
theorem dX4_init_5 : decode cX4_init 5 = .ok (.bipush 12, 2) := by decide +kernel
theorem dX4_init_7 : decode cX4_init 7 = .ok (.newarray .int, 2) := by decide +kernel
theorem dX4_init_9 : decode cX4_init 9 = .ok (.putfield 9, 3) := by decide +kernel
theorem dX4_init_12 : decode cX4_init 12 = .ok (.aload_n 0, 1) := by decide +kernel
theorem dX4_init_13 : decode cX4_init 13 = .ok (.bipush 12, 2) := by decide +kernel
theorem dX4_init_15 : decode cX4_init 15 = .ok (.newarray .int, 2) := by decide +kernel
theorem dX4_init_17 : decode cX4_init 17 = .ok (.putfield 15, 3) := by decide +kernel
theorem dX4_init_20 : decode cX4_init 20 = .ok (.aload_n 0, 1) := by decide +kernel
theorem dX4_init_21 : decode cX4_init 21 = .ok (.bipush 12, 2) := by decide +kernel
theorem dX4_init_23 : decode cX4_init 23 = .ok (.newarray .int, 2) := by decide +kernel
theorem dX4_init_25 : decode cX4_init 25 = .ok (.putfield 18, 3) := by decide +kernel
theorem dX4_init_28 : decode cX4_init 28 = .ok (.aload_n 0, 1) := by decide +kernel
theorem dX4_init_29 : decode cX4_init 29 = .ok (.iconst 0, 1) := by decide +kernel
theorem dX4_init_30 : decode cX4_init 30 = .ok (.putfield 21, 3) := by decide +kernel
theorem dX4_init_33 : decode cX4_init 33 = .ok (.aload_n 0, 1) := by decide +kernel
theorem dX4_init_34 : decode cX4_init 34 = .ok (.iconst 0, 1) := by decide +kernel
theorem dX4_init_35 : decode cX4_init 35 = .ok (.putfield 25, 3) := by decide +kernel
theorem dX4_init_38 : decode cX4_init 38 = .ok (.aload_n 0, 1) := by decide +kernel
theorem dX4_init_39 : decode cX4_init 39 = .ok (.iconst 0, 1) := by decide +kernel
theorem dX4_init_40 : decode cX4_init 40 = .ok (.putfield 28, 3) := by decide +kernel
theorem dX4_init_43 : decode cX4_init 43 = .ok (.return_, 1) := by decide +kernel
theorem dX4_add_0 : decode cX4_add 0 = .ok (.aload_n 0, 1) := by decide +kernel
theorem dX4_add_1 : decode cX4_add 1 = .ok (.getfield 21, 3) := by decide +kernel
theorem dX4_add_4 : decode cX4_add 4 = .ok (.istore 4, 2) := by decide +kernel
theorem dX4_add_6 : decode cX4_add 6 = .ok (.iload 4, 2) := by decide +kernel
theorem dX4_add_8 : decode cX4_add 8 = .ok (.ifCond .lt 10, 3) := by decide +kernel
theorem dX4_add_11 : decode cX4_add 11 = .ok (.iload 4, 2) := by decide +kernel
theorem dX4_add_13 : decode cX4_add 13 = .ok (.bipush 12, 2) := by decide +kernel
theorem dX4_add_15 : decode cX4_add 15 = .ok (.if_icmp .lt 5, 3) := by decide +kernel
theorem dX4_add_18 : decode cX4_add 18 = .ok (.iconst (-1), 1) := by decide +kernel
theorem dX4_add_19 : decode cX4_add 19 = .ok (.ireturn, 1) := by decide +kernel
theorem dX4_add_20 : decode cX4_add 20 = .ok (.aload_n 0, 1) := by decide +kernel
theorem dX4_add_21 : decode cX4_add 21 = .ok (.getfield 9, 3) := by decide +kernel
theorem dX4_add_24 : decode cX4_add 24 = .ok (.iload 4, 2) := by decide +kernel
theorem dX4_add_26 : decode cX4_add 26 = .ok (.iload_n 1, 1) := by decide +kernel
theorem dX4_add_27 : decode cX4_add 27 = .ok (.iastore, 1) := by decide +kernel
theorem dX4_add_28 : decode cX4_add 28 = .ok (.aload_n 0, 1) := by decide +kernel
theorem dX4_add_29 : decode cX4_add 29 = .ok (.getfield 15, 3) := by decide +kernel
theorem dX4_add_32 : decode cX4_add 32 = .ok (.iload 4, 2) := by decide +kernel
theorem dX4_add_34 : decode cX4_add 34 = .ok (.iload_n 2, 1) := by decide +kernel
theorem dX4_add_35 : decode cX4_add 35 = .ok (.iastore, 1) := by decide +kernel
theorem dX4_add_36 : decode cX4_add 36 = .ok (.aload_n 0, 1) := by decide +kernel
theorem dX4_add_37 : decode cX4_add 37 = .ok (.getfield 18, 3) := by decide +kernel
theorem dX4_add_40 : decode cX4_add 40 = .ok (.iload 4, 2) := by decide +kernel
theorem dX4_add_42 : decode cX4_add 42 = .ok (.bipush (-2), 2) := by decide +kernel
theorem dX4_add_44 : decode cX4_add 44 = .ok (.iastore, 1) := by decide +kernel
theorem dX4_add_45 : decode cX4_add 45 = .ok (.iload_n 3, 1) := by decide +kernel
theorem dX4_add_46 : decode cX4_add 46 = .ok (.ifCond .eq 16, 3) := by decide +kernel
theorem dX4_add_49 : decode cX4_add 49 = .ok (.aload_n 0, 1) := by decide +kernel
theorem dX4_add_50 : decode cX4_add 50 = .ok (.dup, 1) := by decide +kernel
theorem dX4_add_51 : decode cX4_add 51 = .ok (.getfield 25, 3) := by decide +kernel
theorem dX4_add_54 : decode cX4_add 54 = .ok (.iconst 1, 1) := by decide +kernel
theorem dX4_add_55 : decode cX4_add 55 = .ok (.iload 4, 2) := by decide +kernel
theorem dX4_add_57 : decode cX4_add 57 = .ok (.ishl, 1) := by decide +kernel
theorem dX4_add_58 : decode cX4_add 58 = .ok (.ior, 1) := by decide +kernel
theorem dX4_add_59 : decode cX4_add 59 = .ok (.putfield 25, 3) := by decide +kernel
theorem dX4_add_62 : decode cX4_add 62 = .ok (.aload_n 0, 1) := by decide +kernel
theorem dX4_add_63 : decode cX4_add 63 = .ok (.dup, 1) := by decide +kernel
theorem dX4_add_64 : decode cX4_add 64 = .ok (.getfield 21, 3) := by decide +kernel
theorem dX4_add_67 : decode cX4_add 67 = .ok (.iconst 1, 1) := by decide +kernel
theorem dX4_add_68 : decode cX4_add 68 = .ok (.iadd, 1) := by decide +kernel
theorem dX4_add_69 : decode cX4_add 69 = .ok (.putfield 21, 3) := by decide +kernel
theorem dX4_add_72 : decode cX4_add 72 = .ok (.iload 4, 2) := by decide +kernel
theorem dX4_add_74 : decode cX4_add 74 = .ok (.ireturn, 1) := by decide +kernel
theorem dX4_has_0 : decode cX4_has 0 = .ok (.iload_n 1, 1) := by decide +kernel
theorem dX4_has_1 : decode cX4_has 1 = .ok (.ifCond .lt 21, 3) := by decide +kernel
theorem dX4_has_4 : decode cX4_has 4 = .ok (.iload_n 1, 1) := by decide +kernel
theorem dX4_has_5 : decode cX4_has 5 = .ok (.aload_n 0, 1) := by decide +kernel
theorem dX4_has_6 : decode cX4_has 6 = .ok (.getfield 21, 3) := by decide +kernel
theorem dX4_has_9 : decode cX4_has 9 = .ok (.if_icmp .ge 13, 3) := by decide +kernel
theorem dX4_has_12 : decode cX4_has 12 = .ok (.iload_n 1, 1) := by decide +kernel
theorem dX4_has_13 : decode cX4_has 13 = .ok (.bipush 12, 2) := by decide +kernel
theorem dX4_has_15 : decode cX4_has 15 = .ok (.if_icmp .ge 7, 3) := by decide +kernel
theorem dX4_has_18 : decode cX4_has 18 = .ok (.iconst 1, 1) := by decide +kernel
theorem dX4_has_19 : decode cX4_has 19 = .ok (.goto 4, 3) := by decide +kernel
theorem dX4_has_22 : decode cX4_has 22 = .ok (.iconst 0, 1) := by decide +kernel
theorem dX4_has_23 : decode cX4_has 23 = .ok (.ireturn, 1) := by decide +kernel
theorem dX4_holderOf_0 : decode cX4_holderOf 0 = .ok (.iload_n 1, 1) := by decide +kernel
theorem dX4_holderOf_1 : decode cX4_holderOf 1 = .ok (.ifCond .lt 26, 3) := by decide +kernel
theorem dX4_holderOf_4 : decode cX4_holderOf 4 = .ok (.iload_n 1, 1) := by decide +kernel
theorem dX4_holderOf_5 : decode cX4_holderOf 5 = .ok (.aload_n 0, 1) := by decide +kernel
theorem dX4_holderOf_6 : decode cX4_holderOf 6 = .ok (.getfield 21, 3) := by decide +kernel
theorem dX4_holderOf_9 : decode cX4_holderOf 9 = .ok (.if_icmp .ge 18, 3) := by decide +kernel
theorem dX4_holderOf_12 : decode cX4_holderOf 12 = .ok (.iload_n 1, 1) := by decide +kernel
theorem dX4_holderOf_13 : decode cX4_holderOf 13 = .ok (.bipush 12, 2) := by decide +kernel
theorem dX4_holderOf_15 : decode cX4_holderOf 15 = .ok (.if_icmp .ge 12, 3) := by decide +kernel
theorem dX4_holderOf_18 : decode cX4_holderOf 18 = .ok (.aload_n 0, 1) := by decide +kernel
theorem dX4_holderOf_19 : decode cX4_holderOf 19 = .ok (.getfield 18, 3) := by decide +kernel
theorem dX4_holderOf_22 : decode cX4_holderOf 22 = .ok (.iload_n 1, 1) := by decide +kernel
theorem dX4_holderOf_23 : decode cX4_holderOf 23 = .ok (.iaload, 1) := by decide +kernel
theorem dX4_holderOf_24 : decode cX4_holderOf 24 = .ok (.goto 5, 3) := by decide +kernel
theorem dX4_holderOf_27 : decode cX4_holderOf 27 = .ok (.bipush (-2), 2) := by decide +kernel
theorem dX4_holderOf_29 : decode cX4_holderOf 29 = .ok (.ireturn, 1) := by decide +kernel
set_option maxRecDepth 20000 in
theorem ggX4_reachable_X4_holderOf : GoodIn wsX4_reachable wsX4_holderOf := goodIn_r _ [7, 1, 8, 12, 13, 14, 15, 16, 17] (by decide +kernel) (by decide +kernel)
set_option maxRecDepth 20000 in
theorem gX4_reachable_X4_holderOf : GoodIn wsX4_reachable (wsV RX4 31 RX4 yX4_holderOf wsX4_holderOf) := goodIn_app (goodIn_of _ (by decide +kernel)) ggX4_reachable_X4_holderOf
set_option maxRecDepth 20000 in
theorem ggX4_reachable_X5_contains : GoodIn wsX4_reachable wsX5_contains := goodIn_r _ [11] (by decide +kernel) (by decide +kernel)
set_option maxRecDepth 20000 in
theorem gX4_reachable_X5_contains_n35 : GoodIn wsX4_reachable (wsX5_contains) := ggX4_reachable_X5_contains
theorem dX4_reachable_0 : decode cX4_reachable 0 = .ok (.iconst 0, 1) := by decide +kernel
theorem dX4_reachable_1 : decode cX4_reachable 1 = .ok (.istore_n 1, 1) := by decide +kernel
theorem dX4_reachable_2 : decode cX4_reachable 2 = .ok (.iconst 0, 1) := by decide +kernel
theorem dX4_reachable_3 : decode cX4_reachable 3 = .ok (.istore_n 2, 1) := by decide +kernel
theorem dX4_reachable_4 : decode cX4_reachable 4 = .ok (.iload_n 2, 1) := by decide +kernel
theorem dX4_reachable_5 : decode cX4_reachable 5 = .ok (.aload_n 0, 1) := by decide +kernel
theorem dX4_reachable_6 : decode cX4_reachable 6 = .ok (.getfield 21, 3) := by decide +kernel
theorem dX4_reachable_9 : decode cX4_reachable 9 = .ok (.if_icmp .ge 58, 3) := by decide +kernel
theorem dX4_reachable_12 : decode cX4_reachable 12 = .ok (.aload_n 0, 1) := by decide +kernel
theorem dX4_reachable_13 : decode cX4_reachable 13 = .ok (.iload_n 2, 1) := by decide +kernel
theorem dX4_reachable_14 : decode cX4_reachable 14 = .ok (.invokevirtual 31, 3) := by decide +kernel
theorem dX4_reachable_17 : decode cX4_reachable 17 = .ok (.istore_n 3, 1) := by decide +kernel
theorem dX4_reachable_18 : decode cX4_reachable 18 = .ok (.iconst 0, 1) := by decide +kernel
theorem dX4_reachable_19 : decode cX4_reachable 19 = .ok (.istore 4, 2) := by decide +kernel
theorem dX4_reachable_21 : decode cX4_reachable 21 = .ok (.iload 4, 2) := by decide +kernel
theorem dX4_reachable_23 : decode cX4_reachable 23 = .ok (.bipush 12, 2) := by decide +kernel
theorem dX4_reachable_25 : decode cX4_reachable 25 = .ok (.if_icmp .ge 26, 3) := by decide +kernel
theorem dX4_reachable_28 : decode cX4_reachable 28 = .ok (.aload_n 0, 1) := by decide +kernel
theorem dX4_reachable_29 : decode cX4_reachable 29 = .ok (.getfield 28, 3) := by decide +kernel
theorem dX4_reachable_32 : decode cX4_reachable 32 = .ok (.iload_n 3, 1) := by decide +kernel
theorem dX4_reachable_33 : decode cX4_reachable 33 = .ok (.invokestatic 35, 3) := by decide +kernel
theorem dX4_reachable_36 : decode cX4_reachable 36 = .ok (.ifCond .eq 15, 3) := by decide +kernel
theorem dX4_reachable_39 : decode cX4_reachable 39 = .ok (.aload_n 0, 1) := by decide +kernel
theorem dX4_reachable_40 : decode cX4_reachable 40 = .ok (.iload_n 3, 1) := by decide +kernel
theorem dX4_reachable_41 : decode cX4_reachable 41 = .ok (.invokevirtual 31, 3) := by decide +kernel
theorem dX4_reachable_44 : decode cX4_reachable 44 = .ok (.istore_n 3, 1) := by decide +kernel
theorem dX4_reachable_45 : decode cX4_reachable 45 = .ok (.iinc 4 1, 3) := by decide +kernel
theorem dX4_reachable_48 : decode cX4_reachable 48 = .ok (.goto (-27), 3) := by decide +kernel
theorem dX4_reachable_51 : decode cX4_reachable 51 = .ok (.iload_n 3, 1) := by decide +kernel
theorem dX4_reachable_52 : decode cX4_reachable 52 = .ok (.ifCond .ge 9, 3) := by decide +kernel
theorem dX4_reachable_55 : decode cX4_reachable 55 = .ok (.iload_n 1, 1) := by decide +kernel
theorem dX4_reachable_56 : decode cX4_reachable 56 = .ok (.iconst 1, 1) := by decide +kernel
theorem dX4_reachable_57 : decode cX4_reachable 57 = .ok (.iload_n 2, 1) := by decide +kernel
theorem dX4_reachable_58 : decode cX4_reachable 58 = .ok (.ishl, 1) := by decide +kernel
theorem dX4_reachable_59 : decode cX4_reachable 59 = .ok (.ior, 1) := by decide +kernel
theorem dX4_reachable_60 : decode cX4_reachable 60 = .ok (.istore_n 1, 1) := by decide +kernel
theorem dX4_reachable_61 : decode cX4_reachable 61 = .ok (.iinc 2 1, 3) := by decide +kernel
theorem dX4_reachable_64 : decode cX4_reachable 64 = .ok (.goto (-60), 3) := by decide +kernel
theorem dX4_reachable_67 : decode cX4_reachable 67 = .ok (.iload_n 1, 1) := by decide +kernel
theorem dX4_reachable_68 : decode cX4_reachable 68 = .ok (.ireturn, 1) := by decide +kernel
theorem dX4_described_0 : decode cX4_described 0 = .ok (.iconst 0, 1) := by decide +kernel
theorem dX4_described_1 : decode cX4_described 1 = .ok (.istore 4, 2) := by decide +kernel
theorem dX4_described_3 : decode cX4_described 3 = .ok (.iconst 0, 1) := by decide +kernel
theorem dX4_described_4 : decode cX4_described 4 = .ok (.istore 5, 2) := by decide +kernel
theorem dX4_described_6 : decode cX4_described 6 = .ok (.iload 5, 2) := by decide +kernel
theorem dX4_described_8 : decode cX4_described 8 = .ok (.aload_n 0, 1) := by decide +kernel
theorem dX4_described_9 : decode cX4_described 9 = .ok (.getfield 21, 3) := by decide +kernel
theorem dX4_described_12 : decode cX4_described 12 = .ok (.if_icmp .ge 76, 3) := by decide +kernel
theorem dX4_described_15 : decode cX4_described 15 = .ok (.iload 5, 2) := by decide +kernel
theorem dX4_described_17 : decode cX4_described 17 = .ok (.bipush 12, 2) := by decide +kernel
theorem dX4_described_19 : decode cX4_described 19 = .ok (.if_icmp .ge 69, 3) := by decide +kernel
theorem dX4_described_22 : decode cX4_described 22 = .ok (.iload_n 3, 1) := by decide +kernel
theorem dX4_described_23 : decode cX4_described 23 = .ok (.iconst (-1), 1) := by decide +kernel
theorem dX4_described_24 : decode cX4_described 24 = .ok (.if_icmp .eq 14, 3) := by decide +kernel
theorem dX4_described_27 : decode cX4_described 27 = .ok (.aload_n 0, 1) := by decide +kernel
theorem dX4_described_28 : decode cX4_described 28 = .ok (.getfield 9, 3) := by decide +kernel
theorem dX4_described_31 : decode cX4_described 31 = .ok (.iload 5, 2) := by decide +kernel
theorem dX4_described_33 : decode cX4_described 33 = .ok (.iaload, 1) := by decide +kernel
theorem dX4_described_34 : decode cX4_described 34 = .ok (.iload_n 3, 1) := by decide +kernel
theorem dX4_described_35 : decode cX4_described 35 = .ok (.if_icmp .ne 7, 3) := by decide +kernel
theorem dX4_described_38 : decode cX4_described 38 = .ok (.iconst 1, 1) := by decide +kernel
theorem dX4_described_39 : decode cX4_described 39 = .ok (.goto 4, 3) := by decide +kernel
theorem dX4_described_42 : decode cX4_described 42 = .ok (.iconst 0, 1) := by decide +kernel
theorem dX4_described_43 : decode cX4_described 43 = .ok (.istore 6, 2) := by decide +kernel
theorem dX4_described_45 : decode cX4_described 45 = .ok (.iload_n 1, 1) := by decide +kernel
theorem dX4_described_46 : decode cX4_described 46 = .ok (.iload 5, 2) := by decide +kernel
theorem dX4_described_48 : decode cX4_described 48 = .ok (.ishr, 1) := by decide +kernel
theorem dX4_described_49 : decode cX4_described 49 = .ok (.iconst 1, 1) := by decide +kernel
theorem dX4_described_50 : decode cX4_described 50 = .ok (.iand, 1) := by decide +kernel
theorem dX4_described_51 : decode cX4_described 51 = .ok (.ifCond .eq 31, 3) := by decide +kernel
theorem dX4_described_54 : decode cX4_described 54 = .ok (.iload 6, 2) := by decide +kernel
theorem dX4_described_56 : decode cX4_described 56 = .ok (.ifCond .eq 26, 3) := by decide +kernel
theorem dX4_described_59 : decode cX4_described 59 = .ok (.iload_n 2, 1) := by decide +kernel
theorem dX4_described_60 : decode cX4_described 60 = .ok (.aload_n 0, 1) := by decide +kernel
theorem dX4_described_61 : decode cX4_described 61 = .ok (.getfield 15, 3) := by decide +kernel
theorem dX4_described_64 : decode cX4_described 64 = .ok (.iload 5, 2) := by decide +kernel
theorem dX4_described_66 : decode cX4_described 66 = .ok (.iaload, 1) := by decide +kernel
theorem dX4_described_67 : decode cX4_described 67 = .ok (.iconst (-1), 1) := by decide +kernel
theorem dX4_described_68 : decode cX4_described 68 = .ok (.ixor, 1) := by decide +kernel
theorem dX4_described_69 : decode cX4_described 69 = .ok (.iand, 1) := by decide +kernel
theorem dX4_described_70 : decode cX4_described 70 = .ok (.ifCond .ne 12, 3) := by decide +kernel
theorem dX4_described_73 : decode cX4_described 73 = .ok (.iload 4, 2) := by decide +kernel
theorem dX4_described_75 : decode cX4_described 75 = .ok (.iconst 1, 1) := by decide +kernel
theorem dX4_described_76 : decode cX4_described 76 = .ok (.iload 5, 2) := by decide +kernel
theorem dX4_described_78 : decode cX4_described 78 = .ok (.ishl, 1) := by decide +kernel
theorem dX4_described_79 : decode cX4_described 79 = .ok (.ior, 1) := by decide +kernel
theorem dX4_described_80 : decode cX4_described 80 = .ok (.istore 4, 2) := by decide +kernel
theorem dX4_described_82 : decode cX4_described 82 = .ok (.iinc 5 1, 3) := by decide +kernel
theorem dX4_described_85 : decode cX4_described 85 = .ok (.goto (-79), 3) := by decide +kernel
theorem dX4_described_88 : decode cX4_described 88 = .ok (.iload 4, 2) := by decide +kernel
theorem dX4_described_90 : decode cX4_described 90 = .ok (.ireturn, 1) := by decide +kernel
set_option maxRecDepth 20000 in
theorem ggX4_suited_X4_reachable : GoodIn wsX4_suited wsX4_reachable := goodIn_r _ [7, 8, 2, 9, 10, 11, 6, 12, 13, 14, 15, 16, 21, 22, 23, 24, 25, 26] (by decide +kernel) (by decide +kernel)
set_option maxRecDepth 20000 in
theorem gX4_suited_X4_reachable : GoodIn wsX4_suited (wsV RX4 39 RX4 yX4_reachable wsX4_reachable) := goodIn_app (goodIn_of _ (by decide +kernel)) ggX4_suited_X4_reachable
set_option maxRecDepth 20000 in
theorem ggX4_suited_X4_held : GoodIn wsX4_suited wsX4_held := goodIn_r _ [20, 8, 13, 21, 22, 23, 24, 25, 26] (by decide +kernel) (by decide +kernel)
set_option maxRecDepth 20000 in
theorem gX4_suited_X4_held : GoodIn wsX4_suited (wsV RX4 43 RX4 yX4_held wsX4_held) := goodIn_app (goodIn_of _ (by decide +kernel)) ggX4_suited_X4_held
theorem dX4_suited_0 : decode cX4_suited 0 = .ok (.aload_n 0, 1) := by decide +kernel
theorem dX4_suited_1 : decode cX4_suited 1 = .ok (.invokevirtual 39, 3) := by decide +kernel
theorem dX4_suited_4 : decode cX4_suited 4 = .ok (.istore_n 2, 1) := by decide +kernel
theorem dX4_suited_5 : decode cX4_suited 5 = .ok (.iload_n 1, 1) := by decide +kernel
theorem dX4_suited_6 : decode cX4_suited 6 = .ok (.tableswitch 119 0 16 #[82, 91, 91, 98, 112, 119, 119, 119, 119, 119, 119, 119, 119, 119, 119, 119, 112], 82) := by decide +kernel
theorem dX4_suited_88 : decode cX4_suited 88 = .ok (.iload_n 2, 1) := by decide +kernel
theorem dX4_suited_89 : decode cX4_suited 89 = .ok (.aload_n 0, 1) := by decide +kernel
theorem dX4_suited_90 : decode cX4_suited 90 = .ok (.invokevirtual 43, 3) := by decide +kernel
theorem dX4_suited_93 : decode cX4_suited 93 = .ok (.iconst (-1), 1) := by decide +kernel
theorem dX4_suited_94 : decode cX4_suited 94 = .ok (.ixor, 1) := by decide +kernel
theorem dX4_suited_95 : decode cX4_suited 95 = .ok (.iand, 1) := by decide +kernel
theorem dX4_suited_96 : decode cX4_suited 96 = .ok (.ireturn, 1) := by decide +kernel
theorem dX4_suited_97 : decode cX4_suited 97 = .ok (.iload_n 2, 1) := by decide +kernel
theorem dX4_suited_98 : decode cX4_suited 98 = .ok (.aload_n 0, 1) := by decide +kernel
theorem dX4_suited_99 : decode cX4_suited 99 = .ok (.invokevirtual 43, 3) := by decide +kernel
theorem dX4_suited_102 : decode cX4_suited 102 = .ok (.iand, 1) := by decide +kernel
theorem dX4_suited_103 : decode cX4_suited 103 = .ok (.ireturn, 1) := by decide +kernel
theorem dX4_suited_104 : decode cX4_suited 104 = .ok (.iload_n 2, 1) := by decide +kernel
theorem dX4_suited_105 : decode cX4_suited 105 = .ok (.aload_n 0, 1) := by decide +kernel
theorem dX4_suited_106 : decode cX4_suited 106 = .ok (.getfield 25, 3) := by decide +kernel
theorem dX4_suited_109 : decode cX4_suited 109 = .ok (.iand, 1) := by decide +kernel
theorem dX4_suited_110 : decode cX4_suited 110 = .ok (.aload_n 0, 1) := by decide +kernel
theorem dX4_suited_111 : decode cX4_suited 111 = .ok (.getfield 28, 3) := by decide +kernel
theorem dX4_suited_114 : decode cX4_suited 114 = .ok (.iconst (-1), 1) := by decide +kernel
theorem dX4_suited_115 : decode cX4_suited 115 = .ok (.ixor, 1) := by decide +kernel
theorem dX4_suited_116 : decode cX4_suited 116 = .ok (.iand, 1) := by decide +kernel
theorem dX4_suited_117 : decode cX4_suited 117 = .ok (.ireturn, 1) := by decide +kernel
theorem dX4_suited_118 : decode cX4_suited 118 = .ok (.iload_n 2, 1) := by decide +kernel
theorem dX4_suited_119 : decode cX4_suited 119 = .ok (.aload_n 0, 1) := by decide +kernel
theorem dX4_suited_120 : decode cX4_suited 120 = .ok (.getfield 28, 3) := by decide +kernel
theorem dX4_suited_123 : decode cX4_suited 123 = .ok (.iand, 1) := by decide +kernel
theorem dX4_suited_124 : decode cX4_suited 124 = .ok (.ireturn, 1) := by decide +kernel
theorem dX4_suited_125 : decode cX4_suited 125 = .ok (.iconst 0, 1) := by decide +kernel
theorem dX4_suited_126 : decode cX4_suited 126 = .ok (.ireturn, 1) := by decide +kernel
theorem dX4_held_0 : decode cX4_held 0 = .ok (.iconst 0, 1) := by decide +kernel
theorem dX4_held_1 : decode cX4_held 1 = .ok (.istore_n 1, 1) := by decide +kernel
theorem dX4_held_2 : decode cX4_held 2 = .ok (.iconst 0, 1) := by decide +kernel
theorem dX4_held_3 : decode cX4_held 3 = .ok (.istore_n 2, 1) := by decide +kernel
theorem dX4_held_4 : decode cX4_held 4 = .ok (.iload_n 2, 1) := by decide +kernel
theorem dX4_held_5 : decode cX4_held 5 = .ok (.aload_n 0, 1) := by decide +kernel
theorem dX4_held_6 : decode cX4_held 6 = .ok (.getfield 21, 3) := by decide +kernel
theorem dX4_held_9 : decode cX4_held 9 = .ok (.if_icmp .ge 32, 3) := by decide +kernel
theorem dX4_held_12 : decode cX4_held 12 = .ok (.iload_n 2, 1) := by decide +kernel
theorem dX4_held_13 : decode cX4_held 13 = .ok (.bipush 12, 2) := by decide +kernel
theorem dX4_held_15 : decode cX4_held 15 = .ok (.if_icmp .ge 26, 3) := by decide +kernel
theorem dX4_held_18 : decode cX4_held 18 = .ok (.aload_n 0, 1) := by decide +kernel
theorem dX4_held_19 : decode cX4_held 19 = .ok (.getfield 18, 3) := by decide +kernel
theorem dX4_held_22 : decode cX4_held 22 = .ok (.iload_n 2, 1) := by decide +kernel
theorem dX4_held_23 : decode cX4_held 23 = .ok (.iaload, 1) := by decide +kernel
theorem dX4_held_24 : decode cX4_held 24 = .ok (.bipush (-3), 2) := by decide +kernel
theorem dX4_held_26 : decode cX4_held 26 = .ok (.if_icmp .ne 9, 3) := by decide +kernel
theorem dX4_held_29 : decode cX4_held 29 = .ok (.iload_n 1, 1) := by decide +kernel
theorem dX4_held_30 : decode cX4_held 30 = .ok (.iconst 1, 1) := by decide +kernel
theorem dX4_held_31 : decode cX4_held 31 = .ok (.iload_n 2, 1) := by decide +kernel
theorem dX4_held_32 : decode cX4_held 32 = .ok (.ishl, 1) := by decide +kernel
theorem dX4_held_33 : decode cX4_held 33 = .ok (.ior, 1) := by decide +kernel
theorem dX4_held_34 : decode cX4_held 34 = .ok (.istore_n 1, 1) := by decide +kernel
theorem dX4_held_35 : decode cX4_held 35 = .ok (.iinc 2 1, 3) := by decide +kernel
theorem dX4_held_38 : decode cX4_held 38 = .ok (.goto (-34), 3) := by decide +kernel
theorem dX4_held_41 : decode cX4_held 41 = .ok (.iload_n 1, 1) := by decide +kernel
theorem dX4_held_42 : decode cX4_held 42 = .ok (.ireturn, 1) := by decide +kernel
set_option maxRecDepth 20000 in
theorem ggX4_perform_X4_has : GoodIn wsX4_perform wsX4_has := goodIn_r _ [7, 8, 33, 34, 35, 36, 37, 38] (by decide +kernel) (by decide +kernel)
set_option maxRecDepth 20000 in
theorem gX4_perform_X4_has : GoodIn wsX4_perform (wsV RX4 46 RX4 yX4_has wsX4_has) := goodIn_app (goodIn_of _ (by decide +kernel)) ggX4_perform_X4_has
set_option maxRecDepth 20000 in
theorem ggX4_perform_X4_suited : GoodIn wsX4_perform wsX4_suited := goodIn_r _ [12, 13, 2, 14, 15, 16, 6, 17, 8, 18, 19, 20, 21, 1, 22, 23, 24, 25, 26, 27, 28, 33, 34, 35, 36, 37, 38] (by decide +kernel) (by decide +kernel)
set_option maxRecDepth 20000 in
theorem gX4_perform_X4_suited : GoodIn wsX4_perform (wsV RX4 50 RX4 yX4_suited wsX4_suited) := goodIn_app (goodIn_of _ (by decide +kernel)) ggX4_perform_X4_suited
set_option maxRecDepth 20000 in
theorem ggX4_perform_X5_contains : GoodIn wsX4_perform wsX5_contains := goodIn_r _ [24] (by decide +kernel) (by decide +kernel)
set_option maxRecDepth 20000 in
theorem gX4_perform_X5_contains_n35 : GoodIn wsX4_perform (wsX5_contains) := ggX4_perform_X5_contains
set_option maxRecDepth 20000 in
theorem ggX4_perform_X4_isWithin : GoodIn wsX4_perform wsX4_isWithin := goodIn_r _ [32, 18, 19, 20, 6, 21, 8, 1, 33, 34, 35, 36, 37, 38] (by decide +kernel) (by decide +kernel)
set_option maxRecDepth 20000 in
theorem gX4_perform_X4_isWithin : GoodIn wsX4_perform (wsV RX4 53 RX4 yX4_isWithin wsX4_isWithin) := goodIn_app (goodIn_of _ (by decide +kernel)) ggX4_perform_X4_isWithin
theorem dX4_perform_0 : decode cX4_perform 0 = .ok (.aload_n 0, 1) := by decide +kernel
theorem dX4_perform_1 : decode cX4_perform 1 = .ok (.iload_n 2, 1) := by decide +kernel
theorem dX4_perform_2 : decode cX4_perform 2 = .ok (.invokevirtual 46, 3) := by decide +kernel
theorem dX4_perform_5 : decode cX4_perform 5 = .ok (.ifCond .eq 15, 3) := by decide +kernel
theorem dX4_perform_8 : decode cX4_perform 8 = .ok (.aload_n 0, 1) := by decide +kernel
theorem dX4_perform_9 : decode cX4_perform 9 = .ok (.iload_n 1, 1) := by decide +kernel
theorem dX4_perform_10 : decode cX4_perform 10 = .ok (.invokevirtual 50, 3) := by decide +kernel
theorem dX4_perform_13 : decode cX4_perform 13 = .ok (.iload_n 2, 1) := by decide +kernel
theorem dX4_perform_14 : decode cX4_perform 14 = .ok (.invokestatic 35, 3) := by decide +kernel
theorem dX4_perform_17 : decode cX4_perform 17 = .ok (.ifCond .ne 5, 3) := by decide +kernel
theorem dX4_perform_20 : decode cX4_perform 20 = .ok (.iconst 0, 1) := by decide +kernel
theorem dX4_perform_21 : decode cX4_perform 21 = .ok (.ireturn, 1) := by decide +kernel
theorem dX4_perform_22 : decode cX4_perform 22 = .ok (.iload_n 1, 1) := by decide +kernel
theorem dX4_perform_23 : decode cX4_perform 23 = .ok (.tableswitch 116 0 4 #[33, 43, 53, 86, 100], 33) := by decide +kernel
theorem dX4_perform_56 : decode cX4_perform 56 = .ok (.aload_n 0, 1) := by decide +kernel
theorem dX4_perform_57 : decode cX4_perform 57 = .ok (.getfield 18, 3) := by decide +kernel
theorem dX4_perform_60 : decode cX4_perform 60 = .ok (.iload_n 2, 1) := by decide +kernel
theorem dX4_perform_61 : decode cX4_perform 61 = .ok (.bipush (-3), 2) := by decide +kernel
theorem dX4_perform_63 : decode cX4_perform 63 = .ok (.iastore, 1) := by decide +kernel
theorem dX4_perform_64 : decode cX4_perform 64 = .ok (.iconst 1, 1) := by decide +kernel
theorem dX4_perform_65 : decode cX4_perform 65 = .ok (.ireturn, 1) := by decide +kernel
theorem dX4_perform_66 : decode cX4_perform 66 = .ok (.aload_n 0, 1) := by decide +kernel
theorem dX4_perform_67 : decode cX4_perform 67 = .ok (.getfield 18, 3) := by decide +kernel
theorem dX4_perform_70 : decode cX4_perform 70 = .ok (.iload_n 2, 1) := by decide +kernel
theorem dX4_perform_71 : decode cX4_perform 71 = .ok (.bipush (-2), 2) := by decide +kernel
theorem dX4_perform_73 : decode cX4_perform 73 = .ok (.iastore, 1) := by decide +kernel
theorem dX4_perform_74 : decode cX4_perform 74 = .ok (.iconst 1, 1) := by decide +kernel
theorem dX4_perform_75 : decode cX4_perform 75 = .ok (.ireturn, 1) := by decide +kernel
theorem dX4_perform_76 : decode cX4_perform 76 = .ok (.aload_n 0, 1) := by decide +kernel
theorem dX4_perform_77 : decode cX4_perform 77 = .ok (.bipush 16, 2) := by decide +kernel
theorem dX4_perform_79 : decode cX4_perform 79 = .ok (.invokevirtual 50, 3) := by decide +kernel
theorem dX4_perform_82 : decode cX4_perform 82 = .ok (.iload_n 3, 1) := by decide +kernel
theorem dX4_perform_83 : decode cX4_perform 83 = .ok (.invokestatic 35, 3) := by decide +kernel
theorem dX4_perform_86 : decode cX4_perform 86 = .ok (.ifCond .eq 12, 3) := by decide +kernel
theorem dX4_perform_89 : decode cX4_perform 89 = .ok (.aload_n 0, 1) := by decide +kernel
theorem dX4_perform_90 : decode cX4_perform 90 = .ok (.iload_n 3, 1) := by decide +kernel
theorem dX4_perform_91 : decode cX4_perform 91 = .ok (.iload_n 2, 1) := by decide +kernel
theorem dX4_perform_92 : decode cX4_perform 92 = .ok (.invokevirtual 53, 3) := by decide +kernel
theorem dX4_perform_95 : decode cX4_perform 95 = .ok (.ifCond .eq 5, 3) := by decide +kernel
theorem dX4_perform_98 : decode cX4_perform 98 = .ok (.iconst 0, 1) := by decide +kernel
theorem dX4_perform_99 : decode cX4_perform 99 = .ok (.ireturn, 1) := by decide +kernel
theorem dX4_perform_100 : decode cX4_perform 100 = .ok (.aload_n 0, 1) := by decide +kernel
theorem dX4_perform_101 : decode cX4_perform 101 = .ok (.getfield 18, 3) := by decide +kernel
theorem dX4_perform_104 : decode cX4_perform 104 = .ok (.iload_n 2, 1) := by decide +kernel
theorem dX4_perform_105 : decode cX4_perform 105 = .ok (.iload_n 3, 1) := by decide +kernel
theorem dX4_perform_106 : decode cX4_perform 106 = .ok (.iastore, 1) := by decide +kernel
theorem dX4_perform_107 : decode cX4_perform 107 = .ok (.iconst 1, 1) := by decide +kernel
theorem dX4_perform_108 : decode cX4_perform 108 = .ok (.ireturn, 1) := by decide +kernel
theorem dX4_perform_109 : decode cX4_perform 109 = .ok (.aload_n 0, 1) := by decide +kernel
theorem dX4_perform_110 : decode cX4_perform 110 = .ok (.dup, 1) := by decide +kernel
theorem dX4_perform_111 : decode cX4_perform 111 = .ok (.getfield 28, 3) := by decide +kernel
theorem dX4_perform_114 : decode cX4_perform 114 = .ok (.iconst 1, 1) := by decide +kernel
theorem dX4_perform_115 : decode cX4_perform 115 = .ok (.iload_n 2, 1) := by decide +kernel
theorem dX4_perform_116 : decode cX4_perform 116 = .ok (.ishl, 1) := by decide +kernel
theorem dX4_perform_117 : decode cX4_perform 117 = .ok (.ior, 1) := by decide +kernel
theorem dX4_perform_118 : decode cX4_perform 118 = .ok (.putfield 28, 3) := by decide +kernel
theorem dX4_perform_121 : decode cX4_perform 121 = .ok (.iconst 1, 1) := by decide +kernel
theorem dX4_perform_122 : decode cX4_perform 122 = .ok (.ireturn, 1) := by decide +kernel
theorem dX4_perform_123 : decode cX4_perform 123 = .ok (.aload_n 0, 1) := by decide +kernel
theorem dX4_perform_124 : decode cX4_perform 124 = .ok (.dup, 1) := by decide +kernel
theorem dX4_perform_125 : decode cX4_perform 125 = .ok (.getfield 28, 3) := by decide +kernel
theorem dX4_perform_128 : decode cX4_perform 128 = .ok (.iconst 1, 1) := by decide +kernel
theorem dX4_perform_129 : decode cX4_perform 129 = .ok (.iload_n 2, 1) := by decide +kernel
theorem dX4_perform_130 : decode cX4_perform 130 = .ok (.ishl, 1) := by decide +kernel
theorem dX4_perform_131 : decode cX4_perform 131 = .ok (.iconst (-1), 1) := by decide +kernel
theorem dX4_perform_132 : decode cX4_perform 132 = .ok (.ixor, 1) := by decide +kernel
theorem dX4_perform_133 : decode cX4_perform 133 = .ok (.iand, 1) := by decide +kernel
theorem dX4_perform_134 : decode cX4_perform 134 = .ok (.putfield 28, 3) := by decide +kernel
theorem dX4_perform_137 : decode cX4_perform 137 = .ok (.iconst 1, 1) := by decide +kernel
theorem dX4_perform_138 : decode cX4_perform 138 = .ok (.ireturn, 1) := by decide +kernel
theorem dX4_perform_139 : decode cX4_perform 139 = .ok (.iconst 0, 1) := by decide +kernel
theorem dX4_perform_140 : decode cX4_perform 140 = .ok (.ireturn, 1) := by decide +kernel
set_option maxRecDepth 20000 in
theorem ggX4_isWithin_X4_holderOf : GoodIn wsX4_isWithin wsX4_holderOf := goodIn_r _ [5, 6, 7, 8, 9, 10, 11, 12, 13] (by decide +kernel) (by decide +kernel)
set_option maxRecDepth 20000 in
theorem gX4_isWithin_X4_holderOf : GoodIn wsX4_isWithin (wsV RX4 31 RX4 yX4_holderOf wsX4_holderOf) := goodIn_app (goodIn_of _ (by decide +kernel)) ggX4_isWithin_X4_holderOf
theorem dX4_isWithin_0 : decode cX4_isWithin 0 = .ok (.iload_n 1, 1) := by decide +kernel
theorem dX4_isWithin_1 : decode cX4_isWithin 1 = .ok (.istore_n 3, 1) := by decide +kernel
theorem dX4_isWithin_2 : decode cX4_isWithin 2 = .ok (.iconst 0, 1) := by decide +kernel
theorem dX4_isWithin_3 : decode cX4_isWithin 3 = .ok (.istore 4, 2) := by decide +kernel
theorem dX4_isWithin_5 : decode cX4_isWithin 5 = .ok (.iload 4, 2) := by decide +kernel
theorem dX4_isWithin_7 : decode cX4_isWithin 7 = .ok (.bipush 12, 2) := by decide +kernel
theorem dX4_isWithin_9 : decode cX4_isWithin 9 = .ok (.if_icmp .ge 24, 3) := by decide +kernel
theorem dX4_isWithin_12 : decode cX4_isWithin 12 = .ok (.iload_n 3, 1) := by decide +kernel
theorem dX4_isWithin_13 : decode cX4_isWithin 13 = .ok (.ifCond .lt 20, 3) := by decide +kernel
theorem dX4_isWithin_16 : decode cX4_isWithin 16 = .ok (.iload_n 3, 1) := by decide +kernel
theorem dX4_isWithin_17 : decode cX4_isWithin 17 = .ok (.iload_n 2, 1) := by decide +kernel
theorem dX4_isWithin_18 : decode cX4_isWithin 18 = .ok (.if_icmp .eq 15, 3) := by decide +kernel
theorem dX4_isWithin_21 : decode cX4_isWithin 21 = .ok (.aload_n 0, 1) := by decide +kernel
theorem dX4_isWithin_22 : decode cX4_isWithin 22 = .ok (.iload_n 3, 1) := by decide +kernel
theorem dX4_isWithin_23 : decode cX4_isWithin 23 = .ok (.invokevirtual 31, 3) := by decide +kernel
theorem dX4_isWithin_26 : decode cX4_isWithin 26 = .ok (.istore_n 3, 1) := by decide +kernel
theorem dX4_isWithin_27 : decode cX4_isWithin 27 = .ok (.iinc 4 1, 3) := by decide +kernel
theorem dX4_isWithin_30 : decode cX4_isWithin 30 = .ok (.goto (-25), 3) := by decide +kernel
theorem dX4_isWithin_33 : decode cX4_isWithin 33 = .ok (.iload_n 3, 1) := by decide +kernel
theorem dX4_isWithin_34 : decode cX4_isWithin 34 = .ok (.iload_n 2, 1) := by decide +kernel
theorem dX4_isWithin_35 : decode cX4_isWithin 35 = .ok (.if_icmp .ne 7, 3) := by decide +kernel
theorem dX4_isWithin_38 : decode cX4_isWithin 38 = .ok (.iconst 1, 1) := by decide +kernel
theorem dX4_isWithin_39 : decode cX4_isWithin 39 = .ok (.goto 4, 3) := by decide +kernel
theorem dX4_isWithin_42 : decode cX4_isWithin 42 = .ok (.iconst 0, 1) := by decide +kernel
theorem dX4_isWithin_43 : decode cX4_isWithin 43 = .ok (.ireturn, 1) := by decide +kernel
set_option maxRecDepth 20000 in
theorem ggX5_init_X4_init : GoodIn wsX5_init wsX4_init := goodIn_r _ [31, 32, 2, 3, 33, 34, 35, 36, 37, 38, 39, 87, 88, 89, 90, 91, 92] (by decide +kernel) (by decide +kernel)
set_option maxRecDepth 20000 in
theorem gX5_init_X4_init : GoodIn wsX5_init (wsX4_init) := ggX5_init_X4_init
set_option maxRecDepth 20000 in
theorem ggX5_init_X3_init : GoodIn wsX5_init wsX3_init := goodIn_r _ [42, 43, 2, 3, 33, 44, 45, 46, 47, 48, 103, 104, 105, 106, 107] (by decide +kernel) (by decide +kernel)
set_option maxRecDepth 20000 in
theorem gX5_init_X3_init : GoodIn wsX5_init (wsX3_init) := ggX5_init_X3_init
set_option maxRecDepth 20000 in
theorem ggX5_init_X2_init : GoodIn wsX5_init wsX2_init := goodIn_r _ [51, 52, 2, 3, 53, 54, 33, 55, 56, 57, 58, 59, 60, 108, 109, 110, 111, 112, 113, 114, 115] (by decide +kernel) (by decide +kernel)
set_option maxRecDepth 20000 in
theorem gX5_init_X2_init : GoodIn wsX5_init (wsX2_init) := ggX5_init_X2_init
set_option maxRecDepth 20000 in
theorem ggX5_init_X1_init : GoodIn wsX5_init wsX1_init := goodIn_r _ [63, 64, 2, 3, 65, 66, 67, 68, 69, 116, 117, 118, 119, 120] (by decide +kernel) (by decide +kernel)
set_option maxRecDepth 20000 in
theorem gX5_init_X1_init : GoodIn wsX5_init (wsX1_init) := ggX5_init_X1_init
set_option maxRecDepth 20000 in
theorem ggX5_init_X0_init : GoodIn wsX5_init wsX0_init := goodIn_r _ [72, 73, 2, 3, 74, 75, 76, 77, 78, 79, 22, 80, 81, 82, 83, 84, 85, 86, 121, 122, 123, 124, 125, 126, 127, 128, 129] (by decide +kernel) (by decide +kernel)
set_option maxRecDepth 20000 in
theorem gX5_init_X0_init : GoodIn wsX5_init (wsX0_init) := ggX5_init_X0_init
theorem dX5_init_0 : decode cX5_init 0 = .ok (.aload_n 0, 1) := by decide +kernel
theorem dX5_init_1 : decode cX5_init 1 = .ok (.invokespecial 3, 3) := by decide +kernel
theorem dX5_init_4 : decode cX5_init 4 = .ok (.aload_n 0, 1) := by decide +kernel
theorem dX5_init_5 : decode cX5_init 5 = .ok (.new 9, 3) := by decide +kernel
theorem dX5_init_8 : decode cX5_init 8 = .ok (.dup, 1) := by decide +kernel
theorem dX5_init_9 : decode cX5_init 9 = .ok (.invokespecial 11, 3) := by decide +kernel
theorem dX5_init_12 : decode cX5_init 12 = .ok (.putfield 12, 3) := by decide +kernel
theorem dX5_init_15 : decode cX5_init 15 = .ok (.aload_n 0, 1) := by decide +kernel
theorem dX5_init_16 : decode cX5_init 16 = .ok (.new 16, 3) := by decide +kernel
theorem dX5_init_19 : decode cX5_init 19 = .ok (.dup, 1) := by decide +kernel
theorem dX5_init_20 : decode cX5_init 20 = .ok (.invokespecial 18, 3) := by decide +kernel
theorem dX5_init_23 : decode cX5_init 23 = .ok (.putfield 19, 3) := by decide +kernel
theorem dX5_init_26 : decode cX5_init 26 = .ok (.aload_n 0, 1) := by decide +kernel
theorem dX5_init_27 : decode cX5_init 27 = .ok (.new 23, 3) := by decide +kernel
theorem dX5_init_30 : decode cX5_init 30 = .ok (.dup, 1) := by decide +kernel
theorem dX5_init_31 : decode cX5_init 31 = .ok (.invokespecial 25, 3) := by decide +kernel
theorem dX5_init_34 : decode cX5_init 34 = .ok (.putfield 26, 3) := by decide +kernel
theorem dX5_init_37 : decode cX5_init 37 = .ok (.aload_n 0, 1) := by decide +kernel
theorem dX5_init_38 : decode cX5_init 38 = .ok (.new 30, 3) := by decide +kernel
theorem dX5_init_41 : decode cX5_init 41 = .ok (.dup, 1) := by decide +kernel
theorem dX5_init_42 : decode cX5_init 42 = .ok (.invokespecial 32, 3) := by decide +kernel
theorem dX5_init_45 : decode cX5_init 45 = .ok (.putfield 33, 3) := by decide +kernel
theorem dX5_init_48 : decode cX5_init 48 = .ok (.aload_n 0, 1) := by decide +kernel
theorem dX5_init_49 : decode cX5_init 49 = .ok (.new 37, 3) := by decide +kernel
theorem dX5_init_52 : decode cX5_init 52 = .ok (.dup, 1) := by decide +kernel
theorem dX5_init_53 : decode cX5_init 53 = .ok (.aload_n 0, 1) := by decide +kernel
theorem dX5_init_54 : decode cX5_init 54 = .ok (.getfield 12, 3) := by decide +kernel
theorem dX5_init_57 : decode cX5_init 57 = .ok (.aload_n 0, 1) := by decide +kernel
theorem dX5_init_58 : decode cX5_init 58 = .ok (.getfield 26, 3) := by decide +kernel
theorem dX5_init_61 : decode cX5_init 61 = .ok (.aload_n 0, 1) := by decide +kernel
theorem dX5_init_62 : decode cX5_init 62 = .ok (.getfield 33, 3) := by decide +kernel
theorem dX5_init_65 : decode cX5_init 65 = .ok (.invokespecial 39, 3) := by decide +kernel
theorem dX5_init_68 : decode cX5_init 68 = .ok (.putfield 42, 3) := by decide +kernel
theorem dX5_init_71 : decode cX5_init 71 = .ok (.aload_n 0, 1) := by decide +kernel
theorem dX5_init_72 : decode cX5_init 72 = .ok (.iconst (-1), 1) := by decide +kernel
theorem dX5_init_73 : decode cX5_init 73 = .ok (.putfield 46, 3) := by decide +kernel
theorem dX5_init_76 : decode cX5_init 76 = .ok (.aload_n 0, 1) := by decide +kernel
theorem dX5_init_77 : decode cX5_init 77 = .ok (.iconst (-1), 1) := by decide +kernel
theorem dX5_init_78 : decode cX5_init 78 = .ok (.putfield 50, 3) := by decide +kernel
theorem dX5_init_81 : decode cX5_init 81 = .ok (.aload_n 0, 1) := by decide +kernel
theorem dX5_init_82 : decode cX5_init 82 = .ok (.iconst 0, 1) := by decide +kernel
theorem dX5_init_83 : decode cX5_init 83 = .ok (.putfield 53, 3) := by decide +kernel
theorem dX5_init_86 : decode cX5_init 86 = .ok (.aload_n 0, 1) := by decide +kernel
theorem dX5_init_87 : decode cX5_init 87 = .ok (.iconst (-1), 1) := by decide +kernel
theorem dX5_init_88 : decode cX5_init 88 = .ok (.putfield 56, 3) := by decide +kernel
theorem dX5_init_91 : decode cX5_init 91 = .ok (.aload_n 0, 1) := by decide +kernel
theorem dX5_init_92 : decode cX5_init 92 = .ok (.iconst 0, 1) := by decide +kernel
theorem dX5_init_93 : decode cX5_init 93 = .ok (.putfield 59, 3) := by decide +kernel
theorem dX5_init_96 : decode cX5_init 96 = .ok (.return_, 1) := by decide +kernel
set_option maxRecDepth 20000 in
theorem ggX5_thing_X4_add : GoodIn wsX5_thing wsX4_add := goodIn_r _ [10, 11, 12, 13, 14, 15, 26, 27, 28, 29, 30, 31] (by decide +kernel) (by decide +kernel)
set_option maxRecDepth 20000 in
theorem gX5_thing_X4_add : GoodIn wsX5_thing (wsV RX5 79 RX4 yX4_add wsX4_add) := goodIn_app (goodIn_of _ (by decide +kernel)) ggX5_thing_X4_add
theorem dX5_thing_0 : decode cX5_thing 0 = .ok (.iload_n 1, 1) := by decide +kernel
theorem dX5_thing_1 : decode cX5_thing 1 = .ok (.ifCond .lt 9, 3) := by decide +kernel
theorem dX5_thing_4 : decode cX5_thing 4 = .ok (.iload_n 1, 1) := by decide +kernel
theorem dX5_thing_5 : decode cX5_thing 5 = .ok (.bipush 8, 2) := by decide +kernel
theorem dX5_thing_7 : decode cX5_thing 7 = .ok (.if_icmp .lt 13, 3) := by decide +kernel
theorem dX5_thing_10 : decode cX5_thing 10 = .ok (.new 62, 3) := by decide +kernel
theorem dX5_thing_13 : decode cX5_thing 13 = .ok (.dup, 1) := by decide +kernel
theorem dX5_thing_14 : decode cX5_thing 14 = .ok (.ldc 64, 2) := by decide +kernel
theorem dX5_thing_16 : decode cX5_thing 16 = .ok (.invokespecial 66, 3) := by decide +kernel
theorem dX5_thing_19 : decode cX5_thing 19 = .ok (.athrow, 1) := by decide +kernel
theorem dX5_thing_20 : decode cX5_thing 20 = .ok (.iload_n 2, 1) := by decide +kernel
theorem dX5_thing_21 : decode cX5_thing 21 = .ok (.ifCond .lt 9, 3) := by decide +kernel
theorem dX5_thing_24 : decode cX5_thing 24 = .ok (.iload_n 2, 1) := by decide +kernel
theorem dX5_thing_25 : decode cX5_thing 25 = .ok (.bipush 64, 2) := by decide +kernel
theorem dX5_thing_27 : decode cX5_thing 27 = .ok (.if_icmp .lt 13, 3) := by decide +kernel
theorem dX5_thing_30 : decode cX5_thing 30 = .ok (.new 62, 3) := by decide +kernel
theorem dX5_thing_33 : decode cX5_thing 33 = .ok (.dup, 1) := by decide +kernel
theorem dX5_thing_34 : decode cX5_thing 34 = .ok (.ldc 69, 2) := by decide +kernel
theorem dX5_thing_36 : decode cX5_thing 36 = .ok (.invokespecial 66, 3) := by decide +kernel
theorem dX5_thing_39 : decode cX5_thing 39 = .ok (.athrow, 1) := by decide +kernel
theorem dX5_thing_40 : decode cX5_thing 40 = .ok (.aload_n 0, 1) := by decide +kernel
theorem dX5_thing_41 : decode cX5_thing 41 = .ok (.getfield 12, 3) := by decide +kernel
theorem dX5_thing_44 : decode cX5_thing 44 = .ok (.getfield 71, 3) := by decide +kernel
theorem dX5_thing_47 : decode cX5_thing 47 = .ok (.bipush 12, 2) := by decide +kernel
theorem dX5_thing_49 : decode cX5_thing 49 = .ok (.if_icmp .lt 13, 3) := by decide +kernel
theorem dX5_thing_52 : decode cX5_thing 52 = .ok (.new 74, 3) := by decide +kernel
theorem dX5_thing_55 : decode cX5_thing 55 = .ok (.dup, 1) := by decide +kernel
theorem dX5_thing_56 : decode cX5_thing 56 = .ok (.ldc 76, 2) := by decide +kernel
theorem dX5_thing_58 : decode cX5_thing 58 = .ok (.invokespecial 78, 3) := by decide +kernel
theorem dX5_thing_61 : decode cX5_thing 61 = .ok (.athrow, 1) := by decide +kernel
theorem dX5_thing_62 : decode cX5_thing 62 = .ok (.aload_n 0, 1) := by decide +kernel
theorem dX5_thing_63 : decode cX5_thing 63 = .ok (.getfield 12, 3) := by decide +kernel
theorem dX5_thing_66 : decode cX5_thing 66 = .ok (.iload_n 1, 1) := by decide +kernel
theorem dX5_thing_67 : decode cX5_thing 67 = .ok (.iload_n 2, 1) := by decide +kernel
theorem dX5_thing_68 : decode cX5_thing 68 = .ok (.iload_n 3, 1) := by decide +kernel
theorem dX5_thing_69 : decode cX5_thing 69 = .ok (.invokevirtual 79, 3) := by decide +kernel
theorem dX5_thing_72 : decode cX5_thing 72 = .ok (.ireturn, 1) := by decide +kernel
set_option maxRecDepth 20000 in
theorem ggX5_placeOf_X4_has : GoodIn wsX5_placeOf wsX4_has := goodIn_r _ [8, 9, 25, 26, 27, 28, 29, 30] (by decide +kernel) (by decide +kernel)
set_option maxRecDepth 20000 in
theorem gX5_placeOf_X4_has : GoodIn wsX5_placeOf (wsV RX5 83 RX4 yX4_has wsX4_has) := goodIn_app (goodIn_of _ (by decide +kernel)) ggX5_placeOf_X4_has
set_option maxRecDepth 20000 in
theorem ggX5_placeOf_X4_holderOf : GoodIn wsX5_placeOf wsX4_holderOf := goodIn_r _ [13, 9, 14, 25, 26, 27, 28, 29, 30] (by decide +kernel) (by decide +kernel)
set_option maxRecDepth 20000 in
theorem gX5_placeOf_X4_holderOf : GoodIn wsX5_placeOf (wsV RX5 92 RX4 yX4_holderOf wsX4_holderOf) := goodIn_app (goodIn_of _ (by decide +kernel)) ggX5_placeOf_X4_holderOf
theorem dX5_placeOf_0 : decode cX5_placeOf 0 = .ok (.aload_n 0, 1) := by decide +kernel
theorem dX5_placeOf_1 : decode cX5_placeOf 1 = .ok (.getfield 12, 3) := by decide +kernel
theorem dX5_placeOf_4 : decode cX5_placeOf 4 = .ok (.iload_n 1, 1) := by decide +kernel
theorem dX5_placeOf_5 : decode cX5_placeOf 5 = .ok (.invokevirtual 83, 3) := by decide +kernel
theorem dX5_placeOf_8 : decode cX5_placeOf 8 = .ok (.ifCond .ne 13, 3) := by decide +kernel
theorem dX5_placeOf_11 : decode cX5_placeOf 11 = .ok (.new 87, 3) := by decide +kernel
theorem dX5_placeOf_14 : decode cX5_placeOf 14 = .ok (.dup, 1) := by decide +kernel
theorem dX5_placeOf_15 : decode cX5_placeOf 15 = .ok (.ldc 89, 2) := by decide +kernel
theorem dX5_placeOf_17 : decode cX5_placeOf 17 = .ok (.invokespecial 91, 3) := by decide +kernel
theorem dX5_placeOf_20 : decode cX5_placeOf 20 = .ok (.athrow, 1) := by decide +kernel
theorem dX5_placeOf_21 : decode cX5_placeOf 21 = .ok (.aload_n 0, 1) := by decide +kernel
theorem dX5_placeOf_22 : decode cX5_placeOf 22 = .ok (.getfield 12, 3) := by decide +kernel
theorem dX5_placeOf_25 : decode cX5_placeOf 25 = .ok (.iload_n 1, 1) := by decide +kernel
theorem dX5_placeOf_26 : decode cX5_placeOf 26 = .ok (.invokevirtual 92, 3) := by decide +kernel
theorem dX5_placeOf_29 : decode cX5_placeOf 29 = .ok (.ireturn, 1) := by decide +kernel
set_option maxRecDepth 20000 in
theorem ggX5_isOpen_X4_has : GoodIn wsX5_isOpen wsX4_has := goodIn_r _ [8, 9, 24, 25, 26, 27, 28, 29] (by decide +kernel) (by decide +kernel)
set_option maxRecDepth 20000 in
theorem gX5_isOpen_X4_has : GoodIn wsX5_isOpen (wsV RX5 83 RX4 yX4_has wsX4_has) := goodIn_app (goodIn_of _ (by decide +kernel)) ggX5_isOpen_X4_has
set_option maxRecDepth 20000 in
theorem ggX5_isOpen_X5_contains : GoodIn wsX5_isOpen wsX5_contains := goodIn_r _ [13] (by decide +kernel) (by decide +kernel)
set_option maxRecDepth 20000 in
theorem gX5_isOpen_X5_contains : GoodIn wsX5_isOpen (va_wsS RX5 99 yX5_contains wsX5_contains) := goodIn_app (goodIn_of _ (by decide +kernel)) ggX5_isOpen_X5_contains
theorem dX5_isOpen_0 : decode cX5_isOpen 0 = .ok (.aload_n 0, 1) := by decide +kernel
theorem dX5_isOpen_1 : decode cX5_isOpen 1 = .ok (.getfield 12, 3) := by decide +kernel
theorem dX5_isOpen_4 : decode cX5_isOpen 4 = .ok (.iload_n 1, 1) := by decide +kernel
theorem dX5_isOpen_5 : decode cX5_isOpen 5 = .ok (.invokevirtual 83, 3) := by decide +kernel
theorem dX5_isOpen_8 : decode cX5_isOpen 8 = .ok (.ifCond .ne 13, 3) := by decide +kernel
theorem dX5_isOpen_11 : decode cX5_isOpen 11 = .ok (.new 87, 3) := by decide +kernel
theorem dX5_isOpen_14 : decode cX5_isOpen 14 = .ok (.dup, 1) := by decide +kernel
theorem dX5_isOpen_15 : decode cX5_isOpen 15 = .ok (.ldc 89, 2) := by decide +kernel
theorem dX5_isOpen_17 : decode cX5_isOpen 17 = .ok (.invokespecial 91, 3) := by decide +kernel
theorem dX5_isOpen_20 : decode cX5_isOpen 20 = .ok (.athrow, 1) := by decide +kernel
theorem dX5_isOpen_21 : decode cX5_isOpen 21 = .ok (.aload_n 0, 1) := by decide +kernel
theorem dX5_isOpen_22 : decode cX5_isOpen 22 = .ok (.getfield 12, 3) := by decide +kernel
theorem dX5_isOpen_25 : decode cX5_isOpen 25 = .ok (.getfield 96, 3) := by decide +kernel
theorem dX5_isOpen_28 : decode cX5_isOpen 28 = .ok (.iload_n 1, 1) := by decide +kernel
theorem dX5_isOpen_29 : decode cX5_isOpen 29 = .ok (.invokestatic 99, 3) := by decide +kernel
theorem dX5_isOpen_32 : decode cX5_isOpen 32 = .ok (.ireturn, 1) := by decide +kernel
set_option maxRecDepth 20000 in
theorem ggX5_inReach_X4_reachable : GoodIn wsX5_inReach wsX4_reachable := goodIn_r _ [6, 7, 8, 9, 10, 11, 5, 12, 13, 14, 15, 16, 27, 28, 29, 30, 31, 32] (by decide +kernel) (by decide +kernel)
set_option maxRecDepth 20000 in
theorem gX5_inReach_X4_reachable : GoodIn wsX5_inReach (wsV RX5 103 RX4 yX4_reachable wsX4_reachable) := goodIn_app (goodIn_of _ (by decide +kernel)) ggX5_inReach_X4_reachable
theorem dX5_inReach_0 : decode cX5_inReach 0 = .ok (.aload_n 0, 1) := by decide +kernel
theorem dX5_inReach_1 : decode cX5_inReach 1 = .ok (.getfield 12, 3) := by decide +kernel
theorem dX5_inReach_4 : decode cX5_inReach 4 = .ok (.invokevirtual 103, 3) := by decide +kernel
theorem dX5_inReach_7 : decode cX5_inReach 7 = .ok (.ireturn, 1) := by decide +kernel
set_option maxRecDepth 20000 in
theorem ggX5_word_X5_isWord : GoodIn wsX5_word wsX5_isWord := goodIn_r _ [9, 10, 11, 8, 12, 13, 14, 15] (by decide +kernel) (by decide +kernel)
set_option maxRecDepth 20000 in
theorem gX5_word_X5_isWord : GoodIn wsX5_word (va_wsS RX5 107 yX5_isWord wsX5_isWord) := goodIn_app (goodIn_of _ (by decide +kernel)) ggX5_word_X5_isWord
set_option maxRecDepth 20000 in
theorem ggX5_word_X3_add : GoodIn wsX5_word wsX3_add := goodIn_r _ [20, 21, 22, 33, 34, 35, 36, 37] (by decide +kernel) (by decide +kernel)
set_option maxRecDepth 20000 in
theorem gX5_word_X3_add : GoodIn wsX5_word (wsV RX5 115 RX3 yX3_add wsX3_add) := goodIn_app (goodIn_of _ (by decide +kernel)) ggX5_word_X3_add
theorem dX5_word_0 : decode cX5_word 0 = .ok (.iload_n 1, 1) := by decide +kernel
theorem dX5_word_1 : decode cX5_word 1 = .ok (.invokestatic 107, 3) := by decide +kernel
theorem dX5_word_4 : decode cX5_word 4 = .ok (.ifCond .ne 13, 3) := by decide +kernel
theorem dX5_word_7 : decode cX5_word 7 = .ok (.new 62, 3) := by decide +kernel
theorem dX5_word_10 : decode cX5_word 10 = .ok (.dup, 1) := by decide +kernel
theorem dX5_word_11 : decode cX5_word 11 = .ok (.ldc 110, 2) := by decide +kernel
theorem dX5_word_13 : decode cX5_word 13 = .ok (.invokespecial 66, 3) := by decide +kernel
theorem dX5_word_16 : decode cX5_word 16 = .ok (.athrow, 1) := by decide +kernel
theorem dX5_word_17 : decode cX5_word 17 = .ok (.aload_n 0, 1) := by decide +kernel
theorem dX5_word_18 : decode cX5_word 18 = .ok (.getfield 19, 3) := by decide +kernel
theorem dX5_word_21 : decode cX5_word 21 = .ok (.getfield 112, 3) := by decide +kernel
theorem dX5_word_24 : decode cX5_word 24 = .ok (.bipush 24, 2) := by decide +kernel
theorem dX5_word_26 : decode cX5_word 26 = .ok (.if_icmp .lt 13, 3) := by decide +kernel
theorem dX5_word_29 : decode cX5_word 29 = .ok (.new 74, 3) := by decide +kernel
theorem dX5_word_32 : decode cX5_word 32 = .ok (.dup, 1) := by decide +kernel
theorem dX5_word_33 : decode cX5_word 33 = .ok (.ldc 113, 2) := by decide +kernel
theorem dX5_word_35 : decode cX5_word 35 = .ok (.invokespecial 78, 3) := by decide +kernel
theorem dX5_word_38 : decode cX5_word 38 = .ok (.athrow, 1) := by decide +kernel
theorem dX5_word_39 : decode cX5_word 39 = .ok (.aload_n 0, 1) := by decide +kernel
theorem dX5_word_40 : decode cX5_word 40 = .ok (.getfield 19, 3) := by decide +kernel
theorem dX5_word_43 : decode cX5_word 43 = .ok (.iload_n 1, 1) := by decide +kernel
theorem dX5_word_44 : decode cX5_word 44 = .ok (.invokevirtual 115, 3) := by decide +kernel
theorem dX5_word_47 : decode cX5_word 47 = .ok (.aload_n 0, 1) := by decide +kernel
theorem dX5_word_48 : decode cX5_word 48 = .ok (.getfield 19, 3) := by decide +kernel
theorem dX5_word_51 : decode cX5_word 51 = .ok (.getfield 112, 3) := by decide +kernel
theorem dX5_word_54 : decode cX5_word 54 = .ok (.ireturn, 1) := by decide +kernel
set_option maxRecDepth 20000 in
theorem ggX5_back_X3_removeLast : GoodIn wsX5_back wsX3_removeLast := goodIn_r _ [8, 9, 10, 21, 22, 23, 24, 25] (by decide +kernel) (by decide +kernel)
set_option maxRecDepth 20000 in
theorem gX5_back_X3_removeLast : GoodIn wsX5_back (wsV RX5 120 RX3 yX3_removeLast wsX3_removeLast) := goodIn_app (goodIn_of _ (by decide +kernel)) ggX5_back_X3_removeLast
theorem dX5_back_0 : decode cX5_back 0 = .ok (.aload_n 0, 1) := by decide +kernel
theorem dX5_back_1 : decode cX5_back 1 = .ok (.getfield 19, 3) := by decide +kernel
theorem dX5_back_4 : decode cX5_back 4 = .ok (.getfield 112, 3) := by decide +kernel
theorem dX5_back_7 : decode cX5_back 7 = .ok (.ifCond .gt 13, 3) := by decide +kernel
theorem dX5_back_10 : decode cX5_back 10 = .ok (.new 74, 3) := by decide +kernel
theorem dX5_back_13 : decode cX5_back 13 = .ok (.dup, 1) := by decide +kernel
theorem dX5_back_14 : decode cX5_back 14 = .ok (.ldc 118, 2) := by decide +kernel
theorem dX5_back_16 : decode cX5_back 16 = .ok (.invokespecial 78, 3) := by decide +kernel
theorem dX5_back_19 : decode cX5_back 19 = .ok (.athrow, 1) := by decide +kernel
theorem dX5_back_20 : decode cX5_back 20 = .ok (.aload_n 0, 1) := by decide +kernel
theorem dX5_back_21 : decode cX5_back 21 = .ok (.getfield 19, 3) := by decide +kernel
theorem dX5_back_24 : decode cX5_back 24 = .ok (.invokevirtual 120, 3) := by decide +kernel
theorem dX5_back_27 : decode cX5_back 27 = .ok (.ireturn, 1) := by decide +kernel
set_option maxRecDepth 20000 in
theorem ggX5_say_X3_peek : GoodIn wsX5_say wsX3_peek := goodIn_r _ [10, 11, 12, 13, 244, 245, 246, 247, 248] (by decide +kernel) (by decide +kernel)
set_option maxRecDepth 20000 in
theorem gX5_say_X3_peek : GoodIn wsX5_say (wsV RX5 123 RX3 yX3_peek wsX3_peek) := goodIn_app (goodIn_of _ (by decide +kernel)) ggX5_say_X3_peek
set_option maxRecDepth 20000 in
theorem ggX5_say_X5_isVerb : GoodIn wsX5_say wsX5_isVerb := goodIn_r _ [17] (by decide +kernel) (by decide +kernel)
set_option maxRecDepth 20000 in
theorem gX5_say_X5_isVerb : GoodIn wsX5_say (va_wsS RX5 126 yX5_isVerb wsX5_isVerb) := goodIn_app (goodIn_of _ (by decide +kernel)) ggX5_say_X5_isVerb
set_option maxRecDepth 20000 in
theorem ggX5_say_X5_hearOrder : GoodIn wsX5_say wsX5_hearOrder := goodIn_r _ [21, 22, 2, 1, 23, 24, 25, 16, 26, 4, 27, 28, 29, 30, 31, 32, 33, 34, 35, 7, 8, 9, 10, 11, 12, 13, 36, 37, 38, 39, 40, 41, 42, 43, 44, 45, 46, 47, 48, 49, 50, 51, 52, 53, 54, 55, 56, 57, 58, 59, 60, 61, 62, 63, 64, 65, 66, 67, 68, 69, 70, 71, 72, 73, 74, 75, 76, 77, 78, 79, 80, 81, 82, 83, 84, 85, 86, 87, 88, 89, 90, 91, 92, 93, 94, 95, 96, 97, 98, 99, 100, 101, 102, 103, 104, 105, 106, 107, 108, 109, 110, 111, 112, 113, 114, 115, 116, 117, 118, 119, 120, 121, 122, 123, 124, 125, 126, 127, 128, 129, 130, 131, 132, 133, 134, 135, 136, 137, 138, 139, 140, 141, 142, 143, 144, 145, 146, 147, 148, 149, 150, 151, 152, 153, 154, 155, 156, 157, 158, 159, 160, 161, 162, 163, 164, 165, 166, 167, 168, 169, 170, 171, 172, 173, 174, 175, 176, 177, 178, 179, 180, 181, 182, 183, 184, 185, 186, 187, 188, 189, 190, 191, 192, 193, 194, 195, 196, 197, 198, 199, 200, 201, 202, 203, 204, 205, 206, 207, 208, 209, 210, 211, 234, 235, 236, 237, 238, 239, 240, 241, 242, 243, 244, 245, 246, 247, 248, 249, 250, 251, 252, 253, 254, 255, 256, 257, 258, 259, 260, 261, 262, 263, 264, 265, 266, 267, 268, 269, 270, 271, 272, 273, 274, 275, 276] (by decide +kernel) (by decide +kernel)
set_option maxRecDepth 20000 in
theorem gX5_say_X5_hearOrder : GoodIn wsX5_say (wsV RX5 129 RX5 yX5_hearOrder wsX5_hearOrder) := goodIn_app (goodIn_of _ (by decide +kernel)) ggX5_say_X5_hearOrder
set_option maxRecDepth 20000 in
theorem ggX5_say_X5_hearAnswer : GoodIn wsX5_say wsX5_hearAnswer := goodIn_r _ [215, 2, 1, 185, 4, 22, 27, 216, 217, 218, 9, 219, 75, 220, 37, 38, 39, 11, 40, 7, 8, 10, 12, 13, 221, 72, 73, 74, 76, 77, 16, 78, 222, 84, 85, 86, 223, 88, 89, 90, 224, 157, 158, 109, 159, 111, 160, 161, 225, 163, 164, 165, 166, 167, 168, 226, 227, 228, 31, 229, 54, 63, 64, 65, 66, 33, 23, 24, 25, 26, 91, 92, 93, 94, 95, 96, 97, 98, 99, 100, 101, 102, 103, 104, 105, 106, 107, 108, 110, 112, 113, 114, 115, 116, 117, 118, 119, 120, 121, 122, 123, 124, 125, 126, 127, 128, 129, 130, 131, 132, 133, 134, 135, 136, 137, 60, 61, 62, 49, 138, 139, 140, 141, 142, 143, 144, 145, 146, 147, 148, 149, 150, 151, 152, 153, 154, 155, 156, 162, 169, 170, 171, 172, 173, 174, 175, 176, 177, 178, 179, 180, 53, 181, 182, 183, 184, 186, 187, 188, 189, 190, 191, 192, 193, 194, 195, 196, 197, 198, 199, 200, 201, 202, 203, 204, 205, 206, 207, 208, 209, 210, 211, 234, 235, 236, 237, 238, 239, 240, 241, 242, 243, 244, 245, 246, 247, 248, 266, 267, 268, 269, 270, 271, 249, 250, 251, 252, 253, 254, 255, 256, 257, 258, 259, 260, 261, 262, 263, 264, 265, 272, 273, 274, 275, 276] (by decide +kernel) (by decide +kernel)
set_option maxRecDepth 20000 in
theorem gX5_say_X5_hearAnswer : GoodIn wsX5_say (wsV RX5 132 RX5 yX5_hearAnswer wsX5_hearAnswer) := goodIn_app (goodIn_of _ (by decide +kernel)) ggX5_say_X5_hearAnswer
set_option maxRecDepth 20000 in
theorem ggX5_say_X3_clear : GoodIn wsX5_say wsX3_clear := goodIn_r _ [233, 12, 11, 244, 245, 246, 247, 248] (by decide +kernel) (by decide +kernel)
set_option maxRecDepth 20000 in
theorem gX5_say_X3_clear : GoodIn wsX5_say (wsV RX5 135 RX3 yX3_clear wsX3_clear) := goodIn_app (goodIn_of _ (by decide +kernel)) ggX5_say_X3_clear
theorem dX5_say_0 : decode cX5_say 0 = .ok (.aload_n 0, 1) := by decide +kernel
theorem dX5_say_1 : decode cX5_say 1 = .ok (.iconst (-1), 1) := by decide +kernel
theorem dX5_say_2 : decode cX5_say 2 = .ok (.putfield 50, 3) := by decide +kernel
theorem dX5_say_5 : decode cX5_say 5 = .ok (.aload_n 0, 1) := by decide +kernel
theorem dX5_say_6 : decode cX5_say 6 = .ok (.getfield 19, 3) := by decide +kernel
theorem dX5_say_9 : decode cX5_say 9 = .ok (.getfield 112, 3) := by decide +kernel
theorem dX5_say_12 : decode cX5_say 12 = .ok (.ifCond .ne 11, 3) := by decide +kernel
theorem dX5_say_15 : decode cX5_say 15 = .ok (.aload_n 0, 1) := by decide +kernel
theorem dX5_say_16 : decode cX5_say 16 = .ok (.iconst 2, 1) := by decide +kernel
theorem dX5_say_17 : decode cX5_say 17 = .ok (.putfield 46, 3) := by decide +kernel
theorem dX5_say_20 : decode cX5_say 20 = .ok (.goto 50, 3) := by decide +kernel
theorem dX5_say_23 : decode cX5_say 23 = .ok (.aload_n 0, 1) := by decide +kernel
theorem dX5_say_24 : decode cX5_say 24 = .ok (.getfield 19, 3) := by decide +kernel
theorem dX5_say_27 : decode cX5_say 27 = .ok (.invokevirtual 123, 3) := by decide +kernel
theorem dX5_say_30 : decode cX5_say 30 = .ok (.invokestatic 126, 3) := by decide +kernel
theorem dX5_say_33 : decode cX5_say 33 = .ok (.ifCond .eq 14, 3) := by decide +kernel
theorem dX5_say_36 : decode cX5_say 36 = .ok (.aload_n 0, 1) := by decide +kernel
theorem dX5_say_37 : decode cX5_say 37 = .ok (.aload_n 0, 1) := by decide +kernel
theorem dX5_say_38 : decode cX5_say 38 = .ok (.invokevirtual 129, 3) := by decide +kernel
theorem dX5_say_41 : decode cX5_say 41 = .ok (.putfield 46, 3) := by decide +kernel
theorem dX5_say_44 : decode cX5_say 44 = .ok (.goto 26, 3) := by decide +kernel
theorem dX5_say_47 : decode cX5_say 47 = .ok (.aload_n 0, 1) := by decide +kernel
theorem dX5_say_48 : decode cX5_say 48 = .ok (.getfield 53, 3) := by decide +kernel
theorem dX5_say_51 : decode cX5_say 51 = .ok (.ifCond .eq 14, 3) := by decide +kernel
theorem dX5_say_54 : decode cX5_say 54 = .ok (.aload_n 0, 1) := by decide +kernel
theorem dX5_say_55 : decode cX5_say 55 = .ok (.aload_n 0, 1) := by decide +kernel
theorem dX5_say_56 : decode cX5_say 56 = .ok (.invokevirtual 132, 3) := by decide +kernel
theorem dX5_say_59 : decode cX5_say 59 = .ok (.putfield 46, 3) := by decide +kernel
theorem dX5_say_62 : decode cX5_say 62 = .ok (.goto 8, 3) := by decide +kernel
theorem dX5_say_65 : decode cX5_say 65 = .ok (.aload_n 0, 1) := by decide +kernel
theorem dX5_say_66 : decode cX5_say 66 = .ok (.iconst 3, 1) := by decide +kernel
theorem dX5_say_67 : decode cX5_say 67 = .ok (.putfield 46, 3) := by decide +kernel
theorem dX5_say_70 : decode cX5_say 70 = .ok (.aload_n 0, 1) := by decide +kernel
theorem dX5_say_71 : decode cX5_say 71 = .ok (.getfield 46, 3) := by decide +kernel
theorem dX5_say_74 : decode cX5_say 74 = .ok (.iconst 1, 1) := by decide +kernel
theorem dX5_say_75 : decode cX5_say 75 = .ok (.if_icmp .ne 13, 3) := by decide +kernel
theorem dX5_say_78 : decode cX5_say 78 = .ok (.aload_n 0, 1) := by decide +kernel
theorem dX5_say_79 : decode cX5_say 79 = .ok (.dup, 1) := by decide +kernel
theorem dX5_say_80 : decode cX5_say 80 = .ok (.getfield 59, 3) := by decide +kernel
theorem dX5_say_83 : decode cX5_say 83 = .ok (.iconst 1, 1) := by decide +kernel
theorem dX5_say_84 : decode cX5_say 84 = .ok (.iadd, 1) := by decide +kernel
theorem dX5_say_85 : decode cX5_say 85 = .ok (.putfield 59, 3) := by decide +kernel
theorem dX5_say_88 : decode cX5_say 88 = .ok (.aload_n 0, 1) := by decide +kernel
theorem dX5_say_89 : decode cX5_say 89 = .ok (.getfield 19, 3) := by decide +kernel
theorem dX5_say_92 : decode cX5_say 92 = .ok (.invokevirtual 135, 3) := by decide +kernel
theorem dX5_say_95 : decode cX5_say 95 = .ok (.aload_n 0, 1) := by decide +kernel
theorem dX5_say_96 : decode cX5_say 96 = .ok (.getfield 46, 3) := by decide +kernel
theorem dX5_say_99 : decode cX5_say 99 = .ok (.ireturn, 1) := by decide +kernel
theorem dX5_outcome_0 : decode cX5_outcome 0 = .ok (.aload_n 0, 1) := by decide +kernel
theorem dX5_outcome_1 : decode cX5_outcome 1 = .ok (.getfield 46, 3) := by decide +kernel
theorem dX5_outcome_4 : decode cX5_outcome 4 = .ok (.ireturn, 1) := by decide +kernel
theorem dX5_wrongAt_0 : decode cX5_wrongAt 0 = .ok (.aload_n 0, 1) := by decide +kernel
theorem dX5_wrongAt_1 : decode cX5_wrongAt 1 = .ok (.getfield 50, 3) := by decide +kernel
theorem dX5_wrongAt_4 : decode cX5_wrongAt 4 = .ok (.ireturn, 1) := by decide +kernel
theorem dX5_verb_0 : decode cX5_verb 0 = .ok (.aload_n 0, 1) := by decide +kernel
theorem dX5_verb_1 : decode cX5_verb 1 = .ok (.getfield 33, 3) := by decide +kernel
theorem dX5_verb_4 : decode cX5_verb 4 = .ok (.getfield 138, 3) := by decide +kernel
theorem dX5_verb_7 : decode cX5_verb 7 = .ok (.ireturn, 1) := by decide +kernel
theorem dX5_meant_0 : decode cX5_meant 0 = .ok (.aload_n 0, 1) := by decide +kernel
theorem dX5_meant_1 : decode cX5_meant 1 = .ok (.getfield 33, 3) := by decide +kernel
theorem dX5_meant_4 : decode cX5_meant 4 = .ok (.getfield 141, 3) := by decide +kernel
theorem dX5_meant_7 : decode cX5_meant 7 = .ok (.ireturn, 1) := by decide +kernel
theorem dX5_done_0 : decode cX5_done 0 = .ok (.aload_n 0, 1) := by decide +kernel
theorem dX5_done_1 : decode cX5_done 1 = .ok (.getfield 33, 3) := by decide +kernel
theorem dX5_done_4 : decode cX5_done 4 = .ok (.getfield 144, 3) := by decide +kernel
theorem dX5_done_7 : decode cX5_done 7 = .ok (.ireturn, 1) := by decide +kernel
theorem dX5_into_0 : decode cX5_into 0 = .ok (.aload_n 0, 1) := by decide +kernel
theorem dX5_into_1 : decode cX5_into 1 = .ok (.getfield 33, 3) := by decide +kernel
theorem dX5_into_4 : decode cX5_into 4 = .ok (.getfield 147, 3) := by decide +kernel
theorem dX5_into_7 : decode cX5_into 7 = .ok (.ireturn, 1) := by decide +kernel
theorem dX5_asked_0 : decode cX5_asked 0 = .ok (.aload_n 0, 1) := by decide +kernel
theorem dX5_asked_1 : decode cX5_asked 1 = .ok (.getfield 53, 3) := by decide +kernel
theorem dX5_asked_4 : decode cX5_asked 4 = .ok (.ireturn, 1) := by decide +kernel
set_option maxRecDepth 20000 in
theorem ggX5_askedAt_X2_lastPlaceOf : GoodIn wsX5_askedAt wsX2_lastPlaceOf := goodIn_r _ [8, 9, 10, 11, 12, 7, 13, 14, 25, 26, 27, 28, 29, 30, 31, 32] (by decide +kernel) (by decide +kernel)
set_option maxRecDepth 20000 in
theorem gX5_askedAt_X2_lastPlaceOf : GoodIn wsX5_askedAt (wsV RX5 150 RX2 yX2_lastPlaceOf wsX2_lastPlaceOf) := goodIn_app (goodIn_of _ (by decide +kernel)) ggX5_askedAt_X2_lastPlaceOf
theorem dX5_askedAt_0 : decode cX5_askedAt 0 = .ok (.aload_n 0, 1) := by decide +kernel
theorem dX5_askedAt_1 : decode cX5_askedAt 1 = .ok (.getfield 53, 3) := by decide +kernel
theorem dX5_askedAt_4 : decode cX5_askedAt 4 = .ok (.ifCond .ne 7, 3) := by decide +kernel
theorem dX5_askedAt_7 : decode cX5_askedAt 7 = .ok (.iconst (-1), 1) := by decide +kernel
theorem dX5_askedAt_8 : decode cX5_askedAt 8 = .ok (.goto 14, 3) := by decide +kernel
theorem dX5_askedAt_11 : decode cX5_askedAt 11 = .ok (.aload_n 0, 1) := by decide +kernel
theorem dX5_askedAt_12 : decode cX5_askedAt 12 = .ok (.getfield 26, 3) := by decide +kernel
theorem dX5_askedAt_15 : decode cX5_askedAt 15 = .ok (.aload_n 0, 1) := by decide +kernel
theorem dX5_askedAt_16 : decode cX5_askedAt 16 = .ok (.getfield 56, 3) := by decide +kernel
theorem dX5_askedAt_19 : decode cX5_askedAt 19 = .ok (.invokevirtual 150, 3) := by decide +kernel
theorem dX5_askedAt_22 : decode cX5_askedAt 22 = .ok (.ireturn, 1) := by decide +kernel
theorem dX5_questions_0 : decode cX5_questions 0 = .ok (.aload_n 0, 1) := by decide +kernel
theorem dX5_questions_1 : decode cX5_questions 1 = .ok (.getfield 59, 3) := by decide +kernel
theorem dX5_questions_4 : decode cX5_questions 4 = .ok (.ireturn, 1) := by decide +kernel
set_option maxRecDepth 20000 in
theorem ggX5_hearOrder_X5_dropQuestion : GoodIn wsX5_hearOrder wsX5_dropQuestion := goodIn_r _ [8, 9, 10, 202, 203, 204, 205, 206, 207, 208, 209, 210, 211] (by decide +kernel) (by decide +kernel)
set_option maxRecDepth 20000 in
theorem gX5_hearOrder_X5_dropQuestion : GoodIn wsX5_hearOrder (wsV RX5 153 RX5 yX5_dropQuestion wsX5_dropQuestion) := goodIn_app (goodIn_of _ (by decide +kernel)) ggX5_hearOrder_X5_dropQuestion
set_option maxRecDepth 20000 in
theorem ggX5_hearOrder_X2_read : GoodIn wsX5_hearOrder wsX2_read := goodIn_r _ [15, 16, 17, 18, 19, 20, 21, 22, 23, 24, 25, 26, 27, 28, 29, 30, 31, 32, 33, 14, 34, 35, 36, 37, 38, 39, 40, 41, 42, 43, 44, 45, 46, 47, 48, 49, 50, 51, 52, 53, 54, 55, 56, 57, 58, 59, 60, 61, 62, 63, 64, 65, 66, 67, 7, 68, 69, 70, 71, 72, 73, 74, 75, 76, 77, 78, 79, 80, 217, 218, 219, 220, 221, 222, 223, 224, 212, 213, 214, 215, 216] (by decide +kernel) (by decide +kernel)
set_option maxRecDepth 20000 in
theorem gX5_hearOrder_X2_read : GoodIn wsX5_hearOrder (wsV RX5 156 RX2 yX2_read wsX2_read) := goodIn_app (goodIn_of _ (by decide +kernel)) ggX5_hearOrder_X2_read
set_option maxRecDepth 20000 in
theorem ggX5_hearOrder_X5_lookAtOrder : GoodIn wsX5_hearOrder wsX5_lookAtOrder := goodIn_r _ [84, 85, 1, 3, 9, 10, 86, 87, 88, 89, 90, 91, 92, 93, 94, 95, 96, 97, 98, 99, 100, 101, 102, 103, 104, 105, 106, 107, 108, 7, 109, 110, 111, 112, 113, 114, 115, 116, 117, 118, 119, 120, 121, 122, 123, 124, 125, 126, 127, 50, 51, 14, 52, 39, 53, 54, 55, 56, 16, 128, 129, 130, 131, 132, 133, 134, 135, 136, 137, 138, 139, 140, 141, 142, 143, 144, 145, 146, 147, 148, 149, 150, 151, 152, 153, 154, 155, 156, 157, 158, 159, 160, 161, 162, 163, 164, 165, 166, 167, 168, 169, 170, 43, 171, 172, 173, 174, 175, 176, 177, 178, 179, 180, 181, 182, 183, 184, 185, 186, 187, 188, 189, 190, 191, 192, 193, 194, 195, 196, 197, 198, 199, 200, 201, 202, 203, 204, 205, 206, 207, 208, 209, 210, 211, 225, 226, 227, 228, 229, 230, 231, 232, 233, 217, 218, 219, 220, 221, 222, 223, 224, 234, 235, 236, 237, 238, 239, 240, 241, 242, 243, 244] (by decide +kernel) (by decide +kernel)
set_option maxRecDepth 20000 in
theorem gX5_hearOrder_X5_lookAtOrder : GoodIn wsX5_hearOrder (wsV RX5 163 RX5 yX5_lookAtOrder wsX5_lookAtOrder) := goodIn_app (goodIn_of _ (by decide +kernel)) ggX5_hearOrder_X5_lookAtOrder
theorem dX5_hearOrder_0 : decode cX5_hearOrder 0 = .ok (.aload_n 0, 1) := by decide +kernel
theorem dX5_hearOrder_1 : decode cX5_hearOrder 1 = .ok (.invokevirtual 153, 3) := by decide +kernel
theorem dX5_hearOrder_4 : decode cX5_hearOrder 4 = .ok (.aload_n 0, 1) := by decide +kernel
theorem dX5_hearOrder_5 : decode cX5_hearOrder 5 = .ok (.getfield 26, 3) := by decide +kernel
theorem dX5_hearOrder_8 : decode cX5_hearOrder 8 = .ok (.aload_n 0, 1) := by decide +kernel
theorem dX5_hearOrder_9 : decode cX5_hearOrder 9 = .ok (.getfield 19, 3) := by decide +kernel
theorem dX5_hearOrder_12 : decode cX5_hearOrder 12 = .ok (.invokevirtual 156, 3) := by decide +kernel
theorem dX5_hearOrder_15 : decode cX5_hearOrder 15 = .ok (.ifCond .ne 16, 3) := by decide +kernel
theorem dX5_hearOrder_18 : decode cX5_hearOrder 18 = .ok (.aload_n 0, 1) := by decide +kernel
theorem dX5_hearOrder_19 : decode cX5_hearOrder 19 = .ok (.aload_n 0, 1) := by decide +kernel
theorem dX5_hearOrder_20 : decode cX5_hearOrder 20 = .ok (.getfield 19, 3) := by decide +kernel
theorem dX5_hearOrder_23 : decode cX5_hearOrder 23 = .ok (.getfield 160, 3) := by decide +kernel
theorem dX5_hearOrder_26 : decode cX5_hearOrder 26 = .ok (.putfield 50, 3) := by decide +kernel
theorem dX5_hearOrder_29 : decode cX5_hearOrder 29 = .ok (.iconst 4, 1) := by decide +kernel
theorem dX5_hearOrder_30 : decode cX5_hearOrder 30 = .ok (.ireturn, 1) := by decide +kernel
theorem dX5_hearOrder_31 : decode cX5_hearOrder 31 = .ok (.aload_n 0, 1) := by decide +kernel
theorem dX5_hearOrder_32 : decode cX5_hearOrder 32 = .ok (.invokevirtual 163, 3) := by decide +kernel
theorem dX5_hearOrder_35 : decode cX5_hearOrder 35 = .ok (.ireturn, 1) := by decide +kernel
set_option maxRecDepth 20000 in
theorem ggX5_hearAnswer_X3_readAnswer : GoodIn wsX5_hearAnswer wsX3_readAnswer := goodIn_r _ [11, 12, 13, 14, 15, 10, 16, 17, 18, 19, 20, 21, 22, 23, 24, 25, 26, 27, 28, 29, 30, 31, 32, 33, 34, 35, 36, 37, 38, 39, 192, 193, 194, 195, 196] (by decide +kernel) (by decide +kernel)
set_option maxRecDepth 20000 in
theorem gX5_hearAnswer_X3_readAnswer : GoodIn wsX5_hearAnswer (wsV RX5 166 RX3 yX3_readAnswer wsX3_readAnswer) := goodIn_app (goodIn_of _ (by decide +kernel)) ggX5_hearAnswer_X3_readAnswer
set_option maxRecDepth 20000 in
theorem ggX5_hearAnswer_X4_described : GoodIn wsX5_hearAnswer wsX4_described := goodIn_r _ [44, 45, 46, 47, 197, 198, 199, 200, 201, 202] (by decide +kernel) (by decide +kernel)
set_option maxRecDepth 20000 in
theorem gX5_hearAnswer_X4_described : GoodIn wsX5_hearAnswer (wsV RX5 176 RX4 yX4_described wsX4_described) := goodIn_app (goodIn_of _ (by decide +kernel)) ggX5_hearAnswer_X4_described
set_option maxRecDepth 20000 in
theorem ggX5_hearAnswer_J6_bitCount_0f7a4 : GoodIn wsX5_hearAnswer wsJ6_bitCount_0f7a4 := goodIn_r _ [51, 52, 53, 54] (by decide +kernel) (by decide +kernel)
set_option maxRecDepth 20000 in
theorem gX5_hearAnswer_J6_bitCount_0f7a4 : GoodIn wsX5_hearAnswer (va_wsS RX5 180 yJ6_bitCount_0f7a4 wsJ6_bitCount_0f7a4) := goodIn_app (goodIn_of _ (by decide +kernel)) ggX5_hearAnswer_J6_bitCount_0f7a4
set_option maxRecDepth 20000 in
theorem ggX5_hearAnswer_X2_answer : GoodIn wsX5_hearAnswer wsX2_answer := goodIn_r _ [59, 60, 61, 62, 63, 58, 64, 65, 203, 204, 205, 206, 207, 208, 209, 210] (by decide +kernel) (by decide +kernel)
set_option maxRecDepth 20000 in
theorem gX5_hearAnswer_X2_answer : GoodIn wsX5_hearAnswer (wsV RX5 185 RX2 yX2_answer wsX2_answer) := goodIn_app (goodIn_of _ (by decide +kernel)) ggX5_hearAnswer_X2_answer
