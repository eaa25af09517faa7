theorem dX4_suited_115 : decode cX4_suited 115 = .ok (.ixor, 1) := by decide +kernel
theorem dX4_suited_116 : decode cX4_suited 116 = .ok (.iand, 1) := by decide +kernel
theorem dX4_suited_117 : decode cX4_suited 117 = .ok (.ireturn, 1) := by decide +kernel
theorem dX4_suited_118 : decode cX4_suited 118 = .ok (.iload_n 2, 1) := by decide +kernel
theorem dX4_suited_119 : decode cX4_suited 119 = .ok (.aload_n 0, 1) := by decide +kernel
theorem dX4_suited_120 : decode cX4_suited 120 = .ok (.getfield 28, 3) := by decide +kernel
theorem dX4_suited_123 : decode cX4_suited 123 = .ok (.iand, 1) := by decide +kernel
theorem dX4_suited_124 : decode cX4_suited 124 = .ok (.ireturn, 1) := by decide +kernel
theorem dX4_suited_125 : decode cX4_suited 125 = .ok (.iconst 0, 1) := by decide +kernel
theorem dX4_suited_126 : decode cX4_suited 126 = .ok (.ireturn, 1) := by decide +kernel
theorem dX4_held_0 : decode cX4_held 0 = .ok (.iconst 0, 1) := by decide +kernel
theorem dX4_held_1 : decode cX4_held 1 = .ok (.istore_n 1, 1) := by decide +kernel
theorem dX4_held_2 : decode cX4_held 2 = .ok (.iconst 0, 1) := by decide +kernel
theorem dX4_held_3 : decode cX4_held 3 = .ok (.istore_n 2, 1) := by decide +kernel
theorem dX4_held_4 : decode cX4_held 4 = .ok (.iload_n 2, 1) := by decide +kernel
theorem dX4_held_5 : decode cX4_held 5 = .ok (.aload_n 0, 1) := by decide +kernel
theorem dX4_held_6 : decode cX4_held 6 = .ok (.getfield 21, 3) := by decide +kernel
theorem dX4_held_9 : decode cX4_held 9 = .ok (.if_icmp .ge 32, 3) := by decide +kernel
theorem dX4_held_12 : decode cX4_held 12 = .ok (.iload_n 2, 1) := by decide +kernel
theorem dX4_held_13 : decode cX4_held 13 = .ok (.bipush 12, 2) := by decide +kernel
theorem dX4_held_15 : decode cX4_held 15 = .ok (.if_icmp .ge 26, 3) := by decide +kernel
theorem dX4_held_18 : decode cX4_held 18 = .ok (.aload_n 0, 1) := by decide +kernel
theorem dX4_held_19 : decode cX4_held 19 = .ok (.getfield 18, 3) := by decide +kernel
theorem dX4_held_22 : decode cX4_held 22 = .ok (.iload_n 2, 1) := by decide +kernel
theorem dX4_held_23 : decode cX4_held 23 = .ok (.iaload, 1) := by decide +kernel
theorem dX4_held_24 : decode cX4_held 24 = .ok (.bipush (-3), 2) := by decide +kernel
theorem dX4_held_26 : decode cX4_held 26 = .ok (.if_icmp .ne 9, 3) := by decide +kernel
theorem dX4_held_29 : decode cX4_held 29 = .ok (.iload_n 1, 1) := by decide +kernel
theorem dX4_held_30 : decode cX4_held 30 = .ok (.iconst 1, 1) := by decide +kernel
theorem dX4_held_31 : decode cX4_held 31 = .ok (.iload_n 2, 1) := by decide +kernel
theorem dX4_held_32 : decode cX4_held 32 = .ok (.ishl, 1) := by decide +kernel
theorem dX4_held_33 : decode cX4_held 33 = .ok (.ior, 1) := by decide +kernel
theorem dX4_held_34 : decode cX4_held 34 = .ok (.istore_n 1, 1) := by decide +kernel
theorem dX4_held_35 : decode cX4_held 35 = .ok (.iinc 2 1, 3) := by decide +kernel
theorem dX4_held_38 : decode cX4_held 38 = .ok (.goto (-34), 3) := by decide +kernel
theorem dX4_held_41 : decode cX4_held 41 = .ok (.iload_n 1, 1) := by decide +kernel
theorem dX4_held_42 : decode cX4_held 42 = .ok (.ireturn, 1) := by decide +kernel
set_option maxRecDepth 20000 in
theorem ggX4_perform_X4_has : GoodIn wsX4_perform wsX4_has := goodIn_r _ [7, 8, 33, 34, 35, 36, 37, 38] (by decide +kernel) (by decide +kernel)
set_option maxRecDepth 20000 in
theorem gX4_perform_X4_has : GoodIn wsX4_perform (wsV RX4 46 RX4 yX4_has wsX4_has) := goodIn_app (goodIn_of _ (by decide +kernel)) ggX4_perform_X4_has
set_option maxRecDepth 20000 in
theorem ggX4_perform_X4_suited : GoodIn wsX4_perform wsX4_suited := goodIn_r _ [12, 13, 2, 14, 15, 16, 6, 17, 8, 18, 19, 20, 21, 1, 22, 23, 24, 25, 26, 27, 28, 33, 34, 35, 36, 37, 38] (by decide +kernel) (by decide +kernel)
set_option maxRecDepth 20000 in
theorem gX4_perform_X4_suited : GoodIn wsX4_perform (wsV RX4 50 RX4 yX4_suited wsX4_suited) := goodIn_app (goodIn_of _ (by decide +kernel)) ggX4_perform_X4_suited
set_option maxRecDepth 20000 in
theorem ggX4_perform_X5_contains : GoodIn wsX4_perform wsX5_contains := goodIn_r _ [24] (by decide +kernel) (by decide +kernel)
set_option maxRecDepth 20000 in
theorem gX4_perform_X5_contains_n35 : GoodIn wsX4_perform (wsX5_contains) := ggX4_perform_X5_contains
set_option maxRecDepth 20000 in
theorem ggX4_perform_X4_isWithin : GoodIn wsX4_perform wsX4_isWithin := goodIn_r _ [32, 18, 19, 20, 6, 21, 8, 1, 33, 34, 35, 36, 37, 38] (by decide +kernel) (by decide +kernel)
set_option maxRecDepth 20000 in
theorem gX4_perform_X4_isWithin : GoodIn wsX4_perform (wsV RX4 53 RX4 yX4_isWithin wsX4_isWithin) := goodIn_app (goodIn_of _ (by decide +kernel)) ggX4_perform_X4_isWithin
theorem dX4_perform_0 : decode cX4_perform 0 = .ok (.aload_n 0, 1) := by decide +kernel
theorem dX4_perform_1 : decode cX4_perform 1 = .ok (.iload_n 2, 1) := by decide +kernel
theorem dX4_perform_2 : decode cX4_perform 2 = .ok (.invokevirtual 46, 3) := by decide +kernel
theorem dX4_perform_5 : decode cX4_perform 5 = .ok (.ifCond .eq 15, 3) := by decide +kernel
theorem dX4_perform_8 : decode cX4_perform 8 = .ok (.aload_n 0, 1) := by decide +kernel
theorem dX4_perform_9 : decode cX4_perform 9 = .ok (.iload_n 1, 1) := by decide +kernel
theorem dX4_perform_10 : decode cX4_perform 10 = .ok (.invokevirtual 50, 3) := by decide +kernel
theorem dX4_perform_13 : decode cX4_perform 13 = .ok (.iload_n 2, 1) := by decide +kernel
theorem dX4_perform_14 : decode cX4_perform 14 = .ok (.invokestatic 35, 3) := by decide +kernel
theorem dX4_perform_17 : decode cX4_perform 17 = .ok (.ifCond .ne 5, 3) := by decide +kernel
theorem dX4_perform_20 : decode cX4_perform 20 = .ok (.iconst 0, 1) := by decide +kernel
theorem dX4_perform_21 : decode cX4_perform 21 = .ok (.ireturn, 1) := by decide +kernel
theorem dX4_perform_22 : decode cX4_perform 22 = .ok (.iload_n 1, 1) := by decide +kernel
theorem dX4_perform_23 : decode cX4_perform 23 = .ok (.tableswitch 116 0 4 #[33, 43, 53, 86, 100], 33) := by decide +kernel
theorem dX4_perform_56 : decode cX4_perform 56 = .ok (.aload_n 0, 1) := by decide +kernel
theorem dX4_perform_57 : decode cX4_perform 57 = .ok (.getfield 18, 3) := by decide +kernel
theorem dX4_perform_60 : decode cX4_perform 60 = .ok (.iload_n 2, 1) := by decide +kernel
theorem dX4_perform_61 : decode cX4_perform 61 = .ok (.bipush (-3), 2) := by decide +kernel
theorem dX4_perform_63 : decode cX4_perform 63 = .ok (.iastore, 1) := by decide +kernel
theorem dX4_perform_64 : decode cX4_perform 64 = .ok (.iconst 1, 1) := by decide +kernel
theorem dX4_perform_65 : decode cX4_perform 65 = .ok (.ireturn, 1) := by decide +kernel
theorem dX4_perform_66 : decode cX4_perform 66 = .ok (.aload_n 0, 1) := by decide +kernel
theorem dX4_perform_67 : decode cX4_perform 67 = .ok (.getfield 18, 3) := by decide +kernel
theorem dX4_perform_70 : decode cX4_perform 70 = .ok (.iload_n 2, 1) := by decide +kernel
theorem dX4_perform_71 : decode cX4_perform 71 = .ok (.bipush (-2), 2) := by decide +kernel
theorem dX4_perform_73 : decode cX4_perform 73 = .ok (.iastore, 1) := by decide +kernel
theorem dX4_perform_74 : decode cX4_perform 74 = .ok (.iconst 1, 1) := by decide +kernel
theorem dX4_perform_75 : decode cX4_perform 75 = .ok (.ireturn, 1) := by decide +kernel
theorem dX4_perform_76 : decode cX4_perform 76 = .ok (.aload_n 0, 1) := by decide +kernel
theorem dX4_perform_77 : decode cX4_perform 77 = .ok (.bipush 16, 2) := by decide +kernel
theorem dX4_perform_79 : decode cX4_perform 79 = .ok (.invokevirtual 50, 3) := by decide +kernel
theorem dX4_perform_82 : decode cX4_perform 82 = .ok (.iload_n 3, 1) := by decide +kernel
theorem dX4_perform_83 : decode cX4_perform 83 = .ok (.invokestatic 35, 3) := by decide +kernel
theorem dX4_perform_86 : decode cX4_perform 86 = .ok (.ifCond .eq 12, 3) := by decide +kernel
theorem dX4_perform_89 : decode cX4_perform 89 = .ok (.aload_n 0, 1) := by decide +kernel
theorem dX4_perform_90 : decode cX4_perform 90 = .ok (.iload_n 3, 1) := by decide +kernel
theorem dX4_perform_91 : decode cX4_perform 91 = .ok (.iload_n 2, 1) := by decide +kernel
theorem dX4_perform_92 : decode cX4_perform 92 = .ok (.invokevirtual 53, 3) := by decide +kernel
theorem dX4_perform_95 : decode cX4_perform 95 = .ok (.ifCond .eq 5, 3) := by decide +kernel
theorem dX4_perform_98 : decode cX4_perform 98 = .ok (.iconst 0, 1) := by decide +kernel
theorem dX4_perform_99 : decode cX4_perform 99 = .ok (.ireturn, 1) := by decide +kernel
theorem dX4_perform_100 : decode cX4_perform 100 = .ok (.aload_n 0, 1) := by decide +kernel
theorem dX4_perform_101 : decode cX4_perform 101 = .ok (.getfield 18, 3) := by decide +kernel
theorem dX4_perform_104 : decode cX4_perform 104 = .ok (.iload_n 2, 1) := by decide +kernel
theorem dX4_perform_105 : decode cX4_perform 105 = .ok (.iload_n 3, 1) := by decide +kernel
theorem dX4_perform_106 : decode cX4_perform 106 = .ok (.iastore, 1) := by decide +kernel
theorem dX4_perform_107 : decode cX4_perform 107 = .ok (.iconst 1, 1) := by decide +kernel
theorem dX4_perform_108 : decode cX4_perform 108 = .ok (.ireturn, 1) := by decide +kernel
theorem dX4_perform_109 : decode cX4_perform 109 = .ok (.aload_n 0, 1) := by decide +kernel
theorem dX4_perform_110 : decode cX4_perform 110 = .ok (.dup, 1) := by decide +kernel
theorem dX4_perform_111 : decode cX4_perform 111 = .ok (.getfield 28, 3) := by decide +kernel
theorem dX4_perform_114 : decode cX4_perform 114 = .ok (.iconst 1, 1) := by decide +kernel
theorem dX4_perform_115 : decode cX4_perform 115 = .ok (.iload_n 2, 1) := by decide +kernel
theorem dX4_perform_116 : decode cX4_perform 116 = .ok (.ishl, 1) := by decide +kernel
theorem dX4_perform_117 : decode cX4_perform 117 = .ok (.ior, 1) := by decide +kernel
theorem dX4_perform_118 : decode cX4_perform 118 = .ok (.putfield 28, 3) := by decide +kernel
theorem dX4_perform_121 : decode cX4_perform 121 = .ok (.iconst 1, 1) := by decide +kernel
theorem dX4_perform_122 : decode cX4_perform 122 = .ok (.ireturn, 1) := by decide +kernel
theorem dX4_perform_123 : decode cX4_perform 123 = .ok (.aload_n 0, 1) := by decide +kernel
theorem dX4_perform_124 : decode cX4_perform 124 = .ok (.dup, 1) := by decide +kernel
theorem dX4_perform_125 : decode cX4_perform 125 = .ok (.getfield 28, 3) := by decide +kernel
theorem dX4_perform_128 : decode cX4_perform 128 = .ok (.iconst 1, 1) := by decide +kernel
theorem dX4_perform_129 : decode cX4_perform 129 = .ok (.iload_n 2, 1) := by decide +kernel
theorem dX4_perform_130 : decode cX4_perform 130 = .ok (.ishl, 1) := by decide +kernel
theorem dX4_perform_131 : decode cX4_perform 131 = .ok (.iconst (-1), 1) := by decide +kernel
theorem dX4_perform_132 : decode cX4_perform 132 = .ok (.ixor, 1) := by decide +kernel
theorem dX4_perform_133 : decode cX4_perform 133 = .ok (.iand, 1) := by decide +kernel
theorem dX4_perform_134 : decode cX4_perform 134 = .ok (.putfield 28, 3) := by decide +kernel
theorem dX4_perform_137 : decode cX4_perform 137 = .ok (.iconst 1, 1) := by decide +kernel
theorem dX4_perform_138 : decode cX4_perform 138 = .ok (.ireturn, 1) := by decide +kernel
theorem dX4_perform_139 : decode cX4_perform 139 = .ok (.iconst 0, 1) := by decide +kernel
theorem dX4_perform_140 : decode cX4_perform 140 = .ok (.ireturn, 1) := by decide +kernel
set_option maxRecDepth 20000 in
theorem ggX4_isWithin_X4_holderOf : GoodIn wsX4_isWithin wsX4_holderOf := goodIn_r _ [5, 6, 7, 8, 9, 10, 11, 12, 13] (by decide +kernel) (by decide +kernel)
set_option maxRecDepth 20000 in
theorem gX4_isWithin_X4_holderOf : GoodIn wsX4_isWithin (wsV RX4 31 RX4 yX4_holderOf wsX4_holderOf) := goodIn_app (goodIn_of _ (by decide +kernel)) ggX4_isWithin_X4_holderOf
theorem dX4_isWithin_0 : decode cX4_isWithin 0 = .ok (.iload_n 1, 1) := by decide +kernel
theorem dX4_isWithin_1 : decode cX4_isWithin 1 = .ok (.istore_n 3, 1) := by decide +kernel
theorem dX4_isWithin_2 : decode cX4_isWithin 2 = .ok (.iconst 0, 1) := by decide +kernel
theorem dX4_isWithin_3 : decode cX4_isWithin 3 = .ok (.istore 4, 2) := by decide +kernel
theorem dX4_isWithin_5 : decode cX4_isWithin 5 = .ok (.iload 4, 2) := by decide +kernel
theorem dX4_isWithin_7 : decode cX4_isWithin 7 = .ok (.bipush 12, 2) := by decide +kernel
theorem dX4_isWithin_9 : decode cX4_isWithin 9 = .ok (.if_icmp .ge 24, 3) := by decide +kernel
theorem dX4_isWithin_12 : decode cX4_isWithin 12 = .ok (.iload_n 3, 1) := by decide +kernel
theorem dX4_isWithin_13 : decode cX4_isWithin 13 = .ok (.ifCond .lt 20, 3) := by decide +kernel
theorem dX4_isWithin_16 : decode cX4_isWithin 16 = .ok (.iload_n 3, 1) := by decide +kernel
theorem dX4_isWithin_17 : decode cX4_isWithin 17 = .ok (.iload_n 2, 1) := by decide +kernel
theorem dX4_isWithin_18 : decode cX4_isWithin 18 = .ok (.if_icmp .eq 15, 3) := by decide +kernel
theorem dX4_isWithin_21 : decode cX4_isWithin 21 = .ok (.aload_n 0, 1) := by decide +kernel
theorem dX4_isWithin_22 : decode cX4_isWithin 22 = .ok (.iload_n 3, 1) := by decide +kernel
theorem dX4_isWithin_23 : decode cX4_isWithin 23 = .ok (.invokevirtual 31, 3) := by decide +kernel
theorem dX4_isWithin_26 : decode cX4_isWithin 26 = .ok (.istore_n 3, 1) := by decide +kernel
theorem dX4_isWithin_27 : decode cX4_isWithin 27 = .ok (.iinc 4 1, 3) := by decide +kernel
theorem dX4_isWithin_30 : decode cX4_isWithin 30 = .ok (.goto (-25), 3) := by decide +kernel
theorem dX4_isWithin_33 : decode cX4_isWithin 33 = .ok (.iload_n 3, 1) := by decide +kernel
theorem dX4_isWithin_34 : decode cX4_isWithin 34 = .ok (.iload_n 2, 1) := by decide +kernel
theorem dX4_isWithin_35 : decode cX4_isWithin 35 = .ok (.if_icmp .ne 7, 3) := by decide +kernel
theorem dX4_isWithin_38 : decode cX4_isWithin 38 = .ok (.iconst 1, 1) := by decide +kernel
theorem dX4_isWithin_39 : decode cX4_isWithin 39 = .ok (.goto 4, 3) := by decide +kernel
theorem dX4_isWithin_42 : decode cX4_isWithin 42 = .ok (.iconst 0, 1) := by decide +kernel
theorem dX4_isWithin_43 : decode cX4_isWithin 43 = .ok (.ireturn, 1) := by decide +kernel
set_option maxRecDepth 20000 in
theorem ggX5_init_X4_init : GoodIn wsX5_init wsX4_init := goodIn_r _ [31, 32, 2, 3, 33, 34, 35, 36, 37, 38, 39, 87, 88, 89, 90, 91, 92] (by decide +kernel) (by decide +kernel)
set_option maxRecDepth 20000 in
theorem gX5_init_X4_init : GoodIn wsX5_init (wsX4_init) := ggX5_init_X4_init
set_option maxRecDepth 20000 in
theorem ggX5_init_X3_init : GoodIn wsX5_init wsX3_init := goodIn_r _ [42, 43, 2, 3, 33, 44, 45, 46, 47, 48, 103, 104, 105, 106, 107] (by decide +kernel) (by decide +kernel)
set_option maxRecDepth 20000 in
theorem gX5_init_X3_init : GoodIn wsX5_init (wsX3_init) := ggX5_init_X3_init
set_option maxRecDepth 20000 in
theorem ggX5_init_X2_init : GoodIn wsX5_init wsX2_init := goodIn_r _ [51, 52, 2, 3, 53, 54, 33, 55, 56, 57, 58, 59, 60, 108, 109, 110, 111, 112, 113, 114, 115] (by decide +kernel) (by decide +kernel)
set_option maxRecDepth 20000 in
theorem gX5_init_X2_init : GoodIn wsX5_init (wsX2_init) := ggX5_init_X2_init
set_option maxRecDepth 20000 in
theorem ggX5_init_X1_init : GoodIn wsX5_init wsX1_init := goodIn_r _ [63, 64, 2, 3, 65, 66, 67, 68, 69, 116, 117, 118, 119, 120] (by decide +kernel) (by decide +kernel)
set_option maxRecDepth 20000 in
theorem gX5_init_X1_init : GoodIn wsX5_init (wsX1_init) := ggX5_init_X1_init
set_option maxRecDepth 20000 in
theorem ggX5_init_X0_init : GoodIn wsX5_init wsX0_init := goodIn_r _ [72, 73, 2, 3, 74, 75, 76, 77, 78, 79, 22, 80, 81, 82, 83, 84, 85, 86, 121, 122, 123, 124, 125, 126, 127, 128, 129] (by decide +kernel) (by decide +kernel)
set_option maxRecDepth 20000 in
theorem gX5_init_X0_init : GoodIn wsX5_init (wsX0_init) := ggX5_init_X0_init
theorem dX5_init_0 : decode cX5_init 0 = .ok (.aload_n 0, 1) := by decide +kernel
theorem dX5_init_1 : decode cX5_init 1 = .ok (.invokespecial 3, 3) := by decide +kernel
theorem dX5_init_4 : decode cX5_init 4 = .ok (.aload_n 0, 1) := by decide +kernel
theorem dX5_init_5 : decode cX5_init 5 = .ok (.new 9, 3) := by decide +kernel
theorem dX5_init_8 : decode cX5_init 8 = .ok (.dup, 1) := by decide +kernel
theorem dX5_init_9 : decode cX5_init 9 = .ok (.invokespecial 11, 3) := by decide +kernel
theorem dX5_init_12 : decode cX5_init 12 = .ok (.putfield 12, 3) := by decide +kernel
theorem dX5_init_15 : decode cX5_init 15 = .ok (.aload_n 0, 1) := by decide +kernel
theorem dX5_init_16 : decode cX5_init 16 = .ok (.new 16, 3) := by decide +kernel
theorem dX5_init_19 : decode cX5_init 19 = .ok (.dup, 1) := by decide +kernel
theorem dX5_init_20 : decode cX5_init 20 = .ok (.invokespecial 18, 3) := by decide +kernel
theorem dX5_init_23 : decode cX5_init 23 = .ok (.putfield 19, 3) := by decide +kernel
theorem dX5_init_26 : decode cX5_init 26 = .ok (.aload_n 0, 1) := by decide +kernel
theorem dX5_init_27 : decode cX5_init 27 = .ok (.new 23, 3) := by decide +kernel
theorem dX5_init_30 : decode cX5_init 30 = .ok (.dup, 1) := by decide +kernel
theorem dX5_init_31 : decode cX5_init 31 = .ok (.invokespecial 25, 3) := by decide +kernel
theorem dX5_init_34 : decode cX5_init 34 = .ok (.putfield 26, 3) := by decide +kernel
theorem dX5_init_37 : decode cX5_init 37 = .ok (.aload_n 0, 1) := by decide +kernel
theorem dX5_init_38 : decode cX5_init 38 = .ok (.new 30, 3) := by decide +kernel
theorem dX5_init_41 : decode cX5_init 41 = .ok (.dup, 1) := by decide +kernel
theorem dX5_init_42 : decode cX5_init 42 = .ok (.invokespecial 32, 3) := by decide +kernel
theorem dX5_init_45 : decode cX5_init 45 = .ok (.putfield 33, 3) := by decide +kernel
theorem dX5_init_48 : decode cX5_init 48 = .ok (.aload_n 0, 1) := by decide +kernel
theorem dX5_init_49 : decode cX5_init 49 = .ok (.new 37, 3) := by decide +kernel
theorem dX5_init_52 : decode cX5_init 52 = .ok (.dup, 1) := by decide +kernel
theorem dX5_init_53 : decode cX5_init 53 = .ok (.aload_n 0, 1) := by decide +kernel
theorem dX5_init_54 : decode cX5_init 54 = .ok (.getfield 12, 3) := by decide +kernel
theorem dX5_init_57 : decode cX5_init 57 = .ok (.aload_n 0, 1) := by decide +kernel
theorem dX5_init_58 : decode cX5_init 58 = .ok (.getfield 26, 3) := by decide +kernel
theorem dX5_init_61 : decode cX5_init 61 = .ok (.aload_n 0, 1) := by decide +kernel
theorem dX5_init_62 : decode cX5_init 62 = .ok (.getfield 33, 3) := by decide +kernel
theorem dX5_init_65 : decode cX5_init 65 = .ok (.invokespecial 39, 3) := by decide +kernel
theorem dX5_init_68 : decode cX5_init 68 = .ok (.putfield 42, 3) := by decide +kernel
theorem dX5_init_71 : decode cX5_init 71 = .ok (.aload_n 0, 1) := by decide +kernel
theorem dX5_init_72 : decode cX5_init 72 = .ok (.iconst (-1), 1) := by decide +kernel
theorem dX5_init_73 : decode cX5_init 73 = .ok (.putfield 46, 3) := by decide +kernel
theorem dX5_init_76 : decode cX5_init 76 = .ok (.aload_n 0, 1) := by decide +kernel
theorem dX5_init_77 : decode cX5_init 77 = .ok (.iconst (-1), 1) := by decide +kernel
theorem dX5_init_78 : decode cX5_init 78 = .ok (.putfield 50, 3) := by decide +kernel
theorem dX5_init_81 : decode cX5_init 81 = .ok (.aload_n 0, 1) := by decide +kernel
theorem dX5_init_82 : decode cX5_init 82 = .ok (.iconst 0, 1) := by decide +kernel
theorem dX5_init_83 : decode cX5_init 83 = .ok (.putfield 53, 3) := by decide +kernel
theorem dX5_init_86 : decode cX5_init 86 = .ok (.aload_n 0, 1) := by decide +kernel
theorem dX5_init_87 : decode cX5_init 87 = .ok (.iconst (-1), 1) := by decide +kernel
theorem dX5_init_88 : decode cX5_init 88 = .ok (.putfield 56, 3) := by decide +kernel
theorem dX5_init_91 : decode cX5_init 91 = .ok (.aload_n 0, 1) := by decide +kernel
theorem dX5_init_92 : decode cX5_init 92 = .ok (.iconst 0, 1) := by decide +kernel
theorem dX5_init_93 : decode cX5_init 93 = .ok (.putfield 59, 3) := by decide +kernel
theorem dX5_init_96 : decode cX5_init 96 = .ok (.return_, 1) := by decide +kernel
set_option maxRecDepth 20000 in
theorem ggX5_thing_X4_add : GoodIn wsX5_thing wsX4_add := goodIn_r _ [10, 11, 12, 13, 14, 15, 26, 27, 28, 29, 30, 31] (by decide +kernel) (by decide +kernel)
set_option maxRecDepth 20000 in
theorem gX5_thing_X4_add : GoodIn wsX5_thing (wsV RX5 79 RX4 yX4_add wsX4_add) := goodIn_app (goodIn_of _ (by decide +kernel)) ggX5_thing_X4_add
theorem dX5_thing_0 : decode cX5_thing 0 = .ok (.iload_n 1, 1) := by decide +kernel
theorem dX5_thing_1 : decode cX5_thing 1 = .ok (.ifCond .lt 9, 3) := by decide +kernel
theorem dX5_thing_4 : decode cX5_thing 4 = .ok (.iload_n 1, 1) := by decide +kernel
theorem dX5_thing_5 : decode cX5_thing 5 = .ok (.bipush 8, 2) := by decide +kernel
theorem dX5_thing_7 : decode cX5_thing 7 = .ok (.if_icmp .lt 13, 3) := by decide +kernel
theorem dX5_thing_10 : decode cX5_thing 10 = .ok (.new 62, 3) := by decide +kernel
theorem dX5_thing_13 : decode cX5_thing 13 = .ok (.dup, 1) := by decide +kernel
theorem dX5_thing_14 : decode cX5_thing 14 = .ok (.ldc 64, 2) := by decide +kernel
theorem dX5_thing_16 : decode cX5_thing 16 = .ok (.invokespecial 66, 3) := by decide +kernel
theorem dX5_thing_19 : decode cX5_thing 19 = .ok (.athrow, 1) := by decide +kernel
theorem dX5_thing_20 : decode cX5_thing 20 = .ok (.iload_n 2, 1) := by decide +kernel
theorem dX5_thing_21 : decode cX5_thing 21 = .ok (.ifCond .lt 9, 3) := by decide +kernel
theorem dX5_thing_24 : decode cX5_thing 24 = .ok (.iload_n 2, 1) := by decide +kernel
theorem dX5_thing_25 : decode cX5_thing 25 = .ok (.bipush 64, 2) := by decide +kernel
theorem dX5_thing_27 : decode cX5_thing 27 = .ok (.if_icmp .lt 13, 3) := by decide +kernel
theorem dX5_thing_30 : decode cX5_thing 30 = .ok (.new 62, 3) := by decide +kernel
theorem dX5_thing_33 : decode cX5_thing 33 = .ok (.dup, 1) := by decide +kernel
theorem dX5_thing_34 : decode cX5_thing 34 = .ok (.ldc 69, 2) := by decide +kernel
theorem dX5_thing_36 : decode cX5_thing 36 = .ok (.invokespecial 66, 3) := by decide +kernel
theorem dX5_thing_39 : decode cX5_thing 39 = .ok (.athrow, 1) := by decide +kernel
theorem dX5_thing_40 : decode cX5_thing 40 = .ok (.aload_n 0, 1) := by decide +kernel
theorem dX5_thing_41 : decode cX5_thing 41 = .ok (.getfield 12, 3) := by decide +kernel
theorem dX5_thing_44 : decode cX5_thing 44 = .ok (.getfield 71, 3) := by decide +kernel
theorem dX5_thing_47 : decode cX5_thing 47 = .ok (.bipush 12, 2) := by decide +kernel
theorem dX5_thing_49 : decode cX5_thing 49 = .ok (.if_icmp .lt 13, 3) := by decide +kernel
theorem dX5_thing_52 : decode cX5_thing 52 = .ok (.new 74, 3) := by decide +kernel
theorem dX5_thing_55 : decode cX5_thing 55 = .ok (.dup, 1) := by decide +kernel
theorem dX5_thing_56 : decode cX5_thing 56 = .ok (.ldc 76, 2) := by decide +kernel
theorem dX5_thing_58 : decode cX5_thing 58 = .ok (.invokespecial 78, 3) := by decide +kernel
theorem dX5_thing_61 : decode cX5_thing 61 = .ok (.athrow, 1) := by decide +kernel
theorem dX5_thing_62 : decode cX5_thing 62 = .ok (.aload_n 0, 1) := by decide +kernel
theorem dX5_thing_63 : decode cX5_thing 63 = .ok (.getfield 12, 3) := by decide +kernel
theorem dX5_thing_66 : decode cX5_thing 66 = .ok (.iload_n 1, 1) := by decide +kernel
theorem dX5_thing_67 : decode cX5_thing 67 = .ok (.iload_n 2, 1) := by decide +kernel
theorem dX5_thing_68 : decode cX5_thing 68 = .ok (.iload_n 3, 1) := by decide +kernel
theorem dX5_thing_69 : decode cX5_thing 69 = .ok (.invokevirtual 79, 3) := by decide +kernel
theorem dX5_thing_72 : decode cX5_thing 72 = .ok (.ireturn, 1) := by decide +kernel
set_option maxRecDepth 20000 in
theorem ggX5_placeOf_X4_has : GoodIn wsX5_placeOf wsX4_has := goodIn_r _ [8, 9, 25, 26, 27, 28, 29, 30] (by decide +kernel) (by decide +kernel)
set_option maxRecDepth 20000 in
theorem gX5_placeOf_X4_has : GoodIn wsX5_placeOf (wsV RX5 83 RX4 yX4_has wsX4_has) := goodIn_app (goodIn_of _ (by decide +kernel)) ggX5_placeOf_X4_has
set_option maxRecDepth 20000 in
theorem ggX5_placeOf_X4_holderOf : GoodIn wsX5_placeOf wsX4_holderOf := goodIn_r _ [13, 9, 14, 25, 26, 27, 28, 29, 30] (by decide +kernel) (by decide +kernel)
set_option maxRecDepth 20000 in
theorem gX5_placeOf_X4_holderOf : GoodIn wsX5_placeOf (wsV RX5 92 RX4 yX4_holderOf wsX4_holderOf) := goodIn_app (goodIn_of _ (by decide +kernel)) ggX5_placeOf_X4_holderOf
theorem dX5_placeOf_0 : decode cX5_placeOf 0 = .ok (.aload_n 0, 1) := by decide +kernel
theorem dX5_placeOf_1 : decode cX5_placeOf 1 = .ok (.getfield 12, 3) := by decide +kernel
theorem dX5_placeOf_4 : decode cX5_placeOf 4 = .ok (.iload_n 1, 1) := by decide +kernel
theorem dX5_placeOf_5 : decode cX5_placeOf 5 = .ok (.invokevirtual 83, 3) := by decide +kernel
theorem dX5_placeOf_8 : decode cX5_placeOf 8 = .ok (.ifCond .ne 13, 3) := by decide +kernel
theorem dX5_placeOf_11 : decode cX5_placeOf 11 = .ok (.new 87, 3) := by decide +kernel
theorem dX5_placeOf_14 : decode cX5_placeOf 14 = .ok (.dup, 1) := by decide +kernel
theorem dX5_placeOf_15 : decode cX5_placeOf 15 = .ok (.ldc 89, 2) := by decide +kernel
theorem dX5_placeOf_17 : decode cX5_placeOf 17 = .ok (.invokespecial 91, 3) := by decide +kernel
theorem dX5_placeOf_20 : decode cX5_placeOf 20 = .ok (.athrow, 1) := by decide +kernel
theorem dX5_placeOf_21 : decode cX5_placeOf 21 = .ok (.aload_n 0, 1) := by decide +kernel
theorem dX5_placeOf_22 : decode cX5_placeOf 22 = .ok (.getfield 12, 3) := by decide +kernel
theorem dX5_placeOf_25 : decode cX5_placeOf 25 = .ok (.iload_n 1, 1) := by decide +kernel
theorem dX5_placeOf_26 : decode cX5_placeOf 26 = .ok (.invokevirtual 92, 3) := by decide +kernel
theorem dX5_placeOf_29 : decode cX5_placeOf 29 = .ok (.ireturn, 1) := by decide +kernel
set_option maxRecDepth 20000 in
theorem ggX5_isOpen_X4_has : GoodIn wsX5_isOpen wsX4_has := goodIn_r _ [8, 9, 24, 25, 26, 27, 28, 29] (by decide +kernel) (by decide +kernel)
set_option maxRecDepth 20000 in
theorem gX5_isOpen_X4_has : GoodIn wsX5_isOpen (wsV RX5 83 RX4 yX4_has wsX4_has) := goodIn_app (goodIn_of _ (by decide +kernel)) ggX5_isOpen_X4_has
set_option maxRecDepth 20000 in
theorem ggX5_isOpen_X5_contains : GoodIn wsX5_isOpen wsX5_contains := goodIn_r _ [13] (by decide +kernel) (by decide +kernel)
set_option maxRecDepth 20000 in
theorem gX5_isOpen_X5_contains : GoodIn wsX5_isOpen (va_wsS RX5 99 yX5_contains wsX5_contains) := goodIn_app (goodIn_of _ (by decide +kernel)) ggX5_isOpen_X5_contains
theorem dX5_isOpen_0 : decode cX5_isOpen 0 = .ok (.aload_n 0, 1) := by decide +kernel
theorem dX5_isOpen_1 : decode cX5_isOpen 1 = .ok (.getfield 12, 3) := by decide +kernel
theorem dX5_isOpen_4 : decode cX5_isOpen 4 = .ok (.iload_n 1, 1) := by decide +kernel
theorem dX5_isOpen_5 : decode cX5_isOpen 5 = .ok (.invokevirtual 83, 3) := by decide +kernel
theorem dX5_isOpen_8 : decode cX5_isOpen 8 = .ok (.ifCond .ne 13, 3) := by decide +kernel
theorem dX5_isOpen_11 : decode cX5_isOpen 11 = .ok (.new 87, 3) := by decide +kernel
theorem dX5_isOpen_14 : decode cX5_isOpen 14 = .ok (.dup, 1) := by decide +kernel
theorem dX5_isOpen_15 : decode cX5_isOpen 15 = .ok (.ldc 89, 2) := by decide +kernel
theorem dX5_isOpen_17 : decode cX5_isOpen 17 = .ok (.invokespecial 91, 3) := by decide +kernel
theorem dX5_isOpen_20 : decode cX5_isOpen 20 = .ok (.athrow, 1) := by decide +kernel
theorem dX5_isOpen_21 : decode cX5_isOpen 21 = .ok (.aload_n 0, 1) := by decide +kernel
theorem dX5_isOpen_22 : decode cX5_isOpen 22 = .ok (.getfield 12, 3) := by decide +kernel
theorem dX5_isOpen_25 : decode cX5_isOpen 25 = .ok (.getfield 96, 3) := by decide +kernel
theorem dX5_isOpen_28 : decode cX5_isOpen 28 = .ok (.iload_n 1, 1) := by decide +kernel
theorem dX5_isOpen_29 : decode cX5_isOpen 29 = .ok (.invokestatic 99, 3) := by decide +kernel
theorem dX5_isOpen_32 : decode cX5_isOpen 32 = .ok (.ireturn, 1) := by decide +kernel
set_option maxRecDepth 20000 in
theorem ggX5_inReach_X4_reachable : GoodIn wsX5_inReach wsX4_reachable := goodIn_r _ [6, 7, 8, 9, 10, 11, 5, 12, 13, 14, 15, 16, 27, 28, 29, 30, 31, 32] (by decide +kernel) (by decide +kernel)
set_option maxRecDepth 20000 in
theorem gX5_inReach_X4_reachable : GoodIn wsX5_inReach (wsV RX5 103 RX4 yX4_reachable wsX4_reachable) := goodIn_app (goodIn_of _ (by decide +kernel)) ggX5_inReach_X4_reachable
theorem dX5_inReach_0 : decode cX5_inReach 0 = .ok (.aload_n 0, 1) := by decide +kernel
theorem dX5_inReach_1 : decode cX5_inReach 1 = .ok (.getfield 12, 3) := by decide +kernel
theorem dX5_inReach_4 : decode cX5_inReach 4 = .ok (.invokevirtual 103, 3) := by decide +kernel
theorem dX5_inReach_7 : decode cX5_inReach 7 = .ok (.ireturn, 1) := by decide +kernel
set_option maxRecDepth 20000 in
theorem ggX5_word_X5_isWord : GoodIn wsX5_word wsX5_isWord := goodIn_r _ [9, 10, 11, 8, 12, 13, 14, 15] (by decide +kernel) (by decide +kernel)
set_option maxRecDepth 20000 in
theorem gX5_word_X5_isWord : GoodIn wsX5_word (va_wsS RX5 107 yX5_isWord wsX5_isWord) := goodIn_app (goodIn_of _ (by decide +kernel)) ggX5_word_X5_isWord
set_option maxRecDepth 20000 in
theorem ggX5_word_X3_add : GoodIn wsX5_word wsX3_add := goodIn_r _ [20, 21, 22, 33, 34, 35, 36, 37] (by decide +kernel) (by decide +kernel)
set_option maxRecDepth 20000 in
theorem gX5_word_X3_add : GoodIn wsX5_word (wsV RX5 115 RX3 yX3_add wsX3_add) := goodIn_app (goodIn_of _ (by decide +kernel)) ggX5_word_X3_add
theorem dX5_word_0 : decode cX5_word 0 = .ok (.iload_n 1, 1) := by decide +kernel
theorem dX5_word_1 : decode cX5_word 1 = .ok (.invokestatic 107, 3) := by decide +kernel
theorem dX5_word_4 : decode cX5_word 4 = .ok (.ifCond .ne 13, 3) := by decide +kernel
theorem dX5_word_7 : decode cX5_word 7 = .ok (.new 62, 3) := by decide +kernel
theorem dX5_word_10 : decode cX5_word 10 = .ok (.dup, 1) := by decide +kernel
theorem dX5_word_11 : decode cX5_word 11 = .ok (.ldc 110, 2) := by decide +kernel
theorem dX5_word_13 : decode cX5_word 13 = .ok (.invokespecial 66, 3) := by decide +kernel
theorem dX5_word_16 : decode cX5_word 16 = .ok (.athrow, 1) := by decide +kernel
theorem dX5_word_17 : decode cX5_word 17 = .ok (.aload_n 0, 1) := by decide +kernel
theorem dX5_word_18 : decode cX5_word 18 = .ok (.getfield 19, 3) := by decide +kernel
theorem dX5_word_21 : decode cX5_word 21 = .ok (.getfield 112, 3) := by decide +kernel
theorem dX5_word_24 : decode cX5_word 24 = .ok (.bipush 24, 2) := by decide +kernel
theorem dX5_word_26 : decode cX5_word 26 = .ok (.if_icmp .lt 13, 3) := by decide +kernel
theorem dX5_word_29 : decode cX5_word 29 = .ok (.new 74, 3) := by decide +kernel
theorem dX5_word_32 : decode cX5_word 32 = .ok (.dup, 1) := by decide +kernel
theorem dX5_word_33 : decode cX5_word 33 = .ok (.ldc 113, 2) := by decide +kernel
theorem dX5_word_35 : decode cX5_word 35 = .ok (.invokespecial 78, 3) := by decide +kernel
theorem dX5_word_38 : decode cX5_word 38 = .ok (.athrow, 1) := by decide +kernel
theorem dX5_word_39 : decode cX5_word 39 = .ok (.aload_n 0, 1) := by decide +kernel
theorem dX5_word_40 : decode cX5_word 40 = .ok (.getfield 19, 3) := by decide +kernel
theorem dX5_word_43 : decode cX5_word 43 = .ok (.iload_n 1, 1) := by decide +kernel
theorem dX5_word_44 : decode cX5_word 44 = .ok (.invokevirtual 115, 3) := by decide +kernel
theorem dX5_word_47 : decode cX5_word 47 = .ok (.aload_n 0, 1) := by decide +kernel
theorem dX5_word_48 : decode cX5_word 48 = .ok (.getfield 19, 3) := by decide +kernel
theorem dX5_word_51 : decode cX5_word 51 = .ok (.getfield 112, 3) := by decide +kernel
theorem dX5_word_54 : decode cX5_word 54 = .ok (.ireturn, 1) := by decide +kernel
set_option maxRecDepth 20000 in
theorem ggX5_back_X3_removeLast : GoodIn wsX5_back wsX3_removeLast := goodIn_r _ [8, 9, 10, 21, 22, 23, 24, 25] (by decide +kernel) (by decide +kernel)
set_option maxRecDepth 20000 in
theorem gX5_back_X3_removeLast : GoodIn wsX5_back (wsV RX5 120 RX3 yX3_removeLast wsX3_removeLast) := goodIn_app (goodIn_of _ (by decide +kernel)) ggX5_back_X3_removeLast
theorem dX5_back_0 : decode cX5_back 0 = .ok (.aload_n 0, 1) := by decide +kernel
theorem dX5_back_1 : decode cX5_back 1 = .ok (.getfield 19, 3) := by decide +kernel
theorem dX5_back_4 : decode cX5_back 4 = .ok (.getfield 112, 3) := by decide +kernel
theorem dX5_back_7 : decode cX5_back 7 = .ok (.ifCond .gt 13, 3) := by decide +kernel
theorem dX5_back_10 : decode cX5_back 10 = .ok (.new 74, 3) := by decide +kernel
theorem dX5_back_13 : decode cX5_back 13 = .ok (.dup, 1) := by decide +kernel
theorem dX5_back_14 : decode cX5_back 14 = .ok (.ldc 118, 2) := by decide +kernel
theorem dX5_back_16 : decode cX5_back 16 = .ok (.invokespecial 78, 3) := by decide +kernel
theorem dX5_back_19 : decode cX5_back 19 = .ok (.athrow, 1) := by decide +kernel
theorem dX5_back_20 : decode cX5_back 20 = .ok (.aload_n 0, 1) := by decide +kernel
theorem dX5_back_21 : decode cX5_back 21 = .ok (.getfield 19, 3) := by decide +kernel
theorem dX5_back_24 : decode cX5_back 24 = .ok (.invokevirtual 120, 3) := by decide +kernel
theorem dX5_back_27 : decode cX5_back 27 = .ok (.ireturn, 1) := by decide +kernel
set_option maxRecDepth 20000 in
theorem ggX5_say_X3_peek : GoodIn wsX5_say wsX3_peek := goodIn_r _ [10, 11, 12, 13, 244, 245, 246, 247, 248] (by decide +kernel) (by decide +kernel)
set_option maxRecDepth 20000 in
theorem gX5_say_X3_peek : GoodIn wsX5_say (wsV RX5 123 RX3 yX3_peek wsX3_peek) := goodIn_app (goodIn_of _ (by decide +kernel)) ggX5_say_X3_peek
set_option maxRecDepth 20000 in
theorem ggX5_say_X5_isVerb : GoodIn wsX5_say wsX5_isVerb := goodIn_r _ [17] (by decide +kernel) (by decide +kernel)
set_option maxRecDepth 20000 in
theorem gX5_say_X5_isVerb : GoodIn wsX5_say (va_wsS RX5 126 yX5_isVerb wsX5_isVerb) := goodIn_app (goodIn_of _ (by decide +kernel)) ggX5_say_X5_isVerb
set_option maxRecDepth 20000 in
theorem ggX5_say_X5_hearOrder : GoodIn wsX5_say wsX5_hearOrder := goodIn_r _ [21, 22, 2, 1, 23, 24, 25, 16, 26, 4, 27, 28, 29, 30, 31, 32, 33, 34, 35, 7, 8, 9, 10, 11, 12, 13, 36, 37, 38, 39, 40, 41, 42, 43, 44, 45, 46, 47, 48, 49, 50, 51, 52, 53, 54, 55, 56, 57, 58, 59, 60, 61, 62, 63, 64, 65, 66, 67, 68, 69, 70, 71, 72, 73, 74, 75, 76, 77, 78, 79, 80, 81, 82, 83, 84, 85, 86, 87, 88, 89, 90, 91, 92, 93, 94, 95, 96, 97, 98, 99, 100, 101, 102, 103, 104, 105, 106, 107, 108, 109, 110, 111, 112, 113, 114, 115, 116, 117, 118, 119, 120, 121, 122, 123, 124, 125, 126, 127, 128, 129, 130, 131, 132, 133, 134, 135, 136, 137, 138, 139, 140, 141, 142, 143, 144, 145, 146, 147, 148, 149, 150, 151, 152, 153, 154, 155, 156, 157, 158, 159, 160, 161, 162, 163, 164, 165, 166, 167, 168, 169, 170, 171, 172, 173, 174, 175, 176, 177, 178, 179, 180, 181, 182, 183, 184, 185, 186, 187, 188, 189, 190, 191, 192, 193, 194, 195, 196, 197, 198, 199, 200, 201, 202, 203, 204, 205, 206, 207, 208, 209, 210, 211, 234, 235, 236, 237, 238, 239, 240, 241, 242, 243, 244, 245, 246, 247, 248, 249, 250, 251, 252, 253, 254, 255, 256, 257, 258, 259, 260, 261, 262, 263, 264, 265, 266, 267, 268, 269, 270, 271, 272, 273, 274, 275, 276] (by decide +kernel) (by decide +kernel)
set_option maxRecDepth 20000 in
theorem gX5_say_X5_hearOrder : GoodIn wsX5_say (wsV RX5 129 RX5 yX5_hearOrder wsX5_hearOrder) := goodIn_app (goodIn_of _ (by decide +kernel)) ggX5_say_X5_hearOrder
set_option maxRecDepth 20000 in
theorem ggX5_say_X5_hearAnswer : GoodIn wsX5_say wsX5_hearAnswer := goodIn_r _ [215, 2, 1, 185, 4, 22, 27, 216, 217, 218, 9, 219, 75, 220, 37, 38, 39, 11, 40, 7, 8, 10, 12, 13, 221, 72, 73, 74, 76, 77, 16, 78, 222, 84, 85, 86, 223, 88, 89, 90, 224, 157, 158, 109, 159, 111, 160, 161, 225, 163, 164, 165, 166, 167, 168, 226, 227, 228, 31, 229, 54, 63, 64, 65, 66, 33, 23, 24, 25, 26, 91, 92, 93, 94, 95, 96, 97, 98, 99, 100, 101, 102, 103, 104, 105, 106, 107, 108, 110, 112, 113, 114, 115, 116, 117, 118, 119, 120, 121, 122, 123, 124, 125, 126, 127, 128, 129, 130, 131, 132, 133, 134, 135, 136, 137, 60, 61, 62, 49, 138, 139, 140, 141, 142, 143, 144, 145, 146, 147, 148, 149, 150, 151, 152, 153, 154, 155, 156, 162, 169, 170, 171, 172, 173, 174, 175, 176, 177, 178, 179, 180, 53, 181, 182, 183, 184, 186, 187, 188, 189, 190, 191, 192, 193, 194, 195, 196, 197, 198, 199, 200, 201, 202, 203, 204, 205, 206, 207, 208, 209, 210, 211, 234, 235, 236, 237, 238, 239, 240, 241, 242, 243, 244, 245, 246, 247, 248, 266, 267, 268, 269, 270, 271, 249, 250, 251, 252, 253, 254, 255, 256, 257, 258, 259, 260, 261, 262, 263, 264, 265, 272, 273, 274, 275, 276] (by decide +kernel) (by decide +kernel)
set_option maxRecDepth 20000 in
theorem gX5_say_X5_hearAnswer : GoodIn wsX5_say (wsV RX5 132 RX5 yX5_hearAnswer wsX5_hearAnswer) := goodIn_app (goodIn_of _ (by decide +kernel)) ggX5_say_X5_hearAnswer
set_option maxRecDepth 20000 in
theorem ggX5_say_X3_clear : GoodIn wsX5_say wsX3_clear := goodIn_r _ [233, 12, 11, 244, 245, 246, 247, 248] (by decide +kernel) (by decide +kernel)
set_option maxRecDepth 20000 in
theorem gX5_say_X3_clear : GoodIn wsX5_say (wsV RX5 135 RX3 yX3_clear wsX3_clear) := goodIn_app (goodIn_of _ (by decide +kernel)) ggX5_say_X3_clear
theorem dX5_say_0 : decode cX5_say 0 = .ok (.aload_n 0, 1) := by decide +kernel
theorem dX5_say_1 : decode cX5_say 1 = .ok (.iconst (-1), 1) := by decide +kernel
theorem dX5_say_2 : decode cX5_say 2 = .ok (.putfield 50, 3) := by decide +kernel
theorem dX5_say_5 : decode cX5_say 5 = .ok (.aload_n 0, 1) := by decide +kernel
theorem dX5_say_6 : decode cX5_say 6 = .ok (.getfield 19, 3) := by decide +kernel
theorem dX5_say_9 : decode cX5_say 9 = .ok (.getfield 112, 3) := by decide +kernel
theorem dX5_say_12 : decode cX5_say 12 = .ok (.ifCond .ne 11, 3) := by decide +kernel
theorem dX5_say_15 : decode cX5_say 15 = .ok (.aload_n 0, 1) := by decide +kernel
theorem dX5_say_16 : decode cX5_say 16 = .ok (.iconst 2, 1) := by decide +kernel
theorem dX5_say_17 : decode cX5_say 17 = .ok (.putfield 46, 3) := by decide +kernel
theorem dX5_say_20 : decode cX5_say 20 = .ok (.goto 50, 3) := by decide +kernel
theorem dX5_say_23 : decode cX5_say 23 = .ok (.aload_n 0, 1) := by decide +kernel
theorem dX5_say_24 : decode cX5_say 24 = .ok (.getfield 19, 3) := by decide +kernel
theorem dX5_say_27 : decode cX5_say 27 = .ok (.invokevirtual 123, 3) := by decide +kernel
theorem dX5_say_30 : decode cX5_say 30 = .ok (.invokestatic 126, 3) := by decide +kernel
theorem dX5_say_33 : decode cX5_say 33 = .ok (.ifCond .eq 14, 3) := by decide +kernel
theorem dX5_say_36 : decode cX5_say 36 = .ok (.aload_n 0, 1) := by decide +kernel
theorem dX5_say_37 : decode cX5_say 37 = .ok (.aload_n 0, 1) := by decide +kernel
theorem dX5_say_38 : decode cX5_say 38 = .ok (.invokevirtual 129, 3) := by decide +kernel
theorem dX5_say_41 : decode cX5_say 41 = .ok (.putfield 46, 3) := by decide +kernel
theorem dX5_say_44 : decode cX5_say 44 = .ok (.goto 26, 3) := by decide +kernel
theorem dX5_say_47 : decode cX5_say 47 = .ok (.aload_n 0, 1) := by decide +kernel
theorem dX5_say_48 : decode cX5_say 48 = .ok (.getfield 53, 3) := by decide +kernel
theorem dX5_say_51 : decode cX5_say 51 = .ok (.ifCond .eq 14, 3) := by decide +kernel
theorem dX5_say_54 : decode cX5_say 54 = .ok (.aload_n 0, 1) := by decide +kernel
theorem dX5_say_55 : decode cX5_say 55 = .ok (.aload_n 0, 1) := by decide +kernel
theorem dX5_say_56 : decode cX5_say 56 = .ok (.invokevirtual 132, 3) := by decide +kernel
theorem dX5_say_59 : decode cX5_say 59 = .ok (.putfield 46, 3) := by decide +kernel
theorem dX5_say_62 : decode cX5_say 62 = .ok (.goto 8, 3) := by decide +kernel
theorem dX5_say_65 : decode cX5_say 65 = .ok (.aload_n 0, 1) := by decide +kernel
theorem dX5_say_66 : decode cX5_say 66 = .ok (.iconst 3, 1) := by decide +kernel
theorem dX5_say_67 : decode cX5_say 67 = .ok (.putfield 46, 3) := by decide +kernel
theorem dX5_say_70 : decode cX5_say 70 = .ok (.aload_n 0, 1) := by decide +kernel
theorem dX5_say_71 : decode cX5_say 71 = .ok (.getfield 46, 3) := by decide +kernel
theorem dX5_say_74 : decode cX5_say 74 = .ok (.iconst 1, 1) := by decide +kernel
theorem dX5_say_75 : decode cX5_say 75 = .ok (.if_icmp .ne 13, 3) := by decide +kernel
theorem dX5_say_78 : decode cX5_say 78 = .ok (.aload_n 0, 1) := by decide +kernel
theorem dX5_say_79 : decode cX5_say 79 = .ok (.dup, 1) := by decide +kernel
theorem dX5_say_80 : decode cX5_say 80 = .ok (.getfield 59, 3) := by decide +kernel
theorem dX5_say_83 : decode cX5_say 83 = .ok (.iconst 1, 1) := by decide +kernel
theorem dX5_say_84 : decode cX5_say 84 = .ok (.iadd, 1) := by decide +kernel
theorem dX5_say_85 : decode cX5_say 85 = .ok (.putfield 59, 3) := by decide +kernel
theorem dX5_say_88 : decode cX5_say 88 = .ok (.aload_n 0, 1) := by decide +kernel
theorem dX5_say_89 : decode cX5_say 89 = .ok (.getfield 19, 3) := by decide +kernel
theorem dX5_say_92 : decode cX5_say 92 = .ok (.invokevirtual 135, 3) := by decide +kernel
theorem dX5_say_95 : decode cX5_say 95 = .ok (.aload_n 0, 1) := by decide +kernel
theorem dX5_say_96 : decode cX5_say 96 = .ok (.getfield 46, 3) := by decide +kernel
theorem dX5_say_99 : decode cX5_say 99 = .ok (.ireturn, 1) := by decide +kernel
theorem dX5_outcome_0 : decode cX5_outcome 0 = .ok (.aload_n 0, 1) := by decide +kernel
theorem dX5_outcome_1 : decode cX5_outcome 1 = .ok (.getfield 46, 3) := by decide +kernel
theorem dX5_outcome_4 : decode cX5_outcome 4 = .ok (.ireturn, 1) := by decide +kernel
theorem dX5_wrongAt_0 : decode cX5_wrongAt 0 = .ok (.aload_n 0, 1) := by decide +kernel
theorem dX5_wrongAt_1 : decode cX5_wrongAt 1 = .ok (.getfield 50, 3) := by decide +kernel
theorem dX5_wrongAt_4 : decode cX5_wrongAt 4 = .ok (.ireturn, 1) := by decide +kernel
theorem dX5_verb_0 : decode cX5_verb 0 = .ok (.aload_n 0, 1) := by decide +kernel
theorem dX5_verb_1 : decode cX5_verb 1 = .ok (.getfield 33, 3) := by decide +kernel
theorem dX5_verb_4 : decode cX5_verb 4 = .ok (.getfield 138, 3) := by decide +kernel
theorem dX5_verb_7 : decode cX5_verb 7 = .ok (.ireturn, 1) := by decide +kernel
theorem dX5_meant_0 : decode cX5_meant 0 = .ok (.aload_n 0, 1) := by decide +kernel
theorem dX5_meant_1 : decode cX5_meant 1 = .ok (.getfield 33, 3) := by decide +kernel
theorem dX5_meant_4 : decode cX5_meant 4 = .ok (.getfield 141, 3) := by decide +kernel
theorem dX5_meant_7 : decode cX5_meant 7 = .ok (.ireturn, 1) := by decide +kernel
theorem dX5_done_0 : decode cX5_done 0 = .ok (.aload_n 0, 1) := by decide +kernel
theorem dX5_done_1 : decode cX5_done 1 = .ok (.getfield 33, 3) := by decide +kernel
theorem dX5_done_4 : decode cX5_done 4 = .ok (.getfield 144, 3) := by decide +kernel
theorem dX5_done_7 : decode cX5_done 7 = .ok (.ireturn, 1) := by decide +kernel
theorem dX5_into_0 : decode cX5_into 0 = .ok (.aload_n 0, 1) := by decide +kernel
theorem dX5_into_1 : decode cX5_into 1 = .ok (.getfield 33, 3) := by decide +kernel
theorem dX5_into_4 : decode cX5_into 4 = .ok (.getfield 147, 3) := by decide +kernel
theorem dX5_into_7 : decode cX5_into 7 = .ok (.ireturn, 1) := by decide +kernel
theorem dX5_asked_0 : decode cX5_asked 0 = .ok (.aload_n 0, 1) := by decide +kernel
theorem dX5_asked_1 : decode cX5_asked 1 = .ok (.getfield 53, 3) := by decide +kernel
theorem dX5_asked_4 : decode cX5_asked 4 = .ok (.ireturn, 1) := by decide +kernel
set_option maxRecDepth 20000 in
theorem ggX5_askedAt_X2_lastPlaceOf : GoodIn wsX5_askedAt wsX2_lastPlaceOf := goodIn_r _ [8, 9, 10, 11, 12, 7, 13, 14, 25, 26, 27, 28, 29, 30, 31, 32] (by decide +kernel) (by decide +kernel)
set_option maxRecDepth 20000 in
theorem gX5_askedAt_X2_lastPlaceOf : GoodIn wsX5_askedAt (wsV RX5 150 RX2 yX2_lastPlaceOf wsX2_lastPlaceOf) := goodIn_app (goodIn_of _ (by decide +kernel)) ggX5_askedAt_X2_lastPlaceOf
theorem dX5_askedAt_0 : decode cX5_askedAt 0 = .ok (.aload_n 0, 1) := by decide +kernel
theorem dX5_askedAt_1 : decode cX5_askedAt 1 = .ok (.getfield 53, 3) := by decide +kernel
theorem dX5_askedAt_4 : decode cX5_askedAt 4 = .ok (.ifCond .ne 7, 3) := by decide +kernel
theorem dX5_askedAt_7 : decode cX5_askedAt 7 = .ok (.iconst (-1), 1) := by decide +kernel
theorem dX5_askedAt_8 : decode cX5_askedAt 8 = .ok (.goto 14, 3) := by decide +kernel
theorem dX5_askedAt_11 : decode cX5_askedAt 11 = .ok (.aload_n 0, 1) := by decide +kernel
theorem dX5_askedAt_12 : decode cX5_askedAt 12 = .ok (.getfield 26, 3) := by decide +kernel
theorem dX5_askedAt_15 : decode cX5_askedAt 15 = .ok (.aload_n 0, 1) := by decide +kernel
theorem dX5_askedAt_16 : decode cX5_askedAt 16 = .ok (.getfield 56, 3) := by decide +kernel
theorem dX5_askedAt_19 : decode cX5_askedAt 19 = .ok (.invokevirtual 150, 3) := by decide +kernel
theorem dX5_askedAt_22 : decode cX5_askedAt 22 = .ok (.ireturn, 1) := by decide +kernel
theorem dX5_questions_0 : decode cX5_questions 0 = .ok (.aload_n 0, 1) := by decide +kernel
theorem dX5_questions_1 : decode cX5_questions 1 = .ok (.getfield 59, 3) := by decide +kernel
theorem dX5_questions_4 : decode cX5_questions 4 = .ok (.ireturn, 1) := by decide +kernel
set_option maxRecDepth 20000 in
theorem ggX5_hearOrder_X5_dropQuestion : GoodIn wsX5_hearOrder wsX5_dropQuestion := goodIn_r _ [8, 9, 10, 202, 203, 204, 205, 206, 207, 208, 209, 210, 211] (by decide +kernel) (by decide +kernel)
set_option maxRecDepth 20000 in
theorem gX5_hearOrder_X5_dropQuestion : GoodIn wsX5_hearOrder (wsV RX5 153 RX5 yX5_dropQuestion wsX5_dropQuestion) := goodIn_app (goodIn_of _ (by decide +kernel)) ggX5_hearOrder_X5_dropQuestion
set_option maxRecDepth 20000 in
theorem ggX5_hearOrder_X2_read : GoodIn wsX5_hearOrder wsX2_read := goodIn_r _ [15, 16, 17, 18, 19, 20, 21, 22, 23, 24, 25, 26, 27, 28, 29, 30, 31, 32, 33, 14, 34, 35, 36, 37, 38, 39, 40, 41, 42, 43, 44, 45, 46, 47, 48, 49, 50, 51, 52, 53, 54, 55, 56, 57, 58, 59, 60, 61, 62, 63, 64, 65, 66, 67, 7, 68, 69, 70, 71, 72, 73, 74, 75, 76, 77, 78, 79, 80, 217, 218, 219, 220, 221, 222, 223, 224, 212, 213, 214, 215, 216] (by decide +kernel) (by decide +kernel)
set_option maxRecDepth 20000 in
theorem gX5_hearOrder_X2_read : GoodIn wsX5_hearOrder (wsV RX5 156 RX2 yX2_read wsX2_read) := goodIn_app (goodIn_of _ (by decide +kernel)) ggX5_hearOrder_X2_read
set_option maxRecDepth 20000 in
theorem ggX5_hearOrder_X5_lookAtOrder : GoodIn wsX5_hearOrder wsX5_lookAtOrder := goodIn_r _ [84, 85, 1, 3, 9, 10, 86, 87, 88, 89, 90, 91, 92, 93, 94, 95, 96, 97, 98, 99, 100, 101, 102, 103, 104, 105, 106, 107, 108, 7, 109, 110, 111, 112, 113, 114, 115, 116, 117, 118, 119, 120, 121, 122, 123, 124, 125, 126, 127, 50, 51, 14, 52, 39, 53, 54, 55, 56, 16, 128, 129, 130, 131, 132, 133, 134, 135, 136, 137, 138, 139, 140, 141, 142, 143, 144, 145, 146, 147, 148, 149, 150, 151, 152, 153, 154, 155, 156, 157, 158, 159, 160, 161, 162, 163, 164, 165, 166, 167, 168, 169, 170, 43, 171, 172, 173, 174, 175, 176, 177, 178, 179, 180, 181, 182, 183, 184, 185, 186, 187, 188, 189, 190, 191, 192, 193, 194, 195, 196, 197, 198, 199, 200, 201, 202, 203, 204, 205, 206, 207, 208, 209, 210, 211, 225, 226, 227, 228, 229, 230, 231, 232, 233, 217, 218, 219, 220, 221, 222, 223, 224, 234, 235, 236, 237, 238, 239, 240, 241, 242, 243, 244] (by decide +kernel) (by decide +kernel)
set_option maxRecDepth 20000 in
theorem gX5_hearOrder_X5_lookAtOrder : GoodIn wsX5_hearOrder (wsV RX5 163 RX5 yX5_lookAtOrder wsX5_lookAtOrder) := goodIn_app (goodIn_of _ (by decide +kernel)) ggX5_hearOrder_X5_lookAtOrder
theorem dX5_hearOrder_0 : decode cX5_hearOrder 0 = .ok (.aload_n 0, 1) := by decide +kernel
theorem dX5_hearOrder_1 : decode cX5_hearOrder 1 = .ok (.invokevirtual 153, 3) := by decide +kernel
theorem dX5_hearOrder_4 : decode cX5_hearOrder 4 = .ok (.aload_n 0, 1) := by decide +kernel
theorem dX5_hearOrder_5 : decode cX5_hearOrder 5 = .ok (.getfield 26, 3) := by decide +kernel
theorem dX5_hearOrder_8 : decode cX5_hearOrder 8 = .ok (.aload_n 0, 1) := by decide +kernel
theorem dX5_hearOrder_9 : decode cX5_hearOrder 9 = .ok (.getfield 19, 3) := by decide +kernel
theorem dX5_hearOrder_12 : decode cX5_hearOrder 12 = .ok (.invokevirtual 156, 3) := by decide +kernel
theorem dX5_hearOrder_15 : decode cX5_hearOrder 15 = .ok (.ifCond .ne 16, 3) := by decide +kernel
theorem dX5_hearOrder_18 : decode cX5_hearOrder 18 = .ok (.aload_n 0, 1) := by decide +kernel
theorem dX5_hearOrder_19 : decode cX5_hearOrder 19 = .ok (.aload_n 0, 1) := by decide +kernel
theorem dX5_hearOrder_20 : decode cX5_hearOrder 20 = .ok (.getfield 19, 3) := by decide +kernel
theorem dX5_hearOrder_23 : decode cX5_hearOrder 23 = .ok (.getfield 160, 3) := by decide +kernel
theorem dX5_hearOrder_26 : decode cX5_hearOrder 26 = .ok (.putfield 50, 3) := by decide +kernel
theorem dX5_hearOrder_29 : decode cX5_hearOrder 29 = .ok (.iconst 4, 1) := by decide +kernel
theorem dX5_hearOrder_30 : decode cX5_hearOrder 30 = .ok (.ireturn, 1) := by decide +kernel
theorem dX5_hearOrder_31 : decode cX5_hearOrder 31 = .ok (.aload_n 0, 1) := by decide +kernel
theorem dX5_hearOrder_32 : decode cX5_hearOrder 32 = .ok (.invokevirtual 163, 3) := by decide +kernel
theorem dX5_hearOrder_35 : decode cX5_hearOrder 35 = .ok (.ireturn, 1) := by decide +kernel
set_option maxRecDepth 20000 in
theorem ggX5_hearAnswer_X3_readAnswer : GoodIn wsX5_hearAnswer wsX3_readAnswer := goodIn_r _ [11, 12, 13, 14, 15, 10, 16, 17, 18, 19, 20, 21, 22, 23, 24, 25, 26, 27, 28, 29, 30, 31, 32, 33, 34, 35, 36, 37, 38, 39, 192, 193, 194, 195, 196] (by decide +kernel) (by decide +kernel)
set_option maxRecDepth 20000 in
theorem gX5_hearAnswer_X3_readAnswer : GoodIn wsX5_hearAnswer (wsV RX5 166 RX3 yX3_readAnswer wsX3_readAnswer) := goodIn_app (goodIn_of _ (by decide +kernel)) ggX5_hearAnswer_X3_readAnswer
set_option maxRecDepth 20000 in
theorem ggX5_hearAnswer_X4_described : GoodIn wsX5_hearAnswer wsX4_described := goodIn_r _ [44, 45, 46, 47, 197, 198, 199, 200, 201, 202] (by decide +kernel) (by decide +kernel)
set_option maxRecDepth 20000 in
theorem gX5_hearAnswer_X4_described : GoodIn wsX5_hearAnswer (wsV RX5 176 RX4 yX4_described wsX4_described) := goodIn_app (goodIn_of _ (by decide +kernel)) ggX5_hearAnswer_X4_described
set_option maxRecDepth 20000 in
theorem ggX5_hearAnswer_J6_bitCount_0f7a4 : GoodIn wsX5_hearAnswer wsJ6_bitCount_0f7a4 := goodIn_r _ [51, 52, 53, 54] (by decide +kernel) (by decide +kernel)
set_option maxRecDepth 20000 in
theorem gX5_hearAnswer_J6_bitCount_0f7a4 : GoodIn wsX5_hearAnswer (va_wsS RX5 180 yJ6_bitCount_0f7a4 wsJ6_bitCount_0f7a4) := goodIn_app (goodIn_of _ (by decide +kernel)) ggX5_hearAnswer_J6_bitCount_0f7a4
set_option maxRecDepth 20000 in
theorem ggX5_hearAnswer_X2_answer : GoodIn wsX5_hearAnswer wsX2_answer := goodIn_r _ [59, 60, 61, 62, 63, 58, 64, 65, 203, 204, 205, 206, 207, 208, 209, 210] (by decide +kernel) (by decide +kernel)
set_option maxRecDepth 20000 in
theorem gX5_hearAnswer_X2_answer : GoodIn wsX5_hearAnswer (wsV RX5 185 RX2 yX2_answer wsX2_answer) := goodIn_app (goodIn_of _ (by decide +kernel)) ggX5_hearAnswer_X2_answer
set_option maxRecDepth 20000 in
theorem ggX5_hearAnswer_X5_dropQuestion : GoodIn wsX5_hearAnswer wsX5_dropQuestion := goodIn_r _ [69, 4, 6, 182, 183, 184, 185, 186, 187, 188, 189, 190, 191] (by decide +kernel) (by decide +kernel)
set_option maxRecDepth 20000 in
theorem gX5_hearAnswer_X5_dropQuestion : GoodIn wsX5_hearAnswer (wsV RX5 153 RX5 yX5_dropQuestion wsX5_dropQuestion) := goodIn_app (goodIn_of _ (by decide +kernel)) ggX5_hearAnswer_X5_dropQuestion
set_option maxRecDepth 20000 in
theorem ggX5_hearAnswer_X5_lookAtOrder : GoodIn wsX5_hearAnswer wsX5_lookAtOrder := goodIn_r _ [73, 74, 5, 2, 4, 6, 75, 76, 77, 78, 79, 80, 81, 82, 83, 84, 85, 86, 87, 43, 88, 45, 89, 90, 91, 92, 93, 94, 95, 30, 96, 97, 98, 99, 100, 101, 102, 103, 104, 105, 106, 107, 108, 109, 110, 111, 112, 113, 114, 115, 116, 58, 117, 118, 61, 62, 63, 64, 65, 119, 120, 121, 122, 123, 124, 125, 126, 127, 128, 129, 130, 131, 132, 133, 134, 135, 136, 137, 41, 42, 44, 46, 47, 138, 49, 50, 51, 52, 53, 54, 139, 140, 141, 142, 143, 144, 145, 146, 147, 148, 149, 150, 151, 152, 153, 154, 155, 3, 156, 157, 158, 159, 160, 161, 162, 163, 164, 165, 166, 167, 168, 169, 170, 171, 172, 173, 174, 175, 176, 177, 178, 179, 180, 181, 182, 183, 184, 185, 186, 187, 188, 189, 190, 191, 211, 212, 213, 214, 215, 216, 217, 218, 219, 203, 204, 205, 206, 207, 208, 209, 210, 197, 198, 199, 200, 201, 202, 220, 221, 222, 223, 224] (by decide +kernel) (by decide +kernel)
set_option maxRecDepth 20000 in
theorem gX5_hearAnswer_X5_lookAtOrder : GoodIn wsX5_hearAnswer (wsV RX5 163 RX5 yX5_lookAtOrder wsX5_lookAtOrder) := goodIn_app (goodIn_of _ (by decide +kernel)) ggX5_hearAnswer_X5_lookAtOrder
theorem dX5_hearAnswer_0 : decode cX5_hearAnswer 0 = .ok (.aload_n 0, 1) := by decide +kernel
theorem dX5_hearAnswer_1 : decode cX5_hearAnswer 1 = .ok (.getfield 19, 3) := by decide +kernel
theorem dX5_hearAnswer_4 : decode cX5_hearAnswer 4 = .ok (.invokevirtual 166, 3) := by decide +kernel
theorem dX5_hearAnswer_7 : decode cX5_hearAnswer 7 = .ok (.ifCond .ne 16, 3) := by decide +kernel
theorem dX5_hearAnswer_10 : decode cX5_hearAnswer 10 = .ok (.aload_n 0, 1) := by decide +kernel
theorem dX5_hearAnswer_11 : decode cX5_hearAnswer 11 = .ok (.aload_n 0, 1) := by decide +kernel
theorem dX5_hearAnswer_12 : decode cX5_hearAnswer 12 = .ok (.getfield 19, 3) := by decide +kernel
theorem dX5_hearAnswer_15 : decode cX5_hearAnswer 15 = .ok (.getfield 160, 3) := by decide +kernel
theorem dX5_hearAnswer_18 : decode cX5_hearAnswer 18 = .ok (.putfield 50, 3) := by decide +kernel
theorem dX5_hearAnswer_21 : decode cX5_hearAnswer 21 = .ok (.iconst 4, 1) := by decide +kernel
theorem dX5_hearAnswer_22 : decode cX5_hearAnswer 22 = .ok (.ireturn, 1) := by decide +kernel
theorem dX5_hearAnswer_23 : decode cX5_hearAnswer 23 = .ok (.aload_n 0, 1) := by decide +kernel
theorem dX5_hearAnswer_24 : decode cX5_hearAnswer 24 = .ok (.getfield 12, 3) := by decide +kernel
theorem dX5_hearAnswer_27 : decode cX5_hearAnswer 27 = .ok (.aload_n 0, 1) := by decide +kernel
theorem dX5_hearAnswer_28 : decode cX5_hearAnswer 28 = .ok (.getfield 53, 3) := by decide +kernel
theorem dX5_hearAnswer_31 : decode cX5_hearAnswer 31 = .ok (.aload_n 0, 1) := by decide +kernel
theorem dX5_hearAnswer_32 : decode cX5_hearAnswer 32 = .ok (.getfield 19, 3) := by decide +kernel
theorem dX5_hearAnswer_35 : decode cX5_hearAnswer 35 = .ok (.getfield 170, 3) := by decide +kernel
theorem dX5_hearAnswer_38 : decode cX5_hearAnswer 38 = .ok (.aload_n 0, 1) := by decide +kernel
theorem dX5_hearAnswer_39 : decode cX5_hearAnswer 39 = .ok (.getfield 19, 3) := by decide +kernel
theorem dX5_hearAnswer_42 : decode cX5_hearAnswer 42 = .ok (.getfield 173, 3) := by decide +kernel
theorem dX5_hearAnswer_45 : decode cX5_hearAnswer 45 = .ok (.invokevirtual 176, 3) := by decide +kernel
theorem dX5_hearAnswer_48 : decode cX5_hearAnswer 48 = .ok (.istore_n 1, 1) := by decide +kernel
theorem dX5_hearAnswer_49 : decode cX5_hearAnswer 49 = .ok (.iload_n 1, 1) := by decide +kernel
theorem dX5_hearAnswer_50 : decode cX5_hearAnswer 50 = .ok (.ifCond .ne 5, 3) := by decide +kernel
theorem dX5_hearAnswer_53 : decode cX5_hearAnswer 53 = .ok (.iconst 5, 1) := by decide +kernel
theorem dX5_hearAnswer_54 : decode cX5_hearAnswer 54 = .ok (.ireturn, 1) := by decide +kernel
theorem dX5_hearAnswer_55 : decode cX5_hearAnswer 55 = .ok (.iload_n 1, 1) := by decide +kernel
theorem dX5_hearAnswer_56 : decode cX5_hearAnswer 56 = .ok (.invokestatic 180, 3) := by decide +kernel
theorem dX5_hearAnswer_59 : decode cX5_hearAnswer 59 = .ok (.iconst 1, 1) := by decide +kernel
theorem dX5_hearAnswer_60 : decode cX5_hearAnswer 60 = .ok (.if_icmp .le 10, 3) := by decide +kernel
theorem dX5_hearAnswer_63 : decode cX5_hearAnswer 63 = .ok (.aload_n 0, 1) := by decide +kernel
theorem dX5_hearAnswer_64 : decode cX5_hearAnswer 64 = .ok (.iload_n 1, 1) := by decide +kernel
theorem dX5_hearAnswer_65 : decode cX5_hearAnswer 65 = .ok (.putfield 53, 3) := by decide +kernel
theorem dX5_hearAnswer_68 : decode cX5_hearAnswer 68 = .ok (.iconst 1, 1) := by decide +kernel
theorem dX5_hearAnswer_69 : decode cX5_hearAnswer 69 = .ok (.ireturn, 1) := by decide +kernel
theorem dX5_hearAnswer_70 : decode cX5_hearAnswer 70 = .ok (.aload_n 0, 1) := by decide +kernel
theorem dX5_hearAnswer_71 : decode cX5_hearAnswer 71 = .ok (.getfield 26, 3) := by decide +kernel
theorem dX5_hearAnswer_74 : decode cX5_hearAnswer 74 = .ok (.aload_n 0, 1) := by decide +kernel
theorem dX5_hearAnswer_75 : decode cX5_hearAnswer 75 = .ok (.getfield 56, 3) := by decide +kernel
theorem dX5_hearAnswer_78 : decode cX5_hearAnswer 78 = .ok (.iload_n 1, 1) := by decide +kernel
theorem dX5_hearAnswer_79 : decode cX5_hearAnswer 79 = .ok (.invokevirtual 185, 3) := by decide +kernel
theorem dX5_hearAnswer_82 : decode cX5_hearAnswer 82 = .ok (.aload_n 0, 1) := by decide +kernel
theorem dX5_hearAnswer_83 : decode cX5_hearAnswer 83 = .ok (.invokevirtual 153, 3) := by decide +kernel
theorem dX5_hearAnswer_86 : decode cX5_hearAnswer 86 = .ok (.aload_n 0, 1) := by decide +kernel
theorem dX5_hearAnswer_87 : decode cX5_hearAnswer 87 = .ok (.invokevirtual 163, 3) := by decide +kernel
theorem dX5_hearAnswer_90 : decode cX5_hearAnswer 90 = .ok (.ireturn, 1) := by decide +kernel
theorem dX5_dropQuestion_0 : decode cX5_dropQuestion 0 = .ok (.aload_n 0, 1) := by decide +kernel
theorem dX5_dropQuestion_1 : decode cX5_dropQuestion 1 = .ok (.iconst 0, 1) := by decide +kernel
theorem dX5_dropQuestion_2 : decode cX5_dropQuestion 2 = .ok (.putfield 53, 3) := by decide +kernel
theorem dX5_dropQuestion_5 : decode cX5_dropQuestion 5 = .ok (.aload_n 0, 1) := by decide +kernel
theorem dX5_dropQuestion_6 : decode cX5_dropQuestion 6 = .ok (.iconst (-1), 1) := by decide +kernel
theorem dX5_dropQuestion_7 : decode cX5_dropQuestion 7 = .ok (.putfield 56, 3) := by decide +kernel
theorem dX5_dropQuestion_10 : decode cX5_dropQuestion 10 = .ok (.return_, 1) := by decide +kernel
set_option maxRecDepth 20000 in
theorem ggX5_lookAtOrder_X0_find : GoodIn wsX5_lookAtOrder wsX0_find := goodIn_r _ [10, 11, 12, 13, 14, 15, 16, 17, 18, 19, 20, 21, 22, 23, 24, 25, 26, 27, 28, 29, 30, 31, 32, 33, 9, 34, 35, 36, 37, 38, 39, 40, 41, 42, 43, 44, 45, 46, 47, 48, 49, 50, 51, 52, 53, 54, 55, 56, 57, 58, 59, 60, 61, 62, 63, 64, 65, 66, 67, 68, 69, 70, 71, 72, 73, 74, 75, 76, 77, 78, 79, 80, 81, 82, 83, 84, 85, 86, 87, 88, 89, 90, 91, 92, 93, 94, 95, 96, 97, 144, 145, 146, 147, 148, 149, 150, 151, 152, 153, 154, 155, 156, 157, 158, 159, 160, 161, 162, 163, 164, 165, 166, 167, 168, 169, 170, 171] (by decide +kernel) (by decide +kernel)
set_option maxRecDepth 20000 in
theorem gX5_lookAtOrder_X0_find : GoodIn wsX5_lookAtOrder (wsV RX5 189 RX0 yX0_find wsX0_find) := goodIn_app (goodIn_of _ (by decide +kernel)) ggX5_lookAtOrder_X0_find
set_option maxRecDepth 20000 in
theorem ggX5_lookAtOrder_X2_lastPlaceOf : GoodIn wsX5_lookAtOrder wsX2_lastPlaceOf := goodIn_r _ [101, 102, 54, 55, 56, 51, 57, 58, 153, 154, 155, 156, 157, 158, 159, 160] (by decide +kernel) (by decide +kernel)
set_option maxRecDepth 20000 in
theorem gX5_lookAtOrder_X2_lastPlaceOf : GoodIn wsX5_lookAtOrder (wsV RX5 150 RX2 yX2_lastPlaceOf wsX2_lastPlaceOf) := goodIn_app (goodIn_of _ (by decide +kernel)) ggX5_lookAtOrder_X2_lastPlaceOf
set_option maxRecDepth 20000 in
theorem ggX5_lookAtOrder_X5_carryOut : GoodIn wsX5_lookAtOrder wsX5_carryOut := goodIn_r _ [106, 1, 107, 2, 108, 109, 28, 29, 30, 110, 111, 112, 19, 113, 27, 22, 114, 115, 116, 117, 21, 118, 39, 40, 41, 42, 43, 17, 18, 20, 23, 24, 25, 26, 44, 45, 46, 47, 119, 120, 121, 122, 123, 124, 125, 126, 127, 128, 129, 130, 131, 132, 133, 84, 85, 86, 87, 88, 89, 134, 135, 136, 137, 138, 139, 140, 141, 142, 143, 144, 145, 146, 147, 148, 149, 150, 151, 152, 153, 154, 155, 156, 157, 158, 159, 160, 161, 162, 163, 164, 165, 166, 167, 168, 169, 170, 171] (by decide +kernel) (by decide +kernel)
set_option maxRecDepth 20000 in
theorem gX5_lookAtOrder_X5_carryOut : GoodIn wsX5_lookAtOrder (wsV RX5 198 RX5 yX5_carryOut wsX5_carryOut) := goodIn_app (goodIn_of _ (by decide +kernel)) ggX5_lookAtOrder_X5_carryOut
theorem dX5_lookAtOrder_0 : decode cX5_lookAtOrder 0 = .ok (.aload_n 0, 1) := by decide +kernel
theorem dX5_lookAtOrder_1 : decode cX5_lookAtOrder 1 = .ok (.getfield 42, 3) := by decide +kernel
theorem dX5_lookAtOrder_4 : decode cX5_lookAtOrder 4 = .ok (.invokevirtual 189, 3) := by decide +kernel
theorem dX5_lookAtOrder_7 : decode cX5_lookAtOrder 7 = .ok (.istore_n 1, 1) := by decide +kernel
theorem dX5_lookAtOrder_8 : decode cX5_lookAtOrder 8 = .ok (.iload_n 1, 1) := by decide +kernel
theorem dX5_lookAtOrder_9 : decode cX5_lookAtOrder 9 = .ok (.iconst 5, 1) := by decide +kernel
theorem dX5_lookAtOrder_10 : decode cX5_lookAtOrder 10 = .ok (.if_icmp .ne 24, 3) := by decide +kernel
theorem dX5_lookAtOrder_13 : decode cX5_lookAtOrder 13 = .ok (.aload_n 0, 1) := by decide +kernel
theorem dX5_lookAtOrder_14 : decode cX5_lookAtOrder 14 = .ok (.aload_n 0, 1) := by decide +kernel
theorem dX5_lookAtOrder_15 : decode cX5_lookAtOrder 15 = .ok (.getfield 26, 3) := by decide +kernel
theorem dX5_lookAtOrder_18 : decode cX5_lookAtOrder 18 = .ok (.aload_n 0, 1) := by decide +kernel
theorem dX5_lookAtOrder_19 : decode cX5_lookAtOrder 19 = .ok (.getfield 42, 3) := by decide +kernel
theorem dX5_lookAtOrder_22 : decode cX5_lookAtOrder 22 = .ok (.getfield 192, 3) := by decide +kernel
theorem dX5_lookAtOrder_25 : decode cX5_lookAtOrder 25 = .ok (.invokevirtual 150, 3) := by decide +kernel
theorem dX5_lookAtOrder_28 : decode cX5_lookAtOrder 28 = .ok (.putfield 50, 3) := by decide +kernel
theorem dX5_lookAtOrder_31 : decode cX5_lookAtOrder 31 = .ok (.goto 37, 3) := by decide +kernel
theorem dX5_lookAtOrder_34 : decode cX5_lookAtOrder 34 = .ok (.iload_n 1, 1) := by decide +kernel
theorem dX5_lookAtOrder_35 : decode cX5_lookAtOrder 35 = .ok (.iconst 1, 1) := by decide +kernel
theorem dX5_lookAtOrder_36 : decode cX5_lookAtOrder 36 = .ok (.if_icmp .ne 28, 3) := by decide +kernel
theorem dX5_lookAtOrder_39 : decode cX5_lookAtOrder 39 = .ok (.aload_n 0, 1) := by decide +kernel
theorem dX5_lookAtOrder_40 : decode cX5_lookAtOrder 40 = .ok (.aload_n 0, 1) := by decide +kernel
theorem dX5_lookAtOrder_41 : decode cX5_lookAtOrder 41 = .ok (.getfield 42, 3) := by decide +kernel
theorem dX5_lookAtOrder_44 : decode cX5_lookAtOrder 44 = .ok (.getfield 195, 3) := by decide +kernel
theorem dX5_lookAtOrder_47 : decode cX5_lookAtOrder 47 = .ok (.putfield 53, 3) := by decide +kernel
theorem dX5_lookAtOrder_50 : decode cX5_lookAtOrder 50 = .ok (.aload_n 0, 1) := by decide +kernel
theorem dX5_lookAtOrder_51 : decode cX5_lookAtOrder 51 = .ok (.aload_n 0, 1) := by decide +kernel
