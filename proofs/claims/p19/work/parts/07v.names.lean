theorem dL_part_100 : decode cL_part 100 = .ok (.iconst 0, 1) := by decide +kernel
theorem dL_part_101 : decode cL_part 101 = .ok (.iadd, 1) := by decide +kernel
theorem dL_part_102 : decode cL_part 102 = .ok (.istore_n 3, 1) := by decide +kernel
theorem dL_part_103 : decode cL_part 103 = .ok (.goto 28, 3) := by decide +kernel
theorem dL_part_106 : decode cL_part 106 = .ok (.aload_n 0, 1) := by decide +kernel
theorem dL_part_107 : decode cL_part 107 = .ok (.iload_n 1, 1) := by decide +kernel
theorem dL_part_108 : decode cL_part 108 = .ok (.iload_n 2, 1) := by decide +kernel
theorem dL_part_109 : decode cL_part 109 = .ok (.iconst 1, 1) := by decide +kernel
theorem dL_part_110 : decode cL_part 110 = .ok (.invokestatic 30, 3) := by decide +kernel
theorem dL_part_113 : decode cL_part 113 = .ok (.istore_n 3, 1) := by decide +kernel
theorem dL_part_114 : decode cL_part 114 = .ok (.iload_n 3, 1) := by decide +kernel
theorem dL_part_115 : decode cL_part 115 = .ok (.ifCond .lt 14, 3) := by decide +kernel
theorem dL_part_118 : decode cL_part 118 = .ok (.aload_n 0, 1) := by decide +kernel
theorem dL_part_119 : decode cL_part 119 = .ok (.iload_n 3, 1) := by decide +kernel
theorem dL_part_120 : decode cL_part 120 = .ok (.iconst 1, 1) := by decide +kernel
theorem dL_part_121 : decode cL_part 121 = .ok (.isub, 1) := by decide +kernel
theorem dL_part_122 : decode cL_part 122 = .ok (.iaload, 1) := by decide +kernel
theorem dL_part_123 : decode cL_part 123 = .ok (.invokestatic 27, 3) := by decide +kernel
theorem dL_part_126 : decode cL_part 126 = .ok (.ifCond .ne 5, 3) := by decide +kernel
theorem dL_part_129 : decode cL_part 129 = .ok (.iload_n 3, 1) := by decide +kernel
theorem dL_part_130 : decode cL_part 130 = .ok (.ireturn, 1) := by decide +kernel
theorem dL_part_131 : decode cL_part 131 = .ok (.iload_n 3, 1) := by decide +kernel
theorem dL_part_132 : decode cL_part 132 = .ok (.iload_n 1, 1) := by decide +kernel
theorem dL_part_133 : decode cL_part 133 = .ok (.if_icmp .ge 22, 3) := by decide +kernel
theorem dL_part_136 : decode cL_part 136 = .ok (.aload_n 0, 1) := by decide +kernel
theorem dL_part_137 : decode cL_part 137 = .ok (.iload_n 3, 1) := by decide +kernel
theorem dL_part_138 : decode cL_part 138 = .ok (.iaload, 1) := by decide +kernel
theorem dL_part_139 : decode cL_part 139 = .ok (.bipush 12, 2) := by decide +kernel
theorem dL_part_141 : decode cL_part 141 = .ok (.if_icmp .ne 14, 3) := by decide +kernel
theorem dL_part_144 : decode cL_part 144 = .ok (.aload_n 0, 1) := by decide +kernel
theorem dL_part_145 : decode cL_part 145 = .ok (.iload_n 1, 1) := by decide +kernel
theorem dL_part_146 : decode cL_part 146 = .ok (.iload_n 3, 1) := by decide +kernel
theorem dL_part_147 : decode cL_part 147 = .ok (.iconst 1, 1) := by decide +kernel
theorem dL_part_148 : decode cL_part 148 = .ok (.iadd, 1) := by decide +kernel
theorem dL_part_149 : decode cL_part 149 = .ok (.invokestatic 34, 3) := by decide +kernel
theorem dL_part_152 : decode cL_part 152 = .ok (.goto 4, 3) := by decide +kernel
theorem dL_part_155 : decode cL_part 155 = .ok (.iload_n 3, 1) := by decide +kernel
theorem dL_part_156 : decode cL_part 156 = .ok (.ireturn, 1) := by decide +kernel
set_option maxRecDepth 20000 in
theorem ggL_wrongOrder_L_part : GoodIn wsL_wrongOrder wsL_part := goodIn_r _ [4, 5, 6, 3, 7, 8, 9, 10, 11, 12, 13, 14, 15, 16, 17, 18, 19] (by decide +kernel) (by decide +kernel)
set_option maxRecDepth 20000 in
theorem gL_wrongOrder_L_part : GoodIn wsL_wrongOrder (va_wsS RL 38 yL_part wsL_part) := goodIn_app (goodIn_of _ (by decide +kernel)) ggL_wrongOrder_L_part
set_option maxRecDepth 20000 in
theorem ggL_wrongOrder_L_described : GoodIn wsL_wrongOrder wsL_described := goodIn_r _ [13, 5, 6, 3, 7, 14, 15, 16, 8, 9, 10] (by decide +kernel) (by decide +kernel)
set_option maxRecDepth 20000 in
theorem gL_wrongOrder_L_described : GoodIn wsL_wrongOrder (va_wsS RL 30 yL_described wsL_described) := goodIn_app (goodIn_of _ (by decide +kernel)) ggL_wrongOrder_L_described
theorem dL_wrongOrder_0 : decode cL_wrongOrder 0 = .ok (.aload_n 0, 1) := by decide +kernel
theorem dL_wrongOrder_1 : decode cL_wrongOrder 1 = .ok (.iload_n 1, 1) := by decide +kernel
theorem dL_wrongOrder_2 : decode cL_wrongOrder 2 = .ok (.iconst 1, 1) := by decide +kernel
theorem dL_wrongOrder_3 : decode cL_wrongOrder 3 = .ok (.invokestatic 38, 3) := by decide +kernel
theorem dL_wrongOrder_6 : decode cL_wrongOrder 6 = .ok (.istore_n 2, 1) := by decide +kernel
theorem dL_wrongOrder_7 : decode cL_wrongOrder 7 = .ok (.iload_n 2, 1) := by decide +kernel
theorem dL_wrongOrder_8 : decode cL_wrongOrder 8 = .ok (.ifCond .le 28, 3) := by decide +kernel
theorem dL_wrongOrder_11 : decode cL_wrongOrder 11 = .ok (.iload_n 2, 1) := by decide +kernel
theorem dL_wrongOrder_12 : decode cL_wrongOrder 12 = .ok (.iload_n 1, 1) := by decide +kernel
theorem dL_wrongOrder_13 : decode cL_wrongOrder 13 = .ok (.if_icmp .ge 23, 3) := by decide +kernel
theorem dL_wrongOrder_16 : decode cL_wrongOrder 16 = .ok (.aload_n 0, 1) := by decide +kernel
theorem dL_wrongOrder_17 : decode cL_wrongOrder 17 = .ok (.iload_n 2, 1) := by decide +kernel
theorem dL_wrongOrder_18 : decode cL_wrongOrder 18 = .ok (.iaload, 1) := by decide +kernel
theorem dL_wrongOrder_19 : decode cL_wrongOrder 19 = .ok (.bipush 13, 2) := by decide +kernel
theorem dL_wrongOrder_21 : decode cL_wrongOrder 21 = .ok (.if_icmp .ne 15, 3) := by decide +kernel
theorem dL_wrongOrder_24 : decode cL_wrongOrder 24 = .ok (.aload_n 0, 1) := by decide +kernel
theorem dL_wrongOrder_25 : decode cL_wrongOrder 25 = .ok (.iload_n 1, 1) := by decide +kernel
theorem dL_wrongOrder_26 : decode cL_wrongOrder 26 = .ok (.iload_n 2, 1) := by decide +kernel
theorem dL_wrongOrder_27 : decode cL_wrongOrder 27 = .ok (.iconst 1, 1) := by decide +kernel
theorem dL_wrongOrder_28 : decode cL_wrongOrder 28 = .ok (.iadd, 1) := by decide +kernel
theorem dL_wrongOrder_29 : decode cL_wrongOrder 29 = .ok (.invokestatic 38, 3) := by decide +kernel
theorem dL_wrongOrder_32 : decode cL_wrongOrder 32 = .ok (.istore_n 2, 1) := by decide +kernel
theorem dL_wrongOrder_33 : decode cL_wrongOrder 33 = .ok (.goto (-26), 3) := by decide +kernel
theorem dL_wrongOrder_36 : decode cL_wrongOrder 36 = .ok (.iload_n 2, 1) := by decide +kernel
theorem dL_wrongOrder_37 : decode cL_wrongOrder 37 = .ok (.ifCond .le 39, 3) := by decide +kernel
theorem dL_wrongOrder_40 : decode cL_wrongOrder 40 = .ok (.aload_n 0, 1) := by decide +kernel
theorem dL_wrongOrder_41 : decode cL_wrongOrder 41 = .ok (.iconst 0, 1) := by decide +kernel
theorem dL_wrongOrder_42 : decode cL_wrongOrder 42 = .ok (.iaload, 1) := by decide +kernel
theorem dL_wrongOrder_43 : decode cL_wrongOrder 43 = .ok (.iconst 2, 1) := by decide +kernel
theorem dL_wrongOrder_44 : decode cL_wrongOrder 44 = .ok (.if_icmp .ne 32, 3) := by decide +kernel
theorem dL_wrongOrder_47 : decode cL_wrongOrder 47 = .ok (.iload_n 2, 1) := by decide +kernel
theorem dL_wrongOrder_48 : decode cL_wrongOrder 48 = .ok (.iload_n 1, 1) := by decide +kernel
theorem dL_wrongOrder_49 : decode cL_wrongOrder 49 = .ok (.if_icmp .ge 23, 3) := by decide +kernel
theorem dL_wrongOrder_52 : decode cL_wrongOrder 52 = .ok (.aload_n 0, 1) := by decide +kernel
theorem dL_wrongOrder_53 : decode cL_wrongOrder 53 = .ok (.iload_n 2, 1) := by decide +kernel
theorem dL_wrongOrder_54 : decode cL_wrongOrder 54 = .ok (.iaload, 1) := by decide +kernel
theorem dL_wrongOrder_55 : decode cL_wrongOrder 55 = .ok (.bipush 16, 2) := by decide +kernel
theorem dL_wrongOrder_57 : decode cL_wrongOrder 57 = .ok (.if_icmp .ne 15, 3) := by decide +kernel
theorem dL_wrongOrder_60 : decode cL_wrongOrder 60 = .ok (.aload_n 0, 1) := by decide +kernel
theorem dL_wrongOrder_61 : decode cL_wrongOrder 61 = .ok (.iload_n 1, 1) := by decide +kernel
theorem dL_wrongOrder_62 : decode cL_wrongOrder 62 = .ok (.iload_n 2, 1) := by decide +kernel
theorem dL_wrongOrder_63 : decode cL_wrongOrder 63 = .ok (.iconst 1, 1) := by decide +kernel
theorem dL_wrongOrder_64 : decode cL_wrongOrder 64 = .ok (.iadd, 1) := by decide +kernel
theorem dL_wrongOrder_65 : decode cL_wrongOrder 65 = .ok (.iconst 0, 1) := by decide +kernel
theorem dL_wrongOrder_66 : decode cL_wrongOrder 66 = .ok (.invokestatic 30, 3) := by decide +kernel
theorem dL_wrongOrder_69 : decode cL_wrongOrder 69 = .ok (.goto 6, 3) := by decide +kernel
theorem dL_wrongOrder_72 : decode cL_wrongOrder 72 = .ok (.iconst (-1), 1) := by decide +kernel
theorem dL_wrongOrder_73 : decode cL_wrongOrder 73 = .ok (.iload_n 2, 1) := by decide +kernel
theorem dL_wrongOrder_74 : decode cL_wrongOrder 74 = .ok (.isub, 1) := by decide +kernel
theorem dL_wrongOrder_75 : decode cL_wrongOrder 75 = .ok (.istore_n 2, 1) := by decide +kernel
theorem dL_wrongOrder_76 : decode cL_wrongOrder 76 = .ok (.iload_n 2, 1) := by decide +kernel
theorem dL_wrongOrder_77 : decode cL_wrongOrder 77 = .ok (.ifCond .ge 9, 3) := by decide +kernel
theorem dL_wrongOrder_80 : decode cL_wrongOrder 80 = .ok (.iconst (-1), 1) := by decide +kernel
theorem dL_wrongOrder_81 : decode cL_wrongOrder 81 = .ok (.iload_n 2, 1) := by decide +kernel
theorem dL_wrongOrder_82 : decode cL_wrongOrder 82 = .ok (.isub, 1) := by decide +kernel
theorem dL_wrongOrder_83 : decode cL_wrongOrder 83 = .ok (.goto 13, 3) := by decide +kernel
theorem dL_wrongOrder_86 : decode cL_wrongOrder 86 = .ok (.iload_n 2, 1) := by decide +kernel
theorem dL_wrongOrder_87 : decode cL_wrongOrder 87 = .ok (.iload_n 1, 1) := by decide +kernel
theorem dL_wrongOrder_88 : decode cL_wrongOrder 88 = .ok (.if_icmp .ge 7, 3) := by decide +kernel
theorem dL_wrongOrder_91 : decode cL_wrongOrder 91 = .ok (.iload_n 2, 1) := by decide +kernel
theorem dL_wrongOrder_92 : decode cL_wrongOrder 92 = .ok (.goto 4, 3) := by decide +kernel
theorem dL_wrongOrder_95 : decode cL_wrongOrder 95 = .ok (.iconst (-1), 1) := by decide +kernel
theorem dL_wrongOrder_96 : decode cL_wrongOrder 96 = .ok (.ireturn, 1) := by decide +kernel
set_option maxRecDepth 20000 in
theorem ggL_wrongAnswer_L_isAdjective : GoodIn wsL_wrongAnswer wsL_isAdjective := goodIn_r _ [4] (by decide +kernel) (by decide +kernel)
set_option maxRecDepth 20000 in
theorem gL_wrongAnswer_L_isAdjective : GoodIn wsL_wrongAnswer (va_wsS RL 20 yL_isAdjective wsL_isAdjective) := goodIn_app (goodIn_of _ (by decide +kernel)) ggL_wrongAnswer_L_isAdjective
set_option maxRecDepth 20000 in
theorem ggL_wrongAnswer_L_isNoun : GoodIn wsL_wrongAnswer wsL_isNoun := goodIn_r _ [7] (by decide +kernel) (by decide +kernel)
set_option maxRecDepth 20000 in
theorem gL_wrongAnswer_L_isNoun : GoodIn wsL_wrongAnswer (va_wsS RL 24 yL_isNoun wsL_isNoun) := goodIn_app (goodIn_of _ (by decide +kernel)) ggL_wrongAnswer_L_isNoun
theorem dL_wrongAnswer_0 : decode cL_wrongAnswer 0 = .ok (.aload_n 0, 1) := by decide +kernel
theorem dL_wrongAnswer_1 : decode cL_wrongAnswer 1 = .ok (.iconst 0, 1) := by decide +kernel
theorem dL_wrongAnswer_2 : decode cL_wrongAnswer 2 = .ok (.iaload, 1) := by decide +kernel
theorem dL_wrongAnswer_3 : decode cL_wrongAnswer 3 = .ok (.bipush 10, 2) := by decide +kernel
theorem dL_wrongAnswer_5 : decode cL_wrongAnswer 5 = .ok (.if_icmp .ne 7, 3) := by decide +kernel
theorem dL_wrongAnswer_8 : decode cL_wrongAnswer 8 = .ok (.iconst 1, 1) := by decide +kernel
theorem dL_wrongAnswer_9 : decode cL_wrongAnswer 9 = .ok (.goto 4, 3) := by decide +kernel
theorem dL_wrongAnswer_12 : decode cL_wrongAnswer 12 = .ok (.iconst 0, 1) := by decide +kernel
theorem dL_wrongAnswer_13 : decode cL_wrongAnswer 13 = .ok (.istore_n 2, 1) := by decide +kernel
theorem dL_wrongAnswer_14 : decode cL_wrongAnswer 14 = .ok (.iload_n 2, 1) := by decide +kernel
theorem dL_wrongAnswer_15 : decode cL_wrongAnswer 15 = .ok (.istore_n 3, 1) := by decide +kernel
theorem dL_wrongAnswer_16 : decode cL_wrongAnswer 16 = .ok (.iload_n 2, 1) := by decide +kernel
theorem dL_wrongAnswer_17 : decode cL_wrongAnswer 17 = .ok (.iload_n 1, 1) := by decide +kernel
theorem dL_wrongAnswer_18 : decode cL_wrongAnswer 18 = .ok (.if_icmp .ge 18, 3) := by decide +kernel
theorem dL_wrongAnswer_21 : decode cL_wrongAnswer 21 = .ok (.aload_n 0, 1) := by decide +kernel
theorem dL_wrongAnswer_22 : decode cL_wrongAnswer 22 = .ok (.iload_n 2, 1) := by decide +kernel
theorem dL_wrongAnswer_23 : decode cL_wrongAnswer 23 = .ok (.iaload, 1) := by decide +kernel
theorem dL_wrongAnswer_24 : decode cL_wrongAnswer 24 = .ok (.invokestatic 20, 3) := by decide +kernel
theorem dL_wrongAnswer_27 : decode cL_wrongAnswer 27 = .ok (.ifCond .eq 9, 3) := by decide +kernel
theorem dL_wrongAnswer_30 : decode cL_wrongAnswer 30 = .ok (.iinc 2 1, 3) := by decide +kernel
theorem dL_wrongAnswer_33 : decode cL_wrongAnswer 33 = .ok (.goto (-17), 3) := by decide +kernel
theorem dL_wrongAnswer_36 : decode cL_wrongAnswer 36 = .ok (.iload_n 2, 1) := by decide +kernel
theorem dL_wrongAnswer_37 : decode cL_wrongAnswer 37 = .ok (.iload_n 1, 1) := by decide +kernel
theorem dL_wrongAnswer_38 : decode cL_wrongAnswer 38 = .ok (.if_icmp .ge 24, 3) := by decide +kernel
theorem dL_wrongAnswer_41 : decode cL_wrongAnswer 41 = .ok (.aload_n 0, 1) := by decide +kernel
theorem dL_wrongAnswer_42 : decode cL_wrongAnswer 42 = .ok (.iload_n 2, 1) := by decide +kernel
theorem dL_wrongAnswer_43 : decode cL_wrongAnswer 43 = .ok (.iaload, 1) := by decide +kernel
theorem dL_wrongAnswer_44 : decode cL_wrongAnswer 44 = .ok (.invokestatic 24, 3) := by decide +kernel
theorem dL_wrongAnswer_47 : decode cL_wrongAnswer 47 = .ok (.ifCond .ne 11, 3) := by decide +kernel
theorem dL_wrongAnswer_50 : decode cL_wrongAnswer 50 = .ok (.aload_n 0, 1) := by decide +kernel
theorem dL_wrongAnswer_51 : decode cL_wrongAnswer 51 = .ok (.iload_n 2, 1) := by decide +kernel
theorem dL_wrongAnswer_52 : decode cL_wrongAnswer 52 = .ok (.iaload, 1) := by decide +kernel
theorem dL_wrongAnswer_53 : decode cL_wrongAnswer 53 = .ok (.bipush 17, 2) := by decide +kernel
theorem dL_wrongAnswer_55 : decode cL_wrongAnswer 55 = .ok (.if_icmp .ne 7, 3) := by decide +kernel
theorem dL_wrongAnswer_58 : decode cL_wrongAnswer 58 = .ok (.iconst 1, 1) := by decide +kernel
theorem dL_wrongAnswer_59 : decode cL_wrongAnswer 59 = .ok (.goto 4, 3) := by decide +kernel
theorem dL_wrongAnswer_62 : decode cL_wrongAnswer 62 = .ok (.iconst 0, 1) := by decide +kernel
theorem dL_wrongAnswer_63 : decode cL_wrongAnswer 63 = .ok (.istore 4, 2) := by decide +kernel
theorem dL_wrongAnswer_65 : decode cL_wrongAnswer 65 = .ok (.iload_n 2, 1) := by decide +kernel
theorem dL_wrongAnswer_66 : decode cL_wrongAnswer 66 = .ok (.iload 4, 2) := by decide +kernel
theorem dL_wrongAnswer_68 : decode cL_wrongAnswer 68 = .ok (.ifCond .eq 7, 3) := by decide +kernel
theorem dL_wrongAnswer_71 : decode cL_wrongAnswer 71 = .ok (.iconst 1, 1) := by decide +kernel
theorem dL_wrongAnswer_72 : decode cL_wrongAnswer 72 = .ok (.goto 4, 3) := by decide +kernel
theorem dL_wrongAnswer_75 : decode cL_wrongAnswer 75 = .ok (.iconst 0, 1) := by decide +kernel
theorem dL_wrongAnswer_76 : decode cL_wrongAnswer 76 = .ok (.iadd, 1) := by decide +kernel
theorem dL_wrongAnswer_77 : decode cL_wrongAnswer 77 = .ok (.istore_n 2, 1) := by decide +kernel
theorem dL_wrongAnswer_78 : decode cL_wrongAnswer 78 = .ok (.iload_n 2, 1) := by decide +kernel
theorem dL_wrongAnswer_79 : decode cL_wrongAnswer 79 = .ok (.iload_n 1, 1) := by decide +kernel
theorem dL_wrongAnswer_80 : decode cL_wrongAnswer 80 = .ok (.if_icmp .ge 7, 3) := by decide +kernel
theorem dL_wrongAnswer_83 : decode cL_wrongAnswer 83 = .ok (.iload_n 2, 1) := by decide +kernel
theorem dL_wrongAnswer_84 : decode cL_wrongAnswer 84 = .ok (.goto 13, 3) := by decide +kernel
theorem dL_wrongAnswer_87 : decode cL_wrongAnswer 87 = .ok (.iload_n 2, 1) := by decide +kernel
theorem dL_wrongAnswer_88 : decode cL_wrongAnswer 88 = .ok (.iload_n 3, 1) := by decide +kernel
theorem dL_wrongAnswer_89 : decode cL_wrongAnswer 89 = .ok (.if_icmp .ne 7, 3) := by decide +kernel
theorem dL_wrongAnswer_92 : decode cL_wrongAnswer 92 = .ok (.iload_n 1, 1) := by decide +kernel
theorem dL_wrongAnswer_93 : decode cL_wrongAnswer 93 = .ok (.goto 4, 3) := by decide +kernel
theorem dL_wrongAnswer_96 : decode cL_wrongAnswer 96 = .ok (.iconst (-1), 1) := by decide +kernel
theorem dL_wrongAnswer_97 : decode cL_wrongAnswer 97 = .ok (.ireturn, 1) := by decide +kernel
set_option maxRecDepth 20000 in
theorem ggL_phrases_L_isAdjective : GoodIn wsL_phrases wsL_isAdjective := goodIn_r _ [4] (by decide +kernel) (by decide +kernel)
set_option maxRecDepth 20000 in
theorem gL_phrases_L_isAdjective : GoodIn wsL_phrases (va_wsS RL 20 yL_isAdjective wsL_isAdjective) := goodIn_app (goodIn_of _ (by decide +kernel)) ggL_phrases_L_isAdjective
set_option maxRecDepth 20000 in
theorem ggL_phrases_L_isPlural : GoodIn wsL_phrases wsL_isPlural := goodIn_r _ [7] (by decide +kernel) (by decide +kernel)
set_option maxRecDepth 20000 in
theorem gL_phrases_L_isPlural : GoodIn wsL_phrases (va_wsS RL 27 yL_isPlural wsL_isPlural) := goodIn_app (goodIn_of _ (by decide +kernel)) ggL_phrases_L_isPlural
set_option maxRecDepth 20000 in
theorem ggL_phrases_L_described : GoodIn wsL_phrases wsL_described := goodIn_r _ [10, 1, 2, 3, 4, 11, 12, 13, 5, 6, 7] (by decide +kernel) (by decide +kernel)
set_option maxRecDepth 20000 in
theorem gL_phrases_L_described : GoodIn wsL_phrases (va_wsS RL 30 yL_described wsL_described) := goodIn_app (goodIn_of _ (by decide +kernel)) ggL_phrases_L_described
theorem dL_phrases_0 : decode cL_phrases 0 = .ok (.iconst 0, 1) := by decide +kernel
theorem dL_phrases_1 : decode cL_phrases 1 = .ok (.istore 5, 2) := by decide +kernel
theorem dL_phrases_3 : decode cL_phrases 3 = .ok (.iconst 0, 1) := by decide +kernel
theorem dL_phrases_4 : decode cL_phrases 4 = .ok (.istore 6, 2) := by decide +kernel
theorem dL_phrases_6 : decode cL_phrases 6 = .ok (.iinc 6 1, 3) := by decide +kernel
theorem dL_phrases_9 : decode cL_phrases 9 = .ok (.iload 6, 2) := by decide +kernel
theorem dL_phrases_11 : decode cL_phrases 11 = .ok (.istore 7, 2) := by decide +kernel
theorem dL_phrases_13 : decode cL_phrases 13 = .ok (.iload 6, 2) := by decide +kernel
theorem dL_phrases_15 : decode cL_phrases 15 = .ok (.iconst 1, 1) := by decide +kernel
theorem dL_phrases_16 : decode cL_phrases 16 = .ok (.iadd, 1) := by decide +kernel
theorem dL_phrases_17 : decode cL_phrases 17 = .ok (.iload_n 1, 1) := by decide +kernel
theorem dL_phrases_18 : decode cL_phrases 18 = .ok (.if_icmp .ge 70, 3) := by decide +kernel
theorem dL_phrases_21 : decode cL_phrases 21 = .ok (.aload_n 0, 1) := by decide +kernel
theorem dL_phrases_22 : decode cL_phrases 22 = .ok (.iload 6, 2) := by decide +kernel
theorem dL_phrases_24 : decode cL_phrases 24 = .ok (.iaload, 1) := by decide +kernel
theorem dL_phrases_25 : decode cL_phrases 25 = .ok (.bipush 10, 2) := by decide +kernel
theorem dL_phrases_27 : decode cL_phrases 27 = .ok (.if_icmp .eq 22, 3) := by decide +kernel
theorem dL_phrases_30 : decode cL_phrases 30 = .ok (.aload_n 0, 1) := by decide +kernel
theorem dL_phrases_31 : decode cL_phrases 31 = .ok (.iload 6, 2) := by decide +kernel
theorem dL_phrases_33 : decode cL_phrases 33 = .ok (.iaload, 1) := by decide +kernel
theorem dL_phrases_34 : decode cL_phrases 34 = .ok (.bipush 11, 2) := by decide +kernel
theorem dL_phrases_36 : decode cL_phrases 36 = .ok (.if_icmp .eq 13, 3) := by decide +kernel
theorem dL_phrases_39 : decode cL_phrases 39 = .ok (.aload_n 0, 1) := by decide +kernel
theorem dL_phrases_40 : decode cL_phrases 40 = .ok (.iload 6, 2) := by decide +kernel
theorem dL_phrases_42 : decode cL_phrases 42 = .ok (.iaload, 1) := by decide +kernel
theorem dL_phrases_43 : decode cL_phrases 43 = .ok (.invokestatic 20, 3) := by decide +kernel
theorem dL_phrases_46 : decode cL_phrases 46 = .ok (.ifCond .eq 42, 3) := by decide +kernel
theorem dL_phrases_49 : decode cL_phrases 49 = .ok (.aload_n 0, 1) := by decide +kernel
theorem dL_phrases_50 : decode cL_phrases 50 = .ok (.iload 6, 2) := by decide +kernel
theorem dL_phrases_52 : decode cL_phrases 52 = .ok (.iaload, 1) := by decide +kernel
theorem dL_phrases_53 : decode cL_phrases 53 = .ok (.bipush 11, 2) := by decide +kernel
theorem dL_phrases_55 : decode cL_phrases 55 = .ok (.if_icmp .ne 27, 3) := by decide +kernel
theorem dL_phrases_58 : decode cL_phrases 58 = .ok (.aload_n 0, 1) := by decide +kernel
theorem dL_phrases_59 : decode cL_phrases 59 = .ok (.iload 6, 2) := by decide +kernel
theorem dL_phrases_61 : decode cL_phrases 61 = .ok (.iconst 1, 1) := by decide +kernel
theorem dL_phrases_62 : decode cL_phrases 62 = .ok (.iadd, 1) := by decide +kernel
theorem dL_phrases_63 : decode cL_phrases 63 = .ok (.iaload, 1) := by decide +kernel
theorem dL_phrases_64 : decode cL_phrases 64 = .ok (.invokestatic 20, 3) := by decide +kernel
theorem dL_phrases_67 : decode cL_phrases 67 = .ok (.ifCond .ne 15, 3) := by decide +kernel
theorem dL_phrases_70 : decode cL_phrases 70 = .ok (.aload_n 0, 1) := by decide +kernel
theorem dL_phrases_71 : decode cL_phrases 71 = .ok (.iload 6, 2) := by decide +kernel
theorem dL_phrases_73 : decode cL_phrases 73 = .ok (.iconst 1, 1) := by decide +kernel
theorem dL_phrases_74 : decode cL_phrases 74 = .ok (.iadd, 1) := by decide +kernel
theorem dL_phrases_75 : decode cL_phrases 75 = .ok (.iaload, 1) := by decide +kernel
theorem dL_phrases_76 : decode cL_phrases 76 = .ok (.invokestatic 27, 3) := by decide +kernel
theorem dL_phrases_79 : decode cL_phrases 79 = .ok (.ifCond .eq 9, 3) := by decide +kernel
theorem dL_phrases_82 : decode cL_phrases 82 = .ok (.iinc 6 1, 3) := by decide +kernel
theorem dL_phrases_85 : decode cL_phrases 85 = .ok (.goto (-72), 3) := by decide +kernel
theorem dL_phrases_88 : decode cL_phrases 88 = .ok (.iload 6, 2) := by decide +kernel
theorem dL_phrases_90 : decode cL_phrases 90 = .ok (.istore 8, 2) := by decide +kernel
theorem dL_phrases_92 : decode cL_phrases 92 = .ok (.iinc 6 1, 3) := by decide +kernel
theorem dL_phrases_95 : decode cL_phrases 95 = .ok (.aload_n 0, 1) := by decide +kernel
theorem dL_phrases_96 : decode cL_phrases 96 = .ok (.iload 8, 2) := by decide +kernel
theorem dL_phrases_98 : decode cL_phrases 98 = .ok (.iaload, 1) := by decide +kernel
theorem dL_phrases_99 : decode cL_phrases 99 = .ok (.bipush 11, 2) := by decide +kernel
theorem dL_phrases_101 : decode cL_phrases 101 = .ok (.if_icmp .eq 13, 3) := by decide +kernel
theorem dL_phrases_104 : decode cL_phrases 104 = .ok (.aload_n 0, 1) := by decide +kernel
theorem dL_phrases_105 : decode cL_phrases 105 = .ok (.iload 8, 2) := by decide +kernel
theorem dL_phrases_107 : decode cL_phrases 107 = .ok (.iaload, 1) := by decide +kernel
theorem dL_phrases_108 : decode cL_phrases 108 = .ok (.invokestatic 27, 3) := by decide +kernel
theorem dL_phrases_111 : decode cL_phrases 111 = .ok (.ifCond .eq 109, 3) := by decide +kernel
theorem dL_phrases_114 : decode cL_phrases 114 = .ok (.iload 6, 2) := by decide +kernel
theorem dL_phrases_116 : decode cL_phrases 116 = .ok (.iload_n 1, 1) := by decide +kernel
theorem dL_phrases_117 : decode cL_phrases 117 = .ok (.if_icmp .ge 16, 3) := by decide +kernel
theorem dL_phrases_120 : decode cL_phrases 120 = .ok (.aload_n 0, 1) := by decide +kernel
theorem dL_phrases_121 : decode cL_phrases 121 = .ok (.iload 6, 2) := by decide +kernel
theorem dL_phrases_123 : decode cL_phrases 123 = .ok (.iaload, 1) := by decide +kernel
theorem dL_phrases_124 : decode cL_phrases 124 = .ok (.bipush 12, 2) := by decide +kernel
theorem dL_phrases_126 : decode cL_phrases 126 = .ok (.if_icmp .ne 7, 3) := by decide +kernel
theorem dL_phrases_129 : decode cL_phrases 129 = .ok (.iconst 1, 1) := by decide +kernel
theorem dL_phrases_130 : decode cL_phrases 130 = .ok (.goto 4, 3) := by decide +kernel
theorem dL_phrases_133 : decode cL_phrases 133 = .ok (.iconst 0, 1) := by decide +kernel
theorem dL_phrases_134 : decode cL_phrases 134 = .ok (.istore 9, 2) := by decide +kernel
theorem dL_phrases_136 : decode cL_phrases 136 = .ok (.iload 9, 2) := by decide +kernel
theorem dL_phrases_138 : decode cL_phrases 138 = .ok (.ifCond .eq 82, 3) := by decide +kernel
theorem dL_phrases_141 : decode cL_phrases 141 = .ok (.aload_n 0, 1) := by decide +kernel
theorem dL_phrases_142 : decode cL_phrases 142 = .ok (.iload_n 1, 1) := by decide +kernel
theorem dL_phrases_143 : decode cL_phrases 143 = .ok (.iload 6, 2) := by decide +kernel
theorem dL_phrases_145 : decode cL_phrases 145 = .ok (.iconst 1, 1) := by decide +kernel
theorem dL_phrases_146 : decode cL_phrases 146 = .ok (.iadd, 1) := by decide +kernel
theorem dL_phrases_147 : decode cL_phrases 147 = .ok (.iconst 0, 1) := by decide +kernel
theorem dL_phrases_148 : decode cL_phrases 148 = .ok (.invokestatic 30, 3) := by decide +kernel
theorem dL_phrases_151 : decode cL_phrases 151 = .ok (.istore 10, 2) := by decide +kernel
theorem dL_phrases_153 : decode cL_phrases 153 = .ok (.aload_n 2, 1) := by decide +kernel
theorem dL_phrases_154 : decode cL_phrases 154 = .ok (.iload 5, 2) := by decide +kernel
theorem dL_phrases_156 : decode cL_phrases 156 = .ok (.iload 6, 2) := by decide +kernel
theorem dL_phrases_158 : decode cL_phrases 158 = .ok (.iconst 1, 1) := by decide +kernel
theorem dL_phrases_159 : decode cL_phrases 159 = .ok (.iadd, 1) := by decide +kernel
theorem dL_phrases_160 : decode cL_phrases 160 = .ok (.iastore, 1) := by decide +kernel
theorem dL_phrases_161 : decode cL_phrases 161 = .ok (.aload_n 3, 1) := by decide +kernel
theorem dL_phrases_162 : decode cL_phrases 162 = .ok (.iload 5, 2) := by decide +kernel
theorem dL_phrases_164 : decode cL_phrases 164 = .ok (.iload 10, 2) := by decide +kernel
theorem dL_phrases_166 : decode cL_phrases 166 = .ok (.iconst 1, 1) := by decide +kernel
theorem dL_phrases_167 : decode cL_phrases 167 = .ok (.isub, 1) := by decide +kernel
theorem dL_phrases_168 : decode cL_phrases 168 = .ok (.iastore, 1) := by decide +kernel
theorem dL_phrases_169 : decode cL_phrases 169 = .ok (.aload 4, 2) := by decide +kernel
theorem dL_phrases_171 : decode cL_phrases 171 = .ok (.iload 5, 2) := by decide +kernel
theorem dL_phrases_173 : decode cL_phrases 173 = .ok (.iconst 3, 1) := by decide +kernel
theorem dL_phrases_174 : decode cL_phrases 174 = .ok (.iastore, 1) := by decide +kernel
theorem dL_phrases_175 : decode cL_phrases 175 = .ok (.iinc 5 1, 3) := by decide +kernel
theorem dL_phrases_178 : decode cL_phrases 178 = .ok (.iload 10, 2) := by decide +kernel
theorem dL_phrases_180 : decode cL_phrases 180 = .ok (.istore 6, 2) := by decide +kernel
theorem dL_phrases_182 : decode cL_phrases 182 = .ok (.iload 6, 2) := by decide +kernel
theorem dL_phrases_184 : decode cL_phrases 184 = .ok (.iload_n 1, 1) := by decide +kernel
theorem dL_phrases_185 : decode cL_phrases 185 = .ok (.if_icmp .ge 29, 3) := by decide +kernel
theorem dL_phrases_188 : decode cL_phrases 188 = .ok (.aload_n 0, 1) := by decide +kernel
theorem dL_phrases_189 : decode cL_phrases 189 = .ok (.iload 6, 2) := by decide +kernel
theorem dL_phrases_191 : decode cL_phrases 191 = .ok (.iaload, 1) := by decide +kernel
theorem dL_phrases_192 : decode cL_phrases 192 = .ok (.bipush 13, 2) := by decide +kernel
theorem dL_phrases_194 : decode cL_phrases 194 = .ok (.if_icmp .ne 20, 3) := by decide +kernel
theorem dL_phrases_197 : decode cL_phrases 197 = .ok (.aload_n 0, 1) := by decide +kernel
theorem dL_phrases_198 : decode cL_phrases 198 = .ok (.iload_n 1, 1) := by decide +kernel
theorem dL_phrases_199 : decode cL_phrases 199 = .ok (.iload 6, 2) := by decide +kernel
theorem dL_phrases_201 : decode cL_phrases 201 = .ok (.iconst 1, 1) := by decide +kernel
theorem dL_phrases_202 : decode cL_phrases 202 = .ok (.iadd, 1) := by decide +kernel
theorem dL_phrases_203 : decode cL_phrases 203 = .ok (.iconst 0, 1) := by decide +kernel
theorem dL_phrases_204 : decode cL_phrases 204 = .ok (.invokestatic 30, 3) := by decide +kernel
theorem dL_phrases_207 : decode cL_phrases 207 = .ok (.ifCond .le 7, 3) := by decide +kernel
theorem dL_phrases_210 : decode cL_phrases 210 = .ok (.iconst 1, 1) := by decide +kernel
theorem dL_phrases_211 : decode cL_phrases 211 = .ok (.goto 4, 3) := by decide +kernel
theorem dL_phrases_214 : decode cL_phrases 214 = .ok (.iconst 0, 1) := by decide +kernel
theorem dL_phrases_215 : decode cL_phrases 215 = .ok (.istore 9, 2) := by decide +kernel
theorem dL_phrases_217 : decode cL_phrases 217 = .ok (.goto (-81), 3) := by decide +kernel
theorem dL_phrases_220 : decode cL_phrases 220 = .ok (.aload_n 2, 1) := by decide +kernel
theorem dL_phrases_221 : decode cL_phrases 221 = .ok (.iload 5, 2) := by decide +kernel
theorem dL_phrases_223 : decode cL_phrases 223 = .ok (.iload 7, 2) := by decide +kernel
theorem dL_phrases_225 : decode cL_phrases 225 = .ok (.iastore, 1) := by decide +kernel
theorem dL_phrases_226 : decode cL_phrases 226 = .ok (.aload_n 3, 1) := by decide +kernel
theorem dL_phrases_227 : decode cL_phrases 227 = .ok (.iload 5, 2) := by decide +kernel
theorem dL_phrases_229 : decode cL_phrases 229 = .ok (.iload 8, 2) := by decide +kernel
theorem dL_phrases_231 : decode cL_phrases 231 = .ok (.iastore, 1) := by decide +kernel
theorem dL_phrases_232 : decode cL_phrases 232 = .ok (.aload 4, 2) := by decide +kernel
theorem dL_phrases_234 : decode cL_phrases 234 = .ok (.iload 5, 2) := by decide +kernel
theorem dL_phrases_236 : decode cL_phrases 236 = .ok (.aload_n 0, 1) := by decide +kernel
theorem dL_phrases_237 : decode cL_phrases 237 = .ok (.iload 8, 2) := by decide +kernel
theorem dL_phrases_239 : decode cL_phrases 239 = .ok (.iaload, 1) := by decide +kernel
theorem dL_phrases_240 : decode cL_phrases 240 = .ok (.bipush 15, 2) := by decide +kernel
theorem dL_phrases_242 : decode cL_phrases 242 = .ok (.if_icmp .ne 7, 3) := by decide +kernel
theorem dL_phrases_245 : decode cL_phrases 245 = .ok (.iconst 2, 1) := by decide +kernel
theorem dL_phrases_246 : decode cL_phrases 246 = .ok (.goto 27, 3) := by decide +kernel
theorem dL_phrases_249 : decode cL_phrases 249 = .ok (.aload_n 0, 1) := by decide +kernel
theorem dL_phrases_250 : decode cL_phrases 250 = .ok (.iload 8, 2) := by decide +kernel
theorem dL_phrases_252 : decode cL_phrases 252 = .ok (.iaload, 1) := by decide +kernel
theorem dL_phrases_253 : decode cL_phrases 253 = .ok (.bipush 11, 2) := by decide +kernel
theorem dL_phrases_255 : decode cL_phrases 255 = .ok (.if_icmp .eq 13, 3) := by decide +kernel
theorem dL_phrases_258 : decode cL_phrases 258 = .ok (.aload_n 0, 1) := by decide +kernel
theorem dL_phrases_259 : decode cL_phrases 259 = .ok (.iload 8, 2) := by decide +kernel
theorem dL_phrases_261 : decode cL_phrases 261 = .ok (.iaload, 1) := by decide +kernel
theorem dL_phrases_262 : decode cL_phrases 262 = .ok (.invokestatic 27, 3) := by decide +kernel
theorem dL_phrases_265 : decode cL_phrases 265 = .ok (.ifCond .eq 7, 3) := by decide +kernel
theorem dL_phrases_268 : decode cL_phrases 268 = .ok (.iconst 1, 1) := by decide +kernel
theorem dL_phrases_269 : decode cL_phrases 269 = .ok (.goto 4, 3) := by decide +kernel
theorem dL_phrases_272 : decode cL_phrases 272 = .ok (.iconst 0, 1) := by decide +kernel
theorem dL_phrases_273 : decode cL_phrases 273 = .ok (.iastore, 1) := by decide +kernel
theorem dL_phrases_274 : decode cL_phrases 274 = .ok (.iinc 5 1, 3) := by decide +kernel
theorem dL_phrases_277 : decode cL_phrases 277 = .ok (.iload 6, 2) := by decide +kernel
theorem dL_phrases_279 : decode cL_phrases 279 = .ok (.iload_n 1, 1) := by decide +kernel
theorem dL_phrases_280 : decode cL_phrases 280 = .ok (.if_icmp .ge 12, 3) := by decide +kernel
theorem dL_phrases_283 : decode cL_phrases 283 = .ok (.aload_n 0, 1) := by decide +kernel
theorem dL_phrases_284 : decode cL_phrases 284 = .ok (.iload 6, 2) := by decide +kernel
theorem dL_phrases_286 : decode cL_phrases 286 = .ok (.iaload, 1) := by decide +kernel
theorem dL_phrases_287 : decode cL_phrases 287 = .ok (.bipush 13, 2) := by decide +kernel
theorem dL_phrases_289 : decode cL_phrases 289 = .ok (.if_icmp .eq (-283), 3) := by decide +kernel
theorem dL_phrases_292 : decode cL_phrases 292 = .ok (.iload 6, 2) := by decide +kernel
theorem dL_phrases_294 : decode cL_phrases 294 = .ok (.iload_n 1, 1) := by decide +kernel
theorem dL_phrases_295 : decode cL_phrases 295 = .ok (.if_icmp .ge 27, 3) := by decide +kernel
theorem dL_phrases_298 : decode cL_phrases 298 = .ok (.aload_n 2, 1) := by decide +kernel
theorem dL_phrases_299 : decode cL_phrases 299 = .ok (.iload 5, 2) := by decide +kernel
theorem dL_phrases_301 : decode cL_phrases 301 = .ok (.iload 6, 2) := by decide +kernel
theorem dL_phrases_303 : decode cL_phrases 303 = .ok (.iconst 1, 1) := by decide +kernel
theorem dL_phrases_304 : decode cL_phrases 304 = .ok (.iadd, 1) := by decide +kernel
theorem dL_phrases_305 : decode cL_phrases 305 = .ok (.iastore, 1) := by decide +kernel
theorem dL_phrases_306 : decode cL_phrases 306 = .ok (.aload_n 3, 1) := by decide +kernel
theorem dL_phrases_307 : decode cL_phrases 307 = .ok (.iload 5, 2) := by decide +kernel
theorem dL_phrases_309 : decode cL_phrases 309 = .ok (.iload_n 1, 1) := by decide +kernel
theorem dL_phrases_310 : decode cL_phrases 310 = .ok (.iconst 1, 1) := by decide +kernel
theorem dL_phrases_311 : decode cL_phrases 311 = .ok (.isub, 1) := by decide +kernel
theorem dL_phrases_312 : decode cL_phrases 312 = .ok (.iastore, 1) := by decide +kernel
theorem dL_phrases_313 : decode cL_phrases 313 = .ok (.aload 4, 2) := by decide +kernel
theorem dL_phrases_315 : decode cL_phrases 315 = .ok (.iload 5, 2) := by decide +kernel
theorem dL_phrases_317 : decode cL_phrases 317 = .ok (.iconst 4, 1) := by decide +kernel
theorem dL_phrases_318 : decode cL_phrases 318 = .ok (.iastore, 1) := by decide +kernel
theorem dL_phrases_319 : decode cL_phrases 319 = .ok (.iinc 5 1, 3) := by decide +kernel
theorem dL_phrases_322 : decode cL_phrases 322 = .ok (.iload 5, 2) := by decide +kernel
theorem dL_phrases_324 : decode cL_phrases 324 = .ok (.ireturn, 1) := by decide +kernel
set_option maxRecDepth 20000 in
theorem ggL_does_L_phrases : GoodIn wsL_does wsL_phrases := goodIn_q _ [6, 7, 4, 8, 9, 10, 11, 12, 13, 14, 15, 16, 17] [5] (by decide +kernel) rfl (by decide +kernel)
set_option maxRecDepth 20000 in
theorem gL_does_L_phrases : GoodIn wsL_does (va_wsS RL 41 yL_phrases wsL_phrases) := goodIn_app (goodIn_of _ (by decide +kernel)) ggL_does_L_phrases
set_option maxRecDepth 20000 in
theorem ggL_does_L_reach : GoodIn wsL_does wsL_reach := goodIn_r _ [20] (by decide +kernel) (by decide +kernel)
set_option maxRecDepth 20000 in
theorem gL_does_L_reach : GoodIn wsL_does (va_wsS RL 17 yL_reach wsL_reach) := goodIn_app (goodIn_of _ (by decide +kernel)) ggL_does_L_reach
set_option maxRecDepth 20000 in
theorem ggL_does_L_suited : GoodIn wsL_does wsL_suited := goodIn_r _ [23, 24, 25, 4, 26, 18, 19, 20] (by decide +kernel) (by decide +kernel)
set_option maxRecDepth 20000 in
theorem gL_does_L_suited : GoodIn wsL_does (va_wsS RL 45 yL_suited wsL_suited) := goodIn_app (goodIn_of _ (by decide +kernel)) ggL_does_L_suited
set_option maxRecDepth 20000 in
theorem ggL_does_L_isPlural : GoodIn wsL_does wsL_isPlural := goodIn_r _ [11] (by decide +kernel) (by decide +kernel)
set_option maxRecDepth 20000 in
theorem gL_does_L_isPlural : GoodIn wsL_does (va_wsS RL 27 yL_isPlural wsL_isPlural) := goodIn_app (goodIn_of _ (by decide +kernel)) ggL_does_L_isPlural
set_option maxRecDepth 20000 in
theorem ggL_does_L_fitting : GoodIn wsL_does wsL_fitting := goodIn_q _ [6, 7, 4, 8] [29] (by decide +kernel) rfl (by decide +kernel)
set_option maxRecDepth 20000 in
theorem gL_does_L_fitting : GoodIn wsL_does (va_wsS RL 49 yL_fitting wsL_fitting) := goodIn_app (goodIn_of _ (by decide +kernel)) ggL_does_L_fitting
set_option maxRecDepth 20000 in
theorem ggL_does_L_isNoun : GoodIn wsL_does wsL_isNoun := goodIn_r _ [17] (by decide +kernel) (by decide +kernel)
set_option maxRecDepth 20000 in
theorem gL_does_L_isNoun : GoodIn wsL_does (va_wsS RL 24 yL_isNoun wsL_isNoun) := goodIn_app (goodIn_of _ (by decide +kernel)) ggL_does_L_isNoun
set_option maxRecDepth 20000 in
theorem ggL_does_L_bits : GoodIn wsL_does wsL_bits := goodIn_r _ [32] (by decide +kernel) (by decide +kernel)
set_option maxRecDepth 20000 in
theorem gL_does_L_bits : GoodIn wsL_does (va_wsS RL 53 yL_bits wsL_bits) := goodIn_app (goodIn_of _ (by decide +kernel)) ggL_does_L_bits
set_option maxRecDepth 20000 in
theorem ggL_does_L_only : GoodIn wsL_does wsL_only := goodIn_r _ [35] (by decide +kernel) (by decide +kernel)
set_option maxRecDepth 20000 in
theorem gL_does_L_only : GoodIn wsL_does (va_wsS RL 57 yL_only wsL_only) := goodIn_app (goodIn_of _ (by decide +kernel)) ggL_does_L_only
theorem dL_does_0 : decode cL_does 0 = .ok (.bipush 24, 2) := by decide +kernel
theorem dL_does_2 : decode cL_does 2 = .ok (.newarray .int, 2) := by decide +kernel
theorem dL_does_4 : decode cL_does 4 = .ok (.astore 4, 2) := by decide +kernel
theorem dL_does_6 : decode cL_does 6 = .ok (.bipush 24, 2) := by decide +kernel
theorem dL_does_8 : decode cL_does 8 = .ok (.newarray .int, 2) := by decide +kernel
theorem dL_does_10 : decode cL_does 10 = .ok (.astore 5, 2) := by decide +kernel
theorem dL_does_12 : decode cL_does 12 = .ok (.bipush 24, 2) := by decide +kernel
theorem dL_does_14 : decode cL_does 14 = .ok (.newarray .int, 2) := by decide +kernel
theorem dL_does_16 : decode cL_does 16 = .ok (.astore 6, 2) := by decide +kernel
theorem dL_does_18 : decode cL_does 18 = .ok (.aload_n 2, 1) := by decide +kernel
theorem dL_does_19 : decode cL_does 19 = .ok (.aload_n 1, 1) := by decide +kernel
theorem dL_does_20 : decode cL_does 20 = .ok (.bipush 12, 2) := by decide +kernel
theorem dL_does_22 : decode cL_does 22 = .ok (.iaload, 1) := by decide +kernel
theorem dL_does_23 : decode cL_does 23 = .ok (.aload 4, 2) := by decide +kernel
theorem dL_does_25 : decode cL_does 25 = .ok (.aload 5, 2) := by decide +kernel
theorem dL_does_27 : decode cL_does 27 = .ok (.aload 6, 2) := by decide +kernel
theorem dL_does_29 : decode cL_does 29 = .ok (.invokestatic 41, 3) := by decide +kernel
theorem dL_does_32 : decode cL_does 32 = .ok (.istore 7, 2) := by decide +kernel
theorem dL_does_34 : decode cL_does 34 = .ok (.iconst 0, 1) := by decide +kernel
theorem dL_does_35 : decode cL_does 35 = .ok (.istore 8, 2) := by decide +kernel
theorem dL_does_37 : decode cL_does 37 = .ok (.iconst 0, 1) := by decide +kernel
theorem dL_does_38 : decode cL_does 38 = .ok (.istore 9, 2) := by decide +kernel
theorem dL_does_40 : decode cL_does 40 = .ok (.iconst (-1), 1) := by decide +kernel
theorem dL_does_41 : decode cL_does 41 = .ok (.istore 10, 2) := by decide +kernel
theorem dL_does_43 : decode cL_does 43 = .ok (.aload_n 1, 1) := by decide +kernel
theorem dL_does_44 : decode cL_does 44 = .ok (.bipush 9, 2) := by decide +kernel
theorem dL_does_46 : decode cL_does 46 = .ok (.iconst 0, 1) := by decide +kernel
theorem dL_does_47 : decode cL_does 47 = .ok (.iastore, 1) := by decide +kernel
theorem dL_does_48 : decode cL_does 48 = .ok (.aload_n 1, 1) := by decide +kernel
theorem dL_does_49 : decode cL_does 49 = .ok (.bipush 10, 2) := by decide +kernel
theorem dL_does_51 : decode cL_does 51 = .ok (.iconst (-1), 1) := by decide +kernel
theorem dL_does_52 : decode cL_does 52 = .ok (.iastore, 1) := by decide +kernel
theorem dL_does_53 : decode cL_does 53 = .ok (.iconst 0, 1) := by decide +kernel
theorem dL_does_54 : decode cL_does 54 = .ok (.istore 11, 2) := by decide +kernel
theorem dL_does_56 : decode cL_does 56 = .ok (.iload 11, 2) := by decide +kernel
theorem dL_does_58 : decode cL_does 58 = .ok (.iload 7, 2) := by decide +kernel
theorem dL_does_60 : decode cL_does 60 = .ok (.if_icmp .ge 392, 3) := by decide +kernel
theorem dL_does_63 : decode cL_does 63 = .ok (.aload 5, 2) := by decide +kernel
theorem dL_does_65 : decode cL_does 65 = .ok (.iload 11, 2) := by decide +kernel
theorem dL_does_67 : decode cL_does 67 = .ok (.iaload, 1) := by decide +kernel
theorem dL_does_68 : decode cL_does 68 = .ok (.istore 12, 2) := by decide +kernel
theorem dL_does_70 : decode cL_does 70 = .ok (.aload_n 2, 1) := by decide +kernel
theorem dL_does_71 : decode cL_does 71 = .ok (.iload 12, 2) := by decide +kernel
theorem dL_does_73 : decode cL_does 73 = .ok (.iaload, 1) := by decide +kernel
theorem dL_does_74 : decode cL_does 74 = .ok (.istore 13, 2) := by decide +kernel
theorem dL_does_76 : decode cL_does 76 = .ok (.iconst 0, 1) := by decide +kernel
theorem dL_does_77 : decode cL_does 77 = .ok (.istore 14, 2) := by decide +kernel
theorem dL_does_79 : decode cL_does 79 = .ok (.iconst 0, 1) := by decide +kernel
theorem dL_does_80 : decode cL_does 80 = .ok (.istore 15, 2) := by decide +kernel
theorem dL_does_82 : decode cL_does 82 = .ok (.aload 6, 2) := by decide +kernel
theorem dL_does_84 : decode cL_does 84 = .ok (.iload 11, 2) := by decide +kernel
theorem dL_does_86 : decode cL_does 86 = .ok (.iaload, 1) := by decide +kernel
theorem dL_does_87 : decode cL_does 87 = .ok (.iconst 2, 1) := by decide +kernel
theorem dL_does_88 : decode cL_does 88 = .ok (.if_icmp .ne 17, 3) := by decide +kernel
theorem dL_does_91 : decode cL_does 91 = .ok (.aload_n 1, 1) := by decide +kernel
theorem dL_does_92 : decode cL_does 92 = .ok (.iconst 5, 1) := by decide +kernel
theorem dL_does_93 : decode cL_does 93 = .ok (.iaload, 1) := by decide +kernel
theorem dL_does_94 : decode cL_does 94 = .ok (.aload_n 0, 1) := by decide +kernel
theorem dL_does_95 : decode cL_does 95 = .ok (.aload_n 1, 1) := by decide +kernel
theorem dL_does_96 : decode cL_does 96 = .ok (.invokestatic 17, 3) := by decide +kernel
theorem dL_does_99 : decode cL_does 99 = .ok (.iand, 1) := by decide +kernel
theorem dL_does_100 : decode cL_does 100 = .ok (.istore 14, 2) := by decide +kernel
theorem dL_does_102 : decode cL_does 102 = .ok (.goto 232, 3) := by decide +kernel
theorem dL_does_105 : decode cL_does 105 = .ok (.aload 6, 2) := by decide +kernel
theorem dL_does_107 : decode cL_does 107 = .ok (.iload 11, 2) := by decide +kernel
theorem dL_does_109 : decode cL_does 109 = .ok (.iaload, 1) := by decide +kernel
theorem dL_does_110 : decode cL_does 110 = .ok (.iconst 1, 1) := by decide +kernel
theorem dL_does_111 : decode cL_does 111 = .ok (.if_icmp .ne 53, 3) := by decide +kernel
theorem dL_does_114 : decode cL_does 114 = .ok (.aload_n 0, 1) := by decide +kernel
theorem dL_does_115 : decode cL_does 115 = .ok (.aload_n 0, 1) := by decide +kernel
theorem dL_does_116 : decode cL_does 116 = .ok (.aload_n 1, 1) := by decide +kernel
theorem dL_does_117 : decode cL_does 117 = .ok (.aload_n 2, 1) := by decide +kernel
theorem dL_does_118 : decode cL_does 118 = .ok (.iconst 0, 1) := by decide +kernel
theorem dL_does_119 : decode cL_does 119 = .ok (.iaload, 1) := by decide +kernel
theorem dL_does_120 : decode cL_does 120 = .ok (.invokestatic 45, 3) := by decide +kernel
theorem dL_does_123 : decode cL_does 123 = .ok (.aload_n 2, 1) := by decide +kernel
theorem dL_does_124 : decode cL_does 124 = .ok (.aload 4, 2) := by decide +kernel
theorem dL_does_126 : decode cL_does 126 = .ok (.iload 11, 2) := by decide +kernel
theorem dL_does_128 : decode cL_does 128 = .ok (.iaload, 1) := by decide +kernel
theorem dL_does_129 : decode cL_does 129 = .ok (.iload 12, 2) := by decide +kernel
theorem dL_does_131 : decode cL_does 131 = .ok (.iload 13, 2) := by decide +kernel
theorem dL_does_133 : decode cL_does 133 = .ok (.invokestatic 27, 3) := by decide +kernel
theorem dL_does_136 : decode cL_does 136 = .ok (.ifCond .eq 11, 3) := by decide +kernel
theorem dL_does_139 : decode cL_does 139 = .ok (.iload 13, 2) := by decide +kernel
theorem dL_does_141 : decode cL_does 141 = .ok (.bipush 40, 2) := by decide +kernel
theorem dL_does_143 : decode cL_does 143 = .ok (.isub, 1) := by decide +kernel
theorem dL_does_144 : decode cL_does 144 = .ok (.goto 4, 3) := by decide +kernel
theorem dL_does_147 : decode cL_does 147 = .ok (.iconst (-1), 1) := by decide +kernel
theorem dL_does_148 : decode cL_does 148 = .ok (.invokestatic 49, 3) := by decide +kernel
theorem dL_does_151 : decode cL_does 151 = .ok (.iload 9, 2) := by decide +kernel
theorem dL_does_153 : decode cL_does 153 = .ok (.iconst (-1), 1) := by decide +kernel
theorem dL_does_154 : decode cL_does 154 = .ok (.ixor, 1) := by decide +kernel
theorem dL_does_155 : decode cL_does 155 = .ok (.iand, 1) := by decide +kernel
theorem dL_does_156 : decode cL_does 156 = .ok (.istore 14, 2) := by decide +kernel
theorem dL_does_158 : decode cL_does 158 = .ok (.iconst 0, 1) := by decide +kernel
theorem dL_does_159 : decode cL_does 159 = .ok (.istore 9, 2) := by decide +kernel
theorem dL_does_161 : decode cL_does 161 = .ok (.goto 173, 3) := by decide +kernel
theorem dL_does_164 : decode cL_does 164 = .ok (.aload_n 3, 1) := by decide +kernel
theorem dL_does_165 : decode cL_does 165 = .ok (.iload 12, 2) := by decide +kernel
theorem dL_does_167 : decode cL_does 167 = .ok (.iaload, 1) := by decide +kernel
theorem dL_does_168 : decode cL_does 168 = .ok (.ifCond .lt 14, 3) := by decide +kernel
theorem dL_does_171 : decode cL_does 171 = .ok (.iconst 1, 1) := by decide +kernel
theorem dL_does_172 : decode cL_does 172 = .ok (.aload_n 3, 1) := by decide +kernel
theorem dL_does_173 : decode cL_does 173 = .ok (.iload 12, 2) := by decide +kernel
theorem dL_does_175 : decode cL_does 175 = .ok (.iaload, 1) := by decide +kernel
theorem dL_does_176 : decode cL_does 176 = .ok (.ishl, 1) := by decide +kernel
theorem dL_does_177 : decode cL_does 177 = .ok (.istore 14, 2) := by decide +kernel
theorem dL_does_179 : decode cL_does 179 = .ok (.goto 155, 3) := by decide +kernel
theorem dL_does_182 : decode cL_does 182 = .ok (.iload 13, 2) := by decide +kernel
theorem dL_does_184 : decode cL_does 184 = .ok (.bipush 14, 2) := by decide +kernel
theorem dL_does_186 : decode cL_does 186 = .ok (.if_icmp .ne 31, 3) := by decide +kernel
theorem dL_does_189 : decode cL_does 189 = .ok (.aload_n 1, 1) := by decide +kernel
theorem dL_does_190 : decode cL_does 190 = .ok (.bipush 8, 2) := by decide +kernel
theorem dL_does_192 : decode cL_does 192 = .ok (.iaload, 1) := by decide +kernel
theorem dL_does_193 : decode cL_does 193 = .ok (.ifCond .ge 7, 3) := by decide +kernel
theorem dL_does_196 : decode cL_does 196 = .ok (.iconst 0, 1) := by decide +kernel
theorem dL_does_197 : decode cL_does 197 = .ok (.goto 15, 3) := by decide +kernel
theorem dL_does_200 : decode cL_does 200 = .ok (.iconst 1, 1) := by decide +kernel
theorem dL_does_201 : decode cL_does 201 = .ok (.aload_n 1, 1) := by decide +kernel
theorem dL_does_202 : decode cL_does 202 = .ok (.bipush 8, 2) := by decide +kernel
theorem dL_does_204 : decode cL_does 204 = .ok (.iaload, 1) := by decide +kernel
theorem dL_does_205 : decode cL_does 205 = .ok (.ishl, 1) := by decide +kernel
theorem dL_does_206 : decode cL_does 206 = .ok (.aload_n 0, 1) := by decide +kernel
theorem dL_does_207 : decode cL_does 207 = .ok (.aload_n 1, 1) := by decide +kernel
theorem dL_does_208 : decode cL_does 208 = .ok (.invokestatic 17, 3) := by decide +kernel
theorem dL_does_211 : decode cL_does 211 = .ok (.iand, 1) := by decide +kernel
theorem dL_does_212 : decode cL_does 212 = .ok (.istore 14, 2) := by decide +kernel
theorem dL_does_214 : decode cL_does 214 = .ok (.goto 120, 3) := by decide +kernel
theorem dL_does_217 : decode cL_does 217 = .ok (.aload_n 0, 1) := by decide +kernel
theorem dL_does_218 : decode cL_does 218 = .ok (.aload_n 0, 1) := by decide +kernel
theorem dL_does_219 : decode cL_does 219 = .ok (.aload_n 1, 1) := by decide +kernel
theorem dL_does_220 : decode cL_does 220 = .ok (.invokestatic 17, 3) := by decide +kernel
theorem dL_does_223 : decode cL_does 223 = .ok (.aload_n 2, 1) := by decide +kernel
theorem dL_does_224 : decode cL_does 224 = .ok (.aload 4, 2) := by decide +kernel
theorem dL_does_226 : decode cL_does 226 = .ok (.iload 11, 2) := by decide +kernel
theorem dL_does_228 : decode cL_does 228 = .ok (.iaload, 1) := by decide +kernel
theorem dL_does_229 : decode cL_does 229 = .ok (.iload 12, 2) := by decide +kernel
theorem dL_does_231 : decode cL_does 231 = .ok (.iload 13, 2) := by decide +kernel
theorem dL_does_233 : decode cL_does 233 = .ok (.invokestatic 24, 3) := by decide +kernel
theorem dL_does_236 : decode cL_does 236 = .ok (.ifCond .eq 11, 3) := by decide +kernel
theorem dL_does_239 : decode cL_does 239 = .ok (.iload 13, 2) := by decide +kernel
theorem dL_does_241 : decode cL_does 241 = .ok (.bipush 30, 2) := by decide +kernel
theorem dL_does_243 : decode cL_does 243 = .ok (.isub, 1) := by decide +kernel
theorem dL_does_244 : decode cL_does 244 = .ok (.goto 4, 3) := by decide +kernel
theorem dL_does_247 : decode cL_does 247 = .ok (.iconst (-1), 1) := by decide +kernel
theorem dL_does_248 : decode cL_does 248 = .ok (.invokestatic 49, 3) := by decide +kernel
theorem dL_does_251 : decode cL_does 251 = .ok (.istore 16, 2) := by decide +kernel
theorem dL_does_253 : decode cL_does 253 = .ok (.iload 16, 2) := by decide +kernel
theorem dL_does_255 : decode cL_does 255 = .ok (.aload_n 0, 1) := by decide +kernel
theorem dL_does_256 : decode cL_does 256 = .ok (.aload_n 1, 1) := by decide +kernel
theorem dL_does_257 : decode cL_does 257 = .ok (.aload 6, 2) := by decide +kernel
theorem dL_does_259 : decode cL_does 259 = .ok (.iload 11, 2) := by decide +kernel
theorem dL_does_261 : decode cL_does 261 = .ok (.iaload, 1) := by decide +kernel
theorem dL_does_262 : decode cL_does 262 = .ok (.iconst 4, 1) := by decide +kernel
theorem dL_does_263 : decode cL_does 263 = .ok (.if_icmp .ne 8, 3) := by decide +kernel
theorem dL_does_266 : decode cL_does 266 = .ok (.bipush 16, 2) := by decide +kernel
theorem dL_does_268 : decode cL_does 268 = .ok (.goto 6, 3) := by decide +kernel
theorem dL_does_271 : decode cL_does 271 = .ok (.aload_n 2, 1) := by decide +kernel
theorem dL_does_272 : decode cL_does 272 = .ok (.iconst 0, 1) := by decide +kernel
theorem dL_does_273 : decode cL_does 273 = .ok (.iaload, 1) := by decide +kernel
theorem dL_does_274 : decode cL_does 274 = .ok (.invokestatic 45, 3) := by decide +kernel
theorem dL_does_277 : decode cL_does 277 = .ok (.iand, 1) := by decide +kernel
theorem dL_does_278 : decode cL_does 278 = .ok (.istore 17, 2) := by decide +kernel
theorem dL_does_280 : decode cL_does 280 = .ok (.iload 16, 2) := by decide +kernel
theorem dL_does_282 : decode cL_does 282 = .ok (.invokestatic 53, 3) := by decide +kernel
theorem dL_does_285 : decode cL_does 285 = .ok (.iconst 1, 1) := by decide +kernel
theorem dL_does_286 : decode cL_does 286 = .ok (.if_icmp .ne 8, 3) := by decide +kernel
theorem dL_does_289 : decode cL_does 289 = .ok (.iload 16, 2) := by decide +kernel
theorem dL_does_291 : decode cL_does 291 = .ok (.goto 18, 3) := by decide +kernel
theorem dL_does_294 : decode cL_does 294 = .ok (.iload 17, 2) := by decide +kernel
theorem dL_does_296 : decode cL_does 296 = .ok (.invokestatic 53, 3) := by decide +kernel
theorem dL_does_299 : decode cL_does 299 = .ok (.iconst 1, 1) := by decide +kernel
theorem dL_does_300 : decode cL_does 300 = .ok (.if_icmp .ne 8, 3) := by decide +kernel
theorem dL_does_303 : decode cL_does 303 = .ok (.iload 17, 2) := by decide +kernel
theorem dL_does_305 : decode cL_does 305 = .ok (.goto 4, 3) := by decide +kernel
theorem dL_does_308 : decode cL_does 308 = .ok (.iconst 0, 1) := by decide +kernel
theorem dL_does_309 : decode cL_does 309 = .ok (.istore 14, 2) := by decide +kernel
theorem dL_does_311 : decode cL_does 311 = .ok (.iload 14, 2) := by decide +kernel
theorem dL_does_313 : decode cL_does 313 = .ok (.ifCond .le 7, 3) := by decide +kernel
theorem dL_does_316 : decode cL_does 316 = .ok (.iconst 0, 1) := by decide +kernel
theorem dL_does_317 : decode cL_does 317 = .ok (.goto 15, 3) := by decide +kernel
theorem dL_does_320 : decode cL_does 320 = .ok (.iload 17, 2) := by decide +kernel
theorem dL_does_322 : decode cL_does 322 = .ok (.ifCond .le 8, 3) := by decide +kernel
theorem dL_does_325 : decode cL_does 325 = .ok (.iload 17, 2) := by decide +kernel
theorem dL_does_327 : decode cL_does 327 = .ok (.goto 5, 3) := by decide +kernel
theorem dL_does_330 : decode cL_does 330 = .ok (.iload 16, 2) := by decide +kernel
theorem dL_does_332 : decode cL_does 332 = .ok (.istore 15, 2) := by decide +kernel
theorem dL_does_334 : decode cL_does 334 = .ok (.iload 14, 2) := by decide +kernel
theorem dL_does_336 : decode cL_does 336 = .ok (.ifCond .ne 49, 3) := by decide +kernel
theorem dL_does_339 : decode cL_does 339 = .ok (.aload_n 1, 1) := by decide +kernel
theorem dL_does_340 : decode cL_does 340 = .ok (.iconst 3, 1) := by decide +kernel
theorem dL_does_341 : decode cL_does 341 = .ok (.iload 15, 2) := by decide +kernel
theorem dL_does_343 : decode cL_does 343 = .ok (.ifCond .ne 8, 3) := by decide +kernel
theorem dL_does_346 : decode cL_does 346 = .ok (.iload 12, 2) := by decide +kernel
theorem dL_does_348 : decode cL_does 348 = .ok (.goto 4, 3) := by decide +kernel
theorem dL_does_351 : decode cL_does 351 = .ok (.iconst (-1), 1) := by decide +kernel
theorem dL_does_352 : decode cL_does 352 = .ok (.iastore, 1) := by decide +kernel
theorem dL_does_353 : decode cL_does 353 = .ok (.aload_n 1, 1) := by decide +kernel
theorem dL_does_354 : decode cL_does 354 = .ok (.bipush 9, 2) := by decide +kernel
theorem dL_does_356 : decode cL_does 356 = .ok (.iload 15, 2) := by decide +kernel
theorem dL_does_358 : decode cL_does 358 = .ok (.iastore, 1) := by decide +kernel
theorem dL_does_359 : decode cL_does 359 = .ok (.aload_n 1, 1) := by decide +kernel
theorem dL_does_360 : decode cL_does 360 = .ok (.bipush 10, 2) := by decide +kernel
theorem dL_does_362 : decode cL_does 362 = .ok (.iload 15, 2) := by decide +kernel
theorem dL_does_364 : decode cL_does 364 = .ok (.ifCond .ne 7, 3) := by decide +kernel
theorem dL_does_367 : decode cL_does 367 = .ok (.iconst (-1), 1) := by decide +kernel
theorem dL_does_368 : decode cL_does 368 = .ok (.goto 5, 3) := by decide +kernel
theorem dL_does_371 : decode cL_does 371 = .ok (.iload 12, 2) := by decide +kernel
theorem dL_does_373 : decode cL_does 373 = .ok (.iastore, 1) := by decide +kernel
theorem dL_does_374 : decode cL_does 374 = .ok (.iload 15, 2) := by decide +kernel
theorem dL_does_376 : decode cL_does 376 = .ok (.ifCond .ne 7, 3) := by decide +kernel
theorem dL_does_379 : decode cL_does 379 = .ok (.iconst 5, 1) := by decide +kernel
theorem dL_does_380 : decode cL_does 380 = .ok (.goto 4, 3) := by decide +kernel
theorem dL_does_383 : decode cL_does 383 = .ok (.iconst 1, 1) := by decide +kernel
theorem dL_does_384 : decode cL_does 384 = .ok (.ireturn, 1) := by decide +kernel
theorem dL_does_385 : decode cL_does 385 = .ok (.iload 8, 2) := by decide +kernel
theorem dL_does_387 : decode cL_does 387 = .ok (.aload 6, 2) := by decide +kernel
theorem dL_does_389 : decode cL_does 389 = .ok (.iload 11, 2) := by decide +kernel
theorem dL_does_391 : decode cL_does 391 = .ok (.iaload, 1) := by decide +kernel
theorem dL_does_392 : decode cL_does 392 = .ok (.iconst 3, 1) := by decide +kernel
theorem dL_does_393 : decode cL_does 393 = .ok (.if_icmp .ge 8, 3) := by decide +kernel
theorem dL_does_396 : decode cL_does 396 = .ok (.iload 14, 2) := by decide +kernel
theorem dL_does_398 : decode cL_does 398 = .ok (.goto 4, 3) := by decide +kernel
theorem dL_does_401 : decode cL_does 401 = .ok (.iconst 0, 1) := by decide +kernel
theorem dL_does_402 : decode cL_does 402 = .ok (.ior, 1) := by decide +kernel
theorem dL_does_403 : decode cL_does 403 = .ok (.istore 8, 2) := by decide +kernel
theorem dL_does_405 : decode cL_does 405 = .ok (.iload 9, 2) := by decide +kernel
theorem dL_does_407 : decode cL_does 407 = .ok (.aload 6, 2) := by decide +kernel
theorem dL_does_409 : decode cL_does 409 = .ok (.iload 11, 2) := by decide +kernel
theorem dL_does_411 : decode cL_does 411 = .ok (.iaload, 1) := by decide +kernel
theorem dL_does_412 : decode cL_does 412 = .ok (.iconst 3, 1) := by decide +kernel
theorem dL_does_413 : decode cL_does 413 = .ok (.if_icmp .ne 8, 3) := by decide +kernel
theorem dL_does_416 : decode cL_does 416 = .ok (.iload 14, 2) := by decide +kernel
theorem dL_does_418 : decode cL_does 418 = .ok (.goto 4, 3) := by decide +kernel
theorem dL_does_421 : decode cL_does 421 = .ok (.iconst 0, 1) := by decide +kernel
theorem dL_does_422 : decode cL_does 422 = .ok (.ior, 1) := by decide +kernel
theorem dL_does_423 : decode cL_does 423 = .ok (.istore 9, 2) := by decide +kernel
theorem dL_does_425 : decode cL_does 425 = .ok (.aload 6, 2) := by decide +kernel
theorem dL_does_427 : decode cL_does 427 = .ok (.iload 11, 2) := by decide +kernel
theorem dL_does_429 : decode cL_does 429 = .ok (.iaload, 1) := by decide +kernel
theorem dL_does_430 : decode cL_does 430 = .ok (.iconst 4, 1) := by decide +kernel
theorem dL_does_431 : decode cL_does 431 = .ok (.if_icmp .ne 11, 3) := by decide +kernel
theorem dL_does_434 : decode cL_does 434 = .ok (.iload 14, 2) := by decide +kernel
theorem dL_does_436 : decode cL_does 436 = .ok (.invokestatic 57, 3) := by decide +kernel
theorem dL_does_439 : decode cL_does 439 = .ok (.goto 5, 3) := by decide +kernel
theorem dL_does_442 : decode cL_does 442 = .ok (.iload 10, 2) := by decide +kernel
theorem dL_does_444 : decode cL_does 444 = .ok (.istore 10, 2) := by decide +kernel
theorem dL_does_446 : decode cL_does 446 = .ok (.iinc 11 1, 3) := by decide +kernel
theorem dL_does_449 : decode cL_does 449 = .ok (.goto (-393), 3) := by decide +kernel
theorem dL_does_452 : decode cL_does 452 = .ok (.aload_n 1, 1) := by decide +kernel
theorem dL_does_453 : decode cL_does 453 = .ok (.iconst 4, 1) := by decide +kernel
theorem dL_does_454 : decode cL_does 454 = .ok (.aload_n 2, 1) := by decide +kernel
theorem dL_does_455 : decode cL_does 455 = .ok (.iconst 0, 1) := by decide +kernel
theorem dL_does_456 : decode cL_does 456 = .ok (.iaload, 1) := by decide +kernel
theorem dL_does_457 : decode cL_does 457 = .ok (.iastore, 1) := by decide +kernel
theorem dL_does_458 : decode cL_does 458 = .ok (.aload_n 1, 1) := by decide +kernel
theorem dL_does_459 : decode cL_does 459 = .ok (.iconst 5, 1) := by decide +kernel
theorem dL_does_460 : decode cL_does 460 = .ok (.iload 8, 2) := by decide +kernel
theorem dL_does_462 : decode cL_does 462 = .ok (.iastore, 1) := by decide +kernel
theorem dL_does_463 : decode cL_does 463 = .ok (.aload_n 1, 1) := by decide +kernel
theorem dL_does_464 : decode cL_does 464 = .ok (.bipush 6, 2) := by decide +kernel
theorem dL_does_466 : decode cL_does 466 = .ok (.iconst 0, 1) := by decide +kernel
theorem dL_does_467 : decode cL_does 467 = .ok (.iastore, 1) := by decide +kernel
theorem dL_does_468 : decode cL_does 468 = .ok (.aload_n 1, 1) := by decide +kernel
theorem dL_does_469 : decode cL_does 469 = .ok (.bipush 7, 2) := by decide +kernel
theorem dL_does_471 : decode cL_does 471 = .ok (.iload 10, 2) := by decide +kernel
theorem dL_does_473 : decode cL_does 473 = .ok (.iastore, 1) := by decide +kernel
theorem dL_does_474 : decode cL_does 474 = .ok (.aload_n 1, 1) := by decide +kernel
theorem dL_does_475 : decode cL_does 475 = .ok (.bipush 8, 2) := by decide +kernel
theorem dL_does_477 : decode cL_does 477 = .ok (.iload 8, 2) := by decide +kernel
theorem dL_does_479 : decode cL_does 479 = .ok (.invokestatic 53, 3) := by decide +kernel
theorem dL_does_482 : decode cL_does 482 = .ok (.iconst 1, 1) := by decide +kernel
theorem dL_does_483 : decode cL_does 483 = .ok (.if_icmp .ne 11, 3) := by decide +kernel
theorem dL_does_486 : decode cL_does 486 = .ok (.iload 8, 2) := by decide +kernel
theorem dL_does_488 : decode cL_does 488 = .ok (.invokestatic 57, 3) := by decide +kernel
theorem dL_does_491 : decode cL_does 491 = .ok (.goto 7, 3) := by decide +kernel
theorem dL_does_494 : decode cL_does 494 = .ok (.aload_n 1, 1) := by decide +kernel
theorem dL_does_495 : decode cL_does 495 = .ok (.bipush 8, 2) := by decide +kernel
theorem dL_does_497 : decode cL_does 497 = .ok (.iaload, 1) := by decide +kernel
theorem dL_does_498 : decode cL_does 498 = .ok (.iastore, 1) := by decide +kernel
theorem dL_does_499 : decode cL_does 499 = .ok (.iconst 0, 1) := by decide +kernel
theorem dL_does_500 : decode cL_does 500 = .ok (.istore 11, 2) := by decide +kernel
theorem dL_does_502 : decode cL_does 502 = .ok (.iload 11, 2) := by decide +kernel
theorem dL_does_504 : decode cL_does 504 = .ok (.bipush 6, 2) := by decide +kernel
theorem dL_does_506 : decode cL_does 506 = .ok (.if_icmp .ge 215, 3) := by decide +kernel
theorem dL_does_509 : decode cL_does 509 = .ok (.iload 8, 2) := by decide +kernel
theorem dL_does_511 : decode cL_does 511 = .ok (.iload 11, 2) := by decide +kernel
theorem dL_does_513 : decode cL_does 513 = .ok (.ishr, 1) := by decide +kernel
theorem dL_does_514 : decode cL_does 514 = .ok (.iconst 1, 1) := by decide +kernel
theorem dL_does_515 : decode cL_does 515 = .ok (.iand, 1) := by decide +kernel
theorem dL_does_516 : decode cL_does 516 = .ok (.iconst 1, 1) := by decide +kernel
theorem dL_does_517 : decode cL_does 517 = .ok (.if_icmp .ne 24, 3) := by decide +kernel
theorem dL_does_520 : decode cL_does 520 = .ok (.aload_n 0, 1) := by decide +kernel
theorem dL_does_521 : decode cL_does 521 = .ok (.aload_n 1, 1) := by decide +kernel
theorem dL_does_522 : decode cL_does 522 = .ok (.aload_n 2, 1) := by decide +kernel
theorem dL_does_523 : decode cL_does 523 = .ok (.iconst 0, 1) := by decide +kernel
theorem dL_does_524 : decode cL_does 524 = .ok (.iaload, 1) := by decide +kernel
theorem dL_does_525 : decode cL_does 525 = .ok (.invokestatic 45, 3) := by decide +kernel
theorem dL_does_528 : decode cL_does 528 = .ok (.iload 11, 2) := by decide +kernel
theorem dL_does_530 : decode cL_does 530 = .ok (.ishr, 1) := by decide +kernel
theorem dL_does_531 : decode cL_does 531 = .ok (.iconst 1, 1) := by decide +kernel
theorem dL_does_532 : decode cL_does 532 = .ok (.iand, 1) := by decide +kernel
theorem dL_does_533 : decode cL_does 533 = .ok (.iconst 1, 1) := by decide +kernel
theorem dL_does_534 : decode cL_does 534 = .ok (.if_icmp .ne 7, 3) := by decide +kernel
theorem dL_does_537 : decode cL_does 537 = .ok (.iconst 1, 1) := by decide +kernel
theorem dL_does_538 : decode cL_does 538 = .ok (.goto 4, 3) := by decide +kernel
theorem dL_does_541 : decode cL_does 541 = .ok (.iconst 0, 1) := by decide +kernel
