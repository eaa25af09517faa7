theorem dX6_word_82 : decode cX6_word 82 = .ok (.getfield 95, 3) := by decide +kernel
theorem dX6_word_85 : decode cX6_word 85 = .ok (.iconst 1, 1) := by decide +kernel
theorem dX6_word_86 : decode cX6_word 86 = .ok (.iadd, 1) := by decide +kernel
theorem dX6_word_87 : decode cX6_word 87 = .ok (.putfield 95, 3) := by decide +kernel
theorem dX6_word_90 : decode cX6_word 90 = .ok (.aload_n 0, 1) := by decide +kernel
theorem dX6_word_91 : decode cX6_word 91 = .ok (.getfield 95, 3) := by decide +kernel
theorem dX6_word_94 : decode cX6_word 94 = .ok (.ireturn, 1) := by decide +kernel
set_option maxRecDepth 20000 in
theorem ggX6_back_X6_may : GoodIn wsX6_back wsX6_may := goodIn_r _ [7, 8, 9, 10, 11, 12, 13, 14, 15, 16, 17, 18, 19, 20, 21, 22, 23, 24, 25, 26, 27, 28, 29, 30, 31, 32, 33] (by decide +kernel) (by decide +kernel)
set_option maxRecDepth 20000 in
theorem gX6_back_X6_may : GoodIn wsX6_back (wsV RX6 68 RX6 yX6_may wsX6_may) := goodIn_app (goodIn_of _ (by decide +kernel)) ggX6_back_X6_may
theorem dX6_back_0 : decode cX6_back 0 = .ok (.aload_n 0, 1) := by decide +kernel
theorem dX6_back_1 : decode cX6_back 1 = .ok (.aload_n 0, 1) := by decide +kernel
theorem dX6_back_2 : decode cX6_back 2 = .ok (.getfield 95, 3) := by decide +kernel
theorem dX6_back_5 : decode cX6_back 5 = .ok (.ifCond .le 7, 3) := by decide +kernel
theorem dX6_back_8 : decode cX6_back 8 = .ok (.iconst 1, 1) := by decide +kernel
theorem dX6_back_9 : decode cX6_back 9 = .ok (.goto 4, 3) := by decide +kernel
theorem dX6_back_12 : decode cX6_back 12 = .ok (.iconst 0, 1) := by decide +kernel
theorem dX6_back_13 : decode cX6_back 13 = .ok (.invokevirtual 68, 3) := by decide +kernel
theorem dX6_back_16 : decode cX6_back 16 = .ok (.ifCond .ne 5, 3) := by decide +kernel
theorem dX6_back_19 : decode cX6_back 19 = .ok (.iconst 0, 1) := by decide +kernel
theorem dX6_back_20 : decode cX6_back 20 = .ok (.ireturn, 1) := by decide +kernel
theorem dX6_back_21 : decode cX6_back 21 = .ok (.aload_n 0, 1) := by decide +kernel
theorem dX6_back_22 : decode cX6_back 22 = .ok (.dup, 1) := by decide +kernel
theorem dX6_back_23 : decode cX6_back 23 = .ok (.getfield 95, 3) := by decide +kernel
theorem dX6_back_26 : decode cX6_back 26 = .ok (.iconst 1, 1) := by decide +kernel
theorem dX6_back_27 : decode cX6_back 27 = .ok (.isub, 1) := by decide +kernel
theorem dX6_back_28 : decode cX6_back 28 = .ok (.putfield 95, 3) := by decide +kernel
theorem dX6_back_31 : decode cX6_back 31 = .ok (.aload_n 0, 1) := by decide +kernel
theorem dX6_back_32 : decode cX6_back 32 = .ok (.getfield 26, 3) := by decide +kernel
theorem dX6_back_35 : decode cX6_back 35 = .ok (.aload_n 0, 1) := by decide +kernel
theorem dX6_back_36 : decode cX6_back 36 = .ok (.getfield 95, 3) := by decide +kernel
theorem dX6_back_39 : decode cX6_back 39 = .ok (.iaload, 1) := by decide +kernel
theorem dX6_back_40 : decode cX6_back 40 = .ok (.ireturn, 1) := by decide +kernel
set_option maxRecDepth 20000 in
theorem ggX6_phrase_X6_isAdjective : GoodIn wsX6_phrase wsX6_isAdjective := goodIn_r _ [4] (by decide +kernel) (by decide +kernel)
set_option maxRecDepth 20000 in
theorem gX6_phrase_X6_isAdjective : GoodIn wsX6_phrase (va_wsS RX6 86 yX6_isAdjective wsX6_isAdjective) := goodIn_app (goodIn_of _ (by decide +kernel)) ggX6_phrase_X6_isAdjective
set_option maxRecDepth 20000 in
theorem ggX6_phrase_X6_isNoun : GoodIn wsX6_phrase wsX6_isNoun := goodIn_r _ [7] (by decide +kernel) (by decide +kernel)
set_option maxRecDepth 20000 in
theorem gX6_phrase_X6_isNoun : GoodIn wsX6_phrase (va_wsS RX6 89 yX6_isNoun wsX6_isNoun) := goodIn_app (goodIn_of _ (by decide +kernel)) ggX6_phrase_X6_isNoun
set_option maxRecDepth 20000 in
theorem ggX6_phrase_X6_isPlural : GoodIn wsX6_phrase wsX6_isPlural := goodIn_r _ [10] (by decide +kernel) (by decide +kernel)
set_option maxRecDepth 20000 in
theorem gX6_phrase_X6_isPlural : GoodIn wsX6_phrase (va_wsS RX6 92 yX6_isPlural wsX6_isPlural) := goodIn_app (goodIn_of _ (by decide +kernel)) ggX6_phrase_X6_isPlural
theorem dX6_phrase_0 : decode cX6_phrase 0 = .ok (.iload_n 0, 1) := by decide +kernel
theorem dX6_phrase_1 : decode cX6_phrase 1 = .ok (.bipush 8, 2) := by decide +kernel
theorem dX6_phrase_3 : decode cX6_phrase 3 = .ok (.if_icmp .eq 15, 3) := by decide +kernel
theorem dX6_phrase_6 : decode cX6_phrase 6 = .ok (.iload_n 0, 1) := by decide +kernel
theorem dX6_phrase_7 : decode cX6_phrase 7 = .ok (.bipush 9, 2) := by decide +kernel
theorem dX6_phrase_9 : decode cX6_phrase 9 = .ok (.if_icmp .eq 9, 3) := by decide +kernel
theorem dX6_phrase_12 : decode cX6_phrase 12 = .ok (.iload_n 0, 1) := by decide +kernel
theorem dX6_phrase_13 : decode cX6_phrase 13 = .ok (.bipush 10, 2) := by decide +kernel
theorem dX6_phrase_15 : decode cX6_phrase 15 = .ok (.if_icmp .ne 7, 3) := by decide +kernel
theorem dX6_phrase_18 : decode cX6_phrase 18 = .ok (.iconst 1, 1) := by decide +kernel
theorem dX6_phrase_19 : decode cX6_phrase 19 = .ok (.goto 4, 3) := by decide +kernel
theorem dX6_phrase_22 : decode cX6_phrase 22 = .ok (.iconst 0, 1) := by decide +kernel
theorem dX6_phrase_23 : decode cX6_phrase 23 = .ok (.istore_n 3, 1) := by decide +kernel
theorem dX6_phrase_24 : decode cX6_phrase 24 = .ok (.iload_n 0, 1) := by decide +kernel
theorem dX6_phrase_25 : decode cX6_phrase 25 = .ok (.iconst 1, 1) := by decide +kernel
theorem dX6_phrase_26 : decode cX6_phrase 26 = .ok (.if_icmp .eq 9, 3) := by decide +kernel
theorem dX6_phrase_29 : decode cX6_phrase 29 = .ok (.iload_n 0, 1) := by decide +kernel
theorem dX6_phrase_30 : decode cX6_phrase 30 = .ok (.bipush 8, 2) := by decide +kernel
theorem dX6_phrase_32 : decode cX6_phrase 32 = .ok (.if_icmp .ne 7, 3) := by decide +kernel
theorem dX6_phrase_35 : decode cX6_phrase 35 = .ok (.iconst 1, 1) := by decide +kernel
theorem dX6_phrase_36 : decode cX6_phrase 36 = .ok (.goto 4, 3) := by decide +kernel
theorem dX6_phrase_39 : decode cX6_phrase 39 = .ok (.iconst 0, 1) := by decide +kernel
theorem dX6_phrase_40 : decode cX6_phrase 40 = .ok (.istore 4, 2) := by decide +kernel
theorem dX6_phrase_42 : decode cX6_phrase 42 = .ok (.iload_n 0, 1) := by decide +kernel
theorem dX6_phrase_43 : decode cX6_phrase 43 = .ok (.iconst 3, 1) := by decide +kernel
theorem dX6_phrase_44 : decode cX6_phrase 44 = .ok (.if_icmp .eq 9, 3) := by decide +kernel
theorem dX6_phrase_47 : decode cX6_phrase 47 = .ok (.iload_n 0, 1) := by decide +kernel
theorem dX6_phrase_48 : decode cX6_phrase 48 = .ok (.bipush 10, 2) := by decide +kernel
theorem dX6_phrase_50 : decode cX6_phrase 50 = .ok (.if_icmp .ne 7, 3) := by decide +kernel
theorem dX6_phrase_53 : decode cX6_phrase 53 = .ok (.iconst 1, 1) := by decide +kernel
theorem dX6_phrase_54 : decode cX6_phrase 54 = .ok (.goto 4, 3) := by decide +kernel
theorem dX6_phrase_57 : decode cX6_phrase 57 = .ok (.iconst 0, 1) := by decide +kernel
theorem dX6_phrase_58 : decode cX6_phrase 58 = .ok (.istore 5, 2) := by decide +kernel
theorem dX6_phrase_60 : decode cX6_phrase 60 = .ok (.iload 4, 2) := by decide +kernel
theorem dX6_phrase_62 : decode cX6_phrase 62 = .ok (.ifCond .eq 20, 3) := by decide +kernel
theorem dX6_phrase_65 : decode cX6_phrase 65 = .ok (.iload_n 1, 1) := by decide +kernel
theorem dX6_phrase_66 : decode cX6_phrase 66 = .ok (.bipush 10, 2) := by decide +kernel
theorem dX6_phrase_68 : decode cX6_phrase 68 = .ok (.if_icmp .ne 14, 3) := by decide +kernel
theorem dX6_phrase_71 : decode cX6_phrase 71 = .ok (.iload_n 3, 1) := by decide +kernel
theorem dX6_phrase_72 : decode cX6_phrase 72 = .ok (.ifCond .eq 8, 3) := by decide +kernel
theorem dX6_phrase_75 : decode cX6_phrase 75 = .ok (.bipush 9, 2) := by decide +kernel
theorem dX6_phrase_77 : decode cX6_phrase 77 = .ok (.goto 4, 3) := by decide +kernel
theorem dX6_phrase_80 : decode cX6_phrase 80 = .ok (.iconst 2, 1) := by decide +kernel
theorem dX6_phrase_81 : decode cX6_phrase 81 = .ok (.ireturn, 1) := by decide +kernel
theorem dX6_phrase_82 : decode cX6_phrase 82 = .ok (.iload_n 1, 1) := by decide +kernel
theorem dX6_phrase_83 : decode cX6_phrase 83 = .ok (.invokestatic 86, 3) := by decide +kernel
theorem dX6_phrase_86 : decode cX6_phrase 86 = .ok (.ifCond .eq 14, 3) := by decide +kernel
theorem dX6_phrase_89 : decode cX6_phrase 89 = .ok (.iload_n 3, 1) := by decide +kernel
theorem dX6_phrase_90 : decode cX6_phrase 90 = .ok (.ifCond .eq 8, 3) := by decide +kernel
theorem dX6_phrase_93 : decode cX6_phrase 93 = .ok (.bipush 10, 2) := by decide +kernel
theorem dX6_phrase_95 : decode cX6_phrase 95 = .ok (.goto 4, 3) := by decide +kernel
theorem dX6_phrase_98 : decode cX6_phrase 98 = .ok (.iconst 3, 1) := by decide +kernel
theorem dX6_phrase_99 : decode cX6_phrase 99 = .ok (.ireturn, 1) := by decide +kernel
theorem dX6_phrase_100 : decode cX6_phrase 100 = .ok (.iload_n 1, 1) := by decide +kernel
theorem dX6_phrase_101 : decode cX6_phrase 101 = .ok (.invokestatic 89, 3) := by decide +kernel
theorem dX6_phrase_104 : decode cX6_phrase 104 = .ok (.ifCond .ne 25, 3) := by decide +kernel
theorem dX6_phrase_107 : decode cX6_phrase 107 = .ok (.iload 4, 2) := by decide +kernel
theorem dX6_phrase_109 : decode cX6_phrase 109 = .ok (.ifCond .eq 9, 3) := by decide +kernel
theorem dX6_phrase_112 : decode cX6_phrase 112 = .ok (.iload_n 1, 1) := by decide +kernel
theorem dX6_phrase_113 : decode cX6_phrase 113 = .ok (.bipush 14, 2) := by decide +kernel
theorem dX6_phrase_115 : decode cX6_phrase 115 = .ok (.if_icmp .eq 14, 3) := by decide +kernel
theorem dX6_phrase_118 : decode cX6_phrase 118 = .ok (.iload 5, 2) := by decide +kernel
theorem dX6_phrase_120 : decode cX6_phrase 120 = .ok (.ifCond .eq 11, 3) := by decide +kernel
theorem dX6_phrase_123 : decode cX6_phrase 123 = .ok (.iload_n 1, 1) := by decide +kernel
theorem dX6_phrase_124 : decode cX6_phrase 124 = .ok (.bipush 17, 2) := by decide +kernel
theorem dX6_phrase_126 : decode cX6_phrase 126 = .ok (.if_icmp .ne 5, 3) := by decide +kernel
theorem dX6_phrase_129 : decode cX6_phrase 129 = .ok (.iload_n 2, 1) := by decide +kernel
theorem dX6_phrase_130 : decode cX6_phrase 130 = .ok (.ireturn, 1) := by decide +kernel
theorem dX6_phrase_131 : decode cX6_phrase 131 = .ok (.iload_n 3, 1) := by decide +kernel
theorem dX6_phrase_132 : decode cX6_phrase 132 = .ok (.ifCond .eq 6, 3) := by decide +kernel
theorem dX6_phrase_135 : decode cX6_phrase 135 = .ok (.bipush 13, 2) := by decide +kernel
theorem dX6_phrase_137 : decode cX6_phrase 137 = .ok (.ireturn, 1) := by decide +kernel
theorem dX6_phrase_138 : decode cX6_phrase 138 = .ok (.iload_n 1, 1) := by decide +kernel
theorem dX6_phrase_139 : decode cX6_phrase 139 = .ok (.invokestatic 92, 3) := by decide +kernel
theorem dX6_phrase_142 : decode cX6_phrase 142 = .ok (.ifCond .eq 8, 3) := by decide +kernel
theorem dX6_phrase_145 : decode cX6_phrase 145 = .ok (.bipush 6, 2) := by decide +kernel
theorem dX6_phrase_147 : decode cX6_phrase 147 = .ok (.goto 36, 3) := by decide +kernel
theorem dX6_phrase_150 : decode cX6_phrase 150 = .ok (.iload_n 0, 1) := by decide +kernel
theorem dX6_phrase_151 : decode cX6_phrase 151 = .ok (.iconst 1, 1) := by decide +kernel
theorem dX6_phrase_152 : decode cX6_phrase 152 = .ok (.if_icmp .ne 13, 3) := by decide +kernel
theorem dX6_phrase_155 : decode cX6_phrase 155 = .ok (.iload_n 1, 1) := by decide +kernel
theorem dX6_phrase_156 : decode cX6_phrase 156 = .ok (.bipush 11, 2) := by decide +kernel
theorem dX6_phrase_158 : decode cX6_phrase 158 = .ok (.if_icmp .ne 7, 3) := by decide +kernel
theorem dX6_phrase_161 : decode cX6_phrase 161 = .ok (.iconst 4, 1) := by decide +kernel
theorem dX6_phrase_162 : decode cX6_phrase 162 = .ok (.goto 21, 3) := by decide +kernel
theorem dX6_phrase_165 : decode cX6_phrase 165 = .ok (.iload_n 0, 1) := by decide +kernel
theorem dX6_phrase_166 : decode cX6_phrase 166 = .ok (.iconst 1, 1) := by decide +kernel
theorem dX6_phrase_167 : decode cX6_phrase 167 = .ok (.if_icmp .ne 14, 3) := by decide +kernel
theorem dX6_phrase_170 : decode cX6_phrase 170 = .ok (.iload_n 1, 1) := by decide +kernel
theorem dX6_phrase_171 : decode cX6_phrase 171 = .ok (.bipush 15, 2) := by decide +kernel
theorem dX6_phrase_173 : decode cX6_phrase 173 = .ok (.if_icmp .ne 8, 3) := by decide +kernel
theorem dX6_phrase_176 : decode cX6_phrase 176 = .ok (.bipush 7, 2) := by decide +kernel
theorem dX6_phrase_178 : decode cX6_phrase 178 = .ok (.goto 5, 3) := by decide +kernel
theorem dX6_phrase_181 : decode cX6_phrase 181 = .ok (.bipush 13, 2) := by decide +kernel
theorem dX6_phrase_183 : decode cX6_phrase 183 = .ok (.ireturn, 1) := by decide +kernel
set_option maxRecDepth 20000 in
theorem ggX6_wrongOrder_X6_isAdjective : GoodIn wsX6_wrongOrder wsX6_isAdjective := goodIn_r _ [6] (by decide +kernel) (by decide +kernel)
set_option maxRecDepth 20000 in
theorem gX6_wrongOrder_X6_isAdjective : GoodIn wsX6_wrongOrder (va_wsS RX6 86 yX6_isAdjective wsX6_isAdjective) := goodIn_app (goodIn_of _ (by decide +kernel)) ggX6_wrongOrder_X6_isAdjective
set_option maxRecDepth 20000 in
theorem ggX6_wrongOrder_X6_isPlural : GoodIn wsX6_wrongOrder wsX6_isPlural := goodIn_r _ [9] (by decide +kernel) (by decide +kernel)
set_option maxRecDepth 20000 in
theorem gX6_wrongOrder_X6_isPlural : GoodIn wsX6_wrongOrder (va_wsS RX6 92 yX6_isPlural wsX6_isPlural) := goodIn_app (goodIn_of _ (by decide +kernel)) ggX6_wrongOrder_X6_isPlural
set_option maxRecDepth 20000 in
theorem ggX6_wrongOrder_X6_phrase : GoodIn wsX6_wrongOrder wsX6_phrase := goodIn_r _ [12, 3, 4, 5, 6, 13, 14, 15, 7, 8, 9] (by decide +kernel) (by decide +kernel)
set_option maxRecDepth 20000 in
theorem gX6_wrongOrder_X6_phrase : GoodIn wsX6_wrongOrder (va_wsS RX6 98 yX6_phrase wsX6_phrase) := goodIn_app (goodIn_of _ (by decide +kernel)) ggX6_wrongOrder_X6_phrase
theorem dX6_wrongOrder_0 : decode cX6_wrongOrder 0 = .ok (.iconst 1, 1) := by decide +kernel
theorem dX6_wrongOrder_1 : decode cX6_wrongOrder 1 = .ok (.istore_n 1, 1) := by decide +kernel
theorem dX6_wrongOrder_2 : decode cX6_wrongOrder 2 = .ok (.iconst 0, 1) := by decide +kernel
theorem dX6_wrongOrder_3 : decode cX6_wrongOrder 3 = .ok (.istore_n 2, 1) := by decide +kernel
theorem dX6_wrongOrder_4 : decode cX6_wrongOrder 4 = .ok (.iconst 0, 1) := by decide +kernel
theorem dX6_wrongOrder_5 : decode cX6_wrongOrder 5 = .ok (.istore_n 3, 1) := by decide +kernel
theorem dX6_wrongOrder_6 : decode cX6_wrongOrder 6 = .ok (.iconst 1, 1) := by decide +kernel
theorem dX6_wrongOrder_7 : decode cX6_wrongOrder 7 = .ok (.istore 4, 2) := by decide +kernel
theorem dX6_wrongOrder_9 : decode cX6_wrongOrder 9 = .ok (.iload 4, 2) := by decide +kernel
theorem dX6_wrongOrder_11 : decode cX6_wrongOrder 11 = .ok (.aload_n 0, 1) := by decide +kernel
theorem dX6_wrongOrder_12 : decode cX6_wrongOrder 12 = .ok (.getfield 95, 3) := by decide +kernel
theorem dX6_wrongOrder_15 : decode cX6_wrongOrder 15 = .ok (.if_icmp .ge 234, 3) := by decide +kernel
theorem dX6_wrongOrder_18 : decode cX6_wrongOrder 18 = .ok (.aload_n 0, 1) := by decide +kernel
theorem dX6_wrongOrder_19 : decode cX6_wrongOrder 19 = .ok (.getfield 26, 3) := by decide +kernel
theorem dX6_wrongOrder_22 : decode cX6_wrongOrder 22 = .ok (.iload 4, 2) := by decide +kernel
theorem dX6_wrongOrder_24 : decode cX6_wrongOrder 24 = .ok (.iaload, 1) := by decide +kernel
theorem dX6_wrongOrder_25 : decode cX6_wrongOrder 25 = .ok (.istore 5, 2) := by decide +kernel
theorem dX6_wrongOrder_27 : decode cX6_wrongOrder 27 = .ok (.iload_n 3, 1) := by decide +kernel
theorem dX6_wrongOrder_28 : decode cX6_wrongOrder 28 = .ok (.ifCond .eq 8, 3) := by decide +kernel
theorem dX6_wrongOrder_31 : decode cX6_wrongOrder 31 = .ok (.bipush 12, 2) := by decide +kernel
theorem dX6_wrongOrder_33 : decode cX6_wrongOrder 33 = .ok (.goto 20, 3) := by decide +kernel
theorem dX6_wrongOrder_36 : decode cX6_wrongOrder 36 = .ok (.iload_n 1, 1) := by decide +kernel
theorem dX6_wrongOrder_37 : decode cX6_wrongOrder 37 = .ok (.bipush 8, 2) := by decide +kernel
theorem dX6_wrongOrder_39 : decode cX6_wrongOrder 39 = .ok (.if_icmp .ge 7, 3) := by decide +kernel
theorem dX6_wrongOrder_42 : decode cX6_wrongOrder 42 = .ok (.iload_n 2, 1) := by decide +kernel
theorem dX6_wrongOrder_43 : decode cX6_wrongOrder 43 = .ok (.ifCond .eq 8, 3) := by decide +kernel
theorem dX6_wrongOrder_46 : decode cX6_wrongOrder 46 = .ok (.bipush 11, 2) := by decide +kernel
theorem dX6_wrongOrder_48 : decode cX6_wrongOrder 48 = .ok (.goto 5, 3) := by decide +kernel
theorem dX6_wrongOrder_51 : decode cX6_wrongOrder 51 = .ok (.bipush 7, 2) := by decide +kernel
theorem dX6_wrongOrder_53 : decode cX6_wrongOrder 53 = .ok (.istore 6, 2) := by decide +kernel
theorem dX6_wrongOrder_55 : decode cX6_wrongOrder 55 = .ok (.iload_n 1, 1) := by decide +kernel
theorem dX6_wrongOrder_56 : decode cX6_wrongOrder 56 = .ok (.iconst 4, 1) := by decide +kernel
theorem dX6_wrongOrder_57 : decode cX6_wrongOrder 57 = .ok (.if_icmp .eq 21, 3) := by decide +kernel
theorem dX6_wrongOrder_60 : decode cX6_wrongOrder 60 = .ok (.iload_n 1, 1) := by decide +kernel
theorem dX6_wrongOrder_61 : decode cX6_wrongOrder 61 = .ok (.bipush 6, 2) := by decide +kernel
theorem dX6_wrongOrder_63 : decode cX6_wrongOrder 63 = .ok (.if_icmp .eq 15, 3) := by decide +kernel
theorem dX6_wrongOrder_66 : decode cX6_wrongOrder 66 = .ok (.iload_n 1, 1) := by decide +kernel
theorem dX6_wrongOrder_67 : decode cX6_wrongOrder 67 = .ok (.bipush 7, 2) := by decide +kernel
theorem dX6_wrongOrder_69 : decode cX6_wrongOrder 69 = .ok (.if_icmp .eq 9, 3) := by decide +kernel
theorem dX6_wrongOrder_72 : decode cX6_wrongOrder 72 = .ok (.iload_n 1, 1) := by decide +kernel
theorem dX6_wrongOrder_73 : decode cX6_wrongOrder 73 = .ok (.bipush 11, 2) := by decide +kernel
theorem dX6_wrongOrder_75 : decode cX6_wrongOrder 75 = .ok (.if_icmp .ne 7, 3) := by decide +kernel
theorem dX6_wrongOrder_78 : decode cX6_wrongOrder 78 = .ok (.iconst 1, 1) := by decide +kernel
theorem dX6_wrongOrder_79 : decode cX6_wrongOrder 79 = .ok (.goto 4, 3) := by decide +kernel
theorem dX6_wrongOrder_82 : decode cX6_wrongOrder 82 = .ok (.iconst 0, 1) := by decide +kernel
theorem dX6_wrongOrder_83 : decode cX6_wrongOrder 83 = .ok (.istore 7, 2) := by decide +kernel
theorem dX6_wrongOrder_85 : decode cX6_wrongOrder 85 = .ok (.iload 7, 2) := by decide +kernel
theorem dX6_wrongOrder_87 : decode cX6_wrongOrder 87 = .ok (.ifCond .eq 27, 3) := by decide +kernel
theorem dX6_wrongOrder_90 : decode cX6_wrongOrder 90 = .ok (.iload 5, 2) := by decide +kernel
theorem dX6_wrongOrder_92 : decode cX6_wrongOrder 92 = .ok (.bipush 13, 2) := by decide +kernel
theorem dX6_wrongOrder_94 : decode cX6_wrongOrder 94 = .ok (.if_icmp .ne 20, 3) := by decide +kernel
theorem dX6_wrongOrder_97 : decode cX6_wrongOrder 97 = .ok (.iload_n 1, 1) := by decide +kernel
theorem dX6_wrongOrder_98 : decode cX6_wrongOrder 98 = .ok (.bipush 11, 2) := by decide +kernel
theorem dX6_wrongOrder_100 : decode cX6_wrongOrder 100 = .ok (.if_icmp .ne 7, 3) := by decide +kernel
theorem dX6_wrongOrder_103 : decode cX6_wrongOrder 103 = .ok (.iconst 1, 1) := by decide +kernel
theorem dX6_wrongOrder_104 : decode cX6_wrongOrder 104 = .ok (.goto 4, 3) := by decide +kernel
theorem dX6_wrongOrder_107 : decode cX6_wrongOrder 107 = .ok (.iconst 0, 1) := by decide +kernel
theorem dX6_wrongOrder_108 : decode cX6_wrongOrder 108 = .ok (.istore_n 2, 1) := by decide +kernel
theorem dX6_wrongOrder_109 : decode cX6_wrongOrder 109 = .ok (.iconst 1, 1) := by decide +kernel
theorem dX6_wrongOrder_110 : decode cX6_wrongOrder 110 = .ok (.istore_n 1, 1) := by decide +kernel
theorem dX6_wrongOrder_111 : decode cX6_wrongOrder 111 = .ok (.goto 123, 3) := by decide +kernel
theorem dX6_wrongOrder_114 : decode cX6_wrongOrder 114 = .ok (.iload 7, 2) := by decide +kernel
theorem dX6_wrongOrder_116 : decode cX6_wrongOrder 116 = .ok (.ifCond .eq 28, 3) := by decide +kernel
theorem dX6_wrongOrder_119 : decode cX6_wrongOrder 119 = .ok (.iload 5, 2) := by decide +kernel
theorem dX6_wrongOrder_121 : decode cX6_wrongOrder 121 = .ok (.bipush 16, 2) := by decide +kernel
theorem dX6_wrongOrder_123 : decode cX6_wrongOrder 123 = .ok (.if_icmp .ne 21, 3) := by decide +kernel
theorem dX6_wrongOrder_126 : decode cX6_wrongOrder 126 = .ok (.aload_n 0, 1) := by decide +kernel
theorem dX6_wrongOrder_127 : decode cX6_wrongOrder 127 = .ok (.getfield 26, 3) := by decide +kernel
theorem dX6_wrongOrder_130 : decode cX6_wrongOrder 130 = .ok (.iconst 0, 1) := by decide +kernel
theorem dX6_wrongOrder_131 : decode cX6_wrongOrder 131 = .ok (.iaload, 1) := by decide +kernel
theorem dX6_wrongOrder_132 : decode cX6_wrongOrder 132 = .ok (.iconst 2, 1) := by decide +kernel
theorem dX6_wrongOrder_133 : decode cX6_wrongOrder 133 = .ok (.if_icmp .ne 11, 3) := by decide +kernel
theorem dX6_wrongOrder_136 : decode cX6_wrongOrder 136 = .ok (.iconst 1, 1) := by decide +kernel
theorem dX6_wrongOrder_137 : decode cX6_wrongOrder 137 = .ok (.istore_n 3, 1) := by decide +kernel
theorem dX6_wrongOrder_138 : decode cX6_wrongOrder 138 = .ok (.bipush 8, 2) := by decide +kernel
theorem dX6_wrongOrder_140 : decode cX6_wrongOrder 140 = .ok (.istore_n 1, 1) := by decide +kernel
theorem dX6_wrongOrder_141 : decode cX6_wrongOrder 141 = .ok (.goto 93, 3) := by decide +kernel
theorem dX6_wrongOrder_144 : decode cX6_wrongOrder 144 = .ok (.iload_n 1, 1) := by decide +kernel
theorem dX6_wrongOrder_145 : decode cX6_wrongOrder 145 = .ok (.iconst 4, 1) := by decide +kernel
theorem dX6_wrongOrder_146 : decode cX6_wrongOrder 146 = .ok (.if_icmp .eq 9, 3) := by decide +kernel
theorem dX6_wrongOrder_149 : decode cX6_wrongOrder 149 = .ok (.iload_n 1, 1) := by decide +kernel
theorem dX6_wrongOrder_150 : decode cX6_wrongOrder 150 = .ok (.bipush 6, 2) := by decide +kernel
theorem dX6_wrongOrder_152 : decode cX6_wrongOrder 152 = .ok (.if_icmp .ne 16, 3) := by decide +kernel
theorem dX6_wrongOrder_155 : decode cX6_wrongOrder 155 = .ok (.iload 5, 2) := by decide +kernel
theorem dX6_wrongOrder_157 : decode cX6_wrongOrder 157 = .ok (.bipush 12, 2) := by decide +kernel
theorem dX6_wrongOrder_159 : decode cX6_wrongOrder 159 = .ok (.if_icmp .ne 9, 3) := by decide +kernel
theorem dX6_wrongOrder_162 : decode cX6_wrongOrder 162 = .ok (.bipush 8, 2) := by decide +kernel
theorem dX6_wrongOrder_164 : decode cX6_wrongOrder 164 = .ok (.istore_n 1, 1) := by decide +kernel
theorem dX6_wrongOrder_165 : decode cX6_wrongOrder 165 = .ok (.goto 69, 3) := by decide +kernel
theorem dX6_wrongOrder_168 : decode cX6_wrongOrder 168 = .ok (.iload_n 1, 1) := by decide +kernel
theorem dX6_wrongOrder_169 : decode cX6_wrongOrder 169 = .ok (.iconst 4, 1) := by decide +kernel
theorem dX6_wrongOrder_170 : decode cX6_wrongOrder 170 = .ok (.if_icmp .eq 8, 3) := by decide +kernel
theorem dX6_wrongOrder_173 : decode cX6_wrongOrder 173 = .ok (.iload_n 1, 1) := by decide +kernel
theorem dX6_wrongOrder_174 : decode cX6_wrongOrder 174 = .ok (.iconst 5, 1) := by decide +kernel
theorem dX6_wrongOrder_175 : decode cX6_wrongOrder 175 = .ok (.if_icmp .ne 34, 3) := by decide +kernel
theorem dX6_wrongOrder_178 : decode cX6_wrongOrder 178 = .ok (.iload 5, 2) := by decide +kernel
theorem dX6_wrongOrder_180 : decode cX6_wrongOrder 180 = .ok (.invokestatic 86, 3) := by decide +kernel
theorem dX6_wrongOrder_183 : decode cX6_wrongOrder 183 = .ok (.ifCond .eq 7, 3) := by decide +kernel
theorem dX6_wrongOrder_186 : decode cX6_wrongOrder 186 = .ok (.iconst 5, 1) := by decide +kernel
theorem dX6_wrongOrder_187 : decode cX6_wrongOrder 187 = .ok (.goto 18, 3) := by decide +kernel
theorem dX6_wrongOrder_190 : decode cX6_wrongOrder 190 = .ok (.iload 5, 2) := by decide +kernel
theorem dX6_wrongOrder_192 : decode cX6_wrongOrder 192 = .ok (.invokestatic 92, 3) := by decide +kernel
theorem dX6_wrongOrder_195 : decode cX6_wrongOrder 195 = .ok (.ifCond .eq 8, 3) := by decide +kernel
theorem dX6_wrongOrder_198 : decode cX6_wrongOrder 198 = .ok (.bipush 6, 2) := by decide +kernel
theorem dX6_wrongOrder_200 : decode cX6_wrongOrder 200 = .ok (.goto 5, 3) := by decide +kernel
theorem dX6_wrongOrder_203 : decode cX6_wrongOrder 203 = .ok (.bipush 13, 2) := by decide +kernel
theorem dX6_wrongOrder_205 : decode cX6_wrongOrder 205 = .ok (.istore_n 1, 1) := by decide +kernel
theorem dX6_wrongOrder_206 : decode cX6_wrongOrder 206 = .ok (.goto 28, 3) := by decide +kernel
theorem dX6_wrongOrder_209 : decode cX6_wrongOrder 209 = .ok (.iload 7, 2) := by decide +kernel
theorem dX6_wrongOrder_211 : decode cX6_wrongOrder 211 = .ok (.ifCond .ne 9, 3) := by decide +kernel
theorem dX6_wrongOrder_214 : decode cX6_wrongOrder 214 = .ok (.iload_n 1, 1) := by decide +kernel
theorem dX6_wrongOrder_215 : decode cX6_wrongOrder 215 = .ok (.bipush 12, 2) := by decide +kernel
theorem dX6_wrongOrder_217 : decode cX6_wrongOrder 217 = .ok (.if_icmp .ne 8, 3) := by decide +kernel
theorem dX6_wrongOrder_220 : decode cX6_wrongOrder 220 = .ok (.bipush 13, 2) := by decide +kernel
theorem dX6_wrongOrder_222 : decode cX6_wrongOrder 222 = .ok (.goto 11, 3) := by decide +kernel
theorem dX6_wrongOrder_225 : decode cX6_wrongOrder 225 = .ok (.iload_n 1, 1) := by decide +kernel
theorem dX6_wrongOrder_226 : decode cX6_wrongOrder 226 = .ok (.iload 5, 2) := by decide +kernel
theorem dX6_wrongOrder_228 : decode cX6_wrongOrder 228 = .ok (.iload 6, 2) := by decide +kernel
theorem dX6_wrongOrder_230 : decode cX6_wrongOrder 230 = .ok (.invokestatic 98, 3) := by decide +kernel
theorem dX6_wrongOrder_233 : decode cX6_wrongOrder 233 = .ok (.istore_n 1, 1) := by decide +kernel
theorem dX6_wrongOrder_234 : decode cX6_wrongOrder 234 = .ok (.iload_n 1, 1) := by decide +kernel
theorem dX6_wrongOrder_235 : decode cX6_wrongOrder 235 = .ok (.bipush 13, 2) := by decide +kernel
theorem dX6_wrongOrder_237 : decode cX6_wrongOrder 237 = .ok (.if_icmp .ne 6, 3) := by decide +kernel
theorem dX6_wrongOrder_240 : decode cX6_wrongOrder 240 = .ok (.iload 4, 2) := by decide +kernel
theorem dX6_wrongOrder_242 : decode cX6_wrongOrder 242 = .ok (.ireturn, 1) := by decide +kernel
theorem dX6_wrongOrder_243 : decode cX6_wrongOrder 243 = .ok (.iinc 4 1, 3) := by decide +kernel
theorem dX6_wrongOrder_246 : decode cX6_wrongOrder 246 = .ok (.goto (-237), 3) := by decide +kernel
theorem dX6_wrongOrder_249 : decode cX6_wrongOrder 249 = .ok (.iload_n 1, 1) := by decide +kernel
theorem dX6_wrongOrder_250 : decode cX6_wrongOrder 250 = .ok (.iconst 4, 1) := by decide +kernel
theorem dX6_wrongOrder_251 : decode cX6_wrongOrder 251 = .ok (.if_icmp .eq 21, 3) := by decide +kernel
theorem dX6_wrongOrder_254 : decode cX6_wrongOrder 254 = .ok (.iload_n 1, 1) := by decide +kernel
theorem dX6_wrongOrder_255 : decode cX6_wrongOrder 255 = .ok (.bipush 6, 2) := by decide +kernel
theorem dX6_wrongOrder_257 : decode cX6_wrongOrder 257 = .ok (.if_icmp .eq 15, 3) := by decide +kernel
theorem dX6_wrongOrder_260 : decode cX6_wrongOrder 260 = .ok (.iload_n 1, 1) := by decide +kernel
theorem dX6_wrongOrder_261 : decode cX6_wrongOrder 261 = .ok (.bipush 7, 2) := by decide +kernel
theorem dX6_wrongOrder_263 : decode cX6_wrongOrder 263 = .ok (.if_icmp .eq 9, 3) := by decide +kernel
theorem dX6_wrongOrder_266 : decode cX6_wrongOrder 266 = .ok (.iload_n 1, 1) := by decide +kernel
theorem dX6_wrongOrder_267 : decode cX6_wrongOrder 267 = .ok (.bipush 11, 2) := by decide +kernel
theorem dX6_wrongOrder_269 : decode cX6_wrongOrder 269 = .ok (.if_icmp .ne 7, 3) := by decide +kernel
theorem dX6_wrongOrder_272 : decode cX6_wrongOrder 272 = .ok (.iconst 1, 1) := by decide +kernel
theorem dX6_wrongOrder_273 : decode cX6_wrongOrder 273 = .ok (.goto 4, 3) := by decide +kernel
theorem dX6_wrongOrder_276 : decode cX6_wrongOrder 276 = .ok (.iconst 0, 1) := by decide +kernel
theorem dX6_wrongOrder_277 : decode cX6_wrongOrder 277 = .ok (.istore 4, 2) := by decide +kernel
theorem dX6_wrongOrder_279 : decode cX6_wrongOrder 279 = .ok (.aload_n 0, 1) := by decide +kernel
theorem dX6_wrongOrder_280 : decode cX6_wrongOrder 280 = .ok (.getfield 26, 3) := by decide +kernel
theorem dX6_wrongOrder_283 : decode cX6_wrongOrder 283 = .ok (.iconst 0, 1) := by decide +kernel
theorem dX6_wrongOrder_284 : decode cX6_wrongOrder 284 = .ok (.iaload, 1) := by decide +kernel
theorem dX6_wrongOrder_285 : decode cX6_wrongOrder 285 = .ok (.iconst 2, 1) := by decide +kernel
theorem dX6_wrongOrder_286 : decode cX6_wrongOrder 286 = .ok (.if_icmp .ne 20, 3) := by decide +kernel
theorem dX6_wrongOrder_289 : decode cX6_wrongOrder 289 = .ok (.iload_n 1, 1) := by decide +kernel
theorem dX6_wrongOrder_290 : decode cX6_wrongOrder 290 = .ok (.bipush 12, 2) := by decide +kernel
theorem dX6_wrongOrder_292 : decode cX6_wrongOrder 292 = .ok (.if_icmp .ne 7, 3) := by decide +kernel
theorem dX6_wrongOrder_295 : decode cX6_wrongOrder 295 = .ok (.iconst (-1), 1) := by decide +kernel
theorem dX6_wrongOrder_296 : decode cX6_wrongOrder 296 = .ok (.goto 23, 3) := by decide +kernel
theorem dX6_wrongOrder_299 : decode cX6_wrongOrder 299 = .ok (.aload_n 0, 1) := by decide +kernel
theorem dX6_wrongOrder_300 : decode cX6_wrongOrder 300 = .ok (.getfield 95, 3) := by decide +kernel
theorem dX6_wrongOrder_303 : decode cX6_wrongOrder 303 = .ok (.goto 16, 3) := by decide +kernel
theorem dX6_wrongOrder_306 : decode cX6_wrongOrder 306 = .ok (.iload 4, 2) := by decide +kernel
theorem dX6_wrongOrder_308 : decode cX6_wrongOrder 308 = .ok (.ifCond .eq 7, 3) := by decide +kernel
theorem dX6_wrongOrder_311 : decode cX6_wrongOrder 311 = .ok (.iconst (-1), 1) := by decide +kernel
theorem dX6_wrongOrder_312 : decode cX6_wrongOrder 312 = .ok (.goto 7, 3) := by decide +kernel
theorem dX6_wrongOrder_315 : decode cX6_wrongOrder 315 = .ok (.aload_n 0, 1) := by decide +kernel
theorem dX6_wrongOrder_316 : decode cX6_wrongOrder 316 = .ok (.getfield 95, 3) := by decide +kernel
theorem dX6_wrongOrder_319 : decode cX6_wrongOrder 319 = .ok (.ireturn, 1) := by decide +kernel
set_option maxRecDepth 20000 in
theorem ggX6_wrongAnswer_X6_isAdjective : GoodIn wsX6_wrongAnswer wsX6_isAdjective := goodIn_r _ [6] (by decide +kernel) (by decide +kernel)
set_option maxRecDepth 20000 in
theorem gX6_wrongAnswer_X6_isAdjective : GoodIn wsX6_wrongAnswer (va_wsS RX6 86 yX6_isAdjective wsX6_isAdjective) := goodIn_app (goodIn_of _ (by decide +kernel)) ggX6_wrongAnswer_X6_isAdjective
set_option maxRecDepth 20000 in
theorem ggX6_wrongAnswer_X6_isNoun : GoodIn wsX6_wrongAnswer wsX6_isNoun := goodIn_r _ [9] (by decide +kernel) (by decide +kernel)
set_option maxRecDepth 20000 in
theorem gX6_wrongAnswer_X6_isNoun : GoodIn wsX6_wrongAnswer (va_wsS RX6 89 yX6_isNoun wsX6_isNoun) := goodIn_app (goodIn_of _ (by decide +kernel)) ggX6_wrongAnswer_X6_isNoun
theorem dX6_wrongAnswer_0 : decode cX6_wrongAnswer 0 = .ok (.iconst 0, 1) := by decide +kernel
theorem dX6_wrongAnswer_1 : decode cX6_wrongAnswer 1 = .ok (.istore_n 1, 1) := by decide +kernel
theorem dX6_wrongAnswer_2 : decode cX6_wrongAnswer 2 = .ok (.iconst 0, 1) := by decide +kernel
theorem dX6_wrongAnswer_3 : decode cX6_wrongAnswer 3 = .ok (.istore_n 2, 1) := by decide +kernel
theorem dX6_wrongAnswer_4 : decode cX6_wrongAnswer 4 = .ok (.iconst 0, 1) := by decide +kernel
theorem dX6_wrongAnswer_5 : decode cX6_wrongAnswer 5 = .ok (.istore_n 3, 1) := by decide +kernel
theorem dX6_wrongAnswer_6 : decode cX6_wrongAnswer 6 = .ok (.iload_n 3, 1) := by decide +kernel
theorem dX6_wrongAnswer_7 : decode cX6_wrongAnswer 7 = .ok (.aload_n 0, 1) := by decide +kernel
theorem dX6_wrongAnswer_8 : decode cX6_wrongAnswer 8 = .ok (.getfield 95, 3) := by decide +kernel
theorem dX6_wrongAnswer_11 : decode cX6_wrongAnswer 11 = .ok (.if_icmp .ge 107, 3) := by decide +kernel
theorem dX6_wrongAnswer_14 : decode cX6_wrongAnswer 14 = .ok (.aload_n 0, 1) := by decide +kernel
theorem dX6_wrongAnswer_15 : decode cX6_wrongAnswer 15 = .ok (.getfield 26, 3) := by decide +kernel
theorem dX6_wrongAnswer_18 : decode cX6_wrongAnswer 18 = .ok (.iload_n 3, 1) := by decide +kernel
theorem dX6_wrongAnswer_19 : decode cX6_wrongAnswer 19 = .ok (.iaload, 1) := by decide +kernel
theorem dX6_wrongAnswer_20 : decode cX6_wrongAnswer 20 = .ok (.istore 4, 2) := by decide +kernel
theorem dX6_wrongAnswer_22 : decode cX6_wrongAnswer 22 = .ok (.iload_n 2, 1) := by decide +kernel
theorem dX6_wrongAnswer_23 : decode cX6_wrongAnswer 23 = .ok (.ifCond .ne 41, 3) := by decide +kernel
theorem dX6_wrongAnswer_26 : decode cX6_wrongAnswer 26 = .ok (.iload_n 3, 1) := by decide +kernel
theorem dX6_wrongAnswer_27 : decode cX6_wrongAnswer 27 = .ok (.ifCond .ne 10, 3) := by decide +kernel
theorem dX6_wrongAnswer_30 : decode cX6_wrongAnswer 30 = .ok (.iload 4, 2) := by decide +kernel
theorem dX6_wrongAnswer_32 : decode cX6_wrongAnswer 32 = .ok (.bipush 10, 2) := by decide +kernel
theorem dX6_wrongAnswer_34 : decode cX6_wrongAnswer 34 = .ok (.if_icmp .eq 26, 3) := by decide +kernel
theorem dX6_wrongAnswer_37 : decode cX6_wrongAnswer 37 = .ok (.iload 4, 2) := by decide +kernel
theorem dX6_wrongAnswer_39 : decode cX6_wrongAnswer 39 = .ok (.invokestatic 86, 3) := by decide +kernel
theorem dX6_wrongAnswer_42 : decode cX6_wrongAnswer 42 = .ok (.ifCond .ne 18, 3) := by decide +kernel
theorem dX6_wrongAnswer_45 : decode cX6_wrongAnswer 45 = .ok (.iload 4, 2) := by decide +kernel
theorem dX6_wrongAnswer_47 : decode cX6_wrongAnswer 47 = .ok (.invokestatic 89, 3) := by decide +kernel
theorem dX6_wrongAnswer_50 : decode cX6_wrongAnswer 50 = .ok (.ifCond .ne 10, 3) := by decide +kernel
theorem dX6_wrongAnswer_53 : decode cX6_wrongAnswer 53 = .ok (.iload 4, 2) := by decide +kernel
theorem dX6_wrongAnswer_55 : decode cX6_wrongAnswer 55 = .ok (.bipush 17, 2) := by decide +kernel
theorem dX6_wrongAnswer_57 : decode cX6_wrongAnswer 57 = .ok (.if_icmp .ne 7, 3) := by decide +kernel
theorem dX6_wrongAnswer_60 : decode cX6_wrongAnswer 60 = .ok (.iconst 1, 1) := by decide +kernel
theorem dX6_wrongAnswer_61 : decode cX6_wrongAnswer 61 = .ok (.goto 4, 3) := by decide +kernel
theorem dX6_wrongAnswer_64 : decode cX6_wrongAnswer 64 = .ok (.iconst 0, 1) := by decide +kernel
theorem dX6_wrongAnswer_65 : decode cX6_wrongAnswer 65 = .ok (.istore 5, 2) := by decide +kernel
theorem dX6_wrongAnswer_67 : decode cX6_wrongAnswer 67 = .ok (.iload 5, 2) := by decide +kernel
theorem dX6_wrongAnswer_69 : decode cX6_wrongAnswer 69 = .ok (.ifCond .ne 5, 3) := by decide +kernel
theorem dX6_wrongAnswer_72 : decode cX6_wrongAnswer 72 = .ok (.iload_n 3, 1) := by decide +kernel
theorem dX6_wrongAnswer_73 : decode cX6_wrongAnswer 73 = .ok (.ireturn, 1) := by decide +kernel
theorem dX6_wrongAnswer_74 : decode cX6_wrongAnswer 74 = .ok (.iload_n 1, 1) := by decide +kernel
theorem dX6_wrongAnswer_75 : decode cX6_wrongAnswer 75 = .ok (.ifCond .ne 10, 3) := by decide +kernel
theorem dX6_wrongAnswer_78 : decode cX6_wrongAnswer 78 = .ok (.iload 4, 2) := by decide +kernel
theorem dX6_wrongAnswer_80 : decode cX6_wrongAnswer 80 = .ok (.bipush 10, 2) := by decide +kernel
theorem dX6_wrongAnswer_82 : decode cX6_wrongAnswer 82 = .ok (.if_icmp .eq 7, 3) := by decide +kernel
theorem dX6_wrongAnswer_85 : decode cX6_wrongAnswer 85 = .ok (.iconst 1, 1) := by decide +kernel
theorem dX6_wrongAnswer_86 : decode cX6_wrongAnswer 86 = .ok (.goto 4, 3) := by decide +kernel
theorem dX6_wrongAnswer_89 : decode cX6_wrongAnswer 89 = .ok (.iconst 0, 1) := by decide +kernel
theorem dX6_wrongAnswer_90 : decode cX6_wrongAnswer 90 = .ok (.istore_n 1, 1) := by decide +kernel
theorem dX6_wrongAnswer_91 : decode cX6_wrongAnswer 91 = .ok (.iload 4, 2) := by decide +kernel
theorem dX6_wrongAnswer_93 : decode cX6_wrongAnswer 93 = .ok (.invokestatic 89, 3) := by decide +kernel
theorem dX6_wrongAnswer_96 : decode cX6_wrongAnswer 96 = .ok (.ifCond .ne 10, 3) := by decide +kernel
theorem dX6_wrongAnswer_99 : decode cX6_wrongAnswer 99 = .ok (.iload 4, 2) := by decide +kernel
theorem dX6_wrongAnswer_101 : decode cX6_wrongAnswer 101 = .ok (.bipush 17, 2) := by decide +kernel
theorem dX6_wrongAnswer_103 : decode cX6_wrongAnswer 103 = .ok (.if_icmp .ne 7, 3) := by decide +kernel
theorem dX6_wrongAnswer_106 : decode cX6_wrongAnswer 106 = .ok (.iconst 1, 1) := by decide +kernel
theorem dX6_wrongAnswer_107 : decode cX6_wrongAnswer 107 = .ok (.goto 4, 3) := by decide +kernel
theorem dX6_wrongAnswer_110 : decode cX6_wrongAnswer 110 = .ok (.iconst 0, 1) := by decide +kernel
theorem dX6_wrongAnswer_111 : decode cX6_wrongAnswer 111 = .ok (.istore_n 2, 1) := by decide +kernel
theorem dX6_wrongAnswer_112 : decode cX6_wrongAnswer 112 = .ok (.iinc 3 1, 3) := by decide +kernel
theorem dX6_wrongAnswer_115 : decode cX6_wrongAnswer 115 = .ok (.goto (-109), 3) := by decide +kernel
theorem dX6_wrongAnswer_118 : decode cX6_wrongAnswer 118 = .ok (.iload_n 1, 1) := by decide +kernel
theorem dX6_wrongAnswer_119 : decode cX6_wrongAnswer 119 = .ok (.ifCond .eq 7, 3) := by decide +kernel
theorem dX6_wrongAnswer_122 : decode cX6_wrongAnswer 122 = .ok (.iconst (-1), 1) := by decide +kernel
theorem dX6_wrongAnswer_123 : decode cX6_wrongAnswer 123 = .ok (.goto 7, 3) := by decide +kernel
theorem dX6_wrongAnswer_126 : decode cX6_wrongAnswer 126 = .ok (.aload_n 0, 1) := by decide +kernel
theorem dX6_wrongAnswer_127 : decode cX6_wrongAnswer 127 = .ok (.getfield 95, 3) := by decide +kernel
theorem dX6_wrongAnswer_130 : decode cX6_wrongAnswer 130 = .ok (.ireturn, 1) := by decide +kernel
theorem dX6_is_0 : decode cX6_is 0 = .ok (.aload_n 0, 1) := by decide +kernel
theorem dX6_is_1 : decode cX6_is 1 = .ok (.getfield 102, 3) := by decide +kernel
theorem dX6_is_4 : decode cX6_is 4 = .ok (.aload_n 0, 1) := by decide +kernel
theorem dX6_is_5 : decode cX6_is 5 = .ok (.getfield 105, 3) := by decide +kernel
theorem dX6_is_8 : decode cX6_is 8 = .ok (.if_icmp .ge 20, 3) := by decide +kernel
theorem dX6_is_11 : decode cX6_is 11 = .ok (.aload_n 0, 1) := by decide +kernel
theorem dX6_is_12 : decode cX6_is 12 = .ok (.getfield 45, 3) := by decide +kernel
theorem dX6_is_15 : decode cX6_is 15 = .ok (.aload_n 0, 1) := by decide +kernel
theorem dX6_is_16 : decode cX6_is 16 = .ok (.getfield 102, 3) := by decide +kernel
theorem dX6_is_19 : decode cX6_is 19 = .ok (.iaload, 1) := by decide +kernel
theorem dX6_is_20 : decode cX6_is 20 = .ok (.iload_n 1, 1) := by decide +kernel
theorem dX6_is_21 : decode cX6_is 21 = .ok (.if_icmp .ne 7, 3) := by decide +kernel
theorem dX6_is_24 : decode cX6_is 24 = .ok (.iconst 1, 1) := by decide +kernel
theorem dX6_is_25 : decode cX6_is 25 = .ok (.goto 4, 3) := by decide +kernel
theorem dX6_is_28 : decode cX6_is 28 = .ok (.iconst 0, 1) := by decide +kernel
theorem dX6_is_29 : decode cX6_is 29 = .ok (.ireturn, 1) := by decide +kernel
set_option maxRecDepth 20000 in
theorem ggX6_endOf_X6_isAdjective : GoodIn wsX6_endOf wsX6_isAdjective := goodIn_r _ [5] (by decide +kernel) (by decide +kernel)
set_option maxRecDepth 20000 in
theorem gX6_endOf_X6_isAdjective : GoodIn wsX6_endOf (va_wsS RX6 86 yX6_isAdjective wsX6_isAdjective) := goodIn_app (goodIn_of _ (by decide +kernel)) ggX6_endOf_X6_isAdjective
theorem dX6_endOf_0 : decode cX6_endOf 0 = .ok (.iload_n 1, 1) := by decide +kernel
theorem dX6_endOf_1 : decode cX6_endOf 1 = .ok (.istore_n 2, 1) := by decide +kernel
theorem dX6_endOf_2 : decode cX6_endOf 2 = .ok (.aload_n 0, 1) := by decide +kernel
theorem dX6_endOf_3 : decode cX6_endOf 3 = .ok (.getfield 45, 3) := by decide +kernel
theorem dX6_endOf_6 : decode cX6_endOf 6 = .ok (.iload_n 2, 1) := by decide +kernel
theorem dX6_endOf_7 : decode cX6_endOf 7 = .ok (.iaload, 1) := by decide +kernel
theorem dX6_endOf_8 : decode cX6_endOf 8 = .ok (.bipush 10, 2) := by decide +kernel
theorem dX6_endOf_10 : decode cX6_endOf 10 = .ok (.if_icmp .eq 15, 3) := by decide +kernel
theorem dX6_endOf_13 : decode cX6_endOf 13 = .ok (.aload_n 0, 1) := by decide +kernel
theorem dX6_endOf_14 : decode cX6_endOf 14 = .ok (.getfield 45, 3) := by decide +kernel
theorem dX6_endOf_17 : decode cX6_endOf 17 = .ok (.iload_n 2, 1) := by decide +kernel
theorem dX6_endOf_18 : decode cX6_endOf 18 = .ok (.iaload, 1) := by decide +kernel
theorem dX6_endOf_19 : decode cX6_endOf 19 = .ok (.invokestatic 86, 3) := by decide +kernel
theorem dX6_endOf_22 : decode cX6_endOf 22 = .ok (.ifCond .eq 9, 3) := by decide +kernel
theorem dX6_endOf_25 : decode cX6_endOf 25 = .ok (.iinc 2 1, 3) := by decide +kernel
theorem dX6_endOf_28 : decode cX6_endOf 28 = .ok (.goto (-26), 3) := by decide +kernel
theorem dX6_endOf_31 : decode cX6_endOf 31 = .ok (.iload_n 2, 1) := by decide +kernel
theorem dX6_endOf_32 : decode cX6_endOf 32 = .ok (.ireturn, 1) := by decide +kernel
set_option maxRecDepth 20000 in
theorem ggX6_adjectivesUpTo_X6_isAdjective : GoodIn wsX6_adjectivesUpTo wsX6_isAdjective := goodIn_r _ [5] (by decide +kernel) (by decide +kernel)
set_option maxRecDepth 20000 in
theorem gX6_adjectivesUpTo_X6_isAdjective : GoodIn wsX6_adjectivesUpTo (va_wsS RX6 86 yX6_isAdjective wsX6_isAdjective) := goodIn_app (goodIn_of _ (by decide +kernel)) ggX6_adjectivesUpTo_X6_isAdjective
theorem dX6_adjectivesUpTo_0 : decode cX6_adjectivesUpTo 0 = .ok (.iconst 0, 1) := by decide +kernel
theorem dX6_adjectivesUpTo_1 : decode cX6_adjectivesUpTo 1 = .ok (.istore_n 3, 1) := by decide +kernel
theorem dX6_adjectivesUpTo_2 : decode cX6_adjectivesUpTo 2 = .ok (.iload_n 1, 1) := by decide +kernel
theorem dX6_adjectivesUpTo_3 : decode cX6_adjectivesUpTo 3 = .ok (.istore 4, 2) := by decide +kernel
theorem dX6_adjectivesUpTo_5 : decode cX6_adjectivesUpTo 5 = .ok (.iload 4, 2) := by decide +kernel
theorem dX6_adjectivesUpTo_7 : decode cX6_adjectivesUpTo 7 = .ok (.iload_n 2, 1) := by decide +kernel
theorem dX6_adjectivesUpTo_8 : decode cX6_adjectivesUpTo 8 = .ok (.if_icmp .ge 41, 3) := by decide +kernel
theorem dX6_adjectivesUpTo_11 : decode cX6_adjectivesUpTo 11 = .ok (.iload_n 3, 1) := by decide +kernel
theorem dX6_adjectivesUpTo_12 : decode cX6_adjectivesUpTo 12 = .ok (.aload_n 0, 1) := by decide +kernel
theorem dX6_adjectivesUpTo_13 : decode cX6_adjectivesUpTo 13 = .ok (.getfield 45, 3) := by decide +kernel
theorem dX6_adjectivesUpTo_16 : decode cX6_adjectivesUpTo 16 = .ok (.iload 4, 2) := by decide +kernel
theorem dX6_adjectivesUpTo_18 : decode cX6_adjectivesUpTo 18 = .ok (.iaload, 1) := by decide +kernel
theorem dX6_adjectivesUpTo_19 : decode cX6_adjectivesUpTo 19 = .ok (.invokestatic 86, 3) := by decide +kernel
theorem dX6_adjectivesUpTo_22 : decode cX6_adjectivesUpTo 22 = .ok (.ifCond .eq 18, 3) := by decide +kernel
theorem dX6_adjectivesUpTo_25 : decode cX6_adjectivesUpTo 25 = .ok (.iconst 1, 1) := by decide +kernel
theorem dX6_adjectivesUpTo_26 : decode cX6_adjectivesUpTo 26 = .ok (.aload_n 0, 1) := by decide +kernel
theorem dX6_adjectivesUpTo_27 : decode cX6_adjectivesUpTo 27 = .ok (.getfield 45, 3) := by decide +kernel
theorem dX6_adjectivesUpTo_30 : decode cX6_adjectivesUpTo 30 = .ok (.iload 4, 2) := by decide +kernel
theorem dX6_adjectivesUpTo_32 : decode cX6_adjectivesUpTo 32 = .ok (.iaload, 1) := by decide +kernel
theorem dX6_adjectivesUpTo_33 : decode cX6_adjectivesUpTo 33 = .ok (.bipush 20, 2) := by decide +kernel
theorem dX6_adjectivesUpTo_35 : decode cX6_adjectivesUpTo 35 = .ok (.isub, 1) := by decide +kernel
theorem dX6_adjectivesUpTo_36 : decode cX6_adjectivesUpTo 36 = .ok (.ishl, 1) := by decide +kernel
theorem dX6_adjectivesUpTo_37 : decode cX6_adjectivesUpTo 37 = .ok (.goto 4, 3) := by decide +kernel
theorem dX6_adjectivesUpTo_40 : decode cX6_adjectivesUpTo 40 = .ok (.iconst 0, 1) := by decide +kernel
theorem dX6_adjectivesUpTo_41 : decode cX6_adjectivesUpTo 41 = .ok (.ior, 1) := by decide +kernel
theorem dX6_adjectivesUpTo_42 : decode cX6_adjectivesUpTo 42 = .ok (.istore_n 3, 1) := by decide +kernel
theorem dX6_adjectivesUpTo_43 : decode cX6_adjectivesUpTo 43 = .ok (.iinc 4 1, 3) := by decide +kernel
theorem dX6_adjectivesUpTo_46 : decode cX6_adjectivesUpTo 46 = .ok (.goto (-41), 3) := by decide +kernel
theorem dX6_adjectivesUpTo_49 : decode cX6_adjectivesUpTo 49 = .ok (.iload_n 3, 1) := by decide +kernel
theorem dX6_adjectivesUpTo_50 : decode cX6_adjectivesUpTo 50 = .ok (.ireturn, 1) := by decide +kernel
theorem dX6_fail_0 : decode cX6_fail 0 = .ok (.aload_n 0, 1) := by decide +kernel
theorem dX6_fail_1 : decode cX6_fail 1 = .ok (.iload_n 1, 1) := by decide +kernel
theorem dX6_fail_2 : decode cX6_fail 2 = .ok (.putfield 108, 3) := by decide +kernel
theorem dX6_fail_5 : decode cX6_fail 5 = .ok (.aload_n 0, 1) := by decide +kernel
theorem dX6_fail_6 : decode cX6_fail 6 = .ok (.iload_n 2, 1) := by decide +kernel
theorem dX6_fail_7 : decode cX6_fail 7 = .ok (.putfield 111, 3) := by decide +kernel
theorem dX6_fail_10 : decode cX6_fail 10 = .ok (.iconst (-1), 1) := by decide +kernel
theorem dX6_fail_11 : decode cX6_fail 11 = .ok (.ireturn, 1) := by decide +kernel
set_option maxRecDepth 20000 in
theorem ggX6_single_X6_endOf : GoodIn wsX6_single wsX6_endOf := goodIn_r _ [9, 3, 10, 11, 8, 12, 55, 56, 57, 58, 59, 60, 61, 62, 63, 64, 65, 66, 67, 68, 69, 70, 71, 72, 73, 74, 75, 76, 77, 78, 79] (by decide +kernel) (by decide +kernel)
set_option maxRecDepth 20000 in
theorem gX6_single_X6_endOf : GoodIn wsX6_single (wsV RX6 114 RX6 yX6_endOf wsX6_endOf) := goodIn_app (goodIn_of _ (by decide +kernel)) ggX6_single_X6_endOf
set_option maxRecDepth 20000 in
theorem ggX6_single_X6_reaches : GoodIn wsX6_single wsX6_reaches := goodIn_r _ [16, 17, 18, 55, 56, 57, 58, 59, 60, 61, 62, 63, 64, 65, 66, 67, 68, 69, 70, 71, 72, 73, 74, 75, 76, 77, 78, 79] (by decide +kernel) (by decide +kernel)
set_option maxRecDepth 20000 in
theorem gX6_single_X6_reaches : GoodIn wsX6_single (wsV RX6 72 RX6 yX6_reaches wsX6_reaches) := goodIn_app (goodIn_of _ (by decide +kernel)) ggX6_single_X6_reaches
set_option maxRecDepth 20000 in
theorem ggX6_single_X6_fail : GoodIn wsX6_single wsX6_fail := goodIn_r _ [22, 23, 24, 55, 56, 57, 58, 59, 60, 61, 62, 63, 64, 65, 66, 67, 68, 69, 70, 71, 72, 73, 74, 75, 76, 77, 78, 79] (by decide +kernel) (by decide +kernel)
set_option maxRecDepth 20000 in
theorem gX6_single_X6_fail : GoodIn wsX6_single (wsV RX6 118 RX6 yX6_fail wsX6_fail) := goodIn_app (goodIn_of _ (by decide +kernel)) ggX6_single_X6_fail
set_option maxRecDepth 20000 in
theorem ggX6_single_X6_reachable : GoodIn wsX6_single wsX6_reachable := goodIn_r _ [28, 29, 13, 14, 15, 8, 16, 17, 18, 55, 56, 57, 58, 59, 60, 61, 62, 63, 64, 65, 66, 67, 68, 69, 70, 71, 72, 73, 74, 75, 76, 77, 78, 79] (by decide +kernel) (by decide +kernel)
set_option maxRecDepth 20000 in
theorem gX6_single_X6_reachable : GoodIn wsX6_single (wsV RX6 75 RX6 yX6_reachable wsX6_reachable) := goodIn_app (goodIn_of _ (by decide +kernel)) ggX6_single_X6_reachable
set_option maxRecDepth 20000 in
theorem ggX6_single_X6_adjectivesUpTo : GoodIn wsX6_single wsX6_adjectivesUpTo := goodIn_r _ [33, 3, 10, 11, 8, 12, 55, 56, 57, 58, 59, 60, 61, 62, 63, 64, 65, 66, 67, 68, 69, 70, 71, 72, 73, 74, 75, 76, 77, 78, 79] (by decide +kernel) (by decide +kernel)
set_option maxRecDepth 20000 in
theorem gX6_single_X6_adjectivesUpTo : GoodIn wsX6_single (wsV RX6 122 RX6 yX6_adjectivesUpTo wsX6_adjectivesUpTo) := goodIn_app (goodIn_of _ (by decide +kernel)) ggX6_single_X6_adjectivesUpTo
set_option maxRecDepth 20000 in
theorem ggX6_single_X6_having : GoodIn wsX6_single wsX6_having := goodIn_r _ [37, 29, 38, 39, 55, 56, 57, 58, 59, 60, 61, 62, 63, 64, 65, 66, 67, 68, 69, 70, 71, 72, 73, 74, 75, 76, 77, 78, 79] (by decide +kernel) (by decide +kernel)
set_option maxRecDepth 20000 in
theorem gX6_single_X6_having : GoodIn wsX6_single (wsV RX6 125 RX6 yX6_having wsX6_having) := goodIn_app (goodIn_of _ (by decide +kernel)) ggX6_single_X6_having
set_option maxRecDepth 20000 in
theorem ggX6_single_X6_bits : GoodIn wsX6_single wsX6_bits := goodIn_r _ [42] (by decide +kernel) (by decide +kernel)
set_option maxRecDepth 20000 in
theorem gX6_single_X6_bits : GoodIn wsX6_single (va_wsS RX6 128 yX6_bits wsX6_bits) := goodIn_app (goodIn_of _ (by decide +kernel)) ggX6_single_X6_bits
set_option maxRecDepth 20000 in
theorem ggX6_single_X6_lowest : GoodIn wsX6_single wsX6_lowest := goodIn_r _ [45] (by decide +kernel) (by decide +kernel)
set_option maxRecDepth 20000 in
theorem gX6_single_X6_lowest : GoodIn wsX6_single (va_wsS RX6 131 yX6_lowest wsX6_lowest) := goodIn_app (goodIn_of _ (by decide +kernel)) ggX6_single_X6_lowest
set_option maxRecDepth 20000 in
theorem ggX6_single_X6_suited : GoodIn wsX6_single wsX6_suited := goodIn_r _ [49, 29, 50, 51, 52, 8, 53, 17, 54, 18, 13, 14, 15, 16, 55, 56, 57, 58, 59, 60, 61, 62, 63, 64, 65, 66, 67, 68, 69, 70, 71, 72, 73, 74, 75, 76, 77, 78, 79] (by decide +kernel) (by decide +kernel)
set_option maxRecDepth 20000 in
theorem gX6_single_X6_suited : GoodIn wsX6_single (wsV RX6 134 RX6 yX6_suited wsX6_suited) := goodIn_app (goodIn_of _ (by decide +kernel)) ggX6_single_X6_suited
theorem dX6_single_0 : decode cX6_single 0 = .ok (.aload_n 0, 1) := by decide +kernel
theorem dX6_single_1 : decode cX6_single 1 = .ok (.getfield 102, 3) := by decide +kernel
theorem dX6_single_4 : decode cX6_single 4 = .ok (.istore_n 2, 1) := by decide +kernel
theorem dX6_single_5 : decode cX6_single 5 = .ok (.aload_n 0, 1) := by decide +kernel
theorem dX6_single_6 : decode cX6_single 6 = .ok (.iload_n 2, 1) := by decide +kernel
theorem dX6_single_7 : decode cX6_single 7 = .ok (.invokevirtual 114, 3) := by decide +kernel
theorem dX6_single_10 : decode cX6_single 10 = .ok (.istore_n 3, 1) := by decide +kernel
theorem dX6_single_11 : decode cX6_single 11 = .ok (.aload_n 0, 1) := by decide +kernel
theorem dX6_single_12 : decode cX6_single 12 = .ok (.iload_n 3, 1) := by decide +kernel
theorem dX6_single_13 : decode cX6_single 13 = .ok (.iconst 1, 1) := by decide +kernel
theorem dX6_single_14 : decode cX6_single 14 = .ok (.iadd, 1) := by decide +kernel
theorem dX6_single_15 : decode cX6_single 15 = .ok (.putfield 102, 3) := by decide +kernel
theorem dX6_single_18 : decode cX6_single 18 = .ok (.aload_n 0, 1) := by decide +kernel
theorem dX6_single_19 : decode cX6_single 19 = .ok (.getfield 48, 3) := by decide +kernel
theorem dX6_single_22 : decode cX6_single 22 = .ok (.iload_n 3, 1) := by decide +kernel
theorem dX6_single_23 : decode cX6_single 23 = .ok (.iaload, 1) := by decide +kernel
theorem dX6_single_24 : decode cX6_single 24 = .ok (.iconst (-1), 1) := by decide +kernel
theorem dX6_single_25 : decode cX6_single 25 = .ok (.if_icmp .eq 10, 3) := by decide +kernel
theorem dX6_single_28 : decode cX6_single 28 = .ok (.aload_n 0, 1) := by decide +kernel
theorem dX6_single_29 : decode cX6_single 29 = .ok (.getfield 48, 3) := by decide +kernel
theorem dX6_single_32 : decode cX6_single 32 = .ok (.iload_n 3, 1) := by decide +kernel
theorem dX6_single_33 : decode cX6_single 33 = .ok (.iaload, 1) := by decide +kernel
theorem dX6_single_34 : decode cX6_single 34 = .ok (.ireturn, 1) := by decide +kernel
theorem dX6_single_35 : decode cX6_single 35 = .ok (.aload_n 0, 1) := by decide +kernel
theorem dX6_single_36 : decode cX6_single 36 = .ok (.getfield 45, 3) := by decide +kernel
theorem dX6_single_39 : decode cX6_single 39 = .ok (.iload_n 3, 1) := by decide +kernel
theorem dX6_single_40 : decode cX6_single 40 = .ok (.iaload, 1) := by decide +kernel
theorem dX6_single_41 : decode cX6_single 41 = .ok (.bipush 14, 2) := by decide +kernel
theorem dX6_single_43 : decode cX6_single 43 = .ok (.if_icmp .ne 36, 3) := by decide +kernel
theorem dX6_single_46 : decode cX6_single 46 = .ok (.aload_n 0, 1) := by decide +kernel
theorem dX6_single_47 : decode cX6_single 47 = .ok (.getfield 42, 3) := by decide +kernel
theorem dX6_single_50 : decode cX6_single 50 = .ok (.iconst (-1), 1) := by decide +kernel
theorem dX6_single_51 : decode cX6_single 51 = .ok (.if_icmp .eq 21, 3) := by decide +kernel
theorem dX6_single_54 : decode cX6_single 54 = .ok (.aload_n 0, 1) := by decide +kernel
theorem dX6_single_55 : decode cX6_single 55 = .ok (.aload_n 0, 1) := by decide +kernel
theorem dX6_single_56 : decode cX6_single 56 = .ok (.getfield 42, 3) := by decide +kernel
theorem dX6_single_59 : decode cX6_single 59 = .ok (.invokevirtual 72, 3) := by decide +kernel
theorem dX6_single_62 : decode cX6_single 62 = .ok (.ifCond .eq 10, 3) := by decide +kernel
theorem dX6_single_65 : decode cX6_single 65 = .ok (.aload_n 0, 1) := by decide +kernel
theorem dX6_single_66 : decode cX6_single 66 = .ok (.getfield 42, 3) := by decide +kernel
theorem dX6_single_69 : decode cX6_single 69 = .ok (.goto 9, 3) := by decide +kernel
theorem dX6_single_72 : decode cX6_single 72 = .ok (.aload_n 0, 1) := by decide +kernel
theorem dX6_single_73 : decode cX6_single 73 = .ok (.iload_n 3, 1) := by decide +kernel
theorem dX6_single_74 : decode cX6_single 74 = .ok (.iconst 0, 1) := by decide +kernel
theorem dX6_single_75 : decode cX6_single 75 = .ok (.invokevirtual 118, 3) := by decide +kernel
theorem dX6_single_78 : decode cX6_single 78 = .ok (.ireturn, 1) := by decide +kernel
theorem dX6_single_79 : decode cX6_single 79 = .ok (.aload_n 0, 1) := by decide +kernel
theorem dX6_single_80 : decode cX6_single 80 = .ok (.aload_n 0, 1) := by decide +kernel
theorem dX6_single_81 : decode cX6_single 81 = .ok (.invokevirtual 75, 3) := by decide +kernel
theorem dX6_single_84 : decode cX6_single 84 = .ok (.aload_n 0, 1) := by decide +kernel
theorem dX6_single_85 : decode cX6_single 85 = .ok (.iload_n 2, 1) := by decide +kernel
theorem dX6_single_86 : decode cX6_single 86 = .ok (.iload_n 3, 1) := by decide +kernel
theorem dX6_single_87 : decode cX6_single 87 = .ok (.invokevirtual 122, 3) := by decide +kernel
theorem dX6_single_90 : decode cX6_single 90 = .ok (.aload_n 0, 1) := by decide +kernel
theorem dX6_single_91 : decode cX6_single 91 = .ok (.getfield 45, 3) := by decide +kernel
theorem dX6_single_94 : decode cX6_single 94 = .ok (.iload_n 3, 1) := by decide +kernel
theorem dX6_single_95 : decode cX6_single 95 = .ok (.iaload, 1) := by decide +kernel
theorem dX6_single_96 : decode cX6_single 96 = .ok (.bipush 17, 2) := by decide +kernel
theorem dX6_single_98 : decode cX6_single 98 = .ok (.if_icmp .ne 7, 3) := by decide +kernel
theorem dX6_single_101 : decode cX6_single 101 = .ok (.iconst (-1), 1) := by decide +kernel
theorem dX6_single_102 : decode cX6_single 102 = .ok (.goto 12, 3) := by decide +kernel
theorem dX6_single_105 : decode cX6_single 105 = .ok (.aload_n 0, 1) := by decide +kernel
theorem dX6_single_106 : decode cX6_single 106 = .ok (.getfield 45, 3) := by decide +kernel
theorem dX6_single_109 : decode cX6_single 109 = .ok (.iload_n 3, 1) := by decide +kernel
theorem dX6_single_110 : decode cX6_single 110 = .ok (.iaload, 1) := by decide +kernel
theorem dX6_single_111 : decode cX6_single 111 = .ok (.bipush 30, 2) := by decide +kernel
theorem dX6_single_113 : decode cX6_single 113 = .ok (.isub, 1) := by decide +kernel
theorem dX6_single_114 : decode cX6_single 114 = .ok (.invokevirtual 125, 3) := by decide +kernel
theorem dX6_single_117 : decode cX6_single 117 = .ok (.istore 4, 2) := by decide +kernel
theorem dX6_single_119 : decode cX6_single 119 = .ok (.iload 4, 2) := by decide +kernel
theorem dX6_single_121 : decode cX6_single 121 = .ok (.invokestatic 128, 3) := by decide +kernel
theorem dX6_single_124 : decode cX6_single 124 = .ok (.iconst 1, 1) := by decide +kernel
theorem dX6_single_125 : decode cX6_single 125 = .ok (.if_icmp .ne 9, 3) := by decide +kernel
theorem dX6_single_128 : decode cX6_single 128 = .ok (.iload 4, 2) := by decide +kernel
theorem dX6_single_130 : decode cX6_single 130 = .ok (.invokestatic 131, 3) := by decide +kernel
theorem dX6_single_133 : decode cX6_single 133 = .ok (.ireturn, 1) := by decide +kernel
theorem dX6_single_134 : decode cX6_single 134 = .ok (.aload_n 0, 1) := by decide +kernel
theorem dX6_single_135 : decode cX6_single 135 = .ok (.iload_n 1, 1) := by decide +kernel
theorem dX6_single_136 : decode cX6_single 136 = .ok (.iload 4, 2) := by decide +kernel
theorem dX6_single_138 : decode cX6_single 138 = .ok (.invokevirtual 134, 3) := by decide +kernel
theorem dX6_single_141 : decode cX6_single 141 = .ok (.istore 5, 2) := by decide +kernel
theorem dX6_single_143 : decode cX6_single 143 = .ok (.iload 5, 2) := by decide +kernel
theorem dX6_single_145 : decode cX6_single 145 = .ok (.invokestatic 128, 3) := by decide +kernel
theorem dX6_single_148 : decode cX6_single 148 = .ok (.iconst 1, 1) := by decide +kernel
theorem dX6_single_149 : decode cX6_single 149 = .ok (.if_icmp .ne 9, 3) := by decide +kernel
theorem dX6_single_152 : decode cX6_single 152 = .ok (.iload 5, 2) := by decide +kernel
theorem dX6_single_154 : decode cX6_single 154 = .ok (.invokestatic 131, 3) := by decide +kernel
theorem dX6_single_157 : decode cX6_single 157 = .ok (.ireturn, 1) := by decide +kernel
theorem dX6_single_158 : decode cX6_single 158 = .ok (.aload_n 0, 1) := by decide +kernel
theorem dX6_single_159 : decode cX6_single 159 = .ok (.iload_n 3, 1) := by decide +kernel
theorem dX6_single_160 : decode cX6_single 160 = .ok (.iload 5, 2) := by decide +kernel
theorem dX6_single_162 : decode cX6_single 162 = .ok (.ifCond .ne 8, 3) := by decide +kernel
theorem dX6_single_165 : decode cX6_single 165 = .ok (.iload 4, 2) := by decide +kernel
theorem dX6_single_167 : decode cX6_single 167 = .ok (.goto 5, 3) := by decide +kernel
theorem dX6_single_170 : decode cX6_single 170 = .ok (.iload 5, 2) := by decide +kernel
theorem dX6_single_172 : decode cX6_single 172 = .ok (.invokevirtual 118, 3) := by decide +kernel
theorem dX6_single_175 : decode cX6_single 175 = .ok (.ireturn, 1) := by decide +kernel
set_option maxRecDepth 20000 in
theorem ggX6_part_X6_is : GoodIn wsX6_part wsX6_is := goodIn_r _ [9, 1, 3, 4, 75, 76, 77, 78, 79, 80, 81, 82, 83, 84, 85, 86, 87, 88, 89, 90, 91, 92, 93, 94, 95, 96, 97, 98, 99] (by decide +kernel) (by decide +kernel)
set_option maxRecDepth 20000 in
theorem gX6_part_X6_is : GoodIn wsX6_part (wsV RX6 137 RX6 yX6_is wsX6_is) := goodIn_app (goodIn_of _ (by decide +kernel)) ggX6_part_X6_is
set_option maxRecDepth 20000 in
theorem ggX6_part_X6_reachable : GoodIn wsX6_part wsX6_reachable := goodIn_r _ [13, 14, 15, 16, 17, 8, 18, 19, 20, 75, 76, 77, 78, 79, 80, 81, 82, 83, 84, 85, 86, 87, 88, 89, 90, 91, 92, 93, 94, 95, 96, 97, 98, 99] (by decide +kernel) (by decide +kernel)
set_option maxRecDepth 20000 in
theorem gX6_part_X6_reachable : GoodIn wsX6_part (wsV RX6 75 RX6 yX6_reachable wsX6_reachable) := goodIn_app (goodIn_of _ (by decide +kernel)) ggX6_part_X6_reachable
set_option maxRecDepth 20000 in
theorem ggX6_part_X6_fail : GoodIn wsX6_part wsX6_fail := goodIn_r _ [24, 25, 26, 75, 76, 77, 78, 79, 80, 81, 82, 83, 84, 85, 86, 87, 88, 89, 90, 91, 92, 93, 94, 95, 96, 97, 98, 99] (by decide +kernel) (by decide +kernel)
set_option maxRecDepth 20000 in
theorem gX6_part_X6_fail : GoodIn wsX6_part (wsV RX6 118 RX6 yX6_fail wsX6_fail) := goodIn_app (goodIn_of _ (by decide +kernel)) ggX6_part_X6_fail
set_option maxRecDepth 20000 in
theorem ggX6_part_X6_endOf : GoodIn wsX6_part wsX6_endOf := goodIn_r _ [30, 4, 31, 32, 8, 33, 75, 76, 77, 78, 79, 80, 81, 82, 83, 84, 85, 86, 87, 88, 89, 90, 91, 92, 93, 94, 95, 96, 97, 98, 99] (by decide +kernel) (by decide +kernel)
set_option maxRecDepth 20000 in
theorem gX6_part_X6_endOf : GoodIn wsX6_part (wsV RX6 114 RX6 yX6_endOf wsX6_endOf) := goodIn_app (goodIn_of _ (by decide +kernel)) ggX6_part_X6_endOf
set_option maxRecDepth 20000 in
theorem ggX6_part_X6_isAdjective : GoodIn wsX6_part wsX6_isAdjective := goodIn_r _ [33] (by decide +kernel) (by decide +kernel)
set_option maxRecDepth 20000 in
theorem gX6_part_X6_isAdjective : GoodIn wsX6_part (va_wsS RX6 86 yX6_isAdjective wsX6_isAdjective) := goodIn_app (goodIn_of _ (by decide +kernel)) ggX6_part_X6_isAdjective
set_option maxRecDepth 20000 in
theorem ggX6_part_X6_isPlural : GoodIn wsX6_part wsX6_isPlural := goodIn_r _ [36] (by decide +kernel) (by decide +kernel)
set_option maxRecDepth 20000 in
theorem gX6_part_X6_isPlural : GoodIn wsX6_part (va_wsS RX6 92 yX6_isPlural wsX6_isPlural) := goodIn_app (goodIn_of _ (by decide +kernel)) ggX6_part_X6_isPlural
set_option maxRecDepth 20000 in
theorem ggX6_part_X6_single : GoodIn wsX6_part wsX6_single := goodIn_r _ [40, 1, 41, 4, 42, 27, 28, 29, 8, 30, 31, 32, 33, 15, 16, 17, 18, 19, 20, 21, 22, 23, 24, 25, 26, 10, 11, 12, 13, 14, 43, 44, 45, 46, 47, 48, 49, 50, 51, 52, 53, 54, 55, 56, 57, 58, 59, 60, 61, 62, 63, 64, 65, 66, 67, 75, 76, 77, 78, 79, 80, 81, 82, 83, 84, 85, 86, 87, 88, 89, 90, 91, 92, 93, 94, 95, 96, 97, 98, 99] (by decide +kernel) (by decide +kernel)
set_option maxRecDepth 20000 in
theorem gX6_part_X6_single : GoodIn wsX6_part (wsV RX6 143 RX6 yX6_single wsX6_single) := goodIn_app (goodIn_of _ (by decide +kernel)) ggX6_part_X6_single
set_option maxRecDepth 20000 in
theorem ggX6_part_X6_isSingleAt : GoodIn wsX6_part wsX6_isSingleAt := goodIn_r _ [71, 4, 27, 28, 29, 8, 30, 31, 32, 33, 72, 73, 74, 75, 76, 77, 78, 79, 80, 81, 82, 83, 84, 85, 86, 87, 88, 89, 90, 91, 92, 93, 94, 95, 96, 97, 98, 99] (by decide +kernel) (by decide +kernel)
set_option maxRecDepth 20000 in
theorem gX6_part_X6_isSingleAt : GoodIn wsX6_part (wsV RX6 146 RX6 yX6_isSingleAt wsX6_isSingleAt) := goodIn_app (goodIn_of _ (by decide +kernel)) ggX6_part_X6_isSingleAt
set_option maxRecDepth 20000 in
theorem ggX6_part_X6_adjectivesUpTo : GoodIn wsX6_part wsX6_adjectivesUpTo := goodIn_r _ [46, 4, 31, 32, 8, 33, 75, 76, 77, 78, 79, 80, 81, 82, 83, 84, 85, 86, 87, 88, 89, 90, 91, 92, 93, 94, 95, 96, 97, 98, 99] (by decide +kernel) (by decide +kernel)
set_option maxRecDepth 20000 in
theorem gX6_part_X6_adjectivesUpTo : GoodIn wsX6_part (wsV RX6 122 RX6 yX6_adjectivesUpTo wsX6_adjectivesUpTo) := goodIn_app (goodIn_of _ (by decide +kernel)) ggX6_part_X6_adjectivesUpTo
set_option maxRecDepth 20000 in
theorem ggX6_part_X6_having : GoodIn wsX6_part wsX6_having := goodIn_r _ [50, 14, 51, 52, 75, 76, 77, 78, 79, 80, 81, 82, 83, 84, 85, 86, 87, 88, 89, 90, 91, 92, 93, 94, 95, 96, 97, 98, 99] (by decide +kernel) (by decide +kernel)
set_option maxRecDepth 20000 in
theorem gX6_part_X6_having : GoodIn wsX6_part (wsV RX6 125 RX6 yX6_having wsX6_having) := goodIn_app (goodIn_of _ (by decide +kernel)) ggX6_part_X6_having
set_option maxRecDepth 20000 in
theorem ggX6_part_X6_suited : GoodIn wsX6_part wsX6_suited := goodIn_r _ [62, 14, 63, 64, 65, 8, 66, 19, 67, 20, 15, 16, 17, 18, 75, 76, 77, 78, 79, 80, 81, 82, 83, 84, 85, 86, 87, 88, 89, 90, 91, 92, 93, 94, 95, 96, 97, 98, 99] (by decide +kernel) (by decide +kernel)
set_option maxRecDepth 20000 in
theorem gX6_part_X6_suited : GoodIn wsX6_part (wsV RX6 134 RX6 yX6_suited wsX6_suited) := goodIn_app (goodIn_of _ (by decide +kernel)) ggX6_part_X6_suited
theorem dX6_part_0 : decode cX6_part 0 = .ok (.aload_n 0, 1) := by decide +kernel
theorem dX6_part_1 : decode cX6_part 1 = .ok (.bipush 15, 2) := by decide +kernel
theorem dX6_part_3 : decode cX6_part 3 = .ok (.invokevirtual 137, 3) := by decide +kernel
theorem dX6_part_6 : decode cX6_part 6 = .ok (.ifCond .eq 41, 3) := by decide +kernel
theorem dX6_part_9 : decode cX6_part 9 = .ok (.aload_n 0, 1) := by decide +kernel
theorem dX6_part_10 : decode cX6_part 10 = .ok (.dup, 1) := by decide +kernel
theorem dX6_part_11 : decode cX6_part 11 = .ok (.getfield 102, 3) := by decide +kernel
theorem dX6_part_14 : decode cX6_part 14 = .ok (.iconst 1, 1) := by decide +kernel
theorem dX6_part_15 : decode cX6_part 15 = .ok (.iadd, 1) := by decide +kernel
theorem dX6_part_16 : decode cX6_part 16 = .ok (.putfield 102, 3) := by decide +kernel
theorem dX6_part_19 : decode cX6_part 19 = .ok (.aload_n 0, 1) := by decide +kernel
theorem dX6_part_20 : decode cX6_part 20 = .ok (.getfield 140, 3) := by decide +kernel
theorem dX6_part_23 : decode cX6_part 23 = .ok (.aload_n 0, 1) := by decide +kernel
theorem dX6_part_24 : decode cX6_part 24 = .ok (.invokevirtual 75, 3) := by decide +kernel
theorem dX6_part_27 : decode cX6_part 27 = .ok (.iand, 1) := by decide +kernel
theorem dX6_part_28 : decode cX6_part 28 = .ok (.istore_n 1, 1) := by decide +kernel
theorem dX6_part_29 : decode cX6_part 29 = .ok (.iload_n 1, 1) := by decide +kernel
theorem dX6_part_30 : decode cX6_part 30 = .ok (.ifCond .ne 15, 3) := by decide +kernel
theorem dX6_part_33 : decode cX6_part 33 = .ok (.aload_n 0, 1) := by decide +kernel
theorem dX6_part_34 : decode cX6_part 34 = .ok (.aload_n 0, 1) := by decide +kernel
theorem dX6_part_35 : decode cX6_part 35 = .ok (.getfield 102, 3) := by decide +kernel
theorem dX6_part_38 : decode cX6_part 38 = .ok (.iconst 1, 1) := by decide +kernel
theorem dX6_part_39 : decode cX6_part 39 = .ok (.isub, 1) := by decide +kernel
theorem dX6_part_40 : decode cX6_part 40 = .ok (.iconst 0, 1) := by decide +kernel
theorem dX6_part_41 : decode cX6_part 41 = .ok (.invokevirtual 118, 3) := by decide +kernel
theorem dX6_part_44 : decode cX6_part 44 = .ok (.pop, 1) := by decide +kernel
theorem dX6_part_45 : decode cX6_part 45 = .ok (.iload_n 1, 1) := by decide +kernel
theorem dX6_part_46 : decode cX6_part 46 = .ok (.ireturn, 1) := by decide +kernel
theorem dX6_part_47 : decode cX6_part 47 = .ok (.aload_n 0, 1) := by decide +kernel
theorem dX6_part_48 : decode cX6_part 48 = .ok (.getfield 102, 3) := by decide +kernel
theorem dX6_part_51 : decode cX6_part 51 = .ok (.istore_n 1, 1) := by decide +kernel
theorem dX6_part_52 : decode cX6_part 52 = .ok (.aload_n 0, 1) := by decide +kernel
theorem dX6_part_53 : decode cX6_part 53 = .ok (.bipush 11, 2) := by decide +kernel
theorem dX6_part_55 : decode cX6_part 55 = .ok (.invokevirtual 137, 3) := by decide +kernel
theorem dX6_part_58 : decode cX6_part 58 = .ok (.ifCond .eq 7, 3) := by decide +kernel
theorem dX6_part_61 : decode cX6_part 61 = .ok (.iload_n 1, 1) := by decide +kernel
theorem dX6_part_62 : decode cX6_part 62 = .ok (.goto 8, 3) := by decide +kernel
theorem dX6_part_65 : decode cX6_part 65 = .ok (.aload_n 0, 1) := by decide +kernel
theorem dX6_part_66 : decode cX6_part 66 = .ok (.iload_n 1, 1) := by decide +kernel
theorem dX6_part_67 : decode cX6_part 67 = .ok (.invokevirtual 114, 3) := by decide +kernel
theorem dX6_part_70 : decode cX6_part 70 = .ok (.istore_n 2, 1) := by decide +kernel
theorem dX6_part_71 : decode cX6_part 71 = .ok (.aload_n 0, 1) := by decide +kernel
theorem dX6_part_72 : decode cX6_part 72 = .ok (.bipush 11, 2) := by decide +kernel
theorem dX6_part_74 : decode cX6_part 74 = .ok (.invokevirtual 137, 3) := by decide +kernel
theorem dX6_part_77 : decode cX6_part 77 = .ok (.ifCond .eq 59, 3) := by decide +kernel
theorem dX6_part_80 : decode cX6_part 80 = .ok (.iload_n 1, 1) := by decide +kernel
theorem dX6_part_81 : decode cX6_part 81 = .ok (.iconst 1, 1) := by decide +kernel
theorem dX6_part_82 : decode cX6_part 82 = .ok (.iadd, 1) := by decide +kernel
theorem dX6_part_83 : decode cX6_part 83 = .ok (.istore_n 3, 1) := by decide +kernel
theorem dX6_part_84 : decode cX6_part 84 = .ok (.iload_n 3, 1) := by decide +kernel
theorem dX6_part_85 : decode cX6_part 85 = .ok (.aload_n 0, 1) := by decide +kernel
