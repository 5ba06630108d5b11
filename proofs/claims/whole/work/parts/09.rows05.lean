theorem dX5_odds_23 : decode cX5_odds 23 = .ok (.if_icmp .ne 5, 3) := by decide +kernel
theorem dX5_odds_26 : decode cX5_odds 26 = .ok (.iconst (-1), 1) := by decide +kernel
theorem dX5_odds_27 : decode cX5_odds 27 = .ok (.ireturn, 1) := by decide +kernel
theorem dX5_odds_28 : decode cX5_odds 28 = .ok (.iload 4, 2) := by decide +kernel
theorem dX5_odds_30 : decode cX5_odds 30 = .ok (.iconst 0, 1) := by decide +kernel
theorem dX5_odds_31 : decode cX5_odds 31 = .ok (.iconst 1, 1) := by decide +kernel
theorem dX5_odds_32 : decode cX5_odds 32 = .ok (.invokestatic 54, 3) := by decide +kernel
theorem dX5_odds_35 : decode cX5_odds 35 = .ok (.ifCond .ne 6, 3) := by decide +kernel
theorem dX5_odds_38 : decode cX5_odds 38 = .ok (.bipush (-2), 2) := by decide +kernel
theorem dX5_odds_40 : decode cX5_odds 40 = .ok (.ireturn, 1) := by decide +kernel
theorem dX5_odds_41 : decode cX5_odds 41 = .ok (.aload_n 0, 1) := by decide +kernel
theorem dX5_odds_42 : decode cX5_odds 42 = .ok (.invokevirtual 73, 3) := by decide +kernel
theorem dX5_odds_45 : decode cX5_odds 45 = .ok (.aload_n 0, 1) := by decide +kernel
theorem dX5_odds_46 : decode cX5_odds 46 = .ok (.iload 4, 2) := by decide +kernel
theorem dX5_odds_48 : decode cX5_odds 48 = .ok (.ifCond .ne 7, 3) := by decide +kernel
theorem dX5_odds_51 : decode cX5_odds 51 = .ok (.iload_n 2, 1) := by decide +kernel
theorem dX5_odds_52 : decode cX5_odds 52 = .ok (.goto 4, 3) := by decide +kernel
theorem dX5_odds_55 : decode cX5_odds 55 = .ok (.iload_n 3, 1) := by decide +kernel
theorem dX5_odds_56 : decode cX5_odds 56 = .ok (.iload_n 1, 1) := by decide +kernel
theorem dX5_odds_57 : decode cX5_odds 57 = .ok (.iload 4, 2) := by decide +kernel
theorem dX5_odds_59 : decode cX5_odds 59 = .ok (.iconst 1, 1) := by decide +kernel
theorem dX5_odds_60 : decode cX5_odds 60 = .ok (.if_icmp .ne 7, 3) := by decide +kernel
theorem dX5_odds_63 : decode cX5_odds 63 = .ok (.iconst 1, 1) := by decide +kernel
theorem dX5_odds_64 : decode cX5_odds 64 = .ok (.goto 4, 3) := by decide +kernel
theorem dX5_odds_67 : decode cX5_odds 67 = .ok (.iconst 0, 1) := by decide +kernel
theorem dX5_odds_68 : decode cX5_odds 68 = .ok (.invokevirtual 138, 3) := by decide +kernel
theorem dX5_odds_71 : decode cX5_odds 71 = .ok (.aload_n 0, 1) := by decide +kernel
theorem dX5_odds_72 : decode cX5_odds 72 = .ok (.iload 4, 2) := by decide +kernel
theorem dX5_odds_74 : decode cX5_odds 74 = .ok (.ifCond .ne 7, 3) := by decide +kernel
theorem dX5_odds_77 : decode cX5_odds 77 = .ok (.iload_n 3, 1) := by decide +kernel
theorem dX5_odds_78 : decode cX5_odds 78 = .ok (.goto 4, 3) := by decide +kernel
theorem dX5_odds_81 : decode cX5_odds 81 = .ok (.iload_n 2, 1) := by decide +kernel
theorem dX5_odds_82 : decode cX5_odds 82 = .ok (.iload_n 1, 1) := by decide +kernel
theorem dX5_odds_83 : decode cX5_odds 83 = .ok (.iload 4, 2) := by decide +kernel
theorem dX5_odds_85 : decode cX5_odds 85 = .ok (.ifCond .ne 7, 3) := by decide +kernel
theorem dX5_odds_88 : decode cX5_odds 88 = .ok (.iconst 1, 1) := by decide +kernel
theorem dX5_odds_89 : decode cX5_odds 89 = .ok (.goto 4, 3) := by decide +kernel
theorem dX5_odds_92 : decode cX5_odds 92 = .ok (.iconst 0, 1) := by decide +kernel
theorem dX5_odds_93 : decode cX5_odds 93 = .ok (.invokevirtual 138, 3) := by decide +kernel
theorem dX5_odds_96 : decode cX5_odds 96 = .ok (.aload_n 0, 1) := by decide +kernel
theorem dX5_odds_97 : decode cX5_odds 97 = .ok (.iload_n 1, 1) := by decide +kernel
theorem dX5_odds_98 : decode cX5_odds 98 = .ok (.invokevirtual 101, 3) := by decide +kernel
theorem dX5_odds_101 : decode cX5_odds 101 = .ok (.ireturn, 1) := by decide +kernel
set_option maxRecDepth 20000 in
theorem ggX5_tenths_X5_is6 : GoodIn wsX5_tenths wsX5_is6 := goodIn_r _ [5, 6, 7, 4, 8] (by decide +kernel) (by decide +kernel)
set_option maxRecDepth 20000 in
theorem gX5_tenths_X5_is6 : GoodIn wsX5_tenths (va_wsS RX5 58 yX5_is6 wsX5_is6) := goodIn_app (goodIn_of _ (by decide +kernel)) ggX5_tenths_X5_is6
set_option maxRecDepth 20000 in
theorem ggX5_tenths_X5_in : GoodIn wsX5_tenths wsX5_in := goodIn_r _ [8] (by decide +kernel) (by decide +kernel)
set_option maxRecDepth 20000 in
theorem gX5_tenths_X5_in : GoodIn wsX5_tenths (va_wsS RX5 54 yX5_in wsX5_in) := goodIn_app (goodIn_of _ (by decide +kernel)) ggX5_tenths_X5_in
theorem dX5_tenths_0 : decode cX5_tenths 0 = .ok (.iload_n 1, 1) := by decide +kernel
theorem dX5_tenths_1 : decode cX5_tenths 1 = .ok (.invokestatic 58, 3) := by decide +kernel
theorem dX5_tenths_4 : decode cX5_tenths 4 = .ok (.ifCond .ne 5, 3) := by decide +kernel
theorem dX5_tenths_7 : decode cX5_tenths 7 = .ok (.iconst (-1), 1) := by decide +kernel
theorem dX5_tenths_8 : decode cX5_tenths 8 = .ok (.ireturn, 1) := by decide +kernel
theorem dX5_tenths_9 : decode cX5_tenths 9 = .ok (.iload_n 2, 1) := by decide +kernel
theorem dX5_tenths_10 : decode cX5_tenths 10 = .ok (.iconst 0, 1) := by decide +kernel
theorem dX5_tenths_11 : decode cX5_tenths 11 = .ok (.bipush 10, 2) := by decide +kernel
theorem dX5_tenths_13 : decode cX5_tenths 13 = .ok (.invokestatic 54, 3) := by decide +kernel
theorem dX5_tenths_16 : decode cX5_tenths 16 = .ok (.ifCond .ne 6, 3) := by decide +kernel
theorem dX5_tenths_19 : decode cX5_tenths 19 = .ok (.bipush (-2), 2) := by decide +kernel
theorem dX5_tenths_21 : decode cX5_tenths 21 = .ok (.ireturn, 1) := by decide +kernel
theorem dX5_tenths_22 : decode cX5_tenths 22 = .ok (.aload_n 0, 1) := by decide +kernel
theorem dX5_tenths_23 : decode cX5_tenths 23 = .ok (.getfield 28, 3) := by decide +kernel
theorem dX5_tenths_26 : decode cX5_tenths 26 = .ok (.iload_n 1, 1) := by decide +kernel
theorem dX5_tenths_27 : decode cX5_tenths 27 = .ok (.iaload, 1) := by decide +kernel
theorem dX5_tenths_28 : decode cX5_tenths 28 = .ok (.istore_n 3, 1) := by decide +kernel
theorem dX5_tenths_29 : decode cX5_tenths 29 = .ok (.aload_n 0, 1) := by decide +kernel
theorem dX5_tenths_30 : decode cX5_tenths 30 = .ok (.getfield 28, 3) := by decide +kernel
theorem dX5_tenths_33 : decode cX5_tenths 33 = .ok (.iload_n 1, 1) := by decide +kernel
theorem dX5_tenths_34 : decode cX5_tenths 34 = .ok (.iload_n 2, 1) := by decide +kernel
theorem dX5_tenths_35 : decode cX5_tenths 35 = .ok (.iastore, 1) := by decide +kernel
theorem dX5_tenths_36 : decode cX5_tenths 36 = .ok (.iload_n 3, 1) := by decide +kernel
theorem dX5_tenths_37 : decode cX5_tenths 37 = .ok (.ireturn, 1) := by decide +kernel
set_option maxRecDepth 20000 in
theorem ggX5_laySafe_X5_powerOf : GoodIn wsX5_laySafe wsX5_powerOf := goodIn_r _ [8] (by decide +kernel) (by decide +kernel)
set_option maxRecDepth 20000 in
theorem gX5_laySafe_X5_powerOf : GoodIn wsX5_laySafe (va_wsS RX5 109 yX5_powerOf wsX5_powerOf) := goodIn_app (goodIn_of _ (by decide +kernel)) ggX5_laySafe_X5_powerOf
set_option maxRecDepth 20000 in
theorem ggX5_laySafe_X5_plankOf : GoodIn wsX5_laySafe wsX5_plankOf := goodIn_r _ [12, 5, 6, 7, 8] (by decide +kernel) (by decide +kernel)
set_option maxRecDepth 20000 in
theorem gX5_laySafe_X5_plankOf : GoodIn wsX5_laySafe (wsV RX5 125 RX5 yX5_plankOf wsX5_plankOf) := goodIn_app (goodIn_of _ (by decide +kernel)) ggX5_laySafe_X5_plankOf
set_option maxRecDepth 20000 in
theorem ggX5_laySafe_X5_over : GoodIn wsX5_laySafe wsX5_over := goodIn_r _ [16, 17, 18, 19, 20, 21, 22, 23, 24, 25, 26, 27, 28, 29, 30, 31, 32, 33, 34, 35, 36, 37, 38, 39, 40] (by decide +kernel) (by decide +kernel)
set_option maxRecDepth 20000 in
theorem gX5_laySafe_X5_over : GoodIn wsX5_laySafe (wsV RX5 112 RX5 yX5_over wsX5_over) := goodIn_app (goodIn_of _ (by decide +kernel)) ggX5_laySafe_X5_over
theorem dX5_laySafe_0 : decode cX5_laySafe 0 = .ok (.bipush (-6), 2) := by decide +kernel
theorem dX5_laySafe_2 : decode cX5_laySafe 2 = .ok (.istore_n 3, 1) := by decide +kernel
theorem dX5_laySafe_3 : decode cX5_laySafe 3 = .ok (.iconst 0, 1) := by decide +kernel
theorem dX5_laySafe_4 : decode cX5_laySafe 4 = .ok (.istore 4, 2) := by decide +kernel
theorem dX5_laySafe_6 : decode cX5_laySafe 6 = .ok (.iload 4, 2) := by decide +kernel
theorem dX5_laySafe_8 : decode cX5_laySafe 8 = .ok (.bipush 6, 2) := by decide +kernel
theorem dX5_laySafe_10 : decode cX5_laySafe 10 = .ok (.if_icmp .ge 138, 3) := by decide +kernel
theorem dX5_laySafe_13 : decode cX5_laySafe 13 = .ok (.iconst 0, 1) := by decide +kernel
theorem dX5_laySafe_14 : decode cX5_laySafe 14 = .ok (.istore 5, 2) := by decide +kernel
theorem dX5_laySafe_16 : decode cX5_laySafe 16 = .ok (.iload 5, 2) := by decide +kernel
theorem dX5_laySafe_18 : decode cX5_laySafe 18 = .ok (.bipush 6, 2) := by decide +kernel
theorem dX5_laySafe_20 : decode cX5_laySafe 20 = .ok (.iload 4, 2) := by decide +kernel
theorem dX5_laySafe_22 : decode cX5_laySafe 22 = .ok (.invokestatic 109, 3) := by decide +kernel
theorem dX5_laySafe_25 : decode cX5_laySafe 25 = .ok (.if_icmp .ge 117, 3) := by decide +kernel
theorem dX5_laySafe_28 : decode cX5_laySafe 28 = .ok (.iload_n 1, 1) := by decide +kernel
theorem dX5_laySafe_29 : decode cX5_laySafe 29 = .ok (.istore 6, 2) := by decide +kernel
theorem dX5_laySafe_31 : decode cX5_laySafe 31 = .ok (.iconst 1, 1) := by decide +kernel
theorem dX5_laySafe_32 : decode cX5_laySafe 32 = .ok (.istore 7, 2) := by decide +kernel
theorem dX5_laySafe_34 : decode cX5_laySafe 34 = .ok (.iconst 0, 1) := by decide +kernel
theorem dX5_laySafe_35 : decode cX5_laySafe 35 = .ok (.istore 8, 2) := by decide +kernel
theorem dX5_laySafe_37 : decode cX5_laySafe 37 = .ok (.iload 8, 2) := by decide +kernel
theorem dX5_laySafe_39 : decode cX5_laySafe 39 = .ok (.iload 4, 2) := by decide +kernel
theorem dX5_laySafe_41 : decode cX5_laySafe 41 = .ok (.if_icmp .ge 48, 3) := by decide +kernel
theorem dX5_laySafe_44 : decode cX5_laySafe 44 = .ok (.iload 6, 2) := by decide +kernel
theorem dX5_laySafe_46 : decode cX5_laySafe 46 = .ok (.ifCond .lt 43, 3) := by decide +kernel
theorem dX5_laySafe_49 : decode cX5_laySafe 49 = .ok (.aload_n 0, 1) := by decide +kernel
theorem dX5_laySafe_50 : decode cX5_laySafe 50 = .ok (.iload 5, 2) := by decide +kernel
theorem dX5_laySafe_52 : decode cX5_laySafe 52 = .ok (.iload 4, 2) := by decide +kernel
theorem dX5_laySafe_54 : decode cX5_laySafe 54 = .ok (.iload 8, 2) := by decide +kernel
theorem dX5_laySafe_56 : decode cX5_laySafe 56 = .ok (.invokevirtual 125, 3) := by decide +kernel
theorem dX5_laySafe_59 : decode cX5_laySafe 59 = .ok (.istore 9, 2) := by decide +kernel
theorem dX5_laySafe_61 : decode cX5_laySafe 61 = .ok (.aload_n 0, 1) := by decide +kernel
theorem dX5_laySafe_62 : decode cX5_laySafe 62 = .ok (.iload 9, 2) := by decide +kernel
theorem dX5_laySafe_64 : decode cX5_laySafe 64 = .ok (.iload 6, 2) := by decide +kernel
theorem dX5_laySafe_66 : decode cX5_laySafe 66 = .ok (.invokevirtual 112, 3) := by decide +kernel
theorem dX5_laySafe_69 : decode cX5_laySafe 69 = .ok (.istore 6, 2) := by decide +kernel
theorem dX5_laySafe_71 : decode cX5_laySafe 71 = .ok (.iload 7, 2) := by decide +kernel
theorem dX5_laySafe_73 : decode cX5_laySafe 73 = .ok (.aload_n 0, 1) := by decide +kernel
theorem dX5_laySafe_74 : decode cX5_laySafe 74 = .ok (.getfield 28, 3) := by decide +kernel
theorem dX5_laySafe_77 : decode cX5_laySafe 77 = .ok (.iload 9, 2) := by decide +kernel
theorem dX5_laySafe_79 : decode cX5_laySafe 79 = .ok (.iaload, 1) := by decide +kernel
theorem dX5_laySafe_80 : decode cX5_laySafe 80 = .ok (.imul, 1) := by decide +kernel
theorem dX5_laySafe_81 : decode cX5_laySafe 81 = .ok (.istore 7, 2) := by decide +kernel
theorem dX5_laySafe_83 : decode cX5_laySafe 83 = .ok (.iinc 8 1, 3) := by decide +kernel
theorem dX5_laySafe_86 : decode cX5_laySafe 86 = .ok (.goto (-49), 3) := by decide +kernel
theorem dX5_laySafe_89 : decode cX5_laySafe 89 = .ok (.iload 7, 2) := by decide +kernel
theorem dX5_laySafe_91 : decode cX5_laySafe 91 = .ok (.bipush 10, 2) := by decide +kernel
theorem dX5_laySafe_93 : decode cX5_laySafe 93 = .ok (.iconst 5, 1) := by decide +kernel
theorem dX5_laySafe_94 : decode cX5_laySafe 94 = .ok (.iload 4, 2) := by decide +kernel
theorem dX5_laySafe_96 : decode cX5_laySafe 96 = .ok (.isub, 1) := by decide +kernel
theorem dX5_laySafe_97 : decode cX5_laySafe 97 = .ok (.invokestatic 109, 3) := by decide +kernel
theorem dX5_laySafe_100 : decode cX5_laySafe 100 = .ok (.imul, 1) := by decide +kernel
theorem dX5_laySafe_101 : decode cX5_laySafe 101 = .ok (.istore 8, 2) := by decide +kernel
theorem dX5_laySafe_103 : decode cX5_laySafe 103 = .ok (.iload 6, 2) := by decide +kernel
theorem dX5_laySafe_105 : decode cX5_laySafe 105 = .ok (.iload_n 2, 1) := by decide +kernel
theorem dX5_laySafe_106 : decode cX5_laySafe 106 = .ok (.if_icmp .ne 30, 3) := by decide +kernel
theorem dX5_laySafe_109 : decode cX5_laySafe 109 = .ok (.iload 8, 2) := by decide +kernel
theorem dX5_laySafe_111 : decode cX5_laySafe 111 = .ok (.iload_n 3, 1) := by decide +kernel
theorem dX5_laySafe_112 : decode cX5_laySafe 112 = .ok (.if_icmp .le 24, 3) := by decide +kernel
theorem dX5_laySafe_115 : decode cX5_laySafe 115 = .ok (.iload 8, 2) := by decide +kernel
theorem dX5_laySafe_117 : decode cX5_laySafe 117 = .ok (.istore_n 3, 1) := by decide +kernel
theorem dX5_laySafe_118 : decode cX5_laySafe 118 = .ok (.aload_n 0, 1) := by decide +kernel
theorem dX5_laySafe_119 : decode cX5_laySafe 119 = .ok (.iload 7, 2) := by decide +kernel
theorem dX5_laySafe_121 : decode cX5_laySafe 121 = .ok (.putfield 142, 3) := by decide +kernel
theorem dX5_laySafe_124 : decode cX5_laySafe 124 = .ok (.aload_n 0, 1) := by decide +kernel
theorem dX5_laySafe_125 : decode cX5_laySafe 125 = .ok (.iload 4, 2) := by decide +kernel
theorem dX5_laySafe_127 : decode cX5_laySafe 127 = .ok (.putfield 119, 3) := by decide +kernel
theorem dX5_laySafe_130 : decode cX5_laySafe 130 = .ok (.aload_n 0, 1) := by decide +kernel
theorem dX5_laySafe_131 : decode cX5_laySafe 131 = .ok (.iload 5, 2) := by decide +kernel
theorem dX5_laySafe_133 : decode cX5_laySafe 133 = .ok (.putfield 122, 3) := by decide +kernel
theorem dX5_laySafe_136 : decode cX5_laySafe 136 = .ok (.iinc 5 1, 3) := by decide +kernel
theorem dX5_laySafe_139 : decode cX5_laySafe 139 = .ok (.goto (-123), 3) := by decide +kernel
theorem dX5_laySafe_142 : decode cX5_laySafe 142 = .ok (.iinc 4 1, 3) := by decide +kernel
theorem dX5_laySafe_145 : decode cX5_laySafe 145 = .ok (.goto (-139), 3) := by decide +kernel
theorem dX5_laySafe_148 : decode cX5_laySafe 148 = .ok (.iload_n 3, 1) := by decide +kernel
theorem dX5_laySafe_149 : decode cX5_laySafe 149 = .ok (.ifCond .lt 7, 3) := by decide +kernel
theorem dX5_laySafe_152 : decode cX5_laySafe 152 = .ok (.iconst 1, 1) := by decide +kernel
theorem dX5_laySafe_153 : decode cX5_laySafe 153 = .ok (.goto 4, 3) := by decide +kernel
theorem dX5_laySafe_156 : decode cX5_laySafe 156 = .ok (.iconst 0, 1) := by decide +kernel
theorem dX5_laySafe_157 : decode cX5_laySafe 157 = .ok (.ireturn, 1) := by decide +kernel
set_option maxRecDepth 20000 in
theorem ggX5_safe_X5_is6 : GoodIn wsX5_safe wsX5_is6 := goodIn_r _ [6, 7, 8, 5, 9] (by decide +kernel) (by decide +kernel)
set_option maxRecDepth 20000 in
theorem gX5_safe_X5_is6 : GoodIn wsX5_safe (va_wsS RX5 58 yX5_is6 wsX5_is6) := goodIn_app (goodIn_of _ (by decide +kernel)) ggX5_safe_X5_is6
set_option maxRecDepth 20000 in
theorem ggX5_safe_X5_laySafe : GoodIn wsX5_safe wsX5_laySafe := goodIn_r _ [13, 14, 15, 1, 2, 16, 17, 5, 18, 19, 20, 21, 22, 23, 24, 25, 26, 27, 28, 29, 30, 31, 32, 33, 34, 35, 36, 37, 38, 39, 40, 41, 42, 43, 44, 45, 46, 47, 48, 49, 50] (by decide +kernel) (by decide +kernel)
set_option maxRecDepth 20000 in
theorem gX5_safe_X5_laySafe : GoodIn wsX5_safe (wsV RX5 145 RX5 yX5_laySafe wsX5_laySafe) := goodIn_app (goodIn_of _ (by decide +kernel)) ggX5_safe_X5_laySafe
set_option maxRecDepth 20000 in
theorem ggX5_safe_X5_in : GoodIn wsX5_safe wsX5_in := goodIn_r _ [9] (by decide +kernel) (by decide +kernel)
set_option maxRecDepth 20000 in
theorem gX5_safe_X5_in : GoodIn wsX5_safe (va_wsS RX5 54 yX5_in wsX5_in) := goodIn_app (goodIn_of _ (by decide +kernel)) ggX5_safe_X5_in
set_option maxRecDepth 20000 in
theorem ggX5_safe_X5_plankOf : GoodIn wsX5_safe wsX5_plankOf := goodIn_r _ [22, 16, 17, 5, 18] (by decide +kernel) (by decide +kernel)
set_option maxRecDepth 20000 in
theorem gX5_safe_X5_plankOf : GoodIn wsX5_safe (wsV RX5 125 RX5 yX5_plankOf wsX5_plankOf) := goodIn_app (goodIn_of _ (by decide +kernel)) ggX5_safe_X5_plankOf
theorem dX5_safe_0 : decode cX5_safe 0 = .ok (.iload_n 1, 1) := by decide +kernel
theorem dX5_safe_1 : decode cX5_safe 1 = .ok (.invokestatic 58, 3) := by decide +kernel
theorem dX5_safe_4 : decode cX5_safe 4 = .ok (.ifCond .eq 10, 3) := by decide +kernel
theorem dX5_safe_7 : decode cX5_safe 7 = .ok (.iload_n 2, 1) := by decide +kernel
theorem dX5_safe_8 : decode cX5_safe 8 = .ok (.invokestatic 58, 3) := by decide +kernel
theorem dX5_safe_11 : decode cX5_safe 11 = .ok (.ifCond .ne 5, 3) := by decide +kernel
theorem dX5_safe_14 : decode cX5_safe 14 = .ok (.iconst (-1), 1) := by decide +kernel
theorem dX5_safe_15 : decode cX5_safe 15 = .ok (.ireturn, 1) := by decide +kernel
theorem dX5_safe_16 : decode cX5_safe 16 = .ok (.aload_n 0, 1) := by decide +kernel
theorem dX5_safe_17 : decode cX5_safe 17 = .ok (.iload_n 1, 1) := by decide +kernel
theorem dX5_safe_18 : decode cX5_safe 18 = .ok (.iload_n 2, 1) := by decide +kernel
theorem dX5_safe_19 : decode cX5_safe 19 = .ok (.invokevirtual 145, 3) := by decide +kernel
theorem dX5_safe_22 : decode cX5_safe 22 = .ok (.ifCond .eq 33, 3) := by decide +kernel
theorem dX5_safe_25 : decode cX5_safe 25 = .ok (.iload_n 3, 1) := by decide +kernel
theorem dX5_safe_26 : decode cX5_safe 26 = .ok (.iconst 0, 1) := by decide +kernel
theorem dX5_safe_27 : decode cX5_safe 27 = .ok (.aload_n 0, 1) := by decide +kernel
theorem dX5_safe_28 : decode cX5_safe 28 = .ok (.getfield 119, 3) := by decide +kernel
theorem dX5_safe_31 : decode cX5_safe 31 = .ok (.iconst 1, 1) := by decide +kernel
theorem dX5_safe_32 : decode cX5_safe 32 = .ok (.isub, 1) := by decide +kernel
theorem dX5_safe_33 : decode cX5_safe 33 = .ok (.invokestatic 54, 3) := by decide +kernel
theorem dX5_safe_36 : decode cX5_safe 36 = .ok (.ifCond .eq 19, 3) := by decide +kernel
theorem dX5_safe_39 : decode cX5_safe 39 = .ok (.aload_n 0, 1) := by decide +kernel
theorem dX5_safe_40 : decode cX5_safe 40 = .ok (.aload_n 0, 1) := by decide +kernel
theorem dX5_safe_41 : decode cX5_safe 41 = .ok (.getfield 122, 3) := by decide +kernel
theorem dX5_safe_44 : decode cX5_safe 44 = .ok (.aload_n 0, 1) := by decide +kernel
theorem dX5_safe_45 : decode cX5_safe 45 = .ok (.getfield 119, 3) := by decide +kernel
theorem dX5_safe_48 : decode cX5_safe 48 = .ok (.iload_n 3, 1) := by decide +kernel
theorem dX5_safe_49 : decode cX5_safe 49 = .ok (.invokevirtual 125, 3) := by decide +kernel
theorem dX5_safe_52 : decode cX5_safe 52 = .ok (.goto 5, 3) := by decide +kernel
theorem dX5_safe_55 : decode cX5_safe 55 = .ok (.bipush (-6), 2) := by decide +kernel
theorem dX5_safe_57 : decode cX5_safe 57 = .ok (.ireturn, 1) := by decide +kernel
set_option maxRecDepth 20000 in
theorem ggX5_chance_X5_is6 : GoodIn wsX5_chance wsX5_is6 := goodIn_r _ [8, 9, 10, 7, 11] (by decide +kernel) (by decide +kernel)
set_option maxRecDepth 20000 in
theorem gX5_chance_X5_is6 : GoodIn wsX5_chance (va_wsS RX5 58 yX5_is6 wsX5_is6) := goodIn_app (goodIn_of _ (by decide +kernel)) ggX5_chance_X5_is6
set_option maxRecDepth 20000 in
theorem ggX5_chance_X5_in : GoodIn wsX5_chance wsX5_in := goodIn_r _ [11] (by decide +kernel) (by decide +kernel)
set_option maxRecDepth 20000 in
theorem gX5_chance_X5_in : GoodIn wsX5_chance (va_wsS RX5 54 yX5_in wsX5_in) := goodIn_app (goodIn_of _ (by decide +kernel)) ggX5_chance_X5_in
set_option maxRecDepth 20000 in
theorem ggX5_chance_X5_laySafe : GoodIn wsX5_chance wsX5_laySafe := goodIn_r _ [15, 16, 3, 4, 17, 18, 19, 7, 20, 21, 22, 23, 24, 25, 26, 27, 28, 29, 30, 31, 32, 33, 34, 35, 36, 37, 38, 39, 40, 41, 42, 43, 44, 45, 46, 47, 48, 49, 50, 51, 52] (by decide +kernel) (by decide +kernel)
set_option maxRecDepth 20000 in
theorem gX5_chance_X5_laySafe : GoodIn wsX5_chance (wsV RX5 145 RX5 yX5_laySafe wsX5_laySafe) := goodIn_app (goodIn_of _ (by decide +kernel)) ggX5_chance_X5_laySafe
set_option maxRecDepth 20000 in
theorem ggX5_chance_X5_powerOf : GoodIn wsX5_chance wsX5_powerOf := goodIn_r _ [20] (by decide +kernel) (by decide +kernel)
set_option maxRecDepth 20000 in
theorem gX5_chance_X5_powerOf : GoodIn wsX5_chance (va_wsS RX5 109 yX5_powerOf wsX5_powerOf) := goodIn_app (goodIn_of _ (by decide +kernel)) ggX5_chance_X5_powerOf
theorem dX5_chance_0 : decode cX5_chance 0 = .ok (.iload_n 1, 1) := by decide +kernel
theorem dX5_chance_1 : decode cX5_chance 1 = .ok (.invokestatic 58, 3) := by decide +kernel
theorem dX5_chance_4 : decode cX5_chance 4 = .ok (.ifCond .eq 10, 3) := by decide +kernel
theorem dX5_chance_7 : decode cX5_chance 7 = .ok (.iload_n 2, 1) := by decide +kernel
theorem dX5_chance_8 : decode cX5_chance 8 = .ok (.invokestatic 58, 3) := by decide +kernel
theorem dX5_chance_11 : decode cX5_chance 11 = .ok (.ifCond .ne 7, 3) := by decide +kernel
theorem dX5_chance_14 : decode cX5_chance 14 = .ok (.ldc2_w 148, 3) := by decide +kernel
theorem dX5_chance_17 : decode cX5_chance 17 = .ok (.lreturn, 1) := by decide +kernel
theorem dX5_chance_18 : decode cX5_chance 18 = .ok (.iload_n 3, 1) := by decide +kernel
theorem dX5_chance_19 : decode cX5_chance 19 = .ok (.iconst 0, 1) := by decide +kernel
theorem dX5_chance_20 : decode cX5_chance 20 = .ok (.iconst 1, 1) := by decide +kernel
theorem dX5_chance_21 : decode cX5_chance 21 = .ok (.invokestatic 54, 3) := by decide +kernel
theorem dX5_chance_24 : decode cX5_chance 24 = .ok (.ifCond .ne 7, 3) := by decide +kernel
theorem dX5_chance_27 : decode cX5_chance 27 = .ok (.ldc2_w 150, 3) := by decide +kernel
theorem dX5_chance_30 : decode cX5_chance 30 = .ok (.lreturn, 1) := by decide +kernel
theorem dX5_chance_31 : decode cX5_chance 31 = .ok (.aload_n 0, 1) := by decide +kernel
theorem dX5_chance_32 : decode cX5_chance 32 = .ok (.iload_n 1, 1) := by decide +kernel
theorem dX5_chance_33 : decode cX5_chance 33 = .ok (.iload_n 2, 1) := by decide +kernel
theorem dX5_chance_34 : decode cX5_chance 34 = .ok (.invokevirtual 145, 3) := by decide +kernel
theorem dX5_chance_37 : decode cX5_chance 37 = .ok (.istore 4, 2) := by decide +kernel
theorem dX5_chance_39 : decode cX5_chance 39 = .ok (.iload 4, 2) := by decide +kernel
theorem dX5_chance_41 : decode cX5_chance 41 = .ok (.ifCond .eq 10, 3) := by decide +kernel
theorem dX5_chance_44 : decode cX5_chance 44 = .ok (.aload_n 0, 1) := by decide +kernel
theorem dX5_chance_45 : decode cX5_chance 45 = .ok (.getfield 142, 3) := by decide +kernel
theorem dX5_chance_48 : decode cX5_chance 48 = .ok (.goto 4, 3) := by decide +kernel
theorem dX5_chance_51 : decode cX5_chance 51 = .ok (.iconst 0, 1) := by decide +kernel
theorem dX5_chance_52 : decode cX5_chance 52 = .ok (.istore 5, 2) := by decide +kernel
theorem dX5_chance_54 : decode cX5_chance 54 = .ok (.iload 4, 2) := by decide +kernel
theorem dX5_chance_56 : decode cX5_chance 56 = .ok (.ifCond .eq 15, 3) := by decide +kernel
theorem dX5_chance_59 : decode cX5_chance 59 = .ok (.bipush 10, 2) := by decide +kernel
theorem dX5_chance_61 : decode cX5_chance 61 = .ok (.aload_n 0, 1) := by decide +kernel
theorem dX5_chance_62 : decode cX5_chance 62 = .ok (.getfield 119, 3) := by decide +kernel
theorem dX5_chance_65 : decode cX5_chance 65 = .ok (.invokestatic 109, 3) := by decide +kernel
theorem dX5_chance_68 : decode cX5_chance 68 = .ok (.goto 4, 3) := by decide +kernel
theorem dX5_chance_71 : decode cX5_chance 71 = .ok (.iconst 1, 1) := by decide +kernel
theorem dX5_chance_72 : decode cX5_chance 72 = .ok (.istore 6, 2) := by decide +kernel
theorem dX5_chance_74 : decode cX5_chance 74 = .ok (.iload 5, 2) := by decide +kernel
theorem dX5_chance_76 : decode cX5_chance 76 = .ok (.istore 7, 2) := by decide +kernel
theorem dX5_chance_78 : decode cX5_chance 78 = .ok (.iload 6, 2) := by decide +kernel
theorem dX5_chance_80 : decode cX5_chance 80 = .ok (.istore 8, 2) := by decide +kernel
theorem dX5_chance_82 : decode cX5_chance 82 = .ok (.iload 8, 2) := by decide +kernel
theorem dX5_chance_84 : decode cX5_chance 84 = .ok (.ifCond .eq 21, 3) := by decide +kernel
theorem dX5_chance_87 : decode cX5_chance 87 = .ok (.iload 7, 2) := by decide +kernel
theorem dX5_chance_89 : decode cX5_chance 89 = .ok (.iload 8, 2) := by decide +kernel
theorem dX5_chance_91 : decode cX5_chance 91 = .ok (.irem, 1) := by decide +kernel
theorem dX5_chance_92 : decode cX5_chance 92 = .ok (.istore 9, 2) := by decide +kernel
theorem dX5_chance_94 : decode cX5_chance 94 = .ok (.iload 8, 2) := by decide +kernel
theorem dX5_chance_96 : decode cX5_chance 96 = .ok (.istore 7, 2) := by decide +kernel
theorem dX5_chance_98 : decode cX5_chance 98 = .ok (.iload 9, 2) := by decide +kernel
theorem dX5_chance_100 : decode cX5_chance 100 = .ok (.istore 8, 2) := by decide +kernel
theorem dX5_chance_102 : decode cX5_chance 102 = .ok (.goto (-20), 3) := by decide +kernel
theorem dX5_chance_105 : decode cX5_chance 105 = .ok (.iload_n 3, 1) := by decide +kernel
theorem dX5_chance_106 : decode cX5_chance 106 = .ok (.ifCond .ne 12, 3) := by decide +kernel
theorem dX5_chance_109 : decode cX5_chance 109 = .ok (.iload 5, 2) := by decide +kernel
theorem dX5_chance_111 : decode cX5_chance 111 = .ok (.iload 7, 2) := by decide +kernel
theorem dX5_chance_113 : decode cX5_chance 113 = .ok (.idiv, 1) := by decide +kernel
theorem dX5_chance_114 : decode cX5_chance 114 = .ok (.i2l, 1) := by decide +kernel
theorem dX5_chance_115 : decode cX5_chance 115 = .ok (.goto 9, 3) := by decide +kernel
theorem dX5_chance_118 : decode cX5_chance 118 = .ok (.iload 6, 2) := by decide +kernel
theorem dX5_chance_120 : decode cX5_chance 120 = .ok (.iload 7, 2) := by decide +kernel
theorem dX5_chance_122 : decode cX5_chance 122 = .ok (.idiv, 1) := by decide +kernel
theorem dX5_chance_123 : decode cX5_chance 123 = .ok (.i2l, 1) := by decide +kernel
theorem dX5_chance_124 : decode cX5_chance 124 = .ok (.lreturn, 1) := by decide +kernel
set_option maxRecDepth 20000 in
theorem ggX5_seen_X5_is6 : GoodIn wsX5_seen wsX5_is6 := goodIn_r _ [6, 7, 8, 5, 9] (by decide +kernel) (by decide +kernel)
set_option maxRecDepth 20000 in
theorem gX5_seen_X5_is6 : GoodIn wsX5_seen (va_wsS RX5 58 yX5_is6 wsX5_is6) := goodIn_app (goodIn_of _ (by decide +kernel)) ggX5_seen_X5_is6
set_option maxRecDepth 20000 in
theorem ggX5_seen_X5_in : GoodIn wsX5_seen wsX5_in := goodIn_r _ [9] (by decide +kernel) (by decide +kernel)
set_option maxRecDepth 20000 in
theorem gX5_seen_X5_in : GoodIn wsX5_seen (va_wsS RX5 54 yX5_in wsX5_in) := goodIn_app (goodIn_of _ (by decide +kernel)) ggX5_seen_X5_in
theorem dX5_seen_0 : decode cX5_seen 0 = .ok (.iload_n 1, 1) := by decide +kernel
theorem dX5_seen_1 : decode cX5_seen 1 = .ok (.invokestatic 58, 3) := by decide +kernel
theorem dX5_seen_4 : decode cX5_seen 4 = .ok (.ifCond .ne 5, 3) := by decide +kernel
theorem dX5_seen_7 : decode cX5_seen 7 = .ok (.iconst (-1), 1) := by decide +kernel
theorem dX5_seen_8 : decode cX5_seen 8 = .ok (.ireturn, 1) := by decide +kernel
theorem dX5_seen_9 : decode cX5_seen 9 = .ok (.iload_n 2, 1) := by decide +kernel
theorem dX5_seen_10 : decode cX5_seen 10 = .ok (.iconst 0, 1) := by decide +kernel
theorem dX5_seen_11 : decode cX5_seen 11 = .ok (.bipush 6, 2) := by decide +kernel
theorem dX5_seen_13 : decode cX5_seen 13 = .ok (.invokestatic 54, 3) := by decide +kernel
theorem dX5_seen_16 : decode cX5_seen 16 = .ok (.ifCond .ne 6, 3) := by decide +kernel
theorem dX5_seen_19 : decode cX5_seen 19 = .ok (.bipush (-2), 2) := by decide +kernel
theorem dX5_seen_21 : decode cX5_seen 21 = .ok (.ireturn, 1) := by decide +kernel
theorem dX5_seen_22 : decode cX5_seen 22 = .ok (.aload_n 0, 1) := by decide +kernel
theorem dX5_seen_23 : decode cX5_seen 23 = .ok (.getfield 152, 3) := by decide +kernel
theorem dX5_seen_26 : decode cX5_seen 26 = .ok (.bipush 6, 2) := by decide +kernel
theorem dX5_seen_28 : decode cX5_seen 28 = .ok (.if_icmp .ne 6, 3) := by decide +kernel
theorem dX5_seen_31 : decode cX5_seen 31 = .ok (.bipush (-4), 2) := by decide +kernel
theorem dX5_seen_33 : decode cX5_seen 33 = .ok (.ireturn, 1) := by decide +kernel
theorem dX5_seen_34 : decode cX5_seen 34 = .ok (.aload_n 0, 1) := by decide +kernel
theorem dX5_seen_35 : decode cX5_seen 35 = .ok (.getfield 35, 3) := by decide +kernel
theorem dX5_seen_38 : decode cX5_seen 38 = .ok (.iconst 2, 1) := by decide +kernel
theorem dX5_seen_39 : decode cX5_seen 39 = .ok (.aload_n 0, 1) := by decide +kernel
theorem dX5_seen_40 : decode cX5_seen 40 = .ok (.getfield 152, 3) := by decide +kernel
theorem dX5_seen_43 : decode cX5_seen 43 = .ok (.imul, 1) := by decide +kernel
theorem dX5_seen_44 : decode cX5_seen 44 = .ok (.iload_n 1, 1) := by decide +kernel
theorem dX5_seen_45 : decode cX5_seen 45 = .ok (.iastore, 1) := by decide +kernel
theorem dX5_seen_46 : decode cX5_seen 46 = .ok (.aload_n 0, 1) := by decide +kernel
theorem dX5_seen_47 : decode cX5_seen 47 = .ok (.getfield 35, 3) := by decide +kernel
theorem dX5_seen_50 : decode cX5_seen 50 = .ok (.iconst 2, 1) := by decide +kernel
theorem dX5_seen_51 : decode cX5_seen 51 = .ok (.aload_n 0, 1) := by decide +kernel
theorem dX5_seen_52 : decode cX5_seen 52 = .ok (.getfield 152, 3) := by decide +kernel
theorem dX5_seen_55 : decode cX5_seen 55 = .ok (.imul, 1) := by decide +kernel
theorem dX5_seen_56 : decode cX5_seen 56 = .ok (.iconst 1, 1) := by decide +kernel
theorem dX5_seen_57 : decode cX5_seen 57 = .ok (.iadd, 1) := by decide +kernel
theorem dX5_seen_58 : decode cX5_seen 58 = .ok (.iload_n 2, 1) := by decide +kernel
theorem dX5_seen_59 : decode cX5_seen 59 = .ok (.iastore, 1) := by decide +kernel
theorem dX5_seen_60 : decode cX5_seen 60 = .ok (.aload_n 0, 1) := by decide +kernel
theorem dX5_seen_61 : decode cX5_seen 61 = .ok (.dup, 1) := by decide +kernel
theorem dX5_seen_62 : decode cX5_seen 62 = .ok (.getfield 152, 3) := by decide +kernel
theorem dX5_seen_65 : decode cX5_seen 65 = .ok (.iconst 1, 1) := by decide +kernel
theorem dX5_seen_66 : decode cX5_seen 66 = .ok (.iadd, 1) := by decide +kernel
theorem dX5_seen_67 : decode cX5_seen 67 = .ok (.putfield 152, 3) := by decide +kernel
theorem dX5_seen_70 : decode cX5_seen 70 = .ok (.aload_n 0, 1) := by decide +kernel
theorem dX5_seen_71 : decode cX5_seen 71 = .ok (.getfield 152, 3) := by decide +kernel
theorem dX5_seen_74 : decode cX5_seen 74 = .ok (.ireturn, 1) := by decide +kernel
theorem dX5_forget_0 : decode cX5_forget 0 = .ok (.aload_n 0, 1) := by decide +kernel
theorem dX5_forget_1 : decode cX5_forget 1 = .ok (.getfield 152, 3) := by decide +kernel
theorem dX5_forget_4 : decode cX5_forget 4 = .ok (.istore_n 1, 1) := by decide +kernel
theorem dX5_forget_5 : decode cX5_forget 5 = .ok (.aload_n 0, 1) := by decide +kernel
theorem dX5_forget_6 : decode cX5_forget 6 = .ok (.iconst 0, 1) := by decide +kernel
theorem dX5_forget_7 : decode cX5_forget 7 = .ok (.putfield 152, 3) := by decide +kernel
theorem dX5_forget_10 : decode cX5_forget 10 = .ok (.iload_n 1, 1) := by decide +kernel
theorem dX5_forget_11 : decode cX5_forget 11 = .ok (.ireturn, 1) := by decide +kernel
set_option maxRecDepth 20000 in
theorem ggX5_filled_X5_faultOf : GoodIn wsX5_filled wsX5_faultOf := goodIn_r _ [7, 8, 9, 10, 11, 6, 12, 55, 56, 57, 58, 59, 60, 61, 62, 63, 64, 65, 66, 67, 68, 69, 70, 71, 72, 73, 74, 75, 76] (by decide +kernel) (by decide +kernel)
set_option maxRecDepth 20000 in
theorem gX5_filled_X5_faultOf : GoodIn wsX5_filled (wsV RX5 65 RX5 yX5_faultOf wsX5_faultOf) := goodIn_app (goodIn_of _ (by decide +kernel)) ggX5_filled_X5_faultOf
set_option maxRecDepth 20000 in
theorem ggX5_filled_X5_opens : GoodIn wsX5_filled wsX5_opens := goodIn_r _ [16, 8, 9, 55, 56, 57, 58, 59, 60, 61, 62, 63, 64, 65, 66, 67, 68, 69, 70, 71, 72, 73, 74, 75, 76] (by decide +kernel) (by decide +kernel)
set_option maxRecDepth 20000 in
theorem gX5_filled_X5_opens : GoodIn wsX5_filled (wsV RX5 76 RX5 yX5_opens wsX5_opens) := goodIn_app (goodIn_of _ (by decide +kernel)) ggX5_filled_X5_opens
set_option maxRecDepth 20000 in
theorem ggX5_filled_X5_powerOf : GoodIn wsX5_filled wsX5_powerOf := goodIn_r _ [19] (by decide +kernel) (by decide +kernel)
set_option maxRecDepth 20000 in
theorem gX5_filled_X5_powerOf : GoodIn wsX5_filled (va_wsS RX5 109 yX5_powerOf wsX5_powerOf) := goodIn_app (goodIn_of _ (by decide +kernel)) ggX5_filled_X5_powerOf
set_option maxRecDepth 20000 in
theorem ggX5_filled_X5_goText : GoodIn wsX5_filled wsX5_goText := goodIn_r _ [23, 24, 25, 8, 9, 26, 27, 28, 6, 29, 30, 31, 13, 14, 15, 16, 32, 33, 34, 35, 36, 37, 38, 39, 40, 41, 42, 43, 44, 45, 46, 47, 48, 49, 50, 55, 56, 57, 58, 59, 60, 61, 62, 63, 64, 65, 66, 67, 68, 69, 70, 71, 72, 73, 74, 75, 76] (by decide +kernel) (by decide +kernel)
set_option maxRecDepth 20000 in
theorem gX5_filled_X5_goText : GoodIn wsX5_filled (wsV RX5 97 RX5 yX5_goText wsX5_goText) := goodIn_app (goodIn_of _ (by decide +kernel)) ggX5_filled_X5_goText
set_option maxRecDepth 20000 in
theorem ggX5_filled_X5_bornBy : GoodIn wsX5_filled wsX5_bornBy := goodIn_r _ [54, 30, 55, 56, 57, 58, 59, 60, 61, 62, 63, 64, 65, 66, 67, 68, 69, 70, 71, 72, 73, 74, 75, 76] (by decide +kernel) (by decide +kernel)
set_option maxRecDepth 20000 in
theorem gX5_filled_X5_bornBy : GoodIn wsX5_filled (wsV RX5 101 RX5 yX5_bornBy wsX5_bornBy) := goodIn_app (goodIn_of _ (by decide +kernel)) ggX5_filled_X5_bornBy
set_option maxRecDepth 20000 in
theorem ggX5_filled_X5_in : GoodIn wsX5_filled wsX5_in := goodIn_r _ [12] (by decide +kernel) (by decide +kernel)
set_option maxRecDepth 20000 in
theorem gX5_filled_X5_in : GoodIn wsX5_filled (va_wsS RX5 54 yX5_in wsX5_in) := goodIn_app (goodIn_of _ (by decide +kernel)) ggX5_filled_X5_in
theorem dX5_filled_0 : decode cX5_filled 0 = .ok (.aload_n 0, 1) := by decide +kernel
theorem dX5_filled_1 : decode cX5_filled 1 = .ok (.invokevirtual 65, 3) := by decide +kernel
theorem dX5_filled_4 : decode cX5_filled 4 = .ok (.ifCond .lt 6, 3) := by decide +kernel
theorem dX5_filled_7 : decode cX5_filled 7 = .ok (.bipush (-5), 2) := by decide +kernel
theorem dX5_filled_9 : decode cX5_filled 9 = .ok (.ireturn, 1) := by decide +kernel
theorem dX5_filled_10 : decode cX5_filled 10 = .ok (.bipush 6, 2) := by decide +kernel
theorem dX5_filled_12 : decode cX5_filled 12 = .ok (.aload_n 0, 1) := by decide +kernel
theorem dX5_filled_13 : decode cX5_filled 13 = .ok (.invokevirtual 76, 3) := by decide +kernel
theorem dX5_filled_16 : decode cX5_filled 16 = .ok (.invokestatic 109, 3) := by decide +kernel
theorem dX5_filled_19 : decode cX5_filled 19 = .ok (.istore_n 2, 1) := by decide +kernel
theorem dX5_filled_20 : decode cX5_filled 20 = .ok (.iconst 0, 1) := by decide +kernel
theorem dX5_filled_21 : decode cX5_filled 21 = .ok (.istore_n 3, 1) := by decide +kernel
theorem dX5_filled_22 : decode cX5_filled 22 = .ok (.bipush (-6), 2) := by decide +kernel
theorem dX5_filled_24 : decode cX5_filled 24 = .ok (.istore 4, 2) := by decide +kernel
theorem dX5_filled_26 : decode cX5_filled 26 = .ok (.iconst 0, 1) := by decide +kernel
theorem dX5_filled_27 : decode cX5_filled 27 = .ok (.istore 5, 2) := by decide +kernel
theorem dX5_filled_29 : decode cX5_filled 29 = .ok (.iload 5, 2) := by decide +kernel
theorem dX5_filled_31 : decode cX5_filled 31 = .ok (.iload_n 2, 1) := by decide +kernel
theorem dX5_filled_32 : decode cX5_filled 32 = .ok (.if_icmp .ge 106, 3) := by decide +kernel
theorem dX5_filled_35 : decode cX5_filled 35 = .ok (.aload_n 0, 1) := by decide +kernel
theorem dX5_filled_36 : decode cX5_filled 36 = .ok (.iload 5, 2) := by decide +kernel
theorem dX5_filled_38 : decode cX5_filled 38 = .ok (.bipush (-6), 2) := by decide +kernel
theorem dX5_filled_40 : decode cX5_filled 40 = .ok (.invokevirtual 97, 3) := by decide +kernel
theorem dX5_filled_43 : decode cX5_filled 43 = .ok (.ifCond .ne 7, 3) := by decide +kernel
theorem dX5_filled_46 : decode cX5_filled 46 = .ok (.iconst 1, 1) := by decide +kernel
theorem dX5_filled_47 : decode cX5_filled 47 = .ok (.goto 4, 3) := by decide +kernel
theorem dX5_filled_50 : decode cX5_filled 50 = .ok (.iconst 0, 1) := by decide +kernel
theorem dX5_filled_51 : decode cX5_filled 51 = .ok (.istore 6, 2) := by decide +kernel
theorem dX5_filled_53 : decode cX5_filled 53 = .ok (.iconst 0, 1) := by decide +kernel
theorem dX5_filled_54 : decode cX5_filled 54 = .ok (.istore 7, 2) := by decide +kernel
theorem dX5_filled_56 : decode cX5_filled 56 = .ok (.iload 7, 2) := by decide +kernel
theorem dX5_filled_58 : decode cX5_filled 58 = .ok (.aload_n 0, 1) := by decide +kernel
theorem dX5_filled_59 : decode cX5_filled 59 = .ok (.getfield 152, 3) := by decide +kernel
theorem dX5_filled_62 : decode cX5_filled 62 = .ok (.if_icmp .ge 48, 3) := by decide +kernel
theorem dX5_filled_65 : decode cX5_filled 65 = .ok (.iload 6, 2) := by decide +kernel
theorem dX5_filled_67 : decode cX5_filled 67 = .ok (.ifCond .eq 43, 3) := by decide +kernel
theorem dX5_filled_70 : decode cX5_filled 70 = .ok (.aload_n 0, 1) := by decide +kernel
theorem dX5_filled_71 : decode cX5_filled 71 = .ok (.aload_n 0, 1) := by decide +kernel
theorem dX5_filled_72 : decode cX5_filled 72 = .ok (.getfield 35, 3) := by decide +kernel
theorem dX5_filled_75 : decode cX5_filled 75 = .ok (.iconst 2, 1) := by decide +kernel
theorem dX5_filled_76 : decode cX5_filled 76 = .ok (.iload 7, 2) := by decide +kernel
theorem dX5_filled_78 : decode cX5_filled 78 = .ok (.imul, 1) := by decide +kernel
theorem dX5_filled_79 : decode cX5_filled 79 = .ok (.iaload, 1) := by decide +kernel
theorem dX5_filled_80 : decode cX5_filled 80 = .ok (.invokevirtual 101, 3) := by decide +kernel
theorem dX5_filled_83 : decode cX5_filled 83 = .ok (.aload_n 0, 1) := by decide +kernel
theorem dX5_filled_84 : decode cX5_filled 84 = .ok (.getfield 35, 3) := by decide +kernel
theorem dX5_filled_87 : decode cX5_filled 87 = .ok (.iconst 2, 1) := by decide +kernel
theorem dX5_filled_88 : decode cX5_filled 88 = .ok (.iload 7, 2) := by decide +kernel
theorem dX5_filled_90 : decode cX5_filled 90 = .ok (.imul, 1) := by decide +kernel
theorem dX5_filled_91 : decode cX5_filled 91 = .ok (.iconst 1, 1) := by decide +kernel
theorem dX5_filled_92 : decode cX5_filled 92 = .ok (.iadd, 1) := by decide +kernel
theorem dX5_filled_93 : decode cX5_filled 93 = .ok (.iaload, 1) := by decide +kernel
theorem dX5_filled_94 : decode cX5_filled 94 = .ok (.if_icmp .ne 7, 3) := by decide +kernel
theorem dX5_filled_97 : decode cX5_filled 97 = .ok (.iconst 1, 1) := by decide +kernel
theorem dX5_filled_98 : decode cX5_filled 98 = .ok (.goto 4, 3) := by decide +kernel
theorem dX5_filled_101 : decode cX5_filled 101 = .ok (.iconst 0, 1) := by decide +kernel
theorem dX5_filled_102 : decode cX5_filled 102 = .ok (.istore 6, 2) := by decide +kernel
theorem dX5_filled_104 : decode cX5_filled 104 = .ok (.iinc 7 1, 3) := by decide +kernel
theorem dX5_filled_107 : decode cX5_filled 107 = .ok (.goto (-51), 3) := by decide +kernel
theorem dX5_filled_110 : decode cX5_filled 110 = .ok (.iload 6, 2) := by decide +kernel
theorem dX5_filled_112 : decode cX5_filled 112 = .ok (.ifCond .eq 20, 3) := by decide +kernel
theorem dX5_filled_115 : decode cX5_filled 115 = .ok (.iload 4, 2) := by decide +kernel
theorem dX5_filled_117 : decode cX5_filled 117 = .ok (.ifCond .ge 8, 3) := by decide +kernel
theorem dX5_filled_120 : decode cX5_filled 120 = .ok (.iload 5, 2) := by decide +kernel
theorem dX5_filled_122 : decode cX5_filled 122 = .ok (.goto 5, 3) := by decide +kernel
theorem dX5_filled_125 : decode cX5_filled 125 = .ok (.iload 4, 2) := by decide +kernel
theorem dX5_filled_127 : decode cX5_filled 127 = .ok (.istore 4, 2) := by decide +kernel
theorem dX5_filled_129 : decode cX5_filled 129 = .ok (.iinc 3 1, 3) := by decide +kernel
theorem dX5_filled_132 : decode cX5_filled 132 = .ok (.iinc 5 1, 3) := by decide +kernel
theorem dX5_filled_135 : decode cX5_filled 135 = .ok (.goto (-106), 3) := by decide +kernel
theorem dX5_filled_138 : decode cX5_filled 138 = .ok (.iload_n 1, 1) := by decide +kernel
theorem dX5_filled_139 : decode cX5_filled 139 = .ok (.iconst (-1), 1) := by decide +kernel
theorem dX5_filled_140 : decode cX5_filled 140 = .ok (.if_icmp .ne 5, 3) := by decide +kernel
theorem dX5_filled_143 : decode cX5_filled 143 = .ok (.iload_n 3, 1) := by decide +kernel
theorem dX5_filled_144 : decode cX5_filled 144 = .ok (.ireturn, 1) := by decide +kernel
theorem dX5_filled_145 : decode cX5_filled 145 = .ok (.iload 4, 2) := by decide +kernel
theorem dX5_filled_147 : decode cX5_filled 147 = .ok (.ifCond .lt 39, 3) := by decide +kernel
theorem dX5_filled_150 : decode cX5_filled 150 = .ok (.iload_n 1, 1) := by decide +kernel
theorem dX5_filled_151 : decode cX5_filled 151 = .ok (.iconst 0, 1) := by decide +kernel
theorem dX5_filled_152 : decode cX5_filled 152 = .ok (.aload_n 0, 1) := by decide +kernel
theorem dX5_filled_153 : decode cX5_filled 153 = .ok (.invokevirtual 76, 3) := by decide +kernel
theorem dX5_filled_156 : decode cX5_filled 156 = .ok (.iconst 1, 1) := by decide +kernel
theorem dX5_filled_157 : decode cX5_filled 157 = .ok (.isub, 1) := by decide +kernel
theorem dX5_filled_158 : decode cX5_filled 158 = .ok (.invokestatic 54, 3) := by decide +kernel
theorem dX5_filled_161 : decode cX5_filled 161 = .ok (.ifCond .eq 25, 3) := by decide +kernel
theorem dX5_filled_164 : decode cX5_filled 164 = .ok (.iload 4, 2) := by decide +kernel
theorem dX5_filled_166 : decode cX5_filled 166 = .ok (.bipush 6, 2) := by decide +kernel
theorem dX5_filled_168 : decode cX5_filled 168 = .ok (.aload_n 0, 1) := by decide +kernel
theorem dX5_filled_169 : decode cX5_filled 169 = .ok (.invokevirtual 76, 3) := by decide +kernel
theorem dX5_filled_172 : decode cX5_filled 172 = .ok (.iconst 1, 1) := by decide +kernel
theorem dX5_filled_173 : decode cX5_filled 173 = .ok (.isub, 1) := by decide +kernel
theorem dX5_filled_174 : decode cX5_filled 174 = .ok (.iload_n 1, 1) := by decide +kernel
theorem dX5_filled_175 : decode cX5_filled 175 = .ok (.isub, 1) := by decide +kernel
theorem dX5_filled_176 : decode cX5_filled 176 = .ok (.invokestatic 109, 3) := by decide +kernel
theorem dX5_filled_179 : decode cX5_filled 179 = .ok (.idiv, 1) := by decide +kernel
theorem dX5_filled_180 : decode cX5_filled 180 = .ok (.bipush 6, 2) := by decide +kernel
theorem dX5_filled_182 : decode cX5_filled 182 = .ok (.irem, 1) := by decide +kernel
theorem dX5_filled_183 : decode cX5_filled 183 = .ok (.goto 5, 3) := by decide +kernel
theorem dX5_filled_186 : decode cX5_filled 186 = .ok (.bipush (-6), 2) := by decide +kernel
theorem dX5_filled_188 : decode cX5_filled 188 = .ok (.ireturn, 1) := by decide +kernel
set_option maxRecDepth 20000 in
theorem ggX5_year_X5_in : GoodIn wsX5_year wsX5_in := goodIn_r _ [5] (by decide +kernel) (by decide +kernel)
set_option maxRecDepth 20000 in
theorem gX5_year_X5_in : GoodIn wsX5_year (va_wsS RX5 54 yX5_in wsX5_in) := goodIn_app (goodIn_of _ (by decide +kernel)) ggX5_year_X5_in
set_option maxRecDepth 20000 in
theorem ggX5_year_X5_asNow : GoodIn wsX5_year wsX5_asNow := goodIn_r _ [9, 10, 11, 31, 32, 33, 34, 35, 36, 37, 38, 39, 40, 41, 42, 43, 44, 45, 46, 47, 48, 49, 50, 51, 52] (by decide +kernel) (by decide +kernel)
set_option maxRecDepth 20000 in
theorem gX5_year_X5_asNow : GoodIn wsX5_year (wsV RX5 73 RX5 yX5_asNow wsX5_asNow) := goodIn_app (goodIn_of _ (by decide +kernel)) ggX5_year_X5_asNow
set_option maxRecDepth 20000 in
theorem ggX5_year_X5_tells : GoodIn wsX5_year wsX5_tells := goodIn_r _ [15, 16, 10, 17, 18, 19, 20, 21, 4, 22, 31, 32, 33, 34, 35, 36, 37, 38, 39, 40, 41, 42, 43, 44, 45, 46, 47, 48, 49, 50, 51, 52] (by decide +kernel) (by decide +kernel)
set_option maxRecDepth 20000 in
theorem gX5_year_X5_tells : GoodIn wsX5_year (wsV RX5 91 RX5 yX5_tells wsX5_tells) := goodIn_app (goodIn_of _ (by decide +kernel)) ggX5_year_X5_tells
set_option maxRecDepth 20000 in
theorem ggX5_year_X5_pass : GoodIn wsX5_year wsX5_pass := goodIn_r _ [26, 10, 31, 32, 33, 34, 35, 36, 37, 38, 39, 40, 41, 42, 43, 44, 45, 46, 47, 48, 49, 50, 51, 52] (by decide +kernel) (by decide +kernel)
set_option maxRecDepth 20000 in
theorem gX5_year_X5_pass : GoodIn wsX5_year (wsV RX5 85 RX5 yX5_pass wsX5_pass) := goodIn_app (goodIn_of _ (by decide +kernel)) ggX5_year_X5_pass
set_option maxRecDepth 20000 in
theorem ggX5_year_X5_bornBy : GoodIn wsX5_year wsX5_bornBy := goodIn_r _ [30, 10, 31, 32, 33, 34, 35, 36, 37, 38, 39, 40, 41, 42, 43, 44, 45, 46, 47, 48, 49, 50, 51, 52] (by decide +kernel) (by decide +kernel)
set_option maxRecDepth 20000 in
theorem gX5_year_X5_bornBy : GoodIn wsX5_year (wsV RX5 101 RX5 yX5_bornBy wsX5_bornBy) := goodIn_app (goodIn_of _ (by decide +kernel)) ggX5_year_X5_bornBy
theorem dX5_year_0 : decode cX5_year 0 = .ok (.iload_n 3, 1) := by decide +kernel
theorem dX5_year_1 : decode cX5_year 1 = .ok (.iconst (-1), 1) := by decide +kernel
theorem dX5_year_2 : decode cX5_year 2 = .ok (.iconst 5, 1) := by decide +kernel
theorem dX5_year_3 : decode cX5_year 3 = .ok (.invokestatic 54, 3) := by decide +kernel
theorem dX5_year_6 : decode cX5_year 6 = .ok (.ifCond .ne 5, 3) := by decide +kernel
theorem dX5_year_9 : decode cX5_year 9 = .ok (.iconst (-1), 1) := by decide +kernel
theorem dX5_year_10 : decode cX5_year 10 = .ok (.ireturn, 1) := by decide +kernel
theorem dX5_year_11 : decode cX5_year 11 = .ok (.iload_n 1, 1) := by decide +kernel
theorem dX5_year_12 : decode cX5_year 12 = .ok (.iconst 0, 1) := by decide +kernel
theorem dX5_year_13 : decode cX5_year 13 = .ok (.sipush 9999, 3) := by decide +kernel
theorem dX5_year_16 : decode cX5_year 16 = .ok (.invokestatic 54, 3) := by decide +kernel
theorem dX5_year_19 : decode cX5_year 19 = .ok (.ifCond .eq 13, 3) := by decide +kernel
theorem dX5_year_22 : decode cX5_year 22 = .ok (.iload_n 2, 1) := by decide +kernel
theorem dX5_year_23 : decode cX5_year 23 = .ok (.iconst 1, 1) := by decide +kernel
theorem dX5_year_24 : decode cX5_year 24 = .ok (.bipush 99, 2) := by decide +kernel
theorem dX5_year_26 : decode cX5_year 26 = .ok (.invokestatic 54, 3) := by decide +kernel
theorem dX5_year_29 : decode cX5_year 29 = .ok (.ifCond .ne 6, 3) := by decide +kernel
theorem dX5_year_32 : decode cX5_year 32 = .ok (.bipush (-2), 2) := by decide +kernel
theorem dX5_year_34 : decode cX5_year 34 = .ok (.ireturn, 1) := by decide +kernel
theorem dX5_year_35 : decode cX5_year 35 = .ok (.aload_n 0, 1) := by decide +kernel
theorem dX5_year_36 : decode cX5_year 36 = .ok (.invokevirtual 73, 3) := by decide +kernel
theorem dX5_year_39 : decode cX5_year 39 = .ok (.iload_n 1, 1) := by decide +kernel
theorem dX5_year_40 : decode cX5_year 40 = .ok (.istore 4, 2) := by decide +kernel
theorem dX5_year_42 : decode cX5_year 42 = .ok (.iconst 0, 1) := by decide +kernel
theorem dX5_year_43 : decode cX5_year 43 = .ok (.istore 5, 2) := by decide +kernel
theorem dX5_year_45 : decode cX5_year 45 = .ok (.iconst 1, 1) := by decide +kernel
theorem dX5_year_46 : decode cX5_year 46 = .ok (.istore 6, 2) := by decide +kernel
theorem dX5_year_48 : decode cX5_year 48 = .ok (.iload 6, 2) := by decide +kernel
theorem dX5_year_50 : decode cX5_year 50 = .ok (.iload_n 2, 1) := by decide +kernel
theorem dX5_year_51 : decode cX5_year 51 = .ok (.if_icmp .gt 72, 3) := by decide +kernel
theorem dX5_year_54 : decode cX5_year 54 = .ok (.bipush 75, 2) := by decide +kernel
theorem dX5_year_56 : decode cX5_year 56 = .ok (.iload 4, 2) := by decide +kernel
theorem dX5_year_58 : decode cX5_year 58 = .ok (.imul, 1) := by decide +kernel
theorem dX5_year_59 : decode cX5_year 59 = .ok (.bipush 74, 2) := by decide +kernel
theorem dX5_year_61 : decode cX5_year 61 = .ok (.iadd, 1) := by decide +kernel
theorem dX5_year_62 : decode cX5_year 62 = .ok (.ldc 155, 2) := by decide +kernel
theorem dX5_year_64 : decode cX5_year 64 = .ok (.irem, 1) := by decide +kernel
theorem dX5_year_65 : decode cX5_year 65 = .ok (.istore 4, 2) := by decide +kernel
theorem dX5_year_67 : decode cX5_year 67 = .ok (.iload 5, 2) := by decide +kernel
theorem dX5_year_69 : decode cX5_year 69 = .ok (.aload_n 0, 1) := by decide +kernel
theorem dX5_year_70 : decode cX5_year 70 = .ok (.iload 4, 2) := by decide +kernel
theorem dX5_year_72 : decode cX5_year 72 = .ok (.bipush 6, 2) := by decide +kernel
theorem dX5_year_74 : decode cX5_year 74 = .ok (.irem, 1) := by decide +kernel
theorem dX5_year_75 : decode cX5_year 75 = .ok (.iload 4, 2) := by decide +kernel
theorem dX5_year_77 : decode cX5_year 77 = .ok (.bipush 6, 2) := by decide +kernel
theorem dX5_year_79 : decode cX5_year 79 = .ok (.idiv, 1) := by decide +kernel
theorem dX5_year_80 : decode cX5_year 80 = .ok (.bipush 6, 2) := by decide +kernel
theorem dX5_year_82 : decode cX5_year 82 = .ok (.irem, 1) := by decide +kernel
theorem dX5_year_83 : decode cX5_year 83 = .ok (.iload 4, 2) := by decide +kernel
theorem dX5_year_85 : decode cX5_year 85 = .ok (.bipush 36, 2) := by decide +kernel
theorem dX5_year_87 : decode cX5_year 87 = .ok (.idiv, 1) := by decide +kernel
theorem dX5_year_88 : decode cX5_year 88 = .ok (.bipush 6, 2) := by decide +kernel
theorem dX5_year_90 : decode cX5_year 90 = .ok (.irem, 1) := by decide +kernel
theorem dX5_year_91 : decode cX5_year 91 = .ok (.invokevirtual 91, 3) := by decide +kernel
theorem dX5_year_94 : decode cX5_year 94 = .ok (.ifCond .eq 7, 3) := by decide +kernel
theorem dX5_year_97 : decode cX5_year 97 = .ok (.iconst 1, 1) := by decide +kernel
theorem dX5_year_98 : decode cX5_year 98 = .ok (.goto 4, 3) := by decide +kernel
theorem dX5_year_101 : decode cX5_year 101 = .ok (.iconst 0, 1) := by decide +kernel
theorem dX5_year_102 : decode cX5_year 102 = .ok (.iadd, 1) := by decide +kernel
theorem dX5_year_103 : decode cX5_year 103 = .ok (.istore 5, 2) := by decide +kernel
theorem dX5_year_105 : decode cX5_year 105 = .ok (.iload 6, 2) := by decide +kernel
theorem dX5_year_107 : decode cX5_year 107 = .ok (.bipush 10, 2) := by decide +kernel
theorem dX5_year_109 : decode cX5_year 109 = .ok (.irem, 1) := by decide +kernel
theorem dX5_year_110 : decode cX5_year 110 = .ok (.ifCond .ne 7, 3) := by decide +kernel
theorem dX5_year_113 : decode cX5_year 113 = .ok (.aload_n 0, 1) := by decide +kernel
theorem dX5_year_114 : decode cX5_year 114 = .ok (.invokevirtual 85, 3) := by decide +kernel
theorem dX5_year_117 : decode cX5_year 117 = .ok (.iinc 6 1, 3) := by decide +kernel
theorem dX5_year_120 : decode cX5_year 120 = .ok (.goto (-72), 3) := by decide +kernel
theorem dX5_year_123 : decode cX5_year 123 = .ok (.iload_n 3, 1) := by decide +kernel
theorem dX5_year_124 : decode cX5_year 124 = .ok (.ifCond .ge 8, 3) := by decide +kernel
theorem dX5_year_127 : decode cX5_year 127 = .ok (.iload 5, 2) := by decide +kernel
theorem dX5_year_129 : decode cX5_year 129 = .ok (.goto 8, 3) := by decide +kernel
theorem dX5_year_132 : decode cX5_year 132 = .ok (.aload_n 0, 1) := by decide +kernel
theorem dX5_year_133 : decode cX5_year 133 = .ok (.iload_n 3, 1) := by decide +kernel
theorem dX5_year_134 : decode cX5_year 134 = .ok (.invokevirtual 101, 3) := by decide +kernel
theorem dX5_year_137 : decode cX5_year 137 = .ok (.ireturn, 1) := by decide +kernel
set_option maxRecDepth 20000 in
theorem ggX5_image_X5_in : GoodIn wsX5_image wsX5_in := goodIn_r _ [16] (by decide +kernel) (by decide +kernel)
set_option maxRecDepth 20000 in
theorem gX5_image_X5_in : GoodIn wsX5_image (va_wsS RX5 54 yX5_in wsX5_in) := goodIn_app (goodIn_of _ (by decide +kernel)) ggX5_image_X5_in
theorem dX5_image_0 : decode cX5_image 0 = .ok (.iload_n 1, 1) := by decide +kernel
theorem dX5_image_1 : decode cX5_image 1 = .ok (.iconst 0, 1) := by decide +kernel
theorem dX5_image_2 : decode cX5_image 2 = .ok (.iconst 1, 1) := by decide +kernel
theorem dX5_image_3 : decode cX5_image 3 = .ok (.invokestatic 54, 3) := by decide +kernel
theorem dX5_image_6 : decode cX5_image 6 = .ok (.ifCond .ne 6, 3) := by decide +kernel
theorem dX5_image_9 : decode cX5_image 9 = .ok (.bipush (-2), 2) := by decide +kernel
theorem dX5_image_11 : decode cX5_image 11 = .ok (.ireturn, 1) := by decide +kernel
theorem dX5_image_12 : decode cX5_image 12 = .ok (.bipush 100, 2) := by decide +kernel
theorem dX5_image_14 : decode cX5_image 14 = .ok (.iload_n 1, 1) := by decide +kernel
theorem dX5_image_15 : decode cX5_image 15 = .ok (.imul, 1) := by decide +kernel
theorem dX5_image_16 : decode cX5_image 16 = .ok (.istore_n 2, 1) := by decide +kernel
theorem dX5_image_17 : decode cX5_image 17 = .ok (.iconst 0, 1) := by decide +kernel
theorem dX5_image_18 : decode cX5_image 18 = .ok (.istore_n 3, 1) := by decide +kernel
theorem dX5_image_19 : decode cX5_image 19 = .ok (.iload_n 3, 1) := by decide +kernel
theorem dX5_image_20 : decode cX5_image 20 = .ok (.bipush 36, 2) := by decide +kernel
theorem dX5_image_22 : decode cX5_image 22 = .ok (.if_icmp .ge 23, 3) := by decide +kernel
theorem dX5_image_25 : decode cX5_image 25 = .ok (.aload_n 0, 1) := by decide +kernel
theorem dX5_image_26 : decode cX5_image 26 = .ok (.getfield 47, 3) := by decide +kernel
theorem dX5_image_29 : decode cX5_image 29 = .ok (.iload_n 2, 1) := by decide +kernel
theorem dX5_image_30 : decode cX5_image 30 = .ok (.iload_n 3, 1) := by decide +kernel
theorem dX5_image_31 : decode cX5_image 31 = .ok (.iadd, 1) := by decide +kernel
theorem dX5_image_32 : decode cX5_image 32 = .ok (.aload_n 0, 1) := by decide +kernel
theorem dX5_image_33 : decode cX5_image 33 = .ok (.getfield 25, 3) := by decide +kernel
theorem dX5_image_36 : decode cX5_image 36 = .ok (.iload_n 3, 1) := by decide +kernel
theorem dX5_image_37 : decode cX5_image 37 = .ok (.iaload, 1) := by decide +kernel
theorem dX5_image_38 : decode cX5_image 38 = .ok (.iastore, 1) := by decide +kernel
theorem dX5_image_39 : decode cX5_image 39 = .ok (.iinc 3 1, 3) := by decide +kernel
theorem dX5_image_42 : decode cX5_image 42 = .ok (.goto (-23), 3) := by decide +kernel
theorem dX5_image_45 : decode cX5_image 45 = .ok (.iconst 0, 1) := by decide +kernel
theorem dX5_image_46 : decode cX5_image 46 = .ok (.istore_n 3, 1) := by decide +kernel
theorem dX5_image_47 : decode cX5_image 47 = .ok (.iload_n 3, 1) := by decide +kernel
theorem dX5_image_48 : decode cX5_image 48 = .ok (.bipush 6, 2) := by decide +kernel
theorem dX5_image_50 : decode cX5_image 50 = .ok (.if_icmp .ge 111, 3) := by decide +kernel
theorem dX5_image_53 : decode cX5_image 53 = .ok (.aload_n 0, 1) := by decide +kernel
theorem dX5_image_54 : decode cX5_image 54 = .ok (.getfield 47, 3) := by decide +kernel
theorem dX5_image_57 : decode cX5_image 57 = .ok (.iload_n 2, 1) := by decide +kernel
theorem dX5_image_58 : decode cX5_image 58 = .ok (.bipush 36, 2) := by decide +kernel
theorem dX5_image_60 : decode cX5_image 60 = .ok (.iadd, 1) := by decide +kernel
theorem dX5_image_61 : decode cX5_image 61 = .ok (.iload_n 3, 1) := by decide +kernel
theorem dX5_image_62 : decode cX5_image 62 = .ok (.iadd, 1) := by decide +kernel
theorem dX5_image_63 : decode cX5_image 63 = .ok (.aload_n 0, 1) := by decide +kernel
theorem dX5_image_64 : decode cX5_image 64 = .ok (.getfield 7, 3) := by decide +kernel
theorem dX5_image_67 : decode cX5_image 67 = .ok (.iload_n 3, 1) := by decide +kernel
theorem dX5_image_68 : decode cX5_image 68 = .ok (.iaload, 1) := by decide +kernel
theorem dX5_image_69 : decode cX5_image 69 = .ok (.iastore, 1) := by decide +kernel
theorem dX5_image_70 : decode cX5_image 70 = .ok (.aload_n 0, 1) := by decide +kernel
theorem dX5_image_71 : decode cX5_image 71 = .ok (.getfield 47, 3) := by decide +kernel
theorem dX5_image_74 : decode cX5_image 74 = .ok (.iload_n 2, 1) := by decide +kernel
theorem dX5_image_75 : decode cX5_image 75 = .ok (.bipush 42, 2) := by decide +kernel
theorem dX5_image_77 : decode cX5_image 77 = .ok (.iadd, 1) := by decide +kernel
theorem dX5_image_78 : decode cX5_image 78 = .ok (.iload_n 3, 1) := by decide +kernel
theorem dX5_image_79 : decode cX5_image 79 = .ok (.iadd, 1) := by decide +kernel
theorem dX5_image_80 : decode cX5_image 80 = .ok (.aload_n 0, 1) := by decide +kernel
theorem dX5_image_81 : decode cX5_image 81 = .ok (.getfield 13, 3) := by decide +kernel
theorem dX5_image_84 : decode cX5_image 84 = .ok (.iload_n 3, 1) := by decide +kernel
theorem dX5_image_85 : decode cX5_image 85 = .ok (.iaload, 1) := by decide +kernel
theorem dX5_image_86 : decode cX5_image 86 = .ok (.iastore, 1) := by decide +kernel
theorem dX5_image_87 : decode cX5_image 87 = .ok (.aload_n 0, 1) := by decide +kernel
theorem dX5_image_88 : decode cX5_image 88 = .ok (.getfield 47, 3) := by decide +kernel
theorem dX5_image_91 : decode cX5_image 91 = .ok (.iload_n 2, 1) := by decide +kernel
theorem dX5_image_92 : decode cX5_image 92 = .ok (.bipush 48, 2) := by decide +kernel
theorem dX5_image_94 : decode cX5_image 94 = .ok (.iadd, 1) := by decide +kernel
theorem dX5_image_95 : decode cX5_image 95 = .ok (.iload_n 3, 1) := by decide +kernel
theorem dX5_image_96 : decode cX5_image 96 = .ok (.iadd, 1) := by decide +kernel
theorem dX5_image_97 : decode cX5_image 97 = .ok (.aload_n 0, 1) := by decide +kernel
theorem dX5_image_98 : decode cX5_image 98 = .ok (.getfield 16, 3) := by decide +kernel
theorem dX5_image_101 : decode cX5_image 101 = .ok (.iload_n 3, 1) := by decide +kernel
theorem dX5_image_102 : decode cX5_image 102 = .ok (.iaload, 1) := by decide +kernel
theorem dX5_image_103 : decode cX5_image 103 = .ok (.iastore, 1) := by decide +kernel
theorem dX5_image_104 : decode cX5_image 104 = .ok (.aload_n 0, 1) := by decide +kernel
theorem dX5_image_105 : decode cX5_image 105 = .ok (.getfield 47, 3) := by decide +kernel
theorem dX5_image_108 : decode cX5_image 108 = .ok (.iload_n 2, 1) := by decide +kernel
theorem dX5_image_109 : decode cX5_image 109 = .ok (.bipush 54, 2) := by decide +kernel
theorem dX5_image_111 : decode cX5_image 111 = .ok (.iadd, 1) := by decide +kernel
theorem dX5_image_112 : decode cX5_image 112 = .ok (.iload_n 3, 1) := by decide +kernel
theorem dX5_image_113 : decode cX5_image 113 = .ok (.iadd, 1) := by decide +kernel
theorem dX5_image_114 : decode cX5_image 114 = .ok (.aload_n 0, 1) := by decide +kernel
theorem dX5_image_115 : decode cX5_image 115 = .ok (.getfield 19, 3) := by decide +kernel
theorem dX5_image_118 : decode cX5_image 118 = .ok (.iload_n 3, 1) := by decide +kernel
theorem dX5_image_119 : decode cX5_image 119 = .ok (.iaload, 1) := by decide +kernel
theorem dX5_image_120 : decode cX5_image 120 = .ok (.iastore, 1) := by decide +kernel
theorem dX5_image_121 : decode cX5_image 121 = .ok (.aload_n 0, 1) := by decide +kernel
theorem dX5_image_122 : decode cX5_image 122 = .ok (.getfield 47, 3) := by decide +kernel
theorem dX5_image_125 : decode cX5_image 125 = .ok (.iload_n 2, 1) := by decide +kernel
theorem dX5_image_126 : decode cX5_image 126 = .ok (.bipush 60, 2) := by decide +kernel
theorem dX5_image_128 : decode cX5_image 128 = .ok (.iadd, 1) := by decide +kernel
theorem dX5_image_129 : decode cX5_image 129 = .ok (.iload_n 3, 1) := by decide +kernel
theorem dX5_image_130 : decode cX5_image 130 = .ok (.iadd, 1) := by decide +kernel
theorem dX5_image_131 : decode cX5_image 131 = .ok (.aload_n 0, 1) := by decide +kernel
theorem dX5_image_132 : decode cX5_image 132 = .ok (.getfield 22, 3) := by decide +kernel
theorem dX5_image_135 : decode cX5_image 135 = .ok (.iload_n 3, 1) := by decide +kernel
theorem dX5_image_136 : decode cX5_image 136 = .ok (.iaload, 1) := by decide +kernel
theorem dX5_image_137 : decode cX5_image 137 = .ok (.iastore, 1) := by decide +kernel
theorem dX5_image_138 : decode cX5_image 138 = .ok (.aload_n 0, 1) := by decide +kernel
theorem dX5_image_139 : decode cX5_image 139 = .ok (.getfield 47, 3) := by decide +kernel
theorem dX5_image_142 : decode cX5_image 142 = .ok (.iload_n 2, 1) := by decide +kernel
theorem dX5_image_143 : decode cX5_image 143 = .ok (.bipush 66, 2) := by decide +kernel
theorem dX5_image_145 : decode cX5_image 145 = .ok (.iadd, 1) := by decide +kernel
theorem dX5_image_146 : decode cX5_image 146 = .ok (.iload_n 3, 1) := by decide +kernel
theorem dX5_image_147 : decode cX5_image 147 = .ok (.iadd, 1) := by decide +kernel
theorem dX5_image_148 : decode cX5_image 148 = .ok (.aload_n 0, 1) := by decide +kernel
theorem dX5_image_149 : decode cX5_image 149 = .ok (.getfield 28, 3) := by decide +kernel
theorem dX5_image_152 : decode cX5_image 152 = .ok (.iload_n 3, 1) := by decide +kernel
theorem dX5_image_153 : decode cX5_image 153 = .ok (.iaload, 1) := by decide +kernel
theorem dX5_image_154 : decode cX5_image 154 = .ok (.iastore, 1) := by decide +kernel
theorem dX5_image_155 : decode cX5_image 155 = .ok (.iinc 3 1, 3) := by decide +kernel
theorem dX5_image_158 : decode cX5_image 158 = .ok (.goto (-111), 3) := by decide +kernel
theorem dX5_image_161 : decode cX5_image 161 = .ok (.iconst 0, 1) := by decide +kernel
theorem dX5_image_162 : decode cX5_image 162 = .ok (.istore_n 3, 1) := by decide +kernel
theorem dX5_image_163 : decode cX5_image 163 = .ok (.iload_n 3, 1) := by decide +kernel
theorem dX5_image_164 : decode cX5_image 164 = .ok (.bipush 12, 2) := by decide +kernel
theorem dX5_image_166 : decode cX5_image 166 = .ok (.if_icmp .ge 26, 3) := by decide +kernel
theorem dX5_image_169 : decode cX5_image 169 = .ok (.aload_n 0, 1) := by decide +kernel
theorem dX5_image_170 : decode cX5_image 170 = .ok (.getfield 47, 3) := by decide +kernel
theorem dX5_image_173 : decode cX5_image 173 = .ok (.iload_n 2, 1) := by decide +kernel
theorem dX5_image_174 : decode cX5_image 174 = .ok (.bipush 72, 2) := by decide +kernel
theorem dX5_image_176 : decode cX5_image 176 = .ok (.iadd, 1) := by decide +kernel
theorem dX5_image_177 : decode cX5_image 177 = .ok (.iload_n 3, 1) := by decide +kernel
theorem dX5_image_178 : decode cX5_image 178 = .ok (.iadd, 1) := by decide +kernel
theorem dX5_image_179 : decode cX5_image 179 = .ok (.aload_n 0, 1) := by decide +kernel
theorem dX5_image_180 : decode cX5_image 180 = .ok (.getfield 35, 3) := by decide +kernel
theorem dX5_image_183 : decode cX5_image 183 = .ok (.iload_n 3, 1) := by decide +kernel
theorem dX5_image_184 : decode cX5_image 184 = .ok (.iaload, 1) := by decide +kernel
theorem dX5_image_185 : decode cX5_image 185 = .ok (.iastore, 1) := by decide +kernel
theorem dX5_image_186 : decode cX5_image 186 = .ok (.iinc 3 1, 3) := by decide +kernel
theorem dX5_image_189 : decode cX5_image 189 = .ok (.goto (-26), 3) := by decide +kernel
theorem dX5_image_192 : decode cX5_image 192 = .ok (.aload_n 0, 1) := by decide +kernel
theorem dX5_image_193 : decode cX5_image 193 = .ok (.getfield 47, 3) := by decide +kernel
theorem dX5_image_196 : decode cX5_image 196 = .ok (.iload_n 2, 1) := by decide +kernel
theorem dX5_image_197 : decode cX5_image 197 = .ok (.bipush 84, 2) := by decide +kernel
theorem dX5_image_199 : decode cX5_image 199 = .ok (.iadd, 1) := by decide +kernel
theorem dX5_image_200 : decode cX5_image 200 = .ok (.aload_n 0, 1) := by decide +kernel
theorem dX5_image_201 : decode cX5_image 201 = .ok (.getfield 31, 3) := by decide +kernel
theorem dX5_image_204 : decode cX5_image 204 = .ok (.iastore, 1) := by decide +kernel
theorem dX5_image_205 : decode cX5_image 205 = .ok (.aload_n 0, 1) := by decide +kernel
theorem dX5_image_206 : decode cX5_image 206 = .ok (.getfield 47, 3) := by decide +kernel
theorem dX5_image_209 : decode cX5_image 209 = .ok (.iload_n 2, 1) := by decide +kernel
theorem dX5_image_210 : decode cX5_image 210 = .ok (.bipush 85, 2) := by decide +kernel
theorem dX5_image_212 : decode cX5_image 212 = .ok (.iadd, 1) := by decide +kernel
theorem dX5_image_213 : decode cX5_image 213 = .ok (.aload_n 0, 1) := by decide +kernel
theorem dX5_image_214 : decode cX5_image 214 = .ok (.getfield 152, 3) := by decide +kernel
theorem dX5_image_217 : decode cX5_image 217 = .ok (.iastore, 1) := by decide +kernel
theorem dX5_image_218 : decode cX5_image 218 = .ok (.aload_n 0, 1) := by decide +kernel
theorem dX5_image_219 : decode cX5_image 219 = .ok (.getfield 50, 3) := by decide +kernel
theorem dX5_image_222 : decode cX5_image 222 = .ok (.iload_n 1, 1) := by decide +kernel
theorem dX5_image_223 : decode cX5_image 223 = .ok (.iconst 1, 1) := by decide +kernel
theorem dX5_image_224 : decode cX5_image 224 = .ok (.bastore, 1) := by decide +kernel
theorem dX5_image_225 : decode cX5_image 225 = .ok (.iconst 1, 1) := by decide +kernel
theorem dX5_image_226 : decode cX5_image 226 = .ok (.ireturn, 1) := by decide +kernel
set_option maxRecDepth 20000 in
theorem ggX5_restore_X5_in : GoodIn wsX5_restore wsX5_in := goodIn_r _ [16] (by decide +kernel) (by decide +kernel)
set_option maxRecDepth 20000 in
theorem gX5_restore_X5_in : GoodIn wsX5_restore (va_wsS RX5 54 yX5_in wsX5_in) := goodIn_app (goodIn_of _ (by decide +kernel)) ggX5_restore_X5_in
theorem dX5_restore_0 : decode cX5_restore 0 = .ok (.iload_n 1, 1) := by decide +kernel
theorem dX5_restore_1 : decode cX5_restore 1 = .ok (.iconst 0, 1) := by decide +kernel
theorem dX5_restore_2 : decode cX5_restore 2 = .ok (.iconst 1, 1) := by decide +kernel
theorem dX5_restore_3 : decode cX5_restore 3 = .ok (.invokestatic 54, 3) := by decide +kernel
theorem dX5_restore_6 : decode cX5_restore 6 = .ok (.ifCond .ne 6, 3) := by decide +kernel
theorem dX5_restore_9 : decode cX5_restore 9 = .ok (.bipush (-2), 2) := by decide +kernel
theorem dX5_restore_11 : decode cX5_restore 11 = .ok (.ireturn, 1) := by decide +kernel
theorem dX5_restore_12 : decode cX5_restore 12 = .ok (.aload_n 0, 1) := by decide +kernel
theorem dX5_restore_13 : decode cX5_restore 13 = .ok (.getfield 50, 3) := by decide +kernel
theorem dX5_restore_16 : decode cX5_restore 16 = .ok (.iload_n 1, 1) := by decide +kernel
theorem dX5_restore_17 : decode cX5_restore 17 = .ok (.baload, 1) := by decide +kernel
theorem dX5_restore_18 : decode cX5_restore 18 = .ok (.ifCond .ne 6, 3) := by decide +kernel
theorem dX5_restore_21 : decode cX5_restore 21 = .ok (.bipush (-3), 2) := by decide +kernel
theorem dX5_restore_23 : decode cX5_restore 23 = .ok (.ireturn, 1) := by decide +kernel
theorem dX5_restore_24 : decode cX5_restore 24 = .ok (.bipush 100, 2) := by decide +kernel
theorem dX5_restore_26 : decode cX5_restore 26 = .ok (.iload_n 1, 1) := by decide +kernel
theorem dX5_restore_27 : decode cX5_restore 27 = .ok (.imul, 1) := by decide +kernel
theorem dX5_restore_28 : decode cX5_restore 28 = .ok (.istore_n 2, 1) := by decide +kernel
theorem dX5_restore_29 : decode cX5_restore 29 = .ok (.iconst 0, 1) := by decide +kernel
theorem dX5_restore_30 : decode cX5_restore 30 = .ok (.istore_n 3, 1) := by decide +kernel
theorem dX5_restore_31 : decode cX5_restore 31 = .ok (.iload_n 3, 1) := by decide +kernel
theorem dX5_restore_32 : decode cX5_restore 32 = .ok (.bipush 36, 2) := by decide +kernel
theorem dX5_restore_34 : decode cX5_restore 34 = .ok (.if_icmp .ge 23, 3) := by decide +kernel
theorem dX5_restore_37 : decode cX5_restore 37 = .ok (.aload_n 0, 1) := by decide +kernel
theorem dX5_restore_38 : decode cX5_restore 38 = .ok (.getfield 25, 3) := by decide +kernel
theorem dX5_restore_41 : decode cX5_restore 41 = .ok (.iload_n 3, 1) := by decide +kernel
theorem dX5_restore_42 : decode cX5_restore 42 = .ok (.aload_n 0, 1) := by decide +kernel
theorem dX5_restore_43 : decode cX5_restore 43 = .ok (.getfield 47, 3) := by decide +kernel
theorem dX5_restore_46 : decode cX5_restore 46 = .ok (.iload_n 2, 1) := by decide +kernel
theorem dX5_restore_47 : decode cX5_restore 47 = .ok (.iload_n 3, 1) := by decide +kernel
theorem dX5_restore_48 : decode cX5_restore 48 = .ok (.iadd, 1) := by decide +kernel
theorem dX5_restore_49 : decode cX5_restore 49 = .ok (.iaload, 1) := by decide +kernel
theorem dX5_restore_50 : decode cX5_restore 50 = .ok (.iastore, 1) := by decide +kernel
theorem dX5_restore_51 : decode cX5_restore 51 = .ok (.iinc 3 1, 3) := by decide +kernel
theorem dX5_restore_54 : decode cX5_restore 54 = .ok (.goto (-23), 3) := by decide +kernel
theorem dX5_restore_57 : decode cX5_restore 57 = .ok (.iconst 0, 1) := by decide +kernel
theorem dX5_restore_58 : decode cX5_restore 58 = .ok (.istore_n 3, 1) := by decide +kernel
theorem dX5_restore_59 : decode cX5_restore 59 = .ok (.iload_n 3, 1) := by decide +kernel
theorem dX5_restore_60 : decode cX5_restore 60 = .ok (.bipush 6, 2) := by decide +kernel
theorem dX5_restore_62 : decode cX5_restore 62 = .ok (.if_icmp .ge 111, 3) := by decide +kernel
theorem dX5_restore_65 : decode cX5_restore 65 = .ok (.aload_n 0, 1) := by decide +kernel
theorem dX5_restore_66 : decode cX5_restore 66 = .ok (.getfield 7, 3) := by decide +kernel
theorem dX5_restore_69 : decode cX5_restore 69 = .ok (.iload_n 3, 1) := by decide +kernel
theorem dX5_restore_70 : decode cX5_restore 70 = .ok (.aload_n 0, 1) := by decide +kernel
theorem dX5_restore_71 : decode cX5_restore 71 = .ok (.getfield 47, 3) := by decide +kernel
theorem dX5_restore_74 : decode cX5_restore 74 = .ok (.iload_n 2, 1) := by decide +kernel
theorem dX5_restore_75 : decode cX5_restore 75 = .ok (.bipush 36, 2) := by decide +kernel
theorem dX5_restore_77 : decode cX5_restore 77 = .ok (.iadd, 1) := by decide +kernel
theorem dX5_restore_78 : decode cX5_restore 78 = .ok (.iload_n 3, 1) := by decide +kernel
theorem dX5_restore_79 : decode cX5_restore 79 = .ok (.iadd, 1) := by decide +kernel
theorem dX5_restore_80 : decode cX5_restore 80 = .ok (.iaload, 1) := by decide +kernel
theorem dX5_restore_81 : decode cX5_restore 81 = .ok (.iastore, 1) := by decide +kernel
theorem dX5_restore_82 : decode cX5_restore 82 = .ok (.aload_n 0, 1) := by decide +kernel
theorem dX5_restore_83 : decode cX5_restore 83 = .ok (.getfield 13, 3) := by decide +kernel
theorem dX5_restore_86 : decode cX5_restore 86 = .ok (.iload_n 3, 1) := by decide +kernel
theorem dX5_restore_87 : decode cX5_restore 87 = .ok (.aload_n 0, 1) := by decide +kernel
theorem dX5_restore_88 : decode cX5_restore 88 = .ok (.getfield 47, 3) := by decide +kernel
theorem dX5_restore_91 : decode cX5_restore 91 = .ok (.iload_n 2, 1) := by decide +kernel
theorem dX5_restore_92 : decode cX5_restore 92 = .ok (.bipush 42, 2) := by decide +kernel
theorem dX5_restore_94 : decode cX5_restore 94 = .ok (.iadd, 1) := by decide +kernel
theorem dX5_restore_95 : decode cX5_restore 95 = .ok (.iload_n 3, 1) := by decide +kernel
theorem dX5_restore_96 : decode cX5_restore 96 = .ok (.iadd, 1) := by decide +kernel
theorem dX5_restore_97 : decode cX5_restore 97 = .ok (.iaload, 1) := by decide +kernel
theorem dX5_restore_98 : decode cX5_restore 98 = .ok (.iastore, 1) := by decide +kernel
theorem dX5_restore_99 : decode cX5_restore 99 = .ok (.aload_n 0, 1) := by decide +kernel
theorem dX5_restore_100 : decode cX5_restore 100 = .ok (.getfield 16, 3) := by decide +kernel
theorem dX5_restore_103 : decode cX5_restore 103 = .ok (.iload_n 3, 1) := by decide +kernel
theorem dX5_restore_104 : decode cX5_restore 104 = .ok (.aload_n 0, 1) := by decide +kernel
theorem dX5_restore_105 : decode cX5_restore 105 = .ok (.getfield 47, 3) := by decide +kernel
theorem dX5_restore_108 : decode cX5_restore 108 = .ok (.iload_n 2, 1) := by decide +kernel
theorem dX5_restore_109 : decode cX5_restore 109 = .ok (.bipush 48, 2) := by decide +kernel
theorem dX5_restore_111 : decode cX5_restore 111 = .ok (.iadd, 1) := by decide +kernel
theorem dX5_restore_112 : decode cX5_restore 112 = .ok (.iload_n 3, 1) := by decide +kernel
theorem dX5_restore_113 : decode cX5_restore 113 = .ok (.iadd, 1) := by decide +kernel
theorem dX5_restore_114 : decode cX5_restore 114 = .ok (.iaload, 1) := by decide +kernel
theorem dX5_restore_115 : decode cX5_restore 115 = .ok (.iastore, 1) := by decide +kernel
theorem dX5_restore_116 : decode cX5_restore 116 = .ok (.aload_n 0, 1) := by decide +kernel
theorem dX5_restore_117 : decode cX5_restore 117 = .ok (.getfield 19, 3) := by decide +kernel
theorem dX5_restore_120 : decode cX5_restore 120 = .ok (.iload_n 3, 1) := by decide +kernel
theorem dX5_restore_121 : decode cX5_restore 121 = .ok (.aload_n 0, 1) := by decide +kernel
theorem dX5_restore_122 : decode cX5_restore 122 = .ok (.getfield 47, 3) := by decide +kernel
theorem dX5_restore_125 : decode cX5_restore 125 = .ok (.iload_n 2, 1) := by decide +kernel
theorem dX5_restore_126 : decode cX5_restore 126 = .ok (.bipush 54, 2) := by decide +kernel
theorem dX5_restore_128 : decode cX5_restore 128 = .ok (.iadd, 1) := by decide +kernel
theorem dX5_restore_129 : decode cX5_restore 129 = .ok (.iload_n 3, 1) := by decide +kernel
theorem dX5_restore_130 : decode cX5_restore 130 = .ok (.iadd, 1) := by decide +kernel
theorem dX5_restore_131 : decode cX5_restore 131 = .ok (.iaload, 1) := by decide +kernel
theorem dX5_restore_132 : decode cX5_restore 132 = .ok (.iastore, 1) := by decide +kernel
theorem dX5_restore_133 : decode cX5_restore 133 = .ok (.aload_n 0, 1) := by decide +kernel
theorem dX5_restore_134 : decode cX5_restore 134 = .ok (.getfield 22, 3) := by decide +kernel
theorem dX5_restore_137 : decode cX5_restore 137 = .ok (.iload_n 3, 1) := by decide +kernel
theorem dX5_restore_138 : decode cX5_restore 138 = .ok (.aload_n 0, 1) := by decide +kernel
theorem dX5_restore_139 : decode cX5_restore 139 = .ok (.getfield 47, 3) := by decide +kernel
theorem dX5_restore_142 : decode cX5_restore 142 = .ok (.iload_n 2, 1) := by decide +kernel
theorem dX5_restore_143 : decode cX5_restore 143 = .ok (.bipush 60, 2) := by decide +kernel
theorem dX5_restore_145 : decode cX5_restore 145 = .ok (.iadd, 1) := by decide +kernel
theorem dX5_restore_146 : decode cX5_restore 146 = .ok (.iload_n 3, 1) := by decide +kernel
theorem dX5_restore_147 : decode cX5_restore 147 = .ok (.iadd, 1) := by decide +kernel
theorem dX5_restore_148 : decode cX5_restore 148 = .ok (.iaload, 1) := by decide +kernel
theorem dX5_restore_149 : decode cX5_restore 149 = .ok (.iastore, 1) := by decide +kernel
theorem dX5_restore_150 : decode cX5_restore 150 = .ok (.aload_n 0, 1) := by decide +kernel
theorem dX5_restore_151 : decode cX5_restore 151 = .ok (.getfield 28, 3) := by decide +kernel
theorem dX5_restore_154 : decode cX5_restore 154 = .ok (.iload_n 3, 1) := by decide +kernel
theorem dX5_restore_155 : decode cX5_restore 155 = .ok (.aload_n 0, 1) := by decide +kernel
theorem dX5_restore_156 : decode cX5_restore 156 = .ok (.getfield 47, 3) := by decide +kernel
theorem dX5_restore_159 : decode cX5_restore 159 = .ok (.iload_n 2, 1) := by decide +kernel
theorem dX5_restore_160 : decode cX5_restore 160 = .ok (.bipush 66, 2) := by decide +kernel
theorem dX5_restore_162 : decode cX5_restore 162 = .ok (.iadd, 1) := by decide +kernel
theorem dX5_restore_163 : decode cX5_restore 163 = .ok (.iload_n 3, 1) := by decide +kernel
theorem dX5_restore_164 : decode cX5_restore 164 = .ok (.iadd, 1) := by decide +kernel
theorem dX5_restore_165 : decode cX5_restore 165 = .ok (.iaload, 1) := by decide +kernel
theorem dX5_restore_166 : decode cX5_restore 166 = .ok (.iastore, 1) := by decide +kernel
theorem dX5_restore_167 : decode cX5_restore 167 = .ok (.iinc 3 1, 3) := by decide +kernel
theorem dX5_restore_170 : decode cX5_restore 170 = .ok (.goto (-111), 3) := by decide +kernel
theorem dX5_restore_173 : decode cX5_restore 173 = .ok (.iconst 0, 1) := by decide +kernel
theorem dX5_restore_174 : decode cX5_restore 174 = .ok (.istore_n 3, 1) := by decide +kernel
theorem dX5_restore_175 : decode cX5_restore 175 = .ok (.iload_n 3, 1) := by decide +kernel
theorem dX5_restore_176 : decode cX5_restore 176 = .ok (.bipush 12, 2) := by decide +kernel
theorem dX5_restore_178 : decode cX5_restore 178 = .ok (.if_icmp .ge 26, 3) := by decide +kernel
theorem dX5_restore_181 : decode cX5_restore 181 = .ok (.aload_n 0, 1) := by decide +kernel
theorem dX5_restore_182 : decode cX5_restore 182 = .ok (.getfield 35, 3) := by decide +kernel
theorem dX5_restore_185 : decode cX5_restore 185 = .ok (.iload_n 3, 1) := by decide +kernel
theorem dX5_restore_186 : decode cX5_restore 186 = .ok (.aload_n 0, 1) := by decide +kernel
theorem dX5_restore_187 : decode cX5_restore 187 = .ok (.getfield 47, 3) := by decide +kernel
theorem dX5_restore_190 : decode cX5_restore 190 = .ok (.iload_n 2, 1) := by decide +kernel
theorem dX5_restore_191 : decode cX5_restore 191 = .ok (.bipush 72, 2) := by decide +kernel
theorem dX5_restore_193 : decode cX5_restore 193 = .ok (.iadd, 1) := by decide +kernel
theorem dX5_restore_194 : decode cX5_restore 194 = .ok (.iload_n 3, 1) := by decide +kernel
theorem dX5_restore_195 : decode cX5_restore 195 = .ok (.iadd, 1) := by decide +kernel
theorem dX5_restore_196 : decode cX5_restore 196 = .ok (.iaload, 1) := by decide +kernel
theorem dX5_restore_197 : decode cX5_restore 197 = .ok (.iastore, 1) := by decide +kernel
theorem dX5_restore_198 : decode cX5_restore 198 = .ok (.iinc 3 1, 3) := by decide +kernel
theorem dX5_restore_201 : decode cX5_restore 201 = .ok (.goto (-26), 3) := by decide +kernel
theorem dX5_restore_204 : decode cX5_restore 204 = .ok (.aload_n 0, 1) := by decide +kernel
theorem dX5_restore_205 : decode cX5_restore 205 = .ok (.aload_n 0, 1) := by decide +kernel
theorem dX5_restore_206 : decode cX5_restore 206 = .ok (.getfield 47, 3) := by decide +kernel
theorem dX5_restore_209 : decode cX5_restore 209 = .ok (.iload_n 2, 1) := by decide +kernel
theorem dX5_restore_210 : decode cX5_restore 210 = .ok (.bipush 84, 2) := by decide +kernel
theorem dX5_restore_212 : decode cX5_restore 212 = .ok (.iadd, 1) := by decide +kernel
theorem dX5_restore_213 : decode cX5_restore 213 = .ok (.iaload, 1) := by decide +kernel
theorem dX5_restore_214 : decode cX5_restore 214 = .ok (.putfield 31, 3) := by decide +kernel
theorem dX5_restore_217 : decode cX5_restore 217 = .ok (.aload_n 0, 1) := by decide +kernel
theorem dX5_restore_218 : decode cX5_restore 218 = .ok (.aload_n 0, 1) := by decide +kernel
theorem dX5_restore_219 : decode cX5_restore 219 = .ok (.getfield 47, 3) := by decide +kernel
theorem dX5_restore_222 : decode cX5_restore 222 = .ok (.iload_n 2, 1) := by decide +kernel
theorem dX5_restore_223 : decode cX5_restore 223 = .ok (.bipush 85, 2) := by decide +kernel
theorem dX5_restore_225 : decode cX5_restore 225 = .ok (.iadd, 1) := by decide +kernel
theorem dX5_restore_226 : decode cX5_restore 226 = .ok (.iaload, 1) := by decide +kernel
theorem dX5_restore_227 : decode cX5_restore 227 = .ok (.putfield 152, 3) := by decide +kernel
theorem dX5_restore_230 : decode cX5_restore 230 = .ok (.iconst 1, 1) := by decide +kernel
theorem dX5_restore_231 : decode cX5_restore 231 = .ok (.ireturn, 1) := by decide +kernel
set_option maxRecDepth 20000 in
theorem ggX5_told_X5_is6 : GoodIn wsX5_told wsX5_is6 := goodIn_r _ [13, 14, 15, 12, 16] (by decide +kernel) (by decide +kernel)
set_option maxRecDepth 20000 in
theorem gX5_told_X5_is6 : GoodIn wsX5_told (va_wsS RX5 58 yX5_is6 wsX5_is6) := goodIn_app (goodIn_of _ (by decide +kernel)) ggX5_told_X5_is6
theorem dX5_told_0 : decode cX5_told 0 = .ok (.iload_n 1, 1) := by decide +kernel
theorem dX5_told_1 : decode cX5_told 1 = .ok (.bipush 10, 2) := by decide +kernel
theorem dX5_told_3 : decode cX5_told 3 = .ok (.irem, 1) := by decide +kernel
theorem dX5_told_4 : decode cX5_told 4 = .ok (.istore_n 2, 1) := by decide +kernel
theorem dX5_told_5 : decode cX5_told 5 = .ok (.iload_n 1, 1) := by decide +kernel
theorem dX5_told_6 : decode cX5_told 6 = .ok (.bipush 10, 2) := by decide +kernel
theorem dX5_told_8 : decode cX5_told 8 = .ok (.if_icmp .lt 96, 3) := by decide +kernel
theorem dX5_told_11 : decode cX5_told 11 = .ok (.iload_n 1, 1) := by decide +kernel
theorem dX5_told_12 : decode cX5_told 12 = .ok (.bipush 49, 2) := by decide +kernel
theorem dX5_told_14 : decode cX5_told 14 = .ok (.if_icmp .gt 10, 3) := by decide +kernel
theorem dX5_told_17 : decode cX5_told 17 = .ok (.iload_n 2, 1) := by decide +kernel
theorem dX5_told_18 : decode cX5_told 18 = .ok (.invokestatic 58, 3) := by decide +kernel
theorem dX5_told_21 : decode cX5_told 21 = .ok (.ifCond .ne 6, 3) := by decide +kernel
theorem dX5_told_24 : decode cX5_told 24 = .ok (.bipush (-2), 2) := by decide +kernel
theorem dX5_told_26 : decode cX5_told 26 = .ok (.ireturn, 1) := by decide +kernel
theorem dX5_told_27 : decode cX5_told 27 = .ok (.iload_n 1, 1) := by decide +kernel
theorem dX5_told_28 : decode cX5_told 28 = .ok (.bipush 10, 2) := by decide +kernel
theorem dX5_told_30 : decode cX5_told 30 = .ok (.idiv, 1) := by decide +kernel
theorem dX5_told_31 : decode cX5_told 31 = .ok (.tableswitch 66 1 3 #[25, 32, 39], 25) := by decide +kernel
theorem dX5_told_56 : decode cX5_told 56 = .ok (.aload_n 0, 1) := by decide +kernel
theorem dX5_told_57 : decode cX5_told 57 = .ok (.getfield 19, 3) := by decide +kernel
theorem dX5_told_60 : decode cX5_told 60 = .ok (.iload_n 2, 1) := by decide +kernel
theorem dX5_told_61 : decode cX5_told 61 = .ok (.iaload, 1) := by decide +kernel
theorem dX5_told_62 : decode cX5_told 62 = .ok (.ireturn, 1) := by decide +kernel
theorem dX5_told_63 : decode cX5_told 63 = .ok (.aload_n 0, 1) := by decide +kernel
theorem dX5_told_64 : decode cX5_told 64 = .ok (.getfield 22, 3) := by decide +kernel
theorem dX5_told_67 : decode cX5_told 67 = .ok (.iload_n 2, 1) := by decide +kernel
theorem dX5_told_68 : decode cX5_told 68 = .ok (.iaload, 1) := by decide +kernel
theorem dX5_told_69 : decode cX5_told 69 = .ok (.ireturn, 1) := by decide +kernel
theorem dX5_told_70 : decode cX5_told 70 = .ok (.bipush 100, 2) := by decide +kernel
theorem dX5_told_72 : decode cX5_told 72 = .ok (.aload_n 0, 1) := by decide +kernel
theorem dX5_told_73 : decode cX5_told 73 = .ok (.getfield 16, 3) := by decide +kernel
theorem dX5_told_76 : decode cX5_told 76 = .ok (.iload_n 2, 1) := by decide +kernel
theorem dX5_told_77 : decode cX5_told 77 = .ok (.iaload, 1) := by decide +kernel
theorem dX5_told_78 : decode cX5_told 78 = .ok (.imul, 1) := by decide +kernel
theorem dX5_told_79 : decode cX5_told 79 = .ok (.bipush 10, 2) := by decide +kernel
theorem dX5_told_81 : decode cX5_told 81 = .ok (.aload_n 0, 1) := by decide +kernel
theorem dX5_told_82 : decode cX5_told 82 = .ok (.getfield 7, 3) := by decide +kernel
theorem dX5_told_85 : decode cX5_told 85 = .ok (.iload_n 2, 1) := by decide +kernel
theorem dX5_told_86 : decode cX5_told 86 = .ok (.iaload, 1) := by decide +kernel
theorem dX5_told_87 : decode cX5_told 87 = .ok (.imul, 1) := by decide +kernel
theorem dX5_told_88 : decode cX5_told 88 = .ok (.iadd, 1) := by decide +kernel
theorem dX5_told_89 : decode cX5_told 89 = .ok (.aload_n 0, 1) := by decide +kernel
theorem dX5_told_90 : decode cX5_told 90 = .ok (.getfield 13, 3) := by decide +kernel
theorem dX5_told_93 : decode cX5_told 93 = .ok (.iload_n 2, 1) := by decide +kernel
theorem dX5_told_94 : decode cX5_told 94 = .ok (.iaload, 1) := by decide +kernel
theorem dX5_told_95 : decode cX5_told 95 = .ok (.iadd, 1) := by decide +kernel
theorem dX5_told_96 : decode cX5_told 96 = .ok (.ireturn, 1) := by decide +kernel
theorem dX5_told_97 : decode cX5_told 97 = .ok (.aload_n 0, 1) := by decide +kernel
theorem dX5_told_98 : decode cX5_told 98 = .ok (.getfield 28, 3) := by decide +kernel
theorem dX5_told_101 : decode cX5_told 101 = .ok (.iload_n 2, 1) := by decide +kernel
theorem dX5_told_102 : decode cX5_told 102 = .ok (.iaload, 1) := by decide +kernel
theorem dX5_told_103 : decode cX5_told 103 = .ok (.ireturn, 1) := by decide +kernel
theorem dX5_told_104 : decode cX5_told 104 = .ok (.iload_n 1, 1) := by decide +kernel
theorem dX5_told_105 : decode cX5_told 105 = .ok (.ifCond .ne 10, 3) := by decide +kernel
theorem dX5_told_108 : decode cX5_told 108 = .ok (.aload_n 0, 1) := by decide +kernel
theorem dX5_told_109 : decode cX5_told 109 = .ok (.getfield 62, 3) := by decide +kernel
theorem dX5_told_112 : decode cX5_told 112 = .ok (.goto 29, 3) := by decide +kernel
theorem dX5_told_115 : decode cX5_told 115 = .ok (.iload_n 1, 1) := by decide +kernel
theorem dX5_told_116 : decode cX5_told 116 = .ok (.iconst 1, 1) := by decide +kernel
theorem dX5_told_117 : decode cX5_told 117 = .ok (.if_icmp .ne 10, 3) := by decide +kernel
theorem dX5_told_120 : decode cX5_told 120 = .ok (.aload_n 0, 1) := by decide +kernel
theorem dX5_told_121 : decode cX5_told 121 = .ok (.getfield 31, 3) := by decide +kernel
theorem dX5_told_124 : decode cX5_told 124 = .ok (.goto 17, 3) := by decide +kernel
theorem dX5_told_127 : decode cX5_told 127 = .ok (.iload_n 1, 1) := by decide +kernel
theorem dX5_told_128 : decode cX5_told 128 = .ok (.iconst 2, 1) := by decide +kernel
theorem dX5_told_129 : decode cX5_told 129 = .ok (.if_icmp .ne 10, 3) := by decide +kernel
theorem dX5_told_132 : decode cX5_told 132 = .ok (.aload_n 0, 1) := by decide +kernel
theorem dX5_told_133 : decode cX5_told 133 = .ok (.getfield 152, 3) := by decide +kernel
theorem dX5_told_136 : decode cX5_told 136 = .ok (.goto 5, 3) := by decide +kernel
theorem dX5_told_139 : decode cX5_told 139 = .ok (.bipush (-2), 2) := by decide +kernel
theorem dX5_told_141 : decode cX5_told 141 = .ok (.ireturn, 1) := by decide +kernel
