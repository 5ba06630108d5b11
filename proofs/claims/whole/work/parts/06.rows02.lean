theorem dX4_forget_17 : decode cX4_forget 17 = .ok (.ireturn, 1) := by decide +kernel
set_option maxRecDepth 20000 in
theorem ggX4_filled_X2_read : GoodIn wsX4_filled wsX2_read := goodIn_r _ [8, 9, 10, 11, 12, 13, 14, 15, 16, 17, 18, 7, 19, 20, 21, 22, 23, 24, 25, 26, 27, 28, 29, 30, 31, 32, 33, 34, 35, 36, 37, 38, 39, 40, 41, 42, 43, 44, 45, 46, 47, 48, 49, 50, 51, 52, 129, 130, 131, 132, 133, 134, 135, 136] (by decide +kernel) (by decide +kernel)
set_option maxRecDepth 20000 in
theorem gX4_filled_X2_read : GoodIn wsX4_filled (wsV RX4 96 RX2 yX2_read wsX2_read) := goodIn_app (goodIn_of _ (by decide +kernel)) ggX4_filled_X2_read
set_option maxRecDepth 20000 in
theorem ggX4_filled_X4_guess : GoodIn wsX4_filled wsX4_guess := goodIn_r _ [56, 1, 2, 3, 57, 25, 14, 26, 122, 123, 124, 125, 126, 127, 128, 129, 130, 131, 132, 133, 134, 135, 136] (by decide +kernel) (by decide +kernel)
set_option maxRecDepth 20000 in
theorem gX4_filled_X4_guess : GoodIn wsX4_filled (wsV RX4 218 RX4 yX4_guess wsX4_guess) := goodIn_app (goodIn_of _ (by decide +kernel)) ggX4_filled_X4_guess
set_option maxRecDepth 20000 in
theorem ggX4_filled_X4_fits : GoodIn wsX4_filled wsX4_fits := goodIn_r _ [61, 62, 63, 64, 1, 65, 66, 67, 68, 69, 70, 71, 72, 73, 74, 75, 14, 76, 77, 13, 15, 78, 79, 80, 81, 82, 83, 3, 84, 85, 86, 87, 88, 89, 90, 91, 92, 93, 94, 95, 96, 97, 98, 99, 100, 101, 102, 103, 104, 105, 106, 107, 108, 109, 110, 111, 112, 25, 26, 113, 114, 115, 116, 117, 118, 119, 120, 121, 122, 123, 124, 125, 126, 127, 128, 137, 138, 139, 140, 141, 142, 143, 144, 145, 146, 147, 129, 130, 131, 132, 133, 134, 135, 136, 148] (by decide +kernel) (by decide +kernel)
set_option maxRecDepth 20000 in
theorem gX4_filled_X4_fits : GoodIn wsX4_filled (wsV RX4 222 RX4 yX4_fits wsX4_fits) := goodIn_app (goodIn_of _ (by decide +kernel)) ggX4_filled_X4_fits
set_option maxRecDepth 20000 in
theorem ggX4_filled_X4_at : GoodIn wsX4_filled wsX4_at := goodIn_r _ [15] (by decide +kernel) (by decide +kernel)
set_option maxRecDepth 20000 in
theorem gX4_filled_X4_at : GoodIn wsX4_filled (va_wsS RX4 134 yX4_at wsX4_at) := goodIn_app (goodIn_of _ (by decide +kernel)) ggX4_filled_X4_at
theorem dX4_filled_0 : decode cX4_filled 0 = .ok (.aload_n 0, 1) := by decide +kernel
theorem dX4_filled_1 : decode cX4_filled 1 = .ok (.getfield 23, 3) := by decide +kernel
theorem dX4_filled_4 : decode cX4_filled 4 = .ok (.invokevirtual 96, 3) := by decide +kernel
theorem dX4_filled_7 : decode cX4_filled 7 = .ok (.bipush (-6), 2) := by decide +kernel
theorem dX4_filled_9 : decode cX4_filled 9 = .ok (.if_icmp .eq 6, 3) := by decide +kernel
theorem dX4_filled_12 : decode cX4_filled 12 = .ok (.bipush (-5), 2) := by decide +kernel
theorem dX4_filled_14 : decode cX4_filled 14 = .ok (.ireturn, 1) := by decide +kernel
theorem dX4_filled_15 : decode cX4_filled 15 = .ok (.iconst 0, 1) := by decide +kernel
theorem dX4_filled_16 : decode cX4_filled 16 = .ok (.istore_n 2, 1) := by decide +kernel
theorem dX4_filled_17 : decode cX4_filled 17 = .ok (.iconst 0, 1) := by decide +kernel
theorem dX4_filled_18 : decode cX4_filled 18 = .ok (.istore_n 3, 1) := by decide +kernel
theorem dX4_filled_19 : decode cX4_filled 19 = .ok (.iconst 1, 1) := by decide +kernel
theorem dX4_filled_20 : decode cX4_filled 20 = .ok (.istore 4, 2) := by decide +kernel
theorem dX4_filled_22 : decode cX4_filled 22 = .ok (.iconst 0, 1) := by decide +kernel
theorem dX4_filled_23 : decode cX4_filled 23 = .ok (.istore 5, 2) := by decide +kernel
theorem dX4_filled_25 : decode cX4_filled 25 = .ok (.iload 5, 2) := by decide +kernel
theorem dX4_filled_27 : decode cX4_filled 27 = .ok (.aload_n 0, 1) := by decide +kernel
theorem dX4_filled_28 : decode cX4_filled 28 = .ok (.getfield 23, 3) := by decide +kernel
theorem dX4_filled_31 : decode cX4_filled 31 = .ok (.getfield 215, 3) := by decide +kernel
theorem dX4_filled_34 : decode cX4_filled 34 = .ok (.if_icmp .ge 16, 3) := by decide +kernel
theorem dX4_filled_37 : decode cX4_filled 37 = .ok (.iload 4, 2) := by decide +kernel
theorem dX4_filled_39 : decode cX4_filled 39 = .ok (.bipush 6, 2) := by decide +kernel
theorem dX4_filled_41 : decode cX4_filled 41 = .ok (.imul, 1) := by decide +kernel
theorem dX4_filled_42 : decode cX4_filled 42 = .ok (.istore 4, 2) := by decide +kernel
theorem dX4_filled_44 : decode cX4_filled 44 = .ok (.iinc 5 1, 3) := by decide +kernel
theorem dX4_filled_47 : decode cX4_filled 47 = .ok (.goto (-22), 3) := by decide +kernel
theorem dX4_filled_50 : decode cX4_filled 50 = .ok (.iconst 0, 1) := by decide +kernel
theorem dX4_filled_51 : decode cX4_filled 51 = .ok (.istore 5, 2) := by decide +kernel
theorem dX4_filled_53 : decode cX4_filled 53 = .ok (.iload 5, 2) := by decide +kernel
theorem dX4_filled_55 : decode cX4_filled 55 = .ok (.iload 4, 2) := by decide +kernel
theorem dX4_filled_57 : decode cX4_filled 57 = .ok (.if_icmp .ge 36, 3) := by decide +kernel
theorem dX4_filled_60 : decode cX4_filled 60 = .ok (.aload_n 0, 1) := by decide +kernel
theorem dX4_filled_61 : decode cX4_filled 61 = .ok (.iload 5, 2) := by decide +kernel
theorem dX4_filled_63 : decode cX4_filled 63 = .ok (.invokevirtual 218, 3) := by decide +kernel
theorem dX4_filled_66 : decode cX4_filled 66 = .ok (.aload_n 0, 1) := by decide +kernel
theorem dX4_filled_67 : decode cX4_filled 67 = .ok (.invokevirtual 222, 3) := by decide +kernel
theorem dX4_filled_70 : decode cX4_filled 70 = .ok (.ifCond .eq 17, 3) := by decide +kernel
theorem dX4_filled_73 : decode cX4_filled 73 = .ok (.iload_n 2, 1) := by decide +kernel
theorem dX4_filled_74 : decode cX4_filled 74 = .ok (.ifCond .ne 8, 3) := by decide +kernel
theorem dX4_filled_77 : decode cX4_filled 77 = .ok (.iload 5, 2) := by decide +kernel
theorem dX4_filled_79 : decode cX4_filled 79 = .ok (.goto 4, 3) := by decide +kernel
theorem dX4_filled_82 : decode cX4_filled 82 = .ok (.iload_n 3, 1) := by decide +kernel
theorem dX4_filled_83 : decode cX4_filled 83 = .ok (.istore_n 3, 1) := by decide +kernel
theorem dX4_filled_84 : decode cX4_filled 84 = .ok (.iinc 2 1, 3) := by decide +kernel
theorem dX4_filled_87 : decode cX4_filled 87 = .ok (.iinc 5 1, 3) := by decide +kernel
theorem dX4_filled_90 : decode cX4_filled 90 = .ok (.goto (-37), 3) := by decide +kernel
theorem dX4_filled_93 : decode cX4_filled 93 = .ok (.iload_n 1, 1) := by decide +kernel
theorem dX4_filled_94 : decode cX4_filled 94 = .ok (.iconst (-1), 1) := by decide +kernel
theorem dX4_filled_95 : decode cX4_filled 95 = .ok (.if_icmp .ne 5, 3) := by decide +kernel
theorem dX4_filled_98 : decode cX4_filled 98 = .ok (.iload_n 2, 1) := by decide +kernel
theorem dX4_filled_99 : decode cX4_filled 99 = .ok (.ireturn, 1) := by decide +kernel
theorem dX4_filled_100 : decode cX4_filled 100 = .ok (.iload_n 2, 1) := by decide +kernel
theorem dX4_filled_101 : decode cX4_filled 101 = .ok (.ifCond .eq 18, 3) := by decide +kernel
theorem dX4_filled_104 : decode cX4_filled 104 = .ok (.iload_n 1, 1) := by decide +kernel
theorem dX4_filled_105 : decode cX4_filled 105 = .ok (.ifCond .lt 14, 3) := by decide +kernel
theorem dX4_filled_108 : decode cX4_filled 108 = .ok (.iload_n 1, 1) := by decide +kernel
theorem dX4_filled_109 : decode cX4_filled 109 = .ok (.aload_n 0, 1) := by decide +kernel
theorem dX4_filled_110 : decode cX4_filled 110 = .ok (.getfield 23, 3) := by decide +kernel
theorem dX4_filled_113 : decode cX4_filled 113 = .ok (.getfield 215, 3) := by decide +kernel
theorem dX4_filled_116 : decode cX4_filled 116 = .ok (.if_icmp .lt 6, 3) := by decide +kernel
theorem dX4_filled_119 : decode cX4_filled 119 = .ok (.bipush (-6), 2) := by decide +kernel
theorem dX4_filled_121 : decode cX4_filled 121 = .ok (.ireturn, 1) := by decide +kernel
theorem dX4_filled_122 : decode cX4_filled 122 = .ok (.aload_n 0, 1) := by decide +kernel
theorem dX4_filled_123 : decode cX4_filled 123 = .ok (.iload_n 3, 1) := by decide +kernel
theorem dX4_filled_124 : decode cX4_filled 124 = .ok (.invokevirtual 218, 3) := by decide +kernel
theorem dX4_filled_127 : decode cX4_filled 127 = .ok (.aload_n 0, 1) := by decide +kernel
theorem dX4_filled_128 : decode cX4_filled 128 = .ok (.getfield 41, 3) := by decide +kernel
theorem dX4_filled_131 : decode cX4_filled 131 = .ok (.iload_n 1, 1) := by decide +kernel
theorem dX4_filled_132 : decode cX4_filled 132 = .ok (.invokestatic 134, 3) := by decide +kernel
theorem dX4_filled_135 : decode cX4_filled 135 = .ok (.ireturn, 1) := by decide +kernel
set_option maxRecDepth 20000 in
theorem ggX4_year_X4_isPlank : GoodIn wsX4_year wsX4_isPlank := goodIn_r _ [8, 9, 10, 7, 11] (by decide +kernel) (by decide +kernel)
set_option maxRecDepth 20000 in
theorem gX4_year_X4_isPlank : GoodIn wsX4_year (va_wsS RX4 48 yX4_isPlank wsX4_isPlank) := goodIn_app (goodIn_of _ (by decide +kernel)) ggX4_year_X4_isPlank
set_option maxRecDepth 20000 in
theorem ggX4_year_X4_within : GoodIn wsX4_year wsX4_within := goodIn_r _ [11] (by decide +kernel) (by decide +kernel)
set_option maxRecDepth 20000 in
theorem gX4_year_X4_within : GoodIn wsX4_year (va_wsS RX4 79 yX4_within wsX4_within) := goodIn_app (goodIn_of _ (by decide +kernel)) ggX4_year_X4_within
set_option maxRecDepth 20000 in
theorem ggX4_year_X0_become : GoodIn wsX4_year wsX0_become := goodIn_r _ [16, 17, 18, 7, 19, 20, 21, 22, 75] (by decide +kernel) (by decide +kernel)
set_option maxRecDepth 20000 in
theorem gX4_year_X0_become : GoodIn wsX4_year (wsV RX4 103 RX0 yX0_become wsX0_become) := goodIn_app (goodIn_of _ (by decide +kernel)) ggX4_year_X0_become
set_option maxRecDepth 20000 in
theorem ggX4_year_X1_tell : GoodIn wsX4_year wsX1_tell := goodIn_r _ [27, 28, 29, 30, 31, 32, 33, 34, 26, 35, 21, 7, 22, 36, 37, 38, 15, 39, 17, 40, 41, 20, 42, 43, 44, 45, 46, 47, 64, 65, 66, 67, 68, 69, 70, 71, 72, 73, 74, 75] (by decide +kernel) (by decide +kernel)
set_option maxRecDepth 20000 in
theorem gX4_year_X1_tell : GoodIn wsX4_year (wsV RX4 226 RX1 yX1_tell wsX1_tell) := goodIn_app (goodIn_of _ (by decide +kernel)) ggX4_year_X1_tell
set_option maxRecDepth 20000 in
theorem ggX4_year_X0_fadeADay : GoodIn wsX4_year wsX0_fadeADay := goodIn_r _ [51, 17, 75] (by decide +kernel) (by decide +kernel)
set_option maxRecDepth 20000 in
theorem gX4_year_X0_fadeADay : GoodIn wsX4_year (wsV RX4 179 RX0 yX0_fadeADay wsX0_fadeADay) := goodIn_app (goodIn_of _ (by decide +kernel)) ggX4_year_X0_fadeADay
set_option maxRecDepth 20000 in
theorem ggX4_year_X0_load : GoodIn wsX4_year wsX0_load := goodIn_r _ [55, 56, 37, 38, 15, 39, 17, 75] (by decide +kernel) (by decide +kernel)
set_option maxRecDepth 20000 in
theorem gX4_year_X0_load : GoodIn wsX4_year (wsV RX4 142 RX0 yX0_load wsX0_load) := goodIn_app (goodIn_of _ (by decide +kernel)) ggX4_year_X0_load
theorem dX4_year_0 : decode cX4_year 0 = .ok (.iload_n 3, 1) := by decide +kernel
theorem dX4_year_1 : decode cX4_year 1 = .ok (.iconst (-1), 1) := by decide +kernel
theorem dX4_year_2 : decode cX4_year 2 = .ok (.if_icmp .eq 12, 3) := by decide +kernel
theorem dX4_year_5 : decode cX4_year 5 = .ok (.iload_n 3, 1) := by decide +kernel
theorem dX4_year_6 : decode cX4_year 6 = .ok (.invokestatic 48, 3) := by decide +kernel
theorem dX4_year_9 : decode cX4_year 9 = .ok (.ifCond .ne 5, 3) := by decide +kernel
theorem dX4_year_12 : decode cX4_year 12 = .ok (.iconst (-1), 1) := by decide +kernel
theorem dX4_year_13 : decode cX4_year 13 = .ok (.ireturn, 1) := by decide +kernel
theorem dX4_year_14 : decode cX4_year 14 = .ok (.iload_n 1, 1) := by decide +kernel
theorem dX4_year_15 : decode cX4_year 15 = .ok (.iconst 0, 1) := by decide +kernel
theorem dX4_year_16 : decode cX4_year 16 = .ok (.sipush 9999, 3) := by decide +kernel
theorem dX4_year_19 : decode cX4_year 19 = .ok (.invokestatic 79, 3) := by decide +kernel
theorem dX4_year_22 : decode cX4_year 22 = .ok (.ifCond .eq 13, 3) := by decide +kernel
theorem dX4_year_25 : decode cX4_year 25 = .ok (.iload_n 2, 1) := by decide +kernel
theorem dX4_year_26 : decode cX4_year 26 = .ok (.iconst 1, 1) := by decide +kernel
theorem dX4_year_27 : decode cX4_year 27 = .ok (.bipush 99, 2) := by decide +kernel
theorem dX4_year_29 : decode cX4_year 29 = .ok (.invokestatic 79, 3) := by decide +kernel
theorem dX4_year_32 : decode cX4_year 32 = .ok (.ifCond .ne 6, 3) := by decide +kernel
theorem dX4_year_35 : decode cX4_year 35 = .ok (.bipush (-2), 2) := by decide +kernel
theorem dX4_year_37 : decode cX4_year 37 = .ok (.ireturn, 1) := by decide +kernel
theorem dX4_year_38 : decode cX4_year 38 = .ok (.aload_n 0, 1) := by decide +kernel
theorem dX4_year_39 : decode cX4_year 39 = .ok (.getfield 37, 3) := by decide +kernel
theorem dX4_year_42 : decode cX4_year 42 = .ok (.aload_n 0, 1) := by decide +kernel
theorem dX4_year_43 : decode cX4_year 43 = .ok (.getfield 10, 3) := by decide +kernel
theorem dX4_year_46 : decode cX4_year 46 = .ok (.getfield 72, 3) := by decide +kernel
theorem dX4_year_49 : decode cX4_year 49 = .ok (.invokevirtual 103, 3) := by decide +kernel
theorem dX4_year_52 : decode cX4_year 52 = .ok (.iload_n 1, 1) := by decide +kernel
theorem dX4_year_53 : decode cX4_year 53 = .ok (.istore 4, 2) := by decide +kernel
theorem dX4_year_55 : decode cX4_year 55 = .ok (.iconst 0, 1) := by decide +kernel
theorem dX4_year_56 : decode cX4_year 56 = .ok (.istore 5, 2) := by decide +kernel
theorem dX4_year_58 : decode cX4_year 58 = .ok (.iconst 1, 1) := by decide +kernel
theorem dX4_year_59 : decode cX4_year 59 = .ok (.istore 6, 2) := by decide +kernel
theorem dX4_year_61 : decode cX4_year 61 = .ok (.iload 6, 2) := by decide +kernel
theorem dX4_year_63 : decode cX4_year 63 = .ok (.iload_n 2, 1) := by decide +kernel
theorem dX4_year_64 : decode cX4_year 64 = .ok (.if_icmp .gt 75, 3) := by decide +kernel
theorem dX4_year_67 : decode cX4_year 67 = .ok (.bipush 75, 2) := by decide +kernel
theorem dX4_year_69 : decode cX4_year 69 = .ok (.iload 4, 2) := by decide +kernel
theorem dX4_year_71 : decode cX4_year 71 = .ok (.imul, 1) := by decide +kernel
theorem dX4_year_72 : decode cX4_year 72 = .ok (.bipush 74, 2) := by decide +kernel
theorem dX4_year_74 : decode cX4_year 74 = .ok (.iadd, 1) := by decide +kernel
theorem dX4_year_75 : decode cX4_year 75 = .ok (.ldc 225, 2) := by decide +kernel
theorem dX4_year_77 : decode cX4_year 77 = .ok (.irem, 1) := by decide +kernel
theorem dX4_year_78 : decode cX4_year 78 = .ok (.istore 4, 2) := by decide +kernel
theorem dX4_year_80 : decode cX4_year 80 = .ok (.aload_n 0, 1) := by decide +kernel
theorem dX4_year_81 : decode cX4_year 81 = .ok (.getfield 10, 3) := by decide +kernel
theorem dX4_year_84 : decode cX4_year 84 = .ok (.aload_n 0, 1) := by decide +kernel
theorem dX4_year_85 : decode cX4_year 85 = .ok (.getfield 37, 3) := by decide +kernel
theorem dX4_year_88 : decode cX4_year 88 = .ok (.iload 4, 2) := by decide +kernel
theorem dX4_year_90 : decode cX4_year 90 = .ok (.bipush 6, 2) := by decide +kernel
theorem dX4_year_92 : decode cX4_year 92 = .ok (.irem, 1) := by decide +kernel
theorem dX4_year_93 : decode cX4_year 93 = .ok (.iload 4, 2) := by decide +kernel
theorem dX4_year_95 : decode cX4_year 95 = .ok (.bipush 6, 2) := by decide +kernel
theorem dX4_year_97 : decode cX4_year 97 = .ok (.idiv, 1) := by decide +kernel
theorem dX4_year_98 : decode cX4_year 98 = .ok (.bipush 6, 2) := by decide +kernel
theorem dX4_year_100 : decode cX4_year 100 = .ok (.irem, 1) := by decide +kernel
theorem dX4_year_101 : decode cX4_year 101 = .ok (.iload 4, 2) := by decide +kernel
theorem dX4_year_103 : decode cX4_year 103 = .ok (.bipush 36, 2) := by decide +kernel
theorem dX4_year_105 : decode cX4_year 105 = .ok (.idiv, 1) := by decide +kernel
theorem dX4_year_106 : decode cX4_year 106 = .ok (.bipush 6, 2) := by decide +kernel
theorem dX4_year_108 : decode cX4_year 108 = .ok (.irem, 1) := by decide +kernel
theorem dX4_year_109 : decode cX4_year 109 = .ok (.invokevirtual 226, 3) := by decide +kernel
theorem dX4_year_112 : decode cX4_year 112 = .ok (.ifCond .eq 6, 3) := by decide +kernel
theorem dX4_year_115 : decode cX4_year 115 = .ok (.iinc 5 1, 3) := by decide +kernel
theorem dX4_year_118 : decode cX4_year 118 = .ok (.iload 6, 2) := by decide +kernel
theorem dX4_year_120 : decode cX4_year 120 = .ok (.bipush 10, 2) := by decide +kernel
theorem dX4_year_122 : decode cX4_year 122 = .ok (.irem, 1) := by decide +kernel
theorem dX4_year_123 : decode cX4_year 123 = .ok (.ifCond .ne 10, 3) := by decide +kernel
theorem dX4_year_126 : decode cX4_year 126 = .ok (.aload_n 0, 1) := by decide +kernel
theorem dX4_year_127 : decode cX4_year 127 = .ok (.getfield 37, 3) := by decide +kernel
theorem dX4_year_130 : decode cX4_year 130 = .ok (.invokevirtual 179, 3) := by decide +kernel
theorem dX4_year_133 : decode cX4_year 133 = .ok (.iinc 6 1, 3) := by decide +kernel
theorem dX4_year_136 : decode cX4_year 136 = .ok (.goto (-75), 3) := by decide +kernel
theorem dX4_year_139 : decode cX4_year 139 = .ok (.iload_n 3, 1) := by decide +kernel
theorem dX4_year_140 : decode cX4_year 140 = .ok (.iconst (-1), 1) := by decide +kernel
theorem dX4_year_141 : decode cX4_year 141 = .ok (.if_icmp .ne 8, 3) := by decide +kernel
theorem dX4_year_144 : decode cX4_year 144 = .ok (.iload 5, 2) := by decide +kernel
theorem dX4_year_146 : decode cX4_year 146 = .ok (.goto 12, 3) := by decide +kernel
theorem dX4_year_149 : decode cX4_year 149 = .ok (.aload_n 0, 1) := by decide +kernel
theorem dX4_year_150 : decode cX4_year 150 = .ok (.getfield 37, 3) := by decide +kernel
theorem dX4_year_153 : decode cX4_year 153 = .ok (.iload_n 3, 1) := by decide +kernel
theorem dX4_year_154 : decode cX4_year 154 = .ok (.iconst 0, 1) := by decide +kernel
theorem dX4_year_155 : decode cX4_year 155 = .ok (.invokevirtual 142, 3) := by decide +kernel
theorem dX4_year_158 : decode cX4_year 158 = .ok (.ireturn, 1) := by decide +kernel
set_option maxRecDepth 20000 in
theorem ggX4_image_X1_init : GoodIn wsX4_image wsX1_init := goodIn_r _ [8, 9, 10, 11, 12, 13, 14, 15, 16, 17, 18, 19, 20, 21, 22, 23, 24, 25, 26, 27, 28, 29, 30, 31, 32, 4, 33, 34, 35, 36, 37, 38, 39, 40, 41, 42, 43, 44, 45, 46, 65, 66, 67, 68, 69, 70, 71, 72, 73, 74, 75, 76] (by decide +kernel) (by decide +kernel)
set_option maxRecDepth 20000 in
theorem gX4_image_X1_init : GoodIn wsX4_image (wsX1_init) := ggX4_image_X1_init
set_option maxRecDepth 20000 in
theorem ggX4_image_X1_become : GoodIn wsX4_image wsX1_become := goodIn_r _ [50, 13, 14, 15, 16, 17, 18, 19, 20, 24, 25, 51, 52, 35, 53, 43, 44, 45, 54, 55, 56, 23, 57, 29, 65, 66, 67, 68, 69, 70, 71, 72, 73, 74, 75, 76] (by decide +kernel) (by decide +kernel)
set_option maxRecDepth 20000 in
theorem gX4_image_X1_become : GoodIn wsX4_image (wsV RX4 230 RX1 yX1_become wsX1_become) := goodIn_app (goodIn_of _ (by decide +kernel)) ggX4_image_X1_become
theorem dX4_image_0 : decode cX4_image 0 = .ok (.iload_n 1, 1) := by decide +kernel
theorem dX4_image_1 : decode cX4_image 1 = .ok (.ifCond .lt 12, 3) := by decide +kernel
theorem dX4_image_4 : decode cX4_image 4 = .ok (.iload_n 1, 1) := by decide +kernel
theorem dX4_image_5 : decode cX4_image 5 = .ok (.aload_n 0, 1) := by decide +kernel
theorem dX4_image_6 : decode cX4_image 6 = .ok (.getfield 16, 3) := by decide +kernel
theorem dX4_image_9 : decode cX4_image 9 = .ok (.arraylength, 1) := by decide +kernel
theorem dX4_image_10 : decode cX4_image 10 = .ok (.if_icmp .lt 6, 3) := by decide +kernel
theorem dX4_image_13 : decode cX4_image 13 = .ok (.bipush (-2), 2) := by decide +kernel
theorem dX4_image_15 : decode cX4_image 15 = .ok (.ireturn, 1) := by decide +kernel
theorem dX4_image_16 : decode cX4_image 16 = .ok (.aload_n 0, 1) := by decide +kernel
theorem dX4_image_17 : decode cX4_image 17 = .ok (.getfield 16, 3) := by decide +kernel
theorem dX4_image_20 : decode cX4_image 20 = .ok (.iload_n 1, 1) := by decide +kernel
theorem dX4_image_21 : decode cX4_image 21 = .ok (.aaload, 1) := by decide +kernel
theorem dX4_image_22 : decode cX4_image 22 = .ok (.astore_n 2, 1) := by decide +kernel
theorem dX4_image_23 : decode cX4_image 23 = .ok (.aload_n 2, 1) := by decide +kernel
theorem dX4_image_24 : decode cX4_image 24 = .ok (.ifnonnull 18, 3) := by decide +kernel
theorem dX4_image_27 : decode cX4_image 27 = .ok (.new 7, 3) := by decide +kernel
theorem dX4_image_30 : decode cX4_image 30 = .ok (.dup, 1) := by decide +kernel
theorem dX4_image_31 : decode cX4_image 31 = .ok (.invokespecial 9, 3) := by decide +kernel
theorem dX4_image_34 : decode cX4_image 34 = .ok (.astore_n 2, 1) := by decide +kernel
theorem dX4_image_35 : decode cX4_image 35 = .ok (.aload_n 0, 1) := by decide +kernel
theorem dX4_image_36 : decode cX4_image 36 = .ok (.getfield 16, 3) := by decide +kernel
theorem dX4_image_39 : decode cX4_image 39 = .ok (.iload_n 1, 1) := by decide +kernel
theorem dX4_image_40 : decode cX4_image 40 = .ok (.aload_n 2, 1) := by decide +kernel
theorem dX4_image_41 : decode cX4_image 41 = .ok (.aastore, 1) := by decide +kernel
theorem dX4_image_42 : decode cX4_image 42 = .ok (.aload_n 2, 1) := by decide +kernel
theorem dX4_image_43 : decode cX4_image 43 = .ok (.aload_n 0, 1) := by decide +kernel
theorem dX4_image_44 : decode cX4_image 44 = .ok (.getfield 10, 3) := by decide +kernel
theorem dX4_image_47 : decode cX4_image 47 = .ok (.invokevirtual 230, 3) := by decide +kernel
theorem dX4_image_50 : decode cX4_image 50 = .ok (.iconst 1, 1) := by decide +kernel
theorem dX4_image_51 : decode cX4_image 51 = .ok (.ireturn, 1) := by decide +kernel
set_option maxRecDepth 20000 in
theorem ggX4_restore_X1_become : GoodIn wsX4_restore wsX1_become := goodIn_r _ [7, 8, 9, 10, 11, 12, 13, 14, 15, 16, 17, 18, 19, 20, 21, 22, 23, 24, 25, 26, 27, 28, 29, 30, 38, 39, 40, 41, 42, 43, 44, 45, 46, 47, 48, 49] (by decide +kernel) (by decide +kernel)
set_option maxRecDepth 20000 in
theorem gX4_restore_X1_become : GoodIn wsX4_restore (wsV RX4 230 RX1 yX1_become wsX1_become) := goodIn_app (goodIn_of _ (by decide +kernel)) ggX4_restore_X1_become
theorem dX4_restore_0 : decode cX4_restore 0 = .ok (.iload_n 1, 1) := by decide +kernel
theorem dX4_restore_1 : decode cX4_restore 1 = .ok (.ifCond .lt 12, 3) := by decide +kernel
theorem dX4_restore_4 : decode cX4_restore 4 = .ok (.iload_n 1, 1) := by decide +kernel
theorem dX4_restore_5 : decode cX4_restore 5 = .ok (.aload_n 0, 1) := by decide +kernel
theorem dX4_restore_6 : decode cX4_restore 6 = .ok (.getfield 16, 3) := by decide +kernel
theorem dX4_restore_9 : decode cX4_restore 9 = .ok (.arraylength, 1) := by decide +kernel
theorem dX4_restore_10 : decode cX4_restore 10 = .ok (.if_icmp .lt 6, 3) := by decide +kernel
theorem dX4_restore_13 : decode cX4_restore 13 = .ok (.bipush (-2), 2) := by decide +kernel
theorem dX4_restore_15 : decode cX4_restore 15 = .ok (.ireturn, 1) := by decide +kernel
theorem dX4_restore_16 : decode cX4_restore 16 = .ok (.aload_n 0, 1) := by decide +kernel
theorem dX4_restore_17 : decode cX4_restore 17 = .ok (.getfield 16, 3) := by decide +kernel
theorem dX4_restore_20 : decode cX4_restore 20 = .ok (.iload_n 1, 1) := by decide +kernel
theorem dX4_restore_21 : decode cX4_restore 21 = .ok (.aaload, 1) := by decide +kernel
theorem dX4_restore_22 : decode cX4_restore 22 = .ok (.astore_n 2, 1) := by decide +kernel
theorem dX4_restore_23 : decode cX4_restore 23 = .ok (.aload_n 2, 1) := by decide +kernel
theorem dX4_restore_24 : decode cX4_restore 24 = .ok (.ifnonnull 6, 3) := by decide +kernel
theorem dX4_restore_27 : decode cX4_restore 27 = .ok (.bipush (-3), 2) := by decide +kernel
theorem dX4_restore_29 : decode cX4_restore 29 = .ok (.ireturn, 1) := by decide +kernel
theorem dX4_restore_30 : decode cX4_restore 30 = .ok (.aload_n 0, 1) := by decide +kernel
theorem dX4_restore_31 : decode cX4_restore 31 = .ok (.getfield 10, 3) := by decide +kernel
theorem dX4_restore_34 : decode cX4_restore 34 = .ok (.aload_n 2, 1) := by decide +kernel
theorem dX4_restore_35 : decode cX4_restore 35 = .ok (.invokevirtual 230, 3) := by decide +kernel
theorem dX4_restore_38 : decode cX4_restore 38 = .ok (.iconst 1, 1) := by decide +kernel
theorem dX4_restore_39 : decode cX4_restore 39 = .ok (.ireturn, 1) := by decide +kernel
set_option maxRecDepth 20000 in
theorem ggX4_told_X4_at : GoodIn wsX4_told wsX4_at := goodIn_r _ [15] (by decide +kernel) (by decide +kernel)
set_option maxRecDepth 20000 in
theorem gX4_told_X4_at : GoodIn wsX4_told (va_wsS RX4 134 yX4_at wsX4_at) := goodIn_app (goodIn_of _ (by decide +kernel)) ggX4_told_X4_at
theorem dX4_told_0 : decode cX4_told 0 = .ok (.iload_n 1, 1) := by decide +kernel
theorem dX4_told_1 : decode cX4_told 1 = .ok (.ifCond .ne 11, 3) := by decide +kernel
theorem dX4_told_4 : decode cX4_told 4 = .ok (.aload_n 0, 1) := by decide +kernel
theorem dX4_told_5 : decode cX4_told 5 = .ok (.getfield 23, 3) := by decide +kernel
theorem dX4_told_8 : decode cX4_told 8 = .ok (.getfield 90, 3) := by decide +kernel
theorem dX4_told_11 : decode cX4_told 11 = .ok (.ireturn, 1) := by decide +kernel
theorem dX4_told_12 : decode cX4_told 12 = .ok (.iload_n 1, 1) := by decide +kernel
theorem dX4_told_13 : decode cX4_told 13 = .ok (.iconst 1, 1) := by decide +kernel
theorem dX4_told_14 : decode cX4_told 14 = .ok (.if_icmp .ne 11, 3) := by decide +kernel
theorem dX4_told_17 : decode cX4_told 17 = .ok (.aload_n 0, 1) := by decide +kernel
theorem dX4_told_18 : decode cX4_told 18 = .ok (.getfield 10, 3) := by decide +kernel
theorem dX4_told_21 : decode cX4_told 21 = .ok (.getfield 83, 3) := by decide +kernel
theorem dX4_told_24 : decode cX4_told 24 = .ok (.ireturn, 1) := by decide +kernel
theorem dX4_told_25 : decode cX4_told 25 = .ok (.iload_n 1, 1) := by decide +kernel
theorem dX4_told_26 : decode cX4_told 26 = .ok (.iconst 2, 1) := by decide +kernel
theorem dX4_told_27 : decode cX4_told 27 = .ok (.if_icmp .ne 11, 3) := by decide +kernel
theorem dX4_told_30 : decode cX4_told 30 = .ok (.aload_n 0, 1) := by decide +kernel
theorem dX4_told_31 : decode cX4_told 31 = .ok (.getfield 10, 3) := by decide +kernel
theorem dX4_told_34 : decode cX4_told 34 = .ok (.getfield 206, 3) := by decide +kernel
theorem dX4_told_37 : decode cX4_told 37 = .ok (.ireturn, 1) := by decide +kernel
theorem dX4_told_38 : decode cX4_told 38 = .ok (.iload_n 1, 1) := by decide +kernel
theorem dX4_told_39 : decode cX4_told 39 = .ok (.bipush 10, 2) := by decide +kernel
theorem dX4_told_41 : decode cX4_told 41 = .ok (.irem, 1) := by decide +kernel
theorem dX4_told_42 : decode cX4_told 42 = .ok (.istore_n 2, 1) := by decide +kernel
theorem dX4_told_43 : decode cX4_told 43 = .ok (.iload_n 1, 1) := by decide +kernel
theorem dX4_told_44 : decode cX4_told 44 = .ok (.bipush 10, 2) := by decide +kernel
theorem dX4_told_46 : decode cX4_told 46 = .ok (.if_icmp .lt 9, 3) := by decide +kernel
theorem dX4_told_49 : decode cX4_told 49 = .ok (.iload_n 2, 1) := by decide +kernel
theorem dX4_told_50 : decode cX4_told 50 = .ok (.bipush 6, 2) := by decide +kernel
theorem dX4_told_52 : decode cX4_told 52 = .ok (.if_icmp .lt 6, 3) := by decide +kernel
theorem dX4_told_55 : decode cX4_told 55 = .ok (.bipush (-2), 2) := by decide +kernel
theorem dX4_told_57 : decode cX4_told 57 = .ok (.ireturn, 1) := by decide +kernel
theorem dX4_told_58 : decode cX4_told 58 = .ok (.iload_n 1, 1) := by decide +kernel
theorem dX4_told_59 : decode cX4_told 59 = .ok (.bipush 10, 2) := by decide +kernel
theorem dX4_told_61 : decode cX4_told 61 = .ok (.idiv, 1) := by decide +kernel
theorem dX4_told_62 : decode cX4_told 62 = .ok (.tableswitch 108 1 4 #[30, 42, 54, 96], 30) := by decide +kernel
theorem dX4_told_92 : decode cX4_told 92 = .ok (.aload_n 0, 1) := by decide +kernel
theorem dX4_told_93 : decode cX4_told 93 = .ok (.getfield 10, 3) := by decide +kernel
theorem dX4_told_96 : decode cX4_told 96 = .ok (.getfield 62, 3) := by decide +kernel
theorem dX4_told_99 : decode cX4_told 99 = .ok (.iload_n 2, 1) := by decide +kernel
theorem dX4_told_100 : decode cX4_told 100 = .ok (.invokestatic 134, 3) := by decide +kernel
theorem dX4_told_103 : decode cX4_told 103 = .ok (.ireturn, 1) := by decide +kernel
theorem dX4_told_104 : decode cX4_told 104 = .ok (.aload_n 0, 1) := by decide +kernel
theorem dX4_told_105 : decode cX4_told 105 = .ok (.getfield 10, 3) := by decide +kernel
theorem dX4_told_108 : decode cX4_told 108 = .ok (.getfield 69, 3) := by decide +kernel
theorem dX4_told_111 : decode cX4_told 111 = .ok (.iload_n 2, 1) := by decide +kernel
theorem dX4_told_112 : decode cX4_told 112 = .ok (.invokestatic 134, 3) := by decide +kernel
theorem dX4_told_115 : decode cX4_told 115 = .ok (.ireturn, 1) := by decide +kernel
theorem dX4_told_116 : decode cX4_told 116 = .ok (.bipush 100, 2) := by decide +kernel
theorem dX4_told_118 : decode cX4_told 118 = .ok (.aload_n 0, 1) := by decide +kernel
theorem dX4_told_119 : decode cX4_told 119 = .ok (.getfield 10, 3) := by decide +kernel
theorem dX4_told_122 : decode cX4_told 122 = .ok (.getfield 233, 3) := by decide +kernel
theorem dX4_told_125 : decode cX4_told 125 = .ok (.iload_n 2, 1) := by decide +kernel
theorem dX4_told_126 : decode cX4_told 126 = .ok (.invokestatic 134, 3) := by decide +kernel
theorem dX4_told_129 : decode cX4_told 129 = .ok (.imul, 1) := by decide +kernel
theorem dX4_told_130 : decode cX4_told 130 = .ok (.bipush 10, 2) := by decide +kernel
theorem dX4_told_132 : decode cX4_told 132 = .ok (.aload_n 0, 1) := by decide +kernel
theorem dX4_told_133 : decode cX4_told 133 = .ok (.getfield 10, 3) := by decide +kernel
theorem dX4_told_136 : decode cX4_told 136 = .ok (.getfield 236, 3) := by decide +kernel
theorem dX4_told_139 : decode cX4_told 139 = .ok (.iload_n 2, 1) := by decide +kernel
theorem dX4_told_140 : decode cX4_told 140 = .ok (.invokestatic 134, 3) := by decide +kernel
theorem dX4_told_143 : decode cX4_told 143 = .ok (.imul, 1) := by decide +kernel
theorem dX4_told_144 : decode cX4_told 144 = .ok (.iadd, 1) := by decide +kernel
theorem dX4_told_145 : decode cX4_told 145 = .ok (.aload_n 0, 1) := by decide +kernel
theorem dX4_told_146 : decode cX4_told 146 = .ok (.getfield 10, 3) := by decide +kernel
theorem dX4_told_149 : decode cX4_told 149 = .ok (.getfield 239, 3) := by decide +kernel
theorem dX4_told_152 : decode cX4_told 152 = .ok (.iload_n 2, 1) := by decide +kernel
theorem dX4_told_153 : decode cX4_told 153 = .ok (.invokestatic 134, 3) := by decide +kernel
theorem dX4_told_156 : decode cX4_told 156 = .ok (.iadd, 1) := by decide +kernel
theorem dX4_told_157 : decode cX4_told 157 = .ok (.ireturn, 1) := by decide +kernel
theorem dX4_told_158 : decode cX4_told 158 = .ok (.aload_n 0, 1) := by decide +kernel
theorem dX4_told_159 : decode cX4_told 159 = .ok (.getfield 10, 3) := by decide +kernel
theorem dX4_told_162 : decode cX4_told 162 = .ok (.getfield 186, 3) := by decide +kernel
theorem dX4_told_165 : decode cX4_told 165 = .ok (.iload_n 2, 1) := by decide +kernel
theorem dX4_told_166 : decode cX4_told 166 = .ok (.invokestatic 134, 3) := by decide +kernel
theorem dX4_told_169 : decode cX4_told 169 = .ok (.ireturn, 1) := by decide +kernel
theorem dX4_told_170 : decode cX4_told 170 = .ok (.bipush (-2), 2) := by decide +kernel
theorem dX4_told_172 : decode cX4_told 172 = .ok (.ireturn, 1) := by decide +kernel
theorem dX4_within_0 : decode cX4_within 0 = .ok (.iload_n 0, 1) := by decide +kernel
theorem dX4_within_1 : decode cX4_within 1 = .ok (.iload_n 1, 1) := by decide +kernel
theorem dX4_within_2 : decode cX4_within 2 = .ok (.if_icmp .lt 12, 3) := by decide +kernel
theorem dX4_within_5 : decode cX4_within 5 = .ok (.iload_n 0, 1) := by decide +kernel
theorem dX4_within_6 : decode cX4_within 6 = .ok (.iload_n 2, 1) := by decide +kernel
theorem dX4_within_7 : decode cX4_within 7 = .ok (.if_icmp .gt 7, 3) := by decide +kernel
theorem dX4_within_10 : decode cX4_within 10 = .ok (.iconst 1, 1) := by decide +kernel
theorem dX4_within_11 : decode cX4_within 11 = .ok (.goto 4, 3) := by decide +kernel
theorem dX4_within_14 : decode cX4_within 14 = .ok (.iconst 0, 1) := by decide +kernel
theorem dX4_within_15 : decode cX4_within 15 = .ok (.ireturn, 1) := by decide +kernel
set_option maxRecDepth 20000 in
theorem ggX4_isPerson_X4_within : GoodIn wsX4_isPerson wsX4_within := goodIn_r _ [4] (by decide +kernel) (by decide +kernel)
set_option maxRecDepth 20000 in
theorem gX4_isPerson_X4_within : GoodIn wsX4_isPerson (va_wsS RX4 79 yX4_within wsX4_within) := goodIn_app (goodIn_of _ (by decide +kernel)) ggX4_isPerson_X4_within
theorem dX4_isPerson_0 : decode cX4_isPerson 0 = .ok (.iload_n 0, 1) := by decide +kernel
theorem dX4_isPerson_1 : decode cX4_isPerson 1 = .ok (.iconst 0, 1) := by decide +kernel
theorem dX4_isPerson_2 : decode cX4_isPerson 2 = .ok (.iconst 5, 1) := by decide +kernel
theorem dX4_isPerson_3 : decode cX4_isPerson 3 = .ok (.invokestatic 79, 3) := by decide +kernel
theorem dX4_isPerson_6 : decode cX4_isPerson 6 = .ok (.ireturn, 1) := by decide +kernel
set_option maxRecDepth 20000 in
theorem ggX4_isPersonOrAll_X4_isPerson : GoodIn wsX4_isPersonOrAll wsX4_isPerson := goodIn_r _ [4, 5, 6, 3, 7] (by decide +kernel) (by decide +kernel)
set_option maxRecDepth 20000 in
theorem gX4_isPersonOrAll_X4_isPerson : GoodIn wsX4_isPersonOrAll (va_wsS RX4 55 yX4_isPerson wsX4_isPerson) := goodIn_app (goodIn_of _ (by decide +kernel)) ggX4_isPersonOrAll_X4_isPerson
theorem dX4_isPersonOrAll_0 : decode cX4_isPersonOrAll 0 = .ok (.iload_n 0, 1) := by decide +kernel
theorem dX4_isPersonOrAll_1 : decode cX4_isPersonOrAll 1 = .ok (.iconst (-1), 1) := by decide +kernel
theorem dX4_isPersonOrAll_2 : decode cX4_isPersonOrAll 2 = .ok (.if_icmp .eq 10, 3) := by decide +kernel
theorem dX4_isPersonOrAll_5 : decode cX4_isPersonOrAll 5 = .ok (.iload_n 0, 1) := by decide +kernel
theorem dX4_isPersonOrAll_6 : decode cX4_isPersonOrAll 6 = .ok (.invokestatic 55, 3) := by decide +kernel
theorem dX4_isPersonOrAll_9 : decode cX4_isPersonOrAll 9 = .ok (.ifCond .eq 7, 3) := by decide +kernel
theorem dX4_isPersonOrAll_12 : decode cX4_isPersonOrAll 12 = .ok (.iconst 1, 1) := by decide +kernel
theorem dX4_isPersonOrAll_13 : decode cX4_isPersonOrAll 13 = .ok (.goto 4, 3) := by decide +kernel
theorem dX4_isPersonOrAll_16 : decode cX4_isPersonOrAll 16 = .ok (.iconst 0, 1) := by decide +kernel
theorem dX4_isPersonOrAll_17 : decode cX4_isPersonOrAll 17 = .ok (.ireturn, 1) := by decide +kernel
set_option maxRecDepth 20000 in
theorem ggX4_isIsland_X4_within : GoodIn wsX4_isIsland wsX4_within := goodIn_r _ [4] (by decide +kernel) (by decide +kernel)
set_option maxRecDepth 20000 in
theorem gX4_isIsland_X4_within : GoodIn wsX4_isIsland (va_wsS RX4 79 yX4_within wsX4_within) := goodIn_app (goodIn_of _ (by decide +kernel)) ggX4_isIsland_X4_within
theorem dX4_isIsland_0 : decode cX4_isIsland 0 = .ok (.iload_n 0, 1) := by decide +kernel
theorem dX4_isIsland_1 : decode cX4_isIsland 1 = .ok (.iconst 0, 1) := by decide +kernel
theorem dX4_isIsland_2 : decode cX4_isIsland 2 = .ok (.iconst 5, 1) := by decide +kernel
theorem dX4_isIsland_3 : decode cX4_isIsland 3 = .ok (.invokestatic 79, 3) := by decide +kernel
theorem dX4_isIsland_6 : decode cX4_isIsland 6 = .ok (.ireturn, 1) := by decide +kernel
set_option maxRecDepth 20000 in
theorem ggX4_isPlank_X4_within : GoodIn wsX4_isPlank wsX4_within := goodIn_r _ [4] (by decide +kernel) (by decide +kernel)
set_option maxRecDepth 20000 in
theorem gX4_isPlank_X4_within : GoodIn wsX4_isPlank (va_wsS RX4 79 yX4_within wsX4_within) := goodIn_app (goodIn_of _ (by decide +kernel)) ggX4_isPlank_X4_within
theorem dX4_isPlank_0 : decode cX4_isPlank 0 = .ok (.iload_n 0, 1) := by decide +kernel
theorem dX4_isPlank_1 : decode cX4_isPlank 1 = .ok (.iconst 0, 1) := by decide +kernel
theorem dX4_isPlank_2 : decode cX4_isPlank 2 = .ok (.iconst 5, 1) := by decide +kernel
theorem dX4_isPlank_3 : decode cX4_isPlank 3 = .ok (.invokestatic 79, 3) := by decide +kernel
theorem dX4_isPlank_6 : decode cX4_isPlank 6 = .ok (.ireturn, 1) := by decide +kernel
set_option maxRecDepth 20000 in
theorem ggX4_isParty_X4_within : GoodIn wsX4_isParty wsX4_within := goodIn_r _ [4] (by decide +kernel) (by decide +kernel)
set_option maxRecDepth 20000 in
theorem gX4_isParty_X4_within : GoodIn wsX4_isParty (va_wsS RX4 79 yX4_within wsX4_within) := goodIn_app (goodIn_of _ (by decide +kernel)) ggX4_isParty_X4_within
theorem dX4_isParty_0 : decode cX4_isParty 0 = .ok (.iload_n 0, 1) := by decide +kernel
theorem dX4_isParty_1 : decode cX4_isParty 1 = .ok (.iconst 1, 1) := by decide +kernel
theorem dX4_isParty_2 : decode cX4_isParty 2 = .ok (.bipush 6, 2) := by decide +kernel
theorem dX4_isParty_4 : decode cX4_isParty 4 = .ok (.invokestatic 79, 3) := by decide +kernel
theorem dX4_isParty_7 : decode cX4_isParty 7 = .ok (.ireturn, 1) := by decide +kernel
theorem dX4_isChoice_0 : decode cX4_isChoice 0 = .ok (.iload_n 0, 1) := by decide +kernel
theorem dX4_isChoice_1 : decode cX4_isChoice 1 = .ok (.ifCond .eq 8, 3) := by decide +kernel
theorem dX4_isChoice_4 : decode cX4_isChoice 4 = .ok (.iload_n 0, 1) := by decide +kernel
theorem dX4_isChoice_5 : decode cX4_isChoice 5 = .ok (.iconst 1, 1) := by decide +kernel
theorem dX4_isChoice_6 : decode cX4_isChoice 6 = .ok (.if_icmp .ne 7, 3) := by decide +kernel
theorem dX4_isChoice_9 : decode cX4_isChoice 9 = .ok (.iconst 1, 1) := by decide +kernel
theorem dX4_isChoice_10 : decode cX4_isChoice 10 = .ok (.goto 4, 3) := by decide +kernel
theorem dX4_isChoice_13 : decode cX4_isChoice 13 = .ok (.iconst 0, 1) := by decide +kernel
theorem dX4_isChoice_14 : decode cX4_isChoice 14 = .ok (.ireturn, 1) := by decide +kernel
theorem dX4_at_0 : decode cX4_at 0 = .ok (.iload_n 1, 1) := by decide +kernel
theorem dX4_at_1 : decode cX4_at 1 = .ok (.ifCond .lt 15, 3) := by decide +kernel
theorem dX4_at_4 : decode cX4_at 4 = .ok (.iload_n 1, 1) := by decide +kernel
theorem dX4_at_5 : decode cX4_at 5 = .ok (.aload_n 0, 1) := by decide +kernel
theorem dX4_at_6 : decode cX4_at 6 = .ok (.arraylength, 1) := by decide +kernel
theorem dX4_at_7 : decode cX4_at 7 = .ok (.if_icmp .ge 9, 3) := by decide +kernel
theorem dX4_at_10 : decode cX4_at 10 = .ok (.aload_n 0, 1) := by decide +kernel
theorem dX4_at_11 : decode cX4_at 11 = .ok (.iload_n 1, 1) := by decide +kernel
theorem dX4_at_12 : decode cX4_at 12 = .ok (.iaload, 1) := by decide +kernel
theorem dX4_at_13 : decode cX4_at 13 = .ok (.goto 4, 3) := by decide +kernel
theorem dX4_at_16 : decode cX4_at 16 = .ok (.iconst 0, 1) := by decide +kernel
theorem dX4_at_17 : decode cX4_at 17 = .ok (.ireturn, 1) := by decide +kernel
theorem dX4_put_0 : decode cX4_put 0 = .ok (.iload_n 1, 1) := by decide +kernel
theorem dX4_put_1 : decode cX4_put 1 = .ok (.ifCond .lt 13, 3) := by decide +kernel
theorem dX4_put_4 : decode cX4_put 4 = .ok (.iload_n 1, 1) := by decide +kernel
theorem dX4_put_5 : decode cX4_put 5 = .ok (.aload_n 0, 1) := by decide +kernel
theorem dX4_put_6 : decode cX4_put 6 = .ok (.arraylength, 1) := by decide +kernel
theorem dX4_put_7 : decode cX4_put 7 = .ok (.if_icmp .ge 7, 3) := by decide +kernel
theorem dX4_put_10 : decode cX4_put 10 = .ok (.aload_n 0, 1) := by decide +kernel
theorem dX4_put_11 : decode cX4_put 11 = .ok (.iload_n 1, 1) := by decide +kernel
theorem dX4_put_12 : decode cX4_put 12 = .ok (.iload_n 2, 1) := by decide +kernel
theorem dX4_put_13 : decode cX4_put 13 = .ok (.iastore, 1) := by decide +kernel
theorem dX4_put_14 : decode cX4_put 14 = .ok (.return_, 1) := by decide +kernel
set_option maxRecDepth 20000 in
theorem ggX4_hasBit_X4_at : GoodIn wsX4_hasBit wsX4_at := goodIn_r _ [4] (by decide +kernel) (by decide +kernel)
set_option maxRecDepth 20000 in
theorem gX4_hasBit_X4_at : GoodIn wsX4_hasBit (va_wsS RX4 134 yX4_at wsX4_at) := goodIn_app (goodIn_of _ (by decide +kernel)) ggX4_hasBit_X4_at
theorem dX4_hasBit_0 : decode cX4_hasBit 0 = .ok (.aload_n 0, 1) := by decide +kernel
theorem dX4_hasBit_1 : decode cX4_hasBit 1 = .ok (.iload_n 1, 1) := by decide +kernel
theorem dX4_hasBit_2 : decode cX4_hasBit 2 = .ok (.invokestatic 134, 3) := by decide +kernel
theorem dX4_hasBit_5 : decode cX4_hasBit 5 = .ok (.iload_n 2, 1) := by decide +kernel
theorem dX4_hasBit_6 : decode cX4_hasBit 6 = .ok (.ishr, 1) := by decide +kernel
theorem dX4_hasBit_7 : decode cX4_hasBit 7 = .ok (.iconst 1, 1) := by decide +kernel
theorem dX4_hasBit_8 : decode cX4_hasBit 8 = .ok (.iand, 1) := by decide +kernel
theorem dX4_hasBit_9 : decode cX4_hasBit 9 = .ok (.iconst 1, 1) := by decide +kernel
theorem dX4_hasBit_10 : decode cX4_hasBit 10 = .ok (.if_icmp .ne 7, 3) := by decide +kernel
theorem dX4_hasBit_13 : decode cX4_hasBit 13 = .ok (.iconst 1, 1) := by decide +kernel
theorem dX4_hasBit_14 : decode cX4_hasBit 14 = .ok (.goto 4, 3) := by decide +kernel
theorem dX4_hasBit_17 : decode cX4_hasBit 17 = .ok (.iconst 0, 1) := by decide +kernel
theorem dX4_hasBit_18 : decode cX4_hasBit 18 = .ok (.ireturn, 1) := by decide +kernel
set_option maxRecDepth 20000 in
theorem ggX4_putBit_X4_at : GoodIn wsX4_putBit wsX4_at := goodIn_r _ [4] (by decide +kernel) (by decide +kernel)
set_option maxRecDepth 20000 in
theorem gX4_putBit_X4_at : GoodIn wsX4_putBit (va_wsS RX4 134 yX4_at wsX4_at) := goodIn_app (goodIn_of _ (by decide +kernel)) ggX4_putBit_X4_at
set_option maxRecDepth 20000 in
theorem ggX4_putBit_X4_put : GoodIn wsX4_putBit wsX4_put := goodIn_r _ [7] (by decide +kernel) (by decide +kernel)
set_option maxRecDepth 20000 in
theorem gX4_putBit_X4_put : GoodIn wsX4_putBit (va_wsS RX4 189 yX4_put wsX4_put) := goodIn_app (goodIn_of _ (by decide +kernel)) ggX4_putBit_X4_put
theorem dX4_putBit_0 : decode cX4_putBit 0 = .ok (.aload_n 0, 1) := by decide +kernel
theorem dX4_putBit_1 : decode cX4_putBit 1 = .ok (.iload_n 1, 1) := by decide +kernel
theorem dX4_putBit_2 : decode cX4_putBit 2 = .ok (.invokestatic 134, 3) := by decide +kernel
theorem dX4_putBit_5 : decode cX4_putBit 5 = .ok (.iconst 1, 1) := by decide +kernel
theorem dX4_putBit_6 : decode cX4_putBit 6 = .ok (.iload_n 2, 1) := by decide +kernel
theorem dX4_putBit_7 : decode cX4_putBit 7 = .ok (.ishl, 1) := by decide +kernel
theorem dX4_putBit_8 : decode cX4_putBit 8 = .ok (.iconst (-1), 1) := by decide +kernel
theorem dX4_putBit_9 : decode cX4_putBit 9 = .ok (.ixor, 1) := by decide +kernel
theorem dX4_putBit_10 : decode cX4_putBit 10 = .ok (.iand, 1) := by decide +kernel
theorem dX4_putBit_11 : decode cX4_putBit 11 = .ok (.istore 4, 2) := by decide +kernel
theorem dX4_putBit_13 : decode cX4_putBit 13 = .ok (.aload_n 0, 1) := by decide +kernel
theorem dX4_putBit_14 : decode cX4_putBit 14 = .ok (.iload_n 1, 1) := by decide +kernel
theorem dX4_putBit_15 : decode cX4_putBit 15 = .ok (.iload_n 3, 1) := by decide +kernel
theorem dX4_putBit_16 : decode cX4_putBit 16 = .ok (.ifCond .eq 12, 3) := by decide +kernel
theorem dX4_putBit_19 : decode cX4_putBit 19 = .ok (.iload 4, 2) := by decide +kernel
theorem dX4_putBit_21 : decode cX4_putBit 21 = .ok (.iconst 1, 1) := by decide +kernel
theorem dX4_putBit_22 : decode cX4_putBit 22 = .ok (.iload_n 2, 1) := by decide +kernel
theorem dX4_putBit_23 : decode cX4_putBit 23 = .ok (.ishl, 1) := by decide +kernel
theorem dX4_putBit_24 : decode cX4_putBit 24 = .ok (.ior, 1) := by decide +kernel
theorem dX4_putBit_25 : decode cX4_putBit 25 = .ok (.goto 5, 3) := by decide +kernel
theorem dX4_putBit_28 : decode cX4_putBit 28 = .ok (.iload 4, 2) := by decide +kernel
theorem dX4_putBit_30 : decode cX4_putBit 30 = .ok (.invokestatic 189, 3) := by decide +kernel
theorem dX4_putBit_33 : decode cX4_putBit 33 = .ok (.return_, 1) := by decide +kernel
set_option maxRecDepth 20000 in
theorem ggX4_copy_X4_at : GoodIn wsX4_copy wsX4_at := goodIn_r _ [4] (by decide +kernel) (by decide +kernel)
set_option maxRecDepth 20000 in
theorem gX4_copy_X4_at : GoodIn wsX4_copy (va_wsS RX4 134 yX4_at wsX4_at) := goodIn_app (goodIn_of _ (by decide +kernel)) ggX4_copy_X4_at
theorem dX4_copy_0 : decode cX4_copy 0 = .ok (.iconst 0, 1) := by decide +kernel
theorem dX4_copy_1 : decode cX4_copy 1 = .ok (.istore_n 2, 1) := by decide +kernel
theorem dX4_copy_2 : decode cX4_copy 2 = .ok (.iload_n 2, 1) := by decide +kernel
theorem dX4_copy_3 : decode cX4_copy 3 = .ok (.aload_n 1, 1) := by decide +kernel
theorem dX4_copy_4 : decode cX4_copy 4 = .ok (.arraylength, 1) := by decide +kernel
theorem dX4_copy_5 : decode cX4_copy 5 = .ok (.if_icmp .ge 17, 3) := by decide +kernel
theorem dX4_copy_8 : decode cX4_copy 8 = .ok (.aload_n 1, 1) := by decide +kernel
theorem dX4_copy_9 : decode cX4_copy 9 = .ok (.iload_n 2, 1) := by decide +kernel
theorem dX4_copy_10 : decode cX4_copy 10 = .ok (.aload_n 0, 1) := by decide +kernel
theorem dX4_copy_11 : decode cX4_copy 11 = .ok (.iload_n 2, 1) := by decide +kernel
theorem dX4_copy_12 : decode cX4_copy 12 = .ok (.invokestatic 134, 3) := by decide +kernel
theorem dX4_copy_15 : decode cX4_copy 15 = .ok (.iastore, 1) := by decide +kernel
theorem dX4_copy_16 : decode cX4_copy 16 = .ok (.iinc 2 1, 3) := by decide +kernel
theorem dX4_copy_19 : decode cX4_copy 19 = .ok (.goto (-17), 3) := by decide +kernel
theorem dX4_copy_22 : decode cX4_copy 22 = .ok (.return_, 1) := by decide +kernel
theorem dX4_sharedDivisor_0 : decode cX4_sharedDivisor 0 = .ok (.lload_n 0, 1) := by decide +kernel
theorem dX4_sharedDivisor_1 : decode cX4_sharedDivisor 1 = .ok (.lstore 4, 2) := by decide +kernel
theorem dX4_sharedDivisor_3 : decode cX4_sharedDivisor 3 = .ok (.lload_n 2, 1) := by decide +kernel
theorem dX4_sharedDivisor_4 : decode cX4_sharedDivisor 4 = .ok (.lstore 6, 2) := by decide +kernel
theorem dX4_sharedDivisor_6 : decode cX4_sharedDivisor 6 = .ok (.iconst 0, 1) := by decide +kernel
theorem dX4_sharedDivisor_7 : decode cX4_sharedDivisor 7 = .ok (.istore 8, 2) := by decide +kernel
theorem dX4_sharedDivisor_9 : decode cX4_sharedDivisor 9 = .ok (.iload 8, 2) := by decide +kernel
theorem dX4_sharedDivisor_11 : decode cX4_sharedDivisor 11 = .ok (.bipush 100, 2) := by decide +kernel
theorem dX4_sharedDivisor_13 : decode cX4_sharedDivisor 13 = .ok (.if_icmp .ge 31, 3) := by decide +kernel
theorem dX4_sharedDivisor_16 : decode cX4_sharedDivisor 16 = .ok (.lload 6, 2) := by decide +kernel
theorem dX4_sharedDivisor_18 : decode cX4_sharedDivisor 18 = .ok (.lconst 0, 1) := by decide +kernel
theorem dX4_sharedDivisor_19 : decode cX4_sharedDivisor 19 = .ok (.lcmp, 1) := by decide +kernel
theorem dX4_sharedDivisor_20 : decode cX4_sharedDivisor 20 = .ok (.ifCond .eq 24, 3) := by decide +kernel
theorem dX4_sharedDivisor_23 : decode cX4_sharedDivisor 23 = .ok (.lload 4, 2) := by decide +kernel
theorem dX4_sharedDivisor_25 : decode cX4_sharedDivisor 25 = .ok (.lload 6, 2) := by decide +kernel
theorem dX4_sharedDivisor_27 : decode cX4_sharedDivisor 27 = .ok (.lrem, 1) := by decide +kernel
theorem dX4_sharedDivisor_28 : decode cX4_sharedDivisor 28 = .ok (.lstore 9, 2) := by decide +kernel
theorem dX4_sharedDivisor_30 : decode cX4_sharedDivisor 30 = .ok (.lload 6, 2) := by decide +kernel
theorem dX4_sharedDivisor_32 : decode cX4_sharedDivisor 32 = .ok (.lstore 4, 2) := by decide +kernel
theorem dX4_sharedDivisor_34 : decode cX4_sharedDivisor 34 = .ok (.lload 9, 2) := by decide +kernel
theorem dX4_sharedDivisor_36 : decode cX4_sharedDivisor 36 = .ok (.lstore 6, 2) := by decide +kernel
theorem dX4_sharedDivisor_38 : decode cX4_sharedDivisor 38 = .ok (.iinc 8 1, 3) := by decide +kernel
theorem dX4_sharedDivisor_41 : decode cX4_sharedDivisor 41 = .ok (.goto (-32), 3) := by decide +kernel
theorem dX4_sharedDivisor_44 : decode cX4_sharedDivisor 44 = .ok (.lload 4, 2) := by decide +kernel
theorem dX4_sharedDivisor_46 : decode cX4_sharedDivisor 46 = .ok (.lreturn, 1) := by decide +kernel
set_option maxRecDepth 20000 in
theorem ggX4_refusalOfText_X2_read : GoodIn wsX4_refusalOfText wsX2_read := goodIn_r _ [7, 8, 9, 10, 11, 12, 13, 14, 15, 16, 17, 6, 18, 19, 20, 21, 22, 23, 24, 25, 26, 27, 28, 29, 30, 31, 32, 33, 34, 35, 36, 37, 38, 39, 40, 41, 42, 43, 44, 45, 46, 47, 48, 49, 50, 51, 59, 60, 61, 62, 63, 64, 65, 66] (by decide +kernel) (by decide +kernel)
set_option maxRecDepth 20000 in
theorem gX4_refusalOfText_X2_read : GoodIn wsX4_refusalOfText (wsV RX4 96 RX2 yX2_read wsX2_read) := goodIn_app (goodIn_of _ (by decide +kernel)) ggX4_refusalOfText_X2_read
theorem dX4_refusalOfText_0 : decode cX4_refusalOfText 0 = .ok (.aload_n 0, 1) := by decide +kernel
theorem dX4_refusalOfText_1 : decode cX4_refusalOfText 1 = .ok (.getfield 23, 3) := by decide +kernel
theorem dX4_refusalOfText_4 : decode cX4_refusalOfText 4 = .ok (.invokevirtual 96, 3) := by decide +kernel
theorem dX4_refusalOfText_7 : decode cX4_refusalOfText 7 = .ok (.bipush (-6), 2) := by decide +kernel
theorem dX4_refusalOfText_9 : decode cX4_refusalOfText 9 = .ok (.if_icmp .eq 6, 3) := by decide +kernel
theorem dX4_refusalOfText_12 : decode cX4_refusalOfText 12 = .ok (.bipush (-5), 2) := by decide +kernel
theorem dX4_refusalOfText_14 : decode cX4_refusalOfText 14 = .ok (.ireturn, 1) := by decide +kernel
theorem dX4_refusalOfText_15 : decode cX4_refusalOfText 15 = .ok (.aload_n 0, 1) := by decide +kernel
theorem dX4_refusalOfText_16 : decode cX4_refusalOfText 16 = .ok (.getfield 23, 3) := by decide +kernel
theorem dX4_refusalOfText_19 : decode cX4_refusalOfText 19 = .ok (.getfield 215, 3) := by decide +kernel
theorem dX4_refusalOfText_22 : decode cX4_refusalOfText 22 = .ok (.ifCond .le 8, 3) := by decide +kernel
theorem dX4_refusalOfText_25 : decode cX4_refusalOfText 25 = .ok (.bipush (-3), 2) := by decide +kernel
theorem dX4_refusalOfText_27 : decode cX4_refusalOfText 27 = .ok (.goto 4, 3) := by decide +kernel
theorem dX4_refusalOfText_30 : decode cX4_refusalOfText 30 = .ok (.iconst 0, 1) := by decide +kernel
theorem dX4_refusalOfText_31 : decode cX4_refusalOfText 31 = .ok (.ireturn, 1) := by decide +kernel
set_option maxRecDepth 20000 in
theorem ggX4_beliefOrLoad_X0_load : GoodIn wsX4_beliefOrLoad wsX0_load := goodIn_r _ [5, 6, 7, 8, 4, 9, 10, 12] (by decide +kernel) (by decide +kernel)
set_option maxRecDepth 20000 in
theorem gX4_beliefOrLoad_X0_load : GoodIn wsX4_beliefOrLoad (wsV RX4 142 RX0 yX0_load wsX0_load) := goodIn_app (goodIn_of _ (by decide +kernel)) ggX4_beliefOrLoad_X0_load
set_option maxRecDepth 20000 in
theorem ggX4_beliefOrLoad_X0_of : GoodIn wsX4_beliefOrLoad wsX0_of := goodIn_r _ [9, 10, 12] (by decide +kernel) (by decide +kernel)
set_option maxRecDepth 20000 in
theorem gX4_beliefOrLoad_X0_of : GoodIn wsX4_beliefOrLoad (wsV RX4 242 RX0 yX0_of wsX0_of) := goodIn_app (goodIn_of _ (by decide +kernel)) ggX4_beliefOrLoad_X0_of
theorem dX4_beliefOrLoad_0 : decode cX4_beliefOrLoad 0 = .ok (.iload_n 2, 1) := by decide +kernel
theorem dX4_beliefOrLoad_1 : decode cX4_beliefOrLoad 1 = .ok (.iconst (-1), 1) := by decide +kernel
theorem dX4_beliefOrLoad_2 : decode cX4_beliefOrLoad 2 = .ok (.if_icmp .ne 12, 3) := by decide +kernel
theorem dX4_beliefOrLoad_5 : decode cX4_beliefOrLoad 5 = .ok (.aload_n 0, 1) := by decide +kernel
theorem dX4_beliefOrLoad_6 : decode cX4_beliefOrLoad 6 = .ok (.iload_n 1, 1) := by decide +kernel
theorem dX4_beliefOrLoad_7 : decode cX4_beliefOrLoad 7 = .ok (.iconst 0, 1) := by decide +kernel
theorem dX4_beliefOrLoad_8 : decode cX4_beliefOrLoad 8 = .ok (.invokevirtual 142, 3) := by decide +kernel
theorem dX4_beliefOrLoad_11 : decode cX4_beliefOrLoad 11 = .ok (.goto 9, 3) := by decide +kernel
theorem dX4_beliefOrLoad_14 : decode cX4_beliefOrLoad 14 = .ok (.aload_n 0, 1) := by decide +kernel
theorem dX4_beliefOrLoad_15 : decode cX4_beliefOrLoad 15 = .ok (.iload_n 1, 1) := by decide +kernel
theorem dX4_beliefOrLoad_16 : decode cX4_beliefOrLoad 16 = .ok (.iload_n 2, 1) := by decide +kernel
theorem dX4_beliefOrLoad_17 : decode cX4_beliefOrLoad 17 = .ok (.invokevirtual 242, 3) := by decide +kernel
theorem dX4_beliefOrLoad_20 : decode cX4_beliefOrLoad 20 = .ok (.ireturn, 1) := by decide +kernel
set_option maxRecDepth 20000 in
theorem ggX4_play_X4_takesEffect : GoodIn wsX4_play wsX4_takesEffect := goodIn_r _ [7, 1, 8, 9, 10, 11, 12, 13, 14, 15, 6, 16, 17, 18, 19, 20, 21, 22, 23, 24, 25, 26, 27, 28, 29, 30, 31, 32, 33, 34, 35, 36, 37, 38, 39, 40, 41, 42, 43, 44, 45, 46, 47, 48, 49, 50, 51, 52, 53, 54, 55, 56, 57, 58, 59, 60, 61, 62, 63, 64, 65, 66, 67, 68, 69, 70, 71, 72, 73, 74, 75, 76, 77, 78] (by decide +kernel) (by decide +kernel)
set_option maxRecDepth 20000 in
theorem gX4_play_X4_takesEffect : GoodIn wsX4_play (wsV RX4 110 RX4 yX4_takesEffect wsX4_takesEffect) := goodIn_app (goodIn_of _ (by decide +kernel)) ggX4_play_X4_takesEffect
theorem dX4_play_0 : decode cX4_play 0 = .ok (.iconst 0, 1) := by decide +kernel
theorem dX4_play_1 : decode cX4_play 1 = .ok (.istore_n 2, 1) := by decide +kernel
theorem dX4_play_2 : decode cX4_play 2 = .ok (.iload_n 2, 1) := by decide +kernel
theorem dX4_play_3 : decode cX4_play 3 = .ok (.aload_n 0, 1) := by decide +kernel
theorem dX4_play_4 : decode cX4_play 4 = .ok (.getfield 23, 3) := by decide +kernel
theorem dX4_play_7 : decode cX4_play 7 = .ok (.getfield 107, 3) := by decide +kernel
theorem dX4_play_10 : decode cX4_play 10 = .ok (.if_icmp .ge 16, 3) := by decide +kernel
theorem dX4_play_13 : decode cX4_play 13 = .ok (.aload_n 0, 1) := by decide +kernel
theorem dX4_play_14 : decode cX4_play 14 = .ok (.iload_n 2, 1) := by decide +kernel
theorem dX4_play_15 : decode cX4_play 15 = .ok (.aload_n 1, 1) := by decide +kernel
theorem dX4_play_16 : decode cX4_play 16 = .ok (.invokevirtual 110, 3) := by decide +kernel
theorem dX4_play_19 : decode cX4_play 19 = .ok (.pop, 1) := by decide +kernel
theorem dX4_play_20 : decode cX4_play 20 = .ok (.iinc 2 1, 3) := by decide +kernel
theorem dX4_play_23 : decode cX4_play 23 = .ok (.goto (-21), 3) := by decide +kernel
theorem dX4_play_26 : decode cX4_play 26 = .ok (.return_, 1) := by decide +kernel
set_option maxRecDepth 20000 in
theorem ggX4_takesEffect_X4_at : GoodIn wsX4_takesEffect wsX4_at := goodIn_r _ [11] (by decide +kernel) (by decide +kernel)
set_option maxRecDepth 20000 in
theorem gX4_takesEffect_X4_at : GoodIn wsX4_takesEffect (va_wsS RX4 134 yX4_at wsX4_at) := goodIn_app (goodIn_of _ (by decide +kernel)) ggX4_takesEffect_X4_at
set_option maxRecDepth 20000 in
theorem ggX4_takesEffect_X0_fadeADay : GoodIn wsX4_takesEffect wsX0_fadeADay := goodIn_r _ [16, 17, 62] (by decide +kernel) (by decide +kernel)
set_option maxRecDepth 20000 in
theorem gX4_takesEffect_X0_fadeADay : GoodIn wsX4_takesEffect (wsV RX4 179 RX0 yX0_fadeADay wsX0_fadeADay) := goodIn_app (goodIn_of _ (by decide +kernel)) ggX4_takesEffect_X0_fadeADay
set_option maxRecDepth 20000 in
theorem ggX4_takesEffect_X1_tell : GoodIn wsX4_takesEffect wsX1_tell := goodIn_r _ [22, 23, 24, 25, 26, 27, 28, 29, 21, 30, 9, 10, 11, 31, 32, 33, 15, 34, 17, 35, 36, 8, 37, 38, 39, 40, 41, 42, 63, 64, 65, 66, 67, 68, 69, 70, 71, 72, 73, 62] (by decide +kernel) (by decide +kernel)
set_option maxRecDepth 20000 in
theorem gX4_takesEffect_X1_tell : GoodIn wsX4_takesEffect (wsV RX4 226 RX1 yX1_tell wsX1_tell) := goodIn_app (goodIn_of _ (by decide +kernel)) ggX4_takesEffect_X1_tell
set_option maxRecDepth 20000 in
theorem ggX4_takesEffect_X1_deny : GoodIn wsX4_takesEffect wsX1_deny := goodIn_r _ [46, 23, 35, 10, 36, 8, 9, 11, 31, 32, 33, 15, 34, 17, 37, 38, 39, 40, 41, 42, 63, 64, 65, 66, 67, 68, 69, 70, 71, 72, 73, 62] (by decide +kernel) (by decide +kernel)
set_option maxRecDepth 20000 in
theorem gX4_takesEffect_X1_deny : GoodIn wsX4_takesEffect (wsV RX4 257 RX1 yX1_deny wsX1_deny) := goodIn_app (goodIn_of _ (by decide +kernel)) ggX4_takesEffect_X1_deny
theorem dX4_takesEffect_0 : decode cX4_takesEffect 0 = .ok (.aload_n 0, 1) := by decide +kernel
theorem dX4_takesEffect_1 : decode cX4_takesEffect 1 = .ok (.getfield 23, 3) := by decide +kernel
theorem dX4_takesEffect_4 : decode cX4_takesEffect 4 = .ok (.getfield 245, 3) := by decide +kernel
theorem dX4_takesEffect_7 : decode cX4_takesEffect 7 = .ok (.iload_n 1, 1) := by decide +kernel
theorem dX4_takesEffect_8 : decode cX4_takesEffect 8 = .ok (.invokestatic 134, 3) := by decide +kernel
theorem dX4_takesEffect_11 : decode cX4_takesEffect 11 = .ok (.istore_n 3, 1) := by decide +kernel
theorem dX4_takesEffect_12 : decode cX4_takesEffect 12 = .ok (.iload_n 3, 1) := by decide +kernel
theorem dX4_takesEffect_13 : decode cX4_takesEffect 13 = .ok (.ifCond .ne 9, 3) := by decide +kernel
theorem dX4_takesEffect_16 : decode cX4_takesEffect 16 = .ok (.aload_n 2, 1) := by decide +kernel
theorem dX4_takesEffect_17 : decode cX4_takesEffect 17 = .ok (.invokevirtual 179, 3) := by decide +kernel
theorem dX4_takesEffect_20 : decode cX4_takesEffect 20 = .ok (.iconst 1, 1) := by decide +kernel
theorem dX4_takesEffect_21 : decode cX4_takesEffect 21 = .ok (.ireturn, 1) := by decide +kernel
theorem dX4_takesEffect_22 : decode cX4_takesEffect 22 = .ok (.aload_n 0, 1) := by decide +kernel
theorem dX4_takesEffect_23 : decode cX4_takesEffect 23 = .ok (.getfield 23, 3) := by decide +kernel
theorem dX4_takesEffect_26 : decode cX4_takesEffect 26 = .ok (.getfield 248, 3) := by decide +kernel
theorem dX4_takesEffect_29 : decode cX4_takesEffect 29 = .ok (.iload_n 1, 1) := by decide +kernel
theorem dX4_takesEffect_30 : decode cX4_takesEffect 30 = .ok (.invokestatic 134, 3) := by decide +kernel
theorem dX4_takesEffect_33 : decode cX4_takesEffect 33 = .ok (.istore 4, 2) := by decide +kernel
theorem dX4_takesEffect_35 : decode cX4_takesEffect 35 = .ok (.iload 4, 2) := by decide +kernel
theorem dX4_takesEffect_37 : decode cX4_takesEffect 37 = .ok (.bipush 6, 2) := by decide +kernel
theorem dX4_takesEffect_39 : decode cX4_takesEffect 39 = .ok (.if_icmp .lt 17, 3) := by decide +kernel
theorem dX4_takesEffect_42 : decode cX4_takesEffect 42 = .ok (.aload_n 0, 1) := by decide +kernel
theorem dX4_takesEffect_43 : decode cX4_takesEffect 43 = .ok (.getfield 41, 3) := by decide +kernel
theorem dX4_takesEffect_46 : decode cX4_takesEffect 46 = .ok (.iload 4, 2) := by decide +kernel
theorem dX4_takesEffect_48 : decode cX4_takesEffect 48 = .ok (.bipush 6, 2) := by decide +kernel
theorem dX4_takesEffect_50 : decode cX4_takesEffect 50 = .ok (.isub, 1) := by decide +kernel
theorem dX4_takesEffect_51 : decode cX4_takesEffect 51 = .ok (.invokestatic 134, 3) := by decide +kernel
theorem dX4_takesEffect_54 : decode cX4_takesEffect 54 = .ok (.istore 4, 2) := by decide +kernel
theorem dX4_takesEffect_56 : decode cX4_takesEffect 56 = .ok (.aload_n 0, 1) := by decide +kernel
theorem dX4_takesEffect_57 : decode cX4_takesEffect 57 = .ok (.getfield 23, 3) := by decide +kernel
theorem dX4_takesEffect_60 : decode cX4_takesEffect 60 = .ok (.getfield 251, 3) := by decide +kernel
theorem dX4_takesEffect_63 : decode cX4_takesEffect 63 = .ok (.iload_n 1, 1) := by decide +kernel
theorem dX4_takesEffect_64 : decode cX4_takesEffect 64 = .ok (.invokestatic 134, 3) := by decide +kernel
theorem dX4_takesEffect_67 : decode cX4_takesEffect 67 = .ok (.istore 5, 2) := by decide +kernel
theorem dX4_takesEffect_69 : decode cX4_takesEffect 69 = .ok (.aload_n 0, 1) := by decide +kernel
theorem dX4_takesEffect_70 : decode cX4_takesEffect 70 = .ok (.getfield 23, 3) := by decide +kernel
theorem dX4_takesEffect_73 : decode cX4_takesEffect 73 = .ok (.getfield 254, 3) := by decide +kernel
theorem dX4_takesEffect_76 : decode cX4_takesEffect 76 = .ok (.iload_n 1, 1) := by decide +kernel
theorem dX4_takesEffect_77 : decode cX4_takesEffect 77 = .ok (.invokestatic 134, 3) := by decide +kernel
theorem dX4_takesEffect_80 : decode cX4_takesEffect 80 = .ok (.istore 6, 2) := by decide +kernel
theorem dX4_takesEffect_82 : decode cX4_takesEffect 82 = .ok (.iload_n 3, 1) := by decide +kernel
theorem dX4_takesEffect_83 : decode cX4_takesEffect 83 = .ok (.iconst 1, 1) := by decide +kernel
theorem dX4_takesEffect_84 : decode cX4_takesEffect 84 = .ok (.if_icmp .ne 20, 3) := by decide +kernel
theorem dX4_takesEffect_87 : decode cX4_takesEffect 87 = .ok (.aload_n 0, 1) := by decide +kernel
theorem dX4_takesEffect_88 : decode cX4_takesEffect 88 = .ok (.getfield 10, 3) := by decide +kernel
theorem dX4_takesEffect_91 : decode cX4_takesEffect 91 = .ok (.aload_n 2, 1) := by decide +kernel
theorem dX4_takesEffect_92 : decode cX4_takesEffect 92 = .ok (.iload 4, 2) := by decide +kernel
theorem dX4_takesEffect_94 : decode cX4_takesEffect 94 = .ok (.iload 5, 2) := by decide +kernel
theorem dX4_takesEffect_96 : decode cX4_takesEffect 96 = .ok (.iload 6, 2) := by decide +kernel
theorem dX4_takesEffect_98 : decode cX4_takesEffect 98 = .ok (.invokevirtual 226, 3) := by decide +kernel
theorem dX4_takesEffect_101 : decode cX4_takesEffect 101 = .ok (.goto 17, 3) := by decide +kernel
theorem dX4_takesEffect_104 : decode cX4_takesEffect 104 = .ok (.aload_n 0, 1) := by decide +kernel
theorem dX4_takesEffect_105 : decode cX4_takesEffect 105 = .ok (.getfield 10, 3) := by decide +kernel
theorem dX4_takesEffect_108 : decode cX4_takesEffect 108 = .ok (.aload_n 2, 1) := by decide +kernel
theorem dX4_takesEffect_109 : decode cX4_takesEffect 109 = .ok (.iload 4, 2) := by decide +kernel
theorem dX4_takesEffect_111 : decode cX4_takesEffect 111 = .ok (.iload 5, 2) := by decide +kernel
theorem dX4_takesEffect_113 : decode cX4_takesEffect 113 = .ok (.iload 6, 2) := by decide +kernel
theorem dX4_takesEffect_115 : decode cX4_takesEffect 115 = .ok (.invokevirtual 257, 3) := by decide +kernel
theorem dX4_takesEffect_118 : decode cX4_takesEffect 118 = .ok (.ireturn, 1) := by decide +kernel
set_option maxRecDepth 20000 in
theorem ggX4_splitRoute_X4_put : GoodIn wsX4_splitRoute wsX4_put := goodIn_r _ [5] (by decide +kernel) (by decide +kernel)
set_option maxRecDepth 20000 in
theorem gX4_splitRoute_X4_put : GoodIn wsX4_splitRoute (va_wsS RX4 189 yX4_put wsX4_put) := goodIn_app (goodIn_of _ (by decide +kernel)) ggX4_splitRoute_X4_put
theorem dX4_splitRoute_0 : decode cX4_splitRoute 0 = .ok (.iload_n 1, 1) := by decide +kernel
theorem dX4_splitRoute_1 : decode cX4_splitRoute 1 = .ok (.ifCond .ge 5, 3) := by decide +kernel
theorem dX4_splitRoute_4 : decode cX4_splitRoute 4 = .ok (.iconst 0, 1) := by decide +kernel
theorem dX4_splitRoute_5 : decode cX4_splitRoute 5 = .ok (.ireturn, 1) := by decide +kernel
theorem dX4_splitRoute_6 : decode cX4_splitRoute 6 = .ok (.iload_n 1, 1) := by decide +kernel
theorem dX4_splitRoute_7 : decode cX4_splitRoute 7 = .ok (.istore_n 3, 1) := by decide +kernel
theorem dX4_splitRoute_8 : decode cX4_splitRoute 8 = .ok (.iload_n 2, 1) := by decide +kernel
theorem dX4_splitRoute_9 : decode cX4_splitRoute 9 = .ok (.iconst 1, 1) := by decide +kernel
theorem dX4_splitRoute_10 : decode cX4_splitRoute 10 = .ok (.isub, 1) := by decide +kernel
theorem dX4_splitRoute_11 : decode cX4_splitRoute 11 = .ok (.istore 4, 2) := by decide +kernel
theorem dX4_splitRoute_13 : decode cX4_splitRoute 13 = .ok (.iload 4, 2) := by decide +kernel
theorem dX4_splitRoute_15 : decode cX4_splitRoute 15 = .ok (.ifCond .lt 27, 3) := by decide +kernel
theorem dX4_splitRoute_18 : decode cX4_splitRoute 18 = .ok (.aload_n 0, 1) := by decide +kernel
theorem dX4_splitRoute_19 : decode cX4_splitRoute 19 = .ok (.getfield 45, 3) := by decide +kernel
theorem dX4_splitRoute_22 : decode cX4_splitRoute 22 = .ok (.iload 4, 2) := by decide +kernel
theorem dX4_splitRoute_24 : decode cX4_splitRoute 24 = .ok (.iload_n 3, 1) := by decide +kernel
theorem dX4_splitRoute_25 : decode cX4_splitRoute 25 = .ok (.bipush 10, 2) := by decide +kernel
theorem dX4_splitRoute_27 : decode cX4_splitRoute 27 = .ok (.irem, 1) := by decide +kernel
theorem dX4_splitRoute_28 : decode cX4_splitRoute 28 = .ok (.invokestatic 189, 3) := by decide +kernel
theorem dX4_splitRoute_31 : decode cX4_splitRoute 31 = .ok (.iload_n 3, 1) := by decide +kernel
theorem dX4_splitRoute_32 : decode cX4_splitRoute 32 = .ok (.bipush 10, 2) := by decide +kernel
theorem dX4_splitRoute_34 : decode cX4_splitRoute 34 = .ok (.idiv, 1) := by decide +kernel
theorem dX4_splitRoute_35 : decode cX4_splitRoute 35 = .ok (.istore_n 3, 1) := by decide +kernel
theorem dX4_splitRoute_36 : decode cX4_splitRoute 36 = .ok (.iinc 4 (-1), 3) := by decide +kernel
theorem dX4_splitRoute_39 : decode cX4_splitRoute 39 = .ok (.goto (-26), 3) := by decide +kernel
theorem dX4_splitRoute_42 : decode cX4_splitRoute 42 = .ok (.iload_n 3, 1) := by decide +kernel
theorem dX4_splitRoute_43 : decode cX4_splitRoute 43 = .ok (.ifCond .ne 7, 3) := by decide +kernel
theorem dX4_splitRoute_46 : decode cX4_splitRoute 46 = .ok (.iconst 1, 1) := by decide +kernel
theorem dX4_splitRoute_47 : decode cX4_splitRoute 47 = .ok (.goto 4, 3) := by decide +kernel
theorem dX4_splitRoute_50 : decode cX4_splitRoute 50 = .ok (.iconst 0, 1) := by decide +kernel
theorem dX4_splitRoute_51 : decode cX4_splitRoute 51 = .ok (.ireturn, 1) := by decide +kernel
set_option maxRecDepth 20000 in
theorem ggX4_tellToAll_X1_tell : GoodIn wsX4_tellToAll wsX1_tell := goodIn_r _ [6, 7, 8, 9, 10, 11, 12, 13, 5, 14, 15, 16, 17, 18, 19, 20, 21, 22, 23, 24, 25, 26, 27, 28, 29, 30, 31, 32, 40, 41, 42, 43, 44, 45, 46, 47, 48, 49, 50, 51] (by decide +kernel) (by decide +kernel)
set_option maxRecDepth 20000 in
theorem gX4_tellToAll_X1_tell : GoodIn wsX4_tellToAll (wsV RX4 226 RX1 yX1_tell wsX1_tell) := goodIn_app (goodIn_of _ (by decide +kernel)) ggX4_tellToAll_X1_tell
theorem dX4_tellToAll_0 : decode cX4_tellToAll 0 = .ok (.iconst 0, 1) := by decide +kernel
theorem dX4_tellToAll_1 : decode cX4_tellToAll 1 = .ok (.istore 4, 2) := by decide +kernel
theorem dX4_tellToAll_3 : decode cX4_tellToAll 3 = .ok (.iload 4, 2) := by decide +kernel
theorem dX4_tellToAll_5 : decode cX4_tellToAll 5 = .ok (.bipush 6, 2) := by decide +kernel
theorem dX4_tellToAll_7 : decode cX4_tellToAll 7 = .ok (.if_icmp .ge 22, 3) := by decide +kernel
theorem dX4_tellToAll_10 : decode cX4_tellToAll 10 = .ok (.aload_n 0, 1) := by decide +kernel
theorem dX4_tellToAll_11 : decode cX4_tellToAll 11 = .ok (.getfield 10, 3) := by decide +kernel
theorem dX4_tellToAll_14 : decode cX4_tellToAll 14 = .ok (.aload_n 1, 1) := by decide +kernel
theorem dX4_tellToAll_15 : decode cX4_tellToAll 15 = .ok (.iload_n 2, 1) := by decide +kernel
theorem dX4_tellToAll_16 : decode cX4_tellToAll 16 = .ok (.iload 4, 2) := by decide +kernel
theorem dX4_tellToAll_18 : decode cX4_tellToAll 18 = .ok (.iload_n 3, 1) := by decide +kernel
theorem dX4_tellToAll_19 : decode cX4_tellToAll 19 = .ok (.invokevirtual 226, 3) := by decide +kernel
theorem dX4_tellToAll_22 : decode cX4_tellToAll 22 = .ok (.pop, 1) := by decide +kernel
theorem dX4_tellToAll_23 : decode cX4_tellToAll 23 = .ok (.iinc 4 1, 3) := by decide +kernel
theorem dX4_tellToAll_26 : decode cX4_tellToAll 26 = .ok (.goto (-23), 3) := by decide +kernel
theorem dX4_tellToAll_29 : decode cX4_tellToAll 29 = .ok (.return_, 1) := by decide +kernel
set_option maxRecDepth 20000 in
theorem ggX4_denyToAll_X1_deny : GoodIn wsX4_denyToAll wsX1_deny := goodIn_r _ [6, 7, 8, 9, 10, 11, 12, 13, 14, 15, 16, 17, 18, 19, 20, 21, 22, 23, 24, 25, 33, 34, 35, 36, 37, 38, 39, 40, 41, 42, 43, 44] (by decide +kernel) (by decide +kernel)
set_option maxRecDepth 20000 in
theorem gX4_denyToAll_X1_deny : GoodIn wsX4_denyToAll (wsV RX4 257 RX1 yX1_deny wsX1_deny) := goodIn_app (goodIn_of _ (by decide +kernel)) ggX4_denyToAll_X1_deny
theorem dX4_denyToAll_0 : decode cX4_denyToAll 0 = .ok (.iconst 0, 1) := by decide +kernel
theorem dX4_denyToAll_1 : decode cX4_denyToAll 1 = .ok (.istore 4, 2) := by decide +kernel
theorem dX4_denyToAll_3 : decode cX4_denyToAll 3 = .ok (.iconst 0, 1) := by decide +kernel
theorem dX4_denyToAll_4 : decode cX4_denyToAll 4 = .ok (.istore 5, 2) := by decide +kernel
theorem dX4_denyToAll_6 : decode cX4_denyToAll 6 = .ok (.iload 5, 2) := by decide +kernel
theorem dX4_denyToAll_8 : decode cX4_denyToAll 8 = .ok (.bipush 6, 2) := by decide +kernel
theorem dX4_denyToAll_10 : decode cX4_denyToAll 10 = .ok (.if_icmp .ge 27, 3) := by decide +kernel
theorem dX4_denyToAll_13 : decode cX4_denyToAll 13 = .ok (.aload_n 0, 1) := by decide +kernel
theorem dX4_denyToAll_14 : decode cX4_denyToAll 14 = .ok (.getfield 10, 3) := by decide +kernel
theorem dX4_denyToAll_17 : decode cX4_denyToAll 17 = .ok (.aload_n 1, 1) := by decide +kernel
theorem dX4_denyToAll_18 : decode cX4_denyToAll 18 = .ok (.iload_n 2, 1) := by decide +kernel
theorem dX4_denyToAll_19 : decode cX4_denyToAll 19 = .ok (.iload 5, 2) := by decide +kernel
theorem dX4_denyToAll_21 : decode cX4_denyToAll 21 = .ok (.iload_n 3, 1) := by decide +kernel
theorem dX4_denyToAll_22 : decode cX4_denyToAll 22 = .ok (.invokevirtual 257, 3) := by decide +kernel
theorem dX4_denyToAll_25 : decode cX4_denyToAll 25 = .ok (.ifCond .eq 6, 3) := by decide +kernel
theorem dX4_denyToAll_28 : decode cX4_denyToAll 28 = .ok (.iinc 4 1, 3) := by decide +kernel
theorem dX4_denyToAll_31 : decode cX4_denyToAll 31 = .ok (.iinc 5 1, 3) := by decide +kernel
theorem dX4_denyToAll_34 : decode cX4_denyToAll 34 = .ok (.goto (-28), 3) := by decide +kernel
theorem dX4_denyToAll_37 : decode cX4_denyToAll 37 = .ok (.iload 4, 2) := by decide +kernel
theorem dX4_denyToAll_39 : decode cX4_denyToAll 39 = .ok (.ireturn, 1) := by decide +kernel
set_option maxRecDepth 20000 in
theorem ggX4_spread_X1_mayTell : GoodIn wsX4_spread wsX1_mayTell := goodIn_r _ [6, 7, 8, 9, 10, 11, 12, 13, 14, 15, 16, 45, 46, 47, 48, 49, 50, 51, 52, 53, 54, 55, 56] (by decide +kernel) (by decide +kernel)
set_option maxRecDepth 20000 in
theorem gX4_spread_X1_mayTell : GoodIn wsX4_spread (wsV RX4 260 RX1 yX1_mayTell wsX1_mayTell) := goodIn_app (goodIn_of _ (by decide +kernel)) ggX4_spread_X1_mayTell
set_option maxRecDepth 20000 in
theorem ggX4_spread_X4_tellToAll : GoodIn wsX4_spread wsX4_tellToAll := goodIn_r _ [20, 1, 21, 22, 23, 5, 24, 25, 7, 26, 27, 28, 3, 4, 6, 8, 9, 10, 11, 12, 13, 14, 15, 16, 29, 30, 31, 32, 33, 34, 35, 36, 37, 38, 39, 40, 41, 42, 43, 44, 45, 46, 47, 48, 49, 50, 51, 52, 53, 54, 55, 56] (by decide +kernel) (by decide +kernel)
set_option maxRecDepth 20000 in
theorem gX4_spread_X4_tellToAll : GoodIn wsX4_spread (wsV RX4 182 RX4 yX4_tellToAll wsX4_tellToAll) := goodIn_app (goodIn_of _ (by decide +kernel)) ggX4_spread_X4_tellToAll
theorem dX4_spread_0 : decode cX4_spread 0 = .ok (.iconst 0, 1) := by decide +kernel
theorem dX4_spread_1 : decode cX4_spread 1 = .ok (.istore_n 3, 1) := by decide +kernel
theorem dX4_spread_2 : decode cX4_spread 2 = .ok (.iconst 0, 1) := by decide +kernel
theorem dX4_spread_3 : decode cX4_spread 3 = .ok (.istore 4, 2) := by decide +kernel
theorem dX4_spread_5 : decode cX4_spread 5 = .ok (.iload 4, 2) := by decide +kernel
theorem dX4_spread_7 : decode cX4_spread 7 = .ok (.bipush 6, 2) := by decide +kernel
theorem dX4_spread_9 : decode cX4_spread 9 = .ok (.if_icmp .ge 30, 3) := by decide +kernel
theorem dX4_spread_12 : decode cX4_spread 12 = .ok (.aload_n 0, 1) := by decide +kernel
theorem dX4_spread_13 : decode cX4_spread 13 = .ok (.getfield 10, 3) := by decide +kernel
theorem dX4_spread_16 : decode cX4_spread 16 = .ok (.aload_n 1, 1) := by decide +kernel
theorem dX4_spread_17 : decode cX4_spread 17 = .ok (.iload 4, 2) := by decide +kernel
theorem dX4_spread_19 : decode cX4_spread 19 = .ok (.iload_n 2, 1) := by decide +kernel
theorem dX4_spread_20 : decode cX4_spread 20 = .ok (.invokevirtual 260, 3) := by decide +kernel
theorem dX4_spread_23 : decode cX4_spread 23 = .ok (.ifCond .eq 10, 3) := by decide +kernel
theorem dX4_spread_26 : decode cX4_spread 26 = .ok (.iload_n 3, 1) := by decide +kernel
theorem dX4_spread_27 : decode cX4_spread 27 = .ok (.iconst 1, 1) := by decide +kernel
theorem dX4_spread_28 : decode cX4_spread 28 = .ok (.iload 4, 2) := by decide +kernel
theorem dX4_spread_30 : decode cX4_spread 30 = .ok (.ishl, 1) := by decide +kernel
theorem dX4_spread_31 : decode cX4_spread 31 = .ok (.ior, 1) := by decide +kernel
theorem dX4_spread_32 : decode cX4_spread 32 = .ok (.istore_n 3, 1) := by decide +kernel
theorem dX4_spread_33 : decode cX4_spread 33 = .ok (.iinc 4 1, 3) := by decide +kernel
theorem dX4_spread_36 : decode cX4_spread 36 = .ok (.goto (-31), 3) := by decide +kernel
theorem dX4_spread_39 : decode cX4_spread 39 = .ok (.iconst 0, 1) := by decide +kernel
theorem dX4_spread_40 : decode cX4_spread 40 = .ok (.istore 4, 2) := by decide +kernel
theorem dX4_spread_42 : decode cX4_spread 42 = .ok (.iload 4, 2) := by decide +kernel
theorem dX4_spread_44 : decode cX4_spread 44 = .ok (.bipush 6, 2) := by decide +kernel
theorem dX4_spread_46 : decode cX4_spread 46 = .ok (.if_icmp .ge 27, 3) := by decide +kernel
theorem dX4_spread_49 : decode cX4_spread 49 = .ok (.iload_n 3, 1) := by decide +kernel
theorem dX4_spread_50 : decode cX4_spread 50 = .ok (.iload 4, 2) := by decide +kernel
theorem dX4_spread_52 : decode cX4_spread 52 = .ok (.ishr, 1) := by decide +kernel
theorem dX4_spread_53 : decode cX4_spread 53 = .ok (.iconst 1, 1) := by decide +kernel
theorem dX4_spread_54 : decode cX4_spread 54 = .ok (.iand, 1) := by decide +kernel
theorem dX4_spread_55 : decode cX4_spread 55 = .ok (.iconst 1, 1) := by decide +kernel
theorem dX4_spread_56 : decode cX4_spread 56 = .ok (.if_icmp .ne 11, 3) := by decide +kernel
theorem dX4_spread_59 : decode cX4_spread 59 = .ok (.aload_n 0, 1) := by decide +kernel
theorem dX4_spread_60 : decode cX4_spread 60 = .ok (.aload_n 1, 1) := by decide +kernel
theorem dX4_spread_61 : decode cX4_spread 61 = .ok (.iload 4, 2) := by decide +kernel
theorem dX4_spread_63 : decode cX4_spread 63 = .ok (.iload_n 2, 1) := by decide +kernel
theorem dX4_spread_64 : decode cX4_spread 64 = .ok (.invokevirtual 182, 3) := by decide +kernel
theorem dX4_spread_67 : decode cX4_spread 67 = .ok (.iinc 4 1, 3) := by decide +kernel
theorem dX4_spread_70 : decode cX4_spread 70 = .ok (.goto (-28), 3) := by decide +kernel
theorem dX4_spread_73 : decode cX4_spread 73 = .ok (.return_, 1) := by decide +kernel
set_option maxRecDepth 20000 in
theorem ggX4_tellingsFor_X0_become : GoodIn wsX4_tellingsFor wsX0_become := goodIn_r _ [8, 9, 10, 11, 12, 13, 14, 15, 73] (by decide +kernel) (by decide +kernel)
set_option maxRecDepth 20000 in
theorem gX4_tellingsFor_X0_become : GoodIn wsX4_tellingsFor (wsV RX4 103 RX0 yX0_become wsX0_become) := goodIn_app (goodIn_of _ (by decide +kernel)) ggX4_tellingsFor_X0_become
set_option maxRecDepth 20000 in
theorem ggX4_tellingsFor_X0_load : GoodIn wsX4_tellingsFor wsX0_load := goodIn_r _ [19, 20, 21, 22, 7, 23, 9, 73] (by decide +kernel) (by decide +kernel)
set_option maxRecDepth 20000 in
theorem gX4_tellingsFor_X0_load : GoodIn wsX4_tellingsFor (wsV RX4 142 RX0 yX0_load wsX0_load) := goodIn_app (goodIn_of _ (by decide +kernel)) ggX4_tellingsFor_X0_load
set_option maxRecDepth 20000 in
theorem ggX4_tellingsFor_X4_spread : GoodIn wsX4_tellingsFor wsX4_spread := goodIn_r _ [27, 2, 28, 29, 30, 31, 32, 33, 14, 11, 15, 34, 21, 22, 7, 23, 9, 35, 36, 37, 38, 39, 40, 41, 42, 43, 44, 45, 46, 47, 48, 13, 49, 50, 51, 52, 53, 54, 55, 56, 57, 58, 59, 60, 61, 62, 63, 64, 65, 66, 67, 68, 69, 70, 71, 72, 73] (by decide +kernel) (by decide +kernel)
set_option maxRecDepth 20000 in
theorem gX4_tellingsFor_X4_spread : GoodIn wsX4_tellingsFor (wsV RX4 175 RX4 yX4_spread wsX4_spread) := goodIn_app (goodIn_of _ (by decide +kernel)) ggX4_tellingsFor_X4_spread
theorem dX4_tellingsFor_0 : decode cX4_tellingsFor 0 = .ok (.aload_n 0, 1) := by decide +kernel
theorem dX4_tellingsFor_1 : decode cX4_tellingsFor 1 = .ok (.getfield 37, 3) := by decide +kernel
theorem dX4_tellingsFor_4 : decode cX4_tellingsFor 4 = .ok (.aload_n 0, 1) := by decide +kernel
theorem dX4_tellingsFor_5 : decode cX4_tellingsFor 5 = .ok (.getfield 10, 3) := by decide +kernel
theorem dX4_tellingsFor_8 : decode cX4_tellingsFor 8 = .ok (.getfield 72, 3) := by decide +kernel
theorem dX4_tellingsFor_11 : decode cX4_tellingsFor 11 = .ok (.invokevirtual 103, 3) := by decide +kernel
theorem dX4_tellingsFor_14 : decode cX4_tellingsFor 14 = .ok (.aload_n 0, 1) := by decide +kernel
theorem dX4_tellingsFor_15 : decode cX4_tellingsFor 15 = .ok (.getfield 37, 3) := by decide +kernel
theorem dX4_tellingsFor_18 : decode cX4_tellingsFor 18 = .ok (.iload_n 1, 1) := by decide +kernel
theorem dX4_tellingsFor_19 : decode cX4_tellingsFor 19 = .ok (.iconst 0, 1) := by decide +kernel
theorem dX4_tellingsFor_20 : decode cX4_tellingsFor 20 = .ok (.invokevirtual 142, 3) := by decide +kernel
theorem dX4_tellingsFor_23 : decode cX4_tellingsFor 23 = .ok (.istore_n 3, 1) := by decide +kernel
theorem dX4_tellingsFor_24 : decode cX4_tellingsFor 24 = .ok (.iconst 0, 1) := by decide +kernel
theorem dX4_tellingsFor_25 : decode cX4_tellingsFor 25 = .ok (.istore 4, 2) := by decide +kernel
theorem dX4_tellingsFor_27 : decode cX4_tellingsFor 27 = .ok (.iload 4, 2) := by decide +kernel
theorem dX4_tellingsFor_29 : decode cX4_tellingsFor 29 = .ok (.bipush 6, 2) := by decide +kernel
theorem dX4_tellingsFor_31 : decode cX4_tellingsFor 31 = .ok (.if_icmp .ge 18, 3) := by decide +kernel
theorem dX4_tellingsFor_34 : decode cX4_tellingsFor 34 = .ok (.aload_n 0, 1) := by decide +kernel
theorem dX4_tellingsFor_35 : decode cX4_tellingsFor 35 = .ok (.aload_n 0, 1) := by decide +kernel
theorem dX4_tellingsFor_36 : decode cX4_tellingsFor 36 = .ok (.getfield 37, 3) := by decide +kernel
theorem dX4_tellingsFor_39 : decode cX4_tellingsFor 39 = .ok (.iload_n 1, 1) := by decide +kernel
theorem dX4_tellingsFor_40 : decode cX4_tellingsFor 40 = .ok (.invokevirtual 175, 3) := by decide +kernel
theorem dX4_tellingsFor_43 : decode cX4_tellingsFor 43 = .ok (.iinc 4 1, 3) := by decide +kernel
theorem dX4_tellingsFor_46 : decode cX4_tellingsFor 46 = .ok (.goto (-19), 3) := by decide +kernel
theorem dX4_tellingsFor_49 : decode cX4_tellingsFor 49 = .ok (.aload_n 0, 1) := by decide +kernel
theorem dX4_tellingsFor_50 : decode cX4_tellingsFor 50 = .ok (.getfield 37, 3) := by decide +kernel
theorem dX4_tellingsFor_53 : decode cX4_tellingsFor 53 = .ok (.iload_n 1, 1) := by decide +kernel
theorem dX4_tellingsFor_54 : decode cX4_tellingsFor 54 = .ok (.iconst 0, 1) := by decide +kernel
theorem dX4_tellingsFor_55 : decode cX4_tellingsFor 55 = .ok (.invokevirtual 142, 3) := by decide +kernel
theorem dX4_tellingsFor_58 : decode cX4_tellingsFor 58 = .ok (.iload_n 2, 1) := by decide +kernel
theorem dX4_tellingsFor_59 : decode cX4_tellingsFor 59 = .ok (.if_icmp .ge 5, 3) := by decide +kernel
theorem dX4_tellingsFor_62 : decode cX4_tellingsFor 62 = .ok (.iconst (-1), 1) := by decide +kernel
theorem dX4_tellingsFor_63 : decode cX4_tellingsFor 63 = .ok (.ireturn, 1) := by decide +kernel
theorem dX4_tellingsFor_64 : decode cX4_tellingsFor 64 = .ok (.iload_n 3, 1) := by decide +kernel
theorem dX4_tellingsFor_65 : decode cX4_tellingsFor 65 = .ok (.iload_n 2, 1) := by decide +kernel
theorem dX4_tellingsFor_66 : decode cX4_tellingsFor 66 = .ok (.if_icmp .ge 9, 3) := by decide +kernel
theorem dX4_tellingsFor_69 : decode cX4_tellingsFor 69 = .ok (.iload_n 2, 1) := by decide +kernel
theorem dX4_tellingsFor_70 : decode cX4_tellingsFor 70 = .ok (.iload_n 3, 1) := by decide +kernel
theorem dX4_tellingsFor_71 : decode cX4_tellingsFor 71 = .ok (.isub, 1) := by decide +kernel
theorem dX4_tellingsFor_72 : decode cX4_tellingsFor 72 = .ok (.goto 4, 3) := by decide +kernel
theorem dX4_tellingsFor_75 : decode cX4_tellingsFor 75 = .ok (.iconst 0, 1) := by decide +kernel
theorem dX4_tellingsFor_76 : decode cX4_tellingsFor 76 = .ok (.ireturn, 1) := by decide +kernel
set_option maxRecDepth 20000 in
theorem ggX4_standsBehind_X0_load : GoodIn wsX4_standsBehind wsX0_load := goodIn_r _ [8, 9, 10, 11, 7, 12, 13, 87] (by decide +kernel) (by decide +kernel)
set_option maxRecDepth 20000 in
theorem gX4_standsBehind_X0_load : GoodIn wsX4_standsBehind (wsV RX4 142 RX0 yX0_load wsX0_load) := goodIn_app (goodIn_of _ (by decide +kernel)) ggX4_standsBehind_X0_load
set_option maxRecDepth 20000 in
theorem ggX4_standsBehind_X3_weigh : GoodIn wsX4_standsBehind wsX3_weigh := goodIn_r _ [18, 19, 20, 21, 22, 88, 89, 90, 91, 92, 93, 94] (by decide +kernel) (by decide +kernel)
set_option maxRecDepth 20000 in
theorem gX4_standsBehind_X3_weigh : GoodIn wsX4_standsBehind (wsV RX4 148 RX3 yX3_weigh wsX3_weigh) := goodIn_app (goodIn_of _ (by decide +kernel)) ggX4_standsBehind_X3_weigh
set_option maxRecDepth 20000 in
theorem ggX4_standsBehind_X3_findCheapest : GoodIn wsX4_standsBehind wsX3_findCheapest := goodIn_r _ [26, 27, 28, 29, 30, 17, 31, 32, 33, 34, 35, 36, 37, 38, 39, 40, 41, 42, 43, 44, 45, 46, 47, 48, 49, 21, 50, 51, 52, 53, 54, 55, 56, 57, 19, 58, 59, 60, 61, 62, 63, 64, 65, 66, 67, 20, 22, 88, 89, 90, 91, 92, 93, 94, 76, 77, 78, 79, 80, 81, 82, 83, 84, 85, 86] (by decide +kernel) (by decide +kernel)
set_option maxRecDepth 20000 in
theorem gX4_standsBehind_X3_findCheapest : GoodIn wsX4_standsBehind (wsV RX4 152 RX3 yX3_findCheapest wsX3_findCheapest) := goodIn_app (goodIn_of _ (by decide +kernel)) ggX4_standsBehind_X3_findCheapest
set_option maxRecDepth 20000 in
theorem ggX4_standsBehind_X3_found : GoodIn wsX4_standsBehind wsX3_found := goodIn_r _ [48, 33, 88, 89, 90, 91, 92, 93, 94] (by decide +kernel) (by decide +kernel)
set_option maxRecDepth 20000 in
theorem gX4_standsBehind_X3_found : GoodIn wsX4_standsBehind (wsV RX4 156 RX3 yX3_found wsX3_found) := goodIn_app (goodIn_of _ (by decide +kernel)) ggX4_standsBehind_X3_found
theorem dX4_standsBehind_0 : decode cX4_standsBehind 0 = .ok (.iconst 0, 1) := by decide +kernel
theorem dX4_standsBehind_1 : decode cX4_standsBehind 1 = .ok (.istore 5, 2) := by decide +kernel
theorem dX4_standsBehind_3 : decode cX4_standsBehind 3 = .ok (.iload 5, 2) := by decide +kernel
theorem dX4_standsBehind_5 : decode cX4_standsBehind 5 = .ok (.bipush 6, 2) := by decide +kernel
theorem dX4_standsBehind_7 : decode cX4_standsBehind 7 = .ok (.if_icmp .ge 41, 3) := by decide +kernel
theorem dX4_standsBehind_10 : decode cX4_standsBehind 10 = .ok (.aload_n 0, 1) := by decide +kernel
theorem dX4_standsBehind_11 : decode cX4_standsBehind 11 = .ok (.getfield 30, 3) := by decide +kernel
theorem dX4_standsBehind_14 : decode cX4_standsBehind 14 = .ok (.iload 5, 2) := by decide +kernel
theorem dX4_standsBehind_16 : decode cX4_standsBehind 16 = .ok (.aload_n 0, 1) := by decide +kernel
theorem dX4_standsBehind_17 : decode cX4_standsBehind 17 = .ok (.getfield 10, 3) := by decide +kernel
theorem dX4_standsBehind_20 : decode cX4_standsBehind 20 = .ok (.getfield 72, 3) := by decide +kernel
theorem dX4_standsBehind_23 : decode cX4_standsBehind 23 = .ok (.iload 5, 2) := by decide +kernel
theorem dX4_standsBehind_25 : decode cX4_standsBehind 25 = .ok (.iload_n 1, 1) := by decide +kernel
theorem dX4_standsBehind_26 : decode cX4_standsBehind 26 = .ok (.invokevirtual 142, 3) := by decide +kernel
theorem dX4_standsBehind_29 : decode cX4_standsBehind 29 = .ok (.iload 4, 2) := by decide +kernel
theorem dX4_standsBehind_31 : decode cX4_standsBehind 31 = .ok (.if_icmp .lt 7, 3) := by decide +kernel
theorem dX4_standsBehind_34 : decode cX4_standsBehind 34 = .ok (.iconst 0, 1) := by decide +kernel
theorem dX4_standsBehind_35 : decode cX4_standsBehind 35 = .ok (.goto 4, 3) := by decide +kernel
theorem dX4_standsBehind_38 : decode cX4_standsBehind 38 = .ok (.iconst (-1), 1) := by decide +kernel
theorem dX4_standsBehind_39 : decode cX4_standsBehind 39 = .ok (.invokevirtual 148, 3) := by decide +kernel
theorem dX4_standsBehind_42 : decode cX4_standsBehind 42 = .ok (.iinc 5 1, 3) := by decide +kernel
theorem dX4_standsBehind_45 : decode cX4_standsBehind 45 = .ok (.goto (-42), 3) := by decide +kernel
theorem dX4_standsBehind_48 : decode cX4_standsBehind 48 = .ok (.aload_n 0, 1) := by decide +kernel
theorem dX4_standsBehind_49 : decode cX4_standsBehind 49 = .ok (.getfield 30, 3) := by decide +kernel
theorem dX4_standsBehind_52 : decode cX4_standsBehind 52 = .ok (.aload_n 0, 1) := by decide +kernel
theorem dX4_standsBehind_53 : decode cX4_standsBehind 53 = .ok (.getfield 10, 3) := by decide +kernel
theorem dX4_standsBehind_56 : decode cX4_standsBehind 56 = .ok (.iload_n 2, 1) := by decide +kernel
theorem dX4_standsBehind_57 : decode cX4_standsBehind 57 = .ok (.iload_n 3, 1) := by decide +kernel
theorem dX4_standsBehind_58 : decode cX4_standsBehind 58 = .ok (.invokevirtual 152, 3) := by decide +kernel
theorem dX4_standsBehind_61 : decode cX4_standsBehind 61 = .ok (.aload_n 0, 1) := by decide +kernel
theorem dX4_standsBehind_62 : decode cX4_standsBehind 62 = .ok (.getfield 30, 3) := by decide +kernel
theorem dX4_standsBehind_65 : decode cX4_standsBehind 65 = .ok (.invokevirtual 156, 3) := by decide +kernel
theorem dX4_standsBehind_68 : decode cX4_standsBehind 68 = .ok (.ireturn, 1) := by decide +kernel
set_option maxRecDepth 20000 in
theorem ggX4_findSafest_X4_at : GoodIn wsX4_findSafest wsX4_at := goodIn_r _ [7] (by decide +kernel) (by decide +kernel)
set_option maxRecDepth 20000 in
theorem gX4_findSafest_X4_at : GoodIn wsX4_findSafest (va_wsS RX4 134 yX4_at wsX4_at) := goodIn_app (goodIn_of _ (by decide +kernel)) ggX4_findSafest_X4_at
set_option maxRecDepth 20000 in
theorem ggX4_findSafest_X3_weigh : GoodIn wsX4_findSafest wsX3_weigh := goodIn_r _ [12, 13, 14, 6, 15, 77, 78, 79, 80, 81, 82, 83] (by decide +kernel) (by decide +kernel)
set_option maxRecDepth 20000 in
theorem gX4_findSafest_X3_weigh : GoodIn wsX4_findSafest (wsV RX4 148 RX3 yX3_weigh wsX3_weigh) := goodIn_app (goodIn_of _ (by decide +kernel)) ggX4_findSafest_X3_weigh
set_option maxRecDepth 20000 in
theorem ggX4_findSafest_X3_findLikeliest : GoodIn wsX4_findSafest wsX3_findLikeliest := goodIn_r _ [19, 20, 21, 22, 23, 24, 11, 25, 26, 27, 28, 29, 30, 31, 32, 33, 34, 35, 36, 37, 38, 39, 40, 41, 42, 43, 6, 44, 4, 5, 7, 45, 46, 47, 48, 13, 49, 50, 51, 52, 53, 54, 55, 56, 57, 58, 14, 15, 77, 78, 79, 80, 81, 82, 83, 66, 67, 68, 69, 70, 71, 72, 73, 74, 75, 76] (by decide +kernel) (by decide +kernel)
set_option maxRecDepth 20000 in
theorem gX4_findSafest_X3_findLikeliest : GoodIn wsX4_findSafest (wsV RX4 264 RX3 yX3_findLikeliest wsX3_findLikeliest) := goodIn_app (goodIn_of _ (by decide +kernel)) ggX4_findSafest_X3_findLikeliest
theorem dX4_findSafest_0 : decode cX4_findSafest 0 = .ok (.iconst 0, 1) := by decide +kernel
theorem dX4_findSafest_1 : decode cX4_findSafest 1 = .ok (.istore_n 3, 1) := by decide +kernel
theorem dX4_findSafest_2 : decode cX4_findSafest 2 = .ok (.iload_n 3, 1) := by decide +kernel
theorem dX4_findSafest_3 : decode cX4_findSafest 3 = .ok (.bipush 6, 2) := by decide +kernel
theorem dX4_findSafest_5 : decode cX4_findSafest 5 = .ok (.if_icmp .ge 28, 3) := by decide +kernel
theorem dX4_findSafest_8 : decode cX4_findSafest 8 = .ok (.aload_n 0, 1) := by decide +kernel
theorem dX4_findSafest_9 : decode cX4_findSafest 9 = .ok (.getfield 30, 3) := by decide +kernel
theorem dX4_findSafest_12 : decode cX4_findSafest 12 = .ok (.iload_n 3, 1) := by decide +kernel
theorem dX4_findSafest_13 : decode cX4_findSafest 13 = .ok (.aload_n 0, 1) := by decide +kernel
theorem dX4_findSafest_14 : decode cX4_findSafest 14 = .ok (.getfield 10, 3) := by decide +kernel
theorem dX4_findSafest_17 : decode cX4_findSafest 17 = .ok (.getfield 186, 3) := by decide +kernel
theorem dX4_findSafest_20 : decode cX4_findSafest 20 = .ok (.iload_n 3, 1) := by decide +kernel
theorem dX4_findSafest_21 : decode cX4_findSafest 21 = .ok (.invokestatic 134, 3) := by decide +kernel
theorem dX4_findSafest_24 : decode cX4_findSafest 24 = .ok (.invokevirtual 148, 3) := by decide +kernel
theorem dX4_findSafest_27 : decode cX4_findSafest 27 = .ok (.iinc 3 1, 3) := by decide +kernel
theorem dX4_findSafest_30 : decode cX4_findSafest 30 = .ok (.goto (-28), 3) := by decide +kernel
theorem dX4_findSafest_33 : decode cX4_findSafest 33 = .ok (.aload_n 0, 1) := by decide +kernel
theorem dX4_findSafest_34 : decode cX4_findSafest 34 = .ok (.getfield 30, 3) := by decide +kernel
theorem dX4_findSafest_37 : decode cX4_findSafest 37 = .ok (.aload_n 0, 1) := by decide +kernel
theorem dX4_findSafest_38 : decode cX4_findSafest 38 = .ok (.getfield 10, 3) := by decide +kernel
theorem dX4_findSafest_41 : decode cX4_findSafest 41 = .ok (.iload_n 1, 1) := by decide +kernel
theorem dX4_findSafest_42 : decode cX4_findSafest 42 = .ok (.iload_n 2, 1) := by decide +kernel
theorem dX4_findSafest_43 : decode cX4_findSafest 43 = .ok (.invokevirtual 264, 3) := by decide +kernel
theorem dX4_findSafest_46 : decode cX4_findSafest 46 = .ok (.return_, 1) := by decide +kernel
set_option maxRecDepth 20000 in
theorem ggX4_guess_X4_put : GoodIn wsX4_guess wsX4_put := goodIn_r _ [7] (by decide +kernel) (by decide +kernel)
set_option maxRecDepth 20000 in
theorem gX4_guess_X4_put : GoodIn wsX4_guess (va_wsS RX4 189 yX4_put wsX4_put) := goodIn_app (goodIn_of _ (by decide +kernel)) ggX4_guess_X4_put
theorem dX4_guess_0 : decode cX4_guess 0 = .ok (.iload_n 1, 1) := by decide +kernel
theorem dX4_guess_1 : decode cX4_guess 1 = .ok (.istore_n 2, 1) := by decide +kernel
theorem dX4_guess_2 : decode cX4_guess 2 = .ok (.aload_n 0, 1) := by decide +kernel
theorem dX4_guess_3 : decode cX4_guess 3 = .ok (.getfield 23, 3) := by decide +kernel
theorem dX4_guess_6 : decode cX4_guess 6 = .ok (.getfield 215, 3) := by decide +kernel
theorem dX4_guess_9 : decode cX4_guess 9 = .ok (.iconst 1, 1) := by decide +kernel
theorem dX4_guess_10 : decode cX4_guess 10 = .ok (.isub, 1) := by decide +kernel
theorem dX4_guess_11 : decode cX4_guess 11 = .ok (.istore_n 3, 1) := by decide +kernel
theorem dX4_guess_12 : decode cX4_guess 12 = .ok (.iload_n 3, 1) := by decide +kernel
theorem dX4_guess_13 : decode cX4_guess 13 = .ok (.ifCond .lt 26, 3) := by decide +kernel
theorem dX4_guess_16 : decode cX4_guess 16 = .ok (.aload_n 0, 1) := by decide +kernel
theorem dX4_guess_17 : decode cX4_guess 17 = .ok (.getfield 41, 3) := by decide +kernel
theorem dX4_guess_20 : decode cX4_guess 20 = .ok (.iload_n 3, 1) := by decide +kernel
theorem dX4_guess_21 : decode cX4_guess 21 = .ok (.iload_n 2, 1) := by decide +kernel
theorem dX4_guess_22 : decode cX4_guess 22 = .ok (.bipush 6, 2) := by decide +kernel
theorem dX4_guess_24 : decode cX4_guess 24 = .ok (.irem, 1) := by decide +kernel
theorem dX4_guess_25 : decode cX4_guess 25 = .ok (.invokestatic 189, 3) := by decide +kernel
theorem dX4_guess_28 : decode cX4_guess 28 = .ok (.iload_n 2, 1) := by decide +kernel
theorem dX4_guess_29 : decode cX4_guess 29 = .ok (.bipush 6, 2) := by decide +kernel
theorem dX4_guess_31 : decode cX4_guess 31 = .ok (.idiv, 1) := by decide +kernel
theorem dX4_guess_32 : decode cX4_guess 32 = .ok (.istore_n 2, 1) := by decide +kernel
theorem dX4_guess_33 : decode cX4_guess 33 = .ok (.iinc 3 (-1), 3) := by decide +kernel
theorem dX4_guess_36 : decode cX4_guess 36 = .ok (.goto (-24), 3) := by decide +kernel
theorem dX4_guess_39 : decode cX4_guess 39 = .ok (.return_, 1) := by decide +kernel
set_option maxRecDepth 20000 in
theorem ggX4_fits_X0_become : GoodIn wsX4_fits wsX0_become := goodIn_r _ [13, 14, 15, 16, 17, 18, 19, 20, 94] (by decide +kernel) (by decide +kernel)
set_option maxRecDepth 20000 in
theorem gX4_fits_X0_become : GoodIn wsX4_fits (wsV RX4 103 RX0 yX0_become wsX0_become) := goodIn_app (goodIn_of _ (by decide +kernel)) ggX4_fits_X0_become
set_option maxRecDepth 20000 in
theorem ggX4_fits_X4_takesEffect : GoodIn wsX4_fits wsX4_takesEffect := goodIn_r _ [24, 4, 25, 26, 27, 28, 29, 2, 18, 19, 16, 20, 30, 31, 32, 12, 33, 14, 34, 35, 36, 37, 38, 39, 40, 41, 42, 43, 44, 45, 46, 47, 48, 49, 50, 51, 52, 53, 54, 55, 56, 57, 58, 59, 60, 61, 62, 68, 69, 70, 71, 72, 73, 74, 86, 87, 88, 89, 90, 91, 92, 93, 94, 75, 76, 77, 78, 79, 80, 81, 82, 83, 84, 85] (by decide +kernel) (by decide +kernel)
set_option maxRecDepth 20000 in
theorem gX4_fits_X4_takesEffect : GoodIn wsX4_fits (wsV RX4 110 RX4 yX4_takesEffect wsX4_takesEffect) := goodIn_app (goodIn_of _ (by decide +kernel)) ggX4_fits_X4_takesEffect
set_option maxRecDepth 20000 in
theorem ggX4_fits_X4_at : GoodIn wsX4_fits wsX4_at := goodIn_r _ [20] (by decide +kernel) (by decide +kernel)
set_option maxRecDepth 20000 in
theorem gX4_fits_X4_at : GoodIn wsX4_fits (va_wsS RX4 134 yX4_at wsX4_at) := goodIn_app (goodIn_of _ (by decide +kernel)) ggX4_fits_X4_at
set_option maxRecDepth 20000 in
theorem ggX4_fits_X0_load : GoodIn wsX4_fits wsX0_load := goodIn_r _ [66, 67, 48, 49, 12, 50, 14, 94] (by decide +kernel) (by decide +kernel)
set_option maxRecDepth 20000 in
theorem gX4_fits_X0_load : GoodIn wsX4_fits (wsV RX4 142 RX0 yX0_load wsX0_load) := goodIn_app (goodIn_of _ (by decide +kernel)) ggX4_fits_X0_load
theorem dX4_fits_0 : decode cX4_fits 0 = .ok (.aload_n 0, 1) := by decide +kernel
theorem dX4_fits_1 : decode cX4_fits 1 = .ok (.getfield 37, 3) := by decide +kernel
theorem dX4_fits_4 : decode cX4_fits 4 = .ok (.aload_n 0, 1) := by decide +kernel
theorem dX4_fits_5 : decode cX4_fits 5 = .ok (.getfield 10, 3) := by decide +kernel
theorem dX4_fits_8 : decode cX4_fits 8 = .ok (.getfield 72, 3) := by decide +kernel
theorem dX4_fits_11 : decode cX4_fits 11 = .ok (.invokevirtual 103, 3) := by decide +kernel
theorem dX4_fits_14 : decode cX4_fits 14 = .ok (.iconst 0, 1) := by decide +kernel
theorem dX4_fits_15 : decode cX4_fits 15 = .ok (.istore_n 1, 1) := by decide +kernel
theorem dX4_fits_16 : decode cX4_fits 16 = .ok (.iload_n 1, 1) := by decide +kernel
theorem dX4_fits_17 : decode cX4_fits 17 = .ok (.aload_n 0, 1) := by decide +kernel
theorem dX4_fits_18 : decode cX4_fits 18 = .ok (.getfield 23, 3) := by decide +kernel
theorem dX4_fits_21 : decode cX4_fits 21 = .ok (.getfield 107, 3) := by decide +kernel
theorem dX4_fits_24 : decode cX4_fits 24 = .ok (.if_icmp .ge 23, 3) := by decide +kernel
theorem dX4_fits_27 : decode cX4_fits 27 = .ok (.aload_n 0, 1) := by decide +kernel
theorem dX4_fits_28 : decode cX4_fits 28 = .ok (.iload_n 1, 1) := by decide +kernel
theorem dX4_fits_29 : decode cX4_fits 29 = .ok (.aload_n 0, 1) := by decide +kernel
theorem dX4_fits_30 : decode cX4_fits 30 = .ok (.getfield 37, 3) := by decide +kernel
theorem dX4_fits_33 : decode cX4_fits 33 = .ok (.invokevirtual 110, 3) := by decide +kernel
theorem dX4_fits_36 : decode cX4_fits 36 = .ok (.ifCond .ne 5, 3) := by decide +kernel
theorem dX4_fits_39 : decode cX4_fits 39 = .ok (.iconst 0, 1) := by decide +kernel
theorem dX4_fits_40 : decode cX4_fits 40 = .ok (.ireturn, 1) := by decide +kernel
theorem dX4_fits_41 : decode cX4_fits 41 = .ok (.iinc 1 1, 3) := by decide +kernel
theorem dX4_fits_44 : decode cX4_fits 44 = .ok (.goto (-28), 3) := by decide +kernel
theorem dX4_fits_47 : decode cX4_fits 47 = .ok (.iconst 0, 1) := by decide +kernel
theorem dX4_fits_48 : decode cX4_fits 48 = .ok (.istore_n 1, 1) := by decide +kernel
theorem dX4_fits_49 : decode cX4_fits 49 = .ok (.iload_n 1, 1) := by decide +kernel
theorem dX4_fits_50 : decode cX4_fits 50 = .ok (.aload_n 0, 1) := by decide +kernel
theorem dX4_fits_51 : decode cX4_fits 51 = .ok (.getfield 10, 3) := by decide +kernel
theorem dX4_fits_54 : decode cX4_fits 54 = .ok (.getfield 206, 3) := by decide +kernel
