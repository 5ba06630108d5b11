theorem dX4_fits_57 : decode cX4_fits 57 = .ok (.if_icmp .ge 44, 3) := by decide +kernel
theorem dX4_fits_60 : decode cX4_fits 60 = .ok (.aload_n 0, 1) := by decide +kernel
theorem dX4_fits_61 : decode cX4_fits 61 = .ok (.getfield 37, 3) := by decide +kernel
theorem dX4_fits_64 : decode cX4_fits 64 = .ok (.aload_n 0, 1) := by decide +kernel
theorem dX4_fits_65 : decode cX4_fits 65 = .ok (.getfield 10, 3) := by decide +kernel
theorem dX4_fits_68 : decode cX4_fits 68 = .ok (.getfield 209, 3) := by decide +kernel
theorem dX4_fits_71 : decode cX4_fits 71 = .ok (.iload_n 1, 1) := by decide +kernel
theorem dX4_fits_72 : decode cX4_fits 72 = .ok (.invokestatic 134, 3) := by decide +kernel
theorem dX4_fits_75 : decode cX4_fits 75 = .ok (.iconst 0, 1) := by decide +kernel
theorem dX4_fits_76 : decode cX4_fits 76 = .ok (.invokevirtual 142, 3) := by decide +kernel
theorem dX4_fits_79 : decode cX4_fits 79 = .ok (.aload_n 0, 1) := by decide +kernel
theorem dX4_fits_80 : decode cX4_fits 80 = .ok (.getfield 10, 3) := by decide +kernel
theorem dX4_fits_83 : decode cX4_fits 83 = .ok (.getfield 212, 3) := by decide +kernel
theorem dX4_fits_86 : decode cX4_fits 86 = .ok (.iload_n 1, 1) := by decide +kernel
theorem dX4_fits_87 : decode cX4_fits 87 = .ok (.invokestatic 134, 3) := by decide +kernel
theorem dX4_fits_90 : decode cX4_fits 90 = .ok (.if_icmp .eq 5, 3) := by decide +kernel
theorem dX4_fits_93 : decode cX4_fits 93 = .ok (.iconst 0, 1) := by decide +kernel
theorem dX4_fits_94 : decode cX4_fits 94 = .ok (.ireturn, 1) := by decide +kernel
theorem dX4_fits_95 : decode cX4_fits 95 = .ok (.iinc 1 1, 3) := by decide +kernel
theorem dX4_fits_98 : decode cX4_fits 98 = .ok (.goto (-49), 3) := by decide +kernel
theorem dX4_fits_101 : decode cX4_fits 101 = .ok (.iconst 1, 1) := by decide +kernel
theorem dX4_fits_102 : decode cX4_fits 102 = .ok (.ireturn, 1) := by decide +kernel
theorem dX5_init_0 : decode cX5_init 0 = .ok (.aload_n 0, 1) := by decide +kernel
theorem dX5_init_1 : decode cX5_init 1 = .ok (.invokespecial 1, 3) := by decide +kernel
theorem dX5_init_4 : decode cX5_init 4 = .ok (.aload_n 0, 1) := by decide +kernel
theorem dX5_init_5 : decode cX5_init 5 = .ok (.bipush 6, 2) := by decide +kernel
theorem dX5_init_7 : decode cX5_init 7 = .ok (.newarray .int, 2) := by decide +kernel
theorem dX5_init_9 : decode cX5_init 9 = .ok (.putfield 7, 3) := by decide +kernel
theorem dX5_init_12 : decode cX5_init 12 = .ok (.aload_n 0, 1) := by decide +kernel
theorem dX5_init_13 : decode cX5_init 13 = .ok (.bipush 6, 2) := by decide +kernel
theorem dX5_init_15 : decode cX5_init 15 = .ok (.newarray .int, 2) := by decide +kernel
theorem dX5_init_17 : decode cX5_init 17 = .ok (.putfield 13, 3) := by decide +kernel
theorem dX5_init_20 : decode cX5_init 20 = .ok (.aload_n 0, 1) := by decide +kernel
theorem dX5_init_21 : decode cX5_init 21 = .ok (.bipush 6, 2) := by decide +kernel
theorem dX5_init_23 : decode cX5_init 23 = .ok (.newarray .int, 2) := by decide +kernel
theorem dX5_init_25 : decode cX5_init 25 = .ok (.putfield 16, 3) := by decide +kernel
theorem dX5_init_28 : decode cX5_init 28 = .ok (.aload_n 0, 1) := by decide +kernel
theorem dX5_init_29 : decode cX5_init 29 = .ok (.bipush 6, 2) := by decide +kernel
theorem dX5_init_31 : decode cX5_init 31 = .ok (.newarray .int, 2) := by decide +kernel
theorem dX5_init_33 : decode cX5_init 33 = .ok (.putfield 19, 3) := by decide +kernel
theorem dX5_init_36 : decode cX5_init 36 = .ok (.aload_n 0, 1) := by decide +kernel
theorem dX5_init_37 : decode cX5_init 37 = .ok (.bipush 6, 2) := by decide +kernel
theorem dX5_init_39 : decode cX5_init 39 = .ok (.newarray .int, 2) := by decide +kernel
theorem dX5_init_41 : decode cX5_init 41 = .ok (.putfield 22, 3) := by decide +kernel
theorem dX5_init_44 : decode cX5_init 44 = .ok (.aload_n 0, 1) := by decide +kernel
theorem dX5_init_45 : decode cX5_init 45 = .ok (.bipush 36, 2) := by decide +kernel
theorem dX5_init_47 : decode cX5_init 47 = .ok (.newarray .int, 2) := by decide +kernel
theorem dX5_init_49 : decode cX5_init 49 = .ok (.putfield 25, 3) := by decide +kernel
theorem dX5_init_52 : decode cX5_init 52 = .ok (.aload_n 0, 1) := by decide +kernel
theorem dX5_init_53 : decode cX5_init 53 = .ok (.bipush 6, 2) := by decide +kernel
theorem dX5_init_55 : decode cX5_init 55 = .ok (.newarray .int, 2) := by decide +kernel
theorem dX5_init_57 : decode cX5_init 57 = .ok (.putfield 28, 3) := by decide +kernel
theorem dX5_init_60 : decode cX5_init 60 = .ok (.aload_n 0, 1) := by decide +kernel
theorem dX5_init_61 : decode cX5_init 61 = .ok (.iconst 3, 1) := by decide +kernel
theorem dX5_init_62 : decode cX5_init 62 = .ok (.putfield 31, 3) := by decide +kernel
theorem dX5_init_65 : decode cX5_init 65 = .ok (.aload_n 0, 1) := by decide +kernel
theorem dX5_init_66 : decode cX5_init 66 = .ok (.bipush 12, 2) := by decide +kernel
theorem dX5_init_68 : decode cX5_init 68 = .ok (.newarray .int, 2) := by decide +kernel
theorem dX5_init_70 : decode cX5_init 70 = .ok (.putfield 35, 3) := by decide +kernel
theorem dX5_init_73 : decode cX5_init 73 = .ok (.aload_n 0, 1) := by decide +kernel
theorem dX5_init_74 : decode cX5_init 74 = .ok (.bipush 60, 2) := by decide +kernel
theorem dX5_init_76 : decode cX5_init 76 = .ok (.newarray .int, 2) := by decide +kernel
theorem dX5_init_78 : decode cX5_init 78 = .ok (.putfield 38, 3) := by decide +kernel
theorem dX5_init_81 : decode cX5_init 81 = .ok (.aload_n 0, 1) := by decide +kernel
theorem dX5_init_82 : decode cX5_init 82 = .ok (.bipush 36, 2) := by decide +kernel
theorem dX5_init_84 : decode cX5_init 84 = .ok (.newarray .int, 2) := by decide +kernel
theorem dX5_init_86 : decode cX5_init 86 = .ok (.putfield 41, 3) := by decide +kernel
theorem dX5_init_89 : decode cX5_init 89 = .ok (.aload_n 0, 1) := by decide +kernel
theorem dX5_init_90 : decode cX5_init 90 = .ok (.bipush 6, 2) := by decide +kernel
theorem dX5_init_92 : decode cX5_init 92 = .ok (.newarray .int, 2) := by decide +kernel
theorem dX5_init_94 : decode cX5_init 94 = .ok (.putfield 44, 3) := by decide +kernel
theorem dX5_init_97 : decode cX5_init 97 = .ok (.aload_n 0, 1) := by decide +kernel
theorem dX5_init_98 : decode cX5_init 98 = .ok (.sipush 200, 3) := by decide +kernel
theorem dX5_init_101 : decode cX5_init 101 = .ok (.newarray .int, 2) := by decide +kernel
theorem dX5_init_103 : decode cX5_init 103 = .ok (.putfield 47, 3) := by decide +kernel
theorem dX5_init_106 : decode cX5_init 106 = .ok (.aload_n 0, 1) := by decide +kernel
theorem dX5_init_107 : decode cX5_init 107 = .ok (.iconst 2, 1) := by decide +kernel
theorem dX5_init_108 : decode cX5_init 108 = .ok (.newarray .boolean, 2) := by decide +kernel
theorem dX5_init_110 : decode cX5_init 110 = .ok (.putfield 50, 3) := by decide +kernel
theorem dX5_init_113 : decode cX5_init 113 = .ok (.iconst 0, 1) := by decide +kernel
theorem dX5_init_114 : decode cX5_init 114 = .ok (.istore_n 1, 1) := by decide +kernel
theorem dX5_init_115 : decode cX5_init 115 = .ok (.iload_n 1, 1) := by decide +kernel
theorem dX5_init_116 : decode cX5_init 116 = .ok (.bipush 6, 2) := by decide +kernel
theorem dX5_init_118 : decode cX5_init 118 = .ok (.if_icmp .ge 57, 3) := by decide +kernel
theorem dX5_init_121 : decode cX5_init 121 = .ok (.aload_n 0, 1) := by decide +kernel
theorem dX5_init_122 : decode cX5_init 122 = .ok (.getfield 7, 3) := by decide +kernel
theorem dX5_init_125 : decode cX5_init 125 = .ok (.iload_n 1, 1) := by decide +kernel
theorem dX5_init_126 : decode cX5_init 126 = .ok (.iload_n 1, 1) := by decide +kernel
theorem dX5_init_127 : decode cX5_init 127 = .ok (.iconst 5, 1) := by decide +kernel
theorem dX5_init_128 : decode cX5_init 128 = .ok (.if_icmp .ne 7, 3) := by decide +kernel
theorem dX5_init_131 : decode cX5_init 131 = .ok (.iconst 0, 1) := by decide +kernel
theorem dX5_init_132 : decode cX5_init 132 = .ok (.goto 4, 3) := by decide +kernel
theorem dX5_init_135 : decode cX5_init 135 = .ok (.iload_n 1, 1) := by decide +kernel
theorem dX5_init_136 : decode cX5_init 136 = .ok (.iastore, 1) := by decide +kernel
theorem dX5_init_137 : decode cX5_init 137 = .ok (.aload_n 0, 1) := by decide +kernel
theorem dX5_init_138 : decode cX5_init 138 = .ok (.getfield 13, 3) := by decide +kernel
theorem dX5_init_141 : decode cX5_init 141 = .ok (.iload_n 1, 1) := by decide +kernel
theorem dX5_init_142 : decode cX5_init 142 = .ok (.iload_n 1, 1) := by decide +kernel
theorem dX5_init_143 : decode cX5_init 143 = .ok (.iconst 5, 1) := by decide +kernel
theorem dX5_init_144 : decode cX5_init 144 = .ok (.if_icmp .ne 7, 3) := by decide +kernel
theorem dX5_init_147 : decode cX5_init 147 = .ok (.iconst 5, 1) := by decide +kernel
theorem dX5_init_148 : decode cX5_init 148 = .ok (.goto 6, 3) := by decide +kernel
theorem dX5_init_151 : decode cX5_init 151 = .ok (.iload_n 1, 1) := by decide +kernel
theorem dX5_init_152 : decode cX5_init 152 = .ok (.iconst 1, 1) := by decide +kernel
theorem dX5_init_153 : decode cX5_init 153 = .ok (.iadd, 1) := by decide +kernel
theorem dX5_init_154 : decode cX5_init 154 = .ok (.iastore, 1) := by decide +kernel
theorem dX5_init_155 : decode cX5_init 155 = .ok (.aload_n 0, 1) := by decide +kernel
theorem dX5_init_156 : decode cX5_init 156 = .ok (.getfield 16, 3) := by decide +kernel
theorem dX5_init_159 : decode cX5_init 159 = .ok (.iload_n 1, 1) := by decide +kernel
theorem dX5_init_160 : decode cX5_init 160 = .ok (.iload_n 1, 1) := by decide +kernel
theorem dX5_init_161 : decode cX5_init 161 = .ok (.iastore, 1) := by decide +kernel
theorem dX5_init_162 : decode cX5_init 162 = .ok (.aload_n 0, 1) := by decide +kernel
theorem dX5_init_163 : decode cX5_init 163 = .ok (.getfield 28, 3) := by decide +kernel
theorem dX5_init_166 : decode cX5_init 166 = .ok (.iload_n 1, 1) := by decide +kernel
theorem dX5_init_167 : decode cX5_init 167 = .ok (.iconst 5, 1) := by decide +kernel
theorem dX5_init_168 : decode cX5_init 168 = .ok (.iastore, 1) := by decide +kernel
theorem dX5_init_169 : decode cX5_init 169 = .ok (.iinc 1 1, 3) := by decide +kernel
theorem dX5_init_172 : decode cX5_init 172 = .ok (.goto (-57), 3) := by decide +kernel
theorem dX5_init_175 : decode cX5_init 175 = .ok (.return_, 1) := by decide +kernel
theorem dX5_in_0 : decode cX5_in 0 = .ok (.iload_n 0, 1) := by decide +kernel
theorem dX5_in_1 : decode cX5_in 1 = .ok (.iload_n 1, 1) := by decide +kernel
theorem dX5_in_2 : decode cX5_in 2 = .ok (.if_icmp .lt 12, 3) := by decide +kernel
theorem dX5_in_5 : decode cX5_in 5 = .ok (.iload_n 0, 1) := by decide +kernel
theorem dX5_in_6 : decode cX5_in 6 = .ok (.iload_n 2, 1) := by decide +kernel
theorem dX5_in_7 : decode cX5_in 7 = .ok (.if_icmp .gt 7, 3) := by decide +kernel
theorem dX5_in_10 : decode cX5_in 10 = .ok (.iconst 1, 1) := by decide +kernel
theorem dX5_in_11 : decode cX5_in 11 = .ok (.goto 4, 3) := by decide +kernel
theorem dX5_in_14 : decode cX5_in 14 = .ok (.iconst 0, 1) := by decide +kernel
theorem dX5_in_15 : decode cX5_in 15 = .ok (.ireturn, 1) := by decide +kernel
theorem dX5_has_0 : decode cX5_has 0 = .ok (.iload_n 0, 1) := by decide +kernel
theorem dX5_has_1 : decode cX5_has 1 = .ok (.iload_n 1, 1) := by decide +kernel
theorem dX5_has_2 : decode cX5_has 2 = .ok (.ishr, 1) := by decide +kernel
theorem dX5_has_3 : decode cX5_has 3 = .ok (.iconst 1, 1) := by decide +kernel
theorem dX5_has_4 : decode cX5_has 4 = .ok (.iand, 1) := by decide +kernel
theorem dX5_has_5 : decode cX5_has 5 = .ok (.iconst 1, 1) := by decide +kernel
theorem dX5_has_6 : decode cX5_has 6 = .ok (.if_icmp .ne 7, 3) := by decide +kernel
theorem dX5_has_9 : decode cX5_has 9 = .ok (.iconst 1, 1) := by decide +kernel
theorem dX5_has_10 : decode cX5_has 10 = .ok (.goto 4, 3) := by decide +kernel
theorem dX5_has_13 : decode cX5_has 13 = .ok (.iconst 0, 1) := by decide +kernel
theorem dX5_has_14 : decode cX5_has 14 = .ok (.ireturn, 1) := by decide +kernel
set_option maxRecDepth 20000 in
theorem ggX5_is6_X5_in : GoodIn wsX5_is6 wsX5_in := goodIn_r _ [4] (by decide +kernel) (by decide +kernel)
set_option maxRecDepth 20000 in
theorem gX5_is6_X5_in : GoodIn wsX5_is6 (va_wsS RX5 54 yX5_in wsX5_in) := goodIn_app (goodIn_of _ (by decide +kernel)) ggX5_is6_X5_in
theorem dX5_is6_0 : decode cX5_is6 0 = .ok (.iload_n 0, 1) := by decide +kernel
theorem dX5_is6_1 : decode cX5_is6 1 = .ok (.iconst 0, 1) := by decide +kernel
theorem dX5_is6_2 : decode cX5_is6 2 = .ok (.iconst 5, 1) := by decide +kernel
theorem dX5_is6_3 : decode cX5_is6 3 = .ok (.invokestatic 54, 3) := by decide +kernel
theorem dX5_is6_6 : decode cX5_is6 6 = .ok (.ireturn, 1) := by decide +kernel
set_option maxRecDepth 20000 in
theorem ggX5_plank_X5_is6 : GoodIn wsX5_plank wsX5_is6 := goodIn_r _ [9, 10, 11, 8, 12] (by decide +kernel) (by decide +kernel)
set_option maxRecDepth 20000 in
theorem gX5_plank_X5_is6 : GoodIn wsX5_plank (va_wsS RX5 58 yX5_is6 wsX5_is6) := goodIn_app (goodIn_of _ (by decide +kernel)) ggX5_plank_X5_is6
theorem dX5_plank_0 : decode cX5_plank 0 = .ok (.iload_n 1, 1) := by decide +kernel
theorem dX5_plank_1 : decode cX5_plank 1 = .ok (.invokestatic 58, 3) := by decide +kernel
theorem dX5_plank_4 : decode cX5_plank 4 = .ok (.ifCond .eq 30, 3) := by decide +kernel
theorem dX5_plank_7 : decode cX5_plank 7 = .ok (.iload_n 2, 1) := by decide +kernel
theorem dX5_plank_8 : decode cX5_plank 8 = .ok (.invokestatic 58, 3) := by decide +kernel
theorem dX5_plank_11 : decode cX5_plank 11 = .ok (.ifCond .eq 23, 3) := by decide +kernel
theorem dX5_plank_14 : decode cX5_plank 14 = .ok (.iload_n 3, 1) := by decide +kernel
theorem dX5_plank_15 : decode cX5_plank 15 = .ok (.invokestatic 58, 3) := by decide +kernel
theorem dX5_plank_18 : decode cX5_plank 18 = .ok (.ifCond .eq 16, 3) := by decide +kernel
theorem dX5_plank_21 : decode cX5_plank 21 = .ok (.iload_n 2, 1) := by decide +kernel
theorem dX5_plank_22 : decode cX5_plank 22 = .ok (.iload_n 3, 1) := by decide +kernel
theorem dX5_plank_23 : decode cX5_plank 23 = .ok (.if_icmp .eq 11, 3) := by decide +kernel
theorem dX5_plank_26 : decode cX5_plank 26 = .ok (.iload 4, 2) := by decide +kernel
theorem dX5_plank_28 : decode cX5_plank 28 = .ok (.invokestatic 58, 3) := by decide +kernel
theorem dX5_plank_31 : decode cX5_plank 31 = .ok (.ifCond .ne 5, 3) := by decide +kernel
theorem dX5_plank_34 : decode cX5_plank 34 = .ok (.iconst (-1), 1) := by decide +kernel
theorem dX5_plank_35 : decode cX5_plank 35 = .ok (.ireturn, 1) := by decide +kernel
theorem dX5_plank_36 : decode cX5_plank 36 = .ok (.aload_n 0, 1) := by decide +kernel
theorem dX5_plank_37 : decode cX5_plank 37 = .ok (.getfield 7, 3) := by decide +kernel
theorem dX5_plank_40 : decode cX5_plank 40 = .ok (.iload_n 1, 1) := by decide +kernel
theorem dX5_plank_41 : decode cX5_plank 41 = .ok (.iload_n 2, 1) := by decide +kernel
theorem dX5_plank_42 : decode cX5_plank 42 = .ok (.iload_n 3, 1) := by decide +kernel
theorem dX5_plank_43 : decode cX5_plank 43 = .ok (.if_icmp .ge 7, 3) := by decide +kernel
theorem dX5_plank_46 : decode cX5_plank 46 = .ok (.iload_n 2, 1) := by decide +kernel
theorem dX5_plank_47 : decode cX5_plank 47 = .ok (.goto 4, 3) := by decide +kernel
theorem dX5_plank_50 : decode cX5_plank 50 = .ok (.iload_n 3, 1) := by decide +kernel
theorem dX5_plank_51 : decode cX5_plank 51 = .ok (.iastore, 1) := by decide +kernel
theorem dX5_plank_52 : decode cX5_plank 52 = .ok (.aload_n 0, 1) := by decide +kernel
theorem dX5_plank_53 : decode cX5_plank 53 = .ok (.getfield 13, 3) := by decide +kernel
theorem dX5_plank_56 : decode cX5_plank 56 = .ok (.iload_n 1, 1) := by decide +kernel
theorem dX5_plank_57 : decode cX5_plank 57 = .ok (.iload_n 2, 1) := by decide +kernel
theorem dX5_plank_58 : decode cX5_plank 58 = .ok (.iload_n 3, 1) := by decide +kernel
theorem dX5_plank_59 : decode cX5_plank 59 = .ok (.if_icmp .ge 7, 3) := by decide +kernel
theorem dX5_plank_62 : decode cX5_plank 62 = .ok (.iload_n 3, 1) := by decide +kernel
theorem dX5_plank_63 : decode cX5_plank 63 = .ok (.goto 4, 3) := by decide +kernel
theorem dX5_plank_66 : decode cX5_plank 66 = .ok (.iload_n 2, 1) := by decide +kernel
theorem dX5_plank_67 : decode cX5_plank 67 = .ok (.iastore, 1) := by decide +kernel
theorem dX5_plank_68 : decode cX5_plank 68 = .ok (.aload_n 0, 1) := by decide +kernel
theorem dX5_plank_69 : decode cX5_plank 69 = .ok (.getfield 16, 3) := by decide +kernel
theorem dX5_plank_72 : decode cX5_plank 72 = .ok (.iload_n 1, 1) := by decide +kernel
theorem dX5_plank_73 : decode cX5_plank 73 = .ok (.iload 4, 2) := by decide +kernel
theorem dX5_plank_75 : decode cX5_plank 75 = .ok (.iastore, 1) := by decide +kernel
theorem dX5_plank_76 : decode cX5_plank 76 = .ok (.iconst 0, 1) := by decide +kernel
theorem dX5_plank_77 : decode cX5_plank 77 = .ok (.istore 5, 2) := by decide +kernel
theorem dX5_plank_79 : decode cX5_plank 79 = .ok (.iload 5, 2) := by decide +kernel
theorem dX5_plank_81 : decode cX5_plank 81 = .ok (.bipush 6, 2) := by decide +kernel
theorem dX5_plank_83 : decode cX5_plank 83 = .ok (.if_icmp .ge 37, 3) := by decide +kernel
theorem dX5_plank_86 : decode cX5_plank 86 = .ok (.aload_n 0, 1) := by decide +kernel
theorem dX5_plank_87 : decode cX5_plank 87 = .ok (.getfield 25, 3) := by decide +kernel
theorem dX5_plank_90 : decode cX5_plank 90 = .ok (.bipush 6, 2) := by decide +kernel
theorem dX5_plank_92 : decode cX5_plank 92 = .ok (.iload 5, 2) := by decide +kernel
theorem dX5_plank_94 : decode cX5_plank 94 = .ok (.imul, 1) := by decide +kernel
theorem dX5_plank_95 : decode cX5_plank 95 = .ok (.iload_n 1, 1) := by decide +kernel
theorem dX5_plank_96 : decode cX5_plank 96 = .ok (.iadd, 1) := by decide +kernel
theorem dX5_plank_97 : decode cX5_plank 97 = .ok (.iconst 0, 1) := by decide +kernel
theorem dX5_plank_98 : decode cX5_plank 98 = .ok (.iastore, 1) := by decide +kernel
theorem dX5_plank_99 : decode cX5_plank 99 = .ok (.aload_n 0, 1) := by decide +kernel
theorem dX5_plank_100 : decode cX5_plank 100 = .ok (.getfield 22, 3) := by decide +kernel
theorem dX5_plank_103 : decode cX5_plank 103 = .ok (.iload 5, 2) := by decide +kernel
theorem dX5_plank_105 : decode cX5_plank 105 = .ok (.dup2, 1) := by decide +kernel
theorem dX5_plank_106 : decode cX5_plank 106 = .ok (.iaload, 1) := by decide +kernel
theorem dX5_plank_107 : decode cX5_plank 107 = .ok (.iconst 1, 1) := by decide +kernel
theorem dX5_plank_108 : decode cX5_plank 108 = .ok (.iload_n 1, 1) := by decide +kernel
theorem dX5_plank_109 : decode cX5_plank 109 = .ok (.ishl, 1) := by decide +kernel
theorem dX5_plank_110 : decode cX5_plank 110 = .ok (.iconst (-1), 1) := by decide +kernel
theorem dX5_plank_111 : decode cX5_plank 111 = .ok (.ixor, 1) := by decide +kernel
theorem dX5_plank_112 : decode cX5_plank 112 = .ok (.iand, 1) := by decide +kernel
theorem dX5_plank_113 : decode cX5_plank 113 = .ok (.iastore, 1) := by decide +kernel
theorem dX5_plank_114 : decode cX5_plank 114 = .ok (.iinc 5 1, 3) := by decide +kernel
theorem dX5_plank_117 : decode cX5_plank 117 = .ok (.goto (-38), 3) := by decide +kernel
theorem dX5_plank_120 : decode cX5_plank 120 = .ok (.iconst 1, 1) := by decide +kernel
theorem dX5_plank_121 : decode cX5_plank 121 = .ok (.ireturn, 1) := by decide +kernel
set_option maxRecDepth 20000 in
theorem ggX5_trust_X5_is6 : GoodIn wsX5_trust wsX5_is6 := goodIn_r _ [5, 6, 7, 4, 8] (by decide +kernel) (by decide +kernel)
set_option maxRecDepth 20000 in
theorem gX5_trust_X5_is6 : GoodIn wsX5_trust (va_wsS RX5 58 yX5_is6 wsX5_is6) := goodIn_app (goodIn_of _ (by decide +kernel)) ggX5_trust_X5_is6
theorem dX5_trust_0 : decode cX5_trust 0 = .ok (.iload_n 1, 1) := by decide +kernel
theorem dX5_trust_1 : decode cX5_trust 1 = .ok (.invokestatic 58, 3) := by decide +kernel
theorem dX5_trust_4 : decode cX5_trust 4 = .ok (.ifCond .eq 15, 3) := by decide +kernel
theorem dX5_trust_7 : decode cX5_trust 7 = .ok (.iload_n 2, 1) := by decide +kernel
theorem dX5_trust_8 : decode cX5_trust 8 = .ok (.invokestatic 58, 3) := by decide +kernel
theorem dX5_trust_11 : decode cX5_trust 11 = .ok (.ifCond .eq 8, 3) := by decide +kernel
theorem dX5_trust_14 : decode cX5_trust 14 = .ok (.iload_n 1, 1) := by decide +kernel
theorem dX5_trust_15 : decode cX5_trust 15 = .ok (.iload_n 2, 1) := by decide +kernel
theorem dX5_trust_16 : decode cX5_trust 16 = .ok (.if_icmp .ne 5, 3) := by decide +kernel
theorem dX5_trust_19 : decode cX5_trust 19 = .ok (.iconst (-1), 1) := by decide +kernel
theorem dX5_trust_20 : decode cX5_trust 20 = .ok (.ireturn, 1) := by decide +kernel
theorem dX5_trust_21 : decode cX5_trust 21 = .ok (.aload_n 0, 1) := by decide +kernel
theorem dX5_trust_22 : decode cX5_trust 22 = .ok (.getfield 19, 3) := by decide +kernel
theorem dX5_trust_25 : decode cX5_trust 25 = .ok (.iload_n 1, 1) := by decide +kernel
theorem dX5_trust_26 : decode cX5_trust 26 = .ok (.iload_n 3, 1) := by decide +kernel
theorem dX5_trust_27 : decode cX5_trust 27 = .ok (.ifCond .eq 16, 3) := by decide +kernel
theorem dX5_trust_30 : decode cX5_trust 30 = .ok (.aload_n 0, 1) := by decide +kernel
theorem dX5_trust_31 : decode cX5_trust 31 = .ok (.getfield 19, 3) := by decide +kernel
theorem dX5_trust_34 : decode cX5_trust 34 = .ok (.iload_n 1, 1) := by decide +kernel
theorem dX5_trust_35 : decode cX5_trust 35 = .ok (.iaload, 1) := by decide +kernel
theorem dX5_trust_36 : decode cX5_trust 36 = .ok (.iconst 1, 1) := by decide +kernel
theorem dX5_trust_37 : decode cX5_trust 37 = .ok (.iload_n 2, 1) := by decide +kernel
theorem dX5_trust_38 : decode cX5_trust 38 = .ok (.ishl, 1) := by decide +kernel
theorem dX5_trust_39 : decode cX5_trust 39 = .ok (.ior, 1) := by decide +kernel
theorem dX5_trust_40 : decode cX5_trust 40 = .ok (.goto 15, 3) := by decide +kernel
theorem dX5_trust_43 : decode cX5_trust 43 = .ok (.aload_n 0, 1) := by decide +kernel
theorem dX5_trust_44 : decode cX5_trust 44 = .ok (.getfield 19, 3) := by decide +kernel
theorem dX5_trust_47 : decode cX5_trust 47 = .ok (.iload_n 1, 1) := by decide +kernel
theorem dX5_trust_48 : decode cX5_trust 48 = .ok (.iaload, 1) := by decide +kernel
theorem dX5_trust_49 : decode cX5_trust 49 = .ok (.iconst 1, 1) := by decide +kernel
theorem dX5_trust_50 : decode cX5_trust 50 = .ok (.iload_n 2, 1) := by decide +kernel
theorem dX5_trust_51 : decode cX5_trust 51 = .ok (.ishl, 1) := by decide +kernel
theorem dX5_trust_52 : decode cX5_trust 52 = .ok (.iconst (-1), 1) := by decide +kernel
theorem dX5_trust_53 : decode cX5_trust 53 = .ok (.ixor, 1) := by decide +kernel
theorem dX5_trust_54 : decode cX5_trust 54 = .ok (.iand, 1) := by decide +kernel
theorem dX5_trust_55 : decode cX5_trust 55 = .ok (.iastore, 1) := by decide +kernel
theorem dX5_trust_56 : decode cX5_trust 56 = .ok (.iconst 1, 1) := by decide +kernel
theorem dX5_trust_57 : decode cX5_trust 57 = .ok (.ireturn, 1) := by decide +kernel
set_option maxRecDepth 20000 in
theorem ggX5_know_X5_is6 : GoodIn wsX5_know wsX5_is6 := goodIn_r _ [6, 7, 8, 5, 9] (by decide +kernel) (by decide +kernel)
set_option maxRecDepth 20000 in
theorem gX5_know_X5_is6 : GoodIn wsX5_know (va_wsS RX5 58 yX5_is6 wsX5_is6) := goodIn_app (goodIn_of _ (by decide +kernel)) ggX5_know_X5_is6
theorem dX5_know_0 : decode cX5_know 0 = .ok (.iload_n 1, 1) := by decide +kernel
theorem dX5_know_1 : decode cX5_know 1 = .ok (.invokestatic 58, 3) := by decide +kernel
theorem dX5_know_4 : decode cX5_know 4 = .ok (.ifCond .eq 10, 3) := by decide +kernel
theorem dX5_know_7 : decode cX5_know 7 = .ok (.iload_n 2, 1) := by decide +kernel
theorem dX5_know_8 : decode cX5_know 8 = .ok (.invokestatic 58, 3) := by decide +kernel
theorem dX5_know_11 : decode cX5_know 11 = .ok (.ifCond .ne 5, 3) := by decide +kernel
theorem dX5_know_14 : decode cX5_know 14 = .ok (.iconst (-1), 1) := by decide +kernel
theorem dX5_know_15 : decode cX5_know 15 = .ok (.ireturn, 1) := by decide +kernel
theorem dX5_know_16 : decode cX5_know 16 = .ok (.aload_n 0, 1) := by decide +kernel
theorem dX5_know_17 : decode cX5_know 17 = .ok (.getfield 22, 3) := by decide +kernel
theorem dX5_know_20 : decode cX5_know 20 = .ok (.iload_n 1, 1) := by decide +kernel
theorem dX5_know_21 : decode cX5_know 21 = .ok (.iload_n 3, 1) := by decide +kernel
theorem dX5_know_22 : decode cX5_know 22 = .ok (.ifCond .eq 16, 3) := by decide +kernel
theorem dX5_know_25 : decode cX5_know 25 = .ok (.aload_n 0, 1) := by decide +kernel
theorem dX5_know_26 : decode cX5_know 26 = .ok (.getfield 22, 3) := by decide +kernel
theorem dX5_know_29 : decode cX5_know 29 = .ok (.iload_n 1, 1) := by decide +kernel
theorem dX5_know_30 : decode cX5_know 30 = .ok (.iaload, 1) := by decide +kernel
theorem dX5_know_31 : decode cX5_know 31 = .ok (.iconst 1, 1) := by decide +kernel
theorem dX5_know_32 : decode cX5_know 32 = .ok (.iload_n 2, 1) := by decide +kernel
theorem dX5_know_33 : decode cX5_know 33 = .ok (.ishl, 1) := by decide +kernel
theorem dX5_know_34 : decode cX5_know 34 = .ok (.ior, 1) := by decide +kernel
theorem dX5_know_35 : decode cX5_know 35 = .ok (.goto 15, 3) := by decide +kernel
theorem dX5_know_38 : decode cX5_know 38 = .ok (.aload_n 0, 1) := by decide +kernel
theorem dX5_know_39 : decode cX5_know 39 = .ok (.getfield 22, 3) := by decide +kernel
theorem dX5_know_42 : decode cX5_know 42 = .ok (.iload_n 1, 1) := by decide +kernel
theorem dX5_know_43 : decode cX5_know 43 = .ok (.iaload, 1) := by decide +kernel
theorem dX5_know_44 : decode cX5_know 44 = .ok (.iconst 1, 1) := by decide +kernel
theorem dX5_know_45 : decode cX5_know 45 = .ok (.iload_n 2, 1) := by decide +kernel
theorem dX5_know_46 : decode cX5_know 46 = .ok (.ishl, 1) := by decide +kernel
theorem dX5_know_47 : decode cX5_know 47 = .ok (.iconst (-1), 1) := by decide +kernel
theorem dX5_know_48 : decode cX5_know 48 = .ok (.ixor, 1) := by decide +kernel
theorem dX5_know_49 : decode cX5_know 49 = .ok (.iand, 1) := by decide +kernel
theorem dX5_know_50 : decode cX5_know 50 = .ok (.iastore, 1) := by decide +kernel
theorem dX5_know_51 : decode cX5_know 51 = .ok (.aload_n 0, 1) := by decide +kernel
theorem dX5_know_52 : decode cX5_know 52 = .ok (.getfield 25, 3) := by decide +kernel
theorem dX5_know_55 : decode cX5_know 55 = .ok (.bipush 6, 2) := by decide +kernel
theorem dX5_know_57 : decode cX5_know 57 = .ok (.iload_n 1, 1) := by decide +kernel
theorem dX5_know_58 : decode cX5_know 58 = .ok (.imul, 1) := by decide +kernel
theorem dX5_know_59 : decode cX5_know 59 = .ok (.iload_n 2, 1) := by decide +kernel
theorem dX5_know_60 : decode cX5_know 60 = .ok (.iadd, 1) := by decide +kernel
theorem dX5_know_61 : decode cX5_know 61 = .ok (.iload_n 3, 1) := by decide +kernel
theorem dX5_know_62 : decode cX5_know 62 = .ok (.ifCond .eq 7, 3) := by decide +kernel
theorem dX5_know_65 : decode cX5_know 65 = .ok (.iconst 0, 1) := by decide +kernel
theorem dX5_know_66 : decode cX5_know 66 = .ok (.goto 14, 3) := by decide +kernel
theorem dX5_know_69 : decode cX5_know 69 = .ok (.aload_n 0, 1) := by decide +kernel
theorem dX5_know_70 : decode cX5_know 70 = .ok (.getfield 25, 3) := by decide +kernel
theorem dX5_know_73 : decode cX5_know 73 = .ok (.bipush 6, 2) := by decide +kernel
theorem dX5_know_75 : decode cX5_know 75 = .ok (.iload_n 1, 1) := by decide +kernel
theorem dX5_know_76 : decode cX5_know 76 = .ok (.imul, 1) := by decide +kernel
theorem dX5_know_77 : decode cX5_know 77 = .ok (.iload_n 2, 1) := by decide +kernel
theorem dX5_know_78 : decode cX5_know 78 = .ok (.iadd, 1) := by decide +kernel
theorem dX5_know_79 : decode cX5_know 79 = .ok (.iaload, 1) := by decide +kernel
theorem dX5_know_80 : decode cX5_know 80 = .ok (.iastore, 1) := by decide +kernel
theorem dX5_know_81 : decode cX5_know 81 = .ok (.iconst 1, 1) := by decide +kernel
theorem dX5_know_82 : decode cX5_know 82 = .ok (.ireturn, 1) := by decide +kernel
set_option maxRecDepth 20000 in
theorem ggX5_fade_X5_in : GoodIn wsX5_fade wsX5_in := goodIn_r _ [5] (by decide +kernel) (by decide +kernel)
set_option maxRecDepth 20000 in
theorem gX5_fade_X5_in : GoodIn wsX5_fade (va_wsS RX5 54 yX5_in wsX5_in) := goodIn_app (goodIn_of _ (by decide +kernel)) ggX5_fade_X5_in
theorem dX5_fade_0 : decode cX5_fade 0 = .ok (.iload_n 1, 1) := by decide +kernel
theorem dX5_fade_1 : decode cX5_fade 1 = .ok (.iconst 1, 1) := by decide +kernel
theorem dX5_fade_2 : decode cX5_fade 2 = .ok (.bipush 9, 2) := by decide +kernel
theorem dX5_fade_4 : decode cX5_fade 4 = .ok (.invokestatic 54, 3) := by decide +kernel
theorem dX5_fade_7 : decode cX5_fade 7 = .ok (.ifCond .ne 6, 3) := by decide +kernel
theorem dX5_fade_10 : decode cX5_fade 10 = .ok (.bipush (-2), 2) := by decide +kernel
theorem dX5_fade_12 : decode cX5_fade 12 = .ok (.ireturn, 1) := by decide +kernel
theorem dX5_fade_13 : decode cX5_fade 13 = .ok (.aload_n 0, 1) := by decide +kernel
theorem dX5_fade_14 : decode cX5_fade 14 = .ok (.getfield 31, 3) := by decide +kernel
theorem dX5_fade_17 : decode cX5_fade 17 = .ok (.istore_n 2, 1) := by decide +kernel
theorem dX5_fade_18 : decode cX5_fade 18 = .ok (.aload_n 0, 1) := by decide +kernel
theorem dX5_fade_19 : decode cX5_fade 19 = .ok (.iload_n 1, 1) := by decide +kernel
theorem dX5_fade_20 : decode cX5_fade 20 = .ok (.putfield 31, 3) := by decide +kernel
theorem dX5_fade_23 : decode cX5_fade 23 = .ok (.iload_n 2, 1) := by decide +kernel
theorem dX5_fade_24 : decode cX5_fade 24 = .ok (.ireturn, 1) := by decide +kernel
set_option maxRecDepth 20000 in
theorem ggX5_say_X5_in : GoodIn wsX5_say wsX5_in := goodIn_r _ [6] (by decide +kernel) (by decide +kernel)
set_option maxRecDepth 20000 in
theorem gX5_say_X5_in : GoodIn wsX5_say (va_wsS RX5 54 yX5_in wsX5_in) := goodIn_app (goodIn_of _ (by decide +kernel)) ggX5_say_X5_in
theorem dX5_say_0 : decode cX5_say 0 = .ok (.iload_n 1, 1) := by decide +kernel
theorem dX5_say_1 : decode cX5_say 1 = .ok (.bipush 33, 2) := by decide +kernel
theorem dX5_say_3 : decode cX5_say 3 = .ok (.bipush 126, 2) := by decide +kernel
theorem dX5_say_5 : decode cX5_say 5 = .ok (.invokestatic 54, 3) := by decide +kernel
theorem dX5_say_8 : decode cX5_say 8 = .ok (.ifCond .ne 6, 3) := by decide +kernel
theorem dX5_say_11 : decode cX5_say 11 = .ok (.bipush (-2), 2) := by decide +kernel
theorem dX5_say_13 : decode cX5_say 13 = .ok (.ireturn, 1) := by decide +kernel
theorem dX5_say_14 : decode cX5_say 14 = .ok (.aload_n 0, 1) := by decide +kernel
theorem dX5_say_15 : decode cX5_say 15 = .ok (.getfield 62, 3) := by decide +kernel
theorem dX5_say_18 : decode cX5_say 18 = .ok (.bipush 60, 2) := by decide +kernel
theorem dX5_say_20 : decode cX5_say 20 = .ok (.if_icmp .ne 6, 3) := by decide +kernel
theorem dX5_say_23 : decode cX5_say 23 = .ok (.bipush (-4), 2) := by decide +kernel
theorem dX5_say_25 : decode cX5_say 25 = .ok (.ireturn, 1) := by decide +kernel
theorem dX5_say_26 : decode cX5_say 26 = .ok (.aload_n 0, 1) := by decide +kernel
theorem dX5_say_27 : decode cX5_say 27 = .ok (.getfield 38, 3) := by decide +kernel
theorem dX5_say_30 : decode cX5_say 30 = .ok (.aload_n 0, 1) := by decide +kernel
theorem dX5_say_31 : decode cX5_say 31 = .ok (.getfield 62, 3) := by decide +kernel
theorem dX5_say_34 : decode cX5_say 34 = .ok (.iload_n 1, 1) := by decide +kernel
theorem dX5_say_35 : decode cX5_say 35 = .ok (.iastore, 1) := by decide +kernel
theorem dX5_say_36 : decode cX5_say 36 = .ok (.aload_n 0, 1) := by decide +kernel
theorem dX5_say_37 : decode cX5_say 37 = .ok (.dup, 1) := by decide +kernel
theorem dX5_say_38 : decode cX5_say 38 = .ok (.getfield 62, 3) := by decide +kernel
theorem dX5_say_41 : decode cX5_say 41 = .ok (.iconst 1, 1) := by decide +kernel
theorem dX5_say_42 : decode cX5_say 42 = .ok (.iadd, 1) := by decide +kernel
theorem dX5_say_43 : decode cX5_say 43 = .ok (.putfield 62, 3) := by decide +kernel
theorem dX5_say_46 : decode cX5_say 46 = .ok (.aload_n 0, 1) := by decide +kernel
theorem dX5_say_47 : decode cX5_say 47 = .ok (.getfield 62, 3) := by decide +kernel
theorem dX5_say_50 : decode cX5_say 50 = .ok (.ireturn, 1) := by decide +kernel
theorem dX5_wipe_0 : decode cX5_wipe 0 = .ok (.aload_n 0, 1) := by decide +kernel
theorem dX5_wipe_1 : decode cX5_wipe 1 = .ok (.getfield 62, 3) := by decide +kernel
theorem dX5_wipe_4 : decode cX5_wipe 4 = .ok (.istore_n 1, 1) := by decide +kernel
theorem dX5_wipe_5 : decode cX5_wipe 5 = .ok (.aload_n 0, 1) := by decide +kernel
theorem dX5_wipe_6 : decode cX5_wipe 6 = .ok (.iconst 0, 1) := by decide +kernel
theorem dX5_wipe_7 : decode cX5_wipe 7 = .ok (.putfield 62, 3) := by decide +kernel
theorem dX5_wipe_10 : decode cX5_wipe 10 = .ok (.iload_n 1, 1) := by decide +kernel
theorem dX5_wipe_11 : decode cX5_wipe 11 = .ok (.ireturn, 1) := by decide +kernel
set_option maxRecDepth 20000 in
theorem ggX5_faultOf_X5_in : GoodIn wsX5_faultOf wsX5_in := goodIn_r _ [6] (by decide +kernel) (by decide +kernel)
set_option maxRecDepth 20000 in
theorem gX5_faultOf_X5_in : GoodIn wsX5_faultOf (va_wsS RX5 54 yX5_in wsX5_in) := goodIn_app (goodIn_of _ (by decide +kernel)) ggX5_faultOf_X5_in
theorem dX5_faultOf_0 : decode cX5_faultOf 0 = .ok (.iconst 0, 1) := by decide +kernel
theorem dX5_faultOf_1 : decode cX5_faultOf 1 = .ok (.istore_n 1, 1) := by decide +kernel
theorem dX5_faultOf_2 : decode cX5_faultOf 2 = .ok (.iconst 0, 1) := by decide +kernel
theorem dX5_faultOf_3 : decode cX5_faultOf 3 = .ok (.istore_n 2, 1) := by decide +kernel
theorem dX5_faultOf_4 : decode cX5_faultOf 4 = .ok (.iconst 0, 1) := by decide +kernel
theorem dX5_faultOf_5 : decode cX5_faultOf 5 = .ok (.istore_n 3, 1) := by decide +kernel
theorem dX5_faultOf_6 : decode cX5_faultOf 6 = .ok (.iload_n 3, 1) := by decide +kernel
theorem dX5_faultOf_7 : decode cX5_faultOf 7 = .ok (.aload_n 0, 1) := by decide +kernel
theorem dX5_faultOf_8 : decode cX5_faultOf 8 = .ok (.getfield 62, 3) := by decide +kernel
theorem dX5_faultOf_11 : decode cX5_faultOf 11 = .ok (.if_icmp .ge 172, 3) := by decide +kernel
theorem dX5_faultOf_14 : decode cX5_faultOf 14 = .ok (.aload_n 0, 1) := by decide +kernel
theorem dX5_faultOf_15 : decode cX5_faultOf 15 = .ok (.getfield 38, 3) := by decide +kernel
theorem dX5_faultOf_18 : decode cX5_faultOf 18 = .ok (.iload_n 3, 1) := by decide +kernel
theorem dX5_faultOf_19 : decode cX5_faultOf 19 = .ok (.iaload, 1) := by decide +kernel
theorem dX5_faultOf_20 : decode cX5_faultOf 20 = .ok (.istore 4, 2) := by decide +kernel
theorem dX5_faultOf_22 : decode cX5_faultOf 22 = .ok (.iload_n 1, 1) := by decide +kernel
theorem dX5_faultOf_23 : decode cX5_faultOf 23 = .ok (.ifCond .ne 72, 3) := by decide +kernel
theorem dX5_faultOf_26 : decode cX5_faultOf 26 = .ok (.iload_n 2, 1) := by decide +kernel
theorem dX5_faultOf_27 : decode cX5_faultOf 27 = .ok (.iload 4, 2) := by decide +kernel
theorem dX5_faultOf_29 : decode cX5_faultOf 29 = .ok (.bipush 63, 2) := by decide +kernel
theorem dX5_faultOf_31 : decode cX5_faultOf 31 = .ok (.if_icmp .ne 7, 3) := by decide +kernel
theorem dX5_faultOf_34 : decode cX5_faultOf 34 = .ok (.iconst 1, 1) := by decide +kernel
theorem dX5_faultOf_35 : decode cX5_faultOf 35 = .ok (.goto 4, 3) := by decide +kernel
theorem dX5_faultOf_38 : decode cX5_faultOf 38 = .ok (.iconst 0, 1) := by decide +kernel
theorem dX5_faultOf_39 : decode cX5_faultOf 39 = .ok (.iadd, 1) := by decide +kernel
theorem dX5_faultOf_40 : decode cX5_faultOf 40 = .ok (.istore_n 2, 1) := by decide +kernel
theorem dX5_faultOf_41 : decode cX5_faultOf 41 = .ok (.iload 4, 2) := by decide +kernel
theorem dX5_faultOf_43 : decode cX5_faultOf 43 = .ok (.bipush 46, 2) := by decide +kernel
theorem dX5_faultOf_45 : decode cX5_faultOf 45 = .ok (.if_icmp .eq 27, 3) := by decide +kernel
theorem dX5_faultOf_48 : decode cX5_faultOf 48 = .ok (.iload 4, 2) := by decide +kernel
theorem dX5_faultOf_50 : decode cX5_faultOf 50 = .ok (.bipush 65, 2) := by decide +kernel
theorem dX5_faultOf_52 : decode cX5_faultOf 52 = .ok (.bipush 70, 2) := by decide +kernel
theorem dX5_faultOf_54 : decode cX5_faultOf 54 = .ok (.invokestatic 54, 3) := by decide +kernel
theorem dX5_faultOf_57 : decode cX5_faultOf 57 = .ok (.ifCond .ne 15, 3) := by decide +kernel
theorem dX5_faultOf_60 : decode cX5_faultOf 60 = .ok (.iload 4, 2) := by decide +kernel
theorem dX5_faultOf_62 : decode cX5_faultOf 62 = .ok (.bipush 63, 2) := by decide +kernel
theorem dX5_faultOf_64 : decode cX5_faultOf 64 = .ok (.if_icmp .ne 12, 3) := by decide +kernel
theorem dX5_faultOf_67 : decode cX5_faultOf 67 = .ok (.iload_n 2, 1) := by decide +kernel
theorem dX5_faultOf_68 : decode cX5_faultOf 68 = .ok (.iconst 4, 1) := by decide +kernel
theorem dX5_faultOf_69 : decode cX5_faultOf 69 = .ok (.if_icmp .ge 7, 3) := by decide +kernel
theorem dX5_faultOf_72 : decode cX5_faultOf 72 = .ok (.iconst 1, 1) := by decide +kernel
theorem dX5_faultOf_73 : decode cX5_faultOf 73 = .ok (.goto 4, 3) := by decide +kernel
theorem dX5_faultOf_76 : decode cX5_faultOf 76 = .ok (.iconst 0, 1) := by decide +kernel
theorem dX5_faultOf_77 : decode cX5_faultOf 77 = .ok (.istore 5, 2) := by decide +kernel
theorem dX5_faultOf_79 : decode cX5_faultOf 79 = .ok (.iload 4, 2) := by decide +kernel
theorem dX5_faultOf_81 : decode cX5_faultOf 81 = .ok (.bipush 46, 2) := by decide +kernel
theorem dX5_faultOf_83 : decode cX5_faultOf 83 = .ok (.if_icmp .ne 7, 3) := by decide +kernel
theorem dX5_faultOf_86 : decode cX5_faultOf 86 = .ok (.iconst 0, 1) := by decide +kernel
theorem dX5_faultOf_87 : decode cX5_faultOf 87 = .ok (.goto 4, 3) := by decide +kernel
theorem dX5_faultOf_90 : decode cX5_faultOf 90 = .ok (.iconst 1, 1) := by decide +kernel
theorem dX5_faultOf_91 : decode cX5_faultOf 91 = .ok (.istore_n 1, 1) := by decide +kernel
theorem dX5_faultOf_92 : decode cX5_faultOf 92 = .ok (.goto 78, 3) := by decide +kernel
theorem dX5_faultOf_95 : decode cX5_faultOf 95 = .ok (.iload_n 1, 1) := by decide +kernel
theorem dX5_faultOf_96 : decode cX5_faultOf 96 = .ok (.iconst 1, 1) := by decide +kernel
theorem dX5_faultOf_97 : decode cX5_faultOf 97 = .ok (.if_icmp .ne 40, 3) := by decide +kernel
theorem dX5_faultOf_100 : decode cX5_faultOf 100 = .ok (.iload 4, 2) := by decide +kernel
theorem dX5_faultOf_102 : decode cX5_faultOf 102 = .ok (.bipush 65, 2) := by decide +kernel
theorem dX5_faultOf_104 : decode cX5_faultOf 104 = .ok (.bipush 70, 2) := by decide +kernel
theorem dX5_faultOf_106 : decode cX5_faultOf 106 = .ok (.invokestatic 54, 3) := by decide +kernel
theorem dX5_faultOf_109 : decode cX5_faultOf 109 = .ok (.ifCond .eq 20, 3) := by decide +kernel
theorem dX5_faultOf_112 : decode cX5_faultOf 112 = .ok (.iload 4, 2) := by decide +kernel
theorem dX5_faultOf_114 : decode cX5_faultOf 114 = .ok (.aload_n 0, 1) := by decide +kernel
theorem dX5_faultOf_115 : decode cX5_faultOf 115 = .ok (.getfield 38, 3) := by decide +kernel
theorem dX5_faultOf_118 : decode cX5_faultOf 118 = .ok (.iload_n 3, 1) := by decide +kernel
theorem dX5_faultOf_119 : decode cX5_faultOf 119 = .ok (.iconst 1, 1) := by decide +kernel
theorem dX5_faultOf_120 : decode cX5_faultOf 120 = .ok (.isub, 1) := by decide +kernel
theorem dX5_faultOf_121 : decode cX5_faultOf 121 = .ok (.iaload, 1) := by decide +kernel
theorem dX5_faultOf_122 : decode cX5_faultOf 122 = .ok (.if_icmp .eq 7, 3) := by decide +kernel
theorem dX5_faultOf_125 : decode cX5_faultOf 125 = .ok (.iconst 1, 1) := by decide +kernel
theorem dX5_faultOf_126 : decode cX5_faultOf 126 = .ok (.goto 4, 3) := by decide +kernel
theorem dX5_faultOf_129 : decode cX5_faultOf 129 = .ok (.iconst 0, 1) := by decide +kernel
theorem dX5_faultOf_130 : decode cX5_faultOf 130 = .ok (.istore 5, 2) := by decide +kernel
theorem dX5_faultOf_132 : decode cX5_faultOf 132 = .ok (.iconst 2, 1) := by decide +kernel
theorem dX5_faultOf_133 : decode cX5_faultOf 133 = .ok (.istore_n 1, 1) := by decide +kernel
theorem dX5_faultOf_134 : decode cX5_faultOf 134 = .ok (.goto 36, 3) := by decide +kernel
theorem dX5_faultOf_137 : decode cX5_faultOf 137 = .ok (.iload_n 1, 1) := by decide +kernel
theorem dX5_faultOf_138 : decode cX5_faultOf 138 = .ok (.iconst 2, 1) := by decide +kernel
theorem dX5_faultOf_139 : decode cX5_faultOf 139 = .ok (.if_icmp .ne 18, 3) := by decide +kernel
theorem dX5_faultOf_142 : decode cX5_faultOf 142 = .ok (.iload 4, 2) := by decide +kernel
theorem dX5_faultOf_144 : decode cX5_faultOf 144 = .ok (.bipush 45, 2) := by decide +kernel
theorem dX5_faultOf_146 : decode cX5_faultOf 146 = .ok (.if_icmp .ne 11, 3) := by decide +kernel
theorem dX5_faultOf_149 : decode cX5_faultOf 149 = .ok (.iconst 1, 1) := by decide +kernel
theorem dX5_faultOf_150 : decode cX5_faultOf 150 = .ok (.istore 5, 2) := by decide +kernel
theorem dX5_faultOf_152 : decode cX5_faultOf 152 = .ok (.iconst 3, 1) := by decide +kernel
theorem dX5_faultOf_153 : decode cX5_faultOf 153 = .ok (.istore_n 1, 1) := by decide +kernel
theorem dX5_faultOf_154 : decode cX5_faultOf 154 = .ok (.goto 16, 3) := by decide +kernel
theorem dX5_faultOf_157 : decode cX5_faultOf 157 = .ok (.iload 4, 2) := by decide +kernel
theorem dX5_faultOf_159 : decode cX5_faultOf 159 = .ok (.bipush 48, 2) := by decide +kernel
theorem dX5_faultOf_161 : decode cX5_faultOf 161 = .ok (.bipush 53, 2) := by decide +kernel
theorem dX5_faultOf_163 : decode cX5_faultOf 163 = .ok (.invokestatic 54, 3) := by decide +kernel
theorem dX5_faultOf_166 : decode cX5_faultOf 166 = .ok (.istore 5, 2) := by decide +kernel
theorem dX5_faultOf_168 : decode cX5_faultOf 168 = .ok (.iconst 0, 1) := by decide +kernel
theorem dX5_faultOf_169 : decode cX5_faultOf 169 = .ok (.istore_n 1, 1) := by decide +kernel
theorem dX5_faultOf_170 : decode cX5_faultOf 170 = .ok (.iload 5, 2) := by decide +kernel
theorem dX5_faultOf_172 : decode cX5_faultOf 172 = .ok (.ifCond .ne 5, 3) := by decide +kernel
theorem dX5_faultOf_175 : decode cX5_faultOf 175 = .ok (.iload_n 3, 1) := by decide +kernel
theorem dX5_faultOf_176 : decode cX5_faultOf 176 = .ok (.ireturn, 1) := by decide +kernel
theorem dX5_faultOf_177 : decode cX5_faultOf 177 = .ok (.iinc 3 1, 3) := by decide +kernel
theorem dX5_faultOf_180 : decode cX5_faultOf 180 = .ok (.goto (-174), 3) := by decide +kernel
theorem dX5_faultOf_183 : decode cX5_faultOf 183 = .ok (.iload_n 1, 1) := by decide +kernel
theorem dX5_faultOf_184 : decode cX5_faultOf 184 = .ok (.ifCond .ne 8, 3) := by decide +kernel
theorem dX5_faultOf_187 : decode cX5_faultOf 187 = .ok (.bipush (-6), 2) := by decide +kernel
theorem dX5_faultOf_189 : decode cX5_faultOf 189 = .ok (.goto 7, 3) := by decide +kernel
theorem dX5_faultOf_192 : decode cX5_faultOf 192 = .ok (.aload_n 0, 1) := by decide +kernel
theorem dX5_faultOf_193 : decode cX5_faultOf 193 = .ok (.getfield 62, 3) := by decide +kernel
theorem dX5_faultOf_196 : decode cX5_faultOf 196 = .ok (.ireturn, 1) := by decide +kernel
set_option maxRecDepth 20000 in
theorem ggX5_fault_X5_faultOf : GoodIn wsX5_fault wsX5_faultOf := goodIn_r _ [5, 6, 7, 8, 9, 4, 10, 11, 12, 13, 14, 15, 16, 17, 18, 19, 20, 21, 22, 23, 24, 25, 26, 27, 28, 29, 30, 31, 32] (by decide +kernel) (by decide +kernel)
set_option maxRecDepth 20000 in
theorem gX5_fault_X5_faultOf : GoodIn wsX5_fault (wsV RX5 65 RX5 yX5_faultOf wsX5_faultOf) := goodIn_app (goodIn_of _ (by decide +kernel)) ggX5_fault_X5_faultOf
theorem dX5_fault_0 : decode cX5_fault 0 = .ok (.aload_n 0, 1) := by decide +kernel
theorem dX5_fault_1 : decode cX5_fault 1 = .ok (.invokevirtual 65, 3) := by decide +kernel
theorem dX5_fault_4 : decode cX5_fault 4 = .ok (.ireturn, 1) := by decide +kernel
theorem dX5_opens_0 : decode cX5_opens 0 = .ok (.iconst 0, 1) := by decide +kernel
theorem dX5_opens_1 : decode cX5_opens 1 = .ok (.istore_n 1, 1) := by decide +kernel
theorem dX5_opens_2 : decode cX5_opens 2 = .ok (.iconst 0, 1) := by decide +kernel
theorem dX5_opens_3 : decode cX5_opens 3 = .ok (.istore_n 2, 1) := by decide +kernel
theorem dX5_opens_4 : decode cX5_opens 4 = .ok (.iload_n 2, 1) := by decide +kernel
theorem dX5_opens_5 : decode cX5_opens 5 = .ok (.aload_n 0, 1) := by decide +kernel
theorem dX5_opens_6 : decode cX5_opens 6 = .ok (.getfield 62, 3) := by decide +kernel
theorem dX5_opens_9 : decode cX5_opens 9 = .ok (.if_icmp .ge 28, 3) := by decide +kernel
theorem dX5_opens_12 : decode cX5_opens 12 = .ok (.iload_n 1, 1) := by decide +kernel
theorem dX5_opens_13 : decode cX5_opens 13 = .ok (.aload_n 0, 1) := by decide +kernel
theorem dX5_opens_14 : decode cX5_opens 14 = .ok (.getfield 38, 3) := by decide +kernel
theorem dX5_opens_17 : decode cX5_opens 17 = .ok (.iload_n 2, 1) := by decide +kernel
theorem dX5_opens_18 : decode cX5_opens 18 = .ok (.iaload, 1) := by decide +kernel
theorem dX5_opens_19 : decode cX5_opens 19 = .ok (.bipush 63, 2) := by decide +kernel
theorem dX5_opens_21 : decode cX5_opens 21 = .ok (.if_icmp .ne 7, 3) := by decide +kernel
theorem dX5_opens_24 : decode cX5_opens 24 = .ok (.iconst 1, 1) := by decide +kernel
theorem dX5_opens_25 : decode cX5_opens 25 = .ok (.goto 4, 3) := by decide +kernel
theorem dX5_opens_28 : decode cX5_opens 28 = .ok (.iconst 0, 1) := by decide +kernel
theorem dX5_opens_29 : decode cX5_opens 29 = .ok (.iadd, 1) := by decide +kernel
theorem dX5_opens_30 : decode cX5_opens 30 = .ok (.istore_n 1, 1) := by decide +kernel
theorem dX5_opens_31 : decode cX5_opens 31 = .ok (.iinc 2 1, 3) := by decide +kernel
theorem dX5_opens_34 : decode cX5_opens 34 = .ok (.goto (-30), 3) := by decide +kernel
theorem dX5_opens_37 : decode cX5_opens 37 = .ok (.iload_n 1, 1) := by decide +kernel
theorem dX5_opens_38 : decode cX5_opens 38 = .ok (.ireturn, 1) := by decide +kernel
theorem dX5_asNow_0 : decode cX5_asNow 0 = .ok (.iconst 0, 1) := by decide +kernel
theorem dX5_asNow_1 : decode cX5_asNow 1 = .ok (.istore_n 1, 1) := by decide +kernel
theorem dX5_asNow_2 : decode cX5_asNow 2 = .ok (.iload_n 1, 1) := by decide +kernel
theorem dX5_asNow_3 : decode cX5_asNow 3 = .ok (.bipush 36, 2) := by decide +kernel
theorem dX5_asNow_5 : decode cX5_asNow 5 = .ok (.if_icmp .ge 21, 3) := by decide +kernel
theorem dX5_asNow_8 : decode cX5_asNow 8 = .ok (.aload_n 0, 1) := by decide +kernel
theorem dX5_asNow_9 : decode cX5_asNow 9 = .ok (.getfield 41, 3) := by decide +kernel
theorem dX5_asNow_12 : decode cX5_asNow 12 = .ok (.iload_n 1, 1) := by decide +kernel
theorem dX5_asNow_13 : decode cX5_asNow 13 = .ok (.aload_n 0, 1) := by decide +kernel
theorem dX5_asNow_14 : decode cX5_asNow 14 = .ok (.getfield 25, 3) := by decide +kernel
theorem dX5_asNow_17 : decode cX5_asNow 17 = .ok (.iload_n 1, 1) := by decide +kernel
theorem dX5_asNow_18 : decode cX5_asNow 18 = .ok (.iaload, 1) := by decide +kernel
theorem dX5_asNow_19 : decode cX5_asNow 19 = .ok (.iastore, 1) := by decide +kernel
theorem dX5_asNow_20 : decode cX5_asNow 20 = .ok (.iinc 1 1, 3) := by decide +kernel
theorem dX5_asNow_23 : decode cX5_asNow 23 = .ok (.goto (-21), 3) := by decide +kernel
theorem dX5_asNow_26 : decode cX5_asNow 26 = .ok (.return_, 1) := by decide +kernel
set_option maxRecDepth 20000 in
theorem ggX5_tells_X5_has : GoodIn wsX5_tells wsX5_has := goodIn_r _ [9] (by decide +kernel) (by decide +kernel)
set_option maxRecDepth 20000 in
theorem gX5_tells_X5_has : GoodIn wsX5_tells (va_wsS RX5 69 yX5_has wsX5_has) := goodIn_app (goodIn_of _ (by decide +kernel)) ggX5_tells_X5_has
theorem dX5_tells_0 : decode cX5_tells 0 = .ok (.iload_n 1, 1) := by decide +kernel
theorem dX5_tells_1 : decode cX5_tells 1 = .ok (.iload_n 2, 1) := by decide +kernel
theorem dX5_tells_2 : decode cX5_tells 2 = .ok (.if_icmp .eq 81, 3) := by decide +kernel
theorem dX5_tells_5 : decode cX5_tells 5 = .ok (.aload_n 0, 1) := by decide +kernel
theorem dX5_tells_6 : decode cX5_tells 6 = .ok (.getfield 16, 3) := by decide +kernel
theorem dX5_tells_9 : decode cX5_tells 9 = .ok (.iload_n 3, 1) := by decide +kernel
theorem dX5_tells_10 : decode cX5_tells 10 = .ok (.iaload, 1) := by decide +kernel
theorem dX5_tells_11 : decode cX5_tells 11 = .ok (.iload_n 1, 1) := by decide +kernel
theorem dX5_tells_12 : decode cX5_tells 12 = .ok (.if_icmp .eq 17, 3) := by decide +kernel
theorem dX5_tells_15 : decode cX5_tells 15 = .ok (.aload_n 0, 1) := by decide +kernel
theorem dX5_tells_16 : decode cX5_tells 16 = .ok (.getfield 41, 3) := by decide +kernel
theorem dX5_tells_19 : decode cX5_tells 19 = .ok (.bipush 6, 2) := by decide +kernel
theorem dX5_tells_21 : decode cX5_tells 21 = .ok (.iload_n 1, 1) := by decide +kernel
theorem dX5_tells_22 : decode cX5_tells 22 = .ok (.imul, 1) := by decide +kernel
theorem dX5_tells_23 : decode cX5_tells 23 = .ok (.iload_n 3, 1) := by decide +kernel
theorem dX5_tells_24 : decode cX5_tells 24 = .ok (.iadd, 1) := by decide +kernel
theorem dX5_tells_25 : decode cX5_tells 25 = .ok (.iaload, 1) := by decide +kernel
theorem dX5_tells_26 : decode cX5_tells 26 = .ok (.ifCond .le 57, 3) := by decide +kernel
theorem dX5_tells_29 : decode cX5_tells 29 = .ok (.aload_n 0, 1) := by decide +kernel
theorem dX5_tells_30 : decode cX5_tells 30 = .ok (.getfield 19, 3) := by decide +kernel
theorem dX5_tells_33 : decode cX5_tells 33 = .ok (.iload_n 2, 1) := by decide +kernel
theorem dX5_tells_34 : decode cX5_tells 34 = .ok (.iaload, 1) := by decide +kernel
theorem dX5_tells_35 : decode cX5_tells 35 = .ok (.iload_n 1, 1) := by decide +kernel
theorem dX5_tells_36 : decode cX5_tells 36 = .ok (.invokestatic 69, 3) := by decide +kernel
theorem dX5_tells_39 : decode cX5_tells 39 = .ok (.ifCond .eq 44, 3) := by decide +kernel
theorem dX5_tells_42 : decode cX5_tells 42 = .ok (.aload_n 0, 1) := by decide +kernel
theorem dX5_tells_43 : decode cX5_tells 43 = .ok (.getfield 16, 3) := by decide +kernel
theorem dX5_tells_46 : decode cX5_tells 46 = .ok (.iload_n 3, 1) := by decide +kernel
theorem dX5_tells_47 : decode cX5_tells 47 = .ok (.iaload, 1) := by decide +kernel
theorem dX5_tells_48 : decode cX5_tells 48 = .ok (.iload_n 2, 1) := by decide +kernel
theorem dX5_tells_49 : decode cX5_tells 49 = .ok (.if_icmp .eq 34, 3) := by decide +kernel
theorem dX5_tells_52 : decode cX5_tells 52 = .ok (.aload_n 0, 1) := by decide +kernel
theorem dX5_tells_53 : decode cX5_tells 53 = .ok (.getfield 22, 3) := by decide +kernel
theorem dX5_tells_56 : decode cX5_tells 56 = .ok (.iload_n 2, 1) := by decide +kernel
theorem dX5_tells_57 : decode cX5_tells 57 = .ok (.iaload, 1) := by decide +kernel
theorem dX5_tells_58 : decode cX5_tells 58 = .ok (.iload_n 3, 1) := by decide +kernel
theorem dX5_tells_59 : decode cX5_tells 59 = .ok (.invokestatic 69, 3) := by decide +kernel
theorem dX5_tells_62 : decode cX5_tells 62 = .ok (.ifCond .ne 21, 3) := by decide +kernel
theorem dX5_tells_65 : decode cX5_tells 65 = .ok (.aload_n 0, 1) := by decide +kernel
theorem dX5_tells_66 : decode cX5_tells 66 = .ok (.getfield 41, 3) := by decide +kernel
theorem dX5_tells_69 : decode cX5_tells 69 = .ok (.bipush 6, 2) := by decide +kernel
theorem dX5_tells_71 : decode cX5_tells 71 = .ok (.iload_n 2, 1) := by decide +kernel
theorem dX5_tells_72 : decode cX5_tells 72 = .ok (.imul, 1) := by decide +kernel
theorem dX5_tells_73 : decode cX5_tells 73 = .ok (.iload_n 3, 1) := by decide +kernel
theorem dX5_tells_74 : decode cX5_tells 74 = .ok (.iadd, 1) := by decide +kernel
theorem dX5_tells_75 : decode cX5_tells 75 = .ok (.iaload, 1) := by decide +kernel
theorem dX5_tells_76 : decode cX5_tells 76 = .ok (.ifCond .ne 7, 3) := by decide +kernel
theorem dX5_tells_79 : decode cX5_tells 79 = .ok (.iconst 1, 1) := by decide +kernel
theorem dX5_tells_80 : decode cX5_tells 80 = .ok (.goto 4, 3) := by decide +kernel
theorem dX5_tells_83 : decode cX5_tells 83 = .ok (.iconst 0, 1) := by decide +kernel
theorem dX5_tells_84 : decode cX5_tells 84 = .ok (.istore 4, 2) := by decide +kernel
theorem dX5_tells_86 : decode cX5_tells 86 = .ok (.aload_n 0, 1) := by decide +kernel
theorem dX5_tells_87 : decode cX5_tells 87 = .ok (.getfield 41, 3) := by decide +kernel
theorem dX5_tells_90 : decode cX5_tells 90 = .ok (.bipush 6, 2) := by decide +kernel
theorem dX5_tells_92 : decode cX5_tells 92 = .ok (.iload_n 2, 1) := by decide +kernel
theorem dX5_tells_93 : decode cX5_tells 93 = .ok (.imul, 1) := by decide +kernel
theorem dX5_tells_94 : decode cX5_tells 94 = .ok (.iload_n 3, 1) := by decide +kernel
theorem dX5_tells_95 : decode cX5_tells 95 = .ok (.iadd, 1) := by decide +kernel
theorem dX5_tells_96 : decode cX5_tells 96 = .ok (.iload 4, 2) := by decide +kernel
theorem dX5_tells_98 : decode cX5_tells 98 = .ok (.ifCond .eq 10, 3) := by decide +kernel
theorem dX5_tells_101 : decode cX5_tells 101 = .ok (.aload_n 0, 1) := by decide +kernel
theorem dX5_tells_102 : decode cX5_tells 102 = .ok (.getfield 31, 3) := by decide +kernel
theorem dX5_tells_105 : decode cX5_tells 105 = .ok (.goto 14, 3) := by decide +kernel
theorem dX5_tells_108 : decode cX5_tells 108 = .ok (.aload_n 0, 1) := by decide +kernel
theorem dX5_tells_109 : decode cX5_tells 109 = .ok (.getfield 41, 3) := by decide +kernel
theorem dX5_tells_112 : decode cX5_tells 112 = .ok (.bipush 6, 2) := by decide +kernel
theorem dX5_tells_114 : decode cX5_tells 114 = .ok (.iload_n 2, 1) := by decide +kernel
theorem dX5_tells_115 : decode cX5_tells 115 = .ok (.imul, 1) := by decide +kernel
theorem dX5_tells_116 : decode cX5_tells 116 = .ok (.iload_n 3, 1) := by decide +kernel
theorem dX5_tells_117 : decode cX5_tells 117 = .ok (.iadd, 1) := by decide +kernel
theorem dX5_tells_118 : decode cX5_tells 118 = .ok (.iaload, 1) := by decide +kernel
theorem dX5_tells_119 : decode cX5_tells 119 = .ok (.iastore, 1) := by decide +kernel
theorem dX5_tells_120 : decode cX5_tells 120 = .ok (.iload 4, 2) := by decide +kernel
theorem dX5_tells_122 : decode cX5_tells 122 = .ok (.ireturn, 1) := by decide +kernel
set_option maxRecDepth 20000 in
theorem ggX5_denies_X5_has : GoodIn wsX5_denies wsX5_has := goodIn_r _ [6] (by decide +kernel) (by decide +kernel)
set_option maxRecDepth 20000 in
theorem gX5_denies_X5_has : GoodIn wsX5_denies (va_wsS RX5 69 yX5_has wsX5_has) := goodIn_app (goodIn_of _ (by decide +kernel)) ggX5_denies_X5_has
theorem dX5_denies_0 : decode cX5_denies 0 = .ok (.iload_n 1, 1) := by decide +kernel
theorem dX5_denies_1 : decode cX5_denies 1 = .ok (.iload_n 2, 1) := by decide +kernel
theorem dX5_denies_2 : decode cX5_denies 2 = .ok (.if_icmp .eq 34, 3) := by decide +kernel
theorem dX5_denies_5 : decode cX5_denies 5 = .ok (.aload_n 0, 1) := by decide +kernel
theorem dX5_denies_6 : decode cX5_denies 6 = .ok (.getfield 19, 3) := by decide +kernel
theorem dX5_denies_9 : decode cX5_denies 9 = .ok (.iload_n 2, 1) := by decide +kernel
theorem dX5_denies_10 : decode cX5_denies 10 = .ok (.iaload, 1) := by decide +kernel
theorem dX5_denies_11 : decode cX5_denies 11 = .ok (.iload_n 1, 1) := by decide +kernel
theorem dX5_denies_12 : decode cX5_denies 12 = .ok (.invokestatic 69, 3) := by decide +kernel
theorem dX5_denies_15 : decode cX5_denies 15 = .ok (.ifCond .eq 21, 3) := by decide +kernel
theorem dX5_denies_18 : decode cX5_denies 18 = .ok (.aload_n 0, 1) := by decide +kernel
theorem dX5_denies_19 : decode cX5_denies 19 = .ok (.getfield 41, 3) := by decide +kernel
theorem dX5_denies_22 : decode cX5_denies 22 = .ok (.bipush 6, 2) := by decide +kernel
theorem dX5_denies_24 : decode cX5_denies 24 = .ok (.iload_n 2, 1) := by decide +kernel
theorem dX5_denies_25 : decode cX5_denies 25 = .ok (.imul, 1) := by decide +kernel
theorem dX5_denies_26 : decode cX5_denies 26 = .ok (.iload_n 3, 1) := by decide +kernel
theorem dX5_denies_27 : decode cX5_denies 27 = .ok (.iadd, 1) := by decide +kernel
theorem dX5_denies_28 : decode cX5_denies 28 = .ok (.iaload, 1) := by decide +kernel
theorem dX5_denies_29 : decode cX5_denies 29 = .ok (.ifCond .le 7, 3) := by decide +kernel
theorem dX5_denies_32 : decode cX5_denies 32 = .ok (.iconst 1, 1) := by decide +kernel
theorem dX5_denies_33 : decode cX5_denies 33 = .ok (.goto 4, 3) := by decide +kernel
theorem dX5_denies_36 : decode cX5_denies 36 = .ok (.iconst 0, 1) := by decide +kernel
theorem dX5_denies_37 : decode cX5_denies 37 = .ok (.istore 4, 2) := by decide +kernel
theorem dX5_denies_39 : decode cX5_denies 39 = .ok (.aload_n 0, 1) := by decide +kernel
theorem dX5_denies_40 : decode cX5_denies 40 = .ok (.getfield 41, 3) := by decide +kernel
theorem dX5_denies_43 : decode cX5_denies 43 = .ok (.bipush 6, 2) := by decide +kernel
theorem dX5_denies_45 : decode cX5_denies 45 = .ok (.iload_n 2, 1) := by decide +kernel
theorem dX5_denies_46 : decode cX5_denies 46 = .ok (.imul, 1) := by decide +kernel
theorem dX5_denies_47 : decode cX5_denies 47 = .ok (.iload_n 3, 1) := by decide +kernel
theorem dX5_denies_48 : decode cX5_denies 48 = .ok (.iadd, 1) := by decide +kernel
theorem dX5_denies_49 : decode cX5_denies 49 = .ok (.iload 4, 2) := by decide +kernel
theorem dX5_denies_51 : decode cX5_denies 51 = .ok (.ifCond .eq 7, 3) := by decide +kernel
theorem dX5_denies_54 : decode cX5_denies 54 = .ok (.iconst 0, 1) := by decide +kernel
theorem dX5_denies_55 : decode cX5_denies 55 = .ok (.goto 14, 3) := by decide +kernel
theorem dX5_denies_58 : decode cX5_denies 58 = .ok (.aload_n 0, 1) := by decide +kernel
theorem dX5_denies_59 : decode cX5_denies 59 = .ok (.getfield 41, 3) := by decide +kernel
theorem dX5_denies_62 : decode cX5_denies 62 = .ok (.bipush 6, 2) := by decide +kernel
theorem dX5_denies_64 : decode cX5_denies 64 = .ok (.iload_n 2, 1) := by decide +kernel
theorem dX5_denies_65 : decode cX5_denies 65 = .ok (.imul, 1) := by decide +kernel
theorem dX5_denies_66 : decode cX5_denies 66 = .ok (.iload_n 3, 1) := by decide +kernel
theorem dX5_denies_67 : decode cX5_denies 67 = .ok (.iadd, 1) := by decide +kernel
theorem dX5_denies_68 : decode cX5_denies 68 = .ok (.iaload, 1) := by decide +kernel
theorem dX5_denies_69 : decode cX5_denies 69 = .ok (.iastore, 1) := by decide +kernel
theorem dX5_denies_70 : decode cX5_denies 70 = .ok (.iload 4, 2) := by decide +kernel
theorem dX5_denies_72 : decode cX5_denies 72 = .ok (.ireturn, 1) := by decide +kernel
theorem dX5_pass_0 : decode cX5_pass 0 = .ok (.iconst 0, 1) := by decide +kernel
theorem dX5_pass_1 : decode cX5_pass 1 = .ok (.istore_n 1, 1) := by decide +kernel
theorem dX5_pass_2 : decode cX5_pass 2 = .ok (.iload_n 1, 1) := by decide +kernel
theorem dX5_pass_3 : decode cX5_pass 3 = .ok (.bipush 36, 2) := by decide +kernel
theorem dX5_pass_5 : decode cX5_pass 5 = .ok (.if_icmp .ge 32, 3) := by decide +kernel
theorem dX5_pass_8 : decode cX5_pass 8 = .ok (.aload_n 0, 1) := by decide +kernel
theorem dX5_pass_9 : decode cX5_pass 9 = .ok (.getfield 41, 3) := by decide +kernel
theorem dX5_pass_12 : decode cX5_pass 12 = .ok (.iload_n 1, 1) := by decide +kernel
theorem dX5_pass_13 : decode cX5_pass 13 = .ok (.dup2, 1) := by decide +kernel
theorem dX5_pass_14 : decode cX5_pass 14 = .ok (.iaload, 1) := by decide +kernel
theorem dX5_pass_15 : decode cX5_pass 15 = .ok (.aload_n 0, 1) := by decide +kernel
theorem dX5_pass_16 : decode cX5_pass 16 = .ok (.getfield 41, 3) := by decide +kernel
theorem dX5_pass_19 : decode cX5_pass 19 = .ok (.iload_n 1, 1) := by decide +kernel
theorem dX5_pass_20 : decode cX5_pass 20 = .ok (.iaload, 1) := by decide +kernel
theorem dX5_pass_21 : decode cX5_pass 21 = .ok (.ifCond .le 7, 3) := by decide +kernel
theorem dX5_pass_24 : decode cX5_pass 24 = .ok (.iconst 1, 1) := by decide +kernel
theorem dX5_pass_25 : decode cX5_pass 25 = .ok (.goto 4, 3) := by decide +kernel
theorem dX5_pass_28 : decode cX5_pass 28 = .ok (.iconst 0, 1) := by decide +kernel
theorem dX5_pass_29 : decode cX5_pass 29 = .ok (.isub, 1) := by decide +kernel
theorem dX5_pass_30 : decode cX5_pass 30 = .ok (.iastore, 1) := by decide +kernel
theorem dX5_pass_31 : decode cX5_pass 31 = .ok (.iinc 1 1, 3) := by decide +kernel
theorem dX5_pass_34 : decode cX5_pass 34 = .ok (.goto (-32), 3) := by decide +kernel
theorem dX5_pass_37 : decode cX5_pass 37 = .ok (.return_, 1) := by decide +kernel
theorem dX5_bornBy_0 : decode cX5_bornBy 0 = .ok (.iconst 0, 1) := by decide +kernel
theorem dX5_bornBy_1 : decode cX5_bornBy 1 = .ok (.istore_n 2, 1) := by decide +kernel
theorem dX5_bornBy_2 : decode cX5_bornBy 2 = .ok (.iconst 0, 1) := by decide +kernel
theorem dX5_bornBy_3 : decode cX5_bornBy 3 = .ok (.istore_n 3, 1) := by decide +kernel
theorem dX5_bornBy_4 : decode cX5_bornBy 4 = .ok (.iload_n 3, 1) := by decide +kernel
theorem dX5_bornBy_5 : decode cX5_bornBy 5 = .ok (.bipush 6, 2) := by decide +kernel
theorem dX5_bornBy_7 : decode cX5_bornBy 7 = .ok (.if_icmp .ge 31, 3) := by decide +kernel
theorem dX5_bornBy_10 : decode cX5_bornBy 10 = .ok (.iload_n 2, 1) := by decide +kernel
theorem dX5_bornBy_11 : decode cX5_bornBy 11 = .ok (.aload_n 0, 1) := by decide +kernel
theorem dX5_bornBy_12 : decode cX5_bornBy 12 = .ok (.getfield 41, 3) := by decide +kernel
theorem dX5_bornBy_15 : decode cX5_bornBy 15 = .ok (.bipush 6, 2) := by decide +kernel
theorem dX5_bornBy_17 : decode cX5_bornBy 17 = .ok (.iload_n 3, 1) := by decide +kernel
theorem dX5_bornBy_18 : decode cX5_bornBy 18 = .ok (.imul, 1) := by decide +kernel
theorem dX5_bornBy_19 : decode cX5_bornBy 19 = .ok (.iload_n 1, 1) := by decide +kernel
theorem dX5_bornBy_20 : decode cX5_bornBy 20 = .ok (.iadd, 1) := by decide +kernel
theorem dX5_bornBy_21 : decode cX5_bornBy 21 = .ok (.iaload, 1) := by decide +kernel
theorem dX5_bornBy_22 : decode cX5_bornBy 22 = .ok (.ifCond .le 7, 3) := by decide +kernel
theorem dX5_bornBy_25 : decode cX5_bornBy 25 = .ok (.iconst 1, 1) := by decide +kernel
theorem dX5_bornBy_26 : decode cX5_bornBy 26 = .ok (.goto 4, 3) := by decide +kernel
theorem dX5_bornBy_29 : decode cX5_bornBy 29 = .ok (.iconst 0, 1) := by decide +kernel
theorem dX5_bornBy_30 : decode cX5_bornBy 30 = .ok (.iadd, 1) := by decide +kernel
theorem dX5_bornBy_31 : decode cX5_bornBy 31 = .ok (.istore_n 2, 1) := by decide +kernel
theorem dX5_bornBy_32 : decode cX5_bornBy 32 = .ok (.iinc 3 1, 3) := by decide +kernel
theorem dX5_bornBy_35 : decode cX5_bornBy 35 = .ok (.goto (-31), 3) := by decide +kernel
theorem dX5_bornBy_38 : decode cX5_bornBy 38 = .ok (.iload_n 2, 1) := by decide +kernel
theorem dX5_bornBy_39 : decode cX5_bornBy 39 = .ok (.ireturn, 1) := by decide +kernel
set_option maxRecDepth 20000 in
theorem ggX5_goText_X5_asNow : GoodIn wsX5_goText wsX5_asNow := goodIn_r _ [9, 10, 11, 35, 36, 37, 38, 39, 40, 41, 42, 43, 44, 45, 46, 47, 48, 49, 50, 51, 52, 53, 54, 55, 56] (by decide +kernel) (by decide +kernel)
set_option maxRecDepth 20000 in
theorem gX5_goText_X5_asNow : GoodIn wsX5_goText (wsV RX5 73 RX5 yX5_asNow wsX5_asNow) := goodIn_app (goodIn_of _ (by decide +kernel)) ggX5_goText_X5_asNow
set_option maxRecDepth 20000 in
theorem ggX5_goText_X5_opens : GoodIn wsX5_goText wsX5_opens := goodIn_r _ [15, 3, 4, 35, 36, 37, 38, 39, 40, 41, 42, 43, 44, 45, 46, 47, 48, 49, 50, 51, 52, 53, 54, 55, 56] (by decide +kernel) (by decide +kernel)
set_option maxRecDepth 20000 in
theorem gX5_goText_X5_opens : GoodIn wsX5_goText (wsV RX5 76 RX5 yX5_opens wsX5_opens) := goodIn_app (goodIn_of _ (by decide +kernel)) ggX5_goText_X5_opens
set_option maxRecDepth 20000 in
theorem ggX5_goText_X5_pass : GoodIn wsX5_goText wsX5_pass := goodIn_r _ [19, 10, 35, 36, 37, 38, 39, 40, 41, 42, 43, 44, 45, 46, 47, 48, 49, 50, 51, 52, 53, 54, 55, 56] (by decide +kernel) (by decide +kernel)
set_option maxRecDepth 20000 in
theorem gX5_goText_X5_pass : GoodIn wsX5_goText (wsV RX5 85 RX5 yX5_pass wsX5_pass) := goodIn_app (goodIn_of _ (by decide +kernel)) ggX5_goText_X5_pass
set_option maxRecDepth 20000 in
theorem ggX5_goText_X5_denies : GoodIn wsX5_goText wsX5_denies := goodIn_r _ [23, 24, 10, 25, 26, 8, 27, 35, 36, 37, 38, 39, 40, 41, 42, 43, 44, 45, 46, 47, 48, 49, 50, 51, 52, 53, 54, 55, 56] (by decide +kernel) (by decide +kernel)
set_option maxRecDepth 20000 in
theorem gX5_goText_X5_denies : GoodIn wsX5_goText (wsV RX5 88 RX5 yX5_denies wsX5_denies) := goodIn_app (goodIn_of _ (by decide +kernel)) ggX5_goText_X5_denies
set_option maxRecDepth 20000 in
theorem ggX5_goText_X5_tells : GoodIn wsX5_goText wsX5_tells := goodIn_r _ [31, 32, 10, 24, 33, 34, 25, 26, 8, 27, 35, 36, 37, 38, 39, 40, 41, 42, 43, 44, 45, 46, 47, 48, 49, 50, 51, 52, 53, 54, 55, 56] (by decide +kernel) (by decide +kernel)
set_option maxRecDepth 20000 in
theorem gX5_goText_X5_tells : GoodIn wsX5_goText (wsV RX5 91 RX5 yX5_tells wsX5_tells) := goodIn_app (goodIn_of _ (by decide +kernel)) ggX5_goText_X5_tells
theorem dX5_goText_0 : decode cX5_goText 0 = .ok (.aload_n 0, 1) := by decide +kernel
theorem dX5_goText_1 : decode cX5_goText 1 = .ok (.invokevirtual 73, 3) := by decide +kernel
theorem dX5_goText_4 : decode cX5_goText 4 = .ok (.iconst 1, 1) := by decide +kernel
theorem dX5_goText_5 : decode cX5_goText 5 = .ok (.istore_n 3, 1) := by decide +kernel
theorem dX5_goText_6 : decode cX5_goText 6 = .ok (.iconst 1, 1) := by decide +kernel
theorem dX5_goText_7 : decode cX5_goText 7 = .ok (.istore 4, 2) := by decide +kernel
theorem dX5_goText_9 : decode cX5_goText 9 = .ok (.iload 4, 2) := by decide +kernel
theorem dX5_goText_11 : decode cX5_goText 11 = .ok (.aload_n 0, 1) := by decide +kernel
theorem dX5_goText_12 : decode cX5_goText 12 = .ok (.invokevirtual 76, 3) := by decide +kernel
theorem dX5_goText_15 : decode cX5_goText 15 = .ok (.if_icmp .ge 14, 3) := by decide +kernel
theorem dX5_goText_18 : decode cX5_goText 18 = .ok (.iload_n 3, 1) := by decide +kernel
theorem dX5_goText_19 : decode cX5_goText 19 = .ok (.bipush 6, 2) := by decide +kernel
theorem dX5_goText_21 : decode cX5_goText 21 = .ok (.imul, 1) := by decide +kernel
theorem dX5_goText_22 : decode cX5_goText 22 = .ok (.istore_n 3, 1) := by decide +kernel
theorem dX5_goText_23 : decode cX5_goText 23 = .ok (.iinc 4 1, 3) := by decide +kernel
theorem dX5_goText_26 : decode cX5_goText 26 = .ok (.goto (-17), 3) := by decide +kernel
theorem dX5_goText_29 : decode cX5_goText 29 = .ok (.aload_n 0, 1) := by decide +kernel
theorem dX5_goText_30 : decode cX5_goText 30 = .ok (.iconst 0, 1) := by decide +kernel
theorem dX5_goText_31 : decode cX5_goText 31 = .ok (.putfield 79, 3) := by decide +kernel
theorem dX5_goText_34 : decode cX5_goText 34 = .ok (.aload_n 0, 1) := by decide +kernel
theorem dX5_goText_35 : decode cX5_goText 35 = .ok (.bipush (-6), 2) := by decide +kernel
theorem dX5_goText_37 : decode cX5_goText 37 = .ok (.putfield 82, 3) := by decide +kernel
theorem dX5_goText_40 : decode cX5_goText 40 = .ok (.iconst 0, 1) := by decide +kernel
theorem dX5_goText_41 : decode cX5_goText 41 = .ok (.istore 4, 2) := by decide +kernel
theorem dX5_goText_43 : decode cX5_goText 43 = .ok (.iconst 0, 1) := by decide +kernel
theorem dX5_goText_44 : decode cX5_goText 44 = .ok (.istore 5, 2) := by decide +kernel
theorem dX5_goText_46 : decode cX5_goText 46 = .ok (.iload 5, 2) := by decide +kernel
theorem dX5_goText_48 : decode cX5_goText 48 = .ok (.aload_n 0, 1) := by decide +kernel
theorem dX5_goText_49 : decode cX5_goText 49 = .ok (.getfield 62, 3) := by decide +kernel
theorem dX5_goText_52 : decode cX5_goText 52 = .ok (.if_icmp .ge 235, 3) := by decide +kernel
theorem dX5_goText_55 : decode cX5_goText 55 = .ok (.iconst 1, 1) := by decide +kernel
theorem dX5_goText_56 : decode cX5_goText 56 = .ok (.istore 6, 2) := by decide +kernel
theorem dX5_goText_58 : decode cX5_goText 58 = .ok (.aload_n 0, 1) := by decide +kernel
theorem dX5_goText_59 : decode cX5_goText 59 = .ok (.getfield 38, 3) := by decide +kernel
theorem dX5_goText_62 : decode cX5_goText 62 = .ok (.iload 5, 2) := by decide +kernel
theorem dX5_goText_64 : decode cX5_goText 64 = .ok (.iaload, 1) := by decide +kernel
theorem dX5_goText_65 : decode cX5_goText 65 = .ok (.bipush 46, 2) := by decide +kernel
theorem dX5_goText_67 : decode cX5_goText 67 = .ok (.if_icmp .ne 13, 3) := by decide +kernel
theorem dX5_goText_70 : decode cX5_goText 70 = .ok (.aload_n 0, 1) := by decide +kernel
theorem dX5_goText_71 : decode cX5_goText 71 = .ok (.invokevirtual 85, 3) := by decide +kernel
theorem dX5_goText_74 : decode cX5_goText 74 = .ok (.iinc 5 1, 3) := by decide +kernel
theorem dX5_goText_77 : decode cX5_goText 77 = .ok (.goto 168, 3) := by decide +kernel
theorem dX5_goText_80 : decode cX5_goText 80 = .ok (.aload_n 0, 1) := by decide +kernel
theorem dX5_goText_81 : decode cX5_goText 81 = .ok (.getfield 38, 3) := by decide +kernel
theorem dX5_goText_84 : decode cX5_goText 84 = .ok (.iload 5, 2) := by decide +kernel
theorem dX5_goText_86 : decode cX5_goText 86 = .ok (.iaload, 1) := by decide +kernel
theorem dX5_goText_87 : decode cX5_goText 87 = .ok (.bipush 63, 2) := by decide +kernel
theorem dX5_goText_89 : decode cX5_goText 89 = .ok (.if_icmp .ne 12, 3) := by decide +kernel
theorem dX5_goText_92 : decode cX5_goText 92 = .ok (.iload_n 1, 1) := by decide +kernel
theorem dX5_goText_93 : decode cX5_goText 93 = .ok (.iload_n 3, 1) := by decide +kernel
theorem dX5_goText_94 : decode cX5_goText 94 = .ok (.idiv, 1) := by decide +kernel
theorem dX5_goText_95 : decode cX5_goText 95 = .ok (.bipush 6, 2) := by decide +kernel
theorem dX5_goText_97 : decode cX5_goText 97 = .ok (.irem, 1) := by decide +kernel
theorem dX5_goText_98 : decode cX5_goText 98 = .ok (.goto 13, 3) := by decide +kernel
theorem dX5_goText_101 : decode cX5_goText 101 = .ok (.aload_n 0, 1) := by decide +kernel
theorem dX5_goText_102 : decode cX5_goText 102 = .ok (.getfield 38, 3) := by decide +kernel
theorem dX5_goText_105 : decode cX5_goText 105 = .ok (.iload 5, 2) := by decide +kernel
theorem dX5_goText_107 : decode cX5_goText 107 = .ok (.iaload, 1) := by decide +kernel
theorem dX5_goText_108 : decode cX5_goText 108 = .ok (.bipush 65, 2) := by decide +kernel
theorem dX5_goText_110 : decode cX5_goText 110 = .ok (.isub, 1) := by decide +kernel
theorem dX5_goText_111 : decode cX5_goText 111 = .ok (.istore 7, 2) := by decide +kernel
theorem dX5_goText_113 : decode cX5_goText 113 = .ok (.aload_n 0, 1) := by decide +kernel
theorem dX5_goText_114 : decode cX5_goText 114 = .ok (.getfield 38, 3) := by decide +kernel
theorem dX5_goText_117 : decode cX5_goText 117 = .ok (.iload 5, 2) := by decide +kernel
theorem dX5_goText_119 : decode cX5_goText 119 = .ok (.iaload, 1) := by decide +kernel
theorem dX5_goText_120 : decode cX5_goText 120 = .ok (.bipush 63, 2) := by decide +kernel
theorem dX5_goText_122 : decode cX5_goText 122 = .ok (.if_icmp .ne 15, 3) := by decide +kernel
theorem dX5_goText_125 : decode cX5_goText 125 = .ok (.iload_n 3, 1) := by decide +kernel
theorem dX5_goText_126 : decode cX5_goText 126 = .ok (.iconst 1, 1) := by decide +kernel
theorem dX5_goText_127 : decode cX5_goText 127 = .ok (.if_icmp .le 10, 3) := by decide +kernel
theorem dX5_goText_130 : decode cX5_goText 130 = .ok (.iload_n 3, 1) := by decide +kernel
theorem dX5_goText_131 : decode cX5_goText 131 = .ok (.bipush 6, 2) := by decide +kernel
theorem dX5_goText_133 : decode cX5_goText 133 = .ok (.idiv, 1) := by decide +kernel
theorem dX5_goText_134 : decode cX5_goText 134 = .ok (.goto 4, 3) := by decide +kernel
theorem dX5_goText_137 : decode cX5_goText 137 = .ok (.iload_n 3, 1) := by decide +kernel
theorem dX5_goText_138 : decode cX5_goText 138 = .ok (.istore_n 3, 1) := by decide +kernel
theorem dX5_goText_139 : decode cX5_goText 139 = .ok (.aload_n 0, 1) := by decide +kernel
theorem dX5_goText_140 : decode cX5_goText 140 = .ok (.getfield 38, 3) := by decide +kernel
theorem dX5_goText_143 : decode cX5_goText 143 = .ok (.iload 5, 2) := by decide +kernel
theorem dX5_goText_145 : decode cX5_goText 145 = .ok (.iconst 1, 1) := by decide +kernel
theorem dX5_goText_146 : decode cX5_goText 146 = .ok (.iadd, 1) := by decide +kernel
theorem dX5_goText_147 : decode cX5_goText 147 = .ok (.iaload, 1) := by decide +kernel
theorem dX5_goText_148 : decode cX5_goText 148 = .ok (.bipush 65, 2) := by decide +kernel
theorem dX5_goText_150 : decode cX5_goText 150 = .ok (.isub, 1) := by decide +kernel
theorem dX5_goText_151 : decode cX5_goText 151 = .ok (.istore 8, 2) := by decide +kernel
theorem dX5_goText_153 : decode cX5_goText 153 = .ok (.aload_n 0, 1) := by decide +kernel
theorem dX5_goText_154 : decode cX5_goText 154 = .ok (.getfield 38, 3) := by decide +kernel
theorem dX5_goText_157 : decode cX5_goText 157 = .ok (.iload 5, 2) := by decide +kernel
theorem dX5_goText_159 : decode cX5_goText 159 = .ok (.iconst 2, 1) := by decide +kernel
theorem dX5_goText_160 : decode cX5_goText 160 = .ok (.iadd, 1) := by decide +kernel
theorem dX5_goText_161 : decode cX5_goText 161 = .ok (.iaload, 1) := by decide +kernel
theorem dX5_goText_162 : decode cX5_goText 162 = .ok (.bipush 45, 2) := by decide +kernel
theorem dX5_goText_164 : decode cX5_goText 164 = .ok (.if_icmp .ne 7, 3) := by decide +kernel
theorem dX5_goText_167 : decode cX5_goText 167 = .ok (.iconst 1, 1) := by decide +kernel
theorem dX5_goText_168 : decode cX5_goText 168 = .ok (.goto 4, 3) := by decide +kernel
theorem dX5_goText_171 : decode cX5_goText 171 = .ok (.iconst 0, 1) := by decide +kernel
theorem dX5_goText_172 : decode cX5_goText 172 = .ok (.istore 9, 2) := by decide +kernel
theorem dX5_goText_174 : decode cX5_goText 174 = .ok (.aload_n 0, 1) := by decide +kernel
theorem dX5_goText_175 : decode cX5_goText 175 = .ok (.getfield 38, 3) := by decide +kernel
theorem dX5_goText_178 : decode cX5_goText 178 = .ok (.iload 9, 2) := by decide +kernel
theorem dX5_goText_180 : decode cX5_goText 180 = .ok (.ifCond .eq 10, 3) := by decide +kernel
theorem dX5_goText_183 : decode cX5_goText 183 = .ok (.iload 5, 2) := by decide +kernel
theorem dX5_goText_185 : decode cX5_goText 185 = .ok (.iconst 3, 1) := by decide +kernel
theorem dX5_goText_186 : decode cX5_goText 186 = .ok (.iadd, 1) := by decide +kernel
theorem dX5_goText_187 : decode cX5_goText 187 = .ok (.goto 7, 3) := by decide +kernel
theorem dX5_goText_190 : decode cX5_goText 190 = .ok (.iload 5, 2) := by decide +kernel
theorem dX5_goText_192 : decode cX5_goText 192 = .ok (.iconst 2, 1) := by decide +kernel
theorem dX5_goText_193 : decode cX5_goText 193 = .ok (.iadd, 1) := by decide +kernel
theorem dX5_goText_194 : decode cX5_goText 194 = .ok (.iaload, 1) := by decide +kernel
theorem dX5_goText_195 : decode cX5_goText 195 = .ok (.bipush 48, 2) := by decide +kernel
theorem dX5_goText_197 : decode cX5_goText 197 = .ok (.isub, 1) := by decide +kernel
theorem dX5_goText_198 : decode cX5_goText 198 = .ok (.istore 10, 2) := by decide +kernel
theorem dX5_goText_200 : decode cX5_goText 200 = .ok (.iload 9, 2) := by decide +kernel
theorem dX5_goText_202 : decode cX5_goText 202 = .ok (.ifCond .eq 16, 3) := by decide +kernel
theorem dX5_goText_205 : decode cX5_goText 205 = .ok (.aload_n 0, 1) := by decide +kernel
theorem dX5_goText_206 : decode cX5_goText 206 = .ok (.iload 7, 2) := by decide +kernel
theorem dX5_goText_208 : decode cX5_goText 208 = .ok (.iload 8, 2) := by decide +kernel
theorem dX5_goText_210 : decode cX5_goText 210 = .ok (.iload 10, 2) := by decide +kernel
theorem dX5_goText_212 : decode cX5_goText 212 = .ok (.invokevirtual 88, 3) := by decide +kernel
theorem dX5_goText_215 : decode cX5_goText 215 = .ok (.goto 13, 3) := by decide +kernel
theorem dX5_goText_218 : decode cX5_goText 218 = .ok (.aload_n 0, 1) := by decide +kernel
theorem dX5_goText_219 : decode cX5_goText 219 = .ok (.iload 7, 2) := by decide +kernel
theorem dX5_goText_221 : decode cX5_goText 221 = .ok (.iload 8, 2) := by decide +kernel
theorem dX5_goText_223 : decode cX5_goText 223 = .ok (.iload 10, 2) := by decide +kernel
theorem dX5_goText_225 : decode cX5_goText 225 = .ok (.invokevirtual 91, 3) := by decide +kernel
theorem dX5_goText_228 : decode cX5_goText 228 = .ok (.istore 6, 2) := by decide +kernel
theorem dX5_goText_230 : decode cX5_goText 230 = .ok (.iload 5, 2) := by decide +kernel
theorem dX5_goText_232 : decode cX5_goText 232 = .ok (.iload 9, 2) := by decide +kernel
theorem dX5_goText_234 : decode cX5_goText 234 = .ok (.ifCond .eq 7, 3) := by decide +kernel
theorem dX5_goText_237 : decode cX5_goText 237 = .ok (.iconst 4, 1) := by decide +kernel
theorem dX5_goText_238 : decode cX5_goText 238 = .ok (.goto 4, 3) := by decide +kernel
theorem dX5_goText_241 : decode cX5_goText 241 = .ok (.iconst 3, 1) := by decide +kernel
theorem dX5_goText_242 : decode cX5_goText 242 = .ok (.iadd, 1) := by decide +kernel
theorem dX5_goText_243 : decode cX5_goText 243 = .ok (.istore 5, 2) := by decide +kernel
theorem dX5_goText_245 : decode cX5_goText 245 = .ok (.iload 6, 2) := by decide +kernel
theorem dX5_goText_247 : decode cX5_goText 247 = .ok (.ifCond .ne 27, 3) := by decide +kernel
theorem dX5_goText_250 : decode cX5_goText 250 = .ok (.aload_n 0, 1) := by decide +kernel
theorem dX5_goText_251 : decode cX5_goText 251 = .ok (.iload 4, 2) := by decide +kernel
theorem dX5_goText_253 : decode cX5_goText 253 = .ok (.iload_n 2, 1) := by decide +kernel
theorem dX5_goText_254 : decode cX5_goText 254 = .ok (.if_icmp .ne 10, 3) := by decide +kernel
theorem dX5_goText_257 : decode cX5_goText 257 = .ok (.aload_n 0, 1) := by decide +kernel
theorem dX5_goText_258 : decode cX5_goText 258 = .ok (.getfield 79, 3) := by decide +kernel
theorem dX5_goText_261 : decode cX5_goText 261 = .ok (.goto 7, 3) := by decide +kernel
theorem dX5_goText_264 : decode cX5_goText 264 = .ok (.aload_n 0, 1) := by decide +kernel
theorem dX5_goText_265 : decode cX5_goText 265 = .ok (.getfield 82, 3) := by decide +kernel
theorem dX5_goText_268 : decode cX5_goText 268 = .ok (.putfield 82, 3) := by decide +kernel
theorem dX5_goText_271 : decode cX5_goText 271 = .ok (.iinc 4 1, 3) := by decide +kernel
theorem dX5_goText_274 : decode cX5_goText 274 = .ok (.aload_n 0, 1) := by decide +kernel
theorem dX5_goText_275 : decode cX5_goText 275 = .ok (.dup, 1) := by decide +kernel
theorem dX5_goText_276 : decode cX5_goText 276 = .ok (.getfield 79, 3) := by decide +kernel
theorem dX5_goText_279 : decode cX5_goText 279 = .ok (.iconst 1, 1) := by decide +kernel
theorem dX5_goText_280 : decode cX5_goText 280 = .ok (.iadd, 1) := by decide +kernel
theorem dX5_goText_281 : decode cX5_goText 281 = .ok (.putfield 79, 3) := by decide +kernel
theorem dX5_goText_284 : decode cX5_goText 284 = .ok (.goto (-238), 3) := by decide +kernel
theorem dX5_goText_287 : decode cX5_goText 287 = .ok (.iload 4, 2) := by decide +kernel
theorem dX5_goText_289 : decode cX5_goText 289 = .ok (.ireturn, 1) := by decide +kernel
set_option maxRecDepth 20000 in
theorem ggX5_barOfText_X5_faultOf : GoodIn wsX5_barOfText wsX5_faultOf := goodIn_r _ [5, 6, 7, 8, 9, 4, 10, 15, 16, 17, 18, 19, 20, 21, 22, 23, 24, 25, 26, 27, 28, 29, 30, 31, 32, 33, 34, 35, 36] (by decide +kernel) (by decide +kernel)
set_option maxRecDepth 20000 in
theorem gX5_barOfText_X5_faultOf : GoodIn wsX5_barOfText (wsV RX5 65 RX5 yX5_faultOf wsX5_faultOf) := goodIn_app (goodIn_of _ (by decide +kernel)) ggX5_barOfText_X5_faultOf
set_option maxRecDepth 20000 in
theorem ggX5_barOfText_X5_opens : GoodIn wsX5_barOfText wsX5_opens := goodIn_r _ [14, 6, 7, 15, 16, 17, 18, 19, 20, 21, 22, 23, 24, 25, 26, 27, 28, 29, 30, 31, 32, 33, 34, 35, 36] (by decide +kernel) (by decide +kernel)
set_option maxRecDepth 20000 in
theorem gX5_barOfText_X5_opens : GoodIn wsX5_barOfText (wsV RX5 76 RX5 yX5_opens wsX5_opens) := goodIn_app (goodIn_of _ (by decide +kernel)) ggX5_barOfText_X5_opens
theorem dX5_barOfText_0 : decode cX5_barOfText 0 = .ok (.aload_n 0, 1) := by decide +kernel
theorem dX5_barOfText_1 : decode cX5_barOfText 1 = .ok (.invokevirtual 65, 3) := by decide +kernel
theorem dX5_barOfText_4 : decode cX5_barOfText 4 = .ok (.ifCond .lt 8, 3) := by decide +kernel
theorem dX5_barOfText_7 : decode cX5_barOfText 7 = .ok (.bipush (-5), 2) := by decide +kernel
theorem dX5_barOfText_9 : decode cX5_barOfText 9 = .ok (.goto 16, 3) := by decide +kernel
theorem dX5_barOfText_12 : decode cX5_barOfText 12 = .ok (.aload_n 0, 1) := by decide +kernel
theorem dX5_barOfText_13 : decode cX5_barOfText 13 = .ok (.invokevirtual 76, 3) := by decide +kernel
theorem dX5_barOfText_16 : decode cX5_barOfText 16 = .ok (.ifCond .le 8, 3) := by decide +kernel
theorem dX5_barOfText_19 : decode cX5_barOfText 19 = .ok (.bipush (-3), 2) := by decide +kernel
theorem dX5_barOfText_21 : decode cX5_barOfText 21 = .ok (.goto 4, 3) := by decide +kernel
theorem dX5_barOfText_24 : decode cX5_barOfText 24 = .ok (.iconst 0, 1) := by decide +kernel
theorem dX5_barOfText_25 : decode cX5_barOfText 25 = .ok (.ireturn, 1) := by decide +kernel
set_option maxRecDepth 20000 in
theorem ggX5_vain_X5_barOfText : GoodIn wsX5_vain wsX5_barOfText := goodIn_r _ [6, 7, 8, 9, 5, 10, 11, 12, 13, 14, 15, 16, 17, 18, 19, 50, 51, 52, 53, 54, 55, 56, 57, 58, 59, 60, 61, 62, 63, 64, 65, 66, 67, 68, 69, 70, 71] (by decide +kernel) (by decide +kernel)
set_option maxRecDepth 20000 in
theorem gX5_vain_X5_barOfText : GoodIn wsX5_vain (wsV RX5 94 RX5 yX5_barOfText wsX5_barOfText) := goodIn_app (goodIn_of _ (by decide +kernel)) ggX5_vain_X5_barOfText
set_option maxRecDepth 20000 in
theorem ggX5_vain_X5_goText : GoodIn wsX5_vain wsX5_goText := goodIn_r _ [23, 24, 1, 11, 12, 25, 26, 27, 5, 28, 29, 30, 16, 17, 18, 19, 31, 32, 33, 34, 35, 36, 37, 38, 39, 40, 41, 42, 43, 44, 45, 46, 47, 48, 49, 50, 51, 52, 53, 54, 55, 56, 57, 58, 59, 60, 61, 62, 63, 64, 65, 66, 67, 68, 69, 70, 71] (by decide +kernel) (by decide +kernel)
set_option maxRecDepth 20000 in
theorem gX5_vain_X5_goText : GoodIn wsX5_vain (wsV RX5 97 RX5 yX5_goText wsX5_goText) := goodIn_app (goodIn_of _ (by decide +kernel)) ggX5_vain_X5_goText
theorem dX5_vain_0 : decode cX5_vain 0 = .ok (.aload_n 0, 1) := by decide +kernel
theorem dX5_vain_1 : decode cX5_vain 1 = .ok (.invokevirtual 94, 3) := by decide +kernel
theorem dX5_vain_4 : decode cX5_vain 4 = .ok (.istore_n 2, 1) := by decide +kernel
theorem dX5_vain_5 : decode cX5_vain 5 = .ok (.iload_n 2, 1) := by decide +kernel
theorem dX5_vain_6 : decode cX5_vain 6 = .ok (.ifCond .ge 5, 3) := by decide +kernel
theorem dX5_vain_9 : decode cX5_vain 9 = .ok (.iload_n 2, 1) := by decide +kernel
theorem dX5_vain_10 : decode cX5_vain 10 = .ok (.ireturn, 1) := by decide +kernel
theorem dX5_vain_11 : decode cX5_vain 11 = .ok (.aload_n 0, 1) := by decide +kernel
theorem dX5_vain_12 : decode cX5_vain 12 = .ok (.iconst 0, 1) := by decide +kernel
theorem dX5_vain_13 : decode cX5_vain 13 = .ok (.iload_n 1, 1) := by decide +kernel
theorem dX5_vain_14 : decode cX5_vain 14 = .ok (.invokevirtual 97, 3) := by decide +kernel
theorem dX5_vain_17 : decode cX5_vain 17 = .ok (.istore_n 3, 1) := by decide +kernel
theorem dX5_vain_18 : decode cX5_vain 18 = .ok (.iload_n 1, 1) := by decide +kernel
theorem dX5_vain_19 : decode cX5_vain 19 = .ok (.iconst (-1), 1) := by decide +kernel
theorem dX5_vain_20 : decode cX5_vain 20 = .ok (.if_icmp .ne 7, 3) := by decide +kernel
theorem dX5_vain_23 : decode cX5_vain 23 = .ok (.iload_n 3, 1) := by decide +kernel
