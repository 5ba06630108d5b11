theorem dX0_init_0 : decode cX0_init 0 = .ok (.aload_n 0, 1) := by decide +kernel
theorem dX0_init_1 : decode cX0_init 1 = .ok (.invokespecial 3, 3) := by decide +kernel
theorem dX0_init_4 : decode cX0_init 4 = .ok (.aload_n 0, 1) := by decide +kernel
theorem dX0_init_5 : decode cX0_init 5 = .ok (.bipush 36, 2) := by decide +kernel
theorem dX0_init_7 : decode cX0_init 7 = .ok (.newarray .int, 2) := by decide +kernel
theorem dX0_init_9 : decode cX0_init 9 = .ok (.putfield 9, 3) := by decide +kernel
theorem dX0_init_12 : decode cX0_init 12 = .ok (.return_, 1) := by decide +kernel
theorem dX0_of_0 : decode cX0_of 0 = .ok (.iload_n 1, 1) := by decide +kernel
theorem dX0_of_1 : decode cX0_of 1 = .ok (.bipush 6, 2) := by decide +kernel
theorem dX0_of_3 : decode cX0_of 3 = .ok (.imul, 1) := by decide +kernel
theorem dX0_of_4 : decode cX0_of 4 = .ok (.iload_n 2, 1) := by decide +kernel
theorem dX0_of_5 : decode cX0_of 5 = .ok (.iadd, 1) := by decide +kernel
theorem dX0_of_6 : decode cX0_of 6 = .ok (.istore_n 3, 1) := by decide +kernel
theorem dX0_of_7 : decode cX0_of 7 = .ok (.iload_n 3, 1) := by decide +kernel
theorem dX0_of_8 : decode cX0_of 8 = .ok (.ifCond .lt 21, 3) := by decide +kernel
theorem dX0_of_11 : decode cX0_of 11 = .ok (.iload_n 3, 1) := by decide +kernel
theorem dX0_of_12 : decode cX0_of 12 = .ok (.aload_n 0, 1) := by decide +kernel
theorem dX0_of_13 : decode cX0_of 13 = .ok (.getfield 9, 3) := by decide +kernel
theorem dX0_of_16 : decode cX0_of 16 = .ok (.arraylength, 1) := by decide +kernel
theorem dX0_of_17 : decode cX0_of 17 = .ok (.if_icmp .ge 12, 3) := by decide +kernel
theorem dX0_of_20 : decode cX0_of 20 = .ok (.aload_n 0, 1) := by decide +kernel
theorem dX0_of_21 : decode cX0_of 21 = .ok (.getfield 9, 3) := by decide +kernel
theorem dX0_of_24 : decode cX0_of 24 = .ok (.iload_n 3, 1) := by decide +kernel
theorem dX0_of_25 : decode cX0_of 25 = .ok (.iaload, 1) := by decide +kernel
theorem dX0_of_26 : decode cX0_of 26 = .ok (.goto 4, 3) := by decide +kernel
theorem dX0_of_29 : decode cX0_of 29 = .ok (.iconst 0, 1) := by decide +kernel
theorem dX0_of_30 : decode cX0_of 30 = .ok (.ireturn, 1) := by decide +kernel
set_option maxRecDepth 20000 in
theorem ggX0_set_X4_put : GoodIn wsX0_set wsX4_put := goodIn_r _ [4] (by decide +kernel) (by decide +kernel)
set_option maxRecDepth 20000 in
theorem gX0_set_X4_put_n15 : GoodIn wsX0_set (wsX4_put) := ggX0_set_X4_put
theorem dX0_set_0 : decode cX0_set 0 = .ok (.aload_n 0, 1) := by decide +kernel
theorem dX0_set_1 : decode cX0_set 1 = .ok (.getfield 9, 3) := by decide +kernel
theorem dX0_set_4 : decode cX0_set 4 = .ok (.iload_n 1, 1) := by decide +kernel
theorem dX0_set_5 : decode cX0_set 5 = .ok (.bipush 6, 2) := by decide +kernel
theorem dX0_set_7 : decode cX0_set 7 = .ok (.imul, 1) := by decide +kernel
theorem dX0_set_8 : decode cX0_set 8 = .ok (.iload_n 2, 1) := by decide +kernel
theorem dX0_set_9 : decode cX0_set 9 = .ok (.iadd, 1) := by decide +kernel
theorem dX0_set_10 : decode cX0_set 10 = .ok (.iload_n 3, 1) := by decide +kernel
theorem dX0_set_11 : decode cX0_set 11 = .ok (.invokestatic 15, 3) := by decide +kernel
theorem dX0_set_14 : decode cX0_set 14 = .ok (.return_, 1) := by decide +kernel
set_option maxRecDepth 20000 in
theorem ggX0_load_X0_of : GoodIn wsX0_load wsX0_of := goodIn_r _ [5, 6, 7] (by decide +kernel) (by decide +kernel)
set_option maxRecDepth 20000 in
theorem gX0_load_X0_of : GoodIn wsX0_load (wsV RX0 19 RX0 yX0_of wsX0_of) := goodIn_app (goodIn_of _ (by decide +kernel)) ggX0_load_X0_of
theorem dX0_load_0 : decode cX0_load 0 = .ok (.iconst 0, 1) := by decide +kernel
theorem dX0_load_1 : decode cX0_load 1 = .ok (.istore_n 3, 1) := by decide +kernel
theorem dX0_load_2 : decode cX0_load 2 = .ok (.iconst 0, 1) := by decide +kernel
theorem dX0_load_3 : decode cX0_load 3 = .ok (.istore 4, 2) := by decide +kernel
theorem dX0_load_5 : decode cX0_load 5 = .ok (.iload 4, 2) := by decide +kernel
theorem dX0_load_7 : decode cX0_load 7 = .ok (.bipush 6, 2) := by decide +kernel
theorem dX0_load_9 : decode cX0_load 9 = .ok (.if_icmp .ge 23, 3) := by decide +kernel
theorem dX0_load_12 : decode cX0_load 12 = .ok (.aload_n 0, 1) := by decide +kernel
theorem dX0_load_13 : decode cX0_load 13 = .ok (.iload_n 1, 1) := by decide +kernel
theorem dX0_load_14 : decode cX0_load 14 = .ok (.iload 4, 2) := by decide +kernel
theorem dX0_load_16 : decode cX0_load 16 = .ok (.invokevirtual 19, 3) := by decide +kernel
theorem dX0_load_19 : decode cX0_load 19 = .ok (.iload_n 2, 1) := by decide +kernel
theorem dX0_load_20 : decode cX0_load 20 = .ok (.if_icmp .le 6, 3) := by decide +kernel
theorem dX0_load_23 : decode cX0_load 23 = .ok (.iinc 3 1, 3) := by decide +kernel
theorem dX0_load_26 : decode cX0_load 26 = .ok (.iinc 4 1, 3) := by decide +kernel
theorem dX0_load_29 : decode cX0_load 29 = .ok (.goto (-24), 3) := by decide +kernel
theorem dX0_load_32 : decode cX0_load 32 = .ok (.iload_n 3, 1) := by decide +kernel
theorem dX0_load_33 : decode cX0_load 33 = .ok (.ireturn, 1) := by decide +kernel
theorem dX0_fadeADay_0 : decode cX0_fadeADay 0 = .ok (.iconst 0, 1) := by decide +kernel
theorem dX0_fadeADay_1 : decode cX0_fadeADay 1 = .ok (.istore_n 1, 1) := by decide +kernel
theorem dX0_fadeADay_2 : decode cX0_fadeADay 2 = .ok (.iload_n 1, 1) := by decide +kernel
theorem dX0_fadeADay_3 : decode cX0_fadeADay 3 = .ok (.aload_n 0, 1) := by decide +kernel
theorem dX0_fadeADay_4 : decode cX0_fadeADay 4 = .ok (.getfield 9, 3) := by decide +kernel
theorem dX0_fadeADay_7 : decode cX0_fadeADay 7 = .ok (.arraylength, 1) := by decide +kernel
theorem dX0_fadeADay_8 : decode cX0_fadeADay 8 = .ok (.if_icmp .ge 28, 3) := by decide +kernel
theorem dX0_fadeADay_11 : decode cX0_fadeADay 11 = .ok (.aload_n 0, 1) := by decide +kernel
theorem dX0_fadeADay_12 : decode cX0_fadeADay 12 = .ok (.getfield 9, 3) := by decide +kernel
theorem dX0_fadeADay_15 : decode cX0_fadeADay 15 = .ok (.iload_n 1, 1) := by decide +kernel
theorem dX0_fadeADay_16 : decode cX0_fadeADay 16 = .ok (.iaload, 1) := by decide +kernel
theorem dX0_fadeADay_17 : decode cX0_fadeADay 17 = .ok (.ifCond .le 13, 3) := by decide +kernel
theorem dX0_fadeADay_20 : decode cX0_fadeADay 20 = .ok (.aload_n 0, 1) := by decide +kernel
theorem dX0_fadeADay_21 : decode cX0_fadeADay 21 = .ok (.getfield 9, 3) := by decide +kernel
theorem dX0_fadeADay_24 : decode cX0_fadeADay 24 = .ok (.iload_n 1, 1) := by decide +kernel
theorem dX0_fadeADay_25 : decode cX0_fadeADay 25 = .ok (.dup2, 1) := by decide +kernel
theorem dX0_fadeADay_26 : decode cX0_fadeADay 26 = .ok (.iaload, 1) := by decide +kernel
theorem dX0_fadeADay_27 : decode cX0_fadeADay 27 = .ok (.iconst 1, 1) := by decide +kernel
theorem dX0_fadeADay_28 : decode cX0_fadeADay 28 = .ok (.isub, 1) := by decide +kernel
theorem dX0_fadeADay_29 : decode cX0_fadeADay 29 = .ok (.iastore, 1) := by decide +kernel
theorem dX0_fadeADay_30 : decode cX0_fadeADay 30 = .ok (.iinc 1 1, 3) := by decide +kernel
theorem dX0_fadeADay_33 : decode cX0_fadeADay 33 = .ok (.goto (-31), 3) := by decide +kernel
theorem dX0_fadeADay_36 : decode cX0_fadeADay 36 = .ok (.return_, 1) := by decide +kernel
set_option maxRecDepth 20000 in
theorem ggX0_become_X4_copy : GoodIn wsX0_become wsX4_copy := goodIn_r _ [4, 5, 6, 3, 7] (by decide +kernel) (by decide +kernel)
set_option maxRecDepth 20000 in
theorem gX0_become_X4_copy_n23 : GoodIn wsX0_become (wsX4_copy) := ggX0_become_X4_copy
theorem dX0_become_0 : decode cX0_become 0 = .ok (.aload_n 1, 1) := by decide +kernel
theorem dX0_become_1 : decode cX0_become 1 = .ok (.getfield 9, 3) := by decide +kernel
theorem dX0_become_4 : decode cX0_become 4 = .ok (.aload_n 0, 1) := by decide +kernel
theorem dX0_become_5 : decode cX0_become 5 = .ok (.getfield 9, 3) := by decide +kernel
theorem dX0_become_8 : decode cX0_become 8 = .ok (.invokestatic 23, 3) := by decide +kernel
theorem dX0_become_11 : decode cX0_become 11 = .ok (.return_, 1) := by decide +kernel
set_option maxRecDepth 20000 in
theorem ggX1_init_X0_init : GoodIn wsX1_init wsX0_init := goodIn_r _ [19, 20, 2, 3, 4, 21, 51] (by decide +kernel) (by decide +kernel)
set_option maxRecDepth 20000 in
theorem gX1_init_X0_init_n38 : GoodIn wsX1_init (wsX0_init) := ggX1_init_X0_init
set_option maxRecDepth 20000 in
theorem ggX1_init_X1_lay : GoodIn wsX1_init wsX1_lay := goodIn_r _ [26, 5, 6, 7, 16, 10, 27, 28, 29, 30, 31, 32, 15, 33, 21, 34, 35, 36, 37, 38, 39, 40, 41, 42, 43, 44, 45, 46, 47, 48, 49, 50, 51] (by decide +kernel) (by decide +kernel)
set_option maxRecDepth 20000 in
theorem gX1_init_X1_lay : GoodIn wsX1_init (wsV RX1 47 RX1 yX1_lay wsX1_lay) := goodIn_app (goodIn_of _ (by decide +kernel)) ggX1_init_X1_lay
set_option maxRecDepth 20000 in
theorem ggX1_init_X4_put : GoodIn wsX1_init wsX4_put := goodIn_r _ [29] (by decide +kernel) (by decide +kernel)
set_option maxRecDepth 20000 in
theorem gX1_init_X4_put_n51 : GoodIn wsX1_init (wsX4_put) := ggX1_init_X4_put
theorem dX1_init_0 : decode cX1_init 0 = .ok (.aload_n 0, 1) := by decide +kernel
theorem dX1_init_1 : decode cX1_init 1 = .ok (.invokespecial 3, 3) := by decide +kernel
theorem dX1_init_4 : decode cX1_init 4 = .ok (.aload_n 0, 1) := by decide +kernel
theorem dX1_init_5 : decode cX1_init 5 = .ok (.bipush 6, 2) := by decide +kernel
theorem dX1_init_7 : decode cX1_init 7 = .ok (.newarray .int, 2) := by decide +kernel
theorem dX1_init_9 : decode cX1_init 9 = .ok (.putfield 9, 3) := by decide +kernel
theorem dX1_init_12 : decode cX1_init 12 = .ok (.aload_n 0, 1) := by decide +kernel
theorem dX1_init_13 : decode cX1_init 13 = .ok (.bipush 6, 2) := by decide +kernel
theorem dX1_init_15 : decode cX1_init 15 = .ok (.newarray .int, 2) := by decide +kernel
theorem dX1_init_17 : decode cX1_init 17 = .ok (.putfield 15, 3) := by decide +kernel
theorem dX1_init_20 : decode cX1_init 20 = .ok (.aload_n 0, 1) := by decide +kernel
theorem dX1_init_21 : decode cX1_init 21 = .ok (.bipush 6, 2) := by decide +kernel
theorem dX1_init_23 : decode cX1_init 23 = .ok (.newarray .int, 2) := by decide +kernel
theorem dX1_init_25 : decode cX1_init 25 = .ok (.putfield 18, 3) := by decide +kernel
theorem dX1_init_28 : decode cX1_init 28 = .ok (.aload_n 0, 1) := by decide +kernel
theorem dX1_init_29 : decode cX1_init 29 = .ok (.bipush 6, 2) := by decide +kernel
theorem dX1_init_31 : decode cX1_init 31 = .ok (.newarray .int, 2) := by decide +kernel
theorem dX1_init_33 : decode cX1_init 33 = .ok (.putfield 21, 3) := by decide +kernel
theorem dX1_init_36 : decode cX1_init 36 = .ok (.aload_n 0, 1) := by decide +kernel
theorem dX1_init_37 : decode cX1_init 37 = .ok (.bipush 6, 2) := by decide +kernel
theorem dX1_init_39 : decode cX1_init 39 = .ok (.newarray .int, 2) := by decide +kernel
theorem dX1_init_41 : decode cX1_init 41 = .ok (.putfield 24, 3) := by decide +kernel
theorem dX1_init_44 : decode cX1_init 44 = .ok (.aload_n 0, 1) := by decide +kernel
theorem dX1_init_45 : decode cX1_init 45 = .ok (.bipush 6, 2) := by decide +kernel
theorem dX1_init_47 : decode cX1_init 47 = .ok (.newarray .int, 2) := by decide +kernel
theorem dX1_init_49 : decode cX1_init 49 = .ok (.putfield 27, 3) := by decide +kernel
theorem dX1_init_52 : decode cX1_init 52 = .ok (.aload_n 0, 1) := by decide +kernel
theorem dX1_init_53 : decode cX1_init 53 = .ok (.bipush 6, 2) := by decide +kernel
theorem dX1_init_55 : decode cX1_init 55 = .ok (.newarray .int, 2) := by decide +kernel
theorem dX1_init_57 : decode cX1_init 57 = .ok (.putfield 30, 3) := by decide +kernel
theorem dX1_init_60 : decode cX1_init 60 = .ok (.aload_n 0, 1) := by decide +kernel
theorem dX1_init_61 : decode cX1_init 61 = .ok (.bipush 6, 2) := by decide +kernel
theorem dX1_init_63 : decode cX1_init 63 = .ok (.newarray .int, 2) := by decide +kernel
theorem dX1_init_65 : decode cX1_init 65 = .ok (.putfield 33, 3) := by decide +kernel
theorem dX1_init_68 : decode cX1_init 68 = .ok (.aload_n 0, 1) := by decide +kernel
theorem dX1_init_69 : decode cX1_init 69 = .ok (.new 36, 3) := by decide +kernel
theorem dX1_init_72 : decode cX1_init 72 = .ok (.dup, 1) := by decide +kernel
theorem dX1_init_73 : decode cX1_init 73 = .ok (.invokespecial 38, 3) := by decide +kernel
theorem dX1_init_76 : decode cX1_init 76 = .ok (.putfield 39, 3) := by decide +kernel
theorem dX1_init_79 : decode cX1_init 79 = .ok (.aload_n 0, 1) := by decide +kernel
theorem dX1_init_80 : decode cX1_init 80 = .ok (.iconst 3, 1) := by decide +kernel
theorem dX1_init_81 : decode cX1_init 81 = .ok (.putfield 43, 3) := by decide +kernel
theorem dX1_init_84 : decode cX1_init 84 = .ok (.iconst 0, 1) := by decide +kernel
theorem dX1_init_85 : decode cX1_init 85 = .ok (.istore_n 1, 1) := by decide +kernel
theorem dX1_init_86 : decode cX1_init 86 = .ok (.iload_n 1, 1) := by decide +kernel
theorem dX1_init_87 : decode cX1_init 87 = .ok (.bipush 6, 2) := by decide +kernel
theorem dX1_init_89 : decode cX1_init 89 = .ok (.if_icmp .ge 31, 3) := by decide +kernel
theorem dX1_init_92 : decode cX1_init 92 = .ok (.aload_n 0, 1) := by decide +kernel
theorem dX1_init_93 : decode cX1_init 93 = .ok (.iload_n 1, 1) := by decide +kernel
theorem dX1_init_94 : decode cX1_init 94 = .ok (.iload_n 1, 1) := by decide +kernel
theorem dX1_init_95 : decode cX1_init 95 = .ok (.iload_n 1, 1) := by decide +kernel
theorem dX1_init_96 : decode cX1_init 96 = .ok (.iconst 1, 1) := by decide +kernel
theorem dX1_init_97 : decode cX1_init 97 = .ok (.iadd, 1) := by decide +kernel
theorem dX1_init_98 : decode cX1_init 98 = .ok (.bipush 6, 2) := by decide +kernel
theorem dX1_init_100 : decode cX1_init 100 = .ok (.irem, 1) := by decide +kernel
theorem dX1_init_101 : decode cX1_init 101 = .ok (.iload_n 1, 1) := by decide +kernel
theorem dX1_init_102 : decode cX1_init 102 = .ok (.invokevirtual 47, 3) := by decide +kernel
theorem dX1_init_105 : decode cX1_init 105 = .ok (.aload_n 0, 1) := by decide +kernel
theorem dX1_init_106 : decode cX1_init 106 = .ok (.getfield 21, 3) := by decide +kernel
theorem dX1_init_109 : decode cX1_init 109 = .ok (.iload_n 1, 1) := by decide +kernel
theorem dX1_init_110 : decode cX1_init 110 = .ok (.iconst 5, 1) := by decide +kernel
theorem dX1_init_111 : decode cX1_init 111 = .ok (.invokestatic 51, 3) := by decide +kernel
theorem dX1_init_114 : decode cX1_init 114 = .ok (.iinc 1 1, 3) := by decide +kernel
theorem dX1_init_117 : decode cX1_init 117 = .ok (.goto (-31), 3) := by decide +kernel
theorem dX1_init_120 : decode cX1_init 120 = .ok (.return_, 1) := by decide +kernel
set_option maxRecDepth 20000 in
theorem ggX1_lay_X4_put : GoodIn wsX1_lay wsX4_put := goodIn_r _ [8] (by decide +kernel) (by decide +kernel)
set_option maxRecDepth 20000 in
theorem gX1_lay_X4_put_n51 : GoodIn wsX1_lay (wsX4_put) := ggX1_lay_X4_put
set_option maxRecDepth 20000 in
theorem ggX1_lay_X0_set : GoodIn wsX1_lay wsX0_set := goodIn_r _ [13, 14, 6, 7, 8, 32] (by decide +kernel) (by decide +kernel)
set_option maxRecDepth 20000 in
theorem gX1_lay_X0_set : GoodIn wsX1_lay (wsV RX1 55 RX0 yX0_set wsX0_set) := goodIn_app (goodIn_of _ (by decide +kernel)) ggX1_lay_X0_set
set_option maxRecDepth 20000 in
theorem ggX1_lay_X4_putBit : GoodIn wsX1_lay wsX4_putBit := goodIn_r _ [16, 17, 18, 7, 19, 20, 6, 8] (by decide +kernel) (by decide +kernel)
set_option maxRecDepth 20000 in
theorem gX1_lay_X4_putBit_n59 : GoodIn wsX1_lay (wsX4_putBit) := ggX1_lay_X4_putBit
theorem dX1_lay_0 : decode cX1_lay 0 = .ok (.aload_n 0, 1) := by decide +kernel
theorem dX1_lay_1 : decode cX1_lay 1 = .ok (.getfield 9, 3) := by decide +kernel
theorem dX1_lay_4 : decode cX1_lay 4 = .ok (.iload_n 1, 1) := by decide +kernel
theorem dX1_lay_5 : decode cX1_lay 5 = .ok (.iload_n 2, 1) := by decide +kernel
theorem dX1_lay_6 : decode cX1_lay 6 = .ok (.iload_n 3, 1) := by decide +kernel
theorem dX1_lay_7 : decode cX1_lay 7 = .ok (.if_icmp .ge 7, 3) := by decide +kernel
theorem dX1_lay_10 : decode cX1_lay 10 = .ok (.iload_n 2, 1) := by decide +kernel
theorem dX1_lay_11 : decode cX1_lay 11 = .ok (.goto 4, 3) := by decide +kernel
theorem dX1_lay_14 : decode cX1_lay 14 = .ok (.iload_n 3, 1) := by decide +kernel
theorem dX1_lay_15 : decode cX1_lay 15 = .ok (.invokestatic 51, 3) := by decide +kernel
theorem dX1_lay_18 : decode cX1_lay 18 = .ok (.aload_n 0, 1) := by decide +kernel
theorem dX1_lay_19 : decode cX1_lay 19 = .ok (.getfield 15, 3) := by decide +kernel
theorem dX1_lay_22 : decode cX1_lay 22 = .ok (.iload_n 1, 1) := by decide +kernel
theorem dX1_lay_23 : decode cX1_lay 23 = .ok (.iload_n 2, 1) := by decide +kernel
theorem dX1_lay_24 : decode cX1_lay 24 = .ok (.iload_n 3, 1) := by decide +kernel
theorem dX1_lay_25 : decode cX1_lay 25 = .ok (.if_icmp .ge 7, 3) := by decide +kernel
theorem dX1_lay_28 : decode cX1_lay 28 = .ok (.iload_n 3, 1) := by decide +kernel
theorem dX1_lay_29 : decode cX1_lay 29 = .ok (.goto 4, 3) := by decide +kernel
theorem dX1_lay_32 : decode cX1_lay 32 = .ok (.iload_n 2, 1) := by decide +kernel
theorem dX1_lay_33 : decode cX1_lay 33 = .ok (.invokestatic 51, 3) := by decide +kernel
theorem dX1_lay_36 : decode cX1_lay 36 = .ok (.aload_n 0, 1) := by decide +kernel
theorem dX1_lay_37 : decode cX1_lay 37 = .ok (.getfield 18, 3) := by decide +kernel
theorem dX1_lay_40 : decode cX1_lay 40 = .ok (.iload_n 1, 1) := by decide +kernel
theorem dX1_lay_41 : decode cX1_lay 41 = .ok (.iload 4, 2) := by decide +kernel
theorem dX1_lay_43 : decode cX1_lay 43 = .ok (.invokestatic 51, 3) := by decide +kernel
theorem dX1_lay_46 : decode cX1_lay 46 = .ok (.iconst 0, 1) := by decide +kernel
theorem dX1_lay_47 : decode cX1_lay 47 = .ok (.istore 5, 2) := by decide +kernel
theorem dX1_lay_49 : decode cX1_lay 49 = .ok (.iload 5, 2) := by decide +kernel
theorem dX1_lay_51 : decode cX1_lay 51 = .ok (.bipush 6, 2) := by decide +kernel
theorem dX1_lay_53 : decode cX1_lay 53 = .ok (.if_icmp .ge 31, 3) := by decide +kernel
theorem dX1_lay_56 : decode cX1_lay 56 = .ok (.aload_n 0, 1) := by decide +kernel
theorem dX1_lay_57 : decode cX1_lay 57 = .ok (.getfield 39, 3) := by decide +kernel
theorem dX1_lay_60 : decode cX1_lay 60 = .ok (.iload_n 1, 1) := by decide +kernel
theorem dX1_lay_61 : decode cX1_lay 61 = .ok (.iload 5, 2) := by decide +kernel
theorem dX1_lay_63 : decode cX1_lay 63 = .ok (.iconst 0, 1) := by decide +kernel
theorem dX1_lay_64 : decode cX1_lay 64 = .ok (.invokevirtual 55, 3) := by decide +kernel
theorem dX1_lay_67 : decode cX1_lay 67 = .ok (.aload_n 0, 1) := by decide +kernel
theorem dX1_lay_68 : decode cX1_lay 68 = .ok (.getfield 27, 3) := by decide +kernel
theorem dX1_lay_71 : decode cX1_lay 71 = .ok (.iload 5, 2) := by decide +kernel
theorem dX1_lay_73 : decode cX1_lay 73 = .ok (.iload_n 1, 1) := by decide +kernel
theorem dX1_lay_74 : decode cX1_lay 74 = .ok (.iconst 0, 1) := by decide +kernel
theorem dX1_lay_75 : decode cX1_lay 75 = .ok (.invokestatic 59, 3) := by decide +kernel
theorem dX1_lay_78 : decode cX1_lay 78 = .ok (.iinc 5 1, 3) := by decide +kernel
theorem dX1_lay_81 : decode cX1_lay 81 = .ok (.goto (-32), 3) := by decide +kernel
theorem dX1_lay_84 : decode cX1_lay 84 = .ok (.return_, 1) := by decide +kernel
set_option maxRecDepth 20000 in
theorem ggX1_mayTell_X4_at : GoodIn wsX1_mayTell wsX4_at := goodIn_r _ [4] (by decide +kernel) (by decide +kernel)
set_option maxRecDepth 20000 in
theorem gX1_mayTell_X4_at_n63 : GoodIn wsX1_mayTell (wsX4_at) := ggX1_mayTell_X4_at
set_option maxRecDepth 20000 in
theorem ggX1_mayTell_X0_of : GoodIn wsX1_mayTell wsX0_of := goodIn_r _ [9, 10, 22] (by decide +kernel) (by decide +kernel)
set_option maxRecDepth 20000 in
theorem gX1_mayTell_X0_of : GoodIn wsX1_mayTell (wsV RX1 67 RX0 yX0_of wsX0_of) := goodIn_app (goodIn_of _ (by decide +kernel)) ggX1_mayTell_X0_of
theorem dX1_mayTell_0 : decode cX1_mayTell 0 = .ok (.aload_n 0, 1) := by decide +kernel
theorem dX1_mayTell_1 : decode cX1_mayTell 1 = .ok (.getfield 18, 3) := by decide +kernel
theorem dX1_mayTell_4 : decode cX1_mayTell 4 = .ok (.iload_n 3, 1) := by decide +kernel
theorem dX1_mayTell_5 : decode cX1_mayTell 5 = .ok (.invokestatic 63, 3) := by decide +kernel
theorem dX1_mayTell_8 : decode cX1_mayTell 8 = .ok (.iload_n 2, 1) := by decide +kernel
theorem dX1_mayTell_9 : decode cX1_mayTell 9 = .ok (.if_icmp .eq 12, 3) := by decide +kernel
theorem dX1_mayTell_12 : decode cX1_mayTell 12 = .ok (.aload_n 1, 1) := by decide +kernel
theorem dX1_mayTell_13 : decode cX1_mayTell 13 = .ok (.iload_n 3, 1) := by decide +kernel
theorem dX1_mayTell_14 : decode cX1_mayTell 14 = .ok (.iload_n 2, 1) := by decide +kernel
theorem dX1_mayTell_15 : decode cX1_mayTell 15 = .ok (.invokevirtual 67, 3) := by decide +kernel
theorem dX1_mayTell_18 : decode cX1_mayTell 18 = .ok (.ifCond .le 7, 3) := by decide +kernel
theorem dX1_mayTell_21 : decode cX1_mayTell 21 = .ok (.iconst 1, 1) := by decide +kernel
theorem dX1_mayTell_22 : decode cX1_mayTell 22 = .ok (.goto 4, 3) := by decide +kernel
theorem dX1_mayTell_25 : decode cX1_mayTell 25 = .ok (.iconst 0, 1) := by decide +kernel
theorem dX1_mayTell_26 : decode cX1_mayTell 26 = .ok (.ireturn, 1) := by decide +kernel
set_option maxRecDepth 20000 in
theorem ggX1_tell_X1_mayTell : GoodIn wsX1_tell wsX1_mayTell := goodIn_r _ [9, 2, 10, 11, 12, 13, 14, 15, 16, 17, 18, 28, 29, 30, 31, 32, 33, 34, 35, 36, 37, 38, 39] (by decide +kernel) (by decide +kernel)
set_option maxRecDepth 20000 in
theorem gX1_tell_X1_mayTell : GoodIn wsX1_tell (wsV RX1 71 RX1 yX1_mayTell wsX1_mayTell) := goodIn_app (goodIn_of _ (by decide +kernel)) ggX1_tell_X1_mayTell
set_option maxRecDepth 20000 in
theorem ggX1_tell_X4_hasBit : GoodIn wsX1_tell wsX4_hasBit := goodIn_r _ [20, 21, 10, 11, 12] (by decide +kernel) (by decide +kernel)
set_option maxRecDepth 20000 in
theorem gX1_tell_X4_hasBit_n75 : GoodIn wsX1_tell (wsX4_hasBit) := ggX1_tell_X4_hasBit
set_option maxRecDepth 20000 in
theorem ggX1_tell_X4_at : GoodIn wsX1_tell wsX4_at := goodIn_r _ [12] (by decide +kernel) (by decide +kernel)
set_option maxRecDepth 20000 in
theorem gX1_tell_X4_at_n63 : GoodIn wsX1_tell (wsX4_at) := ggX1_tell_X4_at
set_option maxRecDepth 20000 in
theorem ggX1_tell_X0_of : GoodIn wsX1_tell wsX0_of := goodIn_r _ [17, 18, 39] (by decide +kernel) (by decide +kernel)
set_option maxRecDepth 20000 in
theorem gX1_tell_X0_of : GoodIn wsX1_tell (wsV RX1 67 RX0 yX0_of wsX0_of) := goodIn_app (goodIn_of _ (by decide +kernel)) ggX1_tell_X0_of
set_option maxRecDepth 20000 in
theorem ggX1_tell_X0_set : GoodIn wsX1_tell wsX0_set := goodIn_r _ [25, 18, 26, 11, 27, 39] (by decide +kernel) (by decide +kernel)
set_option maxRecDepth 20000 in
theorem gX1_tell_X0_set : GoodIn wsX1_tell (wsV RX1 55 RX0 yX0_set wsX0_set) := goodIn_app (goodIn_of _ (by decide +kernel)) ggX1_tell_X0_set
theorem dX1_tell_0 : decode cX1_tell 0 = .ok (.aload_n 0, 1) := by decide +kernel
theorem dX1_tell_1 : decode cX1_tell 1 = .ok (.aload_n 1, 1) := by decide +kernel
theorem dX1_tell_2 : decode cX1_tell 2 = .ok (.iload_n 2, 1) := by decide +kernel
theorem dX1_tell_3 : decode cX1_tell 3 = .ok (.iload 4, 2) := by decide +kernel
theorem dX1_tell_5 : decode cX1_tell 5 = .ok (.invokevirtual 71, 3) := by decide +kernel
theorem dX1_tell_8 : decode cX1_tell 8 = .ok (.ifCond .eq 55, 3) := by decide +kernel
theorem dX1_tell_11 : decode cX1_tell 11 = .ok (.aload_n 0, 1) := by decide +kernel
theorem dX1_tell_12 : decode cX1_tell 12 = .ok (.getfield 24, 3) := by decide +kernel
theorem dX1_tell_15 : decode cX1_tell 15 = .ok (.iload_n 3, 1) := by decide +kernel
theorem dX1_tell_16 : decode cX1_tell 16 = .ok (.iload_n 2, 1) := by decide +kernel
theorem dX1_tell_17 : decode cX1_tell 17 = .ok (.invokestatic 75, 3) := by decide +kernel
theorem dX1_tell_20 : decode cX1_tell 20 = .ok (.ifCond .eq 43, 3) := by decide +kernel
theorem dX1_tell_23 : decode cX1_tell 23 = .ok (.aload_n 0, 1) := by decide +kernel
theorem dX1_tell_24 : decode cX1_tell 24 = .ok (.getfield 18, 3) := by decide +kernel
theorem dX1_tell_27 : decode cX1_tell 27 = .ok (.iload 4, 2) := by decide +kernel
theorem dX1_tell_29 : decode cX1_tell 29 = .ok (.invokestatic 63, 3) := by decide +kernel
theorem dX1_tell_32 : decode cX1_tell 32 = .ok (.iload_n 3, 1) := by decide +kernel
theorem dX1_tell_33 : decode cX1_tell 33 = .ok (.if_icmp .eq 30, 3) := by decide +kernel
theorem dX1_tell_36 : decode cX1_tell 36 = .ok (.aload_n 0, 1) := by decide +kernel
theorem dX1_tell_37 : decode cX1_tell 37 = .ok (.getfield 27, 3) := by decide +kernel
theorem dX1_tell_40 : decode cX1_tell 40 = .ok (.iload_n 3, 1) := by decide +kernel
theorem dX1_tell_41 : decode cX1_tell 41 = .ok (.iload 4, 2) := by decide +kernel
theorem dX1_tell_43 : decode cX1_tell 43 = .ok (.invokestatic 75, 3) := by decide +kernel
theorem dX1_tell_46 : decode cX1_tell 46 = .ok (.ifCond .ne 17, 3) := by decide +kernel
theorem dX1_tell_49 : decode cX1_tell 49 = .ok (.aload_n 1, 1) := by decide +kernel
theorem dX1_tell_50 : decode cX1_tell 50 = .ok (.iload 4, 2) := by decide +kernel
theorem dX1_tell_52 : decode cX1_tell 52 = .ok (.iload_n 3, 1) := by decide +kernel
theorem dX1_tell_53 : decode cX1_tell 53 = .ok (.invokevirtual 67, 3) := by decide +kernel
theorem dX1_tell_56 : decode cX1_tell 56 = .ok (.ifCond .ne 7, 3) := by decide +kernel
theorem dX1_tell_59 : decode cX1_tell 59 = .ok (.iconst 1, 1) := by decide +kernel
theorem dX1_tell_60 : decode cX1_tell 60 = .ok (.goto 4, 3) := by decide +kernel
theorem dX1_tell_63 : decode cX1_tell 63 = .ok (.iconst 0, 1) := by decide +kernel
theorem dX1_tell_64 : decode cX1_tell 64 = .ok (.istore 5, 2) := by decide +kernel
theorem dX1_tell_66 : decode cX1_tell 66 = .ok (.iload 5, 2) := by decide +kernel
theorem dX1_tell_68 : decode cX1_tell 68 = .ok (.ifCond .eq 14, 3) := by decide +kernel
theorem dX1_tell_71 : decode cX1_tell 71 = .ok (.aload_n 1, 1) := by decide +kernel
theorem dX1_tell_72 : decode cX1_tell 72 = .ok (.iload 4, 2) := by decide +kernel
theorem dX1_tell_74 : decode cX1_tell 74 = .ok (.iload_n 3, 1) := by decide +kernel
theorem dX1_tell_75 : decode cX1_tell 75 = .ok (.aload_n 0, 1) := by decide +kernel
theorem dX1_tell_76 : decode cX1_tell 76 = .ok (.getfield 43, 3) := by decide +kernel
theorem dX1_tell_79 : decode cX1_tell 79 = .ok (.invokevirtual 55, 3) := by decide +kernel
theorem dX1_tell_82 : decode cX1_tell 82 = .ok (.iload 5, 2) := by decide +kernel
theorem dX1_tell_84 : decode cX1_tell 84 = .ok (.ireturn, 1) := by decide +kernel
set_option maxRecDepth 20000 in
theorem ggX1_deny_X4_hasBit : GoodIn wsX1_deny wsX4_hasBit := goodIn_r _ [4, 5, 6, 3, 7] (by decide +kernel) (by decide +kernel)
set_option maxRecDepth 20000 in
theorem gX1_deny_X4_hasBit_n75 : GoodIn wsX1_deny (wsX4_hasBit) := ggX1_deny_X4_hasBit
set_option maxRecDepth 20000 in
theorem ggX1_deny_X0_of : GoodIn wsX1_deny wsX0_of := goodIn_r _ [12, 13, 31] (by decide +kernel) (by decide +kernel)
set_option maxRecDepth 20000 in
theorem gX1_deny_X0_of : GoodIn wsX1_deny (wsV RX1 67 RX0 yX0_of wsX0_of) := goodIn_app (goodIn_of _ (by decide +kernel)) ggX1_deny_X0_of
set_option maxRecDepth 20000 in
theorem ggX1_deny_X0_set : GoodIn wsX1_deny wsX0_set := goodIn_r _ [17, 13, 18, 3, 19, 31] (by decide +kernel) (by decide +kernel)
set_option maxRecDepth 20000 in
theorem gX1_deny_X0_set : GoodIn wsX1_deny (wsV RX1 55 RX0 yX0_set wsX0_set) := goodIn_app (goodIn_of _ (by decide +kernel)) ggX1_deny_X0_set
theorem dX1_deny_0 : decode cX1_deny 0 = .ok (.aload_n 0, 1) := by decide +kernel
theorem dX1_deny_1 : decode cX1_deny 1 = .ok (.getfield 24, 3) := by decide +kernel
theorem dX1_deny_4 : decode cX1_deny 4 = .ok (.iload_n 3, 1) := by decide +kernel
theorem dX1_deny_5 : decode cX1_deny 5 = .ok (.iload_n 2, 1) := by decide +kernel
theorem dX1_deny_6 : decode cX1_deny 6 = .ok (.invokestatic 75, 3) := by decide +kernel
theorem dX1_deny_9 : decode cX1_deny 9 = .ok (.ifCond .eq 17, 3) := by decide +kernel
theorem dX1_deny_12 : decode cX1_deny 12 = .ok (.aload_n 1, 1) := by decide +kernel
theorem dX1_deny_13 : decode cX1_deny 13 = .ok (.iload 4, 2) := by decide +kernel
theorem dX1_deny_15 : decode cX1_deny 15 = .ok (.iload_n 3, 1) := by decide +kernel
theorem dX1_deny_16 : decode cX1_deny 16 = .ok (.invokevirtual 67, 3) := by decide +kernel
theorem dX1_deny_19 : decode cX1_deny 19 = .ok (.ifCond .le 7, 3) := by decide +kernel
theorem dX1_deny_22 : decode cX1_deny 22 = .ok (.iconst 1, 1) := by decide +kernel
theorem dX1_deny_23 : decode cX1_deny 23 = .ok (.goto 4, 3) := by decide +kernel
theorem dX1_deny_26 : decode cX1_deny 26 = .ok (.iconst 0, 1) := by decide +kernel
theorem dX1_deny_27 : decode cX1_deny 27 = .ok (.istore 5, 2) := by decide +kernel
theorem dX1_deny_29 : decode cX1_deny 29 = .ok (.iload 5, 2) := by decide +kernel
theorem dX1_deny_31 : decode cX1_deny 31 = .ok (.ifCond .eq 11, 3) := by decide +kernel
theorem dX1_deny_34 : decode cX1_deny 34 = .ok (.aload_n 1, 1) := by decide +kernel
theorem dX1_deny_35 : decode cX1_deny 35 = .ok (.iload 4, 2) := by decide +kernel
theorem dX1_deny_37 : decode cX1_deny 37 = .ok (.iload_n 3, 1) := by decide +kernel
theorem dX1_deny_38 : decode cX1_deny 38 = .ok (.iconst 0, 1) := by decide +kernel
theorem dX1_deny_39 : decode cX1_deny 39 = .ok (.invokevirtual 55, 3) := by decide +kernel
theorem dX1_deny_42 : decode cX1_deny 42 = .ok (.iload 5, 2) := by decide +kernel
theorem dX1_deny_44 : decode cX1_deny 44 = .ok (.ireturn, 1) := by decide +kernel
set_option maxRecDepth 20000 in
theorem ggX1_across_X4_within : GoodIn wsX1_across wsX4_within := goodIn_r _ [5] (by decide +kernel) (by decide +kernel)
set_option maxRecDepth 20000 in
theorem gX1_across_X4_within_n79 : GoodIn wsX1_across (wsX4_within) := ggX1_across_X4_within
set_option maxRecDepth 20000 in
theorem ggX1_across_X4_at : GoodIn wsX1_across wsX4_at := goodIn_r _ [7] (by decide +kernel) (by decide +kernel)
set_option maxRecDepth 20000 in
theorem gX1_across_X4_at_n63 : GoodIn wsX1_across (wsX4_at) := ggX1_across_X4_at
theorem dX1_across_0 : decode cX1_across 0 = .ok (.iload_n 1, 1) := by decide +kernel
theorem dX1_across_1 : decode cX1_across 1 = .ok (.iconst 0, 1) := by decide +kernel
theorem dX1_across_2 : decode cX1_across 2 = .ok (.iconst 5, 1) := by decide +kernel
theorem dX1_across_3 : decode cX1_across 3 = .ok (.invokestatic 79, 3) := by decide +kernel
theorem dX1_across_6 : decode cX1_across 6 = .ok (.ifCond .ne 5, 3) := by decide +kernel
theorem dX1_across_9 : decode cX1_across 9 = .ok (.iconst (-1), 1) := by decide +kernel
theorem dX1_across_10 : decode cX1_across 10 = .ok (.ireturn, 1) := by decide +kernel
theorem dX1_across_11 : decode cX1_across 11 = .ok (.aload_n 0, 1) := by decide +kernel
theorem dX1_across_12 : decode cX1_across 12 = .ok (.getfield 9, 3) := by decide +kernel
theorem dX1_across_15 : decode cX1_across 15 = .ok (.iload_n 1, 1) := by decide +kernel
theorem dX1_across_16 : decode cX1_across 16 = .ok (.invokestatic 63, 3) := by decide +kernel
theorem dX1_across_19 : decode cX1_across 19 = .ok (.iload_n 2, 1) := by decide +kernel
theorem dX1_across_20 : decode cX1_across 20 = .ok (.if_icmp .ne 12, 3) := by decide +kernel
theorem dX1_across_23 : decode cX1_across 23 = .ok (.aload_n 0, 1) := by decide +kernel
theorem dX1_across_24 : decode cX1_across 24 = .ok (.getfield 15, 3) := by decide +kernel
theorem dX1_across_27 : decode cX1_across 27 = .ok (.iload_n 1, 1) := by decide +kernel
theorem dX1_across_28 : decode cX1_across 28 = .ok (.invokestatic 63, 3) := by decide +kernel
theorem dX1_across_31 : decode cX1_across 31 = .ok (.ireturn, 1) := by decide +kernel
theorem dX1_across_32 : decode cX1_across 32 = .ok (.aload_n 0, 1) := by decide +kernel
theorem dX1_across_33 : decode cX1_across 33 = .ok (.getfield 15, 3) := by decide +kernel
theorem dX1_across_36 : decode cX1_across 36 = .ok (.iload_n 1, 1) := by decide +kernel
theorem dX1_across_37 : decode cX1_across 37 = .ok (.invokestatic 63, 3) := by decide +kernel
theorem dX1_across_40 : decode cX1_across 40 = .ok (.iload_n 2, 1) := by decide +kernel
theorem dX1_across_41 : decode cX1_across 41 = .ok (.if_icmp .ne 14, 3) := by decide +kernel
theorem dX1_across_44 : decode cX1_across 44 = .ok (.aload_n 0, 1) := by decide +kernel
theorem dX1_across_45 : decode cX1_across 45 = .ok (.getfield 9, 3) := by decide +kernel
theorem dX1_across_48 : decode cX1_across 48 = .ok (.iload_n 1, 1) := by decide +kernel
theorem dX1_across_49 : decode cX1_across 49 = .ok (.invokestatic 63, 3) := by decide +kernel
theorem dX1_across_52 : decode cX1_across 52 = .ok (.goto 4, 3) := by decide +kernel
theorem dX1_across_55 : decode cX1_across 55 = .ok (.iconst (-1), 1) := by decide +kernel
theorem dX1_across_56 : decode cX1_across 56 = .ok (.ireturn, 1) := by decide +kernel
set_option maxRecDepth 20000 in
theorem ggX1_become_X4_copy : GoodIn wsX1_become wsX4_copy := goodIn_r _ [14, 15, 16, 13, 17] (by decide +kernel) (by decide +kernel)
set_option maxRecDepth 20000 in
theorem gX1_become_X4_copy_n83 : GoodIn wsX1_become (wsX4_copy) := ggX1_become_X4_copy
set_option maxRecDepth 20000 in
theorem ggX1_become_X0_become : GoodIn wsX1_become wsX0_become := goodIn_r _ [22, 23, 12, 13, 14, 15, 16, 17, 35] (by decide +kernel) (by decide +kernel)
set_option maxRecDepth 20000 in
theorem gX1_become_X0_become : GoodIn wsX1_become (wsV RX1 87 RX0 yX0_become wsX0_become) := goodIn_app (goodIn_of _ (by decide +kernel)) ggX1_become_X0_become
theorem dX1_become_0 : decode cX1_become 0 = .ok (.aload_n 1, 1) := by decide +kernel
theorem dX1_become_1 : decode cX1_become 1 = .ok (.getfield 9, 3) := by decide +kernel
theorem dX1_become_4 : decode cX1_become 4 = .ok (.aload_n 0, 1) := by decide +kernel
theorem dX1_become_5 : decode cX1_become 5 = .ok (.getfield 9, 3) := by decide +kernel
theorem dX1_become_8 : decode cX1_become 8 = .ok (.invokestatic 83, 3) := by decide +kernel
theorem dX1_become_11 : decode cX1_become 11 = .ok (.aload_n 1, 1) := by decide +kernel
theorem dX1_become_12 : decode cX1_become 12 = .ok (.getfield 15, 3) := by decide +kernel
theorem dX1_become_15 : decode cX1_become 15 = .ok (.aload_n 0, 1) := by decide +kernel
theorem dX1_become_16 : decode cX1_become 16 = .ok (.getfield 15, 3) := by decide +kernel
theorem dX1_become_19 : decode cX1_become 19 = .ok (.invokestatic 83, 3) := by decide +kernel
theorem dX1_become_22 : decode cX1_become 22 = .ok (.aload_n 1, 1) := by decide +kernel
theorem dX1_become_23 : decode cX1_become 23 = .ok (.getfield 18, 3) := by decide +kernel
theorem dX1_become_26 : decode cX1_become 26 = .ok (.aload_n 0, 1) := by decide +kernel
theorem dX1_become_27 : decode cX1_become 27 = .ok (.getfield 18, 3) := by decide +kernel
theorem dX1_become_30 : decode cX1_become 30 = .ok (.invokestatic 83, 3) := by decide +kernel
theorem dX1_become_33 : decode cX1_become 33 = .ok (.aload_n 1, 1) := by decide +kernel
theorem dX1_become_34 : decode cX1_become 34 = .ok (.getfield 21, 3) := by decide +kernel
theorem dX1_become_37 : decode cX1_become 37 = .ok (.aload_n 0, 1) := by decide +kernel
theorem dX1_become_38 : decode cX1_become 38 = .ok (.getfield 21, 3) := by decide +kernel
theorem dX1_become_41 : decode cX1_become 41 = .ok (.invokestatic 83, 3) := by decide +kernel
theorem dX1_become_44 : decode cX1_become 44 = .ok (.aload_n 1, 1) := by decide +kernel
theorem dX1_become_45 : decode cX1_become 45 = .ok (.getfield 24, 3) := by decide +kernel
theorem dX1_become_48 : decode cX1_become 48 = .ok (.aload_n 0, 1) := by decide +kernel
theorem dX1_become_49 : decode cX1_become 49 = .ok (.getfield 24, 3) := by decide +kernel
theorem dX1_become_52 : decode cX1_become 52 = .ok (.invokestatic 83, 3) := by decide +kernel
theorem dX1_become_55 : decode cX1_become 55 = .ok (.aload_n 1, 1) := by decide +kernel
theorem dX1_become_56 : decode cX1_become 56 = .ok (.getfield 27, 3) := by decide +kernel
theorem dX1_become_59 : decode cX1_become 59 = .ok (.aload_n 0, 1) := by decide +kernel
theorem dX1_become_60 : decode cX1_become 60 = .ok (.getfield 27, 3) := by decide +kernel
theorem dX1_become_63 : decode cX1_become 63 = .ok (.invokestatic 83, 3) := by decide +kernel
theorem dX1_become_66 : decode cX1_become 66 = .ok (.aload_n 1, 1) := by decide +kernel
theorem dX1_become_67 : decode cX1_become 67 = .ok (.getfield 30, 3) := by decide +kernel
theorem dX1_become_70 : decode cX1_become 70 = .ok (.aload_n 0, 1) := by decide +kernel
theorem dX1_become_71 : decode cX1_become 71 = .ok (.getfield 30, 3) := by decide +kernel
theorem dX1_become_74 : decode cX1_become 74 = .ok (.invokestatic 83, 3) := by decide +kernel
theorem dX1_become_77 : decode cX1_become 77 = .ok (.aload_n 1, 1) := by decide +kernel
theorem dX1_become_78 : decode cX1_become 78 = .ok (.getfield 33, 3) := by decide +kernel
theorem dX1_become_81 : decode cX1_become 81 = .ok (.aload_n 0, 1) := by decide +kernel
theorem dX1_become_82 : decode cX1_become 82 = .ok (.getfield 33, 3) := by decide +kernel
theorem dX1_become_85 : decode cX1_become 85 = .ok (.invokestatic 83, 3) := by decide +kernel
theorem dX1_become_88 : decode cX1_become 88 = .ok (.aload_n 0, 1) := by decide +kernel
theorem dX1_become_89 : decode cX1_become 89 = .ok (.getfield 39, 3) := by decide +kernel
theorem dX1_become_92 : decode cX1_become 92 = .ok (.aload_n 1, 1) := by decide +kernel
theorem dX1_become_93 : decode cX1_become 93 = .ok (.getfield 39, 3) := by decide +kernel
theorem dX1_become_96 : decode cX1_become 96 = .ok (.invokevirtual 87, 3) := by decide +kernel
theorem dX1_become_99 : decode cX1_become 99 = .ok (.aload_n 0, 1) := by decide +kernel
theorem dX1_become_100 : decode cX1_become 100 = .ok (.aload_n 1, 1) := by decide +kernel
theorem dX1_become_101 : decode cX1_become 101 = .ok (.getfield 43, 3) := by decide +kernel
theorem dX1_become_104 : decode cX1_become 104 = .ok (.putfield 43, 3) := by decide +kernel
theorem dX1_become_107 : decode cX1_become 107 = .ok (.aload_n 0, 1) := by decide +kernel
theorem dX1_become_108 : decode cX1_become 108 = .ok (.aload_n 1, 1) := by decide +kernel
theorem dX1_become_109 : decode cX1_become 109 = .ok (.getfield 91, 3) := by decide +kernel
theorem dX1_become_112 : decode cX1_become 112 = .ok (.putfield 91, 3) := by decide +kernel
theorem dX1_become_115 : decode cX1_become 115 = .ok (.return_, 1) := by decide +kernel
theorem dX2_init_0 : decode cX2_init 0 = .ok (.aload_n 0, 1) := by decide +kernel
theorem dX2_init_1 : decode cX2_init 1 = .ok (.invokespecial 3, 3) := by decide +kernel
theorem dX2_init_4 : decode cX2_init 4 = .ok (.aload_n 0, 1) := by decide +kernel
theorem dX2_init_5 : decode cX2_init 5 = .ok (.bipush 60, 2) := by decide +kernel
theorem dX2_init_7 : decode cX2_init 7 = .ok (.newarray .int, 2) := by decide +kernel
theorem dX2_init_9 : decode cX2_init 9 = .ok (.putfield 9, 3) := by decide +kernel
theorem dX2_init_12 : decode cX2_init 12 = .ok (.aload_n 0, 1) := by decide +kernel
theorem dX2_init_13 : decode cX2_init 13 = .ok (.bipush 60, 2) := by decide +kernel
theorem dX2_init_15 : decode cX2_init 15 = .ok (.newarray .int, 2) := by decide +kernel
theorem dX2_init_17 : decode cX2_init 17 = .ok (.putfield 15, 3) := by decide +kernel
theorem dX2_init_20 : decode cX2_init 20 = .ok (.aload_n 0, 1) := by decide +kernel
theorem dX2_init_21 : decode cX2_init 21 = .ok (.bipush 60, 2) := by decide +kernel
theorem dX2_init_23 : decode cX2_init 23 = .ok (.newarray .int, 2) := by decide +kernel
theorem dX2_init_25 : decode cX2_init 25 = .ok (.putfield 18, 3) := by decide +kernel
theorem dX2_init_28 : decode cX2_init 28 = .ok (.aload_n 0, 1) := by decide +kernel
theorem dX2_init_29 : decode cX2_init 29 = .ok (.bipush 60, 2) := by decide +kernel
theorem dX2_init_31 : decode cX2_init 31 = .ok (.newarray .int, 2) := by decide +kernel
theorem dX2_init_33 : decode cX2_init 33 = .ok (.putfield 21, 3) := by decide +kernel
theorem dX2_init_36 : decode cX2_init 36 = .ok (.aload_n 0, 1) := by decide +kernel
theorem dX2_init_37 : decode cX2_init 37 = .ok (.bipush 60, 2) := by decide +kernel
theorem dX2_init_39 : decode cX2_init 39 = .ok (.newarray .int, 2) := by decide +kernel
theorem dX2_init_41 : decode cX2_init 41 = .ok (.putfield 24, 3) := by decide +kernel
theorem dX2_init_44 : decode cX2_init 44 = .ok (.return_, 1) := by decide +kernel
set_option maxRecDepth 20000 in
theorem ggX2_add_X4_put : GoodIn wsX2_add wsX4_put := goodIn_r _ [5] (by decide +kernel) (by decide +kernel)
set_option maxRecDepth 20000 in
theorem gX2_add_X4_put_n31 : GoodIn wsX2_add (wsX4_put) := ggX2_add_X4_put
theorem dX2_add_0 : decode cX2_add 0 = .ok (.aload_n 0, 1) := by decide +kernel
theorem dX2_add_1 : decode cX2_add 1 = .ok (.getfield 27, 3) := by decide +kernel
theorem dX2_add_4 : decode cX2_add 4 = .ok (.bipush 60, 2) := by decide +kernel
theorem dX2_add_6 : decode cX2_add 6 = .ok (.if_icmp .lt 5, 3) := by decide +kernel
theorem dX2_add_9 : decode cX2_add 9 = .ok (.iconst 0, 1) := by decide +kernel
theorem dX2_add_10 : decode cX2_add 10 = .ok (.ireturn, 1) := by decide +kernel
theorem dX2_add_11 : decode cX2_add 11 = .ok (.aload_n 0, 1) := by decide +kernel
theorem dX2_add_12 : decode cX2_add 12 = .ok (.getfield 9, 3) := by decide +kernel
theorem dX2_add_15 : decode cX2_add 15 = .ok (.aload_n 0, 1) := by decide +kernel
theorem dX2_add_16 : decode cX2_add 16 = .ok (.getfield 27, 3) := by decide +kernel
theorem dX2_add_19 : decode cX2_add 19 = .ok (.iload_n 1, 1) := by decide +kernel
theorem dX2_add_20 : decode cX2_add 20 = .ok (.invokestatic 31, 3) := by decide +kernel
theorem dX2_add_23 : decode cX2_add 23 = .ok (.aload_n 0, 1) := by decide +kernel
theorem dX2_add_24 : decode cX2_add 24 = .ok (.dup, 1) := by decide +kernel
theorem dX2_add_25 : decode cX2_add 25 = .ok (.getfield 27, 3) := by decide +kernel
theorem dX2_add_28 : decode cX2_add 28 = .ok (.iconst 1, 1) := by decide +kernel
theorem dX2_add_29 : decode cX2_add 29 = .ok (.iadd, 1) := by decide +kernel
theorem dX2_add_30 : decode cX2_add 30 = .ok (.putfield 27, 3) := by decide +kernel
theorem dX2_add_33 : decode cX2_add 33 = .ok (.iconst 1, 1) := by decide +kernel
theorem dX2_add_34 : decode cX2_add 34 = .ok (.ireturn, 1) := by decide +kernel
theorem dX2_clear_0 : decode cX2_clear 0 = .ok (.aload_n 0, 1) := by decide +kernel
theorem dX2_clear_1 : decode cX2_clear 1 = .ok (.iconst 0, 1) := by decide +kernel
theorem dX2_clear_2 : decode cX2_clear 2 = .ok (.putfield 27, 3) := by decide +kernel
theorem dX2_clear_5 : decode cX2_clear 5 = .ok (.return_, 1) := by decide +kernel
set_option maxRecDepth 20000 in
theorem ggX2_read_X4_at : GoodIn wsX2_read wsX4_at := goodIn_r _ [7] (by decide +kernel) (by decide +kernel)
set_option maxRecDepth 20000 in
theorem gX2_read_X4_at_n41 : GoodIn wsX2_read (wsX4_at) := ggX2_read_X4_at
set_option maxRecDepth 20000 in
theorem ggX2_read_X2_take : GoodIn wsX2_read wsX2_take := goodIn_r _ [12, 13, 14, 15, 11, 16, 17, 1, 18, 6, 19, 20, 21, 22, 23, 2, 24, 25, 26, 27, 28, 29, 30, 31, 32, 33, 34, 5, 7, 35, 36, 37, 38, 39, 40, 41, 42, 43, 44, 45, 46, 47, 48, 49, 50, 51, 52, 53] (by decide +kernel) (by decide +kernel)
set_option maxRecDepth 20000 in
theorem gX2_read_X2_take : GoodIn wsX2_read (wsV RX2 45 RX2 yX2_take wsX2_take) := goodIn_app (goodIn_of _ (by decide +kernel)) ggX2_read_X2_take
theorem dX2_read_0 : decode cX2_read 0 = .ok (.aload_n 0, 1) := by decide +kernel
theorem dX2_read_1 : decode cX2_read 1 = .ok (.iconst 0, 1) := by decide +kernel
theorem dX2_read_2 : decode cX2_read 2 = .ok (.putfield 35, 3) := by decide +kernel
theorem dX2_read_5 : decode cX2_read 5 = .ok (.aload_n 0, 1) := by decide +kernel
theorem dX2_read_6 : decode cX2_read 6 = .ok (.iconst 0, 1) := by decide +kernel
theorem dX2_read_7 : decode cX2_read 7 = .ok (.putfield 38, 3) := by decide +kernel
theorem dX2_read_10 : decode cX2_read 10 = .ok (.iconst 0, 1) := by decide +kernel
theorem dX2_read_11 : decode cX2_read 11 = .ok (.istore_n 1, 1) := by decide +kernel
theorem dX2_read_12 : decode cX2_read 12 = .ok (.iconst 0, 1) := by decide +kernel
theorem dX2_read_13 : decode cX2_read 13 = .ok (.istore_n 2, 1) := by decide +kernel
theorem dX2_read_14 : decode cX2_read 14 = .ok (.iload_n 2, 1) := by decide +kernel
theorem dX2_read_15 : decode cX2_read 15 = .ok (.aload_n 0, 1) := by decide +kernel
theorem dX2_read_16 : decode cX2_read 16 = .ok (.getfield 27, 3) := by decide +kernel
theorem dX2_read_19 : decode cX2_read 19 = .ok (.if_icmp .ge 30, 3) := by decide +kernel
theorem dX2_read_22 : decode cX2_read 22 = .ok (.aload_n 0, 1) := by decide +kernel
theorem dX2_read_23 : decode cX2_read 23 = .ok (.iload_n 1, 1) := by decide +kernel
theorem dX2_read_24 : decode cX2_read 24 = .ok (.aload_n 0, 1) := by decide +kernel
theorem dX2_read_25 : decode cX2_read 25 = .ok (.getfield 9, 3) := by decide +kernel
theorem dX2_read_28 : decode cX2_read 28 = .ok (.iload_n 2, 1) := by decide +kernel
theorem dX2_read_29 : decode cX2_read 29 = .ok (.invokestatic 41, 3) := by decide +kernel
theorem dX2_read_32 : decode cX2_read 32 = .ok (.invokevirtual 45, 3) := by decide +kernel
theorem dX2_read_35 : decode cX2_read 35 = .ok (.istore_n 1, 1) := by decide +kernel
theorem dX2_read_36 : decode cX2_read 36 = .ok (.iload_n 1, 1) := by decide +kernel
theorem dX2_read_37 : decode cX2_read 37 = .ok (.iconst 4, 1) := by decide +kernel
theorem dX2_read_38 : decode cX2_read 38 = .ok (.if_icmp .ne 5, 3) := by decide +kernel
theorem dX2_read_41 : decode cX2_read 41 = .ok (.iload_n 2, 1) := by decide +kernel
theorem dX2_read_42 : decode cX2_read 42 = .ok (.ireturn, 1) := by decide +kernel
theorem dX2_read_43 : decode cX2_read 43 = .ok (.iinc 2 1, 3) := by decide +kernel
theorem dX2_read_46 : decode cX2_read 46 = .ok (.goto (-32), 3) := by decide +kernel
theorem dX2_read_49 : decode cX2_read 49 = .ok (.iload_n 1, 1) := by decide +kernel
theorem dX2_read_50 : decode cX2_read 50 = .ok (.ifCond .ne 8, 3) := by decide +kernel
theorem dX2_read_53 : decode cX2_read 53 = .ok (.bipush (-6), 2) := by decide +kernel
theorem dX2_read_55 : decode cX2_read 55 = .ok (.goto 7, 3) := by decide +kernel
theorem dX2_read_58 : decode cX2_read 58 = .ok (.aload_n 0, 1) := by decide +kernel
theorem dX2_read_59 : decode cX2_read 59 = .ok (.getfield 27, 3) := by decide +kernel
theorem dX2_read_62 : decode cX2_read 62 = .ok (.ireturn, 1) := by decide +kernel
set_option maxRecDepth 20000 in
theorem ggX2_take_X2_takeDay : GoodIn wsX2_take wsX2_takeDay := goodIn_r _ [5, 6, 7, 8, 9, 10, 40, 41, 42, 43, 44, 45, 46, 47] (by decide +kernel) (by decide +kernel)
set_option maxRecDepth 20000 in
theorem gX2_take_X2_takeDay : GoodIn wsX2_take (wsV RX2 49 RX2 yX2_takeDay wsX2_takeDay) := goodIn_app (goodIn_of _ (by decide +kernel)) ggX2_take_X2_takeDay
set_option maxRecDepth 20000 in
theorem ggX2_take_X2_takeSpeaker : GoodIn wsX2_take wsX2_takeSpeaker := goodIn_r _ [14, 15, 6, 7, 16, 17, 9, 18, 19, 20, 21, 8, 10, 40, 41, 42, 43, 44, 45, 46, 47] (by decide +kernel) (by decide +kernel)
set_option maxRecDepth 20000 in
theorem gX2_take_X2_takeSpeaker : GoodIn wsX2_take (wsV RX2 53 RX2 yX2_takeSpeaker wsX2_takeSpeaker) := goodIn_app (goodIn_of _ (by decide +kernel)) ggX2_take_X2_takeSpeaker
set_option maxRecDepth 20000 in
theorem ggX2_take_X2_takeHearer : GoodIn wsX2_take wsX2_takeHearer := goodIn_r _ [25, 16, 7, 26, 17, 9, 18, 19, 20, 21, 27, 28, 8, 10, 40, 41, 42, 43, 44, 45, 46, 47] (by decide +kernel) (by decide +kernel)
set_option maxRecDepth 20000 in
theorem gX2_take_X2_takeHearer : GoodIn wsX2_take (wsV RX2 57 RX2 yX2_takeHearer wsX2_takeHearer) := goodIn_app (goodIn_of _ (by decide +kernel)) ggX2_take_X2_takeHearer
set_option maxRecDepth 20000 in
theorem ggX2_take_X2_takeDenial : GoodIn wsX2_take wsX2_takeDenial := goodIn_r _ [32, 6, 7, 8, 9, 10, 40, 41, 42, 43, 44, 45, 46, 47] (by decide +kernel) (by decide +kernel)
set_option maxRecDepth 20000 in
theorem gX2_take_X2_takeDenial : GoodIn wsX2_take (wsV RX2 60 RX2 yX2_takeDenial wsX2_takeDenial) := goodIn_app (goodIn_of _ (by decide +kernel)) ggX2_take_X2_takeDenial
set_option maxRecDepth 20000 in
theorem ggX2_take_X2_takePlank : GoodIn wsX2_take wsX2_takePlank := goodIn_r _ [36, 37, 7, 38, 9, 39, 19, 20, 21, 8, 10, 40, 41, 42, 43, 44, 45, 46, 47] (by decide +kernel) (by decide +kernel)
set_option maxRecDepth 20000 in
theorem gX2_take_X2_takePlank : GoodIn wsX2_take (wsV RX2 63 RX2 yX2_takePlank wsX2_takePlank) := goodIn_app (goodIn_of _ (by decide +kernel)) ggX2_take_X2_takePlank
theorem dX2_take_0 : decode cX2_take 0 = .ok (.iload_n 1, 1) := by decide +kernel
theorem dX2_take_1 : decode cX2_take 1 = .ok (.tableswitch 77 0 2 #[27, 46, 55], 27) := by decide +kernel
theorem dX2_take_28 : decode cX2_take 28 = .ok (.iload_n 2, 1) := by decide +kernel
theorem dX2_take_29 : decode cX2_take 29 = .ok (.bipush 46, 2) := by decide +kernel
theorem dX2_take_31 : decode cX2_take 31 = .ok (.if_icmp .ne 10, 3) := by decide +kernel
theorem dX2_take_34 : decode cX2_take 34 = .ok (.aload_n 0, 1) := by decide +kernel
theorem dX2_take_35 : decode cX2_take 35 = .ok (.invokevirtual 49, 3) := by decide +kernel
theorem dX2_take_38 : decode cX2_take 38 = .ok (.goto 8, 3) := by decide +kernel
theorem dX2_take_41 : decode cX2_take 41 = .ok (.aload_n 0, 1) := by decide +kernel
theorem dX2_take_42 : decode cX2_take 42 = .ok (.iload_n 2, 1) := by decide +kernel
theorem dX2_take_43 : decode cX2_take 43 = .ok (.invokevirtual 53, 3) := by decide +kernel
theorem dX2_take_46 : decode cX2_take 46 = .ok (.ireturn, 1) := by decide +kernel
theorem dX2_take_47 : decode cX2_take 47 = .ok (.aload_n 0, 1) := by decide +kernel
theorem dX2_take_48 : decode cX2_take 48 = .ok (.iload_n 2, 1) := by decide +kernel
theorem dX2_take_49 : decode cX2_take 49 = .ok (.bipush 65, 2) := by decide +kernel
theorem dX2_take_51 : decode cX2_take 51 = .ok (.isub, 1) := by decide +kernel
theorem dX2_take_52 : decode cX2_take 52 = .ok (.invokevirtual 57, 3) := by decide +kernel
theorem dX2_take_55 : decode cX2_take 55 = .ok (.ireturn, 1) := by decide +kernel
theorem dX2_take_56 : decode cX2_take 56 = .ok (.iload_n 2, 1) := by decide +kernel
theorem dX2_take_57 : decode cX2_take 57 = .ok (.bipush 45, 2) := by decide +kernel
theorem dX2_take_59 : decode cX2_take 59 = .ok (.if_icmp .ne 10, 3) := by decide +kernel
theorem dX2_take_62 : decode cX2_take 62 = .ok (.aload_n 0, 1) := by decide +kernel
theorem dX2_take_63 : decode cX2_take 63 = .ok (.invokevirtual 60, 3) := by decide +kernel
theorem dX2_take_66 : decode cX2_take 66 = .ok (.goto 11, 3) := by decide +kernel
theorem dX2_take_69 : decode cX2_take 69 = .ok (.aload_n 0, 1) := by decide +kernel
theorem dX2_take_70 : decode cX2_take 70 = .ok (.iload_n 2, 1) := by decide +kernel
theorem dX2_take_71 : decode cX2_take 71 = .ok (.bipush 48, 2) := by decide +kernel
theorem dX2_take_73 : decode cX2_take 73 = .ok (.isub, 1) := by decide +kernel
theorem dX2_take_74 : decode cX2_take 74 = .ok (.invokevirtual 63, 3) := by decide +kernel
theorem dX2_take_77 : decode cX2_take 77 = .ok (.ireturn, 1) := by decide +kernel
theorem dX2_take_78 : decode cX2_take 78 = .ok (.aload_n 0, 1) := by decide +kernel
theorem dX2_take_79 : decode cX2_take 79 = .ok (.iload_n 2, 1) := by decide +kernel
theorem dX2_take_80 : decode cX2_take 80 = .ok (.bipush 48, 2) := by decide +kernel
theorem dX2_take_82 : decode cX2_take 82 = .ok (.isub, 1) := by decide +kernel
theorem dX2_take_83 : decode cX2_take 83 = .ok (.invokevirtual 63, 3) := by decide +kernel
theorem dX2_take_86 : decode cX2_take 86 = .ok (.ireturn, 1) := by decide +kernel
set_option maxRecDepth 20000 in
theorem ggX2_takeDay_X4_put : GoodIn wsX2_takeDay wsX4_put := goodIn_r _ [5] (by decide +kernel) (by decide +kernel)
set_option maxRecDepth 20000 in
theorem gX2_takeDay_X4_put_n31 : GoodIn wsX2_takeDay (wsX4_put) := ggX2_takeDay_X4_put
theorem dX2_takeDay_0 : decode cX2_takeDay 0 = .ok (.aload_n 0, 1) := by decide +kernel
theorem dX2_takeDay_1 : decode cX2_takeDay 1 = .ok (.getfield 15, 3) := by decide +kernel
theorem dX2_takeDay_4 : decode cX2_takeDay 4 = .ok (.aload_n 0, 1) := by decide +kernel
theorem dX2_takeDay_5 : decode cX2_takeDay 5 = .ok (.getfield 35, 3) := by decide +kernel
theorem dX2_takeDay_8 : decode cX2_takeDay 8 = .ok (.iconst 0, 1) := by decide +kernel
theorem dX2_takeDay_9 : decode cX2_takeDay 9 = .ok (.invokestatic 31, 3) := by decide +kernel
theorem dX2_takeDay_12 : decode cX2_takeDay 12 = .ok (.aload_n 0, 1) := by decide +kernel
theorem dX2_takeDay_13 : decode cX2_takeDay 13 = .ok (.dup, 1) := by decide +kernel
theorem dX2_takeDay_14 : decode cX2_takeDay 14 = .ok (.getfield 35, 3) := by decide +kernel
theorem dX2_takeDay_17 : decode cX2_takeDay 17 = .ok (.iconst 1, 1) := by decide +kernel
theorem dX2_takeDay_18 : decode cX2_takeDay 18 = .ok (.iadd, 1) := by decide +kernel
theorem dX2_takeDay_19 : decode cX2_takeDay 19 = .ok (.putfield 35, 3) := by decide +kernel
theorem dX2_takeDay_22 : decode cX2_takeDay 22 = .ok (.iconst 0, 1) := by decide +kernel
theorem dX2_takeDay_23 : decode cX2_takeDay 23 = .ok (.ireturn, 1) := by decide +kernel
set_option maxRecDepth 20000 in
theorem ggX2_takeSpeaker_X4_isPerson : GoodIn wsX2_takeSpeaker wsX4_isPerson := goodIn_r _ [7, 8, 9, 6, 10] (by decide +kernel) (by decide +kernel)
set_option maxRecDepth 20000 in
theorem gX2_takeSpeaker_X4_isPerson_n66 : GoodIn wsX2_takeSpeaker (wsX4_isPerson) := ggX2_takeSpeaker_X4_isPerson
set_option maxRecDepth 20000 in
theorem ggX2_takeSpeaker_X4_put : GoodIn wsX2_takeSpeaker wsX4_put := goodIn_r _ [12] (by decide +kernel) (by decide +kernel)
set_option maxRecDepth 20000 in
theorem gX2_takeSpeaker_X4_put_n31 : GoodIn wsX2_takeSpeaker (wsX4_put) := ggX2_takeSpeaker_X4_put
theorem dX2_takeSpeaker_0 : decode cX2_takeSpeaker 0 = .ok (.iload_n 1, 1) := by decide +kernel
theorem dX2_takeSpeaker_1 : decode cX2_takeSpeaker 1 = .ok (.bipush 65, 2) := by decide +kernel
theorem dX2_takeSpeaker_3 : decode cX2_takeSpeaker 3 = .ok (.isub, 1) := by decide +kernel
theorem dX2_takeSpeaker_4 : decode cX2_takeSpeaker 4 = .ok (.istore_n 2, 1) := by decide +kernel
theorem dX2_takeSpeaker_5 : decode cX2_takeSpeaker 5 = .ok (.iload_n 1, 1) := by decide +kernel
theorem dX2_takeSpeaker_6 : decode cX2_takeSpeaker 6 = .ok (.bipush 63, 2) := by decide +kernel
theorem dX2_takeSpeaker_8 : decode cX2_takeSpeaker 8 = .ok (.if_icmp .ne 32, 3) := by decide +kernel
theorem dX2_takeSpeaker_11 : decode cX2_takeSpeaker 11 = .ok (.aload_n 0, 1) := by decide +kernel
theorem dX2_takeSpeaker_12 : decode cX2_takeSpeaker 12 = .ok (.getfield 38, 3) := by decide +kernel
theorem dX2_takeSpeaker_15 : decode cX2_takeSpeaker 15 = .ok (.iconst 3, 1) := by decide +kernel
theorem dX2_takeSpeaker_16 : decode cX2_takeSpeaker 16 = .ok (.if_icmp .ge 24, 3) := by decide +kernel
theorem dX2_takeSpeaker_19 : decode cX2_takeSpeaker 19 = .ok (.bipush 6, 2) := by decide +kernel
theorem dX2_takeSpeaker_21 : decode cX2_takeSpeaker 21 = .ok (.aload_n 0, 1) := by decide +kernel
theorem dX2_takeSpeaker_22 : decode cX2_takeSpeaker 22 = .ok (.getfield 38, 3) := by decide +kernel
theorem dX2_takeSpeaker_25 : decode cX2_takeSpeaker 25 = .ok (.iadd, 1) := by decide +kernel
theorem dX2_takeSpeaker_26 : decode cX2_takeSpeaker 26 = .ok (.istore_n 2, 1) := by decide +kernel
theorem dX2_takeSpeaker_27 : decode cX2_takeSpeaker 27 = .ok (.aload_n 0, 1) := by decide +kernel
theorem dX2_takeSpeaker_28 : decode cX2_takeSpeaker 28 = .ok (.dup, 1) := by decide +kernel
theorem dX2_takeSpeaker_29 : decode cX2_takeSpeaker 29 = .ok (.getfield 38, 3) := by decide +kernel
theorem dX2_takeSpeaker_32 : decode cX2_takeSpeaker 32 = .ok (.iconst 1, 1) := by decide +kernel
theorem dX2_takeSpeaker_33 : decode cX2_takeSpeaker 33 = .ok (.iadd, 1) := by decide +kernel
theorem dX2_takeSpeaker_34 : decode cX2_takeSpeaker 34 = .ok (.putfield 38, 3) := by decide +kernel
theorem dX2_takeSpeaker_37 : decode cX2_takeSpeaker 37 = .ok (.goto 12, 3) := by decide +kernel
theorem dX2_takeSpeaker_40 : decode cX2_takeSpeaker 40 = .ok (.iload_n 2, 1) := by decide +kernel
theorem dX2_takeSpeaker_41 : decode cX2_takeSpeaker 41 = .ok (.invokestatic 66, 3) := by decide +kernel
theorem dX2_takeSpeaker_44 : decode cX2_takeSpeaker 44 = .ok (.ifCond .ne 5, 3) := by decide +kernel
theorem dX2_takeSpeaker_47 : decode cX2_takeSpeaker 47 = .ok (.iconst 4, 1) := by decide +kernel
theorem dX2_takeSpeaker_48 : decode cX2_takeSpeaker 48 = .ok (.ireturn, 1) := by decide +kernel
theorem dX2_takeSpeaker_49 : decode cX2_takeSpeaker 49 = .ok (.aload_n 0, 1) := by decide +kernel
theorem dX2_takeSpeaker_50 : decode cX2_takeSpeaker 50 = .ok (.getfield 15, 3) := by decide +kernel
theorem dX2_takeSpeaker_53 : decode cX2_takeSpeaker 53 = .ok (.aload_n 0, 1) := by decide +kernel
theorem dX2_takeSpeaker_54 : decode cX2_takeSpeaker 54 = .ok (.getfield 35, 3) := by decide +kernel
theorem dX2_takeSpeaker_57 : decode cX2_takeSpeaker 57 = .ok (.iconst 1, 1) := by decide +kernel
theorem dX2_takeSpeaker_58 : decode cX2_takeSpeaker 58 = .ok (.invokestatic 31, 3) := by decide +kernel
theorem dX2_takeSpeaker_61 : decode cX2_takeSpeaker 61 = .ok (.aload_n 0, 1) := by decide +kernel
theorem dX2_takeSpeaker_62 : decode cX2_takeSpeaker 62 = .ok (.getfield 18, 3) := by decide +kernel
theorem dX2_takeSpeaker_65 : decode cX2_takeSpeaker 65 = .ok (.aload_n 0, 1) := by decide +kernel
theorem dX2_takeSpeaker_66 : decode cX2_takeSpeaker 66 = .ok (.getfield 35, 3) := by decide +kernel
theorem dX2_takeSpeaker_69 : decode cX2_takeSpeaker 69 = .ok (.iload_n 2, 1) := by decide +kernel
theorem dX2_takeSpeaker_70 : decode cX2_takeSpeaker 70 = .ok (.invokestatic 31, 3) := by decide +kernel
theorem dX2_takeSpeaker_73 : decode cX2_takeSpeaker 73 = .ok (.iconst 1, 1) := by decide +kernel
theorem dX2_takeSpeaker_74 : decode cX2_takeSpeaker 74 = .ok (.ireturn, 1) := by decide +kernel
set_option maxRecDepth 20000 in
theorem ggX2_takeHearer_X4_isPerson : GoodIn wsX2_takeHearer wsX4_isPerson := goodIn_r _ [6, 7, 8, 5, 9] (by decide +kernel) (by decide +kernel)
set_option maxRecDepth 20000 in
theorem gX2_takeHearer_X4_isPerson_n66 : GoodIn wsX2_takeHearer (wsX4_isPerson) := ggX2_takeHearer_X4_isPerson
set_option maxRecDepth 20000 in
theorem ggX2_takeHearer_X4_at : GoodIn wsX2_takeHearer wsX4_at := goodIn_r _ [11] (by decide +kernel) (by decide +kernel)
set_option maxRecDepth 20000 in
theorem gX2_takeHearer_X4_at_n41 : GoodIn wsX2_takeHearer (wsX4_at) := ggX2_takeHearer_X4_at
set_option maxRecDepth 20000 in
theorem ggX2_takeHearer_X4_put : GoodIn wsX2_takeHearer wsX4_put := goodIn_r _ [13] (by decide +kernel) (by decide +kernel)
set_option maxRecDepth 20000 in
theorem gX2_takeHearer_X4_put_n31 : GoodIn wsX2_takeHearer (wsX4_put) := ggX2_takeHearer_X4_put
theorem dX2_takeHearer_0 : decode cX2_takeHearer 0 = .ok (.iload_n 1, 1) := by decide +kernel
theorem dX2_takeHearer_1 : decode cX2_takeHearer 1 = .ok (.invokestatic 66, 3) := by decide +kernel
theorem dX2_takeHearer_4 : decode cX2_takeHearer 4 = .ok (.ifCond .eq 18, 3) := by decide +kernel
theorem dX2_takeHearer_7 : decode cX2_takeHearer 7 = .ok (.iload_n 1, 1) := by decide +kernel
theorem dX2_takeHearer_8 : decode cX2_takeHearer 8 = .ok (.aload_n 0, 1) := by decide +kernel
theorem dX2_takeHearer_9 : decode cX2_takeHearer 9 = .ok (.getfield 18, 3) := by decide +kernel
theorem dX2_takeHearer_12 : decode cX2_takeHearer 12 = .ok (.aload_n 0, 1) := by decide +kernel
theorem dX2_takeHearer_13 : decode cX2_takeHearer 13 = .ok (.getfield 35, 3) := by decide +kernel
theorem dX2_takeHearer_16 : decode cX2_takeHearer 16 = .ok (.invokestatic 41, 3) := by decide +kernel
theorem dX2_takeHearer_19 : decode cX2_takeHearer 19 = .ok (.if_icmp .ne 5, 3) := by decide +kernel
theorem dX2_takeHearer_22 : decode cX2_takeHearer 22 = .ok (.iconst 4, 1) := by decide +kernel
theorem dX2_takeHearer_23 : decode cX2_takeHearer 23 = .ok (.ireturn, 1) := by decide +kernel
theorem dX2_takeHearer_24 : decode cX2_takeHearer 24 = .ok (.aload_n 0, 1) := by decide +kernel
theorem dX2_takeHearer_25 : decode cX2_takeHearer 25 = .ok (.getfield 21, 3) := by decide +kernel
theorem dX2_takeHearer_28 : decode cX2_takeHearer 28 = .ok (.aload_n 0, 1) := by decide +kernel
theorem dX2_takeHearer_29 : decode cX2_takeHearer 29 = .ok (.getfield 35, 3) := by decide +kernel
theorem dX2_takeHearer_32 : decode cX2_takeHearer 32 = .ok (.iload_n 1, 1) := by decide +kernel
theorem dX2_takeHearer_33 : decode cX2_takeHearer 33 = .ok (.invokestatic 31, 3) := by decide +kernel
theorem dX2_takeHearer_36 : decode cX2_takeHearer 36 = .ok (.iconst 2, 1) := by decide +kernel
theorem dX2_takeHearer_37 : decode cX2_takeHearer 37 = .ok (.ireturn, 1) := by decide +kernel
set_option maxRecDepth 20000 in
theorem ggX2_takeDenial_X4_put : GoodIn wsX2_takeDenial wsX4_put := goodIn_r _ [5] (by decide +kernel) (by decide +kernel)
set_option maxRecDepth 20000 in
theorem gX2_takeDenial_X4_put_n31 : GoodIn wsX2_takeDenial (wsX4_put) := ggX2_takeDenial_X4_put
theorem dX2_takeDenial_0 : decode cX2_takeDenial 0 = .ok (.aload_n 0, 1) := by decide +kernel
theorem dX2_takeDenial_1 : decode cX2_takeDenial 1 = .ok (.getfield 15, 3) := by decide +kernel
theorem dX2_takeDenial_4 : decode cX2_takeDenial 4 = .ok (.aload_n 0, 1) := by decide +kernel
theorem dX2_takeDenial_5 : decode cX2_takeDenial 5 = .ok (.getfield 35, 3) := by decide +kernel
theorem dX2_takeDenial_8 : decode cX2_takeDenial 8 = .ok (.iconst 2, 1) := by decide +kernel
theorem dX2_takeDenial_9 : decode cX2_takeDenial 9 = .ok (.invokestatic 31, 3) := by decide +kernel
theorem dX2_takeDenial_12 : decode cX2_takeDenial 12 = .ok (.iconst 3, 1) := by decide +kernel
theorem dX2_takeDenial_13 : decode cX2_takeDenial 13 = .ok (.ireturn, 1) := by decide +kernel
set_option maxRecDepth 20000 in
theorem ggX2_takePlank_X4_isPlank : GoodIn wsX2_takePlank wsX4_isPlank := goodIn_r _ [5, 6, 7, 4, 8] (by decide +kernel) (by decide +kernel)
set_option maxRecDepth 20000 in
theorem gX2_takePlank_X4_isPlank_n70 : GoodIn wsX2_takePlank (wsX4_isPlank) := ggX2_takePlank_X4_isPlank
set_option maxRecDepth 20000 in
theorem ggX2_takePlank_X4_put : GoodIn wsX2_takePlank wsX4_put := goodIn_r _ [10] (by decide +kernel) (by decide +kernel)
set_option maxRecDepth 20000 in
theorem gX2_takePlank_X4_put_n31 : GoodIn wsX2_takePlank (wsX4_put) := ggX2_takePlank_X4_put
theorem dX2_takePlank_0 : decode cX2_takePlank 0 = .ok (.iload_n 1, 1) := by decide +kernel
theorem dX2_takePlank_1 : decode cX2_takePlank 1 = .ok (.invokestatic 70, 3) := by decide +kernel
theorem dX2_takePlank_4 : decode cX2_takePlank 4 = .ok (.ifCond .ne 5, 3) := by decide +kernel
theorem dX2_takePlank_7 : decode cX2_takePlank 7 = .ok (.iconst 4, 1) := by decide +kernel
theorem dX2_takePlank_8 : decode cX2_takePlank 8 = .ok (.ireturn, 1) := by decide +kernel
theorem dX2_takePlank_9 : decode cX2_takePlank 9 = .ok (.aload_n 0, 1) := by decide +kernel
theorem dX2_takePlank_10 : decode cX2_takePlank 10 = .ok (.getfield 24, 3) := by decide +kernel
theorem dX2_takePlank_13 : decode cX2_takePlank 13 = .ok (.aload_n 0, 1) := by decide +kernel
theorem dX2_takePlank_14 : decode cX2_takePlank 14 = .ok (.getfield 35, 3) := by decide +kernel
theorem dX2_takePlank_17 : decode cX2_takePlank 17 = .ok (.iload_n 1, 1) := by decide +kernel
theorem dX2_takePlank_18 : decode cX2_takePlank 18 = .ok (.invokestatic 31, 3) := by decide +kernel
theorem dX2_takePlank_21 : decode cX2_takePlank 21 = .ok (.aload_n 0, 1) := by decide +kernel
theorem dX2_takePlank_22 : decode cX2_takePlank 22 = .ok (.dup, 1) := by decide +kernel
theorem dX2_takePlank_23 : decode cX2_takePlank 23 = .ok (.getfield 35, 3) := by decide +kernel
theorem dX2_takePlank_26 : decode cX2_takePlank 26 = .ok (.iconst 1, 1) := by decide +kernel
theorem dX2_takePlank_27 : decode cX2_takePlank 27 = .ok (.iadd, 1) := by decide +kernel
theorem dX2_takePlank_28 : decode cX2_takePlank 28 = .ok (.putfield 35, 3) := by decide +kernel
theorem dX2_takePlank_31 : decode cX2_takePlank 31 = .ok (.iconst 0, 1) := by decide +kernel
theorem dX2_takePlank_32 : decode cX2_takePlank 32 = .ok (.ireturn, 1) := by decide +kernel
theorem dX3_init_0 : decode cX3_init 0 = .ok (.aload_n 0, 1) := by decide +kernel
theorem dX3_init_1 : decode cX3_init 1 = .ok (.invokespecial 3, 3) := by decide +kernel
theorem dX3_init_4 : decode cX3_init 4 = .ok (.aload_n 0, 1) := by decide +kernel
theorem dX3_init_5 : decode cX3_init 5 = .ok (.bipush 6, 2) := by decide +kernel
theorem dX3_init_7 : decode cX3_init 7 = .ok (.newarray .int, 2) := by decide +kernel
theorem dX3_init_9 : decode cX3_init 9 = .ok (.putfield 9, 3) := by decide +kernel
theorem dX3_init_12 : decode cX3_init 12 = .ok (.aload_n 0, 1) := by decide +kernel
theorem dX3_init_13 : decode cX3_init 13 = .ok (.bipush 6, 2) := by decide +kernel
theorem dX3_init_15 : decode cX3_init 15 = .ok (.newarray .int, 2) := by decide +kernel
theorem dX3_init_17 : decode cX3_init 17 = .ok (.putfield 15, 3) := by decide +kernel
theorem dX3_init_20 : decode cX3_init 20 = .ok (.aload_n 0, 1) := by decide +kernel
theorem dX3_init_21 : decode cX3_init 21 = .ok (.bipush 6, 2) := by decide +kernel
theorem dX3_init_23 : decode cX3_init 23 = .ok (.newarray .int, 2) := by decide +kernel
theorem dX3_init_25 : decode cX3_init 25 = .ok (.putfield 18, 3) := by decide +kernel
theorem dX3_init_28 : decode cX3_init 28 = .ok (.return_, 1) := by decide +kernel
set_option maxRecDepth 20000 in
theorem ggX3_weigh_X4_put : GoodIn wsX3_weigh wsX4_put := goodIn_r _ [4] (by decide +kernel) (by decide +kernel)
set_option maxRecDepth 20000 in
theorem gX3_weigh_X4_put_n21 : GoodIn wsX3_weigh (wsX4_put) := ggX3_weigh_X4_put
theorem dX3_weigh_0 : decode cX3_weigh 0 = .ok (.aload_n 0, 1) := by decide +kernel
theorem dX3_weigh_1 : decode cX3_weigh 1 = .ok (.getfield 9, 3) := by decide +kernel
theorem dX3_weigh_4 : decode cX3_weigh 4 = .ok (.iload_n 1, 1) := by decide +kernel
theorem dX3_weigh_5 : decode cX3_weigh 5 = .ok (.iload_n 2, 1) := by decide +kernel
theorem dX3_weigh_6 : decode cX3_weigh 6 = .ok (.invokestatic 21, 3) := by decide +kernel
theorem dX3_weigh_9 : decode cX3_weigh 9 = .ok (.return_, 1) := by decide +kernel
set_option maxRecDepth 20000 in
theorem ggX3_findCheapest_X3_find : GoodIn wsX3_findCheapest wsX3_find := goodIn_r _ [6, 7, 8, 9, 10, 11, 12, 5, 13, 14, 15, 16, 17, 18, 19, 20, 21, 22, 23, 24, 25, 26, 27, 28, 29, 30, 31, 32, 33, 34, 1, 35, 36, 37, 38, 39, 40, 41, 42, 43, 44, 45, 46, 47, 48, 49, 50, 51, 52, 53, 54, 55, 56, 57, 58, 59, 60, 61, 62, 63, 64] (by decide +kernel) (by decide +kernel)
set_option maxRecDepth 20000 in
theorem gX3_findCheapest_X3_find : GoodIn wsX3_findCheapest (wsV RX3 29 RX3 yX3_find wsX3_find) := goodIn_app (goodIn_of _ (by decide +kernel)) ggX3_findCheapest_X3_find
theorem dX3_findCheapest_0 : decode cX3_findCheapest 0 = .ok (.aload_n 0, 1) := by decide +kernel
theorem dX3_findCheapest_1 : decode cX3_findCheapest 1 = .ok (.iconst 0, 1) := by decide +kernel
theorem dX3_findCheapest_2 : decode cX3_findCheapest 2 = .ok (.putfield 25, 3) := by decide +kernel
theorem dX3_findCheapest_5 : decode cX3_findCheapest 5 = .ok (.aload_n 0, 1) := by decide +kernel
theorem dX3_findCheapest_6 : decode cX3_findCheapest 6 = .ok (.aload_n 1, 1) := by decide +kernel
theorem dX3_findCheapest_7 : decode cX3_findCheapest 7 = .ok (.iload_n 2, 1) := by decide +kernel
theorem dX3_findCheapest_8 : decode cX3_findCheapest 8 = .ok (.iload_n 3, 1) := by decide +kernel
theorem dX3_findCheapest_9 : decode cX3_findCheapest 9 = .ok (.lconst 0, 1) := by decide +kernel
theorem dX3_findCheapest_10 : decode cX3_findCheapest 10 = .ok (.invokevirtual 29, 3) := by decide +kernel
theorem dX3_findCheapest_13 : decode cX3_findCheapest 13 = .ok (.return_, 1) := by decide +kernel
set_option maxRecDepth 20000 in
theorem ggX3_findLikeliest_X3_find : GoodIn wsX3_findLikeliest wsX3_find := goodIn_r _ [7, 8, 9, 10, 11, 12, 13, 6, 14, 15, 16, 17, 18, 19, 20, 21, 22, 23, 24, 25, 26, 27, 28, 29, 30, 31, 32, 33, 34, 35, 1, 36, 37, 38, 39, 40, 41, 42, 43, 44, 45, 46, 47, 48, 49, 50, 51, 52, 53, 54, 55, 56, 57, 58, 59, 60, 61, 62, 63, 64, 65] (by decide +kernel) (by decide +kernel)
set_option maxRecDepth 20000 in
theorem gX3_findLikeliest_X3_find : GoodIn wsX3_findLikeliest (wsV RX3 29 RX3 yX3_find wsX3_find) := goodIn_app (goodIn_of _ (by decide +kernel)) ggX3_findLikeliest_X3_find
theorem dX3_findLikeliest_0 : decode cX3_findLikeliest 0 = .ok (.aload_n 0, 1) := by decide +kernel
theorem dX3_findLikeliest_1 : decode cX3_findLikeliest 1 = .ok (.iconst 1, 1) := by decide +kernel
theorem dX3_findLikeliest_2 : decode cX3_findLikeliest 2 = .ok (.putfield 25, 3) := by decide +kernel
theorem dX3_findLikeliest_5 : decode cX3_findLikeliest 5 = .ok (.aload_n 0, 1) := by decide +kernel
theorem dX3_findLikeliest_6 : decode cX3_findLikeliest 6 = .ok (.aload_n 1, 1) := by decide +kernel
theorem dX3_findLikeliest_7 : decode cX3_findLikeliest 7 = .ok (.iload_n 2, 1) := by decide +kernel
theorem dX3_findLikeliest_8 : decode cX3_findLikeliest 8 = .ok (.iload_n 3, 1) := by decide +kernel
theorem dX3_findLikeliest_9 : decode cX3_findLikeliest 9 = .ok (.ldc2_w 33, 3) := by decide +kernel
theorem dX3_findLikeliest_12 : decode cX3_findLikeliest 12 = .ok (.invokevirtual 29, 3) := by decide +kernel
theorem dX3_findLikeliest_15 : decode cX3_findLikeliest 15 = .ok (.return_, 1) := by decide +kernel
theorem dX3_found_0 : decode cX3_found 0 = .ok (.aload_n 0, 1) := by decide +kernel
theorem dX3_found_1 : decode cX3_found 1 = .ok (.getfield 35, 3) := by decide +kernel
theorem dX3_found_4 : decode cX3_found 4 = .ok (.bipush (-6), 2) := by decide +kernel
theorem dX3_found_6 : decode cX3_found 6 = .ok (.if_icmp .eq 7, 3) := by decide +kernel
theorem dX3_found_9 : decode cX3_found 9 = .ok (.iconst 1, 1) := by decide +kernel
theorem dX3_found_10 : decode cX3_found 10 = .ok (.goto 4, 3) := by decide +kernel
theorem dX3_found_13 : decode cX3_found 13 = .ok (.iconst 0, 1) := by decide +kernel
theorem dX3_found_14 : decode cX3_found 14 = .ok (.ireturn, 1) := by decide +kernel
set_option maxRecDepth 20000 in
theorem ggX3_step_X4_at : GoodIn wsX3_step wsX4_at := goodIn_r _ [5] (by decide +kernel) (by decide +kernel)
set_option maxRecDepth 20000 in
theorem gX3_step_X4_at_n39 : GoodIn wsX3_step (wsX4_at) := ggX3_step_X4_at
theorem dX3_step_0 : decode cX3_step 0 = .ok (.iload_n 1, 1) := by decide +kernel
theorem dX3_step_1 : decode cX3_step 1 = .ok (.ifCond .lt 22, 3) := by decide +kernel
theorem dX3_step_4 : decode cX3_step 4 = .ok (.iload_n 1, 1) := by decide +kernel
theorem dX3_step_5 : decode cX3_step 5 = .ok (.aload_n 0, 1) := by decide +kernel
theorem dX3_step_6 : decode cX3_step 6 = .ok (.getfield 35, 3) := by decide +kernel
theorem dX3_step_9 : decode cX3_step 9 = .ok (.if_icmp .ge 14, 3) := by decide +kernel
theorem dX3_step_12 : decode cX3_step 12 = .ok (.aload_n 0, 1) := by decide +kernel
theorem dX3_step_13 : decode cX3_step 13 = .ok (.getfield 18, 3) := by decide +kernel
theorem dX3_step_16 : decode cX3_step 16 = .ok (.iload_n 1, 1) := by decide +kernel
theorem dX3_step_17 : decode cX3_step 17 = .ok (.invokestatic 39, 3) := by decide +kernel
theorem dX3_step_20 : decode cX3_step 20 = .ok (.goto 5, 3) := by decide +kernel
theorem dX3_step_23 : decode cX3_step 23 = .ok (.bipush (-6), 2) := by decide +kernel
theorem dX3_step_25 : decode cX3_step 25 = .ok (.ireturn, 1) := by decide +kernel
set_option maxRecDepth 20000 in
theorem ggX3_find_X3_walk : GoodIn wsX3_find wsX3_walk := goodIn_r _ [8, 1, 9, 10, 11, 7, 12, 3, 2, 13, 14, 15, 16, 17, 18, 19, 20, 21, 22, 23, 24, 25, 26, 27, 28, 29, 30, 31, 32, 33, 34, 35, 36, 37, 38, 39, 40, 41, 42, 4, 5, 6, 43, 44, 45, 46, 47, 48, 49, 50, 51, 52, 53, 54, 55, 56, 57, 58, 59, 60] (by decide +kernel) (by decide +kernel)
set_option maxRecDepth 20000 in
theorem gX3_find_X3_walk : GoodIn wsX3_find (wsV RX3 50 RX3 yX3_walk wsX3_walk) := goodIn_app (goodIn_of _ (by decide +kernel)) ggX3_find_X3_walk
theorem dX3_find_0 : decode cX3_find 0 = .ok (.aload_n 0, 1) := by decide +kernel
theorem dX3_find_1 : decode cX3_find 1 = .ok (.iload_n 3, 1) := by decide +kernel
theorem dX3_find_2 : decode cX3_find 2 = .ok (.putfield 43, 3) := by decide +kernel
theorem dX3_find_5 : decode cX3_find 5 = .ok (.aload_n 0, 1) := by decide +kernel
theorem dX3_find_6 : decode cX3_find 6 = .ok (.bipush (-6), 2) := by decide +kernel
theorem dX3_find_8 : decode cX3_find 8 = .ok (.putfield 35, 3) := by decide +kernel
theorem dX3_find_11 : decode cX3_find 11 = .ok (.aload_n 0, 1) := by decide +kernel
theorem dX3_find_12 : decode cX3_find 12 = .ok (.lconst 0, 1) := by decide +kernel
theorem dX3_find_13 : decode cX3_find 13 = .ok (.putfield 46, 3) := by decide +kernel
theorem dX3_find_16 : decode cX3_find 16 = .ok (.aload_n 0, 1) := by decide +kernel
theorem dX3_find_17 : decode cX3_find 17 = .ok (.aload_n 1, 1) := by decide +kernel
theorem dX3_find_18 : decode cX3_find 18 = .ok (.iload_n 2, 1) := by decide +kernel
theorem dX3_find_19 : decode cX3_find 19 = .ok (.iconst 0, 1) := by decide +kernel
theorem dX3_find_20 : decode cX3_find 20 = .ok (.iconst 1, 1) := by decide +kernel
theorem dX3_find_21 : decode cX3_find 21 = .ok (.iload_n 2, 1) := by decide +kernel
theorem dX3_find_22 : decode cX3_find 22 = .ok (.ishl, 1) := by decide +kernel
theorem dX3_find_23 : decode cX3_find 23 = .ok (.lload 4, 2) := by decide +kernel
theorem dX3_find_25 : decode cX3_find 25 = .ok (.invokevirtual 50, 3) := by decide +kernel
theorem dX3_find_28 : decode cX3_find 28 = .ok (.return_, 1) := by decide +kernel
set_option maxRecDepth 20000 in
theorem ggX3_walk_X3_keepIfBetter : GoodIn wsX3_walk wsX3_keepIfBetter := goodIn_r _ [6, 7, 8, 9, 10, 11, 12, 13, 5, 14, 15, 16, 17, 18, 19, 20, 42, 43, 44, 45, 46, 47, 48] (by decide +kernel) (by decide +kernel)
set_option maxRecDepth 20000 in
theorem gX3_walk_X3_keepIfBetter : GoodIn wsX3_walk (wsV RX3 54 RX3 yX3_keepIfBetter wsX3_keepIfBetter) := goodIn_app (goodIn_of _ (by decide +kernel)) ggX3_walk_X3_keepIfBetter
set_option maxRecDepth 20000 in
theorem ggX3_walk_X3_tread : GoodIn wsX3_walk wsX3_tread := goodIn_r _ [24, 25, 9, 26, 27, 28, 29, 30, 31, 32, 33, 34, 35, 16, 36, 19, 20, 37, 38, 39, 40, 41, 5, 0, 1, 2, 3, 4, 6, 7, 8, 10, 11, 12, 13, 14, 15, 17, 18, 21, 22, 23, 42, 43, 44, 45, 46, 47, 48, 49, 50, 51, 52, 53, 54, 55, 56, 57, 58, 59] (by decide +kernel) (by decide +kernel)
set_option maxRecDepth 20000 in
theorem gX3_walk_X3_tread : GoodIn wsX3_walk (wsV RX3 58 RX3 yX3_tread wsX3_tread) := goodIn_app (goodIn_of _ (by decide +kernel)) ggX3_walk_X3_tread
theorem dX3_walk_0 : decode cX3_walk 0 = .ok (.iload_n 2, 1) := by decide +kernel
theorem dX3_walk_1 : decode cX3_walk 1 = .ok (.aload_n 0, 1) := by decide +kernel
theorem dX3_walk_2 : decode cX3_walk 2 = .ok (.getfield 43, 3) := by decide +kernel
theorem dX3_walk_5 : decode cX3_walk 5 = .ok (.if_icmp .ne 11, 3) := by decide +kernel
theorem dX3_walk_8 : decode cX3_walk 8 = .ok (.aload_n 0, 1) := by decide +kernel
theorem dX3_walk_9 : decode cX3_walk 9 = .ok (.iload_n 3, 1) := by decide +kernel
theorem dX3_walk_10 : decode cX3_walk 10 = .ok (.lload 5, 2) := by decide +kernel
theorem dX3_walk_12 : decode cX3_walk 12 = .ok (.invokevirtual 54, 3) := by decide +kernel
theorem dX3_walk_15 : decode cX3_walk 15 = .ok (.return_, 1) := by decide +kernel
theorem dX3_walk_16 : decode cX3_walk 16 = .ok (.iload_n 3, 1) := by decide +kernel
theorem dX3_walk_17 : decode cX3_walk 17 = .ok (.iconst 5, 1) := by decide +kernel
theorem dX3_walk_18 : decode cX3_walk 18 = .ok (.if_icmp .lt 4, 3) := by decide +kernel
theorem dX3_walk_21 : decode cX3_walk 21 = .ok (.return_, 1) := by decide +kernel
theorem dX3_walk_22 : decode cX3_walk 22 = .ok (.iconst 0, 1) := by decide +kernel
theorem dX3_walk_23 : decode cX3_walk 23 = .ok (.istore 7, 2) := by decide +kernel
theorem dX3_walk_25 : decode cX3_walk 25 = .ok (.iload 7, 2) := by decide +kernel
theorem dX3_walk_27 : decode cX3_walk 27 = .ok (.bipush 6, 2) := by decide +kernel
theorem dX3_walk_29 : decode cX3_walk 29 = .ok (.if_icmp .ge 22, 3) := by decide +kernel
theorem dX3_walk_32 : decode cX3_walk 32 = .ok (.aload_n 0, 1) := by decide +kernel
theorem dX3_walk_33 : decode cX3_walk 33 = .ok (.aload_n 1, 1) := by decide +kernel
theorem dX3_walk_34 : decode cX3_walk 34 = .ok (.iload 7, 2) := by decide +kernel
theorem dX3_walk_36 : decode cX3_walk 36 = .ok (.iload_n 2, 1) := by decide +kernel
theorem dX3_walk_37 : decode cX3_walk 37 = .ok (.iload_n 3, 1) := by decide +kernel
theorem dX3_walk_38 : decode cX3_walk 38 = .ok (.iload 4, 2) := by decide +kernel
theorem dX3_walk_40 : decode cX3_walk 40 = .ok (.lload 5, 2) := by decide +kernel
theorem dX3_walk_42 : decode cX3_walk 42 = .ok (.invokevirtual 58, 3) := by decide +kernel
theorem dX3_walk_45 : decode cX3_walk 45 = .ok (.iinc 7 1, 3) := by decide +kernel
theorem dX3_walk_48 : decode cX3_walk 48 = .ok (.goto (-23), 3) := by decide +kernel
theorem dX3_walk_51 : decode cX3_walk 51 = .ok (.return_, 1) := by decide +kernel
set_option maxRecDepth 20000 in
theorem ggX3_tread_X1_across : GoodIn wsX3_tread wsX1_across := goodIn_r _ [9, 10, 11, 12, 13, 14, 15, 16, 49, 50, 51, 52, 53, 54, 55, 56, 57, 58, 59] (by decide +kernel) (by decide +kernel)
set_option maxRecDepth 20000 in
theorem gX3_tread_X1_across : GoodIn wsX3_tread (wsV RX3 62 RX1 yX1_across wsX1_across) := goodIn_app (goodIn_of _ (by decide +kernel)) ggX3_tread_X1_across
set_option maxRecDepth 20000 in
theorem ggX3_tread_X4_at : GoodIn wsX3_tread wsX4_at := goodIn_r _ [16] (by decide +kernel) (by decide +kernel)
set_option maxRecDepth 20000 in
theorem gX3_tread_X4_at_n39 : GoodIn wsX3_tread (wsX4_at) := ggX3_tread_X4_at
set_option maxRecDepth 20000 in
theorem ggX3_tread_X4_put : GoodIn wsX3_tread wsX4_put := goodIn_r _ [18] (by decide +kernel) (by decide +kernel)
set_option maxRecDepth 20000 in
theorem gX3_tread_X4_put_n21 : GoodIn wsX3_tread (wsX4_put) := ggX3_tread_X4_put
set_option maxRecDepth 20000 in
theorem ggX3_tread_X3_walk : GoodIn wsX3_tread wsX3_walk := goodIn_r _ [23, 24, 25, 26, 27, 22, 28, 29, 30, 2, 31, 32, 33, 34, 35, 36, 13, 37, 38, 15, 16, 39, 40, 41, 0, 1, 3, 4, 5, 6, 7, 8, 9, 10, 11, 12, 14, 17, 18, 19, 20, 21, 42, 43, 44, 45, 46, 47, 48, 49, 50, 51, 52, 53, 54, 55, 56, 57, 58, 59] (by decide +kernel) (by decide +kernel)
set_option maxRecDepth 20000 in
theorem gX3_tread_X3_walk : GoodIn wsX3_tread (wsV RX3 50 RX3 yX3_walk wsX3_walk) := goodIn_app (goodIn_of _ (by decide +kernel)) ggX3_tread_X3_walk
theorem dX3_tread_0 : decode cX3_tread 0 = .ok (.aload_n 1, 1) := by decide +kernel
theorem dX3_tread_1 : decode cX3_tread 1 = .ok (.iload_n 2, 1) := by decide +kernel
theorem dX3_tread_2 : decode cX3_tread 2 = .ok (.iload_n 3, 1) := by decide +kernel
theorem dX3_tread_3 : decode cX3_tread 3 = .ok (.invokevirtual 62, 3) := by decide +kernel
theorem dX3_tread_6 : decode cX3_tread 6 = .ok (.istore 8, 2) := by decide +kernel
theorem dX3_tread_8 : decode cX3_tread 8 = .ok (.aload_n 0, 1) := by decide +kernel
theorem dX3_tread_9 : decode cX3_tread 9 = .ok (.getfield 9, 3) := by decide +kernel
theorem dX3_tread_12 : decode cX3_tread 12 = .ok (.iload_n 2, 1) := by decide +kernel
theorem dX3_tread_13 : decode cX3_tread 13 = .ok (.invokestatic 39, 3) := by decide +kernel
theorem dX3_tread_16 : decode cX3_tread 16 = .ok (.istore 9, 2) := by decide +kernel
theorem dX3_tread_18 : decode cX3_tread 18 = .ok (.iload 8, 2) := by decide +kernel
theorem dX3_tread_20 : decode cX3_tread 20 = .ok (.iconst (-1), 1) := by decide +kernel
theorem dX3_tread_21 : decode cX3_tread 21 = .ok (.if_icmp .eq 20, 3) := by decide +kernel
theorem dX3_tread_24 : decode cX3_tread 24 = .ok (.iload 9, 2) := by decide +kernel
theorem dX3_tread_26 : decode cX3_tread 26 = .ok (.iconst (-1), 1) := by decide +kernel
theorem dX3_tread_27 : decode cX3_tread 27 = .ok (.if_icmp .eq 14, 3) := by decide +kernel
theorem dX3_tread_30 : decode cX3_tread 30 = .ok (.iload 5, 2) := by decide +kernel
theorem dX3_tread_32 : decode cX3_tread 32 = .ok (.iload 8, 2) := by decide +kernel
theorem dX3_tread_34 : decode cX3_tread 34 = .ok (.ishr, 1) := by decide +kernel
theorem dX3_tread_35 : decode cX3_tread 35 = .ok (.iconst 1, 1) := by decide +kernel
theorem dX3_tread_36 : decode cX3_tread 36 = .ok (.iand, 1) := by decide +kernel
theorem dX3_tread_37 : decode cX3_tread 37 = .ok (.iconst 1, 1) := by decide +kernel
theorem dX3_tread_38 : decode cX3_tread 38 = .ok (.if_icmp .ne 4, 3) := by decide +kernel
theorem dX3_tread_41 : decode cX3_tread 41 = .ok (.return_, 1) := by decide +kernel
theorem dX3_tread_42 : decode cX3_tread 42 = .ok (.aload_n 0, 1) := by decide +kernel
theorem dX3_tread_43 : decode cX3_tread 43 = .ok (.getfield 15, 3) := by decide +kernel
theorem dX3_tread_46 : decode cX3_tread 46 = .ok (.iload 4, 2) := by decide +kernel
theorem dX3_tread_48 : decode cX3_tread 48 = .ok (.iload_n 2, 1) := by decide +kernel
theorem dX3_tread_49 : decode cX3_tread 49 = .ok (.invokestatic 21, 3) := by decide +kernel
theorem dX3_tread_52 : decode cX3_tread 52 = .ok (.aload_n 0, 1) := by decide +kernel
theorem dX3_tread_53 : decode cX3_tread 53 = .ok (.getfield 25, 3) := by decide +kernel
theorem dX3_tread_56 : decode cX3_tread 56 = .ok (.ifCond .eq 16, 3) := by decide +kernel
theorem dX3_tread_59 : decode cX3_tread 59 = .ok (.lload 6, 2) := by decide +kernel
theorem dX3_tread_61 : decode cX3_tread 61 = .ok (.iload 9, 2) := by decide +kernel
theorem dX3_tread_63 : decode cX3_tread 63 = .ok (.i2l, 1) := by decide +kernel
theorem dX3_tread_64 : decode cX3_tread 64 = .ok (.lmul, 1) := by decide +kernel
theorem dX3_tread_65 : decode cX3_tread 65 = .ok (.ldc2_w 68, 3) := by decide +kernel
theorem dX3_tread_68 : decode cX3_tread 68 = .ok (.ldiv, 1) := by decide +kernel
theorem dX3_tread_69 : decode cX3_tread 69 = .ok (.goto 9, 3) := by decide +kernel
theorem dX3_tread_72 : decode cX3_tread 72 = .ok (.lload 6, 2) := by decide +kernel
theorem dX3_tread_74 : decode cX3_tread 74 = .ok (.iload 9, 2) := by decide +kernel
theorem dX3_tread_76 : decode cX3_tread 76 = .ok (.i2l, 1) := by decide +kernel
theorem dX3_tread_77 : decode cX3_tread 77 = .ok (.lsub, 1) := by decide +kernel
theorem dX3_tread_78 : decode cX3_tread 78 = .ok (.lstore 10, 2) := by decide +kernel
theorem dX3_tread_80 : decode cX3_tread 80 = .ok (.aload_n 0, 1) := by decide +kernel
theorem dX3_tread_81 : decode cX3_tread 81 = .ok (.aload_n 1, 1) := by decide +kernel
theorem dX3_tread_82 : decode cX3_tread 82 = .ok (.iload 8, 2) := by decide +kernel
theorem dX3_tread_84 : decode cX3_tread 84 = .ok (.iload 4, 2) := by decide +kernel
theorem dX3_tread_86 : decode cX3_tread 86 = .ok (.iconst 1, 1) := by decide +kernel
theorem dX3_tread_87 : decode cX3_tread 87 = .ok (.iadd, 1) := by decide +kernel
theorem dX3_tread_88 : decode cX3_tread 88 = .ok (.iload 5, 2) := by decide +kernel
theorem dX3_tread_90 : decode cX3_tread 90 = .ok (.iconst 1, 1) := by decide +kernel
theorem dX3_tread_91 : decode cX3_tread 91 = .ok (.iload 8, 2) := by decide +kernel
theorem dX3_tread_93 : decode cX3_tread 93 = .ok (.ishl, 1) := by decide +kernel
theorem dX3_tread_94 : decode cX3_tread 94 = .ok (.ior, 1) := by decide +kernel
theorem dX3_tread_95 : decode cX3_tread 95 = .ok (.lload 10, 2) := by decide +kernel
theorem dX3_tread_97 : decode cX3_tread 97 = .ok (.invokevirtual 50, 3) := by decide +kernel
theorem dX3_tread_100 : decode cX3_tread 100 = .ok (.return_, 1) := by decide +kernel
set_option maxRecDepth 20000 in
theorem ggX3_keepIfBetter_X3_found : GoodIn wsX3_keepIfBetter wsX3_found := goodIn_r _ [9, 2, 16, 17, 18, 19, 20, 21, 22] (by decide +kernel) (by decide +kernel)
set_option maxRecDepth 20000 in
theorem gX3_keepIfBetter_X3_found : GoodIn wsX3_keepIfBetter (wsV RX3 70 RX3 yX3_found wsX3_found) := goodIn_app (goodIn_of _ (by decide +kernel)) ggX3_keepIfBetter_X3_found
set_option maxRecDepth 20000 in
theorem ggX3_keepIfBetter_X4_copy : GoodIn wsX3_keepIfBetter wsX4_copy := goodIn_r _ [12, 13, 14, 11, 15] (by decide +kernel) (by decide +kernel)
set_option maxRecDepth 20000 in
theorem gX3_keepIfBetter_X4_copy_n74 : GoodIn wsX3_keepIfBetter (wsX4_copy) := ggX3_keepIfBetter_X4_copy
theorem dX3_keepIfBetter_0 : decode cX3_keepIfBetter 0 = .ok (.aload_n 0, 1) := by decide +kernel
theorem dX3_keepIfBetter_1 : decode cX3_keepIfBetter 1 = .ok (.invokevirtual 70, 3) := by decide +kernel
theorem dX3_keepIfBetter_4 : decode cX3_keepIfBetter 4 = .ok (.ifCond .eq 30, 3) := by decide +kernel
theorem dX3_keepIfBetter_7 : decode cX3_keepIfBetter 7 = .ok (.lload_n 2, 1) := by decide +kernel
theorem dX3_keepIfBetter_8 : decode cX3_keepIfBetter 8 = .ok (.aload_n 0, 1) := by decide +kernel
theorem dX3_keepIfBetter_9 : decode cX3_keepIfBetter 9 = .ok (.getfield 46, 3) := by decide +kernel
theorem dX3_keepIfBetter_12 : decode cX3_keepIfBetter 12 = .ok (.lcmp, 1) := by decide +kernel
theorem dX3_keepIfBetter_13 : decode cX3_keepIfBetter 13 = .ok (.ifCond .lt 20, 3) := by decide +kernel
theorem dX3_keepIfBetter_16 : decode cX3_keepIfBetter 16 = .ok (.lload_n 2, 1) := by decide +kernel
theorem dX3_keepIfBetter_17 : decode cX3_keepIfBetter 17 = .ok (.aload_n 0, 1) := by decide +kernel
theorem dX3_keepIfBetter_18 : decode cX3_keepIfBetter 18 = .ok (.getfield 46, 3) := by decide +kernel
theorem dX3_keepIfBetter_21 : decode cX3_keepIfBetter 21 = .ok (.lcmp, 1) := by decide +kernel
theorem dX3_keepIfBetter_22 : decode cX3_keepIfBetter 22 = .ok (.ifCond .ne 12, 3) := by decide +kernel
theorem dX3_keepIfBetter_25 : decode cX3_keepIfBetter 25 = .ok (.iload_n 1, 1) := by decide +kernel
theorem dX3_keepIfBetter_26 : decode cX3_keepIfBetter 26 = .ok (.aload_n 0, 1) := by decide +kernel
theorem dX3_keepIfBetter_27 : decode cX3_keepIfBetter 27 = .ok (.getfield 35, 3) := by decide +kernel
theorem dX3_keepIfBetter_30 : decode cX3_keepIfBetter 30 = .ok (.if_icmp .lt 4, 3) := by decide +kernel
theorem dX3_keepIfBetter_33 : decode cX3_keepIfBetter 33 = .ok (.return_, 1) := by decide +kernel
theorem dX3_keepIfBetter_34 : decode cX3_keepIfBetter 34 = .ok (.aload_n 0, 1) := by decide +kernel
theorem dX3_keepIfBetter_35 : decode cX3_keepIfBetter 35 = .ok (.iload_n 1, 1) := by decide +kernel
theorem dX3_keepIfBetter_36 : decode cX3_keepIfBetter 36 = .ok (.putfield 35, 3) := by decide +kernel
theorem dX3_keepIfBetter_39 : decode cX3_keepIfBetter 39 = .ok (.aload_n 0, 1) := by decide +kernel
theorem dX3_keepIfBetter_40 : decode cX3_keepIfBetter 40 = .ok (.lload_n 2, 1) := by decide +kernel
theorem dX3_keepIfBetter_41 : decode cX3_keepIfBetter 41 = .ok (.putfield 46, 3) := by decide +kernel
theorem dX3_keepIfBetter_44 : decode cX3_keepIfBetter 44 = .ok (.aload_n 0, 1) := by decide +kernel
theorem dX3_keepIfBetter_45 : decode cX3_keepIfBetter 45 = .ok (.getfield 15, 3) := by decide +kernel
theorem dX3_keepIfBetter_48 : decode cX3_keepIfBetter 48 = .ok (.aload_n 0, 1) := by decide +kernel
theorem dX3_keepIfBetter_49 : decode cX3_keepIfBetter 49 = .ok (.getfield 18, 3) := by decide +kernel
theorem dX3_keepIfBetter_52 : decode cX3_keepIfBetter 52 = .ok (.invokestatic 74, 3) := by decide +kernel
theorem dX3_keepIfBetter_55 : decode cX3_keepIfBetter 55 = .ok (.return_, 1) := by decide +kernel
set_option maxRecDepth 20000 in
theorem ggX4_init_X1_init : GoodIn wsX4_init wsX1_init := goodIn_r _ [26, 27, 2, 3, 21, 28, 29, 30, 31, 32, 33, 34, 35, 36, 18, 19, 37, 38, 39, 40, 41, 42, 43, 44, 45, 6, 46, 47, 48, 49, 50, 51, 52, 53, 54, 55, 56, 57, 58, 59, 74, 75, 76, 77, 78, 79, 80, 81, 82, 83, 84, 107] (by decide +kernel) (by decide +kernel)
set_option maxRecDepth 20000 in
theorem gX4_init_X1_init : GoodIn wsX4_init (wsX1_init) := ggX4_init_X1_init
set_option maxRecDepth 20000 in
theorem ggX4_init_X2_init : GoodIn wsX4_init wsX2_init := goodIn_r _ [61, 62, 2, 3, 21, 63, 64, 65, 66, 67, 92, 93, 94, 95, 96, 97, 98, 99] (by decide +kernel) (by decide +kernel)
set_option maxRecDepth 20000 in
theorem gX4_init_X2_init_n22 : GoodIn wsX4_init (wsX2_init) := ggX4_init_X2_init
set_option maxRecDepth 20000 in
theorem ggX4_init_X3_init : GoodIn wsX4_init wsX3_init := goodIn_r _ [69, 70, 2, 3, 21, 71, 72, 73, 100, 101, 102, 103, 104, 105, 106] (by decide +kernel) (by decide +kernel)
set_option maxRecDepth 20000 in
theorem gX4_init_X3_init_n29 : GoodIn wsX4_init (wsX3_init) := ggX4_init_X3_init
set_option maxRecDepth 20000 in
theorem ggX4_init_X0_init : GoodIn wsX4_init wsX0_init := goodIn_r _ [40, 41, 2, 3, 21, 42, 107] (by decide +kernel) (by decide +kernel)
set_option maxRecDepth 20000 in
theorem gX4_init_X0_init_n36 : GoodIn wsX4_init (wsX0_init) := ggX4_init_X0_init
theorem dX4_init_0 : decode cX4_init 0 = .ok (.aload_n 0, 1) := by decide +kernel
theorem dX4_init_1 : decode cX4_init 1 = .ok (.invokespecial 1, 3) := by decide +kernel
theorem dX4_init_4 : decode cX4_init 4 = .ok (.aload_n 0, 1) := by decide +kernel
theorem dX4_init_5 : decode cX4_init 5 = .ok (.new 7, 3) := by decide +kernel
theorem dX4_init_8 : decode cX4_init 8 = .ok (.dup, 1) := by decide +kernel
