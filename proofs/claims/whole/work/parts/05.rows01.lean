theorem dX4_init_9 : decode cX4_init 9 = .ok (.invokespecial 9, 3) := by decide +kernel
theorem dX4_init_12 : decode cX4_init 12 = .ok (.putfield 10, 3) := by decide +kernel
theorem dX4_init_15 : decode cX4_init 15 = .ok (.aload_n 0, 1) := by decide +kernel
theorem dX4_init_16 : decode cX4_init 16 = .ok (.iconst 2, 1) := by decide +kernel
theorem dX4_init_17 : decode cX4_init 17 = .ok (.anewarray 7, 3) := by decide +kernel
theorem dX4_init_20 : decode cX4_init 20 = .ok (.putfield 16, 3) := by decide +kernel
theorem dX4_init_23 : decode cX4_init 23 = .ok (.aload_n 0, 1) := by decide +kernel
theorem dX4_init_24 : decode cX4_init 24 = .ok (.new 20, 3) := by decide +kernel
theorem dX4_init_27 : decode cX4_init 27 = .ok (.dup, 1) := by decide +kernel
theorem dX4_init_28 : decode cX4_init 28 = .ok (.invokespecial 22, 3) := by decide +kernel
theorem dX4_init_31 : decode cX4_init 31 = .ok (.putfield 23, 3) := by decide +kernel
theorem dX4_init_34 : decode cX4_init 34 = .ok (.aload_n 0, 1) := by decide +kernel
theorem dX4_init_35 : decode cX4_init 35 = .ok (.new 27, 3) := by decide +kernel
theorem dX4_init_38 : decode cX4_init 38 = .ok (.dup, 1) := by decide +kernel
theorem dX4_init_39 : decode cX4_init 39 = .ok (.invokespecial 29, 3) := by decide +kernel
theorem dX4_init_42 : decode cX4_init 42 = .ok (.putfield 30, 3) := by decide +kernel
theorem dX4_init_45 : decode cX4_init 45 = .ok (.aload_n 0, 1) := by decide +kernel
theorem dX4_init_46 : decode cX4_init 46 = .ok (.new 34, 3) := by decide +kernel
theorem dX4_init_49 : decode cX4_init 49 = .ok (.dup, 1) := by decide +kernel
theorem dX4_init_50 : decode cX4_init 50 = .ok (.invokespecial 36, 3) := by decide +kernel
theorem dX4_init_53 : decode cX4_init 53 = .ok (.putfield 37, 3) := by decide +kernel
theorem dX4_init_56 : decode cX4_init 56 = .ok (.aload_n 0, 1) := by decide +kernel
theorem dX4_init_57 : decode cX4_init 57 = .ok (.iconst 3, 1) := by decide +kernel
theorem dX4_init_58 : decode cX4_init 58 = .ok (.newarray .int, 2) := by decide +kernel
theorem dX4_init_60 : decode cX4_init 60 = .ok (.putfield 41, 3) := by decide +kernel
theorem dX4_init_63 : decode cX4_init 63 = .ok (.aload_n 0, 1) := by decide +kernel
theorem dX4_init_64 : decode cX4_init 64 = .ok (.bipush 6, 2) := by decide +kernel
theorem dX4_init_66 : decode cX4_init 66 = .ok (.newarray .int, 2) := by decide +kernel
theorem dX4_init_68 : decode cX4_init 68 = .ok (.putfield 45, 3) := by decide +kernel
theorem dX4_init_71 : decode cX4_init 71 = .ok (.return_, 1) := by decide +kernel
set_option maxRecDepth 20000 in
theorem ggX4_plank_X4_isPlank : GoodIn wsX4_plank wsX4_isPlank := goodIn_r _ [5, 6, 7, 4, 8] (by decide +kernel) (by decide +kernel)
set_option maxRecDepth 20000 in
theorem gX4_plank_X4_isPlank : GoodIn wsX4_plank (va_wsS RX4 48 yX4_isPlank wsX4_isPlank) := goodIn_app (goodIn_of _ (by decide +kernel)) ggX4_plank_X4_isPlank
set_option maxRecDepth 20000 in
theorem ggX4_plank_X4_isIsland : GoodIn wsX4_plank wsX4_isIsland := goodIn_r _ [11, 6, 7, 4, 8] (by decide +kernel) (by decide +kernel)
set_option maxRecDepth 20000 in
theorem gX4_plank_X4_isIsland : GoodIn wsX4_plank (va_wsS RX4 52 yX4_isIsland wsX4_isIsland) := goodIn_app (goodIn_of _ (by decide +kernel)) ggX4_plank_X4_isIsland
set_option maxRecDepth 20000 in
theorem ggX4_plank_X4_isPerson : GoodIn wsX4_plank wsX4_isPerson := goodIn_r _ [14, 6, 7, 4, 8] (by decide +kernel) (by decide +kernel)
set_option maxRecDepth 20000 in
theorem gX4_plank_X4_isPerson : GoodIn wsX4_plank (va_wsS RX4 55 yX4_isPerson wsX4_isPerson) := goodIn_app (goodIn_of _ (by decide +kernel)) ggX4_plank_X4_isPerson
set_option maxRecDepth 20000 in
theorem ggX4_plank_X1_lay : GoodIn wsX4_plank wsX1_lay := goodIn_r _ [19, 20, 21, 22, 23, 24, 25, 4, 26, 27, 28, 29, 30, 31, 32, 33, 34, 35, 36, 37, 38, 46, 47, 48, 49, 50, 51, 52, 53, 54, 55, 56, 57] (by decide +kernel) (by decide +kernel)
set_option maxRecDepth 20000 in
theorem gX4_plank_X1_lay : GoodIn wsX4_plank (wsV RX4 58 RX1 yX1_lay wsX1_lay) := goodIn_app (goodIn_of _ (by decide +kernel)) ggX4_plank_X1_lay
theorem dX4_plank_0 : decode cX4_plank 0 = .ok (.iload_n 1, 1) := by decide +kernel
theorem dX4_plank_1 : decode cX4_plank 1 = .ok (.invokestatic 48, 3) := by decide +kernel
theorem dX4_plank_4 : decode cX4_plank 4 = .ok (.ifCond .eq 30, 3) := by decide +kernel
theorem dX4_plank_7 : decode cX4_plank 7 = .ok (.iload_n 2, 1) := by decide +kernel
theorem dX4_plank_8 : decode cX4_plank 8 = .ok (.invokestatic 52, 3) := by decide +kernel
theorem dX4_plank_11 : decode cX4_plank 11 = .ok (.ifCond .eq 23, 3) := by decide +kernel
theorem dX4_plank_14 : decode cX4_plank 14 = .ok (.iload_n 3, 1) := by decide +kernel
theorem dX4_plank_15 : decode cX4_plank 15 = .ok (.invokestatic 52, 3) := by decide +kernel
theorem dX4_plank_18 : decode cX4_plank 18 = .ok (.ifCond .eq 16, 3) := by decide +kernel
theorem dX4_plank_21 : decode cX4_plank 21 = .ok (.iload 4, 2) := by decide +kernel
theorem dX4_plank_23 : decode cX4_plank 23 = .ok (.invokestatic 55, 3) := by decide +kernel
theorem dX4_plank_26 : decode cX4_plank 26 = .ok (.ifCond .eq 8, 3) := by decide +kernel
theorem dX4_plank_29 : decode cX4_plank 29 = .ok (.iload_n 2, 1) := by decide +kernel
theorem dX4_plank_30 : decode cX4_plank 30 = .ok (.iload_n 3, 1) := by decide +kernel
theorem dX4_plank_31 : decode cX4_plank 31 = .ok (.if_icmp .ne 5, 3) := by decide +kernel
theorem dX4_plank_34 : decode cX4_plank 34 = .ok (.iconst (-1), 1) := by decide +kernel
theorem dX4_plank_35 : decode cX4_plank 35 = .ok (.ireturn, 1) := by decide +kernel
theorem dX4_plank_36 : decode cX4_plank 36 = .ok (.aload_n 0, 1) := by decide +kernel
theorem dX4_plank_37 : decode cX4_plank 37 = .ok (.getfield 10, 3) := by decide +kernel
theorem dX4_plank_40 : decode cX4_plank 40 = .ok (.iload_n 1, 1) := by decide +kernel
theorem dX4_plank_41 : decode cX4_plank 41 = .ok (.iload_n 2, 1) := by decide +kernel
theorem dX4_plank_42 : decode cX4_plank 42 = .ok (.iload_n 3, 1) := by decide +kernel
theorem dX4_plank_43 : decode cX4_plank 43 = .ok (.iload 4, 2) := by decide +kernel
theorem dX4_plank_45 : decode cX4_plank 45 = .ok (.invokevirtual 58, 3) := by decide +kernel
theorem dX4_plank_48 : decode cX4_plank 48 = .ok (.iconst 1, 1) := by decide +kernel
theorem dX4_plank_49 : decode cX4_plank 49 = .ok (.ireturn, 1) := by decide +kernel
set_option maxRecDepth 20000 in
theorem ggX4_trust_X4_isPerson : GoodIn wsX4_trust wsX4_isPerson := goodIn_r _ [6, 7, 8, 5, 9] (by decide +kernel) (by decide +kernel)
set_option maxRecDepth 20000 in
theorem gX4_trust_X4_isPerson : GoodIn wsX4_trust (va_wsS RX4 55 yX4_isPerson wsX4_isPerson) := goodIn_app (goodIn_of _ (by decide +kernel)) ggX4_trust_X4_isPerson
set_option maxRecDepth 20000 in
theorem ggX4_trust_X4_putBit : GoodIn wsX4_trust wsX4_putBit := goodIn_r _ [12, 13, 14, 5, 15, 16, 17, 18] (by decide +kernel) (by decide +kernel)
set_option maxRecDepth 20000 in
theorem gX4_trust_X4_putBit : GoodIn wsX4_trust (va_wsS RX4 65 yX4_putBit wsX4_putBit) := goodIn_app (goodIn_of _ (by decide +kernel)) ggX4_trust_X4_putBit
theorem dX4_trust_0 : decode cX4_trust 0 = .ok (.iload_n 1, 1) := by decide +kernel
theorem dX4_trust_1 : decode cX4_trust 1 = .ok (.invokestatic 55, 3) := by decide +kernel
theorem dX4_trust_4 : decode cX4_trust 4 = .ok (.ifCond .eq 15, 3) := by decide +kernel
theorem dX4_trust_7 : decode cX4_trust 7 = .ok (.iload_n 2, 1) := by decide +kernel
theorem dX4_trust_8 : decode cX4_trust 8 = .ok (.invokestatic 55, 3) := by decide +kernel
theorem dX4_trust_11 : decode cX4_trust 11 = .ok (.ifCond .eq 8, 3) := by decide +kernel
theorem dX4_trust_14 : decode cX4_trust 14 = .ok (.iload_n 1, 1) := by decide +kernel
theorem dX4_trust_15 : decode cX4_trust 15 = .ok (.iload_n 2, 1) := by decide +kernel
theorem dX4_trust_16 : decode cX4_trust 16 = .ok (.if_icmp .ne 5, 3) := by decide +kernel
theorem dX4_trust_19 : decode cX4_trust 19 = .ok (.iconst (-1), 1) := by decide +kernel
theorem dX4_trust_20 : decode cX4_trust 20 = .ok (.ireturn, 1) := by decide +kernel
theorem dX4_trust_21 : decode cX4_trust 21 = .ok (.aload_n 0, 1) := by decide +kernel
theorem dX4_trust_22 : decode cX4_trust 22 = .ok (.getfield 10, 3) := by decide +kernel
theorem dX4_trust_25 : decode cX4_trust 25 = .ok (.getfield 62, 3) := by decide +kernel
theorem dX4_trust_28 : decode cX4_trust 28 = .ok (.iload_n 1, 1) := by decide +kernel
theorem dX4_trust_29 : decode cX4_trust 29 = .ok (.iload_n 2, 1) := by decide +kernel
theorem dX4_trust_30 : decode cX4_trust 30 = .ok (.iload_n 3, 1) := by decide +kernel
theorem dX4_trust_31 : decode cX4_trust 31 = .ok (.invokestatic 65, 3) := by decide +kernel
theorem dX4_trust_34 : decode cX4_trust 34 = .ok (.iconst 1, 1) := by decide +kernel
theorem dX4_trust_35 : decode cX4_trust 35 = .ok (.ireturn, 1) := by decide +kernel
set_option maxRecDepth 20000 in
theorem ggX4_know_X4_isPerson : GoodIn wsX4_know wsX4_isPerson := goodIn_r _ [7, 8, 9, 6, 10] (by decide +kernel) (by decide +kernel)
set_option maxRecDepth 20000 in
theorem gX4_know_X4_isPerson : GoodIn wsX4_know (va_wsS RX4 55 yX4_isPerson wsX4_isPerson) := goodIn_app (goodIn_of _ (by decide +kernel)) ggX4_know_X4_isPerson
set_option maxRecDepth 20000 in
theorem ggX4_know_X4_isPlank : GoodIn wsX4_know wsX4_isPlank := goodIn_r _ [13, 8, 9, 6, 10] (by decide +kernel) (by decide +kernel)
set_option maxRecDepth 20000 in
theorem gX4_know_X4_isPlank : GoodIn wsX4_know (va_wsS RX4 48 yX4_isPlank wsX4_isPlank) := goodIn_app (goodIn_of _ (by decide +kernel)) ggX4_know_X4_isPlank
set_option maxRecDepth 20000 in
theorem ggX4_know_X4_putBit : GoodIn wsX4_know wsX4_putBit := goodIn_r _ [16, 17, 18, 6, 19, 20, 21, 22] (by decide +kernel) (by decide +kernel)
set_option maxRecDepth 20000 in
theorem gX4_know_X4_putBit : GoodIn wsX4_know (va_wsS RX4 65 yX4_putBit wsX4_putBit) := goodIn_app (goodIn_of _ (by decide +kernel)) ggX4_know_X4_putBit
set_option maxRecDepth 20000 in
theorem ggX4_know_X0_set : GoodIn wsX4_know wsX0_set := goodIn_r _ [27, 28, 21, 6, 22, 47] (by decide +kernel) (by decide +kernel)
set_option maxRecDepth 20000 in
theorem gX4_know_X0_set : GoodIn wsX4_know (wsV RX4 75 RX0 yX0_set wsX0_set) := goodIn_app (goodIn_of _ (by decide +kernel)) ggX4_know_X0_set
theorem dX4_know_0 : decode cX4_know 0 = .ok (.iload_n 1, 1) := by decide +kernel
theorem dX4_know_1 : decode cX4_know 1 = .ok (.invokestatic 55, 3) := by decide +kernel
theorem dX4_know_4 : decode cX4_know 4 = .ok (.ifCond .eq 10, 3) := by decide +kernel
theorem dX4_know_7 : decode cX4_know 7 = .ok (.iload_n 2, 1) := by decide +kernel
theorem dX4_know_8 : decode cX4_know 8 = .ok (.invokestatic 48, 3) := by decide +kernel
theorem dX4_know_11 : decode cX4_know 11 = .ok (.ifCond .ne 5, 3) := by decide +kernel
theorem dX4_know_14 : decode cX4_know 14 = .ok (.iconst (-1), 1) := by decide +kernel
theorem dX4_know_15 : decode cX4_know 15 = .ok (.ireturn, 1) := by decide +kernel
theorem dX4_know_16 : decode cX4_know 16 = .ok (.aload_n 0, 1) := by decide +kernel
theorem dX4_know_17 : decode cX4_know 17 = .ok (.getfield 10, 3) := by decide +kernel
theorem dX4_know_20 : decode cX4_know 20 = .ok (.getfield 69, 3) := by decide +kernel
theorem dX4_know_23 : decode cX4_know 23 = .ok (.iload_n 1, 1) := by decide +kernel
theorem dX4_know_24 : decode cX4_know 24 = .ok (.iload_n 2, 1) := by decide +kernel
theorem dX4_know_25 : decode cX4_know 25 = .ok (.iload_n 3, 1) := by decide +kernel
theorem dX4_know_26 : decode cX4_know 26 = .ok (.invokestatic 65, 3) := by decide +kernel
theorem dX4_know_29 : decode cX4_know 29 = .ok (.iload_n 3, 1) := by decide +kernel
theorem dX4_know_30 : decode cX4_know 30 = .ok (.ifCond .eq 16, 3) := by decide +kernel
theorem dX4_know_33 : decode cX4_know 33 = .ok (.aload_n 0, 1) := by decide +kernel
theorem dX4_know_34 : decode cX4_know 34 = .ok (.getfield 10, 3) := by decide +kernel
theorem dX4_know_37 : decode cX4_know 37 = .ok (.getfield 72, 3) := by decide +kernel
theorem dX4_know_40 : decode cX4_know 40 = .ok (.iload_n 2, 1) := by decide +kernel
theorem dX4_know_41 : decode cX4_know 41 = .ok (.iload_n 1, 1) := by decide +kernel
theorem dX4_know_42 : decode cX4_know 42 = .ok (.iconst 0, 1) := by decide +kernel
theorem dX4_know_43 : decode cX4_know 43 = .ok (.invokevirtual 75, 3) := by decide +kernel
theorem dX4_know_46 : decode cX4_know 46 = .ok (.iconst 1, 1) := by decide +kernel
theorem dX4_know_47 : decode cX4_know 47 = .ok (.ireturn, 1) := by decide +kernel
set_option maxRecDepth 20000 in
theorem ggX4_fade_X4_within : GoodIn wsX4_fade wsX4_within := goodIn_r _ [6] (by decide +kernel) (by decide +kernel)
set_option maxRecDepth 20000 in
theorem gX4_fade_X4_within : GoodIn wsX4_fade (va_wsS RX4 79 yX4_within wsX4_within) := goodIn_app (goodIn_of _ (by decide +kernel)) ggX4_fade_X4_within
theorem dX4_fade_0 : decode cX4_fade 0 = .ok (.iload_n 1, 1) := by decide +kernel
theorem dX4_fade_1 : decode cX4_fade 1 = .ok (.iconst 1, 1) := by decide +kernel
theorem dX4_fade_2 : decode cX4_fade 2 = .ok (.bipush 9, 2) := by decide +kernel
theorem dX4_fade_4 : decode cX4_fade 4 = .ok (.invokestatic 79, 3) := by decide +kernel
theorem dX4_fade_7 : decode cX4_fade 7 = .ok (.ifCond .ne 6, 3) := by decide +kernel
theorem dX4_fade_10 : decode cX4_fade 10 = .ok (.bipush (-2), 2) := by decide +kernel
theorem dX4_fade_12 : decode cX4_fade 12 = .ok (.ireturn, 1) := by decide +kernel
theorem dX4_fade_13 : decode cX4_fade 13 = .ok (.aload_n 0, 1) := by decide +kernel
theorem dX4_fade_14 : decode cX4_fade 14 = .ok (.getfield 10, 3) := by decide +kernel
theorem dX4_fade_17 : decode cX4_fade 17 = .ok (.getfield 83, 3) := by decide +kernel
theorem dX4_fade_20 : decode cX4_fade 20 = .ok (.istore_n 2, 1) := by decide +kernel
theorem dX4_fade_21 : decode cX4_fade 21 = .ok (.aload_n 0, 1) := by decide +kernel
theorem dX4_fade_22 : decode cX4_fade 22 = .ok (.getfield 10, 3) := by decide +kernel
theorem dX4_fade_25 : decode cX4_fade 25 = .ok (.iload_n 1, 1) := by decide +kernel
theorem dX4_fade_26 : decode cX4_fade 26 = .ok (.putfield 83, 3) := by decide +kernel
theorem dX4_fade_29 : decode cX4_fade 29 = .ok (.iload_n 2, 1) := by decide +kernel
theorem dX4_fade_30 : decode cX4_fade 30 = .ok (.ireturn, 1) := by decide +kernel
set_option maxRecDepth 20000 in
theorem ggX4_say_X4_within : GoodIn wsX4_say wsX4_within := goodIn_r _ [6] (by decide +kernel) (by decide +kernel)
set_option maxRecDepth 20000 in
theorem gX4_say_X4_within : GoodIn wsX4_say (va_wsS RX4 79 yX4_within wsX4_within) := goodIn_app (goodIn_of _ (by decide +kernel)) ggX4_say_X4_within
set_option maxRecDepth 20000 in
theorem ggX4_say_X2_add : GoodIn wsX4_say wsX2_add := goodIn_r _ [11, 12, 13, 14, 5, 15, 23, 24, 25, 26, 27, 28, 29, 30] (by decide +kernel) (by decide +kernel)
set_option maxRecDepth 20000 in
theorem gX4_say_X2_add : GoodIn wsX4_say (wsV RX4 87 RX2 yX2_add wsX2_add) := goodIn_app (goodIn_of _ (by decide +kernel)) ggX4_say_X2_add
theorem dX4_say_0 : decode cX4_say 0 = .ok (.iload_n 1, 1) := by decide +kernel
theorem dX4_say_1 : decode cX4_say 1 = .ok (.bipush 33, 2) := by decide +kernel
theorem dX4_say_3 : decode cX4_say 3 = .ok (.bipush 126, 2) := by decide +kernel
theorem dX4_say_5 : decode cX4_say 5 = .ok (.invokestatic 79, 3) := by decide +kernel
theorem dX4_say_8 : decode cX4_say 8 = .ok (.ifCond .ne 6, 3) := by decide +kernel
theorem dX4_say_11 : decode cX4_say 11 = .ok (.bipush (-2), 2) := by decide +kernel
theorem dX4_say_13 : decode cX4_say 13 = .ok (.ireturn, 1) := by decide +kernel
theorem dX4_say_14 : decode cX4_say 14 = .ok (.aload_n 0, 1) := by decide +kernel
theorem dX4_say_15 : decode cX4_say 15 = .ok (.getfield 23, 3) := by decide +kernel
theorem dX4_say_18 : decode cX4_say 18 = .ok (.iload_n 1, 1) := by decide +kernel
theorem dX4_say_19 : decode cX4_say 19 = .ok (.invokevirtual 87, 3) := by decide +kernel
theorem dX4_say_22 : decode cX4_say 22 = .ok (.ifCond .eq 13, 3) := by decide +kernel
theorem dX4_say_25 : decode cX4_say 25 = .ok (.aload_n 0, 1) := by decide +kernel
theorem dX4_say_26 : decode cX4_say 26 = .ok (.getfield 23, 3) := by decide +kernel
theorem dX4_say_29 : decode cX4_say 29 = .ok (.getfield 90, 3) := by decide +kernel
theorem dX4_say_32 : decode cX4_say 32 = .ok (.goto 5, 3) := by decide +kernel
theorem dX4_say_35 : decode cX4_say 35 = .ok (.bipush (-4), 2) := by decide +kernel
theorem dX4_say_37 : decode cX4_say 37 = .ok (.ireturn, 1) := by decide +kernel
set_option maxRecDepth 20000 in
theorem ggX4_wipe_X2_clear : GoodIn wsX4_wipe wsX2_clear := goodIn_r _ [7, 8, 16, 17, 18, 19, 20, 21, 22, 23] (by decide +kernel) (by decide +kernel)
set_option maxRecDepth 20000 in
theorem gX4_wipe_X2_clear : GoodIn wsX4_wipe (wsV RX4 93 RX2 yX2_clear wsX2_clear) := goodIn_app (goodIn_of _ (by decide +kernel)) ggX4_wipe_X2_clear
theorem dX4_wipe_0 : decode cX4_wipe 0 = .ok (.aload_n 0, 1) := by decide +kernel
theorem dX4_wipe_1 : decode cX4_wipe 1 = .ok (.getfield 23, 3) := by decide +kernel
theorem dX4_wipe_4 : decode cX4_wipe 4 = .ok (.getfield 90, 3) := by decide +kernel
theorem dX4_wipe_7 : decode cX4_wipe 7 = .ok (.istore_n 1, 1) := by decide +kernel
theorem dX4_wipe_8 : decode cX4_wipe 8 = .ok (.aload_n 0, 1) := by decide +kernel
theorem dX4_wipe_9 : decode cX4_wipe 9 = .ok (.getfield 23, 3) := by decide +kernel
theorem dX4_wipe_12 : decode cX4_wipe 12 = .ok (.invokevirtual 93, 3) := by decide +kernel
theorem dX4_wipe_15 : decode cX4_wipe 15 = .ok (.iload_n 1, 1) := by decide +kernel
theorem dX4_wipe_16 : decode cX4_wipe 16 = .ok (.ireturn, 1) := by decide +kernel
set_option maxRecDepth 20000 in
theorem ggX4_fault_X2_read : GoodIn wsX4_fault wsX2_read := goodIn_r _ [6, 7, 8, 9, 10, 11, 12, 13, 14, 15, 16, 5, 17, 18, 19, 20, 21, 22, 23, 24, 25, 26, 27, 28, 29, 30, 31, 32, 33, 34, 35, 36, 37, 38, 39, 40, 41, 42, 43, 44, 45, 46, 47, 48, 49, 50, 58, 59, 60, 61, 62, 63, 64, 65] (by decide +kernel) (by decide +kernel)
set_option maxRecDepth 20000 in
theorem gX4_fault_X2_read : GoodIn wsX4_fault (wsV RX4 96 RX2 yX2_read wsX2_read) := goodIn_app (goodIn_of _ (by decide +kernel)) ggX4_fault_X2_read
theorem dX4_fault_0 : decode cX4_fault 0 = .ok (.aload_n 0, 1) := by decide +kernel
theorem dX4_fault_1 : decode cX4_fault 1 = .ok (.getfield 23, 3) := by decide +kernel
theorem dX4_fault_4 : decode cX4_fault 4 = .ok (.invokevirtual 96, 3) := by decide +kernel
theorem dX4_fault_7 : decode cX4_fault 7 = .ok (.ireturn, 1) := by decide +kernel
set_option maxRecDepth 20000 in
theorem ggX4_vain_X4_refusalOfText : GoodIn wsX4_vain wsX4_refusalOfText := goodIn_r _ [10, 4, 11, 12, 13, 14, 15, 16, 17, 18, 19, 20, 21, 9, 22, 23, 24, 25, 26, 27, 28, 29, 30, 31, 32, 33, 34, 35, 36, 37, 38, 39, 40, 41, 42, 43, 44, 45, 46, 47, 48, 49, 50, 51, 52, 53, 54, 55, 56, 57, 58, 59, 109, 110, 111, 112, 113, 114, 115, 127, 128, 129, 130, 131, 132, 133, 134] (by decide +kernel) (by decide +kernel)
set_option maxRecDepth 20000 in
theorem gX4_vain_X4_refusalOfText : GoodIn wsX4_vain (wsV RX4 100 RX4 yX4_refusalOfText wsX4_refusalOfText) := goodIn_app (goodIn_of _ (by decide +kernel)) ggX4_vain_X4_refusalOfText
set_option maxRecDepth 20000 in
theorem ggX4_vain_X0_become : GoodIn wsX4_vain wsX0_become := goodIn_r _ [64, 65, 66, 9, 67, 68, 21, 22, 135] (by decide +kernel) (by decide +kernel)
set_option maxRecDepth 20000 in
theorem gX4_vain_X0_become : GoodIn wsX4_vain (wsV RX4 103 RX0 yX0_become wsX0_become) := goodIn_app (goodIn_of _ (by decide +kernel)) ggX4_vain_X0_become
set_option maxRecDepth 20000 in
theorem ggX4_vain_X4_takesEffect : GoodIn wsX4_vain wsX4_takesEffect := goodIn_r _ [72, 4, 73, 74, 75, 76, 77, 2, 68, 21, 9, 22, 78, 79, 80, 63, 81, 65, 82, 83, 84, 85, 86, 87, 88, 89, 90, 91, 92, 93, 94, 95, 96, 97, 98, 99, 100, 101, 102, 103, 104, 32, 33, 105, 106, 107, 108, 109, 110, 111, 112, 113, 114, 115, 127, 128, 129, 130, 131, 132, 133, 134, 135, 116, 117, 118, 119, 120, 121, 122, 123, 124, 125, 126] (by decide +kernel) (by decide +kernel)
set_option maxRecDepth 20000 in
theorem gX4_vain_X4_takesEffect : GoodIn wsX4_vain (wsV RX4 110 RX4 yX4_takesEffect wsX4_takesEffect) := goodIn_app (goodIn_of _ (by decide +kernel)) ggX4_vain_X4_takesEffect
theorem dX4_vain_0 : decode cX4_vain 0 = .ok (.aload_n 0, 1) := by decide +kernel
theorem dX4_vain_1 : decode cX4_vain 1 = .ok (.invokevirtual 100, 3) := by decide +kernel
theorem dX4_vain_4 : decode cX4_vain 4 = .ok (.istore_n 2, 1) := by decide +kernel
theorem dX4_vain_5 : decode cX4_vain 5 = .ok (.iload_n 2, 1) := by decide +kernel
theorem dX4_vain_6 : decode cX4_vain 6 = .ok (.ifCond .eq 5, 3) := by decide +kernel
theorem dX4_vain_9 : decode cX4_vain 9 = .ok (.iload_n 2, 1) := by decide +kernel
theorem dX4_vain_10 : decode cX4_vain 10 = .ok (.ireturn, 1) := by decide +kernel
theorem dX4_vain_11 : decode cX4_vain 11 = .ok (.aload_n 0, 1) := by decide +kernel
theorem dX4_vain_12 : decode cX4_vain 12 = .ok (.getfield 37, 3) := by decide +kernel
theorem dX4_vain_15 : decode cX4_vain 15 = .ok (.aload_n 0, 1) := by decide +kernel
theorem dX4_vain_16 : decode cX4_vain 16 = .ok (.getfield 10, 3) := by decide +kernel
theorem dX4_vain_19 : decode cX4_vain 19 = .ok (.getfield 72, 3) := by decide +kernel
theorem dX4_vain_22 : decode cX4_vain 22 = .ok (.invokevirtual 103, 3) := by decide +kernel
theorem dX4_vain_25 : decode cX4_vain 25 = .ok (.iconst 0, 1) := by decide +kernel
theorem dX4_vain_26 : decode cX4_vain 26 = .ok (.istore_n 3, 1) := by decide +kernel
theorem dX4_vain_27 : decode cX4_vain 27 = .ok (.bipush (-6), 2) := by decide +kernel
theorem dX4_vain_29 : decode cX4_vain 29 = .ok (.istore 4, 2) := by decide +kernel
theorem dX4_vain_31 : decode cX4_vain 31 = .ok (.iconst 0, 1) := by decide +kernel
theorem dX4_vain_32 : decode cX4_vain 32 = .ok (.istore 5, 2) := by decide +kernel
theorem dX4_vain_34 : decode cX4_vain 34 = .ok (.iload 5, 2) := by decide +kernel
theorem dX4_vain_36 : decode cX4_vain 36 = .ok (.aload_n 0, 1) := by decide +kernel
theorem dX4_vain_37 : decode cX4_vain 37 = .ok (.getfield 23, 3) := by decide +kernel
theorem dX4_vain_40 : decode cX4_vain 40 = .ok (.getfield 107, 3) := by decide +kernel
theorem dX4_vain_43 : decode cX4_vain 43 = .ok (.if_icmp .ge 39, 3) := by decide +kernel
theorem dX4_vain_46 : decode cX4_vain 46 = .ok (.aload_n 0, 1) := by decide +kernel
theorem dX4_vain_47 : decode cX4_vain 47 = .ok (.iload 5, 2) := by decide +kernel
theorem dX4_vain_49 : decode cX4_vain 49 = .ok (.aload_n 0, 1) := by decide +kernel
theorem dX4_vain_50 : decode cX4_vain 50 = .ok (.getfield 37, 3) := by decide +kernel
theorem dX4_vain_53 : decode cX4_vain 53 = .ok (.invokevirtual 110, 3) := by decide +kernel
theorem dX4_vain_56 : decode cX4_vain 56 = .ok (.ifCond .ne 20, 3) := by decide +kernel
theorem dX4_vain_59 : decode cX4_vain 59 = .ok (.iload_n 3, 1) := by decide +kernel
theorem dX4_vain_60 : decode cX4_vain 60 = .ok (.iload_n 1, 1) := by decide +kernel
theorem dX4_vain_61 : decode cX4_vain 61 = .ok (.if_icmp .ne 8, 3) := by decide +kernel
theorem dX4_vain_64 : decode cX4_vain 64 = .ok (.iload 5, 2) := by decide +kernel
theorem dX4_vain_66 : decode cX4_vain 66 = .ok (.goto 5, 3) := by decide +kernel
theorem dX4_vain_69 : decode cX4_vain 69 = .ok (.iload 4, 2) := by decide +kernel
theorem dX4_vain_71 : decode cX4_vain 71 = .ok (.istore 4, 2) := by decide +kernel
theorem dX4_vain_73 : decode cX4_vain 73 = .ok (.iinc 3 1, 3) := by decide +kernel
theorem dX4_vain_76 : decode cX4_vain 76 = .ok (.iinc 5 1, 3) := by decide +kernel
theorem dX4_vain_79 : decode cX4_vain 79 = .ok (.goto (-45), 3) := by decide +kernel
theorem dX4_vain_82 : decode cX4_vain 82 = .ok (.iload_n 1, 1) := by decide +kernel
theorem dX4_vain_83 : decode cX4_vain 83 = .ok (.iconst (-1), 1) := by decide +kernel
theorem dX4_vain_84 : decode cX4_vain 84 = .ok (.if_icmp .ne 7, 3) := by decide +kernel
theorem dX4_vain_87 : decode cX4_vain 87 = .ok (.iload_n 3, 1) := by decide +kernel
theorem dX4_vain_88 : decode cX4_vain 88 = .ok (.goto 5, 3) := by decide +kernel
theorem dX4_vain_91 : decode cX4_vain 91 = .ok (.iload 4, 2) := by decide +kernel
theorem dX4_vain_93 : decode cX4_vain 93 = .ok (.ireturn, 1) := by decide +kernel
set_option maxRecDepth 20000 in
theorem ggX4_done_X4_refusalOfText : GoodIn wsX4_done wsX4_refusalOfText := goodIn_r _ [9, 3, 10, 11, 12, 13, 14, 15, 16, 17, 18, 19, 20, 8, 21, 22, 23, 24, 25, 26, 27, 28, 29, 30, 31, 32, 33, 34, 35, 36, 37, 38, 39, 40, 41, 42, 43, 44, 45, 46, 47, 48, 49, 50, 51, 52, 53, 54, 55, 56, 57, 58, 110, 111, 112, 113, 114, 115, 116, 128, 129, 130, 131, 132, 133, 134, 135] (by decide +kernel) (by decide +kernel)
set_option maxRecDepth 20000 in
theorem gX4_done_X4_refusalOfText : GoodIn wsX4_done (wsV RX4 100 RX4 yX4_refusalOfText wsX4_refusalOfText) := goodIn_app (goodIn_of _ (by decide +kernel)) ggX4_done_X4_refusalOfText
set_option maxRecDepth 20000 in
theorem ggX4_done_X4_play : GoodIn wsX4_done wsX4_play := goodIn_r _ [62, 3, 4, 63, 64, 65, 8, 66, 67, 68, 69, 70, 71, 1, 72, 20, 21, 73, 74, 75, 76, 77, 78, 79, 80, 81, 82, 83, 84, 85, 86, 87, 88, 89, 90, 91, 92, 93, 94, 95, 96, 97, 98, 99, 100, 101, 31, 32, 102, 103, 104, 105, 110, 111, 112, 113, 114, 115, 116, 128, 129, 130, 131, 132, 133, 134, 135, 136, 117, 118, 119, 120, 121, 122, 123, 124, 125, 126, 127] (by decide +kernel) (by decide +kernel)
set_option maxRecDepth 20000 in
theorem gX4_done_X4_play : GoodIn wsX4_done (wsV RX4 114 RX4 yX4_play wsX4_play) := goodIn_app (goodIn_of _ (by decide +kernel)) ggX4_done_X4_play
set_option maxRecDepth 20000 in
theorem ggX4_done_X2_clear : GoodIn wsX4_done wsX2_clear := goodIn_r _ [109, 18, 128, 129, 130, 131, 132, 133, 134, 135] (by decide +kernel) (by decide +kernel)
set_option maxRecDepth 20000 in
theorem gX4_done_X2_clear : GoodIn wsX4_done (wsV RX4 93 RX2 yX2_clear wsX2_clear) := goodIn_app (goodIn_of _ (by decide +kernel)) ggX4_done_X2_clear
theorem dX4_done_0 : decode cX4_done 0 = .ok (.aload_n 0, 1) := by decide +kernel
theorem dX4_done_1 : decode cX4_done 1 = .ok (.invokevirtual 100, 3) := by decide +kernel
theorem dX4_done_4 : decode cX4_done 4 = .ok (.istore_n 1, 1) := by decide +kernel
theorem dX4_done_5 : decode cX4_done 5 = .ok (.iload_n 1, 1) := by decide +kernel
theorem dX4_done_6 : decode cX4_done 6 = .ok (.ifCond .eq 5, 3) := by decide +kernel
theorem dX4_done_9 : decode cX4_done 9 = .ok (.iload_n 1, 1) := by decide +kernel
theorem dX4_done_10 : decode cX4_done 10 = .ok (.ireturn, 1) := by decide +kernel
theorem dX4_done_11 : decode cX4_done 11 = .ok (.aload_n 0, 1) := by decide +kernel
theorem dX4_done_12 : decode cX4_done 12 = .ok (.aload_n 0, 1) := by decide +kernel
theorem dX4_done_13 : decode cX4_done 13 = .ok (.getfield 10, 3) := by decide +kernel
theorem dX4_done_16 : decode cX4_done 16 = .ok (.getfield 72, 3) := by decide +kernel
theorem dX4_done_19 : decode cX4_done 19 = .ok (.invokevirtual 114, 3) := by decide +kernel
theorem dX4_done_22 : decode cX4_done 22 = .ok (.aload_n 0, 1) := by decide +kernel
theorem dX4_done_23 : decode cX4_done 23 = .ok (.getfield 23, 3) := by decide +kernel
theorem dX4_done_26 : decode cX4_done 26 = .ok (.getfield 107, 3) := by decide +kernel
theorem dX4_done_29 : decode cX4_done 29 = .ok (.istore_n 2, 1) := by decide +kernel
theorem dX4_done_30 : decode cX4_done 30 = .ok (.aload_n 0, 1) := by decide +kernel
theorem dX4_done_31 : decode cX4_done 31 = .ok (.getfield 23, 3) := by decide +kernel
theorem dX4_done_34 : decode cX4_done 34 = .ok (.invokevirtual 93, 3) := by decide +kernel
theorem dX4_done_37 : decode cX4_done 37 = .ok (.iload_n 2, 1) := by decide +kernel
theorem dX4_done_38 : decode cX4_done 38 = .ok (.ireturn, 1) := by decide +kernel
set_option maxRecDepth 20000 in
theorem ggX4_bears_X4_isPlank : GoodIn wsX4_bears wsX4_isPlank := goodIn_r _ [6, 7, 8, 5, 9] (by decide +kernel) (by decide +kernel)
set_option maxRecDepth 20000 in
theorem gX4_bears_X4_isPlank : GoodIn wsX4_bears (va_wsS RX4 48 yX4_isPlank wsX4_isPlank) := goodIn_app (goodIn_of _ (by decide +kernel)) ggX4_bears_X4_isPlank
set_option maxRecDepth 20000 in
theorem ggX4_bears_X4_isPersonOrAll : GoodIn wsX4_bears wsX4_isPersonOrAll := goodIn_r _ [12, 13, 14, 5, 15, 7, 8, 9] (by decide +kernel) (by decide +kernel)
set_option maxRecDepth 20000 in
theorem gX4_bears_X4_isPersonOrAll : GoodIn wsX4_bears (va_wsS RX4 117 yX4_isPersonOrAll wsX4_isPersonOrAll) := goodIn_app (goodIn_of _ (by decide +kernel)) ggX4_bears_X4_isPersonOrAll
set_option maxRecDepth 20000 in
theorem ggX4_bears_X4_beliefOrLoad : GoodIn wsX4_bears wsX4_beliefOrLoad := goodIn_r _ [18, 19, 20, 21, 22, 23, 24, 25, 26, 27, 28, 29, 48] (by decide +kernel) (by decide +kernel)
set_option maxRecDepth 20000 in
theorem gX4_bears_X4_beliefOrLoad : GoodIn wsX4_bears (va_wsS RX4 120 yX4_beliefOrLoad wsX4_beliefOrLoad) := goodIn_app (goodIn_of _ (by decide +kernel)) ggX4_bears_X4_beliefOrLoad
theorem dX4_bears_0 : decode cX4_bears 0 = .ok (.iload_n 1, 1) := by decide +kernel
theorem dX4_bears_1 : decode cX4_bears 1 = .ok (.invokestatic 48, 3) := by decide +kernel
theorem dX4_bears_4 : decode cX4_bears 4 = .ok (.ifCond .eq 10, 3) := by decide +kernel
theorem dX4_bears_7 : decode cX4_bears 7 = .ok (.iload_n 2, 1) := by decide +kernel
theorem dX4_bears_8 : decode cX4_bears 8 = .ok (.invokestatic 117, 3) := by decide +kernel
theorem dX4_bears_11 : decode cX4_bears 11 = .ok (.ifCond .ne 5, 3) := by decide +kernel
theorem dX4_bears_14 : decode cX4_bears 14 = .ok (.iconst (-1), 1) := by decide +kernel
theorem dX4_bears_15 : decode cX4_bears 15 = .ok (.ireturn, 1) := by decide +kernel
theorem dX4_bears_16 : decode cX4_bears 16 = .ok (.aload_n 0, 1) := by decide +kernel
theorem dX4_bears_17 : decode cX4_bears 17 = .ok (.getfield 10, 3) := by decide +kernel
theorem dX4_bears_20 : decode cX4_bears 20 = .ok (.getfield 72, 3) := by decide +kernel
theorem dX4_bears_23 : decode cX4_bears 23 = .ok (.iload_n 1, 1) := by decide +kernel
theorem dX4_bears_24 : decode cX4_bears 24 = .ok (.iload_n 2, 1) := by decide +kernel
theorem dX4_bears_25 : decode cX4_bears 25 = .ok (.invokestatic 120, 3) := by decide +kernel
theorem dX4_bears_28 : decode cX4_bears 28 = .ok (.ireturn, 1) := by decide +kernel
set_option maxRecDepth 20000 in
theorem ggX4_behind_X4_isPlank : GoodIn wsX4_behind wsX4_isPlank := goodIn_r _ [7, 8, 9, 6, 10] (by decide +kernel) (by decide +kernel)
set_option maxRecDepth 20000 in
theorem gX4_behind_X4_isPlank : GoodIn wsX4_behind (va_wsS RX4 48 yX4_isPlank wsX4_isPlank) := goodIn_app (goodIn_of _ (by decide +kernel)) ggX4_behind_X4_isPlank
set_option maxRecDepth 20000 in
theorem ggX4_behind_X4_isPersonOrAll : GoodIn wsX4_behind wsX4_isPersonOrAll := goodIn_r _ [13, 14, 15, 6, 16, 8, 9, 10] (by decide +kernel) (by decide +kernel)
set_option maxRecDepth 20000 in
theorem gX4_behind_X4_isPersonOrAll : GoodIn wsX4_behind (va_wsS RX4 117 yX4_isPersonOrAll wsX4_isPersonOrAll) := goodIn_app (goodIn_of _ (by decide +kernel)) ggX4_behind_X4_isPersonOrAll
set_option maxRecDepth 20000 in
theorem ggX4_behind_X4_refusalOfText : GoodIn wsX4_behind wsX4_refusalOfText := goodIn_r _ [20, 21, 22, 23, 24, 25, 26, 27, 28, 29, 30, 31, 32, 6, 33, 34, 35, 36, 37, 38, 39, 40, 41, 42, 43, 44, 45, 46, 47, 48, 49, 15, 16, 8, 9, 10, 50, 51, 52, 53, 54, 55, 56, 57, 58, 59, 60, 61, 62, 63, 5, 7, 127, 128, 129, 130, 131, 132, 133, 145, 146, 147, 148, 149, 150, 151, 152] (by decide +kernel) (by decide +kernel)
set_option maxRecDepth 20000 in
theorem gX4_behind_X4_refusalOfText : GoodIn wsX4_behind (wsV RX4 100 RX4 yX4_refusalOfText wsX4_refusalOfText) := goodIn_app (goodIn_of _ (by decide +kernel)) ggX4_behind_X4_refusalOfText
set_option maxRecDepth 20000 in
theorem ggX4_behind_X0_become : GoodIn wsX4_behind wsX0_become := goodIn_r _ [68, 69, 70, 6, 71, 72, 32, 33, 153] (by decide +kernel) (by decide +kernel)
set_option maxRecDepth 20000 in
theorem gX4_behind_X0_become : GoodIn wsX4_behind (wsV RX4 103 RX0 yX0_become wsX0_become) := goodIn_app (goodIn_of _ (by decide +kernel)) ggX4_behind_X0_become
set_option maxRecDepth 20000 in
theorem ggX4_behind_X4_play : GoodIn wsX4_behind wsX4_play := goodIn_r _ [76, 21, 77, 78, 79, 80, 6, 81, 82, 83, 84, 85, 86, 2, 72, 32, 33, 87, 88, 89, 67, 90, 69, 91, 92, 93, 94, 95, 96, 97, 98, 99, 100, 101, 102, 103, 104, 105, 106, 107, 108, 109, 110, 111, 112, 113, 43, 44, 114, 115, 116, 117, 127, 128, 129, 130, 131, 132, 133, 145, 146, 147, 148, 149, 150, 151, 152, 153, 134, 135, 136, 137, 138, 139, 140, 141, 142, 143, 144] (by decide +kernel) (by decide +kernel)
set_option maxRecDepth 20000 in
theorem gX4_behind_X4_play : GoodIn wsX4_behind (wsV RX4 114 RX4 yX4_play wsX4_play) := goodIn_app (goodIn_of _ (by decide +kernel)) ggX4_behind_X4_play
set_option maxRecDepth 20000 in
theorem ggX4_behind_X4_beliefOrLoad : GoodIn wsX4_behind wsX4_beliefOrLoad := goodIn_r _ [120, 121, 122, 123, 67, 124, 125, 105, 106, 107, 69, 126, 153] (by decide +kernel) (by decide +kernel)
set_option maxRecDepth 20000 in
theorem gX4_behind_X4_beliefOrLoad : GoodIn wsX4_behind (va_wsS RX4 120 yX4_beliefOrLoad wsX4_beliefOrLoad) := goodIn_app (goodIn_of _ (by decide +kernel)) ggX4_behind_X4_beliefOrLoad
theorem dX4_behind_0 : decode cX4_behind 0 = .ok (.iload_n 1, 1) := by decide +kernel
theorem dX4_behind_1 : decode cX4_behind 1 = .ok (.invokestatic 48, 3) := by decide +kernel
theorem dX4_behind_4 : decode cX4_behind 4 = .ok (.ifCond .eq 10, 3) := by decide +kernel
theorem dX4_behind_7 : decode cX4_behind 7 = .ok (.iload_n 2, 1) := by decide +kernel
theorem dX4_behind_8 : decode cX4_behind 8 = .ok (.invokestatic 117, 3) := by decide +kernel
theorem dX4_behind_11 : decode cX4_behind 11 = .ok (.ifCond .ne 5, 3) := by decide +kernel
theorem dX4_behind_14 : decode cX4_behind 14 = .ok (.iconst (-1), 1) := by decide +kernel
theorem dX4_behind_15 : decode cX4_behind 15 = .ok (.ireturn, 1) := by decide +kernel
theorem dX4_behind_16 : decode cX4_behind 16 = .ok (.aload_n 0, 1) := by decide +kernel
theorem dX4_behind_17 : decode cX4_behind 17 = .ok (.invokevirtual 100, 3) := by decide +kernel
theorem dX4_behind_20 : decode cX4_behind 20 = .ok (.istore_n 3, 1) := by decide +kernel
theorem dX4_behind_21 : decode cX4_behind 21 = .ok (.iload_n 3, 1) := by decide +kernel
theorem dX4_behind_22 : decode cX4_behind 22 = .ok (.ifCond .eq 5, 3) := by decide +kernel
theorem dX4_behind_25 : decode cX4_behind 25 = .ok (.iload_n 3, 1) := by decide +kernel
theorem dX4_behind_26 : decode cX4_behind 26 = .ok (.ireturn, 1) := by decide +kernel
theorem dX4_behind_27 : decode cX4_behind 27 = .ok (.aload_n 0, 1) := by decide +kernel
theorem dX4_behind_28 : decode cX4_behind 28 = .ok (.getfield 37, 3) := by decide +kernel
theorem dX4_behind_31 : decode cX4_behind 31 = .ok (.aload_n 0, 1) := by decide +kernel
theorem dX4_behind_32 : decode cX4_behind 32 = .ok (.getfield 10, 3) := by decide +kernel
theorem dX4_behind_35 : decode cX4_behind 35 = .ok (.getfield 72, 3) := by decide +kernel
theorem dX4_behind_38 : decode cX4_behind 38 = .ok (.invokevirtual 103, 3) := by decide +kernel
theorem dX4_behind_41 : decode cX4_behind 41 = .ok (.aload_n 0, 1) := by decide +kernel
theorem dX4_behind_42 : decode cX4_behind 42 = .ok (.aload_n 0, 1) := by decide +kernel
theorem dX4_behind_43 : decode cX4_behind 43 = .ok (.getfield 37, 3) := by decide +kernel
theorem dX4_behind_46 : decode cX4_behind 46 = .ok (.invokevirtual 114, 3) := by decide +kernel
theorem dX4_behind_49 : decode cX4_behind 49 = .ok (.aload_n 0, 1) := by decide +kernel
theorem dX4_behind_50 : decode cX4_behind 50 = .ok (.getfield 37, 3) := by decide +kernel
theorem dX4_behind_53 : decode cX4_behind 53 = .ok (.iload_n 1, 1) := by decide +kernel
theorem dX4_behind_54 : decode cX4_behind 54 = .ok (.iload_n 2, 1) := by decide +kernel
theorem dX4_behind_55 : decode cX4_behind 55 = .ok (.invokestatic 120, 3) := by decide +kernel
theorem dX4_behind_58 : decode cX4_behind 58 = .ok (.ireturn, 1) := by decide +kernel
set_option maxRecDepth 20000 in
theorem ggX4_falls_X4_isIsland : GoodIn wsX4_falls wsX4_isIsland := goodIn_r _ [7, 8, 9, 6, 10] (by decide +kernel) (by decide +kernel)
set_option maxRecDepth 20000 in
theorem gX4_falls_X4_isIsland : GoodIn wsX4_falls (va_wsS RX4 52 yX4_isIsland wsX4_isIsland) := goodIn_app (goodIn_of _ (by decide +kernel)) ggX4_falls_X4_isIsland
set_option maxRecDepth 20000 in
theorem ggX4_falls_X4_isParty : GoodIn wsX4_falls wsX4_isParty := goodIn_r _ [13, 8, 9, 6, 10] (by decide +kernel) (by decide +kernel)
set_option maxRecDepth 20000 in
theorem gX4_falls_X4_isParty : GoodIn wsX4_falls (va_wsS RX4 124 yX4_isParty wsX4_isParty) := goodIn_app (goodIn_of _ (by decide +kernel)) ggX4_falls_X4_isParty
set_option maxRecDepth 20000 in
theorem ggX4_falls_X4_isChoice : GoodIn wsX4_falls wsX4_isChoice := goodIn_r _ [16] (by decide +kernel) (by decide +kernel)
set_option maxRecDepth 20000 in
theorem gX4_falls_X4_isChoice : GoodIn wsX4_falls (va_wsS RX4 127 yX4_isChoice wsX4_isChoice) := goodIn_app (goodIn_of _ (by decide +kernel)) ggX4_falls_X4_isChoice
set_option maxRecDepth 20000 in
theorem ggX4_falls_X4_within : GoodIn wsX4_falls wsX4_within := goodIn_r _ [10] (by decide +kernel) (by decide +kernel)
set_option maxRecDepth 20000 in
theorem gX4_falls_X4_within : GoodIn wsX4_falls (va_wsS RX4 79 yX4_within wsX4_within) := goodIn_app (goodIn_of _ (by decide +kernel)) ggX4_falls_X4_within
set_option maxRecDepth 20000 in
theorem ggX4_falls_X4_splitRoute : GoodIn wsX4_falls wsX4_splitRoute := goodIn_r _ [20, 1, 21, 22, 6, 23, 44, 45, 46, 47, 48, 49, 50] (by decide +kernel) (by decide +kernel)
set_option maxRecDepth 20000 in
theorem gX4_falls_X4_splitRoute : GoodIn wsX4_falls (wsV RX4 130 RX4 yX4_splitRoute wsX4_splitRoute) := goodIn_app (goodIn_of _ (by decide +kernel)) ggX4_falls_X4_splitRoute
set_option maxRecDepth 20000 in
theorem ggX4_falls_X4_at : GoodIn wsX4_falls wsX4_at := goodIn_r _ [26] (by decide +kernel) (by decide +kernel)
set_option maxRecDepth 20000 in
theorem gX4_falls_X4_at : GoodIn wsX4_falls (va_wsS RX4 134 yX4_at wsX4_at) := goodIn_app (goodIn_of _ (by decide +kernel)) ggX4_falls_X4_at
set_option maxRecDepth 20000 in
theorem ggX4_falls_X1_across : GoodIn wsX4_falls wsX1_across := goodIn_r _ [31, 32, 33, 9, 6, 10, 25, 26, 51, 52, 53, 54, 55, 56, 57, 58, 59, 60, 61] (by decide +kernel) (by decide +kernel)
set_option maxRecDepth 20000 in
theorem gX4_falls_X1_across : GoodIn wsX4_falls (wsV RX4 138 RX1 yX1_across wsX1_across) := goodIn_app (goodIn_of _ (by decide +kernel)) ggX4_falls_X1_across
set_option maxRecDepth 20000 in
theorem ggX4_falls_X0_load : GoodIn wsX4_falls wsX0_load := goodIn_r _ [38, 39, 40, 41, 37, 42, 43, 62] (by decide +kernel) (by decide +kernel)
set_option maxRecDepth 20000 in
theorem gX4_falls_X0_load : GoodIn wsX4_falls (wsV RX4 142 RX0 yX0_load wsX0_load) := goodIn_app (goodIn_of _ (by decide +kernel)) ggX4_falls_X0_load
theorem dX4_falls_0 : decode cX4_falls 0 = .ok (.iload_n 1, 1) := by decide +kernel
theorem dX4_falls_1 : decode cX4_falls 1 = .ok (.invokestatic 52, 3) := by decide +kernel
theorem dX4_falls_4 : decode cX4_falls 4 = .ok (.ifCond .ne 5, 3) := by decide +kernel
theorem dX4_falls_7 : decode cX4_falls 7 = .ok (.iconst (-1), 1) := by decide +kernel
theorem dX4_falls_8 : decode cX4_falls 8 = .ok (.ireturn, 1) := by decide +kernel
theorem dX4_falls_9 : decode cX4_falls 9 = .ok (.iload 4, 2) := by decide +kernel
theorem dX4_falls_11 : decode cX4_falls 11 = .ok (.invokestatic 124, 3) := by decide +kernel
theorem dX4_falls_14 : decode cX4_falls 14 = .ok (.ifCond .eq 30, 3) := by decide +kernel
theorem dX4_falls_17 : decode cX4_falls 17 = .ok (.iload 5, 2) := by decide +kernel
theorem dX4_falls_19 : decode cX4_falls 19 = .ok (.invokestatic 127, 3) := by decide +kernel
theorem dX4_falls_22 : decode cX4_falls 22 = .ok (.ifCond .eq 22, 3) := by decide +kernel
theorem dX4_falls_25 : decode cX4_falls 25 = .ok (.iload_n 3, 1) := by decide +kernel
theorem dX4_falls_26 : decode cX4_falls 26 = .ok (.iconst 0, 1) := by decide +kernel
theorem dX4_falls_27 : decode cX4_falls 27 = .ok (.bipush 6, 2) := by decide +kernel
theorem dX4_falls_29 : decode cX4_falls 29 = .ok (.invokestatic 79, 3) := by decide +kernel
theorem dX4_falls_32 : decode cX4_falls 32 = .ok (.ifCond .eq 12, 3) := by decide +kernel
theorem dX4_falls_35 : decode cX4_falls 35 = .ok (.aload_n 0, 1) := by decide +kernel
theorem dX4_falls_36 : decode cX4_falls 36 = .ok (.iload_n 2, 1) := by decide +kernel
theorem dX4_falls_37 : decode cX4_falls 37 = .ok (.iload_n 3, 1) := by decide +kernel
theorem dX4_falls_38 : decode cX4_falls 38 = .ok (.invokevirtual 130, 3) := by decide +kernel
theorem dX4_falls_41 : decode cX4_falls 41 = .ok (.ifCond .ne 6, 3) := by decide +kernel
theorem dX4_falls_44 : decode cX4_falls 44 = .ok (.bipush (-2), 2) := by decide +kernel
theorem dX4_falls_46 : decode cX4_falls 46 = .ok (.ireturn, 1) := by decide +kernel
theorem dX4_falls_47 : decode cX4_falls 47 = .ok (.iload_n 1, 1) := by decide +kernel
theorem dX4_falls_48 : decode cX4_falls 48 = .ok (.istore 6, 2) := by decide +kernel
theorem dX4_falls_50 : decode cX4_falls 50 = .ok (.bipush (-6), 2) := by decide +kernel
theorem dX4_falls_52 : decode cX4_falls 52 = .ok (.istore 7, 2) := by decide +kernel
theorem dX4_falls_54 : decode cX4_falls 54 = .ok (.iload_n 1, 1) := by decide +kernel
theorem dX4_falls_55 : decode cX4_falls 55 = .ok (.istore 8, 2) := by decide +kernel
theorem dX4_falls_57 : decode cX4_falls 57 = .ok (.iconst 0, 1) := by decide +kernel
theorem dX4_falls_58 : decode cX4_falls 58 = .ok (.istore 9, 2) := by decide +kernel
theorem dX4_falls_60 : decode cX4_falls 60 = .ok (.iload 9, 2) := by decide +kernel
theorem dX4_falls_62 : decode cX4_falls 62 = .ok (.iload_n 3, 1) := by decide +kernel
theorem dX4_falls_63 : decode cX4_falls 63 = .ok (.if_icmp .ge 91, 3) := by decide +kernel
theorem dX4_falls_66 : decode cX4_falls 66 = .ok (.aload_n 0, 1) := by decide +kernel
theorem dX4_falls_67 : decode cX4_falls 67 = .ok (.getfield 45, 3) := by decide +kernel
theorem dX4_falls_70 : decode cX4_falls 70 = .ok (.iload 9, 2) := by decide +kernel
theorem dX4_falls_72 : decode cX4_falls 72 = .ok (.invokestatic 134, 3) := by decide +kernel
theorem dX4_falls_75 : decode cX4_falls 75 = .ok (.istore 10, 2) := by decide +kernel
theorem dX4_falls_77 : decode cX4_falls 77 = .ok (.aload_n 0, 1) := by decide +kernel
theorem dX4_falls_78 : decode cX4_falls 78 = .ok (.getfield 10, 3) := by decide +kernel
theorem dX4_falls_81 : decode cX4_falls 81 = .ok (.iload 10, 2) := by decide +kernel
theorem dX4_falls_83 : decode cX4_falls 83 = .ok (.iload 6, 2) := by decide +kernel
theorem dX4_falls_85 : decode cX4_falls 85 = .ok (.invokevirtual 138, 3) := by decide +kernel
theorem dX4_falls_88 : decode cX4_falls 88 = .ok (.istore 11, 2) := by decide +kernel
theorem dX4_falls_90 : decode cX4_falls 90 = .ok (.iload 11, 2) := by decide +kernel
theorem dX4_falls_92 : decode cX4_falls 92 = .ok (.iconst (-1), 1) := by decide +kernel
theorem dX4_falls_93 : decode cX4_falls 93 = .ok (.if_icmp .ne 6, 3) := by decide +kernel
theorem dX4_falls_96 : decode cX4_falls 96 = .ok (.bipush (-5), 2) := by decide +kernel
theorem dX4_falls_98 : decode cX4_falls 98 = .ok (.ireturn, 1) := by decide +kernel
theorem dX4_falls_99 : decode cX4_falls 99 = .ok (.iload 7, 2) := by decide +kernel
theorem dX4_falls_101 : decode cX4_falls 101 = .ok (.bipush (-6), 2) := by decide +kernel
theorem dX4_falls_103 : decode cX4_falls 103 = .ok (.if_icmp .ne 25, 3) := by decide +kernel
theorem dX4_falls_106 : decode cX4_falls 106 = .ok (.aload_n 0, 1) := by decide +kernel
theorem dX4_falls_107 : decode cX4_falls 107 = .ok (.getfield 10, 3) := by decide +kernel
theorem dX4_falls_110 : decode cX4_falls 110 = .ok (.getfield 72, 3) := by decide +kernel
theorem dX4_falls_113 : decode cX4_falls 113 = .ok (.iload 10, 2) := by decide +kernel
theorem dX4_falls_115 : decode cX4_falls 115 = .ok (.iconst 0, 1) := by decide +kernel
theorem dX4_falls_116 : decode cX4_falls 116 = .ok (.invokevirtual 142, 3) := by decide +kernel
theorem dX4_falls_119 : decode cX4_falls 119 = .ok (.iload 4, 2) := by decide +kernel
theorem dX4_falls_121 : decode cX4_falls 121 = .ok (.if_icmp .ge 7, 3) := by decide +kernel
theorem dX4_falls_124 : decode cX4_falls 124 = .ok (.iload 9, 2) := by decide +kernel
theorem dX4_falls_126 : decode cX4_falls 126 = .ok (.istore 7, 2) := by decide +kernel
theorem dX4_falls_128 : decode cX4_falls 128 = .ok (.iload 7, 2) := by decide +kernel
theorem dX4_falls_130 : decode cX4_falls 130 = .ok (.bipush (-6), 2) := by decide +kernel
theorem dX4_falls_132 : decode cX4_falls 132 = .ok (.if_icmp .ne 8, 3) := by decide +kernel
theorem dX4_falls_135 : decode cX4_falls 135 = .ok (.iload 11, 2) := by decide +kernel
theorem dX4_falls_137 : decode cX4_falls 137 = .ok (.goto 5, 3) := by decide +kernel
theorem dX4_falls_140 : decode cX4_falls 140 = .ok (.iload 8, 2) := by decide +kernel
theorem dX4_falls_142 : decode cX4_falls 142 = .ok (.istore 8, 2) := by decide +kernel
theorem dX4_falls_144 : decode cX4_falls 144 = .ok (.iload 11, 2) := by decide +kernel
theorem dX4_falls_146 : decode cX4_falls 146 = .ok (.istore 6, 2) := by decide +kernel
theorem dX4_falls_148 : decode cX4_falls 148 = .ok (.iinc 9 1, 3) := by decide +kernel
theorem dX4_falls_151 : decode cX4_falls 151 = .ok (.goto (-91), 3) := by decide +kernel
theorem dX4_falls_154 : decode cX4_falls 154 = .ok (.iload 5, 2) := by decide +kernel
theorem dX4_falls_156 : decode cX4_falls 156 = .ok (.ifCond .ne 8, 3) := by decide +kernel
theorem dX4_falls_159 : decode cX4_falls 159 = .ok (.iload 7, 2) := by decide +kernel
theorem dX4_falls_161 : decode cX4_falls 161 = .ok (.goto 5, 3) := by decide +kernel
theorem dX4_falls_164 : decode cX4_falls 164 = .ok (.iload 8, 2) := by decide +kernel
theorem dX4_falls_166 : decode cX4_falls 166 = .ok (.ireturn, 1) := by decide +kernel
set_option maxRecDepth 20000 in
theorem ggX4_tellings_X4_isIsland : GoodIn wsX4_tellings wsX4_isIsland := goodIn_r _ [7, 8, 9, 6, 10] (by decide +kernel) (by decide +kernel)
set_option maxRecDepth 20000 in
theorem gX4_tellings_X4_isIsland : GoodIn wsX4_tellings (va_wsS RX4 52 yX4_isIsland wsX4_isIsland) := goodIn_app (goodIn_of _ (by decide +kernel)) ggX4_tellings_X4_isIsland
set_option maxRecDepth 20000 in
theorem ggX4_tellings_X4_isParty : GoodIn wsX4_tellings wsX4_isParty := goodIn_r _ [13, 8, 9, 6, 10] (by decide +kernel) (by decide +kernel)
set_option maxRecDepth 20000 in
theorem gX4_tellings_X4_isParty : GoodIn wsX4_tellings (va_wsS RX4 124 yX4_isParty wsX4_isParty) := goodIn_app (goodIn_of _ (by decide +kernel)) ggX4_tellings_X4_isParty
set_option maxRecDepth 20000 in
theorem ggX4_tellings_X4_tellingsFor : GoodIn wsX4_tellings wsX4_tellingsFor := goodIn_r _ [17, 18, 2, 19, 20, 21, 22, 23, 24, 25, 26, 6, 27, 28, 29, 30, 31, 32, 33, 34, 35, 36, 37, 38, 39, 40, 41, 42, 43, 44, 45, 46, 47, 48, 49, 50, 51, 52, 53, 54, 55, 56, 57, 58, 59, 60, 61, 62, 63, 64, 65, 66, 67, 68, 69, 118, 119, 120, 121, 122, 123, 124, 132, 133, 134, 135, 136, 137, 138, 139, 140, 141, 142, 143] (by decide +kernel) (by decide +kernel)
set_option maxRecDepth 20000 in
theorem gX4_tellings_X4_tellingsFor : GoodIn wsX4_tellings (wsV RX4 145 RX4 yX4_tellingsFor wsX4_tellingsFor) := goodIn_app (goodIn_of _ (by decide +kernel)) ggX4_tellings_X4_tellingsFor
set_option maxRecDepth 20000 in
theorem ggX4_tellings_X3_weigh : GoodIn wsX4_tellings wsX3_weigh := goodIn_r _ [74, 75, 68, 6, 69, 125, 126, 127, 128, 129, 130, 131] (by decide +kernel) (by decide +kernel)
set_option maxRecDepth 20000 in
theorem gX4_tellings_X3_weigh : GoodIn wsX4_tellings (wsV RX4 148 RX3 yX3_weigh wsX3_weigh) := goodIn_app (goodIn_of _ (by decide +kernel)) ggX4_tellings_X3_weigh
set_option maxRecDepth 20000 in
theorem ggX4_tellings_X3_findCheapest : GoodIn wsX4_tellings wsX3_findCheapest := goodIn_r _ [79, 80, 81, 82, 83, 73, 84, 85, 86, 87, 88, 89, 90, 91, 92, 93, 94, 95, 96, 97, 98, 99, 100, 101, 26, 6, 27, 28, 29, 30, 102, 103, 104, 105, 75, 106, 107, 108, 109, 46, 110, 111, 112, 9, 10, 68, 69, 125, 126, 127, 128, 129, 130, 131, 132, 133, 134, 135, 136, 137, 138, 139, 140, 141, 142] (by decide +kernel) (by decide +kernel)
set_option maxRecDepth 20000 in
theorem gX4_tellings_X3_findCheapest : GoodIn wsX4_tellings (wsV RX4 152 RX3 yX3_findCheapest wsX3_findCheapest) := goodIn_app (goodIn_of _ (by decide +kernel)) ggX4_tellings_X3_findCheapest
set_option maxRecDepth 20000 in
theorem ggX4_tellings_X3_found : GoodIn wsX4_tellings wsX3_found := goodIn_r _ [101, 86, 125, 126, 127, 128, 129, 130, 131] (by decide +kernel) (by decide +kernel)
set_option maxRecDepth 20000 in
theorem gX4_tellings_X3_found : GoodIn wsX4_tellings (wsV RX4 156 RX3 yX3_found wsX3_found) := goodIn_app (goodIn_of _ (by decide +kernel)) ggX4_tellings_X3_found
set_option maxRecDepth 20000 in
theorem ggX4_tellings_X3_step : GoodIn wsX4_tellings wsX3_step := goodIn_r _ [117, 86, 97, 29, 6, 30, 125, 126, 127, 128, 129, 130, 131] (by decide +kernel) (by decide +kernel)
set_option maxRecDepth 20000 in
theorem gX4_tellings_X3_step : GoodIn wsX4_tellings (wsV RX4 164 RX3 yX3_step wsX3_step) := goodIn_app (goodIn_of _ (by decide +kernel)) ggX4_tellings_X3_step
theorem dX4_tellings_0 : decode cX4_tellings 0 = .ok (.iload_n 1, 1) := by decide +kernel
theorem dX4_tellings_1 : decode cX4_tellings 1 = .ok (.invokestatic 52, 3) := by decide +kernel
theorem dX4_tellings_4 : decode cX4_tellings 4 = .ok (.ifCond .eq 10, 3) := by decide +kernel
theorem dX4_tellings_7 : decode cX4_tellings 7 = .ok (.iload_n 2, 1) := by decide +kernel
theorem dX4_tellings_8 : decode cX4_tellings 8 = .ok (.invokestatic 52, 3) := by decide +kernel
theorem dX4_tellings_11 : decode cX4_tellings 11 = .ok (.ifCond .ne 5, 3) := by decide +kernel
theorem dX4_tellings_14 : decode cX4_tellings 14 = .ok (.iconst (-1), 1) := by decide +kernel
theorem dX4_tellings_15 : decode cX4_tellings 15 = .ok (.ireturn, 1) := by decide +kernel
theorem dX4_tellings_16 : decode cX4_tellings 16 = .ok (.iload_n 3, 1) := by decide +kernel
theorem dX4_tellings_17 : decode cX4_tellings 17 = .ok (.invokestatic 124, 3) := by decide +kernel
theorem dX4_tellings_20 : decode cX4_tellings 20 = .ok (.ifCond .ne 6, 3) := by decide +kernel
theorem dX4_tellings_23 : decode cX4_tellings 23 = .ok (.bipush (-2), 2) := by decide +kernel
theorem dX4_tellings_25 : decode cX4_tellings 25 = .ok (.ireturn, 1) := by decide +kernel
theorem dX4_tellings_26 : decode cX4_tellings 26 = .ok (.iconst 0, 1) := by decide +kernel
theorem dX4_tellings_27 : decode cX4_tellings 27 = .ok (.istore 5, 2) := by decide +kernel
theorem dX4_tellings_29 : decode cX4_tellings 29 = .ok (.iload 5, 2) := by decide +kernel
theorem dX4_tellings_31 : decode cX4_tellings 31 = .ok (.bipush 6, 2) := by decide +kernel
theorem dX4_tellings_33 : decode cX4_tellings 33 = .ok (.if_icmp .ge 25, 3) := by decide +kernel
theorem dX4_tellings_36 : decode cX4_tellings 36 = .ok (.aload_n 0, 1) := by decide +kernel
theorem dX4_tellings_37 : decode cX4_tellings 37 = .ok (.getfield 30, 3) := by decide +kernel
theorem dX4_tellings_40 : decode cX4_tellings 40 = .ok (.iload 5, 2) := by decide +kernel
theorem dX4_tellings_42 : decode cX4_tellings 42 = .ok (.aload_n 0, 1) := by decide +kernel
theorem dX4_tellings_43 : decode cX4_tellings 43 = .ok (.iload 5, 2) := by decide +kernel
theorem dX4_tellings_45 : decode cX4_tellings 45 = .ok (.iload_n 3, 1) := by decide +kernel
theorem dX4_tellings_46 : decode cX4_tellings 46 = .ok (.invokevirtual 145, 3) := by decide +kernel
theorem dX4_tellings_49 : decode cX4_tellings 49 = .ok (.invokevirtual 148, 3) := by decide +kernel
theorem dX4_tellings_52 : decode cX4_tellings 52 = .ok (.iinc 5 1, 3) := by decide +kernel
theorem dX4_tellings_55 : decode cX4_tellings 55 = .ok (.goto (-26), 3) := by decide +kernel
theorem dX4_tellings_58 : decode cX4_tellings 58 = .ok (.aload_n 0, 1) := by decide +kernel
theorem dX4_tellings_59 : decode cX4_tellings 59 = .ok (.getfield 30, 3) := by decide +kernel
theorem dX4_tellings_62 : decode cX4_tellings 62 = .ok (.aload_n 0, 1) := by decide +kernel
theorem dX4_tellings_63 : decode cX4_tellings 63 = .ok (.getfield 10, 3) := by decide +kernel
theorem dX4_tellings_66 : decode cX4_tellings 66 = .ok (.iload_n 1, 1) := by decide +kernel
theorem dX4_tellings_67 : decode cX4_tellings 67 = .ok (.iload_n 2, 1) := by decide +kernel
theorem dX4_tellings_68 : decode cX4_tellings 68 = .ok (.invokevirtual 152, 3) := by decide +kernel
theorem dX4_tellings_71 : decode cX4_tellings 71 = .ok (.iload 4, 2) := by decide +kernel
theorem dX4_tellings_73 : decode cX4_tellings 73 = .ok (.iconst (-1), 1) := by decide +kernel
theorem dX4_tellings_74 : decode cX4_tellings 74 = .ok (.if_icmp .ne 28, 3) := by decide +kernel
theorem dX4_tellings_77 : decode cX4_tellings 77 = .ok (.aload_n 0, 1) := by decide +kernel
theorem dX4_tellings_78 : decode cX4_tellings 78 = .ok (.getfield 30, 3) := by decide +kernel
theorem dX4_tellings_81 : decode cX4_tellings 81 = .ok (.invokevirtual 156, 3) := by decide +kernel
theorem dX4_tellings_84 : decode cX4_tellings 84 = .ok (.ifCond .eq 15, 3) := by decide +kernel
theorem dX4_tellings_87 : decode cX4_tellings 87 = .ok (.aload_n 0, 1) := by decide +kernel
theorem dX4_tellings_88 : decode cX4_tellings 88 = .ok (.getfield 30, 3) := by decide +kernel
theorem dX4_tellings_91 : decode cX4_tellings 91 = .ok (.getfield 160, 3) := by decide +kernel
theorem dX4_tellings_94 : decode cX4_tellings 94 = .ok (.lneg, 1) := by decide +kernel
theorem dX4_tellings_95 : decode cX4_tellings 95 = .ok (.l2i, 1) := by decide +kernel
theorem dX4_tellings_96 : decode cX4_tellings 96 = .ok (.goto 5, 3) := by decide +kernel
theorem dX4_tellings_99 : decode cX4_tellings 99 = .ok (.bipush (-6), 2) := by decide +kernel
theorem dX4_tellings_101 : decode cX4_tellings 101 = .ok (.ireturn, 1) := by decide +kernel
theorem dX4_tellings_102 : decode cX4_tellings 102 = .ok (.aload_n 0, 1) := by decide +kernel
theorem dX4_tellings_103 : decode cX4_tellings 103 = .ok (.getfield 30, 3) := by decide +kernel
theorem dX4_tellings_106 : decode cX4_tellings 106 = .ok (.iload 4, 2) := by decide +kernel
theorem dX4_tellings_108 : decode cX4_tellings 108 = .ok (.invokevirtual 164, 3) := by decide +kernel
theorem dX4_tellings_111 : decode cX4_tellings 111 = .ok (.ireturn, 1) := by decide +kernel
set_option maxRecDepth 20000 in
theorem ggX4_stands_X4_isIsland : GoodIn wsX4_stands wsX4_isIsland := goodIn_r _ [4, 5, 6, 3, 7] (by decide +kernel) (by decide +kernel)
set_option maxRecDepth 20000 in
theorem gX4_stands_X4_isIsland : GoodIn wsX4_stands (va_wsS RX4 52 yX4_isIsland wsX4_isIsland) := goodIn_app (goodIn_of _ (by decide +kernel)) ggX4_stands_X4_isIsland
set_option maxRecDepth 20000 in
theorem ggX4_stands_X4_isParty : GoodIn wsX4_stands wsX4_isParty := goodIn_r _ [10, 5, 6, 3, 7] (by decide +kernel) (by decide +kernel)
set_option maxRecDepth 20000 in
theorem gX4_stands_X4_isParty : GoodIn wsX4_stands (va_wsS RX4 124 yX4_isParty wsX4_isParty) := goodIn_app (goodIn_of _ (by decide +kernel)) ggX4_stands_X4_isParty
set_option maxRecDepth 20000 in
theorem ggX4_stands_X4_standsBehind : GoodIn wsX4_stands wsX4_standsBehind := goodIn_r _ [14, 15, 16, 17, 18, 19, 20, 21, 22, 23, 24, 25, 26, 27, 28, 29, 30, 31, 32, 33, 34, 3, 35, 36, 37, 38, 39, 40, 41, 42, 43, 44, 45, 46, 47, 48, 49, 50, 51, 52, 53, 54, 55, 56, 57, 58, 59, 60, 61, 62, 63, 64, 65, 66, 67, 68, 69, 70, 71, 72, 73, 74, 75, 76, 77, 78, 6, 7, 79, 80, 81, 82, 83, 84, 85, 86, 87, 88, 89, 90, 91, 92, 93, 94, 95, 96, 97, 98, 99, 100, 101, 102, 103, 104, 105] (by decide +kernel) (by decide +kernel)
set_option maxRecDepth 20000 in
theorem gX4_stands_X4_standsBehind : GoodIn wsX4_stands (wsV RX4 168 RX4 yX4_standsBehind wsX4_standsBehind) := goodIn_app (goodIn_of _ (by decide +kernel)) ggX4_stands_X4_standsBehind
theorem dX4_stands_0 : decode cX4_stands 0 = .ok (.iload_n 1, 1) := by decide +kernel
theorem dX4_stands_1 : decode cX4_stands 1 = .ok (.invokestatic 52, 3) := by decide +kernel
theorem dX4_stands_4 : decode cX4_stands 4 = .ok (.ifCond .eq 10, 3) := by decide +kernel
theorem dX4_stands_7 : decode cX4_stands 7 = .ok (.iload_n 2, 1) := by decide +kernel
theorem dX4_stands_8 : decode cX4_stands 8 = .ok (.invokestatic 52, 3) := by decide +kernel
theorem dX4_stands_11 : decode cX4_stands 11 = .ok (.ifCond .ne 5, 3) := by decide +kernel
theorem dX4_stands_14 : decode cX4_stands 14 = .ok (.iconst (-1), 1) := by decide +kernel
theorem dX4_stands_15 : decode cX4_stands 15 = .ok (.ireturn, 1) := by decide +kernel
theorem dX4_stands_16 : decode cX4_stands 16 = .ok (.iload_n 3, 1) := by decide +kernel
theorem dX4_stands_17 : decode cX4_stands 17 = .ok (.invokestatic 124, 3) := by decide +kernel
theorem dX4_stands_20 : decode cX4_stands 20 = .ok (.ifCond .ne 6, 3) := by decide +kernel
theorem dX4_stands_23 : decode cX4_stands 23 = .ok (.bipush (-2), 2) := by decide +kernel
theorem dX4_stands_25 : decode cX4_stands 25 = .ok (.ireturn, 1) := by decide +kernel
theorem dX4_stands_26 : decode cX4_stands 26 = .ok (.iload_n 1, 1) := by decide +kernel
theorem dX4_stands_27 : decode cX4_stands 27 = .ok (.iload_n 2, 1) := by decide +kernel
theorem dX4_stands_28 : decode cX4_stands 28 = .ok (.if_icmp .ne 6, 3) := by decide +kernel
theorem dX4_stands_31 : decode cX4_stands 31 = .ok (.bipush (-6), 2) := by decide +kernel
theorem dX4_stands_33 : decode cX4_stands 33 = .ok (.ireturn, 1) := by decide +kernel
theorem dX4_stands_34 : decode cX4_stands 34 = .ok (.iconst 0, 1) := by decide +kernel
theorem dX4_stands_35 : decode cX4_stands 35 = .ok (.istore 4, 2) := by decide +kernel
theorem dX4_stands_37 : decode cX4_stands 37 = .ok (.iload 4, 2) := by decide +kernel
theorem dX4_stands_39 : decode cX4_stands 39 = .ok (.bipush 9, 2) := by decide +kernel
theorem dX4_stands_41 : decode cX4_stands 41 = .ok (.if_icmp .ge 21, 3) := by decide +kernel
theorem dX4_stands_44 : decode cX4_stands 44 = .ok (.aload_n 0, 1) := by decide +kernel
theorem dX4_stands_45 : decode cX4_stands 45 = .ok (.iload 4, 2) := by decide +kernel
theorem dX4_stands_47 : decode cX4_stands 47 = .ok (.iload_n 1, 1) := by decide +kernel
theorem dX4_stands_48 : decode cX4_stands 48 = .ok (.iload_n 2, 1) := by decide +kernel
theorem dX4_stands_49 : decode cX4_stands 49 = .ok (.iload_n 3, 1) := by decide +kernel
theorem dX4_stands_50 : decode cX4_stands 50 = .ok (.invokevirtual 168, 3) := by decide +kernel
theorem dX4_stands_53 : decode cX4_stands 53 = .ok (.ifCond .eq 9, 3) := by decide +kernel
theorem dX4_stands_56 : decode cX4_stands 56 = .ok (.iinc 4 1, 3) := by decide +kernel
theorem dX4_stands_59 : decode cX4_stands 59 = .ok (.goto (-22), 3) := by decide +kernel
theorem dX4_stands_62 : decode cX4_stands 62 = .ok (.iload 4, 2) := by decide +kernel
theorem dX4_stands_64 : decode cX4_stands 64 = .ok (.ireturn, 1) := by decide +kernel
set_option maxRecDepth 20000 in
theorem ggX4_word_X4_isChoice : GoodIn wsX4_word wsX4_isChoice := goodIn_r _ [7] (by decide +kernel) (by decide +kernel)
set_option maxRecDepth 20000 in
theorem gX4_word_X4_isChoice : GoodIn wsX4_word (va_wsS RX4 127 yX4_isChoice wsX4_isChoice) := goodIn_app (goodIn_of _ (by decide +kernel)) ggX4_word_X4_isChoice
set_option maxRecDepth 20000 in
theorem ggX4_word_X0_become : GoodIn wsX4_word wsX0_become := goodIn_r _ [12, 13, 14, 6, 15, 16, 17, 18, 59] (by decide +kernel) (by decide +kernel)
set_option maxRecDepth 20000 in
theorem gX4_word_X0_become : GoodIn wsX4_word (wsV RX4 103 RX0 yX0_become wsX0_become) := goodIn_app (goodIn_of _ (by decide +kernel)) ggX4_word_X0_become
set_option maxRecDepth 20000 in
theorem ggX4_word_X4_denyToAll : GoodIn wsX4_word wsX4_denyToAll := goodIn_r _ [22, 2, 23, 24, 25, 26, 27, 28, 29, 6, 30, 16, 17, 18, 31, 32, 33, 11, 34, 13, 35, 36, 37, 38, 39, 40, 41, 42, 43, 44, 45, 46, 47, 48, 49, 50, 51, 52, 53, 54, 55, 56, 57, 58, 59] (by decide +kernel) (by decide +kernel)
set_option maxRecDepth 20000 in
theorem gX4_word_X4_denyToAll : GoodIn wsX4_word (wsV RX4 172 RX4 yX4_denyToAll wsX4_denyToAll) := goodIn_app (goodIn_of _ (by decide +kernel)) ggX4_word_X4_denyToAll
theorem dX4_word_0 : decode cX4_word 0 = .ok (.iload_n 1, 1) := by decide +kernel
theorem dX4_word_1 : decode cX4_word 1 = .ok (.invokestatic 127, 3) := by decide +kernel
theorem dX4_word_4 : decode cX4_word 4 = .ok (.ifCond .ne 6, 3) := by decide +kernel
theorem dX4_word_7 : decode cX4_word 7 = .ok (.bipush (-2), 2) := by decide +kernel
theorem dX4_word_9 : decode cX4_word 9 = .ok (.ireturn, 1) := by decide +kernel
theorem dX4_word_10 : decode cX4_word 10 = .ok (.iconst 0, 1) := by decide +kernel
theorem dX4_word_11 : decode cX4_word 11 = .ok (.istore_n 2, 1) := by decide +kernel
theorem dX4_word_12 : decode cX4_word 12 = .ok (.iconst 0, 1) := by decide +kernel
theorem dX4_word_13 : decode cX4_word 13 = .ok (.istore_n 3, 1) := by decide +kernel
theorem dX4_word_14 : decode cX4_word 14 = .ok (.iconst 0, 1) := by decide +kernel
theorem dX4_word_15 : decode cX4_word 15 = .ok (.istore 4, 2) := by decide +kernel
theorem dX4_word_17 : decode cX4_word 17 = .ok (.iload 4, 2) := by decide +kernel
theorem dX4_word_19 : decode cX4_word 19 = .ok (.bipush 6, 2) := by decide +kernel
theorem dX4_word_21 : decode cX4_word 21 = .ok (.if_icmp .ge 71, 3) := by decide +kernel
theorem dX4_word_24 : decode cX4_word 24 = .ok (.iconst 0, 1) := by decide +kernel
theorem dX4_word_25 : decode cX4_word 25 = .ok (.istore 5, 2) := by decide +kernel
theorem dX4_word_27 : decode cX4_word 27 = .ok (.iload 5, 2) := by decide +kernel
theorem dX4_word_29 : decode cX4_word 29 = .ok (.bipush 6, 2) := by decide +kernel
theorem dX4_word_31 : decode cX4_word 31 = .ok (.if_icmp .ge 55, 3) := by decide +kernel
theorem dX4_word_34 : decode cX4_word 34 = .ok (.aload_n 0, 1) := by decide +kernel
theorem dX4_word_35 : decode cX4_word 35 = .ok (.getfield 37, 3) := by decide +kernel
theorem dX4_word_38 : decode cX4_word 38 = .ok (.aload_n 0, 1) := by decide +kernel
theorem dX4_word_39 : decode cX4_word 39 = .ok (.getfield 10, 3) := by decide +kernel
theorem dX4_word_42 : decode cX4_word 42 = .ok (.getfield 72, 3) := by decide +kernel
theorem dX4_word_45 : decode cX4_word 45 = .ok (.invokevirtual 103, 3) := by decide +kernel
theorem dX4_word_48 : decode cX4_word 48 = .ok (.aload_n 0, 1) := by decide +kernel
theorem dX4_word_49 : decode cX4_word 49 = .ok (.aload_n 0, 1) := by decide +kernel
theorem dX4_word_50 : decode cX4_word 50 = .ok (.getfield 37, 3) := by decide +kernel
theorem dX4_word_53 : decode cX4_word 53 = .ok (.iload 4, 2) := by decide +kernel
theorem dX4_word_55 : decode cX4_word 55 = .ok (.iload 5, 2) := by decide +kernel
theorem dX4_word_57 : decode cX4_word 57 = .ok (.invokevirtual 172, 3) := by decide +kernel
theorem dX4_word_60 : decode cX4_word 60 = .ok (.istore 6, 2) := by decide +kernel
theorem dX4_word_62 : decode cX4_word 62 = .ok (.iload 6, 2) := by decide +kernel
theorem dX4_word_64 : decode cX4_word 64 = .ok (.iload_n 3, 1) := by decide +kernel
theorem dX4_word_65 : decode cX4_word 65 = .ok (.if_icmp .le 15, 3) := by decide +kernel
theorem dX4_word_68 : decode cX4_word 68 = .ok (.iload 6, 2) := by decide +kernel
theorem dX4_word_70 : decode cX4_word 70 = .ok (.istore_n 3, 1) := by decide +kernel
theorem dX4_word_71 : decode cX4_word 71 = .ok (.bipush 10, 2) := by decide +kernel
theorem dX4_word_73 : decode cX4_word 73 = .ok (.iload 4, 2) := by decide +kernel
theorem dX4_word_75 : decode cX4_word 75 = .ok (.imul, 1) := by decide +kernel
theorem dX4_word_76 : decode cX4_word 76 = .ok (.iload 5, 2) := by decide +kernel
theorem dX4_word_78 : decode cX4_word 78 = .ok (.iadd, 1) := by decide +kernel
theorem dX4_word_79 : decode cX4_word 79 = .ok (.istore_n 2, 1) := by decide +kernel
theorem dX4_word_80 : decode cX4_word 80 = .ok (.iinc 5 1, 3) := by decide +kernel
theorem dX4_word_83 : decode cX4_word 83 = .ok (.goto (-56), 3) := by decide +kernel
theorem dX4_word_86 : decode cX4_word 86 = .ok (.iinc 4 1, 3) := by decide +kernel
theorem dX4_word_89 : decode cX4_word 89 = .ok (.goto (-72), 3) := by decide +kernel
theorem dX4_word_92 : decode cX4_word 92 = .ok (.iload_n 1, 1) := by decide +kernel
theorem dX4_word_93 : decode cX4_word 93 = .ok (.ifCond .ne 7, 3) := by decide +kernel
theorem dX4_word_96 : decode cX4_word 96 = .ok (.iload_n 2, 1) := by decide +kernel
theorem dX4_word_97 : decode cX4_word 97 = .ok (.goto 4, 3) := by decide +kernel
theorem dX4_word_100 : decode cX4_word 100 = .ok (.iload_n 3, 1) := by decide +kernel
theorem dX4_word_101 : decode cX4_word 101 = .ok (.ireturn, 1) := by decide +kernel
set_option maxRecDepth 20000 in
theorem ggX4_rumour_X4_isPlank : GoodIn wsX4_rumour wsX4_isPlank := goodIn_r _ [7, 8, 9, 6, 10] (by decide +kernel) (by decide +kernel)
set_option maxRecDepth 20000 in
theorem gX4_rumour_X4_isPlank : GoodIn wsX4_rumour (va_wsS RX4 48 yX4_isPlank wsX4_isPlank) := goodIn_app (goodIn_of _ (by decide +kernel)) ggX4_rumour_X4_isPlank
set_option maxRecDepth 20000 in
theorem ggX4_rumour_X4_isParty : GoodIn wsX4_rumour wsX4_isParty := goodIn_r _ [13, 8, 9, 6, 10] (by decide +kernel) (by decide +kernel)
set_option maxRecDepth 20000 in
theorem gX4_rumour_X4_isParty : GoodIn wsX4_rumour (va_wsS RX4 124 yX4_isParty wsX4_isParty) := goodIn_app (goodIn_of _ (by decide +kernel)) ggX4_rumour_X4_isParty
set_option maxRecDepth 20000 in
theorem ggX4_rumour_X0_become : GoodIn wsX4_rumour wsX0_become := goodIn_r _ [18, 19, 20, 6, 21, 22, 23, 24, 86] (by decide +kernel) (by decide +kernel)
set_option maxRecDepth 20000 in
theorem gX4_rumour_X0_become : GoodIn wsX4_rumour (wsV RX4 103 RX0 yX0_become wsX0_become) := goodIn_app (goodIn_of _ (by decide +kernel)) ggX4_rumour_X0_become
set_option maxRecDepth 20000 in
theorem ggX4_rumour_X0_load : GoodIn wsX4_rumour wsX0_load := goodIn_r _ [28, 29, 30, 31, 17, 32, 19, 86] (by decide +kernel) (by decide +kernel)
set_option maxRecDepth 20000 in
theorem gX4_rumour_X0_load : GoodIn wsX4_rumour (wsV RX4 142 RX0 yX0_load wsX0_load) := goodIn_app (goodIn_of _ (by decide +kernel)) ggX4_rumour_X0_load
set_option maxRecDepth 20000 in
theorem ggX4_rumour_X4_spread : GoodIn wsX4_rumour wsX4_spread := goodIn_r _ [36, 2, 37, 38, 39, 40, 41, 42, 23, 6, 24, 43, 30, 31, 17, 32, 19, 44, 45, 46, 47, 48, 49, 50, 51, 52, 53, 54, 55, 56, 57, 22, 58, 59, 60, 61, 62, 63, 68, 69, 70, 71, 72, 73, 74, 75, 76, 77, 78, 79, 80, 81, 82, 83, 84, 85, 86] (by decide +kernel) (by decide +kernel)
set_option maxRecDepth 20000 in
theorem gX4_rumour_X4_spread : GoodIn wsX4_rumour (wsV RX4 175 RX4 yX4_spread wsX4_spread) := goodIn_app (goodIn_of _ (by decide +kernel)) ggX4_rumour_X4_spread
set_option maxRecDepth 20000 in
theorem ggX4_rumour_X0_fadeADay : GoodIn wsX4_rumour wsX0_fadeADay := goodIn_r _ [67, 19, 86] (by decide +kernel) (by decide +kernel)
set_option maxRecDepth 20000 in
theorem gX4_rumour_X0_fadeADay : GoodIn wsX4_rumour (wsV RX4 179 RX0 yX0_fadeADay wsX0_fadeADay) := goodIn_app (goodIn_of _ (by decide +kernel)) ggX4_rumour_X0_fadeADay
theorem dX4_rumour_0 : decode cX4_rumour 0 = .ok (.iload_n 1, 1) := by decide +kernel
theorem dX4_rumour_1 : decode cX4_rumour 1 = .ok (.invokestatic 48, 3) := by decide +kernel
theorem dX4_rumour_4 : decode cX4_rumour 4 = .ok (.ifCond .ne 5, 3) := by decide +kernel
theorem dX4_rumour_7 : decode cX4_rumour 7 = .ok (.iconst (-1), 1) := by decide +kernel
theorem dX4_rumour_8 : decode cX4_rumour 8 = .ok (.ireturn, 1) := by decide +kernel
theorem dX4_rumour_9 : decode cX4_rumour 9 = .ok (.iload_n 2, 1) := by decide +kernel
theorem dX4_rumour_10 : decode cX4_rumour 10 = .ok (.invokestatic 124, 3) := by decide +kernel
theorem dX4_rumour_13 : decode cX4_rumour 13 = .ok (.ifCond .ne 6, 3) := by decide +kernel
theorem dX4_rumour_16 : decode cX4_rumour 16 = .ok (.bipush (-2), 2) := by decide +kernel
theorem dX4_rumour_18 : decode cX4_rumour 18 = .ok (.ireturn, 1) := by decide +kernel
theorem dX4_rumour_19 : decode cX4_rumour 19 = .ok (.aload_n 0, 1) := by decide +kernel
theorem dX4_rumour_20 : decode cX4_rumour 20 = .ok (.getfield 37, 3) := by decide +kernel
theorem dX4_rumour_23 : decode cX4_rumour 23 = .ok (.aload_n 0, 1) := by decide +kernel
theorem dX4_rumour_24 : decode cX4_rumour 24 = .ok (.getfield 10, 3) := by decide +kernel
theorem dX4_rumour_27 : decode cX4_rumour 27 = .ok (.getfield 72, 3) := by decide +kernel
theorem dX4_rumour_30 : decode cX4_rumour 30 = .ok (.invokevirtual 103, 3) := by decide +kernel
theorem dX4_rumour_33 : decode cX4_rumour 33 = .ok (.aload_n 0, 1) := by decide +kernel
theorem dX4_rumour_34 : decode cX4_rumour 34 = .ok (.getfield 37, 3) := by decide +kernel
theorem dX4_rumour_37 : decode cX4_rumour 37 = .ok (.iload_n 1, 1) := by decide +kernel
theorem dX4_rumour_38 : decode cX4_rumour 38 = .ok (.iconst 0, 1) := by decide +kernel
theorem dX4_rumour_39 : decode cX4_rumour 39 = .ok (.invokevirtual 142, 3) := by decide +kernel
theorem dX4_rumour_42 : decode cX4_rumour 42 = .ok (.iload_n 2, 1) := by decide +kernel
theorem dX4_rumour_43 : decode cX4_rumour 43 = .ok (.if_icmp .lt 5, 3) := by decide +kernel
theorem dX4_rumour_46 : decode cX4_rumour 46 = .ok (.iconst 0, 1) := by decide +kernel
theorem dX4_rumour_47 : decode cX4_rumour 47 = .ok (.ireturn, 1) := by decide +kernel
theorem dX4_rumour_48 : decode cX4_rumour 48 = .ok (.iconst 1, 1) := by decide +kernel
theorem dX4_rumour_49 : decode cX4_rumour 49 = .ok (.istore_n 3, 1) := by decide +kernel
theorem dX4_rumour_50 : decode cX4_rumour 50 = .ok (.iload_n 3, 1) := by decide +kernel
theorem dX4_rumour_51 : decode cX4_rumour 51 = .ok (.bipush 30, 2) := by decide +kernel
theorem dX4_rumour_53 : decode cX4_rumour 53 = .ok (.if_icmp .gt 40, 3) := by decide +kernel
theorem dX4_rumour_56 : decode cX4_rumour 56 = .ok (.aload_n 0, 1) := by decide +kernel
theorem dX4_rumour_57 : decode cX4_rumour 57 = .ok (.aload_n 0, 1) := by decide +kernel
theorem dX4_rumour_58 : decode cX4_rumour 58 = .ok (.getfield 37, 3) := by decide +kernel
theorem dX4_rumour_61 : decode cX4_rumour 61 = .ok (.iload_n 1, 1) := by decide +kernel
theorem dX4_rumour_62 : decode cX4_rumour 62 = .ok (.invokevirtual 175, 3) := by decide +kernel
theorem dX4_rumour_65 : decode cX4_rumour 65 = .ok (.aload_n 0, 1) := by decide +kernel
theorem dX4_rumour_66 : decode cX4_rumour 66 = .ok (.getfield 37, 3) := by decide +kernel
theorem dX4_rumour_69 : decode cX4_rumour 69 = .ok (.iload_n 1, 1) := by decide +kernel
theorem dX4_rumour_70 : decode cX4_rumour 70 = .ok (.iconst 0, 1) := by decide +kernel
theorem dX4_rumour_71 : decode cX4_rumour 71 = .ok (.invokevirtual 142, 3) := by decide +kernel
theorem dX4_rumour_74 : decode cX4_rumour 74 = .ok (.iload_n 2, 1) := by decide +kernel
theorem dX4_rumour_75 : decode cX4_rumour 75 = .ok (.if_icmp .lt 5, 3) := by decide +kernel
theorem dX4_rumour_78 : decode cX4_rumour 78 = .ok (.iload_n 3, 1) := by decide +kernel
theorem dX4_rumour_79 : decode cX4_rumour 79 = .ok (.ireturn, 1) := by decide +kernel
theorem dX4_rumour_80 : decode cX4_rumour 80 = .ok (.aload_n 0, 1) := by decide +kernel
theorem dX4_rumour_81 : decode cX4_rumour 81 = .ok (.getfield 37, 3) := by decide +kernel
theorem dX4_rumour_84 : decode cX4_rumour 84 = .ok (.invokevirtual 179, 3) := by decide +kernel
theorem dX4_rumour_87 : decode cX4_rumour 87 = .ok (.iinc 3 1, 3) := by decide +kernel
theorem dX4_rumour_90 : decode cX4_rumour 90 = .ok (.goto (-40), 3) := by decide +kernel
theorem dX4_rumour_93 : decode cX4_rumour 93 = .ok (.bipush (-6), 2) := by decide +kernel
theorem dX4_rumour_95 : decode cX4_rumour 95 = .ok (.ireturn, 1) := by decide +kernel
set_option maxRecDepth 20000 in
theorem ggX4_odds_X4_isPlank : GoodIn wsX4_odds wsX4_isPlank := goodIn_r _ [7, 8, 9, 6, 10] (by decide +kernel) (by decide +kernel)
set_option maxRecDepth 20000 in
theorem gX4_odds_X4_isPlank : GoodIn wsX4_odds (va_wsS RX4 48 yX4_isPlank wsX4_isPlank) := goodIn_app (goodIn_of _ (by decide +kernel)) ggX4_odds_X4_isPlank
set_option maxRecDepth 20000 in
theorem ggX4_odds_X4_isPerson : GoodIn wsX4_odds wsX4_isPerson := goodIn_r _ [13, 8, 9, 6, 10] (by decide +kernel) (by decide +kernel)
set_option maxRecDepth 20000 in
theorem gX4_odds_X4_isPerson : GoodIn wsX4_odds (va_wsS RX4 55 yX4_isPerson wsX4_isPerson) := goodIn_app (goodIn_of _ (by decide +kernel)) ggX4_odds_X4_isPerson
set_option maxRecDepth 20000 in
theorem ggX4_odds_X4_isChoice : GoodIn wsX4_odds wsX4_isChoice := goodIn_r _ [16] (by decide +kernel) (by decide +kernel)
set_option maxRecDepth 20000 in
theorem gX4_odds_X4_isChoice : GoodIn wsX4_odds (va_wsS RX4 127 yX4_isChoice wsX4_isChoice) := goodIn_app (goodIn_of _ (by decide +kernel)) ggX4_odds_X4_isChoice
set_option maxRecDepth 20000 in
theorem ggX4_odds_X0_become : GoodIn wsX4_odds wsX0_become := goodIn_r _ [21, 22, 23, 6, 24, 25, 26, 27, 88] (by decide +kernel) (by decide +kernel)
set_option maxRecDepth 20000 in
theorem gX4_odds_X0_become : GoodIn wsX4_odds (wsV RX4 103 RX0 yX0_become wsX0_become) := goodIn_app (goodIn_of _ (by decide +kernel)) ggX4_odds_X0_become
set_option maxRecDepth 20000 in
theorem ggX4_odds_X4_tellToAll : GoodIn wsX4_odds wsX4_tellToAll := goodIn_r _ [31, 2, 32, 33, 34, 35, 36, 37, 38, 39, 40, 41, 42, 43, 44, 26, 6, 27, 45, 46, 47, 20, 48, 22, 49, 50, 25, 51, 52, 53, 54, 55, 56, 70, 71, 72, 73, 74, 75, 76, 77, 78, 79, 80, 81, 82, 83, 84, 85, 86, 87, 88] (by decide +kernel) (by decide +kernel)
set_option maxRecDepth 20000 in
theorem gX4_odds_X4_tellToAll : GoodIn wsX4_odds (wsV RX4 182 RX4 yX4_tellToAll wsX4_tellToAll) := goodIn_app (goodIn_of _ (by decide +kernel)) ggX4_odds_X4_tellToAll
set_option maxRecDepth 20000 in
theorem ggX4_odds_X4_denyToAll : GoodIn wsX4_odds wsX4_denyToAll := goodIn_r _ [60, 2, 61, 62, 63, 35, 64, 37, 49, 6, 50, 25, 26, 27, 45, 46, 47, 20, 48, 22, 51, 52, 53, 54, 55, 56, 70, 71, 72, 73, 74, 75, 76, 77, 78, 79, 80, 81, 82, 83, 84, 85, 86, 87, 88] (by decide +kernel) (by decide +kernel)
set_option maxRecDepth 20000 in
theorem gX4_odds_X4_denyToAll : GoodIn wsX4_odds (wsV RX4 172 RX4 yX4_denyToAll wsX4_denyToAll) := goodIn_app (goodIn_of _ (by decide +kernel)) ggX4_odds_X4_denyToAll
set_option maxRecDepth 20000 in
theorem ggX4_odds_X0_load : GoodIn wsX4_odds wsX0_load := goodIn_r _ [68, 69, 46, 47, 20, 48, 22, 88] (by decide +kernel) (by decide +kernel)
set_option maxRecDepth 20000 in
theorem gX4_odds_X0_load : GoodIn wsX4_odds (wsV RX4 142 RX0 yX0_load wsX0_load) := goodIn_app (goodIn_of _ (by decide +kernel)) ggX4_odds_X0_load
theorem dX4_odds_0 : decode cX4_odds 0 = .ok (.iload_n 1, 1) := by decide +kernel
theorem dX4_odds_1 : decode cX4_odds 1 = .ok (.invokestatic 48, 3) := by decide +kernel
theorem dX4_odds_4 : decode cX4_odds 4 = .ok (.ifCond .eq 22, 3) := by decide +kernel
theorem dX4_odds_7 : decode cX4_odds 7 = .ok (.iload_n 2, 1) := by decide +kernel
theorem dX4_odds_8 : decode cX4_odds 8 = .ok (.invokestatic 55, 3) := by decide +kernel
theorem dX4_odds_11 : decode cX4_odds 11 = .ok (.ifCond .eq 15, 3) := by decide +kernel
theorem dX4_odds_14 : decode cX4_odds 14 = .ok (.iload_n 3, 1) := by decide +kernel
theorem dX4_odds_15 : decode cX4_odds 15 = .ok (.invokestatic 55, 3) := by decide +kernel
theorem dX4_odds_18 : decode cX4_odds 18 = .ok (.ifCond .eq 8, 3) := by decide +kernel
theorem dX4_odds_21 : decode cX4_odds 21 = .ok (.iload_n 2, 1) := by decide +kernel
theorem dX4_odds_22 : decode cX4_odds 22 = .ok (.iload_n 3, 1) := by decide +kernel
theorem dX4_odds_23 : decode cX4_odds 23 = .ok (.if_icmp .ne 5, 3) := by decide +kernel
theorem dX4_odds_26 : decode cX4_odds 26 = .ok (.iconst (-1), 1) := by decide +kernel
theorem dX4_odds_27 : decode cX4_odds 27 = .ok (.ireturn, 1) := by decide +kernel
theorem dX4_odds_28 : decode cX4_odds 28 = .ok (.iload 4, 2) := by decide +kernel
theorem dX4_odds_30 : decode cX4_odds 30 = .ok (.invokestatic 127, 3) := by decide +kernel
theorem dX4_odds_33 : decode cX4_odds 33 = .ok (.ifCond .ne 6, 3) := by decide +kernel
theorem dX4_odds_36 : decode cX4_odds 36 = .ok (.bipush (-2), 2) := by decide +kernel
theorem dX4_odds_38 : decode cX4_odds 38 = .ok (.ireturn, 1) := by decide +kernel
theorem dX4_odds_39 : decode cX4_odds 39 = .ok (.aload_n 0, 1) := by decide +kernel
theorem dX4_odds_40 : decode cX4_odds 40 = .ok (.getfield 37, 3) := by decide +kernel
theorem dX4_odds_43 : decode cX4_odds 43 = .ok (.aload_n 0, 1) := by decide +kernel
theorem dX4_odds_44 : decode cX4_odds 44 = .ok (.getfield 10, 3) := by decide +kernel
theorem dX4_odds_47 : decode cX4_odds 47 = .ok (.getfield 72, 3) := by decide +kernel
theorem dX4_odds_50 : decode cX4_odds 50 = .ok (.invokevirtual 103, 3) := by decide +kernel
theorem dX4_odds_53 : decode cX4_odds 53 = .ok (.iload 4, 2) := by decide +kernel
theorem dX4_odds_55 : decode cX4_odds 55 = .ok (.ifCond .ne 27, 3) := by decide +kernel
theorem dX4_odds_58 : decode cX4_odds 58 = .ok (.aload_n 0, 1) := by decide +kernel
theorem dX4_odds_59 : decode cX4_odds 59 = .ok (.aload_n 0, 1) := by decide +kernel
theorem dX4_odds_60 : decode cX4_odds 60 = .ok (.getfield 37, 3) := by decide +kernel
theorem dX4_odds_63 : decode cX4_odds 63 = .ok (.iload_n 2, 1) := by decide +kernel
theorem dX4_odds_64 : decode cX4_odds 64 = .ok (.iload_n 1, 1) := by decide +kernel
theorem dX4_odds_65 : decode cX4_odds 65 = .ok (.invokevirtual 182, 3) := by decide +kernel
theorem dX4_odds_68 : decode cX4_odds 68 = .ok (.aload_n 0, 1) := by decide +kernel
theorem dX4_odds_69 : decode cX4_odds 69 = .ok (.aload_n 0, 1) := by decide +kernel
theorem dX4_odds_70 : decode cX4_odds 70 = .ok (.getfield 37, 3) := by decide +kernel
theorem dX4_odds_73 : decode cX4_odds 73 = .ok (.iload_n 3, 1) := by decide +kernel
theorem dX4_odds_74 : decode cX4_odds 74 = .ok (.iload_n 1, 1) := by decide +kernel
theorem dX4_odds_75 : decode cX4_odds 75 = .ok (.invokevirtual 172, 3) := by decide +kernel
theorem dX4_odds_78 : decode cX4_odds 78 = .ok (.pop, 1) := by decide +kernel
theorem dX4_odds_79 : decode cX4_odds 79 = .ok (.goto 24, 3) := by decide +kernel
theorem dX4_odds_82 : decode cX4_odds 82 = .ok (.aload_n 0, 1) := by decide +kernel
theorem dX4_odds_83 : decode cX4_odds 83 = .ok (.aload_n 0, 1) := by decide +kernel
theorem dX4_odds_84 : decode cX4_odds 84 = .ok (.getfield 37, 3) := by decide +kernel
theorem dX4_odds_87 : decode cX4_odds 87 = .ok (.iload_n 3, 1) := by decide +kernel
theorem dX4_odds_88 : decode cX4_odds 88 = .ok (.iload_n 1, 1) := by decide +kernel
theorem dX4_odds_89 : decode cX4_odds 89 = .ok (.invokevirtual 172, 3) := by decide +kernel
theorem dX4_odds_92 : decode cX4_odds 92 = .ok (.pop, 1) := by decide +kernel
theorem dX4_odds_93 : decode cX4_odds 93 = .ok (.aload_n 0, 1) := by decide +kernel
theorem dX4_odds_94 : decode cX4_odds 94 = .ok (.aload_n 0, 1) := by decide +kernel
theorem dX4_odds_95 : decode cX4_odds 95 = .ok (.getfield 37, 3) := by decide +kernel
theorem dX4_odds_98 : decode cX4_odds 98 = .ok (.iload_n 2, 1) := by decide +kernel
theorem dX4_odds_99 : decode cX4_odds 99 = .ok (.iload_n 1, 1) := by decide +kernel
theorem dX4_odds_100 : decode cX4_odds 100 = .ok (.invokevirtual 182, 3) := by decide +kernel
theorem dX4_odds_103 : decode cX4_odds 103 = .ok (.aload_n 0, 1) := by decide +kernel
theorem dX4_odds_104 : decode cX4_odds 104 = .ok (.getfield 37, 3) := by decide +kernel
theorem dX4_odds_107 : decode cX4_odds 107 = .ok (.iload_n 1, 1) := by decide +kernel
theorem dX4_odds_108 : decode cX4_odds 108 = .ok (.iconst 0, 1) := by decide +kernel
theorem dX4_odds_109 : decode cX4_odds 109 = .ok (.invokevirtual 142, 3) := by decide +kernel
theorem dX4_odds_112 : decode cX4_odds 112 = .ok (.ireturn, 1) := by decide +kernel
set_option maxRecDepth 20000 in
theorem ggX4_tenths_X4_isPlank : GoodIn wsX4_tenths wsX4_isPlank := goodIn_r _ [6, 7, 8, 5, 9] (by decide +kernel) (by decide +kernel)
set_option maxRecDepth 20000 in
theorem gX4_tenths_X4_isPlank : GoodIn wsX4_tenths (va_wsS RX4 48 yX4_isPlank wsX4_isPlank) := goodIn_app (goodIn_of _ (by decide +kernel)) ggX4_tenths_X4_isPlank
set_option maxRecDepth 20000 in
theorem ggX4_tenths_X4_within : GoodIn wsX4_tenths wsX4_within := goodIn_r _ [9] (by decide +kernel) (by decide +kernel)
set_option maxRecDepth 20000 in
theorem gX4_tenths_X4_within : GoodIn wsX4_tenths (va_wsS RX4 79 yX4_within wsX4_within) := goodIn_app (goodIn_of _ (by decide +kernel)) ggX4_tenths_X4_within
set_option maxRecDepth 20000 in
theorem ggX4_tenths_X4_at : GoodIn wsX4_tenths wsX4_at := goodIn_r _ [12] (by decide +kernel) (by decide +kernel)
set_option maxRecDepth 20000 in
theorem gX4_tenths_X4_at : GoodIn wsX4_tenths (va_wsS RX4 134 yX4_at wsX4_at) := goodIn_app (goodIn_of _ (by decide +kernel)) ggX4_tenths_X4_at
set_option maxRecDepth 20000 in
theorem ggX4_tenths_X4_put : GoodIn wsX4_tenths wsX4_put := goodIn_r _ [15] (by decide +kernel) (by decide +kernel)
set_option maxRecDepth 20000 in
theorem gX4_tenths_X4_put : GoodIn wsX4_tenths (va_wsS RX4 189 yX4_put wsX4_put) := goodIn_app (goodIn_of _ (by decide +kernel)) ggX4_tenths_X4_put
theorem dX4_tenths_0 : decode cX4_tenths 0 = .ok (.iload_n 1, 1) := by decide +kernel
theorem dX4_tenths_1 : decode cX4_tenths 1 = .ok (.invokestatic 48, 3) := by decide +kernel
theorem dX4_tenths_4 : decode cX4_tenths 4 = .ok (.ifCond .ne 5, 3) := by decide +kernel
theorem dX4_tenths_7 : decode cX4_tenths 7 = .ok (.iconst (-1), 1) := by decide +kernel
theorem dX4_tenths_8 : decode cX4_tenths 8 = .ok (.ireturn, 1) := by decide +kernel
theorem dX4_tenths_9 : decode cX4_tenths 9 = .ok (.iload_n 2, 1) := by decide +kernel
theorem dX4_tenths_10 : decode cX4_tenths 10 = .ok (.iconst 0, 1) := by decide +kernel
theorem dX4_tenths_11 : decode cX4_tenths 11 = .ok (.bipush 10, 2) := by decide +kernel
theorem dX4_tenths_13 : decode cX4_tenths 13 = .ok (.invokestatic 79, 3) := by decide +kernel
theorem dX4_tenths_16 : decode cX4_tenths 16 = .ok (.ifCond .ne 6, 3) := by decide +kernel
theorem dX4_tenths_19 : decode cX4_tenths 19 = .ok (.bipush (-2), 2) := by decide +kernel
theorem dX4_tenths_21 : decode cX4_tenths 21 = .ok (.ireturn, 1) := by decide +kernel
theorem dX4_tenths_22 : decode cX4_tenths 22 = .ok (.aload_n 0, 1) := by decide +kernel
theorem dX4_tenths_23 : decode cX4_tenths 23 = .ok (.getfield 10, 3) := by decide +kernel
theorem dX4_tenths_26 : decode cX4_tenths 26 = .ok (.getfield 186, 3) := by decide +kernel
theorem dX4_tenths_29 : decode cX4_tenths 29 = .ok (.iload_n 1, 1) := by decide +kernel
theorem dX4_tenths_30 : decode cX4_tenths 30 = .ok (.invokestatic 134, 3) := by decide +kernel
theorem dX4_tenths_33 : decode cX4_tenths 33 = .ok (.istore_n 3, 1) := by decide +kernel
theorem dX4_tenths_34 : decode cX4_tenths 34 = .ok (.aload_n 0, 1) := by decide +kernel
theorem dX4_tenths_35 : decode cX4_tenths 35 = .ok (.getfield 10, 3) := by decide +kernel
theorem dX4_tenths_38 : decode cX4_tenths 38 = .ok (.getfield 186, 3) := by decide +kernel
theorem dX4_tenths_41 : decode cX4_tenths 41 = .ok (.iload_n 1, 1) := by decide +kernel
theorem dX4_tenths_42 : decode cX4_tenths 42 = .ok (.iload_n 2, 1) := by decide +kernel
theorem dX4_tenths_43 : decode cX4_tenths 43 = .ok (.invokestatic 189, 3) := by decide +kernel
theorem dX4_tenths_46 : decode cX4_tenths 46 = .ok (.iload_n 3, 1) := by decide +kernel
theorem dX4_tenths_47 : decode cX4_tenths 47 = .ok (.ireturn, 1) := by decide +kernel
set_option maxRecDepth 20000 in
theorem ggX4_safe_X4_isIsland : GoodIn wsX4_safe wsX4_isIsland := goodIn_r _ [5, 6, 7, 4, 8] (by decide +kernel) (by decide +kernel)
set_option maxRecDepth 20000 in
theorem gX4_safe_X4_isIsland : GoodIn wsX4_safe (va_wsS RX4 52 yX4_isIsland wsX4_isIsland) := goodIn_app (goodIn_of _ (by decide +kernel)) ggX4_safe_X4_isIsland
set_option maxRecDepth 20000 in
theorem ggX4_safe_X4_findSafest : GoodIn wsX4_safe wsX4_findSafest := goodIn_r _ [12, 1, 13, 14, 15, 16, 4, 17, 18, 19, 20, 21, 22, 23, 24, 25, 26, 27, 28, 29, 30, 31, 32, 33, 34, 35, 36, 37, 38, 39, 40, 41, 42, 43, 44, 45, 46, 47, 48, 49, 50, 51, 52, 53, 54, 55, 56, 57, 58, 59, 60, 61, 62, 63, 64, 65, 66, 7, 8, 71, 72, 73, 74, 75, 76, 77, 78, 79, 80, 81, 82, 83, 84, 85, 86, 87, 88, 89, 90, 91, 92, 93, 94, 95] (by decide +kernel) (by decide +kernel)
set_option maxRecDepth 20000 in
theorem gX4_safe_X4_findSafest : GoodIn wsX4_safe (wsV RX4 193 RX4 yX4_findSafest wsX4_findSafest) := goodIn_app (goodIn_of _ (by decide +kernel)) ggX4_safe_X4_findSafest
set_option maxRecDepth 20000 in
theorem ggX4_safe_X3_step : GoodIn wsX4_safe wsX3_step := goodIn_r _ [70, 37, 48, 16, 4, 17, 89, 90, 91, 92, 93, 94, 95] (by decide +kernel) (by decide +kernel)
set_option maxRecDepth 20000 in
theorem gX4_safe_X3_step : GoodIn wsX4_safe (wsV RX4 164 RX3 yX3_step wsX3_step) := goodIn_app (goodIn_of _ (by decide +kernel)) ggX4_safe_X3_step
theorem dX4_safe_0 : decode cX4_safe 0 = .ok (.iload_n 1, 1) := by decide +kernel
theorem dX4_safe_1 : decode cX4_safe 1 = .ok (.invokestatic 52, 3) := by decide +kernel
theorem dX4_safe_4 : decode cX4_safe 4 = .ok (.ifCond .eq 10, 3) := by decide +kernel
theorem dX4_safe_7 : decode cX4_safe 7 = .ok (.iload_n 2, 1) := by decide +kernel
theorem dX4_safe_8 : decode cX4_safe 8 = .ok (.invokestatic 52, 3) := by decide +kernel
theorem dX4_safe_11 : decode cX4_safe 11 = .ok (.ifCond .ne 5, 3) := by decide +kernel
theorem dX4_safe_14 : decode cX4_safe 14 = .ok (.iconst (-1), 1) := by decide +kernel
theorem dX4_safe_15 : decode cX4_safe 15 = .ok (.ireturn, 1) := by decide +kernel
theorem dX4_safe_16 : decode cX4_safe 16 = .ok (.aload_n 0, 1) := by decide +kernel
theorem dX4_safe_17 : decode cX4_safe 17 = .ok (.iload_n 1, 1) := by decide +kernel
theorem dX4_safe_18 : decode cX4_safe 18 = .ok (.iload_n 2, 1) := by decide +kernel
theorem dX4_safe_19 : decode cX4_safe 19 = .ok (.invokevirtual 193, 3) := by decide +kernel
theorem dX4_safe_22 : decode cX4_safe 22 = .ok (.aload_n 0, 1) := by decide +kernel
theorem dX4_safe_23 : decode cX4_safe 23 = .ok (.getfield 30, 3) := by decide +kernel
theorem dX4_safe_26 : decode cX4_safe 26 = .ok (.iload_n 3, 1) := by decide +kernel
theorem dX4_safe_27 : decode cX4_safe 27 = .ok (.invokevirtual 164, 3) := by decide +kernel
theorem dX4_safe_30 : decode cX4_safe 30 = .ok (.ireturn, 1) := by decide +kernel
set_option maxRecDepth 20000 in
theorem ggX4_chance_X4_isIsland : GoodIn wsX4_chance wsX4_isIsland := goodIn_r _ [9, 10, 11, 8, 12] (by decide +kernel) (by decide +kernel)
set_option maxRecDepth 20000 in
theorem gX4_chance_X4_isIsland : GoodIn wsX4_chance (va_wsS RX4 52 yX4_isIsland wsX4_isIsland) := goodIn_app (goodIn_of _ (by decide +kernel)) ggX4_chance_X4_isIsland
set_option maxRecDepth 20000 in
theorem ggX4_chance_X4_isChoice : GoodIn wsX4_chance wsX4_isChoice := goodIn_r _ [15] (by decide +kernel) (by decide +kernel)
set_option maxRecDepth 20000 in
theorem gX4_chance_X4_isChoice : GoodIn wsX4_chance (va_wsS RX4 127 yX4_isChoice wsX4_isChoice) := goodIn_app (goodIn_of _ (by decide +kernel)) ggX4_chance_X4_isChoice
set_option maxRecDepth 20000 in
theorem ggX4_chance_X4_findSafest : GoodIn wsX4_chance wsX4_findSafest := goodIn_r _ [19, 3, 20, 21, 22, 23, 8, 24, 25, 26, 27, 28, 29, 30, 31, 32, 33, 34, 35, 36, 37, 38, 39, 40, 41, 42, 43, 44, 45, 46, 47, 48, 49, 50, 51, 52, 53, 54, 55, 56, 57, 58, 59, 60, 61, 62, 63, 64, 65, 66, 67, 68, 69, 70, 71, 72, 73, 11, 12, 78, 79, 80, 81, 82, 83, 84, 92, 93, 94, 95, 96, 97, 98, 99, 100, 101, 102, 85, 86, 87, 88, 89, 90, 91] (by decide +kernel) (by decide +kernel)
set_option maxRecDepth 20000 in
theorem gX4_chance_X4_findSafest : GoodIn wsX4_chance (wsV RX4 193 RX4 yX4_findSafest wsX4_findSafest) := goodIn_app (goodIn_of _ (by decide +kernel)) ggX4_chance_X4_findSafest
set_option maxRecDepth 20000 in
theorem ggX4_chance_X3_found : GoodIn wsX4_chance wsX3_found := goodIn_r _ [59, 44, 85, 86, 87, 88, 89, 90, 91] (by decide +kernel) (by decide +kernel)
set_option maxRecDepth 20000 in
theorem gX4_chance_X3_found : GoodIn wsX4_chance (wsV RX4 156 RX3 yX3_found wsX3_found) := goodIn_app (goodIn_of _ (by decide +kernel)) ggX4_chance_X3_found
set_option maxRecDepth 20000 in
theorem ggX4_chance_X4_sharedDivisor : GoodIn wsX4_chance wsX4_sharedDivisor := goodIn_r _ [77] (by decide +kernel) (by decide +kernel)
set_option maxRecDepth 20000 in
theorem gX4_chance_X4_sharedDivisor : GoodIn wsX4_chance (va_wsS RX4 202 yX4_sharedDivisor wsX4_sharedDivisor) := goodIn_app (goodIn_of _ (by decide +kernel)) ggX4_chance_X4_sharedDivisor
theorem dX4_chance_0 : decode cX4_chance 0 = .ok (.iload_n 1, 1) := by decide +kernel
theorem dX4_chance_1 : decode cX4_chance 1 = .ok (.invokestatic 52, 3) := by decide +kernel
theorem dX4_chance_4 : decode cX4_chance 4 = .ok (.ifCond .eq 10, 3) := by decide +kernel
theorem dX4_chance_7 : decode cX4_chance 7 = .ok (.iload_n 2, 1) := by decide +kernel
theorem dX4_chance_8 : decode cX4_chance 8 = .ok (.invokestatic 52, 3) := by decide +kernel
theorem dX4_chance_11 : decode cX4_chance 11 = .ok (.ifCond .ne 7, 3) := by decide +kernel
theorem dX4_chance_14 : decode cX4_chance 14 = .ok (.ldc2_w 196, 3) := by decide +kernel
theorem dX4_chance_17 : decode cX4_chance 17 = .ok (.lreturn, 1) := by decide +kernel
theorem dX4_chance_18 : decode cX4_chance 18 = .ok (.iload_n 3, 1) := by decide +kernel
theorem dX4_chance_19 : decode cX4_chance 19 = .ok (.invokestatic 127, 3) := by decide +kernel
theorem dX4_chance_22 : decode cX4_chance 22 = .ok (.ifCond .ne 7, 3) := by decide +kernel
theorem dX4_chance_25 : decode cX4_chance 25 = .ok (.ldc2_w 198, 3) := by decide +kernel
theorem dX4_chance_28 : decode cX4_chance 28 = .ok (.lreturn, 1) := by decide +kernel
theorem dX4_chance_29 : decode cX4_chance 29 = .ok (.aload_n 0, 1) := by decide +kernel
theorem dX4_chance_30 : decode cX4_chance 30 = .ok (.iload_n 1, 1) := by decide +kernel
theorem dX4_chance_31 : decode cX4_chance 31 = .ok (.iload_n 2, 1) := by decide +kernel
theorem dX4_chance_32 : decode cX4_chance 32 = .ok (.invokevirtual 193, 3) := by decide +kernel
theorem dX4_chance_35 : decode cX4_chance 35 = .ok (.aload_n 0, 1) := by decide +kernel
theorem dX4_chance_36 : decode cX4_chance 36 = .ok (.getfield 30, 3) := by decide +kernel
theorem dX4_chance_39 : decode cX4_chance 39 = .ok (.invokevirtual 156, 3) := by decide +kernel
theorem dX4_chance_42 : decode cX4_chance 42 = .ok (.ifCond .eq 13, 3) := by decide +kernel
theorem dX4_chance_45 : decode cX4_chance 45 = .ok (.aload_n 0, 1) := by decide +kernel
theorem dX4_chance_46 : decode cX4_chance 46 = .ok (.getfield 30, 3) := by decide +kernel
theorem dX4_chance_49 : decode cX4_chance 49 = .ok (.getfield 160, 3) := by decide +kernel
theorem dX4_chance_52 : decode cX4_chance 52 = .ok (.goto 4, 3) := by decide +kernel
theorem dX4_chance_55 : decode cX4_chance 55 = .ok (.lconst 0, 1) := by decide +kernel
theorem dX4_chance_56 : decode cX4_chance 56 = .ok (.lstore 4, 2) := by decide +kernel
theorem dX4_chance_58 : decode cX4_chance 58 = .ok (.ldc2_w 200, 3) := by decide +kernel
theorem dX4_chance_61 : decode cX4_chance 61 = .ok (.lload 4, 2) := by decide +kernel
theorem dX4_chance_63 : decode cX4_chance 63 = .ok (.invokestatic 202, 3) := by decide +kernel
theorem dX4_chance_66 : decode cX4_chance 66 = .ok (.lstore 6, 2) := by decide +kernel
theorem dX4_chance_68 : decode cX4_chance 68 = .ok (.lload 6, 2) := by decide +kernel
theorem dX4_chance_70 : decode cX4_chance 70 = .ok (.lconst 0, 1) := by decide +kernel
theorem dX4_chance_71 : decode cX4_chance 71 = .ok (.lcmp, 1) := by decide +kernel
theorem dX4_chance_72 : decode cX4_chance 72 = .ok (.ifCond .gt 5, 3) := by decide +kernel
theorem dX4_chance_75 : decode cX4_chance 75 = .ok (.lconst 0, 1) := by decide +kernel
theorem dX4_chance_76 : decode cX4_chance 76 = .ok (.lreturn, 1) := by decide +kernel
theorem dX4_chance_77 : decode cX4_chance 77 = .ok (.iload_n 3, 1) := by decide +kernel
theorem dX4_chance_78 : decode cX4_chance 78 = .ok (.ifCond .ne 11, 3) := by decide +kernel
theorem dX4_chance_81 : decode cX4_chance 81 = .ok (.lload 4, 2) := by decide +kernel
theorem dX4_chance_83 : decode cX4_chance 83 = .ok (.lload 6, 2) := by decide +kernel
theorem dX4_chance_85 : decode cX4_chance 85 = .ok (.ldiv, 1) := by decide +kernel
theorem dX4_chance_86 : decode cX4_chance 86 = .ok (.goto 9, 3) := by decide +kernel
theorem dX4_chance_89 : decode cX4_chance 89 = .ok (.ldc2_w 200, 3) := by decide +kernel
theorem dX4_chance_92 : decode cX4_chance 92 = .ok (.lload 6, 2) := by decide +kernel
theorem dX4_chance_94 : decode cX4_chance 94 = .ok (.ldiv, 1) := by decide +kernel
theorem dX4_chance_95 : decode cX4_chance 95 = .ok (.lreturn, 1) := by decide +kernel
set_option maxRecDepth 20000 in
theorem ggX4_seen_X4_isPlank : GoodIn wsX4_seen wsX4_isPlank := goodIn_r _ [8, 9, 10, 7, 11] (by decide +kernel) (by decide +kernel)
set_option maxRecDepth 20000 in
theorem gX4_seen_X4_isPlank : GoodIn wsX4_seen (va_wsS RX4 48 yX4_isPlank wsX4_isPlank) := goodIn_app (goodIn_of _ (by decide +kernel)) ggX4_seen_X4_isPlank
set_option maxRecDepth 20000 in
theorem ggX4_seen_X4_within : GoodIn wsX4_seen wsX4_within := goodIn_r _ [11] (by decide +kernel) (by decide +kernel)
set_option maxRecDepth 20000 in
theorem gX4_seen_X4_within : GoodIn wsX4_seen (va_wsS RX4 79 yX4_within wsX4_within) := goodIn_app (goodIn_of _ (by decide +kernel)) ggX4_seen_X4_within
set_option maxRecDepth 20000 in
theorem ggX4_seen_X4_put : GoodIn wsX4_seen wsX4_put := goodIn_r _ [14] (by decide +kernel) (by decide +kernel)
set_option maxRecDepth 20000 in
theorem gX4_seen_X4_put : GoodIn wsX4_seen (va_wsS RX4 189 yX4_put wsX4_put) := goodIn_app (goodIn_of _ (by decide +kernel)) ggX4_seen_X4_put
theorem dX4_seen_0 : decode cX4_seen 0 = .ok (.iload_n 1, 1) := by decide +kernel
theorem dX4_seen_1 : decode cX4_seen 1 = .ok (.invokestatic 48, 3) := by decide +kernel
theorem dX4_seen_4 : decode cX4_seen 4 = .ok (.ifCond .ne 5, 3) := by decide +kernel
theorem dX4_seen_7 : decode cX4_seen 7 = .ok (.iconst (-1), 1) := by decide +kernel
theorem dX4_seen_8 : decode cX4_seen 8 = .ok (.ireturn, 1) := by decide +kernel
theorem dX4_seen_9 : decode cX4_seen 9 = .ok (.iload_n 2, 1) := by decide +kernel
theorem dX4_seen_10 : decode cX4_seen 10 = .ok (.iconst 0, 1) := by decide +kernel
theorem dX4_seen_11 : decode cX4_seen 11 = .ok (.bipush 6, 2) := by decide +kernel
theorem dX4_seen_13 : decode cX4_seen 13 = .ok (.invokestatic 79, 3) := by decide +kernel
theorem dX4_seen_16 : decode cX4_seen 16 = .ok (.ifCond .ne 6, 3) := by decide +kernel
theorem dX4_seen_19 : decode cX4_seen 19 = .ok (.bipush (-2), 2) := by decide +kernel
theorem dX4_seen_21 : decode cX4_seen 21 = .ok (.ireturn, 1) := by decide +kernel
theorem dX4_seen_22 : decode cX4_seen 22 = .ok (.aload_n 0, 1) := by decide +kernel
theorem dX4_seen_23 : decode cX4_seen 23 = .ok (.getfield 10, 3) := by decide +kernel
theorem dX4_seen_26 : decode cX4_seen 26 = .ok (.getfield 206, 3) := by decide +kernel
theorem dX4_seen_29 : decode cX4_seen 29 = .ok (.bipush 6, 2) := by decide +kernel
theorem dX4_seen_31 : decode cX4_seen 31 = .ok (.if_icmp .lt 6, 3) := by decide +kernel
theorem dX4_seen_34 : decode cX4_seen 34 = .ok (.bipush (-4), 2) := by decide +kernel
theorem dX4_seen_36 : decode cX4_seen 36 = .ok (.ireturn, 1) := by decide +kernel
theorem dX4_seen_37 : decode cX4_seen 37 = .ok (.aload_n 0, 1) := by decide +kernel
theorem dX4_seen_38 : decode cX4_seen 38 = .ok (.getfield 10, 3) := by decide +kernel
theorem dX4_seen_41 : decode cX4_seen 41 = .ok (.getfield 209, 3) := by decide +kernel
theorem dX4_seen_44 : decode cX4_seen 44 = .ok (.aload_n 0, 1) := by decide +kernel
theorem dX4_seen_45 : decode cX4_seen 45 = .ok (.getfield 10, 3) := by decide +kernel
theorem dX4_seen_48 : decode cX4_seen 48 = .ok (.getfield 206, 3) := by decide +kernel
theorem dX4_seen_51 : decode cX4_seen 51 = .ok (.iload_n 1, 1) := by decide +kernel
theorem dX4_seen_52 : decode cX4_seen 52 = .ok (.invokestatic 189, 3) := by decide +kernel
theorem dX4_seen_55 : decode cX4_seen 55 = .ok (.aload_n 0, 1) := by decide +kernel
theorem dX4_seen_56 : decode cX4_seen 56 = .ok (.getfield 10, 3) := by decide +kernel
theorem dX4_seen_59 : decode cX4_seen 59 = .ok (.getfield 212, 3) := by decide +kernel
theorem dX4_seen_62 : decode cX4_seen 62 = .ok (.aload_n 0, 1) := by decide +kernel
theorem dX4_seen_63 : decode cX4_seen 63 = .ok (.getfield 10, 3) := by decide +kernel
theorem dX4_seen_66 : decode cX4_seen 66 = .ok (.getfield 206, 3) := by decide +kernel
theorem dX4_seen_69 : decode cX4_seen 69 = .ok (.iload_n 2, 1) := by decide +kernel
theorem dX4_seen_70 : decode cX4_seen 70 = .ok (.invokestatic 189, 3) := by decide +kernel
theorem dX4_seen_73 : decode cX4_seen 73 = .ok (.aload_n 0, 1) := by decide +kernel
theorem dX4_seen_74 : decode cX4_seen 74 = .ok (.getfield 10, 3) := by decide +kernel
theorem dX4_seen_77 : decode cX4_seen 77 = .ok (.dup, 1) := by decide +kernel
theorem dX4_seen_78 : decode cX4_seen 78 = .ok (.getfield 206, 3) := by decide +kernel
theorem dX4_seen_81 : decode cX4_seen 81 = .ok (.iconst 1, 1) := by decide +kernel
theorem dX4_seen_82 : decode cX4_seen 82 = .ok (.iadd, 1) := by decide +kernel
theorem dX4_seen_83 : decode cX4_seen 83 = .ok (.putfield 206, 3) := by decide +kernel
theorem dX4_seen_86 : decode cX4_seen 86 = .ok (.aload_n 0, 1) := by decide +kernel
theorem dX4_seen_87 : decode cX4_seen 87 = .ok (.getfield 10, 3) := by decide +kernel
theorem dX4_seen_90 : decode cX4_seen 90 = .ok (.getfield 206, 3) := by decide +kernel
theorem dX4_seen_93 : decode cX4_seen 93 = .ok (.ireturn, 1) := by decide +kernel
theorem dX4_forget_0 : decode cX4_forget 0 = .ok (.aload_n 0, 1) := by decide +kernel
theorem dX4_forget_1 : decode cX4_forget 1 = .ok (.getfield 10, 3) := by decide +kernel
theorem dX4_forget_4 : decode cX4_forget 4 = .ok (.getfield 206, 3) := by decide +kernel
theorem dX4_forget_7 : decode cX4_forget 7 = .ok (.istore_n 1, 1) := by decide +kernel
theorem dX4_forget_8 : decode cX4_forget 8 = .ok (.aload_n 0, 1) := by decide +kernel
theorem dX4_forget_9 : decode cX4_forget 9 = .ok (.getfield 10, 3) := by decide +kernel
theorem dX4_forget_12 : decode cX4_forget 12 = .ok (.iconst 0, 1) := by decide +kernel
theorem dX4_forget_13 : decode cX4_forget 13 = .ok (.putfield 206, 3) := by decide +kernel
theorem dX4_forget_16 : decode cX4_forget 16 = .ok (.iload_n 1, 1) := by decide +kernel
