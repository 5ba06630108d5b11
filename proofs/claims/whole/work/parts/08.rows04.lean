theorem dX5_vain_24 : decode cX5_vain 24 = .ok (.goto 7, 3) := by decide +kernel
theorem dX5_vain_27 : decode cX5_vain 27 = .ok (.aload_n 0, 1) := by decide +kernel
theorem dX5_vain_28 : decode cX5_vain 28 = .ok (.getfield 82, 3) := by decide +kernel
theorem dX5_vain_31 : decode cX5_vain 31 = .ok (.ireturn, 1) := by decide +kernel
set_option maxRecDepth 20000 in
theorem ggX5_done_X5_barOfText : GoodIn wsX5_done wsX5_barOfText := goodIn_r _ [9, 10, 11, 12, 8, 13, 3, 14, 15, 16, 17, 18, 19, 20, 21, 50, 51, 52, 53, 54, 55, 56, 57, 58, 59, 60, 61, 62, 63, 64, 65, 66, 67, 68, 69, 70, 71] (by decide +kernel) (by decide +kernel)
set_option maxRecDepth 20000 in
theorem gX5_done_X5_barOfText : GoodIn wsX5_done (wsV RX5 94 RX5 yX5_barOfText wsX5_barOfText) := goodIn_app (goodIn_of _ (by decide +kernel)) ggX5_done_X5_barOfText
set_option maxRecDepth 20000 in
theorem ggX5_done_X5_goText : GoodIn wsX5_done wsX5_goText := goodIn_r _ [25, 4, 26, 3, 14, 27, 28, 29, 8, 30, 2, 1, 18, 19, 20, 21, 31, 32, 33, 34, 35, 36, 37, 38, 39, 40, 41, 42, 43, 44, 45, 46, 47, 48, 49, 50, 51, 52, 53, 54, 55, 56, 57, 58, 59, 60, 61, 62, 63, 64, 65, 66, 67, 68, 69, 70, 71] (by decide +kernel) (by decide +kernel)
set_option maxRecDepth 20000 in
theorem gX5_done_X5_goText : GoodIn wsX5_done (wsV RX5 97 RX5 yX5_goText wsX5_goText) := goodIn_app (goodIn_of _ (by decide +kernel)) ggX5_done_X5_goText
theorem dX5_done_0 : decode cX5_done 0 = .ok (.aload_n 0, 1) := by decide +kernel
theorem dX5_done_1 : decode cX5_done 1 = .ok (.invokevirtual 94, 3) := by decide +kernel
theorem dX5_done_4 : decode cX5_done 4 = .ok (.istore_n 1, 1) := by decide +kernel
theorem dX5_done_5 : decode cX5_done 5 = .ok (.iload_n 1, 1) := by decide +kernel
theorem dX5_done_6 : decode cX5_done 6 = .ok (.ifCond .ge 5, 3) := by decide +kernel
theorem dX5_done_9 : decode cX5_done 9 = .ok (.iload_n 1, 1) := by decide +kernel
theorem dX5_done_10 : decode cX5_done 10 = .ok (.ireturn, 1) := by decide +kernel
theorem dX5_done_11 : decode cX5_done 11 = .ok (.aload_n 0, 1) := by decide +kernel
theorem dX5_done_12 : decode cX5_done 12 = .ok (.iconst 0, 1) := by decide +kernel
theorem dX5_done_13 : decode cX5_done 13 = .ok (.bipush (-6), 2) := by decide +kernel
theorem dX5_done_15 : decode cX5_done 15 = .ok (.invokevirtual 97, 3) := by decide +kernel
theorem dX5_done_18 : decode cX5_done 18 = .ok (.ifCond .ge 6, 3) := by decide +kernel
theorem dX5_done_21 : decode cX5_done 21 = .ok (.bipush (-5), 2) := by decide +kernel
theorem dX5_done_23 : decode cX5_done 23 = .ok (.ireturn, 1) := by decide +kernel
theorem dX5_done_24 : decode cX5_done 24 = .ok (.iconst 0, 1) := by decide +kernel
theorem dX5_done_25 : decode cX5_done 25 = .ok (.istore_n 2, 1) := by decide +kernel
theorem dX5_done_26 : decode cX5_done 26 = .ok (.iload_n 2, 1) := by decide +kernel
theorem dX5_done_27 : decode cX5_done 27 = .ok (.bipush 36, 2) := by decide +kernel
theorem dX5_done_29 : decode cX5_done 29 = .ok (.if_icmp .ge 21, 3) := by decide +kernel
theorem dX5_done_32 : decode cX5_done 32 = .ok (.aload_n 0, 1) := by decide +kernel
theorem dX5_done_33 : decode cX5_done 33 = .ok (.getfield 25, 3) := by decide +kernel
theorem dX5_done_36 : decode cX5_done 36 = .ok (.iload_n 2, 1) := by decide +kernel
theorem dX5_done_37 : decode cX5_done 37 = .ok (.aload_n 0, 1) := by decide +kernel
theorem dX5_done_38 : decode cX5_done 38 = .ok (.getfield 41, 3) := by decide +kernel
theorem dX5_done_41 : decode cX5_done 41 = .ok (.iload_n 2, 1) := by decide +kernel
theorem dX5_done_42 : decode cX5_done 42 = .ok (.iaload, 1) := by decide +kernel
theorem dX5_done_43 : decode cX5_done 43 = .ok (.iastore, 1) := by decide +kernel
theorem dX5_done_44 : decode cX5_done 44 = .ok (.iinc 2 1, 3) := by decide +kernel
theorem dX5_done_47 : decode cX5_done 47 = .ok (.goto (-21), 3) := by decide +kernel
theorem dX5_done_50 : decode cX5_done 50 = .ok (.aload_n 0, 1) := by decide +kernel
theorem dX5_done_51 : decode cX5_done 51 = .ok (.iconst 0, 1) := by decide +kernel
theorem dX5_done_52 : decode cX5_done 52 = .ok (.putfield 62, 3) := by decide +kernel
theorem dX5_done_55 : decode cX5_done 55 = .ok (.aload_n 0, 1) := by decide +kernel
theorem dX5_done_56 : decode cX5_done 56 = .ok (.getfield 79, 3) := by decide +kernel
theorem dX5_done_59 : decode cX5_done 59 = .ok (.ireturn, 1) := by decide +kernel
set_option maxRecDepth 20000 in
theorem ggX5_beliefOf_X5_bornBy : GoodIn wsX5_beliefOf wsX5_bornBy := goodIn_r _ [6, 1, 7, 8, 9, 10, 11, 12, 13, 14, 15, 16, 17, 18, 19, 20, 21, 22, 23, 24, 25, 26, 27, 28] (by decide +kernel) (by decide +kernel)
set_option maxRecDepth 20000 in
theorem gX5_beliefOf_X5_bornBy : GoodIn wsX5_beliefOf (wsV RX5 101 RX5 yX5_bornBy wsX5_bornBy) := goodIn_app (goodIn_of _ (by decide +kernel)) ggX5_beliefOf_X5_bornBy
theorem dX5_beliefOf_0 : decode cX5_beliefOf 0 = .ok (.iload_n 2, 1) := by decide +kernel
theorem dX5_beliefOf_1 : decode cX5_beliefOf 1 = .ok (.iload_n 3, 1) := by decide +kernel
theorem dX5_beliefOf_2 : decode cX5_beliefOf 2 = .ok (.if_icmp .ne 11, 3) := by decide +kernel
theorem dX5_beliefOf_5 : decode cX5_beliefOf 5 = .ok (.aload_n 0, 1) := by decide +kernel
theorem dX5_beliefOf_6 : decode cX5_beliefOf 6 = .ok (.iload_n 1, 1) := by decide +kernel
theorem dX5_beliefOf_7 : decode cX5_beliefOf 7 = .ok (.invokevirtual 101, 3) := by decide +kernel
theorem dX5_beliefOf_10 : decode cX5_beliefOf 10 = .ok (.goto 14, 3) := by decide +kernel
theorem dX5_beliefOf_13 : decode cX5_beliefOf 13 = .ok (.aload_n 0, 1) := by decide +kernel
theorem dX5_beliefOf_14 : decode cX5_beliefOf 14 = .ok (.getfield 41, 3) := by decide +kernel
theorem dX5_beliefOf_17 : decode cX5_beliefOf 17 = .ok (.bipush 6, 2) := by decide +kernel
theorem dX5_beliefOf_19 : decode cX5_beliefOf 19 = .ok (.iload_n 2, 1) := by decide +kernel
theorem dX5_beliefOf_20 : decode cX5_beliefOf 20 = .ok (.imul, 1) := by decide +kernel
theorem dX5_beliefOf_21 : decode cX5_beliefOf 21 = .ok (.iload_n 1, 1) := by decide +kernel
theorem dX5_beliefOf_22 : decode cX5_beliefOf 22 = .ok (.iadd, 1) := by decide +kernel
theorem dX5_beliefOf_23 : decode cX5_beliefOf 23 = .ok (.iaload, 1) := by decide +kernel
theorem dX5_beliefOf_24 : decode cX5_beliefOf 24 = .ok (.ireturn, 1) := by decide +kernel
set_option maxRecDepth 20000 in
theorem ggX5_bears_X5_is6 : GoodIn wsX5_bears wsX5_is6 := goodIn_r _ [4, 5, 6, 3, 7] (by decide +kernel) (by decide +kernel)
set_option maxRecDepth 20000 in
theorem gX5_bears_X5_is6 : GoodIn wsX5_bears (va_wsS RX5 58 yX5_is6 wsX5_is6) := goodIn_app (goodIn_of _ (by decide +kernel)) ggX5_bears_X5_is6
set_option maxRecDepth 20000 in
theorem ggX5_bears_X5_in : GoodIn wsX5_bears wsX5_in := goodIn_r _ [7] (by decide +kernel) (by decide +kernel)
set_option maxRecDepth 20000 in
theorem gX5_bears_X5_in : GoodIn wsX5_bears (va_wsS RX5 54 yX5_in wsX5_in) := goodIn_app (goodIn_of _ (by decide +kernel)) ggX5_bears_X5_in
set_option maxRecDepth 20000 in
theorem ggX5_bears_X5_asNow : GoodIn wsX5_bears wsX5_asNow := goodIn_r _ [11, 12, 13, 22, 23, 24, 25, 26, 27, 28, 29, 30, 31, 32, 33, 34, 35, 36, 37, 38, 39, 40, 41, 42, 43] (by decide +kernel) (by decide +kernel)
set_option maxRecDepth 20000 in
theorem gX5_bears_X5_asNow : GoodIn wsX5_bears (wsV RX5 73 RX5 yX5_asNow wsX5_asNow) := goodIn_app (goodIn_of _ (by decide +kernel)) ggX5_bears_X5_asNow
set_option maxRecDepth 20000 in
theorem ggX5_bears_X5_beliefOf : GoodIn wsX5_bears wsX5_beliefOf := goodIn_r _ [17, 12, 18, 19, 20, 3, 21, 22, 23, 24, 25, 26, 27, 28, 29, 30, 31, 32, 33, 34, 35, 36, 37, 38, 39, 40, 41, 42, 43] (by decide +kernel) (by decide +kernel)
set_option maxRecDepth 20000 in
theorem gX5_bears_X5_beliefOf : GoodIn wsX5_bears (wsV RX5 105 RX5 yX5_beliefOf wsX5_beliefOf) := goodIn_app (goodIn_of _ (by decide +kernel)) ggX5_bears_X5_beliefOf
theorem dX5_bears_0 : decode cX5_bears 0 = .ok (.iload_n 1, 1) := by decide +kernel
theorem dX5_bears_1 : decode cX5_bears 1 = .ok (.invokestatic 58, 3) := by decide +kernel
theorem dX5_bears_4 : decode cX5_bears 4 = .ok (.ifCond .eq 12, 3) := by decide +kernel
theorem dX5_bears_7 : decode cX5_bears 7 = .ok (.iload_n 2, 1) := by decide +kernel
theorem dX5_bears_8 : decode cX5_bears 8 = .ok (.iconst (-1), 1) := by decide +kernel
theorem dX5_bears_9 : decode cX5_bears 9 = .ok (.iconst 5, 1) := by decide +kernel
theorem dX5_bears_10 : decode cX5_bears 10 = .ok (.invokestatic 54, 3) := by decide +kernel
theorem dX5_bears_13 : decode cX5_bears 13 = .ok (.ifCond .ne 5, 3) := by decide +kernel
theorem dX5_bears_16 : decode cX5_bears 16 = .ok (.iconst (-1), 1) := by decide +kernel
theorem dX5_bears_17 : decode cX5_bears 17 = .ok (.ireturn, 1) := by decide +kernel
theorem dX5_bears_18 : decode cX5_bears 18 = .ok (.aload_n 0, 1) := by decide +kernel
theorem dX5_bears_19 : decode cX5_bears 19 = .ok (.invokevirtual 73, 3) := by decide +kernel
theorem dX5_bears_22 : decode cX5_bears 22 = .ok (.aload_n 0, 1) := by decide +kernel
theorem dX5_bears_23 : decode cX5_bears 23 = .ok (.iload_n 1, 1) := by decide +kernel
theorem dX5_bears_24 : decode cX5_bears 24 = .ok (.iload_n 2, 1) := by decide +kernel
theorem dX5_bears_25 : decode cX5_bears 25 = .ok (.iconst (-1), 1) := by decide +kernel
theorem dX5_bears_26 : decode cX5_bears 26 = .ok (.invokevirtual 105, 3) := by decide +kernel
theorem dX5_bears_29 : decode cX5_bears 29 = .ok (.ireturn, 1) := by decide +kernel
set_option maxRecDepth 20000 in
theorem ggX5_behind_X5_is6 : GoodIn wsX5_behind wsX5_is6 := goodIn_r _ [4, 5, 6, 3, 7] (by decide +kernel) (by decide +kernel)
set_option maxRecDepth 20000 in
theorem gX5_behind_X5_is6 : GoodIn wsX5_behind (va_wsS RX5 58 yX5_is6 wsX5_is6) := goodIn_app (goodIn_of _ (by decide +kernel)) ggX5_behind_X5_is6
set_option maxRecDepth 20000 in
theorem ggX5_behind_X5_in : GoodIn wsX5_behind wsX5_in := goodIn_r _ [7] (by decide +kernel) (by decide +kernel)
set_option maxRecDepth 20000 in
theorem gX5_behind_X5_in : GoodIn wsX5_behind (va_wsS RX5 54 yX5_in wsX5_in) := goodIn_app (goodIn_of _ (by decide +kernel)) ggX5_behind_X5_in
set_option maxRecDepth 20000 in
theorem ggX5_behind_X5_barOfText : GoodIn wsX5_behind wsX5_barOfText := goodIn_r _ [11, 12, 13, 14, 3, 15, 16, 17, 5, 6, 7, 18, 19, 20, 21, 61, 62, 63, 64, 65, 66, 67, 68, 69, 70, 71, 72, 73, 74, 75, 76, 77, 78, 79, 80, 81, 82] (by decide +kernel) (by decide +kernel)
set_option maxRecDepth 20000 in
theorem gX5_behind_X5_barOfText : GoodIn wsX5_behind (wsV RX5 94 RX5 yX5_barOfText wsX5_barOfText) := goodIn_app (goodIn_of _ (by decide +kernel)) ggX5_behind_X5_barOfText
set_option maxRecDepth 20000 in
theorem ggX5_behind_X5_goText : GoodIn wsX5_behind wsX5_goText := goodIn_r _ [25, 26, 27, 16, 17, 28, 29, 30, 3, 31, 32, 33, 18, 19, 20, 21, 34, 35, 36, 37, 38, 39, 40, 41, 42, 43, 44, 45, 46, 47, 48, 49, 50, 51, 52, 61, 62, 63, 64, 65, 66, 67, 68, 69, 70, 71, 72, 73, 74, 75, 76, 77, 78, 79, 80, 81, 82] (by decide +kernel) (by decide +kernel)
set_option maxRecDepth 20000 in
theorem gX5_behind_X5_goText : GoodIn wsX5_behind (wsV RX5 97 RX5 yX5_goText wsX5_goText) := goodIn_app (goodIn_of _ (by decide +kernel)) ggX5_behind_X5_goText
set_option maxRecDepth 20000 in
theorem ggX5_behind_X5_beliefOf : GoodIn wsX5_behind wsX5_beliefOf := goodIn_r _ [56, 32, 57, 58, 59, 3, 60, 61, 62, 63, 64, 65, 66, 67, 68, 69, 70, 71, 72, 73, 74, 75, 76, 77, 78, 79, 80, 81, 82] (by decide +kernel) (by decide +kernel)
set_option maxRecDepth 20000 in
theorem gX5_behind_X5_beliefOf : GoodIn wsX5_behind (wsV RX5 105 RX5 yX5_beliefOf wsX5_beliefOf) := goodIn_app (goodIn_of _ (by decide +kernel)) ggX5_behind_X5_beliefOf
theorem dX5_behind_0 : decode cX5_behind 0 = .ok (.iload_n 1, 1) := by decide +kernel
theorem dX5_behind_1 : decode cX5_behind 1 = .ok (.invokestatic 58, 3) := by decide +kernel
theorem dX5_behind_4 : decode cX5_behind 4 = .ok (.ifCond .eq 12, 3) := by decide +kernel
theorem dX5_behind_7 : decode cX5_behind 7 = .ok (.iload_n 2, 1) := by decide +kernel
theorem dX5_behind_8 : decode cX5_behind 8 = .ok (.iconst (-1), 1) := by decide +kernel
theorem dX5_behind_9 : decode cX5_behind 9 = .ok (.iconst 5, 1) := by decide +kernel
theorem dX5_behind_10 : decode cX5_behind 10 = .ok (.invokestatic 54, 3) := by decide +kernel
theorem dX5_behind_13 : decode cX5_behind 13 = .ok (.ifCond .ne 5, 3) := by decide +kernel
theorem dX5_behind_16 : decode cX5_behind 16 = .ok (.iconst (-1), 1) := by decide +kernel
theorem dX5_behind_17 : decode cX5_behind 17 = .ok (.ireturn, 1) := by decide +kernel
theorem dX5_behind_18 : decode cX5_behind 18 = .ok (.aload_n 0, 1) := by decide +kernel
theorem dX5_behind_19 : decode cX5_behind 19 = .ok (.invokevirtual 94, 3) := by decide +kernel
theorem dX5_behind_22 : decode cX5_behind 22 = .ok (.istore_n 3, 1) := by decide +kernel
theorem dX5_behind_23 : decode cX5_behind 23 = .ok (.iload_n 3, 1) := by decide +kernel
theorem dX5_behind_24 : decode cX5_behind 24 = .ok (.ifCond .ge 5, 3) := by decide +kernel
theorem dX5_behind_27 : decode cX5_behind 27 = .ok (.iload_n 3, 1) := by decide +kernel
theorem dX5_behind_28 : decode cX5_behind 28 = .ok (.ireturn, 1) := by decide +kernel
theorem dX5_behind_29 : decode cX5_behind 29 = .ok (.aload_n 0, 1) := by decide +kernel
theorem dX5_behind_30 : decode cX5_behind 30 = .ok (.iconst 0, 1) := by decide +kernel
theorem dX5_behind_31 : decode cX5_behind 31 = .ok (.bipush (-6), 2) := by decide +kernel
theorem dX5_behind_33 : decode cX5_behind 33 = .ok (.invokevirtual 97, 3) := by decide +kernel
theorem dX5_behind_36 : decode cX5_behind 36 = .ok (.ifCond .ge 8, 3) := by decide +kernel
theorem dX5_behind_39 : decode cX5_behind 39 = .ok (.bipush (-5), 2) := by decide +kernel
theorem dX5_behind_41 : decode cX5_behind 41 = .ok (.goto 10, 3) := by decide +kernel
theorem dX5_behind_44 : decode cX5_behind 44 = .ok (.aload_n 0, 1) := by decide +kernel
theorem dX5_behind_45 : decode cX5_behind 45 = .ok (.iload_n 1, 1) := by decide +kernel
theorem dX5_behind_46 : decode cX5_behind 46 = .ok (.iload_n 2, 1) := by decide +kernel
theorem dX5_behind_47 : decode cX5_behind 47 = .ok (.iconst (-1), 1) := by decide +kernel
theorem dX5_behind_48 : decode cX5_behind 48 = .ok (.invokevirtual 105, 3) := by decide +kernel
theorem dX5_behind_51 : decode cX5_behind 51 = .ok (.ireturn, 1) := by decide +kernel
theorem dX5_powerOf_0 : decode cX5_powerOf 0 = .ok (.iconst 1, 1) := by decide +kernel
theorem dX5_powerOf_1 : decode cX5_powerOf 1 = .ok (.istore_n 2, 1) := by decide +kernel
theorem dX5_powerOf_2 : decode cX5_powerOf 2 = .ok (.iconst 0, 1) := by decide +kernel
theorem dX5_powerOf_3 : decode cX5_powerOf 3 = .ok (.istore_n 3, 1) := by decide +kernel
theorem dX5_powerOf_4 : decode cX5_powerOf 4 = .ok (.iload_n 3, 1) := by decide +kernel
theorem dX5_powerOf_5 : decode cX5_powerOf 5 = .ok (.iload_n 1, 1) := by decide +kernel
theorem dX5_powerOf_6 : decode cX5_powerOf 6 = .ok (.if_icmp .ge 13, 3) := by decide +kernel
theorem dX5_powerOf_9 : decode cX5_powerOf 9 = .ok (.iload_n 2, 1) := by decide +kernel
theorem dX5_powerOf_10 : decode cX5_powerOf 10 = .ok (.iload_n 0, 1) := by decide +kernel
theorem dX5_powerOf_11 : decode cX5_powerOf 11 = .ok (.imul, 1) := by decide +kernel
theorem dX5_powerOf_12 : decode cX5_powerOf 12 = .ok (.istore_n 2, 1) := by decide +kernel
theorem dX5_powerOf_13 : decode cX5_powerOf 13 = .ok (.iinc 3 1, 3) := by decide +kernel
theorem dX5_powerOf_16 : decode cX5_powerOf 16 = .ok (.goto (-12), 3) := by decide +kernel
theorem dX5_powerOf_19 : decode cX5_powerOf 19 = .ok (.iload_n 2, 1) := by decide +kernel
theorem dX5_powerOf_20 : decode cX5_powerOf 20 = .ok (.ireturn, 1) := by decide +kernel
theorem dX5_over_0 : decode cX5_over 0 = .ok (.aload_n 0, 1) := by decide +kernel
theorem dX5_over_1 : decode cX5_over 1 = .ok (.getfield 7, 3) := by decide +kernel
theorem dX5_over_4 : decode cX5_over 4 = .ok (.iload_n 1, 1) := by decide +kernel
theorem dX5_over_5 : decode cX5_over 5 = .ok (.iaload, 1) := by decide +kernel
theorem dX5_over_6 : decode cX5_over 6 = .ok (.iload_n 2, 1) := by decide +kernel
theorem dX5_over_7 : decode cX5_over 7 = .ok (.if_icmp .ne 12, 3) := by decide +kernel
theorem dX5_over_10 : decode cX5_over 10 = .ok (.aload_n 0, 1) := by decide +kernel
theorem dX5_over_11 : decode cX5_over 11 = .ok (.getfield 13, 3) := by decide +kernel
theorem dX5_over_14 : decode cX5_over 14 = .ok (.iload_n 1, 1) := by decide +kernel
theorem dX5_over_15 : decode cX5_over 15 = .ok (.iaload, 1) := by decide +kernel
theorem dX5_over_16 : decode cX5_over 16 = .ok (.goto 24, 3) := by decide +kernel
theorem dX5_over_19 : decode cX5_over 19 = .ok (.aload_n 0, 1) := by decide +kernel
theorem dX5_over_20 : decode cX5_over 20 = .ok (.getfield 13, 3) := by decide +kernel
theorem dX5_over_23 : decode cX5_over 23 = .ok (.iload_n 1, 1) := by decide +kernel
theorem dX5_over_24 : decode cX5_over 24 = .ok (.iaload, 1) := by decide +kernel
theorem dX5_over_25 : decode cX5_over 25 = .ok (.iload_n 2, 1) := by decide +kernel
theorem dX5_over_26 : decode cX5_over 26 = .ok (.if_icmp .ne 12, 3) := by decide +kernel
theorem dX5_over_29 : decode cX5_over 29 = .ok (.aload_n 0, 1) := by decide +kernel
theorem dX5_over_30 : decode cX5_over 30 = .ok (.getfield 7, 3) := by decide +kernel
theorem dX5_over_33 : decode cX5_over 33 = .ok (.iload_n 1, 1) := by decide +kernel
theorem dX5_over_34 : decode cX5_over 34 = .ok (.iaload, 1) := by decide +kernel
theorem dX5_over_35 : decode cX5_over 35 = .ok (.goto 5, 3) := by decide +kernel
theorem dX5_over_38 : decode cX5_over 38 = .ok (.bipush (-6), 2) := by decide +kernel
theorem dX5_over_40 : decode cX5_over 40 = .ok (.ireturn, 1) := by decide +kernel
set_option maxRecDepth 20000 in
theorem ggX5_falls_X5_is6 : GoodIn wsX5_falls wsX5_is6 := goodIn_r _ [4, 5, 6, 3, 7] (by decide +kernel) (by decide +kernel)
set_option maxRecDepth 20000 in
theorem gX5_falls_X5_is6 : GoodIn wsX5_falls (va_wsS RX5 58 yX5_is6 wsX5_is6) := goodIn_app (goodIn_of _ (by decide +kernel)) ggX5_falls_X5_is6
set_option maxRecDepth 20000 in
theorem ggX5_falls_X5_in : GoodIn wsX5_falls wsX5_in := goodIn_r _ [7] (by decide +kernel) (by decide +kernel)
set_option maxRecDepth 20000 in
theorem gX5_falls_X5_in : GoodIn wsX5_falls (va_wsS RX5 54 yX5_in wsX5_in) := goodIn_app (goodIn_of _ (by decide +kernel)) ggX5_falls_X5_in
set_option maxRecDepth 20000 in
theorem ggX5_falls_X5_powerOf : GoodIn wsX5_falls wsX5_powerOf := goodIn_r _ [10] (by decide +kernel) (by decide +kernel)
set_option maxRecDepth 20000 in
theorem gX5_falls_X5_powerOf : GoodIn wsX5_falls (va_wsS RX5 109 yX5_powerOf wsX5_powerOf) := goodIn_app (goodIn_of _ (by decide +kernel)) ggX5_falls_X5_powerOf
set_option maxRecDepth 20000 in
theorem ggX5_falls_X5_asNow : GoodIn wsX5_falls wsX5_asNow := goodIn_r _ [14, 15, 16, 27, 28, 29, 30, 31, 32, 33, 34, 35, 36, 37, 38, 39, 40, 41, 42, 43, 44, 45, 46, 47, 48] (by decide +kernel) (by decide +kernel)
set_option maxRecDepth 20000 in
theorem gX5_falls_X5_asNow : GoodIn wsX5_falls (wsV RX5 73 RX5 yX5_asNow wsX5_asNow) := goodIn_app (goodIn_of _ (by decide +kernel)) ggX5_falls_X5_asNow
set_option maxRecDepth 20000 in
theorem ggX5_falls_X5_over : GoodIn wsX5_falls wsX5_over := goodIn_r _ [20, 21, 22, 27, 28, 29, 30, 31, 32, 33, 34, 35, 36, 37, 38, 39, 40, 41, 42, 43, 44, 45, 46, 47, 48] (by decide +kernel) (by decide +kernel)
set_option maxRecDepth 20000 in
theorem gX5_falls_X5_over : GoodIn wsX5_falls (wsV RX5 112 RX5 yX5_over wsX5_over) := goodIn_app (goodIn_of _ (by decide +kernel)) ggX5_falls_X5_over
set_option maxRecDepth 20000 in
theorem ggX5_falls_X5_bornBy : GoodIn wsX5_falls wsX5_bornBy := goodIn_r _ [26, 15, 27, 28, 29, 30, 31, 32, 33, 34, 35, 36, 37, 38, 39, 40, 41, 42, 43, 44, 45, 46, 47, 48] (by decide +kernel) (by decide +kernel)
set_option maxRecDepth 20000 in
theorem gX5_falls_X5_bornBy : GoodIn wsX5_falls (wsV RX5 101 RX5 yX5_bornBy wsX5_bornBy) := goodIn_app (goodIn_of _ (by decide +kernel)) ggX5_falls_X5_bornBy
theorem dX5_falls_0 : decode cX5_falls 0 = .ok (.iload_n 1, 1) := by decide +kernel
theorem dX5_falls_1 : decode cX5_falls 1 = .ok (.invokestatic 58, 3) := by decide +kernel
theorem dX5_falls_4 : decode cX5_falls 4 = .ok (.ifCond .ne 5, 3) := by decide +kernel
theorem dX5_falls_7 : decode cX5_falls 7 = .ok (.iconst (-1), 1) := by decide +kernel
theorem dX5_falls_8 : decode cX5_falls 8 = .ok (.ireturn, 1) := by decide +kernel
theorem dX5_falls_9 : decode cX5_falls 9 = .ok (.iload_n 3, 1) := by decide +kernel
theorem dX5_falls_10 : decode cX5_falls 10 = .ok (.iconst 0, 1) := by decide +kernel
theorem dX5_falls_11 : decode cX5_falls 11 = .ok (.bipush 6, 2) := by decide +kernel
theorem dX5_falls_13 : decode cX5_falls 13 = .ok (.invokestatic 54, 3) := by decide +kernel
theorem dX5_falls_16 : decode cX5_falls 16 = .ok (.ifCond .eq 54, 3) := by decide +kernel
theorem dX5_falls_19 : decode cX5_falls 19 = .ok (.iload_n 2, 1) := by decide +kernel
theorem dX5_falls_20 : decode cX5_falls 20 = .ok (.iconst 0, 1) := by decide +kernel
theorem dX5_falls_21 : decode cX5_falls 21 = .ok (.bipush 10, 2) := by decide +kernel
theorem dX5_falls_23 : decode cX5_falls 23 = .ok (.iload_n 3, 1) := by decide +kernel
theorem dX5_falls_24 : decode cX5_falls 24 = .ok (.iconst 0, 1) := by decide +kernel
theorem dX5_falls_25 : decode cX5_falls 25 = .ok (.bipush 6, 2) := by decide +kernel
theorem dX5_falls_27 : decode cX5_falls 27 = .ok (.invokestatic 54, 3) := by decide +kernel
theorem dX5_falls_30 : decode cX5_falls 30 = .ok (.ifCond .eq 7, 3) := by decide +kernel
theorem dX5_falls_33 : decode cX5_falls 33 = .ok (.iload_n 3, 1) := by decide +kernel
theorem dX5_falls_34 : decode cX5_falls 34 = .ok (.goto 4, 3) := by decide +kernel
theorem dX5_falls_37 : decode cX5_falls 37 = .ok (.iconst 0, 1) := by decide +kernel
theorem dX5_falls_38 : decode cX5_falls 38 = .ok (.invokestatic 109, 3) := by decide +kernel
theorem dX5_falls_41 : decode cX5_falls 41 = .ok (.iconst 1, 1) := by decide +kernel
theorem dX5_falls_42 : decode cX5_falls 42 = .ok (.isub, 1) := by decide +kernel
theorem dX5_falls_43 : decode cX5_falls 43 = .ok (.invokestatic 54, 3) := by decide +kernel
theorem dX5_falls_46 : decode cX5_falls 46 = .ok (.ifCond .eq 24, 3) := by decide +kernel
theorem dX5_falls_49 : decode cX5_falls 49 = .ok (.iload 4, 2) := by decide +kernel
theorem dX5_falls_51 : decode cX5_falls 51 = .ok (.iconst 1, 1) := by decide +kernel
theorem dX5_falls_52 : decode cX5_falls 52 = .ok (.bipush 6, 2) := by decide +kernel
theorem dX5_falls_54 : decode cX5_falls 54 = .ok (.invokestatic 54, 3) := by decide +kernel
theorem dX5_falls_57 : decode cX5_falls 57 = .ok (.ifCond .eq 13, 3) := by decide +kernel
theorem dX5_falls_60 : decode cX5_falls 60 = .ok (.iload 5, 2) := by decide +kernel
theorem dX5_falls_62 : decode cX5_falls 62 = .ok (.iconst 0, 1) := by decide +kernel
theorem dX5_falls_63 : decode cX5_falls 63 = .ok (.iconst 1, 1) := by decide +kernel
theorem dX5_falls_64 : decode cX5_falls 64 = .ok (.invokestatic 54, 3) := by decide +kernel
theorem dX5_falls_67 : decode cX5_falls 67 = .ok (.ifCond .ne 6, 3) := by decide +kernel
theorem dX5_falls_70 : decode cX5_falls 70 = .ok (.bipush (-2), 2) := by decide +kernel
theorem dX5_falls_72 : decode cX5_falls 72 = .ok (.ireturn, 1) := by decide +kernel
theorem dX5_falls_73 : decode cX5_falls 73 = .ok (.aload_n 0, 1) := by decide +kernel
theorem dX5_falls_74 : decode cX5_falls 74 = .ok (.invokevirtual 73, 3) := by decide +kernel
theorem dX5_falls_77 : decode cX5_falls 77 = .ok (.iload_n 1, 1) := by decide +kernel
theorem dX5_falls_78 : decode cX5_falls 78 = .ok (.istore 6, 2) := by decide +kernel
theorem dX5_falls_80 : decode cX5_falls 80 = .ok (.bipush (-6), 2) := by decide +kernel
theorem dX5_falls_82 : decode cX5_falls 82 = .ok (.istore 7, 2) := by decide +kernel
theorem dX5_falls_84 : decode cX5_falls 84 = .ok (.iload_n 1, 1) := by decide +kernel
theorem dX5_falls_85 : decode cX5_falls 85 = .ok (.istore 8, 2) := by decide +kernel
theorem dX5_falls_87 : decode cX5_falls 87 = .ok (.iconst 0, 1) := by decide +kernel
theorem dX5_falls_88 : decode cX5_falls 88 = .ok (.istore 9, 2) := by decide +kernel
theorem dX5_falls_90 : decode cX5_falls 90 = .ok (.iload 9, 2) := by decide +kernel
theorem dX5_falls_92 : decode cX5_falls 92 = .ok (.iload_n 3, 1) := by decide +kernel
theorem dX5_falls_93 : decode cX5_falls 93 = .ok (.if_icmp .ge 95, 3) := by decide +kernel
theorem dX5_falls_96 : decode cX5_falls 96 = .ok (.iload_n 2, 1) := by decide +kernel
theorem dX5_falls_97 : decode cX5_falls 97 = .ok (.bipush 10, 2) := by decide +kernel
theorem dX5_falls_99 : decode cX5_falls 99 = .ok (.iload_n 3, 1) := by decide +kernel
theorem dX5_falls_100 : decode cX5_falls 100 = .ok (.iconst 1, 1) := by decide +kernel
theorem dX5_falls_101 : decode cX5_falls 101 = .ok (.isub, 1) := by decide +kernel
theorem dX5_falls_102 : decode cX5_falls 102 = .ok (.iload 9, 2) := by decide +kernel
theorem dX5_falls_104 : decode cX5_falls 104 = .ok (.isub, 1) := by decide +kernel
theorem dX5_falls_105 : decode cX5_falls 105 = .ok (.invokestatic 109, 3) := by decide +kernel
theorem dX5_falls_108 : decode cX5_falls 108 = .ok (.idiv, 1) := by decide +kernel
theorem dX5_falls_109 : decode cX5_falls 109 = .ok (.bipush 10, 2) := by decide +kernel
theorem dX5_falls_111 : decode cX5_falls 111 = .ok (.irem, 1) := by decide +kernel
theorem dX5_falls_112 : decode cX5_falls 112 = .ok (.istore 10, 2) := by decide +kernel
theorem dX5_falls_114 : decode cX5_falls 114 = .ok (.iload 10, 2) := by decide +kernel
theorem dX5_falls_116 : decode cX5_falls 116 = .ok (.iconst 5, 1) := by decide +kernel
theorem dX5_falls_117 : decode cX5_falls 117 = .ok (.if_icmp .le 8, 3) := by decide +kernel
theorem dX5_falls_120 : decode cX5_falls 120 = .ok (.bipush (-6), 2) := by decide +kernel
theorem dX5_falls_122 : decode cX5_falls 122 = .ok (.goto 11, 3) := by decide +kernel
theorem dX5_falls_125 : decode cX5_falls 125 = .ok (.aload_n 0, 1) := by decide +kernel
theorem dX5_falls_126 : decode cX5_falls 126 = .ok (.iload 10, 2) := by decide +kernel
theorem dX5_falls_128 : decode cX5_falls 128 = .ok (.iload 6, 2) := by decide +kernel
theorem dX5_falls_130 : decode cX5_falls 130 = .ok (.invokevirtual 112, 3) := by decide +kernel
theorem dX5_falls_133 : decode cX5_falls 133 = .ok (.istore 6, 2) := by decide +kernel
theorem dX5_falls_135 : decode cX5_falls 135 = .ok (.iload 6, 2) := by decide +kernel
theorem dX5_falls_137 : decode cX5_falls 137 = .ok (.ifCond .ge 6, 3) := by decide +kernel
theorem dX5_falls_140 : decode cX5_falls 140 = .ok (.bipush (-5), 2) := by decide +kernel
theorem dX5_falls_142 : decode cX5_falls 142 = .ok (.ireturn, 1) := by decide +kernel
theorem dX5_falls_143 : decode cX5_falls 143 = .ok (.iload 7, 2) := by decide +kernel
theorem dX5_falls_145 : decode cX5_falls 145 = .ok (.ifCond .ge 19, 3) := by decide +kernel
theorem dX5_falls_148 : decode cX5_falls 148 = .ok (.aload_n 0, 1) := by decide +kernel
theorem dX5_falls_149 : decode cX5_falls 149 = .ok (.iload 10, 2) := by decide +kernel
theorem dX5_falls_151 : decode cX5_falls 151 = .ok (.invokevirtual 101, 3) := by decide +kernel
theorem dX5_falls_154 : decode cX5_falls 154 = .ok (.iload 4, 2) := by decide +kernel
theorem dX5_falls_156 : decode cX5_falls 156 = .ok (.if_icmp .ge 8, 3) := by decide +kernel
theorem dX5_falls_159 : decode cX5_falls 159 = .ok (.iload 9, 2) := by decide +kernel
theorem dX5_falls_161 : decode cX5_falls 161 = .ok (.goto 5, 3) := by decide +kernel
theorem dX5_falls_164 : decode cX5_falls 164 = .ok (.iload 7, 2) := by decide +kernel
theorem dX5_falls_166 : decode cX5_falls 166 = .ok (.istore 7, 2) := by decide +kernel
theorem dX5_falls_168 : decode cX5_falls 168 = .ok (.iload 7, 2) := by decide +kernel
theorem dX5_falls_170 : decode cX5_falls 170 = .ok (.ifCond .ge 8, 3) := by decide +kernel
theorem dX5_falls_173 : decode cX5_falls 173 = .ok (.iload 6, 2) := by decide +kernel
theorem dX5_falls_175 : decode cX5_falls 175 = .ok (.goto 5, 3) := by decide +kernel
theorem dX5_falls_178 : decode cX5_falls 178 = .ok (.iload 8, 2) := by decide +kernel
theorem dX5_falls_180 : decode cX5_falls 180 = .ok (.istore 8, 2) := by decide +kernel
theorem dX5_falls_182 : decode cX5_falls 182 = .ok (.iinc 9 1, 3) := by decide +kernel
theorem dX5_falls_185 : decode cX5_falls 185 = .ok (.goto (-95), 3) := by decide +kernel
theorem dX5_falls_188 : decode cX5_falls 188 = .ok (.iload 5, 2) := by decide +kernel
theorem dX5_falls_190 : decode cX5_falls 190 = .ok (.ifCond .ne 8, 3) := by decide +kernel
theorem dX5_falls_193 : decode cX5_falls 193 = .ok (.iload 7, 2) := by decide +kernel
theorem dX5_falls_195 : decode cX5_falls 195 = .ok (.goto 5, 3) := by decide +kernel
theorem dX5_falls_198 : decode cX5_falls 198 = .ok (.iload 8, 2) := by decide +kernel
theorem dX5_falls_200 : decode cX5_falls 200 = .ok (.ireturn, 1) := by decide +kernel
set_option maxRecDepth 20000 in
theorem ggX5_plankOf_X5_powerOf : GoodIn wsX5_plankOf wsX5_powerOf := goodIn_r _ [4] (by decide +kernel) (by decide +kernel)
set_option maxRecDepth 20000 in
theorem gX5_plankOf_X5_powerOf : GoodIn wsX5_plankOf (va_wsS RX5 109 yX5_powerOf wsX5_powerOf) := goodIn_app (goodIn_of _ (by decide +kernel)) ggX5_plankOf_X5_powerOf
theorem dX5_plankOf_0 : decode cX5_plankOf 0 = .ok (.iload_n 1, 1) := by decide +kernel
theorem dX5_plankOf_1 : decode cX5_plankOf 1 = .ok (.bipush 6, 2) := by decide +kernel
theorem dX5_plankOf_3 : decode cX5_plankOf 3 = .ok (.iload_n 2, 1) := by decide +kernel
theorem dX5_plankOf_4 : decode cX5_plankOf 4 = .ok (.iconst 1, 1) := by decide +kernel
theorem dX5_plankOf_5 : decode cX5_plankOf 5 = .ok (.isub, 1) := by decide +kernel
theorem dX5_plankOf_6 : decode cX5_plankOf 6 = .ok (.iload_n 3, 1) := by decide +kernel
theorem dX5_plankOf_7 : decode cX5_plankOf 7 = .ok (.isub, 1) := by decide +kernel
theorem dX5_plankOf_8 : decode cX5_plankOf 8 = .ok (.invokestatic 109, 3) := by decide +kernel
theorem dX5_plankOf_11 : decode cX5_plankOf 11 = .ok (.idiv, 1) := by decide +kernel
theorem dX5_plankOf_12 : decode cX5_plankOf 12 = .ok (.bipush 6, 2) := by decide +kernel
theorem dX5_plankOf_14 : decode cX5_plankOf 14 = .ok (.irem, 1) := by decide +kernel
theorem dX5_plankOf_15 : decode cX5_plankOf 15 = .ok (.ireturn, 1) := by decide +kernel
set_option maxRecDepth 20000 in
theorem ggX5_layWay_X5_powerOf : GoodIn wsX5_layWay wsX5_powerOf := goodIn_r _ [9] (by decide +kernel) (by decide +kernel)
set_option maxRecDepth 20000 in
theorem gX5_layWay_X5_powerOf : GoodIn wsX5_layWay (va_wsS RX5 109 yX5_powerOf wsX5_powerOf) := goodIn_app (goodIn_of _ (by decide +kernel)) ggX5_layWay_X5_powerOf
set_option maxRecDepth 20000 in
theorem ggX5_layWay_X5_plankOf : GoodIn wsX5_layWay wsX5_plankOf := goodIn_r _ [13, 6, 7, 8, 9] (by decide +kernel) (by decide +kernel)
set_option maxRecDepth 20000 in
theorem gX5_layWay_X5_plankOf : GoodIn wsX5_layWay (wsV RX5 125 RX5 yX5_plankOf wsX5_plankOf) := goodIn_app (goodIn_of _ (by decide +kernel)) ggX5_layWay_X5_plankOf
set_option maxRecDepth 20000 in
theorem ggX5_layWay_X5_over : GoodIn wsX5_layWay wsX5_over := goodIn_r _ [17, 18, 19, 20, 21, 22, 23, 24, 25, 26, 27, 28, 29, 30, 31, 32, 33, 34, 35, 36, 37, 38, 39, 40, 41] (by decide +kernel) (by decide +kernel)
set_option maxRecDepth 20000 in
theorem gX5_layWay_X5_over : GoodIn wsX5_layWay (wsV RX5 112 RX5 yX5_over wsX5_over) := goodIn_app (goodIn_of _ (by decide +kernel)) ggX5_layWay_X5_over
theorem dX5_layWay_0 : decode cX5_layWay 0 = .ok (.aload_n 0, 1) := by decide +kernel
theorem dX5_layWay_1 : decode cX5_layWay 1 = .ok (.ldc 115, 2) := by decide +kernel
theorem dX5_layWay_3 : decode cX5_layWay 3 = .ok (.putfield 116, 3) := by decide +kernel
theorem dX5_layWay_6 : decode cX5_layWay 6 = .ok (.aload_n 0, 1) := by decide +kernel
theorem dX5_layWay_7 : decode cX5_layWay 7 = .ok (.iconst 0, 1) := by decide +kernel
theorem dX5_layWay_8 : decode cX5_layWay 8 = .ok (.putfield 119, 3) := by decide +kernel
theorem dX5_layWay_11 : decode cX5_layWay 11 = .ok (.aload_n 0, 1) := by decide +kernel
theorem dX5_layWay_12 : decode cX5_layWay 12 = .ok (.iconst 0, 1) := by decide +kernel
theorem dX5_layWay_13 : decode cX5_layWay 13 = .ok (.putfield 122, 3) := by decide +kernel
theorem dX5_layWay_16 : decode cX5_layWay 16 = .ok (.iconst 0, 1) := by decide +kernel
theorem dX5_layWay_17 : decode cX5_layWay 17 = .ok (.istore_n 3, 1) := by decide +kernel
theorem dX5_layWay_18 : decode cX5_layWay 18 = .ok (.iload_n 3, 1) := by decide +kernel
theorem dX5_layWay_19 : decode cX5_layWay 19 = .ok (.bipush 6, 2) := by decide +kernel
theorem dX5_layWay_21 : decode cX5_layWay 21 = .ok (.if_icmp .ge 120, 3) := by decide +kernel
theorem dX5_layWay_24 : decode cX5_layWay 24 = .ok (.iconst 0, 1) := by decide +kernel
theorem dX5_layWay_25 : decode cX5_layWay 25 = .ok (.istore 4, 2) := by decide +kernel
theorem dX5_layWay_27 : decode cX5_layWay 27 = .ok (.iload 4, 2) := by decide +kernel
theorem dX5_layWay_29 : decode cX5_layWay 29 = .ok (.bipush 6, 2) := by decide +kernel
theorem dX5_layWay_31 : decode cX5_layWay 31 = .ok (.iload_n 3, 1) := by decide +kernel
theorem dX5_layWay_32 : decode cX5_layWay 32 = .ok (.invokestatic 109, 3) := by decide +kernel
theorem dX5_layWay_35 : decode cX5_layWay 35 = .ok (.if_icmp .ge 100, 3) := by decide +kernel
theorem dX5_layWay_38 : decode cX5_layWay 38 = .ok (.iload_n 1, 1) := by decide +kernel
theorem dX5_layWay_39 : decode cX5_layWay 39 = .ok (.istore 5, 2) := by decide +kernel
theorem dX5_layWay_41 : decode cX5_layWay 41 = .ok (.iconst 0, 1) := by decide +kernel
theorem dX5_layWay_42 : decode cX5_layWay 42 = .ok (.istore 6, 2) := by decide +kernel
theorem dX5_layWay_44 : decode cX5_layWay 44 = .ok (.iconst 0, 1) := by decide +kernel
theorem dX5_layWay_45 : decode cX5_layWay 45 = .ok (.istore 7, 2) := by decide +kernel
theorem dX5_layWay_47 : decode cX5_layWay 47 = .ok (.iload 7, 2) := by decide +kernel
theorem dX5_layWay_49 : decode cX5_layWay 49 = .ok (.iload_n 3, 1) := by decide +kernel
theorem dX5_layWay_50 : decode cX5_layWay 50 = .ok (.if_icmp .ge 47, 3) := by decide +kernel
theorem dX5_layWay_53 : decode cX5_layWay 53 = .ok (.iload 5, 2) := by decide +kernel
theorem dX5_layWay_55 : decode cX5_layWay 55 = .ok (.ifCond .lt 42, 3) := by decide +kernel
theorem dX5_layWay_58 : decode cX5_layWay 58 = .ok (.aload_n 0, 1) := by decide +kernel
theorem dX5_layWay_59 : decode cX5_layWay 59 = .ok (.iload 4, 2) := by decide +kernel
theorem dX5_layWay_61 : decode cX5_layWay 61 = .ok (.iload_n 3, 1) := by decide +kernel
theorem dX5_layWay_62 : decode cX5_layWay 62 = .ok (.iload 7, 2) := by decide +kernel
theorem dX5_layWay_64 : decode cX5_layWay 64 = .ok (.invokevirtual 125, 3) := by decide +kernel
theorem dX5_layWay_67 : decode cX5_layWay 67 = .ok (.istore 8, 2) := by decide +kernel
theorem dX5_layWay_69 : decode cX5_layWay 69 = .ok (.aload_n 0, 1) := by decide +kernel
theorem dX5_layWay_70 : decode cX5_layWay 70 = .ok (.iload 8, 2) := by decide +kernel
theorem dX5_layWay_72 : decode cX5_layWay 72 = .ok (.iload 5, 2) := by decide +kernel
theorem dX5_layWay_74 : decode cX5_layWay 74 = .ok (.invokevirtual 112, 3) := by decide +kernel
theorem dX5_layWay_77 : decode cX5_layWay 77 = .ok (.istore 5, 2) := by decide +kernel
theorem dX5_layWay_79 : decode cX5_layWay 79 = .ok (.iload 6, 2) := by decide +kernel
theorem dX5_layWay_81 : decode cX5_layWay 81 = .ok (.aload_n 0, 1) := by decide +kernel
theorem dX5_layWay_82 : decode cX5_layWay 82 = .ok (.getfield 44, 3) := by decide +kernel
theorem dX5_layWay_85 : decode cX5_layWay 85 = .ok (.iload 8, 2) := by decide +kernel
theorem dX5_layWay_87 : decode cX5_layWay 87 = .ok (.iaload, 1) := by decide +kernel
theorem dX5_layWay_88 : decode cX5_layWay 88 = .ok (.iadd, 1) := by decide +kernel
theorem dX5_layWay_89 : decode cX5_layWay 89 = .ok (.istore 6, 2) := by decide +kernel
theorem dX5_layWay_91 : decode cX5_layWay 91 = .ok (.iinc 7 1, 3) := by decide +kernel
theorem dX5_layWay_94 : decode cX5_layWay 94 = .ok (.goto (-47), 3) := by decide +kernel
theorem dX5_layWay_97 : decode cX5_layWay 97 = .ok (.iload 5, 2) := by decide +kernel
theorem dX5_layWay_99 : decode cX5_layWay 99 = .ok (.iload_n 2, 1) := by decide +kernel
theorem dX5_layWay_100 : decode cX5_layWay 100 = .ok (.if_icmp .ne 29, 3) := by decide +kernel
theorem dX5_layWay_103 : decode cX5_layWay 103 = .ok (.iload 6, 2) := by decide +kernel
theorem dX5_layWay_105 : decode cX5_layWay 105 = .ok (.aload_n 0, 1) := by decide +kernel
theorem dX5_layWay_106 : decode cX5_layWay 106 = .ok (.getfield 116, 3) := by decide +kernel
theorem dX5_layWay_109 : decode cX5_layWay 109 = .ok (.if_icmp .ge 20, 3) := by decide +kernel
theorem dX5_layWay_112 : decode cX5_layWay 112 = .ok (.aload_n 0, 1) := by decide +kernel
theorem dX5_layWay_113 : decode cX5_layWay 113 = .ok (.iload 6, 2) := by decide +kernel
theorem dX5_layWay_115 : decode cX5_layWay 115 = .ok (.putfield 116, 3) := by decide +kernel
theorem dX5_layWay_118 : decode cX5_layWay 118 = .ok (.aload_n 0, 1) := by decide +kernel
theorem dX5_layWay_119 : decode cX5_layWay 119 = .ok (.iload_n 3, 1) := by decide +kernel
theorem dX5_layWay_120 : decode cX5_layWay 120 = .ok (.putfield 119, 3) := by decide +kernel
theorem dX5_layWay_123 : decode cX5_layWay 123 = .ok (.aload_n 0, 1) := by decide +kernel
theorem dX5_layWay_124 : decode cX5_layWay 124 = .ok (.iload 4, 2) := by decide +kernel
theorem dX5_layWay_126 : decode cX5_layWay 126 = .ok (.putfield 122, 3) := by decide +kernel
theorem dX5_layWay_129 : decode cX5_layWay 129 = .ok (.iinc 4 1, 3) := by decide +kernel
theorem dX5_layWay_132 : decode cX5_layWay 132 = .ok (.goto (-105), 3) := by decide +kernel
theorem dX5_layWay_135 : decode cX5_layWay 135 = .ok (.iinc 3 1, 3) := by decide +kernel
theorem dX5_layWay_138 : decode cX5_layWay 138 = .ok (.goto (-120), 3) := by decide +kernel
theorem dX5_layWay_141 : decode cX5_layWay 141 = .ok (.aload_n 0, 1) := by decide +kernel
theorem dX5_layWay_142 : decode cX5_layWay 142 = .ok (.getfield 116, 3) := by decide +kernel
theorem dX5_layWay_145 : decode cX5_layWay 145 = .ok (.ldc 115, 2) := by decide +kernel
theorem dX5_layWay_147 : decode cX5_layWay 147 = .ok (.if_icmp .ge 7, 3) := by decide +kernel
theorem dX5_layWay_150 : decode cX5_layWay 150 = .ok (.iconst 1, 1) := by decide +kernel
theorem dX5_layWay_151 : decode cX5_layWay 151 = .ok (.goto 4, 3) := by decide +kernel
theorem dX5_layWay_154 : decode cX5_layWay 154 = .ok (.iconst 0, 1) := by decide +kernel
theorem dX5_layWay_155 : decode cX5_layWay 155 = .ok (.ireturn, 1) := by decide +kernel
set_option maxRecDepth 20000 in
theorem ggX5_reached_X5_has : GoodIn wsX5_reached wsX5_has := goodIn_r _ [8] (by decide +kernel) (by decide +kernel)
set_option maxRecDepth 20000 in
theorem gX5_reached_X5_has : GoodIn wsX5_reached (va_wsS RX5 69 yX5_has wsX5_has) := goodIn_app (goodIn_of _ (by decide +kernel)) ggX5_reached_X5_has
theorem dX5_reached_0 : decode cX5_reached 0 = .ok (.iconst 0, 1) := by decide +kernel
theorem dX5_reached_1 : decode cX5_reached 1 = .ok (.istore_n 2, 1) := by decide +kernel
theorem dX5_reached_2 : decode cX5_reached 2 = .ok (.iconst 0, 1) := by decide +kernel
theorem dX5_reached_3 : decode cX5_reached 3 = .ok (.istore_n 3, 1) := by decide +kernel
theorem dX5_reached_4 : decode cX5_reached 4 = .ok (.iload_n 3, 1) := by decide +kernel
theorem dX5_reached_5 : decode cX5_reached 5 = .ok (.bipush 6, 2) := by decide +kernel
theorem dX5_reached_7 : decode cX5_reached 7 = .ok (.if_icmp .ge 33, 3) := by decide +kernel
theorem dX5_reached_10 : decode cX5_reached 10 = .ok (.iload_n 2, 1) := by decide +kernel
theorem dX5_reached_11 : decode cX5_reached 11 = .ok (.aload_n 0, 1) := by decide +kernel
theorem dX5_reached_12 : decode cX5_reached 12 = .ok (.getfield 41, 3) := by decide +kernel
theorem dX5_reached_15 : decode cX5_reached 15 = .ok (.bipush 6, 2) := by decide +kernel
theorem dX5_reached_17 : decode cX5_reached 17 = .ok (.iload_n 3, 1) := by decide +kernel
theorem dX5_reached_18 : decode cX5_reached 18 = .ok (.imul, 1) := by decide +kernel
theorem dX5_reached_19 : decode cX5_reached 19 = .ok (.iload_n 1, 1) := by decide +kernel
theorem dX5_reached_20 : decode cX5_reached 20 = .ok (.iadd, 1) := by decide +kernel
theorem dX5_reached_21 : decode cX5_reached 21 = .ok (.iaload, 1) := by decide +kernel
theorem dX5_reached_22 : decode cX5_reached 22 = .ok (.ifCond .le 9, 3) := by decide +kernel
theorem dX5_reached_25 : decode cX5_reached 25 = .ok (.iconst 1, 1) := by decide +kernel
theorem dX5_reached_26 : decode cX5_reached 26 = .ok (.iload_n 3, 1) := by decide +kernel
theorem dX5_reached_27 : decode cX5_reached 27 = .ok (.ishl, 1) := by decide +kernel
theorem dX5_reached_28 : decode cX5_reached 28 = .ok (.goto 4, 3) := by decide +kernel
theorem dX5_reached_31 : decode cX5_reached 31 = .ok (.iconst 0, 1) := by decide +kernel
theorem dX5_reached_32 : decode cX5_reached 32 = .ok (.ior, 1) := by decide +kernel
theorem dX5_reached_33 : decode cX5_reached 33 = .ok (.istore_n 2, 1) := by decide +kernel
theorem dX5_reached_34 : decode cX5_reached 34 = .ok (.iinc 3 1, 3) := by decide +kernel
theorem dX5_reached_37 : decode cX5_reached 37 = .ok (.goto (-33), 3) := by decide +kernel
theorem dX5_reached_40 : decode cX5_reached 40 = .ok (.iconst 0, 1) := by decide +kernel
theorem dX5_reached_41 : decode cX5_reached 41 = .ok (.istore_n 3, 1) := by decide +kernel
theorem dX5_reached_42 : decode cX5_reached 42 = .ok (.iload_n 3, 1) := by decide +kernel
theorem dX5_reached_43 : decode cX5_reached 43 = .ok (.bipush 6, 2) := by decide +kernel
theorem dX5_reached_45 : decode cX5_reached 45 = .ok (.if_icmp .ge 94, 3) := by decide +kernel
theorem dX5_reached_48 : decode cX5_reached 48 = .ok (.iconst 0, 1) := by decide +kernel
theorem dX5_reached_49 : decode cX5_reached 49 = .ok (.istore 4, 2) := by decide +kernel
theorem dX5_reached_51 : decode cX5_reached 51 = .ok (.iload 4, 2) := by decide +kernel
theorem dX5_reached_53 : decode cX5_reached 53 = .ok (.bipush 6, 2) := by decide +kernel
theorem dX5_reached_55 : decode cX5_reached 55 = .ok (.if_icmp .ge 78, 3) := by decide +kernel
theorem dX5_reached_58 : decode cX5_reached 58 = .ok (.aload_n 0, 1) := by decide +kernel
theorem dX5_reached_59 : decode cX5_reached 59 = .ok (.getfield 16, 3) := by decide +kernel
theorem dX5_reached_62 : decode cX5_reached 62 = .ok (.iload_n 1, 1) := by decide +kernel
theorem dX5_reached_63 : decode cX5_reached 63 = .ok (.iaload, 1) := by decide +kernel
theorem dX5_reached_64 : decode cX5_reached 64 = .ok (.iload 4, 2) := by decide +kernel
theorem dX5_reached_66 : decode cX5_reached 66 = .ok (.if_icmp .eq 42, 3) := by decide +kernel
theorem dX5_reached_69 : decode cX5_reached 69 = .ok (.aload_n 0, 1) := by decide +kernel
theorem dX5_reached_70 : decode cX5_reached 70 = .ok (.getfield 22, 3) := by decide +kernel
theorem dX5_reached_73 : decode cX5_reached 73 = .ok (.iload 4, 2) := by decide +kernel
theorem dX5_reached_75 : decode cX5_reached 75 = .ok (.iaload, 1) := by decide +kernel
theorem dX5_reached_76 : decode cX5_reached 76 = .ok (.iload_n 1, 1) := by decide +kernel
theorem dX5_reached_77 : decode cX5_reached 77 = .ok (.invokestatic 69, 3) := by decide +kernel
theorem dX5_reached_80 : decode cX5_reached 80 = .ok (.ifCond .ne 28, 3) := by decide +kernel
theorem dX5_reached_83 : decode cX5_reached 83 = .ok (.aload_n 0, 1) := by decide +kernel
theorem dX5_reached_84 : decode cX5_reached 84 = .ok (.getfield 19, 3) := by decide +kernel
theorem dX5_reached_87 : decode cX5_reached 87 = .ok (.iload 4, 2) := by decide +kernel
theorem dX5_reached_89 : decode cX5_reached 89 = .ok (.iaload, 1) := by decide +kernel
theorem dX5_reached_90 : decode cX5_reached 90 = .ok (.iload_n 2, 1) := by decide +kernel
theorem dX5_reached_91 : decode cX5_reached 91 = .ok (.iconst 1, 1) := by decide +kernel
theorem dX5_reached_92 : decode cX5_reached 92 = .ok (.aload_n 0, 1) := by decide +kernel
theorem dX5_reached_93 : decode cX5_reached 93 = .ok (.getfield 16, 3) := by decide +kernel
theorem dX5_reached_96 : decode cX5_reached 96 = .ok (.iload_n 1, 1) := by decide +kernel
theorem dX5_reached_97 : decode cX5_reached 97 = .ok (.iaload, 1) := by decide +kernel
theorem dX5_reached_98 : decode cX5_reached 98 = .ok (.ishl, 1) := by decide +kernel
theorem dX5_reached_99 : decode cX5_reached 99 = .ok (.ior, 1) := by decide +kernel
theorem dX5_reached_100 : decode cX5_reached 100 = .ok (.iand, 1) := by decide +kernel
theorem dX5_reached_101 : decode cX5_reached 101 = .ok (.ifCond .eq 7, 3) := by decide +kernel
theorem dX5_reached_104 : decode cX5_reached 104 = .ok (.iconst 1, 1) := by decide +kernel
theorem dX5_reached_105 : decode cX5_reached 105 = .ok (.goto 4, 3) := by decide +kernel
theorem dX5_reached_108 : decode cX5_reached 108 = .ok (.iconst 0, 1) := by decide +kernel
theorem dX5_reached_109 : decode cX5_reached 109 = .ok (.istore 5, 2) := by decide +kernel
theorem dX5_reached_111 : decode cX5_reached 111 = .ok (.iload_n 2, 1) := by decide +kernel
theorem dX5_reached_112 : decode cX5_reached 112 = .ok (.iload 5, 2) := by decide +kernel
theorem dX5_reached_114 : decode cX5_reached 114 = .ok (.ifCond .eq 10, 3) := by decide +kernel
theorem dX5_reached_117 : decode cX5_reached 117 = .ok (.iconst 1, 1) := by decide +kernel
theorem dX5_reached_118 : decode cX5_reached 118 = .ok (.iload 4, 2) := by decide +kernel
theorem dX5_reached_120 : decode cX5_reached 120 = .ok (.ishl, 1) := by decide +kernel
theorem dX5_reached_121 : decode cX5_reached 121 = .ok (.goto 4, 3) := by decide +kernel
theorem dX5_reached_124 : decode cX5_reached 124 = .ok (.iconst 0, 1) := by decide +kernel
theorem dX5_reached_125 : decode cX5_reached 125 = .ok (.ior, 1) := by decide +kernel
theorem dX5_reached_126 : decode cX5_reached 126 = .ok (.istore_n 2, 1) := by decide +kernel
theorem dX5_reached_127 : decode cX5_reached 127 = .ok (.iinc 4 1, 3) := by decide +kernel
theorem dX5_reached_130 : decode cX5_reached 130 = .ok (.goto (-79), 3) := by decide +kernel
theorem dX5_reached_133 : decode cX5_reached 133 = .ok (.iinc 3 1, 3) := by decide +kernel
theorem dX5_reached_136 : decode cX5_reached 136 = .ok (.goto (-94), 3) := by decide +kernel
theorem dX5_reached_139 : decode cX5_reached 139 = .ok (.iconst 0, 1) := by decide +kernel
theorem dX5_reached_140 : decode cX5_reached 140 = .ok (.istore_n 3, 1) := by decide +kernel
theorem dX5_reached_141 : decode cX5_reached 141 = .ok (.iconst 0, 1) := by decide +kernel
theorem dX5_reached_142 : decode cX5_reached 142 = .ok (.istore 4, 2) := by decide +kernel
theorem dX5_reached_144 : decode cX5_reached 144 = .ok (.iload 4, 2) := by decide +kernel
theorem dX5_reached_146 : decode cX5_reached 146 = .ok (.bipush 6, 2) := by decide +kernel
theorem dX5_reached_148 : decode cX5_reached 148 = .ok (.if_icmp .ge 18, 3) := by decide +kernel
theorem dX5_reached_151 : decode cX5_reached 151 = .ok (.iload_n 3, 1) := by decide +kernel
theorem dX5_reached_152 : decode cX5_reached 152 = .ok (.iload_n 2, 1) := by decide +kernel
theorem dX5_reached_153 : decode cX5_reached 153 = .ok (.iload 4, 2) := by decide +kernel
theorem dX5_reached_155 : decode cX5_reached 155 = .ok (.ishr, 1) := by decide +kernel
theorem dX5_reached_156 : decode cX5_reached 156 = .ok (.iconst 1, 1) := by decide +kernel
theorem dX5_reached_157 : decode cX5_reached 157 = .ok (.iand, 1) := by decide +kernel
theorem dX5_reached_158 : decode cX5_reached 158 = .ok (.iadd, 1) := by decide +kernel
theorem dX5_reached_159 : decode cX5_reached 159 = .ok (.istore_n 3, 1) := by decide +kernel
theorem dX5_reached_160 : decode cX5_reached 160 = .ok (.iinc 4 1, 3) := by decide +kernel
theorem dX5_reached_163 : decode cX5_reached 163 = .ok (.goto (-19), 3) := by decide +kernel
theorem dX5_reached_166 : decode cX5_reached 166 = .ok (.iload_n 3, 1) := by decide +kernel
theorem dX5_reached_167 : decode cX5_reached 167 = .ok (.ireturn, 1) := by decide +kernel
set_option maxRecDepth 20000 in
theorem ggX5_layCosts_X5_bornBy : GoodIn wsX5_layCosts wsX5_bornBy := goodIn_r _ [7, 8, 19, 20, 21, 22, 23, 24, 25, 26, 27, 28, 29, 30, 31, 32, 33, 34, 35, 36, 37, 38, 39, 40] (by decide +kernel) (by decide +kernel)
set_option maxRecDepth 20000 in
theorem gX5_layCosts_X5_bornBy : GoodIn wsX5_layCosts (wsV RX5 101 RX5 yX5_bornBy wsX5_bornBy) := goodIn_app (goodIn_of _ (by decide +kernel)) ggX5_layCosts_X5_bornBy
set_option maxRecDepth 20000 in
theorem ggX5_layCosts_X5_reached : GoodIn wsX5_layCosts wsX5_reached := goodIn_r _ [12, 8, 13, 14, 15, 16, 17, 6, 18, 19, 20, 21, 22, 23, 24, 25, 26, 27, 28, 29, 30, 31, 32, 33, 34, 35, 36, 37, 38, 39, 40] (by decide +kernel) (by decide +kernel)
set_option maxRecDepth 20000 in
theorem gX5_layCosts_X5_reached : GoodIn wsX5_layCosts (wsV RX5 128 RX5 yX5_reached wsX5_reached) := goodIn_app (goodIn_of _ (by decide +kernel)) ggX5_layCosts_X5_reached
theorem dX5_layCosts_0 : decode cX5_layCosts 0 = .ok (.iconst 0, 1) := by decide +kernel
theorem dX5_layCosts_1 : decode cX5_layCosts 1 = .ok (.istore_n 2, 1) := by decide +kernel
theorem dX5_layCosts_2 : decode cX5_layCosts 2 = .ok (.iload_n 2, 1) := by decide +kernel
theorem dX5_layCosts_3 : decode cX5_layCosts 3 = .ok (.bipush 6, 2) := by decide +kernel
theorem dX5_layCosts_5 : decode cX5_layCosts 5 = .ok (.if_icmp .ge 46, 3) := by decide +kernel
theorem dX5_layCosts_8 : decode cX5_layCosts 8 = .ok (.iload_n 1, 1) := by decide +kernel
theorem dX5_layCosts_9 : decode cX5_layCosts 9 = .ok (.aload_n 0, 1) := by decide +kernel
theorem dX5_layCosts_10 : decode cX5_layCosts 10 = .ok (.iload_n 2, 1) := by decide +kernel
theorem dX5_layCosts_11 : decode cX5_layCosts 11 = .ok (.invokevirtual 101, 3) := by decide +kernel
theorem dX5_layCosts_14 : decode cX5_layCosts 14 = .ok (.isub, 1) := by decide +kernel
theorem dX5_layCosts_15 : decode cX5_layCosts 15 = .ok (.istore_n 3, 1) := by decide +kernel
theorem dX5_layCosts_16 : decode cX5_layCosts 16 = .ok (.aload_n 0, 1) := by decide +kernel
theorem dX5_layCosts_17 : decode cX5_layCosts 17 = .ok (.getfield 44, 3) := by decide +kernel
theorem dX5_layCosts_20 : decode cX5_layCosts 20 = .ok (.iload_n 2, 1) := by decide +kernel
theorem dX5_layCosts_21 : decode cX5_layCosts 21 = .ok (.iload_n 3, 1) := by decide +kernel
theorem dX5_layCosts_22 : decode cX5_layCosts 22 = .ok (.ifCond .gt 7, 3) := by decide +kernel
theorem dX5_layCosts_25 : decode cX5_layCosts 25 = .ok (.iconst 0, 1) := by decide +kernel
theorem dX5_layCosts_26 : decode cX5_layCosts 26 = .ok (.goto 18, 3) := by decide +kernel
theorem dX5_layCosts_29 : decode cX5_layCosts 29 = .ok (.aload_n 0, 1) := by decide +kernel
theorem dX5_layCosts_30 : decode cX5_layCosts 30 = .ok (.iload_n 2, 1) := by decide +kernel
theorem dX5_layCosts_31 : decode cX5_layCosts 31 = .ok (.invokevirtual 128, 3) := by decide +kernel
theorem dX5_layCosts_34 : decode cX5_layCosts 34 = .ok (.iload_n 1, 1) := by decide +kernel
theorem dX5_layCosts_35 : decode cX5_layCosts 35 = .ok (.if_icmp .lt 7, 3) := by decide +kernel
theorem dX5_layCosts_38 : decode cX5_layCosts 38 = .ok (.iload_n 3, 1) := by decide +kernel
theorem dX5_layCosts_39 : decode cX5_layCosts 39 = .ok (.goto 5, 3) := by decide +kernel
theorem dX5_layCosts_42 : decode cX5_layCosts 42 = .ok (.ldc 115, 2) := by decide +kernel
theorem dX5_layCosts_44 : decode cX5_layCosts 44 = .ok (.iastore, 1) := by decide +kernel
theorem dX5_layCosts_45 : decode cX5_layCosts 45 = .ok (.iinc 2 1, 3) := by decide +kernel
theorem dX5_layCosts_48 : decode cX5_layCosts 48 = .ok (.goto (-46), 3) := by decide +kernel
theorem dX5_layCosts_51 : decode cX5_layCosts 51 = .ok (.return_, 1) := by decide +kernel
set_option maxRecDepth 20000 in
theorem ggX5_tellings_X5_is6 : GoodIn wsX5_tellings wsX5_is6 := goodIn_r _ [7, 8, 9, 6, 10] (by decide +kernel) (by decide +kernel)
set_option maxRecDepth 20000 in
theorem gX5_tellings_X5_is6 : GoodIn wsX5_tellings (va_wsS RX5 58 yX5_is6 wsX5_is6) := goodIn_app (goodIn_of _ (by decide +kernel)) ggX5_tellings_X5_is6
set_option maxRecDepth 20000 in
theorem ggX5_tellings_X5_in : GoodIn wsX5_tellings wsX5_in := goodIn_r _ [10] (by decide +kernel) (by decide +kernel)
set_option maxRecDepth 20000 in
theorem gX5_tellings_X5_in : GoodIn wsX5_tellings (va_wsS RX5 54 yX5_in wsX5_in) := goodIn_app (goodIn_of _ (by decide +kernel)) ggX5_tellings_X5_in
set_option maxRecDepth 20000 in
theorem ggX5_tellings_X5_asNow : GoodIn wsX5_tellings wsX5_asNow := goodIn_r _ [14, 15, 16, 54, 55, 56, 57, 58, 59, 60, 61, 62, 63, 64, 65, 66, 67, 68, 69, 70, 71, 72, 73, 74, 75] (by decide +kernel) (by decide +kernel)
set_option maxRecDepth 20000 in
theorem gX5_tellings_X5_asNow : GoodIn wsX5_tellings (wsV RX5 73 RX5 yX5_asNow wsX5_asNow) := goodIn_app (goodIn_of _ (by decide +kernel)) ggX5_tellings_X5_asNow
set_option maxRecDepth 20000 in
theorem ggX5_tellings_X5_layCosts : GoodIn wsX5_tellings wsX5_layCosts := goodIn_r _ [20, 21, 22, 23, 24, 25, 6, 26, 15, 27, 28, 29, 30, 31, 32, 33, 34, 35, 36, 54, 55, 56, 57, 58, 59, 60, 61, 62, 63, 64, 65, 66, 67, 68, 69, 70, 71, 72, 73, 74, 75] (by decide +kernel) (by decide +kernel)
set_option maxRecDepth 20000 in
theorem gX5_tellings_X5_layCosts : GoodIn wsX5_tellings (wsV RX5 131 RX5 yX5_layCosts wsX5_layCosts) := goodIn_app (goodIn_of _ (by decide +kernel)) ggX5_tellings_X5_layCosts
set_option maxRecDepth 20000 in
theorem ggX5_tellings_X5_layWay : GoodIn wsX5_tellings wsX5_layWay := goodIn_r _ [40, 22, 1, 2, 3, 21, 41, 42, 6, 43, 44, 45, 46, 47, 48, 49, 50, 51, 52, 53, 54, 55, 56, 57, 58, 59, 60, 61, 62, 63, 64, 65, 66, 67, 68, 69, 70, 71, 72, 73, 74, 75] (by decide +kernel) (by decide +kernel)
set_option maxRecDepth 20000 in
theorem gX5_tellings_X5_layWay : GoodIn wsX5_tellings (wsV RX5 135 RX5 yX5_layWay wsX5_layWay) := goodIn_app (goodIn_of _ (by decide +kernel)) ggX5_tellings_X5_layWay
set_option maxRecDepth 20000 in
theorem ggX5_tellings_X5_plankOf : GoodIn wsX5_tellings wsX5_plankOf := goodIn_r _ [47, 41, 42, 6, 43] (by decide +kernel) (by decide +kernel)
set_option maxRecDepth 20000 in
theorem gX5_tellings_X5_plankOf : GoodIn wsX5_tellings (wsV RX5 125 RX5 yX5_plankOf wsX5_plankOf) := goodIn_app (goodIn_of _ (by decide +kernel)) ggX5_tellings_X5_plankOf
theorem dX5_tellings_0 : decode cX5_tellings 0 = .ok (.iload_n 1, 1) := by decide +kernel
theorem dX5_tellings_1 : decode cX5_tellings 1 = .ok (.invokestatic 58, 3) := by decide +kernel
theorem dX5_tellings_4 : decode cX5_tellings 4 = .ok (.ifCond .eq 10, 3) := by decide +kernel
theorem dX5_tellings_7 : decode cX5_tellings 7 = .ok (.iload_n 2, 1) := by decide +kernel
theorem dX5_tellings_8 : decode cX5_tellings 8 = .ok (.invokestatic 58, 3) := by decide +kernel
theorem dX5_tellings_11 : decode cX5_tellings 11 = .ok (.ifCond .ne 5, 3) := by decide +kernel
theorem dX5_tellings_14 : decode cX5_tellings 14 = .ok (.iconst (-1), 1) := by decide +kernel
theorem dX5_tellings_15 : decode cX5_tellings 15 = .ok (.ireturn, 1) := by decide +kernel
theorem dX5_tellings_16 : decode cX5_tellings 16 = .ok (.iload_n 3, 1) := by decide +kernel
theorem dX5_tellings_17 : decode cX5_tellings 17 = .ok (.iconst 1, 1) := by decide +kernel
theorem dX5_tellings_18 : decode cX5_tellings 18 = .ok (.bipush 6, 2) := by decide +kernel
theorem dX5_tellings_20 : decode cX5_tellings 20 = .ok (.invokestatic 54, 3) := by decide +kernel
theorem dX5_tellings_23 : decode cX5_tellings 23 = .ok (.ifCond .ne 6, 3) := by decide +kernel
theorem dX5_tellings_26 : decode cX5_tellings 26 = .ok (.bipush (-2), 2) := by decide +kernel
theorem dX5_tellings_28 : decode cX5_tellings 28 = .ok (.ireturn, 1) := by decide +kernel
theorem dX5_tellings_29 : decode cX5_tellings 29 = .ok (.aload_n 0, 1) := by decide +kernel
theorem dX5_tellings_30 : decode cX5_tellings 30 = .ok (.invokevirtual 73, 3) := by decide +kernel
theorem dX5_tellings_33 : decode cX5_tellings 33 = .ok (.aload_n 0, 1) := by decide +kernel
theorem dX5_tellings_34 : decode cX5_tellings 34 = .ok (.iload_n 3, 1) := by decide +kernel
theorem dX5_tellings_35 : decode cX5_tellings 35 = .ok (.invokevirtual 131, 3) := by decide +kernel
theorem dX5_tellings_38 : decode cX5_tellings 38 = .ok (.aload_n 0, 1) := by decide +kernel
theorem dX5_tellings_39 : decode cX5_tellings 39 = .ok (.iload_n 1, 1) := by decide +kernel
theorem dX5_tellings_40 : decode cX5_tellings 40 = .ok (.iload_n 2, 1) := by decide +kernel
theorem dX5_tellings_41 : decode cX5_tellings 41 = .ok (.invokevirtual 135, 3) := by decide +kernel
theorem dX5_tellings_44 : decode cX5_tellings 44 = .ok (.ifCond .ne 6, 3) := by decide +kernel
theorem dX5_tellings_47 : decode cX5_tellings 47 = .ok (.bipush (-6), 2) := by decide +kernel
theorem dX5_tellings_49 : decode cX5_tellings 49 = .ok (.ireturn, 1) := by decide +kernel
theorem dX5_tellings_50 : decode cX5_tellings 50 = .ok (.iload 4, 2) := by decide +kernel
theorem dX5_tellings_52 : decode cX5_tellings 52 = .ok (.iconst (-1), 1) := by decide +kernel
theorem dX5_tellings_53 : decode cX5_tellings 53 = .ok (.if_icmp .ne 10, 3) := by decide +kernel
theorem dX5_tellings_56 : decode cX5_tellings 56 = .ok (.aload_n 0, 1) := by decide +kernel
theorem dX5_tellings_57 : decode cX5_tellings 57 = .ok (.getfield 116, 3) := by decide +kernel
theorem dX5_tellings_60 : decode cX5_tellings 60 = .ok (.goto 37, 3) := by decide +kernel
theorem dX5_tellings_63 : decode cX5_tellings 63 = .ok (.iload 4, 2) := by decide +kernel
theorem dX5_tellings_65 : decode cX5_tellings 65 = .ok (.iconst 0, 1) := by decide +kernel
theorem dX5_tellings_66 : decode cX5_tellings 66 = .ok (.aload_n 0, 1) := by decide +kernel
theorem dX5_tellings_67 : decode cX5_tellings 67 = .ok (.getfield 119, 3) := by decide +kernel
theorem dX5_tellings_70 : decode cX5_tellings 70 = .ok (.iconst 1, 1) := by decide +kernel
theorem dX5_tellings_71 : decode cX5_tellings 71 = .ok (.isub, 1) := by decide +kernel
theorem dX5_tellings_72 : decode cX5_tellings 72 = .ok (.invokestatic 54, 3) := by decide +kernel
theorem dX5_tellings_75 : decode cX5_tellings 75 = .ok (.ifCond .eq 20, 3) := by decide +kernel
theorem dX5_tellings_78 : decode cX5_tellings 78 = .ok (.aload_n 0, 1) := by decide +kernel
theorem dX5_tellings_79 : decode cX5_tellings 79 = .ok (.aload_n 0, 1) := by decide +kernel
theorem dX5_tellings_80 : decode cX5_tellings 80 = .ok (.getfield 122, 3) := by decide +kernel
theorem dX5_tellings_83 : decode cX5_tellings 83 = .ok (.aload_n 0, 1) := by decide +kernel
theorem dX5_tellings_84 : decode cX5_tellings 84 = .ok (.getfield 119, 3) := by decide +kernel
theorem dX5_tellings_87 : decode cX5_tellings 87 = .ok (.iload 4, 2) := by decide +kernel
theorem dX5_tellings_89 : decode cX5_tellings 89 = .ok (.invokevirtual 125, 3) := by decide +kernel
theorem dX5_tellings_92 : decode cX5_tellings 92 = .ok (.goto 5, 3) := by decide +kernel
theorem dX5_tellings_95 : decode cX5_tellings 95 = .ok (.bipush (-6), 2) := by decide +kernel
theorem dX5_tellings_97 : decode cX5_tellings 97 = .ok (.ireturn, 1) := by decide +kernel
set_option maxRecDepth 20000 in
theorem ggX5_stands_X5_is6 : GoodIn wsX5_stands wsX5_is6 := goodIn_r _ [6, 7, 8, 5, 9] (by decide +kernel) (by decide +kernel)
set_option maxRecDepth 20000 in
theorem gX5_stands_X5_is6 : GoodIn wsX5_stands (va_wsS RX5 58 yX5_is6 wsX5_is6) := goodIn_app (goodIn_of _ (by decide +kernel)) ggX5_stands_X5_is6
set_option maxRecDepth 20000 in
theorem ggX5_stands_X5_in : GoodIn wsX5_stands wsX5_in := goodIn_r _ [9] (by decide +kernel) (by decide +kernel)
set_option maxRecDepth 20000 in
theorem gX5_stands_X5_in : GoodIn wsX5_stands (va_wsS RX5 54 yX5_in wsX5_in) := goodIn_app (goodIn_of _ (by decide +kernel)) ggX5_stands_X5_in
set_option maxRecDepth 20000 in
theorem ggX5_stands_X5_asNow : GoodIn wsX5_stands wsX5_asNow := goodIn_r _ [13, 14, 15, 44, 45, 46, 47, 48, 49, 50, 51, 52, 53, 54, 55, 56, 57, 58, 59, 60, 61, 62, 63, 64, 65] (by decide +kernel) (by decide +kernel)
set_option maxRecDepth 20000 in
theorem gX5_stands_X5_asNow : GoodIn wsX5_stands (wsV RX5 73 RX5 yX5_asNow wsX5_asNow) := goodIn_app (goodIn_of _ (by decide +kernel)) ggX5_stands_X5_asNow
set_option maxRecDepth 20000 in
theorem ggX5_stands_X5_bornBy : GoodIn wsX5_stands wsX5_bornBy := goodIn_r _ [19, 14, 44, 45, 46, 47, 48, 49, 50, 51, 52, 53, 54, 55, 56, 57, 58, 59, 60, 61, 62, 63, 64, 65] (by decide +kernel) (by decide +kernel)
set_option maxRecDepth 20000 in
theorem gX5_stands_X5_bornBy : GoodIn wsX5_stands (wsV RX5 101 RX5 yX5_bornBy wsX5_bornBy) := goodIn_app (goodIn_of _ (by decide +kernel)) ggX5_stands_X5_bornBy
set_option maxRecDepth 20000 in
theorem ggX5_stands_X5_layWay : GoodIn wsX5_stands wsX5_layWay := goodIn_r _ [23, 2, 24, 25, 26, 1, 27, 28, 5, 29, 30, 31, 32, 33, 34, 35, 36, 37, 38, 39, 44, 45, 46, 47, 48, 49, 50, 51, 52, 53, 54, 55, 56, 57, 58, 59, 60, 61, 62, 63, 64, 65] (by decide +kernel) (by decide +kernel)
set_option maxRecDepth 20000 in
theorem gX5_stands_X5_layWay : GoodIn wsX5_stands (wsV RX5 135 RX5 yX5_layWay wsX5_layWay) := goodIn_app (goodIn_of _ (by decide +kernel)) ggX5_stands_X5_layWay
set_option maxRecDepth 20000 in
theorem ggX5_stands_X5_pass : GoodIn wsX5_stands wsX5_pass := goodIn_r _ [43, 14, 44, 45, 46, 47, 48, 49, 50, 51, 52, 53, 54, 55, 56, 57, 58, 59, 60, 61, 62, 63, 64, 65] (by decide +kernel) (by decide +kernel)
set_option maxRecDepth 20000 in
theorem gX5_stands_X5_pass : GoodIn wsX5_stands (wsV RX5 85 RX5 yX5_pass wsX5_pass) := goodIn_app (goodIn_of _ (by decide +kernel)) ggX5_stands_X5_pass
theorem dX5_stands_0 : decode cX5_stands 0 = .ok (.iload_n 1, 1) := by decide +kernel
theorem dX5_stands_1 : decode cX5_stands 1 = .ok (.invokestatic 58, 3) := by decide +kernel
theorem dX5_stands_4 : decode cX5_stands 4 = .ok (.ifCond .eq 10, 3) := by decide +kernel
theorem dX5_stands_7 : decode cX5_stands 7 = .ok (.iload_n 2, 1) := by decide +kernel
theorem dX5_stands_8 : decode cX5_stands 8 = .ok (.invokestatic 58, 3) := by decide +kernel
theorem dX5_stands_11 : decode cX5_stands 11 = .ok (.ifCond .ne 5, 3) := by decide +kernel
theorem dX5_stands_14 : decode cX5_stands 14 = .ok (.iconst (-1), 1) := by decide +kernel
theorem dX5_stands_15 : decode cX5_stands 15 = .ok (.ireturn, 1) := by decide +kernel
theorem dX5_stands_16 : decode cX5_stands 16 = .ok (.iload_n 3, 1) := by decide +kernel
theorem dX5_stands_17 : decode cX5_stands 17 = .ok (.iconst 1, 1) := by decide +kernel
theorem dX5_stands_18 : decode cX5_stands 18 = .ok (.bipush 6, 2) := by decide +kernel
theorem dX5_stands_20 : decode cX5_stands 20 = .ok (.invokestatic 54, 3) := by decide +kernel
theorem dX5_stands_23 : decode cX5_stands 23 = .ok (.ifCond .ne 6, 3) := by decide +kernel
theorem dX5_stands_26 : decode cX5_stands 26 = .ok (.bipush (-2), 2) := by decide +kernel
theorem dX5_stands_28 : decode cX5_stands 28 = .ok (.ireturn, 1) := by decide +kernel
theorem dX5_stands_29 : decode cX5_stands 29 = .ok (.iload_n 1, 1) := by decide +kernel
theorem dX5_stands_30 : decode cX5_stands 30 = .ok (.iload_n 2, 1) := by decide +kernel
theorem dX5_stands_31 : decode cX5_stands 31 = .ok (.if_icmp .ne 6, 3) := by decide +kernel
theorem dX5_stands_34 : decode cX5_stands 34 = .ok (.bipush (-6), 2) := by decide +kernel
theorem dX5_stands_36 : decode cX5_stands 36 = .ok (.ireturn, 1) := by decide +kernel
theorem dX5_stands_37 : decode cX5_stands 37 = .ok (.aload_n 0, 1) := by decide +kernel
theorem dX5_stands_38 : decode cX5_stands 38 = .ok (.invokevirtual 73, 3) := by decide +kernel
theorem dX5_stands_41 : decode cX5_stands 41 = .ok (.iconst 0, 1) := by decide +kernel
theorem dX5_stands_42 : decode cX5_stands 42 = .ok (.istore 4, 2) := by decide +kernel
theorem dX5_stands_44 : decode cX5_stands 44 = .ok (.iconst 1, 1) := by decide +kernel
theorem dX5_stands_45 : decode cX5_stands 45 = .ok (.istore 5, 2) := by decide +kernel
theorem dX5_stands_47 : decode cX5_stands 47 = .ok (.iload 5, 2) := by decide +kernel
theorem dX5_stands_49 : decode cX5_stands 49 = .ok (.ifCond .eq 65, 3) := by decide +kernel
theorem dX5_stands_52 : decode cX5_stands 52 = .ok (.iconst 0, 1) := by decide +kernel
theorem dX5_stands_53 : decode cX5_stands 53 = .ok (.istore 6, 2) := by decide +kernel
theorem dX5_stands_55 : decode cX5_stands 55 = .ok (.iload 6, 2) := by decide +kernel
theorem dX5_stands_57 : decode cX5_stands 57 = .ok (.bipush 6, 2) := by decide +kernel
theorem dX5_stands_59 : decode cX5_stands 59 = .ok (.if_icmp .ge 32, 3) := by decide +kernel
theorem dX5_stands_62 : decode cX5_stands 62 = .ok (.aload_n 0, 1) := by decide +kernel
theorem dX5_stands_63 : decode cX5_stands 63 = .ok (.getfield 44, 3) := by decide +kernel
theorem dX5_stands_66 : decode cX5_stands 66 = .ok (.iload 6, 2) := by decide +kernel
theorem dX5_stands_68 : decode cX5_stands 68 = .ok (.aload_n 0, 1) := by decide +kernel
theorem dX5_stands_69 : decode cX5_stands 69 = .ok (.iload 6, 2) := by decide +kernel
theorem dX5_stands_71 : decode cX5_stands 71 = .ok (.invokevirtual 101, 3) := by decide +kernel
theorem dX5_stands_74 : decode cX5_stands 74 = .ok (.iload_n 3, 1) := by decide +kernel
theorem dX5_stands_75 : decode cX5_stands 75 = .ok (.if_icmp .lt 7, 3) := by decide +kernel
theorem dX5_stands_78 : decode cX5_stands 78 = .ok (.iconst 0, 1) := by decide +kernel
theorem dX5_stands_79 : decode cX5_stands 79 = .ok (.goto 5, 3) := by decide +kernel
theorem dX5_stands_82 : decode cX5_stands 82 = .ok (.ldc 115, 2) := by decide +kernel
theorem dX5_stands_84 : decode cX5_stands 84 = .ok (.iastore, 1) := by decide +kernel
theorem dX5_stands_85 : decode cX5_stands 85 = .ok (.iinc 6 1, 3) := by decide +kernel
theorem dX5_stands_88 : decode cX5_stands 88 = .ok (.goto (-33), 3) := by decide +kernel
theorem dX5_stands_91 : decode cX5_stands 91 = .ok (.aload_n 0, 1) := by decide +kernel
theorem dX5_stands_92 : decode cX5_stands 92 = .ok (.iload_n 1, 1) := by decide +kernel
theorem dX5_stands_93 : decode cX5_stands 93 = .ok (.iload_n 2, 1) := by decide +kernel
theorem dX5_stands_94 : decode cX5_stands 94 = .ok (.invokevirtual 135, 3) := by decide +kernel
theorem dX5_stands_97 : decode cX5_stands 97 = .ok (.istore 5, 2) := by decide +kernel
theorem dX5_stands_99 : decode cX5_stands 99 = .ok (.iload 5, 2) := by decide +kernel
theorem dX5_stands_101 : decode cX5_stands 101 = .ok (.ifCond .eq (-54), 3) := by decide +kernel
theorem dX5_stands_104 : decode cX5_stands 104 = .ok (.aload_n 0, 1) := by decide +kernel
theorem dX5_stands_105 : decode cX5_stands 105 = .ok (.invokevirtual 85, 3) := by decide +kernel
theorem dX5_stands_108 : decode cX5_stands 108 = .ok (.iinc 4 1, 3) := by decide +kernel
theorem dX5_stands_111 : decode cX5_stands 111 = .ok (.goto (-64), 3) := by decide +kernel
theorem dX5_stands_114 : decode cX5_stands 114 = .ok (.iload 4, 2) := by decide +kernel
theorem dX5_stands_116 : decode cX5_stands 116 = .ok (.ireturn, 1) := by decide +kernel
set_option maxRecDepth 20000 in
theorem ggX5_word_X5_in : GoodIn wsX5_word wsX5_in := goodIn_r _ [4] (by decide +kernel) (by decide +kernel)
set_option maxRecDepth 20000 in
theorem gX5_word_X5_in : GoodIn wsX5_word (va_wsS RX5 54 yX5_in wsX5_in) := goodIn_app (goodIn_of _ (by decide +kernel)) ggX5_word_X5_in
set_option maxRecDepth 20000 in
theorem ggX5_word_X5_asNow : GoodIn wsX5_word wsX5_asNow := goodIn_r _ [8, 9, 10, 19, 20, 21, 22, 23, 24, 25, 26, 27, 28, 29, 30, 31, 32, 33, 34, 35, 36, 37, 38, 39, 40] (by decide +kernel) (by decide +kernel)
set_option maxRecDepth 20000 in
theorem gX5_word_X5_asNow : GoodIn wsX5_word (wsV RX5 73 RX5 yX5_asNow wsX5_asNow) := goodIn_app (goodIn_of _ (by decide +kernel)) ggX5_word_X5_asNow
set_option maxRecDepth 20000 in
theorem ggX5_word_X5_denies : GoodIn wsX5_word wsX5_denies := goodIn_r _ [14, 15, 9, 16, 17, 3, 18, 19, 20, 21, 22, 23, 24, 25, 26, 27, 28, 29, 30, 31, 32, 33, 34, 35, 36, 37, 38, 39, 40] (by decide +kernel) (by decide +kernel)
set_option maxRecDepth 20000 in
theorem gX5_word_X5_denies : GoodIn wsX5_word (wsV RX5 88 RX5 yX5_denies wsX5_denies) := goodIn_app (goodIn_of _ (by decide +kernel)) ggX5_word_X5_denies
theorem dX5_word_0 : decode cX5_word 0 = .ok (.iload_n 1, 1) := by decide +kernel
theorem dX5_word_1 : decode cX5_word 1 = .ok (.iconst 0, 1) := by decide +kernel
theorem dX5_word_2 : decode cX5_word 2 = .ok (.iconst 1, 1) := by decide +kernel
theorem dX5_word_3 : decode cX5_word 3 = .ok (.invokestatic 54, 3) := by decide +kernel
theorem dX5_word_6 : decode cX5_word 6 = .ok (.ifCond .ne 6, 3) := by decide +kernel
theorem dX5_word_9 : decode cX5_word 9 = .ok (.bipush (-2), 2) := by decide +kernel
theorem dX5_word_11 : decode cX5_word 11 = .ok (.ireturn, 1) := by decide +kernel
theorem dX5_word_12 : decode cX5_word 12 = .ok (.iconst 0, 1) := by decide +kernel
theorem dX5_word_13 : decode cX5_word 13 = .ok (.istore_n 2, 1) := by decide +kernel
theorem dX5_word_14 : decode cX5_word 14 = .ok (.bipush (-6), 2) := by decide +kernel
theorem dX5_word_16 : decode cX5_word 16 = .ok (.istore_n 3, 1) := by decide +kernel
theorem dX5_word_17 : decode cX5_word 17 = .ok (.iconst 0, 1) := by decide +kernel
theorem dX5_word_18 : decode cX5_word 18 = .ok (.istore 4, 2) := by decide +kernel
theorem dX5_word_20 : decode cX5_word 20 = .ok (.iload 4, 2) := by decide +kernel
theorem dX5_word_22 : decode cX5_word 22 = .ok (.bipush 6, 2) := by decide +kernel
theorem dX5_word_24 : decode cX5_word 24 = .ok (.if_icmp .ge 103, 3) := by decide +kernel
theorem dX5_word_27 : decode cX5_word 27 = .ok (.iconst 0, 1) := by decide +kernel
theorem dX5_word_28 : decode cX5_word 28 = .ok (.istore 5, 2) := by decide +kernel
theorem dX5_word_30 : decode cX5_word 30 = .ok (.iload 5, 2) := by decide +kernel
theorem dX5_word_32 : decode cX5_word 32 = .ok (.bipush 6, 2) := by decide +kernel
theorem dX5_word_34 : decode cX5_word 34 = .ok (.if_icmp .ge 87, 3) := by decide +kernel
theorem dX5_word_37 : decode cX5_word 37 = .ok (.aload_n 0, 1) := by decide +kernel
theorem dX5_word_38 : decode cX5_word 38 = .ok (.invokevirtual 73, 3) := by decide +kernel
theorem dX5_word_41 : decode cX5_word 41 = .ok (.iconst 0, 1) := by decide +kernel
theorem dX5_word_42 : decode cX5_word 42 = .ok (.istore 6, 2) := by decide +kernel
theorem dX5_word_44 : decode cX5_word 44 = .ok (.iconst 0, 1) := by decide +kernel
theorem dX5_word_45 : decode cX5_word 45 = .ok (.istore 7, 2) := by decide +kernel
theorem dX5_word_47 : decode cX5_word 47 = .ok (.iload 7, 2) := by decide +kernel
theorem dX5_word_49 : decode cX5_word 49 = .ok (.bipush 6, 2) := by decide +kernel
theorem dX5_word_51 : decode cX5_word 51 = .ok (.if_icmp .ge 32, 3) := by decide +kernel
theorem dX5_word_54 : decode cX5_word 54 = .ok (.iload 6, 2) := by decide +kernel
theorem dX5_word_56 : decode cX5_word 56 = .ok (.aload_n 0, 1) := by decide +kernel
theorem dX5_word_57 : decode cX5_word 57 = .ok (.iload 4, 2) := by decide +kernel
theorem dX5_word_59 : decode cX5_word 59 = .ok (.iload 7, 2) := by decide +kernel
theorem dX5_word_61 : decode cX5_word 61 = .ok (.iload 5, 2) := by decide +kernel
theorem dX5_word_63 : decode cX5_word 63 = .ok (.invokevirtual 88, 3) := by decide +kernel
theorem dX5_word_66 : decode cX5_word 66 = .ok (.ifCond .eq 7, 3) := by decide +kernel
theorem dX5_word_69 : decode cX5_word 69 = .ok (.iconst 1, 1) := by decide +kernel
theorem dX5_word_70 : decode cX5_word 70 = .ok (.goto 4, 3) := by decide +kernel
theorem dX5_word_73 : decode cX5_word 73 = .ok (.iconst 0, 1) := by decide +kernel
theorem dX5_word_74 : decode cX5_word 74 = .ok (.iadd, 1) := by decide +kernel
theorem dX5_word_75 : decode cX5_word 75 = .ok (.istore 6, 2) := by decide +kernel
theorem dX5_word_77 : decode cX5_word 77 = .ok (.iinc 7 1, 3) := by decide +kernel
theorem dX5_word_80 : decode cX5_word 80 = .ok (.goto (-33), 3) := by decide +kernel
theorem dX5_word_83 : decode cX5_word 83 = .ok (.iload 6, 2) := by decide +kernel
theorem dX5_word_85 : decode cX5_word 85 = .ok (.iload_n 3, 1) := by decide +kernel
theorem dX5_word_86 : decode cX5_word 86 = .ok (.if_icmp .le 14, 3) := by decide +kernel
theorem dX5_word_89 : decode cX5_word 89 = .ok (.bipush 10, 2) := by decide +kernel
theorem dX5_word_91 : decode cX5_word 91 = .ok (.iload 4, 2) := by decide +kernel
theorem dX5_word_93 : decode cX5_word 93 = .ok (.imul, 1) := by decide +kernel
theorem dX5_word_94 : decode cX5_word 94 = .ok (.iload 5, 2) := by decide +kernel
theorem dX5_word_96 : decode cX5_word 96 = .ok (.iadd, 1) := by decide +kernel
theorem dX5_word_97 : decode cX5_word 97 = .ok (.goto 4, 3) := by decide +kernel
theorem dX5_word_100 : decode cX5_word 100 = .ok (.iload_n 2, 1) := by decide +kernel
theorem dX5_word_101 : decode cX5_word 101 = .ok (.istore_n 2, 1) := by decide +kernel
theorem dX5_word_102 : decode cX5_word 102 = .ok (.iload 6, 2) := by decide +kernel
theorem dX5_word_104 : decode cX5_word 104 = .ok (.iload_n 3, 1) := by decide +kernel
theorem dX5_word_105 : decode cX5_word 105 = .ok (.if_icmp .le 8, 3) := by decide +kernel
theorem dX5_word_108 : decode cX5_word 108 = .ok (.iload 6, 2) := by decide +kernel
theorem dX5_word_110 : decode cX5_word 110 = .ok (.goto 4, 3) := by decide +kernel
theorem dX5_word_113 : decode cX5_word 113 = .ok (.iload_n 3, 1) := by decide +kernel
theorem dX5_word_114 : decode cX5_word 114 = .ok (.istore_n 3, 1) := by decide +kernel
theorem dX5_word_115 : decode cX5_word 115 = .ok (.iinc 5 1, 3) := by decide +kernel
theorem dX5_word_118 : decode cX5_word 118 = .ok (.goto (-88), 3) := by decide +kernel
theorem dX5_word_121 : decode cX5_word 121 = .ok (.iinc 4 1, 3) := by decide +kernel
theorem dX5_word_124 : decode cX5_word 124 = .ok (.goto (-104), 3) := by decide +kernel
theorem dX5_word_127 : decode cX5_word 127 = .ok (.iload_n 1, 1) := by decide +kernel
theorem dX5_word_128 : decode cX5_word 128 = .ok (.ifCond .ne 7, 3) := by decide +kernel
theorem dX5_word_131 : decode cX5_word 131 = .ok (.iload_n 2, 1) := by decide +kernel
theorem dX5_word_132 : decode cX5_word 132 = .ok (.goto 4, 3) := by decide +kernel
theorem dX5_word_135 : decode cX5_word 135 = .ok (.iload_n 3, 1) := by decide +kernel
theorem dX5_word_136 : decode cX5_word 136 = .ok (.ireturn, 1) := by decide +kernel
set_option maxRecDepth 20000 in
theorem ggX5_rumour_X5_is6 : GoodIn wsX5_rumour wsX5_is6 := goodIn_r _ [7, 8, 9, 6, 10] (by decide +kernel) (by decide +kernel)
set_option maxRecDepth 20000 in
theorem gX5_rumour_X5_is6 : GoodIn wsX5_rumour (va_wsS RX5 58 yX5_is6 wsX5_is6) := goodIn_app (goodIn_of _ (by decide +kernel)) ggX5_rumour_X5_is6
set_option maxRecDepth 20000 in
theorem ggX5_rumour_X5_in : GoodIn wsX5_rumour wsX5_in := goodIn_r _ [10] (by decide +kernel) (by decide +kernel)
set_option maxRecDepth 20000 in
theorem gX5_rumour_X5_in : GoodIn wsX5_rumour (va_wsS RX5 54 yX5_in wsX5_in) := goodIn_app (goodIn_of _ (by decide +kernel)) ggX5_rumour_X5_in
set_option maxRecDepth 20000 in
theorem ggX5_rumour_X5_asNow : GoodIn wsX5_rumour wsX5_asNow := goodIn_r _ [14, 2, 15, 34, 35, 36, 37, 38, 39, 40, 41, 42, 43, 44, 45, 46, 47, 48, 49, 50, 51, 52, 53, 54, 55] (by decide +kernel) (by decide +kernel)
set_option maxRecDepth 20000 in
theorem gX5_rumour_X5_asNow : GoodIn wsX5_rumour (wsV RX5 73 RX5 yX5_asNow wsX5_asNow) := goodIn_app (goodIn_of _ (by decide +kernel)) ggX5_rumour_X5_asNow
set_option maxRecDepth 20000 in
theorem ggX5_rumour_X5_bornBy : GoodIn wsX5_rumour wsX5_bornBy := goodIn_r _ [19, 2, 34, 35, 36, 37, 38, 39, 40, 41, 42, 43, 44, 45, 46, 47, 48, 49, 50, 51, 52, 53, 54, 55] (by decide +kernel) (by decide +kernel)
set_option maxRecDepth 20000 in
theorem gX5_rumour_X5_bornBy : GoodIn wsX5_rumour (wsV RX5 101 RX5 yX5_bornBy wsX5_bornBy) := goodIn_app (goodIn_of _ (by decide +kernel)) ggX5_rumour_X5_bornBy
set_option maxRecDepth 20000 in
theorem ggX5_rumour_X5_has : GoodIn wsX5_rumour wsX5_has := goodIn_r _ [22] (by decide +kernel) (by decide +kernel)
set_option maxRecDepth 20000 in
theorem gX5_rumour_X5_has : GoodIn wsX5_rumour (va_wsS RX5 69 yX5_has wsX5_has) := goodIn_app (goodIn_of _ (by decide +kernel)) ggX5_rumour_X5_has
set_option maxRecDepth 20000 in
theorem ggX5_rumour_X5_tells : GoodIn wsX5_rumour wsX5_tells := goodIn_r _ [26, 1, 2, 27, 28, 29, 20, 21, 6, 22, 34, 35, 36, 37, 38, 39, 40, 41, 42, 43, 44, 45, 46, 47, 48, 49, 50, 51, 52, 53, 54, 55] (by decide +kernel) (by decide +kernel)
set_option maxRecDepth 20000 in
theorem gX5_rumour_X5_tells : GoodIn wsX5_rumour (wsV RX5 91 RX5 yX5_tells wsX5_tells) := goodIn_app (goodIn_of _ (by decide +kernel)) ggX5_rumour_X5_tells
set_option maxRecDepth 20000 in
theorem ggX5_rumour_X5_pass : GoodIn wsX5_rumour wsX5_pass := goodIn_r _ [33, 2, 34, 35, 36, 37, 38, 39, 40, 41, 42, 43, 44, 45, 46, 47, 48, 49, 50, 51, 52, 53, 54, 55] (by decide +kernel) (by decide +kernel)
set_option maxRecDepth 20000 in
theorem gX5_rumour_X5_pass : GoodIn wsX5_rumour (wsV RX5 85 RX5 yX5_pass wsX5_pass) := goodIn_app (goodIn_of _ (by decide +kernel)) ggX5_rumour_X5_pass
theorem dX5_rumour_0 : decode cX5_rumour 0 = .ok (.iload_n 1, 1) := by decide +kernel
theorem dX5_rumour_1 : decode cX5_rumour 1 = .ok (.invokestatic 58, 3) := by decide +kernel
theorem dX5_rumour_4 : decode cX5_rumour 4 = .ok (.ifCond .ne 5, 3) := by decide +kernel
theorem dX5_rumour_7 : decode cX5_rumour 7 = .ok (.iconst (-1), 1) := by decide +kernel
theorem dX5_rumour_8 : decode cX5_rumour 8 = .ok (.ireturn, 1) := by decide +kernel
theorem dX5_rumour_9 : decode cX5_rumour 9 = .ok (.iload_n 2, 1) := by decide +kernel
theorem dX5_rumour_10 : decode cX5_rumour 10 = .ok (.iconst 1, 1) := by decide +kernel
theorem dX5_rumour_11 : decode cX5_rumour 11 = .ok (.bipush 6, 2) := by decide +kernel
theorem dX5_rumour_13 : decode cX5_rumour 13 = .ok (.invokestatic 54, 3) := by decide +kernel
theorem dX5_rumour_16 : decode cX5_rumour 16 = .ok (.ifCond .ne 6, 3) := by decide +kernel
theorem dX5_rumour_19 : decode cX5_rumour 19 = .ok (.bipush (-2), 2) := by decide +kernel
theorem dX5_rumour_21 : decode cX5_rumour 21 = .ok (.ireturn, 1) := by decide +kernel
theorem dX5_rumour_22 : decode cX5_rumour 22 = .ok (.aload_n 0, 1) := by decide +kernel
theorem dX5_rumour_23 : decode cX5_rumour 23 = .ok (.invokevirtual 73, 3) := by decide +kernel
theorem dX5_rumour_26 : decode cX5_rumour 26 = .ok (.aload_n 0, 1) := by decide +kernel
theorem dX5_rumour_27 : decode cX5_rumour 27 = .ok (.iload_n 1, 1) := by decide +kernel
theorem dX5_rumour_28 : decode cX5_rumour 28 = .ok (.invokevirtual 101, 3) := by decide +kernel
theorem dX5_rumour_31 : decode cX5_rumour 31 = .ok (.iload_n 2, 1) := by decide +kernel
theorem dX5_rumour_32 : decode cX5_rumour 32 = .ok (.if_icmp .lt 5, 3) := by decide +kernel
theorem dX5_rumour_35 : decode cX5_rumour 35 = .ok (.iconst 0, 1) := by decide +kernel
theorem dX5_rumour_36 : decode cX5_rumour 36 = .ok (.ireturn, 1) := by decide +kernel
theorem dX5_rumour_37 : decode cX5_rumour 37 = .ok (.iconst 1, 1) := by decide +kernel
theorem dX5_rumour_38 : decode cX5_rumour 38 = .ok (.istore_n 3, 1) := by decide +kernel
theorem dX5_rumour_39 : decode cX5_rumour 39 = .ok (.iload_n 3, 1) := by decide +kernel
theorem dX5_rumour_40 : decode cX5_rumour 40 = .ok (.bipush 31, 2) := by decide +kernel
theorem dX5_rumour_42 : decode cX5_rumour 42 = .ok (.if_icmp .ge 148, 3) := by decide +kernel
theorem dX5_rumour_45 : decode cX5_rumour 45 = .ok (.iconst 1, 1) := by decide +kernel
theorem dX5_rumour_46 : decode cX5_rumour 46 = .ok (.aload_n 0, 1) := by decide +kernel
theorem dX5_rumour_47 : decode cX5_rumour 47 = .ok (.getfield 16, 3) := by decide +kernel
theorem dX5_rumour_50 : decode cX5_rumour 50 = .ok (.iload_n 1, 1) := by decide +kernel
theorem dX5_rumour_51 : decode cX5_rumour 51 = .ok (.iaload, 1) := by decide +kernel
theorem dX5_rumour_52 : decode cX5_rumour 52 = .ok (.ishl, 1) := by decide +kernel
theorem dX5_rumour_53 : decode cX5_rumour 53 = .ok (.istore 4, 2) := by decide +kernel
theorem dX5_rumour_55 : decode cX5_rumour 55 = .ok (.iconst 0, 1) := by decide +kernel
theorem dX5_rumour_56 : decode cX5_rumour 56 = .ok (.istore 5, 2) := by decide +kernel
theorem dX5_rumour_58 : decode cX5_rumour 58 = .ok (.iload 5, 2) := by decide +kernel
theorem dX5_rumour_60 : decode cX5_rumour 60 = .ok (.bipush 6, 2) := by decide +kernel
theorem dX5_rumour_62 : decode cX5_rumour 62 = .ok (.if_icmp .ge 37, 3) := by decide +kernel
theorem dX5_rumour_65 : decode cX5_rumour 65 = .ok (.iload 4, 2) := by decide +kernel
theorem dX5_rumour_67 : decode cX5_rumour 67 = .ok (.aload_n 0, 1) := by decide +kernel
theorem dX5_rumour_68 : decode cX5_rumour 68 = .ok (.getfield 41, 3) := by decide +kernel
theorem dX5_rumour_71 : decode cX5_rumour 71 = .ok (.bipush 6, 2) := by decide +kernel
theorem dX5_rumour_73 : decode cX5_rumour 73 = .ok (.iload 5, 2) := by decide +kernel
theorem dX5_rumour_75 : decode cX5_rumour 75 = .ok (.imul, 1) := by decide +kernel
theorem dX5_rumour_76 : decode cX5_rumour 76 = .ok (.iload_n 1, 1) := by decide +kernel
theorem dX5_rumour_77 : decode cX5_rumour 77 = .ok (.iadd, 1) := by decide +kernel
theorem dX5_rumour_78 : decode cX5_rumour 78 = .ok (.iaload, 1) := by decide +kernel
theorem dX5_rumour_79 : decode cX5_rumour 79 = .ok (.ifCond .le 10, 3) := by decide +kernel
theorem dX5_rumour_82 : decode cX5_rumour 82 = .ok (.iconst 1, 1) := by decide +kernel
theorem dX5_rumour_83 : decode cX5_rumour 83 = .ok (.iload 5, 2) := by decide +kernel
theorem dX5_rumour_85 : decode cX5_rumour 85 = .ok (.ishl, 1) := by decide +kernel
theorem dX5_rumour_86 : decode cX5_rumour 86 = .ok (.goto 4, 3) := by decide +kernel
theorem dX5_rumour_89 : decode cX5_rumour 89 = .ok (.iconst 0, 1) := by decide +kernel
theorem dX5_rumour_90 : decode cX5_rumour 90 = .ok (.ior, 1) := by decide +kernel
theorem dX5_rumour_91 : decode cX5_rumour 91 = .ok (.istore 4, 2) := by decide +kernel
theorem dX5_rumour_93 : decode cX5_rumour 93 = .ok (.iinc 5 1, 3) := by decide +kernel
theorem dX5_rumour_96 : decode cX5_rumour 96 = .ok (.goto (-38), 3) := by decide +kernel
theorem dX5_rumour_99 : decode cX5_rumour 99 = .ok (.iconst 0, 1) := by decide +kernel
theorem dX5_rumour_100 : decode cX5_rumour 100 = .ok (.istore 5, 2) := by decide +kernel
theorem dX5_rumour_102 : decode cX5_rumour 102 = .ok (.iload 5, 2) := by decide +kernel
theorem dX5_rumour_104 : decode cX5_rumour 104 = .ok (.bipush 6, 2) := by decide +kernel
theorem dX5_rumour_106 : decode cX5_rumour 106 = .ok (.if_icmp .ge 63, 3) := by decide +kernel
theorem dX5_rumour_109 : decode cX5_rumour 109 = .ok (.iconst 0, 1) := by decide +kernel
theorem dX5_rumour_110 : decode cX5_rumour 110 = .ok (.istore 6, 2) := by decide +kernel
theorem dX5_rumour_112 : decode cX5_rumour 112 = .ok (.iload 6, 2) := by decide +kernel
theorem dX5_rumour_114 : decode cX5_rumour 114 = .ok (.bipush 6, 2) := by decide +kernel
theorem dX5_rumour_116 : decode cX5_rumour 116 = .ok (.if_icmp .ge 47, 3) := by decide +kernel
theorem dX5_rumour_119 : decode cX5_rumour 119 = .ok (.iload 4, 2) := by decide +kernel
theorem dX5_rumour_121 : decode cX5_rumour 121 = .ok (.iload 5, 2) := by decide +kernel
theorem dX5_rumour_123 : decode cX5_rumour 123 = .ok (.invokestatic 69, 3) := by decide +kernel
theorem dX5_rumour_126 : decode cX5_rumour 126 = .ok (.ifCond .eq 37, 3) := by decide +kernel
theorem dX5_rumour_129 : decode cX5_rumour 129 = .ok (.aload_n 0, 1) := by decide +kernel
theorem dX5_rumour_130 : decode cX5_rumour 130 = .ok (.iload 5, 2) := by decide +kernel
theorem dX5_rumour_132 : decode cX5_rumour 132 = .ok (.iload 6, 2) := by decide +kernel
theorem dX5_rumour_134 : decode cX5_rumour 134 = .ok (.iload_n 1, 1) := by decide +kernel
theorem dX5_rumour_135 : decode cX5_rumour 135 = .ok (.invokevirtual 91, 3) := by decide +kernel
theorem dX5_rumour_138 : decode cX5_rumour 138 = .ok (.istore 7, 2) := by decide +kernel
theorem dX5_rumour_140 : decode cX5_rumour 140 = .ok (.aload_n 0, 1) := by decide +kernel
theorem dX5_rumour_141 : decode cX5_rumour 141 = .ok (.iload 7, 2) := by decide +kernel
theorem dX5_rumour_143 : decode cX5_rumour 143 = .ok (.ifCond .eq 7, 3) := by decide +kernel
theorem dX5_rumour_146 : decode cX5_rumour 146 = .ok (.iload_n 3, 1) := by decide +kernel
theorem dX5_rumour_147 : decode cX5_rumour 147 = .ok (.goto 7, 3) := by decide +kernel
theorem dX5_rumour_150 : decode cX5_rumour 150 = .ok (.aload_n 0, 1) := by decide +kernel
theorem dX5_rumour_151 : decode cX5_rumour 151 = .ok (.getfield 79, 3) := by decide +kernel
theorem dX5_rumour_154 : decode cX5_rumour 154 = .ok (.putfield 79, 3) := by decide +kernel
theorem dX5_rumour_157 : decode cX5_rumour 157 = .ok (.iinc 6 1, 3) := by decide +kernel
theorem dX5_rumour_160 : decode cX5_rumour 160 = .ok (.goto (-48), 3) := by decide +kernel
theorem dX5_rumour_163 : decode cX5_rumour 163 = .ok (.iinc 5 1, 3) := by decide +kernel
theorem dX5_rumour_166 : decode cX5_rumour 166 = .ok (.goto (-64), 3) := by decide +kernel
theorem dX5_rumour_169 : decode cX5_rumour 169 = .ok (.aload_n 0, 1) := by decide +kernel
theorem dX5_rumour_170 : decode cX5_rumour 170 = .ok (.iload_n 1, 1) := by decide +kernel
theorem dX5_rumour_171 : decode cX5_rumour 171 = .ok (.invokevirtual 101, 3) := by decide +kernel
theorem dX5_rumour_174 : decode cX5_rumour 174 = .ok (.iload_n 2, 1) := by decide +kernel
theorem dX5_rumour_175 : decode cX5_rumour 175 = .ok (.if_icmp .lt 5, 3) := by decide +kernel
theorem dX5_rumour_178 : decode cX5_rumour 178 = .ok (.iload_n 3, 1) := by decide +kernel
theorem dX5_rumour_179 : decode cX5_rumour 179 = .ok (.ireturn, 1) := by decide +kernel
theorem dX5_rumour_180 : decode cX5_rumour 180 = .ok (.aload_n 0, 1) := by decide +kernel
theorem dX5_rumour_181 : decode cX5_rumour 181 = .ok (.invokevirtual 85, 3) := by decide +kernel
theorem dX5_rumour_184 : decode cX5_rumour 184 = .ok (.iinc 3 1, 3) := by decide +kernel
theorem dX5_rumour_187 : decode cX5_rumour 187 = .ok (.goto (-148), 3) := by decide +kernel
theorem dX5_rumour_190 : decode cX5_rumour 190 = .ok (.bipush (-6), 2) := by decide +kernel
theorem dX5_rumour_192 : decode cX5_rumour 192 = .ok (.ireturn, 1) := by decide +kernel
set_option maxRecDepth 20000 in
theorem ggX5_toAll_X5_denies : GoodIn wsX5_toAll wsX5_denies := goodIn_r _ [6, 7, 8, 9, 10, 5, 11, 19, 20, 21, 22, 23, 24, 25, 26, 27, 28, 29, 30, 31, 32, 33, 34, 35, 36, 37, 38, 39, 40] (by decide +kernel) (by decide +kernel)
set_option maxRecDepth 20000 in
theorem gX5_toAll_X5_denies : GoodIn wsX5_toAll (wsV RX5 88 RX5 yX5_denies wsX5_denies) := goodIn_app (goodIn_of _ (by decide +kernel)) ggX5_toAll_X5_denies
set_option maxRecDepth 20000 in
theorem ggX5_toAll_X5_tells : GoodIn wsX5_toAll wsX5_tells := goodIn_r _ [15, 16, 8, 7, 17, 18, 9, 10, 5, 11, 19, 20, 21, 22, 23, 24, 25, 26, 27, 28, 29, 30, 31, 32, 33, 34, 35, 36, 37, 38, 39, 40] (by decide +kernel) (by decide +kernel)
set_option maxRecDepth 20000 in
theorem gX5_toAll_X5_tells : GoodIn wsX5_toAll (wsV RX5 91 RX5 yX5_tells wsX5_tells) := goodIn_app (goodIn_of _ (by decide +kernel)) ggX5_toAll_X5_tells
theorem dX5_toAll_0 : decode cX5_toAll 0 = .ok (.iconst 0, 1) := by decide +kernel
theorem dX5_toAll_1 : decode cX5_toAll 1 = .ok (.istore 4, 2) := by decide +kernel
theorem dX5_toAll_3 : decode cX5_toAll 3 = .ok (.iload 4, 2) := by decide +kernel
theorem dX5_toAll_5 : decode cX5_toAll 5 = .ok (.bipush 6, 2) := by decide +kernel
theorem dX5_toAll_7 : decode cX5_toAll 7 = .ok (.if_icmp .ge 52, 3) := by decide +kernel
theorem dX5_toAll_10 : decode cX5_toAll 10 = .ok (.iload_n 3, 1) := by decide +kernel
theorem dX5_toAll_11 : decode cX5_toAll 11 = .ok (.ifCond .eq 14, 3) := by decide +kernel
theorem dX5_toAll_14 : decode cX5_toAll 14 = .ok (.aload_n 0, 1) := by decide +kernel
theorem dX5_toAll_15 : decode cX5_toAll 15 = .ok (.iload_n 1, 1) := by decide +kernel
theorem dX5_toAll_16 : decode cX5_toAll 16 = .ok (.iload 4, 2) := by decide +kernel
theorem dX5_toAll_18 : decode cX5_toAll 18 = .ok (.iload_n 2, 1) := by decide +kernel
theorem dX5_toAll_19 : decode cX5_toAll 19 = .ok (.invokevirtual 88, 3) := by decide +kernel
theorem dX5_toAll_22 : decode cX5_toAll 22 = .ok (.goto 11, 3) := by decide +kernel
theorem dX5_toAll_25 : decode cX5_toAll 25 = .ok (.aload_n 0, 1) := by decide +kernel
theorem dX5_toAll_26 : decode cX5_toAll 26 = .ok (.iload_n 1, 1) := by decide +kernel
theorem dX5_toAll_27 : decode cX5_toAll 27 = .ok (.iload 4, 2) := by decide +kernel
theorem dX5_toAll_29 : decode cX5_toAll 29 = .ok (.iload_n 2, 1) := by decide +kernel
theorem dX5_toAll_30 : decode cX5_toAll 30 = .ok (.invokevirtual 91, 3) := by decide +kernel
theorem dX5_toAll_33 : decode cX5_toAll 33 = .ok (.istore 5, 2) := by decide +kernel
theorem dX5_toAll_35 : decode cX5_toAll 35 = .ok (.aload_n 0, 1) := by decide +kernel
theorem dX5_toAll_36 : decode cX5_toAll 36 = .ok (.iload 5, 2) := by decide +kernel
theorem dX5_toAll_38 : decode cX5_toAll 38 = .ok (.ifCond .eq 8, 3) := by decide +kernel
theorem dX5_toAll_41 : decode cX5_toAll 41 = .ok (.iload 4, 2) := by decide +kernel
theorem dX5_toAll_43 : decode cX5_toAll 43 = .ok (.goto 7, 3) := by decide +kernel
theorem dX5_toAll_46 : decode cX5_toAll 46 = .ok (.aload_n 0, 1) := by decide +kernel
theorem dX5_toAll_47 : decode cX5_toAll 47 = .ok (.getfield 79, 3) := by decide +kernel
theorem dX5_toAll_50 : decode cX5_toAll 50 = .ok (.putfield 79, 3) := by decide +kernel
theorem dX5_toAll_53 : decode cX5_toAll 53 = .ok (.iinc 4 1, 3) := by decide +kernel
theorem dX5_toAll_56 : decode cX5_toAll 56 = .ok (.goto (-53), 3) := by decide +kernel
theorem dX5_toAll_59 : decode cX5_toAll 59 = .ok (.return_, 1) := by decide +kernel
set_option maxRecDepth 20000 in
theorem ggX5_odds_X5_is6 : GoodIn wsX5_odds wsX5_is6 := goodIn_r _ [4, 5, 6, 3, 7] (by decide +kernel) (by decide +kernel)
set_option maxRecDepth 20000 in
theorem gX5_odds_X5_is6 : GoodIn wsX5_odds (va_wsS RX5 58 yX5_is6 wsX5_is6) := goodIn_app (goodIn_of _ (by decide +kernel)) ggX5_odds_X5_is6
set_option maxRecDepth 20000 in
theorem ggX5_odds_X5_in : GoodIn wsX5_odds wsX5_in := goodIn_r _ [7] (by decide +kernel) (by decide +kernel)
set_option maxRecDepth 20000 in
theorem gX5_odds_X5_in : GoodIn wsX5_odds (va_wsS RX5 54 yX5_in wsX5_in) := goodIn_app (goodIn_of _ (by decide +kernel)) ggX5_odds_X5_in
set_option maxRecDepth 20000 in
theorem ggX5_odds_X5_asNow : GoodIn wsX5_odds wsX5_asNow := goodIn_r _ [11, 12, 13, 38, 39, 40, 41, 42, 43, 44, 45, 46, 47, 48, 49, 50, 51, 52, 53, 54, 55, 56, 57, 58, 59] (by decide +kernel) (by decide +kernel)
set_option maxRecDepth 20000 in
theorem gX5_odds_X5_asNow : GoodIn wsX5_odds (wsV RX5 73 RX5 yX5_asNow wsX5_asNow) := goodIn_app (goodIn_of _ (by decide +kernel)) ggX5_odds_X5_asNow
set_option maxRecDepth 20000 in
theorem ggX5_odds_X5_toAll : GoodIn wsX5_odds wsX5_toAll := goodIn_r _ [17, 18, 19, 20, 21, 3, 22, 23, 12, 24, 25, 26, 27, 28, 29, 30, 31, 32, 33, 38, 39, 40, 41, 42, 43, 44, 45, 46, 47, 48, 49, 50, 51, 52, 53, 54, 55, 56, 57, 58, 59] (by decide +kernel) (by decide +kernel)
set_option maxRecDepth 20000 in
theorem gX5_odds_X5_toAll : GoodIn wsX5_odds (wsV RX5 138 RX5 yX5_toAll wsX5_toAll) := goodIn_app (goodIn_of _ (by decide +kernel)) ggX5_odds_X5_toAll
set_option maxRecDepth 20000 in
theorem ggX5_odds_X5_bornBy : GoodIn wsX5_odds wsX5_bornBy := goodIn_r _ [37, 12, 38, 39, 40, 41, 42, 43, 44, 45, 46, 47, 48, 49, 50, 51, 52, 53, 54, 55, 56, 57, 58, 59] (by decide +kernel) (by decide +kernel)
set_option maxRecDepth 20000 in
theorem gX5_odds_X5_bornBy : GoodIn wsX5_odds (wsV RX5 101 RX5 yX5_bornBy wsX5_bornBy) := goodIn_app (goodIn_of _ (by decide +kernel)) ggX5_odds_X5_bornBy
theorem dX5_odds_0 : decode cX5_odds 0 = .ok (.iload_n 1, 1) := by decide +kernel
theorem dX5_odds_1 : decode cX5_odds 1 = .ok (.invokestatic 58, 3) := by decide +kernel
theorem dX5_odds_4 : decode cX5_odds 4 = .ok (.ifCond .eq 22, 3) := by decide +kernel
theorem dX5_odds_7 : decode cX5_odds 7 = .ok (.iload_n 2, 1) := by decide +kernel
theorem dX5_odds_8 : decode cX5_odds 8 = .ok (.invokestatic 58, 3) := by decide +kernel
theorem dX5_odds_11 : decode cX5_odds 11 = .ok (.ifCond .eq 15, 3) := by decide +kernel
theorem dX5_odds_14 : decode cX5_odds 14 = .ok (.iload_n 3, 1) := by decide +kernel
theorem dX5_odds_15 : decode cX5_odds 15 = .ok (.invokestatic 58, 3) := by decide +kernel
theorem dX5_odds_18 : decode cX5_odds 18 = .ok (.ifCond .eq 8, 3) := by decide +kernel
theorem dX5_odds_21 : decode cX5_odds 21 = .ok (.iload_n 2, 1) := by decide +kernel
theorem dX5_odds_22 : decode cX5_odds 22 = .ok (.iload_n 3, 1) := by decide +kernel
