theorem dX7_end_19 : decode cX7_end 19 = .ok (.ifCond .ne 5, 3) := by decide +kernel
theorem dX7_end_22 : decode cX7_end 22 = .ok (.iconst (-1), 1) := by decide +kernel
theorem dX7_end_23 : decode cX7_end 23 = .ok (.ireturn, 1) := by decide +kernel
theorem dX7_end_24 : decode cX7_end 24 = .ok (.iload_n 2, 1) := by decide +kernel
theorem dX7_end_25 : decode cX7_end 25 = .ok (.ifCond .ne 14, 3) := by decide +kernel
theorem dX7_end_28 : decode cX7_end 28 = .ok (.aload_n 0, 1) := by decide +kernel
theorem dX7_end_29 : decode cX7_end 29 = .ok (.getfield 7, 3) := by decide +kernel
theorem dX7_end_32 : decode cX7_end 32 = .ok (.iconst 4, 1) := by decide +kernel
theorem dX7_end_33 : decode cX7_end 33 = .ok (.iload_n 1, 1) := by decide +kernel
theorem dX7_end_34 : decode cX7_end 34 = .ok (.iadd, 1) := by decide +kernel
theorem dX7_end_35 : decode cX7_end 35 = .ok (.iaload, 1) := by decide +kernel
theorem dX7_end_36 : decode cX7_end 36 = .ok (.goto 21, 3) := by decide +kernel
theorem dX7_end_39 : decode cX7_end 39 = .ok (.iload_n 2, 1) := by decide +kernel
theorem dX7_end_40 : decode cX7_end 40 = .ok (.iconst 1, 1) := by decide +kernel
theorem dX7_end_41 : decode cX7_end 41 = .ok (.if_icmp .ne 11, 3) := by decide +kernel
theorem dX7_end_44 : decode cX7_end 44 = .ok (.aload_n 0, 1) := by decide +kernel
theorem dX7_end_45 : decode cX7_end 45 = .ok (.iload_n 1, 1) := by decide +kernel
theorem dX7_end_46 : decode cX7_end 46 = .ok (.invokevirtual 140, 3) := by decide +kernel
theorem dX7_end_49 : decode cX7_end 49 = .ok (.goto 8, 3) := by decide +kernel
theorem dX7_end_52 : decode cX7_end 52 = .ok (.aload_n 0, 1) := by decide +kernel
theorem dX7_end_53 : decode cX7_end 53 = .ok (.iload_n 1, 1) := by decide +kernel
theorem dX7_end_54 : decode cX7_end 54 = .ok (.invokevirtual 143, 3) := by decide +kernel
theorem dX7_end_57 : decode cX7_end 57 = .ok (.ireturn, 1) := by decide +kernel
set_option maxRecDepth 20000 in
theorem ggX7_cloth_X7_in : GoodIn wsX7_cloth wsX7_in := goodIn_r _ [5] (by decide +kernel) (by decide +kernel)
set_option maxRecDepth 20000 in
theorem gX7_cloth_X7_in : GoodIn wsX7_cloth (va_wsS RX7 41 yX7_in wsX7_in) := goodIn_app (goodIn_of _ (by decide +kernel)) ggX7_cloth_X7_in
set_option maxRecDepth 20000 in
theorem ggX7_cloth_X7_isEnd : GoodIn wsX7_cloth wsX7_isEnd := goodIn_r _ [9, 10, 2, 3, 4, 5, 15, 16, 17, 18, 19, 20, 21, 22, 23, 24, 25, 26, 27, 28, 29, 30, 31, 32, 33] (by decide +kernel) (by decide +kernel)
set_option maxRecDepth 20000 in
theorem gX7_cloth_X7_isEnd : GoodIn wsX7_cloth (wsV RX7 124 RX7 yX7_isEnd wsX7_isEnd) := goodIn_app (goodIn_of _ (by decide +kernel)) ggX7_cloth_X7_isEnd
set_option maxRecDepth 20000 in
theorem ggX7_cloth_X7_isUp : GoodIn wsX7_cloth wsX7_isUp := goodIn_r _ [14, 10, 15, 16, 17, 18, 19, 20, 21, 22, 23, 24, 25, 26, 27, 28, 29, 30, 31, 32, 33] (by decide +kernel) (by decide +kernel)
set_option maxRecDepth 20000 in
theorem gX7_cloth_X7_isUp : GoodIn wsX7_cloth (wsV RX7 130 RX7 yX7_isUp wsX7_isUp) := goodIn_app (goodIn_of _ (by decide +kernel)) ggX7_cloth_X7_isUp
theorem dX7_cloth_0 : decode cX7_cloth 0 = .ok (.aload_n 0, 1) := by decide +kernel
theorem dX7_cloth_1 : decode cX7_cloth 1 = .ok (.iconst 0, 1) := by decide +kernel
theorem dX7_cloth_2 : decode cX7_cloth 2 = .ok (.putfield 37, 3) := by decide +kernel
theorem dX7_cloth_5 : decode cX7_cloth 5 = .ok (.iload_n 1, 1) := by decide +kernel
theorem dX7_cloth_6 : decode cX7_cloth 6 = .ok (.iconst 0, 1) := by decide +kernel
theorem dX7_cloth_7 : decode cX7_cloth 7 = .ok (.sipush 9999, 3) := by decide +kernel
theorem dX7_cloth_10 : decode cX7_cloth 10 = .ok (.invokestatic 41, 3) := by decide +kernel
theorem dX7_cloth_13 : decode cX7_cloth 13 = .ok (.ifCond .eq 11, 3) := by decide +kernel
theorem dX7_cloth_16 : decode cX7_cloth 16 = .ok (.aload_n 0, 1) := by decide +kernel
theorem dX7_cloth_17 : decode cX7_cloth 17 = .ok (.iload_n 2, 1) := by decide +kernel
theorem dX7_cloth_18 : decode cX7_cloth 18 = .ok (.invokevirtual 124, 3) := by decide +kernel
theorem dX7_cloth_21 : decode cX7_cloth 21 = .ok (.ifCond .ne 5, 3) := by decide +kernel
theorem dX7_cloth_24 : decode cX7_cloth 24 = .ok (.iconst (-1), 1) := by decide +kernel
theorem dX7_cloth_25 : decode cX7_cloth 25 = .ok (.ireturn, 1) := by decide +kernel
theorem dX7_cloth_26 : decode cX7_cloth 26 = .ok (.aload_n 0, 1) := by decide +kernel
theorem dX7_cloth_27 : decode cX7_cloth 27 = .ok (.iload_n 1, 1) := by decide +kernel
theorem dX7_cloth_28 : decode cX7_cloth 28 = .ok (.iload_n 2, 1) := by decide +kernel
theorem dX7_cloth_29 : decode cX7_cloth 29 = .ok (.invokevirtual 130, 3) := by decide +kernel
theorem dX7_cloth_32 : decode cX7_cloth 32 = .ok (.ifCond .eq 7, 3) := by decide +kernel
theorem dX7_cloth_35 : decode cX7_cloth 35 = .ok (.iconst 1, 1) := by decide +kernel
theorem dX7_cloth_36 : decode cX7_cloth 36 = .ok (.goto 4, 3) := by decide +kernel
theorem dX7_cloth_39 : decode cX7_cloth 39 = .ok (.iconst 0, 1) := by decide +kernel
theorem dX7_cloth_40 : decode cX7_cloth 40 = .ok (.ireturn, 1) := by decide +kernel
set_option maxRecDepth 20000 in
theorem ggX7_isAgain_X7_upIn : GoodIn wsX7_isAgain wsX7_upIn := goodIn_r _ [6, 1, 7, 8, 9, 5, 10, 11, 12, 13, 14, 15, 16, 17, 18, 19, 20, 21, 22, 23, 24, 25, 26, 27, 28, 29] (by decide +kernel) (by decide +kernel)
set_option maxRecDepth 20000 in
theorem gX7_isAgain_X7_upIn : GoodIn wsX7_isAgain (wsV RX7 134 RX7 yX7_upIn wsX7_upIn) := goodIn_app (goodIn_of _ (by decide +kernel)) ggX7_isAgain_X7_upIn
theorem dX7_isAgain_0 : decode cX7_isAgain 0 = .ok (.iconst 1, 1) := by decide +kernel
theorem dX7_isAgain_1 : decode cX7_isAgain 1 = .ok (.istore_n 2, 1) := by decide +kernel
theorem dX7_isAgain_2 : decode cX7_isAgain 2 = .ok (.iconst 0, 1) := by decide +kernel
theorem dX7_isAgain_3 : decode cX7_isAgain 3 = .ok (.istore_n 3, 1) := by decide +kernel
theorem dX7_isAgain_4 : decode cX7_isAgain 4 = .ok (.iload_n 3, 1) := by decide +kernel
theorem dX7_isAgain_5 : decode cX7_isAgain 5 = .ok (.aload_n 0, 1) := by decide +kernel
theorem dX7_isAgain_6 : decode cX7_isAgain 6 = .ok (.getfield 7, 3) := by decide +kernel
theorem dX7_isAgain_9 : decode cX7_isAgain 9 = .ok (.iconst 2, 1) := by decide +kernel
theorem dX7_isAgain_10 : decode cX7_isAgain 10 = .ok (.iaload, 1) := by decide +kernel
theorem dX7_isAgain_11 : decode cX7_isAgain 11 = .ok (.if_icmp .ge 34, 3) := by decide +kernel
theorem dX7_isAgain_14 : decode cX7_isAgain 14 = .ok (.iload_n 2, 1) := by decide +kernel
theorem dX7_isAgain_15 : decode cX7_isAgain 15 = .ok (.ifCond .eq 22, 3) := by decide +kernel
theorem dX7_isAgain_18 : decode cX7_isAgain 18 = .ok (.aload_n 0, 1) := by decide +kernel
theorem dX7_isAgain_19 : decode cX7_isAgain 19 = .ok (.iload_n 3, 1) := by decide +kernel
theorem dX7_isAgain_20 : decode cX7_isAgain 20 = .ok (.invokevirtual 134, 3) := by decide +kernel
theorem dX7_isAgain_23 : decode cX7_isAgain 23 = .ok (.aload_n 0, 1) := by decide +kernel
theorem dX7_isAgain_24 : decode cX7_isAgain 24 = .ok (.iload_n 3, 1) := by decide +kernel
theorem dX7_isAgain_25 : decode cX7_isAgain 25 = .ok (.iload_n 1, 1) := by decide +kernel
theorem dX7_isAgain_26 : decode cX7_isAgain 26 = .ok (.iadd, 1) := by decide +kernel
theorem dX7_isAgain_27 : decode cX7_isAgain 27 = .ok (.invokevirtual 134, 3) := by decide +kernel
theorem dX7_isAgain_30 : decode cX7_isAgain 30 = .ok (.if_icmp .ne 7, 3) := by decide +kernel
theorem dX7_isAgain_33 : decode cX7_isAgain 33 = .ok (.iconst 1, 1) := by decide +kernel
theorem dX7_isAgain_34 : decode cX7_isAgain 34 = .ok (.goto 4, 3) := by decide +kernel
theorem dX7_isAgain_37 : decode cX7_isAgain 37 = .ok (.iconst 0, 1) := by decide +kernel
theorem dX7_isAgain_38 : decode cX7_isAgain 38 = .ok (.istore_n 2, 1) := by decide +kernel
theorem dX7_isAgain_39 : decode cX7_isAgain 39 = .ok (.iinc 3 1, 3) := by decide +kernel
theorem dX7_isAgain_42 : decode cX7_isAgain 42 = .ok (.goto (-38), 3) := by decide +kernel
theorem dX7_isAgain_45 : decode cX7_isAgain 45 = .ok (.iload_n 2, 1) := by decide +kernel
theorem dX7_isAgain_46 : decode cX7_isAgain 46 = .ok (.ireturn, 1) := by decide +kernel
set_option maxRecDepth 20000 in
theorem ggX7_repeat_X7_isAgain : GoodIn wsX7_repeat wsX7_isAgain := goodIn_r _ [5, 6, 7, 8, 9, 4, 10, 11, 12, 13, 14, 15, 16, 17, 18, 19, 20, 21, 22, 23, 24, 25, 26, 27, 28, 29, 30, 31, 32, 33] (by decide +kernel) (by decide +kernel)
set_option maxRecDepth 20000 in
theorem gX7_repeat_X7_isAgain : GoodIn wsX7_repeat (wsV RX7 146 RX7 yX7_isAgain wsX7_isAgain) := goodIn_app (goodIn_of _ (by decide +kernel)) ggX7_repeat_X7_isAgain
theorem dX7_repeat_0 : decode cX7_repeat 0 = .ok (.iconst 1, 1) := by decide +kernel
theorem dX7_repeat_1 : decode cX7_repeat 1 = .ok (.istore_n 1, 1) := by decide +kernel
theorem dX7_repeat_2 : decode cX7_repeat 2 = .ok (.aload_n 0, 1) := by decide +kernel
theorem dX7_repeat_3 : decode cX7_repeat 3 = .ok (.iload_n 1, 1) := by decide +kernel
theorem dX7_repeat_4 : decode cX7_repeat 4 = .ok (.invokevirtual 146, 3) := by decide +kernel
theorem dX7_repeat_7 : decode cX7_repeat 7 = .ok (.ifCond .ne 9, 3) := by decide +kernel
theorem dX7_repeat_10 : decode cX7_repeat 10 = .ok (.iinc 1 1, 3) := by decide +kernel
theorem dX7_repeat_13 : decode cX7_repeat 13 = .ok (.goto (-11), 3) := by decide +kernel
theorem dX7_repeat_16 : decode cX7_repeat 16 = .ok (.iload_n 1, 1) := by decide +kernel
theorem dX7_repeat_17 : decode cX7_repeat 17 = .ok (.ireturn, 1) := by decide +kernel
set_option maxRecDepth 20000 in
theorem ggX7_unlikeEnds_X7_rowsOf : GoodIn wsX7_unlikeEnds wsX7_rowsOf := goodIn_r _ [6, 1, 7, 8, 9, 5, 10, 11, 12, 13, 14, 15, 16, 17, 18, 19, 20, 21, 22, 23, 24, 25, 26, 27, 28, 29] (by decide +kernel) (by decide +kernel)
set_option maxRecDepth 20000 in
theorem gX7_unlikeEnds_X7_rowsOf : GoodIn wsX7_unlikeEnds (wsV RX7 143 RX7 yX7_rowsOf wsX7_rowsOf) := goodIn_app (goodIn_of _ (by decide +kernel)) ggX7_unlikeEnds_X7_rowsOf
theorem dX7_unlikeEnds_0 : decode cX7_unlikeEnds 0 = .ok (.iconst 0, 1) := by decide +kernel
theorem dX7_unlikeEnds_1 : decode cX7_unlikeEnds 1 = .ok (.istore_n 1, 1) := by decide +kernel
theorem dX7_unlikeEnds_2 : decode cX7_unlikeEnds 2 = .ok (.iconst 0, 1) := by decide +kernel
theorem dX7_unlikeEnds_3 : decode cX7_unlikeEnds 3 = .ok (.istore_n 2, 1) := by decide +kernel
theorem dX7_unlikeEnds_4 : decode cX7_unlikeEnds 4 = .ok (.iload_n 2, 1) := by decide +kernel
theorem dX7_unlikeEnds_5 : decode cX7_unlikeEnds 5 = .ok (.aload_n 0, 1) := by decide +kernel
theorem dX7_unlikeEnds_6 : decode cX7_unlikeEnds 6 = .ok (.getfield 7, 3) := by decide +kernel
theorem dX7_unlikeEnds_9 : decode cX7_unlikeEnds 9 = .ok (.iconst 1, 1) := by decide +kernel
theorem dX7_unlikeEnds_10 : decode cX7_unlikeEnds 10 = .ok (.iaload, 1) := by decide +kernel
theorem dX7_unlikeEnds_11 : decode cX7_unlikeEnds 11 = .ok (.if_icmp .ge 62, 3) := by decide +kernel
theorem dX7_unlikeEnds_14 : decode cX7_unlikeEnds 14 = .ok (.iconst 1, 1) := by decide +kernel
theorem dX7_unlikeEnds_15 : decode cX7_unlikeEnds 15 = .ok (.istore_n 3, 1) := by decide +kernel
theorem dX7_unlikeEnds_16 : decode cX7_unlikeEnds 16 = .ok (.iconst 0, 1) := by decide +kernel
theorem dX7_unlikeEnds_17 : decode cX7_unlikeEnds 17 = .ok (.istore 4, 2) := by decide +kernel
theorem dX7_unlikeEnds_19 : decode cX7_unlikeEnds 19 = .ok (.iload 4, 2) := by decide +kernel
theorem dX7_unlikeEnds_21 : decode cX7_unlikeEnds 21 = .ok (.iload_n 2, 1) := by decide +kernel
theorem dX7_unlikeEnds_22 : decode cX7_unlikeEnds 22 = .ok (.if_icmp .ge 33, 3) := by decide +kernel
theorem dX7_unlikeEnds_25 : decode cX7_unlikeEnds 25 = .ok (.iload_n 3, 1) := by decide +kernel
theorem dX7_unlikeEnds_26 : decode cX7_unlikeEnds 26 = .ok (.ifCond .eq 21, 3) := by decide +kernel
theorem dX7_unlikeEnds_29 : decode cX7_unlikeEnds 29 = .ok (.aload_n 0, 1) := by decide +kernel
theorem dX7_unlikeEnds_30 : decode cX7_unlikeEnds 30 = .ok (.iload 4, 2) := by decide +kernel
theorem dX7_unlikeEnds_32 : decode cX7_unlikeEnds 32 = .ok (.invokevirtual 143, 3) := by decide +kernel
theorem dX7_unlikeEnds_35 : decode cX7_unlikeEnds 35 = .ok (.aload_n 0, 1) := by decide +kernel
theorem dX7_unlikeEnds_36 : decode cX7_unlikeEnds 36 = .ok (.iload_n 2, 1) := by decide +kernel
theorem dX7_unlikeEnds_37 : decode cX7_unlikeEnds 37 = .ok (.invokevirtual 143, 3) := by decide +kernel
theorem dX7_unlikeEnds_40 : decode cX7_unlikeEnds 40 = .ok (.if_icmp .eq 7, 3) := by decide +kernel
theorem dX7_unlikeEnds_43 : decode cX7_unlikeEnds 43 = .ok (.iconst 1, 1) := by decide +kernel
theorem dX7_unlikeEnds_44 : decode cX7_unlikeEnds 44 = .ok (.goto 4, 3) := by decide +kernel
theorem dX7_unlikeEnds_47 : decode cX7_unlikeEnds 47 = .ok (.iconst 0, 1) := by decide +kernel
theorem dX7_unlikeEnds_48 : decode cX7_unlikeEnds 48 = .ok (.istore_n 3, 1) := by decide +kernel
theorem dX7_unlikeEnds_49 : decode cX7_unlikeEnds 49 = .ok (.iinc 4 1, 3) := by decide +kernel
theorem dX7_unlikeEnds_52 : decode cX7_unlikeEnds 52 = .ok (.goto (-33), 3) := by decide +kernel
theorem dX7_unlikeEnds_55 : decode cX7_unlikeEnds 55 = .ok (.iload_n 1, 1) := by decide +kernel
theorem dX7_unlikeEnds_56 : decode cX7_unlikeEnds 56 = .ok (.iload_n 3, 1) := by decide +kernel
theorem dX7_unlikeEnds_57 : decode cX7_unlikeEnds 57 = .ok (.ifCond .eq 7, 3) := by decide +kernel
theorem dX7_unlikeEnds_60 : decode cX7_unlikeEnds 60 = .ok (.iconst 1, 1) := by decide +kernel
theorem dX7_unlikeEnds_61 : decode cX7_unlikeEnds 61 = .ok (.goto 4, 3) := by decide +kernel
theorem dX7_unlikeEnds_64 : decode cX7_unlikeEnds 64 = .ok (.iconst 0, 1) := by decide +kernel
theorem dX7_unlikeEnds_65 : decode cX7_unlikeEnds 65 = .ok (.iadd, 1) := by decide +kernel
theorem dX7_unlikeEnds_66 : decode cX7_unlikeEnds 66 = .ok (.istore_n 1, 1) := by decide +kernel
theorem dX7_unlikeEnds_67 : decode cX7_unlikeEnds 67 = .ok (.iinc 2 1, 3) := by decide +kernel
theorem dX7_unlikeEnds_70 : decode cX7_unlikeEnds 70 = .ok (.goto (-66), 3) := by decide +kernel
theorem dX7_unlikeEnds_73 : decode cX7_unlikeEnds 73 = .ok (.iload_n 1, 1) := by decide +kernel
theorem dX7_unlikeEnds_74 : decode cX7_unlikeEnds 74 = .ok (.ireturn, 1) := by decide +kernel
set_option maxRecDepth 20000 in
theorem ggX7_longCards_X7_across : GoodIn wsX7_longCards wsX7_across := goodIn_r _ [6, 1, 7, 8, 9, 5, 10, 11, 12, 13, 14, 15, 16, 17, 18, 19, 20, 21, 22, 23, 24, 25, 26, 27, 28, 29] (by decide +kernel) (by decide +kernel)
set_option maxRecDepth 20000 in
theorem gX7_longCards_X7_across : GoodIn wsX7_longCards (wsV RX7 137 RX7 yX7_across wsX7_across) := goodIn_app (goodIn_of _ (by decide +kernel)) ggX7_longCards_X7_across
theorem dX7_longCards_0 : decode cX7_longCards 0 = .ok (.iconst 0, 1) := by decide +kernel
theorem dX7_longCards_1 : decode cX7_longCards 1 = .ok (.istore_n 1, 1) := by decide +kernel
theorem dX7_longCards_2 : decode cX7_longCards 2 = .ok (.iconst 0, 1) := by decide +kernel
theorem dX7_longCards_3 : decode cX7_longCards 3 = .ok (.istore_n 2, 1) := by decide +kernel
theorem dX7_longCards_4 : decode cX7_longCards 4 = .ok (.iload_n 2, 1) := by decide +kernel
theorem dX7_longCards_5 : decode cX7_longCards 5 = .ok (.aload_n 0, 1) := by decide +kernel
theorem dX7_longCards_6 : decode cX7_longCards 6 = .ok (.getfield 7, 3) := by decide +kernel
theorem dX7_longCards_9 : decode cX7_longCards 9 = .ok (.iconst 2, 1) := by decide +kernel
theorem dX7_longCards_10 : decode cX7_longCards 10 = .ok (.iaload, 1) := by decide +kernel
theorem dX7_longCards_11 : decode cX7_longCards 11 = .ok (.if_icmp .ge 33, 3) := by decide +kernel
theorem dX7_longCards_14 : decode cX7_longCards 14 = .ok (.iload_n 1, 1) := by decide +kernel
theorem dX7_longCards_15 : decode cX7_longCards 15 = .ok (.aload_n 0, 1) := by decide +kernel
theorem dX7_longCards_16 : decode cX7_longCards 16 = .ok (.iload_n 2, 1) := by decide +kernel
theorem dX7_longCards_17 : decode cX7_longCards 17 = .ok (.invokevirtual 137, 3) := by decide +kernel
theorem dX7_longCards_20 : decode cX7_longCards 20 = .ok (.aload_n 0, 1) := by decide +kernel
theorem dX7_longCards_21 : decode cX7_longCards 21 = .ok (.getfield 7, 3) := by decide +kernel
theorem dX7_longCards_24 : decode cX7_longCards 24 = .ok (.iconst 3, 1) := by decide +kernel
theorem dX7_longCards_25 : decode cX7_longCards 25 = .ok (.iaload, 1) := by decide +kernel
theorem dX7_longCards_26 : decode cX7_longCards 26 = .ok (.if_icmp .le 9, 3) := by decide +kernel
theorem dX7_longCards_29 : decode cX7_longCards 29 = .ok (.iconst 1, 1) := by decide +kernel
theorem dX7_longCards_30 : decode cX7_longCards 30 = .ok (.iload_n 2, 1) := by decide +kernel
theorem dX7_longCards_31 : decode cX7_longCards 31 = .ok (.ishl, 1) := by decide +kernel
theorem dX7_longCards_32 : decode cX7_longCards 32 = .ok (.goto 4, 3) := by decide +kernel
theorem dX7_longCards_35 : decode cX7_longCards 35 = .ok (.iconst 0, 1) := by decide +kernel
theorem dX7_longCards_36 : decode cX7_longCards 36 = .ok (.ior, 1) := by decide +kernel
theorem dX7_longCards_37 : decode cX7_longCards 37 = .ok (.istore_n 1, 1) := by decide +kernel
theorem dX7_longCards_38 : decode cX7_longCards 38 = .ok (.iinc 2 1, 3) := by decide +kernel
theorem dX7_longCards_41 : decode cX7_longCards 41 = .ok (.goto (-37), 3) := by decide +kernel
theorem dX7_longCards_44 : decode cX7_longCards 44 = .ok (.iload_n 1, 1) := by decide +kernel
theorem dX7_longCards_45 : decode cX7_longCards 45 = .ok (.ireturn, 1) := by decide +kernel
set_option maxRecDepth 20000 in
theorem ggX7_longEnds_X7_along : GoodIn wsX7_longEnds wsX7_along := goodIn_r _ [6, 1, 7, 8, 9, 5, 10, 11, 12, 13, 14, 15, 16, 17, 18, 19, 20, 21, 22, 23, 24, 25, 26, 27, 28, 29] (by decide +kernel) (by decide +kernel)
set_option maxRecDepth 20000 in
theorem gX7_longEnds_X7_along : GoodIn wsX7_longEnds (wsV RX7 140 RX7 yX7_along wsX7_along) := goodIn_app (goodIn_of _ (by decide +kernel)) ggX7_longEnds_X7_along
theorem dX7_longEnds_0 : decode cX7_longEnds 0 = .ok (.iconst 0, 1) := by decide +kernel
theorem dX7_longEnds_1 : decode cX7_longEnds 1 = .ok (.istore_n 1, 1) := by decide +kernel
theorem dX7_longEnds_2 : decode cX7_longEnds 2 = .ok (.iconst 0, 1) := by decide +kernel
theorem dX7_longEnds_3 : decode cX7_longEnds 3 = .ok (.istore_n 2, 1) := by decide +kernel
theorem dX7_longEnds_4 : decode cX7_longEnds 4 = .ok (.iload_n 2, 1) := by decide +kernel
theorem dX7_longEnds_5 : decode cX7_longEnds 5 = .ok (.aload_n 0, 1) := by decide +kernel
theorem dX7_longEnds_6 : decode cX7_longEnds 6 = .ok (.getfield 7, 3) := by decide +kernel
theorem dX7_longEnds_9 : decode cX7_longEnds 9 = .ok (.iconst 1, 1) := by decide +kernel
theorem dX7_longEnds_10 : decode cX7_longEnds 10 = .ok (.iaload, 1) := by decide +kernel
theorem dX7_longEnds_11 : decode cX7_longEnds 11 = .ok (.if_icmp .ge 33, 3) := by decide +kernel
theorem dX7_longEnds_14 : decode cX7_longEnds 14 = .ok (.iload_n 1, 1) := by decide +kernel
theorem dX7_longEnds_15 : decode cX7_longEnds 15 = .ok (.aload_n 0, 1) := by decide +kernel
theorem dX7_longEnds_16 : decode cX7_longEnds 16 = .ok (.iload_n 2, 1) := by decide +kernel
theorem dX7_longEnds_17 : decode cX7_longEnds 17 = .ok (.invokevirtual 140, 3) := by decide +kernel
theorem dX7_longEnds_20 : decode cX7_longEnds 20 = .ok (.aload_n 0, 1) := by decide +kernel
theorem dX7_longEnds_21 : decode cX7_longEnds 21 = .ok (.getfield 7, 3) := by decide +kernel
theorem dX7_longEnds_24 : decode cX7_longEnds 24 = .ok (.iconst 3, 1) := by decide +kernel
theorem dX7_longEnds_25 : decode cX7_longEnds 25 = .ok (.iaload, 1) := by decide +kernel
theorem dX7_longEnds_26 : decode cX7_longEnds 26 = .ok (.if_icmp .le 9, 3) := by decide +kernel
theorem dX7_longEnds_29 : decode cX7_longEnds 29 = .ok (.iconst 1, 1) := by decide +kernel
theorem dX7_longEnds_30 : decode cX7_longEnds 30 = .ok (.iload_n 2, 1) := by decide +kernel
theorem dX7_longEnds_31 : decode cX7_longEnds 31 = .ok (.ishl, 1) := by decide +kernel
theorem dX7_longEnds_32 : decode cX7_longEnds 32 = .ok (.goto 4, 3) := by decide +kernel
theorem dX7_longEnds_35 : decode cX7_longEnds 35 = .ok (.iconst 0, 1) := by decide +kernel
theorem dX7_longEnds_36 : decode cX7_longEnds 36 = .ok (.ior, 1) := by decide +kernel
theorem dX7_longEnds_37 : decode cX7_longEnds 37 = .ok (.istore_n 1, 1) := by decide +kernel
theorem dX7_longEnds_38 : decode cX7_longEnds 38 = .ok (.iinc 2 1, 3) := by decide +kernel
theorem dX7_longEnds_41 : decode cX7_longEnds 41 = .ok (.goto (-37), 3) := by decide +kernel
theorem dX7_longEnds_44 : decode cX7_longEnds 44 = .ok (.iload_n 1, 1) := by decide +kernel
theorem dX7_longEnds_45 : decode cX7_longEnds 45 = .ok (.ireturn, 1) := by decide +kernel
theorem dX7_freeHooks_0 : decode cX7_freeHooks 0 = .ok (.iconst 1, 1) := by decide +kernel
theorem dX7_freeHooks_1 : decode cX7_freeHooks 1 = .ok (.aload_n 0, 1) := by decide +kernel
theorem dX7_freeHooks_2 : decode cX7_freeHooks 2 = .ok (.getfield 7, 3) := by decide +kernel
theorem dX7_freeHooks_5 : decode cX7_freeHooks 5 = .ok (.iconst 0, 1) := by decide +kernel
theorem dX7_freeHooks_6 : decode cX7_freeHooks 6 = .ok (.iaload, 1) := by decide +kernel
theorem dX7_freeHooks_7 : decode cX7_freeHooks 7 = .ok (.ishl, 1) := by decide +kernel
theorem dX7_freeHooks_8 : decode cX7_freeHooks 8 = .ok (.iconst 1, 1) := by decide +kernel
theorem dX7_freeHooks_9 : decode cX7_freeHooks 9 = .ok (.isub, 1) := by decide +kernel
theorem dX7_freeHooks_10 : decode cX7_freeHooks 10 = .ok (.istore_n 1, 1) := by decide +kernel
theorem dX7_freeHooks_11 : decode cX7_freeHooks 11 = .ok (.iconst 0, 1) := by decide +kernel
theorem dX7_freeHooks_12 : decode cX7_freeHooks 12 = .ok (.istore_n 2, 1) := by decide +kernel
theorem dX7_freeHooks_13 : decode cX7_freeHooks 13 = .ok (.iload_n 2, 1) := by decide +kernel
theorem dX7_freeHooks_14 : decode cX7_freeHooks 14 = .ok (.aload_n 0, 1) := by decide +kernel
theorem dX7_freeHooks_15 : decode cX7_freeHooks 15 = .ok (.getfield 7, 3) := by decide +kernel
theorem dX7_freeHooks_18 : decode cX7_freeHooks 18 = .ok (.iconst 1, 1) := by decide +kernel
theorem dX7_freeHooks_19 : decode cX7_freeHooks 19 = .ok (.iaload, 1) := by decide +kernel
theorem dX7_freeHooks_20 : decode cX7_freeHooks 20 = .ok (.if_icmp .ge 24, 3) := by decide +kernel
theorem dX7_freeHooks_23 : decode cX7_freeHooks 23 = .ok (.iload_n 1, 1) := by decide +kernel
theorem dX7_freeHooks_24 : decode cX7_freeHooks 24 = .ok (.iconst 1, 1) := by decide +kernel
theorem dX7_freeHooks_25 : decode cX7_freeHooks 25 = .ok (.aload_n 0, 1) := by decide +kernel
theorem dX7_freeHooks_26 : decode cX7_freeHooks 26 = .ok (.getfield 7, 3) := by decide +kernel
theorem dX7_freeHooks_29 : decode cX7_freeHooks 29 = .ok (.iconst 4, 1) := by decide +kernel
theorem dX7_freeHooks_30 : decode cX7_freeHooks 30 = .ok (.iload_n 2, 1) := by decide +kernel
theorem dX7_freeHooks_31 : decode cX7_freeHooks 31 = .ok (.iadd, 1) := by decide +kernel
theorem dX7_freeHooks_32 : decode cX7_freeHooks 32 = .ok (.iaload, 1) := by decide +kernel
theorem dX7_freeHooks_33 : decode cX7_freeHooks 33 = .ok (.ishl, 1) := by decide +kernel
theorem dX7_freeHooks_34 : decode cX7_freeHooks 34 = .ok (.iconst (-1), 1) := by decide +kernel
theorem dX7_freeHooks_35 : decode cX7_freeHooks 35 = .ok (.ixor, 1) := by decide +kernel
theorem dX7_freeHooks_36 : decode cX7_freeHooks 36 = .ok (.iand, 1) := by decide +kernel
theorem dX7_freeHooks_37 : decode cX7_freeHooks 37 = .ok (.istore_n 1, 1) := by decide +kernel
theorem dX7_freeHooks_38 : decode cX7_freeHooks 38 = .ok (.iinc 2 1, 3) := by decide +kernel
theorem dX7_freeHooks_41 : decode cX7_freeHooks 41 = .ok (.goto (-28), 3) := by decide +kernel
theorem dX7_freeHooks_44 : decode cX7_freeHooks 44 = .ok (.iload_n 1, 1) := by decide +kernel
theorem dX7_freeHooks_45 : decode cX7_freeHooks 45 = .ok (.ireturn, 1) := by decide +kernel
set_option maxRecDepth 20000 in
theorem ggX7_told_X7_repeat : GoodIn wsX7_told wsX7_repeat := goodIn_r _ [6, 7, 8, 9, 5, 10, 11, 12, 13, 14, 15, 16, 17, 18, 19, 48, 49, 50, 51, 52, 53, 54, 55, 56, 57, 58, 59, 60, 61, 62, 63, 64, 65, 66] (by decide +kernel) (by decide +kernel)
set_option maxRecDepth 20000 in
theorem gX7_told_X7_repeat : GoodIn wsX7_told (wsV RX7 149 RX7 yX7_repeat wsX7_repeat) := goodIn_app (goodIn_of _ (by decide +kernel)) ggX7_told_X7_repeat
set_option maxRecDepth 20000 in
theorem ggX7_told_X7_unlikeEnds : GoodIn wsX7_told wsX7_unlikeEnds := goodIn_r _ [23, 11, 24, 25, 26, 5, 27, 16, 17, 18, 19, 48, 49, 50, 51, 52, 53, 54, 55, 56, 57, 58, 59, 60, 61, 62, 63, 64, 65, 66] (by decide +kernel) (by decide +kernel)
set_option maxRecDepth 20000 in
theorem gX7_told_X7_unlikeEnds : GoodIn wsX7_told (wsV RX7 152 RX7 yX7_unlikeEnds wsX7_unlikeEnds) := goodIn_app (goodIn_of _ (by decide +kernel)) ggX7_told_X7_unlikeEnds
set_option maxRecDepth 20000 in
theorem ggX7_told_X7_longCards : GoodIn wsX7_told wsX7_longCards := goodIn_r _ [31, 11, 32, 33, 34, 5, 35, 16, 17, 18, 19, 48, 49, 50, 51, 52, 53, 54, 55, 56, 57, 58, 59, 60, 61, 62, 63, 64, 65, 66] (by decide +kernel) (by decide +kernel)
set_option maxRecDepth 20000 in
theorem gX7_told_X7_longCards : GoodIn wsX7_told (wsV RX7 155 RX7 yX7_longCards wsX7_longCards) := goodIn_app (goodIn_of _ (by decide +kernel)) ggX7_told_X7_longCards
set_option maxRecDepth 20000 in
theorem ggX7_told_X7_longEnds : GoodIn wsX7_told wsX7_longEnds := goodIn_r _ [39, 11, 40, 41, 42, 5, 43, 16, 17, 18, 19, 48, 49, 50, 51, 52, 53, 54, 55, 56, 57, 58, 59, 60, 61, 62, 63, 64, 65, 66] (by decide +kernel) (by decide +kernel)
set_option maxRecDepth 20000 in
theorem gX7_told_X7_longEnds : GoodIn wsX7_told (wsV RX7 158 RX7 yX7_longEnds wsX7_longEnds) := goodIn_app (goodIn_of _ (by decide +kernel)) ggX7_told_X7_longEnds
set_option maxRecDepth 20000 in
theorem ggX7_told_X7_freeHooks : GoodIn wsX7_told wsX7_freeHooks := goodIn_r _ [47, 11, 48, 49, 50, 51, 52, 53, 54, 55, 56, 57, 58, 59, 60, 61, 62, 63, 64, 65, 66] (by decide +kernel) (by decide +kernel)
set_option maxRecDepth 20000 in
theorem gX7_told_X7_freeHooks : GoodIn wsX7_told (wsV RX7 161 RX7 yX7_freeHooks wsX7_freeHooks) := goodIn_app (goodIn_of _ (by decide +kernel)) ggX7_told_X7_freeHooks
theorem dX7_told_0 : decode cX7_told 0 = .ok (.aload_n 0, 1) := by decide +kernel
theorem dX7_told_1 : decode cX7_told 1 = .ok (.iconst 0, 1) := by decide +kernel
theorem dX7_told_2 : decode cX7_told 2 = .ok (.putfield 37, 3) := by decide +kernel
theorem dX7_told_5 : decode cX7_told 5 = .ok (.iload_n 1, 1) := by decide +kernel
theorem dX7_told_6 : decode cX7_told 6 = .ok (.tableswitch 59 0 4 #[34, 39, 44, 49, 54], 34) := by decide +kernel
theorem dX7_told_40 : decode cX7_told 40 = .ok (.aload_n 0, 1) := by decide +kernel
theorem dX7_told_41 : decode cX7_told 41 = .ok (.invokevirtual 149, 3) := by decide +kernel
theorem dX7_told_44 : decode cX7_told 44 = .ok (.ireturn, 1) := by decide +kernel
theorem dX7_told_45 : decode cX7_told 45 = .ok (.aload_n 0, 1) := by decide +kernel
theorem dX7_told_46 : decode cX7_told 46 = .ok (.invokevirtual 152, 3) := by decide +kernel
theorem dX7_told_49 : decode cX7_told 49 = .ok (.ireturn, 1) := by decide +kernel
theorem dX7_told_50 : decode cX7_told 50 = .ok (.aload_n 0, 1) := by decide +kernel
theorem dX7_told_51 : decode cX7_told 51 = .ok (.invokevirtual 155, 3) := by decide +kernel
theorem dX7_told_54 : decode cX7_told 54 = .ok (.ireturn, 1) := by decide +kernel
theorem dX7_told_55 : decode cX7_told 55 = .ok (.aload_n 0, 1) := by decide +kernel
theorem dX7_told_56 : decode cX7_told 56 = .ok (.invokevirtual 158, 3) := by decide +kernel
theorem dX7_told_59 : decode cX7_told 59 = .ok (.ireturn, 1) := by decide +kernel
theorem dX7_told_60 : decode cX7_told 60 = .ok (.aload_n 0, 1) := by decide +kernel
theorem dX7_told_61 : decode cX7_told 61 = .ok (.invokevirtual 161, 3) := by decide +kernel
theorem dX7_told_64 : decode cX7_told 64 = .ok (.ireturn, 1) := by decide +kernel
theorem dX7_told_65 : decode cX7_told 65 = .ok (.iconst (-1), 1) := by decide +kernel
theorem dX7_told_66 : decode cX7_told 66 = .ok (.ireturn, 1) := by decide +kernel
theorem dX7_places_0 : decode cX7_places 0 = .ok (.aload_n 0, 1) := by decide +kernel
theorem dX7_places_1 : decode cX7_places 1 = .ok (.getfield 7, 3) := by decide +kernel
theorem dX7_places_4 : decode cX7_places 4 = .ok (.iconst 0, 1) := by decide +kernel
theorem dX7_places_5 : decode cX7_places 5 = .ok (.iaload, 1) := by decide +kernel
theorem dX7_places_6 : decode cX7_places 6 = .ok (.aload_n 0, 1) := by decide +kernel
theorem dX7_places_7 : decode cX7_places 7 = .ok (.getfield 7, 3) := by decide +kernel
theorem dX7_places_10 : decode cX7_places 10 = .ok (.iconst 2, 1) := by decide +kernel
theorem dX7_places_11 : decode cX7_places 11 = .ok (.iaload, 1) := by decide +kernel
theorem dX7_places_12 : decode cX7_places 12 = .ok (.imul, 1) := by decide +kernel
theorem dX7_places_13 : decode cX7_places 13 = .ok (.ireturn, 1) := by decide +kernel
theorem dX7_turnsOver_0 : decode cX7_turnsOver 0 = .ok (.aload_n 0, 1) := by decide +kernel
theorem dX7_turnsOver_1 : decode cX7_turnsOver 1 = .ok (.getfield 7, 3) := by decide +kernel
theorem dX7_turnsOver_4 : decode cX7_turnsOver 4 = .ok (.bipush 16, 2) := by decide +kernel
theorem dX7_turnsOver_6 : decode cX7_turnsOver 6 = .ok (.iload_n 1, 1) := by decide +kernel
theorem dX7_turnsOver_7 : decode cX7_turnsOver 7 = .ok (.aload_n 0, 1) := by decide +kernel
theorem dX7_turnsOver_8 : decode cX7_turnsOver 8 = .ok (.getfield 7, 3) := by decide +kernel
theorem dX7_turnsOver_11 : decode cX7_turnsOver 11 = .ok (.iconst 0, 1) := by decide +kernel
theorem dX7_turnsOver_12 : decode cX7_turnsOver 12 = .ok (.iaload, 1) := by decide +kernel
theorem dX7_turnsOver_13 : decode cX7_turnsOver 13 = .ok (.idiv, 1) := by decide +kernel
theorem dX7_turnsOver_14 : decode cX7_turnsOver 14 = .ok (.iadd, 1) := by decide +kernel
theorem dX7_turnsOver_15 : decode cX7_turnsOver 15 = .ok (.dup2, 1) := by decide +kernel
theorem dX7_turnsOver_16 : decode cX7_turnsOver 16 = .ok (.iaload, 1) := by decide +kernel
theorem dX7_turnsOver_17 : decode cX7_turnsOver 17 = .ok (.iconst 1, 1) := by decide +kernel
theorem dX7_turnsOver_18 : decode cX7_turnsOver 18 = .ok (.iload_n 1, 1) := by decide +kernel
theorem dX7_turnsOver_19 : decode cX7_turnsOver 19 = .ok (.aload_n 0, 1) := by decide +kernel
theorem dX7_turnsOver_20 : decode cX7_turnsOver 20 = .ok (.getfield 7, 3) := by decide +kernel
theorem dX7_turnsOver_23 : decode cX7_turnsOver 23 = .ok (.iconst 0, 1) := by decide +kernel
theorem dX7_turnsOver_24 : decode cX7_turnsOver 24 = .ok (.iaload, 1) := by decide +kernel
theorem dX7_turnsOver_25 : decode cX7_turnsOver 25 = .ok (.irem, 1) := by decide +kernel
theorem dX7_turnsOver_26 : decode cX7_turnsOver 26 = .ok (.ishl, 1) := by decide +kernel
theorem dX7_turnsOver_27 : decode cX7_turnsOver 27 = .ok (.ixor, 1) := by decide +kernel
theorem dX7_turnsOver_28 : decode cX7_turnsOver 28 = .ok (.iastore, 1) := by decide +kernel
theorem dX7_turnsOver_29 : decode cX7_turnsOver 29 = .ok (.return_, 1) := by decide +kernel
set_option maxRecDepth 20000 in
theorem ggX7_isFine_X7_longCards : GoodIn wsX7_isFine wsX7_longCards := goodIn_r _ [5, 6, 7, 8, 9, 4, 10, 11, 12, 13, 14, 23, 24, 25, 26, 27, 28, 29, 30, 31, 32, 33, 34, 35, 36, 37, 38, 39, 40, 41] (by decide +kernel) (by decide +kernel)
set_option maxRecDepth 20000 in
theorem gX7_isFine_X7_longCards : GoodIn wsX7_isFine (wsV RX7 155 RX7 yX7_longCards wsX7_longCards) := goodIn_app (goodIn_of _ (by decide +kernel)) ggX7_isFine_X7_longCards
set_option maxRecDepth 20000 in
theorem ggX7_isFine_X7_longEnds : GoodIn wsX7_isFine wsX7_longEnds := goodIn_r _ [18, 6, 19, 20, 21, 4, 22, 11, 12, 13, 14, 23, 24, 25, 26, 27, 28, 29, 30, 31, 32, 33, 34, 35, 36, 37, 38, 39, 40, 41] (by decide +kernel) (by decide +kernel)
set_option maxRecDepth 20000 in
theorem gX7_isFine_X7_longEnds : GoodIn wsX7_isFine (wsV RX7 158 RX7 yX7_longEnds wsX7_longEnds) := goodIn_app (goodIn_of _ (by decide +kernel)) ggX7_isFine_X7_longEnds
theorem dX7_isFine_0 : decode cX7_isFine 0 = .ok (.aload_n 0, 1) := by decide +kernel
theorem dX7_isFine_1 : decode cX7_isFine 1 = .ok (.invokevirtual 155, 3) := by decide +kernel
theorem dX7_isFine_4 : decode cX7_isFine 4 = .ok (.ifCond .ne 14, 3) := by decide +kernel
theorem dX7_isFine_7 : decode cX7_isFine 7 = .ok (.aload_n 0, 1) := by decide +kernel
theorem dX7_isFine_8 : decode cX7_isFine 8 = .ok (.invokevirtual 158, 3) := by decide +kernel
theorem dX7_isFine_11 : decode cX7_isFine 11 = .ok (.ifCond .ne 7, 3) := by decide +kernel
theorem dX7_isFine_14 : decode cX7_isFine 14 = .ok (.iconst 1, 1) := by decide +kernel
theorem dX7_isFine_15 : decode cX7_isFine 15 = .ok (.goto 4, 3) := by decide +kernel
theorem dX7_isFine_18 : decode cX7_isFine 18 = .ok (.iconst 0, 1) := by decide +kernel
theorem dX7_isFine_19 : decode cX7_isFine 19 = .ok (.ireturn, 1) := by decide +kernel
set_option maxRecDepth 20000 in
theorem ggX7_mending_X7_isFine : GoodIn wsX7_mending wsX7_isFine := goodIn_r _ [7, 8, 9, 10, 6, 11, 12, 13, 14, 15, 16, 17, 18, 19, 20, 21, 22, 23, 24, 25, 26, 27, 28, 37, 38, 39, 40, 41, 42, 43, 44, 45, 46, 47, 48, 49, 50, 51, 52, 53, 54, 55] (by decide +kernel) (by decide +kernel)
set_option maxRecDepth 20000 in
theorem gX7_mending_X7_isFine : GoodIn wsX7_mending (wsV RX7 170 RX7 yX7_isFine wsX7_isFine) := goodIn_app (goodIn_of _ (by decide +kernel)) ggX7_mending_X7_isFine
set_option maxRecDepth 20000 in
theorem ggX7_mending_X7_places : GoodIn wsX7_mending wsX7_places := goodIn_r _ [32, 12, 37, 38, 39, 40, 41, 42, 43, 44, 45, 46, 47, 48, 49, 50, 51, 52, 53, 54, 55] (by decide +kernel) (by decide +kernel)
set_option maxRecDepth 20000 in
theorem gX7_mending_X7_places : GoodIn wsX7_mending (wsV RX7 174 RX7 yX7_places wsX7_places) := goodIn_app (goodIn_of _ (by decide +kernel)) ggX7_mending_X7_places
set_option maxRecDepth 20000 in
theorem ggX7_mending_X7_turnsOver : GoodIn wsX7_mending wsX7_turnsOver := goodIn_r _ [36, 12, 37, 38, 39, 40, 41, 42, 43, 44, 45, 46, 47, 48, 49, 50, 51, 52, 53, 54, 55] (by decide +kernel) (by decide +kernel)
set_option maxRecDepth 20000 in
theorem gX7_mending_X7_turnsOver : GoodIn wsX7_mending (wsV RX7 177 RX7 yX7_turnsOver wsX7_turnsOver) := goodIn_app (goodIn_of _ (by decide +kernel)) ggX7_mending_X7_turnsOver
theorem dX7_mending_0 : decode cX7_mending 0 = .ok (.aload_n 0, 1) := by decide +kernel
theorem dX7_mending_1 : decode cX7_mending 1 = .ok (.bipush (-9), 2) := by decide +kernel
theorem dX7_mending_3 : decode cX7_mending 3 = .ok (.putfield 164, 3) := by decide +kernel
theorem dX7_mending_6 : decode cX7_mending 6 = .ok (.aload_n 0, 1) := by decide +kernel
theorem dX7_mending_7 : decode cX7_mending 7 = .ok (.bipush (-9), 2) := by decide +kernel
theorem dX7_mending_9 : decode cX7_mending 9 = .ok (.putfield 167, 3) := by decide +kernel
theorem dX7_mending_12 : decode cX7_mending 12 = .ok (.aload_n 0, 1) := by decide +kernel
theorem dX7_mending_13 : decode cX7_mending 13 = .ok (.invokevirtual 170, 3) := by decide +kernel
theorem dX7_mending_16 : decode cX7_mending 16 = .ok (.ifCond .eq 5, 3) := by decide +kernel
theorem dX7_mending_19 : decode cX7_mending 19 = .ok (.iconst 0, 1) := by decide +kernel
theorem dX7_mending_20 : decode cX7_mending 20 = .ok (.ireturn, 1) := by decide +kernel
theorem dX7_mending_21 : decode cX7_mending 21 = .ok (.iconst 0, 1) := by decide +kernel
theorem dX7_mending_22 : decode cX7_mending 22 = .ok (.istore_n 1, 1) := by decide +kernel
theorem dX7_mending_23 : decode cX7_mending 23 = .ok (.iload_n 1, 1) := by decide +kernel
theorem dX7_mending_24 : decode cX7_mending 24 = .ok (.aload_n 0, 1) := by decide +kernel
theorem dX7_mending_25 : decode cX7_mending 25 = .ok (.invokevirtual 174, 3) := by decide +kernel
theorem dX7_mending_28 : decode cX7_mending 28 = .ok (.if_icmp .ge 45, 3) := by decide +kernel
theorem dX7_mending_31 : decode cX7_mending 31 = .ok (.aload_n 0, 1) := by decide +kernel
theorem dX7_mending_32 : decode cX7_mending 32 = .ok (.getfield 164, 3) := by decide +kernel
theorem dX7_mending_35 : decode cX7_mending 35 = .ok (.bipush (-9), 2) := by decide +kernel
theorem dX7_mending_37 : decode cX7_mending 37 = .ok (.if_icmp .ne 36, 3) := by decide +kernel
theorem dX7_mending_40 : decode cX7_mending 40 = .ok (.aload_n 0, 1) := by decide +kernel
theorem dX7_mending_41 : decode cX7_mending 41 = .ok (.iload_n 1, 1) := by decide +kernel
theorem dX7_mending_42 : decode cX7_mending 42 = .ok (.invokevirtual 177, 3) := by decide +kernel
theorem dX7_mending_45 : decode cX7_mending 45 = .ok (.aload_n 0, 1) := by decide +kernel
theorem dX7_mending_46 : decode cX7_mending 46 = .ok (.aload_n 0, 1) := by decide +kernel
theorem dX7_mending_47 : decode cX7_mending 47 = .ok (.invokevirtual 170, 3) := by decide +kernel
theorem dX7_mending_50 : decode cX7_mending 50 = .ok (.ifCond .eq 7, 3) := by decide +kernel
theorem dX7_mending_53 : decode cX7_mending 53 = .ok (.iload_n 1, 1) := by decide +kernel
theorem dX7_mending_54 : decode cX7_mending 54 = .ok (.goto 5, 3) := by decide +kernel
theorem dX7_mending_57 : decode cX7_mending 57 = .ok (.bipush (-9), 2) := by decide +kernel
theorem dX7_mending_59 : decode cX7_mending 59 = .ok (.putfield 164, 3) := by decide +kernel
theorem dX7_mending_62 : decode cX7_mending 62 = .ok (.aload_n 0, 1) := by decide +kernel
theorem dX7_mending_63 : decode cX7_mending 63 = .ok (.iload_n 1, 1) := by decide +kernel
theorem dX7_mending_64 : decode cX7_mending 64 = .ok (.invokevirtual 177, 3) := by decide +kernel
theorem dX7_mending_67 : decode cX7_mending 67 = .ok (.iinc 1 1, 3) := by decide +kernel
theorem dX7_mending_70 : decode cX7_mending 70 = .ok (.goto (-47), 3) := by decide +kernel
theorem dX7_mending_73 : decode cX7_mending 73 = .ok (.aload_n 0, 1) := by decide +kernel
theorem dX7_mending_74 : decode cX7_mending 74 = .ok (.getfield 164, 3) := by decide +kernel
theorem dX7_mending_77 : decode cX7_mending 77 = .ok (.bipush (-9), 2) := by decide +kernel
theorem dX7_mending_79 : decode cX7_mending 79 = .ok (.if_icmp .eq 5, 3) := by decide +kernel
theorem dX7_mending_82 : decode cX7_mending 82 = .ok (.iconst 1, 1) := by decide +kernel
theorem dX7_mending_83 : decode cX7_mending 83 = .ok (.ireturn, 1) := by decide +kernel
theorem dX7_mending_84 : decode cX7_mending 84 = .ok (.iconst 0, 1) := by decide +kernel
theorem dX7_mending_85 : decode cX7_mending 85 = .ok (.istore_n 1, 1) := by decide +kernel
theorem dX7_mending_86 : decode cX7_mending 86 = .ok (.iload_n 1, 1) := by decide +kernel
theorem dX7_mending_87 : decode cX7_mending 87 = .ok (.aload_n 0, 1) := by decide +kernel
theorem dX7_mending_88 : decode cX7_mending 88 = .ok (.invokevirtual 174, 3) := by decide +kernel
theorem dX7_mending_91 : decode cX7_mending 91 = .ok (.if_icmp .ge 101, 3) := by decide +kernel
theorem dX7_mending_94 : decode cX7_mending 94 = .ok (.aload_n 0, 1) := by decide +kernel
theorem dX7_mending_95 : decode cX7_mending 95 = .ok (.getfield 164, 3) := by decide +kernel
theorem dX7_mending_98 : decode cX7_mending 98 = .ok (.bipush (-9), 2) := by decide +kernel
theorem dX7_mending_100 : decode cX7_mending 100 = .ok (.if_icmp .ne 92, 3) := by decide +kernel
theorem dX7_mending_103 : decode cX7_mending 103 = .ok (.aload_n 0, 1) := by decide +kernel
theorem dX7_mending_104 : decode cX7_mending 104 = .ok (.iload_n 1, 1) := by decide +kernel
theorem dX7_mending_105 : decode cX7_mending 105 = .ok (.invokevirtual 177, 3) := by decide +kernel
theorem dX7_mending_108 : decode cX7_mending 108 = .ok (.iload_n 1, 1) := by decide +kernel
theorem dX7_mending_109 : decode cX7_mending 109 = .ok (.iconst 1, 1) := by decide +kernel
theorem dX7_mending_110 : decode cX7_mending 110 = .ok (.iadd, 1) := by decide +kernel
theorem dX7_mending_111 : decode cX7_mending 111 = .ok (.istore_n 2, 1) := by decide +kernel
theorem dX7_mending_112 : decode cX7_mending 112 = .ok (.iload_n 2, 1) := by decide +kernel
theorem dX7_mending_113 : decode cX7_mending 113 = .ok (.aload_n 0, 1) := by decide +kernel
theorem dX7_mending_114 : decode cX7_mending 114 = .ok (.invokevirtual 174, 3) := by decide +kernel
theorem dX7_mending_117 : decode cX7_mending 117 = .ok (.if_icmp .ge 64, 3) := by decide +kernel
theorem dX7_mending_120 : decode cX7_mending 120 = .ok (.aload_n 0, 1) := by decide +kernel
theorem dX7_mending_121 : decode cX7_mending 121 = .ok (.getfield 164, 3) := by decide +kernel
theorem dX7_mending_124 : decode cX7_mending 124 = .ok (.bipush (-9), 2) := by decide +kernel
theorem dX7_mending_126 : decode cX7_mending 126 = .ok (.if_icmp .ne 55, 3) := by decide +kernel
theorem dX7_mending_129 : decode cX7_mending 129 = .ok (.aload_n 0, 1) := by decide +kernel
theorem dX7_mending_130 : decode cX7_mending 130 = .ok (.iload_n 2, 1) := by decide +kernel
theorem dX7_mending_131 : decode cX7_mending 131 = .ok (.invokevirtual 177, 3) := by decide +kernel
theorem dX7_mending_134 : decode cX7_mending 134 = .ok (.aload_n 0, 1) := by decide +kernel
theorem dX7_mending_135 : decode cX7_mending 135 = .ok (.aload_n 0, 1) := by decide +kernel
theorem dX7_mending_136 : decode cX7_mending 136 = .ok (.invokevirtual 170, 3) := by decide +kernel
theorem dX7_mending_139 : decode cX7_mending 139 = .ok (.ifCond .eq 7, 3) := by decide +kernel
theorem dX7_mending_142 : decode cX7_mending 142 = .ok (.iload_n 1, 1) := by decide +kernel
theorem dX7_mending_143 : decode cX7_mending 143 = .ok (.goto 5, 3) := by decide +kernel
theorem dX7_mending_146 : decode cX7_mending 146 = .ok (.bipush (-9), 2) := by decide +kernel
theorem dX7_mending_148 : decode cX7_mending 148 = .ok (.putfield 164, 3) := by decide +kernel
theorem dX7_mending_151 : decode cX7_mending 151 = .ok (.aload_n 0, 1) := by decide +kernel
theorem dX7_mending_152 : decode cX7_mending 152 = .ok (.aload_n 0, 1) := by decide +kernel
theorem dX7_mending_153 : decode cX7_mending 153 = .ok (.getfield 164, 3) := by decide +kernel
theorem dX7_mending_156 : decode cX7_mending 156 = .ok (.bipush (-9), 2) := by decide +kernel
theorem dX7_mending_158 : decode cX7_mending 158 = .ok (.if_icmp .ne 8, 3) := by decide +kernel
theorem dX7_mending_161 : decode cX7_mending 161 = .ok (.bipush (-9), 2) := by decide +kernel
theorem dX7_mending_163 : decode cX7_mending 163 = .ok (.goto 4, 3) := by decide +kernel
theorem dX7_mending_166 : decode cX7_mending 166 = .ok (.iload_n 2, 1) := by decide +kernel
theorem dX7_mending_167 : decode cX7_mending 167 = .ok (.putfield 167, 3) := by decide +kernel
theorem dX7_mending_170 : decode cX7_mending 170 = .ok (.aload_n 0, 1) := by decide +kernel
theorem dX7_mending_171 : decode cX7_mending 171 = .ok (.iload_n 2, 1) := by decide +kernel
theorem dX7_mending_172 : decode cX7_mending 172 = .ok (.invokevirtual 177, 3) := by decide +kernel
theorem dX7_mending_175 : decode cX7_mending 175 = .ok (.iinc 2 1, 3) := by decide +kernel
theorem dX7_mending_178 : decode cX7_mending 178 = .ok (.goto (-66), 3) := by decide +kernel
theorem dX7_mending_181 : decode cX7_mending 181 = .ok (.aload_n 0, 1) := by decide +kernel
theorem dX7_mending_182 : decode cX7_mending 182 = .ok (.iload_n 1, 1) := by decide +kernel
theorem dX7_mending_183 : decode cX7_mending 183 = .ok (.invokevirtual 177, 3) := by decide +kernel
theorem dX7_mending_186 : decode cX7_mending 186 = .ok (.iinc 1 1, 3) := by decide +kernel
theorem dX7_mending_189 : decode cX7_mending 189 = .ok (.goto (-103), 3) := by decide +kernel
theorem dX7_mending_192 : decode cX7_mending 192 = .ok (.aload_n 0, 1) := by decide +kernel
theorem dX7_mending_193 : decode cX7_mending 193 = .ok (.getfield 164, 3) := by decide +kernel
theorem dX7_mending_196 : decode cX7_mending 196 = .ok (.bipush (-9), 2) := by decide +kernel
theorem dX7_mending_198 : decode cX7_mending 198 = .ok (.if_icmp .ne 8, 3) := by decide +kernel
theorem dX7_mending_201 : decode cX7_mending 201 = .ok (.bipush (-9), 2) := by decide +kernel
theorem dX7_mending_203 : decode cX7_mending 203 = .ok (.goto 4, 3) := by decide +kernel
theorem dX7_mending_206 : decode cX7_mending 206 = .ok (.iconst 2, 1) := by decide +kernel
theorem dX7_mending_207 : decode cX7_mending 207 = .ok (.ireturn, 1) := by decide +kernel
set_option maxRecDepth 20000 in
theorem ggX7_mends_X7_in : GoodIn wsX7_mends wsX7_in := goodIn_r _ [7] (by decide +kernel) (by decide +kernel)
set_option maxRecDepth 20000 in
theorem gX7_mends_X7_in : GoodIn wsX7_mends (va_wsS RX7 41 yX7_in wsX7_in) := goodIn_app (goodIn_of _ (by decide +kernel)) ggX7_mends_X7_in
set_option maxRecDepth 20000 in
theorem ggX7_mends_X7_mending : GoodIn wsX7_mends wsX7_mending := goodIn_r _ [11, 2, 3, 12, 13, 14, 6, 15, 16, 17, 18, 19, 20, 21, 22, 23, 24, 25, 26, 27, 28, 29, 30, 31, 32, 33, 34, 35, 36, 37, 38, 39, 40, 41, 42, 43, 44, 45, 46, 47, 48, 49, 50, 51, 52, 53, 54, 55, 56, 57, 58, 59, 60, 61, 62, 63] (by decide +kernel) (by decide +kernel)
set_option maxRecDepth 20000 in
theorem gX7_mends_X7_mending : GoodIn wsX7_mends (wsV RX7 181 RX7 yX7_mending wsX7_mending) := goodIn_app (goodIn_of _ (by decide +kernel)) ggX7_mends_X7_mending
theorem dX7_mends_0 : decode cX7_mends 0 = .ok (.aload_n 0, 1) := by decide +kernel
theorem dX7_mends_1 : decode cX7_mends 1 = .ok (.iconst 0, 1) := by decide +kernel
theorem dX7_mends_2 : decode cX7_mends 2 = .ok (.putfield 37, 3) := by decide +kernel
theorem dX7_mends_5 : decode cX7_mends 5 = .ok (.iload_n 1, 1) := by decide +kernel
theorem dX7_mends_6 : decode cX7_mends 6 = .ok (.iconst (-1), 1) := by decide +kernel
theorem dX7_mends_7 : decode cX7_mends 7 = .ok (.iconst 1, 1) := by decide +kernel
theorem dX7_mends_8 : decode cX7_mends 8 = .ok (.invokestatic 41, 3) := by decide +kernel
theorem dX7_mends_11 : decode cX7_mends 11 = .ok (.ifCond .ne 5, 3) := by decide +kernel
theorem dX7_mends_14 : decode cX7_mends 14 = .ok (.iconst (-1), 1) := by decide +kernel
theorem dX7_mends_15 : decode cX7_mends 15 = .ok (.ireturn, 1) := by decide +kernel
theorem dX7_mends_16 : decode cX7_mends 16 = .ok (.aload_n 0, 1) := by decide +kernel
theorem dX7_mends_17 : decode cX7_mends 17 = .ok (.invokevirtual 181, 3) := by decide +kernel
theorem dX7_mends_20 : decode cX7_mends 20 = .ok (.istore_n 2, 1) := by decide +kernel
theorem dX7_mends_21 : decode cX7_mends 21 = .ok (.iload_n 1, 1) := by decide +kernel
theorem dX7_mends_22 : decode cX7_mends 22 = .ok (.iconst (-1), 1) := by decide +kernel
theorem dX7_mends_23 : decode cX7_mends 23 = .ok (.if_icmp .ne 7, 3) := by decide +kernel
theorem dX7_mends_26 : decode cX7_mends 26 = .ok (.iload_n 2, 1) := by decide +kernel
theorem dX7_mends_27 : decode cX7_mends 27 = .ok (.goto 18, 3) := by decide +kernel
theorem dX7_mends_30 : decode cX7_mends 30 = .ok (.iload_n 1, 1) := by decide +kernel
theorem dX7_mends_31 : decode cX7_mends 31 = .ok (.ifCond .ne 10, 3) := by decide +kernel
theorem dX7_mends_34 : decode cX7_mends 34 = .ok (.aload_n 0, 1) := by decide +kernel
theorem dX7_mends_35 : decode cX7_mends 35 = .ok (.getfield 164, 3) := by decide +kernel
theorem dX7_mends_38 : decode cX7_mends 38 = .ok (.goto 7, 3) := by decide +kernel
theorem dX7_mends_41 : decode cX7_mends 41 = .ok (.aload_n 0, 1) := by decide +kernel
theorem dX7_mends_42 : decode cX7_mends 42 = .ok (.getfield 167, 3) := by decide +kernel
theorem dX7_mends_45 : decode cX7_mends 45 = .ok (.ireturn, 1) := by decide +kernel
set_option maxRecDepth 20000 in
theorem ggX7_sees_X7_in : GoodIn wsX7_sees wsX7_in := goodIn_r _ [7] (by decide +kernel) (by decide +kernel)
set_option maxRecDepth 20000 in
theorem gX7_sees_X7_in : GoodIn wsX7_sees (va_wsS RX7 41 yX7_in wsX7_in) := goodIn_app (goodIn_of _ (by decide +kernel)) ggX7_sees_X7_in
theorem dX7_sees_0 : decode cX7_sees 0 = .ok (.aload_n 0, 1) := by decide +kernel
theorem dX7_sees_1 : decode cX7_sees 1 = .ok (.iconst 0, 1) := by decide +kernel
theorem dX7_sees_2 : decode cX7_sees 2 = .ok (.putfield 37, 3) := by decide +kernel
theorem dX7_sees_5 : decode cX7_sees 5 = .ok (.iload_n 1, 1) := by decide +kernel
theorem dX7_sees_6 : decode cX7_sees 6 = .ok (.iconst 0, 1) := by decide +kernel
theorem dX7_sees_7 : decode cX7_sees 7 = .ok (.bipush 99, 2) := by decide +kernel
theorem dX7_sees_9 : decode cX7_sees 9 = .ok (.invokestatic 41, 3) := by decide +kernel
theorem dX7_sees_12 : decode cX7_sees 12 = .ok (.ifCond .eq 22, 3) := by decide +kernel
theorem dX7_sees_15 : decode cX7_sees 15 = .ok (.iload_n 2, 1) := by decide +kernel
theorem dX7_sees_16 : decode cX7_sees 16 = .ok (.iconst 0, 1) := by decide +kernel
theorem dX7_sees_17 : decode cX7_sees 17 = .ok (.bipush 11, 2) := by decide +kernel
theorem dX7_sees_19 : decode cX7_sees 19 = .ok (.invokestatic 41, 3) := by decide +kernel
theorem dX7_sees_22 : decode cX7_sees 22 = .ok (.ifCond .eq 12, 3) := by decide +kernel
theorem dX7_sees_25 : decode cX7_sees 25 = .ok (.iload_n 3, 1) := by decide +kernel
theorem dX7_sees_26 : decode cX7_sees 26 = .ok (.iconst 0, 1) := by decide +kernel
theorem dX7_sees_27 : decode cX7_sees 27 = .ok (.iconst 1, 1) := by decide +kernel
theorem dX7_sees_28 : decode cX7_sees 28 = .ok (.invokestatic 41, 3) := by decide +kernel
theorem dX7_sees_31 : decode cX7_sees 31 = .ok (.ifCond .ne 5, 3) := by decide +kernel
theorem dX7_sees_34 : decode cX7_sees 34 = .ok (.iconst (-1), 1) := by decide +kernel
theorem dX7_sees_35 : decode cX7_sees 35 = .ok (.ireturn, 1) := by decide +kernel
theorem dX7_sees_36 : decode cX7_sees 36 = .ok (.aload_n 0, 1) := by decide +kernel
theorem dX7_sees_37 : decode cX7_sees 37 = .ok (.getfield 184, 3) := by decide +kernel
theorem dX7_sees_40 : decode cX7_sees 40 = .ok (.bipush 8, 2) := by decide +kernel
theorem dX7_sees_42 : decode cX7_sees 42 = .ok (.if_icmp .ne 6, 3) := by decide +kernel
theorem dX7_sees_45 : decode cX7_sees 45 = .ok (.bipush (-3), 2) := by decide +kernel
theorem dX7_sees_47 : decode cX7_sees 47 = .ok (.ireturn, 1) := by decide +kernel
theorem dX7_sees_48 : decode cX7_sees 48 = .ok (.aload_n 0, 1) := by decide +kernel
theorem dX7_sees_49 : decode cX7_sees 49 = .ok (.getfield 26, 3) := by decide +kernel
theorem dX7_sees_52 : decode cX7_sees 52 = .ok (.iconst 3, 1) := by decide +kernel
theorem dX7_sees_53 : decode cX7_sees 53 = .ok (.aload_n 0, 1) := by decide +kernel
theorem dX7_sees_54 : decode cX7_sees 54 = .ok (.getfield 184, 3) := by decide +kernel
theorem dX7_sees_57 : decode cX7_sees 57 = .ok (.imul, 1) := by decide +kernel
theorem dX7_sees_58 : decode cX7_sees 58 = .ok (.iload_n 1, 1) := by decide +kernel
theorem dX7_sees_59 : decode cX7_sees 59 = .ok (.iastore, 1) := by decide +kernel
theorem dX7_sees_60 : decode cX7_sees 60 = .ok (.aload_n 0, 1) := by decide +kernel
theorem dX7_sees_61 : decode cX7_sees 61 = .ok (.getfield 26, 3) := by decide +kernel
theorem dX7_sees_64 : decode cX7_sees 64 = .ok (.iconst 3, 1) := by decide +kernel
theorem dX7_sees_65 : decode cX7_sees 65 = .ok (.aload_n 0, 1) := by decide +kernel
