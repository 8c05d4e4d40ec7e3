theorem dX2_putBehind_14 : decode cX2_putBehind 14 = .ok (.iload_n 1, 1) := by decide +kernel
theorem dX2_putBehind_15 : decode cX2_putBehind 15 = .ok (.iload_n 2, 1) := by decide +kernel
theorem dX2_putBehind_16 : decode cX2_putBehind 16 = .ok (.iastore, 1) := by decide +kernel
theorem dX2_putBehind_17 : decode cX2_putBehind 17 = .ok (.aload_n 0, 1) := by decide +kernel
theorem dX2_putBehind_18 : decode cX2_putBehind 18 = .ok (.iload_n 1, 1) := by decide +kernel
theorem dX2_putBehind_19 : decode cX2_putBehind 19 = .ok (.iconst 1, 1) := by decide +kernel
theorem dX2_putBehind_20 : decode cX2_putBehind 20 = .ok (.iadd, 1) := by decide +kernel
theorem dX2_putBehind_21 : decode cX2_putBehind 21 = .ok (.putfield 39, 3) := by decide +kernel
theorem dX2_putBehind_24 : decode cX2_putBehind 24 = .ok (.return_, 1) := by decide +kernel
set_option maxRecDepth 20000 in
theorem ggX2_takeOut_X2_hasCard : GoodIn wsX2_takeOut wsX2_hasCard := goodIn_r _ [11, 1, 12, 13, 14, 15, 16, 17] (by decide +kernel) (by decide +kernel)
set_option maxRecDepth 20000 in
theorem gX2_takeOut_X2_hasCard : GoodIn wsX2_takeOut (wsV RX2 52 RX2 yX2_hasCard wsX2_hasCard) := goodIn_app (goodIn_of _ (by decide +kernel)) ggX2_takeOut_X2_hasCard
theorem dX2_takeOut_0 : decode cX2_takeOut 0 = .ok (.aload_n 0, 1) := by decide +kernel
theorem dX2_takeOut_1 : decode cX2_takeOut 1 = .ok (.iload_n 1, 1) := by decide +kernel
theorem dX2_takeOut_2 : decode cX2_takeOut 2 = .ok (.invokevirtual 52, 3) := by decide +kernel
theorem dX2_takeOut_5 : decode cX2_takeOut 5 = .ok (.ifCond .eq 44, 3) := by decide +kernel
theorem dX2_takeOut_8 : decode cX2_takeOut 8 = .ok (.aload_n 0, 1) := by decide +kernel
theorem dX2_takeOut_9 : decode cX2_takeOut 9 = .ok (.getfield 39, 3) := by decide +kernel
theorem dX2_takeOut_12 : decode cX2_takeOut 12 = .ok (.iconst 1, 1) := by decide +kernel
theorem dX2_takeOut_13 : decode cX2_takeOut 13 = .ok (.if_icmp .le 36, 3) := by decide +kernel
theorem dX2_takeOut_16 : decode cX2_takeOut 16 = .ok (.aload_n 0, 1) := by decide +kernel
theorem dX2_takeOut_17 : decode cX2_takeOut 17 = .ok (.getfield 15, 3) := by decide +kernel
theorem dX2_takeOut_20 : decode cX2_takeOut 20 = .ok (.iload_n 1, 1) := by decide +kernel
theorem dX2_takeOut_21 : decode cX2_takeOut 21 = .ok (.iconst 1, 1) := by decide +kernel
theorem dX2_takeOut_22 : decode cX2_takeOut 22 = .ok (.iadd, 1) := by decide +kernel
theorem dX2_takeOut_23 : decode cX2_takeOut 23 = .ok (.aload_n 0, 1) := by decide +kernel
theorem dX2_takeOut_24 : decode cX2_takeOut 24 = .ok (.getfield 15, 3) := by decide +kernel
theorem dX2_takeOut_27 : decode cX2_takeOut 27 = .ok (.iload_n 1, 1) := by decide +kernel
theorem dX2_takeOut_28 : decode cX2_takeOut 28 = .ok (.aload_n 0, 1) := by decide +kernel
theorem dX2_takeOut_29 : decode cX2_takeOut 29 = .ok (.getfield 39, 3) := by decide +kernel
theorem dX2_takeOut_32 : decode cX2_takeOut 32 = .ok (.iload_n 1, 1) := by decide +kernel
theorem dX2_takeOut_33 : decode cX2_takeOut 33 = .ok (.isub, 1) := by decide +kernel
theorem dX2_takeOut_34 : decode cX2_takeOut 34 = .ok (.iconst 1, 1) := by decide +kernel
theorem dX2_takeOut_35 : decode cX2_takeOut 35 = .ok (.isub, 1) := by decide +kernel
theorem dX2_takeOut_36 : decode cX2_takeOut 36 = .ok (.invokestatic 42, 3) := by decide +kernel
theorem dX2_takeOut_39 : decode cX2_takeOut 39 = .ok (.aload_n 0, 1) := by decide +kernel
theorem dX2_takeOut_40 : decode cX2_takeOut 40 = .ok (.dup, 1) := by decide +kernel
theorem dX2_takeOut_41 : decode cX2_takeOut 41 = .ok (.getfield 39, 3) := by decide +kernel
theorem dX2_takeOut_44 : decode cX2_takeOut 44 = .ok (.iconst 1, 1) := by decide +kernel
theorem dX2_takeOut_45 : decode cX2_takeOut 45 = .ok (.isub, 1) := by decide +kernel
theorem dX2_takeOut_46 : decode cX2_takeOut 46 = .ok (.putfield 39, 3) := by decide +kernel
theorem dX2_takeOut_49 : decode cX2_takeOut 49 = .ok (.return_, 1) := by decide +kernel
set_option maxRecDepth 20000 in
theorem ggX2_swap_X2_hasCard : GoodIn wsX2_swap wsX2_hasCard := goodIn_r _ [6, 7, 8, 9, 10, 11, 12, 13] (by decide +kernel) (by decide +kernel)
set_option maxRecDepth 20000 in
theorem gX2_swap_X2_hasCard : GoodIn wsX2_swap (wsV RX2 52 RX2 yX2_hasCard wsX2_hasCard) := goodIn_app (goodIn_of _ (by decide +kernel)) ggX2_swap_X2_hasCard
theorem dX2_swap_0 : decode cX2_swap 0 = .ok (.aload_n 0, 1) := by decide +kernel
theorem dX2_swap_1 : decode cX2_swap 1 = .ok (.iload_n 1, 1) := by decide +kernel
theorem dX2_swap_2 : decode cX2_swap 2 = .ok (.invokevirtual 52, 3) := by decide +kernel
theorem dX2_swap_5 : decode cX2_swap 5 = .ok (.ifCond .eq 37, 3) := by decide +kernel
theorem dX2_swap_8 : decode cX2_swap 8 = .ok (.aload_n 0, 1) := by decide +kernel
theorem dX2_swap_9 : decode cX2_swap 9 = .ok (.iload_n 2, 1) := by decide +kernel
theorem dX2_swap_10 : decode cX2_swap 10 = .ok (.invokevirtual 52, 3) := by decide +kernel
theorem dX2_swap_13 : decode cX2_swap 13 = .ok (.ifCond .eq 29, 3) := by decide +kernel
theorem dX2_swap_16 : decode cX2_swap 16 = .ok (.aload_n 0, 1) := by decide +kernel
theorem dX2_swap_17 : decode cX2_swap 17 = .ok (.getfield 15, 3) := by decide +kernel
theorem dX2_swap_20 : decode cX2_swap 20 = .ok (.iload_n 1, 1) := by decide +kernel
theorem dX2_swap_21 : decode cX2_swap 21 = .ok (.iaload, 1) := by decide +kernel
theorem dX2_swap_22 : decode cX2_swap 22 = .ok (.istore_n 3, 1) := by decide +kernel
theorem dX2_swap_23 : decode cX2_swap 23 = .ok (.aload_n 0, 1) := by decide +kernel
theorem dX2_swap_24 : decode cX2_swap 24 = .ok (.getfield 15, 3) := by decide +kernel
theorem dX2_swap_27 : decode cX2_swap 27 = .ok (.iload_n 1, 1) := by decide +kernel
theorem dX2_swap_28 : decode cX2_swap 28 = .ok (.aload_n 0, 1) := by decide +kernel
theorem dX2_swap_29 : decode cX2_swap 29 = .ok (.getfield 15, 3) := by decide +kernel
theorem dX2_swap_32 : decode cX2_swap 32 = .ok (.iload_n 2, 1) := by decide +kernel
theorem dX2_swap_33 : decode cX2_swap 33 = .ok (.iaload, 1) := by decide +kernel
theorem dX2_swap_34 : decode cX2_swap 34 = .ok (.iastore, 1) := by decide +kernel
theorem dX2_swap_35 : decode cX2_swap 35 = .ok (.aload_n 0, 1) := by decide +kernel
theorem dX2_swap_36 : decode cX2_swap 36 = .ok (.getfield 15, 3) := by decide +kernel
theorem dX2_swap_39 : decode cX2_swap 39 = .ok (.iload_n 2, 1) := by decide +kernel
theorem dX2_swap_40 : decode cX2_swap 40 = .ok (.iload_n 3, 1) := by decide +kernel
theorem dX2_swap_41 : decode cX2_swap 41 = .ok (.iastore, 1) := by decide +kernel
theorem dX2_swap_42 : decode cX2_swap 42 = .ok (.return_, 1) := by decide +kernel
theorem dX2_isUp_0 : decode cX2_isUp 0 = .ok (.iload_n 1, 1) := by decide +kernel
theorem dX2_isUp_1 : decode cX2_isUp 1 = .ok (.ifCond .lt 23, 3) := by decide +kernel
theorem dX2_isUp_4 : decode cX2_isUp 4 = .ok (.iload_n 1, 1) := by decide +kernel
theorem dX2_isUp_5 : decode cX2_isUp 5 = .ok (.aload_n 0, 1) := by decide +kernel
theorem dX2_isUp_6 : decode cX2_isUp 6 = .ok (.getfield 39, 3) := by decide +kernel
theorem dX2_isUp_9 : decode cX2_isUp 9 = .ok (.if_icmp .ge 15, 3) := by decide +kernel
theorem dX2_isUp_12 : decode cX2_isUp 12 = .ok (.iload_n 2, 1) := by decide +kernel
theorem dX2_isUp_13 : decode cX2_isUp 13 = .ok (.ifCond .lt 11, 3) := by decide +kernel
theorem dX2_isUp_16 : decode cX2_isUp 16 = .ok (.iload_n 2, 1) := by decide +kernel
theorem dX2_isUp_17 : decode cX2_isUp 17 = .ok (.aload_n 0, 1) := by decide +kernel
theorem dX2_isUp_18 : decode cX2_isUp 18 = .ok (.getfield 21, 3) := by decide +kernel
theorem dX2_isUp_21 : decode cX2_isUp 21 = .ok (.if_icmp .lt 5, 3) := by decide +kernel
theorem dX2_isUp_24 : decode cX2_isUp 24 = .ok (.iconst 0, 1) := by decide +kernel
theorem dX2_isUp_25 : decode cX2_isUp 25 = .ok (.ireturn, 1) := by decide +kernel
theorem dX2_isUp_26 : decode cX2_isUp 26 = .ok (.aload_n 0, 1) := by decide +kernel
theorem dX2_isUp_27 : decode cX2_isUp 27 = .ok (.getfield 15, 3) := by decide +kernel
theorem dX2_isUp_30 : decode cX2_isUp 30 = .ok (.iload_n 1, 1) := by decide +kernel
theorem dX2_isUp_31 : decode cX2_isUp 31 = .ok (.iaload, 1) := by decide +kernel
theorem dX2_isUp_32 : decode cX2_isUp 32 = .ok (.aload_n 0, 1) := by decide +kernel
theorem dX2_isUp_33 : decode cX2_isUp 33 = .ok (.getfield 9, 3) := by decide +kernel
theorem dX2_isUp_36 : decode cX2_isUp 36 = .ok (.iload_n 2, 1) := by decide +kernel
theorem dX2_isUp_37 : decode cX2_isUp 37 = .ok (.iaload, 1) := by decide +kernel
theorem dX2_isUp_38 : decode cX2_isUp 38 = .ok (.ishr, 1) := by decide +kernel
theorem dX2_isUp_39 : decode cX2_isUp 39 = .ok (.iconst 1, 1) := by decide +kernel
theorem dX2_isUp_40 : decode cX2_isUp 40 = .ok (.iand, 1) := by decide +kernel
theorem dX2_isUp_41 : decode cX2_isUp 41 = .ok (.iconst 1, 1) := by decide +kernel
theorem dX2_isUp_42 : decode cX2_isUp 42 = .ok (.if_icmp .ne 7, 3) := by decide +kernel
theorem dX2_isUp_45 : decode cX2_isUp 45 = .ok (.iconst 1, 1) := by decide +kernel
theorem dX2_isUp_46 : decode cX2_isUp 46 = .ok (.goto 4, 3) := by decide +kernel
theorem dX2_isUp_49 : decode cX2_isUp 49 = .ok (.iconst 0, 1) := by decide +kernel
theorem dX2_isUp_50 : decode cX2_isUp 50 = .ok (.ireturn, 1) := by decide +kernel
set_option maxRecDepth 20000 in
theorem ggX2_upEnds_X2_isUp : GoodIn wsX2_upEnds wsX2_isUp := goodIn_r _ [6, 7, 1, 8, 9, 10, 11, 12, 13, 14, 15] (by decide +kernel) (by decide +kernel)
set_option maxRecDepth 20000 in
theorem gX2_upEnds_X2_isUp : GoodIn wsX2_upEnds (wsV RX2 63 RX2 yX2_isUp wsX2_isUp) := goodIn_app (goodIn_of _ (by decide +kernel)) ggX2_upEnds_X2_isUp
theorem dX2_upEnds_0 : decode cX2_upEnds 0 = .ok (.iconst 0, 1) := by decide +kernel
theorem dX2_upEnds_1 : decode cX2_upEnds 1 = .ok (.istore_n 2, 1) := by decide +kernel
theorem dX2_upEnds_2 : decode cX2_upEnds 2 = .ok (.iconst 0, 1) := by decide +kernel
theorem dX2_upEnds_3 : decode cX2_upEnds 3 = .ok (.istore_n 3, 1) := by decide +kernel
theorem dX2_upEnds_4 : decode cX2_upEnds 4 = .ok (.iload_n 3, 1) := by decide +kernel
theorem dX2_upEnds_5 : decode cX2_upEnds 5 = .ok (.aload_n 0, 1) := by decide +kernel
theorem dX2_upEnds_6 : decode cX2_upEnds 6 = .ok (.getfield 21, 3) := by decide +kernel
theorem dX2_upEnds_9 : decode cX2_upEnds 9 = .ok (.if_icmp .ge 28, 3) := by decide +kernel
theorem dX2_upEnds_12 : decode cX2_upEnds 12 = .ok (.iload_n 2, 1) := by decide +kernel
theorem dX2_upEnds_13 : decode cX2_upEnds 13 = .ok (.aload_n 0, 1) := by decide +kernel
theorem dX2_upEnds_14 : decode cX2_upEnds 14 = .ok (.iload_n 1, 1) := by decide +kernel
theorem dX2_upEnds_15 : decode cX2_upEnds 15 = .ok (.iload_n 3, 1) := by decide +kernel
theorem dX2_upEnds_16 : decode cX2_upEnds 16 = .ok (.invokevirtual 63, 3) := by decide +kernel
theorem dX2_upEnds_19 : decode cX2_upEnds 19 = .ok (.ifCond .eq 9, 3) := by decide +kernel
theorem dX2_upEnds_22 : decode cX2_upEnds 22 = .ok (.iconst 1, 1) := by decide +kernel
theorem dX2_upEnds_23 : decode cX2_upEnds 23 = .ok (.iload_n 3, 1) := by decide +kernel
theorem dX2_upEnds_24 : decode cX2_upEnds 24 = .ok (.ishl, 1) := by decide +kernel
theorem dX2_upEnds_25 : decode cX2_upEnds 25 = .ok (.goto 4, 3) := by decide +kernel
theorem dX2_upEnds_28 : decode cX2_upEnds 28 = .ok (.iconst 0, 1) := by decide +kernel
theorem dX2_upEnds_29 : decode cX2_upEnds 29 = .ok (.ior, 1) := by decide +kernel
theorem dX2_upEnds_30 : decode cX2_upEnds 30 = .ok (.istore_n 2, 1) := by decide +kernel
theorem dX2_upEnds_31 : decode cX2_upEnds 31 = .ok (.iinc 3 1, 3) := by decide +kernel
theorem dX2_upEnds_34 : decode cX2_upEnds 34 = .ok (.goto (-30), 3) := by decide +kernel
theorem dX2_upEnds_37 : decode cX2_upEnds 37 = .ok (.iload_n 2, 1) := by decide +kernel
theorem dX2_upEnds_38 : decode cX2_upEnds 38 = .ok (.ireturn, 1) := by decide +kernel
set_option maxRecDepth 20000 in
theorem ggX2_upRows_X2_isUp : GoodIn wsX2_upRows wsX2_isUp := goodIn_r _ [6, 1, 7, 8, 9, 10, 11, 12, 13, 14, 15] (by decide +kernel) (by decide +kernel)
set_option maxRecDepth 20000 in
theorem gX2_upRows_X2_isUp : GoodIn wsX2_upRows (wsV RX2 63 RX2 yX2_isUp wsX2_isUp) := goodIn_app (goodIn_of _ (by decide +kernel)) ggX2_upRows_X2_isUp
theorem dX2_upRows_0 : decode cX2_upRows 0 = .ok (.iconst 0, 1) := by decide +kernel
theorem dX2_upRows_1 : decode cX2_upRows 1 = .ok (.istore_n 2, 1) := by decide +kernel
theorem dX2_upRows_2 : decode cX2_upRows 2 = .ok (.iconst 0, 1) := by decide +kernel
theorem dX2_upRows_3 : decode cX2_upRows 3 = .ok (.istore_n 3, 1) := by decide +kernel
theorem dX2_upRows_4 : decode cX2_upRows 4 = .ok (.iload_n 3, 1) := by decide +kernel
theorem dX2_upRows_5 : decode cX2_upRows 5 = .ok (.aload_n 0, 1) := by decide +kernel
theorem dX2_upRows_6 : decode cX2_upRows 6 = .ok (.getfield 39, 3) := by decide +kernel
theorem dX2_upRows_9 : decode cX2_upRows 9 = .ok (.if_icmp .ge 28, 3) := by decide +kernel
theorem dX2_upRows_12 : decode cX2_upRows 12 = .ok (.iload_n 2, 1) := by decide +kernel
theorem dX2_upRows_13 : decode cX2_upRows 13 = .ok (.aload_n 0, 1) := by decide +kernel
theorem dX2_upRows_14 : decode cX2_upRows 14 = .ok (.iload_n 3, 1) := by decide +kernel
theorem dX2_upRows_15 : decode cX2_upRows 15 = .ok (.iload_n 1, 1) := by decide +kernel
theorem dX2_upRows_16 : decode cX2_upRows 16 = .ok (.invokevirtual 63, 3) := by decide +kernel
theorem dX2_upRows_19 : decode cX2_upRows 19 = .ok (.ifCond .eq 9, 3) := by decide +kernel
theorem dX2_upRows_22 : decode cX2_upRows 22 = .ok (.iconst 1, 1) := by decide +kernel
theorem dX2_upRows_23 : decode cX2_upRows 23 = .ok (.iload_n 3, 1) := by decide +kernel
theorem dX2_upRows_24 : decode cX2_upRows 24 = .ok (.ishl, 1) := by decide +kernel
theorem dX2_upRows_25 : decode cX2_upRows 25 = .ok (.goto 4, 3) := by decide +kernel
theorem dX2_upRows_28 : decode cX2_upRows 28 = .ok (.iconst 0, 1) := by decide +kernel
theorem dX2_upRows_29 : decode cX2_upRows 29 = .ok (.ior, 1) := by decide +kernel
theorem dX2_upRows_30 : decode cX2_upRows 30 = .ok (.istore_n 2, 1) := by decide +kernel
theorem dX2_upRows_31 : decode cX2_upRows 31 = .ok (.iinc 3 1, 3) := by decide +kernel
theorem dX2_upRows_34 : decode cX2_upRows 34 = .ok (.goto (-30), 3) := by decide +kernel
theorem dX2_upRows_37 : decode cX2_upRows 37 = .ok (.iload_n 2, 1) := by decide +kernel
theorem dX2_upRows_38 : decode cX2_upRows 38 = .ok (.ireturn, 1) := by decide +kernel
set_option maxRecDepth 20000 in
theorem ggX2_across_X2_isUp : GoodIn wsX2_across wsX2_isUp := goodIn_r _ [10, 11, 1, 12, 13, 14, 15, 16, 17, 18, 19] (by decide +kernel) (by decide +kernel)
set_option maxRecDepth 20000 in
theorem gX2_across_X2_isUp : GoodIn wsX2_across (wsV RX2 63 RX2 yX2_isUp wsX2_isUp) := goodIn_app (goodIn_of _ (by decide +kernel)) ggX2_across_X2_isUp
theorem dX2_across_0 : decode cX2_across 0 = .ok (.iconst 0, 1) := by decide +kernel
theorem dX2_across_1 : decode cX2_across 1 = .ok (.istore_n 2, 1) := by decide +kernel
theorem dX2_across_2 : decode cX2_across 2 = .ok (.iconst 0, 1) := by decide +kernel
theorem dX2_across_3 : decode cX2_across 3 = .ok (.istore_n 3, 1) := by decide +kernel
theorem dX2_across_4 : decode cX2_across 4 = .ok (.iconst 0, 1) := by decide +kernel
theorem dX2_across_5 : decode cX2_across 5 = .ok (.istore 4, 2) := by decide +kernel
theorem dX2_across_7 : decode cX2_across 7 = .ok (.iload 4, 2) := by decide +kernel
theorem dX2_across_9 : decode cX2_across 9 = .ok (.aload_n 0, 1) := by decide +kernel
theorem dX2_across_10 : decode cX2_across 10 = .ok (.getfield 21, 3) := by decide +kernel
theorem dX2_across_13 : decode cX2_across 13 = .ok (.if_icmp .ge 33, 3) := by decide +kernel
theorem dX2_across_16 : decode cX2_across 16 = .ok (.aload_n 0, 1) := by decide +kernel
theorem dX2_across_17 : decode cX2_across 17 = .ok (.iload_n 1, 1) := by decide +kernel
theorem dX2_across_18 : decode cX2_across 18 = .ok (.iload 4, 2) := by decide +kernel
theorem dX2_across_20 : decode cX2_across 20 = .ok (.invokevirtual 63, 3) := by decide +kernel
theorem dX2_across_23 : decode cX2_across 23 = .ok (.ifCond .eq 7, 3) := by decide +kernel
theorem dX2_across_26 : decode cX2_across 26 = .ok (.iconst 0, 1) := by decide +kernel
theorem dX2_across_27 : decode cX2_across 27 = .ok (.goto 6, 3) := by decide +kernel
theorem dX2_across_30 : decode cX2_across 30 = .ok (.iload_n 3, 1) := by decide +kernel
theorem dX2_across_31 : decode cX2_across 31 = .ok (.iconst 1, 1) := by decide +kernel
theorem dX2_across_32 : decode cX2_across 32 = .ok (.iadd, 1) := by decide +kernel
theorem dX2_across_33 : decode cX2_across 33 = .ok (.istore_n 3, 1) := by decide +kernel
theorem dX2_across_34 : decode cX2_across 34 = .ok (.iload_n 2, 1) := by decide +kernel
theorem dX2_across_35 : decode cX2_across 35 = .ok (.iload_n 3, 1) := by decide +kernel
theorem dX2_across_36 : decode cX2_across 36 = .ok (.invokestatic 67, 3) := by decide +kernel
theorem dX2_across_39 : decode cX2_across 39 = .ok (.istore_n 2, 1) := by decide +kernel
theorem dX2_across_40 : decode cX2_across 40 = .ok (.iinc 4 1, 3) := by decide +kernel
theorem dX2_across_43 : decode cX2_across 43 = .ok (.goto (-36), 3) := by decide +kernel
theorem dX2_across_46 : decode cX2_across 46 = .ok (.iload_n 2, 1) := by decide +kernel
theorem dX2_across_47 : decode cX2_across 47 = .ok (.ireturn, 1) := by decide +kernel
set_option maxRecDepth 20000 in
theorem ggX2_along_X2_isUp : GoodIn wsX2_along wsX2_isUp := goodIn_r _ [10, 1, 11, 12, 13, 18, 19, 20, 21, 22, 23] (by decide +kernel) (by decide +kernel)
set_option maxRecDepth 20000 in
theorem gX2_along_X2_isUp : GoodIn wsX2_along (wsV RX2 63 RX2 yX2_isUp wsX2_isUp) := goodIn_app (goodIn_of _ (by decide +kernel)) ggX2_along_X2_isUp
set_option maxRecDepth 20000 in
theorem ggX2_along_X2_cardOfRow : GoodIn wsX2_along wsX2_cardOfRow := goodIn_r _ [17, 1, 18, 19, 20, 21, 22, 23] (by decide +kernel) (by decide +kernel)
set_option maxRecDepth 20000 in
theorem gX2_along_X2_cardOfRow : GoodIn wsX2_along (wsV RX2 73 RX2 yX2_cardOfRow wsX2_cardOfRow) := goodIn_app (goodIn_of _ (by decide +kernel)) ggX2_along_X2_cardOfRow
theorem dX2_along_0 : decode cX2_along 0 = .ok (.iconst 2, 1) := by decide +kernel
theorem dX2_along_1 : decode cX2_along 1 = .ok (.aload_n 0, 1) := by decide +kernel
theorem dX2_along_2 : decode cX2_along 2 = .ok (.getfield 39, 3) := by decide +kernel
theorem dX2_along_5 : decode cX2_along 5 = .ok (.imul, 1) := by decide +kernel
theorem dX2_along_6 : decode cX2_along 6 = .ok (.istore_n 2, 1) := by decide +kernel
theorem dX2_along_7 : decode cX2_along 7 = .ok (.aload_n 0, 1) := by decide +kernel
theorem dX2_along_8 : decode cX2_along 8 = .ok (.iconst 0, 1) := by decide +kernel
theorem dX2_along_9 : decode cX2_along 9 = .ok (.iload_n 1, 1) := by decide +kernel
theorem dX2_along_10 : decode cX2_along 10 = .ok (.invokevirtual 63, 3) := by decide +kernel
theorem dX2_along_13 : decode cX2_along 13 = .ok (.istore_n 3, 1) := by decide +kernel
theorem dX2_along_14 : decode cX2_along 14 = .ok (.iconst 1, 1) := by decide +kernel
theorem dX2_along_15 : decode cX2_along 15 = .ok (.istore 4, 2) := by decide +kernel
theorem dX2_along_17 : decode cX2_along 17 = .ok (.iconst 1, 1) := by decide +kernel
theorem dX2_along_18 : decode cX2_along 18 = .ok (.istore 5, 2) := by decide +kernel
theorem dX2_along_20 : decode cX2_along 20 = .ok (.iconst 1, 1) := by decide +kernel
theorem dX2_along_21 : decode cX2_along 21 = .ok (.istore 6, 2) := by decide +kernel
theorem dX2_along_23 : decode cX2_along 23 = .ok (.iload 6, 2) := by decide +kernel
theorem dX2_along_25 : decode cX2_along 25 = .ok (.iload_n 2, 1) := by decide +kernel
theorem dX2_along_26 : decode cX2_along 26 = .ok (.if_icmp .ge 50, 3) := by decide +kernel
theorem dX2_along_29 : decode cX2_along 29 = .ok (.aload_n 0, 1) := by decide +kernel
theorem dX2_along_30 : decode cX2_along 30 = .ok (.aload_n 0, 1) := by decide +kernel
theorem dX2_along_31 : decode cX2_along 31 = .ok (.iload 6, 2) := by decide +kernel
theorem dX2_along_33 : decode cX2_along 33 = .ok (.invokevirtual 73, 3) := by decide +kernel
theorem dX2_along_36 : decode cX2_along 36 = .ok (.iload_n 1, 1) := by decide +kernel
theorem dX2_along_37 : decode cX2_along 37 = .ok (.invokevirtual 63, 3) := by decide +kernel
theorem dX2_along_40 : decode cX2_along 40 = .ok (.istore 7, 2) := by decide +kernel
theorem dX2_along_42 : decode cX2_along 42 = .ok (.iload 7, 2) := by decide +kernel
theorem dX2_along_44 : decode cX2_along 44 = .ok (.iload_n 3, 1) := by decide +kernel
theorem dX2_along_45 : decode cX2_along 45 = .ok (.if_icmp .ne 10, 3) := by decide +kernel
theorem dX2_along_48 : decode cX2_along 48 = .ok (.iload 5, 2) := by decide +kernel
theorem dX2_along_50 : decode cX2_along 50 = .ok (.iconst 1, 1) := by decide +kernel
theorem dX2_along_51 : decode cX2_along 51 = .ok (.iadd, 1) := by decide +kernel
theorem dX2_along_52 : decode cX2_along 52 = .ok (.goto 4, 3) := by decide +kernel
theorem dX2_along_55 : decode cX2_along 55 = .ok (.iconst 1, 1) := by decide +kernel
theorem dX2_along_56 : decode cX2_along 56 = .ok (.istore 5, 2) := by decide +kernel
theorem dX2_along_58 : decode cX2_along 58 = .ok (.iload 4, 2) := by decide +kernel
theorem dX2_along_60 : decode cX2_along 60 = .ok (.iload 5, 2) := by decide +kernel
theorem dX2_along_62 : decode cX2_along 62 = .ok (.invokestatic 67, 3) := by decide +kernel
theorem dX2_along_65 : decode cX2_along 65 = .ok (.istore 4, 2) := by decide +kernel
theorem dX2_along_67 : decode cX2_along 67 = .ok (.iload 7, 2) := by decide +kernel
theorem dX2_along_69 : decode cX2_along 69 = .ok (.istore_n 3, 1) := by decide +kernel
theorem dX2_along_70 : decode cX2_along 70 = .ok (.iinc 6 1, 3) := by decide +kernel
theorem dX2_along_73 : decode cX2_along 73 = .ok (.goto (-50), 3) := by decide +kernel
theorem dX2_along_76 : decode cX2_along 76 = .ok (.iload 4, 2) := by decide +kernel
theorem dX2_along_78 : decode cX2_along 78 = .ok (.iload_n 2, 1) := by decide +kernel
theorem dX2_along_79 : decode cX2_along 79 = .ok (.if_icmp .ne 8, 3) := by decide +kernel
theorem dX2_along_82 : decode cX2_along 82 = .ok (.bipush 99, 2) := by decide +kernel
theorem dX2_along_84 : decode cX2_along 84 = .ok (.goto 5, 3) := by decide +kernel
theorem dX2_along_87 : decode cX2_along 87 = .ok (.iload 4, 2) := by decide +kernel
theorem dX2_along_89 : decode cX2_along 89 = .ok (.ireturn, 1) := by decide +kernel
set_option maxRecDepth 20000 in
theorem ggX2_repeat_X2_repeatsAfter : GoodIn wsX2_repeat wsX2_repeatsAfter := goodIn_r _ [6, 1, 7, 8, 9, 5, 10, 11, 12, 13, 14, 15, 16, 17, 18, 19, 20, 21, 22, 23, 24, 25, 26, 27] (by decide +kernel) (by decide +kernel)
set_option maxRecDepth 20000 in
theorem gX2_repeat_X2_repeatsAfter : GoodIn wsX2_repeat (wsV RX2 76 RX2 yX2_repeatsAfter wsX2_repeatsAfter) := goodIn_app (goodIn_of _ (by decide +kernel)) ggX2_repeat_X2_repeatsAfter
theorem dX2_repeat_0 : decode cX2_repeat 0 = .ok (.iconst 1, 1) := by decide +kernel
theorem dX2_repeat_1 : decode cX2_repeat 1 = .ok (.istore_n 1, 1) := by decide +kernel
theorem dX2_repeat_2 : decode cX2_repeat 2 = .ok (.iload_n 1, 1) := by decide +kernel
theorem dX2_repeat_3 : decode cX2_repeat 3 = .ok (.aload_n 0, 1) := by decide +kernel
theorem dX2_repeat_4 : decode cX2_repeat 4 = .ok (.getfield 39, 3) := by decide +kernel
theorem dX2_repeat_7 : decode cX2_repeat 7 = .ok (.if_icmp .ge 19, 3) := by decide +kernel
theorem dX2_repeat_10 : decode cX2_repeat 10 = .ok (.aload_n 0, 1) := by decide +kernel
theorem dX2_repeat_11 : decode cX2_repeat 11 = .ok (.iload_n 1, 1) := by decide +kernel
theorem dX2_repeat_12 : decode cX2_repeat 12 = .ok (.invokevirtual 76, 3) := by decide +kernel
theorem dX2_repeat_15 : decode cX2_repeat 15 = .ok (.ifCond .eq 5, 3) := by decide +kernel
theorem dX2_repeat_18 : decode cX2_repeat 18 = .ok (.iload_n 1, 1) := by decide +kernel
theorem dX2_repeat_19 : decode cX2_repeat 19 = .ok (.ireturn, 1) := by decide +kernel
theorem dX2_repeat_20 : decode cX2_repeat 20 = .ok (.iinc 1 1, 3) := by decide +kernel
theorem dX2_repeat_23 : decode cX2_repeat 23 = .ok (.goto (-21), 3) := by decide +kernel
theorem dX2_repeat_26 : decode cX2_repeat 26 = .ok (.aload_n 0, 1) := by decide +kernel
theorem dX2_repeat_27 : decode cX2_repeat 27 = .ok (.getfield 39, 3) := by decide +kernel
theorem dX2_repeat_30 : decode cX2_repeat 30 = .ok (.ireturn, 1) := by decide +kernel
set_option maxRecDepth 20000 in
theorem ggX2_repeatsAfter_X2_upEnds : GoodIn wsX2_repeatsAfter wsX2_upEnds := goodIn_r _ [6, 7, 8, 9, 10, 5, 11, 1, 12, 13, 18, 19, 20, 21, 22, 23] (by decide +kernel) (by decide +kernel)
set_option maxRecDepth 20000 in
theorem gX2_repeatsAfter_X2_upEnds : GoodIn wsX2_repeatsAfter (wsV RX2 79 RX2 yX2_upEnds wsX2_upEnds) := goodIn_app (goodIn_of _ (by decide +kernel)) ggX2_repeatsAfter_X2_upEnds
set_option maxRecDepth 20000 in
theorem ggX2_repeatsAfter_X2_cardOfRow : GoodIn wsX2_repeatsAfter wsX2_cardOfRow := goodIn_r _ [17, 1, 18, 19, 20, 21, 22, 23] (by decide +kernel) (by decide +kernel)
set_option maxRecDepth 20000 in
theorem gX2_repeatsAfter_X2_cardOfRow : GoodIn wsX2_repeatsAfter (wsV RX2 73 RX2 yX2_cardOfRow wsX2_cardOfRow) := goodIn_app (goodIn_of _ (by decide +kernel)) ggX2_repeatsAfter_X2_cardOfRow
theorem dX2_repeatsAfter_0 : decode cX2_repeatsAfter 0 = .ok (.iconst 0, 1) := by decide +kernel
theorem dX2_repeatsAfter_1 : decode cX2_repeatsAfter 1 = .ok (.istore_n 2, 1) := by decide +kernel
theorem dX2_repeatsAfter_2 : decode cX2_repeatsAfter 2 = .ok (.iload_n 2, 1) := by decide +kernel
theorem dX2_repeatsAfter_3 : decode cX2_repeatsAfter 3 = .ok (.aload_n 0, 1) := by decide +kernel
theorem dX2_repeatsAfter_4 : decode cX2_repeatsAfter 4 = .ok (.getfield 39, 3) := by decide +kernel
theorem dX2_repeatsAfter_7 : decode cX2_repeatsAfter 7 = .ok (.if_icmp .ge 30, 3) := by decide +kernel
theorem dX2_repeatsAfter_10 : decode cX2_repeatsAfter 10 = .ok (.aload_n 0, 1) := by decide +kernel
theorem dX2_repeatsAfter_11 : decode cX2_repeatsAfter 11 = .ok (.iload_n 2, 1) := by decide +kernel
theorem dX2_repeatsAfter_12 : decode cX2_repeatsAfter 12 = .ok (.invokevirtual 79, 3) := by decide +kernel
theorem dX2_repeatsAfter_15 : decode cX2_repeatsAfter 15 = .ok (.aload_n 0, 1) := by decide +kernel
theorem dX2_repeatsAfter_16 : decode cX2_repeatsAfter 16 = .ok (.aload_n 0, 1) := by decide +kernel
theorem dX2_repeatsAfter_17 : decode cX2_repeatsAfter 17 = .ok (.iload_n 2, 1) := by decide +kernel
theorem dX2_repeatsAfter_18 : decode cX2_repeatsAfter 18 = .ok (.iload_n 1, 1) := by decide +kernel
theorem dX2_repeatsAfter_19 : decode cX2_repeatsAfter 19 = .ok (.iadd, 1) := by decide +kernel
theorem dX2_repeatsAfter_20 : decode cX2_repeatsAfter 20 = .ok (.invokevirtual 73, 3) := by decide +kernel
theorem dX2_repeatsAfter_23 : decode cX2_repeatsAfter 23 = .ok (.invokevirtual 79, 3) := by decide +kernel
theorem dX2_repeatsAfter_26 : decode cX2_repeatsAfter 26 = .ok (.if_icmp .eq 5, 3) := by decide +kernel
theorem dX2_repeatsAfter_29 : decode cX2_repeatsAfter 29 = .ok (.iconst 0, 1) := by decide +kernel
theorem dX2_repeatsAfter_30 : decode cX2_repeatsAfter 30 = .ok (.ireturn, 1) := by decide +kernel
theorem dX2_repeatsAfter_31 : decode cX2_repeatsAfter 31 = .ok (.iinc 2 1, 3) := by decide +kernel
theorem dX2_repeatsAfter_34 : decode cX2_repeatsAfter 34 = .ok (.goto (-32), 3) := by decide +kernel
theorem dX2_repeatsAfter_37 : decode cX2_repeatsAfter 37 = .ok (.iconst 1, 1) := by decide +kernel
theorem dX2_repeatsAfter_38 : decode cX2_repeatsAfter 38 = .ok (.ireturn, 1) := by decide +kernel
set_option maxRecDepth 20000 in
theorem ggX2_unlikeEnds_X2_isLikeAnEarlierOne : GoodIn wsX2_unlikeEnds wsX2_isLikeAnEarlierOne := goodIn_r _ [6, 7, 8, 9, 5, 10, 11, 12, 13, 14, 15, 1, 16, 17, 18, 19, 20, 21, 22, 23] (by decide +kernel) (by decide +kernel)
set_option maxRecDepth 20000 in
theorem gX2_unlikeEnds_X2_isLikeAnEarlierOne : GoodIn wsX2_unlikeEnds (wsV RX2 82 RX2 yX2_isLikeAnEarlierOne wsX2_isLikeAnEarlierOne) := goodIn_app (goodIn_of _ (by decide +kernel)) ggX2_unlikeEnds_X2_isLikeAnEarlierOne
theorem dX2_unlikeEnds_0 : decode cX2_unlikeEnds 0 = .ok (.iconst 0, 1) := by decide +kernel
theorem dX2_unlikeEnds_1 : decode cX2_unlikeEnds 1 = .ok (.istore_n 1, 1) := by decide +kernel
theorem dX2_unlikeEnds_2 : decode cX2_unlikeEnds 2 = .ok (.iconst 0, 1) := by decide +kernel
theorem dX2_unlikeEnds_3 : decode cX2_unlikeEnds 3 = .ok (.istore_n 2, 1) := by decide +kernel
theorem dX2_unlikeEnds_4 : decode cX2_unlikeEnds 4 = .ok (.iload_n 2, 1) := by decide +kernel
theorem dX2_unlikeEnds_5 : decode cX2_unlikeEnds 5 = .ok (.aload_n 0, 1) := by decide +kernel
theorem dX2_unlikeEnds_6 : decode cX2_unlikeEnds 6 = .ok (.getfield 21, 3) := by decide +kernel
theorem dX2_unlikeEnds_9 : decode cX2_unlikeEnds 9 = .ok (.if_icmp .ge 25, 3) := by decide +kernel
theorem dX2_unlikeEnds_12 : decode cX2_unlikeEnds 12 = .ok (.iload_n 1, 1) := by decide +kernel
theorem dX2_unlikeEnds_13 : decode cX2_unlikeEnds 13 = .ok (.aload_n 0, 1) := by decide +kernel
theorem dX2_unlikeEnds_14 : decode cX2_unlikeEnds 14 = .ok (.iload_n 2, 1) := by decide +kernel
theorem dX2_unlikeEnds_15 : decode cX2_unlikeEnds 15 = .ok (.invokevirtual 82, 3) := by decide +kernel
theorem dX2_unlikeEnds_18 : decode cX2_unlikeEnds 18 = .ok (.ifCond .eq 7, 3) := by decide +kernel
theorem dX2_unlikeEnds_21 : decode cX2_unlikeEnds 21 = .ok (.iconst 0, 1) := by decide +kernel
theorem dX2_unlikeEnds_22 : decode cX2_unlikeEnds 22 = .ok (.goto 4, 3) := by decide +kernel
theorem dX2_unlikeEnds_25 : decode cX2_unlikeEnds 25 = .ok (.iconst 1, 1) := by decide +kernel
theorem dX2_unlikeEnds_26 : decode cX2_unlikeEnds 26 = .ok (.iadd, 1) := by decide +kernel
theorem dX2_unlikeEnds_27 : decode cX2_unlikeEnds 27 = .ok (.istore_n 1, 1) := by decide +kernel
theorem dX2_unlikeEnds_28 : decode cX2_unlikeEnds 28 = .ok (.iinc 2 1, 3) := by decide +kernel
theorem dX2_unlikeEnds_31 : decode cX2_unlikeEnds 31 = .ok (.goto (-27), 3) := by decide +kernel
theorem dX2_unlikeEnds_34 : decode cX2_unlikeEnds 34 = .ok (.iload_n 1, 1) := by decide +kernel
theorem dX2_unlikeEnds_35 : decode cX2_unlikeEnds 35 = .ok (.ireturn, 1) := by decide +kernel
set_option maxRecDepth 20000 in
theorem ggX2_isLikeAnEarlierOne_X2_upRows : GoodIn wsX2_isLikeAnEarlierOne wsX2_upRows := goodIn_r _ [5, 6, 7, 8, 9, 4, 10, 11, 12, 13, 14, 15, 16, 17, 18, 19] (by decide +kernel) (by decide +kernel)
set_option maxRecDepth 20000 in
theorem gX2_isLikeAnEarlierOne_X2_upRows : GoodIn wsX2_isLikeAnEarlierOne (wsV RX2 85 RX2 yX2_upRows wsX2_upRows) := goodIn_app (goodIn_of _ (by decide +kernel)) ggX2_isLikeAnEarlierOne_X2_upRows
theorem dX2_isLikeAnEarlierOne_0 : decode cX2_isLikeAnEarlierOne 0 = .ok (.aload_n 0, 1) := by decide +kernel
theorem dX2_isLikeAnEarlierOne_1 : decode cX2_isLikeAnEarlierOne 1 = .ok (.iload_n 1, 1) := by decide +kernel
theorem dX2_isLikeAnEarlierOne_2 : decode cX2_isLikeAnEarlierOne 2 = .ok (.invokevirtual 85, 3) := by decide +kernel
theorem dX2_isLikeAnEarlierOne_5 : decode cX2_isLikeAnEarlierOne 5 = .ok (.istore_n 2, 1) := by decide +kernel
theorem dX2_isLikeAnEarlierOne_6 : decode cX2_isLikeAnEarlierOne 6 = .ok (.iconst 0, 1) := by decide +kernel
theorem dX2_isLikeAnEarlierOne_7 : decode cX2_isLikeAnEarlierOne 7 = .ok (.istore_n 3, 1) := by decide +kernel
theorem dX2_isLikeAnEarlierOne_8 : decode cX2_isLikeAnEarlierOne 8 = .ok (.iload_n 3, 1) := by decide +kernel
theorem dX2_isLikeAnEarlierOne_9 : decode cX2_isLikeAnEarlierOne 9 = .ok (.iload_n 1, 1) := by decide +kernel
theorem dX2_isLikeAnEarlierOne_10 : decode cX2_isLikeAnEarlierOne 10 = .ok (.if_icmp .ge 20, 3) := by decide +kernel
theorem dX2_isLikeAnEarlierOne_13 : decode cX2_isLikeAnEarlierOne 13 = .ok (.aload_n 0, 1) := by decide +kernel
theorem dX2_isLikeAnEarlierOne_14 : decode cX2_isLikeAnEarlierOne 14 = .ok (.iload_n 3, 1) := by decide +kernel
theorem dX2_isLikeAnEarlierOne_15 : decode cX2_isLikeAnEarlierOne 15 = .ok (.invokevirtual 85, 3) := by decide +kernel
theorem dX2_isLikeAnEarlierOne_18 : decode cX2_isLikeAnEarlierOne 18 = .ok (.iload_n 2, 1) := by decide +kernel
theorem dX2_isLikeAnEarlierOne_19 : decode cX2_isLikeAnEarlierOne 19 = .ok (.if_icmp .ne 5, 3) := by decide +kernel
theorem dX2_isLikeAnEarlierOne_22 : decode cX2_isLikeAnEarlierOne 22 = .ok (.iconst 1, 1) := by decide +kernel
theorem dX2_isLikeAnEarlierOne_23 : decode cX2_isLikeAnEarlierOne 23 = .ok (.ireturn, 1) := by decide +kernel
theorem dX2_isLikeAnEarlierOne_24 : decode cX2_isLikeAnEarlierOne 24 = .ok (.iinc 3 1, 3) := by decide +kernel
theorem dX2_isLikeAnEarlierOne_27 : decode cX2_isLikeAnEarlierOne 27 = .ok (.goto (-19), 3) := by decide +kernel
theorem dX2_isLikeAnEarlierOne_30 : decode cX2_isLikeAnEarlierOne 30 = .ok (.iconst 0, 1) := by decide +kernel
theorem dX2_isLikeAnEarlierOne_31 : decode cX2_isLikeAnEarlierOne 31 = .ok (.ireturn, 1) := by decide +kernel
set_option maxRecDepth 20000 in
theorem ggX2_longCards_X2_across : GoodIn wsX2_longCards wsX2_across := goodIn_r _ [7, 8, 9, 10, 11, 12, 13, 14, 15, 6, 16, 1, 17, 18, 19, 20, 21, 22, 23, 24] (by decide +kernel) (by decide +kernel)
set_option maxRecDepth 20000 in
theorem gX2_longCards_X2_across : GoodIn wsX2_longCards (wsV RX2 88 RX2 yX2_across wsX2_across) := goodIn_app (goodIn_of _ (by decide +kernel)) ggX2_longCards_X2_across
theorem dX2_longCards_0 : decode cX2_longCards 0 = .ok (.iconst 0, 1) := by decide +kernel
theorem dX2_longCards_1 : decode cX2_longCards 1 = .ok (.istore_n 1, 1) := by decide +kernel
theorem dX2_longCards_2 : decode cX2_longCards 2 = .ok (.iconst 0, 1) := by decide +kernel
theorem dX2_longCards_3 : decode cX2_longCards 3 = .ok (.istore_n 2, 1) := by decide +kernel
theorem dX2_longCards_4 : decode cX2_longCards 4 = .ok (.iload_n 2, 1) := by decide +kernel
theorem dX2_longCards_5 : decode cX2_longCards 5 = .ok (.aload_n 0, 1) := by decide +kernel
theorem dX2_longCards_6 : decode cX2_longCards 6 = .ok (.getfield 39, 3) := by decide +kernel
theorem dX2_longCards_9 : decode cX2_longCards 9 = .ok (.if_icmp .ge 31, 3) := by decide +kernel
theorem dX2_longCards_12 : decode cX2_longCards 12 = .ok (.iload_n 1, 1) := by decide +kernel
theorem dX2_longCards_13 : decode cX2_longCards 13 = .ok (.aload_n 0, 1) := by decide +kernel
theorem dX2_longCards_14 : decode cX2_longCards 14 = .ok (.iload_n 2, 1) := by decide +kernel
theorem dX2_longCards_15 : decode cX2_longCards 15 = .ok (.invokevirtual 88, 3) := by decide +kernel
theorem dX2_longCards_18 : decode cX2_longCards 18 = .ok (.aload_n 0, 1) := by decide +kernel
theorem dX2_longCards_19 : decode cX2_longCards 19 = .ok (.getfield 33, 3) := by decide +kernel
theorem dX2_longCards_22 : decode cX2_longCards 22 = .ok (.if_icmp .le 9, 3) := by decide +kernel
theorem dX2_longCards_25 : decode cX2_longCards 25 = .ok (.iconst 1, 1) := by decide +kernel
theorem dX2_longCards_26 : decode cX2_longCards 26 = .ok (.iload_n 2, 1) := by decide +kernel
theorem dX2_longCards_27 : decode cX2_longCards 27 = .ok (.ishl, 1) := by decide +kernel
theorem dX2_longCards_28 : decode cX2_longCards 28 = .ok (.goto 4, 3) := by decide +kernel
theorem dX2_longCards_31 : decode cX2_longCards 31 = .ok (.iconst 0, 1) := by decide +kernel
theorem dX2_longCards_32 : decode cX2_longCards 32 = .ok (.ior, 1) := by decide +kernel
theorem dX2_longCards_33 : decode cX2_longCards 33 = .ok (.istore_n 1, 1) := by decide +kernel
theorem dX2_longCards_34 : decode cX2_longCards 34 = .ok (.iinc 2 1, 3) := by decide +kernel
theorem dX2_longCards_37 : decode cX2_longCards 37 = .ok (.goto (-33), 3) := by decide +kernel
theorem dX2_longCards_40 : decode cX2_longCards 40 = .ok (.iload_n 1, 1) := by decide +kernel
theorem dX2_longCards_41 : decode cX2_longCards 41 = .ok (.ireturn, 1) := by decide +kernel
set_option maxRecDepth 20000 in
theorem ggX2_longEnds_X2_along : GoodIn wsX2_longEnds wsX2_along := goodIn_r _ [7, 8, 9, 10, 11, 12, 13, 14, 15, 6, 16, 1, 17, 18, 19, 20, 21, 22, 23, 24, 25, 26, 27, 28] (by decide +kernel) (by decide +kernel)
set_option maxRecDepth 20000 in
theorem gX2_longEnds_X2_along : GoodIn wsX2_longEnds (wsV RX2 91 RX2 yX2_along wsX2_along) := goodIn_app (goodIn_of _ (by decide +kernel)) ggX2_longEnds_X2_along
theorem dX2_longEnds_0 : decode cX2_longEnds 0 = .ok (.iconst 0, 1) := by decide +kernel
theorem dX2_longEnds_1 : decode cX2_longEnds 1 = .ok (.istore_n 1, 1) := by decide +kernel
theorem dX2_longEnds_2 : decode cX2_longEnds 2 = .ok (.iconst 0, 1) := by decide +kernel
theorem dX2_longEnds_3 : decode cX2_longEnds 3 = .ok (.istore_n 2, 1) := by decide +kernel
theorem dX2_longEnds_4 : decode cX2_longEnds 4 = .ok (.iload_n 2, 1) := by decide +kernel
theorem dX2_longEnds_5 : decode cX2_longEnds 5 = .ok (.aload_n 0, 1) := by decide +kernel
theorem dX2_longEnds_6 : decode cX2_longEnds 6 = .ok (.getfield 21, 3) := by decide +kernel
theorem dX2_longEnds_9 : decode cX2_longEnds 9 = .ok (.if_icmp .ge 31, 3) := by decide +kernel
theorem dX2_longEnds_12 : decode cX2_longEnds 12 = .ok (.iload_n 1, 1) := by decide +kernel
theorem dX2_longEnds_13 : decode cX2_longEnds 13 = .ok (.aload_n 0, 1) := by decide +kernel
theorem dX2_longEnds_14 : decode cX2_longEnds 14 = .ok (.iload_n 2, 1) := by decide +kernel
theorem dX2_longEnds_15 : decode cX2_longEnds 15 = .ok (.invokevirtual 91, 3) := by decide +kernel
theorem dX2_longEnds_18 : decode cX2_longEnds 18 = .ok (.aload_n 0, 1) := by decide +kernel
theorem dX2_longEnds_19 : decode cX2_longEnds 19 = .ok (.getfield 33, 3) := by decide +kernel
theorem dX2_longEnds_22 : decode cX2_longEnds 22 = .ok (.if_icmp .le 9, 3) := by decide +kernel
theorem dX2_longEnds_25 : decode cX2_longEnds 25 = .ok (.iconst 1, 1) := by decide +kernel
theorem dX2_longEnds_26 : decode cX2_longEnds 26 = .ok (.iload_n 2, 1) := by decide +kernel
theorem dX2_longEnds_27 : decode cX2_longEnds 27 = .ok (.ishl, 1) := by decide +kernel
theorem dX2_longEnds_28 : decode cX2_longEnds 28 = .ok (.goto 4, 3) := by decide +kernel
theorem dX2_longEnds_31 : decode cX2_longEnds 31 = .ok (.iconst 0, 1) := by decide +kernel
theorem dX2_longEnds_32 : decode cX2_longEnds 32 = .ok (.ior, 1) := by decide +kernel
theorem dX2_longEnds_33 : decode cX2_longEnds 33 = .ok (.istore_n 1, 1) := by decide +kernel
theorem dX2_longEnds_34 : decode cX2_longEnds 34 = .ok (.iinc 2 1, 3) := by decide +kernel
theorem dX2_longEnds_37 : decode cX2_longEnds 37 = .ok (.goto (-33), 3) := by decide +kernel
theorem dX2_longEnds_40 : decode cX2_longEnds 40 = .ok (.iload_n 1, 1) := by decide +kernel
theorem dX2_longEnds_41 : decode cX2_longEnds 41 = .ok (.ireturn, 1) := by decide +kernel
set_option maxRecDepth 20000 in
theorem ggX2_hasNothingTooLong_X2_across : GoodIn wsX2_hasNothingTooLong wsX2_across := goodIn_r _ [8, 3, 9, 10, 11, 12, 13, 14, 15, 7, 16, 1, 17, 18, 27, 28, 29, 30, 31, 32] (by decide +kernel) (by decide +kernel)
set_option maxRecDepth 20000 in
theorem gX2_hasNothingTooLong_X2_across : GoodIn wsX2_hasNothingTooLong (wsV RX2 88 RX2 yX2_across wsX2_across) := goodIn_app (goodIn_of _ (by decide +kernel)) ggX2_hasNothingTooLong_X2_across
set_option maxRecDepth 20000 in
theorem ggX2_hasNothingTooLong_X2_along : GoodIn wsX2_hasNothingTooLong wsX2_along := goodIn_r _ [22, 1, 9, 10, 11, 12, 13, 14, 15, 7, 16, 3, 17, 18, 23, 24, 25, 26, 27, 28, 29, 30, 31, 32] (by decide +kernel) (by decide +kernel)
set_option maxRecDepth 20000 in
theorem gX2_hasNothingTooLong_X2_along : GoodIn wsX2_hasNothingTooLong (wsV RX2 91 RX2 yX2_along wsX2_along) := goodIn_app (goodIn_of _ (by decide +kernel)) ggX2_hasNothingTooLong_X2_along
theorem dX2_hasNothingTooLong_0 : decode cX2_hasNothingTooLong 0 = .ok (.iconst 0, 1) := by decide +kernel
theorem dX2_hasNothingTooLong_1 : decode cX2_hasNothingTooLong 1 = .ok (.istore_n 1, 1) := by decide +kernel
theorem dX2_hasNothingTooLong_2 : decode cX2_hasNothingTooLong 2 = .ok (.iload_n 1, 1) := by decide +kernel
theorem dX2_hasNothingTooLong_3 : decode cX2_hasNothingTooLong 3 = .ok (.aload_n 0, 1) := by decide +kernel
theorem dX2_hasNothingTooLong_4 : decode cX2_hasNothingTooLong 4 = .ok (.getfield 39, 3) := by decide +kernel
theorem dX2_hasNothingTooLong_7 : decode cX2_hasNothingTooLong 7 = .ok (.if_icmp .ge 23, 3) := by decide +kernel
theorem dX2_hasNothingTooLong_10 : decode cX2_hasNothingTooLong 10 = .ok (.aload_n 0, 1) := by decide +kernel
theorem dX2_hasNothingTooLong_11 : decode cX2_hasNothingTooLong 11 = .ok (.iload_n 1, 1) := by decide +kernel
theorem dX2_hasNothingTooLong_12 : decode cX2_hasNothingTooLong 12 = .ok (.invokevirtual 88, 3) := by decide +kernel
theorem dX2_hasNothingTooLong_15 : decode cX2_hasNothingTooLong 15 = .ok (.aload_n 0, 1) := by decide +kernel
theorem dX2_hasNothingTooLong_16 : decode cX2_hasNothingTooLong 16 = .ok (.getfield 33, 3) := by decide +kernel
theorem dX2_hasNothingTooLong_19 : decode cX2_hasNothingTooLong 19 = .ok (.if_icmp .le 5, 3) := by decide +kernel
theorem dX2_hasNothingTooLong_22 : decode cX2_hasNothingTooLong 22 = .ok (.iconst 0, 1) := by decide +kernel
theorem dX2_hasNothingTooLong_23 : decode cX2_hasNothingTooLong 23 = .ok (.ireturn, 1) := by decide +kernel
theorem dX2_hasNothingTooLong_24 : decode cX2_hasNothingTooLong 24 = .ok (.iinc 1 1, 3) := by decide +kernel
theorem dX2_hasNothingTooLong_27 : decode cX2_hasNothingTooLong 27 = .ok (.goto (-25), 3) := by decide +kernel
theorem dX2_hasNothingTooLong_30 : decode cX2_hasNothingTooLong 30 = .ok (.iconst 0, 1) := by decide +kernel
theorem dX2_hasNothingTooLong_31 : decode cX2_hasNothingTooLong 31 = .ok (.istore_n 1, 1) := by decide +kernel
theorem dX2_hasNothingTooLong_32 : decode cX2_hasNothingTooLong 32 = .ok (.iload_n 1, 1) := by decide +kernel
theorem dX2_hasNothingTooLong_33 : decode cX2_hasNothingTooLong 33 = .ok (.aload_n 0, 1) := by decide +kernel
theorem dX2_hasNothingTooLong_34 : decode cX2_hasNothingTooLong 34 = .ok (.getfield 21, 3) := by decide +kernel
theorem dX2_hasNothingTooLong_37 : decode cX2_hasNothingTooLong 37 = .ok (.if_icmp .ge 23, 3) := by decide +kernel
theorem dX2_hasNothingTooLong_40 : decode cX2_hasNothingTooLong 40 = .ok (.aload_n 0, 1) := by decide +kernel
theorem dX2_hasNothingTooLong_41 : decode cX2_hasNothingTooLong 41 = .ok (.iload_n 1, 1) := by decide +kernel
theorem dX2_hasNothingTooLong_42 : decode cX2_hasNothingTooLong 42 = .ok (.invokevirtual 91, 3) := by decide +kernel
theorem dX2_hasNothingTooLong_45 : decode cX2_hasNothingTooLong 45 = .ok (.aload_n 0, 1) := by decide +kernel
theorem dX2_hasNothingTooLong_46 : decode cX2_hasNothingTooLong 46 = .ok (.getfield 33, 3) := by decide +kernel
theorem dX2_hasNothingTooLong_49 : decode cX2_hasNothingTooLong 49 = .ok (.if_icmp .le 5, 3) := by decide +kernel
theorem dX2_hasNothingTooLong_52 : decode cX2_hasNothingTooLong 52 = .ok (.iconst 0, 1) := by decide +kernel
theorem dX2_hasNothingTooLong_53 : decode cX2_hasNothingTooLong 53 = .ok (.ireturn, 1) := by decide +kernel
theorem dX2_hasNothingTooLong_54 : decode cX2_hasNothingTooLong 54 = .ok (.iinc 1 1, 3) := by decide +kernel
theorem dX2_hasNothingTooLong_57 : decode cX2_hasNothingTooLong 57 = .ok (.goto (-25), 3) := by decide +kernel
theorem dX2_hasNothingTooLong_60 : decode cX2_hasNothingTooLong 60 = .ok (.iconst 1, 1) := by decide +kernel
theorem dX2_hasNothingTooLong_61 : decode cX2_hasNothingTooLong 61 = .ok (.ireturn, 1) := by decide +kernel
set_option maxRecDepth 20000 in
theorem ggX2_hooksWithoutEnds_X2_endsOf : GoodIn wsX2_hooksWithoutEnds wsX2_endsOf := goodIn_r _ [6, 7, 8, 9, 10, 11, 12, 13, 14] (by decide +kernel) (by decide +kernel)
set_option maxRecDepth 20000 in
theorem gX2_hooksWithoutEnds_X2_endsOf : GoodIn wsX2_hooksWithoutEnds (wsV RX2 59 RX2 yX2_endsOf wsX2_endsOf) := goodIn_app (goodIn_of _ (by decide +kernel)) ggX2_hooksWithoutEnds_X2_endsOf
theorem dX2_hooksWithoutEnds_0 : decode cX2_hooksWithoutEnds 0 = .ok (.iconst 0, 1) := by decide +kernel
theorem dX2_hooksWithoutEnds_1 : decode cX2_hooksWithoutEnds 1 = .ok (.istore_n 1, 1) := by decide +kernel
theorem dX2_hooksWithoutEnds_2 : decode cX2_hooksWithoutEnds 2 = .ok (.iconst 0, 1) := by decide +kernel
theorem dX2_hooksWithoutEnds_3 : decode cX2_hooksWithoutEnds 3 = .ok (.istore_n 2, 1) := by decide +kernel
theorem dX2_hooksWithoutEnds_4 : decode cX2_hooksWithoutEnds 4 = .ok (.iload_n 2, 1) := by decide +kernel
theorem dX2_hooksWithoutEnds_5 : decode cX2_hooksWithoutEnds 5 = .ok (.aload_n 0, 1) := by decide +kernel
theorem dX2_hooksWithoutEnds_6 : decode cX2_hooksWithoutEnds 6 = .ok (.getfield 36, 3) := by decide +kernel
theorem dX2_hooksWithoutEnds_9 : decode cX2_hooksWithoutEnds 9 = .ok (.if_icmp .ge 27, 3) := by decide +kernel
theorem dX2_hooksWithoutEnds_12 : decode cX2_hooksWithoutEnds 12 = .ok (.iload_n 1, 1) := by decide +kernel
theorem dX2_hooksWithoutEnds_13 : decode cX2_hooksWithoutEnds 13 = .ok (.aload_n 0, 1) := by decide +kernel
theorem dX2_hooksWithoutEnds_14 : decode cX2_hooksWithoutEnds 14 = .ok (.iload_n 2, 1) := by decide +kernel
theorem dX2_hooksWithoutEnds_15 : decode cX2_hooksWithoutEnds 15 = .ok (.invokevirtual 59, 3) := by decide +kernel
theorem dX2_hooksWithoutEnds_18 : decode cX2_hooksWithoutEnds 18 = .ok (.ifCond .ne 9, 3) := by decide +kernel
theorem dX2_hooksWithoutEnds_21 : decode cX2_hooksWithoutEnds 21 = .ok (.iconst 1, 1) := by decide +kernel
theorem dX2_hooksWithoutEnds_22 : decode cX2_hooksWithoutEnds 22 = .ok (.iload_n 2, 1) := by decide +kernel
theorem dX2_hooksWithoutEnds_23 : decode cX2_hooksWithoutEnds 23 = .ok (.ishl, 1) := by decide +kernel
theorem dX2_hooksWithoutEnds_24 : decode cX2_hooksWithoutEnds 24 = .ok (.goto 4, 3) := by decide +kernel
theorem dX2_hooksWithoutEnds_27 : decode cX2_hooksWithoutEnds 27 = .ok (.iconst 0, 1) := by decide +kernel
theorem dX2_hooksWithoutEnds_28 : decode cX2_hooksWithoutEnds 28 = .ok (.ior, 1) := by decide +kernel
theorem dX2_hooksWithoutEnds_29 : decode cX2_hooksWithoutEnds 29 = .ok (.istore_n 1, 1) := by decide +kernel
theorem dX2_hooksWithoutEnds_30 : decode cX2_hooksWithoutEnds 30 = .ok (.iinc 2 1, 3) := by decide +kernel
theorem dX2_hooksWithoutEnds_33 : decode cX2_hooksWithoutEnds 33 = .ok (.goto (-29), 3) := by decide +kernel
theorem dX2_hooksWithoutEnds_36 : decode cX2_hooksWithoutEnds 36 = .ok (.iload_n 1, 1) := by decide +kernel
theorem dX2_hooksWithoutEnds_37 : decode cX2_hooksWithoutEnds 37 = .ok (.ireturn, 1) := by decide +kernel
set_option maxRecDepth 20000 in
theorem ggX2_allHoles_X2_holesOf : GoodIn wsX2_allHoles wsX2_holesOf := goodIn_r _ [6, 7, 8, 9, 10, 5, 11, 1, 19, 20, 21, 22, 23, 24] (by decide +kernel) (by decide +kernel)
set_option maxRecDepth 20000 in
theorem gX2_allHoles_X2_holesOf : GoodIn wsX2_allHoles (wsV RX2 94 RX2 yX2_holesOf wsX2_holesOf) := goodIn_app (goodIn_of _ (by decide +kernel)) ggX2_allHoles_X2_holesOf
set_option maxRecDepth 20000 in
theorem ggX2_allHoles_J6_bitCount_0f7a4 : GoodIn wsX2_allHoles wsJ6_bitCount_0f7a4 := goodIn_r _ [15, 16, 17, 18] (by decide +kernel) (by decide +kernel)
set_option maxRecDepth 20000 in
theorem gX2_allHoles_J6_bitCount_0f7a4 : GoodIn wsX2_allHoles (va_wsS RX2 97 yJ6_bitCount_0f7a4 wsJ6_bitCount_0f7a4) := goodIn_app (goodIn_of _ (by decide +kernel)) ggX2_allHoles_J6_bitCount_0f7a4
theorem dX2_allHoles_0 : decode cX2_allHoles 0 = .ok (.iconst 0, 1) := by decide +kernel
theorem dX2_allHoles_1 : decode cX2_allHoles 1 = .ok (.istore_n 1, 1) := by decide +kernel
theorem dX2_allHoles_2 : decode cX2_allHoles 2 = .ok (.iconst 0, 1) := by decide +kernel
theorem dX2_allHoles_3 : decode cX2_allHoles 3 = .ok (.istore_n 2, 1) := by decide +kernel
theorem dX2_allHoles_4 : decode cX2_allHoles 4 = .ok (.iload_n 2, 1) := by decide +kernel
theorem dX2_allHoles_5 : decode cX2_allHoles 5 = .ok (.aload_n 0, 1) := by decide +kernel
theorem dX2_allHoles_6 : decode cX2_allHoles 6 = .ok (.getfield 39, 3) := by decide +kernel
theorem dX2_allHoles_9 : decode cX2_allHoles 9 = .ok (.if_icmp .ge 20, 3) := by decide +kernel
theorem dX2_allHoles_12 : decode cX2_allHoles 12 = .ok (.iload_n 1, 1) := by decide +kernel
theorem dX2_allHoles_13 : decode cX2_allHoles 13 = .ok (.aload_n 0, 1) := by decide +kernel
theorem dX2_allHoles_14 : decode cX2_allHoles 14 = .ok (.iload_n 2, 1) := by decide +kernel
theorem dX2_allHoles_15 : decode cX2_allHoles 15 = .ok (.invokevirtual 94, 3) := by decide +kernel
theorem dX2_allHoles_18 : decode cX2_allHoles 18 = .ok (.invokestatic 97, 3) := by decide +kernel
theorem dX2_allHoles_21 : decode cX2_allHoles 21 = .ok (.iadd, 1) := by decide +kernel
theorem dX2_allHoles_22 : decode cX2_allHoles 22 = .ok (.istore_n 1, 1) := by decide +kernel
theorem dX2_allHoles_23 : decode cX2_allHoles 23 = .ok (.iinc 2 1, 3) := by decide +kernel
theorem dX2_allHoles_26 : decode cX2_allHoles 26 = .ok (.goto (-22), 3) := by decide +kernel
theorem dX2_allHoles_29 : decode cX2_allHoles 29 = .ok (.iload_n 1, 1) := by decide +kernel
theorem dX2_allHoles_30 : decode cX2_allHoles 30 = .ok (.ireturn, 1) := by decide +kernel
set_option maxRecDepth 20000 in
theorem ggX3_init_X2_init : GoodIn wsX3_init wsX2_init := goodIn_r _ [10, 11, 2, 3, 12, 13, 14, 15, 16, 17, 6, 18, 19, 20, 21, 22, 23, 24, 25, 26, 27, 28, 29, 30, 31, 32, 33, 34, 35, 36] (by decide +kernel) (by decide +kernel)
set_option maxRecDepth 20000 in
theorem gX3_init_X2_init : GoodIn wsX3_init (wsX2_init) := ggX3_init_X2_init
theorem dX3_init_0 : decode cX3_init 0 = .ok (.aload_n 0, 1) := by decide +kernel
theorem dX3_init_1 : decode cX3_init 1 = .ok (.invokespecial 3, 3) := by decide +kernel
theorem dX3_init_4 : decode cX3_init 4 = .ok (.aload_n 0, 1) := by decide +kernel
theorem dX3_init_5 : decode cX3_init 5 = .ok (.new 9, 3) := by decide +kernel
theorem dX3_init_8 : decode cX3_init 8 = .ok (.dup, 1) := by decide +kernel
theorem dX3_init_9 : decode cX3_init 9 = .ok (.invokespecial 11, 3) := by decide +kernel
theorem dX3_init_12 : decode cX3_init 12 = .ok (.putfield 12, 3) := by decide +kernel
theorem dX3_init_15 : decode cX3_init 15 = .ok (.return_, 1) := by decide +kernel
set_option maxRecDepth 20000 in
theorem ggX3_search_X2_become : GoodIn wsX3_search wsX2_become := goodIn_r _ [9, 10, 11, 12, 13, 14, 15, 16, 17, 18, 19, 82, 83, 84, 85, 86, 87] (by decide +kernel) (by decide +kernel)
set_option maxRecDepth 20000 in
theorem gX3_search_X2_become : GoodIn wsX3_search (wsV RX3 18 RX2 yX2_become wsX2_become) := goodIn_app (goodIn_of _ (by decide +kernel)) ggX3_search_X2_become
set_option maxRecDepth 20000 in
theorem ggX3_search_X2_hasNothingTooLong : GoodIn wsX3_search wsX2_hasNothingTooLong := goodIn_r _ [23, 12, 13, 11, 24, 25, 26, 8, 27, 28, 29, 30, 31, 32, 33, 34, 35, 19, 14, 36, 37, 38, 39, 40, 41, 42, 43, 82, 83, 84, 85, 86, 87] (by decide +kernel) (by decide +kernel)
set_option maxRecDepth 20000 in
theorem gX3_search_X2_hasNothingTooLong : GoodIn wsX3_search (wsV RX3 32 RX2 yX2_hasNothingTooLong wsX2_hasNothingTooLong) := goodIn_app (goodIn_of _ (by decide +kernel)) ggX3_search_X2_hasNothingTooLong
set_option maxRecDepth 20000 in
theorem ggX3_search_X3_firstThatMends : GoodIn wsX3_search wsX3_firstThatMends := goodIn_r _ [48, 1, 49, 50, 51, 8, 52, 12, 13, 24, 25, 26, 27, 11, 28, 29, 30, 31, 32, 33, 34, 35, 19, 14, 53, 54, 55, 56, 36, 37, 38, 39, 40, 41, 42, 43, 57, 58, 59, 60, 10, 61, 62, 63, 64, 65, 66, 67, 68, 69, 70, 71, 72, 73, 20, 21, 22, 23, 78, 79, 80, 81, 82, 83, 84, 85, 86, 87] (by decide +kernel) (by decide +kernel)
set_option maxRecDepth 20000 in
theorem gX3_search_X3_firstThatMends : GoodIn wsX3_search (wsV RX3 36 RX3 yX3_firstThatMends wsX3_firstThatMends) := goodIn_app (goodIn_of _ (by decide +kernel)) ggX3_search_X3_firstThatMends
set_option maxRecDepth 20000 in
theorem ggX3_search_X3_searchTwo : GoodIn wsX3_search wsX3_searchTwo := goodIn_r _ [77, 1, 2, 3, 4, 57, 58, 59, 8, 60, 10, 12, 69, 70, 71, 72, 19, 73, 44, 45, 46, 47, 48, 49, 50, 51, 52, 13, 24, 25, 26, 27, 11, 28, 29, 30, 31, 32, 33, 34, 35, 14, 53, 54, 55, 56, 36, 37, 38, 39, 40, 41, 42, 43, 61, 62, 63, 64, 65, 66, 67, 68, 20, 21, 22, 23, 78, 79, 80, 81, 82, 83, 84, 85, 86, 87] (by decide +kernel) (by decide +kernel)
set_option maxRecDepth 20000 in
theorem gX3_search_X3_searchTwo : GoodIn wsX3_search (wsV RX3 40 RX3 yX3_searchTwo wsX3_searchTwo) := goodIn_app (goodIn_of _ (by decide +kernel)) ggX3_search_X3_searchTwo
theorem dX3_search_0 : decode cX3_search 0 = .ok (.aload_n 0, 1) := by decide +kernel
theorem dX3_search_1 : decode cX3_search 1 = .ok (.getfield 12, 3) := by decide +kernel
theorem dX3_search_4 : decode cX3_search 4 = .ok (.aload_n 1, 1) := by decide +kernel
theorem dX3_search_5 : decode cX3_search 5 = .ok (.invokevirtual 18, 3) := by decide +kernel
theorem dX3_search_8 : decode cX3_search 8 = .ok (.aload_n 0, 1) := by decide +kernel
theorem dX3_search_9 : decode cX3_search 9 = .ok (.bipush (-9), 2) := by decide +kernel
theorem dX3_search_11 : decode cX3_search 11 = .ok (.putfield 22, 3) := by decide +kernel
