set_option maxRecDepth 20000 in
theorem ggX0_init_X2_init : GoodIn wsX0_init wsX2_init := goodIn_r _ [10, 11, 2, 3, 12, 13, 14, 15, 16, 17, 7, 18, 19, 20, 21, 22, 23, 24, 25, 26, 27, 28, 29, 30, 34, 35, 36, 37, 38, 39] (by decide +kernel) (by decide +kernel)
set_option maxRecDepth 20000 in
theorem gX0_init_X2_init : GoodIn wsX0_init (wsX2_init) := ggX0_init_X2_init
theorem dX0_init_0 : decode cX0_init 0 = .ok (.aload_n 0, 1) := by decide +kernel
theorem dX0_init_1 : decode cX0_init 1 = .ok (.invokespecial 3, 3) := by decide +kernel
theorem dX0_init_4 : decode cX0_init 4 = .ok (.aload_n 0, 1) := by decide +kernel
theorem dX0_init_5 : decode cX0_init 5 = .ok (.bipush 6, 2) := by decide +kernel
theorem dX0_init_7 : decode cX0_init 7 = .ok (.anewarray 9, 3) := by decide +kernel
theorem dX0_init_10 : decode cX0_init 10 = .ok (.putfield 11, 3) := by decide +kernel
theorem dX0_init_13 : decode cX0_init 13 = .ok (.iconst 0, 1) := by decide +kernel
theorem dX0_init_14 : decode cX0_init 14 = .ok (.istore_n 1, 1) := by decide +kernel
theorem dX0_init_15 : decode cX0_init 15 = .ok (.iload_n 1, 1) := by decide +kernel
theorem dX0_init_16 : decode cX0_init 16 = .ok (.aload_n 0, 1) := by decide +kernel
theorem dX0_init_17 : decode cX0_init 17 = .ok (.getfield 11, 3) := by decide +kernel
theorem dX0_init_20 : decode cX0_init 20 = .ok (.arraylength, 1) := by decide +kernel
theorem dX0_init_21 : decode cX0_init 21 = .ok (.if_icmp .ge 22, 3) := by decide +kernel
theorem dX0_init_24 : decode cX0_init 24 = .ok (.aload_n 0, 1) := by decide +kernel
theorem dX0_init_25 : decode cX0_init 25 = .ok (.getfield 11, 3) := by decide +kernel
theorem dX0_init_28 : decode cX0_init 28 = .ok (.iload_n 1, 1) := by decide +kernel
theorem dX0_init_29 : decode cX0_init 29 = .ok (.new 9, 3) := by decide +kernel
theorem dX0_init_32 : decode cX0_init 32 = .ok (.dup, 1) := by decide +kernel
theorem dX0_init_33 : decode cX0_init 33 = .ok (.invokespecial 17, 3) := by decide +kernel
theorem dX0_init_36 : decode cX0_init 36 = .ok (.aastore, 1) := by decide +kernel
theorem dX0_init_37 : decode cX0_init 37 = .ok (.iinc 1 1, 3) := by decide +kernel
theorem dX0_init_40 : decode cX0_init 40 = .ok (.goto (-25), 3) := by decide +kernel
theorem dX0_init_43 : decode cX0_init 43 = .ok (.return_, 1) := by decide +kernel
set_option maxRecDepth 20000 in
theorem ggX0_remember_X2_become : GoodIn wsX0_remember wsX2_become := goodIn_r _ [12, 13, 14, 15, 16, 17, 18, 19, 20, 21, 22, 26, 27, 28, 29, 30, 31] (by decide +kernel) (by decide +kernel)
set_option maxRecDepth 20000 in
theorem gX0_remember_X2_become : GoodIn wsX0_remember (wsV RX0 22 RX2 yX2_become wsX2_become) := goodIn_app (goodIn_of _ (by decide +kernel)) ggX0_remember_X2_become
theorem dX0_remember_0 : decode cX0_remember 0 = .ok (.aload_n 0, 1) := by decide +kernel
theorem dX0_remember_1 : decode cX0_remember 1 = .ok (.getfield 18, 3) := by decide +kernel
theorem dX0_remember_4 : decode cX0_remember 4 = .ok (.ifCond .lt 28, 3) := by decide +kernel
theorem dX0_remember_7 : decode cX0_remember 7 = .ok (.aload_n 0, 1) := by decide +kernel
theorem dX0_remember_8 : decode cX0_remember 8 = .ok (.getfield 18, 3) := by decide +kernel
theorem dX0_remember_11 : decode cX0_remember 11 = .ok (.aload_n 0, 1) := by decide +kernel
theorem dX0_remember_12 : decode cX0_remember 12 = .ok (.getfield 11, 3) := by decide +kernel
theorem dX0_remember_15 : decode cX0_remember 15 = .ok (.arraylength, 1) := by decide +kernel
theorem dX0_remember_16 : decode cX0_remember 16 = .ok (.if_icmp .ge 16, 3) := by decide +kernel
theorem dX0_remember_19 : decode cX0_remember 19 = .ok (.aload_n 0, 1) := by decide +kernel
theorem dX0_remember_20 : decode cX0_remember 20 = .ok (.getfield 11, 3) := by decide +kernel
theorem dX0_remember_23 : decode cX0_remember 23 = .ok (.aload_n 0, 1) := by decide +kernel
theorem dX0_remember_24 : decode cX0_remember 24 = .ok (.getfield 18, 3) := by decide +kernel
theorem dX0_remember_27 : decode cX0_remember 27 = .ok (.aaload, 1) := by decide +kernel
theorem dX0_remember_28 : decode cX0_remember 28 = .ok (.aload_n 1, 1) := by decide +kernel
theorem dX0_remember_29 : decode cX0_remember 29 = .ok (.invokevirtual 22, 3) := by decide +kernel
theorem dX0_remember_32 : decode cX0_remember 32 = .ok (.aload_n 0, 1) := by decide +kernel
theorem dX0_remember_33 : decode cX0_remember 33 = .ok (.aload_n 0, 1) := by decide +kernel
theorem dX0_remember_34 : decode cX0_remember 34 = .ok (.getfield 18, 3) := by decide +kernel
theorem dX0_remember_37 : decode cX0_remember 37 = .ok (.iconst 1, 1) := by decide +kernel
theorem dX0_remember_38 : decode cX0_remember 38 = .ok (.iadd, 1) := by decide +kernel
theorem dX0_remember_39 : decode cX0_remember 39 = .ok (.bipush 6, 2) := by decide +kernel
theorem dX0_remember_41 : decode cX0_remember 41 = .ok (.if_icmp .ge 12, 3) := by decide +kernel
theorem dX0_remember_44 : decode cX0_remember 44 = .ok (.aload_n 0, 1) := by decide +kernel
theorem dX0_remember_45 : decode cX0_remember 45 = .ok (.getfield 18, 3) := by decide +kernel
theorem dX0_remember_48 : decode cX0_remember 48 = .ok (.iconst 1, 1) := by decide +kernel
theorem dX0_remember_49 : decode cX0_remember 49 = .ok (.iadd, 1) := by decide +kernel
theorem dX0_remember_50 : decode cX0_remember 50 = .ok (.goto 4, 3) := by decide +kernel
theorem dX0_remember_53 : decode cX0_remember 53 = .ok (.iconst 0, 1) := by decide +kernel
theorem dX0_remember_54 : decode cX0_remember 54 = .ok (.putfield 18, 3) := by decide +kernel
theorem dX0_remember_57 : decode cX0_remember 57 = .ok (.aload_n 0, 1) := by decide +kernel
theorem dX0_remember_58 : decode cX0_remember 58 = .ok (.aload_n 0, 1) := by decide +kernel
theorem dX0_remember_59 : decode cX0_remember 59 = .ok (.getfield 26, 3) := by decide +kernel
theorem dX0_remember_62 : decode cX0_remember 62 = .ok (.iconst 1, 1) := by decide +kernel
theorem dX0_remember_63 : decode cX0_remember 63 = .ok (.iadd, 1) := by decide +kernel
theorem dX0_remember_64 : decode cX0_remember 64 = .ok (.bipush 6, 2) := by decide +kernel
theorem dX0_remember_66 : decode cX0_remember 66 = .ok (.invokestatic 29, 3) := by decide +kernel
theorem dX0_remember_69 : decode cX0_remember 69 = .ok (.putfield 26, 3) := by decide +kernel
theorem dX0_remember_72 : decode cX0_remember 72 = .ok (.return_, 1) := by decide +kernel
set_option maxRecDepth 20000 in
theorem ggX0_restore_X2_become : GoodIn wsX0_restore wsX2_become := goodIn_r _ [8, 9, 10, 11, 12, 13, 14, 15, 16, 17, 18, 22, 23, 24, 25, 26, 27] (by decide +kernel) (by decide +kernel)
set_option maxRecDepth 20000 in
theorem gX0_restore_X2_become : GoodIn wsX0_restore (wsV RX0 22 RX2 yX2_become wsX2_become) := goodIn_app (goodIn_of _ (by decide +kernel)) ggX0_restore_X2_become
theorem dX0_restore_0 : decode cX0_restore 0 = .ok (.aload_n 0, 1) := by decide +kernel
theorem dX0_restore_1 : decode cX0_restore 1 = .ok (.getfield 26, 3) := by decide +kernel
theorem dX0_restore_4 : decode cX0_restore 4 = .ok (.ifCond .gt 5, 3) := by decide +kernel
theorem dX0_restore_7 : decode cX0_restore 7 = .ok (.iconst 0, 1) := by decide +kernel
theorem dX0_restore_8 : decode cX0_restore 8 = .ok (.ireturn, 1) := by decide +kernel
theorem dX0_restore_9 : decode cX0_restore 9 = .ok (.aload_n 0, 1) := by decide +kernel
theorem dX0_restore_10 : decode cX0_restore 10 = .ok (.aload_n 0, 1) := by decide +kernel
theorem dX0_restore_11 : decode cX0_restore 11 = .ok (.getfield 18, 3) := by decide +kernel
theorem dX0_restore_14 : decode cX0_restore 14 = .ok (.ifCond .le 12, 3) := by decide +kernel
theorem dX0_restore_17 : decode cX0_restore 17 = .ok (.aload_n 0, 1) := by decide +kernel
theorem dX0_restore_18 : decode cX0_restore 18 = .ok (.getfield 18, 3) := by decide +kernel
theorem dX0_restore_21 : decode cX0_restore 21 = .ok (.iconst 1, 1) := by decide +kernel
theorem dX0_restore_22 : decode cX0_restore 22 = .ok (.isub, 1) := by decide +kernel
theorem dX0_restore_23 : decode cX0_restore 23 = .ok (.goto 4, 3) := by decide +kernel
theorem dX0_restore_26 : decode cX0_restore 26 = .ok (.iconst 5, 1) := by decide +kernel
theorem dX0_restore_27 : decode cX0_restore 27 = .ok (.putfield 18, 3) := by decide +kernel
theorem dX0_restore_30 : decode cX0_restore 30 = .ok (.aload_n 0, 1) := by decide +kernel
theorem dX0_restore_31 : decode cX0_restore 31 = .ok (.dup, 1) := by decide +kernel
theorem dX0_restore_32 : decode cX0_restore 32 = .ok (.getfield 26, 3) := by decide +kernel
theorem dX0_restore_35 : decode cX0_restore 35 = .ok (.iconst 1, 1) := by decide +kernel
theorem dX0_restore_36 : decode cX0_restore 36 = .ok (.isub, 1) := by decide +kernel
theorem dX0_restore_37 : decode cX0_restore 37 = .ok (.putfield 26, 3) := by decide +kernel
theorem dX0_restore_40 : decode cX0_restore 40 = .ok (.aload_n 0, 1) := by decide +kernel
theorem dX0_restore_41 : decode cX0_restore 41 = .ok (.getfield 18, 3) := by decide +kernel
theorem dX0_restore_44 : decode cX0_restore 44 = .ok (.aload_n 0, 1) := by decide +kernel
theorem dX0_restore_45 : decode cX0_restore 45 = .ok (.getfield 11, 3) := by decide +kernel
theorem dX0_restore_48 : decode cX0_restore 48 = .ok (.arraylength, 1) := by decide +kernel
theorem dX0_restore_49 : decode cX0_restore 49 = .ok (.if_icmp .ge 16, 3) := by decide +kernel
theorem dX0_restore_52 : decode cX0_restore 52 = .ok (.aload_n 1, 1) := by decide +kernel
theorem dX0_restore_53 : decode cX0_restore 53 = .ok (.aload_n 0, 1) := by decide +kernel
theorem dX0_restore_54 : decode cX0_restore 54 = .ok (.getfield 11, 3) := by decide +kernel
theorem dX0_restore_57 : decode cX0_restore 57 = .ok (.aload_n 0, 1) := by decide +kernel
theorem dX0_restore_58 : decode cX0_restore 58 = .ok (.getfield 18, 3) := by decide +kernel
theorem dX0_restore_61 : decode cX0_restore 61 = .ok (.aaload, 1) := by decide +kernel
theorem dX0_restore_62 : decode cX0_restore 62 = .ok (.invokevirtual 22, 3) := by decide +kernel
theorem dX0_restore_65 : decode cX0_restore 65 = .ok (.iconst 1, 1) := by decide +kernel
theorem dX0_restore_66 : decode cX0_restore 66 = .ok (.ireturn, 1) := by decide +kernel
theorem dX0_empty_0 : decode cX0_empty 0 = .ok (.aload_n 0, 1) := by decide +kernel
theorem dX0_empty_1 : decode cX0_empty 1 = .ok (.iconst 0, 1) := by decide +kernel
theorem dX0_empty_2 : decode cX0_empty 2 = .ok (.putfield 26, 3) := by decide +kernel
theorem dX0_empty_5 : decode cX0_empty 5 = .ok (.return_, 1) := by decide +kernel
theorem dX1_init_0 : decode cX1_init 0 = .ok (.aload_n 0, 1) := by decide +kernel
theorem dX1_init_1 : decode cX1_init 1 = .ok (.invokespecial 3, 3) := by decide +kernel
theorem dX1_init_4 : decode cX1_init 4 = .ok (.aload_n 0, 1) := by decide +kernel
theorem dX1_init_5 : decode cX1_init 5 = .ok (.bipush 120, 2) := by decide +kernel
theorem dX1_init_7 : decode cX1_init 7 = .ok (.newarray .int, 2) := by decide +kernel
theorem dX1_init_9 : decode cX1_init 9 = .ok (.putfield 9, 3) := by decide +kernel
theorem dX1_init_12 : decode cX1_init 12 = .ok (.return_, 1) := by decide +kernel
theorem dX1_append_0 : decode cX1_append 0 = .ok (.aload_n 0, 1) := by decide +kernel
theorem dX1_append_1 : decode cX1_append 1 = .ok (.getfield 15, 3) := by decide +kernel
theorem dX1_append_4 : decode cX1_append 4 = .ok (.ifCond .lt 12, 3) := by decide +kernel
theorem dX1_append_7 : decode cX1_append 7 = .ok (.aload_n 0, 1) := by decide +kernel
theorem dX1_append_8 : decode cX1_append 8 = .ok (.getfield 15, 3) := by decide +kernel
theorem dX1_append_11 : decode cX1_append 11 = .ok (.bipush 120, 2) := by decide +kernel
theorem dX1_append_13 : decode cX1_append 13 = .ok (.if_icmp .lt 5, 3) := by decide +kernel
theorem dX1_append_16 : decode cX1_append 16 = .ok (.iconst 0, 1) := by decide +kernel
theorem dX1_append_17 : decode cX1_append 17 = .ok (.ireturn, 1) := by decide +kernel
theorem dX1_append_18 : decode cX1_append 18 = .ok (.aload_n 0, 1) := by decide +kernel
theorem dX1_append_19 : decode cX1_append 19 = .ok (.getfield 9, 3) := by decide +kernel
theorem dX1_append_22 : decode cX1_append 22 = .ok (.aload_n 0, 1) := by decide +kernel
theorem dX1_append_23 : decode cX1_append 23 = .ok (.getfield 15, 3) := by decide +kernel
theorem dX1_append_26 : decode cX1_append 26 = .ok (.iload_n 1, 1) := by decide +kernel
theorem dX1_append_27 : decode cX1_append 27 = .ok (.iastore, 1) := by decide +kernel
theorem dX1_append_28 : decode cX1_append 28 = .ok (.aload_n 0, 1) := by decide +kernel
theorem dX1_append_29 : decode cX1_append 29 = .ok (.dup, 1) := by decide +kernel
theorem dX1_append_30 : decode cX1_append 30 = .ok (.getfield 15, 3) := by decide +kernel
theorem dX1_append_33 : decode cX1_append 33 = .ok (.iconst 1, 1) := by decide +kernel
theorem dX1_append_34 : decode cX1_append 34 = .ok (.iadd, 1) := by decide +kernel
theorem dX1_append_35 : decode cX1_append 35 = .ok (.putfield 15, 3) := by decide +kernel
theorem dX1_append_38 : decode cX1_append 38 = .ok (.iconst 1, 1) := by decide +kernel
theorem dX1_append_39 : decode cX1_append 39 = .ok (.ireturn, 1) := by decide +kernel
theorem dX1_empty_0 : decode cX1_empty 0 = .ok (.aload_n 0, 1) := by decide +kernel
theorem dX1_empty_1 : decode cX1_empty 1 = .ok (.getfield 15, 3) := by decide +kernel
theorem dX1_empty_4 : decode cX1_empty 4 = .ok (.istore_n 1, 1) := by decide +kernel
theorem dX1_empty_5 : decode cX1_empty 5 = .ok (.aload_n 0, 1) := by decide +kernel
theorem dX1_empty_6 : decode cX1_empty 6 = .ok (.iconst 0, 1) := by decide +kernel
theorem dX1_empty_7 : decode cX1_empty 7 = .ok (.putfield 15, 3) := by decide +kernel
theorem dX1_empty_10 : decode cX1_empty 10 = .ok (.iload_n 1, 1) := by decide +kernel
theorem dX1_empty_11 : decode cX1_empty 11 = .ok (.ireturn, 1) := by decide +kernel
theorem dX1_at_0 : decode cX1_at 0 = .ok (.iload_n 1, 1) := by decide +kernel
theorem dX1_at_1 : decode cX1_at 1 = .ok (.ifCond .lt 26, 3) := by decide +kernel
theorem dX1_at_4 : decode cX1_at 4 = .ok (.iload_n 1, 1) := by decide +kernel
theorem dX1_at_5 : decode cX1_at 5 = .ok (.aload_n 0, 1) := by decide +kernel
theorem dX1_at_6 : decode cX1_at 6 = .ok (.getfield 15, 3) := by decide +kernel
theorem dX1_at_9 : decode cX1_at 9 = .ok (.if_icmp .ge 18, 3) := by decide +kernel
theorem dX1_at_12 : decode cX1_at 12 = .ok (.iload_n 1, 1) := by decide +kernel
theorem dX1_at_13 : decode cX1_at 13 = .ok (.bipush 120, 2) := by decide +kernel
theorem dX1_at_15 : decode cX1_at 15 = .ok (.if_icmp .ge 12, 3) := by decide +kernel
theorem dX1_at_18 : decode cX1_at 18 = .ok (.aload_n 0, 1) := by decide +kernel
theorem dX1_at_19 : decode cX1_at 19 = .ok (.getfield 9, 3) := by decide +kernel
theorem dX1_at_22 : decode cX1_at 22 = .ok (.iload_n 1, 1) := by decide +kernel
theorem dX1_at_23 : decode cX1_at 23 = .ok (.iaload, 1) := by decide +kernel
theorem dX1_at_24 : decode cX1_at 24 = .ok (.goto 4, 3) := by decide +kernel
theorem dX1_at_27 : decode cX1_at 27 = .ok (.iconst (-1), 1) := by decide +kernel
theorem dX1_at_28 : decode cX1_at 28 = .ok (.ireturn, 1) := by decide +kernel
theorem dX1_figureAt_0 : decode cX1_figureAt 0 = .ok (.iload_n 1, 1) := by decide +kernel
theorem dX1_figureAt_1 : decode cX1_figureAt 1 = .ok (.ifCond .lt 29, 3) := by decide +kernel
theorem dX1_figureAt_4 : decode cX1_figureAt 4 = .ok (.iload_n 1, 1) := by decide +kernel
theorem dX1_figureAt_5 : decode cX1_figureAt 5 = .ok (.aload_n 0, 1) := by decide +kernel
theorem dX1_figureAt_6 : decode cX1_figureAt 6 = .ok (.getfield 15, 3) := by decide +kernel
theorem dX1_figureAt_9 : decode cX1_figureAt 9 = .ok (.if_icmp .ge 21, 3) := by decide +kernel
theorem dX1_figureAt_12 : decode cX1_figureAt 12 = .ok (.iload_n 1, 1) := by decide +kernel
theorem dX1_figureAt_13 : decode cX1_figureAt 13 = .ok (.bipush 120, 2) := by decide +kernel
theorem dX1_figureAt_15 : decode cX1_figureAt 15 = .ok (.if_icmp .ge 15, 3) := by decide +kernel
theorem dX1_figureAt_18 : decode cX1_figureAt 18 = .ok (.aload_n 0, 1) := by decide +kernel
theorem dX1_figureAt_19 : decode cX1_figureAt 19 = .ok (.getfield 9, 3) := by decide +kernel
theorem dX1_figureAt_22 : decode cX1_figureAt 22 = .ok (.iload_n 1, 1) := by decide +kernel
theorem dX1_figureAt_23 : decode cX1_figureAt 23 = .ok (.iaload, 1) := by decide +kernel
theorem dX1_figureAt_24 : decode cX1_figureAt 24 = .ok (.bipush 48, 2) := by decide +kernel
theorem dX1_figureAt_26 : decode cX1_figureAt 26 = .ok (.isub, 1) := by decide +kernel
theorem dX1_figureAt_27 : decode cX1_figureAt 27 = .ok (.goto 4, 3) := by decide +kernel
theorem dX1_figureAt_30 : decode cX1_figureAt 30 = .ok (.iconst 0, 1) := by decide +kernel
theorem dX1_figureAt_31 : decode cX1_figureAt 31 = .ok (.ireturn, 1) := by decide +kernel
set_option maxRecDepth 20000 in
theorem ggX1_isFrom_J0_length_8abf5 : GoodIn wsX1_isFrom wsJ0_length_8abf5 := goodIn_r _ [5, 6, 7, 8, 9, 4, 10, 11, 12] (by decide +kernel) (by decide +kernel)
set_option maxRecDepth 20000 in
theorem gX1_isFrom_J0_length_8abf5 : GoodIn wsX1_isFrom (wsV RX1 19 RJ0 yJ0_length_8abf5 wsJ0_length_8abf5) := goodIn_app (goodIn_of _ (by decide +kernel)) ggX1_isFrom_J0_length_8abf5
set_option maxRecDepth 20000 in
theorem ggX1_isFrom_X1_at : GoodIn wsX1_isFrom wsX1_at := goodIn_r _ [17, 18, 19, 57, 58] (by decide +kernel) (by decide +kernel)
set_option maxRecDepth 20000 in
theorem gX1_isFrom_X1_at : GoodIn wsX1_isFrom (wsV RX1 24 RX1 yX1_at wsX1_at) := goodIn_app (goodIn_of _ (by decide +kernel)) ggX1_isFrom_X1_at
set_option maxRecDepth 20000 in
theorem ggX1_isFrom_J0_charAt_5068e : GoodIn wsX1_isFrom wsJ0_charAt_5068e := goodIn_r _ [23, 6, 24, 25, 26, 4, 27, 11, 12, 28, 29, 30, 31, 32, 33, 34, 35, 36, 37, 38, 39, 40, 41, 42, 43, 44, 45, 46, 47, 48, 49, 50, 51, 52, 53, 54, 55, 56] (by decide +kernel) (by decide +kernel)
set_option maxRecDepth 20000 in
theorem gX1_isFrom_J0_charAt_5068e : GoodIn wsX1_isFrom (wsV RX1 28 RJ0 yJ0_charAt_5068e wsJ0_charAt_5068e) := goodIn_app (goodIn_of _ (by decide +kernel)) ggX1_isFrom_J0_charAt_5068e
theorem dX1_isFrom_0 : decode cX1_isFrom 0 = .ok (.iload_n 2, 1) := by decide +kernel
theorem dX1_isFrom_1 : decode cX1_isFrom 1 = .ok (.iload_n 1, 1) := by decide +kernel
theorem dX1_isFrom_2 : decode cX1_isFrom 2 = .ok (.isub, 1) := by decide +kernel
theorem dX1_isFrom_3 : decode cX1_isFrom 3 = .ok (.aload_n 3, 1) := by decide +kernel
theorem dX1_isFrom_4 : decode cX1_isFrom 4 = .ok (.invokevirtual 19, 3) := by decide +kernel
theorem dX1_isFrom_7 : decode cX1_isFrom 7 = .ok (.if_icmp .eq 5, 3) := by decide +kernel
theorem dX1_isFrom_10 : decode cX1_isFrom 10 = .ok (.iconst 0, 1) := by decide +kernel
theorem dX1_isFrom_11 : decode cX1_isFrom 11 = .ok (.ireturn, 1) := by decide +kernel
theorem dX1_isFrom_12 : decode cX1_isFrom 12 = .ok (.iconst 0, 1) := by decide +kernel
theorem dX1_isFrom_13 : decode cX1_isFrom 13 = .ok (.istore 4, 2) := by decide +kernel
theorem dX1_isFrom_15 : decode cX1_isFrom 15 = .ok (.iload 4, 2) := by decide +kernel
theorem dX1_isFrom_17 : decode cX1_isFrom 17 = .ok (.aload_n 3, 1) := by decide +kernel
theorem dX1_isFrom_18 : decode cX1_isFrom 18 = .ok (.invokevirtual 19, 3) := by decide +kernel
theorem dX1_isFrom_21 : decode cX1_isFrom 21 = .ok (.if_icmp .ge 28, 3) := by decide +kernel
theorem dX1_isFrom_24 : decode cX1_isFrom 24 = .ok (.aload_n 0, 1) := by decide +kernel
theorem dX1_isFrom_25 : decode cX1_isFrom 25 = .ok (.iload_n 1, 1) := by decide +kernel
theorem dX1_isFrom_26 : decode cX1_isFrom 26 = .ok (.iload 4, 2) := by decide +kernel
theorem dX1_isFrom_28 : decode cX1_isFrom 28 = .ok (.iadd, 1) := by decide +kernel
theorem dX1_isFrom_29 : decode cX1_isFrom 29 = .ok (.invokevirtual 24, 3) := by decide +kernel
theorem dX1_isFrom_32 : decode cX1_isFrom 32 = .ok (.aload_n 3, 1) := by decide +kernel
theorem dX1_isFrom_33 : decode cX1_isFrom 33 = .ok (.iload 4, 2) := by decide +kernel
theorem dX1_isFrom_35 : decode cX1_isFrom 35 = .ok (.invokevirtual 28, 3) := by decide +kernel
theorem dX1_isFrom_38 : decode cX1_isFrom 38 = .ok (.if_icmp .eq 5, 3) := by decide +kernel
theorem dX1_isFrom_41 : decode cX1_isFrom 41 = .ok (.iconst 0, 1) := by decide +kernel
theorem dX1_isFrom_42 : decode cX1_isFrom 42 = .ok (.ireturn, 1) := by decide +kernel
theorem dX1_isFrom_43 : decode cX1_isFrom 43 = .ok (.iinc 4 1, 3) := by decide +kernel
theorem dX1_isFrom_46 : decode cX1_isFrom 46 = .ok (.goto (-31), 3) := by decide +kernel
theorem dX1_isFrom_49 : decode cX1_isFrom 49 = .ok (.iconst 1, 1) := by decide +kernel
theorem dX1_isFrom_50 : decode cX1_isFrom 50 = .ok (.ireturn, 1) := by decide +kernel
set_option maxRecDepth 20000 in
theorem ggX2_init_X2_startAnew : GoodIn wsX2_init wsX2_startAnew := goodIn_r _ [11, 12, 13, 14, 15, 16, 10, 17, 18, 5, 19, 20, 21, 22, 6, 23, 24, 25, 26, 27, 28, 29] (by decide +kernel) (by decide +kernel)
set_option maxRecDepth 20000 in
theorem gX2_init_X2_startAnew : GoodIn wsX2_init (wsV RX2 18 RX2 yX2_startAnew wsX2_startAnew) := goodIn_app (goodIn_of _ (by decide +kernel)) ggX2_init_X2_startAnew
theorem dX2_init_0 : decode cX2_init 0 = .ok (.aload_n 0, 1) := by decide +kernel
theorem dX2_init_1 : decode cX2_init 1 = .ok (.invokespecial 3, 3) := by decide +kernel
theorem dX2_init_4 : decode cX2_init 4 = .ok (.aload_n 0, 1) := by decide +kernel
theorem dX2_init_5 : decode cX2_init 5 = .ok (.bipush 12, 2) := by decide +kernel
theorem dX2_init_7 : decode cX2_init 7 = .ok (.newarray .int, 2) := by decide +kernel
theorem dX2_init_9 : decode cX2_init 9 = .ok (.putfield 9, 3) := by decide +kernel
theorem dX2_init_12 : decode cX2_init 12 = .ok (.aload_n 0, 1) := by decide +kernel
theorem dX2_init_13 : decode cX2_init 13 = .ok (.bipush 8, 2) := by decide +kernel
theorem dX2_init_15 : decode cX2_init 15 = .ok (.newarray .int, 2) := by decide +kernel
theorem dX2_init_17 : decode cX2_init 17 = .ok (.putfield 15, 3) := by decide +kernel
theorem dX2_init_20 : decode cX2_init 20 = .ok (.aload_n 0, 1) := by decide +kernel
theorem dX2_init_21 : decode cX2_init 21 = .ok (.invokevirtual 18, 3) := by decide +kernel
theorem dX2_init_24 : decode cX2_init 24 = .ok (.return_, 1) := by decide +kernel
set_option maxRecDepth 20000 in
theorem ggX2_startAnew_X2_takeHooks : GoodIn wsX2_startAnew wsX2_takeHooks := goodIn_r _ [7, 8, 9, 16, 17, 18, 19, 20, 21] (by decide +kernel) (by decide +kernel)
set_option maxRecDepth 20000 in
theorem gX2_startAnew_X2_takeHooks : GoodIn wsX2_startAnew (wsV RX2 25 RX2 yX2_takeHooks wsX2_takeHooks) := goodIn_app (goodIn_of _ (by decide +kernel)) ggX2_startAnew_X2_takeHooks
set_option maxRecDepth 20000 in
theorem ggX2_startAnew_X2_putBehind : GoodIn wsX2_startAnew wsX2_putBehind := goodIn_r _ [13, 14, 15, 16, 17, 18, 19, 20, 21] (by decide +kernel) (by decide +kernel)
set_option maxRecDepth 20000 in
theorem gX2_startAnew_X2_putBehind : GoodIn wsX2_startAnew (wsV RX2 29 RX2 yX2_putBehind wsX2_putBehind) := goodIn_app (goodIn_of _ (by decide +kernel)) ggX2_startAnew_X2_putBehind
theorem dX2_startAnew_0 : decode cX2_startAnew 0 = .ok (.aload_n 0, 1) := by decide +kernel
theorem dX2_startAnew_1 : decode cX2_startAnew 1 = .ok (.iconst 2, 1) := by decide +kernel
theorem dX2_startAnew_2 : decode cX2_startAnew 2 = .ok (.putfield 21, 3) := by decide +kernel
theorem dX2_startAnew_5 : decode cX2_startAnew 5 = .ok (.aload_n 0, 1) := by decide +kernel
theorem dX2_startAnew_6 : decode cX2_startAnew 6 = .ok (.iconst 2, 1) := by decide +kernel
theorem dX2_startAnew_7 : decode cX2_startAnew 7 = .ok (.invokevirtual 25, 3) := by decide +kernel
theorem dX2_startAnew_10 : decode cX2_startAnew 10 = .ok (.aload_n 0, 1) := by decide +kernel
theorem dX2_startAnew_11 : decode cX2_startAnew 11 = .ok (.iconst 0, 1) := by decide +kernel
theorem dX2_startAnew_12 : decode cX2_startAnew 12 = .ok (.iconst 0, 1) := by decide +kernel
theorem dX2_startAnew_13 : decode cX2_startAnew 13 = .ok (.invokevirtual 29, 3) := by decide +kernel
theorem dX2_startAnew_16 : decode cX2_startAnew 16 = .ok (.aload_n 0, 1) := by decide +kernel
theorem dX2_startAnew_17 : decode cX2_startAnew 17 = .ok (.bipush 12, 2) := by decide +kernel
theorem dX2_startAnew_19 : decode cX2_startAnew 19 = .ok (.putfield 33, 3) := by decide +kernel
theorem dX2_startAnew_22 : decode cX2_startAnew 22 = .ok (.return_, 1) := by decide +kernel
theorem dX2_takeHooks_0 : decode cX2_takeHooks 0 = .ok (.aload_n 0, 1) := by decide +kernel
theorem dX2_takeHooks_1 : decode cX2_takeHooks 1 = .ok (.iload_n 1, 1) := by decide +kernel
theorem dX2_takeHooks_2 : decode cX2_takeHooks 2 = .ok (.putfield 36, 3) := by decide +kernel
theorem dX2_takeHooks_5 : decode cX2_takeHooks 5 = .ok (.aload_n 0, 1) := by decide +kernel
theorem dX2_takeHooks_6 : decode cX2_takeHooks 6 = .ok (.getfield 9, 3) := by decide +kernel
theorem dX2_takeHooks_9 : decode cX2_takeHooks 9 = .ok (.iconst 0, 1) := by decide +kernel
theorem dX2_takeHooks_10 : decode cX2_takeHooks 10 = .ok (.iconst 0, 1) := by decide +kernel
theorem dX2_takeHooks_11 : decode cX2_takeHooks 11 = .ok (.iastore, 1) := by decide +kernel
theorem dX2_takeHooks_12 : decode cX2_takeHooks 12 = .ok (.aload_n 0, 1) := by decide +kernel
theorem dX2_takeHooks_13 : decode cX2_takeHooks 13 = .ok (.getfield 9, 3) := by decide +kernel
theorem dX2_takeHooks_16 : decode cX2_takeHooks 16 = .ok (.iconst 1, 1) := by decide +kernel
theorem dX2_takeHooks_17 : decode cX2_takeHooks 17 = .ok (.iload_n 1, 1) := by decide +kernel
theorem dX2_takeHooks_18 : decode cX2_takeHooks 18 = .ok (.iconst 1, 1) := by decide +kernel
theorem dX2_takeHooks_19 : decode cX2_takeHooks 19 = .ok (.if_icmp .le 7, 3) := by decide +kernel
theorem dX2_takeHooks_22 : decode cX2_takeHooks 22 = .ok (.iconst 1, 1) := by decide +kernel
theorem dX2_takeHooks_23 : decode cX2_takeHooks 23 = .ok (.goto 4, 3) := by decide +kernel
theorem dX2_takeHooks_26 : decode cX2_takeHooks 26 = .ok (.iconst 0, 1) := by decide +kernel
theorem dX2_takeHooks_27 : decode cX2_takeHooks 27 = .ok (.iastore, 1) := by decide +kernel
theorem dX2_takeHooks_28 : decode cX2_takeHooks 28 = .ok (.return_, 1) := by decide +kernel
theorem dX2_become_0 : decode cX2_become 0 = .ok (.aload_n 0, 1) := by decide +kernel
theorem dX2_become_1 : decode cX2_become 1 = .ok (.aload_n 1, 1) := by decide +kernel
theorem dX2_become_2 : decode cX2_become 2 = .ok (.getfield 36, 3) := by decide +kernel
theorem dX2_become_5 : decode cX2_become 5 = .ok (.putfield 36, 3) := by decide +kernel
theorem dX2_become_8 : decode cX2_become 8 = .ok (.aload_n 0, 1) := by decide +kernel
theorem dX2_become_9 : decode cX2_become 9 = .ok (.aload_n 1, 1) := by decide +kernel
theorem dX2_become_10 : decode cX2_become 10 = .ok (.getfield 21, 3) := by decide +kernel
theorem dX2_become_13 : decode cX2_become 13 = .ok (.putfield 21, 3) := by decide +kernel
theorem dX2_become_16 : decode cX2_become 16 = .ok (.aload_n 0, 1) := by decide +kernel
theorem dX2_become_17 : decode cX2_become 17 = .ok (.aload_n 1, 1) := by decide +kernel
theorem dX2_become_18 : decode cX2_become 18 = .ok (.getfield 39, 3) := by decide +kernel
theorem dX2_become_21 : decode cX2_become 21 = .ok (.putfield 39, 3) := by decide +kernel
theorem dX2_become_24 : decode cX2_become 24 = .ok (.aload_n 0, 1) := by decide +kernel
theorem dX2_become_25 : decode cX2_become 25 = .ok (.aload_n 1, 1) := by decide +kernel
theorem dX2_become_26 : decode cX2_become 26 = .ok (.getfield 33, 3) := by decide +kernel
theorem dX2_become_29 : decode cX2_become 29 = .ok (.putfield 33, 3) := by decide +kernel
theorem dX2_become_32 : decode cX2_become 32 = .ok (.aload_n 1, 1) := by decide +kernel
theorem dX2_become_33 : decode cX2_become 33 = .ok (.getfield 9, 3) := by decide +kernel
theorem dX2_become_36 : decode cX2_become 36 = .ok (.iconst 0, 1) := by decide +kernel
theorem dX2_become_37 : decode cX2_become 37 = .ok (.aload_n 0, 1) := by decide +kernel
theorem dX2_become_38 : decode cX2_become 38 = .ok (.getfield 9, 3) := by decide +kernel
theorem dX2_become_41 : decode cX2_become 41 = .ok (.iconst 0, 1) := by decide +kernel
theorem dX2_become_42 : decode cX2_become 42 = .ok (.bipush 12, 2) := by decide +kernel
theorem dX2_become_44 : decode cX2_become 44 = .ok (.invokestatic 42, 3) := by decide +kernel
theorem dX2_become_47 : decode cX2_become 47 = .ok (.aload_n 1, 1) := by decide +kernel
theorem dX2_become_48 : decode cX2_become 48 = .ok (.getfield 15, 3) := by decide +kernel
theorem dX2_become_51 : decode cX2_become 51 = .ok (.iconst 0, 1) := by decide +kernel
theorem dX2_become_52 : decode cX2_become 52 = .ok (.aload_n 0, 1) := by decide +kernel
theorem dX2_become_53 : decode cX2_become 53 = .ok (.getfield 15, 3) := by decide +kernel
theorem dX2_become_56 : decode cX2_become 56 = .ok (.iconst 0, 1) := by decide +kernel
theorem dX2_become_57 : decode cX2_become 57 = .ok (.bipush 8, 2) := by decide +kernel
theorem dX2_become_59 : decode cX2_become 59 = .ok (.invokestatic 42, 3) := by decide +kernel
theorem dX2_become_62 : decode cX2_become 62 = .ok (.return_, 1) := by decide +kernel
theorem dX2_hasHook_0 : decode cX2_hasHook 0 = .ok (.iload_n 1, 1) := by decide +kernel
theorem dX2_hasHook_1 : decode cX2_hasHook 1 = .ok (.ifCond .lt 15, 3) := by decide +kernel
theorem dX2_hasHook_4 : decode cX2_hasHook 4 = .ok (.iload_n 1, 1) := by decide +kernel
theorem dX2_hasHook_5 : decode cX2_hasHook 5 = .ok (.aload_n 0, 1) := by decide +kernel
theorem dX2_hasHook_6 : decode cX2_hasHook 6 = .ok (.getfield 36, 3) := by decide +kernel
theorem dX2_hasHook_9 : decode cX2_hasHook 9 = .ok (.if_icmp .ge 7, 3) := by decide +kernel
theorem dX2_hasHook_12 : decode cX2_hasHook 12 = .ok (.iconst 1, 1) := by decide +kernel
theorem dX2_hasHook_13 : decode cX2_hasHook 13 = .ok (.goto 4, 3) := by decide +kernel
theorem dX2_hasHook_16 : decode cX2_hasHook 16 = .ok (.iconst 0, 1) := by decide +kernel
theorem dX2_hasHook_17 : decode cX2_hasHook 17 = .ok (.ireturn, 1) := by decide +kernel
theorem dX2_hasEnd_0 : decode cX2_hasEnd 0 = .ok (.iload_n 1, 1) := by decide +kernel
theorem dX2_hasEnd_1 : decode cX2_hasEnd 1 = .ok (.ifCond .lt 15, 3) := by decide +kernel
theorem dX2_hasEnd_4 : decode cX2_hasEnd 4 = .ok (.iload_n 1, 1) := by decide +kernel
theorem dX2_hasEnd_5 : decode cX2_hasEnd 5 = .ok (.aload_n 0, 1) := by decide +kernel
theorem dX2_hasEnd_6 : decode cX2_hasEnd 6 = .ok (.getfield 21, 3) := by decide +kernel
theorem dX2_hasEnd_9 : decode cX2_hasEnd 9 = .ok (.if_icmp .ge 7, 3) := by decide +kernel
theorem dX2_hasEnd_12 : decode cX2_hasEnd 12 = .ok (.iconst 1, 1) := by decide +kernel
theorem dX2_hasEnd_13 : decode cX2_hasEnd 13 = .ok (.goto 4, 3) := by decide +kernel
theorem dX2_hasEnd_16 : decode cX2_hasEnd 16 = .ok (.iconst 0, 1) := by decide +kernel
theorem dX2_hasEnd_17 : decode cX2_hasEnd 17 = .ok (.ireturn, 1) := by decide +kernel
theorem dX2_hasCard_0 : decode cX2_hasCard 0 = .ok (.iload_n 1, 1) := by decide +kernel
theorem dX2_hasCard_1 : decode cX2_hasCard 1 = .ok (.ifCond .lt 15, 3) := by decide +kernel
theorem dX2_hasCard_4 : decode cX2_hasCard 4 = .ok (.iload_n 1, 1) := by decide +kernel
theorem dX2_hasCard_5 : decode cX2_hasCard 5 = .ok (.aload_n 0, 1) := by decide +kernel
theorem dX2_hasCard_6 : decode cX2_hasCard 6 = .ok (.getfield 39, 3) := by decide +kernel
theorem dX2_hasCard_9 : decode cX2_hasCard 9 = .ok (.if_icmp .ge 7, 3) := by decide +kernel
theorem dX2_hasCard_12 : decode cX2_hasCard 12 = .ok (.iconst 1, 1) := by decide +kernel
theorem dX2_hasCard_13 : decode cX2_hasCard 13 = .ok (.goto 4, 3) := by decide +kernel
theorem dX2_hasCard_16 : decode cX2_hasCard 16 = .ok (.iconst 0, 1) := by decide +kernel
theorem dX2_hasCard_17 : decode cX2_hasCard 17 = .ok (.ireturn, 1) := by decide +kernel
theorem dX2_hasHoles_0 : decode cX2_hasHoles 0 = .ok (.iload_n 1, 1) := by decide +kernel
theorem dX2_hasHoles_1 : decode cX2_hasHoles 1 = .ok (.ifCond .lt 17, 3) := by decide +kernel
theorem dX2_hasHoles_4 : decode cX2_hasHoles 4 = .ok (.iload_n 1, 1) := by decide +kernel
theorem dX2_hasHoles_5 : decode cX2_hasHoles 5 = .ok (.iconst 1, 1) := by decide +kernel
theorem dX2_hasHoles_6 : decode cX2_hasHoles 6 = .ok (.aload_n 0, 1) := by decide +kernel
theorem dX2_hasHoles_7 : decode cX2_hasHoles 7 = .ok (.getfield 36, 3) := by decide +kernel
theorem dX2_hasHoles_10 : decode cX2_hasHoles 10 = .ok (.ishl, 1) := by decide +kernel
theorem dX2_hasHoles_11 : decode cX2_hasHoles 11 = .ok (.if_icmp .ge 7, 3) := by decide +kernel
theorem dX2_hasHoles_14 : decode cX2_hasHoles 14 = .ok (.iconst 1, 1) := by decide +kernel
theorem dX2_hasHoles_15 : decode cX2_hasHoles 15 = .ok (.goto 4, 3) := by decide +kernel
theorem dX2_hasHoles_18 : decode cX2_hasHoles 18 = .ok (.iconst 0, 1) := by decide +kernel
theorem dX2_hasHoles_19 : decode cX2_hasHoles 19 = .ok (.ireturn, 1) := by decide +kernel
set_option maxRecDepth 20000 in
theorem ggX2_hookOf_X2_hasEnd : GoodIn wsX2_hookOf wsX2_hasEnd := goodIn_r _ [6, 7, 8, 9, 10, 11, 12, 13] (by decide +kernel) (by decide +kernel)
set_option maxRecDepth 20000 in
theorem gX2_hookOf_X2_hasEnd : GoodIn wsX2_hookOf (wsV RX2 48 RX2 yX2_hasEnd wsX2_hasEnd) := goodIn_app (goodIn_of _ (by decide +kernel)) ggX2_hookOf_X2_hasEnd
theorem dX2_hookOf_0 : decode cX2_hookOf 0 = .ok (.aload_n 0, 1) := by decide +kernel
theorem dX2_hookOf_1 : decode cX2_hookOf 1 = .ok (.iload_n 1, 1) := by decide +kernel
theorem dX2_hookOf_2 : decode cX2_hookOf 2 = .ok (.invokevirtual 48, 3) := by decide +kernel
theorem dX2_hookOf_5 : decode cX2_hookOf 5 = .ok (.ifCond .eq 12, 3) := by decide +kernel
theorem dX2_hookOf_8 : decode cX2_hookOf 8 = .ok (.aload_n 0, 1) := by decide +kernel
theorem dX2_hookOf_9 : decode cX2_hookOf 9 = .ok (.getfield 9, 3) := by decide +kernel
theorem dX2_hookOf_12 : decode cX2_hookOf 12 = .ok (.iload_n 1, 1) := by decide +kernel
theorem dX2_hookOf_13 : decode cX2_hookOf 13 = .ok (.iaload, 1) := by decide +kernel
theorem dX2_hookOf_14 : decode cX2_hookOf 14 = .ok (.goto 4, 3) := by decide +kernel
theorem dX2_hookOf_17 : decode cX2_hookOf 17 = .ok (.iconst 0, 1) := by decide +kernel
theorem dX2_hookOf_18 : decode cX2_hookOf 18 = .ok (.ireturn, 1) := by decide +kernel
set_option maxRecDepth 20000 in
theorem ggX2_holesOf_X2_hasCard : GoodIn wsX2_holesOf wsX2_hasCard := goodIn_r _ [6, 7, 8, 9, 10, 11, 12, 13] (by decide +kernel) (by decide +kernel)
set_option maxRecDepth 20000 in
theorem gX2_holesOf_X2_hasCard : GoodIn wsX2_holesOf (wsV RX2 52 RX2 yX2_hasCard wsX2_hasCard) := goodIn_app (goodIn_of _ (by decide +kernel)) ggX2_holesOf_X2_hasCard
theorem dX2_holesOf_0 : decode cX2_holesOf 0 = .ok (.aload_n 0, 1) := by decide +kernel
theorem dX2_holesOf_1 : decode cX2_holesOf 1 = .ok (.iload_n 1, 1) := by decide +kernel
theorem dX2_holesOf_2 : decode cX2_holesOf 2 = .ok (.invokevirtual 52, 3) := by decide +kernel
theorem dX2_holesOf_5 : decode cX2_holesOf 5 = .ok (.ifCond .eq 12, 3) := by decide +kernel
theorem dX2_holesOf_8 : decode cX2_holesOf 8 = .ok (.aload_n 0, 1) := by decide +kernel
theorem dX2_holesOf_9 : decode cX2_holesOf 9 = .ok (.getfield 15, 3) := by decide +kernel
theorem dX2_holesOf_12 : decode cX2_holesOf 12 = .ok (.iload_n 1, 1) := by decide +kernel
theorem dX2_holesOf_13 : decode cX2_holesOf 13 = .ok (.iaload, 1) := by decide +kernel
theorem dX2_holesOf_14 : decode cX2_holesOf 14 = .ok (.goto 4, 3) := by decide +kernel
theorem dX2_holesOf_17 : decode cX2_holesOf 17 = .ok (.iconst 0, 1) := by decide +kernel
theorem dX2_holesOf_18 : decode cX2_holesOf 18 = .ok (.ireturn, 1) := by decide +kernel
theorem dX2_cardOfRow_0 : decode cX2_cardOfRow 0 = .ok (.iload_n 1, 1) := by decide +kernel
theorem dX2_cardOfRow_1 : decode cX2_cardOfRow 1 = .ok (.ifCond .lt 19, 3) := by decide +kernel
theorem dX2_cardOfRow_4 : decode cX2_cardOfRow 4 = .ok (.aload_n 0, 1) := by decide +kernel
theorem dX2_cardOfRow_5 : decode cX2_cardOfRow 5 = .ok (.getfield 39, 3) := by decide +kernel
theorem dX2_cardOfRow_8 : decode cX2_cardOfRow 8 = .ok (.ifCond .le 12, 3) := by decide +kernel
theorem dX2_cardOfRow_11 : decode cX2_cardOfRow 11 = .ok (.iload_n 1, 1) := by decide +kernel
theorem dX2_cardOfRow_12 : decode cX2_cardOfRow 12 = .ok (.aload_n 0, 1) := by decide +kernel
theorem dX2_cardOfRow_13 : decode cX2_cardOfRow 13 = .ok (.getfield 39, 3) := by decide +kernel
theorem dX2_cardOfRow_16 : decode cX2_cardOfRow 16 = .ok (.irem, 1) := by decide +kernel
theorem dX2_cardOfRow_17 : decode cX2_cardOfRow 17 = .ok (.goto 4, 3) := by decide +kernel
theorem dX2_cardOfRow_20 : decode cX2_cardOfRow 20 = .ok (.iconst 0, 1) := by decide +kernel
theorem dX2_cardOfRow_21 : decode cX2_cardOfRow 21 = .ok (.ireturn, 1) := by decide +kernel
theorem dX2_places_0 : decode cX2_places 0 = .ok (.aload_n 0, 1) := by decide +kernel
theorem dX2_places_1 : decode cX2_places 1 = .ok (.getfield 36, 3) := by decide +kernel
theorem dX2_places_4 : decode cX2_places 4 = .ok (.aload_n 0, 1) := by decide +kernel
theorem dX2_places_5 : decode cX2_places 5 = .ok (.getfield 39, 3) := by decide +kernel
theorem dX2_places_8 : decode cX2_places 8 = .ok (.imul, 1) := by decide +kernel
theorem dX2_places_9 : decode cX2_places 9 = .ok (.ireturn, 1) := by decide +kernel
theorem dX2_placeOf_0 : decode cX2_placeOf 0 = .ok (.aload_n 0, 1) := by decide +kernel
theorem dX2_placeOf_1 : decode cX2_placeOf 1 = .ok (.getfield 36, 3) := by decide +kernel
theorem dX2_placeOf_4 : decode cX2_placeOf 4 = .ok (.iload_n 1, 1) := by decide +kernel
theorem dX2_placeOf_5 : decode cX2_placeOf 5 = .ok (.imul, 1) := by decide +kernel
theorem dX2_placeOf_6 : decode cX2_placeOf 6 = .ok (.iload_n 2, 1) := by decide +kernel
theorem dX2_placeOf_7 : decode cX2_placeOf 7 = .ok (.iadd, 1) := by decide +kernel
theorem dX2_placeOf_8 : decode cX2_placeOf 8 = .ok (.ireturn, 1) := by decide +kernel
set_option maxRecDepth 20000 in
theorem ggX2_punch_X2_places : GoodIn wsX2_punch wsX2_places := goodIn_r _ [7, 1, 8, 9, 10, 11, 12, 13, 14] (by decide +kernel) (by decide +kernel)
set_option maxRecDepth 20000 in
theorem gX2_punch_X2_places : GoodIn wsX2_punch (wsV RX2 55 RX2 yX2_places wsX2_places) := goodIn_app (goodIn_of _ (by decide +kernel)) ggX2_punch_X2_places
theorem dX2_punch_0 : decode cX2_punch 0 = .ok (.iload_n 1, 1) := by decide +kernel
theorem dX2_punch_1 : decode cX2_punch 1 = .ok (.ifCond .lt 40, 3) := by decide +kernel
theorem dX2_punch_4 : decode cX2_punch 4 = .ok (.iload_n 1, 1) := by decide +kernel
theorem dX2_punch_5 : decode cX2_punch 5 = .ok (.aload_n 0, 1) := by decide +kernel
theorem dX2_punch_6 : decode cX2_punch 6 = .ok (.invokevirtual 55, 3) := by decide +kernel
theorem dX2_punch_9 : decode cX2_punch 9 = .ok (.if_icmp .ge 32, 3) := by decide +kernel
theorem dX2_punch_12 : decode cX2_punch 12 = .ok (.aload_n 0, 1) := by decide +kernel
theorem dX2_punch_13 : decode cX2_punch 13 = .ok (.getfield 36, 3) := by decide +kernel
theorem dX2_punch_16 : decode cX2_punch 16 = .ok (.ifCond .le 25, 3) := by decide +kernel
theorem dX2_punch_19 : decode cX2_punch 19 = .ok (.aload_n 0, 1) := by decide +kernel
theorem dX2_punch_20 : decode cX2_punch 20 = .ok (.getfield 15, 3) := by decide +kernel
theorem dX2_punch_23 : decode cX2_punch 23 = .ok (.iload_n 1, 1) := by decide +kernel
theorem dX2_punch_24 : decode cX2_punch 24 = .ok (.aload_n 0, 1) := by decide +kernel
theorem dX2_punch_25 : decode cX2_punch 25 = .ok (.getfield 36, 3) := by decide +kernel
theorem dX2_punch_28 : decode cX2_punch 28 = .ok (.idiv, 1) := by decide +kernel
theorem dX2_punch_29 : decode cX2_punch 29 = .ok (.dup2, 1) := by decide +kernel
theorem dX2_punch_30 : decode cX2_punch 30 = .ok (.iaload, 1) := by decide +kernel
theorem dX2_punch_31 : decode cX2_punch 31 = .ok (.iconst 1, 1) := by decide +kernel
theorem dX2_punch_32 : decode cX2_punch 32 = .ok (.iload_n 1, 1) := by decide +kernel
theorem dX2_punch_33 : decode cX2_punch 33 = .ok (.aload_n 0, 1) := by decide +kernel
theorem dX2_punch_34 : decode cX2_punch 34 = .ok (.getfield 36, 3) := by decide +kernel
theorem dX2_punch_37 : decode cX2_punch 37 = .ok (.irem, 1) := by decide +kernel
theorem dX2_punch_38 : decode cX2_punch 38 = .ok (.ishl, 1) := by decide +kernel
theorem dX2_punch_39 : decode cX2_punch 39 = .ok (.ixor, 1) := by decide +kernel
theorem dX2_punch_40 : decode cX2_punch 40 = .ok (.iastore, 1) := by decide +kernel
theorem dX2_punch_41 : decode cX2_punch 41 = .ok (.return_, 1) := by decide +kernel
set_option maxRecDepth 20000 in
theorem ggX2_altersAll_X2_endsOf : GoodIn wsX2_altersAll wsX2_endsOf := goodIn_r _ [6, 7, 8, 9, 10, 11, 12, 13, 14] (by decide +kernel) (by decide +kernel)
set_option maxRecDepth 20000 in
theorem gX2_altersAll_X2_endsOf : GoodIn wsX2_altersAll (wsV RX2 59 RX2 yX2_endsOf wsX2_endsOf) := goodIn_app (goodIn_of _ (by decide +kernel)) ggX2_altersAll_X2_endsOf
theorem dX2_altersAll_0 : decode cX2_altersAll 0 = .ok (.aload_n 0, 1) := by decide +kernel
theorem dX2_altersAll_1 : decode cX2_altersAll 1 = .ok (.getfield 36, 3) := by decide +kernel
theorem dX2_altersAll_4 : decode cX2_altersAll 4 = .ok (.ifCond .gt 5, 3) := by decide +kernel
theorem dX2_altersAll_7 : decode cX2_altersAll 7 = .ok (.iconst 0, 1) := by decide +kernel
theorem dX2_altersAll_8 : decode cX2_altersAll 8 = .ok (.ireturn, 1) := by decide +kernel
theorem dX2_altersAll_9 : decode cX2_altersAll 9 = .ok (.iload_n 2, 1) := by decide +kernel
theorem dX2_altersAll_10 : decode cX2_altersAll 10 = .ok (.iconst 1, 1) := by decide +kernel
theorem dX2_altersAll_11 : decode cX2_altersAll 11 = .ok (.iload_n 1, 1) := by decide +kernel
theorem dX2_altersAll_12 : decode cX2_altersAll 12 = .ok (.aload_n 0, 1) := by decide +kernel
theorem dX2_altersAll_13 : decode cX2_altersAll 13 = .ok (.getfield 36, 3) := by decide +kernel
theorem dX2_altersAll_16 : decode cX2_altersAll 16 = .ok (.idiv, 1) := by decide +kernel
theorem dX2_altersAll_17 : decode cX2_altersAll 17 = .ok (.ishl, 1) := by decide +kernel
theorem dX2_altersAll_18 : decode cX2_altersAll 18 = .ok (.iconst (-1), 1) := by decide +kernel
theorem dX2_altersAll_19 : decode cX2_altersAll 19 = .ok (.ixor, 1) := by decide +kernel
theorem dX2_altersAll_20 : decode cX2_altersAll 20 = .ok (.iand, 1) := by decide +kernel
theorem dX2_altersAll_21 : decode cX2_altersAll 21 = .ok (.ifCond .ne 24, 3) := by decide +kernel
theorem dX2_altersAll_24 : decode cX2_altersAll 24 = .ok (.iload_n 3, 1) := by decide +kernel
theorem dX2_altersAll_25 : decode cX2_altersAll 25 = .ok (.aload_n 0, 1) := by decide +kernel
theorem dX2_altersAll_26 : decode cX2_altersAll 26 = .ok (.iload_n 1, 1) := by decide +kernel
theorem dX2_altersAll_27 : decode cX2_altersAll 27 = .ok (.aload_n 0, 1) := by decide +kernel
theorem dX2_altersAll_28 : decode cX2_altersAll 28 = .ok (.getfield 36, 3) := by decide +kernel
theorem dX2_altersAll_31 : decode cX2_altersAll 31 = .ok (.irem, 1) := by decide +kernel
theorem dX2_altersAll_32 : decode cX2_altersAll 32 = .ok (.invokevirtual 59, 3) := by decide +kernel
theorem dX2_altersAll_35 : decode cX2_altersAll 35 = .ok (.iconst (-1), 1) := by decide +kernel
theorem dX2_altersAll_36 : decode cX2_altersAll 36 = .ok (.ixor, 1) := by decide +kernel
theorem dX2_altersAll_37 : decode cX2_altersAll 37 = .ok (.iand, 1) := by decide +kernel
theorem dX2_altersAll_38 : decode cX2_altersAll 38 = .ok (.ifCond .ne 7, 3) := by decide +kernel
theorem dX2_altersAll_41 : decode cX2_altersAll 41 = .ok (.iconst 1, 1) := by decide +kernel
theorem dX2_altersAll_42 : decode cX2_altersAll 42 = .ok (.goto 4, 3) := by decide +kernel
theorem dX2_altersAll_45 : decode cX2_altersAll 45 = .ok (.iconst 0, 1) := by decide +kernel
theorem dX2_altersAll_46 : decode cX2_altersAll 46 = .ok (.ireturn, 1) := by decide +kernel
theorem dX2_endsOf_0 : decode cX2_endsOf 0 = .ok (.iconst 0, 1) := by decide +kernel
theorem dX2_endsOf_1 : decode cX2_endsOf 1 = .ok (.istore_n 2, 1) := by decide +kernel
theorem dX2_endsOf_2 : decode cX2_endsOf 2 = .ok (.iconst 0, 1) := by decide +kernel
theorem dX2_endsOf_3 : decode cX2_endsOf 3 = .ok (.istore_n 3, 1) := by decide +kernel
theorem dX2_endsOf_4 : decode cX2_endsOf 4 = .ok (.iload_n 3, 1) := by decide +kernel
theorem dX2_endsOf_5 : decode cX2_endsOf 5 = .ok (.aload_n 0, 1) := by decide +kernel
theorem dX2_endsOf_6 : decode cX2_endsOf 6 = .ok (.getfield 21, 3) := by decide +kernel
theorem dX2_endsOf_9 : decode cX2_endsOf 9 = .ok (.if_icmp .ge 29, 3) := by decide +kernel
theorem dX2_endsOf_12 : decode cX2_endsOf 12 = .ok (.iload_n 2, 1) := by decide +kernel
theorem dX2_endsOf_13 : decode cX2_endsOf 13 = .ok (.aload_n 0, 1) := by decide +kernel
theorem dX2_endsOf_14 : decode cX2_endsOf 14 = .ok (.getfield 9, 3) := by decide +kernel
theorem dX2_endsOf_17 : decode cX2_endsOf 17 = .ok (.iload_n 3, 1) := by decide +kernel
theorem dX2_endsOf_18 : decode cX2_endsOf 18 = .ok (.iaload, 1) := by decide +kernel
theorem dX2_endsOf_19 : decode cX2_endsOf 19 = .ok (.iload_n 1, 1) := by decide +kernel
theorem dX2_endsOf_20 : decode cX2_endsOf 20 = .ok (.if_icmp .ne 9, 3) := by decide +kernel
theorem dX2_endsOf_23 : decode cX2_endsOf 23 = .ok (.iconst 1, 1) := by decide +kernel
theorem dX2_endsOf_24 : decode cX2_endsOf 24 = .ok (.iload_n 3, 1) := by decide +kernel
theorem dX2_endsOf_25 : decode cX2_endsOf 25 = .ok (.ishl, 1) := by decide +kernel
theorem dX2_endsOf_26 : decode cX2_endsOf 26 = .ok (.goto 4, 3) := by decide +kernel
theorem dX2_endsOf_29 : decode cX2_endsOf 29 = .ok (.iconst 0, 1) := by decide +kernel
theorem dX2_endsOf_30 : decode cX2_endsOf 30 = .ok (.ior, 1) := by decide +kernel
theorem dX2_endsOf_31 : decode cX2_endsOf 31 = .ok (.istore_n 2, 1) := by decide +kernel
theorem dX2_endsOf_32 : decode cX2_endsOf 32 = .ok (.iinc 3 1, 3) := by decide +kernel
theorem dX2_endsOf_35 : decode cX2_endsOf 35 = .ok (.goto (-31), 3) := by decide +kernel
theorem dX2_endsOf_38 : decode cX2_endsOf 38 = .ok (.iload_n 2, 1) := by decide +kernel
theorem dX2_endsOf_39 : decode cX2_endsOf 39 = .ok (.ireturn, 1) := by decide +kernel
set_option maxRecDepth 20000 in
theorem ggX2_tie_X2_hasEnd : GoodIn wsX2_tie wsX2_hasEnd := goodIn_r _ [6, 7, 8, 9, 10, 11, 12, 13] (by decide +kernel) (by decide +kernel)
set_option maxRecDepth 20000 in
theorem gX2_tie_X2_hasEnd : GoodIn wsX2_tie (wsV RX2 48 RX2 yX2_hasEnd wsX2_hasEnd) := goodIn_app (goodIn_of _ (by decide +kernel)) ggX2_tie_X2_hasEnd
theorem dX2_tie_0 : decode cX2_tie 0 = .ok (.aload_n 0, 1) := by decide +kernel
theorem dX2_tie_1 : decode cX2_tie 1 = .ok (.iload_n 1, 1) := by decide +kernel
theorem dX2_tie_2 : decode cX2_tie 2 = .ok (.invokevirtual 48, 3) := by decide +kernel
theorem dX2_tie_5 : decode cX2_tie 5 = .ok (.ifCond .eq 10, 3) := by decide +kernel
theorem dX2_tie_8 : decode cX2_tie 8 = .ok (.aload_n 0, 1) := by decide +kernel
theorem dX2_tie_9 : decode cX2_tie 9 = .ok (.getfield 9, 3) := by decide +kernel
theorem dX2_tie_12 : decode cX2_tie 12 = .ok (.iload_n 1, 1) := by decide +kernel
theorem dX2_tie_13 : decode cX2_tie 13 = .ok (.iload_n 2, 1) := by decide +kernel
theorem dX2_tie_14 : decode cX2_tie 14 = .ok (.iastore, 1) := by decide +kernel
theorem dX2_tie_15 : decode cX2_tie 15 = .ok (.return_, 1) := by decide +kernel
theorem dX2_putBehind_0 : decode cX2_putBehind 0 = .ok (.iload_n 1, 1) := by decide +kernel
theorem dX2_putBehind_1 : decode cX2_putBehind 1 = .ok (.ifCond .lt 23, 3) := by decide +kernel
theorem dX2_putBehind_4 : decode cX2_putBehind 4 = .ok (.iload_n 1, 1) := by decide +kernel
theorem dX2_putBehind_5 : decode cX2_putBehind 5 = .ok (.bipush 8, 2) := by decide +kernel
theorem dX2_putBehind_7 : decode cX2_putBehind 7 = .ok (.if_icmp .ge 17, 3) := by decide +kernel
theorem dX2_putBehind_10 : decode cX2_putBehind 10 = .ok (.aload_n 0, 1) := by decide +kernel
theorem dX2_putBehind_11 : decode cX2_putBehind 11 = .ok (.getfield 15, 3) := by decide +kernel
