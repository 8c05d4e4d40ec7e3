theorem dX3_search_14 : decode cX3_search 14 = .ok (.aload_n 0, 1) := by decide +kernel
theorem dX3_search_15 : decode cX3_search 15 = .ok (.bipush (-9), 2) := by decide +kernel
theorem dX3_search_17 : decode cX3_search 17 = .ok (.putfield 26, 3) := by decide +kernel
theorem dX3_search_20 : decode cX3_search 20 = .ok (.aload_n 0, 1) := by decide +kernel
theorem dX3_search_21 : decode cX3_search 21 = .ok (.bipush (-9), 2) := by decide +kernel
theorem dX3_search_23 : decode cX3_search 23 = .ok (.putfield 29, 3) := by decide +kernel
theorem dX3_search_26 : decode cX3_search 26 = .ok (.aload_n 0, 1) := by decide +kernel
theorem dX3_search_27 : decode cX3_search 27 = .ok (.getfield 12, 3) := by decide +kernel
theorem dX3_search_30 : decode cX3_search 30 = .ok (.invokevirtual 32, 3) := by decide +kernel
theorem dX3_search_33 : decode cX3_search 33 = .ok (.ifCond .eq 9, 3) := by decide +kernel
theorem dX3_search_36 : decode cX3_search 36 = .ok (.aload_n 0, 1) := by decide +kernel
theorem dX3_search_37 : decode cX3_search 37 = .ok (.iconst 0, 1) := by decide +kernel
theorem dX3_search_38 : decode cX3_search 38 = .ok (.putfield 22, 3) := by decide +kernel
theorem dX3_search_41 : decode cX3_search 41 = .ok (.return_, 1) := by decide +kernel
theorem dX3_search_42 : decode cX3_search 42 = .ok (.aload_n 0, 1) := by decide +kernel
theorem dX3_search_43 : decode cX3_search 43 = .ok (.aload_n 0, 1) := by decide +kernel
theorem dX3_search_44 : decode cX3_search 44 = .ok (.iconst 0, 1) := by decide +kernel
theorem dX3_search_45 : decode cX3_search 45 = .ok (.invokevirtual 36, 3) := by decide +kernel
theorem dX3_search_48 : decode cX3_search 48 = .ok (.putfield 26, 3) := by decide +kernel
theorem dX3_search_51 : decode cX3_search 51 = .ok (.aload_n 0, 1) := by decide +kernel
theorem dX3_search_52 : decode cX3_search 52 = .ok (.getfield 26, 3) := by decide +kernel
theorem dX3_search_55 : decode cX3_search 55 = .ok (.bipush (-9), 2) := by decide +kernel
theorem dX3_search_57 : decode cX3_search 57 = .ok (.if_icmp .eq 9, 3) := by decide +kernel
theorem dX3_search_60 : decode cX3_search 60 = .ok (.aload_n 0, 1) := by decide +kernel
theorem dX3_search_61 : decode cX3_search 61 = .ok (.iconst 1, 1) := by decide +kernel
theorem dX3_search_62 : decode cX3_search 62 = .ok (.putfield 22, 3) := by decide +kernel
theorem dX3_search_65 : decode cX3_search 65 = .ok (.return_, 1) := by decide +kernel
theorem dX3_search_66 : decode cX3_search 66 = .ok (.aload_n 0, 1) := by decide +kernel
theorem dX3_search_67 : decode cX3_search 67 = .ok (.invokevirtual 40, 3) := by decide +kernel
theorem dX3_search_70 : decode cX3_search 70 = .ok (.return_, 1) := by decide +kernel
set_option maxRecDepth 20000 in
theorem ggX3_searchTwo_X2_places : GoodIn wsX3_searchTwo wsX2_places := goodIn_r _ [9, 10, 11, 70, 71, 72, 73, 74, 75] (by decide +kernel) (by decide +kernel)
set_option maxRecDepth 20000 in
theorem gX3_searchTwo_X2_places : GoodIn wsX3_searchTwo (wsV RX3 43 RX2 yX2_places wsX2_places) := goodIn_app (goodIn_of _ (by decide +kernel)) ggX3_searchTwo_X2_places
set_option maxRecDepth 20000 in
theorem ggX3_searchTwo_X2_punch : GoodIn wsX3_searchTwo wsX2_punch := goodIn_r _ [15, 10, 16, 17, 6, 7, 8, 9, 11, 70, 71, 72, 73, 74, 75] (by decide +kernel) (by decide +kernel)
set_option maxRecDepth 20000 in
theorem gX3_searchTwo_X2_punch : GoodIn wsX3_searchTwo (wsV RX3 47 RX2 yX2_punch wsX2_punch) := goodIn_app (goodIn_of _ (by decide +kernel)) ggX3_searchTwo_X2_punch
set_option maxRecDepth 20000 in
theorem ggX3_searchTwo_X3_firstThatMends : GoodIn wsX3_searchTwo wsX3_firstThatMends := goodIn_r _ [22, 1, 23, 24, 25, 8, 26, 11, 27, 28, 29, 30, 31, 32, 33, 34, 35, 36, 37, 38, 39, 40, 16, 41, 42, 43, 44, 45, 46, 47, 48, 49, 50, 51, 52, 53, 5, 6, 7, 9, 10, 54, 55, 56, 57, 58, 59, 60, 61, 12, 13, 14, 15, 17, 62, 63, 64, 65, 66, 67, 68, 69, 70, 71, 72, 73, 74, 75] (by decide +kernel) (by decide +kernel)
set_option maxRecDepth 20000 in
theorem gX3_searchTwo_X3_firstThatMends : GoodIn wsX3_searchTwo (wsV RX3 36 RX3 yX3_firstThatMends wsX3_firstThatMends) := goodIn_app (goodIn_of _ (by decide +kernel)) ggX3_searchTwo_X3_firstThatMends
theorem dX3_searchTwo_0 : decode cX3_searchTwo 0 = .ok (.iconst 0, 1) := by decide +kernel
theorem dX3_searchTwo_1 : decode cX3_searchTwo 1 = .ok (.istore_n 1, 1) := by decide +kernel
theorem dX3_searchTwo_2 : decode cX3_searchTwo 2 = .ok (.iload_n 1, 1) := by decide +kernel
theorem dX3_searchTwo_3 : decode cX3_searchTwo 3 = .ok (.aload_n 0, 1) := by decide +kernel
theorem dX3_searchTwo_4 : decode cX3_searchTwo 4 = .ok (.getfield 12, 3) := by decide +kernel
theorem dX3_searchTwo_7 : decode cX3_searchTwo 7 = .ok (.invokevirtual 43, 3) := by decide +kernel
theorem dX3_searchTwo_10 : decode cX3_searchTwo 10 = .ok (.if_icmp .ge 55, 3) := by decide +kernel
theorem dX3_searchTwo_13 : decode cX3_searchTwo 13 = .ok (.aload_n 0, 1) := by decide +kernel
theorem dX3_searchTwo_14 : decode cX3_searchTwo 14 = .ok (.getfield 12, 3) := by decide +kernel
theorem dX3_searchTwo_17 : decode cX3_searchTwo 17 = .ok (.iload_n 1, 1) := by decide +kernel
theorem dX3_searchTwo_18 : decode cX3_searchTwo 18 = .ok (.invokevirtual 47, 3) := by decide +kernel
theorem dX3_searchTwo_21 : decode cX3_searchTwo 21 = .ok (.aload_n 0, 1) := by decide +kernel
theorem dX3_searchTwo_22 : decode cX3_searchTwo 22 = .ok (.iload_n 1, 1) := by decide +kernel
theorem dX3_searchTwo_23 : decode cX3_searchTwo 23 = .ok (.iconst 1, 1) := by decide +kernel
theorem dX3_searchTwo_24 : decode cX3_searchTwo 24 = .ok (.iadd, 1) := by decide +kernel
theorem dX3_searchTwo_25 : decode cX3_searchTwo 25 = .ok (.invokevirtual 36, 3) := by decide +kernel
theorem dX3_searchTwo_28 : decode cX3_searchTwo 28 = .ok (.istore_n 2, 1) := by decide +kernel
theorem dX3_searchTwo_29 : decode cX3_searchTwo 29 = .ok (.aload_n 0, 1) := by decide +kernel
theorem dX3_searchTwo_30 : decode cX3_searchTwo 30 = .ok (.getfield 12, 3) := by decide +kernel
theorem dX3_searchTwo_33 : decode cX3_searchTwo 33 = .ok (.iload_n 1, 1) := by decide +kernel
theorem dX3_searchTwo_34 : decode cX3_searchTwo 34 = .ok (.invokevirtual 47, 3) := by decide +kernel
theorem dX3_searchTwo_37 : decode cX3_searchTwo 37 = .ok (.iload_n 2, 1) := by decide +kernel
theorem dX3_searchTwo_38 : decode cX3_searchTwo 38 = .ok (.bipush (-9), 2) := by decide +kernel
theorem dX3_searchTwo_40 : decode cX3_searchTwo 40 = .ok (.if_icmp .eq 19, 3) := by decide +kernel
theorem dX3_searchTwo_43 : decode cX3_searchTwo 43 = .ok (.aload_n 0, 1) := by decide +kernel
theorem dX3_searchTwo_44 : decode cX3_searchTwo 44 = .ok (.iconst 2, 1) := by decide +kernel
theorem dX3_searchTwo_45 : decode cX3_searchTwo 45 = .ok (.putfield 22, 3) := by decide +kernel
theorem dX3_searchTwo_48 : decode cX3_searchTwo 48 = .ok (.aload_n 0, 1) := by decide +kernel
theorem dX3_searchTwo_49 : decode cX3_searchTwo 49 = .ok (.iload_n 1, 1) := by decide +kernel
theorem dX3_searchTwo_50 : decode cX3_searchTwo 50 = .ok (.putfield 26, 3) := by decide +kernel
theorem dX3_searchTwo_53 : decode cX3_searchTwo 53 = .ok (.aload_n 0, 1) := by decide +kernel
theorem dX3_searchTwo_54 : decode cX3_searchTwo 54 = .ok (.iload_n 2, 1) := by decide +kernel
theorem dX3_searchTwo_55 : decode cX3_searchTwo 55 = .ok (.putfield 29, 3) := by decide +kernel
theorem dX3_searchTwo_58 : decode cX3_searchTwo 58 = .ok (.return_, 1) := by decide +kernel
theorem dX3_searchTwo_59 : decode cX3_searchTwo 59 = .ok (.iinc 1 1, 3) := by decide +kernel
theorem dX3_searchTwo_62 : decode cX3_searchTwo 62 = .ok (.goto (-60), 3) := by decide +kernel
theorem dX3_searchTwo_65 : decode cX3_searchTwo 65 = .ok (.return_, 1) := by decide +kernel
set_option maxRecDepth 20000 in
theorem ggX3_firstThatMends_X2_longCards : GoodIn wsX3_firstThatMends wsX2_longCards := goodIn_r _ [6, 7, 8, 9, 10, 11, 5, 12, 13, 14, 15, 16, 17, 18, 19, 20, 21, 22, 23, 62, 63, 64, 65, 66, 67] (by decide +kernel) (by decide +kernel)
set_option maxRecDepth 20000 in
theorem gX3_firstThatMends_X2_longCards : GoodIn wsX3_firstThatMends (wsV RX3 51 RX2 yX2_longCards wsX2_longCards) := goodIn_app (goodIn_of _ (by decide +kernel)) ggX3_firstThatMends_X2_longCards
set_option maxRecDepth 20000 in
theorem ggX3_firstThatMends_X2_longEnds : GoodIn wsX3_firstThatMends wsX2_longEnds := goodIn_r _ [27, 13, 8, 28, 29, 30, 5, 31, 7, 14, 15, 16, 17, 18, 19, 20, 21, 22, 23, 32, 33, 34, 35, 62, 63, 64, 65, 66, 67] (by decide +kernel) (by decide +kernel)
set_option maxRecDepth 20000 in
theorem gX3_firstThatMends_X2_longEnds : GoodIn wsX3_firstThatMends (wsV RX3 54 RX2 yX2_longEnds wsX2_longEnds) := goodIn_app (goodIn_of _ (by decide +kernel)) ggX3_firstThatMends_X2_longEnds
set_option maxRecDepth 20000 in
theorem ggX3_firstThatMends_X2_places : GoodIn wsX3_firstThatMends wsX2_places := goodIn_r _ [39, 40, 7, 62, 63, 64, 65, 66, 67] (by decide +kernel) (by decide +kernel)
set_option maxRecDepth 20000 in
theorem gX3_firstThatMends_X2_places : GoodIn wsX3_firstThatMends (wsV RX3 43 RX2 yX2_places wsX2_places) := goodIn_app (goodIn_of _ (by decide +kernel)) ggX3_firstThatMends_X2_places
set_option maxRecDepth 20000 in
theorem ggX3_firstThatMends_X2_altersAll : GoodIn wsX3_firstThatMends wsX2_altersAll := goodIn_r _ [44, 40, 45, 46, 47, 5, 48, 13, 23, 62, 63, 64, 65, 66, 67] (by decide +kernel) (by decide +kernel)
set_option maxRecDepth 20000 in
theorem gX3_firstThatMends_X2_altersAll : GoodIn wsX3_firstThatMends (wsV RX3 57 RX2 yX2_altersAll wsX2_altersAll) := goodIn_app (goodIn_of _ (by decide +kernel)) ggX3_firstThatMends_X2_altersAll
set_option maxRecDepth 20000 in
theorem ggX3_firstThatMends_X2_punch : GoodIn wsX3_firstThatMends wsX2_punch := goodIn_r _ [52, 40, 22, 53, 37, 38, 5, 39, 7, 62, 63, 64, 65, 66, 67] (by decide +kernel) (by decide +kernel)
set_option maxRecDepth 20000 in
theorem gX3_firstThatMends_X2_punch : GoodIn wsX3_firstThatMends (wsV RX3 47 RX2 yX2_punch wsX2_punch) := goodIn_app (goodIn_of _ (by decide +kernel)) ggX3_firstThatMends_X2_punch
set_option maxRecDepth 20000 in
theorem ggX3_firstThatMends_X2_hasNothingTooLong : GoodIn wsX3_firstThatMends wsX2_hasNothingTooLong := goodIn_r _ [57, 7, 8, 13, 9, 10, 11, 5, 12, 14, 15, 16, 17, 18, 19, 20, 21, 22, 23, 28, 29, 30, 31, 32, 33, 34, 35, 62, 63, 64, 65, 66, 67] (by decide +kernel) (by decide +kernel)
set_option maxRecDepth 20000 in
theorem gX3_firstThatMends_X2_hasNothingTooLong : GoodIn wsX3_firstThatMends (wsV RX3 32 RX2 yX2_hasNothingTooLong wsX2_hasNothingTooLong) := goodIn_app (goodIn_of _ (by decide +kernel)) ggX3_firstThatMends_X2_hasNothingTooLong
theorem dX3_firstThatMends_0 : decode cX3_firstThatMends 0 = .ok (.aload_n 0, 1) := by decide +kernel
theorem dX3_firstThatMends_1 : decode cX3_firstThatMends 1 = .ok (.getfield 12, 3) := by decide +kernel
theorem dX3_firstThatMends_4 : decode cX3_firstThatMends 4 = .ok (.invokevirtual 51, 3) := by decide +kernel
theorem dX3_firstThatMends_7 : decode cX3_firstThatMends 7 = .ok (.istore_n 2, 1) := by decide +kernel
theorem dX3_firstThatMends_8 : decode cX3_firstThatMends 8 = .ok (.aload_n 0, 1) := by decide +kernel
theorem dX3_firstThatMends_9 : decode cX3_firstThatMends 9 = .ok (.getfield 12, 3) := by decide +kernel
theorem dX3_firstThatMends_12 : decode cX3_firstThatMends 12 = .ok (.invokevirtual 54, 3) := by decide +kernel
theorem dX3_firstThatMends_15 : decode cX3_firstThatMends 15 = .ok (.istore_n 3, 1) := by decide +kernel
theorem dX3_firstThatMends_16 : decode cX3_firstThatMends 16 = .ok (.iload_n 1, 1) := by decide +kernel
theorem dX3_firstThatMends_17 : decode cX3_firstThatMends 17 = .ok (.istore 4, 2) := by decide +kernel
theorem dX3_firstThatMends_19 : decode cX3_firstThatMends 19 = .ok (.iload 4, 2) := by decide +kernel
theorem dX3_firstThatMends_21 : decode cX3_firstThatMends 21 = .ok (.aload_n 0, 1) := by decide +kernel
theorem dX3_firstThatMends_22 : decode cX3_firstThatMends 22 = .ok (.getfield 12, 3) := by decide +kernel
theorem dX3_firstThatMends_25 : decode cX3_firstThatMends 25 = .ok (.invokevirtual 43, 3) := by decide +kernel
theorem dX3_firstThatMends_28 : decode cX3_firstThatMends 28 = .ok (.if_icmp .ge 61, 3) := by decide +kernel
theorem dX3_firstThatMends_31 : decode cX3_firstThatMends 31 = .ok (.aload_n 0, 1) := by decide +kernel
theorem dX3_firstThatMends_32 : decode cX3_firstThatMends 32 = .ok (.getfield 12, 3) := by decide +kernel
theorem dX3_firstThatMends_35 : decode cX3_firstThatMends 35 = .ok (.iload 4, 2) := by decide +kernel
theorem dX3_firstThatMends_37 : decode cX3_firstThatMends 37 = .ok (.iload_n 2, 1) := by decide +kernel
theorem dX3_firstThatMends_38 : decode cX3_firstThatMends 38 = .ok (.iload_n 3, 1) := by decide +kernel
theorem dX3_firstThatMends_39 : decode cX3_firstThatMends 39 = .ok (.invokevirtual 57, 3) := by decide +kernel
theorem dX3_firstThatMends_42 : decode cX3_firstThatMends 42 = .ok (.ifCond .ne 6, 3) := by decide +kernel
theorem dX3_firstThatMends_45 : decode cX3_firstThatMends 45 = .ok (.goto 38, 3) := by decide +kernel
theorem dX3_firstThatMends_48 : decode cX3_firstThatMends 48 = .ok (.aload_n 0, 1) := by decide +kernel
theorem dX3_firstThatMends_49 : decode cX3_firstThatMends 49 = .ok (.getfield 12, 3) := by decide +kernel
theorem dX3_firstThatMends_52 : decode cX3_firstThatMends 52 = .ok (.iload 4, 2) := by decide +kernel
theorem dX3_firstThatMends_54 : decode cX3_firstThatMends 54 = .ok (.invokevirtual 47, 3) := by decide +kernel
theorem dX3_firstThatMends_57 : decode cX3_firstThatMends 57 = .ok (.aload_n 0, 1) := by decide +kernel
theorem dX3_firstThatMends_58 : decode cX3_firstThatMends 58 = .ok (.getfield 12, 3) := by decide +kernel
theorem dX3_firstThatMends_61 : decode cX3_firstThatMends 61 = .ok (.invokevirtual 32, 3) := by decide +kernel
theorem dX3_firstThatMends_64 : decode cX3_firstThatMends 64 = .ok (.istore 5, 2) := by decide +kernel
theorem dX3_firstThatMends_66 : decode cX3_firstThatMends 66 = .ok (.aload_n 0, 1) := by decide +kernel
theorem dX3_firstThatMends_67 : decode cX3_firstThatMends 67 = .ok (.getfield 12, 3) := by decide +kernel
theorem dX3_firstThatMends_70 : decode cX3_firstThatMends 70 = .ok (.iload 4, 2) := by decide +kernel
theorem dX3_firstThatMends_72 : decode cX3_firstThatMends 72 = .ok (.invokevirtual 47, 3) := by decide +kernel
theorem dX3_firstThatMends_75 : decode cX3_firstThatMends 75 = .ok (.iload 5, 2) := by decide +kernel
theorem dX3_firstThatMends_77 : decode cX3_firstThatMends 77 = .ok (.ifCond .eq 6, 3) := by decide +kernel
theorem dX3_firstThatMends_80 : decode cX3_firstThatMends 80 = .ok (.iload 4, 2) := by decide +kernel
theorem dX3_firstThatMends_82 : decode cX3_firstThatMends 82 = .ok (.ireturn, 1) := by decide +kernel
theorem dX3_firstThatMends_83 : decode cX3_firstThatMends 83 = .ok (.iinc 4 1, 3) := by decide +kernel
theorem dX3_firstThatMends_86 : decode cX3_firstThatMends 86 = .ok (.goto (-67), 3) := by decide +kernel
theorem dX3_firstThatMends_89 : decode cX3_firstThatMends 89 = .ok (.bipush (-9), 2) := by decide +kernel
theorem dX3_firstThatMends_91 : decode cX3_firstThatMends 91 = .ok (.ireturn, 1) := by decide +kernel
theorem dX4_init_0 : decode cX4_init 0 = .ok (.aload_n 0, 1) := by decide +kernel
theorem dX4_init_1 : decode cX4_init 1 = .ok (.invokespecial 3, 3) := by decide +kernel
theorem dX4_init_4 : decode cX4_init 4 = .ok (.aload_n 0, 1) := by decide +kernel
theorem dX4_init_5 : decode cX4_init 5 = .ok (.bipush 8, 2) := by decide +kernel
theorem dX4_init_7 : decode cX4_init 7 = .ok (.newarray .int, 2) := by decide +kernel
theorem dX4_init_9 : decode cX4_init 9 = .ok (.putfield 9, 3) := by decide +kernel
theorem dX4_init_12 : decode cX4_init 12 = .ok (.aload_n 0, 1) := by decide +kernel
theorem dX4_init_13 : decode cX4_init 13 = .ok (.bipush 8, 2) := by decide +kernel
theorem dX4_init_15 : decode cX4_init 15 = .ok (.newarray .int, 2) := by decide +kernel
theorem dX4_init_17 : decode cX4_init 17 = .ok (.putfield 15, 3) := by decide +kernel
theorem dX4_init_20 : decode cX4_init 20 = .ok (.aload_n 0, 1) := by decide +kernel
theorem dX4_init_21 : decode cX4_init 21 = .ok (.bipush 8, 2) := by decide +kernel
theorem dX4_init_23 : decode cX4_init 23 = .ok (.newarray .boolean, 2) := by decide +kernel
theorem dX4_init_25 : decode cX4_init 25 = .ok (.putfield 18, 3) := by decide +kernel
theorem dX4_init_28 : decode cX4_init 28 = .ok (.return_, 1) := by decide +kernel
theorem dX4_note_0 : decode cX4_note 0 = .ok (.aload_n 0, 1) := by decide +kernel
theorem dX4_note_1 : decode cX4_note 1 = .ok (.getfield 22, 3) := by decide +kernel
theorem dX4_note_4 : decode cX4_note 4 = .ok (.ifCond .lt 12, 3) := by decide +kernel
theorem dX4_note_7 : decode cX4_note 7 = .ok (.aload_n 0, 1) := by decide +kernel
theorem dX4_note_8 : decode cX4_note 8 = .ok (.getfield 22, 3) := by decide +kernel
theorem dX4_note_11 : decode cX4_note 11 = .ok (.bipush 8, 2) := by decide +kernel
theorem dX4_note_13 : decode cX4_note 13 = .ok (.if_icmp .lt 5, 3) := by decide +kernel
theorem dX4_note_16 : decode cX4_note 16 = .ok (.iconst 0, 1) := by decide +kernel
theorem dX4_note_17 : decode cX4_note 17 = .ok (.ireturn, 1) := by decide +kernel
theorem dX4_note_18 : decode cX4_note 18 = .ok (.aload_n 0, 1) := by decide +kernel
theorem dX4_note_19 : decode cX4_note 19 = .ok (.getfield 9, 3) := by decide +kernel
theorem dX4_note_22 : decode cX4_note 22 = .ok (.aload_n 0, 1) := by decide +kernel
theorem dX4_note_23 : decode cX4_note 23 = .ok (.getfield 22, 3) := by decide +kernel
theorem dX4_note_26 : decode cX4_note 26 = .ok (.iload_n 1, 1) := by decide +kernel
theorem dX4_note_27 : decode cX4_note 27 = .ok (.iastore, 1) := by decide +kernel
theorem dX4_note_28 : decode cX4_note 28 = .ok (.aload_n 0, 1) := by decide +kernel
theorem dX4_note_29 : decode cX4_note 29 = .ok (.getfield 15, 3) := by decide +kernel
theorem dX4_note_32 : decode cX4_note 32 = .ok (.aload_n 0, 1) := by decide +kernel
theorem dX4_note_33 : decode cX4_note 33 = .ok (.getfield 22, 3) := by decide +kernel
theorem dX4_note_36 : decode cX4_note 36 = .ok (.iload_n 2, 1) := by decide +kernel
theorem dX4_note_37 : decode cX4_note 37 = .ok (.iastore, 1) := by decide +kernel
theorem dX4_note_38 : decode cX4_note 38 = .ok (.aload_n 0, 1) := by decide +kernel
theorem dX4_note_39 : decode cX4_note 39 = .ok (.getfield 18, 3) := by decide +kernel
theorem dX4_note_42 : decode cX4_note 42 = .ok (.aload_n 0, 1) := by decide +kernel
theorem dX4_note_43 : decode cX4_note 43 = .ok (.getfield 22, 3) := by decide +kernel
theorem dX4_note_46 : decode cX4_note 46 = .ok (.iload_n 3, 1) := by decide +kernel
theorem dX4_note_47 : decode cX4_note 47 = .ok (.bastore, 1) := by decide +kernel
theorem dX4_note_48 : decode cX4_note 48 = .ok (.aload_n 0, 1) := by decide +kernel
theorem dX4_note_49 : decode cX4_note 49 = .ok (.dup, 1) := by decide +kernel
theorem dX4_note_50 : decode cX4_note 50 = .ok (.getfield 22, 3) := by decide +kernel
theorem dX4_note_53 : decode cX4_note 53 = .ok (.iconst 1, 1) := by decide +kernel
theorem dX4_note_54 : decode cX4_note 54 = .ok (.iadd, 1) := by decide +kernel
theorem dX4_note_55 : decode cX4_note 55 = .ok (.putfield 22, 3) := by decide +kernel
theorem dX4_note_58 : decode cX4_note 58 = .ok (.iconst 1, 1) := by decide +kernel
theorem dX4_note_59 : decode cX4_note 59 = .ok (.ireturn, 1) := by decide +kernel
theorem dX4_empty_0 : decode cX4_empty 0 = .ok (.aload_n 0, 1) := by decide +kernel
theorem dX4_empty_1 : decode cX4_empty 1 = .ok (.getfield 22, 3) := by decide +kernel
theorem dX4_empty_4 : decode cX4_empty 4 = .ok (.istore_n 1, 1) := by decide +kernel
theorem dX4_empty_5 : decode cX4_empty 5 = .ok (.aload_n 0, 1) := by decide +kernel
theorem dX4_empty_6 : decode cX4_empty 6 = .ok (.iconst 0, 1) := by decide +kernel
theorem dX4_empty_7 : decode cX4_empty 7 = .ok (.putfield 22, 3) := by decide +kernel
theorem dX4_empty_10 : decode cX4_empty 10 = .ok (.iload_n 1, 1) := by decide +kernel
theorem dX4_empty_11 : decode cX4_empty 11 = .ok (.ireturn, 1) := by decide +kernel
set_option maxRecDepth 20000 in
theorem ggX4_howManySuspects_X4_suspectBits : GoodIn wsX4_howManySuspects wsX4_suspectBits := goodIn_r _ [5, 6, 7, 8, 9, 10, 11, 12, 13, 14, 15, 4, 16, 17, 18, 19, 20, 21, 22, 23, 24, 25, 26, 27, 28, 29, 30, 31, 32, 33, 34, 35, 36, 37, 38, 39, 40, 41, 42, 43, 44, 45, 46, 47, 48, 49, 50, 58, 59, 60, 61, 62, 63, 64, 65, 66, 67] (by decide +kernel) (by decide +kernel)
set_option maxRecDepth 20000 in
theorem gX4_howManySuspects_X4_suspectBits : GoodIn wsX4_howManySuspects (wsV RX4 26 RX4 yX4_suspectBits wsX4_suspectBits) := goodIn_app (goodIn_of _ (by decide +kernel)) ggX4_howManySuspects_X4_suspectBits
set_option maxRecDepth 20000 in
theorem ggX4_howManySuspects_J13_bitCount_95d88 : GoodIn wsX4_howManySuspects wsJ13_bitCount_95d88 := goodIn_r _ [54, 55, 56, 57] (by decide +kernel) (by decide +kernel)
set_option maxRecDepth 20000 in
theorem gX4_howManySuspects_J13_bitCount_95d88 : GoodIn wsX4_howManySuspects (va_wsS RX4 30 yJ13_bitCount_95d88 wsJ13_bitCount_95d88) := goodIn_app (goodIn_of _ (by decide +kernel)) ggX4_howManySuspects_J13_bitCount_95d88
theorem dX4_howManySuspects_0 : decode cX4_howManySuspects 0 = .ok (.aload_n 0, 1) := by decide +kernel
theorem dX4_howManySuspects_1 : decode cX4_howManySuspects 1 = .ok (.aload_n 1, 1) := by decide +kernel
theorem dX4_howManySuspects_2 : decode cX4_howManySuspects 2 = .ok (.invokevirtual 26, 3) := by decide +kernel
theorem dX4_howManySuspects_5 : decode cX4_howManySuspects 5 = .ok (.invokestatic 30, 3) := by decide +kernel
theorem dX4_howManySuspects_8 : decode cX4_howManySuspects 8 = .ok (.ireturn, 1) := by decide +kernel
set_option maxRecDepth 20000 in
theorem ggX4_firstSuspect_X2_places : GoodIn wsX4_firstSuspect wsX2_places := goodIn_r _ [5, 6, 7, 44, 45, 46, 47, 48, 49] (by decide +kernel) (by decide +kernel)
set_option maxRecDepth 20000 in
theorem gX4_firstSuspect_X2_places : GoodIn wsX4_firstSuspect (wsV RX4 36 RX2 yX2_places wsX2_places) := goodIn_app (goodIn_of _ (by decide +kernel)) ggX4_firstSuspect_X2_places
set_option maxRecDepth 20000 in
theorem ggX4_firstSuspect_X4_isSuspect : GoodIn wsX4_firstSuspect wsX4_isSuspect := goodIn_r _ [12, 13, 14, 15, 16, 17, 18, 19, 4, 20, 21, 22, 23, 11, 24, 25, 26, 27, 28, 7, 29, 30, 31, 32, 33, 34, 35, 36, 37, 38, 6, 39, 40, 41, 42, 43, 50, 51, 52, 53, 44, 45, 46, 47, 48, 49] (by decide +kernel) (by decide +kernel)
set_option maxRecDepth 20000 in
theorem gX4_firstSuspect_X4_isSuspect : GoodIn wsX4_firstSuspect (wsV RX4 42 RX4 yX4_isSuspect wsX4_isSuspect) := goodIn_app (goodIn_of _ (by decide +kernel)) ggX4_firstSuspect_X4_isSuspect
theorem dX4_firstSuspect_0 : decode cX4_firstSuspect 0 = .ok (.iconst (-1), 1) := by decide +kernel
theorem dX4_firstSuspect_1 : decode cX4_firstSuspect 1 = .ok (.istore_n 2, 1) := by decide +kernel
theorem dX4_firstSuspect_2 : decode cX4_firstSuspect 2 = .ok (.iload_n 2, 1) := by decide +kernel
theorem dX4_firstSuspect_3 : decode cX4_firstSuspect 3 = .ok (.aload_n 1, 1) := by decide +kernel
theorem dX4_firstSuspect_4 : decode cX4_firstSuspect 4 = .ok (.invokevirtual 36, 3) := by decide +kernel
theorem dX4_firstSuspect_7 : decode cX4_firstSuspect 7 = .ok (.if_icmp .ge 20, 3) := by decide +kernel
theorem dX4_firstSuspect_10 : decode cX4_firstSuspect 10 = .ok (.aload_n 0, 1) := by decide +kernel
theorem dX4_firstSuspect_11 : decode cX4_firstSuspect 11 = .ok (.aload_n 1, 1) := by decide +kernel
theorem dX4_firstSuspect_12 : decode cX4_firstSuspect 12 = .ok (.iload_n 2, 1) := by decide +kernel
theorem dX4_firstSuspect_13 : decode cX4_firstSuspect 13 = .ok (.invokevirtual 42, 3) := by decide +kernel
theorem dX4_firstSuspect_16 : decode cX4_firstSuspect 16 = .ok (.ifCond .eq 5, 3) := by decide +kernel
theorem dX4_firstSuspect_19 : decode cX4_firstSuspect 19 = .ok (.iload_n 2, 1) := by decide +kernel
theorem dX4_firstSuspect_20 : decode cX4_firstSuspect 20 = .ok (.ireturn, 1) := by decide +kernel
theorem dX4_firstSuspect_21 : decode cX4_firstSuspect 21 = .ok (.iinc 2 1, 3) := by decide +kernel
theorem dX4_firstSuspect_24 : decode cX4_firstSuspect 24 = .ok (.goto (-22), 3) := by decide +kernel
theorem dX4_firstSuspect_27 : decode cX4_firstSuspect 27 = .ok (.bipush (-9), 2) := by decide +kernel
theorem dX4_firstSuspect_29 : decode cX4_firstSuspect 29 = .ok (.ireturn, 1) := by decide +kernel
set_option maxRecDepth 20000 in
theorem ggX4_whereToLook_X4_suspectBits : GoodIn wsX4_whereToLook wsX4_suspectBits := goodIn_r _ [11, 12, 13, 14, 15, 16, 17, 18, 19, 20, 21, 10, 22, 23, 24, 25, 26, 27, 28, 29, 30, 31, 32, 33, 34, 35, 36, 37, 38, 39, 40, 41, 42, 43, 44, 45, 46, 47, 48, 49, 50, 51, 52, 53, 54, 55, 56, 67, 68, 69, 70, 71, 72, 73, 74, 75, 76] (by decide +kernel) (by decide +kernel)
set_option maxRecDepth 20000 in
theorem gX4_whereToLook_X4_suspectBits : GoodIn wsX4_whereToLook (wsV RX4 26 RX4 yX4_suspectBits wsX4_suspectBits) := goodIn_app (goodIn_of _ (by decide +kernel)) ggX4_whereToLook_X4_suspectBits
set_option maxRecDepth 20000 in
theorem ggX4_whereToLook_J13_bitCount_95d88 : GoodIn wsX4_whereToLook wsJ13_bitCount_95d88 := goodIn_r _ [60, 61, 62, 63] (by decide +kernel) (by decide +kernel)
set_option maxRecDepth 20000 in
theorem gX4_whereToLook_J13_bitCount_95d88 : GoodIn wsX4_whereToLook (va_wsS RX4 30 yJ13_bitCount_95d88 wsJ13_bitCount_95d88) := goodIn_app (goodIn_of _ (by decide +kernel)) ggX4_whereToLook_J13_bitCount_95d88
set_option maxRecDepth 20000 in
theorem ggX4_whereToLook_X4_howManySayUp : GoodIn wsX4_whereToLook wsX4_howManySayUp := goodIn_r _ [66, 12, 13, 14, 15, 16, 17, 18, 54, 55, 10, 56, 32, 33, 34, 35, 36, 37, 38, 39, 40, 41, 42, 43, 44, 28, 29, 30, 31, 45, 46, 47, 48, 49, 50, 51, 52, 53, 67, 68, 69, 70, 71, 72] (by decide +kernel) (by decide +kernel)
set_option maxRecDepth 20000 in
theorem gX4_whereToLook_X4_howManySayUp : GoodIn wsX4_whereToLook (va_wsS RX4 51 yX4_howManySayUp wsX4_howManySayUp) := goodIn_app (goodIn_of _ (by decide +kernel)) ggX4_whereToLook_X4_howManySayUp
theorem dX4_whereToLook_0 : decode cX4_whereToLook 0 = .ok (.aload_n 0, 1) := by decide +kernel
theorem dX4_whereToLook_1 : decode cX4_whereToLook 1 = .ok (.aload_n 1, 1) := by decide +kernel
theorem dX4_whereToLook_2 : decode cX4_whereToLook 2 = .ok (.invokevirtual 26, 3) := by decide +kernel
theorem dX4_whereToLook_5 : decode cX4_whereToLook 5 = .ok (.lstore_n 2, 1) := by decide +kernel
theorem dX4_whereToLook_6 : decode cX4_whereToLook 6 = .ok (.lload_n 2, 1) := by decide +kernel
theorem dX4_whereToLook_7 : decode cX4_whereToLook 7 = .ok (.invokestatic 30, 3) := by decide +kernel
theorem dX4_whereToLook_10 : decode cX4_whereToLook 10 = .ok (.istore 4, 2) := by decide +kernel
theorem dX4_whereToLook_12 : decode cX4_whereToLook 12 = .ok (.iload 4, 2) := by decide +kernel
theorem dX4_whereToLook_14 : decode cX4_whereToLook 14 = .ok (.iconst 1, 1) := by decide +kernel
theorem dX4_whereToLook_15 : decode cX4_whereToLook 15 = .ok (.if_icmp .gt 6, 3) := by decide +kernel
theorem dX4_whereToLook_18 : decode cX4_whereToLook 18 = .ok (.bipush (-9), 2) := by decide +kernel
theorem dX4_whereToLook_20 : decode cX4_whereToLook 20 = .ok (.ireturn, 1) := by decide +kernel
theorem dX4_whereToLook_21 : decode cX4_whereToLook 21 = .ok (.bipush (-9), 2) := by decide +kernel
theorem dX4_whereToLook_23 : decode cX4_whereToLook 23 = .ok (.istore 5, 2) := by decide +kernel
theorem dX4_whereToLook_25 : decode cX4_whereToLook 25 = .ok (.iload 4, 2) := by decide +kernel
theorem dX4_whereToLook_27 : decode cX4_whereToLook 27 = .ok (.iconst 1, 1) := by decide +kernel
theorem dX4_whereToLook_28 : decode cX4_whereToLook 28 = .ok (.iadd, 1) := by decide +kernel
theorem dX4_whereToLook_29 : decode cX4_whereToLook 29 = .ok (.istore 6, 2) := by decide +kernel
theorem dX4_whereToLook_31 : decode cX4_whereToLook 31 = .ok (.iconst 0, 1) := by decide +kernel
theorem dX4_whereToLook_32 : decode cX4_whereToLook 32 = .ok (.istore 7, 2) := by decide +kernel
theorem dX4_whereToLook_34 : decode cX4_whereToLook 34 = .ok (.iload 7, 2) := by decide +kernel
theorem dX4_whereToLook_36 : decode cX4_whereToLook 36 = .ok (.aload_n 1, 1) := by decide +kernel
theorem dX4_whereToLook_37 : decode cX4_whereToLook 37 = .ok (.getfield 46, 3) := by decide +kernel
theorem dX4_whereToLook_40 : decode cX4_whereToLook 40 = .ok (.if_icmp .ge 71, 3) := by decide +kernel
theorem dX4_whereToLook_43 : decode cX4_whereToLook 43 = .ok (.iconst 0, 1) := by decide +kernel
theorem dX4_whereToLook_44 : decode cX4_whereToLook 44 = .ok (.istore 8, 2) := by decide +kernel
theorem dX4_whereToLook_46 : decode cX4_whereToLook 46 = .ok (.iload 8, 2) := by decide +kernel
theorem dX4_whereToLook_48 : decode cX4_whereToLook 48 = .ok (.aload_n 1, 1) := by decide +kernel
theorem dX4_whereToLook_49 : decode cX4_whereToLook 49 = .ok (.getfield 49, 3) := by decide +kernel
theorem dX4_whereToLook_52 : decode cX4_whereToLook 52 = .ok (.if_icmp .ge 53, 3) := by decide +kernel
theorem dX4_whereToLook_55 : decode cX4_whereToLook 55 = .ok (.aload_n 1, 1) := by decide +kernel
theorem dX4_whereToLook_56 : decode cX4_whereToLook 56 = .ok (.lload_n 2, 1) := by decide +kernel
theorem dX4_whereToLook_57 : decode cX4_whereToLook 57 = .ok (.iload 7, 2) := by decide +kernel
theorem dX4_whereToLook_59 : decode cX4_whereToLook 59 = .ok (.iload 8, 2) := by decide +kernel
theorem dX4_whereToLook_61 : decode cX4_whereToLook 61 = .ok (.invokestatic 51, 3) := by decide +kernel
theorem dX4_whereToLook_64 : decode cX4_whereToLook 64 = .ok (.istore 9, 2) := by decide +kernel
theorem dX4_whereToLook_66 : decode cX4_whereToLook 66 = .ok (.iload 9, 2) := by decide +kernel
theorem dX4_whereToLook_68 : decode cX4_whereToLook 68 = .ok (.iload 4, 2) := by decide +kernel
theorem dX4_whereToLook_70 : decode cX4_whereToLook 70 = .ok (.iload 9, 2) := by decide +kernel
theorem dX4_whereToLook_72 : decode cX4_whereToLook 72 = .ok (.isub, 1) := by decide +kernel
theorem dX4_whereToLook_73 : decode cX4_whereToLook 73 = .ok (.invokestatic 55, 3) := by decide +kernel
theorem dX4_whereToLook_76 : decode cX4_whereToLook 76 = .ok (.istore 10, 2) := by decide +kernel
theorem dX4_whereToLook_78 : decode cX4_whereToLook 78 = .ok (.iload 10, 2) := by decide +kernel
theorem dX4_whereToLook_80 : decode cX4_whereToLook 80 = .ok (.iload 6, 2) := by decide +kernel
theorem dX4_whereToLook_82 : decode cX4_whereToLook 82 = .ok (.if_icmp .ge 17, 3) := by decide +kernel
theorem dX4_whereToLook_85 : decode cX4_whereToLook 85 = .ok (.iload 10, 2) := by decide +kernel
theorem dX4_whereToLook_87 : decode cX4_whereToLook 87 = .ok (.istore 6, 2) := by decide +kernel
theorem dX4_whereToLook_89 : decode cX4_whereToLook 89 = .ok (.bipush 12, 2) := by decide +kernel
theorem dX4_whereToLook_91 : decode cX4_whereToLook 91 = .ok (.iload 7, 2) := by decide +kernel
theorem dX4_whereToLook_93 : decode cX4_whereToLook 93 = .ok (.imul, 1) := by decide +kernel
theorem dX4_whereToLook_94 : decode cX4_whereToLook 94 = .ok (.iload 8, 2) := by decide +kernel
theorem dX4_whereToLook_96 : decode cX4_whereToLook 96 = .ok (.iadd, 1) := by decide +kernel
theorem dX4_whereToLook_97 : decode cX4_whereToLook 97 = .ok (.istore 5, 2) := by decide +kernel
theorem dX4_whereToLook_99 : decode cX4_whereToLook 99 = .ok (.iinc 8 1, 3) := by decide +kernel
theorem dX4_whereToLook_102 : decode cX4_whereToLook 102 = .ok (.goto (-56), 3) := by decide +kernel
theorem dX4_whereToLook_105 : decode cX4_whereToLook 105 = .ok (.iinc 7 1, 3) := by decide +kernel
theorem dX4_whereToLook_108 : decode cX4_whereToLook 108 = .ok (.goto (-74), 3) := by decide +kernel
theorem dX4_whereToLook_111 : decode cX4_whereToLook 111 = .ok (.iload 5, 2) := by decide +kernel
theorem dX4_whereToLook_113 : decode cX4_whereToLook 113 = .ok (.ireturn, 1) := by decide +kernel
set_option maxRecDepth 20000 in
theorem ggX4_howManySayUp_X2_places : GoodIn wsX4_howManySayUp wsX2_places := goodIn_r _ [5, 6, 7, 38, 39, 40, 41, 42, 43] (by decide +kernel) (by decide +kernel)
set_option maxRecDepth 20000 in
theorem gX4_howManySayUp_X2_places : GoodIn wsX4_howManySayUp (wsV RX4 36 RX2 yX2_places wsX2_places) := goodIn_app (goodIn_of _ (by decide +kernel)) ggX4_howManySayUp_X2_places
set_option maxRecDepth 20000 in
theorem ggX4_howManySayUp_X4_bitOf : GoodIn wsX4_howManySayUp wsX4_bitOf := goodIn_r _ [11] (by decide +kernel) (by decide +kernel)
set_option maxRecDepth 20000 in
theorem gX4_howManySayUp_X4_bitOf : GoodIn wsX4_howManySayUp (va_wsS RX4 61 yX4_bitOf wsX4_bitOf) := goodIn_app (goodIn_of _ (by decide +kernel)) ggX4_howManySayUp_X4_bitOf
set_option maxRecDepth 20000 in
theorem ggX4_howManySayUp_X4_isUpBy : GoodIn wsX4_howManySayUp wsX4_isUpBy := goodIn_r _ [14, 15, 16, 17, 4, 18, 7, 19, 20, 21, 22, 23, 24, 25, 26, 27, 28, 29, 30, 31, 32, 6, 33, 34, 35, 36, 37, 38, 39, 40, 41, 42, 43] (by decide +kernel) (by decide +kernel)
set_option maxRecDepth 20000 in
theorem gX4_howManySayUp_X4_isUpBy : GoodIn wsX4_howManySayUp (va_wsS RX4 65 yX4_isUpBy wsX4_isUpBy) := goodIn_app (goodIn_of _ (by decide +kernel)) ggX4_howManySayUp_X4_isUpBy
theorem dX4_howManySayUp_0 : decode cX4_howManySayUp 0 = .ok (.iconst 0, 1) := by decide +kernel
theorem dX4_howManySayUp_1 : decode cX4_howManySayUp 1 = .ok (.istore 5, 2) := by decide +kernel
theorem dX4_howManySayUp_3 : decode cX4_howManySayUp 3 = .ok (.iconst (-1), 1) := by decide +kernel
theorem dX4_howManySayUp_4 : decode cX4_howManySayUp 4 = .ok (.istore 6, 2) := by decide +kernel
theorem dX4_howManySayUp_6 : decode cX4_howManySayUp 6 = .ok (.iload 6, 2) := by decide +kernel
theorem dX4_howManySayUp_8 : decode cX4_howManySayUp 8 = .ok (.aload_n 0, 1) := by decide +kernel
theorem dX4_howManySayUp_9 : decode cX4_howManySayUp 9 = .ok (.invokevirtual 36, 3) := by decide +kernel
theorem dX4_howManySayUp_12 : decode cX4_howManySayUp 12 = .ok (.if_icmp .ge 55, 3) := by decide +kernel
theorem dX4_howManySayUp_15 : decode cX4_howManySayUp 15 = .ok (.lload_n 1, 1) := by decide +kernel
theorem dX4_howManySayUp_16 : decode cX4_howManySayUp 16 = .ok (.iload 6, 2) := by decide +kernel
theorem dX4_howManySayUp_18 : decode cX4_howManySayUp 18 = .ok (.invokestatic 61, 3) := by decide +kernel
theorem dX4_howManySayUp_21 : decode cX4_howManySayUp 21 = .ok (.land, 1) := by decide +kernel
theorem dX4_howManySayUp_22 : decode cX4_howManySayUp 22 = .ok (.lconst 0, 1) := by decide +kernel
theorem dX4_howManySayUp_23 : decode cX4_howManySayUp 23 = .ok (.lcmp, 1) := by decide +kernel
theorem dX4_howManySayUp_24 : decode cX4_howManySayUp 24 = .ok (.ifCond .eq 7, 3) := by decide +kernel
theorem dX4_howManySayUp_27 : decode cX4_howManySayUp 27 = .ok (.iconst 1, 1) := by decide +kernel
theorem dX4_howManySayUp_28 : decode cX4_howManySayUp 28 = .ok (.goto 4, 3) := by decide +kernel
theorem dX4_howManySayUp_31 : decode cX4_howManySayUp 31 = .ok (.iconst 0, 1) := by decide +kernel
theorem dX4_howManySayUp_32 : decode cX4_howManySayUp 32 = .ok (.istore 7, 2) := by decide +kernel
theorem dX4_howManySayUp_34 : decode cX4_howManySayUp 34 = .ok (.iload 5, 2) := by decide +kernel
theorem dX4_howManySayUp_36 : decode cX4_howManySayUp 36 = .ok (.iload 7, 2) := by decide +kernel
theorem dX4_howManySayUp_38 : decode cX4_howManySayUp 38 = .ok (.ifCond .eq 19, 3) := by decide +kernel
theorem dX4_howManySayUp_41 : decode cX4_howManySayUp 41 = .ok (.aload_n 0, 1) := by decide +kernel
theorem dX4_howManySayUp_42 : decode cX4_howManySayUp 42 = .ok (.iload 6, 2) := by decide +kernel
theorem dX4_howManySayUp_44 : decode cX4_howManySayUp 44 = .ok (.iload_n 3, 1) := by decide +kernel
theorem dX4_howManySayUp_45 : decode cX4_howManySayUp 45 = .ok (.iload 4, 2) := by decide +kernel
theorem dX4_howManySayUp_47 : decode cX4_howManySayUp 47 = .ok (.invokestatic 65, 3) := by decide +kernel
theorem dX4_howManySayUp_50 : decode cX4_howManySayUp 50 = .ok (.ifCond .eq 7, 3) := by decide +kernel
theorem dX4_howManySayUp_53 : decode cX4_howManySayUp 53 = .ok (.iconst 1, 1) := by decide +kernel
theorem dX4_howManySayUp_54 : decode cX4_howManySayUp 54 = .ok (.goto 4, 3) := by decide +kernel
theorem dX4_howManySayUp_57 : decode cX4_howManySayUp 57 = .ok (.iconst 0, 1) := by decide +kernel
theorem dX4_howManySayUp_58 : decode cX4_howManySayUp 58 = .ok (.iadd, 1) := by decide +kernel
theorem dX4_howManySayUp_59 : decode cX4_howManySayUp 59 = .ok (.istore 5, 2) := by decide +kernel
theorem dX4_howManySayUp_61 : decode cX4_howManySayUp 61 = .ok (.iinc 6 1, 3) := by decide +kernel
theorem dX4_howManySayUp_64 : decode cX4_howManySayUp 64 = .ok (.goto (-58), 3) := by decide +kernel
theorem dX4_howManySayUp_67 : decode cX4_howManySayUp 67 = .ok (.iload 5, 2) := by decide +kernel
theorem dX4_howManySayUp_69 : decode cX4_howManySayUp 69 = .ok (.ireturn, 1) := by decide +kernel
set_option maxRecDepth 20000 in
theorem ggX4_suspectBits_X2_places : GoodIn wsX4_suspectBits wsX2_places := goodIn_r _ [5, 6, 7, 47, 48, 49, 50, 51, 52] (by decide +kernel) (by decide +kernel)
set_option maxRecDepth 20000 in
theorem gX4_suspectBits_X2_places : GoodIn wsX4_suspectBits (wsV RX4 36 RX2 yX2_places wsX2_places) := goodIn_app (goodIn_of _ (by decide +kernel)) ggX4_suspectBits_X2_places
set_option maxRecDepth 20000 in
theorem ggX4_suspectBits_X4_isSuspect : GoodIn wsX4_suspectBits wsX4_isSuspect := goodIn_r _ [12, 13, 14, 15, 16, 17, 18, 19, 4, 20, 21, 22, 23, 11, 24, 25, 26, 27, 28, 7, 29, 30, 31, 32, 33, 34, 35, 36, 37, 38, 6, 39, 40, 41, 42, 43, 53, 54, 55, 56, 47, 48, 49, 50, 51, 52] (by decide +kernel) (by decide +kernel)
set_option maxRecDepth 20000 in
theorem gX4_suspectBits_X4_isSuspect : GoodIn wsX4_suspectBits (wsV RX4 42 RX4 yX4_isSuspect wsX4_isSuspect) := goodIn_app (goodIn_of _ (by decide +kernel)) ggX4_suspectBits_X4_isSuspect
set_option maxRecDepth 20000 in
theorem ggX4_suspectBits_X4_bitOf : GoodIn wsX4_suspectBits wsX4_bitOf := goodIn_r _ [46] (by decide +kernel) (by decide +kernel)
set_option maxRecDepth 20000 in
theorem gX4_suspectBits_X4_bitOf : GoodIn wsX4_suspectBits (va_wsS RX4 61 yX4_bitOf wsX4_bitOf) := goodIn_app (goodIn_of _ (by decide +kernel)) ggX4_suspectBits_X4_bitOf
theorem dX4_suspectBits_0 : decode cX4_suspectBits 0 = .ok (.lconst 0, 1) := by decide +kernel
theorem dX4_suspectBits_1 : decode cX4_suspectBits 1 = .ok (.lstore_n 2, 1) := by decide +kernel
theorem dX4_suspectBits_2 : decode cX4_suspectBits 2 = .ok (.iconst (-1), 1) := by decide +kernel
theorem dX4_suspectBits_3 : decode cX4_suspectBits 3 = .ok (.istore 4, 2) := by decide +kernel
theorem dX4_suspectBits_5 : decode cX4_suspectBits 5 = .ok (.iload 4, 2) := by decide +kernel
theorem dX4_suspectBits_7 : decode cX4_suspectBits 7 = .ok (.aload_n 1, 1) := by decide +kernel
theorem dX4_suspectBits_8 : decode cX4_suspectBits 8 = .ok (.invokevirtual 36, 3) := by decide +kernel
theorem dX4_suspectBits_11 : decode cX4_suspectBits 11 = .ok (.if_icmp .ge 31, 3) := by decide +kernel
theorem dX4_suspectBits_14 : decode cX4_suspectBits 14 = .ok (.lload_n 2, 1) := by decide +kernel
theorem dX4_suspectBits_15 : decode cX4_suspectBits 15 = .ok (.aload_n 0, 1) := by decide +kernel
theorem dX4_suspectBits_16 : decode cX4_suspectBits 16 = .ok (.aload_n 1, 1) := by decide +kernel
theorem dX4_suspectBits_17 : decode cX4_suspectBits 17 = .ok (.iload 4, 2) := by decide +kernel
theorem dX4_suspectBits_19 : decode cX4_suspectBits 19 = .ok (.invokevirtual 42, 3) := by decide +kernel
theorem dX4_suspectBits_22 : decode cX4_suspectBits 22 = .ok (.ifCond .eq 11, 3) := by decide +kernel
theorem dX4_suspectBits_25 : decode cX4_suspectBits 25 = .ok (.iload 4, 2) := by decide +kernel
theorem dX4_suspectBits_27 : decode cX4_suspectBits 27 = .ok (.invokestatic 61, 3) := by decide +kernel
theorem dX4_suspectBits_30 : decode cX4_suspectBits 30 = .ok (.goto 4, 3) := by decide +kernel
theorem dX4_suspectBits_33 : decode cX4_suspectBits 33 = .ok (.lconst 0, 1) := by decide +kernel
theorem dX4_suspectBits_34 : decode cX4_suspectBits 34 = .ok (.lor, 1) := by decide +kernel
theorem dX4_suspectBits_35 : decode cX4_suspectBits 35 = .ok (.lstore_n 2, 1) := by decide +kernel
theorem dX4_suspectBits_36 : decode cX4_suspectBits 36 = .ok (.iinc 4 1, 3) := by decide +kernel
theorem dX4_suspectBits_39 : decode cX4_suspectBits 39 = .ok (.goto (-34), 3) := by decide +kernel
theorem dX4_suspectBits_42 : decode cX4_suspectBits 42 = .ok (.lload_n 2, 1) := by decide +kernel
theorem dX4_suspectBits_43 : decode cX4_suspectBits 43 = .ok (.lreturn, 1) := by decide +kernel
theorem dX4_bitOf_0 : decode cX4_bitOf 0 = .ok (.lconst 1, 1) := by decide +kernel
theorem dX4_bitOf_1 : decode cX4_bitOf 1 = .ok (.iload_n 0, 1) := by decide +kernel
theorem dX4_bitOf_2 : decode cX4_bitOf 2 = .ok (.iconst (-1), 1) := by decide +kernel
theorem dX4_bitOf_3 : decode cX4_bitOf 3 = .ok (.isub, 1) := by decide +kernel
theorem dX4_bitOf_4 : decode cX4_bitOf 4 = .ok (.lshl, 1) := by decide +kernel
theorem dX4_bitOf_5 : decode cX4_bitOf 5 = .ok (.lreturn, 1) := by decide +kernel
set_option maxRecDepth 20000 in
theorem ggX4_isSuspect_X2_hasEnd : GoodIn wsX4_isSuspect wsX2_hasEnd := goodIn_r _ [9, 10, 40, 41, 42, 43, 44, 45] (by decide +kernel) (by decide +kernel)
set_option maxRecDepth 20000 in
theorem gX4_isSuspect_X2_hasEnd : GoodIn wsX4_isSuspect (wsV RX4 69 RX2 yX2_hasEnd wsX2_hasEnd) := goodIn_app (goodIn_of _ (by decide +kernel)) ggX4_isSuspect_X2_hasEnd
set_option maxRecDepth 20000 in
theorem ggX4_isSuspect_X4_isUpBy : GoodIn wsX4_isSuspect wsX4_isUpBy := goodIn_r _ [14, 15, 16, 17, 8, 18, 19, 20, 21, 22, 23, 24, 25, 6, 7, 9, 10, 26, 27, 28, 29, 30, 31, 32, 33, 34, 35, 40, 41, 42, 43, 44, 45] (by decide +kernel) (by decide +kernel)
set_option maxRecDepth 20000 in
theorem gX4_isSuspect_X4_isUpBy : GoodIn wsX4_isSuspect (va_wsS RX4 65 yX4_isUpBy wsX4_isUpBy) := goodIn_app (goodIn_of _ (by decide +kernel)) ggX4_isSuspect_X4_isUpBy
theorem dX4_isSuspect_0 : decode cX4_isSuspect 0 = .ok (.iconst 0, 1) := by decide +kernel
theorem dX4_isSuspect_1 : decode cX4_isSuspect 1 = .ok (.istore_n 3, 1) := by decide +kernel
theorem dX4_isSuspect_2 : decode cX4_isSuspect 2 = .ok (.iload_n 3, 1) := by decide +kernel
theorem dX4_isSuspect_3 : decode cX4_isSuspect 3 = .ok (.aload_n 0, 1) := by decide +kernel
theorem dX4_isSuspect_4 : decode cX4_isSuspect 4 = .ok (.getfield 22, 3) := by decide +kernel
theorem dX4_isSuspect_7 : decode cX4_isSuspect 7 = .ok (.if_icmp .ge 56, 3) := by decide +kernel
theorem dX4_isSuspect_10 : decode cX4_isSuspect 10 = .ok (.iload_n 3, 1) := by decide +kernel
theorem dX4_isSuspect_11 : decode cX4_isSuspect 11 = .ok (.bipush 8, 2) := by decide +kernel
theorem dX4_isSuspect_13 : decode cX4_isSuspect 13 = .ok (.if_icmp .ge 50, 3) := by decide +kernel
theorem dX4_isSuspect_16 : decode cX4_isSuspect 16 = .ok (.aload_n 1, 1) := by decide +kernel
theorem dX4_isSuspect_17 : decode cX4_isSuspect 17 = .ok (.aload_n 0, 1) := by decide +kernel
theorem dX4_isSuspect_18 : decode cX4_isSuspect 18 = .ok (.getfield 15, 3) := by decide +kernel
theorem dX4_isSuspect_21 : decode cX4_isSuspect 21 = .ok (.iload_n 3, 1) := by decide +kernel
theorem dX4_isSuspect_22 : decode cX4_isSuspect 22 = .ok (.iaload, 1) := by decide +kernel
theorem dX4_isSuspect_23 : decode cX4_isSuspect 23 = .ok (.invokevirtual 69, 3) := by decide +kernel
theorem dX4_isSuspect_26 : decode cX4_isSuspect 26 = .ok (.ifCond .eq 29, 3) := by decide +kernel
theorem dX4_isSuspect_29 : decode cX4_isSuspect 29 = .ok (.aload_n 1, 1) := by decide +kernel
theorem dX4_isSuspect_30 : decode cX4_isSuspect 30 = .ok (.iload_n 2, 1) := by decide +kernel
theorem dX4_isSuspect_31 : decode cX4_isSuspect 31 = .ok (.aload_n 0, 1) := by decide +kernel
theorem dX4_isSuspect_32 : decode cX4_isSuspect 32 = .ok (.getfield 9, 3) := by decide +kernel
theorem dX4_isSuspect_35 : decode cX4_isSuspect 35 = .ok (.iload_n 3, 1) := by decide +kernel
theorem dX4_isSuspect_36 : decode cX4_isSuspect 36 = .ok (.iaload, 1) := by decide +kernel
theorem dX4_isSuspect_37 : decode cX4_isSuspect 37 = .ok (.aload_n 0, 1) := by decide +kernel
theorem dX4_isSuspect_38 : decode cX4_isSuspect 38 = .ok (.getfield 15, 3) := by decide +kernel
theorem dX4_isSuspect_41 : decode cX4_isSuspect 41 = .ok (.iload_n 3, 1) := by decide +kernel
theorem dX4_isSuspect_42 : decode cX4_isSuspect 42 = .ok (.iaload, 1) := by decide +kernel
theorem dX4_isSuspect_43 : decode cX4_isSuspect 43 = .ok (.invokestatic 65, 3) := by decide +kernel
theorem dX4_isSuspect_46 : decode cX4_isSuspect 46 = .ok (.aload_n 0, 1) := by decide +kernel
theorem dX4_isSuspect_47 : decode cX4_isSuspect 47 = .ok (.getfield 18, 3) := by decide +kernel
theorem dX4_isSuspect_50 : decode cX4_isSuspect 50 = .ok (.iload_n 3, 1) := by decide +kernel
theorem dX4_isSuspect_51 : decode cX4_isSuspect 51 = .ok (.baload, 1) := by decide +kernel
theorem dX4_isSuspect_52 : decode cX4_isSuspect 52 = .ok (.if_icmp .eq 5, 3) := by decide +kernel
theorem dX4_isSuspect_55 : decode cX4_isSuspect 55 = .ok (.iconst 0, 1) := by decide +kernel
theorem dX4_isSuspect_56 : decode cX4_isSuspect 56 = .ok (.ireturn, 1) := by decide +kernel
theorem dX4_isSuspect_57 : decode cX4_isSuspect 57 = .ok (.iinc 3 1, 3) := by decide +kernel
theorem dX4_isSuspect_60 : decode cX4_isSuspect 60 = .ok (.goto (-58), 3) := by decide +kernel
theorem dX4_isSuspect_63 : decode cX4_isSuspect 63 = .ok (.iconst 1, 1) := by decide +kernel
theorem dX4_isSuspect_64 : decode cX4_isSuspect 64 = .ok (.ireturn, 1) := by decide +kernel
set_option maxRecDepth 20000 in
theorem ggX4_isUpBy_X2_cardOfRow : GoodIn wsX4_isUpBy wsX2_cardOfRow := goodIn_r _ [5, 6, 27, 28, 29, 30, 31, 32] (by decide +kernel) (by decide +kernel)
set_option maxRecDepth 20000 in
theorem gX4_isUpBy_X2_cardOfRow : GoodIn wsX4_isUpBy (wsV RX4 73 RX2 yX2_cardOfRow wsX2_cardOfRow) := goodIn_app (goodIn_of _ (by decide +kernel)) ggX4_isUpBy_X2_cardOfRow
set_option maxRecDepth 20000 in
theorem ggX4_isUpBy_X2_hookOf : GoodIn wsX4_isUpBy wsX2_hookOf := goodIn_r _ [10, 11, 12, 13, 14, 4, 15, 16, 27, 28, 29, 30, 31, 32] (by decide +kernel) (by decide +kernel)
set_option maxRecDepth 20000 in
theorem gX4_isUpBy_X2_hookOf : GoodIn wsX4_isUpBy (wsV RX4 77 RX2 yX2_hookOf wsX2_hookOf) := goodIn_app (goodIn_of _ (by decide +kernel)) ggX4_isUpBy_X2_hookOf
set_option maxRecDepth 20000 in
theorem ggX4_isUpBy_X2_placeOf : GoodIn wsX4_isUpBy wsX2_placeOf := goodIn_r _ [20, 21, 27, 28, 29, 30, 31, 32] (by decide +kernel) (by decide +kernel)
set_option maxRecDepth 20000 in
theorem gX4_isUpBy_X2_placeOf : GoodIn wsX4_isUpBy (wsV RX4 80 RX2 yX2_placeOf wsX2_placeOf) := goodIn_app (goodIn_of _ (by decide +kernel)) ggX4_isUpBy_X2_placeOf
set_option maxRecDepth 20000 in
theorem ggX4_isUpBy_X2_isUp : GoodIn wsX4_isUpBy wsX2_isUp := goodIn_r _ [25, 6, 16, 26, 11, 27, 28, 29, 30, 31, 32] (by decide +kernel) (by decide +kernel)
set_option maxRecDepth 20000 in
theorem gX4_isUpBy_X2_isUp : GoodIn wsX4_isUpBy (wsV RX4 83 RX2 yX2_isUp wsX2_isUp) := goodIn_app (goodIn_of _ (by decide +kernel)) ggX4_isUpBy_X2_isUp
theorem dX4_isUpBy_0 : decode cX4_isUpBy 0 = .ok (.aload_n 0, 1) := by decide +kernel
theorem dX4_isUpBy_1 : decode cX4_isUpBy 1 = .ok (.iload_n 2, 1) := by decide +kernel
theorem dX4_isUpBy_2 : decode cX4_isUpBy 2 = .ok (.invokevirtual 73, 3) := by decide +kernel
theorem dX4_isUpBy_5 : decode cX4_isUpBy 5 = .ok (.istore 4, 2) := by decide +kernel
theorem dX4_isUpBy_7 : decode cX4_isUpBy 7 = .ok (.iload_n 1, 1) := by decide +kernel
theorem dX4_isUpBy_8 : decode cX4_isUpBy 8 = .ok (.aload_n 0, 1) := by decide +kernel
theorem dX4_isUpBy_9 : decode cX4_isUpBy 9 = .ok (.iload 4, 2) := by decide +kernel
theorem dX4_isUpBy_11 : decode cX4_isUpBy 11 = .ok (.aload_n 0, 1) := by decide +kernel
theorem dX4_isUpBy_12 : decode cX4_isUpBy 12 = .ok (.iload_n 3, 1) := by decide +kernel
theorem dX4_isUpBy_13 : decode cX4_isUpBy 13 = .ok (.invokevirtual 77, 3) := by decide +kernel
theorem dX4_isUpBy_16 : decode cX4_isUpBy 16 = .ok (.invokevirtual 80, 3) := by decide +kernel
theorem dX4_isUpBy_19 : decode cX4_isUpBy 19 = .ok (.if_icmp .ne 7, 3) := by decide +kernel
theorem dX4_isUpBy_22 : decode cX4_isUpBy 22 = .ok (.iconst 1, 1) := by decide +kernel
theorem dX4_isUpBy_23 : decode cX4_isUpBy 23 = .ok (.goto 4, 3) := by decide +kernel
theorem dX4_isUpBy_26 : decode cX4_isUpBy 26 = .ok (.iconst 0, 1) := by decide +kernel
theorem dX4_isUpBy_27 : decode cX4_isUpBy 27 = .ok (.istore 5, 2) := by decide +kernel
theorem dX4_isUpBy_29 : decode cX4_isUpBy 29 = .ok (.aload_n 0, 1) := by decide +kernel
theorem dX4_isUpBy_30 : decode cX4_isUpBy 30 = .ok (.iload 4, 2) := by decide +kernel
theorem dX4_isUpBy_32 : decode cX4_isUpBy 32 = .ok (.iload_n 3, 1) := by decide +kernel
theorem dX4_isUpBy_33 : decode cX4_isUpBy 33 = .ok (.invokevirtual 83, 3) := by decide +kernel
theorem dX4_isUpBy_36 : decode cX4_isUpBy 36 = .ok (.iload 5, 2) := by decide +kernel
theorem dX4_isUpBy_38 : decode cX4_isUpBy 38 = .ok (.if_icmp .eq 7, 3) := by decide +kernel
theorem dX4_isUpBy_41 : decode cX4_isUpBy 41 = .ok (.iconst 1, 1) := by decide +kernel
theorem dX4_isUpBy_42 : decode cX4_isUpBy 42 = .ok (.goto 4, 3) := by decide +kernel
theorem dX4_isUpBy_45 : decode cX4_isUpBy 45 = .ok (.iconst 0, 1) := by decide +kernel
theorem dX4_isUpBy_46 : decode cX4_isUpBy 46 = .ok (.ireturn, 1) := by decide +kernel
set_option maxRecDepth 20000 in
theorem ggX5_init_X1_init : GoodIn wsX5_init wsX1_init := goodIn_r _ [13, 14, 2, 3, 15, 16, 39, 40] (by decide +kernel) (by decide +kernel)
set_option maxRecDepth 20000 in
theorem gX5_init_X1_init_n11 : GoodIn wsX5_init (wsX1_init) := ggX5_init_X1_init
set_option maxRecDepth 20000 in
theorem ggX5_init_X2_init : GoodIn wsX5_init wsX2_init := goodIn_r _ [19, 20, 2, 3, 15, 21, 22, 23, 24, 25, 10, 26, 27, 28, 29, 30, 31, 32, 33, 34, 35, 36, 37, 38, 49, 50, 51, 52, 53, 54] (by decide +kernel) (by decide +kernel)
set_option maxRecDepth 20000 in
theorem gX5_init_X2_init : GoodIn wsX5_init (wsX2_init) := ggX5_init_X2_init
theorem dX5_init_0 : decode cX5_init 0 = .ok (.aload_n 0, 1) := by decide +kernel
theorem dX5_init_1 : decode cX5_init 1 = .ok (.invokespecial 3, 3) := by decide +kernel
theorem dX5_init_4 : decode cX5_init 4 = .ok (.aload_n 0, 1) := by decide +kernel
theorem dX5_init_5 : decode cX5_init 5 = .ok (.new 9, 3) := by decide +kernel
theorem dX5_init_8 : decode cX5_init 8 = .ok (.dup, 1) := by decide +kernel
theorem dX5_init_9 : decode cX5_init 9 = .ok (.invokespecial 11, 3) := by decide +kernel
theorem dX5_init_12 : decode cX5_init 12 = .ok (.putfield 12, 3) := by decide +kernel
theorem dX5_init_15 : decode cX5_init 15 = .ok (.aload_n 0, 1) := by decide +kernel
theorem dX5_init_16 : decode cX5_init 16 = .ok (.new 18, 3) := by decide +kernel
theorem dX5_init_19 : decode cX5_init 19 = .ok (.dup, 1) := by decide +kernel
theorem dX5_init_20 : decode cX5_init 20 = .ok (.invokespecial 20, 3) := by decide +kernel
theorem dX5_init_23 : decode cX5_init 23 = .ok (.putfield 21, 3) := by decide +kernel
theorem dX5_init_26 : decode cX5_init 26 = .ok (.return_, 1) := by decide +kernel
set_option maxRecDepth 20000 in
theorem ggX5_read_X5_startAnew : GoodIn wsX5_read wsX5_startAnew := goodIn_r _ [7, 8, 9, 10, 11, 12, 13, 14, 15, 16, 17, 18, 19, 20, 21, 22, 23, 24, 25, 26, 27, 28, 29, 30, 31, 186, 187, 188, 189, 190, 191, 192, 193, 194, 195, 196, 197, 198, 199] (by decide +kernel) (by decide +kernel)
set_option maxRecDepth 20000 in
theorem gX5_read_X5_startAnew : GoodIn wsX5_read (wsV RX5 25 RX5 yX5_startAnew wsX5_startAnew) := goodIn_app (goodIn_of _ (by decide +kernel)) ggX5_read_X5_startAnew
set_option maxRecDepth 20000 in
theorem ggX5_read_X5_nextToken : GoodIn wsX5_read wsX5_nextToken := goodIn_r _ [35, 9, 2, 36, 1, 37, 38, 39, 40, 6, 41, 42, 43, 44, 45, 46, 47, 48, 49, 50, 51, 52, 53, 54, 55, 56, 57, 58, 59, 60, 61, 62, 63, 64, 65, 66, 67, 68, 69, 70, 71, 72, 73, 74, 75, 76, 77, 78, 79, 80, 81, 82, 83, 84, 85, 86, 87, 88, 89, 90, 91, 92, 93, 94, 95, 96, 97, 98, 99, 100, 101, 102, 103, 104, 105, 106, 107, 108, 109, 110, 111, 112, 113, 114, 115, 116, 117, 118, 119, 120, 186, 187, 188, 189, 190, 191, 192, 193, 200, 201] (by decide +kernel) (by decide +kernel)
set_option maxRecDepth 20000 in
theorem gX5_read_X5_nextToken : GoodIn wsX5_read (wsV RX5 28 RX5 yX5_nextToken wsX5_nextToken) := goodIn_app (goodIn_of _ (by decide +kernel)) ggX5_read_X5_nextToken
set_option maxRecDepth 20000 in
theorem ggX5_read_X5_readsItem : GoodIn wsX5_read wsX5_readsItem := goodIn_r _ [124, 1, 125, 126, 127, 6, 128, 10, 11, 12, 32, 33, 34, 35, 9, 2, 36, 37, 38, 39, 40, 41, 42, 43, 44, 45, 46, 47, 48, 49, 50, 51, 52, 53, 54, 55, 56, 57, 58, 59, 60, 61, 62, 63, 64, 65, 66, 67, 68, 69, 70, 71, 72, 73, 74, 75, 76, 77, 78, 79, 80, 81, 82, 83, 84, 85, 86, 87, 88, 89, 90, 91, 92, 93, 94, 95, 96, 97, 98, 99, 100, 101, 102, 103, 104, 105, 106, 107, 108, 109, 110, 111, 112, 113, 114, 115, 116, 117, 118, 119, 120, 129, 130, 131, 132, 133, 134, 135, 136, 8, 137, 138, 139, 140, 141, 142, 143, 144, 145, 21, 22, 16, 23, 24, 25, 146, 147, 148, 149, 150, 151, 152, 153, 154, 155, 156, 157, 158, 159, 160, 161, 162, 163, 18, 164, 165, 166, 167, 168, 169, 170, 171, 172, 27, 28, 29, 30, 31, 173, 174, 175, 176, 177, 178, 179, 180, 181, 182, 183, 184, 185, 186, 187, 188, 189, 190, 191, 192, 193, 200, 201, 194, 195, 196, 197, 198, 199] (by decide +kernel) (by decide +kernel)
set_option maxRecDepth 20000 in
theorem gX5_read_X5_readsItem : GoodIn wsX5_read (wsV RX5 35 RX5 yX5_readsItem wsX5_readsItem) := goodIn_app (goodIn_of _ (by decide +kernel)) ggX5_read_X5_readsItem
theorem dX5_read_0 : decode cX5_read 0 = .ok (.aload_n 0, 1) := by decide +kernel
theorem dX5_read_1 : decode cX5_read 1 = .ok (.invokevirtual 25, 3) := by decide +kernel
theorem dX5_read_4 : decode cX5_read 4 = .ok (.iconst 0, 1) := by decide +kernel
theorem dX5_read_5 : decode cX5_read 5 = .ok (.istore_n 1, 1) := by decide +kernel
theorem dX5_read_6 : decode cX5_read 6 = .ok (.iload_n 1, 1) := by decide +kernel
theorem dX5_read_7 : decode cX5_read 7 = .ok (.bipush 120, 2) := by decide +kernel
theorem dX5_read_9 : decode cX5_read 9 = .ok (.if_icmp .ge 37, 3) := by decide +kernel
theorem dX5_read_12 : decode cX5_read 12 = .ok (.aload_n 0, 1) := by decide +kernel
theorem dX5_read_13 : decode cX5_read 13 = .ok (.invokevirtual 28, 3) := by decide +kernel
theorem dX5_read_16 : decode cX5_read 16 = .ok (.aload_n 0, 1) := by decide +kernel
theorem dX5_read_17 : decode cX5_read 17 = .ok (.getfield 31, 3) := by decide +kernel
theorem dX5_read_20 : decode cX5_read 20 = .ok (.ifCond .ne 5, 3) := by decide +kernel
theorem dX5_read_23 : decode cX5_read 23 = .ok (.iload_n 1, 1) := by decide +kernel
theorem dX5_read_24 : decode cX5_read 24 = .ok (.ireturn, 1) := by decide +kernel
theorem dX5_read_25 : decode cX5_read 25 = .ok (.aload_n 0, 1) := by decide +kernel
theorem dX5_read_26 : decode cX5_read 26 = .ok (.invokevirtual 35, 3) := by decide +kernel
theorem dX5_read_29 : decode cX5_read 29 = .ok (.ifCond .ne 11, 3) := by decide +kernel
theorem dX5_read_32 : decode cX5_read 32 = .ok (.bipush (-10), 2) := by decide +kernel
theorem dX5_read_34 : decode cX5_read 34 = .ok (.aload_n 0, 1) := by decide +kernel
theorem dX5_read_35 : decode cX5_read 35 = .ok (.getfield 39, 3) := by decide +kernel
theorem dX5_read_38 : decode cX5_read 38 = .ok (.isub, 1) := by decide +kernel
theorem dX5_read_39 : decode cX5_read 39 = .ok (.ireturn, 1) := by decide +kernel
theorem dX5_read_40 : decode cX5_read 40 = .ok (.iinc 1 1, 3) := by decide +kernel
theorem dX5_read_43 : decode cX5_read 43 = .ok (.goto (-37), 3) := by decide +kernel
theorem dX5_read_46 : decode cX5_read 46 = .ok (.bipush (-10), 2) := by decide +kernel
theorem dX5_read_48 : decode cX5_read 48 = .ok (.aload_n 0, 1) := by decide +kernel
theorem dX5_read_49 : decode cX5_read 49 = .ok (.getfield 39, 3) := by decide +kernel
theorem dX5_read_52 : decode cX5_read 52 = .ok (.isub, 1) := by decide +kernel
theorem dX5_read_53 : decode cX5_read 53 = .ok (.ireturn, 1) := by decide +kernel
set_option maxRecDepth 20000 in
theorem ggX5_startAnew_X2_startAnew : GoodIn wsX5_startAnew wsX2_startAnew := goodIn_r _ [10, 11, 12, 13, 14, 15, 9, 16, 17, 18, 19, 20, 21, 22, 23, 24, 33, 34, 35, 36, 37, 38] (by decide +kernel) (by decide +kernel)
set_option maxRecDepth 20000 in
theorem gX5_startAnew_X2_startAnew : GoodIn wsX5_startAnew (wsV RX5 42 RX2 yX2_startAnew wsX2_startAnew) := goodIn_app (goodIn_of _ (by decide +kernel)) ggX5_startAnew_X2_startAnew
theorem dX5_startAnew_0 : decode cX5_startAnew 0 = .ok (.aload_n 0, 1) := by decide +kernel
theorem dX5_startAnew_1 : decode cX5_startAnew 1 = .ok (.getfield 21, 3) := by decide +kernel
theorem dX5_startAnew_4 : decode cX5_startAnew 4 = .ok (.invokevirtual 42, 3) := by decide +kernel
theorem dX5_startAnew_7 : decode cX5_startAnew 7 = .ok (.aload_n 0, 1) := by decide +kernel
theorem dX5_startAnew_8 : decode cX5_startAnew 8 = .ok (.iconst 0, 1) := by decide +kernel
theorem dX5_startAnew_9 : decode cX5_startAnew 9 = .ok (.putfield 43, 3) := by decide +kernel
theorem dX5_startAnew_12 : decode cX5_startAnew 12 = .ok (.aload_n 0, 1) := by decide +kernel
theorem dX5_startAnew_13 : decode cX5_startAnew 13 = .ok (.iconst 0, 1) := by decide +kernel
theorem dX5_startAnew_14 : decode cX5_startAnew 14 = .ok (.putfield 46, 3) := by decide +kernel
theorem dX5_startAnew_17 : decode cX5_startAnew 17 = .ok (.aload_n 0, 1) := by decide +kernel
