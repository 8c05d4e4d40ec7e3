theorem dX5_startAnew_18 : decode cX5_startAnew 18 = .ok (.iconst 0, 1) := by decide +kernel
theorem dX5_startAnew_19 : decode cX5_startAnew 19 = .ok (.putfield 50, 3) := by decide +kernel
theorem dX5_startAnew_22 : decode cX5_startAnew 22 = .ok (.aload_n 0, 1) := by decide +kernel
theorem dX5_startAnew_23 : decode cX5_startAnew 23 = .ok (.iconst 0, 1) := by decide +kernel
theorem dX5_startAnew_24 : decode cX5_startAnew 24 = .ok (.putfield 53, 3) := by decide +kernel
theorem dX5_startAnew_27 : decode cX5_startAnew 27 = .ok (.return_, 1) := by decide +kernel
set_option maxRecDepth 20000 in
theorem ggX5_readsItem_X5_canStartItem : GoodIn wsX5_readsItem wsX5_canStartItem := goodIn_r _ [6, 7, 8, 9, 171, 172, 173, 174, 175, 176, 177, 178] (by decide +kernel) (by decide +kernel)
set_option maxRecDepth 20000 in
theorem gX5_readsItem_X5_canStartItem : GoodIn wsX5_readsItem (wsV RX5 56 RX5 yX5_canStartItem wsX5_canStartItem) := goodIn_app (goodIn_of _ (by decide +kernel)) ggX5_readsItem_X5_canStartItem
set_option maxRecDepth 20000 in
theorem ggX5_readsItem_X5_nextToken : GoodIn wsX5_readsItem wsX5_nextToken := goodIn_r _ [13, 14, 15, 16, 1, 17, 18, 19, 20, 5, 21, 22, 23, 24, 25, 26, 27, 28, 29, 30, 31, 32, 33, 34, 35, 36, 37, 38, 39, 40, 41, 42, 43, 44, 45, 46, 47, 48, 49, 50, 51, 52, 53, 54, 55, 56, 57, 58, 59, 60, 61, 62, 63, 64, 65, 66, 67, 68, 69, 70, 71, 72, 73, 74, 75, 76, 77, 78, 79, 80, 81, 82, 83, 84, 85, 86, 87, 88, 89, 90, 91, 92, 93, 94, 95, 96, 97, 98, 99, 100, 171, 172, 173, 174, 175, 176, 177, 178, 179, 180] (by decide +kernel) (by decide +kernel)
set_option maxRecDepth 20000 in
theorem gX5_readsItem_X5_nextToken : GoodIn wsX5_readsItem (wsV RX5 28 RX5 yX5_nextToken wsX5_nextToken) := goodIn_app (goodIn_of _ (by decide +kernel)) ggX5_readsItem_X5_nextToken
set_option maxRecDepth 20000 in
theorem ggX5_readsItem_X5_takesFigures : GoodIn wsX5_readsItem wsX5_takesFigures := goodIn_r _ [104, 105, 106, 107, 5, 108, 109, 7, 110, 111, 112, 113, 14, 15, 16, 114, 115, 116, 25, 117, 27, 28, 118, 119, 120, 121, 122, 123, 124, 125, 126, 127, 128, 129, 130, 8, 131, 132, 133, 134, 135, 136, 137, 138, 139, 140, 141, 142, 143, 144, 145, 146, 147, 148, 149, 150, 151, 9, 152, 153, 154, 155, 156, 157, 158, 159, 160, 161, 162, 163, 164, 165, 166, 167, 168, 169, 170, 171, 172, 173, 174, 175, 176, 177, 178, 179, 180, 181, 182, 183, 184, 185, 186] (by decide +kernel) (by decide +kernel)
set_option maxRecDepth 20000 in
theorem gX5_readsItem_X5_takesFigures : GoodIn wsX5_readsItem (wsV RX5 60 RX5 yX5_takesFigures wsX5_takesFigures) := goodIn_app (goodIn_of _ (by decide +kernel)) ggX5_readsItem_X5_takesFigures
theorem dX5_readsItem_0 : decode cX5_readsItem 0 = .ok (.aload_n 0, 1) := by decide +kernel
theorem dX5_readsItem_1 : decode cX5_readsItem 1 = .ok (.getfield 31, 3) := by decide +kernel
theorem dX5_readsItem_4 : decode cX5_readsItem 4 = .ok (.istore_n 1, 1) := by decide +kernel
theorem dX5_readsItem_5 : decode cX5_readsItem 5 = .ok (.aload_n 0, 1) := by decide +kernel
theorem dX5_readsItem_6 : decode cX5_readsItem 6 = .ok (.iload_n 1, 1) := by decide +kernel
theorem dX5_readsItem_7 : decode cX5_readsItem 7 = .ok (.invokevirtual 56, 3) := by decide +kernel
theorem dX5_readsItem_10 : decode cX5_readsItem 10 = .ok (.ifCond .ne 5, 3) := by decide +kernel
theorem dX5_readsItem_13 : decode cX5_readsItem 13 = .ok (.iconst 0, 1) := by decide +kernel
theorem dX5_readsItem_14 : decode cX5_readsItem 14 = .ok (.ireturn, 1) := by decide +kernel
theorem dX5_readsItem_15 : decode cX5_readsItem 15 = .ok (.aload_n 0, 1) := by decide +kernel
theorem dX5_readsItem_16 : decode cX5_readsItem 16 = .ok (.invokevirtual 28, 3) := by decide +kernel
theorem dX5_readsItem_19 : decode cX5_readsItem 19 = .ok (.aload_n 0, 1) := by decide +kernel
theorem dX5_readsItem_20 : decode cX5_readsItem 20 = .ok (.getfield 31, 3) := by decide +kernel
theorem dX5_readsItem_23 : decode cX5_readsItem 23 = .ok (.iconst 2, 1) := by decide +kernel
theorem dX5_readsItem_24 : decode cX5_readsItem 24 = .ok (.if_icmp .ne 11, 3) := by decide +kernel
theorem dX5_readsItem_27 : decode cX5_readsItem 27 = .ok (.aload_n 0, 1) := by decide +kernel
theorem dX5_readsItem_28 : decode cX5_readsItem 28 = .ok (.iload_n 1, 1) := by decide +kernel
theorem dX5_readsItem_29 : decode cX5_readsItem 29 = .ok (.invokevirtual 60, 3) := by decide +kernel
theorem dX5_readsItem_32 : decode cX5_readsItem 32 = .ok (.ifCond .ne 5, 3) := by decide +kernel
theorem dX5_readsItem_35 : decode cX5_readsItem 35 = .ok (.iconst 0, 1) := by decide +kernel
theorem dX5_readsItem_36 : decode cX5_readsItem 36 = .ok (.ireturn, 1) := by decide +kernel
theorem dX5_readsItem_37 : decode cX5_readsItem 37 = .ok (.aload_n 0, 1) := by decide +kernel
theorem dX5_readsItem_38 : decode cX5_readsItem 38 = .ok (.invokevirtual 28, 3) := by decide +kernel
theorem dX5_readsItem_41 : decode cX5_readsItem 41 = .ok (.aload_n 0, 1) := by decide +kernel
theorem dX5_readsItem_42 : decode cX5_readsItem 42 = .ok (.getfield 31, 3) := by decide +kernel
theorem dX5_readsItem_45 : decode cX5_readsItem 45 = .ok (.iconst 1, 1) := by decide +kernel
theorem dX5_readsItem_46 : decode cX5_readsItem 46 = .ok (.if_icmp .ne 7, 3) := by decide +kernel
theorem dX5_readsItem_49 : decode cX5_readsItem 49 = .ok (.iconst 1, 1) := by decide +kernel
theorem dX5_readsItem_50 : decode cX5_readsItem 50 = .ok (.goto 4, 3) := by decide +kernel
theorem dX5_readsItem_53 : decode cX5_readsItem 53 = .ok (.iconst 0, 1) := by decide +kernel
theorem dX5_readsItem_54 : decode cX5_readsItem 54 = .ok (.ireturn, 1) := by decide +kernel
theorem dX5_canStartItem_0 : decode cX5_canStartItem 0 = .ok (.iload_n 1, 1) := by decide +kernel
theorem dX5_canStartItem_1 : decode cX5_canStartItem 1 = .ok (.tableswitch 114 4 8 #[35, 62, 82, 97, 112], 35) := by decide +kernel
theorem dX5_canStartItem_36 : decode cX5_canStartItem 36 = .ok (.aload_n 0, 1) := by decide +kernel
theorem dX5_canStartItem_37 : decode cX5_canStartItem 37 = .ok (.getfield 46, 3) := by decide +kernel
theorem dX5_canStartItem_40 : decode cX5_canStartItem 40 = .ok (.ifCond .ne 21, 3) := by decide +kernel
theorem dX5_canStartItem_43 : decode cX5_canStartItem 43 = .ok (.aload_n 0, 1) := by decide +kernel
theorem dX5_canStartItem_44 : decode cX5_canStartItem 44 = .ok (.getfield 50, 3) := by decide +kernel
theorem dX5_canStartItem_47 : decode cX5_canStartItem 47 = .ok (.ifCond .ne 14, 3) := by decide +kernel
theorem dX5_canStartItem_50 : decode cX5_canStartItem 50 = .ok (.aload_n 0, 1) := by decide +kernel
theorem dX5_canStartItem_51 : decode cX5_canStartItem 51 = .ok (.getfield 53, 3) := by decide +kernel
theorem dX5_canStartItem_54 : decode cX5_canStartItem 54 = .ok (.ifCond .ne 7, 3) := by decide +kernel
theorem dX5_canStartItem_57 : decode cX5_canStartItem 57 = .ok (.iconst 1, 1) := by decide +kernel
theorem dX5_canStartItem_58 : decode cX5_canStartItem 58 = .ok (.goto 4, 3) := by decide +kernel
theorem dX5_canStartItem_61 : decode cX5_canStartItem 61 = .ok (.iconst 0, 1) := by decide +kernel
theorem dX5_canStartItem_62 : decode cX5_canStartItem 62 = .ok (.ireturn, 1) := by decide +kernel
theorem dX5_canStartItem_63 : decode cX5_canStartItem 63 = .ok (.aload_n 0, 1) := by decide +kernel
theorem dX5_canStartItem_64 : decode cX5_canStartItem 64 = .ok (.getfield 50, 3) := by decide +kernel
theorem dX5_canStartItem_67 : decode cX5_canStartItem 67 = .ok (.ifCond .ne 14, 3) := by decide +kernel
theorem dX5_canStartItem_70 : decode cX5_canStartItem 70 = .ok (.aload_n 0, 1) := by decide +kernel
theorem dX5_canStartItem_71 : decode cX5_canStartItem 71 = .ok (.getfield 53, 3) := by decide +kernel
theorem dX5_canStartItem_74 : decode cX5_canStartItem 74 = .ok (.ifCond .ne 7, 3) := by decide +kernel
theorem dX5_canStartItem_77 : decode cX5_canStartItem 77 = .ok (.iconst 1, 1) := by decide +kernel
theorem dX5_canStartItem_78 : decode cX5_canStartItem 78 = .ok (.goto 4, 3) := by decide +kernel
theorem dX5_canStartItem_81 : decode cX5_canStartItem 81 = .ok (.iconst 0, 1) := by decide +kernel
theorem dX5_canStartItem_82 : decode cX5_canStartItem 82 = .ok (.ireturn, 1) := by decide +kernel
theorem dX5_canStartItem_83 : decode cX5_canStartItem 83 = .ok (.aload_n 0, 1) := by decide +kernel
theorem dX5_canStartItem_84 : decode cX5_canStartItem 84 = .ok (.getfield 53, 3) := by decide +kernel
theorem dX5_canStartItem_87 : decode cX5_canStartItem 87 = .ok (.bipush 8, 2) := by decide +kernel
theorem dX5_canStartItem_89 : decode cX5_canStartItem 89 = .ok (.if_icmp .ge 7, 3) := by decide +kernel
theorem dX5_canStartItem_92 : decode cX5_canStartItem 92 = .ok (.iconst 1, 1) := by decide +kernel
theorem dX5_canStartItem_93 : decode cX5_canStartItem 93 = .ok (.goto 4, 3) := by decide +kernel
theorem dX5_canStartItem_96 : decode cX5_canStartItem 96 = .ok (.iconst 0, 1) := by decide +kernel
theorem dX5_canStartItem_97 : decode cX5_canStartItem 97 = .ok (.ireturn, 1) := by decide +kernel
theorem dX5_canStartItem_98 : decode cX5_canStartItem 98 = .ok (.aload_n 0, 1) := by decide +kernel
theorem dX5_canStartItem_99 : decode cX5_canStartItem 99 = .ok (.getfield 53, 3) := by decide +kernel
theorem dX5_canStartItem_102 : decode cX5_canStartItem 102 = .ok (.bipush 8, 2) := by decide +kernel
theorem dX5_canStartItem_104 : decode cX5_canStartItem 104 = .ok (.if_icmp .ge 7, 3) := by decide +kernel
theorem dX5_canStartItem_107 : decode cX5_canStartItem 107 = .ok (.iconst 1, 1) := by decide +kernel
theorem dX5_canStartItem_108 : decode cX5_canStartItem 108 = .ok (.goto 4, 3) := by decide +kernel
theorem dX5_canStartItem_111 : decode cX5_canStartItem 111 = .ok (.iconst 0, 1) := by decide +kernel
theorem dX5_canStartItem_112 : decode cX5_canStartItem 112 = .ok (.ireturn, 1) := by decide +kernel
theorem dX5_canStartItem_113 : decode cX5_canStartItem 113 = .ok (.iconst 1, 1) := by decide +kernel
theorem dX5_canStartItem_114 : decode cX5_canStartItem 114 = .ok (.ireturn, 1) := by decide +kernel
theorem dX5_canStartItem_115 : decode cX5_canStartItem 115 = .ok (.iconst 0, 1) := by decide +kernel
theorem dX5_canStartItem_116 : decode cX5_canStartItem 116 = .ok (.ireturn, 1) := by decide +kernel
set_option maxRecDepth 20000 in
theorem ggX5_takesFigures_X5_takesHooks : GoodIn wsX5_takesFigures wsX5_takesHooks := goodIn_r _ [5, 6, 7, 8, 9, 10, 4, 11, 12, 13, 14, 15, 16, 17, 18, 19, 20, 21, 22, 23, 24, 25, 26, 27, 28, 77, 78, 79, 80, 81, 82, 83, 84, 85, 86, 87, 88, 89, 90, 91, 92] (by decide +kernel) (by decide +kernel)
set_option maxRecDepth 20000 in
theorem gX5_takesFigures_X5_takesHooks : GoodIn wsX5_takesFigures (wsV RX5 63 RX5 yX5_takesHooks wsX5_takesHooks) := goodIn_app (goodIn_of _ (by decide +kernel)) ggX5_takesFigures_X5_takesHooks
set_option maxRecDepth 20000 in
theorem ggX5_takesFigures_X5_takesTies : GoodIn wsX5_takesFigures wsX5_takesTies := goodIn_r _ [32, 12, 13, 6, 33, 34, 14, 35, 36, 37, 38, 4, 39, 15, 16, 17, 18, 19, 20, 21, 40, 41, 42, 25, 43, 28, 44, 45, 46, 47, 48, 77, 78, 79, 80, 81, 82, 83, 84, 87, 88, 89, 90, 91, 92, 85, 86] (by decide +kernel) (by decide +kernel)
set_option maxRecDepth 20000 in
theorem gX5_takesFigures_X5_takesTies : GoodIn wsX5_takesFigures (wsV RX5 66 RX5 yX5_takesTies wsX5_takesTies) := goodIn_app (goodIn_of _ (by decide +kernel)) ggX5_takesFigures_X5_takesTies
set_option maxRecDepth 20000 in
theorem ggX5_takesFigures_X5_takesCard : GoodIn wsX5_takesFigures wsX5_takesCard := goodIn_r _ [52, 12, 13, 6, 33, 14, 36, 37, 38, 4, 39, 15, 16, 17, 18, 19, 20, 21, 53, 54, 55, 56, 57, 58, 59, 60, 25, 61, 62, 63, 77, 78, 79, 80, 81, 82, 83, 84, 87, 88, 89, 90, 91, 92, 85, 86] (by decide +kernel) (by decide +kernel)
set_option maxRecDepth 20000 in
theorem gX5_takesFigures_X5_takesCard : GoodIn wsX5_takesFigures (wsV RX5 69 RX5 yX5_takesCard wsX5_takesCard) := goodIn_app (goodIn_of _ (by decide +kernel)) ggX5_takesFigures_X5_takesCard
set_option maxRecDepth 20000 in
theorem ggX5_takesFigures_X5_takesCloth : GoodIn wsX5_takesFigures wsX5_takesCloth := goodIn_r _ [67, 12, 13, 6, 34, 14, 36, 37, 38, 4, 39, 15, 16, 17, 18, 19, 20, 21, 68, 69, 70, 25, 71, 28, 44, 45, 46, 47, 48, 53, 54, 55, 56, 57, 58, 59, 60, 61, 62, 63, 77, 78, 79, 80, 81, 82, 83, 84, 87, 88, 89, 90, 91, 92, 85, 86] (by decide +kernel) (by decide +kernel)
set_option maxRecDepth 20000 in
theorem gX5_takesFigures_X5_takesCloth : GoodIn wsX5_takesFigures (wsV RX5 72 RX5 yX5_takesCloth wsX5_takesCloth) := goodIn_app (goodIn_of _ (by decide +kernel)) ggX5_takesFigures_X5_takesCloth
set_option maxRecDepth 20000 in
theorem ggX5_takesFigures_X5_takesLimit : GoodIn wsX5_takesFigures wsX5_takesLimit := goodIn_r _ [75, 6, 76, 8, 9, 10, 4, 11, 12, 13, 14, 15, 16, 17, 18, 19, 20, 21, 77, 78, 79, 80, 81, 82, 83, 84, 87, 88, 89, 90, 91, 92, 85, 86] (by decide +kernel) (by decide +kernel)
set_option maxRecDepth 20000 in
theorem gX5_takesFigures_X5_takesLimit : GoodIn wsX5_takesFigures (wsV RX5 75 RX5 yX5_takesLimit wsX5_takesLimit) := goodIn_app (goodIn_of _ (by decide +kernel)) ggX5_takesFigures_X5_takesLimit
theorem dX5_takesFigures_0 : decode cX5_takesFigures 0 = .ok (.iload_n 1, 1) := by decide +kernel
theorem dX5_takesFigures_1 : decode cX5_takesFigures 1 = .ok (.tableswitch 60 4 8 #[35, 40, 45, 50, 55], 35) := by decide +kernel
theorem dX5_takesFigures_36 : decode cX5_takesFigures 36 = .ok (.aload_n 0, 1) := by decide +kernel
theorem dX5_takesFigures_37 : decode cX5_takesFigures 37 = .ok (.invokevirtual 63, 3) := by decide +kernel
theorem dX5_takesFigures_40 : decode cX5_takesFigures 40 = .ok (.ireturn, 1) := by decide +kernel
theorem dX5_takesFigures_41 : decode cX5_takesFigures 41 = .ok (.aload_n 0, 1) := by decide +kernel
theorem dX5_takesFigures_42 : decode cX5_takesFigures 42 = .ok (.invokevirtual 66, 3) := by decide +kernel
theorem dX5_takesFigures_45 : decode cX5_takesFigures 45 = .ok (.ireturn, 1) := by decide +kernel
theorem dX5_takesFigures_46 : decode cX5_takesFigures 46 = .ok (.aload_n 0, 1) := by decide +kernel
theorem dX5_takesFigures_47 : decode cX5_takesFigures 47 = .ok (.invokevirtual 69, 3) := by decide +kernel
theorem dX5_takesFigures_50 : decode cX5_takesFigures 50 = .ok (.ireturn, 1) := by decide +kernel
theorem dX5_takesFigures_51 : decode cX5_takesFigures 51 = .ok (.aload_n 0, 1) := by decide +kernel
theorem dX5_takesFigures_52 : decode cX5_takesFigures 52 = .ok (.invokevirtual 72, 3) := by decide +kernel
theorem dX5_takesFigures_55 : decode cX5_takesFigures 55 = .ok (.ireturn, 1) := by decide +kernel
theorem dX5_takesFigures_56 : decode cX5_takesFigures 56 = .ok (.aload_n 0, 1) := by decide +kernel
theorem dX5_takesFigures_57 : decode cX5_takesFigures 57 = .ok (.invokevirtual 75, 3) := by decide +kernel
theorem dX5_takesFigures_60 : decode cX5_takesFigures 60 = .ok (.ireturn, 1) := by decide +kernel
theorem dX5_takesFigures_61 : decode cX5_takesFigures 61 = .ok (.iconst 0, 1) := by decide +kernel
theorem dX5_takesFigures_62 : decode cX5_takesFigures 62 = .ok (.ireturn, 1) := by decide +kernel
set_option maxRecDepth 20000 in
theorem ggX5_takesHooks_X5_number : GoodIn wsX5_takesHooks wsX5_number := goodIn_r _ [7, 8, 9, 10, 11, 12, 13, 14, 15, 16, 17, 25, 26, 27, 28, 29, 30, 31, 32, 33, 34] (by decide +kernel) (by decide +kernel)
set_option maxRecDepth 20000 in
theorem gX5_takesHooks_X5_number : GoodIn wsX5_takesHooks (wsV RX5 78 RX5 yX5_number wsX5_number) := goodIn_app (goodIn_of _ (by decide +kernel)) ggX5_takesHooks_X5_number
set_option maxRecDepth 20000 in
theorem ggX5_takesHooks_X2_takeHooks : GoodIn wsX5_takesHooks wsX2_takeHooks := goodIn_r _ [22, 23, 24, 35, 36, 37, 38, 39, 40] (by decide +kernel) (by decide +kernel)
set_option maxRecDepth 20000 in
theorem gX5_takesHooks_X2_takeHooks : GoodIn wsX5_takesHooks (wsV RX5 82 RX2 yX2_takeHooks wsX2_takeHooks) := goodIn_app (goodIn_of _ (by decide +kernel)) ggX5_takesHooks_X2_takeHooks
theorem dX5_takesHooks_0 : decode cX5_takesHooks 0 = .ok (.aload_n 0, 1) := by decide +kernel
theorem dX5_takesHooks_1 : decode cX5_takesHooks 1 = .ok (.invokevirtual 78, 3) := by decide +kernel
theorem dX5_takesHooks_4 : decode cX5_takesHooks 4 = .ok (.istore_n 1, 1) := by decide +kernel
theorem dX5_takesHooks_5 : decode cX5_takesHooks 5 = .ok (.iload_n 1, 1) := by decide +kernel
theorem dX5_takesHooks_6 : decode cX5_takesHooks 6 = .ok (.iconst 1, 1) := by decide +kernel
theorem dX5_takesHooks_7 : decode cX5_takesHooks 7 = .ok (.if_icmp .lt 9, 3) := by decide +kernel
theorem dX5_takesHooks_10 : decode cX5_takesHooks 10 = .ok (.iload_n 1, 1) := by decide +kernel
theorem dX5_takesHooks_11 : decode cX5_takesHooks 11 = .ok (.bipush 6, 2) := by decide +kernel
theorem dX5_takesHooks_13 : decode cX5_takesHooks 13 = .ok (.if_icmp .le 5, 3) := by decide +kernel
theorem dX5_takesHooks_16 : decode cX5_takesHooks 16 = .ok (.iconst 0, 1) := by decide +kernel
theorem dX5_takesHooks_17 : decode cX5_takesHooks 17 = .ok (.ireturn, 1) := by decide +kernel
theorem dX5_takesHooks_18 : decode cX5_takesHooks 18 = .ok (.aload_n 0, 1) := by decide +kernel
theorem dX5_takesHooks_19 : decode cX5_takesHooks 19 = .ok (.getfield 21, 3) := by decide +kernel
theorem dX5_takesHooks_22 : decode cX5_takesHooks 22 = .ok (.iload_n 1, 1) := by decide +kernel
theorem dX5_takesHooks_23 : decode cX5_takesHooks 23 = .ok (.invokevirtual 82, 3) := by decide +kernel
theorem dX5_takesHooks_26 : decode cX5_takesHooks 26 = .ok (.aload_n 0, 1) := by decide +kernel
theorem dX5_takesHooks_27 : decode cX5_takesHooks 27 = .ok (.iconst 1, 1) := by decide +kernel
theorem dX5_takesHooks_28 : decode cX5_takesHooks 28 = .ok (.putfield 46, 3) := by decide +kernel
theorem dX5_takesHooks_31 : decode cX5_takesHooks 31 = .ok (.iconst 1, 1) := by decide +kernel
theorem dX5_takesHooks_32 : decode cX5_takesHooks 32 = .ok (.ireturn, 1) := by decide +kernel
set_option maxRecDepth 20000 in
theorem ggX5_takesTies_X5_areFiguresBelow : GoodIn wsX5_takesTies wsX5_areFiguresBelow := goodIn_r _ [12, 2, 1, 6, 13, 14, 15, 16, 17, 18, 19, 31, 32, 33, 34, 35, 36, 37, 38, 45, 46] (by decide +kernel) (by decide +kernel)
set_option maxRecDepth 20000 in
theorem gX5_takesTies_X5_areFiguresBelow : GoodIn wsX5_takesTies (wsV RX5 89 RX5 yX5_areFiguresBelow wsX5_areFiguresBelow) := goodIn_app (goodIn_of _ (by decide +kernel)) ggX5_takesTies_X5_areFiguresBelow
set_option maxRecDepth 20000 in
theorem ggX5_takesTies_X1_figureAt : GoodIn wsX5_takesTies wsX1_figureAt := goodIn_r _ [17, 18, 19, 45, 46] (by decide +kernel) (by decide +kernel)
set_option maxRecDepth 20000 in
theorem gX5_takesTies_X1_figureAt : GoodIn wsX5_takesTies (wsV RX5 95 RX1 yX1_figureAt wsX1_figureAt) := goodIn_app (goodIn_of _ (by decide +kernel)) ggX5_takesTies_X1_figureAt
set_option maxRecDepth 20000 in
theorem ggX5_takesTies_X2_tie : GoodIn wsX5_takesTies wsX2_tie := goodIn_r _ [24, 25, 26, 27, 28, 23, 29, 30, 39, 40, 41, 42, 43, 44] (by decide +kernel) (by decide +kernel)
set_option maxRecDepth 20000 in
theorem gX5_takesTies_X2_tie : GoodIn wsX5_takesTies (wsV RX5 99 RX2 yX2_tie wsX2_tie) := goodIn_app (goodIn_of _ (by decide +kernel)) ggX5_takesTies_X2_tie
theorem dX5_takesTies_0 : decode cX5_takesTies 0 = .ok (.aload_n 0, 1) := by decide +kernel
theorem dX5_takesTies_1 : decode cX5_takesTies 1 = .ok (.getfield 43, 3) := by decide +kernel
theorem dX5_takesTies_4 : decode cX5_takesTies 4 = .ok (.aload_n 0, 1) := by decide +kernel
theorem dX5_takesTies_5 : decode cX5_takesTies 5 = .ok (.getfield 39, 3) := by decide +kernel
theorem dX5_takesTies_8 : decode cX5_takesTies 8 = .ok (.isub, 1) := by decide +kernel
theorem dX5_takesTies_9 : decode cX5_takesTies 9 = .ok (.istore_n 1, 1) := by decide +kernel
theorem dX5_takesTies_10 : decode cX5_takesTies 10 = .ok (.iload_n 1, 1) := by decide +kernel
theorem dX5_takesTies_11 : decode cX5_takesTies 11 = .ok (.bipush 12, 2) := by decide +kernel
theorem dX5_takesTies_13 : decode cX5_takesTies 13 = .ok (.if_icmp .gt 17, 3) := by decide +kernel
theorem dX5_takesTies_16 : decode cX5_takesTies 16 = .ok (.aload_n 0, 1) := by decide +kernel
theorem dX5_takesTies_17 : decode cX5_takesTies 17 = .ok (.aload_n 0, 1) := by decide +kernel
theorem dX5_takesTies_18 : decode cX5_takesTies 18 = .ok (.getfield 21, 3) := by decide +kernel
theorem dX5_takesTies_21 : decode cX5_takesTies 21 = .ok (.getfield 86, 3) := by decide +kernel
theorem dX5_takesTies_24 : decode cX5_takesTies 24 = .ok (.invokevirtual 89, 3) := by decide +kernel
theorem dX5_takesTies_27 : decode cX5_takesTies 27 = .ok (.ifCond .ne 5, 3) := by decide +kernel
theorem dX5_takesTies_30 : decode cX5_takesTies 30 = .ok (.iconst 0, 1) := by decide +kernel
theorem dX5_takesTies_31 : decode cX5_takesTies 31 = .ok (.ireturn, 1) := by decide +kernel
theorem dX5_takesTies_32 : decode cX5_takesTies 32 = .ok (.aload_n 0, 1) := by decide +kernel
theorem dX5_takesTies_33 : decode cX5_takesTies 33 = .ok (.getfield 21, 3) := by decide +kernel
theorem dX5_takesTies_36 : decode cX5_takesTies 36 = .ok (.iload_n 1, 1) := by decide +kernel
theorem dX5_takesTies_37 : decode cX5_takesTies 37 = .ok (.putfield 92, 3) := by decide +kernel
theorem dX5_takesTies_40 : decode cX5_takesTies 40 = .ok (.iconst 0, 1) := by decide +kernel
theorem dX5_takesTies_41 : decode cX5_takesTies 41 = .ok (.istore_n 2, 1) := by decide +kernel
theorem dX5_takesTies_42 : decode cX5_takesTies 42 = .ok (.iload_n 2, 1) := by decide +kernel
theorem dX5_takesTies_43 : decode cX5_takesTies 43 = .ok (.iload_n 1, 1) := by decide +kernel
theorem dX5_takesTies_44 : decode cX5_takesTies 44 = .ok (.if_icmp .ge 30, 3) := by decide +kernel
theorem dX5_takesTies_47 : decode cX5_takesTies 47 = .ok (.aload_n 0, 1) := by decide +kernel
theorem dX5_takesTies_48 : decode cX5_takesTies 48 = .ok (.getfield 21, 3) := by decide +kernel
theorem dX5_takesTies_51 : decode cX5_takesTies 51 = .ok (.iload_n 2, 1) := by decide +kernel
theorem dX5_takesTies_52 : decode cX5_takesTies 52 = .ok (.aload_n 0, 1) := by decide +kernel
theorem dX5_takesTies_53 : decode cX5_takesTies 53 = .ok (.getfield 12, 3) := by decide +kernel
theorem dX5_takesTies_56 : decode cX5_takesTies 56 = .ok (.aload_n 0, 1) := by decide +kernel
theorem dX5_takesTies_57 : decode cX5_takesTies 57 = .ok (.getfield 39, 3) := by decide +kernel
theorem dX5_takesTies_60 : decode cX5_takesTies 60 = .ok (.iload_n 2, 1) := by decide +kernel
theorem dX5_takesTies_61 : decode cX5_takesTies 61 = .ok (.iadd, 1) := by decide +kernel
theorem dX5_takesTies_62 : decode cX5_takesTies 62 = .ok (.invokevirtual 95, 3) := by decide +kernel
theorem dX5_takesTies_65 : decode cX5_takesTies 65 = .ok (.invokevirtual 99, 3) := by decide +kernel
theorem dX5_takesTies_68 : decode cX5_takesTies 68 = .ok (.iinc 2 1, 3) := by decide +kernel
theorem dX5_takesTies_71 : decode cX5_takesTies 71 = .ok (.goto (-29), 3) := by decide +kernel
theorem dX5_takesTies_74 : decode cX5_takesTies 74 = .ok (.aload_n 0, 1) := by decide +kernel
theorem dX5_takesTies_75 : decode cX5_takesTies 75 = .ok (.iconst 1, 1) := by decide +kernel
theorem dX5_takesTies_76 : decode cX5_takesTies 76 = .ok (.putfield 50, 3) := by decide +kernel
theorem dX5_takesTies_79 : decode cX5_takesTies 79 = .ok (.iconst 1, 1) := by decide +kernel
theorem dX5_takesTies_80 : decode cX5_takesTies 80 = .ok (.ireturn, 1) := by decide +kernel
set_option maxRecDepth 20000 in
theorem ggX5_takesCard_X5_areFiguresBelow : GoodIn wsX5_takesCard wsX5_areFiguresBelow := goodIn_r _ [10, 2, 1, 5, 11, 12, 13, 14, 15, 16, 17, 30, 31, 32, 33, 34, 35, 36, 37, 44, 45] (by decide +kernel) (by decide +kernel)
set_option maxRecDepth 20000 in
theorem gX5_takesCard_X5_areFiguresBelow : GoodIn wsX5_takesCard (wsV RX5 89 RX5 yX5_areFiguresBelow wsX5_areFiguresBelow) := goodIn_app (goodIn_of _ (by decide +kernel)) ggX5_takesCard_X5_areFiguresBelow
set_option maxRecDepth 20000 in
theorem ggX5_takesCard_X1_figureAt : GoodIn wsX5_takesCard wsX1_figureAt := goodIn_r _ [15, 16, 17, 44, 45] (by decide +kernel) (by decide +kernel)
set_option maxRecDepth 20000 in
theorem gX5_takesCard_X1_figureAt : GoodIn wsX5_takesCard (wsV RX5 95 RX1 yX1_figureAt wsX1_figureAt) := goodIn_app (goodIn_of _ (by decide +kernel)) ggX5_takesCard_X1_figureAt
set_option maxRecDepth 20000 in
theorem ggX5_takesCard_X5_takeHoles : GoodIn wsX5_takesCard wsX5_takeHoles := goodIn_r _ [21, 3, 22, 23, 24, 25, 26, 27, 28, 29, 30, 31, 32, 33, 34, 35, 36, 37, 38, 39, 40, 41, 42, 43] (by decide +kernel) (by decide +kernel)
set_option maxRecDepth 20000 in
theorem gX5_takesCard_X5_takeHoles : GoodIn wsX5_takesCard (wsV RX5 103 RX5 yX5_takeHoles wsX5_takeHoles) := goodIn_app (goodIn_of _ (by decide +kernel)) ggX5_takesCard_X5_takeHoles
theorem dX5_takesCard_0 : decode cX5_takesCard 0 = .ok (.aload_n 0, 1) := by decide +kernel
theorem dX5_takesCard_1 : decode cX5_takesCard 1 = .ok (.getfield 43, 3) := by decide +kernel
theorem dX5_takesCard_4 : decode cX5_takesCard 4 = .ok (.aload_n 0, 1) := by decide +kernel
theorem dX5_takesCard_5 : decode cX5_takesCard 5 = .ok (.getfield 39, 3) := by decide +kernel
theorem dX5_takesCard_8 : decode cX5_takesCard 8 = .ok (.isub, 1) := by decide +kernel
theorem dX5_takesCard_9 : decode cX5_takesCard 9 = .ok (.aload_n 0, 1) := by decide +kernel
theorem dX5_takesCard_10 : decode cX5_takesCard 10 = .ok (.getfield 21, 3) := by decide +kernel
theorem dX5_takesCard_13 : decode cX5_takesCard 13 = .ok (.getfield 86, 3) := by decide +kernel
theorem dX5_takesCard_16 : decode cX5_takesCard 16 = .ok (.if_icmp .ne 11, 3) := by decide +kernel
theorem dX5_takesCard_19 : decode cX5_takesCard 19 = .ok (.aload_n 0, 1) := by decide +kernel
theorem dX5_takesCard_20 : decode cX5_takesCard 20 = .ok (.iconst 2, 1) := by decide +kernel
theorem dX5_takesCard_21 : decode cX5_takesCard 21 = .ok (.invokevirtual 89, 3) := by decide +kernel
theorem dX5_takesCard_24 : decode cX5_takesCard 24 = .ok (.ifCond .ne 5, 3) := by decide +kernel
theorem dX5_takesCard_27 : decode cX5_takesCard 27 = .ok (.iconst 0, 1) := by decide +kernel
theorem dX5_takesCard_28 : decode cX5_takesCard 28 = .ok (.ireturn, 1) := by decide +kernel
theorem dX5_takesCard_29 : decode cX5_takesCard 29 = .ok (.iconst 0, 1) := by decide +kernel
theorem dX5_takesCard_30 : decode cX5_takesCard 30 = .ok (.istore_n 1, 1) := by decide +kernel
theorem dX5_takesCard_31 : decode cX5_takesCard 31 = .ok (.iconst 0, 1) := by decide +kernel
theorem dX5_takesCard_32 : decode cX5_takesCard 32 = .ok (.istore_n 2, 1) := by decide +kernel
theorem dX5_takesCard_33 : decode cX5_takesCard 33 = .ok (.iload_n 2, 1) := by decide +kernel
theorem dX5_takesCard_34 : decode cX5_takesCard 34 = .ok (.aload_n 0, 1) := by decide +kernel
theorem dX5_takesCard_35 : decode cX5_takesCard 35 = .ok (.getfield 21, 3) := by decide +kernel
theorem dX5_takesCard_38 : decode cX5_takesCard 38 = .ok (.getfield 86, 3) := by decide +kernel
theorem dX5_takesCard_41 : decode cX5_takesCard 41 = .ok (.if_icmp .ge 27, 3) := by decide +kernel
theorem dX5_takesCard_44 : decode cX5_takesCard 44 = .ok (.iload_n 1, 1) := by decide +kernel
theorem dX5_takesCard_45 : decode cX5_takesCard 45 = .ok (.aload_n 0, 1) := by decide +kernel
theorem dX5_takesCard_46 : decode cX5_takesCard 46 = .ok (.getfield 12, 3) := by decide +kernel
theorem dX5_takesCard_49 : decode cX5_takesCard 49 = .ok (.aload_n 0, 1) := by decide +kernel
theorem dX5_takesCard_50 : decode cX5_takesCard 50 = .ok (.getfield 39, 3) := by decide +kernel
theorem dX5_takesCard_53 : decode cX5_takesCard 53 = .ok (.iload_n 2, 1) := by decide +kernel
theorem dX5_takesCard_54 : decode cX5_takesCard 54 = .ok (.iadd, 1) := by decide +kernel
theorem dX5_takesCard_55 : decode cX5_takesCard 55 = .ok (.invokevirtual 95, 3) := by decide +kernel
theorem dX5_takesCard_58 : decode cX5_takesCard 58 = .ok (.iload_n 2, 1) := by decide +kernel
theorem dX5_takesCard_59 : decode cX5_takesCard 59 = .ok (.ishl, 1) := by decide +kernel
theorem dX5_takesCard_60 : decode cX5_takesCard 60 = .ok (.ior, 1) := by decide +kernel
theorem dX5_takesCard_61 : decode cX5_takesCard 61 = .ok (.istore_n 1, 1) := by decide +kernel
theorem dX5_takesCard_62 : decode cX5_takesCard 62 = .ok (.iinc 2 1, 3) := by decide +kernel
theorem dX5_takesCard_65 : decode cX5_takesCard 65 = .ok (.goto (-32), 3) := by decide +kernel
theorem dX5_takesCard_68 : decode cX5_takesCard 68 = .ok (.aload_n 0, 1) := by decide +kernel
theorem dX5_takesCard_69 : decode cX5_takesCard 69 = .ok (.iload_n 1, 1) := by decide +kernel
theorem dX5_takesCard_70 : decode cX5_takesCard 70 = .ok (.invokevirtual 103, 3) := by decide +kernel
theorem dX5_takesCard_73 : decode cX5_takesCard 73 = .ok (.iconst 1, 1) := by decide +kernel
theorem dX5_takesCard_74 : decode cX5_takesCard 74 = .ok (.ireturn, 1) := by decide +kernel
set_option maxRecDepth 20000 in
theorem ggX5_takesCloth_X5_areFiguresBelow : GoodIn wsX5_takesCloth wsX5_areFiguresBelow := goodIn_r _ [10, 2, 1, 5, 11, 12, 13, 14, 15, 16, 17, 40, 41, 42, 43, 44, 45, 46, 47, 54, 55] (by decide +kernel) (by decide +kernel)
set_option maxRecDepth 20000 in
theorem gX5_takesCloth_X5_areFiguresBelow : GoodIn wsX5_takesCloth (wsV RX5 89 RX5 yX5_areFiguresBelow wsX5_areFiguresBelow) := goodIn_app (goodIn_of _ (by decide +kernel)) ggX5_takesCloth_X5_areFiguresBelow
set_option maxRecDepth 20000 in
theorem ggX5_takesCloth_X2_hookOf : GoodIn wsX5_takesCloth wsX2_hookOf := goodIn_r _ [22, 23, 24, 25, 26, 21, 27, 28, 48, 49, 50, 51, 52, 53] (by decide +kernel) (by decide +kernel)
set_option maxRecDepth 20000 in
theorem gX5_takesCloth_X2_hookOf : GoodIn wsX5_takesCloth (wsV RX5 106 RX2 yX2_hookOf wsX2_hookOf) := goodIn_app (goodIn_of _ (by decide +kernel)) ggX5_takesCloth_X2_hookOf
set_option maxRecDepth 20000 in
theorem ggX5_takesCloth_X1_figureAt : GoodIn wsX5_takesCloth wsX1_figureAt := goodIn_r _ [15, 16, 17, 54, 55] (by decide +kernel) (by decide +kernel)
set_option maxRecDepth 20000 in
theorem gX5_takesCloth_X1_figureAt : GoodIn wsX5_takesCloth (wsV RX5 95 RX1 yX1_figureAt wsX1_figureAt) := goodIn_app (goodIn_of _ (by decide +kernel)) ggX5_takesCloth_X1_figureAt
set_option maxRecDepth 20000 in
theorem ggX5_takesCloth_X5_takeHoles : GoodIn wsX5_takesCloth wsX5_takeHoles := goodIn_r _ [32, 3, 33, 34, 35, 36, 21, 37, 38, 39, 40, 41, 42, 43, 44, 45, 46, 47, 48, 49, 50, 51, 52, 53] (by decide +kernel) (by decide +kernel)
set_option maxRecDepth 20000 in
theorem gX5_takesCloth_X5_takeHoles : GoodIn wsX5_takesCloth (wsV RX5 103 RX5 yX5_takeHoles wsX5_takeHoles) := goodIn_app (goodIn_of _ (by decide +kernel)) ggX5_takesCloth_X5_takeHoles
theorem dX5_takesCloth_0 : decode cX5_takesCloth 0 = .ok (.aload_n 0, 1) := by decide +kernel
theorem dX5_takesCloth_1 : decode cX5_takesCloth 1 = .ok (.getfield 43, 3) := by decide +kernel
theorem dX5_takesCloth_4 : decode cX5_takesCloth 4 = .ok (.aload_n 0, 1) := by decide +kernel
theorem dX5_takesCloth_5 : decode cX5_takesCloth 5 = .ok (.getfield 39, 3) := by decide +kernel
theorem dX5_takesCloth_8 : decode cX5_takesCloth 8 = .ok (.isub, 1) := by decide +kernel
theorem dX5_takesCloth_9 : decode cX5_takesCloth 9 = .ok (.aload_n 0, 1) := by decide +kernel
theorem dX5_takesCloth_10 : decode cX5_takesCloth 10 = .ok (.getfield 21, 3) := by decide +kernel
theorem dX5_takesCloth_13 : decode cX5_takesCloth 13 = .ok (.getfield 92, 3) := by decide +kernel
theorem dX5_takesCloth_16 : decode cX5_takesCloth 16 = .ok (.if_icmp .ne 11, 3) := by decide +kernel
theorem dX5_takesCloth_19 : decode cX5_takesCloth 19 = .ok (.aload_n 0, 1) := by decide +kernel
theorem dX5_takesCloth_20 : decode cX5_takesCloth 20 = .ok (.iconst 2, 1) := by decide +kernel
theorem dX5_takesCloth_21 : decode cX5_takesCloth 21 = .ok (.invokevirtual 89, 3) := by decide +kernel
theorem dX5_takesCloth_24 : decode cX5_takesCloth 24 = .ok (.ifCond .ne 5, 3) := by decide +kernel
theorem dX5_takesCloth_27 : decode cX5_takesCloth 27 = .ok (.iconst 0, 1) := by decide +kernel
theorem dX5_takesCloth_28 : decode cX5_takesCloth 28 = .ok (.ireturn, 1) := by decide +kernel
theorem dX5_takesCloth_29 : decode cX5_takesCloth 29 = .ok (.iconst 0, 1) := by decide +kernel
theorem dX5_takesCloth_30 : decode cX5_takesCloth 30 = .ok (.istore_n 1, 1) := by decide +kernel
theorem dX5_takesCloth_31 : decode cX5_takesCloth 31 = .ok (.iconst 0, 1) := by decide +kernel
theorem dX5_takesCloth_32 : decode cX5_takesCloth 32 = .ok (.istore_n 2, 1) := by decide +kernel
theorem dX5_takesCloth_33 : decode cX5_takesCloth 33 = .ok (.iconst 0, 1) := by decide +kernel
theorem dX5_takesCloth_34 : decode cX5_takesCloth 34 = .ok (.istore_n 3, 1) := by decide +kernel
theorem dX5_takesCloth_35 : decode cX5_takesCloth 35 = .ok (.iload_n 3, 1) := by decide +kernel
theorem dX5_takesCloth_36 : decode cX5_takesCloth 36 = .ok (.aload_n 0, 1) := by decide +kernel
theorem dX5_takesCloth_37 : decode cX5_takesCloth 37 = .ok (.getfield 21, 3) := by decide +kernel
theorem dX5_takesCloth_40 : decode cX5_takesCloth 40 = .ok (.getfield 92, 3) := by decide +kernel
theorem dX5_takesCloth_43 : decode cX5_takesCloth 43 = .ok (.if_icmp .ge 73, 3) := by decide +kernel
theorem dX5_takesCloth_46 : decode cX5_takesCloth 46 = .ok (.iconst 1, 1) := by decide +kernel
theorem dX5_takesCloth_47 : decode cX5_takesCloth 47 = .ok (.aload_n 0, 1) := by decide +kernel
theorem dX5_takesCloth_48 : decode cX5_takesCloth 48 = .ok (.getfield 21, 3) := by decide +kernel
theorem dX5_takesCloth_51 : decode cX5_takesCloth 51 = .ok (.iload_n 3, 1) := by decide +kernel
theorem dX5_takesCloth_52 : decode cX5_takesCloth 52 = .ok (.invokevirtual 106, 3) := by decide +kernel
theorem dX5_takesCloth_55 : decode cX5_takesCloth 55 = .ok (.ishl, 1) := by decide +kernel
theorem dX5_takesCloth_56 : decode cX5_takesCloth 56 = .ok (.istore 4, 2) := by decide +kernel
theorem dX5_takesCloth_58 : decode cX5_takesCloth 58 = .ok (.aload_n 0, 1) := by decide +kernel
theorem dX5_takesCloth_59 : decode cX5_takesCloth 59 = .ok (.getfield 12, 3) := by decide +kernel
theorem dX5_takesCloth_62 : decode cX5_takesCloth 62 = .ok (.aload_n 0, 1) := by decide +kernel
theorem dX5_takesCloth_63 : decode cX5_takesCloth 63 = .ok (.getfield 39, 3) := by decide +kernel
theorem dX5_takesCloth_66 : decode cX5_takesCloth 66 = .ok (.iload_n 3, 1) := by decide +kernel
theorem dX5_takesCloth_67 : decode cX5_takesCloth 67 = .ok (.iadd, 1) := by decide +kernel
theorem dX5_takesCloth_68 : decode cX5_takesCloth 68 = .ok (.invokevirtual 95, 3) := by decide +kernel
theorem dX5_takesCloth_71 : decode cX5_takesCloth 71 = .ok (.iconst 1, 1) := by decide +kernel
theorem dX5_takesCloth_72 : decode cX5_takesCloth 72 = .ok (.if_icmp .ne 7, 3) := by decide +kernel
theorem dX5_takesCloth_75 : decode cX5_takesCloth 75 = .ok (.iconst 1, 1) := by decide +kernel
theorem dX5_takesCloth_76 : decode cX5_takesCloth 76 = .ok (.goto 4, 3) := by decide +kernel
theorem dX5_takesCloth_79 : decode cX5_takesCloth 79 = .ok (.iconst 0, 1) := by decide +kernel
theorem dX5_takesCloth_80 : decode cX5_takesCloth 80 = .ok (.istore 5, 2) := by decide +kernel
theorem dX5_takesCloth_82 : decode cX5_takesCloth 82 = .ok (.iload_n 1, 1) := by decide +kernel
theorem dX5_takesCloth_83 : decode cX5_takesCloth 83 = .ok (.iload 5, 2) := by decide +kernel
theorem dX5_takesCloth_85 : decode cX5_takesCloth 85 = .ok (.ifCond .eq 8, 3) := by decide +kernel
theorem dX5_takesCloth_88 : decode cX5_takesCloth 88 = .ok (.iload 4, 2) := by decide +kernel
theorem dX5_takesCloth_90 : decode cX5_takesCloth 90 = .ok (.goto 4, 3) := by decide +kernel
theorem dX5_takesCloth_93 : decode cX5_takesCloth 93 = .ok (.iconst 0, 1) := by decide +kernel
theorem dX5_takesCloth_94 : decode cX5_takesCloth 94 = .ok (.ior, 1) := by decide +kernel
theorem dX5_takesCloth_95 : decode cX5_takesCloth 95 = .ok (.istore_n 1, 1) := by decide +kernel
theorem dX5_takesCloth_96 : decode cX5_takesCloth 96 = .ok (.iload_n 2, 1) := by decide +kernel
theorem dX5_takesCloth_97 : decode cX5_takesCloth 97 = .ok (.iload 5, 2) := by decide +kernel
theorem dX5_takesCloth_99 : decode cX5_takesCloth 99 = .ok (.ifCond .eq 7, 3) := by decide +kernel
theorem dX5_takesCloth_102 : decode cX5_takesCloth 102 = .ok (.iconst 0, 1) := by decide +kernel
theorem dX5_takesCloth_103 : decode cX5_takesCloth 103 = .ok (.goto 5, 3) := by decide +kernel
theorem dX5_takesCloth_106 : decode cX5_takesCloth 106 = .ok (.iload 4, 2) := by decide +kernel
theorem dX5_takesCloth_108 : decode cX5_takesCloth 108 = .ok (.ior, 1) := by decide +kernel
theorem dX5_takesCloth_109 : decode cX5_takesCloth 109 = .ok (.istore_n 2, 1) := by decide +kernel
theorem dX5_takesCloth_110 : decode cX5_takesCloth 110 = .ok (.iinc 3 1, 3) := by decide +kernel
theorem dX5_takesCloth_113 : decode cX5_takesCloth 113 = .ok (.goto (-78), 3) := by decide +kernel
theorem dX5_takesCloth_116 : decode cX5_takesCloth 116 = .ok (.iload_n 1, 1) := by decide +kernel
theorem dX5_takesCloth_117 : decode cX5_takesCloth 117 = .ok (.iload_n 2, 1) := by decide +kernel
theorem dX5_takesCloth_118 : decode cX5_takesCloth 118 = .ok (.iand, 1) := by decide +kernel
theorem dX5_takesCloth_119 : decode cX5_takesCloth 119 = .ok (.ifCond .eq 5, 3) := by decide +kernel
theorem dX5_takesCloth_122 : decode cX5_takesCloth 122 = .ok (.iconst 0, 1) := by decide +kernel
theorem dX5_takesCloth_123 : decode cX5_takesCloth 123 = .ok (.ireturn, 1) := by decide +kernel
theorem dX5_takesCloth_124 : decode cX5_takesCloth 124 = .ok (.aload_n 0, 1) := by decide +kernel
theorem dX5_takesCloth_125 : decode cX5_takesCloth 125 = .ok (.iload_n 1, 1) := by decide +kernel
theorem dX5_takesCloth_126 : decode cX5_takesCloth 126 = .ok (.invokevirtual 103, 3) := by decide +kernel
theorem dX5_takesCloth_129 : decode cX5_takesCloth 129 = .ok (.iconst 1, 1) := by decide +kernel
theorem dX5_takesCloth_130 : decode cX5_takesCloth 130 = .ok (.ireturn, 1) := by decide +kernel
set_option maxRecDepth 20000 in
theorem ggX5_takeHoles_X2_putBehind : GoodIn wsX5_takeHoles wsX2_putBehind := goodIn_r _ [7, 8, 9, 18, 19, 20, 21, 22, 23] (by decide +kernel) (by decide +kernel)
set_option maxRecDepth 20000 in
theorem gX5_takeHoles_X2_putBehind : GoodIn wsX5_takeHoles (wsV RX5 109 RX2 yX2_putBehind wsX2_putBehind) := goodIn_app (goodIn_of _ (by decide +kernel)) ggX5_takeHoles_X2_putBehind
theorem dX5_takeHoles_0 : decode cX5_takeHoles 0 = .ok (.aload_n 0, 1) := by decide +kernel
theorem dX5_takeHoles_1 : decode cX5_takeHoles 1 = .ok (.getfield 21, 3) := by decide +kernel
theorem dX5_takeHoles_4 : decode cX5_takeHoles 4 = .ok (.aload_n 0, 1) := by decide +kernel
theorem dX5_takeHoles_5 : decode cX5_takeHoles 5 = .ok (.getfield 53, 3) := by decide +kernel
theorem dX5_takeHoles_8 : decode cX5_takeHoles 8 = .ok (.iload_n 1, 1) := by decide +kernel
theorem dX5_takeHoles_9 : decode cX5_takeHoles 9 = .ok (.invokevirtual 109, 3) := by decide +kernel
theorem dX5_takeHoles_12 : decode cX5_takeHoles 12 = .ok (.aload_n 0, 1) := by decide +kernel
theorem dX5_takeHoles_13 : decode cX5_takeHoles 13 = .ok (.dup, 1) := by decide +kernel
theorem dX5_takeHoles_14 : decode cX5_takeHoles 14 = .ok (.getfield 53, 3) := by decide +kernel
theorem dX5_takeHoles_17 : decode cX5_takeHoles 17 = .ok (.iconst 1, 1) := by decide +kernel
theorem dX5_takeHoles_18 : decode cX5_takeHoles 18 = .ok (.iadd, 1) := by decide +kernel
theorem dX5_takeHoles_19 : decode cX5_takeHoles 19 = .ok (.putfield 53, 3) := by decide +kernel
theorem dX5_takeHoles_22 : decode cX5_takeHoles 22 = .ok (.return_, 1) := by decide +kernel
set_option maxRecDepth 20000 in
theorem ggX5_takesLimit_X5_number : GoodIn wsX5_takesLimit wsX5_number := goodIn_r _ [7, 8, 9, 10, 11, 12, 13, 14, 15, 16, 17, 18, 19, 20, 21, 22, 23, 24, 25, 32, 33] (by decide +kernel) (by decide +kernel)
set_option maxRecDepth 20000 in
theorem gX5_takesLimit_X5_number : GoodIn wsX5_takesLimit (wsV RX5 78 RX5 yX5_number wsX5_number) := goodIn_app (goodIn_of _ (by decide +kernel)) ggX5_takesLimit_X5_number
theorem dX5_takesLimit_0 : decode cX5_takesLimit 0 = .ok (.aload_n 0, 1) := by decide +kernel
theorem dX5_takesLimit_1 : decode cX5_takesLimit 1 = .ok (.invokevirtual 78, 3) := by decide +kernel
theorem dX5_takesLimit_4 : decode cX5_takesLimit 4 = .ok (.istore_n 1, 1) := by decide +kernel
theorem dX5_takesLimit_5 : decode cX5_takesLimit 5 = .ok (.iload_n 1, 1) := by decide +kernel
theorem dX5_takesLimit_6 : decode cX5_takesLimit 6 = .ok (.iconst 1, 1) := by decide +kernel
theorem dX5_takesLimit_7 : decode cX5_takesLimit 7 = .ok (.if_icmp .lt 9, 3) := by decide +kernel
theorem dX5_takesLimit_10 : decode cX5_takesLimit 10 = .ok (.iload_n 1, 1) := by decide +kernel
theorem dX5_takesLimit_11 : decode cX5_takesLimit 11 = .ok (.bipush 12, 2) := by decide +kernel
theorem dX5_takesLimit_13 : decode cX5_takesLimit 13 = .ok (.if_icmp .le 5, 3) := by decide +kernel
theorem dX5_takesLimit_16 : decode cX5_takesLimit 16 = .ok (.iconst 0, 1) := by decide +kernel
theorem dX5_takesLimit_17 : decode cX5_takesLimit 17 = .ok (.ireturn, 1) := by decide +kernel
theorem dX5_takesLimit_18 : decode cX5_takesLimit 18 = .ok (.aload_n 0, 1) := by decide +kernel
theorem dX5_takesLimit_19 : decode cX5_takesLimit 19 = .ok (.getfield 21, 3) := by decide +kernel
theorem dX5_takesLimit_22 : decode cX5_takesLimit 22 = .ok (.iload_n 1, 1) := by decide +kernel
theorem dX5_takesLimit_23 : decode cX5_takesLimit 23 = .ok (.putfield 112, 3) := by decide +kernel
theorem dX5_takesLimit_26 : decode cX5_takesLimit 26 = .ok (.iconst 1, 1) := by decide +kernel
theorem dX5_takesLimit_27 : decode cX5_takesLimit 27 = .ok (.ireturn, 1) := by decide +kernel
set_option maxRecDepth 20000 in
theorem ggX5_number_X1_figureAt : GoodIn wsX5_number wsX1_figureAt := goodIn_r _ [8, 9, 10, 19, 20] (by decide +kernel) (by decide +kernel)
set_option maxRecDepth 20000 in
theorem gX5_number_X1_figureAt : GoodIn wsX5_number (wsV RX5 95 RX1 yX1_figureAt wsX1_figureAt) := goodIn_app (goodIn_of _ (by decide +kernel)) ggX5_number_X1_figureAt
theorem dX5_number_0 : decode cX5_number 0 = .ok (.aload_n 0, 1) := by decide +kernel
theorem dX5_number_1 : decode cX5_number 1 = .ok (.getfield 43, 3) := by decide +kernel
theorem dX5_number_4 : decode cX5_number 4 = .ok (.aload_n 0, 1) := by decide +kernel
theorem dX5_number_5 : decode cX5_number 5 = .ok (.getfield 39, 3) := by decide +kernel
theorem dX5_number_8 : decode cX5_number 8 = .ok (.isub, 1) := by decide +kernel
theorem dX5_number_9 : decode cX5_number 9 = .ok (.istore_n 1, 1) := by decide +kernel
theorem dX5_number_10 : decode cX5_number 10 = .ok (.aload_n 0, 1) := by decide +kernel
theorem dX5_number_11 : decode cX5_number 11 = .ok (.getfield 12, 3) := by decide +kernel
theorem dX5_number_14 : decode cX5_number 14 = .ok (.aload_n 0, 1) := by decide +kernel
theorem dX5_number_15 : decode cX5_number 15 = .ok (.getfield 39, 3) := by decide +kernel
theorem dX5_number_18 : decode cX5_number 18 = .ok (.invokevirtual 95, 3) := by decide +kernel
theorem dX5_number_21 : decode cX5_number 21 = .ok (.istore_n 2, 1) := by decide +kernel
theorem dX5_number_22 : decode cX5_number 22 = .ok (.iload_n 1, 1) := by decide +kernel
theorem dX5_number_23 : decode cX5_number 23 = .ok (.iconst 2, 1) := by decide +kernel
theorem dX5_number_24 : decode cX5_number 24 = .ok (.if_icmp .gt 7, 3) := by decide +kernel
theorem dX5_number_27 : decode cX5_number 27 = .ok (.iload_n 2, 1) := by decide +kernel
theorem dX5_number_28 : decode cX5_number 28 = .ok (.ifCond .ne 5, 3) := by decide +kernel
theorem dX5_number_31 : decode cX5_number 31 = .ok (.iconst 0, 1) := by decide +kernel
theorem dX5_number_32 : decode cX5_number 32 = .ok (.ireturn, 1) := by decide +kernel
theorem dX5_number_33 : decode cX5_number 33 = .ok (.iload_n 1, 1) := by decide +kernel
theorem dX5_number_34 : decode cX5_number 34 = .ok (.iconst 1, 1) := by decide +kernel
theorem dX5_number_35 : decode cX5_number 35 = .ok (.if_icmp .ne 7, 3) := by decide +kernel
theorem dX5_number_38 : decode cX5_number 38 = .ok (.iload_n 2, 1) := by decide +kernel
theorem dX5_number_39 : decode cX5_number 39 = .ok (.goto 21, 3) := by decide +kernel
theorem dX5_number_42 : decode cX5_number 42 = .ok (.bipush 10, 2) := by decide +kernel
theorem dX5_number_44 : decode cX5_number 44 = .ok (.iload_n 2, 1) := by decide +kernel
theorem dX5_number_45 : decode cX5_number 45 = .ok (.imul, 1) := by decide +kernel
theorem dX5_number_46 : decode cX5_number 46 = .ok (.aload_n 0, 1) := by decide +kernel
theorem dX5_number_47 : decode cX5_number 47 = .ok (.getfield 12, 3) := by decide +kernel
theorem dX5_number_50 : decode cX5_number 50 = .ok (.aload_n 0, 1) := by decide +kernel
theorem dX5_number_51 : decode cX5_number 51 = .ok (.getfield 39, 3) := by decide +kernel
theorem dX5_number_54 : decode cX5_number 54 = .ok (.iconst 1, 1) := by decide +kernel
theorem dX5_number_55 : decode cX5_number 55 = .ok (.iadd, 1) := by decide +kernel
theorem dX5_number_56 : decode cX5_number 56 = .ok (.invokevirtual 95, 3) := by decide +kernel
theorem dX5_number_59 : decode cX5_number 59 = .ok (.iadd, 1) := by decide +kernel
theorem dX5_number_60 : decode cX5_number 60 = .ok (.ireturn, 1) := by decide +kernel
set_option maxRecDepth 20000 in
theorem ggX5_areFiguresBelow_X1_figureAt : GoodIn wsX5_areFiguresBelow wsX1_figureAt := goodIn_r _ [8, 9, 10, 19, 20] (by decide +kernel) (by decide +kernel)
set_option maxRecDepth 20000 in
theorem gX5_areFiguresBelow_X1_figureAt : GoodIn wsX5_areFiguresBelow (wsV RX5 95 RX1 yX1_figureAt wsX1_figureAt) := goodIn_app (goodIn_of _ (by decide +kernel)) ggX5_areFiguresBelow_X1_figureAt
theorem dX5_areFiguresBelow_0 : decode cX5_areFiguresBelow 0 = .ok (.aload_n 0, 1) := by decide +kernel
theorem dX5_areFiguresBelow_1 : decode cX5_areFiguresBelow 1 = .ok (.getfield 39, 3) := by decide +kernel
theorem dX5_areFiguresBelow_4 : decode cX5_areFiguresBelow 4 = .ok (.istore_n 2, 1) := by decide +kernel
theorem dX5_areFiguresBelow_5 : decode cX5_areFiguresBelow 5 = .ok (.iload_n 2, 1) := by decide +kernel
theorem dX5_areFiguresBelow_6 : decode cX5_areFiguresBelow 6 = .ok (.aload_n 0, 1) := by decide +kernel
theorem dX5_areFiguresBelow_7 : decode cX5_areFiguresBelow 7 = .ok (.getfield 43, 3) := by decide +kernel
theorem dX5_areFiguresBelow_10 : decode cX5_areFiguresBelow 10 = .ok (.if_icmp .ge 23, 3) := by decide +kernel
theorem dX5_areFiguresBelow_13 : decode cX5_areFiguresBelow 13 = .ok (.aload_n 0, 1) := by decide +kernel
theorem dX5_areFiguresBelow_14 : decode cX5_areFiguresBelow 14 = .ok (.getfield 12, 3) := by decide +kernel
theorem dX5_areFiguresBelow_17 : decode cX5_areFiguresBelow 17 = .ok (.iload_n 2, 1) := by decide +kernel
theorem dX5_areFiguresBelow_18 : decode cX5_areFiguresBelow 18 = .ok (.invokevirtual 95, 3) := by decide +kernel
theorem dX5_areFiguresBelow_21 : decode cX5_areFiguresBelow 21 = .ok (.iload_n 1, 1) := by decide +kernel
theorem dX5_areFiguresBelow_22 : decode cX5_areFiguresBelow 22 = .ok (.if_icmp .lt 5, 3) := by decide +kernel
theorem dX5_areFiguresBelow_25 : decode cX5_areFiguresBelow 25 = .ok (.iconst 0, 1) := by decide +kernel
theorem dX5_areFiguresBelow_26 : decode cX5_areFiguresBelow 26 = .ok (.ireturn, 1) := by decide +kernel
theorem dX5_areFiguresBelow_27 : decode cX5_areFiguresBelow 27 = .ok (.iinc 2 1, 3) := by decide +kernel
theorem dX5_areFiguresBelow_30 : decode cX5_areFiguresBelow 30 = .ok (.goto (-25), 3) := by decide +kernel
theorem dX5_areFiguresBelow_33 : decode cX5_areFiguresBelow 33 = .ok (.iconst 1, 1) := by decide +kernel
theorem dX5_areFiguresBelow_34 : decode cX5_areFiguresBelow 34 = .ok (.ireturn, 1) := by decide +kernel
set_option maxRecDepth 20000 in
theorem ggX5_nextToken_X5_placeBehindBlanks : GoodIn wsX5_nextToken wsX5_placeBehindBlanks := goodIn_r _ [10, 3, 5, 11, 12, 13, 14, 15, 16, 17, 90, 91, 92, 93, 94, 95, 96, 97, 98, 99] (by decide +kernel) (by decide +kernel)
set_option maxRecDepth 20000 in
theorem gX5_nextToken_X5_placeBehindBlanks : GoodIn wsX5_nextToken (wsV RX5 115 RX5 yX5_placeBehindBlanks wsX5_placeBehindBlanks) := goodIn_app (goodIn_of _ (by decide +kernel)) ggX5_nextToken_X5_placeBehindBlanks
set_option maxRecDepth 20000 in
theorem ggX5_nextToken_X1_at : GoodIn wsX5_nextToken wsX1_at := goodIn_r _ [15, 16, 17, 98, 99] (by decide +kernel) (by decide +kernel)
set_option maxRecDepth 20000 in
theorem gX5_nextToken_X1_at : GoodIn wsX5_nextToken (wsV RX5 118 RX1 yX1_at wsX1_at) := goodIn_app (goodIn_of _ (by decide +kernel)) ggX5_nextToken_X1_at
set_option maxRecDepth 20000 in
theorem ggX5_nextToken_X5_isFigure : GoodIn wsX5_nextToken wsX5_isFigure := goodIn_r _ [20] (by decide +kernel) (by decide +kernel)
set_option maxRecDepth 20000 in
theorem gX5_nextToken_X5_isFigure : GoodIn wsX5_nextToken (va_wsS RX5 121 yX5_isFigure wsX5_isFigure) := goodIn_app (goodIn_of _ (by decide +kernel)) ggX5_nextToken_X5_isFigure
set_option maxRecDepth 20000 in
theorem ggX5_nextToken_X5_placeBehindFigures : GoodIn wsX5_nextToken wsX5_placeBehindFigures := goodIn_r _ [24, 3, 5, 11, 12, 13, 14, 15, 16, 17, 18, 19, 9, 20, 90, 91, 92, 93, 94, 95, 96, 97, 98, 99] (by decide +kernel) (by decide +kernel)
set_option maxRecDepth 20000 in
theorem gX5_nextToken_X5_placeBehindFigures : GoodIn wsX5_nextToken (wsV RX5 124 RX5 yX5_placeBehindFigures wsX5_placeBehindFigures) := goodIn_app (goodIn_of _ (by decide +kernel)) ggX5_nextToken_X5_placeBehindFigures
set_option maxRecDepth 20000 in
theorem ggX5_nextToken_X5_isWordLetter : GoodIn wsX5_nextToken wsX5_isWordLetter := goodIn_r _ [27] (by decide +kernel) (by decide +kernel)
set_option maxRecDepth 20000 in
theorem gX5_nextToken_X5_isWordLetter : GoodIn wsX5_nextToken (va_wsS RX5 127 yX5_isWordLetter wsX5_isWordLetter) := goodIn_app (goodIn_of _ (by decide +kernel)) ggX5_nextToken_X5_isWordLetter
set_option maxRecDepth 20000 in
theorem ggX5_nextToken_X5_placeBehindWord : GoodIn wsX5_nextToken wsX5_placeBehindWord := goodIn_r _ [31, 3, 5, 11, 12, 13, 14, 15, 16, 17, 25, 26, 9, 27, 90, 91, 92, 93, 94, 95, 96, 97, 98, 99] (by decide +kernel) (by decide +kernel)
set_option maxRecDepth 20000 in
theorem gX5_nextToken_X5_placeBehindWord : GoodIn wsX5_nextToken (wsV RX5 130 RX5 yX5_placeBehindWord wsX5_placeBehindWord) := goodIn_app (goodIn_of _ (by decide +kernel)) ggX5_nextToken_X5_placeBehindWord
set_option maxRecDepth 20000 in
theorem ggX5_nextToken_X5_kindOfWord : GoodIn wsX5_nextToken wsX5_kindOfWord := goodIn_r _ [35, 3, 2, 1, 36, 37, 38, 14, 39, 40, 41, 42, 43, 44, 45, 46, 47, 48, 49, 50, 51, 52, 12, 13, 15, 16, 17, 53, 54, 55, 56, 57, 58, 59, 60, 61, 62, 63, 64, 65, 66, 67, 68, 69, 70, 71, 72, 73, 74, 75, 76, 77, 78, 79, 80, 81, 82, 83, 84, 85, 86, 87, 88, 89, 90, 91, 92, 93, 94, 95, 96, 97, 98, 99] (by decide +kernel) (by decide +kernel)
set_option maxRecDepth 20000 in
theorem gX5_nextToken_X5_kindOfWord : GoodIn wsX5_nextToken (wsV RX5 133 RX5 yX5_kindOfWord wsX5_kindOfWord) := goodIn_app (goodIn_of _ (by decide +kernel)) ggX5_nextToken_X5_kindOfWord
theorem dX5_nextToken_0 : decode cX5_nextToken 0 = .ok (.aload_n 0, 1) := by decide +kernel
theorem dX5_nextToken_1 : decode cX5_nextToken 1 = .ok (.aload_n 0, 1) := by decide +kernel
theorem dX5_nextToken_2 : decode cX5_nextToken 2 = .ok (.aload_n 0, 1) := by decide +kernel
theorem dX5_nextToken_3 : decode cX5_nextToken 3 = .ok (.getfield 43, 3) := by decide +kernel
theorem dX5_nextToken_6 : decode cX5_nextToken 6 = .ok (.invokevirtual 115, 3) := by decide +kernel
theorem dX5_nextToken_9 : decode cX5_nextToken 9 = .ok (.putfield 39, 3) := by decide +kernel
theorem dX5_nextToken_12 : decode cX5_nextToken 12 = .ok (.aload_n 0, 1) := by decide +kernel
theorem dX5_nextToken_13 : decode cX5_nextToken 13 = .ok (.getfield 12, 3) := by decide +kernel
theorem dX5_nextToken_16 : decode cX5_nextToken 16 = .ok (.aload_n 0, 1) := by decide +kernel
theorem dX5_nextToken_17 : decode cX5_nextToken 17 = .ok (.getfield 39, 3) := by decide +kernel
theorem dX5_nextToken_20 : decode cX5_nextToken 20 = .ok (.invokevirtual 118, 3) := by decide +kernel
theorem dX5_nextToken_23 : decode cX5_nextToken 23 = .ok (.istore_n 1, 1) := by decide +kernel
theorem dX5_nextToken_24 : decode cX5_nextToken 24 = .ok (.iload_n 1, 1) := by decide +kernel
theorem dX5_nextToken_25 : decode cX5_nextToken 25 = .ok (.invokestatic 121, 3) := by decide +kernel
theorem dX5_nextToken_28 : decode cX5_nextToken 28 = .ok (.ifCond .eq 23, 3) := by decide +kernel
theorem dX5_nextToken_31 : decode cX5_nextToken 31 = .ok (.aload_n 0, 1) := by decide +kernel
theorem dX5_nextToken_32 : decode cX5_nextToken 32 = .ok (.aload_n 0, 1) := by decide +kernel
theorem dX5_nextToken_33 : decode cX5_nextToken 33 = .ok (.aload_n 0, 1) := by decide +kernel
theorem dX5_nextToken_34 : decode cX5_nextToken 34 = .ok (.getfield 39, 3) := by decide +kernel
theorem dX5_nextToken_37 : decode cX5_nextToken 37 = .ok (.invokevirtual 124, 3) := by decide +kernel
theorem dX5_nextToken_40 : decode cX5_nextToken 40 = .ok (.putfield 43, 3) := by decide +kernel
theorem dX5_nextToken_43 : decode cX5_nextToken 43 = .ok (.aload_n 0, 1) := by decide +kernel
theorem dX5_nextToken_44 : decode cX5_nextToken 44 = .ok (.iconst 2, 1) := by decide +kernel
theorem dX5_nextToken_45 : decode cX5_nextToken 45 = .ok (.putfield 31, 3) := by decide +kernel
theorem dX5_nextToken_48 : decode cX5_nextToken 48 = .ok (.goto 88, 3) := by decide +kernel
theorem dX5_nextToken_51 : decode cX5_nextToken 51 = .ok (.iload_n 1, 1) := by decide +kernel
theorem dX5_nextToken_52 : decode cX5_nextToken 52 = .ok (.invokestatic 127, 3) := by decide +kernel
theorem dX5_nextToken_55 : decode cX5_nextToken 55 = .ok (.ifCond .eq 26, 3) := by decide +kernel
theorem dX5_nextToken_58 : decode cX5_nextToken 58 = .ok (.aload_n 0, 1) := by decide +kernel
theorem dX5_nextToken_59 : decode cX5_nextToken 59 = .ok (.aload_n 0, 1) := by decide +kernel
theorem dX5_nextToken_60 : decode cX5_nextToken 60 = .ok (.aload_n 0, 1) := by decide +kernel
theorem dX5_nextToken_61 : decode cX5_nextToken 61 = .ok (.getfield 39, 3) := by decide +kernel
theorem dX5_nextToken_64 : decode cX5_nextToken 64 = .ok (.invokevirtual 130, 3) := by decide +kernel
theorem dX5_nextToken_67 : decode cX5_nextToken 67 = .ok (.putfield 43, 3) := by decide +kernel
theorem dX5_nextToken_70 : decode cX5_nextToken 70 = .ok (.aload_n 0, 1) := by decide +kernel
theorem dX5_nextToken_71 : decode cX5_nextToken 71 = .ok (.aload_n 0, 1) := by decide +kernel
theorem dX5_nextToken_72 : decode cX5_nextToken 72 = .ok (.invokevirtual 133, 3) := by decide +kernel
theorem dX5_nextToken_75 : decode cX5_nextToken 75 = .ok (.putfield 31, 3) := by decide +kernel
theorem dX5_nextToken_78 : decode cX5_nextToken 78 = .ok (.goto 58, 3) := by decide +kernel
theorem dX5_nextToken_81 : decode cX5_nextToken 81 = .ok (.aload_n 0, 1) := by decide +kernel
theorem dX5_nextToken_82 : decode cX5_nextToken 82 = .ok (.getfield 39, 3) := by decide +kernel
theorem dX5_nextToken_85 : decode cX5_nextToken 85 = .ok (.aload_n 0, 1) := by decide +kernel
theorem dX5_nextToken_86 : decode cX5_nextToken 86 = .ok (.getfield 12, 3) := by decide +kernel
theorem dX5_nextToken_89 : decode cX5_nextToken 89 = .ok (.getfield 136, 3) := by decide +kernel
theorem dX5_nextToken_92 : decode cX5_nextToken 92 = .ok (.if_icmp .lt 19, 3) := by decide +kernel
theorem dX5_nextToken_95 : decode cX5_nextToken 95 = .ok (.aload_n 0, 1) := by decide +kernel
theorem dX5_nextToken_96 : decode cX5_nextToken 96 = .ok (.aload_n 0, 1) := by decide +kernel
theorem dX5_nextToken_97 : decode cX5_nextToken 97 = .ok (.getfield 39, 3) := by decide +kernel
theorem dX5_nextToken_100 : decode cX5_nextToken 100 = .ok (.putfield 43, 3) := by decide +kernel
theorem dX5_nextToken_103 : decode cX5_nextToken 103 = .ok (.aload_n 0, 1) := by decide +kernel
theorem dX5_nextToken_104 : decode cX5_nextToken 104 = .ok (.iconst 0, 1) := by decide +kernel
theorem dX5_nextToken_105 : decode cX5_nextToken 105 = .ok (.putfield 31, 3) := by decide +kernel
theorem dX5_nextToken_108 : decode cX5_nextToken 108 = .ok (.goto 28, 3) := by decide +kernel
theorem dX5_nextToken_111 : decode cX5_nextToken 111 = .ok (.aload_n 0, 1) := by decide +kernel
theorem dX5_nextToken_112 : decode cX5_nextToken 112 = .ok (.aload_n 0, 1) := by decide +kernel
theorem dX5_nextToken_113 : decode cX5_nextToken 113 = .ok (.getfield 39, 3) := by decide +kernel
theorem dX5_nextToken_116 : decode cX5_nextToken 116 = .ok (.iconst 1, 1) := by decide +kernel
theorem dX5_nextToken_117 : decode cX5_nextToken 117 = .ok (.iadd, 1) := by decide +kernel
theorem dX5_nextToken_118 : decode cX5_nextToken 118 = .ok (.putfield 43, 3) := by decide +kernel
theorem dX5_nextToken_121 : decode cX5_nextToken 121 = .ok (.aload_n 0, 1) := by decide +kernel
theorem dX5_nextToken_122 : decode cX5_nextToken 122 = .ok (.iload_n 1, 1) := by decide +kernel
theorem dX5_nextToken_123 : decode cX5_nextToken 123 = .ok (.bipush 59, 2) := by decide +kernel
theorem dX5_nextToken_125 : decode cX5_nextToken 125 = .ok (.if_icmp .ne 7, 3) := by decide +kernel
theorem dX5_nextToken_128 : decode cX5_nextToken 128 = .ok (.iconst 1, 1) := by decide +kernel
theorem dX5_nextToken_129 : decode cX5_nextToken 129 = .ok (.goto 4, 3) := by decide +kernel
theorem dX5_nextToken_132 : decode cX5_nextToken 132 = .ok (.iconst 3, 1) := by decide +kernel
theorem dX5_nextToken_133 : decode cX5_nextToken 133 = .ok (.putfield 31, 3) := by decide +kernel
theorem dX5_nextToken_136 : decode cX5_nextToken 136 = .ok (.return_, 1) := by decide +kernel
set_option maxRecDepth 20000 in
theorem ggX5_kindOfWord_X1_isFrom : GoodIn wsX5_kindOfWord wsX1_isFrom := goodIn_r _ [8, 9, 10, 11, 12, 13, 14, 15, 16, 17, 18, 19, 20, 21, 22, 23, 7, 24, 25, 26, 27, 28, 29, 30, 31, 32, 33, 34, 35, 36, 37, 38, 39, 40, 41, 42, 43, 44, 45, 46, 47, 48, 49, 50, 51, 52, 53, 54, 55, 56, 57, 58, 59, 60, 61, 62, 63, 72, 73] (by decide +kernel) (by decide +kernel)
set_option maxRecDepth 20000 in
theorem gX5_kindOfWord_X1_isFrom : GoodIn wsX5_kindOfWord (wsV RX5 140 RX1 yX1_isFrom wsX1_isFrom) := goodIn_app (goodIn_of _ (by decide +kernel)) ggX5_kindOfWord_X1_isFrom
