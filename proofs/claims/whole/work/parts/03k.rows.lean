theorem dX7_sees_66 : decode cX7_sees 66 = .ok (.getfield 184, 3) := by decide +kernel
theorem dX7_sees_69 : decode cX7_sees 69 = .ok (.imul, 1) := by decide +kernel
theorem dX7_sees_70 : decode cX7_sees 70 = .ok (.iconst 1, 1) := by decide +kernel
theorem dX7_sees_71 : decode cX7_sees 71 = .ok (.iadd, 1) := by decide +kernel
theorem dX7_sees_72 : decode cX7_sees 72 = .ok (.iload_n 2, 1) := by decide +kernel
theorem dX7_sees_73 : decode cX7_sees 73 = .ok (.iastore, 1) := by decide +kernel
theorem dX7_sees_74 : decode cX7_sees 74 = .ok (.aload_n 0, 1) := by decide +kernel
theorem dX7_sees_75 : decode cX7_sees 75 = .ok (.getfield 26, 3) := by decide +kernel
theorem dX7_sees_78 : decode cX7_sees 78 = .ok (.iconst 3, 1) := by decide +kernel
theorem dX7_sees_79 : decode cX7_sees 79 = .ok (.aload_n 0, 1) := by decide +kernel
theorem dX7_sees_80 : decode cX7_sees 80 = .ok (.getfield 184, 3) := by decide +kernel
theorem dX7_sees_83 : decode cX7_sees 83 = .ok (.imul, 1) := by decide +kernel
theorem dX7_sees_84 : decode cX7_sees 84 = .ok (.iconst 2, 1) := by decide +kernel
theorem dX7_sees_85 : decode cX7_sees 85 = .ok (.iadd, 1) := by decide +kernel
theorem dX7_sees_86 : decode cX7_sees 86 = .ok (.iload_n 3, 1) := by decide +kernel
theorem dX7_sees_87 : decode cX7_sees 87 = .ok (.iastore, 1) := by decide +kernel
theorem dX7_sees_88 : decode cX7_sees 88 = .ok (.aload_n 0, 1) := by decide +kernel
theorem dX7_sees_89 : decode cX7_sees 89 = .ok (.dup, 1) := by decide +kernel
theorem dX7_sees_90 : decode cX7_sees 90 = .ok (.getfield 184, 3) := by decide +kernel
theorem dX7_sees_93 : decode cX7_sees 93 = .ok (.iconst 1, 1) := by decide +kernel
theorem dX7_sees_94 : decode cX7_sees 94 = .ok (.iadd, 1) := by decide +kernel
theorem dX7_sees_95 : decode cX7_sees 95 = .ok (.putfield 184, 3) := by decide +kernel
theorem dX7_sees_98 : decode cX7_sees 98 = .ok (.aload_n 0, 1) := by decide +kernel
theorem dX7_sees_99 : decode cX7_sees 99 = .ok (.getfield 184, 3) := by decide +kernel
theorem dX7_sees_102 : decode cX7_sees 102 = .ok (.ireturn, 1) := by decide +kernel
theorem dX7_forget_0 : decode cX7_forget 0 = .ok (.aload_n 0, 1) := by decide +kernel
theorem dX7_forget_1 : decode cX7_forget 1 = .ok (.iconst 0, 1) := by decide +kernel
theorem dX7_forget_2 : decode cX7_forget 2 = .ok (.putfield 37, 3) := by decide +kernel
theorem dX7_forget_5 : decode cX7_forget 5 = .ok (.aload_n 0, 1) := by decide +kernel
theorem dX7_forget_6 : decode cX7_forget 6 = .ok (.getfield 184, 3) := by decide +kernel
theorem dX7_forget_9 : decode cX7_forget 9 = .ok (.istore_n 1, 1) := by decide +kernel
theorem dX7_forget_10 : decode cX7_forget 10 = .ok (.aload_n 0, 1) := by decide +kernel
theorem dX7_forget_11 : decode cX7_forget 11 = .ok (.iconst 0, 1) := by decide +kernel
theorem dX7_forget_12 : decode cX7_forget 12 = .ok (.putfield 184, 3) := by decide +kernel
theorem dX7_forget_15 : decode cX7_forget 15 = .ok (.iload_n 1, 1) := by decide +kernel
theorem dX7_forget_16 : decode cX7_forget 16 = .ok (.ireturn, 1) := by decide +kernel
set_option maxRecDepth 20000 in
theorem ggX7_areSo_X7_isEnd : GoodIn wsX7_areSo wsX7_isEnd := goodIn_r _ [7, 8, 9, 10, 6, 11, 16, 17, 18, 19, 20, 21, 22, 23, 24, 25, 26, 27, 28, 29, 30, 31, 32, 33, 34] (by decide +kernel) (by decide +kernel)
set_option maxRecDepth 20000 in
theorem gX7_areSo_X7_isEnd : GoodIn wsX7_areSo (wsV RX7 124 RX7 yX7_isEnd wsX7_isEnd) := goodIn_app (goodIn_of _ (by decide +kernel)) ggX7_areSo_X7_isEnd
set_option maxRecDepth 20000 in
theorem ggX7_areSo_X7_isUp : GoodIn wsX7_areSo wsX7_isUp := goodIn_r _ [15, 8, 16, 17, 18, 19, 20, 21, 22, 23, 24, 25, 26, 27, 28, 29, 30, 31, 32, 33, 34] (by decide +kernel) (by decide +kernel)
set_option maxRecDepth 20000 in
theorem gX7_areSo_X7_isUp : GoodIn wsX7_areSo (wsV RX7 130 RX7 yX7_isUp wsX7_isUp) := goodIn_app (goodIn_of _ (by decide +kernel)) ggX7_areSo_X7_isUp
theorem dX7_areSo_0 : decode cX7_areSo 0 = .ok (.iconst 1, 1) := by decide +kernel
theorem dX7_areSo_1 : decode cX7_areSo 1 = .ok (.istore_n 1, 1) := by decide +kernel
theorem dX7_areSo_2 : decode cX7_areSo 2 = .ok (.iconst 0, 1) := by decide +kernel
theorem dX7_areSo_3 : decode cX7_areSo 3 = .ok (.istore_n 2, 1) := by decide +kernel
theorem dX7_areSo_4 : decode cX7_areSo 4 = .ok (.iload_n 2, 1) := by decide +kernel
theorem dX7_areSo_5 : decode cX7_areSo 5 = .ok (.aload_n 0, 1) := by decide +kernel
theorem dX7_areSo_6 : decode cX7_areSo 6 = .ok (.getfield 184, 3) := by decide +kernel
theorem dX7_areSo_9 : decode cX7_areSo 9 = .ok (.if_icmp .ge 73, 3) := by decide +kernel
theorem dX7_areSo_12 : decode cX7_areSo 12 = .ok (.iload_n 1, 1) := by decide +kernel
theorem dX7_areSo_13 : decode cX7_areSo 13 = .ok (.ifCond .eq 69, 3) := by decide +kernel
theorem dX7_areSo_16 : decode cX7_areSo 16 = .ok (.aload_n 0, 1) := by decide +kernel
theorem dX7_areSo_17 : decode cX7_areSo 17 = .ok (.getfield 26, 3) := by decide +kernel
theorem dX7_areSo_20 : decode cX7_areSo 20 = .ok (.iconst 3, 1) := by decide +kernel
theorem dX7_areSo_21 : decode cX7_areSo 21 = .ok (.iload_n 2, 1) := by decide +kernel
theorem dX7_areSo_22 : decode cX7_areSo 22 = .ok (.imul, 1) := by decide +kernel
theorem dX7_areSo_23 : decode cX7_areSo 23 = .ok (.iconst 1, 1) := by decide +kernel
theorem dX7_areSo_24 : decode cX7_areSo 24 = .ok (.iadd, 1) := by decide +kernel
theorem dX7_areSo_25 : decode cX7_areSo 25 = .ok (.iaload, 1) := by decide +kernel
theorem dX7_areSo_26 : decode cX7_areSo 26 = .ok (.istore_n 3, 1) := by decide +kernel
theorem dX7_areSo_27 : decode cX7_areSo 27 = .ok (.aload_n 0, 1) := by decide +kernel
theorem dX7_areSo_28 : decode cX7_areSo 28 = .ok (.iload_n 3, 1) := by decide +kernel
theorem dX7_areSo_29 : decode cX7_areSo 29 = .ok (.invokevirtual 124, 3) := by decide +kernel
theorem dX7_areSo_32 : decode cX7_areSo 32 = .ok (.ifCond .eq 42, 3) := by decide +kernel
theorem dX7_areSo_35 : decode cX7_areSo 35 = .ok (.aload_n 0, 1) := by decide +kernel
theorem dX7_areSo_36 : decode cX7_areSo 36 = .ok (.aload_n 0, 1) := by decide +kernel
theorem dX7_areSo_37 : decode cX7_areSo 37 = .ok (.getfield 26, 3) := by decide +kernel
theorem dX7_areSo_40 : decode cX7_areSo 40 = .ok (.iconst 3, 1) := by decide +kernel
theorem dX7_areSo_41 : decode cX7_areSo 41 = .ok (.iload_n 2, 1) := by decide +kernel
theorem dX7_areSo_42 : decode cX7_areSo 42 = .ok (.imul, 1) := by decide +kernel
theorem dX7_areSo_43 : decode cX7_areSo 43 = .ok (.iaload, 1) := by decide +kernel
theorem dX7_areSo_44 : decode cX7_areSo 44 = .ok (.iload_n 3, 1) := by decide +kernel
theorem dX7_areSo_45 : decode cX7_areSo 45 = .ok (.invokevirtual 130, 3) := by decide +kernel
theorem dX7_areSo_48 : decode cX7_areSo 48 = .ok (.aload_n 0, 1) := by decide +kernel
theorem dX7_areSo_49 : decode cX7_areSo 49 = .ok (.getfield 26, 3) := by decide +kernel
theorem dX7_areSo_52 : decode cX7_areSo 52 = .ok (.iconst 3, 1) := by decide +kernel
theorem dX7_areSo_53 : decode cX7_areSo 53 = .ok (.iload_n 2, 1) := by decide +kernel
theorem dX7_areSo_54 : decode cX7_areSo 54 = .ok (.imul, 1) := by decide +kernel
theorem dX7_areSo_55 : decode cX7_areSo 55 = .ok (.iconst 2, 1) := by decide +kernel
theorem dX7_areSo_56 : decode cX7_areSo 56 = .ok (.iadd, 1) := by decide +kernel
theorem dX7_areSo_57 : decode cX7_areSo 57 = .ok (.iaload, 1) := by decide +kernel
theorem dX7_areSo_58 : decode cX7_areSo 58 = .ok (.iconst 1, 1) := by decide +kernel
theorem dX7_areSo_59 : decode cX7_areSo 59 = .ok (.if_icmp .ne 7, 3) := by decide +kernel
theorem dX7_areSo_62 : decode cX7_areSo 62 = .ok (.iconst 1, 1) := by decide +kernel
theorem dX7_areSo_63 : decode cX7_areSo 63 = .ok (.goto 4, 3) := by decide +kernel
theorem dX7_areSo_66 : decode cX7_areSo 66 = .ok (.iconst 0, 1) := by decide +kernel
theorem dX7_areSo_67 : decode cX7_areSo 67 = .ok (.if_icmp .ne 7, 3) := by decide +kernel
theorem dX7_areSo_70 : decode cX7_areSo 70 = .ok (.iconst 1, 1) := by decide +kernel
theorem dX7_areSo_71 : decode cX7_areSo 71 = .ok (.goto 4, 3) := by decide +kernel
theorem dX7_areSo_74 : decode cX7_areSo 74 = .ok (.iconst 0, 1) := by decide +kernel
theorem dX7_areSo_75 : decode cX7_areSo 75 = .ok (.istore_n 1, 1) := by decide +kernel
theorem dX7_areSo_76 : decode cX7_areSo 76 = .ok (.iinc 2 1, 3) := by decide +kernel
theorem dX7_areSo_79 : decode cX7_areSo 79 = .ok (.goto (-75), 3) := by decide +kernel
theorem dX7_areSo_82 : decode cX7_areSo 82 = .ok (.iload_n 1, 1) := by decide +kernel
theorem dX7_areSo_83 : decode cX7_areSo 83 = .ok (.ireturn, 1) := by decide +kernel
set_option maxRecDepth 20000 in
theorem ggX7_isSuspect_X7_turnsOver : GoodIn wsX7_isSuspect wsX7_turnsOver := goodIn_r _ [5, 6, 24, 25, 26, 27, 28, 29, 30, 31, 32, 33, 34, 35, 36, 37, 38, 39, 40, 41, 42] (by decide +kernel) (by decide +kernel)
set_option maxRecDepth 20000 in
theorem gX7_isSuspect_X7_turnsOver : GoodIn wsX7_isSuspect (wsV RX7 177 RX7 yX7_turnsOver wsX7_turnsOver) := goodIn_app (goodIn_of _ (by decide +kernel)) ggX7_isSuspect_X7_turnsOver
set_option maxRecDepth 20000 in
theorem ggX7_isSuspect_X7_areSo : GoodIn wsX7_isSuspect wsX7_areSo := goodIn_r _ [10, 11, 12, 13, 14, 15, 4, 16, 6, 17, 18, 19, 20, 21, 22, 23, 24, 25, 26, 27, 28, 29, 30, 31, 32, 33, 34, 35, 36, 37, 38, 39, 40, 41, 42] (by decide +kernel) (by decide +kernel)
set_option maxRecDepth 20000 in
theorem gX7_isSuspect_X7_areSo : GoodIn wsX7_isSuspect (wsV RX7 187 RX7 yX7_areSo wsX7_areSo) := goodIn_app (goodIn_of _ (by decide +kernel)) ggX7_isSuspect_X7_areSo
theorem dX7_isSuspect_0 : decode cX7_isSuspect 0 = .ok (.iload_n 1, 1) := by decide +kernel
theorem dX7_isSuspect_1 : decode cX7_isSuspect 1 = .ok (.ifCond .lt 8, 3) := by decide +kernel
theorem dX7_isSuspect_4 : decode cX7_isSuspect 4 = .ok (.aload_n 0, 1) := by decide +kernel
theorem dX7_isSuspect_5 : decode cX7_isSuspect 5 = .ok (.iload_n 1, 1) := by decide +kernel
theorem dX7_isSuspect_6 : decode cX7_isSuspect 6 = .ok (.invokevirtual 177, 3) := by decide +kernel
theorem dX7_isSuspect_9 : decode cX7_isSuspect 9 = .ok (.aload_n 0, 1) := by decide +kernel
theorem dX7_isSuspect_10 : decode cX7_isSuspect 10 = .ok (.invokevirtual 187, 3) := by decide +kernel
theorem dX7_isSuspect_13 : decode cX7_isSuspect 13 = .ok (.istore_n 2, 1) := by decide +kernel
theorem dX7_isSuspect_14 : decode cX7_isSuspect 14 = .ok (.iload_n 1, 1) := by decide +kernel
theorem dX7_isSuspect_15 : decode cX7_isSuspect 15 = .ok (.ifCond .lt 8, 3) := by decide +kernel
theorem dX7_isSuspect_18 : decode cX7_isSuspect 18 = .ok (.aload_n 0, 1) := by decide +kernel
theorem dX7_isSuspect_19 : decode cX7_isSuspect 19 = .ok (.iload_n 1, 1) := by decide +kernel
theorem dX7_isSuspect_20 : decode cX7_isSuspect 20 = .ok (.invokevirtual 177, 3) := by decide +kernel
theorem dX7_isSuspect_23 : decode cX7_isSuspect 23 = .ok (.iload_n 2, 1) := by decide +kernel
theorem dX7_isSuspect_24 : decode cX7_isSuspect 24 = .ok (.ireturn, 1) := by decide +kernel
set_option maxRecDepth 20000 in
theorem ggX7_suspects_X7_in : GoodIn wsX7_suspects wsX7_in := goodIn_r _ [6] (by decide +kernel) (by decide +kernel)
set_option maxRecDepth 20000 in
theorem gX7_suspects_X7_in : GoodIn wsX7_suspects (va_wsS RX7 41 yX7_in wsX7_in) := goodIn_app (goodIn_of _ (by decide +kernel)) ggX7_suspects_X7_in
set_option maxRecDepth 20000 in
theorem ggX7_suspects_X7_places : GoodIn wsX7_suspects wsX7_places := goodIn_r _ [10, 11, 34, 35, 36, 37, 38, 39, 40, 41, 42, 43, 44, 45, 46, 47, 48, 49, 50, 51, 52] (by decide +kernel) (by decide +kernel)
set_option maxRecDepth 20000 in
theorem gX7_suspects_X7_places : GoodIn wsX7_suspects (wsV RX7 174 RX7 yX7_places wsX7_places) := goodIn_app (goodIn_of _ (by decide +kernel)) ggX7_suspects_X7_places
set_option maxRecDepth 20000 in
theorem ggX7_suspects_X7_isSuspect : GoodIn wsX7_suspects wsX7_isSuspect := goodIn_r _ [15, 16, 17, 18, 5, 19, 11, 20, 21, 22, 23, 24, 25, 26, 27, 28, 29, 3, 4, 6, 30, 31, 32, 33, 34, 35, 36, 37, 38, 39, 40, 41, 42, 43, 44, 45, 46, 47, 48, 49, 50, 51, 52] (by decide +kernel) (by decide +kernel)
set_option maxRecDepth 20000 in
theorem gX7_suspects_X7_isSuspect : GoodIn wsX7_suspects (wsV RX7 191 RX7 yX7_isSuspect wsX7_isSuspect) := goodIn_app (goodIn_of _ (by decide +kernel)) ggX7_suspects_X7_isSuspect
theorem dX7_suspects_0 : decode cX7_suspects 0 = .ok (.aload_n 0, 1) := by decide +kernel
theorem dX7_suspects_1 : decode cX7_suspects 1 = .ok (.iconst 0, 1) := by decide +kernel
theorem dX7_suspects_2 : decode cX7_suspects 2 = .ok (.putfield 37, 3) := by decide +kernel
theorem dX7_suspects_5 : decode cX7_suspects 5 = .ok (.iload_n 1, 1) := by decide +kernel
theorem dX7_suspects_6 : decode cX7_suspects 6 = .ok (.iconst 0, 1) := by decide +kernel
theorem dX7_suspects_7 : decode cX7_suspects 7 = .ok (.iconst 1, 1) := by decide +kernel
theorem dX7_suspects_8 : decode cX7_suspects 8 = .ok (.invokestatic 41, 3) := by decide +kernel
theorem dX7_suspects_11 : decode cX7_suspects 11 = .ok (.ifCond .ne 6, 3) := by decide +kernel
theorem dX7_suspects_14 : decode cX7_suspects 14 = .ok (.ldc 190, 2) := by decide +kernel
theorem dX7_suspects_16 : decode cX7_suspects 16 = .ok (.ireturn, 1) := by decide +kernel
theorem dX7_suspects_17 : decode cX7_suspects 17 = .ok (.iconst 0, 1) := by decide +kernel
theorem dX7_suspects_18 : decode cX7_suspects 18 = .ok (.istore_n 2, 1) := by decide +kernel
theorem dX7_suspects_19 : decode cX7_suspects 19 = .ok (.bipush (-9), 2) := by decide +kernel
theorem dX7_suspects_21 : decode cX7_suspects 21 = .ok (.istore_n 3, 1) := by decide +kernel
theorem dX7_suspects_22 : decode cX7_suspects 22 = .ok (.iconst (-1), 1) := by decide +kernel
theorem dX7_suspects_23 : decode cX7_suspects 23 = .ok (.istore 4, 2) := by decide +kernel
theorem dX7_suspects_25 : decode cX7_suspects 25 = .ok (.iload 4, 2) := by decide +kernel
theorem dX7_suspects_27 : decode cX7_suspects 27 = .ok (.aload_n 0, 1) := by decide +kernel
theorem dX7_suspects_28 : decode cX7_suspects 28 = .ok (.invokevirtual 174, 3) := by decide +kernel
theorem dX7_suspects_31 : decode cX7_suspects 31 = .ok (.if_icmp .ge 32, 3) := by decide +kernel
theorem dX7_suspects_34 : decode cX7_suspects 34 = .ok (.aload_n 0, 1) := by decide +kernel
theorem dX7_suspects_35 : decode cX7_suspects 35 = .ok (.iload 4, 2) := by decide +kernel
theorem dX7_suspects_37 : decode cX7_suspects 37 = .ok (.invokevirtual 191, 3) := by decide +kernel
theorem dX7_suspects_40 : decode cX7_suspects 40 = .ok (.ifCond .eq 17, 3) := by decide +kernel
theorem dX7_suspects_43 : decode cX7_suspects 43 = .ok (.iload_n 2, 1) := by decide +kernel
theorem dX7_suspects_44 : decode cX7_suspects 44 = .ok (.ifCond .ne 8, 3) := by decide +kernel
theorem dX7_suspects_47 : decode cX7_suspects 47 = .ok (.iload 4, 2) := by decide +kernel
theorem dX7_suspects_49 : decode cX7_suspects 49 = .ok (.goto 4, 3) := by decide +kernel
theorem dX7_suspects_52 : decode cX7_suspects 52 = .ok (.iload_n 3, 1) := by decide +kernel
theorem dX7_suspects_53 : decode cX7_suspects 53 = .ok (.istore_n 3, 1) := by decide +kernel
theorem dX7_suspects_54 : decode cX7_suspects 54 = .ok (.iinc 2 1, 3) := by decide +kernel
theorem dX7_suspects_57 : decode cX7_suspects 57 = .ok (.iinc 4 1, 3) := by decide +kernel
theorem dX7_suspects_60 : decode cX7_suspects 60 = .ok (.goto (-35), 3) := by decide +kernel
theorem dX7_suspects_63 : decode cX7_suspects 63 = .ok (.iload_n 1, 1) := by decide +kernel
theorem dX7_suspects_64 : decode cX7_suspects 64 = .ok (.ifCond .ne 7, 3) := by decide +kernel
theorem dX7_suspects_67 : decode cX7_suspects 67 = .ok (.iload_n 2, 1) := by decide +kernel
theorem dX7_suspects_68 : decode cX7_suspects 68 = .ok (.goto 4, 3) := by decide +kernel
theorem dX7_suspects_71 : decode cX7_suspects 71 = .ok (.iload_n 3, 1) := by decide +kernel
theorem dX7_suspects_72 : decode cX7_suspects 72 = .ok (.ireturn, 1) := by decide +kernel
set_option maxRecDepth 20000 in
theorem ggX7_upBy_X7_places : GoodIn wsX7_upBy wsX7_places := goodIn_r _ [6, 1, 32, 33, 34, 35, 36, 37, 38, 39, 40, 41, 42, 43, 44, 45, 46, 47, 48, 49, 50] (by decide +kernel) (by decide +kernel)
set_option maxRecDepth 20000 in
theorem gX7_upBy_X7_places : GoodIn wsX7_upBy (wsV RX7 174 RX7 yX7_places wsX7_places) := goodIn_app (goodIn_of _ (by decide +kernel)) ggX7_upBy_X7_places
set_option maxRecDepth 20000 in
theorem ggX7_upBy_X7_isSuspect : GoodIn wsX7_upBy wsX7_isSuspect := goodIn_r _ [10, 11, 12, 13, 5, 14, 1, 15, 16, 17, 18, 19, 20, 21, 22, 23, 24, 25, 26, 27, 28, 29, 30, 31, 32, 33, 34, 35, 36, 37, 38, 39, 40, 41, 42, 43, 44, 45, 46, 47, 48, 49, 50] (by decide +kernel) (by decide +kernel)
set_option maxRecDepth 20000 in
theorem gX7_upBy_X7_isSuspect : GoodIn wsX7_upBy (wsV RX7 191 RX7 yX7_isSuspect wsX7_isSuspect) := goodIn_app (goodIn_of _ (by decide +kernel)) ggX7_upBy_X7_isSuspect
set_option maxRecDepth 20000 in
theorem ggX7_upBy_X7_isUp : GoodIn wsX7_upBy wsX7_isUp := goodIn_r _ [31, 1, 32, 33, 34, 35, 36, 37, 38, 39, 40, 41, 42, 43, 44, 45, 46, 47, 48, 49, 50] (by decide +kernel) (by decide +kernel)
set_option maxRecDepth 20000 in
theorem gX7_upBy_X7_isUp : GoodIn wsX7_upBy (wsV RX7 130 RX7 yX7_isUp wsX7_isUp) := goodIn_app (goodIn_of _ (by decide +kernel)) ggX7_upBy_X7_isUp
theorem dX7_upBy_0 : decode cX7_upBy 0 = .ok (.iconst 0, 1) := by decide +kernel
theorem dX7_upBy_1 : decode cX7_upBy 1 = .ok (.istore_n 3, 1) := by decide +kernel
theorem dX7_upBy_2 : decode cX7_upBy 2 = .ok (.iconst (-1), 1) := by decide +kernel
theorem dX7_upBy_3 : decode cX7_upBy 3 = .ok (.istore 4, 2) := by decide +kernel
theorem dX7_upBy_5 : decode cX7_upBy 5 = .ok (.iload 4, 2) := by decide +kernel
theorem dX7_upBy_7 : decode cX7_upBy 7 = .ok (.aload_n 0, 1) := by decide +kernel
theorem dX7_upBy_8 : decode cX7_upBy 8 = .ok (.invokevirtual 174, 3) := by decide +kernel
theorem dX7_upBy_11 : decode cX7_upBy 11 = .ok (.if_icmp .ge 82, 3) := by decide +kernel
theorem dX7_upBy_14 : decode cX7_upBy 14 = .ok (.aload_n 0, 1) := by decide +kernel
theorem dX7_upBy_15 : decode cX7_upBy 15 = .ok (.iload 4, 2) := by decide +kernel
theorem dX7_upBy_17 : decode cX7_upBy 17 = .ok (.invokevirtual 191, 3) := by decide +kernel
theorem dX7_upBy_20 : decode cX7_upBy 20 = .ok (.ifCond .eq 67, 3) := by decide +kernel
theorem dX7_upBy_23 : decode cX7_upBy 23 = .ok (.iload 4, 2) := by decide +kernel
theorem dX7_upBy_25 : decode cX7_upBy 25 = .ok (.ifCond .lt 40, 3) := by decide +kernel
theorem dX7_upBy_28 : decode cX7_upBy 28 = .ok (.iload 4, 2) := by decide +kernel
theorem dX7_upBy_30 : decode cX7_upBy 30 = .ok (.aload_n 0, 1) := by decide +kernel
theorem dX7_upBy_31 : decode cX7_upBy 31 = .ok (.getfield 7, 3) := by decide +kernel
theorem dX7_upBy_34 : decode cX7_upBy 34 = .ok (.iconst 0, 1) := by decide +kernel
theorem dX7_upBy_35 : decode cX7_upBy 35 = .ok (.iaload, 1) := by decide +kernel
theorem dX7_upBy_36 : decode cX7_upBy 36 = .ok (.idiv, 1) := by decide +kernel
theorem dX7_upBy_37 : decode cX7_upBy 37 = .ok (.iload_n 1, 1) := by decide +kernel
theorem dX7_upBy_38 : decode cX7_upBy 38 = .ok (.if_icmp .ne 27, 3) := by decide +kernel
theorem dX7_upBy_41 : decode cX7_upBy 41 = .ok (.iload 4, 2) := by decide +kernel
theorem dX7_upBy_43 : decode cX7_upBy 43 = .ok (.aload_n 0, 1) := by decide +kernel
theorem dX7_upBy_44 : decode cX7_upBy 44 = .ok (.getfield 7, 3) := by decide +kernel
theorem dX7_upBy_47 : decode cX7_upBy 47 = .ok (.iconst 0, 1) := by decide +kernel
theorem dX7_upBy_48 : decode cX7_upBy 48 = .ok (.iaload, 1) := by decide +kernel
theorem dX7_upBy_49 : decode cX7_upBy 49 = .ok (.irem, 1) := by decide +kernel
theorem dX7_upBy_50 : decode cX7_upBy 50 = .ok (.aload_n 0, 1) := by decide +kernel
theorem dX7_upBy_51 : decode cX7_upBy 51 = .ok (.getfield 7, 3) := by decide +kernel
theorem dX7_upBy_54 : decode cX7_upBy 54 = .ok (.iconst 4, 1) := by decide +kernel
theorem dX7_upBy_55 : decode cX7_upBy 55 = .ok (.iload_n 2, 1) := by decide +kernel
theorem dX7_upBy_56 : decode cX7_upBy 56 = .ok (.iadd, 1) := by decide +kernel
theorem dX7_upBy_57 : decode cX7_upBy 57 = .ok (.iaload, 1) := by decide +kernel
theorem dX7_upBy_58 : decode cX7_upBy 58 = .ok (.if_icmp .ne 7, 3) := by decide +kernel
theorem dX7_upBy_61 : decode cX7_upBy 61 = .ok (.iconst 1, 1) := by decide +kernel
theorem dX7_upBy_62 : decode cX7_upBy 62 = .ok (.goto 4, 3) := by decide +kernel
theorem dX7_upBy_65 : decode cX7_upBy 65 = .ok (.iconst 0, 1) := by decide +kernel
theorem dX7_upBy_66 : decode cX7_upBy 66 = .ok (.istore 5, 2) := by decide +kernel
theorem dX7_upBy_68 : decode cX7_upBy 68 = .ok (.iload_n 3, 1) := by decide +kernel
theorem dX7_upBy_69 : decode cX7_upBy 69 = .ok (.aload_n 0, 1) := by decide +kernel
theorem dX7_upBy_70 : decode cX7_upBy 70 = .ok (.iload_n 1, 1) := by decide +kernel
theorem dX7_upBy_71 : decode cX7_upBy 71 = .ok (.iload_n 2, 1) := by decide +kernel
theorem dX7_upBy_72 : decode cX7_upBy 72 = .ok (.invokevirtual 130, 3) := by decide +kernel
theorem dX7_upBy_75 : decode cX7_upBy 75 = .ok (.iload 5, 2) := by decide +kernel
theorem dX7_upBy_77 : decode cX7_upBy 77 = .ok (.if_icmp .eq 7, 3) := by decide +kernel
theorem dX7_upBy_80 : decode cX7_upBy 80 = .ok (.iconst 1, 1) := by decide +kernel
theorem dX7_upBy_81 : decode cX7_upBy 81 = .ok (.goto 4, 3) := by decide +kernel
theorem dX7_upBy_84 : decode cX7_upBy 84 = .ok (.iconst 0, 1) := by decide +kernel
theorem dX7_upBy_85 : decode cX7_upBy 85 = .ok (.iadd, 1) := by decide +kernel
theorem dX7_upBy_86 : decode cX7_upBy 86 = .ok (.istore_n 3, 1) := by decide +kernel
theorem dX7_upBy_87 : decode cX7_upBy 87 = .ok (.iinc 4 1, 3) := by decide +kernel
theorem dX7_upBy_90 : decode cX7_upBy 90 = .ok (.goto (-85), 3) := by decide +kernel
theorem dX7_upBy_93 : decode cX7_upBy 93 = .ok (.iload_n 3, 1) := by decide +kernel
theorem dX7_upBy_94 : decode cX7_upBy 94 = .ok (.ireturn, 1) := by decide +kernel
set_option maxRecDepth 20000 in
theorem ggX7_look_X7_suspects : GoodIn wsX7_look wsX7_suspects := goodIn_r _ [7, 1, 8, 9, 10, 6, 11, 12, 13, 14, 15, 2, 16, 17, 18, 19, 20, 21, 22, 23, 24, 25, 26, 27, 28, 29, 30, 31, 32, 33, 34, 35, 36, 37, 42, 43, 44, 45, 46, 47, 48, 49, 50, 51, 52, 53, 54, 55, 56, 57, 58, 59, 60] (by decide +kernel) (by decide +kernel)
set_option maxRecDepth 20000 in
theorem gX7_look_X7_suspects : GoodIn wsX7_look (wsV RX7 194 RX7 yX7_suspects wsX7_suspects) := goodIn_app (goodIn_of _ (by decide +kernel)) ggX7_look_X7_suspects
set_option maxRecDepth 20000 in
theorem ggX7_look_X7_upBy : GoodIn wsX7_look wsX7_upBy := goodIn_r _ [41, 2, 12, 13, 14, 6, 15, 16, 17, 18, 19, 20, 21, 22, 23, 24, 25, 26, 27, 28, 29, 30, 31, 32, 33, 9, 10, 11, 34, 35, 36, 37, 42, 43, 44, 45, 46, 47, 48, 49, 50, 51, 52, 53, 54, 55, 56, 57, 58, 59, 60] (by decide +kernel) (by decide +kernel)
set_option maxRecDepth 20000 in
theorem gX7_look_X7_upBy : GoodIn wsX7_look (wsV RX7 197 RX7 yX7_upBy wsX7_upBy) := goodIn_app (goodIn_of _ (by decide +kernel)) ggX7_look_X7_upBy
theorem dX7_look_0 : decode cX7_look 0 = .ok (.aload_n 0, 1) := by decide +kernel
theorem dX7_look_1 : decode cX7_look 1 = .ok (.iconst 0, 1) := by decide +kernel
theorem dX7_look_2 : decode cX7_look 2 = .ok (.putfield 37, 3) := by decide +kernel
theorem dX7_look_5 : decode cX7_look 5 = .ok (.aload_n 0, 1) := by decide +kernel
theorem dX7_look_6 : decode cX7_look 6 = .ok (.iconst 0, 1) := by decide +kernel
theorem dX7_look_7 : decode cX7_look 7 = .ok (.invokevirtual 194, 3) := by decide +kernel
theorem dX7_look_10 : decode cX7_look 10 = .ok (.istore_n 1, 1) := by decide +kernel
theorem dX7_look_11 : decode cX7_look 11 = .ok (.bipush (-9), 2) := by decide +kernel
theorem dX7_look_13 : decode cX7_look 13 = .ok (.istore_n 2, 1) := by decide +kernel
theorem dX7_look_14 : decode cX7_look 14 = .ok (.sipush 1000, 3) := by decide +kernel
theorem dX7_look_17 : decode cX7_look 17 = .ok (.istore_n 3, 1) := by decide +kernel
theorem dX7_look_18 : decode cX7_look 18 = .ok (.iconst 0, 1) := by decide +kernel
theorem dX7_look_19 : decode cX7_look 19 = .ok (.istore 4, 2) := by decide +kernel
theorem dX7_look_21 : decode cX7_look 21 = .ok (.iload 4, 2) := by decide +kernel
theorem dX7_look_23 : decode cX7_look 23 = .ok (.aload_n 0, 1) := by decide +kernel
theorem dX7_look_24 : decode cX7_look 24 = .ok (.getfield 7, 3) := by decide +kernel
theorem dX7_look_27 : decode cX7_look 27 = .ok (.iconst 2, 1) := by decide +kernel
theorem dX7_look_28 : decode cX7_look 28 = .ok (.iaload, 1) := by decide +kernel
theorem dX7_look_29 : decode cX7_look 29 = .ok (.if_icmp .ge 96, 3) := by decide +kernel
theorem dX7_look_32 : decode cX7_look 32 = .ok (.iload_n 1, 1) := by decide +kernel
theorem dX7_look_33 : decode cX7_look 33 = .ok (.iconst 1, 1) := by decide +kernel
theorem dX7_look_34 : decode cX7_look 34 = .ok (.if_icmp .le 91, 3) := by decide +kernel
theorem dX7_look_37 : decode cX7_look 37 = .ok (.iconst 0, 1) := by decide +kernel
theorem dX7_look_38 : decode cX7_look 38 = .ok (.istore 5, 2) := by decide +kernel
theorem dX7_look_40 : decode cX7_look 40 = .ok (.iload 5, 2) := by decide +kernel
theorem dX7_look_42 : decode cX7_look 42 = .ok (.aload_n 0, 1) := by decide +kernel
theorem dX7_look_43 : decode cX7_look 43 = .ok (.getfield 7, 3) := by decide +kernel
theorem dX7_look_46 : decode cX7_look 46 = .ok (.iconst 1, 1) := by decide +kernel
theorem dX7_look_47 : decode cX7_look 47 = .ok (.iaload, 1) := by decide +kernel
theorem dX7_look_48 : decode cX7_look 48 = .ok (.if_icmp .ge 71, 3) := by decide +kernel
theorem dX7_look_51 : decode cX7_look 51 = .ok (.aload_n 0, 1) := by decide +kernel
theorem dX7_look_52 : decode cX7_look 52 = .ok (.iload 4, 2) := by decide +kernel
theorem dX7_look_54 : decode cX7_look 54 = .ok (.iload 5, 2) := by decide +kernel
theorem dX7_look_56 : decode cX7_look 56 = .ok (.invokevirtual 197, 3) := by decide +kernel
theorem dX7_look_59 : decode cX7_look 59 = .ok (.istore 6, 2) := by decide +kernel
theorem dX7_look_61 : decode cX7_look 61 = .ok (.iload 6, 2) := by decide +kernel
theorem dX7_look_63 : decode cX7_look 63 = .ok (.iload_n 1, 1) := by decide +kernel
theorem dX7_look_64 : decode cX7_look 64 = .ok (.iload 6, 2) := by decide +kernel
theorem dX7_look_66 : decode cX7_look 66 = .ok (.isub, 1) := by decide +kernel
theorem dX7_look_67 : decode cX7_look 67 = .ok (.if_icmp .le 8, 3) := by decide +kernel
theorem dX7_look_70 : decode cX7_look 70 = .ok (.iload 6, 2) := by decide +kernel
theorem dX7_look_72 : decode cX7_look 72 = .ok (.goto 7, 3) := by decide +kernel
theorem dX7_look_75 : decode cX7_look 75 = .ok (.iload_n 1, 1) := by decide +kernel
theorem dX7_look_76 : decode cX7_look 76 = .ok (.iload 6, 2) := by decide +kernel
theorem dX7_look_78 : decode cX7_look 78 = .ok (.isub, 1) := by decide +kernel
theorem dX7_look_79 : decode cX7_look 79 = .ok (.istore 7, 2) := by decide +kernel
theorem dX7_look_81 : decode cX7_look 81 = .ok (.iload 7, 2) := by decide +kernel
theorem dX7_look_83 : decode cX7_look 83 = .ok (.iload_n 3, 1) := by decide +kernel
theorem dX7_look_84 : decode cX7_look 84 = .ok (.if_icmp .ge 14, 3) := by decide +kernel
theorem dX7_look_87 : decode cX7_look 87 = .ok (.bipush 12, 2) := by decide +kernel
theorem dX7_look_89 : decode cX7_look 89 = .ok (.iload 4, 2) := by decide +kernel
theorem dX7_look_91 : decode cX7_look 91 = .ok (.imul, 1) := by decide +kernel
theorem dX7_look_92 : decode cX7_look 92 = .ok (.iload 5, 2) := by decide +kernel
theorem dX7_look_94 : decode cX7_look 94 = .ok (.iadd, 1) := by decide +kernel
theorem dX7_look_95 : decode cX7_look 95 = .ok (.goto 4, 3) := by decide +kernel
theorem dX7_look_98 : decode cX7_look 98 = .ok (.iload_n 2, 1) := by decide +kernel
theorem dX7_look_99 : decode cX7_look 99 = .ok (.istore_n 2, 1) := by decide +kernel
theorem dX7_look_100 : decode cX7_look 100 = .ok (.iload 7, 2) := by decide +kernel
theorem dX7_look_102 : decode cX7_look 102 = .ok (.iload_n 3, 1) := by decide +kernel
theorem dX7_look_103 : decode cX7_look 103 = .ok (.if_icmp .ge 8, 3) := by decide +kernel
theorem dX7_look_106 : decode cX7_look 106 = .ok (.iload 7, 2) := by decide +kernel
theorem dX7_look_108 : decode cX7_look 108 = .ok (.goto 4, 3) := by decide +kernel
theorem dX7_look_111 : decode cX7_look 111 = .ok (.iload_n 3, 1) := by decide +kernel
theorem dX7_look_112 : decode cX7_look 112 = .ok (.istore_n 3, 1) := by decide +kernel
theorem dX7_look_113 : decode cX7_look 113 = .ok (.iinc 5 1, 3) := by decide +kernel
theorem dX7_look_116 : decode cX7_look 116 = .ok (.goto (-76), 3) := by decide +kernel
theorem dX7_look_119 : decode cX7_look 119 = .ok (.iinc 4 1, 3) := by decide +kernel
theorem dX7_look_122 : decode cX7_look 122 = .ok (.goto (-101), 3) := by decide +kernel
theorem dX7_look_125 : decode cX7_look 125 = .ok (.iload_n 2, 1) := by decide +kernel
theorem dX7_look_126 : decode cX7_look 126 = .ok (.ireturn, 1) := by decide +kernel
set_option maxRecDepth 20000 in
theorem ggX7_keep_X7_in : GoodIn wsX7_keep wsX7_in := goodIn_r _ [8] (by decide +kernel) (by decide +kernel)
set_option maxRecDepth 20000 in
theorem gX7_keep_X7_in : GoodIn wsX7_keep (va_wsS RX7 41 yX7_in wsX7_in) := goodIn_app (goodIn_of _ (by decide +kernel)) ggX7_keep_X7_in
theorem dX7_keep_0 : decode cX7_keep 0 = .ok (.aload_n 0, 1) := by decide +kernel
theorem dX7_keep_1 : decode cX7_keep 1 = .ok (.iconst 0, 1) := by decide +kernel
theorem dX7_keep_2 : decode cX7_keep 2 = .ok (.putfield 37, 3) := by decide +kernel
theorem dX7_keep_5 : decode cX7_keep 5 = .ok (.iload_n 1, 1) := by decide +kernel
theorem dX7_keep_6 : decode cX7_keep 6 = .ok (.iconst 0, 1) := by decide +kernel
theorem dX7_keep_7 : decode cX7_keep 7 = .ok (.iconst 1, 1) := by decide +kernel
theorem dX7_keep_8 : decode cX7_keep 8 = .ok (.invokestatic 41, 3) := by decide +kernel
theorem dX7_keep_11 : decode cX7_keep 11 = .ok (.ifCond .ne 5, 3) := by decide +kernel
theorem dX7_keep_14 : decode cX7_keep 14 = .ok (.iconst (-1), 1) := by decide +kernel
theorem dX7_keep_15 : decode cX7_keep 15 = .ok (.ireturn, 1) := by decide +kernel
theorem dX7_keep_16 : decode cX7_keep 16 = .ok (.iconst 0, 1) := by decide +kernel
theorem dX7_keep_17 : decode cX7_keep 17 = .ok (.istore_n 2, 1) := by decide +kernel
theorem dX7_keep_18 : decode cX7_keep 18 = .ok (.iload_n 2, 1) := by decide +kernel
theorem dX7_keep_19 : decode cX7_keep 19 = .ok (.bipush 24, 2) := by decide +kernel
theorem dX7_keep_21 : decode cX7_keep 21 = .ok (.if_icmp .ge 26, 3) := by decide +kernel
theorem dX7_keep_24 : decode cX7_keep 24 = .ok (.aload_n 0, 1) := by decide +kernel
theorem dX7_keep_25 : decode cX7_keep 25 = .ok (.getfield 19, 3) := by decide +kernel
theorem dX7_keep_28 : decode cX7_keep 28 = .ok (.bipush 24, 2) := by decide +kernel
theorem dX7_keep_30 : decode cX7_keep 30 = .ok (.iload_n 1, 1) := by decide +kernel
theorem dX7_keep_31 : decode cX7_keep 31 = .ok (.imul, 1) := by decide +kernel
theorem dX7_keep_32 : decode cX7_keep 32 = .ok (.iload_n 2, 1) := by decide +kernel
theorem dX7_keep_33 : decode cX7_keep 33 = .ok (.iadd, 1) := by decide +kernel
theorem dX7_keep_34 : decode cX7_keep 34 = .ok (.aload_n 0, 1) := by decide +kernel
theorem dX7_keep_35 : decode cX7_keep 35 = .ok (.getfield 7, 3) := by decide +kernel
theorem dX7_keep_38 : decode cX7_keep 38 = .ok (.iload_n 2, 1) := by decide +kernel
theorem dX7_keep_39 : decode cX7_keep 39 = .ok (.iaload, 1) := by decide +kernel
theorem dX7_keep_40 : decode cX7_keep 40 = .ok (.iastore, 1) := by decide +kernel
theorem dX7_keep_41 : decode cX7_keep 41 = .ok (.iinc 2 1, 3) := by decide +kernel
theorem dX7_keep_44 : decode cX7_keep 44 = .ok (.goto (-26), 3) := by decide +kernel
theorem dX7_keep_47 : decode cX7_keep 47 = .ok (.aload_n 0, 1) := by decide +kernel
theorem dX7_keep_48 : decode cX7_keep 48 = .ok (.getfield 22, 3) := by decide +kernel
theorem dX7_keep_51 : decode cX7_keep 51 = .ok (.iload_n 1, 1) := by decide +kernel
theorem dX7_keep_52 : decode cX7_keep 52 = .ok (.iconst 1, 1) := by decide +kernel
theorem dX7_keep_53 : decode cX7_keep 53 = .ok (.bastore, 1) := by decide +kernel
theorem dX7_keep_54 : decode cX7_keep 54 = .ok (.aload_n 0, 1) := by decide +kernel
theorem dX7_keep_55 : decode cX7_keep 55 = .ok (.getfield 7, 3) := by decide +kernel
theorem dX7_keep_58 : decode cX7_keep 58 = .ok (.iconst 2, 1) := by decide +kernel
theorem dX7_keep_59 : decode cX7_keep 59 = .ok (.iaload, 1) := by decide +kernel
theorem dX7_keep_60 : decode cX7_keep 60 = .ok (.ireturn, 1) := by decide +kernel
set_option maxRecDepth 20000 in
theorem ggX7_back_X7_in : GoodIn wsX7_back wsX7_in := goodIn_r _ [9] (by decide +kernel) (by decide +kernel)
set_option maxRecDepth 20000 in
theorem gX7_back_X7_in : GoodIn wsX7_back (va_wsS RX7 41 yX7_in wsX7_in) := goodIn_app (goodIn_of _ (by decide +kernel)) ggX7_back_X7_in
theorem dX7_back_0 : decode cX7_back 0 = .ok (.aload_n 0, 1) := by decide +kernel
theorem dX7_back_1 : decode cX7_back 1 = .ok (.iconst 0, 1) := by decide +kernel
theorem dX7_back_2 : decode cX7_back 2 = .ok (.putfield 37, 3) := by decide +kernel
theorem dX7_back_5 : decode cX7_back 5 = .ok (.iload_n 1, 1) := by decide +kernel
theorem dX7_back_6 : decode cX7_back 6 = .ok (.iconst 0, 1) := by decide +kernel
theorem dX7_back_7 : decode cX7_back 7 = .ok (.iconst 1, 1) := by decide +kernel
theorem dX7_back_8 : decode cX7_back 8 = .ok (.invokestatic 41, 3) := by decide +kernel
theorem dX7_back_11 : decode cX7_back 11 = .ok (.ifCond .ne 5, 3) := by decide +kernel
theorem dX7_back_14 : decode cX7_back 14 = .ok (.iconst (-1), 1) := by decide +kernel
theorem dX7_back_15 : decode cX7_back 15 = .ok (.ireturn, 1) := by decide +kernel
theorem dX7_back_16 : decode cX7_back 16 = .ok (.aload_n 0, 1) := by decide +kernel
theorem dX7_back_17 : decode cX7_back 17 = .ok (.getfield 22, 3) := by decide +kernel
theorem dX7_back_20 : decode cX7_back 20 = .ok (.iload_n 1, 1) := by decide +kernel
theorem dX7_back_21 : decode cX7_back 21 = .ok (.baload, 1) := by decide +kernel
theorem dX7_back_22 : decode cX7_back 22 = .ok (.ifCond .ne 6, 3) := by decide +kernel
theorem dX7_back_25 : decode cX7_back 25 = .ok (.bipush (-2), 2) := by decide +kernel
theorem dX7_back_27 : decode cX7_back 27 = .ok (.ireturn, 1) := by decide +kernel
theorem dX7_back_28 : decode cX7_back 28 = .ok (.iconst 0, 1) := by decide +kernel
theorem dX7_back_29 : decode cX7_back 29 = .ok (.istore_n 2, 1) := by decide +kernel
theorem dX7_back_30 : decode cX7_back 30 = .ok (.iload_n 2, 1) := by decide +kernel
theorem dX7_back_31 : decode cX7_back 31 = .ok (.bipush 24, 2) := by decide +kernel
theorem dX7_back_33 : decode cX7_back 33 = .ok (.if_icmp .ge 26, 3) := by decide +kernel
theorem dX7_back_36 : decode cX7_back 36 = .ok (.aload_n 0, 1) := by decide +kernel
theorem dX7_back_37 : decode cX7_back 37 = .ok (.getfield 7, 3) := by decide +kernel
theorem dX7_back_40 : decode cX7_back 40 = .ok (.iload_n 2, 1) := by decide +kernel
theorem dX7_back_41 : decode cX7_back 41 = .ok (.aload_n 0, 1) := by decide +kernel
theorem dX7_back_42 : decode cX7_back 42 = .ok (.getfield 19, 3) := by decide +kernel
theorem dX7_back_45 : decode cX7_back 45 = .ok (.bipush 24, 2) := by decide +kernel
theorem dX7_back_47 : decode cX7_back 47 = .ok (.iload_n 1, 1) := by decide +kernel
theorem dX7_back_48 : decode cX7_back 48 = .ok (.imul, 1) := by decide +kernel
theorem dX7_back_49 : decode cX7_back 49 = .ok (.iload_n 2, 1) := by decide +kernel
theorem dX7_back_50 : decode cX7_back 50 = .ok (.iadd, 1) := by decide +kernel
theorem dX7_back_51 : decode cX7_back 51 = .ok (.iaload, 1) := by decide +kernel
theorem dX7_back_52 : decode cX7_back 52 = .ok (.iastore, 1) := by decide +kernel
theorem dX7_back_53 : decode cX7_back 53 = .ok (.iinc 2 1, 3) := by decide +kernel
theorem dX7_back_56 : decode cX7_back 56 = .ok (.goto (-26), 3) := by decide +kernel
theorem dX7_back_59 : decode cX7_back 59 = .ok (.aload_n 0, 1) := by decide +kernel
theorem dX7_back_60 : decode cX7_back 60 = .ok (.iconst 0, 1) := by decide +kernel
theorem dX7_back_61 : decode cX7_back 61 = .ok (.putfield 114, 3) := by decide +kernel
theorem dX7_back_64 : decode cX7_back 64 = .ok (.aload_n 0, 1) := by decide +kernel
theorem dX7_back_65 : decode cX7_back 65 = .ok (.getfield 7, 3) := by decide +kernel
theorem dX7_back_68 : decode cX7_back 68 = .ok (.iconst 2, 1) := by decide +kernel
theorem dX7_back_69 : decode cX7_back 69 = .ok (.iaload, 1) := by decide +kernel
theorem dX7_back_70 : decode cX7_back 70 = .ok (.ireturn, 1) := by decide +kernel
set_option maxRecDepth 20000 in
theorem ggX7_holes_X7_places : GoodIn wsX7_holes wsX7_places := goodIn_r _ [6, 1, 7, 8, 9, 10, 11, 12, 13, 14, 15, 16, 17, 18, 19, 20, 21, 22, 23, 24, 25] (by decide +kernel) (by decide +kernel)
set_option maxRecDepth 20000 in
theorem gX7_holes_X7_places : GoodIn wsX7_holes (wsV RX7 174 RX7 yX7_places wsX7_places) := goodIn_app (goodIn_of _ (by decide +kernel)) ggX7_holes_X7_places
theorem dX7_holes_0 : decode cX7_holes 0 = .ok (.iconst 0, 1) := by decide +kernel
theorem dX7_holes_1 : decode cX7_holes 1 = .ok (.istore_n 1, 1) := by decide +kernel
theorem dX7_holes_2 : decode cX7_holes 2 = .ok (.iconst 0, 1) := by decide +kernel
theorem dX7_holes_3 : decode cX7_holes 3 = .ok (.istore_n 2, 1) := by decide +kernel
theorem dX7_holes_4 : decode cX7_holes 4 = .ok (.iload_n 2, 1) := by decide +kernel
theorem dX7_holes_5 : decode cX7_holes 5 = .ok (.aload_n 0, 1) := by decide +kernel
theorem dX7_holes_6 : decode cX7_holes 6 = .ok (.invokevirtual 174, 3) := by decide +kernel
theorem dX7_holes_9 : decode cX7_holes 9 = .ok (.if_icmp .ge 39, 3) := by decide +kernel
theorem dX7_holes_12 : decode cX7_holes 12 = .ok (.iload_n 1, 1) := by decide +kernel
theorem dX7_holes_13 : decode cX7_holes 13 = .ok (.aload_n 0, 1) := by decide +kernel
theorem dX7_holes_14 : decode cX7_holes 14 = .ok (.getfield 7, 3) := by decide +kernel
theorem dX7_holes_17 : decode cX7_holes 17 = .ok (.bipush 16, 2) := by decide +kernel
theorem dX7_holes_19 : decode cX7_holes 19 = .ok (.iload_n 2, 1) := by decide +kernel
theorem dX7_holes_20 : decode cX7_holes 20 = .ok (.aload_n 0, 1) := by decide +kernel
theorem dX7_holes_21 : decode cX7_holes 21 = .ok (.getfield 7, 3) := by decide +kernel
theorem dX7_holes_24 : decode cX7_holes 24 = .ok (.iconst 0, 1) := by decide +kernel
theorem dX7_holes_25 : decode cX7_holes 25 = .ok (.iaload, 1) := by decide +kernel
theorem dX7_holes_26 : decode cX7_holes 26 = .ok (.idiv, 1) := by decide +kernel
theorem dX7_holes_27 : decode cX7_holes 27 = .ok (.iadd, 1) := by decide +kernel
theorem dX7_holes_28 : decode cX7_holes 28 = .ok (.iaload, 1) := by decide +kernel
theorem dX7_holes_29 : decode cX7_holes 29 = .ok (.iload_n 2, 1) := by decide +kernel
theorem dX7_holes_30 : decode cX7_holes 30 = .ok (.aload_n 0, 1) := by decide +kernel
theorem dX7_holes_31 : decode cX7_holes 31 = .ok (.getfield 7, 3) := by decide +kernel
theorem dX7_holes_34 : decode cX7_holes 34 = .ok (.iconst 0, 1) := by decide +kernel
theorem dX7_holes_35 : decode cX7_holes 35 = .ok (.iaload, 1) := by decide +kernel
theorem dX7_holes_36 : decode cX7_holes 36 = .ok (.irem, 1) := by decide +kernel
theorem dX7_holes_37 : decode cX7_holes 37 = .ok (.ishr, 1) := by decide +kernel
theorem dX7_holes_38 : decode cX7_holes 38 = .ok (.iconst 1, 1) := by decide +kernel
theorem dX7_holes_39 : decode cX7_holes 39 = .ok (.iand, 1) := by decide +kernel
theorem dX7_holes_40 : decode cX7_holes 40 = .ok (.iadd, 1) := by decide +kernel
theorem dX7_holes_41 : decode cX7_holes 41 = .ok (.istore_n 1, 1) := by decide +kernel
theorem dX7_holes_42 : decode cX7_holes 42 = .ok (.iinc 2 1, 3) := by decide +kernel
theorem dX7_holes_45 : decode cX7_holes 45 = .ok (.goto (-41), 3) := by decide +kernel
theorem dX7_holes_48 : decode cX7_holes 48 = .ok (.iload_n 1, 1) := by decide +kernel
theorem dX7_holes_49 : decode cX7_holes 49 = .ok (.ireturn, 1) := by decide +kernel
set_option maxRecDepth 20000 in
theorem ggX7_count_X7_holes : GoodIn wsX7_count wsX7_holes := goodIn_r _ [10, 5, 11, 12, 13, 9, 14, 18, 19, 20, 21, 22, 23, 24, 25, 26, 27, 28, 29, 30, 31, 32, 33, 34, 35, 36] (by decide +kernel) (by decide +kernel)
set_option maxRecDepth 20000 in
theorem gX7_count_X7_holes : GoodIn wsX7_count (wsV RX7 200 RX7 yX7_holes wsX7_holes) := goodIn_app (goodIn_of _ (by decide +kernel)) ggX7_count_X7_holes
set_option maxRecDepth 20000 in
theorem ggX7_count_X7_in : GoodIn wsX7_count wsX7_in := goodIn_r _ [17] (by decide +kernel) (by decide +kernel)
set_option maxRecDepth 20000 in
theorem gX7_count_X7_in : GoodIn wsX7_count (va_wsS RX7 41 yX7_in wsX7_in) := goodIn_app (goodIn_of _ (by decide +kernel)) ggX7_count_X7_in
theorem dX7_count_0 : decode cX7_count 0 = .ok (.aload_n 0, 1) := by decide +kernel
theorem dX7_count_1 : decode cX7_count 1 = .ok (.iconst 0, 1) := by decide +kernel
theorem dX7_count_2 : decode cX7_count 2 = .ok (.putfield 37, 3) := by decide +kernel
theorem dX7_count_5 : decode cX7_count 5 = .ok (.iload_n 1, 1) := by decide +kernel
theorem dX7_count_6 : decode cX7_count 6 = .ok (.tableswitch 50 4 7 #[30, 35, 40, 45], 30) := by decide +kernel
theorem dX7_count_36 : decode cX7_count 36 = .ok (.aload_n 0, 1) := by decide +kernel
theorem dX7_count_37 : decode cX7_count 37 = .ok (.invokevirtual 200, 3) := by decide +kernel
theorem dX7_count_40 : decode cX7_count 40 = .ok (.ireturn, 1) := by decide +kernel
theorem dX7_count_41 : decode cX7_count 41 = .ok (.aload_n 0, 1) := by decide +kernel
theorem dX7_count_42 : decode cX7_count 42 = .ok (.getfield 184, 3) := by decide +kernel
theorem dX7_count_45 : decode cX7_count 45 = .ok (.ireturn, 1) := by decide +kernel
theorem dX7_count_46 : decode cX7_count 46 = .ok (.aload_n 0, 1) := by decide +kernel
theorem dX7_count_47 : decode cX7_count 47 = .ok (.getfield 45, 3) := by decide +kernel
theorem dX7_count_50 : decode cX7_count 50 = .ok (.ireturn, 1) := by decide +kernel
theorem dX7_count_51 : decode cX7_count 51 = .ok (.aload_n 0, 1) := by decide +kernel
theorem dX7_count_52 : decode cX7_count 52 = .ok (.getfield 114, 3) := by decide +kernel
theorem dX7_count_55 : decode cX7_count 55 = .ok (.ireturn, 1) := by decide +kernel
theorem dX7_count_56 : decode cX7_count 56 = .ok (.iload_n 1, 1) := by decide +kernel
theorem dX7_count_57 : decode cX7_count 57 = .ok (.iconst 0, 1) := by decide +kernel
theorem dX7_count_58 : decode cX7_count 58 = .ok (.iconst 3, 1) := by decide +kernel
theorem dX7_count_59 : decode cX7_count 59 = .ok (.invokestatic 41, 3) := by decide +kernel
theorem dX7_count_62 : decode cX7_count 62 = .ok (.ifCond .eq 12, 3) := by decide +kernel
theorem dX7_count_65 : decode cX7_count 65 = .ok (.aload_n 0, 1) := by decide +kernel
theorem dX7_count_66 : decode cX7_count 66 = .ok (.getfield 7, 3) := by decide +kernel
theorem dX7_count_69 : decode cX7_count 69 = .ok (.iload_n 1, 1) := by decide +kernel
theorem dX7_count_70 : decode cX7_count 70 = .ok (.iaload, 1) := by decide +kernel
theorem dX7_count_71 : decode cX7_count 71 = .ok (.goto 4, 3) := by decide +kernel
theorem dX7_count_74 : decode cX7_count 74 = .ok (.iconst (-1), 1) := by decide +kernel
theorem dX7_count_75 : decode cX7_count 75 = .ok (.ireturn, 1) := by decide +kernel
theorem dJ6_bitCount_0f7a4_0 : decode cJ6_bitCount_0f7a4 0 = .ok (.iload_n 0, 1) := by decide +kernel
theorem dJ6_bitCount_0f7a4_1 : decode cJ6_bitCount_0f7a4 1 = .ok (.iload_n 0, 1) := by decide +kernel
theorem dJ6_bitCount_0f7a4_2 : decode cJ6_bitCount_0f7a4 2 = .ok (.iconst 1, 1) := by decide +kernel
theorem dJ6_bitCount_0f7a4_3 : decode cJ6_bitCount_0f7a4 3 = .ok (.iushr, 1) := by decide +kernel
theorem dJ6_bitCount_0f7a4_4 : decode cJ6_bitCount_0f7a4 4 = .ok (.ldc_w 265, 3) := by decide +kernel
theorem dJ6_bitCount_0f7a4_7 : decode cJ6_bitCount_0f7a4 7 = .ok (.iand, 1) := by decide +kernel
theorem dJ6_bitCount_0f7a4_8 : decode cJ6_bitCount_0f7a4 8 = .ok (.isub, 1) := by decide +kernel
theorem dJ6_bitCount_0f7a4_9 : decode cJ6_bitCount_0f7a4 9 = .ok (.istore_n 0, 1) := by decide +kernel
theorem dJ6_bitCount_0f7a4_10 : decode cJ6_bitCount_0f7a4 10 = .ok (.iload_n 0, 1) := by decide +kernel
theorem dJ6_bitCount_0f7a4_11 : decode cJ6_bitCount_0f7a4 11 = .ok (.ldc_w 266, 3) := by decide +kernel
theorem dJ6_bitCount_0f7a4_14 : decode cJ6_bitCount_0f7a4 14 = .ok (.iand, 1) := by decide +kernel
theorem dJ6_bitCount_0f7a4_15 : decode cJ6_bitCount_0f7a4 15 = .ok (.iload_n 0, 1) := by decide +kernel
theorem dJ6_bitCount_0f7a4_16 : decode cJ6_bitCount_0f7a4 16 = .ok (.iconst 2, 1) := by decide +kernel
theorem dJ6_bitCount_0f7a4_17 : decode cJ6_bitCount_0f7a4 17 = .ok (.iushr, 1) := by decide +kernel
theorem dJ6_bitCount_0f7a4_18 : decode cJ6_bitCount_0f7a4 18 = .ok (.ldc_w 266, 3) := by decide +kernel
theorem dJ6_bitCount_0f7a4_21 : decode cJ6_bitCount_0f7a4 21 = .ok (.iand, 1) := by decide +kernel
theorem dJ6_bitCount_0f7a4_22 : decode cJ6_bitCount_0f7a4 22 = .ok (.iadd, 1) := by decide +kernel
theorem dJ6_bitCount_0f7a4_23 : decode cJ6_bitCount_0f7a4 23 = .ok (.istore_n 0, 1) := by decide +kernel
theorem dJ6_bitCount_0f7a4_24 : decode cJ6_bitCount_0f7a4 24 = .ok (.iload_n 0, 1) := by decide +kernel
theorem dJ6_bitCount_0f7a4_25 : decode cJ6_bitCount_0f7a4 25 = .ok (.iload_n 0, 1) := by decide +kernel
theorem dJ6_bitCount_0f7a4_26 : decode cJ6_bitCount_0f7a4 26 = .ok (.iconst 4, 1) := by decide +kernel
theorem dJ6_bitCount_0f7a4_27 : decode cJ6_bitCount_0f7a4 27 = .ok (.iushr, 1) := by decide +kernel
theorem dJ6_bitCount_0f7a4_28 : decode cJ6_bitCount_0f7a4 28 = .ok (.iadd, 1) := by decide +kernel
theorem dJ6_bitCount_0f7a4_29 : decode cJ6_bitCount_0f7a4 29 = .ok (.ldc_w 267, 3) := by decide +kernel
theorem dJ6_bitCount_0f7a4_32 : decode cJ6_bitCount_0f7a4 32 = .ok (.iand, 1) := by decide +kernel
theorem dJ6_bitCount_0f7a4_33 : decode cJ6_bitCount_0f7a4 33 = .ok (.istore_n 0, 1) := by decide +kernel
theorem dJ6_bitCount_0f7a4_34 : decode cJ6_bitCount_0f7a4 34 = .ok (.iload_n 0, 1) := by decide +kernel
theorem dJ6_bitCount_0f7a4_35 : decode cJ6_bitCount_0f7a4 35 = .ok (.iload_n 0, 1) := by decide +kernel
theorem dJ6_bitCount_0f7a4_36 : decode cJ6_bitCount_0f7a4 36 = .ok (.bipush 8, 2) := by decide +kernel
theorem dJ6_bitCount_0f7a4_38 : decode cJ6_bitCount_0f7a4 38 = .ok (.iushr, 1) := by decide +kernel
theorem dJ6_bitCount_0f7a4_39 : decode cJ6_bitCount_0f7a4 39 = .ok (.iadd, 1) := by decide +kernel
theorem dJ6_bitCount_0f7a4_40 : decode cJ6_bitCount_0f7a4 40 = .ok (.istore_n 0, 1) := by decide +kernel
theorem dJ6_bitCount_0f7a4_41 : decode cJ6_bitCount_0f7a4 41 = .ok (.iload_n 0, 1) := by decide +kernel
theorem dJ6_bitCount_0f7a4_42 : decode cJ6_bitCount_0f7a4 42 = .ok (.iload_n 0, 1) := by decide +kernel
theorem dJ6_bitCount_0f7a4_43 : decode cJ6_bitCount_0f7a4 43 = .ok (.bipush 16, 2) := by decide +kernel
theorem dJ6_bitCount_0f7a4_45 : decode cJ6_bitCount_0f7a4 45 = .ok (.iushr, 1) := by decide +kernel
theorem dJ6_bitCount_0f7a4_46 : decode cJ6_bitCount_0f7a4 46 = .ok (.iadd, 1) := by decide +kernel
theorem dJ6_bitCount_0f7a4_47 : decode cJ6_bitCount_0f7a4 47 = .ok (.istore_n 0, 1) := by decide +kernel
theorem dJ6_bitCount_0f7a4_48 : decode cJ6_bitCount_0f7a4 48 = .ok (.iload_n 0, 1) := by decide +kernel
theorem dJ6_bitCount_0f7a4_49 : decode cJ6_bitCount_0f7a4 49 = .ok (.bipush 63, 2) := by decide +kernel
theorem dJ6_bitCount_0f7a4_51 : decode cJ6_bitCount_0f7a4 51 = .ok (.iand, 1) := by decide +kernel
theorem dJ6_bitCount_0f7a4_52 : decode cJ6_bitCount_0f7a4 52 = .ok (.ireturn, 1) := by decide +kernel
theorem dJ13_bitCount_95d88_0 : decode cJ13_bitCount_95d88 0 = .ok (.lload_n 0, 1) := by decide +kernel
theorem dJ13_bitCount_95d88_1 : decode cJ13_bitCount_95d88 1 = .ok (.lload_n 0, 1) := by decide +kernel
theorem dJ13_bitCount_95d88_2 : decode cJ13_bitCount_95d88 2 = .ok (.iconst 1, 1) := by decide +kernel
theorem dJ13_bitCount_95d88_3 : decode cJ13_bitCount_95d88 3 = .ok (.lushr, 1) := by decide +kernel
theorem dJ13_bitCount_95d88_4 : decode cJ13_bitCount_95d88 4 = .ok (.ldc2_w 314, 3) := by decide +kernel
theorem dJ13_bitCount_95d88_7 : decode cJ13_bitCount_95d88 7 = .ok (.land, 1) := by decide +kernel
theorem dJ13_bitCount_95d88_8 : decode cJ13_bitCount_95d88 8 = .ok (.lsub, 1) := by decide +kernel
theorem dJ13_bitCount_95d88_9 : decode cJ13_bitCount_95d88 9 = .ok (.lstore_n 0, 1) := by decide +kernel
