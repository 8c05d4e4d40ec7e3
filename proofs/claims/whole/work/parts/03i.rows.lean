set_option maxRecDepth 20000 in
theorem ggX7_adds_X7_in : GoodIn wsX7_adds wsX7_in := goodIn_r _ [6] (by decide +kernel) (by decide +kernel)
set_option maxRecDepth 20000 in
theorem gX7_adds_X7_in : GoodIn wsX7_adds (va_wsS RX7 41 yX7_in wsX7_in) := goodIn_app (goodIn_of _ (by decide +kernel)) ggX7_adds_X7_in
set_option maxRecDepth 20000 in
theorem ggX7_adds_X7_notes : GoodIn wsX7_adds wsX7_notes := goodIn_r _ [10, 11, 12, 2, 13, 14, 15, 16, 17, 18, 19, 20, 21, 22, 23, 24, 25, 26, 27, 28, 29, 30, 31] (by decide +kernel) (by decide +kernel)
set_option maxRecDepth 20000 in
theorem gX7_adds_X7_notes : GoodIn wsX7_adds (wsV RX7 111 RX7 yX7_notes wsX7_notes) := goodIn_app (goodIn_of _ (by decide +kernel)) ggX7_adds_X7_notes
theorem dX7_adds_0 : decode cX7_adds 0 = .ok (.aload_n 0, 1) := by decide +kernel
theorem dX7_adds_1 : decode cX7_adds 1 = .ok (.iconst 0, 1) := by decide +kernel
theorem dX7_adds_2 : decode cX7_adds 2 = .ok (.putfield 37, 3) := by decide +kernel
theorem dX7_adds_5 : decode cX7_adds 5 = .ok (.iload_n 1, 1) := by decide +kernel
theorem dX7_adds_6 : decode cX7_adds 6 = .ok (.iconst 0, 1) := by decide +kernel
theorem dX7_adds_7 : decode cX7_adds 7 = .ok (.iconst 1, 1) := by decide +kernel
theorem dX7_adds_8 : decode cX7_adds 8 = .ok (.aload_n 0, 1) := by decide +kernel
theorem dX7_adds_9 : decode cX7_adds 9 = .ok (.getfield 7, 3) := by decide +kernel
theorem dX7_adds_12 : decode cX7_adds 12 = .ok (.iconst 0, 1) := by decide +kernel
theorem dX7_adds_13 : decode cX7_adds 13 = .ok (.iaload, 1) := by decide +kernel
theorem dX7_adds_14 : decode cX7_adds 14 = .ok (.ishl, 1) := by decide +kernel
theorem dX7_adds_15 : decode cX7_adds 15 = .ok (.iconst 1, 1) := by decide +kernel
theorem dX7_adds_16 : decode cX7_adds 16 = .ok (.isub, 1) := by decide +kernel
theorem dX7_adds_17 : decode cX7_adds 17 = .ok (.invokestatic 41, 3) := by decide +kernel
theorem dX7_adds_20 : decode cX7_adds 20 = .ok (.ifCond .ne 5, 3) := by decide +kernel
theorem dX7_adds_23 : decode cX7_adds 23 = .ok (.iconst (-1), 1) := by decide +kernel
theorem dX7_adds_24 : decode cX7_adds 24 = .ok (.ireturn, 1) := by decide +kernel
theorem dX7_adds_25 : decode cX7_adds 25 = .ok (.aload_n 0, 1) := by decide +kernel
theorem dX7_adds_26 : decode cX7_adds 26 = .ok (.getfield 7, 3) := by decide +kernel
theorem dX7_adds_29 : decode cX7_adds 29 = .ok (.iconst 2, 1) := by decide +kernel
theorem dX7_adds_30 : decode cX7_adds 30 = .ok (.iaload, 1) := by decide +kernel
theorem dX7_adds_31 : decode cX7_adds 31 = .ok (.bipush 8, 2) := by decide +kernel
theorem dX7_adds_33 : decode cX7_adds 33 = .ok (.if_icmp .ne 6, 3) := by decide +kernel
theorem dX7_adds_36 : decode cX7_adds 36 = .ok (.bipush (-3), 2) := by decide +kernel
theorem dX7_adds_38 : decode cX7_adds 38 = .ok (.ireturn, 1) := by decide +kernel
theorem dX7_adds_39 : decode cX7_adds 39 = .ok (.aload_n 0, 1) := by decide +kernel
theorem dX7_adds_40 : decode cX7_adds 40 = .ok (.invokevirtual 111, 3) := by decide +kernel
theorem dX7_adds_43 : decode cX7_adds 43 = .ok (.aload_n 0, 1) := by decide +kernel
theorem dX7_adds_44 : decode cX7_adds 44 = .ok (.getfield 7, 3) := by decide +kernel
theorem dX7_adds_47 : decode cX7_adds 47 = .ok (.bipush 16, 2) := by decide +kernel
theorem dX7_adds_49 : decode cX7_adds 49 = .ok (.aload_n 0, 1) := by decide +kernel
theorem dX7_adds_50 : decode cX7_adds 50 = .ok (.getfield 7, 3) := by decide +kernel
theorem dX7_adds_53 : decode cX7_adds 53 = .ok (.iconst 2, 1) := by decide +kernel
theorem dX7_adds_54 : decode cX7_adds 54 = .ok (.iaload, 1) := by decide +kernel
theorem dX7_adds_55 : decode cX7_adds 55 = .ok (.iadd, 1) := by decide +kernel
theorem dX7_adds_56 : decode cX7_adds 56 = .ok (.iload_n 1, 1) := by decide +kernel
theorem dX7_adds_57 : decode cX7_adds 57 = .ok (.iastore, 1) := by decide +kernel
theorem dX7_adds_58 : decode cX7_adds 58 = .ok (.aload_n 0, 1) := by decide +kernel
theorem dX7_adds_59 : decode cX7_adds 59 = .ok (.getfield 7, 3) := by decide +kernel
theorem dX7_adds_62 : decode cX7_adds 62 = .ok (.iconst 2, 1) := by decide +kernel
theorem dX7_adds_63 : decode cX7_adds 63 = .ok (.dup2, 1) := by decide +kernel
theorem dX7_adds_64 : decode cX7_adds 64 = .ok (.iaload, 1) := by decide +kernel
theorem dX7_adds_65 : decode cX7_adds 65 = .ok (.iconst 1, 1) := by decide +kernel
theorem dX7_adds_66 : decode cX7_adds 66 = .ok (.iadd, 1) := by decide +kernel
theorem dX7_adds_67 : decode cX7_adds 67 = .ok (.iastore, 1) := by decide +kernel
theorem dX7_adds_68 : decode cX7_adds 68 = .ok (.aload_n 0, 1) := by decide +kernel
theorem dX7_adds_69 : decode cX7_adds 69 = .ok (.getfield 7, 3) := by decide +kernel
theorem dX7_adds_72 : decode cX7_adds 72 = .ok (.iconst 2, 1) := by decide +kernel
theorem dX7_adds_73 : decode cX7_adds 73 = .ok (.iaload, 1) := by decide +kernel
theorem dX7_adds_74 : decode cX7_adds 74 = .ok (.ireturn, 1) := by decide +kernel
set_option maxRecDepth 20000 in
theorem ggX7_drops_X7_isCard : GoodIn wsX7_drops wsX7_isCard := goodIn_r _ [7, 2, 8, 9, 6, 10, 17, 18, 19, 20, 21, 22, 23, 24, 25, 26, 27, 28, 29, 30, 31, 32, 33, 34, 35] (by decide +kernel) (by decide +kernel)
set_option maxRecDepth 20000 in
theorem gX7_drops_X7_isCard : GoodIn wsX7_drops (wsV RX7 117 RX7 yX7_isCard wsX7_isCard) := goodIn_app (goodIn_of _ (by decide +kernel)) ggX7_drops_X7_isCard
set_option maxRecDepth 20000 in
theorem ggX7_drops_X7_notes : GoodIn wsX7_drops wsX7_notes := goodIn_r _ [14, 15, 16, 2, 17, 18, 19, 20, 21, 22, 23, 24, 25, 26, 27, 28, 29, 30, 31, 32, 33, 34, 35] (by decide +kernel) (by decide +kernel)
set_option maxRecDepth 20000 in
theorem gX7_drops_X7_notes : GoodIn wsX7_drops (wsV RX7 111 RX7 yX7_notes wsX7_notes) := goodIn_app (goodIn_of _ (by decide +kernel)) ggX7_drops_X7_notes
theorem dX7_drops_0 : decode cX7_drops 0 = .ok (.aload_n 0, 1) := by decide +kernel
theorem dX7_drops_1 : decode cX7_drops 1 = .ok (.iconst 0, 1) := by decide +kernel
theorem dX7_drops_2 : decode cX7_drops 2 = .ok (.putfield 37, 3) := by decide +kernel
theorem dX7_drops_5 : decode cX7_drops 5 = .ok (.aload_n 0, 1) := by decide +kernel
theorem dX7_drops_6 : decode cX7_drops 6 = .ok (.iload_n 1, 1) := by decide +kernel
theorem dX7_drops_7 : decode cX7_drops 7 = .ok (.invokevirtual 117, 3) := by decide +kernel
theorem dX7_drops_10 : decode cX7_drops 10 = .ok (.ifCond .ne 5, 3) := by decide +kernel
theorem dX7_drops_13 : decode cX7_drops 13 = .ok (.iconst (-1), 1) := by decide +kernel
theorem dX7_drops_14 : decode cX7_drops 14 = .ok (.ireturn, 1) := by decide +kernel
theorem dX7_drops_15 : decode cX7_drops 15 = .ok (.aload_n 0, 1) := by decide +kernel
theorem dX7_drops_16 : decode cX7_drops 16 = .ok (.getfield 7, 3) := by decide +kernel
theorem dX7_drops_19 : decode cX7_drops 19 = .ok (.iconst 2, 1) := by decide +kernel
theorem dX7_drops_20 : decode cX7_drops 20 = .ok (.iaload, 1) := by decide +kernel
theorem dX7_drops_21 : decode cX7_drops 21 = .ok (.iconst 1, 1) := by decide +kernel
theorem dX7_drops_22 : decode cX7_drops 22 = .ok (.if_icmp .ne 6, 3) := by decide +kernel
theorem dX7_drops_25 : decode cX7_drops 25 = .ok (.bipush (-2), 2) := by decide +kernel
theorem dX7_drops_27 : decode cX7_drops 27 = .ok (.ireturn, 1) := by decide +kernel
theorem dX7_drops_28 : decode cX7_drops 28 = .ok (.aload_n 0, 1) := by decide +kernel
theorem dX7_drops_29 : decode cX7_drops 29 = .ok (.invokevirtual 111, 3) := by decide +kernel
theorem dX7_drops_32 : decode cX7_drops 32 = .ok (.iload_n 1, 1) := by decide +kernel
theorem dX7_drops_33 : decode cX7_drops 33 = .ok (.istore_n 2, 1) := by decide +kernel
theorem dX7_drops_34 : decode cX7_drops 34 = .ok (.iload_n 2, 1) := by decide +kernel
theorem dX7_drops_35 : decode cX7_drops 35 = .ok (.iconst 1, 1) := by decide +kernel
theorem dX7_drops_36 : decode cX7_drops 36 = .ok (.iadd, 1) := by decide +kernel
theorem dX7_drops_37 : decode cX7_drops 37 = .ok (.aload_n 0, 1) := by decide +kernel
theorem dX7_drops_38 : decode cX7_drops 38 = .ok (.getfield 7, 3) := by decide +kernel
theorem dX7_drops_41 : decode cX7_drops 41 = .ok (.iconst 2, 1) := by decide +kernel
theorem dX7_drops_42 : decode cX7_drops 42 = .ok (.iaload, 1) := by decide +kernel
theorem dX7_drops_43 : decode cX7_drops 43 = .ok (.if_icmp .ge 29, 3) := by decide +kernel
theorem dX7_drops_46 : decode cX7_drops 46 = .ok (.aload_n 0, 1) := by decide +kernel
theorem dX7_drops_47 : decode cX7_drops 47 = .ok (.getfield 7, 3) := by decide +kernel
theorem dX7_drops_50 : decode cX7_drops 50 = .ok (.bipush 16, 2) := by decide +kernel
theorem dX7_drops_52 : decode cX7_drops 52 = .ok (.iload_n 2, 1) := by decide +kernel
theorem dX7_drops_53 : decode cX7_drops 53 = .ok (.iadd, 1) := by decide +kernel
theorem dX7_drops_54 : decode cX7_drops 54 = .ok (.aload_n 0, 1) := by decide +kernel
theorem dX7_drops_55 : decode cX7_drops 55 = .ok (.getfield 7, 3) := by decide +kernel
theorem dX7_drops_58 : decode cX7_drops 58 = .ok (.bipush 16, 2) := by decide +kernel
theorem dX7_drops_60 : decode cX7_drops 60 = .ok (.iload_n 2, 1) := by decide +kernel
theorem dX7_drops_61 : decode cX7_drops 61 = .ok (.iadd, 1) := by decide +kernel
theorem dX7_drops_62 : decode cX7_drops 62 = .ok (.iconst 1, 1) := by decide +kernel
theorem dX7_drops_63 : decode cX7_drops 63 = .ok (.iadd, 1) := by decide +kernel
theorem dX7_drops_64 : decode cX7_drops 64 = .ok (.iaload, 1) := by decide +kernel
theorem dX7_drops_65 : decode cX7_drops 65 = .ok (.iastore, 1) := by decide +kernel
theorem dX7_drops_66 : decode cX7_drops 66 = .ok (.iinc 2 1, 3) := by decide +kernel
theorem dX7_drops_69 : decode cX7_drops 69 = .ok (.goto (-35), 3) := by decide +kernel
theorem dX7_drops_72 : decode cX7_drops 72 = .ok (.aload_n 0, 1) := by decide +kernel
theorem dX7_drops_73 : decode cX7_drops 73 = .ok (.getfield 7, 3) := by decide +kernel
theorem dX7_drops_76 : decode cX7_drops 76 = .ok (.iconst 2, 1) := by decide +kernel
theorem dX7_drops_77 : decode cX7_drops 77 = .ok (.dup2, 1) := by decide +kernel
theorem dX7_drops_78 : decode cX7_drops 78 = .ok (.iaload, 1) := by decide +kernel
theorem dX7_drops_79 : decode cX7_drops 79 = .ok (.iconst 1, 1) := by decide +kernel
theorem dX7_drops_80 : decode cX7_drops 80 = .ok (.isub, 1) := by decide +kernel
theorem dX7_drops_81 : decode cX7_drops 81 = .ok (.iastore, 1) := by decide +kernel
theorem dX7_drops_82 : decode cX7_drops 82 = .ok (.aload_n 0, 1) := by decide +kernel
theorem dX7_drops_83 : decode cX7_drops 83 = .ok (.getfield 7, 3) := by decide +kernel
theorem dX7_drops_86 : decode cX7_drops 86 = .ok (.bipush 16, 2) := by decide +kernel
theorem dX7_drops_88 : decode cX7_drops 88 = .ok (.aload_n 0, 1) := by decide +kernel
theorem dX7_drops_89 : decode cX7_drops 89 = .ok (.getfield 7, 3) := by decide +kernel
theorem dX7_drops_92 : decode cX7_drops 92 = .ok (.iconst 2, 1) := by decide +kernel
theorem dX7_drops_93 : decode cX7_drops 93 = .ok (.iaload, 1) := by decide +kernel
theorem dX7_drops_94 : decode cX7_drops 94 = .ok (.iadd, 1) := by decide +kernel
theorem dX7_drops_95 : decode cX7_drops 95 = .ok (.iconst 0, 1) := by decide +kernel
theorem dX7_drops_96 : decode cX7_drops 96 = .ok (.iastore, 1) := by decide +kernel
theorem dX7_drops_97 : decode cX7_drops 97 = .ok (.aload_n 0, 1) := by decide +kernel
theorem dX7_drops_98 : decode cX7_drops 98 = .ok (.getfield 7, 3) := by decide +kernel
theorem dX7_drops_101 : decode cX7_drops 101 = .ok (.iconst 2, 1) := by decide +kernel
theorem dX7_drops_102 : decode cX7_drops 102 = .ok (.iaload, 1) := by decide +kernel
theorem dX7_drops_103 : decode cX7_drops 103 = .ok (.ireturn, 1) := by decide +kernel
theorem dX7_isUp_0 : decode cX7_isUp 0 = .ok (.aload_n 0, 1) := by decide +kernel
theorem dX7_isUp_1 : decode cX7_isUp 1 = .ok (.getfield 7, 3) := by decide +kernel
theorem dX7_isUp_4 : decode cX7_isUp 4 = .ok (.bipush 16, 2) := by decide +kernel
theorem dX7_isUp_6 : decode cX7_isUp 6 = .ok (.iload_n 1, 1) := by decide +kernel
theorem dX7_isUp_7 : decode cX7_isUp 7 = .ok (.aload_n 0, 1) := by decide +kernel
theorem dX7_isUp_8 : decode cX7_isUp 8 = .ok (.getfield 7, 3) := by decide +kernel
theorem dX7_isUp_11 : decode cX7_isUp 11 = .ok (.iconst 2, 1) := by decide +kernel
theorem dX7_isUp_12 : decode cX7_isUp 12 = .ok (.iaload, 1) := by decide +kernel
theorem dX7_isUp_13 : decode cX7_isUp 13 = .ok (.irem, 1) := by decide +kernel
theorem dX7_isUp_14 : decode cX7_isUp 14 = .ok (.iadd, 1) := by decide +kernel
theorem dX7_isUp_15 : decode cX7_isUp 15 = .ok (.iaload, 1) := by decide +kernel
theorem dX7_isUp_16 : decode cX7_isUp 16 = .ok (.aload_n 0, 1) := by decide +kernel
theorem dX7_isUp_17 : decode cX7_isUp 17 = .ok (.getfield 7, 3) := by decide +kernel
theorem dX7_isUp_20 : decode cX7_isUp 20 = .ok (.iconst 4, 1) := by decide +kernel
theorem dX7_isUp_21 : decode cX7_isUp 21 = .ok (.iload_n 2, 1) := by decide +kernel
theorem dX7_isUp_22 : decode cX7_isUp 22 = .ok (.iadd, 1) := by decide +kernel
theorem dX7_isUp_23 : decode cX7_isUp 23 = .ok (.iaload, 1) := by decide +kernel
theorem dX7_isUp_24 : decode cX7_isUp 24 = .ok (.ishr, 1) := by decide +kernel
theorem dX7_isUp_25 : decode cX7_isUp 25 = .ok (.iconst 1, 1) := by decide +kernel
theorem dX7_isUp_26 : decode cX7_isUp 26 = .ok (.iand, 1) := by decide +kernel
theorem dX7_isUp_27 : decode cX7_isUp 27 = .ok (.iconst 1, 1) := by decide +kernel
theorem dX7_isUp_28 : decode cX7_isUp 28 = .ok (.if_icmp .ne 7, 3) := by decide +kernel
theorem dX7_isUp_31 : decode cX7_isUp 31 = .ok (.iconst 1, 1) := by decide +kernel
theorem dX7_isUp_32 : decode cX7_isUp 32 = .ok (.goto 4, 3) := by decide +kernel
theorem dX7_isUp_35 : decode cX7_isUp 35 = .ok (.iconst 0, 1) := by decide +kernel
theorem dX7_isUp_36 : decode cX7_isUp 36 = .ok (.ireturn, 1) := by decide +kernel
set_option maxRecDepth 20000 in
theorem ggX7_changes_X7_isCard : GoodIn wsX7_changes wsX7_isCard := goodIn_r _ [7, 2, 8, 9, 6, 10, 21, 22, 23, 24, 25, 26, 27, 28, 29, 30, 31, 32, 33, 34, 35, 36, 37, 38, 39] (by decide +kernel) (by decide +kernel)
set_option maxRecDepth 20000 in
theorem gX7_changes_X7_isCard : GoodIn wsX7_changes (wsV RX7 117 RX7 yX7_isCard wsX7_isCard) := goodIn_app (goodIn_of _ (by decide +kernel)) ggX7_changes_X7_isCard
set_option maxRecDepth 20000 in
theorem ggX7_changes_X7_notes : GoodIn wsX7_changes wsX7_notes := goodIn_r _ [14, 15, 16, 2, 21, 22, 23, 24, 25, 26, 27, 28, 29, 30, 31, 32, 33, 34, 35, 36, 37, 38, 39] (by decide +kernel) (by decide +kernel)
set_option maxRecDepth 20000 in
theorem gX7_changes_X7_notes : GoodIn wsX7_changes (wsV RX7 111 RX7 yX7_notes wsX7_notes) := goodIn_app (goodIn_of _ (by decide +kernel)) ggX7_changes_X7_notes
set_option maxRecDepth 20000 in
theorem ggX7_changes_X7_isUp : GoodIn wsX7_changes wsX7_isUp := goodIn_r _ [20, 2, 21, 22, 23, 24, 25, 26, 27, 28, 29, 30, 31, 32, 33, 34, 35, 36, 37, 38, 39] (by decide +kernel) (by decide +kernel)
set_option maxRecDepth 20000 in
theorem gX7_changes_X7_isUp : GoodIn wsX7_changes (wsV RX7 130 RX7 yX7_isUp wsX7_isUp) := goodIn_app (goodIn_of _ (by decide +kernel)) ggX7_changes_X7_isUp
theorem dX7_changes_0 : decode cX7_changes 0 = .ok (.aload_n 0, 1) := by decide +kernel
theorem dX7_changes_1 : decode cX7_changes 1 = .ok (.iconst 0, 1) := by decide +kernel
theorem dX7_changes_2 : decode cX7_changes 2 = .ok (.putfield 37, 3) := by decide +kernel
theorem dX7_changes_5 : decode cX7_changes 5 = .ok (.aload_n 0, 1) := by decide +kernel
theorem dX7_changes_6 : decode cX7_changes 6 = .ok (.iload_n 1, 1) := by decide +kernel
theorem dX7_changes_7 : decode cX7_changes 7 = .ok (.invokevirtual 117, 3) := by decide +kernel
theorem dX7_changes_10 : decode cX7_changes 10 = .ok (.ifCond .eq 11, 3) := by decide +kernel
theorem dX7_changes_13 : decode cX7_changes 13 = .ok (.aload_n 0, 1) := by decide +kernel
theorem dX7_changes_14 : decode cX7_changes 14 = .ok (.iload_n 2, 1) := by decide +kernel
theorem dX7_changes_15 : decode cX7_changes 15 = .ok (.invokevirtual 117, 3) := by decide +kernel
theorem dX7_changes_18 : decode cX7_changes 18 = .ok (.ifCond .ne 5, 3) := by decide +kernel
theorem dX7_changes_21 : decode cX7_changes 21 = .ok (.iconst (-1), 1) := by decide +kernel
theorem dX7_changes_22 : decode cX7_changes 22 = .ok (.ireturn, 1) := by decide +kernel
theorem dX7_changes_23 : decode cX7_changes 23 = .ok (.iload_n 1, 1) := by decide +kernel
theorem dX7_changes_24 : decode cX7_changes 24 = .ok (.iload_n 2, 1) := by decide +kernel
theorem dX7_changes_25 : decode cX7_changes 25 = .ok (.if_icmp .ne 6, 3) := by decide +kernel
theorem dX7_changes_28 : decode cX7_changes 28 = .ok (.bipush (-2), 2) := by decide +kernel
theorem dX7_changes_30 : decode cX7_changes 30 = .ok (.ireturn, 1) := by decide +kernel
theorem dX7_changes_31 : decode cX7_changes 31 = .ok (.aload_n 0, 1) := by decide +kernel
theorem dX7_changes_32 : decode cX7_changes 32 = .ok (.invokevirtual 111, 3) := by decide +kernel
theorem dX7_changes_35 : decode cX7_changes 35 = .ok (.iconst 0, 1) := by decide +kernel
theorem dX7_changes_36 : decode cX7_changes 36 = .ok (.istore_n 3, 1) := by decide +kernel
theorem dX7_changes_37 : decode cX7_changes 37 = .ok (.iconst 0, 1) := by decide +kernel
theorem dX7_changes_38 : decode cX7_changes 38 = .ok (.istore 4, 2) := by decide +kernel
theorem dX7_changes_40 : decode cX7_changes 40 = .ok (.iload 4, 2) := by decide +kernel
theorem dX7_changes_42 : decode cX7_changes 42 = .ok (.aload_n 0, 1) := by decide +kernel
theorem dX7_changes_43 : decode cX7_changes 43 = .ok (.getfield 7, 3) := by decide +kernel
theorem dX7_changes_46 : decode cX7_changes 46 = .ok (.iconst 1, 1) := by decide +kernel
theorem dX7_changes_47 : decode cX7_changes 47 = .ok (.iaload, 1) := by decide +kernel
theorem dX7_changes_48 : decode cX7_changes 48 = .ok (.if_icmp .ge 34, 3) := by decide +kernel
theorem dX7_changes_51 : decode cX7_changes 51 = .ok (.iload_n 3, 1) := by decide +kernel
theorem dX7_changes_52 : decode cX7_changes 52 = .ok (.aload_n 0, 1) := by decide +kernel
theorem dX7_changes_53 : decode cX7_changes 53 = .ok (.iload_n 1, 1) := by decide +kernel
theorem dX7_changes_54 : decode cX7_changes 54 = .ok (.iload 4, 2) := by decide +kernel
theorem dX7_changes_56 : decode cX7_changes 56 = .ok (.invokevirtual 130, 3) := by decide +kernel
theorem dX7_changes_59 : decode cX7_changes 59 = .ok (.aload_n 0, 1) := by decide +kernel
theorem dX7_changes_60 : decode cX7_changes 60 = .ok (.iload_n 2, 1) := by decide +kernel
theorem dX7_changes_61 : decode cX7_changes 61 = .ok (.iload 4, 2) := by decide +kernel
theorem dX7_changes_63 : decode cX7_changes 63 = .ok (.invokevirtual 130, 3) := by decide +kernel
theorem dX7_changes_66 : decode cX7_changes 66 = .ok (.if_icmp .ne 7, 3) := by decide +kernel
theorem dX7_changes_69 : decode cX7_changes 69 = .ok (.iconst 0, 1) := by decide +kernel
theorem dX7_changes_70 : decode cX7_changes 70 = .ok (.goto 4, 3) := by decide +kernel
theorem dX7_changes_73 : decode cX7_changes 73 = .ok (.iconst 1, 1) := by decide +kernel
theorem dX7_changes_74 : decode cX7_changes 74 = .ok (.iadd, 1) := by decide +kernel
theorem dX7_changes_75 : decode cX7_changes 75 = .ok (.istore_n 3, 1) := by decide +kernel
theorem dX7_changes_76 : decode cX7_changes 76 = .ok (.iinc 4 1, 3) := by decide +kernel
theorem dX7_changes_79 : decode cX7_changes 79 = .ok (.goto (-39), 3) := by decide +kernel
theorem dX7_changes_82 : decode cX7_changes 82 = .ok (.aload_n 0, 1) := by decide +kernel
theorem dX7_changes_83 : decode cX7_changes 83 = .ok (.getfield 7, 3) := by decide +kernel
theorem dX7_changes_86 : decode cX7_changes 86 = .ok (.bipush 16, 2) := by decide +kernel
theorem dX7_changes_88 : decode cX7_changes 88 = .ok (.iload_n 1, 1) := by decide +kernel
theorem dX7_changes_89 : decode cX7_changes 89 = .ok (.iadd, 1) := by decide +kernel
theorem dX7_changes_90 : decode cX7_changes 90 = .ok (.iaload, 1) := by decide +kernel
theorem dX7_changes_91 : decode cX7_changes 91 = .ok (.istore 4, 2) := by decide +kernel
theorem dX7_changes_93 : decode cX7_changes 93 = .ok (.aload_n 0, 1) := by decide +kernel
theorem dX7_changes_94 : decode cX7_changes 94 = .ok (.getfield 7, 3) := by decide +kernel
theorem dX7_changes_97 : decode cX7_changes 97 = .ok (.bipush 16, 2) := by decide +kernel
theorem dX7_changes_99 : decode cX7_changes 99 = .ok (.iload_n 1, 1) := by decide +kernel
theorem dX7_changes_100 : decode cX7_changes 100 = .ok (.iadd, 1) := by decide +kernel
theorem dX7_changes_101 : decode cX7_changes 101 = .ok (.aload_n 0, 1) := by decide +kernel
theorem dX7_changes_102 : decode cX7_changes 102 = .ok (.getfield 7, 3) := by decide +kernel
theorem dX7_changes_105 : decode cX7_changes 105 = .ok (.bipush 16, 2) := by decide +kernel
theorem dX7_changes_107 : decode cX7_changes 107 = .ok (.iload_n 2, 1) := by decide +kernel
theorem dX7_changes_108 : decode cX7_changes 108 = .ok (.iadd, 1) := by decide +kernel
theorem dX7_changes_109 : decode cX7_changes 109 = .ok (.iaload, 1) := by decide +kernel
theorem dX7_changes_110 : decode cX7_changes 110 = .ok (.iastore, 1) := by decide +kernel
theorem dX7_changes_111 : decode cX7_changes 111 = .ok (.aload_n 0, 1) := by decide +kernel
theorem dX7_changes_112 : decode cX7_changes 112 = .ok (.getfield 7, 3) := by decide +kernel
theorem dX7_changes_115 : decode cX7_changes 115 = .ok (.bipush 16, 2) := by decide +kernel
theorem dX7_changes_117 : decode cX7_changes 117 = .ok (.iload_n 2, 1) := by decide +kernel
theorem dX7_changes_118 : decode cX7_changes 118 = .ok (.iadd, 1) := by decide +kernel
theorem dX7_changes_119 : decode cX7_changes 119 = .ok (.iload 4, 2) := by decide +kernel
theorem dX7_changes_121 : decode cX7_changes 121 = .ok (.iastore, 1) := by decide +kernel
theorem dX7_changes_122 : decode cX7_changes 122 = .ok (.iload_n 3, 1) := by decide +kernel
theorem dX7_changes_123 : decode cX7_changes 123 = .ok (.ireturn, 1) := by decide +kernel
set_option maxRecDepth 20000 in
theorem ggX7_limits_X7_in : GoodIn wsX7_limits wsX7_in := goodIn_r _ [5] (by decide +kernel) (by decide +kernel)
set_option maxRecDepth 20000 in
theorem gX7_limits_X7_in : GoodIn wsX7_limits (va_wsS RX7 41 yX7_in wsX7_in) := goodIn_app (goodIn_of _ (by decide +kernel)) ggX7_limits_X7_in
set_option maxRecDepth 20000 in
theorem ggX7_limits_X7_becomes : GoodIn wsX7_limits wsX7_becomes := goodIn_r _ [9, 10, 11, 12, 13, 4, 14, 15, 16, 17, 18, 19, 20, 21, 22, 23, 24, 25, 26, 27, 28, 29, 30, 31, 32, 33, 34, 35] (by decide +kernel) (by decide +kernel)
set_option maxRecDepth 20000 in
theorem gX7_limits_X7_becomes : GoodIn wsX7_limits (wsV RX7 127 RX7 yX7_becomes wsX7_becomes) := goodIn_app (goodIn_of _ (by decide +kernel)) ggX7_limits_X7_becomes
theorem dX7_limits_0 : decode cX7_limits 0 = .ok (.aload_n 0, 1) := by decide +kernel
theorem dX7_limits_1 : decode cX7_limits 1 = .ok (.iconst 0, 1) := by decide +kernel
theorem dX7_limits_2 : decode cX7_limits 2 = .ok (.putfield 37, 3) := by decide +kernel
theorem dX7_limits_5 : decode cX7_limits 5 = .ok (.iload_n 1, 1) := by decide +kernel
theorem dX7_limits_6 : decode cX7_limits 6 = .ok (.iconst 1, 1) := by decide +kernel
theorem dX7_limits_7 : decode cX7_limits 7 = .ok (.bipush 12, 2) := by decide +kernel
theorem dX7_limits_9 : decode cX7_limits 9 = .ok (.invokestatic 41, 3) := by decide +kernel
theorem dX7_limits_12 : decode cX7_limits 12 = .ok (.ifCond .eq 12, 3) := by decide +kernel
theorem dX7_limits_15 : decode cX7_limits 15 = .ok (.aload_n 0, 1) := by decide +kernel
theorem dX7_limits_16 : decode cX7_limits 16 = .ok (.iconst 3, 1) := by decide +kernel
theorem dX7_limits_17 : decode cX7_limits 17 = .ok (.iload_n 1, 1) := by decide +kernel
theorem dX7_limits_18 : decode cX7_limits 18 = .ok (.invokevirtual 127, 3) := by decide +kernel
theorem dX7_limits_21 : decode cX7_limits 21 = .ok (.goto 4, 3) := by decide +kernel
theorem dX7_limits_24 : decode cX7_limits 24 = .ok (.iconst (-1), 1) := by decide +kernel
theorem dX7_limits_25 : decode cX7_limits 25 = .ok (.ireturn, 1) := by decide +kernel
theorem dX7_undo_0 : decode cX7_undo 0 = .ok (.aload_n 0, 1) := by decide +kernel
theorem dX7_undo_1 : decode cX7_undo 1 = .ok (.iconst 0, 1) := by decide +kernel
theorem dX7_undo_2 : decode cX7_undo 2 = .ok (.putfield 37, 3) := by decide +kernel
theorem dX7_undo_5 : decode cX7_undo 5 = .ok (.aload_n 0, 1) := by decide +kernel
theorem dX7_undo_6 : decode cX7_undo 6 = .ok (.getfield 114, 3) := by decide +kernel
theorem dX7_undo_9 : decode cX7_undo 9 = .ok (.ifCond .ne 6, 3) := by decide +kernel
theorem dX7_undo_12 : decode cX7_undo 12 = .ok (.bipush (-2), 2) := by decide +kernel
theorem dX7_undo_14 : decode cX7_undo 14 = .ok (.ireturn, 1) := by decide +kernel
theorem dX7_undo_15 : decode cX7_undo 15 = .ok (.aload_n 0, 1) := by decide +kernel
theorem dX7_undo_16 : decode cX7_undo 16 = .ok (.dup, 1) := by decide +kernel
theorem dX7_undo_17 : decode cX7_undo 17 = .ok (.getfield 114, 3) := by decide +kernel
theorem dX7_undo_20 : decode cX7_undo 20 = .ok (.iconst 1, 1) := by decide +kernel
theorem dX7_undo_21 : decode cX7_undo 21 = .ok (.isub, 1) := by decide +kernel
theorem dX7_undo_22 : decode cX7_undo 22 = .ok (.putfield 114, 3) := by decide +kernel
theorem dX7_undo_25 : decode cX7_undo 25 = .ok (.iconst 0, 1) := by decide +kernel
theorem dX7_undo_26 : decode cX7_undo 26 = .ok (.istore_n 1, 1) := by decide +kernel
theorem dX7_undo_27 : decode cX7_undo 27 = .ok (.iload_n 1, 1) := by decide +kernel
theorem dX7_undo_28 : decode cX7_undo 28 = .ok (.bipush 24, 2) := by decide +kernel
theorem dX7_undo_30 : decode cX7_undo 30 = .ok (.if_icmp .ge 29, 3) := by decide +kernel
theorem dX7_undo_33 : decode cX7_undo 33 = .ok (.aload_n 0, 1) := by decide +kernel
theorem dX7_undo_34 : decode cX7_undo 34 = .ok (.getfield 7, 3) := by decide +kernel
theorem dX7_undo_37 : decode cX7_undo 37 = .ok (.iload_n 1, 1) := by decide +kernel
theorem dX7_undo_38 : decode cX7_undo 38 = .ok (.aload_n 0, 1) := by decide +kernel
theorem dX7_undo_39 : decode cX7_undo 39 = .ok (.getfield 16, 3) := by decide +kernel
theorem dX7_undo_42 : decode cX7_undo 42 = .ok (.bipush 24, 2) := by decide +kernel
theorem dX7_undo_44 : decode cX7_undo 44 = .ok (.aload_n 0, 1) := by decide +kernel
theorem dX7_undo_45 : decode cX7_undo 45 = .ok (.getfield 114, 3) := by decide +kernel
theorem dX7_undo_48 : decode cX7_undo 48 = .ok (.imul, 1) := by decide +kernel
theorem dX7_undo_49 : decode cX7_undo 49 = .ok (.iload_n 1, 1) := by decide +kernel
theorem dX7_undo_50 : decode cX7_undo 50 = .ok (.iadd, 1) := by decide +kernel
theorem dX7_undo_51 : decode cX7_undo 51 = .ok (.iaload, 1) := by decide +kernel
theorem dX7_undo_52 : decode cX7_undo 52 = .ok (.iastore, 1) := by decide +kernel
theorem dX7_undo_53 : decode cX7_undo 53 = .ok (.iinc 1 1, 3) := by decide +kernel
theorem dX7_undo_56 : decode cX7_undo 56 = .ok (.goto (-29), 3) := by decide +kernel
theorem dX7_undo_59 : decode cX7_undo 59 = .ok (.aload_n 0, 1) := by decide +kernel
theorem dX7_undo_60 : decode cX7_undo 60 = .ok (.getfield 114, 3) := by decide +kernel
theorem dX7_undo_63 : decode cX7_undo 63 = .ok (.ireturn, 1) := by decide +kernel
set_option maxRecDepth 20000 in
theorem ggX7_across_X7_isUp : GoodIn wsX7_across wsX7_isUp := goodIn_r _ [6, 1, 7, 8, 9, 10, 11, 12, 13, 14, 15, 16, 17, 18, 19, 20, 21, 22, 23, 24, 25] (by decide +kernel) (by decide +kernel)
set_option maxRecDepth 20000 in
theorem gX7_across_X7_isUp : GoodIn wsX7_across (wsV RX7 130 RX7 yX7_isUp wsX7_isUp) := goodIn_app (goodIn_of _ (by decide +kernel)) ggX7_across_X7_isUp
theorem dX7_across_0 : decode cX7_across 0 = .ok (.iconst 0, 1) := by decide +kernel
theorem dX7_across_1 : decode cX7_across 1 = .ok (.istore_n 2, 1) := by decide +kernel
theorem dX7_across_2 : decode cX7_across 2 = .ok (.iconst 0, 1) := by decide +kernel
theorem dX7_across_3 : decode cX7_across 3 = .ok (.istore_n 3, 1) := by decide +kernel
theorem dX7_across_4 : decode cX7_across 4 = .ok (.iconst 0, 1) := by decide +kernel
theorem dX7_across_5 : decode cX7_across 5 = .ok (.istore 4, 2) := by decide +kernel
theorem dX7_across_7 : decode cX7_across 7 = .ok (.iload 4, 2) := by decide +kernel
theorem dX7_across_9 : decode cX7_across 9 = .ok (.aload_n 0, 1) := by decide +kernel
theorem dX7_across_10 : decode cX7_across 10 = .ok (.getfield 7, 3) := by decide +kernel
theorem dX7_across_13 : decode cX7_across 13 = .ok (.iconst 1, 1) := by decide +kernel
theorem dX7_across_14 : decode cX7_across 14 = .ok (.iaload, 1) := by decide +kernel
theorem dX7_across_15 : decode cX7_across 15 = .ok (.if_icmp .ge 38, 3) := by decide +kernel
theorem dX7_across_18 : decode cX7_across 18 = .ok (.aload_n 0, 1) := by decide +kernel
theorem dX7_across_19 : decode cX7_across 19 = .ok (.iload_n 1, 1) := by decide +kernel
theorem dX7_across_20 : decode cX7_across 20 = .ok (.iload 4, 2) := by decide +kernel
theorem dX7_across_22 : decode cX7_across 22 = .ok (.invokevirtual 130, 3) := by decide +kernel
theorem dX7_across_25 : decode cX7_across 25 = .ok (.ifCond .eq 7, 3) := by decide +kernel
theorem dX7_across_28 : decode cX7_across 28 = .ok (.iconst 0, 1) := by decide +kernel
theorem dX7_across_29 : decode cX7_across 29 = .ok (.goto 6, 3) := by decide +kernel
theorem dX7_across_32 : decode cX7_across 32 = .ok (.iload_n 3, 1) := by decide +kernel
theorem dX7_across_33 : decode cX7_across 33 = .ok (.iconst 1, 1) := by decide +kernel
theorem dX7_across_34 : decode cX7_across 34 = .ok (.iadd, 1) := by decide +kernel
theorem dX7_across_35 : decode cX7_across 35 = .ok (.istore_n 3, 1) := by decide +kernel
theorem dX7_across_36 : decode cX7_across 36 = .ok (.iload_n 3, 1) := by decide +kernel
theorem dX7_across_37 : decode cX7_across 37 = .ok (.iload_n 2, 1) := by decide +kernel
theorem dX7_across_38 : decode cX7_across 38 = .ok (.if_icmp .le 7, 3) := by decide +kernel
theorem dX7_across_41 : decode cX7_across 41 = .ok (.iload_n 3, 1) := by decide +kernel
theorem dX7_across_42 : decode cX7_across 42 = .ok (.goto 4, 3) := by decide +kernel
theorem dX7_across_45 : decode cX7_across 45 = .ok (.iload_n 2, 1) := by decide +kernel
theorem dX7_across_46 : decode cX7_across 46 = .ok (.istore_n 2, 1) := by decide +kernel
theorem dX7_across_47 : decode cX7_across 47 = .ok (.iinc 4 1, 3) := by decide +kernel
theorem dX7_across_50 : decode cX7_across 50 = .ok (.goto (-43), 3) := by decide +kernel
theorem dX7_across_53 : decode cX7_across 53 = .ok (.iload_n 2, 1) := by decide +kernel
theorem dX7_across_54 : decode cX7_across 54 = .ok (.ireturn, 1) := by decide +kernel
set_option maxRecDepth 20000 in
theorem ggX7_along_X7_isUp : GoodIn wsX7_along wsX7_isUp := goodIn_r _ [6, 1, 7, 8, 9, 10, 11, 12, 13, 14, 15, 16, 17, 18, 19, 20, 21, 22, 23, 24, 25] (by decide +kernel) (by decide +kernel)
set_option maxRecDepth 20000 in
theorem gX7_along_X7_isUp : GoodIn wsX7_along (wsV RX7 130 RX7 yX7_isUp wsX7_isUp) := goodIn_app (goodIn_of _ (by decide +kernel)) ggX7_along_X7_isUp
theorem dX7_along_0 : decode cX7_along 0 = .ok (.iconst 0, 1) := by decide +kernel
theorem dX7_along_1 : decode cX7_along 1 = .ok (.istore_n 2, 1) := by decide +kernel
theorem dX7_along_2 : decode cX7_along 2 = .ok (.iconst 0, 1) := by decide +kernel
theorem dX7_along_3 : decode cX7_along 3 = .ok (.istore_n 3, 1) := by decide +kernel
theorem dX7_along_4 : decode cX7_along 4 = .ok (.iconst 0, 1) := by decide +kernel
theorem dX7_along_5 : decode cX7_along 5 = .ok (.istore 4, 2) := by decide +kernel
theorem dX7_along_7 : decode cX7_along 7 = .ok (.iload 4, 2) := by decide +kernel
theorem dX7_along_9 : decode cX7_along 9 = .ok (.iconst 2, 1) := by decide +kernel
theorem dX7_along_10 : decode cX7_along 10 = .ok (.aload_n 0, 1) := by decide +kernel
theorem dX7_along_11 : decode cX7_along 11 = .ok (.getfield 7, 3) := by decide +kernel
theorem dX7_along_14 : decode cX7_along 14 = .ok (.iconst 2, 1) := by decide +kernel
theorem dX7_along_15 : decode cX7_along 15 = .ok (.iaload, 1) := by decide +kernel
theorem dX7_along_16 : decode cX7_along 16 = .ok (.imul, 1) := by decide +kernel
theorem dX7_along_17 : decode cX7_along 17 = .ok (.if_icmp .ge 52, 3) := by decide +kernel
theorem dX7_along_20 : decode cX7_along 20 = .ok (.iload 4, 2) := by decide +kernel
theorem dX7_along_22 : decode cX7_along 22 = .ok (.ifCond .le 28, 3) := by decide +kernel
theorem dX7_along_25 : decode cX7_along 25 = .ok (.aload_n 0, 1) := by decide +kernel
theorem dX7_along_26 : decode cX7_along 26 = .ok (.iload 4, 2) := by decide +kernel
theorem dX7_along_28 : decode cX7_along 28 = .ok (.iload_n 1, 1) := by decide +kernel
theorem dX7_along_29 : decode cX7_along 29 = .ok (.invokevirtual 130, 3) := by decide +kernel
theorem dX7_along_32 : decode cX7_along 32 = .ok (.aload_n 0, 1) := by decide +kernel
theorem dX7_along_33 : decode cX7_along 33 = .ok (.iload 4, 2) := by decide +kernel
theorem dX7_along_35 : decode cX7_along 35 = .ok (.iconst 1, 1) := by decide +kernel
theorem dX7_along_36 : decode cX7_along 36 = .ok (.isub, 1) := by decide +kernel
theorem dX7_along_37 : decode cX7_along 37 = .ok (.iload_n 1, 1) := by decide +kernel
theorem dX7_along_38 : decode cX7_along 38 = .ok (.invokevirtual 130, 3) := by decide +kernel
theorem dX7_along_41 : decode cX7_along 41 = .ok (.if_icmp .ne 9, 3) := by decide +kernel
theorem dX7_along_44 : decode cX7_along 44 = .ok (.iload_n 3, 1) := by decide +kernel
theorem dX7_along_45 : decode cX7_along 45 = .ok (.iconst 1, 1) := by decide +kernel
theorem dX7_along_46 : decode cX7_along 46 = .ok (.iadd, 1) := by decide +kernel
theorem dX7_along_47 : decode cX7_along 47 = .ok (.goto 4, 3) := by decide +kernel
theorem dX7_along_50 : decode cX7_along 50 = .ok (.iconst 1, 1) := by decide +kernel
theorem dX7_along_51 : decode cX7_along 51 = .ok (.istore_n 3, 1) := by decide +kernel
theorem dX7_along_52 : decode cX7_along 52 = .ok (.iload_n 3, 1) := by decide +kernel
theorem dX7_along_53 : decode cX7_along 53 = .ok (.iload_n 2, 1) := by decide +kernel
theorem dX7_along_54 : decode cX7_along 54 = .ok (.if_icmp .le 7, 3) := by decide +kernel
theorem dX7_along_57 : decode cX7_along 57 = .ok (.iload_n 3, 1) := by decide +kernel
theorem dX7_along_58 : decode cX7_along 58 = .ok (.goto 4, 3) := by decide +kernel
theorem dX7_along_61 : decode cX7_along 61 = .ok (.iload_n 2, 1) := by decide +kernel
theorem dX7_along_62 : decode cX7_along 62 = .ok (.istore_n 2, 1) := by decide +kernel
theorem dX7_along_63 : decode cX7_along 63 = .ok (.iinc 4 1, 3) := by decide +kernel
theorem dX7_along_66 : decode cX7_along 66 = .ok (.goto (-59), 3) := by decide +kernel
theorem dX7_along_69 : decode cX7_along 69 = .ok (.iload_n 2, 1) := by decide +kernel
theorem dX7_along_70 : decode cX7_along 70 = .ok (.iconst 2, 1) := by decide +kernel
theorem dX7_along_71 : decode cX7_along 71 = .ok (.aload_n 0, 1) := by decide +kernel
theorem dX7_along_72 : decode cX7_along 72 = .ok (.getfield 7, 3) := by decide +kernel
theorem dX7_along_75 : decode cX7_along 75 = .ok (.iconst 2, 1) := by decide +kernel
theorem dX7_along_76 : decode cX7_along 76 = .ok (.iaload, 1) := by decide +kernel
theorem dX7_along_77 : decode cX7_along 77 = .ok (.imul, 1) := by decide +kernel
theorem dX7_along_78 : decode cX7_along 78 = .ok (.if_icmp .ne 8, 3) := by decide +kernel
theorem dX7_along_81 : decode cX7_along 81 = .ok (.bipush 99, 2) := by decide +kernel
theorem dX7_along_83 : decode cX7_along 83 = .ok (.goto 4, 3) := by decide +kernel
theorem dX7_along_86 : decode cX7_along 86 = .ok (.iload_n 2, 1) := by decide +kernel
theorem dX7_along_87 : decode cX7_along 87 = .ok (.ireturn, 1) := by decide +kernel
set_option maxRecDepth 20000 in
theorem ggX7_upIn_X7_isUp : GoodIn wsX7_upIn wsX7_isUp := goodIn_r _ [6, 1, 7, 8, 9, 10, 11, 12, 13, 14, 15, 16, 17, 18, 19, 20, 21, 22, 23, 24, 25] (by decide +kernel) (by decide +kernel)
set_option maxRecDepth 20000 in
theorem gX7_upIn_X7_isUp : GoodIn wsX7_upIn (wsV RX7 130 RX7 yX7_isUp wsX7_isUp) := goodIn_app (goodIn_of _ (by decide +kernel)) ggX7_upIn_X7_isUp
theorem dX7_upIn_0 : decode cX7_upIn 0 = .ok (.iconst 0, 1) := by decide +kernel
theorem dX7_upIn_1 : decode cX7_upIn 1 = .ok (.istore_n 2, 1) := by decide +kernel
theorem dX7_upIn_2 : decode cX7_upIn 2 = .ok (.iconst 0, 1) := by decide +kernel
theorem dX7_upIn_3 : decode cX7_upIn 3 = .ok (.istore_n 3, 1) := by decide +kernel
theorem dX7_upIn_4 : decode cX7_upIn 4 = .ok (.iload_n 3, 1) := by decide +kernel
theorem dX7_upIn_5 : decode cX7_upIn 5 = .ok (.aload_n 0, 1) := by decide +kernel
theorem dX7_upIn_6 : decode cX7_upIn 6 = .ok (.getfield 7, 3) := by decide +kernel
theorem dX7_upIn_9 : decode cX7_upIn 9 = .ok (.iconst 1, 1) := by decide +kernel
theorem dX7_upIn_10 : decode cX7_upIn 10 = .ok (.iaload, 1) := by decide +kernel
theorem dX7_upIn_11 : decode cX7_upIn 11 = .ok (.if_icmp .ge 28, 3) := by decide +kernel
theorem dX7_upIn_14 : decode cX7_upIn 14 = .ok (.iload_n 2, 1) := by decide +kernel
theorem dX7_upIn_15 : decode cX7_upIn 15 = .ok (.aload_n 0, 1) := by decide +kernel
theorem dX7_upIn_16 : decode cX7_upIn 16 = .ok (.iload_n 1, 1) := by decide +kernel
theorem dX7_upIn_17 : decode cX7_upIn 17 = .ok (.iload_n 3, 1) := by decide +kernel
theorem dX7_upIn_18 : decode cX7_upIn 18 = .ok (.invokevirtual 130, 3) := by decide +kernel
theorem dX7_upIn_21 : decode cX7_upIn 21 = .ok (.ifCond .eq 9, 3) := by decide +kernel
theorem dX7_upIn_24 : decode cX7_upIn 24 = .ok (.iconst 1, 1) := by decide +kernel
theorem dX7_upIn_25 : decode cX7_upIn 25 = .ok (.iload_n 3, 1) := by decide +kernel
theorem dX7_upIn_26 : decode cX7_upIn 26 = .ok (.ishl, 1) := by decide +kernel
theorem dX7_upIn_27 : decode cX7_upIn 27 = .ok (.goto 4, 3) := by decide +kernel
theorem dX7_upIn_30 : decode cX7_upIn 30 = .ok (.iconst 0, 1) := by decide +kernel
theorem dX7_upIn_31 : decode cX7_upIn 31 = .ok (.ior, 1) := by decide +kernel
theorem dX7_upIn_32 : decode cX7_upIn 32 = .ok (.istore_n 2, 1) := by decide +kernel
theorem dX7_upIn_33 : decode cX7_upIn 33 = .ok (.iinc 3 1, 3) := by decide +kernel
theorem dX7_upIn_36 : decode cX7_upIn 36 = .ok (.goto (-32), 3) := by decide +kernel
theorem dX7_upIn_39 : decode cX7_upIn 39 = .ok (.iload_n 2, 1) := by decide +kernel
theorem dX7_upIn_40 : decode cX7_upIn 40 = .ok (.ireturn, 1) := by decide +kernel
set_option maxRecDepth 20000 in
theorem ggX7_rowsOf_X7_isUp : GoodIn wsX7_rowsOf wsX7_isUp := goodIn_r _ [6, 1, 7, 8, 9, 10, 11, 12, 13, 14, 15, 16, 17, 18, 19, 20, 21, 22, 23, 24, 25] (by decide +kernel) (by decide +kernel)
set_option maxRecDepth 20000 in
theorem gX7_rowsOf_X7_isUp : GoodIn wsX7_rowsOf (wsV RX7 130 RX7 yX7_isUp wsX7_isUp) := goodIn_app (goodIn_of _ (by decide +kernel)) ggX7_rowsOf_X7_isUp
theorem dX7_rowsOf_0 : decode cX7_rowsOf 0 = .ok (.iconst 0, 1) := by decide +kernel
theorem dX7_rowsOf_1 : decode cX7_rowsOf 1 = .ok (.istore_n 2, 1) := by decide +kernel
theorem dX7_rowsOf_2 : decode cX7_rowsOf 2 = .ok (.iconst 0, 1) := by decide +kernel
theorem dX7_rowsOf_3 : decode cX7_rowsOf 3 = .ok (.istore_n 3, 1) := by decide +kernel
theorem dX7_rowsOf_4 : decode cX7_rowsOf 4 = .ok (.iload_n 3, 1) := by decide +kernel
theorem dX7_rowsOf_5 : decode cX7_rowsOf 5 = .ok (.aload_n 0, 1) := by decide +kernel
theorem dX7_rowsOf_6 : decode cX7_rowsOf 6 = .ok (.getfield 7, 3) := by decide +kernel
theorem dX7_rowsOf_9 : decode cX7_rowsOf 9 = .ok (.iconst 2, 1) := by decide +kernel
theorem dX7_rowsOf_10 : decode cX7_rowsOf 10 = .ok (.iaload, 1) := by decide +kernel
theorem dX7_rowsOf_11 : decode cX7_rowsOf 11 = .ok (.if_icmp .ge 28, 3) := by decide +kernel
theorem dX7_rowsOf_14 : decode cX7_rowsOf 14 = .ok (.iload_n 2, 1) := by decide +kernel
theorem dX7_rowsOf_15 : decode cX7_rowsOf 15 = .ok (.aload_n 0, 1) := by decide +kernel
theorem dX7_rowsOf_16 : decode cX7_rowsOf 16 = .ok (.iload_n 3, 1) := by decide +kernel
theorem dX7_rowsOf_17 : decode cX7_rowsOf 17 = .ok (.iload_n 1, 1) := by decide +kernel
theorem dX7_rowsOf_18 : decode cX7_rowsOf 18 = .ok (.invokevirtual 130, 3) := by decide +kernel
theorem dX7_rowsOf_21 : decode cX7_rowsOf 21 = .ok (.ifCond .eq 9, 3) := by decide +kernel
theorem dX7_rowsOf_24 : decode cX7_rowsOf 24 = .ok (.iconst 1, 1) := by decide +kernel
theorem dX7_rowsOf_25 : decode cX7_rowsOf 25 = .ok (.iload_n 3, 1) := by decide +kernel
theorem dX7_rowsOf_26 : decode cX7_rowsOf 26 = .ok (.ishl, 1) := by decide +kernel
theorem dX7_rowsOf_27 : decode cX7_rowsOf 27 = .ok (.goto 4, 3) := by decide +kernel
theorem dX7_rowsOf_30 : decode cX7_rowsOf 30 = .ok (.iconst 0, 1) := by decide +kernel
theorem dX7_rowsOf_31 : decode cX7_rowsOf 31 = .ok (.ior, 1) := by decide +kernel
theorem dX7_rowsOf_32 : decode cX7_rowsOf 32 = .ok (.istore_n 2, 1) := by decide +kernel
theorem dX7_rowsOf_33 : decode cX7_rowsOf 33 = .ok (.iinc 3 1, 3) := by decide +kernel
theorem dX7_rowsOf_36 : decode cX7_rowsOf 36 = .ok (.goto (-32), 3) := by decide +kernel
theorem dX7_rowsOf_39 : decode cX7_rowsOf 39 = .ok (.iload_n 2, 1) := by decide +kernel
theorem dX7_rowsOf_40 : decode cX7_rowsOf 40 = .ok (.ireturn, 1) := by decide +kernel
set_option maxRecDepth 20000 in
theorem ggX7_card_X7_isCard : GoodIn wsX7_card wsX7_isCard := goodIn_r _ [7, 2, 8, 9, 6, 10, 23, 24, 25, 26, 27, 28, 29, 30, 31, 32, 33, 34, 35, 36, 37, 38, 39, 40, 41] (by decide +kernel) (by decide +kernel)
set_option maxRecDepth 20000 in
theorem gX7_card_X7_isCard : GoodIn wsX7_card (wsV RX7 117 RX7 yX7_isCard wsX7_isCard) := goodIn_app (goodIn_of _ (by decide +kernel)) ggX7_card_X7_isCard
set_option maxRecDepth 20000 in
theorem ggX7_card_X7_in : GoodIn wsX7_card wsX7_in := goodIn_r _ [10] (by decide +kernel) (by decide +kernel)
set_option maxRecDepth 20000 in
theorem gX7_card_X7_in : GoodIn wsX7_card (va_wsS RX7 41 yX7_in wsX7_in) := goodIn_app (goodIn_of _ (by decide +kernel)) ggX7_card_X7_in
set_option maxRecDepth 20000 in
theorem ggX7_card_X7_upIn : GoodIn wsX7_card wsX7_upIn := goodIn_r _ [14, 2, 15, 16, 17, 6, 18, 23, 24, 25, 26, 27, 28, 29, 30, 31, 32, 33, 34, 35, 36, 37, 38, 39, 40, 41] (by decide +kernel) (by decide +kernel)
set_option maxRecDepth 20000 in
theorem gX7_card_X7_upIn : GoodIn wsX7_card (wsV RX7 134 RX7 yX7_upIn wsX7_upIn) := goodIn_app (goodIn_of _ (by decide +kernel)) ggX7_card_X7_upIn
set_option maxRecDepth 20000 in
theorem ggX7_card_X7_across : GoodIn wsX7_card wsX7_across := goodIn_r _ [22, 2, 15, 16, 17, 6, 18, 23, 24, 25, 26, 27, 28, 29, 30, 31, 32, 33, 34, 35, 36, 37, 38, 39, 40, 41] (by decide +kernel) (by decide +kernel)
set_option maxRecDepth 20000 in
theorem gX7_card_X7_across : GoodIn wsX7_card (wsV RX7 137 RX7 yX7_across wsX7_across) := goodIn_app (goodIn_of _ (by decide +kernel)) ggX7_card_X7_across
theorem dX7_card_0 : decode cX7_card 0 = .ok (.aload_n 0, 1) := by decide +kernel
theorem dX7_card_1 : decode cX7_card 1 = .ok (.iconst 0, 1) := by decide +kernel
theorem dX7_card_2 : decode cX7_card 2 = .ok (.putfield 37, 3) := by decide +kernel
theorem dX7_card_5 : decode cX7_card 5 = .ok (.aload_n 0, 1) := by decide +kernel
theorem dX7_card_6 : decode cX7_card 6 = .ok (.iload_n 1, 1) := by decide +kernel
theorem dX7_card_7 : decode cX7_card 7 = .ok (.invokevirtual 117, 3) := by decide +kernel
theorem dX7_card_10 : decode cX7_card 10 = .ok (.ifCond .eq 12, 3) := by decide +kernel
theorem dX7_card_13 : decode cX7_card 13 = .ok (.iload_n 2, 1) := by decide +kernel
theorem dX7_card_14 : decode cX7_card 14 = .ok (.iconst 0, 1) := by decide +kernel
theorem dX7_card_15 : decode cX7_card 15 = .ok (.iconst 2, 1) := by decide +kernel
theorem dX7_card_16 : decode cX7_card 16 = .ok (.invokestatic 41, 3) := by decide +kernel
theorem dX7_card_19 : decode cX7_card 19 = .ok (.ifCond .ne 5, 3) := by decide +kernel
theorem dX7_card_22 : decode cX7_card 22 = .ok (.iconst (-1), 1) := by decide +kernel
theorem dX7_card_23 : decode cX7_card 23 = .ok (.ireturn, 1) := by decide +kernel
theorem dX7_card_24 : decode cX7_card 24 = .ok (.iload_n 2, 1) := by decide +kernel
theorem dX7_card_25 : decode cX7_card 25 = .ok (.ifCond .ne 15, 3) := by decide +kernel
theorem dX7_card_28 : decode cX7_card 28 = .ok (.aload_n 0, 1) := by decide +kernel
theorem dX7_card_29 : decode cX7_card 29 = .ok (.getfield 7, 3) := by decide +kernel
theorem dX7_card_32 : decode cX7_card 32 = .ok (.bipush 16, 2) := by decide +kernel
theorem dX7_card_34 : decode cX7_card 34 = .ok (.iload_n 1, 1) := by decide +kernel
theorem dX7_card_35 : decode cX7_card 35 = .ok (.iadd, 1) := by decide +kernel
theorem dX7_card_36 : decode cX7_card 36 = .ok (.iaload, 1) := by decide +kernel
theorem dX7_card_37 : decode cX7_card 37 = .ok (.goto 21, 3) := by decide +kernel
theorem dX7_card_40 : decode cX7_card 40 = .ok (.iload_n 2, 1) := by decide +kernel
theorem dX7_card_41 : decode cX7_card 41 = .ok (.iconst 1, 1) := by decide +kernel
theorem dX7_card_42 : decode cX7_card 42 = .ok (.if_icmp .ne 11, 3) := by decide +kernel
theorem dX7_card_45 : decode cX7_card 45 = .ok (.aload_n 0, 1) := by decide +kernel
theorem dX7_card_46 : decode cX7_card 46 = .ok (.iload_n 1, 1) := by decide +kernel
theorem dX7_card_47 : decode cX7_card 47 = .ok (.invokevirtual 134, 3) := by decide +kernel
theorem dX7_card_50 : decode cX7_card 50 = .ok (.goto 8, 3) := by decide +kernel
theorem dX7_card_53 : decode cX7_card 53 = .ok (.aload_n 0, 1) := by decide +kernel
theorem dX7_card_54 : decode cX7_card 54 = .ok (.iload_n 1, 1) := by decide +kernel
theorem dX7_card_55 : decode cX7_card 55 = .ok (.invokevirtual 137, 3) := by decide +kernel
theorem dX7_card_58 : decode cX7_card 58 = .ok (.ireturn, 1) := by decide +kernel
set_option maxRecDepth 20000 in
theorem ggX7_end_X7_isEnd : GoodIn wsX7_end wsX7_isEnd := goodIn_r _ [7, 2, 8, 9, 6, 10, 23, 24, 25, 26, 27, 28, 29, 30, 31, 32, 33, 34, 35, 36, 37, 38, 39, 40, 41] (by decide +kernel) (by decide +kernel)
set_option maxRecDepth 20000 in
theorem gX7_end_X7_isEnd : GoodIn wsX7_end (wsV RX7 124 RX7 yX7_isEnd wsX7_isEnd) := goodIn_app (goodIn_of _ (by decide +kernel)) ggX7_end_X7_isEnd
set_option maxRecDepth 20000 in
theorem ggX7_end_X7_in : GoodIn wsX7_end wsX7_in := goodIn_r _ [10] (by decide +kernel) (by decide +kernel)
set_option maxRecDepth 20000 in
theorem gX7_end_X7_in : GoodIn wsX7_end (va_wsS RX7 41 yX7_in wsX7_in) := goodIn_app (goodIn_of _ (by decide +kernel)) ggX7_end_X7_in
set_option maxRecDepth 20000 in
theorem ggX7_end_X7_along : GoodIn wsX7_end wsX7_along := goodIn_r _ [14, 2, 15, 16, 17, 6, 18, 23, 24, 25, 26, 27, 28, 29, 30, 31, 32, 33, 34, 35, 36, 37, 38, 39, 40, 41] (by decide +kernel) (by decide +kernel)
set_option maxRecDepth 20000 in
theorem gX7_end_X7_along : GoodIn wsX7_end (wsV RX7 140 RX7 yX7_along wsX7_along) := goodIn_app (goodIn_of _ (by decide +kernel)) ggX7_end_X7_along
set_option maxRecDepth 20000 in
theorem ggX7_end_X7_rowsOf : GoodIn wsX7_end wsX7_rowsOf := goodIn_r _ [22, 2, 15, 16, 17, 6, 18, 23, 24, 25, 26, 27, 28, 29, 30, 31, 32, 33, 34, 35, 36, 37, 38, 39, 40, 41] (by decide +kernel) (by decide +kernel)
set_option maxRecDepth 20000 in
theorem gX7_end_X7_rowsOf : GoodIn wsX7_end (wsV RX7 143 RX7 yX7_rowsOf wsX7_rowsOf) := goodIn_app (goodIn_of _ (by decide +kernel)) ggX7_end_X7_rowsOf
theorem dX7_end_0 : decode cX7_end 0 = .ok (.aload_n 0, 1) := by decide +kernel
theorem dX7_end_1 : decode cX7_end 1 = .ok (.iconst 0, 1) := by decide +kernel
theorem dX7_end_2 : decode cX7_end 2 = .ok (.putfield 37, 3) := by decide +kernel
theorem dX7_end_5 : decode cX7_end 5 = .ok (.aload_n 0, 1) := by decide +kernel
theorem dX7_end_6 : decode cX7_end 6 = .ok (.iload_n 1, 1) := by decide +kernel
theorem dX7_end_7 : decode cX7_end 7 = .ok (.invokevirtual 124, 3) := by decide +kernel
theorem dX7_end_10 : decode cX7_end 10 = .ok (.ifCond .eq 12, 3) := by decide +kernel
theorem dX7_end_13 : decode cX7_end 13 = .ok (.iload_n 2, 1) := by decide +kernel
theorem dX7_end_14 : decode cX7_end 14 = .ok (.iconst 0, 1) := by decide +kernel
theorem dX7_end_15 : decode cX7_end 15 = .ok (.iconst 2, 1) := by decide +kernel
theorem dX7_end_16 : decode cX7_end 16 = .ok (.invokestatic 41, 3) := by decide +kernel
