set_option maxRecDepth 20000 in
theorem ggX6_undo_X0_restore : GoodIn wsX6_undo wsX0_restore := goodIn_r _ [8, 9, 10, 11, 12, 13, 14, 15, 16, 17, 18, 19, 20, 21, 22, 23, 24, 25, 26, 34, 35, 36, 37, 38, 39, 40, 41, 42] (by decide +kernel) (by decide +kernel)
set_option maxRecDepth 20000 in
theorem gX6_undo_X0_restore : GoodIn wsX6_undo (wsV RX6 137 RX0 yX0_restore wsX0_restore) := goodIn_app (goodIn_of _ (by decide +kernel)) ggX6_undo_X0_restore
theorem dX6_undo_0 : decode cX6_undo 0 = .ok (.aload_n 0, 1) := by decide +kernel
theorem dX6_undo_1 : decode cX6_undo 1 = .ok (.getfield 26, 3) := by decide +kernel
theorem dX6_undo_4 : decode cX6_undo 4 = .ok (.aload_n 0, 1) := by decide +kernel
theorem dX6_undo_5 : decode cX6_undo 5 = .ok (.getfield 10, 3) := by decide +kernel
theorem dX6_undo_8 : decode cX6_undo 8 = .ok (.invokevirtual 137, 3) := by decide +kernel
theorem dX6_undo_11 : decode cX6_undo 11 = .ok (.ifCond .eq 13, 3) := by decide +kernel
theorem dX6_undo_14 : decode cX6_undo 14 = .ok (.aload_n 0, 1) := by decide +kernel
theorem dX6_undo_15 : decode cX6_undo 15 = .ok (.getfield 26, 3) := by decide +kernel
theorem dX6_undo_18 : decode cX6_undo 18 = .ok (.getfield 141, 3) := by decide +kernel
theorem dX6_undo_21 : decode cX6_undo 21 = .ok (.goto 5, 3) := by decide +kernel
theorem dX6_undo_24 : decode cX6_undo 24 = .ok (.bipush (-2), 2) := by decide +kernel
theorem dX6_undo_26 : decode cX6_undo 26 = .ok (.ireturn, 1) := by decide +kernel
set_option maxRecDepth 20000 in
theorem ggX6_card_X2_hasCard : GoodIn wsX6_card wsX2_hasCard := goodIn_r _ [6, 7, 39, 40, 41, 42, 43, 44] (by decide +kernel) (by decide +kernel)
set_option maxRecDepth 20000 in
theorem gX6_card_X2_hasCard : GoodIn wsX6_card (wsV RX6 83 RX2 yX2_hasCard wsX2_hasCard) := goodIn_app (goodIn_of _ (by decide +kernel)) ggX6_card_X2_hasCard
set_option maxRecDepth 20000 in
theorem ggX6_card_X2_holesOf : GoodIn wsX6_card wsX2_holesOf := goodIn_r _ [11, 12, 13, 3, 4, 5, 6, 7, 39, 40, 41, 42, 43, 44] (by decide +kernel) (by decide +kernel)
set_option maxRecDepth 20000 in
theorem gX6_card_X2_holesOf : GoodIn wsX6_card (wsV RX6 97 RX2 yX2_holesOf wsX2_holesOf) := goodIn_app (goodIn_of _ (by decide +kernel)) ggX6_card_X2_holesOf
set_option maxRecDepth 20000 in
theorem ggX6_card_X2_upEnds : GoodIn wsX6_card wsX2_upEnds := goodIn_r _ [17, 18, 19, 20, 21, 5, 22, 7, 12, 23, 39, 40, 41, 42, 43, 44] (by decide +kernel) (by decide +kernel)
set_option maxRecDepth 20000 in
theorem gX6_card_X2_upEnds : GoodIn wsX6_card (wsV RX6 126 RX2 yX2_upEnds wsX2_upEnds) := goodIn_app (goodIn_of _ (by decide +kernel)) ggX6_card_X2_upEnds
set_option maxRecDepth 20000 in
theorem ggX6_card_X2_across : GoodIn wsX6_card wsX2_across := goodIn_r _ [27, 18, 28, 29, 30, 31, 19, 20, 21, 5, 22, 7, 12, 23, 39, 40, 41, 42, 43, 44] (by decide +kernel) (by decide +kernel)
set_option maxRecDepth 20000 in
theorem gX6_card_X2_across : GoodIn wsX6_card (wsV RX6 144 RX2 yX2_across wsX2_across) := goodIn_app (goodIn_of _ (by decide +kernel)) ggX6_card_X2_across
theorem dX6_card_0 : decode cX6_card 0 = .ok (.aload_n 0, 1) := by decide +kernel
theorem dX6_card_1 : decode cX6_card 1 = .ok (.getfield 10, 3) := by decide +kernel
theorem dX6_card_4 : decode cX6_card 4 = .ok (.iload_n 1, 1) := by decide +kernel
theorem dX6_card_5 : decode cX6_card 5 = .ok (.invokevirtual 83, 3) := by decide +kernel
theorem dX6_card_8 : decode cX6_card 8 = .ok (.ifCond .ne 5, 3) := by decide +kernel
theorem dX6_card_11 : decode cX6_card 11 = .ok (.iconst (-1), 1) := by decide +kernel
theorem dX6_card_12 : decode cX6_card 12 = .ok (.ireturn, 1) := by decide +kernel
theorem dX6_card_13 : decode cX6_card 13 = .ok (.iload_n 2, 1) := by decide +kernel
theorem dX6_card_14 : decode cX6_card 14 = .ok (.tableswitch 53 0 2 #[26, 35, 44], 26) := by decide +kernel
theorem dX6_card_40 : decode cX6_card 40 = .ok (.aload_n 0, 1) := by decide +kernel
theorem dX6_card_41 : decode cX6_card 41 = .ok (.getfield 10, 3) := by decide +kernel
theorem dX6_card_44 : decode cX6_card 44 = .ok (.iload_n 1, 1) := by decide +kernel
theorem dX6_card_45 : decode cX6_card 45 = .ok (.invokevirtual 97, 3) := by decide +kernel
theorem dX6_card_48 : decode cX6_card 48 = .ok (.ireturn, 1) := by decide +kernel
theorem dX6_card_49 : decode cX6_card 49 = .ok (.aload_n 0, 1) := by decide +kernel
theorem dX6_card_50 : decode cX6_card 50 = .ok (.getfield 10, 3) := by decide +kernel
theorem dX6_card_53 : decode cX6_card 53 = .ok (.iload_n 1, 1) := by decide +kernel
theorem dX6_card_54 : decode cX6_card 54 = .ok (.invokevirtual 126, 3) := by decide +kernel
theorem dX6_card_57 : decode cX6_card 57 = .ok (.ireturn, 1) := by decide +kernel
theorem dX6_card_58 : decode cX6_card 58 = .ok (.aload_n 0, 1) := by decide +kernel
theorem dX6_card_59 : decode cX6_card 59 = .ok (.getfield 10, 3) := by decide +kernel
theorem dX6_card_62 : decode cX6_card 62 = .ok (.iload_n 1, 1) := by decide +kernel
theorem dX6_card_63 : decode cX6_card 63 = .ok (.invokevirtual 144, 3) := by decide +kernel
theorem dX6_card_66 : decode cX6_card 66 = .ok (.ireturn, 1) := by decide +kernel
theorem dX6_card_67 : decode cX6_card 67 = .ok (.iconst (-1), 1) := by decide +kernel
theorem dX6_card_68 : decode cX6_card 68 = .ok (.ireturn, 1) := by decide +kernel
set_option maxRecDepth 20000 in
theorem ggX6_end_X2_hasEnd : GoodIn wsX6_end wsX2_hasEnd := goodIn_r _ [6, 7, 43, 44, 45, 46, 47, 48] (by decide +kernel) (by decide +kernel)
set_option maxRecDepth 20000 in
theorem gX6_end_X2_hasEnd : GoodIn wsX6_end (wsV RX6 101 RX2 yX2_hasEnd wsX2_hasEnd) := goodIn_app (goodIn_of _ (by decide +kernel)) ggX6_end_X2_hasEnd
set_option maxRecDepth 20000 in
theorem ggX6_end_X2_hookOf : GoodIn wsX6_end wsX2_hookOf := goodIn_r _ [11, 12, 13, 3, 4, 5, 6, 7, 43, 44, 45, 46, 47, 48] (by decide +kernel) (by decide +kernel)
set_option maxRecDepth 20000 in
theorem gX6_end_X2_hookOf : GoodIn wsX6_end (wsV RX6 104 RX2 yX2_hookOf wsX2_hookOf) := goodIn_app (goodIn_of _ (by decide +kernel)) ggX6_end_X2_hookOf
set_option maxRecDepth 20000 in
theorem ggX6_end_X2_along : GoodIn wsX6_end wsX2_along := goodIn_r _ [17, 18, 19, 20, 21, 22, 23, 24, 25, 5, 26, 7, 27, 12, 28, 29, 30, 31, 43, 44, 45, 46, 47, 48] (by decide +kernel) (by decide +kernel)
set_option maxRecDepth 20000 in
theorem gX6_end_X2_along : GoodIn wsX6_end (wsV RX6 147 RX2 yX2_along wsX2_along) := goodIn_app (goodIn_of _ (by decide +kernel)) ggX6_end_X2_along
set_option maxRecDepth 20000 in
theorem ggX6_end_X2_upRows : GoodIn wsX6_end wsX2_upRows := goodIn_r _ [35, 18, 23, 24, 25, 5, 26, 7, 27, 12, 43, 44, 45, 46, 47, 48] (by decide +kernel) (by decide +kernel)
set_option maxRecDepth 20000 in
theorem gX6_end_X2_upRows : GoodIn wsX6_end (wsV RX6 150 RX2 yX2_upRows wsX2_upRows) := goodIn_app (goodIn_of _ (by decide +kernel)) ggX6_end_X2_upRows
theorem dX6_end_0 : decode cX6_end 0 = .ok (.aload_n 0, 1) := by decide +kernel
theorem dX6_end_1 : decode cX6_end 1 = .ok (.getfield 10, 3) := by decide +kernel
theorem dX6_end_4 : decode cX6_end 4 = .ok (.iload_n 1, 1) := by decide +kernel
theorem dX6_end_5 : decode cX6_end 5 = .ok (.invokevirtual 101, 3) := by decide +kernel
theorem dX6_end_8 : decode cX6_end 8 = .ok (.ifCond .ne 5, 3) := by decide +kernel
theorem dX6_end_11 : decode cX6_end 11 = .ok (.iconst (-1), 1) := by decide +kernel
theorem dX6_end_12 : decode cX6_end 12 = .ok (.ireturn, 1) := by decide +kernel
theorem dX6_end_13 : decode cX6_end 13 = .ok (.iload_n 2, 1) := by decide +kernel
theorem dX6_end_14 : decode cX6_end 14 = .ok (.tableswitch 53 0 2 #[26, 35, 44], 26) := by decide +kernel
theorem dX6_end_40 : decode cX6_end 40 = .ok (.aload_n 0, 1) := by decide +kernel
theorem dX6_end_41 : decode cX6_end 41 = .ok (.getfield 10, 3) := by decide +kernel
theorem dX6_end_44 : decode cX6_end 44 = .ok (.iload_n 1, 1) := by decide +kernel
theorem dX6_end_45 : decode cX6_end 45 = .ok (.invokevirtual 104, 3) := by decide +kernel
theorem dX6_end_48 : decode cX6_end 48 = .ok (.ireturn, 1) := by decide +kernel
theorem dX6_end_49 : decode cX6_end 49 = .ok (.aload_n 0, 1) := by decide +kernel
theorem dX6_end_50 : decode cX6_end 50 = .ok (.getfield 10, 3) := by decide +kernel
theorem dX6_end_53 : decode cX6_end 53 = .ok (.iload_n 1, 1) := by decide +kernel
theorem dX6_end_54 : decode cX6_end 54 = .ok (.invokevirtual 147, 3) := by decide +kernel
theorem dX6_end_57 : decode cX6_end 57 = .ok (.ireturn, 1) := by decide +kernel
theorem dX6_end_58 : decode cX6_end 58 = .ok (.aload_n 0, 1) := by decide +kernel
theorem dX6_end_59 : decode cX6_end 59 = .ok (.getfield 10, 3) := by decide +kernel
theorem dX6_end_62 : decode cX6_end 62 = .ok (.iload_n 1, 1) := by decide +kernel
theorem dX6_end_63 : decode cX6_end 63 = .ok (.invokevirtual 150, 3) := by decide +kernel
theorem dX6_end_66 : decode cX6_end 66 = .ok (.ireturn, 1) := by decide +kernel
theorem dX6_end_67 : decode cX6_end 67 = .ok (.iconst (-1), 1) := by decide +kernel
theorem dX6_end_68 : decode cX6_end 68 = .ok (.ireturn, 1) := by decide +kernel
set_option maxRecDepth 20000 in
theorem ggX6_cloth_X2_hasEnd : GoodIn wsX6_cloth wsX2_hasEnd := goodIn_r _ [6, 7, 26, 27, 28, 29, 30, 31] (by decide +kernel) (by decide +kernel)
set_option maxRecDepth 20000 in
theorem gX6_cloth_X2_hasEnd : GoodIn wsX6_cloth (wsV RX6 101 RX2 yX2_hasEnd wsX2_hasEnd) := goodIn_app (goodIn_of _ (by decide +kernel)) ggX6_cloth_X2_hasEnd
set_option maxRecDepth 20000 in
theorem ggX6_cloth_X2_cardOfRow : GoodIn wsX6_cloth wsX2_cardOfRow := goodIn_r _ [11, 12, 26, 27, 28, 29, 30, 31] (by decide +kernel) (by decide +kernel)
set_option maxRecDepth 20000 in
theorem gX6_cloth_X2_cardOfRow : GoodIn wsX6_cloth (wsV RX6 153 RX2 yX2_cardOfRow wsX2_cardOfRow) := goodIn_app (goodIn_of _ (by decide +kernel)) ggX6_cloth_X2_cardOfRow
set_option maxRecDepth 20000 in
theorem ggX6_cloth_X2_isUp : GoodIn wsX6_cloth wsX2_isUp := goodIn_r _ [16, 12, 7, 17, 18, 26, 27, 28, 29, 30, 31] (by decide +kernel) (by decide +kernel)
set_option maxRecDepth 20000 in
theorem gX6_cloth_X2_isUp : GoodIn wsX6_cloth (wsV RX6 156 RX2 yX2_isUp wsX2_isUp) := goodIn_app (goodIn_of _ (by decide +kernel)) ggX6_cloth_X2_isUp
theorem dX6_cloth_0 : decode cX6_cloth 0 = .ok (.iload_n 1, 1) := by decide +kernel
theorem dX6_cloth_1 : decode cX6_cloth 1 = .ok (.ifCond .lt 21, 3) := by decide +kernel
theorem dX6_cloth_4 : decode cX6_cloth 4 = .ok (.iload_n 1, 1) := by decide +kernel
theorem dX6_cloth_5 : decode cX6_cloth 5 = .ok (.sipush 9999, 3) := by decide +kernel
theorem dX6_cloth_8 : decode cX6_cloth 8 = .ok (.if_icmp .gt 14, 3) := by decide +kernel
theorem dX6_cloth_11 : decode cX6_cloth 11 = .ok (.aload_n 0, 1) := by decide +kernel
theorem dX6_cloth_12 : decode cX6_cloth 12 = .ok (.getfield 10, 3) := by decide +kernel
theorem dX6_cloth_15 : decode cX6_cloth 15 = .ok (.iload_n 2, 1) := by decide +kernel
theorem dX6_cloth_16 : decode cX6_cloth 16 = .ok (.invokevirtual 101, 3) := by decide +kernel
theorem dX6_cloth_19 : decode cX6_cloth 19 = .ok (.ifCond .ne 5, 3) := by decide +kernel
theorem dX6_cloth_22 : decode cX6_cloth 22 = .ok (.iconst (-1), 1) := by decide +kernel
theorem dX6_cloth_23 : decode cX6_cloth 23 = .ok (.ireturn, 1) := by decide +kernel
theorem dX6_cloth_24 : decode cX6_cloth 24 = .ok (.aload_n 0, 1) := by decide +kernel
theorem dX6_cloth_25 : decode cX6_cloth 25 = .ok (.getfield 10, 3) := by decide +kernel
theorem dX6_cloth_28 : decode cX6_cloth 28 = .ok (.aload_n 0, 1) := by decide +kernel
theorem dX6_cloth_29 : decode cX6_cloth 29 = .ok (.getfield 10, 3) := by decide +kernel
theorem dX6_cloth_32 : decode cX6_cloth 32 = .ok (.iload_n 1, 1) := by decide +kernel
theorem dX6_cloth_33 : decode cX6_cloth 33 = .ok (.invokevirtual 153, 3) := by decide +kernel
theorem dX6_cloth_36 : decode cX6_cloth 36 = .ok (.iload_n 2, 1) := by decide +kernel
theorem dX6_cloth_37 : decode cX6_cloth 37 = .ok (.invokevirtual 156, 3) := by decide +kernel
theorem dX6_cloth_40 : decode cX6_cloth 40 = .ok (.ifCond .eq 7, 3) := by decide +kernel
theorem dX6_cloth_43 : decode cX6_cloth 43 = .ok (.iconst 1, 1) := by decide +kernel
theorem dX6_cloth_44 : decode cX6_cloth 44 = .ok (.goto 4, 3) := by decide +kernel
theorem dX6_cloth_47 : decode cX6_cloth 47 = .ok (.iconst 0, 1) := by decide +kernel
theorem dX6_cloth_48 : decode cX6_cloth 48 = .ok (.ireturn, 1) := by decide +kernel
set_option maxRecDepth 20000 in
theorem ggX6_told_X2_repeat : GoodIn wsX6_told wsX2_repeat := goodIn_r _ [6, 7, 8, 9, 10, 5, 11, 12, 13, 14, 15, 16, 17, 18, 19, 20, 21, 22, 23, 24, 25, 26, 76, 77, 78, 79, 80, 81] (by decide +kernel) (by decide +kernel)
set_option maxRecDepth 20000 in
theorem gX6_told_X2_repeat : GoodIn wsX6_told (wsV RX6 160 RX2 yX2_repeat wsX2_repeat) := goodIn_app (goodIn_of _ (by decide +kernel)) ggX6_told_X2_repeat
set_option maxRecDepth 20000 in
theorem ggX6_told_X2_unlikeEnds : GoodIn wsX6_told wsX2_unlikeEnds := goodIn_r _ [30, 16, 31, 32, 33, 5, 34, 35, 36, 37, 38, 7, 17, 18, 19, 20, 21, 22, 76, 77, 78, 79, 80, 81] (by decide +kernel) (by decide +kernel)
set_option maxRecDepth 20000 in
theorem gX6_told_X2_unlikeEnds : GoodIn wsX6_told (wsV RX6 163 RX2 yX2_unlikeEnds wsX2_unlikeEnds) := goodIn_app (goodIn_of _ (by decide +kernel)) ggX6_told_X2_unlikeEnds
set_option maxRecDepth 20000 in
theorem ggX6_told_X2_longCards : GoodIn wsX6_told wsX2_longCards := goodIn_r _ [42, 7, 43, 44, 45, 46, 5, 47, 16, 48, 49, 50, 51, 17, 18, 19, 20, 21, 22, 76, 77, 78, 79, 80, 81] (by decide +kernel) (by decide +kernel)
set_option maxRecDepth 20000 in
theorem gX6_told_X2_longCards : GoodIn wsX6_told (wsV RX6 166 RX2 yX2_longCards wsX2_longCards) := goodIn_app (goodIn_of _ (by decide +kernel)) ggX6_told_X2_longCards
set_option maxRecDepth 20000 in
theorem ggX6_told_X2_longEnds : GoodIn wsX6_told wsX2_longEnds := goodIn_r _ [55, 16, 43, 56, 57, 58, 5, 59, 7, 48, 49, 50, 51, 17, 18, 19, 20, 21, 22, 23, 24, 25, 26, 76, 77, 78, 79, 80, 81] (by decide +kernel) (by decide +kernel)
set_option maxRecDepth 20000 in
theorem gX6_told_X2_longEnds : GoodIn wsX6_told (wsV RX6 169 RX2 yX2_longEnds wsX2_longEnds) := goodIn_app (goodIn_of _ (by decide +kernel)) ggX6_told_X2_longEnds
set_option maxRecDepth 20000 in
theorem ggX6_told_X2_hooksWithoutEnds : GoodIn wsX6_told wsX2_hooksWithoutEnds := goodIn_r _ [63, 64, 65, 66, 67, 5, 68, 16, 22, 76, 77, 78, 79, 80, 81] (by decide +kernel) (by decide +kernel)
set_option maxRecDepth 20000 in
theorem gX6_told_X2_hooksWithoutEnds : GoodIn wsX6_told (wsV RX6 172 RX2 yX2_hooksWithoutEnds wsX2_hooksWithoutEnds) := goodIn_app (goodIn_of _ (by decide +kernel)) ggX6_told_X2_hooksWithoutEnds
theorem dX6_told_0 : decode cX6_told 0 = .ok (.iload_n 1, 1) := by decide +kernel
theorem dX6_told_1 : decode cX6_told 1 = .ok (.tableswitch 75 0 4 #[35, 43, 51, 59, 67], 35) := by decide +kernel
theorem dX6_told_36 : decode cX6_told 36 = .ok (.aload_n 0, 1) := by decide +kernel
theorem dX6_told_37 : decode cX6_told 37 = .ok (.getfield 10, 3) := by decide +kernel
theorem dX6_told_40 : decode cX6_told 40 = .ok (.invokevirtual 160, 3) := by decide +kernel
theorem dX6_told_43 : decode cX6_told 43 = .ok (.ireturn, 1) := by decide +kernel
theorem dX6_told_44 : decode cX6_told 44 = .ok (.aload_n 0, 1) := by decide +kernel
theorem dX6_told_45 : decode cX6_told 45 = .ok (.getfield 10, 3) := by decide +kernel
theorem dX6_told_48 : decode cX6_told 48 = .ok (.invokevirtual 163, 3) := by decide +kernel
theorem dX6_told_51 : decode cX6_told 51 = .ok (.ireturn, 1) := by decide +kernel
theorem dX6_told_52 : decode cX6_told 52 = .ok (.aload_n 0, 1) := by decide +kernel
theorem dX6_told_53 : decode cX6_told 53 = .ok (.getfield 10, 3) := by decide +kernel
theorem dX6_told_56 : decode cX6_told 56 = .ok (.invokevirtual 166, 3) := by decide +kernel
theorem dX6_told_59 : decode cX6_told 59 = .ok (.ireturn, 1) := by decide +kernel
theorem dX6_told_60 : decode cX6_told 60 = .ok (.aload_n 0, 1) := by decide +kernel
theorem dX6_told_61 : decode cX6_told 61 = .ok (.getfield 10, 3) := by decide +kernel
theorem dX6_told_64 : decode cX6_told 64 = .ok (.invokevirtual 169, 3) := by decide +kernel
theorem dX6_told_67 : decode cX6_told 67 = .ok (.ireturn, 1) := by decide +kernel
theorem dX6_told_68 : decode cX6_told 68 = .ok (.aload_n 0, 1) := by decide +kernel
theorem dX6_told_69 : decode cX6_told 69 = .ok (.getfield 10, 3) := by decide +kernel
theorem dX6_told_72 : decode cX6_told 72 = .ok (.invokevirtual 172, 3) := by decide +kernel
theorem dX6_told_75 : decode cX6_told 75 = .ok (.ireturn, 1) := by decide +kernel
theorem dX6_told_76 : decode cX6_told 76 = .ok (.iconst (-1), 1) := by decide +kernel
theorem dX6_told_77 : decode cX6_told 77 = .ok (.ireturn, 1) := by decide +kernel
set_option maxRecDepth 20000 in
theorem ggX6_mends_X3_search : GoodIn wsX6_mends wsX3_search := goodIn_r _ [10, 11, 12, 13, 14, 15, 16, 17, 18, 19, 20, 21, 22, 23, 24, 25, 26, 27, 28, 29, 30, 31, 32, 33, 34, 35, 36, 37, 38, 39, 40, 41, 42, 43, 44, 45, 46, 47, 48, 49, 50, 51, 52, 53, 54, 55, 56, 9, 57, 58, 59, 60, 61, 62, 63, 64, 65, 66, 67, 68, 69, 70, 71, 72, 73, 74, 75, 76, 77, 78, 79, 80, 81, 82, 83, 84, 85, 86, 94, 95, 96, 97, 98, 99, 100, 101, 102, 103] (by decide +kernel) (by decide +kernel)
set_option maxRecDepth 20000 in
theorem gX6_mends_X3_search : GoodIn wsX6_mends (wsV RX6 175 RX3 yX3_search wsX3_search) := goodIn_app (goodIn_of _ (by decide +kernel)) ggX6_mends_X3_search
theorem dX6_mends_0 : decode cX6_mends 0 = .ok (.iload_n 1, 1) := by decide +kernel
theorem dX6_mends_1 : decode cX6_mends 1 = .ok (.iconst (-1), 1) := by decide +kernel
theorem dX6_mends_2 : decode cX6_mends 2 = .ok (.if_icmp .lt 8, 3) := by decide +kernel
theorem dX6_mends_5 : decode cX6_mends 5 = .ok (.iload_n 1, 1) := by decide +kernel
theorem dX6_mends_6 : decode cX6_mends 6 = .ok (.iconst 1, 1) := by decide +kernel
theorem dX6_mends_7 : decode cX6_mends 7 = .ok (.if_icmp .le 5, 3) := by decide +kernel
theorem dX6_mends_10 : decode cX6_mends 10 = .ok (.iconst (-1), 1) := by decide +kernel
theorem dX6_mends_11 : decode cX6_mends 11 = .ok (.ireturn, 1) := by decide +kernel
theorem dX6_mends_12 : decode cX6_mends 12 = .ok (.aload_n 0, 1) := by decide +kernel
theorem dX6_mends_13 : decode cX6_mends 13 = .ok (.getfield 33, 3) := by decide +kernel
theorem dX6_mends_16 : decode cX6_mends 16 = .ok (.aload_n 0, 1) := by decide +kernel
theorem dX6_mends_17 : decode cX6_mends 17 = .ok (.getfield 10, 3) := by decide +kernel
theorem dX6_mends_20 : decode cX6_mends 20 = .ok (.invokevirtual 175, 3) := by decide +kernel
theorem dX6_mends_23 : decode cX6_mends 23 = .ok (.iload_n 1, 1) := by decide +kernel
theorem dX6_mends_24 : decode cX6_mends 24 = .ok (.lookupswitch 44 #[(0, 28), (1, 36)], 28) := by decide +kernel
theorem dX6_mends_52 : decode cX6_mends 52 = .ok (.aload_n 0, 1) := by decide +kernel
theorem dX6_mends_53 : decode cX6_mends 53 = .ok (.getfield 33, 3) := by decide +kernel
theorem dX6_mends_56 : decode cX6_mends 56 = .ok (.getfield 178, 3) := by decide +kernel
theorem dX6_mends_59 : decode cX6_mends 59 = .ok (.ireturn, 1) := by decide +kernel
theorem dX6_mends_60 : decode cX6_mends 60 = .ok (.aload_n 0, 1) := by decide +kernel
theorem dX6_mends_61 : decode cX6_mends 61 = .ok (.getfield 33, 3) := by decide +kernel
theorem dX6_mends_64 : decode cX6_mends 64 = .ok (.getfield 181, 3) := by decide +kernel
theorem dX6_mends_67 : decode cX6_mends 67 = .ok (.ireturn, 1) := by decide +kernel
theorem dX6_mends_68 : decode cX6_mends 68 = .ok (.aload_n 0, 1) := by decide +kernel
theorem dX6_mends_69 : decode cX6_mends 69 = .ok (.getfield 33, 3) := by decide +kernel
theorem dX6_mends_72 : decode cX6_mends 72 = .ok (.getfield 184, 3) := by decide +kernel
theorem dX6_mends_75 : decode cX6_mends 75 = .ok (.ireturn, 1) := by decide +kernel
set_option maxRecDepth 20000 in
theorem ggX6_sees_X4_note : GoodIn wsX6_sees wsX4_note := goodIn_r _ [7, 8, 9, 10, 11, 19, 20, 21, 22] (by decide +kernel) (by decide +kernel)
set_option maxRecDepth 20000 in
theorem gX6_sees_X4_note : GoodIn wsX6_sees (wsV RX6 187 RX4 yX4_note wsX4_note) := goodIn_app (goodIn_of _ (by decide +kernel)) ggX6_sees_X4_note
theorem dX6_sees_0 : decode cX6_sees 0 = .ok (.iload_n 1, 1) := by decide +kernel
theorem dX6_sees_1 : decode cX6_sees 1 = .ok (.ifCond .lt 28, 3) := by decide +kernel
theorem dX6_sees_4 : decode cX6_sees 4 = .ok (.iload_n 1, 1) := by decide +kernel
theorem dX6_sees_5 : decode cX6_sees 5 = .ok (.bipush 99, 2) := by decide +kernel
theorem dX6_sees_7 : decode cX6_sees 7 = .ok (.if_icmp .gt 22, 3) := by decide +kernel
theorem dX6_sees_10 : decode cX6_sees 10 = .ok (.iload_n 2, 1) := by decide +kernel
theorem dX6_sees_11 : decode cX6_sees 11 = .ok (.ifCond .lt 18, 3) := by decide +kernel
theorem dX6_sees_14 : decode cX6_sees 14 = .ok (.iload_n 2, 1) := by decide +kernel
theorem dX6_sees_15 : decode cX6_sees 15 = .ok (.bipush 12, 2) := by decide +kernel
theorem dX6_sees_17 : decode cX6_sees 17 = .ok (.if_icmp .ge 12, 3) := by decide +kernel
theorem dX6_sees_20 : decode cX6_sees 20 = .ok (.iload_n 3, 1) := by decide +kernel
theorem dX6_sees_21 : decode cX6_sees 21 = .ok (.ifCond .lt 8, 3) := by decide +kernel
theorem dX6_sees_24 : decode cX6_sees 24 = .ok (.iload_n 3, 1) := by decide +kernel
theorem dX6_sees_25 : decode cX6_sees 25 = .ok (.iconst 1, 1) := by decide +kernel
theorem dX6_sees_26 : decode cX6_sees 26 = .ok (.if_icmp .le 5, 3) := by decide +kernel
theorem dX6_sees_29 : decode cX6_sees 29 = .ok (.iconst (-1), 1) := by decide +kernel
theorem dX6_sees_30 : decode cX6_sees 30 = .ok (.ireturn, 1) := by decide +kernel
theorem dX6_sees_31 : decode cX6_sees 31 = .ok (.aload_n 0, 1) := by decide +kernel
theorem dX6_sees_32 : decode cX6_sees 32 = .ok (.getfield 40, 3) := by decide +kernel
theorem dX6_sees_35 : decode cX6_sees 35 = .ok (.iload_n 1, 1) := by decide +kernel
theorem dX6_sees_36 : decode cX6_sees 36 = .ok (.iload_n 2, 1) := by decide +kernel
theorem dX6_sees_37 : decode cX6_sees 37 = .ok (.iload_n 3, 1) := by decide +kernel
theorem dX6_sees_38 : decode cX6_sees 38 = .ok (.iconst 1, 1) := by decide +kernel
theorem dX6_sees_39 : decode cX6_sees 39 = .ok (.if_icmp .ne 7, 3) := by decide +kernel
theorem dX6_sees_42 : decode cX6_sees 42 = .ok (.iconst 1, 1) := by decide +kernel
theorem dX6_sees_43 : decode cX6_sees 43 = .ok (.goto 4, 3) := by decide +kernel
theorem dX6_sees_46 : decode cX6_sees 46 = .ok (.iconst 0, 1) := by decide +kernel
theorem dX6_sees_47 : decode cX6_sees 47 = .ok (.invokevirtual 187, 3) := by decide +kernel
theorem dX6_sees_50 : decode cX6_sees 50 = .ok (.ifCond .eq 13, 3) := by decide +kernel
theorem dX6_sees_53 : decode cX6_sees 53 = .ok (.aload_n 0, 1) := by decide +kernel
theorem dX6_sees_54 : decode cX6_sees 54 = .ok (.getfield 40, 3) := by decide +kernel
theorem dX6_sees_57 : decode cX6_sees 57 = .ok (.getfield 191, 3) := by decide +kernel
theorem dX6_sees_60 : decode cX6_sees 60 = .ok (.goto 5, 3) := by decide +kernel
theorem dX6_sees_63 : decode cX6_sees 63 = .ok (.bipush (-3), 2) := by decide +kernel
theorem dX6_sees_65 : decode cX6_sees 65 = .ok (.ireturn, 1) := by decide +kernel
set_option maxRecDepth 20000 in
theorem ggX6_forget_X4_empty : GoodIn wsX6_forget wsX4_empty := goodIn_r _ [6, 7, 15, 16, 17, 18] (by decide +kernel) (by decide +kernel)
set_option maxRecDepth 20000 in
theorem gX6_forget_X4_empty : GoodIn wsX6_forget (wsV RX6 194 RX4 yX4_empty wsX4_empty) := goodIn_app (goodIn_of _ (by decide +kernel)) ggX6_forget_X4_empty
theorem dX6_forget_0 : decode cX6_forget 0 = .ok (.aload_n 0, 1) := by decide +kernel
theorem dX6_forget_1 : decode cX6_forget 1 = .ok (.getfield 40, 3) := by decide +kernel
theorem dX6_forget_4 : decode cX6_forget 4 = .ok (.invokevirtual 194, 3) := by decide +kernel
theorem dX6_forget_7 : decode cX6_forget 7 = .ok (.ireturn, 1) := by decide +kernel
set_option maxRecDepth 20000 in
theorem ggX6_suspects_X4_howManySuspects : GoodIn wsX6_suspects wsX4_howManySuspects := goodIn_r _ [8, 9, 10, 11, 7, 12, 13, 14, 15, 16, 17, 18, 19, 20, 21, 22, 23, 24, 25, 26, 27, 28, 29, 30, 31, 32, 33, 34, 35, 36, 37, 38, 39, 40, 41, 42, 43, 44, 45, 46, 47, 48, 49, 50, 51, 52, 53, 54, 55, 56, 57, 58, 59, 60, 61, 62, 63, 64, 76, 77, 78, 79, 80, 81, 82, 83, 84, 85] (by decide +kernel) (by decide +kernel)
set_option maxRecDepth 20000 in
theorem gX6_suspects_X4_howManySuspects : GoodIn wsX6_suspects (wsV RX6 195 RX4 yX4_howManySuspects wsX4_howManySuspects) := goodIn_app (goodIn_of _ (by decide +kernel)) ggX6_suspects_X4_howManySuspects
set_option maxRecDepth 20000 in
theorem ggX6_suspects_X4_firstSuspect : GoodIn wsX6_suspects wsX4_firstSuspect := goodIn_r _ [68, 13, 14, 15, 16, 17, 18, 19, 20, 21, 22, 7, 23, 24, 25, 26, 27, 28, 29, 30, 31, 32, 33, 34, 35, 36, 37, 38, 39, 40, 41, 42, 43, 44, 45, 46, 47, 48, 49, 50, 51, 52, 53, 54, 76, 77, 78, 79, 80, 81, 82, 83, 84, 85] (by decide +kernel) (by decide +kernel)
set_option maxRecDepth 20000 in
theorem gX6_suspects_X4_firstSuspect : GoodIn wsX6_suspects (wsV RX6 199 RX4 yX4_firstSuspect wsX4_firstSuspect) := goodIn_app (goodIn_of _ (by decide +kernel)) ggX6_suspects_X4_firstSuspect
theorem dX6_suspects_0 : decode cX6_suspects 0 = .ok (.iload_n 1, 1) := by decide +kernel
theorem dX6_suspects_1 : decode cX6_suspects 1 = .ok (.lookupswitch 51 #[(0, 27), (1, 39)], 27) := by decide +kernel
theorem dX6_suspects_28 : decode cX6_suspects 28 = .ok (.aload_n 0, 1) := by decide +kernel
theorem dX6_suspects_29 : decode cX6_suspects 29 = .ok (.getfield 40, 3) := by decide +kernel
theorem dX6_suspects_32 : decode cX6_suspects 32 = .ok (.aload_n 0, 1) := by decide +kernel
theorem dX6_suspects_33 : decode cX6_suspects 33 = .ok (.getfield 10, 3) := by decide +kernel
theorem dX6_suspects_36 : decode cX6_suspects 36 = .ok (.invokevirtual 195, 3) := by decide +kernel
theorem dX6_suspects_39 : decode cX6_suspects 39 = .ok (.ireturn, 1) := by decide +kernel
theorem dX6_suspects_40 : decode cX6_suspects 40 = .ok (.aload_n 0, 1) := by decide +kernel
theorem dX6_suspects_41 : decode cX6_suspects 41 = .ok (.getfield 40, 3) := by decide +kernel
theorem dX6_suspects_44 : decode cX6_suspects 44 = .ok (.aload_n 0, 1) := by decide +kernel
theorem dX6_suspects_45 : decode cX6_suspects 45 = .ok (.getfield 10, 3) := by decide +kernel
theorem dX6_suspects_48 : decode cX6_suspects 48 = .ok (.invokevirtual 199, 3) := by decide +kernel
theorem dX6_suspects_51 : decode cX6_suspects 51 = .ok (.ireturn, 1) := by decide +kernel
theorem dX6_suspects_52 : decode cX6_suspects 52 = .ok (.ldc 202, 2) := by decide +kernel
theorem dX6_suspects_54 : decode cX6_suspects 54 = .ok (.ireturn, 1) := by decide +kernel
set_option maxRecDepth 20000 in
theorem ggX6_look_X4_whereToLook : GoodIn wsX6_look wsX4_whereToLook := goodIn_r _ [7, 8, 9, 10, 11, 12, 13, 14, 15, 16, 6, 17, 18, 19, 20, 21, 22, 23, 24, 25, 26, 27, 28, 29, 30, 31, 32, 33, 34, 35, 36, 37, 38, 39, 40, 41, 42, 43, 44, 45, 46, 47, 48, 49, 50, 51, 52, 53, 54, 55, 56, 57, 58, 59, 60, 61, 62, 63, 64, 65, 66, 67, 68, 69, 70, 71, 72, 80, 81, 82, 83, 84, 85, 86, 87, 88, 89] (by decide +kernel) (by decide +kernel)
set_option maxRecDepth 20000 in
theorem gX6_look_X4_whereToLook : GoodIn wsX6_look (wsV RX6 203 RX4 yX4_whereToLook wsX4_whereToLook) := goodIn_app (goodIn_of _ (by decide +kernel)) ggX6_look_X4_whereToLook
theorem dX6_look_0 : decode cX6_look 0 = .ok (.aload_n 0, 1) := by decide +kernel
theorem dX6_look_1 : decode cX6_look 1 = .ok (.getfield 40, 3) := by decide +kernel
theorem dX6_look_4 : decode cX6_look 4 = .ok (.aload_n 0, 1) := by decide +kernel
theorem dX6_look_5 : decode cX6_look 5 = .ok (.getfield 10, 3) := by decide +kernel
theorem dX6_look_8 : decode cX6_look 8 = .ok (.invokevirtual 203, 3) := by decide +kernel
theorem dX6_look_11 : decode cX6_look 11 = .ok (.ireturn, 1) := by decide +kernel
set_option maxRecDepth 20000 in
theorem ggX6_keep_X2_become : GoodIn wsX6_keep wsX2_become := goodIn_r _ [9, 10, 11, 12, 13, 14, 15, 16, 17, 18, 19, 27, 28, 29, 30, 31, 32] (by decide +kernel) (by decide +kernel)
set_option maxRecDepth 20000 in
theorem gX6_keep_X2_become : GoodIn wsX6_keep (wsV RX6 80 RX2 yX2_become wsX2_become) := goodIn_app (goodIn_of _ (by decide +kernel)) ggX6_keep_X2_become
theorem dX6_keep_0 : decode cX6_keep 0 = .ok (.iload_n 1, 1) := by decide +kernel
theorem dX6_keep_1 : decode cX6_keep 1 = .ok (.ifCond .lt 8, 3) := by decide +kernel
theorem dX6_keep_4 : decode cX6_keep 4 = .ok (.iload_n 1, 1) := by decide +kernel
theorem dX6_keep_5 : decode cX6_keep 5 = .ok (.iconst 2, 1) := by decide +kernel
theorem dX6_keep_6 : decode cX6_keep 6 = .ok (.if_icmp .lt 5, 3) := by decide +kernel
theorem dX6_keep_9 : decode cX6_keep 9 = .ok (.iconst (-1), 1) := by decide +kernel
theorem dX6_keep_10 : decode cX6_keep 10 = .ok (.ireturn, 1) := by decide +kernel
theorem dX6_keep_11 : decode cX6_keep 11 = .ok (.aload_n 0, 1) := by decide +kernel
theorem dX6_keep_12 : decode cX6_keep 12 = .ok (.getfield 44, 3) := by decide +kernel
theorem dX6_keep_15 : decode cX6_keep 15 = .ok (.iload_n 1, 1) := by decide +kernel
theorem dX6_keep_16 : decode cX6_keep 16 = .ok (.aaload, 1) := by decide +kernel
theorem dX6_keep_17 : decode cX6_keep 17 = .ok (.aload_n 0, 1) := by decide +kernel
theorem dX6_keep_18 : decode cX6_keep 18 = .ok (.getfield 10, 3) := by decide +kernel
theorem dX6_keep_21 : decode cX6_keep 21 = .ok (.invokevirtual 80, 3) := by decide +kernel
theorem dX6_keep_24 : decode cX6_keep 24 = .ok (.aload_n 0, 1) := by decide +kernel
theorem dX6_keep_25 : decode cX6_keep 25 = .ok (.getfield 48, 3) := by decide +kernel
theorem dX6_keep_28 : decode cX6_keep 28 = .ok (.iload_n 1, 1) := by decide +kernel
theorem dX6_keep_29 : decode cX6_keep 29 = .ok (.iconst 1, 1) := by decide +kernel
theorem dX6_keep_30 : decode cX6_keep 30 = .ok (.bastore, 1) := by decide +kernel
theorem dX6_keep_31 : decode cX6_keep 31 = .ok (.aload_n 0, 1) := by decide +kernel
theorem dX6_keep_32 : decode cX6_keep 32 = .ok (.getfield 10, 3) := by decide +kernel
theorem dX6_keep_35 : decode cX6_keep 35 = .ok (.getfield 114, 3) := by decide +kernel
theorem dX6_keep_38 : decode cX6_keep 38 = .ok (.ireturn, 1) := by decide +kernel
set_option maxRecDepth 20000 in
theorem ggX6_back_X2_become : GoodIn wsX6_back wsX2_become := goodIn_r _ [10, 11, 12, 13, 14, 15, 16, 17, 18, 19, 20, 34, 35, 36, 37, 38, 39] (by decide +kernel) (by decide +kernel)
set_option maxRecDepth 20000 in
theorem gX6_back_X2_become : GoodIn wsX6_back (wsV RX6 80 RX2 yX2_become wsX2_become) := goodIn_app (goodIn_of _ (by decide +kernel)) ggX6_back_X2_become
set_option maxRecDepth 20000 in
theorem ggX6_back_X0_empty : GoodIn wsX6_back wsX0_empty := goodIn_r _ [25, 26, 40, 41, 42] (by decide +kernel) (by decide +kernel)
set_option maxRecDepth 20000 in
theorem gX6_back_X0_empty : GoodIn wsX6_back (wsV RX6 206 RX0 yX0_empty wsX0_empty) := goodIn_app (goodIn_of _ (by decide +kernel)) ggX6_back_X0_empty
theorem dX6_back_0 : decode cX6_back 0 = .ok (.iload_n 1, 1) := by decide +kernel
theorem dX6_back_1 : decode cX6_back 1 = .ok (.ifCond .lt 8, 3) := by decide +kernel
theorem dX6_back_4 : decode cX6_back 4 = .ok (.iload_n 1, 1) := by decide +kernel
theorem dX6_back_5 : decode cX6_back 5 = .ok (.iconst 2, 1) := by decide +kernel
theorem dX6_back_6 : decode cX6_back 6 = .ok (.if_icmp .lt 5, 3) := by decide +kernel
theorem dX6_back_9 : decode cX6_back 9 = .ok (.iconst (-1), 1) := by decide +kernel
theorem dX6_back_10 : decode cX6_back 10 = .ok (.ireturn, 1) := by decide +kernel
theorem dX6_back_11 : decode cX6_back 11 = .ok (.aload_n 0, 1) := by decide +kernel
theorem dX6_back_12 : decode cX6_back 12 = .ok (.getfield 48, 3) := by decide +kernel
theorem dX6_back_15 : decode cX6_back 15 = .ok (.iload_n 1, 1) := by decide +kernel
theorem dX6_back_16 : decode cX6_back 16 = .ok (.baload, 1) := by decide +kernel
theorem dX6_back_17 : decode cX6_back 17 = .ok (.ifCond .ne 6, 3) := by decide +kernel
theorem dX6_back_20 : decode cX6_back 20 = .ok (.bipush (-2), 2) := by decide +kernel
theorem dX6_back_22 : decode cX6_back 22 = .ok (.ireturn, 1) := by decide +kernel
theorem dX6_back_23 : decode cX6_back 23 = .ok (.aload_n 0, 1) := by decide +kernel
theorem dX6_back_24 : decode cX6_back 24 = .ok (.getfield 10, 3) := by decide +kernel
theorem dX6_back_27 : decode cX6_back 27 = .ok (.aload_n 0, 1) := by decide +kernel
theorem dX6_back_28 : decode cX6_back 28 = .ok (.getfield 44, 3) := by decide +kernel
theorem dX6_back_31 : decode cX6_back 31 = .ok (.iload_n 1, 1) := by decide +kernel
theorem dX6_back_32 : decode cX6_back 32 = .ok (.aaload, 1) := by decide +kernel
theorem dX6_back_33 : decode cX6_back 33 = .ok (.invokevirtual 80, 3) := by decide +kernel
theorem dX6_back_36 : decode cX6_back 36 = .ok (.aload_n 0, 1) := by decide +kernel
theorem dX6_back_37 : decode cX6_back 37 = .ok (.getfield 26, 3) := by decide +kernel
theorem dX6_back_40 : decode cX6_back 40 = .ok (.invokevirtual 206, 3) := by decide +kernel
theorem dX6_back_43 : decode cX6_back 43 = .ok (.aload_n 0, 1) := by decide +kernel
theorem dX6_back_44 : decode cX6_back 44 = .ok (.getfield 10, 3) := by decide +kernel
theorem dX6_back_47 : decode cX6_back 47 = .ok (.getfield 114, 3) := by decide +kernel
theorem dX6_back_50 : decode cX6_back 50 = .ok (.ireturn, 1) := by decide +kernel
set_option maxRecDepth 20000 in
theorem ggX6_count_X2_allHoles : GoodIn wsX6_count wsX2_allHoles := goodIn_r _ [17, 18, 19, 20, 21, 16, 22, 23, 24, 25, 26, 27, 28, 29, 30, 31, 32, 33, 34, 42, 43, 44, 45, 46, 47] (by decide +kernel) (by decide +kernel)
set_option maxRecDepth 20000 in
theorem gX6_count_X2_allHoles : GoodIn wsX6_count (wsV RX6 214 RX2 yX2_allHoles wsX2_allHoles) := goodIn_app (goodIn_of _ (by decide +kernel)) ggX6_count_X2_allHoles
theorem dX6_count_0 : decode cX6_count 0 = .ok (.iload_n 1, 1) := by decide +kernel
theorem dX6_count_1 : decode cX6_count 1 = .ok (.tableswitch 114 0 7 #[47, 55, 63, 71, 79, 87, 95, 106], 47) := by decide +kernel
theorem dX6_count_48 : decode cX6_count 48 = .ok (.aload_n 0, 1) := by decide +kernel
theorem dX6_count_49 : decode cX6_count 49 = .ok (.getfield 10, 3) := by decide +kernel
theorem dX6_count_52 : decode cX6_count 52 = .ok (.getfield 208, 3) := by decide +kernel
theorem dX6_count_55 : decode cX6_count 55 = .ok (.ireturn, 1) := by decide +kernel
theorem dX6_count_56 : decode cX6_count 56 = .ok (.aload_n 0, 1) := by decide +kernel
theorem dX6_count_57 : decode cX6_count 57 = .ok (.getfield 10, 3) := by decide +kernel
theorem dX6_count_60 : decode cX6_count 60 = .ok (.getfield 211, 3) := by decide +kernel
theorem dX6_count_63 : decode cX6_count 63 = .ok (.ireturn, 1) := by decide +kernel
theorem dX6_count_64 : decode cX6_count 64 = .ok (.aload_n 0, 1) := by decide +kernel
theorem dX6_count_65 : decode cX6_count 65 = .ok (.getfield 10, 3) := by decide +kernel
theorem dX6_count_68 : decode cX6_count 68 = .ok (.getfield 114, 3) := by decide +kernel
theorem dX6_count_71 : decode cX6_count 71 = .ok (.ireturn, 1) := by decide +kernel
theorem dX6_count_72 : decode cX6_count 72 = .ok (.aload_n 0, 1) := by decide +kernel
theorem dX6_count_73 : decode cX6_count 73 = .ok (.getfield 10, 3) := by decide +kernel
theorem dX6_count_76 : decode cX6_count 76 = .ok (.getfield 134, 3) := by decide +kernel
theorem dX6_count_79 : decode cX6_count 79 = .ok (.ireturn, 1) := by decide +kernel
theorem dX6_count_80 : decode cX6_count 80 = .ok (.aload_n 0, 1) := by decide +kernel
theorem dX6_count_81 : decode cX6_count 81 = .ok (.getfield 10, 3) := by decide +kernel
theorem dX6_count_84 : decode cX6_count 84 = .ok (.invokevirtual 214, 3) := by decide +kernel
theorem dX6_count_87 : decode cX6_count 87 = .ok (.ireturn, 1) := by decide +kernel
theorem dX6_count_88 : decode cX6_count 88 = .ok (.aload_n 0, 1) := by decide +kernel
theorem dX6_count_89 : decode cX6_count 89 = .ok (.getfield 40, 3) := by decide +kernel
theorem dX6_count_92 : decode cX6_count 92 = .ok (.getfield 191, 3) := by decide +kernel
theorem dX6_count_95 : decode cX6_count 95 = .ok (.ireturn, 1) := by decide +kernel
theorem dX6_count_96 : decode cX6_count 96 = .ok (.aload_n 0, 1) := by decide +kernel
theorem dX6_count_97 : decode cX6_count 97 = .ok (.getfield 19, 3) := by decide +kernel
theorem dX6_count_100 : decode cX6_count 100 = .ok (.getfield 52, 3) := by decide +kernel
theorem dX6_count_103 : decode cX6_count 103 = .ok (.getfield 62, 3) := by decide +kernel
theorem dX6_count_106 : decode cX6_count 106 = .ok (.ireturn, 1) := by decide +kernel
theorem dX6_count_107 : decode cX6_count 107 = .ok (.aload_n 0, 1) := by decide +kernel
theorem dX6_count_108 : decode cX6_count 108 = .ok (.getfield 26, 3) := by decide +kernel
theorem dX6_count_111 : decode cX6_count 111 = .ok (.getfield 141, 3) := by decide +kernel
theorem dX6_count_114 : decode cX6_count 114 = .ok (.ireturn, 1) := by decide +kernel
theorem dX6_count_115 : decode cX6_count 115 = .ok (.iconst (-1), 1) := by decide +kernel
theorem dX6_count_116 : decode cX6_count 116 = .ok (.ireturn, 1) := by decide +kernel
set_option maxRecDepth 20000 in
theorem ggX7_init_X7_plain : GoodIn wsX7_init wsX7_plain := goodIn_r _ [17] (by decide +kernel) (by decide +kernel)
set_option maxRecDepth 20000 in
theorem gX7_init_X7_plain : GoodIn wsX7_init (va_wsS RX7 33 yX7_plain wsX7_plain) := goodIn_app (goodIn_of _ (by decide +kernel)) ggX7_init_X7_plain
theorem dX7_init_0 : decode cX7_init 0 = .ok (.aload_n 0, 1) := by decide +kernel
theorem dX7_init_1 : decode cX7_init 1 = .ok (.invokespecial 1, 3) := by decide +kernel
theorem dX7_init_4 : decode cX7_init 4 = .ok (.aload_n 0, 1) := by decide +kernel
theorem dX7_init_5 : decode cX7_init 5 = .ok (.bipush 24, 2) := by decide +kernel
theorem dX7_init_7 : decode cX7_init 7 = .ok (.newarray .int, 2) := by decide +kernel
theorem dX7_init_9 : decode cX7_init 9 = .ok (.putfield 7, 3) := by decide +kernel
theorem dX7_init_12 : decode cX7_init 12 = .ok (.aload_n 0, 1) := by decide +kernel
theorem dX7_init_13 : decode cX7_init 13 = .ok (.bipush 24, 2) := by decide +kernel
theorem dX7_init_15 : decode cX7_init 15 = .ok (.newarray .int, 2) := by decide +kernel
theorem dX7_init_17 : decode cX7_init 17 = .ok (.putfield 13, 3) := by decide +kernel
theorem dX7_init_20 : decode cX7_init 20 = .ok (.aload_n 0, 1) := by decide +kernel
theorem dX7_init_21 : decode cX7_init 21 = .ok (.sipush 144, 3) := by decide +kernel
theorem dX7_init_24 : decode cX7_init 24 = .ok (.newarray .int, 2) := by decide +kernel
theorem dX7_init_26 : decode cX7_init 26 = .ok (.putfield 16, 3) := by decide +kernel
theorem dX7_init_29 : decode cX7_init 29 = .ok (.aload_n 0, 1) := by decide +kernel
theorem dX7_init_30 : decode cX7_init 30 = .ok (.bipush 48, 2) := by decide +kernel
theorem dX7_init_32 : decode cX7_init 32 = .ok (.newarray .int, 2) := by decide +kernel
theorem dX7_init_34 : decode cX7_init 34 = .ok (.putfield 19, 3) := by decide +kernel
theorem dX7_init_37 : decode cX7_init 37 = .ok (.aload_n 0, 1) := by decide +kernel
theorem dX7_init_38 : decode cX7_init 38 = .ok (.iconst 2, 1) := by decide +kernel
theorem dX7_init_39 : decode cX7_init 39 = .ok (.newarray .boolean, 2) := by decide +kernel
theorem dX7_init_41 : decode cX7_init 41 = .ok (.putfield 22, 3) := by decide +kernel
theorem dX7_init_44 : decode cX7_init 44 = .ok (.aload_n 0, 1) := by decide +kernel
theorem dX7_init_45 : decode cX7_init 45 = .ok (.bipush 24, 2) := by decide +kernel
theorem dX7_init_47 : decode cX7_init 47 = .ok (.newarray .int, 2) := by decide +kernel
theorem dX7_init_49 : decode cX7_init 49 = .ok (.putfield 26, 3) := by decide +kernel
theorem dX7_init_52 : decode cX7_init 52 = .ok (.aload_n 0, 1) := by decide +kernel
theorem dX7_init_53 : decode cX7_init 53 = .ok (.bipush 120, 2) := by decide +kernel
theorem dX7_init_55 : decode cX7_init 55 = .ok (.newarray .byte, 2) := by decide +kernel
theorem dX7_init_57 : decode cX7_init 57 = .ok (.putfield 29, 3) := by decide +kernel
theorem dX7_init_60 : decode cX7_init 60 = .ok (.aload_n 0, 1) := by decide +kernel
theorem dX7_init_61 : decode cX7_init 61 = .ok (.getfield 7, 3) := by decide +kernel
theorem dX7_init_64 : decode cX7_init 64 = .ok (.invokestatic 33, 3) := by decide +kernel
theorem dX7_init_67 : decode cX7_init 67 = .ok (.aload_n 0, 1) := by decide +kernel
theorem dX7_init_68 : decode cX7_init 68 = .ok (.getfield 7, 3) := by decide +kernel
theorem dX7_init_71 : decode cX7_init 71 = .ok (.iconst 2, 1) := by decide +kernel
theorem dX7_init_72 : decode cX7_init 72 = .ok (.iconst 1, 1) := by decide +kernel
theorem dX7_init_73 : decode cX7_init 73 = .ok (.iastore, 1) := by decide +kernel
theorem dX7_init_74 : decode cX7_init 74 = .ok (.return_, 1) := by decide +kernel
theorem dX7_plain_0 : decode cX7_plain 0 = .ok (.iconst 0, 1) := by decide +kernel
theorem dX7_plain_1 : decode cX7_plain 1 = .ok (.istore_n 1, 1) := by decide +kernel
theorem dX7_plain_2 : decode cX7_plain 2 = .ok (.iload_n 1, 1) := by decide +kernel
theorem dX7_plain_3 : decode cX7_plain 3 = .ok (.bipush 24, 2) := by decide +kernel
theorem dX7_plain_5 : decode cX7_plain 5 = .ok (.if_icmp .ge 13, 3) := by decide +kernel
theorem dX7_plain_8 : decode cX7_plain 8 = .ok (.aload_n 0, 1) := by decide +kernel
theorem dX7_plain_9 : decode cX7_plain 9 = .ok (.iload_n 1, 1) := by decide +kernel
theorem dX7_plain_10 : decode cX7_plain 10 = .ok (.iconst 0, 1) := by decide +kernel
theorem dX7_plain_11 : decode cX7_plain 11 = .ok (.iastore, 1) := by decide +kernel
theorem dX7_plain_12 : decode cX7_plain 12 = .ok (.iinc 1 1, 3) := by decide +kernel
theorem dX7_plain_15 : decode cX7_plain 15 = .ok (.goto (-13), 3) := by decide +kernel
theorem dX7_plain_18 : decode cX7_plain 18 = .ok (.aload_n 0, 1) := by decide +kernel
theorem dX7_plain_19 : decode cX7_plain 19 = .ok (.iconst 0, 1) := by decide +kernel
theorem dX7_plain_20 : decode cX7_plain 20 = .ok (.iconst 2, 1) := by decide +kernel
theorem dX7_plain_21 : decode cX7_plain 21 = .ok (.iastore, 1) := by decide +kernel
theorem dX7_plain_22 : decode cX7_plain 22 = .ok (.aload_n 0, 1) := by decide +kernel
theorem dX7_plain_23 : decode cX7_plain 23 = .ok (.iconst 1, 1) := by decide +kernel
theorem dX7_plain_24 : decode cX7_plain 24 = .ok (.iconst 2, 1) := by decide +kernel
theorem dX7_plain_25 : decode cX7_plain 25 = .ok (.iastore, 1) := by decide +kernel
theorem dX7_plain_26 : decode cX7_plain 26 = .ok (.aload_n 0, 1) := by decide +kernel
theorem dX7_plain_27 : decode cX7_plain 27 = .ok (.iconst 3, 1) := by decide +kernel
theorem dX7_plain_28 : decode cX7_plain 28 = .ok (.bipush 12, 2) := by decide +kernel
theorem dX7_plain_30 : decode cX7_plain 30 = .ok (.iastore, 1) := by decide +kernel
theorem dX7_plain_31 : decode cX7_plain 31 = .ok (.aload_n 0, 1) := by decide +kernel
theorem dX7_plain_32 : decode cX7_plain 32 = .ok (.iconst 5, 1) := by decide +kernel
theorem dX7_plain_33 : decode cX7_plain 33 = .ok (.iconst 1, 1) := by decide +kernel
theorem dX7_plain_34 : decode cX7_plain 34 = .ok (.iastore, 1) := by decide +kernel
theorem dX7_plain_35 : decode cX7_plain 35 = .ok (.return_, 1) := by decide +kernel
theorem dX7_in_0 : decode cX7_in 0 = .ok (.iload_n 0, 1) := by decide +kernel
theorem dX7_in_1 : decode cX7_in 1 = .ok (.iload_n 1, 1) := by decide +kernel
theorem dX7_in_2 : decode cX7_in 2 = .ok (.if_icmp .lt 12, 3) := by decide +kernel
theorem dX7_in_5 : decode cX7_in 5 = .ok (.iload_n 0, 1) := by decide +kernel
theorem dX7_in_6 : decode cX7_in 6 = .ok (.iload_n 2, 1) := by decide +kernel
theorem dX7_in_7 : decode cX7_in 7 = .ok (.if_icmp .gt 7, 3) := by decide +kernel
theorem dX7_in_10 : decode cX7_in 10 = .ok (.iconst 1, 1) := by decide +kernel
theorem dX7_in_11 : decode cX7_in 11 = .ok (.goto 4, 3) := by decide +kernel
theorem dX7_in_14 : decode cX7_in 14 = .ok (.iconst 0, 1) := by decide +kernel
theorem dX7_in_15 : decode cX7_in 15 = .ok (.ireturn, 1) := by decide +kernel
set_option maxRecDepth 20000 in
theorem ggX7_type_X7_in : GoodIn wsX7_type wsX7_in := goodIn_r _ [7] (by decide +kernel) (by decide +kernel)
set_option maxRecDepth 20000 in
theorem gX7_type_X7_in : GoodIn wsX7_type (va_wsS RX7 41 yX7_in wsX7_in) := goodIn_app (goodIn_of _ (by decide +kernel)) ggX7_type_X7_in
theorem dX7_type_0 : decode cX7_type 0 = .ok (.aload_n 0, 1) := by decide +kernel
theorem dX7_type_1 : decode cX7_type 1 = .ok (.iconst 0, 1) := by decide +kernel
theorem dX7_type_2 : decode cX7_type 2 = .ok (.putfield 37, 3) := by decide +kernel
theorem dX7_type_5 : decode cX7_type 5 = .ok (.iload_n 1, 1) := by decide +kernel
theorem dX7_type_6 : decode cX7_type 6 = .ok (.iconst 0, 1) := by decide +kernel
theorem dX7_type_7 : decode cX7_type 7 = .ok (.sipush 255, 3) := by decide +kernel
theorem dX7_type_10 : decode cX7_type 10 = .ok (.invokestatic 41, 3) := by decide +kernel
theorem dX7_type_13 : decode cX7_type 13 = .ok (.ifCond .ne 5, 3) := by decide +kernel
theorem dX7_type_16 : decode cX7_type 16 = .ok (.iconst (-1), 1) := by decide +kernel
theorem dX7_type_17 : decode cX7_type 17 = .ok (.ireturn, 1) := by decide +kernel
theorem dX7_type_18 : decode cX7_type 18 = .ok (.aload_n 0, 1) := by decide +kernel
theorem dX7_type_19 : decode cX7_type 19 = .ok (.getfield 45, 3) := by decide +kernel
theorem dX7_type_22 : decode cX7_type 22 = .ok (.bipush 120, 2) := by decide +kernel
theorem dX7_type_24 : decode cX7_type 24 = .ok (.if_icmp .ne 6, 3) := by decide +kernel
theorem dX7_type_27 : decode cX7_type 27 = .ok (.bipush (-3), 2) := by decide +kernel
theorem dX7_type_29 : decode cX7_type 29 = .ok (.ireturn, 1) := by decide +kernel
theorem dX7_type_30 : decode cX7_type 30 = .ok (.aload_n 0, 1) := by decide +kernel
theorem dX7_type_31 : decode cX7_type 31 = .ok (.getfield 29, 3) := by decide +kernel
theorem dX7_type_34 : decode cX7_type 34 = .ok (.aload_n 0, 1) := by decide +kernel
theorem dX7_type_35 : decode cX7_type 35 = .ok (.getfield 45, 3) := by decide +kernel
theorem dX7_type_38 : decode cX7_type 38 = .ok (.iload_n 1, 1) := by decide +kernel
theorem dX7_type_39 : decode cX7_type 39 = .ok (.i2b, 1) := by decide +kernel
theorem dX7_type_40 : decode cX7_type 40 = .ok (.bastore, 1) := by decide +kernel
theorem dX7_type_41 : decode cX7_type 41 = .ok (.aload_n 0, 1) := by decide +kernel
theorem dX7_type_42 : decode cX7_type 42 = .ok (.dup, 1) := by decide +kernel
theorem dX7_type_43 : decode cX7_type 43 = .ok (.getfield 45, 3) := by decide +kernel
theorem dX7_type_46 : decode cX7_type 46 = .ok (.iconst 1, 1) := by decide +kernel
theorem dX7_type_47 : decode cX7_type 47 = .ok (.iadd, 1) := by decide +kernel
theorem dX7_type_48 : decode cX7_type 48 = .ok (.putfield 45, 3) := by decide +kernel
theorem dX7_type_51 : decode cX7_type 51 = .ok (.aload_n 0, 1) := by decide +kernel
theorem dX7_type_52 : decode cX7_type 52 = .ok (.getfield 45, 3) := by decide +kernel
theorem dX7_type_55 : decode cX7_type 55 = .ok (.ireturn, 1) := by decide +kernel
theorem dX7_clear_0 : decode cX7_clear 0 = .ok (.aload_n 0, 1) := by decide +kernel
theorem dX7_clear_1 : decode cX7_clear 1 = .ok (.iconst 0, 1) := by decide +kernel
theorem dX7_clear_2 : decode cX7_clear 2 = .ok (.putfield 37, 3) := by decide +kernel
theorem dX7_clear_5 : decode cX7_clear 5 = .ok (.aload_n 0, 1) := by decide +kernel
theorem dX7_clear_6 : decode cX7_clear 6 = .ok (.getfield 45, 3) := by decide +kernel
theorem dX7_clear_9 : decode cX7_clear 9 = .ok (.istore_n 1, 1) := by decide +kernel
theorem dX7_clear_10 : decode cX7_clear 10 = .ok (.aload_n 0, 1) := by decide +kernel
theorem dX7_clear_11 : decode cX7_clear 11 = .ok (.iconst 0, 1) := by decide +kernel
theorem dX7_clear_12 : decode cX7_clear 12 = .ok (.putfield 45, 3) := by decide +kernel
theorem dX7_clear_15 : decode cX7_clear 15 = .ok (.iload_n 1, 1) := by decide +kernel
theorem dX7_clear_16 : decode cX7_clear 16 = .ok (.ireturn, 1) := by decide +kernel
theorem dX7_at_0 : decode cX7_at 0 = .ok (.iload_n 1, 1) := by decide +kernel
theorem dX7_at_1 : decode cX7_at 1 = .ok (.aload_n 0, 1) := by decide +kernel
theorem dX7_at_2 : decode cX7_at 2 = .ok (.getfield 45, 3) := by decide +kernel
theorem dX7_at_5 : decode cX7_at 5 = .ok (.if_icmp .ge 16, 3) := by decide +kernel
theorem dX7_at_8 : decode cX7_at 8 = .ok (.aload_n 0, 1) := by decide +kernel
theorem dX7_at_9 : decode cX7_at 9 = .ok (.getfield 29, 3) := by decide +kernel
theorem dX7_at_12 : decode cX7_at 12 = .ok (.iload_n 1, 1) := by decide +kernel
theorem dX7_at_13 : decode cX7_at 13 = .ok (.baload, 1) := by decide +kernel
theorem dX7_at_14 : decode cX7_at 14 = .ok (.sipush 255, 3) := by decide +kernel
theorem dX7_at_17 : decode cX7_at 17 = .ok (.iand, 1) := by decide +kernel
theorem dX7_at_18 : decode cX7_at 18 = .ok (.goto 4, 3) := by decide +kernel
theorem dX7_at_21 : decode cX7_at 21 = .ok (.iconst (-1), 1) := by decide +kernel
theorem dX7_at_22 : decode cX7_at 22 = .ok (.ireturn, 1) := by decide +kernel
set_option maxRecDepth 20000 in
theorem ggX7_isWord_X7_at : GoodIn wsX7_isWord wsX7_at := goodIn_r _ [7, 8, 9, 10, 11, 12, 13, 14, 15, 16, 17, 18, 19, 20, 21, 22, 23, 24, 25, 26, 27, 28] (by decide +kernel) (by decide +kernel)
set_option maxRecDepth 20000 in
theorem gX7_isWord_X7_at : GoodIn wsX7_isWord (wsV RX7 54 RX7 yX7_at wsX7_at) := goodIn_app (goodIn_of _ (by decide +kernel)) ggX7_isWord_X7_at
theorem dX7_isWord_0 : decode cX7_isWord 0 = .ok (.iload 5, 2) := by decide +kernel
theorem dX7_isWord_2 : decode cX7_isWord 2 = .ok (.ifCond .ne 7, 3) := by decide +kernel
theorem dX7_isWord_5 : decode cX7_isWord 5 = .ok (.iconst 4, 1) := by decide +kernel
theorem dX7_isWord_6 : decode cX7_isWord 6 = .ok (.goto 4, 3) := by decide +kernel
theorem dX7_isWord_9 : decode cX7_isWord 9 = .ok (.iconst 5, 1) := by decide +kernel
theorem dX7_isWord_10 : decode cX7_isWord 10 = .ok (.istore 6, 2) := by decide +kernel
theorem dX7_isWord_12 : decode cX7_isWord 12 = .ok (.aload_n 0, 1) := by decide +kernel
theorem dX7_isWord_13 : decode cX7_isWord 13 = .ok (.getfield 48, 3) := by decide +kernel
theorem dX7_isWord_16 : decode cX7_isWord 16 = .ok (.aload_n 0, 1) := by decide +kernel
theorem dX7_isWord_17 : decode cX7_isWord 17 = .ok (.getfield 51, 3) := by decide +kernel
theorem dX7_isWord_20 : decode cX7_isWord 20 = .ok (.isub, 1) := by decide +kernel
theorem dX7_isWord_21 : decode cX7_isWord 21 = .ok (.iload 6, 2) := by decide +kernel
theorem dX7_isWord_23 : decode cX7_isWord 23 = .ok (.if_icmp .ne 82, 3) := by decide +kernel
theorem dX7_isWord_26 : decode cX7_isWord 26 = .ok (.aload_n 0, 1) := by decide +kernel
theorem dX7_isWord_27 : decode cX7_isWord 27 = .ok (.aload_n 0, 1) := by decide +kernel
theorem dX7_isWord_28 : decode cX7_isWord 28 = .ok (.getfield 51, 3) := by decide +kernel
theorem dX7_isWord_31 : decode cX7_isWord 31 = .ok (.invokevirtual 54, 3) := by decide +kernel
theorem dX7_isWord_34 : decode cX7_isWord 34 = .ok (.iload_n 1, 1) := by decide +kernel
