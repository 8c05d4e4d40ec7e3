theorem dX5_kindOfWord_0 : decode cX5_kindOfWord 0 = .ok (.aload_n 0, 1) := by decide +kernel
theorem dX5_kindOfWord_1 : decode cX5_kindOfWord 1 = .ok (.getfield 12, 3) := by decide +kernel
theorem dX5_kindOfWord_4 : decode cX5_kindOfWord 4 = .ok (.aload_n 0, 1) := by decide +kernel
theorem dX5_kindOfWord_5 : decode cX5_kindOfWord 5 = .ok (.getfield 39, 3) := by decide +kernel
theorem dX5_kindOfWord_8 : decode cX5_kindOfWord 8 = .ok (.aload_n 0, 1) := by decide +kernel
theorem dX5_kindOfWord_9 : decode cX5_kindOfWord 9 = .ok (.getfield 43, 3) := by decide +kernel
theorem dX5_kindOfWord_12 : decode cX5_kindOfWord 12 = .ok (.ldc 139, 2) := by decide +kernel
theorem dX5_kindOfWord_14 : decode cX5_kindOfWord 14 = .ok (.invokevirtual 140, 3) := by decide +kernel
theorem dX5_kindOfWord_17 : decode cX5_kindOfWord 17 = .ok (.ifCond .eq 7, 3) := by decide +kernel
theorem dX5_kindOfWord_20 : decode cX5_kindOfWord 20 = .ok (.iconst 4, 1) := by decide +kernel
theorem dX5_kindOfWord_21 : decode cX5_kindOfWord 21 = .ok (.goto 103, 3) := by decide +kernel
theorem dX5_kindOfWord_24 : decode cX5_kindOfWord 24 = .ok (.aload_n 0, 1) := by decide +kernel
theorem dX5_kindOfWord_25 : decode cX5_kindOfWord 25 = .ok (.getfield 12, 3) := by decide +kernel
theorem dX5_kindOfWord_28 : decode cX5_kindOfWord 28 = .ok (.aload_n 0, 1) := by decide +kernel
theorem dX5_kindOfWord_29 : decode cX5_kindOfWord 29 = .ok (.getfield 39, 3) := by decide +kernel
theorem dX5_kindOfWord_32 : decode cX5_kindOfWord 32 = .ok (.aload_n 0, 1) := by decide +kernel
theorem dX5_kindOfWord_33 : decode cX5_kindOfWord 33 = .ok (.getfield 43, 3) := by decide +kernel
theorem dX5_kindOfWord_36 : decode cX5_kindOfWord 36 = .ok (.ldc 144, 2) := by decide +kernel
theorem dX5_kindOfWord_38 : decode cX5_kindOfWord 38 = .ok (.invokevirtual 140, 3) := by decide +kernel
theorem dX5_kindOfWord_41 : decode cX5_kindOfWord 41 = .ok (.ifCond .eq 7, 3) := by decide +kernel
theorem dX5_kindOfWord_44 : decode cX5_kindOfWord 44 = .ok (.iconst 5, 1) := by decide +kernel
theorem dX5_kindOfWord_45 : decode cX5_kindOfWord 45 = .ok (.goto 79, 3) := by decide +kernel
theorem dX5_kindOfWord_48 : decode cX5_kindOfWord 48 = .ok (.aload_n 0, 1) := by decide +kernel
theorem dX5_kindOfWord_49 : decode cX5_kindOfWord 49 = .ok (.getfield 12, 3) := by decide +kernel
theorem dX5_kindOfWord_52 : decode cX5_kindOfWord 52 = .ok (.aload_n 0, 1) := by decide +kernel
theorem dX5_kindOfWord_53 : decode cX5_kindOfWord 53 = .ok (.getfield 39, 3) := by decide +kernel
theorem dX5_kindOfWord_56 : decode cX5_kindOfWord 56 = .ok (.aload_n 0, 1) := by decide +kernel
theorem dX5_kindOfWord_57 : decode cX5_kindOfWord 57 = .ok (.getfield 43, 3) := by decide +kernel
theorem dX5_kindOfWord_60 : decode cX5_kindOfWord 60 = .ok (.ldc 146, 2) := by decide +kernel
theorem dX5_kindOfWord_62 : decode cX5_kindOfWord 62 = .ok (.invokevirtual 140, 3) := by decide +kernel
theorem dX5_kindOfWord_65 : decode cX5_kindOfWord 65 = .ok (.ifCond .eq 8, 3) := by decide +kernel
theorem dX5_kindOfWord_68 : decode cX5_kindOfWord 68 = .ok (.bipush 6, 2) := by decide +kernel
theorem dX5_kindOfWord_70 : decode cX5_kindOfWord 70 = .ok (.goto 54, 3) := by decide +kernel
theorem dX5_kindOfWord_73 : decode cX5_kindOfWord 73 = .ok (.aload_n 0, 1) := by decide +kernel
theorem dX5_kindOfWord_74 : decode cX5_kindOfWord 74 = .ok (.getfield 12, 3) := by decide +kernel
theorem dX5_kindOfWord_77 : decode cX5_kindOfWord 77 = .ok (.aload_n 0, 1) := by decide +kernel
theorem dX5_kindOfWord_78 : decode cX5_kindOfWord 78 = .ok (.getfield 39, 3) := by decide +kernel
theorem dX5_kindOfWord_81 : decode cX5_kindOfWord 81 = .ok (.aload_n 0, 1) := by decide +kernel
theorem dX5_kindOfWord_82 : decode cX5_kindOfWord 82 = .ok (.getfield 43, 3) := by decide +kernel
theorem dX5_kindOfWord_85 : decode cX5_kindOfWord 85 = .ok (.ldc 148, 2) := by decide +kernel
theorem dX5_kindOfWord_87 : decode cX5_kindOfWord 87 = .ok (.invokevirtual 140, 3) := by decide +kernel
theorem dX5_kindOfWord_90 : decode cX5_kindOfWord 90 = .ok (.ifCond .eq 8, 3) := by decide +kernel
theorem dX5_kindOfWord_93 : decode cX5_kindOfWord 93 = .ok (.bipush 7, 2) := by decide +kernel
theorem dX5_kindOfWord_95 : decode cX5_kindOfWord 95 = .ok (.goto 29, 3) := by decide +kernel
theorem dX5_kindOfWord_98 : decode cX5_kindOfWord 98 = .ok (.aload_n 0, 1) := by decide +kernel
theorem dX5_kindOfWord_99 : decode cX5_kindOfWord 99 = .ok (.getfield 12, 3) := by decide +kernel
theorem dX5_kindOfWord_102 : decode cX5_kindOfWord 102 = .ok (.aload_n 0, 1) := by decide +kernel
theorem dX5_kindOfWord_103 : decode cX5_kindOfWord 103 = .ok (.getfield 39, 3) := by decide +kernel
theorem dX5_kindOfWord_106 : decode cX5_kindOfWord 106 = .ok (.aload_n 0, 1) := by decide +kernel
theorem dX5_kindOfWord_107 : decode cX5_kindOfWord 107 = .ok (.getfield 43, 3) := by decide +kernel
theorem dX5_kindOfWord_110 : decode cX5_kindOfWord 110 = .ok (.ldc 150, 2) := by decide +kernel
theorem dX5_kindOfWord_112 : decode cX5_kindOfWord 112 = .ok (.invokevirtual 140, 3) := by decide +kernel
theorem dX5_kindOfWord_115 : decode cX5_kindOfWord 115 = .ok (.ifCond .eq 8, 3) := by decide +kernel
theorem dX5_kindOfWord_118 : decode cX5_kindOfWord 118 = .ok (.bipush 8, 2) := by decide +kernel
theorem dX5_kindOfWord_120 : decode cX5_kindOfWord 120 = .ok (.goto 4, 3) := by decide +kernel
theorem dX5_kindOfWord_123 : decode cX5_kindOfWord 123 = .ok (.iconst 3, 1) := by decide +kernel
theorem dX5_kindOfWord_124 : decode cX5_kindOfWord 124 = .ok (.ireturn, 1) := by decide +kernel
set_option maxRecDepth 20000 in
theorem ggX5_placeBehindBlanks_X1_at : GoodIn wsX5_placeBehindBlanks wsX1_at := goodIn_r _ [7, 8, 9, 18, 19] (by decide +kernel) (by decide +kernel)
set_option maxRecDepth 20000 in
theorem gX5_placeBehindBlanks_X1_at : GoodIn wsX5_placeBehindBlanks (wsV RX5 118 RX1 yX1_at wsX1_at) := goodIn_app (goodIn_of _ (by decide +kernel)) ggX5_placeBehindBlanks_X1_at
theorem dX5_placeBehindBlanks_0 : decode cX5_placeBehindBlanks 0 = .ok (.iload_n 1, 1) := by decide +kernel
theorem dX5_placeBehindBlanks_1 : decode cX5_placeBehindBlanks 1 = .ok (.istore_n 2, 1) := by decide +kernel
theorem dX5_placeBehindBlanks_2 : decode cX5_placeBehindBlanks 2 = .ok (.iload_n 2, 1) := by decide +kernel
theorem dX5_placeBehindBlanks_3 : decode cX5_placeBehindBlanks 3 = .ok (.aload_n 0, 1) := by decide +kernel
theorem dX5_placeBehindBlanks_4 : decode cX5_placeBehindBlanks 4 = .ok (.getfield 12, 3) := by decide +kernel
theorem dX5_placeBehindBlanks_7 : decode cX5_placeBehindBlanks 7 = .ok (.getfield 136, 3) := by decide +kernel
theorem dX5_placeBehindBlanks_10 : decode cX5_placeBehindBlanks 10 = .ok (.if_icmp .ge 22, 3) := by decide +kernel
theorem dX5_placeBehindBlanks_13 : decode cX5_placeBehindBlanks 13 = .ok (.aload_n 0, 1) := by decide +kernel
theorem dX5_placeBehindBlanks_14 : decode cX5_placeBehindBlanks 14 = .ok (.getfield 12, 3) := by decide +kernel
theorem dX5_placeBehindBlanks_17 : decode cX5_placeBehindBlanks 17 = .ok (.iload_n 2, 1) := by decide +kernel
theorem dX5_placeBehindBlanks_18 : decode cX5_placeBehindBlanks 18 = .ok (.invokevirtual 118, 3) := by decide +kernel
theorem dX5_placeBehindBlanks_21 : decode cX5_placeBehindBlanks 21 = .ok (.bipush 32, 2) := by decide +kernel
theorem dX5_placeBehindBlanks_23 : decode cX5_placeBehindBlanks 23 = .ok (.if_icmp .ne 9, 3) := by decide +kernel
theorem dX5_placeBehindBlanks_26 : decode cX5_placeBehindBlanks 26 = .ok (.iinc 2 1, 3) := by decide +kernel
theorem dX5_placeBehindBlanks_29 : decode cX5_placeBehindBlanks 29 = .ok (.goto (-27), 3) := by decide +kernel
theorem dX5_placeBehindBlanks_32 : decode cX5_placeBehindBlanks 32 = .ok (.iload_n 2, 1) := by decide +kernel
theorem dX5_placeBehindBlanks_33 : decode cX5_placeBehindBlanks 33 = .ok (.ireturn, 1) := by decide +kernel
set_option maxRecDepth 20000 in
theorem ggX5_placeBehindFigures_X1_at : GoodIn wsX5_placeBehindFigures wsX1_at := goodIn_r _ [7, 8, 9, 22, 23] (by decide +kernel) (by decide +kernel)
set_option maxRecDepth 20000 in
theorem gX5_placeBehindFigures_X1_at : GoodIn wsX5_placeBehindFigures (wsV RX5 118 RX1 yX1_at wsX1_at) := goodIn_app (goodIn_of _ (by decide +kernel)) ggX5_placeBehindFigures_X1_at
set_option maxRecDepth 20000 in
theorem ggX5_placeBehindFigures_X5_isFigure : GoodIn wsX5_placeBehindFigures wsX5_isFigure := goodIn_r _ [13] (by decide +kernel) (by decide +kernel)
set_option maxRecDepth 20000 in
theorem gX5_placeBehindFigures_X5_isFigure : GoodIn wsX5_placeBehindFigures (va_wsS RX5 121 yX5_isFigure wsX5_isFigure) := goodIn_app (goodIn_of _ (by decide +kernel)) ggX5_placeBehindFigures_X5_isFigure
theorem dX5_placeBehindFigures_0 : decode cX5_placeBehindFigures 0 = .ok (.iload_n 1, 1) := by decide +kernel
theorem dX5_placeBehindFigures_1 : decode cX5_placeBehindFigures 1 = .ok (.istore_n 2, 1) := by decide +kernel
theorem dX5_placeBehindFigures_2 : decode cX5_placeBehindFigures 2 = .ok (.iload_n 2, 1) := by decide +kernel
theorem dX5_placeBehindFigures_3 : decode cX5_placeBehindFigures 3 = .ok (.aload_n 0, 1) := by decide +kernel
theorem dX5_placeBehindFigures_4 : decode cX5_placeBehindFigures 4 = .ok (.getfield 12, 3) := by decide +kernel
theorem dX5_placeBehindFigures_7 : decode cX5_placeBehindFigures 7 = .ok (.getfield 136, 3) := by decide +kernel
theorem dX5_placeBehindFigures_10 : decode cX5_placeBehindFigures 10 = .ok (.if_icmp .ge 23, 3) := by decide +kernel
theorem dX5_placeBehindFigures_13 : decode cX5_placeBehindFigures 13 = .ok (.aload_n 0, 1) := by decide +kernel
theorem dX5_placeBehindFigures_14 : decode cX5_placeBehindFigures 14 = .ok (.getfield 12, 3) := by decide +kernel
theorem dX5_placeBehindFigures_17 : decode cX5_placeBehindFigures 17 = .ok (.iload_n 2, 1) := by decide +kernel
theorem dX5_placeBehindFigures_18 : decode cX5_placeBehindFigures 18 = .ok (.invokevirtual 118, 3) := by decide +kernel
theorem dX5_placeBehindFigures_21 : decode cX5_placeBehindFigures 21 = .ok (.invokestatic 121, 3) := by decide +kernel
theorem dX5_placeBehindFigures_24 : decode cX5_placeBehindFigures 24 = .ok (.ifCond .eq 9, 3) := by decide +kernel
theorem dX5_placeBehindFigures_27 : decode cX5_placeBehindFigures 27 = .ok (.iinc 2 1, 3) := by decide +kernel
theorem dX5_placeBehindFigures_30 : decode cX5_placeBehindFigures 30 = .ok (.goto (-28), 3) := by decide +kernel
theorem dX5_placeBehindFigures_33 : decode cX5_placeBehindFigures 33 = .ok (.iload_n 2, 1) := by decide +kernel
theorem dX5_placeBehindFigures_34 : decode cX5_placeBehindFigures 34 = .ok (.ireturn, 1) := by decide +kernel
set_option maxRecDepth 20000 in
theorem ggX5_placeBehindWord_X1_at : GoodIn wsX5_placeBehindWord wsX1_at := goodIn_r _ [7, 8, 9, 22, 23] (by decide +kernel) (by decide +kernel)
set_option maxRecDepth 20000 in
theorem gX5_placeBehindWord_X1_at : GoodIn wsX5_placeBehindWord (wsV RX5 118 RX1 yX1_at wsX1_at) := goodIn_app (goodIn_of _ (by decide +kernel)) ggX5_placeBehindWord_X1_at
set_option maxRecDepth 20000 in
theorem ggX5_placeBehindWord_X5_isWordLetter : GoodIn wsX5_placeBehindWord wsX5_isWordLetter := goodIn_r _ [13] (by decide +kernel) (by decide +kernel)
set_option maxRecDepth 20000 in
theorem gX5_placeBehindWord_X5_isWordLetter : GoodIn wsX5_placeBehindWord (va_wsS RX5 127 yX5_isWordLetter wsX5_isWordLetter) := goodIn_app (goodIn_of _ (by decide +kernel)) ggX5_placeBehindWord_X5_isWordLetter
theorem dX5_placeBehindWord_0 : decode cX5_placeBehindWord 0 = .ok (.iload_n 1, 1) := by decide +kernel
theorem dX5_placeBehindWord_1 : decode cX5_placeBehindWord 1 = .ok (.istore_n 2, 1) := by decide +kernel
theorem dX5_placeBehindWord_2 : decode cX5_placeBehindWord 2 = .ok (.iload_n 2, 1) := by decide +kernel
theorem dX5_placeBehindWord_3 : decode cX5_placeBehindWord 3 = .ok (.aload_n 0, 1) := by decide +kernel
theorem dX5_placeBehindWord_4 : decode cX5_placeBehindWord 4 = .ok (.getfield 12, 3) := by decide +kernel
theorem dX5_placeBehindWord_7 : decode cX5_placeBehindWord 7 = .ok (.getfield 136, 3) := by decide +kernel
theorem dX5_placeBehindWord_10 : decode cX5_placeBehindWord 10 = .ok (.if_icmp .ge 23, 3) := by decide +kernel
theorem dX5_placeBehindWord_13 : decode cX5_placeBehindWord 13 = .ok (.aload_n 0, 1) := by decide +kernel
theorem dX5_placeBehindWord_14 : decode cX5_placeBehindWord 14 = .ok (.getfield 12, 3) := by decide +kernel
theorem dX5_placeBehindWord_17 : decode cX5_placeBehindWord 17 = .ok (.iload_n 2, 1) := by decide +kernel
theorem dX5_placeBehindWord_18 : decode cX5_placeBehindWord 18 = .ok (.invokevirtual 118, 3) := by decide +kernel
theorem dX5_placeBehindWord_21 : decode cX5_placeBehindWord 21 = .ok (.invokestatic 127, 3) := by decide +kernel
theorem dX5_placeBehindWord_24 : decode cX5_placeBehindWord 24 = .ok (.ifCond .eq 9, 3) := by decide +kernel
theorem dX5_placeBehindWord_27 : decode cX5_placeBehindWord 27 = .ok (.iinc 2 1, 3) := by decide +kernel
theorem dX5_placeBehindWord_30 : decode cX5_placeBehindWord 30 = .ok (.goto (-28), 3) := by decide +kernel
theorem dX5_placeBehindWord_33 : decode cX5_placeBehindWord 33 = .ok (.iload_n 2, 1) := by decide +kernel
theorem dX5_placeBehindWord_34 : decode cX5_placeBehindWord 34 = .ok (.ireturn, 1) := by decide +kernel
theorem dX5_isFigure_0 : decode cX5_isFigure 0 = .ok (.iload_n 0, 1) := by decide +kernel
theorem dX5_isFigure_1 : decode cX5_isFigure 1 = .ok (.bipush 48, 2) := by decide +kernel
theorem dX5_isFigure_3 : decode cX5_isFigure 3 = .ok (.if_icmp .lt 13, 3) := by decide +kernel
theorem dX5_isFigure_6 : decode cX5_isFigure 6 = .ok (.iload_n 0, 1) := by decide +kernel
theorem dX5_isFigure_7 : decode cX5_isFigure 7 = .ok (.bipush 57, 2) := by decide +kernel
theorem dX5_isFigure_9 : decode cX5_isFigure 9 = .ok (.if_icmp .gt 7, 3) := by decide +kernel
theorem dX5_isFigure_12 : decode cX5_isFigure 12 = .ok (.iconst 1, 1) := by decide +kernel
theorem dX5_isFigure_13 : decode cX5_isFigure 13 = .ok (.goto 4, 3) := by decide +kernel
theorem dX5_isFigure_16 : decode cX5_isFigure 16 = .ok (.iconst 0, 1) := by decide +kernel
theorem dX5_isFigure_17 : decode cX5_isFigure 17 = .ok (.ireturn, 1) := by decide +kernel
theorem dX5_isWordLetter_0 : decode cX5_isWordLetter 0 = .ok (.iload_n 0, 1) := by decide +kernel
theorem dX5_isWordLetter_1 : decode cX5_isWordLetter 1 = .ok (.bipush 97, 2) := by decide +kernel
theorem dX5_isWordLetter_3 : decode cX5_isWordLetter 3 = .ok (.if_icmp .lt 13, 3) := by decide +kernel
theorem dX5_isWordLetter_6 : decode cX5_isWordLetter 6 = .ok (.iload_n 0, 1) := by decide +kernel
theorem dX5_isWordLetter_7 : decode cX5_isWordLetter 7 = .ok (.bipush 122, 2) := by decide +kernel
theorem dX5_isWordLetter_9 : decode cX5_isWordLetter 9 = .ok (.if_icmp .gt 7, 3) := by decide +kernel
theorem dX5_isWordLetter_12 : decode cX5_isWordLetter 12 = .ok (.iconst 1, 1) := by decide +kernel
theorem dX5_isWordLetter_13 : decode cX5_isWordLetter 13 = .ok (.goto 4, 3) := by decide +kernel
theorem dX5_isWordLetter_16 : decode cX5_isWordLetter 16 = .ok (.iconst 0, 1) := by decide +kernel
theorem dX5_isWordLetter_17 : decode cX5_isWordLetter 17 = .ok (.ireturn, 1) := by decide +kernel
set_option maxRecDepth 20000 in
theorem ggX6_init_X2_init : GoodIn wsX6_init wsX2_init := goodIn_r _ [29, 30, 2, 3, 31, 32, 33, 34, 35, 36, 6, 37, 38, 39, 40, 41, 42, 43, 44, 45, 46, 47, 48, 49, 83, 84, 85, 86, 87, 88] (by decide +kernel) (by decide +kernel)
set_option maxRecDepth 20000 in
theorem gX6_init_X2_init : GoodIn wsX6_init (wsX2_init) := ggX6_init_X2_init
set_option maxRecDepth 20000 in
theorem ggX6_init_X5_init : GoodIn wsX6_init wsX5_init := goodIn_r _ [51, 52, 2, 3, 53, 54, 55, 56, 57, 5, 6, 58, 59, 60, 61, 31, 62, 63, 28, 29, 30, 32, 33, 34, 35, 36, 37, 38, 39, 40, 41, 42, 43, 44, 45, 46, 47, 48, 49, 115, 116, 96, 97, 98, 99, 100, 101, 102, 103, 83, 84, 85, 86, 87, 88] (by decide +kernel) (by decide +kernel)
set_option maxRecDepth 20000 in
theorem gX6_init_X5_init_n18 : GoodIn wsX6_init (wsX5_init) := ggX6_init_X5_init
set_option maxRecDepth 20000 in
theorem ggX6_init_X0_init : GoodIn wsX6_init wsX0_init := goodIn_r _ [66, 67, 2, 3, 68, 69, 5, 6, 70, 28, 29, 30, 31, 32, 33, 34, 35, 36, 37, 38, 39, 40, 41, 42, 43, 44, 45, 46, 47, 48, 49, 104, 105, 106, 83, 84, 85, 86, 87, 88] (by decide +kernel) (by decide +kernel)
set_option maxRecDepth 20000 in
theorem gX6_init_X0_init : GoodIn wsX6_init (wsX0_init) := ggX6_init_X0_init
set_option maxRecDepth 20000 in
theorem ggX6_init_X3_init : GoodIn wsX6_init wsX3_init := goodIn_r _ [72, 73, 2, 3, 74, 5, 6, 75, 76, 28, 29, 30, 31, 32, 33, 34, 35, 36, 37, 38, 39, 40, 41, 42, 43, 44, 45, 46, 47, 48, 49, 83, 84, 85, 86, 87, 88, 107, 108, 109, 110] (by decide +kernel) (by decide +kernel)
set_option maxRecDepth 20000 in
theorem gX6_init_X3_init_n32 : GoodIn wsX6_init (wsX3_init) := ggX6_init_X3_init
set_option maxRecDepth 20000 in
theorem ggX6_init_X4_init : GoodIn wsX6_init wsX4_init := goodIn_r _ [78, 79, 2, 3, 31, 80, 81, 25, 82, 111, 112, 113, 114] (by decide +kernel) (by decide +kernel)
set_option maxRecDepth 20000 in
theorem gX6_init_X4_init_n39 : GoodIn wsX6_init (wsX4_init) := ggX6_init_X4_init
theorem dX6_init_0 : decode cX6_init 0 = .ok (.aload_n 0, 1) := by decide +kernel
theorem dX6_init_1 : decode cX6_init 1 = .ok (.invokespecial 1, 3) := by decide +kernel
theorem dX6_init_4 : decode cX6_init 4 = .ok (.aload_n 0, 1) := by decide +kernel
theorem dX6_init_5 : decode cX6_init 5 = .ok (.new 7, 3) := by decide +kernel
theorem dX6_init_8 : decode cX6_init 8 = .ok (.dup, 1) := by decide +kernel
theorem dX6_init_9 : decode cX6_init 9 = .ok (.invokespecial 9, 3) := by decide +kernel
theorem dX6_init_12 : decode cX6_init 12 = .ok (.putfield 10, 3) := by decide +kernel
theorem dX6_init_15 : decode cX6_init 15 = .ok (.aload_n 0, 1) := by decide +kernel
theorem dX6_init_16 : decode cX6_init 16 = .ok (.new 16, 3) := by decide +kernel
theorem dX6_init_19 : decode cX6_init 19 = .ok (.dup, 1) := by decide +kernel
theorem dX6_init_20 : decode cX6_init 20 = .ok (.invokespecial 18, 3) := by decide +kernel
theorem dX6_init_23 : decode cX6_init 23 = .ok (.putfield 19, 3) := by decide +kernel
theorem dX6_init_26 : decode cX6_init 26 = .ok (.aload_n 0, 1) := by decide +kernel
theorem dX6_init_27 : decode cX6_init 27 = .ok (.new 23, 3) := by decide +kernel
theorem dX6_init_30 : decode cX6_init 30 = .ok (.dup, 1) := by decide +kernel
theorem dX6_init_31 : decode cX6_init 31 = .ok (.invokespecial 25, 3) := by decide +kernel
theorem dX6_init_34 : decode cX6_init 34 = .ok (.putfield 26, 3) := by decide +kernel
theorem dX6_init_37 : decode cX6_init 37 = .ok (.aload_n 0, 1) := by decide +kernel
theorem dX6_init_38 : decode cX6_init 38 = .ok (.new 30, 3) := by decide +kernel
theorem dX6_init_41 : decode cX6_init 41 = .ok (.dup, 1) := by decide +kernel
theorem dX6_init_42 : decode cX6_init 42 = .ok (.invokespecial 32, 3) := by decide +kernel
theorem dX6_init_45 : decode cX6_init 45 = .ok (.putfield 33, 3) := by decide +kernel
theorem dX6_init_48 : decode cX6_init 48 = .ok (.aload_n 0, 1) := by decide +kernel
theorem dX6_init_49 : decode cX6_init 49 = .ok (.new 37, 3) := by decide +kernel
theorem dX6_init_52 : decode cX6_init 52 = .ok (.dup, 1) := by decide +kernel
theorem dX6_init_53 : decode cX6_init 53 = .ok (.invokespecial 39, 3) := by decide +kernel
theorem dX6_init_56 : decode cX6_init 56 = .ok (.putfield 40, 3) := by decide +kernel
theorem dX6_init_59 : decode cX6_init 59 = .ok (.aload_n 0, 1) := by decide +kernel
theorem dX6_init_60 : decode cX6_init 60 = .ok (.iconst 2, 1) := by decide +kernel
theorem dX6_init_61 : decode cX6_init 61 = .ok (.anewarray 7, 3) := by decide +kernel
theorem dX6_init_64 : decode cX6_init 64 = .ok (.putfield 44, 3) := by decide +kernel
theorem dX6_init_67 : decode cX6_init 67 = .ok (.aload_n 0, 1) := by decide +kernel
theorem dX6_init_68 : decode cX6_init 68 = .ok (.iconst 2, 1) := by decide +kernel
theorem dX6_init_69 : decode cX6_init 69 = .ok (.newarray .boolean, 2) := by decide +kernel
theorem dX6_init_71 : decode cX6_init 71 = .ok (.putfield 48, 3) := by decide +kernel
theorem dX6_init_74 : decode cX6_init 74 = .ok (.iconst 0, 1) := by decide +kernel
theorem dX6_init_75 : decode cX6_init 75 = .ok (.istore_n 1, 1) := by decide +kernel
theorem dX6_init_76 : decode cX6_init 76 = .ok (.iload_n 1, 1) := by decide +kernel
theorem dX6_init_77 : decode cX6_init 77 = .ok (.aload_n 0, 1) := by decide +kernel
theorem dX6_init_78 : decode cX6_init 78 = .ok (.getfield 44, 3) := by decide +kernel
theorem dX6_init_81 : decode cX6_init 81 = .ok (.arraylength, 1) := by decide +kernel
theorem dX6_init_82 : decode cX6_init 82 = .ok (.if_icmp .ge 22, 3) := by decide +kernel
theorem dX6_init_85 : decode cX6_init 85 = .ok (.aload_n 0, 1) := by decide +kernel
theorem dX6_init_86 : decode cX6_init 86 = .ok (.getfield 44, 3) := by decide +kernel
theorem dX6_init_89 : decode cX6_init 89 = .ok (.iload_n 1, 1) := by decide +kernel
theorem dX6_init_90 : decode cX6_init 90 = .ok (.new 7, 3) := by decide +kernel
theorem dX6_init_93 : decode cX6_init 93 = .ok (.dup, 1) := by decide +kernel
theorem dX6_init_94 : decode cX6_init 94 = .ok (.invokespecial 9, 3) := by decide +kernel
theorem dX6_init_97 : decode cX6_init 97 = .ok (.aastore, 1) := by decide +kernel
theorem dX6_init_98 : decode cX6_init 98 = .ok (.iinc 1 1, 3) := by decide +kernel
theorem dX6_init_101 : decode cX6_init 101 = .ok (.goto (-25), 3) := by decide +kernel
theorem dX6_init_104 : decode cX6_init 104 = .ok (.return_, 1) := by decide +kernel
set_option maxRecDepth 20000 in
theorem ggX6_type_X1_append : GoodIn wsX6_type wsX1_append := goodIn_r _ [8, 9, 10, 26, 27] (by decide +kernel) (by decide +kernel)
set_option maxRecDepth 20000 in
theorem gX6_type_X1_append : GoodIn wsX6_type (wsV RX6 56 RX1 yX1_append wsX1_append) := goodIn_app (goodIn_of _ (by decide +kernel)) ggX6_type_X1_append
theorem dX6_type_0 : decode cX6_type 0 = .ok (.iload_n 1, 1) := by decide +kernel
theorem dX6_type_1 : decode cX6_type 1 = .ok (.ifCond .lt 10, 3) := by decide +kernel
theorem dX6_type_4 : decode cX6_type 4 = .ok (.iload_n 1, 1) := by decide +kernel
theorem dX6_type_5 : decode cX6_type 5 = .ok (.sipush 255, 3) := by decide +kernel
theorem dX6_type_8 : decode cX6_type 8 = .ok (.if_icmp .le 5, 3) := by decide +kernel
theorem dX6_type_11 : decode cX6_type 11 = .ok (.iconst (-1), 1) := by decide +kernel
theorem dX6_type_12 : decode cX6_type 12 = .ok (.ireturn, 1) := by decide +kernel
theorem dX6_type_13 : decode cX6_type 13 = .ok (.aload_n 0, 1) := by decide +kernel
theorem dX6_type_14 : decode cX6_type 14 = .ok (.getfield 19, 3) := by decide +kernel
theorem dX6_type_17 : decode cX6_type 17 = .ok (.getfield 52, 3) := by decide +kernel
theorem dX6_type_20 : decode cX6_type 20 = .ok (.iload_n 1, 1) := by decide +kernel
theorem dX6_type_21 : decode cX6_type 21 = .ok (.invokevirtual 56, 3) := by decide +kernel
theorem dX6_type_24 : decode cX6_type 24 = .ok (.ifCond .eq 16, 3) := by decide +kernel
theorem dX6_type_27 : decode cX6_type 27 = .ok (.aload_n 0, 1) := by decide +kernel
theorem dX6_type_28 : decode cX6_type 28 = .ok (.getfield 19, 3) := by decide +kernel
theorem dX6_type_31 : decode cX6_type 31 = .ok (.getfield 52, 3) := by decide +kernel
theorem dX6_type_34 : decode cX6_type 34 = .ok (.getfield 62, 3) := by decide +kernel
theorem dX6_type_37 : decode cX6_type 37 = .ok (.goto 5, 3) := by decide +kernel
theorem dX6_type_40 : decode cX6_type 40 = .ok (.bipush (-3), 2) := by decide +kernel
theorem dX6_type_42 : decode cX6_type 42 = .ok (.ireturn, 1) := by decide +kernel
set_option maxRecDepth 20000 in
theorem ggX6_clear_X1_empty : GoodIn wsX6_clear wsX1_empty := goodIn_r _ [7, 8, 24, 25] (by decide +kernel) (by decide +kernel)
set_option maxRecDepth 20000 in
theorem gX6_clear_X1_empty : GoodIn wsX6_clear (wsV RX6 66 RX1 yX1_empty wsX1_empty) := goodIn_app (goodIn_of _ (by decide +kernel)) ggX6_clear_X1_empty
theorem dX6_clear_0 : decode cX6_clear 0 = .ok (.aload_n 0, 1) := by decide +kernel
theorem dX6_clear_1 : decode cX6_clear 1 = .ok (.getfield 19, 3) := by decide +kernel
theorem dX6_clear_4 : decode cX6_clear 4 = .ok (.getfield 52, 3) := by decide +kernel
theorem dX6_clear_7 : decode cX6_clear 7 = .ok (.invokevirtual 66, 3) := by decide +kernel
theorem dX6_clear_10 : decode cX6_clear 10 = .ok (.ireturn, 1) := by decide +kernel
set_option maxRecDepth 20000 in
theorem ggX6_tells_X5_read : GoodIn wsX6_tells wsX5_read := goodIn_r _ [10, 11, 12, 13, 14, 15, 9, 16, 17, 18, 19, 20, 21, 22, 23, 24, 25, 26, 27, 28, 29, 30, 31, 32, 33, 34, 35, 36, 37, 38, 39, 40, 41, 42, 43, 44, 45, 46, 47, 48, 49, 50, 51, 52, 53, 54, 55, 56, 57, 58, 59, 60, 61, 62, 63, 64, 65, 66, 67, 68, 69, 70, 71, 72, 73, 74, 75, 76, 77, 78, 79, 80, 81, 82, 83, 84, 85, 86, 87, 88, 89, 90, 91, 92, 93, 94, 95, 96, 97, 98, 99, 100, 101, 102, 103, 104, 105, 106, 107, 108, 109, 110, 111, 112, 113, 114, 115, 116, 117, 118, 119, 120, 121, 122, 123, 124, 125, 126, 127, 128, 129, 130, 131, 132, 133, 134, 135, 136, 137, 138, 139, 140, 141, 142, 143, 144, 145, 146, 147, 148, 149, 150, 151, 152, 153, 154, 155, 156, 157, 158, 159, 160, 161, 162, 163, 164, 165, 166, 167, 168, 169, 170, 171, 172, 173, 174, 175, 176, 177, 178, 179, 180, 181, 182, 183, 184, 185, 186, 187, 188, 189, 190, 191, 192, 193, 194, 227, 228, 229, 230, 231, 232, 233, 234, 235, 236, 237, 238, 239, 240, 241, 242] (by decide +kernel) (by decide +kernel)
set_option maxRecDepth 20000 in
theorem gX6_tells_X5_read : GoodIn wsX6_tells (wsV RX6 70 RX5 yX5_read wsX5_read) := goodIn_app (goodIn_of _ (by decide +kernel)) ggX6_tells_X5_read
set_option maxRecDepth 20000 in
theorem ggX6_tells_X0_remember : GoodIn wsX6_tells wsX0_remember := goodIn_r _ [199, 200, 201, 202, 203, 204, 205, 206, 207, 208, 209, 25, 210, 33, 27, 40, 28, 34, 211, 212, 213, 214, 39, 243, 244, 245, 235, 236, 237, 238, 239, 240] (by decide +kernel) (by decide +kernel)
set_option maxRecDepth 20000 in
theorem gX6_tells_X0_remember : GoodIn wsX6_tells (wsV RX6 73 RX0 yX0_remember wsX0_remember) := goodIn_app (goodIn_of _ (by decide +kernel)) ggX6_tells_X0_remember
set_option maxRecDepth 20000 in
theorem ggX6_tells_X2_become : GoodIn wsX6_tells wsX2_become := goodIn_r _ [210, 33, 27, 40, 28, 34, 211, 212, 213, 214, 39, 235, 236, 237, 238, 239, 240] (by decide +kernel) (by decide +kernel)
set_option maxRecDepth 20000 in
theorem gX6_tells_X2_become : GoodIn wsX6_tells (wsV RX6 80 RX2 yX2_become wsX2_become) := goodIn_app (goodIn_of _ (by decide +kernel)) ggX6_tells_X2_become
set_option maxRecDepth 20000 in
theorem ggX6_tells_X1_empty : GoodIn wsX6_tells wsX1_empty := goodIn_r _ [219, 56, 241, 242] (by decide +kernel) (by decide +kernel)
set_option maxRecDepth 20000 in
theorem gX6_tells_X1_empty : GoodIn wsX6_tells (wsV RX6 66 RX1 yX1_empty wsX1_empty) := goodIn_app (goodIn_of _ (by decide +kernel)) ggX6_tells_X1_empty
theorem dX6_tells_0 : decode cX6_tells 0 = .ok (.aload_n 0, 1) := by decide +kernel
theorem dX6_tells_1 : decode cX6_tells 1 = .ok (.getfield 19, 3) := by decide +kernel
theorem dX6_tells_4 : decode cX6_tells 4 = .ok (.invokevirtual 70, 3) := by decide +kernel
theorem dX6_tells_7 : decode cX6_tells 7 = .ok (.istore_n 1, 1) := by decide +kernel
theorem dX6_tells_8 : decode cX6_tells 8 = .ok (.iload_n 1, 1) := by decide +kernel
theorem dX6_tells_9 : decode cX6_tells 9 = .ok (.ifCond .ge 5, 3) := by decide +kernel
theorem dX6_tells_12 : decode cX6_tells 12 = .ok (.iload_n 1, 1) := by decide +kernel
theorem dX6_tells_13 : decode cX6_tells 13 = .ok (.ireturn, 1) := by decide +kernel
theorem dX6_tells_14 : decode cX6_tells 14 = .ok (.aload_n 0, 1) := by decide +kernel
theorem dX6_tells_15 : decode cX6_tells 15 = .ok (.getfield 26, 3) := by decide +kernel
theorem dX6_tells_18 : decode cX6_tells 18 = .ok (.aload_n 0, 1) := by decide +kernel
theorem dX6_tells_19 : decode cX6_tells 19 = .ok (.getfield 10, 3) := by decide +kernel
theorem dX6_tells_22 : decode cX6_tells 22 = .ok (.invokevirtual 73, 3) := by decide +kernel
theorem dX6_tells_25 : decode cX6_tells 25 = .ok (.aload_n 0, 1) := by decide +kernel
theorem dX6_tells_26 : decode cX6_tells 26 = .ok (.getfield 10, 3) := by decide +kernel
theorem dX6_tells_29 : decode cX6_tells 29 = .ok (.aload_n 0, 1) := by decide +kernel
theorem dX6_tells_30 : decode cX6_tells 30 = .ok (.getfield 19, 3) := by decide +kernel
theorem dX6_tells_33 : decode cX6_tells 33 = .ok (.getfield 77, 3) := by decide +kernel
theorem dX6_tells_36 : decode cX6_tells 36 = .ok (.invokevirtual 80, 3) := by decide +kernel
theorem dX6_tells_39 : decode cX6_tells 39 = .ok (.aload_n 0, 1) := by decide +kernel
theorem dX6_tells_40 : decode cX6_tells 40 = .ok (.getfield 19, 3) := by decide +kernel
theorem dX6_tells_43 : decode cX6_tells 43 = .ok (.getfield 52, 3) := by decide +kernel
theorem dX6_tells_46 : decode cX6_tells 46 = .ok (.invokevirtual 66, 3) := by decide +kernel
theorem dX6_tells_49 : decode cX6_tells 49 = .ok (.pop, 1) := by decide +kernel
theorem dX6_tells_50 : decode cX6_tells 50 = .ok (.iload_n 1, 1) := by decide +kernel
theorem dX6_tells_51 : decode cX6_tells 51 = .ok (.ireturn, 1) := by decide +kernel
set_option maxRecDepth 20000 in
theorem ggX6_punches_X2_hasCard : GoodIn wsX6_punches wsX2_hasCard := goodIn_r _ [7, 8, 62, 63, 64, 65, 66, 67] (by decide +kernel) (by decide +kernel)
set_option maxRecDepth 20000 in
theorem gX6_punches_X2_hasCard : GoodIn wsX6_punches (wsV RX6 83 RX2 yX2_hasCard wsX2_hasCard) := goodIn_app (goodIn_of _ (by decide +kernel)) ggX6_punches_X2_hasCard
set_option maxRecDepth 20000 in
theorem ggX6_punches_X2_hasHook : GoodIn wsX6_punches wsX2_hasHook := goodIn_r _ [12, 13, 62, 63, 64, 65, 66, 67] (by decide +kernel) (by decide +kernel)
set_option maxRecDepth 20000 in
theorem gX6_punches_X2_hasHook : GoodIn wsX6_punches (wsV RX6 86 RX2 yX2_hasHook wsX2_hasHook) := goodIn_app (goodIn_of _ (by decide +kernel)) ggX6_punches_X2_hasHook
set_option maxRecDepth 20000 in
theorem ggX6_punches_X0_remember : GoodIn wsX6_punches wsX0_remember := goodIn_r _ [18, 19, 20, 21, 22, 23, 24, 25, 26, 27, 28, 6, 29, 13, 30, 8, 31, 32, 33, 34, 35, 36, 37, 68, 69, 70, 62, 63, 64, 65, 66, 67] (by decide +kernel) (by decide +kernel)
set_option maxRecDepth 20000 in
theorem gX6_punches_X0_remember : GoodIn wsX6_punches (wsV RX6 73 RX0 yX0_remember wsX0_remember) := goodIn_app (goodIn_of _ (by decide +kernel)) ggX6_punches_X0_remember
set_option maxRecDepth 20000 in
theorem ggX6_punches_X2_placeOf : GoodIn wsX6_punches wsX2_placeOf := goodIn_r _ [41, 13, 62, 63, 64, 65, 66, 67] (by decide +kernel) (by decide +kernel)
set_option maxRecDepth 20000 in
theorem gX6_punches_X2_placeOf : GoodIn wsX6_punches (wsV RX6 89 RX2 yX2_placeOf wsX2_placeOf) := goodIn_app (goodIn_of _ (by decide +kernel)) ggX6_punches_X2_placeOf
set_option maxRecDepth 20000 in
theorem ggX6_punches_X2_punch : GoodIn wsX6_punches wsX2_punch := goodIn_r _ [45, 13, 37, 46, 47, 48, 6, 49, 8, 62, 63, 64, 65, 66, 67] (by decide +kernel) (by decide +kernel)
set_option maxRecDepth 20000 in
theorem gX6_punches_X2_punch : GoodIn wsX6_punches (wsV RX6 93 RX2 yX2_punch wsX2_punch) := goodIn_app (goodIn_of _ (by decide +kernel)) ggX6_punches_X2_punch
set_option maxRecDepth 20000 in
theorem ggX6_punches_X2_holesOf : GoodIn wsX6_punches wsX2_holesOf := goodIn_r _ [53, 37, 54, 4, 5, 6, 7, 8, 62, 63, 64, 65, 66, 67] (by decide +kernel) (by decide +kernel)
set_option maxRecDepth 20000 in
theorem gX6_punches_X2_holesOf : GoodIn wsX6_punches (wsV RX6 97 RX2 yX2_holesOf wsX2_holesOf) := goodIn_app (goodIn_of _ (by decide +kernel)) ggX6_punches_X2_holesOf
theorem dX6_punches_0 : decode cX6_punches 0 = .ok (.aload_n 0, 1) := by decide +kernel
theorem dX6_punches_1 : decode cX6_punches 1 = .ok (.getfield 10, 3) := by decide +kernel
theorem dX6_punches_4 : decode cX6_punches 4 = .ok (.iload_n 1, 1) := by decide +kernel
theorem dX6_punches_5 : decode cX6_punches 5 = .ok (.invokevirtual 83, 3) := by decide +kernel
theorem dX6_punches_8 : decode cX6_punches 8 = .ok (.ifCond .eq 14, 3) := by decide +kernel
theorem dX6_punches_11 : decode cX6_punches 11 = .ok (.aload_n 0, 1) := by decide +kernel
theorem dX6_punches_12 : decode cX6_punches 12 = .ok (.getfield 10, 3) := by decide +kernel
theorem dX6_punches_15 : decode cX6_punches 15 = .ok (.iload_n 2, 1) := by decide +kernel
theorem dX6_punches_16 : decode cX6_punches 16 = .ok (.invokevirtual 86, 3) := by decide +kernel
theorem dX6_punches_19 : decode cX6_punches 19 = .ok (.ifCond .ne 5, 3) := by decide +kernel
theorem dX6_punches_22 : decode cX6_punches 22 = .ok (.iconst (-1), 1) := by decide +kernel
theorem dX6_punches_23 : decode cX6_punches 23 = .ok (.ireturn, 1) := by decide +kernel
theorem dX6_punches_24 : decode cX6_punches 24 = .ok (.aload_n 0, 1) := by decide +kernel
theorem dX6_punches_25 : decode cX6_punches 25 = .ok (.getfield 26, 3) := by decide +kernel
theorem dX6_punches_28 : decode cX6_punches 28 = .ok (.aload_n 0, 1) := by decide +kernel
theorem dX6_punches_29 : decode cX6_punches 29 = .ok (.getfield 10, 3) := by decide +kernel
theorem dX6_punches_32 : decode cX6_punches 32 = .ok (.invokevirtual 73, 3) := by decide +kernel
theorem dX6_punches_35 : decode cX6_punches 35 = .ok (.aload_n 0, 1) := by decide +kernel
theorem dX6_punches_36 : decode cX6_punches 36 = .ok (.getfield 10, 3) := by decide +kernel
theorem dX6_punches_39 : decode cX6_punches 39 = .ok (.aload_n 0, 1) := by decide +kernel
theorem dX6_punches_40 : decode cX6_punches 40 = .ok (.getfield 10, 3) := by decide +kernel
theorem dX6_punches_43 : decode cX6_punches 43 = .ok (.iload_n 1, 1) := by decide +kernel
theorem dX6_punches_44 : decode cX6_punches 44 = .ok (.iload_n 2, 1) := by decide +kernel
theorem dX6_punches_45 : decode cX6_punches 45 = .ok (.invokevirtual 89, 3) := by decide +kernel
theorem dX6_punches_48 : decode cX6_punches 48 = .ok (.invokevirtual 93, 3) := by decide +kernel
theorem dX6_punches_51 : decode cX6_punches 51 = .ok (.aload_n 0, 1) := by decide +kernel
theorem dX6_punches_52 : decode cX6_punches 52 = .ok (.getfield 10, 3) := by decide +kernel
theorem dX6_punches_55 : decode cX6_punches 55 = .ok (.iload_n 1, 1) := by decide +kernel
theorem dX6_punches_56 : decode cX6_punches 56 = .ok (.invokevirtual 97, 3) := by decide +kernel
theorem dX6_punches_59 : decode cX6_punches 59 = .ok (.iload_n 2, 1) := by decide +kernel
theorem dX6_punches_60 : decode cX6_punches 60 = .ok (.ishr, 1) := by decide +kernel
theorem dX6_punches_61 : decode cX6_punches 61 = .ok (.iconst 1, 1) := by decide +kernel
theorem dX6_punches_62 : decode cX6_punches 62 = .ok (.iand, 1) := by decide +kernel
theorem dX6_punches_63 : decode cX6_punches 63 = .ok (.ireturn, 1) := by decide +kernel
set_option maxRecDepth 20000 in
theorem ggX6_ties_X2_hasEnd : GoodIn wsX6_ties wsX2_hasEnd := goodIn_r _ [7, 8, 54, 55, 56, 57, 58, 59] (by decide +kernel) (by decide +kernel)
set_option maxRecDepth 20000 in
theorem gX6_ties_X2_hasEnd : GoodIn wsX6_ties (wsV RX6 101 RX2 yX2_hasEnd wsX2_hasEnd) := goodIn_app (goodIn_of _ (by decide +kernel)) ggX6_ties_X2_hasEnd
set_option maxRecDepth 20000 in
theorem ggX6_ties_X2_hasHook : GoodIn wsX6_ties wsX2_hasHook := goodIn_r _ [12, 13, 54, 55, 56, 57, 58, 59] (by decide +kernel) (by decide +kernel)
set_option maxRecDepth 20000 in
theorem gX6_ties_X2_hasHook : GoodIn wsX6_ties (wsV RX6 86 RX2 yX2_hasHook wsX2_hasHook) := goodIn_app (goodIn_of _ (by decide +kernel)) ggX6_ties_X2_hasHook
set_option maxRecDepth 20000 in
theorem ggX6_ties_X2_hookOf : GoodIn wsX6_ties wsX2_hookOf := goodIn_r _ [17, 18, 19, 4, 5, 6, 7, 8, 54, 55, 56, 57, 58, 59] (by decide +kernel) (by decide +kernel)
set_option maxRecDepth 20000 in
theorem gX6_ties_X2_hookOf : GoodIn wsX6_ties (wsV RX6 104 RX2 yX2_hookOf wsX2_hookOf) := goodIn_app (goodIn_of _ (by decide +kernel)) ggX6_ties_X2_hookOf
set_option maxRecDepth 20000 in
theorem ggX6_ties_X0_remember : GoodIn wsX6_ties wsX0_remember := goodIn_r _ [24, 25, 26, 27, 28, 29, 30, 31, 32, 33, 34, 6, 35, 13, 8, 36, 37, 18, 38, 39, 40, 41, 42, 60, 61, 62, 54, 55, 56, 57, 58, 59] (by decide +kernel) (by decide +kernel)
set_option maxRecDepth 20000 in
theorem gX6_ties_X0_remember : GoodIn wsX6_ties (wsV RX6 73 RX0 yX0_remember wsX0_remember) := goodIn_app (goodIn_of _ (by decide +kernel)) ggX6_ties_X0_remember
set_option maxRecDepth 20000 in
theorem ggX6_ties_X2_tie : GoodIn wsX6_ties wsX2_tie := goodIn_r _ [46, 18, 19, 4, 5, 6, 7, 8, 54, 55, 56, 57, 58, 59] (by decide +kernel) (by decide +kernel)
set_option maxRecDepth 20000 in
theorem gX6_ties_X2_tie : GoodIn wsX6_ties (wsV RX6 107 RX2 yX2_tie wsX2_tie) := goodIn_app (goodIn_of _ (by decide +kernel)) ggX6_ties_X2_tie
theorem dX6_ties_0 : decode cX6_ties 0 = .ok (.aload_n 0, 1) := by decide +kernel
theorem dX6_ties_1 : decode cX6_ties 1 = .ok (.getfield 10, 3) := by decide +kernel
theorem dX6_ties_4 : decode cX6_ties 4 = .ok (.iload_n 1, 1) := by decide +kernel
theorem dX6_ties_5 : decode cX6_ties 5 = .ok (.invokevirtual 101, 3) := by decide +kernel
theorem dX6_ties_8 : decode cX6_ties 8 = .ok (.ifCond .eq 14, 3) := by decide +kernel
theorem dX6_ties_11 : decode cX6_ties 11 = .ok (.aload_n 0, 1) := by decide +kernel
theorem dX6_ties_12 : decode cX6_ties 12 = .ok (.getfield 10, 3) := by decide +kernel
theorem dX6_ties_15 : decode cX6_ties 15 = .ok (.iload_n 2, 1) := by decide +kernel
theorem dX6_ties_16 : decode cX6_ties 16 = .ok (.invokevirtual 86, 3) := by decide +kernel
theorem dX6_ties_19 : decode cX6_ties 19 = .ok (.ifCond .ne 5, 3) := by decide +kernel
theorem dX6_ties_22 : decode cX6_ties 22 = .ok (.iconst (-1), 1) := by decide +kernel
theorem dX6_ties_23 : decode cX6_ties 23 = .ok (.ireturn, 1) := by decide +kernel
theorem dX6_ties_24 : decode cX6_ties 24 = .ok (.aload_n 0, 1) := by decide +kernel
theorem dX6_ties_25 : decode cX6_ties 25 = .ok (.getfield 10, 3) := by decide +kernel
theorem dX6_ties_28 : decode cX6_ties 28 = .ok (.iload_n 1, 1) := by decide +kernel
theorem dX6_ties_29 : decode cX6_ties 29 = .ok (.invokevirtual 104, 3) := by decide +kernel
theorem dX6_ties_32 : decode cX6_ties 32 = .ok (.istore_n 3, 1) := by decide +kernel
theorem dX6_ties_33 : decode cX6_ties 33 = .ok (.iload_n 3, 1) := by decide +kernel
theorem dX6_ties_34 : decode cX6_ties 34 = .ok (.iload_n 2, 1) := by decide +kernel
theorem dX6_ties_35 : decode cX6_ties 35 = .ok (.if_icmp .ne 6, 3) := by decide +kernel
theorem dX6_ties_38 : decode cX6_ties 38 = .ok (.bipush (-2), 2) := by decide +kernel
theorem dX6_ties_40 : decode cX6_ties 40 = .ok (.ireturn, 1) := by decide +kernel
theorem dX6_ties_41 : decode cX6_ties 41 = .ok (.aload_n 0, 1) := by decide +kernel
theorem dX6_ties_42 : decode cX6_ties 42 = .ok (.getfield 26, 3) := by decide +kernel
theorem dX6_ties_45 : decode cX6_ties 45 = .ok (.aload_n 0, 1) := by decide +kernel
theorem dX6_ties_46 : decode cX6_ties 46 = .ok (.getfield 10, 3) := by decide +kernel
theorem dX6_ties_49 : decode cX6_ties 49 = .ok (.invokevirtual 73, 3) := by decide +kernel
theorem dX6_ties_52 : decode cX6_ties 52 = .ok (.aload_n 0, 1) := by decide +kernel
theorem dX6_ties_53 : decode cX6_ties 53 = .ok (.getfield 10, 3) := by decide +kernel
theorem dX6_ties_56 : decode cX6_ties 56 = .ok (.iload_n 1, 1) := by decide +kernel
theorem dX6_ties_57 : decode cX6_ties 57 = .ok (.iload_n 2, 1) := by decide +kernel
theorem dX6_ties_58 : decode cX6_ties 58 = .ok (.invokevirtual 107, 3) := by decide +kernel
theorem dX6_ties_61 : decode cX6_ties 61 = .ok (.iload_n 3, 1) := by decide +kernel
theorem dX6_ties_62 : decode cX6_ties 62 = .ok (.ireturn, 1) := by decide +kernel
set_option maxRecDepth 20000 in
theorem ggX6_adds_X2_hasHoles : GoodIn wsX6_adds wsX2_hasHoles := goodIn_r _ [8, 9, 46, 47, 48, 49, 50, 51] (by decide +kernel) (by decide +kernel)
set_option maxRecDepth 20000 in
theorem gX6_adds_X2_hasHoles : GoodIn wsX6_adds (wsV RX6 111 RX2 yX2_hasHoles wsX2_hasHoles) := goodIn_app (goodIn_of _ (by decide +kernel)) ggX6_adds_X2_hasHoles
set_option maxRecDepth 20000 in
theorem ggX6_adds_X0_remember : GoodIn wsX6_adds wsX0_remember := goodIn_r _ [14, 15, 16, 17, 18, 19, 20, 21, 22, 23, 24, 7, 25, 9, 26, 27, 28, 29, 30, 31, 32, 33, 34, 52, 53, 54, 46, 47, 48, 49, 50, 51] (by decide +kernel) (by decide +kernel)
set_option maxRecDepth 20000 in
theorem gX6_adds_X0_remember : GoodIn wsX6_adds (wsV RX6 73 RX0 yX0_remember wsX0_remember) := goodIn_app (goodIn_of _ (by decide +kernel)) ggX6_adds_X0_remember
set_option maxRecDepth 20000 in
theorem ggX6_adds_X2_putBehind : GoodIn wsX6_adds wsX2_putBehind := goodIn_r _ [38, 34, 27, 46, 47, 48, 49, 50, 51] (by decide +kernel) (by decide +kernel)
set_option maxRecDepth 20000 in
theorem gX6_adds_X2_putBehind : GoodIn wsX6_adds (wsV RX6 117 RX2 yX2_putBehind wsX2_putBehind) := goodIn_app (goodIn_of _ (by decide +kernel)) ggX6_adds_X2_putBehind
theorem dX6_adds_0 : decode cX6_adds 0 = .ok (.aload_n 0, 1) := by decide +kernel
theorem dX6_adds_1 : decode cX6_adds 1 = .ok (.getfield 10, 3) := by decide +kernel
theorem dX6_adds_4 : decode cX6_adds 4 = .ok (.iload_n 1, 1) := by decide +kernel
theorem dX6_adds_5 : decode cX6_adds 5 = .ok (.invokevirtual 111, 3) := by decide +kernel
theorem dX6_adds_8 : decode cX6_adds 8 = .ok (.ifCond .ne 5, 3) := by decide +kernel
theorem dX6_adds_11 : decode cX6_adds 11 = .ok (.iconst (-1), 1) := by decide +kernel
theorem dX6_adds_12 : decode cX6_adds 12 = .ok (.ireturn, 1) := by decide +kernel
theorem dX6_adds_13 : decode cX6_adds 13 = .ok (.aload_n 0, 1) := by decide +kernel
theorem dX6_adds_14 : decode cX6_adds 14 = .ok (.getfield 10, 3) := by decide +kernel
theorem dX6_adds_17 : decode cX6_adds 17 = .ok (.getfield 114, 3) := by decide +kernel
theorem dX6_adds_20 : decode cX6_adds 20 = .ok (.bipush 8, 2) := by decide +kernel
theorem dX6_adds_22 : decode cX6_adds 22 = .ok (.if_icmp .lt 6, 3) := by decide +kernel
theorem dX6_adds_25 : decode cX6_adds 25 = .ok (.bipush (-3), 2) := by decide +kernel
theorem dX6_adds_27 : decode cX6_adds 27 = .ok (.ireturn, 1) := by decide +kernel
theorem dX6_adds_28 : decode cX6_adds 28 = .ok (.aload_n 0, 1) := by decide +kernel
theorem dX6_adds_29 : decode cX6_adds 29 = .ok (.getfield 26, 3) := by decide +kernel
theorem dX6_adds_32 : decode cX6_adds 32 = .ok (.aload_n 0, 1) := by decide +kernel
theorem dX6_adds_33 : decode cX6_adds 33 = .ok (.getfield 10, 3) := by decide +kernel
theorem dX6_adds_36 : decode cX6_adds 36 = .ok (.invokevirtual 73, 3) := by decide +kernel
theorem dX6_adds_39 : decode cX6_adds 39 = .ok (.aload_n 0, 1) := by decide +kernel
theorem dX6_adds_40 : decode cX6_adds 40 = .ok (.getfield 10, 3) := by decide +kernel
theorem dX6_adds_43 : decode cX6_adds 43 = .ok (.aload_n 0, 1) := by decide +kernel
theorem dX6_adds_44 : decode cX6_adds 44 = .ok (.getfield 10, 3) := by decide +kernel
theorem dX6_adds_47 : decode cX6_adds 47 = .ok (.getfield 114, 3) := by decide +kernel
theorem dX6_adds_50 : decode cX6_adds 50 = .ok (.iload_n 1, 1) := by decide +kernel
theorem dX6_adds_51 : decode cX6_adds 51 = .ok (.invokevirtual 117, 3) := by decide +kernel
theorem dX6_adds_54 : decode cX6_adds 54 = .ok (.aload_n 0, 1) := by decide +kernel
theorem dX6_adds_55 : decode cX6_adds 55 = .ok (.getfield 10, 3) := by decide +kernel
theorem dX6_adds_58 : decode cX6_adds 58 = .ok (.getfield 114, 3) := by decide +kernel
theorem dX6_adds_61 : decode cX6_adds 61 = .ok (.ireturn, 1) := by decide +kernel
set_option maxRecDepth 20000 in
theorem ggX6_drops_X2_hasCard : GoodIn wsX6_drops wsX2_hasCard := goodIn_r _ [8, 9, 47, 48, 49, 50, 51, 52] (by decide +kernel) (by decide +kernel)
set_option maxRecDepth 20000 in
theorem gX6_drops_X2_hasCard : GoodIn wsX6_drops (wsV RX6 83 RX2 yX2_hasCard wsX2_hasCard) := goodIn_app (goodIn_of _ (by decide +kernel)) ggX6_drops_X2_hasCard
set_option maxRecDepth 20000 in
theorem ggX6_drops_X0_remember : GoodIn wsX6_drops wsX0_remember := goodIn_r _ [14, 15, 16, 17, 18, 19, 20, 21, 22, 23, 24, 7, 25, 26, 27, 9, 28, 29, 30, 31, 32, 33, 34, 53, 54, 55, 47, 48, 49, 50, 51, 52] (by decide +kernel) (by decide +kernel)
set_option maxRecDepth 20000 in
theorem gX6_drops_X0_remember : GoodIn wsX6_drops (wsV RX6 73 RX0 yX0_remember wsX0_remember) := goodIn_app (goodIn_of _ (by decide +kernel)) ggX6_drops_X0_remember
set_option maxRecDepth 20000 in
theorem ggX6_drops_X2_takeOut : GoodIn wsX6_drops wsX2_takeOut := goodIn_r _ [38, 9, 34, 30, 31, 32, 33, 39, 5, 6, 7, 8, 47, 48, 49, 50, 51, 52] (by decide +kernel) (by decide +kernel)
set_option maxRecDepth 20000 in
theorem gX6_drops_X2_takeOut : GoodIn wsX6_drops (wsV RX6 120 RX2 yX2_takeOut wsX2_takeOut) := goodIn_app (goodIn_of _ (by decide +kernel)) ggX6_drops_X2_takeOut
theorem dX6_drops_0 : decode cX6_drops 0 = .ok (.aload_n 0, 1) := by decide +kernel
theorem dX6_drops_1 : decode cX6_drops 1 = .ok (.getfield 10, 3) := by decide +kernel
theorem dX6_drops_4 : decode cX6_drops 4 = .ok (.iload_n 1, 1) := by decide +kernel
theorem dX6_drops_5 : decode cX6_drops 5 = .ok (.invokevirtual 83, 3) := by decide +kernel
theorem dX6_drops_8 : decode cX6_drops 8 = .ok (.ifCond .ne 5, 3) := by decide +kernel
theorem dX6_drops_11 : decode cX6_drops 11 = .ok (.iconst (-1), 1) := by decide +kernel
theorem dX6_drops_12 : decode cX6_drops 12 = .ok (.ireturn, 1) := by decide +kernel
theorem dX6_drops_13 : decode cX6_drops 13 = .ok (.aload_n 0, 1) := by decide +kernel
theorem dX6_drops_14 : decode cX6_drops 14 = .ok (.getfield 10, 3) := by decide +kernel
theorem dX6_drops_17 : decode cX6_drops 17 = .ok (.getfield 114, 3) := by decide +kernel
theorem dX6_drops_20 : decode cX6_drops 20 = .ok (.iconst 1, 1) := by decide +kernel
theorem dX6_drops_21 : decode cX6_drops 21 = .ok (.if_icmp .gt 6, 3) := by decide +kernel
theorem dX6_drops_24 : decode cX6_drops 24 = .ok (.bipush (-2), 2) := by decide +kernel
theorem dX6_drops_26 : decode cX6_drops 26 = .ok (.ireturn, 1) := by decide +kernel
theorem dX6_drops_27 : decode cX6_drops 27 = .ok (.aload_n 0, 1) := by decide +kernel
theorem dX6_drops_28 : decode cX6_drops 28 = .ok (.getfield 26, 3) := by decide +kernel
theorem dX6_drops_31 : decode cX6_drops 31 = .ok (.aload_n 0, 1) := by decide +kernel
theorem dX6_drops_32 : decode cX6_drops 32 = .ok (.getfield 10, 3) := by decide +kernel
theorem dX6_drops_35 : decode cX6_drops 35 = .ok (.invokevirtual 73, 3) := by decide +kernel
theorem dX6_drops_38 : decode cX6_drops 38 = .ok (.aload_n 0, 1) := by decide +kernel
theorem dX6_drops_39 : decode cX6_drops 39 = .ok (.getfield 10, 3) := by decide +kernel
theorem dX6_drops_42 : decode cX6_drops 42 = .ok (.iload_n 1, 1) := by decide +kernel
theorem dX6_drops_43 : decode cX6_drops 43 = .ok (.invokevirtual 120, 3) := by decide +kernel
theorem dX6_drops_46 : decode cX6_drops 46 = .ok (.aload_n 0, 1) := by decide +kernel
theorem dX6_drops_47 : decode cX6_drops 47 = .ok (.getfield 10, 3) := by decide +kernel
theorem dX6_drops_50 : decode cX6_drops 50 = .ok (.getfield 114, 3) := by decide +kernel
theorem dX6_drops_53 : decode cX6_drops 53 = .ok (.ireturn, 1) := by decide +kernel
set_option maxRecDepth 20000 in
theorem ggX6_changes_X2_hasCard : GoodIn wsX6_changes wsX2_hasCard := goodIn_r _ [7, 8, 61, 62, 63, 64, 65, 66] (by decide +kernel) (by decide +kernel)
set_option maxRecDepth 20000 in
theorem gX6_changes_X2_hasCard : GoodIn wsX6_changes (wsV RX6 83 RX2 yX2_hasCard wsX2_hasCard) := goodIn_app (goodIn_of _ (by decide +kernel)) ggX6_changes_X2_hasCard
set_option maxRecDepth 20000 in
theorem ggX6_changes_X0_remember : GoodIn wsX6_changes wsX0_remember := goodIn_r _ [13, 14, 15, 16, 17, 18, 19, 20, 21, 22, 23, 6, 24, 25, 26, 8, 27, 28, 29, 30, 31, 32, 33, 67, 68, 69, 61, 62, 63, 64, 65, 66] (by decide +kernel) (by decide +kernel)
set_option maxRecDepth 20000 in
theorem gX6_changes_X0_remember : GoodIn wsX6_changes (wsV RX6 73 RX0 yX0_remember wsX0_remember) := goodIn_app (goodIn_of _ (by decide +kernel)) ggX6_changes_X0_remember
set_option maxRecDepth 20000 in
theorem ggX6_changes_X2_swap : GoodIn wsX6_changes wsX2_swap := goodIn_r _ [37, 33, 38, 4, 5, 6, 7, 8, 61, 62, 63, 64, 65, 66] (by decide +kernel) (by decide +kernel)
set_option maxRecDepth 20000 in
theorem gX6_changes_X2_swap : GoodIn wsX6_changes (wsV RX6 123 RX2 yX2_swap wsX2_swap) := goodIn_app (goodIn_of _ (by decide +kernel)) ggX6_changes_X2_swap
set_option maxRecDepth 20000 in
theorem ggX6_changes_X2_upEnds : GoodIn wsX6_changes wsX2_upEnds := goodIn_r _ [42, 26, 43, 44, 45, 6, 46, 8, 33, 28, 61, 62, 63, 64, 65, 66] (by decide +kernel) (by decide +kernel)
set_option maxRecDepth 20000 in
theorem gX6_changes_X2_upEnds : GoodIn wsX6_changes (wsV RX6 126 RX2 yX2_upEnds wsX2_upEnds) := goodIn_app (goodIn_of _ (by decide +kernel)) ggX6_changes_X2_upEnds
set_option maxRecDepth 20000 in
theorem ggX6_changes_J6_bitCount_0f7a4 : GoodIn wsX6_changes wsJ6_bitCount_0f7a4 := goodIn_r _ [50, 51, 52, 53] (by decide +kernel) (by decide +kernel)
set_option maxRecDepth 20000 in
theorem gX6_changes_J6_bitCount_0f7a4 : GoodIn wsX6_changes (va_wsS RX6 129 yJ6_bitCount_0f7a4 wsJ6_bitCount_0f7a4) := goodIn_app (goodIn_of _ (by decide +kernel)) ggX6_changes_J6_bitCount_0f7a4
theorem dX6_changes_0 : decode cX6_changes 0 = .ok (.aload_n 0, 1) := by decide +kernel
theorem dX6_changes_1 : decode cX6_changes 1 = .ok (.getfield 10, 3) := by decide +kernel
theorem dX6_changes_4 : decode cX6_changes 4 = .ok (.iload_n 1, 1) := by decide +kernel
theorem dX6_changes_5 : decode cX6_changes 5 = .ok (.invokevirtual 83, 3) := by decide +kernel
theorem dX6_changes_8 : decode cX6_changes 8 = .ok (.ifCond .eq 14, 3) := by decide +kernel
theorem dX6_changes_11 : decode cX6_changes 11 = .ok (.aload_n 0, 1) := by decide +kernel
theorem dX6_changes_12 : decode cX6_changes 12 = .ok (.getfield 10, 3) := by decide +kernel
theorem dX6_changes_15 : decode cX6_changes 15 = .ok (.iload_n 2, 1) := by decide +kernel
theorem dX6_changes_16 : decode cX6_changes 16 = .ok (.invokevirtual 83, 3) := by decide +kernel
theorem dX6_changes_19 : decode cX6_changes 19 = .ok (.ifCond .ne 5, 3) := by decide +kernel
theorem dX6_changes_22 : decode cX6_changes 22 = .ok (.iconst (-1), 1) := by decide +kernel
theorem dX6_changes_23 : decode cX6_changes 23 = .ok (.ireturn, 1) := by decide +kernel
theorem dX6_changes_24 : decode cX6_changes 24 = .ok (.iload_n 1, 1) := by decide +kernel
theorem dX6_changes_25 : decode cX6_changes 25 = .ok (.iload_n 2, 1) := by decide +kernel
theorem dX6_changes_26 : decode cX6_changes 26 = .ok (.if_icmp .ne 6, 3) := by decide +kernel
theorem dX6_changes_29 : decode cX6_changes 29 = .ok (.bipush (-2), 2) := by decide +kernel
theorem dX6_changes_31 : decode cX6_changes 31 = .ok (.ireturn, 1) := by decide +kernel
theorem dX6_changes_32 : decode cX6_changes 32 = .ok (.aload_n 0, 1) := by decide +kernel
theorem dX6_changes_33 : decode cX6_changes 33 = .ok (.getfield 26, 3) := by decide +kernel
theorem dX6_changes_36 : decode cX6_changes 36 = .ok (.aload_n 0, 1) := by decide +kernel
theorem dX6_changes_37 : decode cX6_changes 37 = .ok (.getfield 10, 3) := by decide +kernel
theorem dX6_changes_40 : decode cX6_changes 40 = .ok (.invokevirtual 73, 3) := by decide +kernel
theorem dX6_changes_43 : decode cX6_changes 43 = .ok (.aload_n 0, 1) := by decide +kernel
theorem dX6_changes_44 : decode cX6_changes 44 = .ok (.getfield 10, 3) := by decide +kernel
theorem dX6_changes_47 : decode cX6_changes 47 = .ok (.iload_n 1, 1) := by decide +kernel
theorem dX6_changes_48 : decode cX6_changes 48 = .ok (.iload_n 2, 1) := by decide +kernel
theorem dX6_changes_49 : decode cX6_changes 49 = .ok (.invokevirtual 123, 3) := by decide +kernel
theorem dX6_changes_52 : decode cX6_changes 52 = .ok (.aload_n 0, 1) := by decide +kernel
theorem dX6_changes_53 : decode cX6_changes 53 = .ok (.getfield 10, 3) := by decide +kernel
theorem dX6_changes_56 : decode cX6_changes 56 = .ok (.iload_n 1, 1) := by decide +kernel
theorem dX6_changes_57 : decode cX6_changes 57 = .ok (.invokevirtual 126, 3) := by decide +kernel
theorem dX6_changes_60 : decode cX6_changes 60 = .ok (.aload_n 0, 1) := by decide +kernel
theorem dX6_changes_61 : decode cX6_changes 61 = .ok (.getfield 10, 3) := by decide +kernel
theorem dX6_changes_64 : decode cX6_changes 64 = .ok (.iload_n 2, 1) := by decide +kernel
theorem dX6_changes_65 : decode cX6_changes 65 = .ok (.invokevirtual 126, 3) := by decide +kernel
theorem dX6_changes_68 : decode cX6_changes 68 = .ok (.ixor, 1) := by decide +kernel
theorem dX6_changes_69 : decode cX6_changes 69 = .ok (.invokestatic 129, 3) := by decide +kernel
theorem dX6_changes_72 : decode cX6_changes 72 = .ok (.ireturn, 1) := by decide +kernel
set_option maxRecDepth 20000 in
theorem ggX6_limits_X0_remember : GoodIn wsX6_limits wsX0_remember := goodIn_r _ [8, 9, 10, 11, 12, 13, 14, 15, 16, 17, 18, 19, 20, 21, 22, 23, 24, 25, 26, 27, 28, 29, 30, 44, 45, 46, 38, 39, 40, 41, 42, 43] (by decide +kernel) (by decide +kernel)
set_option maxRecDepth 20000 in
theorem gX6_limits_X0_remember : GoodIn wsX6_limits (wsV RX6 73 RX0 yX0_remember wsX0_remember) := goodIn_app (goodIn_of _ (by decide +kernel)) ggX6_limits_X0_remember
theorem dX6_limits_0 : decode cX6_limits 0 = .ok (.iload_n 1, 1) := by decide +kernel
theorem dX6_limits_1 : decode cX6_limits 1 = .ok (.iconst 1, 1) := by decide +kernel
theorem dX6_limits_2 : decode cX6_limits 2 = .ok (.if_icmp .lt 9, 3) := by decide +kernel
theorem dX6_limits_5 : decode cX6_limits 5 = .ok (.iload_n 1, 1) := by decide +kernel
theorem dX6_limits_6 : decode cX6_limits 6 = .ok (.bipush 12, 2) := by decide +kernel
theorem dX6_limits_8 : decode cX6_limits 8 = .ok (.if_icmp .le 5, 3) := by decide +kernel
theorem dX6_limits_11 : decode cX6_limits 11 = .ok (.iconst (-1), 1) := by decide +kernel
theorem dX6_limits_12 : decode cX6_limits 12 = .ok (.ireturn, 1) := by decide +kernel
theorem dX6_limits_13 : decode cX6_limits 13 = .ok (.aload_n 0, 1) := by decide +kernel
theorem dX6_limits_14 : decode cX6_limits 14 = .ok (.getfield 10, 3) := by decide +kernel
theorem dX6_limits_17 : decode cX6_limits 17 = .ok (.getfield 134, 3) := by decide +kernel
theorem dX6_limits_20 : decode cX6_limits 20 = .ok (.istore_n 2, 1) := by decide +kernel
theorem dX6_limits_21 : decode cX6_limits 21 = .ok (.iload_n 2, 1) := by decide +kernel
theorem dX6_limits_22 : decode cX6_limits 22 = .ok (.iload_n 1, 1) := by decide +kernel
theorem dX6_limits_23 : decode cX6_limits 23 = .ok (.if_icmp .ne 6, 3) := by decide +kernel
theorem dX6_limits_26 : decode cX6_limits 26 = .ok (.bipush (-2), 2) := by decide +kernel
theorem dX6_limits_28 : decode cX6_limits 28 = .ok (.ireturn, 1) := by decide +kernel
theorem dX6_limits_29 : decode cX6_limits 29 = .ok (.aload_n 0, 1) := by decide +kernel
theorem dX6_limits_30 : decode cX6_limits 30 = .ok (.getfield 26, 3) := by decide +kernel
theorem dX6_limits_33 : decode cX6_limits 33 = .ok (.aload_n 0, 1) := by decide +kernel
theorem dX6_limits_34 : decode cX6_limits 34 = .ok (.getfield 10, 3) := by decide +kernel
theorem dX6_limits_37 : decode cX6_limits 37 = .ok (.invokevirtual 73, 3) := by decide +kernel
theorem dX6_limits_40 : decode cX6_limits 40 = .ok (.aload_n 0, 1) := by decide +kernel
theorem dX6_limits_41 : decode cX6_limits 41 = .ok (.getfield 10, 3) := by decide +kernel
theorem dX6_limits_44 : decode cX6_limits 44 = .ok (.iload_n 1, 1) := by decide +kernel
theorem dX6_limits_45 : decode cX6_limits 45 = .ok (.putfield 134, 3) := by decide +kernel
theorem dX6_limits_48 : decode cX6_limits 48 = .ok (.iload_n 2, 1) := by decide +kernel
theorem dX6_limits_49 : decode cX6_limits 49 = .ok (.ireturn, 1) := by decide +kernel
