theorem dX7_isWord_35 : decode cX7_isWord 35 = .ok (.if_icmp .ne 70, 3) := by decide +kernel
theorem dX7_isWord_38 : decode cX7_isWord 38 = .ok (.aload_n 0, 1) := by decide +kernel
theorem dX7_isWord_39 : decode cX7_isWord 39 = .ok (.aload_n 0, 1) := by decide +kernel
theorem dX7_isWord_40 : decode cX7_isWord 40 = .ok (.getfield 51, 3) := by decide +kernel
theorem dX7_isWord_43 : decode cX7_isWord 43 = .ok (.iconst 1, 1) := by decide +kernel
theorem dX7_isWord_44 : decode cX7_isWord 44 = .ok (.iadd, 1) := by decide +kernel
theorem dX7_isWord_45 : decode cX7_isWord 45 = .ok (.invokevirtual 54, 3) := by decide +kernel
theorem dX7_isWord_48 : decode cX7_isWord 48 = .ok (.iload_n 2, 1) := by decide +kernel
theorem dX7_isWord_49 : decode cX7_isWord 49 = .ok (.if_icmp .ne 56, 3) := by decide +kernel
theorem dX7_isWord_52 : decode cX7_isWord 52 = .ok (.aload_n 0, 1) := by decide +kernel
theorem dX7_isWord_53 : decode cX7_isWord 53 = .ok (.aload_n 0, 1) := by decide +kernel
theorem dX7_isWord_54 : decode cX7_isWord 54 = .ok (.getfield 51, 3) := by decide +kernel
theorem dX7_isWord_57 : decode cX7_isWord 57 = .ok (.iconst 2, 1) := by decide +kernel
theorem dX7_isWord_58 : decode cX7_isWord 58 = .ok (.iadd, 1) := by decide +kernel
theorem dX7_isWord_59 : decode cX7_isWord 59 = .ok (.invokevirtual 54, 3) := by decide +kernel
theorem dX7_isWord_62 : decode cX7_isWord 62 = .ok (.iload_n 3, 1) := by decide +kernel
theorem dX7_isWord_63 : decode cX7_isWord 63 = .ok (.if_icmp .ne 42, 3) := by decide +kernel
theorem dX7_isWord_66 : decode cX7_isWord 66 = .ok (.aload_n 0, 1) := by decide +kernel
theorem dX7_isWord_67 : decode cX7_isWord 67 = .ok (.aload_n 0, 1) := by decide +kernel
theorem dX7_isWord_68 : decode cX7_isWord 68 = .ok (.getfield 51, 3) := by decide +kernel
theorem dX7_isWord_71 : decode cX7_isWord 71 = .ok (.iconst 3, 1) := by decide +kernel
theorem dX7_isWord_72 : decode cX7_isWord 72 = .ok (.iadd, 1) := by decide +kernel
theorem dX7_isWord_73 : decode cX7_isWord 73 = .ok (.invokevirtual 54, 3) := by decide +kernel
theorem dX7_isWord_76 : decode cX7_isWord 76 = .ok (.iload 4, 2) := by decide +kernel
theorem dX7_isWord_78 : decode cX7_isWord 78 = .ok (.if_icmp .ne 27, 3) := by decide +kernel
theorem dX7_isWord_81 : decode cX7_isWord 81 = .ok (.iload 5, 2) := by decide +kernel
theorem dX7_isWord_83 : decode cX7_isWord 83 = .ok (.ifCond .eq 18, 3) := by decide +kernel
theorem dX7_isWord_86 : decode cX7_isWord 86 = .ok (.aload_n 0, 1) := by decide +kernel
theorem dX7_isWord_87 : decode cX7_isWord 87 = .ok (.aload_n 0, 1) := by decide +kernel
theorem dX7_isWord_88 : decode cX7_isWord 88 = .ok (.getfield 51, 3) := by decide +kernel
theorem dX7_isWord_91 : decode cX7_isWord 91 = .ok (.iconst 4, 1) := by decide +kernel
theorem dX7_isWord_92 : decode cX7_isWord 92 = .ok (.iadd, 1) := by decide +kernel
theorem dX7_isWord_93 : decode cX7_isWord 93 = .ok (.invokevirtual 54, 3) := by decide +kernel
theorem dX7_isWord_96 : decode cX7_isWord 96 = .ok (.iload 5, 2) := by decide +kernel
theorem dX7_isWord_98 : decode cX7_isWord 98 = .ok (.if_icmp .ne 7, 3) := by decide +kernel
theorem dX7_isWord_101 : decode cX7_isWord 101 = .ok (.iconst 1, 1) := by decide +kernel
theorem dX7_isWord_102 : decode cX7_isWord 102 = .ok (.goto 4, 3) := by decide +kernel
theorem dX7_isWord_105 : decode cX7_isWord 105 = .ok (.iconst 0, 1) := by decide +kernel
theorem dX7_isWord_106 : decode cX7_isWord 106 = .ok (.ireturn, 1) := by decide +kernel
set_option maxRecDepth 20000 in
theorem ggX7_wordOf_X7_isWord : GoodIn wsX7_wordOf wsX7_isWord := goodIn_r _ [5, 6, 7, 8, 9, 10, 4, 11, 12, 13, 14, 15, 16, 17, 18, 19, 20, 21, 22, 23, 24, 25, 26, 27, 28, 29, 30, 31, 32] (by decide +kernel) (by decide +kernel)
set_option maxRecDepth 20000 in
theorem gX7_wordOf_X7_isWord : GoodIn wsX7_wordOf (wsV RX7 58 RX7 yX7_isWord wsX7_isWord) := goodIn_app (goodIn_of _ (by decide +kernel)) ggX7_wordOf_X7_isWord
theorem dX7_wordOf_0 : decode cX7_wordOf 0 = .ok (.aload_n 0, 1) := by decide +kernel
theorem dX7_wordOf_1 : decode cX7_wordOf 1 = .ok (.bipush 104, 2) := by decide +kernel
theorem dX7_wordOf_3 : decode cX7_wordOf 3 = .ok (.bipush 111, 2) := by decide +kernel
theorem dX7_wordOf_5 : decode cX7_wordOf 5 = .ok (.bipush 111, 2) := by decide +kernel
theorem dX7_wordOf_7 : decode cX7_wordOf 7 = .ok (.bipush 107, 2) := by decide +kernel
theorem dX7_wordOf_9 : decode cX7_wordOf 9 = .ok (.bipush 115, 2) := by decide +kernel
theorem dX7_wordOf_11 : decode cX7_wordOf 11 = .ok (.invokevirtual 58, 3) := by decide +kernel
theorem dX7_wordOf_14 : decode cX7_wordOf 14 = .ok (.ifCond .eq 5, 3) := by decide +kernel
theorem dX7_wordOf_17 : decode cX7_wordOf 17 = .ok (.iconst 1, 1) := by decide +kernel
theorem dX7_wordOf_18 : decode cX7_wordOf 18 = .ok (.ireturn, 1) := by decide +kernel
theorem dX7_wordOf_19 : decode cX7_wordOf 19 = .ok (.aload_n 0, 1) := by decide +kernel
theorem dX7_wordOf_20 : decode cX7_wordOf 20 = .ok (.bipush 116, 2) := by decide +kernel
theorem dX7_wordOf_22 : decode cX7_wordOf 22 = .ok (.bipush 105, 2) := by decide +kernel
theorem dX7_wordOf_24 : decode cX7_wordOf 24 = .ok (.bipush 101, 2) := by decide +kernel
theorem dX7_wordOf_26 : decode cX7_wordOf 26 = .ok (.bipush 115, 2) := by decide +kernel
theorem dX7_wordOf_28 : decode cX7_wordOf 28 = .ok (.iconst 0, 1) := by decide +kernel
theorem dX7_wordOf_29 : decode cX7_wordOf 29 = .ok (.invokevirtual 58, 3) := by decide +kernel
theorem dX7_wordOf_32 : decode cX7_wordOf 32 = .ok (.ifCond .eq 5, 3) := by decide +kernel
theorem dX7_wordOf_35 : decode cX7_wordOf 35 = .ok (.iconst 2, 1) := by decide +kernel
theorem dX7_wordOf_36 : decode cX7_wordOf 36 = .ok (.ireturn, 1) := by decide +kernel
theorem dX7_wordOf_37 : decode cX7_wordOf 37 = .ok (.aload_n 0, 1) := by decide +kernel
theorem dX7_wordOf_38 : decode cX7_wordOf 38 = .ok (.bipush 99, 2) := by decide +kernel
theorem dX7_wordOf_40 : decode cX7_wordOf 40 = .ok (.bipush 97, 2) := by decide +kernel
theorem dX7_wordOf_42 : decode cX7_wordOf 42 = .ok (.bipush 114, 2) := by decide +kernel
theorem dX7_wordOf_44 : decode cX7_wordOf 44 = .ok (.bipush 100, 2) := by decide +kernel
theorem dX7_wordOf_46 : decode cX7_wordOf 46 = .ok (.iconst 0, 1) := by decide +kernel
theorem dX7_wordOf_47 : decode cX7_wordOf 47 = .ok (.invokevirtual 58, 3) := by decide +kernel
theorem dX7_wordOf_50 : decode cX7_wordOf 50 = .ok (.ifCond .eq 5, 3) := by decide +kernel
theorem dX7_wordOf_53 : decode cX7_wordOf 53 = .ok (.iconst 3, 1) := by decide +kernel
theorem dX7_wordOf_54 : decode cX7_wordOf 54 = .ok (.ireturn, 1) := by decide +kernel
theorem dX7_wordOf_55 : decode cX7_wordOf 55 = .ok (.aload_n 0, 1) := by decide +kernel
theorem dX7_wordOf_56 : decode cX7_wordOf 56 = .ok (.bipush 99, 2) := by decide +kernel
theorem dX7_wordOf_58 : decode cX7_wordOf 58 = .ok (.bipush 108, 2) := by decide +kernel
theorem dX7_wordOf_60 : decode cX7_wordOf 60 = .ok (.bipush 111, 2) := by decide +kernel
theorem dX7_wordOf_62 : decode cX7_wordOf 62 = .ok (.bipush 116, 2) := by decide +kernel
theorem dX7_wordOf_64 : decode cX7_wordOf 64 = .ok (.bipush 104, 2) := by decide +kernel
theorem dX7_wordOf_66 : decode cX7_wordOf 66 = .ok (.invokevirtual 58, 3) := by decide +kernel
theorem dX7_wordOf_69 : decode cX7_wordOf 69 = .ok (.ifCond .eq 7, 3) := by decide +kernel
theorem dX7_wordOf_72 : decode cX7_wordOf 72 = .ok (.iconst 4, 1) := by decide +kernel
theorem dX7_wordOf_73 : decode cX7_wordOf 73 = .ok (.goto 26, 3) := by decide +kernel
theorem dX7_wordOf_76 : decode cX7_wordOf 76 = .ok (.aload_n 0, 1) := by decide +kernel
theorem dX7_wordOf_77 : decode cX7_wordOf 77 = .ok (.bipush 108, 2) := by decide +kernel
theorem dX7_wordOf_79 : decode cX7_wordOf 79 = .ok (.bipush 105, 2) := by decide +kernel
theorem dX7_wordOf_81 : decode cX7_wordOf 81 = .ok (.bipush 109, 2) := by decide +kernel
theorem dX7_wordOf_83 : decode cX7_wordOf 83 = .ok (.bipush 105, 2) := by decide +kernel
theorem dX7_wordOf_85 : decode cX7_wordOf 85 = .ok (.bipush 116, 2) := by decide +kernel
theorem dX7_wordOf_87 : decode cX7_wordOf 87 = .ok (.invokevirtual 58, 3) := by decide +kernel
theorem dX7_wordOf_90 : decode cX7_wordOf 90 = .ok (.ifCond .eq 7, 3) := by decide +kernel
theorem dX7_wordOf_93 : decode cX7_wordOf 93 = .ok (.iconst 5, 1) := by decide +kernel
theorem dX7_wordOf_94 : decode cX7_wordOf 94 = .ok (.goto 5, 3) := by decide +kernel
theorem dX7_wordOf_97 : decode cX7_wordOf 97 = .ok (.bipush 8, 2) := by decide +kernel
theorem dX7_wordOf_99 : decode cX7_wordOf 99 = .ok (.ireturn, 1) := by decide +kernel
set_option maxRecDepth 20000 in
theorem ggX7_steps_X7_at : GoodIn wsX7_steps wsX7_at := goodIn_r _ [8, 9, 10, 22, 23, 24, 25, 26, 27, 28, 29, 30, 31, 32, 33, 34, 35, 36, 37, 38, 39, 40] (by decide +kernel) (by decide +kernel)
set_option maxRecDepth 20000 in
theorem gX7_steps_X7_at : GoodIn wsX7_steps (wsV RX7 54 RX7 yX7_at wsX7_at) := goodIn_app (goodIn_of _ (by decide +kernel)) ggX7_steps_X7_at
set_option maxRecDepth 20000 in
theorem ggX7_steps_X7_in : GoodIn wsX7_steps wsX7_in := goodIn_r _ [13] (by decide +kernel) (by decide +kernel)
set_option maxRecDepth 20000 in
theorem gX7_steps_X7_in : GoodIn wsX7_steps (va_wsS RX7 41 yX7_in wsX7_in) := goodIn_app (goodIn_of _ (by decide +kernel)) ggX7_steps_X7_in
set_option maxRecDepth 20000 in
theorem ggX7_steps_X7_wordOf : GoodIn wsX7_steps wsX7_wordOf := goodIn_r _ [17, 18, 19, 20, 7, 21, 1, 2, 4, 5, 6, 8, 9, 10, 22, 23, 24, 25, 26, 27, 28, 29, 30, 31, 32, 33, 34, 35, 36, 37, 38, 39, 40] (by decide +kernel) (by decide +kernel)
set_option maxRecDepth 20000 in
theorem gX7_steps_X7_wordOf : GoodIn wsX7_steps (wsV RX7 65 RX7 yX7_wordOf wsX7_wordOf) := goodIn_app (goodIn_of _ (by decide +kernel)) ggX7_steps_X7_wordOf
theorem dX7_steps_0 : decode cX7_steps 0 = .ok (.aload_n 0, 1) := by decide +kernel
theorem dX7_steps_1 : decode cX7_steps 1 = .ok (.aload_n 0, 1) := by decide +kernel
theorem dX7_steps_2 : decode cX7_steps 2 = .ok (.getfield 48, 3) := by decide +kernel
theorem dX7_steps_5 : decode cX7_steps 5 = .ok (.putfield 51, 3) := by decide +kernel
theorem dX7_steps_8 : decode cX7_steps 8 = .ok (.aload_n 0, 1) := by decide +kernel
theorem dX7_steps_9 : decode cX7_steps 9 = .ok (.aload_n 0, 1) := by decide +kernel
theorem dX7_steps_10 : decode cX7_steps 10 = .ok (.getfield 51, 3) := by decide +kernel
theorem dX7_steps_13 : decode cX7_steps 13 = .ok (.invokevirtual 54, 3) := by decide +kernel
theorem dX7_steps_16 : decode cX7_steps 16 = .ok (.bipush 32, 2) := by decide +kernel
theorem dX7_steps_18 : decode cX7_steps 18 = .ok (.if_icmp .ne 16, 3) := by decide +kernel
theorem dX7_steps_21 : decode cX7_steps 21 = .ok (.aload_n 0, 1) := by decide +kernel
theorem dX7_steps_22 : decode cX7_steps 22 = .ok (.dup, 1) := by decide +kernel
theorem dX7_steps_23 : decode cX7_steps 23 = .ok (.getfield 51, 3) := by decide +kernel
theorem dX7_steps_26 : decode cX7_steps 26 = .ok (.iconst 1, 1) := by decide +kernel
theorem dX7_steps_27 : decode cX7_steps 27 = .ok (.iadd, 1) := by decide +kernel
theorem dX7_steps_28 : decode cX7_steps 28 = .ok (.putfield 51, 3) := by decide +kernel
theorem dX7_steps_31 : decode cX7_steps 31 = .ok (.goto (-23), 3) := by decide +kernel
theorem dX7_steps_34 : decode cX7_steps 34 = .ok (.aload_n 0, 1) := by decide +kernel
theorem dX7_steps_35 : decode cX7_steps 35 = .ok (.aload_n 0, 1) := by decide +kernel
theorem dX7_steps_36 : decode cX7_steps 36 = .ok (.getfield 51, 3) := by decide +kernel
theorem dX7_steps_39 : decode cX7_steps 39 = .ok (.putfield 48, 3) := by decide +kernel
theorem dX7_steps_42 : decode cX7_steps 42 = .ok (.aload_n 0, 1) := by decide +kernel
theorem dX7_steps_43 : decode cX7_steps 43 = .ok (.aload_n 0, 1) := by decide +kernel
theorem dX7_steps_44 : decode cX7_steps 44 = .ok (.getfield 48, 3) := by decide +kernel
theorem dX7_steps_47 : decode cX7_steps 47 = .ok (.invokevirtual 54, 3) := by decide +kernel
theorem dX7_steps_50 : decode cX7_steps 50 = .ok (.ifCond .ge 11, 3) := by decide +kernel
theorem dX7_steps_53 : decode cX7_steps 53 = .ok (.aload_n 0, 1) := by decide +kernel
theorem dX7_steps_54 : decode cX7_steps 54 = .ok (.iconst 0, 1) := by decide +kernel
theorem dX7_steps_55 : decode cX7_steps 55 = .ok (.putfield 62, 3) := by decide +kernel
theorem dX7_steps_58 : decode cX7_steps 58 = .ok (.goto 155, 3) := by decide +kernel
theorem dX7_steps_61 : decode cX7_steps 61 = .ok (.aload_n 0, 1) := by decide +kernel
theorem dX7_steps_62 : decode cX7_steps 62 = .ok (.aload_n 0, 1) := by decide +kernel
theorem dX7_steps_63 : decode cX7_steps 63 = .ok (.getfield 48, 3) := by decide +kernel
theorem dX7_steps_66 : decode cX7_steps 66 = .ok (.invokevirtual 54, 3) := by decide +kernel
theorem dX7_steps_69 : decode cX7_steps 69 = .ok (.bipush 48, 2) := by decide +kernel
theorem dX7_steps_71 : decode cX7_steps 71 = .ok (.bipush 57, 2) := by decide +kernel
theorem dX7_steps_73 : decode cX7_steps 73 = .ok (.invokestatic 41, 3) := by decide +kernel
theorem dX7_steps_76 : decode cX7_steps 76 = .ok (.ifCond .eq 43, 3) := by decide +kernel
theorem dX7_steps_79 : decode cX7_steps 79 = .ok (.aload_n 0, 1) := by decide +kernel
theorem dX7_steps_80 : decode cX7_steps 80 = .ok (.aload_n 0, 1) := by decide +kernel
theorem dX7_steps_81 : decode cX7_steps 81 = .ok (.getfield 48, 3) := by decide +kernel
theorem dX7_steps_84 : decode cX7_steps 84 = .ok (.invokevirtual 54, 3) := by decide +kernel
theorem dX7_steps_87 : decode cX7_steps 87 = .ok (.bipush 48, 2) := by decide +kernel
theorem dX7_steps_89 : decode cX7_steps 89 = .ok (.bipush 57, 2) := by decide +kernel
theorem dX7_steps_91 : decode cX7_steps 91 = .ok (.invokestatic 41, 3) := by decide +kernel
theorem dX7_steps_94 : decode cX7_steps 94 = .ok (.ifCond .eq 16, 3) := by decide +kernel
theorem dX7_steps_97 : decode cX7_steps 97 = .ok (.aload_n 0, 1) := by decide +kernel
theorem dX7_steps_98 : decode cX7_steps 98 = .ok (.dup, 1) := by decide +kernel
theorem dX7_steps_99 : decode cX7_steps 99 = .ok (.getfield 48, 3) := by decide +kernel
theorem dX7_steps_102 : decode cX7_steps 102 = .ok (.iconst 1, 1) := by decide +kernel
theorem dX7_steps_103 : decode cX7_steps 103 = .ok (.iadd, 1) := by decide +kernel
theorem dX7_steps_104 : decode cX7_steps 104 = .ok (.putfield 48, 3) := by decide +kernel
theorem dX7_steps_107 : decode cX7_steps 107 = .ok (.goto (-28), 3) := by decide +kernel
theorem dX7_steps_110 : decode cX7_steps 110 = .ok (.aload_n 0, 1) := by decide +kernel
theorem dX7_steps_111 : decode cX7_steps 111 = .ok (.bipush 6, 2) := by decide +kernel
theorem dX7_steps_113 : decode cX7_steps 113 = .ok (.putfield 62, 3) := by decide +kernel
theorem dX7_steps_116 : decode cX7_steps 116 = .ok (.goto 97, 3) := by decide +kernel
theorem dX7_steps_119 : decode cX7_steps 119 = .ok (.aload_n 0, 1) := by decide +kernel
theorem dX7_steps_120 : decode cX7_steps 120 = .ok (.aload_n 0, 1) := by decide +kernel
theorem dX7_steps_121 : decode cX7_steps 121 = .ok (.getfield 48, 3) := by decide +kernel
theorem dX7_steps_124 : decode cX7_steps 124 = .ok (.invokevirtual 54, 3) := by decide +kernel
theorem dX7_steps_127 : decode cX7_steps 127 = .ok (.bipush 97, 2) := by decide +kernel
theorem dX7_steps_129 : decode cX7_steps 129 = .ok (.bipush 122, 2) := by decide +kernel
theorem dX7_steps_131 : decode cX7_steps 131 = .ok (.invokestatic 41, 3) := by decide +kernel
theorem dX7_steps_134 : decode cX7_steps 134 = .ok (.ifCond .eq 45, 3) := by decide +kernel
theorem dX7_steps_137 : decode cX7_steps 137 = .ok (.aload_n 0, 1) := by decide +kernel
theorem dX7_steps_138 : decode cX7_steps 138 = .ok (.aload_n 0, 1) := by decide +kernel
theorem dX7_steps_139 : decode cX7_steps 139 = .ok (.getfield 48, 3) := by decide +kernel
theorem dX7_steps_142 : decode cX7_steps 142 = .ok (.invokevirtual 54, 3) := by decide +kernel
theorem dX7_steps_145 : decode cX7_steps 145 = .ok (.bipush 97, 2) := by decide +kernel
theorem dX7_steps_147 : decode cX7_steps 147 = .ok (.bipush 122, 2) := by decide +kernel
theorem dX7_steps_149 : decode cX7_steps 149 = .ok (.invokestatic 41, 3) := by decide +kernel
theorem dX7_steps_152 : decode cX7_steps 152 = .ok (.ifCond .eq 16, 3) := by decide +kernel
theorem dX7_steps_155 : decode cX7_steps 155 = .ok (.aload_n 0, 1) := by decide +kernel
theorem dX7_steps_156 : decode cX7_steps 156 = .ok (.dup, 1) := by decide +kernel
theorem dX7_steps_157 : decode cX7_steps 157 = .ok (.getfield 48, 3) := by decide +kernel
theorem dX7_steps_160 : decode cX7_steps 160 = .ok (.iconst 1, 1) := by decide +kernel
theorem dX7_steps_161 : decode cX7_steps 161 = .ok (.iadd, 1) := by decide +kernel
theorem dX7_steps_162 : decode cX7_steps 162 = .ok (.putfield 48, 3) := by decide +kernel
theorem dX7_steps_165 : decode cX7_steps 165 = .ok (.goto (-28), 3) := by decide +kernel
theorem dX7_steps_168 : decode cX7_steps 168 = .ok (.aload_n 0, 1) := by decide +kernel
theorem dX7_steps_169 : decode cX7_steps 169 = .ok (.aload_n 0, 1) := by decide +kernel
theorem dX7_steps_170 : decode cX7_steps 170 = .ok (.invokevirtual 65, 3) := by decide +kernel
theorem dX7_steps_173 : decode cX7_steps 173 = .ok (.putfield 62, 3) := by decide +kernel
theorem dX7_steps_176 : decode cX7_steps 176 = .ok (.goto 37, 3) := by decide +kernel
theorem dX7_steps_179 : decode cX7_steps 179 = .ok (.aload_n 0, 1) := by decide +kernel
theorem dX7_steps_180 : decode cX7_steps 180 = .ok (.aload_n 0, 1) := by decide +kernel
theorem dX7_steps_181 : decode cX7_steps 181 = .ok (.aload_n 0, 1) := by decide +kernel
theorem dX7_steps_182 : decode cX7_steps 182 = .ok (.getfield 48, 3) := by decide +kernel
theorem dX7_steps_185 : decode cX7_steps 185 = .ok (.invokevirtual 54, 3) := by decide +kernel
theorem dX7_steps_188 : decode cX7_steps 188 = .ok (.bipush 59, 2) := by decide +kernel
theorem dX7_steps_190 : decode cX7_steps 190 = .ok (.if_icmp .ne 8, 3) := by decide +kernel
theorem dX7_steps_193 : decode cX7_steps 193 = .ok (.bipush 7, 2) := by decide +kernel
theorem dX7_steps_195 : decode cX7_steps 195 = .ok (.goto 5, 3) := by decide +kernel
theorem dX7_steps_198 : decode cX7_steps 198 = .ok (.bipush 8, 2) := by decide +kernel
theorem dX7_steps_200 : decode cX7_steps 200 = .ok (.putfield 62, 3) := by decide +kernel
theorem dX7_steps_203 : decode cX7_steps 203 = .ok (.aload_n 0, 1) := by decide +kernel
theorem dX7_steps_204 : decode cX7_steps 204 = .ok (.dup, 1) := by decide +kernel
theorem dX7_steps_205 : decode cX7_steps 205 = .ok (.getfield 48, 3) := by decide +kernel
theorem dX7_steps_208 : decode cX7_steps 208 = .ok (.iconst 1, 1) := by decide +kernel
theorem dX7_steps_209 : decode cX7_steps 209 = .ok (.iadd, 1) := by decide +kernel
theorem dX7_steps_210 : decode cX7_steps 210 = .ok (.putfield 48, 3) := by decide +kernel
theorem dX7_steps_213 : decode cX7_steps 213 = .ok (.return_, 1) := by decide +kernel
set_option maxRecDepth 20000 in
theorem ggX7_takes_X7_steps : GoodIn wsX7_takes wsX7_steps := goodIn_r _ [7, 8, 2, 9, 10, 11, 12, 6, 13, 14, 15, 16, 17, 18, 19, 20, 21, 22, 23, 24, 25, 26, 27, 28, 29, 30, 31, 32, 33, 34, 35, 36, 37, 38, 39, 40, 41, 42, 43, 44, 45] (by decide +kernel) (by decide +kernel)
set_option maxRecDepth 20000 in
theorem gX7_takes_X7_steps : GoodIn wsX7_takes (wsV RX7 72 RX7 yX7_steps wsX7_steps) := goodIn_app (goodIn_of _ (by decide +kernel)) ggX7_takes_X7_steps
theorem dX7_takes_0 : decode cX7_takes 0 = .ok (.aload_n 0, 1) := by decide +kernel
theorem dX7_takes_1 : decode cX7_takes 1 = .ok (.getfield 69, 3) := by decide +kernel
theorem dX7_takes_4 : decode cX7_takes 4 = .ok (.bipush (-9), 2) := by decide +kernel
theorem dX7_takes_6 : decode cX7_takes 6 = .ok (.if_icmp .ne 22, 3) := by decide +kernel
theorem dX7_takes_9 : decode cX7_takes 9 = .ok (.iload_n 1, 1) := by decide +kernel
theorem dX7_takes_10 : decode cX7_takes 10 = .ok (.ifCond .eq 10, 3) := by decide +kernel
theorem dX7_takes_13 : decode cX7_takes 13 = .ok (.aload_n 0, 1) := by decide +kernel
theorem dX7_takes_14 : decode cX7_takes 14 = .ok (.invokevirtual 72, 3) := by decide +kernel
theorem dX7_takes_17 : decode cX7_takes 17 = .ok (.goto 11, 3) := by decide +kernel
theorem dX7_takes_20 : decode cX7_takes 20 = .ok (.aload_n 0, 1) := by decide +kernel
theorem dX7_takes_21 : decode cX7_takes 21 = .ok (.aload_n 0, 1) := by decide +kernel
theorem dX7_takes_22 : decode cX7_takes 22 = .ok (.getfield 51, 3) := by decide +kernel
theorem dX7_takes_25 : decode cX7_takes 25 = .ok (.putfield 69, 3) := by decide +kernel
theorem dX7_takes_28 : decode cX7_takes 28 = .ok (.return_, 1) := by decide +kernel
set_option maxRecDepth 20000 in
theorem ggX7_areFigures_X7_in : GoodIn wsX7_areFigures wsX7_in := goodIn_r _ [7] (by decide +kernel) (by decide +kernel)
set_option maxRecDepth 20000 in
theorem gX7_areFigures_X7_in : GoodIn wsX7_areFigures (va_wsS RX7 41 yX7_in wsX7_in) := goodIn_app (goodIn_of _ (by decide +kernel)) ggX7_areFigures_X7_in
set_option maxRecDepth 20000 in
theorem ggX7_areFigures_X7_at : GoodIn wsX7_areFigures wsX7_at := goodIn_r _ [11, 12, 13, 14, 15, 16, 17, 18, 19, 20, 21, 22, 23, 24, 25, 26, 27, 28, 29, 30, 31, 32] (by decide +kernel) (by decide +kernel)
set_option maxRecDepth 20000 in
theorem gX7_areFigures_X7_at : GoodIn wsX7_areFigures (wsV RX7 54 RX7 yX7_at wsX7_at) := goodIn_app (goodIn_of _ (by decide +kernel)) ggX7_areFigures_X7_at
theorem dX7_areFigures_0 : decode cX7_areFigures 0 = .ok (.aload_n 0, 1) := by decide +kernel
theorem dX7_areFigures_1 : decode cX7_areFigures 1 = .ok (.getfield 62, 3) := by decide +kernel
theorem dX7_areFigures_4 : decode cX7_areFigures 4 = .ok (.bipush 6, 2) := by decide +kernel
theorem dX7_areFigures_6 : decode cX7_areFigures 6 = .ok (.if_icmp .ne 24, 3) := by decide +kernel
theorem dX7_areFigures_9 : decode cX7_areFigures 9 = .ok (.aload_n 0, 1) := by decide +kernel
theorem dX7_areFigures_10 : decode cX7_areFigures 10 = .ok (.getfield 48, 3) := by decide +kernel
theorem dX7_areFigures_13 : decode cX7_areFigures 13 = .ok (.aload_n 0, 1) := by decide +kernel
theorem dX7_areFigures_14 : decode cX7_areFigures 14 = .ok (.getfield 51, 3) := by decide +kernel
theorem dX7_areFigures_17 : decode cX7_areFigures 17 = .ok (.isub, 1) := by decide +kernel
theorem dX7_areFigures_18 : decode cX7_areFigures 18 = .ok (.iload_n 1, 1) := by decide +kernel
theorem dX7_areFigures_19 : decode cX7_areFigures 19 = .ok (.iload_n 2, 1) := by decide +kernel
theorem dX7_areFigures_20 : decode cX7_areFigures 20 = .ok (.invokestatic 41, 3) := by decide +kernel
theorem dX7_areFigures_23 : decode cX7_areFigures 23 = .ok (.ifCond .eq 7, 3) := by decide +kernel
theorem dX7_areFigures_26 : decode cX7_areFigures 26 = .ok (.iconst 1, 1) := by decide +kernel
theorem dX7_areFigures_27 : decode cX7_areFigures 27 = .ok (.goto 4, 3) := by decide +kernel
theorem dX7_areFigures_30 : decode cX7_areFigures 30 = .ok (.iconst 0, 1) := by decide +kernel
theorem dX7_areFigures_31 : decode cX7_areFigures 31 = .ok (.istore 4, 2) := by decide +kernel
theorem dX7_areFigures_33 : decode cX7_areFigures 33 = .ok (.aload_n 0, 1) := by decide +kernel
theorem dX7_areFigures_34 : decode cX7_areFigures 34 = .ok (.getfield 51, 3) := by decide +kernel
theorem dX7_areFigures_37 : decode cX7_areFigures 37 = .ok (.istore 5, 2) := by decide +kernel
theorem dX7_areFigures_39 : decode cX7_areFigures 39 = .ok (.iload 5, 2) := by decide +kernel
theorem dX7_areFigures_41 : decode cX7_areFigures 41 = .ok (.aload_n 0, 1) := by decide +kernel
theorem dX7_areFigures_42 : decode cX7_areFigures 42 = .ok (.getfield 48, 3) := by decide +kernel
theorem dX7_areFigures_45 : decode cX7_areFigures 45 = .ok (.if_icmp .ge 34, 3) := by decide +kernel
theorem dX7_areFigures_48 : decode cX7_areFigures 48 = .ok (.iload 4, 2) := by decide +kernel
theorem dX7_areFigures_50 : decode cX7_areFigures 50 = .ok (.ifCond .eq 29, 3) := by decide +kernel
theorem dX7_areFigures_53 : decode cX7_areFigures 53 = .ok (.aload_n 0, 1) := by decide +kernel
theorem dX7_areFigures_54 : decode cX7_areFigures 54 = .ok (.iload 5, 2) := by decide +kernel
theorem dX7_areFigures_56 : decode cX7_areFigures 56 = .ok (.invokevirtual 54, 3) := by decide +kernel
theorem dX7_areFigures_59 : decode cX7_areFigures 59 = .ok (.bipush 48, 2) := by decide +kernel
theorem dX7_areFigures_61 : decode cX7_areFigures 61 = .ok (.isub, 1) := by decide +kernel
theorem dX7_areFigures_62 : decode cX7_areFigures 62 = .ok (.iload_n 3, 1) := by decide +kernel
theorem dX7_areFigures_63 : decode cX7_areFigures 63 = .ok (.if_icmp .ge 7, 3) := by decide +kernel
theorem dX7_areFigures_66 : decode cX7_areFigures 66 = .ok (.iconst 1, 1) := by decide +kernel
theorem dX7_areFigures_67 : decode cX7_areFigures 67 = .ok (.goto 4, 3) := by decide +kernel
theorem dX7_areFigures_70 : decode cX7_areFigures 70 = .ok (.iconst 0, 1) := by decide +kernel
theorem dX7_areFigures_71 : decode cX7_areFigures 71 = .ok (.istore 4, 2) := by decide +kernel
theorem dX7_areFigures_73 : decode cX7_areFigures 73 = .ok (.iinc 5 1, 3) := by decide +kernel
theorem dX7_areFigures_76 : decode cX7_areFigures 76 = .ok (.goto (-37), 3) := by decide +kernel
theorem dX7_areFigures_79 : decode cX7_areFigures 79 = .ok (.iload 4, 2) := by decide +kernel
theorem dX7_areFigures_81 : decode cX7_areFigures 81 = .ok (.ireturn, 1) := by decide +kernel
set_option maxRecDepth 20000 in
theorem ggX7_number_X7_at : GoodIn wsX7_number wsX7_at := goodIn_r _ [8, 9, 10, 31, 32, 33, 34, 35, 36, 37, 38, 39, 40, 41, 42, 43, 44, 45, 46, 47, 48, 49] (by decide +kernel) (by decide +kernel)
set_option maxRecDepth 20000 in
theorem gX7_number_X7_at : GoodIn wsX7_number (wsV RX7 54 RX7 yX7_at wsX7_at) := goodIn_app (goodIn_of _ (by decide +kernel)) ggX7_number_X7_at
set_option maxRecDepth 20000 in
theorem ggX7_number_X7_in : GoodIn wsX7_number wsX7_in := goodIn_r _ [13] (by decide +kernel) (by decide +kernel)
set_option maxRecDepth 20000 in
theorem gX7_number_X7_in : GoodIn wsX7_number (va_wsS RX7 41 yX7_in wsX7_in) := goodIn_app (goodIn_of _ (by decide +kernel)) ggX7_number_X7_in
set_option maxRecDepth 20000 in
theorem ggX7_number_X7_takes : GoodIn wsX7_number wsX7_takes := goodIn_r _ [17, 18, 2, 19, 20, 21, 7, 22, 1, 3, 4, 5, 6, 8, 9, 10, 11, 12, 13, 23, 24, 25, 26, 27, 28, 29, 30, 31, 32, 33, 34, 35, 36, 37, 38, 39, 40, 41, 42, 43, 44, 45, 46, 47, 48, 49] (by decide +kernel) (by decide +kernel)
set_option maxRecDepth 20000 in
theorem gX7_number_X7_takes : GoodIn wsX7_number (wsV RX7 75 RX7 yX7_takes wsX7_takes) := goodIn_app (goodIn_of _ (by decide +kernel)) ggX7_number_X7_takes
theorem dX7_number_0 : decode cX7_number 0 = .ok (.aload_n 0, 1) := by decide +kernel
theorem dX7_number_1 : decode cX7_number 1 = .ok (.getfield 48, 3) := by decide +kernel
theorem dX7_number_4 : decode cX7_number 4 = .ok (.aload_n 0, 1) := by decide +kernel
theorem dX7_number_5 : decode cX7_number 5 = .ok (.getfield 51, 3) := by decide +kernel
theorem dX7_number_8 : decode cX7_number 8 = .ok (.isub, 1) := by decide +kernel
theorem dX7_number_9 : decode cX7_number 9 = .ok (.istore_n 3, 1) := by decide +kernel
theorem dX7_number_10 : decode cX7_number 10 = .ok (.iload_n 3, 1) := by decide +kernel
theorem dX7_number_11 : decode cX7_number 11 = .ok (.iconst 1, 1) := by decide +kernel
theorem dX7_number_12 : decode cX7_number 12 = .ok (.if_icmp .ne 17, 3) := by decide +kernel
theorem dX7_number_15 : decode cX7_number 15 = .ok (.aload_n 0, 1) := by decide +kernel
theorem dX7_number_16 : decode cX7_number 16 = .ok (.aload_n 0, 1) := by decide +kernel
theorem dX7_number_17 : decode cX7_number 17 = .ok (.getfield 51, 3) := by decide +kernel
theorem dX7_number_20 : decode cX7_number 20 = .ok (.invokevirtual 54, 3) := by decide +kernel
theorem dX7_number_23 : decode cX7_number 23 = .ok (.bipush 48, 2) := by decide +kernel
theorem dX7_number_25 : decode cX7_number 25 = .ok (.isub, 1) := by decide +kernel
theorem dX7_number_26 : decode cX7_number 26 = .ok (.goto 31, 3) := by decide +kernel
theorem dX7_number_29 : decode cX7_number 29 = .ok (.bipush 10, 2) := by decide +kernel
theorem dX7_number_31 : decode cX7_number 31 = .ok (.aload_n 0, 1) := by decide +kernel
theorem dX7_number_32 : decode cX7_number 32 = .ok (.aload_n 0, 1) := by decide +kernel
theorem dX7_number_33 : decode cX7_number 33 = .ok (.getfield 51, 3) := by decide +kernel
theorem dX7_number_36 : decode cX7_number 36 = .ok (.invokevirtual 54, 3) := by decide +kernel
theorem dX7_number_39 : decode cX7_number 39 = .ok (.bipush 48, 2) := by decide +kernel
theorem dX7_number_41 : decode cX7_number 41 = .ok (.isub, 1) := by decide +kernel
theorem dX7_number_42 : decode cX7_number 42 = .ok (.imul, 1) := by decide +kernel
theorem dX7_number_43 : decode cX7_number 43 = .ok (.aload_n 0, 1) := by decide +kernel
theorem dX7_number_44 : decode cX7_number 44 = .ok (.aload_n 0, 1) := by decide +kernel
theorem dX7_number_45 : decode cX7_number 45 = .ok (.getfield 51, 3) := by decide +kernel
theorem dX7_number_48 : decode cX7_number 48 = .ok (.iconst 1, 1) := by decide +kernel
theorem dX7_number_49 : decode cX7_number 49 = .ok (.iadd, 1) := by decide +kernel
theorem dX7_number_50 : decode cX7_number 50 = .ok (.invokevirtual 54, 3) := by decide +kernel
theorem dX7_number_53 : decode cX7_number 53 = .ok (.iadd, 1) := by decide +kernel
theorem dX7_number_54 : decode cX7_number 54 = .ok (.bipush 48, 2) := by decide +kernel
theorem dX7_number_56 : decode cX7_number 56 = .ok (.isub, 1) := by decide +kernel
theorem dX7_number_57 : decode cX7_number 57 = .ok (.istore 4, 2) := by decide +kernel
theorem dX7_number_59 : decode cX7_number 59 = .ok (.aload_n 0, 1) := by decide +kernel
theorem dX7_number_60 : decode cX7_number 60 = .ok (.aload_n 0, 1) := by decide +kernel
theorem dX7_number_61 : decode cX7_number 61 = .ok (.getfield 62, 3) := by decide +kernel
theorem dX7_number_64 : decode cX7_number 64 = .ok (.bipush 6, 2) := by decide +kernel
theorem dX7_number_66 : decode cX7_number 66 = .ok (.if_icmp .ne 44, 3) := by decide +kernel
theorem dX7_number_69 : decode cX7_number 69 = .ok (.iload_n 3, 1) := by decide +kernel
theorem dX7_number_70 : decode cX7_number 70 = .ok (.iconst 1, 1) := by decide +kernel
theorem dX7_number_71 : decode cX7_number 71 = .ok (.iconst 2, 1) := by decide +kernel
theorem dX7_number_72 : decode cX7_number 72 = .ok (.invokestatic 41, 3) := by decide +kernel
theorem dX7_number_75 : decode cX7_number 75 = .ok (.ifCond .eq 35, 3) := by decide +kernel
theorem dX7_number_78 : decode cX7_number 78 = .ok (.iload_n 3, 1) := by decide +kernel
theorem dX7_number_79 : decode cX7_number 79 = .ok (.iconst 1, 1) := by decide +kernel
theorem dX7_number_80 : decode cX7_number 80 = .ok (.if_icmp .eq 16, 3) := by decide +kernel
theorem dX7_number_83 : decode cX7_number 83 = .ok (.aload_n 0, 1) := by decide +kernel
theorem dX7_number_84 : decode cX7_number 84 = .ok (.aload_n 0, 1) := by decide +kernel
theorem dX7_number_85 : decode cX7_number 85 = .ok (.getfield 51, 3) := by decide +kernel
theorem dX7_number_88 : decode cX7_number 88 = .ok (.invokevirtual 54, 3) := by decide +kernel
theorem dX7_number_91 : decode cX7_number 91 = .ok (.bipush 48, 2) := by decide +kernel
theorem dX7_number_93 : decode cX7_number 93 = .ok (.if_icmp .eq 17, 3) := by decide +kernel
theorem dX7_number_96 : decode cX7_number 96 = .ok (.iload 4, 2) := by decide +kernel
theorem dX7_number_98 : decode cX7_number 98 = .ok (.iload_n 1, 1) := by decide +kernel
theorem dX7_number_99 : decode cX7_number 99 = .ok (.iload_n 2, 1) := by decide +kernel
theorem dX7_number_100 : decode cX7_number 100 = .ok (.invokestatic 41, 3) := by decide +kernel
theorem dX7_number_103 : decode cX7_number 103 = .ok (.ifCond .eq 7, 3) := by decide +kernel
theorem dX7_number_106 : decode cX7_number 106 = .ok (.iconst 1, 1) := by decide +kernel
theorem dX7_number_107 : decode cX7_number 107 = .ok (.goto 4, 3) := by decide +kernel
theorem dX7_number_110 : decode cX7_number 110 = .ok (.iconst 0, 1) := by decide +kernel
theorem dX7_number_111 : decode cX7_number 111 = .ok (.invokevirtual 75, 3) := by decide +kernel
theorem dX7_number_114 : decode cX7_number 114 = .ok (.iload 4, 2) := by decide +kernel
theorem dX7_number_116 : decode cX7_number 116 = .ok (.ireturn, 1) := by decide +kernel
set_option maxRecDepth 20000 in
theorem ggX7_readsHooks_X7_takes : GoodIn wsX7_readsHooks wsX7_takes := goodIn_r _ [9, 4, 10, 11, 12, 13, 8, 14, 15, 16, 17, 18, 19, 20, 21, 22, 23, 24, 25, 26, 27, 28, 29, 30, 31, 32, 33, 38, 39, 40, 41, 42, 43, 44, 45, 46, 47, 48, 49, 50, 51, 52, 53, 54, 55, 56] (by decide +kernel) (by decide +kernel)
set_option maxRecDepth 20000 in
theorem gX7_readsHooks_X7_takes : GoodIn wsX7_readsHooks (wsV RX7 75 RX7 yX7_takes wsX7_takes) := goodIn_app (goodIn_of _ (by decide +kernel)) ggX7_readsHooks_X7_takes
set_option maxRecDepth 20000 in
theorem ggX7_readsHooks_X7_number : GoodIn wsX7_readsHooks wsX7_number := goodIn_r _ [37, 15, 10, 16, 17, 18, 19, 8, 20, 21, 22, 23, 24, 25, 5, 6, 7, 9, 4, 11, 12, 13, 14, 26, 27, 28, 29, 30, 31, 32, 33, 38, 39, 40, 41, 42, 43, 44, 45, 46, 47, 48, 49, 50, 51, 52, 53, 54, 55, 56] (by decide +kernel) (by decide +kernel)
set_option maxRecDepth 20000 in
theorem gX7_readsHooks_X7_number : GoodIn wsX7_readsHooks (wsV RX7 86 RX7 yX7_number wsX7_number) := goodIn_app (goodIn_of _ (by decide +kernel)) ggX7_readsHooks_X7_number
theorem dX7_readsHooks_0 : decode cX7_readsHooks 0 = .ok (.aload_n 0, 1) := by decide +kernel
theorem dX7_readsHooks_1 : decode cX7_readsHooks 1 = .ok (.aload_n 0, 1) := by decide +kernel
theorem dX7_readsHooks_2 : decode cX7_readsHooks 2 = .ok (.getfield 79, 3) := by decide +kernel
theorem dX7_readsHooks_5 : decode cX7_readsHooks 5 = .ok (.ifCond .ne 23, 3) := by decide +kernel
theorem dX7_readsHooks_8 : decode cX7_readsHooks 8 = .ok (.aload_n 0, 1) := by decide +kernel
theorem dX7_readsHooks_9 : decode cX7_readsHooks 9 = .ok (.getfield 83, 3) := by decide +kernel
theorem dX7_readsHooks_12 : decode cX7_readsHooks 12 = .ok (.ifCond .ne 16, 3) := by decide +kernel
theorem dX7_readsHooks_15 : decode cX7_readsHooks 15 = .ok (.aload_n 0, 1) := by decide +kernel
theorem dX7_readsHooks_16 : decode cX7_readsHooks 16 = .ok (.getfield 13, 3) := by decide +kernel
theorem dX7_readsHooks_19 : decode cX7_readsHooks 19 = .ok (.iconst 2, 1) := by decide +kernel
theorem dX7_readsHooks_20 : decode cX7_readsHooks 20 = .ok (.iaload, 1) := by decide +kernel
theorem dX7_readsHooks_21 : decode cX7_readsHooks 21 = .ok (.ifCond .ne 7, 3) := by decide +kernel
theorem dX7_readsHooks_24 : decode cX7_readsHooks 24 = .ok (.iconst 1, 1) := by decide +kernel
theorem dX7_readsHooks_25 : decode cX7_readsHooks 25 = .ok (.goto 4, 3) := by decide +kernel
theorem dX7_readsHooks_28 : decode cX7_readsHooks 28 = .ok (.iconst 0, 1) := by decide +kernel
theorem dX7_readsHooks_29 : decode cX7_readsHooks 29 = .ok (.invokevirtual 75, 3) := by decide +kernel
theorem dX7_readsHooks_32 : decode cX7_readsHooks 32 = .ok (.aload_n 0, 1) := by decide +kernel
theorem dX7_readsHooks_33 : decode cX7_readsHooks 33 = .ok (.iconst 1, 1) := by decide +kernel
theorem dX7_readsHooks_34 : decode cX7_readsHooks 34 = .ok (.putfield 79, 3) := by decide +kernel
theorem dX7_readsHooks_37 : decode cX7_readsHooks 37 = .ok (.aload_n 0, 1) := by decide +kernel
theorem dX7_readsHooks_38 : decode cX7_readsHooks 38 = .ok (.iconst 1, 1) := by decide +kernel
theorem dX7_readsHooks_39 : decode cX7_readsHooks 39 = .ok (.bipush 6, 2) := by decide +kernel
theorem dX7_readsHooks_41 : decode cX7_readsHooks 41 = .ok (.invokevirtual 86, 3) := by decide +kernel
theorem dX7_readsHooks_44 : decode cX7_readsHooks 44 = .ok (.istore_n 1, 1) := by decide +kernel
theorem dX7_readsHooks_45 : decode cX7_readsHooks 45 = .ok (.aload_n 0, 1) := by decide +kernel
theorem dX7_readsHooks_46 : decode cX7_readsHooks 46 = .ok (.getfield 69, 3) := by decide +kernel
theorem dX7_readsHooks_49 : decode cX7_readsHooks 49 = .ok (.bipush (-9), 2) := by decide +kernel
theorem dX7_readsHooks_51 : decode cX7_readsHooks 51 = .ok (.if_icmp .ne 26, 3) := by decide +kernel
theorem dX7_readsHooks_54 : decode cX7_readsHooks 54 = .ok (.aload_n 0, 1) := by decide +kernel
theorem dX7_readsHooks_55 : decode cX7_readsHooks 55 = .ok (.getfield 13, 3) := by decide +kernel
theorem dX7_readsHooks_58 : decode cX7_readsHooks 58 = .ok (.iconst 0, 1) := by decide +kernel
theorem dX7_readsHooks_59 : decode cX7_readsHooks 59 = .ok (.iload_n 1, 1) := by decide +kernel
theorem dX7_readsHooks_60 : decode cX7_readsHooks 60 = .ok (.iastore, 1) := by decide +kernel
theorem dX7_readsHooks_61 : decode cX7_readsHooks 61 = .ok (.aload_n 0, 1) := by decide +kernel
theorem dX7_readsHooks_62 : decode cX7_readsHooks 62 = .ok (.getfield 13, 3) := by decide +kernel
theorem dX7_readsHooks_65 : decode cX7_readsHooks 65 = .ok (.iconst 5, 1) := by decide +kernel
theorem dX7_readsHooks_66 : decode cX7_readsHooks 66 = .ok (.iload_n 1, 1) := by decide +kernel
theorem dX7_readsHooks_67 : decode cX7_readsHooks 67 = .ok (.iconst 1, 1) := by decide +kernel
theorem dX7_readsHooks_68 : decode cX7_readsHooks 68 = .ok (.if_icmp .ne 7, 3) := by decide +kernel
theorem dX7_readsHooks_71 : decode cX7_readsHooks 71 = .ok (.iconst 0, 1) := by decide +kernel
theorem dX7_readsHooks_72 : decode cX7_readsHooks 72 = .ok (.goto 4, 3) := by decide +kernel
theorem dX7_readsHooks_75 : decode cX7_readsHooks 75 = .ok (.iconst 1, 1) := by decide +kernel
theorem dX7_readsHooks_76 : decode cX7_readsHooks 76 = .ok (.iastore, 1) := by decide +kernel
theorem dX7_readsHooks_77 : decode cX7_readsHooks 77 = .ok (.return_, 1) := by decide +kernel
set_option maxRecDepth 20000 in
theorem ggX7_readsTies_X7_takes : GoodIn wsX7_readsTies wsX7_takes := goodIn_r _ [10, 3, 5, 11, 12, 13, 9, 14, 4, 15, 16, 17, 18, 19, 20, 21, 22, 23, 24, 25, 26, 27, 28, 29, 30, 31, 32, 37, 38, 39, 40, 41, 42, 43, 44, 45, 46, 47, 48, 49, 50, 51, 52, 53, 54, 55] (by decide +kernel) (by decide +kernel)
set_option maxRecDepth 20000 in
theorem gX7_readsTies_X7_takes : GoodIn wsX7_readsTies (wsV RX7 75 RX7 yX7_takes wsX7_takes) := goodIn_app (goodIn_of _ (by decide +kernel)) ggX7_readsTies_X7_takes
set_option maxRecDepth 20000 in
theorem ggX7_readsTies_X7_areFigures : GoodIn wsX7_readsTies wsX7_areFigures := goodIn_r _ [36, 15, 4, 5, 22, 23, 9, 24, 16, 17, 18, 19, 20, 21, 37, 38, 39, 40, 41, 42, 43, 44, 45, 46, 47, 48, 49, 50, 51, 52, 53, 54, 55] (by decide +kernel) (by decide +kernel)
set_option maxRecDepth 20000 in
theorem gX7_readsTies_X7_areFigures : GoodIn wsX7_readsTies (wsV RX7 90 RX7 yX7_areFigures wsX7_areFigures) := goodIn_app (goodIn_of _ (by decide +kernel)) ggX7_readsTies_X7_areFigures
set_option maxRecDepth 20000 in
theorem ggX7_readsTies_X7_at : GoodIn wsX7_readsTies wsX7_at := goodIn_r _ [19, 20, 21, 37, 38, 39, 40, 41, 42, 43, 44, 45, 46, 47, 48, 49, 50, 51, 52, 53, 54, 55] (by decide +kernel) (by decide +kernel)
set_option maxRecDepth 20000 in
theorem gX7_readsTies_X7_at : GoodIn wsX7_readsTies (wsV RX7 54 RX7 yX7_at wsX7_at) := goodIn_app (goodIn_of _ (by decide +kernel)) ggX7_readsTies_X7_at
theorem dX7_readsTies_0 : decode cX7_readsTies 0 = .ok (.aload_n 0, 1) := by decide +kernel
theorem dX7_readsTies_1 : decode cX7_readsTies 1 = .ok (.aload_n 0, 1) := by decide +kernel
theorem dX7_readsTies_2 : decode cX7_readsTies 2 = .ok (.getfield 83, 3) := by decide +kernel
theorem dX7_readsTies_5 : decode cX7_readsTies 5 = .ok (.ifCond .ne 16, 3) := by decide +kernel
theorem dX7_readsTies_8 : decode cX7_readsTies 8 = .ok (.aload_n 0, 1) := by decide +kernel
theorem dX7_readsTies_9 : decode cX7_readsTies 9 = .ok (.getfield 13, 3) := by decide +kernel
theorem dX7_readsTies_12 : decode cX7_readsTies 12 = .ok (.iconst 2, 1) := by decide +kernel
theorem dX7_readsTies_13 : decode cX7_readsTies 13 = .ok (.iaload, 1) := by decide +kernel
theorem dX7_readsTies_14 : decode cX7_readsTies 14 = .ok (.ifCond .ne 7, 3) := by decide +kernel
theorem dX7_readsTies_17 : decode cX7_readsTies 17 = .ok (.iconst 1, 1) := by decide +kernel
theorem dX7_readsTies_18 : decode cX7_readsTies 18 = .ok (.goto 4, 3) := by decide +kernel
theorem dX7_readsTies_21 : decode cX7_readsTies 21 = .ok (.iconst 0, 1) := by decide +kernel
theorem dX7_readsTies_22 : decode cX7_readsTies 22 = .ok (.invokevirtual 75, 3) := by decide +kernel
theorem dX7_readsTies_25 : decode cX7_readsTies 25 = .ok (.aload_n 0, 1) := by decide +kernel
theorem dX7_readsTies_26 : decode cX7_readsTies 26 = .ok (.iconst 1, 1) := by decide +kernel
theorem dX7_readsTies_27 : decode cX7_readsTies 27 = .ok (.putfield 83, 3) := by decide +kernel
theorem dX7_readsTies_30 : decode cX7_readsTies 30 = .ok (.aload_n 0, 1) := by decide +kernel
theorem dX7_readsTies_31 : decode cX7_readsTies 31 = .ok (.getfield 69, 3) := by decide +kernel
theorem dX7_readsTies_34 : decode cX7_readsTies 34 = .ok (.bipush (-9), 2) := by decide +kernel
theorem dX7_readsTies_36 : decode cX7_readsTies 36 = .ok (.if_icmp .ne 23, 3) := by decide +kernel
theorem dX7_readsTies_39 : decode cX7_readsTies 39 = .ok (.aload_n 0, 1) := by decide +kernel
theorem dX7_readsTies_40 : decode cX7_readsTies 40 = .ok (.iconst 1, 1) := by decide +kernel
theorem dX7_readsTies_41 : decode cX7_readsTies 41 = .ok (.bipush 12, 2) := by decide +kernel
theorem dX7_readsTies_43 : decode cX7_readsTies 43 = .ok (.aload_n 0, 1) := by decide +kernel
theorem dX7_readsTies_44 : decode cX7_readsTies 44 = .ok (.getfield 13, 3) := by decide +kernel
theorem dX7_readsTies_47 : decode cX7_readsTies 47 = .ok (.iconst 0, 1) := by decide +kernel
theorem dX7_readsTies_48 : decode cX7_readsTies 48 = .ok (.iaload, 1) := by decide +kernel
theorem dX7_readsTies_49 : decode cX7_readsTies 49 = .ok (.invokevirtual 90, 3) := by decide +kernel
theorem dX7_readsTies_52 : decode cX7_readsTies 52 = .ok (.ifCond .eq 7, 3) := by decide +kernel
theorem dX7_readsTies_55 : decode cX7_readsTies 55 = .ok (.iconst 1, 1) := by decide +kernel
theorem dX7_readsTies_56 : decode cX7_readsTies 56 = .ok (.goto 4, 3) := by decide +kernel
theorem dX7_readsTies_59 : decode cX7_readsTies 59 = .ok (.iconst 0, 1) := by decide +kernel
theorem dX7_readsTies_60 : decode cX7_readsTies 60 = .ok (.istore_n 1, 1) := by decide +kernel
theorem dX7_readsTies_61 : decode cX7_readsTies 61 = .ok (.iload_n 1, 1) := by decide +kernel
theorem dX7_readsTies_62 : decode cX7_readsTies 62 = .ok (.ifCond .eq 57, 3) := by decide +kernel
theorem dX7_readsTies_65 : decode cX7_readsTies 65 = .ok (.aload_n 0, 1) := by decide +kernel
theorem dX7_readsTies_66 : decode cX7_readsTies 66 = .ok (.getfield 13, 3) := by decide +kernel
theorem dX7_readsTies_69 : decode cX7_readsTies 69 = .ok (.iconst 1, 1) := by decide +kernel
theorem dX7_readsTies_70 : decode cX7_readsTies 70 = .ok (.aload_n 0, 1) := by decide +kernel
theorem dX7_readsTies_71 : decode cX7_readsTies 71 = .ok (.getfield 48, 3) := by decide +kernel
theorem dX7_readsTies_74 : decode cX7_readsTies 74 = .ok (.aload_n 0, 1) := by decide +kernel
theorem dX7_readsTies_75 : decode cX7_readsTies 75 = .ok (.getfield 51, 3) := by decide +kernel
theorem dX7_readsTies_78 : decode cX7_readsTies 78 = .ok (.isub, 1) := by decide +kernel
theorem dX7_readsTies_79 : decode cX7_readsTies 79 = .ok (.iastore, 1) := by decide +kernel
theorem dX7_readsTies_80 : decode cX7_readsTies 80 = .ok (.iconst 0, 1) := by decide +kernel
theorem dX7_readsTies_81 : decode cX7_readsTies 81 = .ok (.istore_n 2, 1) := by decide +kernel
theorem dX7_readsTies_82 : decode cX7_readsTies 82 = .ok (.iload_n 2, 1) := by decide +kernel
theorem dX7_readsTies_83 : decode cX7_readsTies 83 = .ok (.aload_n 0, 1) := by decide +kernel
theorem dX7_readsTies_84 : decode cX7_readsTies 84 = .ok (.getfield 13, 3) := by decide +kernel
theorem dX7_readsTies_87 : decode cX7_readsTies 87 = .ok (.iconst 1, 1) := by decide +kernel
theorem dX7_readsTies_88 : decode cX7_readsTies 88 = .ok (.iaload, 1) := by decide +kernel
theorem dX7_readsTies_89 : decode cX7_readsTies 89 = .ok (.if_icmp .ge 30, 3) := by decide +kernel
theorem dX7_readsTies_92 : decode cX7_readsTies 92 = .ok (.aload_n 0, 1) := by decide +kernel
theorem dX7_readsTies_93 : decode cX7_readsTies 93 = .ok (.getfield 13, 3) := by decide +kernel
theorem dX7_readsTies_96 : decode cX7_readsTies 96 = .ok (.iconst 4, 1) := by decide +kernel
theorem dX7_readsTies_97 : decode cX7_readsTies 97 = .ok (.iload_n 2, 1) := by decide +kernel
theorem dX7_readsTies_98 : decode cX7_readsTies 98 = .ok (.iadd, 1) := by decide +kernel
theorem dX7_readsTies_99 : decode cX7_readsTies 99 = .ok (.aload_n 0, 1) := by decide +kernel
theorem dX7_readsTies_100 : decode cX7_readsTies 100 = .ok (.aload_n 0, 1) := by decide +kernel
theorem dX7_readsTies_101 : decode cX7_readsTies 101 = .ok (.getfield 51, 3) := by decide +kernel
theorem dX7_readsTies_104 : decode cX7_readsTies 104 = .ok (.iload_n 2, 1) := by decide +kernel
theorem dX7_readsTies_105 : decode cX7_readsTies 105 = .ok (.iadd, 1) := by decide +kernel
theorem dX7_readsTies_106 : decode cX7_readsTies 106 = .ok (.invokevirtual 54, 3) := by decide +kernel
theorem dX7_readsTies_109 : decode cX7_readsTies 109 = .ok (.bipush 48, 2) := by decide +kernel
theorem dX7_readsTies_111 : decode cX7_readsTies 111 = .ok (.isub, 1) := by decide +kernel
theorem dX7_readsTies_112 : decode cX7_readsTies 112 = .ok (.iastore, 1) := by decide +kernel
theorem dX7_readsTies_113 : decode cX7_readsTies 113 = .ok (.iinc 2 1, 3) := by decide +kernel
theorem dX7_readsTies_116 : decode cX7_readsTies 116 = .ok (.goto (-34), 3) := by decide +kernel
theorem dX7_readsTies_119 : decode cX7_readsTies 119 = .ok (.aload_n 0, 1) := by decide +kernel
theorem dX7_readsTies_120 : decode cX7_readsTies 120 = .ok (.iload_n 1, 1) := by decide +kernel
theorem dX7_readsTies_121 : decode cX7_readsTies 121 = .ok (.invokevirtual 75, 3) := by decide +kernel
theorem dX7_readsTies_124 : decode cX7_readsTies 124 = .ok (.return_, 1) := by decide +kernel
set_option maxRecDepth 20000 in
theorem ggX7_readsCard_X7_takes : GoodIn wsX7_readsCard wsX7_takes := goodIn_r _ [8, 2, 3, 9, 10, 11, 7, 12, 13, 14, 15, 16, 17, 18, 19, 20, 21, 22, 23, 24, 25, 26, 27, 28, 29, 30, 31, 36, 37, 38, 39, 40, 41, 42, 43, 44, 45, 46, 47, 48, 49, 50, 51, 52, 53, 54] (by decide +kernel) (by decide +kernel)
set_option maxRecDepth 20000 in
theorem gX7_readsCard_X7_takes : GoodIn wsX7_readsCard (wsV RX7 75 RX7 yX7_takes wsX7_takes) := goodIn_app (goodIn_of _ (by decide +kernel)) ggX7_readsCard_X7_takes
set_option maxRecDepth 20000 in
theorem ggX7_readsCard_X7_areFigures : GoodIn wsX7_readsCard wsX7_areFigures := goodIn_r _ [35, 14, 13, 3, 21, 22, 7, 23, 15, 16, 17, 18, 19, 20, 36, 37, 38, 39, 40, 41, 42, 43, 44, 45, 46, 47, 48, 49, 50, 51, 52, 53, 54] (by decide +kernel) (by decide +kernel)
set_option maxRecDepth 20000 in
theorem gX7_readsCard_X7_areFigures : GoodIn wsX7_readsCard (wsV RX7 90 RX7 yX7_areFigures wsX7_areFigures) := goodIn_app (goodIn_of _ (by decide +kernel)) ggX7_readsCard_X7_areFigures
set_option maxRecDepth 20000 in
theorem ggX7_readsCard_X7_at : GoodIn wsX7_readsCard wsX7_at := goodIn_r _ [18, 19, 20, 36, 37, 38, 39, 40, 41, 42, 43, 44, 45, 46, 47, 48, 49, 50, 51, 52, 53, 54] (by decide +kernel) (by decide +kernel)
set_option maxRecDepth 20000 in
theorem gX7_readsCard_X7_at : GoodIn wsX7_readsCard (wsV RX7 54 RX7 yX7_at wsX7_at) := goodIn_app (goodIn_of _ (by decide +kernel)) ggX7_readsCard_X7_at
theorem dX7_readsCard_0 : decode cX7_readsCard 0 = .ok (.aload_n 0, 1) := by decide +kernel
theorem dX7_readsCard_1 : decode cX7_readsCard 1 = .ok (.aload_n 0, 1) := by decide +kernel
theorem dX7_readsCard_2 : decode cX7_readsCard 2 = .ok (.getfield 13, 3) := by decide +kernel
theorem dX7_readsCard_5 : decode cX7_readsCard 5 = .ok (.iconst 2, 1) := by decide +kernel
theorem dX7_readsCard_6 : decode cX7_readsCard 6 = .ok (.iaload, 1) := by decide +kernel
theorem dX7_readsCard_7 : decode cX7_readsCard 7 = .ok (.bipush 8, 2) := by decide +kernel
theorem dX7_readsCard_9 : decode cX7_readsCard 9 = .ok (.if_icmp .ge 7, 3) := by decide +kernel
theorem dX7_readsCard_12 : decode cX7_readsCard 12 = .ok (.iconst 1, 1) := by decide +kernel
theorem dX7_readsCard_13 : decode cX7_readsCard 13 = .ok (.goto 4, 3) := by decide +kernel
theorem dX7_readsCard_16 : decode cX7_readsCard 16 = .ok (.iconst 0, 1) := by decide +kernel
theorem dX7_readsCard_17 : decode cX7_readsCard 17 = .ok (.invokevirtual 75, 3) := by decide +kernel
theorem dX7_readsCard_20 : decode cX7_readsCard 20 = .ok (.aload_n 0, 1) := by decide +kernel
theorem dX7_readsCard_21 : decode cX7_readsCard 21 = .ok (.getfield 69, 3) := by decide +kernel
theorem dX7_readsCard_24 : decode cX7_readsCard 24 = .ok (.bipush (-9), 2) := by decide +kernel
theorem dX7_readsCard_26 : decode cX7_readsCard 26 = .ok (.if_icmp .ne 27, 3) := by decide +kernel
theorem dX7_readsCard_29 : decode cX7_readsCard 29 = .ok (.aload_n 0, 1) := by decide +kernel
theorem dX7_readsCard_30 : decode cX7_readsCard 30 = .ok (.aload_n 0, 1) := by decide +kernel
theorem dX7_readsCard_31 : decode cX7_readsCard 31 = .ok (.getfield 13, 3) := by decide +kernel
theorem dX7_readsCard_34 : decode cX7_readsCard 34 = .ok (.iconst 0, 1) := by decide +kernel
theorem dX7_readsCard_35 : decode cX7_readsCard 35 = .ok (.iaload, 1) := by decide +kernel
theorem dX7_readsCard_36 : decode cX7_readsCard 36 = .ok (.aload_n 0, 1) := by decide +kernel
theorem dX7_readsCard_37 : decode cX7_readsCard 37 = .ok (.getfield 13, 3) := by decide +kernel
theorem dX7_readsCard_40 : decode cX7_readsCard 40 = .ok (.iconst 0, 1) := by decide +kernel
theorem dX7_readsCard_41 : decode cX7_readsCard 41 = .ok (.iaload, 1) := by decide +kernel
theorem dX7_readsCard_42 : decode cX7_readsCard 42 = .ok (.iconst 2, 1) := by decide +kernel
theorem dX7_readsCard_43 : decode cX7_readsCard 43 = .ok (.invokevirtual 90, 3) := by decide +kernel
theorem dX7_readsCard_46 : decode cX7_readsCard 46 = .ok (.ifCond .eq 7, 3) := by decide +kernel
theorem dX7_readsCard_49 : decode cX7_readsCard 49 = .ok (.iconst 1, 1) := by decide +kernel
theorem dX7_readsCard_50 : decode cX7_readsCard 50 = .ok (.goto 4, 3) := by decide +kernel
theorem dX7_readsCard_53 : decode cX7_readsCard 53 = .ok (.iconst 0, 1) := by decide +kernel
theorem dX7_readsCard_54 : decode cX7_readsCard 54 = .ok (.istore_n 1, 1) := by decide +kernel
theorem dX7_readsCard_55 : decode cX7_readsCard 55 = .ok (.iload_n 1, 1) := by decide +kernel
theorem dX7_readsCard_56 : decode cX7_readsCard 56 = .ok (.ifCond .eq 66, 3) := by decide +kernel
theorem dX7_readsCard_59 : decode cX7_readsCard 59 = .ok (.iconst 0, 1) := by decide +kernel
theorem dX7_readsCard_60 : decode cX7_readsCard 60 = .ok (.istore_n 2, 1) := by decide +kernel
