theorem dX7_readsCard_61 : decode cX7_readsCard 61 = .ok (.iconst 0, 1) := by decide +kernel
theorem dX7_readsCard_62 : decode cX7_readsCard 62 = .ok (.istore_n 3, 1) := by decide +kernel
theorem dX7_readsCard_63 : decode cX7_readsCard 63 = .ok (.iload_n 3, 1) := by decide +kernel
theorem dX7_readsCard_64 : decode cX7_readsCard 64 = .ok (.aload_n 0, 1) := by decide +kernel
theorem dX7_readsCard_65 : decode cX7_readsCard 65 = .ok (.getfield 13, 3) := by decide +kernel
theorem dX7_readsCard_68 : decode cX7_readsCard 68 = .ok (.iconst 0, 1) := by decide +kernel
theorem dX7_readsCard_69 : decode cX7_readsCard 69 = .ok (.iaload, 1) := by decide +kernel
theorem dX7_readsCard_70 : decode cX7_readsCard 70 = .ok (.if_icmp .ge 27, 3) := by decide +kernel
theorem dX7_readsCard_73 : decode cX7_readsCard 73 = .ok (.iload_n 2, 1) := by decide +kernel
theorem dX7_readsCard_74 : decode cX7_readsCard 74 = .ok (.aload_n 0, 1) := by decide +kernel
theorem dX7_readsCard_75 : decode cX7_readsCard 75 = .ok (.aload_n 0, 1) := by decide +kernel
theorem dX7_readsCard_76 : decode cX7_readsCard 76 = .ok (.getfield 51, 3) := by decide +kernel
theorem dX7_readsCard_79 : decode cX7_readsCard 79 = .ok (.iload_n 3, 1) := by decide +kernel
theorem dX7_readsCard_80 : decode cX7_readsCard 80 = .ok (.iadd, 1) := by decide +kernel
theorem dX7_readsCard_81 : decode cX7_readsCard 81 = .ok (.invokevirtual 54, 3) := by decide +kernel
theorem dX7_readsCard_84 : decode cX7_readsCard 84 = .ok (.bipush 48, 2) := by decide +kernel
theorem dX7_readsCard_86 : decode cX7_readsCard 86 = .ok (.isub, 1) := by decide +kernel
theorem dX7_readsCard_87 : decode cX7_readsCard 87 = .ok (.iload_n 3, 1) := by decide +kernel
theorem dX7_readsCard_88 : decode cX7_readsCard 88 = .ok (.ishl, 1) := by decide +kernel
theorem dX7_readsCard_89 : decode cX7_readsCard 89 = .ok (.ior, 1) := by decide +kernel
theorem dX7_readsCard_90 : decode cX7_readsCard 90 = .ok (.istore_n 2, 1) := by decide +kernel
theorem dX7_readsCard_91 : decode cX7_readsCard 91 = .ok (.iinc 3 1, 3) := by decide +kernel
theorem dX7_readsCard_94 : decode cX7_readsCard 94 = .ok (.goto (-31), 3) := by decide +kernel
theorem dX7_readsCard_97 : decode cX7_readsCard 97 = .ok (.aload_n 0, 1) := by decide +kernel
theorem dX7_readsCard_98 : decode cX7_readsCard 98 = .ok (.getfield 13, 3) := by decide +kernel
theorem dX7_readsCard_101 : decode cX7_readsCard 101 = .ok (.bipush 16, 2) := by decide +kernel
theorem dX7_readsCard_103 : decode cX7_readsCard 103 = .ok (.aload_n 0, 1) := by decide +kernel
theorem dX7_readsCard_104 : decode cX7_readsCard 104 = .ok (.getfield 13, 3) := by decide +kernel
theorem dX7_readsCard_107 : decode cX7_readsCard 107 = .ok (.iconst 2, 1) := by decide +kernel
theorem dX7_readsCard_108 : decode cX7_readsCard 108 = .ok (.iaload, 1) := by decide +kernel
theorem dX7_readsCard_109 : decode cX7_readsCard 109 = .ok (.iadd, 1) := by decide +kernel
theorem dX7_readsCard_110 : decode cX7_readsCard 110 = .ok (.iload_n 2, 1) := by decide +kernel
theorem dX7_readsCard_111 : decode cX7_readsCard 111 = .ok (.iastore, 1) := by decide +kernel
theorem dX7_readsCard_112 : decode cX7_readsCard 112 = .ok (.aload_n 0, 1) := by decide +kernel
theorem dX7_readsCard_113 : decode cX7_readsCard 113 = .ok (.getfield 13, 3) := by decide +kernel
theorem dX7_readsCard_116 : decode cX7_readsCard 116 = .ok (.iconst 2, 1) := by decide +kernel
theorem dX7_readsCard_117 : decode cX7_readsCard 117 = .ok (.dup2, 1) := by decide +kernel
theorem dX7_readsCard_118 : decode cX7_readsCard 118 = .ok (.iaload, 1) := by decide +kernel
theorem dX7_readsCard_119 : decode cX7_readsCard 119 = .ok (.iconst 1, 1) := by decide +kernel
theorem dX7_readsCard_120 : decode cX7_readsCard 120 = .ok (.iadd, 1) := by decide +kernel
theorem dX7_readsCard_121 : decode cX7_readsCard 121 = .ok (.iastore, 1) := by decide +kernel
theorem dX7_readsCard_122 : decode cX7_readsCard 122 = .ok (.aload_n 0, 1) := by decide +kernel
theorem dX7_readsCard_123 : decode cX7_readsCard 123 = .ok (.iload_n 1, 1) := by decide +kernel
theorem dX7_readsCard_124 : decode cX7_readsCard 124 = .ok (.invokevirtual 75, 3) := by decide +kernel
theorem dX7_readsCard_127 : decode cX7_readsCard 127 = .ok (.return_, 1) := by decide +kernel
set_option maxRecDepth 20000 in
theorem ggX7_readsCloth_X7_takes : GoodIn wsX7_readsCloth wsX7_takes := goodIn_r _ [8, 2, 3, 9, 10, 11, 7, 12, 13, 14, 15, 16, 17, 18, 19, 20, 21, 22, 23, 24, 25, 26, 27, 28, 29, 30, 31, 36, 37, 38, 39, 40, 41, 42, 43, 44, 45, 46, 47, 48, 49, 50, 51, 52, 53, 54] (by decide +kernel) (by decide +kernel)
set_option maxRecDepth 20000 in
theorem gX7_readsCloth_X7_takes : GoodIn wsX7_readsCloth (wsV RX7 75 RX7 yX7_takes wsX7_takes) := goodIn_app (goodIn_of _ (by decide +kernel)) ggX7_readsCloth_X7_takes
set_option maxRecDepth 20000 in
theorem ggX7_readsCloth_X7_areFigures : GoodIn wsX7_readsCloth wsX7_areFigures := goodIn_r _ [35, 14, 13, 3, 21, 22, 7, 23, 15, 16, 17, 18, 19, 20, 36, 37, 38, 39, 40, 41, 42, 43, 44, 45, 46, 47, 48, 49, 50, 51, 52, 53, 54] (by decide +kernel) (by decide +kernel)
set_option maxRecDepth 20000 in
theorem gX7_readsCloth_X7_areFigures : GoodIn wsX7_readsCloth (wsV RX7 90 RX7 yX7_areFigures wsX7_areFigures) := goodIn_app (goodIn_of _ (by decide +kernel)) ggX7_readsCloth_X7_areFigures
set_option maxRecDepth 20000 in
theorem ggX7_readsCloth_X7_at : GoodIn wsX7_readsCloth wsX7_at := goodIn_r _ [18, 19, 20, 36, 37, 38, 39, 40, 41, 42, 43, 44, 45, 46, 47, 48, 49, 50, 51, 52, 53, 54] (by decide +kernel) (by decide +kernel)
set_option maxRecDepth 20000 in
theorem gX7_readsCloth_X7_at : GoodIn wsX7_readsCloth (wsV RX7 54 RX7 yX7_at wsX7_at) := goodIn_app (goodIn_of _ (by decide +kernel)) ggX7_readsCloth_X7_at
theorem dX7_readsCloth_0 : decode cX7_readsCloth 0 = .ok (.aload_n 0, 1) := by decide +kernel
theorem dX7_readsCloth_1 : decode cX7_readsCloth 1 = .ok (.aload_n 0, 1) := by decide +kernel
theorem dX7_readsCloth_2 : decode cX7_readsCloth 2 = .ok (.getfield 13, 3) := by decide +kernel
theorem dX7_readsCloth_5 : decode cX7_readsCloth 5 = .ok (.iconst 2, 1) := by decide +kernel
theorem dX7_readsCloth_6 : decode cX7_readsCloth 6 = .ok (.iaload, 1) := by decide +kernel
theorem dX7_readsCloth_7 : decode cX7_readsCloth 7 = .ok (.bipush 8, 2) := by decide +kernel
theorem dX7_readsCloth_9 : decode cX7_readsCloth 9 = .ok (.if_icmp .ge 7, 3) := by decide +kernel
theorem dX7_readsCloth_12 : decode cX7_readsCloth 12 = .ok (.iconst 1, 1) := by decide +kernel
theorem dX7_readsCloth_13 : decode cX7_readsCloth 13 = .ok (.goto 4, 3) := by decide +kernel
theorem dX7_readsCloth_16 : decode cX7_readsCloth 16 = .ok (.iconst 0, 1) := by decide +kernel
theorem dX7_readsCloth_17 : decode cX7_readsCloth 17 = .ok (.invokevirtual 75, 3) := by decide +kernel
theorem dX7_readsCloth_20 : decode cX7_readsCloth 20 = .ok (.aload_n 0, 1) := by decide +kernel
theorem dX7_readsCloth_21 : decode cX7_readsCloth 21 = .ok (.getfield 69, 3) := by decide +kernel
theorem dX7_readsCloth_24 : decode cX7_readsCloth 24 = .ok (.bipush (-9), 2) := by decide +kernel
theorem dX7_readsCloth_26 : decode cX7_readsCloth 26 = .ok (.if_icmp .ne 27, 3) := by decide +kernel
theorem dX7_readsCloth_29 : decode cX7_readsCloth 29 = .ok (.aload_n 0, 1) := by decide +kernel
theorem dX7_readsCloth_30 : decode cX7_readsCloth 30 = .ok (.aload_n 0, 1) := by decide +kernel
theorem dX7_readsCloth_31 : decode cX7_readsCloth 31 = .ok (.getfield 13, 3) := by decide +kernel
theorem dX7_readsCloth_34 : decode cX7_readsCloth 34 = .ok (.iconst 1, 1) := by decide +kernel
theorem dX7_readsCloth_35 : decode cX7_readsCloth 35 = .ok (.iaload, 1) := by decide +kernel
theorem dX7_readsCloth_36 : decode cX7_readsCloth 36 = .ok (.aload_n 0, 1) := by decide +kernel
theorem dX7_readsCloth_37 : decode cX7_readsCloth 37 = .ok (.getfield 13, 3) := by decide +kernel
theorem dX7_readsCloth_40 : decode cX7_readsCloth 40 = .ok (.iconst 1, 1) := by decide +kernel
theorem dX7_readsCloth_41 : decode cX7_readsCloth 41 = .ok (.iaload, 1) := by decide +kernel
theorem dX7_readsCloth_42 : decode cX7_readsCloth 42 = .ok (.iconst 2, 1) := by decide +kernel
theorem dX7_readsCloth_43 : decode cX7_readsCloth 43 = .ok (.invokevirtual 90, 3) := by decide +kernel
theorem dX7_readsCloth_46 : decode cX7_readsCloth 46 = .ok (.ifCond .eq 7, 3) := by decide +kernel
theorem dX7_readsCloth_49 : decode cX7_readsCloth 49 = .ok (.iconst 1, 1) := by decide +kernel
theorem dX7_readsCloth_50 : decode cX7_readsCloth 50 = .ok (.goto 4, 3) := by decide +kernel
theorem dX7_readsCloth_53 : decode cX7_readsCloth 53 = .ok (.iconst 0, 1) := by decide +kernel
theorem dX7_readsCloth_54 : decode cX7_readsCloth 54 = .ok (.istore_n 1, 1) := by decide +kernel
theorem dX7_readsCloth_55 : decode cX7_readsCloth 55 = .ok (.iconst 0, 1) := by decide +kernel
theorem dX7_readsCloth_56 : decode cX7_readsCloth 56 = .ok (.istore_n 2, 1) := by decide +kernel
theorem dX7_readsCloth_57 : decode cX7_readsCloth 57 = .ok (.iconst 0, 1) := by decide +kernel
theorem dX7_readsCloth_58 : decode cX7_readsCloth 58 = .ok (.istore_n 3, 1) := by decide +kernel
theorem dX7_readsCloth_59 : decode cX7_readsCloth 59 = .ok (.iconst 0, 1) := by decide +kernel
theorem dX7_readsCloth_60 : decode cX7_readsCloth 60 = .ok (.istore 4, 2) := by decide +kernel
theorem dX7_readsCloth_62 : decode cX7_readsCloth 62 = .ok (.iload 4, 2) := by decide +kernel
theorem dX7_readsCloth_64 : decode cX7_readsCloth 64 = .ok (.aload_n 0, 1) := by decide +kernel
theorem dX7_readsCloth_65 : decode cX7_readsCloth 65 = .ok (.getfield 13, 3) := by decide +kernel
theorem dX7_readsCloth_68 : decode cX7_readsCloth 68 = .ok (.iconst 1, 1) := by decide +kernel
theorem dX7_readsCloth_69 : decode cX7_readsCloth 69 = .ok (.iaload, 1) := by decide +kernel
theorem dX7_readsCloth_70 : decode cX7_readsCloth 70 = .ok (.if_icmp .ge 76, 3) := by decide +kernel
theorem dX7_readsCloth_73 : decode cX7_readsCloth 73 = .ok (.iload_n 1, 1) := by decide +kernel
theorem dX7_readsCloth_74 : decode cX7_readsCloth 74 = .ok (.ifCond .eq 72, 3) := by decide +kernel
theorem dX7_readsCloth_77 : decode cX7_readsCloth 77 = .ok (.iconst 1, 1) := by decide +kernel
theorem dX7_readsCloth_78 : decode cX7_readsCloth 78 = .ok (.aload_n 0, 1) := by decide +kernel
theorem dX7_readsCloth_79 : decode cX7_readsCloth 79 = .ok (.getfield 13, 3) := by decide +kernel
theorem dX7_readsCloth_82 : decode cX7_readsCloth 82 = .ok (.iconst 4, 1) := by decide +kernel
theorem dX7_readsCloth_83 : decode cX7_readsCloth 83 = .ok (.iload 4, 2) := by decide +kernel
theorem dX7_readsCloth_85 : decode cX7_readsCloth 85 = .ok (.iadd, 1) := by decide +kernel
theorem dX7_readsCloth_86 : decode cX7_readsCloth 86 = .ok (.iaload, 1) := by decide +kernel
theorem dX7_readsCloth_87 : decode cX7_readsCloth 87 = .ok (.ishl, 1) := by decide +kernel
theorem dX7_readsCloth_88 : decode cX7_readsCloth 88 = .ok (.istore 5, 2) := by decide +kernel
theorem dX7_readsCloth_90 : decode cX7_readsCloth 90 = .ok (.iload_n 2, 1) := by decide +kernel
theorem dX7_readsCloth_91 : decode cX7_readsCloth 91 = .ok (.aload_n 0, 1) := by decide +kernel
theorem dX7_readsCloth_92 : decode cX7_readsCloth 92 = .ok (.aload_n 0, 1) := by decide +kernel
theorem dX7_readsCloth_93 : decode cX7_readsCloth 93 = .ok (.getfield 51, 3) := by decide +kernel
theorem dX7_readsCloth_96 : decode cX7_readsCloth 96 = .ok (.iload 4, 2) := by decide +kernel
theorem dX7_readsCloth_98 : decode cX7_readsCloth 98 = .ok (.iadd, 1) := by decide +kernel
theorem dX7_readsCloth_99 : decode cX7_readsCloth 99 = .ok (.invokevirtual 54, 3) := by decide +kernel
theorem dX7_readsCloth_102 : decode cX7_readsCloth 102 = .ok (.bipush 49, 2) := by decide +kernel
theorem dX7_readsCloth_104 : decode cX7_readsCloth 104 = .ok (.if_icmp .ne 8, 3) := by decide +kernel
theorem dX7_readsCloth_107 : decode cX7_readsCloth 107 = .ok (.iload 5, 2) := by decide +kernel
theorem dX7_readsCloth_109 : decode cX7_readsCloth 109 = .ok (.goto 4, 3) := by decide +kernel
theorem dX7_readsCloth_112 : decode cX7_readsCloth 112 = .ok (.iconst 0, 1) := by decide +kernel
theorem dX7_readsCloth_113 : decode cX7_readsCloth 113 = .ok (.ior, 1) := by decide +kernel
theorem dX7_readsCloth_114 : decode cX7_readsCloth 114 = .ok (.istore_n 2, 1) := by decide +kernel
theorem dX7_readsCloth_115 : decode cX7_readsCloth 115 = .ok (.iload_n 3, 1) := by decide +kernel
theorem dX7_readsCloth_116 : decode cX7_readsCloth 116 = .ok (.aload_n 0, 1) := by decide +kernel
theorem dX7_readsCloth_117 : decode cX7_readsCloth 117 = .ok (.aload_n 0, 1) := by decide +kernel
theorem dX7_readsCloth_118 : decode cX7_readsCloth 118 = .ok (.getfield 51, 3) := by decide +kernel
theorem dX7_readsCloth_121 : decode cX7_readsCloth 121 = .ok (.iload 4, 2) := by decide +kernel
theorem dX7_readsCloth_123 : decode cX7_readsCloth 123 = .ok (.iadd, 1) := by decide +kernel
theorem dX7_readsCloth_124 : decode cX7_readsCloth 124 = .ok (.invokevirtual 54, 3) := by decide +kernel
theorem dX7_readsCloth_127 : decode cX7_readsCloth 127 = .ok (.bipush 48, 2) := by decide +kernel
theorem dX7_readsCloth_129 : decode cX7_readsCloth 129 = .ok (.if_icmp .ne 8, 3) := by decide +kernel
theorem dX7_readsCloth_132 : decode cX7_readsCloth 132 = .ok (.iload 5, 2) := by decide +kernel
theorem dX7_readsCloth_134 : decode cX7_readsCloth 134 = .ok (.goto 4, 3) := by decide +kernel
theorem dX7_readsCloth_137 : decode cX7_readsCloth 137 = .ok (.iconst 0, 1) := by decide +kernel
theorem dX7_readsCloth_138 : decode cX7_readsCloth 138 = .ok (.ior, 1) := by decide +kernel
theorem dX7_readsCloth_139 : decode cX7_readsCloth 139 = .ok (.istore_n 3, 1) := by decide +kernel
theorem dX7_readsCloth_140 : decode cX7_readsCloth 140 = .ok (.iinc 4 1, 3) := by decide +kernel
theorem dX7_readsCloth_143 : decode cX7_readsCloth 143 = .ok (.goto (-81), 3) := by decide +kernel
theorem dX7_readsCloth_146 : decode cX7_readsCloth 146 = .ok (.iload_n 1, 1) := by decide +kernel
theorem dX7_readsCloth_147 : decode cX7_readsCloth 147 = .ok (.ifCond .eq 13, 3) := by decide +kernel
theorem dX7_readsCloth_150 : decode cX7_readsCloth 150 = .ok (.iload_n 2, 1) := by decide +kernel
theorem dX7_readsCloth_151 : decode cX7_readsCloth 151 = .ok (.iload_n 3, 1) := by decide +kernel
theorem dX7_readsCloth_152 : decode cX7_readsCloth 152 = .ok (.iand, 1) := by decide +kernel
theorem dX7_readsCloth_153 : decode cX7_readsCloth 153 = .ok (.ifCond .ne 7, 3) := by decide +kernel
theorem dX7_readsCloth_156 : decode cX7_readsCloth 156 = .ok (.iconst 1, 1) := by decide +kernel
theorem dX7_readsCloth_157 : decode cX7_readsCloth 157 = .ok (.goto 4, 3) := by decide +kernel
theorem dX7_readsCloth_160 : decode cX7_readsCloth 160 = .ok (.iconst 0, 1) := by decide +kernel
theorem dX7_readsCloth_161 : decode cX7_readsCloth 161 = .ok (.istore_n 1, 1) := by decide +kernel
theorem dX7_readsCloth_162 : decode cX7_readsCloth 162 = .ok (.iload_n 1, 1) := by decide +kernel
theorem dX7_readsCloth_163 : decode cX7_readsCloth 163 = .ok (.ifCond .eq 28, 3) := by decide +kernel
theorem dX7_readsCloth_166 : decode cX7_readsCloth 166 = .ok (.aload_n 0, 1) := by decide +kernel
theorem dX7_readsCloth_167 : decode cX7_readsCloth 167 = .ok (.getfield 13, 3) := by decide +kernel
theorem dX7_readsCloth_170 : decode cX7_readsCloth 170 = .ok (.bipush 16, 2) := by decide +kernel
theorem dX7_readsCloth_172 : decode cX7_readsCloth 172 = .ok (.aload_n 0, 1) := by decide +kernel
theorem dX7_readsCloth_173 : decode cX7_readsCloth 173 = .ok (.getfield 13, 3) := by decide +kernel
theorem dX7_readsCloth_176 : decode cX7_readsCloth 176 = .ok (.iconst 2, 1) := by decide +kernel
theorem dX7_readsCloth_177 : decode cX7_readsCloth 177 = .ok (.iaload, 1) := by decide +kernel
theorem dX7_readsCloth_178 : decode cX7_readsCloth 178 = .ok (.iadd, 1) := by decide +kernel
theorem dX7_readsCloth_179 : decode cX7_readsCloth 179 = .ok (.iload_n 2, 1) := by decide +kernel
theorem dX7_readsCloth_180 : decode cX7_readsCloth 180 = .ok (.iastore, 1) := by decide +kernel
theorem dX7_readsCloth_181 : decode cX7_readsCloth 181 = .ok (.aload_n 0, 1) := by decide +kernel
theorem dX7_readsCloth_182 : decode cX7_readsCloth 182 = .ok (.getfield 13, 3) := by decide +kernel
theorem dX7_readsCloth_185 : decode cX7_readsCloth 185 = .ok (.iconst 2, 1) := by decide +kernel
theorem dX7_readsCloth_186 : decode cX7_readsCloth 186 = .ok (.dup2, 1) := by decide +kernel
theorem dX7_readsCloth_187 : decode cX7_readsCloth 187 = .ok (.iaload, 1) := by decide +kernel
theorem dX7_readsCloth_188 : decode cX7_readsCloth 188 = .ok (.iconst 1, 1) := by decide +kernel
theorem dX7_readsCloth_189 : decode cX7_readsCloth 189 = .ok (.iadd, 1) := by decide +kernel
theorem dX7_readsCloth_190 : decode cX7_readsCloth 190 = .ok (.iastore, 1) := by decide +kernel
theorem dX7_readsCloth_191 : decode cX7_readsCloth 191 = .ok (.aload_n 0, 1) := by decide +kernel
theorem dX7_readsCloth_192 : decode cX7_readsCloth 192 = .ok (.iload_n 1, 1) := by decide +kernel
theorem dX7_readsCloth_193 : decode cX7_readsCloth 193 = .ok (.invokevirtual 75, 3) := by decide +kernel
theorem dX7_readsCloth_196 : decode cX7_readsCloth 196 = .ok (.return_, 1) := by decide +kernel
set_option maxRecDepth 20000 in
theorem ggX7_readsLimit_X7_takes : GoodIn wsX7_readsLimit wsX7_takes := goodIn_r _ [6, 7, 8, 9, 10, 11, 5, 12, 13, 14, 15, 16, 17, 18, 19, 20, 21, 22, 23, 24, 25, 26, 27, 28, 29, 30, 31, 36, 37, 38, 39, 40, 41, 42, 43, 44, 45, 46, 47, 48, 49, 50, 51, 52, 53, 54] (by decide +kernel) (by decide +kernel)
set_option maxRecDepth 20000 in
theorem gX7_readsLimit_X7_takes : GoodIn wsX7_readsLimit (wsV RX7 75 RX7 yX7_takes wsX7_takes) := goodIn_app (goodIn_of _ (by decide +kernel)) ggX7_readsLimit_X7_takes
set_option maxRecDepth 20000 in
theorem ggX7_readsLimit_X7_number : GoodIn wsX7_readsLimit wsX7_number := goodIn_r _ [35, 13, 8, 14, 15, 16, 17, 5, 18, 19, 20, 21, 22, 23, 2, 3, 4, 6, 7, 9, 10, 11, 12, 24, 25, 26, 27, 28, 29, 30, 31, 36, 37, 38, 39, 40, 41, 42, 43, 44, 45, 46, 47, 48, 49, 50, 51, 52, 53, 54] (by decide +kernel) (by decide +kernel)
set_option maxRecDepth 20000 in
theorem gX7_readsLimit_X7_number : GoodIn wsX7_readsLimit (wsV RX7 86 RX7 yX7_number wsX7_number) := goodIn_app (goodIn_of _ (by decide +kernel)) ggX7_readsLimit_X7_number
theorem dX7_readsLimit_0 : decode cX7_readsLimit 0 = .ok (.aload_n 0, 1) := by decide +kernel
theorem dX7_readsLimit_1 : decode cX7_readsLimit 1 = .ok (.iconst 1, 1) := by decide +kernel
theorem dX7_readsLimit_2 : decode cX7_readsLimit 2 = .ok (.invokevirtual 75, 3) := by decide +kernel
theorem dX7_readsLimit_5 : decode cX7_readsLimit 5 = .ok (.aload_n 0, 1) := by decide +kernel
theorem dX7_readsLimit_6 : decode cX7_readsLimit 6 = .ok (.iconst 1, 1) := by decide +kernel
theorem dX7_readsLimit_7 : decode cX7_readsLimit 7 = .ok (.bipush 12, 2) := by decide +kernel
theorem dX7_readsLimit_9 : decode cX7_readsLimit 9 = .ok (.invokevirtual 86, 3) := by decide +kernel
theorem dX7_readsLimit_12 : decode cX7_readsLimit 12 = .ok (.istore_n 1, 1) := by decide +kernel
theorem dX7_readsLimit_13 : decode cX7_readsLimit 13 = .ok (.aload_n 0, 1) := by decide +kernel
theorem dX7_readsLimit_14 : decode cX7_readsLimit 14 = .ok (.getfield 13, 3) := by decide +kernel
theorem dX7_readsLimit_17 : decode cX7_readsLimit 17 = .ok (.iconst 3, 1) := by decide +kernel
theorem dX7_readsLimit_18 : decode cX7_readsLimit 18 = .ok (.iload_n 1, 1) := by decide +kernel
theorem dX7_readsLimit_19 : decode cX7_readsLimit 19 = .ok (.iastore, 1) := by decide +kernel
theorem dX7_readsLimit_20 : decode cX7_readsLimit 20 = .ok (.return_, 1) := by decide +kernel
set_option maxRecDepth 20000 in
theorem ggX7_reads_X7_plain : GoodIn wsX7_reads wsX7_plain := goodIn_r _ [10] (by decide +kernel) (by decide +kernel)
set_option maxRecDepth 20000 in
theorem gX7_reads_X7_plain : GoodIn wsX7_reads (va_wsS RX7 33 yX7_plain wsX7_plain) := goodIn_app (goodIn_of _ (by decide +kernel)) ggX7_reads_X7_plain
set_option maxRecDepth 20000 in
theorem ggX7_reads_X7_steps : GoodIn wsX7_reads wsX7_steps := goodIn_r _ [14, 5, 15, 6, 16, 17, 18, 9, 19, 20, 21, 22, 23, 24, 25, 26, 27, 28, 29, 30, 31, 32, 65, 66, 67, 68, 69, 70, 71, 72, 73, 74, 75, 76, 77, 78, 79, 80, 81, 82, 83] (by decide +kernel) (by decide +kernel)
set_option maxRecDepth 20000 in
theorem gX7_reads_X7_steps : GoodIn wsX7_reads (wsV RX7 72 RX7 yX7_steps wsX7_steps) := goodIn_app (goodIn_of _ (by decide +kernel)) ggX7_reads_X7_steps
set_option maxRecDepth 20000 in
theorem ggX7_reads_X7_readsHooks : GoodIn wsX7_reads wsX7_readsHooks := goodIn_r _ [36, 2, 3, 1, 4, 37, 38, 39, 9, 40, 15, 11, 12, 13, 14, 5, 6, 16, 17, 18, 19, 20, 21, 22, 23, 24, 25, 26, 27, 28, 29, 30, 31, 32, 41, 42, 43, 44, 65, 66, 67, 68, 69, 70, 71, 72, 73, 74, 75, 76, 77, 78, 79, 80, 81, 82, 83] (by decide +kernel) (by decide +kernel)
set_option maxRecDepth 20000 in
theorem gX7_reads_X7_readsHooks : GoodIn wsX7_reads (wsV RX7 93 RX7 yX7_readsHooks wsX7_readsHooks) := goodIn_app (goodIn_of _ (by decide +kernel)) ggX7_reads_X7_readsHooks
set_option maxRecDepth 20000 in
theorem ggX7_reads_X7_readsTies : GoodIn wsX7_reads wsX7_readsTies := goodIn_r _ [48, 3, 1, 4, 5, 15, 37, 38, 39, 9, 40, 11, 12, 13, 14, 6, 16, 17, 18, 19, 20, 21, 22, 23, 24, 25, 26, 27, 28, 29, 30, 31, 32, 49, 50, 51, 52, 65, 66, 67, 68, 69, 70, 71, 72, 73, 74, 75, 76, 77, 78, 79, 80, 81, 82, 83] (by decide +kernel) (by decide +kernel)
set_option maxRecDepth 20000 in
theorem gX7_reads_X7_readsTies : GoodIn wsX7_reads (wsV RX7 96 RX7 yX7_readsTies wsX7_readsTies) := goodIn_app (goodIn_of _ (by decide +kernel)) ggX7_reads_X7_readsTies
set_option maxRecDepth 20000 in
theorem ggX7_reads_X7_readsCard : GoodIn wsX7_reads wsX7_readsCard := goodIn_r _ [56, 1, 4, 15, 37, 38, 39, 9, 40, 11, 12, 13, 14, 5, 6, 16, 17, 18, 19, 20, 21, 22, 23, 24, 25, 26, 27, 28, 29, 30, 31, 32, 49, 50, 51, 52, 65, 66, 67, 68, 69, 70, 71, 72, 73, 74, 75, 76, 77, 78, 79, 80, 81, 82, 83] (by decide +kernel) (by decide +kernel)
set_option maxRecDepth 20000 in
theorem gX7_reads_X7_readsCard : GoodIn wsX7_reads (wsV RX7 99 RX7 yX7_readsCard wsX7_readsCard) := goodIn_app (goodIn_of _ (by decide +kernel)) ggX7_reads_X7_readsCard
set_option maxRecDepth 20000 in
theorem ggX7_reads_X7_readsCloth : GoodIn wsX7_reads wsX7_readsCloth := goodIn_r _ [60, 1, 4, 15, 37, 38, 39, 9, 40, 11, 12, 13, 14, 5, 6, 16, 17, 18, 19, 20, 21, 22, 23, 24, 25, 26, 27, 28, 29, 30, 31, 32, 49, 50, 51, 52, 65, 66, 67, 68, 69, 70, 71, 72, 73, 74, 75, 76, 77, 78, 79, 80, 81, 82, 83] (by decide +kernel) (by decide +kernel)
set_option maxRecDepth 20000 in
theorem gX7_reads_X7_readsCloth : GoodIn wsX7_reads (wsV RX7 102 RX7 yX7_readsCloth wsX7_readsCloth) := goodIn_app (goodIn_of _ (by decide +kernel)) ggX7_reads_X7_readsCloth
set_option maxRecDepth 20000 in
theorem ggX7_reads_X7_readsLimit : GoodIn wsX7_reads wsX7_readsLimit := goodIn_r _ [64, 1, 37, 38, 39, 9, 40, 4, 15, 11, 12, 13, 14, 5, 6, 16, 17, 18, 19, 20, 21, 22, 23, 24, 25, 26, 27, 28, 29, 30, 31, 32, 41, 42, 43, 44, 65, 66, 67, 68, 69, 70, 71, 72, 73, 74, 75, 76, 77, 78, 79, 80, 81, 82, 83] (by decide +kernel) (by decide +kernel)
set_option maxRecDepth 20000 in
theorem gX7_reads_X7_readsLimit : GoodIn wsX7_reads (wsV RX7 105 RX7 yX7_readsLimit wsX7_readsLimit) := goodIn_app (goodIn_of _ (by decide +kernel)) ggX7_reads_X7_readsLimit
set_option maxRecDepth 20000 in
theorem ggX7_reads_X7_takes : GoodIn wsX7_reads wsX7_takes := goodIn_r _ [40, 4, 15, 11, 12, 13, 9, 14, 5, 6, 16, 17, 18, 19, 20, 21, 22, 23, 24, 25, 26, 27, 28, 29, 30, 31, 32, 65, 66, 67, 68, 69, 70, 71, 72, 73, 74, 75, 76, 77, 78, 79, 80, 81, 82, 83] (by decide +kernel) (by decide +kernel)
set_option maxRecDepth 20000 in
theorem gX7_reads_X7_takes : GoodIn wsX7_reads (wsV RX7 75 RX7 yX7_takes wsX7_takes) := goodIn_app (goodIn_of _ (by decide +kernel)) ggX7_reads_X7_takes
theorem dX7_reads_0 : decode cX7_reads 0 = .ok (.aload_n 0, 1) := by decide +kernel
theorem dX7_reads_1 : decode cX7_reads 1 = .ok (.getfield 13, 3) := by decide +kernel
theorem dX7_reads_4 : decode cX7_reads 4 = .ok (.invokestatic 33, 3) := by decide +kernel
theorem dX7_reads_7 : decode cX7_reads 7 = .ok (.aload_n 0, 1) := by decide +kernel
theorem dX7_reads_8 : decode cX7_reads 8 = .ok (.iconst 0, 1) := by decide +kernel
theorem dX7_reads_9 : decode cX7_reads 9 = .ok (.putfield 79, 3) := by decide +kernel
theorem dX7_reads_12 : decode cX7_reads 12 = .ok (.aload_n 0, 1) := by decide +kernel
theorem dX7_reads_13 : decode cX7_reads 13 = .ok (.iconst 0, 1) := by decide +kernel
theorem dX7_reads_14 : decode cX7_reads 14 = .ok (.putfield 83, 3) := by decide +kernel
theorem dX7_reads_17 : decode cX7_reads 17 = .ok (.aload_n 0, 1) := by decide +kernel
theorem dX7_reads_18 : decode cX7_reads 18 = .ok (.bipush (-9), 2) := by decide +kernel
theorem dX7_reads_20 : decode cX7_reads 20 = .ok (.putfield 69, 3) := by decide +kernel
theorem dX7_reads_23 : decode cX7_reads 23 = .ok (.aload_n 0, 1) := by decide +kernel
theorem dX7_reads_24 : decode cX7_reads 24 = .ok (.iconst 0, 1) := by decide +kernel
theorem dX7_reads_25 : decode cX7_reads 25 = .ok (.putfield 48, 3) := by decide +kernel
theorem dX7_reads_28 : decode cX7_reads 28 = .ok (.aload_n 0, 1) := by decide +kernel
theorem dX7_reads_29 : decode cX7_reads 29 = .ok (.invokevirtual 72, 3) := by decide +kernel
theorem dX7_reads_32 : decode cX7_reads 32 = .ok (.iconst 0, 1) := by decide +kernel
theorem dX7_reads_33 : decode cX7_reads 33 = .ok (.istore_n 1, 1) := by decide +kernel
theorem dX7_reads_34 : decode cX7_reads 34 = .ok (.aload_n 0, 1) := by decide +kernel
theorem dX7_reads_35 : decode cX7_reads 35 = .ok (.getfield 69, 3) := by decide +kernel
theorem dX7_reads_38 : decode cX7_reads 38 = .ok (.bipush (-9), 2) := by decide +kernel
theorem dX7_reads_40 : decode cX7_reads 40 = .ok (.if_icmp .ne 112, 3) := by decide +kernel
theorem dX7_reads_43 : decode cX7_reads 43 = .ok (.aload_n 0, 1) := by decide +kernel
theorem dX7_reads_44 : decode cX7_reads 44 = .ok (.getfield 62, 3) := by decide +kernel
theorem dX7_reads_47 : decode cX7_reads 47 = .ok (.ifCond .eq 105, 3) := by decide +kernel
theorem dX7_reads_50 : decode cX7_reads 50 = .ok (.aload_n 0, 1) := by decide +kernel
theorem dX7_reads_51 : decode cX7_reads 51 = .ok (.getfield 62, 3) := by decide +kernel
theorem dX7_reads_54 : decode cX7_reads 54 = .ok (.tableswitch 69 1 5 #[34, 41, 48, 55, 62], 34) := by decide +kernel
theorem dX7_reads_88 : decode cX7_reads 88 = .ok (.aload_n 0, 1) := by decide +kernel
theorem dX7_reads_89 : decode cX7_reads 89 = .ok (.invokevirtual 93, 3) := by decide +kernel
theorem dX7_reads_92 : decode cX7_reads 92 = .ok (.goto 36, 3) := by decide +kernel
theorem dX7_reads_95 : decode cX7_reads 95 = .ok (.aload_n 0, 1) := by decide +kernel
theorem dX7_reads_96 : decode cX7_reads 96 = .ok (.invokevirtual 96, 3) := by decide +kernel
theorem dX7_reads_99 : decode cX7_reads 99 = .ok (.goto 29, 3) := by decide +kernel
theorem dX7_reads_102 : decode cX7_reads 102 = .ok (.aload_n 0, 1) := by decide +kernel
theorem dX7_reads_103 : decode cX7_reads 103 = .ok (.invokevirtual 99, 3) := by decide +kernel
theorem dX7_reads_106 : decode cX7_reads 106 = .ok (.goto 22, 3) := by decide +kernel
theorem dX7_reads_109 : decode cX7_reads 109 = .ok (.aload_n 0, 1) := by decide +kernel
theorem dX7_reads_110 : decode cX7_reads 110 = .ok (.invokevirtual 102, 3) := by decide +kernel
theorem dX7_reads_113 : decode cX7_reads 113 = .ok (.goto 15, 3) := by decide +kernel
theorem dX7_reads_116 : decode cX7_reads 116 = .ok (.aload_n 0, 1) := by decide +kernel
theorem dX7_reads_117 : decode cX7_reads 117 = .ok (.invokevirtual 105, 3) := by decide +kernel
theorem dX7_reads_120 : decode cX7_reads 120 = .ok (.goto 8, 3) := by decide +kernel
theorem dX7_reads_123 : decode cX7_reads 123 = .ok (.aload_n 0, 1) := by decide +kernel
theorem dX7_reads_124 : decode cX7_reads 124 = .ok (.iconst 0, 1) := by decide +kernel
theorem dX7_reads_125 : decode cX7_reads 125 = .ok (.invokevirtual 75, 3) := by decide +kernel
theorem dX7_reads_128 : decode cX7_reads 128 = .ok (.aload_n 0, 1) := by decide +kernel
theorem dX7_reads_129 : decode cX7_reads 129 = .ok (.aload_n 0, 1) := by decide +kernel
theorem dX7_reads_130 : decode cX7_reads 130 = .ok (.getfield 62, 3) := by decide +kernel
theorem dX7_reads_133 : decode cX7_reads 133 = .ok (.bipush 7, 2) := by decide +kernel
theorem dX7_reads_135 : decode cX7_reads 135 = .ok (.if_icmp .ne 7, 3) := by decide +kernel
theorem dX7_reads_138 : decode cX7_reads 138 = .ok (.iconst 1, 1) := by decide +kernel
theorem dX7_reads_139 : decode cX7_reads 139 = .ok (.goto 4, 3) := by decide +kernel
theorem dX7_reads_142 : decode cX7_reads 142 = .ok (.iconst 0, 1) := by decide +kernel
theorem dX7_reads_143 : decode cX7_reads 143 = .ok (.invokevirtual 75, 3) := by decide +kernel
theorem dX7_reads_146 : decode cX7_reads 146 = .ok (.iinc 1 1, 3) := by decide +kernel
theorem dX7_reads_149 : decode cX7_reads 149 = .ok (.goto (-115), 3) := by decide +kernel
theorem dX7_reads_152 : decode cX7_reads 152 = .ok (.aload_n 0, 1) := by decide +kernel
theorem dX7_reads_153 : decode cX7_reads 153 = .ok (.getfield 13, 3) := by decide +kernel
theorem dX7_reads_156 : decode cX7_reads 156 = .ok (.iconst 2, 1) := by decide +kernel
theorem dX7_reads_157 : decode cX7_reads 157 = .ok (.dup2, 1) := by decide +kernel
theorem dX7_reads_158 : decode cX7_reads 158 = .ok (.iaload, 1) := by decide +kernel
theorem dX7_reads_159 : decode cX7_reads 159 = .ok (.aload_n 0, 1) := by decide +kernel
theorem dX7_reads_160 : decode cX7_reads 160 = .ok (.getfield 13, 3) := by decide +kernel
theorem dX7_reads_163 : decode cX7_reads 163 = .ok (.iconst 2, 1) := by decide +kernel
theorem dX7_reads_164 : decode cX7_reads 164 = .ok (.iaload, 1) := by decide +kernel
theorem dX7_reads_165 : decode cX7_reads 165 = .ok (.ifCond .ne 7, 3) := by decide +kernel
theorem dX7_reads_168 : decode cX7_reads 168 = .ok (.iconst 1, 1) := by decide +kernel
theorem dX7_reads_169 : decode cX7_reads 169 = .ok (.goto 4, 3) := by decide +kernel
theorem dX7_reads_172 : decode cX7_reads 172 = .ok (.iconst 0, 1) := by decide +kernel
theorem dX7_reads_173 : decode cX7_reads 173 = .ok (.iadd, 1) := by decide +kernel
theorem dX7_reads_174 : decode cX7_reads 174 = .ok (.iastore, 1) := by decide +kernel
theorem dX7_reads_175 : decode cX7_reads 175 = .ok (.iload_n 1, 1) := by decide +kernel
theorem dX7_reads_176 : decode cX7_reads 176 = .ok (.ireturn, 1) := by decide +kernel
set_option maxRecDepth 20000 in
theorem ggX7_tells_X7_reads : GoodIn wsX7_tells wsX7_reads := goodIn_r _ [10, 4, 11, 12, 2, 13, 14, 15, 16, 9, 17, 18, 19, 20, 21, 22, 23, 24, 25, 26, 5, 27, 28, 29, 30, 31, 32, 33, 34, 35, 36, 37, 38, 39, 40, 41, 42, 43, 44, 45, 46, 47, 48, 49, 50, 51, 52, 53, 54, 55, 56, 57, 58, 59, 60, 61, 62, 63, 64, 65, 66, 67, 68, 69, 70, 77, 78, 79, 80, 81, 82, 83, 84, 85, 86, 87, 88, 89, 90, 91, 92, 93, 94, 95] (by decide +kernel) (by decide +kernel)
set_option maxRecDepth 20000 in
theorem gX7_tells_X7_reads : GoodIn wsX7_tells (wsV RX7 108 RX7 yX7_reads wsX7_reads) := goodIn_app (goodIn_of _ (by decide +kernel)) ggX7_tells_X7_reads
set_option maxRecDepth 20000 in
theorem ggX7_tells_X7_notes : GoodIn wsX7_tells wsX7_notes := goodIn_r _ [74, 75, 76, 3, 77, 78, 79, 80, 81, 82, 83, 84, 85, 86, 87, 88, 89, 90, 91, 92, 93, 94, 95] (by decide +kernel) (by decide +kernel)
set_option maxRecDepth 20000 in
theorem gX7_tells_X7_notes : GoodIn wsX7_tells (wsV RX7 111 RX7 yX7_notes wsX7_notes) := goodIn_app (goodIn_of _ (by decide +kernel)) ggX7_tells_X7_notes
theorem dX7_tells_0 : decode cX7_tells 0 = .ok (.aload_n 0, 1) := by decide +kernel
theorem dX7_tells_1 : decode cX7_tells 1 = .ok (.iconst 0, 1) := by decide +kernel
theorem dX7_tells_2 : decode cX7_tells 2 = .ok (.putfield 37, 3) := by decide +kernel
theorem dX7_tells_5 : decode cX7_tells 5 = .ok (.aload_n 0, 1) := by decide +kernel
theorem dX7_tells_6 : decode cX7_tells 6 = .ok (.invokevirtual 108, 3) := by decide +kernel
theorem dX7_tells_9 : decode cX7_tells 9 = .ok (.istore_n 1, 1) := by decide +kernel
theorem dX7_tells_10 : decode cX7_tells 10 = .ok (.aload_n 0, 1) := by decide +kernel
theorem dX7_tells_11 : decode cX7_tells 11 = .ok (.getfield 69, 3) := by decide +kernel
theorem dX7_tells_14 : decode cX7_tells 14 = .ok (.bipush (-9), 2) := by decide +kernel
theorem dX7_tells_16 : decode cX7_tells 16 = .ok (.if_icmp .eq 11, 3) := by decide +kernel
theorem dX7_tells_19 : decode cX7_tells 19 = .ok (.bipush (-10), 2) := by decide +kernel
theorem dX7_tells_21 : decode cX7_tells 21 = .ok (.aload_n 0, 1) := by decide +kernel
theorem dX7_tells_22 : decode cX7_tells 22 = .ok (.getfield 69, 3) := by decide +kernel
theorem dX7_tells_25 : decode cX7_tells 25 = .ok (.isub, 1) := by decide +kernel
theorem dX7_tells_26 : decode cX7_tells 26 = .ok (.ireturn, 1) := by decide +kernel
theorem dX7_tells_27 : decode cX7_tells 27 = .ok (.aload_n 0, 1) := by decide +kernel
theorem dX7_tells_28 : decode cX7_tells 28 = .ok (.invokevirtual 111, 3) := by decide +kernel
theorem dX7_tells_31 : decode cX7_tells 31 = .ok (.iconst 0, 1) := by decide +kernel
theorem dX7_tells_32 : decode cX7_tells 32 = .ok (.istore_n 2, 1) := by decide +kernel
theorem dX7_tells_33 : decode cX7_tells 33 = .ok (.iload_n 2, 1) := by decide +kernel
theorem dX7_tells_34 : decode cX7_tells 34 = .ok (.bipush 24, 2) := by decide +kernel
theorem dX7_tells_36 : decode cX7_tells 36 = .ok (.if_icmp .ge 21, 3) := by decide +kernel
theorem dX7_tells_39 : decode cX7_tells 39 = .ok (.aload_n 0, 1) := by decide +kernel
theorem dX7_tells_40 : decode cX7_tells 40 = .ok (.getfield 7, 3) := by decide +kernel
theorem dX7_tells_43 : decode cX7_tells 43 = .ok (.iload_n 2, 1) := by decide +kernel
theorem dX7_tells_44 : decode cX7_tells 44 = .ok (.aload_n 0, 1) := by decide +kernel
theorem dX7_tells_45 : decode cX7_tells 45 = .ok (.getfield 13, 3) := by decide +kernel
theorem dX7_tells_48 : decode cX7_tells 48 = .ok (.iload_n 2, 1) := by decide +kernel
theorem dX7_tells_49 : decode cX7_tells 49 = .ok (.iaload, 1) := by decide +kernel
theorem dX7_tells_50 : decode cX7_tells 50 = .ok (.iastore, 1) := by decide +kernel
theorem dX7_tells_51 : decode cX7_tells 51 = .ok (.iinc 2 1, 3) := by decide +kernel
theorem dX7_tells_54 : decode cX7_tells 54 = .ok (.goto (-21), 3) := by decide +kernel
theorem dX7_tells_57 : decode cX7_tells 57 = .ok (.aload_n 0, 1) := by decide +kernel
theorem dX7_tells_58 : decode cX7_tells 58 = .ok (.iconst 0, 1) := by decide +kernel
theorem dX7_tells_59 : decode cX7_tells 59 = .ok (.putfield 45, 3) := by decide +kernel
theorem dX7_tells_62 : decode cX7_tells 62 = .ok (.iload_n 1, 1) := by decide +kernel
theorem dX7_tells_63 : decode cX7_tells 63 = .ok (.ireturn, 1) := by decide +kernel
theorem dX7_notes_0 : decode cX7_notes 0 = .ok (.aload_n 0, 1) := by decide +kernel
theorem dX7_notes_1 : decode cX7_notes 1 = .ok (.getfield 114, 3) := by decide +kernel
theorem dX7_notes_4 : decode cX7_notes 4 = .ok (.bipush 6, 2) := by decide +kernel
theorem dX7_notes_6 : decode cX7_notes 6 = .ok (.if_icmp .ne 42, 3) := by decide +kernel
theorem dX7_notes_9 : decode cX7_notes 9 = .ok (.iconst 0, 1) := by decide +kernel
theorem dX7_notes_10 : decode cX7_notes 10 = .ok (.istore_n 1, 1) := by decide +kernel
theorem dX7_notes_11 : decode cX7_notes 11 = .ok (.iload_n 1, 1) := by decide +kernel
theorem dX7_notes_12 : decode cX7_notes 12 = .ok (.bipush 120, 2) := by decide +kernel
theorem dX7_notes_14 : decode cX7_notes 14 = .ok (.if_icmp .ge 24, 3) := by decide +kernel
theorem dX7_notes_17 : decode cX7_notes 17 = .ok (.aload_n 0, 1) := by decide +kernel
theorem dX7_notes_18 : decode cX7_notes 18 = .ok (.getfield 16, 3) := by decide +kernel
theorem dX7_notes_21 : decode cX7_notes 21 = .ok (.iload_n 1, 1) := by decide +kernel
theorem dX7_notes_22 : decode cX7_notes 22 = .ok (.aload_n 0, 1) := by decide +kernel
theorem dX7_notes_23 : decode cX7_notes 23 = .ok (.getfield 16, 3) := by decide +kernel
theorem dX7_notes_26 : decode cX7_notes 26 = .ok (.iload_n 1, 1) := by decide +kernel
theorem dX7_notes_27 : decode cX7_notes 27 = .ok (.bipush 24, 2) := by decide +kernel
theorem dX7_notes_29 : decode cX7_notes 29 = .ok (.iadd, 1) := by decide +kernel
theorem dX7_notes_30 : decode cX7_notes 30 = .ok (.iaload, 1) := by decide +kernel
theorem dX7_notes_31 : decode cX7_notes 31 = .ok (.iastore, 1) := by decide +kernel
theorem dX7_notes_32 : decode cX7_notes 32 = .ok (.iinc 1 1, 3) := by decide +kernel
theorem dX7_notes_35 : decode cX7_notes 35 = .ok (.goto (-24), 3) := by decide +kernel
theorem dX7_notes_38 : decode cX7_notes 38 = .ok (.aload_n 0, 1) := by decide +kernel
theorem dX7_notes_39 : decode cX7_notes 39 = .ok (.dup, 1) := by decide +kernel
theorem dX7_notes_40 : decode cX7_notes 40 = .ok (.getfield 114, 3) := by decide +kernel
theorem dX7_notes_43 : decode cX7_notes 43 = .ok (.iconst 1, 1) := by decide +kernel
theorem dX7_notes_44 : decode cX7_notes 44 = .ok (.isub, 1) := by decide +kernel
theorem dX7_notes_45 : decode cX7_notes 45 = .ok (.putfield 114, 3) := by decide +kernel
theorem dX7_notes_48 : decode cX7_notes 48 = .ok (.iconst 0, 1) := by decide +kernel
theorem dX7_notes_49 : decode cX7_notes 49 = .ok (.istore_n 1, 1) := by decide +kernel
theorem dX7_notes_50 : decode cX7_notes 50 = .ok (.iload_n 1, 1) := by decide +kernel
theorem dX7_notes_51 : decode cX7_notes 51 = .ok (.bipush 24, 2) := by decide +kernel
theorem dX7_notes_53 : decode cX7_notes 53 = .ok (.if_icmp .ge 29, 3) := by decide +kernel
theorem dX7_notes_56 : decode cX7_notes 56 = .ok (.aload_n 0, 1) := by decide +kernel
theorem dX7_notes_57 : decode cX7_notes 57 = .ok (.getfield 16, 3) := by decide +kernel
theorem dX7_notes_60 : decode cX7_notes 60 = .ok (.bipush 24, 2) := by decide +kernel
theorem dX7_notes_62 : decode cX7_notes 62 = .ok (.aload_n 0, 1) := by decide +kernel
theorem dX7_notes_63 : decode cX7_notes 63 = .ok (.getfield 114, 3) := by decide +kernel
theorem dX7_notes_66 : decode cX7_notes 66 = .ok (.imul, 1) := by decide +kernel
theorem dX7_notes_67 : decode cX7_notes 67 = .ok (.iload_n 1, 1) := by decide +kernel
theorem dX7_notes_68 : decode cX7_notes 68 = .ok (.iadd, 1) := by decide +kernel
theorem dX7_notes_69 : decode cX7_notes 69 = .ok (.aload_n 0, 1) := by decide +kernel
theorem dX7_notes_70 : decode cX7_notes 70 = .ok (.getfield 7, 3) := by decide +kernel
theorem dX7_notes_73 : decode cX7_notes 73 = .ok (.iload_n 1, 1) := by decide +kernel
theorem dX7_notes_74 : decode cX7_notes 74 = .ok (.iaload, 1) := by decide +kernel
theorem dX7_notes_75 : decode cX7_notes 75 = .ok (.iastore, 1) := by decide +kernel
theorem dX7_notes_76 : decode cX7_notes 76 = .ok (.iinc 1 1, 3) := by decide +kernel
theorem dX7_notes_79 : decode cX7_notes 79 = .ok (.goto (-29), 3) := by decide +kernel
theorem dX7_notes_82 : decode cX7_notes 82 = .ok (.aload_n 0, 1) := by decide +kernel
theorem dX7_notes_83 : decode cX7_notes 83 = .ok (.dup, 1) := by decide +kernel
theorem dX7_notes_84 : decode cX7_notes 84 = .ok (.getfield 114, 3) := by decide +kernel
theorem dX7_notes_87 : decode cX7_notes 87 = .ok (.iconst 1, 1) := by decide +kernel
theorem dX7_notes_88 : decode cX7_notes 88 = .ok (.iadd, 1) := by decide +kernel
theorem dX7_notes_89 : decode cX7_notes 89 = .ok (.putfield 114, 3) := by decide +kernel
theorem dX7_notes_92 : decode cX7_notes 92 = .ok (.return_, 1) := by decide +kernel
set_option maxRecDepth 20000 in
theorem ggX7_isCard_X7_in : GoodIn wsX7_isCard wsX7_in := goodIn_r _ [5] (by decide +kernel) (by decide +kernel)
set_option maxRecDepth 20000 in
theorem gX7_isCard_X7_in : GoodIn wsX7_isCard (va_wsS RX7 41 yX7_in wsX7_in) := goodIn_app (goodIn_of _ (by decide +kernel)) ggX7_isCard_X7_in
theorem dX7_isCard_0 : decode cX7_isCard 0 = .ok (.iload_n 1, 1) := by decide +kernel
theorem dX7_isCard_1 : decode cX7_isCard 1 = .ok (.iconst 0, 1) := by decide +kernel
theorem dX7_isCard_2 : decode cX7_isCard 2 = .ok (.aload_n 0, 1) := by decide +kernel
theorem dX7_isCard_3 : decode cX7_isCard 3 = .ok (.getfield 7, 3) := by decide +kernel
theorem dX7_isCard_6 : decode cX7_isCard 6 = .ok (.iconst 2, 1) := by decide +kernel
theorem dX7_isCard_7 : decode cX7_isCard 7 = .ok (.iaload, 1) := by decide +kernel
theorem dX7_isCard_8 : decode cX7_isCard 8 = .ok (.iconst 1, 1) := by decide +kernel
theorem dX7_isCard_9 : decode cX7_isCard 9 = .ok (.isub, 1) := by decide +kernel
theorem dX7_isCard_10 : decode cX7_isCard 10 = .ok (.invokestatic 41, 3) := by decide +kernel
theorem dX7_isCard_13 : decode cX7_isCard 13 = .ok (.ireturn, 1) := by decide +kernel
set_option maxRecDepth 20000 in
theorem ggX7_isHook_X7_in : GoodIn wsX7_isHook wsX7_in := goodIn_r _ [5] (by decide +kernel) (by decide +kernel)
set_option maxRecDepth 20000 in
theorem gX7_isHook_X7_in : GoodIn wsX7_isHook (va_wsS RX7 41 yX7_in wsX7_in) := goodIn_app (goodIn_of _ (by decide +kernel)) ggX7_isHook_X7_in
theorem dX7_isHook_0 : decode cX7_isHook 0 = .ok (.iload_n 1, 1) := by decide +kernel
theorem dX7_isHook_1 : decode cX7_isHook 1 = .ok (.iconst 0, 1) := by decide +kernel
theorem dX7_isHook_2 : decode cX7_isHook 2 = .ok (.aload_n 0, 1) := by decide +kernel
theorem dX7_isHook_3 : decode cX7_isHook 3 = .ok (.getfield 7, 3) := by decide +kernel
theorem dX7_isHook_6 : decode cX7_isHook 6 = .ok (.iconst 0, 1) := by decide +kernel
theorem dX7_isHook_7 : decode cX7_isHook 7 = .ok (.iaload, 1) := by decide +kernel
theorem dX7_isHook_8 : decode cX7_isHook 8 = .ok (.iconst 1, 1) := by decide +kernel
theorem dX7_isHook_9 : decode cX7_isHook 9 = .ok (.isub, 1) := by decide +kernel
theorem dX7_isHook_10 : decode cX7_isHook 10 = .ok (.invokestatic 41, 3) := by decide +kernel
theorem dX7_isHook_13 : decode cX7_isHook 13 = .ok (.ireturn, 1) := by decide +kernel
set_option maxRecDepth 20000 in
theorem ggX7_isEnd_X7_in : GoodIn wsX7_isEnd wsX7_in := goodIn_r _ [5] (by decide +kernel) (by decide +kernel)
set_option maxRecDepth 20000 in
theorem gX7_isEnd_X7_in : GoodIn wsX7_isEnd (va_wsS RX7 41 yX7_in wsX7_in) := goodIn_app (goodIn_of _ (by decide +kernel)) ggX7_isEnd_X7_in
theorem dX7_isEnd_0 : decode cX7_isEnd 0 = .ok (.iload_n 1, 1) := by decide +kernel
theorem dX7_isEnd_1 : decode cX7_isEnd 1 = .ok (.iconst 0, 1) := by decide +kernel
theorem dX7_isEnd_2 : decode cX7_isEnd 2 = .ok (.aload_n 0, 1) := by decide +kernel
theorem dX7_isEnd_3 : decode cX7_isEnd 3 = .ok (.getfield 7, 3) := by decide +kernel
theorem dX7_isEnd_6 : decode cX7_isEnd 6 = .ok (.iconst 1, 1) := by decide +kernel
theorem dX7_isEnd_7 : decode cX7_isEnd 7 = .ok (.iaload, 1) := by decide +kernel
theorem dX7_isEnd_8 : decode cX7_isEnd 8 = .ok (.iconst 1, 1) := by decide +kernel
theorem dX7_isEnd_9 : decode cX7_isEnd 9 = .ok (.isub, 1) := by decide +kernel
theorem dX7_isEnd_10 : decode cX7_isEnd 10 = .ok (.invokestatic 41, 3) := by decide +kernel
theorem dX7_isEnd_13 : decode cX7_isEnd 13 = .ok (.ireturn, 1) := by decide +kernel
set_option maxRecDepth 20000 in
theorem ggX7_punches_X7_isCard : GoodIn wsX7_punches wsX7_isCard := goodIn_r _ [7, 2, 8, 9, 6, 10, 21, 22, 23, 24, 25, 26, 27, 28, 29, 30, 31, 32, 33, 34, 35, 36, 37, 38, 39] (by decide +kernel) (by decide +kernel)
set_option maxRecDepth 20000 in
theorem gX7_punches_X7_isCard : GoodIn wsX7_punches (wsV RX7 117 RX7 yX7_isCard wsX7_isCard) := goodIn_app (goodIn_of _ (by decide +kernel)) ggX7_punches_X7_isCard
set_option maxRecDepth 20000 in
theorem ggX7_punches_X7_isHook : GoodIn wsX7_punches wsX7_isHook := goodIn_r _ [14, 2, 8, 9, 6, 10, 21, 22, 23, 24, 25, 26, 27, 28, 29, 30, 31, 32, 33, 34, 35, 36, 37, 38, 39] (by decide +kernel) (by decide +kernel)
set_option maxRecDepth 20000 in
theorem gX7_punches_X7_isHook : GoodIn wsX7_punches (wsV RX7 121 RX7 yX7_isHook wsX7_isHook) := goodIn_app (goodIn_of _ (by decide +kernel)) ggX7_punches_X7_isHook
set_option maxRecDepth 20000 in
theorem ggX7_punches_X7_notes : GoodIn wsX7_punches wsX7_notes := goodIn_r _ [18, 19, 20, 2, 21, 22, 23, 24, 25, 26, 27, 28, 29, 30, 31, 32, 33, 34, 35, 36, 37, 38, 39] (by decide +kernel) (by decide +kernel)
set_option maxRecDepth 20000 in
theorem gX7_punches_X7_notes : GoodIn wsX7_punches (wsV RX7 111 RX7 yX7_notes wsX7_notes) := goodIn_app (goodIn_of _ (by decide +kernel)) ggX7_punches_X7_notes
theorem dX7_punches_0 : decode cX7_punches 0 = .ok (.aload_n 0, 1) := by decide +kernel
theorem dX7_punches_1 : decode cX7_punches 1 = .ok (.iconst 0, 1) := by decide +kernel
theorem dX7_punches_2 : decode cX7_punches 2 = .ok (.putfield 37, 3) := by decide +kernel
theorem dX7_punches_5 : decode cX7_punches 5 = .ok (.aload_n 0, 1) := by decide +kernel
theorem dX7_punches_6 : decode cX7_punches 6 = .ok (.iload_n 1, 1) := by decide +kernel
theorem dX7_punches_7 : decode cX7_punches 7 = .ok (.invokevirtual 117, 3) := by decide +kernel
theorem dX7_punches_10 : decode cX7_punches 10 = .ok (.ifCond .eq 11, 3) := by decide +kernel
theorem dX7_punches_13 : decode cX7_punches 13 = .ok (.aload_n 0, 1) := by decide +kernel
theorem dX7_punches_14 : decode cX7_punches 14 = .ok (.iload_n 2, 1) := by decide +kernel
theorem dX7_punches_15 : decode cX7_punches 15 = .ok (.invokevirtual 121, 3) := by decide +kernel
theorem dX7_punches_18 : decode cX7_punches 18 = .ok (.ifCond .ne 5, 3) := by decide +kernel
theorem dX7_punches_21 : decode cX7_punches 21 = .ok (.iconst (-1), 1) := by decide +kernel
theorem dX7_punches_22 : decode cX7_punches 22 = .ok (.ireturn, 1) := by decide +kernel
theorem dX7_punches_23 : decode cX7_punches 23 = .ok (.aload_n 0, 1) := by decide +kernel
theorem dX7_punches_24 : decode cX7_punches 24 = .ok (.invokevirtual 111, 3) := by decide +kernel
theorem dX7_punches_27 : decode cX7_punches 27 = .ok (.aload_n 0, 1) := by decide +kernel
theorem dX7_punches_28 : decode cX7_punches 28 = .ok (.getfield 7, 3) := by decide +kernel
theorem dX7_punches_31 : decode cX7_punches 31 = .ok (.bipush 16, 2) := by decide +kernel
theorem dX7_punches_33 : decode cX7_punches 33 = .ok (.iload_n 1, 1) := by decide +kernel
theorem dX7_punches_34 : decode cX7_punches 34 = .ok (.iadd, 1) := by decide +kernel
theorem dX7_punches_35 : decode cX7_punches 35 = .ok (.dup2, 1) := by decide +kernel
theorem dX7_punches_36 : decode cX7_punches 36 = .ok (.iaload, 1) := by decide +kernel
theorem dX7_punches_37 : decode cX7_punches 37 = .ok (.iconst 1, 1) := by decide +kernel
theorem dX7_punches_38 : decode cX7_punches 38 = .ok (.iload_n 2, 1) := by decide +kernel
theorem dX7_punches_39 : decode cX7_punches 39 = .ok (.ishl, 1) := by decide +kernel
theorem dX7_punches_40 : decode cX7_punches 40 = .ok (.ixor, 1) := by decide +kernel
theorem dX7_punches_41 : decode cX7_punches 41 = .ok (.iastore, 1) := by decide +kernel
theorem dX7_punches_42 : decode cX7_punches 42 = .ok (.aload_n 0, 1) := by decide +kernel
theorem dX7_punches_43 : decode cX7_punches 43 = .ok (.getfield 7, 3) := by decide +kernel
theorem dX7_punches_46 : decode cX7_punches 46 = .ok (.bipush 16, 2) := by decide +kernel
theorem dX7_punches_48 : decode cX7_punches 48 = .ok (.iload_n 1, 1) := by decide +kernel
theorem dX7_punches_49 : decode cX7_punches 49 = .ok (.iadd, 1) := by decide +kernel
theorem dX7_punches_50 : decode cX7_punches 50 = .ok (.iaload, 1) := by decide +kernel
theorem dX7_punches_51 : decode cX7_punches 51 = .ok (.iload_n 2, 1) := by decide +kernel
theorem dX7_punches_52 : decode cX7_punches 52 = .ok (.ishr, 1) := by decide +kernel
theorem dX7_punches_53 : decode cX7_punches 53 = .ok (.iconst 1, 1) := by decide +kernel
theorem dX7_punches_54 : decode cX7_punches 54 = .ok (.iand, 1) := by decide +kernel
theorem dX7_punches_55 : decode cX7_punches 55 = .ok (.ireturn, 1) := by decide +kernel
set_option maxRecDepth 20000 in
theorem ggX7_becomes_X7_notes : GoodIn wsX7_becomes wsX7_notes := goodIn_r _ [6, 7, 8, 1, 9, 10, 11, 12, 13, 14, 15, 16, 17, 18, 19, 20, 21, 22, 23, 24, 25, 26, 27] (by decide +kernel) (by decide +kernel)
set_option maxRecDepth 20000 in
theorem gX7_becomes_X7_notes : GoodIn wsX7_becomes (wsV RX7 111 RX7 yX7_notes wsX7_notes) := goodIn_app (goodIn_of _ (by decide +kernel)) ggX7_becomes_X7_notes
theorem dX7_becomes_0 : decode cX7_becomes 0 = .ok (.aload_n 0, 1) := by decide +kernel
theorem dX7_becomes_1 : decode cX7_becomes 1 = .ok (.getfield 7, 3) := by decide +kernel
theorem dX7_becomes_4 : decode cX7_becomes 4 = .ok (.iload_n 1, 1) := by decide +kernel
theorem dX7_becomes_5 : decode cX7_becomes 5 = .ok (.iaload, 1) := by decide +kernel
theorem dX7_becomes_6 : decode cX7_becomes 6 = .ok (.istore_n 3, 1) := by decide +kernel
theorem dX7_becomes_7 : decode cX7_becomes 7 = .ok (.iload_n 3, 1) := by decide +kernel
theorem dX7_becomes_8 : decode cX7_becomes 8 = .ok (.iload_n 2, 1) := by decide +kernel
theorem dX7_becomes_9 : decode cX7_becomes 9 = .ok (.if_icmp .ne 6, 3) := by decide +kernel
theorem dX7_becomes_12 : decode cX7_becomes 12 = .ok (.bipush (-2), 2) := by decide +kernel
theorem dX7_becomes_14 : decode cX7_becomes 14 = .ok (.ireturn, 1) := by decide +kernel
theorem dX7_becomes_15 : decode cX7_becomes 15 = .ok (.aload_n 0, 1) := by decide +kernel
theorem dX7_becomes_16 : decode cX7_becomes 16 = .ok (.invokevirtual 111, 3) := by decide +kernel
theorem dX7_becomes_19 : decode cX7_becomes 19 = .ok (.aload_n 0, 1) := by decide +kernel
theorem dX7_becomes_20 : decode cX7_becomes 20 = .ok (.getfield 7, 3) := by decide +kernel
theorem dX7_becomes_23 : decode cX7_becomes 23 = .ok (.iload_n 1, 1) := by decide +kernel
theorem dX7_becomes_24 : decode cX7_becomes 24 = .ok (.iload_n 2, 1) := by decide +kernel
theorem dX7_becomes_25 : decode cX7_becomes 25 = .ok (.iastore, 1) := by decide +kernel
theorem dX7_becomes_26 : decode cX7_becomes 26 = .ok (.iload_n 3, 1) := by decide +kernel
theorem dX7_becomes_27 : decode cX7_becomes 27 = .ok (.ireturn, 1) := by decide +kernel
set_option maxRecDepth 20000 in
theorem ggX7_ties_X7_isEnd : GoodIn wsX7_ties wsX7_isEnd := goodIn_r _ [6, 7, 8, 9, 5, 10, 25, 26, 27, 28, 29, 30, 31, 32, 33, 34, 35, 36, 37, 38, 39, 40, 41, 42, 43] (by decide +kernel) (by decide +kernel)
set_option maxRecDepth 20000 in
theorem gX7_ties_X7_isEnd : GoodIn wsX7_ties (wsV RX7 124 RX7 yX7_isEnd wsX7_isEnd) := goodIn_app (goodIn_of _ (by decide +kernel)) ggX7_ties_X7_isEnd
set_option maxRecDepth 20000 in
theorem ggX7_ties_X7_isHook : GoodIn wsX7_ties wsX7_isHook := goodIn_r _ [14, 7, 8, 9, 5, 10, 25, 26, 27, 28, 29, 30, 31, 32, 33, 34, 35, 36, 37, 38, 39, 40, 41, 42, 43] (by decide +kernel) (by decide +kernel)
set_option maxRecDepth 20000 in
theorem gX7_ties_X7_isHook : GoodIn wsX7_ties (wsV RX7 121 RX7 yX7_isHook wsX7_isHook) := goodIn_app (goodIn_of _ (by decide +kernel)) ggX7_ties_X7_isHook
set_option maxRecDepth 20000 in
theorem ggX7_ties_X7_becomes : GoodIn wsX7_ties wsX7_becomes := goodIn_r _ [18, 7, 19, 20, 21, 5, 22, 23, 24, 25, 26, 27, 28, 29, 30, 31, 32, 33, 34, 35, 36, 37, 38, 39, 40, 41, 42, 43] (by decide +kernel) (by decide +kernel)
set_option maxRecDepth 20000 in
theorem gX7_ties_X7_becomes : GoodIn wsX7_ties (wsV RX7 127 RX7 yX7_becomes wsX7_becomes) := goodIn_app (goodIn_of _ (by decide +kernel)) ggX7_ties_X7_becomes
theorem dX7_ties_0 : decode cX7_ties 0 = .ok (.aload_n 0, 1) := by decide +kernel
theorem dX7_ties_1 : decode cX7_ties 1 = .ok (.iconst 0, 1) := by decide +kernel
theorem dX7_ties_2 : decode cX7_ties 2 = .ok (.putfield 37, 3) := by decide +kernel
theorem dX7_ties_5 : decode cX7_ties 5 = .ok (.aload_n 0, 1) := by decide +kernel
theorem dX7_ties_6 : decode cX7_ties 6 = .ok (.iload_n 1, 1) := by decide +kernel
theorem dX7_ties_7 : decode cX7_ties 7 = .ok (.invokevirtual 124, 3) := by decide +kernel
theorem dX7_ties_10 : decode cX7_ties 10 = .ok (.ifCond .eq 22, 3) := by decide +kernel
theorem dX7_ties_13 : decode cX7_ties 13 = .ok (.aload_n 0, 1) := by decide +kernel
theorem dX7_ties_14 : decode cX7_ties 14 = .ok (.iload_n 2, 1) := by decide +kernel
theorem dX7_ties_15 : decode cX7_ties 15 = .ok (.invokevirtual 121, 3) := by decide +kernel
theorem dX7_ties_18 : decode cX7_ties 18 = .ok (.ifCond .eq 14, 3) := by decide +kernel
theorem dX7_ties_21 : decode cX7_ties 21 = .ok (.aload_n 0, 1) := by decide +kernel
theorem dX7_ties_22 : decode cX7_ties 22 = .ok (.iconst 4, 1) := by decide +kernel
theorem dX7_ties_23 : decode cX7_ties 23 = .ok (.iload_n 1, 1) := by decide +kernel
theorem dX7_ties_24 : decode cX7_ties 24 = .ok (.iadd, 1) := by decide +kernel
theorem dX7_ties_25 : decode cX7_ties 25 = .ok (.iload_n 2, 1) := by decide +kernel
theorem dX7_ties_26 : decode cX7_ties 26 = .ok (.invokevirtual 127, 3) := by decide +kernel
theorem dX7_ties_29 : decode cX7_ties 29 = .ok (.goto 4, 3) := by decide +kernel
theorem dX7_ties_32 : decode cX7_ties 32 = .ok (.iconst (-1), 1) := by decide +kernel
theorem dX7_ties_33 : decode cX7_ties 33 = .ok (.ireturn, 1) := by decide +kernel
