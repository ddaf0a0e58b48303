theorem dX8_take_260 : decode cX8_take 260 = .ok (.getfield 121, 3) := by decide +kernel
theorem dX8_take_263 : decode cX8_take 263 = .ok (.iconst 1, 1) := by decide +kernel
theorem dX8_take_264 : decode cX8_take 264 = .ok (.iadd, 1) := by decide +kernel
theorem dX8_take_265 : decode cX8_take 265 = .ok (.putfield 121, 3) := by decide +kernel
theorem dX8_take_268 : decode cX8_take 268 = .ok (.return_, 1) := by decide +kernel
set_option maxRecDepth 20000 in
theorem ggX8_number_X8_wrong : GoodIn wsX8_number wsX8_wrong := goodIn_r _ [9, 10, 11, 32, 33, 34, 35, 36, 37, 38, 39, 40, 41, 42, 43, 44, 45, 46, 47, 48, 49, 50, 51, 52, 53, 54, 55, 56, 57, 58, 59, 60, 61, 62, 63, 64, 65, 66, 67, 68, 69, 70, 71, 72, 73, 74, 75] (by decide +kernel) (by decide +kernel)
set_option maxRecDepth 20000 in
theorem gX8_number_X8_wrong : GoodIn wsX8_number (wsV RX8 143 RX8 yX8_wrong wsX8_wrong) := goodIn_app (goodIn_of _ (by decide +kernel)) ggX8_number_X8_wrong
set_option maxRecDepth 20000 in
theorem ggX8_number_X8_take : GoodIn wsX8_number wsX8_take := goodIn_r _ [15, 16, 17, 18, 2, 1, 3, 19, 20, 21, 8, 22, 23, 24, 25, 26, 27, 28, 29, 30, 31, 32, 33, 34, 35, 36, 37, 38, 39, 40, 41, 42, 43, 44, 45, 46, 47, 48, 49, 50, 51, 52, 53, 54, 55, 56, 57, 58, 59, 60, 61, 62, 63, 64, 65, 66, 67, 68, 69, 70, 71, 72, 73, 74, 75] (by decide +kernel) (by decide +kernel)
set_option maxRecDepth 20000 in
theorem gX8_number_X8_take : GoodIn wsX8_number (wsV RX8 150 RX8 yX8_take wsX8_take) := goodIn_app (goodIn_of _ (by decide +kernel)) ggX8_number_X8_take
theorem dX8_number_0 : decode cX8_number 0 = .ok (.aload_n 0, 1) := by decide +kernel
theorem dX8_number_1 : decode cX8_number 1 = .ok (.getfield 127, 3) := by decide +kernel
theorem dX8_number_4 : decode cX8_number 4 = .ok (.iconst 2, 1) := by decide +kernel
theorem dX8_number_5 : decode cX8_number 5 = .ok (.if_icmp .eq 13, 3) := by decide +kernel
theorem dX8_number_8 : decode cX8_number 8 = .ok (.aload_n 0, 1) := by decide +kernel
theorem dX8_number_9 : decode cX8_number 9 = .ok (.iconst 1, 1) := by decide +kernel
theorem dX8_number_10 : decode cX8_number 10 = .ok (.aload_n 0, 1) := by decide +kernel
theorem dX8_number_11 : decode cX8_number 11 = .ok (.getfield 124, 3) := by decide +kernel
theorem dX8_number_14 : decode cX8_number 14 = .ok (.invokevirtual 143, 3) := by decide +kernel
theorem dX8_number_17 : decode cX8_number 17 = .ok (.ireturn, 1) := by decide +kernel
theorem dX8_number_18 : decode cX8_number 18 = .ok (.aload_n 0, 1) := by decide +kernel
theorem dX8_number_19 : decode cX8_number 19 = .ok (.getfield 137, 3) := by decide +kernel
theorem dX8_number_22 : decode cX8_number 22 = .ok (.iload_n 1, 1) := by decide +kernel
theorem dX8_number_23 : decode cX8_number 23 = .ok (.if_icmp .le 13, 3) := by decide +kernel
theorem dX8_number_26 : decode cX8_number 26 = .ok (.aload_n 0, 1) := by decide +kernel
theorem dX8_number_27 : decode cX8_number 27 = .ok (.iconst 2, 1) := by decide +kernel
theorem dX8_number_28 : decode cX8_number 28 = .ok (.aload_n 0, 1) := by decide +kernel
theorem dX8_number_29 : decode cX8_number 29 = .ok (.getfield 124, 3) := by decide +kernel
theorem dX8_number_32 : decode cX8_number 32 = .ok (.invokevirtual 143, 3) := by decide +kernel
theorem dX8_number_35 : decode cX8_number 35 = .ok (.ireturn, 1) := by decide +kernel
theorem dX8_number_36 : decode cX8_number 36 = .ok (.aload_n 0, 1) := by decide +kernel
theorem dX8_number_37 : decode cX8_number 37 = .ok (.aload_n 0, 1) := by decide +kernel
theorem dX8_number_38 : decode cX8_number 38 = .ok (.getfield 137, 3) := by decide +kernel
theorem dX8_number_41 : decode cX8_number 41 = .ok (.putfield 147, 3) := by decide +kernel
theorem dX8_number_44 : decode cX8_number 44 = .ok (.aload_n 0, 1) := by decide +kernel
theorem dX8_number_45 : decode cX8_number 45 = .ok (.invokevirtual 150, 3) := by decide +kernel
theorem dX8_number_48 : decode cX8_number 48 = .ok (.iconst 1, 1) := by decide +kernel
theorem dX8_number_49 : decode cX8_number 49 = .ok (.ireturn, 1) := by decide +kernel
set_option maxRecDepth 20000 in
theorem ggX8_line_X8_wrong : GoodIn wsX8_line wsX8_wrong := goodIn_r _ [10, 11, 12, 37, 38, 39, 40, 41, 42, 43, 44, 45, 46, 47, 48, 49, 50, 51, 52, 53, 54, 55, 56, 57, 58, 59, 60, 61, 62, 63, 64, 65, 66, 67, 68, 69, 70, 71, 72, 73, 74, 75, 76, 77, 78, 79, 80] (by decide +kernel) (by decide +kernel)
set_option maxRecDepth 20000 in
theorem gX8_line_X8_wrong : GoodIn wsX8_line (wsV RX8 143 RX8 yX8_wrong wsX8_wrong) := goodIn_app (goodIn_of _ (by decide +kernel)) ggX8_line_X8_wrong
set_option maxRecDepth 20000 in
theorem ggX8_line_X8_take : GoodIn wsX8_line wsX8_take := goodIn_r _ [16, 17, 18, 19, 2, 1, 3, 20, 21, 22, 9, 23, 24, 25, 26, 27, 28, 29, 30, 31, 32, 37, 38, 39, 40, 41, 42, 43, 44, 45, 46, 47, 48, 49, 50, 51, 52, 53, 54, 55, 56, 57, 58, 59, 60, 61, 62, 63, 64, 65, 66, 67, 68, 69, 70, 71, 72, 73, 74, 75, 76, 77, 78, 79, 80] (by decide +kernel) (by decide +kernel)
set_option maxRecDepth 20000 in
theorem gX8_line_X8_take : GoodIn wsX8_line (wsV RX8 150 RX8 yX8_take wsX8_take) := goodIn_app (goodIn_of _ (by decide +kernel)) ggX8_line_X8_take
set_option maxRecDepth 20000 in
theorem ggX8_line_X8_number : GoodIn wsX8_line wsX8_number := goodIn_r _ [36, 1, 2, 3, 5, 6, 7, 8, 9, 10, 11, 12, 13, 14, 15, 16, 17, 18, 19, 20, 21, 22, 23, 24, 25, 26, 27, 28, 29, 30, 31, 32, 37, 38, 39, 40, 41, 42, 43, 44, 45, 46, 47, 48, 49, 50, 51, 52, 53, 54, 55, 56, 57, 58, 59, 60, 61, 62, 63, 64, 65, 66, 67, 68, 69, 70, 71, 72, 73, 74, 75, 76, 77, 78, 79, 80] (by decide +kernel) (by decide +kernel)
set_option maxRecDepth 20000 in
theorem gX8_line_X8_number : GoodIn wsX8_line (wsV RX8 153 RX8 yX8_number wsX8_number) := goodIn_app (goodIn_of _ (by decide +kernel)) ggX8_line_X8_number
theorem dX8_line_0 : decode cX8_line 0 = .ok (.aload_n 0, 1) := by decide +kernel
theorem dX8_line_1 : decode cX8_line 1 = .ok (.getfield 127, 3) := by decide +kernel
theorem dX8_line_4 : decode cX8_line 4 = .ok (.iconst 1, 1) := by decide +kernel
theorem dX8_line_5 : decode cX8_line 5 = .ok (.if_icmp .eq 13, 3) := by decide +kernel
theorem dX8_line_8 : decode cX8_line 8 = .ok (.aload_n 0, 1) := by decide +kernel
theorem dX8_line_9 : decode cX8_line 9 = .ok (.iconst 1, 1) := by decide +kernel
theorem dX8_line_10 : decode cX8_line 10 = .ok (.aload_n 0, 1) := by decide +kernel
theorem dX8_line_11 : decode cX8_line 11 = .ok (.getfield 124, 3) := by decide +kernel
theorem dX8_line_14 : decode cX8_line 14 = .ok (.invokevirtual 143, 3) := by decide +kernel
theorem dX8_line_17 : decode cX8_line 17 = .ok (.ireturn, 1) := by decide +kernel
theorem dX8_line_18 : decode cX8_line 18 = .ok (.aload_n 0, 1) := by decide +kernel
theorem dX8_line_19 : decode cX8_line 19 = .ok (.getfield 137, 3) := by decide +kernel
theorem dX8_line_22 : decode cX8_line 22 = .ok (.istore_n 1, 1) := by decide +kernel
theorem dX8_line_23 : decode cX8_line 23 = .ok (.aload_n 0, 1) := by decide +kernel
theorem dX8_line_24 : decode cX8_line 24 = .ok (.getfield 124, 3) := by decide +kernel
theorem dX8_line_27 : decode cX8_line 27 = .ok (.istore_n 2, 1) := by decide +kernel
theorem dX8_line_28 : decode cX8_line 28 = .ok (.iload_n 1, 1) := by decide +kernel
theorem dX8_line_29 : decode cX8_line 29 = .ok (.iconst 1, 1) := by decide +kernel
theorem dX8_line_30 : decode cX8_line 30 = .ok (.if_icmp .le 53, 3) := by decide +kernel
theorem dX8_line_33 : decode cX8_line 33 = .ok (.bipush 16, 2) := by decide +kernel
theorem dX8_line_35 : decode cX8_line 35 = .ok (.iload_n 1, 1) := by decide +kernel
theorem dX8_line_36 : decode cX8_line 36 = .ok (.iadd, 1) := by decide +kernel
theorem dX8_line_37 : decode cX8_line 37 = .ok (.istore_n 3, 1) := by decide +kernel
theorem dX8_line_38 : decode cX8_line 38 = .ok (.aload_n 0, 1) := by decide +kernel
theorem dX8_line_39 : decode cX8_line 39 = .ok (.getfield 47, 3) := by decide +kernel
theorem dX8_line_42 : decode cX8_line 42 = .ok (.iload_n 3, 1) := by decide +kernel
theorem dX8_line_43 : decode cX8_line 43 = .ok (.iaload, 1) := by decide +kernel
theorem dX8_line_44 : decode cX8_line 44 = .ok (.ifCond .lt 10, 3) := by decide +kernel
theorem dX8_line_47 : decode cX8_line 47 = .ok (.aload_n 0, 1) := by decide +kernel
theorem dX8_line_48 : decode cX8_line 48 = .ok (.iconst 3, 1) := by decide +kernel
theorem dX8_line_49 : decode cX8_line 49 = .ok (.iload_n 2, 1) := by decide +kernel
theorem dX8_line_50 : decode cX8_line 50 = .ok (.invokevirtual 143, 3) := by decide +kernel
theorem dX8_line_53 : decode cX8_line 53 = .ok (.ireturn, 1) := by decide +kernel
theorem dX8_line_54 : decode cX8_line 54 = .ok (.aload_n 0, 1) := by decide +kernel
theorem dX8_line_55 : decode cX8_line 55 = .ok (.invokevirtual 150, 3) := by decide +kernel
theorem dX8_line_58 : decode cX8_line 58 = .ok (.aload_n 0, 1) := by decide +kernel
theorem dX8_line_59 : decode cX8_line 59 = .ok (.sipush 999, 3) := by decide +kernel
theorem dX8_line_62 : decode cX8_line 62 = .ok (.invokevirtual 153, 3) := by decide +kernel
theorem dX8_line_65 : decode cX8_line 65 = .ok (.ifCond .ne 5, 3) := by decide +kernel
theorem dX8_line_68 : decode cX8_line 68 = .ok (.iconst 0, 1) := by decide +kernel
theorem dX8_line_69 : decode cX8_line 69 = .ok (.ireturn, 1) := by decide +kernel
theorem dX8_line_70 : decode cX8_line 70 = .ok (.aload_n 0, 1) := by decide +kernel
theorem dX8_line_71 : decode cX8_line 71 = .ok (.getfield 47, 3) := by decide +kernel
theorem dX8_line_74 : decode cX8_line 74 = .ok (.iload_n 3, 1) := by decide +kernel
theorem dX8_line_75 : decode cX8_line 75 = .ok (.aload_n 0, 1) := by decide +kernel
theorem dX8_line_76 : decode cX8_line 76 = .ok (.getfield 147, 3) := by decide +kernel
theorem dX8_line_79 : decode cX8_line 79 = .ok (.iastore, 1) := by decide +kernel
theorem dX8_line_80 : decode cX8_line 80 = .ok (.goto 105, 3) := by decide +kernel
theorem dX8_line_83 : decode cX8_line 83 = .ok (.aload_n 0, 1) := by decide +kernel
theorem dX8_line_84 : decode cX8_line 84 = .ok (.invokevirtual 150, 3) := by decide +kernel
theorem dX8_line_87 : decode cX8_line 87 = .ok (.aload_n 0, 1) := by decide +kernel
theorem dX8_line_88 : decode cX8_line 88 = .ok (.getfield 124, 3) := by decide +kernel
theorem dX8_line_91 : decode cX8_line 91 = .ok (.istore_n 2, 1) := by decide +kernel
theorem dX8_line_92 : decode cX8_line 92 = .ok (.aload_n 0, 1) := by decide +kernel
theorem dX8_line_93 : decode cX8_line 93 = .ok (.getfield 127, 3) := by decide +kernel
theorem dX8_line_96 : decode cX8_line 96 = .ok (.iconst 2, 1) := by decide +kernel
theorem dX8_line_97 : decode cX8_line 97 = .ok (.if_icmp .ne 37, 3) := by decide +kernel
theorem dX8_line_100 : decode cX8_line 100 = .ok (.aload_n 0, 1) := by decide +kernel
theorem dX8_line_101 : decode cX8_line 101 = .ok (.getfield 137, 3) := by decide +kernel
theorem dX8_line_104 : decode cX8_line 104 = .ok (.iconst 3, 1) := by decide +kernel
theorem dX8_line_105 : decode cX8_line 105 = .ok (.if_icmp .gt 29, 3) := by decide +kernel
theorem dX8_line_108 : decode cX8_line 108 = .ok (.aload_n 0, 1) := by decide +kernel
theorem dX8_line_109 : decode cX8_line 109 = .ok (.getfield 47, 3) := by decide +kernel
theorem dX8_line_112 : decode cX8_line 112 = .ok (.bipush 10, 2) := by decide +kernel
theorem dX8_line_114 : decode cX8_line 114 = .ok (.iconst 4, 1) := by decide +kernel
theorem dX8_line_115 : decode cX8_line 115 = .ok (.iload_n 1, 1) := by decide +kernel
theorem dX8_line_116 : decode cX8_line 116 = .ok (.imul, 1) := by decide +kernel
theorem dX8_line_117 : decode cX8_line 117 = .ok (.iadd, 1) := by decide +kernel
theorem dX8_line_118 : decode cX8_line 118 = .ok (.aload_n 0, 1) := by decide +kernel
theorem dX8_line_119 : decode cX8_line 119 = .ok (.getfield 137, 3) := by decide +kernel
theorem dX8_line_122 : decode cX8_line 122 = .ok (.iadd, 1) := by decide +kernel
theorem dX8_line_123 : decode cX8_line 123 = .ok (.iaload, 1) := by decide +kernel
theorem dX8_line_124 : decode cX8_line 124 = .ok (.ifCond .lt 10, 3) := by decide +kernel
theorem dX8_line_127 : decode cX8_line 127 = .ok (.aload_n 0, 1) := by decide +kernel
theorem dX8_line_128 : decode cX8_line 128 = .ok (.iconst 3, 1) := by decide +kernel
theorem dX8_line_129 : decode cX8_line 129 = .ok (.iload_n 2, 1) := by decide +kernel
theorem dX8_line_130 : decode cX8_line 130 = .ok (.invokevirtual 143, 3) := by decide +kernel
theorem dX8_line_133 : decode cX8_line 133 = .ok (.ireturn, 1) := by decide +kernel
theorem dX8_line_134 : decode cX8_line 134 = .ok (.aload_n 0, 1) := by decide +kernel
theorem dX8_line_135 : decode cX8_line 135 = .ok (.iconst 3, 1) := by decide +kernel
theorem dX8_line_136 : decode cX8_line 136 = .ok (.invokevirtual 153, 3) := by decide +kernel
theorem dX8_line_139 : decode cX8_line 139 = .ok (.ifCond .ne 5, 3) := by decide +kernel
theorem dX8_line_142 : decode cX8_line 142 = .ok (.iconst 0, 1) := by decide +kernel
theorem dX8_line_143 : decode cX8_line 143 = .ok (.ireturn, 1) := by decide +kernel
theorem dX8_line_144 : decode cX8_line 144 = .ok (.bipush 10, 2) := by decide +kernel
theorem dX8_line_146 : decode cX8_line 146 = .ok (.iconst 4, 1) := by decide +kernel
theorem dX8_line_147 : decode cX8_line 147 = .ok (.iload_n 1, 1) := by decide +kernel
theorem dX8_line_148 : decode cX8_line 148 = .ok (.imul, 1) := by decide +kernel
theorem dX8_line_149 : decode cX8_line 149 = .ok (.iadd, 1) := by decide +kernel
theorem dX8_line_150 : decode cX8_line 150 = .ok (.aload_n 0, 1) := by decide +kernel
theorem dX8_line_151 : decode cX8_line 151 = .ok (.getfield 147, 3) := by decide +kernel
theorem dX8_line_154 : decode cX8_line 154 = .ok (.iadd, 1) := by decide +kernel
theorem dX8_line_155 : decode cX8_line 155 = .ok (.istore_n 3, 1) := by decide +kernel
theorem dX8_line_156 : decode cX8_line 156 = .ok (.aload_n 0, 1) := by decide +kernel
theorem dX8_line_157 : decode cX8_line 157 = .ok (.iload_n 1, 1) := by decide +kernel
theorem dX8_line_158 : decode cX8_line 158 = .ok (.ifCond .ne 8, 3) := by decide +kernel
theorem dX8_line_161 : decode cX8_line 161 = .ok (.bipush 100, 2) := by decide +kernel
theorem dX8_line_163 : decode cX8_line 163 = .ok (.goto 4, 3) := by decide +kernel
theorem dX8_line_166 : decode cX8_line 166 = .ok (.iconst 3, 1) := by decide +kernel
theorem dX8_line_167 : decode cX8_line 167 = .ok (.invokevirtual 153, 3) := by decide +kernel
theorem dX8_line_170 : decode cX8_line 170 = .ok (.ifCond .ne 5, 3) := by decide +kernel
theorem dX8_line_173 : decode cX8_line 173 = .ok (.iconst 0, 1) := by decide +kernel
theorem dX8_line_174 : decode cX8_line 174 = .ok (.ireturn, 1) := by decide +kernel
theorem dX8_line_175 : decode cX8_line 175 = .ok (.aload_n 0, 1) := by decide +kernel
theorem dX8_line_176 : decode cX8_line 176 = .ok (.getfield 47, 3) := by decide +kernel
theorem dX8_line_179 : decode cX8_line 179 = .ok (.iload_n 3, 1) := by decide +kernel
theorem dX8_line_180 : decode cX8_line 180 = .ok (.aload_n 0, 1) := by decide +kernel
theorem dX8_line_181 : decode cX8_line 181 = .ok (.getfield 147, 3) := by decide +kernel
theorem dX8_line_184 : decode cX8_line 184 = .ok (.iastore, 1) := by decide +kernel
theorem dX8_line_185 : decode cX8_line 185 = .ok (.iconst 1, 1) := by decide +kernel
theorem dX8_line_186 : decode cX8_line 186 = .ok (.ireturn, 1) := by decide +kernel
set_option maxRecDepth 20000 in
theorem ggX8_decree_X8_take : GoodIn wsX8_decree wsX8_take := goodIn_r _ [16, 7, 3, 17, 9, 8, 18, 19, 20, 21, 15, 22, 23, 24, 25, 26, 27, 28, 29, 30, 31, 45, 46, 47, 48, 49, 50, 51, 52, 53, 54, 55, 56, 57, 58, 59, 60, 61, 62, 63, 64, 65, 66, 67, 68, 69, 70, 71, 72, 73, 74, 75, 76, 77, 78, 79, 80, 81, 82, 83, 84, 85, 86, 87, 88] (by decide +kernel) (by decide +kernel)
set_option maxRecDepth 20000 in
theorem gX8_decree_X8_take : GoodIn wsX8_decree (wsV RX8 150 RX8 yX8_take wsX8_take) := goodIn_app (goodIn_of _ (by decide +kernel)) ggX8_decree_X8_take
set_option maxRecDepth 20000 in
theorem ggX8_decree_X8_line : GoodIn wsX8_decree wsX8_line := goodIn_r _ [35, 8, 9, 18, 6, 36, 37, 38, 39, 15, 40, 4, 5, 12, 13, 14, 16, 7, 3, 17, 19, 20, 21, 22, 23, 24, 25, 26, 27, 28, 29, 30, 31, 41, 42, 43, 44, 45, 46, 47, 48, 49, 50, 51, 52, 53, 54, 55, 56, 57, 58, 59, 60, 61, 62, 63, 64, 65, 66, 67, 68, 69, 70, 71, 72, 73, 74, 75, 76, 77, 78, 79, 80, 81, 82, 83, 84, 85, 86, 87, 88] (by decide +kernel) (by decide +kernel)
set_option maxRecDepth 20000 in
theorem gX8_decree_X8_line : GoodIn wsX8_decree (wsV RX8 156 RX8 yX8_line wsX8_line) := goodIn_app (goodIn_of _ (by decide +kernel)) ggX8_decree_X8_line
set_option maxRecDepth 20000 in
theorem ggX8_decree_X8_wrong : GoodIn wsX8_decree wsX8_wrong := goodIn_r _ [40, 4, 5, 45, 46, 47, 48, 49, 50, 51, 52, 53, 54, 55, 56, 57, 58, 59, 60, 61, 62, 63, 64, 65, 66, 67, 68, 69, 70, 71, 72, 73, 74, 75, 76, 77, 78, 79, 80, 81, 82, 83, 84, 85, 86, 87, 88] (by decide +kernel) (by decide +kernel)
set_option maxRecDepth 20000 in
theorem gX8_decree_X8_wrong : GoodIn wsX8_decree (wsV RX8 143 RX8 yX8_wrong wsX8_wrong) := goodIn_app (goodIn_of _ (by decide +kernel)) ggX8_decree_X8_wrong
theorem dX8_decree_0 : decode cX8_decree 0 = .ok (.aload_n 0, 1) := by decide +kernel
theorem dX8_decree_1 : decode cX8_decree 1 = .ok (.iconst 0, 1) := by decide +kernel
theorem dX8_decree_2 : decode cX8_decree 2 = .ok (.putfield 87, 3) := by decide +kernel
theorem dX8_decree_5 : decode cX8_decree 5 = .ok (.iload_n 1, 1) := by decide +kernel
theorem dX8_decree_6 : decode cX8_decree 6 = .ok (.ifCond .lt 11, 3) := by decide +kernel
theorem dX8_decree_9 : decode cX8_decree 9 = .ok (.iload_n 1, 1) := by decide +kernel
theorem dX8_decree_10 : decode cX8_decree 10 = .ok (.aload_n 0, 1) := by decide +kernel
theorem dX8_decree_11 : decode cX8_decree 11 = .ok (.getfield 90, 3) := by decide +kernel
theorem dX8_decree_14 : decode cX8_decree 14 = .ok (.if_icmp .le 6, 3) := by decide +kernel
theorem dX8_decree_17 : decode cX8_decree 17 = .ok (.bipush (-2), 2) := by decide +kernel
theorem dX8_decree_19 : decode cX8_decree 19 = .ok (.ireturn, 1) := by decide +kernel
theorem dX8_decree_20 : decode cX8_decree 20 = .ok (.aload_n 0, 1) := by decide +kernel
theorem dX8_decree_21 : decode cX8_decree 21 = .ok (.iload_n 1, 1) := by decide +kernel
theorem dX8_decree_22 : decode cX8_decree 22 = .ok (.putfield 118, 3) := by decide +kernel
theorem dX8_decree_25 : decode cX8_decree 25 = .ok (.aload_n 0, 1) := by decide +kernel
theorem dX8_decree_26 : decode cX8_decree 26 = .ok (.iconst 0, 1) := by decide +kernel
theorem dX8_decree_27 : decode cX8_decree 27 = .ok (.putfield 90, 3) := by decide +kernel
theorem dX8_decree_30 : decode cX8_decree 30 = .ok (.aload_n 0, 1) := by decide +kernel
theorem dX8_decree_31 : decode cX8_decree 31 = .ok (.iconst 0, 1) := by decide +kernel
theorem dX8_decree_32 : decode cX8_decree 32 = .ok (.putfield 115, 3) := by decide +kernel
theorem dX8_decree_35 : decode cX8_decree 35 = .ok (.aload_n 0, 1) := by decide +kernel
theorem dX8_decree_36 : decode cX8_decree 36 = .ok (.iconst (-1), 1) := by decide +kernel
theorem dX8_decree_37 : decode cX8_decree 37 = .ok (.putfield 50, 3) := by decide +kernel
theorem dX8_decree_40 : decode cX8_decree 40 = .ok (.bipush 10, 2) := by decide +kernel
theorem dX8_decree_42 : decode cX8_decree 42 = .ok (.istore_n 2, 1) := by decide +kernel
theorem dX8_decree_43 : decode cX8_decree 43 = .ok (.iload_n 2, 1) := by decide +kernel
theorem dX8_decree_44 : decode cX8_decree 44 = .ok (.bipush 20, 2) := by decide +kernel
theorem dX8_decree_46 : decode cX8_decree 46 = .ok (.if_icmp .ge 16, 3) := by decide +kernel
theorem dX8_decree_49 : decode cX8_decree 49 = .ok (.aload_n 0, 1) := by decide +kernel
theorem dX8_decree_50 : decode cX8_decree 50 = .ok (.getfield 47, 3) := by decide +kernel
theorem dX8_decree_53 : decode cX8_decree 53 = .ok (.iload_n 2, 1) := by decide +kernel
theorem dX8_decree_54 : decode cX8_decree 54 = .ok (.iconst (-1), 1) := by decide +kernel
theorem dX8_decree_55 : decode cX8_decree 55 = .ok (.iastore, 1) := by decide +kernel
theorem dX8_decree_56 : decode cX8_decree 56 = .ok (.iinc 2 1, 3) := by decide +kernel
theorem dX8_decree_59 : decode cX8_decree 59 = .ok (.goto (-16), 3) := by decide +kernel
theorem dX8_decree_62 : decode cX8_decree 62 = .ok (.aload_n 0, 1) := by decide +kernel
theorem dX8_decree_63 : decode cX8_decree 63 = .ok (.iconst 0, 1) := by decide +kernel
theorem dX8_decree_64 : decode cX8_decree 64 = .ok (.putfield 121, 3) := by decide +kernel
theorem dX8_decree_67 : decode cX8_decree 67 = .ok (.iconst 0, 1) := by decide +kernel
theorem dX8_decree_68 : decode cX8_decree 68 = .ok (.istore_n 2, 1) := by decide +kernel
theorem dX8_decree_69 : decode cX8_decree 69 = .ok (.aload_n 0, 1) := by decide +kernel
theorem dX8_decree_70 : decode cX8_decree 70 = .ok (.invokevirtual 150, 3) := by decide +kernel
theorem dX8_decree_73 : decode cX8_decree 73 = .ok (.aload_n 0, 1) := by decide +kernel
theorem dX8_decree_74 : decode cX8_decree 74 = .ok (.getfield 127, 3) := by decide +kernel
theorem dX8_decree_77 : decode cX8_decree 77 = .ok (.ifCond .eq 42, 3) := by decide +kernel
theorem dX8_decree_80 : decode cX8_decree 80 = .ok (.aload_n 0, 1) := by decide +kernel
theorem dX8_decree_81 : decode cX8_decree 81 = .ok (.invokevirtual 156, 3) := by decide +kernel
theorem dX8_decree_84 : decode cX8_decree 84 = .ok (.ifCond .ne 5, 3) := by decide +kernel
theorem dX8_decree_87 : decode cX8_decree 87 = .ok (.iconst (-1), 1) := by decide +kernel
theorem dX8_decree_88 : decode cX8_decree 88 = .ok (.ireturn, 1) := by decide +kernel
theorem dX8_decree_89 : decode cX8_decree 89 = .ok (.aload_n 0, 1) := by decide +kernel
theorem dX8_decree_90 : decode cX8_decree 90 = .ok (.getfield 127, 3) := by decide +kernel
theorem dX8_decree_93 : decode cX8_decree 93 = .ok (.iconst 3, 1) := by decide +kernel
theorem dX8_decree_94 : decode cX8_decree 94 = .ok (.if_icmp .eq 15, 3) := by decide +kernel
theorem dX8_decree_97 : decode cX8_decree 97 = .ok (.aload_n 0, 1) := by decide +kernel
theorem dX8_decree_98 : decode cX8_decree 98 = .ok (.iconst 1, 1) := by decide +kernel
theorem dX8_decree_99 : decode cX8_decree 99 = .ok (.aload_n 0, 1) := by decide +kernel
theorem dX8_decree_100 : decode cX8_decree 100 = .ok (.getfield 124, 3) := by decide +kernel
theorem dX8_decree_103 : decode cX8_decree 103 = .ok (.invokevirtual 143, 3) := by decide +kernel
theorem dX8_decree_106 : decode cX8_decree 106 = .ok (.istore_n 3, 1) := by decide +kernel
theorem dX8_decree_107 : decode cX8_decree 107 = .ok (.iconst (-1), 1) := by decide +kernel
theorem dX8_decree_108 : decode cX8_decree 108 = .ok (.ireturn, 1) := by decide +kernel
theorem dX8_decree_109 : decode cX8_decree 109 = .ok (.iinc 2 1, 3) := by decide +kernel
theorem dX8_decree_112 : decode cX8_decree 112 = .ok (.aload_n 0, 1) := by decide +kernel
theorem dX8_decree_113 : decode cX8_decree 113 = .ok (.invokevirtual 150, 3) := by decide +kernel
theorem dX8_decree_116 : decode cX8_decree 116 = .ok (.goto (-43), 3) := by decide +kernel
theorem dX8_decree_119 : decode cX8_decree 119 = .ok (.iconst 0, 1) := by decide +kernel
theorem dX8_decree_120 : decode cX8_decree 120 = .ok (.istore_n 3, 1) := by decide +kernel
theorem dX8_decree_121 : decode cX8_decree 121 = .ok (.iload_n 3, 1) := by decide +kernel
theorem dX8_decree_122 : decode cX8_decree 122 = .ok (.bipush 10, 2) := by decide +kernel
theorem dX8_decree_124 : decode cX8_decree 124 = .ok (.if_icmp .ge 24, 3) := by decide +kernel
theorem dX8_decree_127 : decode cX8_decree 127 = .ok (.aload_n 0, 1) := by decide +kernel
theorem dX8_decree_128 : decode cX8_decree 128 = .ok (.getfield 47, 3) := by decide +kernel
theorem dX8_decree_131 : decode cX8_decree 131 = .ok (.iload_n 3, 1) := by decide +kernel
theorem dX8_decree_132 : decode cX8_decree 132 = .ok (.aload_n 0, 1) := by decide +kernel
theorem dX8_decree_133 : decode cX8_decree 133 = .ok (.getfield 47, 3) := by decide +kernel
theorem dX8_decree_136 : decode cX8_decree 136 = .ok (.bipush 10, 2) := by decide +kernel
theorem dX8_decree_138 : decode cX8_decree 138 = .ok (.iload_n 3, 1) := by decide +kernel
theorem dX8_decree_139 : decode cX8_decree 139 = .ok (.iadd, 1) := by decide +kernel
theorem dX8_decree_140 : decode cX8_decree 140 = .ok (.iaload, 1) := by decide +kernel
theorem dX8_decree_141 : decode cX8_decree 141 = .ok (.iastore, 1) := by decide +kernel
theorem dX8_decree_142 : decode cX8_decree 142 = .ok (.iinc 3 1, 3) := by decide +kernel
theorem dX8_decree_145 : decode cX8_decree 145 = .ok (.goto (-24), 3) := by decide +kernel
theorem dX8_decree_148 : decode cX8_decree 148 = .ok (.aload_n 0, 1) := by decide +kernel
theorem dX8_decree_149 : decode cX8_decree 149 = .ok (.iconst 1, 1) := by decide +kernel
theorem dX8_decree_150 : decode cX8_decree 150 = .ok (.putfield 160, 3) := by decide +kernel
theorem dX8_decree_153 : decode cX8_decree 153 = .ok (.aload_n 0, 1) := by decide +kernel
theorem dX8_decree_154 : decode cX8_decree 154 = .ok (.iload_n 2, 1) := by decide +kernel
theorem dX8_decree_155 : decode cX8_decree 155 = .ok (.putfield 164, 3) := by decide +kernel
theorem dX8_decree_158 : decode cX8_decree 158 = .ok (.iload_n 2, 1) := by decide +kernel
theorem dX8_decree_159 : decode cX8_decree 159 = .ok (.ireturn, 1) := by decide +kernel
theorem dX8_fault_0 : decode cX8_fault 0 = .ok (.aload_n 0, 1) := by decide +kernel
theorem dX8_fault_1 : decode cX8_fault 1 = .ok (.iconst 0, 1) := by decide +kernel
theorem dX8_fault_2 : decode cX8_fault 2 = .ok (.putfield 87, 3) := by decide +kernel
theorem dX8_fault_5 : decode cX8_fault 5 = .ok (.iload_n 1, 1) := by decide +kernel
theorem dX8_fault_6 : decode cX8_fault 6 = .ok (.ifCond .ne 10, 3) := by decide +kernel
theorem dX8_fault_9 : decode cX8_fault 9 = .ok (.aload_n 0, 1) := by decide +kernel
theorem dX8_fault_10 : decode cX8_fault 10 = .ok (.getfield 115, 3) := by decide +kernel
theorem dX8_fault_13 : decode cX8_fault 13 = .ok (.goto 16, 3) := by decide +kernel
theorem dX8_fault_16 : decode cX8_fault 16 = .ok (.iload_n 1, 1) := by decide +kernel
theorem dX8_fault_17 : decode cX8_fault 17 = .ok (.iconst 1, 1) := by decide +kernel
theorem dX8_fault_18 : decode cX8_fault 18 = .ok (.if_icmp .ne 10, 3) := by decide +kernel
theorem dX8_fault_21 : decode cX8_fault 21 = .ok (.aload_n 0, 1) := by decide +kernel
theorem dX8_fault_22 : decode cX8_fault 22 = .ok (.getfield 50, 3) := by decide +kernel
theorem dX8_fault_25 : decode cX8_fault 25 = .ok (.goto 4, 3) := by decide +kernel
theorem dX8_fault_28 : decode cX8_fault 28 = .ok (.iconst (-1), 1) := by decide +kernel
theorem dX8_fault_29 : decode cX8_fault 29 = .ok (.ireturn, 1) := by decide +kernel
theorem dX8_isMeant_0 : decode cX8_isMeant 0 = .ok (.aload_n 0, 1) := by decide +kernel
theorem dX8_isMeant_1 : decode cX8_isMeant 1 = .ok (.getfield 47, 3) := by decide +kernel
theorem dX8_isMeant_4 : decode cX8_isMeant 4 = .ok (.bipush 9, 2) := by decide +kernel
theorem dX8_isMeant_6 : decode cX8_isMeant 6 = .ok (.iaload, 1) := by decide +kernel
theorem dX8_isMeant_7 : decode cX8_isMeant 7 = .ok (.ifCond .lt 19, 3) := by decide +kernel
theorem dX8_isMeant_10 : decode cX8_isMeant 10 = .ok (.aload_n 0, 1) := by decide +kernel
theorem dX8_isMeant_11 : decode cX8_isMeant 11 = .ok (.getfield 40, 3) := by decide +kernel
theorem dX8_isMeant_14 : decode cX8_isMeant 14 = .ok (.iload_n 1, 1) := by decide +kernel
theorem dX8_isMeant_15 : decode cX8_isMeant 15 = .ok (.iaload, 1) := by decide +kernel
theorem dX8_isMeant_16 : decode cX8_isMeant 16 = .ok (.aload_n 0, 1) := by decide +kernel
theorem dX8_isMeant_17 : decode cX8_isMeant 17 = .ok (.getfield 47, 3) := by decide +kernel
theorem dX8_isMeant_20 : decode cX8_isMeant 20 = .ok (.bipush 9, 2) := by decide +kernel
theorem dX8_isMeant_22 : decode cX8_isMeant 22 = .ok (.iaload, 1) := by decide +kernel
theorem dX8_isMeant_23 : decode cX8_isMeant 23 = .ok (.if_icmp .ge 7, 3) := by decide +kernel
theorem dX8_isMeant_26 : decode cX8_isMeant 26 = .ok (.iconst 1, 1) := by decide +kernel
theorem dX8_isMeant_27 : decode cX8_isMeant 27 = .ok (.goto 4, 3) := by decide +kernel
theorem dX8_isMeant_30 : decode cX8_isMeant 30 = .ok (.iconst 0, 1) := by decide +kernel
theorem dX8_isMeant_31 : decode cX8_isMeant 31 = .ok (.ireturn, 1) := by decide +kernel
set_option maxRecDepth 20000 in
theorem ggX8_leftBy_X8_isMeant : GoodIn wsX8_leftBy wsX8_isMeant := goodIn_r _ [8, 1, 9, 10, 11, 12, 13, 14, 15, 16, 17, 18, 19, 20, 21, 22, 23, 24, 25, 26, 27, 28, 29, 30, 31, 32, 33, 34, 35, 36, 37, 38, 39, 40, 41, 42, 43, 44, 45, 46, 47, 48, 49, 50, 51, 52, 53] (by decide +kernel) (by decide +kernel)
set_option maxRecDepth 20000 in
theorem gX8_leftBy_X8_isMeant : GoodIn wsX8_leftBy (wsV RX8 167 RX8 yX8_isMeant wsX8_isMeant) := goodIn_app (goodIn_of _ (by decide +kernel)) ggX8_leftBy_X8_isMeant
theorem dX8_leftBy_0 : decode cX8_leftBy 0 = .ok (.aload_n 0, 1) := by decide +kernel
theorem dX8_leftBy_1 : decode cX8_leftBy 1 = .ok (.iload_n 1, 1) := by decide +kernel
theorem dX8_leftBy_2 : decode cX8_leftBy 2 = .ok (.invokevirtual 167, 3) := by decide +kernel
theorem dX8_leftBy_5 : decode cX8_leftBy 5 = .ok (.ifCond .eq 17, 3) := by decide +kernel
theorem dX8_leftBy_8 : decode cX8_leftBy 8 = .ok (.aload_n 0, 1) := by decide +kernel
theorem dX8_leftBy_9 : decode cX8_leftBy 9 = .ok (.getfield 47, 3) := by decide +kernel
theorem dX8_leftBy_12 : decode cX8_leftBy 12 = .ok (.aload_n 0, 1) := by decide +kernel
theorem dX8_leftBy_13 : decode cX8_leftBy 13 = .ok (.getfield 34, 3) := by decide +kernel
theorem dX8_leftBy_16 : decode cX8_leftBy 16 = .ok (.iload_n 1, 1) := by decide +kernel
theorem dX8_leftBy_17 : decode cX8_leftBy 17 = .ok (.iaload, 1) := by decide +kernel
theorem dX8_leftBy_18 : decode cX8_leftBy 18 = .ok (.iaload, 1) := by decide +kernel
theorem dX8_leftBy_19 : decode cX8_leftBy 19 = .ok (.ifCond .ge 10, 3) := by decide +kernel
theorem dX8_leftBy_22 : decode cX8_leftBy 22 = .ok (.aload_n 0, 1) := by decide +kernel
theorem dX8_leftBy_23 : decode cX8_leftBy 23 = .ok (.getfield 37, 3) := by decide +kernel
theorem dX8_leftBy_26 : decode cX8_leftBy 26 = .ok (.iload_n 1, 1) := by decide +kernel
theorem dX8_leftBy_27 : decode cX8_leftBy 27 = .ok (.iaload, 1) := by decide +kernel
theorem dX8_leftBy_28 : decode cX8_leftBy 28 = .ok (.ireturn, 1) := by decide +kernel
theorem dX8_leftBy_29 : decode cX8_leftBy 29 = .ok (.aload_n 0, 1) := by decide +kernel
theorem dX8_leftBy_30 : decode cX8_leftBy 30 = .ok (.getfield 37, 3) := by decide +kernel
theorem dX8_leftBy_33 : decode cX8_leftBy 33 = .ok (.iload_n 1, 1) := by decide +kernel
theorem dX8_leftBy_34 : decode cX8_leftBy 34 = .ok (.iaload, 1) := by decide +kernel
theorem dX8_leftBy_35 : decode cX8_leftBy 35 = .ok (.aload_n 0, 1) := by decide +kernel
theorem dX8_leftBy_36 : decode cX8_leftBy 36 = .ok (.getfield 47, 3) := by decide +kernel
theorem dX8_leftBy_39 : decode cX8_leftBy 39 = .ok (.bipush 8, 2) := by decide +kernel
theorem dX8_leftBy_41 : decode cX8_leftBy 41 = .ok (.iaload, 1) := by decide +kernel
theorem dX8_leftBy_42 : decode cX8_leftBy 42 = .ok (.ifCond .ge 7, 3) := by decide +kernel
theorem dX8_leftBy_45 : decode cX8_leftBy 45 = .ok (.iconst 0, 1) := by decide +kernel
theorem dX8_leftBy_46 : decode cX8_leftBy 46 = .ok (.goto 10, 3) := by decide +kernel
theorem dX8_leftBy_49 : decode cX8_leftBy 49 = .ok (.aload_n 0, 1) := by decide +kernel
theorem dX8_leftBy_50 : decode cX8_leftBy 50 = .ok (.getfield 47, 3) := by decide +kernel
theorem dX8_leftBy_53 : decode cX8_leftBy 53 = .ok (.bipush 8, 2) := by decide +kernel
theorem dX8_leftBy_55 : decode cX8_leftBy 55 = .ok (.iaload, 1) := by decide +kernel
theorem dX8_leftBy_56 : decode cX8_leftBy 56 = .ok (.isub, 1) := by decide +kernel
theorem dX8_leftBy_57 : decode cX8_leftBy 57 = .ok (.istore_n 2, 1) := by decide +kernel
theorem dX8_leftBy_58 : decode cX8_leftBy 58 = .ok (.iload_n 2, 1) := by decide +kernel
theorem dX8_leftBy_59 : decode cX8_leftBy 59 = .ok (.ifCond .gt 12, 3) := by decide +kernel
theorem dX8_leftBy_62 : decode cX8_leftBy 62 = .ok (.aload_n 0, 1) := by decide +kernel
theorem dX8_leftBy_63 : decode cX8_leftBy 63 = .ok (.getfield 37, 3) := by decide +kernel
theorem dX8_leftBy_66 : decode cX8_leftBy 66 = .ok (.iload_n 1, 1) := by decide +kernel
theorem dX8_leftBy_67 : decode cX8_leftBy 67 = .ok (.iaload, 1) := by decide +kernel
theorem dX8_leftBy_68 : decode cX8_leftBy 68 = .ok (.goto 26, 3) := by decide +kernel
theorem dX8_leftBy_71 : decode cX8_leftBy 71 = .ok (.aload_n 0, 1) := by decide +kernel
theorem dX8_leftBy_72 : decode cX8_leftBy 72 = .ok (.getfield 37, 3) := by decide +kernel
theorem dX8_leftBy_75 : decode cX8_leftBy 75 = .ok (.iload_n 1, 1) := by decide +kernel
theorem dX8_leftBy_76 : decode cX8_leftBy 76 = .ok (.iaload, 1) := by decide +kernel
theorem dX8_leftBy_77 : decode cX8_leftBy 77 = .ok (.iload_n 2, 1) := by decide +kernel
theorem dX8_leftBy_78 : decode cX8_leftBy 78 = .ok (.aload_n 0, 1) := by decide +kernel
theorem dX8_leftBy_79 : decode cX8_leftBy 79 = .ok (.getfield 47, 3) := by decide +kernel
theorem dX8_leftBy_82 : decode cX8_leftBy 82 = .ok (.aload_n 0, 1) := by decide +kernel
theorem dX8_leftBy_83 : decode cX8_leftBy 83 = .ok (.getfield 34, 3) := by decide +kernel
theorem dX8_leftBy_86 : decode cX8_leftBy 86 = .ok (.iload_n 1, 1) := by decide +kernel
theorem dX8_leftBy_87 : decode cX8_leftBy 87 = .ok (.iaload, 1) := by decide +kernel
theorem dX8_leftBy_88 : decode cX8_leftBy 88 = .ok (.iaload, 1) := by decide +kernel
theorem dX8_leftBy_89 : decode cX8_leftBy 89 = .ok (.imul, 1) := by decide +kernel
theorem dX8_leftBy_90 : decode cX8_leftBy 90 = .ok (.bipush 100, 2) := by decide +kernel
theorem dX8_leftBy_92 : decode cX8_leftBy 92 = .ok (.idiv, 1) := by decide +kernel
theorem dX8_leftBy_93 : decode cX8_leftBy 93 = .ok (.isub, 1) := by decide +kernel
theorem dX8_leftBy_94 : decode cX8_leftBy 94 = .ok (.ireturn, 1) := by decide +kernel
set_option maxRecDepth 20000 in
theorem ggX8_rankBy_X8_isMeant : GoodIn wsX8_rankBy wsX8_isMeant := goodIn_r _ [7, 1, 8, 9, 10, 11, 12, 13, 14, 15, 16, 17, 18, 19, 20, 21, 22, 23, 24, 25, 26, 27, 28, 29, 30, 31, 32, 33, 34, 35, 36, 37, 38, 39, 40, 41, 42, 43, 44, 45, 46, 47, 48, 49, 50, 51, 52] (by decide +kernel) (by decide +kernel)
set_option maxRecDepth 20000 in
theorem gX8_rankBy_X8_isMeant : GoodIn wsX8_rankBy (wsV RX8 167 RX8 yX8_isMeant wsX8_isMeant) := goodIn_app (goodIn_of _ (by decide +kernel)) ggX8_rankBy_X8_isMeant
theorem dX8_rankBy_0 : decode cX8_rankBy 0 = .ok (.aload_n 0, 1) := by decide +kernel
theorem dX8_rankBy_1 : decode cX8_rankBy 1 = .ok (.iload_n 1, 1) := by decide +kernel
theorem dX8_rankBy_2 : decode cX8_rankBy 2 = .ok (.invokevirtual 167, 3) := by decide +kernel
theorem dX8_rankBy_5 : decode cX8_rankBy 5 = .ok (.ifCond .eq 35, 3) := by decide +kernel
theorem dX8_rankBy_8 : decode cX8_rankBy 8 = .ok (.aload_n 0, 1) := by decide +kernel
theorem dX8_rankBy_9 : decode cX8_rankBy 9 = .ok (.getfield 47, 3) := by decide +kernel
theorem dX8_rankBy_12 : decode cX8_rankBy 12 = .ok (.iconst 4, 1) := by decide +kernel
theorem dX8_rankBy_13 : decode cX8_rankBy 13 = .ok (.aload_n 0, 1) := by decide +kernel
theorem dX8_rankBy_14 : decode cX8_rankBy 14 = .ok (.getfield 34, 3) := by decide +kernel
theorem dX8_rankBy_17 : decode cX8_rankBy 17 = .ok (.iload_n 1, 1) := by decide +kernel
theorem dX8_rankBy_18 : decode cX8_rankBy 18 = .ok (.iaload, 1) := by decide +kernel
theorem dX8_rankBy_19 : decode cX8_rankBy 19 = .ok (.iadd, 1) := by decide +kernel
theorem dX8_rankBy_20 : decode cX8_rankBy 20 = .ok (.iaload, 1) := by decide +kernel
theorem dX8_rankBy_21 : decode cX8_rankBy 21 = .ok (.ifCond .lt 19, 3) := by decide +kernel
theorem dX8_rankBy_24 : decode cX8_rankBy 24 = .ok (.aload_n 0, 1) := by decide +kernel
theorem dX8_rankBy_25 : decode cX8_rankBy 25 = .ok (.getfield 47, 3) := by decide +kernel
theorem dX8_rankBy_28 : decode cX8_rankBy 28 = .ok (.iconst 4, 1) := by decide +kernel
theorem dX8_rankBy_29 : decode cX8_rankBy 29 = .ok (.aload_n 0, 1) := by decide +kernel
theorem dX8_rankBy_30 : decode cX8_rankBy 30 = .ok (.getfield 34, 3) := by decide +kernel
theorem dX8_rankBy_33 : decode cX8_rankBy 33 = .ok (.iload_n 1, 1) := by decide +kernel
theorem dX8_rankBy_34 : decode cX8_rankBy 34 = .ok (.iaload, 1) := by decide +kernel
theorem dX8_rankBy_35 : decode cX8_rankBy 35 = .ok (.iadd, 1) := by decide +kernel
theorem dX8_rankBy_36 : decode cX8_rankBy 36 = .ok (.iaload, 1) := by decide +kernel
theorem dX8_rankBy_37 : decode cX8_rankBy 37 = .ok (.goto 9, 3) := by decide +kernel
theorem dX8_rankBy_40 : decode cX8_rankBy 40 = .ok (.aload_n 0, 1) := by decide +kernel
theorem dX8_rankBy_41 : decode cX8_rankBy 41 = .ok (.getfield 34, 3) := by decide +kernel
theorem dX8_rankBy_44 : decode cX8_rankBy 44 = .ok (.iload_n 1, 1) := by decide +kernel
theorem dX8_rankBy_45 : decode cX8_rankBy 45 = .ok (.iaload, 1) := by decide +kernel
theorem dX8_rankBy_46 : decode cX8_rankBy 46 = .ok (.ireturn, 1) := by decide +kernel
set_option maxRecDepth 20000 in
theorem ggX8_enact_X8_leftBy : GoodIn wsX8_enact wsX8_leftBy := goodIn_r _ [10, 11, 5, 4, 12, 13, 14, 9, 15, 16, 21, 22, 23, 24, 25, 26, 27, 28, 29, 30, 31, 32, 33, 34, 35, 36, 37, 38, 39, 40, 41, 42, 43, 44, 45, 46, 47, 48, 49, 50, 51, 52, 53, 54, 55, 56, 57, 58, 59, 60, 61, 62, 63, 64] (by decide +kernel) (by decide +kernel)
set_option maxRecDepth 20000 in
theorem gX8_enact_X8_leftBy : GoodIn wsX8_enact (wsV RX8 170 RX8 yX8_leftBy wsX8_leftBy) := goodIn_app (goodIn_of _ (by decide +kernel)) ggX8_enact_X8_leftBy
set_option maxRecDepth 20000 in
theorem ggX8_enact_X8_rankBy : GoodIn wsX8_enact wsX8_rankBy := goodIn_r _ [20, 11, 5, 12, 13, 14, 9, 15, 16, 21, 22, 23, 24, 25, 26, 27, 28, 29, 30, 31, 32, 33, 34, 35, 36, 37, 38, 39, 40, 41, 42, 43, 44, 45, 46, 47, 48, 49, 50, 51, 52, 53, 54, 55, 56, 57, 58, 59, 60, 61, 62, 63, 64] (by decide +kernel) (by decide +kernel)
set_option maxRecDepth 20000 in
theorem gX8_enact_X8_rankBy : GoodIn wsX8_enact (wsV RX8 173 RX8 yX8_rankBy wsX8_rankBy) := goodIn_app (goodIn_of _ (by decide +kernel)) ggX8_enact_X8_rankBy
theorem dX8_enact_0 : decode cX8_enact 0 = .ok (.aload_n 0, 1) := by decide +kernel
theorem dX8_enact_1 : decode cX8_enact 1 = .ok (.iconst 0, 1) := by decide +kernel
theorem dX8_enact_2 : decode cX8_enact 2 = .ok (.putfield 87, 3) := by decide +kernel
theorem dX8_enact_5 : decode cX8_enact 5 = .ok (.aload_n 0, 1) := by decide +kernel
theorem dX8_enact_6 : decode cX8_enact 6 = .ok (.getfield 160, 3) := by decide +kernel
theorem dX8_enact_9 : decode cX8_enact 9 = .ok (.ifCond .ne 5, 3) := by decide +kernel
theorem dX8_enact_12 : decode cX8_enact 12 = .ok (.iconst (-1), 1) := by decide +kernel
theorem dX8_enact_13 : decode cX8_enact 13 = .ok (.ireturn, 1) := by decide +kernel
theorem dX8_enact_14 : decode cX8_enact 14 = .ok (.iconst 0, 1) := by decide +kernel
theorem dX8_enact_15 : decode cX8_enact 15 = .ok (.istore_n 1, 1) := by decide +kernel
theorem dX8_enact_16 : decode cX8_enact 16 = .ok (.iconst 0, 1) := by decide +kernel
theorem dX8_enact_17 : decode cX8_enact 17 = .ok (.istore_n 2, 1) := by decide +kernel
theorem dX8_enact_18 : decode cX8_enact 18 = .ok (.iload_n 2, 1) := by decide +kernel
theorem dX8_enact_19 : decode cX8_enact 19 = .ok (.aload_n 0, 1) := by decide +kernel
theorem dX8_enact_20 : decode cX8_enact 20 = .ok (.getfield 101, 3) := by decide +kernel
theorem dX8_enact_23 : decode cX8_enact 23 = .ok (.if_icmp .ge 48, 3) := by decide +kernel
theorem dX8_enact_26 : decode cX8_enact 26 = .ok (.aload_n 0, 1) := by decide +kernel
theorem dX8_enact_27 : decode cX8_enact 27 = .ok (.iload_n 2, 1) := by decide +kernel
theorem dX8_enact_28 : decode cX8_enact 28 = .ok (.invokevirtual 170, 3) := by decide +kernel
theorem dX8_enact_31 : decode cX8_enact 31 = .ok (.istore_n 3, 1) := by decide +kernel
theorem dX8_enact_32 : decode cX8_enact 32 = .ok (.aload_n 0, 1) := by decide +kernel
theorem dX8_enact_33 : decode cX8_enact 33 = .ok (.iload_n 2, 1) := by decide +kernel
theorem dX8_enact_34 : decode cX8_enact 34 = .ok (.invokevirtual 173, 3) := by decide +kernel
theorem dX8_enact_37 : decode cX8_enact 37 = .ok (.istore 4, 2) := by decide +kernel
theorem dX8_enact_39 : decode cX8_enact 39 = .ok (.iload_n 1, 1) := by decide +kernel
theorem dX8_enact_40 : decode cX8_enact 40 = .ok (.aload_n 0, 1) := by decide +kernel
theorem dX8_enact_41 : decode cX8_enact 41 = .ok (.getfield 37, 3) := by decide +kernel
theorem dX8_enact_44 : decode cX8_enact 44 = .ok (.iload_n 2, 1) := by decide +kernel
theorem dX8_enact_45 : decode cX8_enact 45 = .ok (.iaload, 1) := by decide +kernel
theorem dX8_enact_46 : decode cX8_enact 46 = .ok (.iload_n 3, 1) := by decide +kernel
theorem dX8_enact_47 : decode cX8_enact 47 = .ok (.isub, 1) := by decide +kernel
theorem dX8_enact_48 : decode cX8_enact 48 = .ok (.iadd, 1) := by decide +kernel
theorem dX8_enact_49 : decode cX8_enact 49 = .ok (.istore_n 1, 1) := by decide +kernel
theorem dX8_enact_50 : decode cX8_enact 50 = .ok (.aload_n 0, 1) := by decide +kernel
theorem dX8_enact_51 : decode cX8_enact 51 = .ok (.getfield 37, 3) := by decide +kernel
theorem dX8_enact_54 : decode cX8_enact 54 = .ok (.iload_n 2, 1) := by decide +kernel
theorem dX8_enact_55 : decode cX8_enact 55 = .ok (.iload_n 3, 1) := by decide +kernel
theorem dX8_enact_56 : decode cX8_enact 56 = .ok (.iastore, 1) := by decide +kernel
theorem dX8_enact_57 : decode cX8_enact 57 = .ok (.aload_n 0, 1) := by decide +kernel
theorem dX8_enact_58 : decode cX8_enact 58 = .ok (.getfield 34, 3) := by decide +kernel
theorem dX8_enact_61 : decode cX8_enact 61 = .ok (.iload_n 2, 1) := by decide +kernel
theorem dX8_enact_62 : decode cX8_enact 62 = .ok (.iload 4, 2) := by decide +kernel
theorem dX8_enact_64 : decode cX8_enact 64 = .ok (.iastore, 1) := by decide +kernel
theorem dX8_enact_65 : decode cX8_enact 65 = .ok (.iinc 2 1, 3) := by decide +kernel
theorem dX8_enact_68 : decode cX8_enact 68 = .ok (.goto (-50), 3) := by decide +kernel
theorem dX8_enact_71 : decode cX8_enact 71 = .ok (.aload_n 0, 1) := by decide +kernel
theorem dX8_enact_72 : decode cX8_enact 72 = .ok (.iconst 0, 1) := by decide +kernel
theorem dX8_enact_73 : decode cX8_enact 73 = .ok (.putfield 160, 3) := by decide +kernel
theorem dX8_enact_76 : decode cX8_enact 76 = .ok (.iload_n 1, 1) := by decide +kernel
theorem dX8_enact_77 : decode cX8_enact 77 = .ok (.ireturn, 1) := by decide +kernel
set_option maxRecDepth 20000 in
theorem ggX8_works_X8_leftBy : GoodIn wsX8_works wsX8_leftBy := goodIn_r _ [15, 16, 5, 3, 17, 18, 19, 14, 20, 21, 33, 34, 35, 36, 37, 38, 39, 40, 41, 42, 43, 44, 45, 46, 47, 48, 49, 50, 51, 52, 53, 54, 55, 56, 57, 58, 59, 60, 61, 62, 63, 64, 65, 66, 67, 68, 69, 70, 71, 72, 73, 74, 75, 76] (by decide +kernel) (by decide +kernel)
set_option maxRecDepth 20000 in
theorem gX8_works_X8_leftBy : GoodIn wsX8_works (wsV RX8 170 RX8 yX8_leftBy wsX8_leftBy) := goodIn_app (goodIn_of _ (by decide +kernel)) ggX8_works_X8_leftBy
set_option maxRecDepth 20000 in
theorem ggX8_works_X8_rankBy : GoodIn wsX8_works wsX8_rankBy := goodIn_r _ [25, 16, 5, 17, 18, 19, 14, 20, 21, 33, 34, 35, 36, 37, 38, 39, 40, 41, 42, 43, 44, 45, 46, 47, 48, 49, 50, 51, 52, 53, 54, 55, 56, 57, 58, 59, 60, 61, 62, 63, 64, 65, 66, 67, 68, 69, 70, 71, 72, 73, 74, 75, 76] (by decide +kernel) (by decide +kernel)
set_option maxRecDepth 20000 in
theorem gX8_works_X8_rankBy : GoodIn wsX8_works (wsV RX8 173 RX8 yX8_rankBy wsX8_rankBy) := goodIn_app (goodIn_of _ (by decide +kernel)) ggX8_works_X8_rankBy
set_option maxRecDepth 20000 in
theorem ggX8_works_X8_pays : GoodIn wsX8_works wsX8_pays := goodIn_r _ [29, 30, 1, 31, 10, 32, 4, 2, 6, 8, 33, 34, 35, 36, 37, 38, 39, 40, 41, 42, 43, 44, 45, 46, 47, 48, 49, 50, 51, 52, 53, 54, 55, 56, 57, 58, 59, 60, 61, 62, 63, 64, 65, 66, 67, 68, 69, 70, 71, 72, 73, 74, 75, 76] (by decide +kernel) (by decide +kernel)
set_option maxRecDepth 20000 in
theorem gX8_works_X8_pays : GoodIn wsX8_works (wsV RX8 179 RX8 yX8_pays wsX8_pays) := goodIn_app (goodIn_of _ (by decide +kernel)) ggX8_works_X8_pays
theorem dX8_works_0 : decode cX8_works 0 = .ok (.iconst 0, 1) := by decide +kernel
theorem dX8_works_1 : decode cX8_works 1 = .ok (.istore_n 2, 1) := by decide +kernel
theorem dX8_works_2 : decode cX8_works 2 = .ok (.iload_n 2, 1) := by decide +kernel
theorem dX8_works_3 : decode cX8_works 3 = .ok (.aload_n 0, 1) := by decide +kernel
theorem dX8_works_4 : decode cX8_works 4 = .ok (.getfield 101, 3) := by decide +kernel
theorem dX8_works_7 : decode cX8_works 7 = .ok (.if_icmp .ge 69, 3) := by decide +kernel
theorem dX8_works_10 : decode cX8_works 10 = .ok (.aload_n 0, 1) := by decide +kernel
theorem dX8_works_11 : decode cX8_works 11 = .ok (.getfield 60, 3) := by decide +kernel
theorem dX8_works_14 : decode cX8_works 14 = .ok (.iload_n 2, 1) := by decide +kernel
theorem dX8_works_15 : decode cX8_works 15 = .ok (.iload_n 1, 1) := by decide +kernel
theorem dX8_works_16 : decode cX8_works 16 = .ok (.ifCond .eq 11, 3) := by decide +kernel
theorem dX8_works_19 : decode cX8_works 19 = .ok (.aload_n 0, 1) := by decide +kernel
theorem dX8_works_20 : decode cX8_works 20 = .ok (.iload_n 2, 1) := by decide +kernel
theorem dX8_works_21 : decode cX8_works 21 = .ok (.invokevirtual 170, 3) := by decide +kernel
