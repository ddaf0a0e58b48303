theorem dX8_works_24 : decode cX8_works 24 = .ok (.goto 9, 3) := by decide +kernel
theorem dX8_works_27 : decode cX8_works 27 = .ok (.aload_n 0, 1) := by decide +kernel
theorem dX8_works_28 : decode cX8_works 28 = .ok (.getfield 37, 3) := by decide +kernel
theorem dX8_works_31 : decode cX8_works 31 = .ok (.iload_n 2, 1) := by decide +kernel
theorem dX8_works_32 : decode cX8_works 32 = .ok (.iaload, 1) := by decide +kernel
theorem dX8_works_33 : decode cX8_works 33 = .ok (.iastore, 1) := by decide +kernel
theorem dX8_works_34 : decode cX8_works 34 = .ok (.aload_n 0, 1) := by decide +kernel
theorem dX8_works_35 : decode cX8_works 35 = .ok (.getfield 63, 3) := by decide +kernel
theorem dX8_works_38 : decode cX8_works 38 = .ok (.iload_n 2, 1) := by decide +kernel
theorem dX8_works_39 : decode cX8_works 39 = .ok (.iload_n 1, 1) := by decide +kernel
theorem dX8_works_40 : decode cX8_works 40 = .ok (.ifCond .eq 11, 3) := by decide +kernel
theorem dX8_works_43 : decode cX8_works 43 = .ok (.aload_n 0, 1) := by decide +kernel
theorem dX8_works_44 : decode cX8_works 44 = .ok (.iload_n 2, 1) := by decide +kernel
theorem dX8_works_45 : decode cX8_works 45 = .ok (.invokevirtual 173, 3) := by decide +kernel
theorem dX8_works_48 : decode cX8_works 48 = .ok (.goto 9, 3) := by decide +kernel
theorem dX8_works_51 : decode cX8_works 51 = .ok (.aload_n 0, 1) := by decide +kernel
theorem dX8_works_52 : decode cX8_works 52 = .ok (.getfield 34, 3) := by decide +kernel
theorem dX8_works_55 : decode cX8_works 55 = .ok (.iload_n 2, 1) := by decide +kernel
theorem dX8_works_56 : decode cX8_works 56 = .ok (.iaload, 1) := by decide +kernel
theorem dX8_works_57 : decode cX8_works 57 = .ok (.iastore, 1) := by decide +kernel
theorem dX8_works_58 : decode cX8_works 58 = .ok (.aload_n 0, 1) := by decide +kernel
theorem dX8_works_59 : decode cX8_works 59 = .ok (.getfield 66, 3) := by decide +kernel
theorem dX8_works_62 : decode cX8_works 62 = .ok (.iload_n 2, 1) := by decide +kernel
theorem dX8_works_63 : decode cX8_works 63 = .ok (.aload_n 0, 1) := by decide +kernel
theorem dX8_works_64 : decode cX8_works 64 = .ok (.getfield 60, 3) := by decide +kernel
theorem dX8_works_67 : decode cX8_works 67 = .ok (.iload_n 2, 1) := by decide +kernel
theorem dX8_works_68 : decode cX8_works 68 = .ok (.iaload, 1) := by decide +kernel
theorem dX8_works_69 : decode cX8_works 69 = .ok (.iastore, 1) := by decide +kernel
theorem dX8_works_70 : decode cX8_works 70 = .ok (.iinc 2 1, 3) := by decide +kernel
theorem dX8_works_73 : decode cX8_works 73 = .ok (.goto (-71), 3) := by decide +kernel
theorem dX8_works_76 : decode cX8_works 76 = .ok (.iconst 0, 1) := by decide +kernel
theorem dX8_works_77 : decode cX8_works 77 = .ok (.istore_n 2, 1) := by decide +kernel
theorem dX8_works_78 : decode cX8_works 78 = .ok (.iload_n 2, 1) := by decide +kernel
theorem dX8_works_79 : decode cX8_works 79 = .ok (.aload_n 0, 1) := by decide +kernel
theorem dX8_works_80 : decode cX8_works 80 = .ok (.getfield 94, 3) := by decide +kernel
theorem dX8_works_83 : decode cX8_works 83 = .ok (.if_icmp .ge 16, 3) := by decide +kernel
theorem dX8_works_86 : decode cX8_works 86 = .ok (.aload_n 0, 1) := by decide +kernel
theorem dX8_works_87 : decode cX8_works 87 = .ok (.getfield 72, 3) := by decide +kernel
theorem dX8_works_90 : decode cX8_works 90 = .ok (.iload_n 2, 1) := by decide +kernel
theorem dX8_works_91 : decode cX8_works 91 = .ok (.iconst 0, 1) := by decide +kernel
theorem dX8_works_92 : decode cX8_works 92 = .ok (.iastore, 1) := by decide +kernel
theorem dX8_works_93 : decode cX8_works 93 = .ok (.iinc 2 1, 3) := by decide +kernel
theorem dX8_works_96 : decode cX8_works 96 = .ok (.goto (-18), 3) := by decide +kernel
theorem dX8_works_99 : decode cX8_works 99 = .ok (.aload_n 0, 1) := by decide +kernel
theorem dX8_works_100 : decode cX8_works 100 = .ok (.iconst 0, 1) := by decide +kernel
theorem dX8_works_101 : decode cX8_works 101 = .ok (.putfield 176, 3) := by decide +kernel
theorem dX8_works_104 : decode cX8_works 104 = .ok (.iconst 1, 1) := by decide +kernel
theorem dX8_works_105 : decode cX8_works 105 = .ok (.istore_n 2, 1) := by decide +kernel
theorem dX8_works_106 : decode cX8_works 106 = .ok (.iconst 0, 1) := by decide +kernel
theorem dX8_works_107 : decode cX8_works 107 = .ok (.istore_n 3, 1) := by decide +kernel
theorem dX8_works_108 : decode cX8_works 108 = .ok (.iload_n 2, 1) := by decide +kernel
theorem dX8_works_109 : decode cX8_works 109 = .ok (.ifCond .eq 90, 3) := by decide +kernel
theorem dX8_works_112 : decode cX8_works 112 = .ok (.iinc 3 1, 3) := by decide +kernel
theorem dX8_works_115 : decode cX8_works 115 = .ok (.iconst 0, 1) := by decide +kernel
theorem dX8_works_116 : decode cX8_works 116 = .ok (.istore 4, 2) := by decide +kernel
theorem dX8_works_118 : decode cX8_works 118 = .ok (.iload 4, 2) := by decide +kernel
theorem dX8_works_120 : decode cX8_works 120 = .ok (.aload_n 0, 1) := by decide +kernel
theorem dX8_works_121 : decode cX8_works 121 = .ok (.getfield 101, 3) := by decide +kernel
theorem dX8_works_124 : decode cX8_works 124 = .ok (.if_icmp .ge 23, 3) := by decide +kernel
theorem dX8_works_127 : decode cX8_works 127 = .ok (.aload_n 0, 1) := by decide +kernel
theorem dX8_works_128 : decode cX8_works 128 = .ok (.getfield 69, 3) := by decide +kernel
theorem dX8_works_131 : decode cX8_works 131 = .ok (.iload 4, 2) := by decide +kernel
theorem dX8_works_133 : decode cX8_works 133 = .ok (.aload_n 0, 1) := by decide +kernel
theorem dX8_works_134 : decode cX8_works 134 = .ok (.getfield 66, 3) := by decide +kernel
theorem dX8_works_137 : decode cX8_works 137 = .ok (.iload 4, 2) := by decide +kernel
theorem dX8_works_139 : decode cX8_works 139 = .ok (.iaload, 1) := by decide +kernel
theorem dX8_works_140 : decode cX8_works 140 = .ok (.iastore, 1) := by decide +kernel
theorem dX8_works_141 : decode cX8_works 141 = .ok (.iinc 4 1, 3) := by decide +kernel
theorem dX8_works_144 : decode cX8_works 144 = .ok (.goto (-26), 3) := by decide +kernel
theorem dX8_works_147 : decode cX8_works 147 = .ok (.iconst 0, 1) := by decide +kernel
theorem dX8_works_148 : decode cX8_works 148 = .ok (.istore_n 2, 1) := by decide +kernel
theorem dX8_works_149 : decode cX8_works 149 = .ok (.iconst 0, 1) := by decide +kernel
theorem dX8_works_150 : decode cX8_works 150 = .ok (.istore 4, 2) := by decide +kernel
theorem dX8_works_152 : decode cX8_works 152 = .ok (.iload 4, 2) := by decide +kernel
theorem dX8_works_154 : decode cX8_works 154 = .ok (.aload_n 0, 1) := by decide +kernel
theorem dX8_works_155 : decode cX8_works 155 = .ok (.getfield 94, 3) := by decide +kernel
theorem dX8_works_158 : decode cX8_works 158 = .ok (.if_icmp .ge 29, 3) := by decide +kernel
theorem dX8_works_161 : decode cX8_works 161 = .ok (.aload_n 0, 1) := by decide +kernel
theorem dX8_works_162 : decode cX8_works 162 = .ok (.iload 4, 2) := by decide +kernel
theorem dX8_works_164 : decode cX8_works 164 = .ok (.iload_n 3, 1) := by decide +kernel
theorem dX8_works_165 : decode cX8_works 165 = .ok (.invokevirtual 179, 3) := by decide +kernel
theorem dX8_works_168 : decode cX8_works 168 = .ok (.ifCond .ne 7, 3) := by decide +kernel
theorem dX8_works_171 : decode cX8_works 171 = .ok (.iload_n 2, 1) := by decide +kernel
theorem dX8_works_172 : decode cX8_works 172 = .ok (.ifCond .eq 7, 3) := by decide +kernel
theorem dX8_works_175 : decode cX8_works 175 = .ok (.iconst 1, 1) := by decide +kernel
theorem dX8_works_176 : decode cX8_works 176 = .ok (.goto 4, 3) := by decide +kernel
theorem dX8_works_179 : decode cX8_works 179 = .ok (.iconst 0, 1) := by decide +kernel
theorem dX8_works_180 : decode cX8_works 180 = .ok (.istore_n 2, 1) := by decide +kernel
theorem dX8_works_181 : decode cX8_works 181 = .ok (.iinc 4 1, 3) := by decide +kernel
theorem dX8_works_184 : decode cX8_works 184 = .ok (.goto (-32), 3) := by decide +kernel
theorem dX8_works_187 : decode cX8_works 187 = .ok (.iload_n 2, 1) := by decide +kernel
theorem dX8_works_188 : decode cX8_works 188 = .ok (.ifCond .eq (-80), 3) := by decide +kernel
theorem dX8_works_191 : decode cX8_works 191 = .ok (.aload_n 0, 1) := by decide +kernel
theorem dX8_works_192 : decode cX8_works 192 = .ok (.iload_n 3, 1) := by decide +kernel
theorem dX8_works_193 : decode cX8_works 193 = .ok (.putfield 176, 3) := by decide +kernel
theorem dX8_works_196 : decode cX8_works 196 = .ok (.goto (-88), 3) := by decide +kernel
theorem dX8_works_199 : decode cX8_works 199 = .ok (.return_, 1) := by decide +kernel
theorem dX8_pays_0 : decode cX8_pays 0 = .ok (.aload_n 0, 1) := by decide +kernel
theorem dX8_pays_1 : decode cX8_pays 1 = .ok (.getfield 13, 3) := by decide +kernel
theorem dX8_pays_4 : decode cX8_pays 4 = .ok (.iload_n 1, 1) := by decide +kernel
theorem dX8_pays_5 : decode cX8_pays 5 = .ok (.iaload, 1) := by decide +kernel
theorem dX8_pays_6 : decode cX8_pays 6 = .ok (.istore_n 3, 1) := by decide +kernel
theorem dX8_pays_7 : decode cX8_pays 7 = .ok (.iconst 0, 1) := by decide +kernel
theorem dX8_pays_8 : decode cX8_pays 8 = .ok (.istore 4, 2) := by decide +kernel
theorem dX8_pays_10 : decode cX8_pays 10 = .ok (.iload 4, 2) := by decide +kernel
theorem dX8_pays_12 : decode cX8_pays 12 = .ok (.aload_n 0, 1) := by decide +kernel
theorem dX8_pays_13 : decode cX8_pays 13 = .ok (.getfield 101, 3) := by decide +kernel
theorem dX8_pays_16 : decode cX8_pays 16 = .ok (.if_icmp .ge 34, 3) := by decide +kernel
theorem dX8_pays_19 : decode cX8_pays 19 = .ok (.iload_n 3, 1) := by decide +kernel
theorem dX8_pays_20 : decode cX8_pays 20 = .ok (.aload_n 0, 1) := by decide +kernel
theorem dX8_pays_21 : decode cX8_pays 21 = .ok (.getfield 19, 3) := by decide +kernel
theorem dX8_pays_24 : decode cX8_pays 24 = .ok (.iload 4, 2) := by decide +kernel
theorem dX8_pays_26 : decode cX8_pays 26 = .ok (.iaload, 1) := by decide +kernel
theorem dX8_pays_27 : decode cX8_pays 27 = .ok (.iload_n 1, 1) := by decide +kernel
theorem dX8_pays_28 : decode cX8_pays 28 = .ok (.if_icmp .ne 13, 3) := by decide +kernel
theorem dX8_pays_31 : decode cX8_pays 31 = .ok (.aload_n 0, 1) := by decide +kernel
theorem dX8_pays_32 : decode cX8_pays 32 = .ok (.getfield 69, 3) := by decide +kernel
theorem dX8_pays_35 : decode cX8_pays 35 = .ok (.iload 4, 2) := by decide +kernel
theorem dX8_pays_37 : decode cX8_pays 37 = .ok (.iaload, 1) := by decide +kernel
theorem dX8_pays_38 : decode cX8_pays 38 = .ok (.goto 4, 3) := by decide +kernel
theorem dX8_pays_41 : decode cX8_pays 41 = .ok (.iconst 0, 1) := by decide +kernel
theorem dX8_pays_42 : decode cX8_pays 42 = .ok (.iadd, 1) := by decide +kernel
theorem dX8_pays_43 : decode cX8_pays 43 = .ok (.istore_n 3, 1) := by decide +kernel
theorem dX8_pays_44 : decode cX8_pays 44 = .ok (.iinc 4 1, 3) := by decide +kernel
theorem dX8_pays_47 : decode cX8_pays 47 = .ok (.goto (-37), 3) := by decide +kernel
theorem dX8_pays_50 : decode cX8_pays 50 = .ok (.iconst 0, 1) := by decide +kernel
theorem dX8_pays_51 : decode cX8_pays 51 = .ok (.istore 4, 2) := by decide +kernel
theorem dX8_pays_53 : decode cX8_pays 53 = .ok (.iconst 0, 1) := by decide +kernel
theorem dX8_pays_54 : decode cX8_pays 54 = .ok (.istore 5, 2) := by decide +kernel
theorem dX8_pays_56 : decode cX8_pays 56 = .ok (.iload 5, 2) := by decide +kernel
theorem dX8_pays_58 : decode cX8_pays 58 = .ok (.iconst 4, 1) := by decide +kernel
theorem dX8_pays_59 : decode cX8_pays 59 = .ok (.if_icmp .ge 143, 3) := by decide +kernel
theorem dX8_pays_62 : decode cX8_pays 62 = .ok (.iconst 0, 1) := by decide +kernel
theorem dX8_pays_63 : decode cX8_pays 63 = .ok (.istore 6, 2) := by decide +kernel
theorem dX8_pays_65 : decode cX8_pays 65 = .ok (.iload 6, 2) := by decide +kernel
theorem dX8_pays_67 : decode cX8_pays 67 = .ok (.aload_n 0, 1) := by decide +kernel
theorem dX8_pays_68 : decode cX8_pays 68 = .ok (.getfield 101, 3) := by decide +kernel
theorem dX8_pays_71 : decode cX8_pays 71 = .ok (.if_icmp .ge 125, 3) := by decide +kernel
theorem dX8_pays_74 : decode cX8_pays 74 = .ok (.aload_n 0, 1) := by decide +kernel
theorem dX8_pays_75 : decode cX8_pays 75 = .ok (.getfield 16, 3) := by decide +kernel
theorem dX8_pays_78 : decode cX8_pays 78 = .ok (.iload 6, 2) := by decide +kernel
theorem dX8_pays_80 : decode cX8_pays 80 = .ok (.iaload, 1) := by decide +kernel
theorem dX8_pays_81 : decode cX8_pays 81 = .ok (.iload_n 1, 1) := by decide +kernel
theorem dX8_pays_82 : decode cX8_pays 82 = .ok (.if_icmp .ne 108, 3) := by decide +kernel
theorem dX8_pays_85 : decode cX8_pays 85 = .ok (.aload_n 0, 1) := by decide +kernel
theorem dX8_pays_86 : decode cX8_pays 86 = .ok (.getfield 63, 3) := by decide +kernel
theorem dX8_pays_89 : decode cX8_pays 89 = .ok (.iload 6, 2) := by decide +kernel
theorem dX8_pays_91 : decode cX8_pays 91 = .ok (.iaload, 1) := by decide +kernel
theorem dX8_pays_92 : decode cX8_pays 92 = .ok (.iload 5, 2) := by decide +kernel
theorem dX8_pays_94 : decode cX8_pays 94 = .ok (.if_icmp .eq 6, 3) := by decide +kernel
theorem dX8_pays_97 : decode cX8_pays 97 = .ok (.goto 93, 3) := by decide +kernel
theorem dX8_pays_100 : decode cX8_pays 100 = .ok (.aload_n 0, 1) := by decide +kernel
theorem dX8_pays_101 : decode cX8_pays 101 = .ok (.getfield 60, 3) := by decide +kernel
theorem dX8_pays_104 : decode cX8_pays 104 = .ok (.iload 6, 2) := by decide +kernel
theorem dX8_pays_106 : decode cX8_pays 106 = .ok (.iaload, 1) := by decide +kernel
theorem dX8_pays_107 : decode cX8_pays 107 = .ok (.iload_n 3, 1) := by decide +kernel
theorem dX8_pays_108 : decode cX8_pays 108 = .ok (.if_icmp .ge 13, 3) := by decide +kernel
theorem dX8_pays_111 : decode cX8_pays 111 = .ok (.aload_n 0, 1) := by decide +kernel
theorem dX8_pays_112 : decode cX8_pays 112 = .ok (.getfield 60, 3) := by decide +kernel
theorem dX8_pays_115 : decode cX8_pays 115 = .ok (.iload 6, 2) := by decide +kernel
theorem dX8_pays_117 : decode cX8_pays 117 = .ok (.iaload, 1) := by decide +kernel
theorem dX8_pays_118 : decode cX8_pays 118 = .ok (.goto 4, 3) := by decide +kernel
theorem dX8_pays_121 : decode cX8_pays 121 = .ok (.iload_n 3, 1) := by decide +kernel
theorem dX8_pays_122 : decode cX8_pays 122 = .ok (.istore 7, 2) := by decide +kernel
theorem dX8_pays_124 : decode cX8_pays 124 = .ok (.iload_n 3, 1) := by decide +kernel
theorem dX8_pays_125 : decode cX8_pays 125 = .ok (.iload 7, 2) := by decide +kernel
theorem dX8_pays_127 : decode cX8_pays 127 = .ok (.isub, 1) := by decide +kernel
theorem dX8_pays_128 : decode cX8_pays 128 = .ok (.istore_n 3, 1) := by decide +kernel
theorem dX8_pays_129 : decode cX8_pays 129 = .ok (.aload_n 0, 1) := by decide +kernel
theorem dX8_pays_130 : decode cX8_pays 130 = .ok (.getfield 66, 3) := by decide +kernel
theorem dX8_pays_133 : decode cX8_pays 133 = .ok (.iload 6, 2) := by decide +kernel
theorem dX8_pays_135 : decode cX8_pays 135 = .ok (.iload 7, 2) := by decide +kernel
theorem dX8_pays_137 : decode cX8_pays 137 = .ok (.iastore, 1) := by decide +kernel
theorem dX8_pays_138 : decode cX8_pays 138 = .ok (.iload 4, 2) := by decide +kernel
theorem dX8_pays_140 : decode cX8_pays 140 = .ok (.ifCond .ne 15, 3) := by decide +kernel
theorem dX8_pays_143 : decode cX8_pays 143 = .ok (.iload 7, 2) := by decide +kernel
theorem dX8_pays_145 : decode cX8_pays 145 = .ok (.aload_n 0, 1) := by decide +kernel
theorem dX8_pays_146 : decode cX8_pays 146 = .ok (.getfield 69, 3) := by decide +kernel
theorem dX8_pays_149 : decode cX8_pays 149 = .ok (.iload 6, 2) := by decide +kernel
theorem dX8_pays_151 : decode cX8_pays 151 = .ok (.iaload, 1) := by decide +kernel
theorem dX8_pays_152 : decode cX8_pays 152 = .ok (.if_icmp .eq 7, 3) := by decide +kernel
theorem dX8_pays_155 : decode cX8_pays 155 = .ok (.iconst 1, 1) := by decide +kernel
theorem dX8_pays_156 : decode cX8_pays 156 = .ok (.goto 4, 3) := by decide +kernel
theorem dX8_pays_159 : decode cX8_pays 159 = .ok (.iconst 0, 1) := by decide +kernel
theorem dX8_pays_160 : decode cX8_pays 160 = .ok (.istore 4, 2) := by decide +kernel
theorem dX8_pays_162 : decode cX8_pays 162 = .ok (.iload 7, 2) := by decide +kernel
theorem dX8_pays_164 : decode cX8_pays 164 = .ok (.aload_n 0, 1) := by decide +kernel
theorem dX8_pays_165 : decode cX8_pays 165 = .ok (.getfield 60, 3) := by decide +kernel
theorem dX8_pays_168 : decode cX8_pays 168 = .ok (.iload 6, 2) := by decide +kernel
theorem dX8_pays_170 : decode cX8_pays 170 = .ok (.iaload, 1) := by decide +kernel
theorem dX8_pays_171 : decode cX8_pays 171 = .ok (.if_icmp .ge 19, 3) := by decide +kernel
theorem dX8_pays_174 : decode cX8_pays 174 = .ok (.aload_n 0, 1) := by decide +kernel
theorem dX8_pays_175 : decode cX8_pays 175 = .ok (.getfield 72, 3) := by decide +kernel
theorem dX8_pays_178 : decode cX8_pays 178 = .ok (.iload_n 1, 1) := by decide +kernel
theorem dX8_pays_179 : decode cX8_pays 179 = .ok (.iaload, 1) := by decide +kernel
theorem dX8_pays_180 : decode cX8_pays 180 = .ok (.ifCond .ne 10, 3) := by decide +kernel
theorem dX8_pays_183 : decode cX8_pays 183 = .ok (.aload_n 0, 1) := by decide +kernel
theorem dX8_pays_184 : decode cX8_pays 184 = .ok (.getfield 72, 3) := by decide +kernel
theorem dX8_pays_187 : decode cX8_pays 187 = .ok (.iload_n 1, 1) := by decide +kernel
theorem dX8_pays_188 : decode cX8_pays 188 = .ok (.iload_n 2, 1) := by decide +kernel
theorem dX8_pays_189 : decode cX8_pays 189 = .ok (.iastore, 1) := by decide +kernel
theorem dX8_pays_190 : decode cX8_pays 190 = .ok (.iinc 6 1, 3) := by decide +kernel
theorem dX8_pays_193 : decode cX8_pays 193 = .ok (.goto (-128), 3) := by decide +kernel
theorem dX8_pays_196 : decode cX8_pays 196 = .ok (.iinc 5 1, 3) := by decide +kernel
theorem dX8_pays_199 : decode cX8_pays 199 = .ok (.goto (-143), 3) := by decide +kernel
theorem dX8_pays_202 : decode cX8_pays 202 = .ok (.iload 4, 2) := by decide +kernel
theorem dX8_pays_204 : decode cX8_pays 204 = .ok (.ireturn, 1) := by decide +kernel
set_option maxRecDepth 20000 in
theorem ggX8_clear_X8_works : GoodIn wsX8_clear wsX8_works := goodIn_r _ [24, 6, 19, 25, 26, 27, 16, 4, 14, 8, 28, 29, 30, 31, 23, 32, 33, 34, 35, 36, 37, 38, 39, 40, 41, 42, 43, 44, 45, 46, 11, 17, 18, 47, 48, 49, 50, 51, 52, 53, 54, 55, 56, 57, 58, 59, 60, 61, 62, 63, 64, 65, 66, 67, 68, 69, 70, 71, 72, 73, 74, 75, 76, 77, 78, 79, 80, 81, 82, 83, 84, 85, 86, 87, 88, 89, 90] (by decide +kernel) (by decide +kernel)
set_option maxRecDepth 20000 in
theorem gX8_clear_X8_works : GoodIn wsX8_clear (wsV RX8 182 RX8 yX8_works wsX8_works) := goodIn_app (goodIn_of _ (by decide +kernel)) ggX8_clear_X8_works
theorem dX8_clear_0 : decode cX8_clear 0 = .ok (.aload_n 0, 1) := by decide +kernel
theorem dX8_clear_1 : decode cX8_clear 1 = .ok (.iconst 0, 1) := by decide +kernel
theorem dX8_clear_2 : decode cX8_clear 2 = .ok (.putfield 87, 3) := by decide +kernel
theorem dX8_clear_5 : decode cX8_clear 5 = .ok (.aload_n 0, 1) := by decide +kernel
theorem dX8_clear_6 : decode cX8_clear 6 = .ok (.iload_n 1, 1) := by decide +kernel
theorem dX8_clear_7 : decode cX8_clear 7 = .ok (.ifCond .eq 14, 3) := by decide +kernel
theorem dX8_clear_10 : decode cX8_clear 10 = .ok (.aload_n 0, 1) := by decide +kernel
theorem dX8_clear_11 : decode cX8_clear 11 = .ok (.getfield 160, 3) := by decide +kernel
theorem dX8_clear_14 : decode cX8_clear 14 = .ok (.ifCond .eq 7, 3) := by decide +kernel
theorem dX8_clear_17 : decode cX8_clear 17 = .ok (.iconst 1, 1) := by decide +kernel
theorem dX8_clear_18 : decode cX8_clear 18 = .ok (.goto 4, 3) := by decide +kernel
theorem dX8_clear_21 : decode cX8_clear 21 = .ok (.iconst 0, 1) := by decide +kernel
theorem dX8_clear_22 : decode cX8_clear 22 = .ok (.invokevirtual 182, 3) := by decide +kernel
theorem dX8_clear_25 : decode cX8_clear 25 = .ok (.aload_n 0, 1) := by decide +kernel
theorem dX8_clear_26 : decode cX8_clear 26 = .ok (.iconst 1, 1) := by decide +kernel
theorem dX8_clear_27 : decode cX8_clear 27 = .ok (.putfield 186, 3) := by decide +kernel
theorem dX8_clear_30 : decode cX8_clear 30 = .ok (.aload_n 0, 1) := by decide +kernel
theorem dX8_clear_31 : decode cX8_clear 31 = .ok (.aload_n 0, 1) := by decide +kernel
theorem dX8_clear_32 : decode cX8_clear 32 = .ok (.getfield 94, 3) := by decide +kernel
theorem dX8_clear_35 : decode cX8_clear 35 = .ok (.putfield 189, 3) := by decide +kernel
theorem dX8_clear_38 : decode cX8_clear 38 = .ok (.aload_n 0, 1) := by decide +kernel
theorem dX8_clear_39 : decode cX8_clear 39 = .ok (.aload_n 0, 1) := by decide +kernel
theorem dX8_clear_40 : decode cX8_clear 40 = .ok (.getfield 101, 3) := by decide +kernel
theorem dX8_clear_43 : decode cX8_clear 43 = .ok (.putfield 192, 3) := by decide +kernel
theorem dX8_clear_46 : decode cX8_clear 46 = .ok (.aload_n 0, 1) := by decide +kernel
theorem dX8_clear_47 : decode cX8_clear 47 = .ok (.aload_n 0, 1) := by decide +kernel
theorem dX8_clear_48 : decode cX8_clear 48 = .ok (.getfield 176, 3) := by decide +kernel
theorem dX8_clear_51 : decode cX8_clear 51 = .ok (.putfield 195, 3) := by decide +kernel
theorem dX8_clear_54 : decode cX8_clear 54 = .ok (.iconst 0, 1) := by decide +kernel
theorem dX8_clear_55 : decode cX8_clear 55 = .ok (.istore_n 2, 1) := by decide +kernel
theorem dX8_clear_56 : decode cX8_clear 56 = .ok (.iconst 0, 1) := by decide +kernel
theorem dX8_clear_57 : decode cX8_clear 57 = .ok (.istore_n 3, 1) := by decide +kernel
theorem dX8_clear_58 : decode cX8_clear 58 = .ok (.iload_n 3, 1) := by decide +kernel
theorem dX8_clear_59 : decode cX8_clear 59 = .ok (.aload_n 0, 1) := by decide +kernel
theorem dX8_clear_60 : decode cX8_clear 60 = .ok (.getfield 94, 3) := by decide +kernel
theorem dX8_clear_63 : decode cX8_clear 63 = .ok (.if_icmp .ge 57, 3) := by decide +kernel
theorem dX8_clear_66 : decode cX8_clear 66 = .ok (.aload_n 0, 1) := by decide +kernel
theorem dX8_clear_67 : decode cX8_clear 67 = .ok (.getfield 78, 3) := by decide +kernel
theorem dX8_clear_70 : decode cX8_clear 70 = .ok (.iload_n 3, 1) := by decide +kernel
theorem dX8_clear_71 : decode cX8_clear 71 = .ok (.aload_n 0, 1) := by decide +kernel
theorem dX8_clear_72 : decode cX8_clear 72 = .ok (.getfield 13, 3) := by decide +kernel
theorem dX8_clear_75 : decode cX8_clear 75 = .ok (.iload_n 3, 1) := by decide +kernel
theorem dX8_clear_76 : decode cX8_clear 76 = .ok (.iaload, 1) := by decide +kernel
theorem dX8_clear_77 : decode cX8_clear 77 = .ok (.iastore, 1) := by decide +kernel
theorem dX8_clear_78 : decode cX8_clear 78 = .ok (.aload_n 0, 1) := by decide +kernel
theorem dX8_clear_79 : decode cX8_clear 79 = .ok (.getfield 84, 3) := by decide +kernel
theorem dX8_clear_82 : decode cX8_clear 82 = .ok (.iload_n 3, 1) := by decide +kernel
theorem dX8_clear_83 : decode cX8_clear 83 = .ok (.iconst 0, 1) := by decide +kernel
theorem dX8_clear_84 : decode cX8_clear 84 = .ok (.iastore, 1) := by decide +kernel
theorem dX8_clear_85 : decode cX8_clear 85 = .ok (.aload_n 0, 1) := by decide +kernel
theorem dX8_clear_86 : decode cX8_clear 86 = .ok (.getfield 81, 3) := by decide +kernel
theorem dX8_clear_89 : decode cX8_clear 89 = .ok (.iload_n 3, 1) := by decide +kernel
theorem dX8_clear_90 : decode cX8_clear 90 = .ok (.aload_n 0, 1) := by decide +kernel
theorem dX8_clear_91 : decode cX8_clear 91 = .ok (.getfield 72, 3) := by decide +kernel
theorem dX8_clear_94 : decode cX8_clear 94 = .ok (.iload_n 3, 1) := by decide +kernel
theorem dX8_clear_95 : decode cX8_clear 95 = .ok (.iaload, 1) := by decide +kernel
theorem dX8_clear_96 : decode cX8_clear 96 = .ok (.iastore, 1) := by decide +kernel
theorem dX8_clear_97 : decode cX8_clear 97 = .ok (.iload_n 2, 1) := by decide +kernel
theorem dX8_clear_98 : decode cX8_clear 98 = .ok (.aload_n 0, 1) := by decide +kernel
theorem dX8_clear_99 : decode cX8_clear 99 = .ok (.getfield 72, 3) := by decide +kernel
theorem dX8_clear_102 : decode cX8_clear 102 = .ok (.iload_n 3, 1) := by decide +kernel
theorem dX8_clear_103 : decode cX8_clear 103 = .ok (.iaload, 1) := by decide +kernel
theorem dX8_clear_104 : decode cX8_clear 104 = .ok (.ifCond .le 7, 3) := by decide +kernel
theorem dX8_clear_107 : decode cX8_clear 107 = .ok (.iconst 1, 1) := by decide +kernel
theorem dX8_clear_108 : decode cX8_clear 108 = .ok (.goto 4, 3) := by decide +kernel
theorem dX8_clear_111 : decode cX8_clear 111 = .ok (.iconst 0, 1) := by decide +kernel
theorem dX8_clear_112 : decode cX8_clear 112 = .ok (.iadd, 1) := by decide +kernel
theorem dX8_clear_113 : decode cX8_clear 113 = .ok (.istore_n 2, 1) := by decide +kernel
theorem dX8_clear_114 : decode cX8_clear 114 = .ok (.iinc 3 1, 3) := by decide +kernel
theorem dX8_clear_117 : decode cX8_clear 117 = .ok (.goto (-59), 3) := by decide +kernel
theorem dX8_clear_120 : decode cX8_clear 120 = .ok (.iconst 0, 1) := by decide +kernel
theorem dX8_clear_121 : decode cX8_clear 121 = .ok (.istore_n 3, 1) := by decide +kernel
theorem dX8_clear_122 : decode cX8_clear 122 = .ok (.iload_n 3, 1) := by decide +kernel
theorem dX8_clear_123 : decode cX8_clear 123 = .ok (.aload_n 0, 1) := by decide +kernel
theorem dX8_clear_124 : decode cX8_clear 124 = .ok (.getfield 101, 3) := by decide +kernel
theorem dX8_clear_127 : decode cX8_clear 127 = .ok (.if_icmp .ge 88, 3) := by decide +kernel
theorem dX8_clear_130 : decode cX8_clear 130 = .ok (.aload_n 0, 1) := by decide +kernel
theorem dX8_clear_131 : decode cX8_clear 131 = .ok (.getfield 75, 3) := by decide +kernel
theorem dX8_clear_134 : decode cX8_clear 134 = .ok (.iload_n 3, 1) := by decide +kernel
theorem dX8_clear_135 : decode cX8_clear 135 = .ok (.aload_n 0, 1) := by decide +kernel
theorem dX8_clear_136 : decode cX8_clear 136 = .ok (.getfield 66, 3) := by decide +kernel
theorem dX8_clear_139 : decode cX8_clear 139 = .ok (.iload_n 3, 1) := by decide +kernel
theorem dX8_clear_140 : decode cX8_clear 140 = .ok (.iaload, 1) := by decide +kernel
theorem dX8_clear_141 : decode cX8_clear 141 = .ok (.iastore, 1) := by decide +kernel
theorem dX8_clear_142 : decode cX8_clear 142 = .ok (.aload_n 0, 1) := by decide +kernel
theorem dX8_clear_143 : decode cX8_clear 143 = .ok (.getfield 78, 3) := by decide +kernel
theorem dX8_clear_146 : decode cX8_clear 146 = .ok (.aload_n 0, 1) := by decide +kernel
theorem dX8_clear_147 : decode cX8_clear 147 = .ok (.getfield 19, 3) := by decide +kernel
theorem dX8_clear_150 : decode cX8_clear 150 = .ok (.iload_n 3, 1) := by decide +kernel
theorem dX8_clear_151 : decode cX8_clear 151 = .ok (.iaload, 1) := by decide +kernel
theorem dX8_clear_152 : decode cX8_clear 152 = .ok (.dup2, 1) := by decide +kernel
theorem dX8_clear_153 : decode cX8_clear 153 = .ok (.iaload, 1) := by decide +kernel
theorem dX8_clear_154 : decode cX8_clear 154 = .ok (.aload_n 0, 1) := by decide +kernel
theorem dX8_clear_155 : decode cX8_clear 155 = .ok (.getfield 66, 3) := by decide +kernel
theorem dX8_clear_158 : decode cX8_clear 158 = .ok (.iload_n 3, 1) := by decide +kernel
theorem dX8_clear_159 : decode cX8_clear 159 = .ok (.iaload, 1) := by decide +kernel
theorem dX8_clear_160 : decode cX8_clear 160 = .ok (.iadd, 1) := by decide +kernel
theorem dX8_clear_161 : decode cX8_clear 161 = .ok (.iastore, 1) := by decide +kernel
theorem dX8_clear_162 : decode cX8_clear 162 = .ok (.aload_n 0, 1) := by decide +kernel
theorem dX8_clear_163 : decode cX8_clear 163 = .ok (.getfield 78, 3) := by decide +kernel
theorem dX8_clear_166 : decode cX8_clear 166 = .ok (.aload_n 0, 1) := by decide +kernel
theorem dX8_clear_167 : decode cX8_clear 167 = .ok (.getfield 16, 3) := by decide +kernel
theorem dX8_clear_170 : decode cX8_clear 170 = .ok (.iload_n 3, 1) := by decide +kernel
theorem dX8_clear_171 : decode cX8_clear 171 = .ok (.iaload, 1) := by decide +kernel
theorem dX8_clear_172 : decode cX8_clear 172 = .ok (.dup2, 1) := by decide +kernel
theorem dX8_clear_173 : decode cX8_clear 173 = .ok (.iaload, 1) := by decide +kernel
theorem dX8_clear_174 : decode cX8_clear 174 = .ok (.aload_n 0, 1) := by decide +kernel
theorem dX8_clear_175 : decode cX8_clear 175 = .ok (.getfield 66, 3) := by decide +kernel
theorem dX8_clear_178 : decode cX8_clear 178 = .ok (.iload_n 3, 1) := by decide +kernel
theorem dX8_clear_179 : decode cX8_clear 179 = .ok (.iaload, 1) := by decide +kernel
theorem dX8_clear_180 : decode cX8_clear 180 = .ok (.isub, 1) := by decide +kernel
theorem dX8_clear_181 : decode cX8_clear 181 = .ok (.iastore, 1) := by decide +kernel
theorem dX8_clear_182 : decode cX8_clear 182 = .ok (.aload_n 0, 1) := by decide +kernel
theorem dX8_clear_183 : decode cX8_clear 183 = .ok (.getfield 84, 3) := by decide +kernel
theorem dX8_clear_186 : decode cX8_clear 186 = .ok (.aload_n 0, 1) := by decide +kernel
theorem dX8_clear_187 : decode cX8_clear 187 = .ok (.getfield 16, 3) := by decide +kernel
theorem dX8_clear_190 : decode cX8_clear 190 = .ok (.iload_n 3, 1) := by decide +kernel
theorem dX8_clear_191 : decode cX8_clear 191 = .ok (.iaload, 1) := by decide +kernel
theorem dX8_clear_192 : decode cX8_clear 192 = .ok (.dup2, 1) := by decide +kernel
theorem dX8_clear_193 : decode cX8_clear 193 = .ok (.iaload, 1) := by decide +kernel
theorem dX8_clear_194 : decode cX8_clear 194 = .ok (.aload_n 0, 1) := by decide +kernel
theorem dX8_clear_195 : decode cX8_clear 195 = .ok (.getfield 60, 3) := by decide +kernel
theorem dX8_clear_198 : decode cX8_clear 198 = .ok (.iload_n 3, 1) := by decide +kernel
theorem dX8_clear_199 : decode cX8_clear 199 = .ok (.iaload, 1) := by decide +kernel
theorem dX8_clear_200 : decode cX8_clear 200 = .ok (.aload_n 0, 1) := by decide +kernel
theorem dX8_clear_201 : decode cX8_clear 201 = .ok (.getfield 66, 3) := by decide +kernel
theorem dX8_clear_204 : decode cX8_clear 204 = .ok (.iload_n 3, 1) := by decide +kernel
theorem dX8_clear_205 : decode cX8_clear 205 = .ok (.iaload, 1) := by decide +kernel
theorem dX8_clear_206 : decode cX8_clear 206 = .ok (.isub, 1) := by decide +kernel
theorem dX8_clear_207 : decode cX8_clear 207 = .ok (.iadd, 1) := by decide +kernel
theorem dX8_clear_208 : decode cX8_clear 208 = .ok (.iastore, 1) := by decide +kernel
theorem dX8_clear_209 : decode cX8_clear 209 = .ok (.iinc 3 1, 3) := by decide +kernel
theorem dX8_clear_212 : decode cX8_clear 212 = .ok (.goto (-90), 3) := by decide +kernel
theorem dX8_clear_215 : decode cX8_clear 215 = .ok (.iload_n 2, 1) := by decide +kernel
theorem dX8_clear_216 : decode cX8_clear 216 = .ok (.ireturn, 1) := by decide +kernel
theorem dX8_cleared_0 : decode cX8_cleared 0 = .ok (.aload_n 0, 1) := by decide +kernel
theorem dX8_cleared_1 : decode cX8_cleared 1 = .ok (.iconst 0, 1) := by decide +kernel
theorem dX8_cleared_2 : decode cX8_cleared 2 = .ok (.putfield 87, 3) := by decide +kernel
theorem dX8_cleared_5 : decode cX8_cleared 5 = .ok (.aload_n 0, 1) := by decide +kernel
theorem dX8_cleared_6 : decode cX8_cleared 6 = .ok (.getfield 186, 3) := by decide +kernel
theorem dX8_cleared_9 : decode cX8_cleared 9 = .ok (.ifCond .eq 35, 3) := by decide +kernel
theorem dX8_cleared_12 : decode cX8_cleared 12 = .ok (.iload_n 1, 1) := by decide +kernel
theorem dX8_cleared_13 : decode cX8_cleared 13 = .ok (.ifCond .lt 31, 3) := by decide +kernel
theorem dX8_cleared_16 : decode cX8_cleared 16 = .ok (.iload_n 1, 1) := by decide +kernel
theorem dX8_cleared_17 : decode cX8_cleared 17 = .ok (.iconst 3, 1) := by decide +kernel
theorem dX8_cleared_18 : decode cX8_cleared 18 = .ok (.if_icmp .gt 26, 3) := by decide +kernel
theorem dX8_cleared_21 : decode cX8_cleared 21 = .ok (.iload_n 2, 1) := by decide +kernel
theorem dX8_cleared_22 : decode cX8_cleared 22 = .ok (.ifCond .lt 22, 3) := by decide +kernel
theorem dX8_cleared_25 : decode cX8_cleared 25 = .ok (.iload_n 2, 1) := by decide +kernel
theorem dX8_cleared_26 : decode cX8_cleared 26 = .ok (.iload_n 1, 1) := by decide +kernel
theorem dX8_cleared_27 : decode cX8_cleared 27 = .ok (.ifCond .ne 10, 3) := by decide +kernel
theorem dX8_cleared_30 : decode cX8_cleared 30 = .ok (.aload_n 0, 1) := by decide +kernel
theorem dX8_cleared_31 : decode cX8_cleared 31 = .ok (.getfield 192, 3) := by decide +kernel
theorem dX8_cleared_34 : decode cX8_cleared 34 = .ok (.goto 7, 3) := by decide +kernel
theorem dX8_cleared_37 : decode cX8_cleared 37 = .ok (.aload_n 0, 1) := by decide +kernel
theorem dX8_cleared_38 : decode cX8_cleared 38 = .ok (.getfield 189, 3) := by decide +kernel
theorem dX8_cleared_41 : decode cX8_cleared 41 = .ok (.if_icmp .lt 5, 3) := by decide +kernel
theorem dX8_cleared_44 : decode cX8_cleared 44 = .ok (.iconst (-1), 1) := by decide +kernel
theorem dX8_cleared_45 : decode cX8_cleared 45 = .ok (.ireturn, 1) := by decide +kernel
theorem dX8_cleared_46 : decode cX8_cleared 46 = .ok (.iload_n 1, 1) := by decide +kernel
theorem dX8_cleared_47 : decode cX8_cleared 47 = .ok (.ifCond .ne 12, 3) := by decide +kernel
theorem dX8_cleared_50 : decode cX8_cleared 50 = .ok (.aload_n 0, 1) := by decide +kernel
theorem dX8_cleared_51 : decode cX8_cleared 51 = .ok (.getfield 75, 3) := by decide +kernel
theorem dX8_cleared_54 : decode cX8_cleared 54 = .ok (.iload_n 2, 1) := by decide +kernel
theorem dX8_cleared_55 : decode cX8_cleared 55 = .ok (.iaload, 1) := by decide +kernel
theorem dX8_cleared_56 : decode cX8_cleared 56 = .ok (.goto 37, 3) := by decide +kernel
theorem dX8_cleared_59 : decode cX8_cleared 59 = .ok (.iload_n 1, 1) := by decide +kernel
theorem dX8_cleared_60 : decode cX8_cleared 60 = .ok (.iconst 1, 1) := by decide +kernel
theorem dX8_cleared_61 : decode cX8_cleared 61 = .ok (.if_icmp .ne 12, 3) := by decide +kernel
theorem dX8_cleared_64 : decode cX8_cleared 64 = .ok (.aload_n 0, 1) := by decide +kernel
theorem dX8_cleared_65 : decode cX8_cleared 65 = .ok (.getfield 78, 3) := by decide +kernel
theorem dX8_cleared_68 : decode cX8_cleared 68 = .ok (.iload_n 2, 1) := by decide +kernel
theorem dX8_cleared_69 : decode cX8_cleared 69 = .ok (.iaload, 1) := by decide +kernel
theorem dX8_cleared_70 : decode cX8_cleared 70 = .ok (.goto 23, 3) := by decide +kernel
theorem dX8_cleared_73 : decode cX8_cleared 73 = .ok (.iload_n 1, 1) := by decide +kernel
theorem dX8_cleared_74 : decode cX8_cleared 74 = .ok (.iconst 2, 1) := by decide +kernel
theorem dX8_cleared_75 : decode cX8_cleared 75 = .ok (.if_icmp .ne 12, 3) := by decide +kernel
theorem dX8_cleared_78 : decode cX8_cleared 78 = .ok (.aload_n 0, 1) := by decide +kernel
theorem dX8_cleared_79 : decode cX8_cleared 79 = .ok (.getfield 81, 3) := by decide +kernel
theorem dX8_cleared_82 : decode cX8_cleared 82 = .ok (.iload_n 2, 1) := by decide +kernel
theorem dX8_cleared_83 : decode cX8_cleared 83 = .ok (.iaload, 1) := by decide +kernel
theorem dX8_cleared_84 : decode cX8_cleared 84 = .ok (.goto 9, 3) := by decide +kernel
theorem dX8_cleared_87 : decode cX8_cleared 87 = .ok (.aload_n 0, 1) := by decide +kernel
theorem dX8_cleared_88 : decode cX8_cleared 88 = .ok (.getfield 84, 3) := by decide +kernel
theorem dX8_cleared_91 : decode cX8_cleared 91 = .ok (.iload_n 2, 1) := by decide +kernel
theorem dX8_cleared_92 : decode cX8_cleared 92 = .ok (.iaload, 1) := by decide +kernel
theorem dX8_cleared_93 : decode cX8_cleared 93 = .ok (.ireturn, 1) := by decide +kernel
set_option maxRecDepth 20000 in
theorem ggX8_end_X8_works : GoodIn wsX8_end wsX8_works := goodIn_r _ [13, 3, 14, 8, 15, 16, 6, 17, 18, 19, 20, 21, 22, 23, 12, 24, 25, 26, 27, 28, 29, 30, 31, 32, 33, 34, 35, 36, 37, 38, 4, 5, 7, 39, 40, 41, 42, 43, 44, 45, 46, 47, 48, 49, 50, 51, 52, 53, 54, 55, 56, 57, 58, 59, 60, 61, 62, 63, 64, 65, 66, 67, 68, 69, 70, 71, 72, 73, 74, 75, 76, 77, 78, 79, 80, 81, 82] (by decide +kernel) (by decide +kernel)
set_option maxRecDepth 20000 in
theorem gX8_end_X8_works : GoodIn wsX8_end (wsV RX8 182 RX8 yX8_works wsX8_works) := goodIn_app (goodIn_of _ (by decide +kernel)) ggX8_end_X8_works
theorem dX8_end_0 : decode cX8_end 0 = .ok (.aload_n 0, 1) := by decide +kernel
theorem dX8_end_1 : decode cX8_end 1 = .ok (.iconst 0, 1) := by decide +kernel
theorem dX8_end_2 : decode cX8_end 2 = .ok (.putfield 87, 3) := by decide +kernel
theorem dX8_end_5 : decode cX8_end 5 = .ok (.aload_n 0, 1) := by decide +kernel
theorem dX8_end_6 : decode cX8_end 6 = .ok (.getfield 104, 3) := by decide +kernel
theorem dX8_end_9 : decode cX8_end 9 = .ok (.sipush 999, 3) := by decide +kernel
theorem dX8_end_12 : decode cX8_end 12 = .ok (.if_icmp .ne 5, 3) := by decide +kernel
theorem dX8_end_15 : decode cX8_end 15 = .ok (.iconst (-1), 1) := by decide +kernel
theorem dX8_end_16 : decode cX8_end 16 = .ok (.ireturn, 1) := by decide +kernel
theorem dX8_end_17 : decode cX8_end 17 = .ok (.aload_n 0, 1) := by decide +kernel
theorem dX8_end_18 : decode cX8_end 18 = .ok (.iconst 0, 1) := by decide +kernel
theorem dX8_end_19 : decode cX8_end 19 = .ok (.invokevirtual 182, 3) := by decide +kernel
theorem dX8_end_22 : decode cX8_end 22 = .ok (.iconst 0, 1) := by decide +kernel
theorem dX8_end_23 : decode cX8_end 23 = .ok (.istore_n 1, 1) := by decide +kernel
theorem dX8_end_24 : decode cX8_end 24 = .ok (.iconst 0, 1) := by decide +kernel
theorem dX8_end_25 : decode cX8_end 25 = .ok (.istore_n 2, 1) := by decide +kernel
theorem dX8_end_26 : decode cX8_end 26 = .ok (.iload_n 2, 1) := by decide +kernel
theorem dX8_end_27 : decode cX8_end 27 = .ok (.aload_n 0, 1) := by decide +kernel
theorem dX8_end_28 : decode cX8_end 28 = .ok (.getfield 101, 3) := by decide +kernel
theorem dX8_end_31 : decode cX8_end 31 = .ok (.if_icmp .ge 73, 3) := by decide +kernel
theorem dX8_end_34 : decode cX8_end 34 = .ok (.aload_n 0, 1) := by decide +kernel
theorem dX8_end_35 : decode cX8_end 35 = .ok (.getfield 13, 3) := by decide +kernel
theorem dX8_end_38 : decode cX8_end 38 = .ok (.aload_n 0, 1) := by decide +kernel
theorem dX8_end_39 : decode cX8_end 39 = .ok (.getfield 19, 3) := by decide +kernel
theorem dX8_end_42 : decode cX8_end 42 = .ok (.iload_n 2, 1) := by decide +kernel
theorem dX8_end_43 : decode cX8_end 43 = .ok (.iaload, 1) := by decide +kernel
theorem dX8_end_44 : decode cX8_end 44 = .ok (.dup2, 1) := by decide +kernel
theorem dX8_end_45 : decode cX8_end 45 = .ok (.iaload, 1) := by decide +kernel
theorem dX8_end_46 : decode cX8_end 46 = .ok (.aload_n 0, 1) := by decide +kernel
theorem dX8_end_47 : decode cX8_end 47 = .ok (.getfield 66, 3) := by decide +kernel
theorem dX8_end_50 : decode cX8_end 50 = .ok (.iload_n 2, 1) := by decide +kernel
theorem dX8_end_51 : decode cX8_end 51 = .ok (.iaload, 1) := by decide +kernel
theorem dX8_end_52 : decode cX8_end 52 = .ok (.iadd, 1) := by decide +kernel
theorem dX8_end_53 : decode cX8_end 53 = .ok (.iastore, 1) := by decide +kernel
theorem dX8_end_54 : decode cX8_end 54 = .ok (.aload_n 0, 1) := by decide +kernel
theorem dX8_end_55 : decode cX8_end 55 = .ok (.getfield 13, 3) := by decide +kernel
theorem dX8_end_58 : decode cX8_end 58 = .ok (.aload_n 0, 1) := by decide +kernel
theorem dX8_end_59 : decode cX8_end 59 = .ok (.getfield 16, 3) := by decide +kernel
theorem dX8_end_62 : decode cX8_end 62 = .ok (.iload_n 2, 1) := by decide +kernel
theorem dX8_end_63 : decode cX8_end 63 = .ok (.iaload, 1) := by decide +kernel
theorem dX8_end_64 : decode cX8_end 64 = .ok (.dup2, 1) := by decide +kernel
theorem dX8_end_65 : decode cX8_end 65 = .ok (.iaload, 1) := by decide +kernel
theorem dX8_end_66 : decode cX8_end 66 = .ok (.aload_n 0, 1) := by decide +kernel
theorem dX8_end_67 : decode cX8_end 67 = .ok (.getfield 66, 3) := by decide +kernel
theorem dX8_end_70 : decode cX8_end 70 = .ok (.iload_n 2, 1) := by decide +kernel
theorem dX8_end_71 : decode cX8_end 71 = .ok (.iaload, 1) := by decide +kernel
theorem dX8_end_72 : decode cX8_end 72 = .ok (.isub, 1) := by decide +kernel
theorem dX8_end_73 : decode cX8_end 73 = .ok (.iastore, 1) := by decide +kernel
theorem dX8_end_74 : decode cX8_end 74 = .ok (.aload_n 0, 1) := by decide +kernel
theorem dX8_end_75 : decode cX8_end 75 = .ok (.getfield 37, 3) := by decide +kernel
theorem dX8_end_78 : decode cX8_end 78 = .ok (.iload_n 2, 1) := by decide +kernel
theorem dX8_end_79 : decode cX8_end 79 = .ok (.dup2, 1) := by decide +kernel
