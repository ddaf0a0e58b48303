theorem dX8_paper_10 : decode cX8_paper 10 = .ok (.ifCond .eq 48, 3) := by decide +kernel
theorem dX8_paper_13 : decode cX8_paper 13 = .ok (.aload_n 0, 1) := by decide +kernel
theorem dX8_paper_14 : decode cX8_paper 14 = .ok (.iload_n 2, 1) := by decide +kernel
theorem dX8_paper_15 : decode cX8_paper 15 = .ok (.invokevirtual 97, 3) := by decide +kernel
theorem dX8_paper_18 : decode cX8_paper 18 = .ok (.ifCond .eq 40, 3) := by decide +kernel
theorem dX8_paper_21 : decode cX8_paper 21 = .ok (.iload_n 1, 1) := by decide +kernel
theorem dX8_paper_22 : decode cX8_paper 22 = .ok (.iload_n 2, 1) := by decide +kernel
theorem dX8_paper_23 : decode cX8_paper 23 = .ok (.if_icmp .eq 35, 3) := by decide +kernel
theorem dX8_paper_26 : decode cX8_paper 26 = .ok (.iload_n 3, 1) := by decide +kernel
theorem dX8_paper_27 : decode cX8_paper 27 = .ok (.iconst 1, 1) := by decide +kernel
theorem dX8_paper_28 : decode cX8_paper 28 = .ok (.if_icmp .lt 30, 3) := by decide +kernel
theorem dX8_paper_31 : decode cX8_paper 31 = .ok (.iload_n 3, 1) := by decide +kernel
theorem dX8_paper_32 : decode cX8_paper 32 = .ok (.sipush 999, 3) := by decide +kernel
theorem dX8_paper_35 : decode cX8_paper 35 = .ok (.if_icmp .gt 23, 3) := by decide +kernel
theorem dX8_paper_38 : decode cX8_paper 38 = .ok (.iload 4, 2) := by decide +kernel
theorem dX8_paper_40 : decode cX8_paper 40 = .ok (.ifCond .lt 18, 3) := by decide +kernel
theorem dX8_paper_43 : decode cX8_paper 43 = .ok (.iload 4, 2) := by decide +kernel
theorem dX8_paper_45 : decode cX8_paper 45 = .ok (.iconst 3, 1) := by decide +kernel
theorem dX8_paper_46 : decode cX8_paper 46 = .ok (.if_icmp .gt 12, 3) := by decide +kernel
theorem dX8_paper_49 : decode cX8_paper 49 = .ok (.aload_n 0, 1) := by decide +kernel
theorem dX8_paper_50 : decode cX8_paper 50 = .ok (.getfield 101, 3) := by decide +kernel
theorem dX8_paper_53 : decode cX8_paper 53 = .ok (.bipush 40, 2) := by decide +kernel
theorem dX8_paper_55 : decode cX8_paper 55 = .ok (.if_icmp .ne 5, 3) := by decide +kernel
theorem dX8_paper_58 : decode cX8_paper 58 = .ok (.iconst (-1), 1) := by decide +kernel
theorem dX8_paper_59 : decode cX8_paper 59 = .ok (.ireturn, 1) := by decide +kernel
theorem dX8_paper_60 : decode cX8_paper 60 = .ok (.iconst 0, 1) := by decide +kernel
theorem dX8_paper_61 : decode cX8_paper 61 = .ok (.istore 5, 2) := by decide +kernel
theorem dX8_paper_63 : decode cX8_paper 63 = .ok (.iconst 0, 1) := by decide +kernel
theorem dX8_paper_64 : decode cX8_paper 64 = .ok (.istore 6, 2) := by decide +kernel
theorem dX8_paper_66 : decode cX8_paper 66 = .ok (.iload 6, 2) := by decide +kernel
theorem dX8_paper_68 : decode cX8_paper 68 = .ok (.aload_n 0, 1) := by decide +kernel
theorem dX8_paper_69 : decode cX8_paper 69 = .ok (.getfield 101, 3) := by decide +kernel
theorem dX8_paper_72 : decode cX8_paper 72 = .ok (.if_icmp .ge 80, 3) := by decide +kernel
theorem dX8_paper_75 : decode cX8_paper 75 = .ok (.iload 5, 2) := by decide +kernel
theorem dX8_paper_77 : decode cX8_paper 77 = .ok (.ifCond .ne 62, 3) := by decide +kernel
theorem dX8_paper_80 : decode cX8_paper 80 = .ok (.aload_n 0, 1) := by decide +kernel
theorem dX8_paper_81 : decode cX8_paper 81 = .ok (.getfield 22, 3) := by decide +kernel
theorem dX8_paper_84 : decode cX8_paper 84 = .ok (.iload 6, 2) := by decide +kernel
theorem dX8_paper_86 : decode cX8_paper 86 = .ok (.iaload, 1) := by decide +kernel
theorem dX8_paper_87 : decode cX8_paper 87 = .ok (.iload_n 1, 1) := by decide +kernel
theorem dX8_paper_88 : decode cX8_paper 88 = .ok (.if_icmp .ne 55, 3) := by decide +kernel
theorem dX8_paper_91 : decode cX8_paper 91 = .ok (.aload_n 0, 1) := by decide +kernel
theorem dX8_paper_92 : decode cX8_paper 92 = .ok (.getfield 25, 3) := by decide +kernel
theorem dX8_paper_95 : decode cX8_paper 95 = .ok (.iload 6, 2) := by decide +kernel
theorem dX8_paper_97 : decode cX8_paper 97 = .ok (.iaload, 1) := by decide +kernel
theorem dX8_paper_98 : decode cX8_paper 98 = .ok (.iload_n 2, 1) := by decide +kernel
theorem dX8_paper_99 : decode cX8_paper 99 = .ok (.if_icmp .ne 44, 3) := by decide +kernel
theorem dX8_paper_102 : decode cX8_paper 102 = .ok (.aload_n 0, 1) := by decide +kernel
theorem dX8_paper_103 : decode cX8_paper 103 = .ok (.getfield 31, 3) := by decide +kernel
theorem dX8_paper_106 : decode cX8_paper 106 = .ok (.iload 6, 2) := by decide +kernel
theorem dX8_paper_108 : decode cX8_paper 108 = .ok (.iaload, 1) := by decide +kernel
theorem dX8_paper_109 : decode cX8_paper 109 = .ok (.iload_n 3, 1) := by decide +kernel
theorem dX8_paper_110 : decode cX8_paper 110 = .ok (.if_icmp .ne 33, 3) := by decide +kernel
theorem dX8_paper_113 : decode cX8_paper 113 = .ok (.aload_n 0, 1) := by decide +kernel
theorem dX8_paper_114 : decode cX8_paper 114 = .ok (.getfield 28, 3) := by decide +kernel
theorem dX8_paper_117 : decode cX8_paper 117 = .ok (.iload 6, 2) := by decide +kernel
theorem dX8_paper_119 : decode cX8_paper 119 = .ok (.iaload, 1) := by decide +kernel
theorem dX8_paper_120 : decode cX8_paper 120 = .ok (.iload 4, 2) := by decide +kernel
theorem dX8_paper_122 : decode cX8_paper 122 = .ok (.if_icmp .ne 21, 3) := by decide +kernel
theorem dX8_paper_125 : decode cX8_paper 125 = .ok (.aload_n 0, 1) := by decide +kernel
theorem dX8_paper_126 : decode cX8_paper 126 = .ok (.getfield 40, 3) := by decide +kernel
theorem dX8_paper_129 : decode cX8_paper 129 = .ok (.iload 6, 2) := by decide +kernel
theorem dX8_paper_131 : decode cX8_paper 131 = .ok (.iaload, 1) := by decide +kernel
theorem dX8_paper_132 : decode cX8_paper 132 = .ok (.aload_n 0, 1) := by decide +kernel
theorem dX8_paper_133 : decode cX8_paper 133 = .ok (.getfield 104, 3) := by decide +kernel
theorem dX8_paper_136 : decode cX8_paper 136 = .ok (.if_icmp .ne 7, 3) := by decide +kernel
theorem dX8_paper_139 : decode cX8_paper 139 = .ok (.iconst 1, 1) := by decide +kernel
theorem dX8_paper_140 : decode cX8_paper 140 = .ok (.goto 4, 3) := by decide +kernel
theorem dX8_paper_143 : decode cX8_paper 143 = .ok (.iconst 0, 1) := by decide +kernel
theorem dX8_paper_144 : decode cX8_paper 144 = .ok (.istore 5, 2) := by decide +kernel
theorem dX8_paper_146 : decode cX8_paper 146 = .ok (.iinc 6 1, 3) := by decide +kernel
theorem dX8_paper_149 : decode cX8_paper 149 = .ok (.goto (-83), 3) := by decide +kernel
theorem dX8_paper_152 : decode cX8_paper 152 = .ok (.aload_n 0, 1) := by decide +kernel
theorem dX8_paper_153 : decode cX8_paper 153 = .ok (.getfield 16, 3) := by decide +kernel
theorem dX8_paper_156 : decode cX8_paper 156 = .ok (.aload_n 0, 1) := by decide +kernel
theorem dX8_paper_157 : decode cX8_paper 157 = .ok (.getfield 101, 3) := by decide +kernel
theorem dX8_paper_160 : decode cX8_paper 160 = .ok (.iload_n 1, 1) := by decide +kernel
theorem dX8_paper_161 : decode cX8_paper 161 = .ok (.iastore, 1) := by decide +kernel
theorem dX8_paper_162 : decode cX8_paper 162 = .ok (.aload_n 0, 1) := by decide +kernel
theorem dX8_paper_163 : decode cX8_paper 163 = .ok (.getfield 19, 3) := by decide +kernel
theorem dX8_paper_166 : decode cX8_paper 166 = .ok (.aload_n 0, 1) := by decide +kernel
theorem dX8_paper_167 : decode cX8_paper 167 = .ok (.getfield 101, 3) := by decide +kernel
theorem dX8_paper_170 : decode cX8_paper 170 = .ok (.iload_n 2, 1) := by decide +kernel
theorem dX8_paper_171 : decode cX8_paper 171 = .ok (.iastore, 1) := by decide +kernel
theorem dX8_paper_172 : decode cX8_paper 172 = .ok (.aload_n 0, 1) := by decide +kernel
theorem dX8_paper_173 : decode cX8_paper 173 = .ok (.getfield 22, 3) := by decide +kernel
theorem dX8_paper_176 : decode cX8_paper 176 = .ok (.aload_n 0, 1) := by decide +kernel
theorem dX8_paper_177 : decode cX8_paper 177 = .ok (.getfield 101, 3) := by decide +kernel
theorem dX8_paper_180 : decode cX8_paper 180 = .ok (.iload_n 1, 1) := by decide +kernel
theorem dX8_paper_181 : decode cX8_paper 181 = .ok (.iastore, 1) := by decide +kernel
theorem dX8_paper_182 : decode cX8_paper 182 = .ok (.aload_n 0, 1) := by decide +kernel
theorem dX8_paper_183 : decode cX8_paper 183 = .ok (.getfield 25, 3) := by decide +kernel
theorem dX8_paper_186 : decode cX8_paper 186 = .ok (.aload_n 0, 1) := by decide +kernel
theorem dX8_paper_187 : decode cX8_paper 187 = .ok (.getfield 101, 3) := by decide +kernel
theorem dX8_paper_190 : decode cX8_paper 190 = .ok (.iload_n 2, 1) := by decide +kernel
theorem dX8_paper_191 : decode cX8_paper 191 = .ok (.iastore, 1) := by decide +kernel
theorem dX8_paper_192 : decode cX8_paper 192 = .ok (.aload_n 0, 1) := by decide +kernel
theorem dX8_paper_193 : decode cX8_paper 193 = .ok (.getfield 28, 3) := by decide +kernel
theorem dX8_paper_196 : decode cX8_paper 196 = .ok (.aload_n 0, 1) := by decide +kernel
theorem dX8_paper_197 : decode cX8_paper 197 = .ok (.getfield 101, 3) := by decide +kernel
theorem dX8_paper_200 : decode cX8_paper 200 = .ok (.iload 4, 2) := by decide +kernel
theorem dX8_paper_202 : decode cX8_paper 202 = .ok (.iastore, 1) := by decide +kernel
theorem dX8_paper_203 : decode cX8_paper 203 = .ok (.aload_n 0, 1) := by decide +kernel
theorem dX8_paper_204 : decode cX8_paper 204 = .ok (.getfield 31, 3) := by decide +kernel
theorem dX8_paper_207 : decode cX8_paper 207 = .ok (.aload_n 0, 1) := by decide +kernel
theorem dX8_paper_208 : decode cX8_paper 208 = .ok (.getfield 101, 3) := by decide +kernel
theorem dX8_paper_211 : decode cX8_paper 211 = .ok (.iload_n 3, 1) := by decide +kernel
theorem dX8_paper_212 : decode cX8_paper 212 = .ok (.iastore, 1) := by decide +kernel
theorem dX8_paper_213 : decode cX8_paper 213 = .ok (.aload_n 0, 1) := by decide +kernel
theorem dX8_paper_214 : decode cX8_paper 214 = .ok (.getfield 34, 3) := by decide +kernel
theorem dX8_paper_217 : decode cX8_paper 217 = .ok (.aload_n 0, 1) := by decide +kernel
theorem dX8_paper_218 : decode cX8_paper 218 = .ok (.getfield 101, 3) := by decide +kernel
theorem dX8_paper_221 : decode cX8_paper 221 = .ok (.iload 4, 2) := by decide +kernel
theorem dX8_paper_223 : decode cX8_paper 223 = .ok (.iastore, 1) := by decide +kernel
theorem dX8_paper_224 : decode cX8_paper 224 = .ok (.aload_n 0, 1) := by decide +kernel
theorem dX8_paper_225 : decode cX8_paper 225 = .ok (.getfield 37, 3) := by decide +kernel
theorem dX8_paper_228 : decode cX8_paper 228 = .ok (.aload_n 0, 1) := by decide +kernel
theorem dX8_paper_229 : decode cX8_paper 229 = .ok (.getfield 101, 3) := by decide +kernel
theorem dX8_paper_232 : decode cX8_paper 232 = .ok (.iload 5, 2) := by decide +kernel
theorem dX8_paper_234 : decode cX8_paper 234 = .ok (.ifCond .eq 7, 3) := by decide +kernel
theorem dX8_paper_237 : decode cX8_paper 237 = .ok (.iconst 0, 1) := by decide +kernel
theorem dX8_paper_238 : decode cX8_paper 238 = .ok (.goto 4, 3) := by decide +kernel
theorem dX8_paper_241 : decode cX8_paper 241 = .ok (.iload_n 3, 1) := by decide +kernel
theorem dX8_paper_242 : decode cX8_paper 242 = .ok (.iastore, 1) := by decide +kernel
theorem dX8_paper_243 : decode cX8_paper 243 = .ok (.aload_n 0, 1) := by decide +kernel
theorem dX8_paper_244 : decode cX8_paper 244 = .ok (.getfield 40, 3) := by decide +kernel
theorem dX8_paper_247 : decode cX8_paper 247 = .ok (.aload_n 0, 1) := by decide +kernel
theorem dX8_paper_248 : decode cX8_paper 248 = .ok (.getfield 101, 3) := by decide +kernel
theorem dX8_paper_251 : decode cX8_paper 251 = .ok (.aload_n 0, 1) := by decide +kernel
theorem dX8_paper_252 : decode cX8_paper 252 = .ok (.getfield 104, 3) := by decide +kernel
theorem dX8_paper_255 : decode cX8_paper 255 = .ok (.iastore, 1) := by decide +kernel
theorem dX8_paper_256 : decode cX8_paper 256 = .ok (.aload_n 0, 1) := by decide +kernel
theorem dX8_paper_257 : decode cX8_paper 257 = .ok (.getfield 43, 3) := by decide +kernel
theorem dX8_paper_260 : decode cX8_paper 260 = .ok (.aload_n 0, 1) := by decide +kernel
theorem dX8_paper_261 : decode cX8_paper 261 = .ok (.getfield 101, 3) := by decide +kernel
theorem dX8_paper_264 : decode cX8_paper 264 = .ok (.iload 5, 2) := by decide +kernel
theorem dX8_paper_266 : decode cX8_paper 266 = .ok (.bastore, 1) := by decide +kernel
theorem dX8_paper_267 : decode cX8_paper 267 = .ok (.aload_n 0, 1) := by decide +kernel
theorem dX8_paper_268 : decode cX8_paper 268 = .ok (.dup, 1) := by decide +kernel
theorem dX8_paper_269 : decode cX8_paper 269 = .ok (.getfield 101, 3) := by decide +kernel
theorem dX8_paper_272 : decode cX8_paper 272 = .ok (.iconst 1, 1) := by decide +kernel
theorem dX8_paper_273 : decode cX8_paper 273 = .ok (.iadd, 1) := by decide +kernel
theorem dX8_paper_274 : decode cX8_paper 274 = .ok (.putfield 101, 3) := by decide +kernel
theorem dX8_paper_277 : decode cX8_paper 277 = .ok (.aload_n 0, 1) := by decide +kernel
theorem dX8_paper_278 : decode cX8_paper 278 = .ok (.getfield 101, 3) := by decide +kernel
theorem dX8_paper_281 : decode cX8_paper 281 = .ok (.iconst 1, 1) := by decide +kernel
theorem dX8_paper_282 : decode cX8_paper 282 = .ok (.isub, 1) := by decide +kernel
theorem dX8_paper_283 : decode cX8_paper 283 = .ok (.ireturn, 1) := by decide +kernel
theorem dX8_fails_0 : decode cX8_fails 0 = .ok (.aload_n 0, 1) := by decide +kernel
theorem dX8_fails_1 : decode cX8_fails 1 = .ok (.iload_n 1, 1) := by decide +kernel
theorem dX8_fails_2 : decode cX8_fails 2 = .ok (.putfield 87, 3) := by decide +kernel
theorem dX8_fails_5 : decode cX8_fails 5 = .ok (.iconst 0, 1) := by decide +kernel
theorem dX8_fails_6 : decode cX8_fails 6 = .ok (.ireturn, 1) := by decide +kernel
set_option maxRecDepth 20000 in
theorem ggX8_look_X8_fails : GoodIn wsX8_look wsX8_fails := goodIn_r _ [14, 1, 15, 16, 17, 18, 19, 20, 21, 22, 23, 24, 25, 26, 27, 28, 29, 30, 31, 32, 33, 34, 35, 36, 37, 38, 39, 40, 41, 42, 43, 44, 45, 46, 47, 48, 49, 50, 51, 52, 53, 54, 55, 56, 57, 58] (by decide +kernel) (by decide +kernel)
set_option maxRecDepth 20000 in
theorem gX8_look_X8_fails : GoodIn wsX8_look (wsV RX8 107 RX8 yX8_fails wsX8_fails) := goodIn_app (goodIn_of _ (by decide +kernel)) ggX8_look_X8_fails
theorem dX8_look_0 : decode cX8_look 0 = .ok (.aload_n 0, 1) := by decide +kernel
theorem dX8_look_1 : decode cX8_look 1 = .ok (.iconst 0, 1) := by decide +kernel
theorem dX8_look_2 : decode cX8_look 2 = .ok (.putfield 87, 3) := by decide +kernel
theorem dX8_look_5 : decode cX8_look 5 = .ok (.iload_n 1, 1) := by decide +kernel
theorem dX8_look_6 : decode cX8_look 6 = .ok (.ifCond .lt 11, 3) := by decide +kernel
theorem dX8_look_9 : decode cX8_look 9 = .ok (.iload_n 1, 1) := by decide +kernel
theorem dX8_look_10 : decode cX8_look 10 = .ok (.aload_n 0, 1) := by decide +kernel
theorem dX8_look_11 : decode cX8_look 11 = .ok (.getfield 101, 3) := by decide +kernel
theorem dX8_look_14 : decode cX8_look 14 = .ok (.if_icmp .lt 9, 3) := by decide +kernel
theorem dX8_look_17 : decode cX8_look 17 = .ok (.aload_n 0, 1) := by decide +kernel
theorem dX8_look_18 : decode cX8_look 18 = .ok (.iconst 1, 1) := by decide +kernel
theorem dX8_look_19 : decode cX8_look 19 = .ok (.invokevirtual 107, 3) := by decide +kernel
theorem dX8_look_22 : decode cX8_look 22 = .ok (.ireturn, 1) := by decide +kernel
theorem dX8_look_23 : decode cX8_look 23 = .ok (.iload_n 2, 1) := by decide +kernel
theorem dX8_look_24 : decode cX8_look 24 = .ok (.tableswitch 101 0 6 #[44, 51, 58, 65, 72, 79, 86], 44) := by decide +kernel
theorem dX8_look_68 : decode cX8_look 68 = .ok (.aload_n 0, 1) := by decide +kernel
theorem dX8_look_69 : decode cX8_look 69 = .ok (.getfield 16, 3) := by decide +kernel
theorem dX8_look_72 : decode cX8_look 72 = .ok (.iload_n 1, 1) := by decide +kernel
theorem dX8_look_73 : decode cX8_look 73 = .ok (.iaload, 1) := by decide +kernel
theorem dX8_look_74 : decode cX8_look 74 = .ok (.ireturn, 1) := by decide +kernel
theorem dX8_look_75 : decode cX8_look 75 = .ok (.aload_n 0, 1) := by decide +kernel
theorem dX8_look_76 : decode cX8_look 76 = .ok (.getfield 19, 3) := by decide +kernel
theorem dX8_look_79 : decode cX8_look 79 = .ok (.iload_n 1, 1) := by decide +kernel
theorem dX8_look_80 : decode cX8_look 80 = .ok (.iaload, 1) := by decide +kernel
theorem dX8_look_81 : decode cX8_look 81 = .ok (.ireturn, 1) := by decide +kernel
theorem dX8_look_82 : decode cX8_look 82 = .ok (.aload_n 0, 1) := by decide +kernel
theorem dX8_look_83 : decode cX8_look 83 = .ok (.getfield 31, 3) := by decide +kernel
theorem dX8_look_86 : decode cX8_look 86 = .ok (.iload_n 1, 1) := by decide +kernel
theorem dX8_look_87 : decode cX8_look 87 = .ok (.iaload, 1) := by decide +kernel
theorem dX8_look_88 : decode cX8_look 88 = .ok (.ireturn, 1) := by decide +kernel
theorem dX8_look_89 : decode cX8_look 89 = .ok (.aload_n 0, 1) := by decide +kernel
theorem dX8_look_90 : decode cX8_look 90 = .ok (.getfield 34, 3) := by decide +kernel
theorem dX8_look_93 : decode cX8_look 93 = .ok (.iload_n 1, 1) := by decide +kernel
theorem dX8_look_94 : decode cX8_look 94 = .ok (.iaload, 1) := by decide +kernel
theorem dX8_look_95 : decode cX8_look 95 = .ok (.ireturn, 1) := by decide +kernel
theorem dX8_look_96 : decode cX8_look 96 = .ok (.aload_n 0, 1) := by decide +kernel
theorem dX8_look_97 : decode cX8_look 97 = .ok (.getfield 37, 3) := by decide +kernel
theorem dX8_look_100 : decode cX8_look 100 = .ok (.iload_n 1, 1) := by decide +kernel
theorem dX8_look_101 : decode cX8_look 101 = .ok (.iaload, 1) := by decide +kernel
theorem dX8_look_102 : decode cX8_look 102 = .ok (.ireturn, 1) := by decide +kernel
theorem dX8_look_103 : decode cX8_look 103 = .ok (.aload_n 0, 1) := by decide +kernel
theorem dX8_look_104 : decode cX8_look 104 = .ok (.getfield 40, 3) := by decide +kernel
theorem dX8_look_107 : decode cX8_look 107 = .ok (.iload_n 1, 1) := by decide +kernel
theorem dX8_look_108 : decode cX8_look 108 = .ok (.iaload, 1) := by decide +kernel
theorem dX8_look_109 : decode cX8_look 109 = .ok (.ireturn, 1) := by decide +kernel
theorem dX8_look_110 : decode cX8_look 110 = .ok (.aload_n 0, 1) := by decide +kernel
theorem dX8_look_111 : decode cX8_look 111 = .ok (.getfield 43, 3) := by decide +kernel
theorem dX8_look_114 : decode cX8_look 114 = .ok (.iload_n 1, 1) := by decide +kernel
theorem dX8_look_115 : decode cX8_look 115 = .ok (.baload, 1) := by decide +kernel
theorem dX8_look_116 : decode cX8_look 116 = .ok (.ifCond .eq 7, 3) := by decide +kernel
theorem dX8_look_119 : decode cX8_look 119 = .ok (.iconst 1, 1) := by decide +kernel
theorem dX8_look_120 : decode cX8_look 120 = .ok (.goto 4, 3) := by decide +kernel
theorem dX8_look_123 : decode cX8_look 123 = .ok (.iconst 0, 1) := by decide +kernel
theorem dX8_look_124 : decode cX8_look 124 = .ok (.ireturn, 1) := by decide +kernel
theorem dX8_look_125 : decode cX8_look 125 = .ok (.aload_n 0, 1) := by decide +kernel
theorem dX8_look_126 : decode cX8_look 126 = .ok (.iconst 2, 1) := by decide +kernel
theorem dX8_look_127 : decode cX8_look 127 = .ok (.invokevirtual 107, 3) := by decide +kernel
theorem dX8_look_130 : decode cX8_look 130 = .ok (.ireturn, 1) := by decide +kernel
theorem dX8_pass_0 : decode cX8_pass 0 = .ok (.aload_n 0, 1) := by decide +kernel
theorem dX8_pass_1 : decode cX8_pass 1 = .ok (.iconst 0, 1) := by decide +kernel
theorem dX8_pass_2 : decode cX8_pass 2 = .ok (.putfield 87, 3) := by decide +kernel
theorem dX8_pass_5 : decode cX8_pass 5 = .ok (.iload_n 1, 1) := by decide +kernel
theorem dX8_pass_6 : decode cX8_pass 6 = .ok (.ifCond .lt 15, 3) := by decide +kernel
theorem dX8_pass_9 : decode cX8_pass 9 = .ok (.iload_n 1, 1) := by decide +kernel
theorem dX8_pass_10 : decode cX8_pass 10 = .ok (.sipush 999, 3) := by decide +kernel
theorem dX8_pass_13 : decode cX8_pass 13 = .ok (.aload_n 0, 1) := by decide +kernel
theorem dX8_pass_14 : decode cX8_pass 14 = .ok (.getfield 104, 3) := by decide +kernel
theorem dX8_pass_17 : decode cX8_pass 17 = .ok (.isub, 1) := by decide +kernel
theorem dX8_pass_18 : decode cX8_pass 18 = .ok (.if_icmp .le 5, 3) := by decide +kernel
theorem dX8_pass_21 : decode cX8_pass 21 = .ok (.iconst (-1), 1) := by decide +kernel
theorem dX8_pass_22 : decode cX8_pass 22 = .ok (.ireturn, 1) := by decide +kernel
theorem dX8_pass_23 : decode cX8_pass 23 = .ok (.aload_n 0, 1) := by decide +kernel
theorem dX8_pass_24 : decode cX8_pass 24 = .ok (.dup, 1) := by decide +kernel
theorem dX8_pass_25 : decode cX8_pass 25 = .ok (.getfield 104, 3) := by decide +kernel
theorem dX8_pass_28 : decode cX8_pass 28 = .ok (.iload_n 1, 1) := by decide +kernel
theorem dX8_pass_29 : decode cX8_pass 29 = .ok (.iadd, 1) := by decide +kernel
theorem dX8_pass_30 : decode cX8_pass 30 = .ok (.putfield 104, 3) := by decide +kernel
theorem dX8_pass_33 : decode cX8_pass 33 = .ok (.aload_n 0, 1) := by decide +kernel
theorem dX8_pass_34 : decode cX8_pass 34 = .ok (.getfield 104, 3) := by decide +kernel
theorem dX8_pass_37 : decode cX8_pass 37 = .ok (.ireturn, 1) := by decide +kernel
set_option maxRecDepth 20000 in
theorem ggX8_purse_X8_isMan : GoodIn wsX8_purse wsX8_isMan := goodIn_r _ [7, 8, 9, 10, 11, 12, 13, 14, 15, 16, 17, 18, 19, 20, 21, 22, 23, 24, 25, 26, 27, 28, 29, 30, 31, 32, 33, 34, 35, 36, 37, 38, 39, 40, 41, 42, 43, 44, 45, 46, 47, 48, 49, 50, 51, 52] (by decide +kernel) (by decide +kernel)
set_option maxRecDepth 20000 in
theorem gX8_purse_X8_isMan : GoodIn wsX8_purse (wsV RX8 97 RX8 yX8_isMan wsX8_isMan) := goodIn_app (goodIn_of _ (by decide +kernel)) ggX8_purse_X8_isMan
theorem dX8_purse_0 : decode cX8_purse 0 = .ok (.aload_n 0, 1) := by decide +kernel
theorem dX8_purse_1 : decode cX8_purse 1 = .ok (.iconst 0, 1) := by decide +kernel
theorem dX8_purse_2 : decode cX8_purse 2 = .ok (.putfield 87, 3) := by decide +kernel
theorem dX8_purse_5 : decode cX8_purse 5 = .ok (.aload_n 0, 1) := by decide +kernel
theorem dX8_purse_6 : decode cX8_purse 6 = .ok (.iload_n 1, 1) := by decide +kernel
theorem dX8_purse_7 : decode cX8_purse 7 = .ok (.invokevirtual 97, 3) := by decide +kernel
theorem dX8_purse_10 : decode cX8_purse 10 = .ok (.ifCond .eq 12, 3) := by decide +kernel
theorem dX8_purse_13 : decode cX8_purse 13 = .ok (.aload_n 0, 1) := by decide +kernel
theorem dX8_purse_14 : decode cX8_purse 14 = .ok (.getfield 13, 3) := by decide +kernel
theorem dX8_purse_17 : decode cX8_purse 17 = .ok (.iload_n 1, 1) := by decide +kernel
theorem dX8_purse_18 : decode cX8_purse 18 = .ok (.iaload, 1) := by decide +kernel
theorem dX8_purse_19 : decode cX8_purse 19 = .ok (.goto 4, 3) := by decide +kernel
theorem dX8_purse_22 : decode cX8_purse 22 = .ok (.iconst (-1), 1) := by decide +kernel
theorem dX8_purse_23 : decode cX8_purse 23 = .ok (.ireturn, 1) := by decide +kernel
theorem dX8_netOf_0 : decode cX8_netOf 0 = .ok (.iconst 0, 1) := by decide +kernel
theorem dX8_netOf_1 : decode cX8_netOf 1 = .ok (.istore_n 2, 1) := by decide +kernel
theorem dX8_netOf_2 : decode cX8_netOf 2 = .ok (.iconst 0, 1) := by decide +kernel
theorem dX8_netOf_3 : decode cX8_netOf 3 = .ok (.istore_n 3, 1) := by decide +kernel
theorem dX8_netOf_4 : decode cX8_netOf 4 = .ok (.iload_n 3, 1) := by decide +kernel
theorem dX8_netOf_5 : decode cX8_netOf 5 = .ok (.aload_n 0, 1) := by decide +kernel
theorem dX8_netOf_6 : decode cX8_netOf 6 = .ok (.getfield 101, 3) := by decide +kernel
theorem dX8_netOf_9 : decode cX8_netOf 9 = .ok (.if_icmp .ge 47, 3) := by decide +kernel
theorem dX8_netOf_12 : decode cX8_netOf 12 = .ok (.aload_n 0, 1) := by decide +kernel
theorem dX8_netOf_13 : decode cX8_netOf 13 = .ok (.getfield 19, 3) := by decide +kernel
theorem dX8_netOf_16 : decode cX8_netOf 16 = .ok (.iload_n 3, 1) := by decide +kernel
theorem dX8_netOf_17 : decode cX8_netOf 17 = .ok (.iaload, 1) := by decide +kernel
theorem dX8_netOf_18 : decode cX8_netOf 18 = .ok (.iload_n 1, 1) := by decide +kernel
theorem dX8_netOf_19 : decode cX8_netOf 19 = .ok (.if_icmp .ne 12, 3) := by decide +kernel
theorem dX8_netOf_22 : decode cX8_netOf 22 = .ok (.iload_n 2, 1) := by decide +kernel
theorem dX8_netOf_23 : decode cX8_netOf 23 = .ok (.aload_n 0, 1) := by decide +kernel
theorem dX8_netOf_24 : decode cX8_netOf 24 = .ok (.getfield 37, 3) := by decide +kernel
theorem dX8_netOf_27 : decode cX8_netOf 27 = .ok (.iload_n 3, 1) := by decide +kernel
theorem dX8_netOf_28 : decode cX8_netOf 28 = .ok (.iaload, 1) := by decide +kernel
theorem dX8_netOf_29 : decode cX8_netOf 29 = .ok (.iadd, 1) := by decide +kernel
theorem dX8_netOf_30 : decode cX8_netOf 30 = .ok (.istore_n 2, 1) := by decide +kernel
theorem dX8_netOf_31 : decode cX8_netOf 31 = .ok (.aload_n 0, 1) := by decide +kernel
theorem dX8_netOf_32 : decode cX8_netOf 32 = .ok (.getfield 16, 3) := by decide +kernel
theorem dX8_netOf_35 : decode cX8_netOf 35 = .ok (.iload_n 3, 1) := by decide +kernel
theorem dX8_netOf_36 : decode cX8_netOf 36 = .ok (.iaload, 1) := by decide +kernel
theorem dX8_netOf_37 : decode cX8_netOf 37 = .ok (.iload_n 1, 1) := by decide +kernel
theorem dX8_netOf_38 : decode cX8_netOf 38 = .ok (.if_icmp .ne 12, 3) := by decide +kernel
theorem dX8_netOf_41 : decode cX8_netOf 41 = .ok (.iload_n 2, 1) := by decide +kernel
theorem dX8_netOf_42 : decode cX8_netOf 42 = .ok (.aload_n 0, 1) := by decide +kernel
theorem dX8_netOf_43 : decode cX8_netOf 43 = .ok (.getfield 37, 3) := by decide +kernel
theorem dX8_netOf_46 : decode cX8_netOf 46 = .ok (.iload_n 3, 1) := by decide +kernel
theorem dX8_netOf_47 : decode cX8_netOf 47 = .ok (.iaload, 1) := by decide +kernel
theorem dX8_netOf_48 : decode cX8_netOf 48 = .ok (.isub, 1) := by decide +kernel
theorem dX8_netOf_49 : decode cX8_netOf 49 = .ok (.istore_n 2, 1) := by decide +kernel
theorem dX8_netOf_50 : decode cX8_netOf 50 = .ok (.iinc 3 1, 3) := by decide +kernel
theorem dX8_netOf_53 : decode cX8_netOf 53 = .ok (.goto (-49), 3) := by decide +kernel
theorem dX8_netOf_56 : decode cX8_netOf 56 = .ok (.iload_n 2, 1) := by decide +kernel
theorem dX8_netOf_57 : decode cX8_netOf 57 = .ok (.ireturn, 1) := by decide +kernel
set_option maxRecDepth 20000 in
theorem ggX8_net_X8_isMan : GoodIn wsX8_net wsX8_isMan := goodIn_r _ [7, 8, 17, 18, 19, 20, 21, 22, 23, 24, 25, 26, 27, 28, 29, 30, 31, 32, 33, 34, 35, 36, 37, 38, 39, 40, 41, 42, 43, 44, 45, 46, 47, 48, 49, 50, 51, 52, 53, 54, 55, 56, 57, 58, 59, 60] (by decide +kernel) (by decide +kernel)
set_option maxRecDepth 20000 in
theorem gX8_net_X8_isMan : GoodIn wsX8_net (wsV RX8 97 RX8 yX8_isMan wsX8_isMan) := goodIn_app (goodIn_of _ (by decide +kernel)) ggX8_net_X8_isMan
set_option maxRecDepth 20000 in
theorem ggX8_net_X8_netOf : GoodIn wsX8_net wsX8_netOf := goodIn_r _ [12, 13, 14, 15, 16, 17, 18, 19, 20, 21, 22, 23, 24, 25, 26, 27, 28, 29, 30, 31, 32, 33, 34, 35, 36, 37, 38, 39, 40, 41, 42, 43, 44, 45, 46, 47, 48, 49, 50, 51, 52, 53, 54, 55, 56, 57, 58, 59, 60] (by decide +kernel) (by decide +kernel)
set_option maxRecDepth 20000 in
theorem gX8_net_X8_netOf : GoodIn wsX8_net (wsV RX8 111 RX8 yX8_netOf wsX8_netOf) := goodIn_app (goodIn_of _ (by decide +kernel)) ggX8_net_X8_netOf
theorem dX8_net_0 : decode cX8_net 0 = .ok (.aload_n 0, 1) := by decide +kernel
theorem dX8_net_1 : decode cX8_net 1 = .ok (.iconst 0, 1) := by decide +kernel
theorem dX8_net_2 : decode cX8_net 2 = .ok (.putfield 87, 3) := by decide +kernel
theorem dX8_net_5 : decode cX8_net 5 = .ok (.aload_n 0, 1) := by decide +kernel
theorem dX8_net_6 : decode cX8_net 6 = .ok (.iload_n 1, 1) := by decide +kernel
theorem dX8_net_7 : decode cX8_net 7 = .ok (.invokevirtual 97, 3) := by decide +kernel
theorem dX8_net_10 : decode cX8_net 10 = .ok (.ifCond .eq 11, 3) := by decide +kernel
theorem dX8_net_13 : decode cX8_net 13 = .ok (.aload_n 0, 1) := by decide +kernel
theorem dX8_net_14 : decode cX8_net 14 = .ok (.iload_n 1, 1) := by decide +kernel
theorem dX8_net_15 : decode cX8_net 15 = .ok (.invokevirtual 111, 3) := by decide +kernel
theorem dX8_net_18 : decode cX8_net 18 = .ok (.goto 5, 3) := by decide +kernel
theorem dX8_net_21 : decode cX8_net 21 = .ok (.ldc 114, 2) := by decide +kernel
theorem dX8_net_23 : decode cX8_net 23 = .ok (.ireturn, 1) := by decide +kernel
set_option maxRecDepth 20000 in
theorem ggX8_thread_X8_netOf : GoodIn wsX8_thread wsX8_netOf := goodIn_r _ [7, 8, 9, 10, 11, 12, 13, 14, 15, 16, 17, 18, 19, 20, 21, 22, 23, 24, 25, 26, 27, 28, 29, 30, 31, 32, 33, 34, 35, 36, 37, 38, 39, 40, 41, 42, 43, 44, 45, 46, 47, 48, 49, 50, 51, 52, 53, 54, 55] (by decide +kernel) (by decide +kernel)
set_option maxRecDepth 20000 in
theorem gX8_thread_X8_netOf : GoodIn wsX8_thread (wsV RX8 111 RX8 yX8_netOf wsX8_netOf) := goodIn_app (goodIn_of _ (by decide +kernel)) ggX8_thread_X8_netOf
theorem dX8_thread_0 : decode cX8_thread 0 = .ok (.aload_n 0, 1) := by decide +kernel
theorem dX8_thread_1 : decode cX8_thread 1 = .ok (.iconst 0, 1) := by decide +kernel
theorem dX8_thread_2 : decode cX8_thread 2 = .ok (.putfield 87, 3) := by decide +kernel
theorem dX8_thread_5 : decode cX8_thread 5 = .ok (.iconst 0, 1) := by decide +kernel
theorem dX8_thread_6 : decode cX8_thread 6 = .ok (.istore_n 1, 1) := by decide +kernel
theorem dX8_thread_7 : decode cX8_thread 7 = .ok (.iconst 0, 1) := by decide +kernel
theorem dX8_thread_8 : decode cX8_thread 8 = .ok (.istore_n 2, 1) := by decide +kernel
theorem dX8_thread_9 : decode cX8_thread 9 = .ok (.iload_n 2, 1) := by decide +kernel
theorem dX8_thread_10 : decode cX8_thread 10 = .ok (.aload_n 0, 1) := by decide +kernel
theorem dX8_thread_11 : decode cX8_thread 11 = .ok (.getfield 94, 3) := by decide +kernel
theorem dX8_thread_14 : decode cX8_thread 14 = .ok (.if_icmp .ge 29, 3) := by decide +kernel
theorem dX8_thread_17 : decode cX8_thread 17 = .ok (.iload_n 1, 1) := by decide +kernel
theorem dX8_thread_18 : decode cX8_thread 18 = .ok (.aload_n 0, 1) := by decide +kernel
theorem dX8_thread_19 : decode cX8_thread 19 = .ok (.iload_n 2, 1) := by decide +kernel
theorem dX8_thread_20 : decode cX8_thread 20 = .ok (.invokevirtual 111, 3) := by decide +kernel
theorem dX8_thread_23 : decode cX8_thread 23 = .ok (.ifCond .le 11, 3) := by decide +kernel
theorem dX8_thread_26 : decode cX8_thread 26 = .ok (.aload_n 0, 1) := by decide +kernel
theorem dX8_thread_27 : decode cX8_thread 27 = .ok (.iload_n 2, 1) := by decide +kernel
theorem dX8_thread_28 : decode cX8_thread 28 = .ok (.invokevirtual 111, 3) := by decide +kernel
theorem dX8_thread_31 : decode cX8_thread 31 = .ok (.goto 4, 3) := by decide +kernel
theorem dX8_thread_34 : decode cX8_thread 34 = .ok (.iconst 0, 1) := by decide +kernel
theorem dX8_thread_35 : decode cX8_thread 35 = .ok (.iadd, 1) := by decide +kernel
theorem dX8_thread_36 : decode cX8_thread 36 = .ok (.istore_n 1, 1) := by decide +kernel
theorem dX8_thread_37 : decode cX8_thread 37 = .ok (.iinc 2 1, 3) := by decide +kernel
theorem dX8_thread_40 : decode cX8_thread 40 = .ok (.goto (-31), 3) := by decide +kernel
theorem dX8_thread_43 : decode cX8_thread 43 = .ok (.iload_n 1, 1) := by decide +kernel
theorem dX8_thread_44 : decode cX8_thread 44 = .ok (.ireturn, 1) := by decide +kernel
set_option maxRecDepth 20000 in
theorem ggX8_move_X8_netOf : GoodIn wsX8_move wsX8_netOf := goodIn_r _ [8, 9, 10, 11, 12, 13, 14, 15, 16, 17, 18, 19, 20, 21, 22, 23, 24, 25, 26, 27, 28, 29, 30, 31, 32, 33, 34, 35, 36, 37, 38, 39, 40, 41, 42, 43, 44, 45, 46, 47, 48, 49, 50, 51, 52, 53, 54, 55, 56] (by decide +kernel) (by decide +kernel)
set_option maxRecDepth 20000 in
theorem gX8_move_X8_netOf : GoodIn wsX8_move (wsV RX8 111 RX8 yX8_netOf wsX8_netOf) := goodIn_app (goodIn_of _ (by decide +kernel)) ggX8_move_X8_netOf
theorem dX8_move_0 : decode cX8_move 0 = .ok (.aload_n 0, 1) := by decide +kernel
theorem dX8_move_1 : decode cX8_move 1 = .ok (.iconst 0, 1) := by decide +kernel
theorem dX8_move_2 : decode cX8_move 2 = .ok (.putfield 87, 3) := by decide +kernel
theorem dX8_move_5 : decode cX8_move 5 = .ok (.iload_n 1, 1) := by decide +kernel
theorem dX8_move_6 : decode cX8_move 6 = .ok (.ifCond .lt 12, 3) := by decide +kernel
theorem dX8_move_9 : decode cX8_move 9 = .ok (.iload_n 2, 1) := by decide +kernel
theorem dX8_move_10 : decode cX8_move 10 = .ok (.ifCond .lt 8, 3) := by decide +kernel
theorem dX8_move_13 : decode cX8_move 13 = .ok (.iload_n 2, 1) := by decide +kernel
theorem dX8_move_14 : decode cX8_move 14 = .ok (.iconst 2, 1) := by decide +kernel
theorem dX8_move_15 : decode cX8_move 15 = .ok (.if_icmp .le 5, 3) := by decide +kernel
theorem dX8_move_18 : decode cX8_move 18 = .ok (.iconst (-1), 1) := by decide +kernel
theorem dX8_move_19 : decode cX8_move 19 = .ok (.ireturn, 1) := by decide +kernel
theorem dX8_move_20 : decode cX8_move 20 = .ok (.iconst 0, 1) := by decide +kernel
theorem dX8_move_21 : decode cX8_move 21 = .ok (.istore_n 3, 1) := by decide +kernel
theorem dX8_move_22 : decode cX8_move 22 = .ok (.iload_n 3, 1) := by decide +kernel
theorem dX8_move_23 : decode cX8_move 23 = .ok (.aload_n 0, 1) := by decide +kernel
theorem dX8_move_24 : decode cX8_move 24 = .ok (.getfield 94, 3) := by decide +kernel
theorem dX8_move_27 : decode cX8_move 27 = .ok (.if_icmp .ge 20, 3) := by decide +kernel
theorem dX8_move_30 : decode cX8_move 30 = .ok (.aload_n 0, 1) := by decide +kernel
theorem dX8_move_31 : decode cX8_move 31 = .ok (.getfield 54, 3) := by decide +kernel
theorem dX8_move_34 : decode cX8_move 34 = .ok (.iload_n 3, 1) := by decide +kernel
theorem dX8_move_35 : decode cX8_move 35 = .ok (.aload_n 0, 1) := by decide +kernel
theorem dX8_move_36 : decode cX8_move 36 = .ok (.iload_n 3, 1) := by decide +kernel
theorem dX8_move_37 : decode cX8_move 37 = .ok (.invokevirtual 111, 3) := by decide +kernel
theorem dX8_move_40 : decode cX8_move 40 = .ok (.iastore, 1) := by decide +kernel
theorem dX8_move_41 : decode cX8_move 41 = .ok (.iinc 3 1, 3) := by decide +kernel
theorem dX8_move_44 : decode cX8_move 44 = .ok (.goto (-22), 3) := by decide +kernel
theorem dX8_move_47 : decode cX8_move 47 = .ok (.iconst 0, 1) := by decide +kernel
theorem dX8_move_48 : decode cX8_move 48 = .ok (.istore_n 3, 1) := by decide +kernel
theorem dX8_move_49 : decode cX8_move 49 = .ok (.iconst 0, 1) := by decide +kernel
theorem dX8_move_50 : decode cX8_move 50 = .ok (.istore 4, 2) := by decide +kernel
theorem dX8_move_52 : decode cX8_move 52 = .ok (.iconst 0, 1) := by decide +kernel
theorem dX8_move_53 : decode cX8_move 53 = .ok (.istore 5, 2) := by decide +kernel
theorem dX8_move_55 : decode cX8_move 55 = .ok (.iload 4, 2) := by decide +kernel
theorem dX8_move_57 : decode cX8_move 57 = .ok (.aload_n 0, 1) := by decide +kernel
theorem dX8_move_58 : decode cX8_move 58 = .ok (.getfield 94, 3) := by decide +kernel
theorem dX8_move_61 : decode cX8_move 61 = .ok (.if_icmp .ge 139, 3) := by decide +kernel
theorem dX8_move_64 : decode cX8_move 64 = .ok (.iload 5, 2) := by decide +kernel
theorem dX8_move_66 : decode cX8_move 66 = .ok (.aload_n 0, 1) := by decide +kernel
theorem dX8_move_67 : decode cX8_move 67 = .ok (.getfield 94, 3) := by decide +kernel
theorem dX8_move_70 : decode cX8_move 70 = .ok (.if_icmp .ge 130, 3) := by decide +kernel
theorem dX8_move_73 : decode cX8_move 73 = .ok (.aload_n 0, 1) := by decide +kernel
theorem dX8_move_74 : decode cX8_move 74 = .ok (.getfield 54, 3) := by decide +kernel
theorem dX8_move_77 : decode cX8_move 77 = .ok (.iload 4, 2) := by decide +kernel
theorem dX8_move_79 : decode cX8_move 79 = .ok (.iaload, 1) := by decide +kernel
theorem dX8_move_80 : decode cX8_move 80 = .ok (.ifCond .lt 9, 3) := by decide +kernel
theorem dX8_move_83 : decode cX8_move 83 = .ok (.iinc 4 1, 3) := by decide +kernel
theorem dX8_move_86 : decode cX8_move 86 = .ok (.goto (-31), 3) := by decide +kernel
theorem dX8_move_89 : decode cX8_move 89 = .ok (.aload_n 0, 1) := by decide +kernel
theorem dX8_move_90 : decode cX8_move 90 = .ok (.getfield 54, 3) := by decide +kernel
theorem dX8_move_93 : decode cX8_move 93 = .ok (.iload 5, 2) := by decide +kernel
theorem dX8_move_95 : decode cX8_move 95 = .ok (.iaload, 1) := by decide +kernel
theorem dX8_move_96 : decode cX8_move 96 = .ok (.ifCond .gt 9, 3) := by decide +kernel
theorem dX8_move_99 : decode cX8_move 99 = .ok (.iinc 5 1, 3) := by decide +kernel
theorem dX8_move_102 : decode cX8_move 102 = .ok (.goto (-47), 3) := by decide +kernel
theorem dX8_move_105 : decode cX8_move 105 = .ok (.aload_n 0, 1) := by decide +kernel
theorem dX8_move_106 : decode cX8_move 106 = .ok (.getfield 54, 3) := by decide +kernel
theorem dX8_move_109 : decode cX8_move 109 = .ok (.iload 4, 2) := by decide +kernel
theorem dX8_move_111 : decode cX8_move 111 = .ok (.iaload, 1) := by decide +kernel
theorem dX8_move_112 : decode cX8_move 112 = .ok (.ineg, 1) := by decide +kernel
theorem dX8_move_113 : decode cX8_move 113 = .ok (.aload_n 0, 1) := by decide +kernel
theorem dX8_move_114 : decode cX8_move 114 = .ok (.getfield 54, 3) := by decide +kernel
theorem dX8_move_117 : decode cX8_move 117 = .ok (.iload 5, 2) := by decide +kernel
theorem dX8_move_119 : decode cX8_move 119 = .ok (.iaload, 1) := by decide +kernel
theorem dX8_move_120 : decode cX8_move 120 = .ok (.if_icmp .ge 14, 3) := by decide +kernel
theorem dX8_move_123 : decode cX8_move 123 = .ok (.aload_n 0, 1) := by decide +kernel
theorem dX8_move_124 : decode cX8_move 124 = .ok (.getfield 54, 3) := by decide +kernel
theorem dX8_move_127 : decode cX8_move 127 = .ok (.iload 4, 2) := by decide +kernel
theorem dX8_move_129 : decode cX8_move 129 = .ok (.iaload, 1) := by decide +kernel
theorem dX8_move_130 : decode cX8_move 130 = .ok (.ineg, 1) := by decide +kernel
theorem dX8_move_131 : decode cX8_move 131 = .ok (.goto 10, 3) := by decide +kernel
theorem dX8_move_134 : decode cX8_move 134 = .ok (.aload_n 0, 1) := by decide +kernel
theorem dX8_move_135 : decode cX8_move 135 = .ok (.getfield 54, 3) := by decide +kernel
theorem dX8_move_138 : decode cX8_move 138 = .ok (.iload 5, 2) := by decide +kernel
theorem dX8_move_140 : decode cX8_move 140 = .ok (.iaload, 1) := by decide +kernel
theorem dX8_move_141 : decode cX8_move 141 = .ok (.istore 6, 2) := by decide +kernel
theorem dX8_move_143 : decode cX8_move 143 = .ok (.iload_n 3, 1) := by decide +kernel
theorem dX8_move_144 : decode cX8_move 144 = .ok (.iload_n 1, 1) := by decide +kernel
theorem dX8_move_145 : decode cX8_move 145 = .ok (.if_icmp .ne 25, 3) := by decide +kernel
theorem dX8_move_148 : decode cX8_move 148 = .ok (.iload_n 2, 1) := by decide +kernel
theorem dX8_move_149 : decode cX8_move 149 = .ok (.ifCond .ne 8, 3) := by decide +kernel
theorem dX8_move_152 : decode cX8_move 152 = .ok (.iload 4, 2) := by decide +kernel
theorem dX8_move_154 : decode cX8_move 154 = .ok (.goto 15, 3) := by decide +kernel
theorem dX8_move_157 : decode cX8_move 157 = .ok (.iload_n 2, 1) := by decide +kernel
theorem dX8_move_158 : decode cX8_move 158 = .ok (.iconst 1, 1) := by decide +kernel
theorem dX8_move_159 : decode cX8_move 159 = .ok (.if_icmp .ne 8, 3) := by decide +kernel
theorem dX8_move_162 : decode cX8_move 162 = .ok (.iload 5, 2) := by decide +kernel
theorem dX8_move_164 : decode cX8_move 164 = .ok (.goto 5, 3) := by decide +kernel
theorem dX8_move_167 : decode cX8_move 167 = .ok (.iload 6, 2) := by decide +kernel
theorem dX8_move_169 : decode cX8_move 169 = .ok (.ireturn, 1) := by decide +kernel
theorem dX8_move_170 : decode cX8_move 170 = .ok (.aload_n 0, 1) := by decide +kernel
theorem dX8_move_171 : decode cX8_move 171 = .ok (.getfield 54, 3) := by decide +kernel
theorem dX8_move_174 : decode cX8_move 174 = .ok (.iload 4, 2) := by decide +kernel
theorem dX8_move_176 : decode cX8_move 176 = .ok (.dup2, 1) := by decide +kernel
theorem dX8_move_177 : decode cX8_move 177 = .ok (.iaload, 1) := by decide +kernel
theorem dX8_move_178 : decode cX8_move 178 = .ok (.iload 6, 2) := by decide +kernel
theorem dX8_move_180 : decode cX8_move 180 = .ok (.iadd, 1) := by decide +kernel
theorem dX8_move_181 : decode cX8_move 181 = .ok (.iastore, 1) := by decide +kernel
theorem dX8_move_182 : decode cX8_move 182 = .ok (.aload_n 0, 1) := by decide +kernel
theorem dX8_move_183 : decode cX8_move 183 = .ok (.getfield 54, 3) := by decide +kernel
theorem dX8_move_186 : decode cX8_move 186 = .ok (.iload 5, 2) := by decide +kernel
theorem dX8_move_188 : decode cX8_move 188 = .ok (.dup2, 1) := by decide +kernel
theorem dX8_move_189 : decode cX8_move 189 = .ok (.iaload, 1) := by decide +kernel
theorem dX8_move_190 : decode cX8_move 190 = .ok (.iload 6, 2) := by decide +kernel
theorem dX8_move_192 : decode cX8_move 192 = .ok (.isub, 1) := by decide +kernel
theorem dX8_move_193 : decode cX8_move 193 = .ok (.iastore, 1) := by decide +kernel
theorem dX8_move_194 : decode cX8_move 194 = .ok (.iinc 3 1, 3) := by decide +kernel
theorem dX8_move_197 : decode cX8_move 197 = .ok (.goto (-142), 3) := by decide +kernel
theorem dX8_move_200 : decode cX8_move 200 = .ok (.iconst (-1), 1) := by decide +kernel
theorem dX8_move_201 : decode cX8_move 201 = .ok (.ireturn, 1) := by decide +kernel
set_option maxRecDepth 20000 in
theorem ggX8_boat_X8_isMan : GoodIn wsX8_boat wsX8_isMan := goodIn_r _ [8, 2, 9, 10, 11, 12, 13, 14, 15, 16, 17, 18, 19, 20, 21, 22, 23, 24, 25, 26, 27, 28, 29, 30, 31, 32, 33, 34, 35, 36, 37, 38, 39, 40, 41, 42, 43, 44, 45, 46, 47, 48, 49, 50, 51, 52] (by decide +kernel) (by decide +kernel)
set_option maxRecDepth 20000 in
theorem gX8_boat_X8_isMan : GoodIn wsX8_boat (wsV RX8 97 RX8 yX8_isMan wsX8_isMan) := goodIn_app (goodIn_of _ (by decide +kernel)) ggX8_boat_X8_isMan
theorem dX8_boat_0 : decode cX8_boat 0 = .ok (.aload_n 0, 1) := by decide +kernel
