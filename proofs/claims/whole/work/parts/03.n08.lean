theorem dX8_boat_1 : decode cX8_boat 1 = .ok (.iconst 0, 1) := by decide +kernel
theorem dX8_boat_2 : decode cX8_boat 2 = .ok (.putfield 87, 3) := by decide +kernel
theorem dX8_boat_5 : decode cX8_boat 5 = .ok (.iload_n 1, 1) := by decide +kernel
theorem dX8_boat_6 : decode cX8_boat 6 = .ok (.ifCond .lt 55, 3) := by decide +kernel
theorem dX8_boat_9 : decode cX8_boat 9 = .ok (.iload_n 1, 1) := by decide +kernel
theorem dX8_boat_10 : decode cX8_boat 10 = .ok (.sipush 9999, 3) := by decide +kernel
theorem dX8_boat_13 : decode cX8_boat 13 = .ok (.if_icmp .gt 48, 3) := by decide +kernel
theorem dX8_boat_16 : decode cX8_boat 16 = .ok (.aload_n 0, 1) := by decide +kernel
theorem dX8_boat_17 : decode cX8_boat 17 = .ok (.iload_n 2, 1) := by decide +kernel
theorem dX8_boat_18 : decode cX8_boat 18 = .ok (.invokevirtual 97, 3) := by decide +kernel
theorem dX8_boat_21 : decode cX8_boat 21 = .ok (.ifCond .eq 40, 3) := by decide +kernel
theorem dX8_boat_24 : decode cX8_boat 24 = .ok (.iload_n 3, 1) := by decide +kernel
theorem dX8_boat_25 : decode cX8_boat 25 = .ok (.iconst 1, 1) := by decide +kernel
theorem dX8_boat_26 : decode cX8_boat 26 = .ok (.if_icmp .lt 35, 3) := by decide +kernel
theorem dX8_boat_29 : decode cX8_boat 29 = .ok (.iload_n 3, 1) := by decide +kernel
theorem dX8_boat_30 : decode cX8_boat 30 = .ok (.bipush 9, 2) := by decide +kernel
theorem dX8_boat_32 : decode cX8_boat 32 = .ok (.if_icmp .gt 29, 3) := by decide +kernel
theorem dX8_boat_35 : decode cX8_boat 35 = .ok (.iload 4, 2) := by decide +kernel
theorem dX8_boat_37 : decode cX8_boat 37 = .ok (.ifCond .lt 24, 3) := by decide +kernel
theorem dX8_boat_40 : decode cX8_boat 40 = .ok (.iload 4, 2) := by decide +kernel
theorem dX8_boat_42 : decode cX8_boat 42 = .ok (.iconst 1, 1) := by decide +kernel
theorem dX8_boat_43 : decode cX8_boat 43 = .ok (.aload_n 0, 1) := by decide +kernel
theorem dX8_boat_44 : decode cX8_boat 44 = .ok (.getfield 94, 3) := by decide +kernel
theorem dX8_boat_47 : decode cX8_boat 47 = .ok (.ishl, 1) := by decide +kernel
theorem dX8_boat_48 : decode cX8_boat 48 = .ok (.if_icmp .ge 13, 3) := by decide +kernel
theorem dX8_boat_51 : decode cX8_boat 51 = .ok (.iload 4, 2) := by decide +kernel
theorem dX8_boat_53 : decode cX8_boat 53 = .ok (.iload_n 2, 1) := by decide +kernel
theorem dX8_boat_54 : decode cX8_boat 54 = .ok (.ishr, 1) := by decide +kernel
theorem dX8_boat_55 : decode cX8_boat 55 = .ok (.iconst 1, 1) := by decide +kernel
theorem dX8_boat_56 : decode cX8_boat 56 = .ok (.iand, 1) := by decide +kernel
theorem dX8_boat_57 : decode cX8_boat 57 = .ok (.iconst 1, 1) := by decide +kernel
theorem dX8_boat_58 : decode cX8_boat 58 = .ok (.if_icmp .ne 5, 3) := by decide +kernel
theorem dX8_boat_61 : decode cX8_boat 61 = .ok (.iconst (-1), 1) := by decide +kernel
theorem dX8_boat_62 : decode cX8_boat 62 = .ok (.ireturn, 1) := by decide +kernel
theorem dX8_boat_63 : decode cX8_boat 63 = .ok (.iload_n 3, 1) := by decide +kernel
theorem dX8_boat_64 : decode cX8_boat 64 = .ok (.istore 5, 2) := by decide +kernel
theorem dX8_boat_66 : decode cX8_boat 66 = .ok (.iconst 0, 1) := by decide +kernel
theorem dX8_boat_67 : decode cX8_boat 67 = .ok (.istore 6, 2) := by decide +kernel
theorem dX8_boat_69 : decode cX8_boat 69 = .ok (.iload 6, 2) := by decide +kernel
theorem dX8_boat_71 : decode cX8_boat 71 = .ok (.aload_n 0, 1) := by decide +kernel
theorem dX8_boat_72 : decode cX8_boat 72 = .ok (.getfield 94, 3) := by decide +kernel
theorem dX8_boat_75 : decode cX8_boat 75 = .ok (.if_icmp .ge 21, 3) := by decide +kernel
theorem dX8_boat_78 : decode cX8_boat 78 = .ok (.iload 5, 2) := by decide +kernel
theorem dX8_boat_80 : decode cX8_boat 80 = .ok (.iload 4, 2) := by decide +kernel
theorem dX8_boat_82 : decode cX8_boat 82 = .ok (.iload 6, 2) := by decide +kernel
theorem dX8_boat_84 : decode cX8_boat 84 = .ok (.ishr, 1) := by decide +kernel
theorem dX8_boat_85 : decode cX8_boat 85 = .ok (.iconst 1, 1) := by decide +kernel
theorem dX8_boat_86 : decode cX8_boat 86 = .ok (.iand, 1) := by decide +kernel
theorem dX8_boat_87 : decode cX8_boat 87 = .ok (.iadd, 1) := by decide +kernel
theorem dX8_boat_88 : decode cX8_boat 88 = .ok (.istore 5, 2) := by decide +kernel
theorem dX8_boat_90 : decode cX8_boat 90 = .ok (.iinc 6 1, 3) := by decide +kernel
theorem dX8_boat_93 : decode cX8_boat 93 = .ok (.goto (-24), 3) := by decide +kernel
theorem dX8_boat_96 : decode cX8_boat 96 = .ok (.iload_n 1, 1) := by decide +kernel
theorem dX8_boat_97 : decode cX8_boat 97 = .ok (.iload 5, 2) := by decide +kernel
theorem dX8_boat_99 : decode cX8_boat 99 = .ok (.idiv, 1) := by decide +kernel
theorem dX8_boat_100 : decode cX8_boat 100 = .ok (.istore 6, 2) := by decide +kernel
theorem dX8_boat_102 : decode cX8_boat 102 = .ok (.iconst 0, 1) := by decide +kernel
theorem dX8_boat_103 : decode cX8_boat 103 = .ok (.istore 7, 2) := by decide +kernel
theorem dX8_boat_105 : decode cX8_boat 105 = .ok (.iload 7, 2) := by decide +kernel
theorem dX8_boat_107 : decode cX8_boat 107 = .ok (.aload_n 0, 1) := by decide +kernel
theorem dX8_boat_108 : decode cX8_boat 108 = .ok (.getfield 94, 3) := by decide +kernel
theorem dX8_boat_111 : decode cX8_boat 111 = .ok (.if_icmp .ge 29, 3) := by decide +kernel
theorem dX8_boat_114 : decode cX8_boat 114 = .ok (.aload_n 0, 1) := by decide +kernel
theorem dX8_boat_115 : decode cX8_boat 115 = .ok (.getfield 13, 3) := by decide +kernel
theorem dX8_boat_118 : decode cX8_boat 118 = .ok (.iload 7, 2) := by decide +kernel
theorem dX8_boat_120 : decode cX8_boat 120 = .ok (.dup2, 1) := by decide +kernel
theorem dX8_boat_121 : decode cX8_boat 121 = .ok (.iaload, 1) := by decide +kernel
theorem dX8_boat_122 : decode cX8_boat 122 = .ok (.iload 4, 2) := by decide +kernel
theorem dX8_boat_124 : decode cX8_boat 124 = .ok (.iload 7, 2) := by decide +kernel
theorem dX8_boat_126 : decode cX8_boat 126 = .ok (.ishr, 1) := by decide +kernel
theorem dX8_boat_127 : decode cX8_boat 127 = .ok (.iconst 1, 1) := by decide +kernel
theorem dX8_boat_128 : decode cX8_boat 128 = .ok (.iand, 1) := by decide +kernel
theorem dX8_boat_129 : decode cX8_boat 129 = .ok (.iload 6, 2) := by decide +kernel
theorem dX8_boat_131 : decode cX8_boat 131 = .ok (.imul, 1) := by decide +kernel
theorem dX8_boat_132 : decode cX8_boat 132 = .ok (.iadd, 1) := by decide +kernel
theorem dX8_boat_133 : decode cX8_boat 133 = .ok (.iastore, 1) := by decide +kernel
theorem dX8_boat_134 : decode cX8_boat 134 = .ok (.iinc 7 1, 3) := by decide +kernel
theorem dX8_boat_137 : decode cX8_boat 137 = .ok (.goto (-32), 3) := by decide +kernel
theorem dX8_boat_140 : decode cX8_boat 140 = .ok (.aload_n 0, 1) := by decide +kernel
theorem dX8_boat_141 : decode cX8_boat 141 = .ok (.getfield 13, 3) := by decide +kernel
theorem dX8_boat_144 : decode cX8_boat 144 = .ok (.iload_n 2, 1) := by decide +kernel
theorem dX8_boat_145 : decode cX8_boat 145 = .ok (.dup2, 1) := by decide +kernel
theorem dX8_boat_146 : decode cX8_boat 146 = .ok (.iaload, 1) := by decide +kernel
theorem dX8_boat_147 : decode cX8_boat 147 = .ok (.iload_n 1, 1) := by decide +kernel
theorem dX8_boat_148 : decode cX8_boat 148 = .ok (.iload 6, 2) := by decide +kernel
theorem dX8_boat_150 : decode cX8_boat 150 = .ok (.iload 5, 2) := by decide +kernel
theorem dX8_boat_152 : decode cX8_boat 152 = .ok (.iload_n 3, 1) := by decide +kernel
theorem dX8_boat_153 : decode cX8_boat 153 = .ok (.isub, 1) := by decide +kernel
theorem dX8_boat_154 : decode cX8_boat 154 = .ok (.imul, 1) := by decide +kernel
theorem dX8_boat_155 : decode cX8_boat 155 = .ok (.isub, 1) := by decide +kernel
theorem dX8_boat_156 : decode cX8_boat 156 = .ok (.iadd, 1) := by decide +kernel
theorem dX8_boat_157 : decode cX8_boat 157 = .ok (.iastore, 1) := by decide +kernel
theorem dX8_boat_158 : decode cX8_boat 158 = .ok (.iload 6, 2) := by decide +kernel
theorem dX8_boat_160 : decode cX8_boat 160 = .ok (.ireturn, 1) := by decide +kernel
set_option maxRecDepth 20000 in
theorem ggX8_heir_X8_isMan : GoodIn wsX8_heir wsX8_isMan := goodIn_r _ [11, 12, 13, 14, 15, 16, 17, 18, 19, 20, 21, 22, 23, 24, 25, 26, 27, 28, 29, 30, 31, 32, 33, 34, 35, 36, 37, 38, 39, 40, 41, 42, 43, 44, 45, 46, 47, 48, 49, 50, 51, 52, 53, 54, 55, 56] (by decide +kernel) (by decide +kernel)
set_option maxRecDepth 20000 in
theorem gX8_heir_X8_isMan : GoodIn wsX8_heir (wsV RX8 97 RX8 yX8_isMan wsX8_isMan) := goodIn_app (goodIn_of _ (by decide +kernel)) ggX8_heir_X8_isMan
theorem dX8_heir_0 : decode cX8_heir 0 = .ok (.aload_n 0, 1) := by decide +kernel
theorem dX8_heir_1 : decode cX8_heir 1 = .ok (.iconst 0, 1) := by decide +kernel
theorem dX8_heir_2 : decode cX8_heir 2 = .ok (.putfield 87, 3) := by decide +kernel
theorem dX8_heir_5 : decode cX8_heir 5 = .ok (.aload_n 0, 1) := by decide +kernel
theorem dX8_heir_6 : decode cX8_heir 6 = .ok (.iload_n 1, 1) := by decide +kernel
theorem dX8_heir_7 : decode cX8_heir 7 = .ok (.invokevirtual 97, 3) := by decide +kernel
theorem dX8_heir_10 : decode cX8_heir 10 = .ok (.ifCond .eq 16, 3) := by decide +kernel
theorem dX8_heir_13 : decode cX8_heir 13 = .ok (.aload_n 0, 1) := by decide +kernel
theorem dX8_heir_14 : decode cX8_heir 14 = .ok (.iload_n 2, 1) := by decide +kernel
theorem dX8_heir_15 : decode cX8_heir 15 = .ok (.invokevirtual 97, 3) := by decide +kernel
theorem dX8_heir_18 : decode cX8_heir 18 = .ok (.ifCond .eq 8, 3) := by decide +kernel
theorem dX8_heir_21 : decode cX8_heir 21 = .ok (.iload_n 1, 1) := by decide +kernel
theorem dX8_heir_22 : decode cX8_heir 22 = .ok (.iload_n 2, 1) := by decide +kernel
theorem dX8_heir_23 : decode cX8_heir 23 = .ok (.if_icmp .ne 5, 3) := by decide +kernel
theorem dX8_heir_26 : decode cX8_heir 26 = .ok (.iconst 0, 1) := by decide +kernel
theorem dX8_heir_27 : decode cX8_heir 27 = .ok (.ireturn, 1) := by decide +kernel
theorem dX8_heir_28 : decode cX8_heir 28 = .ok (.aload_n 0, 1) := by decide +kernel
theorem dX8_heir_29 : decode cX8_heir 29 = .ok (.getfield 13, 3) := by decide +kernel
theorem dX8_heir_32 : decode cX8_heir 32 = .ok (.iload_n 2, 1) := by decide +kernel
theorem dX8_heir_33 : decode cX8_heir 33 = .ok (.dup2, 1) := by decide +kernel
theorem dX8_heir_34 : decode cX8_heir 34 = .ok (.iaload, 1) := by decide +kernel
theorem dX8_heir_35 : decode cX8_heir 35 = .ok (.aload_n 0, 1) := by decide +kernel
theorem dX8_heir_36 : decode cX8_heir 36 = .ok (.getfield 13, 3) := by decide +kernel
theorem dX8_heir_39 : decode cX8_heir 39 = .ok (.iload_n 1, 1) := by decide +kernel
theorem dX8_heir_40 : decode cX8_heir 40 = .ok (.iaload, 1) := by decide +kernel
theorem dX8_heir_41 : decode cX8_heir 41 = .ok (.iadd, 1) := by decide +kernel
theorem dX8_heir_42 : decode cX8_heir 42 = .ok (.iastore, 1) := by decide +kernel
theorem dX8_heir_43 : decode cX8_heir 43 = .ok (.aload_n 0, 1) := by decide +kernel
theorem dX8_heir_44 : decode cX8_heir 44 = .ok (.getfield 13, 3) := by decide +kernel
theorem dX8_heir_47 : decode cX8_heir 47 = .ok (.iload_n 1, 1) := by decide +kernel
theorem dX8_heir_48 : decode cX8_heir 48 = .ok (.iconst 0, 1) := by decide +kernel
theorem dX8_heir_49 : decode cX8_heir 49 = .ok (.iastore, 1) := by decide +kernel
theorem dX8_heir_50 : decode cX8_heir 50 = .ok (.iconst 0, 1) := by decide +kernel
theorem dX8_heir_51 : decode cX8_heir 51 = .ok (.istore_n 3, 1) := by decide +kernel
theorem dX8_heir_52 : decode cX8_heir 52 = .ok (.iload_n 3, 1) := by decide +kernel
theorem dX8_heir_53 : decode cX8_heir 53 = .ok (.aload_n 0, 1) := by decide +kernel
theorem dX8_heir_54 : decode cX8_heir 54 = .ok (.getfield 101, 3) := by decide +kernel
theorem dX8_heir_57 : decode cX8_heir 57 = .ok (.if_icmp .ge 102, 3) := by decide +kernel
theorem dX8_heir_60 : decode cX8_heir 60 = .ok (.aload_n 0, 1) := by decide +kernel
theorem dX8_heir_61 : decode cX8_heir 61 = .ok (.getfield 16, 3) := by decide +kernel
theorem dX8_heir_64 : decode cX8_heir 64 = .ok (.iload_n 3, 1) := by decide +kernel
theorem dX8_heir_65 : decode cX8_heir 65 = .ok (.iaload, 1) := by decide +kernel
theorem dX8_heir_66 : decode cX8_heir 66 = .ok (.iload_n 1, 1) := by decide +kernel
theorem dX8_heir_67 : decode cX8_heir 67 = .ok (.if_icmp .ne 13, 3) := by decide +kernel
theorem dX8_heir_70 : decode cX8_heir 70 = .ok (.aload_n 0, 1) := by decide +kernel
theorem dX8_heir_71 : decode cX8_heir 71 = .ok (.getfield 19, 3) := by decide +kernel
theorem dX8_heir_74 : decode cX8_heir 74 = .ok (.iload_n 3, 1) := by decide +kernel
theorem dX8_heir_75 : decode cX8_heir 75 = .ok (.iaload, 1) := by decide +kernel
theorem dX8_heir_76 : decode cX8_heir 76 = .ok (.iload_n 2, 1) := by decide +kernel
theorem dX8_heir_77 : decode cX8_heir 77 = .ok (.if_icmp .eq 23, 3) := by decide +kernel
theorem dX8_heir_80 : decode cX8_heir 80 = .ok (.aload_n 0, 1) := by decide +kernel
theorem dX8_heir_81 : decode cX8_heir 81 = .ok (.getfield 16, 3) := by decide +kernel
theorem dX8_heir_84 : decode cX8_heir 84 = .ok (.iload_n 3, 1) := by decide +kernel
theorem dX8_heir_85 : decode cX8_heir 85 = .ok (.iaload, 1) := by decide +kernel
theorem dX8_heir_86 : decode cX8_heir 86 = .ok (.iload_n 2, 1) := by decide +kernel
theorem dX8_heir_87 : decode cX8_heir 87 = .ok (.if_icmp .ne 17, 3) := by decide +kernel
theorem dX8_heir_90 : decode cX8_heir 90 = .ok (.aload_n 0, 1) := by decide +kernel
theorem dX8_heir_91 : decode cX8_heir 91 = .ok (.getfield 19, 3) := by decide +kernel
theorem dX8_heir_94 : decode cX8_heir 94 = .ok (.iload_n 3, 1) := by decide +kernel
theorem dX8_heir_95 : decode cX8_heir 95 = .ok (.iaload, 1) := by decide +kernel
theorem dX8_heir_96 : decode cX8_heir 96 = .ok (.iload_n 1, 1) := by decide +kernel
theorem dX8_heir_97 : decode cX8_heir 97 = .ok (.if_icmp .ne 7, 3) := by decide +kernel
theorem dX8_heir_100 : decode cX8_heir 100 = .ok (.iconst 1, 1) := by decide +kernel
theorem dX8_heir_101 : decode cX8_heir 101 = .ok (.goto 4, 3) := by decide +kernel
theorem dX8_heir_104 : decode cX8_heir 104 = .ok (.iconst 0, 1) := by decide +kernel
theorem dX8_heir_105 : decode cX8_heir 105 = .ok (.istore 4, 2) := by decide +kernel
theorem dX8_heir_107 : decode cX8_heir 107 = .ok (.iload 4, 2) := by decide +kernel
theorem dX8_heir_109 : decode cX8_heir 109 = .ok (.ifCond .eq 10, 3) := by decide +kernel
theorem dX8_heir_112 : decode cX8_heir 112 = .ok (.aload_n 0, 1) := by decide +kernel
theorem dX8_heir_113 : decode cX8_heir 113 = .ok (.getfield 37, 3) := by decide +kernel
theorem dX8_heir_116 : decode cX8_heir 116 = .ok (.iload_n 3, 1) := by decide +kernel
theorem dX8_heir_117 : decode cX8_heir 117 = .ok (.iconst 0, 1) := by decide +kernel
theorem dX8_heir_118 : decode cX8_heir 118 = .ok (.iastore, 1) := by decide +kernel
theorem dX8_heir_119 : decode cX8_heir 119 = .ok (.aload_n 0, 1) := by decide +kernel
theorem dX8_heir_120 : decode cX8_heir 120 = .ok (.getfield 16, 3) := by decide +kernel
theorem dX8_heir_123 : decode cX8_heir 123 = .ok (.iload_n 3, 1) := by decide +kernel
theorem dX8_heir_124 : decode cX8_heir 124 = .ok (.iaload, 1) := by decide +kernel
theorem dX8_heir_125 : decode cX8_heir 125 = .ok (.iload_n 1, 1) := by decide +kernel
theorem dX8_heir_126 : decode cX8_heir 126 = .ok (.if_icmp .ne 10, 3) := by decide +kernel
theorem dX8_heir_129 : decode cX8_heir 129 = .ok (.aload_n 0, 1) := by decide +kernel
theorem dX8_heir_130 : decode cX8_heir 130 = .ok (.getfield 16, 3) := by decide +kernel
theorem dX8_heir_133 : decode cX8_heir 133 = .ok (.iload_n 3, 1) := by decide +kernel
theorem dX8_heir_134 : decode cX8_heir 134 = .ok (.iload_n 2, 1) := by decide +kernel
theorem dX8_heir_135 : decode cX8_heir 135 = .ok (.iastore, 1) := by decide +kernel
theorem dX8_heir_136 : decode cX8_heir 136 = .ok (.aload_n 0, 1) := by decide +kernel
theorem dX8_heir_137 : decode cX8_heir 137 = .ok (.getfield 19, 3) := by decide +kernel
theorem dX8_heir_140 : decode cX8_heir 140 = .ok (.iload_n 3, 1) := by decide +kernel
theorem dX8_heir_141 : decode cX8_heir 141 = .ok (.iaload, 1) := by decide +kernel
theorem dX8_heir_142 : decode cX8_heir 142 = .ok (.iload_n 1, 1) := by decide +kernel
theorem dX8_heir_143 : decode cX8_heir 143 = .ok (.if_icmp .ne 10, 3) := by decide +kernel
theorem dX8_heir_146 : decode cX8_heir 146 = .ok (.aload_n 0, 1) := by decide +kernel
theorem dX8_heir_147 : decode cX8_heir 147 = .ok (.getfield 19, 3) := by decide +kernel
theorem dX8_heir_150 : decode cX8_heir 150 = .ok (.iload_n 3, 1) := by decide +kernel
theorem dX8_heir_151 : decode cX8_heir 151 = .ok (.iload_n 2, 1) := by decide +kernel
theorem dX8_heir_152 : decode cX8_heir 152 = .ok (.iastore, 1) := by decide +kernel
theorem dX8_heir_153 : decode cX8_heir 153 = .ok (.iinc 3 1, 3) := by decide +kernel
theorem dX8_heir_156 : decode cX8_heir 156 = .ok (.goto (-104), 3) := by decide +kernel
theorem dX8_heir_159 : decode cX8_heir 159 = .ok (.iconst 1, 1) := by decide +kernel
theorem dX8_heir_160 : decode cX8_heir 160 = .ok (.ireturn, 1) := by decide +kernel
theorem dX8_wrong_0 : decode cX8_wrong 0 = .ok (.aload_n 0, 1) := by decide +kernel
theorem dX8_wrong_1 : decode cX8_wrong 1 = .ok (.iload_n 1, 1) := by decide +kernel
theorem dX8_wrong_2 : decode cX8_wrong 2 = .ok (.putfield 115, 3) := by decide +kernel
theorem dX8_wrong_5 : decode cX8_wrong 5 = .ok (.aload_n 0, 1) := by decide +kernel
theorem dX8_wrong_6 : decode cX8_wrong 6 = .ok (.iload_n 2, 1) := by decide +kernel
theorem dX8_wrong_7 : decode cX8_wrong 7 = .ok (.putfield 50, 3) := by decide +kernel
theorem dX8_wrong_10 : decode cX8_wrong 10 = .ok (.iconst 0, 1) := by decide +kernel
theorem dX8_wrong_11 : decode cX8_wrong 11 = .ok (.ireturn, 1) := by decide +kernel
theorem dX8_wordAt_0 : decode cX8_wordAt 0 = .ok (.iconst 0, 1) := by decide +kernel
theorem dX8_wordAt_1 : decode cX8_wordAt 1 = .ok (.istore_n 3, 1) := by decide +kernel
theorem dX8_wordAt_2 : decode cX8_wordAt 2 = .ok (.iconst 0, 1) := by decide +kernel
theorem dX8_wordAt_3 : decode cX8_wordAt 3 = .ok (.istore 4, 2) := by decide +kernel
theorem dX8_wordAt_5 : decode cX8_wordAt 5 = .ok (.iload 4, 2) := by decide +kernel
theorem dX8_wordAt_7 : decode cX8_wordAt 7 = .ok (.aload_n 0, 1) := by decide +kernel
theorem dX8_wordAt_8 : decode cX8_wordAt 8 = .ok (.getfield 57, 3) := by decide +kernel
theorem dX8_wordAt_11 : decode cX8_wordAt 11 = .ok (.arraylength, 1) := by decide +kernel
theorem dX8_wordAt_12 : decode cX8_wordAt 12 = .ok (.if_icmp .ge 114, 3) := by decide +kernel
theorem dX8_wordAt_15 : decode cX8_wordAt 15 = .ok (.iconst 0, 1) := by decide +kernel
theorem dX8_wordAt_16 : decode cX8_wordAt 16 = .ok (.istore 5, 2) := by decide +kernel
theorem dX8_wordAt_18 : decode cX8_wordAt 18 = .ok (.aload_n 0, 1) := by decide +kernel
theorem dX8_wordAt_19 : decode cX8_wordAt 19 = .ok (.getfield 57, 3) := by decide +kernel
theorem dX8_wordAt_22 : decode cX8_wordAt 22 = .ok (.iload 4, 2) := by decide +kernel
theorem dX8_wordAt_24 : decode cX8_wordAt 24 = .ok (.iload 5, 2) := by decide +kernel
theorem dX8_wordAt_26 : decode cX8_wordAt 26 = .ok (.iadd, 1) := by decide +kernel
theorem dX8_wordAt_27 : decode cX8_wordAt 27 = .ok (.iaload, 1) := by decide +kernel
theorem dX8_wordAt_28 : decode cX8_wordAt 28 = .ok (.bipush 32, 2) := by decide +kernel
theorem dX8_wordAt_30 : decode cX8_wordAt 30 = .ok (.if_icmp .eq 9, 3) := by decide +kernel
theorem dX8_wordAt_33 : decode cX8_wordAt 33 = .ok (.iinc 5 1, 3) := by decide +kernel
theorem dX8_wordAt_36 : decode cX8_wordAt 36 = .ok (.goto (-18), 3) := by decide +kernel
theorem dX8_wordAt_39 : decode cX8_wordAt 39 = .ok (.iload 5, 2) := by decide +kernel
theorem dX8_wordAt_41 : decode cX8_wordAt 41 = .ok (.iload_n 2, 1) := by decide +kernel
theorem dX8_wordAt_42 : decode cX8_wordAt 42 = .ok (.iload_n 1, 1) := by decide +kernel
theorem dX8_wordAt_43 : decode cX8_wordAt 43 = .ok (.isub, 1) := by decide +kernel
theorem dX8_wordAt_44 : decode cX8_wordAt 44 = .ok (.if_icmp .ne 7, 3) := by decide +kernel
theorem dX8_wordAt_47 : decode cX8_wordAt 47 = .ok (.iconst 1, 1) := by decide +kernel
theorem dX8_wordAt_48 : decode cX8_wordAt 48 = .ok (.goto 4, 3) := by decide +kernel
theorem dX8_wordAt_51 : decode cX8_wordAt 51 = .ok (.iconst 0, 1) := by decide +kernel
theorem dX8_wordAt_52 : decode cX8_wordAt 52 = .ok (.istore 6, 2) := by decide +kernel
theorem dX8_wordAt_54 : decode cX8_wordAt 54 = .ok (.iconst 0, 1) := by decide +kernel
theorem dX8_wordAt_55 : decode cX8_wordAt 55 = .ok (.istore 7, 2) := by decide +kernel
theorem dX8_wordAt_57 : decode cX8_wordAt 57 = .ok (.iload 7, 2) := by decide +kernel
theorem dX8_wordAt_59 : decode cX8_wordAt 59 = .ok (.iload 5, 2) := by decide +kernel
theorem dX8_wordAt_61 : decode cX8_wordAt 61 = .ok (.if_icmp .ge 43, 3) := by decide +kernel
theorem dX8_wordAt_64 : decode cX8_wordAt 64 = .ok (.iload 6, 2) := by decide +kernel
theorem dX8_wordAt_66 : decode cX8_wordAt 66 = .ok (.ifCond .eq 38, 3) := by decide +kernel
theorem dX8_wordAt_69 : decode cX8_wordAt 69 = .ok (.aload_n 0, 1) := by decide +kernel
theorem dX8_wordAt_70 : decode cX8_wordAt 70 = .ok (.getfield 57, 3) := by decide +kernel
theorem dX8_wordAt_73 : decode cX8_wordAt 73 = .ok (.iload 4, 2) := by decide +kernel
theorem dX8_wordAt_75 : decode cX8_wordAt 75 = .ok (.iload 7, 2) := by decide +kernel
theorem dX8_wordAt_77 : decode cX8_wordAt 77 = .ok (.iadd, 1) := by decide +kernel
theorem dX8_wordAt_78 : decode cX8_wordAt 78 = .ok (.iaload, 1) := by decide +kernel
theorem dX8_wordAt_79 : decode cX8_wordAt 79 = .ok (.aload_n 0, 1) := by decide +kernel
theorem dX8_wordAt_80 : decode cX8_wordAt 80 = .ok (.getfield 7, 3) := by decide +kernel
theorem dX8_wordAt_83 : decode cX8_wordAt 83 = .ok (.iload_n 1, 1) := by decide +kernel
theorem dX8_wordAt_84 : decode cX8_wordAt 84 = .ok (.iload 7, 2) := by decide +kernel
theorem dX8_wordAt_86 : decode cX8_wordAt 86 = .ok (.iadd, 1) := by decide +kernel
theorem dX8_wordAt_87 : decode cX8_wordAt 87 = .ok (.iaload, 1) := by decide +kernel
theorem dX8_wordAt_88 : decode cX8_wordAt 88 = .ok (.if_icmp .ne 7, 3) := by decide +kernel
theorem dX8_wordAt_91 : decode cX8_wordAt 91 = .ok (.iconst 1, 1) := by decide +kernel
theorem dX8_wordAt_92 : decode cX8_wordAt 92 = .ok (.goto 4, 3) := by decide +kernel
theorem dX8_wordAt_95 : decode cX8_wordAt 95 = .ok (.iconst 0, 1) := by decide +kernel
theorem dX8_wordAt_96 : decode cX8_wordAt 96 = .ok (.istore 6, 2) := by decide +kernel
theorem dX8_wordAt_98 : decode cX8_wordAt 98 = .ok (.iinc 7 1, 3) := by decide +kernel
theorem dX8_wordAt_101 : decode cX8_wordAt 101 = .ok (.goto (-44), 3) := by decide +kernel
theorem dX8_wordAt_104 : decode cX8_wordAt 104 = .ok (.iload 6, 2) := by decide +kernel
theorem dX8_wordAt_106 : decode cX8_wordAt 106 = .ok (.ifCond .eq 5, 3) := by decide +kernel
theorem dX8_wordAt_109 : decode cX8_wordAt 109 = .ok (.iload_n 3, 1) := by decide +kernel
theorem dX8_wordAt_110 : decode cX8_wordAt 110 = .ok (.ireturn, 1) := by decide +kernel
theorem dX8_wordAt_111 : decode cX8_wordAt 111 = .ok (.iload 4, 2) := by decide +kernel
theorem dX8_wordAt_113 : decode cX8_wordAt 113 = .ok (.iload 5, 2) := by decide +kernel
theorem dX8_wordAt_115 : decode cX8_wordAt 115 = .ok (.iconst 1, 1) := by decide +kernel
theorem dX8_wordAt_116 : decode cX8_wordAt 116 = .ok (.iadd, 1) := by decide +kernel
theorem dX8_wordAt_117 : decode cX8_wordAt 117 = .ok (.iadd, 1) := by decide +kernel
theorem dX8_wordAt_118 : decode cX8_wordAt 118 = .ok (.istore 4, 2) := by decide +kernel
theorem dX8_wordAt_120 : decode cX8_wordAt 120 = .ok (.iinc 3 1, 3) := by decide +kernel
theorem dX8_wordAt_123 : decode cX8_wordAt 123 = .ok (.goto (-118), 3) := by decide +kernel
theorem dX8_wordAt_126 : decode cX8_wordAt 126 = .ok (.iconst (-1), 1) := by decide +kernel
theorem dX8_wordAt_127 : decode cX8_wordAt 127 = .ok (.ireturn, 1) := by decide +kernel
theorem dX8_isSmall_0 : decode cX8_isSmall 0 = .ok (.iload_n 1, 1) := by decide +kernel
theorem dX8_isSmall_1 : decode cX8_isSmall 1 = .ok (.aload_n 0, 1) := by decide +kernel
theorem dX8_isSmall_2 : decode cX8_isSmall 2 = .ok (.getfield 118, 3) := by decide +kernel
theorem dX8_isSmall_5 : decode cX8_isSmall 5 = .ok (.if_icmp .ge 29, 3) := by decide +kernel
theorem dX8_isSmall_8 : decode cX8_isSmall 8 = .ok (.aload_n 0, 1) := by decide +kernel
theorem dX8_isSmall_9 : decode cX8_isSmall 9 = .ok (.getfield 7, 3) := by decide +kernel
theorem dX8_isSmall_12 : decode cX8_isSmall 12 = .ok (.iload_n 1, 1) := by decide +kernel
theorem dX8_isSmall_13 : decode cX8_isSmall 13 = .ok (.iaload, 1) := by decide +kernel
theorem dX8_isSmall_14 : decode cX8_isSmall 14 = .ok (.bipush 97, 2) := by decide +kernel
theorem dX8_isSmall_16 : decode cX8_isSmall 16 = .ok (.if_icmp .lt 18, 3) := by decide +kernel
theorem dX8_isSmall_19 : decode cX8_isSmall 19 = .ok (.aload_n 0, 1) := by decide +kernel
theorem dX8_isSmall_20 : decode cX8_isSmall 20 = .ok (.getfield 7, 3) := by decide +kernel
theorem dX8_isSmall_23 : decode cX8_isSmall 23 = .ok (.iload_n 1, 1) := by decide +kernel
theorem dX8_isSmall_24 : decode cX8_isSmall 24 = .ok (.iaload, 1) := by decide +kernel
theorem dX8_isSmall_25 : decode cX8_isSmall 25 = .ok (.bipush 122, 2) := by decide +kernel
theorem dX8_isSmall_27 : decode cX8_isSmall 27 = .ok (.if_icmp .gt 7, 3) := by decide +kernel
theorem dX8_isSmall_30 : decode cX8_isSmall 30 = .ok (.iconst 1, 1) := by decide +kernel
theorem dX8_isSmall_31 : decode cX8_isSmall 31 = .ok (.goto 4, 3) := by decide +kernel
theorem dX8_isSmall_34 : decode cX8_isSmall 34 = .ok (.iconst 0, 1) := by decide +kernel
theorem dX8_isSmall_35 : decode cX8_isSmall 35 = .ok (.ireturn, 1) := by decide +kernel
theorem dX8_isDigit_0 : decode cX8_isDigit 0 = .ok (.iload_n 1, 1) := by decide +kernel
theorem dX8_isDigit_1 : decode cX8_isDigit 1 = .ok (.aload_n 0, 1) := by decide +kernel
theorem dX8_isDigit_2 : decode cX8_isDigit 2 = .ok (.getfield 118, 3) := by decide +kernel
theorem dX8_isDigit_5 : decode cX8_isDigit 5 = .ok (.if_icmp .ge 29, 3) := by decide +kernel
theorem dX8_isDigit_8 : decode cX8_isDigit 8 = .ok (.aload_n 0, 1) := by decide +kernel
theorem dX8_isDigit_9 : decode cX8_isDigit 9 = .ok (.getfield 7, 3) := by decide +kernel
theorem dX8_isDigit_12 : decode cX8_isDigit 12 = .ok (.iload_n 1, 1) := by decide +kernel
theorem dX8_isDigit_13 : decode cX8_isDigit 13 = .ok (.iaload, 1) := by decide +kernel
theorem dX8_isDigit_14 : decode cX8_isDigit 14 = .ok (.bipush 48, 2) := by decide +kernel
theorem dX8_isDigit_16 : decode cX8_isDigit 16 = .ok (.if_icmp .lt 18, 3) := by decide +kernel
theorem dX8_isDigit_19 : decode cX8_isDigit 19 = .ok (.aload_n 0, 1) := by decide +kernel
theorem dX8_isDigit_20 : decode cX8_isDigit 20 = .ok (.getfield 7, 3) := by decide +kernel
theorem dX8_isDigit_23 : decode cX8_isDigit 23 = .ok (.iload_n 1, 1) := by decide +kernel
theorem dX8_isDigit_24 : decode cX8_isDigit 24 = .ok (.iaload, 1) := by decide +kernel
theorem dX8_isDigit_25 : decode cX8_isDigit 25 = .ok (.bipush 57, 2) := by decide +kernel
theorem dX8_isDigit_27 : decode cX8_isDigit 27 = .ok (.if_icmp .gt 7, 3) := by decide +kernel
theorem dX8_isDigit_30 : decode cX8_isDigit 30 = .ok (.iconst 1, 1) := by decide +kernel
theorem dX8_isDigit_31 : decode cX8_isDigit 31 = .ok (.goto 4, 3) := by decide +kernel
theorem dX8_isDigit_34 : decode cX8_isDigit 34 = .ok (.iconst 0, 1) := by decide +kernel
theorem dX8_isDigit_35 : decode cX8_isDigit 35 = .ok (.ireturn, 1) := by decide +kernel
set_option maxRecDepth 20000 in
theorem ggX8_take_X8_isSmall : GoodIn wsX8_take wsX8_isSmall := goodIn_r _ [11, 2, 3, 21, 22, 23, 24, 25, 26, 27, 28, 29, 30, 31, 32, 33, 34, 35, 36, 37, 38, 39, 40, 41, 42, 43, 44, 45, 46, 47, 48, 49, 50, 51, 52, 53, 54, 55, 56, 57, 58, 59, 60, 61, 62, 63, 64] (by decide +kernel) (by decide +kernel)
set_option maxRecDepth 20000 in
theorem gX8_take_X8_isSmall : GoodIn wsX8_take (wsV RX8 130 RX8 yX8_isSmall wsX8_isSmall) := goodIn_app (goodIn_of _ (by decide +kernel)) ggX8_take_X8_isSmall
set_option maxRecDepth 20000 in
theorem ggX8_take_X8_wordAt : GoodIn wsX8_take wsX8_wordAt := goodIn_r _ [15, 16, 3, 21, 22, 23, 24, 25, 26, 27, 28, 29, 30, 31, 32, 33, 34, 35, 36, 37, 38, 39, 40, 41, 42, 43, 44, 45, 46, 47, 48, 49, 50, 51, 52, 53, 54, 55, 56, 57, 58, 59, 60, 61, 62, 63, 64] (by decide +kernel) (by decide +kernel)
set_option maxRecDepth 20000 in
theorem gX8_take_X8_wordAt : GoodIn wsX8_take (wsV RX8 133 RX8 yX8_wordAt wsX8_wordAt) := goodIn_app (goodIn_of _ (by decide +kernel)) ggX8_take_X8_wordAt
set_option maxRecDepth 20000 in
theorem ggX8_take_X8_isDigit : GoodIn wsX8_take wsX8_isDigit := goodIn_r _ [20, 2, 3, 21, 22, 23, 24, 25, 26, 27, 28, 29, 30, 31, 32, 33, 34, 35, 36, 37, 38, 39, 40, 41, 42, 43, 44, 45, 46, 47, 48, 49, 50, 51, 52, 53, 54, 55, 56, 57, 58, 59, 60, 61, 62, 63, 64] (by decide +kernel) (by decide +kernel)
set_option maxRecDepth 20000 in
theorem gX8_take_X8_isDigit : GoodIn wsX8_take (wsV RX8 140 RX8 yX8_isDigit wsX8_isDigit) := goodIn_app (goodIn_of _ (by decide +kernel)) ggX8_take_X8_isDigit
theorem dX8_take_0 : decode cX8_take 0 = .ok (.aload_n 0, 1) := by decide +kernel
theorem dX8_take_1 : decode cX8_take 1 = .ok (.getfield 121, 3) := by decide +kernel
theorem dX8_take_4 : decode cX8_take 4 = .ok (.aload_n 0, 1) := by decide +kernel
theorem dX8_take_5 : decode cX8_take 5 = .ok (.getfield 118, 3) := by decide +kernel
theorem dX8_take_8 : decode cX8_take 8 = .ok (.if_icmp .ge 44, 3) := by decide +kernel
theorem dX8_take_11 : decode cX8_take 11 = .ok (.aload_n 0, 1) := by decide +kernel
theorem dX8_take_12 : decode cX8_take 12 = .ok (.getfield 7, 3) := by decide +kernel
theorem dX8_take_15 : decode cX8_take 15 = .ok (.aload_n 0, 1) := by decide +kernel
theorem dX8_take_16 : decode cX8_take 16 = .ok (.getfield 121, 3) := by decide +kernel
theorem dX8_take_19 : decode cX8_take 19 = .ok (.iaload, 1) := by decide +kernel
theorem dX8_take_20 : decode cX8_take 20 = .ok (.bipush 10, 2) := by decide +kernel
theorem dX8_take_22 : decode cX8_take 22 = .ok (.if_icmp .eq 17, 3) := by decide +kernel
theorem dX8_take_25 : decode cX8_take 25 = .ok (.aload_n 0, 1) := by decide +kernel
theorem dX8_take_26 : decode cX8_take 26 = .ok (.getfield 7, 3) := by decide +kernel
theorem dX8_take_29 : decode cX8_take 29 = .ok (.aload_n 0, 1) := by decide +kernel
theorem dX8_take_30 : decode cX8_take 30 = .ok (.getfield 121, 3) := by decide +kernel
theorem dX8_take_33 : decode cX8_take 33 = .ok (.iaload, 1) := by decide +kernel
theorem dX8_take_34 : decode cX8_take 34 = .ok (.bipush 32, 2) := by decide +kernel
theorem dX8_take_36 : decode cX8_take 36 = .ok (.if_icmp .ne 16, 3) := by decide +kernel
theorem dX8_take_39 : decode cX8_take 39 = .ok (.aload_n 0, 1) := by decide +kernel
theorem dX8_take_40 : decode cX8_take 40 = .ok (.dup, 1) := by decide +kernel
theorem dX8_take_41 : decode cX8_take 41 = .ok (.getfield 121, 3) := by decide +kernel
theorem dX8_take_44 : decode cX8_take 44 = .ok (.iconst 1, 1) := by decide +kernel
theorem dX8_take_45 : decode cX8_take 45 = .ok (.iadd, 1) := by decide +kernel
theorem dX8_take_46 : decode cX8_take 46 = .ok (.putfield 121, 3) := by decide +kernel
theorem dX8_take_49 : decode cX8_take 49 = .ok (.goto (-49), 3) := by decide +kernel
theorem dX8_take_52 : decode cX8_take 52 = .ok (.aload_n 0, 1) := by decide +kernel
theorem dX8_take_53 : decode cX8_take 53 = .ok (.aload_n 0, 1) := by decide +kernel
theorem dX8_take_54 : decode cX8_take 54 = .ok (.getfield 121, 3) := by decide +kernel
theorem dX8_take_57 : decode cX8_take 57 = .ok (.putfield 124, 3) := by decide +kernel
theorem dX8_take_60 : decode cX8_take 60 = .ok (.aload_n 0, 1) := by decide +kernel
theorem dX8_take_61 : decode cX8_take 61 = .ok (.getfield 121, 3) := by decide +kernel
theorem dX8_take_64 : decode cX8_take 64 = .ok (.aload_n 0, 1) := by decide +kernel
theorem dX8_take_65 : decode cX8_take 65 = .ok (.getfield 118, 3) := by decide +kernel
theorem dX8_take_68 : decode cX8_take 68 = .ok (.if_icmp .ne 11, 3) := by decide +kernel
theorem dX8_take_71 : decode cX8_take 71 = .ok (.aload_n 0, 1) := by decide +kernel
theorem dX8_take_72 : decode cX8_take 72 = .ok (.iconst 0, 1) := by decide +kernel
theorem dX8_take_73 : decode cX8_take 73 = .ok (.putfield 127, 3) := by decide +kernel
theorem dX8_take_76 : decode cX8_take 76 = .ok (.goto 192, 3) := by decide +kernel
theorem dX8_take_79 : decode cX8_take 79 = .ok (.aload_n 0, 1) := by decide +kernel
theorem dX8_take_80 : decode cX8_take 80 = .ok (.aload_n 0, 1) := by decide +kernel
theorem dX8_take_81 : decode cX8_take 81 = .ok (.getfield 121, 3) := by decide +kernel
theorem dX8_take_84 : decode cX8_take 84 = .ok (.invokevirtual 130, 3) := by decide +kernel
theorem dX8_take_87 : decode cX8_take 87 = .ok (.ifCond .eq 62, 3) := by decide +kernel
theorem dX8_take_90 : decode cX8_take 90 = .ok (.aload_n 0, 1) := by decide +kernel
theorem dX8_take_91 : decode cX8_take 91 = .ok (.aload_n 0, 1) := by decide +kernel
theorem dX8_take_92 : decode cX8_take 92 = .ok (.getfield 121, 3) := by decide +kernel
theorem dX8_take_95 : decode cX8_take 95 = .ok (.invokevirtual 130, 3) := by decide +kernel
theorem dX8_take_98 : decode cX8_take 98 = .ok (.ifCond .eq 16, 3) := by decide +kernel
theorem dX8_take_101 : decode cX8_take 101 = .ok (.aload_n 0, 1) := by decide +kernel
theorem dX8_take_102 : decode cX8_take 102 = .ok (.dup, 1) := by decide +kernel
theorem dX8_take_103 : decode cX8_take 103 = .ok (.getfield 121, 3) := by decide +kernel
theorem dX8_take_106 : decode cX8_take 106 = .ok (.iconst 1, 1) := by decide +kernel
theorem dX8_take_107 : decode cX8_take 107 = .ok (.iadd, 1) := by decide +kernel
theorem dX8_take_108 : decode cX8_take 108 = .ok (.putfield 121, 3) := by decide +kernel
theorem dX8_take_111 : decode cX8_take 111 = .ok (.goto (-21), 3) := by decide +kernel
theorem dX8_take_114 : decode cX8_take 114 = .ok (.aload_n 0, 1) := by decide +kernel
theorem dX8_take_115 : decode cX8_take 115 = .ok (.aload_n 0, 1) := by decide +kernel
theorem dX8_take_116 : decode cX8_take 116 = .ok (.aload_n 0, 1) := by decide +kernel
theorem dX8_take_117 : decode cX8_take 117 = .ok (.getfield 124, 3) := by decide +kernel
theorem dX8_take_120 : decode cX8_take 120 = .ok (.aload_n 0, 1) := by decide +kernel
theorem dX8_take_121 : decode cX8_take 121 = .ok (.getfield 121, 3) := by decide +kernel
theorem dX8_take_124 : decode cX8_take 124 = .ok (.invokevirtual 133, 3) := by decide +kernel
theorem dX8_take_127 : decode cX8_take 127 = .ok (.putfield 137, 3) := by decide +kernel
theorem dX8_take_130 : decode cX8_take 130 = .ok (.aload_n 0, 1) := by decide +kernel
theorem dX8_take_131 : decode cX8_take 131 = .ok (.aload_n 0, 1) := by decide +kernel
theorem dX8_take_132 : decode cX8_take 132 = .ok (.getfield 137, 3) := by decide +kernel
theorem dX8_take_135 : decode cX8_take 135 = .ok (.ifCond .ge 7, 3) := by decide +kernel
theorem dX8_take_138 : decode cX8_take 138 = .ok (.iconst 4, 1) := by decide +kernel
theorem dX8_take_139 : decode cX8_take 139 = .ok (.goto 4, 3) := by decide +kernel
theorem dX8_take_142 : decode cX8_take 142 = .ok (.iconst 1, 1) := by decide +kernel
theorem dX8_take_143 : decode cX8_take 143 = .ok (.putfield 127, 3) := by decide +kernel
theorem dX8_take_146 : decode cX8_take 146 = .ok (.goto 122, 3) := by decide +kernel
theorem dX8_take_149 : decode cX8_take 149 = .ok (.aload_n 0, 1) := by decide +kernel
theorem dX8_take_150 : decode cX8_take 150 = .ok (.aload_n 0, 1) := by decide +kernel
theorem dX8_take_151 : decode cX8_take 151 = .ok (.getfield 121, 3) := by decide +kernel
theorem dX8_take_154 : decode cX8_take 154 = .ok (.invokevirtual 140, 3) := by decide +kernel
theorem dX8_take_157 : decode cX8_take 157 = .ok (.ifCond .eq 78, 3) := by decide +kernel
theorem dX8_take_160 : decode cX8_take 160 = .ok (.aload_n 0, 1) := by decide +kernel
theorem dX8_take_161 : decode cX8_take 161 = .ok (.iconst 2, 1) := by decide +kernel
theorem dX8_take_162 : decode cX8_take 162 = .ok (.putfield 127, 3) := by decide +kernel
theorem dX8_take_165 : decode cX8_take 165 = .ok (.aload_n 0, 1) := by decide +kernel
theorem dX8_take_166 : decode cX8_take 166 = .ok (.iconst 0, 1) := by decide +kernel
theorem dX8_take_167 : decode cX8_take 167 = .ok (.putfield 137, 3) := by decide +kernel
theorem dX8_take_170 : decode cX8_take 170 = .ok (.aload_n 0, 1) := by decide +kernel
theorem dX8_take_171 : decode cX8_take 171 = .ok (.aload_n 0, 1) := by decide +kernel
theorem dX8_take_172 : decode cX8_take 172 = .ok (.getfield 121, 3) := by decide +kernel
theorem dX8_take_175 : decode cX8_take 175 = .ok (.invokevirtual 140, 3) := by decide +kernel
theorem dX8_take_178 : decode cX8_take 178 = .ok (.ifCond .eq 90, 3) := by decide +kernel
theorem dX8_take_181 : decode cX8_take 181 = .ok (.aload_n 0, 1) := by decide +kernel
theorem dX8_take_182 : decode cX8_take 182 = .ok (.aload_n 0, 1) := by decide +kernel
theorem dX8_take_183 : decode cX8_take 183 = .ok (.getfield 137, 3) := by decide +kernel
theorem dX8_take_186 : decode cX8_take 186 = .ok (.sipush 9999, 3) := by decide +kernel
theorem dX8_take_189 : decode cX8_take 189 = .ok (.if_icmp .le 10, 3) := by decide +kernel
theorem dX8_take_192 : decode cX8_take 192 = .ok (.aload_n 0, 1) := by decide +kernel
theorem dX8_take_193 : decode cX8_take 193 = .ok (.getfield 137, 3) := by decide +kernel
theorem dX8_take_196 : decode cX8_take 196 = .ok (.goto 23, 3) := by decide +kernel
theorem dX8_take_199 : decode cX8_take 199 = .ok (.bipush 10, 2) := by decide +kernel
theorem dX8_take_201 : decode cX8_take 201 = .ok (.aload_n 0, 1) := by decide +kernel
theorem dX8_take_202 : decode cX8_take 202 = .ok (.getfield 137, 3) := by decide +kernel
theorem dX8_take_205 : decode cX8_take 205 = .ok (.imul, 1) := by decide +kernel
theorem dX8_take_206 : decode cX8_take 206 = .ok (.aload_n 0, 1) := by decide +kernel
theorem dX8_take_207 : decode cX8_take 207 = .ok (.getfield 7, 3) := by decide +kernel
theorem dX8_take_210 : decode cX8_take 210 = .ok (.aload_n 0, 1) := by decide +kernel
theorem dX8_take_211 : decode cX8_take 211 = .ok (.getfield 121, 3) := by decide +kernel
theorem dX8_take_214 : decode cX8_take 214 = .ok (.iaload, 1) := by decide +kernel
theorem dX8_take_215 : decode cX8_take 215 = .ok (.iadd, 1) := by decide +kernel
theorem dX8_take_216 : decode cX8_take 216 = .ok (.bipush 48, 2) := by decide +kernel
theorem dX8_take_218 : decode cX8_take 218 = .ok (.isub, 1) := by decide +kernel
theorem dX8_take_219 : decode cX8_take 219 = .ok (.putfield 137, 3) := by decide +kernel
theorem dX8_take_222 : decode cX8_take 222 = .ok (.aload_n 0, 1) := by decide +kernel
theorem dX8_take_223 : decode cX8_take 223 = .ok (.dup, 1) := by decide +kernel
theorem dX8_take_224 : decode cX8_take 224 = .ok (.getfield 121, 3) := by decide +kernel
theorem dX8_take_227 : decode cX8_take 227 = .ok (.iconst 1, 1) := by decide +kernel
theorem dX8_take_228 : decode cX8_take 228 = .ok (.iadd, 1) := by decide +kernel
theorem dX8_take_229 : decode cX8_take 229 = .ok (.putfield 121, 3) := by decide +kernel
theorem dX8_take_232 : decode cX8_take 232 = .ok (.goto (-62), 3) := by decide +kernel
theorem dX8_take_235 : decode cX8_take 235 = .ok (.aload_n 0, 1) := by decide +kernel
theorem dX8_take_236 : decode cX8_take 236 = .ok (.aload_n 0, 1) := by decide +kernel
theorem dX8_take_237 : decode cX8_take 237 = .ok (.getfield 7, 3) := by decide +kernel
theorem dX8_take_240 : decode cX8_take 240 = .ok (.aload_n 0, 1) := by decide +kernel
theorem dX8_take_241 : decode cX8_take 241 = .ok (.getfield 121, 3) := by decide +kernel
theorem dX8_take_244 : decode cX8_take 244 = .ok (.iaload, 1) := by decide +kernel
theorem dX8_take_245 : decode cX8_take 245 = .ok (.bipush 59, 2) := by decide +kernel
theorem dX8_take_247 : decode cX8_take 247 = .ok (.if_icmp .ne 7, 3) := by decide +kernel
theorem dX8_take_250 : decode cX8_take 250 = .ok (.iconst 3, 1) := by decide +kernel
theorem dX8_take_251 : decode cX8_take 251 = .ok (.goto 4, 3) := by decide +kernel
theorem dX8_take_254 : decode cX8_take 254 = .ok (.iconst 4, 1) := by decide +kernel
theorem dX8_take_255 : decode cX8_take 255 = .ok (.putfield 127, 3) := by decide +kernel
theorem dX8_take_258 : decode cX8_take 258 = .ok (.aload_n 0, 1) := by decide +kernel
theorem dX8_take_259 : decode cX8_take 259 = .ok (.dup, 1) := by decide +kernel
