theorem dX1_goRound_67 : decode cX1_goRound 67 = .ok (.iconst 1, 1) := by decide +kernel
theorem dX1_goRound_68 : decode cX1_goRound 68 = .ok (.istore_n 3, 1) := by decide +kernel
theorem dX1_goRound_69 : decode cX1_goRound 69 = .ok (.iinc 4 1, 3) := by decide +kernel
theorem dX1_goRound_72 : decode cX1_goRound 72 = .ok (.goto (-67), 3) := by decide +kernel
theorem dX1_goRound_75 : decode cX1_goRound 75 = .ok (.aload_n 0, 1) := by decide +kernel
theorem dX1_goRound_76 : decode cX1_goRound 76 = .ok (.invokevirtual 102, 3) := by decide +kernel
theorem dX1_goRound_79 : decode cX1_goRound 79 = .ok (.iload_n 3, 1) := by decide +kernel
theorem dX1_goRound_80 : decode cX1_goRound 80 = .ok (.ireturn, 1) := by decide +kernel
theorem dX1_payLess_0 : decode cX1_payLess 0 = .ok (.iload_n 3, 1) := by decide +kernel
theorem dX1_payLess_1 : decode cX1_payLess 1 = .ok (.istore 4, 2) := by decide +kernel
theorem dX1_payLess_3 : decode cX1_payLess 3 = .ok (.aload_n 0, 1) := by decide +kernel
theorem dX1_payLess_4 : decode cX1_payLess 4 = .ok (.getfield 30, 3) := by decide +kernel
theorem dX1_payLess_7 : decode cX1_payLess 7 = .ok (.iload_n 2, 1) := by decide +kernel
theorem dX1_payLess_8 : decode cX1_payLess 8 = .ok (.iaload, 1) := by decide +kernel
theorem dX1_payLess_9 : decode cX1_payLess 9 = .ok (.istore 5, 2) := by decide +kernel
theorem dX1_payLess_11 : decode cX1_payLess 11 = .ok (.iload 5, 2) := by decide +kernel
theorem dX1_payLess_13 : decode cX1_payLess 13 = .ok (.ifCond .lt 92, 3) := by decide +kernel
theorem dX1_payLess_16 : decode cX1_payLess 16 = .ok (.iload 4, 2) := by decide +kernel
theorem dX1_payLess_18 : decode cX1_payLess 18 = .ok (.ifCond .le 87, 3) := by decide +kernel
theorem dX1_payLess_21 : decode cX1_payLess 21 = .ok (.aload_n 0, 1) := by decide +kernel
theorem dX1_payLess_22 : decode cX1_payLess 22 = .ok (.getfield 15, 3) := by decide +kernel
theorem dX1_payLess_25 : decode cX1_payLess 25 = .ok (.iload 5, 2) := by decide +kernel
theorem dX1_payLess_27 : decode cX1_payLess 27 = .ok (.iaload, 1) := by decide +kernel
theorem dX1_payLess_28 : decode cX1_payLess 28 = .ok (.istore 6, 2) := by decide +kernel
theorem dX1_payLess_30 : decode cX1_payLess 30 = .ok (.aload_n 1, 1) := by decide +kernel
theorem dX1_payLess_31 : decode cX1_payLess 31 = .ok (.getfield 88, 3) := by decide +kernel
theorem dX1_payLess_34 : decode cX1_payLess 34 = .ok (.iload 6, 2) := by decide +kernel
theorem dX1_payLess_36 : decode cX1_payLess 36 = .ok (.iaload, 1) := by decide +kernel
theorem dX1_payLess_37 : decode cX1_payLess 37 = .ok (.iload_n 2, 1) := by decide +kernel
theorem dX1_payLess_38 : decode cX1_payLess 38 = .ok (.if_icmp .ne 53, 3) := by decide +kernel
theorem dX1_payLess_41 : decode cX1_payLess 41 = .ok (.iload 4, 2) := by decide +kernel
theorem dX1_payLess_43 : decode cX1_payLess 43 = .ok (.aload_n 0, 1) := by decide +kernel
theorem dX1_payLess_44 : decode cX1_payLess 44 = .ok (.getfield 9, 3) := by decide +kernel
theorem dX1_payLess_47 : decode cX1_payLess 47 = .ok (.iload 6, 2) := by decide +kernel
theorem dX1_payLess_49 : decode cX1_payLess 49 = .ok (.iaload, 1) := by decide +kernel
theorem dX1_payLess_50 : decode cX1_payLess 50 = .ok (.invokestatic 105, 3) := by decide +kernel
theorem dX1_payLess_53 : decode cX1_payLess 53 = .ok (.istore 7, 2) := by decide +kernel
theorem dX1_payLess_55 : decode cX1_payLess 55 = .ok (.aload_n 0, 1) := by decide +kernel
theorem dX1_payLess_56 : decode cX1_payLess 56 = .ok (.getfield 9, 3) := by decide +kernel
theorem dX1_payLess_59 : decode cX1_payLess 59 = .ok (.iload 6, 2) := by decide +kernel
theorem dX1_payLess_61 : decode cX1_payLess 61 = .ok (.dup2, 1) := by decide +kernel
theorem dX1_payLess_62 : decode cX1_payLess 62 = .ok (.iaload, 1) := by decide +kernel
theorem dX1_payLess_63 : decode cX1_payLess 63 = .ok (.iload 7, 2) := by decide +kernel
theorem dX1_payLess_65 : decode cX1_payLess 65 = .ok (.isub, 1) := by decide +kernel
theorem dX1_payLess_66 : decode cX1_payLess 66 = .ok (.iastore, 1) := by decide +kernel
theorem dX1_payLess_67 : decode cX1_payLess 67 = .ok (.aload_n 0, 1) := by decide +kernel
theorem dX1_payLess_68 : decode cX1_payLess 68 = .ok (.getfield 27, 3) := by decide +kernel
theorem dX1_payLess_71 : decode cX1_payLess 71 = .ok (.aload_n 1, 1) := by decide +kernel
theorem dX1_payLess_72 : decode cX1_payLess 72 = .ok (.getfield 91, 3) := by decide +kernel
theorem dX1_payLess_75 : decode cX1_payLess 75 = .ok (.iload 6, 2) := by decide +kernel
theorem dX1_payLess_77 : decode cX1_payLess 77 = .ok (.iaload, 1) := by decide +kernel
theorem dX1_payLess_78 : decode cX1_payLess 78 = .ok (.dup2, 1) := by decide +kernel
theorem dX1_payLess_79 : decode cX1_payLess 79 = .ok (.iaload, 1) := by decide +kernel
theorem dX1_payLess_80 : decode cX1_payLess 80 = .ok (.iload 7, 2) := by decide +kernel
theorem dX1_payLess_82 : decode cX1_payLess 82 = .ok (.iadd, 1) := by decide +kernel
theorem dX1_payLess_83 : decode cX1_payLess 83 = .ok (.iastore, 1) := by decide +kernel
theorem dX1_payLess_84 : decode cX1_payLess 84 = .ok (.iload 4, 2) := by decide +kernel
theorem dX1_payLess_86 : decode cX1_payLess 86 = .ok (.iload 7, 2) := by decide +kernel
theorem dX1_payLess_88 : decode cX1_payLess 88 = .ok (.isub, 1) := by decide +kernel
theorem dX1_payLess_89 : decode cX1_payLess 89 = .ok (.istore 4, 2) := by decide +kernel
theorem dX1_payLess_91 : decode cX1_payLess 91 = .ok (.aload_n 0, 1) := by decide +kernel
theorem dX1_payLess_92 : decode cX1_payLess 92 = .ok (.getfield 30, 3) := by decide +kernel
theorem dX1_payLess_95 : decode cX1_payLess 95 = .ok (.iload_n 2, 1) := by decide +kernel
theorem dX1_payLess_96 : decode cX1_payLess 96 = .ok (.iload 5, 2) := by decide +kernel
theorem dX1_payLess_98 : decode cX1_payLess 98 = .ok (.iastore, 1) := by decide +kernel
theorem dX1_payLess_99 : decode cX1_payLess 99 = .ok (.iinc 5 (-1), 3) := by decide +kernel
theorem dX1_payLess_102 : decode cX1_payLess 102 = .ok (.goto (-91), 3) := by decide +kernel
theorem dX1_payLess_105 : decode cX1_payLess 105 = .ok (.aload_n 0, 1) := by decide +kernel
theorem dX1_payLess_106 : decode cX1_payLess 106 = .ok (.getfield 18, 3) := by decide +kernel
theorem dX1_payLess_109 : decode cX1_payLess 109 = .ok (.iload_n 2, 1) := by decide +kernel
theorem dX1_payLess_110 : decode cX1_payLess 110 = .ok (.dup2, 1) := by decide +kernel
theorem dX1_payLess_111 : decode cX1_payLess 111 = .ok (.iaload, 1) := by decide +kernel
theorem dX1_payLess_112 : decode cX1_payLess 112 = .ok (.iload_n 3, 1) := by decide +kernel
theorem dX1_payLess_113 : decode cX1_payLess 113 = .ok (.iadd, 1) := by decide +kernel
theorem dX1_payLess_114 : decode cX1_payLess 114 = .ok (.iastore, 1) := by decide +kernel
theorem dX1_payLess_115 : decode cX1_payLess 115 = .ok (.aload_n 0, 1) := by decide +kernel
theorem dX1_payLess_116 : decode cX1_payLess 116 = .ok (.getfield 21, 3) := by decide +kernel
theorem dX1_payLess_119 : decode cX1_payLess 119 = .ok (.iload_n 2, 1) := by decide +kernel
theorem dX1_payLess_120 : decode cX1_payLess 120 = .ok (.dup2, 1) := by decide +kernel
theorem dX1_payLess_121 : decode cX1_payLess 121 = .ok (.iaload, 1) := by decide +kernel
theorem dX1_payLess_122 : decode cX1_payLess 122 = .ok (.iload_n 3, 1) := by decide +kernel
theorem dX1_payLess_123 : decode cX1_payLess 123 = .ok (.iadd, 1) := by decide +kernel
theorem dX1_payLess_124 : decode cX1_payLess 124 = .ok (.iastore, 1) := by decide +kernel
theorem dX1_payLess_125 : decode cX1_payLess 125 = .ok (.return_, 1) := by decide +kernel
theorem dX1_loseWhatIsNotPaid_0 : decode cX1_loseWhatIsNotPaid 0 = .ok (.iconst 0, 1) := by decide +kernel
theorem dX1_loseWhatIsNotPaid_1 : decode cX1_loseWhatIsNotPaid 1 = .ok (.istore_n 1, 1) := by decide +kernel
theorem dX1_loseWhatIsNotPaid_2 : decode cX1_loseWhatIsNotPaid 2 = .ok (.iload_n 1, 1) := by decide +kernel
theorem dX1_loseWhatIsNotPaid_3 : decode cX1_loseWhatIsNotPaid 3 = .ok (.aload_n 0, 1) := by decide +kernel
theorem dX1_loseWhatIsNotPaid_4 : decode cX1_loseWhatIsNotPaid 4 = .ok (.getfield 33, 3) := by decide +kernel
theorem dX1_loseWhatIsNotPaid_7 : decode cX1_loseWhatIsNotPaid 7 = .ok (.if_icmp .ge 31, 3) := by decide +kernel
theorem dX1_loseWhatIsNotPaid_10 : decode cX1_loseWhatIsNotPaid 10 = .ok (.aload_n 0, 1) := by decide +kernel
theorem dX1_loseWhatIsNotPaid_11 : decode cX1_loseWhatIsNotPaid 11 = .ok (.getfield 18, 3) := by decide +kernel
theorem dX1_loseWhatIsNotPaid_14 : decode cX1_loseWhatIsNotPaid 14 = .ok (.iload_n 1, 1) := by decide +kernel
theorem dX1_loseWhatIsNotPaid_15 : decode cX1_loseWhatIsNotPaid 15 = .ok (.dup2, 1) := by decide +kernel
theorem dX1_loseWhatIsNotPaid_16 : decode cX1_loseWhatIsNotPaid 16 = .ok (.iaload, 1) := by decide +kernel
theorem dX1_loseWhatIsNotPaid_17 : decode cX1_loseWhatIsNotPaid 17 = .ok (.aload_n 0, 1) := by decide +kernel
theorem dX1_loseWhatIsNotPaid_18 : decode cX1_loseWhatIsNotPaid 18 = .ok (.getfield 27, 3) := by decide +kernel
theorem dX1_loseWhatIsNotPaid_21 : decode cX1_loseWhatIsNotPaid 21 = .ok (.iload_n 1, 1) := by decide +kernel
theorem dX1_loseWhatIsNotPaid_22 : decode cX1_loseWhatIsNotPaid 22 = .ok (.iaload, 1) := by decide +kernel
theorem dX1_loseWhatIsNotPaid_23 : decode cX1_loseWhatIsNotPaid 23 = .ok (.isub, 1) := by decide +kernel
theorem dX1_loseWhatIsNotPaid_24 : decode cX1_loseWhatIsNotPaid 24 = .ok (.iastore, 1) := by decide +kernel
theorem dX1_loseWhatIsNotPaid_25 : decode cX1_loseWhatIsNotPaid 25 = .ok (.aload_n 0, 1) := by decide +kernel
theorem dX1_loseWhatIsNotPaid_26 : decode cX1_loseWhatIsNotPaid 26 = .ok (.getfield 27, 3) := by decide +kernel
theorem dX1_loseWhatIsNotPaid_29 : decode cX1_loseWhatIsNotPaid 29 = .ok (.iload_n 1, 1) := by decide +kernel
theorem dX1_loseWhatIsNotPaid_30 : decode cX1_loseWhatIsNotPaid 30 = .ok (.iconst 0, 1) := by decide +kernel
theorem dX1_loseWhatIsNotPaid_31 : decode cX1_loseWhatIsNotPaid 31 = .ok (.iastore, 1) := by decide +kernel
theorem dX1_loseWhatIsNotPaid_32 : decode cX1_loseWhatIsNotPaid 32 = .ok (.iinc 1 1, 3) := by decide +kernel
theorem dX1_loseWhatIsNotPaid_35 : decode cX1_loseWhatIsNotPaid 35 = .ok (.goto (-33), 3) := by decide +kernel
theorem dX1_loseWhatIsNotPaid_38 : decode cX1_loseWhatIsNotPaid 38 = .ok (.return_, 1) := by decide +kernel
theorem dX1_menFailed_0 : decode cX1_menFailed 0 = .ok (.iconst 0, 1) := by decide +kernel
theorem dX1_menFailed_1 : decode cX1_menFailed 1 = .ok (.istore_n 1, 1) := by decide +kernel
theorem dX1_menFailed_2 : decode cX1_menFailed 2 = .ok (.iconst 0, 1) := by decide +kernel
theorem dX1_menFailed_3 : decode cX1_menFailed 3 = .ok (.istore_n 2, 1) := by decide +kernel
theorem dX1_menFailed_4 : decode cX1_menFailed 4 = .ok (.iload_n 2, 1) := by decide +kernel
theorem dX1_menFailed_5 : decode cX1_menFailed 5 = .ok (.aload_n 0, 1) := by decide +kernel
theorem dX1_menFailed_6 : decode cX1_menFailed 6 = .ok (.getfield 33, 3) := by decide +kernel
theorem dX1_menFailed_9 : decode cX1_menFailed 9 = .ok (.if_icmp .ge 26, 3) := by decide +kernel
theorem dX1_menFailed_12 : decode cX1_menFailed 12 = .ok (.iload_n 1, 1) := by decide +kernel
theorem dX1_menFailed_13 : decode cX1_menFailed 13 = .ok (.aload_n 0, 1) := by decide +kernel
theorem dX1_menFailed_14 : decode cX1_menFailed 14 = .ok (.getfield 24, 3) := by decide +kernel
theorem dX1_menFailed_17 : decode cX1_menFailed 17 = .ok (.iload_n 2, 1) := by decide +kernel
theorem dX1_menFailed_18 : decode cX1_menFailed 18 = .ok (.iaload, 1) := by decide +kernel
theorem dX1_menFailed_19 : decode cX1_menFailed 19 = .ok (.ifCond .ne 7, 3) := by decide +kernel
theorem dX1_menFailed_22 : decode cX1_menFailed 22 = .ok (.iconst 0, 1) := by decide +kernel
theorem dX1_menFailed_23 : decode cX1_menFailed 23 = .ok (.goto 4, 3) := by decide +kernel
theorem dX1_menFailed_26 : decode cX1_menFailed 26 = .ok (.iconst 1, 1) := by decide +kernel
theorem dX1_menFailed_27 : decode cX1_menFailed 27 = .ok (.iadd, 1) := by decide +kernel
theorem dX1_menFailed_28 : decode cX1_menFailed 28 = .ok (.istore_n 1, 1) := by decide +kernel
theorem dX1_menFailed_29 : decode cX1_menFailed 29 = .ok (.iinc 2 1, 3) := by decide +kernel
theorem dX1_menFailed_32 : decode cX1_menFailed 32 = .ok (.goto (-28), 3) := by decide +kernel
theorem dX1_menFailed_35 : decode cX1_menFailed 35 = .ok (.iload_n 1, 1) := by decide +kernel
theorem dX1_menFailed_36 : decode cX1_menFailed 36 = .ok (.ireturn, 1) := by decide +kernel
theorem dX1_coinsPaid_0 : decode cX1_coinsPaid 0 = .ok (.iconst 0, 1) := by decide +kernel
theorem dX1_coinsPaid_1 : decode cX1_coinsPaid 1 = .ok (.istore_n 1, 1) := by decide +kernel
theorem dX1_coinsPaid_2 : decode cX1_coinsPaid 2 = .ok (.iconst 0, 1) := by decide +kernel
theorem dX1_coinsPaid_3 : decode cX1_coinsPaid 3 = .ok (.istore_n 2, 1) := by decide +kernel
theorem dX1_coinsPaid_4 : decode cX1_coinsPaid 4 = .ok (.iload_n 2, 1) := by decide +kernel
theorem dX1_coinsPaid_5 : decode cX1_coinsPaid 5 = .ok (.aload_n 0, 1) := by decide +kernel
theorem dX1_coinsPaid_6 : decode cX1_coinsPaid 6 = .ok (.getfield 37, 3) := by decide +kernel
theorem dX1_coinsPaid_9 : decode cX1_coinsPaid 9 = .ok (.if_icmp .ge 18, 3) := by decide +kernel
theorem dX1_coinsPaid_12 : decode cX1_coinsPaid 12 = .ok (.iload_n 1, 1) := by decide +kernel
theorem dX1_coinsPaid_13 : decode cX1_coinsPaid 13 = .ok (.aload_n 0, 1) := by decide +kernel
theorem dX1_coinsPaid_14 : decode cX1_coinsPaid 14 = .ok (.getfield 9, 3) := by decide +kernel
theorem dX1_coinsPaid_17 : decode cX1_coinsPaid 17 = .ok (.iload_n 2, 1) := by decide +kernel
theorem dX1_coinsPaid_18 : decode cX1_coinsPaid 18 = .ok (.iaload, 1) := by decide +kernel
theorem dX1_coinsPaid_19 : decode cX1_coinsPaid 19 = .ok (.iadd, 1) := by decide +kernel
theorem dX1_coinsPaid_20 : decode cX1_coinsPaid 20 = .ok (.istore_n 1, 1) := by decide +kernel
theorem dX1_coinsPaid_21 : decode cX1_coinsPaid 21 = .ok (.iinc 2 1, 3) := by decide +kernel
theorem dX1_coinsPaid_24 : decode cX1_coinsPaid 24 = .ok (.goto (-20), 3) := by decide +kernel
theorem dX1_coinsPaid_27 : decode cX1_coinsPaid 27 = .ok (.iload_n 1, 1) := by decide +kernel
theorem dX1_coinsPaid_28 : decode cX1_coinsPaid 28 = .ok (.ireturn, 1) := by decide +kernel
theorem dX1_tell_0 : decode cX1_tell 0 = .ok (.iload_n 2, 1) := by decide +kernel
theorem dX1_tell_1 : decode cX1_tell 1 = .ok (.ifCond .lt 22, 3) := by decide +kernel
theorem dX1_tell_4 : decode cX1_tell 4 = .ok (.iload_n 2, 1) := by decide +kernel
theorem dX1_tell_5 : decode cX1_tell 5 = .ok (.iload_n 1, 1) := by decide +kernel
theorem dX1_tell_6 : decode cX1_tell 6 = .ok (.ifCond .ne 10, 3) := by decide +kernel
theorem dX1_tell_9 : decode cX1_tell 9 = .ok (.aload_n 0, 1) := by decide +kernel
theorem dX1_tell_10 : decode cX1_tell 10 = .ok (.getfield 37, 3) := by decide +kernel
theorem dX1_tell_13 : decode cX1_tell 13 = .ok (.goto 7, 3) := by decide +kernel
theorem dX1_tell_16 : decode cX1_tell 16 = .ok (.aload_n 0, 1) := by decide +kernel
theorem dX1_tell_17 : decode cX1_tell 17 = .ok (.getfield 33, 3) := by decide +kernel
theorem dX1_tell_20 : decode cX1_tell 20 = .ok (.if_icmp .lt 5, 3) := by decide +kernel
theorem dX1_tell_23 : decode cX1_tell 23 = .ok (.iconst (-1), 1) := by decide +kernel
theorem dX1_tell_24 : decode cX1_tell 24 = .ok (.ireturn, 1) := by decide +kernel
theorem dX1_tell_25 : decode cX1_tell 25 = .ok (.iload_n 1, 1) := by decide +kernel
theorem dX1_tell_26 : decode cX1_tell 26 = .ok (.tableswitch 58 0 3 #[30, 37, 44, 51], 30) := by decide +kernel
theorem dX1_tell_56 : decode cX1_tell 56 = .ok (.aload_n 0, 1) := by decide +kernel
theorem dX1_tell_57 : decode cX1_tell 57 = .ok (.getfield 9, 3) := by decide +kernel
theorem dX1_tell_60 : decode cX1_tell 60 = .ok (.iload_n 2, 1) := by decide +kernel
theorem dX1_tell_61 : decode cX1_tell 61 = .ok (.iaload, 1) := by decide +kernel
theorem dX1_tell_62 : decode cX1_tell 62 = .ok (.ireturn, 1) := by decide +kernel
theorem dX1_tell_63 : decode cX1_tell 63 = .ok (.aload_n 0, 1) := by decide +kernel
theorem dX1_tell_64 : decode cX1_tell 64 = .ok (.getfield 18, 3) := by decide +kernel
theorem dX1_tell_67 : decode cX1_tell 67 = .ok (.iload_n 2, 1) := by decide +kernel
theorem dX1_tell_68 : decode cX1_tell 68 = .ok (.iaload, 1) := by decide +kernel
theorem dX1_tell_69 : decode cX1_tell 69 = .ok (.ireturn, 1) := by decide +kernel
theorem dX1_tell_70 : decode cX1_tell 70 = .ok (.aload_n 0, 1) := by decide +kernel
theorem dX1_tell_71 : decode cX1_tell 71 = .ok (.getfield 24, 3) := by decide +kernel
theorem dX1_tell_74 : decode cX1_tell 74 = .ok (.iload_n 2, 1) := by decide +kernel
theorem dX1_tell_75 : decode cX1_tell 75 = .ok (.iaload, 1) := by decide +kernel
theorem dX1_tell_76 : decode cX1_tell 76 = .ok (.ireturn, 1) := by decide +kernel
theorem dX1_tell_77 : decode cX1_tell 77 = .ok (.aload_n 0, 1) := by decide +kernel
theorem dX1_tell_78 : decode cX1_tell 78 = .ok (.getfield 21, 3) := by decide +kernel
theorem dX1_tell_81 : decode cX1_tell 81 = .ok (.iload_n 2, 1) := by decide +kernel
theorem dX1_tell_82 : decode cX1_tell 82 = .ok (.iaload, 1) := by decide +kernel
theorem dX1_tell_83 : decode cX1_tell 83 = .ok (.ireturn, 1) := by decide +kernel
theorem dX1_tell_84 : decode cX1_tell 84 = .ok (.iconst (-1), 1) := by decide +kernel
theorem dX1_tell_85 : decode cX1_tell 85 = .ok (.ireturn, 1) := by decide +kernel
set_option maxRecDepth 20000 in
theorem ggX2_init_X2_empty : GoodIn wsX2_init wsX2_empty := goodIn_r _ [11, 5, 6, 12, 13, 14, 15, 16, 17, 18, 19, 20, 21, 22, 23] (by decide +kernel) (by decide +kernel)
set_option maxRecDepth 20000 in
theorem gX2_init_X2_empty : GoodIn wsX2_init (wsV RX2 18 RX2 yX2_empty wsX2_empty) := goodIn_app (goodIn_of _ (by decide +kernel)) ggX2_init_X2_empty
theorem dX2_init_0 : decode cX2_init 0 = .ok (.aload_n 0, 1) := by decide +kernel
theorem dX2_init_1 : decode cX2_init 1 = .ok (.invokespecial 3, 3) := by decide +kernel
theorem dX2_init_4 : decode cX2_init 4 = .ok (.aload_n 0, 1) := by decide +kernel
theorem dX2_init_5 : decode cX2_init 5 = .ok (.iconst 4, 1) := by decide +kernel
theorem dX2_init_6 : decode cX2_init 6 = .ok (.newarray .int, 2) := by decide +kernel
theorem dX2_init_8 : decode cX2_init 8 = .ok (.putfield 9, 3) := by decide +kernel
theorem dX2_init_11 : decode cX2_init 11 = .ok (.aload_n 0, 1) := by decide +kernel
theorem dX2_init_12 : decode cX2_init 12 = .ok (.iconst 4, 1) := by decide +kernel
theorem dX2_init_13 : decode cX2_init 13 = .ok (.newarray .int, 2) := by decide +kernel
theorem dX2_init_15 : decode cX2_init 15 = .ok (.putfield 15, 3) := by decide +kernel
theorem dX2_init_18 : decode cX2_init 18 = .ok (.aload_n 0, 1) := by decide +kernel
theorem dX2_init_19 : decode cX2_init 19 = .ok (.invokevirtual 18, 3) := by decide +kernel
theorem dX2_init_22 : decode cX2_init 22 = .ok (.return_, 1) := by decide +kernel
set_option maxRecDepth 20000 in
theorem ggX2_empty_J7_fill_53178 : GoodIn wsX2_empty wsJ7_fill_53178 := goodIn_r _ [9] (by decide +kernel) (by decide +kernel)
set_option maxRecDepth 20000 in
theorem gX2_empty_J7_fill_53178 : GoodIn wsX2_empty (va_wsS RX2 21 yJ7_fill_53178 wsJ7_fill_53178) := goodIn_app (goodIn_of _ (by decide +kernel)) ggX2_empty_J7_fill_53178
theorem dX2_empty_0 : decode cX2_empty 0 = .ok (.aload_n 0, 1) := by decide +kernel
theorem dX2_empty_1 : decode cX2_empty 1 = .ok (.getfield 9, 3) := by decide +kernel
theorem dX2_empty_4 : decode cX2_empty 4 = .ok (.iconst (-1), 1) := by decide +kernel
theorem dX2_empty_5 : decode cX2_empty 5 = .ok (.invokestatic 21, 3) := by decide +kernel
theorem dX2_empty_8 : decode cX2_empty 8 = .ok (.aload_n 0, 1) := by decide +kernel
theorem dX2_empty_9 : decode cX2_empty 9 = .ok (.getfield 15, 3) := by decide +kernel
theorem dX2_empty_12 : decode cX2_empty 12 = .ok (.iconst (-1), 1) := by decide +kernel
theorem dX2_empty_13 : decode cX2_empty 13 = .ok (.invokestatic 21, 3) := by decide +kernel
theorem dX2_empty_16 : decode cX2_empty 16 = .ok (.aload_n 0, 1) := by decide +kernel
theorem dX2_empty_17 : decode cX2_empty 17 = .ok (.iconst (-1), 1) := by decide +kernel
theorem dX2_empty_18 : decode cX2_empty 18 = .ok (.putfield 27, 3) := by decide +kernel
theorem dX2_empty_21 : decode cX2_empty 21 = .ok (.aload_n 0, 1) := by decide +kernel
theorem dX2_empty_22 : decode cX2_empty 22 = .ok (.iconst (-1), 1) := by decide +kernel
theorem dX2_empty_23 : decode cX2_empty 23 = .ok (.putfield 31, 3) := by decide +kernel
theorem dX2_empty_26 : decode cX2_empty 26 = .ok (.aload_n 0, 1) := by decide +kernel
theorem dX2_empty_27 : decode cX2_empty 27 = .ok (.iconst 0, 1) := by decide +kernel
theorem dX2_empty_28 : decode cX2_empty 28 = .ok (.putfield 34, 3) := by decide +kernel
theorem dX2_empty_31 : decode cX2_empty 31 = .ok (.return_, 1) := by decide +kernel
theorem dX2_reaches_0 : decode cX2_reaches 0 = .ok (.aload_n 0, 1) := by decide +kernel
theorem dX2_reaches_1 : decode cX2_reaches 1 = .ok (.getfield 31, 3) := by decide +kernel
theorem dX2_reaches_4 : decode cX2_reaches 4 = .ok (.iconst (-1), 1) := by decide +kernel
theorem dX2_reaches_5 : decode cX2_reaches 5 = .ok (.if_icmp .eq 11, 3) := by decide +kernel
theorem dX2_reaches_8 : decode cX2_reaches 8 = .ok (.iload_n 1, 1) := by decide +kernel
theorem dX2_reaches_9 : decode cX2_reaches 9 = .ok (.aload_n 0, 1) := by decide +kernel
theorem dX2_reaches_10 : decode cX2_reaches 10 = .ok (.getfield 31, 3) := by decide +kernel
theorem dX2_reaches_13 : decode cX2_reaches 13 = .ok (.if_icmp .ge 7, 3) := by decide +kernel
theorem dX2_reaches_16 : decode cX2_reaches 16 = .ok (.iconst 1, 1) := by decide +kernel
theorem dX2_reaches_17 : decode cX2_reaches 17 = .ok (.goto 4, 3) := by decide +kernel
theorem dX2_reaches_20 : decode cX2_reaches 20 = .ok (.iconst 0, 1) := by decide +kernel
theorem dX2_reaches_21 : decode cX2_reaches 21 = .ok (.ireturn, 1) := by decide +kernel
set_option maxRecDepth 20000 in
theorem ggX2_leftOf_X2_reaches : GoodIn wsX2_leftOf wsX2_reaches := goodIn_r _ [7, 8, 9, 10, 11, 12, 13] (by decide +kernel) (by decide +kernel)
set_option maxRecDepth 20000 in
theorem gX2_leftOf_X2_reaches : GoodIn wsX2_leftOf (wsV RX2 37 RX2 yX2_reaches wsX2_reaches) := goodIn_app (goodIn_of _ (by decide +kernel)) ggX2_leftOf_X2_reaches
theorem dX2_leftOf_0 : decode cX2_leftOf 0 = .ok (.aload_n 0, 1) := by decide +kernel
theorem dX2_leftOf_1 : decode cX2_leftOf 1 = .ok (.getfield 27, 3) := by decide +kernel
theorem dX2_leftOf_4 : decode cX2_leftOf 4 = .ok (.iconst (-1), 1) := by decide +kernel
theorem dX2_leftOf_5 : decode cX2_leftOf 5 = .ok (.if_icmp .ne 7, 3) := by decide +kernel
theorem dX2_leftOf_8 : decode cX2_leftOf 8 = .ok (.iload_n 1, 1) := by decide +kernel
theorem dX2_leftOf_9 : decode cX2_leftOf 9 = .ok (.goto 9, 3) := by decide +kernel
theorem dX2_leftOf_12 : decode cX2_leftOf 12 = .ok (.iload_n 1, 1) := by decide +kernel
theorem dX2_leftOf_13 : decode cX2_leftOf 13 = .ok (.aload_n 0, 1) := by decide +kernel
theorem dX2_leftOf_14 : decode cX2_leftOf 14 = .ok (.getfield 27, 3) := by decide +kernel
theorem dX2_leftOf_17 : decode cX2_leftOf 17 = .ok (.isub, 1) := by decide +kernel
theorem dX2_leftOf_18 : decode cX2_leftOf 18 = .ok (.istore 4, 2) := by decide +kernel
theorem dX2_leftOf_20 : decode cX2_leftOf 20 = .ok (.aload_n 0, 1) := by decide +kernel
theorem dX2_leftOf_21 : decode cX2_leftOf 21 = .ok (.iload_n 3, 1) := by decide +kernel
theorem dX2_leftOf_22 : decode cX2_leftOf 22 = .ok (.invokevirtual 37, 3) := by decide +kernel
theorem dX2_leftOf_25 : decode cX2_leftOf 25 = .ok (.ifCond .eq 18, 3) := by decide +kernel
theorem dX2_leftOf_28 : decode cX2_leftOf 28 = .ok (.aload_n 0, 1) := by decide +kernel
theorem dX2_leftOf_29 : decode cX2_leftOf 29 = .ok (.getfield 9, 3) := by decide +kernel
theorem dX2_leftOf_32 : decode cX2_leftOf 32 = .ok (.iload_n 2, 1) := by decide +kernel
theorem dX2_leftOf_33 : decode cX2_leftOf 33 = .ok (.iaload, 1) := by decide +kernel
theorem dX2_leftOf_34 : decode cX2_leftOf 34 = .ok (.iconst (-1), 1) := by decide +kernel
theorem dX2_leftOf_35 : decode cX2_leftOf 35 = .ok (.if_icmp .eq 8, 3) := by decide +kernel
theorem dX2_leftOf_38 : decode cX2_leftOf 38 = .ok (.iload 4, 2) := by decide +kernel
theorem dX2_leftOf_40 : decode cX2_leftOf 40 = .ok (.ifCond .gt 5, 3) := by decide +kernel
theorem dX2_leftOf_43 : decode cX2_leftOf 43 = .ok (.iload_n 1, 1) := by decide +kernel
theorem dX2_leftOf_44 : decode cX2_leftOf 44 = .ok (.ireturn, 1) := by decide +kernel
theorem dX2_leftOf_45 : decode cX2_leftOf 45 = .ok (.iload_n 1, 1) := by decide +kernel
theorem dX2_leftOf_46 : decode cX2_leftOf 46 = .ok (.iload 4, 2) := by decide +kernel
theorem dX2_leftOf_48 : decode cX2_leftOf 48 = .ok (.aload_n 0, 1) := by decide +kernel
theorem dX2_leftOf_49 : decode cX2_leftOf 49 = .ok (.getfield 9, 3) := by decide +kernel
theorem dX2_leftOf_52 : decode cX2_leftOf 52 = .ok (.iload_n 2, 1) := by decide +kernel
theorem dX2_leftOf_53 : decode cX2_leftOf 53 = .ok (.iaload, 1) := by decide +kernel
theorem dX2_leftOf_54 : decode cX2_leftOf 54 = .ok (.imul, 1) := by decide +kernel
theorem dX2_leftOf_55 : decode cX2_leftOf 55 = .ok (.bipush 100, 2) := by decide +kernel
theorem dX2_leftOf_57 : decode cX2_leftOf 57 = .ok (.idiv, 1) := by decide +kernel
theorem dX2_leftOf_58 : decode cX2_leftOf 58 = .ok (.isub, 1) := by decide +kernel
theorem dX2_leftOf_59 : decode cX2_leftOf 59 = .ok (.ireturn, 1) := by decide +kernel
set_option maxRecDepth 20000 in
theorem ggX2_rankFor_X2_reaches : GoodIn wsX2_rankFor wsX2_reaches := goodIn_r _ [6, 7, 8, 9, 10, 11, 12] (by decide +kernel) (by decide +kernel)
set_option maxRecDepth 20000 in
theorem gX2_rankFor_X2_reaches : GoodIn wsX2_rankFor (wsV RX2 37 RX2 yX2_reaches wsX2_reaches) := goodIn_app (goodIn_of _ (by decide +kernel)) ggX2_rankFor_X2_reaches
theorem dX2_rankFor_0 : decode cX2_rankFor 0 = .ok (.aload_n 0, 1) := by decide +kernel
theorem dX2_rankFor_1 : decode cX2_rankFor 1 = .ok (.iload_n 2, 1) := by decide +kernel
theorem dX2_rankFor_2 : decode cX2_rankFor 2 = .ok (.invokevirtual 37, 3) := by decide +kernel
theorem dX2_rankFor_5 : decode cX2_rankFor 5 = .ok (.ifCond .eq 22, 3) := by decide +kernel
theorem dX2_rankFor_8 : decode cX2_rankFor 8 = .ok (.aload_n 0, 1) := by decide +kernel
theorem dX2_rankFor_9 : decode cX2_rankFor 9 = .ok (.getfield 15, 3) := by decide +kernel
theorem dX2_rankFor_12 : decode cX2_rankFor 12 = .ok (.iload_n 1, 1) := by decide +kernel
theorem dX2_rankFor_13 : decode cX2_rankFor 13 = .ok (.iaload, 1) := by decide +kernel
theorem dX2_rankFor_14 : decode cX2_rankFor 14 = .ok (.iconst (-1), 1) := by decide +kernel
theorem dX2_rankFor_15 : decode cX2_rankFor 15 = .ok (.if_icmp .eq 12, 3) := by decide +kernel
theorem dX2_rankFor_18 : decode cX2_rankFor 18 = .ok (.aload_n 0, 1) := by decide +kernel
theorem dX2_rankFor_19 : decode cX2_rankFor 19 = .ok (.getfield 15, 3) := by decide +kernel
theorem dX2_rankFor_22 : decode cX2_rankFor 22 = .ok (.iload_n 1, 1) := by decide +kernel
theorem dX2_rankFor_23 : decode cX2_rankFor 23 = .ok (.iaload, 1) := by decide +kernel
theorem dX2_rankFor_24 : decode cX2_rankFor 24 = .ok (.goto 4, 3) := by decide +kernel
theorem dX2_rankFor_27 : decode cX2_rankFor 27 = .ok (.iload_n 1, 1) := by decide +kernel
theorem dX2_rankFor_28 : decode cX2_rankFor 28 = .ok (.ireturn, 1) := by decide +kernel
theorem dX3_init_0 : decode cX3_init 0 = .ok (.aload_n 0, 1) := by decide +kernel
theorem dX3_init_1 : decode cX3_init 1 = .ok (.invokespecial 3, 3) := by decide +kernel
theorem dX3_init_4 : decode cX3_init 4 = .ok (.aload_n 0, 1) := by decide +kernel
theorem dX3_init_5 : decode cX3_init 5 = .ok (.bipush 40, 2) := by decide +kernel
theorem dX3_init_7 : decode cX3_init 7 = .ok (.newarray .int, 2) := by decide +kernel
theorem dX3_init_9 : decode cX3_init 9 = .ok (.putfield 9, 3) := by decide +kernel
theorem dX3_init_12 : decode cX3_init 12 = .ok (.aload_n 0, 1) := by decide +kernel
theorem dX3_init_13 : decode cX3_init 13 = .ok (.bipush 40, 2) := by decide +kernel
theorem dX3_init_15 : decode cX3_init 15 = .ok (.newarray .int, 2) := by decide +kernel
theorem dX3_init_17 : decode cX3_init 17 = .ok (.putfield 15, 3) := by decide +kernel
theorem dX3_init_20 : decode cX3_init 20 = .ok (.aload_n 0, 1) := by decide +kernel
theorem dX3_init_21 : decode cX3_init 21 = .ok (.bipush 40, 2) := by decide +kernel
theorem dX3_init_23 : decode cX3_init 23 = .ok (.newarray .int, 2) := by decide +kernel
theorem dX3_init_25 : decode cX3_init 25 = .ok (.putfield 18, 3) := by decide +kernel
theorem dX3_init_28 : decode cX3_init 28 = .ok (.aload_n 0, 1) := by decide +kernel
theorem dX3_init_29 : decode cX3_init 29 = .ok (.bipush 40, 2) := by decide +kernel
theorem dX3_init_31 : decode cX3_init 31 = .ok (.newarray .int, 2) := by decide +kernel
theorem dX3_init_33 : decode cX3_init 33 = .ok (.putfield 21, 3) := by decide +kernel
theorem dX3_init_36 : decode cX3_init 36 = .ok (.aload_n 0, 1) := by decide +kernel
theorem dX3_init_37 : decode cX3_init 37 = .ok (.bipush 40, 2) := by decide +kernel
theorem dX3_init_39 : decode cX3_init 39 = .ok (.newarray .int, 2) := by decide +kernel
theorem dX3_init_41 : decode cX3_init 41 = .ok (.putfield 24, 3) := by decide +kernel
theorem dX3_init_44 : decode cX3_init 44 = .ok (.aload_n 0, 1) := by decide +kernel
theorem dX3_init_45 : decode cX3_init 45 = .ok (.bipush 40, 2) := by decide +kernel
theorem dX3_init_47 : decode cX3_init 47 = .ok (.newarray .boolean, 2) := by decide +kernel
theorem dX3_init_49 : decode cX3_init 49 = .ok (.putfield 27, 3) := by decide +kernel
theorem dX3_init_52 : decode cX3_init 52 = .ok (.aload_n 0, 1) := by decide +kernel
theorem dX3_init_53 : decode cX3_init 53 = .ok (.bipush 40, 2) := by decide +kernel
theorem dX3_init_55 : decode cX3_init 55 = .ok (.newarray .int, 2) := by decide +kernel
theorem dX3_init_57 : decode cX3_init 57 = .ok (.putfield 31, 3) := by decide +kernel
theorem dX3_init_60 : decode cX3_init 60 = .ok (.aload_n 0, 1) := by decide +kernel
theorem dX3_init_61 : decode cX3_init 61 = .ok (.bipush 40, 2) := by decide +kernel
theorem dX3_init_63 : decode cX3_init 63 = .ok (.newarray .int, 2) := by decide +kernel
theorem dX3_init_65 : decode cX3_init 65 = .ok (.putfield 34, 3) := by decide +kernel
theorem dX3_init_68 : decode cX3_init 68 = .ok (.aload_n 0, 1) := by decide +kernel
theorem dX3_init_69 : decode cX3_init 69 = .ok (.bipush 40, 2) := by decide +kernel
theorem dX3_init_71 : decode cX3_init 71 = .ok (.newarray .int, 2) := by decide +kernel
theorem dX3_init_73 : decode cX3_init 73 = .ok (.putfield 37, 3) := by decide +kernel
theorem dX3_init_76 : decode cX3_init 76 = .ok (.aload_n 0, 1) := by decide +kernel
theorem dX3_init_77 : decode cX3_init 77 = .ok (.bipush 40, 2) := by decide +kernel
theorem dX3_init_79 : decode cX3_init 79 = .ok (.newarray .int, 2) := by decide +kernel
theorem dX3_init_81 : decode cX3_init 81 = .ok (.putfield 40, 3) := by decide +kernel
theorem dX3_init_84 : decode cX3_init 84 = .ok (.aload_n 0, 1) := by decide +kernel
theorem dX3_init_85 : decode cX3_init 85 = .ok (.iconst 0, 1) := by decide +kernel
theorem dX3_init_86 : decode cX3_init 86 = .ok (.putfield 43, 3) := by decide +kernel
theorem dX3_init_89 : decode cX3_init 89 = .ok (.return_, 1) := by decide +kernel
theorem dX3_holds_0 : decode cX3_holds 0 = .ok (.iload_n 1, 1) := by decide +kernel
theorem dX3_holds_1 : decode cX3_holds 1 = .ok (.ifCond .lt 15, 3) := by decide +kernel
theorem dX3_holds_4 : decode cX3_holds 4 = .ok (.iload_n 1, 1) := by decide +kernel
theorem dX3_holds_5 : decode cX3_holds 5 = .ok (.aload_n 0, 1) := by decide +kernel
theorem dX3_holds_6 : decode cX3_holds 6 = .ok (.getfield 43, 3) := by decide +kernel
theorem dX3_holds_9 : decode cX3_holds 9 = .ok (.if_icmp .ge 7, 3) := by decide +kernel
theorem dX3_holds_12 : decode cX3_holds 12 = .ok (.iconst 1, 1) := by decide +kernel
theorem dX3_holds_13 : decode cX3_holds 13 = .ok (.goto 4, 3) := by decide +kernel
theorem dX3_holds_16 : decode cX3_holds 16 = .ok (.iconst 0, 1) := by decide +kernel
theorem dX3_holds_17 : decode cX3_holds 17 = .ok (.ireturn, 1) := by decide +kernel
set_option maxRecDepth 20000 in
theorem ggX3_write_X3_isTold : GoodIn wsX3_write wsX3_isTold := goodIn_r _ [16, 1, 2, 3, 4, 5, 6, 17, 18, 19, 20, 21, 22, 23, 24, 25, 26, 27] (by decide +kernel) (by decide +kernel)
set_option maxRecDepth 20000 in
theorem gX3_write_X3_isTold : GoodIn wsX3_write (wsV RX3 47 RX3 yX3_isTold wsX3_isTold) := goodIn_app (goodIn_of _ (by decide +kernel)) ggX3_write_X3_isTold
theorem dX3_write_0 : decode cX3_write 0 = .ok (.aload_n 0, 1) := by decide +kernel
theorem dX3_write_1 : decode cX3_write 1 = .ok (.getfield 43, 3) := by decide +kernel
theorem dX3_write_4 : decode cX3_write 4 = .ok (.istore 6, 2) := by decide +kernel
theorem dX3_write_6 : decode cX3_write 6 = .ok (.iload 6, 2) := by decide +kernel
theorem dX3_write_8 : decode cX3_write 8 = .ok (.bipush 40, 2) := by decide +kernel
theorem dX3_write_10 : decode cX3_write 10 = .ok (.if_icmp .lt 5, 3) := by decide +kernel
theorem dX3_write_13 : decode cX3_write 13 = .ok (.iconst (-1), 1) := by decide +kernel
theorem dX3_write_14 : decode cX3_write 14 = .ok (.ireturn, 1) := by decide +kernel
theorem dX3_write_15 : decode cX3_write 15 = .ok (.aload_n 0, 1) := by decide +kernel
theorem dX3_write_16 : decode cX3_write 16 = .ok (.iload_n 1, 1) := by decide +kernel
theorem dX3_write_17 : decode cX3_write 17 = .ok (.iload_n 2, 1) := by decide +kernel
theorem dX3_write_18 : decode cX3_write 18 = .ok (.iload_n 3, 1) := by decide +kernel
theorem dX3_write_19 : decode cX3_write 19 = .ok (.iload 4, 2) := by decide +kernel
theorem dX3_write_21 : decode cX3_write 21 = .ok (.iload 5, 2) := by decide +kernel
theorem dX3_write_23 : decode cX3_write 23 = .ok (.invokevirtual 47, 3) := by decide +kernel
theorem dX3_write_26 : decode cX3_write 26 = .ok (.istore 7, 2) := by decide +kernel
theorem dX3_write_28 : decode cX3_write 28 = .ok (.aload_n 0, 1) := by decide +kernel
theorem dX3_write_29 : decode cX3_write 29 = .ok (.getfield 9, 3) := by decide +kernel
theorem dX3_write_32 : decode cX3_write 32 = .ok (.iload 6, 2) := by decide +kernel
theorem dX3_write_34 : decode cX3_write 34 = .ok (.iload_n 1, 1) := by decide +kernel
theorem dX3_write_35 : decode cX3_write 35 = .ok (.iastore, 1) := by decide +kernel
theorem dX3_write_36 : decode cX3_write 36 = .ok (.aload_n 0, 1) := by decide +kernel
theorem dX3_write_37 : decode cX3_write 37 = .ok (.getfield 15, 3) := by decide +kernel
theorem dX3_write_40 : decode cX3_write 40 = .ok (.iload 6, 2) := by decide +kernel
theorem dX3_write_42 : decode cX3_write 42 = .ok (.iload_n 2, 1) := by decide +kernel
theorem dX3_write_43 : decode cX3_write 43 = .ok (.iastore, 1) := by decide +kernel
theorem dX3_write_44 : decode cX3_write 44 = .ok (.aload_n 0, 1) := by decide +kernel
theorem dX3_write_45 : decode cX3_write 45 = .ok (.getfield 18, 3) := by decide +kernel
theorem dX3_write_48 : decode cX3_write 48 = .ok (.iload 6, 2) := by decide +kernel
theorem dX3_write_50 : decode cX3_write 50 = .ok (.iload_n 3, 1) := by decide +kernel
theorem dX3_write_51 : decode cX3_write 51 = .ok (.iastore, 1) := by decide +kernel
theorem dX3_write_52 : decode cX3_write 52 = .ok (.aload_n 0, 1) := by decide +kernel
theorem dX3_write_53 : decode cX3_write 53 = .ok (.getfield 21, 3) := by decide +kernel
theorem dX3_write_56 : decode cX3_write 56 = .ok (.iload 6, 2) := by decide +kernel
theorem dX3_write_58 : decode cX3_write 58 = .ok (.iload 4, 2) := by decide +kernel
theorem dX3_write_60 : decode cX3_write 60 = .ok (.iastore, 1) := by decide +kernel
theorem dX3_write_61 : decode cX3_write 61 = .ok (.aload_n 0, 1) := by decide +kernel
theorem dX3_write_62 : decode cX3_write 62 = .ok (.getfield 24, 3) := by decide +kernel
theorem dX3_write_65 : decode cX3_write 65 = .ok (.iload 6, 2) := by decide +kernel
theorem dX3_write_67 : decode cX3_write 67 = .ok (.iload 5, 2) := by decide +kernel
theorem dX3_write_69 : decode cX3_write 69 = .ok (.iastore, 1) := by decide +kernel
theorem dX3_write_70 : decode cX3_write 70 = .ok (.aload_n 0, 1) := by decide +kernel
theorem dX3_write_71 : decode cX3_write 71 = .ok (.getfield 27, 3) := by decide +kernel
theorem dX3_write_74 : decode cX3_write 74 = .ok (.iload 6, 2) := by decide +kernel
theorem dX3_write_76 : decode cX3_write 76 = .ok (.iload 7, 2) := by decide +kernel
theorem dX3_write_78 : decode cX3_write 78 = .ok (.bastore, 1) := by decide +kernel
theorem dX3_write_79 : decode cX3_write 79 = .ok (.aload_n 0, 1) := by decide +kernel
theorem dX3_write_80 : decode cX3_write 80 = .ok (.getfield 31, 3) := by decide +kernel
theorem dX3_write_83 : decode cX3_write 83 = .ok (.iload 6, 2) := by decide +kernel
theorem dX3_write_85 : decode cX3_write 85 = .ok (.iload_n 1, 1) := by decide +kernel
theorem dX3_write_86 : decode cX3_write 86 = .ok (.iastore, 1) := by decide +kernel
theorem dX3_write_87 : decode cX3_write 87 = .ok (.aload_n 0, 1) := by decide +kernel
theorem dX3_write_88 : decode cX3_write 88 = .ok (.getfield 34, 3) := by decide +kernel
theorem dX3_write_91 : decode cX3_write 91 = .ok (.iload 6, 2) := by decide +kernel
theorem dX3_write_93 : decode cX3_write 93 = .ok (.iload_n 2, 1) := by decide +kernel
theorem dX3_write_94 : decode cX3_write 94 = .ok (.iastore, 1) := by decide +kernel
theorem dX3_write_95 : decode cX3_write 95 = .ok (.aload_n 0, 1) := by decide +kernel
theorem dX3_write_96 : decode cX3_write 96 = .ok (.getfield 37, 3) := by decide +kernel
theorem dX3_write_99 : decode cX3_write 99 = .ok (.iload 6, 2) := by decide +kernel
theorem dX3_write_101 : decode cX3_write 101 = .ok (.iload 4, 2) := by decide +kernel
theorem dX3_write_103 : decode cX3_write 103 = .ok (.iastore, 1) := by decide +kernel
theorem dX3_write_104 : decode cX3_write 104 = .ok (.aload_n 0, 1) := by decide +kernel
theorem dX3_write_105 : decode cX3_write 105 = .ok (.getfield 40, 3) := by decide +kernel
theorem dX3_write_108 : decode cX3_write 108 = .ok (.iload 6, 2) := by decide +kernel
theorem dX3_write_110 : decode cX3_write 110 = .ok (.iload 7, 2) := by decide +kernel
theorem dX3_write_112 : decode cX3_write 112 = .ok (.ifCond .eq 7, 3) := by decide +kernel
theorem dX3_write_115 : decode cX3_write 115 = .ok (.iconst 0, 1) := by decide +kernel
theorem dX3_write_116 : decode cX3_write 116 = .ok (.goto 4, 3) := by decide +kernel
theorem dX3_write_119 : decode cX3_write 119 = .ok (.iload_n 3, 1) := by decide +kernel
theorem dX3_write_120 : decode cX3_write 120 = .ok (.iastore, 1) := by decide +kernel
theorem dX3_write_121 : decode cX3_write 121 = .ok (.aload_n 0, 1) := by decide +kernel
theorem dX3_write_122 : decode cX3_write 122 = .ok (.dup, 1) := by decide +kernel
theorem dX3_write_123 : decode cX3_write 123 = .ok (.getfield 43, 3) := by decide +kernel
theorem dX3_write_126 : decode cX3_write 126 = .ok (.iconst 1, 1) := by decide +kernel
theorem dX3_write_127 : decode cX3_write 127 = .ok (.iadd, 1) := by decide +kernel
theorem dX3_write_128 : decode cX3_write 128 = .ok (.putfield 43, 3) := by decide +kernel
theorem dX3_write_131 : decode cX3_write 131 = .ok (.iload 6, 2) := by decide +kernel
theorem dX3_write_133 : decode cX3_write 133 = .ok (.ireturn, 1) := by decide +kernel
theorem dX3_isTold_0 : decode cX3_isTold 0 = .ok (.iconst 0, 1) := by decide +kernel
theorem dX3_isTold_1 : decode cX3_isTold 1 = .ok (.istore 6, 2) := by decide +kernel
theorem dX3_isTold_3 : decode cX3_isTold 3 = .ok (.iload 6, 2) := by decide +kernel
theorem dX3_isTold_5 : decode cX3_isTold 5 = .ok (.aload_n 0, 1) := by decide +kernel
theorem dX3_isTold_6 : decode cX3_isTold 6 = .ok (.getfield 43, 3) := by decide +kernel
theorem dX3_isTold_9 : decode cX3_isTold 9 = .ok (.if_icmp .ge 68, 3) := by decide +kernel
theorem dX3_isTold_12 : decode cX3_isTold 12 = .ok (.aload_n 0, 1) := by decide +kernel
theorem dX3_isTold_13 : decode cX3_isTold 13 = .ok (.getfield 9, 3) := by decide +kernel
theorem dX3_isTold_16 : decode cX3_isTold 16 = .ok (.iload 6, 2) := by decide +kernel
theorem dX3_isTold_18 : decode cX3_isTold 18 = .ok (.iaload, 1) := by decide +kernel
theorem dX3_isTold_19 : decode cX3_isTold 19 = .ok (.iload_n 1, 1) := by decide +kernel
theorem dX3_isTold_20 : decode cX3_isTold 20 = .ok (.if_icmp .ne 51, 3) := by decide +kernel
theorem dX3_isTold_23 : decode cX3_isTold 23 = .ok (.aload_n 0, 1) := by decide +kernel
theorem dX3_isTold_24 : decode cX3_isTold 24 = .ok (.getfield 15, 3) := by decide +kernel
theorem dX3_isTold_27 : decode cX3_isTold 27 = .ok (.iload 6, 2) := by decide +kernel
theorem dX3_isTold_29 : decode cX3_isTold 29 = .ok (.iaload, 1) := by decide +kernel
theorem dX3_isTold_30 : decode cX3_isTold 30 = .ok (.iload_n 2, 1) := by decide +kernel
theorem dX3_isTold_31 : decode cX3_isTold 31 = .ok (.if_icmp .ne 40, 3) := by decide +kernel
theorem dX3_isTold_34 : decode cX3_isTold 34 = .ok (.aload_n 0, 1) := by decide +kernel
theorem dX3_isTold_35 : decode cX3_isTold 35 = .ok (.getfield 18, 3) := by decide +kernel
theorem dX3_isTold_38 : decode cX3_isTold 38 = .ok (.iload 6, 2) := by decide +kernel
theorem dX3_isTold_40 : decode cX3_isTold 40 = .ok (.iaload, 1) := by decide +kernel
