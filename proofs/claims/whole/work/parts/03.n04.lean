theorem dX4_readBefore_18 : decode cX4_readBefore 18 = .ok (.aload_n 0, 1) := by decide +kernel
theorem dX4_readBefore_19 : decode cX4_readBefore 19 = .ok (.sipush 999, 3) := by decide +kernel
theorem dX4_readBefore_22 : decode cX4_readBefore 22 = .ok (.invokevirtual 99, 3) := by decide +kernel
theorem dX4_readBefore_25 : decode cX4_readBefore 25 = .ok (.putfield 108, 3) := by decide +kernel
theorem dX4_readBefore_28 : decode cX4_readBefore 28 = .ok (.return_, 1) := by decide +kernel
set_option maxRecDepth 20000 in
theorem ggX4_blameRankOf_X4_numberAtHand : GoodIn wsX4_blameRankOf wsX4_numberAtHand := goodIn_r _ [6, 7, 8, 9, 16, 17, 18, 19, 20, 21, 22] (by decide +kernel) (by decide +kernel)
set_option maxRecDepth 20000 in
theorem gX4_blameRankOf_X4_numberAtHand : GoodIn wsX4_blameRankOf (wsV RX4 110 RX4 yX4_numberAtHand wsX4_numberAtHand) := goodIn_app (goodIn_of _ (by decide +kernel)) ggX4_blameRankOf_X4_numberAtHand
set_option maxRecDepth 20000 in
theorem ggX4_blameRankOf_X4_blame : GoodIn wsX4_blameRankOf wsX4_blame := goodIn_r _ [13, 14, 7, 15, 16, 17, 18, 19, 20, 21, 22] (by decide +kernel) (by decide +kernel)
set_option maxRecDepth 20000 in
theorem gX4_blameRankOf_X4_blame : GoodIn wsX4_blameRankOf (wsV RX4 82 RX4 yX4_blame wsX4_blame) := goodIn_app (goodIn_of _ (by decide +kernel)) ggX4_blameRankOf_X4_blame
theorem dX4_blameRankOf_0 : decode cX4_blameRankOf 0 = .ok (.aload_n 0, 1) := by decide +kernel
theorem dX4_blameRankOf_1 : decode cX4_blameRankOf 1 = .ok (.getfield 19, 3) := by decide +kernel
theorem dX4_blameRankOf_4 : decode cX4_blameRankOf 4 = .ok (.iconst 2, 1) := by decide +kernel
theorem dX4_blameRankOf_5 : decode cX4_blameRankOf 5 = .ok (.if_icmp .ne 10, 3) := by decide +kernel
theorem dX4_blameRankOf_8 : decode cX4_blameRankOf 8 = .ok (.aload_n 0, 1) := by decide +kernel
theorem dX4_blameRankOf_9 : decode cX4_blameRankOf 9 = .ok (.invokevirtual 110, 3) := by decide +kernel
theorem dX4_blameRankOf_12 : decode cX4_blameRankOf 12 = .ok (.goto 4, 3) := by decide +kernel
theorem dX4_blameRankOf_15 : decode cX4_blameRankOf 15 = .ok (.iconst (-1), 1) := by decide +kernel
theorem dX4_blameRankOf_16 : decode cX4_blameRankOf 16 = .ok (.istore_n 2, 1) := by decide +kernel
theorem dX4_blameRankOf_17 : decode cX4_blameRankOf 17 = .ok (.iload_n 2, 1) := by decide +kernel
theorem dX4_blameRankOf_18 : decode cX4_blameRankOf 18 = .ok (.ifCond .lt 21, 3) := by decide +kernel
theorem dX4_blameRankOf_21 : decode cX4_blameRankOf 21 = .ok (.iload_n 2, 1) := by decide +kernel
theorem dX4_blameRankOf_22 : decode cX4_blameRankOf 22 = .ok (.aload_n 1, 1) := by decide +kernel
theorem dX4_blameRankOf_23 : decode cX4_blameRankOf 23 = .ok (.arraylength, 1) := by decide +kernel
theorem dX4_blameRankOf_24 : decode cX4_blameRankOf 24 = .ok (.if_icmp .ge 15, 3) := by decide +kernel
theorem dX4_blameRankOf_27 : decode cX4_blameRankOf 27 = .ok (.aload_n 1, 1) := by decide +kernel
theorem dX4_blameRankOf_28 : decode cX4_blameRankOf 28 = .ok (.iload_n 2, 1) := by decide +kernel
theorem dX4_blameRankOf_29 : decode cX4_blameRankOf 29 = .ok (.iaload, 1) := by decide +kernel
theorem dX4_blameRankOf_30 : decode cX4_blameRankOf 30 = .ok (.iconst (-1), 1) := by decide +kernel
theorem dX4_blameRankOf_31 : decode cX4_blameRankOf 31 = .ok (.if_icmp .eq 8, 3) := by decide +kernel
theorem dX4_blameRankOf_34 : decode cX4_blameRankOf 34 = .ok (.aload_n 0, 1) := by decide +kernel
theorem dX4_blameRankOf_35 : decode cX4_blameRankOf 35 = .ok (.iconst 3, 1) := by decide +kernel
theorem dX4_blameRankOf_36 : decode cX4_blameRankOf 36 = .ok (.invokevirtual 82, 3) := by decide +kernel
theorem dX4_blameRankOf_39 : decode cX4_blameRankOf 39 = .ok (.return_, 1) := by decide +kernel
set_option maxRecDepth 20000 in
theorem ggX4_readNumber_X4_numberAtHand : GoodIn wsX4_readNumber wsX4_numberAtHand := goodIn_r _ [6, 7, 8, 9, 28, 29, 30, 31, 32, 33, 34] (by decide +kernel) (by decide +kernel)
set_option maxRecDepth 20000 in
theorem gX4_readNumber_X4_numberAtHand : GoodIn wsX4_readNumber (wsV RX4 110 RX4 yX4_numberAtHand wsX4_numberAtHand) := goodIn_app (goodIn_of _ (by decide +kernel)) ggX4_readNumber_X4_numberAtHand
set_option maxRecDepth 20000 in
theorem ggX4_readNumber_X4_blame : GoodIn wsX4_readNumber wsX4_blame := goodIn_r _ [13, 14, 7, 15, 28, 29, 30, 31, 32, 33, 34] (by decide +kernel) (by decide +kernel)
set_option maxRecDepth 20000 in
theorem gX4_readNumber_X4_blame : GoodIn wsX4_readNumber (wsV RX4 82 RX4 yX4_blame wsX4_blame) := goodIn_app (goodIn_of _ (by decide +kernel)) ggX4_readNumber_X4_blame
set_option maxRecDepth 20000 in
theorem ggX4_readNumber_X4_step : GoodIn wsX4_readNumber wsX4_step := goodIn_r _ [19, 8, 20, 9, 7, 1, 21, 22, 5, 23, 24, 25, 26, 27, 28, 29, 30, 31, 32, 33, 34] (by decide +kernel) (by decide +kernel)
set_option maxRecDepth 20000 in
theorem gX4_readNumber_X4_step : GoodIn wsX4_readNumber (wsV RX4 51 RX4 yX4_step wsX4_step) := goodIn_app (goodIn_of _ (by decide +kernel)) ggX4_readNumber_X4_step
theorem dX4_readNumber_0 : decode cX4_readNumber 0 = .ok (.aload_n 0, 1) := by decide +kernel
theorem dX4_readNumber_1 : decode cX4_readNumber 1 = .ok (.getfield 19, 3) := by decide +kernel
theorem dX4_readNumber_4 : decode cX4_readNumber 4 = .ok (.iconst 2, 1) := by decide +kernel
theorem dX4_readNumber_5 : decode cX4_readNumber 5 = .ok (.if_icmp .ne 10, 3) := by decide +kernel
theorem dX4_readNumber_8 : decode cX4_readNumber 8 = .ok (.aload_n 0, 1) := by decide +kernel
theorem dX4_readNumber_9 : decode cX4_readNumber 9 = .ok (.invokevirtual 110, 3) := by decide +kernel
theorem dX4_readNumber_12 : decode cX4_readNumber 12 = .ok (.goto 4, 3) := by decide +kernel
theorem dX4_readNumber_15 : decode cX4_readNumber 15 = .ok (.iconst 0, 1) := by decide +kernel
theorem dX4_readNumber_16 : decode cX4_readNumber 16 = .ok (.istore_n 2, 1) := by decide +kernel
theorem dX4_readNumber_17 : decode cX4_readNumber 17 = .ok (.aload_n 0, 1) := by decide +kernel
theorem dX4_readNumber_18 : decode cX4_readNumber 18 = .ok (.getfield 19, 3) := by decide +kernel
theorem dX4_readNumber_21 : decode cX4_readNumber 21 = .ok (.iconst 2, 1) := by decide +kernel
theorem dX4_readNumber_22 : decode cX4_readNumber 22 = .ok (.if_icmp .eq 11, 3) := by decide +kernel
theorem dX4_readNumber_25 : decode cX4_readNumber 25 = .ok (.aload_n 0, 1) := by decide +kernel
theorem dX4_readNumber_26 : decode cX4_readNumber 26 = .ok (.iconst 1, 1) := by decide +kernel
theorem dX4_readNumber_27 : decode cX4_readNumber 27 = .ok (.invokevirtual 82, 3) := by decide +kernel
theorem dX4_readNumber_30 : decode cX4_readNumber 30 = .ok (.goto 15, 3) := by decide +kernel
theorem dX4_readNumber_33 : decode cX4_readNumber 33 = .ok (.iload_n 2, 1) := by decide +kernel
theorem dX4_readNumber_34 : decode cX4_readNumber 34 = .ok (.iload_n 1, 1) := by decide +kernel
theorem dX4_readNumber_35 : decode cX4_readNumber 35 = .ok (.if_icmp .le 10, 3) := by decide +kernel
theorem dX4_readNumber_38 : decode cX4_readNumber 38 = .ok (.aload_n 0, 1) := by decide +kernel
theorem dX4_readNumber_39 : decode cX4_readNumber 39 = .ok (.iconst 2, 1) := by decide +kernel
theorem dX4_readNumber_40 : decode cX4_readNumber 40 = .ok (.invokevirtual 82, 3) := by decide +kernel
theorem dX4_readNumber_43 : decode cX4_readNumber 43 = .ok (.iconst 0, 1) := by decide +kernel
theorem dX4_readNumber_44 : decode cX4_readNumber 44 = .ok (.istore_n 2, 1) := by decide +kernel
theorem dX4_readNumber_45 : decode cX4_readNumber 45 = .ok (.aload_n 0, 1) := by decide +kernel
theorem dX4_readNumber_46 : decode cX4_readNumber 46 = .ok (.invokevirtual 51, 3) := by decide +kernel
theorem dX4_readNumber_49 : decode cX4_readNumber 49 = .ok (.iload_n 2, 1) := by decide +kernel
theorem dX4_readNumber_50 : decode cX4_readNumber 50 = .ok (.ireturn, 1) := by decide +kernel
set_option maxRecDepth 20000 in
theorem ggX4_readSemicolon_X4_blame : GoodIn wsX4_readSemicolon wsX4_blame := goodIn_r _ [6, 7, 8, 9, 24, 25, 26, 27, 28, 29, 30] (by decide +kernel) (by decide +kernel)
set_option maxRecDepth 20000 in
theorem gX4_readSemicolon_X4_blame : GoodIn wsX4_readSemicolon (wsV RX4 82 RX4 yX4_blame wsX4_blame) := goodIn_app (goodIn_of _ (by decide +kernel)) ggX4_readSemicolon_X4_blame
set_option maxRecDepth 20000 in
theorem ggX4_readSemicolon_X4_step : GoodIn wsX4_readSemicolon wsX4_step := goodIn_r _ [13, 14, 15, 16, 8, 1, 17, 18, 5, 19, 20, 21, 22, 23, 24, 25, 26, 27, 28, 29, 30] (by decide +kernel) (by decide +kernel)
set_option maxRecDepth 20000 in
theorem gX4_readSemicolon_X4_step : GoodIn wsX4_readSemicolon (wsV RX4 51 RX4 yX4_step wsX4_step) := goodIn_app (goodIn_of _ (by decide +kernel)) ggX4_readSemicolon_X4_step
theorem dX4_readSemicolon_0 : decode cX4_readSemicolon 0 = .ok (.aload_n 0, 1) := by decide +kernel
theorem dX4_readSemicolon_1 : decode cX4_readSemicolon 1 = .ok (.getfield 19, 3) := by decide +kernel
theorem dX4_readSemicolon_4 : decode cX4_readSemicolon 4 = .ok (.iconst 3, 1) := by decide +kernel
theorem dX4_readSemicolon_5 : decode cX4_readSemicolon 5 = .ok (.if_icmp .eq 8, 3) := by decide +kernel
theorem dX4_readSemicolon_8 : decode cX4_readSemicolon 8 = .ok (.aload_n 0, 1) := by decide +kernel
theorem dX4_readSemicolon_9 : decode cX4_readSemicolon 9 = .ok (.iconst 1, 1) := by decide +kernel
theorem dX4_readSemicolon_10 : decode cX4_readSemicolon 10 = .ok (.invokevirtual 82, 3) := by decide +kernel
theorem dX4_readSemicolon_13 : decode cX4_readSemicolon 13 = .ok (.aload_n 0, 1) := by decide +kernel
theorem dX4_readSemicolon_14 : decode cX4_readSemicolon 14 = .ok (.invokevirtual 51, 3) := by decide +kernel
theorem dX4_readSemicolon_17 : decode cX4_readSemicolon 17 = .ok (.return_, 1) := by decide +kernel
theorem dX4_blame_0 : decode cX4_blame 0 = .ok (.aload_n 0, 1) := by decide +kernel
theorem dX4_blame_1 : decode cX4_blame 1 = .ok (.getfield 28, 3) := by decide +kernel
theorem dX4_blame_4 : decode cX4_blame 4 = .ok (.ifCond .ne 16, 3) := by decide +kernel
theorem dX4_blame_7 : decode cX4_blame 7 = .ok (.aload_n 0, 1) := by decide +kernel
theorem dX4_blame_8 : decode cX4_blame 8 = .ok (.iload_n 1, 1) := by decide +kernel
theorem dX4_blame_9 : decode cX4_blame 9 = .ok (.putfield 28, 3) := by decide +kernel
theorem dX4_blame_12 : decode cX4_blame 12 = .ok (.aload_n 0, 1) := by decide +kernel
theorem dX4_blame_13 : decode cX4_blame 13 = .ok (.aload_n 0, 1) := by decide +kernel
theorem dX4_blame_14 : decode cX4_blame 14 = .ok (.getfield 22, 3) := by decide +kernel
theorem dX4_blame_17 : decode cX4_blame 17 = .ok (.putfield 31, 3) := by decide +kernel
theorem dX4_blame_20 : decode cX4_blame 20 = .ok (.return_, 1) := by decide +kernel
set_option maxRecDepth 20000 in
theorem ggX4_isWord_J0_length_8abf5 : GoodIn wsX4_isWord wsJ0_length_8abf5 := goodIn_r _ [9, 10, 11, 12, 13, 8, 14, 15, 16] (by decide +kernel) (by decide +kernel)
set_option maxRecDepth 20000 in
theorem gX4_isWord_J0_length_8abf5 : GoodIn wsX4_isWord (wsV RX4 114 RJ0 yJ0_length_8abf5 wsJ0_length_8abf5) := goodIn_app (goodIn_of _ (by decide +kernel)) ggX4_isWord_J0_length_8abf5
set_option maxRecDepth 20000 in
theorem ggX4_isWord_J0_charAt_5068e : GoodIn wsX4_isWord wsJ0_charAt_5068e := goodIn_r _ [20, 10, 21, 22, 23, 8, 24, 15, 16, 25, 26, 27, 28, 29, 30, 31, 32, 33, 34, 35, 36, 37, 38, 39, 40, 41, 42, 43, 44, 45, 46, 47, 48, 49, 50, 51, 52, 53] (by decide +kernel) (by decide +kernel)
set_option maxRecDepth 20000 in
theorem gX4_isWord_J0_charAt_5068e : GoodIn wsX4_isWord (wsV RX4 118 RJ0 yJ0_charAt_5068e wsJ0_charAt_5068e) := goodIn_app (goodIn_of _ (by decide +kernel)) ggX4_isWord_J0_charAt_5068e
theorem dX4_isWord_0 : decode cX4_isWord 0 = .ok (.aload_n 0, 1) := by decide +kernel
theorem dX4_isWord_1 : decode cX4_isWord 1 = .ok (.getfield 19, 3) := by decide +kernel
theorem dX4_isWord_4 : decode cX4_isWord 4 = .ok (.iconst 1, 1) := by decide +kernel
theorem dX4_isWord_5 : decode cX4_isWord 5 = .ok (.if_icmp .ne 19, 3) := by decide +kernel
theorem dX4_isWord_8 : decode cX4_isWord 8 = .ok (.aload_n 0, 1) := by decide +kernel
theorem dX4_isWord_9 : decode cX4_isWord 9 = .ok (.getfield 25, 3) := by decide +kernel
theorem dX4_isWord_12 : decode cX4_isWord 12 = .ok (.aload_n 0, 1) := by decide +kernel
theorem dX4_isWord_13 : decode cX4_isWord 13 = .ok (.getfield 22, 3) := by decide +kernel
theorem dX4_isWord_16 : decode cX4_isWord 16 = .ok (.isub, 1) := by decide +kernel
theorem dX4_isWord_17 : decode cX4_isWord 17 = .ok (.aload_n 1, 1) := by decide +kernel
theorem dX4_isWord_18 : decode cX4_isWord 18 = .ok (.invokevirtual 114, 3) := by decide +kernel
theorem dX4_isWord_21 : decode cX4_isWord 21 = .ok (.if_icmp .eq 5, 3) := by decide +kernel
theorem dX4_isWord_24 : decode cX4_isWord 24 = .ok (.iconst 0, 1) := by decide +kernel
theorem dX4_isWord_25 : decode cX4_isWord 25 = .ok (.ireturn, 1) := by decide +kernel
theorem dX4_isWord_26 : decode cX4_isWord 26 = .ok (.aload_n 0, 1) := by decide +kernel
theorem dX4_isWord_27 : decode cX4_isWord 27 = .ok (.getfield 22, 3) := by decide +kernel
theorem dX4_isWord_30 : decode cX4_isWord 30 = .ok (.istore_n 2, 1) := by decide +kernel
theorem dX4_isWord_31 : decode cX4_isWord 31 = .ok (.iload_n 2, 1) := by decide +kernel
theorem dX4_isWord_32 : decode cX4_isWord 32 = .ok (.aload_n 0, 1) := by decide +kernel
theorem dX4_isWord_33 : decode cX4_isWord 33 = .ok (.getfield 25, 3) := by decide +kernel
theorem dX4_isWord_36 : decode cX4_isWord 36 = .ok (.if_icmp .ge 30, 3) := by decide +kernel
theorem dX4_isWord_39 : decode cX4_isWord 39 = .ok (.aload_n 0, 1) := by decide +kernel
theorem dX4_isWord_40 : decode cX4_isWord 40 = .ok (.getfield 9, 3) := by decide +kernel
theorem dX4_isWord_43 : decode cX4_isWord 43 = .ok (.iload_n 2, 1) := by decide +kernel
theorem dX4_isWord_44 : decode cX4_isWord 44 = .ok (.iaload, 1) := by decide +kernel
theorem dX4_isWord_45 : decode cX4_isWord 45 = .ok (.aload_n 1, 1) := by decide +kernel
theorem dX4_isWord_46 : decode cX4_isWord 46 = .ok (.iload_n 2, 1) := by decide +kernel
theorem dX4_isWord_47 : decode cX4_isWord 47 = .ok (.aload_n 0, 1) := by decide +kernel
theorem dX4_isWord_48 : decode cX4_isWord 48 = .ok (.getfield 22, 3) := by decide +kernel
theorem dX4_isWord_51 : decode cX4_isWord 51 = .ok (.isub, 1) := by decide +kernel
theorem dX4_isWord_52 : decode cX4_isWord 52 = .ok (.invokevirtual 118, 3) := by decide +kernel
theorem dX4_isWord_55 : decode cX4_isWord 55 = .ok (.if_icmp .eq 5, 3) := by decide +kernel
theorem dX4_isWord_58 : decode cX4_isWord 58 = .ok (.iconst 0, 1) := by decide +kernel
theorem dX4_isWord_59 : decode cX4_isWord 59 = .ok (.ireturn, 1) := by decide +kernel
theorem dX4_isWord_60 : decode cX4_isWord 60 = .ok (.iinc 2 1, 3) := by decide +kernel
theorem dX4_isWord_63 : decode cX4_isWord 63 = .ok (.goto (-32), 3) := by decide +kernel
theorem dX4_isWord_66 : decode cX4_isWord 66 = .ok (.iconst 1, 1) := by decide +kernel
theorem dX4_isWord_67 : decode cX4_isWord 67 = .ok (.ireturn, 1) := by decide +kernel
theorem dX4_numberAtHand_0 : decode cX4_numberAtHand 0 = .ok (.iconst 0, 1) := by decide +kernel
theorem dX4_numberAtHand_1 : decode cX4_numberAtHand 1 = .ok (.istore_n 1, 1) := by decide +kernel
theorem dX4_numberAtHand_2 : decode cX4_numberAtHand 2 = .ok (.aload_n 0, 1) := by decide +kernel
theorem dX4_numberAtHand_3 : decode cX4_numberAtHand 3 = .ok (.getfield 22, 3) := by decide +kernel
theorem dX4_numberAtHand_6 : decode cX4_numberAtHand 6 = .ok (.istore_n 2, 1) := by decide +kernel
theorem dX4_numberAtHand_7 : decode cX4_numberAtHand 7 = .ok (.iload_n 2, 1) := by decide +kernel
theorem dX4_numberAtHand_8 : decode cX4_numberAtHand 8 = .ok (.aload_n 0, 1) := by decide +kernel
theorem dX4_numberAtHand_9 : decode cX4_numberAtHand 9 = .ok (.getfield 25, 3) := by decide +kernel
theorem dX4_numberAtHand_12 : decode cX4_numberAtHand 12 = .ok (.if_icmp .ge 31, 3) := by decide +kernel
theorem dX4_numberAtHand_15 : decode cX4_numberAtHand 15 = .ok (.iload_n 1, 1) := by decide +kernel
theorem dX4_numberAtHand_16 : decode cX4_numberAtHand 16 = .ok (.sipush 999, 3) := by decide +kernel
theorem dX4_numberAtHand_19 : decode cX4_numberAtHand 19 = .ok (.if_icmp .gt 18, 3) := by decide +kernel
theorem dX4_numberAtHand_22 : decode cX4_numberAtHand 22 = .ok (.iload_n 1, 1) := by decide +kernel
theorem dX4_numberAtHand_23 : decode cX4_numberAtHand 23 = .ok (.bipush 10, 2) := by decide +kernel
theorem dX4_numberAtHand_25 : decode cX4_numberAtHand 25 = .ok (.imul, 1) := by decide +kernel
theorem dX4_numberAtHand_26 : decode cX4_numberAtHand 26 = .ok (.aload_n 0, 1) := by decide +kernel
theorem dX4_numberAtHand_27 : decode cX4_numberAtHand 27 = .ok (.getfield 9, 3) := by decide +kernel
theorem dX4_numberAtHand_30 : decode cX4_numberAtHand 30 = .ok (.iload_n 2, 1) := by decide +kernel
theorem dX4_numberAtHand_31 : decode cX4_numberAtHand 31 = .ok (.iaload, 1) := by decide +kernel
theorem dX4_numberAtHand_32 : decode cX4_numberAtHand 32 = .ok (.iadd, 1) := by decide +kernel
theorem dX4_numberAtHand_33 : decode cX4_numberAtHand 33 = .ok (.bipush 48, 2) := by decide +kernel
theorem dX4_numberAtHand_35 : decode cX4_numberAtHand 35 = .ok (.isub, 1) := by decide +kernel
theorem dX4_numberAtHand_36 : decode cX4_numberAtHand 36 = .ok (.istore_n 1, 1) := by decide +kernel
theorem dX4_numberAtHand_37 : decode cX4_numberAtHand 37 = .ok (.iinc 2 1, 3) := by decide +kernel
theorem dX4_numberAtHand_40 : decode cX4_numberAtHand 40 = .ok (.goto (-33), 3) := by decide +kernel
theorem dX4_numberAtHand_43 : decode cX4_numberAtHand 43 = .ok (.iload_n 1, 1) := by decide +kernel
theorem dX4_numberAtHand_44 : decode cX4_numberAtHand 44 = .ok (.ireturn, 1) := by decide +kernel
set_option maxRecDepth 20000 in
theorem ggX4_step_X4_kindOf : GoodIn wsX4_step wsX4_kindOf := goodIn_r _ [9] (by decide +kernel) (by decide +kernel)
set_option maxRecDepth 20000 in
theorem gX4_step_X4_kindOf : GoodIn wsX4_step (va_wsS RX4 122 yX4_kindOf wsX4_kindOf) := goodIn_app (goodIn_of _ (by decide +kernel)) ggX4_step_X4_kindOf
set_option maxRecDepth 20000 in
theorem ggX4_step_X4_isInARow : GoodIn wsX4_step wsX4_isInARow := goodIn_r _ [13, 5, 14, 15, 16, 17, 18, 19, 20] (by decide +kernel) (by decide +kernel)
set_option maxRecDepth 20000 in
theorem gX4_step_X4_isInARow : GoodIn wsX4_step (wsV RX4 125 RX4 yX4_isInARow wsX4_isInARow) := goodIn_app (goodIn_of _ (by decide +kernel)) ggX4_step_X4_isInARow
theorem dX4_step_0 : decode cX4_step 0 = .ok (.aload_n 0, 1) := by decide +kernel
theorem dX4_step_1 : decode cX4_step 1 = .ok (.getfield 25, 3) := by decide +kernel
theorem dX4_step_4 : decode cX4_step 4 = .ok (.aload_n 0, 1) := by decide +kernel
theorem dX4_step_5 : decode cX4_step 5 = .ok (.getfield 15, 3) := by decide +kernel
theorem dX4_step_8 : decode cX4_step 8 = .ok (.if_icmp .ge 31, 3) := by decide +kernel
theorem dX4_step_11 : decode cX4_step 11 = .ok (.aload_n 0, 1) := by decide +kernel
theorem dX4_step_12 : decode cX4_step 12 = .ok (.getfield 9, 3) := by decide +kernel
theorem dX4_step_15 : decode cX4_step 15 = .ok (.aload_n 0, 1) := by decide +kernel
theorem dX4_step_16 : decode cX4_step 16 = .ok (.getfield 25, 3) := by decide +kernel
theorem dX4_step_19 : decode cX4_step 19 = .ok (.iaload, 1) := by decide +kernel
theorem dX4_step_20 : decode cX4_step 20 = .ok (.invokestatic 122, 3) := by decide +kernel
theorem dX4_step_23 : decode cX4_step 23 = .ok (.ifCond .ne 16, 3) := by decide +kernel
theorem dX4_step_26 : decode cX4_step 26 = .ok (.aload_n 0, 1) := by decide +kernel
theorem dX4_step_27 : decode cX4_step 27 = .ok (.dup, 1) := by decide +kernel
theorem dX4_step_28 : decode cX4_step 28 = .ok (.getfield 25, 3) := by decide +kernel
theorem dX4_step_31 : decode cX4_step 31 = .ok (.iconst 1, 1) := by decide +kernel
theorem dX4_step_32 : decode cX4_step 32 = .ok (.iadd, 1) := by decide +kernel
theorem dX4_step_33 : decode cX4_step 33 = .ok (.putfield 25, 3) := by decide +kernel
theorem dX4_step_36 : decode cX4_step 36 = .ok (.goto (-36), 3) := by decide +kernel
theorem dX4_step_39 : decode cX4_step 39 = .ok (.aload_n 0, 1) := by decide +kernel
theorem dX4_step_40 : decode cX4_step 40 = .ok (.aload_n 0, 1) := by decide +kernel
theorem dX4_step_41 : decode cX4_step 41 = .ok (.getfield 25, 3) := by decide +kernel
theorem dX4_step_44 : decode cX4_step 44 = .ok (.putfield 22, 3) := by decide +kernel
theorem dX4_step_47 : decode cX4_step 47 = .ok (.aload_n 0, 1) := by decide +kernel
theorem dX4_step_48 : decode cX4_step 48 = .ok (.getfield 22, 3) := by decide +kernel
theorem dX4_step_51 : decode cX4_step 51 = .ok (.aload_n 0, 1) := by decide +kernel
theorem dX4_step_52 : decode cX4_step 52 = .ok (.getfield 15, 3) := by decide +kernel
theorem dX4_step_55 : decode cX4_step 55 = .ok (.if_icmp .lt 9, 3) := by decide +kernel
theorem dX4_step_58 : decode cX4_step 58 = .ok (.aload_n 0, 1) := by decide +kernel
theorem dX4_step_59 : decode cX4_step 59 = .ok (.iconst 5, 1) := by decide +kernel
theorem dX4_step_60 : decode cX4_step 60 = .ok (.putfield 19, 3) := by decide +kernel
theorem dX4_step_63 : decode cX4_step 63 = .ok (.return_, 1) := by decide +kernel
theorem dX4_step_64 : decode cX4_step 64 = .ok (.aload_n 0, 1) := by decide +kernel
theorem dX4_step_65 : decode cX4_step 65 = .ok (.aload_n 0, 1) := by decide +kernel
theorem dX4_step_66 : decode cX4_step 66 = .ok (.getfield 9, 3) := by decide +kernel
theorem dX4_step_69 : decode cX4_step 69 = .ok (.aload_n 0, 1) := by decide +kernel
theorem dX4_step_70 : decode cX4_step 70 = .ok (.getfield 22, 3) := by decide +kernel
theorem dX4_step_73 : decode cX4_step 73 = .ok (.iaload, 1) := by decide +kernel
theorem dX4_step_74 : decode cX4_step 74 = .ok (.invokestatic 122, 3) := by decide +kernel
theorem dX4_step_77 : decode cX4_step 77 = .ok (.putfield 19, 3) := by decide +kernel
theorem dX4_step_80 : decode cX4_step 80 = .ok (.aload_n 0, 1) := by decide +kernel
theorem dX4_step_81 : decode cX4_step 81 = .ok (.dup, 1) := by decide +kernel
theorem dX4_step_82 : decode cX4_step 82 = .ok (.getfield 25, 3) := by decide +kernel
theorem dX4_step_85 : decode cX4_step 85 = .ok (.iconst 1, 1) := by decide +kernel
theorem dX4_step_86 : decode cX4_step 86 = .ok (.iadd, 1) := by decide +kernel
theorem dX4_step_87 : decode cX4_step 87 = .ok (.putfield 25, 3) := by decide +kernel
theorem dX4_step_90 : decode cX4_step 90 = .ok (.aload_n 0, 1) := by decide +kernel
theorem dX4_step_91 : decode cX4_step 91 = .ok (.getfield 25, 3) := by decide +kernel
theorem dX4_step_94 : decode cX4_step 94 = .ok (.aload_n 0, 1) := by decide +kernel
theorem dX4_step_95 : decode cX4_step 95 = .ok (.getfield 15, 3) := by decide +kernel
theorem dX4_step_98 : decode cX4_step 98 = .ok (.if_icmp .ge 42, 3) := by decide +kernel
theorem dX4_step_101 : decode cX4_step 101 = .ok (.aload_n 0, 1) := by decide +kernel
theorem dX4_step_102 : decode cX4_step 102 = .ok (.invokevirtual 125, 3) := by decide +kernel
theorem dX4_step_105 : decode cX4_step 105 = .ok (.ifCond .eq 35, 3) := by decide +kernel
theorem dX4_step_108 : decode cX4_step 108 = .ok (.aload_n 0, 1) := by decide +kernel
theorem dX4_step_109 : decode cX4_step 109 = .ok (.getfield 9, 3) := by decide +kernel
theorem dX4_step_112 : decode cX4_step 112 = .ok (.aload_n 0, 1) := by decide +kernel
theorem dX4_step_113 : decode cX4_step 113 = .ok (.getfield 25, 3) := by decide +kernel
theorem dX4_step_116 : decode cX4_step 116 = .ok (.iaload, 1) := by decide +kernel
theorem dX4_step_117 : decode cX4_step 117 = .ok (.invokestatic 122, 3) := by decide +kernel
theorem dX4_step_120 : decode cX4_step 120 = .ok (.aload_n 0, 1) := by decide +kernel
theorem dX4_step_121 : decode cX4_step 121 = .ok (.getfield 19, 3) := by decide +kernel
theorem dX4_step_124 : decode cX4_step 124 = .ok (.if_icmp .ne 16, 3) := by decide +kernel
theorem dX4_step_127 : decode cX4_step 127 = .ok (.aload_n 0, 1) := by decide +kernel
theorem dX4_step_128 : decode cX4_step 128 = .ok (.dup, 1) := by decide +kernel
theorem dX4_step_129 : decode cX4_step 129 = .ok (.getfield 25, 3) := by decide +kernel
theorem dX4_step_132 : decode cX4_step 132 = .ok (.iconst 1, 1) := by decide +kernel
theorem dX4_step_133 : decode cX4_step 133 = .ok (.iadd, 1) := by decide +kernel
theorem dX4_step_134 : decode cX4_step 134 = .ok (.putfield 25, 3) := by decide +kernel
theorem dX4_step_137 : decode cX4_step 137 = .ok (.goto (-47), 3) := by decide +kernel
theorem dX4_step_140 : decode cX4_step 140 = .ok (.return_, 1) := by decide +kernel
theorem dX4_isInARow_0 : decode cX4_isInARow 0 = .ok (.aload_n 0, 1) := by decide +kernel
theorem dX4_isInARow_1 : decode cX4_isInARow 1 = .ok (.getfield 19, 3) := by decide +kernel
theorem dX4_isInARow_4 : decode cX4_isInARow 4 = .ok (.iconst 1, 1) := by decide +kernel
theorem dX4_isInARow_5 : decode cX4_isInARow 5 = .ok (.if_icmp .eq 11, 3) := by decide +kernel
theorem dX4_isInARow_8 : decode cX4_isInARow 8 = .ok (.aload_n 0, 1) := by decide +kernel
theorem dX4_isInARow_9 : decode cX4_isInARow 9 = .ok (.getfield 19, 3) := by decide +kernel
theorem dX4_isInARow_12 : decode cX4_isInARow 12 = .ok (.iconst 2, 1) := by decide +kernel
theorem dX4_isInARow_13 : decode cX4_isInARow 13 = .ok (.if_icmp .ne 7, 3) := by decide +kernel
theorem dX4_isInARow_16 : decode cX4_isInARow 16 = .ok (.iconst 1, 1) := by decide +kernel
theorem dX4_isInARow_17 : decode cX4_isInARow 17 = .ok (.goto 4, 3) := by decide +kernel
theorem dX4_isInARow_20 : decode cX4_isInARow 20 = .ok (.iconst 0, 1) := by decide +kernel
theorem dX4_isInARow_21 : decode cX4_isInARow 21 = .ok (.ireturn, 1) := by decide +kernel
theorem dX4_kindOf_0 : decode cX4_kindOf 0 = .ok (.iload_n 0, 1) := by decide +kernel
theorem dX4_kindOf_1 : decode cX4_kindOf 1 = .ok (.bipush 10, 2) := by decide +kernel
theorem dX4_kindOf_3 : decode cX4_kindOf 3 = .ok (.if_icmp .eq 9, 3) := by decide +kernel
theorem dX4_kindOf_6 : decode cX4_kindOf 6 = .ok (.iload_n 0, 1) := by decide +kernel
theorem dX4_kindOf_7 : decode cX4_kindOf 7 = .ok (.bipush 32, 2) := by decide +kernel
theorem dX4_kindOf_9 : decode cX4_kindOf 9 = .ok (.if_icmp .ne 5, 3) := by decide +kernel
theorem dX4_kindOf_12 : decode cX4_kindOf 12 = .ok (.iconst 0, 1) := by decide +kernel
theorem dX4_kindOf_13 : decode cX4_kindOf 13 = .ok (.ireturn, 1) := by decide +kernel
theorem dX4_kindOf_14 : decode cX4_kindOf 14 = .ok (.iload_n 0, 1) := by decide +kernel
theorem dX4_kindOf_15 : decode cX4_kindOf 15 = .ok (.bipush 97, 2) := by decide +kernel
theorem dX4_kindOf_17 : decode cX4_kindOf 17 = .ok (.if_icmp .lt 11, 3) := by decide +kernel
theorem dX4_kindOf_20 : decode cX4_kindOf 20 = .ok (.iload_n 0, 1) := by decide +kernel
theorem dX4_kindOf_21 : decode cX4_kindOf 21 = .ok (.bipush 122, 2) := by decide +kernel
theorem dX4_kindOf_23 : decode cX4_kindOf 23 = .ok (.if_icmp .gt 5, 3) := by decide +kernel
theorem dX4_kindOf_26 : decode cX4_kindOf 26 = .ok (.iconst 1, 1) := by decide +kernel
theorem dX4_kindOf_27 : decode cX4_kindOf 27 = .ok (.ireturn, 1) := by decide +kernel
theorem dX4_kindOf_28 : decode cX4_kindOf 28 = .ok (.iload_n 0, 1) := by decide +kernel
theorem dX4_kindOf_29 : decode cX4_kindOf 29 = .ok (.bipush 48, 2) := by decide +kernel
theorem dX4_kindOf_31 : decode cX4_kindOf 31 = .ok (.if_icmp .lt 11, 3) := by decide +kernel
theorem dX4_kindOf_34 : decode cX4_kindOf 34 = .ok (.iload_n 0, 1) := by decide +kernel
theorem dX4_kindOf_35 : decode cX4_kindOf 35 = .ok (.bipush 57, 2) := by decide +kernel
theorem dX4_kindOf_37 : decode cX4_kindOf 37 = .ok (.if_icmp .gt 5, 3) := by decide +kernel
theorem dX4_kindOf_40 : decode cX4_kindOf 40 = .ok (.iconst 2, 1) := by decide +kernel
theorem dX4_kindOf_41 : decode cX4_kindOf 41 = .ok (.ireturn, 1) := by decide +kernel
theorem dX4_kindOf_42 : decode cX4_kindOf 42 = .ok (.iload_n 0, 1) := by decide +kernel
theorem dX4_kindOf_43 : decode cX4_kindOf 43 = .ok (.bipush 59, 2) := by decide +kernel
theorem dX4_kindOf_45 : decode cX4_kindOf 45 = .ok (.if_icmp .ne 7, 3) := by decide +kernel
theorem dX4_kindOf_48 : decode cX4_kindOf 48 = .ok (.iconst 3, 1) := by decide +kernel
theorem dX4_kindOf_49 : decode cX4_kindOf 49 = .ok (.goto 4, 3) := by decide +kernel
theorem dX4_kindOf_52 : decode cX4_kindOf 52 = .ok (.iconst 4, 1) := by decide +kernel
theorem dX4_kindOf_53 : decode cX4_kindOf 53 = .ok (.ireturn, 1) := by decide +kernel
theorem dX5_init_0 : decode cX5_init 0 = .ok (.aload_n 0, 1) := by decide +kernel
theorem dX5_init_1 : decode cX5_init 1 = .ok (.invokespecial 3, 3) := by decide +kernel
theorem dX5_init_4 : decode cX5_init 4 = .ok (.aload_n 0, 1) := by decide +kernel
theorem dX5_init_5 : decode cX5_init 5 = .ok (.sipush 300, 3) := by decide +kernel
theorem dX5_init_8 : decode cX5_init 8 = .ok (.newarray .int, 2) := by decide +kernel
theorem dX5_init_10 : decode cX5_init 10 = .ok (.putfield 9, 3) := by decide +kernel
theorem dX5_init_13 : decode cX5_init 13 = .ok (.aload_n 0, 1) := by decide +kernel
theorem dX5_init_14 : decode cX5_init 14 = .ok (.iconst 0, 1) := by decide +kernel
theorem dX5_init_15 : decode cX5_init 15 = .ok (.putfield 15, 3) := by decide +kernel
theorem dX5_init_18 : decode cX5_init 18 = .ok (.return_, 1) := by decide +kernel
theorem dX5_append_0 : decode cX5_append 0 = .ok (.bipush 24, 2) := by decide +kernel
theorem dX5_append_2 : decode cX5_append 2 = .ok (.istore_n 2, 1) := by decide +kernel
theorem dX5_append_3 : decode cX5_append 3 = .ok (.iload_n 2, 1) := by decide +kernel
theorem dX5_append_4 : decode cX5_append 4 = .ok (.ifCond .lt 45, 3) := by decide +kernel
theorem dX5_append_7 : decode cX5_append 7 = .ok (.aload_n 0, 1) := by decide +kernel
theorem dX5_append_8 : decode cX5_append 8 = .ok (.getfield 15, 3) := by decide +kernel
theorem dX5_append_11 : decode cX5_append 11 = .ok (.sipush 300, 3) := by decide +kernel
theorem dX5_append_14 : decode cX5_append 14 = .ok (.if_icmp .ge 35, 3) := by decide +kernel
theorem dX5_append_17 : decode cX5_append 17 = .ok (.aload_n 0, 1) := by decide +kernel
theorem dX5_append_18 : decode cX5_append 18 = .ok (.getfield 9, 3) := by decide +kernel
theorem dX5_append_21 : decode cX5_append 21 = .ok (.aload_n 0, 1) := by decide +kernel
theorem dX5_append_22 : decode cX5_append 22 = .ok (.getfield 15, 3) := by decide +kernel
theorem dX5_append_25 : decode cX5_append 25 = .ok (.iload_n 1, 1) := by decide +kernel
theorem dX5_append_26 : decode cX5_append 26 = .ok (.iload_n 2, 1) := by decide +kernel
theorem dX5_append_27 : decode cX5_append 27 = .ok (.iushr, 1) := by decide +kernel
theorem dX5_append_28 : decode cX5_append 28 = .ok (.sipush 255, 3) := by decide +kernel
theorem dX5_append_31 : decode cX5_append 31 = .ok (.iand, 1) := by decide +kernel
theorem dX5_append_32 : decode cX5_append 32 = .ok (.iastore, 1) := by decide +kernel
theorem dX5_append_33 : decode cX5_append 33 = .ok (.aload_n 0, 1) := by decide +kernel
theorem dX5_append_34 : decode cX5_append 34 = .ok (.dup, 1) := by decide +kernel
theorem dX5_append_35 : decode cX5_append 35 = .ok (.getfield 15, 3) := by decide +kernel
theorem dX5_append_38 : decode cX5_append 38 = .ok (.iconst 1, 1) := by decide +kernel
theorem dX5_append_39 : decode cX5_append 39 = .ok (.iadd, 1) := by decide +kernel
theorem dX5_append_40 : decode cX5_append 40 = .ok (.putfield 15, 3) := by decide +kernel
theorem dX5_append_43 : decode cX5_append 43 = .ok (.iinc 2 (-8), 3) := by decide +kernel
theorem dX5_append_46 : decode cX5_append 46 = .ok (.goto (-43), 3) := by decide +kernel
theorem dX5_append_49 : decode cX5_append 49 = .ok (.return_, 1) := by decide +kernel
set_option maxRecDepth 20000 in
theorem ggX6_init_X3_init : GoodIn wsX6_init wsX3_init := goodIn_r _ [13, 14, 2, 3, 4, 15, 16, 17, 18, 19, 20, 21, 22, 23, 24, 25, 26, 31, 32, 33, 34, 35, 36, 37, 38, 39, 40, 41] (by decide +kernel) (by decide +kernel)
set_option maxRecDepth 20000 in
theorem gX6_init_X3_init_n17 : GoodIn wsX6_init (wsX3_init) := ggX6_init_X3_init
theorem dX6_init_0 : decode cX6_init 0 = .ok (.aload_n 0, 1) := by decide +kernel
theorem dX6_init_1 : decode cX6_init 1 = .ok (.invokespecial 3, 3) := by decide +kernel
theorem dX6_init_4 : decode cX6_init 4 = .ok (.aload_n 0, 1) := by decide +kernel
theorem dX6_init_5 : decode cX6_init 5 = .ok (.bipush 10, 2) := by decide +kernel
theorem dX6_init_7 : decode cX6_init 7 = .ok (.newarray .int, 2) := by decide +kernel
theorem dX6_init_9 : decode cX6_init 9 = .ok (.putfield 9, 3) := by decide +kernel
theorem dX6_init_12 : decode cX6_init 12 = .ok (.aload_n 0, 1) := by decide +kernel
theorem dX6_init_13 : decode cX6_init 13 = .ok (.new 15, 3) := by decide +kernel
theorem dX6_init_16 : decode cX6_init 16 = .ok (.dup, 1) := by decide +kernel
theorem dX6_init_17 : decode cX6_init 17 = .ok (.invokespecial 17, 3) := by decide +kernel
theorem dX6_init_20 : decode cX6_init 20 = .ok (.putfield 18, 3) := by decide +kernel
theorem dX6_init_23 : decode cX6_init 23 = .ok (.aload_n 0, 1) := by decide +kernel
theorem dX6_init_24 : decode cX6_init 24 = .ok (.iconst 0, 1) := by decide +kernel
theorem dX6_init_25 : decode cX6_init 25 = .ok (.putfield 22, 3) := by decide +kernel
theorem dX6_init_28 : decode cX6_init 28 = .ok (.aload_n 0, 1) := by decide +kernel
theorem dX6_init_29 : decode cX6_init 29 = .ok (.iconst 0, 1) := by decide +kernel
theorem dX6_init_30 : decode cX6_init 30 = .ok (.putfield 26, 3) := by decide +kernel
theorem dX6_init_33 : decode cX6_init 33 = .ok (.return_, 1) := by decide +kernel
theorem dX6_hasMan_0 : decode cX6_hasMan 0 = .ok (.iload_n 1, 1) := by decide +kernel
theorem dX6_hasMan_1 : decode cX6_hasMan 1 = .ok (.ifCond .lt 15, 3) := by decide +kernel
theorem dX6_hasMan_4 : decode cX6_hasMan 4 = .ok (.iload_n 1, 1) := by decide +kernel
theorem dX6_hasMan_5 : decode cX6_hasMan 5 = .ok (.aload_n 0, 1) := by decide +kernel
theorem dX6_hasMan_6 : decode cX6_hasMan 6 = .ok (.getfield 22, 3) := by decide +kernel
theorem dX6_hasMan_9 : decode cX6_hasMan 9 = .ok (.if_icmp .ge 7, 3) := by decide +kernel
theorem dX6_hasMan_12 : decode cX6_hasMan 12 = .ok (.iconst 1, 1) := by decide +kernel
theorem dX6_hasMan_13 : decode cX6_hasMan 13 = .ok (.goto 4, 3) := by decide +kernel
theorem dX6_hasMan_16 : decode cX6_hasMan 16 = .ok (.iconst 0, 1) := by decide +kernel
theorem dX6_hasMan_17 : decode cX6_hasMan 17 = .ok (.ireturn, 1) := by decide +kernel
theorem dX6_settle_0 : decode cX6_settle 0 = .ok (.aload_n 0, 1) := by decide +kernel
theorem dX6_settle_1 : decode cX6_settle 1 = .ok (.getfield 22, 3) := by decide +kernel
theorem dX6_settle_4 : decode cX6_settle 4 = .ok (.bipush 10, 2) := by decide +kernel
theorem dX6_settle_6 : decode cX6_settle 6 = .ok (.if_icmp .lt 5, 3) := by decide +kernel
theorem dX6_settle_9 : decode cX6_settle 9 = .ok (.iconst (-1), 1) := by decide +kernel
theorem dX6_settle_10 : decode cX6_settle 10 = .ok (.ireturn, 1) := by decide +kernel
theorem dX6_settle_11 : decode cX6_settle 11 = .ok (.aload_n 0, 1) := by decide +kernel
theorem dX6_settle_12 : decode cX6_settle 12 = .ok (.getfield 9, 3) := by decide +kernel
theorem dX6_settle_15 : decode cX6_settle 15 = .ok (.aload_n 0, 1) := by decide +kernel
theorem dX6_settle_16 : decode cX6_settle 16 = .ok (.getfield 22, 3) := by decide +kernel
theorem dX6_settle_19 : decode cX6_settle 19 = .ok (.iload_n 1, 1) := by decide +kernel
theorem dX6_settle_20 : decode cX6_settle 20 = .ok (.iastore, 1) := by decide +kernel
theorem dX6_settle_21 : decode cX6_settle 21 = .ok (.aload_n 0, 1) := by decide +kernel
theorem dX6_settle_22 : decode cX6_settle 22 = .ok (.dup, 1) := by decide +kernel
theorem dX6_settle_23 : decode cX6_settle 23 = .ok (.getfield 22, 3) := by decide +kernel
theorem dX6_settle_26 : decode cX6_settle 26 = .ok (.iconst 1, 1) := by decide +kernel
theorem dX6_settle_27 : decode cX6_settle 27 = .ok (.iadd, 1) := by decide +kernel
theorem dX6_settle_28 : decode cX6_settle 28 = .ok (.putfield 22, 3) := by decide +kernel
theorem dX6_settle_31 : decode cX6_settle 31 = .ok (.aload_n 0, 1) := by decide +kernel
theorem dX6_settle_32 : decode cX6_settle 32 = .ok (.getfield 22, 3) := by decide +kernel
theorem dX6_settle_35 : decode cX6_settle 35 = .ok (.iconst 1, 1) := by decide +kernel
theorem dX6_settle_36 : decode cX6_settle 36 = .ok (.isub, 1) := by decide +kernel
theorem dX6_settle_37 : decode cX6_settle 37 = .ok (.ireturn, 1) := by decide +kernel
theorem dX6_isCrew_0 : decode cX6_isCrew 0 = .ok (.iload_n 1, 1) := by decide +kernel
theorem dX6_isCrew_1 : decode cX6_isCrew 1 = .ok (.aload_n 0, 1) := by decide +kernel
theorem dX6_isCrew_2 : decode cX6_isCrew 2 = .ok (.getfield 22, 3) := by decide +kernel
theorem dX6_isCrew_5 : decode cX6_isCrew 5 = .ok (.iushr, 1) := by decide +kernel
theorem dX6_isCrew_6 : decode cX6_isCrew 6 = .ok (.ifCond .ne 15, 3) := by decide +kernel
theorem dX6_isCrew_9 : decode cX6_isCrew 9 = .ok (.iload_n 1, 1) := by decide +kernel
theorem dX6_isCrew_10 : decode cX6_isCrew 10 = .ok (.iload_n 2, 1) := by decide +kernel
theorem dX6_isCrew_11 : decode cX6_isCrew 11 = .ok (.iushr, 1) := by decide +kernel
theorem dX6_isCrew_12 : decode cX6_isCrew 12 = .ok (.iconst 1, 1) := by decide +kernel
theorem dX6_isCrew_13 : decode cX6_isCrew 13 = .ok (.iand, 1) := by decide +kernel
theorem dX6_isCrew_14 : decode cX6_isCrew 14 = .ok (.ifCond .ne 7, 3) := by decide +kernel
theorem dX6_isCrew_17 : decode cX6_isCrew 17 = .ok (.iconst 1, 1) := by decide +kernel
theorem dX6_isCrew_18 : decode cX6_isCrew 18 = .ok (.goto 4, 3) := by decide +kernel
theorem dX6_isCrew_21 : decode cX6_isCrew 21 = .ok (.iconst 0, 1) := by decide +kernel
theorem dX6_isCrew_22 : decode cX6_isCrew 22 = .ok (.ireturn, 1) := by decide +kernel
set_option maxRecDepth 20000 in
theorem ggX6_shareBoat_J6_bitCount_0f7a4 : GoodIn wsX6_shareBoat wsJ6_bitCount_0f7a4 := goodIn_r _ [6, 7, 8, 9] (by decide +kernel) (by decide +kernel)
set_option maxRecDepth 20000 in
theorem gX6_shareBoat_J6_bitCount_0f7a4 : GoodIn wsX6_shareBoat (va_wsS RX6 29 yJ6_bitCount_0f7a4 wsJ6_bitCount_0f7a4) := goodIn_app (goodIn_of _ (by decide +kernel)) ggX6_shareBoat_J6_bitCount_0f7a4
theorem dX6_shareBoat_0 : decode cX6_shareBoat 0 = .ok (.iload 4, 2) := by decide +kernel
theorem dX6_shareBoat_2 : decode cX6_shareBoat 2 = .ok (.invokestatic 29, 3) := by decide +kernel
theorem dX6_shareBoat_5 : decode cX6_shareBoat 5 = .ok (.istore 5, 2) := by decide +kernel
theorem dX6_shareBoat_7 : decode cX6_shareBoat 7 = .ok (.iload_n 3, 1) := by decide +kernel
theorem dX6_shareBoat_8 : decode cX6_shareBoat 8 = .ok (.iload 5, 2) := by decide +kernel
theorem dX6_shareBoat_10 : decode cX6_shareBoat 10 = .ok (.iadd, 1) := by decide +kernel
theorem dX6_shareBoat_11 : decode cX6_shareBoat 11 = .ok (.istore 6, 2) := by decide +kernel
theorem dX6_shareBoat_13 : decode cX6_shareBoat 13 = .ok (.iload 6, 2) := by decide +kernel
theorem dX6_shareBoat_15 : decode cX6_shareBoat 15 = .ok (.ifCond .le 10, 3) := by decide +kernel
theorem dX6_shareBoat_18 : decode cX6_shareBoat 18 = .ok (.iload_n 1, 1) := by decide +kernel
theorem dX6_shareBoat_19 : decode cX6_shareBoat 19 = .ok (.iload 6, 2) := by decide +kernel
theorem dX6_shareBoat_21 : decode cX6_shareBoat 21 = .ok (.idiv, 1) := by decide +kernel
theorem dX6_shareBoat_22 : decode cX6_shareBoat 22 = .ok (.goto 4, 3) := by decide +kernel
theorem dX6_shareBoat_25 : decode cX6_shareBoat 25 = .ok (.iconst 0, 1) := by decide +kernel
theorem dX6_shareBoat_26 : decode cX6_shareBoat 26 = .ok (.istore 7, 2) := by decide +kernel
theorem dX6_shareBoat_28 : decode cX6_shareBoat 28 = .ok (.iconst 0, 1) := by decide +kernel
theorem dX6_shareBoat_29 : decode cX6_shareBoat 29 = .ok (.istore 8, 2) := by decide +kernel
theorem dX6_shareBoat_31 : decode cX6_shareBoat 31 = .ok (.iload 8, 2) := by decide +kernel
theorem dX6_shareBoat_33 : decode cX6_shareBoat 33 = .ok (.aload_n 0, 1) := by decide +kernel
theorem dX6_shareBoat_34 : decode cX6_shareBoat 34 = .ok (.getfield 22, 3) := by decide +kernel
theorem dX6_shareBoat_37 : decode cX6_shareBoat 37 = .ok (.if_icmp .ge 32, 3) := by decide +kernel
theorem dX6_shareBoat_40 : decode cX6_shareBoat 40 = .ok (.iload 4, 2) := by decide +kernel
theorem dX6_shareBoat_42 : decode cX6_shareBoat 42 = .ok (.iload 8, 2) := by decide +kernel
theorem dX6_shareBoat_44 : decode cX6_shareBoat 44 = .ok (.iushr, 1) := by decide +kernel
theorem dX6_shareBoat_45 : decode cX6_shareBoat 45 = .ok (.iconst 1, 1) := by decide +kernel
theorem dX6_shareBoat_46 : decode cX6_shareBoat 46 = .ok (.iand, 1) := by decide +kernel
theorem dX6_shareBoat_47 : decode cX6_shareBoat 47 = .ok (.iconst 1, 1) := by decide +kernel
theorem dX6_shareBoat_48 : decode cX6_shareBoat 48 = .ok (.if_icmp .ne 15, 3) := by decide +kernel
theorem dX6_shareBoat_51 : decode cX6_shareBoat 51 = .ok (.aload_n 0, 1) := by decide +kernel
theorem dX6_shareBoat_52 : decode cX6_shareBoat 52 = .ok (.getfield 9, 3) := by decide +kernel
theorem dX6_shareBoat_55 : decode cX6_shareBoat 55 = .ok (.iload 8, 2) := by decide +kernel
theorem dX6_shareBoat_57 : decode cX6_shareBoat 57 = .ok (.dup2, 1) := by decide +kernel
theorem dX6_shareBoat_58 : decode cX6_shareBoat 58 = .ok (.iaload, 1) := by decide +kernel
theorem dX6_shareBoat_59 : decode cX6_shareBoat 59 = .ok (.iload 7, 2) := by decide +kernel
theorem dX6_shareBoat_61 : decode cX6_shareBoat 61 = .ok (.iadd, 1) := by decide +kernel
theorem dX6_shareBoat_62 : decode cX6_shareBoat 62 = .ok (.iastore, 1) := by decide +kernel
theorem dX6_shareBoat_63 : decode cX6_shareBoat 63 = .ok (.iinc 8 1, 3) := by decide +kernel
theorem dX6_shareBoat_66 : decode cX6_shareBoat 66 = .ok (.goto (-35), 3) := by decide +kernel
theorem dX6_shareBoat_69 : decode cX6_shareBoat 69 = .ok (.aload_n 0, 1) := by decide +kernel
theorem dX6_shareBoat_70 : decode cX6_shareBoat 70 = .ok (.getfield 9, 3) := by decide +kernel
theorem dX6_shareBoat_73 : decode cX6_shareBoat 73 = .ok (.iload_n 2, 1) := by decide +kernel
theorem dX6_shareBoat_74 : decode cX6_shareBoat 74 = .ok (.dup2, 1) := by decide +kernel
theorem dX6_shareBoat_75 : decode cX6_shareBoat 75 = .ok (.iaload, 1) := by decide +kernel
theorem dX6_shareBoat_76 : decode cX6_shareBoat 76 = .ok (.iload_n 1, 1) := by decide +kernel
theorem dX6_shareBoat_77 : decode cX6_shareBoat 77 = .ok (.iload 7, 2) := by decide +kernel
theorem dX6_shareBoat_79 : decode cX6_shareBoat 79 = .ok (.iload 5, 2) := by decide +kernel
theorem dX6_shareBoat_81 : decode cX6_shareBoat 81 = .ok (.imul, 1) := by decide +kernel
theorem dX6_shareBoat_82 : decode cX6_shareBoat 82 = .ok (.isub, 1) := by decide +kernel
theorem dX6_shareBoat_83 : decode cX6_shareBoat 83 = .ok (.iadd, 1) := by decide +kernel
theorem dX6_shareBoat_84 : decode cX6_shareBoat 84 = .ok (.iastore, 1) := by decide +kernel
theorem dX6_shareBoat_85 : decode cX6_shareBoat 85 = .ok (.iload 7, 2) := by decide +kernel
theorem dX6_shareBoat_87 : decode cX6_shareBoat 87 = .ok (.ireturn, 1) := by decide +kernel
set_option maxRecDepth 20000 in
theorem ggX6_handOver_X3_handOver : GoodIn wsX6_handOver wsX3_handOver := goodIn_r _ [7, 8, 9, 10, 11, 16, 17, 18, 19, 20, 21, 22, 23, 24, 25, 26] (by decide +kernel) (by decide +kernel)
set_option maxRecDepth 20000 in
theorem gX6_handOver_X3_handOver : GoodIn wsX6_handOver (wsV RX6 35 RX3 yX3_handOver wsX3_handOver) := goodIn_app (goodIn_of _ (by decide +kernel)) ggX6_handOver_X3_handOver
theorem dX6_handOver_0 : decode cX6_handOver 0 = .ok (.aload_n 0, 1) := by decide +kernel
theorem dX6_handOver_1 : decode cX6_handOver 1 = .ok (.getfield 9, 3) := by decide +kernel
theorem dX6_handOver_4 : decode cX6_handOver 4 = .ok (.iload_n 2, 1) := by decide +kernel
theorem dX6_handOver_5 : decode cX6_handOver 5 = .ok (.dup2, 1) := by decide +kernel
theorem dX6_handOver_6 : decode cX6_handOver 6 = .ok (.iaload, 1) := by decide +kernel
theorem dX6_handOver_7 : decode cX6_handOver 7 = .ok (.aload_n 0, 1) := by decide +kernel
theorem dX6_handOver_8 : decode cX6_handOver 8 = .ok (.getfield 9, 3) := by decide +kernel
theorem dX6_handOver_11 : decode cX6_handOver 11 = .ok (.iload_n 1, 1) := by decide +kernel
theorem dX6_handOver_12 : decode cX6_handOver 12 = .ok (.iaload, 1) := by decide +kernel
