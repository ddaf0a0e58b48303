theorem dX6_handOver_13 : decode cX6_handOver 13 = .ok (.iadd, 1) := by decide +kernel
theorem dX6_handOver_14 : decode cX6_handOver 14 = .ok (.iastore, 1) := by decide +kernel
theorem dX6_handOver_15 : decode cX6_handOver 15 = .ok (.aload_n 0, 1) := by decide +kernel
theorem dX6_handOver_16 : decode cX6_handOver 16 = .ok (.getfield 9, 3) := by decide +kernel
theorem dX6_handOver_19 : decode cX6_handOver 19 = .ok (.iload_n 1, 1) := by decide +kernel
theorem dX6_handOver_20 : decode cX6_handOver 20 = .ok (.iconst 0, 1) := by decide +kernel
theorem dX6_handOver_21 : decode cX6_handOver 21 = .ok (.iastore, 1) := by decide +kernel
theorem dX6_handOver_22 : decode cX6_handOver 22 = .ok (.aload_n 0, 1) := by decide +kernel
theorem dX6_handOver_23 : decode cX6_handOver 23 = .ok (.getfield 18, 3) := by decide +kernel
theorem dX6_handOver_26 : decode cX6_handOver 26 = .ok (.iload_n 1, 1) := by decide +kernel
theorem dX6_handOver_27 : decode cX6_handOver 27 = .ok (.iload_n 2, 1) := by decide +kernel
theorem dX6_handOver_28 : decode cX6_handOver 28 = .ok (.invokevirtual 35, 3) := by decide +kernel
theorem dX6_handOver_31 : decode cX6_handOver 31 = .ok (.return_, 1) := by decide +kernel
theorem dX6_carryOut_0 : decode cX6_carryOut 0 = .ok (.iconst 0, 1) := by decide +kernel
theorem dX6_carryOut_1 : decode cX6_carryOut 1 = .ok (.istore_n 2, 1) := by decide +kernel
theorem dX6_carryOut_2 : decode cX6_carryOut 2 = .ok (.iload_n 2, 1) := by decide +kernel
theorem dX6_carryOut_3 : decode cX6_carryOut 3 = .ok (.aload_n 0, 1) := by decide +kernel
theorem dX6_carryOut_4 : decode cX6_carryOut 4 = .ok (.getfield 22, 3) := by decide +kernel
theorem dX6_carryOut_7 : decode cX6_carryOut 7 = .ok (.if_icmp .ge 21, 3) := by decide +kernel
theorem dX6_carryOut_10 : decode cX6_carryOut 10 = .ok (.aload_n 0, 1) := by decide +kernel
theorem dX6_carryOut_11 : decode cX6_carryOut 11 = .ok (.getfield 9, 3) := by decide +kernel
theorem dX6_carryOut_14 : decode cX6_carryOut 14 = .ok (.iload_n 2, 1) := by decide +kernel
theorem dX6_carryOut_15 : decode cX6_carryOut 15 = .ok (.aload_n 1, 1) := by decide +kernel
theorem dX6_carryOut_16 : decode cX6_carryOut 16 = .ok (.getfield 39, 3) := by decide +kernel
theorem dX6_carryOut_19 : decode cX6_carryOut 19 = .ok (.iload_n 2, 1) := by decide +kernel
theorem dX6_carryOut_20 : decode cX6_carryOut 20 = .ok (.iaload, 1) := by decide +kernel
theorem dX6_carryOut_21 : decode cX6_carryOut 21 = .ok (.iastore, 1) := by decide +kernel
theorem dX6_carryOut_22 : decode cX6_carryOut 22 = .ok (.iinc 2 1, 3) := by decide +kernel
theorem dX6_carryOut_25 : decode cX6_carryOut 25 = .ok (.goto (-23), 3) := by decide +kernel
theorem dX6_carryOut_28 : decode cX6_carryOut 28 = .ok (.iconst 0, 1) := by decide +kernel
theorem dX6_carryOut_29 : decode cX6_carryOut 29 = .ok (.istore_n 2, 1) := by decide +kernel
theorem dX6_carryOut_30 : decode cX6_carryOut 30 = .ok (.iload_n 2, 1) := by decide +kernel
theorem dX6_carryOut_31 : decode cX6_carryOut 31 = .ok (.aload_n 0, 1) := by decide +kernel
theorem dX6_carryOut_32 : decode cX6_carryOut 32 = .ok (.getfield 18, 3) := by decide +kernel
theorem dX6_carryOut_35 : decode cX6_carryOut 35 = .ok (.getfield 44, 3) := by decide +kernel
theorem dX6_carryOut_38 : decode cX6_carryOut 38 = .ok (.if_icmp .ge 27, 3) := by decide +kernel
theorem dX6_carryOut_41 : decode cX6_carryOut 41 = .ok (.aload_n 0, 1) := by decide +kernel
theorem dX6_carryOut_42 : decode cX6_carryOut 42 = .ok (.getfield 18, 3) := by decide +kernel
theorem dX6_carryOut_45 : decode cX6_carryOut 45 = .ok (.getfield 47, 3) := by decide +kernel
theorem dX6_carryOut_48 : decode cX6_carryOut 48 = .ok (.iload_n 2, 1) := by decide +kernel
theorem dX6_carryOut_49 : decode cX6_carryOut 49 = .ok (.dup2, 1) := by decide +kernel
theorem dX6_carryOut_50 : decode cX6_carryOut 50 = .ok (.iaload, 1) := by decide +kernel
theorem dX6_carryOut_51 : decode cX6_carryOut 51 = .ok (.aload_n 1, 1) := by decide +kernel
theorem dX6_carryOut_52 : decode cX6_carryOut 52 = .ok (.getfield 50, 3) := by decide +kernel
theorem dX6_carryOut_55 : decode cX6_carryOut 55 = .ok (.iload_n 2, 1) := by decide +kernel
theorem dX6_carryOut_56 : decode cX6_carryOut 56 = .ok (.iaload, 1) := by decide +kernel
theorem dX6_carryOut_57 : decode cX6_carryOut 57 = .ok (.isub, 1) := by decide +kernel
theorem dX6_carryOut_58 : decode cX6_carryOut 58 = .ok (.iastore, 1) := by decide +kernel
theorem dX6_carryOut_59 : decode cX6_carryOut 59 = .ok (.iinc 2 1, 3) := by decide +kernel
theorem dX6_carryOut_62 : decode cX6_carryOut 62 = .ok (.goto (-32), 3) := by decide +kernel
theorem dX6_carryOut_65 : decode cX6_carryOut 65 = .ok (.return_, 1) := by decide +kernel
theorem dX6_allPurses_0 : decode cX6_allPurses 0 = .ok (.iconst 0, 1) := by decide +kernel
theorem dX6_allPurses_1 : decode cX6_allPurses 1 = .ok (.istore_n 1, 1) := by decide +kernel
theorem dX6_allPurses_2 : decode cX6_allPurses 2 = .ok (.iconst 0, 1) := by decide +kernel
theorem dX6_allPurses_3 : decode cX6_allPurses 3 = .ok (.istore_n 2, 1) := by decide +kernel
theorem dX6_allPurses_4 : decode cX6_allPurses 4 = .ok (.iload_n 2, 1) := by decide +kernel
theorem dX6_allPurses_5 : decode cX6_allPurses 5 = .ok (.aload_n 0, 1) := by decide +kernel
theorem dX6_allPurses_6 : decode cX6_allPurses 6 = .ok (.getfield 22, 3) := by decide +kernel
theorem dX6_allPurses_9 : decode cX6_allPurses 9 = .ok (.if_icmp .ge 18, 3) := by decide +kernel
theorem dX6_allPurses_12 : decode cX6_allPurses 12 = .ok (.iload_n 1, 1) := by decide +kernel
theorem dX6_allPurses_13 : decode cX6_allPurses 13 = .ok (.aload_n 0, 1) := by decide +kernel
theorem dX6_allPurses_14 : decode cX6_allPurses 14 = .ok (.getfield 9, 3) := by decide +kernel
theorem dX6_allPurses_17 : decode cX6_allPurses 17 = .ok (.iload_n 2, 1) := by decide +kernel
theorem dX6_allPurses_18 : decode cX6_allPurses 18 = .ok (.iaload, 1) := by decide +kernel
theorem dX6_allPurses_19 : decode cX6_allPurses 19 = .ok (.iadd, 1) := by decide +kernel
theorem dX6_allPurses_20 : decode cX6_allPurses 20 = .ok (.istore_n 1, 1) := by decide +kernel
theorem dX6_allPurses_21 : decode cX6_allPurses 21 = .ok (.iinc 2 1, 3) := by decide +kernel
theorem dX6_allPurses_24 : decode cX6_allPurses 24 = .ok (.goto (-20), 3) := by decide +kernel
theorem dX6_allPurses_27 : decode cX6_allPurses 27 = .ok (.iload_n 1, 1) := by decide +kernel
theorem dX6_allPurses_28 : decode cX6_allPurses 28 = .ok (.ireturn, 1) := by decide +kernel
set_option maxRecDepth 20000 in
theorem ggX7_init_X6_init : GoodIn wsX7_init wsX6_init := goodIn_r _ [33, 34, 2, 3, 35, 36, 37, 38, 39, 40, 41, 42, 43, 44, 45, 46, 47, 48, 49, 50, 51, 52, 53, 54, 55, 56, 57, 111, 112, 113, 114, 154, 155, 156, 157, 158, 159, 160, 161, 162, 163, 164] (by decide +kernel) (by decide +kernel)
set_option maxRecDepth 20000 in
theorem gX7_init_X6_init_n9 : GoodIn wsX7_init (wsX6_init) := ggX7_init_X6_init
set_option maxRecDepth 20000 in
theorem ggX7_init_X5_init : GoodIn wsX7_init wsX5_init := goodIn_r _ [59, 60, 2, 3, 35, 61, 62, 125, 126] (by decide +kernel) (by decide +kernel)
set_option maxRecDepth 20000 in
theorem gX7_init_X5_init_n18 : GoodIn wsX7_init (wsX5_init) := ggX7_init_X5_init
set_option maxRecDepth 20000 in
theorem ggX7_init_X4_init : GoodIn wsX7_init wsX4_init := goodIn_r _ [64, 65, 2, 3, 35, 66, 67, 68, 69, 70, 71, 72, 127, 128, 129, 130, 131, 132, 133] (by decide +kernel) (by decide +kernel)
set_option maxRecDepth 20000 in
theorem gX7_init_X4_init_n25 : GoodIn wsX7_init (wsX4_init) := ggX7_init_X4_init
set_option maxRecDepth 20000 in
theorem ggX7_init_X0_init : GoodIn wsX7_init wsX0_init := goodIn_r _ [74, 75, 2, 3, 35, 76, 77, 78, 79, 80, 134, 135, 136, 137, 138] (by decide +kernel) (by decide +kernel)
set_option maxRecDepth 20000 in
theorem gX7_init_X0_init_n32 : GoodIn wsX7_init (wsX0_init) := ggX7_init_X0_init
set_option maxRecDepth 20000 in
theorem ggX7_init_X2_init : GoodIn wsX7_init wsX2_init := goodIn_r _ [83, 84, 2, 3, 35, 85, 86, 87, 88, 89, 22, 90, 91, 92, 93, 94, 95, 96, 97, 139, 140, 141, 142, 143] (by decide +kernel) (by decide +kernel)
set_option maxRecDepth 20000 in
theorem gX7_init_X2_init : GoodIn wsX7_init (wsX2_init) := ggX7_init_X2_init
set_option maxRecDepth 20000 in
theorem ggX7_init_X1_init : GoodIn wsX7_init wsX1_init := goodIn_r _ [99, 100, 2, 3, 35, 101, 102, 103, 104, 105, 106, 107, 108, 109, 110, 144, 145, 146, 147, 148, 149, 150, 151, 152, 153] (by decide +kernel) (by decide +kernel)
set_option maxRecDepth 20000 in
theorem gX7_init_X1_init_n46 : GoodIn wsX7_init (wsX1_init) := ggX7_init_X1_init
theorem dX7_init_0 : decode cX7_init 0 = .ok (.aload_n 0, 1) := by decide +kernel
theorem dX7_init_1 : decode cX7_init 1 = .ok (.invokespecial 1, 3) := by decide +kernel
theorem dX7_init_4 : decode cX7_init 4 = .ok (.aload_n 0, 1) := by decide +kernel
theorem dX7_init_5 : decode cX7_init 5 = .ok (.new 7, 3) := by decide +kernel
theorem dX7_init_8 : decode cX7_init 8 = .ok (.dup, 1) := by decide +kernel
theorem dX7_init_9 : decode cX7_init 9 = .ok (.invokespecial 9, 3) := by decide +kernel
theorem dX7_init_12 : decode cX7_init 12 = .ok (.putfield 10, 3) := by decide +kernel
theorem dX7_init_15 : decode cX7_init 15 = .ok (.aload_n 0, 1) := by decide +kernel
theorem dX7_init_16 : decode cX7_init 16 = .ok (.new 16, 3) := by decide +kernel
theorem dX7_init_19 : decode cX7_init 19 = .ok (.dup, 1) := by decide +kernel
theorem dX7_init_20 : decode cX7_init 20 = .ok (.invokespecial 18, 3) := by decide +kernel
theorem dX7_init_23 : decode cX7_init 23 = .ok (.putfield 19, 3) := by decide +kernel
theorem dX7_init_26 : decode cX7_init 26 = .ok (.aload_n 0, 1) := by decide +kernel
theorem dX7_init_27 : decode cX7_init 27 = .ok (.new 23, 3) := by decide +kernel
theorem dX7_init_30 : decode cX7_init 30 = .ok (.dup, 1) := by decide +kernel
theorem dX7_init_31 : decode cX7_init 31 = .ok (.invokespecial 25, 3) := by decide +kernel
theorem dX7_init_34 : decode cX7_init 34 = .ok (.putfield 26, 3) := by decide +kernel
theorem dX7_init_37 : decode cX7_init 37 = .ok (.aload_n 0, 1) := by decide +kernel
theorem dX7_init_38 : decode cX7_init 38 = .ok (.new 30, 3) := by decide +kernel
theorem dX7_init_41 : decode cX7_init 41 = .ok (.dup, 1) := by decide +kernel
theorem dX7_init_42 : decode cX7_init 42 = .ok (.invokespecial 32, 3) := by decide +kernel
theorem dX7_init_45 : decode cX7_init 45 = .ok (.putfield 33, 3) := by decide +kernel
theorem dX7_init_48 : decode cX7_init 48 = .ok (.aload_n 0, 1) := by decide +kernel
theorem dX7_init_49 : decode cX7_init 49 = .ok (.new 37, 3) := by decide +kernel
theorem dX7_init_52 : decode cX7_init 52 = .ok (.dup, 1) := by decide +kernel
theorem dX7_init_53 : decode cX7_init 53 = .ok (.invokespecial 39, 3) := by decide +kernel
theorem dX7_init_56 : decode cX7_init 56 = .ok (.putfield 40, 3) := by decide +kernel
theorem dX7_init_59 : decode cX7_init 59 = .ok (.aload_n 0, 1) := by decide +kernel
theorem dX7_init_60 : decode cX7_init 60 = .ok (.new 44, 3) := by decide +kernel
theorem dX7_init_63 : decode cX7_init 63 = .ok (.dup, 1) := by decide +kernel
theorem dX7_init_64 : decode cX7_init 64 = .ok (.invokespecial 46, 3) := by decide +kernel
theorem dX7_init_67 : decode cX7_init 67 = .ok (.putfield 47, 3) := by decide +kernel
theorem dX7_init_70 : decode cX7_init 70 = .ok (.aload_n 0, 1) := by decide +kernel
theorem dX7_init_71 : decode cX7_init 71 = .ok (.new 44, 3) := by decide +kernel
theorem dX7_init_74 : decode cX7_init 74 = .ok (.dup, 1) := by decide +kernel
theorem dX7_init_75 : decode cX7_init 75 = .ok (.invokespecial 46, 3) := by decide +kernel
theorem dX7_init_78 : decode cX7_init 78 = .ok (.putfield 51, 3) := by decide +kernel
theorem dX7_init_81 : decode cX7_init 81 = .ok (.aload_n 0, 1) := by decide +kernel
theorem dX7_init_82 : decode cX7_init 82 = .ok (.new 37, 3) := by decide +kernel
theorem dX7_init_85 : decode cX7_init 85 = .ok (.dup, 1) := by decide +kernel
theorem dX7_init_86 : decode cX7_init 86 = .ok (.invokespecial 39, 3) := by decide +kernel
theorem dX7_init_89 : decode cX7_init 89 = .ok (.putfield 54, 3) := by decide +kernel
theorem dX7_init_92 : decode cX7_init 92 = .ok (.aload_n 0, 1) := by decide +kernel
theorem dX7_init_93 : decode cX7_init 93 = .ok (.new 37, 3) := by decide +kernel
theorem dX7_init_96 : decode cX7_init 96 = .ok (.dup, 1) := by decide +kernel
theorem dX7_init_97 : decode cX7_init 97 = .ok (.invokespecial 39, 3) := by decide +kernel
theorem dX7_init_100 : decode cX7_init 100 = .ok (.putfield 57, 3) := by decide +kernel
theorem dX7_init_103 : decode cX7_init 103 = .ok (.aload_n 0, 1) := by decide +kernel
theorem dX7_init_104 : decode cX7_init 104 = .ok (.iconst 0, 1) := by decide +kernel
theorem dX7_init_105 : decode cX7_init 105 = .ok (.putfield 60, 3) := by decide +kernel
theorem dX7_init_108 : decode cX7_init 108 = .ok (.return_, 1) := by decide +kernel
set_option maxRecDepth 20000 in
theorem ggX7_feed_X5_append : GoodIn wsX7_feed wsX5_append := goodIn_r _ [6, 7, 8, 19, 20] (by decide +kernel) (by decide +kernel)
set_option maxRecDepth 20000 in
theorem gX7_feed_X5_append : GoodIn wsX7_feed (wsV RX7 68 RX5 yX5_append wsX5_append) := goodIn_app (goodIn_of _ (by decide +kernel)) ggX7_feed_X5_append
theorem dX7_feed_0 : decode cX7_feed 0 = .ok (.aload_n 0, 1) := by decide +kernel
theorem dX7_feed_1 : decode cX7_feed 1 = .ok (.getfield 19, 3) := by decide +kernel
theorem dX7_feed_4 : decode cX7_feed 4 = .ok (.getfield 64, 3) := by decide +kernel
theorem dX7_feed_7 : decode cX7_feed 7 = .ok (.bipush 20, 2) := by decide +kernel
theorem dX7_feed_9 : decode cX7_feed 9 = .ok (.iadd, 1) := by decide +kernel
theorem dX7_feed_10 : decode cX7_feed 10 = .ok (.sipush 300, 3) := by decide +kernel
theorem dX7_feed_13 : decode cX7_feed 13 = .ok (.if_icmp .le 5, 3) := by decide +kernel
theorem dX7_feed_16 : decode cX7_feed 16 = .ok (.iconst (-1), 1) := by decide +kernel
theorem dX7_feed_17 : decode cX7_feed 17 = .ok (.ireturn, 1) := by decide +kernel
theorem dX7_feed_18 : decode cX7_feed 18 = .ok (.aload_n 0, 1) := by decide +kernel
theorem dX7_feed_19 : decode cX7_feed 19 = .ok (.getfield 19, 3) := by decide +kernel
theorem dX7_feed_22 : decode cX7_feed 22 = .ok (.iload_n 1, 1) := by decide +kernel
theorem dX7_feed_23 : decode cX7_feed 23 = .ok (.invokevirtual 68, 3) := by decide +kernel
theorem dX7_feed_26 : decode cX7_feed 26 = .ok (.aload_n 0, 1) := by decide +kernel
theorem dX7_feed_27 : decode cX7_feed 27 = .ok (.getfield 19, 3) := by decide +kernel
theorem dX7_feed_30 : decode cX7_feed 30 = .ok (.iload_n 2, 1) := by decide +kernel
theorem dX7_feed_31 : decode cX7_feed 31 = .ok (.invokevirtual 68, 3) := by decide +kernel
theorem dX7_feed_34 : decode cX7_feed 34 = .ok (.aload_n 0, 1) := by decide +kernel
theorem dX7_feed_35 : decode cX7_feed 35 = .ok (.getfield 19, 3) := by decide +kernel
theorem dX7_feed_38 : decode cX7_feed 38 = .ok (.iload_n 3, 1) := by decide +kernel
theorem dX7_feed_39 : decode cX7_feed 39 = .ok (.invokevirtual 68, 3) := by decide +kernel
theorem dX7_feed_42 : decode cX7_feed 42 = .ok (.aload_n 0, 1) := by decide +kernel
theorem dX7_feed_43 : decode cX7_feed 43 = .ok (.getfield 19, 3) := by decide +kernel
theorem dX7_feed_46 : decode cX7_feed 46 = .ok (.iload 4, 2) := by decide +kernel
theorem dX7_feed_48 : decode cX7_feed 48 = .ok (.invokevirtual 68, 3) := by decide +kernel
theorem dX7_feed_51 : decode cX7_feed 51 = .ok (.aload_n 0, 1) := by decide +kernel
theorem dX7_feed_52 : decode cX7_feed 52 = .ok (.getfield 19, 3) := by decide +kernel
theorem dX7_feed_55 : decode cX7_feed 55 = .ok (.iload 5, 2) := by decide +kernel
theorem dX7_feed_57 : decode cX7_feed 57 = .ok (.invokevirtual 68, 3) := by decide +kernel
theorem dX7_feed_60 : decode cX7_feed 60 = .ok (.aload_n 0, 1) := by decide +kernel
theorem dX7_feed_61 : decode cX7_feed 61 = .ok (.getfield 19, 3) := by decide +kernel
theorem dX7_feed_64 : decode cX7_feed 64 = .ok (.getfield 64, 3) := by decide +kernel
theorem dX7_feed_67 : decode cX7_feed 67 = .ok (.ireturn, 1) := by decide +kernel
set_option maxRecDepth 20000 in
theorem ggX7_man_X6_settle : GoodIn wsX7_man wsX6_settle := goodIn_r _ [7, 8, 9, 20, 21, 22, 23] (by decide +kernel) (by decide +kernel)
set_option maxRecDepth 20000 in
theorem gX7_man_X6_settle : GoodIn wsX7_man (wsV RX7 73 RX6 yX6_settle wsX6_settle) := goodIn_app (goodIn_of _ (by decide +kernel)) ggX7_man_X6_settle
theorem dX7_man_0 : decode cX7_man 0 = .ok (.iload_n 1, 1) := by decide +kernel
theorem dX7_man_1 : decode cX7_man 1 = .ok (.ifCond .lt 9, 3) := by decide +kernel
theorem dX7_man_4 : decode cX7_man 4 = .ok (.iload_n 1, 1) := by decide +kernel
theorem dX7_man_5 : decode cX7_man 5 = .ok (.ldc 72, 2) := by decide +kernel
theorem dX7_man_7 : decode cX7_man 7 = .ok (.if_icmp .le 5, 3) := by decide +kernel
theorem dX7_man_10 : decode cX7_man 10 = .ok (.iconst (-1), 1) := by decide +kernel
theorem dX7_man_11 : decode cX7_man 11 = .ok (.ireturn, 1) := by decide +kernel
theorem dX7_man_12 : decode cX7_man 12 = .ok (.aload_n 0, 1) := by decide +kernel
theorem dX7_man_13 : decode cX7_man 13 = .ok (.getfield 10, 3) := by decide +kernel
theorem dX7_man_16 : decode cX7_man 16 = .ok (.iload_n 1, 1) := by decide +kernel
theorem dX7_man_17 : decode cX7_man 17 = .ok (.invokevirtual 73, 3) := by decide +kernel
theorem dX7_man_20 : decode cX7_man 20 = .ok (.ireturn, 1) := by decide +kernel
set_option maxRecDepth 20000 in
theorem ggX7_paper_X6_hasMan : GoodIn wsX7_paper wsX6_hasMan := goodIn_r _ [6, 7, 38, 39, 40, 41] (by decide +kernel) (by decide +kernel)
set_option maxRecDepth 20000 in
theorem gX7_paper_X6_hasMan : GoodIn wsX7_paper (wsV RX7 77 RX6 yX6_hasMan wsX6_hasMan) := goodIn_app (goodIn_of _ (by decide +kernel)) ggX7_paper_X6_hasMan
set_option maxRecDepth 20000 in
theorem ggX7_paper_X3_write : GoodIn wsX7_paper wsX3_write := goodIn_r _ [12, 13, 14, 15, 16, 17, 18, 19, 20, 21, 22, 23, 24, 25, 26, 11, 27, 42, 43, 44, 45, 46, 47, 48, 49, 50, 51, 52] (by decide +kernel) (by decide +kernel)
set_option maxRecDepth 20000 in
theorem gX7_paper_X3_write : GoodIn wsX7_paper (wsV RX7 88 RX3 yX3_write wsX3_write) := goodIn_app (goodIn_of _ (by decide +kernel)) ggX7_paper_X3_write
theorem dX7_paper_0 : decode cX7_paper 0 = .ok (.aload_n 0, 1) := by decide +kernel
theorem dX7_paper_1 : decode cX7_paper 1 = .ok (.getfield 10, 3) := by decide +kernel
theorem dX7_paper_4 : decode cX7_paper 4 = .ok (.iload_n 1, 1) := by decide +kernel
theorem dX7_paper_5 : decode cX7_paper 5 = .ok (.invokevirtual 77, 3) := by decide +kernel
theorem dX7_paper_8 : decode cX7_paper 8 = .ok (.ifCond .eq 19, 3) := by decide +kernel
theorem dX7_paper_11 : decode cX7_paper 11 = .ok (.aload_n 0, 1) := by decide +kernel
theorem dX7_paper_12 : decode cX7_paper 12 = .ok (.getfield 10, 3) := by decide +kernel
theorem dX7_paper_15 : decode cX7_paper 15 = .ok (.iload_n 2, 1) := by decide +kernel
theorem dX7_paper_16 : decode cX7_paper 16 = .ok (.invokevirtual 77, 3) := by decide +kernel
theorem dX7_paper_19 : decode cX7_paper 19 = .ok (.ifCond .eq 8, 3) := by decide +kernel
theorem dX7_paper_22 : decode cX7_paper 22 = .ok (.iload_n 1, 1) := by decide +kernel
theorem dX7_paper_23 : decode cX7_paper 23 = .ok (.iload_n 2, 1) := by decide +kernel
theorem dX7_paper_24 : decode cX7_paper 24 = .ok (.if_icmp .ne 5, 3) := by decide +kernel
theorem dX7_paper_27 : decode cX7_paper 27 = .ok (.iconst (-1), 1) := by decide +kernel
theorem dX7_paper_28 : decode cX7_paper 28 = .ok (.ireturn, 1) := by decide +kernel
theorem dX7_paper_29 : decode cX7_paper 29 = .ok (.iload_n 3, 1) := by decide +kernel
theorem dX7_paper_30 : decode cX7_paper 30 = .ok (.iconst 1, 1) := by decide +kernel
theorem dX7_paper_31 : decode cX7_paper 31 = .ok (.if_icmp .lt 21, 3) := by decide +kernel
theorem dX7_paper_34 : decode cX7_paper 34 = .ok (.iload_n 3, 1) := by decide +kernel
theorem dX7_paper_35 : decode cX7_paper 35 = .ok (.sipush 999, 3) := by decide +kernel
theorem dX7_paper_38 : decode cX7_paper 38 = .ok (.if_icmp .gt 14, 3) := by decide +kernel
theorem dX7_paper_41 : decode cX7_paper 41 = .ok (.iload 4, 2) := by decide +kernel
theorem dX7_paper_43 : decode cX7_paper 43 = .ok (.ifCond .lt 9, 3) := by decide +kernel
theorem dX7_paper_46 : decode cX7_paper 46 = .ok (.iload 4, 2) := by decide +kernel
theorem dX7_paper_48 : decode cX7_paper 48 = .ok (.iconst 4, 1) := by decide +kernel
theorem dX7_paper_49 : decode cX7_paper 49 = .ok (.if_icmp .lt 5, 3) := by decide +kernel
theorem dX7_paper_52 : decode cX7_paper 52 = .ok (.iconst (-1), 1) := by decide +kernel
theorem dX7_paper_53 : decode cX7_paper 53 = .ok (.ireturn, 1) := by decide +kernel
theorem dX7_paper_54 : decode cX7_paper 54 = .ok (.aload_n 0, 1) := by decide +kernel
theorem dX7_paper_55 : decode cX7_paper 55 = .ok (.getfield 10, 3) := by decide +kernel
theorem dX7_paper_58 : decode cX7_paper 58 = .ok (.getfield 81, 3) := by decide +kernel
theorem dX7_paper_61 : decode cX7_paper 61 = .ok (.iload_n 1, 1) := by decide +kernel
theorem dX7_paper_62 : decode cX7_paper 62 = .ok (.iload_n 2, 1) := by decide +kernel
theorem dX7_paper_63 : decode cX7_paper 63 = .ok (.iload_n 3, 1) := by decide +kernel
theorem dX7_paper_64 : decode cX7_paper 64 = .ok (.iload 4, 2) := by decide +kernel
theorem dX7_paper_66 : decode cX7_paper 66 = .ok (.aload_n 0, 1) := by decide +kernel
theorem dX7_paper_67 : decode cX7_paper 67 = .ok (.getfield 10, 3) := by decide +kernel
theorem dX7_paper_70 : decode cX7_paper 70 = .ok (.getfield 85, 3) := by decide +kernel
theorem dX7_paper_73 : decode cX7_paper 73 = .ok (.invokevirtual 88, 3) := by decide +kernel
theorem dX7_paper_76 : decode cX7_paper 76 = .ok (.ireturn, 1) := by decide +kernel
set_option maxRecDepth 20000 in
theorem ggX7_look_X3_holds : GoodIn wsX7_look wsX3_holds := goodIn_r _ [10, 11, 37, 38, 39, 40, 41, 42, 43, 44, 45, 46, 47] (by decide +kernel) (by decide +kernel)
set_option maxRecDepth 20000 in
theorem gX7_look_X3_holds : GoodIn wsX7_look (wsV RX7 94 RX3 yX3_holds wsX3_holds) := goodIn_app (goodIn_of _ (by decide +kernel)) ggX7_look_X3_holds
set_option maxRecDepth 20000 in
theorem ggX7_look_X3_tell : GoodIn wsX7_look wsX3_tell := goodIn_r _ [15, 16, 17, 18, 19, 20, 21, 22, 37, 38, 39, 40, 41, 42, 43, 44, 45, 46, 47] (by decide +kernel) (by decide +kernel)
set_option maxRecDepth 20000 in
theorem gX7_look_X3_tell : GoodIn wsX7_look (wsV RX7 109 RX3 yX3_tell wsX3_tell) := goodIn_app (goodIn_of _ (by decide +kernel)) ggX7_look_X3_tell
theorem dX7_look_0 : decode cX7_look 0 = .ok (.aload_n 0, 1) := by decide +kernel
theorem dX7_look_1 : decode cX7_look 1 = .ok (.getfield 10, 3) := by decide +kernel
theorem dX7_look_4 : decode cX7_look 4 = .ok (.getfield 81, 3) := by decide +kernel
theorem dX7_look_7 : decode cX7_look 7 = .ok (.iload_n 1, 1) := by decide +kernel
theorem dX7_look_8 : decode cX7_look 8 = .ok (.invokevirtual 94, 3) := by decide +kernel
theorem dX7_look_11 : decode cX7_look 11 = .ok (.ifCond .ne 13, 3) := by decide +kernel
theorem dX7_look_14 : decode cX7_look 14 = .ok (.new 97, 3) := by decide +kernel
theorem dX7_look_17 : decode cX7_look 17 = .ok (.dup, 1) := by decide +kernel
theorem dX7_look_18 : decode cX7_look 18 = .ok (.ldc 99, 2) := by decide +kernel
theorem dX7_look_20 : decode cX7_look 20 = .ok (.invokespecial 101, 3) := by decide +kernel
theorem dX7_look_23 : decode cX7_look 23 = .ok (.athrow, 1) := by decide +kernel
theorem dX7_look_24 : decode cX7_look 24 = .ok (.iload_n 2, 1) := by decide +kernel
theorem dX7_look_25 : decode cX7_look 25 = .ok (.ifCond .lt 9, 3) := by decide +kernel
theorem dX7_look_28 : decode cX7_look 28 = .ok (.iload_n 2, 1) := by decide +kernel
theorem dX7_look_29 : decode cX7_look 29 = .ok (.bipush 6, 2) := by decide +kernel
theorem dX7_look_31 : decode cX7_look 31 = .ok (.if_icmp .le 13, 3) := by decide +kernel
theorem dX7_look_34 : decode cX7_look 34 = .ok (.new 104, 3) := by decide +kernel
theorem dX7_look_37 : decode cX7_look 37 = .ok (.dup, 1) := by decide +kernel
theorem dX7_look_38 : decode cX7_look 38 = .ok (.ldc 106, 2) := by decide +kernel
theorem dX7_look_40 : decode cX7_look 40 = .ok (.invokespecial 108, 3) := by decide +kernel
theorem dX7_look_43 : decode cX7_look 43 = .ok (.athrow, 1) := by decide +kernel
theorem dX7_look_44 : decode cX7_look 44 = .ok (.aload_n 0, 1) := by decide +kernel
theorem dX7_look_45 : decode cX7_look 45 = .ok (.getfield 10, 3) := by decide +kernel
theorem dX7_look_48 : decode cX7_look 48 = .ok (.getfield 81, 3) := by decide +kernel
theorem dX7_look_51 : decode cX7_look 51 = .ok (.iload_n 1, 1) := by decide +kernel
theorem dX7_look_52 : decode cX7_look 52 = .ok (.iload_n 2, 1) := by decide +kernel
theorem dX7_look_53 : decode cX7_look 53 = .ok (.invokevirtual 109, 3) := by decide +kernel
theorem dX7_look_56 : decode cX7_look 56 = .ok (.ireturn, 1) := by decide +kernel
theorem dX7_pass_0 : decode cX7_pass 0 = .ok (.iload_n 1, 1) := by decide +kernel
theorem dX7_pass_1 : decode cX7_pass 1 = .ok (.ifCond .lt 18, 3) := by decide +kernel
theorem dX7_pass_4 : decode cX7_pass 4 = .ok (.iload_n 1, 1) := by decide +kernel
theorem dX7_pass_5 : decode cX7_pass 5 = .ok (.sipush 999, 3) := by decide +kernel
theorem dX7_pass_8 : decode cX7_pass 8 = .ok (.aload_n 0, 1) := by decide +kernel
theorem dX7_pass_9 : decode cX7_pass 9 = .ok (.getfield 10, 3) := by decide +kernel
theorem dX7_pass_12 : decode cX7_pass 12 = .ok (.getfield 85, 3) := by decide +kernel
theorem dX7_pass_15 : decode cX7_pass 15 = .ok (.isub, 1) := by decide +kernel
theorem dX7_pass_16 : decode cX7_pass 16 = .ok (.if_icmp .le 5, 3) := by decide +kernel
theorem dX7_pass_19 : decode cX7_pass 19 = .ok (.iconst (-1), 1) := by decide +kernel
theorem dX7_pass_20 : decode cX7_pass 20 = .ok (.ireturn, 1) := by decide +kernel
theorem dX7_pass_21 : decode cX7_pass 21 = .ok (.aload_n 0, 1) := by decide +kernel
theorem dX7_pass_22 : decode cX7_pass 22 = .ok (.getfield 10, 3) := by decide +kernel
theorem dX7_pass_25 : decode cX7_pass 25 = .ok (.dup, 1) := by decide +kernel
theorem dX7_pass_26 : decode cX7_pass 26 = .ok (.getfield 85, 3) := by decide +kernel
theorem dX7_pass_29 : decode cX7_pass 29 = .ok (.iload_n 1, 1) := by decide +kernel
theorem dX7_pass_30 : decode cX7_pass 30 = .ok (.iadd, 1) := by decide +kernel
theorem dX7_pass_31 : decode cX7_pass 31 = .ok (.putfield 85, 3) := by decide +kernel
theorem dX7_pass_34 : decode cX7_pass 34 = .ok (.aload_n 0, 1) := by decide +kernel
theorem dX7_pass_35 : decode cX7_pass 35 = .ok (.getfield 10, 3) := by decide +kernel
theorem dX7_pass_38 : decode cX7_pass 38 = .ok (.getfield 85, 3) := by decide +kernel
theorem dX7_pass_41 : decode cX7_pass 41 = .ok (.ireturn, 1) := by decide +kernel
set_option maxRecDepth 20000 in
theorem ggX7_purse_X6_hasMan : GoodIn wsX7_purse wsX6_hasMan := goodIn_r _ [6, 7, 18, 19, 20, 21] (by decide +kernel) (by decide +kernel)
set_option maxRecDepth 20000 in
theorem gX7_purse_X6_hasMan : GoodIn wsX7_purse (wsV RX7 77 RX6 yX6_hasMan wsX6_hasMan) := goodIn_app (goodIn_of _ (by decide +kernel)) ggX7_purse_X6_hasMan
theorem dX7_purse_0 : decode cX7_purse 0 = .ok (.aload_n 0, 1) := by decide +kernel
theorem dX7_purse_1 : decode cX7_purse 1 = .ok (.getfield 10, 3) := by decide +kernel
theorem dX7_purse_4 : decode cX7_purse 4 = .ok (.iload_n 1, 1) := by decide +kernel
theorem dX7_purse_5 : decode cX7_purse 5 = .ok (.invokevirtual 77, 3) := by decide +kernel
theorem dX7_purse_8 : decode cX7_purse 8 = .ok (.ifCond .eq 15, 3) := by decide +kernel
theorem dX7_purse_11 : decode cX7_purse 11 = .ok (.aload_n 0, 1) := by decide +kernel
theorem dX7_purse_12 : decode cX7_purse 12 = .ok (.getfield 10, 3) := by decide +kernel
theorem dX7_purse_15 : decode cX7_purse 15 = .ok (.getfield 113, 3) := by decide +kernel
theorem dX7_purse_18 : decode cX7_purse 18 = .ok (.iload_n 1, 1) := by decide +kernel
theorem dX7_purse_19 : decode cX7_purse 19 = .ok (.iaload, 1) := by decide +kernel
theorem dX7_purse_20 : decode cX7_purse 20 = .ok (.goto 4, 3) := by decide +kernel
theorem dX7_purse_23 : decode cX7_purse 23 = .ok (.iconst (-1), 1) := by decide +kernel
theorem dX7_purse_24 : decode cX7_purse 24 = .ok (.ireturn, 1) := by decide +kernel
set_option maxRecDepth 20000 in
theorem ggX7_net_X6_hasMan : GoodIn wsX7_net wsX6_hasMan := goodIn_r _ [7, 8, 28, 29, 30, 31] (by decide +kernel) (by decide +kernel)
set_option maxRecDepth 20000 in
theorem gX7_net_X6_hasMan : GoodIn wsX7_net (wsV RX7 77 RX6 yX6_hasMan wsX6_hasMan) := goodIn_app (goodIn_of _ (by decide +kernel)) ggX7_net_X6_hasMan
set_option maxRecDepth 20000 in
theorem ggX7_net_X3_netOf : GoodIn wsX7_net wsX3_netOf := goodIn_r _ [13, 14, 15, 16, 17, 32, 33, 34, 35, 36, 37, 38, 39, 40, 41, 42] (by decide +kernel) (by decide +kernel)
set_option maxRecDepth 20000 in
theorem gX7_net_X3_netOf : GoodIn wsX7_net (wsV RX7 117 RX3 yX3_netOf wsX3_netOf) := goodIn_app (goodIn_of _ (by decide +kernel)) ggX7_net_X3_netOf
theorem dX7_net_0 : decode cX7_net 0 = .ok (.aload_n 0, 1) := by decide +kernel
theorem dX7_net_1 : decode cX7_net 1 = .ok (.getfield 10, 3) := by decide +kernel
theorem dX7_net_4 : decode cX7_net 4 = .ok (.iload_n 1, 1) := by decide +kernel
theorem dX7_net_5 : decode cX7_net 5 = .ok (.invokevirtual 77, 3) := by decide +kernel
theorem dX7_net_8 : decode cX7_net 8 = .ok (.ifCond .eq 17, 3) := by decide +kernel
theorem dX7_net_11 : decode cX7_net 11 = .ok (.aload_n 0, 1) := by decide +kernel
theorem dX7_net_12 : decode cX7_net 12 = .ok (.getfield 10, 3) := by decide +kernel
theorem dX7_net_15 : decode cX7_net 15 = .ok (.getfield 81, 3) := by decide +kernel
theorem dX7_net_18 : decode cX7_net 18 = .ok (.iload_n 1, 1) := by decide +kernel
theorem dX7_net_19 : decode cX7_net 19 = .ok (.invokevirtual 117, 3) := by decide +kernel
theorem dX7_net_22 : decode cX7_net 22 = .ok (.goto 5, 3) := by decide +kernel
theorem dX7_net_25 : decode cX7_net 25 = .ok (.ldc 122, 2) := by decide +kernel
theorem dX7_net_27 : decode cX7_net 27 = .ok (.ireturn, 1) := by decide +kernel
set_option maxRecDepth 20000 in
theorem ggX7_thread_X0_workOut : GoodIn wsX7_thread wsX0_workOut := goodIn_r _ [7, 8, 9, 10, 11, 12, 13, 14, 15, 16, 17, 18, 19, 20, 21, 6, 22, 23, 24, 25, 26, 27, 28, 29, 44, 45, 46, 47, 48, 49, 50, 51, 52, 53, 54, 55, 56, 57, 58, 59, 60, 61, 62, 63] (by decide +kernel) (by decide +kernel)
set_option maxRecDepth 20000 in
theorem gX7_thread_X0_workOut : GoodIn wsX7_thread (wsV RX7 123 RX0 yX0_workOut wsX0_workOut) := goodIn_app (goodIn_of _ (by decide +kernel)) ggX7_thread_X0_workOut
set_option maxRecDepth 20000 in
theorem ggX7_thread_X0_coinsMoved : GoodIn wsX7_thread wsX0_coinsMoved := goodIn_r _ [33, 8, 29, 44, 45, 46, 47, 48] (by decide +kernel) (by decide +kernel)
set_option maxRecDepth 20000 in
theorem gX7_thread_X0_coinsMoved : GoodIn wsX7_thread (wsV RX7 127 RX0 yX0_coinsMoved wsX0_coinsMoved) := goodIn_app (goodIn_of _ (by decide +kernel)) ggX7_thread_X0_coinsMoved
theorem dX7_thread_0 : decode cX7_thread 0 = .ok (.aload_n 0, 1) := by decide +kernel
theorem dX7_thread_1 : decode cX7_thread 1 = .ok (.getfield 33, 3) := by decide +kernel
theorem dX7_thread_4 : decode cX7_thread 4 = .ok (.aload_n 0, 1) := by decide +kernel
theorem dX7_thread_5 : decode cX7_thread 5 = .ok (.getfield 10, 3) := by decide +kernel
theorem dX7_thread_8 : decode cX7_thread 8 = .ok (.invokevirtual 123, 3) := by decide +kernel
theorem dX7_thread_11 : decode cX7_thread 11 = .ok (.aload_n 0, 1) := by decide +kernel
theorem dX7_thread_12 : decode cX7_thread 12 = .ok (.getfield 33, 3) := by decide +kernel
theorem dX7_thread_15 : decode cX7_thread 15 = .ok (.invokevirtual 127, 3) := by decide +kernel
theorem dX7_thread_18 : decode cX7_thread 18 = .ok (.ireturn, 1) := by decide +kernel
set_option maxRecDepth 20000 in
theorem ggX7_move_X0_workOut : GoodIn wsX7_move wsX0_workOut := goodIn_r _ [7, 8, 9, 10, 11, 12, 13, 14, 15, 16, 17, 18, 19, 20, 21, 6, 22, 23, 24, 25, 26, 27, 28, 29, 44, 45, 46, 47, 48, 49, 50, 51, 52, 53, 54, 55, 56, 57, 58, 59, 60, 61, 62, 63] (by decide +kernel) (by decide +kernel)
set_option maxRecDepth 20000 in
theorem gX7_move_X0_workOut : GoodIn wsX7_move (wsV RX7 123 RX0 yX0_workOut wsX0_workOut) := goodIn_app (goodIn_of _ (by decide +kernel)) ggX7_move_X0_workOut
set_option maxRecDepth 20000 in
theorem ggX7_move_X0_tell : GoodIn wsX7_move wsX0_tell := goodIn_r _ [33, 8, 27, 28, 29, 44, 45, 46, 47, 48] (by decide +kernel) (by decide +kernel)
set_option maxRecDepth 20000 in
theorem gX7_move_X0_tell : GoodIn wsX7_move (wsV RX7 131 RX0 yX0_tell wsX0_tell) := goodIn_app (goodIn_of _ (by decide +kernel)) ggX7_move_X0_tell
theorem dX7_move_0 : decode cX7_move 0 = .ok (.aload_n 0, 1) := by decide +kernel
theorem dX7_move_1 : decode cX7_move 1 = .ok (.getfield 33, 3) := by decide +kernel
theorem dX7_move_4 : decode cX7_move 4 = .ok (.aload_n 0, 1) := by decide +kernel
theorem dX7_move_5 : decode cX7_move 5 = .ok (.getfield 10, 3) := by decide +kernel
theorem dX7_move_8 : decode cX7_move 8 = .ok (.invokevirtual 123, 3) := by decide +kernel
theorem dX7_move_11 : decode cX7_move 11 = .ok (.aload_n 0, 1) := by decide +kernel
theorem dX7_move_12 : decode cX7_move 12 = .ok (.getfield 33, 3) := by decide +kernel
theorem dX7_move_15 : decode cX7_move 15 = .ok (.iload_n 1, 1) := by decide +kernel
theorem dX7_move_16 : decode cX7_move 16 = .ok (.iload_n 2, 1) := by decide +kernel
theorem dX7_move_17 : decode cX7_move 17 = .ok (.invokevirtual 131, 3) := by decide +kernel
theorem dX7_move_20 : decode cX7_move 20 = .ok (.ireturn, 1) := by decide +kernel
set_option maxRecDepth 20000 in
theorem ggX7_boat_X6_hasMan : GoodIn wsX7_boat wsX6_hasMan := goodIn_r _ [6, 7, 34, 35, 36, 37] (by decide +kernel) (by decide +kernel)
set_option maxRecDepth 20000 in
theorem gX7_boat_X6_hasMan : GoodIn wsX7_boat (wsV RX7 77 RX6 yX6_hasMan wsX6_hasMan) := goodIn_app (goodIn_of _ (by decide +kernel)) ggX7_boat_X6_hasMan
set_option maxRecDepth 20000 in
theorem ggX7_boat_X6_isCrew : GoodIn wsX7_boat wsX6_isCrew := goodIn_r _ [11, 7, 34, 35, 36, 37] (by decide +kernel) (by decide +kernel)
set_option maxRecDepth 20000 in
theorem gX7_boat_X6_isCrew : GoodIn wsX7_boat (wsV RX7 132 RX6 yX6_isCrew wsX6_isCrew) := goodIn_app (goodIn_of _ (by decide +kernel)) ggX7_boat_X6_isCrew
set_option maxRecDepth 20000 in
theorem ggX7_boat_X6_shareBoat : GoodIn wsX7_boat wsX6_shareBoat := goodIn_r _ [15, 7, 16, 17, 18, 19, 20, 21, 22, 23, 34, 35, 36, 37] (by decide +kernel) (by decide +kernel)
set_option maxRecDepth 20000 in
theorem gX7_boat_X6_shareBoat : GoodIn wsX7_boat (wsV RX7 136 RX6 yX6_shareBoat wsX6_shareBoat) := goodIn_app (goodIn_of _ (by decide +kernel)) ggX7_boat_X6_shareBoat
theorem dX7_boat_0 : decode cX7_boat 0 = .ok (.iload_n 1, 1) := by decide +kernel
theorem dX7_boat_1 : decode cX7_boat 1 = .ok (.ifCond .lt 21, 3) := by decide +kernel
theorem dX7_boat_4 : decode cX7_boat 4 = .ok (.iload_n 1, 1) := by decide +kernel
theorem dX7_boat_5 : decode cX7_boat 5 = .ok (.sipush 9999, 3) := by decide +kernel
theorem dX7_boat_8 : decode cX7_boat 8 = .ok (.if_icmp .gt 14, 3) := by decide +kernel
theorem dX7_boat_11 : decode cX7_boat 11 = .ok (.iload_n 3, 1) := by decide +kernel
theorem dX7_boat_12 : decode cX7_boat 12 = .ok (.iconst 1, 1) := by decide +kernel
theorem dX7_boat_13 : decode cX7_boat 13 = .ok (.if_icmp .lt 9, 3) := by decide +kernel
theorem dX7_boat_16 : decode cX7_boat 16 = .ok (.iload_n 3, 1) := by decide +kernel
theorem dX7_boat_17 : decode cX7_boat 17 = .ok (.bipush 9, 2) := by decide +kernel
theorem dX7_boat_19 : decode cX7_boat 19 = .ok (.if_icmp .le 5, 3) := by decide +kernel
theorem dX7_boat_22 : decode cX7_boat 22 = .ok (.iconst (-1), 1) := by decide +kernel
theorem dX7_boat_23 : decode cX7_boat 23 = .ok (.ireturn, 1) := by decide +kernel
theorem dX7_boat_24 : decode cX7_boat 24 = .ok (.aload_n 0, 1) := by decide +kernel
theorem dX7_boat_25 : decode cX7_boat 25 = .ok (.getfield 10, 3) := by decide +kernel
theorem dX7_boat_28 : decode cX7_boat 28 = .ok (.iload_n 2, 1) := by decide +kernel
theorem dX7_boat_29 : decode cX7_boat 29 = .ok (.invokevirtual 77, 3) := by decide +kernel
theorem dX7_boat_32 : decode cX7_boat 32 = .ok (.ifCond .eq 16, 3) := by decide +kernel
theorem dX7_boat_35 : decode cX7_boat 35 = .ok (.aload_n 0, 1) := by decide +kernel
theorem dX7_boat_36 : decode cX7_boat 36 = .ok (.getfield 10, 3) := by decide +kernel
theorem dX7_boat_39 : decode cX7_boat 39 = .ok (.iload 4, 2) := by decide +kernel
theorem dX7_boat_41 : decode cX7_boat 41 = .ok (.iload_n 2, 1) := by decide +kernel
theorem dX7_boat_42 : decode cX7_boat 42 = .ok (.invokevirtual 132, 3) := by decide +kernel
theorem dX7_boat_45 : decode cX7_boat 45 = .ok (.ifCond .ne 5, 3) := by decide +kernel
theorem dX7_boat_48 : decode cX7_boat 48 = .ok (.iconst (-1), 1) := by decide +kernel
theorem dX7_boat_49 : decode cX7_boat 49 = .ok (.ireturn, 1) := by decide +kernel
theorem dX7_boat_50 : decode cX7_boat 50 = .ok (.aload_n 0, 1) := by decide +kernel
theorem dX7_boat_51 : decode cX7_boat 51 = .ok (.getfield 10, 3) := by decide +kernel
theorem dX7_boat_54 : decode cX7_boat 54 = .ok (.iload_n 1, 1) := by decide +kernel
theorem dX7_boat_55 : decode cX7_boat 55 = .ok (.iload_n 2, 1) := by decide +kernel
theorem dX7_boat_56 : decode cX7_boat 56 = .ok (.iload_n 3, 1) := by decide +kernel
theorem dX7_boat_57 : decode cX7_boat 57 = .ok (.iload 4, 2) := by decide +kernel
theorem dX7_boat_59 : decode cX7_boat 59 = .ok (.invokevirtual 136, 3) := by decide +kernel
theorem dX7_boat_62 : decode cX7_boat 62 = .ok (.ireturn, 1) := by decide +kernel
set_option maxRecDepth 20000 in
theorem ggX7_heir_X6_hasMan : GoodIn wsX7_heir wsX6_hasMan := goodIn_r _ [6, 7, 33, 34, 35, 36] (by decide +kernel) (by decide +kernel)
set_option maxRecDepth 20000 in
theorem gX7_heir_X6_hasMan : GoodIn wsX7_heir (wsV RX7 77 RX6 yX6_hasMan wsX6_hasMan) := goodIn_app (goodIn_of _ (by decide +kernel)) ggX7_heir_X6_hasMan
set_option maxRecDepth 20000 in
theorem ggX7_heir_X6_handOver : GoodIn wsX7_heir wsX6_handOver := goodIn_r _ [11, 12, 13, 14, 15, 16, 17, 18, 19, 20, 21, 22, 33, 34, 35, 36, 37, 38, 39, 40, 41, 42, 43, 44, 45, 46, 47] (by decide +kernel) (by decide +kernel)
set_option maxRecDepth 20000 in
theorem gX7_heir_X6_handOver : GoodIn wsX7_heir (wsV RX7 140 RX6 yX6_handOver wsX6_handOver) := goodIn_app (goodIn_of _ (by decide +kernel)) ggX7_heir_X6_handOver
theorem dX7_heir_0 : decode cX7_heir 0 = .ok (.aload_n 0, 1) := by decide +kernel
theorem dX7_heir_1 : decode cX7_heir 1 = .ok (.getfield 10, 3) := by decide +kernel
theorem dX7_heir_4 : decode cX7_heir 4 = .ok (.iload_n 1, 1) := by decide +kernel
theorem dX7_heir_5 : decode cX7_heir 5 = .ok (.invokevirtual 77, 3) := by decide +kernel
theorem dX7_heir_8 : decode cX7_heir 8 = .ok (.ifCond .eq 19, 3) := by decide +kernel
theorem dX7_heir_11 : decode cX7_heir 11 = .ok (.aload_n 0, 1) := by decide +kernel
theorem dX7_heir_12 : decode cX7_heir 12 = .ok (.getfield 10, 3) := by decide +kernel
theorem dX7_heir_15 : decode cX7_heir 15 = .ok (.iload_n 2, 1) := by decide +kernel
theorem dX7_heir_16 : decode cX7_heir 16 = .ok (.invokevirtual 77, 3) := by decide +kernel
theorem dX7_heir_19 : decode cX7_heir 19 = .ok (.ifCond .eq 8, 3) := by decide +kernel
theorem dX7_heir_22 : decode cX7_heir 22 = .ok (.iload_n 1, 1) := by decide +kernel
theorem dX7_heir_23 : decode cX7_heir 23 = .ok (.iload_n 2, 1) := by decide +kernel
theorem dX7_heir_24 : decode cX7_heir 24 = .ok (.if_icmp .ne 5, 3) := by decide +kernel
theorem dX7_heir_27 : decode cX7_heir 27 = .ok (.iconst 0, 1) := by decide +kernel
theorem dX7_heir_28 : decode cX7_heir 28 = .ok (.ireturn, 1) := by decide +kernel
theorem dX7_heir_29 : decode cX7_heir 29 = .ok (.aload_n 0, 1) := by decide +kernel
theorem dX7_heir_30 : decode cX7_heir 30 = .ok (.getfield 10, 3) := by decide +kernel
theorem dX7_heir_33 : decode cX7_heir 33 = .ok (.iload_n 1, 1) := by decide +kernel
theorem dX7_heir_34 : decode cX7_heir 34 = .ok (.iload_n 2, 1) := by decide +kernel
theorem dX7_heir_35 : decode cX7_heir 35 = .ok (.invokevirtual 140, 3) := by decide +kernel
theorem dX7_heir_38 : decode cX7_heir 38 = .ok (.iconst 1, 1) := by decide +kernel
theorem dX7_heir_39 : decode cX7_heir 39 = .ok (.ireturn, 1) := by decide +kernel
set_option maxRecDepth 20000 in
theorem ggX7_decree_X4_read : GoodIn wsX7_decree wsX4_read := goodIn_r _ [10, 11, 12, 13, 14, 15, 16, 17, 18, 19, 20, 21, 22, 23, 24, 25, 26, 27, 28, 29, 30, 31, 32, 33, 34, 35, 36, 37, 9, 38, 39, 40, 41, 42, 43, 44, 45, 46, 47, 48, 49, 50, 51, 52, 53, 54, 55, 56, 57, 58, 59, 60, 61, 62, 63, 64, 65, 66, 67, 68, 69, 70, 71, 72, 73, 74, 75, 76, 77, 78, 79, 80, 81, 82, 83, 84, 85, 86, 87, 88, 89, 90, 91, 92, 93, 94, 95, 96, 97, 98, 99, 100, 101, 102, 103, 104, 105, 106, 107, 108, 109, 110, 111, 112, 113, 114, 115, 116, 117, 118, 119, 120, 121, 122, 123, 124, 125, 126, 127, 128, 129, 130, 131, 132, 133, 134, 135, 136, 137, 138, 139, 150, 151, 152, 153, 154, 155, 156, 157, 158, 159, 160, 161, 162, 163] (by decide +kernel) (by decide +kernel)
set_option maxRecDepth 20000 in
theorem gX7_decree_X4_read : GoodIn wsX7_decree (wsV RX7 144 RX4 yX4_read wsX4_read) := goodIn_app (goodIn_of _ (by decide +kernel)) ggX7_decree_X4_read
theorem dX7_decree_0 : decode cX7_decree 0 = .ok (.iload_n 1, 1) := by decide +kernel
theorem dX7_decree_1 : decode cX7_decree 1 = .ok (.ifCond .lt 14, 3) := by decide +kernel
theorem dX7_decree_4 : decode cX7_decree 4 = .ok (.iload_n 1, 1) := by decide +kernel
theorem dX7_decree_5 : decode cX7_decree 5 = .ok (.aload_n 0, 1) := by decide +kernel
theorem dX7_decree_6 : decode cX7_decree 6 = .ok (.getfield 19, 3) := by decide +kernel
theorem dX7_decree_9 : decode cX7_decree 9 = .ok (.getfield 64, 3) := by decide +kernel
theorem dX7_decree_12 : decode cX7_decree 12 = .ok (.if_icmp .le 6, 3) := by decide +kernel
theorem dX7_decree_15 : decode cX7_decree 15 = .ok (.bipush (-2), 2) := by decide +kernel
theorem dX7_decree_17 : decode cX7_decree 17 = .ok (.ireturn, 1) := by decide +kernel
theorem dX7_decree_18 : decode cX7_decree 18 = .ok (.aload_n 0, 1) := by decide +kernel
theorem dX7_decree_19 : decode cX7_decree 19 = .ok (.getfield 26, 3) := by decide +kernel
theorem dX7_decree_22 : decode cX7_decree 22 = .ok (.aload_n 0, 1) := by decide +kernel
theorem dX7_decree_23 : decode cX7_decree 23 = .ok (.getfield 19, 3) := by decide +kernel
theorem dX7_decree_26 : decode cX7_decree 26 = .ok (.iload_n 1, 1) := by decide +kernel
theorem dX7_decree_27 : decode cX7_decree 27 = .ok (.aload_n 0, 1) := by decide +kernel
theorem dX7_decree_28 : decode cX7_decree 28 = .ok (.getfield 57, 3) := by decide +kernel
theorem dX7_decree_31 : decode cX7_decree 31 = .ok (.invokevirtual 144, 3) := by decide +kernel
theorem dX7_decree_34 : decode cX7_decree 34 = .ok (.aload_n 0, 1) := by decide +kernel
theorem dX7_decree_35 : decode cX7_decree 35 = .ok (.getfield 19, 3) := by decide +kernel
theorem dX7_decree_38 : decode cX7_decree 38 = .ok (.iconst 0, 1) := by decide +kernel
theorem dX7_decree_39 : decode cX7_decree 39 = .ok (.putfield 64, 3) := by decide +kernel
theorem dX7_decree_42 : decode cX7_decree 42 = .ok (.aload_n 0, 1) := by decide +kernel
theorem dX7_decree_43 : decode cX7_decree 43 = .ok (.getfield 26, 3) := by decide +kernel
theorem dX7_decree_46 : decode cX7_decree 46 = .ok (.getfield 148, 3) := by decide +kernel
theorem dX7_decree_49 : decode cX7_decree 49 = .ok (.ifCond .eq 5, 3) := by decide +kernel
theorem dX7_decree_52 : decode cX7_decree 52 = .ok (.iconst (-1), 1) := by decide +kernel
theorem dX7_decree_53 : decode cX7_decree 53 = .ok (.ireturn, 1) := by decide +kernel
theorem dX7_decree_54 : decode cX7_decree 54 = .ok (.aload_n 0, 1) := by decide +kernel
theorem dX7_decree_55 : decode cX7_decree 55 = .ok (.getfield 54, 3) := by decide +kernel
theorem dX7_decree_58 : decode cX7_decree 58 = .ok (.astore_n 2, 1) := by decide +kernel
theorem dX7_decree_59 : decode cX7_decree 59 = .ok (.aload_n 0, 1) := by decide +kernel
theorem dX7_decree_60 : decode cX7_decree 60 = .ok (.aload_n 0, 1) := by decide +kernel
theorem dX7_decree_61 : decode cX7_decree 61 = .ok (.getfield 57, 3) := by decide +kernel
theorem dX7_decree_64 : decode cX7_decree 64 = .ok (.putfield 54, 3) := by decide +kernel
theorem dX7_decree_67 : decode cX7_decree 67 = .ok (.aload_n 0, 1) := by decide +kernel
theorem dX7_decree_68 : decode cX7_decree 68 = .ok (.aload_n 2, 1) := by decide +kernel
theorem dX7_decree_69 : decode cX7_decree 69 = .ok (.putfield 57, 3) := by decide +kernel
theorem dX7_decree_72 : decode cX7_decree 72 = .ok (.aload_n 0, 1) := by decide +kernel
theorem dX7_decree_73 : decode cX7_decree 73 = .ok (.iconst 1, 1) := by decide +kernel
theorem dX7_decree_74 : decode cX7_decree 74 = .ok (.putfield 60, 3) := by decide +kernel
theorem dX7_decree_77 : decode cX7_decree 77 = .ok (.aload_n 0, 1) := by decide +kernel
theorem dX7_decree_78 : decode cX7_decree 78 = .ok (.getfield 54, 3) := by decide +kernel
