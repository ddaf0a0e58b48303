theorem dX0_init_0 : decode cX0_init 0 = .ok (.aload_n 0, 1) := by decide +kernel
theorem dX0_init_1 : decode cX0_init 1 = .ok (.invokespecial 3, 3) := by decide +kernel
theorem dX0_init_4 : decode cX0_init 4 = .ok (.aload_n 0, 1) := by decide +kernel
theorem dX0_init_5 : decode cX0_init 5 = .ok (.bipush 10, 2) := by decide +kernel
theorem dX0_init_7 : decode cX0_init 7 = .ok (.newarray .int, 2) := by decide +kernel
theorem dX0_init_9 : decode cX0_init 9 = .ok (.putfield 9, 3) := by decide +kernel
theorem dX0_init_12 : decode cX0_init 12 = .ok (.aload_n 0, 1) := by decide +kernel
theorem dX0_init_13 : decode cX0_init 13 = .ok (.bipush 10, 2) := by decide +kernel
theorem dX0_init_15 : decode cX0_init 15 = .ok (.newarray .int, 2) := by decide +kernel
theorem dX0_init_17 : decode cX0_init 17 = .ok (.putfield 15, 3) := by decide +kernel
theorem dX0_init_20 : decode cX0_init 20 = .ok (.aload_n 0, 1) := by decide +kernel
theorem dX0_init_21 : decode cX0_init 21 = .ok (.bipush 10, 2) := by decide +kernel
theorem dX0_init_23 : decode cX0_init 23 = .ok (.newarray .int, 2) := by decide +kernel
theorem dX0_init_25 : decode cX0_init 25 = .ok (.putfield 18, 3) := by decide +kernel
theorem dX0_init_28 : decode cX0_init 28 = .ok (.aload_n 0, 1) := by decide +kernel
theorem dX0_init_29 : decode cX0_init 29 = .ok (.bipush 10, 2) := by decide +kernel
theorem dX0_init_31 : decode cX0_init 31 = .ok (.newarray .int, 2) := by decide +kernel
theorem dX0_init_33 : decode cX0_init 33 = .ok (.putfield 21, 3) := by decide +kernel
theorem dX0_init_36 : decode cX0_init 36 = .ok (.aload_n 0, 1) := by decide +kernel
theorem dX0_init_37 : decode cX0_init 37 = .ok (.iconst 0, 1) := by decide +kernel
theorem dX0_init_38 : decode cX0_init 38 = .ok (.putfield 24, 3) := by decide +kernel
theorem dX0_init_41 : decode cX0_init 41 = .ok (.return_, 1) := by decide +kernel
set_option maxRecDepth 20000 in
theorem ggX0_workOut_X3_netOf : GoodIn wsX0_workOut wsX3_netOf := goodIn_r _ [7, 8, 9, 10, 11, 33, 34, 35, 36, 37, 38, 39, 40, 41, 42, 43] (by decide +kernel) (by decide +kernel)
set_option maxRecDepth 20000 in
theorem gX0_workOut_X3_netOf : GoodIn wsX0_workOut (wsV RX0 37 RX3 yX3_netOf wsX3_netOf) := goodIn_app (goodIn_of _ (by decide +kernel)) ggX0_workOut_X3_netOf
set_option maxRecDepth 20000 in
theorem ggX0_workOut_X0_addMove : GoodIn wsX0_workOut wsX0_addMove := goodIn_r _ [16, 1, 2, 17, 18, 19, 20, 21, 22, 23, 24, 25, 26, 27, 28] (by decide +kernel) (by decide +kernel)
set_option maxRecDepth 20000 in
theorem gX0_workOut_X0_addMove : GoodIn wsX0_workOut (wsV RX0 43 RX0 yX0_addMove wsX0_addMove) := goodIn_app (goodIn_of _ (by decide +kernel)) ggX0_workOut_X0_addMove
theorem dX0_workOut_0 : decode cX0_workOut 0 = .ok (.aload_n 0, 1) := by decide +kernel
theorem dX0_workOut_1 : decode cX0_workOut 1 = .ok (.iconst 0, 1) := by decide +kernel
theorem dX0_workOut_2 : decode cX0_workOut 2 = .ok (.putfield 24, 3) := by decide +kernel
theorem dX0_workOut_5 : decode cX0_workOut 5 = .ok (.iconst 0, 1) := by decide +kernel
theorem dX0_workOut_6 : decode cX0_workOut 6 = .ok (.istore_n 2, 1) := by decide +kernel
theorem dX0_workOut_7 : decode cX0_workOut 7 = .ok (.iload_n 2, 1) := by decide +kernel
theorem dX0_workOut_8 : decode cX0_workOut 8 = .ok (.aload_n 1, 1) := by decide +kernel
theorem dX0_workOut_9 : decode cX0_workOut 9 = .ok (.getfield 28, 3) := by decide +kernel
theorem dX0_workOut_12 : decode cX0_workOut 12 = .ok (.if_icmp .ge 23, 3) := by decide +kernel
theorem dX0_workOut_15 : decode cX0_workOut 15 = .ok (.aload_n 0, 1) := by decide +kernel
theorem dX0_workOut_16 : decode cX0_workOut 16 = .ok (.getfield 9, 3) := by decide +kernel
theorem dX0_workOut_19 : decode cX0_workOut 19 = .ok (.iload_n 2, 1) := by decide +kernel
theorem dX0_workOut_20 : decode cX0_workOut 20 = .ok (.aload_n 1, 1) := by decide +kernel
theorem dX0_workOut_21 : decode cX0_workOut 21 = .ok (.getfield 33, 3) := by decide +kernel
theorem dX0_workOut_24 : decode cX0_workOut 24 = .ok (.iload_n 2, 1) := by decide +kernel
theorem dX0_workOut_25 : decode cX0_workOut 25 = .ok (.invokevirtual 37, 3) := by decide +kernel
theorem dX0_workOut_28 : decode cX0_workOut 28 = .ok (.iastore, 1) := by decide +kernel
theorem dX0_workOut_29 : decode cX0_workOut 29 = .ok (.iinc 2 1, 3) := by decide +kernel
theorem dX0_workOut_32 : decode cX0_workOut 32 = .ok (.goto (-25), 3) := by decide +kernel
theorem dX0_workOut_35 : decode cX0_workOut 35 = .ok (.iconst 0, 1) := by decide +kernel
theorem dX0_workOut_36 : decode cX0_workOut 36 = .ok (.istore_n 2, 1) := by decide +kernel
theorem dX0_workOut_37 : decode cX0_workOut 37 = .ok (.iload_n 2, 1) := by decide +kernel
theorem dX0_workOut_38 : decode cX0_workOut 38 = .ok (.aload_n 1, 1) := by decide +kernel
theorem dX0_workOut_39 : decode cX0_workOut 39 = .ok (.getfield 28, 3) := by decide +kernel
theorem dX0_workOut_42 : decode cX0_workOut 42 = .ok (.if_icmp .ge 49, 3) := by decide +kernel
theorem dX0_workOut_45 : decode cX0_workOut 45 = .ok (.iconst 0, 1) := by decide +kernel
theorem dX0_workOut_46 : decode cX0_workOut 46 = .ok (.istore_n 3, 1) := by decide +kernel
theorem dX0_workOut_47 : decode cX0_workOut 47 = .ok (.iload_n 3, 1) := by decide +kernel
theorem dX0_workOut_48 : decode cX0_workOut 48 = .ok (.aload_n 1, 1) := by decide +kernel
theorem dX0_workOut_49 : decode cX0_workOut 49 = .ok (.getfield 28, 3) := by decide +kernel
theorem dX0_workOut_52 : decode cX0_workOut 52 = .ok (.if_icmp .ge 33, 3) := by decide +kernel
theorem dX0_workOut_55 : decode cX0_workOut 55 = .ok (.aload_n 0, 1) := by decide +kernel
theorem dX0_workOut_56 : decode cX0_workOut 56 = .ok (.getfield 9, 3) := by decide +kernel
theorem dX0_workOut_59 : decode cX0_workOut 59 = .ok (.iload_n 2, 1) := by decide +kernel
theorem dX0_workOut_60 : decode cX0_workOut 60 = .ok (.iaload, 1) := by decide +kernel
theorem dX0_workOut_61 : decode cX0_workOut 61 = .ok (.ifCond .ge 24, 3) := by decide +kernel
theorem dX0_workOut_64 : decode cX0_workOut 64 = .ok (.aload_n 0, 1) := by decide +kernel
theorem dX0_workOut_65 : decode cX0_workOut 65 = .ok (.getfield 9, 3) := by decide +kernel
theorem dX0_workOut_68 : decode cX0_workOut 68 = .ok (.iload_n 3, 1) := by decide +kernel
theorem dX0_workOut_69 : decode cX0_workOut 69 = .ok (.iaload, 1) := by decide +kernel
theorem dX0_workOut_70 : decode cX0_workOut 70 = .ok (.ifCond .le 9, 3) := by decide +kernel
theorem dX0_workOut_73 : decode cX0_workOut 73 = .ok (.aload_n 0, 1) := by decide +kernel
theorem dX0_workOut_74 : decode cX0_workOut 74 = .ok (.iload_n 2, 1) := by decide +kernel
theorem dX0_workOut_75 : decode cX0_workOut 75 = .ok (.iload_n 3, 1) := by decide +kernel
theorem dX0_workOut_76 : decode cX0_workOut 76 = .ok (.invokevirtual 43, 3) := by decide +kernel
theorem dX0_workOut_79 : decode cX0_workOut 79 = .ok (.iinc 3 1, 3) := by decide +kernel
theorem dX0_workOut_82 : decode cX0_workOut 82 = .ok (.goto (-35), 3) := by decide +kernel
theorem dX0_workOut_85 : decode cX0_workOut 85 = .ok (.iinc 2 1, 3) := by decide +kernel
theorem dX0_workOut_88 : decode cX0_workOut 88 = .ok (.goto (-51), 3) := by decide +kernel
theorem dX0_workOut_91 : decode cX0_workOut 91 = .ok (.return_, 1) := by decide +kernel
theorem dX0_addMove_0 : decode cX0_addMove 0 = .ok (.aload_n 0, 1) := by decide +kernel
theorem dX0_addMove_1 : decode cX0_addMove 1 = .ok (.getfield 24, 3) := by decide +kernel
theorem dX0_addMove_4 : decode cX0_addMove 4 = .ok (.bipush 10, 2) := by decide +kernel
theorem dX0_addMove_6 : decode cX0_addMove 6 = .ok (.if_icmp .lt 4, 3) := by decide +kernel
theorem dX0_addMove_9 : decode cX0_addMove 9 = .ok (.return_, 1) := by decide +kernel
theorem dX0_addMove_10 : decode cX0_addMove 10 = .ok (.aload_n 0, 1) := by decide +kernel
theorem dX0_addMove_11 : decode cX0_addMove 11 = .ok (.getfield 9, 3) := by decide +kernel
theorem dX0_addMove_14 : decode cX0_addMove 14 = .ok (.iload_n 1, 1) := by decide +kernel
theorem dX0_addMove_15 : decode cX0_addMove 15 = .ok (.iaload, 1) := by decide +kernel
theorem dX0_addMove_16 : decode cX0_addMove 16 = .ok (.ineg, 1) := by decide +kernel
theorem dX0_addMove_17 : decode cX0_addMove 17 = .ok (.aload_n 0, 1) := by decide +kernel
theorem dX0_addMove_18 : decode cX0_addMove 18 = .ok (.getfield 9, 3) := by decide +kernel
theorem dX0_addMove_21 : decode cX0_addMove 21 = .ok (.iload_n 2, 1) := by decide +kernel
theorem dX0_addMove_22 : decode cX0_addMove 22 = .ok (.iaload, 1) := by decide +kernel
theorem dX0_addMove_23 : decode cX0_addMove 23 = .ok (.invokestatic 47, 3) := by decide +kernel
theorem dX0_addMove_26 : decode cX0_addMove 26 = .ok (.istore_n 3, 1) := by decide +kernel
theorem dX0_addMove_27 : decode cX0_addMove 27 = .ok (.aload_n 0, 1) := by decide +kernel
theorem dX0_addMove_28 : decode cX0_addMove 28 = .ok (.getfield 9, 3) := by decide +kernel
theorem dX0_addMove_31 : decode cX0_addMove 31 = .ok (.iload_n 1, 1) := by decide +kernel
theorem dX0_addMove_32 : decode cX0_addMove 32 = .ok (.dup2, 1) := by decide +kernel
theorem dX0_addMove_33 : decode cX0_addMove 33 = .ok (.iaload, 1) := by decide +kernel
theorem dX0_addMove_34 : decode cX0_addMove 34 = .ok (.iload_n 3, 1) := by decide +kernel
theorem dX0_addMove_35 : decode cX0_addMove 35 = .ok (.iadd, 1) := by decide +kernel
theorem dX0_addMove_36 : decode cX0_addMove 36 = .ok (.iastore, 1) := by decide +kernel
theorem dX0_addMove_37 : decode cX0_addMove 37 = .ok (.aload_n 0, 1) := by decide +kernel
theorem dX0_addMove_38 : decode cX0_addMove 38 = .ok (.getfield 9, 3) := by decide +kernel
theorem dX0_addMove_41 : decode cX0_addMove 41 = .ok (.iload_n 2, 1) := by decide +kernel
theorem dX0_addMove_42 : decode cX0_addMove 42 = .ok (.dup2, 1) := by decide +kernel
theorem dX0_addMove_43 : decode cX0_addMove 43 = .ok (.iaload, 1) := by decide +kernel
theorem dX0_addMove_44 : decode cX0_addMove 44 = .ok (.iload_n 3, 1) := by decide +kernel
theorem dX0_addMove_45 : decode cX0_addMove 45 = .ok (.isub, 1) := by decide +kernel
theorem dX0_addMove_46 : decode cX0_addMove 46 = .ok (.iastore, 1) := by decide +kernel
theorem dX0_addMove_47 : decode cX0_addMove 47 = .ok (.aload_n 0, 1) := by decide +kernel
theorem dX0_addMove_48 : decode cX0_addMove 48 = .ok (.getfield 15, 3) := by decide +kernel
theorem dX0_addMove_51 : decode cX0_addMove 51 = .ok (.aload_n 0, 1) := by decide +kernel
theorem dX0_addMove_52 : decode cX0_addMove 52 = .ok (.getfield 24, 3) := by decide +kernel
theorem dX0_addMove_55 : decode cX0_addMove 55 = .ok (.iload_n 1, 1) := by decide +kernel
theorem dX0_addMove_56 : decode cX0_addMove 56 = .ok (.iastore, 1) := by decide +kernel
theorem dX0_addMove_57 : decode cX0_addMove 57 = .ok (.aload_n 0, 1) := by decide +kernel
theorem dX0_addMove_58 : decode cX0_addMove 58 = .ok (.getfield 18, 3) := by decide +kernel
theorem dX0_addMove_61 : decode cX0_addMove 61 = .ok (.aload_n 0, 1) := by decide +kernel
theorem dX0_addMove_62 : decode cX0_addMove 62 = .ok (.getfield 24, 3) := by decide +kernel
theorem dX0_addMove_65 : decode cX0_addMove 65 = .ok (.iload_n 2, 1) := by decide +kernel
theorem dX0_addMove_66 : decode cX0_addMove 66 = .ok (.iastore, 1) := by decide +kernel
theorem dX0_addMove_67 : decode cX0_addMove 67 = .ok (.aload_n 0, 1) := by decide +kernel
theorem dX0_addMove_68 : decode cX0_addMove 68 = .ok (.getfield 21, 3) := by decide +kernel
theorem dX0_addMove_71 : decode cX0_addMove 71 = .ok (.aload_n 0, 1) := by decide +kernel
theorem dX0_addMove_72 : decode cX0_addMove 72 = .ok (.getfield 24, 3) := by decide +kernel
theorem dX0_addMove_75 : decode cX0_addMove 75 = .ok (.iload_n 3, 1) := by decide +kernel
theorem dX0_addMove_76 : decode cX0_addMove 76 = .ok (.iastore, 1) := by decide +kernel
theorem dX0_addMove_77 : decode cX0_addMove 77 = .ok (.aload_n 0, 1) := by decide +kernel
theorem dX0_addMove_78 : decode cX0_addMove 78 = .ok (.dup, 1) := by decide +kernel
theorem dX0_addMove_79 : decode cX0_addMove 79 = .ok (.getfield 24, 3) := by decide +kernel
theorem dX0_addMove_82 : decode cX0_addMove 82 = .ok (.iconst 1, 1) := by decide +kernel
theorem dX0_addMove_83 : decode cX0_addMove 83 = .ok (.iadd, 1) := by decide +kernel
theorem dX0_addMove_84 : decode cX0_addMove 84 = .ok (.putfield 24, 3) := by decide +kernel
theorem dX0_addMove_87 : decode cX0_addMove 87 = .ok (.return_, 1) := by decide +kernel
theorem dX0_coinsMoved_0 : decode cX0_coinsMoved 0 = .ok (.iconst 0, 1) := by decide +kernel
theorem dX0_coinsMoved_1 : decode cX0_coinsMoved 1 = .ok (.istore_n 1, 1) := by decide +kernel
theorem dX0_coinsMoved_2 : decode cX0_coinsMoved 2 = .ok (.iconst 0, 1) := by decide +kernel
theorem dX0_coinsMoved_3 : decode cX0_coinsMoved 3 = .ok (.istore_n 2, 1) := by decide +kernel
theorem dX0_coinsMoved_4 : decode cX0_coinsMoved 4 = .ok (.iload_n 2, 1) := by decide +kernel
theorem dX0_coinsMoved_5 : decode cX0_coinsMoved 5 = .ok (.aload_n 0, 1) := by decide +kernel
theorem dX0_coinsMoved_6 : decode cX0_coinsMoved 6 = .ok (.getfield 24, 3) := by decide +kernel
theorem dX0_coinsMoved_9 : decode cX0_coinsMoved 9 = .ok (.if_icmp .ge 18, 3) := by decide +kernel
theorem dX0_coinsMoved_12 : decode cX0_coinsMoved 12 = .ok (.iload_n 1, 1) := by decide +kernel
theorem dX0_coinsMoved_13 : decode cX0_coinsMoved 13 = .ok (.aload_n 0, 1) := by decide +kernel
theorem dX0_coinsMoved_14 : decode cX0_coinsMoved 14 = .ok (.getfield 21, 3) := by decide +kernel
theorem dX0_coinsMoved_17 : decode cX0_coinsMoved 17 = .ok (.iload_n 2, 1) := by decide +kernel
theorem dX0_coinsMoved_18 : decode cX0_coinsMoved 18 = .ok (.iaload, 1) := by decide +kernel
theorem dX0_coinsMoved_19 : decode cX0_coinsMoved 19 = .ok (.iadd, 1) := by decide +kernel
theorem dX0_coinsMoved_20 : decode cX0_coinsMoved 20 = .ok (.istore_n 1, 1) := by decide +kernel
theorem dX0_coinsMoved_21 : decode cX0_coinsMoved 21 = .ok (.iinc 2 1, 3) := by decide +kernel
theorem dX0_coinsMoved_24 : decode cX0_coinsMoved 24 = .ok (.goto (-20), 3) := by decide +kernel
theorem dX0_coinsMoved_27 : decode cX0_coinsMoved 27 = .ok (.iload_n 1, 1) := by decide +kernel
theorem dX0_coinsMoved_28 : decode cX0_coinsMoved 28 = .ok (.ireturn, 1) := by decide +kernel
theorem dX0_tell_0 : decode cX0_tell 0 = .ok (.iload_n 1, 1) := by decide +kernel
theorem dX0_tell_1 : decode cX0_tell 1 = .ok (.ifCond .lt 11, 3) := by decide +kernel
theorem dX0_tell_4 : decode cX0_tell 4 = .ok (.iload_n 1, 1) := by decide +kernel
theorem dX0_tell_5 : decode cX0_tell 5 = .ok (.aload_n 0, 1) := by decide +kernel
theorem dX0_tell_6 : decode cX0_tell 6 = .ok (.getfield 24, 3) := by decide +kernel
theorem dX0_tell_9 : decode cX0_tell 9 = .ok (.if_icmp .lt 5, 3) := by decide +kernel
theorem dX0_tell_12 : decode cX0_tell 12 = .ok (.iconst (-1), 1) := by decide +kernel
theorem dX0_tell_13 : decode cX0_tell 13 = .ok (.ireturn, 1) := by decide +kernel
theorem dX0_tell_14 : decode cX0_tell 14 = .ok (.iload_n 2, 1) := by decide +kernel
theorem dX0_tell_15 : decode cX0_tell 15 = .ok (.tableswitch 46 0 2 #[25, 32, 39], 25) := by decide +kernel
theorem dX0_tell_40 : decode cX0_tell 40 = .ok (.aload_n 0, 1) := by decide +kernel
theorem dX0_tell_41 : decode cX0_tell 41 = .ok (.getfield 15, 3) := by decide +kernel
theorem dX0_tell_44 : decode cX0_tell 44 = .ok (.iload_n 1, 1) := by decide +kernel
theorem dX0_tell_45 : decode cX0_tell 45 = .ok (.iaload, 1) := by decide +kernel
theorem dX0_tell_46 : decode cX0_tell 46 = .ok (.ireturn, 1) := by decide +kernel
theorem dX0_tell_47 : decode cX0_tell 47 = .ok (.aload_n 0, 1) := by decide +kernel
theorem dX0_tell_48 : decode cX0_tell 48 = .ok (.getfield 18, 3) := by decide +kernel
theorem dX0_tell_51 : decode cX0_tell 51 = .ok (.iload_n 1, 1) := by decide +kernel
theorem dX0_tell_52 : decode cX0_tell 52 = .ok (.iaload, 1) := by decide +kernel
theorem dX0_tell_53 : decode cX0_tell 53 = .ok (.ireturn, 1) := by decide +kernel
theorem dX0_tell_54 : decode cX0_tell 54 = .ok (.aload_n 0, 1) := by decide +kernel
theorem dX0_tell_55 : decode cX0_tell 55 = .ok (.getfield 21, 3) := by decide +kernel
theorem dX0_tell_58 : decode cX0_tell 58 = .ok (.iload_n 1, 1) := by decide +kernel
theorem dX0_tell_59 : decode cX0_tell 59 = .ok (.iaload, 1) := by decide +kernel
theorem dX0_tell_60 : decode cX0_tell 60 = .ok (.ireturn, 1) := by decide +kernel
theorem dX0_tell_61 : decode cX0_tell 61 = .ok (.iconst (-1), 1) := by decide +kernel
theorem dX0_tell_62 : decode cX0_tell 62 = .ok (.ireturn, 1) := by decide +kernel
theorem dX1_init_0 : decode cX1_init 0 = .ok (.aload_n 0, 1) := by decide +kernel
theorem dX1_init_1 : decode cX1_init 1 = .ok (.invokespecial 3, 3) := by decide +kernel
theorem dX1_init_4 : decode cX1_init 4 = .ok (.aload_n 0, 1) := by decide +kernel
theorem dX1_init_5 : decode cX1_init 5 = .ok (.bipush 40, 2) := by decide +kernel
theorem dX1_init_7 : decode cX1_init 7 = .ok (.newarray .int, 2) := by decide +kernel
theorem dX1_init_9 : decode cX1_init 9 = .ok (.putfield 9, 3) := by decide +kernel
theorem dX1_init_12 : decode cX1_init 12 = .ok (.aload_n 0, 1) := by decide +kernel
theorem dX1_init_13 : decode cX1_init 13 = .ok (.bipush 40, 2) := by decide +kernel
theorem dX1_init_15 : decode cX1_init 15 = .ok (.newarray .int, 2) := by decide +kernel
theorem dX1_init_17 : decode cX1_init 17 = .ok (.putfield 15, 3) := by decide +kernel
theorem dX1_init_20 : decode cX1_init 20 = .ok (.aload_n 0, 1) := by decide +kernel
theorem dX1_init_21 : decode cX1_init 21 = .ok (.bipush 10, 2) := by decide +kernel
theorem dX1_init_23 : decode cX1_init 23 = .ok (.newarray .int, 2) := by decide +kernel
theorem dX1_init_25 : decode cX1_init 25 = .ok (.putfield 18, 3) := by decide +kernel
theorem dX1_init_28 : decode cX1_init 28 = .ok (.aload_n 0, 1) := by decide +kernel
theorem dX1_init_29 : decode cX1_init 29 = .ok (.bipush 10, 2) := by decide +kernel
theorem dX1_init_31 : decode cX1_init 31 = .ok (.newarray .int, 2) := by decide +kernel
theorem dX1_init_33 : decode cX1_init 33 = .ok (.putfield 21, 3) := by decide +kernel
theorem dX1_init_36 : decode cX1_init 36 = .ok (.aload_n 0, 1) := by decide +kernel
theorem dX1_init_37 : decode cX1_init 37 = .ok (.bipush 10, 2) := by decide +kernel
theorem dX1_init_39 : decode cX1_init 39 = .ok (.newarray .int, 2) := by decide +kernel
theorem dX1_init_41 : decode cX1_init 41 = .ok (.putfield 24, 3) := by decide +kernel
theorem dX1_init_44 : decode cX1_init 44 = .ok (.aload_n 0, 1) := by decide +kernel
theorem dX1_init_45 : decode cX1_init 45 = .ok (.bipush 10, 2) := by decide +kernel
theorem dX1_init_47 : decode cX1_init 47 = .ok (.newarray .int, 2) := by decide +kernel
theorem dX1_init_49 : decode cX1_init 49 = .ok (.putfield 27, 3) := by decide +kernel
theorem dX1_init_52 : decode cX1_init 52 = .ok (.aload_n 0, 1) := by decide +kernel
theorem dX1_init_53 : decode cX1_init 53 = .ok (.bipush 10, 2) := by decide +kernel
theorem dX1_init_55 : decode cX1_init 55 = .ok (.newarray .int, 2) := by decide +kernel
theorem dX1_init_57 : decode cX1_init 57 = .ok (.putfield 30, 3) := by decide +kernel
theorem dX1_init_60 : decode cX1_init 60 = .ok (.aload_n 0, 1) := by decide +kernel
theorem dX1_init_61 : decode cX1_init 61 = .ok (.iconst 0, 1) := by decide +kernel
theorem dX1_init_62 : decode cX1_init 62 = .ok (.putfield 33, 3) := by decide +kernel
theorem dX1_init_65 : decode cX1_init 65 = .ok (.aload_n 0, 1) := by decide +kernel
theorem dX1_init_66 : decode cX1_init 66 = .ok (.iconst 0, 1) := by decide +kernel
theorem dX1_init_67 : decode cX1_init 67 = .ok (.putfield 37, 3) := by decide +kernel
theorem dX1_init_70 : decode cX1_init 70 = .ok (.aload_n 0, 1) := by decide +kernel
theorem dX1_init_71 : decode cX1_init 71 = .ok (.iconst (-1), 1) := by decide +kernel
theorem dX1_init_72 : decode cX1_init 72 = .ok (.putfield 40, 3) := by decide +kernel
theorem dX1_init_75 : decode cX1_init 75 = .ok (.return_, 1) := by decide +kernel
set_option maxRecDepth 20000 in
theorem ggX1_work_X1_takeStock : GoodIn wsX1_work wsX1_takeStock := goodIn_r _ [7, 8, 9, 2, 10, 11, 12, 13, 14, 58, 59, 60, 61, 62, 63, 64, 65, 66, 67, 68, 69, 70, 71, 72, 73, 74, 75, 76, 77, 78, 79, 80, 81, 82] (by decide +kernel) (by decide +kernel)
set_option maxRecDepth 20000 in
theorem gX1_work_X1_takeStock : GoodIn wsX1_work (wsV RX1 43 RX1 yX1_takeStock wsX1_takeStock) := goodIn_app (goodIn_of _ (by decide +kernel)) ggX1_work_X1_takeStock
set_option maxRecDepth 20000 in
theorem ggX1_work_X1_takeAllAsPaid : GoodIn wsX1_work wsX1_takeAllAsPaid := goodIn_r _ [18, 9, 19, 10, 20, 21, 22, 23, 24, 25, 26, 27, 28, 29, 30, 31, 62, 63, 64, 65, 66, 67, 68, 69, 70, 71, 72, 73, 74, 75, 76, 77, 78, 79, 80, 81, 82, 83, 84, 85, 86, 87] (by decide +kernel) (by decide +kernel)
set_option maxRecDepth 20000 in
theorem gX1_work_X1_takeAllAsPaid : GoodIn wsX1_work (wsV RX1 52 RX1 yX1_takeAllAsPaid wsX1_takeAllAsPaid) := goodIn_app (goodIn_of _ (by decide +kernel)) ggX1_work_X1_takeAllAsPaid
set_option maxRecDepth 20000 in
theorem ggX1_work_X1_putInOrder : GoodIn wsX1_work wsX1_putInOrder := goodIn_r _ [35, 9, 36, 37, 38, 39, 23, 40, 41, 27, 28, 29, 30, 31, 62, 63, 64, 65, 66, 67, 68, 69, 70, 71, 72, 73, 74, 75, 76, 77, 78, 79, 80, 81, 82, 83, 84, 85, 86, 87] (by decide +kernel) (by decide +kernel)
set_option maxRecDepth 20000 in
theorem gX1_work_X1_putInOrder : GoodIn wsX1_work (wsV RX1 56 RX1 yX1_putInOrder wsX1_putInOrder) := goodIn_app (goodIn_of _ (by decide +kernel)) ggX1_work_X1_putInOrder
set_option maxRecDepth 20000 in
theorem ggX1_work_X1_goRound : GoodIn wsX1_work wsX1_goRound := goodIn_r _ [45, 8, 10, 12, 46, 47, 48, 6, 49, 14, 36, 19, 50, 51, 52, 53, 13, 11, 54, 55, 56, 57, 62, 63, 64, 65, 66, 67, 68, 69, 70, 71, 72, 73, 74, 75, 76, 77, 78, 79, 80, 81, 82] (by decide +kernel) (by decide +kernel)
set_option maxRecDepth 20000 in
theorem gX1_work_X1_goRound : GoodIn wsX1_work (wsV RX1 60 RX1 yX1_goRound wsX1_goRound) := goodIn_app (goodIn_of _ (by decide +kernel)) ggX1_work_X1_goRound
theorem dX1_work_0 : decode cX1_work 0 = .ok (.aload_n 0, 1) := by decide +kernel
theorem dX1_work_1 : decode cX1_work 1 = .ok (.aload_n 1, 1) := by decide +kernel
theorem dX1_work_2 : decode cX1_work 2 = .ok (.invokevirtual 43, 3) := by decide +kernel
theorem dX1_work_5 : decode cX1_work 5 = .ok (.aload_n 0, 1) := by decide +kernel
theorem dX1_work_6 : decode cX1_work 6 = .ok (.aload_n 1, 1) := by decide +kernel
theorem dX1_work_7 : decode cX1_work 7 = .ok (.getfield 47, 3) := by decide +kernel
theorem dX1_work_10 : decode cX1_work 10 = .ok (.aload_n 2, 1) := by decide +kernel
theorem dX1_work_11 : decode cX1_work 11 = .ok (.invokevirtual 52, 3) := by decide +kernel
theorem dX1_work_14 : decode cX1_work 14 = .ok (.aload_n 0, 1) := by decide +kernel
theorem dX1_work_15 : decode cX1_work 15 = .ok (.aload_n 1, 1) := by decide +kernel
theorem dX1_work_16 : decode cX1_work 16 = .ok (.getfield 47, 3) := by decide +kernel
theorem dX1_work_19 : decode cX1_work 19 = .ok (.aload_n 2, 1) := by decide +kernel
theorem dX1_work_20 : decode cX1_work 20 = .ok (.invokevirtual 56, 3) := by decide +kernel
theorem dX1_work_23 : decode cX1_work 23 = .ok (.iconst 1, 1) := by decide +kernel
theorem dX1_work_24 : decode cX1_work 24 = .ok (.istore_n 3, 1) := by decide +kernel
theorem dX1_work_25 : decode cX1_work 25 = .ok (.iconst 1, 1) := by decide +kernel
theorem dX1_work_26 : decode cX1_work 26 = .ok (.istore 4, 2) := by decide +kernel
theorem dX1_work_28 : decode cX1_work 28 = .ok (.iload 4, 2) := by decide +kernel
theorem dX1_work_30 : decode cX1_work 30 = .ok (.ldc 59, 2) := by decide +kernel
theorem dX1_work_32 : decode cX1_work 32 = .ok (.if_icmp .gt 34, 3) := by decide +kernel
theorem dX1_work_35 : decode cX1_work 35 = .ok (.iload_n 3, 1) := by decide +kernel
theorem dX1_work_36 : decode cX1_work 36 = .ok (.ifCond .eq 30, 3) := by decide +kernel
theorem dX1_work_39 : decode cX1_work 39 = .ok (.aload_n 0, 1) := by decide +kernel
theorem dX1_work_40 : decode cX1_work 40 = .ok (.aload_n 1, 1) := by decide +kernel
theorem dX1_work_41 : decode cX1_work 41 = .ok (.getfield 47, 3) := by decide +kernel
theorem dX1_work_44 : decode cX1_work 44 = .ok (.iload 4, 2) := by decide +kernel
theorem dX1_work_46 : decode cX1_work 46 = .ok (.invokevirtual 60, 3) := by decide +kernel
theorem dX1_work_49 : decode cX1_work 49 = .ok (.istore_n 3, 1) := by decide +kernel
theorem dX1_work_50 : decode cX1_work 50 = .ok (.iload_n 3, 1) := by decide +kernel
theorem dX1_work_51 : decode cX1_work 51 = .ok (.ifCond .eq 9, 3) := by decide +kernel
theorem dX1_work_54 : decode cX1_work 54 = .ok (.aload_n 0, 1) := by decide +kernel
theorem dX1_work_55 : decode cX1_work 55 = .ok (.iload 4, 2) := by decide +kernel
theorem dX1_work_57 : decode cX1_work 57 = .ok (.putfield 40, 3) := by decide +kernel
theorem dX1_work_60 : decode cX1_work 60 = .ok (.iinc 4 1, 3) := by decide +kernel
theorem dX1_work_63 : decode cX1_work 63 = .ok (.goto (-35), 3) := by decide +kernel
theorem dX1_work_66 : decode cX1_work 66 = .ok (.return_, 1) := by decide +kernel
theorem dX1_takeStock_0 : decode cX1_takeStock 0 = .ok (.aload_n 0, 1) := by decide +kernel
theorem dX1_takeStock_1 : decode cX1_takeStock 1 = .ok (.aload_n 1, 1) := by decide +kernel
theorem dX1_takeStock_2 : decode cX1_takeStock 2 = .ok (.getfield 64, 3) := by decide +kernel
theorem dX1_takeStock_5 : decode cX1_takeStock 5 = .ok (.putfield 33, 3) := by decide +kernel
theorem dX1_takeStock_8 : decode cX1_takeStock 8 = .ok (.aload_n 0, 1) := by decide +kernel
theorem dX1_takeStock_9 : decode cX1_takeStock 9 = .ok (.aload_n 1, 1) := by decide +kernel
theorem dX1_takeStock_10 : decode cX1_takeStock 10 = .ok (.getfield 47, 3) := by decide +kernel
theorem dX1_takeStock_13 : decode cX1_takeStock 13 = .ok (.getfield 65, 3) := by decide +kernel
theorem dX1_takeStock_16 : decode cX1_takeStock 16 = .ok (.putfield 37, 3) := by decide +kernel
theorem dX1_takeStock_19 : decode cX1_takeStock 19 = .ok (.aload_n 0, 1) := by decide +kernel
theorem dX1_takeStock_20 : decode cX1_takeStock 20 = .ok (.iconst 0, 1) := by decide +kernel
theorem dX1_takeStock_21 : decode cX1_takeStock 21 = .ok (.putfield 40, 3) := by decide +kernel
theorem dX1_takeStock_24 : decode cX1_takeStock 24 = .ok (.iconst 0, 1) := by decide +kernel
theorem dX1_takeStock_25 : decode cX1_takeStock 25 = .ok (.istore_n 2, 1) := by decide +kernel
theorem dX1_takeStock_26 : decode cX1_takeStock 26 = .ok (.iload_n 2, 1) := by decide +kernel
theorem dX1_takeStock_27 : decode cX1_takeStock 27 = .ok (.aload_n 0, 1) := by decide +kernel
theorem dX1_takeStock_28 : decode cX1_takeStock 28 = .ok (.getfield 33, 3) := by decide +kernel
theorem dX1_takeStock_31 : decode cX1_takeStock 31 = .ok (.if_icmp .ge 54, 3) := by decide +kernel
theorem dX1_takeStock_34 : decode cX1_takeStock 34 = .ok (.aload_n 0, 1) := by decide +kernel
theorem dX1_takeStock_35 : decode cX1_takeStock 35 = .ok (.getfield 18, 3) := by decide +kernel
theorem dX1_takeStock_38 : decode cX1_takeStock 38 = .ok (.iload_n 2, 1) := by decide +kernel
theorem dX1_takeStock_39 : decode cX1_takeStock 39 = .ok (.aload_n 1, 1) := by decide +kernel
theorem dX1_takeStock_40 : decode cX1_takeStock 40 = .ok (.getfield 70, 3) := by decide +kernel
theorem dX1_takeStock_43 : decode cX1_takeStock 43 = .ok (.iload_n 2, 1) := by decide +kernel
theorem dX1_takeStock_44 : decode cX1_takeStock 44 = .ok (.iaload, 1) := by decide +kernel
theorem dX1_takeStock_45 : decode cX1_takeStock 45 = .ok (.iastore, 1) := by decide +kernel
theorem dX1_takeStock_46 : decode cX1_takeStock 46 = .ok (.aload_n 0, 1) := by decide +kernel
theorem dX1_takeStock_47 : decode cX1_takeStock 47 = .ok (.getfield 21, 3) := by decide +kernel
theorem dX1_takeStock_50 : decode cX1_takeStock 50 = .ok (.iload_n 2, 1) := by decide +kernel
theorem dX1_takeStock_51 : decode cX1_takeStock 51 = .ok (.iconst 0, 1) := by decide +kernel
theorem dX1_takeStock_52 : decode cX1_takeStock 52 = .ok (.iastore, 1) := by decide +kernel
theorem dX1_takeStock_53 : decode cX1_takeStock 53 = .ok (.aload_n 0, 1) := by decide +kernel
theorem dX1_takeStock_54 : decode cX1_takeStock 54 = .ok (.getfield 24, 3) := by decide +kernel
theorem dX1_takeStock_57 : decode cX1_takeStock 57 = .ok (.iload_n 2, 1) := by decide +kernel
theorem dX1_takeStock_58 : decode cX1_takeStock 58 = .ok (.iconst 0, 1) := by decide +kernel
theorem dX1_takeStock_59 : decode cX1_takeStock 59 = .ok (.iastore, 1) := by decide +kernel
theorem dX1_takeStock_60 : decode cX1_takeStock 60 = .ok (.aload_n 0, 1) := by decide +kernel
theorem dX1_takeStock_61 : decode cX1_takeStock 61 = .ok (.getfield 27, 3) := by decide +kernel
theorem dX1_takeStock_64 : decode cX1_takeStock 64 = .ok (.iload_n 2, 1) := by decide +kernel
theorem dX1_takeStock_65 : decode cX1_takeStock 65 = .ok (.iconst 0, 1) := by decide +kernel
theorem dX1_takeStock_66 : decode cX1_takeStock 66 = .ok (.iastore, 1) := by decide +kernel
theorem dX1_takeStock_67 : decode cX1_takeStock 67 = .ok (.aload_n 0, 1) := by decide +kernel
theorem dX1_takeStock_68 : decode cX1_takeStock 68 = .ok (.getfield 30, 3) := by decide +kernel
theorem dX1_takeStock_71 : decode cX1_takeStock 71 = .ok (.iload_n 2, 1) := by decide +kernel
theorem dX1_takeStock_72 : decode cX1_takeStock 72 = .ok (.aload_n 0, 1) := by decide +kernel
theorem dX1_takeStock_73 : decode cX1_takeStock 73 = .ok (.getfield 37, 3) := by decide +kernel
theorem dX1_takeStock_76 : decode cX1_takeStock 76 = .ok (.iconst 1, 1) := by decide +kernel
theorem dX1_takeStock_77 : decode cX1_takeStock 77 = .ok (.isub, 1) := by decide +kernel
theorem dX1_takeStock_78 : decode cX1_takeStock 78 = .ok (.iastore, 1) := by decide +kernel
theorem dX1_takeStock_79 : decode cX1_takeStock 79 = .ok (.iinc 2 1, 3) := by decide +kernel
theorem dX1_takeStock_82 : decode cX1_takeStock 82 = .ok (.goto (-56), 3) := by decide +kernel
theorem dX1_takeStock_85 : decode cX1_takeStock 85 = .ok (.return_, 1) := by decide +kernel
set_option maxRecDepth 20000 in
theorem ggX1_takeAllAsPaid_X2_leftOf : GoodIn wsX1_takeAllAsPaid wsX2_leftOf := goodIn_r _ [8, 9, 10, 11, 12, 13, 7, 14, 15, 37, 38, 39, 40, 41] (by decide +kernel) (by decide +kernel)
set_option maxRecDepth 20000 in
theorem gX1_takeAllAsPaid_X2_leftOf : GoodIn wsX1_takeAllAsPaid (wsV RX1 82 RX2 yX2_leftOf wsX2_leftOf) := goodIn_app (goodIn_of _ (by decide +kernel)) ggX1_takeAllAsPaid_X2_leftOf
theorem dX1_takeAllAsPaid_0 : decode cX1_takeAllAsPaid 0 = .ok (.iconst 0, 1) := by decide +kernel
theorem dX1_takeAllAsPaid_1 : decode cX1_takeAllAsPaid 1 = .ok (.istore_n 3, 1) := by decide +kernel
theorem dX1_takeAllAsPaid_2 : decode cX1_takeAllAsPaid 2 = .ok (.iload_n 3, 1) := by decide +kernel
theorem dX1_takeAllAsPaid_3 : decode cX1_takeAllAsPaid 3 = .ok (.aload_n 0, 1) := by decide +kernel
theorem dX1_takeAllAsPaid_4 : decode cX1_takeAllAsPaid 4 = .ok (.getfield 37, 3) := by decide +kernel
theorem dX1_takeAllAsPaid_7 : decode cX1_takeAllAsPaid 7 = .ok (.if_icmp .ge 73, 3) := by decide +kernel
theorem dX1_takeAllAsPaid_10 : decode cX1_takeAllAsPaid 10 = .ok (.aload_n 2, 1) := by decide +kernel
theorem dX1_takeAllAsPaid_11 : decode cX1_takeAllAsPaid 11 = .ok (.aload_n 1, 1) := by decide +kernel
theorem dX1_takeAllAsPaid_12 : decode cX1_takeAllAsPaid 12 = .ok (.getfield 73, 3) := by decide +kernel
theorem dX1_takeAllAsPaid_15 : decode cX1_takeAllAsPaid 15 = .ok (.iload_n 3, 1) := by decide +kernel
theorem dX1_takeAllAsPaid_16 : decode cX1_takeAllAsPaid 16 = .ok (.iaload, 1) := by decide +kernel
theorem dX1_takeAllAsPaid_17 : decode cX1_takeAllAsPaid 17 = .ok (.aload_n 1, 1) := by decide +kernel
theorem dX1_takeAllAsPaid_18 : decode cX1_takeAllAsPaid 18 = .ok (.getfield 76, 3) := by decide +kernel
theorem dX1_takeAllAsPaid_21 : decode cX1_takeAllAsPaid 21 = .ok (.iload_n 3, 1) := by decide +kernel
theorem dX1_takeAllAsPaid_22 : decode cX1_takeAllAsPaid 22 = .ok (.iaload, 1) := by decide +kernel
theorem dX1_takeAllAsPaid_23 : decode cX1_takeAllAsPaid 23 = .ok (.aload_n 1, 1) := by decide +kernel
theorem dX1_takeAllAsPaid_24 : decode cX1_takeAllAsPaid 24 = .ok (.getfield 79, 3) := by decide +kernel
theorem dX1_takeAllAsPaid_27 : decode cX1_takeAllAsPaid 27 = .ok (.iload_n 3, 1) := by decide +kernel
theorem dX1_takeAllAsPaid_28 : decode cX1_takeAllAsPaid 28 = .ok (.iaload, 1) := by decide +kernel
theorem dX1_takeAllAsPaid_29 : decode cX1_takeAllAsPaid 29 = .ok (.invokevirtual 82, 3) := by decide +kernel
theorem dX1_takeAllAsPaid_32 : decode cX1_takeAllAsPaid 32 = .ok (.istore 4, 2) := by decide +kernel
theorem dX1_takeAllAsPaid_34 : decode cX1_takeAllAsPaid 34 = .ok (.aload_n 0, 1) := by decide +kernel
theorem dX1_takeAllAsPaid_35 : decode cX1_takeAllAsPaid 35 = .ok (.getfield 9, 3) := by decide +kernel
theorem dX1_takeAllAsPaid_38 : decode cX1_takeAllAsPaid 38 = .ok (.iload_n 3, 1) := by decide +kernel
theorem dX1_takeAllAsPaid_39 : decode cX1_takeAllAsPaid 39 = .ok (.iload 4, 2) := by decide +kernel
theorem dX1_takeAllAsPaid_41 : decode cX1_takeAllAsPaid 41 = .ok (.iastore, 1) := by decide +kernel
theorem dX1_takeAllAsPaid_42 : decode cX1_takeAllAsPaid 42 = .ok (.aload_n 0, 1) := by decide +kernel
theorem dX1_takeAllAsPaid_43 : decode cX1_takeAllAsPaid 43 = .ok (.getfield 18, 3) := by decide +kernel
theorem dX1_takeAllAsPaid_46 : decode cX1_takeAllAsPaid 46 = .ok (.aload_n 1, 1) := by decide +kernel
theorem dX1_takeAllAsPaid_47 : decode cX1_takeAllAsPaid 47 = .ok (.getfield 88, 3) := by decide +kernel
theorem dX1_takeAllAsPaid_50 : decode cX1_takeAllAsPaid 50 = .ok (.iload_n 3, 1) := by decide +kernel
theorem dX1_takeAllAsPaid_51 : decode cX1_takeAllAsPaid 51 = .ok (.iaload, 1) := by decide +kernel
theorem dX1_takeAllAsPaid_52 : decode cX1_takeAllAsPaid 52 = .ok (.dup2, 1) := by decide +kernel
theorem dX1_takeAllAsPaid_53 : decode cX1_takeAllAsPaid 53 = .ok (.iaload, 1) := by decide +kernel
theorem dX1_takeAllAsPaid_54 : decode cX1_takeAllAsPaid 54 = .ok (.iload 4, 2) := by decide +kernel
theorem dX1_takeAllAsPaid_56 : decode cX1_takeAllAsPaid 56 = .ok (.isub, 1) := by decide +kernel
theorem dX1_takeAllAsPaid_57 : decode cX1_takeAllAsPaid 57 = .ok (.iastore, 1) := by decide +kernel
theorem dX1_takeAllAsPaid_58 : decode cX1_takeAllAsPaid 58 = .ok (.aload_n 0, 1) := by decide +kernel
theorem dX1_takeAllAsPaid_59 : decode cX1_takeAllAsPaid 59 = .ok (.getfield 18, 3) := by decide +kernel
theorem dX1_takeAllAsPaid_62 : decode cX1_takeAllAsPaid 62 = .ok (.aload_n 1, 1) := by decide +kernel
theorem dX1_takeAllAsPaid_63 : decode cX1_takeAllAsPaid 63 = .ok (.getfield 91, 3) := by decide +kernel
theorem dX1_takeAllAsPaid_66 : decode cX1_takeAllAsPaid 66 = .ok (.iload_n 3, 1) := by decide +kernel
theorem dX1_takeAllAsPaid_67 : decode cX1_takeAllAsPaid 67 = .ok (.iaload, 1) := by decide +kernel
theorem dX1_takeAllAsPaid_68 : decode cX1_takeAllAsPaid 68 = .ok (.dup2, 1) := by decide +kernel
theorem dX1_takeAllAsPaid_69 : decode cX1_takeAllAsPaid 69 = .ok (.iaload, 1) := by decide +kernel
theorem dX1_takeAllAsPaid_70 : decode cX1_takeAllAsPaid 70 = .ok (.iload 4, 2) := by decide +kernel
theorem dX1_takeAllAsPaid_72 : decode cX1_takeAllAsPaid 72 = .ok (.iadd, 1) := by decide +kernel
theorem dX1_takeAllAsPaid_73 : decode cX1_takeAllAsPaid 73 = .ok (.iastore, 1) := by decide +kernel
theorem dX1_takeAllAsPaid_74 : decode cX1_takeAllAsPaid 74 = .ok (.iinc 3 1, 3) := by decide +kernel
theorem dX1_takeAllAsPaid_77 : decode cX1_takeAllAsPaid 77 = .ok (.goto (-75), 3) := by decide +kernel
theorem dX1_takeAllAsPaid_80 : decode cX1_takeAllAsPaid 80 = .ok (.return_, 1) := by decide +kernel
set_option maxRecDepth 20000 in
theorem ggX1_putInOrder_X2_rankFor : GoodIn wsX1_putInOrder wsX2_rankFor := goodIn_r _ [7, 8, 9, 10, 11, 6, 12, 13, 35, 36, 37, 38, 39] (by decide +kernel) (by decide +kernel)
set_option maxRecDepth 20000 in
theorem gX1_putInOrder_X2_rankFor : GoodIn wsX1_putInOrder (wsV RX1 94 RX2 yX2_rankFor wsX2_rankFor) := goodIn_app (goodIn_of _ (by decide +kernel)) ggX1_putInOrder_X2_rankFor
theorem dX1_putInOrder_0 : decode cX1_putInOrder 0 = .ok (.iconst 0, 1) := by decide +kernel
theorem dX1_putInOrder_1 : decode cX1_putInOrder 1 = .ok (.istore_n 3, 1) := by decide +kernel
theorem dX1_putInOrder_2 : decode cX1_putInOrder 2 = .ok (.iconst 0, 1) := by decide +kernel
theorem dX1_putInOrder_3 : decode cX1_putInOrder 3 = .ok (.istore 4, 2) := by decide +kernel
theorem dX1_putInOrder_5 : decode cX1_putInOrder 5 = .ok (.iload 4, 2) := by decide +kernel
theorem dX1_putInOrder_7 : decode cX1_putInOrder 7 = .ok (.iconst 4, 1) := by decide +kernel
theorem dX1_putInOrder_8 : decode cX1_putInOrder 8 = .ok (.if_icmp .ge 67, 3) := by decide +kernel
theorem dX1_putInOrder_11 : decode cX1_putInOrder 11 = .ok (.iconst 0, 1) := by decide +kernel
theorem dX1_putInOrder_12 : decode cX1_putInOrder 12 = .ok (.istore 5, 2) := by decide +kernel
theorem dX1_putInOrder_14 : decode cX1_putInOrder 14 = .ok (.iload 5, 2) := by decide +kernel
theorem dX1_putInOrder_16 : decode cX1_putInOrder 16 = .ok (.aload_n 0, 1) := by decide +kernel
theorem dX1_putInOrder_17 : decode cX1_putInOrder 17 = .ok (.getfield 37, 3) := by decide +kernel
theorem dX1_putInOrder_20 : decode cX1_putInOrder 20 = .ok (.if_icmp .ge 49, 3) := by decide +kernel
theorem dX1_putInOrder_23 : decode cX1_putInOrder 23 = .ok (.iload_n 3, 1) := by decide +kernel
theorem dX1_putInOrder_24 : decode cX1_putInOrder 24 = .ok (.bipush 40, 2) := by decide +kernel
theorem dX1_putInOrder_26 : decode cX1_putInOrder 26 = .ok (.if_icmp .ge 43, 3) := by decide +kernel
theorem dX1_putInOrder_29 : decode cX1_putInOrder 29 = .ok (.aload_n 2, 1) := by decide +kernel
theorem dX1_putInOrder_30 : decode cX1_putInOrder 30 = .ok (.aload_n 1, 1) := by decide +kernel
theorem dX1_putInOrder_31 : decode cX1_putInOrder 31 = .ok (.getfield 76, 3) := by decide +kernel
theorem dX1_putInOrder_34 : decode cX1_putInOrder 34 = .ok (.iload 5, 2) := by decide +kernel
theorem dX1_putInOrder_36 : decode cX1_putInOrder 36 = .ok (.iaload, 1) := by decide +kernel
theorem dX1_putInOrder_37 : decode cX1_putInOrder 37 = .ok (.aload_n 1, 1) := by decide +kernel
theorem dX1_putInOrder_38 : decode cX1_putInOrder 38 = .ok (.getfield 79, 3) := by decide +kernel
theorem dX1_putInOrder_41 : decode cX1_putInOrder 41 = .ok (.iload 5, 2) := by decide +kernel
theorem dX1_putInOrder_43 : decode cX1_putInOrder 43 = .ok (.iaload, 1) := by decide +kernel
theorem dX1_putInOrder_44 : decode cX1_putInOrder 44 = .ok (.invokevirtual 94, 3) := by decide +kernel
theorem dX1_putInOrder_47 : decode cX1_putInOrder 47 = .ok (.iload 4, 2) := by decide +kernel
theorem dX1_putInOrder_49 : decode cX1_putInOrder 49 = .ok (.if_icmp .ne 14, 3) := by decide +kernel
theorem dX1_putInOrder_52 : decode cX1_putInOrder 52 = .ok (.aload_n 0, 1) := by decide +kernel
theorem dX1_putInOrder_53 : decode cX1_putInOrder 53 = .ok (.getfield 15, 3) := by decide +kernel
theorem dX1_putInOrder_56 : decode cX1_putInOrder 56 = .ok (.iload_n 3, 1) := by decide +kernel
theorem dX1_putInOrder_57 : decode cX1_putInOrder 57 = .ok (.iload 5, 2) := by decide +kernel
theorem dX1_putInOrder_59 : decode cX1_putInOrder 59 = .ok (.iastore, 1) := by decide +kernel
theorem dX1_putInOrder_60 : decode cX1_putInOrder 60 = .ok (.iinc 3 1, 3) := by decide +kernel
theorem dX1_putInOrder_63 : decode cX1_putInOrder 63 = .ok (.iinc 5 1, 3) := by decide +kernel
theorem dX1_putInOrder_66 : decode cX1_putInOrder 66 = .ok (.goto (-52), 3) := by decide +kernel
theorem dX1_putInOrder_69 : decode cX1_putInOrder 69 = .ok (.iinc 4 1, 3) := by decide +kernel
theorem dX1_putInOrder_72 : decode cX1_putInOrder 72 = .ok (.goto (-67), 3) := by decide +kernel
theorem dX1_putInOrder_75 : decode cX1_putInOrder 75 = .ok (.return_, 1) := by decide +kernel
set_option maxRecDepth 20000 in
theorem ggX1_goRound_X1_payLess : GoodIn wsX1_goRound wsX1_payLess := goodIn_r _ [8, 9, 10, 11, 12, 13, 14, 15, 16, 2, 17, 22, 23, 24, 25, 26, 27, 28, 29, 30, 31, 32, 33, 34, 35, 36, 37, 38, 39, 40, 41, 42] (by decide +kernel) (by decide +kernel)
set_option maxRecDepth 20000 in
theorem gX1_goRound_X1_payLess : GoodIn wsX1_goRound (wsV RX1 98 RX1 yX1_payLess wsX1_payLess) := goodIn_app (goodIn_of _ (by decide +kernel)) ggX1_goRound_X1_payLess
set_option maxRecDepth 20000 in
theorem ggX1_goRound_X1_loseWhatIsNotPaid : GoodIn wsX1_goRound wsX1_loseWhatIsNotPaid := goodIn_r _ [21, 1, 2, 16, 22, 23, 24, 25, 26, 27, 28, 29, 30, 31] (by decide +kernel) (by decide +kernel)
set_option maxRecDepth 20000 in
theorem gX1_goRound_X1_loseWhatIsNotPaid : GoodIn wsX1_goRound (wsV RX1 102 RX1 yX1_loseWhatIsNotPaid wsX1_loseWhatIsNotPaid) := goodIn_app (goodIn_of _ (by decide +kernel)) ggX1_goRound_X1_loseWhatIsNotPaid
theorem dX1_goRound_0 : decode cX1_goRound 0 = .ok (.iconst 0, 1) := by decide +kernel
theorem dX1_goRound_1 : decode cX1_goRound 1 = .ok (.istore_n 3, 1) := by decide +kernel
theorem dX1_goRound_2 : decode cX1_goRound 2 = .ok (.iconst 0, 1) := by decide +kernel
theorem dX1_goRound_3 : decode cX1_goRound 3 = .ok (.istore 4, 2) := by decide +kernel
theorem dX1_goRound_5 : decode cX1_goRound 5 = .ok (.iload 4, 2) := by decide +kernel
theorem dX1_goRound_7 : decode cX1_goRound 7 = .ok (.aload_n 0, 1) := by decide +kernel
theorem dX1_goRound_8 : decode cX1_goRound 8 = .ok (.getfield 33, 3) := by decide +kernel
theorem dX1_goRound_11 : decode cX1_goRound 11 = .ok (.if_icmp .ge 64, 3) := by decide +kernel
theorem dX1_goRound_14 : decode cX1_goRound 14 = .ok (.aload_n 0, 1) := by decide +kernel
theorem dX1_goRound_15 : decode cX1_goRound 15 = .ok (.getfield 18, 3) := by decide +kernel
theorem dX1_goRound_18 : decode cX1_goRound 18 = .ok (.iload 4, 2) := by decide +kernel
theorem dX1_goRound_20 : decode cX1_goRound 20 = .ok (.iaload, 1) := by decide +kernel
theorem dX1_goRound_21 : decode cX1_goRound 21 = .ok (.ifCond .ge 48, 3) := by decide +kernel
theorem dX1_goRound_24 : decode cX1_goRound 24 = .ok (.aload_n 0, 1) := by decide +kernel
theorem dX1_goRound_25 : decode cX1_goRound 25 = .ok (.aload_n 1, 1) := by decide +kernel
theorem dX1_goRound_26 : decode cX1_goRound 26 = .ok (.iload 4, 2) := by decide +kernel
theorem dX1_goRound_28 : decode cX1_goRound 28 = .ok (.aload_n 0, 1) := by decide +kernel
theorem dX1_goRound_29 : decode cX1_goRound 29 = .ok (.getfield 18, 3) := by decide +kernel
theorem dX1_goRound_32 : decode cX1_goRound 32 = .ok (.iload 4, 2) := by decide +kernel
theorem dX1_goRound_34 : decode cX1_goRound 34 = .ok (.iaload, 1) := by decide +kernel
theorem dX1_goRound_35 : decode cX1_goRound 35 = .ok (.ineg, 1) := by decide +kernel
theorem dX1_goRound_36 : decode cX1_goRound 36 = .ok (.invokevirtual 98, 3) := by decide +kernel
theorem dX1_goRound_39 : decode cX1_goRound 39 = .ok (.aload_n 0, 1) := by decide +kernel
theorem dX1_goRound_40 : decode cX1_goRound 40 = .ok (.getfield 24, 3) := by decide +kernel
theorem dX1_goRound_43 : decode cX1_goRound 43 = .ok (.iload 4, 2) := by decide +kernel
theorem dX1_goRound_45 : decode cX1_goRound 45 = .ok (.aload_n 0, 1) := by decide +kernel
theorem dX1_goRound_46 : decode cX1_goRound 46 = .ok (.getfield 24, 3) := by decide +kernel
theorem dX1_goRound_49 : decode cX1_goRound 49 = .ok (.iload 4, 2) := by decide +kernel
theorem dX1_goRound_51 : decode cX1_goRound 51 = .ok (.iaload, 1) := by decide +kernel
theorem dX1_goRound_52 : decode cX1_goRound 52 = .ok (.ifCond .ne 7, 3) := by decide +kernel
theorem dX1_goRound_55 : decode cX1_goRound 55 = .ok (.iload_n 2, 1) := by decide +kernel
theorem dX1_goRound_56 : decode cX1_goRound 56 = .ok (.goto 10, 3) := by decide +kernel
theorem dX1_goRound_59 : decode cX1_goRound 59 = .ok (.aload_n 0, 1) := by decide +kernel
theorem dX1_goRound_60 : decode cX1_goRound 60 = .ok (.getfield 24, 3) := by decide +kernel
theorem dX1_goRound_63 : decode cX1_goRound 63 = .ok (.iload 4, 2) := by decide +kernel
theorem dX1_goRound_65 : decode cX1_goRound 65 = .ok (.iaload, 1) := by decide +kernel
theorem dX1_goRound_66 : decode cX1_goRound 66 = .ok (.iastore, 1) := by decide +kernel
