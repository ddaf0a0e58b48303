theorem dX3_isTold_41 : decode cX3_isTold 41 = .ok (.iload_n 3, 1) := by decide +kernel
theorem dX3_isTold_42 : decode cX3_isTold 42 = .ok (.if_icmp .ne 29, 3) := by decide +kernel
theorem dX3_isTold_45 : decode cX3_isTold 45 = .ok (.aload_n 0, 1) := by decide +kernel
theorem dX3_isTold_46 : decode cX3_isTold 46 = .ok (.getfield 21, 3) := by decide +kernel
theorem dX3_isTold_49 : decode cX3_isTold 49 = .ok (.iload 6, 2) := by decide +kernel
theorem dX3_isTold_51 : decode cX3_isTold 51 = .ok (.iaload, 1) := by decide +kernel
theorem dX3_isTold_52 : decode cX3_isTold 52 = .ok (.iload 4, 2) := by decide +kernel
theorem dX3_isTold_54 : decode cX3_isTold 54 = .ok (.if_icmp .ne 17, 3) := by decide +kernel
theorem dX3_isTold_57 : decode cX3_isTold 57 = .ok (.aload_n 0, 1) := by decide +kernel
theorem dX3_isTold_58 : decode cX3_isTold 58 = .ok (.getfield 24, 3) := by decide +kernel
theorem dX3_isTold_61 : decode cX3_isTold 61 = .ok (.iload 6, 2) := by decide +kernel
theorem dX3_isTold_63 : decode cX3_isTold 63 = .ok (.iaload, 1) := by decide +kernel
theorem dX3_isTold_64 : decode cX3_isTold 64 = .ok (.iload 5, 2) := by decide +kernel
theorem dX3_isTold_66 : decode cX3_isTold 66 = .ok (.if_icmp .ne 5, 3) := by decide +kernel
theorem dX3_isTold_69 : decode cX3_isTold 69 = .ok (.iconst 1, 1) := by decide +kernel
theorem dX3_isTold_70 : decode cX3_isTold 70 = .ok (.ireturn, 1) := by decide +kernel
theorem dX3_isTold_71 : decode cX3_isTold 71 = .ok (.iinc 6 1, 3) := by decide +kernel
theorem dX3_isTold_74 : decode cX3_isTold 74 = .ok (.goto (-71), 3) := by decide +kernel
theorem dX3_isTold_77 : decode cX3_isTold 77 = .ok (.iconst 0, 1) := by decide +kernel
theorem dX3_isTold_78 : decode cX3_isTold 78 = .ok (.ireturn, 1) := by decide +kernel
theorem dX3_tell_0 : decode cX3_tell 0 = .ok (.iload_n 2, 1) := by decide +kernel
theorem dX3_tell_1 : decode cX3_tell 1 = .ok (.tableswitch 81 0 5 #[39, 46, 53, 60, 67, 74], 39) := by decide +kernel
theorem dX3_tell_40 : decode cX3_tell 40 = .ok (.aload_n 0, 1) := by decide +kernel
theorem dX3_tell_41 : decode cX3_tell 41 = .ok (.getfield 31, 3) := by decide +kernel
theorem dX3_tell_44 : decode cX3_tell 44 = .ok (.iload_n 1, 1) := by decide +kernel
theorem dX3_tell_45 : decode cX3_tell 45 = .ok (.iaload, 1) := by decide +kernel
theorem dX3_tell_46 : decode cX3_tell 46 = .ok (.ireturn, 1) := by decide +kernel
theorem dX3_tell_47 : decode cX3_tell 47 = .ok (.aload_n 0, 1) := by decide +kernel
theorem dX3_tell_48 : decode cX3_tell 48 = .ok (.getfield 34, 3) := by decide +kernel
theorem dX3_tell_51 : decode cX3_tell 51 = .ok (.iload_n 1, 1) := by decide +kernel
theorem dX3_tell_52 : decode cX3_tell 52 = .ok (.iaload, 1) := by decide +kernel
theorem dX3_tell_53 : decode cX3_tell 53 = .ok (.ireturn, 1) := by decide +kernel
theorem dX3_tell_54 : decode cX3_tell 54 = .ok (.aload_n 0, 1) := by decide +kernel
theorem dX3_tell_55 : decode cX3_tell 55 = .ok (.getfield 18, 3) := by decide +kernel
theorem dX3_tell_58 : decode cX3_tell 58 = .ok (.iload_n 1, 1) := by decide +kernel
theorem dX3_tell_59 : decode cX3_tell 59 = .ok (.iaload, 1) := by decide +kernel
theorem dX3_tell_60 : decode cX3_tell 60 = .ok (.ireturn, 1) := by decide +kernel
theorem dX3_tell_61 : decode cX3_tell 61 = .ok (.aload_n 0, 1) := by decide +kernel
theorem dX3_tell_62 : decode cX3_tell 62 = .ok (.getfield 37, 3) := by decide +kernel
theorem dX3_tell_65 : decode cX3_tell 65 = .ok (.iload_n 1, 1) := by decide +kernel
theorem dX3_tell_66 : decode cX3_tell 66 = .ok (.iaload, 1) := by decide +kernel
theorem dX3_tell_67 : decode cX3_tell 67 = .ok (.ireturn, 1) := by decide +kernel
theorem dX3_tell_68 : decode cX3_tell 68 = .ok (.aload_n 0, 1) := by decide +kernel
theorem dX3_tell_69 : decode cX3_tell 69 = .ok (.getfield 40, 3) := by decide +kernel
theorem dX3_tell_72 : decode cX3_tell 72 = .ok (.iload_n 1, 1) := by decide +kernel
theorem dX3_tell_73 : decode cX3_tell 73 = .ok (.iaload, 1) := by decide +kernel
theorem dX3_tell_74 : decode cX3_tell 74 = .ok (.ireturn, 1) := by decide +kernel
theorem dX3_tell_75 : decode cX3_tell 75 = .ok (.aload_n 0, 1) := by decide +kernel
theorem dX3_tell_76 : decode cX3_tell 76 = .ok (.getfield 24, 3) := by decide +kernel
theorem dX3_tell_79 : decode cX3_tell 79 = .ok (.iload_n 1, 1) := by decide +kernel
theorem dX3_tell_80 : decode cX3_tell 80 = .ok (.iaload, 1) := by decide +kernel
theorem dX3_tell_81 : decode cX3_tell 81 = .ok (.ireturn, 1) := by decide +kernel
theorem dX3_tell_82 : decode cX3_tell 82 = .ok (.aload_n 0, 1) := by decide +kernel
theorem dX3_tell_83 : decode cX3_tell 83 = .ok (.getfield 27, 3) := by decide +kernel
theorem dX3_tell_86 : decode cX3_tell 86 = .ok (.iload_n 1, 1) := by decide +kernel
theorem dX3_tell_87 : decode cX3_tell 87 = .ok (.baload, 1) := by decide +kernel
theorem dX3_tell_88 : decode cX3_tell 88 = .ok (.ifCond .eq 7, 3) := by decide +kernel
theorem dX3_tell_91 : decode cX3_tell 91 = .ok (.iconst 1, 1) := by decide +kernel
theorem dX3_tell_92 : decode cX3_tell 92 = .ok (.goto 4, 3) := by decide +kernel
theorem dX3_tell_95 : decode cX3_tell 95 = .ok (.iconst 0, 1) := by decide +kernel
theorem dX3_tell_96 : decode cX3_tell 96 = .ok (.ireturn, 1) := by decide +kernel
theorem dX3_netOf_0 : decode cX3_netOf 0 = .ok (.iconst 0, 1) := by decide +kernel
theorem dX3_netOf_1 : decode cX3_netOf 1 = .ok (.istore_n 2, 1) := by decide +kernel
theorem dX3_netOf_2 : decode cX3_netOf 2 = .ok (.iconst 0, 1) := by decide +kernel
theorem dX3_netOf_3 : decode cX3_netOf 3 = .ok (.istore_n 3, 1) := by decide +kernel
theorem dX3_netOf_4 : decode cX3_netOf 4 = .ok (.iload_n 3, 1) := by decide +kernel
theorem dX3_netOf_5 : decode cX3_netOf 5 = .ok (.aload_n 0, 1) := by decide +kernel
theorem dX3_netOf_6 : decode cX3_netOf 6 = .ok (.getfield 43, 3) := by decide +kernel
theorem dX3_netOf_9 : decode cX3_netOf 9 = .ok (.if_icmp .ge 47, 3) := by decide +kernel
theorem dX3_netOf_12 : decode cX3_netOf 12 = .ok (.aload_n 0, 1) := by decide +kernel
theorem dX3_netOf_13 : decode cX3_netOf 13 = .ok (.getfield 34, 3) := by decide +kernel
theorem dX3_netOf_16 : decode cX3_netOf 16 = .ok (.iload_n 3, 1) := by decide +kernel
theorem dX3_netOf_17 : decode cX3_netOf 17 = .ok (.iaload, 1) := by decide +kernel
theorem dX3_netOf_18 : decode cX3_netOf 18 = .ok (.iload_n 1, 1) := by decide +kernel
theorem dX3_netOf_19 : decode cX3_netOf 19 = .ok (.if_icmp .ne 12, 3) := by decide +kernel
theorem dX3_netOf_22 : decode cX3_netOf 22 = .ok (.iload_n 2, 1) := by decide +kernel
theorem dX3_netOf_23 : decode cX3_netOf 23 = .ok (.aload_n 0, 1) := by decide +kernel
theorem dX3_netOf_24 : decode cX3_netOf 24 = .ok (.getfield 40, 3) := by decide +kernel
theorem dX3_netOf_27 : decode cX3_netOf 27 = .ok (.iload_n 3, 1) := by decide +kernel
theorem dX3_netOf_28 : decode cX3_netOf 28 = .ok (.iaload, 1) := by decide +kernel
theorem dX3_netOf_29 : decode cX3_netOf 29 = .ok (.iadd, 1) := by decide +kernel
theorem dX3_netOf_30 : decode cX3_netOf 30 = .ok (.istore_n 2, 1) := by decide +kernel
theorem dX3_netOf_31 : decode cX3_netOf 31 = .ok (.aload_n 0, 1) := by decide +kernel
theorem dX3_netOf_32 : decode cX3_netOf 32 = .ok (.getfield 31, 3) := by decide +kernel
theorem dX3_netOf_35 : decode cX3_netOf 35 = .ok (.iload_n 3, 1) := by decide +kernel
theorem dX3_netOf_36 : decode cX3_netOf 36 = .ok (.iaload, 1) := by decide +kernel
theorem dX3_netOf_37 : decode cX3_netOf 37 = .ok (.iload_n 1, 1) := by decide +kernel
theorem dX3_netOf_38 : decode cX3_netOf 38 = .ok (.if_icmp .ne 12, 3) := by decide +kernel
theorem dX3_netOf_41 : decode cX3_netOf 41 = .ok (.iload_n 2, 1) := by decide +kernel
theorem dX3_netOf_42 : decode cX3_netOf 42 = .ok (.aload_n 0, 1) := by decide +kernel
theorem dX3_netOf_43 : decode cX3_netOf 43 = .ok (.getfield 40, 3) := by decide +kernel
theorem dX3_netOf_46 : decode cX3_netOf 46 = .ok (.iload_n 3, 1) := by decide +kernel
theorem dX3_netOf_47 : decode cX3_netOf 47 = .ok (.iaload, 1) := by decide +kernel
theorem dX3_netOf_48 : decode cX3_netOf 48 = .ok (.isub, 1) := by decide +kernel
theorem dX3_netOf_49 : decode cX3_netOf 49 = .ok (.istore_n 2, 1) := by decide +kernel
theorem dX3_netOf_50 : decode cX3_netOf 50 = .ok (.iinc 3 1, 3) := by decide +kernel
theorem dX3_netOf_53 : decode cX3_netOf 53 = .ok (.goto (-49), 3) := by decide +kernel
theorem dX3_netOf_56 : decode cX3_netOf 56 = .ok (.iload_n 2, 1) := by decide +kernel
theorem dX3_netOf_57 : decode cX3_netOf 57 = .ok (.ireturn, 1) := by decide +kernel
theorem dX3_handOver_0 : decode cX3_handOver 0 = .ok (.iconst 0, 1) := by decide +kernel
theorem dX3_handOver_1 : decode cX3_handOver 1 = .ok (.istore_n 3, 1) := by decide +kernel
theorem dX3_handOver_2 : decode cX3_handOver 2 = .ok (.iload_n 3, 1) := by decide +kernel
theorem dX3_handOver_3 : decode cX3_handOver 3 = .ok (.aload_n 0, 1) := by decide +kernel
theorem dX3_handOver_4 : decode cX3_handOver 4 = .ok (.getfield 43, 3) := by decide +kernel
theorem dX3_handOver_7 : decode cX3_handOver 7 = .ok (.if_icmp .ge 65, 3) := by decide +kernel
theorem dX3_handOver_10 : decode cX3_handOver 10 = .ok (.aload_n 0, 1) := by decide +kernel
theorem dX3_handOver_11 : decode cX3_handOver 11 = .ok (.getfield 31, 3) := by decide +kernel
theorem dX3_handOver_14 : decode cX3_handOver 14 = .ok (.iload_n 3, 1) := by decide +kernel
theorem dX3_handOver_15 : decode cX3_handOver 15 = .ok (.iaload, 1) := by decide +kernel
theorem dX3_handOver_16 : decode cX3_handOver 16 = .ok (.iload_n 1, 1) := by decide +kernel
theorem dX3_handOver_17 : decode cX3_handOver 17 = .ok (.if_icmp .ne 10, 3) := by decide +kernel
theorem dX3_handOver_20 : decode cX3_handOver 20 = .ok (.aload_n 0, 1) := by decide +kernel
theorem dX3_handOver_21 : decode cX3_handOver 21 = .ok (.getfield 31, 3) := by decide +kernel
theorem dX3_handOver_24 : decode cX3_handOver 24 = .ok (.iload_n 3, 1) := by decide +kernel
theorem dX3_handOver_25 : decode cX3_handOver 25 = .ok (.iload_n 2, 1) := by decide +kernel
theorem dX3_handOver_26 : decode cX3_handOver 26 = .ok (.iastore, 1) := by decide +kernel
theorem dX3_handOver_27 : decode cX3_handOver 27 = .ok (.aload_n 0, 1) := by decide +kernel
theorem dX3_handOver_28 : decode cX3_handOver 28 = .ok (.getfield 34, 3) := by decide +kernel
theorem dX3_handOver_31 : decode cX3_handOver 31 = .ok (.iload_n 3, 1) := by decide +kernel
theorem dX3_handOver_32 : decode cX3_handOver 32 = .ok (.iaload, 1) := by decide +kernel
theorem dX3_handOver_33 : decode cX3_handOver 33 = .ok (.iload_n 1, 1) := by decide +kernel
theorem dX3_handOver_34 : decode cX3_handOver 34 = .ok (.if_icmp .ne 10, 3) := by decide +kernel
theorem dX3_handOver_37 : decode cX3_handOver 37 = .ok (.aload_n 0, 1) := by decide +kernel
theorem dX3_handOver_38 : decode cX3_handOver 38 = .ok (.getfield 34, 3) := by decide +kernel
theorem dX3_handOver_41 : decode cX3_handOver 41 = .ok (.iload_n 3, 1) := by decide +kernel
theorem dX3_handOver_42 : decode cX3_handOver 42 = .ok (.iload_n 2, 1) := by decide +kernel
theorem dX3_handOver_43 : decode cX3_handOver 43 = .ok (.iastore, 1) := by decide +kernel
theorem dX3_handOver_44 : decode cX3_handOver 44 = .ok (.aload_n 0, 1) := by decide +kernel
theorem dX3_handOver_45 : decode cX3_handOver 45 = .ok (.getfield 31, 3) := by decide +kernel
theorem dX3_handOver_48 : decode cX3_handOver 48 = .ok (.iload_n 3, 1) := by decide +kernel
theorem dX3_handOver_49 : decode cX3_handOver 49 = .ok (.iaload, 1) := by decide +kernel
theorem dX3_handOver_50 : decode cX3_handOver 50 = .ok (.aload_n 0, 1) := by decide +kernel
theorem dX3_handOver_51 : decode cX3_handOver 51 = .ok (.getfield 34, 3) := by decide +kernel
theorem dX3_handOver_54 : decode cX3_handOver 54 = .ok (.iload_n 3, 1) := by decide +kernel
theorem dX3_handOver_55 : decode cX3_handOver 55 = .ok (.iaload, 1) := by decide +kernel
theorem dX3_handOver_56 : decode cX3_handOver 56 = .ok (.if_icmp .ne 10, 3) := by decide +kernel
theorem dX3_handOver_59 : decode cX3_handOver 59 = .ok (.aload_n 0, 1) := by decide +kernel
theorem dX3_handOver_60 : decode cX3_handOver 60 = .ok (.getfield 40, 3) := by decide +kernel
theorem dX3_handOver_63 : decode cX3_handOver 63 = .ok (.iload_n 3, 1) := by decide +kernel
theorem dX3_handOver_64 : decode cX3_handOver 64 = .ok (.iconst 0, 1) := by decide +kernel
theorem dX3_handOver_65 : decode cX3_handOver 65 = .ok (.iastore, 1) := by decide +kernel
theorem dX3_handOver_66 : decode cX3_handOver 66 = .ok (.iinc 3 1, 3) := by decide +kernel
theorem dX3_handOver_69 : decode cX3_handOver 69 = .ok (.goto (-67), 3) := by decide +kernel
theorem dX3_handOver_72 : decode cX3_handOver 72 = .ok (.return_, 1) := by decide +kernel
set_option maxRecDepth 20000 in
theorem ggX3_obey_X2_leftOf : GoodIn wsX3_obey wsX2_leftOf := goodIn_r _ [9, 10, 11, 12, 13, 14, 8, 15, 16, 33, 34, 35, 36, 37] (by decide +kernel) (by decide +kernel)
set_option maxRecDepth 20000 in
theorem gX3_obey_X2_leftOf : GoodIn wsX3_obey (wsV RX3 51 RX2 yX2_leftOf wsX2_leftOf) := goodIn_app (goodIn_of _ (by decide +kernel)) ggX3_obey_X2_leftOf
set_option maxRecDepth 20000 in
theorem ggX3_obey_X2_rankFor : GoodIn wsX3_obey wsX2_rankFor := goodIn_r _ [20, 21, 12, 13, 14, 8, 15, 16, 33, 34, 35, 36, 37] (by decide +kernel) (by decide +kernel)
set_option maxRecDepth 20000 in
theorem gX3_obey_X2_rankFor : GoodIn wsX3_obey (wsV RX3 57 RX2 yX2_rankFor wsX2_rankFor) := goodIn_app (goodIn_of _ (by decide +kernel)) ggX3_obey_X2_rankFor
theorem dX3_obey_0 : decode cX3_obey 0 = .ok (.iconst 0, 1) := by decide +kernel
theorem dX3_obey_1 : decode cX3_obey 1 = .ok (.istore_n 2, 1) := by decide +kernel
theorem dX3_obey_2 : decode cX3_obey 2 = .ok (.iconst 0, 1) := by decide +kernel
theorem dX3_obey_3 : decode cX3_obey 3 = .ok (.istore_n 3, 1) := by decide +kernel
theorem dX3_obey_4 : decode cX3_obey 4 = .ok (.iload_n 3, 1) := by decide +kernel
theorem dX3_obey_5 : decode cX3_obey 5 = .ok (.aload_n 0, 1) := by decide +kernel
theorem dX3_obey_6 : decode cX3_obey 6 = .ok (.getfield 43, 3) := by decide +kernel
theorem dX3_obey_9 : decode cX3_obey 9 = .ok (.if_icmp .ge 75, 3) := by decide +kernel
theorem dX3_obey_12 : decode cX3_obey 12 = .ok (.aload_n 1, 1) := by decide +kernel
theorem dX3_obey_13 : decode cX3_obey 13 = .ok (.aload_n 0, 1) := by decide +kernel
theorem dX3_obey_14 : decode cX3_obey 14 = .ok (.getfield 40, 3) := by decide +kernel
theorem dX3_obey_17 : decode cX3_obey 17 = .ok (.iload_n 3, 1) := by decide +kernel
theorem dX3_obey_18 : decode cX3_obey 18 = .ok (.iaload, 1) := by decide +kernel
theorem dX3_obey_19 : decode cX3_obey 19 = .ok (.aload_n 0, 1) := by decide +kernel
theorem dX3_obey_20 : decode cX3_obey 20 = .ok (.getfield 37, 3) := by decide +kernel
theorem dX3_obey_23 : decode cX3_obey 23 = .ok (.iload_n 3, 1) := by decide +kernel
theorem dX3_obey_24 : decode cX3_obey 24 = .ok (.iaload, 1) := by decide +kernel
theorem dX3_obey_25 : decode cX3_obey 25 = .ok (.aload_n 0, 1) := by decide +kernel
theorem dX3_obey_26 : decode cX3_obey 26 = .ok (.getfield 24, 3) := by decide +kernel
theorem dX3_obey_29 : decode cX3_obey 29 = .ok (.iload_n 3, 1) := by decide +kernel
theorem dX3_obey_30 : decode cX3_obey 30 = .ok (.iaload, 1) := by decide +kernel
theorem dX3_obey_31 : decode cX3_obey 31 = .ok (.invokevirtual 51, 3) := by decide +kernel
theorem dX3_obey_34 : decode cX3_obey 34 = .ok (.istore 4, 2) := by decide +kernel
theorem dX3_obey_36 : decode cX3_obey 36 = .ok (.iload_n 2, 1) := by decide +kernel
theorem dX3_obey_37 : decode cX3_obey 37 = .ok (.aload_n 0, 1) := by decide +kernel
theorem dX3_obey_38 : decode cX3_obey 38 = .ok (.getfield 40, 3) := by decide +kernel
theorem dX3_obey_41 : decode cX3_obey 41 = .ok (.iload_n 3, 1) := by decide +kernel
theorem dX3_obey_42 : decode cX3_obey 42 = .ok (.iaload, 1) := by decide +kernel
theorem dX3_obey_43 : decode cX3_obey 43 = .ok (.iload 4, 2) := by decide +kernel
theorem dX3_obey_45 : decode cX3_obey 45 = .ok (.isub, 1) := by decide +kernel
theorem dX3_obey_46 : decode cX3_obey 46 = .ok (.iadd, 1) := by decide +kernel
theorem dX3_obey_47 : decode cX3_obey 47 = .ok (.istore_n 2, 1) := by decide +kernel
theorem dX3_obey_48 : decode cX3_obey 48 = .ok (.aload_n 0, 1) := by decide +kernel
theorem dX3_obey_49 : decode cX3_obey 49 = .ok (.getfield 40, 3) := by decide +kernel
theorem dX3_obey_52 : decode cX3_obey 52 = .ok (.iload_n 3, 1) := by decide +kernel
theorem dX3_obey_53 : decode cX3_obey 53 = .ok (.iload 4, 2) := by decide +kernel
theorem dX3_obey_55 : decode cX3_obey 55 = .ok (.iastore, 1) := by decide +kernel
theorem dX3_obey_56 : decode cX3_obey 56 = .ok (.aload_n 0, 1) := by decide +kernel
theorem dX3_obey_57 : decode cX3_obey 57 = .ok (.getfield 37, 3) := by decide +kernel
theorem dX3_obey_60 : decode cX3_obey 60 = .ok (.iload_n 3, 1) := by decide +kernel
theorem dX3_obey_61 : decode cX3_obey 61 = .ok (.aload_n 1, 1) := by decide +kernel
theorem dX3_obey_62 : decode cX3_obey 62 = .ok (.aload_n 0, 1) := by decide +kernel
theorem dX3_obey_63 : decode cX3_obey 63 = .ok (.getfield 37, 3) := by decide +kernel
theorem dX3_obey_66 : decode cX3_obey 66 = .ok (.iload_n 3, 1) := by decide +kernel
theorem dX3_obey_67 : decode cX3_obey 67 = .ok (.iaload, 1) := by decide +kernel
theorem dX3_obey_68 : decode cX3_obey 68 = .ok (.aload_n 0, 1) := by decide +kernel
theorem dX3_obey_69 : decode cX3_obey 69 = .ok (.getfield 24, 3) := by decide +kernel
theorem dX3_obey_72 : decode cX3_obey 72 = .ok (.iload_n 3, 1) := by decide +kernel
theorem dX3_obey_73 : decode cX3_obey 73 = .ok (.iaload, 1) := by decide +kernel
theorem dX3_obey_74 : decode cX3_obey 74 = .ok (.invokevirtual 57, 3) := by decide +kernel
theorem dX3_obey_77 : decode cX3_obey 77 = .ok (.iastore, 1) := by decide +kernel
theorem dX3_obey_78 : decode cX3_obey 78 = .ok (.iinc 3 1, 3) := by decide +kernel
theorem dX3_obey_81 : decode cX3_obey 81 = .ok (.goto (-77), 3) := by decide +kernel
theorem dX3_obey_84 : decode cX3_obey 84 = .ok (.iload_n 2, 1) := by decide +kernel
theorem dX3_obey_85 : decode cX3_obey 85 = .ok (.ireturn, 1) := by decide +kernel
theorem dX3_leftInAll_0 : decode cX3_leftInAll 0 = .ok (.iconst 0, 1) := by decide +kernel
theorem dX3_leftInAll_1 : decode cX3_leftInAll 1 = .ok (.istore_n 1, 1) := by decide +kernel
theorem dX3_leftInAll_2 : decode cX3_leftInAll 2 = .ok (.iconst 0, 1) := by decide +kernel
theorem dX3_leftInAll_3 : decode cX3_leftInAll 3 = .ok (.istore_n 2, 1) := by decide +kernel
theorem dX3_leftInAll_4 : decode cX3_leftInAll 4 = .ok (.iload_n 2, 1) := by decide +kernel
theorem dX3_leftInAll_5 : decode cX3_leftInAll 5 = .ok (.aload_n 0, 1) := by decide +kernel
theorem dX3_leftInAll_6 : decode cX3_leftInAll 6 = .ok (.getfield 43, 3) := by decide +kernel
theorem dX3_leftInAll_9 : decode cX3_leftInAll 9 = .ok (.if_icmp .ge 18, 3) := by decide +kernel
theorem dX3_leftInAll_12 : decode cX3_leftInAll 12 = .ok (.iload_n 1, 1) := by decide +kernel
theorem dX3_leftInAll_13 : decode cX3_leftInAll 13 = .ok (.aload_n 0, 1) := by decide +kernel
theorem dX3_leftInAll_14 : decode cX3_leftInAll 14 = .ok (.getfield 40, 3) := by decide +kernel
theorem dX3_leftInAll_17 : decode cX3_leftInAll 17 = .ok (.iload_n 2, 1) := by decide +kernel
theorem dX3_leftInAll_18 : decode cX3_leftInAll 18 = .ok (.iaload, 1) := by decide +kernel
theorem dX3_leftInAll_19 : decode cX3_leftInAll 19 = .ok (.iadd, 1) := by decide +kernel
theorem dX3_leftInAll_20 : decode cX3_leftInAll 20 = .ok (.istore_n 1, 1) := by decide +kernel
theorem dX3_leftInAll_21 : decode cX3_leftInAll 21 = .ok (.iinc 2 1, 3) := by decide +kernel
theorem dX3_leftInAll_24 : decode cX3_leftInAll 24 = .ok (.goto (-20), 3) := by decide +kernel
theorem dX3_leftInAll_27 : decode cX3_leftInAll 27 = .ok (.iload_n 1, 1) := by decide +kernel
theorem dX3_leftInAll_28 : decode cX3_leftInAll 28 = .ok (.ireturn, 1) := by decide +kernel
theorem dX4_init_0 : decode cX4_init 0 = .ok (.aload_n 0, 1) := by decide +kernel
theorem dX4_init_1 : decode cX4_init 1 = .ok (.invokespecial 3, 3) := by decide +kernel
theorem dX4_init_4 : decode cX4_init 4 = .ok (.aload_n 0, 1) := by decide +kernel
theorem dX4_init_5 : decode cX4_init 5 = .ok (.sipush 300, 3) := by decide +kernel
theorem dX4_init_8 : decode cX4_init 8 = .ok (.newarray .int, 2) := by decide +kernel
theorem dX4_init_10 : decode cX4_init 10 = .ok (.putfield 9, 3) := by decide +kernel
theorem dX4_init_13 : decode cX4_init 13 = .ok (.aload_n 0, 1) := by decide +kernel
theorem dX4_init_14 : decode cX4_init 14 = .ok (.iconst 0, 1) := by decide +kernel
theorem dX4_init_15 : decode cX4_init 15 = .ok (.putfield 15, 3) := by decide +kernel
theorem dX4_init_18 : decode cX4_init 18 = .ok (.aload_n 0, 1) := by decide +kernel
theorem dX4_init_19 : decode cX4_init 19 = .ok (.iconst 5, 1) := by decide +kernel
theorem dX4_init_20 : decode cX4_init 20 = .ok (.putfield 19, 3) := by decide +kernel
theorem dX4_init_23 : decode cX4_init 23 = .ok (.aload_n 0, 1) := by decide +kernel
theorem dX4_init_24 : decode cX4_init 24 = .ok (.iconst 0, 1) := by decide +kernel
theorem dX4_init_25 : decode cX4_init 25 = .ok (.putfield 22, 3) := by decide +kernel
theorem dX4_init_28 : decode cX4_init 28 = .ok (.aload_n 0, 1) := by decide +kernel
theorem dX4_init_29 : decode cX4_init 29 = .ok (.iconst 0, 1) := by decide +kernel
theorem dX4_init_30 : decode cX4_init 30 = .ok (.putfield 25, 3) := by decide +kernel
theorem dX4_init_33 : decode cX4_init 33 = .ok (.aload_n 0, 1) := by decide +kernel
theorem dX4_init_34 : decode cX4_init 34 = .ok (.iconst 0, 1) := by decide +kernel
theorem dX4_init_35 : decode cX4_init 35 = .ok (.putfield 28, 3) := by decide +kernel
theorem dX4_init_38 : decode cX4_init 38 = .ok (.aload_n 0, 1) := by decide +kernel
theorem dX4_init_39 : decode cX4_init 39 = .ok (.iconst (-1), 1) := by decide +kernel
theorem dX4_init_40 : decode cX4_init 40 = .ok (.putfield 31, 3) := by decide +kernel
theorem dX4_init_43 : decode cX4_init 43 = .ok (.return_, 1) := by decide +kernel
set_option maxRecDepth 20000 in
theorem ggX4_read_X2_empty : GoodIn wsX4_read wsX2_empty := goodIn_r _ [15, 16, 17, 18, 19, 20, 21, 22, 23, 24, 140, 141, 142, 143, 144] (by decide +kernel) (by decide +kernel)
set_option maxRecDepth 20000 in
theorem gX4_read_X2_empty : GoodIn wsX4_read (wsV RX4 46 RX2 yX2_empty wsX2_empty) := goodIn_app (goodIn_of _ (by decide +kernel)) ggX4_read_X2_empty
set_option maxRecDepth 20000 in
theorem ggX4_read_X4_step : GoodIn wsX4_read wsX4_step := goodIn_r _ [29, 7, 5, 6, 30, 10, 31, 32, 28, 33, 34, 35, 36, 37, 133, 134, 135, 136, 137, 138, 139] (by decide +kernel) (by decide +kernel)
set_option maxRecDepth 20000 in
theorem gX4_read_X4_step : GoodIn wsX4_read (wsV RX4 51 RX4 yX4_step wsX4_step) := goodIn_app (goodIn_of _ (by decide +kernel)) ggX4_read_X4_step
set_option maxRecDepth 20000 in
theorem ggX4_read_X4_readLine : GoodIn wsX4_read wsX4_readLine := goodIn_r _ [41, 42, 43, 44, 28, 45, 10, 7, 30, 6, 46, 47, 48, 49, 50, 51, 52, 53, 54, 55, 56, 57, 58, 59, 60, 61, 62, 63, 64, 65, 66, 67, 68, 69, 70, 71, 72, 73, 74, 75, 76, 77, 78, 79, 80, 81, 82, 83, 84, 85, 86, 87, 88, 89, 90, 91, 92, 93, 94, 95, 96, 97, 98, 25, 26, 27, 29, 5, 31, 32, 33, 34, 35, 36, 37, 99, 100, 101, 102, 103, 104, 105, 106, 107, 108, 109, 110, 8, 9, 111, 112, 113, 114, 115, 116, 117, 118, 119, 120, 121, 122, 123, 124, 125, 126, 127, 128, 129, 130, 140, 141, 142, 143, 144, 133, 134, 135, 136, 137, 138, 139] (by decide +kernel) (by decide +kernel)
set_option maxRecDepth 20000 in
theorem gX4_read_X4_readLine : GoodIn wsX4_read (wsV RX4 54 RX4 yX4_readLine wsX4_readLine) := goodIn_app (goodIn_of _ (by decide +kernel)) ggX4_read_X4_readLine
theorem dX4_read_0 : decode cX4_read 0 = .ok (.aload_n 0, 1) := by decide +kernel
theorem dX4_read_1 : decode cX4_read 1 = .ok (.iload_n 2, 1) := by decide +kernel
theorem dX4_read_2 : decode cX4_read 2 = .ok (.aload_n 1, 1) := by decide +kernel
theorem dX4_read_3 : decode cX4_read 3 = .ok (.getfield 34, 3) := by decide +kernel
theorem dX4_read_6 : decode cX4_read 6 = .ok (.invokestatic 37, 3) := by decide +kernel
theorem dX4_read_9 : decode cX4_read 9 = .ok (.putfield 15, 3) := by decide +kernel
theorem dX4_read_12 : decode cX4_read 12 = .ok (.iconst 0, 1) := by decide +kernel
theorem dX4_read_13 : decode cX4_read 13 = .ok (.istore 4, 2) := by decide +kernel
theorem dX4_read_15 : decode cX4_read 15 = .ok (.iload 4, 2) := by decide +kernel
theorem dX4_read_17 : decode cX4_read 17 = .ok (.aload_n 0, 1) := by decide +kernel
theorem dX4_read_18 : decode cX4_read 18 = .ok (.getfield 15, 3) := by decide +kernel
theorem dX4_read_21 : decode cX4_read 21 = .ok (.if_icmp .ge 23, 3) := by decide +kernel
theorem dX4_read_24 : decode cX4_read 24 = .ok (.aload_n 0, 1) := by decide +kernel
theorem dX4_read_25 : decode cX4_read 25 = .ok (.getfield 9, 3) := by decide +kernel
theorem dX4_read_28 : decode cX4_read 28 = .ok (.iload 4, 2) := by decide +kernel
theorem dX4_read_30 : decode cX4_read 30 = .ok (.aload_n 1, 1) := by decide +kernel
theorem dX4_read_31 : decode cX4_read 31 = .ok (.getfield 43, 3) := by decide +kernel
theorem dX4_read_34 : decode cX4_read 34 = .ok (.iload 4, 2) := by decide +kernel
theorem dX4_read_36 : decode cX4_read 36 = .ok (.iaload, 1) := by decide +kernel
theorem dX4_read_37 : decode cX4_read 37 = .ok (.iastore, 1) := by decide +kernel
theorem dX4_read_38 : decode cX4_read 38 = .ok (.iinc 4 1, 3) := by decide +kernel
theorem dX4_read_41 : decode cX4_read 41 = .ok (.goto (-26), 3) := by decide +kernel
theorem dX4_read_44 : decode cX4_read 44 = .ok (.aload_n 0, 1) := by decide +kernel
theorem dX4_read_45 : decode cX4_read 45 = .ok (.iconst 0, 1) := by decide +kernel
theorem dX4_read_46 : decode cX4_read 46 = .ok (.putfield 25, 3) := by decide +kernel
theorem dX4_read_49 : decode cX4_read 49 = .ok (.aload_n 0, 1) := by decide +kernel
theorem dX4_read_50 : decode cX4_read 50 = .ok (.iconst 0, 1) := by decide +kernel
theorem dX4_read_51 : decode cX4_read 51 = .ok (.putfield 28, 3) := by decide +kernel
theorem dX4_read_54 : decode cX4_read 54 = .ok (.aload_n 0, 1) := by decide +kernel
theorem dX4_read_55 : decode cX4_read 55 = .ok (.iconst (-1), 1) := by decide +kernel
theorem dX4_read_56 : decode cX4_read 56 = .ok (.putfield 31, 3) := by decide +kernel
theorem dX4_read_59 : decode cX4_read 59 = .ok (.aload_n 3, 1) := by decide +kernel
theorem dX4_read_60 : decode cX4_read 60 = .ok (.invokevirtual 46, 3) := by decide +kernel
theorem dX4_read_63 : decode cX4_read 63 = .ok (.aload_n 0, 1) := by decide +kernel
theorem dX4_read_64 : decode cX4_read 64 = .ok (.invokevirtual 51, 3) := by decide +kernel
theorem dX4_read_67 : decode cX4_read 67 = .ok (.iconst 0, 1) := by decide +kernel
theorem dX4_read_68 : decode cX4_read 68 = .ok (.istore 4, 2) := by decide +kernel
theorem dX4_read_70 : decode cX4_read 70 = .ok (.iload 4, 2) := by decide +kernel
theorem dX4_read_72 : decode cX4_read 72 = .ok (.aload_n 0, 1) := by decide +kernel
theorem dX4_read_73 : decode cX4_read 73 = .ok (.getfield 15, 3) := by decide +kernel
theorem dX4_read_76 : decode cX4_read 76 = .ok (.if_icmp .ge 29, 3) := by decide +kernel
theorem dX4_read_79 : decode cX4_read 79 = .ok (.aload_n 0, 1) := by decide +kernel
theorem dX4_read_80 : decode cX4_read 80 = .ok (.getfield 19, 3) := by decide +kernel
theorem dX4_read_83 : decode cX4_read 83 = .ok (.iconst 5, 1) := by decide +kernel
theorem dX4_read_84 : decode cX4_read 84 = .ok (.if_icmp .eq 21, 3) := by decide +kernel
theorem dX4_read_87 : decode cX4_read 87 = .ok (.aload_n 0, 1) := by decide +kernel
theorem dX4_read_88 : decode cX4_read 88 = .ok (.getfield 28, 3) := by decide +kernel
theorem dX4_read_91 : decode cX4_read 91 = .ok (.ifCond .ne 14, 3) := by decide +kernel
theorem dX4_read_94 : decode cX4_read 94 = .ok (.aload_n 0, 1) := by decide +kernel
theorem dX4_read_95 : decode cX4_read 95 = .ok (.aload_n 3, 1) := by decide +kernel
theorem dX4_read_96 : decode cX4_read 96 = .ok (.invokevirtual 54, 3) := by decide +kernel
theorem dX4_read_99 : decode cX4_read 99 = .ok (.iinc 4 1, 3) := by decide +kernel
theorem dX4_read_102 : decode cX4_read 102 = .ok (.goto (-32), 3) := by decide +kernel
theorem dX4_read_105 : decode cX4_read 105 = .ok (.return_, 1) := by decide +kernel
set_option maxRecDepth 20000 in
theorem ggX4_readLine_X4_isWord : GoodIn wsX4_readLine wsX4_isWord := goodIn_r _ [5, 6, 7, 8, 9, 10, 11, 12, 13, 14, 15, 16, 17, 18, 19, 20, 21, 22, 23, 24, 25, 26, 27, 28, 29, 30, 31, 32, 33, 34, 35, 36, 37, 38, 39, 40, 41, 42, 43, 44, 45, 46, 47, 48, 49, 50, 51, 52, 53, 54, 55, 56, 57, 58, 114, 115, 116, 117, 118, 119, 120] (by decide +kernel) (by decide +kernel)
set_option maxRecDepth 20000 in
theorem gX4_readLine_X4_isWord : GoodIn wsX4_readLine (wsV RX4 60 RX4 yX4_isWord wsX4_isWord) := goodIn_app (goodIn_of _ (by decide +kernel)) ggX4_readLine_X4_isWord
set_option maxRecDepth 20000 in
theorem ggX4_readLine_X4_readCut : GoodIn wsX4_readLine wsX4_readCut := goodIn_r _ [62, 63, 64, 65, 4, 66, 7, 67, 9, 8, 6, 68, 69, 70, 71, 72, 73, 74, 75, 76, 77, 78, 79, 80, 81, 82, 83, 84, 85, 86, 87, 88, 89, 90, 91, 92, 109, 110, 111, 112, 113, 114, 115, 116, 117, 118, 119, 120] (by decide +kernel) (by decide +kernel)
set_option maxRecDepth 20000 in
theorem gX4_readLine_X4_readCut : GoodIn wsX4_readLine (wsV RX4 64 RX4 yX4_readCut wsX4_readCut) := goodIn_app (goodIn_of _ (by decide +kernel)) ggX4_readLine_X4_readCut
set_option maxRecDepth 20000 in
theorem ggX4_readLine_X4_readMove : GoodIn wsX4_readLine wsX4_readMove := goodIn_r _ [96, 63, 64, 65, 4, 66, 7, 67, 9, 8, 6, 68, 69, 70, 71, 72, 73, 74, 75, 76, 77, 78, 79, 80, 81, 82, 83, 84, 85, 86, 87, 88, 89, 90, 91, 92, 109, 110, 111, 112, 113, 114, 115, 116, 117, 118, 119, 120] (by decide +kernel) (by decide +kernel)
set_option maxRecDepth 20000 in
theorem gX4_readLine_X4_readMove : GoodIn wsX4_readLine (wsV RX4 69 RX4 yX4_readMove wsX4_readMove) := goodIn_app (goodIn_of _ (by decide +kernel)) ggX4_readLine_X4_readMove
set_option maxRecDepth 20000 in
theorem ggX4_readLine_X4_readSpare : GoodIn wsX4_readLine wsX4_readSpare := goodIn_r _ [100, 83, 84, 85, 4, 86, 87, 8, 88, 63, 64, 65, 66, 7, 67, 9, 6, 68, 69, 70, 71, 72, 73, 74, 89, 90, 91, 92, 79, 80, 81, 82, 109, 110, 111, 112, 113, 114, 115, 116, 117, 118, 119, 120] (by decide +kernel) (by decide +kernel)
set_option maxRecDepth 20000 in
theorem gX4_readLine_X4_readSpare : GoodIn wsX4_readLine (wsV RX4 74 RX4 yX4_readSpare wsX4_readSpare) := goodIn_app (goodIn_of _ (by decide +kernel)) ggX4_readLine_X4_readSpare
set_option maxRecDepth 20000 in
theorem ggX4_readLine_X4_readBefore : GoodIn wsX4_readLine wsX4_readBefore := goodIn_r _ [104, 83, 84, 85, 4, 86, 87, 8, 88, 63, 64, 65, 66, 7, 67, 9, 6, 68, 69, 70, 71, 72, 73, 74, 89, 90, 91, 92, 79, 80, 81, 82, 109, 110, 111, 112, 113, 114, 115, 116, 117, 118, 119, 120] (by decide +kernel) (by decide +kernel)
set_option maxRecDepth 20000 in
theorem gX4_readLine_X4_readBefore : GoodIn wsX4_readLine (wsV RX4 79 RX4 yX4_readBefore wsX4_readBefore) := goodIn_app (goodIn_of _ (by decide +kernel)) ggX4_readLine_X4_readBefore
set_option maxRecDepth 20000 in
theorem ggX4_readLine_X4_blame : GoodIn wsX4_readLine wsX4_blame := goodIn_r _ [86, 87, 8, 88, 114, 115, 116, 117, 118, 119, 120] (by decide +kernel) (by decide +kernel)
set_option maxRecDepth 20000 in
theorem gX4_readLine_X4_blame : GoodIn wsX4_readLine (wsV RX4 82 RX4 yX4_blame wsX4_blame) := goodIn_app (goodIn_of _ (by decide +kernel)) ggX4_readLine_X4_blame
set_option maxRecDepth 20000 in
theorem ggX4_readLine_X4_readSemicolon : GoodIn wsX4_readLine wsX4_readSemicolon := goodIn_r _ [108, 6, 83, 84, 85, 4, 86, 87, 8, 88, 63, 64, 65, 66, 7, 67, 9, 68, 69, 70, 71, 72, 73, 74, 114, 115, 116, 117, 118, 119, 120] (by decide +kernel) (by decide +kernel)
set_option maxRecDepth 20000 in
theorem gX4_readLine_X4_readSemicolon : GoodIn wsX4_readLine (wsV RX4 86 RX4 yX4_readSemicolon wsX4_readSemicolon) := goodIn_app (goodIn_of _ (by decide +kernel)) ggX4_readLine_X4_readSemicolon
theorem dX4_readLine_0 : decode cX4_readLine 0 = .ok (.aload_n 0, 1) := by decide +kernel
theorem dX4_readLine_1 : decode cX4_readLine 1 = .ok (.ldc 58, 2) := by decide +kernel
theorem dX4_readLine_3 : decode cX4_readLine 3 = .ok (.invokevirtual 60, 3) := by decide +kernel
theorem dX4_readLine_6 : decode cX4_readLine 6 = .ok (.ifCond .eq 11, 3) := by decide +kernel
theorem dX4_readLine_9 : decode cX4_readLine 9 = .ok (.aload_n 0, 1) := by decide +kernel
theorem dX4_readLine_10 : decode cX4_readLine 10 = .ok (.aload_n 1, 1) := by decide +kernel
theorem dX4_readLine_11 : decode cX4_readLine 11 = .ok (.invokevirtual 64, 3) := by decide +kernel
theorem dX4_readLine_14 : decode cX4_readLine 14 = .ok (.goto 59, 3) := by decide +kernel
theorem dX4_readLine_17 : decode cX4_readLine 17 = .ok (.aload_n 0, 1) := by decide +kernel
theorem dX4_readLine_18 : decode cX4_readLine 18 = .ok (.ldc 67, 2) := by decide +kernel
theorem dX4_readLine_20 : decode cX4_readLine 20 = .ok (.invokevirtual 60, 3) := by decide +kernel
theorem dX4_readLine_23 : decode cX4_readLine 23 = .ok (.ifCond .eq 11, 3) := by decide +kernel
theorem dX4_readLine_26 : decode cX4_readLine 26 = .ok (.aload_n 0, 1) := by decide +kernel
theorem dX4_readLine_27 : decode cX4_readLine 27 = .ok (.aload_n 1, 1) := by decide +kernel
theorem dX4_readLine_28 : decode cX4_readLine 28 = .ok (.invokevirtual 69, 3) := by decide +kernel
theorem dX4_readLine_31 : decode cX4_readLine 31 = .ok (.goto 42, 3) := by decide +kernel
theorem dX4_readLine_34 : decode cX4_readLine 34 = .ok (.aload_n 0, 1) := by decide +kernel
theorem dX4_readLine_35 : decode cX4_readLine 35 = .ok (.ldc 72, 2) := by decide +kernel
theorem dX4_readLine_37 : decode cX4_readLine 37 = .ok (.invokevirtual 60, 3) := by decide +kernel
theorem dX4_readLine_40 : decode cX4_readLine 40 = .ok (.ifCond .eq 11, 3) := by decide +kernel
theorem dX4_readLine_43 : decode cX4_readLine 43 = .ok (.aload_n 0, 1) := by decide +kernel
theorem dX4_readLine_44 : decode cX4_readLine 44 = .ok (.aload_n 1, 1) := by decide +kernel
theorem dX4_readLine_45 : decode cX4_readLine 45 = .ok (.invokevirtual 74, 3) := by decide +kernel
theorem dX4_readLine_48 : decode cX4_readLine 48 = .ok (.goto 25, 3) := by decide +kernel
theorem dX4_readLine_51 : decode cX4_readLine 51 = .ok (.aload_n 0, 1) := by decide +kernel
theorem dX4_readLine_52 : decode cX4_readLine 52 = .ok (.ldc 77, 2) := by decide +kernel
theorem dX4_readLine_54 : decode cX4_readLine 54 = .ok (.invokevirtual 60, 3) := by decide +kernel
theorem dX4_readLine_57 : decode cX4_readLine 57 = .ok (.ifCond .eq 11, 3) := by decide +kernel
theorem dX4_readLine_60 : decode cX4_readLine 60 = .ok (.aload_n 0, 1) := by decide +kernel
theorem dX4_readLine_61 : decode cX4_readLine 61 = .ok (.aload_n 1, 1) := by decide +kernel
theorem dX4_readLine_62 : decode cX4_readLine 62 = .ok (.invokevirtual 79, 3) := by decide +kernel
theorem dX4_readLine_65 : decode cX4_readLine 65 = .ok (.goto 8, 3) := by decide +kernel
theorem dX4_readLine_68 : decode cX4_readLine 68 = .ok (.aload_n 0, 1) := by decide +kernel
theorem dX4_readLine_69 : decode cX4_readLine 69 = .ok (.iconst 1, 1) := by decide +kernel
theorem dX4_readLine_70 : decode cX4_readLine 70 = .ok (.invokevirtual 82, 3) := by decide +kernel
theorem dX4_readLine_73 : decode cX4_readLine 73 = .ok (.aload_n 0, 1) := by decide +kernel
theorem dX4_readLine_74 : decode cX4_readLine 74 = .ok (.invokevirtual 86, 3) := by decide +kernel
theorem dX4_readLine_77 : decode cX4_readLine 77 = .ok (.aload_n 1, 1) := by decide +kernel
theorem dX4_readLine_78 : decode cX4_readLine 78 = .ok (.dup, 1) := by decide +kernel
theorem dX4_readLine_79 : decode cX4_readLine 79 = .ok (.getfield 89, 3) := by decide +kernel
theorem dX4_readLine_82 : decode cX4_readLine 82 = .ok (.iconst 1, 1) := by decide +kernel
theorem dX4_readLine_83 : decode cX4_readLine 83 = .ok (.iadd, 1) := by decide +kernel
theorem dX4_readLine_84 : decode cX4_readLine 84 = .ok (.putfield 89, 3) := by decide +kernel
theorem dX4_readLine_87 : decode cX4_readLine 87 = .ok (.return_, 1) := by decide +kernel
set_option maxRecDepth 20000 in
theorem ggX4_readCut_X4_step : GoodIn wsX4_readCut wsX4_step := goodIn_r _ [5, 6, 7, 8, 9, 10, 11, 12, 4, 13, 14, 15, 16, 17, 41, 42, 43, 44, 45, 46, 47] (by decide +kernel) (by decide +kernel)
set_option maxRecDepth 20000 in
theorem gX4_readCut_X4_step : GoodIn wsX4_readCut (wsV RX4 51 RX4 yX4_step wsX4_step) := goodIn_app (goodIn_of _ (by decide +kernel)) ggX4_readCut_X4_step
set_option maxRecDepth 20000 in
theorem ggX4_readCut_X4_blameRankOf : GoodIn wsX4_readCut wsX4_blameRankOf := goodIn_r _ [21, 10, 22, 23, 24, 4, 25, 9, 6, 8, 26, 27, 28, 29, 30, 31, 41, 42, 43, 44, 45, 46, 47] (by decide +kernel) (by decide +kernel)
set_option maxRecDepth 20000 in
theorem gX4_readCut_X4_blameRankOf : GoodIn wsX4_readCut (wsV RX4 95 RX4 yX4_blameRankOf wsX4_blameRankOf) := goodIn_app (goodIn_of _ (by decide +kernel)) ggX4_readCut_X4_blameRankOf
set_option maxRecDepth 20000 in
theorem ggX4_readCut_X4_readNumber : GoodIn wsX4_readCut wsX4_readNumber := goodIn_r _ [35, 10, 22, 23, 24, 4, 25, 9, 6, 8, 26, 27, 28, 29, 30, 31, 1, 2, 3, 5, 7, 11, 12, 13, 14, 15, 16, 17, 41, 42, 43, 44, 45, 46, 47] (by decide +kernel) (by decide +kernel)
set_option maxRecDepth 20000 in
theorem gX4_readCut_X4_readNumber : GoodIn wsX4_readCut (wsV RX4 99 RX4 yX4_readNumber wsX4_readNumber) := goodIn_app (goodIn_of _ (by decide +kernel)) ggX4_readCut_X4_readNumber
theorem dX4_readCut_0 : decode cX4_readCut 0 = .ok (.aload_n 0, 1) := by decide +kernel
theorem dX4_readCut_1 : decode cX4_readCut 1 = .ok (.invokevirtual 51, 3) := by decide +kernel
theorem dX4_readCut_4 : decode cX4_readCut 4 = .ok (.aload_n 0, 1) := by decide +kernel
theorem dX4_readCut_5 : decode cX4_readCut 5 = .ok (.aload_n 1, 1) := by decide +kernel
theorem dX4_readCut_6 : decode cX4_readCut 6 = .ok (.getfield 92, 3) := by decide +kernel
theorem dX4_readCut_9 : decode cX4_readCut 9 = .ok (.invokevirtual 95, 3) := by decide +kernel
theorem dX4_readCut_12 : decode cX4_readCut 12 = .ok (.aload_n 0, 1) := by decide +kernel
theorem dX4_readCut_13 : decode cX4_readCut 13 = .ok (.iconst 3, 1) := by decide +kernel
theorem dX4_readCut_14 : decode cX4_readCut 14 = .ok (.invokevirtual 99, 3) := by decide +kernel
theorem dX4_readCut_17 : decode cX4_readCut 17 = .ok (.istore_n 2, 1) := by decide +kernel
theorem dX4_readCut_18 : decode cX4_readCut 18 = .ok (.aload_n 1, 1) := by decide +kernel
theorem dX4_readCut_19 : decode cX4_readCut 19 = .ok (.getfield 92, 3) := by decide +kernel
theorem dX4_readCut_22 : decode cX4_readCut 22 = .ok (.iload_n 2, 1) := by decide +kernel
theorem dX4_readCut_23 : decode cX4_readCut 23 = .ok (.aload_n 0, 1) := by decide +kernel
theorem dX4_readCut_24 : decode cX4_readCut 24 = .ok (.bipush 100, 2) := by decide +kernel
theorem dX4_readCut_26 : decode cX4_readCut 26 = .ok (.invokevirtual 99, 3) := by decide +kernel
theorem dX4_readCut_29 : decode cX4_readCut 29 = .ok (.iastore, 1) := by decide +kernel
theorem dX4_readCut_30 : decode cX4_readCut 30 = .ok (.return_, 1) := by decide +kernel
set_option maxRecDepth 20000 in
theorem ggX4_readMove_X4_step : GoodIn wsX4_readMove wsX4_step := goodIn_r _ [5, 6, 7, 8, 9, 10, 11, 12, 4, 13, 14, 15, 16, 17, 41, 42, 43, 44, 45, 46, 47] (by decide +kernel) (by decide +kernel)
set_option maxRecDepth 20000 in
theorem gX4_readMove_X4_step : GoodIn wsX4_readMove (wsV RX4 51 RX4 yX4_step wsX4_step) := goodIn_app (goodIn_of _ (by decide +kernel)) ggX4_readMove_X4_step
set_option maxRecDepth 20000 in
theorem ggX4_readMove_X4_blameRankOf : GoodIn wsX4_readMove wsX4_blameRankOf := goodIn_r _ [21, 10, 22, 23, 24, 4, 25, 9, 6, 8, 26, 27, 28, 29, 30, 31, 41, 42, 43, 44, 45, 46, 47] (by decide +kernel) (by decide +kernel)
set_option maxRecDepth 20000 in
theorem gX4_readMove_X4_blameRankOf : GoodIn wsX4_readMove (wsV RX4 95 RX4 yX4_blameRankOf wsX4_blameRankOf) := goodIn_app (goodIn_of _ (by decide +kernel)) ggX4_readMove_X4_blameRankOf
set_option maxRecDepth 20000 in
theorem ggX4_readMove_X4_readNumber : GoodIn wsX4_readMove wsX4_readNumber := goodIn_r _ [35, 10, 22, 23, 24, 4, 25, 9, 6, 8, 26, 27, 28, 29, 30, 31, 1, 2, 3, 5, 7, 11, 12, 13, 14, 15, 16, 17, 41, 42, 43, 44, 45, 46, 47] (by decide +kernel) (by decide +kernel)
set_option maxRecDepth 20000 in
theorem gX4_readMove_X4_readNumber : GoodIn wsX4_readMove (wsV RX4 99 RX4 yX4_readNumber wsX4_readNumber) := goodIn_app (goodIn_of _ (by decide +kernel)) ggX4_readMove_X4_readNumber
theorem dX4_readMove_0 : decode cX4_readMove 0 = .ok (.aload_n 0, 1) := by decide +kernel
theorem dX4_readMove_1 : decode cX4_readMove 1 = .ok (.invokevirtual 51, 3) := by decide +kernel
theorem dX4_readMove_4 : decode cX4_readMove 4 = .ok (.aload_n 0, 1) := by decide +kernel
theorem dX4_readMove_5 : decode cX4_readMove 5 = .ok (.aload_n 1, 1) := by decide +kernel
theorem dX4_readMove_6 : decode cX4_readMove 6 = .ok (.getfield 103, 3) := by decide +kernel
theorem dX4_readMove_9 : decode cX4_readMove 9 = .ok (.invokevirtual 95, 3) := by decide +kernel
theorem dX4_readMove_12 : decode cX4_readMove 12 = .ok (.aload_n 0, 1) := by decide +kernel
theorem dX4_readMove_13 : decode cX4_readMove 13 = .ok (.iconst 3, 1) := by decide +kernel
theorem dX4_readMove_14 : decode cX4_readMove 14 = .ok (.invokevirtual 99, 3) := by decide +kernel
theorem dX4_readMove_17 : decode cX4_readMove 17 = .ok (.istore_n 2, 1) := by decide +kernel
theorem dX4_readMove_18 : decode cX4_readMove 18 = .ok (.aload_n 1, 1) := by decide +kernel
theorem dX4_readMove_19 : decode cX4_readMove 19 = .ok (.getfield 103, 3) := by decide +kernel
theorem dX4_readMove_22 : decode cX4_readMove 22 = .ok (.iload_n 2, 1) := by decide +kernel
theorem dX4_readMove_23 : decode cX4_readMove 23 = .ok (.aload_n 0, 1) := by decide +kernel
theorem dX4_readMove_24 : decode cX4_readMove 24 = .ok (.iconst 3, 1) := by decide +kernel
theorem dX4_readMove_25 : decode cX4_readMove 25 = .ok (.invokevirtual 99, 3) := by decide +kernel
theorem dX4_readMove_28 : decode cX4_readMove 28 = .ok (.iastore, 1) := by decide +kernel
theorem dX4_readMove_29 : decode cX4_readMove 29 = .ok (.return_, 1) := by decide +kernel
set_option maxRecDepth 20000 in
theorem ggX4_readSpare_X4_blame : GoodIn wsX4_readSpare wsX4_blame := goodIn_r _ [5, 6, 7, 8, 37, 38, 39, 40, 41, 42, 43] (by decide +kernel) (by decide +kernel)
set_option maxRecDepth 20000 in
theorem gX4_readSpare_X4_blame : GoodIn wsX4_readSpare (wsV RX4 82 RX4 yX4_blame wsX4_blame) := goodIn_app (goodIn_of _ (by decide +kernel)) ggX4_readSpare_X4_blame
set_option maxRecDepth 20000 in
theorem ggX4_readSpare_X4_step : GoodIn wsX4_readSpare wsX4_step := goodIn_r _ [12, 13, 14, 15, 7, 16, 17, 18, 4, 19, 20, 21, 22, 23, 37, 38, 39, 40, 41, 42, 43] (by decide +kernel) (by decide +kernel)
set_option maxRecDepth 20000 in
theorem gX4_readSpare_X4_step : GoodIn wsX4_readSpare (wsV RX4 51 RX4 yX4_step wsX4_step) := goodIn_app (goodIn_of _ (by decide +kernel)) ggX4_readSpare_X4_step
set_option maxRecDepth 20000 in
theorem ggX4_readSpare_X4_readNumber : GoodIn wsX4_readSpare wsX4_readNumber := goodIn_r _ [27, 16, 28, 29, 30, 4, 31, 7, 13, 15, 1, 2, 3, 5, 6, 8, 9, 10, 11, 12, 14, 17, 18, 19, 20, 21, 22, 23, 37, 38, 39, 40, 41, 42, 43] (by decide +kernel) (by decide +kernel)
set_option maxRecDepth 20000 in
theorem gX4_readSpare_X4_readNumber : GoodIn wsX4_readSpare (wsV RX4 99 RX4 yX4_readNumber wsX4_readNumber) := goodIn_app (goodIn_of _ (by decide +kernel)) ggX4_readSpare_X4_readNumber
theorem dX4_readSpare_0 : decode cX4_readSpare 0 = .ok (.aload_n 1, 1) := by decide +kernel
theorem dX4_readSpare_1 : decode cX4_readSpare 1 = .ok (.getfield 106, 3) := by decide +kernel
theorem dX4_readSpare_4 : decode cX4_readSpare 4 = .ok (.iconst (-1), 1) := by decide +kernel
theorem dX4_readSpare_5 : decode cX4_readSpare 5 = .ok (.if_icmp .eq 8, 3) := by decide +kernel
theorem dX4_readSpare_8 : decode cX4_readSpare 8 = .ok (.aload_n 0, 1) := by decide +kernel
theorem dX4_readSpare_9 : decode cX4_readSpare 9 = .ok (.iconst 3, 1) := by decide +kernel
theorem dX4_readSpare_10 : decode cX4_readSpare 10 = .ok (.invokevirtual 82, 3) := by decide +kernel
theorem dX4_readSpare_13 : decode cX4_readSpare 13 = .ok (.aload_n 0, 1) := by decide +kernel
theorem dX4_readSpare_14 : decode cX4_readSpare 14 = .ok (.invokevirtual 51, 3) := by decide +kernel
theorem dX4_readSpare_17 : decode cX4_readSpare 17 = .ok (.aload_n 1, 1) := by decide +kernel
theorem dX4_readSpare_18 : decode cX4_readSpare 18 = .ok (.aload_n 0, 1) := by decide +kernel
theorem dX4_readSpare_19 : decode cX4_readSpare 19 = .ok (.sipush 999, 3) := by decide +kernel
theorem dX4_readSpare_22 : decode cX4_readSpare 22 = .ok (.invokevirtual 99, 3) := by decide +kernel
theorem dX4_readSpare_25 : decode cX4_readSpare 25 = .ok (.putfield 106, 3) := by decide +kernel
theorem dX4_readSpare_28 : decode cX4_readSpare 28 = .ok (.return_, 1) := by decide +kernel
set_option maxRecDepth 20000 in
theorem ggX4_readBefore_X4_blame : GoodIn wsX4_readBefore wsX4_blame := goodIn_r _ [5, 6, 7, 8, 37, 38, 39, 40, 41, 42, 43] (by decide +kernel) (by decide +kernel)
set_option maxRecDepth 20000 in
theorem gX4_readBefore_X4_blame : GoodIn wsX4_readBefore (wsV RX4 82 RX4 yX4_blame wsX4_blame) := goodIn_app (goodIn_of _ (by decide +kernel)) ggX4_readBefore_X4_blame
set_option maxRecDepth 20000 in
theorem ggX4_readBefore_X4_step : GoodIn wsX4_readBefore wsX4_step := goodIn_r _ [12, 13, 14, 15, 7, 16, 17, 18, 4, 19, 20, 21, 22, 23, 37, 38, 39, 40, 41, 42, 43] (by decide +kernel) (by decide +kernel)
set_option maxRecDepth 20000 in
theorem gX4_readBefore_X4_step : GoodIn wsX4_readBefore (wsV RX4 51 RX4 yX4_step wsX4_step) := goodIn_app (goodIn_of _ (by decide +kernel)) ggX4_readBefore_X4_step
set_option maxRecDepth 20000 in
theorem ggX4_readBefore_X4_readNumber : GoodIn wsX4_readBefore wsX4_readNumber := goodIn_r _ [27, 16, 28, 29, 30, 4, 31, 7, 13, 15, 1, 2, 3, 5, 6, 8, 9, 10, 11, 12, 14, 17, 18, 19, 20, 21, 22, 23, 37, 38, 39, 40, 41, 42, 43] (by decide +kernel) (by decide +kernel)
set_option maxRecDepth 20000 in
theorem gX4_readBefore_X4_readNumber : GoodIn wsX4_readBefore (wsV RX4 99 RX4 yX4_readNumber wsX4_readNumber) := goodIn_app (goodIn_of _ (by decide +kernel)) ggX4_readBefore_X4_readNumber
theorem dX4_readBefore_0 : decode cX4_readBefore 0 = .ok (.aload_n 1, 1) := by decide +kernel
theorem dX4_readBefore_1 : decode cX4_readBefore 1 = .ok (.getfield 108, 3) := by decide +kernel
theorem dX4_readBefore_4 : decode cX4_readBefore 4 = .ok (.iconst (-1), 1) := by decide +kernel
theorem dX4_readBefore_5 : decode cX4_readBefore 5 = .ok (.if_icmp .eq 8, 3) := by decide +kernel
theorem dX4_readBefore_8 : decode cX4_readBefore 8 = .ok (.aload_n 0, 1) := by decide +kernel
theorem dX4_readBefore_9 : decode cX4_readBefore 9 = .ok (.iconst 3, 1) := by decide +kernel
theorem dX4_readBefore_10 : decode cX4_readBefore 10 = .ok (.invokevirtual 82, 3) := by decide +kernel
theorem dX4_readBefore_13 : decode cX4_readBefore 13 = .ok (.aload_n 0, 1) := by decide +kernel
theorem dX4_readBefore_14 : decode cX4_readBefore 14 = .ok (.invokevirtual 51, 3) := by decide +kernel
theorem dX4_readBefore_17 : decode cX4_readBefore 17 = .ok (.aload_n 1, 1) := by decide +kernel
