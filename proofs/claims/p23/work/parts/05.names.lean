theorem dX3_init_0 : decode cX3_init 0 = .ok (.aload_n 0, 1) := by decide +kernel
theorem dX3_init_1 : decode cX3_init 1 = .ok (.invokespecial 3, 3) := by decide +kernel
theorem dX3_init_4 : decode cX3_init 4 = .ok (.aload_n 0, 1) := by decide +kernel
theorem dX3_init_5 : decode cX3_init 5 = .ok (.bipush 10, 2) := by decide +kernel
theorem dX3_init_7 : decode cX3_init 7 = .ok (.newarray .int, 2) := by decide +kernel
theorem dX3_init_9 : decode cX3_init 9 = .ok (.putfield 9, 3) := by decide +kernel
theorem dX3_init_12 : decode cX3_init 12 = .ok (.aload_n 0, 1) := by decide +kernel
theorem dX3_init_13 : decode cX3_init 13 = .ok (.bipush 10, 2) := by decide +kernel
theorem dX3_init_15 : decode cX3_init 15 = .ok (.newarray .int, 2) := by decide +kernel
theorem dX3_init_17 : decode cX3_init 17 = .ok (.putfield 15, 3) := by decide +kernel
theorem dX3_init_20 : decode cX3_init 20 = .ok (.aload_n 0, 1) := by decide +kernel
theorem dX3_init_21 : decode cX3_init 21 = .ok (.bipush 10, 2) := by decide +kernel
theorem dX3_init_23 : decode cX3_init 23 = .ok (.newarray .int, 2) := by decide +kernel
theorem dX3_init_25 : decode cX3_init 25 = .ok (.putfield 18, 3) := by decide +kernel
theorem dX3_init_28 : decode cX3_init 28 = .ok (.aload_n 0, 1) := by decide +kernel
theorem dX3_init_29 : decode cX3_init 29 = .ok (.bipush 10, 2) := by decide +kernel
theorem dX3_init_31 : decode cX3_init 31 = .ok (.newarray .int, 2) := by decide +kernel
theorem dX3_init_33 : decode cX3_init 33 = .ok (.putfield 21, 3) := by decide +kernel
theorem dX3_init_36 : decode cX3_init 36 = .ok (.aload_n 0, 1) := by decide +kernel
theorem dX3_init_37 : decode cX3_init 37 = .ok (.bipush 10, 2) := by decide +kernel
theorem dX3_init_39 : decode cX3_init 39 = .ok (.newarray .int, 2) := by decide +kernel
theorem dX3_init_41 : decode cX3_init 41 = .ok (.putfield 24, 3) := by decide +kernel
theorem dX3_init_44 : decode cX3_init 44 = .ok (.return_, 1) := by decide +kernel
set_option maxRecDepth 20000 in
theorem ggX3_find_X3_goThrough : GoodIn wsX3_find wsX3_goThrough := goodIn_r _ [11, 1, 12, 5, 13, 6, 2, 14, 15, 16, 17, 18, 19, 20, 10, 21, 22, 23, 3, 24, 25, 26, 27, 4, 28, 29, 30, 31, 32, 33, 34, 35, 36, 37] (by decide +kernel) (by decide +kernel)
set_option maxRecDepth 20000 in
theorem gX3_find_X3_goThrough : GoodIn wsX3_find (wsV RX3 39 RX3 yX3_goThrough wsX3_goThrough) := goodIn_app (goodIn_of _ (by decide +kernel)) ggX3_find_X3_goThrough
theorem dX3_find_0 : decode cX3_find 0 = .ok (.iconst 0, 1) := by decide +kernel
theorem dX3_find_1 : decode cX3_find 1 = .ok (.istore_n 3, 1) := by decide +kernel
theorem dX3_find_2 : decode cX3_find 2 = .ok (.iload_n 3, 1) := by decide +kernel
theorem dX3_find_3 : decode cX3_find 3 = .ok (.aload_n 1, 1) := by decide +kernel
theorem dX3_find_4 : decode cX3_find 4 = .ok (.getfield 27, 3) := by decide +kernel
theorem dX3_find_7 : decode cX3_find 7 = .ok (.if_icmp .ge 81, 3) := by decide +kernel
theorem dX3_find_10 : decode cX3_find 10 = .ok (.aload_n 1, 1) := by decide +kernel
theorem dX3_find_11 : decode cX3_find 11 = .ok (.getfield 33, 3) := by decide +kernel
theorem dX3_find_14 : decode cX3_find 14 = .ok (.iload_n 3, 1) := by decide +kernel
theorem dX3_find_15 : decode cX3_find 15 = .ok (.iaload, 1) := by decide +kernel
theorem dX3_find_16 : decode cX3_find 16 = .ok (.istore 4, 2) := by decide +kernel
theorem dX3_find_18 : decode cX3_find 18 = .ok (.aload_n 0, 1) := by decide +kernel
theorem dX3_find_19 : decode cX3_find 19 = .ok (.getfield 9, 3) := by decide +kernel
theorem dX3_find_22 : decode cX3_find 22 = .ok (.iload_n 3, 1) := by decide +kernel
theorem dX3_find_23 : decode cX3_find 23 = .ok (.aload_n 1, 1) := by decide +kernel
theorem dX3_find_24 : decode cX3_find 24 = .ok (.getfield 36, 3) := by decide +kernel
theorem dX3_find_27 : decode cX3_find 27 = .ok (.iload_n 3, 1) := by decide +kernel
theorem dX3_find_28 : decode cX3_find 28 = .ok (.iaload, 1) := by decide +kernel
theorem dX3_find_29 : decode cX3_find 29 = .ok (.iastore, 1) := by decide +kernel
theorem dX3_find_30 : decode cX3_find 30 = .ok (.aload_n 0, 1) := by decide +kernel
theorem dX3_find_31 : decode cX3_find 31 = .ok (.getfield 15, 3) := by decide +kernel
theorem dX3_find_34 : decode cX3_find 34 = .ok (.iload_n 3, 1) := by decide +kernel
theorem dX3_find_35 : decode cX3_find 35 = .ok (.iload 4, 2) := by decide +kernel
theorem dX3_find_37 : decode cX3_find 37 = .ok (.ifCond .ne 7, 3) := by decide +kernel
theorem dX3_find_40 : decode cX3_find 40 = .ok (.iconst 1, 1) := by decide +kernel
theorem dX3_find_41 : decode cX3_find 41 = .ok (.goto 14, 3) := by decide +kernel
theorem dX3_find_44 : decode cX3_find 44 = .ok (.iload 4, 2) := by decide +kernel
theorem dX3_find_46 : decode cX3_find 46 = .ok (.iconst 1, 1) := by decide +kernel
theorem dX3_find_47 : decode cX3_find 47 = .ok (.if_icmp .ne 7, 3) := by decide +kernel
theorem dX3_find_50 : decode cX3_find 50 = .ok (.iconst 2, 1) := by decide +kernel
theorem dX3_find_51 : decode cX3_find 51 = .ok (.goto 4, 3) := by decide +kernel
theorem dX3_find_54 : decode cX3_find 54 = .ok (.iconst 4, 1) := by decide +kernel
theorem dX3_find_55 : decode cX3_find 55 = .ok (.iastore, 1) := by decide +kernel
theorem dX3_find_56 : decode cX3_find 56 = .ok (.aload_n 0, 1) := by decide +kernel
theorem dX3_find_57 : decode cX3_find 57 = .ok (.getfield 18, 3) := by decide +kernel
theorem dX3_find_60 : decode cX3_find 60 = .ok (.iload_n 3, 1) := by decide +kernel
theorem dX3_find_61 : decode cX3_find 61 = .ok (.iload 4, 2) := by decide +kernel
theorem dX3_find_63 : decode cX3_find 63 = .ok (.ifCond .ne 7, 3) := by decide +kernel
theorem dX3_find_66 : decode cX3_find 66 = .ok (.iconst 2, 1) := by decide +kernel
theorem dX3_find_67 : decode cX3_find 67 = .ok (.goto 14, 3) := by decide +kernel
theorem dX3_find_70 : decode cX3_find 70 = .ok (.iload 4, 2) := by decide +kernel
theorem dX3_find_72 : decode cX3_find 72 = .ok (.iconst 1, 1) := by decide +kernel
theorem dX3_find_73 : decode cX3_find 73 = .ok (.if_icmp .ne 7, 3) := by decide +kernel
theorem dX3_find_76 : decode cX3_find 76 = .ok (.iconst 1, 1) := by decide +kernel
theorem dX3_find_77 : decode cX3_find 77 = .ok (.goto 4, 3) := by decide +kernel
theorem dX3_find_80 : decode cX3_find 80 = .ok (.iconst 0, 1) := by decide +kernel
theorem dX3_find_81 : decode cX3_find 81 = .ok (.iastore, 1) := by decide +kernel
theorem dX3_find_82 : decode cX3_find 82 = .ok (.iinc 3 1, 3) := by decide +kernel
theorem dX3_find_85 : decode cX3_find 85 = .ok (.goto (-83), 3) := by decide +kernel
theorem dX3_find_88 : decode cX3_find 88 = .ok (.iconst 1, 1) := by decide +kernel
theorem dX3_find_89 : decode cX3_find 89 = .ok (.istore_n 3, 1) := by decide +kernel
theorem dX3_find_90 : decode cX3_find 90 = .ok (.iload_n 3, 1) := by decide +kernel
theorem dX3_find_91 : decode cX3_find 91 = .ok (.iload_n 2, 1) := by decide +kernel
theorem dX3_find_92 : decode cX3_find 92 = .ok (.if_icmp .gt 15, 3) := by decide +kernel
theorem dX3_find_95 : decode cX3_find 95 = .ok (.aload_n 0, 1) := by decide +kernel
theorem dX3_find_96 : decode cX3_find 96 = .ok (.aload_n 1, 1) := by decide +kernel
theorem dX3_find_97 : decode cX3_find 97 = .ok (.iload_n 3, 1) := by decide +kernel
theorem dX3_find_98 : decode cX3_find 98 = .ok (.invokevirtual 39, 3) := by decide +kernel
theorem dX3_find_101 : decode cX3_find 101 = .ok (.iinc 3 1, 3) := by decide +kernel
theorem dX3_find_104 : decode cX3_find 104 = .ok (.goto (-14), 3) := by decide +kernel
theorem dX3_find_107 : decode cX3_find 107 = .ok (.return_, 1) := by decide +kernel
set_option maxRecDepth 20000 in
theorem ggX3_goThrough_X4_layerOf : GoodIn wsX3_goThrough wsX4_layerOf := goodIn_r _ [9, 10] (by decide +kernel) (by decide +kernel)
set_option maxRecDepth 20000 in
theorem gX3_goThrough_X4_layerOf_n43 : GoodIn wsX3_goThrough (wsX4_layerOf) := ggX3_goThrough_X4_layerOf
set_option maxRecDepth 20000 in
theorem ggX3_goThrough_X3_takes : GoodIn wsX3_goThrough wsX3_takes := goodIn_r _ [15, 2, 6, 16, 17, 18, 4, 29, 30, 31, 32, 33, 24, 25, 26, 27, 28] (by decide +kernel) (by decide +kernel)
set_option maxRecDepth 20000 in
theorem gX3_goThrough_X3_takes : GoodIn wsX3_goThrough (wsV RX3 47 RX3 yX3_takes wsX3_takes) := goodIn_app (goodIn_of _ (by decide +kernel)) ggX3_goThrough_X3_takes
set_option maxRecDepth 20000 in
theorem ggX3_goThrough_X3_change : GoodIn wsX3_goThrough wsX3_change := goodIn_r _ [22, 6, 18, 23, 3, 5, 24, 25, 26, 27, 28, 29, 30, 31, 32, 33] (by decide +kernel) (by decide +kernel)
set_option maxRecDepth 20000 in
theorem gX3_goThrough_X3_change : GoodIn wsX3_goThrough (wsV RX3 51 RX3 yX3_change wsX3_change) := goodIn_app (goodIn_of _ (by decide +kernel)) ggX3_goThrough_X3_change
theorem dX3_goThrough_0 : decode cX3_goThrough 0 = .ok (.iconst 0, 1) := by decide +kernel
theorem dX3_goThrough_1 : decode cX3_goThrough 1 = .ok (.istore_n 3, 1) := by decide +kernel
theorem dX3_goThrough_2 : decode cX3_goThrough 2 = .ok (.iload_n 3, 1) := by decide +kernel
theorem dX3_goThrough_3 : decode cX3_goThrough 3 = .ok (.aload_n 1, 1) := by decide +kernel
theorem dX3_goThrough_4 : decode cX3_goThrough 4 = .ok (.getfield 27, 3) := by decide +kernel
theorem dX3_goThrough_7 : decode cX3_goThrough 7 = .ok (.if_icmp .ge 33, 3) := by decide +kernel
theorem dX3_goThrough_10 : decode cX3_goThrough 10 = .ok (.aload_n 0, 1) := by decide +kernel
theorem dX3_goThrough_11 : decode cX3_goThrough 11 = .ok (.getfield 21, 3) := by decide +kernel
theorem dX3_goThrough_14 : decode cX3_goThrough 14 = .ok (.iload_n 3, 1) := by decide +kernel
theorem dX3_goThrough_15 : decode cX3_goThrough 15 = .ok (.aload_n 0, 1) := by decide +kernel
theorem dX3_goThrough_16 : decode cX3_goThrough 16 = .ok (.getfield 15, 3) := by decide +kernel
theorem dX3_goThrough_19 : decode cX3_goThrough 19 = .ok (.iload_n 3, 1) := by decide +kernel
theorem dX3_goThrough_20 : decode cX3_goThrough 20 = .ok (.iaload, 1) := by decide +kernel
theorem dX3_goThrough_21 : decode cX3_goThrough 21 = .ok (.iastore, 1) := by decide +kernel
theorem dX3_goThrough_22 : decode cX3_goThrough 22 = .ok (.aload_n 0, 1) := by decide +kernel
theorem dX3_goThrough_23 : decode cX3_goThrough 23 = .ok (.getfield 24, 3) := by decide +kernel
theorem dX3_goThrough_26 : decode cX3_goThrough 26 = .ok (.iload_n 3, 1) := by decide +kernel
theorem dX3_goThrough_27 : decode cX3_goThrough 27 = .ok (.aload_n 0, 1) := by decide +kernel
theorem dX3_goThrough_28 : decode cX3_goThrough 28 = .ok (.getfield 18, 3) := by decide +kernel
theorem dX3_goThrough_31 : decode cX3_goThrough 31 = .ok (.iload_n 3, 1) := by decide +kernel
theorem dX3_goThrough_32 : decode cX3_goThrough 32 = .ok (.iaload, 1) := by decide +kernel
theorem dX3_goThrough_33 : decode cX3_goThrough 33 = .ok (.iastore, 1) := by decide +kernel
theorem dX3_goThrough_34 : decode cX3_goThrough 34 = .ok (.iinc 3 1, 3) := by decide +kernel
theorem dX3_goThrough_37 : decode cX3_goThrough 37 = .ok (.goto (-35), 3) := by decide +kernel
theorem dX3_goThrough_40 : decode cX3_goThrough 40 = .ok (.iconst 0, 1) := by decide +kernel
theorem dX3_goThrough_41 : decode cX3_goThrough 41 = .ok (.istore_n 3, 1) := by decide +kernel
theorem dX3_goThrough_42 : decode cX3_goThrough 42 = .ok (.iload_n 3, 1) := by decide +kernel
theorem dX3_goThrough_43 : decode cX3_goThrough 43 = .ok (.aload_n 1, 1) := by decide +kernel
theorem dX3_goThrough_44 : decode cX3_goThrough 44 = .ok (.getfield 27, 3) := by decide +kernel
theorem dX3_goThrough_47 : decode cX3_goThrough 47 = .ok (.if_icmp .ge 71, 3) := by decide +kernel
theorem dX3_goThrough_50 : decode cX3_goThrough 50 = .ok (.aload_n 1, 1) := by decide +kernel
theorem dX3_goThrough_51 : decode cX3_goThrough 51 = .ok (.getfield 33, 3) := by decide +kernel
theorem dX3_goThrough_54 : decode cX3_goThrough 54 = .ok (.iload_n 3, 1) := by decide +kernel
theorem dX3_goThrough_55 : decode cX3_goThrough 55 = .ok (.iaload, 1) := by decide +kernel
theorem dX3_goThrough_56 : decode cX3_goThrough 56 = .ok (.invokestatic 43, 3) := by decide +kernel
theorem dX3_goThrough_59 : decode cX3_goThrough 59 = .ok (.iload_n 2, 1) := by decide +kernel
theorem dX3_goThrough_60 : decode cX3_goThrough 60 = .ok (.if_icmp .ne 7, 3) := by decide +kernel
theorem dX3_goThrough_63 : decode cX3_goThrough 63 = .ok (.iconst 1, 1) := by decide +kernel
theorem dX3_goThrough_64 : decode cX3_goThrough 64 = .ok (.goto 4, 3) := by decide +kernel
theorem dX3_goThrough_67 : decode cX3_goThrough 67 = .ok (.iconst 0, 1) := by decide +kernel
theorem dX3_goThrough_68 : decode cX3_goThrough 68 = .ok (.istore 4, 2) := by decide +kernel
theorem dX3_goThrough_70 : decode cX3_goThrough 70 = .ok (.iconst 0, 1) := by decide +kernel
theorem dX3_goThrough_71 : decode cX3_goThrough 71 = .ok (.istore 5, 2) := by decide +kernel
theorem dX3_goThrough_73 : decode cX3_goThrough 73 = .ok (.iload 4, 2) := by decide +kernel
theorem dX3_goThrough_75 : decode cX3_goThrough 75 = .ok (.ifCond .eq 37, 3) := by decide +kernel
theorem dX3_goThrough_78 : decode cX3_goThrough 78 = .ok (.iload 5, 2) := by decide +kernel
theorem dX3_goThrough_80 : decode cX3_goThrough 80 = .ok (.aload_n 1, 1) := by decide +kernel
theorem dX3_goThrough_81 : decode cX3_goThrough 81 = .ok (.getfield 27, 3) := by decide +kernel
theorem dX3_goThrough_84 : decode cX3_goThrough 84 = .ok (.if_icmp .ge 28, 3) := by decide +kernel
theorem dX3_goThrough_87 : decode cX3_goThrough 87 = .ok (.aload_n 0, 1) := by decide +kernel
theorem dX3_goThrough_88 : decode cX3_goThrough 88 = .ok (.aload_n 1, 1) := by decide +kernel
theorem dX3_goThrough_89 : decode cX3_goThrough 89 = .ok (.iload_n 3, 1) := by decide +kernel
theorem dX3_goThrough_90 : decode cX3_goThrough 90 = .ok (.iload 5, 2) := by decide +kernel
theorem dX3_goThrough_92 : decode cX3_goThrough 92 = .ok (.invokevirtual 47, 3) := by decide +kernel
theorem dX3_goThrough_95 : decode cX3_goThrough 95 = .ok (.ifCond .eq 11, 3) := by decide +kernel
theorem dX3_goThrough_98 : decode cX3_goThrough 98 = .ok (.aload_n 0, 1) := by decide +kernel
theorem dX3_goThrough_99 : decode cX3_goThrough 99 = .ok (.aload_n 1, 1) := by decide +kernel
theorem dX3_goThrough_100 : decode cX3_goThrough 100 = .ok (.iload_n 3, 1) := by decide +kernel
theorem dX3_goThrough_101 : decode cX3_goThrough 101 = .ok (.iload 5, 2) := by decide +kernel
theorem dX3_goThrough_103 : decode cX3_goThrough 103 = .ok (.invokevirtual 51, 3) := by decide +kernel
theorem dX3_goThrough_106 : decode cX3_goThrough 106 = .ok (.iinc 5 1, 3) := by decide +kernel
theorem dX3_goThrough_109 : decode cX3_goThrough 109 = .ok (.goto (-36), 3) := by decide +kernel
theorem dX3_goThrough_112 : decode cX3_goThrough 112 = .ok (.iinc 3 1, 3) := by decide +kernel
theorem dX3_goThrough_115 : decode cX3_goThrough 115 = .ok (.goto (-73), 3) := by decide +kernel
theorem dX3_goThrough_118 : decode cX3_goThrough 118 = .ok (.return_, 1) := by decide +kernel
theorem dX3_takes_0 : decode cX3_takes 0 = .ok (.aload_n 0, 1) := by decide +kernel
theorem dX3_takes_1 : decode cX3_takes 1 = .ok (.getfield 21, 3) := by decide +kernel
theorem dX3_takes_4 : decode cX3_takes 4 = .ok (.iload_n 3, 1) := by decide +kernel
theorem dX3_takes_5 : decode cX3_takes 5 = .ok (.iaload, 1) := by decide +kernel
theorem dX3_takes_6 : decode cX3_takes 6 = .ok (.iconst 1, 1) := by decide +kernel
theorem dX3_takes_7 : decode cX3_takes 7 = .ok (.iand, 1) := by decide +kernel
theorem dX3_takes_8 : decode cX3_takes 8 = .ok (.ifCond .eq 7, 3) := by decide +kernel
theorem dX3_takes_11 : decode cX3_takes 11 = .ok (.iconst 1, 1) := by decide +kernel
theorem dX3_takes_12 : decode cX3_takes 12 = .ok (.goto 4, 3) := by decide +kernel
theorem dX3_takes_15 : decode cX3_takes 15 = .ok (.iconst 0, 1) := by decide +kernel
theorem dX3_takes_16 : decode cX3_takes 16 = .ok (.istore 4, 2) := by decide +kernel
theorem dX3_takes_18 : decode cX3_takes 18 = .ok (.aload_n 1, 1) := by decide +kernel
theorem dX3_takes_19 : decode cX3_takes 19 = .ok (.getfield 33, 3) := by decide +kernel
theorem dX3_takes_22 : decode cX3_takes 22 = .ok (.iload_n 2, 1) := by decide +kernel
theorem dX3_takes_23 : decode cX3_takes 23 = .ok (.iaload, 1) := by decide +kernel
theorem dX3_takes_24 : decode cX3_takes 24 = .ok (.tableswitch 129 2 8 #[82, 129, 129, 65, 129, 44, 108], 44) := by decide +kernel
theorem dX3_takes_68 : decode cX3_takes 68 = .ok (.aload_n 1, 1) := by decide +kernel
theorem dX3_takes_69 : decode cX3_takes 69 = .ok (.getfield 55, 3) := by decide +kernel
theorem dX3_takes_72 : decode cX3_takes 72 = .ok (.iload_n 3, 1) := by decide +kernel
theorem dX3_takes_73 : decode cX3_takes 73 = .ok (.iaload, 1) := by decide +kernel
theorem dX3_takes_74 : decode cX3_takes 74 = .ok (.aload_n 1, 1) := by decide +kernel
theorem dX3_takes_75 : decode cX3_takes 75 = .ok (.getfield 58, 3) := by decide +kernel
theorem dX3_takes_78 : decode cX3_takes 78 = .ok (.iload_n 2, 1) := by decide +kernel
theorem dX3_takes_79 : decode cX3_takes 79 = .ok (.iaload, 1) := by decide +kernel
theorem dX3_takes_80 : decode cX3_takes 80 = .ok (.if_icmp .ne 7, 3) := by decide +kernel
theorem dX3_takes_83 : decode cX3_takes 83 = .ok (.iconst 1, 1) := by decide +kernel
theorem dX3_takes_84 : decode cX3_takes 84 = .ok (.goto 4, 3) := by decide +kernel
theorem dX3_takes_87 : decode cX3_takes 87 = .ok (.iconst 0, 1) := by decide +kernel
theorem dX3_takes_88 : decode cX3_takes 88 = .ok (.ireturn, 1) := by decide +kernel
theorem dX3_takes_89 : decode cX3_takes 89 = .ok (.aload_n 0, 1) := by decide +kernel
theorem dX3_takes_90 : decode cX3_takes 90 = .ok (.getfield 21, 3) := by decide +kernel
theorem dX3_takes_93 : decode cX3_takes 93 = .ok (.iload_n 3, 1) := by decide +kernel
theorem dX3_takes_94 : decode cX3_takes 94 = .ok (.iaload, 1) := by decide +kernel
theorem dX3_takes_95 : decode cX3_takes 95 = .ok (.iconst 2, 1) := by decide +kernel
theorem dX3_takes_96 : decode cX3_takes 96 = .ok (.iand, 1) := by decide +kernel
theorem dX3_takes_97 : decode cX3_takes 97 = .ok (.ifCond .eq 7, 3) := by decide +kernel
theorem dX3_takes_100 : decode cX3_takes 100 = .ok (.iconst 1, 1) := by decide +kernel
theorem dX3_takes_101 : decode cX3_takes 101 = .ok (.goto 4, 3) := by decide +kernel
theorem dX3_takes_104 : decode cX3_takes 104 = .ok (.iconst 0, 1) := by decide +kernel
theorem dX3_takes_105 : decode cX3_takes 105 = .ok (.ireturn, 1) := by decide +kernel
theorem dX3_takes_106 : decode cX3_takes 106 = .ok (.iload 4, 2) := by decide +kernel
theorem dX3_takes_108 : decode cX3_takes 108 = .ok (.ifCond .eq 22, 3) := by decide +kernel
theorem dX3_takes_111 : decode cX3_takes 111 = .ok (.aload_n 0, 1) := by decide +kernel
theorem dX3_takes_112 : decode cX3_takes 112 = .ok (.getfield 9, 3) := by decide +kernel
theorem dX3_takes_115 : decode cX3_takes 115 = .ok (.iload_n 3, 1) := by decide +kernel
theorem dX3_takes_116 : decode cX3_takes 116 = .ok (.iaload, 1) := by decide +kernel
theorem dX3_takes_117 : decode cX3_takes 117 = .ok (.aload_n 0, 1) := by decide +kernel
theorem dX3_takes_118 : decode cX3_takes 118 = .ok (.getfield 9, 3) := by decide +kernel
theorem dX3_takes_121 : decode cX3_takes 121 = .ok (.iload_n 2, 1) := by decide +kernel
theorem dX3_takes_122 : decode cX3_takes 122 = .ok (.iaload, 1) := by decide +kernel
theorem dX3_takes_123 : decode cX3_takes 123 = .ok (.if_icmp .ne 7, 3) := by decide +kernel
theorem dX3_takes_126 : decode cX3_takes 126 = .ok (.iconst 1, 1) := by decide +kernel
theorem dX3_takes_127 : decode cX3_takes 127 = .ok (.goto 4, 3) := by decide +kernel
theorem dX3_takes_130 : decode cX3_takes 130 = .ok (.iconst 0, 1) := by decide +kernel
theorem dX3_takes_131 : decode cX3_takes 131 = .ok (.ireturn, 1) := by decide +kernel
theorem dX3_takes_132 : decode cX3_takes 132 = .ok (.iload 4, 2) := by decide +kernel
theorem dX3_takes_134 : decode cX3_takes 134 = .ok (.ifCond .eq 17, 3) := by decide +kernel
theorem dX3_takes_137 : decode cX3_takes 137 = .ok (.aload_n 0, 1) := by decide +kernel
theorem dX3_takes_138 : decode cX3_takes 138 = .ok (.getfield 24, 3) := by decide +kernel
theorem dX3_takes_141 : decode cX3_takes 141 = .ok (.iload_n 3, 1) := by decide +kernel
theorem dX3_takes_142 : decode cX3_takes 142 = .ok (.iaload, 1) := by decide +kernel
theorem dX3_takes_143 : decode cX3_takes 143 = .ok (.iconst 3, 1) := by decide +kernel
theorem dX3_takes_144 : decode cX3_takes 144 = .ok (.if_icmp .lt 7, 3) := by decide +kernel
theorem dX3_takes_147 : decode cX3_takes 147 = .ok (.iconst 1, 1) := by decide +kernel
theorem dX3_takes_148 : decode cX3_takes 148 = .ok (.goto 4, 3) := by decide +kernel
theorem dX3_takes_151 : decode cX3_takes 151 = .ok (.iconst 0, 1) := by decide +kernel
theorem dX3_takes_152 : decode cX3_takes 152 = .ok (.ireturn, 1) := by decide +kernel
theorem dX3_takes_153 : decode cX3_takes 153 = .ok (.iload 4, 2) := by decide +kernel
theorem dX3_takes_155 : decode cX3_takes 155 = .ok (.ireturn, 1) := by decide +kernel
theorem dX3_change_0 : decode cX3_change 0 = .ok (.aload_n 1, 1) := by decide +kernel
theorem dX3_change_1 : decode cX3_change 1 = .ok (.getfield 33, 3) := by decide +kernel
theorem dX3_change_4 : decode cX3_change 4 = .ok (.iload_n 2, 1) := by decide +kernel
theorem dX3_change_5 : decode cX3_change 5 = .ok (.iaload, 1) := by decide +kernel
theorem dX3_change_6 : decode cX3_change 6 = .ok (.tableswitch 136 2 8 #[110, 90, 100, 57, 70, 42, 123], 42) := by decide +kernel
theorem dX3_change_48 : decode cX3_change 48 = .ok (.aload_n 0, 1) := by decide +kernel
theorem dX3_change_49 : decode cX3_change 49 = .ok (.getfield 9, 3) := by decide +kernel
theorem dX3_change_52 : decode cX3_change 52 = .ok (.iload_n 3, 1) := by decide +kernel
theorem dX3_change_53 : decode cX3_change 53 = .ok (.aload_n 1, 1) := by decide +kernel
theorem dX3_change_54 : decode cX3_change 54 = .ok (.getfield 36, 3) := by decide +kernel
theorem dX3_change_57 : decode cX3_change 57 = .ok (.iload_n 2, 1) := by decide +kernel
theorem dX3_change_58 : decode cX3_change 58 = .ok (.iaload, 1) := by decide +kernel
theorem dX3_change_59 : decode cX3_change 59 = .ok (.iastore, 1) := by decide +kernel
theorem dX3_change_60 : decode cX3_change 60 = .ok (.goto 82, 3) := by decide +kernel
theorem dX3_change_63 : decode cX3_change 63 = .ok (.aload_n 0, 1) := by decide +kernel
theorem dX3_change_64 : decode cX3_change 64 = .ok (.getfield 15, 3) := by decide +kernel
theorem dX3_change_67 : decode cX3_change 67 = .ok (.iload_n 3, 1) := by decide +kernel
theorem dX3_change_68 : decode cX3_change 68 = .ok (.dup2, 1) := by decide +kernel
theorem dX3_change_69 : decode cX3_change 69 = .ok (.iaload, 1) := by decide +kernel
theorem dX3_change_70 : decode cX3_change 70 = .ok (.iconst 1, 1) := by decide +kernel
theorem dX3_change_71 : decode cX3_change 71 = .ok (.ior, 1) := by decide +kernel
theorem dX3_change_72 : decode cX3_change 72 = .ok (.iastore, 1) := by decide +kernel
theorem dX3_change_73 : decode cX3_change 73 = .ok (.goto 69, 3) := by decide +kernel
theorem dX3_change_76 : decode cX3_change 76 = .ok (.aload_n 0, 1) := by decide +kernel
theorem dX3_change_77 : decode cX3_change 77 = .ok (.getfield 15, 3) := by decide +kernel
theorem dX3_change_80 : decode cX3_change 80 = .ok (.iload_n 3, 1) := by decide +kernel
theorem dX3_change_81 : decode cX3_change 81 = .ok (.aload_n 0, 1) := by decide +kernel
theorem dX3_change_82 : decode cX3_change 82 = .ok (.getfield 15, 3) := by decide +kernel
theorem dX3_change_85 : decode cX3_change 85 = .ok (.iload_n 3, 1) := by decide +kernel
theorem dX3_change_86 : decode cX3_change 86 = .ok (.iaload, 1) := by decide +kernel
theorem dX3_change_87 : decode cX3_change 87 = .ok (.bipush (-2), 2) := by decide +kernel
theorem dX3_change_89 : decode cX3_change 89 = .ok (.iand, 1) := by decide +kernel
theorem dX3_change_90 : decode cX3_change 90 = .ok (.iconst 2, 1) := by decide +kernel
theorem dX3_change_91 : decode cX3_change 91 = .ok (.ior, 1) := by decide +kernel
theorem dX3_change_92 : decode cX3_change 92 = .ok (.iastore, 1) := by decide +kernel
theorem dX3_change_93 : decode cX3_change 93 = .ok (.goto 49, 3) := by decide +kernel
theorem dX3_change_96 : decode cX3_change 96 = .ok (.aload_n 0, 1) := by decide +kernel
theorem dX3_change_97 : decode cX3_change 97 = .ok (.getfield 18, 3) := by decide +kernel
theorem dX3_change_100 : decode cX3_change 100 = .ok (.iload_n 3, 1) := by decide +kernel
theorem dX3_change_101 : decode cX3_change 101 = .ok (.iconst 1, 1) := by decide +kernel
theorem dX3_change_102 : decode cX3_change 102 = .ok (.iastore, 1) := by decide +kernel
theorem dX3_change_103 : decode cX3_change 103 = .ok (.goto 39, 3) := by decide +kernel
theorem dX3_change_106 : decode cX3_change 106 = .ok (.aload_n 0, 1) := by decide +kernel
theorem dX3_change_107 : decode cX3_change 107 = .ok (.getfield 18, 3) := by decide +kernel
theorem dX3_change_110 : decode cX3_change 110 = .ok (.iload_n 3, 1) := by decide +kernel
theorem dX3_change_111 : decode cX3_change 111 = .ok (.iconst 4, 1) := by decide +kernel
theorem dX3_change_112 : decode cX3_change 112 = .ok (.iastore, 1) := by decide +kernel
theorem dX3_change_113 : decode cX3_change 113 = .ok (.goto 29, 3) := by decide +kernel
theorem dX3_change_116 : decode cX3_change 116 = .ok (.aload_n 0, 1) := by decide +kernel
theorem dX3_change_117 : decode cX3_change 117 = .ok (.getfield 18, 3) := by decide +kernel
theorem dX3_change_120 : decode cX3_change 120 = .ok (.iload_n 3, 1) := by decide +kernel
theorem dX3_change_121 : decode cX3_change 121 = .ok (.dup2, 1) := by decide +kernel
theorem dX3_change_122 : decode cX3_change 122 = .ok (.iaload, 1) := by decide +kernel
theorem dX3_change_123 : decode cX3_change 123 = .ok (.iconst 2, 1) := by decide +kernel
theorem dX3_change_124 : decode cX3_change 124 = .ok (.iadd, 1) := by decide +kernel
theorem dX3_change_125 : decode cX3_change 125 = .ok (.iastore, 1) := by decide +kernel
theorem dX3_change_126 : decode cX3_change 126 = .ok (.goto 16, 3) := by decide +kernel
theorem dX3_change_129 : decode cX3_change 129 = .ok (.aload_n 0, 1) := by decide +kernel
theorem dX3_change_130 : decode cX3_change 130 = .ok (.getfield 18, 3) := by decide +kernel
theorem dX3_change_133 : decode cX3_change 133 = .ok (.iload_n 3, 1) := by decide +kernel
theorem dX3_change_134 : decode cX3_change 134 = .ok (.dup2, 1) := by decide +kernel
theorem dX3_change_135 : decode cX3_change 135 = .ok (.iaload, 1) := by decide +kernel
theorem dX3_change_136 : decode cX3_change 136 = .ok (.iconst 2, 1) := by decide +kernel
theorem dX3_change_137 : decode cX3_change 137 = .ok (.imul, 1) := by decide +kernel
theorem dX3_change_138 : decode cX3_change 138 = .ok (.iastore, 1) := by decide +kernel
theorem dX3_change_139 : decode cX3_change 139 = .ok (.goto 3, 3) := by decide +kernel
theorem dX3_change_142 : decode cX3_change 142 = .ok (.return_, 1) := by decide +kernel
set_option maxRecDepth 20000 in
theorem ggX4_init_X2_init : GoodIn wsX4_init wsX2_init := goodIn_r _ [23, 24, 2, 3, 4, 25, 26, 27, 28, 63, 64, 65, 66, 67] (by decide +kernel) (by decide +kernel)
set_option maxRecDepth 20000 in
theorem gX4_init_X2_init_n15 : GoodIn wsX4_init (wsX2_init) := ggX4_init_X2_init
set_option maxRecDepth 20000 in
theorem ggX4_init_X0_init : GoodIn wsX4_init wsX0_init := goodIn_r _ [30, 31, 2, 3, 4, 32, 33, 34, 35, 36, 37, 68, 69, 70, 71, 72, 73] (by decide +kernel) (by decide +kernel)
set_option maxRecDepth 20000 in
theorem gX4_init_X0_init_n22 : GoodIn wsX4_init (wsX0_init) := ggX4_init_X0_init
set_option maxRecDepth 20000 in
theorem ggX4_init_X3_init : GoodIn wsX4_init wsX3_init := goodIn_r _ [39, 40, 2, 3, 4, 41, 42, 43, 44, 45, 74, 75, 76, 77, 78] (by decide +kernel) (by decide +kernel)
set_option maxRecDepth 20000 in
theorem gX4_init_X3_init_n29 : GoodIn wsX4_init (wsX3_init) := ggX4_init_X3_init
set_option maxRecDepth 20000 in
theorem ggX4_init_X1_init : GoodIn wsX4_init wsX1_init := goodIn_r _ [47, 48, 2, 3, 4, 49, 50, 51, 79, 80, 81, 82, 83] (by decide +kernel) (by decide +kernel)
set_option maxRecDepth 20000 in
theorem gX4_init_X1_init_n36 : GoodIn wsX4_init (wsX1_init) := ggX4_init_X1_init
theorem dX4_init_0 : decode cX4_init 0 = .ok (.aload_n 0, 1) := by decide +kernel
theorem dX4_init_1 : decode cX4_init 1 = .ok (.invokespecial 1, 3) := by decide +kernel
theorem dX4_init_4 : decode cX4_init 4 = .ok (.aload_n 0, 1) := by decide +kernel
theorem dX4_init_5 : decode cX4_init 5 = .ok (.iconst 3, 1) := by decide +kernel
theorem dX4_init_6 : decode cX4_init 6 = .ok (.newarray .int, 2) := by decide +kernel
theorem dX4_init_8 : decode cX4_init 8 = .ok (.putfield 9, 3) := by decide +kernel
theorem dX4_init_11 : decode cX4_init 11 = .ok (.iconst 0, 1) := by decide +kernel
theorem dX4_init_12 : decode cX4_init 12 = .ok (.istore_n 1, 1) := by decide +kernel
theorem dX4_init_13 : decode cX4_init 13 = .ok (.iload_n 1, 1) := by decide +kernel
theorem dX4_init_14 : decode cX4_init 14 = .ok (.iconst 3, 1) := by decide +kernel
theorem dX4_init_15 : decode cX4_init 15 = .ok (.if_icmp .ge 17, 3) := by decide +kernel
theorem dX4_init_18 : decode cX4_init 18 = .ok (.aload_n 0, 1) := by decide +kernel
theorem dX4_init_19 : decode cX4_init 19 = .ok (.getfield 9, 3) := by decide +kernel
theorem dX4_init_22 : decode cX4_init 22 = .ok (.iload_n 1, 1) := by decide +kernel
theorem dX4_init_23 : decode cX4_init 23 = .ok (.bipush 6, 2) := by decide +kernel
theorem dX4_init_25 : decode cX4_init 25 = .ok (.iastore, 1) := by decide +kernel
theorem dX4_init_26 : decode cX4_init 26 = .ok (.iinc 1 1, 3) := by decide +kernel
theorem dX4_init_29 : decode cX4_init 29 = .ok (.goto (-16), 3) := by decide +kernel
theorem dX4_init_32 : decode cX4_init 32 = .ok (.aload_n 0, 1) := by decide +kernel
theorem dX4_init_33 : decode cX4_init 33 = .ok (.new 13, 3) := by decide +kernel
theorem dX4_init_36 : decode cX4_init 36 = .ok (.dup, 1) := by decide +kernel
theorem dX4_init_37 : decode cX4_init 37 = .ok (.invokespecial 15, 3) := by decide +kernel
theorem dX4_init_40 : decode cX4_init 40 = .ok (.putfield 16, 3) := by decide +kernel
theorem dX4_init_43 : decode cX4_init 43 = .ok (.aload_n 0, 1) := by decide +kernel
theorem dX4_init_44 : decode cX4_init 44 = .ok (.new 20, 3) := by decide +kernel
theorem dX4_init_47 : decode cX4_init 47 = .ok (.dup, 1) := by decide +kernel
theorem dX4_init_48 : decode cX4_init 48 = .ok (.invokespecial 22, 3) := by decide +kernel
theorem dX4_init_51 : decode cX4_init 51 = .ok (.putfield 23, 3) := by decide +kernel
theorem dX4_init_54 : decode cX4_init 54 = .ok (.aload_n 0, 1) := by decide +kernel
theorem dX4_init_55 : decode cX4_init 55 = .ok (.new 27, 3) := by decide +kernel
theorem dX4_init_58 : decode cX4_init 58 = .ok (.dup, 1) := by decide +kernel
theorem dX4_init_59 : decode cX4_init 59 = .ok (.invokespecial 29, 3) := by decide +kernel
theorem dX4_init_62 : decode cX4_init 62 = .ok (.putfield 30, 3) := by decide +kernel
theorem dX4_init_65 : decode cX4_init 65 = .ok (.aload_n 0, 1) := by decide +kernel
theorem dX4_init_66 : decode cX4_init 66 = .ok (.new 34, 3) := by decide +kernel
theorem dX4_init_69 : decode cX4_init 69 = .ok (.dup, 1) := by decide +kernel
theorem dX4_init_70 : decode cX4_init 70 = .ok (.invokespecial 36, 3) := by decide +kernel
theorem dX4_init_73 : decode cX4_init 73 = .ok (.putfield 37, 3) := by decide +kernel
theorem dX4_init_76 : decode cX4_init 76 = .ok (.return_, 1) := by decide +kernel
set_option maxRecDepth 20000 in
theorem ggX4_play_X4_findObstacle : GoodIn wsX4_play wsX4_findObstacle := goodIn_r _ [14, 6, 9, 5, 15, 16, 17, 13, 18, 19, 20, 21, 22, 23, 24, 25, 26, 27, 28, 29, 30, 31, 32, 33, 34, 35, 36, 37, 38, 39, 40, 41, 42, 43, 44, 45, 46, 47, 48, 49, 50, 85, 86, 87, 88, 89, 90, 91, 92, 93, 94, 95, 96, 97, 98, 99, 100, 101, 102, 103, 104, 105, 106] (by decide +kernel) (by decide +kernel)
set_option maxRecDepth 20000 in
theorem gX4_play_X4_findObstacle : GoodIn wsX4_play (wsV RX4 48 RX4 yX4_findObstacle wsX4_findObstacle) := goodIn_app (goodIn_of _ (by decide +kernel)) ggX4_play_X4_findObstacle
set_option maxRecDepth 20000 in
theorem ggX4_play_X4_costOf : GoodIn wsX4_play wsX4_costOf := goodIn_r _ [26, 27] (by decide +kernel) (by decide +kernel)
set_option maxRecDepth 20000 in
theorem gX4_play_X4_costOf : GoodIn wsX4_play (va_wsS RX4 61 yX4_costOf wsX4_costOf) := goodIn_app (goodIn_of _ (by decide +kernel)) ggX4_play_X4_costOf
set_option maxRecDepth 20000 in
theorem ggX4_play_X4_pay : GoodIn wsX4_play wsX4_pay := goodIn_r _ [54, 23, 85, 86, 87, 88, 89, 90, 91, 92, 93, 94, 95] (by decide +kernel) (by decide +kernel)
set_option maxRecDepth 20000 in
theorem gX4_play_X4_pay : GoodIn wsX4_play (wsV RX4 65 RX4 yX4_pay wsX4_pay) := goodIn_app (goodIn_of _ (by decide +kernel)) ggX4_play_X4_pay
set_option maxRecDepth 20000 in
theorem ggX4_play_X4_targetId : GoodIn wsX4_play wsX4_targetId := goodIn_r _ [58, 32, 59, 6, 60, 34, 35, 36, 37, 38, 39, 40, 41, 42, 43, 44, 45, 46, 47, 48, 49, 50, 85, 86, 87, 88, 89, 90, 91, 92, 93, 94, 95, 102, 103, 104, 105, 106, 96, 97, 98, 99, 100, 101] (by decide +kernel) (by decide +kernel)
set_option maxRecDepth 20000 in
theorem gX4_play_X4_targetId : GoodIn wsX4_play (wsV RX4 69 RX4 yX4_targetId wsX4_targetId) := goodIn_app (goodIn_of _ (by decide +kernel)) ggX4_play_X4_targetId
set_option maxRecDepth 20000 in
theorem ggX4_play_X4_newId : GoodIn wsX4_play wsX4_newId := goodIn_r _ [64, 65, 85, 86, 87, 88, 89, 90, 91, 92, 93, 94, 95] (by decide +kernel) (by decide +kernel)
set_option maxRecDepth 20000 in
theorem gX4_play_X4_newId : GoodIn wsX4_play (wsV RX4 72 RX4 yX4_newId wsX4_newId) := goodIn_app (goodIn_of _ (by decide +kernel)) ggX4_play_X4_newId
set_option maxRecDepth 20000 in
theorem ggX4_play_X0_push : GoodIn wsX4_play wsX0_push := goodIn_r _ [69, 45, 70, 71, 72, 73, 74, 96, 97, 98, 99, 100, 101] (by decide +kernel) (by decide +kernel)
set_option maxRecDepth 20000 in
theorem gX4_play_X0_push : GoodIn wsX4_play (wsV RX4 76 RX0 yX0_push wsX0_push) := goodIn_app (goodIn_of _ (by decide +kernel)) ggX4_play_X0_push
set_option maxRecDepth 20000 in
theorem ggX4_play_X1_forget : GoodIn wsX4_play wsX1_forget := goodIn_r _ [79, 80, 81, 107, 108, 109, 110, 111] (by decide +kernel) (by decide +kernel)
set_option maxRecDepth 20000 in
theorem gX4_play_X1_forget : GoodIn wsX4_play (wsV RX4 80 RX1 yX1_forget wsX1_forget) := goodIn_app (goodIn_of _ (by decide +kernel)) ggX4_play_X1_forget
set_option maxRecDepth 20000 in
theorem ggX4_play_X4_nextPlayer : GoodIn wsX4_play wsX4_nextPlayer := goodIn_r _ [84] (by decide +kernel) (by decide +kernel)
set_option maxRecDepth 20000 in
theorem gX4_play_X4_nextPlayer : GoodIn wsX4_play (va_wsS RX4 86 yX4_nextPlayer wsX4_nextPlayer) := goodIn_app (goodIn_of _ (by decide +kernel)) ggX4_play_X4_nextPlayer
theorem dX4_play_0 : decode cX4_play 0 = .ok (.iload_n 1, 1) := by decide +kernel
theorem dX4_play_1 : decode cX4_play 1 = .ok (.ifCond .lt 9, 3) := by decide +kernel
theorem dX4_play_4 : decode cX4_play 4 = .ok (.iload_n 1, 1) := by decide +kernel
theorem dX4_play_5 : decode cX4_play 5 = .ok (.bipush 14, 2) := by decide +kernel
theorem dX4_play_7 : decode cX4_play 7 = .ok (.if_icmp .lt 13, 3) := by decide +kernel
theorem dX4_play_10 : decode cX4_play 10 = .ok (.new 41, 3) := by decide +kernel
theorem dX4_play_13 : decode cX4_play 13 = .ok (.dup, 1) := by decide +kernel
theorem dX4_play_14 : decode cX4_play 14 = .ok (.ldc 43, 2) := by decide +kernel
theorem dX4_play_16 : decode cX4_play 16 = .ok (.invokespecial 45, 3) := by decide +kernel
theorem dX4_play_19 : decode cX4_play 19 = .ok (.athrow, 1) := by decide +kernel
theorem dX4_play_20 : decode cX4_play 20 = .ok (.aload_n 0, 1) := by decide +kernel
theorem dX4_play_21 : decode cX4_play 21 = .ok (.iload_n 1, 1) := by decide +kernel
theorem dX4_play_22 : decode cX4_play 22 = .ok (.iload_n 2, 1) := by decide +kernel
theorem dX4_play_23 : decode cX4_play 23 = .ok (.invokevirtual 48, 3) := by decide +kernel
theorem dX4_play_26 : decode cX4_play 26 = .ok (.ifCond .eq 13, 3) := by decide +kernel
theorem dX4_play_29 : decode cX4_play 29 = .ok (.new 52, 3) := by decide +kernel
theorem dX4_play_32 : decode cX4_play 32 = .ok (.dup, 1) := by decide +kernel
theorem dX4_play_33 : decode cX4_play 33 = .ok (.ldc 54, 2) := by decide +kernel
theorem dX4_play_35 : decode cX4_play 35 = .ok (.invokespecial 56, 3) := by decide +kernel
theorem dX4_play_38 : decode cX4_play 38 = .ok (.athrow, 1) := by decide +kernel
theorem dX4_play_39 : decode cX4_play 39 = .ok (.aload_n 0, 1) := by decide +kernel
theorem dX4_play_40 : decode cX4_play 40 = .ok (.aload_n 0, 1) := by decide +kernel
theorem dX4_play_41 : decode cX4_play 41 = .ok (.getfield 57, 3) := by decide +kernel
theorem dX4_play_44 : decode cX4_play 44 = .ok (.iload_n 1, 1) := by decide +kernel
theorem dX4_play_45 : decode cX4_play 45 = .ok (.invokestatic 61, 3) := by decide +kernel
theorem dX4_play_48 : decode cX4_play 48 = .ok (.ineg, 1) := by decide +kernel
theorem dX4_play_49 : decode cX4_play 49 = .ok (.invokevirtual 65, 3) := by decide +kernel
theorem dX4_play_52 : decode cX4_play 52 = .ok (.aload_n 0, 1) := by decide +kernel
theorem dX4_play_53 : decode cX4_play 53 = .ok (.getfield 23, 3) := by decide +kernel
theorem dX4_play_56 : decode cX4_play 56 = .ok (.iload_n 1, 1) := by decide +kernel
theorem dX4_play_57 : decode cX4_play 57 = .ok (.iconst 0, 1) := by decide +kernel
theorem dX4_play_58 : decode cX4_play 58 = .ok (.aload_n 0, 1) := by decide +kernel
theorem dX4_play_59 : decode cX4_play 59 = .ok (.getfield 57, 3) := by decide +kernel
theorem dX4_play_62 : decode cX4_play 62 = .ok (.aload_n 0, 1) := by decide +kernel
theorem dX4_play_63 : decode cX4_play 63 = .ok (.iload_n 1, 1) := by decide +kernel
theorem dX4_play_64 : decode cX4_play 64 = .ok (.iload_n 2, 1) := by decide +kernel
theorem dX4_play_65 : decode cX4_play 65 = .ok (.invokevirtual 69, 3) := by decide +kernel
theorem dX4_play_68 : decode cX4_play 68 = .ok (.aload_n 0, 1) := by decide +kernel
theorem dX4_play_69 : decode cX4_play 69 = .ok (.invokevirtual 72, 3) := by decide +kernel
theorem dX4_play_72 : decode cX4_play 72 = .ok (.invokevirtual 76, 3) := by decide +kernel
theorem dX4_play_75 : decode cX4_play 75 = .ok (.aload_n 0, 1) := by decide +kernel
theorem dX4_play_76 : decode cX4_play 76 = .ok (.getfield 37, 3) := by decide +kernel
theorem dX4_play_79 : decode cX4_play 79 = .ok (.invokevirtual 80, 3) := by decide +kernel
theorem dX4_play_82 : decode cX4_play 82 = .ok (.aload_n 0, 1) := by decide +kernel
theorem dX4_play_83 : decode cX4_play 83 = .ok (.iconst 0, 1) := by decide +kernel
theorem dX4_play_84 : decode cX4_play 84 = .ok (.putfield 83, 3) := by decide +kernel
theorem dX4_play_87 : decode cX4_play 87 = .ok (.aload_n 0, 1) := by decide +kernel
theorem dX4_play_88 : decode cX4_play 88 = .ok (.aload_n 0, 1) := by decide +kernel
theorem dX4_play_89 : decode cX4_play 89 = .ok (.getfield 57, 3) := by decide +kernel
theorem dX4_play_92 : decode cX4_play 92 = .ok (.invokestatic 86, 3) := by decide +kernel
theorem dX4_play_95 : decode cX4_play 95 = .ok (.putfield 57, 3) := by decide +kernel
theorem dX4_play_98 : decode cX4_play 98 = .ok (.aload_n 0, 1) := by decide +kernel
theorem dX4_play_99 : decode cX4_play 99 = .ok (.getfield 23, 3) := by decide +kernel
theorem dX4_play_102 : decode cX4_play 102 = .ok (.getfield 89, 3) := by decide +kernel
theorem dX4_play_105 : decode cX4_play 105 = .ok (.ireturn, 1) := by decide +kernel
set_option maxRecDepth 20000 in
theorem ggX4_obstacle_X4_findObstacle : GoodIn wsX4_obstacle wsX4_findObstacle := goodIn_r _ [7, 8, 9, 10, 11, 12, 13, 6, 14, 15, 16, 17, 18, 19, 20, 21, 22, 23, 24, 25, 26, 27, 28, 29, 30, 31, 32, 33, 34, 35, 36, 37, 38, 39, 40, 41, 42, 43, 44, 45, 46, 47, 48, 49, 50, 51, 52, 53, 54, 55, 56, 57, 58, 59, 60, 61, 62, 63, 64, 65, 66, 67, 68] (by decide +kernel) (by decide +kernel)
set_option maxRecDepth 20000 in
theorem gX4_obstacle_X4_findObstacle : GoodIn wsX4_obstacle (wsV RX4 48 RX4 yX4_findObstacle wsX4_findObstacle) := goodIn_app (goodIn_of _ (by decide +kernel)) ggX4_obstacle_X4_findObstacle
theorem dX4_obstacle_0 : decode cX4_obstacle 0 = .ok (.iload_n 1, 1) := by decide +kernel
theorem dX4_obstacle_1 : decode cX4_obstacle 1 = .ok (.ifCond .lt 9, 3) := by decide +kernel
theorem dX4_obstacle_4 : decode cX4_obstacle 4 = .ok (.iload_n 1, 1) := by decide +kernel
theorem dX4_obstacle_5 : decode cX4_obstacle 5 = .ok (.bipush 14, 2) := by decide +kernel
theorem dX4_obstacle_7 : decode cX4_obstacle 7 = .ok (.if_icmp .lt 13, 3) := by decide +kernel
theorem dX4_obstacle_10 : decode cX4_obstacle 10 = .ok (.new 41, 3) := by decide +kernel
theorem dX4_obstacle_13 : decode cX4_obstacle 13 = .ok (.dup, 1) := by decide +kernel
theorem dX4_obstacle_14 : decode cX4_obstacle 14 = .ok (.ldc 43, 2) := by decide +kernel
theorem dX4_obstacle_16 : decode cX4_obstacle 16 = .ok (.invokespecial 45, 3) := by decide +kernel
theorem dX4_obstacle_19 : decode cX4_obstacle 19 = .ok (.athrow, 1) := by decide +kernel
theorem dX4_obstacle_20 : decode cX4_obstacle 20 = .ok (.aload_n 0, 1) := by decide +kernel
theorem dX4_obstacle_21 : decode cX4_obstacle 21 = .ok (.iload_n 1, 1) := by decide +kernel
theorem dX4_obstacle_22 : decode cX4_obstacle 22 = .ok (.iload_n 2, 1) := by decide +kernel
theorem dX4_obstacle_23 : decode cX4_obstacle 23 = .ok (.invokevirtual 48, 3) := by decide +kernel
theorem dX4_obstacle_26 : decode cX4_obstacle 26 = .ok (.ireturn, 1) := by decide +kernel
set_option maxRecDepth 20000 in
theorem ggX4_pass_X4_nextPlayer : GoodIn wsX4_pass wsX4_nextPlayer := goodIn_r _ [8] (by decide +kernel) (by decide +kernel)
set_option maxRecDepth 20000 in
theorem gX4_pass_X4_nextPlayer : GoodIn wsX4_pass (va_wsS RX4 86 yX4_nextPlayer wsX4_nextPlayer) := goodIn_app (goodIn_of _ (by decide +kernel)) ggX4_pass_X4_nextPlayer
set_option maxRecDepth 20000 in
theorem ggX4_pass_X4_resolveTop : GoodIn wsX4_pass wsX4_resolveTop := goodIn_r _ [12, 3, 4, 13, 14, 15, 16, 1, 17, 2, 18, 19, 20, 21, 22, 23, 24, 25, 26, 27, 28, 29, 30, 31, 7, 32, 33, 34, 35, 36, 37, 38, 39, 40, 41, 42, 43, 44, 45, 46, 47, 48, 49, 50, 51, 52, 53, 54, 55, 56, 57, 58, 59, 60, 61, 62, 63, 64, 65, 66, 67, 68, 69, 70, 71, 72, 73, 74, 75, 76, 77, 78, 79, 80, 81, 82, 83, 84, 85, 86, 87, 88, 89, 90, 91, 92, 93, 94, 95, 96, 97, 98, 99, 100, 101, 102, 103, 104, 105, 106, 107, 108, 109, 110, 111, 112, 113, 114, 115, 116, 117, 118, 119, 120, 121, 122, 123, 124, 125, 126, 127, 128, 129, 130, 131, 132, 133, 134, 135, 136, 137, 138, 139, 140, 141, 142, 143, 144, 145, 146, 147, 148, 5, 6, 8, 149, 150, 151, 152, 153, 154, 155, 156, 157, 158, 159, 160, 161, 162, 163, 164, 165, 166, 167, 168, 169, 170, 171, 172, 173, 174, 175, 176, 177, 178, 179, 180, 181, 182, 183, 184, 185, 186, 187, 188, 189, 190, 191, 192, 193, 194, 200, 201, 202, 203, 204, 205, 206, 207, 208, 209, 210, 211, 212, 213, 214, 215, 216, 217, 218, 219, 220, 221, 222, 223, 224, 225, 226, 227, 228, 229, 230, 231] (by decide +kernel) (by decide +kernel)
set_option maxRecDepth 20000 in
theorem gX4_pass_X4_resolveTop : GoodIn wsX4_pass (wsV RX4 92 RX4 yX4_resolveTop wsX4_resolveTop) := goodIn_app (goodIn_of _ (by decide +kernel)) ggX4_pass_X4_resolveTop
set_option maxRecDepth 20000 in
theorem ggX4_pass_X4_beginTurn : GoodIn wsX4_pass wsX4_beginTurn := goodIn_r _ [198, 17, 2, 1, 199, 153, 5, 6, 7, 8, 182, 183, 184, 160, 185, 176, 186, 34, 35, 36, 37, 38, 134, 135, 136, 137, 89, 33, 138, 139, 140, 3, 92, 93, 94, 95, 96, 97, 98, 99, 100, 101, 102, 103, 104, 105, 106, 107, 108, 109, 110, 111, 112, 113, 114, 115, 116, 117, 118, 119, 120, 121, 141, 142, 143, 144, 43, 44, 45, 46, 47, 145, 146, 147, 21, 148, 23, 24, 25, 26, 27, 28, 200, 201, 202, 203, 204, 205, 206, 207, 208, 209, 210, 227, 228, 229, 230, 231, 217, 218, 219, 220, 221, 222, 223, 224, 225, 226, 211, 212, 213, 214, 215, 216] (by decide +kernel) (by decide +kernel)
set_option maxRecDepth 20000 in
theorem gX4_pass_X4_beginTurn : GoodIn wsX4_pass (wsV RX4 95 RX4 yX4_beginTurn wsX4_beginTurn) := goodIn_app (goodIn_of _ (by decide +kernel)) ggX4_pass_X4_beginTurn
theorem dX4_pass_0 : decode cX4_pass 0 = .ok (.aload_n 0, 1) := by decide +kernel
theorem dX4_pass_1 : decode cX4_pass 1 = .ok (.dup, 1) := by decide +kernel
theorem dX4_pass_2 : decode cX4_pass 2 = .ok (.getfield 83, 3) := by decide +kernel
theorem dX4_pass_5 : decode cX4_pass 5 = .ok (.iconst 1, 1) := by decide +kernel
theorem dX4_pass_6 : decode cX4_pass 6 = .ok (.iadd, 1) := by decide +kernel
theorem dX4_pass_7 : decode cX4_pass 7 = .ok (.putfield 83, 3) := by decide +kernel
theorem dX4_pass_10 : decode cX4_pass 10 = .ok (.aload_n 0, 1) := by decide +kernel
theorem dX4_pass_11 : decode cX4_pass 11 = .ok (.getfield 83, 3) := by decide +kernel
theorem dX4_pass_14 : decode cX4_pass 14 = .ok (.iconst 3, 1) := by decide +kernel
theorem dX4_pass_15 : decode cX4_pass 15 = .ok (.if_icmp .ge 16, 3) := by decide +kernel
theorem dX4_pass_18 : decode cX4_pass 18 = .ok (.aload_n 0, 1) := by decide +kernel
theorem dX4_pass_19 : decode cX4_pass 19 = .ok (.aload_n 0, 1) := by decide +kernel
theorem dX4_pass_20 : decode cX4_pass 20 = .ok (.getfield 57, 3) := by decide +kernel
theorem dX4_pass_23 : decode cX4_pass 23 = .ok (.invokestatic 86, 3) := by decide +kernel
theorem dX4_pass_26 : decode cX4_pass 26 = .ok (.putfield 57, 3) := by decide +kernel
theorem dX4_pass_29 : decode cX4_pass 29 = .ok (.iconst 0, 1) := by decide +kernel
theorem dX4_pass_30 : decode cX4_pass 30 = .ok (.ireturn, 1) := by decide +kernel
theorem dX4_pass_31 : decode cX4_pass 31 = .ok (.aload_n 0, 1) := by decide +kernel
theorem dX4_pass_32 : decode cX4_pass 32 = .ok (.getfield 23, 3) := by decide +kernel
theorem dX4_pass_35 : decode cX4_pass 35 = .ok (.getfield 89, 3) := by decide +kernel
theorem dX4_pass_38 : decode cX4_pass 38 = .ok (.ifCond .le 9, 3) := by decide +kernel
theorem dX4_pass_41 : decode cX4_pass 41 = .ok (.aload_n 0, 1) := by decide +kernel
theorem dX4_pass_42 : decode cX4_pass 42 = .ok (.invokevirtual 92, 3) := by decide +kernel
theorem dX4_pass_45 : decode cX4_pass 45 = .ok (.iconst 1, 1) := by decide +kernel
theorem dX4_pass_46 : decode cX4_pass 46 = .ok (.ireturn, 1) := by decide +kernel
theorem dX4_pass_47 : decode cX4_pass 47 = .ok (.aload_n 0, 1) := by decide +kernel
theorem dX4_pass_48 : decode cX4_pass 48 = .ok (.invokevirtual 95, 3) := by decide +kernel
theorem dX4_pass_51 : decode cX4_pass 51 = .ok (.iconst 2, 1) := by decide +kernel
theorem dX4_pass_52 : decode cX4_pass 52 = .ok (.ireturn, 1) := by decide +kernel
set_option maxRecDepth 20000 in
theorem ggX4_settle_X4_resolveTop : GoodIn wsX4_settle wsX4_resolveTop := goodIn_r _ [9, 3, 4, 10, 11, 12, 13, 14, 15, 16, 17, 18, 19, 20, 21, 22, 23, 24, 25, 26, 27, 28, 29, 30, 8, 31, 32, 33, 34, 35, 36, 37, 38, 39, 40, 41, 42, 43, 44, 45, 46, 47, 48, 49, 50, 51, 52, 53, 54, 55, 56, 57, 58, 59, 60, 61, 62, 63, 64, 65, 66, 67, 68, 69, 70, 71, 72, 73, 74, 75, 76, 77, 78, 79, 80, 81, 82, 83, 84, 85, 86, 87, 88, 89, 90, 91, 92, 93, 94, 95, 96, 97, 98, 99, 100, 101, 102, 103, 104, 105, 106, 107, 108, 109, 110, 111, 112, 113, 114, 115, 116, 117, 118, 119, 120, 121, 122, 123, 124, 125, 126, 127, 128, 129, 130, 131, 132, 133, 134, 135, 136, 137, 138, 139, 140, 141, 142, 143, 144, 145, 146, 147, 148, 149, 150, 151, 152, 153, 154, 155, 156, 157, 158, 159, 160, 161, 162, 163, 164, 165, 166, 167, 168, 169, 170, 171, 172, 173, 174, 175, 176, 177, 178, 179, 180, 181, 182, 183, 184, 185, 186, 187, 188, 189, 190, 191, 192, 193, 194, 195, 196, 197, 198, 199, 200, 201, 202, 203, 204, 205, 206, 207, 208, 209, 210, 211, 212, 213, 214, 215, 216, 217, 218, 219, 220, 221, 222, 223, 224, 225, 226, 227, 228] (by decide +kernel) (by decide +kernel)
set_option maxRecDepth 20000 in
theorem gX4_settle_X4_resolveTop : GoodIn wsX4_settle (wsV RX4 92 RX4 yX4_resolveTop wsX4_resolveTop) := goodIn_app (goodIn_of _ (by decide +kernel)) ggX4_settle_X4_resolveTop
theorem dX4_settle_0 : decode cX4_settle 0 = .ok (.iload_n 1, 1) := by decide +kernel
theorem dX4_settle_1 : decode cX4_settle 1 = .ok (.iconst 1, 1) := by decide +kernel
theorem dX4_settle_2 : decode cX4_settle 2 = .ok (.if_icmp .lt 9, 3) := by decide +kernel
theorem dX4_settle_5 : decode cX4_settle 5 = .ok (.iload_n 1, 1) := by decide +kernel
theorem dX4_settle_6 : decode cX4_settle 6 = .ok (.bipush 60, 2) := by decide +kernel
theorem dX4_settle_8 : decode cX4_settle 8 = .ok (.if_icmp .le 13, 3) := by decide +kernel
theorem dX4_settle_11 : decode cX4_settle 11 = .ok (.new 98, 3) := by decide +kernel
theorem dX4_settle_14 : decode cX4_settle 14 = .ok (.dup, 1) := by decide +kernel
theorem dX4_settle_15 : decode cX4_settle 15 = .ok (.ldc 100, 2) := by decide +kernel
theorem dX4_settle_17 : decode cX4_settle 17 = .ok (.invokespecial 102, 3) := by decide +kernel
theorem dX4_settle_20 : decode cX4_settle 20 = .ok (.athrow, 1) := by decide +kernel
theorem dX4_settle_21 : decode cX4_settle 21 = .ok (.iconst 0, 1) := by decide +kernel
theorem dX4_settle_22 : decode cX4_settle 22 = .ok (.istore_n 2, 1) := by decide +kernel
theorem dX4_settle_23 : decode cX4_settle 23 = .ok (.iload_n 2, 1) := by decide +kernel
theorem dX4_settle_24 : decode cX4_settle 24 = .ok (.iload_n 1, 1) := by decide +kernel
theorem dX4_settle_25 : decode cX4_settle 25 = .ok (.if_icmp .ge 23, 3) := by decide +kernel
theorem dX4_settle_28 : decode cX4_settle 28 = .ok (.aload_n 0, 1) := by decide +kernel
theorem dX4_settle_29 : decode cX4_settle 29 = .ok (.getfield 23, 3) := by decide +kernel
theorem dX4_settle_32 : decode cX4_settle 32 = .ok (.getfield 89, 3) := by decide +kernel
theorem dX4_settle_35 : decode cX4_settle 35 = .ok (.ifCond .le 13, 3) := by decide +kernel
theorem dX4_settle_38 : decode cX4_settle 38 = .ok (.aload_n 0, 1) := by decide +kernel
theorem dX4_settle_39 : decode cX4_settle 39 = .ok (.invokevirtual 92, 3) := by decide +kernel
theorem dX4_settle_42 : decode cX4_settle 42 = .ok (.iinc 2 1, 3) := by decide +kernel
theorem dX4_settle_45 : decode cX4_settle 45 = .ok (.goto (-22), 3) := by decide +kernel
theorem dX4_settle_48 : decode cX4_settle 48 = .ok (.iload_n 2, 1) := by decide +kernel
theorem dX4_settle_49 : decode cX4_settle 49 = .ok (.ireturn, 1) := by decide +kernel
theorem dX4_turn_0 : decode cX4_turn 0 = .ok (.aload_n 0, 1) := by decide +kernel
theorem dX4_turn_1 : decode cX4_turn 1 = .ok (.getfield 103, 3) := by decide +kernel
theorem dX4_turn_4 : decode cX4_turn 4 = .ok (.ireturn, 1) := by decide +kernel
theorem dX4_acting_0 : decode cX4_acting 0 = .ok (.aload_n 0, 1) := by decide +kernel
