theorem dX0_init_0 : decode cX0_init 0 = .ok (.aload_n 0, 1) := by decide +kernel
theorem dX0_init_1 : decode cX0_init 1 = .ok (.invokespecial 3, 3) := by decide +kernel
theorem dX0_init_4 : decode cX0_init 4 = .ok (.aload_n 0, 1) := by decide +kernel
theorem dX0_init_5 : decode cX0_init 5 = .ok (.bipush 12, 2) := by decide +kernel
theorem dX0_init_7 : decode cX0_init 7 = .ok (.newarray .int, 2) := by decide +kernel
theorem dX0_init_9 : decode cX0_init 9 = .ok (.putfield 9, 3) := by decide +kernel
theorem dX0_init_12 : decode cX0_init 12 = .ok (.aload_n 0, 1) := by decide +kernel
theorem dX0_init_13 : decode cX0_init 13 = .ok (.bipush 12, 2) := by decide +kernel
theorem dX0_init_15 : decode cX0_init 15 = .ok (.newarray .boolean, 2) := by decide +kernel
theorem dX0_init_17 : decode cX0_init 17 = .ok (.putfield 15, 3) := by decide +kernel
theorem dX0_init_20 : decode cX0_init 20 = .ok (.aload_n 0, 1) := by decide +kernel
theorem dX0_init_21 : decode cX0_init 21 = .ok (.bipush 12, 2) := by decide +kernel
theorem dX0_init_23 : decode cX0_init 23 = .ok (.newarray .int, 2) := by decide +kernel
theorem dX0_init_25 : decode cX0_init 25 = .ok (.putfield 19, 3) := by decide +kernel
theorem dX0_init_28 : decode cX0_init 28 = .ok (.aload_n 0, 1) := by decide +kernel
theorem dX0_init_29 : decode cX0_init 29 = .ok (.bipush 12, 2) := by decide +kernel
theorem dX0_init_31 : decode cX0_init 31 = .ok (.newarray .int, 2) := by decide +kernel
theorem dX0_init_33 : decode cX0_init 33 = .ok (.putfield 22, 3) := by decide +kernel
theorem dX0_init_36 : decode cX0_init 36 = .ok (.aload_n 0, 1) := by decide +kernel
theorem dX0_init_37 : decode cX0_init 37 = .ok (.bipush 12, 2) := by decide +kernel
theorem dX0_init_39 : decode cX0_init 39 = .ok (.newarray .int, 2) := by decide +kernel
theorem dX0_init_41 : decode cX0_init 41 = .ok (.putfield 25, 3) := by decide +kernel
theorem dX0_init_44 : decode cX0_init 44 = .ok (.return_, 1) := by decide +kernel
theorem dX0_has_0 : decode cX0_has 0 = .ok (.iload_n 1, 1) := by decide +kernel
theorem dX0_has_1 : decode cX0_has 1 = .ok (.ifCond .lt 15, 3) := by decide +kernel
theorem dX0_has_4 : decode cX0_has 4 = .ok (.iload_n 1, 1) := by decide +kernel
theorem dX0_has_5 : decode cX0_has 5 = .ok (.aload_n 0, 1) := by decide +kernel
theorem dX0_has_6 : decode cX0_has 6 = .ok (.getfield 28, 3) := by decide +kernel
theorem dX0_has_9 : decode cX0_has 9 = .ok (.if_icmp .ge 7, 3) := by decide +kernel
theorem dX0_has_12 : decode cX0_has 12 = .ok (.iconst 1, 1) := by decide +kernel
theorem dX0_has_13 : decode cX0_has 13 = .ok (.goto 4, 3) := by decide +kernel
theorem dX0_has_16 : decode cX0_has 16 = .ok (.iconst 0, 1) := by decide +kernel
theorem dX0_has_17 : decode cX0_has 17 = .ok (.ireturn, 1) := by decide +kernel
set_option maxRecDepth 20000 in
theorem ggX0_indexOf_X0_has : GoodIn wsX0_indexOf wsX0_has := goodIn_r _ [6, 1, 7, 8, 9, 10, 11, 12] (by decide +kernel) (by decide +kernel)
set_option maxRecDepth 20000 in
theorem gX0_indexOf_X0_has : GoodIn wsX0_indexOf (wsV RX0 32 RX0 yX0_has wsX0_has) := goodIn_app (goodIn_of _ (by decide +kernel)) ggX0_indexOf_X0_has
theorem dX0_indexOf_0 : decode cX0_indexOf 0 = .ok (.aload_n 0, 1) := by decide +kernel
theorem dX0_indexOf_1 : decode cX0_indexOf 1 = .ok (.iload_n 1, 1) := by decide +kernel
theorem dX0_indexOf_2 : decode cX0_indexOf 2 = .ok (.invokevirtual 32, 3) := by decide +kernel
theorem dX0_indexOf_5 : decode cX0_indexOf 5 = .ok (.ifCond .eq 14, 3) := by decide +kernel
theorem dX0_indexOf_8 : decode cX0_indexOf 8 = .ok (.aload_n 0, 1) := by decide +kernel
theorem dX0_indexOf_9 : decode cX0_indexOf 9 = .ok (.getfield 28, 3) := by decide +kernel
theorem dX0_indexOf_12 : decode cX0_indexOf 12 = .ok (.iconst 1, 1) := by decide +kernel
theorem dX0_indexOf_13 : decode cX0_indexOf 13 = .ok (.isub, 1) := by decide +kernel
theorem dX0_indexOf_14 : decode cX0_indexOf 14 = .ok (.iload_n 1, 1) := by decide +kernel
theorem dX0_indexOf_15 : decode cX0_indexOf 15 = .ok (.isub, 1) := by decide +kernel
theorem dX0_indexOf_16 : decode cX0_indexOf 16 = .ok (.goto 4, 3) := by decide +kernel
theorem dX0_indexOf_19 : decode cX0_indexOf 19 = .ok (.iconst (-1), 1) := by decide +kernel
theorem dX0_indexOf_20 : decode cX0_indexOf 20 = .ok (.ireturn, 1) := by decide +kernel
theorem dX0_push_0 : decode cX0_push 0 = .ok (.aload_n 0, 1) := by decide +kernel
theorem dX0_push_1 : decode cX0_push 1 = .ok (.getfield 28, 3) := by decide +kernel
theorem dX0_push_4 : decode cX0_push 4 = .ok (.bipush 12, 2) := by decide +kernel
theorem dX0_push_6 : decode cX0_push 6 = .ok (.if_icmp .lt 4, 3) := by decide +kernel
theorem dX0_push_9 : decode cX0_push 9 = .ok (.return_, 1) := by decide +kernel
theorem dX0_push_10 : decode cX0_push 10 = .ok (.aload_n 0, 1) := by decide +kernel
theorem dX0_push_11 : decode cX0_push 11 = .ok (.getfield 9, 3) := by decide +kernel
theorem dX0_push_14 : decode cX0_push 14 = .ok (.aload_n 0, 1) := by decide +kernel
theorem dX0_push_15 : decode cX0_push 15 = .ok (.getfield 28, 3) := by decide +kernel
theorem dX0_push_18 : decode cX0_push 18 = .ok (.iload_n 1, 1) := by decide +kernel
theorem dX0_push_19 : decode cX0_push 19 = .ok (.iastore, 1) := by decide +kernel
theorem dX0_push_20 : decode cX0_push 20 = .ok (.aload_n 0, 1) := by decide +kernel
theorem dX0_push_21 : decode cX0_push 21 = .ok (.getfield 15, 3) := by decide +kernel
theorem dX0_push_24 : decode cX0_push 24 = .ok (.aload_n 0, 1) := by decide +kernel
theorem dX0_push_25 : decode cX0_push 25 = .ok (.getfield 28, 3) := by decide +kernel
theorem dX0_push_28 : decode cX0_push 28 = .ok (.iload_n 2, 1) := by decide +kernel
theorem dX0_push_29 : decode cX0_push 29 = .ok (.bastore, 1) := by decide +kernel
theorem dX0_push_30 : decode cX0_push 30 = .ok (.aload_n 0, 1) := by decide +kernel
theorem dX0_push_31 : decode cX0_push 31 = .ok (.getfield 19, 3) := by decide +kernel
theorem dX0_push_34 : decode cX0_push 34 = .ok (.aload_n 0, 1) := by decide +kernel
theorem dX0_push_35 : decode cX0_push 35 = .ok (.getfield 28, 3) := by decide +kernel
theorem dX0_push_38 : decode cX0_push 38 = .ok (.iload_n 3, 1) := by decide +kernel
theorem dX0_push_39 : decode cX0_push 39 = .ok (.iastore, 1) := by decide +kernel
theorem dX0_push_40 : decode cX0_push 40 = .ok (.aload_n 0, 1) := by decide +kernel
theorem dX0_push_41 : decode cX0_push 41 = .ok (.getfield 22, 3) := by decide +kernel
theorem dX0_push_44 : decode cX0_push 44 = .ok (.aload_n 0, 1) := by decide +kernel
theorem dX0_push_45 : decode cX0_push 45 = .ok (.getfield 28, 3) := by decide +kernel
theorem dX0_push_48 : decode cX0_push 48 = .ok (.iload 4, 2) := by decide +kernel
theorem dX0_push_50 : decode cX0_push 50 = .ok (.iastore, 1) := by decide +kernel
theorem dX0_push_51 : decode cX0_push 51 = .ok (.aload_n 0, 1) := by decide +kernel
theorem dX0_push_52 : decode cX0_push 52 = .ok (.getfield 25, 3) := by decide +kernel
theorem dX0_push_55 : decode cX0_push 55 = .ok (.aload_n 0, 1) := by decide +kernel
theorem dX0_push_56 : decode cX0_push 56 = .ok (.getfield 28, 3) := by decide +kernel
theorem dX0_push_59 : decode cX0_push 59 = .ok (.iload 5, 2) := by decide +kernel
theorem dX0_push_61 : decode cX0_push 61 = .ok (.iastore, 1) := by decide +kernel
theorem dX0_push_62 : decode cX0_push 62 = .ok (.aload_n 0, 1) := by decide +kernel
theorem dX0_push_63 : decode cX0_push 63 = .ok (.dup, 1) := by decide +kernel
theorem dX0_push_64 : decode cX0_push 64 = .ok (.getfield 28, 3) := by decide +kernel
theorem dX0_push_67 : decode cX0_push 67 = .ok (.iconst 1, 1) := by decide +kernel
theorem dX0_push_68 : decode cX0_push 68 = .ok (.iadd, 1) := by decide +kernel
theorem dX0_push_69 : decode cX0_push 69 = .ok (.putfield 28, 3) := by decide +kernel
theorem dX0_push_72 : decode cX0_push 72 = .ok (.return_, 1) := by decide +kernel
theorem dX0_remove_0 : decode cX0_remove 0 = .ok (.iload_n 1, 1) := by decide +kernel
theorem dX0_remove_1 : decode cX0_remove 1 = .ok (.ifCond .lt 11, 3) := by decide +kernel
theorem dX0_remove_4 : decode cX0_remove 4 = .ok (.iload_n 1, 1) := by decide +kernel
theorem dX0_remove_5 : decode cX0_remove 5 = .ok (.aload_n 0, 1) := by decide +kernel
theorem dX0_remove_6 : decode cX0_remove 6 = .ok (.getfield 28, 3) := by decide +kernel
theorem dX0_remove_9 : decode cX0_remove 9 = .ok (.if_icmp .lt 4, 3) := by decide +kernel
theorem dX0_remove_12 : decode cX0_remove 12 = .ok (.return_, 1) := by decide +kernel
theorem dX0_remove_13 : decode cX0_remove 13 = .ok (.aload_n 0, 1) := by decide +kernel
theorem dX0_remove_14 : decode cX0_remove 14 = .ok (.dup, 1) := by decide +kernel
theorem dX0_remove_15 : decode cX0_remove 15 = .ok (.getfield 28, 3) := by decide +kernel
theorem dX0_remove_18 : decode cX0_remove 18 = .ok (.iconst 1, 1) := by decide +kernel
theorem dX0_remove_19 : decode cX0_remove 19 = .ok (.isub, 1) := by decide +kernel
theorem dX0_remove_20 : decode cX0_remove 20 = .ok (.putfield 28, 3) := by decide +kernel
theorem dX0_remove_23 : decode cX0_remove 23 = .ok (.iload_n 1, 1) := by decide +kernel
theorem dX0_remove_24 : decode cX0_remove 24 = .ok (.istore_n 2, 1) := by decide +kernel
theorem dX0_remove_25 : decode cX0_remove 25 = .ok (.iload_n 2, 1) := by decide +kernel
theorem dX0_remove_26 : decode cX0_remove 26 = .ok (.aload_n 0, 1) := by decide +kernel
theorem dX0_remove_27 : decode cX0_remove 27 = .ok (.getfield 28, 3) := by decide +kernel
theorem dX0_remove_30 : decode cX0_remove 30 = .ok (.if_icmp .ge 79, 3) := by decide +kernel
theorem dX0_remove_33 : decode cX0_remove 33 = .ok (.aload_n 0, 1) := by decide +kernel
theorem dX0_remove_34 : decode cX0_remove 34 = .ok (.getfield 9, 3) := by decide +kernel
theorem dX0_remove_37 : decode cX0_remove 37 = .ok (.iload_n 2, 1) := by decide +kernel
theorem dX0_remove_38 : decode cX0_remove 38 = .ok (.aload_n 0, 1) := by decide +kernel
theorem dX0_remove_39 : decode cX0_remove 39 = .ok (.getfield 9, 3) := by decide +kernel
theorem dX0_remove_42 : decode cX0_remove 42 = .ok (.iload_n 2, 1) := by decide +kernel
theorem dX0_remove_43 : decode cX0_remove 43 = .ok (.iconst 1, 1) := by decide +kernel
theorem dX0_remove_44 : decode cX0_remove 44 = .ok (.iadd, 1) := by decide +kernel
theorem dX0_remove_45 : decode cX0_remove 45 = .ok (.iaload, 1) := by decide +kernel
theorem dX0_remove_46 : decode cX0_remove 46 = .ok (.iastore, 1) := by decide +kernel
theorem dX0_remove_47 : decode cX0_remove 47 = .ok (.aload_n 0, 1) := by decide +kernel
theorem dX0_remove_48 : decode cX0_remove 48 = .ok (.getfield 15, 3) := by decide +kernel
theorem dX0_remove_51 : decode cX0_remove 51 = .ok (.iload_n 2, 1) := by decide +kernel
theorem dX0_remove_52 : decode cX0_remove 52 = .ok (.aload_n 0, 1) := by decide +kernel
theorem dX0_remove_53 : decode cX0_remove 53 = .ok (.getfield 15, 3) := by decide +kernel
theorem dX0_remove_56 : decode cX0_remove 56 = .ok (.iload_n 2, 1) := by decide +kernel
theorem dX0_remove_57 : decode cX0_remove 57 = .ok (.iconst 1, 1) := by decide +kernel
theorem dX0_remove_58 : decode cX0_remove 58 = .ok (.iadd, 1) := by decide +kernel
theorem dX0_remove_59 : decode cX0_remove 59 = .ok (.baload, 1) := by decide +kernel
theorem dX0_remove_60 : decode cX0_remove 60 = .ok (.bastore, 1) := by decide +kernel
theorem dX0_remove_61 : decode cX0_remove 61 = .ok (.aload_n 0, 1) := by decide +kernel
theorem dX0_remove_62 : decode cX0_remove 62 = .ok (.getfield 19, 3) := by decide +kernel
theorem dX0_remove_65 : decode cX0_remove 65 = .ok (.iload_n 2, 1) := by decide +kernel
theorem dX0_remove_66 : decode cX0_remove 66 = .ok (.aload_n 0, 1) := by decide +kernel
theorem dX0_remove_67 : decode cX0_remove 67 = .ok (.getfield 19, 3) := by decide +kernel
theorem dX0_remove_70 : decode cX0_remove 70 = .ok (.iload_n 2, 1) := by decide +kernel
theorem dX0_remove_71 : decode cX0_remove 71 = .ok (.iconst 1, 1) := by decide +kernel
theorem dX0_remove_72 : decode cX0_remove 72 = .ok (.iadd, 1) := by decide +kernel
theorem dX0_remove_73 : decode cX0_remove 73 = .ok (.iaload, 1) := by decide +kernel
theorem dX0_remove_74 : decode cX0_remove 74 = .ok (.iastore, 1) := by decide +kernel
theorem dX0_remove_75 : decode cX0_remove 75 = .ok (.aload_n 0, 1) := by decide +kernel
theorem dX0_remove_76 : decode cX0_remove 76 = .ok (.getfield 22, 3) := by decide +kernel
theorem dX0_remove_79 : decode cX0_remove 79 = .ok (.iload_n 2, 1) := by decide +kernel
theorem dX0_remove_80 : decode cX0_remove 80 = .ok (.aload_n 0, 1) := by decide +kernel
theorem dX0_remove_81 : decode cX0_remove 81 = .ok (.getfield 22, 3) := by decide +kernel
theorem dX0_remove_84 : decode cX0_remove 84 = .ok (.iload_n 2, 1) := by decide +kernel
theorem dX0_remove_85 : decode cX0_remove 85 = .ok (.iconst 1, 1) := by decide +kernel
theorem dX0_remove_86 : decode cX0_remove 86 = .ok (.iadd, 1) := by decide +kernel
theorem dX0_remove_87 : decode cX0_remove 87 = .ok (.iaload, 1) := by decide +kernel
theorem dX0_remove_88 : decode cX0_remove 88 = .ok (.iastore, 1) := by decide +kernel
theorem dX0_remove_89 : decode cX0_remove 89 = .ok (.aload_n 0, 1) := by decide +kernel
theorem dX0_remove_90 : decode cX0_remove 90 = .ok (.getfield 25, 3) := by decide +kernel
theorem dX0_remove_93 : decode cX0_remove 93 = .ok (.iload_n 2, 1) := by decide +kernel
theorem dX0_remove_94 : decode cX0_remove 94 = .ok (.aload_n 0, 1) := by decide +kernel
theorem dX0_remove_95 : decode cX0_remove 95 = .ok (.getfield 25, 3) := by decide +kernel
theorem dX0_remove_98 : decode cX0_remove 98 = .ok (.iload_n 2, 1) := by decide +kernel
theorem dX0_remove_99 : decode cX0_remove 99 = .ok (.iconst 1, 1) := by decide +kernel
theorem dX0_remove_100 : decode cX0_remove 100 = .ok (.iadd, 1) := by decide +kernel
theorem dX0_remove_101 : decode cX0_remove 101 = .ok (.iaload, 1) := by decide +kernel
theorem dX0_remove_102 : decode cX0_remove 102 = .ok (.iastore, 1) := by decide +kernel
theorem dX0_remove_103 : decode cX0_remove 103 = .ok (.iinc 2 1, 3) := by decide +kernel
theorem dX0_remove_106 : decode cX0_remove 106 = .ok (.goto (-81), 3) := by decide +kernel
theorem dX0_remove_109 : decode cX0_remove 109 = .ok (.return_, 1) := by decide +kernel
theorem dX0_placeOf_0 : decode cX0_placeOf 0 = .ok (.iconst 0, 1) := by decide +kernel
theorem dX0_placeOf_1 : decode cX0_placeOf 1 = .ok (.istore_n 2, 1) := by decide +kernel
theorem dX0_placeOf_2 : decode cX0_placeOf 2 = .ok (.iload_n 2, 1) := by decide +kernel
theorem dX0_placeOf_3 : decode cX0_placeOf 3 = .ok (.aload_n 0, 1) := by decide +kernel
theorem dX0_placeOf_4 : decode cX0_placeOf 4 = .ok (.getfield 28, 3) := by decide +kernel
theorem dX0_placeOf_7 : decode cX0_placeOf 7 = .ok (.if_icmp .ge 28, 3) := by decide +kernel
theorem dX0_placeOf_10 : decode cX0_placeOf 10 = .ok (.aload_n 0, 1) := by decide +kernel
theorem dX0_placeOf_11 : decode cX0_placeOf 11 = .ok (.getfield 25, 3) := by decide +kernel
theorem dX0_placeOf_14 : decode cX0_placeOf 14 = .ok (.iload_n 2, 1) := by decide +kernel
theorem dX0_placeOf_15 : decode cX0_placeOf 15 = .ok (.iaload, 1) := by decide +kernel
theorem dX0_placeOf_16 : decode cX0_placeOf 16 = .ok (.iload_n 1, 1) := by decide +kernel
theorem dX0_placeOf_17 : decode cX0_placeOf 17 = .ok (.if_icmp .ne 12, 3) := by decide +kernel
theorem dX0_placeOf_20 : decode cX0_placeOf 20 = .ok (.aload_n 0, 1) := by decide +kernel
theorem dX0_placeOf_21 : decode cX0_placeOf 21 = .ok (.getfield 28, 3) := by decide +kernel
theorem dX0_placeOf_24 : decode cX0_placeOf 24 = .ok (.iconst 1, 1) := by decide +kernel
theorem dX0_placeOf_25 : decode cX0_placeOf 25 = .ok (.isub, 1) := by decide +kernel
theorem dX0_placeOf_26 : decode cX0_placeOf 26 = .ok (.iload_n 2, 1) := by decide +kernel
theorem dX0_placeOf_27 : decode cX0_placeOf 27 = .ok (.isub, 1) := by decide +kernel
theorem dX0_placeOf_28 : decode cX0_placeOf 28 = .ok (.ireturn, 1) := by decide +kernel
theorem dX0_placeOf_29 : decode cX0_placeOf 29 = .ok (.iinc 2 1, 3) := by decide +kernel
theorem dX0_placeOf_32 : decode cX0_placeOf 32 = .ok (.goto (-30), 3) := by decide +kernel
theorem dX0_placeOf_35 : decode cX0_placeOf 35 = .ok (.iconst (-1), 1) := by decide +kernel
theorem dX0_placeOf_36 : decode cX0_placeOf 36 = .ok (.ireturn, 1) := by decide +kernel
theorem dX1_init_0 : decode cX1_init 0 = .ok (.aload_n 0, 1) := by decide +kernel
theorem dX1_init_1 : decode cX1_init 1 = .ok (.invokespecial 3, 3) := by decide +kernel
theorem dX1_init_4 : decode cX1_init 4 = .ok (.aload_n 0, 1) := by decide +kernel
theorem dX1_init_5 : decode cX1_init 5 = .ok (.bipush 24, 2) := by decide +kernel
theorem dX1_init_7 : decode cX1_init 7 = .ok (.newarray .int, 2) := by decide +kernel
theorem dX1_init_9 : decode cX1_init 9 = .ok (.putfield 11, 3) := by decide +kernel
theorem dX1_init_12 : decode cX1_init 12 = .ok (.aload_n 0, 1) := by decide +kernel
theorem dX1_init_13 : decode cX1_init 13 = .ok (.bipush 40, 2) := by decide +kernel
theorem dX1_init_15 : decode cX1_init 15 = .ok (.bipush 24, 2) := by decide +kernel
theorem dX1_init_17 : decode cX1_init 17 = .ok (.multianewarray 15 2, 4) := by decide +kernel
theorem dX1_init_21 : decode cX1_init 21 = .ok (.putfield 17, 3) := by decide +kernel
theorem dX1_init_24 : decode cX1_init 24 = .ok (.return_, 1) := by decide +kernel
theorem dX1_forget_0 : decode cX1_forget 0 = .ok (.aload_n 0, 1) := by decide +kernel
theorem dX1_forget_1 : decode cX1_forget 1 = .ok (.iconst 0, 1) := by decide +kernel
theorem dX1_forget_2 : decode cX1_forget 2 = .ok (.putfield 20, 3) := by decide +kernel
theorem dX1_forget_5 : decode cX1_forget 5 = .ok (.aload_n 0, 1) := by decide +kernel
theorem dX1_forget_6 : decode cX1_forget 6 = .ok (.iconst 0, 1) := by decide +kernel
theorem dX1_forget_7 : decode cX1_forget 7 = .ok (.putfield 24, 3) := by decide +kernel
theorem dX1_forget_10 : decode cX1_forget 10 = .ok (.return_, 1) := by decide +kernel
theorem dX1_start_0 : decode cX1_start 0 = .ok (.aload_n 0, 1) := by decide +kernel
theorem dX1_start_1 : decode cX1_start 1 = .ok (.getfield 11, 3) := by decide +kernel
theorem dX1_start_4 : decode cX1_start 4 = .ok (.iconst 0, 1) := by decide +kernel
theorem dX1_start_5 : decode cX1_start 5 = .ok (.iload_n 1, 1) := by decide +kernel
theorem dX1_start_6 : decode cX1_start 6 = .ok (.iastore, 1) := by decide +kernel
theorem dX1_start_7 : decode cX1_start 7 = .ok (.aload_n 0, 1) := by decide +kernel
theorem dX1_start_8 : decode cX1_start 8 = .ok (.getfield 11, 3) := by decide +kernel
theorem dX1_start_11 : decode cX1_start 11 = .ok (.iconst 1, 1) := by decide +kernel
theorem dX1_start_12 : decode cX1_start 12 = .ok (.iload_n 2, 1) := by decide +kernel
theorem dX1_start_13 : decode cX1_start 13 = .ok (.iastore, 1) := by decide +kernel
theorem dX1_start_14 : decode cX1_start 14 = .ok (.aload_n 0, 1) := by decide +kernel
theorem dX1_start_15 : decode cX1_start 15 = .ok (.iconst 2, 1) := by decide +kernel
theorem dX1_start_16 : decode cX1_start 16 = .ok (.putfield 27, 3) := by decide +kernel
theorem dX1_start_19 : decode cX1_start 19 = .ok (.return_, 1) := by decide +kernel
theorem dX1_write_0 : decode cX1_write 0 = .ok (.aload_n 0, 1) := by decide +kernel
theorem dX1_write_1 : decode cX1_write 1 = .ok (.getfield 27, 3) := by decide +kernel
theorem dX1_write_4 : decode cX1_write 4 = .ok (.bipush 24, 2) := by decide +kernel
theorem dX1_write_6 : decode cX1_write 6 = .ok (.if_icmp .ge 48, 3) := by decide +kernel
theorem dX1_write_9 : decode cX1_write 9 = .ok (.aload_n 0, 1) := by decide +kernel
theorem dX1_write_10 : decode cX1_write 10 = .ok (.getfield 11, 3) := by decide +kernel
theorem dX1_write_13 : decode cX1_write 13 = .ok (.aload_n 0, 1) := by decide +kernel
theorem dX1_write_14 : decode cX1_write 14 = .ok (.getfield 27, 3) := by decide +kernel
theorem dX1_write_17 : decode cX1_write 17 = .ok (.iload_n 1, 1) := by decide +kernel
theorem dX1_write_18 : decode cX1_write 18 = .ok (.bipush 16, 2) := by decide +kernel
theorem dX1_write_20 : decode cX1_write 20 = .ok (.ishl, 1) := by decide +kernel
theorem dX1_write_21 : decode cX1_write 21 = .ok (.iload_n 2, 1) := by decide +kernel
theorem dX1_write_22 : decode cX1_write 22 = .ok (.ifCond .eq 9, 3) := by decide +kernel
theorem dX1_write_25 : decode cX1_write 25 = .ok (.sipush 4096, 3) := by decide +kernel
theorem dX1_write_28 : decode cX1_write 28 = .ok (.goto 4, 3) := by decide +kernel
theorem dX1_write_31 : decode cX1_write 31 = .ok (.iconst 0, 1) := by decide +kernel
theorem dX1_write_32 : decode cX1_write 32 = .ok (.ior, 1) := by decide +kernel
theorem dX1_write_33 : decode cX1_write 33 = .ok (.iload_n 3, 1) := by decide +kernel
theorem dX1_write_34 : decode cX1_write 34 = .ok (.bipush 8, 2) := by decide +kernel
theorem dX1_write_36 : decode cX1_write 36 = .ok (.ishl, 1) := by decide +kernel
theorem dX1_write_37 : decode cX1_write 37 = .ok (.ior, 1) := by decide +kernel
theorem dX1_write_38 : decode cX1_write 38 = .ok (.iload 4, 2) := by decide +kernel
theorem dX1_write_40 : decode cX1_write 40 = .ok (.iconst 1, 1) := by decide +kernel
theorem dX1_write_41 : decode cX1_write 41 = .ok (.iadd, 1) := by decide +kernel
theorem dX1_write_42 : decode cX1_write 42 = .ok (.ior, 1) := by decide +kernel
theorem dX1_write_43 : decode cX1_write 43 = .ok (.iastore, 1) := by decide +kernel
theorem dX1_write_44 : decode cX1_write 44 = .ok (.aload_n 0, 1) := by decide +kernel
theorem dX1_write_45 : decode cX1_write 45 = .ok (.dup, 1) := by decide +kernel
theorem dX1_write_46 : decode cX1_write 46 = .ok (.getfield 27, 3) := by decide +kernel
theorem dX1_write_49 : decode cX1_write 49 = .ok (.iconst 1, 1) := by decide +kernel
theorem dX1_write_50 : decode cX1_write 50 = .ok (.iadd, 1) := by decide +kernel
theorem dX1_write_51 : decode cX1_write 51 = .ok (.putfield 27, 3) := by decide +kernel
theorem dX1_write_54 : decode cX1_write 54 = .ok (.return_, 1) := by decide +kernel
set_option maxRecDepth 20000 in
theorem ggX1_knowsState_X1_isState : GoodIn wsX1_knowsState wsX1_isState := goodIn_r _ [7, 8, 9, 10, 11, 12, 13, 14] (by decide +kernel) (by decide +kernel)
set_option maxRecDepth 20000 in
theorem gX1_knowsState_X1_isState : GoodIn wsX1_knowsState (wsV RX1 30 RX1 yX1_isState wsX1_isState) := goodIn_app (goodIn_of _ (by decide +kernel)) ggX1_knowsState_X1_isState
theorem dX1_knowsState_0 : decode cX1_knowsState 0 = .ok (.iconst 0, 1) := by decide +kernel
theorem dX1_knowsState_1 : decode cX1_knowsState 1 = .ok (.istore_n 1, 1) := by decide +kernel
theorem dX1_knowsState_2 : decode cX1_knowsState 2 = .ok (.iload_n 1, 1) := by decide +kernel
theorem dX1_knowsState_3 : decode cX1_knowsState 3 = .ok (.aload_n 0, 1) := by decide +kernel
theorem dX1_knowsState_4 : decode cX1_knowsState 4 = .ok (.getfield 20, 3) := by decide +kernel
theorem dX1_knowsState_7 : decode cX1_knowsState 7 = .ok (.if_icmp .ge 24, 3) := by decide +kernel
theorem dX1_knowsState_10 : decode cX1_knowsState 10 = .ok (.aload_n 0, 1) := by decide +kernel
theorem dX1_knowsState_11 : decode cX1_knowsState 11 = .ok (.aload_n 0, 1) := by decide +kernel
theorem dX1_knowsState_12 : decode cX1_knowsState 12 = .ok (.getfield 17, 3) := by decide +kernel
theorem dX1_knowsState_15 : decode cX1_knowsState 15 = .ok (.iload_n 1, 1) := by decide +kernel
theorem dX1_knowsState_16 : decode cX1_knowsState 16 = .ok (.aaload, 1) := by decide +kernel
theorem dX1_knowsState_17 : decode cX1_knowsState 17 = .ok (.invokevirtual 30, 3) := by decide +kernel
theorem dX1_knowsState_20 : decode cX1_knowsState 20 = .ok (.ifCond .eq 5, 3) := by decide +kernel
theorem dX1_knowsState_23 : decode cX1_knowsState 23 = .ok (.iconst 1, 1) := by decide +kernel
theorem dX1_knowsState_24 : decode cX1_knowsState 24 = .ok (.ireturn, 1) := by decide +kernel
theorem dX1_knowsState_25 : decode cX1_knowsState 25 = .ok (.iinc 1 1, 3) := by decide +kernel
theorem dX1_knowsState_28 : decode cX1_knowsState 28 = .ok (.goto (-26), 3) := by decide +kernel
theorem dX1_knowsState_31 : decode cX1_knowsState 31 = .ok (.iconst 0, 1) := by decide +kernel
theorem dX1_knowsState_32 : decode cX1_knowsState 32 = .ok (.ireturn, 1) := by decide +kernel
theorem dX1_isState_0 : decode cX1_isState 0 = .ok (.iconst 0, 1) := by decide +kernel
theorem dX1_isState_1 : decode cX1_isState 1 = .ok (.istore_n 2, 1) := by decide +kernel
theorem dX1_isState_2 : decode cX1_isState 2 = .ok (.iload_n 2, 1) := by decide +kernel
theorem dX1_isState_3 : decode cX1_isState 3 = .ok (.aload_n 0, 1) := by decide +kernel
theorem dX1_isState_4 : decode cX1_isState 4 = .ok (.getfield 27, 3) := by decide +kernel
theorem dX1_isState_7 : decode cX1_isState 7 = .ok (.if_icmp .ge 23, 3) := by decide +kernel
theorem dX1_isState_10 : decode cX1_isState 10 = .ok (.aload_n 1, 1) := by decide +kernel
theorem dX1_isState_11 : decode cX1_isState 11 = .ok (.iload_n 2, 1) := by decide +kernel
theorem dX1_isState_12 : decode cX1_isState 12 = .ok (.iaload, 1) := by decide +kernel
theorem dX1_isState_13 : decode cX1_isState 13 = .ok (.aload_n 0, 1) := by decide +kernel
theorem dX1_isState_14 : decode cX1_isState 14 = .ok (.getfield 11, 3) := by decide +kernel
theorem dX1_isState_17 : decode cX1_isState 17 = .ok (.iload_n 2, 1) := by decide +kernel
theorem dX1_isState_18 : decode cX1_isState 18 = .ok (.iaload, 1) := by decide +kernel
theorem dX1_isState_19 : decode cX1_isState 19 = .ok (.if_icmp .eq 5, 3) := by decide +kernel
theorem dX1_isState_22 : decode cX1_isState 22 = .ok (.iconst 0, 1) := by decide +kernel
theorem dX1_isState_23 : decode cX1_isState 23 = .ok (.ireturn, 1) := by decide +kernel
theorem dX1_isState_24 : decode cX1_isState 24 = .ok (.iinc 2 1, 3) := by decide +kernel
theorem dX1_isState_27 : decode cX1_isState 27 = .ok (.goto (-25), 3) := by decide +kernel
theorem dX1_isState_30 : decode cX1_isState 30 = .ok (.iconst 1, 1) := by decide +kernel
theorem dX1_isState_31 : decode cX1_isState 31 = .ok (.ireturn, 1) := by decide +kernel
theorem dX1_keepState_0 : decode cX1_keepState 0 = .ok (.aload_n 0, 1) := by decide +kernel
theorem dX1_keepState_1 : decode cX1_keepState 1 = .ok (.getfield 11, 3) := by decide +kernel
theorem dX1_keepState_4 : decode cX1_keepState 4 = .ok (.iconst 0, 1) := by decide +kernel
theorem dX1_keepState_5 : decode cX1_keepState 5 = .ok (.aload_n 0, 1) := by decide +kernel
theorem dX1_keepState_6 : decode cX1_keepState 6 = .ok (.getfield 17, 3) := by decide +kernel
theorem dX1_keepState_9 : decode cX1_keepState 9 = .ok (.aload_n 0, 1) := by decide +kernel
theorem dX1_keepState_10 : decode cX1_keepState 10 = .ok (.getfield 24, 3) := by decide +kernel
theorem dX1_keepState_13 : decode cX1_keepState 13 = .ok (.aaload, 1) := by decide +kernel
theorem dX1_keepState_14 : decode cX1_keepState 14 = .ok (.iconst 0, 1) := by decide +kernel
theorem dX1_keepState_15 : decode cX1_keepState 15 = .ok (.bipush 24, 2) := by decide +kernel
theorem dX1_keepState_17 : decode cX1_keepState 17 = .ok (.invokestatic 34, 3) := by decide +kernel
theorem dX1_keepState_20 : decode cX1_keepState 20 = .ok (.aload_n 0, 1) := by decide +kernel
theorem dX1_keepState_21 : decode cX1_keepState 21 = .ok (.aload_n 0, 1) := by decide +kernel
theorem dX1_keepState_22 : decode cX1_keepState 22 = .ok (.getfield 24, 3) := by decide +kernel
theorem dX1_keepState_25 : decode cX1_keepState 25 = .ok (.iconst 1, 1) := by decide +kernel
theorem dX1_keepState_26 : decode cX1_keepState 26 = .ok (.iadd, 1) := by decide +kernel
theorem dX1_keepState_27 : decode cX1_keepState 27 = .ok (.bipush 40, 2) := by decide +kernel
theorem dX1_keepState_29 : decode cX1_keepState 29 = .ok (.if_icmp .ge 12, 3) := by decide +kernel
theorem dX1_keepState_32 : decode cX1_keepState 32 = .ok (.aload_n 0, 1) := by decide +kernel
theorem dX1_keepState_33 : decode cX1_keepState 33 = .ok (.getfield 24, 3) := by decide +kernel
theorem dX1_keepState_36 : decode cX1_keepState 36 = .ok (.iconst 1, 1) := by decide +kernel
theorem dX1_keepState_37 : decode cX1_keepState 37 = .ok (.iadd, 1) := by decide +kernel
theorem dX1_keepState_38 : decode cX1_keepState 38 = .ok (.goto 4, 3) := by decide +kernel
theorem dX1_keepState_41 : decode cX1_keepState 41 = .ok (.iconst 0, 1) := by decide +kernel
theorem dX1_keepState_42 : decode cX1_keepState 42 = .ok (.putfield 24, 3) := by decide +kernel
theorem dX1_keepState_45 : decode cX1_keepState 45 = .ok (.aload_n 0, 1) := by decide +kernel
theorem dX1_keepState_46 : decode cX1_keepState 46 = .ok (.getfield 20, 3) := by decide +kernel
theorem dX1_keepState_49 : decode cX1_keepState 49 = .ok (.bipush 40, 2) := by decide +kernel
theorem dX1_keepState_51 : decode cX1_keepState 51 = .ok (.if_icmp .ge 13, 3) := by decide +kernel
theorem dX1_keepState_54 : decode cX1_keepState 54 = .ok (.aload_n 0, 1) := by decide +kernel
theorem dX1_keepState_55 : decode cX1_keepState 55 = .ok (.dup, 1) := by decide +kernel
theorem dX1_keepState_56 : decode cX1_keepState 56 = .ok (.getfield 20, 3) := by decide +kernel
theorem dX1_keepState_59 : decode cX1_keepState 59 = .ok (.iconst 1, 1) := by decide +kernel
theorem dX1_keepState_60 : decode cX1_keepState 60 = .ok (.iadd, 1) := by decide +kernel
theorem dX1_keepState_61 : decode cX1_keepState 61 = .ok (.putfield 20, 3) := by decide +kernel
theorem dX1_keepState_64 : decode cX1_keepState 64 = .ok (.return_, 1) := by decide +kernel
theorem dX2_init_0 : decode cX2_init 0 = .ok (.aload_n 0, 1) := by decide +kernel
theorem dX2_init_1 : decode cX2_init 1 = .ok (.invokespecial 3, 3) := by decide +kernel
theorem dX2_init_4 : decode cX2_init 4 = .ok (.aload_n 0, 1) := by decide +kernel
theorem dX2_init_5 : decode cX2_init 5 = .ok (.bipush 10, 2) := by decide +kernel
theorem dX2_init_7 : decode cX2_init 7 = .ok (.newarray .int, 2) := by decide +kernel
theorem dX2_init_9 : decode cX2_init 9 = .ok (.putfield 9, 3) := by decide +kernel
theorem dX2_init_12 : decode cX2_init 12 = .ok (.aload_n 0, 1) := by decide +kernel
theorem dX2_init_13 : decode cX2_init 13 = .ok (.bipush 10, 2) := by decide +kernel
theorem dX2_init_15 : decode cX2_init 15 = .ok (.newarray .int, 2) := by decide +kernel
theorem dX2_init_17 : decode cX2_init 17 = .ok (.putfield 15, 3) := by decide +kernel
theorem dX2_init_20 : decode cX2_init 20 = .ok (.aload_n 0, 1) := by decide +kernel
theorem dX2_init_21 : decode cX2_init 21 = .ok (.bipush 10, 2) := by decide +kernel
theorem dX2_init_23 : decode cX2_init 23 = .ok (.newarray .int, 2) := by decide +kernel
theorem dX2_init_25 : decode cX2_init 25 = .ok (.putfield 18, 3) := by decide +kernel
theorem dX2_init_28 : decode cX2_init 28 = .ok (.aload_n 0, 1) := by decide +kernel
theorem dX2_init_29 : decode cX2_init 29 = .ok (.bipush 10, 2) := by decide +kernel
theorem dX2_init_31 : decode cX2_init 31 = .ok (.newarray .int, 2) := by decide +kernel
theorem dX2_init_33 : decode cX2_init 33 = .ok (.putfield 21, 3) := by decide +kernel
theorem dX2_init_36 : decode cX2_init 36 = .ok (.return_, 1) := by decide +kernel
theorem dX2_has_0 : decode cX2_has 0 = .ok (.iload_n 1, 1) := by decide +kernel
theorem dX2_has_1 : decode cX2_has 1 = .ok (.ifCond .lt 15, 3) := by decide +kernel
theorem dX2_has_4 : decode cX2_has 4 = .ok (.iload_n 1, 1) := by decide +kernel
theorem dX2_has_5 : decode cX2_has 5 = .ok (.aload_n 0, 1) := by decide +kernel
theorem dX2_has_6 : decode cX2_has 6 = .ok (.getfield 24, 3) := by decide +kernel
theorem dX2_has_9 : decode cX2_has 9 = .ok (.if_icmp .ge 7, 3) := by decide +kernel
theorem dX2_has_12 : decode cX2_has 12 = .ok (.iconst 1, 1) := by decide +kernel
theorem dX2_has_13 : decode cX2_has 13 = .ok (.goto 4, 3) := by decide +kernel
theorem dX2_has_16 : decode cX2_has 16 = .ok (.iconst 0, 1) := by decide +kernel
theorem dX2_has_17 : decode cX2_has 17 = .ok (.ireturn, 1) := by decide +kernel
theorem dX2_add_0 : decode cX2_add 0 = .ok (.aload_n 0, 1) := by decide +kernel
theorem dX2_add_1 : decode cX2_add 1 = .ok (.getfield 24, 3) := by decide +kernel
theorem dX2_add_4 : decode cX2_add 4 = .ok (.bipush 10, 2) := by decide +kernel
theorem dX2_add_6 : decode cX2_add 6 = .ok (.if_icmp .lt 5, 3) := by decide +kernel
theorem dX2_add_9 : decode cX2_add 9 = .ok (.iconst 0, 1) := by decide +kernel
theorem dX2_add_10 : decode cX2_add 10 = .ok (.ireturn, 1) := by decide +kernel
theorem dX2_add_11 : decode cX2_add 11 = .ok (.aload_n 0, 1) := by decide +kernel
theorem dX2_add_12 : decode cX2_add 12 = .ok (.getfield 9, 3) := by decide +kernel
theorem dX2_add_15 : decode cX2_add 15 = .ok (.aload_n 0, 1) := by decide +kernel
theorem dX2_add_16 : decode cX2_add 16 = .ok (.getfield 24, 3) := by decide +kernel
theorem dX2_add_19 : decode cX2_add 19 = .ok (.iload_n 1, 1) := by decide +kernel
theorem dX2_add_20 : decode cX2_add 20 = .ok (.iastore, 1) := by decide +kernel
theorem dX2_add_21 : decode cX2_add 21 = .ok (.aload_n 0, 1) := by decide +kernel
theorem dX2_add_22 : decode cX2_add 22 = .ok (.getfield 15, 3) := by decide +kernel
theorem dX2_add_25 : decode cX2_add 25 = .ok (.aload_n 0, 1) := by decide +kernel
theorem dX2_add_26 : decode cX2_add 26 = .ok (.getfield 24, 3) := by decide +kernel
theorem dX2_add_29 : decode cX2_add 29 = .ok (.iload_n 2, 1) := by decide +kernel
theorem dX2_add_30 : decode cX2_add 30 = .ok (.iastore, 1) := by decide +kernel
theorem dX2_add_31 : decode cX2_add 31 = .ok (.aload_n 0, 1) := by decide +kernel
theorem dX2_add_32 : decode cX2_add 32 = .ok (.getfield 18, 3) := by decide +kernel
theorem dX2_add_35 : decode cX2_add 35 = .ok (.aload_n 0, 1) := by decide +kernel
theorem dX2_add_36 : decode cX2_add 36 = .ok (.getfield 24, 3) := by decide +kernel
theorem dX2_add_39 : decode cX2_add 39 = .ok (.iload_n 3, 1) := by decide +kernel
theorem dX2_add_40 : decode cX2_add 40 = .ok (.iastore, 1) := by decide +kernel
theorem dX2_add_41 : decode cX2_add 41 = .ok (.aload_n 0, 1) := by decide +kernel
theorem dX2_add_42 : decode cX2_add 42 = .ok (.getfield 21, 3) := by decide +kernel
theorem dX2_add_45 : decode cX2_add 45 = .ok (.aload_n 0, 1) := by decide +kernel
theorem dX2_add_46 : decode cX2_add 46 = .ok (.getfield 24, 3) := by decide +kernel
theorem dX2_add_49 : decode cX2_add 49 = .ok (.iload 4, 2) := by decide +kernel
theorem dX2_add_51 : decode cX2_add 51 = .ok (.iastore, 1) := by decide +kernel
theorem dX2_add_52 : decode cX2_add 52 = .ok (.aload_n 0, 1) := by decide +kernel
theorem dX2_add_53 : decode cX2_add 53 = .ok (.dup, 1) := by decide +kernel
theorem dX2_add_54 : decode cX2_add 54 = .ok (.getfield 24, 3) := by decide +kernel
theorem dX2_add_57 : decode cX2_add 57 = .ok (.iconst 1, 1) := by decide +kernel
theorem dX2_add_58 : decode cX2_add 58 = .ok (.iadd, 1) := by decide +kernel
theorem dX2_add_59 : decode cX2_add 59 = .ok (.putfield 24, 3) := by decide +kernel
theorem dX2_add_62 : decode cX2_add 62 = .ok (.iconst 1, 1) := by decide +kernel
theorem dX2_add_63 : decode cX2_add 63 = .ok (.ireturn, 1) := by decide +kernel
set_option maxRecDepth 20000 in
theorem ggX2_remove_X2_has : GoodIn wsX2_remove wsX2_has := goodIn_r _ [10, 1, 11, 12, 13, 14, 15] (by decide +kernel) (by decide +kernel)
set_option maxRecDepth 20000 in
theorem gX2_remove_X2_has : GoodIn wsX2_remove (wsV RX2 28 RX2 yX2_has wsX2_has) := goodIn_app (goodIn_of _ (by decide +kernel)) ggX2_remove_X2_has
theorem dX2_remove_0 : decode cX2_remove 0 = .ok (.aload_n 0, 1) := by decide +kernel
theorem dX2_remove_1 : decode cX2_remove 1 = .ok (.iload_n 1, 1) := by decide +kernel
theorem dX2_remove_2 : decode cX2_remove 2 = .ok (.invokevirtual 28, 3) := by decide +kernel
theorem dX2_remove_5 : decode cX2_remove 5 = .ok (.ifCond .ne 5, 3) := by decide +kernel
theorem dX2_remove_8 : decode cX2_remove 8 = .ok (.iconst 0, 1) := by decide +kernel
theorem dX2_remove_9 : decode cX2_remove 9 = .ok (.ireturn, 1) := by decide +kernel
theorem dX2_remove_10 : decode cX2_remove 10 = .ok (.aload_n 0, 1) := by decide +kernel
theorem dX2_remove_11 : decode cX2_remove 11 = .ok (.dup, 1) := by decide +kernel
theorem dX2_remove_12 : decode cX2_remove 12 = .ok (.getfield 24, 3) := by decide +kernel
theorem dX2_remove_15 : decode cX2_remove 15 = .ok (.iconst 1, 1) := by decide +kernel
theorem dX2_remove_16 : decode cX2_remove 16 = .ok (.isub, 1) := by decide +kernel
theorem dX2_remove_17 : decode cX2_remove 17 = .ok (.putfield 24, 3) := by decide +kernel
theorem dX2_remove_20 : decode cX2_remove 20 = .ok (.iload_n 1, 1) := by decide +kernel
theorem dX2_remove_21 : decode cX2_remove 21 = .ok (.istore_n 2, 1) := by decide +kernel
theorem dX2_remove_22 : decode cX2_remove 22 = .ok (.iload_n 2, 1) := by decide +kernel
theorem dX2_remove_23 : decode cX2_remove 23 = .ok (.aload_n 0, 1) := by decide +kernel
theorem dX2_remove_24 : decode cX2_remove 24 = .ok (.getfield 24, 3) := by decide +kernel
theorem dX2_remove_27 : decode cX2_remove 27 = .ok (.if_icmp .ge 65, 3) := by decide +kernel
theorem dX2_remove_30 : decode cX2_remove 30 = .ok (.aload_n 0, 1) := by decide +kernel
theorem dX2_remove_31 : decode cX2_remove 31 = .ok (.getfield 9, 3) := by decide +kernel
theorem dX2_remove_34 : decode cX2_remove 34 = .ok (.iload_n 2, 1) := by decide +kernel
theorem dX2_remove_35 : decode cX2_remove 35 = .ok (.aload_n 0, 1) := by decide +kernel
theorem dX2_remove_36 : decode cX2_remove 36 = .ok (.getfield 9, 3) := by decide +kernel
theorem dX2_remove_39 : decode cX2_remove 39 = .ok (.iload_n 2, 1) := by decide +kernel
theorem dX2_remove_40 : decode cX2_remove 40 = .ok (.iconst 1, 1) := by decide +kernel
theorem dX2_remove_41 : decode cX2_remove 41 = .ok (.iadd, 1) := by decide +kernel
theorem dX2_remove_42 : decode cX2_remove 42 = .ok (.iaload, 1) := by decide +kernel
theorem dX2_remove_43 : decode cX2_remove 43 = .ok (.iastore, 1) := by decide +kernel
theorem dX2_remove_44 : decode cX2_remove 44 = .ok (.aload_n 0, 1) := by decide +kernel
theorem dX2_remove_45 : decode cX2_remove 45 = .ok (.getfield 15, 3) := by decide +kernel
theorem dX2_remove_48 : decode cX2_remove 48 = .ok (.iload_n 2, 1) := by decide +kernel
theorem dX2_remove_49 : decode cX2_remove 49 = .ok (.aload_n 0, 1) := by decide +kernel
theorem dX2_remove_50 : decode cX2_remove 50 = .ok (.getfield 15, 3) := by decide +kernel
theorem dX2_remove_53 : decode cX2_remove 53 = .ok (.iload_n 2, 1) := by decide +kernel
theorem dX2_remove_54 : decode cX2_remove 54 = .ok (.iconst 1, 1) := by decide +kernel
theorem dX2_remove_55 : decode cX2_remove 55 = .ok (.iadd, 1) := by decide +kernel
theorem dX2_remove_56 : decode cX2_remove 56 = .ok (.iaload, 1) := by decide +kernel
theorem dX2_remove_57 : decode cX2_remove 57 = .ok (.iastore, 1) := by decide +kernel
theorem dX2_remove_58 : decode cX2_remove 58 = .ok (.aload_n 0, 1) := by decide +kernel
theorem dX2_remove_59 : decode cX2_remove 59 = .ok (.getfield 18, 3) := by decide +kernel
theorem dX2_remove_62 : decode cX2_remove 62 = .ok (.iload_n 2, 1) := by decide +kernel
theorem dX2_remove_63 : decode cX2_remove 63 = .ok (.aload_n 0, 1) := by decide +kernel
theorem dX2_remove_64 : decode cX2_remove 64 = .ok (.getfield 18, 3) := by decide +kernel
theorem dX2_remove_67 : decode cX2_remove 67 = .ok (.iload_n 2, 1) := by decide +kernel
theorem dX2_remove_68 : decode cX2_remove 68 = .ok (.iconst 1, 1) := by decide +kernel
theorem dX2_remove_69 : decode cX2_remove 69 = .ok (.iadd, 1) := by decide +kernel
theorem dX2_remove_70 : decode cX2_remove 70 = .ok (.iaload, 1) := by decide +kernel
theorem dX2_remove_71 : decode cX2_remove 71 = .ok (.iastore, 1) := by decide +kernel
theorem dX2_remove_72 : decode cX2_remove 72 = .ok (.aload_n 0, 1) := by decide +kernel
theorem dX2_remove_73 : decode cX2_remove 73 = .ok (.getfield 21, 3) := by decide +kernel
theorem dX2_remove_76 : decode cX2_remove 76 = .ok (.iload_n 2, 1) := by decide +kernel
theorem dX2_remove_77 : decode cX2_remove 77 = .ok (.aload_n 0, 1) := by decide +kernel
theorem dX2_remove_78 : decode cX2_remove 78 = .ok (.getfield 21, 3) := by decide +kernel
theorem dX2_remove_81 : decode cX2_remove 81 = .ok (.iload_n 2, 1) := by decide +kernel
theorem dX2_remove_82 : decode cX2_remove 82 = .ok (.iconst 1, 1) := by decide +kernel
theorem dX2_remove_83 : decode cX2_remove 83 = .ok (.iadd, 1) := by decide +kernel
theorem dX2_remove_84 : decode cX2_remove 84 = .ok (.iaload, 1) := by decide +kernel
theorem dX2_remove_85 : decode cX2_remove 85 = .ok (.iastore, 1) := by decide +kernel
theorem dX2_remove_86 : decode cX2_remove 86 = .ok (.iinc 2 1, 3) := by decide +kernel
theorem dX2_remove_89 : decode cX2_remove 89 = .ok (.goto (-67), 3) := by decide +kernel
theorem dX2_remove_92 : decode cX2_remove 92 = .ok (.iconst 1, 1) := by decide +kernel
theorem dX2_remove_93 : decode cX2_remove 93 = .ok (.ireturn, 1) := by decide +kernel
theorem dX2_placeOf_0 : decode cX2_placeOf 0 = .ok (.iconst 0, 1) := by decide +kernel
theorem dX2_placeOf_1 : decode cX2_placeOf 1 = .ok (.istore_n 2, 1) := by decide +kernel
theorem dX2_placeOf_2 : decode cX2_placeOf 2 = .ok (.iload_n 2, 1) := by decide +kernel
theorem dX2_placeOf_3 : decode cX2_placeOf 3 = .ok (.aload_n 0, 1) := by decide +kernel
theorem dX2_placeOf_4 : decode cX2_placeOf 4 = .ok (.getfield 24, 3) := by decide +kernel
theorem dX2_placeOf_7 : decode cX2_placeOf 7 = .ok (.if_icmp .ge 21, 3) := by decide +kernel
theorem dX2_placeOf_10 : decode cX2_placeOf 10 = .ok (.aload_n 0, 1) := by decide +kernel
theorem dX2_placeOf_11 : decode cX2_placeOf 11 = .ok (.getfield 21, 3) := by decide +kernel
theorem dX2_placeOf_14 : decode cX2_placeOf 14 = .ok (.iload_n 2, 1) := by decide +kernel
theorem dX2_placeOf_15 : decode cX2_placeOf 15 = .ok (.iaload, 1) := by decide +kernel
theorem dX2_placeOf_16 : decode cX2_placeOf 16 = .ok (.iload_n 1, 1) := by decide +kernel
theorem dX2_placeOf_17 : decode cX2_placeOf 17 = .ok (.if_icmp .ne 5, 3) := by decide +kernel
theorem dX2_placeOf_20 : decode cX2_placeOf 20 = .ok (.iload_n 2, 1) := by decide +kernel
theorem dX2_placeOf_21 : decode cX2_placeOf 21 = .ok (.ireturn, 1) := by decide +kernel
theorem dX2_placeOf_22 : decode cX2_placeOf 22 = .ok (.iinc 2 1, 3) := by decide +kernel
theorem dX2_placeOf_25 : decode cX2_placeOf 25 = .ok (.goto (-23), 3) := by decide +kernel
theorem dX2_placeOf_28 : decode cX2_placeOf 28 = .ok (.iconst (-1), 1) := by decide +kernel
theorem dX2_placeOf_29 : decode cX2_placeOf 29 = .ok (.ireturn, 1) := by decide +kernel
theorem dX2_firstOf_0 : decode cX2_firstOf 0 = .ok (.iconst 0, 1) := by decide +kernel
theorem dX2_firstOf_1 : decode cX2_firstOf 1 = .ok (.istore_n 2, 1) := by decide +kernel
theorem dX2_firstOf_2 : decode cX2_firstOf 2 = .ok (.iload_n 2, 1) := by decide +kernel
theorem dX2_firstOf_3 : decode cX2_firstOf 3 = .ok (.aload_n 0, 1) := by decide +kernel
theorem dX2_firstOf_4 : decode cX2_firstOf 4 = .ok (.getfield 24, 3) := by decide +kernel
theorem dX2_firstOf_7 : decode cX2_firstOf 7 = .ok (.if_icmp .ge 21, 3) := by decide +kernel
theorem dX2_firstOf_10 : decode cX2_firstOf 10 = .ok (.aload_n 0, 1) := by decide +kernel
theorem dX2_firstOf_11 : decode cX2_firstOf 11 = .ok (.getfield 9, 3) := by decide +kernel
theorem dX2_firstOf_14 : decode cX2_firstOf 14 = .ok (.iload_n 2, 1) := by decide +kernel
theorem dX2_firstOf_15 : decode cX2_firstOf 15 = .ok (.iaload, 1) := by decide +kernel
theorem dX2_firstOf_16 : decode cX2_firstOf 16 = .ok (.iload_n 1, 1) := by decide +kernel
theorem dX2_firstOf_17 : decode cX2_firstOf 17 = .ok (.if_icmp .ne 5, 3) := by decide +kernel
theorem dX2_firstOf_20 : decode cX2_firstOf 20 = .ok (.iload_n 2, 1) := by decide +kernel
theorem dX2_firstOf_21 : decode cX2_firstOf 21 = .ok (.ireturn, 1) := by decide +kernel
theorem dX2_firstOf_22 : decode cX2_firstOf 22 = .ok (.iinc 2 1, 3) := by decide +kernel
theorem dX2_firstOf_25 : decode cX2_firstOf 25 = .ok (.goto (-23), 3) := by decide +kernel
theorem dX2_firstOf_28 : decode cX2_firstOf 28 = .ok (.iconst (-1), 1) := by decide +kernel
theorem dX2_firstOf_29 : decode cX2_firstOf 29 = .ok (.ireturn, 1) := by decide +kernel
