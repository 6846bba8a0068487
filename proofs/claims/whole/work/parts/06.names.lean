theorem dX5_lays_103 : decode cX5_lays 103 = .ok (.iconst 0, 1) := by decide +kernel
theorem dX5_lays_104 : decode cX5_lays 104 = .ok (.istore_n 3, 1) := by decide +kernel
theorem dX5_lays_105 : decode cX5_lays 105 = .ok (.iload_n 3, 1) := by decide +kernel
theorem dX5_lays_106 : decode cX5_lays 106 = .ok (.aload_n 0, 1) := by decide +kernel
theorem dX5_lays_107 : decode cX5_lays 107 = .ok (.getfield 66, 3) := by decide +kernel
theorem dX5_lays_110 : decode cX5_lays 110 = .ok (.if_icmp .ge 33, 3) := by decide +kernel
theorem dX5_lays_113 : decode cX5_lays 113 = .ok (.aload_n 0, 1) := by decide +kernel
theorem dX5_lays_114 : decode cX5_lays 114 = .ok (.getfield 50, 3) := by decide +kernel
theorem dX5_lays_117 : decode cX5_lays 117 = .ok (.iload_n 3, 1) := by decide +kernel
theorem dX5_lays_118 : decode cX5_lays 118 = .ok (.aload_n 0, 1) := by decide +kernel
theorem dX5_lays_119 : decode cX5_lays 119 = .ok (.getfield 44, 3) := by decide +kernel
theorem dX5_lays_122 : decode cX5_lays 122 = .ok (.iload_n 3, 1) := by decide +kernel
theorem dX5_lays_123 : decode cX5_lays 123 = .ok (.iaload, 1) := by decide +kernel
theorem dX5_lays_124 : decode cX5_lays 124 = .ok (.iastore, 1) := by decide +kernel
theorem dX5_lays_125 : decode cX5_lays 125 = .ok (.aload_n 0, 1) := by decide +kernel
theorem dX5_lays_126 : decode cX5_lays 126 = .ok (.getfield 53, 3) := by decide +kernel
theorem dX5_lays_129 : decode cX5_lays 129 = .ok (.iload_n 3, 1) := by decide +kernel
theorem dX5_lays_130 : decode cX5_lays 130 = .ok (.aload_n 0, 1) := by decide +kernel
theorem dX5_lays_131 : decode cX5_lays 131 = .ok (.getfield 47, 3) := by decide +kernel
theorem dX5_lays_134 : decode cX5_lays 134 = .ok (.iload_n 3, 1) := by decide +kernel
theorem dX5_lays_135 : decode cX5_lays 135 = .ok (.iaload, 1) := by decide +kernel
theorem dX5_lays_136 : decode cX5_lays 136 = .ok (.iastore, 1) := by decide +kernel
theorem dX5_lays_137 : decode cX5_lays 137 = .ok (.iinc 3 1, 3) := by decide +kernel
theorem dX5_lays_140 : decode cX5_lays 140 = .ok (.goto (-35), 3) := by decide +kernel
theorem dX5_lays_143 : decode cX5_lays 143 = .ok (.iconst 0, 1) := by decide +kernel
theorem dX5_lays_144 : decode cX5_lays 144 = .ok (.istore_n 3, 1) := by decide +kernel
theorem dX5_lays_145 : decode cX5_lays 145 = .ok (.iload_n 3, 1) := by decide +kernel
theorem dX5_lays_146 : decode cX5_lays 146 = .ok (.aload_n 0, 1) := by decide +kernel
theorem dX5_lays_147 : decode cX5_lays 147 = .ok (.getfield 66, 3) := by decide +kernel
theorem dX5_lays_150 : decode cX5_lays 150 = .ok (.if_icmp .ge 15, 3) := by decide +kernel
theorem dX5_lays_153 : decode cX5_lays 153 = .ok (.aload_n 0, 1) := by decide +kernel
theorem dX5_lays_154 : decode cX5_lays 154 = .ok (.iload_n 2, 1) := by decide +kernel
theorem dX5_lays_155 : decode cX5_lays 155 = .ok (.iload_n 3, 1) := by decide +kernel
theorem dX5_lays_156 : decode cX5_lays 156 = .ok (.invokevirtual 76, 3) := by decide +kernel
theorem dX5_lays_159 : decode cX5_lays 159 = .ok (.iinc 3 1, 3) := by decide +kernel
theorem dX5_lays_162 : decode cX5_lays 162 = .ok (.goto (-17), 3) := by decide +kernel
theorem dX5_lays_165 : decode cX5_lays 165 = .ok (.iinc 2 1, 3) := by decide +kernel
theorem dX5_lays_168 : decode cX5_lays 168 = .ok (.goto (-70), 3) := by decide +kernel
theorem dX5_lays_171 : decode cX5_lays 171 = .ok (.return_, 1) := by decide +kernel
theorem dX5_triggers_0 : decode cX5_triggers 0 = .ok (.aload_n 0, 1) := by decide +kernel
theorem dX5_triggers_1 : decode cX5_triggers 1 = .ok (.getfield 69, 3) := by decide +kernel
theorem dX5_triggers_4 : decode cX5_triggers 4 = .ok (.bipush 12, 2) := by decide +kernel
theorem dX5_triggers_6 : decode cX5_triggers 6 = .ok (.if_icmp .ge 76, 3) := by decide +kernel
theorem dX5_triggers_9 : decode cX5_triggers 9 = .ok (.aload_n 0, 1) := by decide +kernel
theorem dX5_triggers_10 : decode cX5_triggers 10 = .ok (.getfield 25, 3) := by decide +kernel
theorem dX5_triggers_13 : decode cX5_triggers 13 = .ok (.aload_n 0, 1) := by decide +kernel
theorem dX5_triggers_14 : decode cX5_triggers 14 = .ok (.getfield 69, 3) := by decide +kernel
theorem dX5_triggers_17 : decode cX5_triggers 17 = .ok (.iload_n 1, 1) := by decide +kernel
theorem dX5_triggers_18 : decode cX5_triggers 18 = .ok (.iastore, 1) := by decide +kernel
theorem dX5_triggers_19 : decode cX5_triggers 19 = .ok (.aload_n 0, 1) := by decide +kernel
theorem dX5_triggers_20 : decode cX5_triggers 20 = .ok (.getfield 28, 3) := by decide +kernel
theorem dX5_triggers_23 : decode cX5_triggers 23 = .ok (.aload_n 0, 1) := by decide +kernel
theorem dX5_triggers_24 : decode cX5_triggers 24 = .ok (.getfield 69, 3) := by decide +kernel
theorem dX5_triggers_27 : decode cX5_triggers 27 = .ok (.iconst 1, 1) := by decide +kernel
theorem dX5_triggers_28 : decode cX5_triggers 28 = .ok (.bastore, 1) := by decide +kernel
theorem dX5_triggers_29 : decode cX5_triggers 29 = .ok (.aload_n 0, 1) := by decide +kernel
theorem dX5_triggers_30 : decode cX5_triggers 30 = .ok (.getfield 32, 3) := by decide +kernel
theorem dX5_triggers_33 : decode cX5_triggers 33 = .ok (.aload_n 0, 1) := by decide +kernel
theorem dX5_triggers_34 : decode cX5_triggers 34 = .ok (.getfield 69, 3) := by decide +kernel
theorem dX5_triggers_37 : decode cX5_triggers 37 = .ok (.iload_n 2, 1) := by decide +kernel
theorem dX5_triggers_38 : decode cX5_triggers 38 = .ok (.iastore, 1) := by decide +kernel
theorem dX5_triggers_39 : decode cX5_triggers 39 = .ok (.aload_n 0, 1) := by decide +kernel
theorem dX5_triggers_40 : decode cX5_triggers 40 = .ok (.dup, 1) := by decide +kernel
theorem dX5_triggers_41 : decode cX5_triggers 41 = .ok (.getfield 80, 3) := by decide +kernel
theorem dX5_triggers_44 : decode cX5_triggers 44 = .ok (.iconst 1, 1) := by decide +kernel
theorem dX5_triggers_45 : decode cX5_triggers 45 = .ok (.iadd, 1) := by decide +kernel
theorem dX5_triggers_46 : decode cX5_triggers 46 = .ok (.putfield 80, 3) := by decide +kernel
theorem dX5_triggers_49 : decode cX5_triggers 49 = .ok (.aload_n 0, 1) := by decide +kernel
theorem dX5_triggers_50 : decode cX5_triggers 50 = .ok (.getfield 35, 3) := by decide +kernel
theorem dX5_triggers_53 : decode cX5_triggers 53 = .ok (.aload_n 0, 1) := by decide +kernel
theorem dX5_triggers_54 : decode cX5_triggers 54 = .ok (.getfield 69, 3) := by decide +kernel
theorem dX5_triggers_57 : decode cX5_triggers 57 = .ok (.aload_n 0, 1) := by decide +kernel
theorem dX5_triggers_58 : decode cX5_triggers 58 = .ok (.getfield 80, 3) := by decide +kernel
theorem dX5_triggers_61 : decode cX5_triggers 61 = .ok (.iastore, 1) := by decide +kernel
theorem dX5_triggers_62 : decode cX5_triggers 62 = .ok (.aload_n 0, 1) := by decide +kernel
theorem dX5_triggers_63 : decode cX5_triggers 63 = .ok (.getfield 38, 3) := by decide +kernel
theorem dX5_triggers_66 : decode cX5_triggers 66 = .ok (.aload_n 0, 1) := by decide +kernel
theorem dX5_triggers_67 : decode cX5_triggers 67 = .ok (.getfield 69, 3) := by decide +kernel
theorem dX5_triggers_70 : decode cX5_triggers 70 = .ok (.iconst 0, 1) := by decide +kernel
theorem dX5_triggers_71 : decode cX5_triggers 71 = .ok (.iastore, 1) := by decide +kernel
theorem dX5_triggers_72 : decode cX5_triggers 72 = .ok (.aload_n 0, 1) := by decide +kernel
theorem dX5_triggers_73 : decode cX5_triggers 73 = .ok (.dup, 1) := by decide +kernel
theorem dX5_triggers_74 : decode cX5_triggers 74 = .ok (.getfield 69, 3) := by decide +kernel
theorem dX5_triggers_77 : decode cX5_triggers 77 = .ok (.iconst 1, 1) := by decide +kernel
theorem dX5_triggers_78 : decode cX5_triggers 78 = .ok (.iadd, 1) := by decide +kernel
theorem dX5_triggers_79 : decode cX5_triggers 79 = .ok (.putfield 69, 3) := by decide +kernel
theorem dX5_triggers_82 : decode cX5_triggers 82 = .ok (.return_, 1) := by decide +kernel
set_option maxRecDepth 20000 in
theorem ggX5_triggersOf_X5_lays : GoodIn wsX5_triggersOf wsX5_lays := goodIn_r _ [9, 2, 3, 10, 11, 4, 12, 13, 14, 15, 16, 17, 8, 18, 19, 20, 21, 22, 23, 24, 36, 37, 38, 39, 40, 41, 42, 43, 44, 45, 46, 47, 48, 49, 50, 51, 52, 53, 54, 55, 56, 57, 58, 59, 60, 61, 62] (by decide +kernel) (by decide +kernel)
set_option maxRecDepth 20000 in
theorem gX5_triggersOf_X5_lays : GoodIn wsX5_triggersOf (wsV RX5 83 RX5 yX5_lays wsX5_lays) := goodIn_app (goodIn_of _ (by decide +kernel)) ggX5_triggersOf_X5_lays
set_option maxRecDepth 20000 in
theorem ggX5_triggersOf_X5_triggers : GoodIn wsX5_triggersOf wsX5_triggers := goodIn_r _ [28, 29, 30, 31, 32, 33, 34, 35, 36, 37, 38, 39, 40, 41, 42, 43, 44, 45, 46, 47, 48, 49, 50, 51, 52, 53, 54, 55, 56, 57, 58, 59, 60, 61, 62] (by decide +kernel) (by decide +kernel)
set_option maxRecDepth 20000 in
theorem gX5_triggersOf_X5_triggers : GoodIn wsX5_triggersOf (wsV RX5 90 RX5 yX5_triggers wsX5_triggers) := goodIn_app (goodIn_of _ (by decide +kernel)) ggX5_triggersOf_X5_triggers
theorem dX5_triggersOf_0 : decode cX5_triggersOf 0 = .ok (.aload_n 0, 1) := by decide +kernel
theorem dX5_triggersOf_1 : decode cX5_triggersOf 1 = .ok (.iconst 5, 1) := by decide +kernel
theorem dX5_triggersOf_2 : decode cX5_triggersOf 2 = .ok (.invokevirtual 83, 3) := by decide +kernel
theorem dX5_triggersOf_5 : decode cX5_triggersOf 5 = .ok (.iconst 0, 1) := by decide +kernel
theorem dX5_triggersOf_6 : decode cX5_triggersOf 6 = .ok (.istore 4, 2) := by decide +kernel
theorem dX5_triggersOf_8 : decode cX5_triggersOf 8 = .ok (.iload 4, 2) := by decide +kernel
theorem dX5_triggersOf_10 : decode cX5_triggersOf 10 = .ok (.iconst 3, 1) := by decide +kernel
theorem dX5_triggersOf_11 : decode cX5_triggersOf 11 = .ok (.if_icmp .ge 91, 3) := by decide +kernel
theorem dX5_triggersOf_14 : decode cX5_triggersOf 14 = .ok (.aload_n 0, 1) := by decide +kernel
theorem dX5_triggersOf_15 : decode cX5_triggersOf 15 = .ok (.getfield 87, 3) := by decide +kernel
theorem dX5_triggersOf_18 : decode cX5_triggersOf 18 = .ok (.iload 4, 2) := by decide +kernel
theorem dX5_triggersOf_20 : decode cX5_triggersOf 20 = .ok (.iadd, 1) := by decide +kernel
theorem dX5_triggersOf_21 : decode cX5_triggersOf 21 = .ok (.iconst 3, 1) := by decide +kernel
theorem dX5_triggersOf_22 : decode cX5_triggersOf 22 = .ok (.irem, 1) := by decide +kernel
theorem dX5_triggersOf_23 : decode cX5_triggersOf 23 = .ok (.istore 5, 2) := by decide +kernel
theorem dX5_triggersOf_25 : decode cX5_triggersOf 25 = .ok (.iconst 0, 1) := by decide +kernel
theorem dX5_triggersOf_26 : decode cX5_triggersOf 26 = .ok (.istore 6, 2) := by decide +kernel
theorem dX5_triggersOf_28 : decode cX5_triggersOf 28 = .ok (.iload 6, 2) := by decide +kernel
theorem dX5_triggersOf_30 : decode cX5_triggersOf 30 = .ok (.aload_n 0, 1) := by decide +kernel
theorem dX5_triggersOf_31 : decode cX5_triggersOf 31 = .ok (.getfield 66, 3) := by decide +kernel
theorem dX5_triggersOf_34 : decode cX5_triggersOf 34 = .ok (.if_icmp .ge 62, 3) := by decide +kernel
theorem dX5_triggersOf_37 : decode cX5_triggersOf 37 = .ok (.iload 6, 2) := by decide +kernel
theorem dX5_triggersOf_39 : decode cX5_triggersOf 39 = .ok (.iload_n 3, 1) := by decide +kernel
theorem dX5_triggersOf_40 : decode cX5_triggersOf 40 = .ok (.if_icmp .eq 50, 3) := by decide +kernel
theorem dX5_triggersOf_43 : decode cX5_triggersOf 43 = .ok (.aload_n 0, 1) := by decide +kernel
theorem dX5_triggersOf_44 : decode cX5_triggersOf 44 = .ok (.getfield 41, 3) := by decide +kernel
theorem dX5_triggersOf_47 : decode cX5_triggersOf 47 = .ok (.iload 6, 2) := by decide +kernel
theorem dX5_triggersOf_49 : decode cX5_triggersOf 49 = .ok (.iaload, 1) := by decide +kernel
theorem dX5_triggersOf_50 : decode cX5_triggersOf 50 = .ok (.iload 5, 2) := by decide +kernel
theorem dX5_triggersOf_52 : decode cX5_triggersOf 52 = .ok (.if_icmp .ne 38, 3) := by decide +kernel
theorem dX5_triggersOf_55 : decode cX5_triggersOf 55 = .ok (.aload_n 0, 1) := by decide +kernel
theorem dX5_triggersOf_56 : decode cX5_triggersOf 56 = .ok (.getfield 13, 3) := by decide +kernel
theorem dX5_triggersOf_59 : decode cX5_triggersOf 59 = .ok (.iload 6, 2) := by decide +kernel
theorem dX5_triggersOf_61 : decode cX5_triggersOf 61 = .ok (.iaload, 1) := by decide +kernel
theorem dX5_triggersOf_62 : decode cX5_triggersOf 62 = .ok (.iload_n 1, 1) := by decide +kernel
theorem dX5_triggersOf_63 : decode cX5_triggersOf 63 = .ok (.if_icmp .eq 14, 3) := by decide +kernel
theorem dX5_triggersOf_66 : decode cX5_triggersOf 66 = .ok (.aload_n 0, 1) := by decide +kernel
theorem dX5_triggersOf_67 : decode cX5_triggersOf 67 = .ok (.getfield 13, 3) := by decide +kernel
theorem dX5_triggersOf_70 : decode cX5_triggersOf 70 = .ok (.iload 6, 2) := by decide +kernel
theorem dX5_triggersOf_72 : decode cX5_triggersOf 72 = .ok (.iaload, 1) := by decide +kernel
theorem dX5_triggersOf_73 : decode cX5_triggersOf 73 = .ok (.iload_n 2, 1) := by decide +kernel
theorem dX5_triggersOf_74 : decode cX5_triggersOf 74 = .ok (.if_icmp .ne 16, 3) := by decide +kernel
theorem dX5_triggersOf_77 : decode cX5_triggersOf 77 = .ok (.aload_n 0, 1) := by decide +kernel
theorem dX5_triggersOf_78 : decode cX5_triggersOf 78 = .ok (.aload_n 0, 1) := by decide +kernel
theorem dX5_triggersOf_79 : decode cX5_triggersOf 79 = .ok (.getfield 13, 3) := by decide +kernel
theorem dX5_triggersOf_82 : decode cX5_triggersOf 82 = .ok (.iload 6, 2) := by decide +kernel
theorem dX5_triggersOf_84 : decode cX5_triggersOf 84 = .ok (.iaload, 1) := by decide +kernel
theorem dX5_triggersOf_85 : decode cX5_triggersOf 85 = .ok (.iload 5, 2) := by decide +kernel
theorem dX5_triggersOf_87 : decode cX5_triggersOf 87 = .ok (.invokevirtual 90, 3) := by decide +kernel
theorem dX5_triggersOf_90 : decode cX5_triggersOf 90 = .ok (.iinc 6 1, 3) := by decide +kernel
theorem dX5_triggersOf_93 : decode cX5_triggersOf 93 = .ok (.goto (-65), 3) := by decide +kernel
theorem dX5_triggersOf_96 : decode cX5_triggersOf 96 = .ok (.iinc 4 1, 3) := by decide +kernel
theorem dX5_triggersOf_99 : decode cX5_triggersOf 99 = .ok (.goto (-91), 3) := by decide +kernel
theorem dX5_triggersOf_102 : decode cX5_triggersOf 102 = .ok (.return_, 1) := by decide +kernel
set_option maxRecDepth 20000 in
theorem ggX5_enters_X5_triggersOf : GoodIn wsX5_enters wsX5_triggersOf := goodIn_r _ [11, 12, 1, 13, 2, 14, 15, 16, 10, 17, 3, 18, 19, 20, 21, 22, 23, 24, 25, 6, 26, 27, 28, 29, 5, 30, 31, 32, 33, 34, 35, 36, 37, 4, 38, 39, 40, 41, 42, 43, 44, 45, 46, 47, 48, 49, 50, 51, 52, 53, 54, 55, 56, 57, 58, 59, 60, 61, 62, 63, 64, 65, 66] (by decide +kernel) (by decide +kernel)
set_option maxRecDepth 20000 in
theorem gX5_enters_X5_triggersOf : GoodIn wsX5_enters (wsV RX5 93 RX5 yX5_triggersOf wsX5_triggersOf) := goodIn_app (goodIn_of _ (by decide +kernel)) ggX5_enters_X5_triggersOf
theorem dX5_enters_0 : decode cX5_enters 0 = .ok (.aload_n 0, 1) := by decide +kernel
theorem dX5_enters_1 : decode cX5_enters 1 = .ok (.getfield 66, 3) := by decide +kernel
theorem dX5_enters_4 : decode cX5_enters 4 = .ok (.bipush 10, 2) := by decide +kernel
theorem dX5_enters_6 : decode cX5_enters 6 = .ok (.if_icmp .ge 80, 3) := by decide +kernel
theorem dX5_enters_9 : decode cX5_enters 9 = .ok (.aload_n 0, 1) := by decide +kernel
theorem dX5_enters_10 : decode cX5_enters 10 = .ok (.getfield 13, 3) := by decide +kernel
theorem dX5_enters_13 : decode cX5_enters 13 = .ok (.aload_n 0, 1) := by decide +kernel
theorem dX5_enters_14 : decode cX5_enters 14 = .ok (.getfield 66, 3) := by decide +kernel
theorem dX5_enters_17 : decode cX5_enters 17 = .ok (.iload_n 1, 1) := by decide +kernel
theorem dX5_enters_18 : decode cX5_enters 18 = .ok (.iastore, 1) := by decide +kernel
theorem dX5_enters_19 : decode cX5_enters 19 = .ok (.aload_n 0, 1) := by decide +kernel
theorem dX5_enters_20 : decode cX5_enters 20 = .ok (.getfield 16, 3) := by decide +kernel
theorem dX5_enters_23 : decode cX5_enters 23 = .ok (.aload_n 0, 1) := by decide +kernel
theorem dX5_enters_24 : decode cX5_enters 24 = .ok (.getfield 66, 3) := by decide +kernel
theorem dX5_enters_27 : decode cX5_enters 27 = .ok (.iload_n 2, 1) := by decide +kernel
theorem dX5_enters_28 : decode cX5_enters 28 = .ok (.iastore, 1) := by decide +kernel
theorem dX5_enters_29 : decode cX5_enters 29 = .ok (.aload_n 0, 1) := by decide +kernel
theorem dX5_enters_30 : decode cX5_enters 30 = .ok (.dup, 1) := by decide +kernel
theorem dX5_enters_31 : decode cX5_enters 31 = .ok (.getfield 80, 3) := by decide +kernel
theorem dX5_enters_34 : decode cX5_enters 34 = .ok (.iconst 1, 1) := by decide +kernel
theorem dX5_enters_35 : decode cX5_enters 35 = .ok (.iadd, 1) := by decide +kernel
theorem dX5_enters_36 : decode cX5_enters 36 = .ok (.putfield 80, 3) := by decide +kernel
theorem dX5_enters_39 : decode cX5_enters 39 = .ok (.aload_n 0, 1) := by decide +kernel
theorem dX5_enters_40 : decode cX5_enters 40 = .ok (.getfield 19, 3) := by decide +kernel
theorem dX5_enters_43 : decode cX5_enters 43 = .ok (.aload_n 0, 1) := by decide +kernel
theorem dX5_enters_44 : decode cX5_enters 44 = .ok (.getfield 66, 3) := by decide +kernel
theorem dX5_enters_47 : decode cX5_enters 47 = .ok (.aload_n 0, 1) := by decide +kernel
theorem dX5_enters_48 : decode cX5_enters 48 = .ok (.getfield 80, 3) := by decide +kernel
theorem dX5_enters_51 : decode cX5_enters 51 = .ok (.iastore, 1) := by decide +kernel
theorem dX5_enters_52 : decode cX5_enters 52 = .ok (.aload_n 0, 1) := by decide +kernel
theorem dX5_enters_53 : decode cX5_enters 53 = .ok (.getfield 22, 3) := by decide +kernel
theorem dX5_enters_56 : decode cX5_enters 56 = .ok (.aload_n 0, 1) := by decide +kernel
theorem dX5_enters_57 : decode cX5_enters 57 = .ok (.getfield 66, 3) := by decide +kernel
theorem dX5_enters_60 : decode cX5_enters 60 = .ok (.iload_n 3, 1) := by decide +kernel
theorem dX5_enters_61 : decode cX5_enters 61 = .ok (.iastore, 1) := by decide +kernel
theorem dX5_enters_62 : decode cX5_enters 62 = .ok (.aload_n 0, 1) := by decide +kernel
theorem dX5_enters_63 : decode cX5_enters 63 = .ok (.dup, 1) := by decide +kernel
theorem dX5_enters_64 : decode cX5_enters 64 = .ok (.getfield 66, 3) := by decide +kernel
theorem dX5_enters_67 : decode cX5_enters 67 = .ok (.iconst 1, 1) := by decide +kernel
theorem dX5_enters_68 : decode cX5_enters 68 = .ok (.iadd, 1) := by decide +kernel
theorem dX5_enters_69 : decode cX5_enters 69 = .ok (.putfield 66, 3) := by decide +kernel
theorem dX5_enters_72 : decode cX5_enters 72 = .ok (.aload_n 0, 1) := by decide +kernel
theorem dX5_enters_73 : decode cX5_enters 73 = .ok (.bipush 9, 2) := by decide +kernel
theorem dX5_enters_75 : decode cX5_enters 75 = .ok (.bipush 11, 2) := by decide +kernel
theorem dX5_enters_77 : decode cX5_enters 77 = .ok (.aload_n 0, 1) := by decide +kernel
theorem dX5_enters_78 : decode cX5_enters 78 = .ok (.getfield 66, 3) := by decide +kernel
theorem dX5_enters_81 : decode cX5_enters 81 = .ok (.iconst 1, 1) := by decide +kernel
theorem dX5_enters_82 : decode cX5_enters 82 = .ok (.isub, 1) := by decide +kernel
theorem dX5_enters_83 : decode cX5_enters 83 = .ok (.invokevirtual 93, 3) := by decide +kernel
theorem dX5_enters_86 : decode cX5_enters 86 = .ok (.return_, 1) := by decide +kernel
set_option maxRecDepth 20000 in
theorem ggX5_leaves_X5_triggersOf : GoodIn wsX5_leaves wsX5_triggersOf := goodIn_r _ [10, 11, 1, 12, 2, 13, 14, 15, 9, 16, 3, 17, 18, 19, 20, 21, 22, 23, 24, 5, 25, 26, 27, 28, 4, 29, 30, 31, 32, 33, 34, 35, 36, 37, 38, 39, 40, 41, 42, 43, 44, 45, 46, 47, 48, 49, 50, 51, 52, 53, 54, 55, 56, 57, 58, 59, 60, 61, 62, 63, 64, 65, 66] (by decide +kernel) (by decide +kernel)
set_option maxRecDepth 20000 in
theorem gX5_leaves_X5_triggersOf : GoodIn wsX5_leaves (wsV RX5 93 RX5 yX5_triggersOf wsX5_triggersOf) := goodIn_app (goodIn_of _ (by decide +kernel)) ggX5_leaves_X5_triggersOf
theorem dX5_leaves_0 : decode cX5_leaves 0 = .ok (.aload_n 0, 1) := by decide +kernel
theorem dX5_leaves_1 : decode cX5_leaves 1 = .ok (.dup, 1) := by decide +kernel
theorem dX5_leaves_2 : decode cX5_leaves 2 = .ok (.getfield 66, 3) := by decide +kernel
theorem dX5_leaves_5 : decode cX5_leaves 5 = .ok (.iconst 1, 1) := by decide +kernel
theorem dX5_leaves_6 : decode cX5_leaves 6 = .ok (.isub, 1) := by decide +kernel
theorem dX5_leaves_7 : decode cX5_leaves 7 = .ok (.putfield 66, 3) := by decide +kernel
theorem dX5_leaves_10 : decode cX5_leaves 10 = .ok (.iload_n 1, 1) := by decide +kernel
theorem dX5_leaves_11 : decode cX5_leaves 11 = .ok (.istore_n 2, 1) := by decide +kernel
theorem dX5_leaves_12 : decode cX5_leaves 12 = .ok (.iload_n 2, 1) := by decide +kernel
theorem dX5_leaves_13 : decode cX5_leaves 13 = .ok (.aload_n 0, 1) := by decide +kernel
theorem dX5_leaves_14 : decode cX5_leaves 14 = .ok (.getfield 66, 3) := by decide +kernel
theorem dX5_leaves_17 : decode cX5_leaves 17 = .ok (.if_icmp .ge 65, 3) := by decide +kernel
theorem dX5_leaves_20 : decode cX5_leaves 20 = .ok (.aload_n 0, 1) := by decide +kernel
theorem dX5_leaves_21 : decode cX5_leaves 21 = .ok (.getfield 13, 3) := by decide +kernel
theorem dX5_leaves_24 : decode cX5_leaves 24 = .ok (.iload_n 2, 1) := by decide +kernel
theorem dX5_leaves_25 : decode cX5_leaves 25 = .ok (.aload_n 0, 1) := by decide +kernel
theorem dX5_leaves_26 : decode cX5_leaves 26 = .ok (.getfield 13, 3) := by decide +kernel
theorem dX5_leaves_29 : decode cX5_leaves 29 = .ok (.iload_n 2, 1) := by decide +kernel
theorem dX5_leaves_30 : decode cX5_leaves 30 = .ok (.iconst 1, 1) := by decide +kernel
theorem dX5_leaves_31 : decode cX5_leaves 31 = .ok (.iadd, 1) := by decide +kernel
theorem dX5_leaves_32 : decode cX5_leaves 32 = .ok (.iaload, 1) := by decide +kernel
theorem dX5_leaves_33 : decode cX5_leaves 33 = .ok (.iastore, 1) := by decide +kernel
theorem dX5_leaves_34 : decode cX5_leaves 34 = .ok (.aload_n 0, 1) := by decide +kernel
theorem dX5_leaves_35 : decode cX5_leaves 35 = .ok (.getfield 16, 3) := by decide +kernel
theorem dX5_leaves_38 : decode cX5_leaves 38 = .ok (.iload_n 2, 1) := by decide +kernel
theorem dX5_leaves_39 : decode cX5_leaves 39 = .ok (.aload_n 0, 1) := by decide +kernel
theorem dX5_leaves_40 : decode cX5_leaves 40 = .ok (.getfield 16, 3) := by decide +kernel
theorem dX5_leaves_43 : decode cX5_leaves 43 = .ok (.iload_n 2, 1) := by decide +kernel
theorem dX5_leaves_44 : decode cX5_leaves 44 = .ok (.iconst 1, 1) := by decide +kernel
theorem dX5_leaves_45 : decode cX5_leaves 45 = .ok (.iadd, 1) := by decide +kernel
theorem dX5_leaves_46 : decode cX5_leaves 46 = .ok (.iaload, 1) := by decide +kernel
theorem dX5_leaves_47 : decode cX5_leaves 47 = .ok (.iastore, 1) := by decide +kernel
theorem dX5_leaves_48 : decode cX5_leaves 48 = .ok (.aload_n 0, 1) := by decide +kernel
theorem dX5_leaves_49 : decode cX5_leaves 49 = .ok (.getfield 19, 3) := by decide +kernel
theorem dX5_leaves_52 : decode cX5_leaves 52 = .ok (.iload_n 2, 1) := by decide +kernel
theorem dX5_leaves_53 : decode cX5_leaves 53 = .ok (.aload_n 0, 1) := by decide +kernel
theorem dX5_leaves_54 : decode cX5_leaves 54 = .ok (.getfield 19, 3) := by decide +kernel
theorem dX5_leaves_57 : decode cX5_leaves 57 = .ok (.iload_n 2, 1) := by decide +kernel
theorem dX5_leaves_58 : decode cX5_leaves 58 = .ok (.iconst 1, 1) := by decide +kernel
theorem dX5_leaves_59 : decode cX5_leaves 59 = .ok (.iadd, 1) := by decide +kernel
theorem dX5_leaves_60 : decode cX5_leaves 60 = .ok (.iaload, 1) := by decide +kernel
theorem dX5_leaves_61 : decode cX5_leaves 61 = .ok (.iastore, 1) := by decide +kernel
theorem dX5_leaves_62 : decode cX5_leaves 62 = .ok (.aload_n 0, 1) := by decide +kernel
theorem dX5_leaves_63 : decode cX5_leaves 63 = .ok (.getfield 22, 3) := by decide +kernel
theorem dX5_leaves_66 : decode cX5_leaves 66 = .ok (.iload_n 2, 1) := by decide +kernel
theorem dX5_leaves_67 : decode cX5_leaves 67 = .ok (.aload_n 0, 1) := by decide +kernel
theorem dX5_leaves_68 : decode cX5_leaves 68 = .ok (.getfield 22, 3) := by decide +kernel
theorem dX5_leaves_71 : decode cX5_leaves 71 = .ok (.iload_n 2, 1) := by decide +kernel
theorem dX5_leaves_72 : decode cX5_leaves 72 = .ok (.iconst 1, 1) := by decide +kernel
theorem dX5_leaves_73 : decode cX5_leaves 73 = .ok (.iadd, 1) := by decide +kernel
theorem dX5_leaves_74 : decode cX5_leaves 74 = .ok (.iaload, 1) := by decide +kernel
theorem dX5_leaves_75 : decode cX5_leaves 75 = .ok (.iastore, 1) := by decide +kernel
theorem dX5_leaves_76 : decode cX5_leaves 76 = .ok (.iinc 2 1, 3) := by decide +kernel
theorem dX5_leaves_79 : decode cX5_leaves 79 = .ok (.goto (-67), 3) := by decide +kernel
theorem dX5_leaves_82 : decode cX5_leaves 82 = .ok (.aload_n 0, 1) := by decide +kernel
theorem dX5_leaves_83 : decode cX5_leaves 83 = .ok (.bipush 10, 2) := by decide +kernel
theorem dX5_leaves_85 : decode cX5_leaves 85 = .ok (.bipush 10, 2) := by decide +kernel
theorem dX5_leaves_87 : decode cX5_leaves 87 = .ok (.iconst (-1), 1) := by decide +kernel
theorem dX5_leaves_88 : decode cX5_leaves 88 = .ok (.invokevirtual 93, 3) := by decide +kernel
theorem dX5_leaves_91 : decode cX5_leaves 91 = .ok (.return_, 1) := by decide +kernel
set_option maxRecDepth 20000 in
theorem ggX5_begins_X5_lays : GoodIn wsX5_begins wsX5_lays := goodIn_r _ [13, 6, 8, 14, 15, 7, 16, 17, 18, 19, 20, 21, 12, 22, 23, 24, 25, 26, 27, 28, 40, 41, 42, 43, 44, 45, 46, 47, 48, 49, 50, 51, 52, 53, 54, 55, 56, 57, 58, 59, 60, 61, 62, 63, 64, 65, 66] (by decide +kernel) (by decide +kernel)
set_option maxRecDepth 20000 in
theorem gX5_begins_X5_lays : GoodIn wsX5_begins (wsV RX5 83 RX5 yX5_lays wsX5_lays) := goodIn_app (goodIn_of _ (by decide +kernel)) ggX5_begins_X5_lays
set_option maxRecDepth 20000 in
theorem ggX5_begins_X5_triggers : GoodIn wsX5_begins wsX5_triggers := goodIn_r _ [32, 33, 34, 35, 36, 37, 38, 39, 40, 41, 42, 43, 44, 45, 46, 47, 48, 49, 50, 51, 52, 53, 54, 55, 56, 57, 58, 59, 60, 61, 62, 63, 64, 65, 66] (by decide +kernel) (by decide +kernel)
set_option maxRecDepth 20000 in
theorem gX5_begins_X5_triggers : GoodIn wsX5_begins (wsV RX5 90 RX5 yX5_triggers wsX5_triggers) := goodIn_app (goodIn_of _ (by decide +kernel)) ggX5_begins_X5_triggers
theorem dX5_begins_0 : decode cX5_begins 0 = .ok (.aload_n 0, 1) := by decide +kernel
theorem dX5_begins_1 : decode cX5_begins 1 = .ok (.aload_n 0, 1) := by decide +kernel
theorem dX5_begins_2 : decode cX5_begins 2 = .ok (.getfield 87, 3) := by decide +kernel
theorem dX5_begins_5 : decode cX5_begins 5 = .ok (.iconst 1, 1) := by decide +kernel
theorem dX5_begins_6 : decode cX5_begins 6 = .ok (.iadd, 1) := by decide +kernel
theorem dX5_begins_7 : decode cX5_begins 7 = .ok (.iconst 3, 1) := by decide +kernel
theorem dX5_begins_8 : decode cX5_begins 8 = .ok (.irem, 1) := by decide +kernel
theorem dX5_begins_9 : decode cX5_begins 9 = .ok (.putfield 87, 3) := by decide +kernel
theorem dX5_begins_12 : decode cX5_begins 12 = .ok (.aload_n 0, 1) := by decide +kernel
theorem dX5_begins_13 : decode cX5_begins 13 = .ok (.aload_n 0, 1) := by decide +kernel
theorem dX5_begins_14 : decode cX5_begins 14 = .ok (.getfield 87, 3) := by decide +kernel
theorem dX5_begins_17 : decode cX5_begins 17 = .ok (.putfield 97, 3) := by decide +kernel
theorem dX5_begins_20 : decode cX5_begins 20 = .ok (.aload_n 0, 1) := by decide +kernel
theorem dX5_begins_21 : decode cX5_begins 21 = .ok (.dup, 1) := by decide +kernel
theorem dX5_begins_22 : decode cX5_begins 22 = .ok (.getfield 100, 3) := by decide +kernel
theorem dX5_begins_25 : decode cX5_begins 25 = .ok (.iconst 1, 1) := by decide +kernel
theorem dX5_begins_26 : decode cX5_begins 26 = .ok (.iadd, 1) := by decide +kernel
theorem dX5_begins_27 : decode cX5_begins 27 = .ok (.putfield 100, 3) := by decide +kernel
theorem dX5_begins_30 : decode cX5_begins 30 = .ok (.aload_n 0, 1) := by decide +kernel
theorem dX5_begins_31 : decode cX5_begins 31 = .ok (.getfield 7, 3) := by decide +kernel
theorem dX5_begins_34 : decode cX5_begins 34 = .ok (.aload_n 0, 1) := by decide +kernel
theorem dX5_begins_35 : decode cX5_begins 35 = .ok (.getfield 87, 3) := by decide +kernel
theorem dX5_begins_38 : decode cX5_begins 38 = .ok (.dup2, 1) := by decide +kernel
theorem dX5_begins_39 : decode cX5_begins 39 = .ok (.iaload, 1) := by decide +kernel
theorem dX5_begins_40 : decode cX5_begins 40 = .ok (.iconst 3, 1) := by decide +kernel
theorem dX5_begins_41 : decode cX5_begins 41 = .ok (.iadd, 1) := by decide +kernel
theorem dX5_begins_42 : decode cX5_begins 42 = .ok (.iastore, 1) := by decide +kernel
theorem dX5_begins_43 : decode cX5_begins 43 = .ok (.aload_n 0, 1) := by decide +kernel
theorem dX5_begins_44 : decode cX5_begins 44 = .ok (.iconst 0, 1) := by decide +kernel
theorem dX5_begins_45 : decode cX5_begins 45 = .ok (.putfield 103, 3) := by decide +kernel
theorem dX5_begins_48 : decode cX5_begins 48 = .ok (.aload_n 0, 1) := by decide +kernel
theorem dX5_begins_49 : decode cX5_begins 49 = .ok (.iconst 5, 1) := by decide +kernel
theorem dX5_begins_50 : decode cX5_begins 50 = .ok (.invokevirtual 83, 3) := by decide +kernel
theorem dX5_begins_53 : decode cX5_begins 53 = .ok (.iconst 0, 1) := by decide +kernel
theorem dX5_begins_54 : decode cX5_begins 54 = .ok (.istore_n 1, 1) := by decide +kernel
theorem dX5_begins_55 : decode cX5_begins 55 = .ok (.iload_n 1, 1) := by decide +kernel
theorem dX5_begins_56 : decode cX5_begins 56 = .ok (.aload_n 0, 1) := by decide +kernel
theorem dX5_begins_57 : decode cX5_begins 57 = .ok (.getfield 66, 3) := by decide +kernel
theorem dX5_begins_60 : decode cX5_begins 60 = .ok (.if_icmp .ge 41, 3) := by decide +kernel
theorem dX5_begins_63 : decode cX5_begins 63 = .ok (.aload_n 0, 1) := by decide +kernel
theorem dX5_begins_64 : decode cX5_begins 64 = .ok (.getfield 13, 3) := by decide +kernel
theorem dX5_begins_67 : decode cX5_begins 67 = .ok (.iload_n 1, 1) := by decide +kernel
theorem dX5_begins_68 : decode cX5_begins 68 = .ok (.iaload, 1) := by decide +kernel
theorem dX5_begins_69 : decode cX5_begins 69 = .ok (.iconst 1, 1) := by decide +kernel
theorem dX5_begins_70 : decode cX5_begins 70 = .ok (.if_icmp .ne 25, 3) := by decide +kernel
theorem dX5_begins_73 : decode cX5_begins 73 = .ok (.aload_n 0, 1) := by decide +kernel
theorem dX5_begins_74 : decode cX5_begins 74 = .ok (.getfield 41, 3) := by decide +kernel
theorem dX5_begins_77 : decode cX5_begins 77 = .ok (.iload_n 1, 1) := by decide +kernel
theorem dX5_begins_78 : decode cX5_begins 78 = .ok (.iaload, 1) := by decide +kernel
theorem dX5_begins_79 : decode cX5_begins 79 = .ok (.aload_n 0, 1) := by decide +kernel
theorem dX5_begins_80 : decode cX5_begins 80 = .ok (.getfield 87, 3) := by decide +kernel
theorem dX5_begins_83 : decode cX5_begins 83 = .ok (.if_icmp .ne 12, 3) := by decide +kernel
theorem dX5_begins_86 : decode cX5_begins 86 = .ok (.aload_n 0, 1) := by decide +kernel
theorem dX5_begins_87 : decode cX5_begins 87 = .ok (.iconst 1, 1) := by decide +kernel
theorem dX5_begins_88 : decode cX5_begins 88 = .ok (.aload_n 0, 1) := by decide +kernel
theorem dX5_begins_89 : decode cX5_begins 89 = .ok (.getfield 87, 3) := by decide +kernel
theorem dX5_begins_92 : decode cX5_begins 92 = .ok (.invokevirtual 90, 3) := by decide +kernel
theorem dX5_begins_95 : decode cX5_begins 95 = .ok (.iinc 1 1, 3) := by decide +kernel
theorem dX5_begins_98 : decode cX5_begins 98 = .ok (.goto (-43), 3) := by decide +kernel
theorem dX5_begins_101 : decode cX5_begins 101 = .ok (.return_, 1) := by decide +kernel
theorem dX5_removes_0 : decode cX5_removes 0 = .ok (.aload_n 0, 1) := by decide +kernel
theorem dX5_removes_1 : decode cX5_removes 1 = .ok (.dup, 1) := by decide +kernel
theorem dX5_removes_2 : decode cX5_removes 2 = .ok (.getfield 69, 3) := by decide +kernel
theorem dX5_removes_5 : decode cX5_removes 5 = .ok (.iconst 1, 1) := by decide +kernel
theorem dX5_removes_6 : decode cX5_removes 6 = .ok (.isub, 1) := by decide +kernel
theorem dX5_removes_7 : decode cX5_removes 7 = .ok (.putfield 69, 3) := by decide +kernel
theorem dX5_removes_10 : decode cX5_removes 10 = .ok (.iload_n 1, 1) := by decide +kernel
theorem dX5_removes_11 : decode cX5_removes 11 = .ok (.istore_n 2, 1) := by decide +kernel
theorem dX5_removes_12 : decode cX5_removes 12 = .ok (.iload_n 2, 1) := by decide +kernel
theorem dX5_removes_13 : decode cX5_removes 13 = .ok (.aload_n 0, 1) := by decide +kernel
theorem dX5_removes_14 : decode cX5_removes 14 = .ok (.getfield 69, 3) := by decide +kernel
theorem dX5_removes_17 : decode cX5_removes 17 = .ok (.if_icmp .ge 79, 3) := by decide +kernel
theorem dX5_removes_20 : decode cX5_removes 20 = .ok (.aload_n 0, 1) := by decide +kernel
theorem dX5_removes_21 : decode cX5_removes 21 = .ok (.getfield 25, 3) := by decide +kernel
theorem dX5_removes_24 : decode cX5_removes 24 = .ok (.iload_n 2, 1) := by decide +kernel
theorem dX5_removes_25 : decode cX5_removes 25 = .ok (.aload_n 0, 1) := by decide +kernel
theorem dX5_removes_26 : decode cX5_removes 26 = .ok (.getfield 25, 3) := by decide +kernel
theorem dX5_removes_29 : decode cX5_removes 29 = .ok (.iload_n 2, 1) := by decide +kernel
theorem dX5_removes_30 : decode cX5_removes 30 = .ok (.iconst 1, 1) := by decide +kernel
theorem dX5_removes_31 : decode cX5_removes 31 = .ok (.iadd, 1) := by decide +kernel
theorem dX5_removes_32 : decode cX5_removes 32 = .ok (.iaload, 1) := by decide +kernel
theorem dX5_removes_33 : decode cX5_removes 33 = .ok (.iastore, 1) := by decide +kernel
theorem dX5_removes_34 : decode cX5_removes 34 = .ok (.aload_n 0, 1) := by decide +kernel
theorem dX5_removes_35 : decode cX5_removes 35 = .ok (.getfield 28, 3) := by decide +kernel
theorem dX5_removes_38 : decode cX5_removes 38 = .ok (.iload_n 2, 1) := by decide +kernel
theorem dX5_removes_39 : decode cX5_removes 39 = .ok (.aload_n 0, 1) := by decide +kernel
theorem dX5_removes_40 : decode cX5_removes 40 = .ok (.getfield 28, 3) := by decide +kernel
theorem dX5_removes_43 : decode cX5_removes 43 = .ok (.iload_n 2, 1) := by decide +kernel
theorem dX5_removes_44 : decode cX5_removes 44 = .ok (.iconst 1, 1) := by decide +kernel
theorem dX5_removes_45 : decode cX5_removes 45 = .ok (.iadd, 1) := by decide +kernel
theorem dX5_removes_46 : decode cX5_removes 46 = .ok (.baload, 1) := by decide +kernel
theorem dX5_removes_47 : decode cX5_removes 47 = .ok (.bastore, 1) := by decide +kernel
theorem dX5_removes_48 : decode cX5_removes 48 = .ok (.aload_n 0, 1) := by decide +kernel
theorem dX5_removes_49 : decode cX5_removes 49 = .ok (.getfield 32, 3) := by decide +kernel
theorem dX5_removes_52 : decode cX5_removes 52 = .ok (.iload_n 2, 1) := by decide +kernel
theorem dX5_removes_53 : decode cX5_removes 53 = .ok (.aload_n 0, 1) := by decide +kernel
theorem dX5_removes_54 : decode cX5_removes 54 = .ok (.getfield 32, 3) := by decide +kernel
theorem dX5_removes_57 : decode cX5_removes 57 = .ok (.iload_n 2, 1) := by decide +kernel
theorem dX5_removes_58 : decode cX5_removes 58 = .ok (.iconst 1, 1) := by decide +kernel
theorem dX5_removes_59 : decode cX5_removes 59 = .ok (.iadd, 1) := by decide +kernel
theorem dX5_removes_60 : decode cX5_removes 60 = .ok (.iaload, 1) := by decide +kernel
theorem dX5_removes_61 : decode cX5_removes 61 = .ok (.iastore, 1) := by decide +kernel
theorem dX5_removes_62 : decode cX5_removes 62 = .ok (.aload_n 0, 1) := by decide +kernel
theorem dX5_removes_63 : decode cX5_removes 63 = .ok (.getfield 35, 3) := by decide +kernel
theorem dX5_removes_66 : decode cX5_removes 66 = .ok (.iload_n 2, 1) := by decide +kernel
theorem dX5_removes_67 : decode cX5_removes 67 = .ok (.aload_n 0, 1) := by decide +kernel
theorem dX5_removes_68 : decode cX5_removes 68 = .ok (.getfield 35, 3) := by decide +kernel
theorem dX5_removes_71 : decode cX5_removes 71 = .ok (.iload_n 2, 1) := by decide +kernel
theorem dX5_removes_72 : decode cX5_removes 72 = .ok (.iconst 1, 1) := by decide +kernel
theorem dX5_removes_73 : decode cX5_removes 73 = .ok (.iadd, 1) := by decide +kernel
theorem dX5_removes_74 : decode cX5_removes 74 = .ok (.iaload, 1) := by decide +kernel
theorem dX5_removes_75 : decode cX5_removes 75 = .ok (.iastore, 1) := by decide +kernel
theorem dX5_removes_76 : decode cX5_removes 76 = .ok (.aload_n 0, 1) := by decide +kernel
theorem dX5_removes_77 : decode cX5_removes 77 = .ok (.getfield 38, 3) := by decide +kernel
theorem dX5_removes_80 : decode cX5_removes 80 = .ok (.iload_n 2, 1) := by decide +kernel
theorem dX5_removes_81 : decode cX5_removes 81 = .ok (.aload_n 0, 1) := by decide +kernel
theorem dX5_removes_82 : decode cX5_removes 82 = .ok (.getfield 38, 3) := by decide +kernel
theorem dX5_removes_85 : decode cX5_removes 85 = .ok (.iload_n 2, 1) := by decide +kernel
theorem dX5_removes_86 : decode cX5_removes 86 = .ok (.iconst 1, 1) := by decide +kernel
theorem dX5_removes_87 : decode cX5_removes 87 = .ok (.iadd, 1) := by decide +kernel
theorem dX5_removes_88 : decode cX5_removes 88 = .ok (.iaload, 1) := by decide +kernel
theorem dX5_removes_89 : decode cX5_removes 89 = .ok (.iastore, 1) := by decide +kernel
theorem dX5_removes_90 : decode cX5_removes 90 = .ok (.iinc 2 1, 3) := by decide +kernel
theorem dX5_removes_93 : decode cX5_removes 93 = .ok (.goto (-81), 3) := by decide +kernel
theorem dX5_removes_96 : decode cX5_removes 96 = .ok (.return_, 1) := by decide +kernel
theorem dX5_firstBeast_0 : decode cX5_firstBeast 0 = .ok (.iconst (-1), 1) := by decide +kernel
theorem dX5_firstBeast_1 : decode cX5_firstBeast 1 = .ok (.istore_n 1, 1) := by decide +kernel
theorem dX5_firstBeast_2 : decode cX5_firstBeast 2 = .ok (.aload_n 0, 1) := by decide +kernel
theorem dX5_firstBeast_3 : decode cX5_firstBeast 3 = .ok (.getfield 66, 3) := by decide +kernel
theorem dX5_firstBeast_6 : decode cX5_firstBeast 6 = .ok (.iconst 1, 1) := by decide +kernel
theorem dX5_firstBeast_7 : decode cX5_firstBeast 7 = .ok (.isub, 1) := by decide +kernel
theorem dX5_firstBeast_8 : decode cX5_firstBeast 8 = .ok (.istore_n 2, 1) := by decide +kernel
theorem dX5_firstBeast_9 : decode cX5_firstBeast 9 = .ok (.iload_n 2, 1) := by decide +kernel
theorem dX5_firstBeast_10 : decode cX5_firstBeast 10 = .ok (.ifCond .lt 24, 3) := by decide +kernel
theorem dX5_firstBeast_13 : decode cX5_firstBeast 13 = .ok (.aload_n 0, 1) := by decide +kernel
theorem dX5_firstBeast_14 : decode cX5_firstBeast 14 = .ok (.getfield 13, 3) := by decide +kernel
theorem dX5_firstBeast_17 : decode cX5_firstBeast 17 = .ok (.iload_n 2, 1) := by decide +kernel
theorem dX5_firstBeast_18 : decode cX5_firstBeast 18 = .ok (.iaload, 1) := by decide +kernel
theorem dX5_firstBeast_19 : decode cX5_firstBeast 19 = .ok (.ifCond .ne 7, 3) := by decide +kernel
theorem dX5_firstBeast_22 : decode cX5_firstBeast 22 = .ok (.iload_n 2, 1) := by decide +kernel
theorem dX5_firstBeast_23 : decode cX5_firstBeast 23 = .ok (.goto 4, 3) := by decide +kernel
theorem dX5_firstBeast_26 : decode cX5_firstBeast 26 = .ok (.iload_n 1, 1) := by decide +kernel
theorem dX5_firstBeast_27 : decode cX5_firstBeast 27 = .ok (.istore_n 1, 1) := by decide +kernel
theorem dX5_firstBeast_28 : decode cX5_firstBeast 28 = .ok (.iinc 2 (-1), 3) := by decide +kernel
theorem dX5_firstBeast_31 : decode cX5_firstBeast 31 = .ok (.goto (-22), 3) := by decide +kernel
theorem dX5_firstBeast_34 : decode cX5_firstBeast 34 = .ok (.iload_n 1, 1) := by decide +kernel
theorem dX5_firstBeast_35 : decode cX5_firstBeast 35 = .ok (.ireturn, 1) := by decide +kernel
set_option maxRecDepth 20000 in
theorem ggX5_trigger_X5_enters : GoodIn wsX5_trigger wsX5_enters := goodIn_r _ [6, 7, 8, 9, 10, 11, 12, 13, 14, 15, 5, 16, 17, 18, 19, 20, 21, 22, 23, 24, 25, 26, 27, 28, 29, 30, 31, 32, 33, 34, 35, 36, 37, 38, 39, 40, 41, 42, 43, 44, 53, 54, 55, 56, 57, 58, 59, 60, 61, 62, 63, 64, 65, 66, 67, 68, 69, 70, 71, 72, 73, 74, 75, 76, 77, 78, 79] (by decide +kernel) (by decide +kernel)
set_option maxRecDepth 20000 in
theorem gX5_trigger_X5_enters : GoodIn wsX5_trigger (wsV RX5 106 RX5 yX5_enters wsX5_enters) := goodIn_app (goodIn_of _ (by decide +kernel)) ggX5_trigger_X5_enters
set_option maxRecDepth 20000 in
theorem ggX5_trigger_X5_firstBeast : GoodIn wsX5_trigger wsX5_firstBeast := goodIn_r _ [48, 7, 8, 53, 54, 55, 56, 57, 58, 59, 60, 61, 62, 63, 64, 65, 66, 67, 68, 69, 70, 71, 72, 73, 74, 75, 76, 77, 78, 79] (by decide +kernel) (by decide +kernel)
set_option maxRecDepth 20000 in
theorem gX5_trigger_X5_firstBeast : GoodIn wsX5_trigger (wsV RX5 109 RX5 yX5_firstBeast wsX5_firstBeast) := goodIn_app (goodIn_of _ (by decide +kernel)) ggX5_trigger_X5_firstBeast
set_option maxRecDepth 20000 in
theorem ggX5_trigger_X5_leaves : GoodIn wsX5_trigger wsX5_leaves := goodIn_r _ [52, 7, 8, 9, 11, 12, 13, 14, 15, 5, 16, 17, 18, 19, 20, 21, 22, 23, 24, 25, 26, 27, 28, 29, 30, 31, 32, 33, 34, 35, 36, 37, 38, 39, 40, 41, 42, 10, 43, 44, 53, 54, 55, 56, 57, 58, 59, 60, 61, 62, 63, 64, 65, 66, 67, 68, 69, 70, 71, 72, 73, 74, 75, 76, 77, 78, 79] (by decide +kernel) (by decide +kernel)
set_option maxRecDepth 20000 in
theorem gX5_trigger_X5_leaves : GoodIn wsX5_trigger (wsV RX5 113 RX5 yX5_leaves wsX5_leaves) := goodIn_app (goodIn_of _ (by decide +kernel)) ggX5_trigger_X5_leaves
theorem dX5_trigger_0 : decode cX5_trigger 0 = .ok (.iload_n 1, 1) := by decide +kernel
theorem dX5_trigger_1 : decode cX5_trigger 1 = .ok (.iconst 1, 1) := by decide +kernel
theorem dX5_trigger_2 : decode cX5_trigger 2 = .ok (.if_icmp .eq 9, 3) := by decide +kernel
theorem dX5_trigger_5 : decode cX5_trigger 5 = .ok (.iload_n 1, 1) := by decide +kernel
theorem dX5_trigger_6 : decode cX5_trigger 6 = .ok (.bipush 9, 2) := by decide +kernel
theorem dX5_trigger_8 : decode cX5_trigger 8 = .ok (.if_icmp .ne 25, 3) := by decide +kernel
theorem dX5_trigger_11 : decode cX5_trigger 11 = .ok (.aload_n 0, 1) := by decide +kernel
theorem dX5_trigger_12 : decode cX5_trigger 12 = .ok (.getfield 7, 3) := by decide +kernel
theorem dX5_trigger_15 : decode cX5_trigger 15 = .ok (.iload_n 2, 1) := by decide +kernel
theorem dX5_trigger_16 : decode cX5_trigger 16 = .ok (.dup2, 1) := by decide +kernel
theorem dX5_trigger_17 : decode cX5_trigger 17 = .ok (.iaload, 1) := by decide +kernel
theorem dX5_trigger_18 : decode cX5_trigger 18 = .ok (.iload_n 1, 1) := by decide +kernel
theorem dX5_trigger_19 : decode cX5_trigger 19 = .ok (.iconst 1, 1) := by decide +kernel
theorem dX5_trigger_20 : decode cX5_trigger 20 = .ok (.if_icmp .ne 7, 3) := by decide +kernel
theorem dX5_trigger_23 : decode cX5_trigger 23 = .ok (.iconst 2, 1) := by decide +kernel
theorem dX5_trigger_24 : decode cX5_trigger 24 = .ok (.goto 4, 3) := by decide +kernel
theorem dX5_trigger_27 : decode cX5_trigger 27 = .ok (.iconst 1, 1) := by decide +kernel
theorem dX5_trigger_28 : decode cX5_trigger 28 = .ok (.iadd, 1) := by decide +kernel
theorem dX5_trigger_29 : decode cX5_trigger 29 = .ok (.iastore, 1) := by decide +kernel
theorem dX5_trigger_30 : decode cX5_trigger 30 = .ok (.goto 34, 3) := by decide +kernel
theorem dX5_trigger_33 : decode cX5_trigger 33 = .ok (.iload_n 1, 1) := by decide +kernel
theorem dX5_trigger_34 : decode cX5_trigger 34 = .ok (.bipush 10, 2) := by decide +kernel
theorem dX5_trigger_36 : decode cX5_trigger 36 = .ok (.if_icmp .ne 13, 3) := by decide +kernel
theorem dX5_trigger_39 : decode cX5_trigger 39 = .ok (.aload_n 0, 1) := by decide +kernel
theorem dX5_trigger_40 : decode cX5_trigger 40 = .ok (.iconst 0, 1) := by decide +kernel
theorem dX5_trigger_41 : decode cX5_trigger 41 = .ok (.iload_n 2, 1) := by decide +kernel
theorem dX5_trigger_42 : decode cX5_trigger 42 = .ok (.iconst 0, 1) := by decide +kernel
theorem dX5_trigger_43 : decode cX5_trigger 43 = .ok (.invokevirtual 106, 3) := by decide +kernel
theorem dX5_trigger_46 : decode cX5_trigger 46 = .ok (.goto 18, 3) := by decide +kernel
theorem dX5_trigger_49 : decode cX5_trigger 49 = .ok (.aload_n 0, 1) := by decide +kernel
theorem dX5_trigger_50 : decode cX5_trigger 50 = .ok (.invokevirtual 109, 3) := by decide +kernel
theorem dX5_trigger_53 : decode cX5_trigger 53 = .ok (.ifCond .lt 11, 3) := by decide +kernel
theorem dX5_trigger_56 : decode cX5_trigger 56 = .ok (.aload_n 0, 1) := by decide +kernel
theorem dX5_trigger_57 : decode cX5_trigger 57 = .ok (.aload_n 0, 1) := by decide +kernel
theorem dX5_trigger_58 : decode cX5_trigger 58 = .ok (.invokevirtual 109, 3) := by decide +kernel
theorem dX5_trigger_61 : decode cX5_trigger 61 = .ok (.invokevirtual 113, 3) := by decide +kernel
theorem dX5_trigger_64 : decode cX5_trigger 64 = .ok (.return_, 1) := by decide +kernel
set_option maxRecDepth 20000 in
theorem ggX5_strikes_X5_thingOf : GoodIn wsX5_strikes wsX5_thingOf := goodIn_r _ [6, 7, 8, 44, 45, 46, 47, 48, 49, 50, 51, 52, 53, 54, 55, 56, 57, 58, 59, 60, 61, 62, 63, 64, 65, 66, 67, 68, 69, 70] (by decide +kernel) (by decide +kernel)
set_option maxRecDepth 20000 in
theorem gX5_strikes_X5_thingOf : GoodIn wsX5_strikes (wsV RX5 72 RX5 yX5_thingOf wsX5_thingOf) := goodIn_app (goodIn_of _ (by decide +kernel)) ggX5_strikes_X5_thingOf
set_option maxRecDepth 20000 in
theorem ggX5_strikes_X5_lays : GoodIn wsX5_strikes wsX5_lays := goodIn_r _ [12, 7, 13, 14, 15, 16, 1, 17, 18, 19, 20, 21, 5, 22, 23, 2, 3, 4, 6, 8, 44, 45, 46, 47, 48, 49, 50, 51, 52, 53, 54, 55, 56, 57, 58, 59, 60, 61, 62, 63, 64, 65, 66, 67, 68, 69, 70] (by decide +kernel) (by decide +kernel)
set_option maxRecDepth 20000 in
theorem gX5_strikes_X5_lays : GoodIn wsX5_strikes (wsV RX5 83 RX5 yX5_lays wsX5_lays) := goodIn_app (goodIn_of _ (by decide +kernel)) ggX5_strikes_X5_lays
set_option maxRecDepth 20000 in
theorem ggX5_strikes_X5_leaves : GoodIn wsX5_strikes wsX5_leaves := goodIn_r _ [27, 7, 16, 14, 8, 23, 28, 29, 30, 5, 31, 32, 13, 9, 10, 11, 12, 15, 1, 17, 18, 19, 20, 21, 22, 2, 3, 4, 6, 33, 34, 35, 36, 37, 38, 39, 40, 41, 42, 43, 44, 45, 46, 47, 48, 49, 50, 51, 52, 53, 54, 55, 56, 57, 58, 59, 60, 61, 62, 63, 64, 65, 66, 67, 68, 69, 70] (by decide +kernel) (by decide +kernel)
set_option maxRecDepth 20000 in
theorem gX5_strikes_X5_leaves : GoodIn wsX5_strikes (wsV RX5 113 RX5 yX5_leaves wsX5_leaves) := goodIn_app (goodIn_of _ (by decide +kernel)) ggX5_strikes_X5_leaves
theorem dX5_strikes_0 : decode cX5_strikes 0 = .ok (.aload_n 0, 1) := by decide +kernel
theorem dX5_strikes_1 : decode cX5_strikes 1 = .ok (.iload_n 1, 1) := by decide +kernel
theorem dX5_strikes_2 : decode cX5_strikes 2 = .ok (.invokevirtual 72, 3) := by decide +kernel
theorem dX5_strikes_5 : decode cX5_strikes 5 = .ok (.istore_n 2, 1) := by decide +kernel
theorem dX5_strikes_6 : decode cX5_strikes 6 = .ok (.aload_n 0, 1) := by decide +kernel
theorem dX5_strikes_7 : decode cX5_strikes 7 = .ok (.iconst 5, 1) := by decide +kernel
theorem dX5_strikes_8 : decode cX5_strikes 8 = .ok (.invokevirtual 83, 3) := by decide +kernel
theorem dX5_strikes_11 : decode cX5_strikes 11 = .ok (.iload_n 2, 1) := by decide +kernel
theorem dX5_strikes_12 : decode cX5_strikes 12 = .ok (.ifCond .lt 18, 3) := by decide +kernel
theorem dX5_strikes_15 : decode cX5_strikes 15 = .ok (.aload_n 0, 1) := by decide +kernel
theorem dX5_strikes_16 : decode cX5_strikes 16 = .ok (.getfield 47, 3) := by decide +kernel
theorem dX5_strikes_19 : decode cX5_strikes 19 = .ok (.iload_n 2, 1) := by decide +kernel
theorem dX5_strikes_20 : decode cX5_strikes 20 = .ok (.iaload, 1) := by decide +kernel
theorem dX5_strikes_21 : decode cX5_strikes 21 = .ok (.iconst 4, 1) := by decide +kernel
theorem dX5_strikes_22 : decode cX5_strikes 22 = .ok (.if_icmp .gt 8, 3) := by decide +kernel
theorem dX5_strikes_25 : decode cX5_strikes 25 = .ok (.aload_n 0, 1) := by decide +kernel
theorem dX5_strikes_26 : decode cX5_strikes 26 = .ok (.iload_n 2, 1) := by decide +kernel
theorem dX5_strikes_27 : decode cX5_strikes 27 = .ok (.invokevirtual 113, 3) := by decide +kernel
theorem dX5_strikes_30 : decode cX5_strikes 30 = .ok (.return_, 1) := by decide +kernel
set_option maxRecDepth 20000 in
theorem ggX5_targetOf_X5_thingOf : GoodIn wsX5_targetOf wsX5_thingOf := goodIn_r _ [8, 9, 10, 17, 18, 19, 20, 21, 22, 23, 24, 25, 26, 27, 28, 29, 30, 31, 32, 33, 34, 35, 36, 37, 38, 39, 40, 41, 42, 43] (by decide +kernel) (by decide +kernel)
set_option maxRecDepth 20000 in
theorem gX5_targetOf_X5_thingOf : GoodIn wsX5_targetOf (wsV RX5 72 RX5 yX5_thingOf wsX5_thingOf) := goodIn_app (goodIn_of _ (by decide +kernel)) ggX5_targetOf_X5_thingOf
set_option maxRecDepth 20000 in
theorem ggX5_targetOf_X5_entryOf : GoodIn wsX5_targetOf wsX5_entryOf := goodIn_r _ [14, 15, 16, 17, 18, 19, 20, 21, 22, 23, 24, 25, 26, 27, 28, 29, 30, 31, 32, 33, 34, 35, 36, 37, 38, 39, 40, 41, 42, 43] (by decide +kernel) (by decide +kernel)
set_option maxRecDepth 20000 in
theorem gX5_targetOf_X5_entryOf : GoodIn wsX5_targetOf (wsV RX5 116 RX5 yX5_entryOf wsX5_entryOf) := goodIn_app (goodIn_of _ (by decide +kernel)) ggX5_targetOf_X5_entryOf
theorem dX5_targetOf_0 : decode cX5_targetOf 0 = .ok (.aload_n 0, 1) := by decide +kernel
theorem dX5_targetOf_1 : decode cX5_targetOf 1 = .ok (.getfield 25, 3) := by decide +kernel
theorem dX5_targetOf_4 : decode cX5_targetOf 4 = .ok (.iload_n 1, 1) := by decide +kernel
theorem dX5_targetOf_5 : decode cX5_targetOf 5 = .ok (.iaload, 1) := by decide +kernel
theorem dX5_targetOf_6 : decode cX5_targetOf 6 = .ok (.istore_n 2, 1) := by decide +kernel
theorem dX5_targetOf_7 : decode cX5_targetOf 7 = .ok (.aload_n 0, 1) := by decide +kernel
theorem dX5_targetOf_8 : decode cX5_targetOf 8 = .ok (.getfield 28, 3) := by decide +kernel
theorem dX5_targetOf_11 : decode cX5_targetOf 11 = .ok (.iload_n 1, 1) := by decide +kernel
theorem dX5_targetOf_12 : decode cX5_targetOf 12 = .ok (.baload, 1) := by decide +kernel
theorem dX5_targetOf_13 : decode cX5_targetOf 13 = .ok (.ifCond .eq 7, 3) := by decide +kernel
theorem dX5_targetOf_16 : decode cX5_targetOf 16 = .ok (.iconst (-1), 1) := by decide +kernel
theorem dX5_targetOf_17 : decode cX5_targetOf 17 = .ok (.goto 48, 3) := by decide +kernel
theorem dX5_targetOf_20 : decode cX5_targetOf 20 = .ok (.iload_n 2, 1) := by decide +kernel
theorem dX5_targetOf_21 : decode cX5_targetOf 21 = .ok (.bipush 7, 2) := by decide +kernel
theorem dX5_targetOf_23 : decode cX5_targetOf 23 = .ok (.if_icmp .eq 9, 3) := by decide +kernel
theorem dX5_targetOf_26 : decode cX5_targetOf 26 = .ok (.iload_n 2, 1) := by decide +kernel
theorem dX5_targetOf_27 : decode cX5_targetOf 27 = .ok (.bipush 12, 2) := by decide +kernel
theorem dX5_targetOf_29 : decode cX5_targetOf 29 = .ok (.if_icmp .ne 16, 3) := by decide +kernel
theorem dX5_targetOf_32 : decode cX5_targetOf 32 = .ok (.aload_n 0, 1) := by decide +kernel
theorem dX5_targetOf_33 : decode cX5_targetOf 33 = .ok (.aload_n 0, 1) := by decide +kernel
theorem dX5_targetOf_34 : decode cX5_targetOf 34 = .ok (.getfield 38, 3) := by decide +kernel
theorem dX5_targetOf_37 : decode cX5_targetOf 37 = .ok (.iload_n 1, 1) := by decide +kernel
theorem dX5_targetOf_38 : decode cX5_targetOf 38 = .ok (.iaload, 1) := by decide +kernel
theorem dX5_targetOf_39 : decode cX5_targetOf 39 = .ok (.invokevirtual 72, 3) := by decide +kernel
theorem dX5_targetOf_42 : decode cX5_targetOf 42 = .ok (.goto 23, 3) := by decide +kernel
theorem dX5_targetOf_45 : decode cX5_targetOf 45 = .ok (.iload_n 2, 1) := by decide +kernel
theorem dX5_targetOf_46 : decode cX5_targetOf 46 = .ok (.bipush 13, 2) := by decide +kernel
theorem dX5_targetOf_48 : decode cX5_targetOf 48 = .ok (.if_icmp .ne 16, 3) := by decide +kernel
theorem dX5_targetOf_51 : decode cX5_targetOf 51 = .ok (.aload_n 0, 1) := by decide +kernel
theorem dX5_targetOf_52 : decode cX5_targetOf 52 = .ok (.aload_n 0, 1) := by decide +kernel
theorem dX5_targetOf_53 : decode cX5_targetOf 53 = .ok (.getfield 38, 3) := by decide +kernel
theorem dX5_targetOf_56 : decode cX5_targetOf 56 = .ok (.iload_n 1, 1) := by decide +kernel
theorem dX5_targetOf_57 : decode cX5_targetOf 57 = .ok (.iaload, 1) := by decide +kernel
theorem dX5_targetOf_58 : decode cX5_targetOf 58 = .ok (.invokevirtual 116, 3) := by decide +kernel
theorem dX5_targetOf_61 : decode cX5_targetOf 61 = .ok (.goto 4, 3) := by decide +kernel
theorem dX5_targetOf_64 : decode cX5_targetOf 64 = .ok (.iconst (-1), 1) := by decide +kernel
theorem dX5_targetOf_65 : decode cX5_targetOf 65 = .ok (.ireturn, 1) := by decide +kernel
set_option maxRecDepth 20000 in
theorem ggX5_laysState_X5_thingOf : GoodIn wsX5_laysState wsX5_thingOf := goodIn_r _ [14, 2, 15, 26, 27, 28, 29, 30, 31, 32, 33, 34, 35, 36, 37, 38, 39, 40, 41, 42, 43, 44, 45, 46, 47, 48, 49, 50, 51, 52] (by decide +kernel) (by decide +kernel)
set_option maxRecDepth 20000 in
theorem gX5_laysState_X5_thingOf : GoodIn wsX5_laysState (wsV RX5 72 RX5 yX5_thingOf wsX5_thingOf) := goodIn_app (goodIn_of _ (by decide +kernel)) ggX5_laysState_X5_thingOf
set_option maxRecDepth 20000 in
theorem ggX5_laysState_X5_targetOf : GoodIn wsX5_laysState wsX5_targetOf := goodIn_r _ [19, 7, 8, 20, 10, 11, 12, 13, 14, 2, 15, 21, 22, 23, 24, 3, 25, 26, 27, 28, 29, 30, 31, 32, 33, 34, 35, 36, 37, 38, 39, 40, 41, 42, 43, 44, 45, 46, 47, 48, 49, 50, 51, 52] (by decide +kernel) (by decide +kernel)
set_option maxRecDepth 20000 in
theorem gX5_laysState_X5_targetOf : GoodIn wsX5_laysState (wsV RX5 119 RX5 yX5_targetOf wsX5_targetOf) := goodIn_app (goodIn_of _ (by decide +kernel)) ggX5_laysState_X5_targetOf
theorem dX5_laysState_0 : decode cX5_laysState 0 = .ok (.iconst 0, 1) := by decide +kernel
theorem dX5_laysState_1 : decode cX5_laysState 1 = .ok (.istore_n 1, 1) := by decide +kernel
theorem dX5_laysState_2 : decode cX5_laysState 2 = .ok (.iload_n 1, 1) := by decide +kernel
theorem dX5_laysState_3 : decode cX5_laysState 3 = .ok (.bipush 24, 2) := by decide +kernel
theorem dX5_laysState_5 : decode cX5_laysState 5 = .ok (.if_icmp .ge 16, 3) := by decide +kernel
theorem dX5_laysState_8 : decode cX5_laysState 8 = .ok (.aload_n 0, 1) := by decide +kernel
theorem dX5_laysState_9 : decode cX5_laysState 9 = .ok (.getfield 59, 3) := by decide +kernel
theorem dX5_laysState_12 : decode cX5_laysState 12 = .ok (.iload_n 1, 1) := by decide +kernel
theorem dX5_laysState_13 : decode cX5_laysState 13 = .ok (.iconst 0, 1) := by decide +kernel
theorem dX5_laysState_14 : decode cX5_laysState 14 = .ok (.iastore, 1) := by decide +kernel
theorem dX5_laysState_15 : decode cX5_laysState 15 = .ok (.iinc 1 1, 3) := by decide +kernel
theorem dX5_laysState_18 : decode cX5_laysState 18 = .ok (.goto (-16), 3) := by decide +kernel
theorem dX5_laysState_21 : decode cX5_laysState 21 = .ok (.aload_n 0, 1) := by decide +kernel
theorem dX5_laysState_22 : decode cX5_laysState 22 = .ok (.getfield 59, 3) := by decide +kernel
theorem dX5_laysState_25 : decode cX5_laysState 25 = .ok (.iconst 0, 1) := by decide +kernel
theorem dX5_laysState_26 : decode cX5_laysState 26 = .ok (.aload_n 0, 1) := by decide +kernel
theorem dX5_laysState_27 : decode cX5_laysState 27 = .ok (.getfield 66, 3) := by decide +kernel
theorem dX5_laysState_30 : decode cX5_laysState 30 = .ok (.iastore, 1) := by decide +kernel
theorem dX5_laysState_31 : decode cX5_laysState 31 = .ok (.aload_n 0, 1) := by decide +kernel
theorem dX5_laysState_32 : decode cX5_laysState 32 = .ok (.getfield 59, 3) := by decide +kernel
theorem dX5_laysState_35 : decode cX5_laysState 35 = .ok (.iconst 1, 1) := by decide +kernel
theorem dX5_laysState_36 : decode cX5_laysState 36 = .ok (.aload_n 0, 1) := by decide +kernel
theorem dX5_laysState_37 : decode cX5_laysState 37 = .ok (.getfield 69, 3) := by decide +kernel
theorem dX5_laysState_40 : decode cX5_laysState 40 = .ok (.iastore, 1) := by decide +kernel
theorem dX5_laysState_41 : decode cX5_laysState 41 = .ok (.iconst 0, 1) := by decide +kernel
theorem dX5_laysState_42 : decode cX5_laysState 42 = .ok (.istore_n 1, 1) := by decide +kernel
theorem dX5_laysState_43 : decode cX5_laysState 43 = .ok (.iload_n 1, 1) := by decide +kernel
theorem dX5_laysState_44 : decode cX5_laysState 44 = .ok (.aload_n 0, 1) := by decide +kernel
theorem dX5_laysState_45 : decode cX5_laysState 45 = .ok (.getfield 66, 3) := by decide +kernel
theorem dX5_laysState_48 : decode cX5_laysState 48 = .ok (.if_icmp .ge 66, 3) := by decide +kernel
theorem dX5_laysState_51 : decode cX5_laysState 51 = .ok (.aload_n 0, 1) := by decide +kernel
theorem dX5_laysState_52 : decode cX5_laysState 52 = .ok (.getfield 13, 3) := by decide +kernel
theorem dX5_laysState_55 : decode cX5_laysState 55 = .ok (.iload_n 1, 1) := by decide +kernel
theorem dX5_laysState_56 : decode cX5_laysState 56 = .ok (.iaload, 1) := by decide +kernel
theorem dX5_laysState_57 : decode cX5_laysState 57 = .ok (.bipush 7, 2) := by decide +kernel
theorem dX5_laysState_59 : decode cX5_laysState 59 = .ok (.if_icmp .ne 16, 3) := by decide +kernel
theorem dX5_laysState_62 : decode cX5_laysState 62 = .ok (.aload_n 0, 1) := by decide +kernel
theorem dX5_laysState_63 : decode cX5_laysState 63 = .ok (.aload_n 0, 1) := by decide +kernel
theorem dX5_laysState_64 : decode cX5_laysState 64 = .ok (.getfield 22, 3) := by decide +kernel
theorem dX5_laysState_67 : decode cX5_laysState 67 = .ok (.iload_n 1, 1) := by decide +kernel
theorem dX5_laysState_68 : decode cX5_laysState 68 = .ok (.iaload, 1) := by decide +kernel
theorem dX5_laysState_69 : decode cX5_laysState 69 = .ok (.invokevirtual 72, 3) := by decide +kernel
theorem dX5_laysState_72 : decode cX5_laysState 72 = .ok (.goto 4, 3) := by decide +kernel
theorem dX5_laysState_75 : decode cX5_laysState 75 = .ok (.iconst (-1), 1) := by decide +kernel
theorem dX5_laysState_76 : decode cX5_laysState 76 = .ok (.istore_n 2, 1) := by decide +kernel
theorem dX5_laysState_77 : decode cX5_laysState 77 = .ok (.aload_n 0, 1) := by decide +kernel
theorem dX5_laysState_78 : decode cX5_laysState 78 = .ok (.getfield 59, 3) := by decide +kernel
theorem dX5_laysState_81 : decode cX5_laysState 81 = .ok (.iconst 2, 1) := by decide +kernel
theorem dX5_laysState_82 : decode cX5_laysState 82 = .ok (.iload_n 1, 1) := by decide +kernel
theorem dX5_laysState_83 : decode cX5_laysState 83 = .ok (.iadd, 1) := by decide +kernel
theorem dX5_laysState_84 : decode cX5_laysState 84 = .ok (.bipush 100, 2) := by decide +kernel
theorem dX5_laysState_86 : decode cX5_laysState 86 = .ok (.aload_n 0, 1) := by decide +kernel
theorem dX5_laysState_87 : decode cX5_laysState 87 = .ok (.getfield 13, 3) := by decide +kernel
theorem dX5_laysState_90 : decode cX5_laysState 90 = .ok (.iload_n 1, 1) := by decide +kernel
theorem dX5_laysState_91 : decode cX5_laysState 91 = .ok (.iaload, 1) := by decide +kernel
theorem dX5_laysState_92 : decode cX5_laysState 92 = .ok (.imul, 1) := by decide +kernel
theorem dX5_laysState_93 : decode cX5_laysState 93 = .ok (.bipush 20, 2) := by decide +kernel
theorem dX5_laysState_95 : decode cX5_laysState 95 = .ok (.aload_n 0, 1) := by decide +kernel
theorem dX5_laysState_96 : decode cX5_laysState 96 = .ok (.getfield 16, 3) := by decide +kernel
theorem dX5_laysState_99 : decode cX5_laysState 99 = .ok (.iload_n 1, 1) := by decide +kernel
theorem dX5_laysState_100 : decode cX5_laysState 100 = .ok (.iaload, 1) := by decide +kernel
theorem dX5_laysState_101 : decode cX5_laysState 101 = .ok (.imul, 1) := by decide +kernel
theorem dX5_laysState_102 : decode cX5_laysState 102 = .ok (.iadd, 1) := by decide +kernel
theorem dX5_laysState_103 : decode cX5_laysState 103 = .ok (.iload_n 2, 1) := by decide +kernel
theorem dX5_laysState_104 : decode cX5_laysState 104 = .ok (.iadd, 1) := by decide +kernel
theorem dX5_laysState_105 : decode cX5_laysState 105 = .ok (.iconst 1, 1) := by decide +kernel
theorem dX5_laysState_106 : decode cX5_laysState 106 = .ok (.iadd, 1) := by decide +kernel
theorem dX5_laysState_107 : decode cX5_laysState 107 = .ok (.iastore, 1) := by decide +kernel
theorem dX5_laysState_108 : decode cX5_laysState 108 = .ok (.iinc 1 1, 3) := by decide +kernel
theorem dX5_laysState_111 : decode cX5_laysState 111 = .ok (.goto (-68), 3) := by decide +kernel
theorem dX5_laysState_114 : decode cX5_laysState 114 = .ok (.iconst 0, 1) := by decide +kernel
theorem dX5_laysState_115 : decode cX5_laysState 115 = .ok (.istore_n 1, 1) := by decide +kernel
theorem dX5_laysState_116 : decode cX5_laysState 116 = .ok (.iload_n 1, 1) := by decide +kernel
theorem dX5_laysState_117 : decode cX5_laysState 117 = .ok (.aload_n 0, 1) := by decide +kernel
theorem dX5_laysState_118 : decode cX5_laysState 118 = .ok (.getfield 69, 3) := by decide +kernel
theorem dX5_laysState_121 : decode cX5_laysState 121 = .ok (.if_icmp .ge 63, 3) := by decide +kernel
theorem dX5_laysState_124 : decode cX5_laysState 124 = .ok (.aload_n 0, 1) := by decide +kernel
theorem dX5_laysState_125 : decode cX5_laysState 125 = .ok (.getfield 59, 3) := by decide +kernel
theorem dX5_laysState_128 : decode cX5_laysState 128 = .ok (.bipush 12, 2) := by decide +kernel
theorem dX5_laysState_130 : decode cX5_laysState 130 = .ok (.iload_n 1, 1) := by decide +kernel
theorem dX5_laysState_131 : decode cX5_laysState 131 = .ok (.iadd, 1) := by decide +kernel
theorem dX5_laysState_132 : decode cX5_laysState 132 = .ok (.sipush 1000, 3) := by decide +kernel
theorem dX5_laysState_135 : decode cX5_laysState 135 = .ok (.aload_n 0, 1) := by decide +kernel
theorem dX5_laysState_136 : decode cX5_laysState 136 = .ok (.getfield 25, 3) := by decide +kernel
theorem dX5_laysState_139 : decode cX5_laysState 139 = .ok (.iload_n 1, 1) := by decide +kernel
theorem dX5_laysState_140 : decode cX5_laysState 140 = .ok (.iaload, 1) := by decide +kernel
theorem dX5_laysState_141 : decode cX5_laysState 141 = .ok (.imul, 1) := by decide +kernel
theorem dX5_laysState_142 : decode cX5_laysState 142 = .ok (.aload_n 0, 1) := by decide +kernel
theorem dX5_laysState_143 : decode cX5_laysState 143 = .ok (.getfield 28, 3) := by decide +kernel
theorem dX5_laysState_146 : decode cX5_laysState 146 = .ok (.iload_n 1, 1) := by decide +kernel
theorem dX5_laysState_147 : decode cX5_laysState 147 = .ok (.baload, 1) := by decide +kernel
theorem dX5_laysState_148 : decode cX5_laysState 148 = .ok (.ifCond .eq 9, 3) := by decide +kernel
theorem dX5_laysState_151 : decode cX5_laysState 151 = .ok (.sipush 500, 3) := by decide +kernel
theorem dX5_laysState_154 : decode cX5_laysState 154 = .ok (.goto 4, 3) := by decide +kernel
theorem dX5_laysState_157 : decode cX5_laysState 157 = .ok (.iconst 0, 1) := by decide +kernel
theorem dX5_laysState_158 : decode cX5_laysState 158 = .ok (.iadd, 1) := by decide +kernel
theorem dX5_laysState_159 : decode cX5_laysState 159 = .ok (.bipush 20, 2) := by decide +kernel
theorem dX5_laysState_161 : decode cX5_laysState 161 = .ok (.aload_n 0, 1) := by decide +kernel
theorem dX5_laysState_162 : decode cX5_laysState 162 = .ok (.getfield 32, 3) := by decide +kernel
theorem dX5_laysState_165 : decode cX5_laysState 165 = .ok (.iload_n 1, 1) := by decide +kernel
theorem dX5_laysState_166 : decode cX5_laysState 166 = .ok (.iaload, 1) := by decide +kernel
theorem dX5_laysState_167 : decode cX5_laysState 167 = .ok (.imul, 1) := by decide +kernel
theorem dX5_laysState_168 : decode cX5_laysState 168 = .ok (.iadd, 1) := by decide +kernel
theorem dX5_laysState_169 : decode cX5_laysState 169 = .ok (.aload_n 0, 1) := by decide +kernel
theorem dX5_laysState_170 : decode cX5_laysState 170 = .ok (.iload_n 1, 1) := by decide +kernel
theorem dX5_laysState_171 : decode cX5_laysState 171 = .ok (.invokevirtual 119, 3) := by decide +kernel
theorem dX5_laysState_174 : decode cX5_laysState 174 = .ok (.iadd, 1) := by decide +kernel
theorem dX5_laysState_175 : decode cX5_laysState 175 = .ok (.iconst 1, 1) := by decide +kernel
theorem dX5_laysState_176 : decode cX5_laysState 176 = .ok (.iadd, 1) := by decide +kernel
theorem dX5_laysState_177 : decode cX5_laysState 177 = .ok (.iastore, 1) := by decide +kernel
theorem dX5_laysState_178 : decode cX5_laysState 178 = .ok (.iinc 1 1, 3) := by decide +kernel
theorem dX5_laysState_181 : decode cX5_laysState 181 = .ok (.goto (-65), 3) := by decide +kernel
theorem dX5_laysState_184 : decode cX5_laysState 184 = .ok (.return_, 1) := by decide +kernel
set_option maxRecDepth 20000 in
theorem ggX5_remembers_X5_laysState : GoodIn wsX5_remembers wsX5_laysState := goodIn_r _ [10, 3, 11, 5, 12, 13, 14, 15, 16, 17, 18, 19, 20, 9, 21, 22, 23, 24, 25, 26, 27, 28, 29, 30, 31, 32, 33, 34, 35, 36, 37, 38, 39, 40, 41, 42, 43, 44, 45, 46, 47, 48, 49, 50, 51, 52, 53, 54, 55, 56, 57, 58, 59] (by decide +kernel) (by decide +kernel)
set_option maxRecDepth 20000 in
theorem gX5_remembers_X5_laysState : GoodIn wsX5_remembers (wsV RX5 122 RX5 yX5_laysState wsX5_laysState) := goodIn_app (goodIn_of _ (by decide +kernel)) ggX5_remembers_X5_laysState
theorem dX5_remembers_0 : decode cX5_remembers 0 = .ok (.aload_n 0, 1) := by decide +kernel
theorem dX5_remembers_1 : decode cX5_remembers 1 = .ok (.invokevirtual 122, 3) := by decide +kernel
theorem dX5_remembers_4 : decode cX5_remembers 4 = .ok (.iconst 0, 1) := by decide +kernel
theorem dX5_remembers_5 : decode cX5_remembers 5 = .ok (.istore_n 1, 1) := by decide +kernel
theorem dX5_remembers_6 : decode cX5_remembers 6 = .ok (.iconst 0, 1) := by decide +kernel
theorem dX5_remembers_7 : decode cX5_remembers 7 = .ok (.istore_n 2, 1) := by decide +kernel
theorem dX5_remembers_8 : decode cX5_remembers 8 = .ok (.iload_n 2, 1) := by decide +kernel
theorem dX5_remembers_9 : decode cX5_remembers 9 = .ok (.aload_n 0, 1) := by decide +kernel
theorem dX5_remembers_10 : decode cX5_remembers 10 = .ok (.getfield 103, 3) := by decide +kernel
theorem dX5_remembers_13 : decode cX5_remembers 13 = .ok (.if_icmp .ge 61, 3) := by decide +kernel
theorem dX5_remembers_16 : decode cX5_remembers 16 = .ok (.iconst 1, 1) := by decide +kernel
theorem dX5_remembers_17 : decode cX5_remembers 17 = .ok (.istore_n 3, 1) := by decide +kernel
theorem dX5_remembers_18 : decode cX5_remembers 18 = .ok (.iconst 0, 1) := by decide +kernel
theorem dX5_remembers_19 : decode cX5_remembers 19 = .ok (.istore 4, 2) := by decide +kernel
theorem dX5_remembers_21 : decode cX5_remembers 21 = .ok (.iload 4, 2) := by decide +kernel
theorem dX5_remembers_23 : decode cX5_remembers 23 = .ok (.bipush 24, 2) := by decide +kernel
theorem dX5_remembers_25 : decode cX5_remembers 25 = .ok (.if_icmp .ge 39, 3) := by decide +kernel
theorem dX5_remembers_28 : decode cX5_remembers 28 = .ok (.iload_n 3, 1) := by decide +kernel
theorem dX5_remembers_29 : decode cX5_remembers 29 = .ok (.aload_n 0, 1) := by decide +kernel
theorem dX5_remembers_30 : decode cX5_remembers 30 = .ok (.getfield 56, 3) := by decide +kernel
theorem dX5_remembers_33 : decode cX5_remembers 33 = .ok (.bipush 24, 2) := by decide +kernel
theorem dX5_remembers_35 : decode cX5_remembers 35 = .ok (.iload_n 2, 1) := by decide +kernel
theorem dX5_remembers_36 : decode cX5_remembers 36 = .ok (.imul, 1) := by decide +kernel
theorem dX5_remembers_37 : decode cX5_remembers 37 = .ok (.iload 4, 2) := by decide +kernel
theorem dX5_remembers_39 : decode cX5_remembers 39 = .ok (.iadd, 1) := by decide +kernel
theorem dX5_remembers_40 : decode cX5_remembers 40 = .ok (.iaload, 1) := by decide +kernel
theorem dX5_remembers_41 : decode cX5_remembers 41 = .ok (.aload_n 0, 1) := by decide +kernel
theorem dX5_remembers_42 : decode cX5_remembers 42 = .ok (.getfield 59, 3) := by decide +kernel
theorem dX5_remembers_45 : decode cX5_remembers 45 = .ok (.iload 4, 2) := by decide +kernel
theorem dX5_remembers_47 : decode cX5_remembers 47 = .ok (.iaload, 1) := by decide +kernel
theorem dX5_remembers_48 : decode cX5_remembers 48 = .ok (.if_icmp .ne 7, 3) := by decide +kernel
theorem dX5_remembers_51 : decode cX5_remembers 51 = .ok (.iconst 1, 1) := by decide +kernel
theorem dX5_remembers_52 : decode cX5_remembers 52 = .ok (.goto 4, 3) := by decide +kernel
theorem dX5_remembers_55 : decode cX5_remembers 55 = .ok (.iconst 0, 1) := by decide +kernel
theorem dX5_remembers_56 : decode cX5_remembers 56 = .ok (.iand, 1) := by decide +kernel
theorem dX5_remembers_57 : decode cX5_remembers 57 = .ok (.istore_n 3, 1) := by decide +kernel
theorem dX5_remembers_58 : decode cX5_remembers 58 = .ok (.iinc 4 1, 3) := by decide +kernel
theorem dX5_remembers_61 : decode cX5_remembers 61 = .ok (.goto (-40), 3) := by decide +kernel
theorem dX5_remembers_64 : decode cX5_remembers 64 = .ok (.iload_n 1, 1) := by decide +kernel
theorem dX5_remembers_65 : decode cX5_remembers 65 = .ok (.iload_n 3, 1) := by decide +kernel
theorem dX5_remembers_66 : decode cX5_remembers 66 = .ok (.ior, 1) := by decide +kernel
theorem dX5_remembers_67 : decode cX5_remembers 67 = .ok (.istore_n 1, 1) := by decide +kernel
theorem dX5_remembers_68 : decode cX5_remembers 68 = .ok (.iinc 2 1, 3) := by decide +kernel
theorem dX5_remembers_71 : decode cX5_remembers 71 = .ok (.goto (-63), 3) := by decide +kernel
theorem dX5_remembers_74 : decode cX5_remembers 74 = .ok (.iload_n 1, 1) := by decide +kernel
theorem dX5_remembers_75 : decode cX5_remembers 75 = .ok (.ifCond .eq 24, 3) := by decide +kernel
theorem dX5_remembers_78 : decode cX5_remembers 78 = .ok (.aload_n 0, 1) := by decide +kernel
theorem dX5_remembers_79 : decode cX5_remembers 79 = .ok (.dup, 1) := by decide +kernel
theorem dX5_remembers_80 : decode cX5_remembers 80 = .ok (.getfield 125, 3) := by decide +kernel
theorem dX5_remembers_83 : decode cX5_remembers 83 = .ok (.iconst 1, 1) := by decide +kernel
theorem dX5_remembers_84 : decode cX5_remembers 84 = .ok (.iadd, 1) := by decide +kernel
theorem dX5_remembers_85 : decode cX5_remembers 85 = .ok (.putfield 125, 3) := by decide +kernel
theorem dX5_remembers_88 : decode cX5_remembers 88 = .ok (.aload_n 0, 1) := by decide +kernel
theorem dX5_remembers_89 : decode cX5_remembers 89 = .ok (.iconst 0, 1) := by decide +kernel
theorem dX5_remembers_90 : decode cX5_remembers 90 = .ok (.putfield 69, 3) := by decide +kernel
theorem dX5_remembers_93 : decode cX5_remembers 93 = .ok (.aload_n 0, 1) := by decide +kernel
theorem dX5_remembers_94 : decode cX5_remembers 94 = .ok (.iconst 0, 1) := by decide +kernel
theorem dX5_remembers_95 : decode cX5_remembers 95 = .ok (.putfield 103, 3) := by decide +kernel
theorem dX5_remembers_98 : decode cX5_remembers 98 = .ok (.return_, 1) := by decide +kernel
theorem dX5_remembers_99 : decode cX5_remembers 99 = .ok (.aload_n 0, 1) := by decide +kernel
theorem dX5_remembers_100 : decode cX5_remembers 100 = .ok (.getfield 103, 3) := by decide +kernel
theorem dX5_remembers_103 : decode cX5_remembers 103 = .ok (.bipush 40, 2) := by decide +kernel
theorem dX5_remembers_105 : decode cX5_remembers 105 = .ok (.if_icmp .ne 47, 3) := by decide +kernel
theorem dX5_remembers_108 : decode cX5_remembers 108 = .ok (.aload_n 0, 1) := by decide +kernel
theorem dX5_remembers_109 : decode cX5_remembers 109 = .ok (.dup, 1) := by decide +kernel
theorem dX5_remembers_110 : decode cX5_remembers 110 = .ok (.getfield 103, 3) := by decide +kernel
theorem dX5_remembers_113 : decode cX5_remembers 113 = .ok (.iconst 1, 1) := by decide +kernel
theorem dX5_remembers_114 : decode cX5_remembers 114 = .ok (.isub, 1) := by decide +kernel
theorem dX5_remembers_115 : decode cX5_remembers 115 = .ok (.putfield 103, 3) := by decide +kernel
theorem dX5_remembers_118 : decode cX5_remembers 118 = .ok (.iconst 0, 1) := by decide +kernel
theorem dX5_remembers_119 : decode cX5_remembers 119 = .ok (.istore_n 2, 1) := by decide +kernel
theorem dX5_remembers_120 : decode cX5_remembers 120 = .ok (.iload_n 2, 1) := by decide +kernel
theorem dX5_remembers_121 : decode cX5_remembers 121 = .ok (.bipush 24, 2) := by decide +kernel
theorem dX5_remembers_123 : decode cX5_remembers 123 = .ok (.aload_n 0, 1) := by decide +kernel
theorem dX5_remembers_124 : decode cX5_remembers 124 = .ok (.getfield 103, 3) := by decide +kernel
theorem dX5_remembers_127 : decode cX5_remembers 127 = .ok (.imul, 1) := by decide +kernel
theorem dX5_remembers_128 : decode cX5_remembers 128 = .ok (.if_icmp .ge 24, 3) := by decide +kernel
theorem dX5_remembers_131 : decode cX5_remembers 131 = .ok (.aload_n 0, 1) := by decide +kernel
theorem dX5_remembers_132 : decode cX5_remembers 132 = .ok (.getfield 56, 3) := by decide +kernel
theorem dX5_remembers_135 : decode cX5_remembers 135 = .ok (.iload_n 2, 1) := by decide +kernel
theorem dX5_remembers_136 : decode cX5_remembers 136 = .ok (.aload_n 0, 1) := by decide +kernel
theorem dX5_remembers_137 : decode cX5_remembers 137 = .ok (.getfield 56, 3) := by decide +kernel
theorem dX5_remembers_140 : decode cX5_remembers 140 = .ok (.iload_n 2, 1) := by decide +kernel
theorem dX5_remembers_141 : decode cX5_remembers 141 = .ok (.bipush 24, 2) := by decide +kernel
theorem dX5_remembers_143 : decode cX5_remembers 143 = .ok (.iadd, 1) := by decide +kernel
theorem dX5_remembers_144 : decode cX5_remembers 144 = .ok (.iaload, 1) := by decide +kernel
theorem dX5_remembers_145 : decode cX5_remembers 145 = .ok (.iastore, 1) := by decide +kernel
theorem dX5_remembers_146 : decode cX5_remembers 146 = .ok (.iinc 2 1, 3) := by decide +kernel
theorem dX5_remembers_149 : decode cX5_remembers 149 = .ok (.goto (-29), 3) := by decide +kernel
theorem dX5_remembers_152 : decode cX5_remembers 152 = .ok (.iconst 0, 1) := by decide +kernel
theorem dX5_remembers_153 : decode cX5_remembers 153 = .ok (.istore_n 2, 1) := by decide +kernel
theorem dX5_remembers_154 : decode cX5_remembers 154 = .ok (.iload_n 2, 1) := by decide +kernel
theorem dX5_remembers_155 : decode cX5_remembers 155 = .ok (.bipush 24, 2) := by decide +kernel
theorem dX5_remembers_157 : decode cX5_remembers 157 = .ok (.if_icmp .ge 29, 3) := by decide +kernel
theorem dX5_remembers_160 : decode cX5_remembers 160 = .ok (.aload_n 0, 1) := by decide +kernel
theorem dX5_remembers_161 : decode cX5_remembers 161 = .ok (.getfield 56, 3) := by decide +kernel
theorem dX5_remembers_164 : decode cX5_remembers 164 = .ok (.bipush 24, 2) := by decide +kernel
theorem dX5_remembers_166 : decode cX5_remembers 166 = .ok (.aload_n 0, 1) := by decide +kernel
theorem dX5_remembers_167 : decode cX5_remembers 167 = .ok (.getfield 103, 3) := by decide +kernel
theorem dX5_remembers_170 : decode cX5_remembers 170 = .ok (.imul, 1) := by decide +kernel
theorem dX5_remembers_171 : decode cX5_remembers 171 = .ok (.iload_n 2, 1) := by decide +kernel
theorem dX5_remembers_172 : decode cX5_remembers 172 = .ok (.iadd, 1) := by decide +kernel
theorem dX5_remembers_173 : decode cX5_remembers 173 = .ok (.aload_n 0, 1) := by decide +kernel
theorem dX5_remembers_174 : decode cX5_remembers 174 = .ok (.getfield 59, 3) := by decide +kernel
theorem dX5_remembers_177 : decode cX5_remembers 177 = .ok (.iload_n 2, 1) := by decide +kernel
theorem dX5_remembers_178 : decode cX5_remembers 178 = .ok (.iaload, 1) := by decide +kernel
theorem dX5_remembers_179 : decode cX5_remembers 179 = .ok (.iastore, 1) := by decide +kernel
theorem dX5_remembers_180 : decode cX5_remembers 180 = .ok (.iinc 2 1, 3) := by decide +kernel
theorem dX5_remembers_183 : decode cX5_remembers 183 = .ok (.goto (-29), 3) := by decide +kernel
theorem dX5_remembers_186 : decode cX5_remembers 186 = .ok (.aload_n 0, 1) := by decide +kernel
theorem dX5_remembers_187 : decode cX5_remembers 187 = .ok (.dup, 1) := by decide +kernel
theorem dX5_remembers_188 : decode cX5_remembers 188 = .ok (.getfield 103, 3) := by decide +kernel
theorem dX5_remembers_191 : decode cX5_remembers 191 = .ok (.iconst 1, 1) := by decide +kernel
theorem dX5_remembers_192 : decode cX5_remembers 192 = .ok (.iadd, 1) := by decide +kernel
theorem dX5_remembers_193 : decode cX5_remembers 193 = .ok (.putfield 103, 3) := by decide +kernel
theorem dX5_remembers_196 : decode cX5_remembers 196 = .ok (.return_, 1) := by decide +kernel
set_option maxRecDepth 20000 in
theorem ggX5_resolves_X5_trigger : GoodIn wsX5_resolves wsX5_trigger := goodIn_r _ [13, 14, 15, 16, 17, 12, 18, 19, 20, 21, 22, 23, 24, 25, 26, 27, 28, 6, 29, 30, 31, 32, 33, 34, 35, 36, 37, 38, 39, 40, 41, 42, 43, 44, 45, 46, 47, 48, 49, 1, 2, 5, 3, 50, 4, 51, 52, 53, 54, 55, 56, 57, 58, 87, 88, 89, 90, 91, 92, 93, 94, 95, 96, 97, 98, 99, 100, 101, 102, 103, 104, 105, 106, 107, 108, 109, 110, 111, 112, 113] (by decide +kernel) (by decide +kernel)
set_option maxRecDepth 20000 in
theorem gX5_resolves_X5_trigger : GoodIn wsX5_resolves (wsV RX5 128 RX5 yX5_trigger wsX5_trigger) := goodIn_app (goodIn_of _ (by decide +kernel)) ggX5_resolves_X5_trigger
set_option maxRecDepth 20000 in
theorem ggX5_resolves_X5_enters : GoodIn wsX5_resolves wsX5_enters := goodIn_r _ [18, 19, 20, 21, 22, 23, 24, 25, 26, 27, 12, 28, 6, 29, 30, 31, 32, 33, 34, 35, 36, 37, 38, 39, 40, 41, 42, 43, 44, 45, 46, 47, 48, 49, 1, 2, 5, 3, 50, 4, 87, 88, 89, 90, 91, 92, 93, 94, 95, 96, 97, 98, 99, 100, 101, 102, 103, 104, 105, 106, 107, 108, 109, 110, 111, 112, 113] (by decide +kernel) (by decide +kernel)
set_option maxRecDepth 20000 in
theorem gX5_resolves_X5_enters : GoodIn wsX5_resolves (wsV RX5 106 RX5 yX5_enters wsX5_enters) := goodIn_app (goodIn_of _ (by decide +kernel)) ggX5_resolves_X5_enters
set_option maxRecDepth 20000 in
theorem ggX5_resolves_X5_strikes : GoodIn wsX5_resolves wsX5_strikes := goodIn_r _ [62, 35, 42, 43, 44, 12, 45, 19, 23, 30, 31, 32, 33, 29, 21, 34, 20, 36, 37, 38, 39, 40, 41, 24, 55, 56, 57, 58, 25, 26, 27, 28, 6, 46, 47, 48, 49, 1, 2, 5, 3, 22, 50, 4, 87, 88, 89, 90, 91, 92, 93, 94, 95, 96, 97, 98, 99, 100, 101, 102, 103, 104, 105, 106, 107, 108, 109, 110, 111, 112, 113] (by decide +kernel) (by decide +kernel)
set_option maxRecDepth 20000 in
theorem gX5_resolves_X5_strikes : GoodIn wsX5_resolves (wsV RX5 131 RX5 yX5_strikes wsX5_strikes) := goodIn_app (goodIn_of _ (by decide +kernel)) ggX5_resolves_X5_strikes
set_option maxRecDepth 20000 in
theorem ggX5_resolves_X5_entryOf : GoodIn wsX5_resolves wsX5_entryOf := goodIn_r _ [66, 1, 50, 87, 88, 89, 90, 91, 92, 93, 94, 95, 96, 97, 98, 99, 100, 101, 102, 103, 104, 105, 106, 107, 108, 109, 110, 111, 112, 113] (by decide +kernel) (by decide +kernel)
set_option maxRecDepth 20000 in
theorem gX5_resolves_X5_entryOf : GoodIn wsX5_resolves (wsV RX5 116 RX5 yX5_entryOf wsX5_entryOf) := goodIn_app (goodIn_of _ (by decide +kernel)) ggX5_resolves_X5_entryOf
set_option maxRecDepth 20000 in
theorem ggX5_resolves_X5_removes : GoodIn wsX5_resolves wsX5_removes := goodIn_r _ [70, 1, 2, 5, 3, 50, 4, 87, 88, 89, 90, 91, 92, 93, 94, 95, 96, 97, 98, 99, 100, 101, 102, 103, 104, 105, 106, 107, 108, 109, 110, 111, 112, 113] (by decide +kernel) (by decide +kernel)
set_option maxRecDepth 20000 in
theorem gX5_resolves_X5_removes : GoodIn wsX5_resolves (wsV RX5 134 RX5 yX5_removes wsX5_removes) := goodIn_app (goodIn_of _ (by decide +kernel)) ggX5_resolves_X5_removes
set_option maxRecDepth 20000 in
theorem ggX5_resolves_X5_remembers : GoodIn wsX5_resolves wsX5_remembers := goodIn_r _ [74, 75, 76, 77, 78, 1, 79, 80, 81, 12, 82, 19, 20, 24, 21, 2, 5, 3, 42, 43, 44, 45, 23, 83, 84, 85, 86, 4, 63, 64, 65, 66, 50, 87, 88, 89, 90, 91, 92, 93, 94, 95, 96, 97, 98, 99, 100, 101, 102, 103, 104, 105, 106, 107, 108, 109, 110, 111, 112, 113] (by decide +kernel) (by decide +kernel)
set_option maxRecDepth 20000 in
theorem gX5_resolves_X5_remembers : GoodIn wsX5_resolves (wsV RX5 137 RX5 yX5_remembers wsX5_remembers) := goodIn_app (goodIn_of _ (by decide +kernel)) ggX5_resolves_X5_remembers
theorem dX5_resolves_0 : decode cX5_resolves 0 = .ok (.aload_n 0, 1) := by decide +kernel
theorem dX5_resolves_1 : decode cX5_resolves 1 = .ok (.dup, 1) := by decide +kernel
theorem dX5_resolves_2 : decode cX5_resolves 2 = .ok (.getfield 69, 3) := by decide +kernel
theorem dX5_resolves_5 : decode cX5_resolves 5 = .ok (.iconst 1, 1) := by decide +kernel
theorem dX5_resolves_6 : decode cX5_resolves 6 = .ok (.isub, 1) := by decide +kernel
theorem dX5_resolves_7 : decode cX5_resolves 7 = .ok (.putfield 69, 3) := by decide +kernel
theorem dX5_resolves_10 : decode cX5_resolves 10 = .ok (.aload_n 0, 1) := by decide +kernel
theorem dX5_resolves_11 : decode cX5_resolves 11 = .ok (.getfield 25, 3) := by decide +kernel
theorem dX5_resolves_14 : decode cX5_resolves 14 = .ok (.aload_n 0, 1) := by decide +kernel
theorem dX5_resolves_15 : decode cX5_resolves 15 = .ok (.getfield 69, 3) := by decide +kernel
theorem dX5_resolves_18 : decode cX5_resolves 18 = .ok (.iaload, 1) := by decide +kernel
theorem dX5_resolves_19 : decode cX5_resolves 19 = .ok (.istore_n 1, 1) := by decide +kernel
theorem dX5_resolves_20 : decode cX5_resolves 20 = .ok (.aload_n 0, 1) := by decide +kernel
theorem dX5_resolves_21 : decode cX5_resolves 21 = .ok (.getfield 32, 3) := by decide +kernel
theorem dX5_resolves_24 : decode cX5_resolves 24 = .ok (.aload_n 0, 1) := by decide +kernel
theorem dX5_resolves_25 : decode cX5_resolves 25 = .ok (.getfield 69, 3) := by decide +kernel
theorem dX5_resolves_28 : decode cX5_resolves 28 = .ok (.iaload, 1) := by decide +kernel
theorem dX5_resolves_29 : decode cX5_resolves 29 = .ok (.istore_n 2, 1) := by decide +kernel
theorem dX5_resolves_30 : decode cX5_resolves 30 = .ok (.aload_n 0, 1) := by decide +kernel
theorem dX5_resolves_31 : decode cX5_resolves 31 = .ok (.getfield 38, 3) := by decide +kernel
theorem dX5_resolves_34 : decode cX5_resolves 34 = .ok (.aload_n 0, 1) := by decide +kernel
theorem dX5_resolves_35 : decode cX5_resolves 35 = .ok (.getfield 69, 3) := by decide +kernel
theorem dX5_resolves_38 : decode cX5_resolves 38 = .ok (.iaload, 1) := by decide +kernel
theorem dX5_resolves_39 : decode cX5_resolves 39 = .ok (.istore_n 3, 1) := by decide +kernel
theorem dX5_resolves_40 : decode cX5_resolves 40 = .ok (.aload_n 0, 1) := by decide +kernel
theorem dX5_resolves_41 : decode cX5_resolves 41 = .ok (.getfield 28, 3) := by decide +kernel
theorem dX5_resolves_44 : decode cX5_resolves 44 = .ok (.aload_n 0, 1) := by decide +kernel
theorem dX5_resolves_45 : decode cX5_resolves 45 = .ok (.getfield 69, 3) := by decide +kernel
theorem dX5_resolves_48 : decode cX5_resolves 48 = .ok (.baload, 1) := by decide +kernel
theorem dX5_resolves_49 : decode cX5_resolves 49 = .ok (.ifCond .eq 12, 3) := by decide +kernel
theorem dX5_resolves_52 : decode cX5_resolves 52 = .ok (.aload_n 0, 1) := by decide +kernel
theorem dX5_resolves_53 : decode cX5_resolves 53 = .ok (.iload_n 1, 1) := by decide +kernel
theorem dX5_resolves_54 : decode cX5_resolves 54 = .ok (.iload_n 2, 1) := by decide +kernel
theorem dX5_resolves_55 : decode cX5_resolves 55 = .ok (.invokevirtual 128, 3) := by decide +kernel
theorem dX5_resolves_58 : decode cX5_resolves 58 = .ok (.goto 57, 3) := by decide +kernel
theorem dX5_resolves_61 : decode cX5_resolves 61 = .ok (.iload_n 1, 1) := by decide +kernel
theorem dX5_resolves_62 : decode cX5_resolves 62 = .ok (.bipush 12, 2) := by decide +kernel
theorem dX5_resolves_64 : decode cX5_resolves 64 = .ok (.if_icmp .ge 13, 3) := by decide +kernel
theorem dX5_resolves_67 : decode cX5_resolves 67 = .ok (.aload_n 0, 1) := by decide +kernel
theorem dX5_resolves_68 : decode cX5_resolves 68 = .ok (.iload_n 1, 1) := by decide +kernel
theorem dX5_resolves_69 : decode cX5_resolves 69 = .ok (.iload_n 2, 1) := by decide +kernel
theorem dX5_resolves_70 : decode cX5_resolves 70 = .ok (.iload_n 3, 1) := by decide +kernel
theorem dX5_resolves_71 : decode cX5_resolves 71 = .ok (.invokevirtual 106, 3) := by decide +kernel
theorem dX5_resolves_74 : decode cX5_resolves 74 = .ok (.goto 41, 3) := by decide +kernel
theorem dX5_resolves_77 : decode cX5_resolves 77 = .ok (.iload_n 1, 1) := by decide +kernel
theorem dX5_resolves_78 : decode cX5_resolves 78 = .ok (.bipush 12, 2) := by decide +kernel
theorem dX5_resolves_80 : decode cX5_resolves 80 = .ok (.if_icmp .ne 11, 3) := by decide +kernel
theorem dX5_resolves_83 : decode cX5_resolves 83 = .ok (.aload_n 0, 1) := by decide +kernel
theorem dX5_resolves_84 : decode cX5_resolves 84 = .ok (.iload_n 3, 1) := by decide +kernel
theorem dX5_resolves_85 : decode cX5_resolves 85 = .ok (.invokevirtual 131, 3) := by decide +kernel
theorem dX5_resolves_88 : decode cX5_resolves 88 = .ok (.goto 27, 3) := by decide +kernel
theorem dX5_resolves_91 : decode cX5_resolves 91 = .ok (.aload_n 0, 1) := by decide +kernel
theorem dX5_resolves_92 : decode cX5_resolves 92 = .ok (.iload_n 3, 1) := by decide +kernel
theorem dX5_resolves_93 : decode cX5_resolves 93 = .ok (.invokevirtual 116, 3) := by decide +kernel
theorem dX5_resolves_96 : decode cX5_resolves 96 = .ok (.ifCond .lt 19, 3) := by decide +kernel
theorem dX5_resolves_99 : decode cX5_resolves 99 = .ok (.aload_n 0, 1) := by decide +kernel
theorem dX5_resolves_100 : decode cX5_resolves 100 = .ok (.aload_n 0, 1) := by decide +kernel
theorem dX5_resolves_101 : decode cX5_resolves 101 = .ok (.getfield 69, 3) := by decide +kernel
theorem dX5_resolves_104 : decode cX5_resolves 104 = .ok (.iconst 1, 1) := by decide +kernel
theorem dX5_resolves_105 : decode cX5_resolves 105 = .ok (.isub, 1) := by decide +kernel
theorem dX5_resolves_106 : decode cX5_resolves 106 = .ok (.aload_n 0, 1) := by decide +kernel
theorem dX5_resolves_107 : decode cX5_resolves 107 = .ok (.iload_n 3, 1) := by decide +kernel
theorem dX5_resolves_108 : decode cX5_resolves 108 = .ok (.invokevirtual 116, 3) := by decide +kernel
theorem dX5_resolves_111 : decode cX5_resolves 111 = .ok (.isub, 1) := by decide +kernel
theorem dX5_resolves_112 : decode cX5_resolves 112 = .ok (.invokevirtual 134, 3) := by decide +kernel
theorem dX5_resolves_115 : decode cX5_resolves 115 = .ok (.aload_n 0, 1) := by decide +kernel
theorem dX5_resolves_116 : decode cX5_resolves 116 = .ok (.invokevirtual 137, 3) := by decide +kernel
theorem dX5_resolves_119 : decode cX5_resolves 119 = .ok (.aload_n 0, 1) := by decide +kernel
theorem dX5_resolves_120 : decode cX5_resolves 120 = .ok (.aload_n 0, 1) := by decide +kernel
theorem dX5_resolves_121 : decode cX5_resolves 121 = .ok (.getfield 87, 3) := by decide +kernel
theorem dX5_resolves_124 : decode cX5_resolves 124 = .ok (.putfield 97, 3) := by decide +kernel
theorem dX5_resolves_127 : decode cX5_resolves 127 = .ok (.aload_n 0, 1) := by decide +kernel
theorem dX5_resolves_128 : decode cX5_resolves 128 = .ok (.iconst 0, 1) := by decide +kernel
theorem dX5_resolves_129 : decode cX5_resolves 129 = .ok (.putfield 140, 3) := by decide +kernel
theorem dX5_resolves_132 : decode cX5_resolves 132 = .ok (.return_, 1) := by decide +kernel
set_option maxRecDepth 20000 in
theorem ggX5_obstacleOf_X5_cost : GoodIn wsX5_obstacleOf wsX5_cost := goodIn_r _ [10] (by decide +kernel) (by decide +kernel)
set_option maxRecDepth 20000 in
theorem gX5_obstacleOf_X5_cost : GoodIn wsX5_obstacleOf (va_wsS RX5 143 yX5_cost wsX5_cost) := goodIn_app (goodIn_of _ (by decide +kernel)) ggX5_obstacleOf_X5_cost
set_option maxRecDepth 20000 in
theorem ggX5_obstacleOf_X5_isIn : GoodIn wsX5_obstacleOf wsX5_isIn := goodIn_r _ [13] (by decide +kernel) (by decide +kernel)
set_option maxRecDepth 20000 in
theorem gX5_obstacleOf_X5_isIn : GoodIn wsX5_obstacleOf (va_wsS RX5 146 yX5_isIn wsX5_isIn) := goodIn_app (goodIn_of _ (by decide +kernel)) ggX5_obstacleOf_X5_isIn
theorem dX5_obstacleOf_0 : decode cX5_obstacleOf 0 = .ok (.iload_n 1, 1) := by decide +kernel
theorem dX5_obstacleOf_1 : decode cX5_obstacleOf 1 = .ok (.bipush 12, 2) := by decide +kernel
theorem dX5_obstacleOf_3 : decode cX5_obstacleOf 3 = .ok (.if_icmp .ge 23, 3) := by decide +kernel
theorem dX5_obstacleOf_6 : decode cX5_obstacleOf 6 = .ok (.aload_n 0, 1) := by decide +kernel
theorem dX5_obstacleOf_7 : decode cX5_obstacleOf 7 = .ok (.getfield 69, 3) := by decide +kernel
theorem dX5_obstacleOf_10 : decode cX5_obstacleOf 10 = .ok (.ifCond .gt 14, 3) := by decide +kernel
theorem dX5_obstacleOf_13 : decode cX5_obstacleOf 13 = .ok (.aload_n 0, 1) := by decide +kernel
theorem dX5_obstacleOf_14 : decode cX5_obstacleOf 14 = .ok (.getfield 97, 3) := by decide +kernel
theorem dX5_obstacleOf_17 : decode cX5_obstacleOf 17 = .ok (.aload_n 0, 1) := by decide +kernel
theorem dX5_obstacleOf_18 : decode cX5_obstacleOf 18 = .ok (.getfield 87, 3) := by decide +kernel
theorem dX5_obstacleOf_21 : decode cX5_obstacleOf 21 = .ok (.if_icmp .eq 5, 3) := by decide +kernel
theorem dX5_obstacleOf_24 : decode cX5_obstacleOf 24 = .ok (.iconst 1, 1) := by decide +kernel
theorem dX5_obstacleOf_25 : decode cX5_obstacleOf 25 = .ok (.ireturn, 1) := by decide +kernel
theorem dX5_obstacleOf_26 : decode cX5_obstacleOf 26 = .ok (.aload_n 0, 1) := by decide +kernel
theorem dX5_obstacleOf_27 : decode cX5_obstacleOf 27 = .ok (.getfield 7, 3) := by decide +kernel
theorem dX5_obstacleOf_30 : decode cX5_obstacleOf 30 = .ok (.aload_n 0, 1) := by decide +kernel
theorem dX5_obstacleOf_31 : decode cX5_obstacleOf 31 = .ok (.getfield 97, 3) := by decide +kernel
theorem dX5_obstacleOf_34 : decode cX5_obstacleOf 34 = .ok (.iaload, 1) := by decide +kernel
theorem dX5_obstacleOf_35 : decode cX5_obstacleOf 35 = .ok (.iload_n 1, 1) := by decide +kernel
theorem dX5_obstacleOf_36 : decode cX5_obstacleOf 36 = .ok (.invokestatic 143, 3) := by decide +kernel
theorem dX5_obstacleOf_39 : decode cX5_obstacleOf 39 = .ok (.if_icmp .ge 5, 3) := by decide +kernel
theorem dX5_obstacleOf_42 : decode cX5_obstacleOf 42 = .ok (.iconst 2, 1) := by decide +kernel
theorem dX5_obstacleOf_43 : decode cX5_obstacleOf 43 = .ok (.ireturn, 1) := by decide +kernel
theorem dX5_obstacleOf_44 : decode cX5_obstacleOf 44 = .ok (.iload_n 1, 1) := by decide +kernel
theorem dX5_obstacleOf_45 : decode cX5_obstacleOf 45 = .ok (.bipush 7, 2) := by decide +kernel
theorem dX5_obstacleOf_47 : decode cX5_obstacleOf 47 = .ok (.if_icmp .eq 9, 3) := by decide +kernel
theorem dX5_obstacleOf_50 : decode cX5_obstacleOf 50 = .ok (.iload_n 1, 1) := by decide +kernel
theorem dX5_obstacleOf_51 : decode cX5_obstacleOf 51 = .ok (.bipush 12, 2) := by decide +kernel
theorem dX5_obstacleOf_53 : decode cX5_obstacleOf 53 = .ok (.if_icmp .ne 17, 3) := by decide +kernel
theorem dX5_obstacleOf_56 : decode cX5_obstacleOf 56 = .ok (.iload_n 2, 1) := by decide +kernel
theorem dX5_obstacleOf_57 : decode cX5_obstacleOf 57 = .ok (.iconst 0, 1) := by decide +kernel
theorem dX5_obstacleOf_58 : decode cX5_obstacleOf 58 = .ok (.aload_n 0, 1) := by decide +kernel
theorem dX5_obstacleOf_59 : decode cX5_obstacleOf 59 = .ok (.getfield 66, 3) := by decide +kernel
theorem dX5_obstacleOf_62 : decode cX5_obstacleOf 62 = .ok (.iconst 1, 1) := by decide +kernel
theorem dX5_obstacleOf_63 : decode cX5_obstacleOf 63 = .ok (.isub, 1) := by decide +kernel
theorem dX5_obstacleOf_64 : decode cX5_obstacleOf 64 = .ok (.invokestatic 146, 3) := by decide +kernel
theorem dX5_obstacleOf_67 : decode cX5_obstacleOf 67 = .ok (.ifCond .eq 7, 3) := by decide +kernel
theorem dX5_obstacleOf_70 : decode cX5_obstacleOf 70 = .ok (.iconst 1, 1) := by decide +kernel
theorem dX5_obstacleOf_71 : decode cX5_obstacleOf 71 = .ok (.goto 4, 3) := by decide +kernel
theorem dX5_obstacleOf_74 : decode cX5_obstacleOf 74 = .ok (.iconst 0, 1) := by decide +kernel
theorem dX5_obstacleOf_75 : decode cX5_obstacleOf 75 = .ok (.istore_n 3, 1) := by decide +kernel
theorem dX5_obstacleOf_76 : decode cX5_obstacleOf 76 = .ok (.iload_n 1, 1) := by decide +kernel
theorem dX5_obstacleOf_77 : decode cX5_obstacleOf 77 = .ok (.bipush 13, 2) := by decide +kernel
theorem dX5_obstacleOf_79 : decode cX5_obstacleOf 79 = .ok (.if_icmp .ne 33, 3) := by decide +kernel
theorem dX5_obstacleOf_82 : decode cX5_obstacleOf 82 = .ok (.iload_n 2, 1) := by decide +kernel
theorem dX5_obstacleOf_83 : decode cX5_obstacleOf 83 = .ok (.iconst 0, 1) := by decide +kernel
theorem dX5_obstacleOf_84 : decode cX5_obstacleOf 84 = .ok (.aload_n 0, 1) := by decide +kernel
theorem dX5_obstacleOf_85 : decode cX5_obstacleOf 85 = .ok (.getfield 69, 3) := by decide +kernel
theorem dX5_obstacleOf_88 : decode cX5_obstacleOf 88 = .ok (.iconst 1, 1) := by decide +kernel
theorem dX5_obstacleOf_89 : decode cX5_obstacleOf 89 = .ok (.isub, 1) := by decide +kernel
theorem dX5_obstacleOf_90 : decode cX5_obstacleOf 90 = .ok (.invokestatic 146, 3) := by decide +kernel
theorem dX5_obstacleOf_93 : decode cX5_obstacleOf 93 = .ok (.ifCond .eq 23, 3) := by decide +kernel
theorem dX5_obstacleOf_96 : decode cX5_obstacleOf 96 = .ok (.aload_n 0, 1) := by decide +kernel
theorem dX5_obstacleOf_97 : decode cX5_obstacleOf 97 = .ok (.getfield 28, 3) := by decide +kernel
theorem dX5_obstacleOf_100 : decode cX5_obstacleOf 100 = .ok (.aload_n 0, 1) := by decide +kernel
theorem dX5_obstacleOf_101 : decode cX5_obstacleOf 101 = .ok (.getfield 69, 3) := by decide +kernel
theorem dX5_obstacleOf_104 : decode cX5_obstacleOf 104 = .ok (.iconst 1, 1) := by decide +kernel
theorem dX5_obstacleOf_105 : decode cX5_obstacleOf 105 = .ok (.isub, 1) := by decide +kernel
theorem dX5_obstacleOf_106 : decode cX5_obstacleOf 106 = .ok (.iload_n 2, 1) := by decide +kernel
theorem dX5_obstacleOf_107 : decode cX5_obstacleOf 107 = .ok (.isub, 1) := by decide +kernel
theorem dX5_obstacleOf_108 : decode cX5_obstacleOf 108 = .ok (.baload, 1) := by decide +kernel
theorem dX5_obstacleOf_109 : decode cX5_obstacleOf 109 = .ok (.ifCond .ne 7, 3) := by decide +kernel
theorem dX5_obstacleOf_112 : decode cX5_obstacleOf 112 = .ok (.iconst 1, 1) := by decide +kernel
theorem dX5_obstacleOf_113 : decode cX5_obstacleOf 113 = .ok (.goto 4, 3) := by decide +kernel
theorem dX5_obstacleOf_116 : decode cX5_obstacleOf 116 = .ok (.iconst 0, 1) := by decide +kernel
theorem dX5_obstacleOf_117 : decode cX5_obstacleOf 117 = .ok (.istore 4, 2) := by decide +kernel
theorem dX5_obstacleOf_119 : decode cX5_obstacleOf 119 = .ok (.iload_n 3, 1) := by decide +kernel
theorem dX5_obstacleOf_120 : decode cX5_obstacleOf 120 = .ok (.ifCond .eq 8, 3) := by decide +kernel
theorem dX5_obstacleOf_123 : decode cX5_obstacleOf 123 = .ok (.iload 4, 2) := by decide +kernel
theorem dX5_obstacleOf_125 : decode cX5_obstacleOf 125 = .ok (.ifCond .ne 7, 3) := by decide +kernel
theorem dX5_obstacleOf_128 : decode cX5_obstacleOf 128 = .ok (.iconst 3, 1) := by decide +kernel
theorem dX5_obstacleOf_129 : decode cX5_obstacleOf 129 = .ok (.goto 17, 3) := by decide +kernel
theorem dX5_obstacleOf_132 : decode cX5_obstacleOf 132 = .ok (.aload_n 0, 1) := by decide +kernel
theorem dX5_obstacleOf_133 : decode cX5_obstacleOf 133 = .ok (.getfield 69, 3) := by decide +kernel
theorem dX5_obstacleOf_136 : decode cX5_obstacleOf 136 = .ok (.bipush 12, 2) := by decide +kernel
theorem dX5_obstacleOf_138 : decode cX5_obstacleOf 138 = .ok (.if_icmp .ne 7, 3) := by decide +kernel
theorem dX5_obstacleOf_141 : decode cX5_obstacleOf 141 = .ok (.iconst 4, 1) := by decide +kernel
theorem dX5_obstacleOf_142 : decode cX5_obstacleOf 142 = .ok (.goto 4, 3) := by decide +kernel
theorem dX5_obstacleOf_145 : decode cX5_obstacleOf 145 = .ok (.iconst 0, 1) := by decide +kernel
theorem dX5_obstacleOf_146 : decode cX5_obstacleOf 146 = .ok (.ireturn, 1) := by decide +kernel
set_option maxRecDepth 20000 in
theorem ggX5_play_X5_isIn : GoodIn wsX5_play wsX5_isIn := goodIn_r _ [17] (by decide +kernel) (by decide +kernel)
set_option maxRecDepth 20000 in
theorem gX5_play_X5_isIn : GoodIn wsX5_play (va_wsS RX5 146 yX5_isIn wsX5_isIn) := goodIn_app (goodIn_of _ (by decide +kernel)) ggX5_play_X5_isIn
set_option maxRecDepth 20000 in
theorem ggX5_play_X5_obstacleOf : GoodIn wsX5_play wsX5_obstacleOf := goodIn_r _ [21, 5, 3, 22, 2, 23, 6, 24, 25, 16, 26, 14, 15, 17, 27, 28, 29, 30, 31, 32, 33, 34, 35, 36, 37, 38, 39, 40, 41, 42, 43, 44, 45, 46, 47, 48, 49, 50, 51, 52, 53] (by decide +kernel) (by decide +kernel)
set_option maxRecDepth 20000 in
theorem gX5_play_X5_obstacleOf : GoodIn wsX5_play (wsV RX5 150 RX5 yX5_obstacleOf wsX5_obstacleOf) := goodIn_app (goodIn_of _ (by decide +kernel)) ggX5_play_X5_obstacleOf
set_option maxRecDepth 20000 in
theorem ggX5_play_X5_cost : GoodIn wsX5_play wsX5_cost := goodIn_r _ [26] (by decide +kernel) (by decide +kernel)
set_option maxRecDepth 20000 in
theorem gX5_play_X5_cost : GoodIn wsX5_play (va_wsS RX5 143 yX5_cost wsX5_cost) := goodIn_app (goodIn_of _ (by decide +kernel)) ggX5_play_X5_cost
theorem dX5_play_0 : decode cX5_play 0 = .ok (.aload_n 0, 1) := by decide +kernel
theorem dX5_play_1 : decode cX5_play 1 = .ok (.iload_n 1, 1) := by decide +kernel
theorem dX5_play_2 : decode cX5_play 2 = .ok (.iconst 0, 1) := by decide +kernel
theorem dX5_play_3 : decode cX5_play 3 = .ok (.bipush 13, 2) := by decide +kernel
theorem dX5_play_5 : decode cX5_play 5 = .ok (.invokestatic 146, 3) := by decide +kernel
theorem dX5_play_8 : decode cX5_play 8 = .ok (.ifCond .eq 7, 3) := by decide +kernel
theorem dX5_play_11 : decode cX5_play 11 = .ok (.iconst 0, 1) := by decide +kernel
theorem dX5_play_12 : decode cX5_play 12 = .ok (.goto 4, 3) := by decide +kernel
theorem dX5_play_15 : decode cX5_play 15 = .ok (.iconst 1, 1) := by decide +kernel
theorem dX5_play_16 : decode cX5_play 16 = .ok (.putfield 62, 3) := by decide +kernel
theorem dX5_play_19 : decode cX5_play 19 = .ok (.aload_n 0, 1) := by decide +kernel
theorem dX5_play_20 : decode cX5_play 20 = .ok (.getfield 62, 3) := by decide +kernel
theorem dX5_play_23 : decode cX5_play 23 = .ok (.ifCond .le 5, 3) := by decide +kernel
theorem dX5_play_26 : decode cX5_play 26 = .ok (.iconst 0, 1) := by decide +kernel
theorem dX5_play_27 : decode cX5_play 27 = .ok (.ireturn, 1) := by decide +kernel
theorem dX5_play_28 : decode cX5_play 28 = .ok (.aload_n 0, 1) := by decide +kernel
theorem dX5_play_29 : decode cX5_play 29 = .ok (.aload_n 0, 1) := by decide +kernel
theorem dX5_play_30 : decode cX5_play 30 = .ok (.iload_n 1, 1) := by decide +kernel
theorem dX5_play_31 : decode cX5_play 31 = .ok (.iload_n 2, 1) := by decide +kernel
theorem dX5_play_32 : decode cX5_play 32 = .ok (.invokevirtual 150, 3) := by decide +kernel
theorem dX5_play_35 : decode cX5_play 35 = .ok (.ifCond .le 7, 3) := by decide +kernel
theorem dX5_play_38 : decode cX5_play 38 = .ok (.iconst 2, 1) := by decide +kernel
theorem dX5_play_39 : decode cX5_play 39 = .ok (.goto 4, 3) := by decide +kernel
theorem dX5_play_42 : decode cX5_play 42 = .ok (.iconst 0, 1) := by decide +kernel
theorem dX5_play_43 : decode cX5_play 43 = .ok (.putfield 62, 3) := by decide +kernel
theorem dX5_play_46 : decode cX5_play 46 = .ok (.aload_n 0, 1) := by decide +kernel
theorem dX5_play_47 : decode cX5_play 47 = .ok (.getfield 62, 3) := by decide +kernel
theorem dX5_play_50 : decode cX5_play 50 = .ok (.ifCond .le 5, 3) := by decide +kernel
theorem dX5_play_53 : decode cX5_play 53 = .ok (.iconst 0, 1) := by decide +kernel
theorem dX5_play_54 : decode cX5_play 54 = .ok (.ireturn, 1) := by decide +kernel
theorem dX5_play_55 : decode cX5_play 55 = .ok (.aload_n 0, 1) := by decide +kernel
theorem dX5_play_56 : decode cX5_play 56 = .ok (.getfield 7, 3) := by decide +kernel
theorem dX5_play_59 : decode cX5_play 59 = .ok (.aload_n 0, 1) := by decide +kernel
theorem dX5_play_60 : decode cX5_play 60 = .ok (.getfield 97, 3) := by decide +kernel
theorem dX5_play_63 : decode cX5_play 63 = .ok (.dup2, 1) := by decide +kernel
theorem dX5_play_64 : decode cX5_play 64 = .ok (.iaload, 1) := by decide +kernel
theorem dX5_play_65 : decode cX5_play 65 = .ok (.iload_n 1, 1) := by decide +kernel
theorem dX5_play_66 : decode cX5_play 66 = .ok (.invokestatic 143, 3) := by decide +kernel
theorem dX5_play_69 : decode cX5_play 69 = .ok (.isub, 1) := by decide +kernel
theorem dX5_play_70 : decode cX5_play 70 = .ok (.iastore, 1) := by decide +kernel
theorem dX5_play_71 : decode cX5_play 71 = .ok (.aload_n 0, 1) := by decide +kernel
theorem dX5_play_72 : decode cX5_play 72 = .ok (.getfield 25, 3) := by decide +kernel
theorem dX5_play_75 : decode cX5_play 75 = .ok (.aload_n 0, 1) := by decide +kernel
theorem dX5_play_76 : decode cX5_play 76 = .ok (.getfield 69, 3) := by decide +kernel
theorem dX5_play_79 : decode cX5_play 79 = .ok (.iload_n 1, 1) := by decide +kernel
theorem dX5_play_80 : decode cX5_play 80 = .ok (.iastore, 1) := by decide +kernel
theorem dX5_play_81 : decode cX5_play 81 = .ok (.aload_n 0, 1) := by decide +kernel
theorem dX5_play_82 : decode cX5_play 82 = .ok (.getfield 28, 3) := by decide +kernel
theorem dX5_play_85 : decode cX5_play 85 = .ok (.aload_n 0, 1) := by decide +kernel
theorem dX5_play_86 : decode cX5_play 86 = .ok (.getfield 69, 3) := by decide +kernel
theorem dX5_play_89 : decode cX5_play 89 = .ok (.iconst 0, 1) := by decide +kernel
theorem dX5_play_90 : decode cX5_play 90 = .ok (.bastore, 1) := by decide +kernel
theorem dX5_play_91 : decode cX5_play 91 = .ok (.aload_n 0, 1) := by decide +kernel
theorem dX5_play_92 : decode cX5_play 92 = .ok (.getfield 32, 3) := by decide +kernel
theorem dX5_play_95 : decode cX5_play 95 = .ok (.aload_n 0, 1) := by decide +kernel
theorem dX5_play_96 : decode cX5_play 96 = .ok (.getfield 69, 3) := by decide +kernel
theorem dX5_play_99 : decode cX5_play 99 = .ok (.aload_n 0, 1) := by decide +kernel
theorem dX5_play_100 : decode cX5_play 100 = .ok (.getfield 97, 3) := by decide +kernel
theorem dX5_play_103 : decode cX5_play 103 = .ok (.iastore, 1) := by decide +kernel
theorem dX5_play_104 : decode cX5_play 104 = .ok (.aload_n 0, 1) := by decide +kernel
theorem dX5_play_105 : decode cX5_play 105 = .ok (.dup, 1) := by decide +kernel
theorem dX5_play_106 : decode cX5_play 106 = .ok (.getfield 80, 3) := by decide +kernel
theorem dX5_play_109 : decode cX5_play 109 = .ok (.iconst 1, 1) := by decide +kernel
theorem dX5_play_110 : decode cX5_play 110 = .ok (.iadd, 1) := by decide +kernel
theorem dX5_play_111 : decode cX5_play 111 = .ok (.putfield 80, 3) := by decide +kernel
theorem dX5_play_114 : decode cX5_play 114 = .ok (.aload_n 0, 1) := by decide +kernel
theorem dX5_play_115 : decode cX5_play 115 = .ok (.getfield 35, 3) := by decide +kernel
theorem dX5_play_118 : decode cX5_play 118 = .ok (.aload_n 0, 1) := by decide +kernel
theorem dX5_play_119 : decode cX5_play 119 = .ok (.getfield 69, 3) := by decide +kernel
theorem dX5_play_122 : decode cX5_play 122 = .ok (.aload_n 0, 1) := by decide +kernel
theorem dX5_play_123 : decode cX5_play 123 = .ok (.getfield 80, 3) := by decide +kernel
theorem dX5_play_126 : decode cX5_play 126 = .ok (.iastore, 1) := by decide +kernel
theorem dX5_play_127 : decode cX5_play 127 = .ok (.aload_n 0, 1) := by decide +kernel
theorem dX5_play_128 : decode cX5_play 128 = .ok (.getfield 38, 3) := by decide +kernel
theorem dX5_play_131 : decode cX5_play 131 = .ok (.aload_n 0, 1) := by decide +kernel
theorem dX5_play_132 : decode cX5_play 132 = .ok (.getfield 69, 3) := by decide +kernel
theorem dX5_play_135 : decode cX5_play 135 = .ok (.iload_n 1, 1) := by decide +kernel
theorem dX5_play_136 : decode cX5_play 136 = .ok (.bipush 7, 2) := by decide +kernel
theorem dX5_play_138 : decode cX5_play 138 = .ok (.if_icmp .eq 9, 3) := by decide +kernel
theorem dX5_play_141 : decode cX5_play 141 = .ok (.iload_n 1, 1) := by decide +kernel
theorem dX5_play_142 : decode cX5_play 142 = .ok (.bipush 12, 2) := by decide +kernel
theorem dX5_play_144 : decode cX5_play 144 = .ok (.if_icmp .ne 12, 3) := by decide +kernel
theorem dX5_play_147 : decode cX5_play 147 = .ok (.aload_n 0, 1) := by decide +kernel
theorem dX5_play_148 : decode cX5_play 148 = .ok (.getfield 19, 3) := by decide +kernel
theorem dX5_play_151 : decode cX5_play 151 = .ok (.iload_n 2, 1) := by decide +kernel
theorem dX5_play_152 : decode cX5_play 152 = .ok (.iaload, 1) := by decide +kernel
theorem dX5_play_153 : decode cX5_play 153 = .ok (.goto 26, 3) := by decide +kernel
theorem dX5_play_156 : decode cX5_play 156 = .ok (.iload_n 1, 1) := by decide +kernel
theorem dX5_play_157 : decode cX5_play 157 = .ok (.bipush 13, 2) := by decide +kernel
theorem dX5_play_159 : decode cX5_play 159 = .ok (.if_icmp .ne 19, 3) := by decide +kernel
theorem dX5_play_162 : decode cX5_play 162 = .ok (.aload_n 0, 1) := by decide +kernel
theorem dX5_play_163 : decode cX5_play 163 = .ok (.getfield 35, 3) := by decide +kernel
theorem dX5_play_166 : decode cX5_play 166 = .ok (.aload_n 0, 1) := by decide +kernel
theorem dX5_play_167 : decode cX5_play 167 = .ok (.getfield 69, 3) := by decide +kernel
theorem dX5_play_170 : decode cX5_play 170 = .ok (.iconst 1, 1) := by decide +kernel
theorem dX5_play_171 : decode cX5_play 171 = .ok (.isub, 1) := by decide +kernel
theorem dX5_play_172 : decode cX5_play 172 = .ok (.iload_n 2, 1) := by decide +kernel
theorem dX5_play_173 : decode cX5_play 173 = .ok (.isub, 1) := by decide +kernel
theorem dX5_play_174 : decode cX5_play 174 = .ok (.iaload, 1) := by decide +kernel
theorem dX5_play_175 : decode cX5_play 175 = .ok (.goto 4, 3) := by decide +kernel
theorem dX5_play_178 : decode cX5_play 178 = .ok (.iconst 0, 1) := by decide +kernel
theorem dX5_play_179 : decode cX5_play 179 = .ok (.iastore, 1) := by decide +kernel
theorem dX5_play_180 : decode cX5_play 180 = .ok (.aload_n 0, 1) := by decide +kernel
theorem dX5_play_181 : decode cX5_play 181 = .ok (.dup, 1) := by decide +kernel
theorem dX5_play_182 : decode cX5_play 182 = .ok (.getfield 69, 3) := by decide +kernel
theorem dX5_play_185 : decode cX5_play 185 = .ok (.iconst 1, 1) := by decide +kernel
theorem dX5_play_186 : decode cX5_play 186 = .ok (.iadd, 1) := by decide +kernel
theorem dX5_play_187 : decode cX5_play 187 = .ok (.putfield 69, 3) := by decide +kernel
theorem dX5_play_190 : decode cX5_play 190 = .ok (.aload_n 0, 1) := by decide +kernel
theorem dX5_play_191 : decode cX5_play 191 = .ok (.aload_n 0, 1) := by decide +kernel
theorem dX5_play_192 : decode cX5_play 192 = .ok (.getfield 97, 3) := by decide +kernel
theorem dX5_play_195 : decode cX5_play 195 = .ok (.iconst 1, 1) := by decide +kernel
theorem dX5_play_196 : decode cX5_play 196 = .ok (.iadd, 1) := by decide +kernel
theorem dX5_play_197 : decode cX5_play 197 = .ok (.iconst 3, 1) := by decide +kernel
theorem dX5_play_198 : decode cX5_play 198 = .ok (.irem, 1) := by decide +kernel
theorem dX5_play_199 : decode cX5_play 199 = .ok (.putfield 97, 3) := by decide +kernel
theorem dX5_play_202 : decode cX5_play 202 = .ok (.aload_n 0, 1) := by decide +kernel
theorem dX5_play_203 : decode cX5_play 203 = .ok (.iconst 0, 1) := by decide +kernel
theorem dX5_play_204 : decode cX5_play 204 = .ok (.putfield 140, 3) := by decide +kernel
theorem dX5_play_207 : decode cX5_play 207 = .ok (.aload_n 0, 1) := by decide +kernel
theorem dX5_play_208 : decode cX5_play 208 = .ok (.iconst 0, 1) := by decide +kernel
theorem dX5_play_209 : decode cX5_play 209 = .ok (.putfield 103, 3) := by decide +kernel
theorem dX5_play_212 : decode cX5_play 212 = .ok (.aload_n 0, 1) := by decide +kernel
theorem dX5_play_213 : decode cX5_play 213 = .ok (.getfield 69, 3) := by decide +kernel
theorem dX5_play_216 : decode cX5_play 216 = .ok (.ireturn, 1) := by decide +kernel
set_option maxRecDepth 20000 in
theorem ggX5_obstacle_X5_isIn : GoodIn wsX5_obstacle wsX5_isIn := goodIn_r _ [5] (by decide +kernel) (by decide +kernel)
set_option maxRecDepth 20000 in
theorem gX5_obstacle_X5_isIn : GoodIn wsX5_obstacle (va_wsS RX5 146 yX5_isIn wsX5_isIn) := goodIn_app (goodIn_of _ (by decide +kernel)) ggX5_obstacle_X5_isIn
set_option maxRecDepth 20000 in
theorem ggX5_obstacle_X5_obstacleOf : GoodIn wsX5_obstacle wsX5_obstacleOf := goodIn_r _ [9, 10, 11, 12, 13, 14, 15, 16, 17, 4, 18, 2, 3, 5, 19, 20, 21, 22, 23, 24, 25, 26, 27, 28, 29, 30, 31, 32, 33, 34, 35, 36, 37, 38, 39, 40, 41, 42, 43, 44, 45] (by decide +kernel) (by decide +kernel)
set_option maxRecDepth 20000 in
theorem gX5_obstacle_X5_obstacleOf : GoodIn wsX5_obstacle (wsV RX5 150 RX5 yX5_obstacleOf wsX5_obstacleOf) := goodIn_app (goodIn_of _ (by decide +kernel)) ggX5_obstacle_X5_obstacleOf
theorem dX5_obstacle_0 : decode cX5_obstacle 0 = .ok (.aload_n 0, 1) := by decide +kernel
theorem dX5_obstacle_1 : decode cX5_obstacle 1 = .ok (.iload_n 1, 1) := by decide +kernel
theorem dX5_obstacle_2 : decode cX5_obstacle 2 = .ok (.iconst 0, 1) := by decide +kernel
theorem dX5_obstacle_3 : decode cX5_obstacle 3 = .ok (.bipush 13, 2) := by decide +kernel
theorem dX5_obstacle_5 : decode cX5_obstacle 5 = .ok (.invokestatic 146, 3) := by decide +kernel
theorem dX5_obstacle_8 : decode cX5_obstacle 8 = .ok (.ifCond .eq 7, 3) := by decide +kernel
theorem dX5_obstacle_11 : decode cX5_obstacle 11 = .ok (.iconst 0, 1) := by decide +kernel
theorem dX5_obstacle_12 : decode cX5_obstacle 12 = .ok (.goto 4, 3) := by decide +kernel
theorem dX5_obstacle_15 : decode cX5_obstacle 15 = .ok (.iconst 1, 1) := by decide +kernel
theorem dX5_obstacle_16 : decode cX5_obstacle 16 = .ok (.putfield 62, 3) := by decide +kernel
theorem dX5_obstacle_19 : decode cX5_obstacle 19 = .ok (.aload_n 0, 1) := by decide +kernel
theorem dX5_obstacle_20 : decode cX5_obstacle 20 = .ok (.getfield 62, 3) := by decide +kernel
theorem dX5_obstacle_23 : decode cX5_obstacle 23 = .ok (.ifCond .le 7, 3) := by decide +kernel
theorem dX5_obstacle_26 : decode cX5_obstacle 26 = .ok (.iconst 0, 1) := by decide +kernel
theorem dX5_obstacle_27 : decode cX5_obstacle 27 = .ok (.goto 9, 3) := by decide +kernel
theorem dX5_obstacle_30 : decode cX5_obstacle 30 = .ok (.aload_n 0, 1) := by decide +kernel
theorem dX5_obstacle_31 : decode cX5_obstacle 31 = .ok (.iload_n 1, 1) := by decide +kernel
theorem dX5_obstacle_32 : decode cX5_obstacle 32 = .ok (.iload_n 2, 1) := by decide +kernel
theorem dX5_obstacle_33 : decode cX5_obstacle 33 = .ok (.invokevirtual 150, 3) := by decide +kernel
theorem dX5_obstacle_36 : decode cX5_obstacle 36 = .ok (.ireturn, 1) := by decide +kernel
set_option maxRecDepth 20000 in
theorem ggX5_pass_X5_resolves : GoodIn wsX5_pass wsX5_resolves := goodIn_r _ [9, 4, 10, 11, 12, 13, 14, 3, 2, 15, 16, 17, 8, 18, 19, 20, 21, 22, 23, 24, 25, 26, 27, 28, 29, 30, 31, 32, 33, 34, 35, 36, 37, 38, 39, 40, 41, 42, 43, 44, 45, 46, 47, 48, 49, 50, 51, 52, 53, 54, 55, 56, 57, 58, 59, 60, 61, 62, 63, 64, 65, 66, 67, 68, 69, 70, 71, 72, 73, 74, 75, 76, 77, 78, 79, 80, 81, 82, 83, 84, 85, 86, 87, 88, 89, 90, 91, 97, 98, 99, 100, 101, 102, 103, 104, 105, 106, 107, 108, 109, 110, 111, 112, 113, 114, 115, 116, 117, 118, 119, 120, 121, 122, 123] (by decide +kernel) (by decide +kernel)
set_option maxRecDepth 20000 in
theorem gX5_pass_X5_resolves : GoodIn wsX5_pass (wsV RX5 154 RX5 yX5_resolves wsX5_resolves) := goodIn_app (goodIn_of _ (by decide +kernel)) ggX5_pass_X5_resolves
set_option maxRecDepth 20000 in
theorem ggX5_pass_X5_begins : GoodIn wsX5_pass wsX5_begins := goodIn_r _ [95, 14, 3, 96, 19, 80, 24, 25, 34, 35, 36, 37, 8, 38, 26, 39, 40, 41, 42, 43, 44, 45, 46, 29, 47, 48, 49, 50, 28, 51, 52, 53, 54, 4, 10, 13, 11, 27, 55, 12, 97, 98, 99, 100, 101, 102, 103, 104, 105, 106, 107, 108, 109, 110, 111, 112, 113, 114, 115, 116, 117, 118, 119, 120, 121, 122, 123] (by decide +kernel) (by decide +kernel)
set_option maxRecDepth 20000 in
theorem gX5_pass_X5_begins : GoodIn wsX5_pass (wsV RX5 157 RX5 yX5_begins wsX5_begins) := goodIn_app (goodIn_of _ (by decide +kernel)) ggX5_pass_X5_begins
theorem dX5_pass_0 : decode cX5_pass 0 = .ok (.aload_n 0, 1) := by decide +kernel
theorem dX5_pass_1 : decode cX5_pass 1 = .ok (.iconst 0, 1) := by decide +kernel
theorem dX5_pass_2 : decode cX5_pass 2 = .ok (.putfield 62, 3) := by decide +kernel
theorem dX5_pass_5 : decode cX5_pass 5 = .ok (.aload_n 0, 1) := by decide +kernel
theorem dX5_pass_6 : decode cX5_pass 6 = .ok (.dup, 1) := by decide +kernel
theorem dX5_pass_7 : decode cX5_pass 7 = .ok (.getfield 140, 3) := by decide +kernel
theorem dX5_pass_10 : decode cX5_pass 10 = .ok (.iconst 1, 1) := by decide +kernel
theorem dX5_pass_11 : decode cX5_pass 11 = .ok (.iadd, 1) := by decide +kernel
theorem dX5_pass_12 : decode cX5_pass 12 = .ok (.putfield 140, 3) := by decide +kernel
theorem dX5_pass_15 : decode cX5_pass 15 = .ok (.aload_n 0, 1) := by decide +kernel
theorem dX5_pass_16 : decode cX5_pass 16 = .ok (.getfield 140, 3) := by decide +kernel
theorem dX5_pass_19 : decode cX5_pass 19 = .ok (.iconst 3, 1) := by decide +kernel
theorem dX5_pass_20 : decode cX5_pass 20 = .ok (.if_icmp .ge 17, 3) := by decide +kernel
theorem dX5_pass_23 : decode cX5_pass 23 = .ok (.aload_n 0, 1) := by decide +kernel
theorem dX5_pass_24 : decode cX5_pass 24 = .ok (.aload_n 0, 1) := by decide +kernel
theorem dX5_pass_25 : decode cX5_pass 25 = .ok (.getfield 97, 3) := by decide +kernel
theorem dX5_pass_28 : decode cX5_pass 28 = .ok (.iconst 1, 1) := by decide +kernel
theorem dX5_pass_29 : decode cX5_pass 29 = .ok (.iadd, 1) := by decide +kernel
theorem dX5_pass_30 : decode cX5_pass 30 = .ok (.iconst 3, 1) := by decide +kernel
theorem dX5_pass_31 : decode cX5_pass 31 = .ok (.irem, 1) := by decide +kernel
theorem dX5_pass_32 : decode cX5_pass 32 = .ok (.putfield 97, 3) := by decide +kernel
theorem dX5_pass_35 : decode cX5_pass 35 = .ok (.iconst 0, 1) := by decide +kernel
theorem dX5_pass_36 : decode cX5_pass 36 = .ok (.ireturn, 1) := by decide +kernel
theorem dX5_pass_37 : decode cX5_pass 37 = .ok (.aload_n 0, 1) := by decide +kernel
theorem dX5_pass_38 : decode cX5_pass 38 = .ok (.iconst 0, 1) := by decide +kernel
theorem dX5_pass_39 : decode cX5_pass 39 = .ok (.putfield 140, 3) := by decide +kernel
theorem dX5_pass_42 : decode cX5_pass 42 = .ok (.aload_n 0, 1) := by decide +kernel
theorem dX5_pass_43 : decode cX5_pass 43 = .ok (.getfield 69, 3) := by decide +kernel
theorem dX5_pass_46 : decode cX5_pass 46 = .ok (.ifCond .le 9, 3) := by decide +kernel
theorem dX5_pass_49 : decode cX5_pass 49 = .ok (.aload_n 0, 1) := by decide +kernel
theorem dX5_pass_50 : decode cX5_pass 50 = .ok (.invokevirtual 154, 3) := by decide +kernel
theorem dX5_pass_53 : decode cX5_pass 53 = .ok (.iconst 1, 1) := by decide +kernel
theorem dX5_pass_54 : decode cX5_pass 54 = .ok (.ireturn, 1) := by decide +kernel
theorem dX5_pass_55 : decode cX5_pass 55 = .ok (.aload_n 0, 1) := by decide +kernel
theorem dX5_pass_56 : decode cX5_pass 56 = .ok (.invokevirtual 157, 3) := by decide +kernel
theorem dX5_pass_59 : decode cX5_pass 59 = .ok (.iconst 2, 1) := by decide +kernel
theorem dX5_pass_60 : decode cX5_pass 60 = .ok (.ireturn, 1) := by decide +kernel
set_option maxRecDepth 20000 in
theorem ggX5_settle_X5_isIn : GoodIn wsX5_settle wsX5_isIn := goodIn_r _ [6] (by decide +kernel) (by decide +kernel)
set_option maxRecDepth 20000 in
theorem gX5_settle_X5_isIn : GoodIn wsX5_settle (va_wsS RX5 146 yX5_isIn wsX5_isIn) := goodIn_app (goodIn_of _ (by decide +kernel)) ggX5_settle_X5_isIn
set_option maxRecDepth 20000 in
theorem ggX5_settle_X5_resolves : GoodIn wsX5_settle wsX5_resolves := goodIn_r _ [10, 2, 11, 12, 13, 14, 15, 16, 17, 18, 19, 20, 5, 21, 22, 23, 24, 25, 26, 27, 28, 29, 30, 31, 32, 33, 34, 35, 36, 37, 38, 39, 40, 41, 42, 43, 44, 45, 46, 47, 48, 49, 50, 51, 52, 53, 54, 55, 56, 57, 58, 59, 60, 61, 62, 63, 64, 65, 66, 67, 68, 69, 70, 71, 72, 73, 74, 75, 76, 77, 78, 79, 80, 81, 82, 83, 84, 85, 86, 87, 88, 89, 90, 91, 92, 93, 94, 95, 96, 97, 98, 99, 100, 101, 102, 103, 104, 105, 106, 107, 108, 109, 110, 111, 112, 113, 114, 115, 116, 117, 118, 119, 120, 121] (by decide +kernel) (by decide +kernel)
set_option maxRecDepth 20000 in
theorem gX5_settle_X5_resolves : GoodIn wsX5_settle (wsV RX5 154 RX5 yX5_resolves wsX5_resolves) := goodIn_app (goodIn_of _ (by decide +kernel)) ggX5_settle_X5_resolves
theorem dX5_settle_0 : decode cX5_settle 0 = .ok (.aload_n 0, 1) := by decide +kernel
theorem dX5_settle_1 : decode cX5_settle 1 = .ok (.iload_n 1, 1) := by decide +kernel
theorem dX5_settle_2 : decode cX5_settle 2 = .ok (.iconst 1, 1) := by decide +kernel
theorem dX5_settle_3 : decode cX5_settle 3 = .ok (.bipush 60, 2) := by decide +kernel
theorem dX5_settle_5 : decode cX5_settle 5 = .ok (.invokestatic 146, 3) := by decide +kernel
theorem dX5_settle_8 : decode cX5_settle 8 = .ok (.ifCond .eq 7, 3) := by decide +kernel
theorem dX5_settle_11 : decode cX5_settle 11 = .ok (.iconst 0, 1) := by decide +kernel
theorem dX5_settle_12 : decode cX5_settle 12 = .ok (.goto 4, 3) := by decide +kernel
theorem dX5_settle_15 : decode cX5_settle 15 = .ok (.iconst 1, 1) := by decide +kernel
theorem dX5_settle_16 : decode cX5_settle 16 = .ok (.putfield 62, 3) := by decide +kernel
theorem dX5_settle_19 : decode cX5_settle 19 = .ok (.iconst 0, 1) := by decide +kernel
theorem dX5_settle_20 : decode cX5_settle 20 = .ok (.istore_n 2, 1) := by decide +kernel
theorem dX5_settle_21 : decode cX5_settle 21 = .ok (.aload_n 0, 1) := by decide +kernel
theorem dX5_settle_22 : decode cX5_settle 22 = .ok (.getfield 62, 3) := by decide +kernel
theorem dX5_settle_25 : decode cX5_settle 25 = .ok (.ifCond .ne 25, 3) := by decide +kernel
theorem dX5_settle_28 : decode cX5_settle 28 = .ok (.iload_n 2, 1) := by decide +kernel
theorem dX5_settle_29 : decode cX5_settle 29 = .ok (.iload_n 1, 1) := by decide +kernel
theorem dX5_settle_30 : decode cX5_settle 30 = .ok (.if_icmp .ge 20, 3) := by decide +kernel
theorem dX5_settle_33 : decode cX5_settle 33 = .ok (.aload_n 0, 1) := by decide +kernel
theorem dX5_settle_34 : decode cX5_settle 34 = .ok (.getfield 69, 3) := by decide +kernel
theorem dX5_settle_37 : decode cX5_settle 37 = .ok (.ifCond .le 13, 3) := by decide +kernel
theorem dX5_settle_40 : decode cX5_settle 40 = .ok (.aload_n 0, 1) := by decide +kernel
theorem dX5_settle_41 : decode cX5_settle 41 = .ok (.invokevirtual 154, 3) := by decide +kernel
theorem dX5_settle_44 : decode cX5_settle 44 = .ok (.iinc 2 1, 3) := by decide +kernel
theorem dX5_settle_47 : decode cX5_settle 47 = .ok (.goto (-26), 3) := by decide +kernel
theorem dX5_settle_50 : decode cX5_settle 50 = .ok (.iload_n 2, 1) := by decide +kernel
theorem dX5_settle_51 : decode cX5_settle 51 = .ok (.ireturn, 1) := by decide +kernel
theorem dX5_turn_0 : decode cX5_turn 0 = .ok (.aload_n 0, 1) := by decide +kernel
theorem dX5_turn_1 : decode cX5_turn 1 = .ok (.iconst 0, 1) := by decide +kernel
theorem dX5_turn_2 : decode cX5_turn 2 = .ok (.putfield 62, 3) := by decide +kernel
theorem dX5_turn_5 : decode cX5_turn 5 = .ok (.aload_n 0, 1) := by decide +kernel
theorem dX5_turn_6 : decode cX5_turn 6 = .ok (.getfield 87, 3) := by decide +kernel
theorem dX5_turn_9 : decode cX5_turn 9 = .ok (.ireturn, 1) := by decide +kernel
theorem dX5_acting_0 : decode cX5_acting 0 = .ok (.aload_n 0, 1) := by decide +kernel
theorem dX5_acting_1 : decode cX5_acting 1 = .ok (.iconst 0, 1) := by decide +kernel
theorem dX5_acting_2 : decode cX5_acting 2 = .ok (.putfield 62, 3) := by decide +kernel
theorem dX5_acting_5 : decode cX5_acting 5 = .ok (.aload_n 0, 1) := by decide +kernel
theorem dX5_acting_6 : decode cX5_acting 6 = .ok (.getfield 97, 3) := by decide +kernel
theorem dX5_acting_9 : decode cX5_acting 9 = .ok (.ireturn, 1) := by decide +kernel
theorem dX5_rounds_0 : decode cX5_rounds 0 = .ok (.aload_n 0, 1) := by decide +kernel
theorem dX5_rounds_1 : decode cX5_rounds 1 = .ok (.iconst 0, 1) := by decide +kernel
theorem dX5_rounds_2 : decode cX5_rounds 2 = .ok (.putfield 62, 3) := by decide +kernel
theorem dX5_rounds_5 : decode cX5_rounds 5 = .ok (.aload_n 0, 1) := by decide +kernel
theorem dX5_rounds_6 : decode cX5_rounds 6 = .ok (.getfield 100, 3) := by decide +kernel
theorem dX5_rounds_9 : decode cX5_rounds 9 = .ok (.ireturn, 1) := by decide +kernel
theorem dX5_loops_0 : decode cX5_loops 0 = .ok (.aload_n 0, 1) := by decide +kernel
theorem dX5_loops_1 : decode cX5_loops 1 = .ok (.iconst 0, 1) := by decide +kernel
theorem dX5_loops_2 : decode cX5_loops 2 = .ok (.putfield 62, 3) := by decide +kernel
theorem dX5_loops_5 : decode cX5_loops 5 = .ok (.aload_n 0, 1) := by decide +kernel
theorem dX5_loops_6 : decode cX5_loops 6 = .ok (.getfield 125, 3) := by decide +kernel
theorem dX5_loops_9 : decode cX5_loops 9 = .ok (.ireturn, 1) := by decide +kernel
set_option maxRecDepth 20000 in
theorem ggX5_coins_X5_isIn : GoodIn wsX5_coins wsX5_isIn := goodIn_r _ [6] (by decide +kernel) (by decide +kernel)
set_option maxRecDepth 20000 in
theorem gX5_coins_X5_isIn : GoodIn wsX5_coins (va_wsS RX5 146 yX5_isIn wsX5_isIn) := goodIn_app (goodIn_of _ (by decide +kernel)) ggX5_coins_X5_isIn
theorem dX5_coins_0 : decode cX5_coins 0 = .ok (.aload_n 0, 1) := by decide +kernel
theorem dX5_coins_1 : decode cX5_coins 1 = .ok (.iload_n 1, 1) := by decide +kernel
theorem dX5_coins_2 : decode cX5_coins 2 = .ok (.iconst 0, 1) := by decide +kernel
theorem dX5_coins_3 : decode cX5_coins 3 = .ok (.iconst 2, 1) := by decide +kernel
theorem dX5_coins_4 : decode cX5_coins 4 = .ok (.invokestatic 146, 3) := by decide +kernel
theorem dX5_coins_7 : decode cX5_coins 7 = .ok (.ifCond .eq 7, 3) := by decide +kernel
theorem dX5_coins_10 : decode cX5_coins 10 = .ok (.iconst 0, 1) := by decide +kernel
theorem dX5_coins_11 : decode cX5_coins 11 = .ok (.goto 4, 3) := by decide +kernel
theorem dX5_coins_14 : decode cX5_coins 14 = .ok (.iconst 1, 1) := by decide +kernel
theorem dX5_coins_15 : decode cX5_coins 15 = .ok (.putfield 62, 3) := by decide +kernel
theorem dX5_coins_18 : decode cX5_coins 18 = .ok (.aload_n 0, 1) := by decide +kernel
theorem dX5_coins_19 : decode cX5_coins 19 = .ok (.getfield 62, 3) := by decide +kernel
theorem dX5_coins_22 : decode cX5_coins 22 = .ok (.ifCond .le 7, 3) := by decide +kernel
theorem dX5_coins_25 : decode cX5_coins 25 = .ok (.iconst 0, 1) := by decide +kernel
theorem dX5_coins_26 : decode cX5_coins 26 = .ok (.goto 9, 3) := by decide +kernel
theorem dX5_coins_29 : decode cX5_coins 29 = .ok (.aload_n 0, 1) := by decide +kernel
theorem dX5_coins_30 : decode cX5_coins 30 = .ok (.getfield 7, 3) := by decide +kernel
theorem dX5_coins_33 : decode cX5_coins 33 = .ok (.iload_n 1, 1) := by decide +kernel
theorem dX5_coins_34 : decode cX5_coins 34 = .ok (.iaload, 1) := by decide +kernel
theorem dX5_coins_35 : decode cX5_coins 35 = .ok (.ireturn, 1) := by decide +kernel
theorem dX5_things_0 : decode cX5_things 0 = .ok (.aload_n 0, 1) := by decide +kernel
theorem dX5_things_1 : decode cX5_things 1 = .ok (.iconst 0, 1) := by decide +kernel
theorem dX5_things_2 : decode cX5_things 2 = .ok (.putfield 62, 3) := by decide +kernel
theorem dX5_things_5 : decode cX5_things 5 = .ok (.aload_n 0, 1) := by decide +kernel
theorem dX5_things_6 : decode cX5_things 6 = .ok (.getfield 66, 3) := by decide +kernel
theorem dX5_things_9 : decode cX5_things 9 = .ok (.ireturn, 1) := by decide +kernel
set_option maxRecDepth 20000 in
theorem ggX5_cardOf_X5_isIn : GoodIn wsX5_cardOf wsX5_isIn := goodIn_r _ [7] (by decide +kernel) (by decide +kernel)
set_option maxRecDepth 20000 in
theorem gX5_cardOf_X5_isIn : GoodIn wsX5_cardOf (va_wsS RX5 146 yX5_isIn wsX5_isIn) := goodIn_app (goodIn_of _ (by decide +kernel)) ggX5_cardOf_X5_isIn
theorem dX5_cardOf_0 : decode cX5_cardOf 0 = .ok (.aload_n 0, 1) := by decide +kernel
theorem dX5_cardOf_1 : decode cX5_cardOf 1 = .ok (.iload_n 1, 1) := by decide +kernel
theorem dX5_cardOf_2 : decode cX5_cardOf 2 = .ok (.iconst 0, 1) := by decide +kernel
theorem dX5_cardOf_3 : decode cX5_cardOf 3 = .ok (.aload_n 0, 1) := by decide +kernel
