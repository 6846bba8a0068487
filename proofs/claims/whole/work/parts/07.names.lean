theorem dX5_cardOf_4 : decode cX5_cardOf 4 = .ok (.getfield 66, 3) := by decide +kernel
theorem dX5_cardOf_7 : decode cX5_cardOf 7 = .ok (.iconst 1, 1) := by decide +kernel
theorem dX5_cardOf_8 : decode cX5_cardOf 8 = .ok (.isub, 1) := by decide +kernel
theorem dX5_cardOf_9 : decode cX5_cardOf 9 = .ok (.invokestatic 146, 3) := by decide +kernel
theorem dX5_cardOf_12 : decode cX5_cardOf 12 = .ok (.ifCond .eq 7, 3) := by decide +kernel
theorem dX5_cardOf_15 : decode cX5_cardOf 15 = .ok (.iconst 0, 1) := by decide +kernel
theorem dX5_cardOf_16 : decode cX5_cardOf 16 = .ok (.goto 4, 3) := by decide +kernel
theorem dX5_cardOf_19 : decode cX5_cardOf 19 = .ok (.iconst 1, 1) := by decide +kernel
theorem dX5_cardOf_20 : decode cX5_cardOf 20 = .ok (.putfield 62, 3) := by decide +kernel
theorem dX5_cardOf_23 : decode cX5_cardOf 23 = .ok (.aload_n 0, 1) := by decide +kernel
theorem dX5_cardOf_24 : decode cX5_cardOf 24 = .ok (.getfield 62, 3) := by decide +kernel
theorem dX5_cardOf_27 : decode cX5_cardOf 27 = .ok (.ifCond .le 7, 3) := by decide +kernel
theorem dX5_cardOf_30 : decode cX5_cardOf 30 = .ok (.iconst 0, 1) := by decide +kernel
theorem dX5_cardOf_31 : decode cX5_cardOf 31 = .ok (.goto 9, 3) := by decide +kernel
theorem dX5_cardOf_34 : decode cX5_cardOf 34 = .ok (.aload_n 0, 1) := by decide +kernel
theorem dX5_cardOf_35 : decode cX5_cardOf 35 = .ok (.getfield 13, 3) := by decide +kernel
theorem dX5_cardOf_38 : decode cX5_cardOf 38 = .ok (.iload_n 1, 1) := by decide +kernel
theorem dX5_cardOf_39 : decode cX5_cardOf 39 = .ok (.iaload, 1) := by decide +kernel
theorem dX5_cardOf_40 : decode cX5_cardOf 40 = .ok (.ireturn, 1) := by decide +kernel
set_option maxRecDepth 20000 in
theorem ggX5_isLaid_X5_isIn : GoodIn wsX5_isLaid wsX5_isIn := goodIn_r _ [6] (by decide +kernel) (by decide +kernel)
set_option maxRecDepth 20000 in
theorem gX5_isLaid_X5_isIn : GoodIn wsX5_isLaid (va_wsS RX5 146 yX5_isIn wsX5_isIn) := goodIn_app (goodIn_of _ (by decide +kernel)) ggX5_isLaid_X5_isIn
set_option maxRecDepth 20000 in
theorem ggX5_isLaid_X5_lays : GoodIn wsX5_isLaid wsX5_lays := goodIn_r _ [10, 1, 11, 12, 13, 14, 15, 16, 17, 18, 19, 20, 5, 21, 22, 23, 24, 25, 26, 27, 28, 29, 30, 31, 32, 33, 34, 35, 36, 37, 38, 39, 40, 41, 42, 43, 44, 45, 46, 47, 48, 49, 50, 51, 52, 53, 54] (by decide +kernel) (by decide +kernel)
set_option maxRecDepth 20000 in
theorem gX5_isLaid_X5_lays : GoodIn wsX5_isLaid (wsV RX5 83 RX5 yX5_lays wsX5_lays) := goodIn_app (goodIn_of _ (by decide +kernel)) ggX5_isLaid_X5_lays
theorem dX5_isLaid_0 : decode cX5_isLaid 0 = .ok (.aload_n 0, 1) := by decide +kernel
theorem dX5_isLaid_1 : decode cX5_isLaid 1 = .ok (.iload_n 1, 1) := by decide +kernel
theorem dX5_isLaid_2 : decode cX5_isLaid 2 = .ok (.iconst 0, 1) := by decide +kernel
theorem dX5_isLaid_3 : decode cX5_isLaid 3 = .ok (.aload_n 0, 1) := by decide +kernel
theorem dX5_isLaid_4 : decode cX5_isLaid 4 = .ok (.getfield 66, 3) := by decide +kernel
theorem dX5_isLaid_7 : decode cX5_isLaid 7 = .ok (.iconst 1, 1) := by decide +kernel
theorem dX5_isLaid_8 : decode cX5_isLaid 8 = .ok (.isub, 1) := by decide +kernel
theorem dX5_isLaid_9 : decode cX5_isLaid 9 = .ok (.invokestatic 146, 3) := by decide +kernel
theorem dX5_isLaid_12 : decode cX5_isLaid 12 = .ok (.ifCond .ne 7, 3) := by decide +kernel
theorem dX5_isLaid_15 : decode cX5_isLaid 15 = .ok (.iconst 1, 1) := by decide +kernel
theorem dX5_isLaid_16 : decode cX5_isLaid 16 = .ok (.goto 17, 3) := by decide +kernel
theorem dX5_isLaid_19 : decode cX5_isLaid 19 = .ok (.iload_n 2, 1) := by decide +kernel
theorem dX5_isLaid_20 : decode cX5_isLaid 20 = .ok (.iconst 0, 1) := by decide +kernel
theorem dX5_isLaid_21 : decode cX5_isLaid 21 = .ok (.iconst 5, 1) := by decide +kernel
theorem dX5_isLaid_22 : decode cX5_isLaid 22 = .ok (.invokestatic 146, 3) := by decide +kernel
theorem dX5_isLaid_25 : decode cX5_isLaid 25 = .ok (.ifCond .eq 7, 3) := by decide +kernel
theorem dX5_isLaid_28 : decode cX5_isLaid 28 = .ok (.iconst 0, 1) := by decide +kernel
theorem dX5_isLaid_29 : decode cX5_isLaid 29 = .ok (.goto 4, 3) := by decide +kernel
theorem dX5_isLaid_32 : decode cX5_isLaid 32 = .ok (.iconst 2, 1) := by decide +kernel
theorem dX5_isLaid_33 : decode cX5_isLaid 33 = .ok (.putfield 62, 3) := by decide +kernel
theorem dX5_isLaid_36 : decode cX5_isLaid 36 = .ok (.aload_n 0, 1) := by decide +kernel
theorem dX5_isLaid_37 : decode cX5_isLaid 37 = .ok (.getfield 62, 3) := by decide +kernel
theorem dX5_isLaid_40 : decode cX5_isLaid 40 = .ok (.ifCond .ne 8, 3) := by decide +kernel
theorem dX5_isLaid_43 : decode cX5_isLaid 43 = .ok (.aload_n 0, 1) := by decide +kernel
theorem dX5_isLaid_44 : decode cX5_isLaid 44 = .ok (.iload_n 2, 1) := by decide +kernel
theorem dX5_isLaid_45 : decode cX5_isLaid 45 = .ok (.invokevirtual 83, 3) := by decide +kernel
theorem dX5_isLaid_48 : decode cX5_isLaid 48 = .ok (.aload_n 0, 1) := by decide +kernel
theorem dX5_isLaid_49 : decode cX5_isLaid 49 = .ok (.getfield 62, 3) := by decide +kernel
theorem dX5_isLaid_52 : decode cX5_isLaid 52 = .ok (.ifCond .ne 7, 3) := by decide +kernel
theorem dX5_isLaid_55 : decode cX5_isLaid 55 = .ok (.iconst 1, 1) := by decide +kernel
theorem dX5_isLaid_56 : decode cX5_isLaid 56 = .ok (.goto 4, 3) := by decide +kernel
theorem dX5_isLaid_59 : decode cX5_isLaid 59 = .ok (.iconst 0, 1) := by decide +kernel
theorem dX5_isLaid_60 : decode cX5_isLaid 60 = .ok (.ireturn, 1) := by decide +kernel
set_option maxRecDepth 20000 in
theorem ggX5_controllerOf_X5_isLaid : GoodIn wsX5_controllerOf wsX5_isLaid := goodIn_r _ [6, 7, 8, 9, 10, 5, 11, 12, 13, 14, 15, 1, 16, 17, 18, 19, 20, 21, 22, 23, 24, 25, 26, 27, 28, 29, 30, 31, 32, 33, 34, 35, 36, 37, 38, 39, 40, 41, 42, 43, 44, 45, 46, 47, 48, 49, 50, 51, 52, 53, 54, 55, 56, 57, 58] (by decide +kernel) (by decide +kernel)
set_option maxRecDepth 20000 in
theorem gX5_controllerOf_X5_isLaid : GoodIn wsX5_controllerOf (wsV RX5 160 RX5 yX5_isLaid wsX5_isLaid) := goodIn_app (goodIn_of _ (by decide +kernel)) ggX5_controllerOf_X5_isLaid
theorem dX5_controllerOf_0 : decode cX5_controllerOf 0 = .ok (.aload_n 0, 1) := by decide +kernel
theorem dX5_controllerOf_1 : decode cX5_controllerOf 1 = .ok (.iload_n 1, 1) := by decide +kernel
theorem dX5_controllerOf_2 : decode cX5_controllerOf 2 = .ok (.iload_n 2, 1) := by decide +kernel
theorem dX5_controllerOf_3 : decode cX5_controllerOf 3 = .ok (.invokevirtual 160, 3) := by decide +kernel
theorem dX5_controllerOf_6 : decode cX5_controllerOf 6 = .ok (.ifCond .eq 12, 3) := by decide +kernel
theorem dX5_controllerOf_9 : decode cX5_controllerOf 9 = .ok (.aload_n 0, 1) := by decide +kernel
theorem dX5_controllerOf_10 : decode cX5_controllerOf 10 = .ok (.getfield 41, 3) := by decide +kernel
theorem dX5_controllerOf_13 : decode cX5_controllerOf 13 = .ok (.iload_n 1, 1) := by decide +kernel
theorem dX5_controllerOf_14 : decode cX5_controllerOf 14 = .ok (.iaload, 1) := by decide +kernel
theorem dX5_controllerOf_15 : decode cX5_controllerOf 15 = .ok (.goto 4, 3) := by decide +kernel
theorem dX5_controllerOf_18 : decode cX5_controllerOf 18 = .ok (.iconst 0, 1) := by decide +kernel
theorem dX5_controllerOf_19 : decode cX5_controllerOf 19 = .ok (.ireturn, 1) := by decide +kernel
set_option maxRecDepth 20000 in
theorem ggX5_kindsOf_X5_isLaid : GoodIn wsX5_kindsOf wsX5_isLaid := goodIn_r _ [6, 7, 8, 9, 10, 5, 11, 12, 13, 14, 15, 16, 17, 1, 18, 19, 20, 21, 22, 23, 24, 25, 26, 27, 28, 29, 30, 31, 32, 33, 34, 35, 36, 37, 38, 39, 40, 41, 42, 43, 44, 45, 46, 47, 48, 49, 50, 51, 52, 53, 54, 55, 56, 57, 58] (by decide +kernel) (by decide +kernel)
set_option maxRecDepth 20000 in
theorem gX5_kindsOf_X5_isLaid : GoodIn wsX5_kindsOf (wsV RX5 160 RX5 yX5_isLaid wsX5_isLaid) := goodIn_app (goodIn_of _ (by decide +kernel)) ggX5_kindsOf_X5_isLaid
theorem dX5_kindsOf_0 : decode cX5_kindsOf 0 = .ok (.aload_n 0, 1) := by decide +kernel
theorem dX5_kindsOf_1 : decode cX5_kindsOf 1 = .ok (.iload_n 1, 1) := by decide +kernel
theorem dX5_kindsOf_2 : decode cX5_kindsOf 2 = .ok (.iload_n 2, 1) := by decide +kernel
theorem dX5_kindsOf_3 : decode cX5_kindsOf 3 = .ok (.invokevirtual 160, 3) := by decide +kernel
theorem dX5_kindsOf_6 : decode cX5_kindsOf 6 = .ok (.ifCond .eq 12, 3) := by decide +kernel
theorem dX5_kindsOf_9 : decode cX5_kindsOf 9 = .ok (.aload_n 0, 1) := by decide +kernel
theorem dX5_kindsOf_10 : decode cX5_kindsOf 10 = .ok (.getfield 44, 3) := by decide +kernel
theorem dX5_kindsOf_13 : decode cX5_kindsOf 13 = .ok (.iload_n 1, 1) := by decide +kernel
theorem dX5_kindsOf_14 : decode cX5_kindsOf 14 = .ok (.iaload, 1) := by decide +kernel
theorem dX5_kindsOf_15 : decode cX5_kindsOf 15 = .ok (.goto 4, 3) := by decide +kernel
theorem dX5_kindsOf_18 : decode cX5_kindsOf 18 = .ok (.iconst 0, 1) := by decide +kernel
theorem dX5_kindsOf_19 : decode cX5_kindsOf 19 = .ok (.ireturn, 1) := by decide +kernel
set_option maxRecDepth 20000 in
theorem ggX5_strengthOf_X5_isLaid : GoodIn wsX5_strengthOf wsX5_isLaid := goodIn_r _ [6, 7, 8, 9, 10, 5, 11, 12, 13, 14, 15, 16, 17, 18, 19, 1, 20, 21, 22, 23, 24, 25, 26, 27, 28, 29, 30, 31, 32, 33, 34, 35, 36, 37, 38, 39, 40, 41, 42, 43, 44, 45, 46, 47, 48, 49, 50, 51, 52, 53, 54, 55, 56, 57, 58] (by decide +kernel) (by decide +kernel)
set_option maxRecDepth 20000 in
theorem gX5_strengthOf_X5_isLaid : GoodIn wsX5_strengthOf (wsV RX5 160 RX5 yX5_isLaid wsX5_isLaid) := goodIn_app (goodIn_of _ (by decide +kernel)) ggX5_strengthOf_X5_isLaid
theorem dX5_strengthOf_0 : decode cX5_strengthOf 0 = .ok (.aload_n 0, 1) := by decide +kernel
theorem dX5_strengthOf_1 : decode cX5_strengthOf 1 = .ok (.iload_n 1, 1) := by decide +kernel
theorem dX5_strengthOf_2 : decode cX5_strengthOf 2 = .ok (.iload_n 2, 1) := by decide +kernel
theorem dX5_strengthOf_3 : decode cX5_strengthOf 3 = .ok (.invokevirtual 160, 3) := by decide +kernel
theorem dX5_strengthOf_6 : decode cX5_strengthOf 6 = .ok (.ifCond .eq 12, 3) := by decide +kernel
theorem dX5_strengthOf_9 : decode cX5_strengthOf 9 = .ok (.aload_n 0, 1) := by decide +kernel
theorem dX5_strengthOf_10 : decode cX5_strengthOf 10 = .ok (.getfield 47, 3) := by decide +kernel
theorem dX5_strengthOf_13 : decode cX5_strengthOf 13 = .ok (.iload_n 1, 1) := by decide +kernel
theorem dX5_strengthOf_14 : decode cX5_strengthOf 14 = .ok (.iaload, 1) := by decide +kernel
theorem dX5_strengthOf_15 : decode cX5_strengthOf 15 = .ok (.goto 4, 3) := by decide +kernel
theorem dX5_strengthOf_18 : decode cX5_strengthOf 18 = .ok (.iconst 0, 1) := by decide +kernel
theorem dX5_strengthOf_19 : decode cX5_strengthOf 19 = .ok (.ireturn, 1) := by decide +kernel
set_option maxRecDepth 20000 in
theorem ggX5_power_X5_isIn : GoodIn wsX5_power wsX5_isIn := goodIn_r _ [9] (by decide +kernel) (by decide +kernel)
set_option maxRecDepth 20000 in
theorem gX5_power_X5_isIn : GoodIn wsX5_power (va_wsS RX5 146 yX5_isIn wsX5_isIn) := goodIn_app (goodIn_of _ (by decide +kernel)) ggX5_power_X5_isIn
set_option maxRecDepth 20000 in
theorem ggX5_power_X5_lays : GoodIn wsX5_power wsX5_lays := goodIn_r _ [13, 2, 3, 14, 4, 15, 5, 16, 17, 18, 19, 20, 8, 21, 22, 23, 24, 25, 26, 27, 28, 29, 30, 31, 32, 33, 34, 35, 36, 37, 38, 39, 40, 41, 42, 43, 44, 45, 46, 47, 48, 49, 50, 51, 52, 53, 54] (by decide +kernel) (by decide +kernel)
set_option maxRecDepth 20000 in
theorem gX5_power_X5_lays : GoodIn wsX5_power (wsV RX5 83 RX5 yX5_lays wsX5_lays) := goodIn_app (goodIn_of _ (by decide +kernel)) ggX5_power_X5_lays
theorem dX5_power_0 : decode cX5_power 0 = .ok (.aload_n 0, 1) := by decide +kernel
theorem dX5_power_1 : decode cX5_power 1 = .ok (.iload_n 1, 1) := by decide +kernel
theorem dX5_power_2 : decode cX5_power 2 = .ok (.iconst 0, 1) := by decide +kernel
theorem dX5_power_3 : decode cX5_power 3 = .ok (.iconst 2, 1) := by decide +kernel
theorem dX5_power_4 : decode cX5_power 4 = .ok (.invokestatic 146, 3) := by decide +kernel
theorem dX5_power_7 : decode cX5_power 7 = .ok (.ifCond .eq 7, 3) := by decide +kernel
theorem dX5_power_10 : decode cX5_power 10 = .ok (.iconst 0, 1) := by decide +kernel
theorem dX5_power_11 : decode cX5_power 11 = .ok (.goto 4, 3) := by decide +kernel
theorem dX5_power_14 : decode cX5_power 14 = .ok (.iconst 1, 1) := by decide +kernel
theorem dX5_power_15 : decode cX5_power 15 = .ok (.putfield 62, 3) := by decide +kernel
theorem dX5_power_18 : decode cX5_power 18 = .ok (.aload_n 0, 1) := by decide +kernel
theorem dX5_power_19 : decode cX5_power 19 = .ok (.getfield 62, 3) := by decide +kernel
theorem dX5_power_22 : decode cX5_power 22 = .ok (.ifCond .le 5, 3) := by decide +kernel
theorem dX5_power_25 : decode cX5_power 25 = .ok (.iconst 0, 1) := by decide +kernel
theorem dX5_power_26 : decode cX5_power 26 = .ok (.ireturn, 1) := by decide +kernel
theorem dX5_power_27 : decode cX5_power 27 = .ok (.aload_n 0, 1) := by decide +kernel
theorem dX5_power_28 : decode cX5_power 28 = .ok (.iconst 5, 1) := by decide +kernel
theorem dX5_power_29 : decode cX5_power 29 = .ok (.invokevirtual 83, 3) := by decide +kernel
theorem dX5_power_32 : decode cX5_power 32 = .ok (.iconst 0, 1) := by decide +kernel
theorem dX5_power_33 : decode cX5_power 33 = .ok (.istore_n 2, 1) := by decide +kernel
theorem dX5_power_34 : decode cX5_power 34 = .ok (.iconst 0, 1) := by decide +kernel
theorem dX5_power_35 : decode cX5_power 35 = .ok (.istore_n 3, 1) := by decide +kernel
theorem dX5_power_36 : decode cX5_power 36 = .ok (.iload_n 3, 1) := by decide +kernel
theorem dX5_power_37 : decode cX5_power 37 = .ok (.aload_n 0, 1) := by decide +kernel
theorem dX5_power_38 : decode cX5_power 38 = .ok (.getfield 66, 3) := by decide +kernel
theorem dX5_power_41 : decode cX5_power 41 = .ok (.if_icmp .ge 44, 3) := by decide +kernel
theorem dX5_power_44 : decode cX5_power 44 = .ok (.iload_n 2, 1) := by decide +kernel
theorem dX5_power_45 : decode cX5_power 45 = .ok (.aload_n 0, 1) := by decide +kernel
theorem dX5_power_46 : decode cX5_power 46 = .ok (.getfield 41, 3) := by decide +kernel
theorem dX5_power_49 : decode cX5_power 49 = .ok (.iload_n 3, 1) := by decide +kernel
theorem dX5_power_50 : decode cX5_power 50 = .ok (.iaload, 1) := by decide +kernel
theorem dX5_power_51 : decode cX5_power 51 = .ok (.iload_n 1, 1) := by decide +kernel
theorem dX5_power_52 : decode cX5_power 52 = .ok (.if_icmp .ne 24, 3) := by decide +kernel
theorem dX5_power_55 : decode cX5_power 55 = .ok (.aload_n 0, 1) := by decide +kernel
theorem dX5_power_56 : decode cX5_power 56 = .ok (.getfield 44, 3) := by decide +kernel
theorem dX5_power_59 : decode cX5_power 59 = .ok (.iload_n 3, 1) := by decide +kernel
theorem dX5_power_60 : decode cX5_power 60 = .ok (.iaload, 1) := by decide +kernel
theorem dX5_power_61 : decode cX5_power 61 = .ok (.iconst 1, 1) := by decide +kernel
theorem dX5_power_62 : decode cX5_power 62 = .ok (.iand, 1) := by decide +kernel
theorem dX5_power_63 : decode cX5_power 63 = .ok (.iconst 1, 1) := by decide +kernel
theorem dX5_power_64 : decode cX5_power 64 = .ok (.if_icmp .ne 12, 3) := by decide +kernel
theorem dX5_power_67 : decode cX5_power 67 = .ok (.aload_n 0, 1) := by decide +kernel
theorem dX5_power_68 : decode cX5_power 68 = .ok (.getfield 47, 3) := by decide +kernel
theorem dX5_power_71 : decode cX5_power 71 = .ok (.iload_n 3, 1) := by decide +kernel
theorem dX5_power_72 : decode cX5_power 72 = .ok (.iaload, 1) := by decide +kernel
theorem dX5_power_73 : decode cX5_power 73 = .ok (.goto 4, 3) := by decide +kernel
theorem dX5_power_76 : decode cX5_power 76 = .ok (.iconst 0, 1) := by decide +kernel
theorem dX5_power_77 : decode cX5_power 77 = .ok (.iadd, 1) := by decide +kernel
theorem dX5_power_78 : decode cX5_power 78 = .ok (.istore_n 2, 1) := by decide +kernel
theorem dX5_power_79 : decode cX5_power 79 = .ok (.iinc 3 1, 3) := by decide +kernel
theorem dX5_power_82 : decode cX5_power 82 = .ok (.goto (-46), 3) := by decide +kernel
theorem dX5_power_85 : decode cX5_power 85 = .ok (.iload_n 2, 1) := by decide +kernel
theorem dX5_power_86 : decode cX5_power 86 = .ok (.ireturn, 1) := by decide +kernel
theorem dX5_stack_0 : decode cX5_stack 0 = .ok (.aload_n 0, 1) := by decide +kernel
theorem dX5_stack_1 : decode cX5_stack 1 = .ok (.iconst 0, 1) := by decide +kernel
theorem dX5_stack_2 : decode cX5_stack 2 = .ok (.putfield 62, 3) := by decide +kernel
theorem dX5_stack_5 : decode cX5_stack 5 = .ok (.aload_n 0, 1) := by decide +kernel
theorem dX5_stack_6 : decode cX5_stack 6 = .ok (.getfield 69, 3) := by decide +kernel
theorem dX5_stack_9 : decode cX5_stack 9 = .ok (.ireturn, 1) := by decide +kernel
set_option maxRecDepth 20000 in
theorem ggX5_isEntry_X5_isIn : GoodIn wsX5_isEntry wsX5_isIn := goodIn_r _ [6] (by decide +kernel) (by decide +kernel)
set_option maxRecDepth 20000 in
theorem gX5_isEntry_X5_isIn : GoodIn wsX5_isEntry (va_wsS RX5 146 yX5_isIn wsX5_isIn) := goodIn_app (goodIn_of _ (by decide +kernel)) ggX5_isEntry_X5_isIn
theorem dX5_isEntry_0 : decode cX5_isEntry 0 = .ok (.aload_n 0, 1) := by decide +kernel
theorem dX5_isEntry_1 : decode cX5_isEntry 1 = .ok (.iload_n 1, 1) := by decide +kernel
theorem dX5_isEntry_2 : decode cX5_isEntry 2 = .ok (.iconst 0, 1) := by decide +kernel
theorem dX5_isEntry_3 : decode cX5_isEntry 3 = .ok (.aload_n 0, 1) := by decide +kernel
theorem dX5_isEntry_4 : decode cX5_isEntry 4 = .ok (.getfield 69, 3) := by decide +kernel
theorem dX5_isEntry_7 : decode cX5_isEntry 7 = .ok (.iconst 1, 1) := by decide +kernel
theorem dX5_isEntry_8 : decode cX5_isEntry 8 = .ok (.isub, 1) := by decide +kernel
theorem dX5_isEntry_9 : decode cX5_isEntry 9 = .ok (.invokestatic 146, 3) := by decide +kernel
theorem dX5_isEntry_12 : decode cX5_isEntry 12 = .ok (.ifCond .eq 7, 3) := by decide +kernel
theorem dX5_isEntry_15 : decode cX5_isEntry 15 = .ok (.iconst 0, 1) := by decide +kernel
theorem dX5_isEntry_16 : decode cX5_isEntry 16 = .ok (.goto 4, 3) := by decide +kernel
theorem dX5_isEntry_19 : decode cX5_isEntry 19 = .ok (.iconst 1, 1) := by decide +kernel
theorem dX5_isEntry_20 : decode cX5_isEntry 20 = .ok (.putfield 62, 3) := by decide +kernel
theorem dX5_isEntry_23 : decode cX5_isEntry 23 = .ok (.aload_n 0, 1) := by decide +kernel
theorem dX5_isEntry_24 : decode cX5_isEntry 24 = .ok (.getfield 62, 3) := by decide +kernel
theorem dX5_isEntry_27 : decode cX5_isEntry 27 = .ok (.ifCond .ne 7, 3) := by decide +kernel
theorem dX5_isEntry_30 : decode cX5_isEntry 30 = .ok (.iconst 1, 1) := by decide +kernel
theorem dX5_isEntry_31 : decode cX5_isEntry 31 = .ok (.goto 4, 3) := by decide +kernel
theorem dX5_isEntry_34 : decode cX5_isEntry 34 = .ok (.iconst 0, 1) := by decide +kernel
theorem dX5_isEntry_35 : decode cX5_isEntry 35 = .ok (.ireturn, 1) := by decide +kernel
set_option maxRecDepth 20000 in
theorem ggX5_entryCard_X5_isEntry : GoodIn wsX5_entryCard wsX5_isEntry := goodIn_r _ [7, 2, 8, 9, 10, 6, 11, 12, 13, 14, 15, 16, 17, 18, 19, 20, 21, 22, 23, 24, 25, 26, 27, 28, 29, 30, 31, 32, 33, 34, 35, 36, 37, 38] (by decide +kernel) (by decide +kernel)
set_option maxRecDepth 20000 in
theorem gX5_entryCard_X5_isEntry : GoodIn wsX5_entryCard (wsV RX5 164 RX5 yX5_isEntry wsX5_isEntry) := goodIn_app (goodIn_of _ (by decide +kernel)) ggX5_entryCard_X5_isEntry
theorem dX5_entryCard_0 : decode cX5_entryCard 0 = .ok (.aload_n 0, 1) := by decide +kernel
theorem dX5_entryCard_1 : decode cX5_entryCard 1 = .ok (.iload_n 1, 1) := by decide +kernel
theorem dX5_entryCard_2 : decode cX5_entryCard 2 = .ok (.invokevirtual 164, 3) := by decide +kernel
theorem dX5_entryCard_5 : decode cX5_entryCard 5 = .ok (.ifCond .eq 19, 3) := by decide +kernel
theorem dX5_entryCard_8 : decode cX5_entryCard 8 = .ok (.aload_n 0, 1) := by decide +kernel
theorem dX5_entryCard_9 : decode cX5_entryCard 9 = .ok (.getfield 25, 3) := by decide +kernel
theorem dX5_entryCard_12 : decode cX5_entryCard 12 = .ok (.aload_n 0, 1) := by decide +kernel
theorem dX5_entryCard_13 : decode cX5_entryCard 13 = .ok (.getfield 69, 3) := by decide +kernel
theorem dX5_entryCard_16 : decode cX5_entryCard 16 = .ok (.iconst 1, 1) := by decide +kernel
theorem dX5_entryCard_17 : decode cX5_entryCard 17 = .ok (.isub, 1) := by decide +kernel
theorem dX5_entryCard_18 : decode cX5_entryCard 18 = .ok (.iload_n 1, 1) := by decide +kernel
theorem dX5_entryCard_19 : decode cX5_entryCard 19 = .ok (.isub, 1) := by decide +kernel
theorem dX5_entryCard_20 : decode cX5_entryCard 20 = .ok (.iaload, 1) := by decide +kernel
theorem dX5_entryCard_21 : decode cX5_entryCard 21 = .ok (.goto 4, 3) := by decide +kernel
theorem dX5_entryCard_24 : decode cX5_entryCard 24 = .ok (.iconst 0, 1) := by decide +kernel
theorem dX5_entryCard_25 : decode cX5_entryCard 25 = .ok (.ireturn, 1) := by decide +kernel
set_option maxRecDepth 20000 in
theorem ggX5_isTrigger_X5_isEntry : GoodIn wsX5_isTrigger wsX5_isEntry := goodIn_r _ [7, 2, 8, 9, 10, 6, 11, 12, 13, 14, 15, 16, 17, 18, 19, 20, 21, 22, 23, 24, 25, 26, 27, 28, 29, 30, 31, 32, 33, 34, 35, 36, 37, 38] (by decide +kernel) (by decide +kernel)
set_option maxRecDepth 20000 in
theorem gX5_isTrigger_X5_isEntry : GoodIn wsX5_isTrigger (wsV RX5 164 RX5 yX5_isEntry wsX5_isEntry) := goodIn_app (goodIn_of _ (by decide +kernel)) ggX5_isTrigger_X5_isEntry
theorem dX5_isTrigger_0 : decode cX5_isTrigger 0 = .ok (.aload_n 0, 1) := by decide +kernel
theorem dX5_isTrigger_1 : decode cX5_isTrigger 1 = .ok (.iload_n 1, 1) := by decide +kernel
theorem dX5_isTrigger_2 : decode cX5_isTrigger 2 = .ok (.invokevirtual 164, 3) := by decide +kernel
theorem dX5_isTrigger_5 : decode cX5_isTrigger 5 = .ok (.ifCond .eq 23, 3) := by decide +kernel
theorem dX5_isTrigger_8 : decode cX5_isTrigger 8 = .ok (.aload_n 0, 1) := by decide +kernel
theorem dX5_isTrigger_9 : decode cX5_isTrigger 9 = .ok (.getfield 28, 3) := by decide +kernel
theorem dX5_isTrigger_12 : decode cX5_isTrigger 12 = .ok (.aload_n 0, 1) := by decide +kernel
theorem dX5_isTrigger_13 : decode cX5_isTrigger 13 = .ok (.getfield 69, 3) := by decide +kernel
theorem dX5_isTrigger_16 : decode cX5_isTrigger 16 = .ok (.iconst 1, 1) := by decide +kernel
theorem dX5_isTrigger_17 : decode cX5_isTrigger 17 = .ok (.isub, 1) := by decide +kernel
theorem dX5_isTrigger_18 : decode cX5_isTrigger 18 = .ok (.iload_n 1, 1) := by decide +kernel
theorem dX5_isTrigger_19 : decode cX5_isTrigger 19 = .ok (.isub, 1) := by decide +kernel
theorem dX5_isTrigger_20 : decode cX5_isTrigger 20 = .ok (.baload, 1) := by decide +kernel
theorem dX5_isTrigger_21 : decode cX5_isTrigger 21 = .ok (.ifCond .eq 7, 3) := by decide +kernel
theorem dX5_isTrigger_24 : decode cX5_isTrigger 24 = .ok (.iconst 1, 1) := by decide +kernel
theorem dX5_isTrigger_25 : decode cX5_isTrigger 25 = .ok (.goto 4, 3) := by decide +kernel
theorem dX5_isTrigger_28 : decode cX5_isTrigger 28 = .ok (.iconst 0, 1) := by decide +kernel
theorem dX5_isTrigger_29 : decode cX5_isTrigger 29 = .ok (.ireturn, 1) := by decide +kernel
set_option maxRecDepth 20000 in
theorem ggX5_entryPlayer_X5_isEntry : GoodIn wsX5_entryPlayer wsX5_isEntry := goodIn_r _ [7, 2, 8, 9, 10, 6, 11, 12, 13, 14, 15, 16, 17, 18, 19, 20, 21, 22, 23, 24, 25, 26, 27, 28, 29, 30, 31, 32, 33, 34, 35, 36, 37, 38] (by decide +kernel) (by decide +kernel)
set_option maxRecDepth 20000 in
theorem gX5_entryPlayer_X5_isEntry : GoodIn wsX5_entryPlayer (wsV RX5 164 RX5 yX5_isEntry wsX5_isEntry) := goodIn_app (goodIn_of _ (by decide +kernel)) ggX5_entryPlayer_X5_isEntry
theorem dX5_entryPlayer_0 : decode cX5_entryPlayer 0 = .ok (.aload_n 0, 1) := by decide +kernel
theorem dX5_entryPlayer_1 : decode cX5_entryPlayer 1 = .ok (.iload_n 1, 1) := by decide +kernel
theorem dX5_entryPlayer_2 : decode cX5_entryPlayer 2 = .ok (.invokevirtual 164, 3) := by decide +kernel
theorem dX5_entryPlayer_5 : decode cX5_entryPlayer 5 = .ok (.ifCond .eq 19, 3) := by decide +kernel
theorem dX5_entryPlayer_8 : decode cX5_entryPlayer 8 = .ok (.aload_n 0, 1) := by decide +kernel
theorem dX5_entryPlayer_9 : decode cX5_entryPlayer 9 = .ok (.getfield 32, 3) := by decide +kernel
theorem dX5_entryPlayer_12 : decode cX5_entryPlayer 12 = .ok (.aload_n 0, 1) := by decide +kernel
theorem dX5_entryPlayer_13 : decode cX5_entryPlayer 13 = .ok (.getfield 69, 3) := by decide +kernel
theorem dX5_entryPlayer_16 : decode cX5_entryPlayer 16 = .ok (.iconst 1, 1) := by decide +kernel
theorem dX5_entryPlayer_17 : decode cX5_entryPlayer 17 = .ok (.isub, 1) := by decide +kernel
theorem dX5_entryPlayer_18 : decode cX5_entryPlayer 18 = .ok (.iload_n 1, 1) := by decide +kernel
theorem dX5_entryPlayer_19 : decode cX5_entryPlayer 19 = .ok (.isub, 1) := by decide +kernel
theorem dX5_entryPlayer_20 : decode cX5_entryPlayer 20 = .ok (.iaload, 1) := by decide +kernel
theorem dX5_entryPlayer_21 : decode cX5_entryPlayer 21 = .ok (.goto 4, 3) := by decide +kernel
theorem dX5_entryPlayer_24 : decode cX5_entryPlayer 24 = .ok (.iconst 0, 1) := by decide +kernel
theorem dX5_entryPlayer_25 : decode cX5_entryPlayer 25 = .ok (.ireturn, 1) := by decide +kernel
set_option maxRecDepth 20000 in
theorem ggX5_entryTarget_X5_isEntry : GoodIn wsX5_entryTarget wsX5_isEntry := goodIn_r _ [6, 1, 7, 8, 9, 5, 10, 29, 30, 31, 32, 33, 34, 35, 36, 37, 38, 39, 40, 41, 42, 43, 44, 45, 46, 47, 48, 49, 50, 51, 52, 53, 54, 55] (by decide +kernel) (by decide +kernel)
set_option maxRecDepth 20000 in
theorem gX5_entryTarget_X5_isEntry : GoodIn wsX5_entryTarget (wsV RX5 164 RX5 yX5_isEntry wsX5_isEntry) := goodIn_app (goodIn_of _ (by decide +kernel)) ggX5_entryTarget_X5_isEntry
set_option maxRecDepth 20000 in
theorem ggX5_entryTarget_X5_targetOf : GoodIn wsX5_entryTarget wsX5_targetOf := goodIn_r _ [14, 15, 16, 17, 18, 19, 20, 5, 21, 22, 23, 24, 25, 26, 27, 1, 28, 29, 30, 31, 32, 33, 34, 35, 36, 37, 38, 39, 40, 41, 42, 43, 44, 45, 46, 47, 48, 49, 50, 51, 52, 53, 54, 55] (by decide +kernel) (by decide +kernel)
set_option maxRecDepth 20000 in
theorem gX5_entryTarget_X5_targetOf : GoodIn wsX5_entryTarget (wsV RX5 119 RX5 yX5_targetOf wsX5_targetOf) := goodIn_app (goodIn_of _ (by decide +kernel)) ggX5_entryTarget_X5_targetOf
theorem dX5_entryTarget_0 : decode cX5_entryTarget 0 = .ok (.aload_n 0, 1) := by decide +kernel
theorem dX5_entryTarget_1 : decode cX5_entryTarget 1 = .ok (.iload_n 1, 1) := by decide +kernel
theorem dX5_entryTarget_2 : decode cX5_entryTarget 2 = .ok (.invokevirtual 164, 3) := by decide +kernel
theorem dX5_entryTarget_5 : decode cX5_entryTarget 5 = .ok (.ifCond .eq 18, 3) := by decide +kernel
theorem dX5_entryTarget_8 : decode cX5_entryTarget 8 = .ok (.aload_n 0, 1) := by decide +kernel
theorem dX5_entryTarget_9 : decode cX5_entryTarget 9 = .ok (.aload_n 0, 1) := by decide +kernel
theorem dX5_entryTarget_10 : decode cX5_entryTarget 10 = .ok (.getfield 69, 3) := by decide +kernel
theorem dX5_entryTarget_13 : decode cX5_entryTarget 13 = .ok (.iconst 1, 1) := by decide +kernel
theorem dX5_entryTarget_14 : decode cX5_entryTarget 14 = .ok (.isub, 1) := by decide +kernel
theorem dX5_entryTarget_15 : decode cX5_entryTarget 15 = .ok (.iload_n 1, 1) := by decide +kernel
theorem dX5_entryTarget_16 : decode cX5_entryTarget 16 = .ok (.isub, 1) := by decide +kernel
theorem dX5_entryTarget_17 : decode cX5_entryTarget 17 = .ok (.invokevirtual 119, 3) := by decide +kernel
theorem dX5_entryTarget_20 : decode cX5_entryTarget 20 = .ok (.goto 4, 3) := by decide +kernel
theorem dX5_entryTarget_23 : decode cX5_entryTarget 23 = .ok (.iconst 0, 1) := by decide +kernel
theorem dX5_entryTarget_24 : decode cX5_entryTarget 24 = .ok (.ireturn, 1) := by decide +kernel
set_option maxRecDepth 20000 in
theorem ggL_play_X4_play : GoodIn wsL_play wsX4_play := goodIn_ca (goodIn_ca (goodIn_r _ [7, 8, 9, 10, 11, 12, 13, 14, 15, 16, 17, 18, 19, 6, 20, 21, 22, 23, 24, 25, 26, 27, 28, 29, 30, 31, 32, 33, 34, 35, 36, 37, 38, 39, 40, 41, 42, 43, 44, 45, 46, 47, 48, 49, 50, 51, 52, 53, 54, 55, 56, 57, 58, 59, 60, 61, 62, 63, 64, 65, 66, 67, 68, 69, 70, 71, 72, 73, 74, 75, 76, 77, 78, 79, 80, 81, 82, 83, 84, 85, 86, 87, 88, 89, 90, 91, 92, 93, 94, 95, 96, 97, 98, 99, 100, 101, 102, 103, 104, 105, 106, 107, 108, 109, 110, 111, 112, 113, 114, 115, 116, 117] (by decide +kernel) (by decide +kernel)) (goodIn_sub (fun _ h => List.mem_cons_of_mem _ (List.mem_append_left _ (List.mem_append_right _ h))) (by decide +kernel))) (goodIn_sub (fun _ h => List.mem_cons_of_mem _ (List.mem_append_right _ h)) (by decide +kernel))
set_option maxRecDepth 20000 in
theorem gL_play_X4_play : GoodIn wsL_play (wsV RL 7 RX4 yX4_play wsX4_play) := goodIn_app (goodIn_of _ (by decide +kernel)) ggL_play_X4_play
theorem dL_play_0 : decode cL_play 0 = .ok (.aload_n 3, 1) := by decide +kernel
theorem dL_play_1 : decode cL_play 1 = .ok (.iconst 0, 1) := by decide +kernel
theorem dL_play_2 : decode cL_play 2 = .ok (.aload_n 0, 1) := by decide +kernel
theorem dL_play_3 : decode cL_play 3 = .ok (.iload_n 1, 1) := by decide +kernel
theorem dL_play_4 : decode cL_play 4 = .ok (.iload_n 2, 1) := by decide +kernel
theorem dL_play_5 : decode cL_play 5 = .ok (.invokevirtual 7, 3) := by decide +kernel
theorem dL_play_8 : decode cL_play 8 = .ok (.i2l, 1) := by decide +kernel
theorem dL_play_9 : decode cL_play 9 = .ok (.lastore, 1) := by decide +kernel
theorem dL_play_10 : decode cL_play 10 = .ok (.goto 11, 3) := by decide +kernel
theorem dL_play_13 : decode cL_play 13 = .ok (.astore 4, 2) := by decide +kernel
theorem dL_play_15 : decode cL_play 15 = .ok (.iconst 1, 1) := by decide +kernel
theorem dL_play_16 : decode cL_play 16 = .ok (.ireturn, 1) := by decide +kernel
theorem dL_play_17 : decode cL_play 17 = .ok (.astore 4, 2) := by decide +kernel
theorem dL_play_19 : decode cL_play 19 = .ok (.iconst 2, 1) := by decide +kernel
theorem dL_play_20 : decode cL_play 20 = .ok (.ireturn, 1) := by decide +kernel
theorem dL_play_21 : decode cL_play 21 = .ok (.iconst 0, 1) := by decide +kernel
theorem dL_play_22 : decode cL_play 22 = .ok (.ireturn, 1) := by decide +kernel
set_option maxRecDepth 20000 in
theorem ggL_obstacle_X4_obstacle : GoodIn wsL_obstacle wsX4_obstacle := goodIn_ca (goodIn_r _ [6, 7, 8, 9, 10, 11, 5, 12, 13, 14, 15, 16, 17, 18, 19, 20, 21, 22, 23, 24, 25, 26, 27, 28, 29, 30, 31, 32, 33, 34, 35, 36, 37, 38, 39, 40, 41, 42, 43, 44, 45, 46, 47, 48, 49, 50, 51, 52, 53, 54, 55, 56, 57, 58, 59, 60, 61, 62, 63, 64, 65, 66, 67, 68, 69, 70, 71, 72, 73] (by decide +kernel) (by decide +kernel)) (goodIn_sub (fun _ h => List.mem_cons_of_mem _ (List.mem_append_right _ h)) (by decide +kernel))
set_option maxRecDepth 20000 in
theorem gL_obstacle_X4_obstacle : GoodIn wsL_obstacle (wsV RL 17 RX4 yX4_obstacle wsX4_obstacle) := goodIn_app (goodIn_of _ (by decide +kernel)) ggL_obstacle_X4_obstacle
theorem dL_obstacle_0 : decode cL_obstacle 0 = .ok (.aload_n 3, 1) := by decide +kernel
theorem dL_obstacle_1 : decode cL_obstacle 1 = .ok (.iconst 0, 1) := by decide +kernel
theorem dL_obstacle_2 : decode cL_obstacle 2 = .ok (.aload_n 0, 1) := by decide +kernel
theorem dL_obstacle_3 : decode cL_obstacle 3 = .ok (.iload_n 1, 1) := by decide +kernel
theorem dL_obstacle_4 : decode cL_obstacle 4 = .ok (.iload_n 2, 1) := by decide +kernel
theorem dL_obstacle_5 : decode cL_obstacle 5 = .ok (.invokevirtual 17, 3) := by decide +kernel
theorem dL_obstacle_8 : decode cL_obstacle 8 = .ok (.i2l, 1) := by decide +kernel
theorem dL_obstacle_9 : decode cL_obstacle 9 = .ok (.lastore, 1) := by decide +kernel
theorem dL_obstacle_10 : decode cL_obstacle 10 = .ok (.goto 7, 3) := by decide +kernel
theorem dL_obstacle_13 : decode cL_obstacle 13 = .ok (.astore 4, 2) := by decide +kernel
theorem dL_obstacle_15 : decode cL_obstacle 15 = .ok (.iconst 1, 1) := by decide +kernel
theorem dL_obstacle_16 : decode cL_obstacle 16 = .ok (.ireturn, 1) := by decide +kernel
theorem dL_obstacle_17 : decode cL_obstacle 17 = .ok (.iconst 0, 1) := by decide +kernel
theorem dL_obstacle_18 : decode cL_obstacle 18 = .ok (.ireturn, 1) := by decide +kernel
set_option maxRecDepth 20000 in
theorem ggL_settle_X4_settle : GoodIn wsL_settle wsX4_settle := goodIn_ca (goodIn_r _ [6, 7, 8, 9, 10, 11, 12, 13, 5, 14, 15, 16, 17, 18, 19, 20, 21, 22, 23, 24, 25, 26, 27, 28, 29, 30, 31, 32, 33, 34, 35, 36, 37, 38, 39, 40, 41, 42, 43, 44, 45, 46, 47, 48, 49, 50, 51, 52, 53, 54, 55, 56, 57, 58, 59, 60, 61, 62, 63, 64, 65, 66, 67, 68, 69, 70, 71, 72, 73, 74, 75, 76, 77, 78, 79, 80, 81, 82, 83, 84, 85, 86, 87, 88, 89, 90, 91, 92, 93, 94, 95, 96, 97, 98, 99, 100, 101, 102, 103, 104, 105, 106, 107, 108, 109, 110, 111, 112, 113, 114, 115, 116, 117, 118, 119, 120, 121, 122, 123, 124, 125, 126, 127, 128, 129, 130, 131, 132, 133, 134, 135, 136, 137, 138, 139, 140, 141, 142, 143, 144, 145, 146, 147, 148, 149, 150, 151, 152, 153, 154, 155, 156, 157, 158, 159, 160, 161, 162, 163, 164, 165, 166, 167, 168, 169, 170, 171, 172, 173, 174, 175, 176, 177, 178, 179, 180, 181, 182, 183, 184, 185, 186, 187, 188, 189, 190, 191, 192, 193, 194, 195, 196, 197, 198, 199, 200, 201, 202, 203, 204, 205, 206, 207, 208, 209, 210, 211, 212, 213, 214, 215, 216, 217, 218, 219, 220, 221, 222, 223, 224, 225, 226, 227, 228, 229, 230, 231, 232, 233] (by decide +kernel) (by decide +kernel)) (goodIn_sub (fun _ h => List.mem_cons_of_mem _ (List.mem_append_right _ h)) (by decide +kernel))
set_option maxRecDepth 20000 in
theorem gL_settle_X4_settle : GoodIn wsL_settle (wsV RL 20 RX4 yX4_settle wsX4_settle) := goodIn_app (goodIn_of _ (by decide +kernel)) ggL_settle_X4_settle
theorem dL_settle_0 : decode cL_settle 0 = .ok (.aload_n 2, 1) := by decide +kernel
theorem dL_settle_1 : decode cL_settle 1 = .ok (.iconst 0, 1) := by decide +kernel
theorem dL_settle_2 : decode cL_settle 2 = .ok (.aload_n 0, 1) := by decide +kernel
theorem dL_settle_3 : decode cL_settle 3 = .ok (.iload_n 1, 1) := by decide +kernel
theorem dL_settle_4 : decode cL_settle 4 = .ok (.invokevirtual 20, 3) := by decide +kernel
theorem dL_settle_7 : decode cL_settle 7 = .ok (.i2l, 1) := by decide +kernel
theorem dL_settle_8 : decode cL_settle 8 = .ok (.lastore, 1) := by decide +kernel
theorem dL_settle_9 : decode cL_settle 9 = .ok (.goto 6, 3) := by decide +kernel
theorem dL_settle_12 : decode cL_settle 12 = .ok (.astore_n 3, 1) := by decide +kernel
theorem dL_settle_13 : decode cL_settle 13 = .ok (.iconst 1, 1) := by decide +kernel
theorem dL_settle_14 : decode cL_settle 14 = .ok (.ireturn, 1) := by decide +kernel
theorem dL_settle_15 : decode cL_settle 15 = .ok (.iconst 0, 1) := by decide +kernel
theorem dL_settle_16 : decode cL_settle 16 = .ok (.ireturn, 1) := by decide +kernel
set_option maxRecDepth 20000 in
theorem ggL_coins_X4_coins : GoodIn wsL_coins wsX4_coins := goodIn_ca (goodIn_r _ [6, 7, 8, 9, 10, 11, 12, 13, 14, 15, 16, 17, 18, 19, 20] (by decide +kernel) (by decide +kernel)) (goodIn_sub (fun _ h => List.mem_cons_of_mem _ (List.mem_append_right _ h)) (by decide +kernel))
set_option maxRecDepth 20000 in
theorem gL_coins_X4_coins : GoodIn wsL_coins (wsV RL 26 RX4 yX4_coins wsX4_coins) := goodIn_app (goodIn_of _ (by decide +kernel)) ggL_coins_X4_coins
theorem dL_coins_0 : decode cL_coins 0 = .ok (.aload_n 2, 1) := by decide +kernel
theorem dL_coins_1 : decode cL_coins 1 = .ok (.iconst 0, 1) := by decide +kernel
theorem dL_coins_2 : decode cL_coins 2 = .ok (.aload_n 0, 1) := by decide +kernel
theorem dL_coins_3 : decode cL_coins 3 = .ok (.iload_n 1, 1) := by decide +kernel
theorem dL_coins_4 : decode cL_coins 4 = .ok (.invokevirtual 26, 3) := by decide +kernel
theorem dL_coins_7 : decode cL_coins 7 = .ok (.i2l, 1) := by decide +kernel
theorem dL_coins_8 : decode cL_coins 8 = .ok (.lastore, 1) := by decide +kernel
theorem dL_coins_9 : decode cL_coins 9 = .ok (.goto 6, 3) := by decide +kernel
theorem dL_coins_12 : decode cL_coins 12 = .ok (.astore_n 3, 1) := by decide +kernel
theorem dL_coins_13 : decode cL_coins 13 = .ok (.iconst 1, 1) := by decide +kernel
theorem dL_coins_14 : decode cL_coins 14 = .ok (.ireturn, 1) := by decide +kernel
theorem dL_coins_15 : decode cL_coins 15 = .ok (.iconst 0, 1) := by decide +kernel
theorem dL_coins_16 : decode cL_coins 16 = .ok (.ireturn, 1) := by decide +kernel
set_option maxRecDepth 20000 in
theorem ggL_cardOf_X4_cardOf : GoodIn wsL_cardOf wsX4_cardOf := goodIn_ca (goodIn_r _ [6, 7, 8, 9, 10, 11, 12, 13, 14, 15, 16, 17, 18, 19, 20, 21, 22, 23, 24, 25, 26, 27, 28, 29, 30, 31, 32] (by decide +kernel) (by decide +kernel)) (goodIn_sub (fun _ h => List.mem_cons_of_mem _ (List.mem_append_right _ h)) (by decide +kernel))
set_option maxRecDepth 20000 in
theorem gL_cardOf_X4_cardOf : GoodIn wsL_cardOf (wsV RL 29 RX4 yX4_cardOf wsX4_cardOf) := goodIn_app (goodIn_of _ (by decide +kernel)) ggL_cardOf_X4_cardOf
theorem dL_cardOf_0 : decode cL_cardOf 0 = .ok (.aload_n 2, 1) := by decide +kernel
theorem dL_cardOf_1 : decode cL_cardOf 1 = .ok (.iconst 0, 1) := by decide +kernel
theorem dL_cardOf_2 : decode cL_cardOf 2 = .ok (.aload_n 0, 1) := by decide +kernel
theorem dL_cardOf_3 : decode cL_cardOf 3 = .ok (.iload_n 1, 1) := by decide +kernel
theorem dL_cardOf_4 : decode cL_cardOf 4 = .ok (.invokevirtual 29, 3) := by decide +kernel
theorem dL_cardOf_7 : decode cL_cardOf 7 = .ok (.i2l, 1) := by decide +kernel
theorem dL_cardOf_8 : decode cL_cardOf 8 = .ok (.lastore, 1) := by decide +kernel
theorem dL_cardOf_9 : decode cL_cardOf 9 = .ok (.goto 6, 3) := by decide +kernel
theorem dL_cardOf_12 : decode cL_cardOf 12 = .ok (.astore_n 3, 1) := by decide +kernel
theorem dL_cardOf_13 : decode cL_cardOf 13 = .ok (.iconst 1, 1) := by decide +kernel
theorem dL_cardOf_14 : decode cL_cardOf 14 = .ok (.ireturn, 1) := by decide +kernel
theorem dL_cardOf_15 : decode cL_cardOf 15 = .ok (.iconst 0, 1) := by decide +kernel
theorem dL_cardOf_16 : decode cL_cardOf 16 = .ok (.ireturn, 1) := by decide +kernel
set_option maxRecDepth 20000 in
theorem ggL_controllerOf_X4_controllerOf : GoodIn wsL_controllerOf wsX4_controllerOf := goodIn_ca (goodIn_ca (goodIn_r _ [7, 8, 9, 10, 11, 12, 13, 6, 14, 15, 16, 17, 18, 19, 20, 21, 22, 23, 24, 25, 26, 27, 28, 29, 30, 31, 32, 33, 34, 35, 36, 37, 38, 39, 40, 41, 42, 43, 44, 45, 46, 47, 48, 49, 50, 51, 52, 53, 54, 55, 56, 57, 58, 59, 60, 61, 62, 63, 64, 65, 66, 67, 68, 69, 70, 71, 72, 73, 74, 75] (by decide +kernel) (by decide +kernel)) (goodIn_sub (fun _ h => List.mem_cons_of_mem _ (List.mem_append_left _ (List.mem_append_right _ h))) (by decide +kernel))) (goodIn_sub (fun _ h => List.mem_cons_of_mem _ (List.mem_append_right _ h)) (by decide +kernel))
set_option maxRecDepth 20000 in
theorem gL_controllerOf_X4_controllerOf : GoodIn wsL_controllerOf (wsV RL 32 RX4 yX4_controllerOf wsX4_controllerOf) := goodIn_app (goodIn_of _ (by decide +kernel)) ggL_controllerOf_X4_controllerOf
theorem dL_controllerOf_0 : decode cL_controllerOf 0 = .ok (.aload_n 3, 1) := by decide +kernel
theorem dL_controllerOf_1 : decode cL_controllerOf 1 = .ok (.iconst 0, 1) := by decide +kernel
theorem dL_controllerOf_2 : decode cL_controllerOf 2 = .ok (.aload_n 0, 1) := by decide +kernel
theorem dL_controllerOf_3 : decode cL_controllerOf 3 = .ok (.iload_n 1, 1) := by decide +kernel
theorem dL_controllerOf_4 : decode cL_controllerOf 4 = .ok (.iload_n 2, 1) := by decide +kernel
theorem dL_controllerOf_5 : decode cL_controllerOf 5 = .ok (.invokevirtual 32, 3) := by decide +kernel
theorem dL_controllerOf_8 : decode cL_controllerOf 8 = .ok (.i2l, 1) := by decide +kernel
theorem dL_controllerOf_9 : decode cL_controllerOf 9 = .ok (.lastore, 1) := by decide +kernel
theorem dL_controllerOf_10 : decode cL_controllerOf 10 = .ok (.goto 11, 3) := by decide +kernel
theorem dL_controllerOf_13 : decode cL_controllerOf 13 = .ok (.astore 4, 2) := by decide +kernel
theorem dL_controllerOf_15 : decode cL_controllerOf 15 = .ok (.iconst 1, 1) := by decide +kernel
theorem dL_controllerOf_16 : decode cL_controllerOf 16 = .ok (.ireturn, 1) := by decide +kernel
theorem dL_controllerOf_17 : decode cL_controllerOf 17 = .ok (.astore 4, 2) := by decide +kernel
theorem dL_controllerOf_19 : decode cL_controllerOf 19 = .ok (.iconst 2, 1) := by decide +kernel
theorem dL_controllerOf_20 : decode cL_controllerOf 20 = .ok (.ireturn, 1) := by decide +kernel
theorem dL_controllerOf_21 : decode cL_controllerOf 21 = .ok (.iconst 0, 1) := by decide +kernel
theorem dL_controllerOf_22 : decode cL_controllerOf 22 = .ok (.ireturn, 1) := by decide +kernel
set_option maxRecDepth 20000 in
theorem ggL_kindsOf_X4_kindsOf : GoodIn wsL_kindsOf wsX4_kindsOf := goodIn_ca (goodIn_ca (goodIn_r _ [7, 8, 9, 10, 11, 12, 13, 6, 14, 15, 16, 17, 18, 19, 20, 21, 22, 23, 24, 25, 26, 27, 28, 29, 30, 31, 32, 33, 34, 35, 36, 37, 38, 39, 40, 41, 42, 43, 44, 45, 46, 47, 48, 49, 50, 51, 52, 53, 54, 55, 56, 57, 58, 59, 60, 61, 62, 63, 64, 65, 66, 67, 68, 69, 70, 71, 72, 73, 74, 75] (by decide +kernel) (by decide +kernel)) (goodIn_sub (fun _ h => List.mem_cons_of_mem _ (List.mem_append_left _ (List.mem_append_right _ h))) (by decide +kernel))) (goodIn_sub (fun _ h => List.mem_cons_of_mem _ (List.mem_append_right _ h)) (by decide +kernel))
set_option maxRecDepth 20000 in
theorem gL_kindsOf_X4_kindsOf : GoodIn wsL_kindsOf (wsV RL 35 RX4 yX4_kindsOf wsX4_kindsOf) := goodIn_app (goodIn_of _ (by decide +kernel)) ggL_kindsOf_X4_kindsOf
theorem dL_kindsOf_0 : decode cL_kindsOf 0 = .ok (.aload_n 3, 1) := by decide +kernel
theorem dL_kindsOf_1 : decode cL_kindsOf 1 = .ok (.iconst 0, 1) := by decide +kernel
theorem dL_kindsOf_2 : decode cL_kindsOf 2 = .ok (.aload_n 0, 1) := by decide +kernel
theorem dL_kindsOf_3 : decode cL_kindsOf 3 = .ok (.iload_n 1, 1) := by decide +kernel
theorem dL_kindsOf_4 : decode cL_kindsOf 4 = .ok (.iload_n 2, 1) := by decide +kernel
theorem dL_kindsOf_5 : decode cL_kindsOf 5 = .ok (.invokevirtual 35, 3) := by decide +kernel
theorem dL_kindsOf_8 : decode cL_kindsOf 8 = .ok (.i2l, 1) := by decide +kernel
theorem dL_kindsOf_9 : decode cL_kindsOf 9 = .ok (.lastore, 1) := by decide +kernel
theorem dL_kindsOf_10 : decode cL_kindsOf 10 = .ok (.goto 11, 3) := by decide +kernel
theorem dL_kindsOf_13 : decode cL_kindsOf 13 = .ok (.astore 4, 2) := by decide +kernel
theorem dL_kindsOf_15 : decode cL_kindsOf 15 = .ok (.iconst 1, 1) := by decide +kernel
theorem dL_kindsOf_16 : decode cL_kindsOf 16 = .ok (.ireturn, 1) := by decide +kernel
theorem dL_kindsOf_17 : decode cL_kindsOf 17 = .ok (.astore 4, 2) := by decide +kernel
theorem dL_kindsOf_19 : decode cL_kindsOf 19 = .ok (.iconst 2, 1) := by decide +kernel
theorem dL_kindsOf_20 : decode cL_kindsOf 20 = .ok (.ireturn, 1) := by decide +kernel
theorem dL_kindsOf_21 : decode cL_kindsOf 21 = .ok (.iconst 0, 1) := by decide +kernel
theorem dL_kindsOf_22 : decode cL_kindsOf 22 = .ok (.ireturn, 1) := by decide +kernel
set_option maxRecDepth 20000 in
theorem ggL_strengthOf_X4_strengthOf : GoodIn wsL_strengthOf wsX4_strengthOf := goodIn_ca (goodIn_ca (goodIn_r _ [7, 8, 9, 10, 11, 12, 13, 6, 14, 15, 16, 17, 18, 19, 20, 21, 22, 23, 24, 25, 26, 27, 28, 29, 30, 31, 32, 33, 34, 35, 36, 37, 38, 39, 40, 41, 42, 43, 44, 45, 46, 47, 48, 49, 50, 51, 52, 53, 54, 55, 56, 57, 58, 59, 60, 61, 62, 63, 64, 65, 66, 67, 68, 69, 70, 71, 72, 73, 74, 75] (by decide +kernel) (by decide +kernel)) (goodIn_sub (fun _ h => List.mem_cons_of_mem _ (List.mem_append_left _ (List.mem_append_right _ h))) (by decide +kernel))) (goodIn_sub (fun _ h => List.mem_cons_of_mem _ (List.mem_append_right _ h)) (by decide +kernel))
set_option maxRecDepth 20000 in
theorem gL_strengthOf_X4_strengthOf : GoodIn wsL_strengthOf (wsV RL 38 RX4 yX4_strengthOf wsX4_strengthOf) := goodIn_app (goodIn_of _ (by decide +kernel)) ggL_strengthOf_X4_strengthOf
theorem dL_strengthOf_0 : decode cL_strengthOf 0 = .ok (.aload_n 3, 1) := by decide +kernel
theorem dL_strengthOf_1 : decode cL_strengthOf 1 = .ok (.iconst 0, 1) := by decide +kernel
theorem dL_strengthOf_2 : decode cL_strengthOf 2 = .ok (.aload_n 0, 1) := by decide +kernel
theorem dL_strengthOf_3 : decode cL_strengthOf 3 = .ok (.iload_n 1, 1) := by decide +kernel
theorem dL_strengthOf_4 : decode cL_strengthOf 4 = .ok (.iload_n 2, 1) := by decide +kernel
theorem dL_strengthOf_5 : decode cL_strengthOf 5 = .ok (.invokevirtual 38, 3) := by decide +kernel
theorem dL_strengthOf_8 : decode cL_strengthOf 8 = .ok (.i2l, 1) := by decide +kernel
theorem dL_strengthOf_9 : decode cL_strengthOf 9 = .ok (.lastore, 1) := by decide +kernel
theorem dL_strengthOf_10 : decode cL_strengthOf 10 = .ok (.goto 11, 3) := by decide +kernel
theorem dL_strengthOf_13 : decode cL_strengthOf 13 = .ok (.astore 4, 2) := by decide +kernel
theorem dL_strengthOf_15 : decode cL_strengthOf 15 = .ok (.iconst 1, 1) := by decide +kernel
theorem dL_strengthOf_16 : decode cL_strengthOf 16 = .ok (.ireturn, 1) := by decide +kernel
theorem dL_strengthOf_17 : decode cL_strengthOf 17 = .ok (.astore 4, 2) := by decide +kernel
theorem dL_strengthOf_19 : decode cL_strengthOf 19 = .ok (.iconst 2, 1) := by decide +kernel
theorem dL_strengthOf_20 : decode cL_strengthOf 20 = .ok (.ireturn, 1) := by decide +kernel
theorem dL_strengthOf_21 : decode cL_strengthOf 21 = .ok (.iconst 0, 1) := by decide +kernel
theorem dL_strengthOf_22 : decode cL_strengthOf 22 = .ok (.ireturn, 1) := by decide +kernel
set_option maxRecDepth 20000 in
theorem ggL_power_X4_power : GoodIn wsL_power wsX4_power := goodIn_ca (goodIn_r _ [6, 7, 8, 9, 10, 11, 12, 13, 14, 15, 16, 17, 18, 19, 20, 21, 22, 23, 24, 25, 26, 27, 28, 29, 30, 31, 32, 5, 33, 34, 35, 36, 37, 38, 39, 40, 41, 42, 43, 44, 45, 46, 47, 48, 49, 50, 51, 52, 53, 54, 55, 56, 57, 58, 59, 60, 61, 62, 63, 64, 65] (by decide +kernel) (by decide +kernel)) (goodIn_sub (fun _ h => List.mem_cons_of_mem _ (List.mem_append_right _ h)) (by decide +kernel))
set_option maxRecDepth 20000 in
theorem gL_power_X4_power : GoodIn wsL_power (wsV RL 41 RX4 yX4_power wsX4_power) := goodIn_app (goodIn_of _ (by decide +kernel)) ggL_power_X4_power
theorem dL_power_0 : decode cL_power 0 = .ok (.aload_n 2, 1) := by decide +kernel
theorem dL_power_1 : decode cL_power 1 = .ok (.iconst 0, 1) := by decide +kernel
theorem dL_power_2 : decode cL_power 2 = .ok (.aload_n 0, 1) := by decide +kernel
theorem dL_power_3 : decode cL_power 3 = .ok (.iload_n 1, 1) := by decide +kernel
theorem dL_power_4 : decode cL_power 4 = .ok (.invokevirtual 41, 3) := by decide +kernel
theorem dL_power_7 : decode cL_power 7 = .ok (.i2l, 1) := by decide +kernel
theorem dL_power_8 : decode cL_power 8 = .ok (.lastore, 1) := by decide +kernel
theorem dL_power_9 : decode cL_power 9 = .ok (.goto 6, 3) := by decide +kernel
theorem dL_power_12 : decode cL_power 12 = .ok (.astore_n 3, 1) := by decide +kernel
theorem dL_power_13 : decode cL_power 13 = .ok (.iconst 1, 1) := by decide +kernel
theorem dL_power_14 : decode cL_power 14 = .ok (.ireturn, 1) := by decide +kernel
theorem dL_power_15 : decode cL_power 15 = .ok (.iconst 0, 1) := by decide +kernel
theorem dL_power_16 : decode cL_power 16 = .ok (.ireturn, 1) := by decide +kernel
set_option maxRecDepth 20000 in
theorem ggL_entryCard_X4_entryCard : GoodIn wsL_entryCard wsX4_entryCard := goodIn_ca (goodIn_r _ [6, 7, 8, 9, 10, 11, 12, 13, 14, 15, 16, 17, 18, 19, 20, 21, 22, 23, 24, 25, 26, 27, 28, 29, 30, 31, 32, 33, 34, 35, 36, 37, 38] (by decide +kernel) (by decide +kernel)) (goodIn_sub (fun _ h => List.mem_cons_of_mem _ (List.mem_append_right _ h)) (by decide +kernel))
set_option maxRecDepth 20000 in
theorem gL_entryCard_X4_entryCard : GoodIn wsL_entryCard (wsV RL 44 RX4 yX4_entryCard wsX4_entryCard) := goodIn_app (goodIn_of _ (by decide +kernel)) ggL_entryCard_X4_entryCard
theorem dL_entryCard_0 : decode cL_entryCard 0 = .ok (.aload_n 2, 1) := by decide +kernel
theorem dL_entryCard_1 : decode cL_entryCard 1 = .ok (.iconst 0, 1) := by decide +kernel
theorem dL_entryCard_2 : decode cL_entryCard 2 = .ok (.aload_n 0, 1) := by decide +kernel
theorem dL_entryCard_3 : decode cL_entryCard 3 = .ok (.iload_n 1, 1) := by decide +kernel
theorem dL_entryCard_4 : decode cL_entryCard 4 = .ok (.invokevirtual 44, 3) := by decide +kernel
theorem dL_entryCard_7 : decode cL_entryCard 7 = .ok (.i2l, 1) := by decide +kernel
theorem dL_entryCard_8 : decode cL_entryCard 8 = .ok (.lastore, 1) := by decide +kernel
theorem dL_entryCard_9 : decode cL_entryCard 9 = .ok (.goto 6, 3) := by decide +kernel
theorem dL_entryCard_12 : decode cL_entryCard 12 = .ok (.astore_n 3, 1) := by decide +kernel
theorem dL_entryCard_13 : decode cL_entryCard 13 = .ok (.iconst 1, 1) := by decide +kernel
theorem dL_entryCard_14 : decode cL_entryCard 14 = .ok (.ireturn, 1) := by decide +kernel
theorem dL_entryCard_15 : decode cL_entryCard 15 = .ok (.iconst 0, 1) := by decide +kernel
theorem dL_entryCard_16 : decode cL_entryCard 16 = .ok (.ireturn, 1) := by decide +kernel
set_option maxRecDepth 20000 in
theorem ggL_isTrigger_X4_isTrigger : GoodIn wsL_isTrigger wsX4_isTrigger := goodIn_ca (goodIn_r _ [6, 7, 8, 9, 10, 11, 12, 13, 14, 15, 16, 17, 18, 19, 20, 21, 22, 23, 24, 25, 26, 27, 28, 29, 30, 31, 32, 33, 34, 35, 36, 37, 38] (by decide +kernel) (by decide +kernel)) (goodIn_sub (fun _ h => List.mem_cons_of_mem _ (List.mem_append_right _ h)) (by decide +kernel))
set_option maxRecDepth 20000 in
theorem gL_isTrigger_X4_isTrigger : GoodIn wsL_isTrigger (wsV RL 47 RX4 yX4_isTrigger wsX4_isTrigger) := goodIn_app (goodIn_of _ (by decide +kernel)) ggL_isTrigger_X4_isTrigger
theorem dL_isTrigger_0 : decode cL_isTrigger 0 = .ok (.aload_n 2, 1) := by decide +kernel
theorem dL_isTrigger_1 : decode cL_isTrigger 1 = .ok (.iconst 0, 1) := by decide +kernel
theorem dL_isTrigger_2 : decode cL_isTrigger 2 = .ok (.aload_n 0, 1) := by decide +kernel
theorem dL_isTrigger_3 : decode cL_isTrigger 3 = .ok (.iload_n 1, 1) := by decide +kernel
theorem dL_isTrigger_4 : decode cL_isTrigger 4 = .ok (.invokevirtual 47, 3) := by decide +kernel
theorem dL_isTrigger_7 : decode cL_isTrigger 7 = .ok (.ifCond .eq 7, 3) := by decide +kernel
theorem dL_isTrigger_10 : decode cL_isTrigger 10 = .ok (.lconst 1, 1) := by decide +kernel
theorem dL_isTrigger_11 : decode cL_isTrigger 11 = .ok (.goto 4, 3) := by decide +kernel
theorem dL_isTrigger_14 : decode cL_isTrigger 14 = .ok (.lconst 0, 1) := by decide +kernel
theorem dL_isTrigger_15 : decode cL_isTrigger 15 = .ok (.lastore, 1) := by decide +kernel
theorem dL_isTrigger_16 : decode cL_isTrigger 16 = .ok (.goto 6, 3) := by decide +kernel
theorem dL_isTrigger_19 : decode cL_isTrigger 19 = .ok (.astore_n 3, 1) := by decide +kernel
theorem dL_isTrigger_20 : decode cL_isTrigger 20 = .ok (.iconst 1, 1) := by decide +kernel
theorem dL_isTrigger_21 : decode cL_isTrigger 21 = .ok (.ireturn, 1) := by decide +kernel
theorem dL_isTrigger_22 : decode cL_isTrigger 22 = .ok (.iconst 0, 1) := by decide +kernel
theorem dL_isTrigger_23 : decode cL_isTrigger 23 = .ok (.ireturn, 1) := by decide +kernel
set_option maxRecDepth 20000 in
theorem ggL_entryPlayer_X4_entryPlayer : GoodIn wsL_entryPlayer wsX4_entryPlayer := goodIn_ca (goodIn_r _ [6, 7, 8, 9, 10, 11, 12, 13, 14, 15, 16, 17, 18, 19, 20, 21, 22, 23, 24, 25, 26, 27, 28, 29, 30, 31, 32, 33, 34, 35, 36, 37, 38] (by decide +kernel) (by decide +kernel)) (goodIn_sub (fun _ h => List.mem_cons_of_mem _ (List.mem_append_right _ h)) (by decide +kernel))
set_option maxRecDepth 20000 in
theorem gL_entryPlayer_X4_entryPlayer : GoodIn wsL_entryPlayer (wsV RL 51 RX4 yX4_entryPlayer wsX4_entryPlayer) := goodIn_app (goodIn_of _ (by decide +kernel)) ggL_entryPlayer_X4_entryPlayer
theorem dL_entryPlayer_0 : decode cL_entryPlayer 0 = .ok (.aload_n 2, 1) := by decide +kernel
theorem dL_entryPlayer_1 : decode cL_entryPlayer 1 = .ok (.iconst 0, 1) := by decide +kernel
theorem dL_entryPlayer_2 : decode cL_entryPlayer 2 = .ok (.aload_n 0, 1) := by decide +kernel
theorem dL_entryPlayer_3 : decode cL_entryPlayer 3 = .ok (.iload_n 1, 1) := by decide +kernel
theorem dL_entryPlayer_4 : decode cL_entryPlayer 4 = .ok (.invokevirtual 51, 3) := by decide +kernel
theorem dL_entryPlayer_7 : decode cL_entryPlayer 7 = .ok (.i2l, 1) := by decide +kernel
theorem dL_entryPlayer_8 : decode cL_entryPlayer 8 = .ok (.lastore, 1) := by decide +kernel
theorem dL_entryPlayer_9 : decode cL_entryPlayer 9 = .ok (.goto 6, 3) := by decide +kernel
theorem dL_entryPlayer_12 : decode cL_entryPlayer 12 = .ok (.astore_n 3, 1) := by decide +kernel
theorem dL_entryPlayer_13 : decode cL_entryPlayer 13 = .ok (.iconst 1, 1) := by decide +kernel
theorem dL_entryPlayer_14 : decode cL_entryPlayer 14 = .ok (.ireturn, 1) := by decide +kernel
theorem dL_entryPlayer_15 : decode cL_entryPlayer 15 = .ok (.iconst 0, 1) := by decide +kernel
theorem dL_entryPlayer_16 : decode cL_entryPlayer 16 = .ok (.ireturn, 1) := by decide +kernel
set_option maxRecDepth 20000 in
theorem ggL_entryTarget_X4_entryTarget : GoodIn wsL_entryTarget wsX4_entryTarget := goodIn_ca (goodIn_r _ [6, 7, 8, 9, 10, 11, 12, 13, 14, 15, 16, 17, 18, 19, 20, 21, 22, 23, 5, 24, 25, 26, 27, 28, 29, 30, 31, 32, 33, 34, 35, 36, 37, 38, 39, 40, 41, 42, 43, 44, 45, 46, 47, 48, 49, 50, 51, 52, 53, 54, 55, 56, 57, 58, 59, 60, 61, 62] (by decide +kernel) (by decide +kernel)) (goodIn_sub (fun _ h => List.mem_cons_of_mem _ (List.mem_append_right _ h)) (by decide +kernel))
set_option maxRecDepth 20000 in
theorem gL_entryTarget_X4_entryTarget : GoodIn wsL_entryTarget (wsV RL 54 RX4 yX4_entryTarget wsX4_entryTarget) := goodIn_app (goodIn_of _ (by decide +kernel)) ggL_entryTarget_X4_entryTarget
theorem dL_entryTarget_0 : decode cL_entryTarget 0 = .ok (.aload_n 2, 1) := by decide +kernel
theorem dL_entryTarget_1 : decode cL_entryTarget 1 = .ok (.iconst 0, 1) := by decide +kernel
theorem dL_entryTarget_2 : decode cL_entryTarget 2 = .ok (.aload_n 0, 1) := by decide +kernel
theorem dL_entryTarget_3 : decode cL_entryTarget 3 = .ok (.iload_n 1, 1) := by decide +kernel
theorem dL_entryTarget_4 : decode cL_entryTarget 4 = .ok (.invokevirtual 54, 3) := by decide +kernel
theorem dL_entryTarget_7 : decode cL_entryTarget 7 = .ok (.i2l, 1) := by decide +kernel
theorem dL_entryTarget_8 : decode cL_entryTarget 8 = .ok (.lastore, 1) := by decide +kernel
theorem dL_entryTarget_9 : decode cL_entryTarget 9 = .ok (.goto 6, 3) := by decide +kernel
theorem dL_entryTarget_12 : decode cL_entryTarget 12 = .ok (.astore_n 3, 1) := by decide +kernel
theorem dL_entryTarget_13 : decode cL_entryTarget 13 = .ok (.iconst 1, 1) := by decide +kernel
theorem dL_entryTarget_14 : decode cL_entryTarget 14 = .ok (.ireturn, 1) := by decide +kernel
theorem dL_entryTarget_15 : decode cL_entryTarget 15 = .ok (.iconst 0, 1) := by decide +kernel
theorem dL_entryTarget_16 : decode cL_entryTarget 16 = .ok (.ireturn, 1) := by decide +kernel
