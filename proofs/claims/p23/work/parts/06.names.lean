theorem dX4_acting_1 : decode cX4_acting 1 = .ok (.getfield 57, 3) := by decide +kernel
theorem dX4_acting_4 : decode cX4_acting 4 = .ok (.ireturn, 1) := by decide +kernel
theorem dX4_rounds_0 : decode cX4_rounds 0 = .ok (.aload_n 0, 1) := by decide +kernel
theorem dX4_rounds_1 : decode cX4_rounds 1 = .ok (.getfield 106, 3) := by decide +kernel
theorem dX4_rounds_4 : decode cX4_rounds 4 = .ok (.ireturn, 1) := by decide +kernel
theorem dX4_loops_0 : decode cX4_loops 0 = .ok (.aload_n 0, 1) := by decide +kernel
theorem dX4_loops_1 : decode cX4_loops 1 = .ok (.getfield 109, 3) := by decide +kernel
theorem dX4_loops_4 : decode cX4_loops 4 = .ok (.ireturn, 1) := by decide +kernel
theorem dX4_coins_0 : decode cX4_coins 0 = .ok (.iload_n 1, 1) := by decide +kernel
theorem dX4_coins_1 : decode cX4_coins 1 = .ok (.ifCond .lt 8, 3) := by decide +kernel
theorem dX4_coins_4 : decode cX4_coins 4 = .ok (.iload_n 1, 1) := by decide +kernel
theorem dX4_coins_5 : decode cX4_coins 5 = .ok (.iconst 3, 1) := by decide +kernel
theorem dX4_coins_6 : decode cX4_coins 6 = .ok (.if_icmp .lt 13, 3) := by decide +kernel
theorem dX4_coins_9 : decode cX4_coins 9 = .ok (.new 41, 3) := by decide +kernel
theorem dX4_coins_12 : decode cX4_coins 12 = .ok (.dup, 1) := by decide +kernel
theorem dX4_coins_13 : decode cX4_coins 13 = .ok (.ldc 112, 2) := by decide +kernel
theorem dX4_coins_15 : decode cX4_coins 15 = .ok (.invokespecial 45, 3) := by decide +kernel
theorem dX4_coins_18 : decode cX4_coins 18 = .ok (.athrow, 1) := by decide +kernel
theorem dX4_coins_19 : decode cX4_coins 19 = .ok (.aload_n 0, 1) := by decide +kernel
theorem dX4_coins_20 : decode cX4_coins 20 = .ok (.getfield 9, 3) := by decide +kernel
theorem dX4_coins_23 : decode cX4_coins 23 = .ok (.iload_n 1, 1) := by decide +kernel
theorem dX4_coins_24 : decode cX4_coins 24 = .ok (.iaload, 1) := by decide +kernel
theorem dX4_coins_25 : decode cX4_coins 25 = .ok (.ireturn, 1) := by decide +kernel
theorem dX4_things_0 : decode cX4_things 0 = .ok (.aload_n 0, 1) := by decide +kernel
theorem dX4_things_1 : decode cX4_things 1 = .ok (.getfield 16, 3) := by decide +kernel
theorem dX4_things_4 : decode cX4_things 4 = .ok (.getfield 114, 3) := by decide +kernel
theorem dX4_things_7 : decode cX4_things 7 = .ok (.ireturn, 1) := by decide +kernel
set_option maxRecDepth 20000 in
theorem ggX4_cardOf_X2_has : GoodIn wsX4_cardOf wsX2_has := goodIn_r _ [9, 10, 22, 23, 24, 25, 26] (by decide +kernel) (by decide +kernel)
set_option maxRecDepth 20000 in
theorem gX4_cardOf_X2_has : GoodIn wsX4_cardOf (wsV RX4 115 RX2 yX2_has wsX2_has) := goodIn_app (goodIn_of _ (by decide +kernel)) ggX4_cardOf_X2_has
theorem dX4_cardOf_0 : decode cX4_cardOf 0 = .ok (.aload_n 0, 1) := by decide +kernel
theorem dX4_cardOf_1 : decode cX4_cardOf 1 = .ok (.getfield 16, 3) := by decide +kernel
theorem dX4_cardOf_4 : decode cX4_cardOf 4 = .ok (.iload_n 1, 1) := by decide +kernel
theorem dX4_cardOf_5 : decode cX4_cardOf 5 = .ok (.invokevirtual 115, 3) := by decide +kernel
theorem dX4_cardOf_8 : decode cX4_cardOf 8 = .ok (.ifCond .ne 13, 3) := by decide +kernel
theorem dX4_cardOf_11 : decode cX4_cardOf 11 = .ok (.new 41, 3) := by decide +kernel
theorem dX4_cardOf_14 : decode cX4_cardOf 14 = .ok (.dup, 1) := by decide +kernel
theorem dX4_cardOf_15 : decode cX4_cardOf 15 = .ok (.ldc 119, 2) := by decide +kernel
theorem dX4_cardOf_17 : decode cX4_cardOf 17 = .ok (.invokespecial 45, 3) := by decide +kernel
theorem dX4_cardOf_20 : decode cX4_cardOf 20 = .ok (.athrow, 1) := by decide +kernel
theorem dX4_cardOf_21 : decode cX4_cardOf 21 = .ok (.aload_n 0, 1) := by decide +kernel
theorem dX4_cardOf_22 : decode cX4_cardOf 22 = .ok (.getfield 16, 3) := by decide +kernel
theorem dX4_cardOf_25 : decode cX4_cardOf 25 = .ok (.getfield 121, 3) := by decide +kernel
theorem dX4_cardOf_28 : decode cX4_cardOf 28 = .ok (.iload_n 1, 1) := by decide +kernel
theorem dX4_cardOf_29 : decode cX4_cardOf 29 = .ok (.iaload, 1) := by decide +kernel
theorem dX4_cardOf_30 : decode cX4_cardOf 30 = .ok (.ireturn, 1) := by decide +kernel
set_option maxRecDepth 20000 in
theorem ggX4_controllerOf_X4_requireThingAndLayer : GoodIn wsX4_controllerOf wsX4_requireThingAndLayer := goodIn_ca (goodIn_ca (goodIn_r _ [8, 9, 10, 11, 12, 2, 13, 14, 15, 16, 17, 18, 49, 50, 51, 52, 53, 54, 55, 56, 57, 58, 59, 65, 66, 67, 68, 69] (by decide +kernel) (by decide +kernel)) (goodIn_sub (fun _ h => List.mem_cons_of_mem _ (List.mem_append_left _ (List.mem_append_right _ h))) (by decide +kernel))) (goodIn_sub (fun _ h => List.mem_cons_of_mem _ (List.mem_append_right _ h)) (by decide +kernel))
set_option maxRecDepth 20000 in
theorem gX4_controllerOf_X4_requireThingAndLayer : GoodIn wsX4_controllerOf (wsV RX4 124 RX4 yX4_requireThingAndLayer wsX4_requireThingAndLayer) := goodIn_app (goodIn_of _ (by decide +kernel)) ggX4_controllerOf_X4_requireThingAndLayer
set_option maxRecDepth 20000 in
theorem ggX4_controllerOf_X3_find : GoodIn wsX4_controllerOf wsX3_find := goodIn_r _ [23, 24, 25, 26, 27, 28, 29, 30, 31, 32, 22, 33, 34, 35, 36, 7, 37, 38, 39, 40, 41, 42, 43, 44, 45, 46, 47, 48, 65, 66, 67, 68, 69, 60, 61, 62, 63, 64] (by decide +kernel) (by decide +kernel)
set_option maxRecDepth 20000 in
theorem gX4_controllerOf_X3_find : GoodIn wsX4_controllerOf (wsV RX4 127 RX3 yX3_find wsX3_find) := goodIn_app (goodIn_of _ (by decide +kernel)) ggX4_controllerOf_X3_find
theorem dX4_controllerOf_0 : decode cX4_controllerOf 0 = .ok (.aload_n 0, 1) := by decide +kernel
theorem dX4_controllerOf_1 : decode cX4_controllerOf 1 = .ok (.iload_n 1, 1) := by decide +kernel
theorem dX4_controllerOf_2 : decode cX4_controllerOf 2 = .ok (.iload_n 2, 1) := by decide +kernel
theorem dX4_controllerOf_3 : decode cX4_controllerOf 3 = .ok (.invokevirtual 124, 3) := by decide +kernel
theorem dX4_controllerOf_6 : decode cX4_controllerOf 6 = .ok (.aload_n 0, 1) := by decide +kernel
theorem dX4_controllerOf_7 : decode cX4_controllerOf 7 = .ok (.getfield 30, 3) := by decide +kernel
theorem dX4_controllerOf_10 : decode cX4_controllerOf 10 = .ok (.aload_n 0, 1) := by decide +kernel
theorem dX4_controllerOf_11 : decode cX4_controllerOf 11 = .ok (.getfield 16, 3) := by decide +kernel
theorem dX4_controllerOf_14 : decode cX4_controllerOf 14 = .ok (.iload_n 2, 1) := by decide +kernel
theorem dX4_controllerOf_15 : decode cX4_controllerOf 15 = .ok (.invokevirtual 127, 3) := by decide +kernel
theorem dX4_controllerOf_18 : decode cX4_controllerOf 18 = .ok (.aload_n 0, 1) := by decide +kernel
theorem dX4_controllerOf_19 : decode cX4_controllerOf 19 = .ok (.getfield 30, 3) := by decide +kernel
theorem dX4_controllerOf_22 : decode cX4_controllerOf 22 = .ok (.getfield 131, 3) := by decide +kernel
theorem dX4_controllerOf_25 : decode cX4_controllerOf 25 = .ok (.iload_n 1, 1) := by decide +kernel
theorem dX4_controllerOf_26 : decode cX4_controllerOf 26 = .ok (.iaload, 1) := by decide +kernel
theorem dX4_controllerOf_27 : decode cX4_controllerOf 27 = .ok (.ireturn, 1) := by decide +kernel
set_option maxRecDepth 20000 in
theorem ggX4_kindsOf_X4_requireThingAndLayer : GoodIn wsX4_kindsOf wsX4_requireThingAndLayer := goodIn_ca (goodIn_ca (goodIn_r _ [8, 9, 10, 11, 12, 2, 13, 14, 15, 16, 17, 18, 49, 50, 51, 52, 53, 54, 55, 56, 57, 58, 59, 65, 66, 67, 68, 69] (by decide +kernel) (by decide +kernel)) (goodIn_sub (fun _ h => List.mem_cons_of_mem _ (List.mem_append_left _ (List.mem_append_right _ h))) (by decide +kernel))) (goodIn_sub (fun _ h => List.mem_cons_of_mem _ (List.mem_append_right _ h)) (by decide +kernel))
set_option maxRecDepth 20000 in
theorem gX4_kindsOf_X4_requireThingAndLayer : GoodIn wsX4_kindsOf (wsV RX4 124 RX4 yX4_requireThingAndLayer wsX4_requireThingAndLayer) := goodIn_app (goodIn_of _ (by decide +kernel)) ggX4_kindsOf_X4_requireThingAndLayer
set_option maxRecDepth 20000 in
theorem ggX4_kindsOf_X3_find : GoodIn wsX4_kindsOf wsX3_find := goodIn_r _ [23, 24, 25, 26, 27, 28, 29, 30, 31, 32, 22, 33, 34, 35, 36, 7, 37, 38, 39, 40, 41, 42, 43, 44, 45, 46, 47, 48, 65, 66, 67, 68, 69, 60, 61, 62, 63, 64] (by decide +kernel) (by decide +kernel)
set_option maxRecDepth 20000 in
theorem gX4_kindsOf_X3_find : GoodIn wsX4_kindsOf (wsV RX4 127 RX3 yX3_find wsX3_find) := goodIn_app (goodIn_of _ (by decide +kernel)) ggX4_kindsOf_X3_find
theorem dX4_kindsOf_0 : decode cX4_kindsOf 0 = .ok (.aload_n 0, 1) := by decide +kernel
theorem dX4_kindsOf_1 : decode cX4_kindsOf 1 = .ok (.iload_n 1, 1) := by decide +kernel
theorem dX4_kindsOf_2 : decode cX4_kindsOf 2 = .ok (.iload_n 2, 1) := by decide +kernel
theorem dX4_kindsOf_3 : decode cX4_kindsOf 3 = .ok (.invokevirtual 124, 3) := by decide +kernel
theorem dX4_kindsOf_6 : decode cX4_kindsOf 6 = .ok (.aload_n 0, 1) := by decide +kernel
theorem dX4_kindsOf_7 : decode cX4_kindsOf 7 = .ok (.getfield 30, 3) := by decide +kernel
theorem dX4_kindsOf_10 : decode cX4_kindsOf 10 = .ok (.aload_n 0, 1) := by decide +kernel
theorem dX4_kindsOf_11 : decode cX4_kindsOf 11 = .ok (.getfield 16, 3) := by decide +kernel
theorem dX4_kindsOf_14 : decode cX4_kindsOf 14 = .ok (.iload_n 2, 1) := by decide +kernel
theorem dX4_kindsOf_15 : decode cX4_kindsOf 15 = .ok (.invokevirtual 127, 3) := by decide +kernel
theorem dX4_kindsOf_18 : decode cX4_kindsOf 18 = .ok (.aload_n 0, 1) := by decide +kernel
theorem dX4_kindsOf_19 : decode cX4_kindsOf 19 = .ok (.getfield 30, 3) := by decide +kernel
theorem dX4_kindsOf_22 : decode cX4_kindsOf 22 = .ok (.getfield 134, 3) := by decide +kernel
theorem dX4_kindsOf_25 : decode cX4_kindsOf 25 = .ok (.iload_n 1, 1) := by decide +kernel
theorem dX4_kindsOf_26 : decode cX4_kindsOf 26 = .ok (.iaload, 1) := by decide +kernel
theorem dX4_kindsOf_27 : decode cX4_kindsOf 27 = .ok (.ireturn, 1) := by decide +kernel
set_option maxRecDepth 20000 in
theorem ggX4_strengthOf_X4_requireThingAndLayer : GoodIn wsX4_strengthOf wsX4_requireThingAndLayer := goodIn_ca (goodIn_ca (goodIn_r _ [8, 9, 10, 11, 12, 2, 13, 14, 15, 16, 17, 18, 49, 50, 51, 52, 53, 54, 55, 56, 57, 58, 59, 65, 66, 67, 68, 69] (by decide +kernel) (by decide +kernel)) (goodIn_sub (fun _ h => List.mem_cons_of_mem _ (List.mem_append_left _ (List.mem_append_right _ h))) (by decide +kernel))) (goodIn_sub (fun _ h => List.mem_cons_of_mem _ (List.mem_append_right _ h)) (by decide +kernel))
set_option maxRecDepth 20000 in
theorem gX4_strengthOf_X4_requireThingAndLayer : GoodIn wsX4_strengthOf (wsV RX4 124 RX4 yX4_requireThingAndLayer wsX4_requireThingAndLayer) := goodIn_app (goodIn_of _ (by decide +kernel)) ggX4_strengthOf_X4_requireThingAndLayer
set_option maxRecDepth 20000 in
theorem ggX4_strengthOf_X3_find : GoodIn wsX4_strengthOf wsX3_find := goodIn_r _ [23, 24, 25, 26, 27, 28, 29, 30, 31, 32, 22, 33, 34, 35, 36, 7, 37, 38, 39, 40, 41, 42, 43, 44, 45, 46, 47, 48, 65, 66, 67, 68, 69, 60, 61, 62, 63, 64] (by decide +kernel) (by decide +kernel)
set_option maxRecDepth 20000 in
theorem gX4_strengthOf_X3_find : GoodIn wsX4_strengthOf (wsV RX4 127 RX3 yX3_find wsX3_find) := goodIn_app (goodIn_of _ (by decide +kernel)) ggX4_strengthOf_X3_find
theorem dX4_strengthOf_0 : decode cX4_strengthOf 0 = .ok (.aload_n 0, 1) := by decide +kernel
theorem dX4_strengthOf_1 : decode cX4_strengthOf 1 = .ok (.iload_n 1, 1) := by decide +kernel
theorem dX4_strengthOf_2 : decode cX4_strengthOf 2 = .ok (.iload_n 2, 1) := by decide +kernel
theorem dX4_strengthOf_3 : decode cX4_strengthOf 3 = .ok (.invokevirtual 124, 3) := by decide +kernel
theorem dX4_strengthOf_6 : decode cX4_strengthOf 6 = .ok (.aload_n 0, 1) := by decide +kernel
theorem dX4_strengthOf_7 : decode cX4_strengthOf 7 = .ok (.getfield 30, 3) := by decide +kernel
theorem dX4_strengthOf_10 : decode cX4_strengthOf 10 = .ok (.aload_n 0, 1) := by decide +kernel
theorem dX4_strengthOf_11 : decode cX4_strengthOf 11 = .ok (.getfield 16, 3) := by decide +kernel
theorem dX4_strengthOf_14 : decode cX4_strengthOf 14 = .ok (.iload_n 2, 1) := by decide +kernel
theorem dX4_strengthOf_15 : decode cX4_strengthOf 15 = .ok (.invokevirtual 127, 3) := by decide +kernel
theorem dX4_strengthOf_18 : decode cX4_strengthOf 18 = .ok (.aload_n 0, 1) := by decide +kernel
theorem dX4_strengthOf_19 : decode cX4_strengthOf 19 = .ok (.getfield 30, 3) := by decide +kernel
theorem dX4_strengthOf_22 : decode cX4_strengthOf 22 = .ok (.getfield 137, 3) := by decide +kernel
theorem dX4_strengthOf_25 : decode cX4_strengthOf 25 = .ok (.iload_n 1, 1) := by decide +kernel
theorem dX4_strengthOf_26 : decode cX4_strengthOf 26 = .ok (.iaload, 1) := by decide +kernel
theorem dX4_strengthOf_27 : decode cX4_strengthOf 27 = .ok (.ireturn, 1) := by decide +kernel
set_option maxRecDepth 20000 in
theorem ggX4_power_X3_find : GoodIn wsX4_power wsX3_find := goodIn_r _ [13, 14, 15, 16, 17, 18, 19, 20, 21, 22, 12, 23, 24, 25, 26, 27, 28, 29, 30, 31, 32, 33, 34, 35, 36, 37, 38, 39, 51, 52, 53, 54, 55, 56, 57, 58, 59, 60] (by decide +kernel) (by decide +kernel)
set_option maxRecDepth 20000 in
theorem gX4_power_X3_find : GoodIn wsX4_power (wsV RX4 127 RX3 yX3_find wsX3_find) := goodIn_app (goodIn_of _ (by decide +kernel)) ggX4_power_X3_find
theorem dX4_power_0 : decode cX4_power 0 = .ok (.iload_n 1, 1) := by decide +kernel
theorem dX4_power_1 : decode cX4_power 1 = .ok (.ifCond .lt 8, 3) := by decide +kernel
theorem dX4_power_4 : decode cX4_power 4 = .ok (.iload_n 1, 1) := by decide +kernel
theorem dX4_power_5 : decode cX4_power 5 = .ok (.iconst 3, 1) := by decide +kernel
theorem dX4_power_6 : decode cX4_power 6 = .ok (.if_icmp .lt 13, 3) := by decide +kernel
theorem dX4_power_9 : decode cX4_power 9 = .ok (.new 41, 3) := by decide +kernel
theorem dX4_power_12 : decode cX4_power 12 = .ok (.dup, 1) := by decide +kernel
theorem dX4_power_13 : decode cX4_power 13 = .ok (.ldc 112, 2) := by decide +kernel
theorem dX4_power_15 : decode cX4_power 15 = .ok (.invokespecial 45, 3) := by decide +kernel
theorem dX4_power_18 : decode cX4_power 18 = .ok (.athrow, 1) := by decide +kernel
theorem dX4_power_19 : decode cX4_power 19 = .ok (.aload_n 0, 1) := by decide +kernel
theorem dX4_power_20 : decode cX4_power 20 = .ok (.getfield 30, 3) := by decide +kernel
theorem dX4_power_23 : decode cX4_power 23 = .ok (.aload_n 0, 1) := by decide +kernel
theorem dX4_power_24 : decode cX4_power 24 = .ok (.getfield 16, 3) := by decide +kernel
theorem dX4_power_27 : decode cX4_power 27 = .ok (.iconst 5, 1) := by decide +kernel
theorem dX4_power_28 : decode cX4_power 28 = .ok (.invokevirtual 127, 3) := by decide +kernel
theorem dX4_power_31 : decode cX4_power 31 = .ok (.iconst 0, 1) := by decide +kernel
theorem dX4_power_32 : decode cX4_power 32 = .ok (.istore_n 2, 1) := by decide +kernel
theorem dX4_power_33 : decode cX4_power 33 = .ok (.iconst 0, 1) := by decide +kernel
theorem dX4_power_34 : decode cX4_power 34 = .ok (.istore_n 3, 1) := by decide +kernel
theorem dX4_power_35 : decode cX4_power 35 = .ok (.iload_n 3, 1) := by decide +kernel
theorem dX4_power_36 : decode cX4_power 36 = .ok (.aload_n 0, 1) := by decide +kernel
theorem dX4_power_37 : decode cX4_power 37 = .ok (.getfield 16, 3) := by decide +kernel
theorem dX4_power_40 : decode cX4_power 40 = .ok (.getfield 114, 3) := by decide +kernel
theorem dX4_power_43 : decode cX4_power 43 = .ok (.if_icmp .ge 48, 3) := by decide +kernel
theorem dX4_power_46 : decode cX4_power 46 = .ok (.aload_n 0, 1) := by decide +kernel
theorem dX4_power_47 : decode cX4_power 47 = .ok (.getfield 30, 3) := by decide +kernel
theorem dX4_power_50 : decode cX4_power 50 = .ok (.getfield 131, 3) := by decide +kernel
theorem dX4_power_53 : decode cX4_power 53 = .ok (.iload_n 3, 1) := by decide +kernel
theorem dX4_power_54 : decode cX4_power 54 = .ok (.iaload, 1) := by decide +kernel
theorem dX4_power_55 : decode cX4_power 55 = .ok (.iload_n 1, 1) := by decide +kernel
theorem dX4_power_56 : decode cX4_power 56 = .ok (.if_icmp .ne 29, 3) := by decide +kernel
theorem dX4_power_59 : decode cX4_power 59 = .ok (.aload_n 0, 1) := by decide +kernel
theorem dX4_power_60 : decode cX4_power 60 = .ok (.getfield 30, 3) := by decide +kernel
theorem dX4_power_63 : decode cX4_power 63 = .ok (.getfield 134, 3) := by decide +kernel
theorem dX4_power_66 : decode cX4_power 66 = .ok (.iload_n 3, 1) := by decide +kernel
theorem dX4_power_67 : decode cX4_power 67 = .ok (.iaload, 1) := by decide +kernel
theorem dX4_power_68 : decode cX4_power 68 = .ok (.iconst 1, 1) := by decide +kernel
theorem dX4_power_69 : decode cX4_power 69 = .ok (.iand, 1) := by decide +kernel
theorem dX4_power_70 : decode cX4_power 70 = .ok (.ifCond .eq 15, 3) := by decide +kernel
theorem dX4_power_73 : decode cX4_power 73 = .ok (.iload_n 2, 1) := by decide +kernel
theorem dX4_power_74 : decode cX4_power 74 = .ok (.aload_n 0, 1) := by decide +kernel
theorem dX4_power_75 : decode cX4_power 75 = .ok (.getfield 30, 3) := by decide +kernel
theorem dX4_power_78 : decode cX4_power 78 = .ok (.getfield 137, 3) := by decide +kernel
theorem dX4_power_81 : decode cX4_power 81 = .ok (.iload_n 3, 1) := by decide +kernel
theorem dX4_power_82 : decode cX4_power 82 = .ok (.iaload, 1) := by decide +kernel
theorem dX4_power_83 : decode cX4_power 83 = .ok (.iadd, 1) := by decide +kernel
theorem dX4_power_84 : decode cX4_power 84 = .ok (.istore_n 2, 1) := by decide +kernel
theorem dX4_power_85 : decode cX4_power 85 = .ok (.iinc 3 1, 3) := by decide +kernel
theorem dX4_power_88 : decode cX4_power 88 = .ok (.goto (-53), 3) := by decide +kernel
theorem dX4_power_91 : decode cX4_power 91 = .ok (.iload_n 2, 1) := by decide +kernel
theorem dX4_power_92 : decode cX4_power 92 = .ok (.ireturn, 1) := by decide +kernel
theorem dX4_stack_0 : decode cX4_stack 0 = .ok (.aload_n 0, 1) := by decide +kernel
theorem dX4_stack_1 : decode cX4_stack 1 = .ok (.getfield 23, 3) := by decide +kernel
theorem dX4_stack_4 : decode cX4_stack 4 = .ok (.getfield 89, 3) := by decide +kernel
theorem dX4_stack_7 : decode cX4_stack 7 = .ok (.ireturn, 1) := by decide +kernel
set_option maxRecDepth 20000 in
theorem ggX4_entryCard_X0_has : GoodIn wsX4_entryCard wsX0_has := goodIn_r _ [9, 10, 27, 28, 29, 30, 31, 32] (by decide +kernel) (by decide +kernel)
set_option maxRecDepth 20000 in
theorem gX4_entryCard_X0_has : GoodIn wsX4_entryCard (wsV RX4 140 RX0 yX0_has wsX0_has) := goodIn_app (goodIn_of _ (by decide +kernel)) ggX4_entryCard_X0_has
set_option maxRecDepth 20000 in
theorem ggX4_entryCard_X0_indexOf : GoodIn wsX4_entryCard wsX0_indexOf := goodIn_r _ [14, 10, 15, 6, 7, 8, 9, 27, 28, 29, 30, 31, 32] (by decide +kernel) (by decide +kernel)
set_option maxRecDepth 20000 in
theorem gX4_entryCard_X0_indexOf : GoodIn wsX4_entryCard (wsV RX4 144 RX0 yX0_indexOf wsX0_indexOf) := goodIn_app (goodIn_of _ (by decide +kernel)) ggX4_entryCard_X0_indexOf
theorem dX4_entryCard_0 : decode cX4_entryCard 0 = .ok (.aload_n 0, 1) := by decide +kernel
theorem dX4_entryCard_1 : decode cX4_entryCard 1 = .ok (.getfield 23, 3) := by decide +kernel
theorem dX4_entryCard_4 : decode cX4_entryCard 4 = .ok (.iload_n 1, 1) := by decide +kernel
theorem dX4_entryCard_5 : decode cX4_entryCard 5 = .ok (.invokevirtual 140, 3) := by decide +kernel
theorem dX4_entryCard_8 : decode cX4_entryCard 8 = .ok (.ifCond .ne 13, 3) := by decide +kernel
theorem dX4_entryCard_11 : decode cX4_entryCard 11 = .ok (.new 41, 3) := by decide +kernel
theorem dX4_entryCard_14 : decode cX4_entryCard 14 = .ok (.dup, 1) := by decide +kernel
theorem dX4_entryCard_15 : decode cX4_entryCard 15 = .ok (.ldc 141, 2) := by decide +kernel
theorem dX4_entryCard_17 : decode cX4_entryCard 17 = .ok (.invokespecial 45, 3) := by decide +kernel
theorem dX4_entryCard_20 : decode cX4_entryCard 20 = .ok (.athrow, 1) := by decide +kernel
theorem dX4_entryCard_21 : decode cX4_entryCard 21 = .ok (.aload_n 0, 1) := by decide +kernel
theorem dX4_entryCard_22 : decode cX4_entryCard 22 = .ok (.getfield 23, 3) := by decide +kernel
theorem dX4_entryCard_25 : decode cX4_entryCard 25 = .ok (.getfield 143, 3) := by decide +kernel
theorem dX4_entryCard_28 : decode cX4_entryCard 28 = .ok (.aload_n 0, 1) := by decide +kernel
theorem dX4_entryCard_29 : decode cX4_entryCard 29 = .ok (.getfield 23, 3) := by decide +kernel
theorem dX4_entryCard_32 : decode cX4_entryCard 32 = .ok (.iload_n 1, 1) := by decide +kernel
theorem dX4_entryCard_33 : decode cX4_entryCard 33 = .ok (.invokevirtual 144, 3) := by decide +kernel
theorem dX4_entryCard_36 : decode cX4_entryCard 36 = .ok (.iaload, 1) := by decide +kernel
theorem dX4_entryCard_37 : decode cX4_entryCard 37 = .ok (.ireturn, 1) := by decide +kernel
set_option maxRecDepth 20000 in
theorem ggX4_isTrigger_X0_has : GoodIn wsX4_isTrigger wsX0_has := goodIn_r _ [9, 10, 27, 28, 29, 30, 31, 32] (by decide +kernel) (by decide +kernel)
set_option maxRecDepth 20000 in
theorem gX4_isTrigger_X0_has : GoodIn wsX4_isTrigger (wsV RX4 140 RX0 yX0_has wsX0_has) := goodIn_app (goodIn_of _ (by decide +kernel)) ggX4_isTrigger_X0_has
set_option maxRecDepth 20000 in
theorem ggX4_isTrigger_X0_indexOf : GoodIn wsX4_isTrigger wsX0_indexOf := goodIn_r _ [14, 10, 15, 6, 7, 8, 9, 27, 28, 29, 30, 31, 32] (by decide +kernel) (by decide +kernel)
set_option maxRecDepth 20000 in
theorem gX4_isTrigger_X0_indexOf : GoodIn wsX4_isTrigger (wsV RX4 144 RX0 yX0_indexOf wsX0_indexOf) := goodIn_app (goodIn_of _ (by decide +kernel)) ggX4_isTrigger_X0_indexOf
theorem dX4_isTrigger_0 : decode cX4_isTrigger 0 = .ok (.aload_n 0, 1) := by decide +kernel
theorem dX4_isTrigger_1 : decode cX4_isTrigger 1 = .ok (.getfield 23, 3) := by decide +kernel
theorem dX4_isTrigger_4 : decode cX4_isTrigger 4 = .ok (.iload_n 1, 1) := by decide +kernel
theorem dX4_isTrigger_5 : decode cX4_isTrigger 5 = .ok (.invokevirtual 140, 3) := by decide +kernel
theorem dX4_isTrigger_8 : decode cX4_isTrigger 8 = .ok (.ifCond .ne 13, 3) := by decide +kernel
theorem dX4_isTrigger_11 : decode cX4_isTrigger 11 = .ok (.new 41, 3) := by decide +kernel
theorem dX4_isTrigger_14 : decode cX4_isTrigger 14 = .ok (.dup, 1) := by decide +kernel
theorem dX4_isTrigger_15 : decode cX4_isTrigger 15 = .ok (.ldc 141, 2) := by decide +kernel
theorem dX4_isTrigger_17 : decode cX4_isTrigger 17 = .ok (.invokespecial 45, 3) := by decide +kernel
theorem dX4_isTrigger_20 : decode cX4_isTrigger 20 = .ok (.athrow, 1) := by decide +kernel
theorem dX4_isTrigger_21 : decode cX4_isTrigger 21 = .ok (.aload_n 0, 1) := by decide +kernel
theorem dX4_isTrigger_22 : decode cX4_isTrigger 22 = .ok (.getfield 23, 3) := by decide +kernel
theorem dX4_isTrigger_25 : decode cX4_isTrigger 25 = .ok (.getfield 147, 3) := by decide +kernel
theorem dX4_isTrigger_28 : decode cX4_isTrigger 28 = .ok (.aload_n 0, 1) := by decide +kernel
theorem dX4_isTrigger_29 : decode cX4_isTrigger 29 = .ok (.getfield 23, 3) := by decide +kernel
theorem dX4_isTrigger_32 : decode cX4_isTrigger 32 = .ok (.iload_n 1, 1) := by decide +kernel
theorem dX4_isTrigger_33 : decode cX4_isTrigger 33 = .ok (.invokevirtual 144, 3) := by decide +kernel
theorem dX4_isTrigger_36 : decode cX4_isTrigger 36 = .ok (.baload, 1) := by decide +kernel
theorem dX4_isTrigger_37 : decode cX4_isTrigger 37 = .ok (.ireturn, 1) := by decide +kernel
set_option maxRecDepth 20000 in
theorem ggX4_entryPlayer_X0_has : GoodIn wsX4_entryPlayer wsX0_has := goodIn_r _ [9, 10, 27, 28, 29, 30, 31, 32] (by decide +kernel) (by decide +kernel)
set_option maxRecDepth 20000 in
theorem gX4_entryPlayer_X0_has : GoodIn wsX4_entryPlayer (wsV RX4 140 RX0 yX0_has wsX0_has) := goodIn_app (goodIn_of _ (by decide +kernel)) ggX4_entryPlayer_X0_has
set_option maxRecDepth 20000 in
theorem ggX4_entryPlayer_X0_indexOf : GoodIn wsX4_entryPlayer wsX0_indexOf := goodIn_r _ [14, 10, 15, 6, 7, 8, 9, 27, 28, 29, 30, 31, 32] (by decide +kernel) (by decide +kernel)
set_option maxRecDepth 20000 in
theorem gX4_entryPlayer_X0_indexOf : GoodIn wsX4_entryPlayer (wsV RX4 144 RX0 yX0_indexOf wsX0_indexOf) := goodIn_app (goodIn_of _ (by decide +kernel)) ggX4_entryPlayer_X0_indexOf
theorem dX4_entryPlayer_0 : decode cX4_entryPlayer 0 = .ok (.aload_n 0, 1) := by decide +kernel
theorem dX4_entryPlayer_1 : decode cX4_entryPlayer 1 = .ok (.getfield 23, 3) := by decide +kernel
theorem dX4_entryPlayer_4 : decode cX4_entryPlayer 4 = .ok (.iload_n 1, 1) := by decide +kernel
theorem dX4_entryPlayer_5 : decode cX4_entryPlayer 5 = .ok (.invokevirtual 140, 3) := by decide +kernel
theorem dX4_entryPlayer_8 : decode cX4_entryPlayer 8 = .ok (.ifCond .ne 13, 3) := by decide +kernel
theorem dX4_entryPlayer_11 : decode cX4_entryPlayer 11 = .ok (.new 41, 3) := by decide +kernel
theorem dX4_entryPlayer_14 : decode cX4_entryPlayer 14 = .ok (.dup, 1) := by decide +kernel
theorem dX4_entryPlayer_15 : decode cX4_entryPlayer 15 = .ok (.ldc 141, 2) := by decide +kernel
theorem dX4_entryPlayer_17 : decode cX4_entryPlayer 17 = .ok (.invokespecial 45, 3) := by decide +kernel
theorem dX4_entryPlayer_20 : decode cX4_entryPlayer 20 = .ok (.athrow, 1) := by decide +kernel
theorem dX4_entryPlayer_21 : decode cX4_entryPlayer 21 = .ok (.aload_n 0, 1) := by decide +kernel
theorem dX4_entryPlayer_22 : decode cX4_entryPlayer 22 = .ok (.getfield 23, 3) := by decide +kernel
theorem dX4_entryPlayer_25 : decode cX4_entryPlayer 25 = .ok (.getfield 151, 3) := by decide +kernel
theorem dX4_entryPlayer_28 : decode cX4_entryPlayer 28 = .ok (.aload_n 0, 1) := by decide +kernel
theorem dX4_entryPlayer_29 : decode cX4_entryPlayer 29 = .ok (.getfield 23, 3) := by decide +kernel
theorem dX4_entryPlayer_32 : decode cX4_entryPlayer 32 = .ok (.iload_n 1, 1) := by decide +kernel
theorem dX4_entryPlayer_33 : decode cX4_entryPlayer 33 = .ok (.invokevirtual 144, 3) := by decide +kernel
theorem dX4_entryPlayer_36 : decode cX4_entryPlayer 36 = .ok (.iaload, 1) := by decide +kernel
theorem dX4_entryPlayer_37 : decode cX4_entryPlayer 37 = .ok (.ireturn, 1) := by decide +kernel
set_option maxRecDepth 20000 in
theorem ggX4_entryTarget_X0_has : GoodIn wsX4_entryTarget wsX0_has := goodIn_r _ [8, 9, 47, 48, 49, 50, 51, 52] (by decide +kernel) (by decide +kernel)
set_option maxRecDepth 20000 in
theorem gX4_entryTarget_X0_has : GoodIn wsX4_entryTarget (wsV RX4 140 RX0 yX0_has wsX0_has) := goodIn_app (goodIn_of _ (by decide +kernel)) ggX4_entryTarget_X0_has
set_option maxRecDepth 20000 in
theorem ggX4_entryTarget_X0_indexOf : GoodIn wsX4_entryTarget wsX0_indexOf := goodIn_r _ [13, 9, 14, 5, 6, 7, 8, 47, 48, 49, 50, 51, 52] (by decide +kernel) (by decide +kernel)
set_option maxRecDepth 20000 in
theorem gX4_entryTarget_X0_indexOf : GoodIn wsX4_entryTarget (wsV RX4 144 RX0 yX0_indexOf wsX0_indexOf) := goodIn_app (goodIn_of _ (by decide +kernel)) ggX4_entryTarget_X0_indexOf
set_option maxRecDepth 20000 in
theorem ggX4_entryTarget_X4_targetPlace : GoodIn wsX4_entryTarget wsX4_targetPlace := goodIn_r _ [19, 3, 20, 21, 22, 23, 24, 25, 26, 7, 27, 9, 28, 29, 30, 31, 32, 33, 34, 35, 36, 37, 38, 39, 40, 41, 42, 43, 44, 45, 46, 47, 48, 49, 50, 51, 52, 53, 54, 55, 56, 57] (by decide +kernel) (by decide +kernel)
set_option maxRecDepth 20000 in
theorem gX4_entryTarget_X4_targetPlace : GoodIn wsX4_entryTarget (wsV RX4 154 RX4 yX4_targetPlace wsX4_targetPlace) := goodIn_app (goodIn_of _ (by decide +kernel)) ggX4_entryTarget_X4_targetPlace
theorem dX4_entryTarget_0 : decode cX4_entryTarget 0 = .ok (.aload_n 0, 1) := by decide +kernel
theorem dX4_entryTarget_1 : decode cX4_entryTarget 1 = .ok (.getfield 23, 3) := by decide +kernel
theorem dX4_entryTarget_4 : decode cX4_entryTarget 4 = .ok (.iload_n 1, 1) := by decide +kernel
theorem dX4_entryTarget_5 : decode cX4_entryTarget 5 = .ok (.invokevirtual 140, 3) := by decide +kernel
theorem dX4_entryTarget_8 : decode cX4_entryTarget 8 = .ok (.ifCond .ne 13, 3) := by decide +kernel
theorem dX4_entryTarget_11 : decode cX4_entryTarget 11 = .ok (.new 41, 3) := by decide +kernel
theorem dX4_entryTarget_14 : decode cX4_entryTarget 14 = .ok (.dup, 1) := by decide +kernel
theorem dX4_entryTarget_15 : decode cX4_entryTarget 15 = .ok (.ldc 141, 2) := by decide +kernel
theorem dX4_entryTarget_17 : decode cX4_entryTarget 17 = .ok (.invokespecial 45, 3) := by decide +kernel
theorem dX4_entryTarget_20 : decode cX4_entryTarget 20 = .ok (.athrow, 1) := by decide +kernel
theorem dX4_entryTarget_21 : decode cX4_entryTarget 21 = .ok (.aload_n 0, 1) := by decide +kernel
theorem dX4_entryTarget_22 : decode cX4_entryTarget 22 = .ok (.aload_n 0, 1) := by decide +kernel
theorem dX4_entryTarget_23 : decode cX4_entryTarget 23 = .ok (.getfield 23, 3) := by decide +kernel
theorem dX4_entryTarget_26 : decode cX4_entryTarget 26 = .ok (.iload_n 1, 1) := by decide +kernel
theorem dX4_entryTarget_27 : decode cX4_entryTarget 27 = .ok (.invokevirtual 144, 3) := by decide +kernel
theorem dX4_entryTarget_30 : decode cX4_entryTarget 30 = .ok (.invokevirtual 154, 3) := by decide +kernel
theorem dX4_entryTarget_33 : decode cX4_entryTarget 33 = .ok (.ireturn, 1) := by decide +kernel
set_option maxRecDepth 20000 in
theorem ggX4_requireThingAndLayer_X2_has : GoodIn wsX4_requireThingAndLayer wsX2_has := goodIn_r _ [10, 11, 23, 24, 25, 26, 27] (by decide +kernel) (by decide +kernel)
set_option maxRecDepth 20000 in
theorem gX4_requireThingAndLayer_X2_has : GoodIn wsX4_requireThingAndLayer (wsV RX4 115 RX2 yX2_has wsX2_has) := goodIn_app (goodIn_of _ (by decide +kernel)) ggX4_requireThingAndLayer_X2_has
theorem dX4_requireThingAndLayer_0 : decode cX4_requireThingAndLayer 0 = .ok (.aload_n 0, 1) := by decide +kernel
theorem dX4_requireThingAndLayer_1 : decode cX4_requireThingAndLayer 1 = .ok (.getfield 16, 3) := by decide +kernel
theorem dX4_requireThingAndLayer_4 : decode cX4_requireThingAndLayer 4 = .ok (.iload_n 1, 1) := by decide +kernel
theorem dX4_requireThingAndLayer_5 : decode cX4_requireThingAndLayer 5 = .ok (.invokevirtual 115, 3) := by decide +kernel
theorem dX4_requireThingAndLayer_8 : decode cX4_requireThingAndLayer 8 = .ok (.ifCond .ne 13, 3) := by decide +kernel
theorem dX4_requireThingAndLayer_11 : decode cX4_requireThingAndLayer 11 = .ok (.new 41, 3) := by decide +kernel
theorem dX4_requireThingAndLayer_14 : decode cX4_requireThingAndLayer 14 = .ok (.dup, 1) := by decide +kernel
theorem dX4_requireThingAndLayer_15 : decode cX4_requireThingAndLayer 15 = .ok (.ldc 119, 2) := by decide +kernel
theorem dX4_requireThingAndLayer_17 : decode cX4_requireThingAndLayer 17 = .ok (.invokespecial 45, 3) := by decide +kernel
theorem dX4_requireThingAndLayer_20 : decode cX4_requireThingAndLayer 20 = .ok (.athrow, 1) := by decide +kernel
theorem dX4_requireThingAndLayer_21 : decode cX4_requireThingAndLayer 21 = .ok (.iload_n 2, 1) := by decide +kernel
theorem dX4_requireThingAndLayer_22 : decode cX4_requireThingAndLayer 22 = .ok (.ifCond .lt 8, 3) := by decide +kernel
theorem dX4_requireThingAndLayer_25 : decode cX4_requireThingAndLayer 25 = .ok (.iload_n 2, 1) := by decide +kernel
theorem dX4_requireThingAndLayer_26 : decode cX4_requireThingAndLayer 26 = .ok (.iconst 5, 1) := by decide +kernel
theorem dX4_requireThingAndLayer_27 : decode cX4_requireThingAndLayer 27 = .ok (.if_icmp .le 13, 3) := by decide +kernel
theorem dX4_requireThingAndLayer_30 : decode cX4_requireThingAndLayer 30 = .ok (.new 98, 3) := by decide +kernel
theorem dX4_requireThingAndLayer_33 : decode cX4_requireThingAndLayer 33 = .ok (.dup, 1) := by decide +kernel
theorem dX4_requireThingAndLayer_34 : decode cX4_requireThingAndLayer 34 = .ok (.ldc 157, 2) := by decide +kernel
theorem dX4_requireThingAndLayer_36 : decode cX4_requireThingAndLayer 36 = .ok (.invokespecial 102, 3) := by decide +kernel
theorem dX4_requireThingAndLayer_39 : decode cX4_requireThingAndLayer 39 = .ok (.athrow, 1) := by decide +kernel
theorem dX4_requireThingAndLayer_40 : decode cX4_requireThingAndLayer 40 = .ok (.return_, 1) := by decide +kernel
theorem dX4_nextPlayer_0 : decode cX4_nextPlayer 0 = .ok (.iload_n 0, 1) := by decide +kernel
theorem dX4_nextPlayer_1 : decode cX4_nextPlayer 1 = .ok (.iconst 1, 1) := by decide +kernel
theorem dX4_nextPlayer_2 : decode cX4_nextPlayer 2 = .ok (.iadd, 1) := by decide +kernel
theorem dX4_nextPlayer_3 : decode cX4_nextPlayer 3 = .ok (.iconst 3, 1) := by decide +kernel
theorem dX4_nextPlayer_4 : decode cX4_nextPlayer 4 = .ok (.if_icmp .ge 9, 3) := by decide +kernel
theorem dX4_nextPlayer_7 : decode cX4_nextPlayer 7 = .ok (.iload_n 0, 1) := by decide +kernel
theorem dX4_nextPlayer_8 : decode cX4_nextPlayer 8 = .ok (.iconst 1, 1) := by decide +kernel
theorem dX4_nextPlayer_9 : decode cX4_nextPlayer 9 = .ok (.iadd, 1) := by decide +kernel
theorem dX4_nextPlayer_10 : decode cX4_nextPlayer 10 = .ok (.goto 4, 3) := by decide +kernel
theorem dX4_nextPlayer_13 : decode cX4_nextPlayer 13 = .ok (.iconst 0, 1) := by decide +kernel
theorem dX4_nextPlayer_14 : decode cX4_nextPlayer 14 = .ok (.ireturn, 1) := by decide +kernel
theorem dX4_costOf_0 : decode cX4_costOf 0 = .ok (.iload_n 0, 1) := by decide +kernel
theorem dX4_costOf_1 : decode cX4_costOf 1 = .ok (.ifCond .lt 17, 3) := by decide +kernel
theorem dX4_costOf_4 : decode cX4_costOf 4 = .ok (.iload_n 0, 1) := by decide +kernel
theorem dX4_costOf_5 : decode cX4_costOf 5 = .ok (.bipush 14, 2) := by decide +kernel
theorem dX4_costOf_7 : decode cX4_costOf 7 = .ok (.if_icmp .ge 11, 3) := by decide +kernel
theorem dX4_costOf_10 : decode cX4_costOf 10 = .ok (.getstatic 159, 3) := by decide +kernel
theorem dX4_costOf_13 : decode cX4_costOf 13 = .ok (.iload_n 0, 1) := by decide +kernel
theorem dX4_costOf_14 : decode cX4_costOf 14 = .ok (.iaload, 1) := by decide +kernel
theorem dX4_costOf_15 : decode cX4_costOf 15 = .ok (.goto 4, 3) := by decide +kernel
theorem dX4_costOf_18 : decode cX4_costOf 18 = .ok (.iconst 0, 1) := by decide +kernel
theorem dX4_costOf_19 : decode cX4_costOf 19 = .ok (.ireturn, 1) := by decide +kernel
theorem dX4_layerOf_0 : decode cX4_layerOf 0 = .ok (.iload_n 0, 1) := by decide +kernel
theorem dX4_layerOf_1 : decode cX4_layerOf 1 = .ok (.ifCond .lt 17, 3) := by decide +kernel
theorem dX4_layerOf_4 : decode cX4_layerOf 4 = .ok (.iload_n 0, 1) := by decide +kernel
theorem dX4_layerOf_5 : decode cX4_layerOf 5 = .ok (.bipush 14, 2) := by decide +kernel
theorem dX4_layerOf_7 : decode cX4_layerOf 7 = .ok (.if_icmp .ge 11, 3) := by decide +kernel
theorem dX4_layerOf_10 : decode cX4_layerOf 10 = .ok (.getstatic 162, 3) := by decide +kernel
theorem dX4_layerOf_13 : decode cX4_layerOf 13 = .ok (.iload_n 0, 1) := by decide +kernel
theorem dX4_layerOf_14 : decode cX4_layerOf 14 = .ok (.iaload, 1) := by decide +kernel
theorem dX4_layerOf_15 : decode cX4_layerOf 15 = .ok (.goto 4, 3) := by decide +kernel
theorem dX4_layerOf_18 : decode cX4_layerOf 18 = .ok (.iconst 0, 1) := by decide +kernel
theorem dX4_layerOf_19 : decode cX4_layerOf 19 = .ok (.ireturn, 1) := by decide +kernel
theorem dX4_isThing_0 : decode cX4_isThing 0 = .ok (.iload_n 0, 1) := by decide +kernel
theorem dX4_isThing_1 : decode cX4_isThing 1 = .ok (.bipush 12, 2) := by decide +kernel
theorem dX4_isThing_3 : decode cX4_isThing 3 = .ok (.if_icmp .ge 7, 3) := by decide +kernel
theorem dX4_isThing_6 : decode cX4_isThing 6 = .ok (.iconst 1, 1) := by decide +kernel
theorem dX4_isThing_7 : decode cX4_isThing 7 = .ok (.goto 4, 3) := by decide +kernel
theorem dX4_isThing_10 : decode cX4_isThing 10 = .ok (.iconst 0, 1) := by decide +kernel
theorem dX4_isThing_11 : decode cX4_isThing 11 = .ok (.ireturn, 1) := by decide +kernel
theorem dX4_newId_0 : decode cX4_newId 0 = .ok (.aload_n 0, 1) := by decide +kernel
theorem dX4_newId_1 : decode cX4_newId 1 = .ok (.getfield 165, 3) := by decide +kernel
theorem dX4_newId_4 : decode cX4_newId 4 = .ok (.istore_n 1, 1) := by decide +kernel
theorem dX4_newId_5 : decode cX4_newId 5 = .ok (.aload_n 0, 1) := by decide +kernel
theorem dX4_newId_6 : decode cX4_newId 6 = .ok (.dup, 1) := by decide +kernel
theorem dX4_newId_7 : decode cX4_newId 7 = .ok (.getfield 165, 3) := by decide +kernel
theorem dX4_newId_10 : decode cX4_newId 10 = .ok (.iconst 1, 1) := by decide +kernel
theorem dX4_newId_11 : decode cX4_newId 11 = .ok (.iadd, 1) := by decide +kernel
theorem dX4_newId_12 : decode cX4_newId 12 = .ok (.putfield 165, 3) := by decide +kernel
theorem dX4_newId_15 : decode cX4_newId 15 = .ok (.iload_n 1, 1) := by decide +kernel
theorem dX4_newId_16 : decode cX4_newId 16 = .ok (.ireturn, 1) := by decide +kernel
theorem dX4_coinsOf_0 : decode cX4_coinsOf 0 = .ok (.iload_n 1, 1) := by decide +kernel
theorem dX4_coinsOf_1 : decode cX4_coinsOf 1 = .ok (.ifCond .lt 17, 3) := by decide +kernel
theorem dX4_coinsOf_4 : decode cX4_coinsOf 4 = .ok (.iload_n 1, 1) := by decide +kernel
theorem dX4_coinsOf_5 : decode cX4_coinsOf 5 = .ok (.iconst 3, 1) := by decide +kernel
theorem dX4_coinsOf_6 : decode cX4_coinsOf 6 = .ok (.if_icmp .ge 12, 3) := by decide +kernel
theorem dX4_coinsOf_9 : decode cX4_coinsOf 9 = .ok (.aload_n 0, 1) := by decide +kernel
theorem dX4_coinsOf_10 : decode cX4_coinsOf 10 = .ok (.getfield 9, 3) := by decide +kernel
theorem dX4_coinsOf_13 : decode cX4_coinsOf 13 = .ok (.iload_n 1, 1) := by decide +kernel
theorem dX4_coinsOf_14 : decode cX4_coinsOf 14 = .ok (.iaload, 1) := by decide +kernel
theorem dX4_coinsOf_15 : decode cX4_coinsOf 15 = .ok (.goto 4, 3) := by decide +kernel
theorem dX4_coinsOf_18 : decode cX4_coinsOf 18 = .ok (.iconst 0, 1) := by decide +kernel
theorem dX4_coinsOf_19 : decode cX4_coinsOf 19 = .ok (.ireturn, 1) := by decide +kernel
theorem dX4_pay_0 : decode cX4_pay 0 = .ok (.iload_n 1, 1) := by decide +kernel
theorem dX4_pay_1 : decode cX4_pay 1 = .ok (.ifCond .lt 18, 3) := by decide +kernel
theorem dX4_pay_4 : decode cX4_pay 4 = .ok (.iload_n 1, 1) := by decide +kernel
theorem dX4_pay_5 : decode cX4_pay 5 = .ok (.iconst 3, 1) := by decide +kernel
theorem dX4_pay_6 : decode cX4_pay 6 = .ok (.if_icmp .ge 13, 3) := by decide +kernel
theorem dX4_pay_9 : decode cX4_pay 9 = .ok (.aload_n 0, 1) := by decide +kernel
theorem dX4_pay_10 : decode cX4_pay 10 = .ok (.getfield 9, 3) := by decide +kernel
theorem dX4_pay_13 : decode cX4_pay 13 = .ok (.iload_n 1, 1) := by decide +kernel
theorem dX4_pay_14 : decode cX4_pay 14 = .ok (.dup2, 1) := by decide +kernel
theorem dX4_pay_15 : decode cX4_pay 15 = .ok (.iaload, 1) := by decide +kernel
theorem dX4_pay_16 : decode cX4_pay 16 = .ok (.iload_n 2, 1) := by decide +kernel
theorem dX4_pay_17 : decode cX4_pay 17 = .ok (.iadd, 1) := by decide +kernel
theorem dX4_pay_18 : decode cX4_pay 18 = .ok (.iastore, 1) := by decide +kernel
theorem dX4_pay_19 : decode cX4_pay 19 = .ok (.return_, 1) := by decide +kernel
set_option maxRecDepth 20000 in
theorem ggX4_findObstacle_X4_isThing : GoodIn wsX4_findObstacle wsX4_isThing := goodIn_r _ [8] (by decide +kernel) (by decide +kernel)
set_option maxRecDepth 20000 in
theorem gX4_findObstacle_X4_isThing : GoodIn wsX4_findObstacle (va_wsS RX4 168 yX4_isThing wsX4_isThing) := goodIn_app (goodIn_of _ (by decide +kernel)) ggX4_findObstacle_X4_isThing
set_option maxRecDepth 20000 in
theorem ggX4_findObstacle_X4_coinsOf : GoodIn wsX4_findObstacle wsX4_coinsOf := goodIn_r _ [12, 13, 41, 42, 43, 44, 45, 46, 47, 48, 49, 50, 51] (by decide +kernel) (by decide +kernel)
set_option maxRecDepth 20000 in
theorem gX4_findObstacle_X4_coinsOf : GoodIn wsX4_findObstacle (wsV RX4 171 RX4 yX4_coinsOf wsX4_coinsOf) := goodIn_app (goodIn_of _ (by decide +kernel)) ggX4_findObstacle_X4_coinsOf
set_option maxRecDepth 20000 in
theorem ggX4_findObstacle_X4_costOf : GoodIn wsX4_findObstacle wsX4_costOf := goodIn_r _ [16, 17] (by decide +kernel) (by decide +kernel)
set_option maxRecDepth 20000 in
theorem gX4_findObstacle_X4_costOf : GoodIn wsX4_findObstacle (va_wsS RX4 61 yX4_costOf wsX4_costOf) := goodIn_app (goodIn_of _ (by decide +kernel)) ggX4_findObstacle_X4_costOf
set_option maxRecDepth 20000 in
theorem ggX4_findObstacle_X4_hasTarget : GoodIn wsX4_findObstacle wsX4_hasTarget := goodIn_r _ [21, 22, 1, 23, 24, 25, 26, 27, 28, 29, 30, 31, 32, 33, 34, 35, 36, 37, 38, 39, 40, 41, 42, 43, 44, 45, 46, 47, 48, 49, 50, 51, 52, 53, 54, 55, 56, 57, 58, 59, 60, 61, 62] (by decide +kernel) (by decide +kernel)
set_option maxRecDepth 20000 in
theorem gX4_findObstacle_X4_hasTarget : GoodIn wsX4_findObstacle (wsV RX4 174 RX4 yX4_hasTarget wsX4_hasTarget) := goodIn_app (goodIn_of _ (by decide +kernel)) ggX4_findObstacle_X4_hasTarget
theorem dX4_findObstacle_0 : decode cX4_findObstacle 0 = .ok (.iload_n 1, 1) := by decide +kernel
theorem dX4_findObstacle_1 : decode cX4_findObstacle 1 = .ok (.invokestatic 168, 3) := by decide +kernel
theorem dX4_findObstacle_4 : decode cX4_findObstacle 4 = .ok (.ifCond .eq 26, 3) := by decide +kernel
theorem dX4_findObstacle_7 : decode cX4_findObstacle 7 = .ok (.aload_n 0, 1) := by decide +kernel
theorem dX4_findObstacle_8 : decode cX4_findObstacle 8 = .ok (.getfield 23, 3) := by decide +kernel
theorem dX4_findObstacle_11 : decode cX4_findObstacle 11 = .ok (.getfield 89, 3) := by decide +kernel
theorem dX4_findObstacle_14 : decode cX4_findObstacle 14 = .ok (.ifCond .gt 14, 3) := by decide +kernel
theorem dX4_findObstacle_17 : decode cX4_findObstacle 17 = .ok (.aload_n 0, 1) := by decide +kernel
theorem dX4_findObstacle_18 : decode cX4_findObstacle 18 = .ok (.getfield 57, 3) := by decide +kernel
theorem dX4_findObstacle_21 : decode cX4_findObstacle 21 = .ok (.aload_n 0, 1) := by decide +kernel
theorem dX4_findObstacle_22 : decode cX4_findObstacle 22 = .ok (.getfield 103, 3) := by decide +kernel
theorem dX4_findObstacle_25 : decode cX4_findObstacle 25 = .ok (.if_icmp .eq 5, 3) := by decide +kernel
theorem dX4_findObstacle_28 : decode cX4_findObstacle 28 = .ok (.iconst 1, 1) := by decide +kernel
theorem dX4_findObstacle_29 : decode cX4_findObstacle 29 = .ok (.ireturn, 1) := by decide +kernel
theorem dX4_findObstacle_30 : decode cX4_findObstacle 30 = .ok (.aload_n 0, 1) := by decide +kernel
theorem dX4_findObstacle_31 : decode cX4_findObstacle 31 = .ok (.aload_n 0, 1) := by decide +kernel
theorem dX4_findObstacle_32 : decode cX4_findObstacle 32 = .ok (.getfield 57, 3) := by decide +kernel
theorem dX4_findObstacle_35 : decode cX4_findObstacle 35 = .ok (.invokevirtual 171, 3) := by decide +kernel
theorem dX4_findObstacle_38 : decode cX4_findObstacle 38 = .ok (.iload_n 1, 1) := by decide +kernel
theorem dX4_findObstacle_39 : decode cX4_findObstacle 39 = .ok (.invokestatic 61, 3) := by decide +kernel
theorem dX4_findObstacle_42 : decode cX4_findObstacle 42 = .ok (.if_icmp .ge 5, 3) := by decide +kernel
theorem dX4_findObstacle_45 : decode cX4_findObstacle 45 = .ok (.iconst 2, 1) := by decide +kernel
theorem dX4_findObstacle_46 : decode cX4_findObstacle 46 = .ok (.ireturn, 1) := by decide +kernel
theorem dX4_findObstacle_47 : decode cX4_findObstacle 47 = .ok (.aload_n 0, 1) := by decide +kernel
theorem dX4_findObstacle_48 : decode cX4_findObstacle 48 = .ok (.iload_n 1, 1) := by decide +kernel
theorem dX4_findObstacle_49 : decode cX4_findObstacle 49 = .ok (.iload_n 2, 1) := by decide +kernel
theorem dX4_findObstacle_50 : decode cX4_findObstacle 50 = .ok (.invokevirtual 174, 3) := by decide +kernel
theorem dX4_findObstacle_53 : decode cX4_findObstacle 53 = .ok (.ifCond .ne 5, 3) := by decide +kernel
theorem dX4_findObstacle_56 : decode cX4_findObstacle 56 = .ok (.iconst 3, 1) := by decide +kernel
theorem dX4_findObstacle_57 : decode cX4_findObstacle 57 = .ok (.ireturn, 1) := by decide +kernel
theorem dX4_findObstacle_58 : decode cX4_findObstacle 58 = .ok (.aload_n 0, 1) := by decide +kernel
theorem dX4_findObstacle_59 : decode cX4_findObstacle 59 = .ok (.getfield 23, 3) := by decide +kernel
theorem dX4_findObstacle_62 : decode cX4_findObstacle 62 = .ok (.getfield 89, 3) := by decide +kernel
theorem dX4_findObstacle_65 : decode cX4_findObstacle 65 = .ok (.bipush 12, 2) := by decide +kernel
theorem dX4_findObstacle_67 : decode cX4_findObstacle 67 = .ok (.if_icmp .lt 7, 3) := by decide +kernel
theorem dX4_findObstacle_70 : decode cX4_findObstacle 70 = .ok (.iconst 4, 1) := by decide +kernel
theorem dX4_findObstacle_71 : decode cX4_findObstacle 71 = .ok (.goto 4, 3) := by decide +kernel
theorem dX4_findObstacle_74 : decode cX4_findObstacle 74 = .ok (.iconst 0, 1) := by decide +kernel
theorem dX4_findObstacle_75 : decode cX4_findObstacle 75 = .ok (.ireturn, 1) := by decide +kernel
set_option maxRecDepth 20000 in
theorem ggX4_hasTarget_X2_has : GoodIn wsX4_hasTarget wsX2_has := goodIn_r _ [8, 9, 38, 39, 40, 41, 42] (by decide +kernel) (by decide +kernel)
set_option maxRecDepth 20000 in
theorem gX4_hasTarget_X2_has : GoodIn wsX4_hasTarget (wsV RX4 115 RX2 yX2_has wsX2_has) := goodIn_app (goodIn_of _ (by decide +kernel)) ggX4_hasTarget_X2_has
set_option maxRecDepth 20000 in
theorem ggX4_hasTarget_X0_has : GoodIn wsX4_hasTarget wsX0_has := goodIn_r _ [14, 15, 32, 33, 34, 35, 36, 37] (by decide +kernel) (by decide +kernel)
set_option maxRecDepth 20000 in
theorem gX4_hasTarget_X0_has : GoodIn wsX4_hasTarget (wsV RX4 140 RX0 yX0_has wsX0_has) := goodIn_app (goodIn_of _ (by decide +kernel)) ggX4_hasTarget_X0_has
set_option maxRecDepth 20000 in
theorem ggX4_hasTarget_X0_indexOf : GoodIn wsX4_hasTarget wsX0_indexOf := goodIn_r _ [19, 15, 20, 11, 12, 13, 14, 32, 33, 34, 35, 36, 37] (by decide +kernel) (by decide +kernel)
set_option maxRecDepth 20000 in
theorem gX4_hasTarget_X0_indexOf : GoodIn wsX4_hasTarget (wsV RX4 144 RX0 yX0_indexOf wsX0_indexOf) := goodIn_app (goodIn_of _ (by decide +kernel)) ggX4_hasTarget_X0_indexOf
theorem dX4_hasTarget_0 : decode cX4_hasTarget 0 = .ok (.iload_n 1, 1) := by decide +kernel
theorem dX4_hasTarget_1 : decode cX4_hasTarget 1 = .ok (.bipush 7, 2) := by decide +kernel
theorem dX4_hasTarget_3 : decode cX4_hasTarget 3 = .ok (.if_icmp .eq 9, 3) := by decide +kernel
theorem dX4_hasTarget_6 : decode cX4_hasTarget 6 = .ok (.iload_n 1, 1) := by decide +kernel
theorem dX4_hasTarget_7 : decode cX4_hasTarget 7 = .ok (.bipush 12, 2) := by decide +kernel
theorem dX4_hasTarget_9 : decode cX4_hasTarget 9 = .ok (.if_icmp .ne 12, 3) := by decide +kernel
theorem dX4_hasTarget_12 : decode cX4_hasTarget 12 = .ok (.aload_n 0, 1) := by decide +kernel
theorem dX4_hasTarget_13 : decode cX4_hasTarget 13 = .ok (.getfield 16, 3) := by decide +kernel
theorem dX4_hasTarget_16 : decode cX4_hasTarget 16 = .ok (.iload_n 2, 1) := by decide +kernel
theorem dX4_hasTarget_17 : decode cX4_hasTarget 17 = .ok (.invokevirtual 115, 3) := by decide +kernel
theorem dX4_hasTarget_20 : decode cX4_hasTarget 20 = .ok (.ireturn, 1) := by decide +kernel
theorem dX4_hasTarget_21 : decode cX4_hasTarget 21 = .ok (.iload_n 1, 1) := by decide +kernel
theorem dX4_hasTarget_22 : decode cX4_hasTarget 22 = .ok (.bipush 13, 2) := by decide +kernel
theorem dX4_hasTarget_24 : decode cX4_hasTarget 24 = .ok (.if_icmp .ne 39, 3) := by decide +kernel
theorem dX4_hasTarget_27 : decode cX4_hasTarget 27 = .ok (.aload_n 0, 1) := by decide +kernel
theorem dX4_hasTarget_28 : decode cX4_hasTarget 28 = .ok (.getfield 23, 3) := by decide +kernel
theorem dX4_hasTarget_31 : decode cX4_hasTarget 31 = .ok (.iload_n 2, 1) := by decide +kernel
theorem dX4_hasTarget_32 : decode cX4_hasTarget 32 = .ok (.invokevirtual 140, 3) := by decide +kernel
theorem dX4_hasTarget_35 : decode cX4_hasTarget 35 = .ok (.ifCond .eq 26, 3) := by decide +kernel
theorem dX4_hasTarget_38 : decode cX4_hasTarget 38 = .ok (.aload_n 0, 1) := by decide +kernel
theorem dX4_hasTarget_39 : decode cX4_hasTarget 39 = .ok (.getfield 23, 3) := by decide +kernel
theorem dX4_hasTarget_42 : decode cX4_hasTarget 42 = .ok (.getfield 147, 3) := by decide +kernel
theorem dX4_hasTarget_45 : decode cX4_hasTarget 45 = .ok (.aload_n 0, 1) := by decide +kernel
theorem dX4_hasTarget_46 : decode cX4_hasTarget 46 = .ok (.getfield 23, 3) := by decide +kernel
theorem dX4_hasTarget_49 : decode cX4_hasTarget 49 = .ok (.iload_n 2, 1) := by decide +kernel
theorem dX4_hasTarget_50 : decode cX4_hasTarget 50 = .ok (.invokevirtual 144, 3) := by decide +kernel
theorem dX4_hasTarget_53 : decode cX4_hasTarget 53 = .ok (.baload, 1) := by decide +kernel
theorem dX4_hasTarget_54 : decode cX4_hasTarget 54 = .ok (.ifCond .ne 7, 3) := by decide +kernel
theorem dX4_hasTarget_57 : decode cX4_hasTarget 57 = .ok (.iconst 1, 1) := by decide +kernel
theorem dX4_hasTarget_58 : decode cX4_hasTarget 58 = .ok (.goto 4, 3) := by decide +kernel
theorem dX4_hasTarget_61 : decode cX4_hasTarget 61 = .ok (.iconst 0, 1) := by decide +kernel
theorem dX4_hasTarget_62 : decode cX4_hasTarget 62 = .ok (.ireturn, 1) := by decide +kernel
theorem dX4_hasTarget_63 : decode cX4_hasTarget 63 = .ok (.iconst 1, 1) := by decide +kernel
theorem dX4_hasTarget_64 : decode cX4_hasTarget 64 = .ok (.ireturn, 1) := by decide +kernel
set_option maxRecDepth 20000 in
theorem ggX4_targetId_X2_has : GoodIn wsX4_targetId wsX2_has := goodIn_r _ [9, 10, 33, 34, 35, 36, 37] (by decide +kernel) (by decide +kernel)
set_option maxRecDepth 20000 in
theorem gX4_targetId_X2_has : GoodIn wsX4_targetId (wsV RX4 115 RX2 yX2_has wsX2_has) := goodIn_app (goodIn_of _ (by decide +kernel)) ggX4_targetId_X2_has
set_option maxRecDepth 20000 in
theorem ggX4_targetId_X0_has : GoodIn wsX4_targetId wsX0_has := goodIn_r _ [15, 16, 38, 39, 40, 41, 42, 43] (by decide +kernel) (by decide +kernel)
set_option maxRecDepth 20000 in
theorem gX4_targetId_X0_has : GoodIn wsX4_targetId (wsV RX4 140 RX0 yX0_has wsX0_has) := goodIn_app (goodIn_of _ (by decide +kernel)) ggX4_targetId_X0_has
set_option maxRecDepth 20000 in
theorem ggX4_targetId_X0_indexOf : GoodIn wsX4_targetId wsX0_indexOf := goodIn_r _ [20, 16, 21, 12, 13, 14, 15, 38, 39, 40, 41, 42, 43] (by decide +kernel) (by decide +kernel)
set_option maxRecDepth 20000 in
theorem gX4_targetId_X0_indexOf : GoodIn wsX4_targetId (wsV RX4 144 RX0 yX0_indexOf wsX0_indexOf) := goodIn_app (goodIn_of _ (by decide +kernel)) ggX4_targetId_X0_indexOf
theorem dX4_targetId_0 : decode cX4_targetId 0 = .ok (.iload_n 1, 1) := by decide +kernel
theorem dX4_targetId_1 : decode cX4_targetId 1 = .ok (.bipush 7, 2) := by decide +kernel
theorem dX4_targetId_3 : decode cX4_targetId 3 = .ok (.if_icmp .eq 9, 3) := by decide +kernel
theorem dX4_targetId_6 : decode cX4_targetId 6 = .ok (.iload_n 1, 1) := by decide +kernel
theorem dX4_targetId_7 : decode cX4_targetId 7 = .ok (.bipush 12, 2) := by decide +kernel
theorem dX4_targetId_9 : decode cX4_targetId 9 = .ok (.if_icmp .ne 24, 3) := by decide +kernel
theorem dX4_targetId_12 : decode cX4_targetId 12 = .ok (.aload_n 0, 1) := by decide +kernel
theorem dX4_targetId_13 : decode cX4_targetId 13 = .ok (.getfield 16, 3) := by decide +kernel
theorem dX4_targetId_16 : decode cX4_targetId 16 = .ok (.iload_n 2, 1) := by decide +kernel
theorem dX4_targetId_17 : decode cX4_targetId 17 = .ok (.invokevirtual 115, 3) := by decide +kernel
theorem dX4_targetId_20 : decode cX4_targetId 20 = .ok (.ifCond .eq 13, 3) := by decide +kernel
theorem dX4_targetId_23 : decode cX4_targetId 23 = .ok (.aload_n 0, 1) := by decide +kernel
theorem dX4_targetId_24 : decode cX4_targetId 24 = .ok (.getfield 16, 3) := by decide +kernel
theorem dX4_targetId_27 : decode cX4_targetId 27 = .ok (.getfield 178, 3) := by decide +kernel
theorem dX4_targetId_30 : decode cX4_targetId 30 = .ok (.iload_n 2, 1) := by decide +kernel
theorem dX4_targetId_31 : decode cX4_targetId 31 = .ok (.iaload, 1) := by decide +kernel
theorem dX4_targetId_32 : decode cX4_targetId 32 = .ok (.ireturn, 1) := by decide +kernel
theorem dX4_targetId_33 : decode cX4_targetId 33 = .ok (.iload_n 1, 1) := by decide +kernel
theorem dX4_targetId_34 : decode cX4_targetId 34 = .ok (.bipush 13, 2) := by decide +kernel
theorem dX4_targetId_36 : decode cX4_targetId 36 = .ok (.if_icmp .ne 31, 3) := by decide +kernel
theorem dX4_targetId_39 : decode cX4_targetId 39 = .ok (.aload_n 0, 1) := by decide +kernel
theorem dX4_targetId_40 : decode cX4_targetId 40 = .ok (.getfield 23, 3) := by decide +kernel
theorem dX4_targetId_43 : decode cX4_targetId 43 = .ok (.iload_n 2, 1) := by decide +kernel
theorem dX4_targetId_44 : decode cX4_targetId 44 = .ok (.invokevirtual 140, 3) := by decide +kernel
theorem dX4_targetId_47 : decode cX4_targetId 47 = .ok (.ifCond .eq 20, 3) := by decide +kernel
theorem dX4_targetId_50 : decode cX4_targetId 50 = .ok (.aload_n 0, 1) := by decide +kernel
theorem dX4_targetId_51 : decode cX4_targetId 51 = .ok (.getfield 23, 3) := by decide +kernel
theorem dX4_targetId_54 : decode cX4_targetId 54 = .ok (.getfield 181, 3) := by decide +kernel
theorem dX4_targetId_57 : decode cX4_targetId 57 = .ok (.aload_n 0, 1) := by decide +kernel
theorem dX4_targetId_58 : decode cX4_targetId 58 = .ok (.getfield 23, 3) := by decide +kernel
theorem dX4_targetId_61 : decode cX4_targetId 61 = .ok (.iload_n 2, 1) := by decide +kernel
theorem dX4_targetId_62 : decode cX4_targetId 62 = .ok (.invokevirtual 144, 3) := by decide +kernel
theorem dX4_targetId_65 : decode cX4_targetId 65 = .ok (.iaload, 1) := by decide +kernel
theorem dX4_targetId_66 : decode cX4_targetId 66 = .ok (.ireturn, 1) := by decide +kernel
theorem dX4_targetId_67 : decode cX4_targetId 67 = .ok (.iconst (-1), 1) := by decide +kernel
theorem dX4_targetId_68 : decode cX4_targetId 68 = .ok (.ireturn, 1) := by decide +kernel
set_option maxRecDepth 20000 in
theorem ggX4_targetPlace_X0_placeOf : GoodIn wsX4_targetPlace wsX0_placeOf := goodIn_r _ [10, 11, 12, 31, 32, 33, 34, 35, 36] (by decide +kernel) (by decide +kernel)
set_option maxRecDepth 20000 in
theorem gX4_targetPlace_X0_placeOf : GoodIn wsX4_targetPlace (wsV RX4 185 RX0 yX0_placeOf wsX0_placeOf) := goodIn_app (goodIn_of _ (by decide +kernel)) ggX4_targetPlace_X0_placeOf
set_option maxRecDepth 20000 in
theorem ggX4_targetPlace_X2_placeOf : GoodIn wsX4_targetPlace wsX2_placeOf := goodIn_r _ [17, 18, 19, 37, 38, 39, 40, 41] (by decide +kernel) (by decide +kernel)
set_option maxRecDepth 20000 in
theorem gX4_targetPlace_X2_placeOf : GoodIn wsX4_targetPlace (wsV RX4 188 RX2 yX2_placeOf wsX2_placeOf) := goodIn_app (goodIn_of _ (by decide +kernel)) ggX4_targetPlace_X2_placeOf
theorem dX4_targetPlace_0 : decode cX4_targetPlace 0 = .ok (.iload_n 1, 1) := by decide +kernel
theorem dX4_targetPlace_1 : decode cX4_targetPlace 1 = .ok (.ifCond .lt 14, 3) := by decide +kernel
theorem dX4_targetPlace_4 : decode cX4_targetPlace 4 = .ok (.iload_n 1, 1) := by decide +kernel
theorem dX4_targetPlace_5 : decode cX4_targetPlace 5 = .ok (.aload_n 0, 1) := by decide +kernel
theorem dX4_targetPlace_6 : decode cX4_targetPlace 6 = .ok (.getfield 23, 3) := by decide +kernel
theorem dX4_targetPlace_9 : decode cX4_targetPlace 9 = .ok (.getfield 89, 3) := by decide +kernel
theorem dX4_targetPlace_12 : decode cX4_targetPlace 12 = .ok (.if_icmp .lt 5, 3) := by decide +kernel
