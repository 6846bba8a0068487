theorem dX4_entryPlayer_5 : decode cX4_entryPlayer 5 = .ok (.invokevirtual 140, 3) := by decide +kernel
theorem dX4_entryPlayer_8 : decode cX4_entryPlayer 8 = .ok (.ifCond .ne 13, 3) := by decide +kernel
theorem dX4_entryPlayer_11 : decode cX4_entryPlayer 11 = .ok (.new 41, 3) := by decide +kernel
theorem dX4_entryPlayer_14 : decode cX4_entryPlayer 14 = .ok (.dup, 1) := by decide +kernel
theorem dX4_entryPlayer_15 : decode cX4_entryPlayer 15 = .ok (.ldc 141, 2) := by decide +kernel
theorem dX4_entryPlayer_17 : decode cX4_entryPlayer 17 = .ok (.invokespecial 45, 3) := by decide +kernel
theorem dX4_entryPlayer_20 : decode cX4_entryPlayer 20 = .ok (.athrow, 1) := by decide +kernel
theorem dX4_entryPlayer_21 : decode cX4_entryPlayer 21 = .ok (.aload_n 0, 1) := by decide +kernel
theorem dX4_entryPlayer_22 : decode cX4_entryPlayer 22 = .ok (.getfield 23, 3) := by decide +kernel
theorem dX4_entryPlayer_25 : decode cX4_entryPlayer 25 = .ok (.getfield 151, 3) := by decide +kernel
theorem dX4_entryPlayer_28 : decode cX4_entryPlayer 28 = .ok (.aload_n 0, 1) := by decide +kernel
theorem dX4_entryPlayer_29 : decode cX4_entryPlayer 29 = .ok (.getfield 23, 3) := by decide +kernel
theorem dX4_entryPlayer_32 : decode cX4_entryPlayer 32 = .ok (.iload_n 1, 1) := by decide +kernel
theorem dX4_entryPlayer_33 : decode cX4_entryPlayer 33 = .ok (.invokevirtual 144, 3) := by decide +kernel
theorem dX4_entryPlayer_36 : decode cX4_entryPlayer 36 = .ok (.iaload, 1) := by decide +kernel
theorem dX4_entryPlayer_37 : decode cX4_entryPlayer 37 = .ok (.ireturn, 1) := by decide +kernel
set_option maxRecDepth 20000 in
theorem ggX4_entryTarget_X0_has : GoodIn wsX4_entryTarget wsX0_has := goodIn_r _ [8, 9, 47, 48, 49, 50, 51, 52] (by decide +kernel) (by decide +kernel)
set_option maxRecDepth 20000 in
theorem gX4_entryTarget_X0_has : GoodIn wsX4_entryTarget (wsV RX4 140 RX0 yX0_has wsX0_has) := goodIn_app (goodIn_of _ (by decide +kernel)) ggX4_entryTarget_X0_has
set_option maxRecDepth 20000 in
theorem ggX4_entryTarget_X0_indexOf : GoodIn wsX4_entryTarget wsX0_indexOf := goodIn_r _ [13, 9, 14, 5, 6, 7, 8, 47, 48, 49, 50, 51, 52] (by decide +kernel) (by decide +kernel)
set_option maxRecDepth 20000 in
theorem gX4_entryTarget_X0_indexOf : GoodIn wsX4_entryTarget (wsV RX4 144 RX0 yX0_indexOf wsX0_indexOf) := goodIn_app (goodIn_of _ (by decide +kernel)) ggX4_entryTarget_X0_indexOf
set_option maxRecDepth 20000 in
theorem ggX4_entryTarget_X4_targetPlace : GoodIn wsX4_entryTarget wsX4_targetPlace := goodIn_r _ [19, 3, 20, 21, 22, 23, 24, 25, 26, 7, 27, 9, 28, 29, 30, 31, 32, 33, 34, 35, 36, 37, 38, 39, 40, 41, 42, 43, 44, 45, 46, 47, 48, 49, 50, 51, 52, 53, 54, 55, 56, 57] (by decide +kernel) (by decide +kernel)
set_option maxRecDepth 20000 in
theorem gX4_entryTarget_X4_targetPlace : GoodIn wsX4_entryTarget (wsV RX4 154 RX4 yX4_targetPlace wsX4_targetPlace) := goodIn_app (goodIn_of _ (by decide +kernel)) ggX4_entryTarget_X4_targetPlace
theorem dX4_entryTarget_0 : decode cX4_entryTarget 0 = .ok (.aload_n 0, 1) := by decide +kernel
theorem dX4_entryTarget_1 : decode cX4_entryTarget 1 = .ok (.getfield 23, 3) := by decide +kernel
theorem dX4_entryTarget_4 : decode cX4_entryTarget 4 = .ok (.iload_n 1, 1) := by decide +kernel
theorem dX4_entryTarget_5 : decode cX4_entryTarget 5 = .ok (.invokevirtual 140, 3) := by decide +kernel
theorem dX4_entryTarget_8 : decode cX4_entryTarget 8 = .ok (.ifCond .ne 13, 3) := by decide +kernel
theorem dX4_entryTarget_11 : decode cX4_entryTarget 11 = .ok (.new 41, 3) := by decide +kernel
theorem dX4_entryTarget_14 : decode cX4_entryTarget 14 = .ok (.dup, 1) := by decide +kernel
theorem dX4_entryTarget_15 : decode cX4_entryTarget 15 = .ok (.ldc 141, 2) := by decide +kernel
theorem dX4_entryTarget_17 : decode cX4_entryTarget 17 = .ok (.invokespecial 45, 3) := by decide +kernel
theorem dX4_entryTarget_20 : decode cX4_entryTarget 20 = .ok (.athrow, 1) := by decide +kernel
theorem dX4_entryTarget_21 : decode cX4_entryTarget 21 = .ok (.aload_n 0, 1) := by decide +kernel
theorem dX4_entryTarget_22 : decode cX4_entryTarget 22 = .ok (.aload_n 0, 1) := by decide +kernel
theorem dX4_entryTarget_23 : decode cX4_entryTarget 23 = .ok (.getfield 23, 3) := by decide +kernel
theorem dX4_entryTarget_26 : decode cX4_entryTarget 26 = .ok (.iload_n 1, 1) := by decide +kernel
theorem dX4_entryTarget_27 : decode cX4_entryTarget 27 = .ok (.invokevirtual 144, 3) := by decide +kernel
theorem dX4_entryTarget_30 : decode cX4_entryTarget 30 = .ok (.invokevirtual 154, 3) := by decide +kernel
theorem dX4_entryTarget_33 : decode cX4_entryTarget 33 = .ok (.ireturn, 1) := by decide +kernel
set_option maxRecDepth 20000 in
theorem ggX4_requireThingAndLayer_X2_has : GoodIn wsX4_requireThingAndLayer wsX2_has := goodIn_r _ [10, 11, 23, 24, 25, 26, 27] (by decide +kernel) (by decide +kernel)
set_option maxRecDepth 20000 in
theorem gX4_requireThingAndLayer_X2_has : GoodIn wsX4_requireThingAndLayer (wsV RX4 115 RX2 yX2_has wsX2_has) := goodIn_app (goodIn_of _ (by decide +kernel)) ggX4_requireThingAndLayer_X2_has
theorem dX4_requireThingAndLayer_0 : decode cX4_requireThingAndLayer 0 = .ok (.aload_n 0, 1) := by decide +kernel
theorem dX4_requireThingAndLayer_1 : decode cX4_requireThingAndLayer 1 = .ok (.getfield 16, 3) := by decide +kernel
theorem dX4_requireThingAndLayer_4 : decode cX4_requireThingAndLayer 4 = .ok (.iload_n 1, 1) := by decide +kernel
theorem dX4_requireThingAndLayer_5 : decode cX4_requireThingAndLayer 5 = .ok (.invokevirtual 115, 3) := by decide +kernel
theorem dX4_requireThingAndLayer_8 : decode cX4_requireThingAndLayer 8 = .ok (.ifCond .ne 13, 3) := by decide +kernel
theorem dX4_requireThingAndLayer_11 : decode cX4_requireThingAndLayer 11 = .ok (.new 41, 3) := by decide +kernel
theorem dX4_requireThingAndLayer_14 : decode cX4_requireThingAndLayer 14 = .ok (.dup, 1) := by decide +kernel
theorem dX4_requireThingAndLayer_15 : decode cX4_requireThingAndLayer 15 = .ok (.ldc 119, 2) := by decide +kernel
theorem dX4_requireThingAndLayer_17 : decode cX4_requireThingAndLayer 17 = .ok (.invokespecial 45, 3) := by decide +kernel
theorem dX4_requireThingAndLayer_20 : decode cX4_requireThingAndLayer 20 = .ok (.athrow, 1) := by decide +kernel
theorem dX4_requireThingAndLayer_21 : decode cX4_requireThingAndLayer 21 = .ok (.iload_n 2, 1) := by decide +kernel
theorem dX4_requireThingAndLayer_22 : decode cX4_requireThingAndLayer 22 = .ok (.ifCond .lt 8, 3) := by decide +kernel
theorem dX4_requireThingAndLayer_25 : decode cX4_requireThingAndLayer 25 = .ok (.iload_n 2, 1) := by decide +kernel
theorem dX4_requireThingAndLayer_26 : decode cX4_requireThingAndLayer 26 = .ok (.iconst 5, 1) := by decide +kernel
theorem dX4_requireThingAndLayer_27 : decode cX4_requireThingAndLayer 27 = .ok (.if_icmp .le 13, 3) := by decide +kernel
theorem dX4_requireThingAndLayer_30 : decode cX4_requireThingAndLayer 30 = .ok (.new 98, 3) := by decide +kernel
theorem dX4_requireThingAndLayer_33 : decode cX4_requireThingAndLayer 33 = .ok (.dup, 1) := by decide +kernel
theorem dX4_requireThingAndLayer_34 : decode cX4_requireThingAndLayer 34 = .ok (.ldc 157, 2) := by decide +kernel
theorem dX4_requireThingAndLayer_36 : decode cX4_requireThingAndLayer 36 = .ok (.invokespecial 102, 3) := by decide +kernel
theorem dX4_requireThingAndLayer_39 : decode cX4_requireThingAndLayer 39 = .ok (.athrow, 1) := by decide +kernel
theorem dX4_requireThingAndLayer_40 : decode cX4_requireThingAndLayer 40 = .ok (.return_, 1) := by decide +kernel
theorem dX4_nextPlayer_0 : decode cX4_nextPlayer 0 = .ok (.iload_n 0, 1) := by decide +kernel
theorem dX4_nextPlayer_1 : decode cX4_nextPlayer 1 = .ok (.iconst 1, 1) := by decide +kernel
theorem dX4_nextPlayer_2 : decode cX4_nextPlayer 2 = .ok (.iadd, 1) := by decide +kernel
theorem dX4_nextPlayer_3 : decode cX4_nextPlayer 3 = .ok (.iconst 3, 1) := by decide +kernel
theorem dX4_nextPlayer_4 : decode cX4_nextPlayer 4 = .ok (.if_icmp .ge 9, 3) := by decide +kernel
theorem dX4_nextPlayer_7 : decode cX4_nextPlayer 7 = .ok (.iload_n 0, 1) := by decide +kernel
theorem dX4_nextPlayer_8 : decode cX4_nextPlayer 8 = .ok (.iconst 1, 1) := by decide +kernel
theorem dX4_nextPlayer_9 : decode cX4_nextPlayer 9 = .ok (.iadd, 1) := by decide +kernel
theorem dX4_nextPlayer_10 : decode cX4_nextPlayer 10 = .ok (.goto 4, 3) := by decide +kernel
theorem dX4_nextPlayer_13 : decode cX4_nextPlayer 13 = .ok (.iconst 0, 1) := by decide +kernel
theorem dX4_nextPlayer_14 : decode cX4_nextPlayer 14 = .ok (.ireturn, 1) := by decide +kernel
theorem dX4_costOf_0 : decode cX4_costOf 0 = .ok (.iload_n 0, 1) := by decide +kernel
theorem dX4_costOf_1 : decode cX4_costOf 1 = .ok (.ifCond .lt 17, 3) := by decide +kernel
theorem dX4_costOf_4 : decode cX4_costOf 4 = .ok (.iload_n 0, 1) := by decide +kernel
theorem dX4_costOf_5 : decode cX4_costOf 5 = .ok (.bipush 14, 2) := by decide +kernel
theorem dX4_costOf_7 : decode cX4_costOf 7 = .ok (.if_icmp .ge 11, 3) := by decide +kernel
theorem dX4_costOf_10 : decode cX4_costOf 10 = .ok (.getstatic 159, 3) := by decide +kernel
theorem dX4_costOf_13 : decode cX4_costOf 13 = .ok (.iload_n 0, 1) := by decide +kernel
theorem dX4_costOf_14 : decode cX4_costOf 14 = .ok (.iaload, 1) := by decide +kernel
theorem dX4_costOf_15 : decode cX4_costOf 15 = .ok (.goto 4, 3) := by decide +kernel
theorem dX4_costOf_18 : decode cX4_costOf 18 = .ok (.iconst 0, 1) := by decide +kernel
theorem dX4_costOf_19 : decode cX4_costOf 19 = .ok (.ireturn, 1) := by decide +kernel
theorem dX4_layerOf_0 : decode cX4_layerOf 0 = .ok (.iload_n 0, 1) := by decide +kernel
theorem dX4_layerOf_1 : decode cX4_layerOf 1 = .ok (.ifCond .lt 17, 3) := by decide +kernel
theorem dX4_layerOf_4 : decode cX4_layerOf 4 = .ok (.iload_n 0, 1) := by decide +kernel
theorem dX4_layerOf_5 : decode cX4_layerOf 5 = .ok (.bipush 14, 2) := by decide +kernel
theorem dX4_layerOf_7 : decode cX4_layerOf 7 = .ok (.if_icmp .ge 11, 3) := by decide +kernel
theorem dX4_layerOf_10 : decode cX4_layerOf 10 = .ok (.getstatic 162, 3) := by decide +kernel
theorem dX4_layerOf_13 : decode cX4_layerOf 13 = .ok (.iload_n 0, 1) := by decide +kernel
theorem dX4_layerOf_14 : decode cX4_layerOf 14 = .ok (.iaload, 1) := by decide +kernel
theorem dX4_layerOf_15 : decode cX4_layerOf 15 = .ok (.goto 4, 3) := by decide +kernel
theorem dX4_layerOf_18 : decode cX4_layerOf 18 = .ok (.iconst 0, 1) := by decide +kernel
theorem dX4_layerOf_19 : decode cX4_layerOf 19 = .ok (.ireturn, 1) := by decide +kernel
theorem dX4_isThing_0 : decode cX4_isThing 0 = .ok (.iload_n 0, 1) := by decide +kernel
theorem dX4_isThing_1 : decode cX4_isThing 1 = .ok (.bipush 12, 2) := by decide +kernel
theorem dX4_isThing_3 : decode cX4_isThing 3 = .ok (.if_icmp .ge 7, 3) := by decide +kernel
theorem dX4_isThing_6 : decode cX4_isThing 6 = .ok (.iconst 1, 1) := by decide +kernel
theorem dX4_isThing_7 : decode cX4_isThing 7 = .ok (.goto 4, 3) := by decide +kernel
theorem dX4_isThing_10 : decode cX4_isThing 10 = .ok (.iconst 0, 1) := by decide +kernel
theorem dX4_isThing_11 : decode cX4_isThing 11 = .ok (.ireturn, 1) := by decide +kernel
theorem dX4_newId_0 : decode cX4_newId 0 = .ok (.aload_n 0, 1) := by decide +kernel
theorem dX4_newId_1 : decode cX4_newId 1 = .ok (.getfield 165, 3) := by decide +kernel
theorem dX4_newId_4 : decode cX4_newId 4 = .ok (.istore_n 1, 1) := by decide +kernel
theorem dX4_newId_5 : decode cX4_newId 5 = .ok (.aload_n 0, 1) := by decide +kernel
theorem dX4_newId_6 : decode cX4_newId 6 = .ok (.dup, 1) := by decide +kernel
theorem dX4_newId_7 : decode cX4_newId 7 = .ok (.getfield 165, 3) := by decide +kernel
theorem dX4_newId_10 : decode cX4_newId 10 = .ok (.iconst 1, 1) := by decide +kernel
theorem dX4_newId_11 : decode cX4_newId 11 = .ok (.iadd, 1) := by decide +kernel
theorem dX4_newId_12 : decode cX4_newId 12 = .ok (.putfield 165, 3) := by decide +kernel
theorem dX4_newId_15 : decode cX4_newId 15 = .ok (.iload_n 1, 1) := by decide +kernel
theorem dX4_newId_16 : decode cX4_newId 16 = .ok (.ireturn, 1) := by decide +kernel
theorem dX4_coinsOf_0 : decode cX4_coinsOf 0 = .ok (.iload_n 1, 1) := by decide +kernel
theorem dX4_coinsOf_1 : decode cX4_coinsOf 1 = .ok (.ifCond .lt 17, 3) := by decide +kernel
theorem dX4_coinsOf_4 : decode cX4_coinsOf 4 = .ok (.iload_n 1, 1) := by decide +kernel
theorem dX4_coinsOf_5 : decode cX4_coinsOf 5 = .ok (.iconst 3, 1) := by decide +kernel
theorem dX4_coinsOf_6 : decode cX4_coinsOf 6 = .ok (.if_icmp .ge 12, 3) := by decide +kernel
theorem dX4_coinsOf_9 : decode cX4_coinsOf 9 = .ok (.aload_n 0, 1) := by decide +kernel
theorem dX4_coinsOf_10 : decode cX4_coinsOf 10 = .ok (.getfield 9, 3) := by decide +kernel
theorem dX4_coinsOf_13 : decode cX4_coinsOf 13 = .ok (.iload_n 1, 1) := by decide +kernel
theorem dX4_coinsOf_14 : decode cX4_coinsOf 14 = .ok (.iaload, 1) := by decide +kernel
theorem dX4_coinsOf_15 : decode cX4_coinsOf 15 = .ok (.goto 4, 3) := by decide +kernel
theorem dX4_coinsOf_18 : decode cX4_coinsOf 18 = .ok (.iconst 0, 1) := by decide +kernel
theorem dX4_coinsOf_19 : decode cX4_coinsOf 19 = .ok (.ireturn, 1) := by decide +kernel
theorem dX4_pay_0 : decode cX4_pay 0 = .ok (.iload_n 1, 1) := by decide +kernel
theorem dX4_pay_1 : decode cX4_pay 1 = .ok (.ifCond .lt 18, 3) := by decide +kernel
theorem dX4_pay_4 : decode cX4_pay 4 = .ok (.iload_n 1, 1) := by decide +kernel
theorem dX4_pay_5 : decode cX4_pay 5 = .ok (.iconst 3, 1) := by decide +kernel
theorem dX4_pay_6 : decode cX4_pay 6 = .ok (.if_icmp .ge 13, 3) := by decide +kernel
theorem dX4_pay_9 : decode cX4_pay 9 = .ok (.aload_n 0, 1) := by decide +kernel
theorem dX4_pay_10 : decode cX4_pay 10 = .ok (.getfield 9, 3) := by decide +kernel
theorem dX4_pay_13 : decode cX4_pay 13 = .ok (.iload_n 1, 1) := by decide +kernel
theorem dX4_pay_14 : decode cX4_pay 14 = .ok (.dup2, 1) := by decide +kernel
theorem dX4_pay_15 : decode cX4_pay 15 = .ok (.iaload, 1) := by decide +kernel
theorem dX4_pay_16 : decode cX4_pay 16 = .ok (.iload_n 2, 1) := by decide +kernel
theorem dX4_pay_17 : decode cX4_pay 17 = .ok (.iadd, 1) := by decide +kernel
theorem dX4_pay_18 : decode cX4_pay 18 = .ok (.iastore, 1) := by decide +kernel
theorem dX4_pay_19 : decode cX4_pay 19 = .ok (.return_, 1) := by decide +kernel
set_option maxRecDepth 20000 in
theorem ggX4_findObstacle_X4_isThing : GoodIn wsX4_findObstacle wsX4_isThing := goodIn_r _ [8] (by decide +kernel) (by decide +kernel)
set_option maxRecDepth 20000 in
theorem gX4_findObstacle_X4_isThing : GoodIn wsX4_findObstacle (va_wsS RX4 168 yX4_isThing wsX4_isThing) := goodIn_app (goodIn_of _ (by decide +kernel)) ggX4_findObstacle_X4_isThing
set_option maxRecDepth 20000 in
theorem ggX4_findObstacle_X4_coinsOf : GoodIn wsX4_findObstacle wsX4_coinsOf := goodIn_r _ [12, 13, 41, 42, 43, 44, 45, 46, 47, 48, 49, 50, 51] (by decide +kernel) (by decide +kernel)
set_option maxRecDepth 20000 in
theorem gX4_findObstacle_X4_coinsOf : GoodIn wsX4_findObstacle (wsV RX4 171 RX4 yX4_coinsOf wsX4_coinsOf) := goodIn_app (goodIn_of _ (by decide +kernel)) ggX4_findObstacle_X4_coinsOf
set_option maxRecDepth 20000 in
theorem ggX4_findObstacle_X4_costOf : GoodIn wsX4_findObstacle wsX4_costOf := goodIn_r _ [16, 17] (by decide +kernel) (by decide +kernel)
set_option maxRecDepth 20000 in
theorem gX4_findObstacle_X4_costOf : GoodIn wsX4_findObstacle (va_wsS RX4 61 yX4_costOf wsX4_costOf) := goodIn_app (goodIn_of _ (by decide +kernel)) ggX4_findObstacle_X4_costOf
set_option maxRecDepth 20000 in
theorem ggX4_findObstacle_X4_hasTarget : GoodIn wsX4_findObstacle wsX4_hasTarget := goodIn_r _ [21, 22, 1, 23, 24, 25, 26, 27, 28, 29, 30, 31, 32, 33, 34, 35, 36, 37, 38, 39, 40, 41, 42, 43, 44, 45, 46, 47, 48, 49, 50, 51, 52, 53, 54, 55, 56, 57, 58, 59, 60, 61, 62] (by decide +kernel) (by decide +kernel)
set_option maxRecDepth 20000 in
theorem gX4_findObstacle_X4_hasTarget : GoodIn wsX4_findObstacle (wsV RX4 174 RX4 yX4_hasTarget wsX4_hasTarget) := goodIn_app (goodIn_of _ (by decide +kernel)) ggX4_findObstacle_X4_hasTarget
theorem dX4_findObstacle_0 : decode cX4_findObstacle 0 = .ok (.iload_n 1, 1) := by decide +kernel
theorem dX4_findObstacle_1 : decode cX4_findObstacle 1 = .ok (.invokestatic 168, 3) := by decide +kernel
theorem dX4_findObstacle_4 : decode cX4_findObstacle 4 = .ok (.ifCond .eq 26, 3) := by decide +kernel
theorem dX4_findObstacle_7 : decode cX4_findObstacle 7 = .ok (.aload_n 0, 1) := by decide +kernel
theorem dX4_findObstacle_8 : decode cX4_findObstacle 8 = .ok (.getfield 23, 3) := by decide +kernel
theorem dX4_findObstacle_11 : decode cX4_findObstacle 11 = .ok (.getfield 89, 3) := by decide +kernel
theorem dX4_findObstacle_14 : decode cX4_findObstacle 14 = .ok (.ifCond .gt 14, 3) := by decide +kernel
theorem dX4_findObstacle_17 : decode cX4_findObstacle 17 = .ok (.aload_n 0, 1) := by decide +kernel
theorem dX4_findObstacle_18 : decode cX4_findObstacle 18 = .ok (.getfield 57, 3) := by decide +kernel
theorem dX4_findObstacle_21 : decode cX4_findObstacle 21 = .ok (.aload_n 0, 1) := by decide +kernel
theorem dX4_findObstacle_22 : decode cX4_findObstacle 22 = .ok (.getfield 103, 3) := by decide +kernel
theorem dX4_findObstacle_25 : decode cX4_findObstacle 25 = .ok (.if_icmp .eq 5, 3) := by decide +kernel
theorem dX4_findObstacle_28 : decode cX4_findObstacle 28 = .ok (.iconst 1, 1) := by decide +kernel
theorem dX4_findObstacle_29 : decode cX4_findObstacle 29 = .ok (.ireturn, 1) := by decide +kernel
theorem dX4_findObstacle_30 : decode cX4_findObstacle 30 = .ok (.aload_n 0, 1) := by decide +kernel
theorem dX4_findObstacle_31 : decode cX4_findObstacle 31 = .ok (.aload_n 0, 1) := by decide +kernel
theorem dX4_findObstacle_32 : decode cX4_findObstacle 32 = .ok (.getfield 57, 3) := by decide +kernel
theorem dX4_findObstacle_35 : decode cX4_findObstacle 35 = .ok (.invokevirtual 171, 3) := by decide +kernel
theorem dX4_findObstacle_38 : decode cX4_findObstacle 38 = .ok (.iload_n 1, 1) := by decide +kernel
theorem dX4_findObstacle_39 : decode cX4_findObstacle 39 = .ok (.invokestatic 61, 3) := by decide +kernel
theorem dX4_findObstacle_42 : decode cX4_findObstacle 42 = .ok (.if_icmp .ge 5, 3) := by decide +kernel
theorem dX4_findObstacle_45 : decode cX4_findObstacle 45 = .ok (.iconst 2, 1) := by decide +kernel
theorem dX4_findObstacle_46 : decode cX4_findObstacle 46 = .ok (.ireturn, 1) := by decide +kernel
theorem dX4_findObstacle_47 : decode cX4_findObstacle 47 = .ok (.aload_n 0, 1) := by decide +kernel
theorem dX4_findObstacle_48 : decode cX4_findObstacle 48 = .ok (.iload_n 1, 1) := by decide +kernel
theorem dX4_findObstacle_49 : decode cX4_findObstacle 49 = .ok (.iload_n 2, 1) := by decide +kernel
theorem dX4_findObstacle_50 : decode cX4_findObstacle 50 = .ok (.invokevirtual 174, 3) := by decide +kernel
theorem dX4_findObstacle_53 : decode cX4_findObstacle 53 = .ok (.ifCond .ne 5, 3) := by decide +kernel
theorem dX4_findObstacle_56 : decode cX4_findObstacle 56 = .ok (.iconst 3, 1) := by decide +kernel
theorem dX4_findObstacle_57 : decode cX4_findObstacle 57 = .ok (.ireturn, 1) := by decide +kernel
theorem dX4_findObstacle_58 : decode cX4_findObstacle 58 = .ok (.aload_n 0, 1) := by decide +kernel
theorem dX4_findObstacle_59 : decode cX4_findObstacle 59 = .ok (.getfield 23, 3) := by decide +kernel
theorem dX4_findObstacle_62 : decode cX4_findObstacle 62 = .ok (.getfield 89, 3) := by decide +kernel
theorem dX4_findObstacle_65 : decode cX4_findObstacle 65 = .ok (.bipush 12, 2) := by decide +kernel
theorem dX4_findObstacle_67 : decode cX4_findObstacle 67 = .ok (.if_icmp .lt 7, 3) := by decide +kernel
theorem dX4_findObstacle_70 : decode cX4_findObstacle 70 = .ok (.iconst 4, 1) := by decide +kernel
theorem dX4_findObstacle_71 : decode cX4_findObstacle 71 = .ok (.goto 4, 3) := by decide +kernel
theorem dX4_findObstacle_74 : decode cX4_findObstacle 74 = .ok (.iconst 0, 1) := by decide +kernel
theorem dX4_findObstacle_75 : decode cX4_findObstacle 75 = .ok (.ireturn, 1) := by decide +kernel
set_option maxRecDepth 20000 in
theorem ggX4_hasTarget_X2_has : GoodIn wsX4_hasTarget wsX2_has := goodIn_r _ [8, 9, 38, 39, 40, 41, 42] (by decide +kernel) (by decide +kernel)
set_option maxRecDepth 20000 in
theorem gX4_hasTarget_X2_has : GoodIn wsX4_hasTarget (wsV RX4 115 RX2 yX2_has wsX2_has) := goodIn_app (goodIn_of _ (by decide +kernel)) ggX4_hasTarget_X2_has
set_option maxRecDepth 20000 in
theorem ggX4_hasTarget_X0_has : GoodIn wsX4_hasTarget wsX0_has := goodIn_r _ [14, 15, 32, 33, 34, 35, 36, 37] (by decide +kernel) (by decide +kernel)
set_option maxRecDepth 20000 in
theorem gX4_hasTarget_X0_has : GoodIn wsX4_hasTarget (wsV RX4 140 RX0 yX0_has wsX0_has) := goodIn_app (goodIn_of _ (by decide +kernel)) ggX4_hasTarget_X0_has
set_option maxRecDepth 20000 in
theorem ggX4_hasTarget_X0_indexOf : GoodIn wsX4_hasTarget wsX0_indexOf := goodIn_r _ [19, 15, 20, 11, 12, 13, 14, 32, 33, 34, 35, 36, 37] (by decide +kernel) (by decide +kernel)
set_option maxRecDepth 20000 in
theorem gX4_hasTarget_X0_indexOf : GoodIn wsX4_hasTarget (wsV RX4 144 RX0 yX0_indexOf wsX0_indexOf) := goodIn_app (goodIn_of _ (by decide +kernel)) ggX4_hasTarget_X0_indexOf
theorem dX4_hasTarget_0 : decode cX4_hasTarget 0 = .ok (.iload_n 1, 1) := by decide +kernel
theorem dX4_hasTarget_1 : decode cX4_hasTarget 1 = .ok (.bipush 7, 2) := by decide +kernel
theorem dX4_hasTarget_3 : decode cX4_hasTarget 3 = .ok (.if_icmp .eq 9, 3) := by decide +kernel
theorem dX4_hasTarget_6 : decode cX4_hasTarget 6 = .ok (.iload_n 1, 1) := by decide +kernel
theorem dX4_hasTarget_7 : decode cX4_hasTarget 7 = .ok (.bipush 12, 2) := by decide +kernel
theorem dX4_hasTarget_9 : decode cX4_hasTarget 9 = .ok (.if_icmp .ne 12, 3) := by decide +kernel
theorem dX4_hasTarget_12 : decode cX4_hasTarget 12 = .ok (.aload_n 0, 1) := by decide +kernel
theorem dX4_hasTarget_13 : decode cX4_hasTarget 13 = .ok (.getfield 16, 3) := by decide +kernel
theorem dX4_hasTarget_16 : decode cX4_hasTarget 16 = .ok (.iload_n 2, 1) := by decide +kernel
theorem dX4_hasTarget_17 : decode cX4_hasTarget 17 = .ok (.invokevirtual 115, 3) := by decide +kernel
theorem dX4_hasTarget_20 : decode cX4_hasTarget 20 = .ok (.ireturn, 1) := by decide +kernel
theorem dX4_hasTarget_21 : decode cX4_hasTarget 21 = .ok (.iload_n 1, 1) := by decide +kernel
theorem dX4_hasTarget_22 : decode cX4_hasTarget 22 = .ok (.bipush 13, 2) := by decide +kernel
theorem dX4_hasTarget_24 : decode cX4_hasTarget 24 = .ok (.if_icmp .ne 39, 3) := by decide +kernel
theorem dX4_hasTarget_27 : decode cX4_hasTarget 27 = .ok (.aload_n 0, 1) := by decide +kernel
theorem dX4_hasTarget_28 : decode cX4_hasTarget 28 = .ok (.getfield 23, 3) := by decide +kernel
theorem dX4_hasTarget_31 : decode cX4_hasTarget 31 = .ok (.iload_n 2, 1) := by decide +kernel
theorem dX4_hasTarget_32 : decode cX4_hasTarget 32 = .ok (.invokevirtual 140, 3) := by decide +kernel
theorem dX4_hasTarget_35 : decode cX4_hasTarget 35 = .ok (.ifCond .eq 26, 3) := by decide +kernel
theorem dX4_hasTarget_38 : decode cX4_hasTarget 38 = .ok (.aload_n 0, 1) := by decide +kernel
theorem dX4_hasTarget_39 : decode cX4_hasTarget 39 = .ok (.getfield 23, 3) := by decide +kernel
theorem dX4_hasTarget_42 : decode cX4_hasTarget 42 = .ok (.getfield 147, 3) := by decide +kernel
theorem dX4_hasTarget_45 : decode cX4_hasTarget 45 = .ok (.aload_n 0, 1) := by decide +kernel
theorem dX4_hasTarget_46 : decode cX4_hasTarget 46 = .ok (.getfield 23, 3) := by decide +kernel
theorem dX4_hasTarget_49 : decode cX4_hasTarget 49 = .ok (.iload_n 2, 1) := by decide +kernel
theorem dX4_hasTarget_50 : decode cX4_hasTarget 50 = .ok (.invokevirtual 144, 3) := by decide +kernel
theorem dX4_hasTarget_53 : decode cX4_hasTarget 53 = .ok (.baload, 1) := by decide +kernel
theorem dX4_hasTarget_54 : decode cX4_hasTarget 54 = .ok (.ifCond .ne 7, 3) := by decide +kernel
theorem dX4_hasTarget_57 : decode cX4_hasTarget 57 = .ok (.iconst 1, 1) := by decide +kernel
theorem dX4_hasTarget_58 : decode cX4_hasTarget 58 = .ok (.goto 4, 3) := by decide +kernel
theorem dX4_hasTarget_61 : decode cX4_hasTarget 61 = .ok (.iconst 0, 1) := by decide +kernel
theorem dX4_hasTarget_62 : decode cX4_hasTarget 62 = .ok (.ireturn, 1) := by decide +kernel
theorem dX4_hasTarget_63 : decode cX4_hasTarget 63 = .ok (.iconst 1, 1) := by decide +kernel
theorem dX4_hasTarget_64 : decode cX4_hasTarget 64 = .ok (.ireturn, 1) := by decide +kernel
set_option maxRecDepth 20000 in
theorem ggX4_targetId_X2_has : GoodIn wsX4_targetId wsX2_has := goodIn_r _ [9, 10, 33, 34, 35, 36, 37] (by decide +kernel) (by decide +kernel)
set_option maxRecDepth 20000 in
theorem gX4_targetId_X2_has : GoodIn wsX4_targetId (wsV RX4 115 RX2 yX2_has wsX2_has) := goodIn_app (goodIn_of _ (by decide +kernel)) ggX4_targetId_X2_has
set_option maxRecDepth 20000 in
theorem ggX4_targetId_X0_has : GoodIn wsX4_targetId wsX0_has := goodIn_r _ [15, 16, 38, 39, 40, 41, 42, 43] (by decide +kernel) (by decide +kernel)
set_option maxRecDepth 20000 in
theorem gX4_targetId_X0_has : GoodIn wsX4_targetId (wsV RX4 140 RX0 yX0_has wsX0_has) := goodIn_app (goodIn_of _ (by decide +kernel)) ggX4_targetId_X0_has
set_option maxRecDepth 20000 in
theorem ggX4_targetId_X0_indexOf : GoodIn wsX4_targetId wsX0_indexOf := goodIn_r _ [20, 16, 21, 12, 13, 14, 15, 38, 39, 40, 41, 42, 43] (by decide +kernel) (by decide +kernel)
set_option maxRecDepth 20000 in
theorem gX4_targetId_X0_indexOf : GoodIn wsX4_targetId (wsV RX4 144 RX0 yX0_indexOf wsX0_indexOf) := goodIn_app (goodIn_of _ (by decide +kernel)) ggX4_targetId_X0_indexOf
theorem dX4_targetId_0 : decode cX4_targetId 0 = .ok (.iload_n 1, 1) := by decide +kernel
theorem dX4_targetId_1 : decode cX4_targetId 1 = .ok (.bipush 7, 2) := by decide +kernel
theorem dX4_targetId_3 : decode cX4_targetId 3 = .ok (.if_icmp .eq 9, 3) := by decide +kernel
theorem dX4_targetId_6 : decode cX4_targetId 6 = .ok (.iload_n 1, 1) := by decide +kernel
theorem dX4_targetId_7 : decode cX4_targetId 7 = .ok (.bipush 12, 2) := by decide +kernel
theorem dX4_targetId_9 : decode cX4_targetId 9 = .ok (.if_icmp .ne 24, 3) := by decide +kernel
theorem dX4_targetId_12 : decode cX4_targetId 12 = .ok (.aload_n 0, 1) := by decide +kernel
theorem dX4_targetId_13 : decode cX4_targetId 13 = .ok (.getfield 16, 3) := by decide +kernel
theorem dX4_targetId_16 : decode cX4_targetId 16 = .ok (.iload_n 2, 1) := by decide +kernel
theorem dX4_targetId_17 : decode cX4_targetId 17 = .ok (.invokevirtual 115, 3) := by decide +kernel
theorem dX4_targetId_20 : decode cX4_targetId 20 = .ok (.ifCond .eq 13, 3) := by decide +kernel
theorem dX4_targetId_23 : decode cX4_targetId 23 = .ok (.aload_n 0, 1) := by decide +kernel
theorem dX4_targetId_24 : decode cX4_targetId 24 = .ok (.getfield 16, 3) := by decide +kernel
theorem dX4_targetId_27 : decode cX4_targetId 27 = .ok (.getfield 178, 3) := by decide +kernel
theorem dX4_targetId_30 : decode cX4_targetId 30 = .ok (.iload_n 2, 1) := by decide +kernel
theorem dX4_targetId_31 : decode cX4_targetId 31 = .ok (.iaload, 1) := by decide +kernel
theorem dX4_targetId_32 : decode cX4_targetId 32 = .ok (.ireturn, 1) := by decide +kernel
theorem dX4_targetId_33 : decode cX4_targetId 33 = .ok (.iload_n 1, 1) := by decide +kernel
theorem dX4_targetId_34 : decode cX4_targetId 34 = .ok (.bipush 13, 2) := by decide +kernel
theorem dX4_targetId_36 : decode cX4_targetId 36 = .ok (.if_icmp .ne 31, 3) := by decide +kernel
theorem dX4_targetId_39 : decode cX4_targetId 39 = .ok (.aload_n 0, 1) := by decide +kernel
theorem dX4_targetId_40 : decode cX4_targetId 40 = .ok (.getfield 23, 3) := by decide +kernel
theorem dX4_targetId_43 : decode cX4_targetId 43 = .ok (.iload_n 2, 1) := by decide +kernel
theorem dX4_targetId_44 : decode cX4_targetId 44 = .ok (.invokevirtual 140, 3) := by decide +kernel
theorem dX4_targetId_47 : decode cX4_targetId 47 = .ok (.ifCond .eq 20, 3) := by decide +kernel
theorem dX4_targetId_50 : decode cX4_targetId 50 = .ok (.aload_n 0, 1) := by decide +kernel
theorem dX4_targetId_51 : decode cX4_targetId 51 = .ok (.getfield 23, 3) := by decide +kernel
theorem dX4_targetId_54 : decode cX4_targetId 54 = .ok (.getfield 181, 3) := by decide +kernel
theorem dX4_targetId_57 : decode cX4_targetId 57 = .ok (.aload_n 0, 1) := by decide +kernel
theorem dX4_targetId_58 : decode cX4_targetId 58 = .ok (.getfield 23, 3) := by decide +kernel
theorem dX4_targetId_61 : decode cX4_targetId 61 = .ok (.iload_n 2, 1) := by decide +kernel
theorem dX4_targetId_62 : decode cX4_targetId 62 = .ok (.invokevirtual 144, 3) := by decide +kernel
theorem dX4_targetId_65 : decode cX4_targetId 65 = .ok (.iaload, 1) := by decide +kernel
theorem dX4_targetId_66 : decode cX4_targetId 66 = .ok (.ireturn, 1) := by decide +kernel
theorem dX4_targetId_67 : decode cX4_targetId 67 = .ok (.iconst (-1), 1) := by decide +kernel
theorem dX4_targetId_68 : decode cX4_targetId 68 = .ok (.ireturn, 1) := by decide +kernel
set_option maxRecDepth 20000 in
theorem ggX4_targetPlace_X0_placeOf : GoodIn wsX4_targetPlace wsX0_placeOf := goodIn_r _ [10, 11, 12, 31, 32, 33, 34, 35, 36] (by decide +kernel) (by decide +kernel)
set_option maxRecDepth 20000 in
theorem gX4_targetPlace_X0_placeOf : GoodIn wsX4_targetPlace (wsV RX4 185 RX0 yX0_placeOf wsX0_placeOf) := goodIn_app (goodIn_of _ (by decide +kernel)) ggX4_targetPlace_X0_placeOf
set_option maxRecDepth 20000 in
theorem ggX4_targetPlace_X2_placeOf : GoodIn wsX4_targetPlace wsX2_placeOf := goodIn_r _ [17, 18, 19, 37, 38, 39, 40, 41] (by decide +kernel) (by decide +kernel)
set_option maxRecDepth 20000 in
theorem gX4_targetPlace_X2_placeOf : GoodIn wsX4_targetPlace (wsV RX4 188 RX2 yX2_placeOf wsX2_placeOf) := goodIn_app (goodIn_of _ (by decide +kernel)) ggX4_targetPlace_X2_placeOf
theorem dX4_targetPlace_0 : decode cX4_targetPlace 0 = .ok (.iload_n 1, 1) := by decide +kernel
theorem dX4_targetPlace_1 : decode cX4_targetPlace 1 = .ok (.ifCond .lt 14, 3) := by decide +kernel
theorem dX4_targetPlace_4 : decode cX4_targetPlace 4 = .ok (.iload_n 1, 1) := by decide +kernel
theorem dX4_targetPlace_5 : decode cX4_targetPlace 5 = .ok (.aload_n 0, 1) := by decide +kernel
theorem dX4_targetPlace_6 : decode cX4_targetPlace 6 = .ok (.getfield 23, 3) := by decide +kernel
theorem dX4_targetPlace_9 : decode cX4_targetPlace 9 = .ok (.getfield 89, 3) := by decide +kernel
theorem dX4_targetPlace_12 : decode cX4_targetPlace 12 = .ok (.if_icmp .lt 5, 3) := by decide +kernel
theorem dX4_targetPlace_15 : decode cX4_targetPlace 15 = .ok (.iconst (-1), 1) := by decide +kernel
theorem dX4_targetPlace_16 : decode cX4_targetPlace 16 = .ok (.ireturn, 1) := by decide +kernel
theorem dX4_targetPlace_17 : decode cX4_targetPlace 17 = .ok (.aload_n 0, 1) := by decide +kernel
theorem dX4_targetPlace_18 : decode cX4_targetPlace 18 = .ok (.getfield 23, 3) := by decide +kernel
theorem dX4_targetPlace_21 : decode cX4_targetPlace 21 = .ok (.getfield 182, 3) := by decide +kernel
theorem dX4_targetPlace_24 : decode cX4_targetPlace 24 = .ok (.iload_n 1, 1) := by decide +kernel
theorem dX4_targetPlace_25 : decode cX4_targetPlace 25 = .ok (.iaload, 1) := by decide +kernel
theorem dX4_targetPlace_26 : decode cX4_targetPlace 26 = .ok (.istore_n 2, 1) := by decide +kernel
theorem dX4_targetPlace_27 : decode cX4_targetPlace 27 = .ok (.aload_n 0, 1) := by decide +kernel
theorem dX4_targetPlace_28 : decode cX4_targetPlace 28 = .ok (.getfield 23, 3) := by decide +kernel
theorem dX4_targetPlace_31 : decode cX4_targetPlace 31 = .ok (.getfield 143, 3) := by decide +kernel
theorem dX4_targetPlace_34 : decode cX4_targetPlace 34 = .ok (.iload_n 1, 1) := by decide +kernel
theorem dX4_targetPlace_35 : decode cX4_targetPlace 35 = .ok (.iaload, 1) := by decide +kernel
theorem dX4_targetPlace_36 : decode cX4_targetPlace 36 = .ok (.bipush 13, 2) := by decide +kernel
theorem dX4_targetPlace_38 : decode cX4_targetPlace 38 = .ok (.if_icmp .ne 14, 3) := by decide +kernel
theorem dX4_targetPlace_41 : decode cX4_targetPlace 41 = .ok (.aload_n 0, 1) := by decide +kernel
theorem dX4_targetPlace_42 : decode cX4_targetPlace 42 = .ok (.getfield 23, 3) := by decide +kernel
theorem dX4_targetPlace_45 : decode cX4_targetPlace 45 = .ok (.iload_n 2, 1) := by decide +kernel
theorem dX4_targetPlace_46 : decode cX4_targetPlace 46 = .ok (.invokevirtual 185, 3) := by decide +kernel
theorem dX4_targetPlace_49 : decode cX4_targetPlace 49 = .ok (.goto 11, 3) := by decide +kernel
theorem dX4_targetPlace_52 : decode cX4_targetPlace 52 = .ok (.aload_n 0, 1) := by decide +kernel
theorem dX4_targetPlace_53 : decode cX4_targetPlace 53 = .ok (.getfield 16, 3) := by decide +kernel
theorem dX4_targetPlace_56 : decode cX4_targetPlace 56 = .ok (.iload_n 2, 1) := by decide +kernel
theorem dX4_targetPlace_57 : decode cX4_targetPlace 57 = .ok (.invokevirtual 188, 3) := by decide +kernel
theorem dX4_targetPlace_60 : decode cX4_targetPlace 60 = .ok (.ireturn, 1) := by decide +kernel
set_option maxRecDepth 20000 in
theorem ggX4_beginTurn_X4_nextPlayer : GoodIn wsX4_beginTurn wsX4_nextPlayer := goodIn_r _ [9] (by decide +kernel) (by decide +kernel)
set_option maxRecDepth 20000 in
theorem gX4_beginTurn_X4_nextPlayer : GoodIn wsX4_beginTurn (va_wsS RX4 86 yX4_nextPlayer wsX4_nextPlayer) := goodIn_app (goodIn_of _ (by decide +kernel)) ggX4_beginTurn_X4_nextPlayer
set_option maxRecDepth 20000 in
theorem ggX4_beginTurn_X1_forget : GoodIn wsX4_beginTurn wsX1_forget := goodIn_r _ [14, 15, 16, 93, 94, 95, 96, 97] (by decide +kernel) (by decide +kernel)
set_option maxRecDepth 20000 in
theorem gX4_beginTurn_X1_forget : GoodIn wsX4_beginTurn (wsV RX4 80 RX1 yX1_forget wsX1_forget) := goodIn_app (goodIn_of _ (by decide +kernel)) ggX4_beginTurn_X1_forget
set_option maxRecDepth 20000 in
theorem ggX4_beginTurn_X4_pay : GoodIn wsX4_beginTurn wsX4_pay := goodIn_r _ [20, 21, 82, 83, 84, 85, 86, 87, 88, 89, 90, 91, 92] (by decide +kernel) (by decide +kernel)
set_option maxRecDepth 20000 in
theorem gX4_beginTurn_X4_pay : GoodIn wsX4_beginTurn (wsV RX4 65 RX4 yX4_pay wsX4_pay) := goodIn_app (goodIn_of _ (by decide +kernel)) ggX4_beginTurn_X4_pay
set_option maxRecDepth 20000 in
theorem ggX4_beginTurn_X4_raiseTriggers : GoodIn wsX4_beginTurn wsX4_raiseTriggers := goodIn_r _ [25, 26, 27, 28, 1, 29, 30, 31, 32, 33, 34, 35, 36, 37, 38, 39, 40, 41, 42, 43, 44, 45, 46, 47, 48, 49, 8, 50, 51, 52, 53, 54, 55, 56, 57, 58, 59, 60, 61, 62, 63, 64, 65, 66, 67, 68, 69, 70, 71, 72, 73, 74, 75, 76, 77, 78, 79, 80, 81, 6, 7, 9, 82, 83, 84, 85, 86, 87, 88, 89, 90, 91, 92, 98, 99, 100, 101, 102, 103, 104, 105, 106, 107, 108, 109, 110, 111, 112, 113] (by decide +kernel) (by decide +kernel)
set_option maxRecDepth 20000 in
theorem gX4_beginTurn_X4_raiseTriggers : GoodIn wsX4_beginTurn (wsV RX4 189 RX4 yX4_raiseTriggers wsX4_raiseTriggers) := goodIn_app (goodIn_of _ (by decide +kernel)) ggX4_beginTurn_X4_raiseTriggers
theorem dX4_beginTurn_0 : decode cX4_beginTurn 0 = .ok (.aload_n 0, 1) := by decide +kernel
theorem dX4_beginTurn_1 : decode cX4_beginTurn 1 = .ok (.aload_n 0, 1) := by decide +kernel
theorem dX4_beginTurn_2 : decode cX4_beginTurn 2 = .ok (.getfield 103, 3) := by decide +kernel
theorem dX4_beginTurn_5 : decode cX4_beginTurn 5 = .ok (.invokestatic 86, 3) := by decide +kernel
theorem dX4_beginTurn_8 : decode cX4_beginTurn 8 = .ok (.putfield 103, 3) := by decide +kernel
theorem dX4_beginTurn_11 : decode cX4_beginTurn 11 = .ok (.aload_n 0, 1) := by decide +kernel
theorem dX4_beginTurn_12 : decode cX4_beginTurn 12 = .ok (.aload_n 0, 1) := by decide +kernel
theorem dX4_beginTurn_13 : decode cX4_beginTurn 13 = .ok (.getfield 103, 3) := by decide +kernel
theorem dX4_beginTurn_16 : decode cX4_beginTurn 16 = .ok (.putfield 57, 3) := by decide +kernel
theorem dX4_beginTurn_19 : decode cX4_beginTurn 19 = .ok (.aload_n 0, 1) := by decide +kernel
theorem dX4_beginTurn_20 : decode cX4_beginTurn 20 = .ok (.iconst 0, 1) := by decide +kernel
theorem dX4_beginTurn_21 : decode cX4_beginTurn 21 = .ok (.putfield 83, 3) := by decide +kernel
theorem dX4_beginTurn_24 : decode cX4_beginTurn 24 = .ok (.aload_n 0, 1) := by decide +kernel
theorem dX4_beginTurn_25 : decode cX4_beginTurn 25 = .ok (.dup, 1) := by decide +kernel
theorem dX4_beginTurn_26 : decode cX4_beginTurn 26 = .ok (.getfield 106, 3) := by decide +kernel
theorem dX4_beginTurn_29 : decode cX4_beginTurn 29 = .ok (.iconst 1, 1) := by decide +kernel
theorem dX4_beginTurn_30 : decode cX4_beginTurn 30 = .ok (.iadd, 1) := by decide +kernel
theorem dX4_beginTurn_31 : decode cX4_beginTurn 31 = .ok (.putfield 106, 3) := by decide +kernel
theorem dX4_beginTurn_34 : decode cX4_beginTurn 34 = .ok (.aload_n 0, 1) := by decide +kernel
theorem dX4_beginTurn_35 : decode cX4_beginTurn 35 = .ok (.getfield 37, 3) := by decide +kernel
theorem dX4_beginTurn_38 : decode cX4_beginTurn 38 = .ok (.invokevirtual 80, 3) := by decide +kernel
theorem dX4_beginTurn_41 : decode cX4_beginTurn 41 = .ok (.aload_n 0, 1) := by decide +kernel
theorem dX4_beginTurn_42 : decode cX4_beginTurn 42 = .ok (.aload_n 0, 1) := by decide +kernel
theorem dX4_beginTurn_43 : decode cX4_beginTurn 43 = .ok (.getfield 103, 3) := by decide +kernel
theorem dX4_beginTurn_46 : decode cX4_beginTurn 46 = .ok (.iconst 3, 1) := by decide +kernel
theorem dX4_beginTurn_47 : decode cX4_beginTurn 47 = .ok (.invokevirtual 65, 3) := by decide +kernel
theorem dX4_beginTurn_50 : decode cX4_beginTurn 50 = .ok (.aload_n 0, 1) := by decide +kernel
theorem dX4_beginTurn_51 : decode cX4_beginTurn 51 = .ok (.iconst 3, 1) := by decide +kernel
theorem dX4_beginTurn_52 : decode cX4_beginTurn 52 = .ok (.invokevirtual 189, 3) := by decide +kernel
theorem dX4_beginTurn_55 : decode cX4_beginTurn 55 = .ok (.return_, 1) := by decide +kernel
set_option maxRecDepth 20000 in
theorem ggX4_resolveTop_X0_remove : GoodIn wsX4_resolveTop wsX0_remove := goodIn_r _ [14, 15, 16, 17, 18, 19, 20, 202, 203, 204, 205, 206, 207] (by decide +kernel) (by decide +kernel)
set_option maxRecDepth 20000 in
theorem gX4_resolveTop_X0_remove : GoodIn wsX4_resolveTop (wsV RX4 193 RX0 yX0_remove wsX0_remove) := goodIn_app (goodIn_of _ (by decide +kernel)) ggX4_resolveTop_X0_remove
set_option maxRecDepth 20000 in
theorem ggX4_resolveTop_X4_triggerEffect : GoodIn wsX4_resolveTop wsX4_triggerEffect := goodIn_r _ [25, 26, 27, 28, 29, 24, 30, 31, 32, 33, 34, 35, 36, 37, 38, 39, 40, 41, 42, 43, 44, 45, 46, 47, 48, 49, 50, 51, 52, 53, 54, 55, 56, 57, 58, 59, 60, 61, 62, 63, 64, 65, 66, 191, 192, 193, 194, 195, 196, 197, 198, 199, 200, 201, 208, 209, 210, 211, 212] (by decide +kernel) (by decide +kernel)
set_option maxRecDepth 20000 in
theorem gX4_resolveTop_X4_triggerEffect : GoodIn wsX4_resolveTop (wsV RX4 196 RX4 yX4_triggerEffect wsX4_triggerEffect) := goodIn_app (goodIn_of _ (by decide +kernel)) ggX4_resolveTop_X4_triggerEffect
set_option maxRecDepth 20000 in
theorem ggX4_resolveTop_X4_cardEffect : GoodIn wsX4_resolveTop wsX4_cardEffect := goodIn_r _ [70, 26, 1, 71, 72, 24, 73, 32, 33, 34, 35, 36, 37, 38, 39, 40, 41, 42, 43, 44, 45, 46, 47, 48, 49, 50, 74, 75, 76, 77, 78, 79, 80, 81, 82, 83, 84, 64, 65, 66, 85, 86, 87, 88, 89, 90, 91, 92, 93, 94, 95, 96, 97, 98, 99, 100, 101, 102, 103, 104, 105, 106, 107, 108, 109, 110, 111, 112, 113, 114, 55, 56, 57, 58, 59, 60, 61, 62, 63, 115, 116, 117, 13, 118, 15, 20, 119, 120, 121, 122, 123, 124, 125, 126, 10, 11, 12, 14, 16, 17, 18, 19, 191, 192, 193, 194, 195, 196, 197, 198, 199, 200, 201, 208, 209, 210, 211, 212, 213, 214, 215, 216, 217, 202, 203, 204, 205, 206, 207] (by decide +kernel) (by decide +kernel)
set_option maxRecDepth 20000 in
theorem gX4_resolveTop_X4_cardEffect : GoodIn wsX4_resolveTop (wsV RX4 199 RX4 yX4_cardEffect wsX4_cardEffect) := goodIn_app (goodIn_of _ (by decide +kernel)) ggX4_resolveTop_X4_cardEffect
set_option maxRecDepth 20000 in
theorem ggX4_resolveTop_X4_raiseTriggers : GoodIn wsX4_resolveTop wsX4_raiseTriggers := goodIn_r _ [130, 82, 26, 131, 8, 132, 133, 1, 85, 86, 87, 88, 89, 90, 91, 92, 93, 94, 95, 96, 97, 98, 99, 100, 101, 102, 24, 103, 104, 105, 106, 107, 108, 109, 110, 111, 112, 113, 114, 134, 135, 136, 137, 36, 37, 38, 39, 40, 138, 139, 140, 13, 141, 15, 16, 17, 18, 19, 20, 142, 143, 144, 191, 192, 193, 194, 195, 196, 197, 198, 199, 200, 201, 208, 209, 210, 211, 212, 213, 214, 215, 216, 217, 202, 203, 204, 205, 206, 207] (by decide +kernel) (by decide +kernel)
set_option maxRecDepth 20000 in
theorem gX4_resolveTop_X4_raiseTriggers : GoodIn wsX4_resolveTop (wsV RX4 189 RX4 yX4_raiseTriggers wsX4_raiseTriggers) := goodIn_app (goodIn_of _ (by decide +kernel)) ggX4_resolveTop_X4_raiseTriggers
set_option maxRecDepth 20000 in
theorem ggX4_resolveTop_X4_breakLoop : GoodIn wsX4_resolveTop wsX4_breakLoop := goodIn_r _ [148, 149, 26, 131, 1, 2, 132, 150, 151, 3, 4, 5, 152, 153, 154, 155, 156, 157, 158, 159, 74, 75, 76, 44, 77, 46, 50, 160, 161, 162, 163, 164, 165, 166, 24, 167, 6, 115, 116, 117, 13, 118, 15, 20, 168, 169, 170, 171, 172, 173, 174, 175, 176, 177, 178, 179, 180, 181, 182, 183, 184, 185, 186, 187, 188, 189, 190, 191, 192, 193, 194, 195, 196, 197, 198, 199, 200, 201, 208, 209, 210, 211, 212, 202, 203, 204, 205, 206, 207, 218, 219, 220, 221, 222] (by decide +kernel) (by decide +kernel)
set_option maxRecDepth 20000 in
theorem gX4_resolveTop_X4_breakLoop : GoodIn wsX4_resolveTop (wsV RX4 203 RX4 yX4_breakLoop wsX4_breakLoop) := goodIn_app (goodIn_of _ (by decide +kernel)) ggX4_resolveTop_X4_breakLoop
theorem dX4_resolveTop_0 : decode cX4_resolveTop 0 = .ok (.aload_n 0, 1) := by decide +kernel
theorem dX4_resolveTop_1 : decode cX4_resolveTop 1 = .ok (.getfield 23, 3) := by decide +kernel
theorem dX4_resolveTop_4 : decode cX4_resolveTop 4 = .ok (.getfield 89, 3) := by decide +kernel
theorem dX4_resolveTop_7 : decode cX4_resolveTop 7 = .ok (.iconst 1, 1) := by decide +kernel
theorem dX4_resolveTop_8 : decode cX4_resolveTop 8 = .ok (.isub, 1) := by decide +kernel
theorem dX4_resolveTop_9 : decode cX4_resolveTop 9 = .ok (.istore_n 1, 1) := by decide +kernel
theorem dX4_resolveTop_10 : decode cX4_resolveTop 10 = .ok (.iload_n 1, 1) := by decide +kernel
theorem dX4_resolveTop_11 : decode cX4_resolveTop 11 = .ok (.ifCond .ge 4, 3) := by decide +kernel
theorem dX4_resolveTop_14 : decode cX4_resolveTop 14 = .ok (.return_, 1) := by decide +kernel
theorem dX4_resolveTop_15 : decode cX4_resolveTop 15 = .ok (.aload_n 0, 1) := by decide +kernel
theorem dX4_resolveTop_16 : decode cX4_resolveTop 16 = .ok (.getfield 23, 3) := by decide +kernel
theorem dX4_resolveTop_19 : decode cX4_resolveTop 19 = .ok (.getfield 143, 3) := by decide +kernel
theorem dX4_resolveTop_22 : decode cX4_resolveTop 22 = .ok (.iload_n 1, 1) := by decide +kernel
theorem dX4_resolveTop_23 : decode cX4_resolveTop 23 = .ok (.iaload, 1) := by decide +kernel
theorem dX4_resolveTop_24 : decode cX4_resolveTop 24 = .ok (.istore_n 2, 1) := by decide +kernel
theorem dX4_resolveTop_25 : decode cX4_resolveTop 25 = .ok (.aload_n 0, 1) := by decide +kernel
theorem dX4_resolveTop_26 : decode cX4_resolveTop 26 = .ok (.getfield 23, 3) := by decide +kernel
theorem dX4_resolveTop_29 : decode cX4_resolveTop 29 = .ok (.getfield 147, 3) := by decide +kernel
theorem dX4_resolveTop_32 : decode cX4_resolveTop 32 = .ok (.iload_n 1, 1) := by decide +kernel
theorem dX4_resolveTop_33 : decode cX4_resolveTop 33 = .ok (.baload, 1) := by decide +kernel
theorem dX4_resolveTop_34 : decode cX4_resolveTop 34 = .ok (.istore_n 3, 1) := by decide +kernel
theorem dX4_resolveTop_35 : decode cX4_resolveTop 35 = .ok (.aload_n 0, 1) := by decide +kernel
theorem dX4_resolveTop_36 : decode cX4_resolveTop 36 = .ok (.getfield 23, 3) := by decide +kernel
theorem dX4_resolveTop_39 : decode cX4_resolveTop 39 = .ok (.getfield 151, 3) := by decide +kernel
theorem dX4_resolveTop_42 : decode cX4_resolveTop 42 = .ok (.iload_n 1, 1) := by decide +kernel
theorem dX4_resolveTop_43 : decode cX4_resolveTop 43 = .ok (.iaload, 1) := by decide +kernel
theorem dX4_resolveTop_44 : decode cX4_resolveTop 44 = .ok (.istore 4, 2) := by decide +kernel
theorem dX4_resolveTop_46 : decode cX4_resolveTop 46 = .ok (.aload_n 0, 1) := by decide +kernel
theorem dX4_resolveTop_47 : decode cX4_resolveTop 47 = .ok (.getfield 23, 3) := by decide +kernel
theorem dX4_resolveTop_50 : decode cX4_resolveTop 50 = .ok (.getfield 182, 3) := by decide +kernel
theorem dX4_resolveTop_53 : decode cX4_resolveTop 53 = .ok (.iload_n 1, 1) := by decide +kernel
theorem dX4_resolveTop_54 : decode cX4_resolveTop 54 = .ok (.iaload, 1) := by decide +kernel
theorem dX4_resolveTop_55 : decode cX4_resolveTop 55 = .ok (.istore 5, 2) := by decide +kernel
theorem dX4_resolveTop_57 : decode cX4_resolveTop 57 = .ok (.aload_n 0, 1) := by decide +kernel
theorem dX4_resolveTop_58 : decode cX4_resolveTop 58 = .ok (.getfield 23, 3) := by decide +kernel
theorem dX4_resolveTop_61 : decode cX4_resolveTop 61 = .ok (.iload_n 1, 1) := by decide +kernel
theorem dX4_resolveTop_62 : decode cX4_resolveTop 62 = .ok (.invokevirtual 193, 3) := by decide +kernel
theorem dX4_resolveTop_65 : decode cX4_resolveTop 65 = .ok (.aload_n 0, 1) := by decide +kernel
theorem dX4_resolveTop_66 : decode cX4_resolveTop 66 = .ok (.iload_n 3, 1) := by decide +kernel
theorem dX4_resolveTop_67 : decode cX4_resolveTop 67 = .ok (.ifCond .eq 13, 3) := by decide +kernel
theorem dX4_resolveTop_70 : decode cX4_resolveTop 70 = .ok (.aload_n 0, 1) := by decide +kernel
theorem dX4_resolveTop_71 : decode cX4_resolveTop 71 = .ok (.iload_n 2, 1) := by decide +kernel
theorem dX4_resolveTop_72 : decode cX4_resolveTop 72 = .ok (.iload 4, 2) := by decide +kernel
theorem dX4_resolveTop_74 : decode cX4_resolveTop 74 = .ok (.invokevirtual 196, 3) := by decide +kernel
theorem dX4_resolveTop_77 : decode cX4_resolveTop 77 = .ok (.goto 12, 3) := by decide +kernel
theorem dX4_resolveTop_80 : decode cX4_resolveTop 80 = .ok (.aload_n 0, 1) := by decide +kernel
theorem dX4_resolveTop_81 : decode cX4_resolveTop 81 = .ok (.iload_n 2, 1) := by decide +kernel
theorem dX4_resolveTop_82 : decode cX4_resolveTop 82 = .ok (.iload 4, 2) := by decide +kernel
theorem dX4_resolveTop_84 : decode cX4_resolveTop 84 = .ok (.iload 5, 2) := by decide +kernel
theorem dX4_resolveTop_86 : decode cX4_resolveTop 86 = .ok (.invokevirtual 199, 3) := by decide +kernel
theorem dX4_resolveTop_89 : decode cX4_resolveTop 89 = .ok (.invokevirtual 189, 3) := by decide +kernel
theorem dX4_resolveTop_92 : decode cX4_resolveTop 92 = .ok (.aload_n 0, 1) := by decide +kernel
theorem dX4_resolveTop_93 : decode cX4_resolveTop 93 = .ok (.invokevirtual 203, 3) := by decide +kernel
theorem dX4_resolveTop_96 : decode cX4_resolveTop 96 = .ok (.aload_n 0, 1) := by decide +kernel
theorem dX4_resolveTop_97 : decode cX4_resolveTop 97 = .ok (.iconst 0, 1) := by decide +kernel
theorem dX4_resolveTop_98 : decode cX4_resolveTop 98 = .ok (.putfield 83, 3) := by decide +kernel
theorem dX4_resolveTop_101 : decode cX4_resolveTop 101 = .ok (.aload_n 0, 1) := by decide +kernel
theorem dX4_resolveTop_102 : decode cX4_resolveTop 102 = .ok (.aload_n 0, 1) := by decide +kernel
theorem dX4_resolveTop_103 : decode cX4_resolveTop 103 = .ok (.getfield 103, 3) := by decide +kernel
theorem dX4_resolveTop_106 : decode cX4_resolveTop 106 = .ok (.putfield 57, 3) := by decide +kernel
theorem dX4_resolveTop_109 : decode cX4_resolveTop 109 = .ok (.return_, 1) := by decide +kernel
set_option maxRecDepth 20000 in
theorem ggX4_cardEffect_X4_isThing : GoodIn wsX4_cardEffect wsX4_isThing := goodIn_r _ [6] (by decide +kernel) (by decide +kernel)
set_option maxRecDepth 20000 in
theorem gX4_cardEffect_X4_isThing : GoodIn wsX4_cardEffect (va_wsS RX4 168 yX4_isThing wsX4_isThing) := goodIn_app (goodIn_of _ (by decide +kernel)) ggX4_cardEffect_X4_isThing
set_option maxRecDepth 20000 in
theorem ggX4_cardEffect_X4_enter : GoodIn wsX4_cardEffect wsX4_enter := goodIn_r _ [10, 1, 11, 12, 13, 5, 14, 15, 16, 17, 18, 19, 20, 21, 22, 23, 24, 25, 102, 103, 104, 105, 106, 107, 108, 109, 110, 111, 112, 113, 114, 115, 116, 117] (by decide +kernel) (by decide +kernel)
set_option maxRecDepth 20000 in
theorem gX4_cardEffect_X4_enter : GoodIn wsX4_cardEffect (wsV RX4 206 RX4 yX4_enter wsX4_enter) := goodIn_app (goodIn_of _ (by decide +kernel)) ggX4_cardEffect_X4_enter
set_option maxRecDepth 20000 in
theorem ggX4_cardEffect_X2_placeOf : GoodIn wsX4_cardEffect wsX2_placeOf := goodIn_r _ [29, 21, 25, 113, 114, 115, 116, 117] (by decide +kernel) (by decide +kernel)
set_option maxRecDepth 20000 in
theorem gX4_cardEffect_X2_placeOf : GoodIn wsX4_cardEffect (wsV RX4 188 RX2 yX2_placeOf wsX2_placeOf) := goodIn_app (goodIn_of _ (by decide +kernel)) ggX4_cardEffect_X2_placeOf
set_option maxRecDepth 20000 in
theorem ggX4_cardEffect_X4_strike : GoodIn wsX4_cardEffect wsX4_strike := goodIn_r _ [33, 1, 34, 35, 36, 37, 38, 19, 39, 21, 40, 41, 42, 43, 44, 45, 46, 47, 48, 49, 50, 51, 52, 53, 54, 55, 56, 57, 5, 58, 59, 60, 61, 62, 63, 64, 65, 66, 67, 68, 69, 70, 71, 72, 73, 74, 75, 76, 77, 22, 23, 24, 25, 78, 102, 103, 104, 105, 106, 107, 108, 109, 110, 111, 112, 118, 119, 120, 121, 122, 113, 114, 115, 116, 117] (by decide +kernel) (by decide +kernel)
set_option maxRecDepth 20000 in
theorem gX4_cardEffect_X4_strike : GoodIn wsX4_cardEffect (wsV RX4 209 RX4 yX4_strike wsX4_strike) := goodIn_app (goodIn_of _ (by decide +kernel)) ggX4_cardEffect_X4_strike
set_option maxRecDepth 20000 in
theorem ggX4_cardEffect_X0_placeOf : GoodIn wsX4_cardEffect wsX0_placeOf := goodIn_r _ [83, 84, 85, 123, 124, 125, 126, 127, 128] (by decide +kernel) (by decide +kernel)
set_option maxRecDepth 20000 in
theorem gX4_cardEffect_X0_placeOf : GoodIn wsX4_cardEffect (wsV RX4 185 RX0 yX0_placeOf wsX0_placeOf) := goodIn_app (goodIn_of _ (by decide +kernel)) ggX4_cardEffect_X0_placeOf
set_option maxRecDepth 20000 in
theorem ggX4_cardEffect_X0_indexOf : GoodIn wsX4_cardEffect wsX0_indexOf := goodIn_r _ [89, 84, 90, 91, 92, 82, 93, 123, 124, 125, 126, 127, 128] (by decide +kernel) (by decide +kernel)
set_option maxRecDepth 20000 in
theorem gX4_cardEffect_X0_indexOf : GoodIn wsX4_cardEffect (wsV RX4 144 RX0 yX0_indexOf wsX0_indexOf) := goodIn_app (goodIn_of _ (by decide +kernel)) ggX4_cardEffect_X0_indexOf
set_option maxRecDepth 20000 in
theorem ggX4_cardEffect_X0_remove : GoodIn wsX4_cardEffect wsX0_remove := goodIn_r _ [97, 84, 98, 99, 100, 101, 85, 123, 124, 125, 126, 127, 128] (by decide +kernel) (by decide +kernel)
set_option maxRecDepth 20000 in
theorem gX4_cardEffect_X0_remove : GoodIn wsX4_cardEffect (wsV RX4 193 RX0 yX0_remove wsX0_remove) := goodIn_app (goodIn_of _ (by decide +kernel)) ggX4_cardEffect_X0_remove
theorem dX4_cardEffect_0 : decode cX4_cardEffect 0 = .ok (.iload_n 1, 1) := by decide +kernel
theorem dX4_cardEffect_1 : decode cX4_cardEffect 1 = .ok (.invokestatic 168, 3) := by decide +kernel
theorem dX4_cardEffect_4 : decode cX4_cardEffect 4 = .ok (.ifCond .eq 11, 3) := by decide +kernel
theorem dX4_cardEffect_7 : decode cX4_cardEffect 7 = .ok (.aload_n 0, 1) := by decide +kernel
theorem dX4_cardEffect_8 : decode cX4_cardEffect 8 = .ok (.iload_n 1, 1) := by decide +kernel
theorem dX4_cardEffect_9 : decode cX4_cardEffect 9 = .ok (.iload_n 2, 1) := by decide +kernel
theorem dX4_cardEffect_10 : decode cX4_cardEffect 10 = .ok (.iload_n 3, 1) := by decide +kernel
theorem dX4_cardEffect_11 : decode cX4_cardEffect 11 = .ok (.invokevirtual 206, 3) := by decide +kernel
theorem dX4_cardEffect_14 : decode cX4_cardEffect 14 = .ok (.ireturn, 1) := by decide +kernel
theorem dX4_cardEffect_15 : decode cX4_cardEffect 15 = .ok (.iload_n 1, 1) := by decide +kernel
theorem dX4_cardEffect_16 : decode cX4_cardEffect 16 = .ok (.bipush 12, 2) := by decide +kernel
theorem dX4_cardEffect_18 : decode cX4_cardEffect 18 = .ok (.if_icmp .ne 16, 3) := by decide +kernel
theorem dX4_cardEffect_21 : decode cX4_cardEffect 21 = .ok (.aload_n 0, 1) := by decide +kernel
theorem dX4_cardEffect_22 : decode cX4_cardEffect 22 = .ok (.aload_n 0, 1) := by decide +kernel
theorem dX4_cardEffect_23 : decode cX4_cardEffect 23 = .ok (.getfield 16, 3) := by decide +kernel
theorem dX4_cardEffect_26 : decode cX4_cardEffect 26 = .ok (.iload_n 3, 1) := by decide +kernel
theorem dX4_cardEffect_27 : decode cX4_cardEffect 27 = .ok (.invokevirtual 188, 3) := by decide +kernel
theorem dX4_cardEffect_30 : decode cX4_cardEffect 30 = .ok (.invokevirtual 209, 3) := by decide +kernel
theorem dX4_cardEffect_33 : decode cX4_cardEffect 33 = .ok (.ireturn, 1) := by decide +kernel
theorem dX4_cardEffect_34 : decode cX4_cardEffect 34 = .ok (.aload_n 0, 1) := by decide +kernel
theorem dX4_cardEffect_35 : decode cX4_cardEffect 35 = .ok (.getfield 23, 3) := by decide +kernel
theorem dX4_cardEffect_38 : decode cX4_cardEffect 38 = .ok (.aload_n 0, 1) := by decide +kernel
theorem dX4_cardEffect_39 : decode cX4_cardEffect 39 = .ok (.getfield 23, 3) := by decide +kernel
theorem dX4_cardEffect_42 : decode cX4_cardEffect 42 = .ok (.aload_n 0, 1) := by decide +kernel
theorem dX4_cardEffect_43 : decode cX4_cardEffect 43 = .ok (.getfield 23, 3) := by decide +kernel
theorem dX4_cardEffect_46 : decode cX4_cardEffect 46 = .ok (.iload_n 3, 1) := by decide +kernel
theorem dX4_cardEffect_47 : decode cX4_cardEffect 47 = .ok (.invokevirtual 185, 3) := by decide +kernel
theorem dX4_cardEffect_50 : decode cX4_cardEffect 50 = .ok (.invokevirtual 144, 3) := by decide +kernel
theorem dX4_cardEffect_53 : decode cX4_cardEffect 53 = .ok (.invokevirtual 193, 3) := by decide +kernel
theorem dX4_cardEffect_56 : decode cX4_cardEffect 56 = .ok (.iconst 0, 1) := by decide +kernel
theorem dX4_cardEffect_57 : decode cX4_cardEffect 57 = .ok (.ireturn, 1) := by decide +kernel
set_option maxRecDepth 20000 in
theorem ggX4_triggerEffect_X4_pay : GoodIn wsX4_triggerEffect wsX4_pay := goodIn_r _ [6, 7, 43, 44, 45, 46, 47, 48, 49, 50, 51, 52, 53] (by decide +kernel) (by decide +kernel)
set_option maxRecDepth 20000 in
theorem gX4_triggerEffect_X4_pay : GoodIn wsX4_triggerEffect (wsV RX4 65 RX4 yX4_pay wsX4_pay) := goodIn_app (goodIn_of _ (by decide +kernel)) ggX4_triggerEffect_X4_pay
set_option maxRecDepth 20000 in
theorem ggX4_triggerEffect_X4_enter : GoodIn wsX4_triggerEffect wsX4_enter := goodIn_r _ [11, 1, 12, 13, 14, 5, 15, 16, 17, 18, 19, 20, 21, 22, 23, 24, 25, 26, 43, 44, 45, 46, 47, 48, 49, 50, 51, 52, 53, 54, 55, 56, 57, 58] (by decide +kernel) (by decide +kernel)
set_option maxRecDepth 20000 in
theorem gX4_triggerEffect_X4_enter : GoodIn wsX4_triggerEffect (wsV RX4 206 RX4 yX4_enter wsX4_enter) := goodIn_app (goodIn_of _ (by decide +kernel)) ggX4_triggerEffect_X4_enter
set_option maxRecDepth 20000 in
theorem ggX4_triggerEffect_X2_firstOf : GoodIn wsX4_triggerEffect wsX2_firstOf := goodIn_r _ [30, 22, 23, 54, 55, 56, 57, 58] (by decide +kernel) (by decide +kernel)
set_option maxRecDepth 20000 in
theorem gX4_triggerEffect_X2_firstOf : GoodIn wsX4_triggerEffect (wsV RX4 212 RX2 yX2_firstOf wsX2_firstOf) := goodIn_app (goodIn_of _ (by decide +kernel)) ggX4_triggerEffect_X2_firstOf
set_option maxRecDepth 20000 in
theorem ggX4_triggerEffect_X4_leave : GoodIn wsX4_triggerEffect wsX4_leave := goodIn_r _ [34, 1, 35, 36, 37, 20, 38, 22, 23, 24, 25, 26, 39, 40, 41, 42, 43, 44, 45, 46, 47, 48, 49, 50, 51, 52, 53, 54, 55, 56, 57, 58] (by decide +kernel) (by decide +kernel)
set_option maxRecDepth 20000 in
theorem gX4_triggerEffect_X4_leave : GoodIn wsX4_triggerEffect (wsV RX4 215 RX4 yX4_leave wsX4_leave) := goodIn_app (goodIn_of _ (by decide +kernel)) ggX4_triggerEffect_X4_leave
theorem dX4_triggerEffect_0 : decode cX4_triggerEffect 0 = .ok (.iload_n 1, 1) := by decide +kernel
theorem dX4_triggerEffect_1 : decode cX4_triggerEffect 1 = .ok (.lookupswitch 80 #[(1, 43), (9, 51), (10, 59), (11, 67)], 43) := by decide +kernel
theorem dX4_triggerEffect_44 : decode cX4_triggerEffect 44 = .ok (.aload_n 0, 1) := by decide +kernel
theorem dX4_triggerEffect_45 : decode cX4_triggerEffect 45 = .ok (.iload_n 2, 1) := by decide +kernel
theorem dX4_triggerEffect_46 : decode cX4_triggerEffect 46 = .ok (.iconst 2, 1) := by decide +kernel
theorem dX4_triggerEffect_47 : decode cX4_triggerEffect 47 = .ok (.invokevirtual 65, 3) := by decide +kernel
theorem dX4_triggerEffect_50 : decode cX4_triggerEffect 50 = .ok (.iconst 0, 1) := by decide +kernel
theorem dX4_triggerEffect_51 : decode cX4_triggerEffect 51 = .ok (.ireturn, 1) := by decide +kernel
theorem dX4_triggerEffect_52 : decode cX4_triggerEffect 52 = .ok (.aload_n 0, 1) := by decide +kernel
theorem dX4_triggerEffect_53 : decode cX4_triggerEffect 53 = .ok (.iload_n 2, 1) := by decide +kernel
theorem dX4_triggerEffect_54 : decode cX4_triggerEffect 54 = .ok (.iconst 1, 1) := by decide +kernel
theorem dX4_triggerEffect_55 : decode cX4_triggerEffect 55 = .ok (.invokevirtual 65, 3) := by decide +kernel
theorem dX4_triggerEffect_58 : decode cX4_triggerEffect 58 = .ok (.iconst 0, 1) := by decide +kernel
theorem dX4_triggerEffect_59 : decode cX4_triggerEffect 59 = .ok (.ireturn, 1) := by decide +kernel
theorem dX4_triggerEffect_60 : decode cX4_triggerEffect 60 = .ok (.aload_n 0, 1) := by decide +kernel
theorem dX4_triggerEffect_61 : decode cX4_triggerEffect 61 = .ok (.iconst 0, 1) := by decide +kernel
theorem dX4_triggerEffect_62 : decode cX4_triggerEffect 62 = .ok (.iload_n 2, 1) := by decide +kernel
theorem dX4_triggerEffect_63 : decode cX4_triggerEffect 63 = .ok (.iconst (-1), 1) := by decide +kernel
theorem dX4_triggerEffect_64 : decode cX4_triggerEffect 64 = .ok (.invokevirtual 206, 3) := by decide +kernel
theorem dX4_triggerEffect_67 : decode cX4_triggerEffect 67 = .ok (.ireturn, 1) := by decide +kernel
theorem dX4_triggerEffect_68 : decode cX4_triggerEffect 68 = .ok (.aload_n 0, 1) := by decide +kernel
theorem dX4_triggerEffect_69 : decode cX4_triggerEffect 69 = .ok (.aload_n 0, 1) := by decide +kernel
theorem dX4_triggerEffect_70 : decode cX4_triggerEffect 70 = .ok (.getfield 16, 3) := by decide +kernel
theorem dX4_triggerEffect_73 : decode cX4_triggerEffect 73 = .ok (.iconst 0, 1) := by decide +kernel
theorem dX4_triggerEffect_74 : decode cX4_triggerEffect 74 = .ok (.invokevirtual 212, 3) := by decide +kernel
theorem dX4_triggerEffect_77 : decode cX4_triggerEffect 77 = .ok (.invokevirtual 215, 3) := by decide +kernel
theorem dX4_triggerEffect_80 : decode cX4_triggerEffect 80 = .ok (.ireturn, 1) := by decide +kernel
theorem dX4_triggerEffect_81 : decode cX4_triggerEffect 81 = .ok (.iconst 0, 1) := by decide +kernel
theorem dX4_triggerEffect_82 : decode cX4_triggerEffect 82 = .ok (.ireturn, 1) := by decide +kernel
set_option maxRecDepth 20000 in
theorem ggX4_strike_X2_has : GoodIn wsX4_strike wsX2_has := goodIn_r _ [8, 9, 70, 71, 72, 73, 74] (by decide +kernel) (by decide +kernel)
set_option maxRecDepth 20000 in
theorem gX4_strike_X2_has : GoodIn wsX4_strike (wsV RX4 115 RX2 yX2_has wsX2_has) := goodIn_app (goodIn_of _ (by decide +kernel)) ggX4_strike_X2_has
set_option maxRecDepth 20000 in
theorem ggX4_strike_X3_find : GoodIn wsX4_strike wsX3_find := goodIn_r _ [14, 15, 16, 17, 18, 19, 20, 21, 22, 23, 13, 24, 25, 26, 27, 28, 29, 30, 31, 32, 33, 34, 35, 36, 37, 38, 39, 40, 70, 71, 72, 73, 74, 65, 66, 67, 68, 69] (by decide +kernel) (by decide +kernel)
set_option maxRecDepth 20000 in
theorem gX4_strike_X3_find : GoodIn wsX4_strike (wsV RX4 127 RX3 yX3_find wsX3_find) := goodIn_app (goodIn_of _ (by decide +kernel)) ggX4_strike_X3_find
set_option maxRecDepth 20000 in
theorem ggX4_strike_X4_leave : GoodIn wsX4_strike wsX4_leave := goodIn_r _ [44, 1, 45, 46, 47, 7, 48, 9, 49, 50, 51, 52, 53, 5, 6, 8, 54, 55, 56, 57, 58, 59, 60, 61, 62, 63, 64, 70, 71, 72, 73, 74] (by decide +kernel) (by decide +kernel)
set_option maxRecDepth 20000 in
theorem gX4_strike_X4_leave : GoodIn wsX4_strike (wsV RX4 215 RX4 yX4_leave wsX4_leave) := goodIn_app (goodIn_of _ (by decide +kernel)) ggX4_strike_X4_leave
theorem dX4_strike_0 : decode cX4_strike 0 = .ok (.aload_n 0, 1) := by decide +kernel
theorem dX4_strike_1 : decode cX4_strike 1 = .ok (.getfield 16, 3) := by decide +kernel
theorem dX4_strike_4 : decode cX4_strike 4 = .ok (.iload_n 1, 1) := by decide +kernel
theorem dX4_strike_5 : decode cX4_strike 5 = .ok (.invokevirtual 115, 3) := by decide +kernel
theorem dX4_strike_8 : decode cX4_strike 8 = .ok (.ifCond .ne 5, 3) := by decide +kernel
theorem dX4_strike_11 : decode cX4_strike 11 = .ok (.iconst 0, 1) := by decide +kernel
theorem dX4_strike_12 : decode cX4_strike 12 = .ok (.ireturn, 1) := by decide +kernel
theorem dX4_strike_13 : decode cX4_strike 13 = .ok (.aload_n 0, 1) := by decide +kernel
theorem dX4_strike_14 : decode cX4_strike 14 = .ok (.getfield 30, 3) := by decide +kernel
theorem dX4_strike_17 : decode cX4_strike 17 = .ok (.aload_n 0, 1) := by decide +kernel
theorem dX4_strike_18 : decode cX4_strike 18 = .ok (.getfield 16, 3) := by decide +kernel
theorem dX4_strike_21 : decode cX4_strike 21 = .ok (.iconst 5, 1) := by decide +kernel
theorem dX4_strike_22 : decode cX4_strike 22 = .ok (.invokevirtual 127, 3) := by decide +kernel
theorem dX4_strike_25 : decode cX4_strike 25 = .ok (.aload_n 0, 1) := by decide +kernel
theorem dX4_strike_26 : decode cX4_strike 26 = .ok (.getfield 30, 3) := by decide +kernel
theorem dX4_strike_29 : decode cX4_strike 29 = .ok (.getfield 137, 3) := by decide +kernel
theorem dX4_strike_32 : decode cX4_strike 32 = .ok (.iload_n 1, 1) := by decide +kernel
theorem dX4_strike_33 : decode cX4_strike 33 = .ok (.iaload, 1) := by decide +kernel
theorem dX4_strike_34 : decode cX4_strike 34 = .ok (.iconst 4, 1) := by decide +kernel
theorem dX4_strike_35 : decode cX4_strike 35 = .ok (.if_icmp .gt 11, 3) := by decide +kernel
theorem dX4_strike_38 : decode cX4_strike 38 = .ok (.aload_n 0, 1) := by decide +kernel
theorem dX4_strike_39 : decode cX4_strike 39 = .ok (.iload_n 1, 1) := by decide +kernel
theorem dX4_strike_40 : decode cX4_strike 40 = .ok (.invokevirtual 215, 3) := by decide +kernel
theorem dX4_strike_43 : decode cX4_strike 43 = .ok (.goto 4, 3) := by decide +kernel
theorem dX4_strike_46 : decode cX4_strike 46 = .ok (.iconst 0, 1) := by decide +kernel
theorem dX4_strike_47 : decode cX4_strike 47 = .ok (.ireturn, 1) := by decide +kernel
set_option maxRecDepth 20000 in
theorem ggX4_enter_X4_newId : GoodIn wsX4_enter wsX4_newId := goodIn_r _ [6, 7, 18, 19, 20, 21, 22, 23, 24, 25, 26, 27, 28] (by decide +kernel) (by decide +kernel)
set_option maxRecDepth 20000 in
theorem gX4_enter_X4_newId : GoodIn wsX4_enter (wsV RX4 72 RX4 yX4_newId wsX4_newId) := goodIn_app (goodIn_of _ (by decide +kernel)) ggX4_enter_X4_newId
set_option maxRecDepth 20000 in
theorem ggX4_enter_X2_add : GoodIn wsX4_enter wsX2_add := goodIn_r _ [12, 13, 14, 15, 16, 17, 29, 30, 31, 32, 33] (by decide +kernel) (by decide +kernel)
set_option maxRecDepth 20000 in
theorem gX4_enter_X2_add : GoodIn wsX4_enter (wsV RX4 218 RX2 yX2_add wsX2_add) := goodIn_app (goodIn_of _ (by decide +kernel)) ggX4_enter_X2_add
theorem dX4_enter_0 : decode cX4_enter 0 = .ok (.aload_n 0, 1) := by decide +kernel
theorem dX4_enter_1 : decode cX4_enter 1 = .ok (.getfield 16, 3) := by decide +kernel
theorem dX4_enter_4 : decode cX4_enter 4 = .ok (.iload_n 1, 1) := by decide +kernel
theorem dX4_enter_5 : decode cX4_enter 5 = .ok (.iload_n 2, 1) := by decide +kernel
theorem dX4_enter_6 : decode cX4_enter 6 = .ok (.iload_n 3, 1) := by decide +kernel
theorem dX4_enter_7 : decode cX4_enter 7 = .ok (.aload_n 0, 1) := by decide +kernel
theorem dX4_enter_8 : decode cX4_enter 8 = .ok (.invokevirtual 72, 3) := by decide +kernel
theorem dX4_enter_11 : decode cX4_enter 11 = .ok (.invokevirtual 218, 3) := by decide +kernel
theorem dX4_enter_14 : decode cX4_enter 14 = .ok (.ifCond .eq 7, 3) := by decide +kernel
theorem dX4_enter_17 : decode cX4_enter 17 = .ok (.iconst 1, 1) := by decide +kernel
theorem dX4_enter_18 : decode cX4_enter 18 = .ok (.goto 4, 3) := by decide +kernel
theorem dX4_enter_21 : decode cX4_enter 21 = .ok (.iconst 0, 1) := by decide +kernel
theorem dX4_enter_22 : decode cX4_enter 22 = .ok (.ireturn, 1) := by decide +kernel
set_option maxRecDepth 20000 in
theorem ggX4_leave_X2_remove : GoodIn wsX4_leave wsX2_remove := goodIn_r _ [6, 7, 8, 9, 10, 11, 12, 13, 14, 5, 15, 27, 28, 29, 30, 31] (by decide +kernel) (by decide +kernel)
set_option maxRecDepth 20000 in
theorem gX4_leave_X2_remove : GoodIn wsX4_leave (wsV RX4 222 RX2 yX2_remove wsX2_remove) := goodIn_app (goodIn_of _ (by decide +kernel)) ggX4_leave_X2_remove
theorem dX4_leave_0 : decode cX4_leave 0 = .ok (.aload_n 0, 1) := by decide +kernel
theorem dX4_leave_1 : decode cX4_leave 1 = .ok (.getfield 16, 3) := by decide +kernel
theorem dX4_leave_4 : decode cX4_leave 4 = .ok (.iload_n 1, 1) := by decide +kernel
theorem dX4_leave_5 : decode cX4_leave 5 = .ok (.invokevirtual 222, 3) := by decide +kernel
theorem dX4_leave_8 : decode cX4_leave 8 = .ok (.ifCond .eq 7, 3) := by decide +kernel
theorem dX4_leave_11 : decode cX4_leave 11 = .ok (.iconst 2, 1) := by decide +kernel
theorem dX4_leave_12 : decode cX4_leave 12 = .ok (.goto 4, 3) := by decide +kernel
theorem dX4_leave_15 : decode cX4_leave 15 = .ok (.iconst 0, 1) := by decide +kernel
theorem dX4_leave_16 : decode cX4_leave 16 = .ok (.ireturn, 1) := by decide +kernel
set_option maxRecDepth 20000 in
theorem ggX4_raiseTriggers_X3_find : GoodIn wsX4_raiseTriggers wsX3_find := goodIn_r _ [12, 13, 14, 15, 16, 17, 18, 19, 20, 21, 11, 22, 23, 24, 25, 26, 27, 28, 29, 30, 31, 32, 33, 34, 35, 36, 37, 38, 73, 74, 75, 76, 77, 78, 79, 80, 81, 82] (by decide +kernel) (by decide +kernel)
set_option maxRecDepth 20000 in
theorem gX4_raiseTriggers_X3_find : GoodIn wsX4_raiseTriggers (wsV RX4 127 RX3 yX3_find wsX3_find) := goodIn_app (goodIn_of _ (by decide +kernel)) ggX4_raiseTriggers_X3_find
set_option maxRecDepth 20000 in
theorem ggX4_raiseTriggers_X4_hasTrigger : GoodIn wsX4_raiseTriggers wsX4_hasTrigger := goodIn_r _ [42, 4, 62, 63, 64, 65, 66, 67, 68, 69, 70, 71, 72] (by decide +kernel) (by decide +kernel)
set_option maxRecDepth 20000 in
theorem gX4_raiseTriggers_X4_hasTrigger : GoodIn wsX4_raiseTriggers (wsV RX4 224 RX4 yX4_hasTrigger wsX4_hasTrigger) := goodIn_app (goodIn_of _ (by decide +kernel)) ggX4_raiseTriggers_X4_hasTrigger
set_option maxRecDepth 20000 in
theorem ggX4_raiseTriggers_X4_newId : GoodIn wsX4_raiseTriggers wsX4_newId := goodIn_r _ [46, 47, 62, 63, 64, 65, 66, 67, 68, 69, 70, 71, 72] (by decide +kernel) (by decide +kernel)
set_option maxRecDepth 20000 in
theorem gX4_raiseTriggers_X4_newId : GoodIn wsX4_raiseTriggers (wsV RX4 72 RX4 yX4_newId wsX4_newId) := goodIn_app (goodIn_of _ (by decide +kernel)) ggX4_raiseTriggers_X4_newId
set_option maxRecDepth 20000 in
theorem ggX4_raiseTriggers_X0_push : GoodIn wsX4_raiseTriggers wsX0_push := goodIn_r _ [52, 53, 54, 55, 56, 57, 58, 83, 84, 85, 86, 87, 88] (by decide +kernel) (by decide +kernel)
set_option maxRecDepth 20000 in
theorem gX4_raiseTriggers_X0_push : GoodIn wsX4_raiseTriggers (wsV RX4 76 RX0 yX0_push wsX0_push) := goodIn_app (goodIn_of _ (by decide +kernel)) ggX4_raiseTriggers_X0_push
set_option maxRecDepth 20000 in
theorem ggX4_raiseTriggers_X4_nextPlayer : GoodIn wsX4_raiseTriggers wsX4_nextPlayer := goodIn_r _ [61] (by decide +kernel) (by decide +kernel)
set_option maxRecDepth 20000 in
theorem gX4_raiseTriggers_X4_nextPlayer : GoodIn wsX4_raiseTriggers (va_wsS RX4 86 yX4_nextPlayer wsX4_nextPlayer) := goodIn_app (goodIn_of _ (by decide +kernel)) ggX4_raiseTriggers_X4_nextPlayer
theorem dX4_raiseTriggers_0 : decode cX4_raiseTriggers 0 = .ok (.iload_n 1, 1) := by decide +kernel
theorem dX4_raiseTriggers_1 : decode cX4_raiseTriggers 1 = .ok (.ifCond .ne 4, 3) := by decide +kernel
theorem dX4_raiseTriggers_4 : decode cX4_raiseTriggers 4 = .ok (.return_, 1) := by decide +kernel
theorem dX4_raiseTriggers_5 : decode cX4_raiseTriggers 5 = .ok (.aload_n 0, 1) := by decide +kernel
theorem dX4_raiseTriggers_6 : decode cX4_raiseTriggers 6 = .ok (.getfield 30, 3) := by decide +kernel
theorem dX4_raiseTriggers_9 : decode cX4_raiseTriggers 9 = .ok (.aload_n 0, 1) := by decide +kernel
theorem dX4_raiseTriggers_10 : decode cX4_raiseTriggers 10 = .ok (.getfield 16, 3) := by decide +kernel
theorem dX4_raiseTriggers_13 : decode cX4_raiseTriggers 13 = .ok (.iconst 5, 1) := by decide +kernel
theorem dX4_raiseTriggers_14 : decode cX4_raiseTriggers 14 = .ok (.invokevirtual 127, 3) := by decide +kernel
theorem dX4_raiseTriggers_17 : decode cX4_raiseTriggers 17 = .ok (.iload_n 1, 1) := by decide +kernel
theorem dX4_raiseTriggers_18 : decode cX4_raiseTriggers 18 = .ok (.iconst 1, 1) := by decide +kernel
theorem dX4_raiseTriggers_19 : decode cX4_raiseTriggers 19 = .ok (.if_icmp .ne 15, 3) := by decide +kernel
theorem dX4_raiseTriggers_22 : decode cX4_raiseTriggers 22 = .ok (.aload_n 0, 1) := by decide +kernel
theorem dX4_raiseTriggers_23 : decode cX4_raiseTriggers 23 = .ok (.getfield 16, 3) := by decide +kernel
theorem dX4_raiseTriggers_26 : decode cX4_raiseTriggers 26 = .ok (.getfield 114, 3) := by decide +kernel
theorem dX4_raiseTriggers_29 : decode cX4_raiseTriggers 29 = .ok (.iconst 1, 1) := by decide +kernel
theorem dX4_raiseTriggers_30 : decode cX4_raiseTriggers 30 = .ok (.isub, 1) := by decide +kernel
theorem dX4_raiseTriggers_31 : decode cX4_raiseTriggers 31 = .ok (.goto 10, 3) := by decide +kernel
theorem dX4_raiseTriggers_34 : decode cX4_raiseTriggers 34 = .ok (.aload_n 0, 1) := by decide +kernel
theorem dX4_raiseTriggers_35 : decode cX4_raiseTriggers 35 = .ok (.getfield 16, 3) := by decide +kernel
theorem dX4_raiseTriggers_38 : decode cX4_raiseTriggers 38 = .ok (.getfield 114, 3) := by decide +kernel
theorem dX4_raiseTriggers_41 : decode cX4_raiseTriggers 41 = .ok (.istore_n 2, 1) := by decide +kernel
theorem dX4_raiseTriggers_42 : decode cX4_raiseTriggers 42 = .ok (.aload_n 0, 1) := by decide +kernel
theorem dX4_raiseTriggers_43 : decode cX4_raiseTriggers 43 = .ok (.getfield 103, 3) := by decide +kernel
theorem dX4_raiseTriggers_46 : decode cX4_raiseTriggers 46 = .ok (.istore_n 3, 1) := by decide +kernel
theorem dX4_raiseTriggers_47 : decode cX4_raiseTriggers 47 = .ok (.iconst 0, 1) := by decide +kernel
theorem dX4_raiseTriggers_48 : decode cX4_raiseTriggers 48 = .ok (.istore 4, 2) := by decide +kernel
theorem dX4_raiseTriggers_50 : decode cX4_raiseTriggers 50 = .ok (.iload 4, 2) := by decide +kernel
theorem dX4_raiseTriggers_52 : decode cX4_raiseTriggers 52 = .ok (.iconst 3, 1) := by decide +kernel
theorem dX4_raiseTriggers_53 : decode cX4_raiseTriggers 53 = .ok (.if_icmp .ge 82, 3) := by decide +kernel
theorem dX4_raiseTriggers_56 : decode cX4_raiseTriggers 56 = .ok (.iconst 0, 1) := by decide +kernel
theorem dX4_raiseTriggers_57 : decode cX4_raiseTriggers 57 = .ok (.istore 5, 2) := by decide +kernel
theorem dX4_raiseTriggers_59 : decode cX4_raiseTriggers 59 = .ok (.iload 5, 2) := by decide +kernel
theorem dX4_raiseTriggers_61 : decode cX4_raiseTriggers 61 = .ok (.iload_n 2, 1) := by decide +kernel
theorem dX4_raiseTriggers_62 : decode cX4_raiseTriggers 62 = .ok (.if_icmp .ge 62, 3) := by decide +kernel
theorem dX4_raiseTriggers_65 : decode cX4_raiseTriggers 65 = .ok (.aload_n 0, 1) := by decide +kernel
theorem dX4_raiseTriggers_66 : decode cX4_raiseTriggers 66 = .ok (.getfield 16, 3) := by decide +kernel
theorem dX4_raiseTriggers_69 : decode cX4_raiseTriggers 69 = .ok (.getfield 121, 3) := by decide +kernel
theorem dX4_raiseTriggers_72 : decode cX4_raiseTriggers 72 = .ok (.iload 5, 2) := by decide +kernel
theorem dX4_raiseTriggers_74 : decode cX4_raiseTriggers 74 = .ok (.iaload, 1) := by decide +kernel
theorem dX4_raiseTriggers_75 : decode cX4_raiseTriggers 75 = .ok (.istore 6, 2) := by decide +kernel
theorem dX4_raiseTriggers_77 : decode cX4_raiseTriggers 77 = .ok (.aload_n 0, 1) := by decide +kernel
theorem dX4_raiseTriggers_78 : decode cX4_raiseTriggers 78 = .ok (.getfield 30, 3) := by decide +kernel
theorem dX4_raiseTriggers_81 : decode cX4_raiseTriggers 81 = .ok (.getfield 131, 3) := by decide +kernel
theorem dX4_raiseTriggers_84 : decode cX4_raiseTriggers 84 = .ok (.iload 5, 2) := by decide +kernel
theorem dX4_raiseTriggers_86 : decode cX4_raiseTriggers 86 = .ok (.iaload, 1) := by decide +kernel
theorem dX4_raiseTriggers_87 : decode cX4_raiseTriggers 87 = .ok (.iload_n 3, 1) := by decide +kernel
theorem dX4_raiseTriggers_88 : decode cX4_raiseTriggers 88 = .ok (.if_icmp .ne 30, 3) := by decide +kernel
theorem dX4_raiseTriggers_91 : decode cX4_raiseTriggers 91 = .ok (.aload_n 0, 1) := by decide +kernel
theorem dX4_raiseTriggers_92 : decode cX4_raiseTriggers 92 = .ok (.iload 6, 2) := by decide +kernel
theorem dX4_raiseTriggers_94 : decode cX4_raiseTriggers 94 = .ok (.iload_n 1, 1) := by decide +kernel
theorem dX4_raiseTriggers_95 : decode cX4_raiseTriggers 95 = .ok (.iload_n 3, 1) := by decide +kernel
theorem dX4_raiseTriggers_96 : decode cX4_raiseTriggers 96 = .ok (.invokevirtual 224, 3) := by decide +kernel
theorem dX4_raiseTriggers_99 : decode cX4_raiseTriggers 99 = .ok (.ifCond .eq 19, 3) := by decide +kernel
theorem dX4_raiseTriggers_102 : decode cX4_raiseTriggers 102 = .ok (.aload_n 0, 1) := by decide +kernel
theorem dX4_raiseTriggers_103 : decode cX4_raiseTriggers 103 = .ok (.getfield 23, 3) := by decide +kernel
theorem dX4_raiseTriggers_106 : decode cX4_raiseTriggers 106 = .ok (.iload 6, 2) := by decide +kernel
theorem dX4_raiseTriggers_108 : decode cX4_raiseTriggers 108 = .ok (.iconst 1, 1) := by decide +kernel
theorem dX4_raiseTriggers_109 : decode cX4_raiseTriggers 109 = .ok (.iload_n 3, 1) := by decide +kernel
theorem dX4_raiseTriggers_110 : decode cX4_raiseTriggers 110 = .ok (.iconst (-1), 1) := by decide +kernel
theorem dX4_raiseTriggers_111 : decode cX4_raiseTriggers 111 = .ok (.aload_n 0, 1) := by decide +kernel
theorem dX4_raiseTriggers_112 : decode cX4_raiseTriggers 112 = .ok (.invokevirtual 72, 3) := by decide +kernel
theorem dX4_raiseTriggers_115 : decode cX4_raiseTriggers 115 = .ok (.invokevirtual 76, 3) := by decide +kernel
theorem dX4_raiseTriggers_118 : decode cX4_raiseTriggers 118 = .ok (.iinc 5 1, 3) := by decide +kernel
theorem dX4_raiseTriggers_121 : decode cX4_raiseTriggers 121 = .ok (.goto (-62), 3) := by decide +kernel
theorem dX4_raiseTriggers_124 : decode cX4_raiseTriggers 124 = .ok (.iload_n 3, 1) := by decide +kernel
theorem dX4_raiseTriggers_125 : decode cX4_raiseTriggers 125 = .ok (.invokestatic 86, 3) := by decide +kernel
theorem dX4_raiseTriggers_128 : decode cX4_raiseTriggers 128 = .ok (.istore_n 3, 1) := by decide +kernel
theorem dX4_raiseTriggers_129 : decode cX4_raiseTriggers 129 = .ok (.iinc 4 1, 3) := by decide +kernel
theorem dX4_raiseTriggers_132 : decode cX4_raiseTriggers 132 = .ok (.goto (-82), 3) := by decide +kernel
theorem dX4_raiseTriggers_135 : decode cX4_raiseTriggers 135 = .ok (.return_, 1) := by decide +kernel
theorem dX4_hasTrigger_0 : decode cX4_hasTrigger 0 = .ok (.iload_n 2, 1) := by decide +kernel
theorem dX4_hasTrigger_1 : decode cX4_hasTrigger 1 = .ok (.tableswitch 76 1 3 #[27, 45, 57], 27) := by decide +kernel
theorem dX4_hasTrigger_28 : decode cX4_hasTrigger 28 = .ok (.iload_n 1, 1) := by decide +kernel
theorem dX4_hasTrigger_29 : decode cX4_hasTrigger 29 = .ok (.bipush 9, 2) := by decide +kernel
theorem dX4_hasTrigger_31 : decode cX4_hasTrigger 31 = .ok (.if_icmp .eq 9, 3) := by decide +kernel
theorem dX4_hasTrigger_34 : decode cX4_hasTrigger 34 = .ok (.iload_n 1, 1) := by decide +kernel
theorem dX4_hasTrigger_35 : decode cX4_hasTrigger 35 = .ok (.bipush 11, 2) := by decide +kernel
theorem dX4_hasTrigger_37 : decode cX4_hasTrigger 37 = .ok (.if_icmp .ne 7, 3) := by decide +kernel
theorem dX4_hasTrigger_40 : decode cX4_hasTrigger 40 = .ok (.iconst 1, 1) := by decide +kernel
theorem dX4_hasTrigger_41 : decode cX4_hasTrigger 41 = .ok (.goto 4, 3) := by decide +kernel
theorem dX4_hasTrigger_44 : decode cX4_hasTrigger 44 = .ok (.iconst 0, 1) := by decide +kernel
theorem dX4_hasTrigger_45 : decode cX4_hasTrigger 45 = .ok (.ireturn, 1) := by decide +kernel
theorem dX4_hasTrigger_46 : decode cX4_hasTrigger 46 = .ok (.iload_n 1, 1) := by decide +kernel
theorem dX4_hasTrigger_47 : decode cX4_hasTrigger 47 = .ok (.bipush 10, 2) := by decide +kernel
theorem dX4_hasTrigger_49 : decode cX4_hasTrigger 49 = .ok (.if_icmp .ne 7, 3) := by decide +kernel
theorem dX4_hasTrigger_52 : decode cX4_hasTrigger 52 = .ok (.iconst 1, 1) := by decide +kernel
theorem dX4_hasTrigger_53 : decode cX4_hasTrigger 53 = .ok (.goto 4, 3) := by decide +kernel
theorem dX4_hasTrigger_56 : decode cX4_hasTrigger 56 = .ok (.iconst 0, 1) := by decide +kernel
theorem dX4_hasTrigger_57 : decode cX4_hasTrigger 57 = .ok (.ireturn, 1) := by decide +kernel
theorem dX4_hasTrigger_58 : decode cX4_hasTrigger 58 = .ok (.iload_n 1, 1) := by decide +kernel
theorem dX4_hasTrigger_59 : decode cX4_hasTrigger 59 = .ok (.iconst 1, 1) := by decide +kernel
theorem dX4_hasTrigger_60 : decode cX4_hasTrigger 60 = .ok (.if_icmp .ne 15, 3) := by decide +kernel
theorem dX4_hasTrigger_63 : decode cX4_hasTrigger 63 = .ok (.iload_n 3, 1) := by decide +kernel
theorem dX4_hasTrigger_64 : decode cX4_hasTrigger 64 = .ok (.aload_n 0, 1) := by decide +kernel
theorem dX4_hasTrigger_65 : decode cX4_hasTrigger 65 = .ok (.getfield 103, 3) := by decide +kernel
theorem dX4_hasTrigger_68 : decode cX4_hasTrigger 68 = .ok (.if_icmp .ne 7, 3) := by decide +kernel
theorem dX4_hasTrigger_71 : decode cX4_hasTrigger 71 = .ok (.iconst 1, 1) := by decide +kernel
theorem dX4_hasTrigger_72 : decode cX4_hasTrigger 72 = .ok (.goto 4, 3) := by decide +kernel
theorem dX4_hasTrigger_75 : decode cX4_hasTrigger 75 = .ok (.iconst 0, 1) := by decide +kernel
theorem dX4_hasTrigger_76 : decode cX4_hasTrigger 76 = .ok (.ireturn, 1) := by decide +kernel
theorem dX4_hasTrigger_77 : decode cX4_hasTrigger 77 = .ok (.iconst 0, 1) := by decide +kernel
theorem dX4_hasTrigger_78 : decode cX4_hasTrigger 78 = .ok (.ireturn, 1) := by decide +kernel
set_option maxRecDepth 20000 in
theorem ggX4_breakLoop_X1_start : GoodIn wsX4_breakLoop wsX1_start := goodIn_r _ [17, 18, 19, 89, 90, 91, 92, 93] (by decide +kernel) (by decide +kernel)
set_option maxRecDepth 20000 in
theorem gX4_breakLoop_X1_start : GoodIn wsX4_breakLoop (wsV RX4 228 RX1 yX1_start wsX1_start) := goodIn_app (goodIn_of _ (by decide +kernel)) ggX4_breakLoop_X1_start
set_option maxRecDepth 20000 in
theorem ggX4_breakLoop_X2_placeOf : GoodIn wsX4_breakLoop wsX2_placeOf := goodIn_r _ [24, 25, 26, 78, 79, 80, 81, 82] (by decide +kernel) (by decide +kernel)
set_option maxRecDepth 20000 in
theorem gX4_breakLoop_X2_placeOf : GoodIn wsX4_breakLoop (wsV RX4 188 RX2 yX2_placeOf wsX2_placeOf) := goodIn_app (goodIn_of _ (by decide +kernel)) ggX4_breakLoop_X2_placeOf
set_option maxRecDepth 20000 in
theorem ggX4_breakLoop_X1_write : GoodIn wsX4_breakLoop wsX1_write := goodIn_r _ [30, 19, 18, 89, 90, 91, 92, 93] (by decide +kernel) (by decide +kernel)
set_option maxRecDepth 20000 in
theorem gX4_breakLoop_X1_write : GoodIn wsX4_breakLoop (wsV RX4 233 RX1 yX1_write wsX1_write) := goodIn_app (goodIn_of _ (by decide +kernel)) ggX4_breakLoop_X1_write
set_option maxRecDepth 20000 in
theorem ggX4_breakLoop_X4_targetPlace : GoodIn wsX4_breakLoop wsX4_targetPlace := goodIn_r _ [35, 4, 5, 36, 9, 2, 37, 38, 39, 40, 41, 42, 43, 20, 21, 22, 23, 24, 25, 26, 67, 68, 69, 70, 71, 72, 73, 74, 75, 76, 77, 83, 84, 85, 86, 87, 88, 78, 79, 80, 81, 82] (by decide +kernel) (by decide +kernel)
set_option maxRecDepth 20000 in
theorem gX4_breakLoop_X4_targetPlace : GoodIn wsX4_breakLoop (wsV RX4 154 RX4 yX4_targetPlace wsX4_targetPlace) := goodIn_app (goodIn_of _ (by decide +kernel)) ggX4_breakLoop_X4_targetPlace
set_option maxRecDepth 20000 in
theorem ggX4_breakLoop_X1_knowsState : GoodIn wsX4_breakLoop wsX1_knowsState := goodIn_r _ [47, 48, 49, 50, 51, 52, 16, 53, 19, 18, 89, 90, 91, 92, 93] (by decide +kernel) (by decide +kernel)
set_option maxRecDepth 20000 in
theorem gX4_breakLoop_X1_knowsState : GoodIn wsX4_breakLoop (wsV RX4 237 RX1 yX1_knowsState wsX1_knowsState) := goodIn_app (goodIn_of _ (by decide +kernel)) ggX4_breakLoop_X1_knowsState
set_option maxRecDepth 20000 in
theorem ggX4_breakLoop_X1_forget : GoodIn wsX4_breakLoop wsX1_forget := goodIn_r _ [57, 48, 58, 89, 90, 91, 92, 93] (by decide +kernel) (by decide +kernel)
set_option maxRecDepth 20000 in
theorem gX4_breakLoop_X1_forget : GoodIn wsX4_breakLoop (wsV RX4 80 RX1 yX1_forget wsX1_forget) := goodIn_app (goodIn_of _ (by decide +kernel)) ggX4_breakLoop_X1_forget
set_option maxRecDepth 20000 in
theorem ggX4_breakLoop_X1_keepState : GoodIn wsX4_breakLoop wsX1_keepState := goodIn_r _ [62, 18, 49, 58, 63, 64, 65, 66, 48, 89, 90, 91, 92, 93] (by decide +kernel) (by decide +kernel)
set_option maxRecDepth 20000 in
theorem gX4_breakLoop_X1_keepState : GoodIn wsX4_breakLoop (wsV RX4 241 RX1 yX1_keepState wsX1_keepState) := goodIn_app (goodIn_of _ (by decide +kernel)) ggX4_breakLoop_X1_keepState
theorem dX4_breakLoop_0 : decode cX4_breakLoop 0 = .ok (.aload_n 0, 1) := by decide +kernel
theorem dX4_breakLoop_1 : decode cX4_breakLoop 1 = .ok (.getfield 37, 3) := by decide +kernel
theorem dX4_breakLoop_4 : decode cX4_breakLoop 4 = .ok (.aload_n 0, 1) := by decide +kernel
theorem dX4_breakLoop_5 : decode cX4_breakLoop 5 = .ok (.getfield 16, 3) := by decide +kernel
theorem dX4_breakLoop_8 : decode cX4_breakLoop 8 = .ok (.getfield 114, 3) := by decide +kernel
theorem dX4_breakLoop_11 : decode cX4_breakLoop 11 = .ok (.aload_n 0, 1) := by decide +kernel
theorem dX4_breakLoop_12 : decode cX4_breakLoop 12 = .ok (.getfield 23, 3) := by decide +kernel
theorem dX4_breakLoop_15 : decode cX4_breakLoop 15 = .ok (.getfield 89, 3) := by decide +kernel
theorem dX4_breakLoop_18 : decode cX4_breakLoop 18 = .ok (.invokevirtual 228, 3) := by decide +kernel
theorem dX4_breakLoop_21 : decode cX4_breakLoop 21 = .ok (.iconst 0, 1) := by decide +kernel
theorem dX4_breakLoop_22 : decode cX4_breakLoop 22 = .ok (.istore_n 1, 1) := by decide +kernel
theorem dX4_breakLoop_23 : decode cX4_breakLoop 23 = .ok (.iload_n 1, 1) := by decide +kernel
theorem dX4_breakLoop_24 : decode cX4_breakLoop 24 = .ok (.aload_n 0, 1) := by decide +kernel
theorem dX4_breakLoop_25 : decode cX4_breakLoop 25 = .ok (.getfield 16, 3) := by decide +kernel
theorem dX4_breakLoop_28 : decode cX4_breakLoop 28 = .ok (.getfield 114, 3) := by decide +kernel
theorem dX4_breakLoop_31 : decode cX4_breakLoop 31 = .ok (.if_icmp .ge 51, 3) := by decide +kernel
theorem dX4_breakLoop_34 : decode cX4_breakLoop 34 = .ok (.aload_n 0, 1) := by decide +kernel
theorem dX4_breakLoop_35 : decode cX4_breakLoop 35 = .ok (.getfield 37, 3) := by decide +kernel
theorem dX4_breakLoop_38 : decode cX4_breakLoop 38 = .ok (.aload_n 0, 1) := by decide +kernel
theorem dX4_breakLoop_39 : decode cX4_breakLoop 39 = .ok (.getfield 16, 3) := by decide +kernel
theorem dX4_breakLoop_42 : decode cX4_breakLoop 42 = .ok (.getfield 121, 3) := by decide +kernel
theorem dX4_breakLoop_45 : decode cX4_breakLoop 45 = .ok (.iload_n 1, 1) := by decide +kernel
theorem dX4_breakLoop_46 : decode cX4_breakLoop 46 = .ok (.iaload, 1) := by decide +kernel
theorem dX4_breakLoop_47 : decode cX4_breakLoop 47 = .ok (.iconst 0, 1) := by decide +kernel
theorem dX4_breakLoop_48 : decode cX4_breakLoop 48 = .ok (.aload_n 0, 1) := by decide +kernel
theorem dX4_breakLoop_49 : decode cX4_breakLoop 49 = .ok (.getfield 16, 3) := by decide +kernel
theorem dX4_breakLoop_52 : decode cX4_breakLoop 52 = .ok (.getfield 231, 3) := by decide +kernel
theorem dX4_breakLoop_55 : decode cX4_breakLoop 55 = .ok (.iload_n 1, 1) := by decide +kernel
theorem dX4_breakLoop_56 : decode cX4_breakLoop 56 = .ok (.iaload, 1) := by decide +kernel
theorem dX4_breakLoop_57 : decode cX4_breakLoop 57 = .ok (.aload_n 0, 1) := by decide +kernel
theorem dX4_breakLoop_58 : decode cX4_breakLoop 58 = .ok (.getfield 16, 3) := by decide +kernel
theorem dX4_breakLoop_61 : decode cX4_breakLoop 61 = .ok (.aload_n 0, 1) := by decide +kernel
theorem dX4_breakLoop_62 : decode cX4_breakLoop 62 = .ok (.getfield 16, 3) := by decide +kernel
theorem dX4_breakLoop_65 : decode cX4_breakLoop 65 = .ok (.getfield 232, 3) := by decide +kernel
theorem dX4_breakLoop_68 : decode cX4_breakLoop 68 = .ok (.iload_n 1, 1) := by decide +kernel
theorem dX4_breakLoop_69 : decode cX4_breakLoop 69 = .ok (.iaload, 1) := by decide +kernel
theorem dX4_breakLoop_70 : decode cX4_breakLoop 70 = .ok (.invokevirtual 188, 3) := by decide +kernel
theorem dX4_breakLoop_73 : decode cX4_breakLoop 73 = .ok (.invokevirtual 233, 3) := by decide +kernel
theorem dX4_breakLoop_76 : decode cX4_breakLoop 76 = .ok (.iinc 1 1, 3) := by decide +kernel
theorem dX4_breakLoop_79 : decode cX4_breakLoop 79 = .ok (.goto (-56), 3) := by decide +kernel
theorem dX4_breakLoop_82 : decode cX4_breakLoop 82 = .ok (.iconst 0, 1) := by decide +kernel
theorem dX4_breakLoop_83 : decode cX4_breakLoop 83 = .ok (.istore_n 1, 1) := by decide +kernel
theorem dX4_breakLoop_84 : decode cX4_breakLoop 84 = .ok (.iload_n 1, 1) := by decide +kernel
theorem dX4_breakLoop_85 : decode cX4_breakLoop 85 = .ok (.aload_n 0, 1) := by decide +kernel
theorem dX4_breakLoop_86 : decode cX4_breakLoop 86 = .ok (.getfield 23, 3) := by decide +kernel
theorem dX4_breakLoop_89 : decode cX4_breakLoop 89 = .ok (.getfield 89, 3) := by decide +kernel
theorem dX4_breakLoop_92 : decode cX4_breakLoop 92 = .ok (.if_icmp .ge 48, 3) := by decide +kernel
theorem dX4_breakLoop_95 : decode cX4_breakLoop 95 = .ok (.aload_n 0, 1) := by decide +kernel
theorem dX4_breakLoop_96 : decode cX4_breakLoop 96 = .ok (.getfield 37, 3) := by decide +kernel
theorem dX4_breakLoop_99 : decode cX4_breakLoop 99 = .ok (.aload_n 0, 1) := by decide +kernel
theorem dX4_breakLoop_100 : decode cX4_breakLoop 100 = .ok (.getfield 23, 3) := by decide +kernel
theorem dX4_breakLoop_103 : decode cX4_breakLoop 103 = .ok (.getfield 143, 3) := by decide +kernel
theorem dX4_breakLoop_106 : decode cX4_breakLoop 106 = .ok (.iload_n 1, 1) := by decide +kernel
theorem dX4_breakLoop_107 : decode cX4_breakLoop 107 = .ok (.iaload, 1) := by decide +kernel
theorem dX4_breakLoop_108 : decode cX4_breakLoop 108 = .ok (.aload_n 0, 1) := by decide +kernel
theorem dX4_breakLoop_109 : decode cX4_breakLoop 109 = .ok (.getfield 23, 3) := by decide +kernel
theorem dX4_breakLoop_112 : decode cX4_breakLoop 112 = .ok (.getfield 147, 3) := by decide +kernel
theorem dX4_breakLoop_115 : decode cX4_breakLoop 115 = .ok (.iload_n 1, 1) := by decide +kernel
theorem dX4_breakLoop_116 : decode cX4_breakLoop 116 = .ok (.baload, 1) := by decide +kernel
theorem dX4_breakLoop_117 : decode cX4_breakLoop 117 = .ok (.aload_n 0, 1) := by decide +kernel
theorem dX4_breakLoop_118 : decode cX4_breakLoop 118 = .ok (.getfield 23, 3) := by decide +kernel
theorem dX4_breakLoop_121 : decode cX4_breakLoop 121 = .ok (.getfield 151, 3) := by decide +kernel
theorem dX4_breakLoop_124 : decode cX4_breakLoop 124 = .ok (.iload_n 1, 1) := by decide +kernel
theorem dX4_breakLoop_125 : decode cX4_breakLoop 125 = .ok (.iaload, 1) := by decide +kernel
theorem dX4_breakLoop_126 : decode cX4_breakLoop 126 = .ok (.aload_n 0, 1) := by decide +kernel
theorem dX4_breakLoop_127 : decode cX4_breakLoop 127 = .ok (.iload_n 1, 1) := by decide +kernel
theorem dX4_breakLoop_128 : decode cX4_breakLoop 128 = .ok (.invokevirtual 154, 3) := by decide +kernel
theorem dX4_breakLoop_131 : decode cX4_breakLoop 131 = .ok (.invokevirtual 233, 3) := by decide +kernel
theorem dX4_breakLoop_134 : decode cX4_breakLoop 134 = .ok (.iinc 1 1, 3) := by decide +kernel
theorem dX4_breakLoop_137 : decode cX4_breakLoop 137 = .ok (.goto (-53), 3) := by decide +kernel
theorem dX4_breakLoop_140 : decode cX4_breakLoop 140 = .ok (.aload_n 0, 1) := by decide +kernel
theorem dX4_breakLoop_141 : decode cX4_breakLoop 141 = .ok (.getfield 37, 3) := by decide +kernel
theorem dX4_breakLoop_144 : decode cX4_breakLoop 144 = .ok (.invokevirtual 237, 3) := by decide +kernel
theorem dX4_breakLoop_147 : decode cX4_breakLoop 147 = .ok (.ifCond .eq 31, 3) := by decide +kernel
theorem dX4_breakLoop_150 : decode cX4_breakLoop 150 = .ok (.aload_n 0, 1) := by decide +kernel
theorem dX4_breakLoop_151 : decode cX4_breakLoop 151 = .ok (.dup, 1) := by decide +kernel
theorem dX4_breakLoop_152 : decode cX4_breakLoop 152 = .ok (.getfield 109, 3) := by decide +kernel
theorem dX4_breakLoop_155 : decode cX4_breakLoop 155 = .ok (.iconst 1, 1) := by decide +kernel
theorem dX4_breakLoop_156 : decode cX4_breakLoop 156 = .ok (.iadd, 1) := by decide +kernel
theorem dX4_breakLoop_157 : decode cX4_breakLoop 157 = .ok (.putfield 109, 3) := by decide +kernel
theorem dX4_breakLoop_160 : decode cX4_breakLoop 160 = .ok (.aload_n 0, 1) := by decide +kernel
theorem dX4_breakLoop_161 : decode cX4_breakLoop 161 = .ok (.getfield 23, 3) := by decide +kernel
theorem dX4_breakLoop_164 : decode cX4_breakLoop 164 = .ok (.iconst 0, 1) := by decide +kernel
theorem dX4_breakLoop_165 : decode cX4_breakLoop 165 = .ok (.putfield 89, 3) := by decide +kernel
theorem dX4_breakLoop_168 : decode cX4_breakLoop 168 = .ok (.aload_n 0, 1) := by decide +kernel
theorem dX4_breakLoop_169 : decode cX4_breakLoop 169 = .ok (.getfield 37, 3) := by decide +kernel
theorem dX4_breakLoop_172 : decode cX4_breakLoop 172 = .ok (.invokevirtual 80, 3) := by decide +kernel
theorem dX4_breakLoop_175 : decode cX4_breakLoop 175 = .ok (.goto 10, 3) := by decide +kernel
theorem dX4_breakLoop_178 : decode cX4_breakLoop 178 = .ok (.aload_n 0, 1) := by decide +kernel
theorem dX4_breakLoop_179 : decode cX4_breakLoop 179 = .ok (.getfield 37, 3) := by decide +kernel
theorem dX4_breakLoop_182 : decode cX4_breakLoop 182 = .ok (.invokevirtual 241, 3) := by decide +kernel
theorem dX4_breakLoop_185 : decode cX4_breakLoop 185 = .ok (.return_, 1) := by decide +kernel
theorem dX5_init_0 : decode cX5_init 0 = .ok (.aload_n 0, 1) := by decide +kernel
theorem dX5_init_1 : decode cX5_init 1 = .ok (.invokespecial 1, 3) := by decide +kernel
theorem dX5_init_4 : decode cX5_init 4 = .ok (.aload_n 0, 1) := by decide +kernel
theorem dX5_init_5 : decode cX5_init 5 = .ok (.iconst 3, 1) := by decide +kernel
theorem dX5_init_6 : decode cX5_init 6 = .ok (.newarray .int, 2) := by decide +kernel
theorem dX5_init_8 : decode cX5_init 8 = .ok (.putfield 7, 3) := by decide +kernel
theorem dX5_init_11 : decode cX5_init 11 = .ok (.aload_n 0, 1) := by decide +kernel
theorem dX5_init_12 : decode cX5_init 12 = .ok (.bipush 10, 2) := by decide +kernel
theorem dX5_init_14 : decode cX5_init 14 = .ok (.newarray .int, 2) := by decide +kernel
theorem dX5_init_16 : decode cX5_init 16 = .ok (.putfield 13, 3) := by decide +kernel
theorem dX5_init_19 : decode cX5_init 19 = .ok (.aload_n 0, 1) := by decide +kernel
theorem dX5_init_20 : decode cX5_init 20 = .ok (.bipush 10, 2) := by decide +kernel
theorem dX5_init_22 : decode cX5_init 22 = .ok (.newarray .int, 2) := by decide +kernel
theorem dX5_init_24 : decode cX5_init 24 = .ok (.putfield 16, 3) := by decide +kernel
theorem dX5_init_27 : decode cX5_init 27 = .ok (.aload_n 0, 1) := by decide +kernel
theorem dX5_init_28 : decode cX5_init 28 = .ok (.bipush 10, 2) := by decide +kernel
theorem dX5_init_30 : decode cX5_init 30 = .ok (.newarray .int, 2) := by decide +kernel
theorem dX5_init_32 : decode cX5_init 32 = .ok (.putfield 19, 3) := by decide +kernel
theorem dX5_init_35 : decode cX5_init 35 = .ok (.aload_n 0, 1) := by decide +kernel
theorem dX5_init_36 : decode cX5_init 36 = .ok (.bipush 10, 2) := by decide +kernel
theorem dX5_init_38 : decode cX5_init 38 = .ok (.newarray .int, 2) := by decide +kernel
theorem dX5_init_40 : decode cX5_init 40 = .ok (.putfield 22, 3) := by decide +kernel
theorem dX5_init_43 : decode cX5_init 43 = .ok (.aload_n 0, 1) := by decide +kernel
theorem dX5_init_44 : decode cX5_init 44 = .ok (.bipush 12, 2) := by decide +kernel
theorem dX5_init_46 : decode cX5_init 46 = .ok (.newarray .int, 2) := by decide +kernel
theorem dX5_init_48 : decode cX5_init 48 = .ok (.putfield 25, 3) := by decide +kernel
theorem dX5_init_51 : decode cX5_init 51 = .ok (.aload_n 0, 1) := by decide +kernel
theorem dX5_init_52 : decode cX5_init 52 = .ok (.bipush 12, 2) := by decide +kernel
theorem dX5_init_54 : decode cX5_init 54 = .ok (.newarray .boolean, 2) := by decide +kernel
theorem dX5_init_56 : decode cX5_init 56 = .ok (.putfield 28, 3) := by decide +kernel
theorem dX5_init_59 : decode cX5_init 59 = .ok (.aload_n 0, 1) := by decide +kernel
theorem dX5_init_60 : decode cX5_init 60 = .ok (.bipush 12, 2) := by decide +kernel
theorem dX5_init_62 : decode cX5_init 62 = .ok (.newarray .int, 2) := by decide +kernel
theorem dX5_init_64 : decode cX5_init 64 = .ok (.putfield 32, 3) := by decide +kernel
theorem dX5_init_67 : decode cX5_init 67 = .ok (.aload_n 0, 1) := by decide +kernel
theorem dX5_init_68 : decode cX5_init 68 = .ok (.bipush 12, 2) := by decide +kernel
theorem dX5_init_70 : decode cX5_init 70 = .ok (.newarray .int, 2) := by decide +kernel
theorem dX5_init_72 : decode cX5_init 72 = .ok (.putfield 35, 3) := by decide +kernel
theorem dX5_init_75 : decode cX5_init 75 = .ok (.aload_n 0, 1) := by decide +kernel
theorem dX5_init_76 : decode cX5_init 76 = .ok (.bipush 12, 2) := by decide +kernel
theorem dX5_init_78 : decode cX5_init 78 = .ok (.newarray .int, 2) := by decide +kernel
theorem dX5_init_80 : decode cX5_init 80 = .ok (.putfield 38, 3) := by decide +kernel
theorem dX5_init_83 : decode cX5_init 83 = .ok (.aload_n 0, 1) := by decide +kernel
theorem dX5_init_84 : decode cX5_init 84 = .ok (.bipush 10, 2) := by decide +kernel
theorem dX5_init_86 : decode cX5_init 86 = .ok (.newarray .int, 2) := by decide +kernel
theorem dX5_init_88 : decode cX5_init 88 = .ok (.putfield 41, 3) := by decide +kernel
theorem dX5_init_91 : decode cX5_init 91 = .ok (.aload_n 0, 1) := by decide +kernel
theorem dX5_init_92 : decode cX5_init 92 = .ok (.bipush 10, 2) := by decide +kernel
theorem dX5_init_94 : decode cX5_init 94 = .ok (.newarray .int, 2) := by decide +kernel
theorem dX5_init_96 : decode cX5_init 96 = .ok (.putfield 44, 3) := by decide +kernel
theorem dX5_init_99 : decode cX5_init 99 = .ok (.aload_n 0, 1) := by decide +kernel
theorem dX5_init_100 : decode cX5_init 100 = .ok (.bipush 10, 2) := by decide +kernel
theorem dX5_init_102 : decode cX5_init 102 = .ok (.newarray .int, 2) := by decide +kernel
theorem dX5_init_104 : decode cX5_init 104 = .ok (.putfield 47, 3) := by decide +kernel
theorem dX5_init_107 : decode cX5_init 107 = .ok (.aload_n 0, 1) := by decide +kernel
theorem dX5_init_108 : decode cX5_init 108 = .ok (.bipush 10, 2) := by decide +kernel
theorem dX5_init_110 : decode cX5_init 110 = .ok (.newarray .int, 2) := by decide +kernel
theorem dX5_init_112 : decode cX5_init 112 = .ok (.putfield 50, 3) := by decide +kernel
theorem dX5_init_115 : decode cX5_init 115 = .ok (.aload_n 0, 1) := by decide +kernel
theorem dX5_init_116 : decode cX5_init 116 = .ok (.bipush 10, 2) := by decide +kernel
theorem dX5_init_118 : decode cX5_init 118 = .ok (.newarray .int, 2) := by decide +kernel
theorem dX5_init_120 : decode cX5_init 120 = .ok (.putfield 53, 3) := by decide +kernel
theorem dX5_init_123 : decode cX5_init 123 = .ok (.aload_n 0, 1) := by decide +kernel
theorem dX5_init_124 : decode cX5_init 124 = .ok (.sipush 960, 3) := by decide +kernel
theorem dX5_init_127 : decode cX5_init 127 = .ok (.newarray .int, 2) := by decide +kernel
theorem dX5_init_129 : decode cX5_init 129 = .ok (.putfield 56, 3) := by decide +kernel
theorem dX5_init_132 : decode cX5_init 132 = .ok (.aload_n 0, 1) := by decide +kernel
theorem dX5_init_133 : decode cX5_init 133 = .ok (.bipush 24, 2) := by decide +kernel
theorem dX5_init_135 : decode cX5_init 135 = .ok (.newarray .int, 2) := by decide +kernel
theorem dX5_init_137 : decode cX5_init 137 = .ok (.putfield 59, 3) := by decide +kernel
theorem dX5_init_140 : decode cX5_init 140 = .ok (.iconst 0, 1) := by decide +kernel
theorem dX5_init_141 : decode cX5_init 141 = .ok (.istore_n 1, 1) := by decide +kernel
theorem dX5_init_142 : decode cX5_init 142 = .ok (.iload_n 1, 1) := by decide +kernel
theorem dX5_init_143 : decode cX5_init 143 = .ok (.iconst 3, 1) := by decide +kernel
theorem dX5_init_144 : decode cX5_init 144 = .ok (.if_icmp .ge 17, 3) := by decide +kernel
theorem dX5_init_147 : decode cX5_init 147 = .ok (.aload_n 0, 1) := by decide +kernel
theorem dX5_init_148 : decode cX5_init 148 = .ok (.getfield 7, 3) := by decide +kernel
theorem dX5_init_151 : decode cX5_init 151 = .ok (.iload_n 1, 1) := by decide +kernel
theorem dX5_init_152 : decode cX5_init 152 = .ok (.bipush 6, 2) := by decide +kernel
theorem dX5_init_154 : decode cX5_init 154 = .ok (.iastore, 1) := by decide +kernel
theorem dX5_init_155 : decode cX5_init 155 = .ok (.iinc 1 1, 3) := by decide +kernel
theorem dX5_init_158 : decode cX5_init 158 = .ok (.goto (-16), 3) := by decide +kernel
theorem dX5_init_161 : decode cX5_init 161 = .ok (.return_, 1) := by decide +kernel
theorem dX5_thrown_0 : decode cX5_thrown 0 = .ok (.aload_n 0, 1) := by decide +kernel
theorem dX5_thrown_1 : decode cX5_thrown 1 = .ok (.getfield 62, 3) := by decide +kernel
theorem dX5_thrown_4 : decode cX5_thrown 4 = .ok (.ireturn, 1) := by decide +kernel
theorem dX5_isIn_0 : decode cX5_isIn 0 = .ok (.iload_n 0, 1) := by decide +kernel
theorem dX5_isIn_1 : decode cX5_isIn 1 = .ok (.iload_n 1, 1) := by decide +kernel
theorem dX5_isIn_2 : decode cX5_isIn 2 = .ok (.if_icmp .lt 12, 3) := by decide +kernel
theorem dX5_isIn_5 : decode cX5_isIn 5 = .ok (.iload_n 0, 1) := by decide +kernel
theorem dX5_isIn_6 : decode cX5_isIn 6 = .ok (.iload_n 2, 1) := by decide +kernel
theorem dX5_isIn_7 : decode cX5_isIn 7 = .ok (.if_icmp .gt 7, 3) := by decide +kernel
theorem dX5_isIn_10 : decode cX5_isIn 10 = .ok (.iconst 1, 1) := by decide +kernel
theorem dX5_isIn_11 : decode cX5_isIn 11 = .ok (.goto 4, 3) := by decide +kernel
theorem dX5_isIn_14 : decode cX5_isIn 14 = .ok (.iconst 0, 1) := by decide +kernel
theorem dX5_isIn_15 : decode cX5_isIn 15 = .ok (.ireturn, 1) := by decide +kernel
theorem dX5_cost_0 : decode cX5_cost 0 = .ok (.iload_n 0, 1) := by decide +kernel
theorem dX5_cost_1 : decode cX5_cost 1 = .ok (.ifCond .eq 20, 3) := by decide +kernel
theorem dX5_cost_4 : decode cX5_cost 4 = .ok (.iload_n 0, 1) := by decide +kernel
theorem dX5_cost_5 : decode cX5_cost 5 = .ok (.iconst 5, 1) := by decide +kernel
theorem dX5_cost_6 : decode cX5_cost 6 = .ok (.if_icmp .eq 15, 3) := by decide +kernel
theorem dX5_cost_9 : decode cX5_cost 9 = .ok (.iload_n 0, 1) := by decide +kernel
theorem dX5_cost_10 : decode cX5_cost 10 = .ok (.bipush 6, 2) := by decide +kernel
theorem dX5_cost_12 : decode cX5_cost 12 = .ok (.if_icmp .eq 9, 3) := by decide +kernel
theorem dX5_cost_15 : decode cX5_cost 15 = .ok (.iload_n 0, 1) := by decide +kernel
theorem dX5_cost_16 : decode cX5_cost 16 = .ok (.bipush 9, 2) := by decide +kernel
theorem dX5_cost_18 : decode cX5_cost 18 = .ok (.if_icmp .ne 7, 3) := by decide +kernel
theorem dX5_cost_21 : decode cX5_cost 21 = .ok (.iconst 2, 1) := by decide +kernel
theorem dX5_cost_22 : decode cX5_cost 22 = .ok (.goto 24, 3) := by decide +kernel
theorem dX5_cost_25 : decode cX5_cost 25 = .ok (.iload_n 0, 1) := by decide +kernel
theorem dX5_cost_26 : decode cX5_cost 26 = .ok (.bipush 7, 2) := by decide +kernel
theorem dX5_cost_28 : decode cX5_cost 28 = .ok (.if_icmp .ne 7, 3) := by decide +kernel
theorem dX5_cost_31 : decode cX5_cost 31 = .ok (.iconst 4, 1) := by decide +kernel
theorem dX5_cost_32 : decode cX5_cost 32 = .ok (.goto 14, 3) := by decide +kernel
theorem dX5_cost_35 : decode cX5_cost 35 = .ok (.iload_n 0, 1) := by decide +kernel
theorem dX5_cost_36 : decode cX5_cost 36 = .ok (.bipush 11, 2) := by decide +kernel
theorem dX5_cost_38 : decode cX5_cost 38 = .ok (.if_icmp .le 7, 3) := by decide +kernel
theorem dX5_cost_41 : decode cX5_cost 41 = .ok (.iconst 1, 1) := by decide +kernel
theorem dX5_cost_42 : decode cX5_cost 42 = .ok (.goto 4, 3) := by decide +kernel
theorem dX5_cost_45 : decode cX5_cost 45 = .ok (.iconst 3, 1) := by decide +kernel
theorem dX5_cost_46 : decode cX5_cost 46 = .ok (.ireturn, 1) := by decide +kernel
theorem dX5_thingOf_0 : decode cX5_thingOf 0 = .ok (.iconst (-1), 1) := by decide +kernel
theorem dX5_thingOf_1 : decode cX5_thingOf 1 = .ok (.istore_n 2, 1) := by decide +kernel
theorem dX5_thingOf_2 : decode cX5_thingOf 2 = .ok (.iconst 0, 1) := by decide +kernel
theorem dX5_thingOf_3 : decode cX5_thingOf 3 = .ok (.istore_n 3, 1) := by decide +kernel
theorem dX5_thingOf_4 : decode cX5_thingOf 4 = .ok (.iload_n 3, 1) := by decide +kernel
theorem dX5_thingOf_5 : decode cX5_thingOf 5 = .ok (.aload_n 0, 1) := by decide +kernel
theorem dX5_thingOf_6 : decode cX5_thingOf 6 = .ok (.getfield 66, 3) := by decide +kernel
theorem dX5_thingOf_9 : decode cX5_thingOf 9 = .ok (.if_icmp .ge 25, 3) := by decide +kernel
theorem dX5_thingOf_12 : decode cX5_thingOf 12 = .ok (.aload_n 0, 1) := by decide +kernel
theorem dX5_thingOf_13 : decode cX5_thingOf 13 = .ok (.getfield 19, 3) := by decide +kernel
theorem dX5_thingOf_16 : decode cX5_thingOf 16 = .ok (.iload_n 3, 1) := by decide +kernel
theorem dX5_thingOf_17 : decode cX5_thingOf 17 = .ok (.iaload, 1) := by decide +kernel
theorem dX5_thingOf_18 : decode cX5_thingOf 18 = .ok (.iload_n 1, 1) := by decide +kernel
theorem dX5_thingOf_19 : decode cX5_thingOf 19 = .ok (.if_icmp .ne 7, 3) := by decide +kernel
theorem dX5_thingOf_22 : decode cX5_thingOf 22 = .ok (.iload_n 3, 1) := by decide +kernel
theorem dX5_thingOf_23 : decode cX5_thingOf 23 = .ok (.goto 4, 3) := by decide +kernel
theorem dX5_thingOf_26 : decode cX5_thingOf 26 = .ok (.iload_n 2, 1) := by decide +kernel
theorem dX5_thingOf_27 : decode cX5_thingOf 27 = .ok (.istore_n 2, 1) := by decide +kernel
theorem dX5_thingOf_28 : decode cX5_thingOf 28 = .ok (.iinc 3 1, 3) := by decide +kernel
theorem dX5_thingOf_31 : decode cX5_thingOf 31 = .ok (.goto (-27), 3) := by decide +kernel
theorem dX5_thingOf_34 : decode cX5_thingOf 34 = .ok (.iload_n 2, 1) := by decide +kernel
theorem dX5_thingOf_35 : decode cX5_thingOf 35 = .ok (.ireturn, 1) := by decide +kernel
theorem dX5_entryOf_0 : decode cX5_entryOf 0 = .ok (.iconst (-1), 1) := by decide +kernel
theorem dX5_entryOf_1 : decode cX5_entryOf 1 = .ok (.istore_n 2, 1) := by decide +kernel
theorem dX5_entryOf_2 : decode cX5_entryOf 2 = .ok (.iconst 0, 1) := by decide +kernel
theorem dX5_entryOf_3 : decode cX5_entryOf 3 = .ok (.istore_n 3, 1) := by decide +kernel
theorem dX5_entryOf_4 : decode cX5_entryOf 4 = .ok (.iload_n 3, 1) := by decide +kernel
theorem dX5_entryOf_5 : decode cX5_entryOf 5 = .ok (.aload_n 0, 1) := by decide +kernel
theorem dX5_entryOf_6 : decode cX5_entryOf 6 = .ok (.getfield 69, 3) := by decide +kernel
theorem dX5_entryOf_9 : decode cX5_entryOf 9 = .ok (.if_icmp .ge 32, 3) := by decide +kernel
theorem dX5_entryOf_12 : decode cX5_entryOf 12 = .ok (.aload_n 0, 1) := by decide +kernel
theorem dX5_entryOf_13 : decode cX5_entryOf 13 = .ok (.getfield 35, 3) := by decide +kernel
theorem dX5_entryOf_16 : decode cX5_entryOf 16 = .ok (.iload_n 3, 1) := by decide +kernel
theorem dX5_entryOf_17 : decode cX5_entryOf 17 = .ok (.iaload, 1) := by decide +kernel
theorem dX5_entryOf_18 : decode cX5_entryOf 18 = .ok (.iload_n 1, 1) := by decide +kernel
theorem dX5_entryOf_19 : decode cX5_entryOf 19 = .ok (.if_icmp .ne 14, 3) := by decide +kernel
theorem dX5_entryOf_22 : decode cX5_entryOf 22 = .ok (.aload_n 0, 1) := by decide +kernel
theorem dX5_entryOf_23 : decode cX5_entryOf 23 = .ok (.getfield 69, 3) := by decide +kernel
theorem dX5_entryOf_26 : decode cX5_entryOf 26 = .ok (.iconst 1, 1) := by decide +kernel
theorem dX5_entryOf_27 : decode cX5_entryOf 27 = .ok (.isub, 1) := by decide +kernel
theorem dX5_entryOf_28 : decode cX5_entryOf 28 = .ok (.iload_n 3, 1) := by decide +kernel
theorem dX5_entryOf_29 : decode cX5_entryOf 29 = .ok (.isub, 1) := by decide +kernel
theorem dX5_entryOf_30 : decode cX5_entryOf 30 = .ok (.goto 4, 3) := by decide +kernel
theorem dX5_entryOf_33 : decode cX5_entryOf 33 = .ok (.iload_n 2, 1) := by decide +kernel
theorem dX5_entryOf_34 : decode cX5_entryOf 34 = .ok (.istore_n 2, 1) := by decide +kernel
theorem dX5_entryOf_35 : decode cX5_entryOf 35 = .ok (.iinc 3 1, 3) := by decide +kernel
theorem dX5_entryOf_38 : decode cX5_entryOf 38 = .ok (.goto (-34), 3) := by decide +kernel
theorem dX5_entryOf_41 : decode cX5_entryOf 41 = .ok (.iload_n 2, 1) := by decide +kernel
theorem dX5_entryOf_42 : decode cX5_entryOf 42 = .ok (.ireturn, 1) := by decide +kernel
set_option maxRecDepth 20000 in
theorem ggX5_layer_X5_thingOf : GoodIn wsX5_layer wsX5_thingOf := goodIn_r _ [14, 5, 15, 16, 17, 18, 19, 20, 21, 22, 23, 24, 25, 26, 27, 28, 29, 30, 31, 32, 33, 34, 35, 36, 37, 38, 39, 40, 41, 42] (by decide +kernel) (by decide +kernel)
set_option maxRecDepth 20000 in
theorem gX5_layer_X5_thingOf : GoodIn wsX5_layer (wsV RX5 72 RX5 yX5_thingOf wsX5_thingOf) := goodIn_app (goodIn_of _ (by decide +kernel)) ggX5_layer_X5_thingOf
theorem dX5_layer_0 : decode cX5_layer 0 = .ok (.aload_n 0, 1) := by decide +kernel
theorem dX5_layer_1 : decode cX5_layer 1 = .ok (.getfield 13, 3) := by decide +kernel
theorem dX5_layer_4 : decode cX5_layer 4 = .ok (.iload_n 2, 1) := by decide +kernel
theorem dX5_layer_5 : decode cX5_layer 5 = .ok (.iaload, 1) := by decide +kernel
theorem dX5_layer_6 : decode cX5_layer 6 = .ok (.istore_n 3, 1) := by decide +kernel
theorem dX5_layer_7 : decode cX5_layer 7 = .ok (.iload_n 1, 1) := by decide +kernel
theorem dX5_layer_8 : decode cX5_layer 8 = .ok (.iconst 1, 1) := by decide +kernel
theorem dX5_layer_9 : decode cX5_layer 9 = .ok (.if_icmp .ne 22, 3) := by decide +kernel
theorem dX5_layer_12 : decode cX5_layer 12 = .ok (.iload_n 3, 1) := by decide +kernel
theorem dX5_layer_13 : decode cX5_layer 13 = .ok (.bipush 7, 2) := by decide +kernel
theorem dX5_layer_15 : decode cX5_layer 15 = .ok (.if_icmp .ne 16, 3) := by decide +kernel
theorem dX5_layer_18 : decode cX5_layer 18 = .ok (.aload_n 0, 1) := by decide +kernel
theorem dX5_layer_19 : decode cX5_layer 19 = .ok (.aload_n 0, 1) := by decide +kernel
theorem dX5_layer_20 : decode cX5_layer 20 = .ok (.getfield 22, 3) := by decide +kernel
theorem dX5_layer_23 : decode cX5_layer 23 = .ok (.iload_n 2, 1) := by decide +kernel
theorem dX5_layer_24 : decode cX5_layer 24 = .ok (.iaload, 1) := by decide +kernel
theorem dX5_layer_25 : decode cX5_layer 25 = .ok (.invokevirtual 72, 3) := by decide +kernel
theorem dX5_layer_28 : decode cX5_layer 28 = .ok (.goto 4, 3) := by decide +kernel
theorem dX5_layer_31 : decode cX5_layer 31 = .ok (.iconst (-1), 1) := by decide +kernel
theorem dX5_layer_32 : decode cX5_layer 32 = .ok (.istore 4, 2) := by decide +kernel
theorem dX5_layer_34 : decode cX5_layer 34 = .ok (.iload 4, 2) := by decide +kernel
theorem dX5_layer_36 : decode cX5_layer 36 = .ok (.ifCond .lt 16, 3) := by decide +kernel
theorem dX5_layer_39 : decode cX5_layer 39 = .ok (.aload_n 0, 1) := by decide +kernel
theorem dX5_layer_40 : decode cX5_layer 40 = .ok (.getfield 41, 3) := by decide +kernel
theorem dX5_layer_43 : decode cX5_layer 43 = .ok (.iload 4, 2) := by decide +kernel
theorem dX5_layer_45 : decode cX5_layer 45 = .ok (.aload_n 0, 1) := by decide +kernel
theorem dX5_layer_46 : decode cX5_layer 46 = .ok (.getfield 16, 3) := by decide +kernel
theorem dX5_layer_49 : decode cX5_layer 49 = .ok (.iload_n 2, 1) := by decide +kernel
theorem dX5_layer_50 : decode cX5_layer 50 = .ok (.iaload, 1) := by decide +kernel
theorem dX5_layer_51 : decode cX5_layer 51 = .ok (.iastore, 1) := by decide +kernel
theorem dX5_layer_52 : decode cX5_layer 52 = .ok (.iconst 0, 1) := by decide +kernel
theorem dX5_layer_53 : decode cX5_layer 53 = .ok (.istore 5, 2) := by decide +kernel
theorem dX5_layer_55 : decode cX5_layer 55 = .ok (.iload 5, 2) := by decide +kernel
theorem dX5_layer_57 : decode cX5_layer 57 = .ok (.aload_n 0, 1) := by decide +kernel
theorem dX5_layer_58 : decode cX5_layer 58 = .ok (.getfield 66, 3) := by decide +kernel
theorem dX5_layer_61 : decode cX5_layer 61 = .ok (.if_icmp .ge 214, 3) := by decide +kernel
theorem dX5_layer_64 : decode cX5_layer 64 = .ok (.aload_n 0, 1) := by decide +kernel
theorem dX5_layer_65 : decode cX5_layer 65 = .ok (.getfield 50, 3) := by decide +kernel
theorem dX5_layer_68 : decode cX5_layer 68 = .ok (.iload 5, 2) := by decide +kernel
theorem dX5_layer_70 : decode cX5_layer 70 = .ok (.iaload, 1) := by decide +kernel
theorem dX5_layer_71 : decode cX5_layer 71 = .ok (.iconst 1, 1) := by decide +kernel
theorem dX5_layer_72 : decode cX5_layer 72 = .ok (.iand, 1) := by decide +kernel
theorem dX5_layer_73 : decode cX5_layer 73 = .ok (.iconst 1, 1) := by decide +kernel
theorem dX5_layer_74 : decode cX5_layer 74 = .ok (.if_icmp .ne 7, 3) := by decide +kernel
theorem dX5_layer_77 : decode cX5_layer 77 = .ok (.iconst 1, 1) := by decide +kernel
theorem dX5_layer_78 : decode cX5_layer 78 = .ok (.goto 4, 3) := by decide +kernel
theorem dX5_layer_81 : decode cX5_layer 81 = .ok (.iconst 0, 1) := by decide +kernel
theorem dX5_layer_82 : decode cX5_layer 82 = .ok (.istore 6, 2) := by decide +kernel
theorem dX5_layer_84 : decode cX5_layer 84 = .ok (.iload_n 1, 1) := by decide +kernel
theorem dX5_layer_85 : decode cX5_layer 85 = .ok (.iconst 2, 1) := by decide +kernel
theorem dX5_layer_86 : decode cX5_layer 86 = .ok (.if_icmp .ne 32, 3) := by decide +kernel
theorem dX5_layer_89 : decode cX5_layer 89 = .ok (.iload_n 3, 1) := by decide +kernel
theorem dX5_layer_90 : decode cX5_layer 90 = .ok (.iconst 5, 1) := by decide +kernel
theorem dX5_layer_91 : decode cX5_layer 91 = .ok (.if_icmp .ne 27, 3) := by decide +kernel
theorem dX5_layer_94 : decode cX5_layer 94 = .ok (.aload_n 0, 1) := by decide +kernel
theorem dX5_layer_95 : decode cX5_layer 95 = .ok (.getfield 50, 3) := by decide +kernel
theorem dX5_layer_98 : decode cX5_layer 98 = .ok (.iload 5, 2) := by decide +kernel
theorem dX5_layer_100 : decode cX5_layer 100 = .ok (.iaload, 1) := by decide +kernel
theorem dX5_layer_101 : decode cX5_layer 101 = .ok (.iconst 2, 1) := by decide +kernel
theorem dX5_layer_102 : decode cX5_layer 102 = .ok (.iand, 1) := by decide +kernel
theorem dX5_layer_103 : decode cX5_layer 103 = .ok (.iconst 2, 1) := by decide +kernel
theorem dX5_layer_104 : decode cX5_layer 104 = .ok (.if_icmp .ne 14, 3) := by decide +kernel
theorem dX5_layer_107 : decode cX5_layer 107 = .ok (.aload_n 0, 1) := by decide +kernel
theorem dX5_layer_108 : decode cX5_layer 108 = .ok (.getfield 44, 3) := by decide +kernel
theorem dX5_layer_111 : decode cX5_layer 111 = .ok (.iload 5, 2) := by decide +kernel
theorem dX5_layer_113 : decode cX5_layer 113 = .ok (.dup2, 1) := by decide +kernel
theorem dX5_layer_114 : decode cX5_layer 114 = .ok (.iaload, 1) := by decide +kernel
theorem dX5_layer_115 : decode cX5_layer 115 = .ok (.iconst 1, 1) := by decide +kernel
theorem dX5_layer_116 : decode cX5_layer 116 = .ok (.ior, 1) := by decide +kernel
theorem dX5_layer_117 : decode cX5_layer 117 = .ok (.iastore, 1) := by decide +kernel
theorem dX5_layer_118 : decode cX5_layer 118 = .ok (.iload_n 1, 1) := by decide +kernel
theorem dX5_layer_119 : decode cX5_layer 119 = .ok (.iconst 2, 1) := by decide +kernel
theorem dX5_layer_120 : decode cX5_layer 120 = .ok (.if_icmp .ne 32, 3) := by decide +kernel
theorem dX5_layer_123 : decode cX5_layer 123 = .ok (.iload_n 3, 1) := by decide +kernel
theorem dX5_layer_124 : decode cX5_layer 124 = .ok (.bipush 6, 2) := by decide +kernel
theorem dX5_layer_126 : decode cX5_layer 126 = .ok (.if_icmp .ne 26, 3) := by decide +kernel
theorem dX5_layer_129 : decode cX5_layer 129 = .ok (.iload 6, 2) := by decide +kernel
theorem dX5_layer_131 : decode cX5_layer 131 = .ok (.ifCond .eq 21, 3) := by decide +kernel
theorem dX5_layer_134 : decode cX5_layer 134 = .ok (.aload_n 0, 1) := by decide +kernel
theorem dX5_layer_135 : decode cX5_layer 135 = .ok (.getfield 44, 3) := by decide +kernel
theorem dX5_layer_138 : decode cX5_layer 138 = .ok (.iload 5, 2) := by decide +kernel
theorem dX5_layer_140 : decode cX5_layer 140 = .ok (.aload_n 0, 1) := by decide +kernel
theorem dX5_layer_141 : decode cX5_layer 141 = .ok (.getfield 44, 3) := by decide +kernel
theorem dX5_layer_144 : decode cX5_layer 144 = .ok (.iload 5, 2) := by decide +kernel
theorem dX5_layer_146 : decode cX5_layer 146 = .ok (.iaload, 1) := by decide +kernel
theorem dX5_layer_147 : decode cX5_layer 147 = .ok (.iconst 4, 1) := by decide +kernel
theorem dX5_layer_148 : decode cX5_layer 148 = .ok (.iand, 1) := by decide +kernel
theorem dX5_layer_149 : decode cX5_layer 149 = .ok (.iconst 2, 1) := by decide +kernel
theorem dX5_layer_150 : decode cX5_layer 150 = .ok (.ior, 1) := by decide +kernel
theorem dX5_layer_151 : decode cX5_layer 151 = .ok (.iastore, 1) := by decide +kernel
theorem dX5_layer_152 : decode cX5_layer 152 = .ok (.iload_n 1, 1) := by decide +kernel
theorem dX5_layer_153 : decode cX5_layer 153 = .ok (.iconst 3, 1) := by decide +kernel
theorem dX5_layer_154 : decode cX5_layer 154 = .ok (.if_icmp .ne 35, 3) := by decide +kernel
theorem dX5_layer_157 : decode cX5_layer 157 = .ok (.iload 6, 2) := by decide +kernel
theorem dX5_layer_159 : decode cX5_layer 159 = .ok (.ifCond .eq 30, 3) := by decide +kernel
theorem dX5_layer_162 : decode cX5_layer 162 = .ok (.iload_n 3, 1) := by decide +kernel
theorem dX5_layer_163 : decode cX5_layer 163 = .ok (.iconst 3, 1) := by decide +kernel
theorem dX5_layer_164 : decode cX5_layer 164 = .ok (.if_icmp .eq 8, 3) := by decide +kernel
theorem dX5_layer_167 : decode cX5_layer 167 = .ok (.iload_n 3, 1) := by decide +kernel
theorem dX5_layer_168 : decode cX5_layer 168 = .ok (.iconst 4, 1) := by decide +kernel
theorem dX5_layer_169 : decode cX5_layer 169 = .ok (.if_icmp .ne 20, 3) := by decide +kernel
theorem dX5_layer_172 : decode cX5_layer 172 = .ok (.aload_n 0, 1) := by decide +kernel
theorem dX5_layer_173 : decode cX5_layer 173 = .ok (.getfield 47, 3) := by decide +kernel
theorem dX5_layer_176 : decode cX5_layer 176 = .ok (.iload 5, 2) := by decide +kernel
theorem dX5_layer_178 : decode cX5_layer 178 = .ok (.iload_n 3, 1) := by decide +kernel
theorem dX5_layer_179 : decode cX5_layer 179 = .ok (.iconst 3, 1) := by decide +kernel
theorem dX5_layer_180 : decode cX5_layer 180 = .ok (.if_icmp .ne 7, 3) := by decide +kernel
theorem dX5_layer_183 : decode cX5_layer 183 = .ok (.iconst 1, 1) := by decide +kernel
theorem dX5_layer_184 : decode cX5_layer 184 = .ok (.goto 4, 3) := by decide +kernel
theorem dX5_layer_187 : decode cX5_layer 187 = .ok (.iconst 4, 1) := by decide +kernel
theorem dX5_layer_188 : decode cX5_layer 188 = .ok (.iastore, 1) := by decide +kernel
theorem dX5_layer_189 : decode cX5_layer 189 = .ok (.iload_n 1, 1) := by decide +kernel
theorem dX5_layer_190 : decode cX5_layer 190 = .ok (.iconst 4, 1) := by decide +kernel
theorem dX5_layer_191 : decode cX5_layer 191 = .ok (.if_icmp .ne 40, 3) := by decide +kernel
theorem dX5_layer_194 : decode cX5_layer 194 = .ok (.iload 6, 2) := by decide +kernel
theorem dX5_layer_196 : decode cX5_layer 196 = .ok (.ifCond .eq 35, 3) := by decide +kernel
theorem dX5_layer_199 : decode cX5_layer 199 = .ok (.iload_n 3, 1) := by decide +kernel
theorem dX5_layer_200 : decode cX5_layer 200 = .ok (.iconst 2, 1) := by decide +kernel
theorem dX5_layer_201 : decode cX5_layer 201 = .ok (.if_icmp .ne 30, 3) := by decide +kernel
theorem dX5_layer_204 : decode cX5_layer 204 = .ok (.aload_n 0, 1) := by decide +kernel
theorem dX5_layer_205 : decode cX5_layer 205 = .ok (.getfield 41, 3) := by decide +kernel
theorem dX5_layer_208 : decode cX5_layer 208 = .ok (.iload 5, 2) := by decide +kernel
theorem dX5_layer_210 : decode cX5_layer 210 = .ok (.iaload, 1) := by decide +kernel
theorem dX5_layer_211 : decode cX5_layer 211 = .ok (.aload_n 0, 1) := by decide +kernel
theorem dX5_layer_212 : decode cX5_layer 212 = .ok (.getfield 41, 3) := by decide +kernel
theorem dX5_layer_215 : decode cX5_layer 215 = .ok (.iload_n 2, 1) := by decide +kernel
theorem dX5_layer_216 : decode cX5_layer 216 = .ok (.iaload, 1) := by decide +kernel
theorem dX5_layer_217 : decode cX5_layer 217 = .ok (.if_icmp .ne 14, 3) := by decide +kernel
theorem dX5_layer_220 : decode cX5_layer 220 = .ok (.aload_n 0, 1) := by decide +kernel
theorem dX5_layer_221 : decode cX5_layer 221 = .ok (.getfield 47, 3) := by decide +kernel
theorem dX5_layer_224 : decode cX5_layer 224 = .ok (.iload 5, 2) := by decide +kernel
theorem dX5_layer_226 : decode cX5_layer 226 = .ok (.dup2, 1) := by decide +kernel
theorem dX5_layer_227 : decode cX5_layer 227 = .ok (.iaload, 1) := by decide +kernel
theorem dX5_layer_228 : decode cX5_layer 228 = .ok (.iconst 2, 1) := by decide +kernel
theorem dX5_layer_229 : decode cX5_layer 229 = .ok (.iadd, 1) := by decide +kernel
theorem dX5_layer_230 : decode cX5_layer 230 = .ok (.iastore, 1) := by decide +kernel
theorem dX5_layer_231 : decode cX5_layer 231 = .ok (.iload_n 1, 1) := by decide +kernel
theorem dX5_layer_232 : decode cX5_layer 232 = .ok (.iconst 5, 1) := by decide +kernel
theorem dX5_layer_233 : decode cX5_layer 233 = .ok (.if_icmp .ne 36, 3) := by decide +kernel
theorem dX5_layer_236 : decode cX5_layer 236 = .ok (.iload 6, 2) := by decide +kernel
theorem dX5_layer_238 : decode cX5_layer 238 = .ok (.ifCond .eq 31, 3) := by decide +kernel
theorem dX5_layer_241 : decode cX5_layer 241 = .ok (.iload_n 3, 1) := by decide +kernel
theorem dX5_layer_242 : decode cX5_layer 242 = .ok (.bipush 8, 2) := by decide +kernel
theorem dX5_layer_244 : decode cX5_layer 244 = .ok (.if_icmp .ne 25, 3) := by decide +kernel
theorem dX5_layer_247 : decode cX5_layer 247 = .ok (.aload_n 0, 1) := by decide +kernel
theorem dX5_layer_248 : decode cX5_layer 248 = .ok (.getfield 53, 3) := by decide +kernel
theorem dX5_layer_251 : decode cX5_layer 251 = .ok (.iload 5, 2) := by decide +kernel
theorem dX5_layer_253 : decode cX5_layer 253 = .ok (.iaload, 1) := by decide +kernel
theorem dX5_layer_254 : decode cX5_layer 254 = .ok (.iconst 3, 1) := by decide +kernel
theorem dX5_layer_255 : decode cX5_layer 255 = .ok (.if_icmp .lt 14, 3) := by decide +kernel
theorem dX5_layer_258 : decode cX5_layer 258 = .ok (.aload_n 0, 1) := by decide +kernel
theorem dX5_layer_259 : decode cX5_layer 259 = .ok (.getfield 47, 3) := by decide +kernel
theorem dX5_layer_262 : decode cX5_layer 262 = .ok (.iload 5, 2) := by decide +kernel
theorem dX5_layer_264 : decode cX5_layer 264 = .ok (.dup2, 1) := by decide +kernel
theorem dX5_layer_265 : decode cX5_layer 265 = .ok (.iaload, 1) := by decide +kernel
theorem dX5_layer_266 : decode cX5_layer 266 = .ok (.iconst 2, 1) := by decide +kernel
theorem dX5_layer_267 : decode cX5_layer 267 = .ok (.imul, 1) := by decide +kernel
theorem dX5_layer_268 : decode cX5_layer 268 = .ok (.iastore, 1) := by decide +kernel
theorem dX5_layer_269 : decode cX5_layer 269 = .ok (.iinc 5 1, 3) := by decide +kernel
theorem dX5_layer_272 : decode cX5_layer 272 = .ok (.goto (-217), 3) := by decide +kernel
theorem dX5_layer_275 : decode cX5_layer 275 = .ok (.return_, 1) := by decide +kernel
set_option maxRecDepth 20000 in
theorem ggX5_lays_X5_layer : GoodIn wsX5_lays wsX5_layer := goodIn_r _ [13, 5, 14, 2, 3, 1, 7, 4, 6, 8, 15, 16, 17, 12, 18, 19, 20, 21, 22, 23, 24, 25, 26, 27, 28, 29, 30, 31, 32, 33, 34, 35, 36, 37, 38, 39, 40, 41, 42, 43, 44, 45, 46] (by decide +kernel) (by decide +kernel)
set_option maxRecDepth 20000 in
theorem gX5_lays_X5_layer : GoodIn wsX5_lays (wsV RX5 76 RX5 yX5_layer wsX5_layer) := goodIn_app (goodIn_of _ (by decide +kernel)) ggX5_lays_X5_layer
theorem dX5_lays_0 : decode cX5_lays 0 = .ok (.iconst 0, 1) := by decide +kernel
theorem dX5_lays_1 : decode cX5_lays 1 = .ok (.istore_n 2, 1) := by decide +kernel
theorem dX5_lays_2 : decode cX5_lays 2 = .ok (.iload_n 2, 1) := by decide +kernel
theorem dX5_lays_3 : decode cX5_lays 3 = .ok (.aload_n 0, 1) := by decide +kernel
theorem dX5_lays_4 : decode cX5_lays 4 = .ok (.getfield 66, 3) := by decide +kernel
theorem dX5_lays_7 : decode cX5_lays 7 = .ok (.if_icmp .ge 89, 3) := by decide +kernel
theorem dX5_lays_10 : decode cX5_lays 10 = .ok (.aload_n 0, 1) := by decide +kernel
theorem dX5_lays_11 : decode cX5_lays 11 = .ok (.getfield 41, 3) := by decide +kernel
theorem dX5_lays_14 : decode cX5_lays 14 = .ok (.iload_n 2, 1) := by decide +kernel
theorem dX5_lays_15 : decode cX5_lays 15 = .ok (.aload_n 0, 1) := by decide +kernel
theorem dX5_lays_16 : decode cX5_lays 16 = .ok (.getfield 16, 3) := by decide +kernel
theorem dX5_lays_19 : decode cX5_lays 19 = .ok (.iload_n 2, 1) := by decide +kernel
theorem dX5_lays_20 : decode cX5_lays 20 = .ok (.iaload, 1) := by decide +kernel
theorem dX5_lays_21 : decode cX5_lays 21 = .ok (.iastore, 1) := by decide +kernel
theorem dX5_lays_22 : decode cX5_lays 22 = .ok (.aload_n 0, 1) := by decide +kernel
theorem dX5_lays_23 : decode cX5_lays 23 = .ok (.getfield 44, 3) := by decide +kernel
theorem dX5_lays_26 : decode cX5_lays 26 = .ok (.iload_n 2, 1) := by decide +kernel
theorem dX5_lays_27 : decode cX5_lays 27 = .ok (.aload_n 0, 1) := by decide +kernel
theorem dX5_lays_28 : decode cX5_lays 28 = .ok (.getfield 13, 3) := by decide +kernel
theorem dX5_lays_31 : decode cX5_lays 31 = .ok (.iload_n 2, 1) := by decide +kernel
theorem dX5_lays_32 : decode cX5_lays 32 = .ok (.iaload, 1) := by decide +kernel
theorem dX5_lays_33 : decode cX5_lays 33 = .ok (.ifCond .ne 7, 3) := by decide +kernel
theorem dX5_lays_36 : decode cX5_lays 36 = .ok (.iconst 1, 1) := by decide +kernel
theorem dX5_lays_37 : decode cX5_lays 37 = .ok (.goto 18, 3) := by decide +kernel
theorem dX5_lays_40 : decode cX5_lays 40 = .ok (.aload_n 0, 1) := by decide +kernel
theorem dX5_lays_41 : decode cX5_lays 41 = .ok (.getfield 13, 3) := by decide +kernel
theorem dX5_lays_44 : decode cX5_lays 44 = .ok (.iload_n 2, 1) := by decide +kernel
theorem dX5_lays_45 : decode cX5_lays 45 = .ok (.iaload, 1) := by decide +kernel
theorem dX5_lays_46 : decode cX5_lays 46 = .ok (.iconst 1, 1) := by decide +kernel
theorem dX5_lays_47 : decode cX5_lays 47 = .ok (.if_icmp .ne 7, 3) := by decide +kernel
theorem dX5_lays_50 : decode cX5_lays 50 = .ok (.iconst 2, 1) := by decide +kernel
theorem dX5_lays_51 : decode cX5_lays 51 = .ok (.goto 4, 3) := by decide +kernel
theorem dX5_lays_54 : decode cX5_lays 54 = .ok (.iconst 4, 1) := by decide +kernel
theorem dX5_lays_55 : decode cX5_lays 55 = .ok (.iastore, 1) := by decide +kernel
theorem dX5_lays_56 : decode cX5_lays 56 = .ok (.aload_n 0, 1) := by decide +kernel
theorem dX5_lays_57 : decode cX5_lays 57 = .ok (.getfield 47, 3) := by decide +kernel
theorem dX5_lays_60 : decode cX5_lays 60 = .ok (.iload_n 2, 1) := by decide +kernel
theorem dX5_lays_61 : decode cX5_lays 61 = .ok (.aload_n 0, 1) := by decide +kernel
theorem dX5_lays_62 : decode cX5_lays 62 = .ok (.getfield 13, 3) := by decide +kernel
theorem dX5_lays_65 : decode cX5_lays 65 = .ok (.iload_n 2, 1) := by decide +kernel
theorem dX5_lays_66 : decode cX5_lays 66 = .ok (.iaload, 1) := by decide +kernel
theorem dX5_lays_67 : decode cX5_lays 67 = .ok (.ifCond .ne 7, 3) := by decide +kernel
theorem dX5_lays_70 : decode cX5_lays 70 = .ok (.iconst 2, 1) := by decide +kernel
theorem dX5_lays_71 : decode cX5_lays 71 = .ok (.goto 18, 3) := by decide +kernel
theorem dX5_lays_74 : decode cX5_lays 74 = .ok (.aload_n 0, 1) := by decide +kernel
theorem dX5_lays_75 : decode cX5_lays 75 = .ok (.getfield 13, 3) := by decide +kernel
theorem dX5_lays_78 : decode cX5_lays 78 = .ok (.iload_n 2, 1) := by decide +kernel
theorem dX5_lays_79 : decode cX5_lays 79 = .ok (.iaload, 1) := by decide +kernel
theorem dX5_lays_80 : decode cX5_lays 80 = .ok (.iconst 1, 1) := by decide +kernel
theorem dX5_lays_81 : decode cX5_lays 81 = .ok (.if_icmp .ne 7, 3) := by decide +kernel
theorem dX5_lays_84 : decode cX5_lays 84 = .ok (.iconst 1, 1) := by decide +kernel
theorem dX5_lays_85 : decode cX5_lays 85 = .ok (.goto 4, 3) := by decide +kernel
theorem dX5_lays_88 : decode cX5_lays 88 = .ok (.iconst 0, 1) := by decide +kernel
theorem dX5_lays_89 : decode cX5_lays 89 = .ok (.iastore, 1) := by decide +kernel
theorem dX5_lays_90 : decode cX5_lays 90 = .ok (.iinc 2 1, 3) := by decide +kernel
theorem dX5_lays_93 : decode cX5_lays 93 = .ok (.goto (-91), 3) := by decide +kernel
theorem dX5_lays_96 : decode cX5_lays 96 = .ok (.iconst 1, 1) := by decide +kernel
theorem dX5_lays_97 : decode cX5_lays 97 = .ok (.istore_n 2, 1) := by decide +kernel
theorem dX5_lays_98 : decode cX5_lays 98 = .ok (.iload_n 2, 1) := by decide +kernel
theorem dX5_lays_99 : decode cX5_lays 99 = .ok (.iload_n 1, 1) := by decide +kernel
theorem dX5_lays_100 : decode cX5_lays 100 = .ok (.if_icmp .gt 71, 3) := by decide +kernel
