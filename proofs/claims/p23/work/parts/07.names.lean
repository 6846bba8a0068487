theorem dX4_targetPlace_15 : decode cX4_targetPlace 15 = .ok (.iconst (-1), 1) := by decide +kernel
theorem dX4_targetPlace_16 : decode cX4_targetPlace 16 = .ok (.ireturn, 1) := by decide +kernel
theorem dX4_targetPlace_17 : decode cX4_targetPlace 17 = .ok (.aload_n 0, 1) := by decide +kernel
theorem dX4_targetPlace_18 : decode cX4_targetPlace 18 = .ok (.getfield 23, 3) := by decide +kernel
theorem dX4_targetPlace_21 : decode cX4_targetPlace 21 = .ok (.getfield 182, 3) := by decide +kernel
theorem dX4_targetPlace_24 : decode cX4_targetPlace 24 = .ok (.iload_n 1, 1) := by decide +kernel
theorem dX4_targetPlace_25 : decode cX4_targetPlace 25 = .ok (.iaload, 1) := by decide +kernel
theorem dX4_targetPlace_26 : decode cX4_targetPlace 26 = .ok (.istore_n 2, 1) := by decide +kernel
theorem dX4_targetPlace_27 : decode cX4_targetPlace 27 = .ok (.aload_n 0, 1) := by decide +kernel
theorem dX4_targetPlace_28 : decode cX4_targetPlace 28 = .ok (.getfield 23, 3) := by decide +kernel
theorem dX4_targetPlace_31 : decode cX4_targetPlace 31 = .ok (.getfield 143, 3) := by decide +kernel
theorem dX4_targetPlace_34 : decode cX4_targetPlace 34 = .ok (.iload_n 1, 1) := by decide +kernel
theorem dX4_targetPlace_35 : decode cX4_targetPlace 35 = .ok (.iaload, 1) := by decide +kernel
theorem dX4_targetPlace_36 : decode cX4_targetPlace 36 = .ok (.bipush 13, 2) := by decide +kernel
theorem dX4_targetPlace_38 : decode cX4_targetPlace 38 = .ok (.if_icmp .ne 14, 3) := by decide +kernel
theorem dX4_targetPlace_41 : decode cX4_targetPlace 41 = .ok (.aload_n 0, 1) := by decide +kernel
theorem dX4_targetPlace_42 : decode cX4_targetPlace 42 = .ok (.getfield 23, 3) := by decide +kernel
theorem dX4_targetPlace_45 : decode cX4_targetPlace 45 = .ok (.iload_n 2, 1) := by decide +kernel
theorem dX4_targetPlace_46 : decode cX4_targetPlace 46 = .ok (.invokevirtual 185, 3) := by decide +kernel
theorem dX4_targetPlace_49 : decode cX4_targetPlace 49 = .ok (.goto 11, 3) := by decide +kernel
theorem dX4_targetPlace_52 : decode cX4_targetPlace 52 = .ok (.aload_n 0, 1) := by decide +kernel
theorem dX4_targetPlace_53 : decode cX4_targetPlace 53 = .ok (.getfield 16, 3) := by decide +kernel
theorem dX4_targetPlace_56 : decode cX4_targetPlace 56 = .ok (.iload_n 2, 1) := by decide +kernel
theorem dX4_targetPlace_57 : decode cX4_targetPlace 57 = .ok (.invokevirtual 188, 3) := by decide +kernel
theorem dX4_targetPlace_60 : decode cX4_targetPlace 60 = .ok (.ireturn, 1) := by decide +kernel
set_option maxRecDepth 20000 in
theorem ggX4_beginTurn_X4_nextPlayer : GoodIn wsX4_beginTurn wsX4_nextPlayer := goodIn_r _ [9] (by decide +kernel) (by decide +kernel)
set_option maxRecDepth 20000 in
theorem gX4_beginTurn_X4_nextPlayer : GoodIn wsX4_beginTurn (va_wsS RX4 86 yX4_nextPlayer wsX4_nextPlayer) := goodIn_app (goodIn_of _ (by decide +kernel)) ggX4_beginTurn_X4_nextPlayer
set_option maxRecDepth 20000 in
theorem ggX4_beginTurn_X1_forget : GoodIn wsX4_beginTurn wsX1_forget := goodIn_r _ [14, 15, 16, 93, 94, 95, 96, 97] (by decide +kernel) (by decide +kernel)
set_option maxRecDepth 20000 in
theorem gX4_beginTurn_X1_forget : GoodIn wsX4_beginTurn (wsV RX4 80 RX1 yX1_forget wsX1_forget) := goodIn_app (goodIn_of _ (by decide +kernel)) ggX4_beginTurn_X1_forget
set_option maxRecDepth 20000 in
theorem ggX4_beginTurn_X4_pay : GoodIn wsX4_beginTurn wsX4_pay := goodIn_r _ [20, 21, 82, 83, 84, 85, 86, 87, 88, 89, 90, 91, 92] (by decide +kernel) (by decide +kernel)
set_option maxRecDepth 20000 in
theorem gX4_beginTurn_X4_pay : GoodIn wsX4_beginTurn (wsV RX4 65 RX4 yX4_pay wsX4_pay) := goodIn_app (goodIn_of _ (by decide +kernel)) ggX4_beginTurn_X4_pay
set_option maxRecDepth 20000 in
theorem ggX4_beginTurn_X4_raiseTriggers : GoodIn wsX4_beginTurn wsX4_raiseTriggers := goodIn_r _ [25, 26, 27, 28, 1, 29, 30, 31, 32, 33, 34, 35, 36, 37, 38, 39, 40, 41, 42, 43, 44, 45, 46, 47, 48, 49, 8, 50, 51, 52, 53, 54, 55, 56, 57, 58, 59, 60, 61, 62, 63, 64, 65, 66, 67, 68, 69, 70, 71, 72, 73, 74, 75, 76, 77, 78, 79, 80, 81, 6, 7, 9, 82, 83, 84, 85, 86, 87, 88, 89, 90, 91, 92, 98, 99, 100, 101, 102, 103, 104, 105, 106, 107, 108, 109, 110, 111, 112, 113] (by decide +kernel) (by decide +kernel)
set_option maxRecDepth 20000 in
theorem gX4_beginTurn_X4_raiseTriggers : GoodIn wsX4_beginTurn (wsV RX4 189 RX4 yX4_raiseTriggers wsX4_raiseTriggers) := goodIn_app (goodIn_of _ (by decide +kernel)) ggX4_beginTurn_X4_raiseTriggers
theorem dX4_beginTurn_0 : decode cX4_beginTurn 0 = .ok (.aload_n 0, 1) := by decide +kernel
theorem dX4_beginTurn_1 : decode cX4_beginTurn 1 = .ok (.aload_n 0, 1) := by decide +kernel
theorem dX4_beginTurn_2 : decode cX4_beginTurn 2 = .ok (.getfield 103, 3) := by decide +kernel
theorem dX4_beginTurn_5 : decode cX4_beginTurn 5 = .ok (.invokestatic 86, 3) := by decide +kernel
theorem dX4_beginTurn_8 : decode cX4_beginTurn 8 = .ok (.putfield 103, 3) := by decide +kernel
theorem dX4_beginTurn_11 : decode cX4_beginTurn 11 = .ok (.aload_n 0, 1) := by decide +kernel
theorem dX4_beginTurn_12 : decode cX4_beginTurn 12 = .ok (.aload_n 0, 1) := by decide +kernel
theorem dX4_beginTurn_13 : decode cX4_beginTurn 13 = .ok (.getfield 103, 3) := by decide +kernel
theorem dX4_beginTurn_16 : decode cX4_beginTurn 16 = .ok (.putfield 57, 3) := by decide +kernel
theorem dX4_beginTurn_19 : decode cX4_beginTurn 19 = .ok (.aload_n 0, 1) := by decide +kernel
theorem dX4_beginTurn_20 : decode cX4_beginTurn 20 = .ok (.iconst 0, 1) := by decide +kernel
theorem dX4_beginTurn_21 : decode cX4_beginTurn 21 = .ok (.putfield 83, 3) := by decide +kernel
theorem dX4_beginTurn_24 : decode cX4_beginTurn 24 = .ok (.aload_n 0, 1) := by decide +kernel
theorem dX4_beginTurn_25 : decode cX4_beginTurn 25 = .ok (.dup, 1) := by decide +kernel
theorem dX4_beginTurn_26 : decode cX4_beginTurn 26 = .ok (.getfield 106, 3) := by decide +kernel
theorem dX4_beginTurn_29 : decode cX4_beginTurn 29 = .ok (.iconst 1, 1) := by decide +kernel
theorem dX4_beginTurn_30 : decode cX4_beginTurn 30 = .ok (.iadd, 1) := by decide +kernel
theorem dX4_beginTurn_31 : decode cX4_beginTurn 31 = .ok (.putfield 106, 3) := by decide +kernel
theorem dX4_beginTurn_34 : decode cX4_beginTurn 34 = .ok (.aload_n 0, 1) := by decide +kernel
theorem dX4_beginTurn_35 : decode cX4_beginTurn 35 = .ok (.getfield 37, 3) := by decide +kernel
theorem dX4_beginTurn_38 : decode cX4_beginTurn 38 = .ok (.invokevirtual 80, 3) := by decide +kernel
theorem dX4_beginTurn_41 : decode cX4_beginTurn 41 = .ok (.aload_n 0, 1) := by decide +kernel
theorem dX4_beginTurn_42 : decode cX4_beginTurn 42 = .ok (.aload_n 0, 1) := by decide +kernel
theorem dX4_beginTurn_43 : decode cX4_beginTurn 43 = .ok (.getfield 103, 3) := by decide +kernel
theorem dX4_beginTurn_46 : decode cX4_beginTurn 46 = .ok (.iconst 3, 1) := by decide +kernel
theorem dX4_beginTurn_47 : decode cX4_beginTurn 47 = .ok (.invokevirtual 65, 3) := by decide +kernel
theorem dX4_beginTurn_50 : decode cX4_beginTurn 50 = .ok (.aload_n 0, 1) := by decide +kernel
theorem dX4_beginTurn_51 : decode cX4_beginTurn 51 = .ok (.iconst 3, 1) := by decide +kernel
theorem dX4_beginTurn_52 : decode cX4_beginTurn 52 = .ok (.invokevirtual 189, 3) := by decide +kernel
theorem dX4_beginTurn_55 : decode cX4_beginTurn 55 = .ok (.return_, 1) := by decide +kernel
set_option maxRecDepth 20000 in
theorem ggX4_resolveTop_X0_remove : GoodIn wsX4_resolveTop wsX0_remove := goodIn_r _ [14, 15, 16, 17, 18, 19, 20, 202, 203, 204, 205, 206, 207] (by decide +kernel) (by decide +kernel)
set_option maxRecDepth 20000 in
theorem gX4_resolveTop_X0_remove : GoodIn wsX4_resolveTop (wsV RX4 193 RX0 yX0_remove wsX0_remove) := goodIn_app (goodIn_of _ (by decide +kernel)) ggX4_resolveTop_X0_remove
set_option maxRecDepth 20000 in
theorem ggX4_resolveTop_X4_triggerEffect : GoodIn wsX4_resolveTop wsX4_triggerEffect := goodIn_r _ [25, 26, 27, 28, 29, 24, 30, 31, 32, 33, 34, 35, 36, 37, 38, 39, 40, 41, 42, 43, 44, 45, 46, 47, 48, 49, 50, 51, 52, 53, 54, 55, 56, 57, 58, 59, 60, 61, 62, 63, 64, 65, 66, 191, 192, 193, 194, 195, 196, 197, 198, 199, 200, 201, 208, 209, 210, 211, 212] (by decide +kernel) (by decide +kernel)
set_option maxRecDepth 20000 in
theorem gX4_resolveTop_X4_triggerEffect : GoodIn wsX4_resolveTop (wsV RX4 196 RX4 yX4_triggerEffect wsX4_triggerEffect) := goodIn_app (goodIn_of _ (by decide +kernel)) ggX4_resolveTop_X4_triggerEffect
set_option maxRecDepth 20000 in
theorem ggX4_resolveTop_X4_cardEffect : GoodIn wsX4_resolveTop wsX4_cardEffect := goodIn_r _ [70, 26, 1, 71, 72, 24, 73, 32, 33, 34, 35, 36, 37, 38, 39, 40, 41, 42, 43, 44, 45, 46, 47, 48, 49, 50, 74, 75, 76, 77, 78, 79, 80, 81, 82, 83, 84, 64, 65, 66, 85, 86, 87, 88, 89, 90, 91, 92, 93, 94, 95, 96, 97, 98, 99, 100, 101, 102, 103, 104, 105, 106, 107, 108, 109, 110, 111, 112, 113, 114, 55, 56, 57, 58, 59, 60, 61, 62, 63, 115, 116, 117, 13, 118, 15, 20, 119, 120, 121, 122, 123, 124, 125, 126, 10, 11, 12, 14, 16, 17, 18, 19, 191, 192, 193, 194, 195, 196, 197, 198, 199, 200, 201, 208, 209, 210, 211, 212, 213, 214, 215, 216, 217, 202, 203, 204, 205, 206, 207] (by decide +kernel) (by decide +kernel)
set_option maxRecDepth 20000 in
theorem gX4_resolveTop_X4_cardEffect : GoodIn wsX4_resolveTop (wsV RX4 199 RX4 yX4_cardEffect wsX4_cardEffect) := goodIn_app (goodIn_of _ (by decide +kernel)) ggX4_resolveTop_X4_cardEffect
set_option maxRecDepth 20000 in
theorem ggX4_resolveTop_X4_raiseTriggers : GoodIn wsX4_resolveTop wsX4_raiseTriggers := goodIn_r _ [130, 82, 26, 131, 8, 132, 133, 1, 85, 86, 87, 88, 89, 90, 91, 92, 93, 94, 95, 96, 97, 98, 99, 100, 101, 102, 24, 103, 104, 105, 106, 107, 108, 109, 110, 111, 112, 113, 114, 134, 135, 136, 137, 36, 37, 38, 39, 40, 138, 139, 140, 13, 141, 15, 16, 17, 18, 19, 20, 142, 143, 144, 191, 192, 193, 194, 195, 196, 197, 198, 199, 200, 201, 208, 209, 210, 211, 212, 213, 214, 215, 216, 217, 202, 203, 204, 205, 206, 207] (by decide +kernel) (by decide +kernel)
set_option maxRecDepth 20000 in
theorem gX4_resolveTop_X4_raiseTriggers : GoodIn wsX4_resolveTop (wsV RX4 189 RX4 yX4_raiseTriggers wsX4_raiseTriggers) := goodIn_app (goodIn_of _ (by decide +kernel)) ggX4_resolveTop_X4_raiseTriggers
set_option maxRecDepth 20000 in
theorem ggX4_resolveTop_X4_breakLoop : GoodIn wsX4_resolveTop wsX4_breakLoop := goodIn_r _ [148, 149, 26, 131, 1, 2, 132, 150, 151, 3, 4, 5, 152, 153, 154, 155, 156, 157, 158, 159, 74, 75, 76, 44, 77, 46, 50, 160, 161, 162, 163, 164, 165, 166, 24, 167, 6, 115, 116, 117, 13, 118, 15, 20, 168, 169, 170, 171, 172, 173, 174, 175, 176, 177, 178, 179, 180, 181, 182, 183, 184, 185, 186, 187, 188, 189, 190, 191, 192, 193, 194, 195, 196, 197, 198, 199, 200, 201, 208, 209, 210, 211, 212, 202, 203, 204, 205, 206, 207, 218, 219, 220, 221, 222] (by decide +kernel) (by decide +kernel)
set_option maxRecDepth 20000 in
theorem gX4_resolveTop_X4_breakLoop : GoodIn wsX4_resolveTop (wsV RX4 203 RX4 yX4_breakLoop wsX4_breakLoop) := goodIn_app (goodIn_of _ (by decide +kernel)) ggX4_resolveTop_X4_breakLoop
theorem dX4_resolveTop_0 : decode cX4_resolveTop 0 = .ok (.aload_n 0, 1) := by decide +kernel
theorem dX4_resolveTop_1 : decode cX4_resolveTop 1 = .ok (.getfield 23, 3) := by decide +kernel
theorem dX4_resolveTop_4 : decode cX4_resolveTop 4 = .ok (.getfield 89, 3) := by decide +kernel
theorem dX4_resolveTop_7 : decode cX4_resolveTop 7 = .ok (.iconst 1, 1) := by decide +kernel
theorem dX4_resolveTop_8 : decode cX4_resolveTop 8 = .ok (.isub, 1) := by decide +kernel
theorem dX4_resolveTop_9 : decode cX4_resolveTop 9 = .ok (.istore_n 1, 1) := by decide +kernel
theorem dX4_resolveTop_10 : decode cX4_resolveTop 10 = .ok (.iload_n 1, 1) := by decide +kernel
theorem dX4_resolveTop_11 : decode cX4_resolveTop 11 = .ok (.ifCond .ge 4, 3) := by decide +kernel
theorem dX4_resolveTop_14 : decode cX4_resolveTop 14 = .ok (.return_, 1) := by decide +kernel
theorem dX4_resolveTop_15 : decode cX4_resolveTop 15 = .ok (.aload_n 0, 1) := by decide +kernel
theorem dX4_resolveTop_16 : decode cX4_resolveTop 16 = .ok (.getfield 23, 3) := by decide +kernel
theorem dX4_resolveTop_19 : decode cX4_resolveTop 19 = .ok (.getfield 143, 3) := by decide +kernel
theorem dX4_resolveTop_22 : decode cX4_resolveTop 22 = .ok (.iload_n 1, 1) := by decide +kernel
theorem dX4_resolveTop_23 : decode cX4_resolveTop 23 = .ok (.iaload, 1) := by decide +kernel
theorem dX4_resolveTop_24 : decode cX4_resolveTop 24 = .ok (.istore_n 2, 1) := by decide +kernel
theorem dX4_resolveTop_25 : decode cX4_resolveTop 25 = .ok (.aload_n 0, 1) := by decide +kernel
theorem dX4_resolveTop_26 : decode cX4_resolveTop 26 = .ok (.getfield 23, 3) := by decide +kernel
theorem dX4_resolveTop_29 : decode cX4_resolveTop 29 = .ok (.getfield 147, 3) := by decide +kernel
theorem dX4_resolveTop_32 : decode cX4_resolveTop 32 = .ok (.iload_n 1, 1) := by decide +kernel
theorem dX4_resolveTop_33 : decode cX4_resolveTop 33 = .ok (.baload, 1) := by decide +kernel
theorem dX4_resolveTop_34 : decode cX4_resolveTop 34 = .ok (.istore_n 3, 1) := by decide +kernel
theorem dX4_resolveTop_35 : decode cX4_resolveTop 35 = .ok (.aload_n 0, 1) := by decide +kernel
theorem dX4_resolveTop_36 : decode cX4_resolveTop 36 = .ok (.getfield 23, 3) := by decide +kernel
theorem dX4_resolveTop_39 : decode cX4_resolveTop 39 = .ok (.getfield 151, 3) := by decide +kernel
theorem dX4_resolveTop_42 : decode cX4_resolveTop 42 = .ok (.iload_n 1, 1) := by decide +kernel
theorem dX4_resolveTop_43 : decode cX4_resolveTop 43 = .ok (.iaload, 1) := by decide +kernel
theorem dX4_resolveTop_44 : decode cX4_resolveTop 44 = .ok (.istore 4, 2) := by decide +kernel
theorem dX4_resolveTop_46 : decode cX4_resolveTop 46 = .ok (.aload_n 0, 1) := by decide +kernel
theorem dX4_resolveTop_47 : decode cX4_resolveTop 47 = .ok (.getfield 23, 3) := by decide +kernel
theorem dX4_resolveTop_50 : decode cX4_resolveTop 50 = .ok (.getfield 182, 3) := by decide +kernel
theorem dX4_resolveTop_53 : decode cX4_resolveTop 53 = .ok (.iload_n 1, 1) := by decide +kernel
theorem dX4_resolveTop_54 : decode cX4_resolveTop 54 = .ok (.iaload, 1) := by decide +kernel
theorem dX4_resolveTop_55 : decode cX4_resolveTop 55 = .ok (.istore 5, 2) := by decide +kernel
theorem dX4_resolveTop_57 : decode cX4_resolveTop 57 = .ok (.aload_n 0, 1) := by decide +kernel
theorem dX4_resolveTop_58 : decode cX4_resolveTop 58 = .ok (.getfield 23, 3) := by decide +kernel
theorem dX4_resolveTop_61 : decode cX4_resolveTop 61 = .ok (.iload_n 1, 1) := by decide +kernel
theorem dX4_resolveTop_62 : decode cX4_resolveTop 62 = .ok (.invokevirtual 193, 3) := by decide +kernel
theorem dX4_resolveTop_65 : decode cX4_resolveTop 65 = .ok (.aload_n 0, 1) := by decide +kernel
theorem dX4_resolveTop_66 : decode cX4_resolveTop 66 = .ok (.iload_n 3, 1) := by decide +kernel
theorem dX4_resolveTop_67 : decode cX4_resolveTop 67 = .ok (.ifCond .eq 13, 3) := by decide +kernel
theorem dX4_resolveTop_70 : decode cX4_resolveTop 70 = .ok (.aload_n 0, 1) := by decide +kernel
theorem dX4_resolveTop_71 : decode cX4_resolveTop 71 = .ok (.iload_n 2, 1) := by decide +kernel
theorem dX4_resolveTop_72 : decode cX4_resolveTop 72 = .ok (.iload 4, 2) := by decide +kernel
theorem dX4_resolveTop_74 : decode cX4_resolveTop 74 = .ok (.invokevirtual 196, 3) := by decide +kernel
theorem dX4_resolveTop_77 : decode cX4_resolveTop 77 = .ok (.goto 12, 3) := by decide +kernel
theorem dX4_resolveTop_80 : decode cX4_resolveTop 80 = .ok (.aload_n 0, 1) := by decide +kernel
theorem dX4_resolveTop_81 : decode cX4_resolveTop 81 = .ok (.iload_n 2, 1) := by decide +kernel
theorem dX4_resolveTop_82 : decode cX4_resolveTop 82 = .ok (.iload 4, 2) := by decide +kernel
theorem dX4_resolveTop_84 : decode cX4_resolveTop 84 = .ok (.iload 5, 2) := by decide +kernel
theorem dX4_resolveTop_86 : decode cX4_resolveTop 86 = .ok (.invokevirtual 199, 3) := by decide +kernel
theorem dX4_resolveTop_89 : decode cX4_resolveTop 89 = .ok (.invokevirtual 189, 3) := by decide +kernel
theorem dX4_resolveTop_92 : decode cX4_resolveTop 92 = .ok (.aload_n 0, 1) := by decide +kernel
theorem dX4_resolveTop_93 : decode cX4_resolveTop 93 = .ok (.invokevirtual 203, 3) := by decide +kernel
theorem dX4_resolveTop_96 : decode cX4_resolveTop 96 = .ok (.aload_n 0, 1) := by decide +kernel
theorem dX4_resolveTop_97 : decode cX4_resolveTop 97 = .ok (.iconst 0, 1) := by decide +kernel
theorem dX4_resolveTop_98 : decode cX4_resolveTop 98 = .ok (.putfield 83, 3) := by decide +kernel
theorem dX4_resolveTop_101 : decode cX4_resolveTop 101 = .ok (.aload_n 0, 1) := by decide +kernel
theorem dX4_resolveTop_102 : decode cX4_resolveTop 102 = .ok (.aload_n 0, 1) := by decide +kernel
theorem dX4_resolveTop_103 : decode cX4_resolveTop 103 = .ok (.getfield 103, 3) := by decide +kernel
theorem dX4_resolveTop_106 : decode cX4_resolveTop 106 = .ok (.putfield 57, 3) := by decide +kernel
theorem dX4_resolveTop_109 : decode cX4_resolveTop 109 = .ok (.return_, 1) := by decide +kernel
set_option maxRecDepth 20000 in
theorem ggX4_cardEffect_X4_isThing : GoodIn wsX4_cardEffect wsX4_isThing := goodIn_r _ [6] (by decide +kernel) (by decide +kernel)
set_option maxRecDepth 20000 in
theorem gX4_cardEffect_X4_isThing : GoodIn wsX4_cardEffect (va_wsS RX4 168 yX4_isThing wsX4_isThing) := goodIn_app (goodIn_of _ (by decide +kernel)) ggX4_cardEffect_X4_isThing
set_option maxRecDepth 20000 in
theorem ggX4_cardEffect_X4_enter : GoodIn wsX4_cardEffect wsX4_enter := goodIn_r _ [10, 1, 11, 12, 13, 5, 14, 15, 16, 17, 18, 19, 20, 21, 22, 23, 24, 25, 102, 103, 104, 105, 106, 107, 108, 109, 110, 111, 112, 113, 114, 115, 116, 117] (by decide +kernel) (by decide +kernel)
set_option maxRecDepth 20000 in
theorem gX4_cardEffect_X4_enter : GoodIn wsX4_cardEffect (wsV RX4 206 RX4 yX4_enter wsX4_enter) := goodIn_app (goodIn_of _ (by decide +kernel)) ggX4_cardEffect_X4_enter
set_option maxRecDepth 20000 in
theorem ggX4_cardEffect_X2_placeOf : GoodIn wsX4_cardEffect wsX2_placeOf := goodIn_r _ [29, 21, 25, 113, 114, 115, 116, 117] (by decide +kernel) (by decide +kernel)
set_option maxRecDepth 20000 in
theorem gX4_cardEffect_X2_placeOf : GoodIn wsX4_cardEffect (wsV RX4 188 RX2 yX2_placeOf wsX2_placeOf) := goodIn_app (goodIn_of _ (by decide +kernel)) ggX4_cardEffect_X2_placeOf
set_option maxRecDepth 20000 in
theorem ggX4_cardEffect_X4_strike : GoodIn wsX4_cardEffect wsX4_strike := goodIn_r _ [33, 1, 34, 35, 36, 37, 38, 19, 39, 21, 40, 41, 42, 43, 44, 45, 46, 47, 48, 49, 50, 51, 52, 53, 54, 55, 56, 57, 5, 58, 59, 60, 61, 62, 63, 64, 65, 66, 67, 68, 69, 70, 71, 72, 73, 74, 75, 76, 77, 22, 23, 24, 25, 78, 102, 103, 104, 105, 106, 107, 108, 109, 110, 111, 112, 118, 119, 120, 121, 122, 113, 114, 115, 116, 117] (by decide +kernel) (by decide +kernel)
set_option maxRecDepth 20000 in
theorem gX4_cardEffect_X4_strike : GoodIn wsX4_cardEffect (wsV RX4 209 RX4 yX4_strike wsX4_strike) := goodIn_app (goodIn_of _ (by decide +kernel)) ggX4_cardEffect_X4_strike
set_option maxRecDepth 20000 in
theorem ggX4_cardEffect_X0_placeOf : GoodIn wsX4_cardEffect wsX0_placeOf := goodIn_r _ [83, 84, 85, 123, 124, 125, 126, 127, 128] (by decide +kernel) (by decide +kernel)
set_option maxRecDepth 20000 in
theorem gX4_cardEffect_X0_placeOf : GoodIn wsX4_cardEffect (wsV RX4 185 RX0 yX0_placeOf wsX0_placeOf) := goodIn_app (goodIn_of _ (by decide +kernel)) ggX4_cardEffect_X0_placeOf
set_option maxRecDepth 20000 in
theorem ggX4_cardEffect_X0_indexOf : GoodIn wsX4_cardEffect wsX0_indexOf := goodIn_r _ [89, 84, 90, 91, 92, 82, 93, 123, 124, 125, 126, 127, 128] (by decide +kernel) (by decide +kernel)
set_option maxRecDepth 20000 in
theorem gX4_cardEffect_X0_indexOf : GoodIn wsX4_cardEffect (wsV RX4 144 RX0 yX0_indexOf wsX0_indexOf) := goodIn_app (goodIn_of _ (by decide +kernel)) ggX4_cardEffect_X0_indexOf
set_option maxRecDepth 20000 in
theorem ggX4_cardEffect_X0_remove : GoodIn wsX4_cardEffect wsX0_remove := goodIn_r _ [97, 84, 98, 99, 100, 101, 85, 123, 124, 125, 126, 127, 128] (by decide +kernel) (by decide +kernel)
set_option maxRecDepth 20000 in
theorem gX4_cardEffect_X0_remove : GoodIn wsX4_cardEffect (wsV RX4 193 RX0 yX0_remove wsX0_remove) := goodIn_app (goodIn_of _ (by decide +kernel)) ggX4_cardEffect_X0_remove
theorem dX4_cardEffect_0 : decode cX4_cardEffect 0 = .ok (.iload_n 1, 1) := by decide +kernel
theorem dX4_cardEffect_1 : decode cX4_cardEffect 1 = .ok (.invokestatic 168, 3) := by decide +kernel
theorem dX4_cardEffect_4 : decode cX4_cardEffect 4 = .ok (.ifCond .eq 11, 3) := by decide +kernel
theorem dX4_cardEffect_7 : decode cX4_cardEffect 7 = .ok (.aload_n 0, 1) := by decide +kernel
theorem dX4_cardEffect_8 : decode cX4_cardEffect 8 = .ok (.iload_n 1, 1) := by decide +kernel
theorem dX4_cardEffect_9 : decode cX4_cardEffect 9 = .ok (.iload_n 2, 1) := by decide +kernel
theorem dX4_cardEffect_10 : decode cX4_cardEffect 10 = .ok (.iload_n 3, 1) := by decide +kernel
theorem dX4_cardEffect_11 : decode cX4_cardEffect 11 = .ok (.invokevirtual 206, 3) := by decide +kernel
theorem dX4_cardEffect_14 : decode cX4_cardEffect 14 = .ok (.ireturn, 1) := by decide +kernel
theorem dX4_cardEffect_15 : decode cX4_cardEffect 15 = .ok (.iload_n 1, 1) := by decide +kernel
theorem dX4_cardEffect_16 : decode cX4_cardEffect 16 = .ok (.bipush 12, 2) := by decide +kernel
theorem dX4_cardEffect_18 : decode cX4_cardEffect 18 = .ok (.if_icmp .ne 16, 3) := by decide +kernel
theorem dX4_cardEffect_21 : decode cX4_cardEffect 21 = .ok (.aload_n 0, 1) := by decide +kernel
theorem dX4_cardEffect_22 : decode cX4_cardEffect 22 = .ok (.aload_n 0, 1) := by decide +kernel
theorem dX4_cardEffect_23 : decode cX4_cardEffect 23 = .ok (.getfield 16, 3) := by decide +kernel
theorem dX4_cardEffect_26 : decode cX4_cardEffect 26 = .ok (.iload_n 3, 1) := by decide +kernel
theorem dX4_cardEffect_27 : decode cX4_cardEffect 27 = .ok (.invokevirtual 188, 3) := by decide +kernel
theorem dX4_cardEffect_30 : decode cX4_cardEffect 30 = .ok (.invokevirtual 209, 3) := by decide +kernel
theorem dX4_cardEffect_33 : decode cX4_cardEffect 33 = .ok (.ireturn, 1) := by decide +kernel
theorem dX4_cardEffect_34 : decode cX4_cardEffect 34 = .ok (.aload_n 0, 1) := by decide +kernel
theorem dX4_cardEffect_35 : decode cX4_cardEffect 35 = .ok (.getfield 23, 3) := by decide +kernel
theorem dX4_cardEffect_38 : decode cX4_cardEffect 38 = .ok (.aload_n 0, 1) := by decide +kernel
theorem dX4_cardEffect_39 : decode cX4_cardEffect 39 = .ok (.getfield 23, 3) := by decide +kernel
theorem dX4_cardEffect_42 : decode cX4_cardEffect 42 = .ok (.aload_n 0, 1) := by decide +kernel
theorem dX4_cardEffect_43 : decode cX4_cardEffect 43 = .ok (.getfield 23, 3) := by decide +kernel
theorem dX4_cardEffect_46 : decode cX4_cardEffect 46 = .ok (.iload_n 3, 1) := by decide +kernel
theorem dX4_cardEffect_47 : decode cX4_cardEffect 47 = .ok (.invokevirtual 185, 3) := by decide +kernel
theorem dX4_cardEffect_50 : decode cX4_cardEffect 50 = .ok (.invokevirtual 144, 3) := by decide +kernel
theorem dX4_cardEffect_53 : decode cX4_cardEffect 53 = .ok (.invokevirtual 193, 3) := by decide +kernel
theorem dX4_cardEffect_56 : decode cX4_cardEffect 56 = .ok (.iconst 0, 1) := by decide +kernel
theorem dX4_cardEffect_57 : decode cX4_cardEffect 57 = .ok (.ireturn, 1) := by decide +kernel
set_option maxRecDepth 20000 in
theorem ggX4_triggerEffect_X4_pay : GoodIn wsX4_triggerEffect wsX4_pay := goodIn_r _ [6, 7, 43, 44, 45, 46, 47, 48, 49, 50, 51, 52, 53] (by decide +kernel) (by decide +kernel)
set_option maxRecDepth 20000 in
theorem gX4_triggerEffect_X4_pay : GoodIn wsX4_triggerEffect (wsV RX4 65 RX4 yX4_pay wsX4_pay) := goodIn_app (goodIn_of _ (by decide +kernel)) ggX4_triggerEffect_X4_pay
set_option maxRecDepth 20000 in
theorem ggX4_triggerEffect_X4_enter : GoodIn wsX4_triggerEffect wsX4_enter := goodIn_r _ [11, 1, 12, 13, 14, 5, 15, 16, 17, 18, 19, 20, 21, 22, 23, 24, 25, 26, 43, 44, 45, 46, 47, 48, 49, 50, 51, 52, 53, 54, 55, 56, 57, 58] (by decide +kernel) (by decide +kernel)
set_option maxRecDepth 20000 in
theorem gX4_triggerEffect_X4_enter : GoodIn wsX4_triggerEffect (wsV RX4 206 RX4 yX4_enter wsX4_enter) := goodIn_app (goodIn_of _ (by decide +kernel)) ggX4_triggerEffect_X4_enter
set_option maxRecDepth 20000 in
theorem ggX4_triggerEffect_X2_firstOf : GoodIn wsX4_triggerEffect wsX2_firstOf := goodIn_r _ [30, 22, 23, 54, 55, 56, 57, 58] (by decide +kernel) (by decide +kernel)
set_option maxRecDepth 20000 in
theorem gX4_triggerEffect_X2_firstOf : GoodIn wsX4_triggerEffect (wsV RX4 212 RX2 yX2_firstOf wsX2_firstOf) := goodIn_app (goodIn_of _ (by decide +kernel)) ggX4_triggerEffect_X2_firstOf
set_option maxRecDepth 20000 in
theorem ggX4_triggerEffect_X4_leave : GoodIn wsX4_triggerEffect wsX4_leave := goodIn_r _ [34, 1, 35, 36, 37, 20, 38, 22, 23, 24, 25, 26, 39, 40, 41, 42, 43, 44, 45, 46, 47, 48, 49, 50, 51, 52, 53, 54, 55, 56, 57, 58] (by decide +kernel) (by decide +kernel)
set_option maxRecDepth 20000 in
theorem gX4_triggerEffect_X4_leave : GoodIn wsX4_triggerEffect (wsV RX4 215 RX4 yX4_leave wsX4_leave) := goodIn_app (goodIn_of _ (by decide +kernel)) ggX4_triggerEffect_X4_leave
theorem dX4_triggerEffect_0 : decode cX4_triggerEffect 0 = .ok (.iload_n 1, 1) := by decide +kernel
theorem dX4_triggerEffect_1 : decode cX4_triggerEffect 1 = .ok (.lookupswitch 80 #[(1, 43), (9, 51), (10, 59), (11, 67)], 43) := by decide +kernel
theorem dX4_triggerEffect_44 : decode cX4_triggerEffect 44 = .ok (.aload_n 0, 1) := by decide +kernel
theorem dX4_triggerEffect_45 : decode cX4_triggerEffect 45 = .ok (.iload_n 2, 1) := by decide +kernel
theorem dX4_triggerEffect_46 : decode cX4_triggerEffect 46 = .ok (.iconst 2, 1) := by decide +kernel
theorem dX4_triggerEffect_47 : decode cX4_triggerEffect 47 = .ok (.invokevirtual 65, 3) := by decide +kernel
theorem dX4_triggerEffect_50 : decode cX4_triggerEffect 50 = .ok (.iconst 0, 1) := by decide +kernel
theorem dX4_triggerEffect_51 : decode cX4_triggerEffect 51 = .ok (.ireturn, 1) := by decide +kernel
theorem dX4_triggerEffect_52 : decode cX4_triggerEffect 52 = .ok (.aload_n 0, 1) := by decide +kernel
theorem dX4_triggerEffect_53 : decode cX4_triggerEffect 53 = .ok (.iload_n 2, 1) := by decide +kernel
theorem dX4_triggerEffect_54 : decode cX4_triggerEffect 54 = .ok (.iconst 1, 1) := by decide +kernel
theorem dX4_triggerEffect_55 : decode cX4_triggerEffect 55 = .ok (.invokevirtual 65, 3) := by decide +kernel
theorem dX4_triggerEffect_58 : decode cX4_triggerEffect 58 = .ok (.iconst 0, 1) := by decide +kernel
theorem dX4_triggerEffect_59 : decode cX4_triggerEffect 59 = .ok (.ireturn, 1) := by decide +kernel
theorem dX4_triggerEffect_60 : decode cX4_triggerEffect 60 = .ok (.aload_n 0, 1) := by decide +kernel
theorem dX4_triggerEffect_61 : decode cX4_triggerEffect 61 = .ok (.iconst 0, 1) := by decide +kernel
theorem dX4_triggerEffect_62 : decode cX4_triggerEffect 62 = .ok (.iload_n 2, 1) := by decide +kernel
theorem dX4_triggerEffect_63 : decode cX4_triggerEffect 63 = .ok (.iconst (-1), 1) := by decide +kernel
theorem dX4_triggerEffect_64 : decode cX4_triggerEffect 64 = .ok (.invokevirtual 206, 3) := by decide +kernel
theorem dX4_triggerEffect_67 : decode cX4_triggerEffect 67 = .ok (.ireturn, 1) := by decide +kernel
theorem dX4_triggerEffect_68 : decode cX4_triggerEffect 68 = .ok (.aload_n 0, 1) := by decide +kernel
theorem dX4_triggerEffect_69 : decode cX4_triggerEffect 69 = .ok (.aload_n 0, 1) := by decide +kernel
theorem dX4_triggerEffect_70 : decode cX4_triggerEffect 70 = .ok (.getfield 16, 3) := by decide +kernel
theorem dX4_triggerEffect_73 : decode cX4_triggerEffect 73 = .ok (.iconst 0, 1) := by decide +kernel
theorem dX4_triggerEffect_74 : decode cX4_triggerEffect 74 = .ok (.invokevirtual 212, 3) := by decide +kernel
theorem dX4_triggerEffect_77 : decode cX4_triggerEffect 77 = .ok (.invokevirtual 215, 3) := by decide +kernel
theorem dX4_triggerEffect_80 : decode cX4_triggerEffect 80 = .ok (.ireturn, 1) := by decide +kernel
theorem dX4_triggerEffect_81 : decode cX4_triggerEffect 81 = .ok (.iconst 0, 1) := by decide +kernel
theorem dX4_triggerEffect_82 : decode cX4_triggerEffect 82 = .ok (.ireturn, 1) := by decide +kernel
set_option maxRecDepth 20000 in
theorem ggX4_strike_X2_has : GoodIn wsX4_strike wsX2_has := goodIn_r _ [8, 9, 70, 71, 72, 73, 74] (by decide +kernel) (by decide +kernel)
set_option maxRecDepth 20000 in
theorem gX4_strike_X2_has : GoodIn wsX4_strike (wsV RX4 115 RX2 yX2_has wsX2_has) := goodIn_app (goodIn_of _ (by decide +kernel)) ggX4_strike_X2_has
set_option maxRecDepth 20000 in
theorem ggX4_strike_X3_find : GoodIn wsX4_strike wsX3_find := goodIn_r _ [14, 15, 16, 17, 18, 19, 20, 21, 22, 23, 13, 24, 25, 26, 27, 28, 29, 30, 31, 32, 33, 34, 35, 36, 37, 38, 39, 40, 70, 71, 72, 73, 74, 65, 66, 67, 68, 69] (by decide +kernel) (by decide +kernel)
set_option maxRecDepth 20000 in
theorem gX4_strike_X3_find : GoodIn wsX4_strike (wsV RX4 127 RX3 yX3_find wsX3_find) := goodIn_app (goodIn_of _ (by decide +kernel)) ggX4_strike_X3_find
set_option maxRecDepth 20000 in
theorem ggX4_strike_X4_leave : GoodIn wsX4_strike wsX4_leave := goodIn_r _ [44, 1, 45, 46, 47, 7, 48, 9, 49, 50, 51, 52, 53, 5, 6, 8, 54, 55, 56, 57, 58, 59, 60, 61, 62, 63, 64, 70, 71, 72, 73, 74] (by decide +kernel) (by decide +kernel)
set_option maxRecDepth 20000 in
theorem gX4_strike_X4_leave : GoodIn wsX4_strike (wsV RX4 215 RX4 yX4_leave wsX4_leave) := goodIn_app (goodIn_of _ (by decide +kernel)) ggX4_strike_X4_leave
theorem dX4_strike_0 : decode cX4_strike 0 = .ok (.aload_n 0, 1) := by decide +kernel
theorem dX4_strike_1 : decode cX4_strike 1 = .ok (.getfield 16, 3) := by decide +kernel
theorem dX4_strike_4 : decode cX4_strike 4 = .ok (.iload_n 1, 1) := by decide +kernel
theorem dX4_strike_5 : decode cX4_strike 5 = .ok (.invokevirtual 115, 3) := by decide +kernel
theorem dX4_strike_8 : decode cX4_strike 8 = .ok (.ifCond .ne 5, 3) := by decide +kernel
theorem dX4_strike_11 : decode cX4_strike 11 = .ok (.iconst 0, 1) := by decide +kernel
theorem dX4_strike_12 : decode cX4_strike 12 = .ok (.ireturn, 1) := by decide +kernel
theorem dX4_strike_13 : decode cX4_strike 13 = .ok (.aload_n 0, 1) := by decide +kernel
theorem dX4_strike_14 : decode cX4_strike 14 = .ok (.getfield 30, 3) := by decide +kernel
theorem dX4_strike_17 : decode cX4_strike 17 = .ok (.aload_n 0, 1) := by decide +kernel
theorem dX4_strike_18 : decode cX4_strike 18 = .ok (.getfield 16, 3) := by decide +kernel
theorem dX4_strike_21 : decode cX4_strike 21 = .ok (.iconst 5, 1) := by decide +kernel
theorem dX4_strike_22 : decode cX4_strike 22 = .ok (.invokevirtual 127, 3) := by decide +kernel
theorem dX4_strike_25 : decode cX4_strike 25 = .ok (.aload_n 0, 1) := by decide +kernel
theorem dX4_strike_26 : decode cX4_strike 26 = .ok (.getfield 30, 3) := by decide +kernel
theorem dX4_strike_29 : decode cX4_strike 29 = .ok (.getfield 137, 3) := by decide +kernel
theorem dX4_strike_32 : decode cX4_strike 32 = .ok (.iload_n 1, 1) := by decide +kernel
theorem dX4_strike_33 : decode cX4_strike 33 = .ok (.iaload, 1) := by decide +kernel
theorem dX4_strike_34 : decode cX4_strike 34 = .ok (.iconst 4, 1) := by decide +kernel
theorem dX4_strike_35 : decode cX4_strike 35 = .ok (.if_icmp .gt 11, 3) := by decide +kernel
theorem dX4_strike_38 : decode cX4_strike 38 = .ok (.aload_n 0, 1) := by decide +kernel
theorem dX4_strike_39 : decode cX4_strike 39 = .ok (.iload_n 1, 1) := by decide +kernel
theorem dX4_strike_40 : decode cX4_strike 40 = .ok (.invokevirtual 215, 3) := by decide +kernel
theorem dX4_strike_43 : decode cX4_strike 43 = .ok (.goto 4, 3) := by decide +kernel
theorem dX4_strike_46 : decode cX4_strike 46 = .ok (.iconst 0, 1) := by decide +kernel
theorem dX4_strike_47 : decode cX4_strike 47 = .ok (.ireturn, 1) := by decide +kernel
set_option maxRecDepth 20000 in
theorem ggX4_enter_X4_newId : GoodIn wsX4_enter wsX4_newId := goodIn_r _ [6, 7, 18, 19, 20, 21, 22, 23, 24, 25, 26, 27, 28] (by decide +kernel) (by decide +kernel)
set_option maxRecDepth 20000 in
theorem gX4_enter_X4_newId : GoodIn wsX4_enter (wsV RX4 72 RX4 yX4_newId wsX4_newId) := goodIn_app (goodIn_of _ (by decide +kernel)) ggX4_enter_X4_newId
set_option maxRecDepth 20000 in
theorem ggX4_enter_X2_add : GoodIn wsX4_enter wsX2_add := goodIn_r _ [12, 13, 14, 15, 16, 17, 29, 30, 31, 32, 33] (by decide +kernel) (by decide +kernel)
set_option maxRecDepth 20000 in
theorem gX4_enter_X2_add : GoodIn wsX4_enter (wsV RX4 218 RX2 yX2_add wsX2_add) := goodIn_app (goodIn_of _ (by decide +kernel)) ggX4_enter_X2_add
theorem dX4_enter_0 : decode cX4_enter 0 = .ok (.aload_n 0, 1) := by decide +kernel
theorem dX4_enter_1 : decode cX4_enter 1 = .ok (.getfield 16, 3) := by decide +kernel
theorem dX4_enter_4 : decode cX4_enter 4 = .ok (.iload_n 1, 1) := by decide +kernel
theorem dX4_enter_5 : decode cX4_enter 5 = .ok (.iload_n 2, 1) := by decide +kernel
theorem dX4_enter_6 : decode cX4_enter 6 = .ok (.iload_n 3, 1) := by decide +kernel
theorem dX4_enter_7 : decode cX4_enter 7 = .ok (.aload_n 0, 1) := by decide +kernel
theorem dX4_enter_8 : decode cX4_enter 8 = .ok (.invokevirtual 72, 3) := by decide +kernel
theorem dX4_enter_11 : decode cX4_enter 11 = .ok (.invokevirtual 218, 3) := by decide +kernel
theorem dX4_enter_14 : decode cX4_enter 14 = .ok (.ifCond .eq 7, 3) := by decide +kernel
theorem dX4_enter_17 : decode cX4_enter 17 = .ok (.iconst 1, 1) := by decide +kernel
theorem dX4_enter_18 : decode cX4_enter 18 = .ok (.goto 4, 3) := by decide +kernel
theorem dX4_enter_21 : decode cX4_enter 21 = .ok (.iconst 0, 1) := by decide +kernel
theorem dX4_enter_22 : decode cX4_enter 22 = .ok (.ireturn, 1) := by decide +kernel
set_option maxRecDepth 20000 in
theorem ggX4_leave_X2_remove : GoodIn wsX4_leave wsX2_remove := goodIn_r _ [6, 7, 8, 9, 10, 11, 12, 13, 14, 5, 15, 27, 28, 29, 30, 31] (by decide +kernel) (by decide +kernel)
set_option maxRecDepth 20000 in
theorem gX4_leave_X2_remove : GoodIn wsX4_leave (wsV RX4 222 RX2 yX2_remove wsX2_remove) := goodIn_app (goodIn_of _ (by decide +kernel)) ggX4_leave_X2_remove
theorem dX4_leave_0 : decode cX4_leave 0 = .ok (.aload_n 0, 1) := by decide +kernel
theorem dX4_leave_1 : decode cX4_leave 1 = .ok (.getfield 16, 3) := by decide +kernel
theorem dX4_leave_4 : decode cX4_leave 4 = .ok (.iload_n 1, 1) := by decide +kernel
theorem dX4_leave_5 : decode cX4_leave 5 = .ok (.invokevirtual 222, 3) := by decide +kernel
theorem dX4_leave_8 : decode cX4_leave 8 = .ok (.ifCond .eq 7, 3) := by decide +kernel
theorem dX4_leave_11 : decode cX4_leave 11 = .ok (.iconst 2, 1) := by decide +kernel
theorem dX4_leave_12 : decode cX4_leave 12 = .ok (.goto 4, 3) := by decide +kernel
theorem dX4_leave_15 : decode cX4_leave 15 = .ok (.iconst 0, 1) := by decide +kernel
theorem dX4_leave_16 : decode cX4_leave 16 = .ok (.ireturn, 1) := by decide +kernel
set_option maxRecDepth 20000 in
theorem ggX4_raiseTriggers_X3_find : GoodIn wsX4_raiseTriggers wsX3_find := goodIn_r _ [12, 13, 14, 15, 16, 17, 18, 19, 20, 21, 11, 22, 23, 24, 25, 26, 27, 28, 29, 30, 31, 32, 33, 34, 35, 36, 37, 38, 73, 74, 75, 76, 77, 78, 79, 80, 81, 82] (by decide +kernel) (by decide +kernel)
set_option maxRecDepth 20000 in
theorem gX4_raiseTriggers_X3_find : GoodIn wsX4_raiseTriggers (wsV RX4 127 RX3 yX3_find wsX3_find) := goodIn_app (goodIn_of _ (by decide +kernel)) ggX4_raiseTriggers_X3_find
set_option maxRecDepth 20000 in
theorem ggX4_raiseTriggers_X4_hasTrigger : GoodIn wsX4_raiseTriggers wsX4_hasTrigger := goodIn_r _ [42, 4, 62, 63, 64, 65, 66, 67, 68, 69, 70, 71, 72] (by decide +kernel) (by decide +kernel)
set_option maxRecDepth 20000 in
theorem gX4_raiseTriggers_X4_hasTrigger : GoodIn wsX4_raiseTriggers (wsV RX4 224 RX4 yX4_hasTrigger wsX4_hasTrigger) := goodIn_app (goodIn_of _ (by decide +kernel)) ggX4_raiseTriggers_X4_hasTrigger
set_option maxRecDepth 20000 in
theorem ggX4_raiseTriggers_X4_newId : GoodIn wsX4_raiseTriggers wsX4_newId := goodIn_r _ [46, 47, 62, 63, 64, 65, 66, 67, 68, 69, 70, 71, 72] (by decide +kernel) (by decide +kernel)
set_option maxRecDepth 20000 in
theorem gX4_raiseTriggers_X4_newId : GoodIn wsX4_raiseTriggers (wsV RX4 72 RX4 yX4_newId wsX4_newId) := goodIn_app (goodIn_of _ (by decide +kernel)) ggX4_raiseTriggers_X4_newId
set_option maxRecDepth 20000 in
theorem ggX4_raiseTriggers_X0_push : GoodIn wsX4_raiseTriggers wsX0_push := goodIn_r _ [52, 53, 54, 55, 56, 57, 58, 83, 84, 85, 86, 87, 88] (by decide +kernel) (by decide +kernel)
set_option maxRecDepth 20000 in
theorem gX4_raiseTriggers_X0_push : GoodIn wsX4_raiseTriggers (wsV RX4 76 RX0 yX0_push wsX0_push) := goodIn_app (goodIn_of _ (by decide +kernel)) ggX4_raiseTriggers_X0_push
set_option maxRecDepth 20000 in
theorem ggX4_raiseTriggers_X4_nextPlayer : GoodIn wsX4_raiseTriggers wsX4_nextPlayer := goodIn_r _ [61] (by decide +kernel) (by decide +kernel)
set_option maxRecDepth 20000 in
theorem gX4_raiseTriggers_X4_nextPlayer : GoodIn wsX4_raiseTriggers (va_wsS RX4 86 yX4_nextPlayer wsX4_nextPlayer) := goodIn_app (goodIn_of _ (by decide +kernel)) ggX4_raiseTriggers_X4_nextPlayer
theorem dX4_raiseTriggers_0 : decode cX4_raiseTriggers 0 = .ok (.iload_n 1, 1) := by decide +kernel
theorem dX4_raiseTriggers_1 : decode cX4_raiseTriggers 1 = .ok (.ifCond .ne 4, 3) := by decide +kernel
theorem dX4_raiseTriggers_4 : decode cX4_raiseTriggers 4 = .ok (.return_, 1) := by decide +kernel
theorem dX4_raiseTriggers_5 : decode cX4_raiseTriggers 5 = .ok (.aload_n 0, 1) := by decide +kernel
theorem dX4_raiseTriggers_6 : decode cX4_raiseTriggers 6 = .ok (.getfield 30, 3) := by decide +kernel
theorem dX4_raiseTriggers_9 : decode cX4_raiseTriggers 9 = .ok (.aload_n 0, 1) := by decide +kernel
theorem dX4_raiseTriggers_10 : decode cX4_raiseTriggers 10 = .ok (.getfield 16, 3) := by decide +kernel
theorem dX4_raiseTriggers_13 : decode cX4_raiseTriggers 13 = .ok (.iconst 5, 1) := by decide +kernel
theorem dX4_raiseTriggers_14 : decode cX4_raiseTriggers 14 = .ok (.invokevirtual 127, 3) := by decide +kernel
theorem dX4_raiseTriggers_17 : decode cX4_raiseTriggers 17 = .ok (.iload_n 1, 1) := by decide +kernel
theorem dX4_raiseTriggers_18 : decode cX4_raiseTriggers 18 = .ok (.iconst 1, 1) := by decide +kernel
theorem dX4_raiseTriggers_19 : decode cX4_raiseTriggers 19 = .ok (.if_icmp .ne 15, 3) := by decide +kernel
theorem dX4_raiseTriggers_22 : decode cX4_raiseTriggers 22 = .ok (.aload_n 0, 1) := by decide +kernel
theorem dX4_raiseTriggers_23 : decode cX4_raiseTriggers 23 = .ok (.getfield 16, 3) := by decide +kernel
theorem dX4_raiseTriggers_26 : decode cX4_raiseTriggers 26 = .ok (.getfield 114, 3) := by decide +kernel
theorem dX4_raiseTriggers_29 : decode cX4_raiseTriggers 29 = .ok (.iconst 1, 1) := by decide +kernel
theorem dX4_raiseTriggers_30 : decode cX4_raiseTriggers 30 = .ok (.isub, 1) := by decide +kernel
theorem dX4_raiseTriggers_31 : decode cX4_raiseTriggers 31 = .ok (.goto 10, 3) := by decide +kernel
theorem dX4_raiseTriggers_34 : decode cX4_raiseTriggers 34 = .ok (.aload_n 0, 1) := by decide +kernel
theorem dX4_raiseTriggers_35 : decode cX4_raiseTriggers 35 = .ok (.getfield 16, 3) := by decide +kernel
theorem dX4_raiseTriggers_38 : decode cX4_raiseTriggers 38 = .ok (.getfield 114, 3) := by decide +kernel
theorem dX4_raiseTriggers_41 : decode cX4_raiseTriggers 41 = .ok (.istore_n 2, 1) := by decide +kernel
theorem dX4_raiseTriggers_42 : decode cX4_raiseTriggers 42 = .ok (.aload_n 0, 1) := by decide +kernel
theorem dX4_raiseTriggers_43 : decode cX4_raiseTriggers 43 = .ok (.getfield 103, 3) := by decide +kernel
theorem dX4_raiseTriggers_46 : decode cX4_raiseTriggers 46 = .ok (.istore_n 3, 1) := by decide +kernel
theorem dX4_raiseTriggers_47 : decode cX4_raiseTriggers 47 = .ok (.iconst 0, 1) := by decide +kernel
theorem dX4_raiseTriggers_48 : decode cX4_raiseTriggers 48 = .ok (.istore 4, 2) := by decide +kernel
theorem dX4_raiseTriggers_50 : decode cX4_raiseTriggers 50 = .ok (.iload 4, 2) := by decide +kernel
theorem dX4_raiseTriggers_52 : decode cX4_raiseTriggers 52 = .ok (.iconst 3, 1) := by decide +kernel
theorem dX4_raiseTriggers_53 : decode cX4_raiseTriggers 53 = .ok (.if_icmp .ge 82, 3) := by decide +kernel
theorem dX4_raiseTriggers_56 : decode cX4_raiseTriggers 56 = .ok (.iconst 0, 1) := by decide +kernel
theorem dX4_raiseTriggers_57 : decode cX4_raiseTriggers 57 = .ok (.istore 5, 2) := by decide +kernel
theorem dX4_raiseTriggers_59 : decode cX4_raiseTriggers 59 = .ok (.iload 5, 2) := by decide +kernel
theorem dX4_raiseTriggers_61 : decode cX4_raiseTriggers 61 = .ok (.iload_n 2, 1) := by decide +kernel
theorem dX4_raiseTriggers_62 : decode cX4_raiseTriggers 62 = .ok (.if_icmp .ge 62, 3) := by decide +kernel
theorem dX4_raiseTriggers_65 : decode cX4_raiseTriggers 65 = .ok (.aload_n 0, 1) := by decide +kernel
theorem dX4_raiseTriggers_66 : decode cX4_raiseTriggers 66 = .ok (.getfield 16, 3) := by decide +kernel
theorem dX4_raiseTriggers_69 : decode cX4_raiseTriggers 69 = .ok (.getfield 121, 3) := by decide +kernel
theorem dX4_raiseTriggers_72 : decode cX4_raiseTriggers 72 = .ok (.iload 5, 2) := by decide +kernel
theorem dX4_raiseTriggers_74 : decode cX4_raiseTriggers 74 = .ok (.iaload, 1) := by decide +kernel
theorem dX4_raiseTriggers_75 : decode cX4_raiseTriggers 75 = .ok (.istore 6, 2) := by decide +kernel
theorem dX4_raiseTriggers_77 : decode cX4_raiseTriggers 77 = .ok (.aload_n 0, 1) := by decide +kernel
theorem dX4_raiseTriggers_78 : decode cX4_raiseTriggers 78 = .ok (.getfield 30, 3) := by decide +kernel
theorem dX4_raiseTriggers_81 : decode cX4_raiseTriggers 81 = .ok (.getfield 131, 3) := by decide +kernel
theorem dX4_raiseTriggers_84 : decode cX4_raiseTriggers 84 = .ok (.iload 5, 2) := by decide +kernel
theorem dX4_raiseTriggers_86 : decode cX4_raiseTriggers 86 = .ok (.iaload, 1) := by decide +kernel
theorem dX4_raiseTriggers_87 : decode cX4_raiseTriggers 87 = .ok (.iload_n 3, 1) := by decide +kernel
theorem dX4_raiseTriggers_88 : decode cX4_raiseTriggers 88 = .ok (.if_icmp .ne 30, 3) := by decide +kernel
theorem dX4_raiseTriggers_91 : decode cX4_raiseTriggers 91 = .ok (.aload_n 0, 1) := by decide +kernel
theorem dX4_raiseTriggers_92 : decode cX4_raiseTriggers 92 = .ok (.iload 6, 2) := by decide +kernel
theorem dX4_raiseTriggers_94 : decode cX4_raiseTriggers 94 = .ok (.iload_n 1, 1) := by decide +kernel
theorem dX4_raiseTriggers_95 : decode cX4_raiseTriggers 95 = .ok (.iload_n 3, 1) := by decide +kernel
theorem dX4_raiseTriggers_96 : decode cX4_raiseTriggers 96 = .ok (.invokevirtual 224, 3) := by decide +kernel
theorem dX4_raiseTriggers_99 : decode cX4_raiseTriggers 99 = .ok (.ifCond .eq 19, 3) := by decide +kernel
theorem dX4_raiseTriggers_102 : decode cX4_raiseTriggers 102 = .ok (.aload_n 0, 1) := by decide +kernel
theorem dX4_raiseTriggers_103 : decode cX4_raiseTriggers 103 = .ok (.getfield 23, 3) := by decide +kernel
theorem dX4_raiseTriggers_106 : decode cX4_raiseTriggers 106 = .ok (.iload 6, 2) := by decide +kernel
theorem dX4_raiseTriggers_108 : decode cX4_raiseTriggers 108 = .ok (.iconst 1, 1) := by decide +kernel
theorem dX4_raiseTriggers_109 : decode cX4_raiseTriggers 109 = .ok (.iload_n 3, 1) := by decide +kernel
theorem dX4_raiseTriggers_110 : decode cX4_raiseTriggers 110 = .ok (.iconst (-1), 1) := by decide +kernel
theorem dX4_raiseTriggers_111 : decode cX4_raiseTriggers 111 = .ok (.aload_n 0, 1) := by decide +kernel
theorem dX4_raiseTriggers_112 : decode cX4_raiseTriggers 112 = .ok (.invokevirtual 72, 3) := by decide +kernel
theorem dX4_raiseTriggers_115 : decode cX4_raiseTriggers 115 = .ok (.invokevirtual 76, 3) := by decide +kernel
theorem dX4_raiseTriggers_118 : decode cX4_raiseTriggers 118 = .ok (.iinc 5 1, 3) := by decide +kernel
theorem dX4_raiseTriggers_121 : decode cX4_raiseTriggers 121 = .ok (.goto (-62), 3) := by decide +kernel
theorem dX4_raiseTriggers_124 : decode cX4_raiseTriggers 124 = .ok (.iload_n 3, 1) := by decide +kernel
theorem dX4_raiseTriggers_125 : decode cX4_raiseTriggers 125 = .ok (.invokestatic 86, 3) := by decide +kernel
theorem dX4_raiseTriggers_128 : decode cX4_raiseTriggers 128 = .ok (.istore_n 3, 1) := by decide +kernel
theorem dX4_raiseTriggers_129 : decode cX4_raiseTriggers 129 = .ok (.iinc 4 1, 3) := by decide +kernel
theorem dX4_raiseTriggers_132 : decode cX4_raiseTriggers 132 = .ok (.goto (-82), 3) := by decide +kernel
theorem dX4_raiseTriggers_135 : decode cX4_raiseTriggers 135 = .ok (.return_, 1) := by decide +kernel
theorem dX4_hasTrigger_0 : decode cX4_hasTrigger 0 = .ok (.iload_n 2, 1) := by decide +kernel
theorem dX4_hasTrigger_1 : decode cX4_hasTrigger 1 = .ok (.tableswitch 76 1 3 #[27, 45, 57], 27) := by decide +kernel
theorem dX4_hasTrigger_28 : decode cX4_hasTrigger 28 = .ok (.iload_n 1, 1) := by decide +kernel
theorem dX4_hasTrigger_29 : decode cX4_hasTrigger 29 = .ok (.bipush 9, 2) := by decide +kernel
theorem dX4_hasTrigger_31 : decode cX4_hasTrigger 31 = .ok (.if_icmp .eq 9, 3) := by decide +kernel
theorem dX4_hasTrigger_34 : decode cX4_hasTrigger 34 = .ok (.iload_n 1, 1) := by decide +kernel
theorem dX4_hasTrigger_35 : decode cX4_hasTrigger 35 = .ok (.bipush 11, 2) := by decide +kernel
theorem dX4_hasTrigger_37 : decode cX4_hasTrigger 37 = .ok (.if_icmp .ne 7, 3) := by decide +kernel
theorem dX4_hasTrigger_40 : decode cX4_hasTrigger 40 = .ok (.iconst 1, 1) := by decide +kernel
theorem dX4_hasTrigger_41 : decode cX4_hasTrigger 41 = .ok (.goto 4, 3) := by decide +kernel
theorem dX4_hasTrigger_44 : decode cX4_hasTrigger 44 = .ok (.iconst 0, 1) := by decide +kernel
theorem dX4_hasTrigger_45 : decode cX4_hasTrigger 45 = .ok (.ireturn, 1) := by decide +kernel
theorem dX4_hasTrigger_46 : decode cX4_hasTrigger 46 = .ok (.iload_n 1, 1) := by decide +kernel
theorem dX4_hasTrigger_47 : decode cX4_hasTrigger 47 = .ok (.bipush 10, 2) := by decide +kernel
theorem dX4_hasTrigger_49 : decode cX4_hasTrigger 49 = .ok (.if_icmp .ne 7, 3) := by decide +kernel
theorem dX4_hasTrigger_52 : decode cX4_hasTrigger 52 = .ok (.iconst 1, 1) := by decide +kernel
theorem dX4_hasTrigger_53 : decode cX4_hasTrigger 53 = .ok (.goto 4, 3) := by decide +kernel
theorem dX4_hasTrigger_56 : decode cX4_hasTrigger 56 = .ok (.iconst 0, 1) := by decide +kernel
theorem dX4_hasTrigger_57 : decode cX4_hasTrigger 57 = .ok (.ireturn, 1) := by decide +kernel
theorem dX4_hasTrigger_58 : decode cX4_hasTrigger 58 = .ok (.iload_n 1, 1) := by decide +kernel
theorem dX4_hasTrigger_59 : decode cX4_hasTrigger 59 = .ok (.iconst 1, 1) := by decide +kernel
theorem dX4_hasTrigger_60 : decode cX4_hasTrigger 60 = .ok (.if_icmp .ne 15, 3) := by decide +kernel
theorem dX4_hasTrigger_63 : decode cX4_hasTrigger 63 = .ok (.iload_n 3, 1) := by decide +kernel
theorem dX4_hasTrigger_64 : decode cX4_hasTrigger 64 = .ok (.aload_n 0, 1) := by decide +kernel
theorem dX4_hasTrigger_65 : decode cX4_hasTrigger 65 = .ok (.getfield 103, 3) := by decide +kernel
theorem dX4_hasTrigger_68 : decode cX4_hasTrigger 68 = .ok (.if_icmp .ne 7, 3) := by decide +kernel
theorem dX4_hasTrigger_71 : decode cX4_hasTrigger 71 = .ok (.iconst 1, 1) := by decide +kernel
theorem dX4_hasTrigger_72 : decode cX4_hasTrigger 72 = .ok (.goto 4, 3) := by decide +kernel
theorem dX4_hasTrigger_75 : decode cX4_hasTrigger 75 = .ok (.iconst 0, 1) := by decide +kernel
theorem dX4_hasTrigger_76 : decode cX4_hasTrigger 76 = .ok (.ireturn, 1) := by decide +kernel
theorem dX4_hasTrigger_77 : decode cX4_hasTrigger 77 = .ok (.iconst 0, 1) := by decide +kernel
theorem dX4_hasTrigger_78 : decode cX4_hasTrigger 78 = .ok (.ireturn, 1) := by decide +kernel
set_option maxRecDepth 20000 in
theorem ggX4_breakLoop_X1_start : GoodIn wsX4_breakLoop wsX1_start := goodIn_r _ [17, 18, 19, 89, 90, 91, 92, 93] (by decide +kernel) (by decide +kernel)
set_option maxRecDepth 20000 in
theorem gX4_breakLoop_X1_start : GoodIn wsX4_breakLoop (wsV RX4 228 RX1 yX1_start wsX1_start) := goodIn_app (goodIn_of _ (by decide +kernel)) ggX4_breakLoop_X1_start
set_option maxRecDepth 20000 in
theorem ggX4_breakLoop_X2_placeOf : GoodIn wsX4_breakLoop wsX2_placeOf := goodIn_r _ [24, 25, 26, 78, 79, 80, 81, 82] (by decide +kernel) (by decide +kernel)
set_option maxRecDepth 20000 in
theorem gX4_breakLoop_X2_placeOf : GoodIn wsX4_breakLoop (wsV RX4 188 RX2 yX2_placeOf wsX2_placeOf) := goodIn_app (goodIn_of _ (by decide +kernel)) ggX4_breakLoop_X2_placeOf
set_option maxRecDepth 20000 in
theorem ggX4_breakLoop_X1_write : GoodIn wsX4_breakLoop wsX1_write := goodIn_r _ [30, 19, 18, 89, 90, 91, 92, 93] (by decide +kernel) (by decide +kernel)
set_option maxRecDepth 20000 in
theorem gX4_breakLoop_X1_write : GoodIn wsX4_breakLoop (wsV RX4 233 RX1 yX1_write wsX1_write) := goodIn_app (goodIn_of _ (by decide +kernel)) ggX4_breakLoop_X1_write
set_option maxRecDepth 20000 in
theorem ggX4_breakLoop_X4_targetPlace : GoodIn wsX4_breakLoop wsX4_targetPlace := goodIn_r _ [35, 4, 5, 36, 9, 2, 37, 38, 39, 40, 41, 42, 43, 20, 21, 22, 23, 24, 25, 26, 67, 68, 69, 70, 71, 72, 73, 74, 75, 76, 77, 83, 84, 85, 86, 87, 88, 78, 79, 80, 81, 82] (by decide +kernel) (by decide +kernel)
set_option maxRecDepth 20000 in
theorem gX4_breakLoop_X4_targetPlace : GoodIn wsX4_breakLoop (wsV RX4 154 RX4 yX4_targetPlace wsX4_targetPlace) := goodIn_app (goodIn_of _ (by decide +kernel)) ggX4_breakLoop_X4_targetPlace
set_option maxRecDepth 20000 in
theorem ggX4_breakLoop_X1_knowsState : GoodIn wsX4_breakLoop wsX1_knowsState := goodIn_r _ [47, 48, 49, 50, 51, 52, 16, 53, 19, 18, 89, 90, 91, 92, 93] (by decide +kernel) (by decide +kernel)
set_option maxRecDepth 20000 in
theorem gX4_breakLoop_X1_knowsState : GoodIn wsX4_breakLoop (wsV RX4 237 RX1 yX1_knowsState wsX1_knowsState) := goodIn_app (goodIn_of _ (by decide +kernel)) ggX4_breakLoop_X1_knowsState
set_option maxRecDepth 20000 in
theorem ggX4_breakLoop_X1_forget : GoodIn wsX4_breakLoop wsX1_forget := goodIn_r _ [57, 48, 58, 89, 90, 91, 92, 93] (by decide +kernel) (by decide +kernel)
set_option maxRecDepth 20000 in
theorem gX4_breakLoop_X1_forget : GoodIn wsX4_breakLoop (wsV RX4 80 RX1 yX1_forget wsX1_forget) := goodIn_app (goodIn_of _ (by decide +kernel)) ggX4_breakLoop_X1_forget
set_option maxRecDepth 20000 in
theorem ggX4_breakLoop_X1_keepState : GoodIn wsX4_breakLoop wsX1_keepState := goodIn_r _ [62, 18, 49, 58, 63, 64, 65, 66, 48, 89, 90, 91, 92, 93] (by decide +kernel) (by decide +kernel)
set_option maxRecDepth 20000 in
theorem gX4_breakLoop_X1_keepState : GoodIn wsX4_breakLoop (wsV RX4 241 RX1 yX1_keepState wsX1_keepState) := goodIn_app (goodIn_of _ (by decide +kernel)) ggX4_breakLoop_X1_keepState
theorem dX4_breakLoop_0 : decode cX4_breakLoop 0 = .ok (.aload_n 0, 1) := by decide +kernel
theorem dX4_breakLoop_1 : decode cX4_breakLoop 1 = .ok (.getfield 37, 3) := by decide +kernel
theorem dX4_breakLoop_4 : decode cX4_breakLoop 4 = .ok (.aload_n 0, 1) := by decide +kernel
theorem dX4_breakLoop_5 : decode cX4_breakLoop 5 = .ok (.getfield 16, 3) := by decide +kernel
theorem dX4_breakLoop_8 : decode cX4_breakLoop 8 = .ok (.getfield 114, 3) := by decide +kernel
theorem dX4_breakLoop_11 : decode cX4_breakLoop 11 = .ok (.aload_n 0, 1) := by decide +kernel
theorem dX4_breakLoop_12 : decode cX4_breakLoop 12 = .ok (.getfield 23, 3) := by decide +kernel
theorem dX4_breakLoop_15 : decode cX4_breakLoop 15 = .ok (.getfield 89, 3) := by decide +kernel
theorem dX4_breakLoop_18 : decode cX4_breakLoop 18 = .ok (.invokevirtual 228, 3) := by decide +kernel
theorem dX4_breakLoop_21 : decode cX4_breakLoop 21 = .ok (.iconst 0, 1) := by decide +kernel
theorem dX4_breakLoop_22 : decode cX4_breakLoop 22 = .ok (.istore_n 1, 1) := by decide +kernel
theorem dX4_breakLoop_23 : decode cX4_breakLoop 23 = .ok (.iload_n 1, 1) := by decide +kernel
theorem dX4_breakLoop_24 : decode cX4_breakLoop 24 = .ok (.aload_n 0, 1) := by decide +kernel
theorem dX4_breakLoop_25 : decode cX4_breakLoop 25 = .ok (.getfield 16, 3) := by decide +kernel
theorem dX4_breakLoop_28 : decode cX4_breakLoop 28 = .ok (.getfield 114, 3) := by decide +kernel
theorem dX4_breakLoop_31 : decode cX4_breakLoop 31 = .ok (.if_icmp .ge 51, 3) := by decide +kernel
theorem dX4_breakLoop_34 : decode cX4_breakLoop 34 = .ok (.aload_n 0, 1) := by decide +kernel
theorem dX4_breakLoop_35 : decode cX4_breakLoop 35 = .ok (.getfield 37, 3) := by decide +kernel
theorem dX4_breakLoop_38 : decode cX4_breakLoop 38 = .ok (.aload_n 0, 1) := by decide +kernel
theorem dX4_breakLoop_39 : decode cX4_breakLoop 39 = .ok (.getfield 16, 3) := by decide +kernel
theorem dX4_breakLoop_42 : decode cX4_breakLoop 42 = .ok (.getfield 121, 3) := by decide +kernel
theorem dX4_breakLoop_45 : decode cX4_breakLoop 45 = .ok (.iload_n 1, 1) := by decide +kernel
theorem dX4_breakLoop_46 : decode cX4_breakLoop 46 = .ok (.iaload, 1) := by decide +kernel
theorem dX4_breakLoop_47 : decode cX4_breakLoop 47 = .ok (.iconst 0, 1) := by decide +kernel
theorem dX4_breakLoop_48 : decode cX4_breakLoop 48 = .ok (.aload_n 0, 1) := by decide +kernel
theorem dX4_breakLoop_49 : decode cX4_breakLoop 49 = .ok (.getfield 16, 3) := by decide +kernel
theorem dX4_breakLoop_52 : decode cX4_breakLoop 52 = .ok (.getfield 231, 3) := by decide +kernel
theorem dX4_breakLoop_55 : decode cX4_breakLoop 55 = .ok (.iload_n 1, 1) := by decide +kernel
theorem dX4_breakLoop_56 : decode cX4_breakLoop 56 = .ok (.iaload, 1) := by decide +kernel
theorem dX4_breakLoop_57 : decode cX4_breakLoop 57 = .ok (.aload_n 0, 1) := by decide +kernel
theorem dX4_breakLoop_58 : decode cX4_breakLoop 58 = .ok (.getfield 16, 3) := by decide +kernel
theorem dX4_breakLoop_61 : decode cX4_breakLoop 61 = .ok (.aload_n 0, 1) := by decide +kernel
theorem dX4_breakLoop_62 : decode cX4_breakLoop 62 = .ok (.getfield 16, 3) := by decide +kernel
theorem dX4_breakLoop_65 : decode cX4_breakLoop 65 = .ok (.getfield 232, 3) := by decide +kernel
theorem dX4_breakLoop_68 : decode cX4_breakLoop 68 = .ok (.iload_n 1, 1) := by decide +kernel
theorem dX4_breakLoop_69 : decode cX4_breakLoop 69 = .ok (.iaload, 1) := by decide +kernel
theorem dX4_breakLoop_70 : decode cX4_breakLoop 70 = .ok (.invokevirtual 188, 3) := by decide +kernel
theorem dX4_breakLoop_73 : decode cX4_breakLoop 73 = .ok (.invokevirtual 233, 3) := by decide +kernel
theorem dX4_breakLoop_76 : decode cX4_breakLoop 76 = .ok (.iinc 1 1, 3) := by decide +kernel
theorem dX4_breakLoop_79 : decode cX4_breakLoop 79 = .ok (.goto (-56), 3) := by decide +kernel
theorem dX4_breakLoop_82 : decode cX4_breakLoop 82 = .ok (.iconst 0, 1) := by decide +kernel
theorem dX4_breakLoop_83 : decode cX4_breakLoop 83 = .ok (.istore_n 1, 1) := by decide +kernel
theorem dX4_breakLoop_84 : decode cX4_breakLoop 84 = .ok (.iload_n 1, 1) := by decide +kernel
theorem dX4_breakLoop_85 : decode cX4_breakLoop 85 = .ok (.aload_n 0, 1) := by decide +kernel
theorem dX4_breakLoop_86 : decode cX4_breakLoop 86 = .ok (.getfield 23, 3) := by decide +kernel
theorem dX4_breakLoop_89 : decode cX4_breakLoop 89 = .ok (.getfield 89, 3) := by decide +kernel
theorem dX4_breakLoop_92 : decode cX4_breakLoop 92 = .ok (.if_icmp .ge 48, 3) := by decide +kernel
theorem dX4_breakLoop_95 : decode cX4_breakLoop 95 = .ok (.aload_n 0, 1) := by decide +kernel
theorem dX4_breakLoop_96 : decode cX4_breakLoop 96 = .ok (.getfield 37, 3) := by decide +kernel
theorem dX4_breakLoop_99 : decode cX4_breakLoop 99 = .ok (.aload_n 0, 1) := by decide +kernel
theorem dX4_breakLoop_100 : decode cX4_breakLoop 100 = .ok (.getfield 23, 3) := by decide +kernel
theorem dX4_breakLoop_103 : decode cX4_breakLoop 103 = .ok (.getfield 143, 3) := by decide +kernel
theorem dX4_breakLoop_106 : decode cX4_breakLoop 106 = .ok (.iload_n 1, 1) := by decide +kernel
theorem dX4_breakLoop_107 : decode cX4_breakLoop 107 = .ok (.iaload, 1) := by decide +kernel
theorem dX4_breakLoop_108 : decode cX4_breakLoop 108 = .ok (.aload_n 0, 1) := by decide +kernel
theorem dX4_breakLoop_109 : decode cX4_breakLoop 109 = .ok (.getfield 23, 3) := by decide +kernel
theorem dX4_breakLoop_112 : decode cX4_breakLoop 112 = .ok (.getfield 147, 3) := by decide +kernel
theorem dX4_breakLoop_115 : decode cX4_breakLoop 115 = .ok (.iload_n 1, 1) := by decide +kernel
theorem dX4_breakLoop_116 : decode cX4_breakLoop 116 = .ok (.baload, 1) := by decide +kernel
theorem dX4_breakLoop_117 : decode cX4_breakLoop 117 = .ok (.aload_n 0, 1) := by decide +kernel
theorem dX4_breakLoop_118 : decode cX4_breakLoop 118 = .ok (.getfield 23, 3) := by decide +kernel
theorem dX4_breakLoop_121 : decode cX4_breakLoop 121 = .ok (.getfield 151, 3) := by decide +kernel
theorem dX4_breakLoop_124 : decode cX4_breakLoop 124 = .ok (.iload_n 1, 1) := by decide +kernel
theorem dX4_breakLoop_125 : decode cX4_breakLoop 125 = .ok (.iaload, 1) := by decide +kernel
theorem dX4_breakLoop_126 : decode cX4_breakLoop 126 = .ok (.aload_n 0, 1) := by decide +kernel
theorem dX4_breakLoop_127 : decode cX4_breakLoop 127 = .ok (.iload_n 1, 1) := by decide +kernel
theorem dX4_breakLoop_128 : decode cX4_breakLoop 128 = .ok (.invokevirtual 154, 3) := by decide +kernel
theorem dX4_breakLoop_131 : decode cX4_breakLoop 131 = .ok (.invokevirtual 233, 3) := by decide +kernel
theorem dX4_breakLoop_134 : decode cX4_breakLoop 134 = .ok (.iinc 1 1, 3) := by decide +kernel
theorem dX4_breakLoop_137 : decode cX4_breakLoop 137 = .ok (.goto (-53), 3) := by decide +kernel
theorem dX4_breakLoop_140 : decode cX4_breakLoop 140 = .ok (.aload_n 0, 1) := by decide +kernel
theorem dX4_breakLoop_141 : decode cX4_breakLoop 141 = .ok (.getfield 37, 3) := by decide +kernel
theorem dX4_breakLoop_144 : decode cX4_breakLoop 144 = .ok (.invokevirtual 237, 3) := by decide +kernel
theorem dX4_breakLoop_147 : decode cX4_breakLoop 147 = .ok (.ifCond .eq 31, 3) := by decide +kernel
theorem dX4_breakLoop_150 : decode cX4_breakLoop 150 = .ok (.aload_n 0, 1) := by decide +kernel
theorem dX4_breakLoop_151 : decode cX4_breakLoop 151 = .ok (.dup, 1) := by decide +kernel
theorem dX4_breakLoop_152 : decode cX4_breakLoop 152 = .ok (.getfield 109, 3) := by decide +kernel
theorem dX4_breakLoop_155 : decode cX4_breakLoop 155 = .ok (.iconst 1, 1) := by decide +kernel
theorem dX4_breakLoop_156 : decode cX4_breakLoop 156 = .ok (.iadd, 1) := by decide +kernel
theorem dX4_breakLoop_157 : decode cX4_breakLoop 157 = .ok (.putfield 109, 3) := by decide +kernel
theorem dX4_breakLoop_160 : decode cX4_breakLoop 160 = .ok (.aload_n 0, 1) := by decide +kernel
theorem dX4_breakLoop_161 : decode cX4_breakLoop 161 = .ok (.getfield 23, 3) := by decide +kernel
theorem dX4_breakLoop_164 : decode cX4_breakLoop 164 = .ok (.iconst 0, 1) := by decide +kernel
theorem dX4_breakLoop_165 : decode cX4_breakLoop 165 = .ok (.putfield 89, 3) := by decide +kernel
theorem dX4_breakLoop_168 : decode cX4_breakLoop 168 = .ok (.aload_n 0, 1) := by decide +kernel
theorem dX4_breakLoop_169 : decode cX4_breakLoop 169 = .ok (.getfield 37, 3) := by decide +kernel
theorem dX4_breakLoop_172 : decode cX4_breakLoop 172 = .ok (.invokevirtual 80, 3) := by decide +kernel
theorem dX4_breakLoop_175 : decode cX4_breakLoop 175 = .ok (.goto 10, 3) := by decide +kernel
theorem dX4_breakLoop_178 : decode cX4_breakLoop 178 = .ok (.aload_n 0, 1) := by decide +kernel
theorem dX4_breakLoop_179 : decode cX4_breakLoop 179 = .ok (.getfield 37, 3) := by decide +kernel
theorem dX4_breakLoop_182 : decode cX4_breakLoop 182 = .ok (.invokevirtual 241, 3) := by decide +kernel
theorem dX4_breakLoop_185 : decode cX4_breakLoop 185 = .ok (.return_, 1) := by decide +kernel
