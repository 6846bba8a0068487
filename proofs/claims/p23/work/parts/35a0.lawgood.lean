set_option maxRecDepth 20000 in
theorem ggL_act_X4_play : GoodIn wsL_act wsX4_play := goodIn_ca (goodIn_ca (goodIn_r _ [8, 9, 10, 11, 12, 13, 14, 15, 16, 17, 18, 19, 20, 7, 21, 22, 23, 24, 25, 26, 27, 28, 29, 30, 31, 32, 33, 34, 35, 36, 37, 38, 39, 40, 41, 42, 43, 44, 45, 46, 47, 48, 49, 50, 51, 52, 53, 54, 55, 56, 57, 58, 59, 60, 61, 62, 63, 64, 65, 66, 67, 68, 69, 70, 71, 72, 73, 74, 75, 76, 77, 78, 79, 80, 81, 82, 83, 84, 85, 86, 87, 88, 89, 90, 91, 284, 285, 286, 287, 288, 289, 290, 291, 292, 293, 294, 295, 296, 297, 298, 299, 300, 301, 302, 303, 304, 305, 306, 307, 308, 309, 310] (by decide +kernel) (by decide +kernel)) (goodIn_sub (fun _ h => List.mem_cons_of_mem _ (List.mem_append_left _ (List.mem_append_left _ (List.mem_append_right _ h)))) (by decide +kernel))) (goodIn_sub (fun _ h => List.mem_cons_of_mem _ (List.mem_append_left _ (List.mem_append_right _ h))) (by decide +kernel))
set_option maxRecDepth 20000 in
theorem gL_act_X4_play : GoodIn wsL_act (wsV RL 7 RX4 yX4_play wsX4_play) := goodIn_app (goodIn_of _ (by decide +kernel)) ggL_act_X4_play
set_option maxRecDepth 20000 in
theorem ggL_act_X4_obstacle : GoodIn wsL_act wsX4_obstacle := goodIn_ca (goodIn_r _ [95, 9, 10, 18, 19, 20, 7, 21, 14, 17, 13, 22, 23, 24, 25, 26, 27, 28, 29, 30, 31, 32, 33, 34, 35, 36, 37, 38, 39, 40, 41, 42, 43, 44, 45, 46, 47, 48, 49, 50, 51, 52, 53, 54, 55, 56, 57, 284, 285, 286, 287, 288, 289, 290, 291, 292, 293, 294, 295, 296, 297, 298, 299, 300, 301, 302, 303, 304, 305] (by decide +kernel) (by decide +kernel)) (goodIn_sub (fun _ h => List.mem_cons_of_mem _ (List.mem_append_left _ (List.mem_append_left _ (List.mem_append_right _ h)))) (by decide +kernel))
set_option maxRecDepth 20000 in
theorem gL_act_X4_obstacle : GoodIn wsL_act (wsV RL 13 RX4 yX4_obstacle wsX4_obstacle) := goodIn_app (goodIn_of _ (by decide +kernel)) ggL_act_X4_obstacle
set_option maxRecDepth 20000 in
theorem ggL_act_X4_settle : GoodIn wsL_act wsX4_settle := goodIn_ca (goodIn_r _ [99, 100, 101, 14, 17, 102, 103, 104, 7, 105, 106, 40, 107, 108, 16, 22, 13, 109, 110, 111, 50, 112, 52, 77, 78, 79, 80, 81, 113, 114, 115, 116, 39, 58, 59, 60, 61, 30, 117, 118, 119, 120, 68, 69, 70, 71, 72, 121, 122, 123, 44, 124, 46, 125, 126, 127, 128, 129, 130, 131, 132, 133, 134, 135, 136, 137, 138, 139, 140, 141, 42, 43, 45, 142, 143, 144, 145, 23, 24, 25, 146, 147, 148, 149, 150, 151, 152, 153, 154, 155, 41, 156, 157, 158, 159, 160, 161, 162, 163, 164, 165, 166, 167, 168, 169, 170, 171, 172, 173, 174, 175, 176, 177, 178, 179, 180, 181, 182, 183, 184, 185, 186, 187, 188, 189, 53, 54, 55, 56, 57, 48, 49, 51, 190, 191, 192, 193, 194, 195, 196, 197, 198, 199, 200, 73, 74, 75, 76, 89, 90, 91, 201, 202, 203, 204, 15, 205, 206, 207, 208, 209, 210, 85, 211, 212, 213, 214, 215, 216, 217, 218, 219, 220, 221, 222, 223, 224, 225, 87, 226, 227, 228, 229, 230, 82, 83, 84, 86, 88, 231, 232, 233, 234, 235, 236, 237, 238, 284, 285, 286, 287, 288, 289, 290, 291, 292, 293, 294, 295, 296, 297, 298, 299, 300, 301, 302, 303, 304, 305, 311, 312, 313, 314, 315, 306, 307, 308, 309, 310] (by decide +kernel) (by decide +kernel)) (goodIn_sub (fun _ h => List.mem_cons_of_mem _ (List.mem_append_right _ h)) (by decide +kernel))
set_option maxRecDepth 20000 in
theorem gL_act_X4_settle : GoodIn wsL_act (wsV RL 16 RX4 yX4_settle wsX4_settle) := goodIn_app (goodIn_of _ (by decide +kernel)) ggL_act_X4_settle
set_option maxRecDepth 20000 in
theorem ggL_act_X4_coins : GoodIn wsL_act wsX4_coins := goodIn_ca (goodIn_r _ [242, 9, 10, 30, 284, 285, 286, 287, 288, 289, 290, 291, 292, 293, 294] (by decide +kernel) (by decide +kernel)) (goodIn_sub (fun _ h => List.mem_cons_of_mem _ (List.mem_append_left _ (List.mem_append_left _ (List.mem_append_right _ h)))) (by decide +kernel))
set_option maxRecDepth 20000 in
theorem gL_act_X4_coins : GoodIn wsL_act (wsV RL 20 RX4 yX4_coins wsX4_coins) := goodIn_app (goodIn_of _ (by decide +kernel)) ggL_act_X4_coins
set_option maxRecDepth 20000 in
theorem ggL_act_X4_power : GoodIn wsL_act wsX4_power := goodIn_ca (goodIn_r _ [246, 9, 10, 154, 39, 194, 196, 247, 155, 156, 157, 158, 159, 160, 161, 162, 163, 164, 165, 166, 167, 168, 169, 170, 171, 172, 173, 7, 174, 175, 176, 177, 178, 179, 180, 181, 182, 183, 184, 185, 284, 285, 286, 287, 288, 289, 290, 291, 292, 293, 294, 301, 302, 303, 304, 305, 311, 312, 313, 314, 315] (by decide +kernel) (by decide +kernel)) (goodIn_sub (fun _ h => List.mem_cons_of_mem _ (List.mem_append_left _ (List.mem_append_left _ (List.mem_append_right _ h)))) (by decide +kernel))
set_option maxRecDepth 20000 in
theorem gL_act_X4_power : GoodIn wsL_act (wsV RL 23 RX4 yX4_power wsX4_power) := goodIn_app (goodIn_of _ (by decide +kernel)) ggL_act_X4_power
set_option maxRecDepth 20000 in
theorem ggL_act_X4_cardOf : GoodIn wsL_act wsX4_cardOf := goodIn_ca (goodIn_r _ [251, 9, 10, 39, 195, 41, 42, 43, 44, 45, 46, 284, 285, 286, 287, 288, 289, 290, 291, 292, 293, 294, 301, 302, 303, 304, 305] (by decide +kernel) (by decide +kernel)) (goodIn_sub (fun _ h => List.mem_cons_of_mem _ (List.mem_append_left _ (List.mem_append_left _ (List.mem_append_right _ h)))) (by decide +kernel))
set_option maxRecDepth 20000 in
theorem gL_act_X4_cardOf : GoodIn wsL_act (wsV RL 26 RX4 yX4_cardOf wsX4_cardOf) := goodIn_app (goodIn_of _ (by decide +kernel)) ggL_act_X4_cardOf
set_option maxRecDepth 20000 in
theorem ggL_act_X4_controllerOf : GoodIn wsL_act wsX4_controllerOf := goodIn_ca (goodIn_ca (goodIn_r _ [255, 154, 39, 196, 256, 257, 258, 7, 259, 9, 10, 100, 101, 41, 42, 43, 44, 45, 46, 156, 157, 158, 159, 160, 161, 162, 163, 164, 165, 166, 167, 168, 169, 170, 171, 172, 173, 174, 175, 176, 177, 178, 179, 180, 181, 182, 183, 184, 185, 284, 285, 286, 287, 288, 289, 290, 291, 292, 293, 294, 311, 312, 313, 314, 315, 301, 302, 303, 304, 305] (by decide +kernel) (by decide +kernel)) (goodIn_sub (fun _ h => List.mem_cons_of_mem _ (List.mem_append_left _ (List.mem_append_left _ (List.mem_append_right _ h)))) (by decide +kernel))) (goodIn_sub (fun _ h => List.mem_cons_of_mem _ (List.mem_append_right _ h)) (by decide +kernel))
set_option maxRecDepth 20000 in
theorem gL_act_X4_controllerOf : GoodIn wsL_act (wsV RL 29 RX4 yX4_controllerOf wsX4_controllerOf) := goodIn_app (goodIn_of _ (by decide +kernel)) ggL_act_X4_controllerOf
set_option maxRecDepth 20000 in
theorem ggL_act_X4_kindsOf : GoodIn wsL_act wsX4_kindsOf := goodIn_ca (goodIn_ca (goodIn_r _ [263, 154, 39, 247, 256, 257, 258, 7, 259, 9, 10, 100, 101, 41, 42, 43, 44, 45, 46, 156, 157, 158, 159, 160, 161, 162, 163, 164, 165, 166, 167, 168, 169, 170, 171, 172, 173, 174, 175, 176, 177, 178, 179, 180, 181, 182, 183, 184, 185, 284, 285, 286, 287, 288, 289, 290, 291, 292, 293, 294, 311, 312, 313, 314, 315, 301, 302, 303, 304, 305] (by decide +kernel) (by decide +kernel)) (goodIn_sub (fun _ h => List.mem_cons_of_mem _ (List.mem_append_left _ (List.mem_append_left _ (List.mem_append_right _ h)))) (by decide +kernel))) (goodIn_sub (fun _ h => List.mem_cons_of_mem _ (List.mem_append_right _ h)) (by decide +kernel))
set_option maxRecDepth 20000 in
theorem gL_act_X4_kindsOf : GoodIn wsL_act (wsV RL 32 RX4 yX4_kindsOf wsX4_kindsOf) := goodIn_app (goodIn_of _ (by decide +kernel)) ggL_act_X4_kindsOf
set_option maxRecDepth 20000 in
theorem ggL_act_X4_strengthOf : GoodIn wsL_act wsX4_strengthOf := goodIn_ca (goodIn_ca (goodIn_r _ [267, 154, 39, 155, 256, 257, 258, 7, 259, 9, 10, 100, 101, 41, 42, 43, 44, 45, 46, 156, 157, 158, 159, 160, 161, 162, 163, 164, 165, 166, 167, 168, 169, 170, 171, 172, 173, 174, 175, 176, 177, 178, 179, 180, 181, 182, 183, 184, 185, 284, 285, 286, 287, 288, 289, 290, 291, 292, 293, 294, 311, 312, 313, 314, 315, 301, 302, 303, 304, 305] (by decide +kernel) (by decide +kernel)) (goodIn_sub (fun _ h => List.mem_cons_of_mem _ (List.mem_append_left _ (List.mem_append_left _ (List.mem_append_right _ h)))) (by decide +kernel))) (goodIn_sub (fun _ h => List.mem_cons_of_mem _ (List.mem_append_right _ h)) (by decide +kernel))
set_option maxRecDepth 20000 in
theorem gL_act_X4_strengthOf : GoodIn wsL_act (wsV RL 35 RX4 yX4_strengthOf wsX4_strengthOf) := goodIn_app (goodIn_of _ (by decide +kernel)) ggL_act_X4_strengthOf
set_option maxRecDepth 20000 in
theorem ggL_act_X4_entryCard : GoodIn wsL_act wsX4_entryCard := goodIn_ca (goodIn_r _ [271, 9, 10, 14, 106, 47, 48, 49, 50, 51, 52, 53, 54, 55, 56, 57, 284, 285, 286, 287, 288, 289, 290, 291, 292, 293, 294, 295, 296, 297, 298, 299, 300] (by decide +kernel) (by decide +kernel)) (goodIn_sub (fun _ h => List.mem_cons_of_mem _ (List.mem_append_left _ (List.mem_append_left _ (List.mem_append_right _ h)))) (by decide +kernel))
set_option maxRecDepth 20000 in
theorem gL_act_X4_entryCard : GoodIn wsL_act (wsV RL 38 RX4 yX4_entryCard wsX4_entryCard) := goodIn_app (goodIn_of _ (by decide +kernel)) ggL_act_X4_entryCard
set_option maxRecDepth 20000 in
theorem ggL_act_X4_isTrigger : GoodIn wsL_act wsX4_isTrigger := goodIn_ca (goodIn_r _ [275, 9, 10, 14, 40, 47, 48, 49, 50, 51, 52, 53, 54, 55, 56, 57, 284, 285, 286, 287, 288, 289, 290, 291, 292, 293, 294, 295, 296, 297, 298, 299, 300] (by decide +kernel) (by decide +kernel)) (goodIn_sub (fun _ h => List.mem_cons_of_mem _ (List.mem_append_left _ (List.mem_append_left _ (List.mem_append_right _ h)))) (by decide +kernel))
set_option maxRecDepth 20000 in
theorem gL_act_X4_isTrigger : GoodIn wsL_act (wsV RL 41 RX4 yX4_isTrigger wsX4_isTrigger) := goodIn_app (goodIn_of _ (by decide +kernel)) ggL_act_X4_isTrigger
set_option maxRecDepth 20000 in
theorem ggL_act_X4_entryPlayer : GoodIn wsL_act wsX4_entryPlayer := goodIn_ca (goodIn_r _ [279, 9, 10, 14, 107, 47, 48, 49, 50, 51, 52, 53, 54, 55, 56, 57, 284, 285, 286, 287, 288, 289, 290, 291, 292, 293, 294, 295, 296, 297, 298, 299, 300] (by decide +kernel) (by decide +kernel)) (goodIn_sub (fun _ h => List.mem_cons_of_mem _ (List.mem_append_left _ (List.mem_append_left _ (List.mem_append_right _ h)))) (by decide +kernel))
set_option maxRecDepth 20000 in
theorem gL_act_X4_entryPlayer : GoodIn wsL_act (wsV RL 45 RX4 yX4_entryPlayer wsX4_entryPlayer) := goodIn_app (goodIn_of _ (by decide +kernel)) ggL_act_X4_entryPlayer
set_option maxRecDepth 20000 in
theorem ggL_act_X4_entryTarget : GoodIn wsL_act wsX4_entryTarget := goodIn_ca (goodIn_r _ [283, 9, 10, 14, 47, 48, 49, 50, 51, 52, 53, 54, 55, 56, 57, 218, 219, 220, 7, 221, 17, 108, 106, 39, 186, 187, 188, 189, 81, 146, 147, 148, 44, 149, 46, 128, 284, 285, 286, 287, 288, 289, 290, 291, 292, 293, 294, 295, 296, 297, 298, 299, 300, 301, 302, 303, 304, 305] (by decide +kernel) (by decide +kernel)) (goodIn_sub (fun _ h => List.mem_cons_of_mem _ (List.mem_append_left _ (List.mem_append_left _ (List.mem_append_right _ h)))) (by decide +kernel))
set_option maxRecDepth 20000 in
theorem gL_act_X4_entryTarget : GoodIn wsL_act (wsV RL 48 RX4 yX4_entryTarget wsX4_entryTarget) := goodIn_app (goodIn_of _ (by decide +kernel)) ggL_act_X4_entryTarget
set_option maxRecDepth 20000 in
theorem ggL_refuses_X4_things : GoodIn wsL_refuses wsX4_things := goodIn_r _ [6, 7, 8, 301, 302, 303, 304, 305, 306, 307, 308, 309, 310, 311, 312, 313, 314, 315, 316] (by decide +kernel) (by decide +kernel)
set_option maxRecDepth 20000 in
theorem gL_refuses_X4_things : GoodIn wsL_refuses (wsV RL 57 RX4 yX4_things wsX4_things) := goodIn_app (goodIn_of _ (by decide +kernel)) ggL_refuses_X4_things
set_option maxRecDepth 20000 in
theorem ggL_refuses_X4_stack : GoodIn wsL_refuses wsX4_stack := goodIn_r _ [12, 13, 14, 301, 302, 303, 304, 305, 306, 307, 308, 309, 310, 311, 317, 318, 319, 320, 321, 322] (by decide +kernel) (by decide +kernel)
set_option maxRecDepth 20000 in
theorem gL_refuses_X4_stack : GoodIn wsL_refuses (wsV RL 61 RX4 yX4_stack wsX4_stack) := goodIn_app (goodIn_of _ (by decide +kernel)) ggL_refuses_X4_stack
