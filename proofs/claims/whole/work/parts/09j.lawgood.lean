set_option maxRecDepth 20000 in
theorem ggL_law_X4_rounds : GoodIn wsL_law wsX4_rounds := goodIn_r _ [440, 332, 592, 593, 594, 595, 596, 597, 598, 599, 600, 601, 602] (by decide +kernel) (by decide +kernel)
set_option maxRecDepth 20000 in
theorem gL_law_X4_rounds : GoodIn wsL_law (wsV RL 90 RX4 yX4_rounds wsX4_rounds) := goodIn_app (goodIn_of _ (by decide +kernel)) ggL_law_X4_rounds
set_option maxRecDepth 20000 in
theorem ggL_law_X5_rounds : GoodIn wsL_law wsX5_rounds := goodIn_r _ [444, 167, 406, 603, 604, 605, 606, 607, 608, 609, 610, 611, 612, 613, 614, 615, 616, 617, 618, 619, 620, 621, 622, 623, 624, 625, 626, 627, 628, 629] (by decide +kernel) (by decide +kernel)
set_option maxRecDepth 20000 in
theorem gL_law_X5_rounds : GoodIn wsL_law (wsV RL 93 RX5 yX5_rounds wsX5_rounds) := goodIn_app (goodIn_of _ (by decide +kernel)) ggL_law_X5_rounds
set_option maxRecDepth 20000 in
theorem ggL_law_X4_loops : GoodIn wsL_law wsX4_loops := goodIn_r _ [448, 298, 592, 593, 594, 595, 596, 597, 598, 599, 600, 601, 602] (by decide +kernel) (by decide +kernel)
set_option maxRecDepth 20000 in
theorem gL_law_X4_loops : GoodIn wsL_law (wsV RL 94 RX4 yX4_loops wsX4_loops) := goodIn_app (goodIn_of _ (by decide +kernel)) ggL_law_X4_loops
set_option maxRecDepth 20000 in
theorem ggL_law_X5_loops : GoodIn wsL_law wsX5_loops := goodIn_r _ [452, 167, 393, 603, 604, 605, 606, 607, 608, 609, 610, 611, 612, 613, 614, 615, 616, 617, 618, 619, 620, 621, 622, 623, 624, 625, 626, 627, 628, 629] (by decide +kernel) (by decide +kernel)
set_option maxRecDepth 20000 in
theorem gL_law_X5_loops : GoodIn wsL_law (wsV RL 97 RX5 yX5_loops wsX5_loops) := goodIn_app (goodIn_of _ (by decide +kernel)) ggL_law_X5_loops
set_option maxRecDepth 20000 in
theorem ggL_law_L_coins : GoodIn wsL_law wsL_coins := goodIn_ca (goodIn_r _ [455, 86, 456, 457, 458, 2, 459, 92, 93, 14, 592, 593, 594, 595, 596, 597, 598, 599, 600, 601, 602] (by decide +kernel) (by decide +kernel)) (goodIn_sub (fun _ h => List.mem_append_left _ (List.mem_append_left _ (List.mem_append_right _ h))) (by decide +kernel))
set_option maxRecDepth 20000 in
theorem gL_law_L_coins : GoodIn wsL_law (va_wsS RL 98 yL_coins wsL_coins) := goodIn_app (goodIn_of _ (by decide +kernel)) ggL_law_L_coins
set_option maxRecDepth 20000 in
theorem ggL_law_X5_coins : GoodIn wsL_law wsX5_coins := goodIn_r _ [463, 167, 65, 173, 174, 5, 175, 603, 604, 605, 606, 607, 608, 609, 610, 611, 612, 613, 614, 615, 616, 617, 618, 619, 620, 621, 622, 623, 624, 625, 626, 627, 628, 629] (by decide +kernel) (by decide +kernel)
set_option maxRecDepth 20000 in
theorem gL_law_X5_coins : GoodIn wsL_law (wsV RL 100 RX5 yX5_coins wsX5_coins) := goodIn_app (goodIn_of _ (by decide +kernel)) ggL_law_X5_coins
set_option maxRecDepth 20000 in
theorem ggL_law_X4_things : GoodIn wsL_law wsX4_things := goodIn_r _ [467, 18, 285, 592, 593, 594, 595, 596, 597, 598, 599, 600, 601, 602, 630, 631, 632, 633, 634] (by decide +kernel) (by decide +kernel)
set_option maxRecDepth 20000 in
theorem gL_law_X4_things : GoodIn wsL_law (wsV RL 101 RX4 yX4_things wsX4_things) := goodIn_app (goodIn_of _ (by decide +kernel)) ggL_law_X4_things
set_option maxRecDepth 20000 in
theorem ggL_law_X5_things : GoodIn wsL_law wsX5_things := goodIn_r _ [471, 167, 181, 603, 604, 605, 606, 607, 608, 609, 610, 611, 612, 613, 614, 615, 616, 617, 618, 619, 620, 621, 622, 623, 624, 625, 626, 627, 628, 629] (by decide +kernel) (by decide +kernel)
set_option maxRecDepth 20000 in
theorem gL_law_X5_things : GoodIn wsL_law (wsV RL 104 RX5 yX5_things wsX5_things) := goodIn_app (goodIn_of _ (by decide +kernel)) ggL_law_X5_things
set_option maxRecDepth 20000 in
theorem ggL_law_L_cardOf : GoodIn wsL_law wsL_cardOf := goodIn_ca (goodIn_r _ [474, 86, 475, 476, 477, 2, 478, 92, 93, 18, 286, 120, 121, 122, 17, 123, 124, 592, 593, 594, 595, 596, 597, 598, 599, 600, 601, 602, 630, 631, 632, 633, 634] (by decide +kernel) (by decide +kernel)) (goodIn_sub (fun _ h => List.mem_append_left _ (List.mem_append_left _ (List.mem_append_right _ h))) (by decide +kernel))
set_option maxRecDepth 20000 in
theorem gL_law_L_cardOf : GoodIn wsL_law (va_wsS RL 105 yL_cardOf wsL_cardOf) := goodIn_app (goodIn_of _ (by decide +kernel)) ggL_law_L_cardOf
set_option maxRecDepth 20000 in
theorem ggL_law_X5_cardOf : GoodIn wsL_law wsX5_cardOf := goodIn_r _ [482, 181, 167, 66, 173, 174, 5, 175, 603, 604, 605, 606, 607, 608, 609, 610, 611, 612, 613, 614, 615, 616, 617, 618, 619, 620, 621, 622, 623, 624, 625, 626, 627, 628, 629] (by decide +kernel) (by decide +kernel)
set_option maxRecDepth 20000 in
theorem gL_law_X5_cardOf : GoodIn wsL_law (wsV RL 107 RX5 yX5_cardOf wsX5_cardOf) := goodIn_app (goodIn_of _ (by decide +kernel)) ggL_law_X5_cardOf
set_option maxRecDepth 20000 in
theorem ggL_law_L_controllerOf : GoodIn wsL_law wsL_controllerOf := goodIn_ca (goodIn_ca (goodIn_r _ [485, 86, 410, 486, 487, 488, 2, 489, 26, 18, 287, 490, 491, 492, 493, 92, 93, 415, 416, 120, 121, 122, 17, 123, 124, 253, 254, 255, 25, 256, 257, 258, 50, 259, 51, 52, 260, 261, 262, 263, 53, 54, 264, 265, 266, 267, 268, 269, 270, 271, 272, 273, 274, 275, 276, 592, 593, 594, 595, 596, 597, 598, 599, 600, 601, 602, 641, 642, 643, 644, 645, 630, 631, 632, 633, 634] (by decide +kernel) (by decide +kernel)) (goodIn_sub (fun _ h => List.mem_append_left _ (List.mem_append_left _ (List.mem_append_right _ h))) (by decide +kernel))) (goodIn_sub (fun _ h => List.mem_append_right _ h) (by decide +kernel))
set_option maxRecDepth 20000 in
theorem gL_law_L_controllerOf : GoodIn wsL_law (va_wsS RL 108 yL_controllerOf wsL_controllerOf) := goodIn_app (goodIn_of _ (by decide +kernel)) ggL_law_L_controllerOf
set_option maxRecDepth 20000 in
theorem ggL_law_X5_controllerOf : GoodIn wsL_law wsX5_controllerOf := goodIn_r _ [497, 75, 498, 499, 500, 5, 501, 181, 167, 173, 174, 175, 353, 354, 355, 356, 67, 76, 66, 77, 78, 79, 357, 358, 359, 360, 69, 361, 362, 363, 364, 68, 603, 604, 605, 606, 607, 608, 609, 610, 611, 612, 613, 614, 615, 616, 617, 618, 619, 620, 621, 622, 623, 624, 625, 626, 627, 628, 629] (by decide +kernel) (by decide +kernel)
set_option maxRecDepth 20000 in
theorem gL_law_X5_controllerOf : GoodIn wsL_law (wsV RL 110 RX5 yX5_controllerOf wsX5_controllerOf) := goodIn_app (goodIn_of _ (by decide +kernel)) ggL_law_X5_controllerOf
set_option maxRecDepth 20000 in
theorem ggL_law_L_kindsOf : GoodIn wsL_law wsL_kindsOf := goodIn_ca (goodIn_ca (goodIn_r _ [504, 86, 410, 505, 506, 507, 2, 508, 26, 18, 509, 490, 491, 492, 493, 92, 93, 415, 416, 120, 121, 122, 17, 123, 124, 253, 254, 255, 25, 256, 257, 258, 50, 259, 51, 52, 260, 261, 262, 263, 53, 54, 264, 265, 266, 267, 268, 269, 270, 271, 272, 273, 274, 275, 276, 592, 593, 594, 595, 596, 597, 598, 599, 600, 601, 602, 641, 642, 643, 644, 645, 630, 631, 632, 633, 634] (by decide +kernel) (by decide +kernel)) (goodIn_sub (fun _ h => List.mem_append_left _ (List.mem_append_left _ (List.mem_append_right _ h))) (by decide +kernel))) (goodIn_sub (fun _ h => List.mem_append_right _ h) (by decide +kernel))
set_option maxRecDepth 20000 in
theorem gL_law_L_kindsOf : GoodIn wsL_law (va_wsS RL 111 yL_kindsOf wsL_kindsOf) := goodIn_app (goodIn_of _ (by decide +kernel)) ggL_law_L_kindsOf
set_option maxRecDepth 20000 in
theorem ggL_law_X5_kindsOf : GoodIn wsL_law wsX5_kindsOf := goodIn_r _ [513, 76, 498, 499, 500, 5, 501, 181, 167, 173, 174, 175, 353, 354, 355, 356, 75, 67, 66, 77, 78, 79, 357, 358, 359, 360, 69, 361, 362, 363, 364, 68, 603, 604, 605, 606, 607, 608, 609, 610, 611, 612, 613, 614, 615, 616, 617, 618, 619, 620, 621, 622, 623, 624, 625, 626, 627, 628, 629] (by decide +kernel) (by decide +kernel)
set_option maxRecDepth 20000 in
theorem gL_law_X5_kindsOf : GoodIn wsL_law (wsV RL 113 RX5 yX5_kindsOf wsX5_kindsOf) := goodIn_app (goodIn_of _ (by decide +kernel)) ggL_law_X5_kindsOf
set_option maxRecDepth 20000 in
theorem ggL_law_L_strengthOf : GoodIn wsL_law wsL_strengthOf := goodIn_ca (goodIn_ca (goodIn_r _ [516, 86, 410, 517, 518, 519, 2, 520, 26, 18, 252, 490, 491, 492, 493, 92, 93, 415, 416, 120, 121, 122, 17, 123, 124, 253, 254, 255, 25, 256, 257, 258, 50, 259, 51, 52, 260, 261, 262, 263, 53, 54, 264, 265, 266, 267, 268, 269, 270, 271, 272, 273, 274, 275, 276, 592, 593, 594, 595, 596, 597, 598, 599, 600, 601, 602, 641, 642, 643, 644, 645, 630, 631, 632, 633, 634] (by decide +kernel) (by decide +kernel)) (goodIn_sub (fun _ h => List.mem_append_left _ (List.mem_append_left _ (List.mem_append_right _ h))) (by decide +kernel))) (goodIn_sub (fun _ h => List.mem_append_right _ h) (by decide +kernel))
set_option maxRecDepth 20000 in
theorem gL_law_L_strengthOf : GoodIn wsL_law (va_wsS RL 114 yL_strengthOf wsL_strengthOf) := goodIn_app (goodIn_of _ (by decide +kernel)) ggL_law_L_strengthOf
