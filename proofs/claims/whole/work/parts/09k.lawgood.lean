set_option maxRecDepth 20000 in
theorem ggL_law_X5_strengthOf : GoodIn wsL_law wsX5_strengthOf := goodIn_r _ [524, 77, 498, 499, 500, 5, 501, 181, 167, 173, 174, 175, 353, 354, 355, 356, 75, 67, 76, 66, 78, 79, 357, 358, 359, 360, 69, 361, 362, 363, 364, 68, 603, 604, 605, 606, 607, 608, 609, 610, 611, 612, 613, 614, 615, 616, 617, 618, 619, 620, 621, 622, 623, 624, 625, 626, 627, 628, 629] (by decide +kernel) (by decide +kernel)
set_option maxRecDepth 20000 in
theorem gL_law_X5_strengthOf : GoodIn wsL_law (wsV RL 116 RX5 yX5_strengthOf wsX5_strengthOf) := goodIn_app (goodIn_of _ (by decide +kernel)) ggL_law_X5_strengthOf
set_option maxRecDepth 20000 in
theorem ggL_law_L_power : GoodIn wsL_law wsL_power := goodIn_ca (goodIn_r _ [527, 86, 528, 529, 530, 2, 531, 92, 93, 26, 18, 285, 287, 509, 252, 253, 254, 255, 25, 256, 257, 258, 50, 259, 51, 52, 260, 261, 262, 263, 53, 54, 264, 265, 266, 267, 268, 269, 270, 271, 272, 273, 274, 275, 276, 592, 593, 594, 595, 596, 597, 598, 599, 600, 601, 602, 630, 631, 632, 633, 634, 641, 642, 643, 644, 645] (by decide +kernel) (by decide +kernel)) (goodIn_sub (fun _ h => List.mem_append_left _ (List.mem_append_left _ (List.mem_append_right _ h))) (by decide +kernel))
set_option maxRecDepth 20000 in
theorem gL_law_L_power : GoodIn wsL_law (va_wsS RL 117 yL_power wsL_power) := goodIn_app (goodIn_of _ (by decide +kernel)) ggL_law_L_power
set_option maxRecDepth 20000 in
theorem ggL_law_X5_power : GoodIn wsL_law wsX5_power := goodIn_r _ [535, 167, 181, 75, 76, 77, 173, 174, 5, 175, 353, 354, 355, 356, 67, 66, 78, 79, 357, 358, 359, 360, 69, 361, 362, 363, 364, 68, 603, 604, 605, 606, 607, 608, 609, 610, 611, 612, 613, 614, 615, 616, 617, 618, 619, 620, 621, 622, 623, 624, 625, 626, 627, 628, 629] (by decide +kernel) (by decide +kernel)
set_option maxRecDepth 20000 in
theorem gL_law_X5_power : GoodIn wsL_law (wsV RL 119 RX5 yX5_power wsX5_power) := goodIn_app (goodIn_of _ (by decide +kernel)) ggL_law_X5_power
set_option maxRecDepth 20000 in
theorem ggL_law_X4_stack : GoodIn wsL_law wsX4_stack := goodIn_r _ [539, 22, 98, 592, 593, 594, 595, 596, 597, 598, 599, 600, 601, 602, 635, 636, 637, 638, 639, 640] (by decide +kernel) (by decide +kernel)
set_option maxRecDepth 20000 in
theorem gL_law_X4_stack : GoodIn wsL_law (wsV RL 120 RX4 yX4_stack wsX4_stack) := goodIn_app (goodIn_of _ (by decide +kernel)) ggL_law_X4_stack
set_option maxRecDepth 20000 in
theorem ggL_law_X5_stack : GoodIn wsL_law wsX5_stack := goodIn_r _ [543, 167, 169, 603, 604, 605, 606, 607, 608, 609, 610, 611, 612, 613, 614, 615, 616, 617, 618, 619, 620, 621, 622, 623, 624, 625, 626, 627, 628, 629] (by decide +kernel) (by decide +kernel)
set_option maxRecDepth 20000 in
theorem gL_law_X5_stack : GoodIn wsL_law (wsV RL 123 RX5 yX5_stack wsX5_stack) := goodIn_app (goodIn_of _ (by decide +kernel)) ggL_law_X5_stack
set_option maxRecDepth 20000 in
theorem ggL_law_L_entryCard : GoodIn wsL_law wsL_entryCard := goodIn_ca (goodIn_r _ [546, 86, 547, 548, 549, 2, 550, 92, 93, 22, 208, 125, 126, 127, 21, 128, 129, 130, 131, 132, 133, 134, 592, 593, 594, 595, 596, 597, 598, 599, 600, 601, 602, 635, 636, 637, 638, 639, 640] (by decide +kernel) (by decide +kernel)) (goodIn_sub (fun _ h => List.mem_append_left _ (List.mem_append_left _ (List.mem_append_right _ h))) (by decide +kernel))
set_option maxRecDepth 20000 in
theorem gL_law_L_entryCard : GoodIn wsL_law (va_wsS RL 124 yL_entryCard wsL_entryCard) := goodIn_app (goodIn_of _ (by decide +kernel)) ggL_law_L_entryCard
set_option maxRecDepth 20000 in
theorem ggL_law_X5_entryCard : GoodIn wsL_law wsX5_entryCard := goodIn_r _ [554, 70, 169, 555, 556, 557, 5, 558, 167, 173, 174, 175, 603, 604, 605, 606, 607, 608, 609, 610, 611, 612, 613, 614, 615, 616, 617, 618, 619, 620, 621, 622, 623, 624, 625, 626, 627, 628, 629] (by decide +kernel) (by decide +kernel)
set_option maxRecDepth 20000 in
theorem gL_law_X5_entryCard : GoodIn wsL_law (wsV RL 126 RX5 yX5_entryCard wsX5_entryCard) := goodIn_app (goodIn_of _ (by decide +kernel)) ggL_law_X5_entryCard
set_option maxRecDepth 20000 in
theorem ggL_law_L_isTrigger : GoodIn wsL_law wsL_isTrigger := goodIn_ca (goodIn_r _ [561, 86, 562, 563, 564, 2, 565, 92, 93, 22, 119, 125, 126, 127, 21, 128, 129, 130, 131, 132, 133, 134, 592, 593, 594, 595, 596, 597, 598, 599, 600, 601, 602, 635, 636, 637, 638, 639, 640] (by decide +kernel) (by decide +kernel)) (goodIn_sub (fun _ h => List.mem_append_left _ (List.mem_append_left _ (List.mem_append_right _ h))) (by decide +kernel))
set_option maxRecDepth 20000 in
theorem gL_law_L_isTrigger : GoodIn wsL_law (va_wsS RL 127 yL_isTrigger wsL_isTrigger) := goodIn_app (goodIn_of _ (by decide +kernel)) ggL_law_L_isTrigger
set_option maxRecDepth 20000 in
theorem ggL_law_X5_isTrigger : GoodIn wsL_law wsX5_isTrigger := goodIn_r _ [569, 71, 169, 555, 556, 557, 5, 558, 167, 173, 174, 175, 603, 604, 605, 606, 607, 608, 609, 610, 611, 612, 613, 614, 615, 616, 617, 618, 619, 620, 621, 622, 623, 624, 625, 626, 627, 628, 629] (by decide +kernel) (by decide +kernel)
set_option maxRecDepth 20000 in
theorem gL_law_X5_isTrigger : GoodIn wsL_law (wsV RL 129 RX5 yX5_isTrigger wsX5_isTrigger) := goodIn_app (goodIn_of _ (by decide +kernel)) ggL_law_X5_isTrigger
set_option maxRecDepth 20000 in
theorem ggL_law_L_entryPlayer : GoodIn wsL_law wsL_entryPlayer := goodIn_ca (goodIn_r _ [572, 86, 573, 574, 575, 2, 576, 92, 93, 22, 209, 125, 126, 127, 21, 128, 129, 130, 131, 132, 133, 134, 592, 593, 594, 595, 596, 597, 598, 599, 600, 601, 602, 635, 636, 637, 638, 639, 640] (by decide +kernel) (by decide +kernel)) (goodIn_sub (fun _ h => List.mem_append_left _ (List.mem_append_left _ (List.mem_append_right _ h))) (by decide +kernel))
set_option maxRecDepth 20000 in
theorem gL_law_L_entryPlayer : GoodIn wsL_law (va_wsS RL 130 yL_entryPlayer wsL_entryPlayer) := goodIn_app (goodIn_of _ (by decide +kernel)) ggL_law_L_entryPlayer
set_option maxRecDepth 20000 in
theorem ggL_law_X5_entryPlayer : GoodIn wsL_law wsX5_entryPlayer := goodIn_r _ [580, 72, 169, 555, 556, 557, 5, 558, 167, 173, 174, 175, 603, 604, 605, 606, 607, 608, 609, 610, 611, 612, 613, 614, 615, 616, 617, 618, 619, 620, 621, 622, 623, 624, 625, 626, 627, 628, 629] (by decide +kernel) (by decide +kernel)
set_option maxRecDepth 20000 in
theorem gL_law_X5_entryPlayer : GoodIn wsL_law (wsV RL 132 RX5 yX5_entryPlayer wsX5_entryPlayer) := goodIn_app (goodIn_of _ (by decide +kernel)) ggL_law_X5_entryPlayer
set_option maxRecDepth 20000 in
theorem ggL_law_L_entryTarget : GoodIn wsL_law wsL_entryTarget := goodIn_ca (goodIn_r _ [583, 86, 584, 585, 586, 2, 587, 92, 93, 22, 125, 126, 127, 21, 128, 129, 130, 131, 132, 133, 134, 308, 309, 310, 311, 98, 210, 208, 18, 277, 278, 279, 280, 46, 244, 245, 246, 17, 247, 124, 37, 592, 593, 594, 595, 596, 597, 598, 599, 600, 601, 602, 635, 636, 637, 638, 639, 640, 630, 631, 632, 633, 634] (by decide +kernel) (by decide +kernel)) (goodIn_sub (fun _ h => List.mem_append_left _ (List.mem_append_left _ (List.mem_append_right _ h))) (by decide +kernel))
set_option maxRecDepth 20000 in
theorem gL_law_L_entryTarget : GoodIn wsL_law (va_wsS RL 133 yL_entryTarget wsL_entryTarget) := goodIn_app (goodIn_of _ (by decide +kernel)) ggL_law_L_entryTarget
set_option maxRecDepth 20000 in
theorem ggL_law_X5_entryTarget : GoodIn wsL_law wsX5_entryTarget := goodIn_r _ [591, 169, 555, 556, 557, 5, 558, 167, 173, 174, 175, 398, 399, 400, 401, 70, 71, 74, 361, 362, 363, 364, 181, 68, 381, 382, 383, 384, 73, 603, 604, 605, 606, 607, 608, 609, 610, 611, 612, 613, 614, 615, 616, 617, 618, 619, 620, 621, 622, 623, 624, 625, 626, 627, 628, 629] (by decide +kernel) (by decide +kernel)
set_option maxRecDepth 20000 in
theorem gL_law_X5_entryTarget : GoodIn wsL_law (wsV RL 135 RX5 yX5_entryTarget wsX5_entryTarget) := goodIn_app (goodIn_of _ (by decide +kernel)) ggL_law_X5_entryTarget
