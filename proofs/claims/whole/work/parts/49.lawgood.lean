set_option maxRecDepth 20000 in
theorem ggL_law_X4_init : GoodIn wsL_law wsX4_init := goodIn_r _ [9, 10, 11, 12, 13, 14, 15, 16, 17, 18, 19, 20, 21, 22, 23, 24, 25, 26, 27, 28, 29, 30, 31, 32, 33, 34, 35, 36, 37, 38, 39, 40, 41, 42, 43, 44, 45, 46, 47, 48, 49, 50, 51, 52, 53, 54, 55, 56, 57, 58, 59, 60, 592, 593, 594, 595, 596, 597, 598, 599, 600, 601, 602, 630, 631, 632, 633, 634, 635, 636, 637, 638, 639, 640, 641, 642, 643, 644, 645, 646, 647, 648, 649, 650] (by decide +kernel) (by decide +kernel)
set_option maxRecDepth 20000 in
theorem gL_law_X4_init : GoodIn wsL_law (wsX4_init) := ggL_law_X4_init
set_option maxRecDepth 20000 in
theorem ggL_law_X5_init : GoodIn wsL_law wsX5_init := goodIn_r _ [63, 64, 11, 12, 13, 65, 66, 67, 68, 69, 70, 42, 71, 72, 73, 74, 75, 76, 77, 78, 79, 80, 81, 603, 604, 605, 606, 607, 608, 609, 610, 611, 612, 613, 614, 615, 616, 617, 618, 619, 620, 621, 622, 623, 624, 625, 626, 627, 628, 629] (by decide +kernel) (by decide +kernel)
set_option maxRecDepth 20000 in
theorem gL_law_X5_init : GoodIn wsL_law (wsX5_init) := ggL_law_X5_init
set_option maxRecDepth 20000 in
theorem ggL_law_L_play : GoodIn wsL_law wsL_play := goodIn_ca (goodIn_ca (goodIn_r _ [85, 86, 87, 88, 89, 90, 2, 91, 92, 93, 94, 95, 96, 22, 30, 97, 98, 99, 100, 101, 102, 103, 104, 105, 106, 107, 108, 109, 110, 14, 111, 112, 113, 114, 115, 116, 117, 118, 18, 119, 120, 121, 122, 17, 123, 124, 125, 126, 127, 21, 128, 129, 130, 131, 132, 133, 134, 135, 136, 137, 138, 139, 140, 141, 142, 143, 144, 145, 146, 147, 148, 149, 150, 151, 152, 153, 41, 43, 44, 45, 46, 154, 155, 156, 29, 157, 158, 159, 160, 161, 162, 592, 593, 594, 595, 596, 597, 598, 599, 600, 601, 602, 635, 636, 637, 638, 639, 640, 630, 631, 632, 633, 634, 646, 647, 648, 649, 650] (by decide +kernel) (by decide +kernel)) (goodIn_sub (fun _ h => List.mem_append_left _ (List.mem_append_left _ (List.mem_append_right _ h))) (by decide +kernel))) (goodIn_sub (fun _ h => List.mem_append_left _ (List.mem_append_right _ h)) (by decide +kernel))
set_option maxRecDepth 20000 in
theorem gL_law_L_play : GoodIn wsL_law (va_wsS RL 61 yL_play wsL_play) := goodIn_app (goodIn_of _ (by decide +kernel)) ggL_law_L_play
set_option maxRecDepth 20000 in
theorem ggL_law_X5_play : GoodIn wsL_law wsX5_play := goodIn_r _ [166, 167, 65, 168, 70, 169, 71, 72, 170, 73, 74, 68, 171, 172, 173, 174, 5, 175, 176, 177, 178, 179, 180, 181, 182, 183, 184, 603, 604, 605, 606, 607, 608, 609, 610, 611, 612, 613, 614, 615, 616, 617, 618, 619, 620, 621, 622, 623, 624, 625, 626, 627, 628, 629] (by decide +kernel) (by decide +kernel)
set_option maxRecDepth 20000 in
theorem gL_law_X5_play : GoodIn wsL_law (wsV RL 66 RX5 yX5_play wsX5_play) := goodIn_app (goodIn_of _ (by decide +kernel)) ggL_law_X5_play
set_option maxRecDepth 20000 in
theorem ggL_law_X5_thrown : GoodIn wsL_law wsX5_thrown := goodIn_r _ [188, 167, 603, 604, 605, 606, 607, 608, 609, 610, 611, 612, 613, 614, 615, 616, 617, 618, 619, 620, 621, 622, 623, 624, 625, 626, 627, 628, 629] (by decide +kernel) (by decide +kernel)
set_option maxRecDepth 20000 in
theorem gL_law_X5_thrown : GoodIn wsL_law (wsV RL 67 RX5 yX5_thrown wsX5_thrown) := goodIn_app (goodIn_of _ (by decide +kernel)) ggL_law_X5_thrown
set_option maxRecDepth 20000 in
theorem ggL_law_L_obstacle : GoodIn wsL_law wsL_obstacle := goodIn_ca (goodIn_r _ [191, 86, 192, 193, 194, 2, 195, 92, 93, 99, 100, 101, 102, 22, 98, 96, 103, 104, 105, 106, 107, 108, 109, 110, 14, 111, 112, 113, 114, 115, 116, 117, 118, 18, 119, 120, 121, 122, 17, 123, 124, 125, 126, 127, 21, 128, 129, 130, 131, 132, 133, 134, 592, 593, 594, 595, 596, 597, 598, 599, 600, 601, 602, 635, 636, 637, 638, 639, 640, 630, 631, 632, 633, 634] (by decide +kernel) (by decide +kernel)) (goodIn_sub (fun _ h => List.mem_append_left _ (List.mem_append_left _ (List.mem_append_right _ h))) (by decide +kernel))
set_option maxRecDepth 20000 in
theorem gL_law_L_obstacle : GoodIn wsL_law (va_wsS RL 71 yL_obstacle wsL_obstacle) := goodIn_app (goodIn_of _ (by decide +kernel)) ggL_law_L_obstacle
set_option maxRecDepth 20000 in
theorem ggL_law_X5_obstacle : GoodIn wsL_law wsX5_obstacle := goodIn_r _ [199, 167, 173, 174, 5, 175, 176, 177, 178, 179, 169, 168, 180, 65, 181, 71, 182, 183, 184, 603, 604, 605, 606, 607, 608, 609, 610, 611, 612, 613, 614, 615, 616, 617, 618, 619, 620, 621, 622, 623, 624, 625, 626, 627, 628, 629] (by decide +kernel) (by decide +kernel)
set_option maxRecDepth 20000 in
theorem gL_law_X5_obstacle : GoodIn wsL_law (wsV RL 73 RX5 yX5_obstacle wsX5_obstacle) := goodIn_app (goodIn_of _ (by decide +kernel)) ggL_law_X5_obstacle
set_option maxRecDepth 20000 in
theorem ggL_law_X4_pass : GoodIn wsL_law wsX4_pass := goodIn_r _ [203, 97, 96, 22, 98, 160, 161, 2, 162, 204, 205, 206, 207, 208, 119, 209, 210, 103, 211, 212, 213, 21, 214, 129, 41, 43, 44, 45, 46, 215, 216, 217, 218, 18, 135, 136, 137, 138, 14, 219, 220, 221, 222, 145, 146, 147, 148, 149, 223, 224, 225, 17, 226, 124, 34, 35, 36, 37, 227, 228, 229, 230, 231, 232, 233, 234, 235, 236, 237, 238, 239, 121, 122, 123, 240, 241, 242, 243, 104, 105, 106, 244, 245, 246, 247, 248, 249, 250, 251, 26, 252, 120, 253, 254, 255, 25, 256, 257, 258, 50, 259, 51, 52, 260, 261, 262, 263, 53, 54, 264, 265, 266, 267, 268, 269, 270, 271, 272, 273, 274, 275, 276, 277, 278, 279, 280, 130, 131, 132, 133, 134, 126, 127, 128, 281, 282, 283, 284, 285, 286, 287, 288, 289, 290, 291, 150, 151, 152, 153, 292, 293, 294, 295, 30, 296, 297, 298, 299, 300, 301, 29, 302, 58, 303, 304, 305, 306, 307, 308, 309, 310, 311, 312, 313, 314, 315, 158, 60, 316, 317, 318, 319, 154, 155, 156, 157, 159, 320, 321, 322, 323, 324, 325, 326, 327, 328, 329, 330, 331, 332, 592, 593, 594, 595, 596, 597, 598, 599, 600, 601, 602, 635, 636, 637, 638, 639, 640, 630, 631, 632, 633, 634, 641, 642, 643, 644, 645, 646, 647, 648, 649, 650] (by decide +kernel) (by decide +kernel)
set_option maxRecDepth 20000 in
theorem gL_law_X4_pass : GoodIn wsL_law (wsV RL 74 RX4 yX4_pass wsX4_pass) := goodIn_app (goodIn_of _ (by decide +kernel)) ggL_law_X4_pass
set_option maxRecDepth 20000 in
theorem ggL_law_X5_pass : GoodIn wsL_law wsX5_pass := goodIn_r _ [336, 167, 171, 168, 169, 337, 338, 339, 5, 340, 70, 72, 74, 71, 180, 341, 342, 343, 344, 65, 345, 346, 347, 348, 181, 66, 67, 170, 68, 69, 349, 350, 351, 352, 75, 353, 354, 355, 356, 76, 77, 78, 79, 357, 358, 359, 360, 361, 362, 363, 364, 365, 366, 367, 368, 73, 369, 370, 371, 372, 373, 374, 375, 376, 377, 378, 379, 380, 381, 382, 383, 384, 385, 386, 387, 388, 389, 390, 391, 392, 172, 80, 81, 393, 394, 395, 396, 397, 398, 399, 400, 401, 402, 403, 404, 405, 406, 603, 604, 605, 606, 607, 608, 609, 610, 611, 612, 613, 614, 615, 616, 617, 618, 619, 620, 621, 622, 623, 624, 625, 626, 627, 628, 629] (by decide +kernel) (by decide +kernel)
set_option maxRecDepth 20000 in
theorem gL_law_X5_pass : GoodIn wsL_law (wsV RL 77 RX5 yX5_pass wsX5_pass) := goodIn_app (goodIn_of _ (by decide +kernel)) ggL_law_X5_pass
set_option maxRecDepth 20000 in
theorem ggL_law_L_settle : GoodIn wsL_law wsL_settle := goodIn_ca (goodIn_r _ [409, 410, 411, 412, 413, 2, 414, 415, 416, 22, 98, 204, 205, 206, 207, 208, 119, 209, 210, 97, 103, 96, 211, 212, 213, 21, 214, 129, 41, 43, 44, 45, 46, 215, 216, 217, 218, 18, 135, 136, 137, 138, 14, 219, 220, 221, 222, 145, 146, 147, 148, 149, 223, 224, 225, 17, 226, 124, 34, 35, 36, 37, 227, 228, 229, 230, 231, 232, 233, 234, 235, 236, 237, 238, 239, 121, 122, 123, 240, 241, 242, 243, 104, 105, 106, 244, 245, 246, 247, 248, 249, 250, 251, 26, 252, 120, 253, 254, 255, 25, 256, 257, 258, 50, 259, 51, 52, 260, 261, 262, 263, 53, 54, 264, 265, 266, 267, 268, 269, 270, 271, 272, 273, 274, 275, 276, 277, 278, 279, 280, 130, 131, 132, 133, 134, 126, 127, 128, 281, 282, 283, 284, 285, 286, 287, 288, 289, 290, 291, 150, 151, 152, 153, 160, 161, 162, 292, 293, 294, 295, 30, 296, 297, 298, 299, 300, 301, 29, 302, 58, 303, 304, 305, 306, 307, 308, 309, 310, 311, 312, 313, 314, 315, 158, 60, 316, 317, 318, 319, 154, 155, 156, 157, 159, 320, 321, 322, 323, 324, 325, 326, 327, 592, 593, 594, 595, 596, 597, 598, 599, 600, 601, 602, 635, 636, 637, 638, 639, 640, 630, 631, 632, 633, 634, 641, 642, 643, 644, 645, 646, 647, 648, 649, 650] (by decide +kernel) (by decide +kernel)) (goodIn_sub (fun _ h => List.mem_append_right _ h) (by decide +kernel))
set_option maxRecDepth 20000 in
theorem gL_law_L_settle : GoodIn wsL_law (va_wsS RL 78 yL_settle wsL_settle) := goodIn_app (goodIn_of _ (by decide +kernel)) ggL_law_L_settle
set_option maxRecDepth 20000 in
theorem ggL_law_X5_settle : GoodIn wsL_law wsX5_settle := goodIn_r _ [420, 167, 169, 173, 174, 5, 175, 337, 338, 339, 340, 70, 72, 74, 71, 180, 168, 171, 341, 342, 343, 344, 65, 345, 346, 347, 348, 181, 66, 67, 170, 68, 69, 349, 350, 351, 352, 75, 353, 354, 355, 356, 76, 77, 78, 79, 357, 358, 359, 360, 361, 362, 363, 364, 365, 366, 367, 368, 73, 369, 370, 371, 372, 373, 374, 375, 376, 377, 378, 379, 380, 381, 382, 383, 384, 385, 386, 387, 388, 389, 390, 391, 392, 172, 80, 81, 393, 394, 395, 396, 397, 398, 399, 400, 401, 603, 604, 605, 606, 607, 608, 609, 610, 611, 612, 613, 614, 615, 616, 617, 618, 619, 620, 621, 622, 623, 624, 625, 626, 627, 628, 629] (by decide +kernel) (by decide +kernel)
set_option maxRecDepth 20000 in
theorem gL_law_X5_settle : GoodIn wsL_law (wsV RL 81 RX5 yX5_settle wsX5_settle) := goodIn_app (goodIn_of _ (by decide +kernel)) ggL_law_X5_settle
set_option maxRecDepth 20000 in
theorem ggL_law_X4_turn : GoodIn wsL_law wsX4_turn := goodIn_r _ [424, 103, 592, 593, 594, 595, 596, 597, 598, 599, 600, 601, 602] (by decide +kernel) (by decide +kernel)
set_option maxRecDepth 20000 in
theorem gL_law_X4_turn : GoodIn wsL_law (wsV RL 82 RX4 yX4_turn wsX4_turn) := goodIn_app (goodIn_of _ (by decide +kernel)) ggL_law_X4_turn
set_option maxRecDepth 20000 in
theorem ggL_law_X5_turn : GoodIn wsL_law wsX5_turn := goodIn_r _ [428, 167, 180, 603, 604, 605, 606, 607, 608, 609, 610, 611, 612, 613, 614, 615, 616, 617, 618, 619, 620, 621, 622, 623, 624, 625, 626, 627, 628, 629] (by decide +kernel) (by decide +kernel)
set_option maxRecDepth 20000 in
theorem gL_law_X5_turn : GoodIn wsL_law (wsV RL 85 RX5 yX5_turn wsX5_turn) := goodIn_app (goodIn_of _ (by decide +kernel)) ggL_law_X5_turn
set_option maxRecDepth 20000 in
theorem ggL_law_X4_acting : GoodIn wsL_law wsX4_acting := goodIn_r _ [432, 96, 592, 593, 594, 595, 596, 597, 598, 599, 600, 601, 602] (by decide +kernel) (by decide +kernel)
set_option maxRecDepth 20000 in
theorem gL_law_X4_acting : GoodIn wsL_law (wsV RL 86 RX4 yX4_acting wsX4_acting) := goodIn_app (goodIn_of _ (by decide +kernel)) ggL_law_X4_acting
set_option maxRecDepth 20000 in
theorem ggL_law_X5_acting : GoodIn wsL_law wsX5_acting := goodIn_r _ [436, 167, 168, 603, 604, 605, 606, 607, 608, 609, 610, 611, 612, 613, 614, 615, 616, 617, 618, 619, 620, 621, 622, 623, 624, 625, 626, 627, 628, 629] (by decide +kernel) (by decide +kernel)
set_option maxRecDepth 20000 in
theorem gL_law_X5_acting : GoodIn wsL_law (wsV RL 89 RX5 yX5_acting wsX5_acting) := goodIn_app (goodIn_of _ (by decide +kernel)) ggL_law_X5_acting
set_option maxRecDepth 20000 in
theorem ggL_law_X4_rounds : GoodIn wsL_law wsX4_rounds := goodIn_r _ [440, 332, 592, 593, 594, 595, 596, 597, 598, 599, 600, 601, 602] (by decide +kernel) (by decide +kernel)
set_option maxRecDepth 20000 in
theorem gL_law_X4_rounds : GoodIn wsL_law (wsV RL 90 RX4 yX4_rounds wsX4_rounds) := goodIn_app (goodIn_of _ (by decide +kernel)) ggL_law_X4_rounds
set_option maxRecDepth 20000 in
theorem ggL_law_X5_rounds : GoodIn wsL_law wsX5_rounds := goodIn_r _ [444, 167, 406, 603, 604, 605, 606, 607, 608, 609, 610, 611, 612, 613, 614, 615, 616, 617, 618, 619, 620, 621, 622, 623, 624, 625, 626, 627, 628, 629] (by decide +kernel) (by decide +kernel)
set_option maxRecDepth 20000 in
theorem gL_law_X5_rounds : GoodIn wsL_law (wsV RL 93 RX5 yX5_rounds wsX5_rounds) := goodIn_app (goodIn_of _ (by decide +kernel)) ggL_law_X5_rounds
set_option maxRecDepth 20000 in
theorem ggL_law_X4_loops : GoodIn wsL_law wsX4_loops := goodIn_r _ [448, 298, 592, 593, 594, 595, 596, 597, 598, 599, 600, 601, 602] (by decide +kernel) (by decide +kernel)
set_option maxRecDepth 20000 in
theorem gL_law_X4_loops : GoodIn wsL_law (wsV RL 94 RX4 yX4_loops wsX4_loops) := goodIn_app (goodIn_of _ (by decide +kernel)) ggL_law_X4_loops
set_option maxRecDepth 20000 in
theorem ggL_law_X5_loops : GoodIn wsL_law wsX5_loops := goodIn_r _ [452, 167, 393, 603, 604, 605, 606, 607, 608, 609, 610, 611, 612, 613, 614, 615, 616, 617, 618, 619, 620, 621, 622, 623, 624, 625, 626, 627, 628, 629] (by decide +kernel) (by decide +kernel)
set_option maxRecDepth 20000 in
theorem gL_law_X5_loops : GoodIn wsL_law (wsV RL 97 RX5 yX5_loops wsX5_loops) := goodIn_app (goodIn_of _ (by decide +kernel)) ggL_law_X5_loops
set_option maxRecDepth 20000 in
theorem ggL_law_L_coins : GoodIn wsL_law wsL_coins := goodIn_ca (goodIn_r _ [455, 86, 456, 457, 458, 2, 459, 92, 93, 14, 592, 593, 594, 595, 596, 597, 598, 599, 600, 601, 602] (by decide +kernel) (by decide +kernel)) (goodIn_sub (fun _ h => List.mem_append_left _ (List.mem_append_left _ (List.mem_append_right _ h))) (by decide +kernel))
set_option maxRecDepth 20000 in
theorem gL_law_L_coins : GoodIn wsL_law (va_wsS RL 98 yL_coins wsL_coins) := goodIn_app (goodIn_of _ (by decide +kernel)) ggL_law_L_coins
set_option maxRecDepth 20000 in
theorem ggL_law_X5_coins : GoodIn wsL_law wsX5_coins := goodIn_r _ [463, 167, 65, 173, 174, 5, 175, 603, 604, 605, 606, 607, 608, 609, 610, 611, 612, 613, 614, 615, 616, 617, 618, 619, 620, 621, 622, 623, 624, 625, 626, 627, 628, 629] (by decide +kernel) (by decide +kernel)
set_option maxRecDepth 20000 in
theorem gL_law_X5_coins : GoodIn wsL_law (wsV RL 100 RX5 yX5_coins wsX5_coins) := goodIn_app (goodIn_of _ (by decide +kernel)) ggL_law_X5_coins
set_option maxRecDepth 20000 in
theorem ggL_law_X4_things : GoodIn wsL_law wsX4_things := goodIn_r _ [467, 18, 285, 592, 593, 594, 595, 596, 597, 598, 599, 600, 601, 602, 630, 631, 632, 633, 634] (by decide +kernel) (by decide +kernel)
set_option maxRecDepth 20000 in
theorem gL_law_X4_things : GoodIn wsL_law (wsV RL 101 RX4 yX4_things wsX4_things) := goodIn_app (goodIn_of _ (by decide +kernel)) ggL_law_X4_things
set_option maxRecDepth 20000 in
theorem ggL_law_X5_things : GoodIn wsL_law wsX5_things := goodIn_r _ [471, 167, 181, 603, 604, 605, 606, 607, 608, 609, 610, 611, 612, 613, 614, 615, 616, 617, 618, 619, 620, 621, 622, 623, 624, 625, 626, 627, 628, 629] (by decide +kernel) (by decide +kernel)
set_option maxRecDepth 20000 in
theorem gL_law_X5_things : GoodIn wsL_law (wsV RL 104 RX5 yX5_things wsX5_things) := goodIn_app (goodIn_of _ (by decide +kernel)) ggL_law_X5_things
set_option maxRecDepth 20000 in
theorem ggL_law_L_cardOf : GoodIn wsL_law wsL_cardOf := goodIn_ca (goodIn_r _ [474, 86, 475, 476, 477, 2, 478, 92, 93, 18, 286, 120, 121, 122, 17, 123, 124, 592, 593, 594, 595, 596, 597, 598, 599, 600, 601, 602, 630, 631, 632, 633, 634] (by decide +kernel) (by decide +kernel)) (goodIn_sub (fun _ h => List.mem_append_left _ (List.mem_append_left _ (List.mem_append_right _ h))) (by decide +kernel))
set_option maxRecDepth 20000 in
theorem gL_law_L_cardOf : GoodIn wsL_law (va_wsS RL 105 yL_cardOf wsL_cardOf) := goodIn_app (goodIn_of _ (by decide +kernel)) ggL_law_L_cardOf
set_option maxRecDepth 20000 in
theorem ggL_law_X5_cardOf : GoodIn wsL_law wsX5_cardOf := goodIn_r _ [482, 181, 167, 66, 173, 174, 5, 175, 603, 604, 605, 606, 607, 608, 609, 610, 611, 612, 613, 614, 615, 616, 617, 618, 619, 620, 621, 622, 623, 624, 625, 626, 627, 628, 629] (by decide +kernel) (by decide +kernel)
set_option maxRecDepth 20000 in
theorem gL_law_X5_cardOf : GoodIn wsL_law (wsV RL 107 RX5 yX5_cardOf wsX5_cardOf) := goodIn_app (goodIn_of _ (by decide +kernel)) ggL_law_X5_cardOf
set_option maxRecDepth 20000 in
theorem ggL_law_L_controllerOf : GoodIn wsL_law wsL_controllerOf := goodIn_ca (goodIn_ca (goodIn_r _ [485, 86, 410, 486, 487, 488, 2, 489, 26, 18, 287, 490, 491, 492, 493, 92, 93, 415, 416, 120, 121, 122, 17, 123, 124, 253, 254, 255, 25, 256, 257, 258, 50, 259, 51, 52, 260, 261, 262, 263, 53, 54, 264, 265, 266, 267, 268, 269, 270, 271, 272, 273, 274, 275, 276, 592, 593, 594, 595, 596, 597, 598, 599, 600, 601, 602, 641, 642, 643, 644, 645, 630, 631, 632, 633, 634] (by decide +kernel) (by decide +kernel)) (goodIn_sub (fun _ h => List.mem_append_left _ (List.mem_append_left _ (List.mem_append_right _ h))) (by decide +kernel))) (goodIn_sub (fun _ h => List.mem_append_right _ h) (by decide +kernel))
set_option maxRecDepth 20000 in
theorem gL_law_L_controllerOf : GoodIn wsL_law (va_wsS RL 108 yL_controllerOf wsL_controllerOf) := goodIn_app (goodIn_of _ (by decide +kernel)) ggL_law_L_controllerOf
set_option maxRecDepth 20000 in
theorem ggL_law_X5_controllerOf : GoodIn wsL_law wsX5_controllerOf := goodIn_r _ [497, 75, 498, 499, 500, 5, 501, 181, 167, 173, 174, 175, 353, 354, 355, 356, 67, 76, 66, 77, 78, 79, 357, 358, 359, 360, 69, 361, 362, 363, 364, 68, 603, 604, 605, 606, 607, 608, 609, 610, 611, 612, 613, 614, 615, 616, 617, 618, 619, 620, 621, 622, 623, 624, 625, 626, 627, 628, 629] (by decide +kernel) (by decide +kernel)
set_option maxRecDepth 20000 in
theorem gL_law_X5_controllerOf : GoodIn wsL_law (wsV RL 110 RX5 yX5_controllerOf wsX5_controllerOf) := goodIn_app (goodIn_of _ (by decide +kernel)) ggL_law_X5_controllerOf
set_option maxRecDepth 20000 in
theorem ggL_law_L_kindsOf : GoodIn wsL_law wsL_kindsOf := goodIn_ca (goodIn_ca (goodIn_r _ [504, 86, 410, 505, 506, 507, 2, 508, 26, 18, 509, 490, 491, 492, 493, 92, 93, 415, 416, 120, 121, 122, 17, 123, 124, 253, 254, 255, 25, 256, 257, 258, 50, 259, 51, 52, 260, 261, 262, 263, 53, 54, 264, 265, 266, 267, 268, 269, 270, 271, 272, 273, 274, 275, 276, 592, 593, 594, 595, 596, 597, 598, 599, 600, 601, 602, 641, 642, 643, 644, 645, 630, 631, 632, 633, 634] (by decide +kernel) (by decide +kernel)) (goodIn_sub (fun _ h => List.mem_append_left _ (List.mem_append_left _ (List.mem_append_right _ h))) (by decide +kernel))) (goodIn_sub (fun _ h => List.mem_append_right _ h) (by decide +kernel))
set_option maxRecDepth 20000 in
theorem gL_law_L_kindsOf : GoodIn wsL_law (va_wsS RL 111 yL_kindsOf wsL_kindsOf) := goodIn_app (goodIn_of _ (by decide +kernel)) ggL_law_L_kindsOf
set_option maxRecDepth 20000 in
theorem ggL_law_X5_kindsOf : GoodIn wsL_law wsX5_kindsOf := goodIn_r _ [513, 76, 498, 499, 500, 5, 501, 181, 167, 173, 174, 175, 353, 354, 355, 356, 75, 67, 66, 77, 78, 79, 357, 358, 359, 360, 69, 361, 362, 363, 364, 68, 603, 604, 605, 606, 607, 608, 609, 610, 611, 612, 613, 614, 615, 616, 617, 618, 619, 620, 621, 622, 623, 624, 625, 626, 627, 628, 629] (by decide +kernel) (by decide +kernel)
set_option maxRecDepth 20000 in
theorem gL_law_X5_kindsOf : GoodIn wsL_law (wsV RL 113 RX5 yX5_kindsOf wsX5_kindsOf) := goodIn_app (goodIn_of _ (by decide +kernel)) ggL_law_X5_kindsOf
set_option maxRecDepth 20000 in
theorem ggL_law_L_strengthOf : GoodIn wsL_law wsL_strengthOf := goodIn_ca (goodIn_ca (goodIn_r _ [516, 86, 410, 517, 518, 519, 2, 520, 26, 18, 252, 490, 491, 492, 493, 92, 93, 415, 416, 120, 121, 122, 17, 123, 124, 253, 254, 255, 25, 256, 257, 258, 50, 259, 51, 52, 260, 261, 262, 263, 53, 54, 264, 265, 266, 267, 268, 269, 270, 271, 272, 273, 274, 275, 276, 592, 593, 594, 595, 596, 597, 598, 599, 600, 601, 602, 641, 642, 643, 644, 645, 630, 631, 632, 633, 634] (by decide +kernel) (by decide +kernel)) (goodIn_sub (fun _ h => List.mem_append_left _ (List.mem_append_left _ (List.mem_append_right _ h))) (by decide +kernel))) (goodIn_sub (fun _ h => List.mem_append_right _ h) (by decide +kernel))
set_option maxRecDepth 20000 in
theorem gL_law_L_strengthOf : GoodIn wsL_law (va_wsS RL 114 yL_strengthOf wsL_strengthOf) := goodIn_app (goodIn_of _ (by decide +kernel)) ggL_law_L_strengthOf
set_option maxRecDepth 20000 in
theorem ggL_law_X5_strengthOf : GoodIn wsL_law wsX5_strengthOf := goodIn_r _ [524, 77, 498, 499, 500, 5, 501, 181, 167, 173, 174, 175, 353, 354, 355, 356, 75, 67, 76, 66, 78, 79, 357, 358, 359, 360, 69, 361, 362, 363, 364, 68, 603, 604, 605, 606, 607, 608, 609, 610, 611, 612, 613, 614, 615, 616, 617, 618, 619, 620, 621, 622, 623, 624, 625, 626, 627, 628, 629] (by decide +kernel) (by decide +kernel)
set_option maxRecDepth 20000 in
theorem gL_law_X5_strengthOf : GoodIn wsL_law (wsV RL 116 RX5 yX5_strengthOf wsX5_strengthOf) := goodIn_app (goodIn_of _ (by decide +kernel)) ggL_law_X5_strengthOf
set_option maxRecDepth 20000 in
theorem ggL_law_L_power : GoodIn wsL_law wsL_power := goodIn_ca (goodIn_r _ [527, 86, 528, 529, 530, 2, 531, 92, 93, 26, 18, 285, 287, 509, 252, 253, 254, 255, 25, 256, 257, 258, 50, 259, 51, 52, 260, 261, 262, 263, 53, 54, 264, 265, 266, 267, 268, 269, 270, 271, 272, 273, 274, 275, 276, 592, 593, 594, 595, 596, 597, 598, 599, 600, 601, 602, 630, 631, 632, 633, 634, 641, 642, 643, 644, 645] (by decide +kernel) (by decide +kernel)) (goodIn_sub (fun _ h => List.mem_append_left _ (List.mem_append_left _ (List.mem_append_right _ h))) (by decide +kernel))
set_option maxRecDepth 20000 in
theorem gL_law_L_power : GoodIn wsL_law (va_wsS RL 117 yL_power wsL_power) := goodIn_app (goodIn_of _ (by decide +kernel)) ggL_law_L_power
set_option maxRecDepth 20000 in
theorem ggL_law_X5_power : GoodIn wsL_law wsX5_power := goodIn_r _ [535, 167, 181, 75, 76, 77, 173, 174, 5, 175, 353, 354, 355, 356, 67, 66, 78, 79, 357, 358, 359, 360, 69, 361, 362, 363, 364, 68, 603, 604, 605, 606, 607, 608, 609, 610, 611, 612, 613, 614, 615, 616, 617, 618, 619, 620, 621, 622, 623, 624, 625, 626, 627, 628, 629] (by decide +kernel) (by decide +kernel)
set_option maxRecDepth 20000 in
theorem gL_law_X5_power : GoodIn wsL_law (wsV RL 119 RX5 yX5_power wsX5_power) := goodIn_app (goodIn_of _ (by decide +kernel)) ggL_law_X5_power
set_option maxRecDepth 20000 in
theorem ggL_law_X4_stack : GoodIn wsL_law wsX4_stack := goodIn_r _ [539, 22, 98, 592, 593, 594, 595, 596, 597, 598, 599, 600, 601, 602, 635, 636, 637, 638, 639, 640] (by decide +kernel) (by decide +kernel)
set_option maxRecDepth 20000 in
theorem gL_law_X4_stack : GoodIn wsL_law (wsV RL 120 RX4 yX4_stack wsX4_stack) := goodIn_app (goodIn_of _ (by decide +kernel)) ggL_law_X4_stack
set_option maxRecDepth 20000 in
theorem ggL_law_X5_stack : GoodIn wsL_law wsX5_stack := goodIn_r _ [543, 167, 169, 603, 604, 605, 606, 607, 608, 609, 610, 611, 612, 613, 614, 615, 616, 617, 618, 619, 620, 621, 622, 623, 624, 625, 626, 627, 628, 629] (by decide +kernel) (by decide +kernel)
set_option maxRecDepth 20000 in
theorem gL_law_X5_stack : GoodIn wsL_law (wsV RL 123 RX5 yX5_stack wsX5_stack) := goodIn_app (goodIn_of _ (by decide +kernel)) ggL_law_X5_stack
set_option maxRecDepth 20000 in
theorem ggL_law_L_entryCard : GoodIn wsL_law wsL_entryCard := goodIn_ca (goodIn_r _ [546, 86, 547, 548, 549, 2, 550, 92, 93, 22, 208, 125, 126, 127, 21, 128, 129, 130, 131, 132, 133, 134, 592, 593, 594, 595, 596, 597, 598, 599, 600, 601, 602, 635, 636, 637, 638, 639, 640] (by decide +kernel) (by decide +kernel)) (goodIn_sub (fun _ h => List.mem_append_left _ (List.mem_append_left _ (List.mem_append_right _ h))) (by decide +kernel))
set_option maxRecDepth 20000 in
theorem gL_law_L_entryCard : GoodIn wsL_law (va_wsS RL 124 yL_entryCard wsL_entryCard) := goodIn_app (goodIn_of _ (by decide +kernel)) ggL_law_L_entryCard
set_option maxRecDepth 20000 in
theorem ggL_law_X5_entryCard : GoodIn wsL_law wsX5_entryCard := goodIn_r _ [554, 70, 169, 555, 556, 557, 5, 558, 167, 173, 174, 175, 603, 604, 605, 606, 607, 608, 609, 610, 611, 612, 613, 614, 615, 616, 617, 618, 619, 620, 621, 622, 623, 624, 625, 626, 627, 628, 629] (by decide +kernel) (by decide +kernel)
set_option maxRecDepth 20000 in
theorem gL_law_X5_entryCard : GoodIn wsL_law (wsV RL 126 RX5 yX5_entryCard wsX5_entryCard) := goodIn_app (goodIn_of _ (by decide +kernel)) ggL_law_X5_entryCard
set_option maxRecDepth 20000 in
theorem ggL_law_L_isTrigger : GoodIn wsL_law wsL_isTrigger := goodIn_ca (goodIn_r _ [561, 86, 562, 563, 564, 2, 565, 92, 93, 22, 119, 125, 126, 127, 21, 128, 129, 130, 131, 132, 133, 134, 592, 593, 594, 595, 596, 597, 598, 599, 600, 601, 602, 635, 636, 637, 638, 639, 640] (by decide +kernel) (by decide +kernel)) (goodIn_sub (fun _ h => List.mem_append_left _ (List.mem_append_left _ (List.mem_append_right _ h))) (by decide +kernel))
set_option maxRecDepth 20000 in
theorem gL_law_L_isTrigger : GoodIn wsL_law (va_wsS RL 127 yL_isTrigger wsL_isTrigger) := goodIn_app (goodIn_of _ (by decide +kernel)) ggL_law_L_isTrigger
set_option maxRecDepth 20000 in
theorem ggL_law_X5_isTrigger : GoodIn wsL_law wsX5_isTrigger := goodIn_r _ [569, 71, 169, 555, 556, 557, 5, 558, 167, 173, 174, 175, 603, 604, 605, 606, 607, 608, 609, 610, 611, 612, 613, 614, 615, 616, 617, 618, 619, 620, 621, 622, 623, 624, 625, 626, 627, 628, 629] (by decide +kernel) (by decide +kernel)
set_option maxRecDepth 20000 in
theorem gL_law_X5_isTrigger : GoodIn wsL_law (wsV RL 129 RX5 yX5_isTrigger wsX5_isTrigger) := goodIn_app (goodIn_of _ (by decide +kernel)) ggL_law_X5_isTrigger
set_option maxRecDepth 20000 in
theorem ggL_law_L_entryPlayer : GoodIn wsL_law wsL_entryPlayer := goodIn_ca (goodIn_r _ [572, 86, 573, 574, 575, 2, 576, 92, 93, 22, 209, 125, 126, 127, 21, 128, 129, 130, 131, 132, 133, 134, 592, 593, 594, 595, 596, 597, 598, 599, 600, 601, 602, 635, 636, 637, 638, 639, 640] (by decide +kernel) (by decide +kernel)) (goodIn_sub (fun _ h => List.mem_append_left _ (List.mem_append_left _ (List.mem_append_right _ h))) (by decide +kernel))
set_option maxRecDepth 20000 in
theorem gL_law_L_entryPlayer : GoodIn wsL_law (va_wsS RL 130 yL_entryPlayer wsL_entryPlayer) := goodIn_app (goodIn_of _ (by decide +kernel)) ggL_law_L_entryPlayer
set_option maxRecDepth 20000 in
theorem ggL_law_X5_entryPlayer : GoodIn wsL_law wsX5_entryPlayer := goodIn_r _ [580, 72, 169, 555, 556, 557, 5, 558, 167, 173, 174, 175, 603, 604, 605, 606, 607, 608, 609, 610, 611, 612, 613, 614, 615, 616, 617, 618, 619, 620, 621, 622, 623, 624, 625, 626, 627, 628, 629] (by decide +kernel) (by decide +kernel)
set_option maxRecDepth 20000 in
theorem gL_law_X5_entryPlayer : GoodIn wsL_law (wsV RL 132 RX5 yX5_entryPlayer wsX5_entryPlayer) := goodIn_app (goodIn_of _ (by decide +kernel)) ggL_law_X5_entryPlayer
set_option maxRecDepth 20000 in
theorem ggL_law_L_entryTarget : GoodIn wsL_law wsL_entryTarget := goodIn_ca (goodIn_r _ [583, 86, 584, 585, 586, 2, 587, 92, 93, 22, 125, 126, 127, 21, 128, 129, 130, 131, 132, 133, 134, 308, 309, 310, 311, 98, 210, 208, 18, 277, 278, 279, 280, 46, 244, 245, 246, 17, 247, 124, 37, 592, 593, 594, 595, 596, 597, 598, 599, 600, 601, 602, 635, 636, 637, 638, 639, 640, 630, 631, 632, 633, 634] (by decide +kernel) (by decide +kernel)) (goodIn_sub (fun _ h => List.mem_append_left _ (List.mem_append_left _ (List.mem_append_right _ h))) (by decide +kernel))
set_option maxRecDepth 20000 in
theorem gL_law_L_entryTarget : GoodIn wsL_law (va_wsS RL 133 yL_entryTarget wsL_entryTarget) := goodIn_app (goodIn_of _ (by decide +kernel)) ggL_law_L_entryTarget
set_option maxRecDepth 20000 in
theorem ggL_law_X5_entryTarget : GoodIn wsL_law wsX5_entryTarget := goodIn_r _ [591, 169, 555, 556, 557, 5, 558, 167, 173, 174, 175, 398, 399, 400, 401, 70, 71, 74, 361, 362, 363, 364, 181, 68, 381, 382, 383, 384, 73, 603, 604, 605, 606, 607, 608, 609, 610, 611, 612, 613, 614, 615, 616, 617, 618, 619, 620, 621, 622, 623, 624, 625, 626, 627, 628, 629] (by decide +kernel) (by decide +kernel)
set_option maxRecDepth 20000 in
theorem gL_law_X5_entryTarget : GoodIn wsL_law (wsV RL 135 RX5 yX5_entryTarget wsX5_entryTarget) := goodIn_app (goodIn_of _ (by decide +kernel)) ggL_law_X5_entryTarget
