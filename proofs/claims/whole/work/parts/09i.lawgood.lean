set_option maxRecDepth 20000 in
theorem ggL_law_X4_init : GoodIn wsL_law wsX4_init := goodIn_r _ [9, 10, 11, 12, 13, 14, 15, 16, 17, 18, 19, 20, 21, 22, 23, 24, 25, 26, 27, 28, 29, 30, 31, 32, 33, 34, 35, 36, 37, 38, 39, 40, 41, 42, 43, 44, 45, 46, 47, 48, 49, 50, 51, 52, 53, 54, 55, 56, 57, 58, 59, 60, 592, 593, 594, 595, 596, 597, 598, 599, 600, 601, 602, 630, 631, 632, 633, 634, 635, 636, 637, 638, 639, 640, 641, 642, 643, 644, 645, 646, 647, 648, 649, 650] (by decide +kernel) (by decide +kernel)
set_option maxRecDepth 20000 in
theorem gL_law_X4_init : GoodIn wsL_law (wsX4_init) := ggL_law_X4_init
set_option maxRecDepth 20000 in
theorem ggL_law_X5_init : GoodIn wsL_law wsX5_init := goodIn_r _ [63, 64, 11, 12, 13, 65, 66, 67, 68, 69, 70, 42, 71, 72, 73, 74, 75, 76, 77, 78, 79, 80, 81, 603, 604, 605, 606, 607, 608, 609, 610, 611, 612, 613, 614, 615, 616, 617, 618, 619, 620, 621, 622, 623, 624, 625, 626, 627, 628, 629] (by decide +kernel) (by decide +kernel)
set_option maxRecDepth 20000 in
theorem gL_law_X5_init : GoodIn wsL_law (wsX5_init) := ggL_law_X5_init
set_option maxRecDepth 20000 in
theorem ggL_law_L_play : GoodIn wsL_law wsL_play := goodIn_ca (goodIn_ca (goodIn_r _ [85, 86, 87, 88, 89, 90, 2, 91, 92, 93, 94, 95, 96, 22, 30, 97, 98, 99, 100, 101, 102, 103, 104, 105, 106, 107, 108, 109, 110, 14, 111, 112, 113, 114, 115, 116, 117, 118, 18, 119, 120, 121, 122, 17, 123, 124, 125, 126, 127, 21, 128, 129, 130, 131, 132, 133, 134, 135, 136, 137, 138, 139, 140, 141, 142, 143, 144, 145, 146, 147, 148, 149, 150, 151, 152, 153, 41, 43, 44, 45, 46, 154, 155, 156, 29, 157, 158, 159, 160, 161, 162, 592, 593, 594, 595, 596, 597, 598, 599, 600, 601, 602, 635, 636, 637, 638, 639, 640, 630, 631, 632, 633, 634, 646, 647, 648, 649, 650] (by decide +kernel) (by decide +kernel)) (goodIn_sub (fun _ h => List.mem_append_left _ (List.mem_append_left _ (List.mem_append_right _ h))) (by decide +kernel))) (goodIn_sub (fun _ h => List.mem_append_left _ (List.mem_append_right _ h)) (by decide +kernel))
set_option maxRecDepth 20000 in
theorem gL_law_L_play : GoodIn wsL_law (va_wsS RL 61 yL_play wsL_play) := goodIn_app (goodIn_of _ (by decide +kernel)) ggL_law_L_play
set_option maxRecDepth 20000 in
theorem ggL_law_X5_play : GoodIn wsL_law wsX5_play := goodIn_r _ [166, 167, 65, 168, 70, 169, 71, 72, 170, 73, 74, 68, 171, 172, 173, 174, 5, 175, 176, 177, 178, 179, 180, 181, 182, 183, 184, 603, 604, 605, 606, 607, 608, 609, 610, 611, 612, 613, 614, 615, 616, 617, 618, 619, 620, 621, 622, 623, 624, 625, 626, 627, 628, 629] (by decide +kernel) (by decide +kernel)
set_option maxRecDepth 20000 in
theorem gL_law_X5_play : GoodIn wsL_law (wsV RL 66 RX5 yX5_play wsX5_play) := goodIn_app (goodIn_of _ (by decide +kernel)) ggL_law_X5_play
set_option maxRecDepth 20000 in
theorem ggL_law_X5_thrown : GoodIn wsL_law wsX5_thrown := goodIn_r _ [188, 167, 603, 604, 605, 606, 607, 608, 609, 610, 611, 612, 613, 614, 615, 616, 617, 618, 619, 620, 621, 622, 623, 624, 625, 626, 627, 628, 629] (by decide +kernel) (by decide +kernel)
set_option maxRecDepth 20000 in
theorem gL_law_X5_thrown : GoodIn wsL_law (wsV RL 67 RX5 yX5_thrown wsX5_thrown) := goodIn_app (goodIn_of _ (by decide +kernel)) ggL_law_X5_thrown
set_option maxRecDepth 20000 in
theorem ggL_law_L_obstacle : GoodIn wsL_law wsL_obstacle := goodIn_ca (goodIn_r _ [191, 86, 192, 193, 194, 2, 195, 92, 93, 99, 100, 101, 102, 22, 98, 96, 103, 104, 105, 106, 107, 108, 109, 110, 14, 111, 112, 113, 114, 115, 116, 117, 118, 18, 119, 120, 121, 122, 17, 123, 124, 125, 126, 127, 21, 128, 129, 130, 131, 132, 133, 134, 592, 593, 594, 595, 596, 597, 598, 599, 600, 601, 602, 635, 636, 637, 638, 639, 640, 630, 631, 632, 633, 634] (by decide +kernel) (by decide +kernel)) (goodIn_sub (fun _ h => List.mem_append_left _ (List.mem_append_left _ (List.mem_append_right _ h))) (by decide +kernel))
set_option maxRecDepth 20000 in
theorem gL_law_L_obstacle : GoodIn wsL_law (va_wsS RL 71 yL_obstacle wsL_obstacle) := goodIn_app (goodIn_of _ (by decide +kernel)) ggL_law_L_obstacle
set_option maxRecDepth 20000 in
theorem ggL_law_X5_obstacle : GoodIn wsL_law wsX5_obstacle := goodIn_r _ [199, 167, 173, 174, 5, 175, 176, 177, 178, 179, 169, 168, 180, 65, 181, 71, 182, 183, 184, 603, 604, 605, 606, 607, 608, 609, 610, 611, 612, 613, 614, 615, 616, 617, 618, 619, 620, 621, 622, 623, 624, 625, 626, 627, 628, 629] (by decide +kernel) (by decide +kernel)
set_option maxRecDepth 20000 in
theorem gL_law_X5_obstacle : GoodIn wsL_law (wsV RL 73 RX5 yX5_obstacle wsX5_obstacle) := goodIn_app (goodIn_of _ (by decide +kernel)) ggL_law_X5_obstacle
set_option maxRecDepth 20000 in
theorem ggL_law_X4_pass : GoodIn wsL_law wsX4_pass := goodIn_r _ [203, 97, 96, 22, 98, 160, 161, 2, 162, 204, 205, 206, 207, 208, 119, 209, 210, 103, 211, 212, 213, 21, 214, 129, 41, 43, 44, 45, 46, 215, 216, 217, 218, 18, 135, 136, 137, 138, 14, 219, 220, 221, 222, 145, 146, 147, 148, 149, 223, 224, 225, 17, 226, 124, 34, 35, 36, 37, 227, 228, 229, 230, 231, 232, 233, 234, 235, 236, 237, 238, 239, 121, 122, 123, 240, 241, 242, 243, 104, 105, 106, 244, 245, 246, 247, 248, 249, 250, 251, 26, 252, 120, 253, 254, 255, 25, 256, 257, 258, 50, 259, 51, 52, 260, 261, 262, 263, 53, 54, 264, 265, 266, 267, 268, 269, 270, 271, 272, 273, 274, 275, 276, 277, 278, 279, 280, 130, 131, 132, 133, 134, 126, 127, 128, 281, 282, 283, 284, 285, 286, 287, 288, 289, 290, 291, 150, 151, 152, 153, 292, 293, 294, 295, 30, 296, 297, 298, 299, 300, 301, 29, 302, 58, 303, 304, 305, 306, 307, 308, 309, 310, 311, 312, 313, 314, 315, 158, 60, 316, 317, 318, 319, 154, 155, 156, 157, 159, 320, 321, 322, 323, 324, 325, 326, 327, 328, 329, 330, 331, 332, 592, 593, 594, 595, 596, 597, 598, 599, 600, 601, 602, 635, 636, 637, 638, 639, 640, 630, 631, 632, 633, 634, 641, 642, 643, 644, 645, 646, 647, 648, 649, 650] (by decide +kernel) (by decide +kernel)
set_option maxRecDepth 20000 in
theorem gL_law_X4_pass : GoodIn wsL_law (wsV RL 74 RX4 yX4_pass wsX4_pass) := goodIn_app (goodIn_of _ (by decide +kernel)) ggL_law_X4_pass
set_option maxRecDepth 20000 in
theorem ggL_law_X5_pass : GoodIn wsL_law wsX5_pass := goodIn_r _ [336, 167, 171, 168, 169, 337, 338, 339, 5, 340, 70, 72, 74, 71, 180, 341, 342, 343, 344, 65, 345, 346, 347, 348, 181, 66, 67, 170, 68, 69, 349, 350, 351, 352, 75, 353, 354, 355, 356, 76, 77, 78, 79, 357, 358, 359, 360, 361, 362, 363, 364, 365, 366, 367, 368, 73, 369, 370, 371, 372, 373, 374, 375, 376, 377, 378, 379, 380, 381, 382, 383, 384, 385, 386, 387, 388, 389, 390, 391, 392, 172, 80, 81, 393, 394, 395, 396, 397, 398, 399, 400, 401, 402, 403, 404, 405, 406, 603, 604, 605, 606, 607, 608, 609, 610, 611, 612, 613, 614, 615, 616, 617, 618, 619, 620, 621, 622, 623, 624, 625, 626, 627, 628, 629] (by decide +kernel) (by decide +kernel)
set_option maxRecDepth 20000 in
theorem gL_law_X5_pass : GoodIn wsL_law (wsV RL 77 RX5 yX5_pass wsX5_pass) := goodIn_app (goodIn_of _ (by decide +kernel)) ggL_law_X5_pass
set_option maxRecDepth 20000 in
theorem ggL_law_L_settle : GoodIn wsL_law wsL_settle := goodIn_ca (goodIn_r _ [409, 410, 411, 412, 413, 2, 414, 415, 416, 22, 98, 204, 205, 206, 207, 208, 119, 209, 210, 97, 103, 96, 211, 212, 213, 21, 214, 129, 41, 43, 44, 45, 46, 215, 216, 217, 218, 18, 135, 136, 137, 138, 14, 219, 220, 221, 222, 145, 146, 147, 148, 149, 223, 224, 225, 17, 226, 124, 34, 35, 36, 37, 227, 228, 229, 230, 231, 232, 233, 234, 235, 236, 237, 238, 239, 121, 122, 123, 240, 241, 242, 243, 104, 105, 106, 244, 245, 246, 247, 248, 249, 250, 251, 26, 252, 120, 253, 254, 255, 25, 256, 257, 258, 50, 259, 51, 52, 260, 261, 262, 263, 53, 54, 264, 265, 266, 267, 268, 269, 270, 271, 272, 273, 274, 275, 276, 277, 278, 279, 280, 130, 131, 132, 133, 134, 126, 127, 128, 281, 282, 283, 284, 285, 286, 287, 288, 289, 290, 291, 150, 151, 152, 153, 160, 161, 162, 292, 293, 294, 295, 30, 296, 297, 298, 299, 300, 301, 29, 302, 58, 303, 304, 305, 306, 307, 308, 309, 310, 311, 312, 313, 314, 315, 158, 60, 316, 317, 318, 319, 154, 155, 156, 157, 159, 320, 321, 322, 323, 324, 325, 326, 327, 592, 593, 594, 595, 596, 597, 598, 599, 600, 601, 602, 635, 636, 637, 638, 639, 640, 630, 631, 632, 633, 634, 641, 642, 643, 644, 645, 646, 647, 648, 649, 650] (by decide +kernel) (by decide +kernel)) (goodIn_sub (fun _ h => List.mem_append_right _ h) (by decide +kernel))
set_option maxRecDepth 20000 in
theorem gL_law_L_settle : GoodIn wsL_law (va_wsS RL 78 yL_settle wsL_settle) := goodIn_app (goodIn_of _ (by decide +kernel)) ggL_law_L_settle
set_option maxRecDepth 20000 in
theorem ggL_law_X5_settle : GoodIn wsL_law wsX5_settle := goodIn_r _ [420, 167, 169, 173, 174, 5, 175, 337, 338, 339, 340, 70, 72, 74, 71, 180, 168, 171, 341, 342, 343, 344, 65, 345, 346, 347, 348, 181, 66, 67, 170, 68, 69, 349, 350, 351, 352, 75, 353, 354, 355, 356, 76, 77, 78, 79, 357, 358, 359, 360, 361, 362, 363, 364, 365, 366, 367, 368, 73, 369, 370, 371, 372, 373, 374, 375, 376, 377, 378, 379, 380, 381, 382, 383, 384, 385, 386, 387, 388, 389, 390, 391, 392, 172, 80, 81, 393, 394, 395, 396, 397, 398, 399, 400, 401, 603, 604, 605, 606, 607, 608, 609, 610, 611, 612, 613, 614, 615, 616, 617, 618, 619, 620, 621, 622, 623, 624, 625, 626, 627, 628, 629] (by decide +kernel) (by decide +kernel)
set_option maxRecDepth 20000 in
theorem gL_law_X5_settle : GoodIn wsL_law (wsV RL 81 RX5 yX5_settle wsX5_settle) := goodIn_app (goodIn_of _ (by decide +kernel)) ggL_law_X5_settle
set_option maxRecDepth 20000 in
theorem ggL_law_X4_turn : GoodIn wsL_law wsX4_turn := goodIn_r _ [424, 103, 592, 593, 594, 595, 596, 597, 598, 599, 600, 601, 602] (by decide +kernel) (by decide +kernel)
set_option maxRecDepth 20000 in
theorem gL_law_X4_turn : GoodIn wsL_law (wsV RL 82 RX4 yX4_turn wsX4_turn) := goodIn_app (goodIn_of _ (by decide +kernel)) ggL_law_X4_turn
set_option maxRecDepth 20000 in
theorem ggL_law_X5_turn : GoodIn wsL_law wsX5_turn := goodIn_r _ [428, 167, 180, 603, 604, 605, 606, 607, 608, 609, 610, 611, 612, 613, 614, 615, 616, 617, 618, 619, 620, 621, 622, 623, 624, 625, 626, 627, 628, 629] (by decide +kernel) (by decide +kernel)
set_option maxRecDepth 20000 in
theorem gL_law_X5_turn : GoodIn wsL_law (wsV RL 85 RX5 yX5_turn wsX5_turn) := goodIn_app (goodIn_of _ (by decide +kernel)) ggL_law_X5_turn
set_option maxRecDepth 20000 in
theorem ggL_law_X4_acting : GoodIn wsL_law wsX4_acting := goodIn_r _ [432, 96, 592, 593, 594, 595, 596, 597, 598, 599, 600, 601, 602] (by decide +kernel) (by decide +kernel)
set_option maxRecDepth 20000 in
theorem gL_law_X4_acting : GoodIn wsL_law (wsV RL 86 RX4 yX4_acting wsX4_acting) := goodIn_app (goodIn_of _ (by decide +kernel)) ggL_law_X4_acting
set_option maxRecDepth 20000 in
theorem ggL_law_X5_acting : GoodIn wsL_law wsX5_acting := goodIn_r _ [436, 167, 168, 603, 604, 605, 606, 607, 608, 609, 610, 611, 612, 613, 614, 615, 616, 617, 618, 619, 620, 621, 622, 623, 624, 625, 626, 627, 628, 629] (by decide +kernel) (by decide +kernel)
set_option maxRecDepth 20000 in
theorem gL_law_X5_acting : GoodIn wsL_law (wsV RL 89 RX5 yX5_acting wsX5_acting) := goodIn_app (goodIn_of _ (by decide +kernel)) ggL_law_X5_acting
