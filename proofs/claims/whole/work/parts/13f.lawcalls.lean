/-! The words of each call among the law's -/
set_option maxRecDepth 20000 in
theorem ggL_law_X4_init : GoodIn wsL_law wsX4_init := goodIn_r _ [8, 9, 10, 11, 12, 13, 14, 15, 16, 17, 18, 19, 20, 21, 22, 23, 24, 25, 26, 27, 28, 29, 30, 31, 32, 33, 34, 35, 36, 37, 38, 39, 40, 41, 42, 43, 44, 45, 46, 47, 48, 49, 50, 51, 52, 53, 54, 55, 56, 57, 58, 59, 60, 61, 62, 63, 64, 65, 66, 67, 68, 69, 70, 71, 72, 73, 74, 75, 76, 77, 78, 608, 609, 610, 611, 612, 613, 614, 615, 616, 617, 618, 588, 589, 590, 591, 592, 593, 594, 595, 619, 620, 621, 622, 623, 624, 625, 626, 627, 628, 629, 630, 631, 632] (by decide +kernel) (by decide +kernel)
set_option maxRecDepth 20000 in
theorem gL_law_X4_init : GoodIn wsL_law (wsX4_init) := ggL_law_X4_init
set_option maxRecDepth 20000 in
theorem ggL_law_X5_init : GoodIn wsL_law wsX5_init := goodIn_r _ [81, 82, 10, 11, 37, 83, 84, 85, 86, 87, 88, 89, 596, 597, 598, 599, 600, 601, 602, 603, 604, 605, 606, 607] (by decide +kernel) (by decide +kernel)
set_option maxRecDepth 20000 in
theorem gL_law_X5_init : GoodIn wsL_law (wsX5_init) := ggL_law_X5_init
set_option maxRecDepth 20000 in
theorem ggL_law_X4_set : GoodIn wsL_law wsX4_set := goodIn_r _ [93, 16, 15, 94, 14, 95, 96, 36, 38, 97, 98, 99, 100, 45, 46, 47, 48, 49, 50, 51, 52, 53, 101, 20, 102, 103, 57, 104, 58, 59, 60, 105, 106, 107, 108, 2, 109, 110, 111, 112, 113, 114, 115, 116, 117, 118, 119, 120, 121, 25, 122, 24, 123, 124, 66, 67, 125, 126, 127, 128, 129, 130, 131, 132, 65, 588, 589, 590, 591, 592, 593, 594, 595, 608, 609, 610, 611, 612, 613, 614, 615, 616, 617, 618, 619, 620, 621, 622, 623, 624, 625] (by decide +kernel) (by decide +kernel)
set_option maxRecDepth 20000 in
theorem gL_law_X4_set : GoodIn wsL_law (wsV RL 13 RX4 yX4_set wsX4_set) := goodIn_app (goodIn_of _ (by decide +kernel)) ggL_law_X4_set
set_option maxRecDepth 20000 in
theorem ggL_law_X5_set : GoodIn wsL_law wsX5_set := goodIn_r _ [136, 137, 138, 139, 5, 140, 141, 142, 143, 144, 145, 146, 147, 148, 149, 150, 151, 152, 153, 83, 84, 154, 155, 156, 157, 158, 159, 160, 161, 162, 163, 164, 165, 86, 596, 597, 598, 599, 600, 601, 602, 603, 604, 605, 606, 607] (by decide +kernel) (by decide +kernel)
set_option maxRecDepth 20000 in
theorem gL_law_X5_set : GoodIn wsL_law (wsV RL 17 RX5 yX5_set wsX5_set) := goodIn_app (goodIn_of _ (by decide +kernel)) ggL_law_X5_set
set_option maxRecDepth 20000 in
theorem ggL_law_X4_wind : GoodIn wsL_law wsX4_wind := goodIn_r _ [169, 16, 15, 94, 14, 95, 96, 36, 38, 97, 98, 99, 100, 45, 46, 47, 48, 49, 50, 51, 52, 53, 101, 20, 102, 103, 57, 104, 58, 59, 60, 170, 171, 172, 108, 2, 109, 110, 111, 112, 113, 114, 115, 116, 117, 173, 174, 175, 176, 177, 178, 179, 180, 181, 182, 183, 184, 185, 186, 187, 188, 189, 190, 191, 192, 193, 194, 195, 196, 197, 198, 127, 199, 200, 201, 202, 203, 204, 205, 206, 207, 208, 209, 210, 211, 212, 213, 214, 215, 216, 126, 128, 217, 218, 219, 220, 221, 222, 118, 119, 120, 121, 25, 122, 24, 123, 124, 66, 67, 125, 129, 130, 131, 132, 65, 588, 589, 590, 591, 592, 593, 594, 595, 608, 609, 610, 611, 612, 613, 614, 615, 616, 617, 618, 619, 620, 621, 622, 623, 624, 625] (by decide +kernel) (by decide +kernel)
set_option maxRecDepth 20000 in
theorem gL_law_X4_wind : GoodIn wsL_law (wsV RL 18 RX4 yX4_wind wsX4_wind) := goodIn_app (goodIn_of _ (by decide +kernel)) ggL_law_X4_wind
set_option maxRecDepth 20000 in
theorem ggL_law_X5_wind : GoodIn wsL_law wsX5_wind := goodIn_r _ [226, 227, 138, 139, 5, 140, 150, 151, 152, 153, 83, 84, 154, 155, 156, 228, 229, 230, 231, 232, 233, 234, 235, 236, 237, 238, 239, 240, 241, 242, 243, 244, 245, 246, 247, 248, 249, 250, 251, 252, 253, 254, 255, 256, 257, 258, 259, 260, 261, 262, 161, 162, 163, 164, 165, 86, 596, 597, 598, 599, 600, 601, 602, 603, 604, 605, 606, 607] (by decide +kernel) (by decide +kernel)
set_option maxRecDepth 20000 in
theorem gL_law_X5_wind : GoodIn wsL_law (wsV RL 22 RX5 yX5_wind wsX5_wind) := goodIn_app (goodIn_of _ (by decide +kernel)) ggL_law_X5_wind
set_option maxRecDepth 20000 in
theorem ggL_law_X4_knot : GoodIn wsL_law wsX4_knot := goodIn_r _ [266, 16, 15, 94, 14, 95, 96, 36, 38, 97, 98, 99, 100, 45, 46, 47, 48, 49, 50, 51, 52, 53, 101, 20, 102, 103, 57, 104, 58, 59, 60, 267, 268, 269, 208, 209, 210, 211, 118, 119, 120, 2, 121, 25, 122, 24, 123, 124, 66, 67, 125, 126, 127, 128, 129, 130, 131, 132, 65, 588, 589, 590, 591, 592, 593, 594, 595, 608, 609, 610, 611, 612, 613, 614, 615, 616, 617, 618, 619, 620, 621, 622, 623, 624, 625] (by decide +kernel) (by decide +kernel)
set_option maxRecDepth 20000 in
theorem gL_law_X4_knot : GoodIn wsL_law (wsV RL 23 RX4 yX4_knot wsX4_knot) := goodIn_app (goodIn_of _ (by decide +kernel)) ggL_law_X4_knot
set_option maxRecDepth 20000 in
theorem ggL_law_X5_knot : GoodIn wsL_law wsX5_knot := goodIn_r _ [273, 150, 151, 152, 5, 153, 83, 84, 154, 155, 156, 274, 275, 276, 277, 161, 162, 163, 164, 165, 86, 596, 597, 598, 599, 600, 601, 602, 603, 604, 605, 606, 607] (by decide +kernel) (by decide +kernel)
set_option maxRecDepth 20000 in
theorem gL_law_X5_knot : GoodIn wsL_law (wsV RL 27 RX5 yX5_knot wsX5_knot) := goodIn_app (goodIn_of _ (by decide +kernel)) ggL_law_X5_knot
set_option maxRecDepth 20000 in
theorem ggL_law_X4_cone : GoodIn wsL_law wsX4_cone := goodIn_r _ [281, 16, 15, 94, 14, 95, 96, 36, 38, 97, 98, 99, 100, 45, 46, 47, 48, 49, 50, 51, 52, 53, 101, 20, 102, 103, 57, 104, 58, 59, 60, 282, 283, 284, 108, 2, 109, 110, 111, 112, 113, 114, 115, 116, 117, 118, 119, 120, 121, 25, 122, 24, 123, 124, 66, 67, 125, 126, 127, 128, 129, 130, 131, 132, 65, 588, 589, 590, 591, 592, 593, 594, 595, 608, 609, 610, 611, 612, 613, 614, 615, 616, 617, 618, 619, 620, 621, 622, 623, 624, 625] (by decide +kernel) (by decide +kernel)
set_option maxRecDepth 20000 in
theorem gL_law_X4_cone : GoodIn wsL_law (wsV RL 28 RX4 yX4_cone wsX4_cone) := goodIn_app (goodIn_of _ (by decide +kernel)) ggL_law_X4_cone
set_option maxRecDepth 20000 in
theorem ggL_law_X5_cone : GoodIn wsL_law wsX5_cone := goodIn_r _ [288, 289, 138, 139, 5, 140, 150, 151, 152, 153, 83, 84, 154, 155, 156, 290, 291, 292, 293, 161, 162, 163, 164, 165, 86, 596, 597, 598, 599, 600, 601, 602, 603, 604, 605, 606, 607] (by decide +kernel) (by decide +kernel)
set_option maxRecDepth 20000 in
theorem gL_law_X5_cone : GoodIn wsL_law (wsV RL 31 RX5 yX5_cone wsX5_cone) := goodIn_app (goodIn_of _ (by decide +kernel)) ggL_law_X5_cone
set_option maxRecDepth 20000 in
theorem ggL_law_X4_doff : GoodIn wsL_law wsX4_doff := goodIn_r _ [297, 16, 15, 94, 14, 95, 96, 36, 38, 97, 98, 99, 100, 45, 46, 47, 48, 49, 50, 51, 52, 53, 101, 20, 102, 103, 57, 104, 58, 59, 60, 298, 299, 300, 301, 302, 303, 304, 305, 306, 307, 308, 118, 119, 120, 2, 121, 25, 122, 24, 123, 124, 66, 67, 125, 126, 127, 128, 129, 130, 131, 132, 65, 588, 589, 590, 591, 592, 593, 594, 595, 608, 609, 610, 611, 612, 613, 614, 615, 616, 617, 618, 619, 620, 621, 622, 623, 624, 625] (by decide +kernel) (by decide +kernel)
set_option maxRecDepth 20000 in
theorem gL_law_X4_doff : GoodIn wsL_law (wsV RL 32 RX4 yX4_doff wsX4_doff) := goodIn_app (goodIn_of _ (by decide +kernel)) ggL_law_X4_doff
set_option maxRecDepth 20000 in
theorem ggL_law_X5_doff : GoodIn wsL_law wsX5_doff := goodIn_r _ [312, 83, 313, 314, 315, 316, 5, 317, 150, 151, 152, 153, 84, 154, 155, 156, 161, 162, 163, 164, 165, 86, 596, 597, 598, 599, 600, 601, 602, 603, 604, 605, 606, 607] (by decide +kernel) (by decide +kernel)
set_option maxRecDepth 20000 in
theorem gL_law_X5_doff : GoodIn wsL_law (wsV RL 35 RX5 yX5_doff wsX5_doff) := goodIn_app (goodIn_of _ (by decide +kernel)) ggL_law_X5_doff
set_option maxRecDepth 20000 in
theorem ggL_law_X4_type : GoodIn wsL_law wsX4_type := goodIn_r _ [321, 29, 322, 28, 323, 324, 75, 72, 588, 589, 590, 591, 592, 593, 594, 595, 626, 627, 628, 629, 630, 631, 632] (by decide +kernel) (by decide +kernel)
set_option maxRecDepth 20000 in
theorem gL_law_X4_type : GoodIn wsL_law (wsV RL 36 RX4 yX4_type wsX4_type) := goodIn_app (goodIn_of _ (by decide +kernel)) ggL_law_X4_type
set_option maxRecDepth 20000 in
theorem ggL_law_X5_type : GoodIn wsL_law wsX5_type := goodIn_r _ [328, 329, 88, 596, 597, 598, 599, 600, 601, 602, 603, 604, 605, 606, 607] (by decide +kernel) (by decide +kernel)
set_option maxRecDepth 20000 in
theorem gL_law_X5_type : GoodIn wsL_law (wsV RL 40 RX5 yX5_type wsX5_type) := goodIn_app (goodIn_of _ (by decide +kernel)) ggL_law_X5_type
set_option maxRecDepth 20000 in
theorem ggL_law_X4_clearText : GoodIn wsL_law wsX4_clearText := goodIn_r _ [333, 29, 334, 28, 335, 336, 75, 588, 589, 590, 591, 592, 593, 594, 595, 626, 627, 628, 629, 630, 631, 632] (by decide +kernel) (by decide +kernel)
set_option maxRecDepth 20000 in
theorem gL_law_X4_clearText : GoodIn wsL_law (wsV RL 41 RX4 yX4_clearText wsX4_clearText) := goodIn_app (goodIn_of _ (by decide +kernel)) ggL_law_X4_clearText
set_option maxRecDepth 20000 in
theorem ggL_law_X5_clearText : GoodIn wsL_law wsX5_clearText := goodIn_r _ [340, 329, 596, 597, 598, 599, 600, 601, 602, 603, 604, 605, 606, 607] (by decide +kernel) (by decide +kernel)
set_option maxRecDepth 20000 in
theorem gL_law_X5_clearText : GoodIn wsL_law (wsV RL 44 RX5 yX5_clearText wsX5_clearText) := goodIn_app (goodIn_of _ (by decide +kernel)) ggL_law_X5_clearText
set_option maxRecDepth 20000 in
theorem ggL_law_X4_perform : GoodIn wsL_law wsX4_perform := goodIn_r _ [344, 29, 16, 15, 31, 345, 28, 346, 347, 76, 77, 78, 75, 72, 348, 349, 350, 351, 352, 353, 354, 355, 356, 357, 358, 111, 2, 112, 113, 359, 360, 361, 362, 73, 74, 363, 364, 365, 366, 115, 116, 117, 94, 14, 95, 96, 36, 38, 97, 98, 99, 100, 45, 46, 47, 48, 49, 50, 51, 52, 53, 101, 20, 102, 103, 57, 104, 58, 59, 60, 367, 368, 369, 370, 371, 372, 373, 374, 375, 376, 170, 171, 172, 108, 109, 110, 114, 173, 174, 175, 176, 177, 178, 179, 180, 181, 182, 183, 184, 185, 186, 187, 188, 189, 190, 191, 192, 193, 194, 195, 196, 197, 198, 127, 199, 200, 201, 202, 203, 204, 205, 206, 207, 208, 209, 210, 211, 212, 213, 214, 215, 216, 126, 128, 217, 218, 219, 220, 221, 222, 377, 282, 283, 284, 378, 267, 268, 269, 379, 105, 106, 107, 118, 119, 120, 121, 25, 122, 24, 123, 124, 66, 67, 125, 129, 130, 131, 132, 65, 588, 589, 590, 591, 592, 593, 594, 595, 626, 627, 628, 629, 630, 631, 632, 608, 609, 610, 611, 612, 613, 614, 615, 616, 617, 618, 619, 620, 621, 622, 623, 624, 625] (by decide +kernel) (by decide +kernel)
set_option maxRecDepth 20000 in
theorem gL_law_X4_perform : GoodIn wsL_law (wsV RL 45 RX4 yX4_perform wsX4_perform) := goodIn_app (goodIn_of _ (by decide +kernel)) ggL_law_X4_perform
set_option maxRecDepth 20000 in
theorem ggL_law_X5_perform : GoodIn wsL_law wsX5_perform := goodIn_r _ [383, 384, 84, 83, 89, 385, 386, 387, 5, 388, 329, 389, 390, 391, 392, 393, 88, 394, 395, 396, 397, 398, 399, 400, 401, 138, 139, 140, 274, 275, 276, 277, 402, 403, 404, 405, 228, 229, 230, 231, 232, 233, 234, 235, 236, 237, 238, 239, 240, 241, 242, 243, 244, 245, 246, 247, 248, 249, 250, 251, 252, 253, 254, 255, 256, 257, 258, 259, 260, 261, 262, 290, 291, 292, 293, 406, 407, 408, 157, 158, 159, 160, 150, 151, 152, 153, 154, 155, 156, 161, 162, 163, 164, 165, 86, 596, 597, 598, 599, 600, 601, 602, 603, 604, 605, 606, 607] (by decide +kernel) (by decide +kernel)
set_option maxRecDepth 20000 in
theorem gL_law_X5_perform : GoodIn wsL_law (wsV RL 48 RX5 yX5_perform wsX5_perform) := goodIn_app (goodIn_of _ (by decide +kernel)) ggL_law_X5_perform
set_option maxRecDepth 20000 in
theorem ggL_law_X4_stopped : GoodIn wsL_law wsX4_stopped := goodIn_r _ [412, 31, 588, 589, 590, 591, 592, 593, 594, 595] (by decide +kernel) (by decide +kernel)
set_option maxRecDepth 20000 in
theorem gL_law_X4_stopped : GoodIn wsL_law (wsV RL 49 RX4 yX4_stopped wsX4_stopped) := goodIn_app (goodIn_of _ (by decide +kernel)) ggL_law_X4_stopped
set_option maxRecDepth 20000 in
theorem ggL_law_X5_stopped : GoodIn wsL_law wsX5_stopped := goodIn_r _ [416, 89, 596, 597, 598, 599, 600, 601, 602, 603, 604, 605, 606, 607] (by decide +kernel) (by decide +kernel)
set_option maxRecDepth 20000 in
theorem gL_law_X5_stopped : GoodIn wsL_law (wsV RL 52 RX5 yX5_stopped wsX5_stopped) := goodIn_app (goodIn_of _ (by decide +kernel)) ggL_law_X5_stopped
set_option maxRecDepth 20000 in
theorem ggL_law_X4_undo : GoodIn wsL_law wsX4_undo := goodIn_r _ [420, 25, 15, 421, 24, 422, 423, 66, 67, 129, 130, 131, 132, 65, 94, 14, 95, 96, 36, 38, 97, 98, 99, 100, 45, 46, 47, 48, 49, 50, 51, 52, 53, 101, 20, 102, 103, 57, 104, 58, 59, 60, 588, 589, 590, 591, 592, 593, 594, 595, 623, 624, 625, 608, 609, 610, 611, 612, 613, 614, 615, 616, 617, 618, 619, 620, 621, 622] (by decide +kernel) (by decide +kernel)
set_option maxRecDepth 20000 in
theorem gL_law_X4_undo : GoodIn wsL_law (wsV RL 53 RX4 yX4_undo wsX4_undo) := goodIn_app (goodIn_of _ (by decide +kernel)) ggL_law_X4_undo
set_option maxRecDepth 20000 in
theorem ggL_law_X5_undo : GoodIn wsL_law wsX5_undo := goodIn_r _ [427, 165, 83, 86, 596, 597, 598, 599, 600, 601, 602, 603, 604, 605, 606, 607] (by decide +kernel) (by decide +kernel)
set_option maxRecDepth 20000 in
theorem gL_law_X5_undo : GoodIn wsL_law (wsV RL 56 RX5 yX5_undo wsX5_undo) := goodIn_app (goodIn_of _ (by decide +kernel)) ggL_law_X5_undo
set_option maxRecDepth 20000 in
theorem ggL_law_X4_keep : GoodIn wsL_law wsX4_keep := goodIn_r _ [431, 17, 15, 30, 94, 14, 95, 96, 36, 38, 97, 98, 99, 100, 45, 46, 47, 48, 49, 50, 51, 52, 53, 101, 20, 102, 103, 57, 104, 58, 59, 60, 588, 589, 590, 591, 592, 593, 594, 595, 608, 609, 610, 611, 612, 613, 614, 615, 616, 617, 618, 619, 620, 621, 622] (by decide +kernel) (by decide +kernel)
set_option maxRecDepth 20000 in
theorem gL_law_X4_keep : GoodIn wsL_law (wsV RL 57 RX4 yX4_keep wsX4_keep) := goodIn_app (goodIn_of _ (by decide +kernel)) ggL_law_X4_keep
set_option maxRecDepth 20000 in
theorem ggL_law_X5_keep : GoodIn wsL_law wsX5_keep := goodIn_r _ [435, 83, 87, 436, 154, 155, 5, 156, 314, 315, 316, 317, 596, 597, 598, 599, 600, 601, 602, 603, 604, 605, 606, 607] (by decide +kernel) (by decide +kernel)
set_option maxRecDepth 20000 in
theorem gL_law_X5_keep : GoodIn wsL_law (wsV RL 60 RX5 yX5_keep wsX5_keep) := goodIn_app (goodIn_of _ (by decide +kernel)) ggL_law_X5_keep
set_option maxRecDepth 20000 in
theorem ggL_law_X4_restore : GoodIn wsL_law wsX4_restore := goodIn_r _ [440, 30, 16, 17, 94, 14, 95, 96, 36, 38, 97, 98, 99, 100, 45, 46, 47, 48, 49, 50, 51, 52, 53, 101, 20, 102, 103, 57, 104, 58, 59, 60, 118, 119, 120, 2, 121, 25, 15, 122, 24, 123, 124, 66, 67, 125, 126, 127, 128, 129, 130, 131, 132, 65, 588, 589, 590, 591, 592, 593, 594, 595, 608, 609, 610, 611, 612, 613, 614, 615, 616, 617, 618, 619, 620, 621, 622, 623, 624, 625] (by decide +kernel) (by decide +kernel)
set_option maxRecDepth 20000 in
theorem gL_law_X4_restore : GoodIn wsL_law (wsV RL 61 RX4 yX4_restore wsX4_restore) := goodIn_app (goodIn_of _ (by decide +kernel)) ggL_law_X4_restore
set_option maxRecDepth 20000 in
theorem ggL_law_X5_restore : GoodIn wsL_law wsX5_restore := goodIn_r _ [444, 436, 87, 83, 150, 151, 152, 5, 153, 84, 154, 155, 156, 314, 315, 316, 317, 161, 162, 163, 164, 165, 86, 596, 597, 598, 599, 600, 601, 602, 603, 604, 605, 606, 607] (by decide +kernel) (by decide +kernel)
set_option maxRecDepth 20000 in
theorem gL_law_X5_restore : GoodIn wsL_law (wsV RL 64 RX5 yX5_restore wsX5_restore) := goodIn_app (goodIn_of _ (by decide +kernel)) ggL_law_X5_restore
set_option maxRecDepth 20000 in
theorem ggL_law_X4_place : GoodIn wsL_law wsX4_place := goodIn_r _ [448, 15, 191, 20, 192, 193, 57, 449, 14, 450, 451, 38, 452, 453, 454, 455, 456, 457, 458, 459, 460, 221, 2, 222, 461, 462, 463, 464, 588, 589, 590, 591, 592, 593, 594, 595, 608, 609, 610, 611, 612, 613, 614, 615, 616, 617, 618, 619, 620, 621, 622] (by decide +kernel) (by decide +kernel)
set_option maxRecDepth 20000 in
theorem gL_law_X4_place : GoodIn wsL_law (wsV RL 65 RX4 yX4_place wsX4_place) := goodIn_app (goodIn_of _ (by decide +kernel)) ggL_law_X4_place
set_option maxRecDepth 20000 in
theorem ggL_law_X5_place_ : GoodIn wsL_law wsX5_place_ := goodIn_r _ [468, 144, 83, 138, 139, 5, 140, 469, 470, 471, 472, 473, 474, 475, 476, 477, 478, 479, 480, 596, 597, 598, 599, 600, 601, 602, 603, 604, 605, 606, 607] (by decide +kernel) (by decide +kernel)
set_option maxRecDepth 20000 in
theorem gL_law_X5_place_ : GoodIn wsL_law (wsV RL 68 RX5 yX5_place_ wsX5_place_) := goodIn_app (goodIn_of _ (by decide +kernel)) ggL_law_X5_place_
set_option maxRecDepth 20000 in
theorem ggL_law_X4_wrong : GoodIn wsL_law wsX4_wrong := goodIn_r _ [484, 15, 178, 14, 179, 180, 46, 485, 486, 487, 488, 461, 462, 463, 464, 449, 450, 451, 38, 489, 20, 490, 491, 492, 452, 453, 454, 455, 456, 457, 458, 459, 191, 192, 193, 57, 221, 2, 222, 493, 494, 495, 59, 496, 126, 127, 128, 588, 589, 590, 591, 592, 593, 594, 595, 608, 609, 610, 611, 612, 613, 614, 615, 616, 617, 618, 619, 620, 621, 622] (by decide +kernel) (by decide +kernel)
set_option maxRecDepth 20000 in
theorem gL_law_X4_wrong : GoodIn wsL_law (wsV RL 69 RX4 yX4_wrong wsX4_wrong) := goodIn_app (goodIn_of _ (by decide +kernel)) ggL_law_X4_wrong
set_option maxRecDepth 20000 in
theorem ggL_law_X5_wrong : GoodIn wsL_law wsX5_wrong := goodIn_r _ [500, 83, 501, 502, 503, 5, 504, 477, 478, 479, 480, 505, 506, 507, 508, 469, 470, 471, 472, 473, 474, 475, 476, 144, 138, 139, 140, 509, 510, 511, 512, 240, 241, 242, 243, 596, 597, 598, 599, 600, 601, 602, 603, 604, 605, 606, 607] (by decide +kernel) (by decide +kernel)
set_option maxRecDepth 20000 in
theorem gL_law_X5_wrong : GoodIn wsL_law (wsV RL 72 RX5 yX5_wrong wsX5_wrong) := goodIn_app (goodIn_of _ (by decide +kernel)) ggL_law_X5_wrong
set_option maxRecDepth 20000 in
theorem ggL_law_X4_breaksIn : GoodIn wsL_law wsX4_breaksIn := goodIn_r _ [516, 15, 16, 178, 14, 179, 180, 46, 94, 95, 96, 36, 38, 97, 98, 99, 100, 45, 47, 48, 49, 50, 51, 52, 53, 101, 20, 102, 103, 57, 104, 58, 59, 60, 174, 175, 176, 177, 181, 182, 183, 185, 186, 187, 173, 188, 189, 190, 191, 192, 193, 194, 195, 196, 197, 198, 127, 199, 200, 201, 202, 203, 204, 205, 206, 207, 208, 209, 210, 211, 212, 213, 214, 215, 216, 126, 128, 217, 218, 219, 220, 221, 2, 222, 588, 589, 590, 591, 592, 593, 594, 595, 608, 609, 610, 611, 612, 613, 614, 615, 616, 617, 618, 619, 620, 621, 622] (by decide +kernel) (by decide +kernel)
set_option maxRecDepth 20000 in
theorem gL_law_X4_breaksIn : GoodIn wsL_law (wsV RL 73 RX4 yX4_breaksIn wsX4_breaksIn) := goodIn_app (goodIn_of _ (by decide +kernel)) ggL_law_X4_breaksIn
set_option maxRecDepth 20000 in
theorem ggL_law_X5_breaksIn : GoodIn wsL_law wsX5_breaksIn := goodIn_r _ [520, 83, 85, 154, 155, 5, 156, 232, 233, 234, 235, 236, 237, 238, 239, 240, 241, 242, 243, 244, 245, 246, 247, 248, 249, 250, 251, 252, 253, 254, 255, 256, 257, 258, 259, 260, 261, 262, 596, 597, 598, 599, 600, 601, 602, 603, 604, 605, 606, 607] (by decide +kernel) (by decide +kernel)
set_option maxRecDepth 20000 in
theorem gL_law_X5_breaksIn : GoodIn wsL_law (wsV RL 76 RX5 yX5_breaksIn wsX5_breaksIn) := goodIn_app (goodIn_of _ (by decide +kernel)) ggL_law_X5_breaksIn
set_option maxRecDepth 20000 in
theorem ggL_law_X4_ifTraverse : GoodIn wsL_law wsX4_ifTraverse := goodIn_r _ [524, 21, 525, 108, 2, 109, 110, 111, 112, 113, 114, 115, 116, 117, 526, 527, 528, 529, 15, 301, 20, 302, 303, 57, 58, 59, 60, 304, 305, 306, 307, 181, 182, 183, 194, 195, 196, 197, 198, 127, 199, 200, 188, 189, 190, 209, 14, 210, 211, 45, 218, 219, 220, 221, 222, 493, 494, 495, 496, 126, 128, 489, 490, 491, 492, 452, 453, 454, 455, 456, 457, 458, 459, 191, 192, 193, 530, 531, 532, 588, 589, 590, 591, 592, 593, 594, 595, 619, 620, 621, 622, 608, 609, 610, 611, 612, 613, 614, 615, 616, 617, 618] (by decide +kernel) (by decide +kernel)
set_option maxRecDepth 20000 in
theorem gL_law_X4_ifTraverse : GoodIn wsL_law (wsV RL 77 RX4 yX4_ifTraverse wsX4_ifTraverse) := goodIn_app (goodIn_of _ (by decide +kernel)) ggL_law_X4_ifTraverse
set_option maxRecDepth 20000 in
theorem ggL_law_X5_ifTraverse : GoodIn wsL_law wsX5_ifTraverse := goodIn_r _ [536, 144, 227, 537, 138, 139, 5, 140, 538, 539, 540, 541, 83, 85, 154, 155, 156, 236, 237, 238, 239, 240, 241, 242, 243, 248, 249, 250, 251, 252, 253, 254, 259, 260, 261, 262, 509, 510, 511, 512, 505, 506, 507, 508, 469, 470, 471, 472, 473, 474, 475, 476, 542, 543, 544, 545, 596, 597, 598, 599, 600, 601, 602, 603, 604, 605, 606, 607] (by decide +kernel) (by decide +kernel)
set_option maxRecDepth 20000 in
theorem gL_law_X5_ifTraverse : GoodIn wsL_law (wsV RL 81 RX5 yX5_ifTraverse wsX5_ifTraverse) := goodIn_app (goodIn_of _ (by decide +kernel)) ggL_law_X5_ifTraverse
set_option maxRecDepth 20000 in
theorem ggL_law_X4_bestTraverse : GoodIn wsL_law wsX4_bestTraverse := goodIn_r _ [549, 21, 525, 108, 2, 109, 110, 111, 112, 113, 114, 115, 116, 117, 526, 527, 528, 529, 15, 301, 20, 302, 303, 57, 58, 59, 60, 304, 305, 306, 307, 181, 182, 183, 194, 195, 196, 197, 198, 127, 199, 200, 188, 189, 190, 209, 14, 210, 211, 45, 218, 219, 220, 221, 222, 493, 494, 495, 496, 126, 128, 588, 589, 590, 591, 592, 593, 594, 595, 619, 620, 621, 622, 608, 609, 610, 611, 612, 613, 614, 615, 616, 617, 618] (by decide +kernel) (by decide +kernel)
set_option maxRecDepth 20000 in
theorem gL_law_X4_bestTraverse : GoodIn wsL_law (wsV RL 82 RX4 yX4_bestTraverse wsX4_bestTraverse) := goodIn_app (goodIn_of _ (by decide +kernel)) ggL_law_X4_bestTraverse
set_option maxRecDepth 20000 in
theorem ggL_law_X5_bestTraverse : GoodIn wsL_law wsX5_bestTraverse := goodIn_r _ [553, 227, 138, 139, 5, 140, 538, 539, 540, 541, 83, 85, 154, 155, 156, 236, 237, 238, 239, 240, 241, 242, 243, 248, 249, 250, 251, 252, 253, 254, 259, 260, 261, 262, 509, 510, 511, 512, 505, 506, 507, 508, 469, 470, 471, 472, 473, 474, 475, 476, 144, 542, 543, 544, 545, 596, 597, 598, 599, 600, 601, 602, 603, 604, 605, 606, 607] (by decide +kernel) (by decide +kernel)
set_option maxRecDepth 20000 in
theorem gL_law_X5_bestTraverse : GoodIn wsL_law (wsV RL 85 RX5 yX5_bestTraverse wsX5_bestTraverse) := goodIn_app (goodIn_of _ (by decide +kernel)) ggL_law_X5_bestTraverse
set_option maxRecDepth 20000 in
theorem ggL_law_X4_period : GoodIn wsL_law wsX4_period := goodIn_r _ [557, 525, 108, 2, 109, 110, 111, 112, 113, 114, 115, 116, 117] (by decide +kernel) (by decide +kernel)
set_option maxRecDepth 20000 in
theorem gL_law_X4_period : GoodIn wsL_law (wsV RL 86 RX4 yX4_period wsX4_period) := goodIn_app (goodIn_of _ (by decide +kernel)) ggL_law_X4_period
set_option maxRecDepth 20000 in
theorem ggL_law_X5_period : GoodIn wsL_law wsX5_period := goodIn_r _ [561, 144, 138, 139, 5, 140] (by decide +kernel) (by decide +kernel)
set_option maxRecDepth 20000 in
theorem gL_law_X5_period : GoodIn wsL_law (wsV RL 89 RX5 yX5_period wsX5_period) := goodIn_app (goodIn_of _ (by decide +kernel)) ggL_law_X5_period
set_option maxRecDepth 20000 in
theorem ggL_law_X4_count : GoodIn wsL_law wsX4_count := goodIn_r _ [565, 15, 25, 29, 188, 20, 189, 190, 60, 566, 567, 568, 460, 221, 2, 222, 178, 14, 179, 180, 46, 181, 182, 183, 59, 493, 494, 495, 57, 496, 126, 127, 128, 489, 490, 491, 492, 452, 453, 454, 455, 456, 457, 458, 459, 191, 192, 193, 569, 570, 571, 38, 209, 210, 211, 45, 588, 589, 590, 591, 592, 593, 594, 595, 608, 609, 610, 611, 612, 613, 614, 615, 616, 617, 618, 619, 620, 621, 622, 623, 624, 625, 626, 627, 628, 629, 630, 631, 632] (by decide +kernel) (by decide +kernel)
set_option maxRecDepth 20000 in
theorem gL_law_X4_count : GoodIn wsL_law (wsV RL 90 RX4 yX4_count wsX4_count) := goodIn_app (goodIn_of _ (by decide +kernel)) ggL_law_X4_count
set_option maxRecDepth 20000 in
theorem ggL_law_X5_count : GoodIn wsL_law wsX5_count := goodIn_r _ [575, 83, 165, 329, 314, 315, 316, 5, 317, 248, 249, 250, 251, 252, 253, 254, 236, 237, 238, 239, 240, 241, 242, 243, 509, 510, 511, 512, 505, 506, 507, 508, 469, 470, 471, 472, 473, 474, 475, 476, 144, 138, 139, 140, 576, 577, 578, 579, 580, 581, 582, 583, 313, 584, 585, 586, 587, 596, 597, 598, 599, 600, 601, 602, 603, 604, 605, 606, 607] (by decide +kernel) (by decide +kernel)
set_option maxRecDepth 20000 in
theorem gL_law_X5_count : GoodIn wsL_law (wsV RL 93 RX5 yX5_count wsX5_count) := goodIn_app (goodIn_of _ (by decide +kernel)) ggL_law_X5_count
