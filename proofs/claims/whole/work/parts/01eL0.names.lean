set_option maxRecDepth 20000 in
theorem ggL_law_X0_init : GoodIn wsL_law wsX0_init := goodIn_r _ [8, 9, 10, 11, 12, 13, 14, 15, 16, 17, 18, 19, 20, 21, 585, 586, 587, 588, 589, 590, 591, 592, 593, 594, 595, 596] (by decide +kernel) (by decide +kernel)
set_option maxRecDepth 20000 in
theorem gL_law_X0_init : GoodIn wsL_law (wsX0_init) := ggL_law_X0_init
set_option maxRecDepth 20000 in
theorem ggL_law_X1_init : GoodIn wsL_law wsX1_init := goodIn_r _ [24, 25, 10, 11, 12, 26, 27, 28, 29, 17, 30, 31, 32, 33, 34, 597, 598, 599, 600, 601, 602, 603, 604, 605, 606, 607, 608, 609, 610, 611, 612, 613] (by decide +kernel) (by decide +kernel)
set_option maxRecDepth 20000 in
theorem gL_law_X1_init : GoodIn wsL_law (wsX1_init) := ggL_law_X1_init
set_option maxRecDepth 20000 in
theorem ggL_law_X0_append : GoodIn wsL_law wsX0_append := goodIn_r _ [38, 39, 40, 41, 13, 42, 43, 2, 44, 585, 586, 587, 588, 589, 590, 591, 592, 593, 594, 595, 596] (by decide +kernel) (by decide +kernel)
set_option maxRecDepth 20000 in
theorem gL_law_X0_append : GoodIn wsL_law (wsV RL 13 RX0 yX0_append wsX0_append) := goodIn_app (goodIn_of _ (by decide +kernel)) ggL_law_X0_append
set_option maxRecDepth 20000 in
theorem ggL_law_X1_append : GoodIn wsL_law wsX1_append := goodIn_r _ [48, 49, 50, 51, 26, 52, 53, 5, 54, 597, 598, 599, 600, 601, 602, 603, 604, 605, 606, 607, 608, 609, 610, 611, 612, 613] (by decide +kernel) (by decide +kernel)
set_option maxRecDepth 20000 in
theorem gL_law_X1_append : GoodIn wsL_law (wsV RL 17 RX1 yX1_append wsX1_append) := goodIn_app (goodIn_of _ (by decide +kernel)) ggL_law_X1_append
set_option maxRecDepth 20000 in
theorem ggL_law_X0_clearBuffer : GoodIn wsL_law wsX0_clearBuffer := goodIn_r _ [58, 40, 585, 586, 587, 588, 589, 590, 591, 592, 593, 594, 595, 596] (by decide +kernel) (by decide +kernel)
set_option maxRecDepth 20000 in
theorem gL_law_X0_clearBuffer : GoodIn wsL_law (wsV RL 18 RX0 yX0_clearBuffer wsX0_clearBuffer) := goodIn_app (goodIn_of _ (by decide +kernel)) ggL_law_X0_clearBuffer
set_option maxRecDepth 20000 in
theorem ggL_law_X1_clearBuffer : GoodIn wsL_law wsX1_clearBuffer := goodIn_r _ [62, 50, 597, 598, 599, 600, 601, 602, 603, 604, 605, 606, 607, 608, 609, 610, 611, 612, 613] (by decide +kernel) (by decide +kernel)
set_option maxRecDepth 20000 in
theorem gL_law_X1_clearBuffer : GoodIn wsL_law (wsV RL 22 RX1 yX1_clearBuffer wsX1_clearBuffer) := goodIn_app (goodIn_of _ (by decide +kernel)) ggL_law_X1_clearBuffer
set_option maxRecDepth 20000 in
theorem ggL_law_X0_errorPosition : GoodIn wsL_law wsX0_errorPosition := goodIn_r _ [66, 67, 68, 69, 2, 70, 71, 72, 73, 74, 40, 13, 75, 76, 77, 78, 79, 80, 81, 82, 83, 84, 85, 86, 87, 88, 89, 90, 91, 92, 93, 94, 95, 96, 97, 98, 99, 100, 101, 102, 103, 104, 105, 106, 107, 108, 109, 110, 111, 112, 113, 114, 115, 116, 117, 118, 119, 120, 121, 122, 123, 124, 125, 126, 127, 128, 129, 130, 131, 42, 43, 44, 132, 133, 134, 135, 585, 586, 587, 588, 589, 590, 591, 592, 593, 594, 595, 596] (by decide +kernel) (by decide +kernel)
set_option maxRecDepth 20000 in
theorem gL_law_X0_errorPosition : GoodIn wsL_law (wsV RL 23 RX0 yX0_errorPosition wsX0_errorPosition) := goodIn_app (goodIn_of _ (by decide +kernel)) ggL_law_X0_errorPosition
set_option maxRecDepth 20000 in
theorem ggL_law_X1_errorPosition : GoodIn wsL_law wsX1_errorPosition := goodIn_r _ [139, 140, 141, 142, 143, 5, 144, 50, 26, 145, 146, 147, 148, 149, 150, 151, 152, 153, 154, 155, 156, 157, 158, 159, 160, 161, 162, 163, 164, 165, 166, 167, 168, 52, 53, 54, 597, 598, 599, 600, 601, 602, 603, 604, 605, 606, 607, 608, 609, 610, 611, 612, 613] (by decide +kernel) (by decide +kernel)
set_option maxRecDepth 20000 in
theorem gL_law_X1_errorPosition : GoodIn wsL_law (wsV RL 26 RX1 yX1_errorPosition wsX1_errorPosition) := goodIn_app (goodIn_of _ (by decide +kernel)) ggL_law_X1_errorPosition
set_option maxRecDepth 20000 in
theorem ggL_law_X0_addFromBuffer : GoodIn wsL_law wsX0_addFromBuffer := goodIn_r _ [172, 40, 173, 174, 41, 175, 64, 65, 2, 66, 67, 68, 69, 70, 71, 72, 73, 74, 13, 75, 76, 77, 78, 79, 80, 81, 82, 83, 84, 85, 86, 87, 88, 89, 90, 91, 92, 93, 94, 95, 96, 97, 98, 99, 100, 101, 102, 103, 104, 105, 106, 107, 108, 109, 110, 111, 112, 113, 114, 115, 116, 117, 118, 119, 120, 121, 122, 123, 124, 125, 126, 127, 128, 129, 130, 131, 42, 43, 44, 132, 133, 134, 135, 176, 177, 178, 179, 16, 180, 181, 182, 183, 14, 15, 18, 585, 586, 587, 588, 589, 590, 591, 592, 593, 594, 595, 596] (by decide +kernel) (by decide +kernel)
set_option maxRecDepth 20000 in
theorem gL_law_X0_addFromBuffer : GoodIn wsL_law (wsV RL 27 RX0 yX0_addFromBuffer wsX0_addFromBuffer) := goodIn_app (goodIn_of _ (by decide +kernel)) ggL_law_X0_addFromBuffer
set_option maxRecDepth 20000 in
theorem ggL_law_X1_addFromBuffer : GoodIn wsL_law wsX1_addFromBuffer := goodIn_r _ [187, 145, 188, 189, 51, 50, 146, 147, 141, 142, 143, 5, 144, 26, 140, 148, 149, 150, 151, 152, 153, 154, 155, 156, 157, 158, 159, 160, 161, 162, 163, 164, 165, 166, 167, 168, 52, 53, 54, 190, 191, 192, 193, 27, 28, 29, 30, 31, 597, 598, 599, 600, 601, 602, 603, 604, 605, 606, 607, 608, 609, 610, 611, 612, 613] (by decide +kernel) (by decide +kernel)
set_option maxRecDepth 20000 in
theorem gL_law_X1_addFromBuffer : GoodIn wsL_law (wsV RL 30 RX1 yX1_addFromBuffer wsX1_addFromBuffer) := goodIn_app (goodIn_of _ (by decide +kernel)) ggL_law_X1_addFromBuffer
set_option maxRecDepth 20000 in
theorem ggL_law_X0_add : GoodIn wsL_law wsX0_add := goodIn_r _ [197, 39, 174, 41, 198, 199, 2, 200, 42, 43, 44, 201, 202, 203, 176, 177, 178, 179, 16, 180, 181, 182, 183, 14, 15, 18, 585, 586, 587, 588, 589, 590, 591, 592, 593, 594, 595, 596] (by decide +kernel) (by decide +kernel)
set_option maxRecDepth 20000 in
theorem gL_law_X0_add : GoodIn wsL_law (wsV RL 31 RX0 yX0_add wsX0_add) := goodIn_app (goodIn_of _ (by decide +kernel)) ggL_law_X0_add
set_option maxRecDepth 20000 in
theorem ggL_law_X1_add : GoodIn wsL_law wsX1_add := goodIn_r _ [207, 49, 189, 51, 208, 209, 5, 210, 52, 53, 54, 190, 191, 192, 193, 27, 28, 29, 30, 31, 597, 598, 599, 600, 601, 602, 603, 604, 605, 606, 607, 608, 609, 610, 611, 612, 613] (by decide +kernel) (by decide +kernel)
set_option maxRecDepth 20000 in
theorem gL_law_X1_add : GoodIn wsL_law (wsV RL 35 RX1 yX1_add wsX1_add) := goodIn_app (goodIn_of _ (by decide +kernel)) ggL_law_X1_add
set_option maxRecDepth 20000 in
theorem ggL_law_X0_replace : GoodIn wsL_law wsX0_replace := goodIn_r _ [214, 215, 39, 18, 216, 217, 218, 2, 219, 174, 42, 43, 44, 198, 199, 200, 201, 202, 203, 180, 181, 182, 183, 14, 15, 585, 586, 587, 588, 589, 590, 591, 592, 593, 594, 595, 596] (by decide +kernel) (by decide +kernel)
set_option maxRecDepth 20000 in
theorem gL_law_X0_replace : GoodIn wsL_law (wsV RL 36 RX0 yX0_replace wsX0_replace) := goodIn_app (goodIn_of _ (by decide +kernel)) ggL_law_X0_replace
set_option maxRecDepth 20000 in
theorem ggL_law_X1_replace : GoodIn wsL_law wsX1_replace := goodIn_r _ [223, 224, 49, 30, 27, 28, 225, 226, 227, 5, 228, 189, 52, 53, 54, 208, 209, 210, 597, 598, 599, 600, 601, 602, 603, 604, 605, 606, 607, 608, 609, 610, 611, 612, 613] (by decide +kernel) (by decide +kernel)
set_option maxRecDepth 20000 in
theorem gL_law_X1_replace : GoodIn wsL_law (wsV RL 40 RX1 yX1_replace wsX1_replace) := goodIn_app (goodIn_of _ (by decide +kernel)) ggL_law_X1_replace
set_option maxRecDepth 20000 in
theorem ggL_law_X0_removeLast : GoodIn wsL_law wsX0_removeLast := goodIn_r _ [232, 174, 233, 19, 585, 586, 587, 588, 589, 590, 591, 592, 593, 594, 595, 596] (by decide +kernel) (by decide +kernel)
set_option maxRecDepth 20000 in
theorem gL_law_X0_removeLast : GoodIn wsL_law (wsV RL 41 RX0 yX0_removeLast wsX0_removeLast) := goodIn_app (goodIn_of _ (by decide +kernel)) ggL_law_X0_removeLast
set_option maxRecDepth 20000 in
theorem ggL_law_X1_removeLast : GoodIn wsL_law wsX1_removeLast := goodIn_r _ [237, 189, 238, 31, 597, 598, 599, 600, 601, 602, 603, 604, 605, 606, 607, 608, 609, 610, 611, 612, 613] (by decide +kernel) (by decide +kernel)
set_option maxRecDepth 20000 in
theorem gL_law_X1_removeLast : GoodIn wsL_law (wsV RL 44 RX1 yX1_removeLast wsX1_removeLast) := goodIn_app (goodIn_of _ (by decide +kernel)) ggL_law_X1_removeLast
set_option maxRecDepth 20000 in
theorem ggL_law_X0_lose : GoodIn wsL_law wsX0_lose := goodIn_r _ [242, 215, 18, 243, 174, 216, 217, 218, 2, 219, 42, 43, 44, 244, 245, 246, 247, 585, 586, 587, 588, 589, 590, 591, 592, 593, 594, 595, 596] (by decide +kernel) (by decide +kernel)
set_option maxRecDepth 20000 in
theorem gL_law_X0_lose : GoodIn wsL_law (wsV RL 45 RX0 yX0_lose wsX0_lose) := goodIn_app (goodIn_of _ (by decide +kernel)) ggL_law_X0_lose
set_option maxRecDepth 20000 in
theorem ggL_law_X1_lose : GoodIn wsL_law wsX1_lose := goodIn_r _ [251, 224, 30, 252, 225, 226, 227, 5, 228, 189, 52, 53, 54, 253, 254, 255, 256, 597, 598, 599, 600, 601, 602, 603, 604, 605, 606, 607, 608, 609, 610, 611, 612, 613] (by decide +kernel) (by decide +kernel)
set_option maxRecDepth 20000 in
theorem gL_law_X1_lose : GoodIn wsL_law (wsV RL 48 RX1 yX1_lose wsX1_lose) := goodIn_app (goodIn_of _ (by decide +kernel)) ggL_law_X1_lose
set_option maxRecDepth 20000 in
theorem ggL_law_X0_setLeeway : GoodIn wsL_law wsX0_setLeeway := goodIn_r _ [260, 215, 39, 16, 216, 217, 218, 2, 219, 174, 42, 43, 44, 585, 586, 587, 588, 589, 590, 591, 592, 593, 594, 595, 596] (by decide +kernel) (by decide +kernel)
set_option maxRecDepth 20000 in
theorem gL_law_X0_setLeeway : GoodIn wsL_law (wsV RL 49 RX0 yX0_setLeeway wsX0_setLeeway) := goodIn_app (goodIn_of _ (by decide +kernel)) ggL_law_X0_setLeeway
set_option maxRecDepth 20000 in
theorem ggL_law_X1_setLeeway : GoodIn wsL_law wsX1_setLeeway := goodIn_r _ [264, 224, 49, 29, 225, 226, 227, 5, 228, 189, 52, 53, 54, 597, 598, 599, 600, 601, 602, 603, 604, 605, 606, 607, 608, 609, 610, 611, 612, 613] (by decide +kernel) (by decide +kernel)
set_option maxRecDepth 20000 in
theorem gL_law_X1_setLeeway : GoodIn wsL_law (wsV RL 52 RX1 yX1_setLeeway wsX1_setLeeway) := goodIn_app (goodIn_of _ (by decide +kernel)) ggL_law_X1_setLeeway
set_option maxRecDepth 20000 in
theorem ggL_law_X0_setCurrent : GoodIn wsL_law wsX0_setCurrent := goodIn_r _ [268, 39, 269, 270, 198, 199, 2, 200, 42, 43, 44, 585, 586, 587, 588, 589, 590, 591, 592, 593, 594, 595, 596] (by decide +kernel) (by decide +kernel)
set_option maxRecDepth 20000 in
theorem gL_law_X0_setCurrent : GoodIn wsL_law (wsV RL 53 RX0 yX0_setCurrent wsX0_setCurrent) := goodIn_app (goodIn_of _ (by decide +kernel)) ggL_law_X0_setCurrent
set_option maxRecDepth 20000 in
theorem ggL_law_X1_setCurrent : GoodIn wsL_law wsX1_setCurrent := goodIn_r _ [274, 49, 275, 276, 208, 209, 5, 210, 52, 53, 54, 597, 598, 599, 600, 601, 602, 603, 604, 605, 606, 607, 608, 609, 610, 611, 612, 613] (by decide +kernel) (by decide +kernel)
set_option maxRecDepth 20000 in
theorem gL_law_X1_setCurrent : GoodIn wsL_law (wsV RL 56 RX1 yX1_setCurrent wsX1_setCurrent) := goodIn_app (goodIn_of _ (by decide +kernel)) ggL_law_X1_setCurrent
set_option maxRecDepth 20000 in
theorem ggL_law_X0_pegCount : GoodIn wsL_law wsX0_pegCount := goodIn_r _ [280, 174, 585, 586, 587, 588, 589, 590, 591, 592, 593, 594, 595, 596] (by decide +kernel) (by decide +kernel)
set_option maxRecDepth 20000 in
theorem gL_law_X0_pegCount : GoodIn wsL_law (wsV RL 57 RX0 yX0_pegCount wsX0_pegCount) := goodIn_app (goodIn_of _ (by decide +kernel)) ggL_law_X0_pegCount
set_option maxRecDepth 20000 in
theorem ggL_law_X1_pegCount : GoodIn wsL_law wsX1_pegCount := goodIn_r _ [284, 189, 597, 598, 599, 600, 601, 602, 603, 604, 605, 606, 607, 608, 609, 610, 611, 612, 613] (by decide +kernel) (by decide +kernel)
set_option maxRecDepth 20000 in
theorem gL_law_X1_pegCount : GoodIn wsL_law (wsV RL 60 RX1 yX1_pegCount wsX1_pegCount) := goodIn_app (goodIn_of _ (by decide +kernel)) ggL_law_X1_pegCount
set_option maxRecDepth 20000 in
theorem ggL_law_X0_pointOf : GoodIn wsL_law wsX0_pointOf := goodIn_r _ [288, 215, 18, 243, 14, 216, 217, 218, 2, 219, 174, 42, 43, 44, 585, 586, 587, 588, 589, 590, 591, 592, 593, 594, 595, 596] (by decide +kernel) (by decide +kernel)
set_option maxRecDepth 20000 in
theorem gL_law_X0_pointOf : GoodIn wsL_law (wsV RL 61 RX0 yX0_pointOf wsX0_pointOf) := goodIn_app (goodIn_of _ (by decide +kernel)) ggL_law_X0_pointOf
set_option maxRecDepth 20000 in
theorem ggL_law_X1_pointOf : GoodIn wsL_law wsX1_pointOf := goodIn_r _ [292, 224, 225, 226, 227, 5, 228, 189, 52, 53, 54, 293, 294, 295, 296, 30, 252, 27, 597, 598, 599, 600, 601, 602, 603, 604, 605, 606, 607, 608, 609, 610, 611, 612, 613] (by decide +kernel) (by decide +kernel)
set_option maxRecDepth 20000 in
theorem gL_law_X1_pointOf : GoodIn wsL_law (wsV RL 64 RX1 yX1_pointOf wsX1_pointOf) := goodIn_app (goodIn_of _ (by decide +kernel)) ggL_law_X1_pointOf
set_option maxRecDepth 20000 in
theorem ggL_law_X0_speedOf : GoodIn wsL_law wsX0_speedOf := goodIn_r _ [300, 215, 18, 243, 15, 216, 217, 218, 2, 219, 174, 42, 43, 44, 585, 586, 587, 588, 589, 590, 591, 592, 593, 594, 595, 596] (by decide +kernel) (by decide +kernel)
set_option maxRecDepth 20000 in
theorem gL_law_X0_speedOf : GoodIn wsL_law (wsV RL 65 RX0 yX0_speedOf wsX0_speedOf) := goodIn_app (goodIn_of _ (by decide +kernel)) ggL_law_X0_speedOf
set_option maxRecDepth 20000 in
theorem ggL_law_X1_speedOf : GoodIn wsL_law wsX1_speedOf := goodIn_r _ [304, 224, 225, 226, 227, 5, 228, 189, 52, 53, 54, 305, 306, 307, 308, 30, 252, 28, 597, 598, 599, 600, 601, 602, 603, 604, 605, 606, 607, 608, 609, 610, 611, 612, 613] (by decide +kernel) (by decide +kernel)
set_option maxRecDepth 20000 in
theorem gL_law_X1_speedOf : GoodIn wsL_law (wsV RL 68 RX1 yX1_speedOf wsX1_speedOf) := goodIn_app (goodIn_of _ (by decide +kernel)) ggL_law_X1_speedOf
set_option maxRecDepth 20000 in
theorem ggL_law_X0_speedTowards : GoodIn wsL_law wsX0_speedTowards := goodIn_r _ [312, 39, 174, 18, 14, 15, 198, 199, 2, 200, 42, 43, 44, 585, 586, 587, 588, 589, 590, 591, 592, 593, 594, 595, 596] (by decide +kernel) (by decide +kernel)
set_option maxRecDepth 20000 in
theorem gL_law_X0_speedTowards : GoodIn wsL_law (wsV RL 69 RX0 yX0_speedTowards wsX0_speedTowards) := goodIn_app (goodIn_of _ (by decide +kernel)) ggL_law_X0_speedTowards
set_option maxRecDepth 20000 in
theorem ggL_law_X1_speedTowards : GoodIn wsL_law wsX1_speedTowards := goodIn_r _ [316, 49, 189, 30, 27, 28, 208, 209, 5, 210, 52, 53, 54, 597, 598, 599, 600, 601, 602, 603, 604, 605, 606, 607, 608, 609, 610, 611, 612, 613] (by decide +kernel) (by decide +kernel)
set_option maxRecDepth 20000 in
theorem gL_law_X1_speedTowards : GoodIn wsL_law (wsV RL 72 RX1 yX1_speedTowards wsX1_speedTowards) := goodIn_app (goodIn_of _ (by decide +kernel)) ggL_law_X1_speedTowards
set_option maxRecDepth 20000 in
theorem ggL_law_X0_setFix : GoodIn wsL_law wsX0_setFix := goodIn_r _ [320, 321, 39, 19, 20, 21, 322, 323, 324, 2, 325, 174, 42, 43, 44, 326, 327, 328, 329, 330, 331, 332, 333, 334, 585, 586, 587, 588, 589, 590, 591, 592, 593, 594, 595, 596] (by decide +kernel) (by decide +kernel)
set_option maxRecDepth 20000 in
theorem gL_law_X0_setFix : GoodIn wsL_law (wsV RL 73 RX0 yX0_setFix wsX0_setFix) := goodIn_app (goodIn_of _ (by decide +kernel)) ggL_law_X0_setFix
set_option maxRecDepth 20000 in
theorem ggL_law_X1_setFix : GoodIn wsL_law wsX1_setFix := goodIn_r _ [338, 189, 339, 340, 341, 49, 31, 33, 34, 52, 53, 5, 54, 342, 343, 344, 345, 597, 598, 599, 600, 601, 602, 603, 604, 605, 606, 607, 608, 609, 610, 611, 612, 613] (by decide +kernel) (by decide +kernel)
set_option maxRecDepth 20000 in
theorem gL_law_X1_setFix : GoodIn wsL_law (wsV RL 76 RX1 yX1_setFix wsX1_setFix) := goodIn_app (goodIn_of _ (by decide +kernel)) ggL_law_X1_setFix
set_option maxRecDepth 20000 in
theorem ggL_law_X0_removeFix : GoodIn wsL_law wsX0_removeFix := goodIn_r _ [349, 321, 19, 233, 322, 323, 324, 2, 325, 174, 42, 43, 44, 331, 332, 333, 334, 585, 586, 587, 588, 589, 590, 591, 592, 593, 594, 595, 596] (by decide +kernel) (by decide +kernel)
set_option maxRecDepth 20000 in
theorem gL_law_X0_removeFix : GoodIn wsL_law (wsV RL 77 RX0 yX0_removeFix wsX0_removeFix) := goodIn_app (goodIn_of _ (by decide +kernel)) ggL_law_X0_removeFix
set_option maxRecDepth 20000 in
theorem ggL_law_X1_removeFix : GoodIn wsL_law wsX1_removeFix := goodIn_r _ [353, 189, 339, 31, 238, 52, 53, 5, 54, 342, 343, 344, 345, 597, 598, 599, 600, 601, 602, 603, 604, 605, 606, 607, 608, 609, 610, 611, 612, 613] (by decide +kernel) (by decide +kernel)
set_option maxRecDepth 20000 in
theorem gL_law_X1_removeFix : GoodIn wsL_law (wsV RL 80 RX1 yX1_removeFix wsX1_removeFix) := goodIn_app (goodIn_of _ (by decide +kernel)) ggL_law_X1_removeFix
set_option maxRecDepth 20000 in
theorem ggL_law_X0_reckonedNorth : GoodIn wsL_law wsX0_reckonedNorth := goodIn_r _ [357, 321, 358, 359, 360, 2, 361, 174, 42, 43, 44, 362, 363, 364, 365, 366, 367, 368, 369, 19, 370, 371, 372, 373, 20, 21, 374, 375, 376, 377, 270, 269, 18, 14, 16, 15, 378, 379, 380, 381, 382, 383, 384, 385, 585, 586, 587, 588, 589, 590, 591, 592, 593, 594, 595, 596] (by decide +kernel) (by decide +kernel)
set_option maxRecDepth 20000 in
theorem gL_law_X0_reckonedNorth : GoodIn wsL_law (wsV RL 81 RX0 yX0_reckonedNorth wsX0_reckonedNorth) := goodIn_app (goodIn_of _ (by decide +kernel)) ggL_law_X0_reckonedNorth
set_option maxRecDepth 20000 in
theorem ggL_law_X1_reckonedNorth : GoodIn wsL_law wsX1_reckonedNorth := goodIn_r _ [389, 339, 390, 391, 392, 5, 393, 189, 52, 53, 54, 394, 395, 396, 397, 398, 399, 400, 401, 31, 402, 403, 404, 405, 406, 407, 408, 409, 33, 34, 410, 411, 412, 413, 27, 29, 30, 28, 275, 276, 414, 415, 416, 417, 418, 419, 420, 421, 422, 597, 598, 599, 600, 601, 602, 603, 604, 605, 606, 607, 608, 609, 610, 611, 612, 613] (by decide +kernel) (by decide +kernel)
set_option maxRecDepth 20000 in
theorem gL_law_X1_reckonedNorth : GoodIn wsL_law (wsV RL 84 RX1 yX1_reckonedNorth wsX1_reckonedNorth) := goodIn_app (goodIn_of _ (by decide +kernel)) ggL_law_X1_reckonedNorth
set_option maxRecDepth 20000 in
theorem ggL_law_X0_reckonedEast : GoodIn wsL_law wsX0_reckonedEast := goodIn_r _ [426, 321, 358, 359, 360, 2, 361, 174, 42, 43, 44, 362, 363, 364, 365, 366, 367, 368, 369, 19, 370, 371, 372, 373, 20, 21, 374, 375, 376, 377, 270, 269, 18, 14, 16, 15, 378, 379, 380, 381, 382, 383, 384, 385, 585, 586, 587, 588, 589, 590, 591, 592, 593, 594, 595, 596] (by decide +kernel) (by decide +kernel)
set_option maxRecDepth 20000 in
theorem gL_law_X0_reckonedEast : GoodIn wsL_law (wsV RL 85 RX0 yX0_reckonedEast wsX0_reckonedEast) := goodIn_app (goodIn_of _ (by decide +kernel)) ggL_law_X0_reckonedEast
set_option maxRecDepth 20000 in
theorem ggL_law_X1_reckonedEast : GoodIn wsL_law wsX1_reckonedEast := goodIn_r _ [430, 339, 390, 391, 392, 5, 393, 189, 52, 53, 54, 394, 395, 396, 397, 398, 399, 400, 401, 31, 402, 403, 404, 405, 406, 407, 408, 409, 33, 34, 410, 411, 412, 413, 27, 29, 30, 28, 275, 276, 414, 415, 416, 417, 418, 419, 420, 421, 422, 597, 598, 599, 600, 601, 602, 603, 604, 605, 606, 607, 608, 609, 610, 611, 612, 613] (by decide +kernel) (by decide +kernel)
set_option maxRecDepth 20000 in
theorem gL_law_X1_reckonedEast : GoodIn wsL_law (wsV RL 88 RX1 yX1_reckonedEast wsX1_reckonedEast) := goodIn_app (goodIn_of _ (by decide +kernel)) ggL_law_X1_reckonedEast
set_option maxRecDepth 20000 in
theorem ggL_law_X0_correctedNorth : GoodIn wsL_law wsX0_correctedNorth := goodIn_r _ [434, 321, 358, 359, 360, 2, 361, 174, 42, 43, 44, 435, 436, 437, 438, 366, 367, 368, 369, 19, 439, 440, 441, 442, 362, 363, 364, 365, 370, 371, 372, 373, 20, 21, 374, 375, 376, 377, 270, 269, 18, 14, 16, 15, 378, 379, 380, 381, 382, 383, 384, 385, 443, 444, 445, 446, 447, 448, 449, 585, 586, 587, 588, 589, 590, 591, 592, 593, 594, 595, 596] (by decide +kernel) (by decide +kernel)
set_option maxRecDepth 20000 in
theorem gL_law_X0_correctedNorth : GoodIn wsL_law (wsV RL 89 RX0 yX0_correctedNorth wsX0_correctedNorth) := goodIn_app (goodIn_of _ (by decide +kernel)) ggL_law_X0_correctedNorth
set_option maxRecDepth 20000 in
theorem ggL_law_X1_correctedNorth : GoodIn wsL_law wsX1_correctedNorth := goodIn_r _ [453, 339, 390, 391, 392, 5, 393, 189, 52, 53, 54, 454, 455, 456, 457, 398, 399, 400, 401, 31, 458, 459, 460, 461, 402, 403, 404, 405, 406, 407, 408, 409, 33, 34, 410, 411, 412, 413, 27, 29, 30, 28, 275, 276, 414, 415, 416, 417, 418, 419, 420, 421, 422, 462, 463, 464, 597, 598, 599, 600, 601, 602, 603, 604, 605, 606, 607, 608, 609, 610, 611, 612, 613] (by decide +kernel) (by decide +kernel)
set_option maxRecDepth 20000 in
theorem gL_law_X1_correctedNorth : GoodIn wsL_law (wsV RL 92 RX1 yX1_correctedNorth wsX1_correctedNorth) := goodIn_app (goodIn_of _ (by decide +kernel)) ggL_law_X1_correctedNorth
set_option maxRecDepth 20000 in
theorem ggL_law_X0_correctedEast : GoodIn wsL_law wsX0_correctedEast := goodIn_r _ [468, 321, 358, 359, 360, 2, 361, 174, 42, 43, 44, 435, 436, 437, 438, 366, 367, 368, 369, 19, 439, 440, 441, 442, 362, 363, 364, 365, 370, 371, 372, 373, 20, 21, 374, 375, 376, 377, 270, 269, 18, 14, 16, 15, 378, 379, 380, 381, 382, 383, 384, 385, 443, 444, 445, 446, 447, 448, 449, 585, 586, 587, 588, 589, 590, 591, 592, 593, 594, 595, 596] (by decide +kernel) (by decide +kernel)
set_option maxRecDepth 20000 in
theorem gL_law_X0_correctedEast : GoodIn wsL_law (wsV RL 93 RX0 yX0_correctedEast wsX0_correctedEast) := goodIn_app (goodIn_of _ (by decide +kernel)) ggL_law_X0_correctedEast
set_option maxRecDepth 20000 in
theorem ggL_law_X1_correctedEast : GoodIn wsL_law wsX1_correctedEast := goodIn_r _ [472, 339, 390, 391, 392, 5, 393, 189, 52, 53, 54, 454, 455, 456, 457, 398, 399, 400, 401, 31, 458, 459, 460, 461, 402, 403, 404, 405, 406, 407, 408, 409, 33, 34, 410, 411, 412, 413, 27, 29, 30, 28, 275, 276, 414, 415, 416, 417, 418, 419, 420, 421, 422, 462, 463, 464, 597, 598, 599, 600, 601, 602, 603, 604, 605, 606, 607, 608, 609, 610, 611, 612, 613] (by decide +kernel) (by decide +kernel)
set_option maxRecDepth 20000 in
theorem gL_law_X1_correctedEast : GoodIn wsL_law (wsV RL 96 RX1 yX1_correctedEast wsX1_correctedEast) := goodIn_app (goodIn_of _ (by decide +kernel)) ggL_law_X1_correctedEast
set_option maxRecDepth 20000 in
theorem ggL_law_X0_distance : GoodIn wsL_law wsX0_distance := goodIn_r _ [476, 321, 358, 359, 360, 2, 361, 174, 42, 43, 44, 477, 478, 479, 480, 435, 436, 437, 438, 366, 367, 368, 369, 19, 439, 440, 441, 442, 362, 363, 364, 365, 370, 371, 372, 373, 20, 21, 374, 375, 376, 377, 270, 269, 18, 14, 16, 15, 378, 379, 380, 381, 382, 383, 384, 385, 443, 444, 445, 446, 447, 448, 449, 481, 482, 483, 484, 485, 486, 585, 586, 587, 588, 589, 590, 591, 592, 593, 594, 595, 596] (by decide +kernel) (by decide +kernel)
set_option maxRecDepth 20000 in
theorem gL_law_X0_distance : GoodIn wsL_law (wsV RL 97 RX0 yX0_distance wsX0_distance) := goodIn_app (goodIn_of _ (by decide +kernel)) ggL_law_X0_distance
set_option maxRecDepth 20000 in
theorem ggL_law_X1_distance : GoodIn wsL_law wsX1_distance := goodIn_r _ [490, 339, 390, 391, 392, 5, 393, 189, 52, 53, 54, 491, 492, 493, 494, 495, 496, 454, 455, 456, 457, 398, 399, 400, 401, 31, 458, 459, 460, 461, 402, 403, 404, 405, 406, 407, 408, 409, 33, 34, 410, 411, 412, 413, 27, 29, 30, 28, 275, 276, 414, 415, 416, 417, 418, 419, 420, 421, 422, 462, 463, 464, 597, 598, 599, 600, 601, 602, 603, 604, 605, 606, 607, 608, 609, 610, 611, 612, 613] (by decide +kernel) (by decide +kernel)
set_option maxRecDepth 20000 in
theorem gL_law_X1_distance : GoodIn wsL_law (wsV RL 100 RX1 yX1_distance wsX1_distance) := goodIn_app (goodIn_of _ (by decide +kernel)) ggL_law_X1_distance
set_option maxRecDepth 20000 in
theorem ggL_law_X0_bearing : GoodIn wsL_law wsX0_bearing := goodIn_r _ [500, 321, 233, 358, 359, 360, 2, 361, 174, 42, 43, 44, 477, 478, 479, 480, 435, 436, 437, 438, 366, 367, 368, 369, 19, 439, 440, 441, 442, 362, 363, 364, 365, 370, 371, 372, 373, 20, 21, 374, 375, 376, 377, 270, 269, 18, 14, 16, 15, 378, 379, 380, 381, 382, 383, 384, 385, 443, 444, 445, 446, 447, 448, 449, 501, 502, 503, 504, 505, 506, 585, 586, 587, 588, 589, 590, 591, 592, 593, 594, 595, 596] (by decide +kernel) (by decide +kernel)
set_option maxRecDepth 20000 in
theorem gL_law_X0_bearing : GoodIn wsL_law (wsV RL 101 RX0 yX0_bearing wsX0_bearing) := goodIn_app (goodIn_of _ (by decide +kernel)) ggL_law_X0_bearing
set_option maxRecDepth 20000 in
theorem ggL_law_X1_bearing : GoodIn wsL_law wsX1_bearing := goodIn_r _ [510, 339, 390, 391, 392, 5, 393, 189, 52, 53, 54, 511, 512, 513, 514, 238, 454, 455, 456, 457, 398, 399, 400, 401, 31, 458, 459, 460, 461, 402, 403, 404, 405, 406, 407, 408, 409, 33, 34, 410, 411, 412, 413, 27, 29, 30, 28, 275, 276, 414, 415, 416, 417, 418, 419, 420, 421, 422, 462, 463, 464, 597, 598, 599, 600, 601, 602, 603, 604, 605, 606, 607, 608, 609, 610, 611, 612, 613] (by decide +kernel) (by decide +kernel)
set_option maxRecDepth 20000 in
theorem gL_law_X1_bearing : GoodIn wsL_law (wsV RL 104 RX1 yX1_bearing wsX1_bearing) := goodIn_app (goodIn_of _ (by decide +kernel)) ggL_law_X1_bearing
set_option maxRecDepth 20000 in
theorem ggL_law_X0_findLost : GoodIn wsL_law wsX0_findLost := goodIn_r _ [518, 215, 18, 243, 233, 16, 216, 217, 218, 2, 219, 174, 42, 43, 44, 366, 367, 368, 369, 19, 439, 440, 441, 442, 244, 245, 246, 247, 443, 444, 445, 446, 370, 371, 372, 373, 20, 21, 374, 375, 376, 377, 270, 269, 14, 15, 378, 379, 380, 381, 382, 383, 384, 385, 519, 520, 521, 522, 481, 482, 483, 523, 524, 525, 585, 586, 587, 588, 589, 590, 591, 592, 593, 594, 595, 596] (by decide +kernel) (by decide +kernel)
set_option maxRecDepth 20000 in
theorem gL_law_X0_findLost : GoodIn wsL_law (wsV RL 105 RX0 yX0_findLost wsX0_findLost) := goodIn_app (goodIn_of _ (by decide +kernel)) ggL_law_X0_findLost
set_option maxRecDepth 20000 in
theorem ggL_law_X1_findLost : GoodIn wsL_law wsX1_findLost := goodIn_r _ [529, 224, 225, 226, 227, 5, 228, 189, 52, 53, 54, 530, 531, 532, 533, 30, 252, 238, 398, 399, 400, 401, 31, 458, 459, 460, 461, 534, 535, 536, 537, 538, 539, 540, 541, 542, 29, 543, 406, 407, 408, 409, 33, 34, 402, 403, 404, 405, 410, 411, 412, 413, 27, 28, 275, 276, 414, 415, 416, 417, 418, 419, 420, 421, 422, 597, 598, 599, 600, 601, 602, 603, 604, 605, 606, 607, 608, 609, 610, 611, 612, 613] (by decide +kernel) (by decide +kernel)
set_option maxRecDepth 20000 in
theorem gL_law_X1_findLost : GoodIn wsL_law (wsV RL 108 RX1 yX1_findLost wsX1_findLost) := goodIn_app (goodIn_of _ (by decide +kernel)) ggL_law_X1_findLost
set_option maxRecDepth 20000 in
theorem ggL_law_X0_digest : GoodIn wsL_law wsX0_digest := goodIn_r _ [547, 548, 174, 270, 269, 549, 550, 2, 551, 552, 553, 554, 555, 556, 16, 557, 286, 287, 288, 215, 18, 243, 14, 216, 217, 218, 219, 42, 43, 44, 558, 298, 299, 300, 15, 559, 560, 561, 562, 19, 362, 363, 364, 365, 366, 367, 368, 369, 370, 371, 372, 373, 20, 21, 374, 375, 376, 377, 378, 379, 380, 381, 382, 383, 384, 385, 435, 436, 437, 438, 439, 440, 441, 442, 443, 444, 445, 446, 447, 448, 449, 563, 474, 475, 476, 321, 358, 359, 360, 361, 477, 478, 479, 480, 481, 482, 483, 484, 485, 486, 564, 498, 499, 500, 233, 501, 502, 503, 504, 505, 506, 565, 566, 567, 568, 569, 516, 517, 518, 244, 245, 246, 247, 519, 520, 521, 522, 523, 524, 525, 570, 571, 572, 573, 40, 13, 585, 586, 587, 588, 589, 590, 591, 592, 593, 594, 595, 596] (by decide +kernel) (by decide +kernel)
set_option maxRecDepth 20000 in
theorem gL_law_X0_digest : GoodIn wsL_law (wsV RL 109 RX0 yX0_digest wsX0_digest) := goodIn_app (goodIn_of _ (by decide +kernel)) ggL_law_X0_digest
set_option maxRecDepth 20000 in
theorem ggL_law_X1_digest : GoodIn wsL_law wsX1_digest := goodIn_r _ [577, 578, 579, 189, 29, 30, 276, 275, 31, 50, 26, 580, 581, 582, 5, 583, 584, 293, 294, 295, 296, 252, 27, 305, 306, 307, 308, 28, 394, 395, 396, 397, 398, 399, 400, 401, 402, 403, 404, 405, 406, 407, 408, 409, 33, 34, 410, 411, 412, 413, 414, 415, 416, 417, 418, 419, 420, 421, 422, 454, 455, 456, 457, 458, 459, 460, 461, 462, 463, 464, 491, 492, 493, 494, 495, 496, 511, 512, 513, 514, 238, 530, 531, 532, 533, 534, 535, 536, 537, 538, 539, 540, 541, 542, 543, 597, 598, 599, 600, 601, 602, 603, 604, 605, 606, 607, 608, 609, 610, 611, 612, 613] (by decide +kernel) (by decide +kernel)
set_option maxRecDepth 20000 in
theorem gL_law_X1_digest : GoodIn wsL_law (wsV RL 112 RX1 yX1_digest wsX1_digest) := goodIn_app (goodIn_of _ (by decide +kernel)) ggL_law_X1_digest
theorem dL_law_0 : decode cL_law 0 = .ok (.new 7, 3) := by decide +kernel
theorem dL_law_3 : decode cL_law 3 = .ok (.dup, 1) := by decide +kernel
theorem dL_law_4 : decode cL_law 4 = .ok (.invokespecial 9, 3) := by decide +kernel
theorem dL_law_7 : decode cL_law 7 = .ok (.astore_n 1, 1) := by decide +kernel
theorem dL_law_8 : decode cL_law 8 = .ok (.new 10, 3) := by decide +kernel
theorem dL_law_11 : decode cL_law 11 = .ok (.dup, 1) := by decide +kernel
theorem dL_law_12 : decode cL_law 12 = .ok (.invokespecial 12, 3) := by decide +kernel
theorem dL_law_15 : decode cL_law 15 = .ok (.astore_n 2, 1) := by decide +kernel
theorem dL_law_16 : decode cL_law 16 = .ok (.iconst 0, 1) := by decide +kernel
theorem dL_law_17 : decode cL_law 17 = .ok (.istore_n 3, 1) := by decide +kernel
theorem dL_law_18 : decode cL_law 18 = .ok (.iload_n 3, 1) := by decide +kernel
theorem dL_law_19 : decode cL_law 19 = .ok (.aload_n 0, 1) := by decide +kernel
theorem dL_law_20 : decode cL_law 20 = .ok (.arraylength, 1) := by decide +kernel
theorem dL_law_21 : decode cL_law 21 = .ok (.iconst 4, 1) := by decide +kernel
theorem dL_law_22 : decode cL_law 22 = .ok (.isub, 1) := by decide +kernel
theorem dL_law_23 : decode cL_law 23 = .ok (.if_icmp .gt 733, 3) := by decide +kernel
theorem dL_law_26 : decode cL_law 26 = .ok (.aload_n 0, 1) := by decide +kernel
theorem dL_law_27 : decode cL_law 27 = .ok (.iload_n 3, 1) := by decide +kernel
theorem dL_law_28 : decode cL_law 28 = .ok (.iaload, 1) := by decide +kernel
theorem dL_law_29 : decode cL_law 29 = .ok (.bipush 31, 2) := by decide +kernel
theorem dL_law_31 : decode cL_law 31 = .ok (.iand, 1) := by decide +kernel
theorem dL_law_32 : decode cL_law 32 = .ok (.tableswitch 718 0 23 #[112, 136, 150, 164, 178, 212, 256, 270, 294, 328, 362, 376, 400, 424, 448, 492, 516, 540, 564, 588, 612, 646, 680, 704], 112) := by decide +kernel
theorem dL_law_144 : decode cL_law 144 = .ok (.aload_n 1, 1) := by decide +kernel
theorem dL_law_145 : decode cL_law 145 = .ok (.aload_n 0, 1) := by decide +kernel
theorem dL_law_146 : decode cL_law 146 = .ok (.iload_n 3, 1) := by decide +kernel
theorem dL_law_147 : decode cL_law 147 = .ok (.iconst 1, 1) := by decide +kernel
theorem dL_law_148 : decode cL_law 148 = .ok (.iadd, 1) := by decide +kernel
theorem dL_law_149 : decode cL_law 149 = .ok (.iaload, 1) := by decide +kernel
theorem dL_law_150 : decode cL_law 150 = .ok (.invokevirtual 13, 3) := by decide +kernel
theorem dL_law_153 : decode cL_law 153 = .ok (.aload_n 2, 1) := by decide +kernel
theorem dL_law_154 : decode cL_law 154 = .ok (.aload_n 0, 1) := by decide +kernel
theorem dL_law_155 : decode cL_law 155 = .ok (.iload_n 3, 1) := by decide +kernel
theorem dL_law_156 : decode cL_law 156 = .ok (.iconst 1, 1) := by decide +kernel
theorem dL_law_157 : decode cL_law 157 = .ok (.iadd, 1) := by decide +kernel
theorem dL_law_158 : decode cL_law 158 = .ok (.iaload, 1) := by decide +kernel
theorem dL_law_159 : decode cL_law 159 = .ok (.invokevirtual 17, 3) := by decide +kernel
theorem dL_law_162 : decode cL_law 162 = .ok (.lcmp, 1) := by decide +kernel
theorem dL_law_163 : decode cL_law 163 = .ok (.ifCond .eq 587, 3) := by decide +kernel
theorem dL_law_166 : decode cL_law 166 = .ok (.iconst 0, 1) := by decide +kernel
theorem dL_law_167 : decode cL_law 167 = .ok (.ireturn, 1) := by decide +kernel
theorem dL_law_168 : decode cL_law 168 = .ok (.aload_n 1, 1) := by decide +kernel
theorem dL_law_169 : decode cL_law 169 = .ok (.invokevirtual 18, 3) := by decide +kernel
theorem dL_law_172 : decode cL_law 172 = .ok (.aload_n 2, 1) := by decide +kernel
theorem dL_law_173 : decode cL_law 173 = .ok (.invokevirtual 22, 3) := by decide +kernel
theorem dL_law_176 : decode cL_law 176 = .ok (.lcmp, 1) := by decide +kernel
theorem dL_law_177 : decode cL_law 177 = .ok (.ifCond .eq 573, 3) := by decide +kernel
theorem dL_law_180 : decode cL_law 180 = .ok (.iconst 0, 1) := by decide +kernel
theorem dL_law_181 : decode cL_law 181 = .ok (.ireturn, 1) := by decide +kernel
theorem dL_law_182 : decode cL_law 182 = .ok (.aload_n 1, 1) := by decide +kernel
theorem dL_law_183 : decode cL_law 183 = .ok (.invokevirtual 23, 3) := by decide +kernel
theorem dL_law_186 : decode cL_law 186 = .ok (.aload_n 2, 1) := by decide +kernel
theorem dL_law_187 : decode cL_law 187 = .ok (.invokevirtual 26, 3) := by decide +kernel
theorem dL_law_190 : decode cL_law 190 = .ok (.lcmp, 1) := by decide +kernel
theorem dL_law_191 : decode cL_law 191 = .ok (.ifCond .eq 559, 3) := by decide +kernel
theorem dL_law_194 : decode cL_law 194 = .ok (.iconst 0, 1) := by decide +kernel
theorem dL_law_195 : decode cL_law 195 = .ok (.ireturn, 1) := by decide +kernel
theorem dL_law_196 : decode cL_law 196 = .ok (.aload_n 1, 1) := by decide +kernel
theorem dL_law_197 : decode cL_law 197 = .ok (.invokevirtual 27, 3) := by decide +kernel
theorem dL_law_200 : decode cL_law 200 = .ok (.aload_n 2, 1) := by decide +kernel
theorem dL_law_201 : decode cL_law 201 = .ok (.invokevirtual 30, 3) := by decide +kernel
theorem dL_law_204 : decode cL_law 204 = .ok (.lcmp, 1) := by decide +kernel
theorem dL_law_205 : decode cL_law 205 = .ok (.ifCond .eq 545, 3) := by decide +kernel
theorem dL_law_208 : decode cL_law 208 = .ok (.iconst 0, 1) := by decide +kernel
theorem dL_law_209 : decode cL_law 209 = .ok (.ireturn, 1) := by decide +kernel
theorem dL_law_210 : decode cL_law 210 = .ok (.aload_n 1, 1) := by decide +kernel
theorem dL_law_211 : decode cL_law 211 = .ok (.aload_n 0, 1) := by decide +kernel
theorem dL_law_212 : decode cL_law 212 = .ok (.iload_n 3, 1) := by decide +kernel
theorem dL_law_213 : decode cL_law 213 = .ok (.iconst 1, 1) := by decide +kernel
theorem dL_law_214 : decode cL_law 214 = .ok (.iadd, 1) := by decide +kernel
theorem dL_law_215 : decode cL_law 215 = .ok (.iaload, 1) := by decide +kernel
theorem dL_law_216 : decode cL_law 216 = .ok (.aload_n 0, 1) := by decide +kernel
theorem dL_law_217 : decode cL_law 217 = .ok (.iload_n 3, 1) := by decide +kernel
theorem dL_law_218 : decode cL_law 218 = .ok (.iconst 2, 1) := by decide +kernel
theorem dL_law_219 : decode cL_law 219 = .ok (.iadd, 1) := by decide +kernel
theorem dL_law_220 : decode cL_law 220 = .ok (.iaload, 1) := by decide +kernel
theorem dL_law_221 : decode cL_law 221 = .ok (.invokevirtual 31, 3) := by decide +kernel
theorem dL_law_224 : decode cL_law 224 = .ok (.aload_n 2, 1) := by decide +kernel
theorem dL_law_225 : decode cL_law 225 = .ok (.aload_n 0, 1) := by decide +kernel
theorem dL_law_226 : decode cL_law 226 = .ok (.iload_n 3, 1) := by decide +kernel
theorem dL_law_227 : decode cL_law 227 = .ok (.iconst 1, 1) := by decide +kernel
theorem dL_law_228 : decode cL_law 228 = .ok (.iadd, 1) := by decide +kernel
theorem dL_law_229 : decode cL_law 229 = .ok (.iaload, 1) := by decide +kernel
theorem dL_law_230 : decode cL_law 230 = .ok (.aload_n 0, 1) := by decide +kernel
theorem dL_law_231 : decode cL_law 231 = .ok (.iload_n 3, 1) := by decide +kernel
theorem dL_law_232 : decode cL_law 232 = .ok (.iconst 2, 1) := by decide +kernel
theorem dL_law_233 : decode cL_law 233 = .ok (.iadd, 1) := by decide +kernel
theorem dL_law_234 : decode cL_law 234 = .ok (.iaload, 1) := by decide +kernel
theorem dL_law_235 : decode cL_law 235 = .ok (.invokevirtual 35, 3) := by decide +kernel
theorem dL_law_238 : decode cL_law 238 = .ok (.lcmp, 1) := by decide +kernel
theorem dL_law_239 : decode cL_law 239 = .ok (.ifCond .eq 511, 3) := by decide +kernel
theorem dL_law_242 : decode cL_law 242 = .ok (.iconst 0, 1) := by decide +kernel
theorem dL_law_243 : decode cL_law 243 = .ok (.ireturn, 1) := by decide +kernel
theorem dL_law_244 : decode cL_law 244 = .ok (.aload_n 1, 1) := by decide +kernel
theorem dL_law_245 : decode cL_law 245 = .ok (.aload_n 0, 1) := by decide +kernel
theorem dL_law_246 : decode cL_law 246 = .ok (.iload_n 3, 1) := by decide +kernel
theorem dL_law_247 : decode cL_law 247 = .ok (.iconst 1, 1) := by decide +kernel
theorem dL_law_248 : decode cL_law 248 = .ok (.iadd, 1) := by decide +kernel
theorem dL_law_249 : decode cL_law 249 = .ok (.iaload, 1) := by decide +kernel
theorem dL_law_250 : decode cL_law 250 = .ok (.aload_n 0, 1) := by decide +kernel
theorem dL_law_251 : decode cL_law 251 = .ok (.iload_n 3, 1) := by decide +kernel
theorem dL_law_252 : decode cL_law 252 = .ok (.iconst 2, 1) := by decide +kernel
theorem dL_law_253 : decode cL_law 253 = .ok (.iadd, 1) := by decide +kernel
theorem dL_law_254 : decode cL_law 254 = .ok (.iaload, 1) := by decide +kernel
theorem dL_law_255 : decode cL_law 255 = .ok (.aload_n 0, 1) := by decide +kernel
theorem dL_law_256 : decode cL_law 256 = .ok (.iload_n 3, 1) := by decide +kernel
theorem dL_law_257 : decode cL_law 257 = .ok (.iconst 3, 1) := by decide +kernel
theorem dL_law_258 : decode cL_law 258 = .ok (.iadd, 1) := by decide +kernel
theorem dL_law_259 : decode cL_law 259 = .ok (.iaload, 1) := by decide +kernel
theorem dL_law_260 : decode cL_law 260 = .ok (.invokevirtual 36, 3) := by decide +kernel
theorem dL_law_263 : decode cL_law 263 = .ok (.aload_n 2, 1) := by decide +kernel
theorem dL_law_264 : decode cL_law 264 = .ok (.aload_n 0, 1) := by decide +kernel
theorem dL_law_265 : decode cL_law 265 = .ok (.iload_n 3, 1) := by decide +kernel
theorem dL_law_266 : decode cL_law 266 = .ok (.iconst 1, 1) := by decide +kernel
theorem dL_law_267 : decode cL_law 267 = .ok (.iadd, 1) := by decide +kernel
theorem dL_law_268 : decode cL_law 268 = .ok (.iaload, 1) := by decide +kernel
theorem dL_law_269 : decode cL_law 269 = .ok (.aload_n 0, 1) := by decide +kernel
theorem dL_law_270 : decode cL_law 270 = .ok (.iload_n 3, 1) := by decide +kernel
theorem dL_law_271 : decode cL_law 271 = .ok (.iconst 2, 1) := by decide +kernel
theorem dL_law_272 : decode cL_law 272 = .ok (.iadd, 1) := by decide +kernel
theorem dL_law_273 : decode cL_law 273 = .ok (.iaload, 1) := by decide +kernel
theorem dL_law_274 : decode cL_law 274 = .ok (.aload_n 0, 1) := by decide +kernel
theorem dL_law_275 : decode cL_law 275 = .ok (.iload_n 3, 1) := by decide +kernel
theorem dL_law_276 : decode cL_law 276 = .ok (.iconst 3, 1) := by decide +kernel
theorem dL_law_277 : decode cL_law 277 = .ok (.iadd, 1) := by decide +kernel
theorem dL_law_278 : decode cL_law 278 = .ok (.iaload, 1) := by decide +kernel
theorem dL_law_279 : decode cL_law 279 = .ok (.invokevirtual 40, 3) := by decide +kernel
theorem dL_law_282 : decode cL_law 282 = .ok (.lcmp, 1) := by decide +kernel
theorem dL_law_283 : decode cL_law 283 = .ok (.ifCond .eq 467, 3) := by decide +kernel
theorem dL_law_286 : decode cL_law 286 = .ok (.iconst 0, 1) := by decide +kernel
theorem dL_law_287 : decode cL_law 287 = .ok (.ireturn, 1) := by decide +kernel
theorem dL_law_288 : decode cL_law 288 = .ok (.aload_n 1, 1) := by decide +kernel
theorem dL_law_289 : decode cL_law 289 = .ok (.invokevirtual 41, 3) := by decide +kernel
theorem dL_law_292 : decode cL_law 292 = .ok (.aload_n 2, 1) := by decide +kernel
theorem dL_law_293 : decode cL_law 293 = .ok (.invokevirtual 44, 3) := by decide +kernel
theorem dL_law_296 : decode cL_law 296 = .ok (.lcmp, 1) := by decide +kernel
theorem dL_law_297 : decode cL_law 297 = .ok (.ifCond .eq 453, 3) := by decide +kernel
theorem dL_law_300 : decode cL_law 300 = .ok (.iconst 0, 1) := by decide +kernel
theorem dL_law_301 : decode cL_law 301 = .ok (.ireturn, 1) := by decide +kernel
theorem dL_law_302 : decode cL_law 302 = .ok (.aload_n 1, 1) := by decide +kernel
theorem dL_law_303 : decode cL_law 303 = .ok (.aload_n 0, 1) := by decide +kernel
theorem dL_law_304 : decode cL_law 304 = .ok (.iload_n 3, 1) := by decide +kernel
theorem dL_law_305 : decode cL_law 305 = .ok (.iconst 1, 1) := by decide +kernel
theorem dL_law_306 : decode cL_law 306 = .ok (.iadd, 1) := by decide +kernel
theorem dL_law_307 : decode cL_law 307 = .ok (.iaload, 1) := by decide +kernel
theorem dL_law_308 : decode cL_law 308 = .ok (.invokevirtual 45, 3) := by decide +kernel
theorem dL_law_311 : decode cL_law 311 = .ok (.aload_n 2, 1) := by decide +kernel
theorem dL_law_312 : decode cL_law 312 = .ok (.aload_n 0, 1) := by decide +kernel
theorem dL_law_313 : decode cL_law 313 = .ok (.iload_n 3, 1) := by decide +kernel
theorem dL_law_314 : decode cL_law 314 = .ok (.iconst 1, 1) := by decide +kernel
theorem dL_law_315 : decode cL_law 315 = .ok (.iadd, 1) := by decide +kernel
theorem dL_law_316 : decode cL_law 316 = .ok (.iaload, 1) := by decide +kernel
theorem dL_law_317 : decode cL_law 317 = .ok (.invokevirtual 48, 3) := by decide +kernel
theorem dL_law_320 : decode cL_law 320 = .ok (.lcmp, 1) := by decide +kernel
theorem dL_law_321 : decode cL_law 321 = .ok (.ifCond .eq 429, 3) := by decide +kernel
theorem dL_law_324 : decode cL_law 324 = .ok (.iconst 0, 1) := by decide +kernel
theorem dL_law_325 : decode cL_law 325 = .ok (.ireturn, 1) := by decide +kernel
theorem dL_law_326 : decode cL_law 326 = .ok (.aload_n 1, 1) := by decide +kernel
theorem dL_law_327 : decode cL_law 327 = .ok (.aload_n 0, 1) := by decide +kernel
theorem dL_law_328 : decode cL_law 328 = .ok (.iload_n 3, 1) := by decide +kernel
theorem dL_law_329 : decode cL_law 329 = .ok (.iconst 1, 1) := by decide +kernel
theorem dL_law_330 : decode cL_law 330 = .ok (.iadd, 1) := by decide +kernel
theorem dL_law_331 : decode cL_law 331 = .ok (.iaload, 1) := by decide +kernel
theorem dL_law_332 : decode cL_law 332 = .ok (.aload_n 0, 1) := by decide +kernel
theorem dL_law_333 : decode cL_law 333 = .ok (.iload_n 3, 1) := by decide +kernel
theorem dL_law_334 : decode cL_law 334 = .ok (.iconst 2, 1) := by decide +kernel
theorem dL_law_335 : decode cL_law 335 = .ok (.iadd, 1) := by decide +kernel
theorem dL_law_336 : decode cL_law 336 = .ok (.iaload, 1) := by decide +kernel
theorem dL_law_337 : decode cL_law 337 = .ok (.invokevirtual 49, 3) := by decide +kernel
theorem dL_law_340 : decode cL_law 340 = .ok (.aload_n 2, 1) := by decide +kernel
theorem dL_law_341 : decode cL_law 341 = .ok (.aload_n 0, 1) := by decide +kernel
theorem dL_law_342 : decode cL_law 342 = .ok (.iload_n 3, 1) := by decide +kernel
theorem dL_law_343 : decode cL_law 343 = .ok (.iconst 1, 1) := by decide +kernel
theorem dL_law_344 : decode cL_law 344 = .ok (.iadd, 1) := by decide +kernel
theorem dL_law_345 : decode cL_law 345 = .ok (.iaload, 1) := by decide +kernel
theorem dL_law_346 : decode cL_law 346 = .ok (.aload_n 0, 1) := by decide +kernel
theorem dL_law_347 : decode cL_law 347 = .ok (.iload_n 3, 1) := by decide +kernel
theorem dL_law_348 : decode cL_law 348 = .ok (.iconst 2, 1) := by decide +kernel
theorem dL_law_349 : decode cL_law 349 = .ok (.iadd, 1) := by decide +kernel
theorem dL_law_350 : decode cL_law 350 = .ok (.iaload, 1) := by decide +kernel
theorem dL_law_351 : decode cL_law 351 = .ok (.invokevirtual 52, 3) := by decide +kernel
theorem dL_law_354 : decode cL_law 354 = .ok (.lcmp, 1) := by decide +kernel
theorem dL_law_355 : decode cL_law 355 = .ok (.ifCond .eq 395, 3) := by decide +kernel
theorem dL_law_358 : decode cL_law 358 = .ok (.iconst 0, 1) := by decide +kernel
theorem dL_law_359 : decode cL_law 359 = .ok (.ireturn, 1) := by decide +kernel
theorem dL_law_360 : decode cL_law 360 = .ok (.aload_n 1, 1) := by decide +kernel
theorem dL_law_361 : decode cL_law 361 = .ok (.aload_n 0, 1) := by decide +kernel
theorem dL_law_362 : decode cL_law 362 = .ok (.iload_n 3, 1) := by decide +kernel
theorem dL_law_363 : decode cL_law 363 = .ok (.iconst 1, 1) := by decide +kernel
theorem dL_law_364 : decode cL_law 364 = .ok (.iadd, 1) := by decide +kernel
theorem dL_law_365 : decode cL_law 365 = .ok (.iaload, 1) := by decide +kernel
theorem dL_law_366 : decode cL_law 366 = .ok (.aload_n 0, 1) := by decide +kernel
theorem dL_law_367 : decode cL_law 367 = .ok (.iload_n 3, 1) := by decide +kernel
theorem dL_law_368 : decode cL_law 368 = .ok (.iconst 2, 1) := by decide +kernel
theorem dL_law_369 : decode cL_law 369 = .ok (.iadd, 1) := by decide +kernel
