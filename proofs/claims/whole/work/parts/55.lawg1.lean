set_option maxRecDepth 20000 in
theorem ggL_law_X5_init : GoodIn wsL_law wsX5_init := goodIn_r _ [8, 9, 10, 11, 12, 13, 14, 15, 16, 17, 18, 19, 20, 21, 22, 23, 24, 25, 26, 27, 28, 29, 30, 31, 32, 33, 34, 35, 36, 37, 38, 39, 40, 41, 42, 43, 44, 45, 46, 47, 48, 49, 50, 51, 52, 53, 54, 55, 56, 57, 58, 59, 60, 61, 62, 2, 63, 64, 65, 66, 67, 68, 69, 70, 71, 72, 73, 74, 75, 76, 77, 78, 79, 80, 81, 82, 83, 84, 85, 86, 87, 88, 89, 90, 91, 92, 93, 94, 95, 96, 97, 98, 99, 100, 101, 102, 103, 104, 105, 106, 107, 108, 109, 110, 111, 112, 113, 114, 115, 116, 117, 118, 119, 120, 121, 613, 614, 615, 616, 617, 618, 619, 589, 590, 591, 592, 593, 594, 595, 620, 621, 622, 623, 624, 625, 626, 627, 628, 629, 630, 631, 632] (by decide +kernel) (by decide +kernel)
set_option maxRecDepth 20000 in
theorem gL_law_X5_init : GoodIn wsL_law (wsX5_init) := ggL_law_X5_init
set_option maxRecDepth 20000 in
theorem ggL_law_X6_init : GoodIn wsL_law wsX6_init := goodIn_r _ [124, 125, 10, 11, 32, 126, 127, 128, 129, 130, 131, 132, 133, 134, 135, 136, 137, 138, 139, 140, 141, 5, 142, 143, 144, 145, 146, 147, 148, 149, 150, 596, 597, 598, 599, 600, 601, 602, 603, 604, 605, 606, 607, 608, 609, 610, 611, 612] (by decide +kernel) (by decide +kernel)
set_option maxRecDepth 20000 in
theorem gL_law_X6_init : GoodIn wsL_law (wsX6_init) := ggL_law_X6_init
set_option maxRecDepth 20000 in
theorem ggL_law_X5_setOuter : GoodIn wsL_law wsX5_setOuter := goodIn_r _ [154, 15, 19, 155, 18, 156, 157, 51, 50, 158, 159, 160, 161, 162, 14, 163, 164, 38, 39, 40, 45, 41, 42, 44, 165, 166, 167, 75, 76, 77, 2, 78, 23, 31, 79, 22, 80, 81, 56, 55, 82, 83, 84, 85, 86, 87, 88, 89, 90, 91, 92, 93, 94, 95, 30, 96, 97, 72, 74, 73, 67, 71, 70, 98, 26, 99, 100, 101, 102, 103, 104, 68, 69, 105, 106, 107, 108, 109, 110, 111, 112, 113, 114, 115, 116, 117, 118, 119, 120, 121, 589, 590, 591, 592, 593, 594, 595, 613, 614, 615, 616, 617, 618, 619, 620, 621, 622, 623, 625, 626, 627, 628, 629, 630, 631, 632] (by decide +kernel) (by decide +kernel)
set_option maxRecDepth 20000 in
theorem gL_law_X5_setOuter : GoodIn wsL_law (wsV RL 13 RX5 yX5_setOuter wsX5_setOuter) := goodIn_app (goodIn_of _ (by decide +kernel)) ggL_law_X5_setOuter
set_option maxRecDepth 20000 in
theorem ggL_law_X6_setOuter : GoodIn wsL_law wsX6_setOuter := goodIn_r _ [171, 126, 172, 173, 5, 174, 175, 176, 177, 178, 179, 127, 180, 181, 182, 183, 596, 597, 598, 599, 600, 601, 602, 603, 604, 605, 606, 607, 608, 609, 610, 611, 612] (by decide +kernel) (by decide +kernel)
set_option maxRecDepth 20000 in
theorem gL_law_X6_setOuter : GoodIn wsL_law (wsV RL 17 RX6 yX6_setOuter wsX6_setOuter) := goodIn_app (goodIn_of _ (by decide +kernel)) ggL_law_X6_setOuter
set_option maxRecDepth 20000 in
theorem ggL_law_X5_generator : GoodIn wsL_law wsX5_generator := goodIn_r _ [187, 34, 33, 589, 590, 591, 592, 593, 594, 595] (by decide +kernel) (by decide +kernel)
set_option maxRecDepth 20000 in
theorem gL_law_X5_generator : GoodIn wsL_law (wsV RL 18 RX5 yX5_generator wsX5_generator) := goodIn_app (goodIn_of _ (by decide +kernel)) ggL_law_X5_generator
set_option maxRecDepth 20000 in
theorem ggL_law_X6_generator : GoodIn wsL_law wsX6_generator := goodIn_r _ [191, 192, 128, 172, 173, 5, 174, 596, 597, 598, 599, 600, 601, 602, 603, 604, 605, 606, 607, 608, 609, 610, 611, 612] (by decide +kernel) (by decide +kernel)
set_option maxRecDepth 20000 in
theorem gL_law_X6_generator : GoodIn wsL_law (wsV RL 22 RX6 yX6_generator wsX6_generator) := goodIn_app (goodIn_of _ (by decide +kernel)) ggL_law_X6_generator
set_option maxRecDepth 20000 in
theorem ggL_law_X5_clearGenerators : GoodIn wsL_law wsX5_clearGenerators := goodIn_r _ [196, 34, 589, 590, 591, 592, 593, 594, 595] (by decide +kernel) (by decide +kernel)
set_option maxRecDepth 20000 in
theorem gL_law_X5_clearGenerators : GoodIn wsL_law (wsV RL 23 RX5 yX5_clearGenerators wsX5_clearGenerators) := goodIn_app (goodIn_of _ (by decide +kernel)) ggL_law_X5_clearGenerators
set_option maxRecDepth 20000 in
theorem ggL_law_X6_clearGenerators : GoodIn wsL_law wsX6_clearGenerators := goodIn_r _ [200, 192, 596, 597, 598, 599, 600, 601, 602, 603, 604, 605, 606, 607, 608, 609, 610, 611, 612] (by decide +kernel) (by decide +kernel)
set_option maxRecDepth 20000 in
theorem gL_law_X6_clearGenerators : GoodIn wsL_law (wsV RL 27 RX6 yX6_clearGenerators wsX6_clearGenerators) := goodIn_app (goodIn_of _ (by decide +kernel)) ggL_law_X6_clearGenerators
set_option maxRecDepth 20000 in
theorem ggL_law_X5_setInner : GoodIn wsL_law wsX5_setInner := goodIn_r _ [204, 34, 33, 19, 15, 23, 205, 206, 2, 207, 208, 86, 87, 155, 18, 156, 157, 51, 50, 158, 159, 160, 161, 162, 14, 163, 164, 38, 39, 40, 45, 41, 42, 44, 165, 166, 167, 75, 76, 77, 78, 31, 79, 22, 80, 81, 56, 55, 82, 83, 84, 85, 88, 89, 90, 91, 92, 93, 94, 95, 30, 96, 97, 72, 74, 73, 67, 71, 70, 98, 26, 99, 100, 101, 102, 103, 104, 68, 69, 105, 106, 107, 108, 109, 110, 111, 112, 113, 114, 115, 116, 117, 118, 119, 120, 121, 589, 590, 591, 592, 593, 594, 595, 613, 614, 615, 616, 617, 618, 619, 622, 623, 620, 621, 625, 626, 627, 628, 629, 630, 631, 632] (by decide +kernel) (by decide +kernel)
set_option maxRecDepth 20000 in
theorem gL_law_X5_setInner : GoodIn wsL_law (wsV RL 28 RX5 yX5_setInner wsX5_setInner) := goodIn_app (goodIn_of _ (by decide +kernel)) ggL_law_X5_setInner
set_option maxRecDepth 20000 in
theorem ggL_law_X6_setInner : GoodIn wsL_law wsX6_setInner := goodIn_r _ [212, 126, 128, 192, 147, 172, 173, 5, 174, 213, 214, 215, 216, 175, 176, 177, 178, 179, 127, 180, 181, 182, 183, 143, 144, 145, 146, 133, 135, 134, 148, 149, 150, 596, 597, 598, 599, 600, 601, 602, 603, 604, 605, 606, 607, 608, 609, 610, 611, 612] (by decide +kernel) (by decide +kernel)
set_option maxRecDepth 20000 in
theorem gL_law_X6_setInner : GoodIn wsL_law (wsV RL 31 RX6 yX6_setInner wsX6_setInner) := goodIn_app (goodIn_of _ (by decide +kernel)) ggL_law_X6_setInner
set_option maxRecDepth 20000 in
theorem ggL_law_X5_undo : GoodIn wsL_law wsX5_undo := goodIn_r _ [220, 19, 15, 221, 18, 222, 223, 51, 50, 162, 14, 163, 164, 38, 39, 40, 45, 41, 42, 44, 75, 76, 77, 2, 78, 23, 31, 79, 22, 80, 81, 56, 55, 82, 83, 84, 85, 86, 87, 88, 89, 90, 91, 92, 93, 94, 95, 30, 96, 97, 72, 74, 73, 67, 71, 70, 98, 26, 99, 100, 101, 102, 103, 104, 68, 69, 105, 106, 107, 108, 109, 110, 111, 112, 113, 114, 115, 116, 117, 118, 119, 120, 121, 589, 590, 591, 592, 593, 594, 595, 620, 621, 613, 614, 615, 616, 617, 618, 619, 622, 623, 625, 626, 627, 628, 629, 630, 631, 632] (by decide +kernel) (by decide +kernel)
set_option maxRecDepth 20000 in
theorem gL_law_X5_undo : GoodIn wsL_law (wsV RL 32 RX5 yX5_undo wsX5_undo) := goodIn_app (goodIn_of _ (by decide +kernel)) ggL_law_X5_undo
set_option maxRecDepth 20000 in
theorem ggL_law_X6_undo : GoodIn wsL_law wsX6_undo := goodIn_r _ [227, 179, 126, 127, 143, 144, 145, 5, 146, 147, 133, 135, 134, 148, 149, 150, 596, 597, 598, 599, 600, 601, 602, 603, 604, 605, 606, 607, 608, 609, 610, 611, 612] (by decide +kernel) (by decide +kernel)
set_option maxRecDepth 20000 in
theorem gL_law_X6_undo : GoodIn wsL_law (wsV RL 35 RX6 yX6_undo wsX6_undo) := goodIn_app (goodIn_of _ (by decide +kernel)) ggL_law_X6_undo
set_option maxRecDepth 20000 in
theorem ggL_law_X5_count : GoodIn wsL_law wsX5_count := goodIn_r _ [231, 15, 23, 34, 19, 232, 14, 233, 234, 38, 39, 235, 236, 237, 2, 238, 239, 240, 241, 242, 243, 244, 245, 246, 27, 247, 26, 248, 249, 61, 250, 251, 252, 253, 89, 90, 91, 92, 93, 94, 589, 590, 591, 592, 593, 594, 595, 613, 614, 615, 616, 617, 618, 619, 622, 623, 620, 621, 624] (by decide +kernel) (by decide +kernel)
set_option maxRecDepth 20000 in
theorem gL_law_X5_count : GoodIn wsL_law (wsV RL 36 RX5 yX5_count wsX5_count) := goodIn_app (goodIn_of _ (by decide +kernel)) ggL_law_X5_count
set_option maxRecDepth 20000 in
theorem ggL_law_X6_count : GoodIn wsL_law wsX6_count := goodIn_r _ [257, 126, 147, 192, 179, 258, 259, 260, 5, 261, 148, 149, 150, 262, 263, 264, 265, 133, 132, 266, 267, 268, 269, 596, 597, 598, 599, 600, 601, 602, 603, 604, 605, 606, 607, 608, 609, 610, 611, 612] (by decide +kernel) (by decide +kernel)
set_option maxRecDepth 20000 in
theorem gL_law_X6_count : GoodIn wsL_law (wsV RL 39 RX6 yX6_count wsX6_count) := goodIn_app (goodIn_of _ (by decide +kernel)) ggL_law_X6_count
set_option maxRecDepth 20000 in
theorem ggL_law_X5_wordOf : GoodIn wsL_law wsX5_wordOf := goodIn_r _ [273, 23, 274, 275, 2, 276, 589, 590, 591, 592, 593, 594, 595, 622, 623] (by decide +kernel) (by decide +kernel)
set_option maxRecDepth 20000 in
theorem gL_law_X5_wordOf : GoodIn wsL_law (wsV RL 40 RX5 yX5_wordOf wsX5_wordOf) := goodIn_app (goodIn_of _ (by decide +kernel)) ggL_law_X5_wordOf
set_option maxRecDepth 20000 in
theorem ggL_law_X6_wordOf : GoodIn wsL_law wsX6_wordOf := goodIn_r _ [280, 133, 172, 173, 5, 174, 596, 597, 598, 599, 600, 601, 602, 603, 604, 605, 606, 607, 608, 609, 610, 611, 612] (by decide +kernel) (by decide +kernel)
set_option maxRecDepth 20000 in
theorem gL_law_X6_wordOf : GoodIn wsL_law (wsV RL 43 RX6 yX6_wordOf wsX6_wordOf) := goodIn_app (goodIn_of _ (by decide +kernel)) ggL_law_X6_wordOf
set_option maxRecDepth 20000 in
theorem ggL_law_X5_product : GoodIn wsL_law wsX5_product := goodIn_r _ [284, 274, 275, 2, 276, 285, 62, 63] (by decide +kernel) (by decide +kernel)
set_option maxRecDepth 20000 in
theorem gL_law_X5_product : GoodIn wsL_law (wsV RL 44 RX5 yX5_product wsX5_product) := goodIn_app (goodIn_of _ (by decide +kernel)) ggL_law_X5_product
set_option maxRecDepth 20000 in
theorem ggL_law_X6_product : GoodIn wsL_law wsX6_product := goodIn_r _ [289, 129, 172, 173, 5, 174, 596, 597, 598, 599, 600, 601, 602, 603, 604, 605, 606, 607, 608, 609, 610, 611, 612] (by decide +kernel) (by decide +kernel)
set_option maxRecDepth 20000 in
theorem gL_law_X6_product : GoodIn wsL_law (wsV RL 47 RX6 yX6_product wsX6_product) := goodIn_app (goodIn_of _ (by decide +kernel)) ggL_law_X6_product
set_option maxRecDepth 20000 in
theorem ggL_law_X5_symbolFor : GoodIn wsL_law wsX5_symbolFor := goodIn_r _ [293, 27, 294, 295, 296, 2, 297, 15, 298, 14, 299, 300, 39, 301, 302, 303, 304, 247, 26, 248, 249, 61, 250, 251, 252, 589, 590, 591, 592, 593, 594, 595, 613, 614, 615, 616, 617, 618, 619, 624] (by decide +kernel) (by decide +kernel)
set_option maxRecDepth 20000 in
theorem gL_law_X5_symbolFor : GoodIn wsL_law (wsV RL 48 RX5 yX5_symbolFor wsX5_symbolFor) := goodIn_app (goodIn_of _ (by decide +kernel)) ggL_law_X5_symbolFor
set_option maxRecDepth 20000 in
theorem ggL_law_X6_symbolFor : GoodIn wsL_law wsX6_symbolFor := goodIn_r _ [308, 132, 309, 310, 311, 5, 312, 313, 314, 315, 316, 126, 172, 173, 174, 317, 318, 319, 320, 596, 597, 598, 599, 600, 601, 602, 603, 604, 605, 606, 607, 608, 609, 610, 611, 612] (by decide +kernel) (by decide +kernel)
set_option maxRecDepth 20000 in
theorem gL_law_X6_symbolFor : GoodIn wsL_law (wsV RL 51 RX6 yX6_symbolFor wsX6_symbolFor) := goodIn_app (goodIn_of _ (by decide +kernel)) ggL_law_X6_symbolFor
set_option maxRecDepth 20000 in
theorem ggL_law_X5_send : GoodIn wsL_law wsX5_send := goodIn_r _ [324, 19, 15, 294, 295, 296, 2, 297, 298, 14, 299, 300, 39, 155, 18, 156, 157, 51, 50, 158, 159, 160, 161, 162, 163, 164, 38, 40, 45, 41, 42, 44, 165, 166, 167, 243, 244, 245, 246, 23, 27, 247, 26, 248, 249, 61, 250, 251, 252, 253, 89, 90, 91, 92, 93, 94, 75, 76, 77, 78, 31, 79, 22, 80, 81, 56, 55, 82, 83, 84, 85, 86, 87, 88, 95, 30, 96, 97, 72, 74, 73, 67, 71, 70, 98, 99, 100, 101, 102, 103, 104, 68, 69, 105, 106, 107, 108, 109, 110, 111, 112, 113, 114, 115, 116, 117, 118, 119, 120, 121, 589, 590, 591, 592, 593, 594, 595, 613, 614, 615, 616, 617, 618, 619, 620, 621, 622, 623, 624, 625, 626, 627, 628, 629, 630, 631, 632] (by decide +kernel) (by decide +kernel)
set_option maxRecDepth 20000 in
theorem gL_law_X5_send : GoodIn wsL_law (wsV RL 52 RX5 yX5_send wsX5_send) := goodIn_app (goodIn_of _ (by decide +kernel)) ggL_law_X5_send
set_option maxRecDepth 20000 in
theorem ggL_law_X6_send : GoodIn wsL_law wsX6_send := goodIn_r _ [328, 126, 133, 132, 309, 310, 311, 5, 312, 313, 314, 315, 316, 172, 173, 174, 175, 176, 177, 178, 179, 127, 180, 181, 182, 183, 148, 149, 150, 596, 597, 598, 599, 600, 601, 602, 603, 604, 605, 606, 607, 608, 609, 610, 611, 612] (by decide +kernel) (by decide +kernel)
set_option maxRecDepth 20000 in
theorem gL_law_X6_send : GoodIn wsL_law (wsV RL 55 RX6 yX6_send wsX6_send) := goodIn_app (goodIn_of _ (by decide +kernel)) ggL_law_X6_send
set_option maxRecDepth 20000 in
theorem ggL_law_X5_flip : GoodIn wsL_law wsX5_flip := goodIn_r _ [332, 15, 19, 31, 301, 302, 303, 2, 304, 333, 14, 334, 335, 40, 155, 18, 156, 157, 51, 50, 158, 159, 160, 161, 162, 163, 164, 38, 39, 45, 41, 42, 44, 75, 76, 77, 78, 23, 79, 22, 80, 81, 56, 55, 82, 83, 84, 85, 86, 87, 88, 89, 90, 91, 92, 93, 94, 95, 30, 96, 97, 72, 74, 73, 67, 71, 70, 98, 26, 99, 100, 101, 102, 103, 104, 68, 69, 105, 106, 107, 108, 109, 110, 111, 112, 113, 114, 115, 116, 117, 118, 119, 120, 121, 589, 590, 591, 592, 593, 594, 595, 613, 614, 615, 616, 617, 618, 619, 625, 626, 627, 628, 629, 630, 631, 632, 620, 621, 622, 623] (by decide +kernel) (by decide +kernel)
set_option maxRecDepth 20000 in
theorem gL_law_X5_flip : GoodIn wsL_law (wsV RL 56 RX5 yX5_flip wsX5_flip) := goodIn_app (goodIn_of _ (by decide +kernel)) ggL_law_X5_flip
set_option maxRecDepth 20000 in
theorem ggL_law_X6_flip : GoodIn wsL_law wsX6_flip := goodIn_r _ [339, 126, 135, 317, 318, 319, 5, 320, 172, 173, 174, 266, 267, 268, 269, 175, 176, 177, 178, 179, 127, 596, 597, 598, 599, 600, 601, 602, 603, 604, 605, 606, 607, 608, 609, 610, 611, 612] (by decide +kernel) (by decide +kernel)
set_option maxRecDepth 20000 in
theorem gL_law_X6_flip : GoodIn wsL_law (wsV RL 59 RX6 yX6_flip wsX6_flip) := goodIn_app (goodIn_of _ (by decide +kernel)) ggL_law_X6_flip
set_option maxRecDepth 20000 in
theorem ggL_law_X5_lose : GoodIn wsL_law wsX5_lose := goodIn_r _ [343, 15, 19, 301, 302, 303, 2, 304, 155, 18, 156, 157, 51, 50, 158, 159, 160, 161, 162, 14, 163, 164, 38, 39, 40, 45, 41, 42, 44, 75, 76, 77, 78, 23, 31, 79, 22, 80, 81, 56, 55, 82, 83, 84, 85, 86, 87, 88, 89, 90, 91, 92, 93, 94, 95, 30, 96, 97, 72, 74, 73, 67, 71, 70, 98, 26, 99, 100, 101, 102, 103, 104, 68, 69, 105, 106, 107, 108, 109, 110, 111, 112, 113, 114, 115, 116, 117, 118, 119, 120, 121, 589, 590, 591, 592, 593, 594, 595, 613, 614, 615, 616, 617, 618, 619, 620, 621, 622, 623, 625, 626, 627, 628, 629, 630, 631, 632] (by decide +kernel) (by decide +kernel)
set_option maxRecDepth 20000 in
theorem gL_law_X5_lose : GoodIn wsL_law (wsV RL 60 RX5 yX5_lose wsX5_lose) := goodIn_app (goodIn_of _ (by decide +kernel)) ggL_law_X5_lose
set_option maxRecDepth 20000 in
theorem ggL_law_X6_lose : GoodIn wsL_law wsX6_lose := goodIn_r _ [347, 126, 317, 318, 319, 5, 320, 172, 173, 174, 175, 176, 177, 178, 179, 127, 596, 597, 598, 599, 600, 601, 602, 603, 604, 605, 606, 607, 608, 609, 610, 611, 612] (by decide +kernel) (by decide +kernel)
set_option maxRecDepth 20000 in
theorem gL_law_X6_lose : GoodIn wsL_law (wsV RL 63 RX6 yX6_lose wsX6_lose) := goodIn_app (goodIn_of _ (by decide +kernel)) ggL_law_X6_lose
set_option maxRecDepth 20000 in
theorem ggL_law_X5_burst : GoodIn wsL_law wsX5_burst := goodIn_r _ [351, 15, 19, 155, 18, 156, 157, 51, 50, 158, 159, 160, 161, 162, 14, 163, 164, 38, 39, 40, 45, 41, 42, 44, 352, 353, 354, 2, 355, 356, 116, 84, 117, 357, 83, 85, 75, 76, 77, 78, 23, 31, 79, 22, 80, 81, 56, 55, 82, 86, 87, 88, 89, 90, 91, 92, 93, 94, 95, 30, 96, 97, 72, 74, 73, 67, 71, 70, 98, 26, 99, 100, 101, 102, 103, 104, 68, 69, 105, 106, 107, 108, 109, 110, 111, 112, 113, 114, 115, 118, 119, 120, 121, 589, 590, 591, 592, 593, 594, 595, 613, 614, 615, 616, 617, 618, 619, 620, 621, 622, 623, 625, 626, 627, 628, 629, 630, 631, 632] (by decide +kernel) (by decide +kernel)
set_option maxRecDepth 20000 in
theorem gL_law_X5_burst : GoodIn wsL_law (wsV RL 64 RX5 yX5_burst wsX5_burst) := goodIn_app (goodIn_of _ (by decide +kernel)) ggL_law_X5_burst
set_option maxRecDepth 20000 in
theorem ggL_law_X6_burst : GoodIn wsL_law wsX6_burst := goodIn_r _ [361, 126, 172, 173, 5, 174, 175, 176, 177, 178, 179, 127, 596, 597, 598, 599, 600, 601, 602, 603, 604, 605, 606, 607, 608, 609, 610, 611, 612] (by decide +kernel) (by decide +kernel)
set_option maxRecDepth 20000 in
theorem gL_law_X6_burst : GoodIn wsL_law (wsV RL 67 RX6 yX6_burst wsX6_burst) := goodIn_app (goodIn_of _ (by decide +kernel)) ggL_law_X6_burst
set_option maxRecDepth 20000 in
theorem ggL_law_X5_sendCascade : GoodIn wsL_law wsX5_sendCascade := goodIn_r _ [365, 19, 15, 366, 367, 368, 2, 369, 27, 31, 370, 371, 372, 373, 23, 232, 14, 233, 234, 38, 39, 298, 299, 300, 247, 26, 248, 249, 61, 374, 30, 375, 376, 73, 74, 377, 378, 100, 379, 380, 381, 382, 383, 384, 385, 386, 387, 388, 72, 69, 389, 155, 18, 156, 157, 51, 50, 158, 159, 160, 161, 162, 163, 164, 40, 45, 41, 42, 44, 243, 244, 245, 246, 250, 251, 252, 390, 391, 392, 393, 333, 334, 335, 253, 89, 90, 91, 92, 93, 94, 75, 76, 77, 78, 79, 22, 80, 81, 56, 55, 82, 83, 84, 85, 86, 87, 88, 95, 96, 97, 67, 71, 70, 98, 99, 101, 102, 103, 104, 68, 105, 106, 107, 108, 109, 110, 111, 112, 113, 114, 115, 116, 117, 118, 119, 120, 121, 589, 590, 591, 592, 593, 594, 595, 613, 614, 615, 616, 617, 618, 619, 622, 623, 624, 625, 626, 627, 628, 629, 630, 631, 632, 620, 621] (by decide +kernel) (by decide +kernel)
set_option maxRecDepth 20000 in
theorem gL_law_X5_sendCascade : GoodIn wsL_law (wsV RL 68 RX5 yX5_sendCascade wsX5_sendCascade) := goodIn_app (goodIn_of _ (by decide +kernel)) ggL_law_X5_sendCascade
set_option maxRecDepth 20000 in
theorem ggL_law_X6_sendCascade : GoodIn wsL_law wsX6_sendCascade := goodIn_r _ [397, 126, 133, 132, 398, 399, 400, 5, 401, 402, 403, 404, 405, 406, 407, 408, 409, 410, 411, 136, 134, 137, 135, 138, 147, 139, 266, 267, 268, 269, 313, 314, 315, 316, 412, 413, 414, 415, 416, 417, 418, 419, 258, 259, 260, 261, 420, 421, 422, 423, 424, 425, 426, 427, 175, 176, 177, 178, 179, 127, 148, 149, 150, 596, 597, 598, 599, 600, 601, 602, 603, 604, 605, 606, 607, 608, 609, 610, 611, 612] (by decide +kernel) (by decide +kernel)
set_option maxRecDepth 20000 in
theorem gL_law_X6_sendCascade : GoodIn wsL_law (wsV RL 71 RX6 yX6_sendCascade wsX6_sendCascade) := goodIn_app (goodIn_of _ (by decide +kernel)) ggL_law_X6_sendCascade
set_option maxRecDepth 20000 in
theorem ggL_law_X5_received : GoodIn wsL_law wsX5_received := goodIn_r _ [431, 15, 301, 302, 303, 2, 304, 589, 590, 591, 592, 593, 594, 595, 613, 614, 615, 616, 617, 618, 619] (by decide +kernel) (by decide +kernel)
set_option maxRecDepth 20000 in
theorem gL_law_X5_received : GoodIn wsL_law (wsV RL 72 RX5 yX5_received wsX5_received) := goodIn_app (goodIn_of _ (by decide +kernel)) ggL_law_X5_received
