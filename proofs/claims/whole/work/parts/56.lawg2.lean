set_option maxRecDepth 20000 in
theorem ggL_law_X6_received : GoodIn wsL_law wsX6_received := goodIn_r _ [435, 126, 317, 318, 319, 5, 320, 172, 173, 174, 266, 267, 268, 269, 596, 597, 598, 599, 600, 601, 602, 603, 604, 605, 606, 607, 608, 609, 610, 611, 612] (by decide +kernel) (by decide +kernel)
set_option maxRecDepth 20000 in
theorem gL_law_X6_received : GoodIn wsL_law (wsV RL 75 RX6 yX6_received wsX6_received) := goodIn_app (goodIn_of _ (by decide +kernel)) ggL_law_X6_received
set_option maxRecDepth 20000 in
theorem ggL_law_X5_sent : GoodIn wsL_law wsX5_sent := goodIn_r _ [439, 15, 589, 590, 591, 592, 593, 594, 595, 613, 614, 615, 616, 617, 618, 619] (by decide +kernel) (by decide +kernel)
set_option maxRecDepth 20000 in
theorem gL_law_X5_sent : GoodIn wsL_law (wsV RL 76 RX5 yX5_sent wsX5_sent) := goodIn_app (goodIn_of _ (by decide +kernel)) ggL_law_X5_sent
set_option maxRecDepth 20000 in
theorem ggL_law_X6_sent : GoodIn wsL_law wsX6_sent := goodIn_r _ [443, 126, 596, 597, 598, 599, 600, 601, 602, 603, 604, 605, 606, 607, 608, 609, 610, 611, 612] (by decide +kernel) (by decide +kernel)
set_option maxRecDepth 20000 in
theorem gL_law_X6_sent : GoodIn wsL_law (wsV RL 79 RX6 yX6_sent wsX6_sent) := goodIn_app (goodIn_of _ (by decide +kernel)) ggL_law_X6_sent
set_option maxRecDepth 20000 in
theorem ggL_law_X5_block : GoodIn wsL_law wsX5_block := goodIn_r _ [447, 31, 301, 302, 303, 2, 304, 15, 448, 449, 450, 451, 27, 247, 26, 248, 249, 61, 250, 251, 252, 589, 590, 591, 592, 593, 594, 595, 625, 626, 627, 628, 629, 630, 631, 632, 613, 614, 615, 616, 617, 618, 619, 624] (by decide +kernel) (by decide +kernel)
set_option maxRecDepth 20000 in
theorem gL_law_X5_block : GoodIn wsL_law (wsV RL 80 RX5 yX5_block wsX5_block) := goodIn_app (goodIn_of _ (by decide +kernel)) ggL_law_X5_block
set_option maxRecDepth 20000 in
theorem ggL_law_X6_block : GoodIn wsL_law wsX6_block := goodIn_r _ [455, 136, 137, 138, 132, 126, 317, 318, 319, 5, 320, 172, 173, 174, 408, 409, 410, 411, 134, 135, 147, 139, 266, 267, 268, 269, 456, 457, 458, 459, 596, 597, 598, 599, 600, 601, 602, 603, 604, 605, 606, 607, 608, 609, 610, 611, 612] (by decide +kernel) (by decide +kernel)
set_option maxRecDepth 20000 in
theorem gL_law_X6_block : GoodIn wsL_law (wsV RL 83 RX6 yX6_block wsX6_block) := goodIn_app (goodIn_of _ (by decide +kernel)) ggL_law_X6_block
set_option maxRecDepth 20000 in
theorem ggL_law_X5_blockAt : GoodIn wsL_law wsX5_blockAt := goodIn_r _ [463, 31, 301, 302, 303, 2, 304, 15, 589, 590, 591, 592, 593, 594, 595, 625, 626, 627, 628, 629, 630, 631, 632, 613, 614, 615, 616, 617, 618, 619] (by decide +kernel) (by decide +kernel)
set_option maxRecDepth 20000 in
theorem gL_law_X5_blockAt : GoodIn wsL_law (wsV RL 84 RX5 yX5_blockAt wsX5_blockAt) := goodIn_app (goodIn_of _ (by decide +kernel)) ggL_law_X5_blockAt
set_option maxRecDepth 20000 in
theorem ggL_law_X6_blockAt : GoodIn wsL_law wsX6_blockAt := goodIn_r _ [467, 139, 317, 318, 319, 5, 320, 126, 172, 173, 174, 408, 409, 410, 411, 136, 134, 137, 135, 138, 147, 266, 267, 268, 269, 596, 597, 598, 599, 600, 601, 602, 603, 604, 605, 606, 607, 608, 609, 610, 611, 612] (by decide +kernel) (by decide +kernel)
set_option maxRecDepth 20000 in
theorem gL_law_X6_blockAt : GoodIn wsL_law (wsV RL 87 RX6 yX6_blockAt wsX6_blockAt) := goodIn_app (goodIn_of _ (by decide +kernel)) ggL_law_X6_blockAt
set_option maxRecDepth 20000 in
theorem ggL_law_X5_strength : GoodIn wsL_law wsX5_strength := goodIn_r _ [471, 15, 23, 301, 302, 303, 2, 304, 472, 22, 473, 474, 82, 83, 84, 85, 475, 105, 106, 107, 108, 109, 110, 111, 55, 88, 89, 90, 91, 92, 93, 94, 589, 590, 591, 592, 593, 594, 595, 613, 614, 615, 616, 617, 618, 619, 622, 623] (by decide +kernel) (by decide +kernel)
set_option maxRecDepth 20000 in
theorem gL_law_X5_strength : GoodIn wsL_law (wsV RL 88 RX5 yX5_strength wsX5_strength) := goodIn_app (goodIn_of _ (by decide +kernel)) ggL_law_X5_strength
set_option maxRecDepth 20000 in
theorem ggL_law_X6_strength : GoodIn wsL_law wsX6_strength := goodIn_r _ [479, 126, 134, 317, 318, 319, 5, 320, 172, 173, 174, 266, 267, 268, 269, 148, 149, 150, 596, 597, 598, 599, 600, 601, 602, 603, 604, 605, 606, 607, 608, 609, 610, 611, 612] (by decide +kernel) (by decide +kernel)
set_option maxRecDepth 20000 in
theorem gL_law_X6_strength : GoodIn wsL_law (wsV RL 91 RX6 yX6_strength wsX6_strength) := goodIn_app (goodIn_of _ (by decide +kernel)) ggL_law_X6_strength
set_option maxRecDepth 20000 in
theorem ggL_law_X5_trial : GoodIn wsL_law wsX5_trial := goodIn_r _ [483, 15, 31, 27, 232, 14, 233, 234, 38, 39, 484, 30, 485, 486, 74, 72, 70, 487, 298, 299, 300, 247, 26, 248, 249, 61, 488, 489, 490, 2, 491, 374, 375, 376, 73, 377, 378, 100, 379, 380, 381, 382, 383, 384, 385, 589, 590, 591, 592, 593, 594, 595, 613, 614, 615, 616, 617, 618, 619, 625, 626, 627, 628, 629, 630, 631, 632, 624] (by decide +kernel) (by decide +kernel)
set_option maxRecDepth 20000 in
theorem gL_law_X5_trial : GoodIn wsL_law (wsV RL 92 RX5 yX5_trial wsX5_trial) := goodIn_app (goodIn_of _ (by decide +kernel)) ggL_law_X5_trial
set_option maxRecDepth 20000 in
theorem ggL_law_X6_trial : GoodIn wsL_law wsX6_trial := goodIn_r _ [495, 258, 259, 260, 5, 261, 126, 172, 173, 174, 408, 409, 410, 411, 136, 134, 137, 135, 138, 147, 139, 266, 267, 268, 269, 313, 314, 315, 316, 424, 425, 426, 427, 132, 596, 597, 598, 599, 600, 601, 602, 603, 604, 605, 606, 607, 608, 609, 610, 611, 612] (by decide +kernel) (by decide +kernel)
set_option maxRecDepth 20000 in
theorem gL_law_X6_trial : GoodIn wsL_law (wsV RL 95 RX6 yX6_trial wsX6_trial) := goodIn_app (goodIn_of _ (by decide +kernel)) ggL_law_X6_trial
set_option maxRecDepth 20000 in
theorem ggL_law_X5_score : GoodIn wsL_law wsX5_score := goodIn_r _ [499, 31, 27, 294, 295, 296, 2, 297, 15, 298, 14, 299, 300, 39, 247, 26, 248, 249, 61, 386, 30, 387, 388, 72, 69, 389, 374, 375, 376, 73, 74, 377, 378, 100, 589, 590, 591, 592, 593, 594, 595, 613, 614, 615, 616, 617, 618, 619, 624, 625, 626, 627, 628, 629, 630, 631, 632] (by decide +kernel) (by decide +kernel)
set_option maxRecDepth 20000 in
theorem gL_law_X5_score : GoodIn wsL_law (wsV RL 96 RX5 yX5_score wsX5_score) := goodIn_app (goodIn_of _ (by decide +kernel)) ggL_law_X5_score
set_option maxRecDepth 20000 in
theorem ggL_law_X6_score : GoodIn wsL_law wsX6_score := goodIn_r _ [503, 309, 310, 311, 5, 312, 313, 314, 315, 316, 126, 172, 173, 174, 408, 409, 410, 411, 136, 134, 137, 135, 138, 147, 139, 266, 267, 268, 269, 412, 413, 414, 415, 132, 596, 597, 598, 599, 600, 601, 602, 603, 604, 605, 606, 607, 608, 609, 610, 611, 612] (by decide +kernel) (by decide +kernel)
set_option maxRecDepth 20000 in
theorem gL_law_X6_score : GoodIn wsL_law (wsV RL 99 RX6 yX6_score wsX6_score) := goodIn_app (goodIn_of _ (by decide +kernel)) ggL_law_X6_score
set_option maxRecDepth 20000 in
theorem ggL_law_X5_lawful : GoodIn wsL_law wsX5_lawful := goodIn_r _ [507, 366, 367, 368, 2, 369, 15, 27, 31, 370, 371, 372, 373, 23, 232, 14, 233, 234, 38, 39, 298, 299, 300, 247, 26, 248, 249, 61, 374, 30, 375, 376, 73, 74, 377, 378, 100, 379, 380, 381, 382, 383, 384, 385, 386, 387, 388, 72, 69, 389, 589, 590, 591, 592, 593, 594, 595, 622, 623, 613, 614, 615, 616, 617, 618, 619, 624, 625, 626, 627, 628, 629, 630, 631, 632] (by decide +kernel) (by decide +kernel)
set_option maxRecDepth 20000 in
theorem gL_law_X5_lawful : GoodIn wsL_law (wsV RL 100 RX5 yX5_lawful wsX5_lawful) := goodIn_app (goodIn_of _ (by decide +kernel)) ggL_law_X5_lawful
set_option maxRecDepth 20000 in
theorem ggL_law_X6_lawful : GoodIn wsL_law wsX6_lawful := goodIn_r _ [511, 408, 409, 410, 5, 411, 126, 136, 134, 137, 135, 138, 147, 139, 266, 267, 268, 269, 313, 314, 315, 316, 412, 413, 414, 415, 132, 416, 417, 418, 419, 258, 259, 260, 261, 596, 597, 598, 599, 600, 601, 602, 603, 604, 605, 606, 607, 608, 609, 610, 611, 612] (by decide +kernel) (by decide +kernel)
set_option maxRecDepth 20000 in
theorem gL_law_X6_lawful : GoodIn wsL_law (wsV RL 103 RX6 yX6_lawful wsX6_lawful) := goodIn_app (goodIn_of _ (by decide +kernel)) ggL_law_X6_lawful
set_option maxRecDepth 20000 in
theorem ggL_law_X5_decode : GoodIn wsL_law wsX5_decode := goodIn_r _ [515, 366, 367, 368, 2, 369, 15, 27, 31, 370, 371, 372, 373, 23, 232, 14, 233, 234, 38, 39, 298, 299, 300, 247, 26, 248, 249, 61, 374, 30, 375, 376, 73, 74, 377, 378, 100, 379, 380, 381, 382, 383, 384, 385, 386, 387, 388, 72, 69, 389, 589, 590, 591, 592, 593, 594, 595, 622, 623, 613, 614, 615, 616, 617, 618, 619, 624, 625, 626, 627, 628, 629, 630, 631, 632] (by decide +kernel) (by decide +kernel)
set_option maxRecDepth 20000 in
theorem gL_law_X5_decode : GoodIn wsL_law (wsV RL 104 RX5 yX5_decode wsX5_decode) := goodIn_app (goodIn_of _ (by decide +kernel)) ggL_law_X5_decode
set_option maxRecDepth 20000 in
theorem ggL_law_X6_decode : GoodIn wsL_law wsX6_decode := goodIn_r _ [401, 402, 403, 404, 405, 5, 406, 407, 408, 409, 410, 411, 126, 136, 134, 137, 135, 138, 147, 139, 266, 267, 268, 269, 313, 314, 315, 316, 412, 413, 414, 415, 132, 416, 417, 418, 419, 258, 259, 260, 261, 420, 421, 422, 423, 424, 425, 426, 427, 596, 597, 598, 599, 600, 601, 602, 603, 604, 605, 606, 607, 608, 609, 610, 611, 612] (by decide +kernel) (by decide +kernel)
set_option maxRecDepth 20000 in
theorem gL_law_X6_decode : GoodIn wsL_law (wsV RL 107 RX6 yX6_decode wsX6_decode) := goodIn_app (goodIn_of _ (by decide +kernel)) ggL_law_X6_decode
set_option maxRecDepth 20000 in
theorem ggL_law_X5_decidingTrial : GoodIn wsL_law wsX5_decidingTrial := goodIn_r _ [520, 15, 27, 31, 366, 367, 368, 2, 369, 370, 371, 372, 373, 23, 232, 14, 233, 234, 38, 39, 298, 299, 300, 247, 26, 248, 249, 61, 374, 30, 375, 376, 73, 74, 377, 378, 100, 379, 380, 381, 382, 383, 384, 385, 386, 387, 388, 72, 69, 389, 484, 485, 486, 70, 487, 488, 489, 490, 491, 589, 590, 591, 592, 593, 594, 595, 622, 623, 613, 614, 615, 616, 617, 618, 619, 624, 625, 626, 627, 628, 629, 630, 631, 632] (by decide +kernel) (by decide +kernel)
set_option maxRecDepth 20000 in
theorem gL_law_X5_decidingTrial : GoodIn wsL_law (wsV RL 108 RX5 yX5_decidingTrial wsX5_decidingTrial) := goodIn_app (goodIn_of _ (by decide +kernel)) ggL_law_X5_decidingTrial
set_option maxRecDepth 20000 in
theorem ggL_law_X6_decidingTrial : GoodIn wsL_law wsX6_decidingTrial := goodIn_r _ [524, 407, 403, 404, 405, 5, 406, 402, 408, 409, 410, 411, 126, 136, 134, 137, 135, 138, 147, 139, 266, 267, 268, 269, 313, 314, 315, 316, 412, 413, 414, 415, 132, 416, 417, 418, 419, 258, 259, 260, 261, 420, 421, 422, 423, 424, 425, 426, 427, 596, 597, 598, 599, 600, 601, 602, 603, 604, 605, 606, 607, 608, 609, 610, 611, 612] (by decide +kernel) (by decide +kernel)
set_option maxRecDepth 20000 in
theorem gL_law_X6_decidingTrial : GoodIn wsL_law (wsV RL 111 RX6 yX6_decidingTrial wsX6_decidingTrial) := goodIn_app (goodIn_of _ (by decide +kernel)) ggL_law_X6_decidingTrial
set_option maxRecDepth 20000 in
theorem ggL_law_X5_margin : GoodIn wsL_law wsX5_margin := goodIn_r _ [528, 31, 27, 366, 367, 368, 2, 369, 15, 370, 371, 372, 373, 23, 232, 14, 233, 234, 38, 39, 298, 299, 300, 247, 26, 248, 249, 61, 374, 30, 375, 376, 73, 74, 377, 378, 100, 379, 380, 381, 382, 383, 384, 385, 386, 387, 388, 72, 69, 389, 589, 590, 591, 592, 593, 594, 595, 622, 623, 613, 614, 615, 616, 617, 618, 619, 624, 625, 626, 627, 628, 629, 630, 631, 632] (by decide +kernel) (by decide +kernel)
set_option maxRecDepth 20000 in
theorem gL_law_X5_margin : GoodIn wsL_law (wsV RL 112 RX5 yX5_margin wsX5_margin) := goodIn_app (goodIn_of _ (by decide +kernel)) ggL_law_X5_margin
set_option maxRecDepth 20000 in
theorem ggL_law_X6_margin : GoodIn wsL_law wsX6_margin := goodIn_r _ [532, 402, 403, 404, 405, 5, 406, 407, 408, 409, 410, 411, 126, 136, 134, 137, 135, 138, 147, 139, 266, 267, 268, 269, 313, 314, 315, 316, 412, 413, 414, 415, 132, 416, 417, 418, 419, 258, 259, 260, 261, 420, 421, 422, 423, 424, 425, 426, 427, 596, 597, 598, 599, 600, 601, 602, 603, 604, 605, 606, 607, 608, 609, 610, 611, 612] (by decide +kernel) (by decide +kernel)
set_option maxRecDepth 20000 in
theorem gL_law_X6_margin : GoodIn wsL_law (wsV RL 115 RX6 yX6_margin wsX6_margin) := goodIn_app (goodIn_of _ (by decide +kernel)) ggL_law_X6_margin
set_option maxRecDepth 20000 in
theorem ggL_law_X5_wastedTrials : GoodIn wsL_law wsX5_wastedTrials := goodIn_r _ [536, 15, 27, 31, 232, 14, 233, 234, 38, 39, 366, 367, 368, 2, 369, 370, 371, 372, 373, 23, 298, 299, 300, 247, 26, 248, 249, 61, 374, 30, 375, 376, 73, 74, 377, 378, 100, 379, 380, 381, 382, 383, 384, 385, 386, 387, 388, 72, 69, 389, 484, 485, 486, 70, 487, 488, 489, 490, 491, 589, 590, 591, 592, 593, 594, 595, 613, 614, 615, 616, 617, 618, 619, 622, 623, 624, 625, 626, 627, 628, 629, 630, 631, 632] (by decide +kernel) (by decide +kernel)
set_option maxRecDepth 20000 in
theorem gL_law_X5_wastedTrials : GoodIn wsL_law (wsV RL 116 RX5 yX5_wastedTrials wsX5_wastedTrials) := goodIn_app (goodIn_of _ (by decide +kernel)) ggL_law_X5_wastedTrials
set_option maxRecDepth 20000 in
theorem ggL_law_X6_wastedTrials : GoodIn wsL_law wsX6_wastedTrials := goodIn_r _ [540, 408, 409, 410, 5, 411, 126, 136, 134, 137, 135, 138, 147, 139, 266, 267, 268, 269, 258, 259, 260, 261, 313, 314, 315, 316, 412, 413, 414, 415, 132, 416, 417, 418, 419, 424, 425, 426, 427, 596, 597, 598, 599, 600, 601, 602, 603, 604, 605, 606, 607, 608, 609, 610, 611, 612] (by decide +kernel) (by decide +kernel)
set_option maxRecDepth 20000 in
theorem gL_law_X6_wastedTrials : GoodIn wsL_law (wsV RL 119 RX6 yX6_wastedTrials wsX6_wastedTrials) := goodIn_app (goodIn_of _ (by decide +kernel)) ggL_law_X6_wastedTrials
set_option maxRecDepth 20000 in
theorem ggL_law_X5_isGuaranteed : GoodIn wsL_law wsX5_isGuaranteed := goodIn_r _ [544, 23, 15, 239, 240, 241, 2, 242, 243, 244, 245, 246, 27, 247, 26, 248, 249, 61, 250, 251, 252, 253, 89, 90, 91, 92, 93, 94, 235, 236, 237, 238, 232, 14, 233, 234, 38, 39, 589, 590, 591, 592, 593, 594, 595, 622, 623, 613, 614, 615, 616, 617, 618, 619, 624] (by decide +kernel) (by decide +kernel)
set_option maxRecDepth 20000 in
theorem gL_law_X5_isGuaranteed : GoodIn wsL_law (wsV RL 120 RX5 yX5_isGuaranteed wsX5_isGuaranteed) := goodIn_app (goodIn_of _ (by decide +kernel)) ggL_law_X5_isGuaranteed
set_option maxRecDepth 20000 in
theorem ggL_law_X6_isGuaranteed : GoodIn wsL_law wsX6_isGuaranteed := goodIn_r _ [548, 147, 126, 262, 263, 264, 5, 265, 133, 132, 266, 267, 268, 269, 148, 149, 150, 258, 259, 260, 261, 596, 597, 598, 599, 600, 601, 602, 603, 604, 605, 606, 607, 608, 609, 610, 611, 612] (by decide +kernel) (by decide +kernel)
set_option maxRecDepth 20000 in
theorem gL_law_X6_isGuaranteed : GoodIn wsL_law (wsV RL 123 RX6 yX6_isGuaranteed wsX6_isGuaranteed) := goodIn_app (goodIn_of _ (by decide +kernel)) ggL_law_X6_isGuaranteed
set_option maxRecDepth 20000 in
theorem ggL_law_X5_fragileBits : GoodIn wsL_law wsX5_fragileBits := goodIn_r _ [552, 15, 553, 554, 555, 2, 556, 31, 27, 23, 448, 449, 450, 451, 247, 26, 248, 249, 61, 250, 251, 252, 386, 30, 387, 388, 72, 69, 389, 374, 375, 376, 73, 74, 377, 378, 100, 557, 558, 559, 560, 105, 22, 106, 107, 108, 109, 110, 111, 55, 88, 89, 90, 91, 92, 93, 94, 112, 113, 114, 56, 115, 116, 84, 117, 370, 371, 372, 373, 232, 14, 233, 234, 38, 39, 589, 590, 591, 592, 593, 594, 595, 613, 614, 615, 616, 617, 618, 619, 624, 625, 626, 627, 628, 629, 630, 631, 632, 622, 623] (by decide +kernel) (by decide +kernel)
set_option maxRecDepth 20000 in
theorem gL_law_X5_fragileBits : GoodIn wsL_law (wsV RL 124 RX5 yX5_fragileBits wsX5_fragileBits) := goodIn_app (goodIn_of _ (by decide +kernel)) ggL_law_X5_fragileBits
set_option maxRecDepth 20000 in
theorem ggL_law_X6_fragileBits : GoodIn wsL_law wsX6_fragileBits := goodIn_r _ [564, 126, 266, 267, 268, 5, 269, 565, 566, 567, 568, 402, 403, 404, 405, 406, 407, 408, 409, 410, 411, 136, 134, 137, 135, 138, 147, 139, 313, 314, 315, 316, 412, 413, 414, 415, 132, 416, 417, 418, 419, 258, 259, 260, 261, 420, 421, 422, 423, 424, 425, 426, 427, 596, 597, 598, 599, 600, 601, 602, 603, 604, 605, 606, 607, 608, 609, 610, 611, 612] (by decide +kernel) (by decide +kernel)
set_option maxRecDepth 20000 in
theorem gL_law_X6_fragileBits : GoodIn wsL_law (wsV RL 127 RX6 yX6_fragileBits wsX6_fragileBits) := goodIn_app (goodIn_of _ (by decide +kernel)) ggL_law_X6_fragileBits
set_option maxRecDepth 20000 in
theorem ggL_law_X5_fragileBlocks : GoodIn wsL_law wsX5_fragileBlocks := goodIn_r _ [572, 31, 27, 15, 247, 26, 248, 249, 61, 386, 30, 387, 388, 72, 69, 389, 374, 375, 376, 73, 74, 377, 378, 100, 557, 558, 559, 2, 560, 448, 449, 450, 451, 250, 251, 252, 370, 371, 372, 373, 23, 232, 14, 233, 234, 38, 39, 589, 590, 591, 592, 593, 594, 595, 613, 614, 615, 616, 617, 618, 619, 624, 625, 626, 627, 628, 629, 630, 631, 632, 622, 623] (by decide +kernel) (by decide +kernel)
set_option maxRecDepth 20000 in
theorem gL_law_X5_fragileBlocks : GoodIn wsL_law (wsV RL 128 RX5 yX5_fragileBlocks wsX5_fragileBlocks) := goodIn_app (goodIn_of _ (by decide +kernel)) ggL_law_X5_fragileBlocks
set_option maxRecDepth 20000 in
theorem ggL_law_X6_fragileBlocks : GoodIn wsL_law wsX6_fragileBlocks := goodIn_r _ [576, 126, 565, 566, 567, 5, 568, 402, 403, 404, 405, 406, 407, 408, 409, 410, 411, 136, 134, 137, 135, 138, 147, 139, 266, 267, 268, 269, 313, 314, 315, 316, 412, 413, 414, 415, 132, 416, 417, 418, 419, 258, 259, 260, 261, 420, 421, 422, 423, 424, 425, 426, 427, 596, 597, 598, 599, 600, 601, 602, 603, 604, 605, 606, 607, 608, 609, 610, 611, 612] (by decide +kernel) (by decide +kernel)
set_option maxRecDepth 20000 in
theorem gL_law_X6_fragileBlocks : GoodIn wsL_law (wsV RL 131 RX6 yX6_fragileBlocks wsX6_fragileBlocks) := goodIn_app (goodIn_of _ (by decide +kernel)) ggL_law_X6_fragileBlocks
set_option maxRecDepth 20000 in
theorem ggL_law_X5_nearest : GoodIn wsL_law wsX5_nearest := goodIn_r _ [580, 15, 366, 367, 368, 2, 369, 27, 31, 370, 371, 372, 373, 23, 232, 14, 233, 234, 38, 39, 298, 299, 300, 247, 26, 248, 249, 61, 374, 30, 375, 376, 73, 74, 377, 378, 100, 379, 380, 381, 382, 383, 384, 385, 386, 387, 388, 72, 69, 389, 581, 582, 583, 584, 98, 99, 589, 590, 591, 592, 593, 594, 595, 622, 623, 613, 614, 615, 616, 617, 618, 619, 624, 625, 626, 627, 628, 629, 630, 631, 632] (by decide +kernel) (by decide +kernel)
set_option maxRecDepth 20000 in
theorem gL_law_X5_nearest : GoodIn wsL_law (wsV RL 132 RX5 yX5_nearest wsX5_nearest) := goodIn_app (goodIn_of _ (by decide +kernel)) ggL_law_X5_nearest
set_option maxRecDepth 20000 in
theorem ggL_law_X6_nearest : GoodIn wsL_law wsX6_nearest := goodIn_r _ [588, 402, 126, 132, 172, 173, 5, 174, 403, 404, 405, 406, 407, 408, 409, 410, 411, 136, 134, 137, 135, 138, 147, 139, 266, 267, 268, 269, 313, 314, 315, 316, 412, 413, 414, 415, 416, 417, 418, 419, 258, 259, 260, 261, 420, 421, 422, 423, 424, 425, 426, 427, 596, 597, 598, 599, 600, 601, 602, 603, 604, 605, 606, 607, 608, 609, 610, 611, 612] (by decide +kernel) (by decide +kernel)
set_option maxRecDepth 20000 in
theorem gL_law_X6_nearest : GoodIn wsL_law (wsV RL 135 RX6 yX6_nearest wsX6_nearest) := goodIn_app (goodIn_of _ (by decide +kernel)) ggL_law_X6_nearest
