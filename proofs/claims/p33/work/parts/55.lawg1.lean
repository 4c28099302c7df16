set_option maxRecDepth 20000 in
theorem ggL_holds_X5_decode : GoodIn wsL_holds wsX5_decode := goodIn_r _ [5, 6, 7, 8, 4, 9, 10, 11, 12, 13, 14, 15, 16, 17, 18, 19, 20, 21, 22, 23, 24, 25, 26, 27, 28, 29, 30, 31, 32, 33, 34, 35, 36, 37, 38, 39, 40, 41, 42, 43, 44, 45, 46, 47, 48, 49, 50, 51, 52, 53, 137, 138, 139, 140, 141, 142, 143, 144, 145, 146, 147, 148, 149, 150, 151, 152, 153, 154, 155, 156, 157, 158, 159, 160, 161] (by decide +kernel) (by decide +kernel)
set_option maxRecDepth 20000 in
theorem gL_holds_X5_decode : GoodIn wsL_holds (wsV RL 9 RX5 yX5_decode wsX5_decode) := goodIn_app (goodIn_of _ (by decide +kernel)) ggL_holds_X5_decode
set_option maxRecDepth 20000 in
theorem ggL_holds_X5_lawful : GoodIn wsL_holds wsX5_lawful := goodIn_r _ [57, 6, 7, 8, 4, 9, 10, 11, 12, 13, 14, 15, 16, 17, 18, 19, 20, 21, 22, 23, 24, 25, 26, 27, 28, 29, 30, 31, 32, 33, 34, 35, 36, 37, 38, 39, 40, 41, 42, 43, 44, 45, 46, 47, 48, 49, 50, 51, 52, 53, 137, 138, 139, 140, 141, 142, 143, 144, 145, 146, 147, 148, 149, 150, 151, 152, 153, 154, 155, 156, 157, 158, 159, 160, 161] (by decide +kernel) (by decide +kernel)
set_option maxRecDepth 20000 in
theorem gL_holds_X5_lawful : GoodIn wsL_holds (wsV RL 15 RX5 yX5_lawful wsX5_lawful) := goodIn_app (goodIn_of _ (by decide +kernel)) ggL_holds_X5_lawful
set_option maxRecDepth 20000 in
theorem ggL_holds_X5_decidingTrial : GoodIn wsL_holds wsX5_decidingTrial := goodIn_r _ [61, 10, 11, 12, 6, 7, 8, 4, 9, 13, 14, 15, 16, 17, 18, 19, 20, 21, 22, 23, 24, 25, 26, 27, 28, 29, 30, 31, 32, 33, 34, 35, 36, 37, 38, 39, 40, 41, 42, 43, 44, 45, 46, 47, 48, 49, 50, 51, 52, 53, 62, 63, 64, 65, 66, 67, 68, 69, 70, 137, 138, 139, 140, 141, 142, 143, 144, 145, 146, 147, 148, 149, 150, 151, 152, 153, 154, 155, 156, 157, 158, 159, 160, 161] (by decide +kernel) (by decide +kernel)
set_option maxRecDepth 20000 in
theorem gL_holds_X5_decidingTrial : GoodIn wsL_holds (wsV RL 18 RX5 yX5_decidingTrial wsX5_decidingTrial) := goodIn_app (goodIn_of _ (by decide +kernel)) ggL_holds_X5_decidingTrial
set_option maxRecDepth 20000 in
theorem ggL_holds_X5_count : GoodIn wsL_holds wsX5_count := goodIn_r _ [74, 10, 17, 75, 76, 18, 19, 20, 21, 22, 23, 77, 78, 79, 4, 80, 81, 82, 83, 84, 85, 86, 87, 88, 11, 27, 28, 29, 30, 31, 89, 90, 91, 92, 93, 94, 95, 96, 97, 98, 137, 138, 139, 140, 141, 142, 143, 146, 147, 148, 149, 150, 151, 152, 144, 145, 162, 163, 153] (by decide +kernel) (by decide +kernel)
set_option maxRecDepth 20000 in
theorem gL_holds_X5_count : GoodIn wsL_holds (wsV RL 21 RX5 yX5_count wsX5_count) := goodIn_app (goodIn_of _ (by decide +kernel)) ggL_holds_X5_count
set_option maxRecDepth 20000 in
theorem ggL_holds_X5_trial : GoodIn wsL_holds wsX5_trial := goodIn_r _ [102, 10, 12, 11, 18, 19, 20, 21, 22, 23, 62, 33, 63, 64, 37, 51, 65, 66, 24, 25, 26, 27, 28, 29, 30, 31, 67, 68, 69, 4, 70, 32, 34, 35, 36, 38, 39, 40, 41, 42, 43, 44, 45, 46, 47, 137, 138, 139, 140, 141, 142, 143, 146, 147, 148, 149, 150, 151, 152, 154, 155, 156, 157, 158, 159, 160, 161, 153] (by decide +kernel) (by decide +kernel)
set_option maxRecDepth 20000 in
theorem gL_holds_X5_trial : GoodIn wsL_holds (wsV RL 25 RX5 yX5_trial wsX5_trial) := goodIn_app (goodIn_of _ (by decide +kernel)) ggL_holds_X5_trial
set_option maxRecDepth 20000 in
theorem ggL_holds_X5_margin : GoodIn wsL_holds wsX5_margin := goodIn_r _ [106, 12, 11, 6, 7, 8, 4, 9, 10, 13, 14, 15, 16, 17, 18, 19, 20, 21, 22, 23, 24, 25, 26, 27, 28, 29, 30, 31, 32, 33, 34, 35, 36, 37, 38, 39, 40, 41, 42, 43, 44, 45, 46, 47, 48, 49, 50, 51, 52, 53, 137, 138, 139, 140, 141, 142, 143, 144, 145, 146, 147, 148, 149, 150, 151, 152, 153, 154, 155, 156, 157, 158, 159, 160, 161] (by decide +kernel) (by decide +kernel)
set_option maxRecDepth 20000 in
theorem gL_holds_X5_margin : GoodIn wsL_holds (wsV RL 28 RX5 yX5_margin wsX5_margin) := goodIn_app (goodIn_of _ (by decide +kernel)) ggL_holds_X5_margin
set_option maxRecDepth 20000 in
theorem ggL_holds_X5_score : GoodIn wsL_holds wsX5_score := goodIn_r _ [110, 12, 11, 111, 112, 113, 4, 114, 10, 24, 19, 25, 26, 23, 27, 28, 29, 30, 31, 48, 33, 49, 50, 51, 52, 53, 32, 34, 35, 36, 37, 38, 39, 40, 137, 138, 139, 140, 141, 142, 143, 146, 147, 148, 149, 150, 151, 152, 153, 154, 155, 156, 157, 158, 159, 160, 161] (by decide +kernel) (by decide +kernel)
set_option maxRecDepth 20000 in
theorem gL_holds_X5_score : GoodIn wsL_holds (wsV RL 31 RX5 yX5_score wsX5_score) := goodIn_app (goodIn_of _ (by decide +kernel)) ggL_holds_X5_score
set_option maxRecDepth 20000 in
theorem ggL_holds_X5_isGuaranteed : GoodIn wsL_holds wsX5_isGuaranteed := goodIn_r _ [118, 17, 10, 81, 82, 83, 4, 84, 85, 86, 87, 88, 11, 27, 28, 29, 30, 31, 89, 90, 91, 92, 93, 94, 95, 96, 97, 98, 77, 78, 79, 80, 18, 19, 20, 21, 22, 23, 137, 138, 139, 140, 141, 142, 143, 144, 145, 146, 147, 148, 149, 150, 151, 152, 153] (by decide +kernel) (by decide +kernel)
set_option maxRecDepth 20000 in
theorem gL_holds_X5_isGuaranteed : GoodIn wsL_holds (wsV RL 34 RX5 yX5_isGuaranteed wsX5_isGuaranteed) := goodIn_app (goodIn_of _ (by decide +kernel)) ggL_holds_X5_isGuaranteed
set_option maxRecDepth 20000 in
theorem ggL_holds_X5_sent : GoodIn wsL_holds wsX5_sent := goodIn_r _ [122, 10, 137, 138, 139, 140, 141, 142, 143, 146, 147, 148, 149, 150, 151, 152] (by decide +kernel) (by decide +kernel)
set_option maxRecDepth 20000 in
theorem gL_holds_X5_sent : GoodIn wsL_holds (wsV RL 37 RX5 yX5_sent wsX5_sent) := goodIn_app (goodIn_of _ (by decide +kernel)) ggL_holds_X5_sent
set_option maxRecDepth 20000 in
theorem ggL_holds_X5_wastedTrials : GoodIn wsL_holds wsX5_wastedTrials := goodIn_r _ [126, 10, 11, 12, 18, 19, 20, 21, 22, 23, 6, 7, 8, 4, 9, 13, 14, 15, 16, 17, 24, 25, 26, 27, 28, 29, 30, 31, 32, 33, 34, 35, 36, 37, 38, 39, 40, 41, 42, 43, 44, 45, 46, 47, 48, 49, 50, 51, 52, 53, 62, 63, 64, 65, 66, 67, 68, 69, 70, 137, 138, 139, 140, 141, 142, 143, 146, 147, 148, 149, 150, 151, 152, 144, 145, 153, 154, 155, 156, 157, 158, 159, 160, 161] (by decide +kernel) (by decide +kernel)
set_option maxRecDepth 20000 in
theorem gL_holds_X5_wastedTrials : GoodIn wsL_holds (wsV RL 40 RX5 yX5_wastedTrials wsX5_wastedTrials) := goodIn_app (goodIn_of _ (by decide +kernel)) ggL_holds_X5_wastedTrials
set_option maxRecDepth 20000 in
theorem ggL_holds_X5_nearest : GoodIn wsL_holds wsX5_nearest := goodIn_r _ [130, 10, 6, 7, 8, 4, 9, 11, 12, 13, 14, 15, 16, 17, 18, 19, 20, 21, 22, 23, 24, 25, 26, 27, 28, 29, 30, 31, 32, 33, 34, 35, 36, 37, 38, 39, 40, 41, 42, 43, 44, 45, 46, 47, 48, 49, 50, 51, 52, 53, 131, 132, 133, 134, 135, 136, 137, 138, 139, 140, 141, 142, 143, 144, 145, 146, 147, 148, 149, 150, 151, 152, 153, 154, 155, 156, 157, 158, 159, 160, 161] (by decide +kernel) (by decide +kernel)
set_option maxRecDepth 20000 in
theorem gL_holds_X5_nearest : GoodIn wsL_holds (wsV RL 43 RX5 yX5_nearest wsX5_nearest) := goodIn_app (goodIn_of _ (by decide +kernel)) ggL_holds_X5_nearest
set_option maxRecDepth 20000 in
theorem ggL_fragile_X5_count : GoodIn wsL_fragile wsX5_count := goodIn_r _ [5, 6, 7, 8, 9, 10, 11, 12, 13, 14, 15, 16, 17, 18, 4, 19, 20, 21, 22, 23, 24, 25, 26, 27, 28, 29, 30, 31, 32, 33, 34, 35, 36, 37, 38, 39, 40, 41, 42, 43, 197, 198, 199, 200, 201, 202, 203, 204, 205, 206, 207, 208, 209, 210, 211, 212, 213, 214, 215] (by decide +kernel) (by decide +kernel)
set_option maxRecDepth 20000 in
theorem gL_fragile_X5_count : GoodIn wsL_fragile (wsV RL 21 RX5 yX5_count wsX5_count) := goodIn_app (goodIn_of _ (by decide +kernel)) ggL_fragile_X5_count
set_option maxRecDepth 20000 in
theorem ggL_fragile_X5_fragileBits : GoodIn wsL_fragile wsX5_fragileBits := goodIn_r _ [47, 6, 48, 49, 50, 4, 51, 52, 28, 7, 53, 54, 55, 56, 29, 30, 31, 32, 33, 34, 35, 36, 57, 58, 59, 60, 61, 62, 63, 64, 65, 66, 67, 68, 69, 70, 71, 72, 73, 74, 75, 76, 77, 78, 79, 80, 81, 82, 83, 84, 85, 38, 39, 40, 41, 42, 43, 86, 87, 88, 89, 90, 91, 92, 93, 94, 95, 96, 97, 10, 11, 12, 13, 14, 15, 197, 198, 199, 200, 201, 202, 203, 204, 205, 206, 207, 208, 209, 210, 215, 216, 217, 218, 219, 220, 221, 222, 223, 211, 212] (by decide +kernel) (by decide +kernel)
set_option maxRecDepth 20000 in
theorem gL_fragile_X5_fragileBits : GoodIn wsL_fragile (wsV RL 46 RX5 yX5_fragileBits wsX5_fragileBits) := goodIn_app (goodIn_of _ (by decide +kernel)) ggL_fragile_X5_fragileBits
set_option maxRecDepth 20000 in
theorem ggL_fragile_X5_fragileBlocks : GoodIn wsL_fragile wsX5_fragileBlocks := goodIn_r _ [101, 52, 28, 6, 29, 30, 31, 32, 33, 57, 58, 59, 60, 61, 62, 63, 64, 65, 66, 67, 68, 69, 70, 71, 72, 73, 74, 4, 75, 53, 54, 55, 56, 34, 35, 36, 94, 95, 96, 97, 7, 10, 11, 12, 13, 14, 15, 197, 198, 199, 200, 201, 202, 203, 204, 205, 206, 207, 208, 209, 210, 215, 216, 217, 218, 219, 220, 221, 222, 223, 211, 212] (by decide +kernel) (by decide +kernel)
set_option maxRecDepth 20000 in
theorem gL_fragile_X5_fragileBlocks : GoodIn wsL_fragile (wsV RL 49 RX5 yX5_fragileBlocks wsX5_fragileBlocks) := goodIn_app (goodIn_of _ (by decide +kernel)) ggL_fragile_X5_fragileBlocks
set_option maxRecDepth 20000 in
theorem ggL_fragile_X5_received : GoodIn wsL_fragile wsX5_received := goodIn_r _ [105, 6, 106, 107, 108, 4, 109, 197, 198, 199, 200, 201, 202, 203, 204, 205, 206, 207, 208, 209, 210] (by decide +kernel) (by decide +kernel)
set_option maxRecDepth 20000 in
theorem gL_fragile_X5_received : GoodIn wsL_fragile (wsV RL 52 RX5 yX5_received wsX5_received) := goodIn_app (goodIn_of _ (by decide +kernel)) ggL_fragile_X5_received
set_option maxRecDepth 20000 in
theorem ggL_fragile_X5_flip : GoodIn wsL_fragile wsX5_flip := goodIn_r _ [113, 6, 9, 52, 106, 107, 108, 4, 109, 114, 11, 115, 116, 117, 118, 119, 120, 121, 122, 123, 124, 125, 126, 127, 128, 129, 130, 14, 15, 131, 132, 133, 134, 135, 136, 137, 138, 7, 139, 77, 140, 141, 89, 84, 142, 143, 92, 144, 145, 146, 85, 38, 39, 40, 41, 42, 43, 147, 58, 148, 149, 61, 68, 67, 150, 151, 152, 153, 30, 154, 71, 155, 156, 157, 158, 159, 62, 76, 78, 79, 80, 81, 82, 83, 86, 87, 88, 90, 91, 93, 160, 161, 162, 163, 197, 198, 199, 200, 201, 202, 203, 204, 205, 206, 207, 208, 209, 210, 216, 217, 218, 219, 220, 221, 222, 223, 213, 214, 211, 212] (by decide +kernel) (by decide +kernel)
set_option maxRecDepth 20000 in
theorem gL_fragile_X5_flip : GoodIn wsL_fragile (wsV RL 55 RX5 yX5_flip wsX5_flip) := goodIn_app (goodIn_of _ (by decide +kernel)) ggL_fragile_X5_flip
set_option maxRecDepth 20000 in
theorem ggL_fragile_X5_decode : GoodIn wsL_fragile wsX5_decode := goodIn_r _ [167, 168, 169, 170, 4, 171, 6, 28, 52, 94, 95, 96, 97, 7, 10, 11, 12, 13, 14, 15, 172, 173, 174, 29, 30, 31, 32, 33, 64, 58, 65, 66, 67, 68, 69, 70, 71, 175, 176, 177, 178, 179, 180, 181, 57, 59, 60, 61, 62, 63, 197, 198, 199, 200, 201, 202, 203, 211, 212, 204, 205, 206, 207, 208, 209, 210, 215, 216, 217, 218, 219, 220, 221, 222, 223] (by decide +kernel) (by decide +kernel)
set_option maxRecDepth 20000 in
theorem gL_fragile_X5_decode : GoodIn wsL_fragile (wsV RL 9 RX5 yX5_decode wsX5_decode) := goodIn_app (goodIn_of _ (by decide +kernel)) ggL_fragile_X5_decode
set_option maxRecDepth 20000 in
theorem ggL_fragile_X5_sent : GoodIn wsL_fragile wsX5_sent := goodIn_r _ [185, 6, 197, 198, 199, 200, 201, 202, 203, 204, 205, 206, 207, 208, 209, 210] (by decide +kernel) (by decide +kernel)
set_option maxRecDepth 20000 in
theorem gL_fragile_X5_sent : GoodIn wsL_fragile (wsV RL 37 RX5 yX5_sent wsX5_sent) := goodIn_app (goodIn_of _ (by decide +kernel)) ggL_fragile_X5_sent
set_option maxRecDepth 20000 in
theorem ggL_fragile_X5_undo : GoodIn wsL_fragile wsX5_undo := goodIn_r _ [189, 9, 6, 190, 119, 191, 192, 122, 123, 128, 11, 129, 130, 14, 15, 117, 131, 132, 133, 134, 135, 136, 137, 4, 138, 7, 52, 139, 77, 140, 141, 89, 84, 142, 143, 92, 144, 145, 146, 85, 38, 39, 40, 41, 42, 43, 147, 58, 148, 149, 61, 68, 67, 150, 151, 152, 153, 30, 154, 71, 155, 156, 157, 158, 159, 62, 76, 78, 79, 80, 81, 82, 83, 86, 87, 88, 90, 91, 93, 160, 161, 162, 163, 197, 198, 199, 200, 201, 202, 203, 213, 214, 204, 205, 206, 207, 208, 209, 210, 211, 212, 216, 217, 218, 219, 220, 221, 222, 223] (by decide +kernel) (by decide +kernel)
set_option maxRecDepth 20000 in
theorem gL_fragile_X5_undo : GoodIn wsL_fragile (wsV RL 59 RX5 yX5_undo wsX5_undo) := goodIn_app (goodIn_of _ (by decide +kernel)) ggL_fragile_X5_undo
set_option maxRecDepth 20000 in
theorem ggL_fragile_X5_lose : GoodIn wsL_fragile wsX5_lose := goodIn_r _ [196, 6, 9, 106, 107, 108, 4, 109, 118, 119, 120, 121, 122, 123, 124, 125, 126, 127, 128, 11, 129, 130, 14, 15, 117, 131, 132, 133, 134, 135, 136, 137, 138, 7, 52, 139, 77, 140, 141, 89, 84, 142, 143, 92, 144, 145, 146, 85, 38, 39, 40, 41, 42, 43, 147, 58, 148, 149, 61, 68, 67, 150, 151, 152, 153, 30, 154, 71, 155, 156, 157, 158, 159, 62, 76, 78, 79, 80, 81, 82, 83, 86, 87, 88, 90, 91, 93, 160, 161, 162, 163, 197, 198, 199, 200, 201, 202, 203, 204, 205, 206, 207, 208, 209, 210, 213, 214, 211, 212, 216, 217, 218, 219, 220, 221, 222, 223] (by decide +kernel) (by decide +kernel)
set_option maxRecDepth 20000 in
theorem gL_fragile_X5_lose : GoodIn wsL_fragile (wsV RL 62 RX5 yX5_lose wsX5_lose) := goodIn_app (goodIn_of _ (by decide +kernel)) ggL_fragile_X5_lose
set_option maxRecDepth 20000 in
theorem ggL_cascades_X5_decode : GoodIn wsL_cascades wsX5_decode := goodIn_r _ [5, 6, 7, 8, 4, 9, 10, 11, 12, 13, 14, 15, 16, 17, 18, 19, 20, 21, 22, 23, 24, 25, 26, 27, 28, 29, 30, 31, 32, 33, 34, 35, 36, 37, 38, 39, 40, 41, 42, 43, 44, 45, 46, 47, 48, 49, 50, 51, 52, 53, 221, 222, 223, 224, 225, 226, 227, 228, 229, 230, 231, 232, 233, 234, 235, 236, 237, 238, 239, 240, 241, 242, 243, 244, 245] (by decide +kernel) (by decide +kernel)
set_option maxRecDepth 20000 in
theorem gL_cascades_X5_decode : GoodIn wsL_cascades (wsV RL 9 RX5 yX5_decode wsX5_decode) := goodIn_app (goodIn_of _ (by decide +kernel)) ggL_cascades_X5_decode
