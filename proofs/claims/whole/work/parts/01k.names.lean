set_option maxRecDepth 20000 in
theorem ggL_law_X5_init : GoodIn wsL_law wsX5_init := goodIn_r _ [8, 9, 10, 11, 12, 13, 14, 15, 16, 17, 18, 19, 20, 21, 22, 23, 24, 25, 26, 27, 28, 29, 30, 31, 32, 33, 34, 35, 36, 37, 38, 39, 40, 41, 42, 43, 44, 45, 46, 47, 48, 49, 50, 51, 52, 53, 54, 55, 56, 57, 58, 59, 60, 61, 62, 63, 64, 65, 66, 67, 68, 586, 587, 550, 551, 552, 553, 554, 555, 556, 557, 558, 559, 560, 588, 589, 590, 591, 592, 593, 594, 595, 596, 597, 598, 599, 600, 601, 602, 603, 604] (by decide +kernel) (by decide +kernel)
set_option maxRecDepth 20000 in
theorem gL_law_X5_init : GoodIn wsL_law (wsX5_init) := ggL_law_X5_init
set_option maxRecDepth 20000 in
theorem ggL_law_X6_init : GoodIn wsL_law wsX6_init := goodIn_r _ [71, 72, 10, 11, 39, 73, 74, 75, 76, 77, 78, 79, 80, 81, 82, 83, 84, 85, 86, 87, 88, 89, 90, 91, 92, 5, 93, 94, 95, 96, 97, 98, 99, 100, 101, 102, 103, 104, 105, 106, 107, 108, 109, 110, 111, 112, 113, 114, 115, 116, 117, 118, 119, 120, 121, 561, 562, 563, 564, 565, 566, 567, 568, 569, 570, 571, 572, 573, 574, 575, 576, 577, 578, 579, 580, 581, 582, 583, 584, 585] (by decide +kernel) (by decide +kernel)
set_option maxRecDepth 20000 in
theorem gL_law_X6_init : GoodIn wsL_law (wsX6_init) := ggL_law_X6_init
set_option maxRecDepth 20000 in
theorem ggL_law_X5_put : GoodIn wsL_law wsX5_put := goodIn_r _ [125, 15, 16, 126, 127, 29, 128, 129, 2, 130, 131, 132, 133, 134, 14, 135, 136, 40, 137, 138, 139, 140, 141, 142, 143, 144, 145, 146, 147, 148, 149, 150, 151, 152, 153, 25, 21, 34, 154, 155, 156, 157, 158, 159, 160, 161, 162, 163, 164, 165, 166, 167, 168, 169, 28, 170, 171, 172, 173, 174, 175, 176, 177, 178, 179, 180, 181, 182, 24, 183, 184, 185, 55, 186, 187, 188, 189, 190, 20, 191, 192, 193, 194, 195, 45, 46, 196, 197, 198, 199, 200, 201, 47, 48, 49, 202, 203, 204, 205, 56, 206, 207, 208, 209, 57, 58, 59, 60, 61, 210, 211, 212, 213, 214, 215, 216, 217, 218, 219, 220, 221, 222, 223, 224, 225, 226, 227, 228, 229, 230, 231, 232, 233, 234, 235, 236, 237, 238, 239, 240, 241, 242, 243, 244, 245, 246, 247, 248, 249, 250, 251, 252, 253, 254, 550, 551, 552, 553, 554, 555, 556, 557, 558, 559, 560, 586, 587, 602, 593, 594, 595, 596, 597, 598, 599, 600, 601, 588, 589, 590, 591, 592] (by decide +kernel) (by decide +kernel)
set_option maxRecDepth 20000 in
theorem gL_law_X5_put : GoodIn wsL_law (wsV RL 13 RX5 yX5_put wsX5_put) := goodIn_app (goodIn_of _ (by decide +kernel)) ggL_law_X5_put
set_option maxRecDepth 20000 in
theorem ggL_law_X6_put : GoodIn wsL_law wsX6_put := goodIn_r _ [258, 259, 76, 260, 261, 75, 262, 263, 5, 264, 265, 266, 267, 268, 269, 270, 271, 272, 79, 273, 274, 275, 276, 95, 73, 277, 278, 279, 280, 281, 282, 283, 284, 285, 286, 287, 78, 288, 289, 290, 291, 292, 90, 91, 92, 93, 94, 96, 80, 83, 86, 97, 98, 99, 100, 101, 102, 84, 85, 88, 89, 103, 104, 105, 106, 82, 81, 107, 108, 109, 110, 74, 111, 112, 113, 114, 115, 116, 117, 118, 119, 120, 121, 561, 562, 563, 564, 565, 566, 567, 568, 569, 570, 571, 572, 573, 574, 575, 576, 577, 578, 579, 580, 581, 582, 583, 584, 585] (by decide +kernel) (by decide +kernel)
set_option maxRecDepth 20000 in
theorem gL_law_X6_put : GoodIn wsL_law (wsV RL 17 RX6 yX6_put wsX6_put) := goodIn_app (goodIn_of _ (by decide +kernel)) ggL_law_X6_put
set_option maxRecDepth 20000 in
theorem ggL_law_X5_take : GoodIn wsL_law wsX5_take := goodIn_r _ [296, 15, 16, 126, 127, 128, 129, 2, 130, 131, 132, 133, 134, 14, 135, 136, 40, 137, 138, 139, 140, 145, 146, 147, 148, 149, 150, 151, 152, 153, 29, 25, 21, 34, 154, 155, 156, 157, 158, 142, 143, 144, 159, 160, 161, 162, 163, 164, 165, 166, 141, 167, 168, 169, 28, 170, 171, 172, 173, 174, 175, 176, 177, 178, 179, 180, 181, 182, 24, 183, 184, 185, 55, 186, 187, 188, 189, 190, 20, 191, 192, 193, 194, 195, 45, 46, 196, 197, 198, 199, 200, 201, 47, 48, 49, 202, 203, 204, 205, 56, 206, 207, 208, 209, 57, 58, 59, 60, 61, 210, 211, 212, 213, 214, 215, 216, 217, 218, 219, 220, 221, 222, 223, 224, 225, 226, 227, 228, 229, 230, 231, 232, 233, 234, 235, 236, 237, 238, 239, 240, 241, 242, 243, 244, 245, 246, 247, 248, 249, 297, 298, 299, 300, 254, 550, 551, 552, 553, 554, 555, 556, 557, 558, 559, 560, 586, 587, 602, 593, 594, 595, 596, 597, 598, 599, 600, 601, 588, 589, 590, 591, 592] (by decide +kernel) (by decide +kernel)
set_option maxRecDepth 20000 in
theorem gL_law_X5_take : GoodIn wsL_law (wsV RL 18 RX5 yX5_take wsX5_take) := goodIn_app (goodIn_of _ (by decide +kernel)) ggL_law_X5_take
set_option maxRecDepth 20000 in
theorem ggL_law_X6_take : GoodIn wsL_law wsX6_take := goodIn_r _ [304, 75, 261, 260, 76, 259, 262, 263, 5, 264, 265, 266, 267, 268, 269, 270, 271, 272, 79, 273, 274, 275, 276, 95, 73, 277, 278, 279, 280, 281, 282, 283, 284, 285, 286, 287, 78, 288, 289, 290, 291, 292, 90, 91, 92, 93, 94, 96, 80, 83, 86, 97, 98, 99, 100, 101, 102, 84, 85, 88, 89, 103, 104, 105, 106, 82, 81, 107, 108, 109, 110, 74, 111, 112, 113, 114, 115, 116, 117, 118, 119, 120, 121, 561, 562, 563, 564, 565, 566, 567, 568, 569, 570, 571, 572, 573, 574, 575, 576, 577, 578, 579, 580, 581, 582, 583, 584, 585] (by decide +kernel) (by decide +kernel)
set_option maxRecDepth 20000 in
theorem gL_law_X6_take : GoodIn wsL_law (wsV RL 21 RX6 yX6_take wsX6_take) := goodIn_app (goodIn_of _ (by decide +kernel)) ggL_law_X6_take
set_option maxRecDepth 20000 in
theorem ggL_law_X5_make : GoodIn wsL_law wsX5_make := goodIn_r _ [308, 153, 149, 150, 151, 2, 152, 16, 15, 127, 126, 29, 25, 21, 34, 154, 155, 156, 14, 157, 136, 158, 142, 143, 144, 159, 160, 161, 162, 40, 163, 164, 165, 166, 141, 167, 168, 169, 28, 170, 171, 172, 173, 174, 175, 176, 177, 178, 179, 180, 181, 182, 24, 183, 184, 185, 55, 186, 187, 188, 189, 190, 20, 191, 192, 193, 194, 195, 45, 46, 196, 197, 198, 199, 200, 201, 47, 48, 49, 202, 203, 204, 205, 56, 206, 207, 208, 209, 57, 58, 59, 60, 61, 210, 211, 212, 213, 214, 215, 216, 217, 218, 219, 220, 221, 222, 223, 224, 225, 226, 227, 228, 229, 230, 231, 232, 233, 234, 235, 236, 237, 238, 239, 240, 241, 242, 243, 244, 245, 246, 247, 248, 249, 550, 551, 552, 553, 554, 555, 556, 557, 558, 559, 560, 586, 587, 602, 593, 594, 595, 596, 597, 598, 599, 600, 601, 588, 589, 590, 591, 592] (by decide +kernel) (by decide +kernel)
set_option maxRecDepth 20000 in
theorem gL_law_X5_make : GoodIn wsL_law (wsV RL 22 RX5 yX5_make wsX5_make) := goodIn_app (goodIn_of _ (by decide +kernel)) ggL_law_X5_make
set_option maxRecDepth 20000 in
theorem ggL_law_X6_make : GoodIn wsL_law wsX6_make := goodIn_r _ [312, 288, 284, 285, 286, 5, 287, 78, 259, 95, 73, 79, 261, 260, 273, 274, 275, 276, 76, 75, 277, 278, 279, 280, 281, 282, 283, 289, 290, 291, 292, 90, 91, 92, 93, 94, 96, 80, 83, 86, 97, 98, 99, 100, 101, 102, 84, 85, 88, 89, 103, 104, 105, 106, 82, 81, 107, 108, 109, 110, 74, 111, 112, 113, 114, 115, 116, 117, 118, 119, 120, 121, 561, 562, 563, 564, 565, 566, 567, 568, 569, 570, 571, 572, 573, 574, 575, 576, 577, 578, 579, 580, 581, 582, 583, 584, 585] (by decide +kernel) (by decide +kernel)
set_option maxRecDepth 20000 in
theorem gL_law_X6_make : GoodIn wsL_law (wsV RL 26 RX6 yX6_make wsX6_make) := goodIn_app (goodIn_of _ (by decide +kernel)) ggL_law_X6_make
set_option maxRecDepth 20000 in
theorem ggL_law_X5_slack : GoodIn wsL_law wsX5_slack := goodIn_r _ [316, 34, 149, 150, 151, 2, 152, 16, 15, 127, 126, 153, 29, 25, 21, 154, 155, 156, 14, 157, 136, 158, 142, 143, 144, 159, 160, 161, 162, 40, 163, 164, 165, 166, 141, 167, 168, 169, 28, 170, 171, 172, 173, 174, 175, 176, 177, 178, 179, 180, 181, 182, 24, 183, 184, 185, 55, 186, 187, 188, 189, 190, 20, 191, 192, 193, 194, 195, 45, 46, 196, 197, 198, 199, 200, 201, 47, 48, 49, 202, 203, 204, 205, 56, 206, 207, 208, 209, 57, 58, 59, 60, 61, 210, 211, 212, 213, 214, 215, 216, 217, 218, 219, 220, 221, 222, 223, 224, 225, 226, 227, 228, 229, 230, 231, 232, 233, 234, 235, 236, 237, 238, 239, 240, 241, 242, 243, 244, 245, 246, 247, 248, 249, 550, 551, 552, 553, 554, 555, 556, 557, 558, 559, 560, 586, 587, 602, 593, 594, 595, 596, 597, 598, 599, 600, 601, 588, 589, 590, 591, 592] (by decide +kernel) (by decide +kernel)
set_option maxRecDepth 20000 in
theorem gL_law_X5_slack : GoodIn wsL_law (wsV RL 27 RX5 yX5_slack wsX5_slack) := goodIn_app (goodIn_of _ (by decide +kernel)) ggL_law_X5_slack
set_option maxRecDepth 20000 in
theorem ggL_law_X6_slack : GoodIn wsL_law wsX6_slack := goodIn_r _ [320, 74, 266, 267, 5, 268, 284, 285, 286, 287, 78, 259, 95, 73, 79, 261, 260, 288, 273, 274, 275, 276, 76, 75, 277, 278, 279, 280, 281, 282, 283, 289, 290, 291, 292, 90, 91, 92, 93, 94, 96, 80, 83, 86, 97, 98, 99, 100, 101, 102, 84, 85, 88, 89, 103, 104, 105, 106, 82, 81, 107, 108, 109, 110, 111, 112, 113, 114, 115, 116, 117, 118, 119, 120, 121, 561, 562, 563, 564, 565, 566, 567, 568, 569, 570, 571, 572, 573, 574, 575, 576, 577, 578, 579, 580, 581, 582, 583, 584, 585] (by decide +kernel) (by decide +kernel)
set_option maxRecDepth 20000 in
theorem gL_law_X6_slack : GoodIn wsL_law (wsV RL 30 RX6 yX6_slack wsX6_slack) := goodIn_app (goodIn_of _ (by decide +kernel)) ggL_law_X6_slack
set_option maxRecDepth 20000 in
theorem ggL_law_X5_place : GoodIn wsL_law wsX5_place := goodIn_r _ [324, 15, 128, 129, 2, 130, 131, 132, 133, 134, 14, 135, 136, 40, 137, 138, 139, 140, 325, 550, 551, 552, 553, 554, 555, 556, 557, 558, 559, 560, 586, 587] (by decide +kernel) (by decide +kernel)
set_option maxRecDepth 20000 in
theorem gL_law_X5_place : GoodIn wsL_law (wsV RL 31 RX5 yX5_place wsX5_place) := goodIn_app (goodIn_of _ (by decide +kernel)) ggL_law_X5_place
set_option maxRecDepth 20000 in
theorem ggL_law_X6_place : GoodIn wsL_law wsX6_place := goodIn_r _ [329, 79, 259, 262, 263, 5, 264, 265, 266, 267, 268, 273, 274, 275, 276, 95, 76, 260, 73, 261, 75, 277, 278, 279, 280, 281, 282, 283, 561, 562, 563, 564, 565, 566, 567, 568, 569, 570, 571, 572, 573, 574, 575, 576, 577, 578, 579, 580, 581, 582, 583, 584, 585] (by decide +kernel) (by decide +kernel)
set_option maxRecDepth 20000 in
theorem gL_law_X6_place : GoodIn wsL_law (wsV RL 34 RX6 yX6_place wsX6_place) := goodIn_app (goodIn_of _ (by decide +kernel)) ggL_law_X6_place
set_option maxRecDepth 20000 in
theorem ggL_law_X5_at : GoodIn wsL_law wsX5_at := goodIn_r _ [333, 15, 141, 142, 143, 14, 144, 136, 172, 160, 161, 162, 40, 550, 551, 552, 553, 554, 555, 556, 557, 558, 559, 560, 586, 587] (by decide +kernel) (by decide +kernel)
set_option maxRecDepth 20000 in
theorem gL_law_X5_at : GoodIn wsL_law (wsV RL 35 RX5 yX5_at wsX5_at) := goodIn_app (goodIn_of _ (by decide +kernel)) ggL_law_X5_at
set_option maxRecDepth 20000 in
theorem ggL_law_X6_at : GoodIn wsL_law wsX6_at := goodIn_r _ [337, 259, 79, 273, 274, 275, 5, 276, 95, 76, 260, 73, 261, 75, 277, 278, 279, 280, 281, 282, 283, 266, 267, 268, 561, 562, 563, 564, 565, 566, 567, 568, 569, 570, 571, 572, 573, 574, 575, 576, 577, 578, 579, 580, 581, 582, 583, 584, 585] (by decide +kernel) (by decide +kernel)
set_option maxRecDepth 20000 in
theorem gL_law_X6_at : GoodIn wsL_law (wsV RL 38 RX6 yX6_at wsX6_at) := goodIn_app (goodIn_of _ (by decide +kernel)) ggL_law_X6_at
set_option maxRecDepth 20000 in
theorem ggL_law_X5_range : GoodIn wsL_law wsX5_range := goodIn_r _ [341, 131, 15, 342, 343, 2, 344, 128, 129, 130, 345, 346, 347, 14, 348, 137, 138, 139, 140, 136, 40, 550, 551, 552, 553, 554, 555, 556, 557, 558, 559, 560, 586, 587] (by decide +kernel) (by decide +kernel)
set_option maxRecDepth 20000 in
theorem gL_law_X5_range : GoodIn wsL_law (wsV RL 39 RX5 yX5_range wsX5_range) := goodIn_app (goodIn_of _ (by decide +kernel)) ggL_law_X5_range
set_option maxRecDepth 20000 in
theorem ggL_law_X6_range : GoodIn wsL_law wsX6_range := goodIn_r _ [352, 259, 79, 353, 354, 5, 355, 262, 263, 264, 265, 266, 267, 268, 273, 274, 275, 276, 95, 76, 260, 73, 261, 75, 277, 278, 279, 280, 281, 282, 283, 561, 562, 563, 564, 565, 566, 567, 568, 569, 570, 571, 572, 573, 574, 575, 576, 577, 578, 579, 580, 581, 582, 583, 584, 585] (by decide +kernel) (by decide +kernel)
set_option maxRecDepth 20000 in
theorem gL_law_X6_range : GoodIn wsL_law (wsV RL 43 RX6 yX6_range wsX6_range) := goodIn_app (goodIn_of _ (by decide +kernel)) ggL_law_X6_range
set_option maxRecDepth 20000 in
theorem ggL_law_X5_sum : GoodIn wsL_law wsX5_sum := goodIn_r _ [359, 131, 360, 15, 342, 343, 2, 344, 128, 129, 130, 361, 362, 363, 14, 364, 137, 138, 139, 140, 136, 40, 159, 160, 161, 162, 550, 551, 552, 553, 554, 555, 556, 557, 558, 559, 560, 586, 587] (by decide +kernel) (by decide +kernel)
set_option maxRecDepth 20000 in
theorem gL_law_X5_sum : GoodIn wsL_law (wsV RL 44 RX5 yX5_sum wsX5_sum) := goodIn_app (goodIn_of _ (by decide +kernel)) ggL_law_X5_sum
set_option maxRecDepth 20000 in
theorem ggL_law_X6_sum : GoodIn wsL_law wsX6_sum := goodIn_r _ [368, 369, 259, 79, 353, 354, 5, 355, 262, 263, 264, 265, 266, 267, 268, 273, 274, 275, 276, 95, 76, 260, 73, 261, 75, 277, 278, 279, 280, 281, 282, 283, 561, 562, 563, 564, 565, 566, 567, 568, 569, 570, 571, 572, 573, 574, 575, 576, 577, 578, 579, 580, 581, 582, 583, 584, 585] (by decide +kernel) (by decide +kernel)
set_option maxRecDepth 20000 in
theorem gL_law_X6_sum : GoodIn wsL_law (wsV RL 48 RX6 yX6_sum wsX6_sum) := goodIn_app (goodIn_of _ (by decide +kernel)) ggL_law_X6_sum
set_option maxRecDepth 20000 in
theorem ggL_law_X5_pieces : GoodIn wsL_law wsX5_pieces := goodIn_r _ [373, 25, 374, 230, 231, 24, 232, 184, 56, 550, 551, 552, 553, 554, 555, 556, 557, 558, 559, 560, 593, 594, 595, 596, 597, 598, 599, 600, 601] (by decide +kernel) (by decide +kernel)
set_option maxRecDepth 20000 in
theorem gL_law_X5_pieces : GoodIn wsL_law (wsV RL 49 RX5 yX5_pieces wsX5_pieces) := goodIn_app (goodIn_of _ (by decide +kernel)) ggL_law_X5_pieces
set_option maxRecDepth 20000 in
theorem ggL_law_X6_pieces : GoodIn wsL_law wsX6_pieces := goodIn_r _ [378, 266, 267, 5, 268, 379, 380, 381, 382, 94, 83, 561, 562, 563, 564, 565, 566, 567, 568, 569, 570, 571, 572, 573, 574, 575, 576, 577, 578, 579, 580, 581, 582, 583, 584, 585] (by decide +kernel) (by decide +kernel)
set_option maxRecDepth 20000 in
theorem gL_law_X6_pieces : GoodIn wsL_law (wsV RL 52 RX6 yX6_pieces wsX6_pieces) := goodIn_app (goodIn_of _ (by decide +kernel)) ggL_law_X6_pieces
set_option maxRecDepth 20000 in
theorem ggL_law_X5_piece : GoodIn wsL_law wsX5_piece := goodIn_r _ [386, 25, 387, 242, 243, 24, 244, 56, 57, 58, 59, 60, 61, 229, 230, 231, 232, 184, 245, 246, 247, 248, 185, 550, 551, 552, 553, 554, 555, 556, 557, 558, 559, 560, 593, 594, 595, 596, 597, 598, 599, 600, 601] (by decide +kernel) (by decide +kernel)
set_option maxRecDepth 20000 in
theorem gL_law_X5_piece : GoodIn wsL_law (wsV RL 53 RX5 yX5_piece wsX5_piece) := goodIn_app (goodIn_of _ (by decide +kernel)) ggL_law_X5_piece
set_option maxRecDepth 20000 in
theorem ggL_law_X6_piece : GoodIn wsL_law wsX6_piece := goodIn_r _ [391, 84, 85, 86, 88, 89, 266, 267, 5, 268, 379, 380, 381, 382, 94, 83, 561, 562, 563, 564, 565, 566, 567, 568, 569, 570, 571, 572, 573, 574, 575, 576, 577, 578, 579, 580, 581, 582, 583, 584, 585] (by decide +kernel) (by decide +kernel)
set_option maxRecDepth 20000 in
theorem gL_law_X6_piece : GoodIn wsL_law (wsV RL 57 RX6 yX6_piece wsX6_piece) := goodIn_app (goodIn_of _ (by decide +kernel)) ggL_law_X6_piece
set_option maxRecDepth 20000 in
theorem ggL_law_X5_levels : GoodIn wsL_law wsX5_levels := goodIn_r _ [395, 25, 396, 397, 398, 24, 399, 184, 550, 551, 552, 553, 554, 555, 556, 557, 558, 559, 560, 593, 594, 595, 596, 597, 598, 599, 600, 601] (by decide +kernel) (by decide +kernel)
set_option maxRecDepth 20000 in
theorem gL_law_X5_levels : GoodIn wsL_law (wsV RL 58 RX5 yX5_levels wsX5_levels) := goodIn_app (goodIn_of _ (by decide +kernel)) ggL_law_X5_levels
set_option maxRecDepth 20000 in
theorem ggL_law_X6_levels : GoodIn wsL_law wsX6_levels := goodIn_r _ [403, 94, 561, 562, 563, 564, 565, 566, 567, 568, 569, 570, 571, 572, 573, 574, 575, 576, 577, 578, 579, 580, 581, 582, 583, 584, 585] (by decide +kernel) (by decide +kernel)
set_option maxRecDepth 20000 in
theorem gL_law_X6_levels : GoodIn wsL_law (wsV RL 61 RX6 yX6_levels wsX6_levels) := goodIn_app (goodIn_of _ (by decide +kernel)) ggL_law_X6_levels
set_option maxRecDepth 20000 in
theorem ggL_law_X5_guess : GoodIn wsL_law wsX5_guess := goodIn_r _ [407, 25, 128, 129, 2, 130, 131, 396, 397, 398, 24, 399, 184, 408, 409, 410, 411, 59, 229, 230, 231, 232, 56, 245, 246, 247, 248, 185, 412, 413, 414, 415, 61, 60, 57, 58, 416, 193, 194, 195, 417, 418, 419, 420, 421, 422, 423, 550, 551, 552, 553, 554, 555, 556, 557, 558, 559, 560, 593, 594, 595, 596, 597, 598, 599, 600, 601] (by decide +kernel) (by decide +kernel)
set_option maxRecDepth 20000 in
theorem gL_law_X5_guess : GoodIn wsL_law (wsV RL 62 RX5 yX5_guess wsX5_guess) := goodIn_app (goodIn_of _ (by decide +kernel)) ggL_law_X5_guess
set_option maxRecDepth 20000 in
theorem ggL_law_X6_guess : GoodIn wsL_law wsX6_guess := goodIn_r _ [427, 95, 262, 263, 5, 264, 265, 266, 267, 268, 428, 429, 430, 431, 86, 379, 380, 381, 382, 94, 83, 432, 433, 434, 435, 88, 89, 84, 85, 561, 562, 563, 564, 565, 566, 567, 568, 569, 570, 571, 572, 573, 574, 575, 576, 577, 578, 579, 580, 581, 582, 583, 584, 585] (by decide +kernel) (by decide +kernel)
set_option maxRecDepth 20000 in
theorem gL_law_X6_guess : GoodIn wsL_law (wsV RL 65 RX6 yX6_guess wsX6_guess) := goodIn_app (goodIn_of _ (by decide +kernel)) ggL_law_X6_guess
set_option maxRecDepth 20000 in
theorem ggL_law_X5_find : GoodIn wsL_law wsX5_find := goodIn_r _ [439, 33, 16, 25, 34, 128, 129, 2, 130, 131, 440, 441, 442, 32, 443, 444, 445, 446, 397, 398, 24, 399, 184, 447, 409, 410, 411, 59, 229, 230, 231, 232, 56, 245, 246, 247, 248, 185, 448, 413, 414, 415, 61, 60, 57, 58, 416, 193, 194, 195, 417, 418, 419, 420, 421, 422, 423, 449, 450, 451, 452, 453, 454, 455, 456, 457, 458, 459, 460, 160, 161, 14, 162, 136, 40, 461, 462, 463, 464, 550, 551, 552, 553, 554, 555, 556, 557, 558, 559, 560, 603, 604, 593, 594, 595, 596, 597, 598, 599, 600, 601, 586, 587] (by decide +kernel) (by decide +kernel)
set_option maxRecDepth 20000 in
theorem gL_law_X5_find : GoodIn wsL_law (wsV RL 66 RX5 yX5_find wsX5_find) := goodIn_app (goodIn_of _ (by decide +kernel)) ggL_law_X5_find
set_option maxRecDepth 20000 in
theorem ggL_law_X6_find : GoodIn wsL_law wsX6_find := goodIn_r _ [468, 262, 263, 5, 264, 265, 266, 267, 268, 469, 470, 471, 472, 473, 95, 74, 84, 85, 73, 428, 429, 430, 431, 86, 379, 380, 381, 382, 94, 83, 432, 433, 434, 435, 88, 89, 561, 562, 563, 564, 565, 566, 567, 568, 569, 570, 571, 572, 573, 574, 575, 576, 577, 578, 579, 580, 581, 582, 583, 584, 585] (by decide +kernel) (by decide +kernel)
set_option maxRecDepth 20000 in
theorem gL_law_X6_find : GoodIn wsL_law (wsV RL 69 RX6 yX6_find wsX6_find) := goodIn_app (goodIn_of _ (by decide +kernel)) ggL_law_X6_find
set_option maxRecDepth 20000 in
theorem ggL_law_X5_looks : GoodIn wsL_law wsX5_looks := goodIn_r _ [477, 33, 16, 25, 34, 128, 129, 2, 130, 131, 440, 441, 442, 32, 443, 444, 445, 446, 397, 398, 24, 399, 184, 447, 409, 410, 411, 59, 229, 230, 231, 232, 56, 245, 246, 247, 248, 185, 448, 413, 414, 415, 61, 60, 57, 58, 416, 193, 194, 195, 417, 418, 419, 420, 421, 422, 423, 449, 450, 451, 452, 453, 454, 455, 456, 457, 458, 459, 460, 160, 161, 14, 162, 136, 40, 478, 479, 480, 481, 550, 551, 552, 553, 554, 555, 556, 557, 558, 559, 560, 603, 604, 593, 594, 595, 596, 597, 598, 599, 600, 601, 586, 587] (by decide +kernel) (by decide +kernel)
set_option maxRecDepth 20000 in
theorem gL_law_X5_looks : GoodIn wsL_law (wsV RL 70 RX5 yX5_looks wsX5_looks) := goodIn_app (goodIn_of _ (by decide +kernel)) ggL_law_X5_looks
set_option maxRecDepth 20000 in
theorem ggL_law_X6_looks : GoodIn wsL_law wsX6_looks := goodIn_r _ [485, 473, 262, 263, 5, 264, 265, 266, 267, 268, 469, 470, 471, 472, 95, 74, 84, 85, 73, 428, 429, 430, 431, 86, 379, 380, 381, 382, 94, 83, 432, 433, 434, 435, 88, 89, 561, 562, 563, 564, 565, 566, 567, 568, 569, 570, 571, 572, 573, 574, 575, 576, 577, 578, 579, 580, 581, 582, 583, 584, 585] (by decide +kernel) (by decide +kernel)
set_option maxRecDepth 20000 in
theorem gL_law_X6_looks : GoodIn wsL_law (wsV RL 73 RX6 yX6_looks wsX6_looks) := goodIn_app (goodIn_of _ (by decide +kernel)) ggL_law_X6_looks
set_option maxRecDepth 20000 in
theorem ggL_law_X5_maybe : GoodIn wsL_law wsX5_maybe := goodIn_r _ [489, 29, 128, 129, 2, 130, 131, 490, 491, 492, 28, 493, 171, 177, 178, 179, 550, 551, 552, 553, 554, 555, 556, 557, 558, 559, 560, 602] (by decide +kernel) (by decide +kernel)
set_option maxRecDepth 20000 in
theorem gL_law_X5_maybe : GoodIn wsL_law (wsV RL 74 RX5 yX5_maybe wsX5_maybe) := goodIn_app (goodIn_of _ (by decide +kernel)) ggL_law_X5_maybe
set_option maxRecDepth 20000 in
theorem ggL_law_X6_maybe : GoodIn wsL_law wsX6_maybe := goodIn_r _ [497, 262, 263, 5, 264, 265, 266, 267, 268, 498, 499, 500, 501, 78, 561, 562, 563, 564, 565, 566, 567, 568, 569, 570, 571, 572, 573, 574, 575, 576, 577, 578, 579, 580, 581, 582, 583, 584, 585] (by decide +kernel) (by decide +kernel)
set_option maxRecDepth 20000 in
theorem gL_law_X6_maybe : GoodIn wsL_law (wsV RL 77 RX6 yX6_maybe wsX6_maybe) := goodIn_app (goodIn_of _ (by decide +kernel)) ggL_law_X6_maybe
set_option maxRecDepth 20000 in
theorem ggL_law_X5_wrong : GoodIn wsL_law wsX5_wrong := goodIn_r _ [505, 29, 15, 342, 343, 2, 344, 128, 129, 130, 131, 490, 491, 492, 28, 493, 171, 177, 178, 179, 345, 346, 347, 14, 348, 137, 138, 139, 140, 136, 40, 550, 551, 552, 553, 554, 555, 556, 557, 558, 559, 560, 602, 586, 587] (by decide +kernel) (by decide +kernel)
set_option maxRecDepth 20000 in
theorem gL_law_X5_wrong : GoodIn wsL_law (wsV RL 78 RX5 yX5_wrong wsX5_wrong) := goodIn_app (goodIn_of _ (by decide +kernel)) ggL_law_X5_wrong
set_option maxRecDepth 20000 in
theorem ggL_law_X6_wrong : GoodIn wsL_law wsX6_wrong := goodIn_r _ [509, 79, 259, 353, 354, 5, 355, 262, 263, 264, 265, 266, 267, 268, 273, 274, 275, 276, 95, 76, 260, 73, 261, 75, 277, 278, 279, 280, 281, 282, 283, 498, 499, 500, 501, 78, 561, 562, 563, 564, 565, 566, 567, 568, 569, 570, 571, 572, 573, 574, 575, 576, 577, 578, 579, 580, 581, 582, 583, 584, 585] (by decide +kernel) (by decide +kernel)
set_option maxRecDepth 20000 in
theorem gL_law_X6_wrong : GoodIn wsL_law (wsV RL 81 RX6 yX6_wrong wsX6_wrong) := goodIn_app (goodIn_of _ (by decide +kernel)) ggL_law_X6_wrong
set_option maxRecDepth 20000 in
theorem ggL_law_X5_poison : GoodIn wsL_law wsX5_poison := goodIn_r _ [513, 15, 342, 343, 2, 344, 128, 129, 130, 131, 141, 142, 143, 14, 144, 136, 132, 133, 134, 135, 40, 137, 138, 139, 140, 514, 515, 516, 517, 17, 21, 34, 154, 155, 156, 157, 158, 159, 160, 161, 162, 163, 164, 165, 166, 250, 251, 252, 253, 254, 518, 189, 190, 20, 191, 192, 193, 194, 195, 45, 46, 196, 197, 198, 199, 200, 201, 47, 48, 49, 519, 520, 521, 522, 214, 215, 216, 550, 551, 552, 553, 554, 555, 556, 557, 558, 559, 560, 586, 587, 588, 589, 590, 591, 592] (by decide +kernel) (by decide +kernel)
set_option maxRecDepth 20000 in
theorem gL_law_X5_poison : GoodIn wsL_law (wsV RL 82 RX5 yX5_poison wsX5_poison) := goodIn_app (goodIn_of _ (by decide +kernel)) ggL_law_X5_poison
set_option maxRecDepth 20000 in
theorem ggL_law_X6_poison : GoodIn wsL_law wsX6_poison := goodIn_r _ [526, 259, 79, 353, 354, 5, 355, 262, 263, 264, 265, 266, 267, 268, 273, 274, 275, 276, 95, 76, 260, 73, 261, 75, 277, 278, 279, 280, 281, 282, 283, 527, 528, 529, 530, 96, 80, 82, 103, 104, 105, 106, 81, 107, 108, 109, 110, 101, 74, 102, 111, 112, 113, 114, 561, 562, 563, 564, 565, 566, 567, 568, 569, 570, 571, 572, 573, 574, 575, 576, 577, 578, 579, 580, 581, 582, 583, 584, 585] (by decide +kernel) (by decide +kernel)
set_option maxRecDepth 20000 in
theorem gL_law_X6_poison : GoodIn wsL_law (wsV RL 85 RX6 yX6_poison wsX6_poison) := goodIn_app (goodIn_of _ (by decide +kernel)) ggL_law_X6_poison
set_option maxRecDepth 20000 in
theorem ggL_law_X5_count : GoodIn wsL_law wsX5_count := goodIn_r _ [534, 15, 16, 127, 126, 153, 29, 141, 142, 143, 14, 144, 136, 535, 536, 537, 28, 538, 171, 539, 540, 541, 542, 543, 544, 545, 550, 551, 552, 553, 554, 555, 556, 557, 558, 559, 560, 586, 587, 602] (by decide +kernel) (by decide +kernel)
set_option maxRecDepth 20000 in
theorem gL_law_X5_count : GoodIn wsL_law (wsV RL 86 RX5 yX5_count wsX5_count) := goodIn_app (goodIn_of _ (by decide +kernel)) ggL_law_X5_count
set_option maxRecDepth 20000 in
theorem ggL_law_X6_count : GoodIn wsL_law wsX6_count := goodIn_r _ [549, 259, 95, 261, 260, 288, 78, 273, 274, 275, 5, 276, 76, 73, 75, 277, 278, 279, 280, 281, 282, 283, 79, 561, 562, 563, 564, 565, 566, 567, 568, 569, 570, 571, 572, 573, 574, 575, 576, 577, 578, 579, 580, 581, 582, 583, 584, 585] (by decide +kernel) (by decide +kernel)
set_option maxRecDepth 20000 in
theorem gL_law_X6_count : GoodIn wsL_law (wsV RL 89 RX6 yX6_count wsX6_count) := goodIn_app (goodIn_of _ (by decide +kernel)) ggL_law_X6_count
