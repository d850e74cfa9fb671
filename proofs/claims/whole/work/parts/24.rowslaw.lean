set_option maxRecDepth 20000 in
theorem ggL_law_X5_init : GoodIn wsL_law wsX5_init := goodIn_r _ [9, 10, 11, 12, 13, 14, 15, 16, 17, 18, 19, 20, 21, 22, 23, 24, 25, 26, 27, 28, 29, 30, 31, 32, 33, 34, 35, 36, 37, 38, 39, 40, 41, 42, 43, 44, 45, 46, 47, 48, 49, 50, 51, 6, 52, 53, 54, 55, 56, 57, 58, 59, 60, 61, 62, 63, 64, 65, 66, 2, 67, 68, 69, 70, 71, 72, 73, 74, 75, 76, 77, 78, 79, 80, 81, 82, 83, 84, 85, 86, 87, 88, 89, 90, 91, 92, 93, 94, 95, 96, 97, 98, 99, 100, 101, 102, 103, 104, 105, 106, 107, 108, 109, 110, 111, 112, 113, 114, 115, 116, 117, 118, 119, 120, 121, 122, 123, 124, 125, 126, 127, 128, 129, 130, 131, 132, 133, 134, 135, 136, 137, 138, 139, 140, 141, 142, 143, 144, 145, 146, 653, 626, 627, 628, 629, 630, 654, 655, 656, 657, 658, 659, 660, 661, 662, 663, 664, 665, 666, 667, 668, 669] (by decide +kernel) (by decide +kernel)
set_option maxRecDepth 20000 in
theorem gL_law_X5_init : GoodIn wsL_law (wsX5_init) := ggL_law_X5_init
set_option maxRecDepth 20000 in
theorem ggL_law_X6_init : GoodIn wsL_law wsX6_init := goodIn_r _ [149, 150, 11, 12, 47, 151, 152, 153, 154, 6, 155, 156, 157, 158, 159, 160, 161, 162, 163, 164, 165, 166, 5, 167, 168, 169, 170, 171, 631, 632, 633, 634, 635, 636, 637, 638, 639, 640, 641, 642, 643, 644, 645, 646, 647, 648, 649, 650, 651, 652] (by decide +kernel) (by decide +kernel)
set_option maxRecDepth 20000 in
theorem gL_law_X6_init : GoodIn wsL_law (wsX6_init) := ggL_law_X6_init
set_option maxRecDepth 20000 in
theorem ggL_law_L_start : GoodIn wsL_law wsL_start := goodIn_ca (goodIn_r _ [175, 176, 177, 178, 179, 2, 180, 181, 182, 64, 65, 66, 67, 20, 24, 28, 68, 69, 70, 19, 71, 72, 73, 48, 74, 75, 76, 77, 78, 79, 80, 23, 81, 82, 83, 84, 54, 85, 86, 87, 88, 27, 89, 90, 58, 59, 91, 92, 93, 94, 95, 96, 97, 98, 99, 100, 101, 102, 103, 104, 105, 106, 107, 108, 109, 52, 110, 111, 112, 113, 114, 115, 116, 117, 118, 119, 120, 121, 122, 123, 124, 125, 126, 127, 128, 129, 130, 131, 132, 133, 134, 135, 136, 137, 138, 139, 140, 141, 142, 143, 144, 145, 146, 53, 626, 627, 628, 629, 630, 654, 655, 656, 657, 658, 659, 660, 661, 662, 663, 664, 665] (by decide +kernel) (by decide +kernel)) (goodIn_sub (fun _ h => List.mem_append_left _ (List.mem_append_left _ (List.mem_append_right _ h))) (by decide +kernel))
set_option maxRecDepth 20000 in
theorem gL_law_L_start : GoodIn wsL_law (va_wsS RL 55 yL_start wsL_start) := goodIn_app (goodIn_of _ (by decide +kernel)) ggL_law_L_start
set_option maxRecDepth 20000 in
theorem ggL_law_X6_start : GoodIn wsL_law wsX6_start := goodIn_r _ [186, 152, 153, 154, 187, 188, 5, 189, 190, 191, 192, 193, 194, 164, 165, 166, 167, 168, 169, 170, 171, 158, 159, 160, 195, 196, 197, 198, 199, 200, 201, 155, 156, 202, 203, 204, 205, 206, 207, 208, 209, 210, 211, 212, 213, 214, 215, 216, 157, 631, 632, 633, 634, 635, 636, 637, 638, 639, 640, 641, 642, 643, 644, 645, 646, 647, 648, 649, 650, 651, 652] (by decide +kernel) (by decide +kernel)
set_option maxRecDepth 20000 in
theorem gL_law_X6_start : GoodIn wsL_law (wsV RL 60 RX6 yX6_start wsX6_start) := goodIn_app (goodIn_of _ (by decide +kernel)) ggL_law_X6_start
set_option maxRecDepth 20000 in
theorem ggL_law_X6_thrown : GoodIn wsL_law wsX6_thrown := goodIn_r _ [220, 194, 631, 632, 633, 634, 635, 636, 637, 638, 639, 640, 641, 642, 643, 644, 645, 646, 647, 648, 649, 650, 651, 652] (by decide +kernel) (by decide +kernel)
set_option maxRecDepth 20000 in
theorem gL_law_X6_thrown : GoodIn wsL_law (wsV RL 61 RX6 yX6_thrown wsX6_thrown) := goodIn_app (goodIn_of _ (by decide +kernel)) ggL_law_X6_thrown
set_option maxRecDepth 20000 in
theorem ggL_law_L_setWeight : GoodIn wsL_law wsL_setWeight := goodIn_ca (goodIn_ca (goodIn_r _ [223, 176, 224, 225, 226, 227, 2, 228, 181, 182, 229, 230, 16, 231, 232, 233, 15, 234, 43, 235, 236, 237, 238, 239, 240, 241, 242, 626, 627, 628, 629, 630, 653] (by decide +kernel) (by decide +kernel)) (goodIn_sub (fun _ h => List.mem_append_left _ (List.mem_append_left _ (List.mem_append_right _ h))) (by decide +kernel))) (goodIn_sub (fun _ h => List.mem_append_left _ (List.mem_append_right _ h)) (by decide +kernel))
set_option maxRecDepth 20000 in
theorem gL_law_L_setWeight : GoodIn wsL_law (va_wsS RL 65 yL_setWeight wsL_setWeight) := goodIn_app (goodIn_of _ (by decide +kernel)) ggL_law_L_setWeight
set_option maxRecDepth 20000 in
theorem ggL_law_X6_setWeight : GoodIn wsL_law wsX6_setWeight := goodIn_r _ [246, 151, 187, 188, 5, 189, 190, 191, 192, 193, 194, 631, 632, 633, 634, 635, 636, 637, 638, 639, 640, 641, 642, 643, 644, 645, 646, 647, 648, 649, 650, 651, 652] (by decide +kernel) (by decide +kernel)
set_option maxRecDepth 20000 in
theorem gL_law_X6_setWeight : GoodIn wsL_law (wsV RL 67 RX6 yX6_setWeight wsX6_setWeight) := goodIn_app (goodIn_of _ (by decide +kernel)) ggL_law_X6_setWeight
set_option maxRecDepth 20000 in
theorem ggL_law_L_setBlock : GoodIn wsL_law wsL_setBlock := goodIn_ca (goodIn_r _ [249, 250, 251, 252, 253, 2, 254, 255, 256, 20, 257, 258, 259, 19, 260, 72, 261, 262, 263, 264, 265, 99, 100, 101, 96, 97, 266, 267, 268, 269, 48, 118, 119, 95, 270, 271, 272, 273, 626, 627, 628, 629, 630, 654, 655, 656] (by decide +kernel) (by decide +kernel)) (goodIn_sub (fun _ h => List.mem_append_right _ h) (by decide +kernel))
set_option maxRecDepth 20000 in
theorem gL_law_L_setBlock : GoodIn wsL_law (va_wsS RL 68 yL_setBlock wsL_setBlock) := goodIn_app (goodIn_of _ (by decide +kernel)) ggL_law_L_setBlock
set_option maxRecDepth 20000 in
theorem ggL_law_X6_setBlock : GoodIn wsL_law wsX6_setBlock := goodIn_r _ [277, 152, 154, 187, 188, 5, 189, 190, 191, 192, 193, 194, 631, 632, 633, 634, 635, 636, 637, 638, 639, 640, 641, 642, 643, 644, 645, 646, 647, 648, 649, 650, 651, 652] (by decide +kernel) (by decide +kernel)
set_option maxRecDepth 20000 in
theorem gL_law_X6_setBlock : GoodIn wsL_law (wsV RL 70 RX6 yX6_setBlock wsX6_setBlock) := goodIn_app (goodIn_of _ (by decide +kernel)) ggL_law_X6_setBlock
set_option maxRecDepth 20000 in
theorem ggL_law_X5_blocks : GoodIn wsL_law wsX5_blocks := goodIn_r _ [281, 20, 282, 283, 284, 19, 285, 72, 73, 626, 627, 628, 629, 630, 654, 655, 656] (by decide +kernel) (by decide +kernel)
set_option maxRecDepth 20000 in
theorem gL_law_X5_blocks : GoodIn wsL_law (wsV RL 71 RX5 yX5_blocks wsX5_blocks) := goodIn_app (goodIn_of _ (by decide +kernel)) ggL_law_X5_blocks
set_option maxRecDepth 20000 in
theorem ggL_law_X6_blocks : GoodIn wsL_law wsX6_blocks := goodIn_r _ [289, 153, 290, 291, 292, 5, 293, 194, 631, 632, 633, 634, 635, 636, 637, 638, 639, 640, 641, 642, 643, 644, 645, 646, 647, 648, 649, 650, 651, 652] (by decide +kernel) (by decide +kernel)
set_option maxRecDepth 20000 in
theorem gL_law_X6_blocks : GoodIn wsL_law (wsV RL 74 RX6 yX6_blocks wsX6_blocks) := goodIn_app (goodIn_of _ (by decide +kernel)) ggL_law_X6_blocks
set_option maxRecDepth 20000 in
theorem ggL_law_L_blockAt : GoodIn wsL_law wsL_blockAt := goodIn_ca (goodIn_r _ [296, 250, 297, 298, 299, 2, 300, 255, 256, 20, 301, 302, 303, 304, 282, 283, 284, 19, 285, 72, 73, 261, 262, 263, 264, 265, 99, 100, 101, 96, 97, 266, 267, 268, 269, 48, 118, 119, 95, 626, 627, 628, 629, 630, 654, 655, 656] (by decide +kernel) (by decide +kernel)) (goodIn_sub (fun _ h => List.mem_append_right _ h) (by decide +kernel))
set_option maxRecDepth 20000 in
theorem gL_law_L_blockAt : GoodIn wsL_law (va_wsS RL 75 yL_blockAt wsL_blockAt) := goodIn_app (goodIn_of _ (by decide +kernel)) ggL_law_L_blockAt
set_option maxRecDepth 20000 in
theorem ggL_law_X6_blockAt : GoodIn wsL_law wsX6_blockAt := goodIn_r _ [308, 309, 310, 311, 5, 312, 313, 314, 315, 316, 153, 187, 188, 189, 190, 191, 192, 193, 194, 317, 318, 319, 320, 152, 154, 195, 196, 197, 631, 632, 633, 634, 635, 636, 637, 638, 639, 640, 641, 642, 643, 644, 645, 646, 647, 648, 649, 650, 651, 652] (by decide +kernel) (by decide +kernel)
set_option maxRecDepth 20000 in
theorem gL_law_X6_blockAt : GoodIn wsL_law (wsV RL 78 RX6 yX6_blockAt wsX6_blockAt) := goodIn_app (goodIn_of _ (by decide +kernel)) ggL_law_X6_blockAt
set_option maxRecDepth 20000 in
theorem ggL_law_X5_degree : GoodIn wsL_law wsX5_degree := goodIn_r _ [324, 325, 326, 327, 2, 328, 32, 16, 20, 282, 283, 284, 19, 285, 72, 73, 329, 330, 331, 31, 332, 333, 334, 335, 336, 337, 338, 339, 63, 340, 236, 237, 15, 238, 43, 341, 342, 343, 344, 345, 346, 347, 348, 349, 350, 351, 352, 353, 354, 355, 356, 357, 358, 96, 97, 359, 360, 361, 362, 626, 627, 628, 629, 630, 654, 655, 656, 666, 667, 668, 669, 653] (by decide +kernel) (by decide +kernel)
set_option maxRecDepth 20000 in
theorem gL_law_X5_degree : GoodIn wsL_law (wsV RL 79 RX5 yX5_degree wsX5_degree) := goodIn_app (goodIn_of _ (by decide +kernel)) ggL_law_X5_degree
set_option maxRecDepth 20000 in
theorem ggL_law_X6_degree : GoodIn wsL_law wsX6_degree := goodIn_r _ [366, 367, 368, 369, 370, 5, 371, 372, 151, 153, 163, 373, 374, 375, 376, 377, 378, 290, 291, 292, 293, 194, 631, 632, 633, 634, 635, 636, 637, 638, 639, 640, 641, 642, 643, 644, 645, 646, 647, 648, 649, 650, 651, 652] (by decide +kernel) (by decide +kernel)
set_option maxRecDepth 20000 in
theorem gL_law_X6_degree : GoodIn wsL_law (wsV RL 82 RX6 yX6_degree wsX6_degree) := goodIn_app (goodIn_of _ (by decide +kernel)) ggL_law_X6_degree
set_option maxRecDepth 20000 in
theorem ggL_law_L_blockOf : GoodIn wsL_law wsL_blockOf := goodIn_ca (goodIn_r _ [381, 250, 382, 383, 384, 2, 385, 255, 256, 325, 326, 327, 328, 32, 16, 20, 282, 283, 284, 19, 285, 72, 73, 329, 330, 331, 31, 332, 333, 334, 335, 336, 337, 338, 339, 63, 340, 236, 237, 15, 238, 43, 341, 342, 343, 344, 345, 346, 347, 348, 349, 350, 351, 352, 353, 354, 355, 356, 357, 358, 96, 97, 359, 360, 361, 362, 386, 387, 388, 389, 626, 627, 628, 629, 630, 654, 655, 656, 666, 667, 668, 669, 653] (by decide +kernel) (by decide +kernel)) (goodIn_sub (fun _ h => List.mem_append_right _ h) (by decide +kernel))
set_option maxRecDepth 20000 in
theorem gL_law_L_blockOf : GoodIn wsL_law (va_wsS RL 83 yL_blockOf wsL_blockOf) := goodIn_app (goodIn_of _ (by decide +kernel)) ggL_law_L_blockOf
set_option maxRecDepth 20000 in
theorem ggL_law_X6_blockOf : GoodIn wsL_law wsX6_blockOf := goodIn_r _ [393, 367, 163, 368, 369, 370, 5, 371, 372, 151, 153, 373, 374, 375, 376, 377, 378, 187, 188, 189, 190, 191, 192, 193, 194, 631, 632, 633, 634, 635, 636, 637, 638, 639, 640, 641, 642, 643, 644, 645, 646, 647, 648, 649, 650, 651, 652] (by decide +kernel) (by decide +kernel)
set_option maxRecDepth 20000 in
theorem gL_law_X6_blockOf : GoodIn wsL_law (wsV RL 85 RX6 yX6_blockOf wsX6_blockOf) := goodIn_app (goodIn_of _ (by decide +kernel)) ggL_law_X6_blockOf
set_option maxRecDepth 20000 in
theorem ggL_law_X5_valueOf : GoodIn wsL_law wsX5_valueOf := goodIn_r _ [397, 20, 325, 326, 327, 2, 328, 32, 16, 282, 283, 284, 19, 285, 72, 73, 329, 330, 331, 31, 332, 333, 334, 335, 336, 337, 338, 339, 63, 340, 236, 237, 15, 238, 43, 341, 342, 343, 344, 345, 346, 347, 348, 349, 350, 351, 352, 353, 354, 355, 356, 357, 358, 96, 97, 398, 399, 400, 401, 402, 403, 404, 405, 266, 267, 268, 269, 48, 118, 119, 95, 406, 407, 262, 263, 264, 265, 99, 100, 101, 626, 627, 628, 629, 630, 654, 655, 656, 666, 667, 668, 669, 653] (by decide +kernel) (by decide +kernel)
set_option maxRecDepth 20000 in
theorem gL_law_X5_valueOf : GoodIn wsL_law (wsV RL 86 RX5 yX5_valueOf wsX5_valueOf) := goodIn_app (goodIn_of _ (by decide +kernel)) ggL_law_X5_valueOf
set_option maxRecDepth 20000 in
theorem ggL_law_X6_valueOf : GoodIn wsL_law wsX6_valueOf := goodIn_r _ [411, 412, 413, 414, 5, 415, 367, 163, 368, 369, 370, 371, 372, 151, 153, 373, 374, 375, 376, 377, 378, 317, 318, 319, 320, 152, 154, 195, 196, 197, 290, 291, 292, 293, 194, 631, 632, 633, 634, 635, 636, 637, 638, 639, 640, 641, 642, 643, 644, 645, 646, 647, 648, 649, 650, 651, 652] (by decide +kernel) (by decide +kernel)
set_option maxRecDepth 20000 in
theorem gL_law_X6_valueOf : GoodIn wsL_law (wsV RL 89 RX6 yX6_valueOf wsX6_valueOf) := goodIn_app (goodIn_of _ (by decide +kernel)) ggL_law_X6_valueOf
set_option maxRecDepth 20000 in
theorem ggL_law_L_receive : GoodIn wsL_law wsL_receive := goodIn_ca (goodIn_r _ [418, 224, 419, 420, 421, 2, 422, 229, 230, 325, 326, 327, 328, 32, 16, 20, 282, 283, 284, 19, 285, 72, 73, 329, 330, 331, 31, 332, 333, 334, 335, 336, 337, 338, 339, 63, 340, 236, 237, 15, 238, 43, 341, 342, 343, 344, 345, 346, 347, 348, 349, 350, 351, 352, 353, 354, 355, 356, 357, 358, 96, 97, 398, 399, 400, 401, 423, 424, 425, 426, 24, 28, 427, 428, 429, 23, 430, 82, 431, 432, 433, 434, 435, 436, 437, 27, 438, 114, 115, 116, 117, 58, 118, 119, 95, 129, 130, 131, 132, 59, 439, 440, 441, 442, 102, 103, 104, 105, 106, 107, 108, 109, 52, 110, 111, 112, 113, 90, 120, 121, 122, 123, 124, 125, 126, 127, 128, 133, 134, 135, 136, 83, 137, 138, 139, 140, 84, 141, 142, 143, 144, 145, 146, 53, 54, 626, 627, 628, 629, 630, 654, 655, 656, 666, 667, 668, 669, 653, 657, 658, 659, 660, 661, 662, 663, 664, 665] (by decide +kernel) (by decide +kernel)) (goodIn_sub (fun _ h => List.mem_append_left _ (List.mem_append_right _ h)) (by decide +kernel))
set_option maxRecDepth 20000 in
theorem gL_law_L_receive : GoodIn wsL_law (va_wsS RL 90 yL_receive wsL_receive) := goodIn_app (goodIn_of _ (by decide +kernel)) ggL_law_L_receive
set_option maxRecDepth 20000 in
theorem ggL_law_X6_receive : GoodIn wsL_law wsX6_receive := goodIn_r _ [446, 447, 448, 449, 5, 450, 169, 206, 207, 451, 452, 453, 454, 367, 163, 368, 369, 370, 371, 372, 151, 153, 373, 374, 375, 376, 377, 378, 202, 203, 204, 205, 159, 160, 190, 191, 192, 193, 194, 455, 456, 457, 458, 198, 199, 200, 201, 155, 168, 156, 208, 209, 210, 211, 212, 213, 214, 215, 170, 171, 216, 157, 158, 631, 632, 633, 634, 635, 636, 637, 638, 639, 640, 641, 642, 643, 644, 645, 646, 647, 648, 649, 650, 651, 652] (by decide +kernel) (by decide +kernel)
set_option maxRecDepth 20000 in
theorem gL_law_X6_receive : GoodIn wsL_law (wsV RL 92 RX6 yX6_receive wsX6_receive) := goodIn_app (goodIn_of _ (by decide +kernel)) ggL_law_X6_receive
set_option maxRecDepth 20000 in
theorem ggL_law_L_receiveAll : GoodIn wsL_law wsL_receiveAll := goodIn_ca (goodIn_r _ [461, 176, 462, 463, 464, 2, 465, 181, 182, 20, 325, 326, 327, 328, 32, 16, 282, 283, 284, 19, 285, 72, 73, 329, 330, 331, 31, 332, 333, 334, 335, 336, 337, 338, 339, 63, 340, 236, 237, 15, 238, 43, 341, 342, 343, 344, 345, 346, 347, 348, 349, 350, 351, 352, 353, 354, 355, 356, 357, 358, 96, 97, 398, 399, 400, 401, 402, 403, 404, 405, 266, 267, 268, 269, 48, 118, 119, 95, 406, 407, 262, 263, 264, 265, 99, 100, 101, 423, 424, 425, 426, 24, 28, 427, 428, 429, 23, 430, 82, 431, 432, 433, 434, 435, 436, 437, 27, 438, 114, 115, 116, 117, 58, 129, 130, 131, 132, 59, 439, 440, 441, 442, 102, 103, 104, 105, 106, 107, 108, 109, 52, 110, 111, 112, 113, 90, 120, 121, 122, 123, 124, 125, 126, 127, 128, 133, 134, 135, 136, 83, 137, 138, 139, 140, 84, 141, 142, 143, 144, 145, 146, 53, 54, 626, 627, 628, 629, 630, 654, 655, 656, 666, 667, 668, 669, 653, 657, 658, 659, 660, 661, 662, 663, 664, 665] (by decide +kernel) (by decide +kernel)) (goodIn_sub (fun _ h => List.mem_append_left _ (List.mem_append_left _ (List.mem_append_right _ h))) (by decide +kernel))
set_option maxRecDepth 20000 in
theorem gL_law_L_receiveAll : GoodIn wsL_law (va_wsS RL 93 yL_receiveAll wsL_receiveAll) := goodIn_app (goodIn_of _ (by decide +kernel)) ggL_law_L_receiveAll
set_option maxRecDepth 20000 in
theorem ggL_law_X6_receiveAll : GoodIn wsL_law wsX6_receiveAll := goodIn_r _ [469, 187, 188, 5, 189, 190, 191, 192, 193, 194, 412, 413, 414, 415, 367, 163, 368, 369, 370, 371, 372, 151, 153, 373, 374, 375, 376, 377, 378, 317, 318, 319, 320, 152, 154, 195, 196, 197, 447, 448, 449, 450, 169, 206, 207, 451, 452, 453, 454, 202, 203, 204, 205, 159, 160, 455, 456, 457, 458, 198, 199, 200, 201, 155, 168, 156, 208, 209, 210, 211, 212, 213, 214, 215, 170, 171, 216, 157, 158, 631, 632, 633, 634, 635, 636, 637, 638, 639, 640, 641, 642, 643, 644, 645, 646, 647, 648, 649, 650, 651, 652] (by decide +kernel) (by decide +kernel)
set_option maxRecDepth 20000 in
theorem gL_law_X6_receiveAll : GoodIn wsL_law (wsV RL 95 RX6 yX6_receiveAll wsX6_receiveAll) := goodIn_app (goodIn_of _ (by decide +kernel)) ggL_law_X6_receiveAll
set_option maxRecDepth 20000 in
theorem ggL_law_X5_equations : GoodIn wsL_law wsX5_equations := goodIn_r _ [473, 24, 427, 428, 429, 23, 430, 82, 626, 627, 628, 629, 630, 657, 658, 659, 660, 661, 662] (by decide +kernel) (by decide +kernel)
set_option maxRecDepth 20000 in
theorem gL_law_X5_equations : GoodIn wsL_law (wsV RL 96 RX5 yX5_equations wsX5_equations) := goodIn_app (goodIn_of _ (by decide +kernel)) ggL_law_X5_equations
set_option maxRecDepth 20000 in
theorem ggL_law_X6_equations : GoodIn wsL_law wsX6_equations := goodIn_r _ [477, 168, 290, 291, 292, 5, 293, 194, 631, 632, 633, 634, 635, 636, 637, 638, 639, 640, 641, 642, 643, 644, 645, 646, 647, 648, 649, 650, 651, 652] (by decide +kernel) (by decide +kernel)
set_option maxRecDepth 20000 in
theorem gL_law_X6_equations : GoodIn wsL_law (wsV RL 99 RX6 yX6_equations wsX6_equations) := goodIn_app (goodIn_of _ (by decide +kernel)) ggL_law_X6_equations
set_option maxRecDepth 20000 in
theorem ggL_law_X5_rank : GoodIn wsL_law wsX5_rank := goodIn_r _ [481, 28, 482, 483, 484, 27, 485, 90, 626, 627, 628, 629, 630, 663, 664, 665] (by decide +kernel) (by decide +kernel)
set_option maxRecDepth 20000 in
theorem gL_law_X5_rank : GoodIn wsL_law (wsV RL 100 RX5 yX5_rank wsX5_rank) := goodIn_app (goodIn_of _ (by decide +kernel)) ggL_law_X5_rank
set_option maxRecDepth 20000 in
theorem ggL_law_X6_rank : GoodIn wsL_law wsX6_rank := goodIn_r _ [489, 490, 491, 492, 5, 493, 153, 159, 290, 291, 292, 293, 194, 631, 632, 633, 634, 635, 636, 637, 638, 639, 640, 641, 642, 643, 644, 645, 646, 647, 648, 649, 650, 651, 652] (by decide +kernel) (by decide +kernel)
set_option maxRecDepth 20000 in
theorem gL_law_X6_rank : GoodIn wsL_law (wsV RL 103 RX6 yX6_rank wsX6_rank) := goodIn_app (goodIn_of _ (by decide +kernel)) ggL_law_X6_rank
set_option maxRecDepth 20000 in
theorem ggL_law_X5_peeled : GoodIn wsL_law wsX5_peeled := goodIn_r _ [497, 24, 498, 499, 500, 23, 501, 83, 626, 627, 628, 629, 630, 657, 658, 659, 660, 661, 662] (by decide +kernel) (by decide +kernel)
set_option maxRecDepth 20000 in
theorem gL_law_X5_peeled : GoodIn wsL_law (wsV RL 104 RX5 yX5_peeled wsX5_peeled) := goodIn_app (goodIn_of _ (by decide +kernel)) ggL_law_X5_peeled
set_option maxRecDepth 20000 in
theorem ggL_law_X6_peeled : GoodIn wsL_law wsX6_peeled := goodIn_r _ [505, 170, 290, 291, 292, 5, 293, 194, 631, 632, 633, 634, 635, 636, 637, 638, 639, 640, 641, 642, 643, 644, 645, 646, 647, 648, 649, 650, 651, 652] (by decide +kernel) (by decide +kernel)
set_option maxRecDepth 20000 in
theorem gL_law_X6_peeled : GoodIn wsL_law (wsV RL 107 RX6 yX6_peeled wsX6_peeled) := goodIn_app (goodIn_of _ (by decide +kernel)) ggL_law_X6_peeled
set_option maxRecDepth 20000 in
theorem ggL_law_L_peeledAt : GoodIn wsL_law wsL_peeledAt := goodIn_ca (goodIn_r _ [508, 250, 509, 510, 511, 2, 512, 255, 256, 24, 498, 499, 500, 23, 501, 83, 513, 514, 515, 516, 53, 626, 627, 628, 629, 630, 657, 658, 659, 660, 661, 662] (by decide +kernel) (by decide +kernel)) (goodIn_sub (fun _ h => List.mem_append_right _ h) (by decide +kernel))
set_option maxRecDepth 20000 in
theorem gL_law_L_peeledAt : GoodIn wsL_law (va_wsS RL 108 yL_peeledAt wsL_peeledAt) := goodIn_app (goodIn_of _ (by decide +kernel)) ggL_law_L_peeledAt
set_option maxRecDepth 20000 in
theorem ggL_law_X6_peeledAt : GoodIn wsL_law wsX6_peeledAt := goodIn_r _ [520, 170, 157, 187, 188, 5, 189, 190, 191, 192, 193, 194, 631, 632, 633, 634, 635, 636, 637, 638, 639, 640, 641, 642, 643, 644, 645, 646, 647, 648, 649, 650, 651, 652] (by decide +kernel) (by decide +kernel)
set_option maxRecDepth 20000 in
theorem gL_law_X6_peeledAt : GoodIn wsL_law (wsV RL 110 RX6 yX6_peeledAt wsX6_peeledAt) := goodIn_app (goodIn_of _ (by decide +kernel)) ggL_law_X6_peeledAt
set_option maxRecDepth 20000 in
theorem ggL_law_L_peeledBy : GoodIn wsL_law wsL_peeledBy := goodIn_ca (goodIn_r _ [523, 250, 524, 525, 526, 2, 527, 255, 256, 24, 301, 302, 303, 304, 20, 282, 283, 284, 19, 285, 72, 73, 528, 529, 530, 23, 531, 54, 626, 627, 628, 629, 630, 654, 655, 656, 657, 658, 659, 660, 661, 662] (by decide +kernel) (by decide +kernel)) (goodIn_sub (fun _ h => List.mem_append_right _ h) (by decide +kernel))
set_option maxRecDepth 20000 in
theorem gL_law_L_peeledBy : GoodIn wsL_law (va_wsS RL 111 yL_peeledBy wsL_peeledBy) := goodIn_app (goodIn_of _ (by decide +kernel)) ggL_law_L_peeledBy
set_option maxRecDepth 20000 in
theorem ggL_law_X6_peeledBy : GoodIn wsL_law wsX6_peeledBy := goodIn_r _ [535, 158, 309, 310, 311, 5, 312, 313, 314, 315, 316, 153, 187, 188, 189, 190, 191, 192, 193, 194, 631, 632, 633, 634, 635, 636, 637, 638, 639, 640, 641, 642, 643, 644, 645, 646, 647, 648, 649, 650, 651, 652] (by decide +kernel) (by decide +kernel)
set_option maxRecDepth 20000 in
theorem gL_law_X6_peeledBy : GoodIn wsL_law (wsV RL 113 RX6 yX6_peeledBy wsX6_peeledBy) := goodIn_app (goodIn_of _ (by decide +kernel)) ggL_law_X6_peeledBy
set_option maxRecDepth 20000 in
theorem ggL_law_X5_determined : GoodIn wsL_law wsX5_determined := goodIn_r _ [539, 28, 20, 282, 283, 284, 19, 285, 72, 73, 540, 541, 542, 27, 543, 544, 545, 546, 547, 58, 96, 2, 97, 626, 627, 628, 629, 630, 654, 655, 656, 663, 664, 665] (by decide +kernel) (by decide +kernel)
set_option maxRecDepth 20000 in
theorem gL_law_X5_determined : GoodIn wsL_law (wsV RL 114 RX5 yX5_determined wsX5_determined) := goodIn_app (goodIn_of _ (by decide +kernel)) ggL_law_X5_determined
set_option maxRecDepth 20000 in
theorem ggL_law_X6_determined : GoodIn wsL_law wsX6_determined := goodIn_r _ [551, 552, 553, 554, 5, 555, 153, 159, 290, 291, 292, 293, 194, 631, 632, 633, 634, 635, 636, 637, 638, 639, 640, 641, 642, 643, 644, 645, 646, 647, 648, 649, 650, 651, 652] (by decide +kernel) (by decide +kernel)
set_option maxRecDepth 20000 in
theorem gL_law_X6_determined : GoodIn wsL_law (wsV RL 117 RX6 yX6_determined wsX6_determined) := goodIn_app (goodIn_of _ (by decide +kernel)) ggL_law_X6_determined
set_option maxRecDepth 20000 in
theorem ggL_law_L_isDetermined : GoodIn wsL_law wsL_isDetermined := goodIn_ca (goodIn_r _ [558, 250, 559, 560, 561, 2, 562, 255, 256, 28, 301, 302, 303, 304, 20, 282, 283, 284, 19, 285, 72, 73, 563, 564, 565, 27, 566, 544, 545, 546, 547, 58, 96, 97, 626, 627, 628, 629, 630, 654, 655, 656, 663, 664, 665] (by decide +kernel) (by decide +kernel)) (goodIn_sub (fun _ h => List.mem_append_right _ h) (by decide +kernel))
set_option maxRecDepth 20000 in
theorem gL_law_L_isDetermined : GoodIn wsL_law (va_wsS RL 118 yL_isDetermined wsL_isDetermined) := goodIn_app (goodIn_of _ (by decide +kernel)) ggL_law_L_isDetermined
set_option maxRecDepth 20000 in
theorem ggL_law_X6_isDetermined : GoodIn wsL_law wsX6_isDetermined := goodIn_r _ [570, 309, 310, 311, 5, 312, 313, 314, 315, 316, 153, 187, 188, 189, 190, 191, 192, 193, 194, 571, 572, 573, 574, 159, 631, 632, 633, 634, 635, 636, 637, 638, 639, 640, 641, 642, 643, 644, 645, 646, 647, 648, 649, 650, 651, 652] (by decide +kernel) (by decide +kernel)
set_option maxRecDepth 20000 in
theorem gL_law_X6_isDetermined : GoodIn wsL_law (wsV RL 120 RX6 yX6_isDetermined wsX6_isDetermined) := goodIn_app (goodIn_of _ (by decide +kernel)) ggL_law_X6_isDetermined
set_option maxRecDepth 20000 in
theorem ggL_law_L_recovered : GoodIn wsL_law wsL_recovered := goodIn_ca (goodIn_ca (goodIn_r _ [577, 250, 224, 578, 579, 580, 2, 581, 255, 256, 229, 230, 28, 301, 302, 303, 304, 20, 282, 283, 284, 19, 285, 72, 73, 563, 564, 565, 27, 566, 544, 545, 546, 547, 58, 96, 97, 95, 582, 130, 131, 132, 59, 118, 119, 626, 627, 628, 629, 630, 654, 655, 656, 663, 664, 665] (by decide +kernel) (by decide +kernel)) (goodIn_sub (fun _ h => List.mem_append_right _ h) (by decide +kernel))) (goodIn_sub (fun _ h => List.mem_append_left _ (List.mem_append_right _ h)) (by decide +kernel))
set_option maxRecDepth 20000 in
theorem gL_law_L_recovered : GoodIn wsL_law (va_wsS RL 121 yL_recovered wsL_recovered) := goodIn_app (goodIn_of _ (by decide +kernel)) ggL_law_L_recovered
set_option maxRecDepth 20000 in
theorem ggL_law_X6_recovered : GoodIn wsL_law wsX6_recovered := goodIn_r _ [586, 160, 313, 314, 315, 5, 316, 153, 187, 188, 189, 571, 572, 573, 574, 159, 190, 191, 192, 193, 194, 631, 632, 633, 634, 635, 636, 637, 638, 639, 640, 641, 642, 643, 644, 645, 646, 647, 648, 649, 650, 651, 652] (by decide +kernel) (by decide +kernel)
set_option maxRecDepth 20000 in
theorem gL_law_X6_recovered : GoodIn wsL_law (wsV RL 123 RX6 yX6_recovered wsX6_recovered) := goodIn_app (goodIn_of _ (by decide +kernel)) ggL_law_X6_recovered
set_option maxRecDepth 20000 in
theorem ggL_law_X5_wouldHelp : GoodIn wsL_law wsX5_wouldHelp := goodIn_r _ [590, 28, 325, 326, 327, 2, 328, 32, 16, 20, 282, 283, 284, 19, 285, 72, 73, 329, 330, 331, 31, 332, 333, 334, 335, 336, 337, 338, 339, 63, 340, 236, 237, 15, 238, 43, 341, 342, 343, 344, 345, 346, 347, 348, 349, 350, 351, 352, 353, 354, 355, 356, 357, 358, 96, 97, 398, 399, 400, 401, 591, 115, 116, 27, 117, 58, 118, 119, 95, 626, 627, 628, 629, 630, 654, 655, 656, 666, 667, 668, 669, 653, 663, 664, 665] (by decide +kernel) (by decide +kernel)
set_option maxRecDepth 20000 in
theorem gL_law_X5_wouldHelp : GoodIn wsL_law (wsV RL 124 RX5 yX5_wouldHelp wsX5_wouldHelp) := goodIn_app (goodIn_of _ (by decide +kernel)) ggL_law_X5_wouldHelp
set_option maxRecDepth 20000 in
theorem ggL_law_X6_wouldHelp : GoodIn wsL_law wsX6_wouldHelp := goodIn_r _ [595, 194, 596, 597, 598, 5, 599, 206, 451, 452, 453, 454, 367, 163, 368, 369, 370, 371, 372, 151, 153, 373, 374, 375, 376, 377, 378, 202, 203, 204, 205, 207, 159, 160, 631, 632, 633, 634, 635, 636, 637, 638, 639, 640, 641, 642, 643, 644, 645, 646, 647, 648, 649, 650, 651, 652] (by decide +kernel) (by decide +kernel)
set_option maxRecDepth 20000 in
theorem gL_law_X6_wouldHelp : GoodIn wsL_law (wsV RL 127 RX6 yX6_wouldHelp wsX6_wouldHelp) := goodIn_app (goodIn_of _ (by decide +kernel)) ggL_law_X6_wouldHelp
set_option maxRecDepth 20000 in
theorem ggL_law_X5_wouldDetermine : GoodIn wsL_law wsX5_wouldDetermine := goodIn_r _ [603, 28, 20, 325, 326, 327, 2, 328, 32, 16, 282, 283, 284, 19, 285, 72, 73, 329, 330, 331, 31, 332, 333, 334, 335, 336, 337, 338, 339, 63, 340, 236, 237, 15, 238, 43, 341, 342, 343, 344, 345, 346, 347, 348, 349, 350, 351, 352, 353, 354, 355, 356, 357, 358, 96, 97, 398, 399, 400, 401, 591, 115, 116, 27, 117, 58, 118, 119, 95, 540, 541, 542, 543, 544, 545, 546, 547, 626, 627, 628, 629, 630, 654, 655, 656, 666, 667, 668, 669, 653, 663, 664, 665] (by decide +kernel) (by decide +kernel)
set_option maxRecDepth 20000 in
theorem gL_law_X5_wouldDetermine : GoodIn wsL_law (wsV RL 128 RX5 yX5_wouldDetermine wsX5_wouldDetermine) := goodIn_app (goodIn_of _ (by decide +kernel)) ggL_law_X5_wouldDetermine
set_option maxRecDepth 20000 in
theorem ggL_law_X6_wouldDetermine : GoodIn wsL_law wsX6_wouldDetermine := goodIn_r _ [607, 194, 161, 159, 162, 160, 552, 553, 554, 5, 555, 153, 451, 452, 453, 454, 367, 163, 368, 369, 370, 371, 372, 151, 373, 374, 375, 376, 377, 378, 202, 203, 204, 205, 206, 207, 208, 209, 210, 211, 631, 632, 633, 634, 635, 636, 637, 638, 639, 640, 641, 642, 643, 644, 645, 646, 647, 648, 649, 650, 651, 652] (by decide +kernel) (by decide +kernel)
set_option maxRecDepth 20000 in
theorem gL_law_X6_wouldDetermine : GoodIn wsL_law (wsV RL 131 RX6 yX6_wouldDetermine wsX6_wouldDetermine) := goodIn_app (goodIn_of _ (by decide +kernel)) ggL_law_X6_wouldDetermine
set_option maxRecDepth 20000 in
theorem ggL_law_X5_nextHelpful : GoodIn wsL_law wsX5_nextHelpful := goodIn_r _ [611, 612, 613, 614, 2, 615, 20, 28, 282, 283, 284, 19, 285, 72, 73, 482, 483, 484, 27, 485, 90, 616, 588, 589, 590, 325, 326, 327, 328, 32, 16, 329, 330, 331, 31, 332, 333, 334, 335, 336, 337, 338, 339, 63, 340, 236, 237, 15, 238, 43, 341, 342, 343, 344, 345, 346, 347, 348, 349, 350, 351, 352, 353, 354, 355, 356, 357, 358, 96, 97, 398, 399, 400, 401, 591, 115, 116, 117, 58, 118, 119, 95, 626, 627, 628, 629, 630, 654, 655, 656, 663, 664, 665, 666, 667, 668, 669, 653] (by decide +kernel) (by decide +kernel)
set_option maxRecDepth 20000 in
theorem gL_law_X5_nextHelpful : GoodIn wsL_law (wsV RL 132 RX5 yX5_nextHelpful wsX5_nextHelpful) := goodIn_app (goodIn_of _ (by decide +kernel)) ggL_law_X5_nextHelpful
set_option maxRecDepth 20000 in
theorem ggL_law_X6_nextHelpful : GoodIn wsL_law wsX6_nextHelpful := goodIn_r _ [620, 194, 596, 597, 598, 5, 599, 206, 451, 452, 453, 454, 367, 163, 368, 369, 370, 371, 372, 151, 153, 373, 374, 375, 376, 377, 378, 202, 203, 204, 205, 207, 159, 160, 631, 632, 633, 634, 635, 636, 637, 638, 639, 640, 641, 642, 643, 644, 645, 646, 647, 648, 649, 650, 651, 652] (by decide +kernel) (by decide +kernel)
set_option maxRecDepth 20000 in
theorem gL_law_X6_nextHelpful : GoodIn wsL_law (wsV RL 135 RX6 yX6_nextHelpful wsX6_nextHelpful) := goodIn_app (goodIn_of _ (by decide +kernel)) ggL_law_X6_nextHelpful
set_option maxRecDepth 20000 in
theorem ggL_law_X5_missing : GoodIn wsL_law wsX5_missing := goodIn_r _ [615, 20, 28, 282, 283, 284, 19, 285, 72, 73, 482, 483, 484, 27, 485, 90, 626, 627, 628, 629, 630, 654, 655, 656, 663, 664, 665] (by decide +kernel) (by decide +kernel)
set_option maxRecDepth 20000 in
theorem gL_law_X5_missing : GoodIn wsL_law (wsV RL 136 RX5 yX5_missing wsX5_missing) := goodIn_app (goodIn_of _ (by decide +kernel)) ggL_law_X5_missing
set_option maxRecDepth 20000 in
theorem ggL_law_X6_missing : GoodIn wsL_law wsX6_missing := goodIn_r _ [625, 153, 490, 491, 492, 5, 493, 159, 290, 291, 292, 293, 194, 631, 632, 633, 634, 635, 636, 637, 638, 639, 640, 641, 642, 643, 644, 645, 646, 647, 648, 649, 650, 651, 652] (by decide +kernel) (by decide +kernel)
set_option maxRecDepth 20000 in
theorem gL_law_X6_missing : GoodIn wsL_law (wsV RL 139 RX6 yX6_missing wsX6_missing) := goodIn_app (goodIn_of _ (by decide +kernel)) ggL_law_X6_missing
