set_option maxRecDepth 20000 in
theorem ggL_law_X2_init : GoodIn wsL_law wsX2_init := goodIn_r _ [9, 10, 11, 12, 13, 14, 15, 16, 17, 18, 19, 20, 21, 22, 23, 24, 25, 26, 27, 28, 29, 30, 31, 32, 33, 34, 35, 36, 37, 38, 39, 40, 41, 42, 43, 319, 320, 321, 322, 323, 324, 325, 326, 341, 342, 343, 344, 345] (by decide +kernel) (by decide +kernel)
set_option maxRecDepth 20000 in
theorem gL_law_X2_init : GoodIn wsL_law (wsX2_init) := ggL_law_X2_init
set_option maxRecDepth 20000 in
theorem ggL_law_X3_init : GoodIn wsL_law wsX3_init := goodIn_r _ [46, 47, 11, 12, 15, 48, 49, 50, 51, 32, 52, 53, 54, 55, 56, 57, 327, 328, 329, 330, 331, 332, 333, 334, 335, 336, 337, 338, 339, 340] (by decide +kernel) (by decide +kernel)
set_option maxRecDepth 20000 in
theorem gL_law_X3_init : GoodIn wsL_law (wsX3_init) := ggL_law_X3_init
set_option maxRecDepth 20000 in
theorem ggL_law_X2_hold : GoodIn wsL_law wsX2_hold := goodIn_r _ [61, 18, 14, 13, 21, 22, 62, 63, 2, 64, 25, 26, 27, 28, 11, 12, 29, 30, 31, 32, 33, 34, 35, 36, 37, 38, 39, 40, 41, 42, 43, 319, 320, 321, 322, 323, 324, 325, 326, 341, 342, 343, 344, 345] (by decide +kernel) (by decide +kernel)
set_option maxRecDepth 20000 in
theorem gL_law_X2_hold : GoodIn wsL_law (wsV RL 13 RX2 yX2_hold wsX2_hold) := goodIn_app (goodIn_of _ (by decide +kernel)) ggL_law_X2_hold
set_option maxRecDepth 20000 in
theorem ggL_law_X3_hold : GoodIn wsL_law wsX3_hold := goodIn_r _ [68, 69, 48, 49, 57, 50, 51, 52, 70, 71, 5, 72, 73, 74, 75, 76, 327, 328, 329, 330, 331, 332, 333, 334, 335, 336, 337, 338, 339, 340] (by decide +kernel) (by decide +kernel)
set_option maxRecDepth 20000 in
theorem gL_law_X3_hold : GoodIn wsL_law (wsV RL 17 RX3 yX3_hold wsX3_hold) := goodIn_app (goodIn_of _ (by decide +kernel)) ggL_law_X3_hold
set_option maxRecDepth 20000 in
theorem ggL_law_X2_thread : GoodIn wsL_law wsX2_thread := goodIn_r _ [80, 14, 81, 62, 63, 2, 64, 319, 320, 321, 322, 323, 324, 325, 326, 341, 342, 343, 344, 345] (by decide +kernel) (by decide +kernel)
set_option maxRecDepth 20000 in
theorem gL_law_X2_thread : GoodIn wsL_law (wsV RL 18 RX2 yX2_thread wsX2_thread) := goodIn_app (goodIn_of _ (by decide +kernel)) ggL_law_X2_thread
set_option maxRecDepth 20000 in
theorem ggL_law_X3_thread : GoodIn wsL_law wsX3_thread := goodIn_r _ [85, 48, 70, 71, 5, 72, 86, 87, 88, 89, 50, 327, 328, 329, 330, 331, 332, 333, 334, 335, 336, 337, 338, 339, 340] (by decide +kernel) (by decide +kernel)
set_option maxRecDepth 20000 in
theorem gL_law_X3_thread : GoodIn wsL_law (wsV RL 22 RX3 yX3_thread wsX3_thread) := goodIn_app (goodIn_of _ (by decide +kernel)) ggL_law_X3_thread
set_option maxRecDepth 20000 in
theorem ggL_law_X2_put : GoodIn wsL_law wsX2_put := goodIn_r _ [93, 14, 81, 94, 95, 62, 63, 2, 64, 96, 41, 42, 22, 43, 29, 97, 98, 99, 100, 19, 101, 102, 103, 104, 105, 106, 107, 108, 30, 109, 110, 111, 112, 11, 12, 113, 114, 115, 116, 117, 118, 119, 120, 319, 320, 321, 322, 323, 324, 325, 326, 341, 342, 343, 344, 345, 346, 347, 348] (by decide +kernel) (by decide +kernel)
set_option maxRecDepth 20000 in
theorem gL_law_X2_put : GoodIn wsL_law (wsV RL 25 RX2 yX2_put wsX2_put) := goodIn_app (goodIn_of _ (by decide +kernel)) ggL_law_X2_put
set_option maxRecDepth 20000 in
theorem ggL_law_X3_put : GoodIn wsL_law wsX3_put := goodIn_r _ [124, 49, 48, 125, 54, 55, 52, 70, 71, 5, 72, 86, 87, 88, 89, 50, 126, 127, 128, 129, 130, 131, 132, 133, 51, 134, 135, 136, 137, 327, 328, 329, 330, 331, 332, 333, 334, 335, 336, 337, 338, 339, 340] (by decide +kernel) (by decide +kernel)
set_option maxRecDepth 20000 in
theorem gL_law_X3_put : GoodIn wsL_law (wsV RL 29 RX3 yX3_put wsX3_put) := goodIn_app (goodIn_of _ (by decide +kernel)) ggL_law_X3_put
set_option maxRecDepth 20000 in
theorem ggL_law_X2_move : GoodIn wsL_law wsX2_move := goodIn_r _ [141, 14, 62, 63, 2, 64, 142, 143, 144, 81, 145, 146, 147, 22, 148, 29, 40, 41, 42, 43, 36, 37, 38, 39, 149, 150, 151, 152, 30, 153, 154, 155, 156, 16, 17, 157, 158, 159, 160, 161, 162, 163, 164, 35, 165, 106, 107, 108, 166, 117, 118, 119, 120, 167, 168, 169, 170, 171, 20, 172, 173, 174, 175, 24, 23, 96, 176, 177, 178, 179, 180, 181, 182, 183, 33, 184, 319, 320, 321, 322, 323, 324, 325, 326, 341, 342, 343, 344, 345, 346, 347, 348] (by decide +kernel) (by decide +kernel)
set_option maxRecDepth 20000 in
theorem gL_law_X2_move : GoodIn wsL_law (wsV RL 30 RX2 yX2_move wsX2_move) := goodIn_app (goodIn_of _ (by decide +kernel)) ggL_law_X2_move
set_option maxRecDepth 20000 in
theorem ggL_law_X3_move : GoodIn wsL_law wsX3_move := goodIn_r _ [188, 48, 52, 189, 190, 70, 71, 5, 72, 86, 87, 88, 89, 50, 191, 192, 193, 194, 56, 130, 131, 132, 133, 51, 134, 135, 136, 137, 195, 196, 197, 198, 199, 200, 201, 202, 203, 204, 205, 54, 206, 207, 208, 209, 57, 53, 327, 328, 329, 330, 331, 332, 333, 334, 335, 336, 337, 338, 339, 340] (by decide +kernel) (by decide +kernel)
set_option maxRecDepth 20000 in
theorem gL_law_X3_move : GoodIn wsL_law (wsV RL 34 RX3 yX3_move wsX3_move) := goodIn_app (goodIn_of _ (by decide +kernel)) ggL_law_X3_move
set_option maxRecDepth 20000 in
theorem ggL_law_X2_open : GoodIn wsL_law wsX2_open := goodIn_r _ [213, 214, 215, 216, 2, 217, 14, 171, 62, 63, 64, 142, 143, 144, 81, 145, 146, 147, 22, 148, 29, 40, 41, 42, 43, 36, 37, 38, 39, 149, 150, 151, 152, 30, 153, 154, 155, 156, 16, 17, 167, 168, 169, 170, 20, 172, 173, 174, 175, 24, 23, 96, 176, 177, 178, 179, 35, 180, 181, 182, 183, 33, 184, 218, 219, 220, 221, 319, 320, 321, 322, 323, 324, 325, 326, 341, 342, 343, 344, 345] (by decide +kernel) (by decide +kernel)
set_option maxRecDepth 20000 in
theorem gL_law_X2_open : GoodIn wsL_law (wsV RL 35 RX2 yX2_open wsX2_open) := goodIn_app (goodIn_of _ (by decide +kernel)) ggL_law_X2_open
set_option maxRecDepth 20000 in
theorem ggL_law_X3_open : GoodIn wsL_law wsX3_open := goodIn_r _ [225, 226, 227, 228, 5, 229, 48, 51, 52, 53, 189, 190, 70, 71, 72, 230, 231, 232, 233, 134, 135, 136, 137, 130, 131, 132, 133, 195, 196, 197, 191, 192, 193, 194, 56, 206, 207, 208, 209, 57, 327, 328, 329, 330, 331, 332, 333, 334, 335, 336, 337, 338, 339, 340] (by decide +kernel) (by decide +kernel)
set_option maxRecDepth 20000 in
theorem gL_law_X3_open : GoodIn wsL_law (wsV RL 38 RX3 yX3_open wsX3_open) := goodIn_app (goodIn_of _ (by decide +kernel)) ggL_law_X3_open
set_option maxRecDepth 20000 in
theorem ggL_law_X2_close : GoodIn wsL_law wsX2_close := goodIn_r _ [237, 214, 215, 216, 2, 217, 14, 171, 62, 63, 64, 142, 143, 144, 81, 145, 146, 147, 22, 148, 29, 40, 41, 42, 43, 36, 37, 38, 39, 149, 150, 151, 152, 30, 153, 154, 155, 156, 16, 17, 167, 168, 169, 170, 20, 172, 173, 174, 175, 24, 23, 96, 176, 177, 178, 179, 35, 180, 181, 182, 183, 33, 184, 218, 219, 220, 221, 319, 320, 321, 322, 323, 324, 325, 326, 341, 342, 343, 344, 345] (by decide +kernel) (by decide +kernel)
set_option maxRecDepth 20000 in
theorem gL_law_X2_close : GoodIn wsL_law (wsV RL 39 RX2 yX2_close wsX2_close) := goodIn_app (goodIn_of _ (by decide +kernel)) ggL_law_X2_close
set_option maxRecDepth 20000 in
theorem ggL_law_X3_close : GoodIn wsL_law wsX3_close := goodIn_r _ [241, 226, 227, 228, 5, 229, 48, 51, 52, 53, 189, 190, 70, 71, 72, 230, 231, 232, 233, 134, 135, 136, 137, 130, 131, 132, 133, 195, 196, 197, 191, 192, 193, 194, 56, 206, 207, 208, 209, 57, 327, 328, 329, 330, 331, 332, 333, 334, 335, 336, 337, 338, 339, 340] (by decide +kernel) (by decide +kernel)
set_option maxRecDepth 20000 in
theorem gL_law_X3_close : GoodIn wsL_law (wsV RL 42 RX3 yX3_close wsX3_close) := goodIn_app (goodIn_of _ (by decide +kernel)) ggL_law_X3_close
set_option maxRecDepth 20000 in
theorem ggL_law_X2_back : GoodIn wsL_law wsX2_back := goodIn_r _ [245, 20, 171, 172, 173, 174, 2, 175, 24, 23, 96, 41, 42, 22, 43, 29, 176, 177, 178, 179, 35, 180, 181, 182, 183, 33, 184, 150, 151, 152, 30, 40, 36, 37, 38, 39, 319, 320, 321, 322, 323, 324, 325, 326, 341, 342, 343, 344, 345] (by decide +kernel) (by decide +kernel)
set_option maxRecDepth 20000 in
theorem gL_law_X2_back : GoodIn wsL_law (wsV RL 43 RX2 yX2_back wsX2_back) := goodIn_app (goodIn_of _ (by decide +kernel)) ggL_law_X2_back
set_option maxRecDepth 20000 in
theorem ggL_law_X3_back : GoodIn wsL_law wsX3_back := goodIn_r _ [249, 57, 51, 52, 53, 327, 328, 329, 330, 331, 332, 333, 334, 335, 336, 337, 338, 339, 340] (by decide +kernel) (by decide +kernel)
set_option maxRecDepth 20000 in
theorem gL_law_X3_back : GoodIn wsL_law (wsV RL 47 RX3 yX3_back wsX3_back) := goodIn_app (goodIn_of _ (by decide +kernel)) ggL_law_X3_back
set_option maxRecDepth 20000 in
theorem ggL_law_X2_count : GoodIn wsL_law wsX2_count := goodIn_r _ [253, 17, 16, 18, 19, 20, 319, 320, 321, 322, 323, 324, 325, 326] (by decide +kernel) (by decide +kernel)
set_option maxRecDepth 20000 in
theorem gL_law_X2_count : GoodIn wsL_law (wsV RL 48 RX2 yX2_count wsX2_count) := goodIn_app (goodIn_of _ (by decide +kernel)) ggL_law_X2_count
set_option maxRecDepth 20000 in
theorem ggL_law_X3_count : GoodIn wsL_law wsX3_count := goodIn_r _ [257, 189, 56, 190, 69, 125, 57, 327, 328, 329, 330, 331, 332, 333, 334, 335, 336, 337, 338, 339, 340] (by decide +kernel) (by decide +kernel)
set_option maxRecDepth 20000 in
theorem gL_law_X3_count : GoodIn wsL_law (wsV RL 52 RX3 yX3_count wsX3_count) := goodIn_app (goodIn_of _ (by decide +kernel)) ggL_law_X3_count
set_option maxRecDepth 20000 in
theorem ggL_law_X2_held : GoodIn wsL_law wsX2_held := goodIn_r _ [261, 14, 81, 171, 62, 63, 2, 64, 262, 263, 264, 22, 265, 30, 33, 36, 37, 38, 39, 29, 161, 162, 163, 164, 35, 40, 41, 42, 43, 165, 106, 107, 108, 319, 320, 321, 322, 323, 324, 325, 326, 341, 342, 343, 344, 345] (by decide +kernel) (by decide +kernel)
set_option maxRecDepth 20000 in
theorem gL_law_X2_held : GoodIn wsL_law (wsV RL 53 RX2 yX2_held wsX2_held) := goodIn_app (goodIn_of _ (by decide +kernel)) ggL_law_X2_held
set_option maxRecDepth 20000 in
theorem ggL_law_X3_held : GoodIn wsL_law wsX3_held := goodIn_r _ [269, 70, 71, 5, 72, 86, 87, 88, 89, 48, 50, 130, 131, 132, 133, 51, 134, 135, 136, 137, 198, 199, 200, 201, 52, 327, 328, 329, 330, 331, 332, 333, 334, 335, 336, 337, 338, 339, 340] (by decide +kernel) (by decide +kernel)
set_option maxRecDepth 20000 in
theorem gL_law_X3_held : GoodIn wsL_law (wsV RL 56 RX3 yX3_held wsX3_held) := goodIn_app (goodIn_of _ (by decide +kernel)) ggL_law_X3_held
set_option maxRecDepth 20000 in
theorem ggL_law_X2_sort : GoodIn wsL_law wsX2_sort := goodIn_r _ [273, 14, 274, 62, 63, 2, 64, 105, 106, 107, 22, 108, 30, 275, 37, 38, 39, 29, 276, 162, 163, 164, 35, 40, 41, 42, 43, 165, 319, 320, 321, 322, 323, 324, 325, 326, 346, 347, 348, 341, 342, 343, 344, 345] (by decide +kernel) (by decide +kernel)
set_option maxRecDepth 20000 in
theorem gL_law_X2_sort : GoodIn wsL_law (wsV RL 57 RX2 yX2_sort wsX2_sort) := goodIn_app (goodIn_of _ (by decide +kernel)) ggL_law_X2_sort
set_option maxRecDepth 20000 in
theorem ggL_law_X3_sort : GoodIn wsL_law wsX3_sort := goodIn_r _ [280, 70, 71, 5, 72, 126, 127, 128, 129, 130, 131, 132, 133, 51, 48, 134, 135, 136, 137, 281, 282, 283, 284, 86, 87, 88, 89, 50, 198, 199, 200, 201, 52, 202, 203, 204, 205, 54, 327, 328, 329, 330, 331, 332, 333, 334, 335, 336, 337, 338, 339, 340] (by decide +kernel) (by decide +kernel)
set_option maxRecDepth 20000 in
theorem gL_law_X3_sort : GoodIn wsL_law (wsV RL 60 RX3 yX3_sort wsX3_sort) := goodIn_app (goodIn_of _ (by decide +kernel)) ggL_law_X3_sort
set_option maxRecDepth 20000 in
theorem ggL_law_X2_number : GoodIn wsL_law wsX2_number := goodIn_r _ [288, 14, 81, 94, 95, 289, 62, 63, 2, 64, 275, 37, 38, 22, 39, 29, 105, 106, 107, 108, 30, 276, 162, 163, 164, 35, 40, 41, 42, 43, 165, 319, 320, 321, 322, 323, 324, 325, 326, 341, 342, 343, 344, 345, 346, 347, 348] (by decide +kernel) (by decide +kernel)
set_option maxRecDepth 20000 in
theorem gL_law_X2_number : GoodIn wsL_law (wsV RL 61 RX2 yX2_number wsX2_number) := goodIn_app (goodIn_of _ (by decide +kernel)) ggL_law_X2_number
set_option maxRecDepth 20000 in
theorem ggL_law_X3_number : GoodIn wsL_law wsX3_number := goodIn_r _ [293, 49, 48, 54, 70, 71, 5, 72, 86, 87, 88, 89, 50, 126, 127, 128, 129, 130, 131, 132, 133, 51, 134, 135, 136, 137, 198, 199, 200, 201, 52, 281, 282, 283, 284, 327, 328, 329, 330, 331, 332, 333, 334, 335, 336, 337, 338, 339, 340] (by decide +kernel) (by decide +kernel)
set_option maxRecDepth 20000 in
theorem gL_law_X3_number : GoodIn wsL_law (wsV RL 65 RX3 yX3_number wsX3_number) := goodIn_app (goodIn_of _ (by decide +kernel)) ggL_law_X3_number
set_option maxRecDepth 20000 in
theorem ggL_law_X2_show : GoodIn wsL_law wsX2_show := goodIn_r _ [297, 14, 171, 298, 62, 63, 2, 64, 96, 41, 42, 22, 43, 29, 276, 162, 163, 164, 35, 40, 165, 106, 107, 108, 30, 319, 320, 321, 322, 323, 324, 325, 326, 341, 342, 343, 344, 345, 346, 347, 348] (by decide +kernel) (by decide +kernel)
set_option maxRecDepth 20000 in
theorem gL_law_X2_show : GoodIn wsL_law (wsV RL 66 RX2 yX2_show wsX2_show) := goodIn_app (goodIn_of _ (by decide +kernel)) ggL_law_X2_show
set_option maxRecDepth 20000 in
theorem ggL_law_X3_show : GoodIn wsL_law wsX3_show := goodIn_r _ [302, 55, 70, 71, 5, 72, 281, 282, 283, 284, 86, 87, 88, 89, 48, 50, 130, 131, 132, 133, 51, 134, 135, 136, 137, 198, 199, 200, 201, 52, 327, 328, 329, 330, 331, 332, 333, 334, 335, 336, 337, 338, 339, 340] (by decide +kernel) (by decide +kernel)
set_option maxRecDepth 20000 in
theorem gL_law_X3_show : GoodIn wsL_law (wsV RL 69 RX3 yX3_show wsX3_show) := goodIn_app (goodIn_of _ (by decide +kernel)) ggL_law_X3_show
set_option maxRecDepth 20000 in
theorem ggL_law_X2_shown : GoodIn wsL_law wsX2_shown := goodIn_r _ [306, 14, 298, 62, 63, 2, 64, 276, 162, 163, 22, 164, 35, 40, 41, 42, 43, 29, 165, 106, 107, 108, 30, 319, 320, 321, 322, 323, 324, 325, 326, 346, 347, 348, 341, 342, 343, 344, 345] (by decide +kernel) (by decide +kernel)
set_option maxRecDepth 20000 in
theorem gL_law_X2_shown : GoodIn wsL_law (wsV RL 70 RX2 yX2_shown wsX2_shown) := goodIn_app (goodIn_of _ (by decide +kernel)) ggL_law_X2_shown
set_option maxRecDepth 20000 in
theorem ggL_law_X3_shown : GoodIn wsL_law wsX3_shown := goodIn_r _ [310, 55, 70, 71, 5, 72, 281, 282, 283, 284, 86, 87, 88, 89, 48, 50, 126, 127, 128, 129, 130, 131, 132, 133, 51, 134, 135, 136, 137, 198, 199, 200, 201, 52, 327, 328, 329, 330, 331, 332, 333, 334, 335, 336, 337, 338, 339, 340] (by decide +kernel) (by decide +kernel)
set_option maxRecDepth 20000 in
theorem gL_law_X3_shown : GoodIn wsL_law (wsV RL 73 RX3 yX3_shown wsX3_shown) := goodIn_app (goodIn_of _ (by decide +kernel)) ggL_law_X3_shown
set_option maxRecDepth 20000 in
theorem ggL_law_X2_same : GoodIn wsL_law wsX2_same := goodIn_r _ [314, 14, 81, 62, 63, 2, 64, 276, 162, 163, 22, 164, 35, 40, 41, 42, 43, 29, 165, 106, 107, 108, 30, 319, 320, 321, 322, 323, 324, 325, 326, 341, 342, 343, 344, 345] (by decide +kernel) (by decide +kernel)
set_option maxRecDepth 20000 in
theorem gL_law_X2_same : GoodIn wsL_law (wsV RL 74 RX2 yX2_same wsX2_same) := goodIn_app (goodIn_of _ (by decide +kernel)) ggL_law_X2_same
set_option maxRecDepth 20000 in
theorem ggL_law_X3_same : GoodIn wsL_law wsX3_same := goodIn_r _ [318, 48, 70, 71, 5, 72, 281, 282, 283, 284, 86, 87, 88, 89, 50, 126, 127, 128, 129, 130, 131, 132, 133, 51, 134, 135, 136, 137, 198, 199, 200, 201, 52, 327, 328, 329, 330, 331, 332, 333, 334, 335, 336, 337, 338, 339, 340] (by decide +kernel) (by decide +kernel)
set_option maxRecDepth 20000 in
theorem gL_law_X3_same : GoodIn wsL_law (wsV RL 78 RX3 yX3_same wsX3_same) := goodIn_app (goodIn_of _ (by decide +kernel)) ggL_law_X3_same
