set_option maxRecDepth 20000 in
theorem ggX5_pieceBoxes_Jx4a65c_get_915e3 : GoodIn wsX5_pieceBoxes wsJx4a65c_get_915e3 := goodIn_r _ [32, 11, 33, 34, 35, 36, 37, 38, 39, 40, 41, 42, 43, 5, 44, 16, 128, 129, 130] (by decide +kernel) (by decide +kernel)
set_option maxRecDepth 20000 in
theorem gX5_pieceBoxes_Jx4a65c_get_915e3 : GoodIn wsX5_pieceBoxes (wsV RX5 68 RJx4a65c yJx4a65c_get_915e3 wsJx4a65c_get_915e3) := goodIn_app (goodIn_of _ (by decide +kernel)) ggX5_pieceBoxes_Jx4a65c_get_915e3
set_option maxRecDepth 20000 in
theorem ggX5_pieceBoxes_X5_cutBox : GoodIn wsX5_pieceBoxes wsX5_cutBox := goodIn_r _ [49, 1, 50, 51, 52, 53, 54, 55, 56, 57, 58, 59, 60, 61, 62, 27, 28, 63, 64, 65, 66, 119, 120, 121, 122, 123, 124, 125, 126, 127, 131, 132, 133, 134] (by decide +kernel) (by decide +kernel)
set_option maxRecDepth 20000 in
theorem gX5_pieceBoxes_X5_cutBox : GoodIn wsX5_pieceBoxes (wsV RX5 72 RX5 yX5_cutBox wsX5_cutBox) := goodIn_app (goodIn_of _ (by decide +kernel)) ggX5_pieceBoxes_X5_cutBox
set_option maxRecDepth 20000 in
theorem ggX5_pieceBoxes_Jx4a65c_add_9ea2d : GoodIn wsX5_pieceBoxes wsJx4a65c_add_9ea2d := goodIn_r _ [70, 71, 72, 16, 11, 73, 74, 75, 5, 76, 77, 78, 79, 80, 81, 82, 83, 84, 15, 85, 86, 87, 88, 89, 90, 91, 92, 93, 94, 95, 96, 97, 98, 99, 100, 101, 102, 103, 104, 105, 106, 107, 108, 109, 110, 111, 112, 113, 114, 115, 116, 117, 118, 128, 129, 130] (by decide +kernel) (by decide +kernel)
set_option maxRecDepth 20000 in
theorem gX5_pieceBoxes_Jx4a65c_add_9ea2d : GoodIn wsX5_pieceBoxes (wsV RX5 64 RJx4a65c yJx4a65c_add_9ea2d wsJx4a65c_add_9ea2d) := goodIn_app (goodIn_of _ (by decide +kernel)) ggX5_pieceBoxes_Jx4a65c_add_9ea2d
set_option maxRecDepth 20000 in
theorem ggX5_cutBox_X0_init : GoodIn wsX5_cutBox wsX0_init := goodIn_r _ [13, 14, 15, 16, 17, 18, 19, 20, 30, 31, 32, 33] (by decide +kernel) (by decide +kernel)
set_option maxRecDepth 20000 in
theorem gX5_cutBox_X0_init : GoodIn wsX5_cutBox (wsX0_init) := ggX5_cutBox_X0_init
set_option maxRecDepth 20000 in
theorem ggX6_init_Jx4a65c_init_da8c8 : GoodIn wsX6_init wsJx4a65c_init_da8c8 := goodIn_r _ [24, 25, 26, 27, 28, 29, 30, 31, 32, 33, 34, 35, 36, 2, 3, 37, 38, 39] (by decide +kernel) (by decide +kernel)
set_option maxRecDepth 20000 in
theorem gX6_init_Jx4a65c_init_da8c8 : GoodIn wsX6_init (wsJx4a65c_init_da8c8) := ggX6_init_Jx4a65c_init_da8c8
set_option maxRecDepth 20000 in
theorem ggX6_shape_Jx4a65c_size_8abf5 : GoodIn wsX6_shape wsJx4a65c_size_8abf5 := goodIn_r _ [11, 12, 135, 136, 137] (by decide +kernel) (by decide +kernel)
set_option maxRecDepth 20000 in
theorem gX6_shape_Jx4a65c_size_8abf5 : GoodIn wsX6_shape (wsV RX6 47 RJx4a65c yJx4a65c_size_8abf5 wsJx4a65c_size_8abf5) := goodIn_app (goodIn_of _ (by decide +kernel)) ggX6_shape_Jx4a65c_size_8abf5
set_option maxRecDepth 20000 in
theorem ggX6_shape_X6_countPieces : GoodIn wsX6_shape wsX6_countPieces := goodIn_r _ [17, 3, 18, 19, 7, 8, 9, 10, 11, 12, 20, 21, 22, 23, 24, 25, 26, 27, 28, 29, 30, 31, 32, 33, 34, 35, 36, 120, 121, 122, 123, 124, 125, 126, 127, 128, 129, 130, 131, 132, 133, 134, 135, 136, 137] (by decide +kernel) (by decide +kernel)
set_option maxRecDepth 20000 in
theorem gX6_shape_X6_countPieces : GoodIn wsX6_shape (wsV RX6 51 RX6 yX6_countPieces wsX6_countPieces) := goodIn_app (goodIn_of _ (by decide +kernel)) ggX6_shape_X6_countPieces
set_option maxRecDepth 20000 in
theorem ggX6_shape_X5_init : GoodIn wsX6_shape wsX5_init := goodIn_r _ [38, 39, 40, 41, 42, 43, 10, 44, 45, 46, 47, 48, 49, 50, 51, 52, 53, 54, 55, 56, 57, 36, 58, 59, 60, 61, 62, 63, 64, 65, 66, 67, 135, 136, 137, 126, 127, 128, 129, 130, 131, 132, 133, 134] (by decide +kernel) (by decide +kernel)
set_option maxRecDepth 20000 in
theorem gX6_shape_X5_init_n63 : GoodIn wsX6_shape (wsX5_init) := ggX6_shape_X5_init
set_option maxRecDepth 20000 in
theorem ggX6_shape_Jx4a65c_add_9ea2d : GoodIn wsX6_shape wsJx4a65c_add_9ea2d := goodIn_r _ [71, 72, 73, 36, 12, 74, 75, 76, 10, 77, 78, 79, 80, 81, 82, 83, 84, 85, 57, 86, 87, 88, 89, 90, 91, 92, 93, 94, 95, 96, 97, 98, 99, 100, 101, 102, 103, 104, 105, 106, 107, 108, 109, 110, 111, 112, 113, 114, 115, 116, 117, 118, 119, 135, 136, 137] (by decide +kernel) (by decide +kernel)
set_option maxRecDepth 20000 in
theorem gX6_shape_Jx4a65c_add_9ea2d : GoodIn wsX6_shape (wsV RX6 64 RJx4a65c yJx4a65c_add_9ea2d wsJx4a65c_add_9ea2d) := goodIn_app (goodIn_of _ (by decide +kernel)) ggX6_shape_Jx4a65c_add_9ea2d
set_option maxRecDepth 20000 in
theorem ggX6_corner_X6_needShape : GoodIn wsX6_corner wsX6_needShape := goodIn_ca (goodIn_r _ [13, 14, 15, 5, 16, 17, 18, 19, 20, 21, 151, 152, 153, 154, 155, 156, 166, 167, 168] (by decide +kernel) (by decide +kernel)) (goodIn_sub (fun _ h => List.mem_cons_of_mem _ (List.mem_append_right _ h)) (by decide +kernel))
set_option maxRecDepth 20000 in
theorem gX6_corner_X6_needShape : GoodIn wsX6_corner (wsV RX6 68 RX6 yX6_needShape wsX6_needShape) := goodIn_app (goodIn_of _ (by decide +kernel)) ggX6_corner_X6_needShape
set_option maxRecDepth 20000 in
theorem ggX6_corner_Jx4a65c_get_915e3 : GoodIn wsX6_corner wsJx4a65c_get_915e3 := goodIn_r _ [25, 21, 26, 27, 28, 29, 30, 31, 32, 33, 34, 35, 36, 19, 37, 38, 166, 167, 168] (by decide +kernel) (by decide +kernel)
set_option maxRecDepth 20000 in
theorem gX6_corner_Jx4a65c_get_915e3 : GoodIn wsX6_corner (wsV RX6 72 RJx4a65c yJx4a65c_get_915e3 wsJx4a65c_get_915e3) := goodIn_app (goodIn_of _ (by decide +kernel)) ggX6_corner_Jx4a65c_get_915e3
set_option maxRecDepth 20000 in
theorem ggX6_corner_Jx4a65c_size_8abf5 : GoodIn wsX6_corner wsJx4a65c_size_8abf5 := goodIn_r _ [20, 21, 166, 167, 168] (by decide +kernel) (by decide +kernel)
set_option maxRecDepth 20000 in
theorem gX6_corner_Jx4a65c_size_8abf5 : GoodIn wsX6_corner (wsV RX6 47 RJx4a65c yJx4a65c_size_8abf5 wsJx4a65c_size_8abf5) := goodIn_app (goodIn_of _ (by decide +kernel)) ggX6_corner_Jx4a65c_size_8abf5
set_option maxRecDepth 20000 in
theorem ggX6_corner_X6_isTooFar : GoodIn wsX6_corner wsX6_isTooFar := goodIn_r _ [41, 42, 43] (by decide +kernel) (by decide +kernel)
set_option maxRecDepth 20000 in
theorem gX6_corner_X6_isTooFar : GoodIn wsX6_corner (va_wsS RX6 84 yX6_isTooFar wsX6_isTooFar) := goodIn_app (goodIn_of _ (by decide +kernel)) ggX6_corner_X6_isTooFar
set_option maxRecDepth 20000 in
theorem ggX6_corner_X5_addCorner : GoodIn wsX6_corner wsX5_addCorner := goodIn_r _ [48, 49, 50, 51, 52, 53, 54, 55, 56, 57, 58, 59, 60, 61, 62, 63, 64, 65, 66, 67, 68, 69, 70, 71, 72, 73, 74, 75, 19, 76, 77, 78, 38, 21, 79, 80, 81, 82, 83, 84, 85, 86, 87, 88, 89, 90, 91, 92, 93, 94, 95, 96, 97, 98, 99, 100, 101, 102, 103, 104, 105, 106, 107, 108, 109, 110, 111, 112, 113, 114, 115, 116, 117, 118, 119, 120, 121, 122, 123, 124, 157, 158, 159, 160, 161, 162, 163, 164, 165, 169, 170, 171, 172, 166, 167, 168] (by decide +kernel) (by decide +kernel)
set_option maxRecDepth 20000 in
theorem gX6_corner_X5_addCorner : GoodIn wsX6_corner (wsV RX6 93 RX5 yX5_addCorner wsX5_addCorner) := goodIn_app (goodIn_of _ (by decide +kernel)) ggX6_corner_X5_addCorner
set_option maxRecDepth 20000 in
theorem ggX6_corner_X6_findNearOnes : GoodIn wsX6_corner wsX6_findNearOnes := goodIn_r _ [128, 5, 6, 7, 129, 130, 131, 22, 23, 24, 19, 25, 21, 26, 27, 28, 29, 30, 31, 32, 33, 34, 35, 36, 37, 38, 132, 133, 134, 135, 16, 17, 18, 20, 136, 137, 138, 53, 139, 140, 141, 142, 143, 144, 145, 146, 69, 71, 70, 72, 147, 148, 149, 150, 61, 57, 62, 151, 152, 153, 154, 155, 156, 157, 158, 159, 160, 161, 162, 163, 164, 165, 166, 167, 168, 169, 170, 171, 172] (by decide +kernel) (by decide +kernel)
set_option maxRecDepth 20000 in
theorem gX6_corner_X6_findNearOnes : GoodIn wsX6_corner (wsV RX6 97 RX6 yX6_findNearOnes wsX6_findNearOnes) := goodIn_app (goodIn_of _ (by decide +kernel)) ggX6_corner_X6_findNearOnes
set_option maxRecDepth 20000 in
theorem ggX6_near_X6_needNoneOpen : GoodIn wsX6_near wsX6_needNoneOpen := goodIn_ca (goodIn_r _ [8, 9, 10, 1, 2, 11, 12, 13, 14, 15, 16, 17, 18, 19, 20, 21, 22, 23, 24, 25, 26, 27, 28, 29, 30, 31, 32, 33, 34, 35, 36, 37, 38, 39, 40, 41, 42, 43, 44, 52, 53, 54, 55, 56, 57, 67, 68, 69, 58, 59, 60, 61, 62, 63, 64, 65, 66] (by decide +kernel) (by decide +kernel)) (goodIn_sub (fun _ h => List.mem_cons_of_mem _ (List.mem_append_right _ h)) (by decide +kernel))
set_option maxRecDepth 20000 in
theorem gX6_near_X6_needNoneOpen : GoodIn wsX6_near (wsV RX6 100 RX6 yX6_needNoneOpen wsX6_needNoneOpen) := goodIn_app (goodIn_of _ (by decide +kernel)) ggX6_near_X6_needNoneOpen
set_option maxRecDepth 20000 in
theorem ggX6_near_Jx4a65c_size_8abf5 : GoodIn wsX6_near wsJx4a65c_size_8abf5 := goodIn_r _ [15, 16, 67, 68, 69] (by decide +kernel) (by decide +kernel)
set_option maxRecDepth 20000 in
theorem gX6_near_Jx4a65c_size_8abf5 : GoodIn wsX6_near (wsV RX6 47 RJx4a65c yJx4a65c_size_8abf5 wsJx4a65c_size_8abf5) := goodIn_app (goodIn_of _ (by decide +kernel)) ggX6_near_Jx4a65c_size_8abf5
set_option maxRecDepth 20000 in
theorem ggX6_near_Jx4a65c_get_915e3 : GoodIn wsX6_near wsJx4a65c_get_915e3 := goodIn_r _ [20, 16, 21, 22, 23, 24, 25, 26, 27, 28, 29, 30, 31, 14, 32, 33, 67, 68, 69] (by decide +kernel) (by decide +kernel)
set_option maxRecDepth 20000 in
theorem gX6_near_Jx4a65c_get_915e3 : GoodIn wsX6_near (wsV RX6 72 RJx4a65c yJx4a65c_get_915e3 wsJx4a65c_get_915e3) := goodIn_app (goodIn_of _ (by decide +kernel)) ggX6_near_Jx4a65c_get_915e3
set_option maxRecDepth 20000 in
theorem ggX6_near_J6_bitCount_0f7a4 : GoodIn wsX6_near wsJ6_bitCount_0f7a4 := goodIn_r _ [48, 49, 50, 51] (by decide +kernel) (by decide +kernel)
set_option maxRecDepth 20000 in
theorem gX6_near_J6_bitCount_0f7a4 : GoodIn wsX6_near (va_wsS RX6 106 yJ6_bitCount_0f7a4 wsJ6_bitCount_0f7a4) := goodIn_app (goodIn_of _ (by decide +kernel)) ggX6_near_J6_bitCount_0f7a4
set_option maxRecDepth 20000 in
theorem ggX6_run_X6_needNoneOpen : GoodIn wsX6_run wsX6_needNoneOpen := goodIn_ca (goodIn_r _ [20, 21, 22, 23, 24, 25, 26, 27, 28, 29, 30, 31, 32, 33, 34, 35, 36, 37, 38, 39, 40, 41, 42, 43, 44, 45, 46, 47, 48, 49, 50, 51, 52, 53, 54, 55, 56, 57, 58, 348, 349, 350, 351, 352, 353, 369, 370, 371, 372, 373, 374, 375, 376, 377, 378, 379, 380] (by decide +kernel) (by decide +kernel)) (goodIn_sub (fun _ h => List.mem_cons_of_mem _ (List.mem_append_right _ h)) (by decide +kernel))
set_option maxRecDepth 20000 in
theorem gX6_run_X6_needNoneOpen : GoodIn wsX6_run (wsV RX6 100 RX6 yX6_needNoneOpen wsX6_needNoneOpen) := goodIn_app (goodIn_of _ (by decide +kernel)) ggX6_run_X6_needNoneOpen
set_option maxRecDepth 20000 in
theorem ggX6_run_X6_countPieces : GoodIn wsX6_run wsX6_countPieces := goodIn_r _ [62, 23, 24, 63, 25, 26, 27, 28, 29, 30, 31, 32, 33, 34, 35, 36, 37, 38, 39, 40, 41, 42, 43, 44, 45, 46, 47, 348, 349, 350, 351, 352, 353, 372, 373, 374, 375, 376, 377, 378, 379, 380, 369, 370, 371] (by decide +kernel) (by decide +kernel)
set_option maxRecDepth 20000 in
theorem gX6_run_X6_countPieces : GoodIn wsX6_run (wsV RX6 51 RX6 yX6_countPieces wsX6_countPieces) := goodIn_app (goodIn_of _ (by decide +kernel)) ggX6_run_X6_countPieces
set_option maxRecDepth 20000 in
theorem ggX6_run_X6_cutShapes : GoodIn wsX6_run wsX6_cutShapes := goodIn_r _ [67, 68, 69, 70, 23, 24, 63, 71, 72, 73, 74, 75, 76, 77, 78, 28, 79, 80, 81, 82, 83, 47, 84, 85, 86, 87, 88, 89, 90, 91, 92, 93, 25, 26, 27, 29, 30, 31, 32, 33, 34, 35, 36, 37, 38, 39, 40, 41, 42, 43, 44, 45, 46, 94, 95, 96, 51, 97, 98, 54, 99, 100, 55, 56, 57, 58, 101, 102, 103, 104, 105, 106, 107, 108, 109, 110, 111, 112, 113, 114, 115, 116, 117, 118, 119, 120, 121, 122, 123, 124, 125, 126, 127, 128, 129, 130, 131, 132, 133, 134, 135, 136, 137, 138, 139, 140, 141, 142, 143, 144, 145, 146, 147, 148, 149, 150, 151, 152, 153, 154, 155, 156, 157, 158, 159, 160, 161, 162, 163, 164, 165, 166, 167, 168, 169, 170, 171, 172, 173, 174, 175, 176, 177, 178, 179, 180, 181, 182, 183, 184, 185, 186, 187, 188, 189, 190, 191, 192, 381, 348, 349, 350, 351, 352, 353, 372, 373, 374, 375, 376, 377, 378, 379, 380, 369, 370, 371, 382, 383, 384, 385, 386, 387, 388, 389] (by decide +kernel) (by decide +kernel)
set_option maxRecDepth 20000 in
theorem gX6_run_X6_cutShapes : GoodIn wsX6_run (wsV RX6 114 RX6 yX6_cutShapes wsX6_cutShapes) := goodIn_app (goodIn_of _ (by decide +kernel)) ggX6_run_X6_cutShapes
set_option maxRecDepth 20000 in
theorem ggX6_run_X3_findNearOnes : GoodIn wsX6_run wsX3_findNearOnes := goodIn_r _ [196, 79, 197, 198, 199, 183, 26, 27, 28, 29, 30, 200, 32, 33, 34, 35, 36, 37, 38, 39, 40, 41, 42, 43, 44, 45, 46, 47, 201, 202, 203, 182, 204, 191, 205, 206, 207, 208, 209, 210, 110, 211, 212, 213, 214, 215, 216, 217, 218, 120, 122, 121, 123, 219, 220, 221, 222, 223, 144, 224, 381, 386, 387, 388, 389, 369, 370, 371, 382, 383, 384, 385] (by decide +kernel) (by decide +kernel)
set_option maxRecDepth 20000 in
theorem gX6_run_X3_findNearOnes : GoodIn wsX6_run (wsV RX6 118 RX3 yX3_findNearOnes wsX3_findNearOnes) := goodIn_app (goodIn_of _ (by decide +kernel)) ggX6_run_X3_findNearOnes
set_option maxRecDepth 20000 in
theorem ggX6_run_X4_init : GoodIn wsX6_run wsX4_init := goodIn_r _ [227, 228, 75, 76, 229, 230, 231, 232, 233, 234, 235, 236, 237, 238, 170, 144, 171, 239, 143, 145, 240, 241, 242, 243, 244, 70, 245, 79, 183, 26, 27, 28, 29, 30, 246, 247, 248, 249, 197, 199, 200, 32, 33, 34, 35, 36, 37, 38, 39, 40, 41, 42, 43, 44, 45, 46, 47, 250, 251, 252, 253, 254, 255, 256, 257, 258, 259, 260, 261, 262, 198, 354, 355, 356, 357, 358, 359, 360, 361, 362, 381, 369, 370, 371, 386, 387, 388, 389] (by decide +kernel) (by decide +kernel)
set_option maxRecDepth 20000 in
theorem gX6_run_X4_init : GoodIn wsX6_run (wsX4_init) := ggX6_run_X4_init
set_option maxRecDepth 20000 in
theorem ggX6_run_X4_findBest : GoodIn wsX6_run wsX4_findBest := goodIn_r _ [266, 241, 231, 240, 234, 267, 268, 269, 7, 270, 237, 235, 236, 271, 173, 174, 175, 272, 273, 274, 275, 276, 277, 278, 279, 230, 280, 281, 282, 283, 233, 354, 355, 356, 357, 358, 359, 360, 361, 362] (by decide +kernel) (by decide +kernel)
set_option maxRecDepth 20000 in
theorem gX6_run_X4_findBest : GoodIn wsX6_run (wsV RX6 128 RX4 yX4_findBest wsX4_findBest) := goodIn_app (goodIn_of _ (by decide +kernel)) ggX6_run_X4_findBest
set_option maxRecDepth 20000 in
theorem ggX6_run_X4_isFound : GoodIn wsX6_run wsX4_isFound := goodIn_r _ [287, 237, 354, 355, 356, 357, 358, 359, 360, 361, 362] (by decide +kernel) (by decide +kernel)
set_option maxRecDepth 20000 in
theorem gX6_run_X4_isFound : GoodIn wsX6_run (wsV RX6 131 RX4 yX4_isFound wsX4_isFound) := goodIn_app (goodIn_of _ (by decide +kernel)) ggX6_run_X4_isFound
set_option maxRecDepth 20000 in
theorem ggX6_run_X1_init : GoodIn wsX6_run wsX1_init := goodIn_r _ [290, 291, 75, 76, 229, 292, 293, 294, 295, 296, 297, 298, 299, 243, 244, 70, 245, 79, 183, 26, 27, 28, 29, 30, 300, 301, 302, 303, 197, 200, 32, 33, 34, 35, 36, 37, 38, 39, 40, 41, 42, 43, 44, 45, 46, 47, 304, 305, 306, 182, 307, 191, 205, 206, 207, 308, 309, 310, 110, 311, 122, 120, 123, 121, 312, 313, 314, 11, 315, 316, 256, 257, 258, 259, 260, 261, 262, 198, 317, 318, 319, 320, 321, 322, 323, 324, 325, 363, 364, 365, 366, 367, 368, 381, 369, 370, 371, 386, 387, 388, 389, 382, 383, 384, 385] (by decide +kernel) (by decide +kernel)
set_option maxRecDepth 20000 in
theorem gX6_run_X1_init : GoodIn wsX6_run (wsX1_init) := ggX6_run_X1_init
set_option maxRecDepth 20000 in
theorem ggX6_run_X3_findOddRing : GoodIn wsX6_run wsX3_findOddRing := goodIn_r _ [329, 229, 79, 183, 26, 27, 28, 29, 30, 330, 331, 332, 70, 333, 334, 335, 336, 337, 338, 247, 248, 249, 197, 199, 200, 32, 33, 34, 35, 36, 37, 38, 39, 40, 41, 42, 43, 44, 45, 46, 47, 339, 340, 341, 342, 259, 260, 261, 262, 198, 343, 344, 345, 346, 347, 381, 369, 370, 371, 386, 387, 388, 389] (by decide +kernel) (by decide +kernel)
set_option maxRecDepth 20000 in
theorem gX6_run_X3_findOddRing : GoodIn wsX6_run (wsV RX6 146 RX3 yX3_findOddRing wsX3_findOddRing) := goodIn_app (goodIn_of _ (by decide +kernel)) ggX6_run_X3_findOddRing
set_option maxRecDepth 20000 in
theorem ggX6_colour_X6_needShape : GoodIn wsX6_colour wsX6_needShape := goodIn_ca (goodIn_r _ [7, 8, 9, 10, 11, 12, 13, 14, 15, 16, 17, 18, 19, 20, 21, 22, 29, 30, 31] (by decide +kernel) (by decide +kernel)) (goodIn_sub (fun _ h => List.mem_cons_of_mem _ (List.mem_append_right _ h)) (by decide +kernel))
set_option maxRecDepth 20000 in
theorem gX6_colour_X6_needShape : GoodIn wsX6_colour (wsV RX6 68 RX6 yX6_needShape wsX6_needShape) := goodIn_app (goodIn_of _ (by decide +kernel)) ggX6_colour_X6_needShape
set_option maxRecDepth 20000 in
theorem ggX6_pre_X6_needShape : GoodIn wsX6_pre wsX6_needShape := goodIn_ca (goodIn_r _ [10, 11, 12, 3, 13, 14, 15, 16, 17, 18, 56, 57, 58, 59, 60, 61, 71, 72, 73] (by decide +kernel) (by decide +kernel)) (goodIn_sub (fun _ h => List.mem_cons_of_mem _ (List.mem_append_left _ (List.mem_append_right _ h))) (by decide +kernel))
set_option maxRecDepth 20000 in
theorem gX6_pre_X6_needShape : GoodIn wsX6_pre (wsV RX6 68 RX6 yX6_needShape wsX6_needShape) := goodIn_app (goodIn_of _ (by decide +kernel)) ggX6_pre_X6_needShape
