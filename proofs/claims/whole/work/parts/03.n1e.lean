set_option maxRecDepth 20000 in
theorem ggX6_cutShapes_Jx4a65c_get_915e3 : GoodIn wsX6_cutShapes wsJx4a65c_get_915e3 := goodIn_r _ [40, 36, 41, 42, 43, 44, 45, 46, 47, 48, 49, 50, 51, 15, 52, 21, 174, 175, 176] (by decide +kernel) (by decide +kernel)
set_option maxRecDepth 20000 in
theorem gX6_cutShapes_Jx4a65c_get_915e3 : GoodIn wsX6_cutShapes (wsV RX6 72 RJx4a65c yJx4a65c_get_915e3 wsJx4a65c_get_915e3) := goodIn_app (goodIn_of _ (by decide +kernel)) ggX6_cutShapes_Jx4a65c_get_915e3
set_option maxRecDepth 20000 in
theorem ggX6_cutShapes_X5_pieceBoxes : GoodIn wsX6_cutShapes wsX5_pieceBoxes := goodIn_r _ [57, 58, 59, 60, 14, 15, 61, 62, 63, 64, 65, 36, 66, 18, 19, 20, 21, 22, 23, 24, 25, 26, 27, 28, 29, 30, 31, 11, 12, 67, 38, 39, 40, 41, 42, 43, 44, 45, 46, 47, 48, 49, 50, 51, 52, 68, 69, 70, 56, 71, 72, 73, 74, 75, 76, 77, 78, 79, 80, 81, 82, 83, 84, 85, 86, 87, 88, 89, 90, 91, 92, 93, 94, 95, 96, 97, 98, 99, 100, 101, 102, 103, 104, 105, 106, 107, 108, 109, 110, 111, 112, 113, 114, 115, 116, 117, 118, 119, 120, 121, 122, 123, 124, 125, 126, 127, 128, 129, 130, 131, 132, 133, 134, 135, 136, 137, 138, 139, 140, 165, 166, 167, 168, 169, 170, 171, 172, 173, 174, 175, 176, 177, 178, 179, 180] (by decide +kernel) (by decide +kernel)
set_option maxRecDepth 20000 in
theorem gX6_cutShapes_X5_pieceBoxes : GoodIn wsX6_cutShapes (wsV RX6 238 RX5 yX5_pieceBoxes wsX5_pieceBoxes) := goodIn_app (goodIn_of _ (by decide +kernel)) ggX6_cutShapes_X5_pieceBoxes
set_option maxRecDepth 20000 in
theorem ggX6_cutShapes_X3_add : GoodIn wsX6_cutShapes wsX3_add := goodIn_r _ [144, 16, 145, 146, 147, 148, 33, 34, 15, 35, 36, 149, 150, 151, 152, 11, 12, 153, 154, 155, 156, 157, 90, 91, 92, 93, 94, 21, 95, 96, 97, 98, 99, 100, 101, 102, 103, 104, 105, 106, 20, 107, 108, 109, 110, 111, 112, 113, 114, 115, 116, 117, 118, 119, 120, 121, 122, 123, 124, 125, 126, 127, 128, 129, 130, 131, 132, 133, 134, 135, 136, 137, 138, 139, 140, 158, 181, 182, 183, 184, 174, 175, 176] (by decide +kernel) (by decide +kernel)
set_option maxRecDepth 20000 in
theorem gX6_cutShapes_X3_add : GoodIn wsX6_cutShapes (wsV RX6 242 RX3 yX3_add wsX3_add) := goodIn_app (goodIn_of _ (by decide +kernel)) ggX6_cutShapes_X3_add
set_option maxRecDepth 20000 in
theorem ggX7_shape_X7_allPieces : GoodIn wsX7_shape wsX7_allPieces := goodIn_r _ [10, 1, 5, 11, 12, 13, 14, 15, 16, 17, 18, 19, 20, 21, 22, 23, 24, 25, 26, 27, 28, 29, 30, 31, 32, 33, 34, 35, 36, 37] (by decide +kernel) (by decide +kernel)
set_option maxRecDepth 20000 in
theorem gX7_shape_X7_allPieces : GoodIn wsX7_shape (wsV RX7 79 RX7 yX7_allPieces wsX7_allPieces) := goodIn_app (goodIn_of _ (by decide +kernel)) ggX7_shape_X7_allPieces
set_option maxRecDepth 20000 in
theorem ggX7_corner_X7_isShape : GoodIn wsX7_corner wsX7_isShape := goodIn_r _ [12, 13, 14, 15, 16, 17, 18, 19, 20, 21, 22, 23, 24, 25, 26, 27, 28, 29, 30, 31, 32, 33, 34, 35, 36, 37, 38, 39, 40] (by decide +kernel) (by decide +kernel)
set_option maxRecDepth 20000 in
theorem gX7_corner_X7_isShape : GoodIn wsX7_corner (wsV RX7 83 RX7 yX7_isShape wsX7_isShape) := goodIn_app (goodIn_of _ (by decide +kernel)) ggX7_corner_X7_isShape
set_option maxRecDepth 20000 in
theorem ggX7_load_X7_low : GoodIn wsX7_load wsX7_low := goodIn_r _ [11] (by decide +kernel) (by decide +kernel)
set_option maxRecDepth 20000 in
theorem gX7_load_X7_low : GoodIn wsX7_load (va_wsS RX7 101 yX7_low wsX7_low) := goodIn_app (goodIn_of _ (by decide +kernel)) ggX7_load_X7_low
set_option maxRecDepth 20000 in
theorem ggX7_load_X7_high : GoodIn wsX7_load wsX7_high := goodIn_r _ [14] (by decide +kernel) (by decide +kernel)
set_option maxRecDepth 20000 in
theorem gX7_load_X7_high : GoodIn wsX7_load (va_wsS RX7 105 yX7_high wsX7_high) := goodIn_app (goodIn_of _ (by decide +kernel)) ggX7_load_X7_high
set_option maxRecDepth 20000 in
theorem ggX7_isNearBox_X7_high : GoodIn wsX7_isNearBox wsX7_high := goodIn_r _ [7] (by decide +kernel) (by decide +kernel)
set_option maxRecDepth 20000 in
theorem gX7_isNearBox_X7_high : GoodIn wsX7_isNearBox (va_wsS RX7 105 yX7_high wsX7_high) := goodIn_app (goodIn_of _ (by decide +kernel)) ggX7_isNearBox_X7_high
set_option maxRecDepth 20000 in
theorem ggX7_isNearBox_X7_low : GoodIn wsX7_isNearBox wsX7_low := goodIn_r _ [10] (by decide +kernel) (by decide +kernel)
set_option maxRecDepth 20000 in
theorem gX7_isNearBox_X7_low : GoodIn wsX7_isNearBox (va_wsS RX7 101 yX7_low wsX7_low) := goodIn_app (goodIn_of _ (by decide +kernel)) ggX7_isNearBox_X7_low
set_option maxRecDepth 20000 in
theorem ggX7_isNearPiece_X7_boxes : GoodIn wsX7_isNearPiece wsX7_boxes := goodIn_r _ [5, 6, 7, 29, 30, 31, 32, 33, 34, 35, 36, 37, 38, 39, 40, 41, 42, 43, 44, 45, 46, 47, 48, 49, 50, 51, 52, 53, 54, 55] (by decide +kernel) (by decide +kernel)
set_option maxRecDepth 20000 in
theorem gX7_isNearPiece_X7_boxes : GoodIn wsX7_isNearPiece (wsV RX7 108 RX7 yX7_boxes wsX7_boxes) := goodIn_app (goodIn_of _ (by decide +kernel)) ggX7_isNearPiece_X7_boxes
set_option maxRecDepth 20000 in
theorem ggX7_isNearPiece_X7_load : GoodIn wsX7_isNearPiece wsX7_load := goodIn_r _ [11, 12, 13, 6, 14, 15, 16, 17, 18, 19, 4, 20, 21, 22, 23, 29, 30, 31, 32, 33, 34, 35, 36, 37, 38, 39, 40, 41, 42, 43, 44, 45, 46, 47, 48, 49, 50, 51, 52, 53, 54, 55] (by decide +kernel) (by decide +kernel)
set_option maxRecDepth 20000 in
theorem gX7_isNearPiece_X7_load : GoodIn wsX7_isNearPiece (wsV RX7 112 RX7 yX7_load wsX7_load) := goodIn_app (goodIn_of _ (by decide +kernel)) ggX7_isNearPiece_X7_load
set_option maxRecDepth 20000 in
theorem ggX7_isNearPiece_X7_isNearBox : GoodIn wsX7_isNearPiece wsX7_isNearBox := goodIn_r _ [27, 16, 17, 28, 21, 22, 4, 23, 18, 19, 20, 29, 30, 31, 32, 33, 34, 35, 36, 37, 38, 39, 40, 41, 42, 43, 44, 45, 46, 47, 48, 49, 50, 51, 52, 53, 54, 55] (by decide +kernel) (by decide +kernel)
set_option maxRecDepth 20000 in
theorem gX7_isNearPiece_X7_isNearBox : GoodIn wsX7_isNearPiece (wsV RX7 116 RX7 yX7_isNearBox wsX7_isNearBox) := goodIn_app (goodIn_of _ (by decide +kernel)) ggX7_isNearPiece_X7_isNearBox
set_option maxRecDepth 20000 in
theorem ggX7_isNear_X7_isNearPiece : GoodIn wsX7_isNear wsX7_isNearPiece := goodIn_r _ [6, 7, 8, 9, 5, 10, 1, 11, 12, 13, 14, 15, 16, 17, 18, 19, 20, 21, 22, 23, 24, 25, 26, 27, 28, 29, 30, 31, 32, 33, 34, 35, 36, 37, 38, 39, 40, 41, 42, 43, 44, 45, 46, 47, 48, 49, 50, 51, 52, 53, 54, 55, 56, 57, 58, 59] (by decide +kernel) (by decide +kernel)
set_option maxRecDepth 20000 in
theorem gX7_isNear_X7_isNearPiece : GoodIn wsX7_isNear (wsV RX7 120 RX7 yX7_isNearPiece wsX7_isNearPiece) := goodIn_app (goodIn_of _ (by decide +kernel)) ggX7_isNear_X7_isNearPiece
set_option maxRecDepth 20000 in
theorem ggX7_near_X7_isOpen : GoodIn wsX7_near wsX7_isOpen := goodIn_r _ [7, 2, 8, 43, 44, 45, 46, 47, 48, 49, 50, 51, 52, 53, 54, 55, 56, 57, 58, 59, 60, 61, 62, 63, 64, 65, 66, 67, 68, 69] (by decide +kernel) (by decide +kernel)
set_option maxRecDepth 20000 in
theorem gX7_near_X7_isOpen : GoodIn wsX7_near (wsV RX7 124 RX7 yX7_isOpen wsX7_isOpen) := goodIn_app (goodIn_of _ (by decide +kernel)) ggX7_near_X7_isOpen
set_option maxRecDepth 20000 in
theorem ggX7_near_X7_isNear : GoodIn wsX7_near wsX7_isNear := goodIn_r _ [12, 13, 14, 15, 16, 6, 17, 18, 19, 20, 21, 8, 22, 23, 24, 25, 26, 27, 28, 29, 30, 31, 32, 33, 34, 35, 36, 37, 38, 39, 40, 41, 42, 43, 44, 45, 46, 47, 48, 49, 50, 51, 52, 53, 54, 55, 56, 57, 58, 59, 60, 61, 62, 63, 64, 65, 66, 67, 68, 69] (by decide +kernel) (by decide +kernel)
set_option maxRecDepth 20000 in
theorem gX7_near_X7_isNear : GoodIn wsX7_near (wsV RX7 127 RX7 yX7_isNear wsX7_isNear) := goodIn_app (goodIn_of _ (by decide +kernel)) ggX7_near_X7_isNear
set_option maxRecDepth 20000 in
theorem ggX7_pair_X7_isOpen : GoodIn wsX7_pair wsX7_isOpen := goodIn_r _ [7, 2, 8, 43, 44, 45, 46, 47, 48, 49, 50, 51, 52, 53, 54, 55, 56, 57, 58, 59, 60, 61, 62, 63, 64, 65, 66, 67, 68, 69] (by decide +kernel) (by decide +kernel)
set_option maxRecDepth 20000 in
theorem gX7_pair_X7_isOpen : GoodIn wsX7_pair (wsV RX7 124 RX7 yX7_isOpen wsX7_isOpen) := goodIn_app (goodIn_of _ (by decide +kernel)) ggX7_pair_X7_isOpen
set_option maxRecDepth 20000 in
theorem ggX7_pair_X7_isNear : GoodIn wsX7_pair wsX7_isNear := goodIn_r _ [12, 13, 14, 15, 16, 6, 17, 18, 19, 20, 21, 8, 22, 23, 24, 25, 26, 27, 28, 29, 30, 31, 32, 33, 34, 35, 36, 37, 38, 39, 40, 41, 42, 43, 44, 45, 46, 47, 48, 49, 50, 51, 52, 53, 54, 55, 56, 57, 58, 59, 60, 61, 62, 63, 64, 65, 66, 67, 68, 69] (by decide +kernel) (by decide +kernel)
set_option maxRecDepth 20000 in
theorem gX7_pair_X7_isNear : GoodIn wsX7_pair (wsV RX7 127 RX7 yX7_isNear wsX7_isNear) := goodIn_app (goodIn_of _ (by decide +kernel)) ggX7_pair_X7_isNear
set_option maxRecDepth 20000 in
theorem ggX7_pre_X7_isShape : GoodIn wsX7_pre wsX7_isShape := goodIn_r _ [7, 8, 14, 15, 16, 17, 18, 19, 20, 21, 22, 23, 24, 25, 26, 27, 28, 29, 30, 31, 32, 33, 34, 35, 36, 37, 38, 39, 40] (by decide +kernel) (by decide +kernel)
set_option maxRecDepth 20000 in
theorem gX7_pre_X7_isShape : GoodIn wsX7_pre (wsV RX7 83 RX7 yX7_isShape wsX7_isShape) := goodIn_app (goodIn_of _ (by decide +kernel)) ggX7_pre_X7_isShape
set_option maxRecDepth 20000 in
theorem ggX7_pre_X7_isOpen : GoodIn wsX7_pre wsX7_isOpen := goodIn_r _ [12, 8, 13, 14, 15, 16, 17, 18, 19, 20, 21, 22, 23, 24, 25, 26, 27, 28, 29, 30, 31, 32, 33, 34, 35, 36, 37, 38, 39, 40] (by decide +kernel) (by decide +kernel)
set_option maxRecDepth 20000 in
theorem gX7_pre_X7_isOpen : GoodIn wsX7_pre (wsV RX7 124 RX7 yX7_isOpen wsX7_isOpen) := goodIn_app (goodIn_of _ (by decide +kernel)) ggX7_pre_X7_isOpen
set_option maxRecDepth 20000 in
theorem ggX7_isWithin_X7_low : GoodIn wsX7_isWithin wsX7_low := goodIn_r _ [6] (by decide +kernel) (by decide +kernel)
set_option maxRecDepth 20000 in
theorem gX7_isWithin_X7_low : GoodIn wsX7_isWithin (va_wsS RX7 101 yX7_low wsX7_low) := goodIn_app (goodIn_of _ (by decide +kernel)) ggX7_isWithin_X7_low
set_option maxRecDepth 20000 in
theorem ggX7_isWithin_X7_high : GoodIn wsX7_isWithin wsX7_high := goodIn_r _ [9] (by decide +kernel) (by decide +kernel)
set_option maxRecDepth 20000 in
theorem gX7_isWithin_X7_high : GoodIn wsX7_isWithin (va_wsS RX7 105 yX7_high wsX7_high) := goodIn_app (goodIn_of _ (by decide +kernel)) ggX7_isWithin_X7_high
set_option maxRecDepth 20000 in
theorem ggX7_stitch_X7_isShape : GoodIn wsX7_stitch wsX7_isShape := goodIn_r _ [10, 11, 36, 37, 38, 39, 40, 41, 42, 43, 44, 45, 46, 47, 48, 49, 50, 51, 52, 53, 54, 55, 56, 57, 58, 59, 60, 61, 62] (by decide +kernel) (by decide +kernel)
set_option maxRecDepth 20000 in
theorem gX7_stitch_X7_isShape : GoodIn wsX7_stitch (wsV RX7 83 RX7 yX7_isShape wsX7_isShape) := goodIn_app (goodIn_of _ (by decide +kernel)) ggX7_stitch_X7_isShape
set_option maxRecDepth 20000 in
theorem ggX7_stitch_X7_isOpen : GoodIn wsX7_stitch wsX7_isOpen := goodIn_r _ [15, 11, 2, 36, 37, 38, 39, 40, 41, 42, 43, 44, 45, 46, 47, 48, 49, 50, 51, 52, 53, 54, 55, 56, 57, 58, 59, 60, 61, 62] (by decide +kernel) (by decide +kernel)
set_option maxRecDepth 20000 in
theorem gX7_stitch_X7_isOpen : GoodIn wsX7_stitch (wsV RX7 124 RX7 yX7_isOpen wsX7_isOpen) := goodIn_app (goodIn_of _ (by decide +kernel)) ggX7_stitch_X7_isOpen
set_option maxRecDepth 20000 in
theorem ggX7_stitch_X7_hasCut : GoodIn wsX7_stitch wsX7_hasCut := goodIn_r _ [19, 3, 4, 5, 36, 37, 38, 39, 40, 41, 42, 43, 44, 45, 46, 47, 48, 49, 50, 51, 52, 53, 54, 55, 56, 57, 58, 59, 60, 61, 62] (by decide +kernel) (by decide +kernel)
set_option maxRecDepth 20000 in
theorem gX7_stitch_X7_hasCut : GoodIn wsX7_stitch (wsV RX7 131 RX7 yX7_hasCut wsX7_hasCut) := goodIn_app (goodIn_of _ (by decide +kernel)) ggX7_stitch_X7_hasCut
set_option maxRecDepth 20000 in
theorem ggX7_stitch_X7_allPieces : GoodIn wsX7_stitch wsX7_allPieces := goodIn_r _ [23, 11, 3, 36, 37, 38, 39, 40, 41, 42, 43, 44, 45, 46, 47, 48, 49, 50, 51, 52, 53, 54, 55, 56, 57, 58, 59, 60, 61, 62] (by decide +kernel) (by decide +kernel)
set_option maxRecDepth 20000 in
theorem gX7_stitch_X7_allPieces : GoodIn wsX7_stitch (wsV RX7 79 RX7 yX7_allPieces wsX7_allPieces) := goodIn_app (goodIn_of _ (by decide +kernel)) ggX7_stitch_X7_allPieces
set_option maxRecDepth 20000 in
theorem ggX7_stitch_X7_isWithin : GoodIn wsX7_stitch wsX7_isWithin := goodIn_r _ [27, 28, 29, 30, 31, 9, 32, 33, 34, 35, 36, 37, 38, 39, 40, 41, 42, 43, 44, 45, 46, 47, 48, 49, 50, 51, 52, 53, 54, 55, 56, 57, 58, 59, 60, 61, 62] (by decide +kernel) (by decide +kernel)
set_option maxRecDepth 20000 in
theorem gX7_stitch_X7_isWithin : GoodIn wsX7_stitch (wsV RX7 135 RX7 yX7_isWithin wsX7_isWithin) := goodIn_app (goodIn_of _ (by decide +kernel)) ggX7_stitch_X7_isWithin
set_option maxRecDepth 20000 in
theorem ggX7_part_X7_isNearPiece : GoodIn wsX7_part wsX7_isNearPiece := goodIn_r _ [11, 12, 13, 14, 10, 15, 3, 16, 17, 18, 19, 20, 21, 22, 23, 24, 25, 26, 27, 28, 29, 30, 31, 32, 33, 34, 35, 36, 37, 38, 39, 40, 41, 42, 43, 44, 45, 46, 47, 48, 49, 50, 51, 52, 53, 54, 55, 56, 57, 58, 59, 60, 61, 62, 63, 64] (by decide +kernel) (by decide +kernel)
set_option maxRecDepth 20000 in
theorem gX7_part_X7_isNearPiece : GoodIn wsX7_part (wsV RX7 120 RX7 yX7_isNearPiece wsX7_isNearPiece) := goodIn_app (goodIn_of _ (by decide +kernel)) ggX7_part_X7_isNearPiece
set_option maxRecDepth 20000 in
theorem ggX7_fits_X7_usedUpTo : GoodIn wsX7_fits wsX7_usedUpTo := goodIn_r _ [9, 2, 3, 10, 11, 12, 13, 14, 15, 16, 17, 18, 19, 20, 21, 22, 23, 24, 25, 26, 27, 28, 29, 30, 31, 32, 33, 34, 35, 36] (by decide +kernel) (by decide +kernel)
set_option maxRecDepth 20000 in
theorem gX7_fits_X7_usedUpTo : GoodIn wsX7_fits (wsV RX7 141 RX7 yX7_usedUpTo wsX7_usedUpTo) := goodIn_app (goodIn_of _ (by decide +kernel)) ggX7_fits_X7_usedUpTo
set_option maxRecDepth 20000 in
theorem ggX7_isFound_X7_fits : GoodIn wsX7_isFound wsX7_fits := goodIn_r _ [7, 8, 9, 1, 10, 11, 12, 13, 6, 14, 15, 16, 17, 18, 19, 20, 21, 22, 23, 24, 25, 26, 27, 28, 29, 30, 31, 32, 33, 34, 35, 36, 37, 38, 39, 40, 41] (by decide +kernel) (by decide +kernel)
set_option maxRecDepth 20000 in
theorem gX7_isFound_X7_fits : GoodIn wsX7_isFound (wsV RX7 144 RX7 yX7_fits wsX7_fits) := goodIn_app (goodIn_of _ (by decide +kernel)) ggX7_isFound_X7_fits
set_option maxRecDepth 20000 in
theorem ggX7_areaOf_X7_boxes : GoodIn wsX7_areaOf wsX7_boxes := goodIn_r _ [8, 9, 10, 26, 27, 28, 29, 30, 31, 32, 33, 34, 35, 36, 37, 38, 39, 40, 41, 42, 43, 44, 45, 46, 47, 48, 49, 50, 51, 52] (by decide +kernel) (by decide +kernel)
set_option maxRecDepth 20000 in
theorem gX7_areaOf_X7_boxes : GoodIn wsX7_areaOf (wsV RX7 108 RX7 yX7_boxes wsX7_boxes) := goodIn_app (goodIn_of _ (by decide +kernel)) ggX7_areaOf_X7_boxes
