set_option maxRecDepth 20000 in
theorem ggX0_isNearAny_Jx4a65c_size_8abf5 : GoodIn wsX0_isNearAny wsJx4a65c_size_8abf5 := goodIn_r _ [6, 7, 41, 42, 43] (by decide +kernel) (by decide +kernel)
set_option maxRecDepth 20000 in
theorem gX0_isNearAny_Jx4a65c_size_8abf5 : GoodIn wsX0_isNearAny (wsV RX0 22 RJx4a65c yJx4a65c_size_8abf5 wsJx4a65c_size_8abf5) := goodIn_app (goodIn_of _ (by decide +kernel)) ggX0_isNearAny_Jx4a65c_size_8abf5
set_option maxRecDepth 20000 in
theorem ggX0_isNearAny_Jx4a65c_get_915e3 : GoodIn wsX0_isNearAny wsJx4a65c_get_915e3 := goodIn_r _ [11, 7, 12, 13, 14, 15, 16, 17, 18, 19, 20, 21, 22, 5, 23, 24, 41, 42, 43] (by decide +kernel) (by decide +kernel)
set_option maxRecDepth 20000 in
theorem gX0_isNearAny_Jx4a65c_get_915e3 : GoodIn wsX0_isNearAny (wsV RX0 28 RJx4a65c yJx4a65c_get_915e3 wsJx4a65c_get_915e3) := goodIn_app (goodIn_of _ (by decide +kernel)) ggX0_isNearAny_Jx4a65c_get_915e3
set_option maxRecDepth 20000 in
theorem ggX0_isNearAny_X0_isNearBox : GoodIn wsX0_isNearAny wsX0_isNearBox := goodIn_r _ [29, 30, 31, 32, 33, 34, 35, 28, 36, 37, 38, 39, 40, 44, 45, 46, 47] (by decide +kernel) (by decide +kernel)
set_option maxRecDepth 20000 in
theorem gX0_isNearAny_X0_isNearBox : GoodIn wsX0_isNearAny (wsV RX0 32 RX0 yX0_isNearBox wsX0_isNearBox) := goodIn_app (goodIn_of _ (by decide +kernel)) ggX0_isNearAny_X0_isNearBox
set_option maxRecDepth 20000 in
theorem ggX0_isNearBox_X0_gap : GoodIn wsX0_isNearBox wsX0_gap := goodIn_r _ [8, 9, 10, 11, 12] (by decide +kernel) (by decide +kernel)
set_option maxRecDepth 20000 in
theorem gX0_isNearBox_X0_gap : GoodIn wsX0_isNearBox (va_wsS RX0 36 yX0_gap wsX0_gap) := goodIn_app (goodIn_of _ (by decide +kernel)) ggX0_isNearBox_X0_gap
set_option maxRecDepth 20000 in
theorem ggX1_init_X3_count : GoodIn wsX1_init wsX3_count := goodIn_r _ [16, 17, 18, 19, 20, 21, 22, 23, 93, 94, 95, 96] (by decide +kernel) (by decide +kernel)
set_option maxRecDepth 20000 in
theorem gX1_init_X3_count : GoodIn wsX1_init (wsV RX1 32 RX3 yX3_count wsX3_count) := goodIn_app (goodIn_of _ (by decide +kernel)) ggX1_init_X3_count
set_option maxRecDepth 20000 in
theorem ggX1_init_X3_areas : GoodIn wsX1_init wsX3_areas := goodIn_r _ [27, 17, 28, 18, 19, 20, 21, 22, 23, 29, 30, 31, 32, 33, 34, 35, 36, 37, 38, 39, 40, 41, 42, 43, 44, 45, 46, 47, 48, 49, 50, 51, 52, 53, 54, 55, 56, 57, 58, 59, 60, 61, 62, 63, 93, 94, 95, 96, 97, 98, 99, 100, 101, 102, 103, 104] (by decide +kernel) (by decide +kernel)
set_option maxRecDepth 20000 in
theorem gX1_init_X3_areas : GoodIn wsX1_init (wsV RX1 38 RX3 yX3_areas wsX3_areas) := goodIn_app (goodIn_of _ (by decide +kernel)) ggX1_init_X3_areas
set_option maxRecDepth 20000 in
theorem ggX1_init_X1_weigh : GoodIn wsX1_init wsX1_weigh := goodIn_r _ [68, 8, 10, 87, 88, 89, 90, 91, 92] (by decide +kernel) (by decide +kernel)
set_option maxRecDepth 20000 in
theorem gX1_init_X1_weigh : GoodIn wsX1_init (wsV RX1 41 RX1 yX1_weigh wsX1_weigh) := goodIn_app (goodIn_of _ (by decide +kernel)) ggX1_init_X1_weigh
set_option maxRecDepth 20000 in
theorem ggX1_init_X3_isAfterStitch : GoodIn wsX1_init wsX3_isAfterStitch := goodIn_r _ [72, 73, 74, 75, 15, 76, 17, 28, 77, 18, 19, 20, 21, 22, 23, 29, 30, 31, 32, 33, 34, 35, 36, 37, 38, 39, 40, 41, 42, 43, 44, 45, 93, 97, 98, 99, 100, 94, 95, 96] (by decide +kernel) (by decide +kernel)
set_option maxRecDepth 20000 in
theorem gX1_init_X3_isAfterStitch : GoodIn wsX1_init (wsV RX1 45 RX3 yX3_isAfterStitch wsX3_isAfterStitch) := goodIn_app (goodIn_of _ (by decide +kernel)) ggX1_init_X3_isAfterStitch
set_option maxRecDepth 20000 in
theorem ggX1_init_X3_owner : GoodIn wsX1_init wsX3_owner := goodIn_r _ [76, 17, 28, 77, 18, 19, 20, 21, 22, 23, 29, 30, 31, 32, 33, 34, 35, 36, 37, 38, 39, 40, 41, 42, 43, 44, 45, 93, 97, 98, 99, 100, 94, 95, 96] (by decide +kernel) (by decide +kernel)
set_option maxRecDepth 20000 in
theorem gX1_init_X3_owner : GoodIn wsX1_init (wsV RX1 49 RX3 yX3_owner wsX3_owner) := goodIn_app (goodIn_of _ (by decide +kernel)) ggX1_init_X3_owner
set_option maxRecDepth 20000 in
theorem ggX1_init_X1_noteStitch : GoodIn wsX1_init wsX1_noteStitch := goodIn_r _ [82, 7, 6, 87, 88, 89, 90, 91, 92] (by decide +kernel) (by decide +kernel)
set_option maxRecDepth 20000 in
theorem gX1_init_X1_noteStitch : GoodIn wsX1_init (wsV RX1 53 RX1 yX1_noteStitch wsX1_noteStitch) := goodIn_app (goodIn_of _ (by decide +kernel)) ggX1_init_X1_noteStitch
set_option maxRecDepth 20000 in
theorem ggX1_init_X1_noteFirst : GoodIn wsX1_init wsX1_noteFirst := goodIn_r _ [86, 5, 87, 88, 89, 90, 91, 92] (by decide +kernel) (by decide +kernel)
set_option maxRecDepth 20000 in
theorem gX1_init_X1_noteFirst : GoodIn wsX1_init (wsV RX1 57 RX1 yX1_noteFirst wsX1_noteFirst) := goodIn_app (goodIn_of _ (by decide +kernel)) ggX1_init_X1_noteFirst
set_option maxRecDepth 20000 in
theorem ggX2_areas_Jx4a65c_size_8abf5 : GoodIn wsX2_areas wsJx4a65c_size_8abf5 := goodIn_r _ [7, 8, 39, 40, 41] (by decide +kernel) (by decide +kernel)
set_option maxRecDepth 20000 in
theorem gX2_areas_Jx4a65c_size_8abf5 : GoodIn wsX2_areas (wsV RX2 23 RJx4a65c yJx4a65c_size_8abf5 wsJx4a65c_size_8abf5) := goodIn_app (goodIn_of _ (by decide +kernel)) ggX2_areas_Jx4a65c_size_8abf5
set_option maxRecDepth 20000 in
theorem ggX2_areas_Jx4a65c_get_915e3 : GoodIn wsX2_areas wsJx4a65c_get_915e3 := goodIn_r _ [12, 8, 13, 14, 15, 16, 17, 18, 19, 20, 21, 22, 23, 6, 24, 25, 39, 40, 41] (by decide +kernel) (by decide +kernel)
set_option maxRecDepth 20000 in
theorem gX2_areas_Jx4a65c_get_915e3 : GoodIn wsX2_areas (wsV RX2 29 RJx4a65c yJx4a65c_get_915e3 wsJx4a65c_get_915e3) := goodIn_app (goodIn_of _ (by decide +kernel)) ggX2_areas_Jx4a65c_get_915e3
set_option maxRecDepth 20000 in
theorem ggX2_areas_X0_area : GoodIn wsX2_areas wsX0_area := goodIn_r _ [30, 31, 32, 33, 34, 42, 43, 44, 45] (by decide +kernel) (by decide +kernel)
set_option maxRecDepth 20000 in
theorem gX2_areas_X0_area : GoodIn wsX2_areas (wsV RX2 35 RX0 yX0_area wsX0_area) := goodIn_app (goodIn_of _ (by decide +kernel)) ggX2_areas_X0_area
set_option maxRecDepth 20000 in
theorem ggX2_isNearPiece_Jx4a65c_size_8abf5 : GoodIn wsX2_isNearPiece wsJx4a65c_size_8abf5 := goodIn_r _ [7, 8, 53, 54, 55] (by decide +kernel) (by decide +kernel)
set_option maxRecDepth 20000 in
theorem gX2_isNearPiece_Jx4a65c_size_8abf5 : GoodIn wsX2_isNearPiece (wsV RX2 23 RJx4a65c yJx4a65c_size_8abf5 wsJx4a65c_size_8abf5) := goodIn_app (goodIn_of _ (by decide +kernel)) ggX2_isNearPiece_Jx4a65c_size_8abf5
set_option maxRecDepth 20000 in
theorem ggX2_isNearPiece_Jx4a65c_get_915e3 : GoodIn wsX2_isNearPiece wsJx4a65c_get_915e3 := goodIn_r _ [12, 8, 13, 14, 15, 16, 17, 18, 19, 20, 21, 22, 23, 6, 24, 25, 53, 54, 55] (by decide +kernel) (by decide +kernel)
set_option maxRecDepth 20000 in
theorem gX2_isNearPiece_Jx4a65c_get_915e3 : GoodIn wsX2_isNearPiece (wsV RX2 29 RJx4a65c yJx4a65c_get_915e3 wsJx4a65c_get_915e3) := goodIn_app (goodIn_of _ (by decide +kernel)) ggX2_isNearPiece_Jx4a65c_get_915e3
set_option maxRecDepth 20000 in
theorem ggX2_isNearPiece_X0_isNearAny : GoodIn wsX2_isNearPiece wsX0_isNearAny := goodIn_r _ [30, 31, 32, 4, 5, 6, 7, 8, 33, 10, 11, 12, 13, 14, 15, 16, 17, 18, 19, 20, 21, 22, 23, 24, 25, 34, 35, 36, 29, 37, 38, 39, 40, 41, 42, 43, 44, 45, 46, 47, 48, 53, 54, 55, 56, 57, 58, 59] (by decide +kernel) (by decide +kernel)
set_option maxRecDepth 20000 in
theorem gX2_isNearPiece_X0_isNearAny : GoodIn wsX2_isNearPiece (wsV RX2 39 RX0 yX0_isNearAny wsX0_isNearAny) := goodIn_app (goodIn_of _ (by decide +kernel)) ggX2_isNearPiece_X0_isNearAny
set_option maxRecDepth 20000 in
theorem ggX3_init_Jx4a65c_init_da8c8 : GoodIn wsX3_init wsJx4a65c_init_da8c8 := goodIn_r _ [10, 11, 12, 13, 14, 15, 16, 17, 18, 19, 20, 21, 22, 2, 3, 23, 24, 25] (by decide +kernel) (by decide +kernel)
set_option maxRecDepth 20000 in
theorem gX3_init_Jx4a65c_init_da8c8 : GoodIn wsX3_init (wsJx4a65c_init_da8c8) := ggX3_init_Jx4a65c_init_da8c8
set_option maxRecDepth 20000 in
theorem ggX3_add_Jx4a65c_size_8abf5 : GoodIn wsX3_add wsJx4a65c_size_8abf5 := goodIn_r _ [9, 10, 80, 81, 82] (by decide +kernel) (by decide +kernel)
set_option maxRecDepth 20000 in
theorem gX3_add_Jx4a65c_size_8abf5 : GoodIn wsX3_add (wsV RX3 18 RJx4a65c yJx4a65c_size_8abf5 wsJx4a65c_size_8abf5) := goodIn_app (goodIn_of _ (by decide +kernel)) ggX3_add_Jx4a65c_size_8abf5
set_option maxRecDepth 20000 in
theorem ggX3_add_X2_init : GoodIn wsX3_add wsX2_init := goodIn_r _ [13, 14, 15, 16, 17, 18, 19, 20, 76, 77, 78, 79] (by decide +kernel) (by decide +kernel)
set_option maxRecDepth 20000 in
theorem gX3_add_X2_init : GoodIn wsX3_add (wsX2_init) := ggX3_add_X2_init
set_option maxRecDepth 20000 in
theorem ggX3_add_Jx4a65c_add_9ea2d : GoodIn wsX3_add wsJx4a65c_add_9ea2d := goodIn_r _ [24, 25, 26, 27, 10, 28, 29, 30, 8, 31, 32, 33, 34, 35, 36, 37, 38, 39, 40, 41, 42, 43, 44, 45, 46, 47, 48, 49, 50, 51, 52, 53, 54, 55, 56, 57, 58, 59, 60, 61, 62, 63, 64, 65, 66, 67, 68, 69, 70, 71, 72, 73, 74, 80, 81, 82] (by decide +kernel) (by decide +kernel)
set_option maxRecDepth 20000 in
theorem gX3_add_Jx4a65c_add_9ea2d : GoodIn wsX3_add (wsV RX3 27 RJx4a65c yJx4a65c_add_9ea2d wsJx4a65c_add_9ea2d) := goodIn_app (goodIn_of _ (by decide +kernel)) ggX3_add_Jx4a65c_add_9ea2d
set_option maxRecDepth 20000 in
theorem ggX3_count_Jx4a65c_size_8abf5 : GoodIn wsX3_count wsJx4a65c_size_8abf5 := goodIn_r _ [6, 7, 9, 10, 11] (by decide +kernel) (by decide +kernel)
set_option maxRecDepth 20000 in
theorem gX3_count_Jx4a65c_size_8abf5 : GoodIn wsX3_count (wsV RX3 18 RJx4a65c yJx4a65c_size_8abf5 wsJx4a65c_size_8abf5) := goodIn_app (goodIn_of _ (by decide +kernel)) ggX3_count_Jx4a65c_size_8abf5
set_option maxRecDepth 20000 in
theorem ggX3_owner_Jx4a65c_size_8abf5 : GoodIn wsX3_owner wsJx4a65c_size_8abf5 := goodIn_r _ [8, 9, 32, 33, 34] (by decide +kernel) (by decide +kernel)
set_option maxRecDepth 20000 in
theorem gX3_owner_Jx4a65c_size_8abf5 : GoodIn wsX3_owner (wsV RX3 18 RJx4a65c yJx4a65c_size_8abf5 wsJx4a65c_size_8abf5) := goodIn_app (goodIn_of _ (by decide +kernel)) ggX3_owner_Jx4a65c_size_8abf5
set_option maxRecDepth 20000 in
theorem ggX3_owner_Jx4a65c_get_915e3 : GoodIn wsX3_owner wsJx4a65c_get_915e3 := goodIn_r _ [13, 9, 14, 15, 16, 17, 18, 19, 20, 21, 22, 23, 24, 7, 25, 26, 32, 33, 34] (by decide +kernel) (by decide +kernel)
set_option maxRecDepth 20000 in
theorem gX3_owner_Jx4a65c_get_915e3 : GoodIn wsX3_owner (wsV RX3 31 RJx4a65c yJx4a65c_get_915e3 wsJx4a65c_get_915e3) := goodIn_app (goodIn_of _ (by decide +kernel)) ggX3_owner_Jx4a65c_get_915e3
set_option maxRecDepth 20000 in
theorem ggX3_told_Jx4a65c_size_8abf5 : GoodIn wsX3_told wsJx4a65c_size_8abf5 := goodIn_r _ [8, 9, 32, 33, 34] (by decide +kernel) (by decide +kernel)
set_option maxRecDepth 20000 in
theorem gX3_told_Jx4a65c_size_8abf5 : GoodIn wsX3_told (wsV RX3 18 RJx4a65c yJx4a65c_size_8abf5 wsJx4a65c_size_8abf5) := goodIn_app (goodIn_of _ (by decide +kernel)) ggX3_told_Jx4a65c_size_8abf5
set_option maxRecDepth 20000 in
theorem ggX3_told_Jx4a65c_get_915e3 : GoodIn wsX3_told wsJx4a65c_get_915e3 := goodIn_r _ [13, 9, 14, 15, 16, 17, 18, 19, 20, 21, 22, 23, 24, 7, 25, 26, 32, 33, 34] (by decide +kernel) (by decide +kernel)
set_option maxRecDepth 20000 in
theorem gX3_told_Jx4a65c_get_915e3 : GoodIn wsX3_told (wsV RX3 31 RJx4a65c yJx4a65c_get_915e3 wsJx4a65c_get_915e3) := goodIn_app (goodIn_of _ (by decide +kernel)) ggX3_told_Jx4a65c_get_915e3
set_option maxRecDepth 20000 in
theorem ggX3_nearPieces_Jx4a65c_size_8abf5 : GoodIn wsX3_nearPieces wsJx4a65c_size_8abf5 := goodIn_r _ [8, 9, 32, 33, 34] (by decide +kernel) (by decide +kernel)
set_option maxRecDepth 20000 in
theorem gX3_nearPieces_Jx4a65c_size_8abf5 : GoodIn wsX3_nearPieces (wsV RX3 18 RJx4a65c yJx4a65c_size_8abf5 wsJx4a65c_size_8abf5) := goodIn_app (goodIn_of _ (by decide +kernel)) ggX3_nearPieces_Jx4a65c_size_8abf5
set_option maxRecDepth 20000 in
theorem ggX3_nearPieces_Jx4a65c_get_915e3 : GoodIn wsX3_nearPieces wsJx4a65c_get_915e3 := goodIn_r _ [13, 9, 14, 15, 16, 17, 18, 19, 20, 21, 22, 23, 24, 7, 25, 26, 32, 33, 34] (by decide +kernel) (by decide +kernel)
set_option maxRecDepth 20000 in
theorem gX3_nearPieces_Jx4a65c_get_915e3 : GoodIn wsX3_nearPieces (wsV RX3 31 RJx4a65c yJx4a65c_get_915e3 wsJx4a65c_get_915e3) := goodIn_app (goodIn_of _ (by decide +kernel)) ggX3_nearPieces_Jx4a65c_get_915e3
set_option maxRecDepth 20000 in
theorem ggX3_areas_Jx4a65c_size_8abf5 : GoodIn wsX3_areas wsJx4a65c_size_8abf5 := goodIn_r _ [7, 8, 45, 46, 47] (by decide +kernel) (by decide +kernel)
set_option maxRecDepth 20000 in
theorem gX3_areas_Jx4a65c_size_8abf5 : GoodIn wsX3_areas (wsV RX3 18 RJx4a65c yJx4a65c_size_8abf5 wsJx4a65c_size_8abf5) := goodIn_app (goodIn_of _ (by decide +kernel)) ggX3_areas_Jx4a65c_size_8abf5
set_option maxRecDepth 20000 in
theorem ggX3_areas_Jx4a65c_get_915e3 : GoodIn wsX3_areas wsJx4a65c_get_915e3 := goodIn_r _ [12, 8, 13, 14, 15, 16, 17, 18, 19, 20, 21, 22, 23, 6, 24, 25, 45, 46, 47] (by decide +kernel) (by decide +kernel)
set_option maxRecDepth 20000 in
theorem gX3_areas_Jx4a65c_get_915e3 : GoodIn wsX3_areas (wsV RX3 31 RJx4a65c yJx4a65c_get_915e3 wsJx4a65c_get_915e3) := goodIn_app (goodIn_of _ (by decide +kernel)) ggX3_areas_Jx4a65c_get_915e3
