set_option maxRecDepth 20000 in
theorem ggX3_areas_X2_areas : GoodIn wsX3_areas wsX2_areas := goodIn_r _ [30, 31, 32, 33, 4, 5, 6, 7, 8, 34, 10, 11, 12, 13, 14, 15, 16, 17, 18, 19, 20, 21, 22, 23, 24, 25, 35, 36, 37, 38, 39, 40, 41, 42, 43, 48, 49, 50, 51, 45, 46, 47, 52, 53, 54, 55] (by decide +kernel) (by decide +kernel)
set_option maxRecDepth 20000 in
theorem gX3_areas_X2_areas : GoodIn wsX3_areas (wsV RX3 45 RX2 yX2_areas wsX2_areas) := goodIn_app (goodIn_of _ (by decide +kernel)) ggX3_areas_X2_areas
set_option maxRecDepth 20000 in
theorem ggX3_isAfterStitch_X3_owner : GoodIn wsX3_isAfterStitch wsX3_owner := goodIn_r _ [5, 6, 7, 8, 9, 10, 11, 12, 13, 14, 15, 16, 17, 18, 19, 20, 21, 22, 23, 24, 25, 26, 27, 28, 29, 30, 31, 32, 33, 34, 35, 36, 37, 38, 39] (by decide +kernel) (by decide +kernel)
set_option maxRecDepth 20000 in
theorem gX3_isAfterStitch_X3_owner : GoodIn wsX3_isAfterStitch (wsV RX3 49 RX3 yX3_owner wsX3_owner) := goodIn_app (goodIn_of _ (by decide +kernel)) ggX3_isAfterStitch_X3_owner
set_option maxRecDepth 20000 in
theorem ggX3_findNearOnes_Jx4a65c_size_8abf5 : GoodIn wsX3_findNearOnes wsJx4a65c_size_8abf5 := goodIn_r _ [9, 10, 65, 66, 67] (by decide +kernel) (by decide +kernel)
set_option maxRecDepth 20000 in
theorem gX3_findNearOnes_Jx4a65c_size_8abf5 : GoodIn wsX3_findNearOnes (wsV RX3 18 RJx4a65c yJx4a65c_size_8abf5 wsJx4a65c_size_8abf5) := goodIn_app (goodIn_of _ (by decide +kernel)) ggX3_findNearOnes_Jx4a65c_size_8abf5
set_option maxRecDepth 20000 in
theorem ggX3_findNearOnes_Jx4a65c_get_915e3 : GoodIn wsX3_findNearOnes wsJx4a65c_get_915e3 := goodIn_r _ [14, 10, 15, 16, 17, 18, 19, 20, 21, 22, 23, 24, 25, 8, 26, 27, 65, 66, 67] (by decide +kernel) (by decide +kernel)
set_option maxRecDepth 20000 in
theorem gX3_findNearOnes_Jx4a65c_get_915e3 : GoodIn wsX3_findNearOnes (wsV RX3 31 RJx4a65c yJx4a65c_get_915e3 wsJx4a65c_get_915e3) := goodIn_app (goodIn_of _ (by decide +kernel)) ggX3_findNearOnes_Jx4a65c_get_915e3
set_option maxRecDepth 20000 in
theorem ggX3_findNearOnes_X2_isNearPiece : GoodIn wsX3_findNearOnes wsX2_isNearPiece := goodIn_r _ [32, 33, 34, 35, 6, 7, 8, 9, 10, 36, 12, 13, 14, 15, 16, 17, 18, 19, 20, 21, 22, 23, 24, 25, 26, 27, 37, 38, 39, 40, 41, 42, 43, 44, 45, 46, 47, 48, 49, 50, 51, 52, 53, 54, 55, 56, 57, 58, 59, 61, 62, 63, 64, 65, 66, 67, 68, 69, 70, 71] (by decide +kernel) (by decide +kernel)
set_option maxRecDepth 20000 in
theorem gX3_findNearOnes_X2_isNearPiece : GoodIn wsX3_findNearOnes (wsV RX3 52 RX2 yX2_isNearPiece wsX2_isNearPiece) := goodIn_app (goodIn_of _ (by decide +kernel)) ggX3_findNearOnes_X2_isNearPiece
set_option maxRecDepth 20000 in
theorem ggX3_findOddRing_Jx4a65c_size_8abf5 : GoodIn wsX3_findOddRing wsJx4a65c_size_8abf5 := goodIn_r _ [7, 8, 56, 57, 58] (by decide +kernel) (by decide +kernel)
set_option maxRecDepth 20000 in
theorem gX3_findOddRing_Jx4a65c_size_8abf5 : GoodIn wsX3_findOddRing (wsV RX3 18 RJx4a65c yJx4a65c_size_8abf5 wsJx4a65c_size_8abf5) := goodIn_app (goodIn_of _ (by decide +kernel)) ggX3_findOddRing_Jx4a65c_size_8abf5
set_option maxRecDepth 20000 in
theorem ggX3_findOddRing_X3_fillWalks : GoodIn wsX3_findOddRing wsX3_fillWalks := goodIn_r _ [13, 14, 15, 16, 12, 17, 2, 3, 4, 5, 6, 7, 8, 18, 19, 20, 21, 22, 23, 24, 25, 26, 27, 28, 29, 30, 31, 32, 33, 34, 35, 36, 37, 38, 39, 40, 55, 56, 57, 58, 59, 60, 61, 62] (by decide +kernel) (by decide +kernel)
set_option maxRecDepth 20000 in
theorem gX3_findOddRing_X3_fillWalks : GoodIn wsX3_findOddRing (wsV RX3 56 RX3 yX3_fillWalks wsX3_fillWalks) := goodIn_app (goodIn_of _ (by decide +kernel)) ggX3_findOddRing_X3_fillWalks
set_option maxRecDepth 20000 in
theorem ggX3_findOddRing_X3_writeLeastRing : GoodIn wsX3_findOddRing wsX3_writeLeastRing := goodIn_r _ [44, 45, 46, 47, 12, 48, 2, 22, 49, 3, 4, 5, 6, 7, 8, 24, 25, 26, 27, 28, 29, 30, 31, 32, 33, 34, 35, 36, 37, 38, 39, 40, 18, 19, 20, 21, 23, 50, 51, 52, 53, 54, 55, 59, 60, 61, 62, 56, 57, 58] (by decide +kernel) (by decide +kernel)
set_option maxRecDepth 20000 in
theorem gX3_findOddRing_X3_writeLeastRing : GoodIn wsX3_findOddRing (wsV RX3 60 RX3 yX3_writeLeastRing wsX3_writeLeastRing) := goodIn_app (goodIn_of _ (by decide +kernel)) ggX3_findOddRing_X3_writeLeastRing
set_option maxRecDepth 20000 in
theorem ggX3_fillWalks_X3_nearAnyOf : GoodIn wsX3_fillWalks wsX3_nearAnyOf := goodIn_r _ [5, 6, 7, 8, 9, 10, 11, 12, 13, 14, 15, 4, 16, 17, 18, 19, 20, 21, 22, 23, 24, 25, 26, 27, 28, 29, 30, 31, 32, 33, 34, 35, 36, 37, 38, 39, 40, 41, 42, 43] (by decide +kernel) (by decide +kernel)
set_option maxRecDepth 20000 in
theorem gX3_fillWalks_X3_nearAnyOf : GoodIn wsX3_fillWalks (wsV RX3 64 RX3 yX3_nearAnyOf wsX3_nearAnyOf) := goodIn_app (goodIn_of _ (by decide +kernel)) ggX3_fillWalks_X3_nearAnyOf
set_option maxRecDepth 20000 in
theorem ggX3_nearAnyOf_Jx4a65c_size_8abf5 : GoodIn wsX3_nearAnyOf wsJx4a65c_size_8abf5 := goodIn_r _ [6, 7, 33, 34, 35] (by decide +kernel) (by decide +kernel)
set_option maxRecDepth 20000 in
theorem gX3_nearAnyOf_Jx4a65c_size_8abf5 : GoodIn wsX3_nearAnyOf (wsV RX3 18 RJx4a65c yJx4a65c_size_8abf5 wsJx4a65c_size_8abf5) := goodIn_app (goodIn_of _ (by decide +kernel)) ggX3_nearAnyOf_Jx4a65c_size_8abf5
set_option maxRecDepth 20000 in
theorem ggX3_nearAnyOf_X3_nearPieces : GoodIn wsX3_nearAnyOf wsX3_nearPieces := goodIn_r _ [12, 1, 13, 14, 2, 3, 4, 5, 6, 7, 15, 16, 17, 18, 19, 20, 21, 22, 23, 24, 25, 26, 27, 28, 29, 30, 31, 32, 36, 37, 38, 39, 33, 34, 35] (by decide +kernel) (by decide +kernel)
set_option maxRecDepth 20000 in
theorem gX3_nearAnyOf_X3_nearPieces : GoodIn wsX3_nearAnyOf (wsV RX3 67 RX3 yX3_nearPieces wsX3_nearPieces) := goodIn_app (goodIn_of _ (by decide +kernel)) ggX3_nearAnyOf_X3_nearPieces
set_option maxRecDepth 20000 in
theorem ggX3_writeLeastRing_X3_owner : GoodIn wsX3_writeLeastRing wsX3_owner := goodIn_r _ [5, 6, 7, 8, 9, 10, 11, 12, 13, 14, 15, 16, 17, 18, 19, 20, 21, 22, 23, 24, 25, 26, 27, 28, 29, 30, 31, 42, 43, 44, 45, 46, 47, 48, 49] (by decide +kernel) (by decide +kernel)
set_option maxRecDepth 20000 in
theorem gX3_writeLeastRing_X3_owner : GoodIn wsX3_writeLeastRing (wsV RX3 49 RX3 yX3_owner wsX3_owner) := goodIn_app (goodIn_of _ (by decide +kernel)) ggX3_writeLeastRing_X3_owner
set_option maxRecDepth 20000 in
theorem ggX3_writeLeastRing_X3_nearPieces : GoodIn wsX3_writeLeastRing wsX3_nearPieces := goodIn_r _ [35, 6, 7, 36, 9, 10, 11, 12, 13, 14, 15, 16, 17, 18, 19, 20, 21, 22, 23, 24, 25, 26, 27, 28, 29, 30, 31, 42, 43, 44, 45, 46, 47, 48, 49] (by decide +kernel) (by decide +kernel)
set_option maxRecDepth 20000 in
theorem gX3_writeLeastRing_X3_nearPieces : GoodIn wsX3_writeLeastRing (wsV RX3 67 RX3 yX3_nearPieces wsX3_nearPieces) := goodIn_app (goodIn_of _ (by decide +kernel)) ggX3_writeLeastRing_X3_nearPieces
set_option maxRecDepth 20000 in
theorem ggX3_writeLeastRing_J6_numberOfTrailingZeros_0f7a4 : GoodIn wsX3_writeLeastRing wsJ6_numberOfTrailingZeros_0f7a4 := goodIn_r _ [40, 41] (by decide +kernel) (by decide +kernel)
set_option maxRecDepth 20000 in
theorem gX3_writeLeastRing_J6_numberOfTrailingZeros_0f7a4 : GoodIn wsX3_writeLeastRing (va_wsS RX3 69 yJ6_numberOfTrailingZeros_0f7a4 wsJ6_numberOfTrailingZeros_0f7a4) := goodIn_app (goodIn_of _ (by decide +kernel)) ggX3_writeLeastRing_J6_numberOfTrailingZeros_0f7a4
set_option maxRecDepth 20000 in
theorem ggX4_init_X3_count : GoodIn wsX4_init wsX3_count := goodIn_r _ [26, 27, 28, 29, 30, 31, 32, 33, 80, 81, 82, 83] (by decide +kernel) (by decide +kernel)
set_option maxRecDepth 20000 in
theorem gX4_init_X3_count : GoodIn wsX4_init (wsV RX4 47 RX3 yX3_count wsX3_count) := goodIn_app (goodIn_of _ (by decide +kernel)) ggX4_init_X3_count
set_option maxRecDepth 20000 in
theorem ggX4_init_X3_nearPieces : GoodIn wsX4_init wsX3_nearPieces := goodIn_r _ [37, 27, 38, 39, 28, 29, 30, 31, 32, 33, 40, 41, 42, 43, 44, 45, 46, 47, 48, 49, 50, 51, 52, 53, 54, 55, 56, 80, 84, 85, 86, 87, 81, 82, 83] (by decide +kernel) (by decide +kernel)
set_option maxRecDepth 20000 in
theorem gX4_init_X3_nearPieces : GoodIn wsX4_init (wsV RX4 55 RX3 yX3_nearPieces wsX3_nearPieces) := goodIn_app (goodIn_of _ (by decide +kernel)) ggX4_init_X3_nearPieces
set_option maxRecDepth 20000 in
theorem ggX4_init_X3_told : GoodIn wsX4_init wsX3_told := goodIn_r _ [60, 27, 38, 61, 28, 29, 30, 31, 32, 33, 40, 41, 42, 43, 44, 45, 46, 47, 48, 49, 50, 51, 52, 53, 54, 55, 56, 80, 84, 85, 86, 87, 81, 82, 83] (by decide +kernel) (by decide +kernel)
set_option maxRecDepth 20000 in
theorem gX4_init_X3_told : GoodIn wsX4_init (wsV RX4 59 RX3 yX3_told wsX3_told) := goodIn_app (goodIn_of _ (by decide +kernel)) ggX4_init_X3_told
set_option maxRecDepth 20000 in
theorem ggX4_init_X3_isAfterStitch : GoodIn wsX4_init wsX3_isAfterStitch := goodIn_r _ [65, 66, 67, 68, 25, 69, 27, 38, 70, 28, 29, 30, 31, 32, 33, 40, 41, 42, 43, 44, 45, 46, 47, 48, 49, 50, 51, 52, 53, 54, 55, 56, 80, 84, 85, 86, 87, 81, 82, 83] (by decide +kernel) (by decide +kernel)
set_option maxRecDepth 20000 in
theorem gX4_init_X3_isAfterStitch : GoodIn wsX4_init (wsV RX4 61 RX3 yX3_isAfterStitch wsX3_isAfterStitch) := goodIn_app (goodIn_of _ (by decide +kernel)) ggX4_init_X3_isAfterStitch
set_option maxRecDepth 20000 in
theorem ggX4_findBest_X4_goOn : GoodIn wsX4_findBest wsX4_goOn := goodIn_r _ [9, 10, 1, 11, 12, 13, 14, 15, 16, 3, 17, 18, 19, 8, 20, 21, 22, 23, 24, 2, 25, 4, 26, 27, 28, 29, 30, 5, 6, 7, 31, 32, 33, 34, 35, 36, 37, 38, 39] (by decide +kernel) (by decide +kernel)
set_option maxRecDepth 20000 in
theorem gX4_findBest_X4_goOn : GoodIn wsX4_findBest (wsV RX4 65 RX4 yX4_goOn wsX4_goOn) := goodIn_app (goodIn_of _ (by decide +kernel)) ggX4_findBest_X4_goOn
set_option maxRecDepth 20000 in
theorem ggX4_goOn_X4_isDeadEnd : GoodIn wsX4_goOn wsX4_isDeadEnd := goodIn_r _ [14, 2, 9, 15, 16, 17, 13, 18, 19, 20, 21, 30, 31, 32, 33, 34, 35, 36, 37, 38] (by decide +kernel) (by decide +kernel)
set_option maxRecDepth 20000 in
theorem gX4_goOn_X4_isDeadEnd : GoodIn wsX4_goOn (wsV RX4 69 RX4 yX4_isDeadEnd wsX4_isDeadEnd) := goodIn_app (goodIn_of _ (by decide +kernel)) ggX4_goOn_X4_isDeadEnd
set_option maxRecDepth 20000 in
theorem ggX4_goOn_X4_canHave : GoodIn wsX4_goOn wsX4_canHave := goodIn_r _ [18, 19, 20, 21, 30, 31, 32, 33, 34, 35, 36, 37, 38] (by decide +kernel) (by decide +kernel)
set_option maxRecDepth 20000 in
theorem gX4_goOn_X4_canHave : GoodIn wsX4_goOn (wsV RX4 78 RX4 yX4_canHave wsX4_canHave) := goodIn_app (goodIn_of _ (by decide +kernel)) ggX4_goOn_X4_canHave
set_option maxRecDepth 20000 in
theorem ggX4_goOn_X4_tryColour : GoodIn wsX4_goOn wsX4_tryColour := goodIn_r _ [25, 2, 9, 26, 3, 21, 27, 28, 29, 13, 0, 1, 4, 5, 6, 7, 8, 10, 11, 12, 14, 15, 16, 17, 18, 19, 20, 22, 23, 24, 30, 31, 32, 33, 34, 35, 36, 37, 38] (by decide +kernel) (by decide +kernel)
set_option maxRecDepth 20000 in
theorem gX4_goOn_X4_tryColour : GoodIn wsX4_goOn (wsV RX4 82 RX4 yX4_tryColour wsX4_tryColour) := goodIn_app (goodIn_of _ (by decide +kernel)) ggX4_goOn_X4_tryColour
set_option maxRecDepth 20000 in
theorem ggX4_tryColour_X4_goOn : GoodIn wsX4_tryColour wsX4_goOn := goodIn_r _ [10, 11, 1, 4, 12, 13, 14, 15, 16, 2, 17, 18, 19, 9, 20, 21, 22, 23, 24, 25, 26, 5, 27, 28, 29, 0, 3, 6, 7, 8, 30, 31, 32, 33, 34, 35, 36, 37, 38] (by decide +kernel) (by decide +kernel)
set_option maxRecDepth 20000 in
theorem gX4_tryColour_X4_goOn : GoodIn wsX4_tryColour (wsV RX4 65 RX4 yX4_goOn wsX4_goOn) := goodIn_app (goodIn_of _ (by decide +kernel)) ggX4_tryColour_X4_goOn
set_option maxRecDepth 20000 in
theorem ggX4_isDeadEnd_X4_canHave : GoodIn wsX4_isDeadEnd wsX4_canHave := goodIn_r _ [7, 8, 9, 10, 11, 12, 13, 14, 15, 16, 17, 18, 19] (by decide +kernel) (by decide +kernel)
set_option maxRecDepth 20000 in
theorem gX4_isDeadEnd_X4_canHave : GoodIn wsX4_isDeadEnd (wsV RX4 78 RX4 yX4_canHave wsX4_canHave) := goodIn_app (goodIn_of _ (by decide +kernel)) ggX4_isDeadEnd_X4_canHave
set_option maxRecDepth 20000 in
theorem ggX5_init_Jx4a65c_init_da8c8 : GoodIn wsX5_init wsJx4a65c_init_da8c8 := goodIn_r _ [19, 20, 21, 22, 23, 24, 25, 26, 27, 28, 29, 30, 31, 2, 3, 32, 33, 34] (by decide +kernel) (by decide +kernel)
set_option maxRecDepth 20000 in
theorem gX5_init_Jx4a65c_init_da8c8 : GoodIn wsX5_init (wsJx4a65c_init_da8c8) := ggX5_init_Jx4a65c_init_da8c8
set_option maxRecDepth 20000 in
theorem ggX5_isOpen_Jx4a65c_isEmpty_aae02 : GoodIn wsX5_isOpen wsJx4a65c_isEmpty_aae02 := goodIn_r _ [7, 8, 18, 19, 20] (by decide +kernel) (by decide +kernel)
set_option maxRecDepth 20000 in
theorem gX5_isOpen_Jx4a65c_isEmpty_aae02 : GoodIn wsX5_isOpen (wsV RX5 46 RJx4a65c yJx4a65c_isEmpty_aae02 wsJx4a65c_isEmpty_aae02) := goodIn_app (goodIn_of _ (by decide +kernel)) ggX5_isOpen_Jx4a65c_isEmpty_aae02
set_option maxRecDepth 20000 in
theorem ggX5_addCorner_X0_init : GoodIn wsX5_addCorner wsX0_init := goodIn_r _ [17, 18, 19, 20, 21, 22, 23, 24, 89, 90, 91, 92] (by decide +kernel) (by decide +kernel)
set_option maxRecDepth 20000 in
theorem gX5_addCorner_X0_init : GoodIn wsX5_addCorner (wsX0_init) := ggX5_addCorner_X0_init
set_option maxRecDepth 20000 in
theorem ggX5_addCorner_Jx4a65c_add_9ea2d : GoodIn wsX5_addCorner wsJx4a65c_add_9ea2d := goodIn_r _ [29, 30, 31, 32, 33, 34, 35, 36, 28, 37, 38, 39, 40, 41, 42, 43, 44, 45, 46, 47, 48, 9, 49, 50, 51, 52, 53, 54, 55, 56, 57, 58, 59, 60, 61, 62, 63, 64, 65, 66, 67, 68, 69, 70, 71, 72, 73, 74, 75, 76, 77, 78, 79, 93, 94, 95] (by decide +kernel) (by decide +kernel)
set_option maxRecDepth 20000 in
theorem gX5_addCorner_Jx4a65c_add_9ea2d : GoodIn wsX5_addCorner (wsV RX5 64 RJx4a65c yJx4a65c_add_9ea2d wsJx4a65c_add_9ea2d) := goodIn_app (goodIn_of _ (by decide +kernel)) ggX5_addCorner_Jx4a65c_add_9ea2d
set_option maxRecDepth 20000 in
theorem ggX5_pieceBoxes_Jx4a65c_isEmpty_aae02 : GoodIn wsX5_pieceBoxes wsJx4a65c_isEmpty_aae02 := goodIn_r _ [10, 11, 128, 129, 130] (by decide +kernel) (by decide +kernel)
set_option maxRecDepth 20000 in
theorem gX5_pieceBoxes_Jx4a65c_isEmpty_aae02 : GoodIn wsX5_pieceBoxes (wsV RX5 46 RJx4a65c yJx4a65c_isEmpty_aae02 wsJx4a65c_isEmpty_aae02) := goodIn_app (goodIn_of _ (by decide +kernel)) ggX5_pieceBoxes_Jx4a65c_isEmpty_aae02
set_option maxRecDepth 20000 in
theorem ggX5_pieceBoxes_Jx4a65c_init_da8c8 : GoodIn wsX5_pieceBoxes wsJx4a65c_init_da8c8 := goodIn_r _ [14, 15, 16, 17, 18, 19, 20, 21, 22, 23, 24, 25, 26, 27, 28, 128, 129, 130] (by decide +kernel) (by decide +kernel)
set_option maxRecDepth 20000 in
theorem gX5_pieceBoxes_Jx4a65c_init_da8c8 : GoodIn wsX5_pieceBoxes (wsJx4a65c_init_da8c8) := ggX5_pieceBoxes_Jx4a65c_init_da8c8
