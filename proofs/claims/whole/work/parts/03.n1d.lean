set_option maxRecDepth 20000 in
theorem ggX6_pre_X6_needNoneOpen : GoodIn wsX6_pre wsX6_needNoneOpen := goodIn_ca (goodIn_r _ [22, 23, 24, 3, 4, 13, 14, 15, 16, 17, 18, 25, 26, 27, 28, 29, 30, 31, 32, 33, 34, 35, 36, 37, 38, 39, 40, 41, 42, 43, 44, 45, 46, 47, 48, 49, 50, 51, 52, 56, 57, 58, 59, 60, 61, 71, 72, 73, 62, 63, 64, 65, 66, 67, 68, 69, 70] (by decide +kernel) (by decide +kernel)) (goodIn_sub (fun _ h => List.mem_cons_of_mem _ (List.mem_append_right _ h)) (by decide +kernel))
set_option maxRecDepth 20000 in
theorem gX6_pre_X6_needNoneOpen : GoodIn wsX6_pre (wsV RX6 100 RX6 yX6_needNoneOpen wsX6_needNoneOpen) := goodIn_app (goodIn_of _ (by decide +kernel)) ggX6_pre_X6_needNoneOpen
set_option maxRecDepth 20000 in
theorem ggX6_pre_X6_isNoColour : GoodIn wsX6_pre wsX6_isNoColour := goodIn_r _ [55] (by decide +kernel) (by decide +kernel)
set_option maxRecDepth 20000 in
theorem gX6_pre_X6_isNoColour : GoodIn wsX6_pre (va_wsS RX6 158 yX6_isNoColour wsX6_isNoColour) := goodIn_app (goodIn_of _ (by decide +kernel)) ggX6_pre_X6_isNoColour
set_option maxRecDepth 20000 in
theorem ggX6_pre_Jx4a65c_get_915e3 : GoodIn wsX6_pre wsJx4a65c_get_915e3 := goodIn_r _ [28, 18, 29, 30, 31, 32, 33, 34, 35, 36, 37, 38, 39, 16, 40, 41, 71, 72, 73] (by decide +kernel) (by decide +kernel)
set_option maxRecDepth 20000 in
theorem gX6_pre_Jx4a65c_get_915e3 : GoodIn wsX6_pre (wsV RX6 72 RJx4a65c yJx4a65c_get_915e3 wsJx4a65c_get_915e3) := goodIn_app (goodIn_of _ (by decide +kernel)) ggX6_pre_Jx4a65c_get_915e3
set_option maxRecDepth 20000 in
theorem ggX6_stitch_X6_needShape : GoodIn wsX6_stitch wsX6_needShape := goodIn_ca (goodIn_r _ [15, 16, 17, 5, 18, 19, 20, 21, 22, 23, 80, 81, 82, 83, 84, 85, 95, 96, 97] (by decide +kernel) (by decide +kernel)) (goodIn_sub (fun _ h => List.mem_cons_of_mem _ (List.mem_append_right _ h)) (by decide +kernel))
set_option maxRecDepth 20000 in
theorem gX6_stitch_X6_needShape : GoodIn wsX6_stitch (wsV RX6 68 RX6 yX6_needShape wsX6_needShape) := goodIn_app (goodIn_of _ (by decide +kernel)) ggX6_stitch_X6_needShape
set_option maxRecDepth 20000 in
theorem ggX6_stitch_X6_needNoneOpen : GoodIn wsX6_stitch wsX6_needNoneOpen := goodIn_ca (goodIn_r _ [27, 1, 2, 5, 6, 18, 19, 20, 21, 22, 23, 28, 29, 30, 31, 32, 33, 34, 35, 36, 37, 38, 39, 40, 41, 42, 43, 44, 45, 46, 47, 48, 49, 50, 51, 52, 53, 54, 55, 80, 81, 82, 83, 84, 85, 95, 96, 97, 86, 87, 88, 89, 90, 91, 92, 93, 94] (by decide +kernel) (by decide +kernel)) (goodIn_sub (fun _ h => List.mem_cons_of_mem _ (List.mem_append_left _ (List.mem_append_left _ (List.mem_append_right _ h)))) (by decide +kernel))
set_option maxRecDepth 20000 in
theorem gX6_stitch_X6_needNoneOpen : GoodIn wsX6_stitch (wsV RX6 100 RX6 yX6_needNoneOpen wsX6_needNoneOpen) := goodIn_app (goodIn_of _ (by decide +kernel)) ggX6_stitch_X6_needNoneOpen
set_option maxRecDepth 20000 in
theorem ggX6_stitch_Jx4a65c_get_915e3 : GoodIn wsX6_stitch wsJx4a65c_get_915e3 := goodIn_r _ [31, 23, 32, 33, 34, 35, 36, 37, 38, 39, 40, 41, 42, 21, 43, 44, 95, 96, 97] (by decide +kernel) (by decide +kernel)
set_option maxRecDepth 20000 in
theorem gX6_stitch_Jx4a65c_get_915e3 : GoodIn wsX6_stitch (wsV RX6 72 RJx4a65c yJx4a65c_get_915e3 wsJx4a65c_get_915e3) := goodIn_app (goodIn_of _ (by decide +kernel)) ggX6_stitch_Jx4a65c_get_915e3
set_option maxRecDepth 20000 in
theorem ggX6_stitch_Jx4a65c_size_8abf5 : GoodIn wsX6_stitch wsJx4a65c_size_8abf5 := goodIn_r _ [22, 23, 95, 96, 97] (by decide +kernel) (by decide +kernel)
set_option maxRecDepth 20000 in
theorem gX6_stitch_Jx4a65c_size_8abf5 : GoodIn wsX6_stitch (wsV RX6 47 RJx4a65c yJx4a65c_size_8abf5 wsJx4a65c_size_8abf5) := goodIn_app (goodIn_of _ (by decide +kernel)) ggX6_stitch_Jx4a65c_size_8abf5
set_option maxRecDepth 20000 in
theorem ggX6_stitch_X5_hasStitch : GoodIn wsX6_stitch wsX5_hasStitch := goodIn_r _ [59, 60, 61, 62, 86, 87, 88, 89, 90, 91, 92, 93, 94] (by decide +kernel) (by decide +kernel)
set_option maxRecDepth 20000 in
theorem gX6_stitch_X5_hasStitch : GoodIn wsX6_stitch (wsV RX6 169 RX5 yX5_hasStitch wsX5_hasStitch) := goodIn_app (goodIn_of _ (by decide +kernel)) ggX6_stitch_X5_hasStitch
set_option maxRecDepth 20000 in
theorem ggX6_stitch_X6_countPieces : GoodIn wsX6_stitch wsX6_countPieces := goodIn_r _ [66, 5, 6, 8, 18, 19, 20, 21, 22, 23, 28, 29, 30, 31, 32, 33, 34, 35, 36, 37, 38, 39, 40, 41, 42, 43, 44, 80, 81, 82, 83, 84, 85, 86, 87, 88, 89, 90, 91, 92, 93, 94, 95, 96, 97] (by decide +kernel) (by decide +kernel)
set_option maxRecDepth 20000 in
theorem gX6_stitch_X6_countPieces : GoodIn wsX6_stitch (wsV RX6 51 RX6 yX6_countPieces wsX6_countPieces) := goodIn_app (goodIn_of _ (by decide +kernel)) ggX6_stitch_X6_countPieces
set_option maxRecDepth 20000 in
theorem ggX6_stitch_X0_isWithin : GoodIn wsX6_stitch wsX0_isWithin := goodIn_r _ [71, 72, 73, 74, 75, 98, 99, 100, 101] (by decide +kernel) (by decide +kernel)
set_option maxRecDepth 20000 in
theorem gX6_stitch_X0_isWithin : GoodIn wsX6_stitch (wsV RX6 177 RX0 yX0_isWithin wsX0_isWithin) := goodIn_app (goodIn_of _ (by decide +kernel)) ggX6_stitch_X0_isWithin
set_option maxRecDepth 20000 in
theorem ggX6_stitch_X5_addStitch : GoodIn wsX6_stitch wsX5_addStitch := goodIn_r _ [79, 61, 62, 60, 86, 87, 88, 89, 90, 91, 92, 93, 94] (by decide +kernel) (by decide +kernel)
set_option maxRecDepth 20000 in
theorem gX6_stitch_X5_addStitch : GoodIn wsX6_stitch (wsV RX6 187 RX5 yX5_addStitch wsX5_addStitch) := goodIn_app (goodIn_of _ (by decide +kernel)) ggX6_stitch_X5_addStitch
set_option maxRecDepth 20000 in
theorem ggX6_used_X6_needShape : GoodIn wsX6_used wsX6_needShape := goodIn_ca (goodIn_r _ [10, 1, 2, 11, 12, 13, 14, 15, 16, 17, 18, 19, 20, 21, 22, 23, 30, 31, 32] (by decide +kernel) (by decide +kernel)) (goodIn_sub (fun _ h => List.mem_cons_of_mem _ (List.mem_append_right _ h)) (by decide +kernel))
set_option maxRecDepth 20000 in
theorem gX6_used_X6_needShape : GoodIn wsX6_used (wsV RX6 68 RX6 yX6_needShape wsX6_needShape) := goodIn_app (goodIn_of _ (by decide +kernel)) ggX6_used_X6_needShape
set_option maxRecDepth 20000 in
theorem ggX6_balance_X6_isNoColour : GoodIn wsX6_balance wsX6_isNoColour := goodIn_r _ [11] (by decide +kernel) (by decide +kernel)
set_option maxRecDepth 20000 in
theorem gX6_balance_X6_isNoColour : GoodIn wsX6_balance (va_wsS RX6 158 yX6_isNoColour wsX6_isNoColour) := goodIn_app (goodIn_of _ (by decide +kernel)) ggX6_balance_X6_isNoColour
set_option maxRecDepth 20000 in
theorem ggX6_pair_X6_needNoneOpen : GoodIn wsX6_pair wsX6_needNoneOpen := goodIn_ca (goodIn_r _ [9, 10, 11, 3, 4, 12, 13, 14, 15, 16, 17, 18, 19, 20, 21, 22, 23, 24, 25, 26, 27, 28, 29, 30, 31, 32, 33, 34, 35, 36, 37, 38, 39, 40, 41, 42, 43, 44, 45, 51, 52, 53, 54, 55, 56, 57, 58, 59, 60, 61, 62, 63, 64, 65, 66, 67, 68] (by decide +kernel) (by decide +kernel)) (goodIn_sub (fun _ h => List.mem_cons_of_mem _ (List.mem_append_right _ h)) (by decide +kernel))
set_option maxRecDepth 20000 in
theorem gX6_pair_X6_needNoneOpen : GoodIn wsX6_pair (wsV RX6 100 RX6 yX6_needNoneOpen wsX6_needNoneOpen) := goodIn_app (goodIn_of _ (by decide +kernel)) ggX6_pair_X6_needNoneOpen
set_option maxRecDepth 20000 in
theorem ggX6_pair_Jx4a65c_size_8abf5 : GoodIn wsX6_pair wsJx4a65c_size_8abf5 := goodIn_r _ [16, 17, 57, 58, 59] (by decide +kernel) (by decide +kernel)
set_option maxRecDepth 20000 in
theorem gX6_pair_Jx4a65c_size_8abf5 : GoodIn wsX6_pair (wsV RX6 47 RJx4a65c yJx4a65c_size_8abf5 wsJx4a65c_size_8abf5) := goodIn_app (goodIn_of _ (by decide +kernel)) ggX6_pair_Jx4a65c_size_8abf5
set_option maxRecDepth 20000 in
theorem ggX6_pair_Jx4a65c_get_915e3 : GoodIn wsX6_pair wsJx4a65c_get_915e3 := goodIn_r _ [21, 17, 22, 23, 24, 25, 26, 27, 28, 29, 30, 31, 32, 15, 33, 34, 57, 58, 59] (by decide +kernel) (by decide +kernel)
set_option maxRecDepth 20000 in
theorem gX6_pair_Jx4a65c_get_915e3 : GoodIn wsX6_pair (wsV RX6 72 RJx4a65c yJx4a65c_get_915e3 wsJx4a65c_get_915e3) := goodIn_app (goodIn_of _ (by decide +kernel)) ggX6_pair_Jx4a65c_get_915e3
set_option maxRecDepth 20000 in
theorem ggX6_pair_X5_isNearShape : GoodIn wsX6_pair wsX5_isNearShape := goodIn_r _ [49, 50, 60, 61, 62, 63, 64, 65, 66, 67, 68] (by decide +kernel) (by decide +kernel)
set_option maxRecDepth 20000 in
theorem gX6_pair_X5_isNearShape : GoodIn wsX6_pair (wsV RX6 213 RX5 yX5_isNearShape wsX5_isNearShape) := goodIn_app (goodIn_of _ (by decide +kernel)) ggX6_pair_X5_isNearShape
set_option maxRecDepth 20000 in
theorem ggX6_clear_Jx4a65c_clear_da8c8 : GoodIn wsX6_clear wsJx4a65c_clear_da8c8 := goodIn_r _ [9, 10, 11, 12, 13, 20, 21, 22] (by decide +kernel) (by decide +kernel)
set_option maxRecDepth 20000 in
theorem gX6_clear_Jx4a65c_clear_da8c8 : GoodIn wsX6_clear (wsV RX6 216 RJx4a65c yJx4a65c_clear_da8c8 wsJx4a65c_clear_da8c8) := goodIn_app (goodIn_of _ (by decide +kernel)) ggX6_clear_Jx4a65c_clear_da8c8
set_option maxRecDepth 20000 in
theorem ggX6_needShape_Jx4a65c_size_8abf5 : GoodIn wsX6_needShape wsJx4a65c_size_8abf5 := goodIn_r _ [8, 9, 16, 17, 18] (by decide +kernel) (by decide +kernel)
set_option maxRecDepth 20000 in
theorem gX6_needShape_Jx4a65c_size_8abf5 : GoodIn wsX6_needShape (wsV RX6 47 RJx4a65c yJx4a65c_size_8abf5 wsJx4a65c_size_8abf5) := goodIn_app (goodIn_of _ (by decide +kernel)) ggX6_needShape_Jx4a65c_size_8abf5
set_option maxRecDepth 20000 in
theorem ggX6_needNoneOpen_Jx4a65c_size_8abf5 : GoodIn wsX6_needNoneOpen wsJx4a65c_size_8abf5 := goodIn_r _ [9, 10, 45, 46, 47] (by decide +kernel) (by decide +kernel)
set_option maxRecDepth 20000 in
theorem gX6_needNoneOpen_Jx4a65c_size_8abf5 : GoodIn wsX6_needNoneOpen (wsV RX6 47 RJx4a65c yJx4a65c_size_8abf5 wsJx4a65c_size_8abf5) := goodIn_app (goodIn_of _ (by decide +kernel)) ggX6_needNoneOpen_Jx4a65c_size_8abf5
set_option maxRecDepth 20000 in
theorem ggX6_needNoneOpen_Jx4a65c_get_915e3 : GoodIn wsX6_needNoneOpen wsJx4a65c_get_915e3 := goodIn_r _ [14, 10, 15, 16, 17, 18, 19, 20, 21, 22, 23, 24, 25, 8, 26, 27, 45, 46, 47] (by decide +kernel) (by decide +kernel)
set_option maxRecDepth 20000 in
theorem gX6_needNoneOpen_Jx4a65c_get_915e3 : GoodIn wsX6_needNoneOpen (wsV RX6 72 RJx4a65c yJx4a65c_get_915e3 wsJx4a65c_get_915e3) := goodIn_app (goodIn_of _ (by decide +kernel)) ggX6_needNoneOpen_Jx4a65c_get_915e3
set_option maxRecDepth 20000 in
theorem ggX6_needNoneOpen_X5_isOpen : GoodIn wsX6_needNoneOpen wsX5_isOpen := goodIn_r _ [32, 33, 34, 35, 36, 37, 8, 38, 10, 48, 49, 50, 51, 52, 53, 54, 55, 56, 45, 46, 47] (by decide +kernel) (by decide +kernel)
set_option maxRecDepth 20000 in
theorem gX6_needNoneOpen_X5_isOpen : GoodIn wsX6_needNoneOpen (wsV RX6 221 RX5 yX5_isOpen wsX5_isOpen) := goodIn_app (goodIn_of _ (by decide +kernel)) ggX6_needNoneOpen_X5_isOpen
set_option maxRecDepth 20000 in
theorem ggX6_countPieces_Jx4a65c_size_8abf5 : GoodIn wsX6_countPieces wsJx4a65c_size_8abf5 := goodIn_r _ [8, 9, 42, 43, 44] (by decide +kernel) (by decide +kernel)
set_option maxRecDepth 20000 in
theorem gX6_countPieces_Jx4a65c_size_8abf5 : GoodIn wsX6_countPieces (wsV RX6 47 RJx4a65c yJx4a65c_size_8abf5 wsJx4a65c_size_8abf5) := goodIn_app (goodIn_of _ (by decide +kernel)) ggX6_countPieces_Jx4a65c_size_8abf5
set_option maxRecDepth 20000 in
theorem ggX6_countPieces_Jx4a65c_get_915e3 : GoodIn wsX6_countPieces wsJx4a65c_get_915e3 := goodIn_r _ [13, 9, 14, 15, 16, 17, 18, 19, 20, 21, 22, 23, 24, 7, 25, 26, 42, 43, 44] (by decide +kernel) (by decide +kernel)
set_option maxRecDepth 20000 in
theorem gX6_countPieces_Jx4a65c_get_915e3 : GoodIn wsX6_countPieces (wsV RX6 72 RJx4a65c yJx4a65c_get_915e3 wsJx4a65c_get_915e3) := goodIn_app (goodIn_of _ (by decide +kernel)) ggX6_countPieces_Jx4a65c_get_915e3
set_option maxRecDepth 20000 in
theorem ggX6_findNearOnes_Jx4a65c_get_915e3 : GoodIn wsX6_findNearOnes wsJx4a65c_get_915e3 := goodIn_r _ [11, 12, 13, 14, 15, 16, 17, 18, 19, 20, 21, 22, 23, 10, 24, 25, 72, 73, 74] (by decide +kernel) (by decide +kernel)
set_option maxRecDepth 20000 in
theorem gX6_findNearOnes_Jx4a65c_get_915e3 : GoodIn wsX6_findNearOnes (wsV RX6 72 RJx4a65c yJx4a65c_get_915e3 wsJx4a65c_get_915e3) := goodIn_app (goodIn_of _ (by decide +kernel)) ggX6_findNearOnes_Jx4a65c_get_915e3
set_option maxRecDepth 20000 in
theorem ggX6_findNearOnes_Jx4a65c_isEmpty_aae02 : GoodIn wsX6_findNearOnes wsJx4a65c_isEmpty_aae02 := goodIn_r _ [29, 12, 72, 73, 74] (by decide +kernel) (by decide +kernel)
set_option maxRecDepth 20000 in
theorem gX6_findNearOnes_Jx4a65c_isEmpty_aae02 : GoodIn wsX6_findNearOnes (wsV RX6 230 RJx4a65c yJx4a65c_isEmpty_aae02 wsJx4a65c_isEmpty_aae02) := goodIn_app (goodIn_of _ (by decide +kernel)) ggX6_findNearOnes_Jx4a65c_isEmpty_aae02
set_option maxRecDepth 20000 in
theorem ggX6_findNearOnes_Jx4a65c_size_8abf5 : GoodIn wsX6_findNearOnes wsJx4a65c_size_8abf5 := goodIn_r _ [33, 12, 72, 73, 74] (by decide +kernel) (by decide +kernel)
set_option maxRecDepth 20000 in
theorem gX6_findNearOnes_Jx4a65c_size_8abf5 : GoodIn wsX6_findNearOnes (wsV RX6 47 RJx4a65c yJx4a65c_size_8abf5 wsJx4a65c_size_8abf5) := goodIn_app (goodIn_of _ (by decide +kernel)) ggX6_findNearOnes_Jx4a65c_size_8abf5
set_option maxRecDepth 20000 in
theorem ggX6_findNearOnes_X0_isNearAny : GoodIn wsX6_findNearOnes wsX0_isNearAny := goodIn_r _ [38, 39, 40, 31, 32, 10, 33, 12, 41, 8, 9, 11, 13, 14, 15, 16, 17, 18, 19, 20, 21, 22, 23, 24, 25, 42, 43, 44, 37, 45, 46, 47, 48, 49, 50, 51, 52, 53, 54, 55, 56, 72, 73, 74, 75, 76, 77, 78] (by decide +kernel) (by decide +kernel)
set_option maxRecDepth 20000 in
theorem gX6_findNearOnes_X0_isNearAny : GoodIn wsX6_findNearOnes (wsV RX6 233 RX0 yX0_isNearAny wsX0_isNearAny) := goodIn_app (goodIn_of _ (by decide +kernel)) ggX6_findNearOnes_X0_isNearAny
set_option maxRecDepth 20000 in
theorem ggX6_cutShapes_X3_init : GoodIn wsX6_cutShapes wsX3_init := goodIn_r _ [9, 10, 11, 12, 13, 14, 15, 16, 17, 18, 19, 20, 21, 22, 23, 24, 25, 26, 27, 28, 29, 30, 31, 174, 175, 176, 158] (by decide +kernel) (by decide +kernel)
set_option maxRecDepth 20000 in
theorem gX6_cutShapes_X3_init_n237 : GoodIn wsX6_cutShapes (wsX3_init) := ggX6_cutShapes_X3_init
set_option maxRecDepth 20000 in
theorem ggX6_cutShapes_Jx4a65c_size_8abf5 : GoodIn wsX6_cutShapes wsJx4a65c_size_8abf5 := goodIn_r _ [35, 36, 174, 175, 176] (by decide +kernel) (by decide +kernel)
set_option maxRecDepth 20000 in
theorem gX6_cutShapes_Jx4a65c_size_8abf5 : GoodIn wsX6_cutShapes (wsV RX6 47 RJx4a65c yJx4a65c_size_8abf5 wsJx4a65c_size_8abf5) := goodIn_app (goodIn_of _ (by decide +kernel)) ggX6_cutShapes_Jx4a65c_size_8abf5
