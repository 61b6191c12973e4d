set_option maxRecDepth 20000 in
theorem ggL_law_L_colour : GoodIn wsL_law wsL_colour := goodIn_ca (goodIn_r _ [571, 198, 572, 573, 574, 2, 575, 25, 576, 207, 208, 209, 210, 211, 212, 21, 89, 90, 91, 20, 92, 93, 720, 721, 722, 723, 724, 725, 778, 779, 780, 781, 782, 783, 753, 754, 755] (by decide +kernel) (by decide +kernel)) (goodIn_sub (fun _ h => List.mem_append_right _ h) (by decide +kernel))
set_option maxRecDepth 20000 in
theorem gL_law_L_colour : GoodIn wsL_law (va_wsS RL 88 yL_colour wsL_colour) := goodIn_app (goodIn_of _ (by decide +kernel)) ggL_law_L_colour
set_option maxRecDepth 20000 in
theorem ggL_law_X7_colour : GoodIn wsL_law wsX7_colour := goodIn_r _ [580, 186, 70, 267, 268, 269, 5, 270, 185, 581, 582, 583, 584, 551, 528, 69, 726, 727, 728, 729, 730, 731, 732, 733, 734, 735, 736, 737, 738, 739, 740, 741, 742, 743, 744, 745, 746, 747, 748, 749, 750, 751, 752] (by decide +kernel) (by decide +kernel)
set_option maxRecDepth 20000 in
theorem gL_law_X7_colour : GoodIn wsL_law (wsV RL 91 RX7 yX7_colour wsX7_colour) := goodIn_app (goodIn_of _ (by decide +kernel)) ggL_law_X7_colour
set_option maxRecDepth 20000 in
theorem ggL_law_L_ring : GoodIn wsL_law wsL_ring := goodIn_ca (goodIn_r _ [587, 198, 588, 589, 590, 2, 591, 211, 212, 24, 23, 720, 721, 722, 723, 724, 725] (by decide +kernel) (by decide +kernel)) (goodIn_sub (fun _ h => List.mem_append_right _ h) (by decide +kernel))
set_option maxRecDepth 20000 in
theorem gL_law_L_ring : GoodIn wsL_law (va_wsS RL 92 yL_ring wsL_ring) := goodIn_app (goodIn_of _ (by decide +kernel)) ggL_law_L_ring
set_option maxRecDepth 20000 in
theorem ggL_law_X7_ring : GoodIn wsL_law wsX7_ring := goodIn_r _ [595, 529, 186, 73, 726, 727, 728, 729, 730, 731, 732, 733, 734, 735, 736, 737, 738, 739, 740, 741, 742, 743, 744, 745, 746, 747, 748, 749, 750, 751, 752] (by decide +kernel) (by decide +kernel)
set_option maxRecDepth 20000 in
theorem gL_law_X7_ring : GoodIn wsL_law (wsV RL 94 RX7 yX7_ring wsX7_ring) := goodIn_app (goodIn_of _ (by decide +kernel)) ggL_law_X7_ring
set_option maxRecDepth 20000 in
theorem ggL_law_X6_length : GoodIn wsL_law wsX6_length := goodIn_r _ [599, 24, 720, 721, 722, 723, 724, 725] (by decide +kernel) (by decide +kernel)
set_option maxRecDepth 20000 in
theorem gL_law_X6_length : GoodIn wsL_law (wsV RL 95 RX6 yX6_length wsX6_length) := goodIn_app (goodIn_of _ (by decide +kernel)) ggL_law_X6_length
set_option maxRecDepth 20000 in
theorem ggL_law_X7_length : GoodIn wsL_law wsX7_length := goodIn_r _ [603, 186, 529, 726, 727, 728, 729, 730, 731, 732, 733, 734, 735, 736, 737, 738, 739, 740, 741, 742, 743, 744, 745, 746, 747, 748, 749, 750, 751, 752] (by decide +kernel) (by decide +kernel)
set_option maxRecDepth 20000 in
theorem gL_law_X7_length : GoodIn wsL_law (wsV RL 98 RX7 yX7_length wsX7_length) := goodIn_app (goodIn_of _ (by decide +kernel)) ggL_law_X7_length
set_option maxRecDepth 20000 in
theorem ggL_law_L_pre : GoodIn wsL_law wsL_pre := goodIn_ca (goodIn_ca (goodIn_ca (goodIn_r _ [606, 198, 79, 199, 607, 608, 609, 2, 610, 204, 205, 21, 98, 350, 207, 208, 209, 210, 211, 212, 89, 90, 91, 20, 92, 93, 278, 279, 280, 281, 84, 85, 100, 101, 102, 103, 104, 105, 106, 107, 108, 109, 110, 111, 112, 113, 114, 115, 40, 282, 283, 284, 88, 285, 126, 120, 286, 243, 244, 245, 611, 612, 613, 720, 721, 722, 723, 724, 725, 756, 757, 758, 759, 760, 761, 762, 763, 764, 753, 754, 755] (by decide +kernel) (by decide +kernel)) (goodIn_sub (fun _ h => List.mem_append_left _ (List.mem_append_right _ h)) (by decide +kernel))) (goodIn_sub (fun _ h => List.mem_append_right _ h) (by decide +kernel))) (goodIn_sub (fun _ h => List.mem_append_left _ (List.mem_append_left _ (List.mem_append_right _ h))) (by decide +kernel))
set_option maxRecDepth 20000 in
theorem gL_law_L_pre : GoodIn wsL_law (va_wsS RL 99 yL_pre wsL_pre) := goodIn_app (goodIn_of _ (by decide +kernel)) ggL_law_L_pre
set_option maxRecDepth 20000 in
theorem ggL_law_X7_pre : GoodIn wsL_law wsX7_pre := goodIn_r _ [617, 186, 58, 267, 268, 269, 5, 270, 185, 298, 299, 300, 301, 57, 726, 727, 728, 729, 730, 731, 732, 733, 734, 735, 736, 737, 738, 739, 740, 741, 742, 743, 744, 745, 746, 747, 748, 749, 750, 751, 752] (by decide +kernel) (by decide +kernel)
set_option maxRecDepth 20000 in
theorem gL_law_X7_pre : GoodIn wsL_law (wsV RL 102 RX7 yX7_pre wsX7_pre) := goodIn_app (goodIn_of _ (by decide +kernel)) ggL_law_X7_pre
set_option maxRecDepth 20000 in
theorem ggL_law_L_stitch : GoodIn wsL_law wsL_stitch := goodIn_ca (goodIn_ca (goodIn_ca (goodIn_r _ [620, 198, 79, 199, 621, 622, 623, 2, 624, 84, 85, 204, 205, 21, 98, 206, 99, 240, 625, 207, 208, 209, 210, 211, 212, 89, 90, 91, 20, 92, 93, 278, 279, 280, 281, 100, 101, 102, 103, 104, 105, 106, 107, 108, 109, 110, 111, 112, 113, 114, 115, 40, 282, 283, 284, 88, 285, 126, 120, 286, 243, 244, 245, 626, 627, 628, 629, 123, 122, 121, 94, 95, 96, 97, 630, 631, 632, 224, 633, 231, 233, 232, 234, 634, 635, 636, 637, 720, 721, 722, 723, 724, 725, 756, 757, 758, 759, 760, 761, 762, 763, 764, 753, 754, 755, 765, 766, 767, 768] (by decide +kernel) (by decide +kernel)) (goodIn_sub (fun _ h => List.mem_append_left _ (List.mem_append_left _ (List.mem_append_right _ h))) (by decide +kernel))) (goodIn_sub (fun _ h => List.mem_append_left _ (List.mem_append_right _ h)) (by decide +kernel))) (goodIn_sub (fun _ h => List.mem_append_right _ h) (by decide +kernel))
set_option maxRecDepth 20000 in
theorem gL_law_L_stitch : GoodIn wsL_law (va_wsS RL 103 yL_stitch wsL_stitch) := goodIn_app (goodIn_of _ (by decide +kernel)) ggL_law_L_stitch
set_option maxRecDepth 20000 in
theorem ggL_law_X7_stitch : GoodIn wsL_law wsX7_stitch := goodIn_r _ [641, 186, 57, 60, 62, 59, 267, 268, 269, 5, 270, 185, 298, 299, 300, 301, 642, 643, 644, 645, 187, 188, 189, 190, 646, 647, 648, 649, 55, 56, 318, 319, 320, 321, 322, 323, 726, 727, 728, 729, 730, 731, 732, 733, 734, 735, 736, 737, 738, 739, 740, 741, 742, 743, 744, 745, 746, 747, 748, 749, 750, 751, 752] (by decide +kernel) (by decide +kernel)
set_option maxRecDepth 20000 in
theorem gL_law_X7_stitch : GoodIn wsL_law (wsV RL 106 RX7 yX7_stitch wsX7_stitch) := goodIn_app (goodIn_of _ (by decide +kernel)) ggL_law_X7_stitch
set_option maxRecDepth 20000 in
theorem ggL_law_X6_stitches : GoodIn wsL_law wsX6_stitches := goodIn_r _ [653, 25, 654, 720, 721, 722, 723, 724, 725, 778, 779, 780, 781, 782, 783] (by decide +kernel) (by decide +kernel)
set_option maxRecDepth 20000 in
theorem gL_law_X6_stitches : GoodIn wsL_law (wsV RL 107 RX6 yX6_stitches wsX6_stitches) := goodIn_app (goodIn_of _ (by decide +kernel)) ggL_law_X6_stitches
