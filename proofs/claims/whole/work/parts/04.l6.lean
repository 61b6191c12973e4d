set_option maxRecDepth 20000 in
theorem ggL_law_X7_stitches : GoodIn wsL_law wsX7_stitches := goodIn_r _ [658, 186, 528, 552, 726, 727, 728, 729, 730, 731, 732, 733, 734, 735, 736, 737, 738, 739, 740, 741, 742, 743, 744, 745, 746, 747, 748, 749, 750, 751, 752] (by decide +kernel) (by decide +kernel)
set_option maxRecDepth 20000 in
theorem gL_law_X7_stitches : GoodIn wsL_law (wsV RL 110 RX7 yX7_stitches wsX7_stitches) := goodIn_app (goodIn_of _ (by decide +kernel)) ggL_law_X7_stitches
set_option maxRecDepth 20000 in
theorem ggL_law_L_used : GoodIn wsL_law wsL_used := goodIn_ca (goodIn_r _ [661, 198, 662, 663, 664, 2, 665, 211, 212, 25, 666, 667, 207, 208, 209, 210, 21, 89, 90, 91, 20, 92, 93, 720, 721, 722, 723, 724, 725, 778, 779, 780, 781, 782, 783, 753, 754, 755] (by decide +kernel) (by decide +kernel)) (goodIn_sub (fun _ h => List.mem_append_right _ h) (by decide +kernel))
set_option maxRecDepth 20000 in
theorem gL_law_L_used : GoodIn wsL_law (va_wsS RL 111 yL_used wsL_used) := goodIn_app (goodIn_of _ (by decide +kernel)) ggL_law_L_used
set_option maxRecDepth 20000 in
theorem ggL_law_X7_used : GoodIn wsL_law wsX7_used := goodIn_r _ [671, 60, 551, 69, 186, 70, 267, 268, 269, 5, 270, 185, 581, 582, 583, 584, 528, 726, 727, 728, 729, 730, 731, 732, 733, 734, 735, 736, 737, 738, 739, 740, 741, 742, 743, 744, 745, 746, 747, 748, 749, 750, 751, 752] (by decide +kernel) (by decide +kernel)
set_option maxRecDepth 20000 in
theorem gL_law_X7_used : GoodIn wsL_law (wsV RL 113 RX7 yX7_used wsX7_used) := goodIn_app (goodIn_of _ (by decide +kernel)) ggL_law_X7_used
set_option maxRecDepth 20000 in
theorem ggL_law_L_balance : GoodIn wsL_law wsL_balance := goodIn_ca (goodIn_ca (goodIn_r _ [674, 198, 199, 675, 676, 677, 2, 678, 211, 212, 204, 205, 25, 679, 680, 611, 612, 613, 720, 721, 722, 723, 724, 725, 778, 779, 780, 781, 782, 783] (by decide +kernel) (by decide +kernel)) (goodIn_sub (fun _ h => List.mem_append_right _ h) (by decide +kernel))) (goodIn_sub (fun _ h => List.mem_append_left _ (List.mem_append_right _ h)) (by decide +kernel))
set_option maxRecDepth 20000 in
theorem gL_law_L_balance : GoodIn wsL_law (va_wsS RL 114 yL_balance wsL_balance) := goodIn_app (goodIn_of _ (by decide +kernel)) ggL_law_L_balance
set_option maxRecDepth 20000 in
theorem ggL_law_X7_balance : GoodIn wsL_law wsX7_balance := goodIn_r _ [684, 186, 551, 528, 70, 71, 726, 727, 728, 729, 730, 731, 732, 733, 734, 735, 736, 737, 738, 739, 740, 741, 742, 743, 744, 745, 746, 747, 748, 749, 750, 751, 752] (by decide +kernel) (by decide +kernel)
set_option maxRecDepth 20000 in
theorem gL_law_X7_balance : GoodIn wsL_law (wsV RL 116 RX7 yX7_balance wsX7_balance) := goodIn_app (goodIn_of _ (by decide +kernel)) ggL_law_X7_balance
set_option maxRecDepth 20000 in
theorem ggL_law_L_pair : GoodIn wsL_law wsL_pair := goodIn_ca (goodIn_ca (goodIn_r _ [687, 198, 79, 688, 689, 690, 2, 691, 211, 212, 21, 98, 278, 279, 280, 281, 84, 85, 89, 90, 91, 20, 92, 93, 100, 101, 102, 103, 104, 105, 106, 107, 108, 109, 110, 111, 112, 113, 114, 115, 40, 282, 283, 284, 88, 285, 126, 120, 286, 243, 244, 245, 692, 693, 694, 695, 125, 720, 721, 722, 723, 724, 725, 753, 754, 755, 756, 757, 758, 759, 760, 761, 762, 763, 764] (by decide +kernel) (by decide +kernel)) (goodIn_sub (fun _ h => List.mem_append_right _ h) (by decide +kernel))) (goodIn_sub (fun _ h => List.mem_append_left _ (List.mem_append_left _ (List.mem_append_right _ h))) (by decide +kernel))
set_option maxRecDepth 20000 in
theorem gL_law_L_pair : GoodIn wsL_law (va_wsS RL 117 yL_pair wsL_pair) := goodIn_app (goodIn_of _ (by decide +kernel)) ggL_law_L_pair
set_option maxRecDepth 20000 in
theorem ggL_law_X7_pair : GoodIn wsL_law wsX7_pair := goodIn_r _ [699, 186, 185, 298, 299, 300, 5, 301, 57, 302, 303, 304, 305, 60, 306, 307, 308, 309, 310, 311, 312, 313, 314, 315, 316, 317, 55, 56, 62, 59, 66, 67, 318, 319, 320, 321, 322, 323, 324, 325, 326, 327, 75, 726, 727, 728, 729, 730, 731, 732, 733, 734, 735, 736, 737, 738, 739, 740, 741, 742, 743, 744, 745, 746, 747, 748, 749, 750, 751, 752] (by decide +kernel) (by decide +kernel)
set_option maxRecDepth 20000 in
theorem gL_law_X7_pair : GoodIn wsL_law (wsV RL 119 RX7 yX7_pair wsX7_pair) := goodIn_app (goodIn_of _ (by decide +kernel)) ggL_law_X7_pair
set_option maxRecDepth 20000 in
theorem ggL_law_X6_closed : GoodIn wsL_law wsX6_closed := goodIn_r _ [703, 26, 720, 721, 722, 723, 724, 725] (by decide +kernel) (by decide +kernel)
set_option maxRecDepth 20000 in
theorem gL_law_X6_closed : GoodIn wsL_law (wsV RL 120 RX6 yX6_closed wsX6_closed) := goodIn_app (goodIn_of _ (by decide +kernel)) ggL_law_X6_closed
set_option maxRecDepth 20000 in
theorem ggL_law_X7_closed : GoodIn wsL_law wsX7_closed := goodIn_r _ [707, 186, 527, 726, 727, 728, 729, 730, 731, 732, 733, 734, 735, 736, 737, 738, 739, 740, 741, 742, 743, 744, 745, 746, 747, 748, 749, 750, 751, 752] (by decide +kernel) (by decide +kernel)
set_option maxRecDepth 20000 in
theorem gL_law_X7_closed : GoodIn wsL_law (wsV RL 124 RX7 yX7_closed wsX7_closed) := goodIn_app (goodIn_of _ (by decide +kernel)) ggL_law_X7_closed
set_option maxRecDepth 20000 in
theorem ggL_law_X6_clear : GoodIn wsL_law wsX6_clear := goodIn_r _ [711, 21, 25, 24, 26, 712, 713, 714, 20, 715, 134, 135, 40, 93, 720, 721, 722, 723, 724, 725, 753, 754, 755] (by decide +kernel) (by decide +kernel)
set_option maxRecDepth 20000 in
theorem gL_law_X6_clear : GoodIn wsL_law (wsV RL 125 RX6 yX6_clear wsX6_clear) := goodIn_app (goodIn_of _ (by decide +kernel)) ggL_law_X6_clear
set_option maxRecDepth 20000 in
theorem ggL_law_X7_clear : GoodIn wsL_law wsX7_clear := goodIn_r _ [719, 186, 185, 528, 529, 527, 726, 727, 728, 729, 730, 731, 732, 733, 734, 735, 736, 737, 738, 739, 740, 741, 742, 743, 744, 745, 746, 747, 748, 749, 750, 751, 752] (by decide +kernel) (by decide +kernel)
set_option maxRecDepth 20000 in
theorem gL_law_X7_clear : GoodIn wsL_law (wsV RL 128 RX7 yX7_clear wsX7_clear) := goodIn_app (goodIn_of _ (by decide +kernel)) ggL_law_X7_clear
