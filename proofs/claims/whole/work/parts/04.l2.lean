theorem in_at {ws : List Cond} (ps : List Nat) (h : ws = ps.filterMap (fun i => lw_tbl[i]?)) : ∀ w ∈ ws, w ∈ lw_tbl := by
  intro w hw
  rw [h] at hw
  obtain ⟨i, -, hi⟩ := List.mem_filterMap.mp hw
  exact List.mem_of_getElem? hi
set_option maxRecDepth 20000 in
theorem in_wsL_law0_r1 : ∀ w ∈ wsL_law0_r1, w ∈ lw_tbl := in_at [66, 67, 42, 791, 792, 47, 289, 1032, 147, 148, 41, 149, 68, 69, 70, 71, 72, 73, 74, 75, 45, 108, 126, 109] (by decide +kernel)
set_option maxRecDepth 20000 in
theorem in_wsL_law0_r2 : ∀ w ∈ wsL_law0_r2, w ∈ lw_tbl := in_at [110, 111, 112, 100, 101, 102, 46, 103, 104, 105, 106, 107, 76, 77, 78, 86, 88, 79, 80, 44, 81, 90, 82, 83] (by decide +kernel)
set_option maxRecDepth 20000 in
theorem in_wsL_law0_r3 : ∀ w ∈ wsL_law0_r3, w ∈ lw_tbl := in_at [43, 84, 85, 793, 794, 795, 796, 801, 802, 803, 804, 805, 806, 609, 807, 809, 810, 811, 812, 813, 814, 818, 819, 820] (by decide +kernel)
set_option maxRecDepth 20000 in
theorem in_wsL_law0_r4 : ∀ w ∈ wsL_law0_r4, w ∈ lw_tbl := in_at [821, 822, 797, 799, 150, 151, 152, 153, 154, 155, 156, 157, 181, 53, 180, 249, 54, 158, 159, 160, 161, 89, 162, 164] (by decide +kernel)
set_option maxRecDepth 20000 in
theorem in_wsL_law0_r5 : ∀ w ∈ wsL_law0_r5, w ∈ lw_tbl := in_at [0, 165, 180, 260, 166, 167, 168, 169, 170, 171, 48, 172, 173, 174, 49, 175, 176, 177, 178, 179, 251, 252, 253, 254] (by decide +kernel)
set_option maxRecDepth 20000 in
theorem in_wsL_law0_r6 : ∀ w ∈ wsL_law0_r6, w ∈ lw_tbl := in_at [256, 258, 259, 261, 263, 265, 267, 268, 269, 255, 290, 291, 292, 293, 91, 92, 294, 296, 2, 297, 298, 300, 3, 301] (by decide +kernel)
set_option maxRecDepth 20000 in
theorem in_wsL_law0_r7 : ∀ w ∈ wsL_law0_r7, w ∈ lw_tbl := in_at [302, 304, 4, 305, 347, 310, 311, 348, 306, 307, 55, 308, 309, 312, 313, 314, 315, 316, 317, 56, 318, 319, 1049, 320] (by decide +kernel)
set_option maxRecDepth 20000 in
theorem in_wsL_law0_r8 : ∀ w ∈ wsL_law0_r8, w ∈ lw_tbl := in_at [334, 335, 336, 337, 338, 340, 341, 342, 343, 344, 346, 345, 57, 884, 885, 886, 887, 800, 798, 888, 890, 21, 891, 880] (by decide +kernel)
set_option maxRecDepth 20000 in
theorem in_wsL_law0_r9 : ∀ w ∈ wsL_law0_r9, w ∈ lw_tbl := in_at [881, 882, 883, 349, 350, 351, 352, 353, 354, 355, 356, 357, 384, 59, 257, 358, 360, 5, 361, 362, 58, 379, 380, 381] (by decide +kernel)
set_option maxRecDepth 20000 in
theorem in_wsL_law0_r10 : ∀ w ∈ wsL_law0_r10, w ∈ lw_tbl := in_at [382, 383, 400, 401, 402, 403, 404, 405, 60, 406, 407, 408, 409, 410, 411, 412, 414, 416, 418, 429, 430, 432, 6, 433] (by decide +kernel)
set_option maxRecDepth 20000 in
theorem in_wsL_law0_r11 : ∀ w ∈ wsL_law0_r11, w ∈ lw_tbl := in_at [438, 266, 434, 435, 436, 437, 439, 440, 441, 442, 445, 443, 444, 446, 448, 7, 449, 450, 451, 452, 453, 892, 893, 894] (by decide +kernel)
set_option maxRecDepth 20000 in
theorem in_wsL_law0_r12 : ∀ w ∈ wsL_law0_r12, w ∈ lw_tbl := in_at [895, 900, 901, 896, 898, 22, 899, 454, 455, 456, 457, 458, 459, 460, 461, 463, 8, 464, 465, 466, 467, 468, 469, 471] (by decide +kernel)
set_option maxRecDepth 20000 in
theorem in_wsL_law0_r13 : ∀ w ∈ wsL_law0_r13, w ∈ lw_tbl := in_at [472, 61, 473, 474, 475, 476, 906, 907, 908, 909, 910, 912, 23, 913, 914, 916, 24, 917, 918, 920, 25, 921, 922, 924] (by decide +kernel)
set_option maxRecDepth 20000 in
theorem in_wsL_law0_r14 : ∀ w ∈ wsL_law0_r14, w ∈ lw_tbl := in_at [26, 925, 926, 928, 27, 929, 930, 931, 932, 933, 934, 935, 936, 938, 28, 939, 477, 478, 479, 480, 481, 482, 483, 551] (by decide +kernel)
set_option maxRecDepth 20000 in
theorem in_wsL_law0_r15 : ∀ w ∈ wsL_law0_r15, w ∈ lw_tbl := in_at [552, 64, 635, 636, 65, 587, 589, 485, 487, 9, 488, 489, 490, 62, 264, 492, 493, 494, 495, 497, 496, 501, 502, 503] (by decide +kernel)
set_option maxRecDepth 20000 in
theorem in_wsL_law0_r16 : ∀ w ∈ wsL_law0_r16, w ∈ lw_tbl := in_at [504, 404, 505, 506, 508, 10, 509, 413, 415, 417, 419, 510, 511, 512, 513, 515, 516, 63, 514, 517, 518, 519, 520, 526] (by decide +kernel)
set_option maxRecDepth 20000 in
theorem in_wsL_law0_r17 : ∀ w ∈ wsL_law0_r17, w ∈ lw_tbl := in_at [521, 523, 525, 537, 538, 539, 540, 541, 515, 522, 527, 542, 543, 544, 545, 546, 549, 547, 548, 550, 553, 554, 555, 556] (by decide +kernel)
set_option maxRecDepth 20000 in
theorem in_wsL_law0_r18 : ∀ w ∈ wsL_law0_r18, w ∈ lw_tbl := in_at [581, 582, 583, 584, 585, 586, 588, 557, 558, 579, 580, 559, 560, 561, 562, 563, 564, 565, 566, 567, 568, 569, 570, 524] (by decide +kernel)
set_option maxRecDepth 20000 in
theorem in_wsL_law0_r19 : ∀ w ∈ wsL_law0_r19, w ∈ lw_tbl := in_at [571, 572, 573, 574, 575, 576, 577, 578, 610, 611, 612, 613, 614, 616, 11, 617, 626, 618, 620, 12, 621, 622, 624, 13] (by decide +kernel)
set_option maxRecDepth 20000 in
theorem in_wsL_law0_r20 : ∀ w ∈ wsL_law0_r20, w ∈ lw_tbl := in_at [625, 627, 629, 14, 630, 631, 632, 633, 634, 637, 638, 639, 640, 668, 670, 672, 674, 676, 678, 641, 642, 643, 644, 645] (by decide +kernel)
set_option maxRecDepth 20000 in
theorem in_wsL_law0_r21 : ∀ w ∈ wsL_law0_r21, w ∈ lw_tbl := in_at [646, 647, 648, 649, 650, 651, 652, 653, 654, 656, 15, 657, 658, 659, 660, 662, 16, 663, 664, 666, 17, 667, 693, 694] (by decide +kernel)
set_option maxRecDepth 20000 in
theorem in_wsL_law0_r22 : ∀ w ∈ wsL_law0_r22, w ∈ lw_tbl := in_at [695, 696, 697, 699, 18, 700, 701, 703, 19, 704, 705, 706, 708, 20, 709, 710, 711, 712, 713, 960, 961, 962, 963, 824] (by decide +kernel)
set_option maxRecDepth 20000 in
theorem in_wsL_law0_r23 : ∀ w ∈ wsL_law0_r23, w ∈ lw_tbl := in_at [815, 823, 964, 966, 31, 967, 808, 968, 970, 32, 971, 972, 974, 33, 975, 976, 978, 34, 979, 980, 982, 35, 983, 816] (by decide +kernel)
set_option maxRecDepth 20000 in
theorem in_wsL_law0_r24 : ∀ w ∈ wsL_law0_r24, w ∈ lw_tbl := in_at [817, 984, 986, 36, 987, 988, 990, 37, 991, 992, 994, 38, 995, 996, 998, 39, 999, 714, 715, 716, 717, 718, 719, 720] (by decide +kernel)
set_option maxRecDepth 20000 in
theorem in_wsL_law0_r25 : ∀ w ∈ wsL_law0_r25, w ∈ lw_tbl := in_at [669, 1000, 1001, 1002, 1003, 1004, 1006, 40, 1007, 721, 722, 723, 724, 725, 726, 727, 1008, 1009, 1010, 1011, 127, 128, 129, 130] (by decide +kernel)
set_option maxRecDepth 20000 in
theorem in_wsL_law0_r26 : ∀ w ∈ wsL_law0_r26, w ∈ lw_tbl := in_at [1012, 1013, 1014, 1015, 729, 730, 731, 732, 733, 734, 735, 736, 737, 738, 944, 945, 946, 947, 740, 741, 742, 743, 744, 745] (by decide +kernel)
set_option maxRecDepth 20000 in
theorem in_wsL_law0_r27 : ∀ w ∈ wsL_law0_r27, w ∈ lw_tbl := in_at [746, 262, 748, 749, 750, 751, 753, 754, 755, 756, 759, 760, 761, 762, 948, 949, 950, 951, 952, 954, 29, 955, 956, 958] (by decide +kernel)
set_option maxRecDepth 20000 in
theorem in_wsL_law0_r28 : ∀ w ∈ wsL_law0_r28, w ∈ lw_tbl := in_at [30, 959, 131, 132, 133, 134, 679, 1016, 1017, 1018, 1019, 763, 764, 765, 766, 767, 768, 769, 671, 673, 1020, 1021, 1022, 1023] (by decide +kernel)
set_option maxRecDepth 20000 in
theorem in_wsL_law0_r29 : ∀ w ∈ wsL_law0_r29, w ∈ lw_tbl := in_at [771, 772, 773, 774, 775, 776, 777, 675, 677, 1024, 1025, 1026, 1027, 779, 780, 781, 782, 783, 784, 785, 787, 788, 789, 790] (by decide +kernel)
set_option maxRecDepth 20000 in
theorem in_wsL_law0_r30 : ∀ w ∈ wsL_law0_r30, w ∈ lw_tbl := in_at [940, 941, 942, 943, 135, 136, 137, 138, 1028, 1029, 1030, 1031, 139, 140, 141, 142, 143, 144, 145, 146, 902, 903, 904, 905] (by decide +kernel)
set_option maxRecDepth 20000 in
theorem in_wsX60 : ∀ w ∈ wsX60, w ∈ lw_tbl := by decide +kernel
set_option maxRecDepth 20000 in
theorem in_wsX70 : ∀ w ∈ wsX70, w ∈ lw_tbl := by decide +kernel
set_option maxRecDepth 20000 in
theorem in_wsJx4a65c0 : ∀ w ∈ wsJx4a65c0, w ∈ lw_tbl := by decide +kernel
set_option maxRecDepth 20000 in
theorem in_wsX50 : ∀ w ∈ wsX50, w ∈ lw_tbl := by decide +kernel
set_option maxRecDepth 20000 in
theorem in_wsX00 : ∀ w ∈ wsX00, w ∈ lw_tbl := by decide +kernel
set_option maxRecDepth 20000 in
theorem in_wsX40 : ∀ w ∈ wsX40, w ∈ lw_tbl := by decide +kernel
set_option maxRecDepth 20000 in
theorem in_wsX10 : ∀ w ∈ wsX10, w ∈ lw_tbl := by decide +kernel
set_option maxRecDepth 20000 in
theorem in_wsX30 : ∀ w ∈ wsX30, w ∈ lw_tbl := by decide +kernel
set_option maxRecDepth 20000 in
theorem in_wsX20 : ∀ w ∈ wsX20, w ∈ lw_tbl := by decide +kernel
theorem wsL_law_in0 : ∀ w ∈ wsL_law0, w ∈ lw_tbl := List.forall_mem_append.mpr ⟨List.forall_mem_append.mpr ⟨List.forall_mem_append.mpr ⟨List.forall_mem_append.mpr ⟨List.forall_mem_append.mpr ⟨List.forall_mem_append.mpr ⟨List.forall_mem_append.mpr ⟨List.forall_mem_append.mpr ⟨List.forall_mem_append.mpr ⟨List.forall_mem_append.mpr ⟨List.forall_mem_append.mpr ⟨in_wsL_law0_r1, List.forall_mem_append.mpr ⟨in_wsL_law0_r2, List.forall_mem_append.mpr ⟨in_wsL_law0_r3, List.forall_mem_append.mpr ⟨in_wsL_law0_r4, List.forall_mem_append.mpr ⟨in_wsL_law0_r5, List.forall_mem_append.mpr ⟨in_wsL_law0_r6, List.forall_mem_append.mpr ⟨in_wsL_law0_r7, List.forall_mem_append.mpr ⟨in_wsL_law0_r8, List.forall_mem_append.mpr ⟨in_wsL_law0_r9, List.forall_mem_append.mpr ⟨in_wsL_law0_r10, List.forall_mem_append.mpr ⟨in_wsL_law0_r11, List.forall_mem_append.mpr ⟨in_wsL_law0_r12, List.forall_mem_append.mpr ⟨in_wsL_law0_r13, List.forall_mem_append.mpr ⟨in_wsL_law0_r14, List.forall_mem_append.mpr ⟨in_wsL_law0_r15, List.forall_mem_append.mpr ⟨in_wsL_law0_r16, List.forall_mem_append.mpr ⟨in_wsL_law0_r17, List.forall_mem_append.mpr ⟨in_wsL_law0_r18, List.forall_mem_append.mpr ⟨in_wsL_law0_r19, List.forall_mem_append.mpr ⟨in_wsL_law0_r20, List.forall_mem_append.mpr ⟨in_wsL_law0_r21, List.forall_mem_append.mpr ⟨in_wsL_law0_r22, List.forall_mem_append.mpr ⟨in_wsL_law0_r23, List.forall_mem_append.mpr ⟨in_wsL_law0_r24, List.forall_mem_append.mpr ⟨in_wsL_law0_r25, List.forall_mem_append.mpr ⟨in_wsL_law0_r26, List.forall_mem_append.mpr ⟨in_wsL_law0_r27, List.forall_mem_append.mpr ⟨in_wsL_law0_r28, List.forall_mem_append.mpr ⟨in_wsL_law0_r29, in_wsL_law0_r30⟩⟩⟩⟩⟩⟩⟩⟩⟩⟩⟩⟩⟩⟩⟩⟩⟩⟩⟩⟩⟩⟩⟩⟩⟩⟩⟩⟩⟩, in_wsX60⟩, in_wsX70⟩, in_wsJx4a65c0⟩, in_wsX50⟩, in_wsX00⟩, in_wsX40⟩, in_wsX10⟩, in_wsX30⟩, in_wsX20⟩, fun _ h => absurd h List.not_mem_nil⟩
