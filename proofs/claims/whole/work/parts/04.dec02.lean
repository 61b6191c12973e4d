theorem dX6_isTooFar_21 : decode cX6_isTooFar 21 = .ok (.ireturn, 1) := by decide +kernel
theorem dX6_countPieces_0 : decode cX6_countPieces 0 = .ok (.iconst 0, 1) := by decide +kernel
theorem dX6_countPieces_1 : decode cX6_countPieces 1 = .ok (.istore_n 1, 1) := by decide +kernel
theorem dX6_countPieces_2 : decode cX6_countPieces 2 = .ok (.iconst 0, 1) := by decide +kernel
theorem dX6_countPieces_3 : decode cX6_countPieces 3 = .ok (.istore_n 2, 1) := by decide +kernel
theorem dX6_countPieces_4 : decode cX6_countPieces 4 = .ok (.iload_n 2, 1) := by decide +kernel
theorem dX6_countPieces_5 : decode cX6_countPieces 5 = .ok (.aload_n 0, 1) := by decide +kernel
theorem dX6_countPieces_6 : decode cX6_countPieces 6 = .ok (.getfield 10, 3) := by decide +kernel
theorem dX6_countPieces_9 : decode cX6_countPieces 9 = .ok (.invokevirtual 47, 3) := by decide +kernel
theorem dX6_countPieces_12 : decode cX6_countPieces 12 = .ok (.if_icmp .ge 28, 3) := by decide +kernel
theorem dX6_countPieces_15 : decode cX6_countPieces 15 = .ok (.iload_n 1, 1) := by decide +kernel
theorem dX6_countPieces_16 : decode cX6_countPieces 16 = .ok (.aload_n 0, 1) := by decide +kernel
theorem dX6_countPieces_17 : decode cX6_countPieces 17 = .ok (.getfield 10, 3) := by decide +kernel
theorem dX6_countPieces_20 : decode cX6_countPieces 20 = .ok (.iload_n 2, 1) := by decide +kernel
theorem dX6_countPieces_21 : decode cX6_countPieces 21 = .ok (.invokevirtual 72, 3) := by decide +kernel
theorem dX6_countPieces_24 : decode cX6_countPieces 24 = .ok (.checkcast 61, 3) := by decide +kernel
theorem dX6_countPieces_27 : decode cX6_countPieces 27 = .ok (.getfield 79, 3) := by decide +kernel
theorem dX6_countPieces_30 : decode cX6_countPieces 30 = .ok (.iconst 1, 1) := by decide +kernel
theorem dX6_countPieces_31 : decode cX6_countPieces 31 = .ok (.iadd, 1) := by decide +kernel
theorem dX6_countPieces_32 : decode cX6_countPieces 32 = .ok (.iadd, 1) := by decide +kernel
theorem dX6_countPieces_33 : decode cX6_countPieces 33 = .ok (.istore_n 1, 1) := by decide +kernel
theorem dX6_countPieces_34 : decode cX6_countPieces 34 = .ok (.iinc 2 1, 3) := by decide +kernel
theorem dX6_countPieces_37 : decode cX6_countPieces 37 = .ok (.goto (-33), 3) := by decide +kernel
theorem dX6_countPieces_40 : decode cX6_countPieces 40 = .ok (.iload_n 1, 1) := by decide +kernel
theorem dX6_countPieces_41 : decode cX6_countPieces 41 = .ok (.ireturn, 1) := by decide +kernel
theorem dX6_findNearOnes_0 : decode cX6_findNearOnes 0 = .ok (.aload_n 0, 1) := by decide +kernel
theorem dX6_findNearOnes_1 : decode cX6_findNearOnes 1 = .ok (.getfield 10, 3) := by decide +kernel
theorem dX6_findNearOnes_4 : decode cX6_findNearOnes 4 = .ok (.iload_n 1, 1) := by decide +kernel
theorem dX6_findNearOnes_5 : decode cX6_findNearOnes 5 = .ok (.invokevirtual 72, 3) := by decide +kernel
theorem dX6_findNearOnes_8 : decode cX6_findNearOnes 8 = .ok (.checkcast 61, 3) := by decide +kernel
theorem dX6_findNearOnes_11 : decode cX6_findNearOnes 11 = .ok (.astore_n 2, 1) := by decide +kernel
theorem dX6_findNearOnes_12 : decode cX6_findNearOnes 12 = .ok (.aload_n 2, 1) := by decide +kernel
theorem dX6_findNearOnes_13 : decode cX6_findNearOnes 13 = .ok (.getfield 76, 3) := by decide +kernel
theorem dX6_findNearOnes_16 : decode cX6_findNearOnes 16 = .ok (.invokevirtual 230, 3) := by decide +kernel
theorem dX6_findNearOnes_19 : decode cX6_findNearOnes 19 = .ok (.ifCond .eq 4, 3) := by decide +kernel
theorem dX6_findNearOnes_22 : decode cX6_findNearOnes 22 = .ok (.return_, 1) := by decide +kernel
theorem dX6_findNearOnes_23 : decode cX6_findNearOnes 23 = .ok (.aload_n 2, 1) := by decide +kernel
theorem dX6_findNearOnes_24 : decode cX6_findNearOnes 24 = .ok (.getfield 76, 3) := by decide +kernel
theorem dX6_findNearOnes_27 : decode cX6_findNearOnes 27 = .ok (.aload_n 2, 1) := by decide +kernel
theorem dX6_findNearOnes_28 : decode cX6_findNearOnes 28 = .ok (.getfield 76, 3) := by decide +kernel
theorem dX6_findNearOnes_31 : decode cX6_findNearOnes 31 = .ok (.invokevirtual 47, 3) := by decide +kernel
theorem dX6_findNearOnes_34 : decode cX6_findNearOnes 34 = .ok (.iconst 1, 1) := by decide +kernel
theorem dX6_findNearOnes_35 : decode cX6_findNearOnes 35 = .ok (.isub, 1) := by decide +kernel
theorem dX6_findNearOnes_36 : decode cX6_findNearOnes 36 = .ok (.invokevirtual 72, 3) := by decide +kernel
theorem dX6_findNearOnes_39 : decode cX6_findNearOnes 39 = .ok (.checkcast 175, 3) := by decide +kernel
theorem dX6_findNearOnes_42 : decode cX6_findNearOnes 42 = .ok (.astore_n 3, 1) := by decide +kernel
theorem dX6_findNearOnes_43 : decode cX6_findNearOnes 43 = .ok (.iconst 0, 1) := by decide +kernel
theorem dX6_findNearOnes_44 : decode cX6_findNearOnes 44 = .ok (.istore 4, 2) := by decide +kernel
theorem dX6_findNearOnes_46 : decode cX6_findNearOnes 46 = .ok (.iload 4, 2) := by decide +kernel
theorem dX6_findNearOnes_48 : decode cX6_findNearOnes 48 = .ok (.aload_n 0, 1) := by decide +kernel
theorem dX6_findNearOnes_49 : decode cX6_findNearOnes 49 = .ok (.getfield 10, 3) := by decide +kernel
theorem dX6_findNearOnes_52 : decode cX6_findNearOnes 52 = .ok (.invokevirtual 47, 3) := by decide +kernel
theorem dX6_findNearOnes_55 : decode cX6_findNearOnes 55 = .ok (.if_icmp .ge 71, 3) := by decide +kernel
theorem dX6_findNearOnes_58 : decode cX6_findNearOnes 58 = .ok (.aload_n 0, 1) := by decide +kernel
theorem dX6_findNearOnes_59 : decode cX6_findNearOnes 59 = .ok (.getfield 10, 3) := by decide +kernel
theorem dX6_findNearOnes_62 : decode cX6_findNearOnes 62 = .ok (.iload 4, 2) := by decide +kernel
theorem dX6_findNearOnes_64 : decode cX6_findNearOnes 64 = .ok (.invokevirtual 72, 3) := by decide +kernel
theorem dX6_findNearOnes_67 : decode cX6_findNearOnes 67 = .ok (.checkcast 61, 3) := by decide +kernel
theorem dX6_findNearOnes_70 : decode cX6_findNearOnes 70 = .ok (.astore 5, 2) := by decide +kernel
theorem dX6_findNearOnes_72 : decode cX6_findNearOnes 72 = .ok (.iload 4, 2) := by decide +kernel
theorem dX6_findNearOnes_74 : decode cX6_findNearOnes 74 = .ok (.iload_n 1, 1) := by decide +kernel
theorem dX6_findNearOnes_75 : decode cX6_findNearOnes 75 = .ok (.if_icmp .eq 45, 3) := by decide +kernel
theorem dX6_findNearOnes_78 : decode cX6_findNearOnes 78 = .ok (.aload_n 3, 1) := by decide +kernel
theorem dX6_findNearOnes_79 : decode cX6_findNearOnes 79 = .ok (.aload 5, 2) := by decide +kernel
theorem dX6_findNearOnes_81 : decode cX6_findNearOnes 81 = .ok (.getfield 76, 3) := by decide +kernel
theorem dX6_findNearOnes_84 : decode cX6_findNearOnes 84 = .ok (.aload_n 0, 1) := by decide +kernel
theorem dX6_findNearOnes_85 : decode cX6_findNearOnes 85 = .ok (.getfield 43, 3) := by decide +kernel
theorem dX6_findNearOnes_88 : decode cX6_findNearOnes 88 = .ok (.invokevirtual 233, 3) := by decide +kernel
theorem dX6_findNearOnes_91 : decode cX6_findNearOnes 91 = .ok (.ifCond .eq 29, 3) := by decide +kernel
theorem dX6_findNearOnes_94 : decode cX6_findNearOnes 94 = .ok (.aload_n 2, 1) := by decide +kernel
theorem dX6_findNearOnes_95 : decode cX6_findNearOnes 95 = .ok (.dup, 1) := by decide +kernel
theorem dX6_findNearOnes_96 : decode cX6_findNearOnes 96 = .ok (.getfield 103, 3) := by decide +kernel
theorem dX6_findNearOnes_99 : decode cX6_findNearOnes 99 = .ok (.iconst 1, 1) := by decide +kernel
theorem dX6_findNearOnes_100 : decode cX6_findNearOnes 100 = .ok (.iload 4, 2) := by decide +kernel
theorem dX6_findNearOnes_102 : decode cX6_findNearOnes 102 = .ok (.ishl, 1) := by decide +kernel
theorem dX6_findNearOnes_103 : decode cX6_findNearOnes 103 = .ok (.ior, 1) := by decide +kernel
theorem dX6_findNearOnes_104 : decode cX6_findNearOnes 104 = .ok (.putfield 103, 3) := by decide +kernel
theorem dX6_findNearOnes_107 : decode cX6_findNearOnes 107 = .ok (.aload 5, 2) := by decide +kernel
theorem dX6_findNearOnes_109 : decode cX6_findNearOnes 109 = .ok (.dup, 1) := by decide +kernel
theorem dX6_findNearOnes_110 : decode cX6_findNearOnes 110 = .ok (.getfield 103, 3) := by decide +kernel
theorem dX6_findNearOnes_113 : decode cX6_findNearOnes 113 = .ok (.iconst 1, 1) := by decide +kernel
theorem dX6_findNearOnes_114 : decode cX6_findNearOnes 114 = .ok (.iload_n 1, 1) := by decide +kernel
theorem dX6_findNearOnes_115 : decode cX6_findNearOnes 115 = .ok (.ishl, 1) := by decide +kernel
theorem dX6_findNearOnes_116 : decode cX6_findNearOnes 116 = .ok (.ior, 1) := by decide +kernel
theorem dX6_findNearOnes_117 : decode cX6_findNearOnes 117 = .ok (.putfield 103, 3) := by decide +kernel
theorem dX6_findNearOnes_120 : decode cX6_findNearOnes 120 = .ok (.iinc 4 1, 3) := by decide +kernel
theorem dX6_findNearOnes_123 : decode cX6_findNearOnes 123 = .ok (.goto (-77), 3) := by decide +kernel
theorem dX6_findNearOnes_126 : decode cX6_findNearOnes 126 = .ok (.return_, 1) := by decide +kernel
theorem dX6_cutShapes_0 : decode cX6_cutShapes 0 = .ok (.new 119, 3) := by decide +kernel
theorem dX6_cutShapes_3 : decode cX6_cutShapes 3 = .ok (.dup, 1) := by decide +kernel
theorem dX6_cutShapes_4 : decode cX6_cutShapes 4 = .ok (.invokespecial 237, 3) := by decide +kernel
theorem dX6_cutShapes_7 : decode cX6_cutShapes 7 = .ok (.astore_n 1, 1) := by decide +kernel
theorem dX6_cutShapes_8 : decode cX6_cutShapes 8 = .ok (.iconst 0, 1) := by decide +kernel
theorem dX6_cutShapes_9 : decode cX6_cutShapes 9 = .ok (.istore_n 2, 1) := by decide +kernel
theorem dX6_cutShapes_10 : decode cX6_cutShapes 10 = .ok (.iload_n 2, 1) := by decide +kernel
theorem dX6_cutShapes_11 : decode cX6_cutShapes 11 = .ok (.aload_n 0, 1) := by decide +kernel
theorem dX6_cutShapes_12 : decode cX6_cutShapes 12 = .ok (.getfield 10, 3) := by decide +kernel
theorem dX6_cutShapes_15 : decode cX6_cutShapes 15 = .ok (.invokevirtual 47, 3) := by decide +kernel
theorem dX6_cutShapes_18 : decode cX6_cutShapes 18 = .ok (.if_icmp .ge 54, 3) := by decide +kernel
theorem dX6_cutShapes_21 : decode cX6_cutShapes 21 = .ok (.aload_n 0, 1) := by decide +kernel
theorem dX6_cutShapes_22 : decode cX6_cutShapes 22 = .ok (.getfield 10, 3) := by decide +kernel
theorem dX6_cutShapes_25 : decode cX6_cutShapes 25 = .ok (.iload_n 2, 1) := by decide +kernel
theorem dX6_cutShapes_26 : decode cX6_cutShapes 26 = .ok (.invokevirtual 72, 3) := by decide +kernel
theorem dX6_cutShapes_29 : decode cX6_cutShapes 29 = .ok (.checkcast 61, 3) := by decide +kernel
theorem dX6_cutShapes_32 : decode cX6_cutShapes 32 = .ok (.astore_n 3, 1) := by decide +kernel
theorem dX6_cutShapes_33 : decode cX6_cutShapes 33 = .ok (.iconst 0, 1) := by decide +kernel
theorem dX6_cutShapes_34 : decode cX6_cutShapes 34 = .ok (.istore 4, 2) := by decide +kernel
theorem dX6_cutShapes_36 : decode cX6_cutShapes 36 = .ok (.iload 4, 2) := by decide +kernel
theorem dX6_cutShapes_38 : decode cX6_cutShapes 38 = .ok (.aload_n 3, 1) := by decide +kernel
theorem dX6_cutShapes_39 : decode cX6_cutShapes 39 = .ok (.getfield 79, 3) := by decide +kernel
theorem dX6_cutShapes_42 : decode cX6_cutShapes 42 = .ok (.if_icmp .gt 24, 3) := by decide +kernel
theorem dX6_cutShapes_45 : decode cX6_cutShapes 45 = .ok (.aload_n 1, 1) := by decide +kernel
theorem dX6_cutShapes_46 : decode cX6_cutShapes 46 = .ok (.iload_n 2, 1) := by decide +kernel
theorem dX6_cutShapes_47 : decode cX6_cutShapes 47 = .ok (.aload_n 3, 1) := by decide +kernel
theorem dX6_cutShapes_48 : decode cX6_cutShapes 48 = .ok (.getfield 164, 3) := by decide +kernel
theorem dX6_cutShapes_51 : decode cX6_cutShapes 51 = .ok (.aload_n 3, 1) := by decide +kernel
theorem dX6_cutShapes_52 : decode cX6_cutShapes 52 = .ok (.iload 4, 2) := by decide +kernel
theorem dX6_cutShapes_54 : decode cX6_cutShapes 54 = .ok (.invokevirtual 238, 3) := by decide +kernel
theorem dX6_cutShapes_57 : decode cX6_cutShapes 57 = .ok (.invokevirtual 242, 3) := by decide +kernel
theorem dX6_cutShapes_60 : decode cX6_cutShapes 60 = .ok (.iinc 4 1, 3) := by decide +kernel
theorem dX6_cutShapes_63 : decode cX6_cutShapes 63 = .ok (.goto (-27), 3) := by decide +kernel
theorem dX6_cutShapes_66 : decode cX6_cutShapes 66 = .ok (.iinc 2 1, 3) := by decide +kernel
theorem dX6_cutShapes_69 : decode cX6_cutShapes 69 = .ok (.goto (-59), 3) := by decide +kernel
theorem dX6_cutShapes_72 : decode cX6_cutShapes 72 = .ok (.aload_n 1, 1) := by decide +kernel
theorem dX6_cutShapes_73 : decode cX6_cutShapes 73 = .ok (.areturn, 1) := by decide +kernel
theorem dX7_init_0 : decode cX7_init 0 = .ok (.aload_n 0, 1) := by decide +kernel
theorem dX7_init_1 : decode cX7_init 1 = .ok (.invokespecial 1, 3) := by decide +kernel
theorem dX7_init_4 : decode cX7_init 4 = .ok (.aload_n 0, 1) := by decide +kernel
theorem dX7_init_5 : decode cX7_init 5 = .ok (.bipush 80, 2) := by decide +kernel
theorem dX7_init_7 : decode cX7_init 7 = .ok (.newarray .long, 2) := by decide +kernel
theorem dX7_init_9 : decode cX7_init 9 = .ok (.putfield 7, 3) := by decide +kernel
theorem dX7_init_12 : decode cX7_init 12 = .ok (.aload_n 0, 1) := by decide +kernel
theorem dX7_init_13 : decode cX7_init 13 = .ok (.bipush 80, 2) := by decide +kernel
theorem dX7_init_15 : decode cX7_init 15 = .ok (.newarray .long, 2) := by decide +kernel
theorem dX7_init_17 : decode cX7_init 17 = .ok (.putfield 13, 3) := by decide +kernel
theorem dX7_init_20 : decode cX7_init 20 = .ok (.aload_n 0, 1) := by decide +kernel
theorem dX7_init_21 : decode cX7_init 21 = .ok (.bipush 10, 2) := by decide +kernel
theorem dX7_init_23 : decode cX7_init 23 = .ok (.newarray .int, 2) := by decide +kernel
theorem dX7_init_25 : decode cX7_init 25 = .ok (.putfield 16, 3) := by decide +kernel
theorem dX7_init_28 : decode cX7_init 28 = .ok (.aload_n 0, 1) := by decide +kernel
theorem dX7_init_29 : decode cX7_init 29 = .ok (.bipush 10, 2) := by decide +kernel
theorem dX7_init_31 : decode cX7_init 31 = .ok (.newarray .int, 2) := by decide +kernel
theorem dX7_init_33 : decode cX7_init 33 = .ok (.putfield 20, 3) := by decide +kernel
theorem dX7_init_36 : decode cX7_init 36 = .ok (.aload_n 0, 1) := by decide +kernel
theorem dX7_init_37 : decode cX7_init 37 = .ok (.bipush 30, 2) := by decide +kernel
theorem dX7_init_39 : decode cX7_init 39 = .ok (.newarray .long, 2) := by decide +kernel
theorem dX7_init_41 : decode cX7_init 41 = .ok (.putfield 23, 3) := by decide +kernel
theorem dX7_init_44 : decode cX7_init 44 = .ok (.aload_n 0, 1) := by decide +kernel
theorem dX7_init_45 : decode cX7_init 45 = .ok (.bipush 10, 2) := by decide +kernel
theorem dX7_init_47 : decode cX7_init 47 = .ok (.newarray .int, 2) := by decide +kernel
theorem dX7_init_49 : decode cX7_init 49 = .ok (.putfield 26, 3) := by decide +kernel
theorem dX7_init_52 : decode cX7_init 52 = .ok (.aload_n 0, 1) := by decide +kernel
theorem dX7_init_53 : decode cX7_init 53 = .ok (.bipush 10, 2) := by decide +kernel
theorem dX7_init_55 : decode cX7_init 55 = .ok (.newarray .boolean, 2) := by decide +kernel
theorem dX7_init_57 : decode cX7_init 57 = .ok (.putfield 29, 3) := by decide +kernel
theorem dX7_init_60 : decode cX7_init 60 = .ok (.aload_n 0, 1) := by decide +kernel
theorem dX7_init_61 : decode cX7_init 61 = .ok (.bipush 12, 2) := by decide +kernel
theorem dX7_init_63 : decode cX7_init 63 = .ok (.newarray .int, 2) := by decide +kernel
theorem dX7_init_65 : decode cX7_init 65 = .ok (.putfield 33, 3) := by decide +kernel
theorem dX7_init_68 : decode cX7_init 68 = .ok (.aload_n 0, 1) := by decide +kernel
theorem dX7_init_69 : decode cX7_init 69 = .ok (.bipush 12, 2) := by decide +kernel
theorem dX7_init_71 : decode cX7_init 71 = .ok (.newarray .int, 2) := by decide +kernel
theorem dX7_init_73 : decode cX7_init 73 = .ok (.putfield 36, 3) := by decide +kernel
theorem dX7_init_76 : decode cX7_init 76 = .ok (.aload_n 0, 1) := by decide +kernel
theorem dX7_init_77 : decode cX7_init 77 = .ok (.sipush 144, 3) := by decide +kernel
theorem dX7_init_80 : decode cX7_init 80 = .ok (.newarray .boolean, 2) := by decide +kernel
theorem dX7_init_82 : decode cX7_init 82 = .ok (.putfield 39, 3) := by decide +kernel
theorem dX7_init_85 : decode cX7_init 85 = .ok (.aload_n 0, 1) := by decide +kernel
theorem dX7_init_86 : decode cX7_init 86 = .ok (.iconst 4, 1) := by decide +kernel
theorem dX7_init_87 : decode cX7_init 87 = .ok (.newarray .long, 2) := by decide +kernel
theorem dX7_init_89 : decode cX7_init 89 = .ok (.putfield 42, 3) := by decide +kernel
theorem dX7_init_92 : decode cX7_init 92 = .ok (.aload_n 0, 1) := by decide +kernel
theorem dX7_init_93 : decode cX7_init 93 = .ok (.iconst 4, 1) := by decide +kernel
theorem dX7_init_94 : decode cX7_init 94 = .ok (.newarray .long, 2) := by decide +kernel
theorem dX7_init_96 : decode cX7_init 96 = .ok (.putfield 45, 3) := by decide +kernel
theorem dX7_init_99 : decode cX7_init 99 = .ok (.aload_n 0, 1) := by decide +kernel
theorem dX7_init_100 : decode cX7_init 100 = .ok (.bipush 13, 2) := by decide +kernel
theorem dX7_init_102 : decode cX7_init 102 = .ok (.newarray .int, 2) := by decide +kernel
theorem dX7_init_104 : decode cX7_init 104 = .ok (.putfield 48, 3) := by decide +kernel
theorem dX7_init_107 : decode cX7_init 107 = .ok (.aload_n 0, 1) := by decide +kernel
theorem dX7_init_108 : decode cX7_init 108 = .ok (.bipush 12, 2) := by decide +kernel
theorem dX7_init_110 : decode cX7_init 110 = .ok (.newarray .int, 2) := by decide +kernel
theorem dX7_init_112 : decode cX7_init 112 = .ok (.putfield 51, 3) := by decide +kernel
theorem dX7_init_115 : decode cX7_init 115 = .ok (.aload_n 0, 1) := by decide +kernel
theorem dX7_init_116 : decode cX7_init 116 = .ok (.bipush 12, 2) := by decide +kernel
theorem dX7_init_118 : decode cX7_init 118 = .ok (.newarray .int, 2) := by decide +kernel
theorem dX7_init_120 : decode cX7_init 120 = .ok (.putfield 54, 3) := by decide +kernel
theorem dX7_init_123 : decode cX7_init 123 = .ok (.aload_n 0, 1) := by decide +kernel
theorem dX7_init_124 : decode cX7_init 124 = .ok (.bipush 12, 2) := by decide +kernel
theorem dX7_init_126 : decode cX7_init 126 = .ok (.newarray .long, 2) := by decide +kernel
theorem dX7_init_128 : decode cX7_init 128 = .ok (.putfield 57, 3) := by decide +kernel
theorem dX7_init_131 : decode cX7_init 131 = .ok (.aload_n 0, 1) := by decide +kernel
theorem dX7_init_132 : decode cX7_init 132 = .ok (.bipush 13, 2) := by decide +kernel
theorem dX7_init_134 : decode cX7_init 134 = .ok (.newarray .int, 2) := by decide +kernel
theorem dX7_init_136 : decode cX7_init 136 = .ok (.putfield 60, 3) := by decide +kernel
theorem dX7_init_139 : decode cX7_init 139 = .ok (.aload_n 0, 1) := by decide +kernel
theorem dX7_init_140 : decode cX7_init 140 = .ok (.bipush 12, 2) := by decide +kernel
theorem dX7_init_142 : decode cX7_init 142 = .ok (.newarray .int, 2) := by decide +kernel
theorem dX7_init_144 : decode cX7_init 144 = .ok (.putfield 63, 3) := by decide +kernel
theorem dX7_init_147 : decode cX7_init 147 = .ok (.aload_n 0, 1) := by decide +kernel
theorem dX7_init_148 : decode cX7_init 148 = .ok (.lload_n 1, 1) := by decide +kernel
theorem dX7_init_149 : decode cX7_init 149 = .ok (.lconst 1, 1) := by decide +kernel
theorem dX7_init_150 : decode cX7_init 150 = .ok (.lcmp, 1) := by decide +kernel
theorem dX7_init_151 : decode cX7_init 151 = .ok (.ifCond .ge 7, 3) := by decide +kernel
theorem dX7_init_154 : decode cX7_init 154 = .ok (.lconst 1, 1) := by decide +kernel
theorem dX7_init_155 : decode cX7_init 155 = .ok (.goto 18, 3) := by decide +kernel
theorem dX7_init_158 : decode cX7_init 158 = .ok (.lload_n 1, 1) := by decide +kernel
theorem dX7_init_159 : decode cX7_init 159 = .ok (.ldc2_w 66, 3) := by decide +kernel
theorem dX7_init_162 : decode cX7_init 162 = .ok (.lcmp, 1) := by decide +kernel
theorem dX7_init_163 : decode cX7_init 163 = .ok (.ifCond .le 9, 3) := by decide +kernel
theorem dX7_init_166 : decode cX7_init 166 = .ok (.ldc2_w 66, 3) := by decide +kernel
theorem dX7_init_169 : decode cX7_init 169 = .ok (.goto 4, 3) := by decide +kernel
theorem dX7_init_172 : decode cX7_init 172 = .ok (.lload_n 1, 1) := by decide +kernel
theorem dX7_init_173 : decode cX7_init 173 = .ok (.putfield 68, 3) := by decide +kernel
theorem dX7_init_176 : decode cX7_init 176 = .ok (.return_, 1) := by decide +kernel
theorem dX7_thrown_0 : decode cX7_thrown 0 = .ok (.aload_n 0, 1) := by decide +kernel
theorem dX7_thrown_1 : decode cX7_thrown 1 = .ok (.getfield 72, 3) := by decide +kernel
theorem dX7_thrown_4 : decode cX7_thrown 4 = .ok (.ireturn, 1) := by decide +kernel
theorem dX7_isShape_0 : decode cX7_isShape 0 = .ok (.iload_n 1, 1) := by decide +kernel
theorem dX7_isShape_1 : decode cX7_isShape 1 = .ok (.ifCond .lt 15, 3) := by decide +kernel
theorem dX7_isShape_4 : decode cX7_isShape 4 = .ok (.iload_n 1, 1) := by decide +kernel
theorem dX7_isShape_5 : decode cX7_isShape 5 = .ok (.aload_n 0, 1) := by decide +kernel
theorem dX7_isShape_6 : decode cX7_isShape 6 = .ok (.getfield 76, 3) := by decide +kernel
theorem dX7_isShape_9 : decode cX7_isShape 9 = .ok (.if_icmp .ge 7, 3) := by decide +kernel
theorem dX7_isShape_12 : decode cX7_isShape 12 = .ok (.iconst 1, 1) := by decide +kernel
theorem dX7_isShape_13 : decode cX7_isShape 13 = .ok (.goto 4, 3) := by decide +kernel
theorem dX7_isShape_16 : decode cX7_isShape 16 = .ok (.iconst 0, 1) := by decide +kernel
theorem dX7_isShape_17 : decode cX7_isShape 17 = .ok (.ireturn, 1) := by decide +kernel
theorem dX7_isOpen_0 : decode cX7_isOpen 0 = .ok (.iconst 0, 1) := by decide +kernel
theorem dX7_isOpen_1 : decode cX7_isOpen 1 = .ok (.istore_n 1, 1) := by decide +kernel
theorem dX7_isOpen_2 : decode cX7_isOpen 2 = .ok (.iconst 0, 1) := by decide +kernel
theorem dX7_isOpen_3 : decode cX7_isOpen 3 = .ok (.istore_n 2, 1) := by decide +kernel
theorem dX7_isOpen_4 : decode cX7_isOpen 4 = .ok (.iload_n 2, 1) := by decide +kernel
theorem dX7_isOpen_5 : decode cX7_isOpen 5 = .ok (.aload_n 0, 1) := by decide +kernel
theorem dX7_isOpen_6 : decode cX7_isOpen 6 = .ok (.getfield 76, 3) := by decide +kernel
theorem dX7_isOpen_9 : decode cX7_isOpen 9 = .ok (.if_icmp .ge 40, 3) := by decide +kernel
theorem dX7_isOpen_12 : decode cX7_isOpen 12 = .ok (.iload_n 1, 1) := by decide +kernel
theorem dX7_isOpen_13 : decode cX7_isOpen 13 = .ok (.ifCond .ne 24, 3) := by decide +kernel
theorem dX7_isOpen_16 : decode cX7_isOpen 16 = .ok (.aload_n 0, 1) := by decide +kernel
theorem dX7_isOpen_17 : decode cX7_isOpen 17 = .ok (.getfield 16, 3) := by decide +kernel
theorem dX7_isOpen_20 : decode cX7_isOpen 20 = .ok (.iload_n 2, 1) := by decide +kernel
theorem dX7_isOpen_21 : decode cX7_isOpen 21 = .ok (.iaload, 1) := by decide +kernel
theorem dX7_isOpen_22 : decode cX7_isOpen 22 = .ok (.iconst 2, 1) := by decide +kernel
theorem dX7_isOpen_23 : decode cX7_isOpen 23 = .ok (.irem, 1) := by decide +kernel
theorem dX7_isOpen_24 : decode cX7_isOpen 24 = .ok (.iconst 1, 1) := by decide +kernel
theorem dX7_isOpen_25 : decode cX7_isOpen 25 = .ok (.if_icmp .eq 12, 3) := by decide +kernel
theorem dX7_isOpen_28 : decode cX7_isOpen 28 = .ok (.aload_n 0, 1) := by decide +kernel
theorem dX7_isOpen_29 : decode cX7_isOpen 29 = .ok (.getfield 16, 3) := by decide +kernel
theorem dX7_isOpen_32 : decode cX7_isOpen 32 = .ok (.iload_n 2, 1) := by decide +kernel
theorem dX7_isOpen_33 : decode cX7_isOpen 33 = .ok (.iaload, 1) := by decide +kernel
theorem dX7_isOpen_34 : decode cX7_isOpen 34 = .ok (.ifCond .ne 7, 3) := by decide +kernel
theorem dX7_isOpen_37 : decode cX7_isOpen 37 = .ok (.iconst 1, 1) := by decide +kernel
theorem dX7_isOpen_38 : decode cX7_isOpen 38 = .ok (.goto 4, 3) := by decide +kernel
theorem dX7_isOpen_41 : decode cX7_isOpen 41 = .ok (.iconst 0, 1) := by decide +kernel
theorem dX7_isOpen_42 : decode cX7_isOpen 42 = .ok (.istore_n 1, 1) := by decide +kernel
theorem dX7_isOpen_43 : decode cX7_isOpen 43 = .ok (.iinc 2 1, 3) := by decide +kernel
theorem dX7_isOpen_46 : decode cX7_isOpen 46 = .ok (.goto (-42), 3) := by decide +kernel
theorem dX7_isOpen_49 : decode cX7_isOpen 49 = .ok (.iload_n 1, 1) := by decide +kernel
theorem dX7_isOpen_50 : decode cX7_isOpen 50 = .ok (.ireturn, 1) := by decide +kernel
theorem dX7_allPieces_0 : decode cX7_allPieces 0 = .ok (.iconst 0, 1) := by decide +kernel
theorem dX7_allPieces_1 : decode cX7_allPieces 1 = .ok (.istore_n 1, 1) := by decide +kernel
theorem dX7_allPieces_2 : decode cX7_allPieces 2 = .ok (.iconst 0, 1) := by decide +kernel
theorem dX7_allPieces_3 : decode cX7_allPieces 3 = .ok (.istore_n 2, 1) := by decide +kernel
theorem dX7_allPieces_4 : decode cX7_allPieces 4 = .ok (.iload_n 2, 1) := by decide +kernel
theorem dX7_allPieces_5 : decode cX7_allPieces 5 = .ok (.aload_n 0, 1) := by decide +kernel
theorem dX7_allPieces_6 : decode cX7_allPieces 6 = .ok (.getfield 76, 3) := by decide +kernel
theorem dX7_allPieces_9 : decode cX7_allPieces 9 = .ok (.if_icmp .ge 20, 3) := by decide +kernel
theorem dX7_allPieces_12 : decode cX7_allPieces 12 = .ok (.iload_n 1, 1) := by decide +kernel
theorem dX7_allPieces_13 : decode cX7_allPieces 13 = .ok (.iconst 1, 1) := by decide +kernel
theorem dX7_allPieces_14 : decode cX7_allPieces 14 = .ok (.aload_n 0, 1) := by decide +kernel
theorem dX7_allPieces_15 : decode cX7_allPieces 15 = .ok (.getfield 26, 3) := by decide +kernel
theorem dX7_allPieces_18 : decode cX7_allPieces 18 = .ok (.iload_n 2, 1) := by decide +kernel
theorem dX7_allPieces_19 : decode cX7_allPieces 19 = .ok (.iaload, 1) := by decide +kernel
theorem dX7_allPieces_20 : decode cX7_allPieces 20 = .ok (.iadd, 1) := by decide +kernel
theorem dX7_allPieces_21 : decode cX7_allPieces 21 = .ok (.iadd, 1) := by decide +kernel
theorem dX7_allPieces_22 : decode cX7_allPieces 22 = .ok (.istore_n 1, 1) := by decide +kernel
theorem dX7_allPieces_23 : decode cX7_allPieces 23 = .ok (.iinc 2 1, 3) := by decide +kernel
theorem dX7_allPieces_26 : decode cX7_allPieces 26 = .ok (.goto (-22), 3) := by decide +kernel
theorem dX7_allPieces_29 : decode cX7_allPieces 29 = .ok (.iload_n 1, 1) := by decide +kernel
theorem dX7_allPieces_30 : decode cX7_allPieces 30 = .ok (.ireturn, 1) := by decide +kernel
theorem dX7_shape_0 : decode cX7_shape 0 = .ok (.aload_n 0, 1) := by decide +kernel
theorem dX7_shape_1 : decode cX7_shape 1 = .ok (.aload_n 0, 1) := by decide +kernel
theorem dX7_shape_2 : decode cX7_shape 2 = .ok (.getfield 76, 3) := by decide +kernel
theorem dX7_shape_5 : decode cX7_shape 5 = .ok (.bipush 10, 2) := by decide +kernel
theorem dX7_shape_7 : decode cX7_shape 7 = .ok (.if_icmp .eq 12, 3) := by decide +kernel
theorem dX7_shape_10 : decode cX7_shape 10 = .ok (.aload_n 0, 1) := by decide +kernel
theorem dX7_shape_11 : decode cX7_shape 11 = .ok (.invokevirtual 79, 3) := by decide +kernel
theorem dX7_shape_14 : decode cX7_shape 14 = .ok (.bipush 12, 2) := by decide +kernel
theorem dX7_shape_16 : decode cX7_shape 16 = .ok (.if_icmp .ne 7, 3) := by decide +kernel
theorem dX7_shape_19 : decode cX7_shape 19 = .ok (.iconst 1, 1) := by decide +kernel
theorem dX7_shape_20 : decode cX7_shape 20 = .ok (.goto 4, 3) := by decide +kernel
theorem dX7_shape_23 : decode cX7_shape 23 = .ok (.iconst 0, 1) := by decide +kernel
theorem dX7_shape_24 : decode cX7_shape 24 = .ok (.putfield 72, 3) := by decide +kernel
theorem dX7_shape_27 : decode cX7_shape 27 = .ok (.aload_n 0, 1) := by decide +kernel
theorem dX7_shape_28 : decode cX7_shape 28 = .ok (.getfield 72, 3) := by decide +kernel
theorem dX7_shape_31 : decode cX7_shape 31 = .ok (.ifCond .le 5, 3) := by decide +kernel
theorem dX7_shape_34 : decode cX7_shape 34 = .ok (.iconst 0, 1) := by decide +kernel
theorem dX7_shape_35 : decode cX7_shape 35 = .ok (.ireturn, 1) := by decide +kernel
theorem dX7_shape_36 : decode cX7_shape 36 = .ok (.aload_n 0, 1) := by decide +kernel
theorem dX7_shape_37 : decode cX7_shape 37 = .ok (.getfield 16, 3) := by decide +kernel
theorem dX7_shape_40 : decode cX7_shape 40 = .ok (.aload_n 0, 1) := by decide +kernel
theorem dX7_shape_41 : decode cX7_shape 41 = .ok (.getfield 76, 3) := by decide +kernel
theorem dX7_shape_44 : decode cX7_shape 44 = .ok (.iconst 0, 1) := by decide +kernel
theorem dX7_shape_45 : decode cX7_shape 45 = .ok (.iastore, 1) := by decide +kernel
theorem dX7_shape_46 : decode cX7_shape 46 = .ok (.aload_n 0, 1) := by decide +kernel
theorem dX7_shape_47 : decode cX7_shape 47 = .ok (.getfield 20, 3) := by decide +kernel
theorem dX7_shape_50 : decode cX7_shape 50 = .ok (.aload_n 0, 1) := by decide +kernel
theorem dX7_shape_51 : decode cX7_shape 51 = .ok (.getfield 76, 3) := by decide +kernel
theorem dX7_shape_54 : decode cX7_shape 54 = .ok (.iconst (-1), 1) := by decide +kernel
theorem dX7_shape_55 : decode cX7_shape 55 = .ok (.iastore, 1) := by decide +kernel
theorem dX7_shape_56 : decode cX7_shape 56 = .ok (.aload_n 0, 1) := by decide +kernel
theorem dX7_shape_57 : decode cX7_shape 57 = .ok (.getfield 26, 3) := by decide +kernel
theorem dX7_shape_60 : decode cX7_shape 60 = .ok (.aload_n 0, 1) := by decide +kernel
theorem dX7_shape_61 : decode cX7_shape 61 = .ok (.getfield 76, 3) := by decide +kernel
theorem dX7_shape_64 : decode cX7_shape 64 = .ok (.iconst 0, 1) := by decide +kernel
theorem dX7_shape_65 : decode cX7_shape 65 = .ok (.iastore, 1) := by decide +kernel
theorem dX7_shape_66 : decode cX7_shape 66 = .ok (.aload_n 0, 1) := by decide +kernel
theorem dX7_shape_67 : decode cX7_shape 67 = .ok (.dup, 1) := by decide +kernel
theorem dX7_shape_68 : decode cX7_shape 68 = .ok (.getfield 76, 3) := by decide +kernel
theorem dX7_shape_71 : decode cX7_shape 71 = .ok (.iconst 1, 1) := by decide +kernel
theorem dX7_shape_72 : decode cX7_shape 72 = .ok (.iadd, 1) := by decide +kernel
theorem dX7_shape_73 : decode cX7_shape 73 = .ok (.putfield 76, 3) := by decide +kernel
theorem dX7_shape_76 : decode cX7_shape 76 = .ok (.aload_n 0, 1) := by decide +kernel
theorem dX7_shape_77 : decode cX7_shape 77 = .ok (.getfield 76, 3) := by decide +kernel
theorem dX7_shape_80 : decode cX7_shape 80 = .ok (.iconst 1, 1) := by decide +kernel
theorem dX7_shape_81 : decode cX7_shape 81 = .ok (.isub, 1) := by decide +kernel
theorem dX7_shape_82 : decode cX7_shape 82 = .ok (.ireturn, 1) := by decide +kernel
theorem dX7_corner_0 : decode cX7_corner 0 = .ok (.aload_n 0, 1) := by decide +kernel
theorem dX7_corner_1 : decode cX7_corner 1 = .ok (.aload_n 0, 1) := by decide +kernel
theorem dX7_corner_2 : decode cX7_corner 2 = .ok (.iload_n 1, 1) := by decide +kernel
theorem dX7_corner_3 : decode cX7_corner 3 = .ok (.invokevirtual 83, 3) := by decide +kernel
theorem dX7_corner_6 : decode cX7_corner 6 = .ok (.ifCond .ne 7, 3) := by decide +kernel
theorem dX7_corner_9 : decode cX7_corner 9 = .ok (.iconst 1, 1) := by decide +kernel
theorem dX7_corner_10 : decode cX7_corner 10 = .ok (.goto 66, 3) := by decide +kernel
theorem dX7_corner_13 : decode cX7_corner 13 = .ok (.aload_n 0, 1) := by decide +kernel
theorem dX7_corner_14 : decode cX7_corner 14 = .ok (.getfield 16, 3) := by decide +kernel
theorem dX7_corner_17 : decode cX7_corner 17 = .ok (.iload_n 1, 1) := by decide +kernel
theorem dX7_corner_18 : decode cX7_corner 18 = .ok (.iaload, 1) := by decide +kernel
theorem dX7_corner_19 : decode cX7_corner 19 = .ok (.bipush 8, 2) := by decide +kernel
theorem dX7_corner_21 : decode cX7_corner 21 = .ok (.if_icmp .eq 12, 3) := by decide +kernel
theorem dX7_corner_24 : decode cX7_corner 24 = .ok (.aload_n 0, 1) := by decide +kernel
theorem dX7_corner_25 : decode cX7_corner 25 = .ok (.getfield 26, 3) := by decide +kernel
theorem dX7_corner_28 : decode cX7_corner 28 = .ok (.iload_n 1, 1) := by decide +kernel
theorem dX7_corner_29 : decode cX7_corner 29 = .ok (.iaload, 1) := by decide +kernel
theorem dX7_corner_30 : decode cX7_corner 30 = .ok (.ifCond .le 7, 3) := by decide +kernel
theorem dX7_corner_33 : decode cX7_corner 33 = .ok (.iconst 2, 1) := by decide +kernel
theorem dX7_corner_34 : decode cX7_corner 34 = .ok (.goto 42, 3) := by decide +kernel
theorem dX7_corner_37 : decode cX7_corner 37 = .ok (.lload_n 2, 1) := by decide +kernel
theorem dX7_corner_38 : decode cX7_corner 38 = .ok (.ldc2_w 87, 3) := by decide +kernel
theorem dX7_corner_41 : decode cX7_corner 41 = .ok (.lcmp, 1) := by decide +kernel
theorem dX7_corner_42 : decode cX7_corner 42 = .ok (.ifCond .lt 29, 3) := by decide +kernel
theorem dX7_corner_45 : decode cX7_corner 45 = .ok (.lload_n 2, 1) := by decide +kernel
theorem dX7_corner_46 : decode cX7_corner 46 = .ok (.ldc2_w 89, 3) := by decide +kernel
theorem dX7_corner_49 : decode cX7_corner 49 = .ok (.lcmp, 1) := by decide +kernel
theorem dX7_corner_50 : decode cX7_corner 50 = .ok (.ifCond .gt 21, 3) := by decide +kernel
theorem dX7_corner_53 : decode cX7_corner 53 = .ok (.lload 4, 2) := by decide +kernel
theorem dX7_corner_55 : decode cX7_corner 55 = .ok (.ldc2_w 87, 3) := by decide +kernel
theorem dX7_corner_58 : decode cX7_corner 58 = .ok (.lcmp, 1) := by decide +kernel
theorem dX7_corner_59 : decode cX7_corner 59 = .ok (.ifCond .lt 12, 3) := by decide +kernel
theorem dX7_corner_62 : decode cX7_corner 62 = .ok (.lload 4, 2) := by decide +kernel
theorem dX7_corner_64 : decode cX7_corner 64 = .ok (.ldc2_w 89, 3) := by decide +kernel
theorem dX7_corner_67 : decode cX7_corner 67 = .ok (.lcmp, 1) := by decide +kernel
theorem dX7_corner_68 : decode cX7_corner 68 = .ok (.ifCond .le 7, 3) := by decide +kernel
theorem dX7_corner_71 : decode cX7_corner 71 = .ok (.iconst 3, 1) := by decide +kernel
theorem dX7_corner_72 : decode cX7_corner 72 = .ok (.goto 4, 3) := by decide +kernel
theorem dX7_corner_75 : decode cX7_corner 75 = .ok (.iconst 0, 1) := by decide +kernel
theorem dX7_corner_76 : decode cX7_corner 76 = .ok (.putfield 72, 3) := by decide +kernel
theorem dX7_corner_79 : decode cX7_corner 79 = .ok (.aload_n 0, 1) := by decide +kernel
theorem dX7_corner_80 : decode cX7_corner 80 = .ok (.getfield 72, 3) := by decide +kernel
theorem dX7_corner_83 : decode cX7_corner 83 = .ok (.ifCond .le 5, 3) := by decide +kernel
theorem dX7_corner_86 : decode cX7_corner 86 = .ok (.iconst 0, 1) := by decide +kernel
theorem dX7_corner_87 : decode cX7_corner 87 = .ok (.ireturn, 1) := by decide +kernel
theorem dX7_corner_88 : decode cX7_corner 88 = .ok (.aload_n 0, 1) := by decide +kernel
theorem dX7_corner_89 : decode cX7_corner 89 = .ok (.getfield 7, 3) := by decide +kernel
theorem dX7_corner_92 : decode cX7_corner 92 = .ok (.bipush 8, 2) := by decide +kernel
theorem dX7_corner_94 : decode cX7_corner 94 = .ok (.iload_n 1, 1) := by decide +kernel
theorem dX7_corner_95 : decode cX7_corner 95 = .ok (.imul, 1) := by decide +kernel
theorem dX7_corner_96 : decode cX7_corner 96 = .ok (.aload_n 0, 1) := by decide +kernel
theorem dX7_corner_97 : decode cX7_corner 97 = .ok (.getfield 16, 3) := by decide +kernel
theorem dX7_corner_100 : decode cX7_corner 100 = .ok (.iload_n 1, 1) := by decide +kernel
theorem dX7_corner_101 : decode cX7_corner 101 = .ok (.iaload, 1) := by decide +kernel
theorem dX7_corner_102 : decode cX7_corner 102 = .ok (.iadd, 1) := by decide +kernel
theorem dX7_corner_103 : decode cX7_corner 103 = .ok (.lload_n 2, 1) := by decide +kernel
theorem dX7_corner_104 : decode cX7_corner 104 = .ok (.lastore, 1) := by decide +kernel
theorem dX7_corner_105 : decode cX7_corner 105 = .ok (.aload_n 0, 1) := by decide +kernel
theorem dX7_corner_106 : decode cX7_corner 106 = .ok (.getfield 13, 3) := by decide +kernel
theorem dX7_corner_109 : decode cX7_corner 109 = .ok (.bipush 8, 2) := by decide +kernel
theorem dX7_corner_111 : decode cX7_corner 111 = .ok (.iload_n 1, 1) := by decide +kernel
theorem dX7_corner_112 : decode cX7_corner 112 = .ok (.imul, 1) := by decide +kernel
theorem dX7_corner_113 : decode cX7_corner 113 = .ok (.aload_n 0, 1) := by decide +kernel
theorem dX7_corner_114 : decode cX7_corner 114 = .ok (.getfield 16, 3) := by decide +kernel
theorem dX7_corner_117 : decode cX7_corner 117 = .ok (.iload_n 1, 1) := by decide +kernel
theorem dX7_corner_118 : decode cX7_corner 118 = .ok (.iaload, 1) := by decide +kernel
theorem dX7_corner_119 : decode cX7_corner 119 = .ok (.iadd, 1) := by decide +kernel
theorem dX7_corner_120 : decode cX7_corner 120 = .ok (.lload 4, 2) := by decide +kernel
theorem dX7_corner_122 : decode cX7_corner 122 = .ok (.lastore, 1) := by decide +kernel
theorem dX7_corner_123 : decode cX7_corner 123 = .ok (.aload_n 0, 1) := by decide +kernel
theorem dX7_corner_124 : decode cX7_corner 124 = .ok (.getfield 16, 3) := by decide +kernel
theorem dX7_corner_127 : decode cX7_corner 127 = .ok (.iload_n 1, 1) := by decide +kernel
theorem dX7_corner_128 : decode cX7_corner 128 = .ok (.dup2, 1) := by decide +kernel
theorem dX7_corner_129 : decode cX7_corner 129 = .ok (.iaload, 1) := by decide +kernel
theorem dX7_corner_130 : decode cX7_corner 130 = .ok (.iconst 1, 1) := by decide +kernel
theorem dX7_corner_131 : decode cX7_corner 131 = .ok (.iadd, 1) := by decide +kernel
theorem dX7_corner_132 : decode cX7_corner 132 = .ok (.iastore, 1) := by decide +kernel
theorem dX7_corner_133 : decode cX7_corner 133 = .ok (.aload_n 0, 1) := by decide +kernel
theorem dX7_corner_134 : decode cX7_corner 134 = .ok (.getfield 16, 3) := by decide +kernel
theorem dX7_corner_137 : decode cX7_corner 137 = .ok (.iload_n 1, 1) := by decide +kernel
theorem dX7_corner_138 : decode cX7_corner 138 = .ok (.iaload, 1) := by decide +kernel
theorem dX7_corner_139 : decode cX7_corner 139 = .ok (.iconst 2, 1) := by decide +kernel
theorem dX7_corner_140 : decode cX7_corner 140 = .ok (.irem, 1) := by decide +kernel
theorem dX7_corner_141 : decode cX7_corner 141 = .ok (.ifCond .ne 7, 3) := by decide +kernel
theorem dX7_corner_144 : decode cX7_corner 144 = .ok (.iconst 1, 1) := by decide +kernel
theorem dX7_corner_145 : decode cX7_corner 145 = .ok (.goto 4, 3) := by decide +kernel
theorem dX7_corner_148 : decode cX7_corner 148 = .ok (.iconst 0, 1) := by decide +kernel
theorem dX7_corner_149 : decode cX7_corner 149 = .ok (.ireturn, 1) := by decide +kernel
theorem dX7_clear_0 : decode cX7_clear 0 = .ok (.aload_n 0, 1) := by decide +kernel
theorem dX7_clear_1 : decode cX7_clear 1 = .ok (.iconst 0, 1) := by decide +kernel
theorem dX7_clear_2 : decode cX7_clear 2 = .ok (.putfield 72, 3) := by decide +kernel
theorem dX7_clear_5 : decode cX7_clear 5 = .ok (.aload_n 0, 1) := by decide +kernel
theorem dX7_clear_6 : decode cX7_clear 6 = .ok (.iconst 0, 1) := by decide +kernel
theorem dX7_clear_7 : decode cX7_clear 7 = .ok (.putfield 76, 3) := by decide +kernel
theorem dX7_clear_10 : decode cX7_clear 10 = .ok (.aload_n 0, 1) := by decide +kernel
theorem dX7_clear_11 : decode cX7_clear 11 = .ok (.iconst 0, 1) := by decide +kernel
theorem dX7_clear_12 : decode cX7_clear 12 = .ok (.putfield 91, 3) := by decide +kernel
theorem dX7_clear_15 : decode cX7_clear 15 = .ok (.aload_n 0, 1) := by decide +kernel
theorem dX7_clear_16 : decode cX7_clear 16 = .ok (.iconst 0, 1) := by decide +kernel
theorem dX7_clear_17 : decode cX7_clear 17 = .ok (.putfield 95, 3) := by decide +kernel
theorem dX7_clear_20 : decode cX7_clear 20 = .ok (.aload_n 0, 1) := by decide +kernel
theorem dX7_clear_21 : decode cX7_clear 21 = .ok (.iconst 0, 1) := by decide +kernel
theorem dX7_clear_22 : decode cX7_clear 22 = .ok (.putfield 98, 3) := by decide +kernel
theorem dX7_clear_25 : decode cX7_clear 25 = .ok (.return_, 1) := by decide +kernel
theorem dX7_low_0 : decode cX7_low 0 = .ok (.lload_n 0, 1) := by decide +kernel
theorem dX7_low_1 : decode cX7_low 1 = .ok (.lload_n 2, 1) := by decide +kernel
theorem dX7_low_2 : decode cX7_low 2 = .ok (.lcmp, 1) := by decide +kernel
theorem dX7_low_3 : decode cX7_low 3 = .ok (.ifCond .ge 7, 3) := by decide +kernel
theorem dX7_low_6 : decode cX7_low 6 = .ok (.lload_n 0, 1) := by decide +kernel
theorem dX7_low_7 : decode cX7_low 7 = .ok (.goto 4, 3) := by decide +kernel
theorem dX7_low_10 : decode cX7_low 10 = .ok (.lload_n 2, 1) := by decide +kernel
theorem dX7_low_11 : decode cX7_low 11 = .ok (.lreturn, 1) := by decide +kernel
theorem dX7_high_0 : decode cX7_high 0 = .ok (.lload_n 0, 1) := by decide +kernel
theorem dX7_high_1 : decode cX7_high 1 = .ok (.lload_n 2, 1) := by decide +kernel
theorem dX7_high_2 : decode cX7_high 2 = .ok (.lcmp, 1) := by decide +kernel
theorem dX7_high_3 : decode cX7_high 3 = .ok (.ifCond .le 7, 3) := by decide +kernel
theorem dX7_high_6 : decode cX7_high 6 = .ok (.lload_n 0, 1) := by decide +kernel
theorem dX7_high_7 : decode cX7_high 7 = .ok (.goto 4, 3) := by decide +kernel
theorem dX7_high_10 : decode cX7_high 10 = .ok (.lload_n 2, 1) := by decide +kernel
theorem dX7_high_11 : decode cX7_high 11 = .ok (.lreturn, 1) := by decide +kernel
theorem dX7_boxes_0 : decode cX7_boxes 0 = .ok (.aload_n 0, 1) := by decide +kernel
theorem dX7_boxes_1 : decode cX7_boxes 1 = .ok (.getfield 26, 3) := by decide +kernel
theorem dX7_boxes_4 : decode cX7_boxes 4 = .ok (.iload_n 1, 1) := by decide +kernel
theorem dX7_boxes_5 : decode cX7_boxes 5 = .ok (.iaload, 1) := by decide +kernel
theorem dX7_boxes_6 : decode cX7_boxes 6 = .ok (.ifCond .le 7, 3) := by decide +kernel
theorem dX7_boxes_9 : decode cX7_boxes 9 = .ok (.iconst 1, 1) := by decide +kernel
theorem dX7_boxes_10 : decode cX7_boxes 10 = .ok (.goto 11, 3) := by decide +kernel
theorem dX7_boxes_13 : decode cX7_boxes 13 = .ok (.aload_n 0, 1) := by decide +kernel
theorem dX7_boxes_14 : decode cX7_boxes 14 = .ok (.getfield 16, 3) := by decide +kernel
theorem dX7_boxes_17 : decode cX7_boxes 17 = .ok (.iload_n 1, 1) := by decide +kernel
theorem dX7_boxes_18 : decode cX7_boxes 18 = .ok (.iaload, 1) := by decide +kernel
theorem dX7_boxes_19 : decode cX7_boxes 19 = .ok (.iconst 2, 1) := by decide +kernel
theorem dX7_boxes_20 : decode cX7_boxes 20 = .ok (.idiv, 1) := by decide +kernel
theorem dX7_boxes_21 : decode cX7_boxes 21 = .ok (.ireturn, 1) := by decide +kernel
theorem dX7_load_0 : decode cX7_load 0 = .ok (.bipush 8, 2) := by decide +kernel
theorem dX7_load_2 : decode cX7_load 2 = .ok (.iload_n 1, 1) := by decide +kernel
theorem dX7_load_3 : decode cX7_load 3 = .ok (.imul, 1) := by decide +kernel
theorem dX7_load_4 : decode cX7_load 4 = .ok (.iconst 2, 1) := by decide +kernel
theorem dX7_load_5 : decode cX7_load 5 = .ok (.iload_n 3, 1) := by decide +kernel
theorem dX7_load_6 : decode cX7_load 6 = .ok (.imul, 1) := by decide +kernel
theorem dX7_load_7 : decode cX7_load 7 = .ok (.iadd, 1) := by decide +kernel
theorem dX7_load_8 : decode cX7_load 8 = .ok (.istore 5, 2) := by decide +kernel
theorem dX7_load_10 : decode cX7_load 10 = .ok (.aload_n 0, 1) := by decide +kernel
theorem dX7_load_11 : decode cX7_load 11 = .ok (.getfield 7, 3) := by decide +kernel
theorem dX7_load_14 : decode cX7_load 14 = .ok (.iload 5, 2) := by decide +kernel
theorem dX7_load_16 : decode cX7_load 16 = .ok (.laload, 1) := by decide +kernel
theorem dX7_load_17 : decode cX7_load 17 = .ok (.aload_n 0, 1) := by decide +kernel
theorem dX7_load_18 : decode cX7_load 18 = .ok (.getfield 7, 3) := by decide +kernel
theorem dX7_load_21 : decode cX7_load 21 = .ok (.iload 5, 2) := by decide +kernel
theorem dX7_load_23 : decode cX7_load 23 = .ok (.iconst 1, 1) := by decide +kernel
theorem dX7_load_24 : decode cX7_load 24 = .ok (.iadd, 1) := by decide +kernel
theorem dX7_load_25 : decode cX7_load 25 = .ok (.laload, 1) := by decide +kernel
theorem dX7_load_26 : decode cX7_load 26 = .ok (.invokestatic 101, 3) := by decide +kernel
theorem dX7_load_29 : decode cX7_load 29 = .ok (.lstore 6, 2) := by decide +kernel
theorem dX7_load_31 : decode cX7_load 31 = .ok (.aload_n 0, 1) := by decide +kernel
theorem dX7_load_32 : decode cX7_load 32 = .ok (.getfield 7, 3) := by decide +kernel
theorem dX7_load_35 : decode cX7_load 35 = .ok (.iload 5, 2) := by decide +kernel
theorem dX7_load_37 : decode cX7_load 37 = .ok (.laload, 1) := by decide +kernel
theorem dX7_load_38 : decode cX7_load 38 = .ok (.aload_n 0, 1) := by decide +kernel
theorem dX7_load_39 : decode cX7_load 39 = .ok (.getfield 7, 3) := by decide +kernel
theorem dX7_load_42 : decode cX7_load 42 = .ok (.iload 5, 2) := by decide +kernel
theorem dX7_load_44 : decode cX7_load 44 = .ok (.iconst 1, 1) := by decide +kernel
theorem dX7_load_45 : decode cX7_load 45 = .ok (.iadd, 1) := by decide +kernel
theorem dX7_load_46 : decode cX7_load 46 = .ok (.laload, 1) := by decide +kernel
theorem dX7_load_47 : decode cX7_load 47 = .ok (.invokestatic 105, 3) := by decide +kernel
theorem dX7_load_50 : decode cX7_load 50 = .ok (.lstore 8, 2) := by decide +kernel
theorem dX7_load_52 : decode cX7_load 52 = .ok (.aload_n 0, 1) := by decide +kernel
theorem dX7_load_53 : decode cX7_load 53 = .ok (.getfield 13, 3) := by decide +kernel
theorem dX7_load_56 : decode cX7_load 56 = .ok (.iload 5, 2) := by decide +kernel
theorem dX7_load_58 : decode cX7_load 58 = .ok (.laload, 1) := by decide +kernel
theorem dX7_load_59 : decode cX7_load 59 = .ok (.aload_n 0, 1) := by decide +kernel
theorem dX7_load_60 : decode cX7_load 60 = .ok (.getfield 13, 3) := by decide +kernel
theorem dX7_load_63 : decode cX7_load 63 = .ok (.iload 5, 2) := by decide +kernel
theorem dX7_load_65 : decode cX7_load 65 = .ok (.iconst 1, 1) := by decide +kernel
theorem dX7_load_66 : decode cX7_load 66 = .ok (.iadd, 1) := by decide +kernel
theorem dX7_load_67 : decode cX7_load 67 = .ok (.laload, 1) := by decide +kernel
theorem dX7_load_68 : decode cX7_load 68 = .ok (.invokestatic 101, 3) := by decide +kernel
theorem dX7_load_71 : decode cX7_load 71 = .ok (.lstore 10, 2) := by decide +kernel
theorem dX7_load_73 : decode cX7_load 73 = .ok (.aload_n 0, 1) := by decide +kernel
theorem dX7_load_74 : decode cX7_load 74 = .ok (.getfield 13, 3) := by decide +kernel
theorem dX7_load_77 : decode cX7_load 77 = .ok (.iload 5, 2) := by decide +kernel
theorem dX7_load_79 : decode cX7_load 79 = .ok (.laload, 1) := by decide +kernel
theorem dX7_load_80 : decode cX7_load 80 = .ok (.aload_n 0, 1) := by decide +kernel
theorem dX7_load_81 : decode cX7_load 81 = .ok (.getfield 13, 3) := by decide +kernel
theorem dX7_load_84 : decode cX7_load 84 = .ok (.iload 5, 2) := by decide +kernel
theorem dX7_load_86 : decode cX7_load 86 = .ok (.iconst 1, 1) := by decide +kernel
theorem dX7_load_87 : decode cX7_load 87 = .ok (.iadd, 1) := by decide +kernel
theorem dX7_load_88 : decode cX7_load 88 = .ok (.laload, 1) := by decide +kernel
theorem dX7_load_89 : decode cX7_load 89 = .ok (.invokestatic 105, 3) := by decide +kernel
theorem dX7_load_92 : decode cX7_load 92 = .ok (.lstore 12, 2) := by decide +kernel
theorem dX7_load_94 : decode cX7_load 94 = .ok (.aload_n 0, 1) := by decide +kernel
theorem dX7_load_95 : decode cX7_load 95 = .ok (.getfield 26, 3) := by decide +kernel
theorem dX7_load_98 : decode cX7_load 98 = .ok (.iload_n 1, 1) := by decide +kernel
theorem dX7_load_99 : decode cX7_load 99 = .ok (.iaload, 1) := by decide +kernel
theorem dX7_load_100 : decode cX7_load 100 = .ok (.ifCond .le 65, 3) := by decide +kernel
theorem dX7_load_103 : decode cX7_load 103 = .ok (.aload_n 0, 1) := by decide +kernel
theorem dX7_load_104 : decode cX7_load 104 = .ok (.getfield 29, 3) := by decide +kernel
theorem dX7_load_107 : decode cX7_load 107 = .ok (.iload_n 1, 1) := by decide +kernel
theorem dX7_load_108 : decode cX7_load 108 = .ok (.baload, 1) := by decide +kernel
theorem dX7_load_109 : decode cX7_load 109 = .ok (.ifCond .eq 56, 3) := by decide +kernel
theorem dX7_load_112 : decode cX7_load 112 = .ok (.iload_n 2, 1) := by decide +kernel
theorem dX7_load_113 : decode cX7_load 113 = .ok (.ifCond .le 18, 3) := by decide +kernel
theorem dX7_load_116 : decode cX7_load 116 = .ok (.aload_n 0, 1) := by decide +kernel
theorem dX7_load_117 : decode cX7_load 117 = .ok (.getfield 23, 3) := by decide +kernel
theorem dX7_load_120 : decode cX7_load 120 = .ok (.iconst 3, 1) := by decide +kernel
theorem dX7_load_121 : decode cX7_load 121 = .ok (.iload_n 1, 1) := by decide +kernel
theorem dX7_load_122 : decode cX7_load 122 = .ok (.imul, 1) := by decide +kernel
theorem dX7_load_123 : decode cX7_load 123 = .ok (.iload_n 2, 1) := by decide +kernel
theorem dX7_load_124 : decode cX7_load 124 = .ok (.iadd, 1) := by decide +kernel
theorem dX7_load_125 : decode cX7_load 125 = .ok (.iconst 1, 1) := by decide +kernel
theorem dX7_load_126 : decode cX7_load 126 = .ok (.isub, 1) := by decide +kernel
theorem dX7_load_127 : decode cX7_load 127 = .ok (.laload, 1) := by decide +kernel
theorem dX7_load_128 : decode cX7_load 128 = .ok (.goto 5, 3) := by decide +kernel
theorem dX7_load_131 : decode cX7_load 131 = .ok (.lload 6, 2) := by decide +kernel
theorem dX7_load_133 : decode cX7_load 133 = .ok (.lstore 6, 2) := by decide +kernel
theorem dX7_load_135 : decode cX7_load 135 = .ok (.iload_n 2, 1) := by decide +kernel
theorem dX7_load_136 : decode cX7_load 136 = .ok (.aload_n 0, 1) := by decide +kernel
theorem dX7_load_137 : decode cX7_load 137 = .ok (.getfield 26, 3) := by decide +kernel
theorem dX7_load_140 : decode cX7_load 140 = .ok (.iload_n 1, 1) := by decide +kernel
theorem dX7_load_141 : decode cX7_load 141 = .ok (.iaload, 1) := by decide +kernel
theorem dX7_load_142 : decode cX7_load 142 = .ok (.if_icmp .ge 16, 3) := by decide +kernel
theorem dX7_load_145 : decode cX7_load 145 = .ok (.aload_n 0, 1) := by decide +kernel
theorem dX7_load_146 : decode cX7_load 146 = .ok (.getfield 23, 3) := by decide +kernel
theorem dX7_load_149 : decode cX7_load 149 = .ok (.iconst 3, 1) := by decide +kernel
theorem dX7_load_150 : decode cX7_load 150 = .ok (.iload_n 1, 1) := by decide +kernel
theorem dX7_load_151 : decode cX7_load 151 = .ok (.imul, 1) := by decide +kernel
theorem dX7_load_152 : decode cX7_load 152 = .ok (.iload_n 2, 1) := by decide +kernel
theorem dX7_load_153 : decode cX7_load 153 = .ok (.iadd, 1) := by decide +kernel
theorem dX7_load_154 : decode cX7_load 154 = .ok (.laload, 1) := by decide +kernel
theorem dX7_load_155 : decode cX7_load 155 = .ok (.goto 5, 3) := by decide +kernel
theorem dX7_load_158 : decode cX7_load 158 = .ok (.lload 8, 2) := by decide +kernel
theorem dX7_load_160 : decode cX7_load 160 = .ok (.lstore 8, 2) := by decide +kernel
theorem dX7_load_162 : decode cX7_load 162 = .ok (.goto 62, 3) := by decide +kernel
theorem dX7_load_165 : decode cX7_load 165 = .ok (.aload_n 0, 1) := by decide +kernel
theorem dX7_load_166 : decode cX7_load 166 = .ok (.getfield 26, 3) := by decide +kernel
theorem dX7_load_169 : decode cX7_load 169 = .ok (.iload_n 1, 1) := by decide +kernel
theorem dX7_load_170 : decode cX7_load 170 = .ok (.iaload, 1) := by decide +kernel
theorem dX7_load_171 : decode cX7_load 171 = .ok (.ifCond .le 53, 3) := by decide +kernel
theorem dX7_load_174 : decode cX7_load 174 = .ok (.iload_n 2, 1) := by decide +kernel
theorem dX7_load_175 : decode cX7_load 175 = .ok (.ifCond .le 18, 3) := by decide +kernel
theorem dX7_load_178 : decode cX7_load 178 = .ok (.aload_n 0, 1) := by decide +kernel
theorem dX7_load_179 : decode cX7_load 179 = .ok (.getfield 23, 3) := by decide +kernel
theorem dX7_load_182 : decode cX7_load 182 = .ok (.iconst 3, 1) := by decide +kernel
theorem dX7_load_183 : decode cX7_load 183 = .ok (.iload_n 1, 1) := by decide +kernel
theorem dX7_load_184 : decode cX7_load 184 = .ok (.imul, 1) := by decide +kernel
theorem dX7_load_185 : decode cX7_load 185 = .ok (.iload_n 2, 1) := by decide +kernel
theorem dX7_load_186 : decode cX7_load 186 = .ok (.iadd, 1) := by decide +kernel
theorem dX7_load_187 : decode cX7_load 187 = .ok (.iconst 1, 1) := by decide +kernel
theorem dX7_load_188 : decode cX7_load 188 = .ok (.isub, 1) := by decide +kernel
theorem dX7_load_189 : decode cX7_load 189 = .ok (.laload, 1) := by decide +kernel
theorem dX7_load_190 : decode cX7_load 190 = .ok (.goto 5, 3) := by decide +kernel
theorem dX7_load_193 : decode cX7_load 193 = .ok (.lload 10, 2) := by decide +kernel
theorem dX7_load_195 : decode cX7_load 195 = .ok (.lstore 10, 2) := by decide +kernel
theorem dX7_load_197 : decode cX7_load 197 = .ok (.iload_n 2, 1) := by decide +kernel
theorem dX7_load_198 : decode cX7_load 198 = .ok (.aload_n 0, 1) := by decide +kernel
theorem dX7_load_199 : decode cX7_load 199 = .ok (.getfield 26, 3) := by decide +kernel
theorem dX7_load_202 : decode cX7_load 202 = .ok (.iload_n 1, 1) := by decide +kernel
theorem dX7_load_203 : decode cX7_load 203 = .ok (.iaload, 1) := by decide +kernel
theorem dX7_load_204 : decode cX7_load 204 = .ok (.if_icmp .ge 16, 3) := by decide +kernel
theorem dX7_load_207 : decode cX7_load 207 = .ok (.aload_n 0, 1) := by decide +kernel
theorem dX7_load_208 : decode cX7_load 208 = .ok (.getfield 23, 3) := by decide +kernel
theorem dX7_load_211 : decode cX7_load 211 = .ok (.iconst 3, 1) := by decide +kernel
theorem dX7_load_212 : decode cX7_load 212 = .ok (.iload_n 1, 1) := by decide +kernel
theorem dX7_load_213 : decode cX7_load 213 = .ok (.imul, 1) := by decide +kernel
theorem dX7_load_214 : decode cX7_load 214 = .ok (.iload_n 2, 1) := by decide +kernel
theorem dX7_load_215 : decode cX7_load 215 = .ok (.iadd, 1) := by decide +kernel
theorem dX7_load_216 : decode cX7_load 216 = .ok (.laload, 1) := by decide +kernel
theorem dX7_load_217 : decode cX7_load 217 = .ok (.goto 5, 3) := by decide +kernel
theorem dX7_load_220 : decode cX7_load 220 = .ok (.lload 12, 2) := by decide +kernel
theorem dX7_load_222 : decode cX7_load 222 = .ok (.lstore 12, 2) := by decide +kernel
theorem dX7_load_224 : decode cX7_load 224 = .ok (.iload 4, 2) := by decide +kernel
theorem dX7_load_226 : decode cX7_load 226 = .ok (.ifCond .eq 38, 3) := by decide +kernel
theorem dX7_load_229 : decode cX7_load 229 = .ok (.aload_n 0, 1) := by decide +kernel
theorem dX7_load_230 : decode cX7_load 230 = .ok (.getfield 42, 3) := by decide +kernel
theorem dX7_load_233 : decode cX7_load 233 = .ok (.iconst 0, 1) := by decide +kernel
theorem dX7_load_234 : decode cX7_load 234 = .ok (.lload 6, 2) := by decide +kernel
theorem dX7_load_236 : decode cX7_load 236 = .ok (.lastore, 1) := by decide +kernel
theorem dX7_load_237 : decode cX7_load 237 = .ok (.aload_n 0, 1) := by decide +kernel
theorem dX7_load_238 : decode cX7_load 238 = .ok (.getfield 42, 3) := by decide +kernel
theorem dX7_load_241 : decode cX7_load 241 = .ok (.iconst 1, 1) := by decide +kernel
theorem dX7_load_242 : decode cX7_load 242 = .ok (.lload 10, 2) := by decide +kernel
theorem dX7_load_244 : decode cX7_load 244 = .ok (.lastore, 1) := by decide +kernel
theorem dX7_load_245 : decode cX7_load 245 = .ok (.aload_n 0, 1) := by decide +kernel
theorem dX7_load_246 : decode cX7_load 246 = .ok (.getfield 42, 3) := by decide +kernel
theorem dX7_load_249 : decode cX7_load 249 = .ok (.iconst 2, 1) := by decide +kernel
theorem dX7_load_250 : decode cX7_load 250 = .ok (.lload 8, 2) := by decide +kernel
theorem dX7_load_252 : decode cX7_load 252 = .ok (.lastore, 1) := by decide +kernel
theorem dX7_load_253 : decode cX7_load 253 = .ok (.aload_n 0, 1) := by decide +kernel
theorem dX7_load_254 : decode cX7_load 254 = .ok (.getfield 42, 3) := by decide +kernel
theorem dX7_load_257 : decode cX7_load 257 = .ok (.iconst 3, 1) := by decide +kernel
theorem dX7_load_258 : decode cX7_load 258 = .ok (.lload 12, 2) := by decide +kernel
theorem dX7_load_260 : decode cX7_load 260 = .ok (.lastore, 1) := by decide +kernel
theorem dX7_load_261 : decode cX7_load 261 = .ok (.goto 35, 3) := by decide +kernel
theorem dX7_load_264 : decode cX7_load 264 = .ok (.aload_n 0, 1) := by decide +kernel
theorem dX7_load_265 : decode cX7_load 265 = .ok (.getfield 45, 3) := by decide +kernel
theorem dX7_load_268 : decode cX7_load 268 = .ok (.iconst 0, 1) := by decide +kernel
theorem dX7_load_269 : decode cX7_load 269 = .ok (.lload 6, 2) := by decide +kernel
theorem dX7_load_271 : decode cX7_load 271 = .ok (.lastore, 1) := by decide +kernel
theorem dX7_load_272 : decode cX7_load 272 = .ok (.aload_n 0, 1) := by decide +kernel
theorem dX7_load_273 : decode cX7_load 273 = .ok (.getfield 45, 3) := by decide +kernel
theorem dX7_load_276 : decode cX7_load 276 = .ok (.iconst 1, 1) := by decide +kernel
theorem dX7_load_277 : decode cX7_load 277 = .ok (.lload 10, 2) := by decide +kernel
theorem dX7_load_279 : decode cX7_load 279 = .ok (.lastore, 1) := by decide +kernel
theorem dX7_load_280 : decode cX7_load 280 = .ok (.aload_n 0, 1) := by decide +kernel
theorem dX7_load_281 : decode cX7_load 281 = .ok (.getfield 45, 3) := by decide +kernel
theorem dX7_load_284 : decode cX7_load 284 = .ok (.iconst 2, 1) := by decide +kernel
theorem dX7_load_285 : decode cX7_load 285 = .ok (.lload 8, 2) := by decide +kernel
theorem dX7_load_287 : decode cX7_load 287 = .ok (.lastore, 1) := by decide +kernel
theorem dX7_load_288 : decode cX7_load 288 = .ok (.aload_n 0, 1) := by decide +kernel
theorem dX7_load_289 : decode cX7_load 289 = .ok (.getfield 45, 3) := by decide +kernel
theorem dX7_load_292 : decode cX7_load 292 = .ok (.iconst 3, 1) := by decide +kernel
theorem dX7_load_293 : decode cX7_load 293 = .ok (.lload 12, 2) := by decide +kernel
theorem dX7_load_295 : decode cX7_load 295 = .ok (.lastore, 1) := by decide +kernel
theorem dX7_load_296 : decode cX7_load 296 = .ok (.return_, 1) := by decide +kernel
theorem dX7_isNearBox_0 : decode cX7_isNearBox 0 = .ok (.lconst 0, 1) := by decide +kernel
theorem dX7_isNearBox_1 : decode cX7_isNearBox 1 = .ok (.aload_n 0, 1) := by decide +kernel
theorem dX7_isNearBox_2 : decode cX7_isNearBox 2 = .ok (.getfield 42, 3) := by decide +kernel
theorem dX7_isNearBox_5 : decode cX7_isNearBox 5 = .ok (.iconst 0, 1) := by decide +kernel
theorem dX7_isNearBox_6 : decode cX7_isNearBox 6 = .ok (.laload, 1) := by decide +kernel
theorem dX7_isNearBox_7 : decode cX7_isNearBox 7 = .ok (.aload_n 0, 1) := by decide +kernel
theorem dX7_isNearBox_8 : decode cX7_isNearBox 8 = .ok (.getfield 45, 3) := by decide +kernel
theorem dX7_isNearBox_11 : decode cX7_isNearBox 11 = .ok (.iconst 0, 1) := by decide +kernel
theorem dX7_isNearBox_12 : decode cX7_isNearBox 12 = .ok (.laload, 1) := by decide +kernel
theorem dX7_isNearBox_13 : decode cX7_isNearBox 13 = .ok (.invokestatic 105, 3) := by decide +kernel
theorem dX7_isNearBox_16 : decode cX7_isNearBox 16 = .ok (.aload_n 0, 1) := by decide +kernel
theorem dX7_isNearBox_17 : decode cX7_isNearBox 17 = .ok (.getfield 42, 3) := by decide +kernel
theorem dX7_isNearBox_20 : decode cX7_isNearBox 20 = .ok (.iconst 2, 1) := by decide +kernel
theorem dX7_isNearBox_21 : decode cX7_isNearBox 21 = .ok (.laload, 1) := by decide +kernel
theorem dX7_isNearBox_22 : decode cX7_isNearBox 22 = .ok (.aload_n 0, 1) := by decide +kernel
theorem dX7_isNearBox_23 : decode cX7_isNearBox 23 = .ok (.getfield 45, 3) := by decide +kernel
theorem dX7_isNearBox_26 : decode cX7_isNearBox 26 = .ok (.iconst 2, 1) := by decide +kernel
theorem dX7_isNearBox_27 : decode cX7_isNearBox 27 = .ok (.laload, 1) := by decide +kernel
theorem dX7_isNearBox_28 : decode cX7_isNearBox 28 = .ok (.invokestatic 101, 3) := by decide +kernel
theorem dX7_isNearBox_31 : decode cX7_isNearBox 31 = .ok (.lsub, 1) := by decide +kernel
theorem dX7_isNearBox_32 : decode cX7_isNearBox 32 = .ok (.invokestatic 105, 3) := by decide +kernel
theorem dX7_isNearBox_35 : decode cX7_isNearBox 35 = .ok (.lstore_n 1, 1) := by decide +kernel
theorem dX7_isNearBox_36 : decode cX7_isNearBox 36 = .ok (.lconst 0, 1) := by decide +kernel
theorem dX7_isNearBox_37 : decode cX7_isNearBox 37 = .ok (.aload_n 0, 1) := by decide +kernel
theorem dX7_isNearBox_38 : decode cX7_isNearBox 38 = .ok (.getfield 42, 3) := by decide +kernel
theorem dX7_isNearBox_41 : decode cX7_isNearBox 41 = .ok (.iconst 1, 1) := by decide +kernel
theorem dX7_isNearBox_42 : decode cX7_isNearBox 42 = .ok (.laload, 1) := by decide +kernel
theorem dX7_isNearBox_43 : decode cX7_isNearBox 43 = .ok (.aload_n 0, 1) := by decide +kernel
theorem dX7_isNearBox_44 : decode cX7_isNearBox 44 = .ok (.getfield 45, 3) := by decide +kernel
theorem dX7_isNearBox_47 : decode cX7_isNearBox 47 = .ok (.iconst 1, 1) := by decide +kernel
theorem dX7_isNearBox_48 : decode cX7_isNearBox 48 = .ok (.laload, 1) := by decide +kernel
theorem dX7_isNearBox_49 : decode cX7_isNearBox 49 = .ok (.invokestatic 105, 3) := by decide +kernel
theorem dX7_isNearBox_52 : decode cX7_isNearBox 52 = .ok (.aload_n 0, 1) := by decide +kernel
theorem dX7_isNearBox_53 : decode cX7_isNearBox 53 = .ok (.getfield 42, 3) := by decide +kernel
theorem dX7_isNearBox_56 : decode cX7_isNearBox 56 = .ok (.iconst 3, 1) := by decide +kernel
theorem dX7_isNearBox_57 : decode cX7_isNearBox 57 = .ok (.laload, 1) := by decide +kernel
theorem dX7_isNearBox_58 : decode cX7_isNearBox 58 = .ok (.aload_n 0, 1) := by decide +kernel
theorem dX7_isNearBox_59 : decode cX7_isNearBox 59 = .ok (.getfield 45, 3) := by decide +kernel
theorem dX7_isNearBox_62 : decode cX7_isNearBox 62 = .ok (.iconst 3, 1) := by decide +kernel
theorem dX7_isNearBox_63 : decode cX7_isNearBox 63 = .ok (.laload, 1) := by decide +kernel
theorem dX7_isNearBox_64 : decode cX7_isNearBox 64 = .ok (.invokestatic 101, 3) := by decide +kernel
theorem dX7_isNearBox_67 : decode cX7_isNearBox 67 = .ok (.lsub, 1) := by decide +kernel
theorem dX7_isNearBox_68 : decode cX7_isNearBox 68 = .ok (.invokestatic 105, 3) := by decide +kernel
theorem dX7_isNearBox_71 : decode cX7_isNearBox 71 = .ok (.lstore_n 3, 1) := by decide +kernel
theorem dX7_isNearBox_72 : decode cX7_isNearBox 72 = .ok (.lload_n 1, 1) := by decide +kernel
theorem dX7_isNearBox_73 : decode cX7_isNearBox 73 = .ok (.lload_n 1, 1) := by decide +kernel
theorem dX7_isNearBox_74 : decode cX7_isNearBox 74 = .ok (.lmul, 1) := by decide +kernel
theorem dX7_isNearBox_75 : decode cX7_isNearBox 75 = .ok (.lload_n 3, 1) := by decide +kernel
theorem dX7_isNearBox_76 : decode cX7_isNearBox 76 = .ok (.lload_n 3, 1) := by decide +kernel
theorem dX7_isNearBox_77 : decode cX7_isNearBox 77 = .ok (.lmul, 1) := by decide +kernel
theorem dX7_isNearBox_78 : decode cX7_isNearBox 78 = .ok (.ladd, 1) := by decide +kernel
theorem dX7_isNearBox_79 : decode cX7_isNearBox 79 = .ok (.aload_n 0, 1) := by decide +kernel
theorem dX7_isNearBox_80 : decode cX7_isNearBox 80 = .ok (.getfield 68, 3) := by decide +kernel
theorem dX7_isNearBox_83 : decode cX7_isNearBox 83 = .ok (.aload_n 0, 1) := by decide +kernel
theorem dX7_isNearBox_84 : decode cX7_isNearBox 84 = .ok (.getfield 68, 3) := by decide +kernel
theorem dX7_isNearBox_87 : decode cX7_isNearBox 87 = .ok (.lmul, 1) := by decide +kernel
theorem dX7_isNearBox_88 : decode cX7_isNearBox 88 = .ok (.lcmp, 1) := by decide +kernel
theorem dX7_isNearBox_89 : decode cX7_isNearBox 89 = .ok (.ifCond .ge 7, 3) := by decide +kernel
theorem dX7_isNearBox_92 : decode cX7_isNearBox 92 = .ok (.iconst 1, 1) := by decide +kernel
theorem dX7_isNearBox_93 : decode cX7_isNearBox 93 = .ok (.goto 4, 3) := by decide +kernel
theorem dX7_isNearBox_96 : decode cX7_isNearBox 96 = .ok (.iconst 0, 1) := by decide +kernel
theorem dX7_isNearBox_97 : decode cX7_isNearBox 97 = .ok (.ireturn, 1) := by decide +kernel
theorem dX7_isNearPiece_0 : decode cX7_isNearPiece 0 = .ok (.iconst 0, 1) := by decide +kernel
theorem dX7_isNearPiece_1 : decode cX7_isNearPiece 1 = .ok (.istore 5, 2) := by decide +kernel
theorem dX7_isNearPiece_3 : decode cX7_isNearPiece 3 = .ok (.iconst 0, 1) := by decide +kernel
theorem dX7_isNearPiece_4 : decode cX7_isNearPiece 4 = .ok (.istore 6, 2) := by decide +kernel
theorem dX7_isNearPiece_6 : decode cX7_isNearPiece 6 = .ok (.iload 6, 2) := by decide +kernel
theorem dX7_isNearPiece_8 : decode cX7_isNearPiece 8 = .ok (.aload_n 0, 1) := by decide +kernel
theorem dX7_isNearPiece_9 : decode cX7_isNearPiece 9 = .ok (.iload_n 1, 1) := by decide +kernel
theorem dX7_isNearPiece_10 : decode cX7_isNearPiece 10 = .ok (.invokevirtual 108, 3) := by decide +kernel
theorem dX7_isNearPiece_13 : decode cX7_isNearPiece 13 = .ok (.if_icmp .ge 66, 3) := by decide +kernel
theorem dX7_isNearPiece_16 : decode cX7_isNearPiece 16 = .ok (.iconst 0, 1) := by decide +kernel
theorem dX7_isNearPiece_17 : decode cX7_isNearPiece 17 = .ok (.istore 7, 2) := by decide +kernel
theorem dX7_isNearPiece_19 : decode cX7_isNearPiece 19 = .ok (.iload 7, 2) := by decide +kernel
theorem dX7_isNearPiece_21 : decode cX7_isNearPiece 21 = .ok (.aload_n 0, 1) := by decide +kernel
theorem dX7_isNearPiece_22 : decode cX7_isNearPiece 22 = .ok (.iload_n 3, 1) := by decide +kernel
theorem dX7_isNearPiece_23 : decode cX7_isNearPiece 23 = .ok (.invokevirtual 108, 3) := by decide +kernel
theorem dX7_isNearPiece_26 : decode cX7_isNearPiece 26 = .ok (.if_icmp .ge 47, 3) := by decide +kernel
theorem dX7_isNearPiece_29 : decode cX7_isNearPiece 29 = .ok (.aload_n 0, 1) := by decide +kernel
theorem dX7_isNearPiece_30 : decode cX7_isNearPiece 30 = .ok (.iload_n 1, 1) := by decide +kernel
theorem dX7_isNearPiece_31 : decode cX7_isNearPiece 31 = .ok (.iload_n 2, 1) := by decide +kernel
theorem dX7_isNearPiece_32 : decode cX7_isNearPiece 32 = .ok (.iload 6, 2) := by decide +kernel
theorem dX7_isNearPiece_34 : decode cX7_isNearPiece 34 = .ok (.iconst 1, 1) := by decide +kernel
theorem dX7_isNearPiece_35 : decode cX7_isNearPiece 35 = .ok (.invokevirtual 112, 3) := by decide +kernel
theorem dX7_isNearPiece_38 : decode cX7_isNearPiece 38 = .ok (.aload_n 0, 1) := by decide +kernel
theorem dX7_isNearPiece_39 : decode cX7_isNearPiece 39 = .ok (.iload_n 3, 1) := by decide +kernel
theorem dX7_isNearPiece_40 : decode cX7_isNearPiece 40 = .ok (.iload 4, 2) := by decide +kernel
theorem dX7_isNearPiece_42 : decode cX7_isNearPiece 42 = .ok (.iload 7, 2) := by decide +kernel
theorem dX7_isNearPiece_44 : decode cX7_isNearPiece 44 = .ok (.iconst 0, 1) := by decide +kernel
theorem dX7_isNearPiece_45 : decode cX7_isNearPiece 45 = .ok (.invokevirtual 112, 3) := by decide +kernel
theorem dX7_isNearPiece_48 : decode cX7_isNearPiece 48 = .ok (.iload 5, 2) := by decide +kernel
theorem dX7_isNearPiece_50 : decode cX7_isNearPiece 50 = .ok (.ifCond .ne 10, 3) := by decide +kernel
theorem dX7_isNearPiece_53 : decode cX7_isNearPiece 53 = .ok (.aload_n 0, 1) := by decide +kernel
theorem dX7_isNearPiece_54 : decode cX7_isNearPiece 54 = .ok (.invokevirtual 116, 3) := by decide +kernel
theorem dX7_isNearPiece_57 : decode cX7_isNearPiece 57 = .ok (.ifCond .eq 7, 3) := by decide +kernel
theorem dX7_isNearPiece_60 : decode cX7_isNearPiece 60 = .ok (.iconst 1, 1) := by decide +kernel
theorem dX7_isNearPiece_61 : decode cX7_isNearPiece 61 = .ok (.goto 4, 3) := by decide +kernel
theorem dX7_isNearPiece_64 : decode cX7_isNearPiece 64 = .ok (.iconst 0, 1) := by decide +kernel
theorem dX7_isNearPiece_65 : decode cX7_isNearPiece 65 = .ok (.istore 5, 2) := by decide +kernel
theorem dX7_isNearPiece_67 : decode cX7_isNearPiece 67 = .ok (.iinc 7 1, 3) := by decide +kernel
theorem dX7_isNearPiece_70 : decode cX7_isNearPiece 70 = .ok (.goto (-51), 3) := by decide +kernel
theorem dX7_isNearPiece_73 : decode cX7_isNearPiece 73 = .ok (.iinc 6 1, 3) := by decide +kernel
theorem dX7_isNearPiece_76 : decode cX7_isNearPiece 76 = .ok (.goto (-70), 3) := by decide +kernel
theorem dX7_isNearPiece_79 : decode cX7_isNearPiece 79 = .ok (.iload 5, 2) := by decide +kernel
theorem dX7_isNearPiece_81 : decode cX7_isNearPiece 81 = .ok (.ireturn, 1) := by decide +kernel
theorem dX7_isNear_0 : decode cX7_isNear 0 = .ok (.iconst 0, 1) := by decide +kernel
theorem dX7_isNear_1 : decode cX7_isNear 1 = .ok (.istore_n 3, 1) := by decide +kernel
theorem dX7_isNear_2 : decode cX7_isNear 2 = .ok (.iconst 0, 1) := by decide +kernel
theorem dX7_isNear_3 : decode cX7_isNear 3 = .ok (.istore 4, 2) := by decide +kernel
theorem dX7_isNear_5 : decode cX7_isNear 5 = .ok (.iload 4, 2) := by decide +kernel
theorem dX7_isNear_7 : decode cX7_isNear 7 = .ok (.aload_n 0, 1) := by decide +kernel
theorem dX7_isNear_8 : decode cX7_isNear 8 = .ok (.getfield 26, 3) := by decide +kernel
theorem dX7_isNear_11 : decode cX7_isNear 11 = .ok (.iload_n 1, 1) := by decide +kernel
theorem dX7_isNear_12 : decode cX7_isNear 12 = .ok (.iaload, 1) := by decide +kernel
theorem dX7_isNear_13 : decode cX7_isNear 13 = .ok (.if_icmp .gt 52, 3) := by decide +kernel
theorem dX7_isNear_16 : decode cX7_isNear 16 = .ok (.iconst 0, 1) := by decide +kernel
theorem dX7_isNear_17 : decode cX7_isNear 17 = .ok (.istore 5, 2) := by decide +kernel
theorem dX7_isNear_19 : decode cX7_isNear 19 = .ok (.iload 5, 2) := by decide +kernel
theorem dX7_isNear_21 : decode cX7_isNear 21 = .ok (.aload_n 0, 1) := by decide +kernel
theorem dX7_isNear_22 : decode cX7_isNear 22 = .ok (.getfield 26, 3) := by decide +kernel
theorem dX7_isNear_25 : decode cX7_isNear 25 = .ok (.iload_n 2, 1) := by decide +kernel
theorem dX7_isNear_26 : decode cX7_isNear 26 = .ok (.iaload, 1) := by decide +kernel
theorem dX7_isNear_27 : decode cX7_isNear 27 = .ok (.if_icmp .gt 32, 3) := by decide +kernel
theorem dX7_isNear_30 : decode cX7_isNear 30 = .ok (.iload_n 3, 1) := by decide +kernel
theorem dX7_isNear_31 : decode cX7_isNear 31 = .ok (.ifCond .ne 16, 3) := by decide +kernel
theorem dX7_isNear_34 : decode cX7_isNear 34 = .ok (.aload_n 0, 1) := by decide +kernel
theorem dX7_isNear_35 : decode cX7_isNear 35 = .ok (.iload_n 1, 1) := by decide +kernel
theorem dX7_isNear_36 : decode cX7_isNear 36 = .ok (.iload 4, 2) := by decide +kernel
theorem dX7_isNear_38 : decode cX7_isNear 38 = .ok (.iload_n 2, 1) := by decide +kernel
theorem dX7_isNear_39 : decode cX7_isNear 39 = .ok (.iload 5, 2) := by decide +kernel
theorem dX7_isNear_41 : decode cX7_isNear 41 = .ok (.invokevirtual 120, 3) := by decide +kernel
theorem dX7_isNear_44 : decode cX7_isNear 44 = .ok (.ifCond .eq 7, 3) := by decide +kernel
theorem dX7_isNear_47 : decode cX7_isNear 47 = .ok (.iconst 1, 1) := by decide +kernel
theorem dX7_isNear_48 : decode cX7_isNear 48 = .ok (.goto 4, 3) := by decide +kernel
theorem dX7_isNear_51 : decode cX7_isNear 51 = .ok (.iconst 0, 1) := by decide +kernel
theorem dX7_isNear_52 : decode cX7_isNear 52 = .ok (.istore_n 3, 1) := by decide +kernel
theorem dX7_isNear_53 : decode cX7_isNear 53 = .ok (.iinc 5 1, 3) := by decide +kernel
theorem dX7_isNear_56 : decode cX7_isNear 56 = .ok (.goto (-37), 3) := by decide +kernel
theorem dX7_isNear_59 : decode cX7_isNear 59 = .ok (.iinc 4 1, 3) := by decide +kernel
theorem dX7_isNear_62 : decode cX7_isNear 62 = .ok (.goto (-57), 3) := by decide +kernel
theorem dX7_isNear_65 : decode cX7_isNear 65 = .ok (.iload_n 3, 1) := by decide +kernel
theorem dX7_isNear_66 : decode cX7_isNear 66 = .ok (.ireturn, 1) := by decide +kernel
theorem dX7_near_0 : decode cX7_near 0 = .ok (.aload_n 0, 1) := by decide +kernel
theorem dX7_near_1 : decode cX7_near 1 = .ok (.aload_n 0, 1) := by decide +kernel
theorem dX7_near_2 : decode cX7_near 2 = .ok (.invokevirtual 124, 3) := by decide +kernel
theorem dX7_near_5 : decode cX7_near 5 = .ok (.ifCond .eq 7, 3) := by decide +kernel
theorem dX7_near_8 : decode cX7_near 8 = .ok (.iconst 1, 1) := by decide +kernel
theorem dX7_near_9 : decode cX7_near 9 = .ok (.goto 4, 3) := by decide +kernel
theorem dX7_near_12 : decode cX7_near 12 = .ok (.iconst 0, 1) := by decide +kernel
theorem dX7_near_13 : decode cX7_near 13 = .ok (.putfield 72, 3) := by decide +kernel
theorem dX7_near_16 : decode cX7_near 16 = .ok (.iconst 0, 1) := by decide +kernel
theorem dX7_near_17 : decode cX7_near 17 = .ok (.istore_n 1, 1) := by decide +kernel
theorem dX7_near_18 : decode cX7_near 18 = .ok (.iconst 0, 1) := by decide +kernel
theorem dX7_near_19 : decode cX7_near 19 = .ok (.istore_n 2, 1) := by decide +kernel
theorem dX7_near_20 : decode cX7_near 20 = .ok (.iload_n 2, 1) := by decide +kernel
theorem dX7_near_21 : decode cX7_near 21 = .ok (.aload_n 0, 1) := by decide +kernel
theorem dX7_near_22 : decode cX7_near 22 = .ok (.getfield 76, 3) := by decide +kernel
theorem dX7_near_25 : decode cX7_near 25 = .ok (.if_icmp .ge 51, 3) := by decide +kernel
theorem dX7_near_28 : decode cX7_near 28 = .ok (.aload_n 0, 1) := by decide +kernel
theorem dX7_near_29 : decode cX7_near 29 = .ok (.getfield 72, 3) := by decide +kernel
theorem dX7_near_32 : decode cX7_near 32 = .ok (.ifCond .ne 44, 3) := by decide +kernel
theorem dX7_near_35 : decode cX7_near 35 = .ok (.iload_n 2, 1) := by decide +kernel
theorem dX7_near_36 : decode cX7_near 36 = .ok (.iconst 1, 1) := by decide +kernel
theorem dX7_near_37 : decode cX7_near 37 = .ok (.iadd, 1) := by decide +kernel
theorem dX7_near_38 : decode cX7_near 38 = .ok (.istore_n 3, 1) := by decide +kernel
theorem dX7_near_39 : decode cX7_near 39 = .ok (.iload_n 3, 1) := by decide +kernel
theorem dX7_near_40 : decode cX7_near 40 = .ok (.aload_n 0, 1) := by decide +kernel
theorem dX7_near_41 : decode cX7_near 41 = .ok (.getfield 76, 3) := by decide +kernel
theorem dX7_near_44 : decode cX7_near 44 = .ok (.if_icmp .ge 26, 3) := by decide +kernel
theorem dX7_near_47 : decode cX7_near 47 = .ok (.iload_n 1, 1) := by decide +kernel
theorem dX7_near_48 : decode cX7_near 48 = .ok (.aload_n 0, 1) := by decide +kernel
theorem dX7_near_49 : decode cX7_near 49 = .ok (.iload_n 2, 1) := by decide +kernel
theorem dX7_near_50 : decode cX7_near 50 = .ok (.iload_n 3, 1) := by decide +kernel
theorem dX7_near_51 : decode cX7_near 51 = .ok (.invokevirtual 127, 3) := by decide +kernel
theorem dX7_near_54 : decode cX7_near 54 = .ok (.ifCond .eq 7, 3) := by decide +kernel
theorem dX7_near_57 : decode cX7_near 57 = .ok (.iconst 1, 1) := by decide +kernel
theorem dX7_near_58 : decode cX7_near 58 = .ok (.goto 4, 3) := by decide +kernel
theorem dX7_near_61 : decode cX7_near 61 = .ok (.iconst 0, 1) := by decide +kernel
theorem dX7_near_62 : decode cX7_near 62 = .ok (.iadd, 1) := by decide +kernel
theorem dX7_near_63 : decode cX7_near 63 = .ok (.istore_n 1, 1) := by decide +kernel
theorem dX7_near_64 : decode cX7_near 64 = .ok (.iinc 3 1, 3) := by decide +kernel
theorem dX7_near_67 : decode cX7_near 67 = .ok (.goto (-28), 3) := by decide +kernel
theorem dX7_near_70 : decode cX7_near 70 = .ok (.iinc 2 1, 3) := by decide +kernel
theorem dX7_near_73 : decode cX7_near 73 = .ok (.goto (-53), 3) := by decide +kernel
theorem dX7_near_76 : decode cX7_near 76 = .ok (.iload_n 1, 1) := by decide +kernel
theorem dX7_near_77 : decode cX7_near 77 = .ok (.ireturn, 1) := by decide +kernel
theorem dX7_pair_0 : decode cX7_pair 0 = .ok (.aload_n 0, 1) := by decide +kernel
theorem dX7_pair_1 : decode cX7_pair 1 = .ok (.iload_n 1, 1) := by decide +kernel
theorem dX7_pair_2 : decode cX7_pair 2 = .ok (.ifCond .lt 12, 3) := by decide +kernel
theorem dX7_pair_5 : decode cX7_pair 5 = .ok (.iload_n 2, 1) := by decide +kernel
theorem dX7_pair_6 : decode cX7_pair 6 = .ok (.ifCond .lt 8, 3) := by decide +kernel
theorem dX7_pair_9 : decode cX7_pair 9 = .ok (.iload_n 2, 1) := by decide +kernel
theorem dX7_pair_10 : decode cX7_pair 10 = .ok (.iconst 1, 1) := by decide +kernel
theorem dX7_pair_11 : decode cX7_pair 11 = .ok (.if_icmp .le 7, 3) := by decide +kernel
theorem dX7_pair_14 : decode cX7_pair 14 = .ok (.iconst 1, 1) := by decide +kernel
theorem dX7_pair_15 : decode cX7_pair 15 = .ok (.goto 15, 3) := by decide +kernel
theorem dX7_pair_18 : decode cX7_pair 18 = .ok (.aload_n 0, 1) := by decide +kernel
theorem dX7_pair_19 : decode cX7_pair 19 = .ok (.invokevirtual 124, 3) := by decide +kernel
theorem dX7_pair_22 : decode cX7_pair 22 = .ok (.ifCond .eq 7, 3) := by decide +kernel
theorem dX7_pair_25 : decode cX7_pair 25 = .ok (.iconst 2, 1) := by decide +kernel
theorem dX7_pair_26 : decode cX7_pair 26 = .ok (.goto 4, 3) := by decide +kernel
theorem dX7_pair_29 : decode cX7_pair 29 = .ok (.iconst 0, 1) := by decide +kernel
theorem dX7_pair_30 : decode cX7_pair 30 = .ok (.putfield 72, 3) := by decide +kernel
theorem dX7_pair_33 : decode cX7_pair 33 = .ok (.iload_n 1, 1) := by decide +kernel
theorem dX7_pair_34 : decode cX7_pair 34 = .ok (.istore_n 3, 1) := by decide +kernel
theorem dX7_pair_35 : decode cX7_pair 35 = .ok (.iconst 0, 1) := by decide +kernel
theorem dX7_pair_36 : decode cX7_pair 36 = .ok (.istore 4, 2) := by decide +kernel
theorem dX7_pair_38 : decode cX7_pair 38 = .ok (.iload 4, 2) := by decide +kernel
theorem dX7_pair_40 : decode cX7_pair 40 = .ok (.aload_n 0, 1) := by decide +kernel
theorem dX7_pair_41 : decode cX7_pair 41 = .ok (.getfield 76, 3) := by decide +kernel
theorem dX7_pair_44 : decode cX7_pair 44 = .ok (.if_icmp .ge 67, 3) := by decide +kernel
theorem dX7_pair_47 : decode cX7_pair 47 = .ok (.aload_n 0, 1) := by decide +kernel
theorem dX7_pair_48 : decode cX7_pair 48 = .ok (.getfield 72, 3) := by decide +kernel
theorem dX7_pair_51 : decode cX7_pair 51 = .ok (.ifCond .ne 60, 3) := by decide +kernel
theorem dX7_pair_54 : decode cX7_pair 54 = .ok (.iload 4, 2) := by decide +kernel
theorem dX7_pair_56 : decode cX7_pair 56 = .ok (.iconst 1, 1) := by decide +kernel
theorem dX7_pair_57 : decode cX7_pair 57 = .ok (.iadd, 1) := by decide +kernel
theorem dX7_pair_58 : decode cX7_pair 58 = .ok (.istore 5, 2) := by decide +kernel
theorem dX7_pair_60 : decode cX7_pair 60 = .ok (.iload 5, 2) := by decide +kernel
theorem dX7_pair_62 : decode cX7_pair 62 = .ok (.aload_n 0, 1) := by decide +kernel
theorem dX7_pair_63 : decode cX7_pair 63 = .ok (.getfield 76, 3) := by decide +kernel
theorem dX7_pair_66 : decode cX7_pair 66 = .ok (.if_icmp .ge 39, 3) := by decide +kernel
theorem dX7_pair_69 : decode cX7_pair 69 = .ok (.aload_n 0, 1) := by decide +kernel
theorem dX7_pair_70 : decode cX7_pair 70 = .ok (.iload 4, 2) := by decide +kernel
theorem dX7_pair_72 : decode cX7_pair 72 = .ok (.iload 5, 2) := by decide +kernel
theorem dX7_pair_74 : decode cX7_pair 74 = .ok (.invokevirtual 127, 3) := by decide +kernel
theorem dX7_pair_77 : decode cX7_pair 77 = .ok (.ifCond .eq 22, 3) := by decide +kernel
theorem dX7_pair_80 : decode cX7_pair 80 = .ok (.iload_n 3, 1) := by decide +kernel
theorem dX7_pair_81 : decode cX7_pair 81 = .ok (.ifCond .ne 15, 3) := by decide +kernel
theorem dX7_pair_84 : decode cX7_pair 84 = .ok (.iload_n 2, 1) := by decide +kernel
theorem dX7_pair_85 : decode cX7_pair 85 = .ok (.ifCond .ne 8, 3) := by decide +kernel
theorem dX7_pair_88 : decode cX7_pair 88 = .ok (.iload 4, 2) := by decide +kernel
theorem dX7_pair_90 : decode cX7_pair 90 = .ok (.goto 5, 3) := by decide +kernel
theorem dX7_pair_93 : decode cX7_pair 93 = .ok (.iload 5, 2) := by decide +kernel
theorem dX7_pair_95 : decode cX7_pair 95 = .ok (.ireturn, 1) := by decide +kernel
theorem dX7_pair_96 : decode cX7_pair 96 = .ok (.iinc 3 (-1), 3) := by decide +kernel
theorem dX7_pair_99 : decode cX7_pair 99 = .ok (.iinc 5 1, 3) := by decide +kernel
theorem dX7_pair_102 : decode cX7_pair 102 = .ok (.goto (-42), 3) := by decide +kernel
theorem dX7_pair_105 : decode cX7_pair 105 = .ok (.iinc 4 1, 3) := by decide +kernel
theorem dX7_pair_108 : decode cX7_pair 108 = .ok (.goto (-70), 3) := by decide +kernel
theorem dX7_pair_111 : decode cX7_pair 111 = .ok (.aload_n 0, 1) := by decide +kernel
theorem dX7_pair_112 : decode cX7_pair 112 = .ok (.getfield 72, 3) := by decide +kernel
theorem dX7_pair_115 : decode cX7_pair 115 = .ok (.ifCond .le 7, 3) := by decide +kernel
theorem dX7_pair_118 : decode cX7_pair 118 = .ok (.iconst 0, 1) := by decide +kernel
theorem dX7_pair_119 : decode cX7_pair 119 = .ok (.goto 4, 3) := by decide +kernel
theorem dX7_pair_122 : decode cX7_pair 122 = .ok (.iconst (-1), 1) := by decide +kernel
theorem dX7_pair_123 : decode cX7_pair 123 = .ok (.ireturn, 1) := by decide +kernel
theorem dX7_pre_0 : decode cX7_pre 0 = .ok (.aload_n 0, 1) := by decide +kernel
theorem dX7_pre_1 : decode cX7_pre 1 = .ok (.aload_n 0, 1) := by decide +kernel
theorem dX7_pre_2 : decode cX7_pre 2 = .ok (.iload_n 1, 1) := by decide +kernel
theorem dX7_pre_3 : decode cX7_pre 3 = .ok (.invokevirtual 83, 3) := by decide +kernel
theorem dX7_pre_6 : decode cX7_pre 6 = .ok (.ifCond .ne 7, 3) := by decide +kernel
theorem dX7_pre_9 : decode cX7_pre 9 = .ok (.iconst 1, 1) := by decide +kernel
theorem dX7_pre_10 : decode cX7_pre 10 = .ok (.goto 29, 3) := by decide +kernel
theorem dX7_pre_13 : decode cX7_pre 13 = .ok (.aload_n 0, 1) := by decide +kernel
theorem dX7_pre_14 : decode cX7_pre 14 = .ok (.invokevirtual 124, 3) := by decide +kernel
theorem dX7_pre_17 : decode cX7_pre 17 = .ok (.ifCond .eq 7, 3) := by decide +kernel
theorem dX7_pre_20 : decode cX7_pre 20 = .ok (.iconst 2, 1) := by decide +kernel
theorem dX7_pre_21 : decode cX7_pre 21 = .ok (.goto 18, 3) := by decide +kernel
