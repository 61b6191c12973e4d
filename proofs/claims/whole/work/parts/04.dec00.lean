theorem dX0_init_0 : decode cX0_init 0 = .ok (.aload_n 0, 1) := by decide +kernel
theorem dX0_init_1 : decode cX0_init 1 = .ok (.invokespecial 1, 3) := by decide +kernel
theorem dX0_init_4 : decode cX0_init 4 = .ok (.aload_n 0, 1) := by decide +kernel
theorem dX0_init_5 : decode cX0_init 5 = .ok (.lload_n 1, 1) := by decide +kernel
theorem dX0_init_6 : decode cX0_init 6 = .ok (.putfield 7, 3) := by decide +kernel
theorem dX0_init_9 : decode cX0_init 9 = .ok (.aload_n 0, 1) := by decide +kernel
theorem dX0_init_10 : decode cX0_init 10 = .ok (.lload_n 3, 1) := by decide +kernel
theorem dX0_init_11 : decode cX0_init 11 = .ok (.putfield 13, 3) := by decide +kernel
theorem dX0_init_14 : decode cX0_init 14 = .ok (.aload_n 0, 1) := by decide +kernel
theorem dX0_init_15 : decode cX0_init 15 = .ok (.lload 5, 2) := by decide +kernel
theorem dX0_init_17 : decode cX0_init 17 = .ok (.putfield 16, 3) := by decide +kernel
theorem dX0_init_20 : decode cX0_init 20 = .ok (.aload_n 0, 1) := by decide +kernel
theorem dX0_init_21 : decode cX0_init 21 = .ok (.lload 7, 2) := by decide +kernel
theorem dX0_init_23 : decode cX0_init 23 = .ok (.putfield 19, 3) := by decide +kernel
theorem dX0_init_26 : decode cX0_init 26 = .ok (.return_, 1) := by decide +kernel
theorem dX0_area_0 : decode cX0_area 0 = .ok (.aload_n 0, 1) := by decide +kernel
theorem dX0_area_1 : decode cX0_area 1 = .ok (.getfield 16, 3) := by decide +kernel
theorem dX0_area_4 : decode cX0_area 4 = .ok (.aload_n 0, 1) := by decide +kernel
theorem dX0_area_5 : decode cX0_area 5 = .ok (.getfield 7, 3) := by decide +kernel
theorem dX0_area_8 : decode cX0_area 8 = .ok (.lsub, 1) := by decide +kernel
theorem dX0_area_9 : decode cX0_area 9 = .ok (.aload_n 0, 1) := by decide +kernel
theorem dX0_area_10 : decode cX0_area 10 = .ok (.getfield 19, 3) := by decide +kernel
theorem dX0_area_13 : decode cX0_area 13 = .ok (.aload_n 0, 1) := by decide +kernel
theorem dX0_area_14 : decode cX0_area 14 = .ok (.getfield 13, 3) := by decide +kernel
theorem dX0_area_17 : decode cX0_area 17 = .ok (.lsub, 1) := by decide +kernel
theorem dX0_area_18 : decode cX0_area 18 = .ok (.lmul, 1) := by decide +kernel
theorem dX0_area_19 : decode cX0_area 19 = .ok (.lreturn, 1) := by decide +kernel
theorem dX0_isWithin_0 : decode cX0_isWithin 0 = .ok (.iload_n 3, 1) := by decide +kernel
theorem dX0_isWithin_1 : decode cX0_isWithin 1 = .ok (.ifCond .eq 29, 3) := by decide +kernel
theorem dX0_isWithin_4 : decode cX0_isWithin 4 = .ok (.aload_n 0, 1) := by decide +kernel
theorem dX0_isWithin_5 : decode cX0_isWithin 5 = .ok (.getfield 7, 3) := by decide +kernel
theorem dX0_isWithin_8 : decode cX0_isWithin 8 = .ok (.lload_n 1, 1) := by decide +kernel
theorem dX0_isWithin_9 : decode cX0_isWithin 9 = .ok (.lcmp, 1) := by decide +kernel
theorem dX0_isWithin_10 : decode cX0_isWithin 10 = .ok (.ifCond .ge 16, 3) := by decide +kernel
theorem dX0_isWithin_13 : decode cX0_isWithin 13 = .ok (.lload_n 1, 1) := by decide +kernel
theorem dX0_isWithin_14 : decode cX0_isWithin 14 = .ok (.aload_n 0, 1) := by decide +kernel
theorem dX0_isWithin_15 : decode cX0_isWithin 15 = .ok (.getfield 16, 3) := by decide +kernel
theorem dX0_isWithin_18 : decode cX0_isWithin 18 = .ok (.lcmp, 1) := by decide +kernel
theorem dX0_isWithin_19 : decode cX0_isWithin 19 = .ok (.ifCond .ge 7, 3) := by decide +kernel
theorem dX0_isWithin_22 : decode cX0_isWithin 22 = .ok (.iconst 1, 1) := by decide +kernel
theorem dX0_isWithin_23 : decode cX0_isWithin 23 = .ok (.goto 30, 3) := by decide +kernel
theorem dX0_isWithin_26 : decode cX0_isWithin 26 = .ok (.iconst 0, 1) := by decide +kernel
theorem dX0_isWithin_27 : decode cX0_isWithin 27 = .ok (.goto 26, 3) := by decide +kernel
theorem dX0_isWithin_30 : decode cX0_isWithin 30 = .ok (.aload_n 0, 1) := by decide +kernel
theorem dX0_isWithin_31 : decode cX0_isWithin 31 = .ok (.getfield 13, 3) := by decide +kernel
theorem dX0_isWithin_34 : decode cX0_isWithin 34 = .ok (.lload_n 1, 1) := by decide +kernel
theorem dX0_isWithin_35 : decode cX0_isWithin 35 = .ok (.lcmp, 1) := by decide +kernel
theorem dX0_isWithin_36 : decode cX0_isWithin 36 = .ok (.ifCond .ge 16, 3) := by decide +kernel
theorem dX0_isWithin_39 : decode cX0_isWithin 39 = .ok (.lload_n 1, 1) := by decide +kernel
theorem dX0_isWithin_40 : decode cX0_isWithin 40 = .ok (.aload_n 0, 1) := by decide +kernel
theorem dX0_isWithin_41 : decode cX0_isWithin 41 = .ok (.getfield 19, 3) := by decide +kernel
theorem dX0_isWithin_44 : decode cX0_isWithin 44 = .ok (.lcmp, 1) := by decide +kernel
theorem dX0_isWithin_45 : decode cX0_isWithin 45 = .ok (.ifCond .ge 7, 3) := by decide +kernel
theorem dX0_isWithin_48 : decode cX0_isWithin 48 = .ok (.iconst 1, 1) := by decide +kernel
theorem dX0_isWithin_49 : decode cX0_isWithin 49 = .ok (.goto 4, 3) := by decide +kernel
theorem dX0_isWithin_52 : decode cX0_isWithin 52 = .ok (.iconst 0, 1) := by decide +kernel
theorem dX0_isWithin_53 : decode cX0_isWithin 53 = .ok (.ireturn, 1) := by decide +kernel
theorem dX0_isNearAny_0 : decode cX0_isNearAny 0 = .ok (.iconst 0, 1) := by decide +kernel
theorem dX0_isNearAny_1 : decode cX0_isNearAny 1 = .ok (.istore 4, 2) := by decide +kernel
theorem dX0_isNearAny_3 : decode cX0_isNearAny 3 = .ok (.iload 4, 2) := by decide +kernel
theorem dX0_isNearAny_5 : decode cX0_isNearAny 5 = .ok (.aload_n 1, 1) := by decide +kernel
theorem dX0_isNearAny_6 : decode cX0_isNearAny 6 = .ok (.invokevirtual 22, 3) := by decide +kernel
theorem dX0_isNearAny_9 : decode cX0_isNearAny 9 = .ok (.if_icmp .ge 28, 3) := by decide +kernel
theorem dX0_isNearAny_12 : decode cX0_isNearAny 12 = .ok (.aload_n 0, 1) := by decide +kernel
theorem dX0_isNearAny_13 : decode cX0_isNearAny 13 = .ok (.aload_n 1, 1) := by decide +kernel
theorem dX0_isNearAny_14 : decode cX0_isNearAny 14 = .ok (.iload 4, 2) := by decide +kernel
theorem dX0_isNearAny_16 : decode cX0_isNearAny 16 = .ok (.invokevirtual 28, 3) := by decide +kernel
theorem dX0_isNearAny_19 : decode cX0_isNearAny 19 = .ok (.checkcast 8, 3) := by decide +kernel
theorem dX0_isNearAny_22 : decode cX0_isNearAny 22 = .ok (.lload_n 2, 1) := by decide +kernel
theorem dX0_isNearAny_23 : decode cX0_isNearAny 23 = .ok (.invokevirtual 32, 3) := by decide +kernel
theorem dX0_isNearAny_26 : decode cX0_isNearAny 26 = .ok (.ifCond .eq 5, 3) := by decide +kernel
theorem dX0_isNearAny_29 : decode cX0_isNearAny 29 = .ok (.iconst 1, 1) := by decide +kernel
theorem dX0_isNearAny_30 : decode cX0_isNearAny 30 = .ok (.ireturn, 1) := by decide +kernel
theorem dX0_isNearAny_31 : decode cX0_isNearAny 31 = .ok (.iinc 4 1, 3) := by decide +kernel
theorem dX0_isNearAny_34 : decode cX0_isNearAny 34 = .ok (.goto (-31), 3) := by decide +kernel
theorem dX0_isNearAny_37 : decode cX0_isNearAny 37 = .ok (.iconst 0, 1) := by decide +kernel
theorem dX0_isNearAny_38 : decode cX0_isNearAny 38 = .ok (.ireturn, 1) := by decide +kernel
theorem dX0_isNearBox_0 : decode cX0_isNearBox 0 = .ok (.aload_n 0, 1) := by decide +kernel
theorem dX0_isNearBox_1 : decode cX0_isNearBox 1 = .ok (.getfield 7, 3) := by decide +kernel
theorem dX0_isNearBox_4 : decode cX0_isNearBox 4 = .ok (.aload_n 0, 1) := by decide +kernel
theorem dX0_isNearBox_5 : decode cX0_isNearBox 5 = .ok (.getfield 16, 3) := by decide +kernel
theorem dX0_isNearBox_8 : decode cX0_isNearBox 8 = .ok (.aload_n 1, 1) := by decide +kernel
theorem dX0_isNearBox_9 : decode cX0_isNearBox 9 = .ok (.getfield 7, 3) := by decide +kernel
theorem dX0_isNearBox_12 : decode cX0_isNearBox 12 = .ok (.aload_n 1, 1) := by decide +kernel
theorem dX0_isNearBox_13 : decode cX0_isNearBox 13 = .ok (.getfield 16, 3) := by decide +kernel
theorem dX0_isNearBox_16 : decode cX0_isNearBox 16 = .ok (.invokestatic 36, 3) := by decide +kernel
theorem dX0_isNearBox_19 : decode cX0_isNearBox 19 = .ok (.lstore 4, 2) := by decide +kernel
theorem dX0_isNearBox_21 : decode cX0_isNearBox 21 = .ok (.aload_n 0, 1) := by decide +kernel
theorem dX0_isNearBox_22 : decode cX0_isNearBox 22 = .ok (.getfield 13, 3) := by decide +kernel
theorem dX0_isNearBox_25 : decode cX0_isNearBox 25 = .ok (.aload_n 0, 1) := by decide +kernel
theorem dX0_isNearBox_26 : decode cX0_isNearBox 26 = .ok (.getfield 19, 3) := by decide +kernel
theorem dX0_isNearBox_29 : decode cX0_isNearBox 29 = .ok (.aload_n 1, 1) := by decide +kernel
theorem dX0_isNearBox_30 : decode cX0_isNearBox 30 = .ok (.getfield 13, 3) := by decide +kernel
theorem dX0_isNearBox_33 : decode cX0_isNearBox 33 = .ok (.aload_n 1, 1) := by decide +kernel
theorem dX0_isNearBox_34 : decode cX0_isNearBox 34 = .ok (.getfield 19, 3) := by decide +kernel
theorem dX0_isNearBox_37 : decode cX0_isNearBox 37 = .ok (.invokestatic 36, 3) := by decide +kernel
theorem dX0_isNearBox_40 : decode cX0_isNearBox 40 = .ok (.lstore 6, 2) := by decide +kernel
theorem dX0_isNearBox_42 : decode cX0_isNearBox 42 = .ok (.lload 4, 2) := by decide +kernel
theorem dX0_isNearBox_44 : decode cX0_isNearBox 44 = .ok (.lload 4, 2) := by decide +kernel
theorem dX0_isNearBox_46 : decode cX0_isNearBox 46 = .ok (.lmul, 1) := by decide +kernel
theorem dX0_isNearBox_47 : decode cX0_isNearBox 47 = .ok (.lload 6, 2) := by decide +kernel
theorem dX0_isNearBox_49 : decode cX0_isNearBox 49 = .ok (.lload 6, 2) := by decide +kernel
theorem dX0_isNearBox_51 : decode cX0_isNearBox 51 = .ok (.lmul, 1) := by decide +kernel
theorem dX0_isNearBox_52 : decode cX0_isNearBox 52 = .ok (.ladd, 1) := by decide +kernel
theorem dX0_isNearBox_53 : decode cX0_isNearBox 53 = .ok (.lload_n 2, 1) := by decide +kernel
theorem dX0_isNearBox_54 : decode cX0_isNearBox 54 = .ok (.lcmp, 1) := by decide +kernel
theorem dX0_isNearBox_55 : decode cX0_isNearBox 55 = .ok (.ifCond .ge 7, 3) := by decide +kernel
theorem dX0_isNearBox_58 : decode cX0_isNearBox 58 = .ok (.iconst 1, 1) := by decide +kernel
theorem dX0_isNearBox_59 : decode cX0_isNearBox 59 = .ok (.goto 4, 3) := by decide +kernel
theorem dX0_isNearBox_62 : decode cX0_isNearBox 62 = .ok (.iconst 0, 1) := by decide +kernel
theorem dX0_isNearBox_63 : decode cX0_isNearBox 63 = .ok (.ireturn, 1) := by decide +kernel
theorem dX0_gap_0 : decode cX0_gap 0 = .ok (.lconst 0, 1) := by decide +kernel
theorem dX0_gap_1 : decode cX0_gap 1 = .ok (.lload 4, 2) := by decide +kernel
theorem dX0_gap_3 : decode cX0_gap 3 = .ok (.lload_n 2, 1) := by decide +kernel
theorem dX0_gap_4 : decode cX0_gap 4 = .ok (.lsub, 1) := by decide +kernel
theorem dX0_gap_5 : decode cX0_gap 5 = .ok (.lload_n 0, 1) := by decide +kernel
theorem dX0_gap_6 : decode cX0_gap 6 = .ok (.lload 6, 2) := by decide +kernel
theorem dX0_gap_8 : decode cX0_gap 8 = .ok (.lsub, 1) := by decide +kernel
theorem dX0_gap_9 : decode cX0_gap 9 = .ok (.invokestatic 40, 3) := by decide +kernel
theorem dX0_gap_12 : decode cX0_gap 12 = .ok (.invokestatic 40, 3) := by decide +kernel
theorem dX0_gap_15 : decode cX0_gap 15 = .ok (.lreturn, 1) := by decide +kernel
theorem dX1_init_0 : decode cX1_init 0 = .ok (.aload_n 0, 1) := by decide +kernel
theorem dX1_init_1 : decode cX1_init 1 = .ok (.invokespecial 3, 3) := by decide +kernel
theorem dX1_init_4 : decode cX1_init 4 = .ok (.aload_n 0, 1) := by decide +kernel
theorem dX1_init_5 : decode cX1_init 5 = .ok (.bipush 10, 2) := by decide +kernel
theorem dX1_init_7 : decode cX1_init 7 = .ok (.newarray .int, 2) := by decide +kernel
theorem dX1_init_9 : decode cX1_init 9 = .ok (.putfield 9, 3) := by decide +kernel
theorem dX1_init_12 : decode cX1_init 12 = .ok (.aload_n 0, 1) := by decide +kernel
theorem dX1_init_13 : decode cX1_init 13 = .ok (.bipush 10, 2) := by decide +kernel
theorem dX1_init_15 : decode cX1_init 15 = .ok (.newarray .int, 2) := by decide +kernel
theorem dX1_init_17 : decode cX1_init 17 = .ok (.putfield 15, 3) := by decide +kernel
theorem dX1_init_20 : decode cX1_init 20 = .ok (.aload_n 0, 1) := by decide +kernel
theorem dX1_init_21 : decode cX1_init 21 = .ok (.bipush 10, 2) := by decide +kernel
theorem dX1_init_23 : decode cX1_init 23 = .ok (.newarray .int, 2) := by decide +kernel
theorem dX1_init_25 : decode cX1_init 25 = .ok (.putfield 18, 3) := by decide +kernel
theorem dX1_init_28 : decode cX1_init 28 = .ok (.aload_n 0, 1) := by decide +kernel
theorem dX1_init_29 : decode cX1_init 29 = .ok (.iconst 4, 1) := by decide +kernel
theorem dX1_init_30 : decode cX1_init 30 = .ok (.newarray .int, 2) := by decide +kernel
theorem dX1_init_32 : decode cX1_init 32 = .ok (.putfield 21, 3) := by decide +kernel
theorem dX1_init_35 : decode cX1_init 35 = .ok (.aload_n 0, 1) := by decide +kernel
theorem dX1_init_36 : decode cX1_init 36 = .ok (.iconst 4, 1) := by decide +kernel
theorem dX1_init_37 : decode cX1_init 37 = .ok (.newarray .long, 2) := by decide +kernel
theorem dX1_init_39 : decode cX1_init 39 = .ok (.putfield 24, 3) := by decide +kernel
theorem dX1_init_42 : decode cX1_init 42 = .ok (.aload_n 0, 1) := by decide +kernel
theorem dX1_init_43 : decode cX1_init 43 = .ok (.iload_n 3, 1) := by decide +kernel
theorem dX1_init_44 : decode cX1_init 44 = .ok (.putfield 28, 3) := by decide +kernel
theorem dX1_init_47 : decode cX1_init 47 = .ok (.iconst 0, 1) := by decide +kernel
theorem dX1_init_48 : decode cX1_init 48 = .ok (.istore 4, 2) := by decide +kernel
theorem dX1_init_50 : decode cX1_init 50 = .ok (.iload 4, 2) := by decide +kernel
theorem dX1_init_52 : decode cX1_init 52 = .ok (.bipush 10, 2) := by decide +kernel
theorem dX1_init_54 : decode cX1_init 54 = .ok (.if_icmp .ge 17, 3) := by decide +kernel
theorem dX1_init_57 : decode cX1_init 57 = .ok (.aload_n 0, 1) := by decide +kernel
theorem dX1_init_58 : decode cX1_init 58 = .ok (.getfield 9, 3) := by decide +kernel
theorem dX1_init_61 : decode cX1_init 61 = .ok (.iload 4, 2) := by decide +kernel
theorem dX1_init_63 : decode cX1_init 63 = .ok (.iconst (-1), 1) := by decide +kernel
theorem dX1_init_64 : decode cX1_init 64 = .ok (.iastore, 1) := by decide +kernel
theorem dX1_init_65 : decode cX1_init 65 = .ok (.iinc 4 1, 3) := by decide +kernel
theorem dX1_init_68 : decode cX1_init 68 = .ok (.goto (-18), 3) := by decide +kernel
theorem dX1_init_71 : decode cX1_init 71 = .ok (.iconst 0, 1) := by decide +kernel
theorem dX1_init_72 : decode cX1_init 72 = .ok (.istore 4, 2) := by decide +kernel
theorem dX1_init_74 : decode cX1_init 74 = .ok (.iload 4, 2) := by decide +kernel
theorem dX1_init_76 : decode cX1_init 76 = .ok (.aload_n 1, 1) := by decide +kernel
theorem dX1_init_77 : decode cX1_init 77 = .ok (.invokevirtual 32, 3) := by decide +kernel
theorem dX1_init_80 : decode cX1_init 80 = .ok (.if_icmp .ge 84, 3) := by decide +kernel
theorem dX1_init_83 : decode cX1_init 83 = .ok (.iload 4, 2) := by decide +kernel
theorem dX1_init_85 : decode cX1_init 85 = .ok (.aload_n 2, 1) := by decide +kernel
theorem dX1_init_86 : decode cX1_init 86 = .ok (.arraylength, 1) := by decide +kernel
theorem dX1_init_87 : decode cX1_init 87 = .ok (.if_icmp .ge 77, 3) := by decide +kernel
theorem dX1_init_90 : decode cX1_init 90 = .ok (.aload_n 0, 1) := by decide +kernel
theorem dX1_init_91 : decode cX1_init 91 = .ok (.aload_n 2, 1) := by decide +kernel
theorem dX1_init_92 : decode cX1_init 92 = .ok (.iload 4, 2) := by decide +kernel
theorem dX1_init_94 : decode cX1_init 94 = .ok (.iaload, 1) := by decide +kernel
theorem dX1_init_95 : decode cX1_init 95 = .ok (.aload_n 1, 1) := by decide +kernel
theorem dX1_init_96 : decode cX1_init 96 = .ok (.iload 4, 2) := by decide +kernel
theorem dX1_init_98 : decode cX1_init 98 = .ok (.invokevirtual 38, 3) := by decide +kernel
theorem dX1_init_101 : decode cX1_init 101 = .ok (.invokevirtual 41, 3) := by decide +kernel
theorem dX1_init_104 : decode cX1_init 104 = .ok (.aload_n 1, 1) := by decide +kernel
theorem dX1_init_105 : decode cX1_init 105 = .ok (.iload 4, 2) := by decide +kernel
theorem dX1_init_107 : decode cX1_init 107 = .ok (.invokevirtual 45, 3) := by decide +kernel
theorem dX1_init_110 : decode cX1_init 110 = .ok (.ifCond .eq 34, 3) := by decide +kernel
theorem dX1_init_113 : decode cX1_init 113 = .ok (.aload_n 0, 1) := by decide +kernel
theorem dX1_init_114 : decode cX1_init 114 = .ok (.aload_n 1, 1) := by decide +kernel
theorem dX1_init_115 : decode cX1_init 115 = .ok (.iload 4, 2) := by decide +kernel
theorem dX1_init_117 : decode cX1_init 117 = .ok (.invokevirtual 49, 3) := by decide +kernel
theorem dX1_init_120 : decode cX1_init 120 = .ok (.aload_n 2, 1) := by decide +kernel
theorem dX1_init_121 : decode cX1_init 121 = .ok (.iload 4, 2) := by decide +kernel
theorem dX1_init_123 : decode cX1_init 123 = .ok (.iconst 1, 1) := by decide +kernel
theorem dX1_init_124 : decode cX1_init 124 = .ok (.isub, 1) := by decide +kernel
theorem dX1_init_125 : decode cX1_init 125 = .ok (.iaload, 1) := by decide +kernel
theorem dX1_init_126 : decode cX1_init 126 = .ok (.aload_n 2, 1) := by decide +kernel
theorem dX1_init_127 : decode cX1_init 127 = .ok (.iload 4, 2) := by decide +kernel
theorem dX1_init_129 : decode cX1_init 129 = .ok (.iaload, 1) := by decide +kernel
theorem dX1_init_130 : decode cX1_init 130 = .ok (.if_icmp .eq 7, 3) := by decide +kernel
theorem dX1_init_133 : decode cX1_init 133 = .ok (.iconst 1, 1) := by decide +kernel
theorem dX1_init_134 : decode cX1_init 134 = .ok (.goto 4, 3) := by decide +kernel
theorem dX1_init_137 : decode cX1_init 137 = .ok (.iconst 0, 1) := by decide +kernel
theorem dX1_init_138 : decode cX1_init 138 = .ok (.invokevirtual 53, 3) := by decide +kernel
theorem dX1_init_141 : decode cX1_init 141 = .ok (.goto 17, 3) := by decide +kernel
theorem dX1_init_144 : decode cX1_init 144 = .ok (.aload_n 0, 1) := by decide +kernel
theorem dX1_init_145 : decode cX1_init 145 = .ok (.aload_n 1, 1) := by decide +kernel
theorem dX1_init_146 : decode cX1_init 146 = .ok (.iload 4, 2) := by decide +kernel
theorem dX1_init_148 : decode cX1_init 148 = .ok (.invokevirtual 49, 3) := by decide +kernel
theorem dX1_init_151 : decode cX1_init 151 = .ok (.aload_n 2, 1) := by decide +kernel
theorem dX1_init_152 : decode cX1_init 152 = .ok (.iload 4, 2) := by decide +kernel
theorem dX1_init_154 : decode cX1_init 154 = .ok (.iaload, 1) := by decide +kernel
theorem dX1_init_155 : decode cX1_init 155 = .ok (.invokevirtual 57, 3) := by decide +kernel
theorem dX1_init_158 : decode cX1_init 158 = .ok (.iinc 4 1, 3) := by decide +kernel
theorem dX1_init_161 : decode cX1_init 161 = .ok (.goto (-87), 3) := by decide +kernel
theorem dX1_init_164 : decode cX1_init 164 = .ok (.return_, 1) := by decide +kernel
theorem dX1_weigh_0 : decode cX1_weigh 0 = .ok (.iload_n 1, 1) := by decide +kernel
theorem dX1_weigh_1 : decode cX1_weigh 1 = .ok (.ifCond .lt 28, 3) := by decide +kernel
theorem dX1_weigh_4 : decode cX1_weigh 4 = .ok (.iload_n 1, 1) := by decide +kernel
theorem dX1_weigh_5 : decode cX1_weigh 5 = .ok (.iconst 4, 1) := by decide +kernel
theorem dX1_weigh_6 : decode cX1_weigh 6 = .ok (.if_icmp .ge 23, 3) := by decide +kernel
theorem dX1_weigh_9 : decode cX1_weigh 9 = .ok (.aload_n 0, 1) := by decide +kernel
theorem dX1_weigh_10 : decode cX1_weigh 10 = .ok (.getfield 21, 3) := by decide +kernel
theorem dX1_weigh_13 : decode cX1_weigh 13 = .ok (.iload_n 1, 1) := by decide +kernel
theorem dX1_weigh_14 : decode cX1_weigh 14 = .ok (.dup2, 1) := by decide +kernel
theorem dX1_weigh_15 : decode cX1_weigh 15 = .ok (.iaload, 1) := by decide +kernel
theorem dX1_weigh_16 : decode cX1_weigh 16 = .ok (.iconst 1, 1) := by decide +kernel
theorem dX1_weigh_17 : decode cX1_weigh 17 = .ok (.iadd, 1) := by decide +kernel
theorem dX1_weigh_18 : decode cX1_weigh 18 = .ok (.iastore, 1) := by decide +kernel
theorem dX1_weigh_19 : decode cX1_weigh 19 = .ok (.aload_n 0, 1) := by decide +kernel
theorem dX1_weigh_20 : decode cX1_weigh 20 = .ok (.getfield 24, 3) := by decide +kernel
theorem dX1_weigh_23 : decode cX1_weigh 23 = .ok (.iload_n 1, 1) := by decide +kernel
theorem dX1_weigh_24 : decode cX1_weigh 24 = .ok (.dup2, 1) := by decide +kernel
theorem dX1_weigh_25 : decode cX1_weigh 25 = .ok (.laload, 1) := by decide +kernel
theorem dX1_weigh_26 : decode cX1_weigh 26 = .ok (.lload_n 2, 1) := by decide +kernel
theorem dX1_weigh_27 : decode cX1_weigh 27 = .ok (.ladd, 1) := by decide +kernel
theorem dX1_weigh_28 : decode cX1_weigh 28 = .ok (.lastore, 1) := by decide +kernel
theorem dX1_weigh_29 : decode cX1_weigh 29 = .ok (.return_, 1) := by decide +kernel
theorem dX1_noteFirst_0 : decode cX1_noteFirst 0 = .ok (.iload_n 1, 1) := by decide +kernel
theorem dX1_noteFirst_1 : decode cX1_noteFirst 1 = .ok (.ifCond .lt 16, 3) := by decide +kernel
theorem dX1_noteFirst_4 : decode cX1_noteFirst 4 = .ok (.iload_n 1, 1) := by decide +kernel
theorem dX1_noteFirst_5 : decode cX1_noteFirst 5 = .ok (.bipush 10, 2) := by decide +kernel
theorem dX1_noteFirst_7 : decode cX1_noteFirst 7 = .ok (.if_icmp .ge 10, 3) := by decide +kernel
theorem dX1_noteFirst_10 : decode cX1_noteFirst 10 = .ok (.aload_n 0, 1) := by decide +kernel
theorem dX1_noteFirst_11 : decode cX1_noteFirst 11 = .ok (.getfield 9, 3) := by decide +kernel
theorem dX1_noteFirst_14 : decode cX1_noteFirst 14 = .ok (.iload_n 1, 1) := by decide +kernel
theorem dX1_noteFirst_15 : decode cX1_noteFirst 15 = .ok (.iload_n 2, 1) := by decide +kernel
theorem dX1_noteFirst_16 : decode cX1_noteFirst 16 = .ok (.iastore, 1) := by decide +kernel
theorem dX1_noteFirst_17 : decode cX1_noteFirst 17 = .ok (.return_, 1) := by decide +kernel
theorem dX1_noteStitch_0 : decode cX1_noteStitch 0 = .ok (.iload_n 1, 1) := by decide +kernel
theorem dX1_noteStitch_1 : decode cX1_noteStitch 1 = .ok (.ifCond .lt 44, 3) := by decide +kernel
theorem dX1_noteStitch_4 : decode cX1_noteStitch 4 = .ok (.iload_n 1, 1) := by decide +kernel
theorem dX1_noteStitch_5 : decode cX1_noteStitch 5 = .ok (.bipush 10, 2) := by decide +kernel
theorem dX1_noteStitch_7 : decode cX1_noteStitch 7 = .ok (.if_icmp .ge 38, 3) := by decide +kernel
theorem dX1_noteStitch_10 : decode cX1_noteStitch 10 = .ok (.aload_n 0, 1) := by decide +kernel
theorem dX1_noteStitch_11 : decode cX1_noteStitch 11 = .ok (.getfield 18, 3) := by decide +kernel
theorem dX1_noteStitch_14 : decode cX1_noteStitch 14 = .ok (.iload_n 1, 1) := by decide +kernel
theorem dX1_noteStitch_15 : decode cX1_noteStitch 15 = .ok (.dup2, 1) := by decide +kernel
theorem dX1_noteStitch_16 : decode cX1_noteStitch 16 = .ok (.iaload, 1) := by decide +kernel
theorem dX1_noteStitch_17 : decode cX1_noteStitch 17 = .ok (.iload_n 2, 1) := by decide +kernel
theorem dX1_noteStitch_18 : decode cX1_noteStitch 18 = .ok (.ifCond .eq 7, 3) := by decide +kernel
theorem dX1_noteStitch_21 : decode cX1_noteStitch 21 = .ok (.iconst 1, 1) := by decide +kernel
theorem dX1_noteStitch_22 : decode cX1_noteStitch 22 = .ok (.goto 4, 3) := by decide +kernel
theorem dX1_noteStitch_25 : decode cX1_noteStitch 25 = .ok (.iconst 0, 1) := by decide +kernel
theorem dX1_noteStitch_26 : decode cX1_noteStitch 26 = .ok (.aload_n 0, 1) := by decide +kernel
theorem dX1_noteStitch_27 : decode cX1_noteStitch 27 = .ok (.getfield 15, 3) := by decide +kernel
theorem dX1_noteStitch_30 : decode cX1_noteStitch 30 = .ok (.iload_n 1, 1) := by decide +kernel
theorem dX1_noteStitch_31 : decode cX1_noteStitch 31 = .ok (.iaload, 1) := by decide +kernel
theorem dX1_noteStitch_32 : decode cX1_noteStitch 32 = .ok (.ishl, 1) := by decide +kernel
theorem dX1_noteStitch_33 : decode cX1_noteStitch 33 = .ok (.ior, 1) := by decide +kernel
theorem dX1_noteStitch_34 : decode cX1_noteStitch 34 = .ok (.iastore, 1) := by decide +kernel
theorem dX1_noteStitch_35 : decode cX1_noteStitch 35 = .ok (.aload_n 0, 1) := by decide +kernel
theorem dX1_noteStitch_36 : decode cX1_noteStitch 36 = .ok (.getfield 15, 3) := by decide +kernel
theorem dX1_noteStitch_39 : decode cX1_noteStitch 39 = .ok (.iload_n 1, 1) := by decide +kernel
theorem dX1_noteStitch_40 : decode cX1_noteStitch 40 = .ok (.dup2, 1) := by decide +kernel
theorem dX1_noteStitch_41 : decode cX1_noteStitch 41 = .ok (.iaload, 1) := by decide +kernel
theorem dX1_noteStitch_42 : decode cX1_noteStitch 42 = .ok (.iconst 1, 1) := by decide +kernel
theorem dX1_noteStitch_43 : decode cX1_noteStitch 43 = .ok (.iadd, 1) := by decide +kernel
theorem dX1_noteStitch_44 : decode cX1_noteStitch 44 = .ok (.iastore, 1) := by decide +kernel
theorem dX1_noteStitch_45 : decode cX1_noteStitch 45 = .ok (.return_, 1) := by decide +kernel
theorem dX2_init_0 : decode cX2_init 0 = .ok (.aload_n 0, 1) := by decide +kernel
theorem dX2_init_1 : decode cX2_init 1 = .ok (.invokespecial 1, 3) := by decide +kernel
theorem dX2_init_4 : decode cX2_init 4 = .ok (.aload_n 0, 1) := by decide +kernel
theorem dX2_init_5 : decode cX2_init 5 = .ok (.iconst 0, 1) := by decide +kernel
theorem dX2_init_6 : decode cX2_init 6 = .ok (.putfield 7, 3) := by decide +kernel
theorem dX2_init_9 : decode cX2_init 9 = .ok (.aload_n 0, 1) := by decide +kernel
theorem dX2_init_10 : decode cX2_init 10 = .ok (.iload_n 1, 1) := by decide +kernel
theorem dX2_init_11 : decode cX2_init 11 = .ok (.putfield 13, 3) := by decide +kernel
theorem dX2_init_14 : decode cX2_init 14 = .ok (.aload_n 0, 1) := by decide +kernel
theorem dX2_init_15 : decode cX2_init 15 = .ok (.iload_n 2, 1) := by decide +kernel
theorem dX2_init_16 : decode cX2_init 16 = .ok (.putfield 16, 3) := by decide +kernel
theorem dX2_init_19 : decode cX2_init 19 = .ok (.aload_n 0, 1) := by decide +kernel
theorem dX2_init_20 : decode cX2_init 20 = .ok (.aload_n 3, 1) := by decide +kernel
theorem dX2_init_21 : decode cX2_init 21 = .ok (.putfield 19, 3) := by decide +kernel
theorem dX2_init_24 : decode cX2_init 24 = .ok (.return_, 1) := by decide +kernel
theorem dX2_areas_0 : decode cX2_areas 0 = .ok (.lconst 0, 1) := by decide +kernel
theorem dX2_areas_1 : decode cX2_areas 1 = .ok (.lstore_n 1, 1) := by decide +kernel
theorem dX2_areas_2 : decode cX2_areas 2 = .ok (.iconst 0, 1) := by decide +kernel
theorem dX2_areas_3 : decode cX2_areas 3 = .ok (.istore_n 3, 1) := by decide +kernel
theorem dX2_areas_4 : decode cX2_areas 4 = .ok (.iload_n 3, 1) := by decide +kernel
theorem dX2_areas_5 : decode cX2_areas 5 = .ok (.aload_n 0, 1) := by decide +kernel
theorem dX2_areas_6 : decode cX2_areas 6 = .ok (.getfield 19, 3) := by decide +kernel
theorem dX2_areas_9 : decode cX2_areas 9 = .ok (.invokevirtual 23, 3) := by decide +kernel
theorem dX2_areas_12 : decode cX2_areas 12 = .ok (.if_icmp .ge 26, 3) := by decide +kernel
theorem dX2_areas_15 : decode cX2_areas 15 = .ok (.lload_n 1, 1) := by decide +kernel
theorem dX2_areas_16 : decode cX2_areas 16 = .ok (.aload_n 0, 1) := by decide +kernel
theorem dX2_areas_17 : decode cX2_areas 17 = .ok (.getfield 19, 3) := by decide +kernel
theorem dX2_areas_20 : decode cX2_areas 20 = .ok (.iload_n 3, 1) := by decide +kernel
theorem dX2_areas_21 : decode cX2_areas 21 = .ok (.invokevirtual 29, 3) := by decide +kernel
theorem dX2_areas_24 : decode cX2_areas 24 = .ok (.checkcast 33, 3) := by decide +kernel
theorem dX2_areas_27 : decode cX2_areas 27 = .ok (.invokevirtual 35, 3) := by decide +kernel
theorem dX2_areas_30 : decode cX2_areas 30 = .ok (.ladd, 1) := by decide +kernel
theorem dX2_areas_31 : decode cX2_areas 31 = .ok (.lstore_n 1, 1) := by decide +kernel
theorem dX2_areas_32 : decode cX2_areas 32 = .ok (.iinc 3 1, 3) := by decide +kernel
theorem dX2_areas_35 : decode cX2_areas 35 = .ok (.goto (-31), 3) := by decide +kernel
theorem dX2_areas_38 : decode cX2_areas 38 = .ok (.lload_n 1, 1) := by decide +kernel
theorem dX2_areas_39 : decode cX2_areas 39 = .ok (.lreturn, 1) := by decide +kernel
theorem dX2_isNearPiece_0 : decode cX2_isNearPiece 0 = .ok (.iconst 0, 1) := by decide +kernel
theorem dX2_isNearPiece_1 : decode cX2_isNearPiece 1 = .ok (.istore 4, 2) := by decide +kernel
theorem dX2_isNearPiece_3 : decode cX2_isNearPiece 3 = .ok (.iload 4, 2) := by decide +kernel
theorem dX2_isNearPiece_5 : decode cX2_isNearPiece 5 = .ok (.aload_n 0, 1) := by decide +kernel
theorem dX2_isNearPiece_6 : decode cX2_isNearPiece 6 = .ok (.getfield 19, 3) := by decide +kernel
theorem dX2_isNearPiece_9 : decode cX2_isNearPiece 9 = .ok (.invokevirtual 23, 3) := by decide +kernel
theorem dX2_isNearPiece_12 : decode cX2_isNearPiece 12 = .ok (.if_icmp .ge 34, 3) := by decide +kernel
theorem dX2_isNearPiece_15 : decode cX2_isNearPiece 15 = .ok (.aload_n 0, 1) := by decide +kernel
theorem dX2_isNearPiece_16 : decode cX2_isNearPiece 16 = .ok (.getfield 19, 3) := by decide +kernel
theorem dX2_isNearPiece_19 : decode cX2_isNearPiece 19 = .ok (.iload 4, 2) := by decide +kernel
theorem dX2_isNearPiece_21 : decode cX2_isNearPiece 21 = .ok (.invokevirtual 29, 3) := by decide +kernel
theorem dX2_isNearPiece_24 : decode cX2_isNearPiece 24 = .ok (.checkcast 33, 3) := by decide +kernel
theorem dX2_isNearPiece_27 : decode cX2_isNearPiece 27 = .ok (.aload_n 1, 1) := by decide +kernel
theorem dX2_isNearPiece_28 : decode cX2_isNearPiece 28 = .ok (.getfield 19, 3) := by decide +kernel
theorem dX2_isNearPiece_31 : decode cX2_isNearPiece 31 = .ok (.lload_n 2, 1) := by decide +kernel
theorem dX2_isNearPiece_32 : decode cX2_isNearPiece 32 = .ok (.invokevirtual 39, 3) := by decide +kernel
theorem dX2_isNearPiece_35 : decode cX2_isNearPiece 35 = .ok (.ifCond .eq 5, 3) := by decide +kernel
theorem dX2_isNearPiece_38 : decode cX2_isNearPiece 38 = .ok (.iconst 1, 1) := by decide +kernel
theorem dX2_isNearPiece_39 : decode cX2_isNearPiece 39 = .ok (.ireturn, 1) := by decide +kernel
theorem dX2_isNearPiece_40 : decode cX2_isNearPiece 40 = .ok (.iinc 4 1, 3) := by decide +kernel
theorem dX2_isNearPiece_43 : decode cX2_isNearPiece 43 = .ok (.goto (-40), 3) := by decide +kernel
theorem dX2_isNearPiece_46 : decode cX2_isNearPiece 46 = .ok (.iconst 0, 1) := by decide +kernel
theorem dX2_isNearPiece_47 : decode cX2_isNearPiece 47 = .ok (.ireturn, 1) := by decide +kernel
theorem dX3_init_0 : decode cX3_init 0 = .ok (.aload_n 0, 1) := by decide +kernel
theorem dX3_init_1 : decode cX3_init 1 = .ok (.invokespecial 3, 3) := by decide +kernel
theorem dX3_init_4 : decode cX3_init 4 = .ok (.aload_n 0, 1) := by decide +kernel
theorem dX3_init_5 : decode cX3_init 5 = .ok (.new 9, 3) := by decide +kernel
theorem dX3_init_8 : decode cX3_init 8 = .ok (.dup, 1) := by decide +kernel
theorem dX3_init_9 : decode cX3_init 9 = .ok (.invokespecial 11, 3) := by decide +kernel
theorem dX3_init_12 : decode cX3_init 12 = .ok (.putfield 12, 3) := by decide +kernel
theorem dX3_init_15 : decode cX3_init 15 = .ok (.return_, 1) := by decide +kernel
theorem dX3_add_0 : decode cX3_add 0 = .ok (.aload_n 0, 1) := by decide +kernel
theorem dX3_add_1 : decode cX3_add 1 = .ok (.getfield 12, 3) := by decide +kernel
theorem dX3_add_4 : decode cX3_add 4 = .ok (.invokevirtual 18, 3) := by decide +kernel
theorem dX3_add_7 : decode cX3_add 7 = .ok (.bipush 12, 2) := by decide +kernel
theorem dX3_add_9 : decode cX3_add 9 = .ok (.if_icmp .ge 21, 3) := by decide +kernel
theorem dX3_add_12 : decode cX3_add 12 = .ok (.aload_n 0, 1) := by decide +kernel
theorem dX3_add_13 : decode cX3_add 13 = .ok (.getfield 12, 3) := by decide +kernel
theorem dX3_add_16 : decode cX3_add 16 = .ok (.new 22, 3) := by decide +kernel
theorem dX3_add_19 : decode cX3_add 19 = .ok (.dup, 1) := by decide +kernel
theorem dX3_add_20 : decode cX3_add 20 = .ok (.iload_n 1, 1) := by decide +kernel
theorem dX3_add_21 : decode cX3_add 21 = .ok (.iload_n 2, 1) := by decide +kernel
theorem dX3_add_22 : decode cX3_add 22 = .ok (.aload_n 3, 1) := by decide +kernel
theorem dX3_add_23 : decode cX3_add 23 = .ok (.invokespecial 24, 3) := by decide +kernel
theorem dX3_add_26 : decode cX3_add 26 = .ok (.invokevirtual 27, 3) := by decide +kernel
theorem dX3_add_29 : decode cX3_add 29 = .ok (.pop, 1) := by decide +kernel
theorem dX3_add_30 : decode cX3_add 30 = .ok (.return_, 1) := by decide +kernel
theorem dX3_count_0 : decode cX3_count 0 = .ok (.aload_n 0, 1) := by decide +kernel
theorem dX3_count_1 : decode cX3_count 1 = .ok (.getfield 12, 3) := by decide +kernel
theorem dX3_count_4 : decode cX3_count 4 = .ok (.invokevirtual 18, 3) := by decide +kernel
theorem dX3_count_7 : decode cX3_count 7 = .ok (.ireturn, 1) := by decide +kernel
theorem dX3_owner_0 : decode cX3_owner 0 = .ok (.iload_n 1, 1) := by decide +kernel
theorem dX3_owner_1 : decode cX3_owner 1 = .ok (.ifCond .lt 14, 3) := by decide +kernel
theorem dX3_owner_4 : decode cX3_owner 4 = .ok (.iload_n 1, 1) := by decide +kernel
theorem dX3_owner_5 : decode cX3_owner 5 = .ok (.aload_n 0, 1) := by decide +kernel
theorem dX3_owner_6 : decode cX3_owner 6 = .ok (.getfield 12, 3) := by decide +kernel
theorem dX3_owner_9 : decode cX3_owner 9 = .ok (.invokevirtual 18, 3) := by decide +kernel
theorem dX3_owner_12 : decode cX3_owner 12 = .ok (.if_icmp .lt 7, 3) := by decide +kernel
theorem dX3_owner_15 : decode cX3_owner 15 = .ok (.iconst (-1), 1) := by decide +kernel
theorem dX3_owner_16 : decode cX3_owner 16 = .ok (.goto 17, 3) := by decide +kernel
theorem dX3_owner_19 : decode cX3_owner 19 = .ok (.aload_n 0, 1) := by decide +kernel
theorem dX3_owner_20 : decode cX3_owner 20 = .ok (.getfield 12, 3) := by decide +kernel
theorem dX3_owner_23 : decode cX3_owner 23 = .ok (.iload_n 1, 1) := by decide +kernel
theorem dX3_owner_24 : decode cX3_owner 24 = .ok (.invokevirtual 31, 3) := by decide +kernel
theorem dX3_owner_27 : decode cX3_owner 27 = .ok (.checkcast 22, 3) := by decide +kernel
theorem dX3_owner_30 : decode cX3_owner 30 = .ok (.getfield 35, 3) := by decide +kernel
theorem dX3_owner_33 : decode cX3_owner 33 = .ok (.ireturn, 1) := by decide +kernel
theorem dX3_told_0 : decode cX3_told 0 = .ok (.iload_n 1, 1) := by decide +kernel
theorem dX3_told_1 : decode cX3_told 1 = .ok (.ifCond .lt 14, 3) := by decide +kernel
theorem dX3_told_4 : decode cX3_told 4 = .ok (.iload_n 1, 1) := by decide +kernel
theorem dX3_told_5 : decode cX3_told 5 = .ok (.aload_n 0, 1) := by decide +kernel
theorem dX3_told_6 : decode cX3_told 6 = .ok (.getfield 12, 3) := by decide +kernel
theorem dX3_told_9 : decode cX3_told 9 = .ok (.invokevirtual 18, 3) := by decide +kernel
theorem dX3_told_12 : decode cX3_told 12 = .ok (.if_icmp .lt 7, 3) := by decide +kernel
theorem dX3_told_15 : decode cX3_told 15 = .ok (.iconst (-1), 1) := by decide +kernel
theorem dX3_told_16 : decode cX3_told 16 = .ok (.goto 17, 3) := by decide +kernel
theorem dX3_told_19 : decode cX3_told 19 = .ok (.aload_n 0, 1) := by decide +kernel
theorem dX3_told_20 : decode cX3_told 20 = .ok (.getfield 12, 3) := by decide +kernel
theorem dX3_told_23 : decode cX3_told 23 = .ok (.iload_n 1, 1) := by decide +kernel
theorem dX3_told_24 : decode cX3_told 24 = .ok (.invokevirtual 31, 3) := by decide +kernel
theorem dX3_told_27 : decode cX3_told 27 = .ok (.checkcast 22, 3) := by decide +kernel
theorem dX3_told_30 : decode cX3_told 30 = .ok (.getfield 39, 3) := by decide +kernel
theorem dX3_told_33 : decode cX3_told 33 = .ok (.ireturn, 1) := by decide +kernel
theorem dX3_nearPieces_0 : decode cX3_nearPieces 0 = .ok (.iload_n 1, 1) := by decide +kernel
theorem dX3_nearPieces_1 : decode cX3_nearPieces 1 = .ok (.ifCond .lt 14, 3) := by decide +kernel
theorem dX3_nearPieces_4 : decode cX3_nearPieces 4 = .ok (.iload_n 1, 1) := by decide +kernel
theorem dX3_nearPieces_5 : decode cX3_nearPieces 5 = .ok (.aload_n 0, 1) := by decide +kernel
theorem dX3_nearPieces_6 : decode cX3_nearPieces 6 = .ok (.getfield 12, 3) := by decide +kernel
theorem dX3_nearPieces_9 : decode cX3_nearPieces 9 = .ok (.invokevirtual 18, 3) := by decide +kernel
theorem dX3_nearPieces_12 : decode cX3_nearPieces 12 = .ok (.if_icmp .lt 7, 3) := by decide +kernel
theorem dX3_nearPieces_15 : decode cX3_nearPieces 15 = .ok (.iconst 0, 1) := by decide +kernel
theorem dX3_nearPieces_16 : decode cX3_nearPieces 16 = .ok (.goto 17, 3) := by decide +kernel
theorem dX3_nearPieces_19 : decode cX3_nearPieces 19 = .ok (.aload_n 0, 1) := by decide +kernel
theorem dX3_nearPieces_20 : decode cX3_nearPieces 20 = .ok (.getfield 12, 3) := by decide +kernel
theorem dX3_nearPieces_23 : decode cX3_nearPieces 23 = .ok (.iload_n 1, 1) := by decide +kernel
theorem dX3_nearPieces_24 : decode cX3_nearPieces 24 = .ok (.invokevirtual 31, 3) := by decide +kernel
theorem dX3_nearPieces_27 : decode cX3_nearPieces 27 = .ok (.checkcast 22, 3) := by decide +kernel
theorem dX3_nearPieces_30 : decode cX3_nearPieces 30 = .ok (.getfield 42, 3) := by decide +kernel
theorem dX3_nearPieces_33 : decode cX3_nearPieces 33 = .ok (.ireturn, 1) := by decide +kernel
theorem dX3_areas_0 : decode cX3_areas 0 = .ok (.iload_n 1, 1) := by decide +kernel
theorem dX3_areas_1 : decode cX3_areas 1 = .ok (.ifCond .lt 14, 3) := by decide +kernel
theorem dX3_areas_4 : decode cX3_areas 4 = .ok (.iload_n 1, 1) := by decide +kernel
theorem dX3_areas_5 : decode cX3_areas 5 = .ok (.aload_n 0, 1) := by decide +kernel
theorem dX3_areas_6 : decode cX3_areas 6 = .ok (.getfield 12, 3) := by decide +kernel
theorem dX3_areas_9 : decode cX3_areas 9 = .ok (.invokevirtual 18, 3) := by decide +kernel
theorem dX3_areas_12 : decode cX3_areas 12 = .ok (.if_icmp .lt 7, 3) := by decide +kernel
theorem dX3_areas_15 : decode cX3_areas 15 = .ok (.lconst 0, 1) := by decide +kernel
theorem dX3_areas_16 : decode cX3_areas 16 = .ok (.goto 17, 3) := by decide +kernel
theorem dX3_areas_19 : decode cX3_areas 19 = .ok (.aload_n 0, 1) := by decide +kernel
theorem dX3_areas_20 : decode cX3_areas 20 = .ok (.getfield 12, 3) := by decide +kernel
theorem dX3_areas_23 : decode cX3_areas 23 = .ok (.iload_n 1, 1) := by decide +kernel
theorem dX3_areas_24 : decode cX3_areas 24 = .ok (.invokevirtual 31, 3) := by decide +kernel
theorem dX3_areas_27 : decode cX3_areas 27 = .ok (.checkcast 22, 3) := by decide +kernel
theorem dX3_areas_30 : decode cX3_areas 30 = .ok (.invokevirtual 45, 3) := by decide +kernel
theorem dX3_areas_33 : decode cX3_areas 33 = .ok (.lreturn, 1) := by decide +kernel
theorem dX3_isAfterStitch_0 : decode cX3_isAfterStitch 0 = .ok (.iload_n 1, 1) := by decide +kernel
theorem dX3_isAfterStitch_1 : decode cX3_isAfterStitch 1 = .ok (.ifCond .le 22, 3) := by decide +kernel
theorem dX3_isAfterStitch_4 : decode cX3_isAfterStitch 4 = .ok (.aload_n 0, 1) := by decide +kernel
theorem dX3_isAfterStitch_5 : decode cX3_isAfterStitch 5 = .ok (.iload_n 1, 1) := by decide +kernel
theorem dX3_isAfterStitch_6 : decode cX3_isAfterStitch 6 = .ok (.invokevirtual 49, 3) := by decide +kernel
theorem dX3_isAfterStitch_9 : decode cX3_isAfterStitch 9 = .ok (.aload_n 0, 1) := by decide +kernel
theorem dX3_isAfterStitch_10 : decode cX3_isAfterStitch 10 = .ok (.iload_n 1, 1) := by decide +kernel
theorem dX3_isAfterStitch_11 : decode cX3_isAfterStitch 11 = .ok (.iconst 1, 1) := by decide +kernel
theorem dX3_isAfterStitch_12 : decode cX3_isAfterStitch 12 = .ok (.isub, 1) := by decide +kernel
theorem dX3_isAfterStitch_13 : decode cX3_isAfterStitch 13 = .ok (.invokevirtual 49, 3) := by decide +kernel
theorem dX3_isAfterStitch_16 : decode cX3_isAfterStitch 16 = .ok (.if_icmp .ne 7, 3) := by decide +kernel
theorem dX3_isAfterStitch_19 : decode cX3_isAfterStitch 19 = .ok (.iconst 1, 1) := by decide +kernel
theorem dX3_isAfterStitch_20 : decode cX3_isAfterStitch 20 = .ok (.goto 4, 3) := by decide +kernel
theorem dX3_isAfterStitch_23 : decode cX3_isAfterStitch 23 = .ok (.iconst 0, 1) := by decide +kernel
theorem dX3_isAfterStitch_24 : decode cX3_isAfterStitch 24 = .ok (.ireturn, 1) := by decide +kernel
theorem dX3_findNearOnes_0 : decode cX3_findNearOnes 0 = .ok (.iconst 0, 1) := by decide +kernel
theorem dX3_findNearOnes_1 : decode cX3_findNearOnes 1 = .ok (.istore_n 3, 1) := by decide +kernel
theorem dX3_findNearOnes_2 : decode cX3_findNearOnes 2 = .ok (.iload_n 3, 1) := by decide +kernel
theorem dX3_findNearOnes_3 : decode cX3_findNearOnes 3 = .ok (.aload_n 0, 1) := by decide +kernel
theorem dX3_findNearOnes_4 : decode cX3_findNearOnes 4 = .ok (.getfield 12, 3) := by decide +kernel
theorem dX3_findNearOnes_7 : decode cX3_findNearOnes 7 = .ok (.invokevirtual 18, 3) := by decide +kernel
theorem dX3_findNearOnes_10 : decode cX3_findNearOnes 10 = .ok (.if_icmp .ge 110, 3) := by decide +kernel
theorem dX3_findNearOnes_13 : decode cX3_findNearOnes 13 = .ok (.iload_n 3, 1) := by decide +kernel
theorem dX3_findNearOnes_14 : decode cX3_findNearOnes 14 = .ok (.iconst 1, 1) := by decide +kernel
theorem dX3_findNearOnes_15 : decode cX3_findNearOnes 15 = .ok (.iadd, 1) := by decide +kernel
theorem dX3_findNearOnes_16 : decode cX3_findNearOnes 16 = .ok (.istore 4, 2) := by decide +kernel
theorem dX3_findNearOnes_18 : decode cX3_findNearOnes 18 = .ok (.iload 4, 2) := by decide +kernel
theorem dX3_findNearOnes_20 : decode cX3_findNearOnes 20 = .ok (.aload_n 0, 1) := by decide +kernel
theorem dX3_findNearOnes_21 : decode cX3_findNearOnes 21 = .ok (.getfield 12, 3) := by decide +kernel
theorem dX3_findNearOnes_24 : decode cX3_findNearOnes 24 = .ok (.invokevirtual 18, 3) := by decide +kernel
theorem dX3_findNearOnes_27 : decode cX3_findNearOnes 27 = .ok (.if_icmp .ge 87, 3) := by decide +kernel
theorem dX3_findNearOnes_30 : decode cX3_findNearOnes 30 = .ok (.aload_n 0, 1) := by decide +kernel
theorem dX3_findNearOnes_31 : decode cX3_findNearOnes 31 = .ok (.getfield 12, 3) := by decide +kernel
theorem dX3_findNearOnes_34 : decode cX3_findNearOnes 34 = .ok (.iload_n 3, 1) := by decide +kernel
theorem dX3_findNearOnes_35 : decode cX3_findNearOnes 35 = .ok (.invokevirtual 31, 3) := by decide +kernel
theorem dX3_findNearOnes_38 : decode cX3_findNearOnes 38 = .ok (.checkcast 22, 3) := by decide +kernel
theorem dX3_findNearOnes_41 : decode cX3_findNearOnes 41 = .ok (.astore 5, 2) := by decide +kernel
theorem dX3_findNearOnes_43 : decode cX3_findNearOnes 43 = .ok (.aload_n 0, 1) := by decide +kernel
theorem dX3_findNearOnes_44 : decode cX3_findNearOnes 44 = .ok (.getfield 12, 3) := by decide +kernel
theorem dX3_findNearOnes_47 : decode cX3_findNearOnes 47 = .ok (.iload 4, 2) := by decide +kernel
theorem dX3_findNearOnes_49 : decode cX3_findNearOnes 49 = .ok (.invokevirtual 31, 3) := by decide +kernel
theorem dX3_findNearOnes_52 : decode cX3_findNearOnes 52 = .ok (.checkcast 22, 3) := by decide +kernel
theorem dX3_findNearOnes_55 : decode cX3_findNearOnes 55 = .ok (.astore 6, 2) := by decide +kernel
theorem dX3_findNearOnes_57 : decode cX3_findNearOnes 57 = .ok (.aload 5, 2) := by decide +kernel
theorem dX3_findNearOnes_59 : decode cX3_findNearOnes 59 = .ok (.getfield 35, 3) := by decide +kernel
theorem dX3_findNearOnes_62 : decode cX3_findNearOnes 62 = .ok (.aload 6, 2) := by decide +kernel
theorem dX3_findNearOnes_64 : decode cX3_findNearOnes 64 = .ok (.getfield 35, 3) := by decide +kernel
theorem dX3_findNearOnes_67 : decode cX3_findNearOnes 67 = .ok (.if_icmp .eq 41, 3) := by decide +kernel
theorem dX3_findNearOnes_70 : decode cX3_findNearOnes 70 = .ok (.aload 5, 2) := by decide +kernel
theorem dX3_findNearOnes_72 : decode cX3_findNearOnes 72 = .ok (.aload 6, 2) := by decide +kernel
theorem dX3_findNearOnes_74 : decode cX3_findNearOnes 74 = .ok (.lload_n 1, 1) := by decide +kernel
theorem dX3_findNearOnes_75 : decode cX3_findNearOnes 75 = .ok (.invokevirtual 52, 3) := by decide +kernel
theorem dX3_findNearOnes_78 : decode cX3_findNearOnes 78 = .ok (.ifCond .eq 30, 3) := by decide +kernel
theorem dX3_findNearOnes_81 : decode cX3_findNearOnes 81 = .ok (.aload 5, 2) := by decide +kernel
theorem dX3_findNearOnes_83 : decode cX3_findNearOnes 83 = .ok (.dup, 1) := by decide +kernel
theorem dX3_findNearOnes_84 : decode cX3_findNearOnes 84 = .ok (.getfield 42, 3) := by decide +kernel
theorem dX3_findNearOnes_87 : decode cX3_findNearOnes 87 = .ok (.iconst 1, 1) := by decide +kernel
theorem dX3_findNearOnes_88 : decode cX3_findNearOnes 88 = .ok (.iload 4, 2) := by decide +kernel
theorem dX3_findNearOnes_90 : decode cX3_findNearOnes 90 = .ok (.ishl, 1) := by decide +kernel
theorem dX3_findNearOnes_91 : decode cX3_findNearOnes 91 = .ok (.ior, 1) := by decide +kernel
theorem dX3_findNearOnes_92 : decode cX3_findNearOnes 92 = .ok (.putfield 42, 3) := by decide +kernel
theorem dX3_findNearOnes_95 : decode cX3_findNearOnes 95 = .ok (.aload 6, 2) := by decide +kernel
theorem dX3_findNearOnes_97 : decode cX3_findNearOnes 97 = .ok (.dup, 1) := by decide +kernel
theorem dX3_findNearOnes_98 : decode cX3_findNearOnes 98 = .ok (.getfield 42, 3) := by decide +kernel
theorem dX3_findNearOnes_101 : decode cX3_findNearOnes 101 = .ok (.iconst 1, 1) := by decide +kernel
theorem dX3_findNearOnes_102 : decode cX3_findNearOnes 102 = .ok (.iload_n 3, 1) := by decide +kernel
theorem dX3_findNearOnes_103 : decode cX3_findNearOnes 103 = .ok (.ishl, 1) := by decide +kernel
theorem dX3_findNearOnes_104 : decode cX3_findNearOnes 104 = .ok (.ior, 1) := by decide +kernel
theorem dX3_findNearOnes_105 : decode cX3_findNearOnes 105 = .ok (.putfield 42, 3) := by decide +kernel
theorem dX3_findNearOnes_108 : decode cX3_findNearOnes 108 = .ok (.iinc 4 1, 3) := by decide +kernel
theorem dX3_findNearOnes_111 : decode cX3_findNearOnes 111 = .ok (.goto (-93), 3) := by decide +kernel
theorem dX3_findNearOnes_114 : decode cX3_findNearOnes 114 = .ok (.iinc 3 1, 3) := by decide +kernel
theorem dX3_findNearOnes_117 : decode cX3_findNearOnes 117 = .ok (.goto (-115), 3) := by decide +kernel
theorem dX3_findNearOnes_120 : decode cX3_findNearOnes 120 = .ok (.return_, 1) := by decide +kernel
theorem dX3_findOddRing_0 : decode cX3_findOddRing 0 = .ok (.bipush 13, 2) := by decide +kernel
theorem dX3_findOddRing_2 : decode cX3_findOddRing 2 = .ok (.newarray .int, 2) := by decide +kernel
theorem dX3_findOddRing_4 : decode cX3_findOddRing 4 = .ok (.astore_n 2, 1) := by decide +kernel
theorem dX3_findOddRing_5 : decode cX3_findOddRing 5 = .ok (.iconst 3, 1) := by decide +kernel
theorem dX3_findOddRing_6 : decode cX3_findOddRing 6 = .ok (.istore_n 3, 1) := by decide +kernel
theorem dX3_findOddRing_7 : decode cX3_findOddRing 7 = .ok (.iload_n 3, 1) := by decide +kernel
theorem dX3_findOddRing_8 : decode cX3_findOddRing 8 = .ok (.aload_n 0, 1) := by decide +kernel
theorem dX3_findOddRing_9 : decode cX3_findOddRing 9 = .ok (.getfield 12, 3) := by decide +kernel
theorem dX3_findOddRing_12 : decode cX3_findOddRing 12 = .ok (.invokevirtual 18, 3) := by decide +kernel
theorem dX3_findOddRing_15 : decode cX3_findOddRing 15 = .ok (.if_icmp .gt 60, 3) := by decide +kernel
theorem dX3_findOddRing_18 : decode cX3_findOddRing 18 = .ok (.iconst 0, 1) := by decide +kernel
theorem dX3_findOddRing_19 : decode cX3_findOddRing 19 = .ok (.istore 4, 2) := by decide +kernel
theorem dX3_findOddRing_21 : decode cX3_findOddRing 21 = .ok (.iload 4, 2) := by decide +kernel
theorem dX3_findOddRing_23 : decode cX3_findOddRing 23 = .ok (.aload_n 0, 1) := by decide +kernel
theorem dX3_findOddRing_24 : decode cX3_findOddRing 24 = .ok (.getfield 12, 3) := by decide +kernel
theorem dX3_findOddRing_27 : decode cX3_findOddRing 27 = .ok (.invokevirtual 18, 3) := by decide +kernel
theorem dX3_findOddRing_30 : decode cX3_findOddRing 30 = .ok (.if_icmp .ge 39, 3) := by decide +kernel
theorem dX3_findOddRing_33 : decode cX3_findOddRing 33 = .ok (.aload_n 0, 1) := by decide +kernel
theorem dX3_findOddRing_34 : decode cX3_findOddRing 34 = .ok (.iload 4, 2) := by decide +kernel
theorem dX3_findOddRing_36 : decode cX3_findOddRing 36 = .ok (.iload_n 3, 1) := by decide +kernel
theorem dX3_findOddRing_37 : decode cX3_findOddRing 37 = .ok (.aload_n 2, 1) := by decide +kernel
theorem dX3_findOddRing_38 : decode cX3_findOddRing 38 = .ok (.invokevirtual 56, 3) := by decide +kernel
theorem dX3_findOddRing_41 : decode cX3_findOddRing 41 = .ok (.aload_n 2, 1) := by decide +kernel
theorem dX3_findOddRing_42 : decode cX3_findOddRing 42 = .ok (.iload_n 3, 1) := by decide +kernel
theorem dX3_findOddRing_43 : decode cX3_findOddRing 43 = .ok (.iaload, 1) := by decide +kernel
theorem dX3_findOddRing_44 : decode cX3_findOddRing 44 = .ok (.iload 4, 2) := by decide +kernel
theorem dX3_findOddRing_46 : decode cX3_findOddRing 46 = .ok (.ishr, 1) := by decide +kernel
theorem dX3_findOddRing_47 : decode cX3_findOddRing 47 = .ok (.iconst 1, 1) := by decide +kernel
theorem dX3_findOddRing_48 : decode cX3_findOddRing 48 = .ok (.iand, 1) := by decide +kernel
theorem dX3_findOddRing_49 : decode cX3_findOddRing 49 = .ok (.ifCond .eq 14, 3) := by decide +kernel
theorem dX3_findOddRing_52 : decode cX3_findOddRing 52 = .ok (.aload_n 0, 1) := by decide +kernel
theorem dX3_findOddRing_53 : decode cX3_findOddRing 53 = .ok (.iload 4, 2) := by decide +kernel
theorem dX3_findOddRing_55 : decode cX3_findOddRing 55 = .ok (.iload_n 3, 1) := by decide +kernel
theorem dX3_findOddRing_56 : decode cX3_findOddRing 56 = .ok (.aload_n 2, 1) := by decide +kernel
theorem dX3_findOddRing_57 : decode cX3_findOddRing 57 = .ok (.aload_n 1, 1) := by decide +kernel
theorem dX3_findOddRing_58 : decode cX3_findOddRing 58 = .ok (.invokevirtual 60, 3) := by decide +kernel
theorem dX3_findOddRing_61 : decode cX3_findOddRing 61 = .ok (.iload_n 3, 1) := by decide +kernel
theorem dX3_findOddRing_62 : decode cX3_findOddRing 62 = .ok (.ireturn, 1) := by decide +kernel
theorem dX3_findOddRing_63 : decode cX3_findOddRing 63 = .ok (.iinc 4 1, 3) := by decide +kernel
theorem dX3_findOddRing_66 : decode cX3_findOddRing 66 = .ok (.goto (-45), 3) := by decide +kernel
theorem dX3_findOddRing_69 : decode cX3_findOddRing 69 = .ok (.iinc 3 2, 3) := by decide +kernel
theorem dX3_findOddRing_72 : decode cX3_findOddRing 72 = .ok (.goto (-65), 3) := by decide +kernel
theorem dX3_findOddRing_75 : decode cX3_findOddRing 75 = .ok (.iconst 0, 1) := by decide +kernel
theorem dX3_findOddRing_76 : decode cX3_findOddRing 76 = .ok (.ireturn, 1) := by decide +kernel
theorem dX3_fillWalks_0 : decode cX3_fillWalks 0 = .ok (.aload_n 3, 1) := by decide +kernel
theorem dX3_fillWalks_1 : decode cX3_fillWalks 1 = .ok (.iconst 0, 1) := by decide +kernel
theorem dX3_fillWalks_2 : decode cX3_fillWalks 2 = .ok (.iconst 1, 1) := by decide +kernel
theorem dX3_fillWalks_3 : decode cX3_fillWalks 3 = .ok (.iload_n 1, 1) := by decide +kernel
theorem dX3_fillWalks_4 : decode cX3_fillWalks 4 = .ok (.ishl, 1) := by decide +kernel
theorem dX3_fillWalks_5 : decode cX3_fillWalks 5 = .ok (.iastore, 1) := by decide +kernel
theorem dX3_fillWalks_6 : decode cX3_fillWalks 6 = .ok (.iconst 1, 1) := by decide +kernel
theorem dX3_fillWalks_7 : decode cX3_fillWalks 7 = .ok (.istore 4, 2) := by decide +kernel
theorem dX3_fillWalks_9 : decode cX3_fillWalks 9 = .ok (.iload 4, 2) := by decide +kernel
theorem dX3_fillWalks_11 : decode cX3_fillWalks 11 = .ok (.iload_n 2, 1) := by decide +kernel
theorem dX3_fillWalks_12 : decode cX3_fillWalks 12 = .ok (.if_icmp .gt 30, 3) := by decide +kernel
theorem dX3_fillWalks_15 : decode cX3_fillWalks 15 = .ok (.iload 4, 2) := by decide +kernel
theorem dX3_fillWalks_17 : decode cX3_fillWalks 17 = .ok (.aload_n 3, 1) := by decide +kernel
theorem dX3_fillWalks_18 : decode cX3_fillWalks 18 = .ok (.arraylength, 1) := by decide +kernel
theorem dX3_fillWalks_19 : decode cX3_fillWalks 19 = .ok (.if_icmp .ge 23, 3) := by decide +kernel
theorem dX3_fillWalks_22 : decode cX3_fillWalks 22 = .ok (.aload_n 3, 1) := by decide +kernel
theorem dX3_fillWalks_23 : decode cX3_fillWalks 23 = .ok (.iload 4, 2) := by decide +kernel
theorem dX3_fillWalks_25 : decode cX3_fillWalks 25 = .ok (.aload_n 0, 1) := by decide +kernel
theorem dX3_fillWalks_26 : decode cX3_fillWalks 26 = .ok (.aload_n 3, 1) := by decide +kernel
theorem dX3_fillWalks_27 : decode cX3_fillWalks 27 = .ok (.iload 4, 2) := by decide +kernel
theorem dX3_fillWalks_29 : decode cX3_fillWalks 29 = .ok (.iconst 1, 1) := by decide +kernel
theorem dX3_fillWalks_30 : decode cX3_fillWalks 30 = .ok (.isub, 1) := by decide +kernel
theorem dX3_fillWalks_31 : decode cX3_fillWalks 31 = .ok (.iaload, 1) := by decide +kernel
theorem dX3_fillWalks_32 : decode cX3_fillWalks 32 = .ok (.invokevirtual 64, 3) := by decide +kernel
theorem dX3_fillWalks_35 : decode cX3_fillWalks 35 = .ok (.iastore, 1) := by decide +kernel
theorem dX3_fillWalks_36 : decode cX3_fillWalks 36 = .ok (.iinc 4 1, 3) := by decide +kernel
theorem dX3_fillWalks_39 : decode cX3_fillWalks 39 = .ok (.goto (-30), 3) := by decide +kernel
theorem dX3_fillWalks_42 : decode cX3_fillWalks 42 = .ok (.return_, 1) := by decide +kernel
theorem dX3_nearAnyOf_0 : decode cX3_nearAnyOf 0 = .ok (.iconst 0, 1) := by decide +kernel
theorem dX3_nearAnyOf_1 : decode cX3_nearAnyOf 1 = .ok (.istore_n 2, 1) := by decide +kernel
theorem dX3_nearAnyOf_2 : decode cX3_nearAnyOf 2 = .ok (.iconst 0, 1) := by decide +kernel
theorem dX3_nearAnyOf_3 : decode cX3_nearAnyOf 3 = .ok (.istore_n 3, 1) := by decide +kernel
theorem dX3_nearAnyOf_4 : decode cX3_nearAnyOf 4 = .ok (.iload_n 3, 1) := by decide +kernel
theorem dX3_nearAnyOf_5 : decode cX3_nearAnyOf 5 = .ok (.aload_n 0, 1) := by decide +kernel
theorem dX3_nearAnyOf_6 : decode cX3_nearAnyOf 6 = .ok (.getfield 12, 3) := by decide +kernel
theorem dX3_nearAnyOf_9 : decode cX3_nearAnyOf 9 = .ok (.invokevirtual 18, 3) := by decide +kernel
theorem dX3_nearAnyOf_12 : decode cX3_nearAnyOf 12 = .ok (.if_icmp .ge 25, 3) := by decide +kernel
theorem dX3_nearAnyOf_15 : decode cX3_nearAnyOf 15 = .ok (.iload_n 1, 1) := by decide +kernel
theorem dX3_nearAnyOf_16 : decode cX3_nearAnyOf 16 = .ok (.iload_n 3, 1) := by decide +kernel
theorem dX3_nearAnyOf_17 : decode cX3_nearAnyOf 17 = .ok (.ishr, 1) := by decide +kernel
theorem dX3_nearAnyOf_18 : decode cX3_nearAnyOf 18 = .ok (.iconst 1, 1) := by decide +kernel
theorem dX3_nearAnyOf_19 : decode cX3_nearAnyOf 19 = .ok (.iand, 1) := by decide +kernel
theorem dX3_nearAnyOf_20 : decode cX3_nearAnyOf 20 = .ok (.ifCond .eq 11, 3) := by decide +kernel
theorem dX3_nearAnyOf_23 : decode cX3_nearAnyOf 23 = .ok (.iload_n 2, 1) := by decide +kernel
theorem dX3_nearAnyOf_24 : decode cX3_nearAnyOf 24 = .ok (.aload_n 0, 1) := by decide +kernel
theorem dX3_nearAnyOf_25 : decode cX3_nearAnyOf 25 = .ok (.iload_n 3, 1) := by decide +kernel
theorem dX3_nearAnyOf_26 : decode cX3_nearAnyOf 26 = .ok (.invokevirtual 67, 3) := by decide +kernel
theorem dX3_nearAnyOf_29 : decode cX3_nearAnyOf 29 = .ok (.ior, 1) := by decide +kernel
theorem dX3_nearAnyOf_30 : decode cX3_nearAnyOf 30 = .ok (.istore_n 2, 1) := by decide +kernel
theorem dX3_nearAnyOf_31 : decode cX3_nearAnyOf 31 = .ok (.iinc 3 1, 3) := by decide +kernel
theorem dX3_nearAnyOf_34 : decode cX3_nearAnyOf 34 = .ok (.goto (-30), 3) := by decide +kernel
theorem dX3_nearAnyOf_37 : decode cX3_nearAnyOf 37 = .ok (.iload_n 2, 1) := by decide +kernel
theorem dX3_nearAnyOf_38 : decode cX3_nearAnyOf 38 = .ok (.ireturn, 1) := by decide +kernel
theorem dX3_writeLeastRing_0 : decode cX3_writeLeastRing 0 = .ok (.iload_n 1, 1) := by decide +kernel
theorem dX3_writeLeastRing_1 : decode cX3_writeLeastRing 1 = .ok (.istore 5, 2) := by decide +kernel
theorem dX3_writeLeastRing_3 : decode cX3_writeLeastRing 3 = .ok (.iconst 0, 1) := by decide +kernel
theorem dX3_writeLeastRing_4 : decode cX3_writeLeastRing 4 = .ok (.istore 6, 2) := by decide +kernel
theorem dX3_writeLeastRing_6 : decode cX3_writeLeastRing 6 = .ok (.iload 6, 2) := by decide +kernel
theorem dX3_writeLeastRing_8 : decode cX3_writeLeastRing 8 = .ok (.iload_n 2, 1) := by decide +kernel
theorem dX3_writeLeastRing_9 : decode cX3_writeLeastRing 9 = .ok (.if_icmp .ge 59, 3) := by decide +kernel
theorem dX3_writeLeastRing_12 : decode cX3_writeLeastRing 12 = .ok (.iload 6, 2) := by decide +kernel
theorem dX3_writeLeastRing_14 : decode cX3_writeLeastRing 14 = .ok (.aload 4, 2) := by decide +kernel
theorem dX3_writeLeastRing_16 : decode cX3_writeLeastRing 16 = .ok (.arraylength, 1) := by decide +kernel
theorem dX3_writeLeastRing_17 : decode cX3_writeLeastRing 17 = .ok (.if_icmp .ge 51, 3) := by decide +kernel
theorem dX3_writeLeastRing_20 : decode cX3_writeLeastRing 20 = .ok (.iload_n 2, 1) := by decide +kernel
theorem dX3_writeLeastRing_21 : decode cX3_writeLeastRing 21 = .ok (.iload 6, 2) := by decide +kernel
theorem dX3_writeLeastRing_23 : decode cX3_writeLeastRing 23 = .ok (.isub, 1) := by decide +kernel
theorem dX3_writeLeastRing_24 : decode cX3_writeLeastRing 24 = .ok (.iconst 1, 1) := by decide +kernel
theorem dX3_writeLeastRing_25 : decode cX3_writeLeastRing 25 = .ok (.isub, 1) := by decide +kernel
theorem dX3_writeLeastRing_26 : decode cX3_writeLeastRing 26 = .ok (.aload_n 3, 1) := by decide +kernel
theorem dX3_writeLeastRing_27 : decode cX3_writeLeastRing 27 = .ok (.arraylength, 1) := by decide +kernel
theorem dX3_writeLeastRing_28 : decode cX3_writeLeastRing 28 = .ok (.if_icmp .ge 40, 3) := by decide +kernel
theorem dX3_writeLeastRing_31 : decode cX3_writeLeastRing 31 = .ok (.aload 4, 2) := by decide +kernel
theorem dX3_writeLeastRing_33 : decode cX3_writeLeastRing 33 = .ok (.iload 6, 2) := by decide +kernel
theorem dX3_writeLeastRing_35 : decode cX3_writeLeastRing 35 = .ok (.aload_n 0, 1) := by decide +kernel
theorem dX3_writeLeastRing_36 : decode cX3_writeLeastRing 36 = .ok (.iload 5, 2) := by decide +kernel
theorem dX3_writeLeastRing_38 : decode cX3_writeLeastRing 38 = .ok (.invokevirtual 49, 3) := by decide +kernel
theorem dX3_writeLeastRing_41 : decode cX3_writeLeastRing 41 = .ok (.iastore, 1) := by decide +kernel
theorem dX3_writeLeastRing_42 : decode cX3_writeLeastRing 42 = .ok (.aload_n 0, 1) := by decide +kernel
theorem dX3_writeLeastRing_43 : decode cX3_writeLeastRing 43 = .ok (.iload 5, 2) := by decide +kernel
theorem dX3_writeLeastRing_45 : decode cX3_writeLeastRing 45 = .ok (.invokevirtual 67, 3) := by decide +kernel
theorem dX3_writeLeastRing_48 : decode cX3_writeLeastRing 48 = .ok (.aload_n 3, 1) := by decide +kernel
theorem dX3_writeLeastRing_49 : decode cX3_writeLeastRing 49 = .ok (.iload_n 2, 1) := by decide +kernel
theorem dX3_writeLeastRing_50 : decode cX3_writeLeastRing 50 = .ok (.iload 6, 2) := by decide +kernel
theorem dX3_writeLeastRing_52 : decode cX3_writeLeastRing 52 = .ok (.isub, 1) := by decide +kernel
theorem dX3_writeLeastRing_53 : decode cX3_writeLeastRing 53 = .ok (.iconst 1, 1) := by decide +kernel
theorem dX3_writeLeastRing_54 : decode cX3_writeLeastRing 54 = .ok (.isub, 1) := by decide +kernel
theorem dX3_writeLeastRing_55 : decode cX3_writeLeastRing 55 = .ok (.iaload, 1) := by decide +kernel
theorem dX3_writeLeastRing_56 : decode cX3_writeLeastRing 56 = .ok (.iand, 1) := by decide +kernel
theorem dX3_writeLeastRing_57 : decode cX3_writeLeastRing 57 = .ok (.invokestatic 69, 3) := by decide +kernel
theorem dX3_writeLeastRing_60 : decode cX3_writeLeastRing 60 = .ok (.istore 5, 2) := by decide +kernel
theorem dX3_writeLeastRing_62 : decode cX3_writeLeastRing 62 = .ok (.iinc 6 1, 3) := by decide +kernel
theorem dX3_writeLeastRing_65 : decode cX3_writeLeastRing 65 = .ok (.goto (-59), 3) := by decide +kernel
theorem dX3_writeLeastRing_68 : decode cX3_writeLeastRing 68 = .ok (.return_, 1) := by decide +kernel
theorem dX4_init_0 : decode cX4_init 0 = .ok (.aload_n 0, 1) := by decide +kernel
theorem dX4_init_1 : decode cX4_init 1 = .ok (.invokespecial 3, 3) := by decide +kernel
theorem dX4_init_4 : decode cX4_init 4 = .ok (.aload_n 0, 1) := by decide +kernel
theorem dX4_init_5 : decode cX4_init 5 = .ok (.bipush 12, 2) := by decide +kernel
theorem dX4_init_7 : decode cX4_init 7 = .ok (.newarray .int, 2) := by decide +kernel
theorem dX4_init_9 : decode cX4_init 9 = .ok (.putfield 9, 3) := by decide +kernel
theorem dX4_init_12 : decode cX4_init 12 = .ok (.aload_n 0, 1) := by decide +kernel
theorem dX4_init_13 : decode cX4_init 13 = .ok (.bipush 12, 2) := by decide +kernel
theorem dX4_init_15 : decode cX4_init 15 = .ok (.newarray .int, 2) := by decide +kernel
theorem dX4_init_17 : decode cX4_init 17 = .ok (.putfield 15, 3) := by decide +kernel
theorem dX4_init_20 : decode cX4_init 20 = .ok (.aload_n 0, 1) := by decide +kernel
theorem dX4_init_21 : decode cX4_init 21 = .ok (.bipush 12, 2) := by decide +kernel
theorem dX4_init_23 : decode cX4_init 23 = .ok (.newarray .boolean, 2) := by decide +kernel
theorem dX4_init_25 : decode cX4_init 25 = .ok (.putfield 18, 3) := by decide +kernel
theorem dX4_init_28 : decode cX4_init 28 = .ok (.aload_n 0, 1) := by decide +kernel
theorem dX4_init_29 : decode cX4_init 29 = .ok (.iconst 4, 1) := by decide +kernel
theorem dX4_init_30 : decode cX4_init 30 = .ok (.newarray .int, 2) := by decide +kernel
theorem dX4_init_32 : decode cX4_init 32 = .ok (.putfield 22, 3) := by decide +kernel
theorem dX4_init_35 : decode cX4_init 35 = .ok (.aload_n 0, 1) := by decide +kernel
theorem dX4_init_36 : decode cX4_init 36 = .ok (.bipush 12, 2) := by decide +kernel
theorem dX4_init_38 : decode cX4_init 38 = .ok (.newarray .int, 2) := by decide +kernel
theorem dX4_init_40 : decode cX4_init 40 = .ok (.putfield 25, 3) := by decide +kernel
theorem dX4_init_43 : decode cX4_init 43 = .ok (.aload_n 0, 1) := by decide +kernel
theorem dX4_init_44 : decode cX4_init 44 = .ok (.bipush 12, 2) := by decide +kernel
theorem dX4_init_46 : decode cX4_init 46 = .ok (.newarray .int, 2) := by decide +kernel
theorem dX4_init_48 : decode cX4_init 48 = .ok (.putfield 28, 3) := by decide +kernel
theorem dX4_init_51 : decode cX4_init 51 = .ok (.aload_n 0, 1) := by decide +kernel
theorem dX4_init_52 : decode cX4_init 52 = .ok (.bipush 12, 2) := by decide +kernel
theorem dX4_init_54 : decode cX4_init 54 = .ok (.putfield 31, 3) := by decide +kernel
theorem dX4_init_57 : decode cX4_init 57 = .ok (.aload_n 0, 1) := by decide +kernel
theorem dX4_init_58 : decode cX4_init 58 = .ok (.iconst 0, 1) := by decide +kernel
theorem dX4_init_59 : decode cX4_init 59 = .ok (.iconst 4, 1) := by decide +kernel
theorem dX4_init_60 : decode cX4_init 60 = .ok (.iload_n 2, 1) := by decide +kernel
theorem dX4_init_61 : decode cX4_init 61 = .ok (.invokestatic 35, 3) := by decide +kernel
theorem dX4_init_64 : decode cX4_init 64 = .ok (.invokestatic 41, 3) := by decide +kernel
theorem dX4_init_67 : decode cX4_init 67 = .ok (.putfield 44, 3) := by decide +kernel
theorem dX4_init_70 : decode cX4_init 70 = .ok (.aload_n 0, 1) := by decide +kernel
theorem dX4_init_71 : decode cX4_init 71 = .ok (.bipush 12, 2) := by decide +kernel
theorem dX4_init_73 : decode cX4_init 73 = .ok (.aload_n 1, 1) := by decide +kernel
theorem dX4_init_74 : decode cX4_init 74 = .ok (.invokevirtual 47, 3) := by decide +kernel
theorem dX4_init_77 : decode cX4_init 77 = .ok (.invokestatic 35, 3) := by decide +kernel
theorem dX4_init_80 : decode cX4_init 80 = .ok (.putfield 53, 3) := by decide +kernel
theorem dX4_init_83 : decode cX4_init 83 = .ok (.iconst 0, 1) := by decide +kernel
theorem dX4_init_84 : decode cX4_init 84 = .ok (.istore_n 3, 1) := by decide +kernel
theorem dX4_init_85 : decode cX4_init 85 = .ok (.iload_n 3, 1) := by decide +kernel
theorem dX4_init_86 : decode cX4_init 86 = .ok (.aload_n 0, 1) := by decide +kernel
theorem dX4_init_87 : decode cX4_init 87 = .ok (.getfield 53, 3) := by decide +kernel
theorem dX4_init_90 : decode cX4_init 90 = .ok (.if_icmp .ge 42, 3) := by decide +kernel
theorem dX4_init_93 : decode cX4_init 93 = .ok (.aload_n 0, 1) := by decide +kernel
theorem dX4_init_94 : decode cX4_init 94 = .ok (.getfield 9, 3) := by decide +kernel
theorem dX4_init_97 : decode cX4_init 97 = .ok (.iload_n 3, 1) := by decide +kernel
theorem dX4_init_98 : decode cX4_init 98 = .ok (.aload_n 1, 1) := by decide +kernel
theorem dX4_init_99 : decode cX4_init 99 = .ok (.iload_n 3, 1) := by decide +kernel
theorem dX4_init_100 : decode cX4_init 100 = .ok (.invokevirtual 55, 3) := by decide +kernel
theorem dX4_init_103 : decode cX4_init 103 = .ok (.iastore, 1) := by decide +kernel
theorem dX4_init_104 : decode cX4_init 104 = .ok (.aload_n 0, 1) := by decide +kernel
theorem dX4_init_105 : decode cX4_init 105 = .ok (.getfield 15, 3) := by decide +kernel
theorem dX4_init_108 : decode cX4_init 108 = .ok (.iload_n 3, 1) := by decide +kernel
theorem dX4_init_109 : decode cX4_init 109 = .ok (.aload_n 1, 1) := by decide +kernel
theorem dX4_init_110 : decode cX4_init 110 = .ok (.iload_n 3, 1) := by decide +kernel
theorem dX4_init_111 : decode cX4_init 111 = .ok (.invokevirtual 59, 3) := by decide +kernel
theorem dX4_init_114 : decode cX4_init 114 = .ok (.iastore, 1) := by decide +kernel
theorem dX4_init_115 : decode cX4_init 115 = .ok (.aload_n 0, 1) := by decide +kernel
theorem dX4_init_116 : decode cX4_init 116 = .ok (.getfield 18, 3) := by decide +kernel
theorem dX4_init_119 : decode cX4_init 119 = .ok (.iload_n 3, 1) := by decide +kernel
theorem dX4_init_120 : decode cX4_init 120 = .ok (.aload_n 1, 1) := by decide +kernel
theorem dX4_init_121 : decode cX4_init 121 = .ok (.iload_n 3, 1) := by decide +kernel
theorem dX4_init_122 : decode cX4_init 122 = .ok (.invokevirtual 61, 3) := by decide +kernel
theorem dX4_init_125 : decode cX4_init 125 = .ok (.bastore, 1) := by decide +kernel
theorem dX4_init_126 : decode cX4_init 126 = .ok (.iinc 3 1, 3) := by decide +kernel
theorem dX4_init_129 : decode cX4_init 129 = .ok (.goto (-44), 3) := by decide +kernel
theorem dX4_init_132 : decode cX4_init 132 = .ok (.return_, 1) := by decide +kernel
theorem dX4_isFound_0 : decode cX4_isFound 0 = .ok (.aload_n 0, 1) := by decide +kernel
theorem dX4_isFound_1 : decode cX4_isFound 1 = .ok (.getfield 31, 3) := by decide +kernel
theorem dX4_isFound_4 : decode cX4_isFound 4 = .ok (.bipush 12, 2) := by decide +kernel
theorem dX4_isFound_6 : decode cX4_isFound 6 = .ok (.if_icmp .ge 7, 3) := by decide +kernel
theorem dX4_isFound_9 : decode cX4_isFound 9 = .ok (.iconst 1, 1) := by decide +kernel
theorem dX4_isFound_10 : decode cX4_isFound 10 = .ok (.goto 4, 3) := by decide +kernel
theorem dX4_isFound_13 : decode cX4_isFound 13 = .ok (.iconst 0, 1) := by decide +kernel
theorem dX4_isFound_14 : decode cX4_isFound 14 = .ok (.ireturn, 1) := by decide +kernel
theorem dX4_findBest_0 : decode cX4_findBest 0 = .ok (.iconst 0, 1) := by decide +kernel
theorem dX4_findBest_1 : decode cX4_findBest 1 = .ok (.istore_n 1, 1) := by decide +kernel
theorem dX4_findBest_2 : decode cX4_findBest 2 = .ok (.iconst 0, 1) := by decide +kernel
theorem dX4_findBest_3 : decode cX4_findBest 3 = .ok (.istore_n 2, 1) := by decide +kernel
theorem dX4_findBest_4 : decode cX4_findBest 4 = .ok (.iload_n 2, 1) := by decide +kernel
theorem dX4_findBest_5 : decode cX4_findBest 5 = .ok (.aload_n 0, 1) := by decide +kernel
theorem dX4_findBest_6 : decode cX4_findBest 6 = .ok (.getfield 53, 3) := by decide +kernel
theorem dX4_findBest_9 : decode cX4_findBest 9 = .ok (.if_icmp .ge 59, 3) := by decide +kernel
theorem dX4_findBest_12 : decode cX4_findBest 12 = .ok (.aload_n 0, 1) := by decide +kernel
theorem dX4_findBest_13 : decode cX4_findBest 13 = .ok (.getfield 15, 3) := by decide +kernel
theorem dX4_findBest_16 : decode cX4_findBest 16 = .ok (.iload_n 2, 1) := by decide +kernel
theorem dX4_findBest_17 : decode cX4_findBest 17 = .ok (.iaload, 1) := by decide +kernel
theorem dX4_findBest_18 : decode cX4_findBest 18 = .ok (.ifCond .lt 44, 3) := by decide +kernel
theorem dX4_findBest_21 : decode cX4_findBest 21 = .ok (.aload_n 0, 1) := by decide +kernel
theorem dX4_findBest_22 : decode cX4_findBest 22 = .ok (.getfield 15, 3) := by decide +kernel
theorem dX4_findBest_25 : decode cX4_findBest 25 = .ok (.iload_n 2, 1) := by decide +kernel
theorem dX4_findBest_26 : decode cX4_findBest 26 = .ok (.iaload, 1) := by decide +kernel
theorem dX4_findBest_27 : decode cX4_findBest 27 = .ok (.aload_n 0, 1) := by decide +kernel
theorem dX4_findBest_28 : decode cX4_findBest 28 = .ok (.getfield 44, 3) := by decide +kernel
theorem dX4_findBest_31 : decode cX4_findBest 31 = .ok (.if_icmp .ge 31, 3) := by decide +kernel
theorem dX4_findBest_34 : decode cX4_findBest 34 = .ok (.aload_n 0, 1) := by decide +kernel
theorem dX4_findBest_35 : decode cX4_findBest 35 = .ok (.getfield 22, 3) := by decide +kernel
theorem dX4_findBest_38 : decode cX4_findBest 38 = .ok (.aload_n 0, 1) := by decide +kernel
theorem dX4_findBest_39 : decode cX4_findBest 39 = .ok (.getfield 15, 3) := by decide +kernel
theorem dX4_findBest_42 : decode cX4_findBest 42 = .ok (.iload_n 2, 1) := by decide +kernel
theorem dX4_findBest_43 : decode cX4_findBest 43 = .ok (.iaload, 1) := by decide +kernel
theorem dX4_findBest_44 : decode cX4_findBest 44 = .ok (.dup2, 1) := by decide +kernel
theorem dX4_findBest_45 : decode cX4_findBest 45 = .ok (.iaload, 1) := by decide +kernel
theorem dX4_findBest_46 : decode cX4_findBest 46 = .ok (.iconst 1, 1) := by decide +kernel
theorem dX4_findBest_47 : decode cX4_findBest 47 = .ok (.iload_n 2, 1) := by decide +kernel
theorem dX4_findBest_48 : decode cX4_findBest 48 = .ok (.ishl, 1) := by decide +kernel
theorem dX4_findBest_49 : decode cX4_findBest 49 = .ok (.ior, 1) := by decide +kernel
theorem dX4_findBest_50 : decode cX4_findBest 50 = .ok (.iastore, 1) := by decide +kernel
theorem dX4_findBest_51 : decode cX4_findBest 51 = .ok (.iload_n 1, 1) := by decide +kernel
theorem dX4_findBest_52 : decode cX4_findBest 52 = .ok (.iconst 1, 1) := by decide +kernel
theorem dX4_findBest_53 : decode cX4_findBest 53 = .ok (.aload_n 0, 1) := by decide +kernel
theorem dX4_findBest_54 : decode cX4_findBest 54 = .ok (.getfield 15, 3) := by decide +kernel
theorem dX4_findBest_57 : decode cX4_findBest 57 = .ok (.iload_n 2, 1) := by decide +kernel
theorem dX4_findBest_58 : decode cX4_findBest 58 = .ok (.iaload, 1) := by decide +kernel
theorem dX4_findBest_59 : decode cX4_findBest 59 = .ok (.ishl, 1) := by decide +kernel
theorem dX4_findBest_60 : decode cX4_findBest 60 = .ok (.ior, 1) := by decide +kernel
theorem dX4_findBest_61 : decode cX4_findBest 61 = .ok (.istore_n 1, 1) := by decide +kernel
theorem dX4_findBest_62 : decode cX4_findBest 62 = .ok (.iinc 2 1, 3) := by decide +kernel
theorem dX4_findBest_65 : decode cX4_findBest 65 = .ok (.goto (-61), 3) := by decide +kernel
theorem dX4_findBest_68 : decode cX4_findBest 68 = .ok (.aload_n 0, 1) := by decide +kernel
theorem dX4_findBest_69 : decode cX4_findBest 69 = .ok (.iconst 0, 1) := by decide +kernel
theorem dX4_findBest_70 : decode cX4_findBest 70 = .ok (.iconst 0, 1) := by decide +kernel
theorem dX4_findBest_71 : decode cX4_findBest 71 = .ok (.iload_n 1, 1) := by decide +kernel
theorem dX4_findBest_72 : decode cX4_findBest 72 = .ok (.invokevirtual 65, 3) := by decide +kernel
theorem dX4_findBest_75 : decode cX4_findBest 75 = .ok (.return_, 1) := by decide +kernel
theorem dX4_goOn_0 : decode cX4_goOn 0 = .ok (.iload_n 2, 1) := by decide +kernel
theorem dX4_goOn_1 : decode cX4_goOn 1 = .ok (.aload_n 0, 1) := by decide +kernel
theorem dX4_goOn_2 : decode cX4_goOn 2 = .ok (.getfield 31, 3) := by decide +kernel
theorem dX4_goOn_5 : decode cX4_goOn 5 = .ok (.if_icmp .ge 11, 3) := by decide +kernel
theorem dX4_goOn_8 : decode cX4_goOn 8 = .ok (.aload_n 0, 1) := by decide +kernel
theorem dX4_goOn_9 : decode cX4_goOn 9 = .ok (.iload_n 1, 1) := by decide +kernel
theorem dX4_goOn_10 : decode cX4_goOn 10 = .ok (.invokevirtual 69, 3) := by decide +kernel
theorem dX4_goOn_13 : decode cX4_goOn 13 = .ok (.ifCond .eq 4, 3) := by decide +kernel
theorem dX4_goOn_16 : decode cX4_goOn 16 = .ok (.return_, 1) := by decide +kernel
theorem dX4_goOn_17 : decode cX4_goOn 17 = .ok (.iload_n 1, 1) := by decide +kernel
theorem dX4_goOn_18 : decode cX4_goOn 18 = .ok (.aload_n 0, 1) := by decide +kernel
theorem dX4_goOn_19 : decode cX4_goOn 19 = .ok (.getfield 53, 3) := by decide +kernel
theorem dX4_goOn_22 : decode cX4_goOn 22 = .ok (.if_icmp .lt 24, 3) := by decide +kernel
theorem dX4_goOn_25 : decode cX4_goOn 25 = .ok (.aload_n 0, 1) := by decide +kernel
theorem dX4_goOn_26 : decode cX4_goOn 26 = .ok (.iload_n 2, 1) := by decide +kernel
theorem dX4_goOn_27 : decode cX4_goOn 27 = .ok (.putfield 31, 3) := by decide +kernel
theorem dX4_goOn_30 : decode cX4_goOn 30 = .ok (.aload_n 0, 1) := by decide +kernel
theorem dX4_goOn_31 : decode cX4_goOn 31 = .ok (.getfield 25, 3) := by decide +kernel
theorem dX4_goOn_34 : decode cX4_goOn 34 = .ok (.iconst 0, 1) := by decide +kernel
theorem dX4_goOn_35 : decode cX4_goOn 35 = .ok (.aload_n 0, 1) := by decide +kernel
theorem dX4_goOn_36 : decode cX4_goOn 36 = .ok (.getfield 28, 3) := by decide +kernel
theorem dX4_goOn_39 : decode cX4_goOn 39 = .ok (.iconst 0, 1) := by decide +kernel
theorem dX4_goOn_40 : decode cX4_goOn 40 = .ok (.bipush 12, 2) := by decide +kernel
theorem dX4_goOn_42 : decode cX4_goOn 42 = .ok (.invokestatic 72, 3) := by decide +kernel
theorem dX4_goOn_45 : decode cX4_goOn 45 = .ok (.return_, 1) := by decide +kernel
theorem dX4_goOn_46 : decode cX4_goOn 46 = .ok (.iconst 0, 1) := by decide +kernel
theorem dX4_goOn_47 : decode cX4_goOn 47 = .ok (.istore 4, 2) := by decide +kernel
theorem dX4_goOn_49 : decode cX4_goOn 49 = .ok (.iconst 0, 1) := by decide +kernel
theorem dX4_goOn_50 : decode cX4_goOn 50 = .ok (.istore 5, 2) := by decide +kernel
theorem dX4_goOn_52 : decode cX4_goOn 52 = .ok (.iload 5, 2) := by decide +kernel
theorem dX4_goOn_54 : decode cX4_goOn 54 = .ok (.aload_n 0, 1) := by decide +kernel
theorem dX4_goOn_55 : decode cX4_goOn 55 = .ok (.getfield 44, 3) := by decide +kernel
theorem dX4_goOn_58 : decode cX4_goOn 58 = .ok (.if_icmp .ge 76, 3) := by decide +kernel
theorem dX4_goOn_61 : decode cX4_goOn 61 = .ok (.iload_n 3, 1) := by decide +kernel
theorem dX4_goOn_62 : decode cX4_goOn 62 = .ok (.iload 5, 2) := by decide +kernel
theorem dX4_goOn_64 : decode cX4_goOn 64 = .ok (.ishr, 1) := by decide +kernel
theorem dX4_goOn_65 : decode cX4_goOn 65 = .ok (.iconst 1, 1) := by decide +kernel
theorem dX4_goOn_66 : decode cX4_goOn 66 = .ok (.iand, 1) := by decide +kernel
theorem dX4_goOn_67 : decode cX4_goOn 67 = .ok (.ifCond .ne 7, 3) := by decide +kernel
theorem dX4_goOn_70 : decode cX4_goOn 70 = .ok (.iconst 1, 1) := by decide +kernel
theorem dX4_goOn_71 : decode cX4_goOn 71 = .ok (.goto 4, 3) := by decide +kernel
theorem dX4_goOn_74 : decode cX4_goOn 74 = .ok (.iconst 0, 1) := by decide +kernel
theorem dX4_goOn_75 : decode cX4_goOn 75 = .ok (.istore 6, 2) := by decide +kernel
theorem dX4_goOn_77 : decode cX4_goOn 77 = .ok (.aload_n 0, 1) := by decide +kernel
theorem dX4_goOn_78 : decode cX4_goOn 78 = .ok (.iload_n 1, 1) := by decide +kernel
theorem dX4_goOn_79 : decode cX4_goOn 79 = .ok (.iload 5, 2) := by decide +kernel
theorem dX4_goOn_81 : decode cX4_goOn 81 = .ok (.invokevirtual 78, 3) := by decide +kernel
theorem dX4_goOn_84 : decode cX4_goOn 84 = .ok (.ifCond .eq 27, 3) := by decide +kernel
theorem dX4_goOn_87 : decode cX4_goOn 87 = .ok (.iload 6, 2) := by decide +kernel
theorem dX4_goOn_89 : decode cX4_goOn 89 = .ok (.ifCond .eq 8, 3) := by decide +kernel
theorem dX4_goOn_92 : decode cX4_goOn 92 = .ok (.iload 4, 2) := by decide +kernel
theorem dX4_goOn_94 : decode cX4_goOn 94 = .ok (.ifCond .ne 17, 3) := by decide +kernel
theorem dX4_goOn_97 : decode cX4_goOn 97 = .ok (.aload_n 0, 1) := by decide +kernel
theorem dX4_goOn_98 : decode cX4_goOn 98 = .ok (.iload_n 1, 1) := by decide +kernel
theorem dX4_goOn_99 : decode cX4_goOn 99 = .ok (.iload 5, 2) := by decide +kernel
theorem dX4_goOn_101 : decode cX4_goOn 101 = .ok (.iload_n 2, 1) := by decide +kernel
theorem dX4_goOn_102 : decode cX4_goOn 102 = .ok (.iload_n 3, 1) := by decide +kernel
theorem dX4_goOn_103 : decode cX4_goOn 103 = .ok (.iconst 1, 1) := by decide +kernel
theorem dX4_goOn_104 : decode cX4_goOn 104 = .ok (.iload 5, 2) := by decide +kernel
theorem dX4_goOn_106 : decode cX4_goOn 106 = .ok (.ishl, 1) := by decide +kernel
theorem dX4_goOn_107 : decode cX4_goOn 107 = .ok (.ior, 1) := by decide +kernel
theorem dX4_goOn_108 : decode cX4_goOn 108 = .ok (.invokevirtual 82, 3) := by decide +kernel
theorem dX4_goOn_111 : decode cX4_goOn 111 = .ok (.iload 4, 2) := by decide +kernel
theorem dX4_goOn_113 : decode cX4_goOn 113 = .ok (.ifCond .ne 8, 3) := by decide +kernel
theorem dX4_goOn_116 : decode cX4_goOn 116 = .ok (.iload 6, 2) := by decide +kernel
theorem dX4_goOn_118 : decode cX4_goOn 118 = .ok (.ifCond .eq 7, 3) := by decide +kernel
theorem dX4_goOn_121 : decode cX4_goOn 121 = .ok (.iconst 1, 1) := by decide +kernel
theorem dX4_goOn_122 : decode cX4_goOn 122 = .ok (.goto 4, 3) := by decide +kernel
theorem dX4_goOn_125 : decode cX4_goOn 125 = .ok (.iconst 0, 1) := by decide +kernel
theorem dX4_goOn_126 : decode cX4_goOn 126 = .ok (.istore 4, 2) := by decide +kernel
theorem dX4_goOn_128 : decode cX4_goOn 128 = .ok (.iinc 5 1, 3) := by decide +kernel
theorem dX4_goOn_131 : decode cX4_goOn 131 = .ok (.goto (-79), 3) := by decide +kernel
theorem dX4_goOn_134 : decode cX4_goOn 134 = .ok (.return_, 1) := by decide +kernel
theorem dX4_tryColour_0 : decode cX4_tryColour 0 = .ok (.iload_n 1, 1) := by decide +kernel
theorem dX4_tryColour_1 : decode cX4_tryColour 1 = .ok (.ifCond .lt 23, 3) := by decide +kernel
theorem dX4_tryColour_4 : decode cX4_tryColour 4 = .ok (.iload_n 1, 1) := by decide +kernel
theorem dX4_tryColour_5 : decode cX4_tryColour 5 = .ok (.aload_n 0, 1) := by decide +kernel
theorem dX4_tryColour_6 : decode cX4_tryColour 6 = .ok (.getfield 53, 3) := by decide +kernel
theorem dX4_tryColour_9 : decode cX4_tryColour 9 = .ok (.if_icmp .ge 15, 3) := by decide +kernel
theorem dX4_tryColour_12 : decode cX4_tryColour 12 = .ok (.iload_n 2, 1) := by decide +kernel
theorem dX4_tryColour_13 : decode cX4_tryColour 13 = .ok (.ifCond .lt 11, 3) := by decide +kernel
theorem dX4_tryColour_16 : decode cX4_tryColour 16 = .ok (.iload_n 2, 1) := by decide +kernel
theorem dX4_tryColour_17 : decode cX4_tryColour 17 = .ok (.aload_n 0, 1) := by decide +kernel
theorem dX4_tryColour_18 : decode cX4_tryColour 18 = .ok (.getfield 44, 3) := by decide +kernel
theorem dX4_tryColour_21 : decode cX4_tryColour 21 = .ok (.if_icmp .lt 4, 3) := by decide +kernel
theorem dX4_tryColour_24 : decode cX4_tryColour 24 = .ok (.return_, 1) := by decide +kernel
theorem dX4_tryColour_25 : decode cX4_tryColour 25 = .ok (.iload_n 1, 1) := by decide +kernel
theorem dX4_tryColour_26 : decode cX4_tryColour 26 = .ok (.ifCond .le 28, 3) := by decide +kernel
theorem dX4_tryColour_29 : decode cX4_tryColour 29 = .ok (.aload_n 0, 1) := by decide +kernel
theorem dX4_tryColour_30 : decode cX4_tryColour 30 = .ok (.getfield 18, 3) := by decide +kernel
theorem dX4_tryColour_33 : decode cX4_tryColour 33 = .ok (.iload_n 1, 1) := by decide +kernel
theorem dX4_tryColour_34 : decode cX4_tryColour 34 = .ok (.baload, 1) := by decide +kernel
theorem dX4_tryColour_35 : decode cX4_tryColour 35 = .ok (.ifCond .eq 19, 3) := by decide +kernel
theorem dX4_tryColour_38 : decode cX4_tryColour 38 = .ok (.aload_n 0, 1) := by decide +kernel
theorem dX4_tryColour_39 : decode cX4_tryColour 39 = .ok (.getfield 25, 3) := by decide +kernel
theorem dX4_tryColour_42 : decode cX4_tryColour 42 = .ok (.iload_n 1, 1) := by decide +kernel
theorem dX4_tryColour_43 : decode cX4_tryColour 43 = .ok (.iconst 1, 1) := by decide +kernel
theorem dX4_tryColour_44 : decode cX4_tryColour 44 = .ok (.isub, 1) := by decide +kernel
theorem dX4_tryColour_45 : decode cX4_tryColour 45 = .ok (.iaload, 1) := by decide +kernel
theorem dX4_tryColour_46 : decode cX4_tryColour 46 = .ok (.iload_n 2, 1) := by decide +kernel
theorem dX4_tryColour_47 : decode cX4_tryColour 47 = .ok (.if_icmp .eq 7, 3) := by decide +kernel
theorem dX4_tryColour_50 : decode cX4_tryColour 50 = .ok (.iconst 1, 1) := by decide +kernel
theorem dX4_tryColour_51 : decode cX4_tryColour 51 = .ok (.goto 4, 3) := by decide +kernel
theorem dX4_tryColour_54 : decode cX4_tryColour 54 = .ok (.iconst 0, 1) := by decide +kernel
theorem dX4_tryColour_55 : decode cX4_tryColour 55 = .ok (.istore 5, 2) := by decide +kernel
theorem dX4_tryColour_57 : decode cX4_tryColour 57 = .ok (.aload_n 0, 1) := by decide +kernel
theorem dX4_tryColour_58 : decode cX4_tryColour 58 = .ok (.getfield 22, 3) := by decide +kernel
theorem dX4_tryColour_61 : decode cX4_tryColour 61 = .ok (.iload_n 2, 1) := by decide +kernel
theorem dX4_tryColour_62 : decode cX4_tryColour 62 = .ok (.iaload, 1) := by decide +kernel
theorem dX4_tryColour_63 : decode cX4_tryColour 63 = .ok (.istore 6, 2) := by decide +kernel
theorem dX4_tryColour_65 : decode cX4_tryColour 65 = .ok (.aload_n 0, 1) := by decide +kernel
theorem dX4_tryColour_66 : decode cX4_tryColour 66 = .ok (.getfield 25, 3) := by decide +kernel
theorem dX4_tryColour_69 : decode cX4_tryColour 69 = .ok (.iload_n 1, 1) := by decide +kernel
theorem dX4_tryColour_70 : decode cX4_tryColour 70 = .ok (.iload_n 2, 1) := by decide +kernel
theorem dX4_tryColour_71 : decode cX4_tryColour 71 = .ok (.iastore, 1) := by decide +kernel
theorem dX4_tryColour_72 : decode cX4_tryColour 72 = .ok (.aload_n 0, 1) := by decide +kernel
theorem dX4_tryColour_73 : decode cX4_tryColour 73 = .ok (.getfield 22, 3) := by decide +kernel
theorem dX4_tryColour_76 : decode cX4_tryColour 76 = .ok (.iload_n 2, 1) := by decide +kernel
theorem dX4_tryColour_77 : decode cX4_tryColour 77 = .ok (.iload 6, 2) := by decide +kernel
theorem dX4_tryColour_79 : decode cX4_tryColour 79 = .ok (.iconst 1, 1) := by decide +kernel
theorem dX4_tryColour_80 : decode cX4_tryColour 80 = .ok (.iload_n 1, 1) := by decide +kernel
theorem dX4_tryColour_81 : decode cX4_tryColour 81 = .ok (.ishl, 1) := by decide +kernel
theorem dX4_tryColour_82 : decode cX4_tryColour 82 = .ok (.ior, 1) := by decide +kernel
theorem dX4_tryColour_83 : decode cX4_tryColour 83 = .ok (.iastore, 1) := by decide +kernel
theorem dX4_tryColour_84 : decode cX4_tryColour 84 = .ok (.aload_n 0, 1) := by decide +kernel
theorem dX4_tryColour_85 : decode cX4_tryColour 85 = .ok (.iload_n 1, 1) := by decide +kernel
theorem dX4_tryColour_86 : decode cX4_tryColour 86 = .ok (.iconst 1, 1) := by decide +kernel
theorem dX4_tryColour_87 : decode cX4_tryColour 87 = .ok (.iadd, 1) := by decide +kernel
theorem dX4_tryColour_88 : decode cX4_tryColour 88 = .ok (.iload 5, 2) := by decide +kernel
theorem dX4_tryColour_90 : decode cX4_tryColour 90 = .ok (.ifCond .eq 9, 3) := by decide +kernel
theorem dX4_tryColour_93 : decode cX4_tryColour 93 = .ok (.iload_n 3, 1) := by decide +kernel
theorem dX4_tryColour_94 : decode cX4_tryColour 94 = .ok (.iconst 1, 1) := by decide +kernel
theorem dX4_tryColour_95 : decode cX4_tryColour 95 = .ok (.iadd, 1) := by decide +kernel
