theorem dX7_pre_24 : decode cX7_pre 24 = .ok (.iload_n 2, 1) := by decide +kernel
theorem dX7_pre_25 : decode cX7_pre 25 = .ok (.iconst (-1), 1) := by decide +kernel
theorem dX7_pre_26 : decode cX7_pre 26 = .ok (.if_icmp .lt 8, 3) := by decide +kernel
theorem dX7_pre_29 : decode cX7_pre 29 = .ok (.iload_n 2, 1) := by decide +kernel
theorem dX7_pre_30 : decode cX7_pre 30 = .ok (.iconst 3, 1) := by decide +kernel
theorem dX7_pre_31 : decode cX7_pre 31 = .ok (.if_icmp .le 7, 3) := by decide +kernel
theorem dX7_pre_34 : decode cX7_pre 34 = .ok (.iconst 3, 1) := by decide +kernel
theorem dX7_pre_35 : decode cX7_pre 35 = .ok (.goto 4, 3) := by decide +kernel
theorem dX7_pre_38 : decode cX7_pre 38 = .ok (.iconst 0, 1) := by decide +kernel
theorem dX7_pre_39 : decode cX7_pre 39 = .ok (.putfield 72, 3) := by decide +kernel
theorem dX7_pre_42 : decode cX7_pre 42 = .ok (.aload_n 0, 1) := by decide +kernel
theorem dX7_pre_43 : decode cX7_pre 43 = .ok (.getfield 72, 3) := by decide +kernel
theorem dX7_pre_46 : decode cX7_pre 46 = .ok (.ifCond .gt 13, 3) := by decide +kernel
theorem dX7_pre_49 : decode cX7_pre 49 = .ok (.aload_n 0, 1) := by decide +kernel
theorem dX7_pre_50 : decode cX7_pre 50 = .ok (.getfield 20, 3) := by decide +kernel
theorem dX7_pre_53 : decode cX7_pre 53 = .ok (.iload_n 1, 1) := by decide +kernel
theorem dX7_pre_54 : decode cX7_pre 54 = .ok (.iaload, 1) := by decide +kernel
theorem dX7_pre_55 : decode cX7_pre 55 = .ok (.iload_n 2, 1) := by decide +kernel
theorem dX7_pre_56 : decode cX7_pre 56 = .ok (.if_icmp .ne 5, 3) := by decide +kernel
theorem dX7_pre_59 : decode cX7_pre 59 = .ok (.iconst 0, 1) := by decide +kernel
theorem dX7_pre_60 : decode cX7_pre 60 = .ok (.ireturn, 1) := by decide +kernel
theorem dX7_pre_61 : decode cX7_pre 61 = .ok (.aload_n 0, 1) := by decide +kernel
theorem dX7_pre_62 : decode cX7_pre 62 = .ok (.getfield 20, 3) := by decide +kernel
theorem dX7_pre_65 : decode cX7_pre 65 = .ok (.iload_n 1, 1) := by decide +kernel
theorem dX7_pre_66 : decode cX7_pre 66 = .ok (.iload_n 2, 1) := by decide +kernel
theorem dX7_pre_67 : decode cX7_pre 67 = .ok (.iastore, 1) := by decide +kernel
theorem dX7_pre_68 : decode cX7_pre 68 = .ok (.iconst 1, 1) := by decide +kernel
theorem dX7_pre_69 : decode cX7_pre 69 = .ok (.ireturn, 1) := by decide +kernel
theorem dX7_hasCut_0 : decode cX7_hasCut 0 = .ok (.iconst 0, 1) := by decide +kernel
theorem dX7_hasCut_1 : decode cX7_hasCut 1 = .ok (.istore 5, 2) := by decide +kernel
theorem dX7_hasCut_3 : decode cX7_hasCut 3 = .ok (.iconst 0, 1) := by decide +kernel
theorem dX7_hasCut_4 : decode cX7_hasCut 4 = .ok (.istore 6, 2) := by decide +kernel
theorem dX7_hasCut_6 : decode cX7_hasCut 6 = .ok (.iload 6, 2) := by decide +kernel
theorem dX7_hasCut_8 : decode cX7_hasCut 8 = .ok (.aload_n 0, 1) := by decide +kernel
theorem dX7_hasCut_9 : decode cX7_hasCut 9 = .ok (.getfield 26, 3) := by decide +kernel
theorem dX7_hasCut_12 : decode cX7_hasCut 12 = .ok (.iload_n 1, 1) := by decide +kernel
theorem dX7_hasCut_13 : decode cX7_hasCut 13 = .ok (.iaload, 1) := by decide +kernel
theorem dX7_hasCut_14 : decode cX7_hasCut 14 = .ok (.if_icmp .ge 48, 3) := by decide +kernel
theorem dX7_hasCut_17 : decode cX7_hasCut 17 = .ok (.iload 5, 2) := by decide +kernel
theorem dX7_hasCut_19 : decode cX7_hasCut 19 = .ok (.ifCond .ne 30, 3) := by decide +kernel
theorem dX7_hasCut_22 : decode cX7_hasCut 22 = .ok (.aload_n 0, 1) := by decide +kernel
theorem dX7_hasCut_23 : decode cX7_hasCut 23 = .ok (.getfield 29, 3) := by decide +kernel
theorem dX7_hasCut_26 : decode cX7_hasCut 26 = .ok (.iload_n 1, 1) := by decide +kernel
theorem dX7_hasCut_27 : decode cX7_hasCut 27 = .ok (.baload, 1) := by decide +kernel
theorem dX7_hasCut_28 : decode cX7_hasCut 28 = .ok (.iload 4, 2) := by decide +kernel
theorem dX7_hasCut_30 : decode cX7_hasCut 30 = .ok (.if_icmp .ne 23, 3) := by decide +kernel
theorem dX7_hasCut_33 : decode cX7_hasCut 33 = .ok (.aload_n 0, 1) := by decide +kernel
theorem dX7_hasCut_34 : decode cX7_hasCut 34 = .ok (.getfield 23, 3) := by decide +kernel
theorem dX7_hasCut_37 : decode cX7_hasCut 37 = .ok (.iconst 3, 1) := by decide +kernel
theorem dX7_hasCut_38 : decode cX7_hasCut 38 = .ok (.iload_n 1, 1) := by decide +kernel
theorem dX7_hasCut_39 : decode cX7_hasCut 39 = .ok (.imul, 1) := by decide +kernel
theorem dX7_hasCut_40 : decode cX7_hasCut 40 = .ok (.iload 6, 2) := by decide +kernel
theorem dX7_hasCut_42 : decode cX7_hasCut 42 = .ok (.iadd, 1) := by decide +kernel
theorem dX7_hasCut_43 : decode cX7_hasCut 43 = .ok (.laload, 1) := by decide +kernel
theorem dX7_hasCut_44 : decode cX7_hasCut 44 = .ok (.lload_n 2, 1) := by decide +kernel
theorem dX7_hasCut_45 : decode cX7_hasCut 45 = .ok (.lcmp, 1) := by decide +kernel
theorem dX7_hasCut_46 : decode cX7_hasCut 46 = .ok (.ifCond .ne 7, 3) := by decide +kernel
theorem dX7_hasCut_49 : decode cX7_hasCut 49 = .ok (.iconst 1, 1) := by decide +kernel
theorem dX7_hasCut_50 : decode cX7_hasCut 50 = .ok (.goto 4, 3) := by decide +kernel
theorem dX7_hasCut_53 : decode cX7_hasCut 53 = .ok (.iconst 0, 1) := by decide +kernel
theorem dX7_hasCut_54 : decode cX7_hasCut 54 = .ok (.istore 5, 2) := by decide +kernel
theorem dX7_hasCut_56 : decode cX7_hasCut 56 = .ok (.iinc 6 1, 3) := by decide +kernel
theorem dX7_hasCut_59 : decode cX7_hasCut 59 = .ok (.goto (-53), 3) := by decide +kernel
theorem dX7_hasCut_62 : decode cX7_hasCut 62 = .ok (.iload 5, 2) := by decide +kernel
theorem dX7_hasCut_64 : decode cX7_hasCut 64 = .ok (.ireturn, 1) := by decide +kernel
theorem dX7_isWithin_0 : decode cX7_isWithin 0 = .ok (.iload 4, 2) := by decide +kernel
theorem dX7_isWithin_2 : decode cX7_isWithin 2 = .ok (.ifCond .eq 15, 3) := by decide +kernel
theorem dX7_isWithin_5 : decode cX7_isWithin 5 = .ok (.aload_n 0, 1) := by decide +kernel
theorem dX7_isWithin_6 : decode cX7_isWithin 6 = .ok (.getfield 7, 3) := by decide +kernel
theorem dX7_isWithin_9 : decode cX7_isWithin 9 = .ok (.bipush 8, 2) := by decide +kernel
theorem dX7_isWithin_11 : decode cX7_isWithin 11 = .ok (.iload_n 1, 1) := by decide +kernel
theorem dX7_isWithin_12 : decode cX7_isWithin 12 = .ok (.imul, 1) := by decide +kernel
theorem dX7_isWithin_13 : decode cX7_isWithin 13 = .ok (.laload, 1) := by decide +kernel
theorem dX7_isWithin_14 : decode cX7_isWithin 14 = .ok (.goto 12, 3) := by decide +kernel
theorem dX7_isWithin_17 : decode cX7_isWithin 17 = .ok (.aload_n 0, 1) := by decide +kernel
theorem dX7_isWithin_18 : decode cX7_isWithin 18 = .ok (.getfield 13, 3) := by decide +kernel
theorem dX7_isWithin_21 : decode cX7_isWithin 21 = .ok (.bipush 8, 2) := by decide +kernel
theorem dX7_isWithin_23 : decode cX7_isWithin 23 = .ok (.iload_n 1, 1) := by decide +kernel
theorem dX7_isWithin_24 : decode cX7_isWithin 24 = .ok (.imul, 1) := by decide +kernel
theorem dX7_isWithin_25 : decode cX7_isWithin 25 = .ok (.laload, 1) := by decide +kernel
theorem dX7_isWithin_26 : decode cX7_isWithin 26 = .ok (.lstore 5, 2) := by decide +kernel
theorem dX7_isWithin_28 : decode cX7_isWithin 28 = .ok (.iload 4, 2) := by decide +kernel
theorem dX7_isWithin_30 : decode cX7_isWithin 30 = .ok (.ifCond .eq 17, 3) := by decide +kernel
theorem dX7_isWithin_33 : decode cX7_isWithin 33 = .ok (.aload_n 0, 1) := by decide +kernel
theorem dX7_isWithin_34 : decode cX7_isWithin 34 = .ok (.getfield 7, 3) := by decide +kernel
theorem dX7_isWithin_37 : decode cX7_isWithin 37 = .ok (.bipush 8, 2) := by decide +kernel
theorem dX7_isWithin_39 : decode cX7_isWithin 39 = .ok (.iload_n 1, 1) := by decide +kernel
theorem dX7_isWithin_40 : decode cX7_isWithin 40 = .ok (.imul, 1) := by decide +kernel
theorem dX7_isWithin_41 : decode cX7_isWithin 41 = .ok (.iconst 1, 1) := by decide +kernel
theorem dX7_isWithin_42 : decode cX7_isWithin 42 = .ok (.iadd, 1) := by decide +kernel
theorem dX7_isWithin_43 : decode cX7_isWithin 43 = .ok (.laload, 1) := by decide +kernel
theorem dX7_isWithin_44 : decode cX7_isWithin 44 = .ok (.goto 14, 3) := by decide +kernel
theorem dX7_isWithin_47 : decode cX7_isWithin 47 = .ok (.aload_n 0, 1) := by decide +kernel
theorem dX7_isWithin_48 : decode cX7_isWithin 48 = .ok (.getfield 13, 3) := by decide +kernel
theorem dX7_isWithin_51 : decode cX7_isWithin 51 = .ok (.bipush 8, 2) := by decide +kernel
theorem dX7_isWithin_53 : decode cX7_isWithin 53 = .ok (.iload_n 1, 1) := by decide +kernel
theorem dX7_isWithin_54 : decode cX7_isWithin 54 = .ok (.imul, 1) := by decide +kernel
theorem dX7_isWithin_55 : decode cX7_isWithin 55 = .ok (.iconst 1, 1) := by decide +kernel
theorem dX7_isWithin_56 : decode cX7_isWithin 56 = .ok (.iadd, 1) := by decide +kernel
theorem dX7_isWithin_57 : decode cX7_isWithin 57 = .ok (.laload, 1) := by decide +kernel
theorem dX7_isWithin_58 : decode cX7_isWithin 58 = .ok (.lstore 7, 2) := by decide +kernel
theorem dX7_isWithin_60 : decode cX7_isWithin 60 = .ok (.lload_n 2, 1) := by decide +kernel
theorem dX7_isWithin_61 : decode cX7_isWithin 61 = .ok (.lload 5, 2) := by decide +kernel
theorem dX7_isWithin_63 : decode cX7_isWithin 63 = .ok (.lload 7, 2) := by decide +kernel
theorem dX7_isWithin_65 : decode cX7_isWithin 65 = .ok (.invokestatic 101, 3) := by decide +kernel
theorem dX7_isWithin_68 : decode cX7_isWithin 68 = .ok (.lcmp, 1) := by decide +kernel
theorem dX7_isWithin_69 : decode cX7_isWithin 69 = .ok (.ifCond .le 19, 3) := by decide +kernel
theorem dX7_isWithin_72 : decode cX7_isWithin 72 = .ok (.lload_n 2, 1) := by decide +kernel
theorem dX7_isWithin_73 : decode cX7_isWithin 73 = .ok (.lload 5, 2) := by decide +kernel
theorem dX7_isWithin_75 : decode cX7_isWithin 75 = .ok (.lload 7, 2) := by decide +kernel
theorem dX7_isWithin_77 : decode cX7_isWithin 77 = .ok (.invokestatic 105, 3) := by decide +kernel
theorem dX7_isWithin_80 : decode cX7_isWithin 80 = .ok (.lcmp, 1) := by decide +kernel
theorem dX7_isWithin_81 : decode cX7_isWithin 81 = .ok (.ifCond .ge 7, 3) := by decide +kernel
theorem dX7_isWithin_84 : decode cX7_isWithin 84 = .ok (.iconst 1, 1) := by decide +kernel
theorem dX7_isWithin_85 : decode cX7_isWithin 85 = .ok (.goto 4, 3) := by decide +kernel
theorem dX7_isWithin_88 : decode cX7_isWithin 88 = .ok (.iconst 0, 1) := by decide +kernel
theorem dX7_isWithin_89 : decode cX7_isWithin 89 = .ok (.ireturn, 1) := by decide +kernel
theorem dX7_stitch_0 : decode cX7_stitch 0 = .ok (.aload_n 0, 1) := by decide +kernel
theorem dX7_stitch_1 : decode cX7_stitch 1 = .ok (.aload_n 0, 1) := by decide +kernel
theorem dX7_stitch_2 : decode cX7_stitch 2 = .ok (.iload_n 1, 1) := by decide +kernel
theorem dX7_stitch_3 : decode cX7_stitch 3 = .ok (.invokevirtual 83, 3) := by decide +kernel
theorem dX7_stitch_6 : decode cX7_stitch 6 = .ok (.ifCond .ne 7, 3) := by decide +kernel
theorem dX7_stitch_9 : decode cX7_stitch 9 = .ok (.iconst 1, 1) := by decide +kernel
theorem dX7_stitch_10 : decode cX7_stitch 10 = .ok (.goto 15, 3) := by decide +kernel
theorem dX7_stitch_13 : decode cX7_stitch 13 = .ok (.aload_n 0, 1) := by decide +kernel
theorem dX7_stitch_14 : decode cX7_stitch 14 = .ok (.invokevirtual 124, 3) := by decide +kernel
theorem dX7_stitch_17 : decode cX7_stitch 17 = .ok (.ifCond .eq 7, 3) := by decide +kernel
theorem dX7_stitch_20 : decode cX7_stitch 20 = .ok (.iconst 2, 1) := by decide +kernel
theorem dX7_stitch_21 : decode cX7_stitch 21 = .ok (.goto 4, 3) := by decide +kernel
theorem dX7_stitch_24 : decode cX7_stitch 24 = .ok (.iconst 0, 1) := by decide +kernel
theorem dX7_stitch_25 : decode cX7_stitch 25 = .ok (.putfield 72, 3) := by decide +kernel
theorem dX7_stitch_28 : decode cX7_stitch 28 = .ok (.aload_n 0, 1) := by decide +kernel
theorem dX7_stitch_29 : decode cX7_stitch 29 = .ok (.getfield 72, 3) := by decide +kernel
theorem dX7_stitch_32 : decode cX7_stitch 32 = .ok (.ifCond .le 5, 3) := by decide +kernel
theorem dX7_stitch_35 : decode cX7_stitch 35 = .ok (.iconst 0, 1) := by decide +kernel
theorem dX7_stitch_36 : decode cX7_stitch 36 = .ok (.ireturn, 1) := by decide +kernel
theorem dX7_stitch_37 : decode cX7_stitch 37 = .ok (.aload_n 0, 1) := by decide +kernel
theorem dX7_stitch_38 : decode cX7_stitch 38 = .ok (.iload_n 1, 1) := by decide +kernel
theorem dX7_stitch_39 : decode cX7_stitch 39 = .ok (.lload_n 2, 1) := by decide +kernel
theorem dX7_stitch_40 : decode cX7_stitch 40 = .ok (.iload 4, 2) := by decide +kernel
theorem dX7_stitch_42 : decode cX7_stitch 42 = .ok (.invokevirtual 131, 3) := by decide +kernel
theorem dX7_stitch_45 : decode cX7_stitch 45 = .ok (.istore 5, 2) := by decide +kernel
theorem dX7_stitch_47 : decode cX7_stitch 47 = .ok (.aload_n 0, 1) := by decide +kernel
theorem dX7_stitch_48 : decode cX7_stitch 48 = .ok (.aload_n 0, 1) := by decide +kernel
theorem dX7_stitch_49 : decode cX7_stitch 49 = .ok (.getfield 16, 3) := by decide +kernel
theorem dX7_stitch_52 : decode cX7_stitch 52 = .ok (.iload_n 1, 1) := by decide +kernel
theorem dX7_stitch_53 : decode cX7_stitch 53 = .ok (.iaload, 1) := by decide +kernel
theorem dX7_stitch_54 : decode cX7_stitch 54 = .ok (.iconst 2, 1) := by decide +kernel
theorem dX7_stitch_55 : decode cX7_stitch 55 = .ok (.if_icmp .ne 27, 3) := by decide +kernel
theorem dX7_stitch_58 : decode cX7_stitch 58 = .ok (.iload 5, 2) := by decide +kernel
theorem dX7_stitch_60 : decode cX7_stitch 60 = .ok (.ifCond .ne 26, 3) := by decide +kernel
theorem dX7_stitch_63 : decode cX7_stitch 63 = .ok (.aload_n 0, 1) := by decide +kernel
theorem dX7_stitch_64 : decode cX7_stitch 64 = .ok (.getfield 26, 3) := by decide +kernel
theorem dX7_stitch_67 : decode cX7_stitch 67 = .ok (.iload_n 1, 1) := by decide +kernel
theorem dX7_stitch_68 : decode cX7_stitch 68 = .ok (.iaload, 1) := by decide +kernel
theorem dX7_stitch_69 : decode cX7_stitch 69 = .ok (.iconst 3, 1) := by decide +kernel
theorem dX7_stitch_70 : decode cX7_stitch 70 = .ok (.if_icmp .eq 12, 3) := by decide +kernel
theorem dX7_stitch_73 : decode cX7_stitch 73 = .ok (.aload_n 0, 1) := by decide +kernel
theorem dX7_stitch_74 : decode cX7_stitch 74 = .ok (.invokevirtual 79, 3) := by decide +kernel
theorem dX7_stitch_77 : decode cX7_stitch 77 = .ok (.bipush 12, 2) := by decide +kernel
theorem dX7_stitch_79 : decode cX7_stitch 79 = .ok (.if_icmp .ne 7, 3) := by decide +kernel
theorem dX7_stitch_82 : decode cX7_stitch 82 = .ok (.iconst 2, 1) := by decide +kernel
theorem dX7_stitch_83 : decode cX7_stitch 83 = .ok (.goto 39, 3) := by decide +kernel
theorem dX7_stitch_86 : decode cX7_stitch 86 = .ok (.aload_n 0, 1) := by decide +kernel
theorem dX7_stitch_87 : decode cX7_stitch 87 = .ok (.iload_n 1, 1) := by decide +kernel
theorem dX7_stitch_88 : decode cX7_stitch 88 = .ok (.lload_n 2, 1) := by decide +kernel
theorem dX7_stitch_89 : decode cX7_stitch 89 = .ok (.iload 4, 2) := by decide +kernel
theorem dX7_stitch_91 : decode cX7_stitch 91 = .ok (.invokevirtual 135, 3) := by decide +kernel
theorem dX7_stitch_94 : decode cX7_stitch 94 = .ok (.ifCond .eq 23, 3) := by decide +kernel
theorem dX7_stitch_97 : decode cX7_stitch 97 = .ok (.aload_n 0, 1) := by decide +kernel
theorem dX7_stitch_98 : decode cX7_stitch 98 = .ok (.getfield 26, 3) := by decide +kernel
theorem dX7_stitch_101 : decode cX7_stitch 101 = .ok (.iload_n 1, 1) := by decide +kernel
theorem dX7_stitch_102 : decode cX7_stitch 102 = .ok (.iaload, 1) := by decide +kernel
theorem dX7_stitch_103 : decode cX7_stitch 103 = .ok (.ifCond .le 18, 3) := by decide +kernel
theorem dX7_stitch_106 : decode cX7_stitch 106 = .ok (.aload_n 0, 1) := by decide +kernel
theorem dX7_stitch_107 : decode cX7_stitch 107 = .ok (.getfield 29, 3) := by decide +kernel
theorem dX7_stitch_110 : decode cX7_stitch 110 = .ok (.iload_n 1, 1) := by decide +kernel
theorem dX7_stitch_111 : decode cX7_stitch 111 = .ok (.baload, 1) := by decide +kernel
theorem dX7_stitch_112 : decode cX7_stitch 112 = .ok (.iload 4, 2) := by decide +kernel
theorem dX7_stitch_114 : decode cX7_stitch 114 = .ok (.if_icmp .eq 7, 3) := by decide +kernel
theorem dX7_stitch_117 : decode cX7_stitch 117 = .ok (.iconst 3, 1) := by decide +kernel
theorem dX7_stitch_118 : decode cX7_stitch 118 = .ok (.goto 4, 3) := by decide +kernel
theorem dX7_stitch_121 : decode cX7_stitch 121 = .ok (.iconst 0, 1) := by decide +kernel
theorem dX7_stitch_122 : decode cX7_stitch 122 = .ok (.putfield 72, 3) := by decide +kernel
theorem dX7_stitch_125 : decode cX7_stitch 125 = .ok (.aload_n 0, 1) := by decide +kernel
theorem dX7_stitch_126 : decode cX7_stitch 126 = .ok (.getfield 72, 3) := by decide +kernel
theorem dX7_stitch_129 : decode cX7_stitch 129 = .ok (.ifCond .gt 8, 3) := by decide +kernel
theorem dX7_stitch_132 : decode cX7_stitch 132 = .ok (.iload 5, 2) := by decide +kernel
theorem dX7_stitch_134 : decode cX7_stitch 134 = .ok (.ifCond .eq 5, 3) := by decide +kernel
theorem dX7_stitch_137 : decode cX7_stitch 137 = .ok (.iconst 0, 1) := by decide +kernel
theorem dX7_stitch_138 : decode cX7_stitch 138 = .ok (.ireturn, 1) := by decide +kernel
theorem dX7_stitch_139 : decode cX7_stitch 139 = .ok (.aload_n 0, 1) := by decide +kernel
theorem dX7_stitch_140 : decode cX7_stitch 140 = .ok (.getfield 26, 3) := by decide +kernel
theorem dX7_stitch_143 : decode cX7_stitch 143 = .ok (.iload_n 1, 1) := by decide +kernel
theorem dX7_stitch_144 : decode cX7_stitch 144 = .ok (.iaload, 1) := by decide +kernel
theorem dX7_stitch_145 : decode cX7_stitch 145 = .ok (.istore 6, 2) := by decide +kernel
theorem dX7_stitch_147 : decode cX7_stitch 147 = .ok (.iload 6, 2) := by decide +kernel
theorem dX7_stitch_149 : decode cX7_stitch 149 = .ok (.ifCond .le 51, 3) := by decide +kernel
theorem dX7_stitch_152 : decode cX7_stitch 152 = .ok (.aload_n 0, 1) := by decide +kernel
theorem dX7_stitch_153 : decode cX7_stitch 153 = .ok (.getfield 23, 3) := by decide +kernel
theorem dX7_stitch_156 : decode cX7_stitch 156 = .ok (.iconst 3, 1) := by decide +kernel
theorem dX7_stitch_157 : decode cX7_stitch 157 = .ok (.iload_n 1, 1) := by decide +kernel
theorem dX7_stitch_158 : decode cX7_stitch 158 = .ok (.imul, 1) := by decide +kernel
theorem dX7_stitch_159 : decode cX7_stitch 159 = .ok (.iload 6, 2) := by decide +kernel
theorem dX7_stitch_161 : decode cX7_stitch 161 = .ok (.iadd, 1) := by decide +kernel
theorem dX7_stitch_162 : decode cX7_stitch 162 = .ok (.iconst 1, 1) := by decide +kernel
theorem dX7_stitch_163 : decode cX7_stitch 163 = .ok (.isub, 1) := by decide +kernel
theorem dX7_stitch_164 : decode cX7_stitch 164 = .ok (.laload, 1) := by decide +kernel
theorem dX7_stitch_165 : decode cX7_stitch 165 = .ok (.lload_n 2, 1) := by decide +kernel
theorem dX7_stitch_166 : decode cX7_stitch 166 = .ok (.lcmp, 1) := by decide +kernel
theorem dX7_stitch_167 : decode cX7_stitch 167 = .ok (.ifCond .le 33, 3) := by decide +kernel
theorem dX7_stitch_170 : decode cX7_stitch 170 = .ok (.aload_n 0, 1) := by decide +kernel
theorem dX7_stitch_171 : decode cX7_stitch 171 = .ok (.getfield 23, 3) := by decide +kernel
theorem dX7_stitch_174 : decode cX7_stitch 174 = .ok (.iconst 3, 1) := by decide +kernel
theorem dX7_stitch_175 : decode cX7_stitch 175 = .ok (.iload_n 1, 1) := by decide +kernel
theorem dX7_stitch_176 : decode cX7_stitch 176 = .ok (.imul, 1) := by decide +kernel
theorem dX7_stitch_177 : decode cX7_stitch 177 = .ok (.iload 6, 2) := by decide +kernel
theorem dX7_stitch_179 : decode cX7_stitch 179 = .ok (.iadd, 1) := by decide +kernel
theorem dX7_stitch_180 : decode cX7_stitch 180 = .ok (.aload_n 0, 1) := by decide +kernel
theorem dX7_stitch_181 : decode cX7_stitch 181 = .ok (.getfield 23, 3) := by decide +kernel
theorem dX7_stitch_184 : decode cX7_stitch 184 = .ok (.iconst 3, 1) := by decide +kernel
theorem dX7_stitch_185 : decode cX7_stitch 185 = .ok (.iload_n 1, 1) := by decide +kernel
theorem dX7_stitch_186 : decode cX7_stitch 186 = .ok (.imul, 1) := by decide +kernel
theorem dX7_stitch_187 : decode cX7_stitch 187 = .ok (.iload 6, 2) := by decide +kernel
theorem dX7_stitch_189 : decode cX7_stitch 189 = .ok (.iadd, 1) := by decide +kernel
theorem dX7_stitch_190 : decode cX7_stitch 190 = .ok (.iconst 1, 1) := by decide +kernel
theorem dX7_stitch_191 : decode cX7_stitch 191 = .ok (.isub, 1) := by decide +kernel
theorem dX7_stitch_192 : decode cX7_stitch 192 = .ok (.laload, 1) := by decide +kernel
theorem dX7_stitch_193 : decode cX7_stitch 193 = .ok (.lastore, 1) := by decide +kernel
theorem dX7_stitch_194 : decode cX7_stitch 194 = .ok (.iinc 6 (-1), 3) := by decide +kernel
theorem dX7_stitch_197 : decode cX7_stitch 197 = .ok (.goto (-50), 3) := by decide +kernel
theorem dX7_stitch_200 : decode cX7_stitch 200 = .ok (.aload_n 0, 1) := by decide +kernel
theorem dX7_stitch_201 : decode cX7_stitch 201 = .ok (.getfield 23, 3) := by decide +kernel
theorem dX7_stitch_204 : decode cX7_stitch 204 = .ok (.iconst 3, 1) := by decide +kernel
theorem dX7_stitch_205 : decode cX7_stitch 205 = .ok (.iload_n 1, 1) := by decide +kernel
theorem dX7_stitch_206 : decode cX7_stitch 206 = .ok (.imul, 1) := by decide +kernel
theorem dX7_stitch_207 : decode cX7_stitch 207 = .ok (.iload 6, 2) := by decide +kernel
theorem dX7_stitch_209 : decode cX7_stitch 209 = .ok (.iadd, 1) := by decide +kernel
theorem dX7_stitch_210 : decode cX7_stitch 210 = .ok (.lload_n 2, 1) := by decide +kernel
theorem dX7_stitch_211 : decode cX7_stitch 211 = .ok (.lastore, 1) := by decide +kernel
theorem dX7_stitch_212 : decode cX7_stitch 212 = .ok (.aload_n 0, 1) := by decide +kernel
theorem dX7_stitch_213 : decode cX7_stitch 213 = .ok (.getfield 26, 3) := by decide +kernel
theorem dX7_stitch_216 : decode cX7_stitch 216 = .ok (.iload_n 1, 1) := by decide +kernel
theorem dX7_stitch_217 : decode cX7_stitch 217 = .ok (.dup2, 1) := by decide +kernel
theorem dX7_stitch_218 : decode cX7_stitch 218 = .ok (.iaload, 1) := by decide +kernel
theorem dX7_stitch_219 : decode cX7_stitch 219 = .ok (.iconst 1, 1) := by decide +kernel
theorem dX7_stitch_220 : decode cX7_stitch 220 = .ok (.iadd, 1) := by decide +kernel
theorem dX7_stitch_221 : decode cX7_stitch 221 = .ok (.iastore, 1) := by decide +kernel
theorem dX7_stitch_222 : decode cX7_stitch 222 = .ok (.aload_n 0, 1) := by decide +kernel
theorem dX7_stitch_223 : decode cX7_stitch 223 = .ok (.getfield 29, 3) := by decide +kernel
theorem dX7_stitch_226 : decode cX7_stitch 226 = .ok (.iload_n 1, 1) := by decide +kernel
theorem dX7_stitch_227 : decode cX7_stitch 227 = .ok (.iload 4, 2) := by decide +kernel
theorem dX7_stitch_229 : decode cX7_stitch 229 = .ok (.bastore, 1) := by decide +kernel
theorem dX7_stitch_230 : decode cX7_stitch 230 = .ok (.iconst 1, 1) := by decide +kernel
theorem dX7_stitch_231 : decode cX7_stitch 231 = .ok (.ireturn, 1) := by decide +kernel
theorem dX7_part_0 : decode cX7_part 0 = .ok (.aload_n 0, 1) := by decide +kernel
theorem dX7_part_1 : decode cX7_part 1 = .ok (.iconst 0, 1) := by decide +kernel
theorem dX7_part_2 : decode cX7_part 2 = .ok (.putfield 138, 3) := by decide +kernel
theorem dX7_part_5 : decode cX7_part 5 = .ok (.iconst 0, 1) := by decide +kernel
theorem dX7_part_6 : decode cX7_part 6 = .ok (.istore_n 1, 1) := by decide +kernel
theorem dX7_part_7 : decode cX7_part 7 = .ok (.iload_n 1, 1) := by decide +kernel
theorem dX7_part_8 : decode cX7_part 8 = .ok (.aload_n 0, 1) := by decide +kernel
theorem dX7_part_9 : decode cX7_part 9 = .ok (.getfield 76, 3) := by decide +kernel
theorem dX7_part_12 : decode cX7_part 12 = .ok (.if_icmp .ge 57, 3) := by decide +kernel
theorem dX7_part_15 : decode cX7_part 15 = .ok (.iconst 0, 1) := by decide +kernel
theorem dX7_part_16 : decode cX7_part 16 = .ok (.istore_n 2, 1) := by decide +kernel
theorem dX7_part_17 : decode cX7_part 17 = .ok (.iload_n 2, 1) := by decide +kernel
theorem dX7_part_18 : decode cX7_part 18 = .ok (.aload_n 0, 1) := by decide +kernel
theorem dX7_part_19 : decode cX7_part 19 = .ok (.getfield 26, 3) := by decide +kernel
theorem dX7_part_22 : decode cX7_part 22 = .ok (.iload_n 1, 1) := by decide +kernel
theorem dX7_part_23 : decode cX7_part 23 = .ok (.iaload, 1) := by decide +kernel
theorem dX7_part_24 : decode cX7_part 24 = .ok (.if_icmp .gt 39, 3) := by decide +kernel
theorem dX7_part_27 : decode cX7_part 27 = .ok (.aload_n 0, 1) := by decide +kernel
theorem dX7_part_28 : decode cX7_part 28 = .ok (.getfield 33, 3) := by decide +kernel
theorem dX7_part_31 : decode cX7_part 31 = .ok (.aload_n 0, 1) := by decide +kernel
theorem dX7_part_32 : decode cX7_part 32 = .ok (.getfield 138, 3) := by decide +kernel
theorem dX7_part_35 : decode cX7_part 35 = .ok (.iload_n 1, 1) := by decide +kernel
theorem dX7_part_36 : decode cX7_part 36 = .ok (.iastore, 1) := by decide +kernel
theorem dX7_part_37 : decode cX7_part 37 = .ok (.aload_n 0, 1) := by decide +kernel
theorem dX7_part_38 : decode cX7_part 38 = .ok (.getfield 36, 3) := by decide +kernel
theorem dX7_part_41 : decode cX7_part 41 = .ok (.aload_n 0, 1) := by decide +kernel
theorem dX7_part_42 : decode cX7_part 42 = .ok (.getfield 138, 3) := by decide +kernel
theorem dX7_part_45 : decode cX7_part 45 = .ok (.iload_n 2, 1) := by decide +kernel
theorem dX7_part_46 : decode cX7_part 46 = .ok (.iastore, 1) := by decide +kernel
theorem dX7_part_47 : decode cX7_part 47 = .ok (.aload_n 0, 1) := by decide +kernel
theorem dX7_part_48 : decode cX7_part 48 = .ok (.dup, 1) := by decide +kernel
theorem dX7_part_49 : decode cX7_part 49 = .ok (.getfield 138, 3) := by decide +kernel
theorem dX7_part_52 : decode cX7_part 52 = .ok (.iconst 1, 1) := by decide +kernel
theorem dX7_part_53 : decode cX7_part 53 = .ok (.iadd, 1) := by decide +kernel
theorem dX7_part_54 : decode cX7_part 54 = .ok (.putfield 138, 3) := by decide +kernel
theorem dX7_part_57 : decode cX7_part 57 = .ok (.iinc 2 1, 3) := by decide +kernel
theorem dX7_part_60 : decode cX7_part 60 = .ok (.goto (-43), 3) := by decide +kernel
theorem dX7_part_63 : decode cX7_part 63 = .ok (.iinc 1 1, 3) := by decide +kernel
theorem dX7_part_66 : decode cX7_part 66 = .ok (.goto (-59), 3) := by decide +kernel
theorem dX7_part_69 : decode cX7_part 69 = .ok (.iconst 0, 1) := by decide +kernel
theorem dX7_part_70 : decode cX7_part 70 = .ok (.istore_n 1, 1) := by decide +kernel
theorem dX7_part_71 : decode cX7_part 71 = .ok (.iload_n 1, 1) := by decide +kernel
theorem dX7_part_72 : decode cX7_part 72 = .ok (.aload_n 0, 1) := by decide +kernel
theorem dX7_part_73 : decode cX7_part 73 = .ok (.getfield 138, 3) := by decide +kernel
theorem dX7_part_76 : decode cX7_part 76 = .ok (.if_icmp .ge 87, 3) := by decide +kernel
theorem dX7_part_79 : decode cX7_part 79 = .ok (.iconst 0, 1) := by decide +kernel
theorem dX7_part_80 : decode cX7_part 80 = .ok (.istore_n 2, 1) := by decide +kernel
theorem dX7_part_81 : decode cX7_part 81 = .ok (.iload_n 2, 1) := by decide +kernel
theorem dX7_part_82 : decode cX7_part 82 = .ok (.aload_n 0, 1) := by decide +kernel
theorem dX7_part_83 : decode cX7_part 83 = .ok (.getfield 138, 3) := by decide +kernel
theorem dX7_part_86 : decode cX7_part 86 = .ok (.if_icmp .ge 71, 3) := by decide +kernel
theorem dX7_part_89 : decode cX7_part 89 = .ok (.aload_n 0, 1) := by decide +kernel
theorem dX7_part_90 : decode cX7_part 90 = .ok (.getfield 39, 3) := by decide +kernel
theorem dX7_part_93 : decode cX7_part 93 = .ok (.bipush 12, 2) := by decide +kernel
theorem dX7_part_95 : decode cX7_part 95 = .ok (.iload_n 1, 1) := by decide +kernel
theorem dX7_part_96 : decode cX7_part 96 = .ok (.imul, 1) := by decide +kernel
theorem dX7_part_97 : decode cX7_part 97 = .ok (.iload_n 2, 1) := by decide +kernel
theorem dX7_part_98 : decode cX7_part 98 = .ok (.iadd, 1) := by decide +kernel
theorem dX7_part_99 : decode cX7_part 99 = .ok (.aload_n 0, 1) := by decide +kernel
theorem dX7_part_100 : decode cX7_part 100 = .ok (.getfield 33, 3) := by decide +kernel
theorem dX7_part_103 : decode cX7_part 103 = .ok (.iload_n 1, 1) := by decide +kernel
theorem dX7_part_104 : decode cX7_part 104 = .ok (.iaload, 1) := by decide +kernel
theorem dX7_part_105 : decode cX7_part 105 = .ok (.aload_n 0, 1) := by decide +kernel
theorem dX7_part_106 : decode cX7_part 106 = .ok (.getfield 33, 3) := by decide +kernel
theorem dX7_part_109 : decode cX7_part 109 = .ok (.iload_n 2, 1) := by decide +kernel
theorem dX7_part_110 : decode cX7_part 110 = .ok (.iaload, 1) := by decide +kernel
theorem dX7_part_111 : decode cX7_part 111 = .ok (.if_icmp .eq 38, 3) := by decide +kernel
theorem dX7_part_114 : decode cX7_part 114 = .ok (.aload_n 0, 1) := by decide +kernel
theorem dX7_part_115 : decode cX7_part 115 = .ok (.aload_n 0, 1) := by decide +kernel
theorem dX7_part_116 : decode cX7_part 116 = .ok (.getfield 33, 3) := by decide +kernel
theorem dX7_part_119 : decode cX7_part 119 = .ok (.iload_n 1, 1) := by decide +kernel
theorem dX7_part_120 : decode cX7_part 120 = .ok (.iaload, 1) := by decide +kernel
theorem dX7_part_121 : decode cX7_part 121 = .ok (.aload_n 0, 1) := by decide +kernel
theorem dX7_part_122 : decode cX7_part 122 = .ok (.getfield 36, 3) := by decide +kernel
theorem dX7_part_125 : decode cX7_part 125 = .ok (.iload_n 1, 1) := by decide +kernel
theorem dX7_part_126 : decode cX7_part 126 = .ok (.iaload, 1) := by decide +kernel
theorem dX7_part_127 : decode cX7_part 127 = .ok (.aload_n 0, 1) := by decide +kernel
theorem dX7_part_128 : decode cX7_part 128 = .ok (.getfield 33, 3) := by decide +kernel
theorem dX7_part_131 : decode cX7_part 131 = .ok (.iload_n 2, 1) := by decide +kernel
theorem dX7_part_132 : decode cX7_part 132 = .ok (.iaload, 1) := by decide +kernel
theorem dX7_part_133 : decode cX7_part 133 = .ok (.aload_n 0, 1) := by decide +kernel
theorem dX7_part_134 : decode cX7_part 134 = .ok (.getfield 36, 3) := by decide +kernel
theorem dX7_part_137 : decode cX7_part 137 = .ok (.iload_n 2, 1) := by decide +kernel
theorem dX7_part_138 : decode cX7_part 138 = .ok (.iaload, 1) := by decide +kernel
theorem dX7_part_139 : decode cX7_part 139 = .ok (.invokevirtual 120, 3) := by decide +kernel
theorem dX7_part_142 : decode cX7_part 142 = .ok (.ifCond .eq 7, 3) := by decide +kernel
theorem dX7_part_145 : decode cX7_part 145 = .ok (.iconst 1, 1) := by decide +kernel
theorem dX7_part_146 : decode cX7_part 146 = .ok (.goto 4, 3) := by decide +kernel
theorem dX7_part_149 : decode cX7_part 149 = .ok (.iconst 0, 1) := by decide +kernel
theorem dX7_part_150 : decode cX7_part 150 = .ok (.bastore, 1) := by decide +kernel
theorem dX7_part_151 : decode cX7_part 151 = .ok (.iinc 2 1, 3) := by decide +kernel
theorem dX7_part_154 : decode cX7_part 154 = .ok (.goto (-73), 3) := by decide +kernel
theorem dX7_part_157 : decode cX7_part 157 = .ok (.iinc 1 1, 3) := by decide +kernel
theorem dX7_part_160 : decode cX7_part 160 = .ok (.goto (-89), 3) := by decide +kernel
theorem dX7_part_163 : decode cX7_part 163 = .ok (.return_, 1) := by decide +kernel
theorem dX7_usedUpTo_0 : decode cX7_usedUpTo 0 = .ok (.iconst 0, 1) := by decide +kernel
theorem dX7_usedUpTo_1 : decode cX7_usedUpTo 1 = .ok (.istore_n 2, 1) := by decide +kernel
theorem dX7_usedUpTo_2 : decode cX7_usedUpTo 2 = .ok (.iconst 1, 1) := by decide +kernel
theorem dX7_usedUpTo_3 : decode cX7_usedUpTo 3 = .ok (.istore_n 3, 1) := by decide +kernel
theorem dX7_usedUpTo_4 : decode cX7_usedUpTo 4 = .ok (.iload_n 3, 1) := by decide +kernel
theorem dX7_usedUpTo_5 : decode cX7_usedUpTo 5 = .ok (.iload_n 1, 1) := by decide +kernel
theorem dX7_usedUpTo_6 : decode cX7_usedUpTo 6 = .ok (.if_icmp .ge 51, 3) := by decide +kernel
theorem dX7_usedUpTo_9 : decode cX7_usedUpTo 9 = .ok (.iload_n 2, 1) := by decide +kernel
theorem dX7_usedUpTo_10 : decode cX7_usedUpTo 10 = .ok (.aload_n 0, 1) := by decide +kernel
theorem dX7_usedUpTo_11 : decode cX7_usedUpTo 11 = .ok (.getfield 33, 3) := by decide +kernel
theorem dX7_usedUpTo_14 : decode cX7_usedUpTo 14 = .ok (.iload_n 3, 1) := by decide +kernel
theorem dX7_usedUpTo_15 : decode cX7_usedUpTo 15 = .ok (.iaload, 1) := by decide +kernel
theorem dX7_usedUpTo_16 : decode cX7_usedUpTo 16 = .ok (.aload_n 0, 1) := by decide +kernel
theorem dX7_usedUpTo_17 : decode cX7_usedUpTo 17 = .ok (.getfield 33, 3) := by decide +kernel
theorem dX7_usedUpTo_20 : decode cX7_usedUpTo 20 = .ok (.iload_n 3, 1) := by decide +kernel
theorem dX7_usedUpTo_21 : decode cX7_usedUpTo 21 = .ok (.iconst 1, 1) := by decide +kernel
theorem dX7_usedUpTo_22 : decode cX7_usedUpTo 22 = .ok (.isub, 1) := by decide +kernel
theorem dX7_usedUpTo_23 : decode cX7_usedUpTo 23 = .ok (.iaload, 1) := by decide +kernel
theorem dX7_usedUpTo_24 : decode cX7_usedUpTo 24 = .ok (.if_icmp .ne 24, 3) := by decide +kernel
theorem dX7_usedUpTo_27 : decode cX7_usedUpTo 27 = .ok (.aload_n 0, 1) := by decide +kernel
theorem dX7_usedUpTo_28 : decode cX7_usedUpTo 28 = .ok (.getfield 48, 3) := by decide +kernel
theorem dX7_usedUpTo_31 : decode cX7_usedUpTo 31 = .ok (.iload_n 3, 1) := by decide +kernel
theorem dX7_usedUpTo_32 : decode cX7_usedUpTo 32 = .ok (.iaload, 1) := by decide +kernel
theorem dX7_usedUpTo_33 : decode cX7_usedUpTo 33 = .ok (.aload_n 0, 1) := by decide +kernel
theorem dX7_usedUpTo_34 : decode cX7_usedUpTo 34 = .ok (.getfield 48, 3) := by decide +kernel
theorem dX7_usedUpTo_37 : decode cX7_usedUpTo 37 = .ok (.iload_n 3, 1) := by decide +kernel
theorem dX7_usedUpTo_38 : decode cX7_usedUpTo 38 = .ok (.iconst 1, 1) := by decide +kernel
theorem dX7_usedUpTo_39 : decode cX7_usedUpTo 39 = .ok (.isub, 1) := by decide +kernel
theorem dX7_usedUpTo_40 : decode cX7_usedUpTo 40 = .ok (.iaload, 1) := by decide +kernel
theorem dX7_usedUpTo_41 : decode cX7_usedUpTo 41 = .ok (.if_icmp .eq 7, 3) := by decide +kernel
theorem dX7_usedUpTo_44 : decode cX7_usedUpTo 44 = .ok (.iconst 1, 1) := by decide +kernel
theorem dX7_usedUpTo_45 : decode cX7_usedUpTo 45 = .ok (.goto 4, 3) := by decide +kernel
theorem dX7_usedUpTo_48 : decode cX7_usedUpTo 48 = .ok (.iconst 0, 1) := by decide +kernel
theorem dX7_usedUpTo_49 : decode cX7_usedUpTo 49 = .ok (.iadd, 1) := by decide +kernel
theorem dX7_usedUpTo_50 : decode cX7_usedUpTo 50 = .ok (.istore_n 2, 1) := by decide +kernel
theorem dX7_usedUpTo_51 : decode cX7_usedUpTo 51 = .ok (.iinc 3 1, 3) := by decide +kernel
theorem dX7_usedUpTo_54 : decode cX7_usedUpTo 54 = .ok (.goto (-50), 3) := by decide +kernel
theorem dX7_usedUpTo_57 : decode cX7_usedUpTo 57 = .ok (.iload_n 2, 1) := by decide +kernel
theorem dX7_usedUpTo_58 : decode cX7_usedUpTo 58 = .ok (.ireturn, 1) := by decide +kernel
theorem dX7_fits_0 : decode cX7_fits 0 = .ok (.aload_n 0, 1) := by decide +kernel
theorem dX7_fits_1 : decode cX7_fits 1 = .ok (.getfield 20, 3) := by decide +kernel
theorem dX7_fits_4 : decode cX7_fits 4 = .ok (.aload_n 0, 1) := by decide +kernel
theorem dX7_fits_5 : decode cX7_fits 5 = .ok (.getfield 33, 3) := by decide +kernel
theorem dX7_fits_8 : decode cX7_fits 8 = .ok (.iload_n 1, 1) := by decide +kernel
theorem dX7_fits_9 : decode cX7_fits 9 = .ok (.iaload, 1) := by decide +kernel
theorem dX7_fits_10 : decode cX7_fits 10 = .ok (.iaload, 1) := by decide +kernel
theorem dX7_fits_11 : decode cX7_fits 11 = .ok (.istore_n 3, 1) := by decide +kernel
theorem dX7_fits_12 : decode cX7_fits 12 = .ok (.iload_n 3, 1) := by decide +kernel
theorem dX7_fits_13 : decode cX7_fits 13 = .ok (.iconst (-1), 1) := by decide +kernel
theorem dX7_fits_14 : decode cX7_fits 14 = .ok (.if_icmp .eq 13, 3) := by decide +kernel
theorem dX7_fits_17 : decode cX7_fits 17 = .ok (.aload_n 0, 1) := by decide +kernel
theorem dX7_fits_18 : decode cX7_fits 18 = .ok (.getfield 48, 3) := by decide +kernel
theorem dX7_fits_21 : decode cX7_fits 21 = .ok (.iload_n 1, 1) := by decide +kernel
theorem dX7_fits_22 : decode cX7_fits 22 = .ok (.iaload, 1) := by decide +kernel
theorem dX7_fits_23 : decode cX7_fits 23 = .ok (.iload_n 3, 1) := by decide +kernel
theorem dX7_fits_24 : decode cX7_fits 24 = .ok (.if_icmp .ne 7, 3) := by decide +kernel
theorem dX7_fits_27 : decode cX7_fits 27 = .ok (.iconst 1, 1) := by decide +kernel
theorem dX7_fits_28 : decode cX7_fits 28 = .ok (.goto 4, 3) := by decide +kernel
theorem dX7_fits_31 : decode cX7_fits 31 = .ok (.iconst 0, 1) := by decide +kernel
theorem dX7_fits_32 : decode cX7_fits 32 = .ok (.istore 4, 2) := by decide +kernel
theorem dX7_fits_34 : decode cX7_fits 34 = .ok (.iconst 0, 1) := by decide +kernel
theorem dX7_fits_35 : decode cX7_fits 35 = .ok (.istore 5, 2) := by decide +kernel
theorem dX7_fits_37 : decode cX7_fits 37 = .ok (.iload 5, 2) := by decide +kernel
theorem dX7_fits_39 : decode cX7_fits 39 = .ok (.iload_n 1, 1) := by decide +kernel
theorem dX7_fits_40 : decode cX7_fits 40 = .ok (.if_icmp .ge 52, 3) := by decide +kernel
theorem dX7_fits_43 : decode cX7_fits 43 = .ok (.iload 4, 2) := by decide +kernel
theorem dX7_fits_45 : decode cX7_fits 45 = .ok (.ifCond .eq 47, 3) := by decide +kernel
theorem dX7_fits_48 : decode cX7_fits 48 = .ok (.aload_n 0, 1) := by decide +kernel
theorem dX7_fits_49 : decode cX7_fits 49 = .ok (.getfield 39, 3) := by decide +kernel
theorem dX7_fits_52 : decode cX7_fits 52 = .ok (.bipush 12, 2) := by decide +kernel
theorem dX7_fits_54 : decode cX7_fits 54 = .ok (.iload 5, 2) := by decide +kernel
theorem dX7_fits_56 : decode cX7_fits 56 = .ok (.imul, 1) := by decide +kernel
theorem dX7_fits_57 : decode cX7_fits 57 = .ok (.iload_n 1, 1) := by decide +kernel
theorem dX7_fits_58 : decode cX7_fits 58 = .ok (.iadd, 1) := by decide +kernel
theorem dX7_fits_59 : decode cX7_fits 59 = .ok (.baload, 1) := by decide +kernel
theorem dX7_fits_60 : decode cX7_fits 60 = .ok (.ifCond .eq 19, 3) := by decide +kernel
theorem dX7_fits_63 : decode cX7_fits 63 = .ok (.aload_n 0, 1) := by decide +kernel
theorem dX7_fits_64 : decode cX7_fits 64 = .ok (.getfield 48, 3) := by decide +kernel
theorem dX7_fits_67 : decode cX7_fits 67 = .ok (.iload 5, 2) := by decide +kernel
theorem dX7_fits_69 : decode cX7_fits 69 = .ok (.iaload, 1) := by decide +kernel
theorem dX7_fits_70 : decode cX7_fits 70 = .ok (.aload_n 0, 1) := by decide +kernel
theorem dX7_fits_71 : decode cX7_fits 71 = .ok (.getfield 48, 3) := by decide +kernel
theorem dX7_fits_74 : decode cX7_fits 74 = .ok (.iload_n 1, 1) := by decide +kernel
theorem dX7_fits_75 : decode cX7_fits 75 = .ok (.iaload, 1) := by decide +kernel
theorem dX7_fits_76 : decode cX7_fits 76 = .ok (.if_icmp .eq 7, 3) := by decide +kernel
theorem dX7_fits_79 : decode cX7_fits 79 = .ok (.iconst 1, 1) := by decide +kernel
theorem dX7_fits_80 : decode cX7_fits 80 = .ok (.goto 4, 3) := by decide +kernel
theorem dX7_fits_83 : decode cX7_fits 83 = .ok (.iconst 0, 1) := by decide +kernel
theorem dX7_fits_84 : decode cX7_fits 84 = .ok (.istore 4, 2) := by decide +kernel
theorem dX7_fits_86 : decode cX7_fits 86 = .ok (.iinc 5 1, 3) := by decide +kernel
theorem dX7_fits_89 : decode cX7_fits 89 = .ok (.goto (-52), 3) := by decide +kernel
theorem dX7_fits_92 : decode cX7_fits 92 = .ok (.iload 4, 2) := by decide +kernel
theorem dX7_fits_94 : decode cX7_fits 94 = .ok (.ifCond .eq 18, 3) := by decide +kernel
theorem dX7_fits_97 : decode cX7_fits 97 = .ok (.aload_n 0, 1) := by decide +kernel
theorem dX7_fits_98 : decode cX7_fits 98 = .ok (.iload_n 1, 1) := by decide +kernel
theorem dX7_fits_99 : decode cX7_fits 99 = .ok (.iconst 1, 1) := by decide +kernel
theorem dX7_fits_100 : decode cX7_fits 100 = .ok (.iadd, 1) := by decide +kernel
theorem dX7_fits_101 : decode cX7_fits 101 = .ok (.invokevirtual 141, 3) := by decide +kernel
theorem dX7_fits_104 : decode cX7_fits 104 = .ok (.iload_n 2, 1) := by decide +kernel
theorem dX7_fits_105 : decode cX7_fits 105 = .ok (.if_icmp .gt 7, 3) := by decide +kernel
theorem dX7_fits_108 : decode cX7_fits 108 = .ok (.iconst 1, 1) := by decide +kernel
theorem dX7_fits_109 : decode cX7_fits 109 = .ok (.goto 4, 3) := by decide +kernel
theorem dX7_fits_112 : decode cX7_fits 112 = .ok (.iconst 0, 1) := by decide +kernel
theorem dX7_fits_113 : decode cX7_fits 113 = .ok (.ireturn, 1) := by decide +kernel
theorem dX7_isFound_0 : decode cX7_isFound 0 = .ok (.iconst 0, 1) := by decide +kernel
theorem dX7_isFound_1 : decode cX7_isFound 1 = .ok (.istore_n 3, 1) := by decide +kernel
theorem dX7_isFound_2 : decode cX7_isFound 2 = .ok (.aload_n 0, 1) := by decide +kernel
theorem dX7_isFound_3 : decode cX7_isFound 3 = .ok (.getfield 48, 3) := by decide +kernel
theorem dX7_isFound_6 : decode cX7_isFound 6 = .ok (.iconst 0, 1) := by decide +kernel
theorem dX7_isFound_7 : decode cX7_isFound 7 = .ok (.iconst (-1), 1) := by decide +kernel
theorem dX7_isFound_8 : decode cX7_isFound 8 = .ok (.iastore, 1) := by decide +kernel
theorem dX7_isFound_9 : decode cX7_isFound 9 = .ok (.iload_n 3, 1) := by decide +kernel
theorem dX7_isFound_10 : decode cX7_isFound 10 = .ok (.ifCond .lt 82, 3) := by decide +kernel
theorem dX7_isFound_13 : decode cX7_isFound 13 = .ok (.iload_n 3, 1) := by decide +kernel
theorem dX7_isFound_14 : decode cX7_isFound 14 = .ok (.aload_n 0, 1) := by decide +kernel
theorem dX7_isFound_15 : decode cX7_isFound 15 = .ok (.getfield 138, 3) := by decide +kernel
theorem dX7_isFound_18 : decode cX7_isFound 18 = .ok (.if_icmp .ge 74, 3) := by decide +kernel
theorem dX7_isFound_21 : decode cX7_isFound 21 = .ok (.aload_n 0, 1) := by decide +kernel
theorem dX7_isFound_22 : decode cX7_isFound 22 = .ok (.getfield 48, 3) := by decide +kernel
theorem dX7_isFound_25 : decode cX7_isFound 25 = .ok (.iload_n 3, 1) := by decide +kernel
theorem dX7_isFound_26 : decode cX7_isFound 26 = .ok (.dup2, 1) := by decide +kernel
theorem dX7_isFound_27 : decode cX7_isFound 27 = .ok (.iaload, 1) := by decide +kernel
theorem dX7_isFound_28 : decode cX7_isFound 28 = .ok (.iconst 1, 1) := by decide +kernel
theorem dX7_isFound_29 : decode cX7_isFound 29 = .ok (.iadd, 1) := by decide +kernel
theorem dX7_isFound_30 : decode cX7_isFound 30 = .ok (.iastore, 1) := by decide +kernel
theorem dX7_isFound_31 : decode cX7_isFound 31 = .ok (.aload_n 0, 1) := by decide +kernel
theorem dX7_isFound_32 : decode cX7_isFound 32 = .ok (.getfield 48, 3) := by decide +kernel
theorem dX7_isFound_35 : decode cX7_isFound 35 = .ok (.iload_n 3, 1) := by decide +kernel
theorem dX7_isFound_36 : decode cX7_isFound 36 = .ok (.iaload, 1) := by decide +kernel
theorem dX7_isFound_37 : decode cX7_isFound 37 = .ok (.iload_n 1, 1) := by decide +kernel
theorem dX7_isFound_38 : decode cX7_isFound 38 = .ok (.if_icmp .ge 25, 3) := by decide +kernel
theorem dX7_isFound_41 : decode cX7_isFound 41 = .ok (.aload_n 0, 1) := by decide +kernel
theorem dX7_isFound_42 : decode cX7_isFound 42 = .ok (.iload_n 3, 1) := by decide +kernel
theorem dX7_isFound_43 : decode cX7_isFound 43 = .ok (.iload_n 2, 1) := by decide +kernel
theorem dX7_isFound_44 : decode cX7_isFound 44 = .ok (.invokevirtual 144, 3) := by decide +kernel
theorem dX7_isFound_47 : decode cX7_isFound 47 = .ok (.ifCond .ne 16, 3) := by decide +kernel
theorem dX7_isFound_50 : decode cX7_isFound 50 = .ok (.aload_n 0, 1) := by decide +kernel
theorem dX7_isFound_51 : decode cX7_isFound 51 = .ok (.getfield 48, 3) := by decide +kernel
theorem dX7_isFound_54 : decode cX7_isFound 54 = .ok (.iload_n 3, 1) := by decide +kernel
theorem dX7_isFound_55 : decode cX7_isFound 55 = .ok (.dup2, 1) := by decide +kernel
theorem dX7_isFound_56 : decode cX7_isFound 56 = .ok (.iaload, 1) := by decide +kernel
theorem dX7_isFound_57 : decode cX7_isFound 57 = .ok (.iconst 1, 1) := by decide +kernel
theorem dX7_isFound_58 : decode cX7_isFound 58 = .ok (.iadd, 1) := by decide +kernel
theorem dX7_isFound_59 : decode cX7_isFound 59 = .ok (.iastore, 1) := by decide +kernel
theorem dX7_isFound_60 : decode cX7_isFound 60 = .ok (.goto (-29), 3) := by decide +kernel
theorem dX7_isFound_63 : decode cX7_isFound 63 = .ok (.aload_n 0, 1) := by decide +kernel
theorem dX7_isFound_64 : decode cX7_isFound 64 = .ok (.getfield 48, 3) := by decide +kernel
theorem dX7_isFound_67 : decode cX7_isFound 67 = .ok (.iload_n 3, 1) := by decide +kernel
theorem dX7_isFound_68 : decode cX7_isFound 68 = .ok (.iaload, 1) := by decide +kernel
theorem dX7_isFound_69 : decode cX7_isFound 69 = .ok (.iload_n 1, 1) := by decide +kernel
theorem dX7_isFound_70 : decode cX7_isFound 70 = .ok (.if_icmp .ne 9, 3) := by decide +kernel
theorem dX7_isFound_73 : decode cX7_isFound 73 = .ok (.iinc 3 (-1), 3) := by decide +kernel
theorem dX7_isFound_76 : decode cX7_isFound 76 = .ok (.goto (-67), 3) := by decide +kernel
theorem dX7_isFound_79 : decode cX7_isFound 79 = .ok (.iinc 3 1, 3) := by decide +kernel
theorem dX7_isFound_82 : decode cX7_isFound 82 = .ok (.aload_n 0, 1) := by decide +kernel
theorem dX7_isFound_83 : decode cX7_isFound 83 = .ok (.getfield 48, 3) := by decide +kernel
theorem dX7_isFound_86 : decode cX7_isFound 86 = .ok (.iload_n 3, 1) := by decide +kernel
theorem dX7_isFound_87 : decode cX7_isFound 87 = .ok (.iconst (-1), 1) := by decide +kernel
theorem dX7_isFound_88 : decode cX7_isFound 88 = .ok (.iastore, 1) := by decide +kernel
theorem dX7_isFound_89 : decode cX7_isFound 89 = .ok (.goto (-80), 3) := by decide +kernel
theorem dX7_isFound_92 : decode cX7_isFound 92 = .ok (.iload_n 3, 1) := by decide +kernel
theorem dX7_isFound_93 : decode cX7_isFound 93 = .ok (.aload_n 0, 1) := by decide +kernel
theorem dX7_isFound_94 : decode cX7_isFound 94 = .ok (.getfield 138, 3) := by decide +kernel
theorem dX7_isFound_97 : decode cX7_isFound 97 = .ok (.if_icmp .ne 7, 3) := by decide +kernel
theorem dX7_isFound_100 : decode cX7_isFound 100 = .ok (.iconst 1, 1) := by decide +kernel
theorem dX7_isFound_101 : decode cX7_isFound 101 = .ok (.goto 4, 3) := by decide +kernel
theorem dX7_isFound_104 : decode cX7_isFound 104 = .ok (.iconst 0, 1) := by decide +kernel
theorem dX7_isFound_105 : decode cX7_isFound 105 = .ok (.ireturn, 1) := by decide +kernel
theorem dX7_areaOf_0 : decode cX7_areaOf 0 = .ok (.lconst 0, 1) := by decide +kernel
theorem dX7_areaOf_1 : decode cX7_areaOf 1 = .ok (.lstore_n 2, 1) := by decide +kernel
theorem dX7_areaOf_2 : decode cX7_areaOf 2 = .ok (.iconst 0, 1) := by decide +kernel
theorem dX7_areaOf_3 : decode cX7_areaOf 3 = .ok (.istore 4, 2) := by decide +kernel
theorem dX7_areaOf_5 : decode cX7_areaOf 5 = .ok (.iload 4, 2) := by decide +kernel
theorem dX7_areaOf_7 : decode cX7_areaOf 7 = .ok (.aload_n 0, 1) := by decide +kernel
theorem dX7_areaOf_8 : decode cX7_areaOf 8 = .ok (.aload_n 0, 1) := by decide +kernel
theorem dX7_areaOf_9 : decode cX7_areaOf 9 = .ok (.getfield 33, 3) := by decide +kernel
theorem dX7_areaOf_12 : decode cX7_areaOf 12 = .ok (.iload_n 1, 1) := by decide +kernel
theorem dX7_areaOf_13 : decode cX7_areaOf 13 = .ok (.iaload, 1) := by decide +kernel
theorem dX7_areaOf_14 : decode cX7_areaOf 14 = .ok (.invokevirtual 108, 3) := by decide +kernel
theorem dX7_areaOf_17 : decode cX7_areaOf 17 = .ok (.if_icmp .ge 58, 3) := by decide +kernel
theorem dX7_areaOf_20 : decode cX7_areaOf 20 = .ok (.aload_n 0, 1) := by decide +kernel
theorem dX7_areaOf_21 : decode cX7_areaOf 21 = .ok (.aload_n 0, 1) := by decide +kernel
theorem dX7_areaOf_22 : decode cX7_areaOf 22 = .ok (.getfield 33, 3) := by decide +kernel
theorem dX7_areaOf_25 : decode cX7_areaOf 25 = .ok (.iload_n 1, 1) := by decide +kernel
theorem dX7_areaOf_26 : decode cX7_areaOf 26 = .ok (.iaload, 1) := by decide +kernel
theorem dX7_areaOf_27 : decode cX7_areaOf 27 = .ok (.aload_n 0, 1) := by decide +kernel
theorem dX7_areaOf_28 : decode cX7_areaOf 28 = .ok (.getfield 36, 3) := by decide +kernel
theorem dX7_areaOf_31 : decode cX7_areaOf 31 = .ok (.iload_n 1, 1) := by decide +kernel
theorem dX7_areaOf_32 : decode cX7_areaOf 32 = .ok (.iaload, 1) := by decide +kernel
theorem dX7_areaOf_33 : decode cX7_areaOf 33 = .ok (.iload 4, 2) := by decide +kernel
theorem dX7_areaOf_35 : decode cX7_areaOf 35 = .ok (.iconst 1, 1) := by decide +kernel
theorem dX7_areaOf_36 : decode cX7_areaOf 36 = .ok (.invokevirtual 112, 3) := by decide +kernel
theorem dX7_areaOf_39 : decode cX7_areaOf 39 = .ok (.lload_n 2, 1) := by decide +kernel
theorem dX7_areaOf_40 : decode cX7_areaOf 40 = .ok (.aload_n 0, 1) := by decide +kernel
theorem dX7_areaOf_41 : decode cX7_areaOf 41 = .ok (.getfield 42, 3) := by decide +kernel
theorem dX7_areaOf_44 : decode cX7_areaOf 44 = .ok (.iconst 2, 1) := by decide +kernel
theorem dX7_areaOf_45 : decode cX7_areaOf 45 = .ok (.laload, 1) := by decide +kernel
theorem dX7_areaOf_46 : decode cX7_areaOf 46 = .ok (.aload_n 0, 1) := by decide +kernel
theorem dX7_areaOf_47 : decode cX7_areaOf 47 = .ok (.getfield 42, 3) := by decide +kernel
theorem dX7_areaOf_50 : decode cX7_areaOf 50 = .ok (.iconst 0, 1) := by decide +kernel
theorem dX7_areaOf_51 : decode cX7_areaOf 51 = .ok (.laload, 1) := by decide +kernel
theorem dX7_areaOf_52 : decode cX7_areaOf 52 = .ok (.lsub, 1) := by decide +kernel
theorem dX7_areaOf_53 : decode cX7_areaOf 53 = .ok (.aload_n 0, 1) := by decide +kernel
theorem dX7_areaOf_54 : decode cX7_areaOf 54 = .ok (.getfield 42, 3) := by decide +kernel
theorem dX7_areaOf_57 : decode cX7_areaOf 57 = .ok (.iconst 3, 1) := by decide +kernel
theorem dX7_areaOf_58 : decode cX7_areaOf 58 = .ok (.laload, 1) := by decide +kernel
theorem dX7_areaOf_59 : decode cX7_areaOf 59 = .ok (.aload_n 0, 1) := by decide +kernel
theorem dX7_areaOf_60 : decode cX7_areaOf 60 = .ok (.getfield 42, 3) := by decide +kernel
theorem dX7_areaOf_63 : decode cX7_areaOf 63 = .ok (.iconst 1, 1) := by decide +kernel
theorem dX7_areaOf_64 : decode cX7_areaOf 64 = .ok (.laload, 1) := by decide +kernel
theorem dX7_areaOf_65 : decode cX7_areaOf 65 = .ok (.lsub, 1) := by decide +kernel
theorem dX7_areaOf_66 : decode cX7_areaOf 66 = .ok (.lmul, 1) := by decide +kernel
theorem dX7_areaOf_67 : decode cX7_areaOf 67 = .ok (.ladd, 1) := by decide +kernel
theorem dX7_areaOf_68 : decode cX7_areaOf 68 = .ok (.lstore_n 2, 1) := by decide +kernel
theorem dX7_areaOf_69 : decode cX7_areaOf 69 = .ok (.iinc 4 1, 3) := by decide +kernel
theorem dX7_areaOf_72 : decode cX7_areaOf 72 = .ok (.goto (-67), 3) := by decide +kernel
theorem dX7_areaOf_75 : decode cX7_areaOf 75 = .ok (.lload_n 2, 1) := by decide +kernel
theorem dX7_areaOf_76 : decode cX7_areaOf 76 = .ok (.lreturn, 1) := by decide +kernel
theorem dX7_keep_0 : decode cX7_keep 0 = .ok (.aload_n 0, 1) := by decide +kernel
theorem dX7_keep_1 : decode cX7_keep 1 = .ok (.iconst 1, 1) := by decide +kernel
theorem dX7_keep_2 : decode cX7_keep 2 = .ok (.putfield 91, 3) := by decide +kernel
theorem dX7_keep_5 : decode cX7_keep 5 = .ok (.aload_n 0, 1) := by decide +kernel
theorem dX7_keep_6 : decode cX7_keep 6 = .ok (.aload_n 0, 1) := by decide +kernel
theorem dX7_keep_7 : decode cX7_keep 7 = .ok (.getfield 138, 3) := by decide +kernel
theorem dX7_keep_10 : decode cX7_keep 10 = .ok (.putfield 147, 3) := by decide +kernel
theorem dX7_keep_13 : decode cX7_keep 13 = .ok (.aload_n 0, 1) := by decide +kernel
theorem dX7_keep_14 : decode cX7_keep 14 = .ok (.aload_n 0, 1) := by decide +kernel
theorem dX7_keep_15 : decode cX7_keep 15 = .ok (.aload_n 0, 1) := by decide +kernel
theorem dX7_keep_16 : decode cX7_keep 16 = .ok (.getfield 138, 3) := by decide +kernel
theorem dX7_keep_19 : decode cX7_keep 19 = .ok (.invokevirtual 141, 3) := by decide +kernel
theorem dX7_keep_22 : decode cX7_keep 22 = .ok (.putfield 150, 3) := by decide +kernel
theorem dX7_keep_25 : decode cX7_keep 25 = .ok (.iconst 0, 1) := by decide +kernel
theorem dX7_keep_26 : decode cX7_keep 26 = .ok (.istore_n 1, 1) := by decide +kernel
theorem dX7_keep_27 : decode cX7_keep 27 = .ok (.iload_n 1, 1) := by decide +kernel
theorem dX7_keep_28 : decode cX7_keep 28 = .ok (.aload_n 0, 1) := by decide +kernel
theorem dX7_keep_29 : decode cX7_keep 29 = .ok (.getfield 138, 3) := by decide +kernel
theorem dX7_keep_32 : decode cX7_keep 32 = .ok (.if_icmp .ge 44, 3) := by decide +kernel
theorem dX7_keep_35 : decode cX7_keep 35 = .ok (.aload_n 0, 1) := by decide +kernel
theorem dX7_keep_36 : decode cX7_keep 36 = .ok (.getfield 51, 3) := by decide +kernel
theorem dX7_keep_39 : decode cX7_keep 39 = .ok (.iload_n 1, 1) := by decide +kernel
theorem dX7_keep_40 : decode cX7_keep 40 = .ok (.aload_n 0, 1) := by decide +kernel
theorem dX7_keep_41 : decode cX7_keep 41 = .ok (.getfield 33, 3) := by decide +kernel
theorem dX7_keep_44 : decode cX7_keep 44 = .ok (.iload_n 1, 1) := by decide +kernel
theorem dX7_keep_45 : decode cX7_keep 45 = .ok (.iaload, 1) := by decide +kernel
theorem dX7_keep_46 : decode cX7_keep 46 = .ok (.iastore, 1) := by decide +kernel
theorem dX7_keep_47 : decode cX7_keep 47 = .ok (.aload_n 0, 1) := by decide +kernel
theorem dX7_keep_48 : decode cX7_keep 48 = .ok (.getfield 54, 3) := by decide +kernel
theorem dX7_keep_51 : decode cX7_keep 51 = .ok (.iload_n 1, 1) := by decide +kernel
theorem dX7_keep_52 : decode cX7_keep 52 = .ok (.aload_n 0, 1) := by decide +kernel
theorem dX7_keep_53 : decode cX7_keep 53 = .ok (.getfield 48, 3) := by decide +kernel
theorem dX7_keep_56 : decode cX7_keep 56 = .ok (.iload_n 1, 1) := by decide +kernel
theorem dX7_keep_57 : decode cX7_keep 57 = .ok (.iaload, 1) := by decide +kernel
theorem dX7_keep_58 : decode cX7_keep 58 = .ok (.iastore, 1) := by decide +kernel
theorem dX7_keep_59 : decode cX7_keep 59 = .ok (.aload_n 0, 1) := by decide +kernel
theorem dX7_keep_60 : decode cX7_keep 60 = .ok (.getfield 57, 3) := by decide +kernel
theorem dX7_keep_63 : decode cX7_keep 63 = .ok (.iload_n 1, 1) := by decide +kernel
theorem dX7_keep_64 : decode cX7_keep 64 = .ok (.aload_n 0, 1) := by decide +kernel
theorem dX7_keep_65 : decode cX7_keep 65 = .ok (.iload_n 1, 1) := by decide +kernel
theorem dX7_keep_66 : decode cX7_keep 66 = .ok (.invokevirtual 153, 3) := by decide +kernel
theorem dX7_keep_69 : decode cX7_keep 69 = .ok (.lastore, 1) := by decide +kernel
theorem dX7_keep_70 : decode cX7_keep 70 = .ok (.iinc 1 1, 3) := by decide +kernel
theorem dX7_keep_73 : decode cX7_keep 73 = .ok (.goto (-46), 3) := by decide +kernel
theorem dX7_keep_76 : decode cX7_keep 76 = .ok (.return_, 1) := by decide +kernel
theorem dX7_isStep_0 : decode cX7_isStep 0 = .ok (.aload_n 0, 1) := by decide +kernel
theorem dX7_isStep_1 : decode cX7_isStep 1 = .ok (.getfield 60, 3) := by decide +kernel
theorem dX7_isStep_4 : decode cX7_isStep 4 = .ok (.iload_n 1, 1) := by decide +kernel
theorem dX7_isStep_5 : decode cX7_isStep 5 = .ok (.iaload, 1) := by decide +kernel
theorem dX7_isStep_6 : decode cX7_isStep 6 = .ok (.istore_n 3, 1) := by decide +kernel
theorem dX7_isStep_7 : decode cX7_isStep 7 = .ok (.iload_n 1, 1) := by decide +kernel
theorem dX7_isStep_8 : decode cX7_isStep 8 = .ok (.ifCond .eq 24, 3) := by decide +kernel
theorem dX7_isStep_11 : decode cX7_isStep 11 = .ok (.aload_n 0, 1) := by decide +kernel
theorem dX7_isStep_12 : decode cX7_isStep 12 = .ok (.getfield 39, 3) := by decide +kernel
theorem dX7_isStep_15 : decode cX7_isStep 15 = .ok (.bipush 12, 2) := by decide +kernel
theorem dX7_isStep_17 : decode cX7_isStep 17 = .ok (.aload_n 0, 1) := by decide +kernel
theorem dX7_isStep_18 : decode cX7_isStep 18 = .ok (.getfield 60, 3) := by decide +kernel
theorem dX7_isStep_21 : decode cX7_isStep 21 = .ok (.iload_n 1, 1) := by decide +kernel
theorem dX7_isStep_22 : decode cX7_isStep 22 = .ok (.iconst 1, 1) := by decide +kernel
theorem dX7_isStep_23 : decode cX7_isStep 23 = .ok (.isub, 1) := by decide +kernel
theorem dX7_isStep_24 : decode cX7_isStep 24 = .ok (.iaload, 1) := by decide +kernel
theorem dX7_isStep_25 : decode cX7_isStep 25 = .ok (.imul, 1) := by decide +kernel
theorem dX7_isStep_26 : decode cX7_isStep 26 = .ok (.iload_n 3, 1) := by decide +kernel
theorem dX7_isStep_27 : decode cX7_isStep 27 = .ok (.iadd, 1) := by decide +kernel
theorem dX7_isStep_28 : decode cX7_isStep 28 = .ok (.baload, 1) := by decide +kernel
theorem dX7_isStep_29 : decode cX7_isStep 29 = .ok (.ifCond .eq 7, 3) := by decide +kernel
theorem dX7_isStep_32 : decode cX7_isStep 32 = .ok (.iconst 1, 1) := by decide +kernel
theorem dX7_isStep_33 : decode cX7_isStep 33 = .ok (.goto 4, 3) := by decide +kernel
theorem dX7_isStep_36 : decode cX7_isStep 36 = .ok (.iconst 0, 1) := by decide +kernel
theorem dX7_isStep_37 : decode cX7_isStep 37 = .ok (.istore 4, 2) := by decide +kernel
theorem dX7_isStep_39 : decode cX7_isStep 39 = .ok (.iconst 0, 1) := by decide +kernel
theorem dX7_isStep_40 : decode cX7_isStep 40 = .ok (.istore 5, 2) := by decide +kernel
theorem dX7_isStep_42 : decode cX7_isStep 42 = .ok (.iload 5, 2) := by decide +kernel
theorem dX7_isStep_44 : decode cX7_isStep 44 = .ok (.iload_n 1, 1) := by decide +kernel
theorem dX7_isStep_45 : decode cX7_isStep 45 = .ok (.if_icmp .ge 32, 3) := by decide +kernel
theorem dX7_isStep_48 : decode cX7_isStep 48 = .ok (.iload 4, 2) := by decide +kernel
theorem dX7_isStep_50 : decode cX7_isStep 50 = .ok (.ifCond .eq 18, 3) := by decide +kernel
theorem dX7_isStep_53 : decode cX7_isStep 53 = .ok (.aload_n 0, 1) := by decide +kernel
theorem dX7_isStep_54 : decode cX7_isStep 54 = .ok (.getfield 60, 3) := by decide +kernel
theorem dX7_isStep_57 : decode cX7_isStep 57 = .ok (.iload 5, 2) := by decide +kernel
theorem dX7_isStep_59 : decode cX7_isStep 59 = .ok (.iaload, 1) := by decide +kernel
theorem dX7_isStep_60 : decode cX7_isStep 60 = .ok (.iload_n 3, 1) := by decide +kernel
theorem dX7_isStep_61 : decode cX7_isStep 61 = .ok (.if_icmp .eq 7, 3) := by decide +kernel
theorem dX7_isStep_64 : decode cX7_isStep 64 = .ok (.iconst 1, 1) := by decide +kernel
theorem dX7_isStep_65 : decode cX7_isStep 65 = .ok (.goto 4, 3) := by decide +kernel
theorem dX7_isStep_68 : decode cX7_isStep 68 = .ok (.iconst 0, 1) := by decide +kernel
theorem dX7_isStep_69 : decode cX7_isStep 69 = .ok (.istore 4, 2) := by decide +kernel
theorem dX7_isStep_71 : decode cX7_isStep 71 = .ok (.iinc 5 1, 3) := by decide +kernel
theorem dX7_isStep_74 : decode cX7_isStep 74 = .ok (.goto (-32), 3) := by decide +kernel
theorem dX7_isStep_77 : decode cX7_isStep 77 = .ok (.iload 4, 2) := by decide +kernel
theorem dX7_isStep_79 : decode cX7_isStep 79 = .ok (.ifCond .eq 33, 3) := by decide +kernel
theorem dX7_isStep_82 : decode cX7_isStep 82 = .ok (.iload_n 1, 1) := by decide +kernel
theorem dX7_isStep_83 : decode cX7_isStep 83 = .ok (.iload_n 2, 1) := by decide +kernel
theorem dX7_isStep_84 : decode cX7_isStep 84 = .ok (.iconst 1, 1) := by decide +kernel
theorem dX7_isStep_85 : decode cX7_isStep 85 = .ok (.isub, 1) := by decide +kernel
theorem dX7_isStep_86 : decode cX7_isStep 86 = .ok (.if_icmp .lt 22, 3) := by decide +kernel
theorem dX7_isStep_89 : decode cX7_isStep 89 = .ok (.aload_n 0, 1) := by decide +kernel
theorem dX7_isStep_90 : decode cX7_isStep 90 = .ok (.getfield 39, 3) := by decide +kernel
theorem dX7_isStep_93 : decode cX7_isStep 93 = .ok (.bipush 12, 2) := by decide +kernel
theorem dX7_isStep_95 : decode cX7_isStep 95 = .ok (.iload_n 3, 1) := by decide +kernel
theorem dX7_isStep_96 : decode cX7_isStep 96 = .ok (.imul, 1) := by decide +kernel
theorem dX7_isStep_97 : decode cX7_isStep 97 = .ok (.aload_n 0, 1) := by decide +kernel
theorem dX7_isStep_98 : decode cX7_isStep 98 = .ok (.getfield 60, 3) := by decide +kernel
theorem dX7_isStep_101 : decode cX7_isStep 101 = .ok (.iconst 0, 1) := by decide +kernel
theorem dX7_isStep_102 : decode cX7_isStep 102 = .ok (.iaload, 1) := by decide +kernel
theorem dX7_isStep_103 : decode cX7_isStep 103 = .ok (.iadd, 1) := by decide +kernel
theorem dX7_isStep_104 : decode cX7_isStep 104 = .ok (.baload, 1) := by decide +kernel
theorem dX7_isStep_105 : decode cX7_isStep 105 = .ok (.ifCond .eq 7, 3) := by decide +kernel
theorem dX7_isStep_108 : decode cX7_isStep 108 = .ok (.iconst 1, 1) := by decide +kernel
theorem dX7_isStep_109 : decode cX7_isStep 109 = .ok (.goto 4, 3) := by decide +kernel
theorem dX7_isStep_112 : decode cX7_isStep 112 = .ok (.iconst 0, 1) := by decide +kernel
theorem dX7_isStep_113 : decode cX7_isStep 113 = .ok (.ireturn, 1) := by decide +kernel
theorem dX7_isRing_0 : decode cX7_isRing 0 = .ok (.iconst 0, 1) := by decide +kernel
theorem dX7_isRing_1 : decode cX7_isRing 1 = .ok (.istore_n 2, 1) := by decide +kernel
theorem dX7_isRing_2 : decode cX7_isRing 2 = .ok (.aload_n 0, 1) := by decide +kernel
theorem dX7_isRing_3 : decode cX7_isRing 3 = .ok (.getfield 60, 3) := by decide +kernel
theorem dX7_isRing_6 : decode cX7_isRing 6 = .ok (.iconst 0, 1) := by decide +kernel
theorem dX7_isRing_7 : decode cX7_isRing 7 = .ok (.iconst (-1), 1) := by decide +kernel
theorem dX7_isRing_8 : decode cX7_isRing 8 = .ok (.iastore, 1) := by decide +kernel
theorem dX7_isRing_9 : decode cX7_isRing 9 = .ok (.iload_n 2, 1) := by decide +kernel
theorem dX7_isRing_10 : decode cX7_isRing 10 = .ok (.ifCond .lt 85, 3) := by decide +kernel
theorem dX7_isRing_13 : decode cX7_isRing 13 = .ok (.iload_n 2, 1) := by decide +kernel
theorem dX7_isRing_14 : decode cX7_isRing 14 = .ok (.iload_n 1, 1) := by decide +kernel
theorem dX7_isRing_15 : decode cX7_isRing 15 = .ok (.if_icmp .ge 80, 3) := by decide +kernel
theorem dX7_isRing_18 : decode cX7_isRing 18 = .ok (.aload_n 0, 1) := by decide +kernel
theorem dX7_isRing_19 : decode cX7_isRing 19 = .ok (.getfield 60, 3) := by decide +kernel
theorem dX7_isRing_22 : decode cX7_isRing 22 = .ok (.iload_n 2, 1) := by decide +kernel
theorem dX7_isRing_23 : decode cX7_isRing 23 = .ok (.dup2, 1) := by decide +kernel
theorem dX7_isRing_24 : decode cX7_isRing 24 = .ok (.iaload, 1) := by decide +kernel
theorem dX7_isRing_25 : decode cX7_isRing 25 = .ok (.iconst 1, 1) := by decide +kernel
theorem dX7_isRing_26 : decode cX7_isRing 26 = .ok (.iadd, 1) := by decide +kernel
theorem dX7_isRing_27 : decode cX7_isRing 27 = .ok (.iastore, 1) := by decide +kernel
theorem dX7_isRing_28 : decode cX7_isRing 28 = .ok (.aload_n 0, 1) := by decide +kernel
theorem dX7_isRing_29 : decode cX7_isRing 29 = .ok (.getfield 60, 3) := by decide +kernel
theorem dX7_isRing_32 : decode cX7_isRing 32 = .ok (.iload_n 2, 1) := by decide +kernel
theorem dX7_isRing_33 : decode cX7_isRing 33 = .ok (.iaload, 1) := by decide +kernel
theorem dX7_isRing_34 : decode cX7_isRing 34 = .ok (.aload_n 0, 1) := by decide +kernel
theorem dX7_isRing_35 : decode cX7_isRing 35 = .ok (.getfield 138, 3) := by decide +kernel
theorem dX7_isRing_38 : decode cX7_isRing 38 = .ok (.if_icmp .ge 25, 3) := by decide +kernel
theorem dX7_isRing_41 : decode cX7_isRing 41 = .ok (.aload_n 0, 1) := by decide +kernel
theorem dX7_isRing_42 : decode cX7_isRing 42 = .ok (.iload_n 2, 1) := by decide +kernel
theorem dX7_isRing_43 : decode cX7_isRing 43 = .ok (.iload_n 1, 1) := by decide +kernel
theorem dX7_isRing_44 : decode cX7_isRing 44 = .ok (.invokevirtual 157, 3) := by decide +kernel
theorem dX7_isRing_47 : decode cX7_isRing 47 = .ok (.ifCond .ne 16, 3) := by decide +kernel
theorem dX7_isRing_50 : decode cX7_isRing 50 = .ok (.aload_n 0, 1) := by decide +kernel
theorem dX7_isRing_51 : decode cX7_isRing 51 = .ok (.getfield 60, 3) := by decide +kernel
theorem dX7_isRing_54 : decode cX7_isRing 54 = .ok (.iload_n 2, 1) := by decide +kernel
theorem dX7_isRing_55 : decode cX7_isRing 55 = .ok (.dup2, 1) := by decide +kernel
theorem dX7_isRing_56 : decode cX7_isRing 56 = .ok (.iaload, 1) := by decide +kernel
theorem dX7_isRing_57 : decode cX7_isRing 57 = .ok (.iconst 1, 1) := by decide +kernel
theorem dX7_isRing_58 : decode cX7_isRing 58 = .ok (.iadd, 1) := by decide +kernel
theorem dX7_isRing_59 : decode cX7_isRing 59 = .ok (.iastore, 1) := by decide +kernel
theorem dX7_isRing_60 : decode cX7_isRing 60 = .ok (.goto (-32), 3) := by decide +kernel
theorem dX7_isRing_63 : decode cX7_isRing 63 = .ok (.aload_n 0, 1) := by decide +kernel
theorem dX7_isRing_64 : decode cX7_isRing 64 = .ok (.getfield 60, 3) := by decide +kernel
theorem dX7_isRing_67 : decode cX7_isRing 67 = .ok (.iload_n 2, 1) := by decide +kernel
theorem dX7_isRing_68 : decode cX7_isRing 68 = .ok (.iaload, 1) := by decide +kernel
theorem dX7_isRing_69 : decode cX7_isRing 69 = .ok (.aload_n 0, 1) := by decide +kernel
theorem dX7_isRing_70 : decode cX7_isRing 70 = .ok (.getfield 138, 3) := by decide +kernel
theorem dX7_isRing_73 : decode cX7_isRing 73 = .ok (.if_icmp .ne 9, 3) := by decide +kernel
theorem dX7_isRing_76 : decode cX7_isRing 76 = .ok (.iinc 2 (-1), 3) := by decide +kernel
theorem dX7_isRing_79 : decode cX7_isRing 79 = .ok (.goto (-70), 3) := by decide +kernel
theorem dX7_isRing_82 : decode cX7_isRing 82 = .ok (.iinc 2 1, 3) := by decide +kernel
theorem dX7_isRing_85 : decode cX7_isRing 85 = .ok (.aload_n 0, 1) := by decide +kernel
theorem dX7_isRing_86 : decode cX7_isRing 86 = .ok (.getfield 60, 3) := by decide +kernel
theorem dX7_isRing_89 : decode cX7_isRing 89 = .ok (.iload_n 2, 1) := by decide +kernel
theorem dX7_isRing_90 : decode cX7_isRing 90 = .ok (.iconst (-1), 1) := by decide +kernel
theorem dX7_isRing_91 : decode cX7_isRing 91 = .ok (.iastore, 1) := by decide +kernel
theorem dX7_isRing_92 : decode cX7_isRing 92 = .ok (.goto (-83), 3) := by decide +kernel
theorem dX7_isRing_95 : decode cX7_isRing 95 = .ok (.iload_n 2, 1) := by decide +kernel
theorem dX7_isRing_96 : decode cX7_isRing 96 = .ok (.iload_n 1, 1) := by decide +kernel
theorem dX7_isRing_97 : decode cX7_isRing 97 = .ok (.if_icmp .ne 7, 3) := by decide +kernel
theorem dX7_isRing_100 : decode cX7_isRing 100 = .ok (.iconst 1, 1) := by decide +kernel
theorem dX7_isRing_101 : decode cX7_isRing 101 = .ok (.goto 4, 3) := by decide +kernel
theorem dX7_isRing_104 : decode cX7_isRing 104 = .ok (.iconst 0, 1) := by decide +kernel
theorem dX7_isRing_105 : decode cX7_isRing 105 = .ok (.ireturn, 1) := by decide +kernel
theorem dX7_findRing_0 : decode cX7_findRing 0 = .ok (.iconst 3, 1) := by decide +kernel
theorem dX7_findRing_1 : decode cX7_findRing 1 = .ok (.istore_n 1, 1) := by decide +kernel
theorem dX7_findRing_2 : decode cX7_findRing 2 = .ok (.iload_n 1, 1) := by decide +kernel
theorem dX7_findRing_3 : decode cX7_findRing 3 = .ok (.aload_n 0, 1) := by decide +kernel
theorem dX7_findRing_4 : decode cX7_findRing 4 = .ok (.getfield 138, 3) := by decide +kernel
theorem dX7_findRing_7 : decode cX7_findRing 7 = .ok (.if_icmp .gt 59, 3) := by decide +kernel
theorem dX7_findRing_10 : decode cX7_findRing 10 = .ok (.aload_n 0, 1) := by decide +kernel
theorem dX7_findRing_11 : decode cX7_findRing 11 = .ok (.getfield 95, 3) := by decide +kernel
theorem dX7_findRing_14 : decode cX7_findRing 14 = .ok (.ifCond .ne 52, 3) := by decide +kernel
theorem dX7_findRing_17 : decode cX7_findRing 17 = .ok (.aload_n 0, 1) := by decide +kernel
theorem dX7_findRing_18 : decode cX7_findRing 18 = .ok (.iload_n 1, 1) := by decide +kernel
theorem dX7_findRing_19 : decode cX7_findRing 19 = .ok (.invokevirtual 160, 3) := by decide +kernel
theorem dX7_findRing_22 : decode cX7_findRing 22 = .ok (.ifCond .eq 38, 3) := by decide +kernel
theorem dX7_findRing_25 : decode cX7_findRing 25 = .ok (.aload_n 0, 1) := by decide +kernel
theorem dX7_findRing_26 : decode cX7_findRing 26 = .ok (.iload_n 1, 1) := by decide +kernel
theorem dX7_findRing_27 : decode cX7_findRing 27 = .ok (.putfield 95, 3) := by decide +kernel
theorem dX7_findRing_30 : decode cX7_findRing 30 = .ok (.iconst 0, 1) := by decide +kernel
theorem dX7_findRing_31 : decode cX7_findRing 31 = .ok (.istore_n 2, 1) := by decide +kernel
theorem dX7_findRing_32 : decode cX7_findRing 32 = .ok (.iload_n 2, 1) := by decide +kernel
theorem dX7_findRing_33 : decode cX7_findRing 33 = .ok (.iload_n 1, 1) := by decide +kernel
theorem dX7_findRing_34 : decode cX7_findRing 34 = .ok (.if_icmp .ge 26, 3) := by decide +kernel
theorem dX7_findRing_37 : decode cX7_findRing 37 = .ok (.aload_n 0, 1) := by decide +kernel
theorem dX7_findRing_38 : decode cX7_findRing 38 = .ok (.getfield 63, 3) := by decide +kernel
theorem dX7_findRing_41 : decode cX7_findRing 41 = .ok (.iload_n 2, 1) := by decide +kernel
theorem dX7_findRing_42 : decode cX7_findRing 42 = .ok (.aload_n 0, 1) := by decide +kernel
theorem dX7_findRing_43 : decode cX7_findRing 43 = .ok (.getfield 33, 3) := by decide +kernel
theorem dX7_findRing_46 : decode cX7_findRing 46 = .ok (.aload_n 0, 1) := by decide +kernel
theorem dX7_findRing_47 : decode cX7_findRing 47 = .ok (.getfield 60, 3) := by decide +kernel
theorem dX7_findRing_50 : decode cX7_findRing 50 = .ok (.iload_n 2, 1) := by decide +kernel
theorem dX7_findRing_51 : decode cX7_findRing 51 = .ok (.iaload, 1) := by decide +kernel
theorem dX7_findRing_52 : decode cX7_findRing 52 = .ok (.iaload, 1) := by decide +kernel
theorem dX7_findRing_53 : decode cX7_findRing 53 = .ok (.iastore, 1) := by decide +kernel
theorem dX7_findRing_54 : decode cX7_findRing 54 = .ok (.iinc 2 1, 3) := by decide +kernel
theorem dX7_findRing_57 : decode cX7_findRing 57 = .ok (.goto (-25), 3) := by decide +kernel
theorem dX7_findRing_60 : decode cX7_findRing 60 = .ok (.iinc 1 2, 3) := by decide +kernel
theorem dX7_findRing_63 : decode cX7_findRing 63 = .ok (.goto (-61), 3) := by decide +kernel
theorem dX7_findRing_66 : decode cX7_findRing 66 = .ok (.return_, 1) := by decide +kernel
theorem dX7_run_0 : decode cX7_run 0 = .ok (.aload_n 0, 1) := by decide +kernel
theorem dX7_run_1 : decode cX7_run 1 = .ok (.aload_n 0, 1) := by decide +kernel
theorem dX7_run_2 : decode cX7_run 2 = .ok (.invokevirtual 124, 3) := by decide +kernel
theorem dX7_run_5 : decode cX7_run 5 = .ok (.ifCond .eq 7, 3) := by decide +kernel
theorem dX7_run_8 : decode cX7_run 8 = .ok (.iconst 1, 1) := by decide +kernel
theorem dX7_run_9 : decode cX7_run 9 = .ok (.goto 24, 3) := by decide +kernel
theorem dX7_run_12 : decode cX7_run 12 = .ok (.iload_n 1, 1) := by decide +kernel
theorem dX7_run_13 : decode cX7_run 13 = .ok (.iconst 2, 1) := by decide +kernel
theorem dX7_run_14 : decode cX7_run 14 = .ok (.if_icmp .lt 14, 3) := by decide +kernel
theorem dX7_run_17 : decode cX7_run 17 = .ok (.iload_n 1, 1) := by decide +kernel
theorem dX7_run_18 : decode cX7_run 18 = .ok (.iconst 4, 1) := by decide +kernel
theorem dX7_run_19 : decode cX7_run 19 = .ok (.if_icmp .gt 9, 3) := by decide +kernel
theorem dX7_run_22 : decode cX7_run 22 = .ok (.lload_n 2, 1) := by decide +kernel
theorem dX7_run_23 : decode cX7_run 23 = .ok (.lconst 0, 1) := by decide +kernel
theorem dX7_run_24 : decode cX7_run 24 = .ok (.lcmp, 1) := by decide +kernel
theorem dX7_run_25 : decode cX7_run 25 = .ok (.ifCond .ge 7, 3) := by decide +kernel
theorem dX7_run_28 : decode cX7_run 28 = .ok (.iconst 2, 1) := by decide +kernel
theorem dX7_run_29 : decode cX7_run 29 = .ok (.goto 4, 3) := by decide +kernel
theorem dX7_run_32 : decode cX7_run 32 = .ok (.iconst 0, 1) := by decide +kernel
theorem dX7_run_33 : decode cX7_run 33 = .ok (.putfield 72, 3) := by decide +kernel
theorem dX7_run_36 : decode cX7_run 36 = .ok (.aload_n 0, 1) := by decide +kernel
theorem dX7_run_37 : decode cX7_run 37 = .ok (.getfield 72, 3) := by decide +kernel
theorem dX7_run_40 : decode cX7_run 40 = .ok (.ifCond .le 5, 3) := by decide +kernel
theorem dX7_run_43 : decode cX7_run 43 = .ok (.iconst 0, 1) := by decide +kernel
theorem dX7_run_44 : decode cX7_run 44 = .ok (.ireturn, 1) := by decide +kernel
theorem dX7_run_45 : decode cX7_run 45 = .ok (.aload_n 0, 1) := by decide +kernel
theorem dX7_run_46 : decode cX7_run 46 = .ok (.aload_n 0, 1) := by decide +kernel
theorem dX7_run_47 : decode cX7_run 47 = .ok (.invokevirtual 79, 3) := by decide +kernel
theorem dX7_run_50 : decode cX7_run 50 = .ok (.i2l, 1) := by decide +kernel
theorem dX7_run_51 : decode cX7_run 51 = .ok (.lload_n 2, 1) := by decide +kernel
theorem dX7_run_52 : decode cX7_run 52 = .ok (.lcmp, 1) := by decide +kernel
theorem dX7_run_53 : decode cX7_run 53 = .ok (.ifCond .gt 7, 3) := by decide +kernel
theorem dX7_run_56 : decode cX7_run 56 = .ok (.iconst 1, 1) := by decide +kernel
theorem dX7_run_57 : decode cX7_run 57 = .ok (.goto 4, 3) := by decide +kernel
theorem dX7_run_60 : decode cX7_run 60 = .ok (.iconst 0, 1) := by decide +kernel
theorem dX7_run_61 : decode cX7_run 61 = .ok (.putfield 98, 3) := by decide +kernel
theorem dX7_run_64 : decode cX7_run 64 = .ok (.aload_n 0, 1) := by decide +kernel
theorem dX7_run_65 : decode cX7_run 65 = .ok (.getfield 98, 3) := by decide +kernel
theorem dX7_run_68 : decode cX7_run 68 = .ok (.ifCond .ne 5, 3) := by decide +kernel
theorem dX7_run_71 : decode cX7_run 71 = .ok (.iconst 2, 1) := by decide +kernel
theorem dX7_run_72 : decode cX7_run 72 = .ok (.ireturn, 1) := by decide +kernel
theorem dX7_run_73 : decode cX7_run 73 = .ok (.aload_n 0, 1) := by decide +kernel
theorem dX7_run_74 : decode cX7_run 74 = .ok (.invokevirtual 163, 3) := by decide +kernel
theorem dX7_run_77 : decode cX7_run 77 = .ok (.aload_n 0, 1) := by decide +kernel
theorem dX7_run_78 : decode cX7_run 78 = .ok (.iconst 0, 1) := by decide +kernel
theorem dX7_run_79 : decode cX7_run 79 = .ok (.putfield 91, 3) := by decide +kernel
theorem dX7_run_82 : decode cX7_run 82 = .ok (.aload_n 0, 1) := by decide +kernel
theorem dX7_run_83 : decode cX7_run 83 = .ok (.iconst 0, 1) := by decide +kernel
theorem dX7_run_84 : decode cX7_run 84 = .ok (.putfield 95, 3) := by decide +kernel
theorem dX7_run_87 : decode cX7_run 87 = .ok (.iconst 0, 1) := by decide +kernel
theorem dX7_run_88 : decode cX7_run 88 = .ok (.istore 4, 2) := by decide +kernel
theorem dX7_run_90 : decode cX7_run 90 = .ok (.iload 4, 2) := by decide +kernel
theorem dX7_run_92 : decode cX7_run 92 = .ok (.bipush 12, 2) := by decide +kernel
theorem dX7_run_94 : decode cX7_run 94 = .ok (.if_icmp .ge 30, 3) := by decide +kernel
theorem dX7_run_97 : decode cX7_run 97 = .ok (.aload_n 0, 1) := by decide +kernel
theorem dX7_run_98 : decode cX7_run 98 = .ok (.getfield 91, 3) := by decide +kernel
theorem dX7_run_101 : decode cX7_run 101 = .ok (.ifCond .ne 23, 3) := by decide +kernel
theorem dX7_run_104 : decode cX7_run 104 = .ok (.aload_n 0, 1) := by decide +kernel
theorem dX7_run_105 : decode cX7_run 105 = .ok (.iload_n 1, 1) := by decide +kernel
theorem dX7_run_106 : decode cX7_run 106 = .ok (.iload 4, 2) := by decide +kernel
theorem dX7_run_108 : decode cX7_run 108 = .ok (.invokevirtual 166, 3) := by decide +kernel
theorem dX7_run_111 : decode cX7_run 111 = .ok (.ifCond .eq 7, 3) := by decide +kernel
theorem dX7_run_114 : decode cX7_run 114 = .ok (.aload_n 0, 1) := by decide +kernel
theorem dX7_run_115 : decode cX7_run 115 = .ok (.invokevirtual 169, 3) := by decide +kernel
theorem dX7_run_118 : decode cX7_run 118 = .ok (.iinc 4 1, 3) := by decide +kernel
theorem dX7_run_121 : decode cX7_run 121 = .ok (.goto (-31), 3) := by decide +kernel
theorem dX7_run_124 : decode cX7_run 124 = .ok (.aload_n 0, 1) := by decide +kernel
theorem dX7_run_125 : decode cX7_run 125 = .ok (.getfield 91, 3) := by decide +kernel
theorem dX7_run_128 : decode cX7_run 128 = .ok (.ifCond .ne 12, 3) := by decide +kernel
theorem dX7_run_131 : decode cX7_run 131 = .ok (.iload_n 1, 1) := by decide +kernel
theorem dX7_run_132 : decode cX7_run 132 = .ok (.iconst 2, 1) := by decide +kernel
theorem dX7_run_133 : decode cX7_run 133 = .ok (.if_icmp .ne 7, 3) := by decide +kernel
theorem dX7_run_136 : decode cX7_run 136 = .ok (.aload_n 0, 1) := by decide +kernel
theorem dX7_run_137 : decode cX7_run 137 = .ok (.invokevirtual 172, 3) := by decide +kernel
theorem dX7_run_140 : decode cX7_run 140 = .ok (.aload_n 0, 1) := by decide +kernel
theorem dX7_run_141 : decode cX7_run 141 = .ok (.getfield 91, 3) := by decide +kernel
theorem dX7_run_144 : decode cX7_run 144 = .ok (.ifCond .eq 7, 3) := by decide +kernel
theorem dX7_run_147 : decode cX7_run 147 = .ok (.iconst 0, 1) := by decide +kernel
theorem dX7_run_148 : decode cX7_run 148 = .ok (.goto 4, 3) := by decide +kernel
theorem dX7_run_151 : decode cX7_run 151 = .ok (.iconst 1, 1) := by decide +kernel
theorem dX7_run_152 : decode cX7_run 152 = .ok (.ireturn, 1) := by decide +kernel
theorem dX7_firstOf_0 : decode cX7_firstOf 0 = .ok (.iconst 0, 1) := by decide +kernel
theorem dX7_firstOf_1 : decode cX7_firstOf 1 = .ok (.istore_n 2, 1) := by decide +kernel
theorem dX7_firstOf_2 : decode cX7_firstOf 2 = .ok (.iload_n 2, 1) := by decide +kernel
theorem dX7_firstOf_3 : decode cX7_firstOf 3 = .ok (.aload_n 0, 1) := by decide +kernel
theorem dX7_firstOf_4 : decode cX7_firstOf 4 = .ok (.getfield 147, 3) := by decide +kernel
theorem dX7_firstOf_7 : decode cX7_firstOf 7 = .ok (.if_icmp .ge 28, 3) := by decide +kernel
theorem dX7_firstOf_10 : decode cX7_firstOf 10 = .ok (.aload_n 0, 1) := by decide +kernel
theorem dX7_firstOf_11 : decode cX7_firstOf 11 = .ok (.getfield 91, 3) := by decide +kernel
theorem dX7_firstOf_14 : decode cX7_firstOf 14 = .ok (.ifCond .eq 21, 3) := by decide +kernel
theorem dX7_firstOf_17 : decode cX7_firstOf 17 = .ok (.aload_n 0, 1) := by decide +kernel
theorem dX7_firstOf_18 : decode cX7_firstOf 18 = .ok (.getfield 51, 3) := by decide +kernel
theorem dX7_firstOf_21 : decode cX7_firstOf 21 = .ok (.iload_n 2, 1) := by decide +kernel
theorem dX7_firstOf_22 : decode cX7_firstOf 22 = .ok (.iaload, 1) := by decide +kernel
theorem dX7_firstOf_23 : decode cX7_firstOf 23 = .ok (.iload_n 1, 1) := by decide +kernel
theorem dX7_firstOf_24 : decode cX7_firstOf 24 = .ok (.if_icmp .ne 5, 3) := by decide +kernel
theorem dX7_firstOf_27 : decode cX7_firstOf 27 = .ok (.iload_n 2, 1) := by decide +kernel
theorem dX7_firstOf_28 : decode cX7_firstOf 28 = .ok (.ireturn, 1) := by decide +kernel
theorem dX7_firstOf_29 : decode cX7_firstOf 29 = .ok (.iinc 2 1, 3) := by decide +kernel
theorem dX7_firstOf_32 : decode cX7_firstOf 32 = .ok (.goto (-30), 3) := by decide +kernel
theorem dX7_firstOf_35 : decode cX7_firstOf 35 = .ok (.iconst (-1), 1) := by decide +kernel
theorem dX7_firstOf_36 : decode cX7_firstOf 36 = .ok (.ireturn, 1) := by decide +kernel
theorem dX7_colour_0 : decode cX7_colour 0 = .ok (.aload_n 0, 1) := by decide +kernel
theorem dX7_colour_1 : decode cX7_colour 1 = .ok (.aload_n 0, 1) := by decide +kernel
theorem dX7_colour_2 : decode cX7_colour 2 = .ok (.iload_n 1, 1) := by decide +kernel
theorem dX7_colour_3 : decode cX7_colour 3 = .ok (.invokevirtual 83, 3) := by decide +kernel
theorem dX7_colour_6 : decode cX7_colour 6 = .ok (.ifCond .eq 7, 3) := by decide +kernel
theorem dX7_colour_9 : decode cX7_colour 9 = .ok (.iconst 0, 1) := by decide +kernel
theorem dX7_colour_10 : decode cX7_colour 10 = .ok (.goto 4, 3) := by decide +kernel
theorem dX7_colour_13 : decode cX7_colour 13 = .ok (.iconst 1, 1) := by decide +kernel
theorem dX7_colour_14 : decode cX7_colour 14 = .ok (.putfield 72, 3) := by decide +kernel
theorem dX7_colour_17 : decode cX7_colour 17 = .ok (.aload_n 0, 1) := by decide +kernel
theorem dX7_colour_18 : decode cX7_colour 18 = .ok (.getfield 72, 3) := by decide +kernel
theorem dX7_colour_21 : decode cX7_colour 21 = .ok (.ifCond .le 7, 3) := by decide +kernel
theorem dX7_colour_24 : decode cX7_colour 24 = .ok (.iconst (-1), 1) := by decide +kernel
theorem dX7_colour_25 : decode cX7_colour 25 = .ok (.goto 8, 3) := by decide +kernel
theorem dX7_colour_28 : decode cX7_colour 28 = .ok (.aload_n 0, 1) := by decide +kernel
theorem dX7_colour_29 : decode cX7_colour 29 = .ok (.iload_n 1, 1) := by decide +kernel
theorem dX7_colour_30 : decode cX7_colour 30 = .ok (.invokevirtual 175, 3) := by decide +kernel
