theorem dL_cell_0 : decode cL_cell 0 = .ok (.iload_n 1, 1) := by decide +kernel
theorem dL_cell_1 : decode cL_cell 1 = .ok (.aload_n 0, 1) := by decide +kernel
theorem dL_cell_2 : decode cL_cell 2 = .ok (.arraylength, 1) := by decide +kernel
theorem dL_cell_3 : decode cL_cell 3 = .ok (.if_icmp .ge 9, 3) := by decide +kernel
theorem dL_cell_6 : decode cL_cell 6 = .ok (.aload_n 0, 1) := by decide +kernel
theorem dL_cell_7 : decode cL_cell 7 = .ok (.iload_n 1, 1) := by decide +kernel
theorem dL_cell_8 : decode cL_cell 8 = .ok (.iaload, 1) := by decide +kernel
theorem dL_cell_9 : decode cL_cell 9 = .ok (.goto 4, 3) := by decide +kernel
theorem dL_cell_12 : decode cL_cell 12 = .ok (.iconst 0, 1) := by decide +kernel
theorem dL_cell_13 : decode cL_cell 13 = .ok (.ireturn, 1) := by decide +kernel
theorem dL_shape_0 : decode cL_shape 0 = .ok (.aload_n 1, 1) := by decide +kernel
theorem dL_shape_1 : decode cL_shape 1 = .ok (.iconst 0, 1) := by decide +kernel
theorem dL_shape_2 : decode cL_shape 2 = .ok (.aload_n 0, 1) := by decide +kernel
theorem dL_shape_3 : decode cL_shape 3 = .ok (.invokevirtual 7, 3) := by decide +kernel
theorem dL_shape_6 : decode cL_shape 6 = .ok (.i2l, 1) := by decide +kernel
theorem dL_shape_7 : decode cL_shape 7 = .ok (.lastore, 1) := by decide +kernel
theorem dL_shape_8 : decode cL_shape 8 = .ok (.goto 6, 3) := by decide +kernel
theorem dL_shape_11 : decode cL_shape 11 = .ok (.astore_n 2, 1) := by decide +kernel
theorem dL_shape_12 : decode cL_shape 12 = .ok (.iconst 1, 1) := by decide +kernel
theorem dL_shape_13 : decode cL_shape 13 = .ok (.ireturn, 1) := by decide +kernel
theorem dL_shape_14 : decode cL_shape 14 = .ok (.iconst 0, 1) := by decide +kernel
theorem dL_shape_15 : decode cL_shape 15 = .ok (.ireturn, 1) := by decide +kernel
theorem dL_corner_0 : decode cL_corner 0 = .ok (.aload 6, 2) := by decide +kernel
theorem dL_corner_2 : decode cL_corner 2 = .ok (.iconst 0, 1) := by decide +kernel
theorem dL_corner_3 : decode cL_corner 3 = .ok (.aload_n 0, 1) := by decide +kernel
theorem dL_corner_4 : decode cL_corner 4 = .ok (.iload_n 1, 1) := by decide +kernel
theorem dL_corner_5 : decode cL_corner 5 = .ok (.lload_n 2, 1) := by decide +kernel
theorem dL_corner_6 : decode cL_corner 6 = .ok (.lload 4, 2) := by decide +kernel
theorem dL_corner_8 : decode cL_corner 8 = .ok (.invokevirtual 15, 3) := by decide +kernel
theorem dL_corner_11 : decode cL_corner 11 = .ok (.ifCond .eq 7, 3) := by decide +kernel
theorem dL_corner_14 : decode cL_corner 14 = .ok (.lconst 1, 1) := by decide +kernel
theorem dL_corner_15 : decode cL_corner 15 = .ok (.goto 4, 3) := by decide +kernel
theorem dL_corner_18 : decode cL_corner 18 = .ok (.lconst 0, 1) := by decide +kernel
theorem dL_corner_19 : decode cL_corner 19 = .ok (.lastore, 1) := by decide +kernel
theorem dL_corner_20 : decode cL_corner 20 = .ok (.goto 15, 3) := by decide +kernel
theorem dL_corner_23 : decode cL_corner 23 = .ok (.astore 7, 2) := by decide +kernel
theorem dL_corner_25 : decode cL_corner 25 = .ok (.iconst 1, 1) := by decide +kernel
theorem dL_corner_26 : decode cL_corner 26 = .ok (.ireturn, 1) := by decide +kernel
theorem dL_corner_27 : decode cL_corner 27 = .ok (.astore 7, 2) := by decide +kernel
theorem dL_corner_29 : decode cL_corner 29 = .ok (.iconst 2, 1) := by decide +kernel
theorem dL_corner_30 : decode cL_corner 30 = .ok (.ireturn, 1) := by decide +kernel
theorem dL_corner_31 : decode cL_corner 31 = .ok (.astore 7, 2) := by decide +kernel
theorem dL_corner_33 : decode cL_corner 33 = .ok (.iconst 3, 1) := by decide +kernel
theorem dL_corner_34 : decode cL_corner 34 = .ok (.ireturn, 1) := by decide +kernel
theorem dL_corner_35 : decode cL_corner 35 = .ok (.iconst 0, 1) := by decide +kernel
theorem dL_corner_36 : decode cL_corner 36 = .ok (.ireturn, 1) := by decide +kernel
theorem dL_near_0 : decode cL_near 0 = .ok (.aload_n 1, 1) := by decide +kernel
theorem dL_near_1 : decode cL_near 1 = .ok (.iconst 0, 1) := by decide +kernel
theorem dL_near_2 : decode cL_near 2 = .ok (.aload_n 0, 1) := by decide +kernel
theorem dL_near_3 : decode cL_near 3 = .ok (.invokevirtual 23, 3) := by decide +kernel
theorem dL_near_6 : decode cL_near 6 = .ok (.i2l, 1) := by decide +kernel
theorem dL_near_7 : decode cL_near 7 = .ok (.lastore, 1) := by decide +kernel
theorem dL_near_8 : decode cL_near 8 = .ok (.goto 6, 3) := by decide +kernel
theorem dL_near_11 : decode cL_near 11 = .ok (.astore_n 2, 1) := by decide +kernel
theorem dL_near_12 : decode cL_near 12 = .ok (.iconst 1, 1) := by decide +kernel
theorem dL_near_13 : decode cL_near 13 = .ok (.ireturn, 1) := by decide +kernel
theorem dL_near_14 : decode cL_near 14 = .ok (.iconst 0, 1) := by decide +kernel
theorem dL_near_15 : decode cL_near 15 = .ok (.ireturn, 1) := by decide +kernel
theorem dL_run_0 : decode cL_run 0 = .ok (.aload 4, 2) := by decide +kernel
theorem dL_run_2 : decode cL_run 2 = .ok (.iconst 0, 1) := by decide +kernel
theorem dL_run_3 : decode cL_run 3 = .ok (.aload_n 0, 1) := by decide +kernel
theorem dL_run_4 : decode cL_run 4 = .ok (.iload_n 1, 1) := by decide +kernel
theorem dL_run_5 : decode cL_run 5 = .ok (.lload_n 2, 1) := by decide +kernel
theorem dL_run_6 : decode cL_run 6 = .ok (.invokevirtual 26, 3) := by decide +kernel
theorem dL_run_9 : decode cL_run 9 = .ok (.i2l, 1) := by decide +kernel
theorem dL_run_10 : decode cL_run 10 = .ok (.lastore, 1) := by decide +kernel
theorem dL_run_11 : decode cL_run 11 = .ok (.goto 11, 3) := by decide +kernel
theorem dL_run_14 : decode cL_run 14 = .ok (.astore 5, 2) := by decide +kernel
theorem dL_run_16 : decode cL_run 16 = .ok (.iconst 1, 1) := by decide +kernel
theorem dL_run_17 : decode cL_run 17 = .ok (.ireturn, 1) := by decide +kernel
theorem dL_run_18 : decode cL_run 18 = .ok (.astore 5, 2) := by decide +kernel
theorem dL_run_20 : decode cL_run 20 = .ok (.iconst 2, 1) := by decide +kernel
theorem dL_run_21 : decode cL_run 21 = .ok (.ireturn, 1) := by decide +kernel
theorem dL_run_22 : decode cL_run 22 = .ok (.iconst 0, 1) := by decide +kernel
theorem dL_run_23 : decode cL_run 23 = .ok (.ireturn, 1) := by decide +kernel
theorem dL_colour_0 : decode cL_colour 0 = .ok (.aload_n 2, 1) := by decide +kernel
theorem dL_colour_1 : decode cL_colour 1 = .ok (.iconst 0, 1) := by decide +kernel
theorem dL_colour_2 : decode cL_colour 2 = .ok (.aload_n 0, 1) := by decide +kernel
theorem dL_colour_3 : decode cL_colour 3 = .ok (.iload_n 1, 1) := by decide +kernel
theorem dL_colour_4 : decode cL_colour 4 = .ok (.invokevirtual 30, 3) := by decide +kernel
theorem dL_colour_7 : decode cL_colour 7 = .ok (.i2l, 1) := by decide +kernel
theorem dL_colour_8 : decode cL_colour 8 = .ok (.lastore, 1) := by decide +kernel
theorem dL_colour_9 : decode cL_colour 9 = .ok (.goto 6, 3) := by decide +kernel
theorem dL_colour_12 : decode cL_colour 12 = .ok (.astore_n 3, 1) := by decide +kernel
theorem dL_colour_13 : decode cL_colour 13 = .ok (.iconst 1, 1) := by decide +kernel
theorem dL_colour_14 : decode cL_colour 14 = .ok (.ireturn, 1) := by decide +kernel
theorem dL_colour_15 : decode cL_colour 15 = .ok (.iconst 0, 1) := by decide +kernel
theorem dL_colour_16 : decode cL_colour 16 = .ok (.ireturn, 1) := by decide +kernel
theorem dL_ring_0 : decode cL_ring 0 = .ok (.aload_n 2, 1) := by decide +kernel
theorem dL_ring_1 : decode cL_ring 1 = .ok (.iconst 0, 1) := by decide +kernel
theorem dL_ring_2 : decode cL_ring 2 = .ok (.aload_n 0, 1) := by decide +kernel
theorem dL_ring_3 : decode cL_ring 3 = .ok (.iload_n 1, 1) := by decide +kernel
theorem dL_ring_4 : decode cL_ring 4 = .ok (.invokevirtual 34, 3) := by decide +kernel
theorem dL_ring_7 : decode cL_ring 7 = .ok (.i2l, 1) := by decide +kernel
theorem dL_ring_8 : decode cL_ring 8 = .ok (.lastore, 1) := by decide +kernel
theorem dL_ring_9 : decode cL_ring 9 = .ok (.goto 6, 3) := by decide +kernel
theorem dL_ring_12 : decode cL_ring 12 = .ok (.astore_n 3, 1) := by decide +kernel
theorem dL_ring_13 : decode cL_ring 13 = .ok (.iconst 1, 1) := by decide +kernel
theorem dL_ring_14 : decode cL_ring 14 = .ok (.ireturn, 1) := by decide +kernel
theorem dL_ring_15 : decode cL_ring 15 = .ok (.iconst 0, 1) := by decide +kernel
theorem dL_ring_16 : decode cL_ring 16 = .ok (.ireturn, 1) := by decide +kernel
theorem dL_pre_0 : decode cL_pre 0 = .ok (.aload_n 3, 1) := by decide +kernel
theorem dL_pre_1 : decode cL_pre 1 = .ok (.iconst 0, 1) := by decide +kernel
theorem dL_pre_2 : decode cL_pre 2 = .ok (.aload_n 0, 1) := by decide +kernel
theorem dL_pre_3 : decode cL_pre 3 = .ok (.iload_n 1, 1) := by decide +kernel
theorem dL_pre_4 : decode cL_pre 4 = .ok (.iload_n 2, 1) := by decide +kernel
theorem dL_pre_5 : decode cL_pre 5 = .ok (.invokevirtual 37, 3) := by decide +kernel
theorem dL_pre_8 : decode cL_pre 8 = .ok (.ifCond .eq 7, 3) := by decide +kernel
theorem dL_pre_11 : decode cL_pre 11 = .ok (.lconst 1, 1) := by decide +kernel
theorem dL_pre_12 : decode cL_pre 12 = .ok (.goto 4, 3) := by decide +kernel
theorem dL_pre_15 : decode cL_pre 15 = .ok (.lconst 0, 1) := by decide +kernel
theorem dL_pre_16 : decode cL_pre 16 = .ok (.lastore, 1) := by decide +kernel
theorem dL_pre_17 : decode cL_pre 17 = .ok (.goto 15, 3) := by decide +kernel
theorem dL_pre_20 : decode cL_pre 20 = .ok (.astore 4, 2) := by decide +kernel
theorem dL_pre_22 : decode cL_pre 22 = .ok (.iconst 1, 1) := by decide +kernel
theorem dL_pre_23 : decode cL_pre 23 = .ok (.ireturn, 1) := by decide +kernel
theorem dL_pre_24 : decode cL_pre 24 = .ok (.astore 4, 2) := by decide +kernel
theorem dL_pre_26 : decode cL_pre 26 = .ok (.iconst 2, 1) := by decide +kernel
theorem dL_pre_27 : decode cL_pre 27 = .ok (.ireturn, 1) := by decide +kernel
theorem dL_pre_28 : decode cL_pre 28 = .ok (.astore 4, 2) := by decide +kernel
theorem dL_pre_30 : decode cL_pre 30 = .ok (.iconst 3, 1) := by decide +kernel
theorem dL_pre_31 : decode cL_pre 31 = .ok (.ireturn, 1) := by decide +kernel
theorem dL_pre_32 : decode cL_pre 32 = .ok (.iconst 0, 1) := by decide +kernel
theorem dL_pre_33 : decode cL_pre 33 = .ok (.ireturn, 1) := by decide +kernel
theorem dL_stitch_0 : decode cL_stitch 0 = .ok (.aload 5, 2) := by decide +kernel
theorem dL_stitch_2 : decode cL_stitch 2 = .ok (.iconst 0, 1) := by decide +kernel
theorem dL_stitch_3 : decode cL_stitch 3 = .ok (.aload_n 0, 1) := by decide +kernel
theorem dL_stitch_4 : decode cL_stitch 4 = .ok (.iload_n 1, 1) := by decide +kernel
theorem dL_stitch_5 : decode cL_stitch 5 = .ok (.lload_n 2, 1) := by decide +kernel
theorem dL_stitch_6 : decode cL_stitch 6 = .ok (.iload 4, 2) := by decide +kernel
theorem dL_stitch_8 : decode cL_stitch 8 = .ok (.invokevirtual 41, 3) := by decide +kernel
theorem dL_stitch_11 : decode cL_stitch 11 = .ok (.ifCond .eq 7, 3) := by decide +kernel
theorem dL_stitch_14 : decode cL_stitch 14 = .ok (.lconst 1, 1) := by decide +kernel
theorem dL_stitch_15 : decode cL_stitch 15 = .ok (.goto 4, 3) := by decide +kernel
theorem dL_stitch_18 : decode cL_stitch 18 = .ok (.lconst 0, 1) := by decide +kernel
theorem dL_stitch_19 : decode cL_stitch 19 = .ok (.lastore, 1) := by decide +kernel
theorem dL_stitch_20 : decode cL_stitch 20 = .ok (.goto 15, 3) := by decide +kernel
theorem dL_stitch_23 : decode cL_stitch 23 = .ok (.astore 6, 2) := by decide +kernel
theorem dL_stitch_25 : decode cL_stitch 25 = .ok (.iconst 1, 1) := by decide +kernel
theorem dL_stitch_26 : decode cL_stitch 26 = .ok (.ireturn, 1) := by decide +kernel
theorem dL_stitch_27 : decode cL_stitch 27 = .ok (.astore 6, 2) := by decide +kernel
theorem dL_stitch_29 : decode cL_stitch 29 = .ok (.iconst 2, 1) := by decide +kernel
theorem dL_stitch_30 : decode cL_stitch 30 = .ok (.ireturn, 1) := by decide +kernel
theorem dL_stitch_31 : decode cL_stitch 31 = .ok (.astore 6, 2) := by decide +kernel
theorem dL_stitch_33 : decode cL_stitch 33 = .ok (.iconst 3, 1) := by decide +kernel
theorem dL_stitch_34 : decode cL_stitch 34 = .ok (.ireturn, 1) := by decide +kernel
theorem dL_stitch_35 : decode cL_stitch 35 = .ok (.iconst 0, 1) := by decide +kernel
theorem dL_stitch_36 : decode cL_stitch 36 = .ok (.ireturn, 1) := by decide +kernel
theorem dL_used_0 : decode cL_used 0 = .ok (.aload_n 3, 1) := by decide +kernel
theorem dL_used_1 : decode cL_used 1 = .ok (.iconst 0, 1) := by decide +kernel
theorem dL_used_2 : decode cL_used 2 = .ok (.aload_n 0, 1) := by decide +kernel
theorem dL_used_3 : decode cL_used 3 = .ok (.iload_n 1, 1) := by decide +kernel
theorem dL_used_4 : decode cL_used 4 = .ok (.iload_n 2, 1) := by decide +kernel
theorem dL_used_5 : decode cL_used 5 = .ok (.invokevirtual 45, 3) := by decide +kernel
theorem dL_used_8 : decode cL_used 8 = .ok (.ifCond .eq 7, 3) := by decide +kernel
theorem dL_used_11 : decode cL_used 11 = .ok (.lconst 1, 1) := by decide +kernel
theorem dL_used_12 : decode cL_used 12 = .ok (.goto 4, 3) := by decide +kernel
theorem dL_used_15 : decode cL_used 15 = .ok (.lconst 0, 1) := by decide +kernel
theorem dL_used_16 : decode cL_used 16 = .ok (.lastore, 1) := by decide +kernel
theorem dL_used_17 : decode cL_used 17 = .ok (.goto 7, 3) := by decide +kernel
theorem dL_used_20 : decode cL_used 20 = .ok (.astore 4, 2) := by decide +kernel
theorem dL_used_22 : decode cL_used 22 = .ok (.iconst 1, 1) := by decide +kernel
theorem dL_used_23 : decode cL_used 23 = .ok (.ireturn, 1) := by decide +kernel
theorem dL_used_24 : decode cL_used 24 = .ok (.iconst 0, 1) := by decide +kernel
theorem dL_used_25 : decode cL_used 25 = .ok (.ireturn, 1) := by decide +kernel
theorem dL_balance_0 : decode cL_balance 0 = .ok (.aload_n 3, 1) := by decide +kernel
theorem dL_balance_1 : decode cL_balance 1 = .ok (.iconst 0, 1) := by decide +kernel
theorem dL_balance_2 : decode cL_balance 2 = .ok (.aload_n 0, 1) := by decide +kernel
theorem dL_balance_3 : decode cL_balance 3 = .ok (.iload_n 1, 1) := by decide +kernel
theorem dL_balance_4 : decode cL_balance 4 = .ok (.iload_n 2, 1) := by decide +kernel
theorem dL_balance_5 : decode cL_balance 5 = .ok (.invokevirtual 48, 3) := by decide +kernel
theorem dL_balance_8 : decode cL_balance 8 = .ok (.lastore, 1) := by decide +kernel
theorem dL_balance_9 : decode cL_balance 9 = .ok (.goto 11, 3) := by decide +kernel
theorem dL_balance_12 : decode cL_balance 12 = .ok (.astore 4, 2) := by decide +kernel
theorem dL_balance_14 : decode cL_balance 14 = .ok (.iconst 1, 1) := by decide +kernel
theorem dL_balance_15 : decode cL_balance 15 = .ok (.ireturn, 1) := by decide +kernel
theorem dL_balance_16 : decode cL_balance 16 = .ok (.astore 4, 2) := by decide +kernel
theorem dL_balance_18 : decode cL_balance 18 = .ok (.iconst 2, 1) := by decide +kernel
theorem dL_balance_19 : decode cL_balance 19 = .ok (.ireturn, 1) := by decide +kernel
theorem dL_balance_20 : decode cL_balance 20 = .ok (.iconst 0, 1) := by decide +kernel
theorem dL_balance_21 : decode cL_balance 21 = .ok (.ireturn, 1) := by decide +kernel
theorem dL_pair_0 : decode cL_pair 0 = .ok (.aload_n 3, 1) := by decide +kernel
theorem dL_pair_1 : decode cL_pair 1 = .ok (.iconst 0, 1) := by decide +kernel
theorem dL_pair_2 : decode cL_pair 2 = .ok (.aload_n 0, 1) := by decide +kernel
theorem dL_pair_3 : decode cL_pair 3 = .ok (.iload_n 1, 1) := by decide +kernel
theorem dL_pair_4 : decode cL_pair 4 = .ok (.iload_n 2, 1) := by decide +kernel
theorem dL_pair_5 : decode cL_pair 5 = .ok (.invokevirtual 52, 3) := by decide +kernel
theorem dL_pair_8 : decode cL_pair 8 = .ok (.i2l, 1) := by decide +kernel
theorem dL_pair_9 : decode cL_pair 9 = .ok (.lastore, 1) := by decide +kernel
theorem dL_pair_10 : decode cL_pair 10 = .ok (.goto 11, 3) := by decide +kernel
theorem dL_pair_13 : decode cL_pair 13 = .ok (.astore 4, 2) := by decide +kernel
theorem dL_pair_15 : decode cL_pair 15 = .ok (.iconst 1, 1) := by decide +kernel
theorem dL_pair_16 : decode cL_pair 16 = .ok (.ireturn, 1) := by decide +kernel
theorem dL_pair_17 : decode cL_pair 17 = .ok (.astore 4, 2) := by decide +kernel
theorem dL_pair_19 : decode cL_pair 19 = .ok (.iconst 2, 1) := by decide +kernel
theorem dL_pair_20 : decode cL_pair 20 = .ok (.ireturn, 1) := by decide +kernel
theorem dL_pair_21 : decode cL_pair 21 = .ok (.iconst 0, 1) := by decide +kernel
theorem dL_pair_22 : decode cL_pair 22 = .ok (.ireturn, 1) := by decide +kernel
theorem dL_law_0 : decode cL_law 0 = .ok (.new 8, 3) := by decide +kernel
theorem dL_law_3 : decode cL_law 3 = .ok (.dup, 1) := by decide +kernel
theorem dL_law_4 : decode cL_law 4 = .ok (.aload_n 0, 1) := by decide +kernel
theorem dL_law_5 : decode cL_law 5 = .ok (.iconst 0, 1) := by decide +kernel
theorem dL_law_6 : decode cL_law 6 = .ok (.invokestatic 56, 3) := by decide +kernel
theorem dL_law_9 : decode cL_law 9 = .ok (.i2l, 1) := by decide +kernel
theorem dL_law_10 : decode cL_law 10 = .ok (.invokespecial 62, 3) := by decide +kernel
theorem dL_law_13 : decode cL_law 13 = .ok (.astore_n 1, 1) := by decide +kernel
theorem dL_law_14 : decode cL_law 14 = .ok (.new 65, 3) := by decide +kernel
theorem dL_law_17 : decode cL_law 17 = .ok (.dup, 1) := by decide +kernel
theorem dL_law_18 : decode cL_law 18 = .ok (.aload_n 0, 1) := by decide +kernel
theorem dL_law_19 : decode cL_law 19 = .ok (.iconst 0, 1) := by decide +kernel
