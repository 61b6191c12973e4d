theorem dX4_tryColour_96 : decode cX4_tryColour 96 = .ok (.goto 4, 3) := by decide +kernel
theorem dX4_tryColour_99 : decode cX4_tryColour 99 = .ok (.iload_n 3, 1) := by decide +kernel
theorem dX4_tryColour_100 : decode cX4_tryColour 100 = .ok (.iload 4, 2) := by decide +kernel
theorem dX4_tryColour_102 : decode cX4_tryColour 102 = .ok (.invokevirtual 65, 3) := by decide +kernel
theorem dX4_tryColour_105 : decode cX4_tryColour 105 = .ok (.aload_n 0, 1) := by decide +kernel
theorem dX4_tryColour_106 : decode cX4_tryColour 106 = .ok (.getfield 22, 3) := by decide +kernel
theorem dX4_tryColour_109 : decode cX4_tryColour 109 = .ok (.iload_n 2, 1) := by decide +kernel
theorem dX4_tryColour_110 : decode cX4_tryColour 110 = .ok (.iload 6, 2) := by decide +kernel
theorem dX4_tryColour_112 : decode cX4_tryColour 112 = .ok (.iastore, 1) := by decide +kernel
theorem dX4_tryColour_113 : decode cX4_tryColour 113 = .ok (.return_, 1) := by decide +kernel
theorem dX4_canHave_0 : decode cX4_canHave 0 = .ok (.aload_n 0, 1) := by decide +kernel
theorem dX4_canHave_1 : decode cX4_canHave 1 = .ok (.getfield 15, 3) := by decide +kernel
theorem dX4_canHave_4 : decode cX4_canHave 4 = .ok (.iload_n 1, 1) := by decide +kernel
theorem dX4_canHave_5 : decode cX4_canHave 5 = .ok (.iaload, 1) := by decide +kernel
theorem dX4_canHave_6 : decode cX4_canHave 6 = .ok (.iconst (-1), 1) := by decide +kernel
theorem dX4_canHave_7 : decode cX4_canHave 7 = .ok (.if_icmp .eq 13, 3) := by decide +kernel
theorem dX4_canHave_10 : decode cX4_canHave 10 = .ok (.aload_n 0, 1) := by decide +kernel
theorem dX4_canHave_11 : decode cX4_canHave 11 = .ok (.getfield 15, 3) := by decide +kernel
theorem dX4_canHave_14 : decode cX4_canHave 14 = .ok (.iload_n 1, 1) := by decide +kernel
theorem dX4_canHave_15 : decode cX4_canHave 15 = .ok (.iaload, 1) := by decide +kernel
theorem dX4_canHave_16 : decode cX4_canHave 16 = .ok (.iload_n 2, 1) := by decide +kernel
theorem dX4_canHave_17 : decode cX4_canHave 17 = .ok (.if_icmp .ne 23, 3) := by decide +kernel
theorem dX4_canHave_20 : decode cX4_canHave 20 = .ok (.aload_n 0, 1) := by decide +kernel
theorem dX4_canHave_21 : decode cX4_canHave 21 = .ok (.getfield 9, 3) := by decide +kernel
theorem dX4_canHave_24 : decode cX4_canHave 24 = .ok (.iload_n 1, 1) := by decide +kernel
theorem dX4_canHave_25 : decode cX4_canHave 25 = .ok (.iaload, 1) := by decide +kernel
theorem dX4_canHave_26 : decode cX4_canHave 26 = .ok (.aload_n 0, 1) := by decide +kernel
theorem dX4_canHave_27 : decode cX4_canHave 27 = .ok (.getfield 22, 3) := by decide +kernel
theorem dX4_canHave_30 : decode cX4_canHave 30 = .ok (.iload_n 2, 1) := by decide +kernel
theorem dX4_canHave_31 : decode cX4_canHave 31 = .ok (.iaload, 1) := by decide +kernel
theorem dX4_canHave_32 : decode cX4_canHave 32 = .ok (.iand, 1) := by decide +kernel
theorem dX4_canHave_33 : decode cX4_canHave 33 = .ok (.ifCond .ne 7, 3) := by decide +kernel
theorem dX4_canHave_36 : decode cX4_canHave 36 = .ok (.iconst 1, 1) := by decide +kernel
theorem dX4_canHave_37 : decode cX4_canHave 37 = .ok (.goto 4, 3) := by decide +kernel
theorem dX4_canHave_40 : decode cX4_canHave 40 = .ok (.iconst 0, 1) := by decide +kernel
theorem dX4_canHave_41 : decode cX4_canHave 41 = .ok (.ireturn, 1) := by decide +kernel
theorem dX4_isDeadEnd_0 : decode cX4_isDeadEnd 0 = .ok (.iload_n 1, 1) := by decide +kernel
theorem dX4_isDeadEnd_1 : decode cX4_isDeadEnd 1 = .ok (.istore_n 2, 1) := by decide +kernel
theorem dX4_isDeadEnd_2 : decode cX4_isDeadEnd 2 = .ok (.iload_n 2, 1) := by decide +kernel
theorem dX4_isDeadEnd_3 : decode cX4_isDeadEnd 3 = .ok (.aload_n 0, 1) := by decide +kernel
theorem dX4_isDeadEnd_4 : decode cX4_isDeadEnd 4 = .ok (.getfield 53, 3) := by decide +kernel
theorem dX4_isDeadEnd_7 : decode cX4_isDeadEnd 7 = .ok (.if_icmp .ge 47, 3) := by decide +kernel
theorem dX4_isDeadEnd_10 : decode cX4_isDeadEnd 10 = .ok (.iconst 0, 1) := by decide +kernel
theorem dX4_isDeadEnd_11 : decode cX4_isDeadEnd 11 = .ok (.istore_n 3, 1) := by decide +kernel
theorem dX4_isDeadEnd_12 : decode cX4_isDeadEnd 12 = .ok (.iconst 0, 1) := by decide +kernel
theorem dX4_isDeadEnd_13 : decode cX4_isDeadEnd 13 = .ok (.istore 4, 2) := by decide +kernel
theorem dX4_isDeadEnd_15 : decode cX4_isDeadEnd 15 = .ok (.iload 4, 2) := by decide +kernel
theorem dX4_isDeadEnd_17 : decode cX4_isDeadEnd 17 = .ok (.aload_n 0, 1) := by decide +kernel
theorem dX4_isDeadEnd_18 : decode cX4_isDeadEnd 18 = .ok (.getfield 44, 3) := by decide +kernel
theorem dX4_isDeadEnd_21 : decode cX4_isDeadEnd 21 = .ok (.if_icmp .ge 21, 3) := by decide +kernel
theorem dX4_isDeadEnd_24 : decode cX4_isDeadEnd 24 = .ok (.iload_n 3, 1) := by decide +kernel
theorem dX4_isDeadEnd_25 : decode cX4_isDeadEnd 25 = .ok (.ifCond .ne 17, 3) := by decide +kernel
theorem dX4_isDeadEnd_28 : decode cX4_isDeadEnd 28 = .ok (.aload_n 0, 1) := by decide +kernel
theorem dX4_isDeadEnd_29 : decode cX4_isDeadEnd 29 = .ok (.iload_n 2, 1) := by decide +kernel
theorem dX4_isDeadEnd_30 : decode cX4_isDeadEnd 30 = .ok (.iload 4, 2) := by decide +kernel
theorem dX4_isDeadEnd_32 : decode cX4_isDeadEnd 32 = .ok (.invokevirtual 78, 3) := by decide +kernel
theorem dX4_isDeadEnd_35 : decode cX4_isDeadEnd 35 = .ok (.istore_n 3, 1) := by decide +kernel
theorem dX4_isDeadEnd_36 : decode cX4_isDeadEnd 36 = .ok (.iinc 4 1, 3) := by decide +kernel
theorem dX4_isDeadEnd_39 : decode cX4_isDeadEnd 39 = .ok (.goto (-24), 3) := by decide +kernel
theorem dX4_isDeadEnd_42 : decode cX4_isDeadEnd 42 = .ok (.iload_n 3, 1) := by decide +kernel
theorem dX4_isDeadEnd_43 : decode cX4_isDeadEnd 43 = .ok (.ifCond .ne 5, 3) := by decide +kernel
theorem dX4_isDeadEnd_46 : decode cX4_isDeadEnd 46 = .ok (.iconst 1, 1) := by decide +kernel
theorem dX4_isDeadEnd_47 : decode cX4_isDeadEnd 47 = .ok (.ireturn, 1) := by decide +kernel
theorem dX4_isDeadEnd_48 : decode cX4_isDeadEnd 48 = .ok (.iinc 2 1, 3) := by decide +kernel
theorem dX4_isDeadEnd_51 : decode cX4_isDeadEnd 51 = .ok (.goto (-49), 3) := by decide +kernel
theorem dX4_isDeadEnd_54 : decode cX4_isDeadEnd 54 = .ok (.iconst 0, 1) := by decide +kernel
theorem dX4_isDeadEnd_55 : decode cX4_isDeadEnd 55 = .ok (.ireturn, 1) := by decide +kernel
theorem dX5_init_0 : decode cX5_init 0 = .ok (.aload_n 0, 1) := by decide +kernel
theorem dX5_init_1 : decode cX5_init 1 = .ok (.invokespecial 3, 3) := by decide +kernel
theorem dX5_init_4 : decode cX5_init 4 = .ok (.aload_n 0, 1) := by decide +kernel
theorem dX5_init_5 : decode cX5_init 5 = .ok (.new 9, 3) := by decide +kernel
theorem dX5_init_8 : decode cX5_init 8 = .ok (.dup, 1) := by decide +kernel
theorem dX5_init_9 : decode cX5_init 9 = .ok (.invokespecial 11, 3) := by decide +kernel
theorem dX5_init_12 : decode cX5_init 12 = .ok (.putfield 12, 3) := by decide +kernel
theorem dX5_init_15 : decode cX5_init 15 = .ok (.aload_n 0, 1) := by decide +kernel
theorem dX5_init_16 : decode cX5_init 16 = .ok (.iconst 3, 1) := by decide +kernel
theorem dX5_init_17 : decode cX5_init 17 = .ok (.newarray .long, 2) := by decide +kernel
theorem dX5_init_19 : decode cX5_init 19 = .ok (.putfield 18, 3) := by decide +kernel
theorem dX5_init_22 : decode cX5_init 22 = .ok (.aload_n 0, 1) := by decide +kernel
theorem dX5_init_23 : decode cX5_init 23 = .ok (.iconst 0, 1) := by decide +kernel
theorem dX5_init_24 : decode cX5_init 24 = .ok (.putfield 22, 3) := by decide +kernel
theorem dX5_init_27 : decode cX5_init 27 = .ok (.aload_n 0, 1) := by decide +kernel
theorem dX5_init_28 : decode cX5_init 28 = .ok (.iconst 0, 1) := by decide +kernel
theorem dX5_init_29 : decode cX5_init 29 = .ok (.putfield 26, 3) := by decide +kernel
theorem dX5_init_32 : decode cX5_init 32 = .ok (.aload_n 0, 1) := by decide +kernel
theorem dX5_init_33 : decode cX5_init 33 = .ok (.iconst (-1), 1) := by decide +kernel
theorem dX5_init_34 : decode cX5_init 34 = .ok (.putfield 30, 3) := by decide +kernel
theorem dX5_init_37 : decode cX5_init 37 = .ok (.aload_n 0, 1) := by decide +kernel
theorem dX5_init_38 : decode cX5_init 38 = .ok (.iconst 0, 1) := by decide +kernel
theorem dX5_init_39 : decode cX5_init 39 = .ok (.putfield 33, 3) := by decide +kernel
theorem dX5_init_42 : decode cX5_init 42 = .ok (.aload_n 0, 1) := by decide +kernel
theorem dX5_init_43 : decode cX5_init 43 = .ok (.iconst 0, 1) := by decide +kernel
theorem dX5_init_44 : decode cX5_init 44 = .ok (.putfield 36, 3) := by decide +kernel
theorem dX5_init_47 : decode cX5_init 47 = .ok (.aload_n 0, 1) := by decide +kernel
theorem dX5_init_48 : decode cX5_init 48 = .ok (.lconst 0, 1) := by decide +kernel
theorem dX5_init_49 : decode cX5_init 49 = .ok (.putfield 39, 3) := by decide +kernel
theorem dX5_init_52 : decode cX5_init 52 = .ok (.aload_n 0, 1) := by decide +kernel
theorem dX5_init_53 : decode cX5_init 53 = .ok (.lconst 0, 1) := by decide +kernel
theorem dX5_init_54 : decode cX5_init 54 = .ok (.putfield 43, 3) := by decide +kernel
theorem dX5_init_57 : decode cX5_init 57 = .ok (.return_, 1) := by decide +kernel
theorem dX5_isOpen_0 : decode cX5_isOpen 0 = .ok (.aload_n 0, 1) := by decide +kernel
theorem dX5_isOpen_1 : decode cX5_isOpen 1 = .ok (.getfield 36, 3) := by decide +kernel
theorem dX5_isOpen_4 : decode cX5_isOpen 4 = .ok (.ifCond .ne 13, 3) := by decide +kernel
theorem dX5_isOpen_7 : decode cX5_isOpen 7 = .ok (.aload_n 0, 1) := by decide +kernel
theorem dX5_isOpen_8 : decode cX5_isOpen 8 = .ok (.getfield 12, 3) := by decide +kernel
theorem dX5_isOpen_11 : decode cX5_isOpen 11 = .ok (.invokevirtual 46, 3) := by decide +kernel
theorem dX5_isOpen_14 : decode cX5_isOpen 14 = .ok (.ifCond .eq 7, 3) := by decide +kernel
theorem dX5_isOpen_17 : decode cX5_isOpen 17 = .ok (.iconst 1, 1) := by decide +kernel
theorem dX5_isOpen_18 : decode cX5_isOpen 18 = .ok (.goto 4, 3) := by decide +kernel
theorem dX5_isOpen_21 : decode cX5_isOpen 21 = .ok (.iconst 0, 1) := by decide +kernel
theorem dX5_isOpen_22 : decode cX5_isOpen 22 = .ok (.ireturn, 1) := by decide +kernel
theorem dX5_isNearShape_0 : decode cX5_isNearShape 0 = .ok (.aload_n 0, 1) := by decide +kernel
theorem dX5_isNearShape_1 : decode cX5_isNearShape 1 = .ok (.getfield 33, 3) := by decide +kernel
theorem dX5_isNearShape_4 : decode cX5_isNearShape 4 = .ok (.iload_n 1, 1) := by decide +kernel
theorem dX5_isNearShape_5 : decode cX5_isNearShape 5 = .ok (.ishr, 1) := by decide +kernel
theorem dX5_isNearShape_6 : decode cX5_isNearShape 6 = .ok (.iconst 1, 1) := by decide +kernel
theorem dX5_isNearShape_7 : decode cX5_isNearShape 7 = .ok (.iand, 1) := by decide +kernel
theorem dX5_isNearShape_8 : decode cX5_isNearShape 8 = .ok (.ifCond .eq 7, 3) := by decide +kernel
theorem dX5_isNearShape_11 : decode cX5_isNearShape 11 = .ok (.iconst 1, 1) := by decide +kernel
theorem dX5_isNearShape_12 : decode cX5_isNearShape 12 = .ok (.goto 4, 3) := by decide +kernel
theorem dX5_isNearShape_15 : decode cX5_isNearShape 15 = .ok (.iconst 0, 1) := by decide +kernel
theorem dX5_isNearShape_16 : decode cX5_isNearShape 16 = .ok (.ireturn, 1) := by decide +kernel
theorem dX5_addCorner_0 : decode cX5_addCorner 0 = .ok (.aload_n 0, 1) := by decide +kernel
theorem dX5_addCorner_1 : decode cX5_addCorner 1 = .ok (.getfield 36, 3) := by decide +kernel
theorem dX5_addCorner_4 : decode cX5_addCorner 4 = .ok (.ifCond .eq 57, 3) := by decide +kernel
theorem dX5_addCorner_7 : decode cX5_addCorner 7 = .ok (.aload_n 0, 1) := by decide +kernel
theorem dX5_addCorner_8 : decode cX5_addCorner 8 = .ok (.getfield 12, 3) := by decide +kernel
theorem dX5_addCorner_11 : decode cX5_addCorner 11 = .ok (.new 50, 3) := by decide +kernel
theorem dX5_addCorner_14 : decode cX5_addCorner 14 = .ok (.dup, 1) := by decide +kernel
theorem dX5_addCorner_15 : decode cX5_addCorner 15 = .ok (.aload_n 0, 1) := by decide +kernel
theorem dX5_addCorner_16 : decode cX5_addCorner 16 = .ok (.getfield 39, 3) := by decide +kernel
theorem dX5_addCorner_19 : decode cX5_addCorner 19 = .ok (.lload_n 1, 1) := by decide +kernel
theorem dX5_addCorner_20 : decode cX5_addCorner 20 = .ok (.invokestatic 52, 3) := by decide +kernel
theorem dX5_addCorner_23 : decode cX5_addCorner 23 = .ok (.aload_n 0, 1) := by decide +kernel
theorem dX5_addCorner_24 : decode cX5_addCorner 24 = .ok (.getfield 43, 3) := by decide +kernel
theorem dX5_addCorner_27 : decode cX5_addCorner 27 = .ok (.lload_n 3, 1) := by decide +kernel
theorem dX5_addCorner_28 : decode cX5_addCorner 28 = .ok (.invokestatic 52, 3) := by decide +kernel
theorem dX5_addCorner_31 : decode cX5_addCorner 31 = .ok (.aload_n 0, 1) := by decide +kernel
theorem dX5_addCorner_32 : decode cX5_addCorner 32 = .ok (.getfield 39, 3) := by decide +kernel
theorem dX5_addCorner_35 : decode cX5_addCorner 35 = .ok (.lload_n 1, 1) := by decide +kernel
theorem dX5_addCorner_36 : decode cX5_addCorner 36 = .ok (.invokestatic 58, 3) := by decide +kernel
theorem dX5_addCorner_39 : decode cX5_addCorner 39 = .ok (.aload_n 0, 1) := by decide +kernel
theorem dX5_addCorner_40 : decode cX5_addCorner 40 = .ok (.getfield 43, 3) := by decide +kernel
theorem dX5_addCorner_43 : decode cX5_addCorner 43 = .ok (.lload_n 3, 1) := by decide +kernel
theorem dX5_addCorner_44 : decode cX5_addCorner 44 = .ok (.invokestatic 58, 3) := by decide +kernel
theorem dX5_addCorner_47 : decode cX5_addCorner 47 = .ok (.invokespecial 61, 3) := by decide +kernel
theorem dX5_addCorner_50 : decode cX5_addCorner 50 = .ok (.invokevirtual 64, 3) := by decide +kernel
theorem dX5_addCorner_53 : decode cX5_addCorner 53 = .ok (.pop, 1) := by decide +kernel
theorem dX5_addCorner_54 : decode cX5_addCorner 54 = .ok (.aload_n 0, 1) := by decide +kernel
theorem dX5_addCorner_55 : decode cX5_addCorner 55 = .ok (.iconst 0, 1) := by decide +kernel
theorem dX5_addCorner_56 : decode cX5_addCorner 56 = .ok (.putfield 36, 3) := by decide +kernel
theorem dX5_addCorner_59 : decode cX5_addCorner 59 = .ok (.iconst 1, 1) := by decide +kernel
theorem dX5_addCorner_60 : decode cX5_addCorner 60 = .ok (.ireturn, 1) := by decide +kernel
theorem dX5_addCorner_61 : decode cX5_addCorner 61 = .ok (.aload_n 0, 1) := by decide +kernel
theorem dX5_addCorner_62 : decode cX5_addCorner 62 = .ok (.lload_n 1, 1) := by decide +kernel
theorem dX5_addCorner_63 : decode cX5_addCorner 63 = .ok (.putfield 39, 3) := by decide +kernel
theorem dX5_addCorner_66 : decode cX5_addCorner 66 = .ok (.aload_n 0, 1) := by decide +kernel
theorem dX5_addCorner_67 : decode cX5_addCorner 67 = .ok (.lload_n 3, 1) := by decide +kernel
theorem dX5_addCorner_68 : decode cX5_addCorner 68 = .ok (.putfield 43, 3) := by decide +kernel
theorem dX5_addCorner_71 : decode cX5_addCorner 71 = .ok (.aload_n 0, 1) := by decide +kernel
theorem dX5_addCorner_72 : decode cX5_addCorner 72 = .ok (.iconst 1, 1) := by decide +kernel
theorem dX5_addCorner_73 : decode cX5_addCorner 73 = .ok (.putfield 36, 3) := by decide +kernel
theorem dX5_addCorner_76 : decode cX5_addCorner 76 = .ok (.iconst 0, 1) := by decide +kernel
theorem dX5_addCorner_77 : decode cX5_addCorner 77 = .ok (.ireturn, 1) := by decide +kernel
theorem dX5_hasStitch_0 : decode cX5_hasStitch 0 = .ok (.aload_n 0, 1) := by decide +kernel
theorem dX5_hasStitch_1 : decode cX5_hasStitch 1 = .ok (.getfield 26, 3) := by decide +kernel
theorem dX5_hasStitch_4 : decode cX5_hasStitch 4 = .ok (.iload_n 3, 1) := by decide +kernel
theorem dX5_hasStitch_5 : decode cX5_hasStitch 5 = .ok (.if_icmp .eq 5, 3) := by decide +kernel
theorem dX5_hasStitch_8 : decode cX5_hasStitch 8 = .ok (.iconst 0, 1) := by decide +kernel
theorem dX5_hasStitch_9 : decode cX5_hasStitch 9 = .ok (.ireturn, 1) := by decide +kernel
theorem dX5_hasStitch_10 : decode cX5_hasStitch 10 = .ok (.iconst 0, 1) := by decide +kernel
theorem dX5_hasStitch_11 : decode cX5_hasStitch 11 = .ok (.istore 4, 2) := by decide +kernel
theorem dX5_hasStitch_13 : decode cX5_hasStitch 13 = .ok (.iload 4, 2) := by decide +kernel
theorem dX5_hasStitch_15 : decode cX5_hasStitch 15 = .ok (.aload_n 0, 1) := by decide +kernel
theorem dX5_hasStitch_16 : decode cX5_hasStitch 16 = .ok (.getfield 22, 3) := by decide +kernel
theorem dX5_hasStitch_19 : decode cX5_hasStitch 19 = .ok (.if_icmp .ge 23, 3) := by decide +kernel
theorem dX5_hasStitch_22 : decode cX5_hasStitch 22 = .ok (.aload_n 0, 1) := by decide +kernel
theorem dX5_hasStitch_23 : decode cX5_hasStitch 23 = .ok (.getfield 18, 3) := by decide +kernel
theorem dX5_hasStitch_26 : decode cX5_hasStitch 26 = .ok (.iload 4, 2) := by decide +kernel
theorem dX5_hasStitch_28 : decode cX5_hasStitch 28 = .ok (.laload, 1) := by decide +kernel
theorem dX5_hasStitch_29 : decode cX5_hasStitch 29 = .ok (.lload_n 1, 1) := by decide +kernel
theorem dX5_hasStitch_30 : decode cX5_hasStitch 30 = .ok (.lcmp, 1) := by decide +kernel
theorem dX5_hasStitch_31 : decode cX5_hasStitch 31 = .ok (.ifCond .ne 5, 3) := by decide +kernel
theorem dX5_hasStitch_34 : decode cX5_hasStitch 34 = .ok (.iconst 1, 1) := by decide +kernel
theorem dX5_hasStitch_35 : decode cX5_hasStitch 35 = .ok (.ireturn, 1) := by decide +kernel
theorem dX5_hasStitch_36 : decode cX5_hasStitch 36 = .ok (.iinc 4 1, 3) := by decide +kernel
theorem dX5_hasStitch_39 : decode cX5_hasStitch 39 = .ok (.goto (-26), 3) := by decide +kernel
theorem dX5_hasStitch_42 : decode cX5_hasStitch 42 = .ok (.iconst 0, 1) := by decide +kernel
theorem dX5_hasStitch_43 : decode cX5_hasStitch 43 = .ok (.ireturn, 1) := by decide +kernel
theorem dX5_addStitch_0 : decode cX5_addStitch 0 = .ok (.aload_n 0, 1) := by decide +kernel
theorem dX5_addStitch_1 : decode cX5_addStitch 1 = .ok (.getfield 22, 3) := by decide +kernel
theorem dX5_addStitch_4 : decode cX5_addStitch 4 = .ok (.iconst 3, 1) := by decide +kernel
theorem dX5_addStitch_5 : decode cX5_addStitch 5 = .ok (.if_icmp .lt 4, 3) := by decide +kernel
theorem dX5_addStitch_8 : decode cX5_addStitch 8 = .ok (.return_, 1) := by decide +kernel
theorem dX5_addStitch_9 : decode cX5_addStitch 9 = .ok (.aload_n 0, 1) := by decide +kernel
theorem dX5_addStitch_10 : decode cX5_addStitch 10 = .ok (.getfield 22, 3) := by decide +kernel
theorem dX5_addStitch_13 : decode cX5_addStitch 13 = .ok (.istore 4, 2) := by decide +kernel
theorem dX5_addStitch_15 : decode cX5_addStitch 15 = .ok (.iload 4, 2) := by decide +kernel
theorem dX5_addStitch_17 : decode cX5_addStitch 17 = .ok (.ifCond .le 39, 3) := by decide +kernel
theorem dX5_addStitch_20 : decode cX5_addStitch 20 = .ok (.aload_n 0, 1) := by decide +kernel
theorem dX5_addStitch_21 : decode cX5_addStitch 21 = .ok (.getfield 18, 3) := by decide +kernel
theorem dX5_addStitch_24 : decode cX5_addStitch 24 = .ok (.iload 4, 2) := by decide +kernel
theorem dX5_addStitch_26 : decode cX5_addStitch 26 = .ok (.iconst 1, 1) := by decide +kernel
theorem dX5_addStitch_27 : decode cX5_addStitch 27 = .ok (.isub, 1) := by decide +kernel
theorem dX5_addStitch_28 : decode cX5_addStitch 28 = .ok (.laload, 1) := by decide +kernel
theorem dX5_addStitch_29 : decode cX5_addStitch 29 = .ok (.lload_n 1, 1) := by decide +kernel
theorem dX5_addStitch_30 : decode cX5_addStitch 30 = .ok (.lcmp, 1) := by decide +kernel
theorem dX5_addStitch_31 : decode cX5_addStitch 31 = .ok (.ifCond .le 25, 3) := by decide +kernel
theorem dX5_addStitch_34 : decode cX5_addStitch 34 = .ok (.aload_n 0, 1) := by decide +kernel
theorem dX5_addStitch_35 : decode cX5_addStitch 35 = .ok (.getfield 18, 3) := by decide +kernel
theorem dX5_addStitch_38 : decode cX5_addStitch 38 = .ok (.iload 4, 2) := by decide +kernel
theorem dX5_addStitch_40 : decode cX5_addStitch 40 = .ok (.aload_n 0, 1) := by decide +kernel
theorem dX5_addStitch_41 : decode cX5_addStitch 41 = .ok (.getfield 18, 3) := by decide +kernel
theorem dX5_addStitch_44 : decode cX5_addStitch 44 = .ok (.iload 4, 2) := by decide +kernel
theorem dX5_addStitch_46 : decode cX5_addStitch 46 = .ok (.iconst 1, 1) := by decide +kernel
theorem dX5_addStitch_47 : decode cX5_addStitch 47 = .ok (.isub, 1) := by decide +kernel
theorem dX5_addStitch_48 : decode cX5_addStitch 48 = .ok (.laload, 1) := by decide +kernel
theorem dX5_addStitch_49 : decode cX5_addStitch 49 = .ok (.lastore, 1) := by decide +kernel
theorem dX5_addStitch_50 : decode cX5_addStitch 50 = .ok (.iinc 4 (-1), 3) := by decide +kernel
theorem dX5_addStitch_53 : decode cX5_addStitch 53 = .ok (.goto (-38), 3) := by decide +kernel
theorem dX5_addStitch_56 : decode cX5_addStitch 56 = .ok (.aload_n 0, 1) := by decide +kernel
theorem dX5_addStitch_57 : decode cX5_addStitch 57 = .ok (.getfield 18, 3) := by decide +kernel
theorem dX5_addStitch_60 : decode cX5_addStitch 60 = .ok (.iload 4, 2) := by decide +kernel
theorem dX5_addStitch_62 : decode cX5_addStitch 62 = .ok (.lload_n 1, 1) := by decide +kernel
theorem dX5_addStitch_63 : decode cX5_addStitch 63 = .ok (.lastore, 1) := by decide +kernel
theorem dX5_addStitch_64 : decode cX5_addStitch 64 = .ok (.aload_n 0, 1) := by decide +kernel
theorem dX5_addStitch_65 : decode cX5_addStitch 65 = .ok (.dup, 1) := by decide +kernel
theorem dX5_addStitch_66 : decode cX5_addStitch 66 = .ok (.getfield 22, 3) := by decide +kernel
theorem dX5_addStitch_69 : decode cX5_addStitch 69 = .ok (.iconst 1, 1) := by decide +kernel
theorem dX5_addStitch_70 : decode cX5_addStitch 70 = .ok (.iadd, 1) := by decide +kernel
theorem dX5_addStitch_71 : decode cX5_addStitch 71 = .ok (.putfield 22, 3) := by decide +kernel
theorem dX5_addStitch_74 : decode cX5_addStitch 74 = .ok (.aload_n 0, 1) := by decide +kernel
theorem dX5_addStitch_75 : decode cX5_addStitch 75 = .ok (.iload_n 3, 1) := by decide +kernel
theorem dX5_addStitch_76 : decode cX5_addStitch 76 = .ok (.putfield 26, 3) := by decide +kernel
theorem dX5_addStitch_79 : decode cX5_addStitch 79 = .ok (.return_, 1) := by decide +kernel
theorem dX5_pieceBoxes_0 : decode cX5_pieceBoxes 0 = .ok (.aload_n 0, 1) := by decide +kernel
theorem dX5_pieceBoxes_1 : decode cX5_pieceBoxes 1 = .ok (.getfield 22, 3) := by decide +kernel
theorem dX5_pieceBoxes_4 : decode cX5_pieceBoxes 4 = .ok (.ifCond .eq 13, 3) := by decide +kernel
theorem dX5_pieceBoxes_7 : decode cX5_pieceBoxes 7 = .ok (.aload_n 0, 1) := by decide +kernel
theorem dX5_pieceBoxes_8 : decode cX5_pieceBoxes 8 = .ok (.getfield 12, 3) := by decide +kernel
theorem dX5_pieceBoxes_11 : decode cX5_pieceBoxes 11 = .ok (.invokevirtual 46, 3) := by decide +kernel
theorem dX5_pieceBoxes_14 : decode cX5_pieceBoxes 14 = .ok (.ifCond .eq 8, 3) := by decide +kernel
theorem dX5_pieceBoxes_17 : decode cX5_pieceBoxes 17 = .ok (.aload_n 0, 1) := by decide +kernel
theorem dX5_pieceBoxes_18 : decode cX5_pieceBoxes 18 = .ok (.getfield 12, 3) := by decide +kernel
theorem dX5_pieceBoxes_21 : decode cX5_pieceBoxes 21 = .ok (.areturn, 1) := by decide +kernel
theorem dX5_pieceBoxes_22 : decode cX5_pieceBoxes 22 = .ok (.new 9, 3) := by decide +kernel
theorem dX5_pieceBoxes_25 : decode cX5_pieceBoxes 25 = .ok (.dup, 1) := by decide +kernel
theorem dX5_pieceBoxes_26 : decode cX5_pieceBoxes 26 = .ok (.invokespecial 11, 3) := by decide +kernel
theorem dX5_pieceBoxes_29 : decode cX5_pieceBoxes 29 = .ok (.astore_n 2, 1) := by decide +kernel
theorem dX5_pieceBoxes_30 : decode cX5_pieceBoxes 30 = .ok (.aload_n 2, 1) := by decide +kernel
theorem dX5_pieceBoxes_31 : decode cX5_pieceBoxes 31 = .ok (.aload_n 0, 1) := by decide +kernel
theorem dX5_pieceBoxes_32 : decode cX5_pieceBoxes 32 = .ok (.aload_n 0, 1) := by decide +kernel
theorem dX5_pieceBoxes_33 : decode cX5_pieceBoxes 33 = .ok (.getfield 12, 3) := by decide +kernel
theorem dX5_pieceBoxes_36 : decode cX5_pieceBoxes 36 = .ok (.iconst 0, 1) := by decide +kernel
theorem dX5_pieceBoxes_37 : decode cX5_pieceBoxes 37 = .ok (.invokevirtual 68, 3) := by decide +kernel
theorem dX5_pieceBoxes_40 : decode cX5_pieceBoxes 40 = .ok (.checkcast 50, 3) := by decide +kernel
theorem dX5_pieceBoxes_43 : decode cX5_pieceBoxes 43 = .ok (.iload_n 1, 1) := by decide +kernel
theorem dX5_pieceBoxes_44 : decode cX5_pieceBoxes 44 = .ok (.invokevirtual 72, 3) := by decide +kernel
theorem dX5_pieceBoxes_47 : decode cX5_pieceBoxes 47 = .ok (.invokevirtual 64, 3) := by decide +kernel
theorem dX5_pieceBoxes_50 : decode cX5_pieceBoxes 50 = .ok (.pop, 1) := by decide +kernel
theorem dX5_pieceBoxes_51 : decode cX5_pieceBoxes 51 = .ok (.aload_n 2, 1) := by decide +kernel
theorem dX5_pieceBoxes_52 : decode cX5_pieceBoxes 52 = .ok (.areturn, 1) := by decide +kernel
theorem dX5_cutBox_0 : decode cX5_cutBox 0 = .ok (.iload_n 2, 1) := by decide +kernel
theorem dX5_cutBox_1 : decode cX5_cutBox 1 = .ok (.ifCond .le 15, 3) := by decide +kernel
theorem dX5_cutBox_4 : decode cX5_cutBox 4 = .ok (.iload_n 2, 1) := by decide +kernel
theorem dX5_cutBox_5 : decode cX5_cutBox 5 = .ok (.aload_n 0, 1) := by decide +kernel
theorem dX5_cutBox_6 : decode cX5_cutBox 6 = .ok (.getfield 22, 3) := by decide +kernel
theorem dX5_cutBox_9 : decode cX5_cutBox 9 = .ok (.if_icmp .gt 7, 3) := by decide +kernel
theorem dX5_cutBox_12 : decode cX5_cutBox 12 = .ok (.iconst 1, 1) := by decide +kernel
theorem dX5_cutBox_13 : decode cX5_cutBox 13 = .ok (.goto 4, 3) := by decide +kernel
theorem dX5_cutBox_16 : decode cX5_cutBox 16 = .ok (.iconst 0, 1) := by decide +kernel
theorem dX5_cutBox_17 : decode cX5_cutBox 17 = .ok (.istore_n 3, 1) := by decide +kernel
theorem dX5_cutBox_18 : decode cX5_cutBox 18 = .ok (.iload_n 2, 1) := by decide +kernel
theorem dX5_cutBox_19 : decode cX5_cutBox 19 = .ok (.ifCond .lt 15, 3) := by decide +kernel
theorem dX5_cutBox_22 : decode cX5_cutBox 22 = .ok (.iload_n 2, 1) := by decide +kernel
theorem dX5_cutBox_23 : decode cX5_cutBox 23 = .ok (.aload_n 0, 1) := by decide +kernel
theorem dX5_cutBox_24 : decode cX5_cutBox 24 = .ok (.getfield 22, 3) := by decide +kernel
theorem dX5_cutBox_27 : decode cX5_cutBox 27 = .ok (.if_icmp .ge 7, 3) := by decide +kernel
theorem dX5_cutBox_30 : decode cX5_cutBox 30 = .ok (.iconst 1, 1) := by decide +kernel
theorem dX5_cutBox_31 : decode cX5_cutBox 31 = .ok (.goto 4, 3) := by decide +kernel
theorem dX5_cutBox_34 : decode cX5_cutBox 34 = .ok (.iconst 0, 1) := by decide +kernel
theorem dX5_cutBox_35 : decode cX5_cutBox 35 = .ok (.istore 4, 2) := by decide +kernel
theorem dX5_cutBox_37 : decode cX5_cutBox 37 = .ok (.aload_n 0, 1) := by decide +kernel
theorem dX5_cutBox_38 : decode cX5_cutBox 38 = .ok (.getfield 26, 3) := by decide +kernel
theorem dX5_cutBox_41 : decode cX5_cutBox 41 = .ok (.ifCond .eq 56, 3) := by decide +kernel
theorem dX5_cutBox_44 : decode cX5_cutBox 44 = .ok (.new 50, 3) := by decide +kernel
theorem dX5_cutBox_47 : decode cX5_cutBox 47 = .ok (.dup, 1) := by decide +kernel
theorem dX5_cutBox_48 : decode cX5_cutBox 48 = .ok (.iload_n 3, 1) := by decide +kernel
theorem dX5_cutBox_49 : decode cX5_cutBox 49 = .ok (.ifCond .eq 14, 3) := by decide +kernel
theorem dX5_cutBox_52 : decode cX5_cutBox 52 = .ok (.aload_n 0, 1) := by decide +kernel
theorem dX5_cutBox_53 : decode cX5_cutBox 53 = .ok (.getfield 18, 3) := by decide +kernel
theorem dX5_cutBox_56 : decode cX5_cutBox 56 = .ok (.iload_n 2, 1) := by decide +kernel
theorem dX5_cutBox_57 : decode cX5_cutBox 57 = .ok (.iconst 1, 1) := by decide +kernel
theorem dX5_cutBox_58 : decode cX5_cutBox 58 = .ok (.isub, 1) := by decide +kernel
theorem dX5_cutBox_59 : decode cX5_cutBox 59 = .ok (.laload, 1) := by decide +kernel
theorem dX5_cutBox_60 : decode cX5_cutBox 60 = .ok (.goto 7, 3) := by decide +kernel
theorem dX5_cutBox_63 : decode cX5_cutBox 63 = .ok (.aload_n 1, 1) := by decide +kernel
theorem dX5_cutBox_64 : decode cX5_cutBox 64 = .ok (.getfield 76, 3) := by decide +kernel
theorem dX5_cutBox_67 : decode cX5_cutBox 67 = .ok (.aload_n 1, 1) := by decide +kernel
theorem dX5_cutBox_68 : decode cX5_cutBox 68 = .ok (.getfield 79, 3) := by decide +kernel
theorem dX5_cutBox_71 : decode cX5_cutBox 71 = .ok (.iload 4, 2) := by decide +kernel
theorem dX5_cutBox_73 : decode cX5_cutBox 73 = .ok (.ifCond .eq 12, 3) := by decide +kernel
theorem dX5_cutBox_76 : decode cX5_cutBox 76 = .ok (.aload_n 0, 1) := by decide +kernel
theorem dX5_cutBox_77 : decode cX5_cutBox 77 = .ok (.getfield 18, 3) := by decide +kernel
theorem dX5_cutBox_80 : decode cX5_cutBox 80 = .ok (.iload_n 2, 1) := by decide +kernel
theorem dX5_cutBox_81 : decode cX5_cutBox 81 = .ok (.laload, 1) := by decide +kernel
theorem dX5_cutBox_82 : decode cX5_cutBox 82 = .ok (.goto 7, 3) := by decide +kernel
theorem dX5_cutBox_85 : decode cX5_cutBox 85 = .ok (.aload_n 1, 1) := by decide +kernel
theorem dX5_cutBox_86 : decode cX5_cutBox 86 = .ok (.getfield 82, 3) := by decide +kernel
theorem dX5_cutBox_89 : decode cX5_cutBox 89 = .ok (.aload_n 1, 1) := by decide +kernel
theorem dX5_cutBox_90 : decode cX5_cutBox 90 = .ok (.getfield 85, 3) := by decide +kernel
theorem dX5_cutBox_93 : decode cX5_cutBox 93 = .ok (.invokespecial 61, 3) := by decide +kernel
theorem dX5_cutBox_96 : decode cX5_cutBox 96 = .ok (.areturn, 1) := by decide +kernel
theorem dX5_cutBox_97 : decode cX5_cutBox 97 = .ok (.new 50, 3) := by decide +kernel
theorem dX5_cutBox_100 : decode cX5_cutBox 100 = .ok (.dup, 1) := by decide +kernel
theorem dX5_cutBox_101 : decode cX5_cutBox 101 = .ok (.aload_n 1, 1) := by decide +kernel
theorem dX5_cutBox_102 : decode cX5_cutBox 102 = .ok (.getfield 76, 3) := by decide +kernel
theorem dX5_cutBox_105 : decode cX5_cutBox 105 = .ok (.iload_n 3, 1) := by decide +kernel
theorem dX5_cutBox_106 : decode cX5_cutBox 106 = .ok (.ifCond .eq 14, 3) := by decide +kernel
theorem dX5_cutBox_109 : decode cX5_cutBox 109 = .ok (.aload_n 0, 1) := by decide +kernel
theorem dX5_cutBox_110 : decode cX5_cutBox 110 = .ok (.getfield 18, 3) := by decide +kernel
theorem dX5_cutBox_113 : decode cX5_cutBox 113 = .ok (.iload_n 2, 1) := by decide +kernel
theorem dX5_cutBox_114 : decode cX5_cutBox 114 = .ok (.iconst 1, 1) := by decide +kernel
theorem dX5_cutBox_115 : decode cX5_cutBox 115 = .ok (.isub, 1) := by decide +kernel
theorem dX5_cutBox_116 : decode cX5_cutBox 116 = .ok (.laload, 1) := by decide +kernel
theorem dX5_cutBox_117 : decode cX5_cutBox 117 = .ok (.goto 7, 3) := by decide +kernel
theorem dX5_cutBox_120 : decode cX5_cutBox 120 = .ok (.aload_n 1, 1) := by decide +kernel
theorem dX5_cutBox_121 : decode cX5_cutBox 121 = .ok (.getfield 79, 3) := by decide +kernel
theorem dX5_cutBox_124 : decode cX5_cutBox 124 = .ok (.aload_n 1, 1) := by decide +kernel
theorem dX5_cutBox_125 : decode cX5_cutBox 125 = .ok (.getfield 82, 3) := by decide +kernel
theorem dX5_cutBox_128 : decode cX5_cutBox 128 = .ok (.iload 4, 2) := by decide +kernel
theorem dX5_cutBox_130 : decode cX5_cutBox 130 = .ok (.ifCond .eq 12, 3) := by decide +kernel
theorem dX5_cutBox_133 : decode cX5_cutBox 133 = .ok (.aload_n 0, 1) := by decide +kernel
theorem dX5_cutBox_134 : decode cX5_cutBox 134 = .ok (.getfield 18, 3) := by decide +kernel
theorem dX5_cutBox_137 : decode cX5_cutBox 137 = .ok (.iload_n 2, 1) := by decide +kernel
theorem dX5_cutBox_138 : decode cX5_cutBox 138 = .ok (.laload, 1) := by decide +kernel
theorem dX5_cutBox_139 : decode cX5_cutBox 139 = .ok (.goto 7, 3) := by decide +kernel
theorem dX5_cutBox_142 : decode cX5_cutBox 142 = .ok (.aload_n 1, 1) := by decide +kernel
theorem dX5_cutBox_143 : decode cX5_cutBox 143 = .ok (.getfield 85, 3) := by decide +kernel
theorem dX5_cutBox_146 : decode cX5_cutBox 146 = .ok (.invokespecial 61, 3) := by decide +kernel
theorem dX5_cutBox_149 : decode cX5_cutBox 149 = .ok (.areturn, 1) := by decide +kernel
theorem dX6_init_0 : decode cX6_init 0 = .ok (.aload_n 0, 1) := by decide +kernel
theorem dX6_init_1 : decode cX6_init 1 = .ok (.invokespecial 1, 3) := by decide +kernel
theorem dX6_init_4 : decode cX6_init 4 = .ok (.aload_n 0, 1) := by decide +kernel
theorem dX6_init_5 : decode cX6_init 5 = .ok (.new 7, 3) := by decide +kernel
theorem dX6_init_8 : decode cX6_init 8 = .ok (.dup, 1) := by decide +kernel
theorem dX6_init_9 : decode cX6_init 9 = .ok (.invokespecial 9, 3) := by decide +kernel
theorem dX6_init_12 : decode cX6_init 12 = .ok (.putfield 10, 3) := by decide +kernel
theorem dX6_init_15 : decode cX6_init 15 = .ok (.aload_n 0, 1) := by decide +kernel
theorem dX6_init_16 : decode cX6_init 16 = .ok (.bipush 12, 2) := by decide +kernel
theorem dX6_init_18 : decode cX6_init 18 = .ok (.newarray .int, 2) := by decide +kernel
theorem dX6_init_20 : decode cX6_init 20 = .ok (.putfield 16, 3) := by decide +kernel
theorem dX6_init_23 : decode cX6_init 23 = .ok (.aload_n 0, 1) := by decide +kernel
theorem dX6_init_24 : decode cX6_init 24 = .ok (.iconst 0, 1) := by decide +kernel
theorem dX6_init_25 : decode cX6_init 25 = .ok (.putfield 20, 3) := by decide +kernel
theorem dX6_init_28 : decode cX6_init 28 = .ok (.aload_n 0, 1) := by decide +kernel
theorem dX6_init_29 : decode cX6_init 29 = .ok (.aconst_null, 1) := by decide +kernel
theorem dX6_init_30 : decode cX6_init 30 = .ok (.putfield 24, 3) := by decide +kernel
theorem dX6_init_33 : decode cX6_init 33 = .ok (.aload_n 0, 1) := by decide +kernel
theorem dX6_init_34 : decode cX6_init 34 = .ok (.iconst 0, 1) := by decide +kernel
theorem dX6_init_35 : decode cX6_init 35 = .ok (.putfield 28, 3) := by decide +kernel
theorem dX6_init_38 : decode cX6_init 38 = .ok (.lconst 1, 1) := by decide +kernel
theorem dX6_init_39 : decode cX6_init 39 = .ok (.ldc2_w 32, 3) := by decide +kernel
theorem dX6_init_42 : decode cX6_init 42 = .ok (.lload_n 1, 1) := by decide +kernel
theorem dX6_init_43 : decode cX6_init 43 = .ok (.invokestatic 34, 3) := by decide +kernel
theorem dX6_init_46 : decode cX6_init 46 = .ok (.invokestatic 40, 3) := by decide +kernel
theorem dX6_init_49 : decode cX6_init 49 = .ok (.lstore_n 3, 1) := by decide +kernel
theorem dX6_init_50 : decode cX6_init 50 = .ok (.aload_n 0, 1) := by decide +kernel
theorem dX6_init_51 : decode cX6_init 51 = .ok (.lload_n 3, 1) := by decide +kernel
theorem dX6_init_52 : decode cX6_init 52 = .ok (.lload_n 3, 1) := by decide +kernel
theorem dX6_init_53 : decode cX6_init 53 = .ok (.lmul, 1) := by decide +kernel
theorem dX6_init_54 : decode cX6_init 54 = .ok (.putfield 43, 3) := by decide +kernel
theorem dX6_init_57 : decode cX6_init 57 = .ok (.return_, 1) := by decide +kernel
theorem dX6_shape_0 : decode cX6_shape 0 = .ok (.aload_n 0, 1) := by decide +kernel
theorem dX6_shape_1 : decode cX6_shape 1 = .ok (.getfield 10, 3) := by decide +kernel
theorem dX6_shape_4 : decode cX6_shape 4 = .ok (.invokevirtual 47, 3) := by decide +kernel
theorem dX6_shape_7 : decode cX6_shape 7 = .ok (.bipush 10, 2) := by decide +kernel
theorem dX6_shape_9 : decode cX6_shape 9 = .ok (.if_icmp .ge 12, 3) := by decide +kernel
theorem dX6_shape_12 : decode cX6_shape 12 = .ok (.aload_n 0, 1) := by decide +kernel
theorem dX6_shape_13 : decode cX6_shape 13 = .ok (.invokevirtual 51, 3) := by decide +kernel
theorem dX6_shape_16 : decode cX6_shape 16 = .ok (.bipush 12, 2) := by decide +kernel
theorem dX6_shape_18 : decode cX6_shape 18 = .ok (.if_icmp .lt 13, 3) := by decide +kernel
theorem dX6_shape_21 : decode cX6_shape 21 = .ok (.new 54, 3) := by decide +kernel
theorem dX6_shape_24 : decode cX6_shape 24 = .ok (.dup, 1) := by decide +kernel
theorem dX6_shape_25 : decode cX6_shape 25 = .ok (.ldc 56, 2) := by decide +kernel
theorem dX6_shape_27 : decode cX6_shape 27 = .ok (.invokespecial 58, 3) := by decide +kernel
theorem dX6_shape_30 : decode cX6_shape 30 = .ok (.athrow, 1) := by decide +kernel
theorem dX6_shape_31 : decode cX6_shape 31 = .ok (.aload_n 0, 1) := by decide +kernel
theorem dX6_shape_32 : decode cX6_shape 32 = .ok (.getfield 10, 3) := by decide +kernel
theorem dX6_shape_35 : decode cX6_shape 35 = .ok (.new 61, 3) := by decide +kernel
theorem dX6_shape_38 : decode cX6_shape 38 = .ok (.dup, 1) := by decide +kernel
theorem dX6_shape_39 : decode cX6_shape 39 = .ok (.invokespecial 63, 3) := by decide +kernel
theorem dX6_shape_42 : decode cX6_shape 42 = .ok (.invokevirtual 64, 3) := by decide +kernel
theorem dX6_shape_45 : decode cX6_shape 45 = .ok (.pop, 1) := by decide +kernel
theorem dX6_shape_46 : decode cX6_shape 46 = .ok (.aload_n 0, 1) := by decide +kernel
theorem dX6_shape_47 : decode cX6_shape 47 = .ok (.getfield 10, 3) := by decide +kernel
theorem dX6_shape_50 : decode cX6_shape 50 = .ok (.invokevirtual 47, 3) := by decide +kernel
theorem dX6_shape_53 : decode cX6_shape 53 = .ok (.iconst 1, 1) := by decide +kernel
theorem dX6_shape_54 : decode cX6_shape 54 = .ok (.isub, 1) := by decide +kernel
theorem dX6_shape_55 : decode cX6_shape 55 = .ok (.ireturn, 1) := by decide +kernel
theorem dX6_corner_0 : decode cX6_corner 0 = .ok (.aload_n 0, 1) := by decide +kernel
theorem dX6_corner_1 : decode cX6_corner 1 = .ok (.iload_n 1, 1) := by decide +kernel
theorem dX6_corner_2 : decode cX6_corner 2 = .ok (.invokevirtual 68, 3) := by decide +kernel
theorem dX6_corner_5 : decode cX6_corner 5 = .ok (.aload_n 0, 1) := by decide +kernel
theorem dX6_corner_6 : decode cX6_corner 6 = .ok (.getfield 10, 3) := by decide +kernel
theorem dX6_corner_9 : decode cX6_corner 9 = .ok (.iload_n 1, 1) := by decide +kernel
theorem dX6_corner_10 : decode cX6_corner 10 = .ok (.invokevirtual 72, 3) := by decide +kernel
theorem dX6_corner_13 : decode cX6_corner 13 = .ok (.checkcast 61, 3) := by decide +kernel
theorem dX6_corner_16 : decode cX6_corner 16 = .ok (.astore 6, 2) := by decide +kernel
theorem dX6_corner_18 : decode cX6_corner 18 = .ok (.aload 6, 2) := by decide +kernel
theorem dX6_corner_20 : decode cX6_corner 20 = .ok (.getfield 76, 3) := by decide +kernel
theorem dX6_corner_23 : decode cX6_corner 23 = .ok (.invokevirtual 47, 3) := by decide +kernel
theorem dX6_corner_26 : decode cX6_corner 26 = .ok (.iconst 4, 1) := by decide +kernel
theorem dX6_corner_27 : decode cX6_corner 27 = .ok (.if_icmp .ge 11, 3) := by decide +kernel
theorem dX6_corner_30 : decode cX6_corner 30 = .ok (.aload 6, 2) := by decide +kernel
theorem dX6_corner_32 : decode cX6_corner 32 = .ok (.getfield 79, 3) := by decide +kernel
theorem dX6_corner_35 : decode cX6_corner 35 = .ok (.ifCond .le 13, 3) := by decide +kernel
theorem dX6_corner_38 : decode cX6_corner 38 = .ok (.new 54, 3) := by decide +kernel
theorem dX6_corner_41 : decode cX6_corner 41 = .ok (.dup, 1) := by decide +kernel
theorem dX6_corner_42 : decode cX6_corner 42 = .ok (.ldc 82, 2) := by decide +kernel
theorem dX6_corner_44 : decode cX6_corner 44 = .ok (.invokespecial 58, 3) := by decide +kernel
theorem dX6_corner_47 : decode cX6_corner 47 = .ok (.athrow, 1) := by decide +kernel
theorem dX6_corner_48 : decode cX6_corner 48 = .ok (.lload_n 2, 1) := by decide +kernel
theorem dX6_corner_49 : decode cX6_corner 49 = .ok (.invokestatic 84, 3) := by decide +kernel
theorem dX6_corner_52 : decode cX6_corner 52 = .ok (.ifCond .ne 11, 3) := by decide +kernel
theorem dX6_corner_55 : decode cX6_corner 55 = .ok (.lload 4, 2) := by decide +kernel
theorem dX6_corner_57 : decode cX6_corner 57 = .ok (.invokestatic 84, 3) := by decide +kernel
theorem dX6_corner_60 : decode cX6_corner 60 = .ok (.ifCond .eq 13, 3) := by decide +kernel
theorem dX6_corner_63 : decode cX6_corner 63 = .ok (.new 88, 3) := by decide +kernel
theorem dX6_corner_66 : decode cX6_corner 66 = .ok (.dup, 1) := by decide +kernel
theorem dX6_corner_67 : decode cX6_corner 67 = .ok (.ldc 90, 2) := by decide +kernel
theorem dX6_corner_69 : decode cX6_corner 69 = .ok (.invokespecial 92, 3) := by decide +kernel
theorem dX6_corner_72 : decode cX6_corner 72 = .ok (.athrow, 1) := by decide +kernel
theorem dX6_corner_73 : decode cX6_corner 73 = .ok (.aload 6, 2) := by decide +kernel
theorem dX6_corner_75 : decode cX6_corner 75 = .ok (.lload_n 2, 1) := by decide +kernel
theorem dX6_corner_76 : decode cX6_corner 76 = .ok (.lload 4, 2) := by decide +kernel
theorem dX6_corner_78 : decode cX6_corner 78 = .ok (.invokevirtual 93, 3) := by decide +kernel
theorem dX6_corner_81 : decode cX6_corner 81 = .ok (.istore 7, 2) := by decide +kernel
theorem dX6_corner_83 : decode cX6_corner 83 = .ok (.iload 7, 2) := by decide +kernel
theorem dX6_corner_85 : decode cX6_corner 85 = .ok (.ifCond .eq 8, 3) := by decide +kernel
theorem dX6_corner_88 : decode cX6_corner 88 = .ok (.aload_n 0, 1) := by decide +kernel
theorem dX6_corner_89 : decode cX6_corner 89 = .ok (.iload_n 1, 1) := by decide +kernel
theorem dX6_corner_90 : decode cX6_corner 90 = .ok (.invokevirtual 97, 3) := by decide +kernel
theorem dX6_corner_93 : decode cX6_corner 93 = .ok (.iload 7, 2) := by decide +kernel
theorem dX6_corner_95 : decode cX6_corner 95 = .ok (.ireturn, 1) := by decide +kernel
theorem dX6_near_0 : decode cX6_near 0 = .ok (.aload_n 0, 1) := by decide +kernel
theorem dX6_near_1 : decode cX6_near 1 = .ok (.invokevirtual 100, 3) := by decide +kernel
theorem dX6_near_4 : decode cX6_near 4 = .ok (.iconst 0, 1) := by decide +kernel
theorem dX6_near_5 : decode cX6_near 5 = .ok (.istore_n 1, 1) := by decide +kernel
theorem dX6_near_6 : decode cX6_near 6 = .ok (.iconst 0, 1) := by decide +kernel
theorem dX6_near_7 : decode cX6_near 7 = .ok (.istore_n 2, 1) := by decide +kernel
theorem dX6_near_8 : decode cX6_near 8 = .ok (.iload_n 2, 1) := by decide +kernel
theorem dX6_near_9 : decode cX6_near 9 = .ok (.aload_n 0, 1) := by decide +kernel
theorem dX6_near_10 : decode cX6_near 10 = .ok (.getfield 10, 3) := by decide +kernel
theorem dX6_near_13 : decode cX6_near 13 = .ok (.invokevirtual 47, 3) := by decide +kernel
theorem dX6_near_16 : decode cX6_near 16 = .ok (.if_icmp .ge 29, 3) := by decide +kernel
theorem dX6_near_19 : decode cX6_near 19 = .ok (.iload_n 1, 1) := by decide +kernel
theorem dX6_near_20 : decode cX6_near 20 = .ok (.aload_n 0, 1) := by decide +kernel
theorem dX6_near_21 : decode cX6_near 21 = .ok (.getfield 10, 3) := by decide +kernel
theorem dX6_near_24 : decode cX6_near 24 = .ok (.iload_n 2, 1) := by decide +kernel
theorem dX6_near_25 : decode cX6_near 25 = .ok (.invokevirtual 72, 3) := by decide +kernel
theorem dX6_near_28 : decode cX6_near 28 = .ok (.checkcast 61, 3) := by decide +kernel
theorem dX6_near_31 : decode cX6_near 31 = .ok (.getfield 103, 3) := by decide +kernel
theorem dX6_near_34 : decode cX6_near 34 = .ok (.invokestatic 106, 3) := by decide +kernel
theorem dX6_near_37 : decode cX6_near 37 = .ok (.iadd, 1) := by decide +kernel
theorem dX6_near_38 : decode cX6_near 38 = .ok (.istore_n 1, 1) := by decide +kernel
theorem dX6_near_39 : decode cX6_near 39 = .ok (.iinc 2 1, 3) := by decide +kernel
theorem dX6_near_42 : decode cX6_near 42 = .ok (.goto (-34), 3) := by decide +kernel
theorem dX6_near_45 : decode cX6_near 45 = .ok (.iload_n 1, 1) := by decide +kernel
theorem dX6_near_46 : decode cX6_near 46 = .ok (.iconst 2, 1) := by decide +kernel
theorem dX6_near_47 : decode cX6_near 47 = .ok (.idiv, 1) := by decide +kernel
theorem dX6_near_48 : decode cX6_near 48 = .ok (.ireturn, 1) := by decide +kernel
theorem dX6_run_0 : decode cX6_run 0 = .ok (.aload_n 0, 1) := by decide +kernel
theorem dX6_run_1 : decode cX6_run 1 = .ok (.invokevirtual 100, 3) := by decide +kernel
theorem dX6_run_4 : decode cX6_run 4 = .ok (.iload_n 1, 1) := by decide +kernel
theorem dX6_run_5 : decode cX6_run 5 = .ok (.iconst 2, 1) := by decide +kernel
theorem dX6_run_6 : decode cX6_run 6 = .ok (.if_icmp .lt 14, 3) := by decide +kernel
theorem dX6_run_9 : decode cX6_run 9 = .ok (.iload_n 1, 1) := by decide +kernel
theorem dX6_run_10 : decode cX6_run 10 = .ok (.iconst 4, 1) := by decide +kernel
theorem dX6_run_11 : decode cX6_run 11 = .ok (.if_icmp .gt 9, 3) := by decide +kernel
theorem dX6_run_14 : decode cX6_run 14 = .ok (.lload_n 2, 1) := by decide +kernel
theorem dX6_run_15 : decode cX6_run 15 = .ok (.lconst 0, 1) := by decide +kernel
theorem dX6_run_16 : decode cX6_run 16 = .ok (.lcmp, 1) := by decide +kernel
theorem dX6_run_17 : decode cX6_run 17 = .ok (.ifCond .ge 13, 3) := by decide +kernel
theorem dX6_run_20 : decode cX6_run 20 = .ok (.new 88, 3) := by decide +kernel
theorem dX6_run_23 : decode cX6_run 23 = .ok (.dup, 1) := by decide +kernel
theorem dX6_run_24 : decode cX6_run 24 = .ok (.ldc 112, 2) := by decide +kernel
theorem dX6_run_26 : decode cX6_run 26 = .ok (.invokespecial 92, 3) := by decide +kernel
theorem dX6_run_29 : decode cX6_run 29 = .ok (.athrow, 1) := by decide +kernel
theorem dX6_run_30 : decode cX6_run 30 = .ok (.aload_n 0, 1) := by decide +kernel
theorem dX6_run_31 : decode cX6_run 31 = .ok (.invokevirtual 51, 3) := by decide +kernel
theorem dX6_run_34 : decode cX6_run 34 = .ok (.i2l, 1) := by decide +kernel
theorem dX6_run_35 : decode cX6_run 35 = .ok (.lload_n 2, 1) := by decide +kernel
theorem dX6_run_36 : decode cX6_run 36 = .ok (.lcmp, 1) := by decide +kernel
theorem dX6_run_37 : decode cX6_run 37 = .ok (.ifCond .le 10, 3) := by decide +kernel
theorem dX6_run_40 : decode cX6_run 40 = .ok (.aload_n 0, 1) := by decide +kernel
theorem dX6_run_41 : decode cX6_run 41 = .ok (.iconst 0, 1) := by decide +kernel
theorem dX6_run_42 : decode cX6_run 42 = .ok (.putfield 28, 3) := by decide +kernel
theorem dX6_run_45 : decode cX6_run 45 = .ok (.iconst 2, 1) := by decide +kernel
theorem dX6_run_46 : decode cX6_run 46 = .ok (.ireturn, 1) := by decide +kernel
theorem dX6_run_47 : decode cX6_run 47 = .ok (.aload_n 0, 1) := by decide +kernel
theorem dX6_run_48 : decode cX6_run 48 = .ok (.iconst 1, 1) := by decide +kernel
theorem dX6_run_49 : decode cX6_run 49 = .ok (.putfield 28, 3) := by decide +kernel
theorem dX6_run_52 : decode cX6_run 52 = .ok (.aload_n 0, 1) := by decide +kernel
theorem dX6_run_53 : decode cX6_run 53 = .ok (.invokevirtual 114, 3) := by decide +kernel
theorem dX6_run_56 : decode cX6_run 56 = .ok (.astore 4, 2) := by decide +kernel
theorem dX6_run_58 : decode cX6_run 58 = .ok (.aload 4, 2) := by decide +kernel
theorem dX6_run_60 : decode cX6_run 60 = .ok (.aload_n 0, 1) := by decide +kernel
theorem dX6_run_61 : decode cX6_run 61 = .ok (.getfield 43, 3) := by decide +kernel
theorem dX6_run_64 : decode cX6_run 64 = .ok (.invokevirtual 118, 3) := by decide +kernel
theorem dX6_run_67 : decode cX6_run 67 = .ok (.new 123, 3) := by decide +kernel
theorem dX6_run_70 : decode cX6_run 70 = .ok (.dup, 1) := by decide +kernel
theorem dX6_run_71 : decode cX6_run 71 = .ok (.aload 4, 2) := by decide +kernel
theorem dX6_run_73 : decode cX6_run 73 = .ok (.iload_n 1, 1) := by decide +kernel
theorem dX6_run_74 : decode cX6_run 74 = .ok (.invokespecial 125, 3) := by decide +kernel
theorem dX6_run_77 : decode cX6_run 77 = .ok (.astore 5, 2) := by decide +kernel
theorem dX6_run_79 : decode cX6_run 79 = .ok (.aload 5, 2) := by decide +kernel
theorem dX6_run_81 : decode cX6_run 81 = .ok (.invokevirtual 128, 3) := by decide +kernel
theorem dX6_run_84 : decode cX6_run 84 = .ok (.aload_n 0, 1) := by decide +kernel
theorem dX6_run_85 : decode cX6_run 85 = .ok (.iconst 0, 1) := by decide +kernel
theorem dX6_run_86 : decode cX6_run 86 = .ok (.putfield 20, 3) := by decide +kernel
theorem dX6_run_89 : decode cX6_run 89 = .ok (.aload 5, 2) := by decide +kernel
theorem dX6_run_91 : decode cX6_run 91 = .ok (.invokevirtual 131, 3) := by decide +kernel
theorem dX6_run_94 : decode cX6_run 94 = .ok (.ifCond .eq 28, 3) := by decide +kernel
theorem dX6_run_97 : decode cX6_run 97 = .ok (.aload_n 0, 1) := by decide +kernel
theorem dX6_run_98 : decode cX6_run 98 = .ok (.new 135, 3) := by decide +kernel
theorem dX6_run_101 : decode cX6_run 101 = .ok (.dup, 1) := by decide +kernel
theorem dX6_run_102 : decode cX6_run 102 = .ok (.aload 4, 2) := by decide +kernel
theorem dX6_run_104 : decode cX6_run 104 = .ok (.aload 5, 2) := by decide +kernel
theorem dX6_run_106 : decode cX6_run 106 = .ok (.getfield 137, 3) := by decide +kernel
theorem dX6_run_109 : decode cX6_run 109 = .ok (.aload 5, 2) := by decide +kernel
theorem dX6_run_111 : decode cX6_run 111 = .ok (.getfield 140, 3) := by decide +kernel
theorem dX6_run_114 : decode cX6_run 114 = .ok (.invokespecial 143, 3) := by decide +kernel
theorem dX6_run_117 : decode cX6_run 117 = .ok (.putfield 24, 3) := by decide +kernel
theorem dX6_run_120 : decode cX6_run 120 = .ok (.iconst 0, 1) := by decide +kernel
theorem dX6_run_121 : decode cX6_run 121 = .ok (.ireturn, 1) := by decide +kernel
theorem dX6_run_122 : decode cX6_run 122 = .ok (.aload_n 0, 1) := by decide +kernel
theorem dX6_run_123 : decode cX6_run 123 = .ok (.aconst_null, 1) := by decide +kernel
theorem dX6_run_124 : decode cX6_run 124 = .ok (.putfield 24, 3) := by decide +kernel
theorem dX6_run_127 : decode cX6_run 127 = .ok (.iload_n 1, 1) := by decide +kernel
theorem dX6_run_128 : decode cX6_run 128 = .ok (.iconst 2, 1) := by decide +kernel
theorem dX6_run_129 : decode cX6_run 129 = .ok (.if_icmp .ne 16, 3) := by decide +kernel
theorem dX6_run_132 : decode cX6_run 132 = .ok (.aload_n 0, 1) := by decide +kernel
theorem dX6_run_133 : decode cX6_run 133 = .ok (.aload 4, 2) := by decide +kernel
theorem dX6_run_135 : decode cX6_run 135 = .ok (.aload_n 0, 1) := by decide +kernel
theorem dX6_run_136 : decode cX6_run 136 = .ok (.getfield 16, 3) := by decide +kernel
theorem dX6_run_139 : decode cX6_run 139 = .ok (.invokevirtual 146, 3) := by decide +kernel
theorem dX6_run_142 : decode cX6_run 142 = .ok (.putfield 20, 3) := by decide +kernel
theorem dX6_run_145 : decode cX6_run 145 = .ok (.iconst 1, 1) := by decide +kernel
theorem dX6_run_146 : decode cX6_run 146 = .ok (.ireturn, 1) := by decide +kernel
theorem dX6_colour_0 : decode cX6_colour 0 = .ok (.aload_n 0, 1) := by decide +kernel
theorem dX6_colour_1 : decode cX6_colour 1 = .ok (.iload_n 1, 1) := by decide +kernel
theorem dX6_colour_2 : decode cX6_colour 2 = .ok (.invokevirtual 68, 3) := by decide +kernel
theorem dX6_colour_5 : decode cX6_colour 5 = .ok (.aload_n 0, 1) := by decide +kernel
theorem dX6_colour_6 : decode cX6_colour 6 = .ok (.getfield 24, 3) := by decide +kernel
theorem dX6_colour_9 : decode cX6_colour 9 = .ok (.ifnonnull 7, 3) := by decide +kernel
theorem dX6_colour_12 : decode cX6_colour 12 = .ok (.iconst (-1), 1) := by decide +kernel
theorem dX6_colour_13 : decode cX6_colour 13 = .ok (.goto 12, 3) := by decide +kernel
theorem dX6_colour_16 : decode cX6_colour 16 = .ok (.aload_n 0, 1) := by decide +kernel
theorem dX6_colour_17 : decode cX6_colour 17 = .ok (.getfield 24, 3) := by decide +kernel
theorem dX6_colour_20 : decode cX6_colour 20 = .ok (.getfield 150, 3) := by decide +kernel
theorem dX6_colour_23 : decode cX6_colour 23 = .ok (.iload_n 1, 1) := by decide +kernel
theorem dX6_colour_24 : decode cX6_colour 24 = .ok (.iaload, 1) := by decide +kernel
theorem dX6_colour_25 : decode cX6_colour 25 = .ok (.ireturn, 1) := by decide +kernel
theorem dX6_ring_0 : decode cX6_ring 0 = .ok (.iload_n 1, 1) := by decide +kernel
theorem dX6_ring_1 : decode cX6_ring 1 = .ok (.ifCond .lt 11, 3) := by decide +kernel
theorem dX6_ring_4 : decode cX6_ring 4 = .ok (.iload_n 1, 1) := by decide +kernel
theorem dX6_ring_5 : decode cX6_ring 5 = .ok (.aload_n 0, 1) := by decide +kernel
theorem dX6_ring_6 : decode cX6_ring 6 = .ok (.getfield 20, 3) := by decide +kernel
theorem dX6_ring_9 : decode cX6_ring 9 = .ok (.if_icmp .lt 13, 3) := by decide +kernel
theorem dX6_ring_12 : decode cX6_ring 12 = .ok (.new 153, 3) := by decide +kernel
theorem dX6_ring_15 : decode cX6_ring 15 = .ok (.dup, 1) := by decide +kernel
theorem dX6_ring_16 : decode cX6_ring 16 = .ok (.ldc 155, 2) := by decide +kernel
theorem dX6_ring_18 : decode cX6_ring 18 = .ok (.invokespecial 157, 3) := by decide +kernel
theorem dX6_ring_21 : decode cX6_ring 21 = .ok (.athrow, 1) := by decide +kernel
theorem dX6_ring_22 : decode cX6_ring 22 = .ok (.aload_n 0, 1) := by decide +kernel
theorem dX6_ring_23 : decode cX6_ring 23 = .ok (.getfield 16, 3) := by decide +kernel
theorem dX6_ring_26 : decode cX6_ring 26 = .ok (.iload_n 1, 1) := by decide +kernel
theorem dX6_ring_27 : decode cX6_ring 27 = .ok (.iaload, 1) := by decide +kernel
theorem dX6_ring_28 : decode cX6_ring 28 = .ok (.ireturn, 1) := by decide +kernel
theorem dX6_length_0 : decode cX6_length 0 = .ok (.aload_n 0, 1) := by decide +kernel
theorem dX6_length_1 : decode cX6_length 1 = .ok (.getfield 20, 3) := by decide +kernel
theorem dX6_length_4 : decode cX6_length 4 = .ok (.ireturn, 1) := by decide +kernel
theorem dX6_pre_0 : decode cX6_pre 0 = .ok (.aload_n 0, 1) := by decide +kernel
theorem dX6_pre_1 : decode cX6_pre 1 = .ok (.iload_n 1, 1) := by decide +kernel
theorem dX6_pre_2 : decode cX6_pre 2 = .ok (.invokevirtual 68, 3) := by decide +kernel
theorem dX6_pre_5 : decode cX6_pre 5 = .ok (.aload_n 0, 1) := by decide +kernel
theorem dX6_pre_6 : decode cX6_pre 6 = .ok (.invokevirtual 100, 3) := by decide +kernel
theorem dX6_pre_9 : decode cX6_pre 9 = .ok (.iload_n 2, 1) := by decide +kernel
theorem dX6_pre_10 : decode cX6_pre 10 = .ok (.iconst (-1), 1) := by decide +kernel
theorem dX6_pre_11 : decode cX6_pre 11 = .ok (.if_icmp .eq 20, 3) := by decide +kernel
theorem dX6_pre_14 : decode cX6_pre 14 = .ok (.iload_n 2, 1) := by decide +kernel
theorem dX6_pre_15 : decode cX6_pre 15 = .ok (.invokestatic 158, 3) := by decide +kernel
theorem dX6_pre_18 : decode cX6_pre 18 = .ok (.ifCond .eq 13, 3) := by decide +kernel
theorem dX6_pre_21 : decode cX6_pre 21 = .ok (.new 88, 3) := by decide +kernel
theorem dX6_pre_24 : decode cX6_pre 24 = .ok (.dup, 1) := by decide +kernel
theorem dX6_pre_25 : decode cX6_pre 25 = .ok (.ldc 162, 2) := by decide +kernel
theorem dX6_pre_27 : decode cX6_pre 27 = .ok (.invokespecial 92, 3) := by decide +kernel
theorem dX6_pre_30 : decode cX6_pre 30 = .ok (.athrow, 1) := by decide +kernel
theorem dX6_pre_31 : decode cX6_pre 31 = .ok (.aload_n 0, 1) := by decide +kernel
theorem dX6_pre_32 : decode cX6_pre 32 = .ok (.getfield 10, 3) := by decide +kernel
theorem dX6_pre_35 : decode cX6_pre 35 = .ok (.iload_n 1, 1) := by decide +kernel
theorem dX6_pre_36 : decode cX6_pre 36 = .ok (.invokevirtual 72, 3) := by decide +kernel
theorem dX6_pre_39 : decode cX6_pre 39 = .ok (.checkcast 61, 3) := by decide +kernel
theorem dX6_pre_42 : decode cX6_pre 42 = .ok (.astore_n 3, 1) := by decide +kernel
theorem dX6_pre_43 : decode cX6_pre 43 = .ok (.aload_n 3, 1) := by decide +kernel
theorem dX6_pre_44 : decode cX6_pre 44 = .ok (.getfield 164, 3) := by decide +kernel
theorem dX6_pre_47 : decode cX6_pre 47 = .ok (.iload_n 2, 1) := by decide +kernel
theorem dX6_pre_48 : decode cX6_pre 48 = .ok (.if_icmp .eq 7, 3) := by decide +kernel
theorem dX6_pre_51 : decode cX6_pre 51 = .ok (.iconst 1, 1) := by decide +kernel
theorem dX6_pre_52 : decode cX6_pre 52 = .ok (.goto 4, 3) := by decide +kernel
theorem dX6_pre_55 : decode cX6_pre 55 = .ok (.iconst 0, 1) := by decide +kernel
theorem dX6_pre_56 : decode cX6_pre 56 = .ok (.istore 4, 2) := by decide +kernel
theorem dX6_pre_58 : decode cX6_pre 58 = .ok (.aload_n 3, 1) := by decide +kernel
theorem dX6_pre_59 : decode cX6_pre 59 = .ok (.iload_n 2, 1) := by decide +kernel
theorem dX6_pre_60 : decode cX6_pre 60 = .ok (.putfield 164, 3) := by decide +kernel
theorem dX6_pre_63 : decode cX6_pre 63 = .ok (.iload 4, 2) := by decide +kernel
theorem dX6_pre_65 : decode cX6_pre 65 = .ok (.ireturn, 1) := by decide +kernel
theorem dX6_stitch_0 : decode cX6_stitch 0 = .ok (.aload_n 0, 1) := by decide +kernel
theorem dX6_stitch_1 : decode cX6_stitch 1 = .ok (.iload_n 1, 1) := by decide +kernel
theorem dX6_stitch_2 : decode cX6_stitch 2 = .ok (.invokevirtual 68, 3) := by decide +kernel
theorem dX6_stitch_5 : decode cX6_stitch 5 = .ok (.aload_n 0, 1) := by decide +kernel
theorem dX6_stitch_6 : decode cX6_stitch 6 = .ok (.invokevirtual 100, 3) := by decide +kernel
theorem dX6_stitch_9 : decode cX6_stitch 9 = .ok (.aload_n 0, 1) := by decide +kernel
theorem dX6_stitch_10 : decode cX6_stitch 10 = .ok (.getfield 10, 3) := by decide +kernel
theorem dX6_stitch_13 : decode cX6_stitch 13 = .ok (.iload_n 1, 1) := by decide +kernel
theorem dX6_stitch_14 : decode cX6_stitch 14 = .ok (.invokevirtual 72, 3) := by decide +kernel
theorem dX6_stitch_17 : decode cX6_stitch 17 = .ok (.checkcast 61, 3) := by decide +kernel
theorem dX6_stitch_20 : decode cX6_stitch 20 = .ok (.astore 5, 2) := by decide +kernel
theorem dX6_stitch_22 : decode cX6_stitch 22 = .ok (.aload 5, 2) := by decide +kernel
theorem dX6_stitch_24 : decode cX6_stitch 24 = .ok (.getfield 76, 3) := by decide +kernel
theorem dX6_stitch_27 : decode cX6_stitch 27 = .ok (.invokevirtual 47, 3) := by decide +kernel
theorem dX6_stitch_30 : decode cX6_stitch 30 = .ok (.iconst 1, 1) := by decide +kernel
theorem dX6_stitch_31 : decode cX6_stitch 31 = .ok (.if_icmp .eq 13, 3) := by decide +kernel
theorem dX6_stitch_34 : decode cX6_stitch 34 = .ok (.new 54, 3) := by decide +kernel
theorem dX6_stitch_37 : decode cX6_stitch 37 = .ok (.dup, 1) := by decide +kernel
theorem dX6_stitch_38 : decode cX6_stitch 38 = .ok (.ldc 167, 2) := by decide +kernel
theorem dX6_stitch_40 : decode cX6_stitch 40 = .ok (.invokespecial 58, 3) := by decide +kernel
theorem dX6_stitch_43 : decode cX6_stitch 43 = .ok (.athrow, 1) := by decide +kernel
theorem dX6_stitch_44 : decode cX6_stitch 44 = .ok (.aload 5, 2) := by decide +kernel
theorem dX6_stitch_46 : decode cX6_stitch 46 = .ok (.lload_n 2, 1) := by decide +kernel
theorem dX6_stitch_47 : decode cX6_stitch 47 = .ok (.iload 4, 2) := by decide +kernel
theorem dX6_stitch_49 : decode cX6_stitch 49 = .ok (.invokevirtual 169, 3) := by decide +kernel
theorem dX6_stitch_52 : decode cX6_stitch 52 = .ok (.ifCond .eq 5, 3) := by decide +kernel
theorem dX6_stitch_55 : decode cX6_stitch 55 = .ok (.iconst 0, 1) := by decide +kernel
theorem dX6_stitch_56 : decode cX6_stitch 56 = .ok (.ireturn, 1) := by decide +kernel
theorem dX6_stitch_57 : decode cX6_stitch 57 = .ok (.aload 5, 2) := by decide +kernel
theorem dX6_stitch_59 : decode cX6_stitch 59 = .ok (.getfield 79, 3) := by decide +kernel
theorem dX6_stitch_62 : decode cX6_stitch 62 = .ok (.iconst 3, 1) := by decide +kernel
theorem dX6_stitch_63 : decode cX6_stitch 63 = .ok (.if_icmp .ge 12, 3) := by decide +kernel
theorem dX6_stitch_66 : decode cX6_stitch 66 = .ok (.aload_n 0, 1) := by decide +kernel
theorem dX6_stitch_67 : decode cX6_stitch 67 = .ok (.invokevirtual 51, 3) := by decide +kernel
theorem dX6_stitch_70 : decode cX6_stitch 70 = .ok (.bipush 12, 2) := by decide +kernel
theorem dX6_stitch_72 : decode cX6_stitch 72 = .ok (.if_icmp .lt 13, 3) := by decide +kernel
theorem dX6_stitch_75 : decode cX6_stitch 75 = .ok (.new 54, 3) := by decide +kernel
theorem dX6_stitch_78 : decode cX6_stitch 78 = .ok (.dup, 1) := by decide +kernel
theorem dX6_stitch_79 : decode cX6_stitch 79 = .ok (.ldc 173, 2) := by decide +kernel
theorem dX6_stitch_81 : decode cX6_stitch 81 = .ok (.invokespecial 58, 3) := by decide +kernel
theorem dX6_stitch_84 : decode cX6_stitch 84 = .ok (.athrow, 1) := by decide +kernel
theorem dX6_stitch_85 : decode cX6_stitch 85 = .ok (.aload 5, 2) := by decide +kernel
theorem dX6_stitch_87 : decode cX6_stitch 87 = .ok (.getfield 76, 3) := by decide +kernel
theorem dX6_stitch_90 : decode cX6_stitch 90 = .ok (.iconst 0, 1) := by decide +kernel
theorem dX6_stitch_91 : decode cX6_stitch 91 = .ok (.invokevirtual 72, 3) := by decide +kernel
theorem dX6_stitch_94 : decode cX6_stitch 94 = .ok (.checkcast 175, 3) := by decide +kernel
theorem dX6_stitch_97 : decode cX6_stitch 97 = .ok (.lload_n 2, 1) := by decide +kernel
theorem dX6_stitch_98 : decode cX6_stitch 98 = .ok (.iload 4, 2) := by decide +kernel
theorem dX6_stitch_100 : decode cX6_stitch 100 = .ok (.invokevirtual 177, 3) := by decide +kernel
theorem dX6_stitch_103 : decode cX6_stitch 103 = .ok (.ifCond .ne 13, 3) := by decide +kernel
theorem dX6_stitch_106 : decode cX6_stitch 106 = .ok (.new 88, 3) := by decide +kernel
theorem dX6_stitch_109 : decode cX6_stitch 109 = .ok (.dup, 1) := by decide +kernel
theorem dX6_stitch_110 : decode cX6_stitch 110 = .ok (.ldc 180, 2) := by decide +kernel
theorem dX6_stitch_112 : decode cX6_stitch 112 = .ok (.invokespecial 92, 3) := by decide +kernel
theorem dX6_stitch_115 : decode cX6_stitch 115 = .ok (.athrow, 1) := by decide +kernel
theorem dX6_stitch_116 : decode cX6_stitch 116 = .ok (.aload 5, 2) := by decide +kernel
theorem dX6_stitch_118 : decode cX6_stitch 118 = .ok (.getfield 79, 3) := by decide +kernel
theorem dX6_stitch_121 : decode cX6_stitch 121 = .ok (.ifCond .le 23, 3) := by decide +kernel
theorem dX6_stitch_124 : decode cX6_stitch 124 = .ok (.aload 5, 2) := by decide +kernel
theorem dX6_stitch_126 : decode cX6_stitch 126 = .ok (.getfield 182, 3) := by decide +kernel
theorem dX6_stitch_129 : decode cX6_stitch 129 = .ok (.iload 4, 2) := by decide +kernel
theorem dX6_stitch_131 : decode cX6_stitch 131 = .ok (.if_icmp .eq 13, 3) := by decide +kernel
theorem dX6_stitch_134 : decode cX6_stitch 134 = .ok (.new 88, 3) := by decide +kernel
theorem dX6_stitch_137 : decode cX6_stitch 137 = .ok (.dup, 1) := by decide +kernel
theorem dX6_stitch_138 : decode cX6_stitch 138 = .ok (.ldc 185, 2) := by decide +kernel
theorem dX6_stitch_140 : decode cX6_stitch 140 = .ok (.invokespecial 92, 3) := by decide +kernel
theorem dX6_stitch_143 : decode cX6_stitch 143 = .ok (.athrow, 1) := by decide +kernel
theorem dX6_stitch_144 : decode cX6_stitch 144 = .ok (.aload 5, 2) := by decide +kernel
theorem dX6_stitch_146 : decode cX6_stitch 146 = .ok (.lload_n 2, 1) := by decide +kernel
theorem dX6_stitch_147 : decode cX6_stitch 147 = .ok (.iload 4, 2) := by decide +kernel
theorem dX6_stitch_149 : decode cX6_stitch 149 = .ok (.invokevirtual 187, 3) := by decide +kernel
theorem dX6_stitch_152 : decode cX6_stitch 152 = .ok (.iconst 1, 1) := by decide +kernel
theorem dX6_stitch_153 : decode cX6_stitch 153 = .ok (.ireturn, 1) := by decide +kernel
theorem dX6_stitches_0 : decode cX6_stitches 0 = .ok (.aload_n 0, 1) := by decide +kernel
theorem dX6_stitches_1 : decode cX6_stitches 1 = .ok (.getfield 24, 3) := by decide +kernel
theorem dX6_stitches_4 : decode cX6_stitches 4 = .ok (.ifnonnull 7, 3) := by decide +kernel
theorem dX6_stitches_7 : decode cX6_stitches 7 = .ok (.iconst 0, 1) := by decide +kernel
theorem dX6_stitches_8 : decode cX6_stitches 8 = .ok (.goto 10, 3) := by decide +kernel
theorem dX6_stitches_11 : decode cX6_stitches 11 = .ok (.aload_n 0, 1) := by decide +kernel
theorem dX6_stitches_12 : decode cX6_stitches 12 = .ok (.getfield 24, 3) := by decide +kernel
theorem dX6_stitches_15 : decode cX6_stitches 15 = .ok (.getfield 191, 3) := by decide +kernel
theorem dX6_stitches_18 : decode cX6_stitches 18 = .ok (.ireturn, 1) := by decide +kernel
theorem dX6_used_0 : decode cX6_used 0 = .ok (.aload_n 0, 1) := by decide +kernel
theorem dX6_used_1 : decode cX6_used 1 = .ok (.iload_n 1, 1) := by decide +kernel
theorem dX6_used_2 : decode cX6_used 2 = .ok (.invokevirtual 68, 3) := by decide +kernel
theorem dX6_used_5 : decode cX6_used 5 = .ok (.aload_n 0, 1) := by decide +kernel
theorem dX6_used_6 : decode cX6_used 6 = .ok (.getfield 24, 3) := by decide +kernel
theorem dX6_used_9 : decode cX6_used 9 = .ok (.ifnull 20, 3) := by decide +kernel
theorem dX6_used_12 : decode cX6_used 12 = .ok (.iload_n 2, 1) := by decide +kernel
theorem dX6_used_13 : decode cX6_used 13 = .ok (.ifCond .lt 16, 3) := by decide +kernel
theorem dX6_used_16 : decode cX6_used 16 = .ok (.iload_n 2, 1) := by decide +kernel
theorem dX6_used_17 : decode cX6_used 17 = .ok (.aload_n 0, 1) := by decide +kernel
theorem dX6_used_18 : decode cX6_used 18 = .ok (.getfield 24, 3) := by decide +kernel
theorem dX6_used_21 : decode cX6_used 21 = .ok (.getfield 194, 3) := by decide +kernel
theorem dX6_used_24 : decode cX6_used 24 = .ok (.iload_n 1, 1) := by decide +kernel
theorem dX6_used_25 : decode cX6_used 25 = .ok (.iaload, 1) := by decide +kernel
theorem dX6_used_26 : decode cX6_used 26 = .ok (.if_icmp .lt 13, 3) := by decide +kernel
theorem dX6_used_29 : decode cX6_used 29 = .ok (.new 153, 3) := by decide +kernel
theorem dX6_used_32 : decode cX6_used 32 = .ok (.dup, 1) := by decide +kernel
theorem dX6_used_33 : decode cX6_used 33 = .ok (.ldc 197, 2) := by decide +kernel
theorem dX6_used_35 : decode cX6_used 35 = .ok (.invokespecial 157, 3) := by decide +kernel
theorem dX6_used_38 : decode cX6_used 38 = .ok (.athrow, 1) := by decide +kernel
theorem dX6_used_39 : decode cX6_used 39 = .ok (.aload_n 0, 1) := by decide +kernel
theorem dX6_used_40 : decode cX6_used 40 = .ok (.getfield 24, 3) := by decide +kernel
theorem dX6_used_43 : decode cX6_used 43 = .ok (.getfield 199, 3) := by decide +kernel
theorem dX6_used_46 : decode cX6_used 46 = .ok (.iload_n 1, 1) := by decide +kernel
theorem dX6_used_47 : decode cX6_used 47 = .ok (.iaload, 1) := by decide +kernel
theorem dX6_used_48 : decode cX6_used 48 = .ok (.iload_n 2, 1) := by decide +kernel
theorem dX6_used_49 : decode cX6_used 49 = .ok (.ishr, 1) := by decide +kernel
theorem dX6_used_50 : decode cX6_used 50 = .ok (.iconst 1, 1) := by decide +kernel
theorem dX6_used_51 : decode cX6_used 51 = .ok (.iand, 1) := by decide +kernel
theorem dX6_used_52 : decode cX6_used 52 = .ok (.ifCond .eq 7, 3) := by decide +kernel
theorem dX6_used_55 : decode cX6_used 55 = .ok (.iconst 1, 1) := by decide +kernel
theorem dX6_used_56 : decode cX6_used 56 = .ok (.goto 4, 3) := by decide +kernel
theorem dX6_used_59 : decode cX6_used 59 = .ok (.iconst 0, 1) := by decide +kernel
theorem dX6_used_60 : decode cX6_used 60 = .ok (.ireturn, 1) := by decide +kernel
theorem dX6_balance_0 : decode cX6_balance 0 = .ok (.iload_n 2, 1) := by decide +kernel
theorem dX6_balance_1 : decode cX6_balance 1 = .ok (.ifCond .lt 8, 3) := by decide +kernel
theorem dX6_balance_4 : decode cX6_balance 4 = .ok (.iload_n 2, 1) := by decide +kernel
theorem dX6_balance_5 : decode cX6_balance 5 = .ok (.iconst 1, 1) := by decide +kernel
theorem dX6_balance_6 : decode cX6_balance 6 = .ok (.if_icmp .le 13, 3) := by decide +kernel
theorem dX6_balance_9 : decode cX6_balance 9 = .ok (.new 153, 3) := by decide +kernel
theorem dX6_balance_12 : decode cX6_balance 12 = .ok (.dup, 1) := by decide +kernel
theorem dX6_balance_13 : decode cX6_balance 13 = .ok (.ldc 202, 2) := by decide +kernel
theorem dX6_balance_15 : decode cX6_balance 15 = .ok (.invokespecial 157, 3) := by decide +kernel
theorem dX6_balance_18 : decode cX6_balance 18 = .ok (.athrow, 1) := by decide +kernel
theorem dX6_balance_19 : decode cX6_balance 19 = .ok (.iload_n 1, 1) := by decide +kernel
theorem dX6_balance_20 : decode cX6_balance 20 = .ok (.invokestatic 158, 3) := by decide +kernel
theorem dX6_balance_23 : decode cX6_balance 23 = .ok (.ifCond .eq 13, 3) := by decide +kernel
theorem dX6_balance_26 : decode cX6_balance 26 = .ok (.new 88, 3) := by decide +kernel
theorem dX6_balance_29 : decode cX6_balance 29 = .ok (.dup, 1) := by decide +kernel
theorem dX6_balance_30 : decode cX6_balance 30 = .ok (.ldc 162, 2) := by decide +kernel
theorem dX6_balance_32 : decode cX6_balance 32 = .ok (.invokespecial 92, 3) := by decide +kernel
theorem dX6_balance_35 : decode cX6_balance 35 = .ok (.athrow, 1) := by decide +kernel
theorem dX6_balance_36 : decode cX6_balance 36 = .ok (.aload_n 0, 1) := by decide +kernel
theorem dX6_balance_37 : decode cX6_balance 37 = .ok (.getfield 24, 3) := by decide +kernel
theorem dX6_balance_40 : decode cX6_balance 40 = .ok (.ifnonnull 5, 3) := by decide +kernel
theorem dX6_balance_43 : decode cX6_balance 43 = .ok (.lconst 0, 1) := by decide +kernel
theorem dX6_balance_44 : decode cX6_balance 44 = .ok (.lreturn, 1) := by decide +kernel
theorem dX6_balance_45 : decode cX6_balance 45 = .ok (.iload_n 2, 1) := by decide +kernel
theorem dX6_balance_46 : decode cX6_balance 46 = .ok (.ifCond .ne 16, 3) := by decide +kernel
theorem dX6_balance_49 : decode cX6_balance 49 = .ok (.aload_n 0, 1) := by decide +kernel
theorem dX6_balance_50 : decode cX6_balance 50 = .ok (.getfield 24, 3) := by decide +kernel
theorem dX6_balance_53 : decode cX6_balance 53 = .ok (.getfield 204, 3) := by decide +kernel
theorem dX6_balance_56 : decode cX6_balance 56 = .ok (.iload_n 1, 1) := by decide +kernel
theorem dX6_balance_57 : decode cX6_balance 57 = .ok (.iaload, 1) := by decide +kernel
theorem dX6_balance_58 : decode cX6_balance 58 = .ok (.i2l, 1) := by decide +kernel
theorem dX6_balance_59 : decode cX6_balance 59 = .ok (.goto 12, 3) := by decide +kernel
theorem dX6_balance_62 : decode cX6_balance 62 = .ok (.aload_n 0, 1) := by decide +kernel
theorem dX6_balance_63 : decode cX6_balance 63 = .ok (.getfield 24, 3) := by decide +kernel
theorem dX6_balance_66 : decode cX6_balance 66 = .ok (.getfield 207, 3) := by decide +kernel
theorem dX6_balance_69 : decode cX6_balance 69 = .ok (.iload_n 1, 1) := by decide +kernel
theorem dX6_balance_70 : decode cX6_balance 70 = .ok (.laload, 1) := by decide +kernel
theorem dX6_balance_71 : decode cX6_balance 71 = .ok (.lreturn, 1) := by decide +kernel
theorem dX6_pair_0 : decode cX6_pair 0 = .ok (.iload_n 1, 1) := by decide +kernel
theorem dX6_pair_1 : decode cX6_pair 1 = .ok (.ifCond .lt 12, 3) := by decide +kernel
theorem dX6_pair_4 : decode cX6_pair 4 = .ok (.iload_n 2, 1) := by decide +kernel
theorem dX6_pair_5 : decode cX6_pair 5 = .ok (.ifCond .lt 8, 3) := by decide +kernel
theorem dX6_pair_8 : decode cX6_pair 8 = .ok (.iload_n 2, 1) := by decide +kernel
theorem dX6_pair_9 : decode cX6_pair 9 = .ok (.iconst 1, 1) := by decide +kernel
theorem dX6_pair_10 : decode cX6_pair 10 = .ok (.if_icmp .le 13, 3) := by decide +kernel
theorem dX6_pair_13 : decode cX6_pair 13 = .ok (.new 153, 3) := by decide +kernel
theorem dX6_pair_16 : decode cX6_pair 16 = .ok (.dup, 1) := by decide +kernel
theorem dX6_pair_17 : decode cX6_pair 17 = .ok (.ldc 211, 2) := by decide +kernel
theorem dX6_pair_19 : decode cX6_pair 19 = .ok (.invokespecial 157, 3) := by decide +kernel
theorem dX6_pair_22 : decode cX6_pair 22 = .ok (.athrow, 1) := by decide +kernel
theorem dX6_pair_23 : decode cX6_pair 23 = .ok (.aload_n 0, 1) := by decide +kernel
theorem dX6_pair_24 : decode cX6_pair 24 = .ok (.invokevirtual 100, 3) := by decide +kernel
theorem dX6_pair_27 : decode cX6_pair 27 = .ok (.iconst 0, 1) := by decide +kernel
theorem dX6_pair_28 : decode cX6_pair 28 = .ok (.istore_n 3, 1) := by decide +kernel
theorem dX6_pair_29 : decode cX6_pair 29 = .ok (.iconst 0, 1) := by decide +kernel
theorem dX6_pair_30 : decode cX6_pair 30 = .ok (.istore 4, 2) := by decide +kernel
theorem dX6_pair_32 : decode cX6_pair 32 = .ok (.iload 4, 2) := by decide +kernel
theorem dX6_pair_34 : decode cX6_pair 34 = .ok (.aload_n 0, 1) := by decide +kernel
theorem dX6_pair_35 : decode cX6_pair 35 = .ok (.getfield 10, 3) := by decide +kernel
theorem dX6_pair_38 : decode cX6_pair 38 = .ok (.invokevirtual 47, 3) := by decide +kernel
theorem dX6_pair_41 : decode cX6_pair 41 = .ok (.if_icmp .ge 76, 3) := by decide +kernel
theorem dX6_pair_44 : decode cX6_pair 44 = .ok (.iload 4, 2) := by decide +kernel
theorem dX6_pair_46 : decode cX6_pair 46 = .ok (.iconst 1, 1) := by decide +kernel
theorem dX6_pair_47 : decode cX6_pair 47 = .ok (.iadd, 1) := by decide +kernel
theorem dX6_pair_48 : decode cX6_pair 48 = .ok (.istore 5, 2) := by decide +kernel
theorem dX6_pair_50 : decode cX6_pair 50 = .ok (.iload 5, 2) := by decide +kernel
theorem dX6_pair_52 : decode cX6_pair 52 = .ok (.aload_n 0, 1) := by decide +kernel
theorem dX6_pair_53 : decode cX6_pair 53 = .ok (.getfield 10, 3) := by decide +kernel
theorem dX6_pair_56 : decode cX6_pair 56 = .ok (.invokevirtual 47, 3) := by decide +kernel
theorem dX6_pair_59 : decode cX6_pair 59 = .ok (.if_icmp .ge 52, 3) := by decide +kernel
theorem dX6_pair_62 : decode cX6_pair 62 = .ok (.aload_n 0, 1) := by decide +kernel
theorem dX6_pair_63 : decode cX6_pair 63 = .ok (.getfield 10, 3) := by decide +kernel
theorem dX6_pair_66 : decode cX6_pair 66 = .ok (.iload 4, 2) := by decide +kernel
theorem dX6_pair_68 : decode cX6_pair 68 = .ok (.invokevirtual 72, 3) := by decide +kernel
theorem dX6_pair_71 : decode cX6_pair 71 = .ok (.checkcast 61, 3) := by decide +kernel
theorem dX6_pair_74 : decode cX6_pair 74 = .ok (.iload 5, 2) := by decide +kernel
theorem dX6_pair_76 : decode cX6_pair 76 = .ok (.invokevirtual 213, 3) := by decide +kernel
theorem dX6_pair_79 : decode cX6_pair 79 = .ok (.ifCond .ne 6, 3) := by decide +kernel
theorem dX6_pair_82 : decode cX6_pair 82 = .ok (.goto 23, 3) := by decide +kernel
theorem dX6_pair_85 : decode cX6_pair 85 = .ok (.iload_n 3, 1) := by decide +kernel
theorem dX6_pair_86 : decode cX6_pair 86 = .ok (.iload_n 1, 1) := by decide +kernel
theorem dX6_pair_87 : decode cX6_pair 87 = .ok (.if_icmp .ne 15, 3) := by decide +kernel
theorem dX6_pair_90 : decode cX6_pair 90 = .ok (.iload_n 2, 1) := by decide +kernel
theorem dX6_pair_91 : decode cX6_pair 91 = .ok (.ifCond .ne 8, 3) := by decide +kernel
theorem dX6_pair_94 : decode cX6_pair 94 = .ok (.iload 4, 2) := by decide +kernel
theorem dX6_pair_96 : decode cX6_pair 96 = .ok (.goto 5, 3) := by decide +kernel
theorem dX6_pair_99 : decode cX6_pair 99 = .ok (.iload 5, 2) := by decide +kernel
theorem dX6_pair_101 : decode cX6_pair 101 = .ok (.ireturn, 1) := by decide +kernel
theorem dX6_pair_102 : decode cX6_pair 102 = .ok (.iinc 3 1, 3) := by decide +kernel
theorem dX6_pair_105 : decode cX6_pair 105 = .ok (.iinc 5 1, 3) := by decide +kernel
theorem dX6_pair_108 : decode cX6_pair 108 = .ok (.goto (-58), 3) := by decide +kernel
theorem dX6_pair_111 : decode cX6_pair 111 = .ok (.iinc 4 1, 3) := by decide +kernel
theorem dX6_pair_114 : decode cX6_pair 114 = .ok (.goto (-82), 3) := by decide +kernel
theorem dX6_pair_117 : decode cX6_pair 117 = .ok (.iconst (-1), 1) := by decide +kernel
theorem dX6_pair_118 : decode cX6_pair 118 = .ok (.ireturn, 1) := by decide +kernel
theorem dX6_closed_0 : decode cX6_closed 0 = .ok (.aload_n 0, 1) := by decide +kernel
theorem dX6_closed_1 : decode cX6_closed 1 = .ok (.getfield 28, 3) := by decide +kernel
theorem dX6_closed_4 : decode cX6_closed 4 = .ok (.ireturn, 1) := by decide +kernel
theorem dX6_clear_0 : decode cX6_clear 0 = .ok (.aload_n 0, 1) := by decide +kernel
theorem dX6_clear_1 : decode cX6_clear 1 = .ok (.getfield 10, 3) := by decide +kernel
theorem dX6_clear_4 : decode cX6_clear 4 = .ok (.invokevirtual 216, 3) := by decide +kernel
theorem dX6_clear_7 : decode cX6_clear 7 = .ok (.aload_n 0, 1) := by decide +kernel
theorem dX6_clear_8 : decode cX6_clear 8 = .ok (.aconst_null, 1) := by decide +kernel
theorem dX6_clear_9 : decode cX6_clear 9 = .ok (.putfield 24, 3) := by decide +kernel
theorem dX6_clear_12 : decode cX6_clear 12 = .ok (.aload_n 0, 1) := by decide +kernel
theorem dX6_clear_13 : decode cX6_clear 13 = .ok (.iconst 0, 1) := by decide +kernel
theorem dX6_clear_14 : decode cX6_clear 14 = .ok (.putfield 20, 3) := by decide +kernel
theorem dX6_clear_17 : decode cX6_clear 17 = .ok (.aload_n 0, 1) := by decide +kernel
theorem dX6_clear_18 : decode cX6_clear 18 = .ok (.iconst 0, 1) := by decide +kernel
theorem dX6_clear_19 : decode cX6_clear 19 = .ok (.putfield 28, 3) := by decide +kernel
theorem dX6_clear_22 : decode cX6_clear 22 = .ok (.return_, 1) := by decide +kernel
theorem dX6_needShape_0 : decode cX6_needShape 0 = .ok (.iload_n 1, 1) := by decide +kernel
theorem dX6_needShape_1 : decode cX6_needShape 1 = .ok (.ifCond .lt 14, 3) := by decide +kernel
theorem dX6_needShape_4 : decode cX6_needShape 4 = .ok (.iload_n 1, 1) := by decide +kernel
theorem dX6_needShape_5 : decode cX6_needShape 5 = .ok (.aload_n 0, 1) := by decide +kernel
theorem dX6_needShape_6 : decode cX6_needShape 6 = .ok (.getfield 10, 3) := by decide +kernel
theorem dX6_needShape_9 : decode cX6_needShape 9 = .ok (.invokevirtual 47, 3) := by decide +kernel
theorem dX6_needShape_12 : decode cX6_needShape 12 = .ok (.if_icmp .lt 13, 3) := by decide +kernel
theorem dX6_needShape_15 : decode cX6_needShape 15 = .ok (.new 153, 3) := by decide +kernel
theorem dX6_needShape_18 : decode cX6_needShape 18 = .ok (.dup, 1) := by decide +kernel
theorem dX6_needShape_19 : decode cX6_needShape 19 = .ok (.ldc 219, 2) := by decide +kernel
theorem dX6_needShape_21 : decode cX6_needShape 21 = .ok (.invokespecial 157, 3) := by decide +kernel
theorem dX6_needShape_24 : decode cX6_needShape 24 = .ok (.athrow, 1) := by decide +kernel
theorem dX6_needShape_25 : decode cX6_needShape 25 = .ok (.return_, 1) := by decide +kernel
theorem dX6_needNoneOpen_0 : decode cX6_needNoneOpen 0 = .ok (.iconst 0, 1) := by decide +kernel
theorem dX6_needNoneOpen_1 : decode cX6_needNoneOpen 1 = .ok (.istore_n 1, 1) := by decide +kernel
theorem dX6_needNoneOpen_2 : decode cX6_needNoneOpen 2 = .ok (.iload_n 1, 1) := by decide +kernel
theorem dX6_needNoneOpen_3 : decode cX6_needNoneOpen 3 = .ok (.aload_n 0, 1) := by decide +kernel
theorem dX6_needNoneOpen_4 : decode cX6_needNoneOpen 4 = .ok (.getfield 10, 3) := by decide +kernel
theorem dX6_needNoneOpen_7 : decode cX6_needNoneOpen 7 = .ok (.invokevirtual 47, 3) := by decide +kernel
theorem dX6_needNoneOpen_10 : decode cX6_needNoneOpen 10 = .ok (.if_icmp .ge 36, 3) := by decide +kernel
theorem dX6_needNoneOpen_13 : decode cX6_needNoneOpen 13 = .ok (.aload_n 0, 1) := by decide +kernel
theorem dX6_needNoneOpen_14 : decode cX6_needNoneOpen 14 = .ok (.getfield 10, 3) := by decide +kernel
theorem dX6_needNoneOpen_17 : decode cX6_needNoneOpen 17 = .ok (.iload_n 1, 1) := by decide +kernel
theorem dX6_needNoneOpen_18 : decode cX6_needNoneOpen 18 = .ok (.invokevirtual 72, 3) := by decide +kernel
theorem dX6_needNoneOpen_21 : decode cX6_needNoneOpen 21 = .ok (.checkcast 61, 3) := by decide +kernel
theorem dX6_needNoneOpen_24 : decode cX6_needNoneOpen 24 = .ok (.invokevirtual 221, 3) := by decide +kernel
theorem dX6_needNoneOpen_27 : decode cX6_needNoneOpen 27 = .ok (.ifCond .eq 13, 3) := by decide +kernel
theorem dX6_needNoneOpen_30 : decode cX6_needNoneOpen 30 = .ok (.new 54, 3) := by decide +kernel
theorem dX6_needNoneOpen_33 : decode cX6_needNoneOpen 33 = .ok (.dup, 1) := by decide +kernel
theorem dX6_needNoneOpen_34 : decode cX6_needNoneOpen 34 = .ok (.ldc 224, 2) := by decide +kernel
theorem dX6_needNoneOpen_36 : decode cX6_needNoneOpen 36 = .ok (.invokespecial 58, 3) := by decide +kernel
theorem dX6_needNoneOpen_39 : decode cX6_needNoneOpen 39 = .ok (.athrow, 1) := by decide +kernel
theorem dX6_needNoneOpen_40 : decode cX6_needNoneOpen 40 = .ok (.iinc 1 1, 3) := by decide +kernel
theorem dX6_needNoneOpen_43 : decode cX6_needNoneOpen 43 = .ok (.goto (-41), 3) := by decide +kernel
theorem dX6_needNoneOpen_46 : decode cX6_needNoneOpen 46 = .ok (.return_, 1) := by decide +kernel
theorem dX6_isNoColour_0 : decode cX6_isNoColour 0 = .ok (.iload_n 0, 1) := by decide +kernel
theorem dX6_isNoColour_1 : decode cX6_isNoColour 1 = .ok (.ifCond .lt 8, 3) := by decide +kernel
theorem dX6_isNoColour_4 : decode cX6_isNoColour 4 = .ok (.iload_n 0, 1) := by decide +kernel
theorem dX6_isNoColour_5 : decode cX6_isNoColour 5 = .ok (.iconst 4, 1) := by decide +kernel
theorem dX6_isNoColour_6 : decode cX6_isNoColour 6 = .ok (.if_icmp .lt 7, 3) := by decide +kernel
theorem dX6_isNoColour_9 : decode cX6_isNoColour 9 = .ok (.iconst 1, 1) := by decide +kernel
theorem dX6_isNoColour_10 : decode cX6_isNoColour 10 = .ok (.goto 4, 3) := by decide +kernel
theorem dX6_isNoColour_13 : decode cX6_isNoColour 13 = .ok (.iconst 0, 1) := by decide +kernel
theorem dX6_isNoColour_14 : decode cX6_isNoColour 14 = .ok (.ireturn, 1) := by decide +kernel
theorem dX6_isTooFar_0 : decode cX6_isTooFar 0 = .ok (.lload_n 0, 1) := by decide +kernel
theorem dX6_isTooFar_1 : decode cX6_isTooFar 1 = .ok (.ldc2_w 226, 3) := by decide +kernel
theorem dX6_isTooFar_4 : decode cX6_isTooFar 4 = .ok (.lcmp, 1) := by decide +kernel
theorem dX6_isTooFar_5 : decode cX6_isTooFar 5 = .ok (.ifCond .lt 11, 3) := by decide +kernel
theorem dX6_isTooFar_8 : decode cX6_isTooFar 8 = .ok (.lload_n 0, 1) := by decide +kernel
theorem dX6_isTooFar_9 : decode cX6_isTooFar 9 = .ok (.ldc2_w 228, 3) := by decide +kernel
theorem dX6_isTooFar_12 : decode cX6_isTooFar 12 = .ok (.lcmp, 1) := by decide +kernel
theorem dX6_isTooFar_13 : decode cX6_isTooFar 13 = .ok (.ifCond .le 7, 3) := by decide +kernel
theorem dX6_isTooFar_16 : decode cX6_isTooFar 16 = .ok (.iconst 1, 1) := by decide +kernel
theorem dX6_isTooFar_17 : decode cX6_isTooFar 17 = .ok (.goto 4, 3) := by decide +kernel
theorem dX6_isTooFar_20 : decode cX6_isTooFar 20 = .ok (.iconst 0, 1) := by decide +kernel
