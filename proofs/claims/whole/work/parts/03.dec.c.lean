theorem dX4_init_0 : decode cX4_init 0 = .ok (.aload_n 0, 1) := by decide +kernel
theorem dX4_init_1 : decode cX4_init 1 = .ok (.invokespecial 1, 3) := by decide +kernel
theorem dX4_init_4 : decode cX4_init 4 = .ok (.aload_n 0, 1) := by decide +kernel
theorem dX4_init_5 : decode cX4_init 5 = .ok (.bipush 8, 2) := by decide +kernel
theorem dX4_init_7 : decode cX4_init 7 = .ok (.newarray .int, 2) := by decide +kernel
theorem dX4_init_9 : decode cX4_init 9 = .ok (.putfield 7, 3) := by decide +kernel
theorem dX4_init_12 : decode cX4_init 12 = .ok (.aload_n 0, 1) := by decide +kernel
theorem dX4_init_13 : decode cX4_init 13 = .ok (.bipush 8, 2) := by decide +kernel
theorem dX4_init_15 : decode cX4_init 15 = .ok (.newarray .int, 2) := by decide +kernel
theorem dX4_init_17 : decode cX4_init 17 = .ok (.putfield 13, 3) := by decide +kernel
theorem dX4_init_20 : decode cX4_init 20 = .ok (.aload_n 0, 1) := by decide +kernel
theorem dX4_init_21 : decode cX4_init 21 = .ok (.sipush 320, 3) := by decide +kernel
theorem dX4_init_24 : decode cX4_init 24 = .ok (.newarray .int, 2) := by decide +kernel
theorem dX4_init_26 : decode cX4_init 26 = .ok (.putfield 16, 3) := by decide +kernel
theorem dX4_init_29 : decode cX4_init 29 = .ok (.aload_n 0, 1) := by decide +kernel
theorem dX4_init_30 : decode cX4_init 30 = .ok (.bipush 51, 2) := by decide +kernel
theorem dX4_init_32 : decode cX4_init 32 = .ok (.newarray .int, 2) := by decide +kernel
theorem dX4_init_34 : decode cX4_init 34 = .ok (.putfield 19, 3) := by decide +kernel
theorem dX4_init_37 : decode cX4_init 37 = .ok (.aload_n 0, 1) := by decide +kernel
theorem dX4_init_38 : decode cX4_init 38 = .ok (.bipush 40, 2) := by decide +kernel
theorem dX4_init_40 : decode cX4_init 40 = .ok (.newarray .int, 2) := by decide +kernel
theorem dX4_init_42 : decode cX4_init 42 = .ok (.putfield 22, 3) := by decide +kernel
theorem dX4_init_45 : decode cX4_init 45 = .ok (.aload_n 0, 1) := by decide +kernel
theorem dX4_init_46 : decode cX4_init 46 = .ok (.bipush 120, 2) := by decide +kernel
theorem dX4_init_48 : decode cX4_init 48 = .ok (.newarray .int, 2) := by decide +kernel
theorem dX4_init_50 : decode cX4_init 50 = .ok (.putfield 25, 3) := by decide +kernel
theorem dX4_init_53 : decode cX4_init 53 = .ok (.aload_n 0, 1) := by decide +kernel
theorem dX4_init_54 : decode cX4_init 54 = .ok (.bipush 51, 2) := by decide +kernel
theorem dX4_init_56 : decode cX4_init 56 = .ok (.newarray .int, 2) := by decide +kernel
theorem dX4_init_58 : decode cX4_init 58 = .ok (.putfield 28, 3) := by decide +kernel
theorem dX4_init_61 : decode cX4_init 61 = .ok (.aload_n 0, 1) := by decide +kernel
theorem dX4_init_62 : decode cX4_init 62 = .ok (.iconst 3, 1) := by decide +kernel
theorem dX4_init_63 : decode cX4_init 63 = .ok (.newarray .int, 2) := by decide +kernel
theorem dX4_init_65 : decode cX4_init 65 = .ok (.putfield 31, 3) := by decide +kernel
theorem dX4_init_68 : decode cX4_init 68 = .ok (.aload_n 0, 1) := by decide +kernel
theorem dX4_init_69 : decode cX4_init 69 = .ok (.sipush 1224, 3) := by decide +kernel
theorem dX4_init_72 : decode cX4_init 72 = .ok (.newarray .int, 2) := by decide +kernel
theorem dX4_init_74 : decode cX4_init 74 = .ok (.putfield 34, 3) := by decide +kernel
theorem dX4_init_77 : decode cX4_init 77 = .ok (.aload_n 0, 1) := by decide +kernel
theorem dX4_init_78 : decode cX4_init 78 = .ok (.bipush 51, 2) := by decide +kernel
theorem dX4_init_80 : decode cX4_init 80 = .ok (.newarray .int, 2) := by decide +kernel
theorem dX4_init_82 : decode cX4_init 82 = .ok (.putfield 37, 3) := by decide +kernel
theorem dX4_init_85 : decode cX4_init 85 = .ok (.aload_n 0, 1) := by decide +kernel
theorem dX4_init_86 : decode cX4_init 86 = .ok (.iconst 4, 1) := by decide +kernel
theorem dX4_init_87 : decode cX4_init 87 = .ok (.newarray .int, 2) := by decide +kernel
theorem dX4_init_89 : decode cX4_init 89 = .ok (.putfield 40, 3) := by decide +kernel
theorem dX4_init_92 : decode cX4_init 92 = .ok (.aload_n 0, 1) := by decide +kernel
theorem dX4_init_93 : decode cX4_init 93 = .ok (.iconst 2, 1) := by decide +kernel
theorem dX4_init_94 : decode cX4_init 94 = .ok (.newarray .boolean, 2) := by decide +kernel
theorem dX4_init_96 : decode cX4_init 96 = .ok (.putfield 43, 3) := by decide +kernel
theorem dX4_init_99 : decode cX4_init 99 = .ok (.aload_n 0, 1) := by decide +kernel
theorem dX4_init_100 : decode cX4_init 100 = .ok (.bipush 102, 2) := by decide +kernel
theorem dX4_init_102 : decode cX4_init 102 = .ok (.newarray .int, 2) := by decide +kernel
theorem dX4_init_104 : decode cX4_init 104 = .ok (.putfield 47, 3) := by decide +kernel
theorem dX4_init_107 : decode cX4_init 107 = .ok (.aload_n 0, 1) := by decide +kernel
theorem dX4_init_108 : decode cX4_init 108 = .ok (.bipush 16, 2) := by decide +kernel
theorem dX4_init_110 : decode cX4_init 110 = .ok (.newarray .int, 2) := by decide +kernel
theorem dX4_init_112 : decode cX4_init 112 = .ok (.putfield 50, 3) := by decide +kernel
theorem dX4_init_115 : decode cX4_init 115 = .ok (.iconst 0, 1) := by decide +kernel
theorem dX4_init_116 : decode cX4_init 116 = .ok (.istore_n 1, 1) := by decide +kernel
theorem dX4_init_117 : decode cX4_init 117 = .ok (.iload_n 1, 1) := by decide +kernel
theorem dX4_init_118 : decode cX4_init 118 = .ok (.bipush 8, 2) := by decide +kernel
theorem dX4_init_120 : decode cX4_init 120 = .ok (.if_icmp .ge 16, 3) := by decide +kernel
theorem dX4_init_123 : decode cX4_init 123 = .ok (.aload_n 0, 1) := by decide +kernel
theorem dX4_init_124 : decode cX4_init 124 = .ok (.getfield 13, 3) := by decide +kernel
theorem dX4_init_127 : decode cX4_init 127 = .ok (.iload_n 1, 1) := by decide +kernel
theorem dX4_init_128 : decode cX4_init 128 = .ok (.iconst (-1), 1) := by decide +kernel
theorem dX4_init_129 : decode cX4_init 129 = .ok (.iastore, 1) := by decide +kernel
theorem dX4_init_130 : decode cX4_init 130 = .ok (.iinc 1 1, 3) := by decide +kernel
theorem dX4_init_133 : decode cX4_init 133 = .ok (.goto (-16), 3) := by decide +kernel
theorem dX4_init_136 : decode cX4_init 136 = .ok (.return_, 1) := by decide +kernel
theorem dX4_in_0 : decode cX4_in 0 = .ok (.lload_n 0, 1) := by decide +kernel
theorem dX4_in_1 : decode cX4_in 1 = .ok (.lload_n 2, 1) := by decide +kernel
theorem dX4_in_2 : decode cX4_in 2 = .ok (.lcmp, 1) := by decide +kernel
theorem dX4_in_3 : decode cX4_in 3 = .ok (.ifCond .lt 14, 3) := by decide +kernel
theorem dX4_in_6 : decode cX4_in 6 = .ok (.lload_n 0, 1) := by decide +kernel
theorem dX4_in_7 : decode cX4_in 7 = .ok (.lload 4, 2) := by decide +kernel
theorem dX4_in_9 : decode cX4_in 9 = .ok (.lcmp, 1) := by decide +kernel
theorem dX4_in_10 : decode cX4_in 10 = .ok (.ifCond .gt 7, 3) := by decide +kernel
theorem dX4_in_13 : decode cX4_in 13 = .ok (.iconst 1, 1) := by decide +kernel
theorem dX4_in_14 : decode cX4_in 14 = .ok (.goto 4, 3) := by decide +kernel
theorem dX4_in_17 : decode cX4_in 17 = .ok (.iconst 0, 1) := by decide +kernel
theorem dX4_in_18 : decode cX4_in 18 = .ok (.ireturn, 1) := by decide +kernel
theorem dX4_has_0 : decode cX4_has 0 = .ok (.iload_n 0, 1) := by decide +kernel
theorem dX4_has_1 : decode cX4_has 1 = .ok (.iload_n 1, 1) := by decide +kernel
theorem dX4_has_2 : decode cX4_has 2 = .ok (.ishr, 1) := by decide +kernel
theorem dX4_has_3 : decode cX4_has 3 = .ok (.iconst 1, 1) := by decide +kernel
theorem dX4_has_4 : decode cX4_has 4 = .ok (.iand, 1) := by decide +kernel
theorem dX4_has_5 : decode cX4_has 5 = .ok (.iconst 1, 1) := by decide +kernel
theorem dX4_has_6 : decode cX4_has 6 = .ok (.if_icmp .ne 7, 3) := by decide +kernel
theorem dX4_has_9 : decode cX4_has 9 = .ok (.iconst 1, 1) := by decide +kernel
theorem dX4_has_10 : decode cX4_has 10 = .ok (.goto 4, 3) := by decide +kernel
theorem dX4_has_13 : decode cX4_has 13 = .ok (.iconst 0, 1) := by decide +kernel
theorem dX4_has_14 : decode cX4_has 14 = .ok (.ireturn, 1) := by decide +kernel
theorem dX4_ones_0 : decode cX4_ones 0 = .ok (.iconst 0, 1) := by decide +kernel
theorem dX4_ones_1 : decode cX4_ones 1 = .ok (.istore_n 1, 1) := by decide +kernel
theorem dX4_ones_2 : decode cX4_ones 2 = .ok (.iload_n 0, 1) := by decide +kernel
theorem dX4_ones_3 : decode cX4_ones 3 = .ok (.istore_n 2, 1) := by decide +kernel
theorem dX4_ones_4 : decode cX4_ones 4 = .ok (.iload_n 2, 1) := by decide +kernel
theorem dX4_ones_5 : decode cX4_ones 5 = .ok (.ifCond .eq 15, 3) := by decide +kernel
theorem dX4_ones_8 : decode cX4_ones 8 = .ok (.iinc 1 1, 3) := by decide +kernel
theorem dX4_ones_11 : decode cX4_ones 11 = .ok (.iload_n 2, 1) := by decide +kernel
theorem dX4_ones_12 : decode cX4_ones 12 = .ok (.iload_n 2, 1) := by decide +kernel
theorem dX4_ones_13 : decode cX4_ones 13 = .ok (.iconst 1, 1) := by decide +kernel
theorem dX4_ones_14 : decode cX4_ones 14 = .ok (.isub, 1) := by decide +kernel
theorem dX4_ones_15 : decode cX4_ones 15 = .ok (.iand, 1) := by decide +kernel
theorem dX4_ones_16 : decode cX4_ones 16 = .ok (.istore_n 2, 1) := by decide +kernel
theorem dX4_ones_17 : decode cX4_ones 17 = .ok (.goto (-13), 3) := by decide +kernel
theorem dX4_ones_20 : decode cX4_ones 20 = .ok (.iload_n 1, 1) := by decide +kernel
theorem dX4_ones_21 : decode cX4_ones 21 = .ok (.ireturn, 1) := by decide +kernel
theorem dX4_find_0 : decode cX4_find 0 = .ok (.aload_n 0, 1) := by decide +kernel
theorem dX4_find_1 : decode cX4_find 1 = .ok (.iload_n 1, 1) := by decide +kernel
theorem dX4_find_2 : decode cX4_find 2 = .ok (.putfield 53, 3) := by decide +kernel
theorem dX4_find_5 : decode cX4_find 5 = .ok (.ldc 57, 2) := by decide +kernel
theorem dX4_find_7 : decode cX4_find 7 = .ok (.iload_n 1, 1) := by decide +kernel
theorem dX4_find_8 : decode cX4_find 8 = .ok (.isub, 1) := by decide +kernel
theorem dX4_find_9 : decode cX4_find 9 = .ok (.ireturn, 1) := by decide +kernel
theorem dX4_well_0 : decode cX4_well 0 = .ok (.aload_n 0, 1) := by decide +kernel
theorem dX4_well_1 : decode cX4_well 1 = .ok (.iconst 0, 1) := by decide +kernel
theorem dX4_well_2 : decode cX4_well 2 = .ok (.putfield 53, 3) := by decide +kernel
theorem dX4_well_5 : decode cX4_well 5 = .ok (.iload_n 1, 1) := by decide +kernel
theorem dX4_well_6 : decode cX4_well 6 = .ok (.ireturn, 1) := by decide +kernel
theorem dX4_isRow_0 : decode cX4_isRow 0 = .ok (.iload_n 0, 1) := by decide +kernel
theorem dX4_isRow_1 : decode cX4_isRow 1 = .ok (.i2l, 1) := by decide +kernel
theorem dX4_isRow_2 : decode cX4_isRow 2 = .ok (.lconst 0, 1) := by decide +kernel
theorem dX4_isRow_3 : decode cX4_isRow 3 = .ok (.ldc2_w 58, 3) := by decide +kernel
theorem dX4_isRow_6 : decode cX4_isRow 6 = .ok (.invokestatic 60, 3) := by decide +kernel
theorem dX4_isRow_9 : decode cX4_isRow 9 = .ok (.ireturn, 1) := by decide +kernel
theorem dX4_row_0 : decode cX4_row 0 = .ok (.iload_n 1, 1) := by decide +kernel
theorem dX4_row_1 : decode cX4_row 1 = .ok (.invokestatic 64, 3) := by decide +kernel
theorem dX4_row_4 : decode cX4_row 4 = .ok (.ifCond .eq 21, 3) := by decide +kernel
theorem dX4_row_7 : decode cX4_row 7 = .ok (.iload_n 2, 1) := by decide +kernel
theorem dX4_row_8 : decode cX4_row 8 = .ok (.i2l, 1) := by decide +kernel
theorem dX4_row_9 : decode cX4_row 9 = .ok (.lconst 0, 1) := by decide +kernel
theorem dX4_row_10 : decode cX4_row 10 = .ok (.ldc2_w 68, 3) := by decide +kernel
theorem dX4_row_13 : decode cX4_row 13 = .ok (.invokestatic 60, 3) := by decide +kernel
theorem dX4_row_16 : decode cX4_row 16 = .ok (.ifCond .eq 9, 3) := by decide +kernel
theorem dX4_row_19 : decode cX4_row 19 = .ok (.iload_n 3, 1) := by decide +kernel
theorem dX4_row_20 : decode cX4_row 20 = .ok (.bipush 40, 2) := by decide +kernel
theorem dX4_row_22 : decode cX4_row 22 = .ok (.if_icmp .le 6, 3) := by decide +kernel
theorem dX4_row_25 : decode cX4_row 25 = .ok (.ldc 70, 2) := by decide +kernel
theorem dX4_row_27 : decode cX4_row 27 = .ok (.ireturn, 1) := by decide +kernel
theorem dX4_row_28 : decode cX4_row 28 = .ok (.iload_n 3, 1) := by decide +kernel
theorem dX4_row_29 : decode cX4_row 29 = .ok (.ifCond .ge 9, 3) := by decide +kernel
theorem dX4_row_32 : decode cX4_row 32 = .ok (.aload_n 0, 1) := by decide +kernel
theorem dX4_row_33 : decode cX4_row 33 = .ok (.iconst 4, 1) := by decide +kernel
theorem dX4_row_34 : decode cX4_row 34 = .ok (.invokevirtual 71, 3) := by decide +kernel
theorem dX4_row_37 : decode cX4_row 37 = .ok (.ireturn, 1) := by decide +kernel
theorem dX4_row_38 : decode cX4_row 38 = .ok (.aload_n 0, 1) := by decide +kernel
theorem dX4_row_39 : decode cX4_row 39 = .ok (.getfield 7, 3) := by decide +kernel
theorem dX4_row_42 : decode cX4_row 42 = .ok (.iload_n 1, 1) := by decide +kernel
theorem dX4_row_43 : decode cX4_row 43 = .ok (.iload_n 2, 1) := by decide +kernel
theorem dX4_row_44 : decode cX4_row 44 = .ok (.iastore, 1) := by decide +kernel
theorem dX4_row_45 : decode cX4_row 45 = .ok (.aload_n 0, 1) := by decide +kernel
theorem dX4_row_46 : decode cX4_row 46 = .ok (.getfield 13, 3) := by decide +kernel
theorem dX4_row_49 : decode cX4_row 49 = .ok (.iload_n 1, 1) := by decide +kernel
theorem dX4_row_50 : decode cX4_row 50 = .ok (.iload_n 3, 1) := by decide +kernel
theorem dX4_row_51 : decode cX4_row 51 = .ok (.iastore, 1) := by decide +kernel
theorem dX4_row_52 : decode cX4_row 52 = .ok (.iconst 0, 1) := by decide +kernel
theorem dX4_row_53 : decode cX4_row 53 = .ok (.istore 4, 2) := by decide +kernel
theorem dX4_row_55 : decode cX4_row 55 = .ok (.iload 4, 2) := by decide +kernel
theorem dX4_row_57 : decode cX4_row 57 = .ok (.bipush 40, 2) := by decide +kernel
theorem dX4_row_59 : decode cX4_row 59 = .ok (.if_icmp .ge 22, 3) := by decide +kernel
theorem dX4_row_62 : decode cX4_row 62 = .ok (.aload_n 0, 1) := by decide +kernel
theorem dX4_row_63 : decode cX4_row 63 = .ok (.getfield 16, 3) := by decide +kernel
theorem dX4_row_66 : decode cX4_row 66 = .ok (.bipush 40, 2) := by decide +kernel
theorem dX4_row_68 : decode cX4_row 68 = .ok (.iload_n 1, 1) := by decide +kernel
theorem dX4_row_69 : decode cX4_row 69 = .ok (.imul, 1) := by decide +kernel
theorem dX4_row_70 : decode cX4_row 70 = .ok (.iload 4, 2) := by decide +kernel
theorem dX4_row_72 : decode cX4_row 72 = .ok (.iadd, 1) := by decide +kernel
theorem dX4_row_73 : decode cX4_row 73 = .ok (.iconst 0, 1) := by decide +kernel
theorem dX4_row_74 : decode cX4_row 74 = .ok (.iastore, 1) := by decide +kernel
theorem dX4_row_75 : decode cX4_row 75 = .ok (.iinc 4 1, 3) := by decide +kernel
theorem dX4_row_78 : decode cX4_row 78 = .ok (.goto (-23), 3) := by decide +kernel
theorem dX4_row_81 : decode cX4_row 81 = .ok (.aload_n 0, 1) := by decide +kernel
theorem dX4_row_82 : decode cX4_row 82 = .ok (.iload_n 3, 1) := by decide +kernel
theorem dX4_row_83 : decode cX4_row 83 = .ok (.invokevirtual 75, 3) := by decide +kernel
theorem dX4_row_86 : decode cX4_row 86 = .ok (.ireturn, 1) := by decide +kernel
theorem dX4_asLane_0 : decode cX4_asLane 0 = .ok (.iload_n 0, 1) := by decide +kernel
theorem dX4_asLane_1 : decode cX4_asLane 1 = .ok (.ifCond .ne 13, 3) := by decide +kernel
theorem dX4_asLane_4 : decode cX4_asLane 4 = .ok (.iload_n 1, 1) := by decide +kernel
theorem dX4_asLane_5 : decode cX4_asLane 5 = .ok (.bipush 24, 2) := by decide +kernel
theorem dX4_asLane_7 : decode cX4_asLane 7 = .ok (.ishl, 1) := by decide +kernel
theorem dX4_asLane_8 : decode cX4_asLane 8 = .ok (.bipush 24, 2) := by decide +kernel
theorem dX4_asLane_10 : decode cX4_asLane 10 = .ok (.ishr, 1) := by decide +kernel
theorem dX4_asLane_11 : decode cX4_asLane 11 = .ok (.goto 19, 3) := by decide +kernel
theorem dX4_asLane_14 : decode cX4_asLane 14 = .ok (.iload_n 0, 1) := by decide +kernel
theorem dX4_asLane_15 : decode cX4_asLane 15 = .ok (.iconst 1, 1) := by decide +kernel
theorem dX4_asLane_16 : decode cX4_asLane 16 = .ok (.if_icmp .ne 13, 3) := by decide +kernel
theorem dX4_asLane_19 : decode cX4_asLane 19 = .ok (.iload_n 1, 1) := by decide +kernel
theorem dX4_asLane_20 : decode cX4_asLane 20 = .ok (.bipush 16, 2) := by decide +kernel
theorem dX4_asLane_22 : decode cX4_asLane 22 = .ok (.ishl, 1) := by decide +kernel
theorem dX4_asLane_23 : decode cX4_asLane 23 = .ok (.bipush 16, 2) := by decide +kernel
theorem dX4_asLane_25 : decode cX4_asLane 25 = .ok (.ishr, 1) := by decide +kernel
theorem dX4_asLane_26 : decode cX4_asLane 26 = .ok (.goto 4, 3) := by decide +kernel
theorem dX4_asLane_29 : decode cX4_asLane 29 = .ok (.iload_n 1, 1) := by decide +kernel
theorem dX4_asLane_30 : decode cX4_asLane 30 = .ok (.ireturn, 1) := by decide +kernel
theorem dX4_set_0 : decode cX4_set 0 = .ok (.iload_n 1, 1) := by decide +kernel
theorem dX4_set_1 : decode cX4_set 1 = .ok (.invokestatic 64, 3) := by decide +kernel
theorem dX4_set_4 : decode cX4_set 4 = .ok (.ifCond .ne 6, 3) := by decide +kernel
theorem dX4_set_7 : decode cX4_set 7 = .ok (.ldc 70, 2) := by decide +kernel
theorem dX4_set_9 : decode cX4_set 9 = .ok (.ireturn, 1) := by decide +kernel
theorem dX4_set_10 : decode cX4_set 10 = .ok (.aload_n 0, 1) := by decide +kernel
theorem dX4_set_11 : decode cX4_set 11 = .ok (.getfield 13, 3) := by decide +kernel
theorem dX4_set_14 : decode cX4_set 14 = .ok (.iload_n 1, 1) := by decide +kernel
theorem dX4_set_15 : decode cX4_set 15 = .ok (.iaload, 1) := by decide +kernel
theorem dX4_set_16 : decode cX4_set 16 = .ok (.ifCond .ge 9, 3) := by decide +kernel
theorem dX4_set_19 : decode cX4_set 19 = .ok (.aload_n 0, 1) := by decide +kernel
theorem dX4_set_20 : decode cX4_set 20 = .ok (.iconst 1, 1) := by decide +kernel
theorem dX4_set_21 : decode cX4_set 21 = .ok (.invokevirtual 71, 3) := by decide +kernel
theorem dX4_set_24 : decode cX4_set 24 = .ok (.ireturn, 1) := by decide +kernel
theorem dX4_set_25 : decode cX4_set 25 = .ok (.iload_n 2, 1) := by decide +kernel
theorem dX4_set_26 : decode cX4_set 26 = .ok (.i2l, 1) := by decide +kernel
theorem dX4_set_27 : decode cX4_set 27 = .ok (.lconst 0, 1) := by decide +kernel
theorem dX4_set_28 : decode cX4_set 28 = .ok (.aload_n 0, 1) := by decide +kernel
theorem dX4_set_29 : decode cX4_set 29 = .ok (.getfield 13, 3) := by decide +kernel
theorem dX4_set_32 : decode cX4_set 32 = .ok (.iload_n 1, 1) := by decide +kernel
theorem dX4_set_33 : decode cX4_set 33 = .ok (.iaload, 1) := by decide +kernel
theorem dX4_set_34 : decode cX4_set 34 = .ok (.iconst 1, 1) := by decide +kernel
theorem dX4_set_35 : decode cX4_set 35 = .ok (.isub, 1) := by decide +kernel
theorem dX4_set_36 : decode cX4_set 36 = .ok (.i2l, 1) := by decide +kernel
theorem dX4_set_37 : decode cX4_set 37 = .ok (.invokestatic 60, 3) := by decide +kernel
theorem dX4_set_40 : decode cX4_set 40 = .ok (.ifCond .ne 9, 3) := by decide +kernel
theorem dX4_set_43 : decode cX4_set 43 = .ok (.aload_n 0, 1) := by decide +kernel
theorem dX4_set_44 : decode cX4_set 44 = .ok (.iconst 2, 1) := by decide +kernel
theorem dX4_set_45 : decode cX4_set 45 = .ok (.invokevirtual 71, 3) := by decide +kernel
theorem dX4_set_48 : decode cX4_set 48 = .ok (.ireturn, 1) := by decide +kernel
theorem dX4_set_49 : decode cX4_set 49 = .ok (.aload_n 0, 1) := by decide +kernel
theorem dX4_set_50 : decode cX4_set 50 = .ok (.getfield 16, 3) := by decide +kernel
theorem dX4_set_53 : decode cX4_set 53 = .ok (.bipush 40, 2) := by decide +kernel
theorem dX4_set_55 : decode cX4_set 55 = .ok (.iload_n 1, 1) := by decide +kernel
theorem dX4_set_56 : decode cX4_set 56 = .ok (.imul, 1) := by decide +kernel
theorem dX4_set_57 : decode cX4_set 57 = .ok (.iload_n 2, 1) := by decide +kernel
theorem dX4_set_58 : decode cX4_set 58 = .ok (.iadd, 1) := by decide +kernel
theorem dX4_set_59 : decode cX4_set 59 = .ok (.aload_n 0, 1) := by decide +kernel
theorem dX4_set_60 : decode cX4_set 60 = .ok (.getfield 7, 3) := by decide +kernel
theorem dX4_set_63 : decode cX4_set 63 = .ok (.iload_n 1, 1) := by decide +kernel
theorem dX4_set_64 : decode cX4_set 64 = .ok (.iaload, 1) := by decide +kernel
theorem dX4_set_65 : decode cX4_set 65 = .ok (.iload_n 3, 1) := by decide +kernel
theorem dX4_set_66 : decode cX4_set 66 = .ok (.invokestatic 78, 3) := by decide +kernel
theorem dX4_set_69 : decode cX4_set 69 = .ok (.iastore, 1) := by decide +kernel
theorem dX4_set_70 : decode cX4_set 70 = .ok (.aload_n 0, 1) := by decide +kernel
theorem dX4_set_71 : decode cX4_set 71 = .ok (.aload_n 0, 1) := by decide +kernel
theorem dX4_set_72 : decode cX4_set 72 = .ok (.getfield 16, 3) := by decide +kernel
theorem dX4_set_75 : decode cX4_set 75 = .ok (.bipush 40, 2) := by decide +kernel
theorem dX4_set_77 : decode cX4_set 77 = .ok (.iload_n 1, 1) := by decide +kernel
theorem dX4_set_78 : decode cX4_set 78 = .ok (.imul, 1) := by decide +kernel
theorem dX4_set_79 : decode cX4_set 79 = .ok (.iload_n 2, 1) := by decide +kernel
theorem dX4_set_80 : decode cX4_set 80 = .ok (.iadd, 1) := by decide +kernel
theorem dX4_set_81 : decode cX4_set 81 = .ok (.iaload, 1) := by decide +kernel
theorem dX4_set_82 : decode cX4_set 82 = .ok (.invokevirtual 75, 3) := by decide +kernel
theorem dX4_set_85 : decode cX4_set 85 = .ok (.ireturn, 1) := by decide +kernel
theorem dX4_copy_0 : decode cX4_copy 0 = .ok (.iload_n 1, 1) := by decide +kernel
theorem dX4_copy_1 : decode cX4_copy 1 = .ok (.invokestatic 64, 3) := by decide +kernel
theorem dX4_copy_4 : decode cX4_copy 4 = .ok (.ifCond .eq 10, 3) := by decide +kernel
theorem dX4_copy_7 : decode cX4_copy 7 = .ok (.iload_n 3, 1) := by decide +kernel
theorem dX4_copy_8 : decode cX4_copy 8 = .ok (.invokestatic 64, 3) := by decide +kernel
theorem dX4_copy_11 : decode cX4_copy 11 = .ok (.ifCond .ne 6, 3) := by decide +kernel
theorem dX4_copy_14 : decode cX4_copy 14 = .ok (.ldc 70, 2) := by decide +kernel
theorem dX4_copy_16 : decode cX4_copy 16 = .ok (.ireturn, 1) := by decide +kernel
theorem dX4_copy_17 : decode cX4_copy 17 = .ok (.aload_n 0, 1) := by decide +kernel
theorem dX4_copy_18 : decode cX4_copy 18 = .ok (.getfield 13, 3) := by decide +kernel
theorem dX4_copy_21 : decode cX4_copy 21 = .ok (.iload_n 1, 1) := by decide +kernel
theorem dX4_copy_22 : decode cX4_copy 22 = .ok (.iaload, 1) := by decide +kernel
theorem dX4_copy_23 : decode cX4_copy 23 = .ok (.ifCond .lt 12, 3) := by decide +kernel
theorem dX4_copy_26 : decode cX4_copy 26 = .ok (.aload_n 0, 1) := by decide +kernel
theorem dX4_copy_27 : decode cX4_copy 27 = .ok (.getfield 13, 3) := by decide +kernel
theorem dX4_copy_30 : decode cX4_copy 30 = .ok (.iload_n 3, 1) := by decide +kernel
theorem dX4_copy_31 : decode cX4_copy 31 = .ok (.iaload, 1) := by decide +kernel
theorem dX4_copy_32 : decode cX4_copy 32 = .ok (.ifCond .ge 9, 3) := by decide +kernel
theorem dX4_copy_35 : decode cX4_copy 35 = .ok (.aload_n 0, 1) := by decide +kernel
theorem dX4_copy_36 : decode cX4_copy 36 = .ok (.iconst 1, 1) := by decide +kernel
theorem dX4_copy_37 : decode cX4_copy 37 = .ok (.invokevirtual 71, 3) := by decide +kernel
theorem dX4_copy_40 : decode cX4_copy 40 = .ok (.ireturn, 1) := by decide +kernel
theorem dX4_copy_41 : decode cX4_copy 41 = .ok (.aload_n 0, 1) := by decide +kernel
theorem dX4_copy_42 : decode cX4_copy 42 = .ok (.getfield 7, 3) := by decide +kernel
theorem dX4_copy_45 : decode cX4_copy 45 = .ok (.iload_n 1, 1) := by decide +kernel
theorem dX4_copy_46 : decode cX4_copy 46 = .ok (.iaload, 1) := by decide +kernel
theorem dX4_copy_47 : decode cX4_copy 47 = .ok (.aload_n 0, 1) := by decide +kernel
theorem dX4_copy_48 : decode cX4_copy 48 = .ok (.getfield 7, 3) := by decide +kernel
theorem dX4_copy_51 : decode cX4_copy 51 = .ok (.iload_n 3, 1) := by decide +kernel
theorem dX4_copy_52 : decode cX4_copy 52 = .ok (.iaload, 1) := by decide +kernel
theorem dX4_copy_53 : decode cX4_copy 53 = .ok (.if_icmp .eq 9, 3) := by decide +kernel
theorem dX4_copy_56 : decode cX4_copy 56 = .ok (.aload_n 0, 1) := by decide +kernel
theorem dX4_copy_57 : decode cX4_copy 57 = .ok (.iconst 5, 1) := by decide +kernel
theorem dX4_copy_58 : decode cX4_copy 58 = .ok (.invokevirtual 71, 3) := by decide +kernel
theorem dX4_copy_61 : decode cX4_copy 61 = .ok (.ireturn, 1) := by decide +kernel
theorem dX4_copy_62 : decode cX4_copy 62 = .ok (.iload 5, 2) := by decide +kernel
theorem dX4_copy_64 : decode cX4_copy 64 = .ok (.ifCond .lt 44, 3) := by decide +kernel
theorem dX4_copy_67 : decode cX4_copy 67 = .ok (.iload_n 2, 1) := by decide +kernel
theorem dX4_copy_68 : decode cX4_copy 68 = .ok (.i2l, 1) := by decide +kernel
theorem dX4_copy_69 : decode cX4_copy 69 = .ok (.lconst 0, 1) := by decide +kernel
theorem dX4_copy_70 : decode cX4_copy 70 = .ok (.aload_n 0, 1) := by decide +kernel
theorem dX4_copy_71 : decode cX4_copy 71 = .ok (.getfield 13, 3) := by decide +kernel
theorem dX4_copy_74 : decode cX4_copy 74 = .ok (.iload_n 1, 1) := by decide +kernel
theorem dX4_copy_75 : decode cX4_copy 75 = .ok (.iaload, 1) := by decide +kernel
theorem dX4_copy_76 : decode cX4_copy 76 = .ok (.i2l, 1) := by decide +kernel
theorem dX4_copy_77 : decode cX4_copy 77 = .ok (.iload 5, 2) := by decide +kernel
theorem dX4_copy_79 : decode cX4_copy 79 = .ok (.i2l, 1) := by decide +kernel
theorem dX4_copy_80 : decode cX4_copy 80 = .ok (.lsub, 1) := by decide +kernel
theorem dX4_copy_81 : decode cX4_copy 81 = .ok (.invokestatic 60, 3) := by decide +kernel
theorem dX4_copy_84 : decode cX4_copy 84 = .ok (.ifCond .eq 24, 3) := by decide +kernel
theorem dX4_copy_87 : decode cX4_copy 87 = .ok (.iload 4, 2) := by decide +kernel
theorem dX4_copy_89 : decode cX4_copy 89 = .ok (.i2l, 1) := by decide +kernel
theorem dX4_copy_90 : decode cX4_copy 90 = .ok (.lconst 0, 1) := by decide +kernel
theorem dX4_copy_91 : decode cX4_copy 91 = .ok (.aload_n 0, 1) := by decide +kernel
theorem dX4_copy_92 : decode cX4_copy 92 = .ok (.getfield 13, 3) := by decide +kernel
theorem dX4_copy_95 : decode cX4_copy 95 = .ok (.iload_n 3, 1) := by decide +kernel
theorem dX4_copy_96 : decode cX4_copy 96 = .ok (.iaload, 1) := by decide +kernel
theorem dX4_copy_97 : decode cX4_copy 97 = .ok (.i2l, 1) := by decide +kernel
theorem dX4_copy_98 : decode cX4_copy 98 = .ok (.iload 5, 2) := by decide +kernel
theorem dX4_copy_100 : decode cX4_copy 100 = .ok (.i2l, 1) := by decide +kernel
theorem dX4_copy_101 : decode cX4_copy 101 = .ok (.lsub, 1) := by decide +kernel
theorem dX4_copy_102 : decode cX4_copy 102 = .ok (.invokestatic 60, 3) := by decide +kernel
theorem dX4_copy_105 : decode cX4_copy 105 = .ok (.ifCond .ne 9, 3) := by decide +kernel
theorem dX4_copy_108 : decode cX4_copy 108 = .ok (.aload_n 0, 1) := by decide +kernel
theorem dX4_copy_109 : decode cX4_copy 109 = .ok (.iconst 2, 1) := by decide +kernel
theorem dX4_copy_110 : decode cX4_copy 110 = .ok (.invokevirtual 71, 3) := by decide +kernel
theorem dX4_copy_113 : decode cX4_copy 113 = .ok (.ireturn, 1) := by decide +kernel
theorem dX4_copy_114 : decode cX4_copy 114 = .ok (.iconst 0, 1) := by decide +kernel
theorem dX4_copy_115 : decode cX4_copy 115 = .ok (.istore 6, 2) := by decide +kernel
theorem dX4_copy_117 : decode cX4_copy 117 = .ok (.iload 6, 2) := by decide +kernel
theorem dX4_copy_119 : decode cX4_copy 119 = .ok (.iload 5, 2) := by decide +kernel
theorem dX4_copy_121 : decode cX4_copy 121 = .ok (.if_icmp .ge 30, 3) := by decide +kernel
theorem dX4_copy_124 : decode cX4_copy 124 = .ok (.aload_n 0, 1) := by decide +kernel
theorem dX4_copy_125 : decode cX4_copy 125 = .ok (.getfield 22, 3) := by decide +kernel
theorem dX4_copy_128 : decode cX4_copy 128 = .ok (.iload 6, 2) := by decide +kernel
theorem dX4_copy_130 : decode cX4_copy 130 = .ok (.aload_n 0, 1) := by decide +kernel
theorem dX4_copy_131 : decode cX4_copy 131 = .ok (.getfield 16, 3) := by decide +kernel
theorem dX4_copy_134 : decode cX4_copy 134 = .ok (.bipush 40, 2) := by decide +kernel
theorem dX4_copy_136 : decode cX4_copy 136 = .ok (.iload_n 1, 1) := by decide +kernel
theorem dX4_copy_137 : decode cX4_copy 137 = .ok (.imul, 1) := by decide +kernel
theorem dX4_copy_138 : decode cX4_copy 138 = .ok (.iload_n 2, 1) := by decide +kernel
theorem dX4_copy_139 : decode cX4_copy 139 = .ok (.iadd, 1) := by decide +kernel
theorem dX4_copy_140 : decode cX4_copy 140 = .ok (.iload 6, 2) := by decide +kernel
theorem dX4_copy_142 : decode cX4_copy 142 = .ok (.iadd, 1) := by decide +kernel
theorem dX4_copy_143 : decode cX4_copy 143 = .ok (.iaload, 1) := by decide +kernel
theorem dX4_copy_144 : decode cX4_copy 144 = .ok (.iastore, 1) := by decide +kernel
theorem dX4_copy_145 : decode cX4_copy 145 = .ok (.iinc 6 1, 3) := by decide +kernel
theorem dX4_copy_148 : decode cX4_copy 148 = .ok (.goto (-31), 3) := by decide +kernel
theorem dX4_copy_151 : decode cX4_copy 151 = .ok (.iconst 0, 1) := by decide +kernel
theorem dX4_copy_152 : decode cX4_copy 152 = .ok (.istore 6, 2) := by decide +kernel
theorem dX4_copy_154 : decode cX4_copy 154 = .ok (.iload 6, 2) := by decide +kernel
theorem dX4_copy_156 : decode cX4_copy 156 = .ok (.iload 5, 2) := by decide +kernel
theorem dX4_copy_158 : decode cX4_copy 158 = .ok (.if_icmp .ge 31, 3) := by decide +kernel
theorem dX4_copy_161 : decode cX4_copy 161 = .ok (.aload_n 0, 1) := by decide +kernel
theorem dX4_copy_162 : decode cX4_copy 162 = .ok (.getfield 16, 3) := by decide +kernel
theorem dX4_copy_165 : decode cX4_copy 165 = .ok (.bipush 40, 2) := by decide +kernel
theorem dX4_copy_167 : decode cX4_copy 167 = .ok (.iload_n 3, 1) := by decide +kernel
theorem dX4_copy_168 : decode cX4_copy 168 = .ok (.imul, 1) := by decide +kernel
theorem dX4_copy_169 : decode cX4_copy 169 = .ok (.iload 4, 2) := by decide +kernel
theorem dX4_copy_171 : decode cX4_copy 171 = .ok (.iadd, 1) := by decide +kernel
theorem dX4_copy_172 : decode cX4_copy 172 = .ok (.iload 6, 2) := by decide +kernel
theorem dX4_copy_174 : decode cX4_copy 174 = .ok (.iadd, 1) := by decide +kernel
theorem dX4_copy_175 : decode cX4_copy 175 = .ok (.aload_n 0, 1) := by decide +kernel
theorem dX4_copy_176 : decode cX4_copy 176 = .ok (.getfield 22, 3) := by decide +kernel
theorem dX4_copy_179 : decode cX4_copy 179 = .ok (.iload 6, 2) := by decide +kernel
theorem dX4_copy_181 : decode cX4_copy 181 = .ok (.iaload, 1) := by decide +kernel
theorem dX4_copy_182 : decode cX4_copy 182 = .ok (.iastore, 1) := by decide +kernel
theorem dX4_copy_183 : decode cX4_copy 183 = .ok (.iinc 6 1, 3) := by decide +kernel
theorem dX4_copy_186 : decode cX4_copy 186 = .ok (.goto (-32), 3) := by decide +kernel
theorem dX4_copy_189 : decode cX4_copy 189 = .ok (.aload_n 0, 1) := by decide +kernel
theorem dX4_copy_190 : decode cX4_copy 190 = .ok (.iload 5, 2) := by decide +kernel
theorem dX4_copy_192 : decode cX4_copy 192 = .ok (.invokevirtual 75, 3) := by decide +kernel
theorem dX4_copy_195 : decode cX4_copy 195 = .ok (.ireturn, 1) := by decide +kernel
theorem dX4_drop_0 : decode cX4_drop 0 = .ok (.iload_n 1, 1) := by decide +kernel
theorem dX4_drop_1 : decode cX4_drop 1 = .ok (.invokestatic 64, 3) := by decide +kernel
theorem dX4_drop_4 : decode cX4_drop 4 = .ok (.ifCond .ne 6, 3) := by decide +kernel
theorem dX4_drop_7 : decode cX4_drop 7 = .ok (.ldc 70, 2) := by decide +kernel
theorem dX4_drop_9 : decode cX4_drop 9 = .ok (.ireturn, 1) := by decide +kernel
theorem dX4_drop_10 : decode cX4_drop 10 = .ok (.aload_n 0, 1) := by decide +kernel
theorem dX4_drop_11 : decode cX4_drop 11 = .ok (.getfield 13, 3) := by decide +kernel
theorem dX4_drop_14 : decode cX4_drop 14 = .ok (.iload_n 1, 1) := by decide +kernel
theorem dX4_drop_15 : decode cX4_drop 15 = .ok (.iaload, 1) := by decide +kernel
theorem dX4_drop_16 : decode cX4_drop 16 = .ok (.ifCond .ge 9, 3) := by decide +kernel
theorem dX4_drop_19 : decode cX4_drop 19 = .ok (.aload_n 0, 1) := by decide +kernel
theorem dX4_drop_20 : decode cX4_drop 20 = .ok (.iconst 1, 1) := by decide +kernel
theorem dX4_drop_21 : decode cX4_drop 21 = .ok (.invokevirtual 71, 3) := by decide +kernel
theorem dX4_drop_24 : decode cX4_drop 24 = .ok (.ireturn, 1) := by decide +kernel
theorem dX4_drop_25 : decode cX4_drop 25 = .ok (.aload_n 0, 1) := by decide +kernel
theorem dX4_drop_26 : decode cX4_drop 26 = .ok (.getfield 13, 3) := by decide +kernel
theorem dX4_drop_29 : decode cX4_drop 29 = .ok (.iload_n 1, 1) := by decide +kernel
theorem dX4_drop_30 : decode cX4_drop 30 = .ok (.iaload, 1) := by decide +kernel
theorem dX4_drop_31 : decode cX4_drop 31 = .ok (.istore_n 2, 1) := by decide +kernel
theorem dX4_drop_32 : decode cX4_drop 32 = .ok (.aload_n 0, 1) := by decide +kernel
theorem dX4_drop_33 : decode cX4_drop 33 = .ok (.getfield 13, 3) := by decide +kernel
theorem dX4_drop_36 : decode cX4_drop 36 = .ok (.iload_n 1, 1) := by decide +kernel
theorem dX4_drop_37 : decode cX4_drop 37 = .ok (.iconst (-1), 1) := by decide +kernel
theorem dX4_drop_38 : decode cX4_drop 38 = .ok (.iastore, 1) := by decide +kernel
theorem dX4_drop_39 : decode cX4_drop 39 = .ok (.aload_n 0, 1) := by decide +kernel
theorem dX4_drop_40 : decode cX4_drop 40 = .ok (.iload_n 2, 1) := by decide +kernel
theorem dX4_drop_41 : decode cX4_drop 41 = .ok (.invokevirtual 75, 3) := by decide +kernel
theorem dX4_drop_44 : decode cX4_drop 44 = .ok (.ireturn, 1) := by decide +kernel
theorem dX4_feed_0 : decode cX4_feed 0 = .ok (.iload_n 1, 1) := by decide +kernel
theorem dX4_feed_1 : decode cX4_feed 1 = .ok (.i2l, 1) := by decide +kernel
theorem dX4_feed_2 : decode cX4_feed 2 = .ok (.lconst 0, 1) := by decide +kernel
theorem dX4_feed_3 : decode cX4_feed 3 = .ok (.ldc2_w 82, 3) := by decide +kernel
theorem dX4_feed_6 : decode cX4_feed 6 = .ok (.invokestatic 60, 3) := by decide +kernel
theorem dX4_feed_9 : decode cX4_feed 9 = .ok (.ifCond .ne 6, 3) := by decide +kernel
theorem dX4_feed_12 : decode cX4_feed 12 = .ok (.ldc 70, 2) := by decide +kernel
theorem dX4_feed_14 : decode cX4_feed 14 = .ok (.ireturn, 1) := by decide +kernel
theorem dX4_feed_15 : decode cX4_feed 15 = .ok (.aload_n 0, 1) := by decide +kernel
theorem dX4_feed_16 : decode cX4_feed 16 = .ok (.getfield 84, 3) := by decide +kernel
theorem dX4_feed_19 : decode cX4_feed 19 = .ok (.bipush 120, 2) := by decide +kernel
theorem dX4_feed_21 : decode cX4_feed 21 = .ok (.if_icmp .ne 6, 3) := by decide +kernel
theorem dX4_feed_24 : decode cX4_feed 24 = .ok (.ldc 87, 2) := by decide +kernel
theorem dX4_feed_26 : decode cX4_feed 26 = .ok (.ireturn, 1) := by decide +kernel
theorem dX4_feed_27 : decode cX4_feed 27 = .ok (.aload_n 0, 1) := by decide +kernel
theorem dX4_feed_28 : decode cX4_feed 28 = .ok (.getfield 25, 3) := by decide +kernel
theorem dX4_feed_31 : decode cX4_feed 31 = .ok (.aload_n 0, 1) := by decide +kernel
theorem dX4_feed_32 : decode cX4_feed 32 = .ok (.getfield 84, 3) := by decide +kernel
theorem dX4_feed_35 : decode cX4_feed 35 = .ok (.iload_n 1, 1) := by decide +kernel
theorem dX4_feed_36 : decode cX4_feed 36 = .ok (.iastore, 1) := by decide +kernel
theorem dX4_feed_37 : decode cX4_feed 37 = .ok (.aload_n 0, 1) := by decide +kernel
theorem dX4_feed_38 : decode cX4_feed 38 = .ok (.dup, 1) := by decide +kernel
theorem dX4_feed_39 : decode cX4_feed 39 = .ok (.getfield 84, 3) := by decide +kernel
theorem dX4_feed_42 : decode cX4_feed 42 = .ok (.iconst 1, 1) := by decide +kernel
theorem dX4_feed_43 : decode cX4_feed 43 = .ok (.iadd, 1) := by decide +kernel
theorem dX4_feed_44 : decode cX4_feed 44 = .ok (.putfield 84, 3) := by decide +kernel
theorem dX4_feed_47 : decode cX4_feed 47 = .ok (.aload_n 0, 1) := by decide +kernel
theorem dX4_feed_48 : decode cX4_feed 48 = .ok (.getfield 84, 3) := by decide +kernel
theorem dX4_feed_51 : decode cX4_feed 51 = .ok (.ireturn, 1) := by decide +kernel
theorem dX4_nextToken_0 : decode cX4_nextToken 0 = .ok (.aload_n 0, 1) := by decide +kernel
theorem dX4_nextToken_1 : decode cX4_nextToken 1 = .ok (.aload_n 0, 1) := by decide +kernel
theorem dX4_nextToken_2 : decode cX4_nextToken 2 = .ok (.getfield 88, 3) := by decide +kernel
theorem dX4_nextToken_5 : decode cX4_nextToken 5 = .ok (.putfield 91, 3) := by decide +kernel
theorem dX4_nextToken_8 : decode cX4_nextToken 8 = .ok (.aload_n 0, 1) := by decide +kernel
theorem dX4_nextToken_9 : decode cX4_nextToken 9 = .ok (.aload_n 0, 1) := by decide +kernel
theorem dX4_nextToken_10 : decode cX4_nextToken 10 = .ok (.getfield 88, 3) := by decide +kernel
theorem dX4_nextToken_13 : decode cX4_nextToken 13 = .ok (.aload_n 0, 1) := by decide +kernel
theorem dX4_nextToken_14 : decode cX4_nextToken 14 = .ok (.getfield 84, 3) := by decide +kernel
theorem dX4_nextToken_17 : decode cX4_nextToken 17 = .ok (.if_icmp .ne 7, 3) := by decide +kernel
theorem dX4_nextToken_20 : decode cX4_nextToken 20 = .ok (.iconst 3, 1) := by decide +kernel
theorem dX4_nextToken_21 : decode cX4_nextToken 21 = .ok (.goto 4, 3) := by decide +kernel
theorem dX4_nextToken_24 : decode cX4_nextToken 24 = .ok (.iconst 0, 1) := by decide +kernel
theorem dX4_nextToken_25 : decode cX4_nextToken 25 = .ok (.putfield 94, 3) := by decide +kernel
theorem dX4_nextToken_28 : decode cX4_nextToken 28 = .ok (.aload_n 0, 1) := by decide +kernel
theorem dX4_nextToken_29 : decode cX4_nextToken 29 = .ok (.iconst 0, 1) := by decide +kernel
theorem dX4_nextToken_30 : decode cX4_nextToken 30 = .ok (.putfield 97, 3) := by decide +kernel
theorem dX4_nextToken_33 : decode cX4_nextToken 33 = .ok (.aload_n 0, 1) := by decide +kernel
theorem dX4_nextToken_34 : decode cX4_nextToken 34 = .ok (.getfield 88, 3) := by decide +kernel
theorem dX4_nextToken_37 : decode cX4_nextToken 37 = .ok (.aload_n 0, 1) := by decide +kernel
theorem dX4_nextToken_38 : decode cX4_nextToken 38 = .ok (.getfield 84, 3) := by decide +kernel
theorem dX4_nextToken_41 : decode cX4_nextToken 41 = .ok (.if_icmp .ge 79, 3) := by decide +kernel
theorem dX4_nextToken_44 : decode cX4_nextToken 44 = .ok (.aload_n 0, 1) := by decide +kernel
theorem dX4_nextToken_45 : decode cX4_nextToken 45 = .ok (.getfield 25, 3) := by decide +kernel
theorem dX4_nextToken_48 : decode cX4_nextToken 48 = .ok (.aload_n 0, 1) := by decide +kernel
theorem dX4_nextToken_49 : decode cX4_nextToken 49 = .ok (.getfield 88, 3) := by decide +kernel
theorem dX4_nextToken_52 : decode cX4_nextToken 52 = .ok (.iaload, 1) := by decide +kernel
theorem dX4_nextToken_53 : decode cX4_nextToken 53 = .ok (.i2l, 1) := by decide +kernel
theorem dX4_nextToken_54 : decode cX4_nextToken 54 = .ok (.ldc2_w 100, 3) := by decide +kernel
theorem dX4_nextToken_57 : decode cX4_nextToken 57 = .ok (.ldc2_w 102, 3) := by decide +kernel
theorem dX4_nextToken_60 : decode cX4_nextToken 60 = .ok (.invokestatic 60, 3) := by decide +kernel
theorem dX4_nextToken_63 : decode cX4_nextToken 63 = .ok (.ifCond .eq 57, 3) := by decide +kernel
theorem dX4_nextToken_66 : decode cX4_nextToken 66 = .ok (.aload_n 0, 1) := by decide +kernel
theorem dX4_nextToken_67 : decode cX4_nextToken 67 = .ok (.aload_n 0, 1) := by decide +kernel
theorem dX4_nextToken_68 : decode cX4_nextToken 68 = .ok (.getfield 97, 3) := by decide +kernel
theorem dX4_nextToken_71 : decode cX4_nextToken 71 = .ok (.sipush 999, 3) := by decide +kernel
theorem dX4_nextToken_74 : decode cX4_nextToken 74 = .ok (.if_icmp .le 10, 3) := by decide +kernel
theorem dX4_nextToken_77 : decode cX4_nextToken 77 = .ok (.aload_n 0, 1) := by decide +kernel
theorem dX4_nextToken_78 : decode cX4_nextToken 78 = .ok (.getfield 97, 3) := by decide +kernel
theorem dX4_nextToken_81 : decode cX4_nextToken 81 = .ok (.goto 23, 3) := by decide +kernel
theorem dX4_nextToken_84 : decode cX4_nextToken 84 = .ok (.bipush 10, 2) := by decide +kernel
theorem dX4_nextToken_86 : decode cX4_nextToken 86 = .ok (.aload_n 0, 1) := by decide +kernel
theorem dX4_nextToken_87 : decode cX4_nextToken 87 = .ok (.getfield 97, 3) := by decide +kernel
theorem dX4_nextToken_90 : decode cX4_nextToken 90 = .ok (.imul, 1) := by decide +kernel
theorem dX4_nextToken_91 : decode cX4_nextToken 91 = .ok (.aload_n 0, 1) := by decide +kernel
theorem dX4_nextToken_92 : decode cX4_nextToken 92 = .ok (.getfield 25, 3) := by decide +kernel
theorem dX4_nextToken_95 : decode cX4_nextToken 95 = .ok (.aload_n 0, 1) := by decide +kernel
theorem dX4_nextToken_96 : decode cX4_nextToken 96 = .ok (.getfield 88, 3) := by decide +kernel
theorem dX4_nextToken_99 : decode cX4_nextToken 99 = .ok (.iaload, 1) := by decide +kernel
theorem dX4_nextToken_100 : decode cX4_nextToken 100 = .ok (.iadd, 1) := by decide +kernel
theorem dX4_nextToken_101 : decode cX4_nextToken 101 = .ok (.bipush 48, 2) := by decide +kernel
theorem dX4_nextToken_103 : decode cX4_nextToken 103 = .ok (.isub, 1) := by decide +kernel
theorem dX4_nextToken_104 : decode cX4_nextToken 104 = .ok (.putfield 97, 3) := by decide +kernel
theorem dX4_nextToken_107 : decode cX4_nextToken 107 = .ok (.aload_n 0, 1) := by decide +kernel
theorem dX4_nextToken_108 : decode cX4_nextToken 108 = .ok (.dup, 1) := by decide +kernel
theorem dX4_nextToken_109 : decode cX4_nextToken 109 = .ok (.getfield 88, 3) := by decide +kernel
theorem dX4_nextToken_112 : decode cX4_nextToken 112 = .ok (.iconst 1, 1) := by decide +kernel
theorem dX4_nextToken_113 : decode cX4_nextToken 113 = .ok (.iadd, 1) := by decide +kernel
theorem dX4_nextToken_114 : decode cX4_nextToken 114 = .ok (.putfield 88, 3) := by decide +kernel
theorem dX4_nextToken_117 : decode cX4_nextToken 117 = .ok (.goto (-84), 3) := by decide +kernel
theorem dX4_nextToken_120 : decode cX4_nextToken 120 = .ok (.aload_n 0, 1) := by decide +kernel
theorem dX4_nextToken_121 : decode cX4_nextToken 121 = .ok (.getfield 88, 3) := by decide +kernel
theorem dX4_nextToken_124 : decode cX4_nextToken 124 = .ok (.aload_n 0, 1) := by decide +kernel
theorem dX4_nextToken_125 : decode cX4_nextToken 125 = .ok (.getfield 91, 3) := by decide +kernel
theorem dX4_nextToken_128 : decode cX4_nextToken 128 = .ok (.if_icmp .le 28, 3) := by decide +kernel
theorem dX4_nextToken_131 : decode cX4_nextToken 131 = .ok (.aload_n 0, 1) := by decide +kernel
theorem dX4_nextToken_132 : decode cX4_nextToken 132 = .ok (.aload_n 0, 1) := by decide +kernel
theorem dX4_nextToken_133 : decode cX4_nextToken 133 = .ok (.getfield 88, 3) := by decide +kernel
theorem dX4_nextToken_136 : decode cX4_nextToken 136 = .ok (.aload_n 0, 1) := by decide +kernel
theorem dX4_nextToken_137 : decode cX4_nextToken 137 = .ok (.getfield 91, 3) := by decide +kernel
theorem dX4_nextToken_140 : decode cX4_nextToken 140 = .ok (.isub, 1) := by decide +kernel
theorem dX4_nextToken_141 : decode cX4_nextToken 141 = .ok (.iconst 3, 1) := by decide +kernel
theorem dX4_nextToken_142 : decode cX4_nextToken 142 = .ok (.if_icmp .le 7, 3) := by decide +kernel
theorem dX4_nextToken_145 : decode cX4_nextToken 145 = .ok (.iconst 0, 1) := by decide +kernel
theorem dX4_nextToken_146 : decode cX4_nextToken 146 = .ok (.goto 4, 3) := by decide +kernel
theorem dX4_nextToken_149 : decode cX4_nextToken 149 = .ok (.iconst 2, 1) := by decide +kernel
theorem dX4_nextToken_150 : decode cX4_nextToken 150 = .ok (.putfield 94, 3) := by decide +kernel
theorem dX4_nextToken_153 : decode cX4_nextToken 153 = .ok (.goto 77, 3) := by decide +kernel
theorem dX4_nextToken_156 : decode cX4_nextToken 156 = .ok (.aload_n 0, 1) := by decide +kernel
theorem dX4_nextToken_157 : decode cX4_nextToken 157 = .ok (.getfield 94, 3) := by decide +kernel
theorem dX4_nextToken_160 : decode cX4_nextToken 160 = .ok (.ifCond .ne 70, 3) := by decide +kernel
theorem dX4_nextToken_163 : decode cX4_nextToken 163 = .ok (.aload_n 0, 1) := by decide +kernel
theorem dX4_nextToken_164 : decode cX4_nextToken 164 = .ok (.aload_n 0, 1) := by decide +kernel
theorem dX4_nextToken_165 : decode cX4_nextToken 165 = .ok (.getfield 25, 3) := by decide +kernel
theorem dX4_nextToken_168 : decode cX4_nextToken 168 = .ok (.aload_n 0, 1) := by decide +kernel
theorem dX4_nextToken_169 : decode cX4_nextToken 169 = .ok (.getfield 88, 3) := by decide +kernel
theorem dX4_nextToken_172 : decode cX4_nextToken 172 = .ok (.iaload, 1) := by decide +kernel
theorem dX4_nextToken_173 : decode cX4_nextToken 173 = .ok (.putfield 97, 3) := by decide +kernel
theorem dX4_nextToken_176 : decode cX4_nextToken 176 = .ok (.aload_n 0, 1) := by decide +kernel
theorem dX4_nextToken_177 : decode cX4_nextToken 177 = .ok (.aload_n 0, 1) := by decide +kernel
theorem dX4_nextToken_178 : decode cX4_nextToken 178 = .ok (.getfield 97, 3) := by decide +kernel
theorem dX4_nextToken_181 : decode cX4_nextToken 181 = .ok (.i2l, 1) := by decide +kernel
theorem dX4_nextToken_182 : decode cX4_nextToken 182 = .ok (.ldc2_w 104, 3) := by decide +kernel
theorem dX4_nextToken_185 : decode cX4_nextToken 185 = .ok (.ldc2_w 106, 3) := by decide +kernel
theorem dX4_nextToken_188 : decode cX4_nextToken 188 = .ok (.invokestatic 60, 3) := by decide +kernel
theorem dX4_nextToken_191 : decode cX4_nextToken 191 = .ok (.ifCond .ne 21, 3) := by decide +kernel
theorem dX4_nextToken_194 : decode cX4_nextToken 194 = .ok (.aload_n 0, 1) := by decide +kernel
theorem dX4_nextToken_195 : decode cX4_nextToken 195 = .ok (.getfield 97, 3) := by decide +kernel
theorem dX4_nextToken_198 : decode cX4_nextToken 198 = .ok (.bipush 44, 2) := by decide +kernel
theorem dX4_nextToken_200 : decode cX4_nextToken 200 = .ok (.if_icmp .eq 12, 3) := by decide +kernel
theorem dX4_nextToken_203 : decode cX4_nextToken 203 = .ok (.aload_n 0, 1) := by decide +kernel
theorem dX4_nextToken_204 : decode cX4_nextToken 204 = .ok (.getfield 97, 3) := by decide +kernel
theorem dX4_nextToken_207 : decode cX4_nextToken 207 = .ok (.bipush 59, 2) := by decide +kernel
theorem dX4_nextToken_209 : decode cX4_nextToken 209 = .ok (.if_icmp .ne 7, 3) := by decide +kernel
theorem dX4_nextToken_212 : decode cX4_nextToken 212 = .ok (.iconst 1, 1) := by decide +kernel
theorem dX4_nextToken_213 : decode cX4_nextToken 213 = .ok (.goto 4, 3) := by decide +kernel
theorem dX4_nextToken_216 : decode cX4_nextToken 216 = .ok (.iconst 0, 1) := by decide +kernel
theorem dX4_nextToken_217 : decode cX4_nextToken 217 = .ok (.putfield 94, 3) := by decide +kernel
theorem dX4_nextToken_220 : decode cX4_nextToken 220 = .ok (.aload_n 0, 1) := by decide +kernel
theorem dX4_nextToken_221 : decode cX4_nextToken 221 = .ok (.dup, 1) := by decide +kernel
theorem dX4_nextToken_222 : decode cX4_nextToken 222 = .ok (.getfield 88, 3) := by decide +kernel
theorem dX4_nextToken_225 : decode cX4_nextToken 225 = .ok (.iconst 1, 1) := by decide +kernel
theorem dX4_nextToken_226 : decode cX4_nextToken 226 = .ok (.iadd, 1) := by decide +kernel
theorem dX4_nextToken_227 : decode cX4_nextToken 227 = .ok (.putfield 88, 3) := by decide +kernel
theorem dX4_nextToken_230 : decode cX4_nextToken 230 = .ok (.return_, 1) := by decide +kernel
theorem dX4_faults_0 : decode cX4_faults 0 = .ok (.aload_n 0, 1) := by decide +kernel
theorem dX4_faults_1 : decode cX4_faults 1 = .ok (.iload_n 1, 1) := by decide +kernel
theorem dX4_faults_2 : decode cX4_faults 2 = .ok (.putfield 108, 3) := by decide +kernel
theorem dX4_faults_5 : decode cX4_faults 5 = .ok (.iconst 0, 1) := by decide +kernel
theorem dX4_faults_6 : decode cX4_faults 6 = .ok (.ireturn, 1) := by decide +kernel
theorem dX4_isLetter_0 : decode cX4_isLetter 0 = .ok (.aload_n 0, 1) := by decide +kernel
theorem dX4_isLetter_1 : decode cX4_isLetter 1 = .ok (.getfield 94, 3) := by decide +kernel
theorem dX4_isLetter_4 : decode cX4_isLetter 4 = .ok (.iconst 1, 1) := by decide +kernel
theorem dX4_isLetter_5 : decode cX4_isLetter 5 = .ok (.if_icmp .ne 15, 3) := by decide +kernel
theorem dX4_isLetter_8 : decode cX4_isLetter 8 = .ok (.aload_n 0, 1) := by decide +kernel
theorem dX4_isLetter_9 : decode cX4_isLetter 9 = .ok (.getfield 97, 3) := by decide +kernel
theorem dX4_isLetter_12 : decode cX4_isLetter 12 = .ok (.iload_n 1, 1) := by decide +kernel
theorem dX4_isLetter_13 : decode cX4_isLetter 13 = .ok (.if_icmp .ne 7, 3) := by decide +kernel
theorem dX4_isLetter_16 : decode cX4_isLetter 16 = .ok (.iconst 1, 1) := by decide +kernel
theorem dX4_isLetter_17 : decode cX4_isLetter 17 = .ok (.goto 4, 3) := by decide +kernel
theorem dX4_isLetter_20 : decode cX4_isLetter 20 = .ok (.iconst 0, 1) := by decide +kernel
theorem dX4_isLetter_21 : decode cX4_isLetter 21 = .ok (.ireturn, 1) := by decide +kernel
theorem dX4_takes_0 : decode cX4_takes 0 = .ok (.aload_n 0, 1) := by decide +kernel
theorem dX4_takes_1 : decode cX4_takes 1 = .ok (.iload_n 1, 1) := by decide +kernel
theorem dX4_takes_2 : decode cX4_takes 2 = .ok (.invokevirtual 111, 3) := by decide +kernel
theorem dX4_takes_5 : decode cX4_takes 5 = .ok (.ifCond .ne 9, 3) := by decide +kernel
theorem dX4_takes_8 : decode cX4_takes 8 = .ok (.aload_n 0, 1) := by decide +kernel
theorem dX4_takes_9 : decode cX4_takes 9 = .ok (.iconst 1, 1) := by decide +kernel
theorem dX4_takes_10 : decode cX4_takes 10 = .ok (.invokevirtual 114, 3) := by decide +kernel
theorem dX4_takes_13 : decode cX4_takes 13 = .ok (.ireturn, 1) := by decide +kernel
theorem dX4_takes_14 : decode cX4_takes 14 = .ok (.aload_n 0, 1) := by decide +kernel
theorem dX4_takes_15 : decode cX4_takes 15 = .ok (.invokevirtual 117, 3) := by decide +kernel
theorem dX4_takes_18 : decode cX4_takes 18 = .ok (.iconst 1, 1) := by decide +kernel
theorem dX4_takes_19 : decode cX4_takes 19 = .ok (.ireturn, 1) := by decide +kernel
theorem dX4_takesNumber_0 : decode cX4_takesNumber 0 = .ok (.aload_n 0, 1) := by decide +kernel
theorem dX4_takesNumber_1 : decode cX4_takesNumber 1 = .ok (.getfield 94, 3) := by decide +kernel
theorem dX4_takesNumber_4 : decode cX4_takesNumber 4 = .ok (.iconst 2, 1) := by decide +kernel
theorem dX4_takesNumber_5 : decode cX4_takesNumber 5 = .ok (.if_icmp .ne 18, 3) := by decide +kernel
theorem dX4_takesNumber_8 : decode cX4_takesNumber 8 = .ok (.aload_n 0, 1) := by decide +kernel
theorem dX4_takesNumber_9 : decode cX4_takesNumber 9 = .ok (.getfield 97, 3) := by decide +kernel
theorem dX4_takesNumber_12 : decode cX4_takesNumber 12 = .ok (.i2l, 1) := by decide +kernel
theorem dX4_takesNumber_13 : decode cX4_takesNumber 13 = .ok (.iload_n 1, 1) := by decide +kernel
theorem dX4_takesNumber_14 : decode cX4_takesNumber 14 = .ok (.i2l, 1) := by decide +kernel
theorem dX4_takesNumber_15 : decode cX4_takesNumber 15 = .ok (.iload_n 2, 1) := by decide +kernel
theorem dX4_takesNumber_16 : decode cX4_takesNumber 16 = .ok (.i2l, 1) := by decide +kernel
theorem dX4_takesNumber_17 : decode cX4_takesNumber 17 = .ok (.invokestatic 60, 3) := by decide +kernel
theorem dX4_takesNumber_20 : decode cX4_takesNumber 20 = .ok (.ifCond .ne 21, 3) := by decide +kernel
theorem dX4_takesNumber_23 : decode cX4_takesNumber 23 = .ok (.aload_n 0, 1) := by decide +kernel
theorem dX4_takesNumber_24 : decode cX4_takesNumber 24 = .ok (.aload_n 0, 1) := by decide +kernel
theorem dX4_takesNumber_25 : decode cX4_takesNumber 25 = .ok (.getfield 94, 3) := by decide +kernel
theorem dX4_takesNumber_28 : decode cX4_takesNumber 28 = .ok (.iconst 2, 1) := by decide +kernel
theorem dX4_takesNumber_29 : decode cX4_takesNumber 29 = .ok (.if_icmp .ne 7, 3) := by decide +kernel
theorem dX4_takesNumber_32 : decode cX4_takesNumber 32 = .ok (.iconst 2, 1) := by decide +kernel
theorem dX4_takesNumber_33 : decode cX4_takesNumber 33 = .ok (.goto 4, 3) := by decide +kernel
theorem dX4_takesNumber_36 : decode cX4_takesNumber 36 = .ok (.iconst 1, 1) := by decide +kernel
theorem dX4_takesNumber_37 : decode cX4_takesNumber 37 = .ok (.invokevirtual 114, 3) := by decide +kernel
theorem dX4_takesNumber_40 : decode cX4_takesNumber 40 = .ok (.ireturn, 1) := by decide +kernel
theorem dX4_takesNumber_41 : decode cX4_takesNumber 41 = .ok (.aload_n 0, 1) := by decide +kernel
theorem dX4_takesNumber_42 : decode cX4_takesNumber 42 = .ok (.getfield 28, 3) := by decide +kernel
theorem dX4_takesNumber_45 : decode cX4_takesNumber 45 = .ok (.iload_n 3, 1) := by decide +kernel
theorem dX4_takesNumber_46 : decode cX4_takesNumber 46 = .ok (.aload_n 0, 1) := by decide +kernel
theorem dX4_takesNumber_47 : decode cX4_takesNumber 47 = .ok (.getfield 97, 3) := by decide +kernel
theorem dX4_takesNumber_50 : decode cX4_takesNumber 50 = .ok (.iastore, 1) := by decide +kernel
theorem dX4_takesNumber_51 : decode cX4_takesNumber 51 = .ok (.aload_n 0, 1) := by decide +kernel
theorem dX4_takesNumber_52 : decode cX4_takesNumber 52 = .ok (.invokevirtual 117, 3) := by decide +kernel
theorem dX4_takesNumber_55 : decode cX4_takesNumber 55 = .ok (.aload_n 0, 1) := by decide +kernel
theorem dX4_takesNumber_56 : decode cX4_takesNumber 56 = .ok (.iload 4, 2) := by decide +kernel
theorem dX4_takesNumber_58 : decode cX4_takesNumber 58 = .ok (.invokevirtual 120, 3) := by decide +kernel
theorem dX4_takesNumber_61 : decode cX4_takesNumber 61 = .ok (.ireturn, 1) := by decide +kernel
theorem dX4_readSinger_0 : decode cX4_readSinger 0 = .ok (.aload_n 0, 1) := by decide +kernel
theorem dX4_readSinger_1 : decode cX4_readSinger 1 = .ok (.getfield 28, 3) := by decide +kernel
theorem dX4_readSinger_4 : decode cX4_readSinger 4 = .ok (.iconst 1, 1) := by decide +kernel
theorem dX4_readSinger_5 : decode cX4_readSinger 5 = .ok (.iaload, 1) := by decide +kernel
theorem dX4_readSinger_6 : decode cX4_readSinger 6 = .ok (.istore_n 1, 1) := by decide +kernel
theorem dX4_readSinger_7 : decode cX4_readSinger 7 = .ok (.iload_n 1, 1) := by decide +kernel
theorem dX4_readSinger_8 : decode cX4_readSinger 8 = .ok (.iconst 3, 1) := by decide +kernel
theorem dX4_readSinger_9 : decode cX4_readSinger 9 = .ok (.if_icmp .eq 12, 3) := by decide +kernel
theorem dX4_readSinger_12 : decode cX4_readSinger 12 = .ok (.aload_n 0, 1) := by decide +kernel
theorem dX4_readSinger_13 : decode cX4_readSinger 13 = .ok (.getfield 28, 3) := by decide +kernel
theorem dX4_readSinger_16 : decode cX4_readSinger 16 = .ok (.iconst 2, 1) := by decide +kernel
theorem dX4_readSinger_17 : decode cX4_readSinger 17 = .ok (.iaload, 1) := by decide +kernel
theorem dX4_readSinger_18 : decode cX4_readSinger 18 = .ok (.ifCond .le 22, 3) := by decide +kernel
theorem dX4_readSinger_21 : decode cX4_readSinger 21 = .ok (.aload_n 0, 1) := by decide +kernel
theorem dX4_readSinger_22 : decode cX4_readSinger 22 = .ok (.aload_n 0, 1) := by decide +kernel
theorem dX4_readSinger_23 : decode cX4_readSinger 23 = .ok (.getfield 28, 3) := by decide +kernel
theorem dX4_readSinger_26 : decode cX4_readSinger 26 = .ok (.iconst 2, 1) := by decide +kernel
theorem dX4_readSinger_27 : decode cX4_readSinger 27 = .ok (.iaload, 1) := by decide +kernel
theorem dX4_readSinger_28 : decode cX4_readSinger 28 = .ok (.ifCond .le 7, 3) := by decide +kernel
theorem dX4_readSinger_31 : decode cX4_readSinger 31 = .ok (.iconst 1, 1) := by decide +kernel
theorem dX4_readSinger_32 : decode cX4_readSinger 32 = .ok (.goto 4, 3) := by decide +kernel
theorem dX4_readSinger_35 : decode cX4_readSinger 35 = .ok (.iconst 3, 1) := by decide +kernel
theorem dX4_readSinger_36 : decode cX4_readSinger 36 = .ok (.invokevirtual 114, 3) := by decide +kernel
theorem dX4_readSinger_39 : decode cX4_readSinger 39 = .ok (.ireturn, 1) := by decide +kernel
theorem dX4_readSinger_40 : decode cX4_readSinger 40 = .ok (.aload_n 0, 1) := by decide +kernel
theorem dX4_readSinger_41 : decode cX4_readSinger 41 = .ok (.invokevirtual 117, 3) := by decide +kernel
theorem dX4_readSinger_44 : decode cX4_readSinger 44 = .ok (.aload_n 0, 1) := by decide +kernel
theorem dX4_readSinger_45 : decode cX4_readSinger 45 = .ok (.getfield 28, 3) := by decide +kernel
theorem dX4_readSinger_48 : decode cX4_readSinger 48 = .ok (.iconst 1, 1) := by decide +kernel
theorem dX4_readSinger_49 : decode cX4_readSinger 49 = .ok (.dup2, 1) := by decide +kernel
theorem dX4_readSinger_50 : decode cX4_readSinger 50 = .ok (.iaload, 1) := by decide +kernel
theorem dX4_readSinger_51 : decode cX4_readSinger 51 = .ok (.iconst 1, 1) := by decide +kernel
theorem dX4_readSinger_52 : decode cX4_readSinger 52 = .ok (.iadd, 1) := by decide +kernel
theorem dX4_readSinger_53 : decode cX4_readSinger 53 = .ok (.iastore, 1) := by decide +kernel
theorem dX4_readSinger_54 : decode cX4_readSinger 54 = .ok (.aload_n 0, 1) := by decide +kernel
theorem dX4_readSinger_55 : decode cX4_readSinger 55 = .ok (.iconst 0, 1) := by decide +kernel
theorem dX4_readSinger_56 : decode cX4_readSinger 56 = .ok (.bipush 6, 2) := by decide +kernel
theorem dX4_readSinger_58 : decode cX4_readSinger 58 = .ok (.iconst 4, 1) := by decide +kernel
theorem dX4_readSinger_59 : decode cX4_readSinger 59 = .ok (.iload_n 1, 1) := by decide +kernel
theorem dX4_readSinger_60 : decode cX4_readSinger 60 = .ok (.iadd, 1) := by decide +kernel
theorem dX4_readSinger_61 : decode cX4_readSinger 61 = .ok (.bipush 44, 2) := by decide +kernel
theorem dX4_readSinger_63 : decode cX4_readSinger 63 = .ok (.invokevirtual 123, 3) := by decide +kernel
theorem dX4_readSinger_66 : decode cX4_readSinger 66 = .ok (.ifCond .eq 46, 3) := by decide +kernel
theorem dX4_readSinger_69 : decode cX4_readSinger 69 = .ok (.aload_n 0, 1) := by decide +kernel
theorem dX4_readSinger_70 : decode cX4_readSinger 70 = .ok (.aload_n 0, 1) := by decide +kernel
theorem dX4_readSinger_71 : decode cX4_readSinger 71 = .ok (.getfield 28, 3) := by decide +kernel
theorem dX4_readSinger_74 : decode cX4_readSinger 74 = .ok (.iconst 4, 1) := by decide +kernel
theorem dX4_readSinger_75 : decode cX4_readSinger 75 = .ok (.iload_n 1, 1) := by decide +kernel
theorem dX4_readSinger_76 : decode cX4_readSinger 76 = .ok (.iadd, 1) := by decide +kernel
theorem dX4_readSinger_77 : decode cX4_readSinger 77 = .ok (.iaload, 1) := by decide +kernel
theorem dX4_readSinger_78 : decode cX4_readSinger 78 = .ok (.bipush 6, 2) := by decide +kernel
theorem dX4_readSinger_80 : decode cX4_readSinger 80 = .ok (.bipush 7, 2) := by decide +kernel
theorem dX4_readSinger_82 : decode cX4_readSinger 82 = .ok (.iload_n 1, 1) := by decide +kernel
theorem dX4_readSinger_83 : decode cX4_readSinger 83 = .ok (.iadd, 1) := by decide +kernel
theorem dX4_readSinger_84 : decode cX4_readSinger 84 = .ok (.bipush 44, 2) := by decide +kernel
theorem dX4_readSinger_86 : decode cX4_readSinger 86 = .ok (.invokevirtual 123, 3) := by decide +kernel
theorem dX4_readSinger_89 : decode cX4_readSinger 89 = .ok (.ifCond .eq 23, 3) := by decide +kernel
theorem dX4_readSinger_92 : decode cX4_readSinger 92 = .ok (.aload_n 0, 1) := by decide +kernel
theorem dX4_readSinger_93 : decode cX4_readSinger 93 = .ok (.iconst 1, 1) := by decide +kernel
theorem dX4_readSinger_94 : decode cX4_readSinger 94 = .ok (.bipush 9, 2) := by decide +kernel
theorem dX4_readSinger_96 : decode cX4_readSinger 96 = .ok (.bipush 10, 2) := by decide +kernel
theorem dX4_readSinger_98 : decode cX4_readSinger 98 = .ok (.iload_n 1, 1) := by decide +kernel
theorem dX4_readSinger_99 : decode cX4_readSinger 99 = .ok (.iadd, 1) := by decide +kernel
theorem dX4_readSinger_100 : decode cX4_readSinger 100 = .ok (.bipush 59, 2) := by decide +kernel
theorem dX4_readSinger_102 : decode cX4_readSinger 102 = .ok (.invokevirtual 123, 3) := by decide +kernel
theorem dX4_readSinger_105 : decode cX4_readSinger 105 = .ok (.ifCond .eq 7, 3) := by decide +kernel
theorem dX4_readSinger_108 : decode cX4_readSinger 108 = .ok (.iconst 1, 1) := by decide +kernel
theorem dX4_readSinger_109 : decode cX4_readSinger 109 = .ok (.goto 4, 3) := by decide +kernel
theorem dX4_readSinger_112 : decode cX4_readSinger 112 = .ok (.iconst 0, 1) := by decide +kernel
theorem dX4_readSinger_113 : decode cX4_readSinger 113 = .ok (.ireturn, 1) := by decide +kernel
theorem dX4_readPan_0 : decode cX4_readPan 0 = .ok (.aload_n 0, 1) := by decide +kernel
theorem dX4_readPan_1 : decode cX4_readPan 1 = .ok (.getfield 28, 3) := by decide +kernel
theorem dX4_readPan_4 : decode cX4_readPan 4 = .ok (.iconst 2, 1) := by decide +kernel
theorem dX4_readPan_5 : decode cX4_readPan 5 = .ok (.iaload, 1) := by decide +kernel
theorem dX4_readPan_6 : decode cX4_readPan 6 = .ok (.istore_n 2, 1) := by decide +kernel
theorem dX4_readPan_7 : decode cX4_readPan 7 = .ok (.iload_n 2, 1) := by decide +kernel
theorem dX4_readPan_8 : decode cX4_readPan 8 = .ok (.iconst 5, 1) := by decide +kernel
theorem dX4_readPan_9 : decode cX4_readPan 9 = .ok (.if_icmp .ne 9, 3) := by decide +kernel
theorem dX4_readPan_12 : decode cX4_readPan 12 = .ok (.aload_n 0, 1) := by decide +kernel
theorem dX4_readPan_13 : decode cX4_readPan 13 = .ok (.iconst 3, 1) := by decide +kernel
theorem dX4_readPan_14 : decode cX4_readPan 14 = .ok (.invokevirtual 114, 3) := by decide +kernel
theorem dX4_readPan_17 : decode cX4_readPan 17 = .ok (.ireturn, 1) := by decide +kernel
theorem dX4_readPan_18 : decode cX4_readPan 18 = .ok (.aload_n 0, 1) := by decide +kernel
theorem dX4_readPan_19 : decode cX4_readPan 19 = .ok (.invokevirtual 117, 3) := by decide +kernel
theorem dX4_readPan_22 : decode cX4_readPan 22 = .ok (.aload_n 0, 1) := by decide +kernel
theorem dX4_readPan_23 : decode cX4_readPan 23 = .ok (.getfield 28, 3) := by decide +kernel
theorem dX4_readPan_26 : decode cX4_readPan 26 = .ok (.bipush 16, 2) := by decide +kernel
theorem dX4_readPan_28 : decode cX4_readPan 28 = .ok (.iload_n 2, 1) := by decide +kernel
theorem dX4_readPan_29 : decode cX4_readPan 29 = .ok (.iadd, 1) := by decide +kernel
theorem dX4_readPan_30 : decode cX4_readPan 30 = .ok (.iload_n 1, 1) := by decide +kernel
theorem dX4_readPan_31 : decode cX4_readPan 31 = .ok (.iastore, 1) := by decide +kernel
theorem dX4_readPan_32 : decode cX4_readPan 32 = .ok (.aload_n 0, 1) := by decide +kernel
theorem dX4_readPan_33 : decode cX4_readPan 33 = .ok (.getfield 28, 3) := by decide +kernel
theorem dX4_readPan_36 : decode cX4_readPan 36 = .ok (.bipush 46, 2) := by decide +kernel
theorem dX4_readPan_38 : decode cX4_readPan 38 = .ok (.iload_n 2, 1) := by decide +kernel
theorem dX4_readPan_39 : decode cX4_readPan 39 = .ok (.iadd, 1) := by decide +kernel
theorem dX4_readPan_40 : decode cX4_readPan 40 = .ok (.ldc 127, 2) := by decide +kernel
theorem dX4_readPan_42 : decode cX4_readPan 42 = .ok (.iastore, 1) := by decide +kernel
theorem dX4_readPan_43 : decode cX4_readPan 43 = .ok (.aload_n 0, 1) := by decide +kernel
theorem dX4_readPan_44 : decode cX4_readPan 44 = .ok (.getfield 28, 3) := by decide +kernel
theorem dX4_readPan_47 : decode cX4_readPan 47 = .ok (.iconst 2, 1) := by decide +kernel
theorem dX4_readPan_48 : decode cX4_readPan 48 = .ok (.dup2, 1) := by decide +kernel
theorem dX4_readPan_49 : decode cX4_readPan 49 = .ok (.iaload, 1) := by decide +kernel
theorem dX4_readPan_50 : decode cX4_readPan 50 = .ok (.iconst 1, 1) := by decide +kernel
theorem dX4_readPan_51 : decode cX4_readPan 51 = .ok (.iadd, 1) := by decide +kernel
theorem dX4_readPan_52 : decode cX4_readPan 52 = .ok (.iastore, 1) := by decide +kernel
theorem dX4_readPan_53 : decode cX4_readPan 53 = .ok (.aload_n 0, 1) := by decide +kernel
theorem dX4_readPan_54 : decode cX4_readPan 54 = .ok (.iconst 0, 1) := by decide +kernel
theorem dX4_readPan_55 : decode cX4_readPan 55 = .ok (.bipush 127, 2) := by decide +kernel
theorem dX4_readPan_57 : decode cX4_readPan 57 = .ok (.bipush 21, 2) := by decide +kernel
theorem dX4_readPan_59 : decode cX4_readPan 59 = .ok (.iload_n 2, 1) := by decide +kernel
theorem dX4_readPan_60 : decode cX4_readPan 60 = .ok (.iadd, 1) := by decide +kernel
theorem dX4_readPan_61 : decode cX4_readPan 61 = .ok (.bipush 44, 2) := by decide +kernel
theorem dX4_readPan_63 : decode cX4_readPan 63 = .ok (.invokevirtual 123, 3) := by decide +kernel
theorem dX4_readPan_66 : decode cX4_readPan 66 = .ok (.ifCond .eq 47, 3) := by decide +kernel
theorem dX4_readPan_69 : decode cX4_readPan 69 = .ok (.aload_n 0, 1) := by decide +kernel
theorem dX4_readPan_70 : decode cX4_readPan 70 = .ok (.iconst 1, 1) := by decide +kernel
theorem dX4_readPan_71 : decode cX4_readPan 71 = .ok (.bipush 20, 2) := by decide +kernel
theorem dX4_readPan_73 : decode cX4_readPan 73 = .ok (.bipush 26, 2) := by decide +kernel
theorem dX4_readPan_75 : decode cX4_readPan 75 = .ok (.iload_n 2, 1) := by decide +kernel
theorem dX4_readPan_76 : decode cX4_readPan 76 = .ok (.iadd, 1) := by decide +kernel
theorem dX4_readPan_77 : decode cX4_readPan 77 = .ok (.bipush 44, 2) := by decide +kernel
theorem dX4_readPan_79 : decode cX4_readPan 79 = .ok (.invokevirtual 123, 3) := by decide +kernel
theorem dX4_readPan_82 : decode cX4_readPan 82 = .ok (.ifCond .eq 31, 3) := by decide +kernel
theorem dX4_readPan_85 : decode cX4_readPan 85 = .ok (.aload_n 0, 1) := by decide +kernel
theorem dX4_readPan_86 : decode cX4_readPan 86 = .ok (.iconst 0, 1) := by decide +kernel
theorem dX4_readPan_87 : decode cX4_readPan 87 = .ok (.iconst 1, 1) := by decide +kernel
theorem dX4_readPan_88 : decode cX4_readPan 88 = .ok (.aload_n 0, 1) := by decide +kernel
theorem dX4_readPan_89 : decode cX4_readPan 89 = .ok (.getfield 28, 3) := by decide +kernel
theorem dX4_readPan_92 : decode cX4_readPan 92 = .ok (.iconst 1, 1) := by decide +kernel
theorem dX4_readPan_93 : decode cX4_readPan 93 = .ok (.iaload, 1) := by decide +kernel
theorem dX4_readPan_94 : decode cX4_readPan 94 = .ok (.ishl, 1) := by decide +kernel
theorem dX4_readPan_95 : decode cX4_readPan 95 = .ok (.iconst 1, 1) := by decide +kernel
theorem dX4_readPan_96 : decode cX4_readPan 96 = .ok (.isub, 1) := by decide +kernel
theorem dX4_readPan_97 : decode cX4_readPan 97 = .ok (.bipush 31, 2) := by decide +kernel
theorem dX4_readPan_99 : decode cX4_readPan 99 = .ok (.iload_n 2, 1) := by decide +kernel
theorem dX4_readPan_100 : decode cX4_readPan 100 = .ok (.iadd, 1) := by decide +kernel
theorem dX4_readPan_101 : decode cX4_readPan 101 = .ok (.bipush 59, 2) := by decide +kernel
theorem dX4_readPan_103 : decode cX4_readPan 103 = .ok (.invokevirtual 123, 3) := by decide +kernel
theorem dX4_readPan_106 : decode cX4_readPan 106 = .ok (.ifCond .eq 7, 3) := by decide +kernel
theorem dX4_readPan_109 : decode cX4_readPan 109 = .ok (.iconst 1, 1) := by decide +kernel
theorem dX4_readPan_110 : decode cX4_readPan 110 = .ok (.goto 4, 3) := by decide +kernel
theorem dX4_readPan_113 : decode cX4_readPan 113 = .ok (.iconst 0, 1) := by decide +kernel
theorem dX4_readPan_114 : decode cX4_readPan 114 = .ok (.ireturn, 1) := by decide +kernel
theorem dX4_readKitchen_0 : decode cX4_readKitchen 0 = .ok (.aload_n 0, 1) := by decide +kernel
theorem dX4_readKitchen_1 : decode cX4_readKitchen 1 = .ok (.iconst 0, 1) := by decide +kernel
theorem dX4_readKitchen_2 : decode cX4_readKitchen 2 = .ok (.putfield 88, 3) := by decide +kernel
theorem dX4_readKitchen_5 : decode cX4_readKitchen 5 = .ok (.iconst 0, 1) := by decide +kernel
theorem dX4_readKitchen_6 : decode cX4_readKitchen 6 = .ok (.istore_n 1, 1) := by decide +kernel
theorem dX4_readKitchen_7 : decode cX4_readKitchen 7 = .ok (.iload_n 1, 1) := by decide +kernel
theorem dX4_readKitchen_8 : decode cX4_readKitchen 8 = .ok (.bipush 51, 2) := by decide +kernel
theorem dX4_readKitchen_10 : decode cX4_readKitchen 10 = .ok (.if_icmp .ge 16, 3) := by decide +kernel
theorem dX4_readKitchen_13 : decode cX4_readKitchen 13 = .ok (.aload_n 0, 1) := by decide +kernel
theorem dX4_readKitchen_14 : decode cX4_readKitchen 14 = .ok (.getfield 28, 3) := by decide +kernel
theorem dX4_readKitchen_17 : decode cX4_readKitchen 17 = .ok (.iload_n 1, 1) := by decide +kernel
theorem dX4_readKitchen_18 : decode cX4_readKitchen 18 = .ok (.iconst 0, 1) := by decide +kernel
theorem dX4_readKitchen_19 : decode cX4_readKitchen 19 = .ok (.iastore, 1) := by decide +kernel
theorem dX4_readKitchen_20 : decode cX4_readKitchen 20 = .ok (.iinc 1 1, 3) := by decide +kernel
theorem dX4_readKitchen_23 : decode cX4_readKitchen 23 = .ok (.goto (-16), 3) := by decide +kernel
theorem dX4_readKitchen_26 : decode cX4_readKitchen 26 = .ok (.aload_n 0, 1) := by decide +kernel
theorem dX4_readKitchen_27 : decode cX4_readKitchen 27 = .ok (.invokevirtual 117, 3) := by decide +kernel
theorem dX4_readKitchen_30 : decode cX4_readKitchen 30 = .ok (.aload_n 0, 1) := by decide +kernel
theorem dX4_readKitchen_31 : decode cX4_readKitchen 31 = .ok (.bipush 106, 2) := by decide +kernel
theorem dX4_readKitchen_33 : decode cX4_readKitchen 33 = .ok (.invokevirtual 120, 3) := by decide +kernel
theorem dX4_readKitchen_36 : decode cX4_readKitchen 36 = .ok (.ifCond .eq 16, 3) := by decide +kernel
theorem dX4_readKitchen_39 : decode cX4_readKitchen 39 = .ok (.aload_n 0, 1) := by decide +kernel
theorem dX4_readKitchen_40 : decode cX4_readKitchen 40 = .ok (.iconst 1, 1) := by decide +kernel
theorem dX4_readKitchen_41 : decode cX4_readKitchen 41 = .ok (.bipush 9, 2) := by decide +kernel
theorem dX4_readKitchen_43 : decode cX4_readKitchen 43 = .ok (.iconst 0, 1) := by decide +kernel
theorem dX4_readKitchen_44 : decode cX4_readKitchen 44 = .ok (.bipush 59, 2) := by decide +kernel
theorem dX4_readKitchen_46 : decode cX4_readKitchen 46 = .ok (.invokevirtual 123, 3) := by decide +kernel
theorem dX4_readKitchen_49 : decode cX4_readKitchen 49 = .ok (.ifCond .ne 5, 3) := by decide +kernel
theorem dX4_readKitchen_52 : decode cX4_readKitchen 52 = .ok (.iconst 0, 1) := by decide +kernel
theorem dX4_readKitchen_53 : decode cX4_readKitchen 53 = .ok (.ireturn, 1) := by decide +kernel
theorem dX4_readKitchen_54 : decode cX4_readKitchen 54 = .ok (.iconst 1, 1) := by decide +kernel
theorem dX4_readKitchen_55 : decode cX4_readKitchen 55 = .ok (.istore_n 1, 1) := by decide +kernel
theorem dX4_readKitchen_56 : decode cX4_readKitchen 56 = .ok (.iload_n 1, 1) := by decide +kernel
theorem dX4_readKitchen_57 : decode cX4_readKitchen 57 = .ok (.ifCond .eq 115, 3) := by decide +kernel
theorem dX4_readKitchen_60 : decode cX4_readKitchen 60 = .ok (.aload_n 0, 1) := by decide +kernel
theorem dX4_readKitchen_61 : decode cX4_readKitchen 61 = .ok (.getfield 94, 3) := by decide +kernel
theorem dX4_readKitchen_64 : decode cX4_readKitchen 64 = .ok (.iconst 3, 1) := by decide +kernel
theorem dX4_readKitchen_65 : decode cX4_readKitchen 65 = .ok (.if_icmp .eq 107, 3) := by decide +kernel
theorem dX4_readKitchen_68 : decode cX4_readKitchen 68 = .ok (.aload_n 0, 1) := by decide +kernel
theorem dX4_readKitchen_69 : decode cX4_readKitchen 69 = .ok (.bipush 112, 2) := by decide +kernel
theorem dX4_readKitchen_71 : decode cX4_readKitchen 71 = .ok (.invokevirtual 111, 3) := by decide +kernel
theorem dX4_readKitchen_74 : decode cX4_readKitchen 74 = .ok (.ifCond .eq 7, 3) := by decide +kernel
theorem dX4_readKitchen_77 : decode cX4_readKitchen 77 = .ok (.iconst 1, 1) := by decide +kernel
theorem dX4_readKitchen_78 : decode cX4_readKitchen 78 = .ok (.goto 56, 3) := by decide +kernel
theorem dX4_readKitchen_81 : decode cX4_readKitchen 81 = .ok (.aload_n 0, 1) := by decide +kernel
theorem dX4_readKitchen_82 : decode cX4_readKitchen 82 = .ok (.bipush 99, 2) := by decide +kernel
theorem dX4_readKitchen_84 : decode cX4_readKitchen 84 = .ok (.invokevirtual 111, 3) := by decide +kernel
theorem dX4_readKitchen_87 : decode cX4_readKitchen 87 = .ok (.ifCond .eq 7, 3) := by decide +kernel
theorem dX4_readKitchen_90 : decode cX4_readKitchen 90 = .ok (.iconst 2, 1) := by decide +kernel
theorem dX4_readKitchen_91 : decode cX4_readKitchen 91 = .ok (.goto 43, 3) := by decide +kernel
theorem dX4_readKitchen_94 : decode cX4_readKitchen 94 = .ok (.aload_n 0, 1) := by decide +kernel
theorem dX4_readKitchen_95 : decode cX4_readKitchen 95 = .ok (.bipush 113, 2) := by decide +kernel
theorem dX4_readKitchen_97 : decode cX4_readKitchen 97 = .ok (.invokevirtual 111, 3) := by decide +kernel
theorem dX4_readKitchen_100 : decode cX4_readKitchen 100 = .ok (.ifCond .eq 7, 3) := by decide +kernel
theorem dX4_readKitchen_103 : decode cX4_readKitchen 103 = .ok (.iconst 3, 1) := by decide +kernel
theorem dX4_readKitchen_104 : decode cX4_readKitchen 104 = .ok (.goto 30, 3) := by decide +kernel
theorem dX4_readKitchen_107 : decode cX4_readKitchen 107 = .ok (.aload_n 0, 1) := by decide +kernel
theorem dX4_readKitchen_108 : decode cX4_readKitchen 108 = .ok (.bipush 109, 2) := by decide +kernel
theorem dX4_readKitchen_110 : decode cX4_readKitchen 110 = .ok (.invokevirtual 111, 3) := by decide +kernel
theorem dX4_readKitchen_113 : decode cX4_readKitchen 113 = .ok (.ifCond .eq 7, 3) := by decide +kernel
theorem dX4_readKitchen_116 : decode cX4_readKitchen 116 = .ok (.iconst 4, 1) := by decide +kernel
theorem dX4_readKitchen_117 : decode cX4_readKitchen 117 = .ok (.goto 17, 3) := by decide +kernel
theorem dX4_readKitchen_120 : decode cX4_readKitchen 120 = .ok (.aload_n 0, 1) := by decide +kernel
theorem dX4_readKitchen_121 : decode cX4_readKitchen 121 = .ok (.bipush 100, 2) := by decide +kernel
theorem dX4_readKitchen_123 : decode cX4_readKitchen 123 = .ok (.invokevirtual 111, 3) := by decide +kernel
theorem dX4_readKitchen_126 : decode cX4_readKitchen 126 = .ok (.ifCond .eq 7, 3) := by decide +kernel
theorem dX4_readKitchen_129 : decode cX4_readKitchen 129 = .ok (.iconst 5, 1) := by decide +kernel
theorem dX4_readKitchen_130 : decode cX4_readKitchen 130 = .ok (.goto 4, 3) := by decide +kernel
theorem dX4_readKitchen_133 : decode cX4_readKitchen 133 = .ok (.iconst 0, 1) := by decide +kernel
theorem dX4_readKitchen_134 : decode cX4_readKitchen 134 = .ok (.istore_n 2, 1) := by decide +kernel
theorem dX4_readKitchen_135 : decode cX4_readKitchen 135 = .ok (.iload_n 2, 1) := by decide +kernel
theorem dX4_readKitchen_136 : decode cX4_readKitchen 136 = .ok (.ifCond .le 11, 3) := by decide +kernel
theorem dX4_readKitchen_139 : decode cX4_readKitchen 139 = .ok (.aload_n 0, 1) := by decide +kernel
theorem dX4_readKitchen_140 : decode cX4_readKitchen 140 = .ok (.iload_n 2, 1) := by decide +kernel
theorem dX4_readKitchen_141 : decode cX4_readKitchen 141 = .ok (.invokevirtual 128, 3) := by decide +kernel
theorem dX4_readKitchen_144 : decode cX4_readKitchen 144 = .ok (.goto 24, 3) := by decide +kernel
theorem dX4_readKitchen_147 : decode cX4_readKitchen 147 = .ok (.aload_n 0, 1) := by decide +kernel
theorem dX4_readKitchen_148 : decode cX4_readKitchen 148 = .ok (.bipush 115, 2) := by decide +kernel
theorem dX4_readKitchen_150 : decode cX4_readKitchen 150 = .ok (.invokevirtual 111, 3) := by decide +kernel
theorem dX4_readKitchen_153 : decode cX4_readKitchen 153 = .ok (.ifCond .eq 10, 3) := by decide +kernel
theorem dX4_readKitchen_156 : decode cX4_readKitchen 156 = .ok (.aload_n 0, 1) := by decide +kernel
theorem dX4_readKitchen_157 : decode cX4_readKitchen 157 = .ok (.invokevirtual 131, 3) := by decide +kernel
theorem dX4_readKitchen_160 : decode cX4_readKitchen 160 = .ok (.goto 8, 3) := by decide +kernel
theorem dX4_readKitchen_163 : decode cX4_readKitchen 163 = .ok (.aload_n 0, 1) := by decide +kernel
theorem dX4_readKitchen_164 : decode cX4_readKitchen 164 = .ok (.iconst 1, 1) := by decide +kernel
theorem dX4_readKitchen_165 : decode cX4_readKitchen 165 = .ok (.invokevirtual 114, 3) := by decide +kernel
theorem dX4_readKitchen_168 : decode cX4_readKitchen 168 = .ok (.istore_n 1, 1) := by decide +kernel
theorem dX4_readKitchen_169 : decode cX4_readKitchen 169 = .ok (.goto (-113), 3) := by decide +kernel
theorem dX4_readKitchen_172 : decode cX4_readKitchen 172 = .ok (.iload_n 1, 1) := by decide +kernel
theorem dX4_readKitchen_173 : decode cX4_readKitchen 173 = .ok (.ireturn, 1) := by decide +kernel
theorem dX4_kitchen_0 : decode cX4_kitchen 0 = .ok (.aload_n 0, 1) := by decide +kernel
theorem dX4_kitchen_1 : decode cX4_kitchen 1 = .ok (.invokevirtual 135, 3) := by decide +kernel
theorem dX4_kitchen_4 : decode cX4_kitchen 4 = .ok (.istore_n 1, 1) := by decide +kernel
theorem dX4_kitchen_5 : decode cX4_kitchen 5 = .ok (.aload_n 0, 1) := by decide +kernel
theorem dX4_kitchen_6 : decode cX4_kitchen 6 = .ok (.iconst 0, 1) := by decide +kernel
theorem dX4_kitchen_7 : decode cX4_kitchen 7 = .ok (.putfield 84, 3) := by decide +kernel
theorem dX4_kitchen_10 : decode cX4_kitchen 10 = .ok (.iload_n 1, 1) := by decide +kernel
theorem dX4_kitchen_11 : decode cX4_kitchen 11 = .ok (.ifCond .ne 19, 3) := by decide +kernel
theorem dX4_kitchen_14 : decode cX4_kitchen 14 = .ok (.aload_n 0, 1) := by decide +kernel
theorem dX4_kitchen_15 : decode cX4_kitchen 15 = .ok (.aload_n 0, 1) := by decide +kernel
theorem dX4_kitchen_16 : decode cX4_kitchen 16 = .ok (.getfield 108, 3) := by decide +kernel
theorem dX4_kitchen_19 : decode cX4_kitchen 19 = .ok (.putfield 138, 3) := by decide +kernel
theorem dX4_kitchen_22 : decode cX4_kitchen 22 = .ok (.ldc 141, 2) := by decide +kernel
theorem dX4_kitchen_24 : decode cX4_kitchen 24 = .ok (.aload_n 0, 1) := by decide +kernel
theorem dX4_kitchen_25 : decode cX4_kitchen 25 = .ok (.getfield 91, 3) := by decide +kernel
theorem dX4_kitchen_28 : decode cX4_kitchen 28 = .ok (.isub, 1) := by decide +kernel
theorem dX4_kitchen_29 : decode cX4_kitchen 29 = .ok (.ireturn, 1) := by decide +kernel
theorem dX4_kitchen_30 : decode cX4_kitchen 30 = .ok (.iconst 0, 1) := by decide +kernel
theorem dX4_kitchen_31 : decode cX4_kitchen 31 = .ok (.istore_n 2, 1) := by decide +kernel
theorem dX4_kitchen_32 : decode cX4_kitchen 32 = .ok (.iload_n 2, 1) := by decide +kernel
theorem dX4_kitchen_33 : decode cX4_kitchen 33 = .ok (.bipush 51, 2) := by decide +kernel
theorem dX4_kitchen_35 : decode cX4_kitchen 35 = .ok (.if_icmp .ge 21, 3) := by decide +kernel
theorem dX4_kitchen_38 : decode cX4_kitchen 38 = .ok (.aload_n 0, 1) := by decide +kernel
theorem dX4_kitchen_39 : decode cX4_kitchen 39 = .ok (.getfield 19, 3) := by decide +kernel
theorem dX4_kitchen_42 : decode cX4_kitchen 42 = .ok (.iload_n 2, 1) := by decide +kernel
theorem dX4_kitchen_43 : decode cX4_kitchen 43 = .ok (.aload_n 0, 1) := by decide +kernel
theorem dX4_kitchen_44 : decode cX4_kitchen 44 = .ok (.getfield 28, 3) := by decide +kernel
theorem dX4_kitchen_47 : decode cX4_kitchen 47 = .ok (.iload_n 2, 1) := by decide +kernel
theorem dX4_kitchen_48 : decode cX4_kitchen 48 = .ok (.iaload, 1) := by decide +kernel
theorem dX4_kitchen_49 : decode cX4_kitchen 49 = .ok (.iastore, 1) := by decide +kernel
theorem dX4_kitchen_50 : decode cX4_kitchen 50 = .ok (.iinc 2 1, 3) := by decide +kernel
theorem dX4_kitchen_53 : decode cX4_kitchen 53 = .ok (.goto (-21), 3) := by decide +kernel
theorem dX4_kitchen_56 : decode cX4_kitchen 56 = .ok (.aload_n 0, 1) := by decide +kernel
theorem dX4_kitchen_57 : decode cX4_kitchen 57 = .ok (.iconst 1, 1) := by decide +kernel
theorem dX4_kitchen_58 : decode cX4_kitchen 58 = .ok (.putfield 142, 3) := by decide +kernel
theorem dX4_kitchen_61 : decode cX4_kitchen 61 = .ok (.aload_n 0, 1) := by decide +kernel
theorem dX4_kitchen_62 : decode cX4_kitchen 62 = .ok (.iconst 0, 1) := by decide +kernel
theorem dX4_kitchen_63 : decode cX4_kitchen 63 = .ok (.putfield 146, 3) := by decide +kernel
theorem dX4_kitchen_66 : decode cX4_kitchen 66 = .ok (.aload_n 0, 1) := by decide +kernel
theorem dX4_kitchen_67 : decode cX4_kitchen 67 = .ok (.getfield 19, 3) := by decide +kernel
theorem dX4_kitchen_70 : decode cX4_kitchen 70 = .ok (.iconst 2, 1) := by decide +kernel
theorem dX4_kitchen_71 : decode cX4_kitchen 71 = .ok (.iaload, 1) := by decide +kernel
theorem dX4_kitchen_72 : decode cX4_kitchen 72 = .ok (.ireturn, 1) := by decide +kernel
theorem dX4_fault_0 : decode cX4_fault 0 = .ok (.aload_n 0, 1) := by decide +kernel
theorem dX4_fault_1 : decode cX4_fault 1 = .ok (.getfield 138, 3) := by decide +kernel
theorem dX4_fault_4 : decode cX4_fault 4 = .ok (.ireturn, 1) := by decide +kernel
theorem dX4_isPan_0 : decode cX4_isPan 0 = .ok (.iload_n 1, 1) := by decide +kernel
theorem dX4_isPan_1 : decode cX4_isPan 1 = .ok (.i2l, 1) := by decide +kernel
theorem dX4_isPan_2 : decode cX4_isPan 2 = .ok (.lconst 0, 1) := by decide +kernel
theorem dX4_isPan_3 : decode cX4_isPan 3 = .ok (.aload_n 0, 1) := by decide +kernel
theorem dX4_isPan_4 : decode cX4_isPan 4 = .ok (.getfield 19, 3) := by decide +kernel
theorem dX4_isPan_7 : decode cX4_isPan 7 = .ok (.iconst 2, 1) := by decide +kernel
theorem dX4_isPan_8 : decode cX4_isPan 8 = .ok (.iaload, 1) := by decide +kernel
theorem dX4_isPan_9 : decode cX4_isPan 9 = .ok (.iconst 1, 1) := by decide +kernel
theorem dX4_isPan_10 : decode cX4_isPan 10 = .ok (.isub, 1) := by decide +kernel
theorem dX4_isPan_11 : decode cX4_isPan 11 = .ok (.i2l, 1) := by decide +kernel
theorem dX4_isPan_12 : decode cX4_isPan 12 = .ok (.invokestatic 60, 3) := by decide +kernel
theorem dX4_isPan_15 : decode cX4_isPan 15 = .ok (.ireturn, 1) := by decide +kernel
theorem dX4_isSinger_0 : decode cX4_isSinger 0 = .ok (.iload_n 1, 1) := by decide +kernel
theorem dX4_isSinger_1 : decode cX4_isSinger 1 = .ok (.i2l, 1) := by decide +kernel
theorem dX4_isSinger_2 : decode cX4_isSinger 2 = .ok (.lconst 0, 1) := by decide +kernel
theorem dX4_isSinger_3 : decode cX4_isSinger 3 = .ok (.aload_n 0, 1) := by decide +kernel
theorem dX4_isSinger_4 : decode cX4_isSinger 4 = .ok (.getfield 19, 3) := by decide +kernel
theorem dX4_isSinger_7 : decode cX4_isSinger 7 = .ok (.iconst 1, 1) := by decide +kernel
theorem dX4_isSinger_8 : decode cX4_isSinger 8 = .ok (.iaload, 1) := by decide +kernel
theorem dX4_isSinger_9 : decode cX4_isSinger 9 = .ok (.iconst 1, 1) := by decide +kernel
theorem dX4_isSinger_10 : decode cX4_isSinger 10 = .ok (.isub, 1) := by decide +kernel
theorem dX4_isSinger_11 : decode cX4_isSinger 11 = .ok (.i2l, 1) := by decide +kernel
theorem dX4_isSinger_12 : decode cX4_isSinger 12 = .ok (.invokestatic 60, 3) := by decide +kernel
theorem dX4_isSinger_15 : decode cX4_isSinger 15 = .ok (.ireturn, 1) := by decide +kernel
theorem dX4_canSing_0 : decode cX4_canSing 0 = .ok (.iload_n 2, 1) := by decide +kernel
theorem dX4_canSing_1 : decode cX4_canSing 1 = .ok (.bipush 7, 2) := by decide +kernel
theorem dX4_canSing_3 : decode cX4_canSing 3 = .ok (.if_icmp .eq 51, 3) := by decide +kernel
theorem dX4_canSing_6 : decode cX4_canSing 6 = .ok (.iload_n 2, 1) := by decide +kernel
theorem dX4_canSing_7 : decode cX4_canSing 7 = .ok (.i2l, 1) := by decide +kernel
theorem dX4_canSing_8 : decode cX4_canSing 8 = .ok (.aload_n 0, 1) := by decide +kernel
theorem dX4_canSing_9 : decode cX4_canSing 9 = .ok (.getfield 19, 3) := by decide +kernel
theorem dX4_canSing_12 : decode cX4_canSing 12 = .ok (.iconst 4, 1) := by decide +kernel
theorem dX4_canSing_13 : decode cX4_canSing 13 = .ok (.iload_n 1, 1) := by decide +kernel
theorem dX4_canSing_14 : decode cX4_canSing 14 = .ok (.iadd, 1) := by decide +kernel
theorem dX4_canSing_15 : decode cX4_canSing 15 = .ok (.iaload, 1) := by decide +kernel
theorem dX4_canSing_16 : decode cX4_canSing 16 = .ok (.i2l, 1) := by decide +kernel
theorem dX4_canSing_17 : decode cX4_canSing 17 = .ok (.aload_n 0, 1) := by decide +kernel
theorem dX4_canSing_18 : decode cX4_canSing 18 = .ok (.getfield 19, 3) := by decide +kernel
theorem dX4_canSing_21 : decode cX4_canSing 21 = .ok (.bipush 7, 2) := by decide +kernel
theorem dX4_canSing_23 : decode cX4_canSing 23 = .ok (.iload_n 1, 1) := by decide +kernel
theorem dX4_canSing_24 : decode cX4_canSing 24 = .ok (.iadd, 1) := by decide +kernel
theorem dX4_canSing_25 : decode cX4_canSing 25 = .ok (.iaload, 1) := by decide +kernel
theorem dX4_canSing_26 : decode cX4_canSing 26 = .ok (.i2l, 1) := by decide +kernel
theorem dX4_canSing_27 : decode cX4_canSing 27 = .ok (.invokestatic 60, 3) := by decide +kernel
theorem dX4_canSing_30 : decode cX4_canSing 30 = .ok (.ifCond .eq 28, 3) := by decide +kernel
theorem dX4_canSing_33 : decode cX4_canSing 33 = .ok (.aload_n 0, 1) := by decide +kernel
theorem dX4_canSing_34 : decode cX4_canSing 34 = .ok (.getfield 19, 3) := by decide +kernel
theorem dX4_canSing_37 : decode cX4_canSing 37 = .ok (.bipush 13, 2) := by decide +kernel
theorem dX4_canSing_39 : decode cX4_canSing 39 = .ok (.iload_n 1, 1) := by decide +kernel
theorem dX4_canSing_40 : decode cX4_canSing 40 = .ok (.iadd, 1) := by decide +kernel
theorem dX4_canSing_41 : decode cX4_canSing 41 = .ok (.iaload, 1) := by decide +kernel
theorem dX4_canSing_42 : decode cX4_canSing 42 = .ok (.aload_n 0, 1) := by decide +kernel
theorem dX4_canSing_43 : decode cX4_canSing 43 = .ok (.getfield 19, 3) := by decide +kernel
theorem dX4_canSing_46 : decode cX4_canSing 46 = .ok (.bipush 10, 2) := by decide +kernel
theorem dX4_canSing_48 : decode cX4_canSing 48 = .ok (.iload_n 1, 1) := by decide +kernel
theorem dX4_canSing_49 : decode cX4_canSing 49 = .ok (.iadd, 1) := by decide +kernel
theorem dX4_canSing_50 : decode cX4_canSing 50 = .ok (.iaload, 1) := by decide +kernel
theorem dX4_canSing_51 : decode cX4_canSing 51 = .ok (.if_icmp .ge 7, 3) := by decide +kernel
theorem dX4_canSing_54 : decode cX4_canSing 54 = .ok (.iconst 1, 1) := by decide +kernel
theorem dX4_canSing_55 : decode cX4_canSing 55 = .ok (.goto 4, 3) := by decide +kernel
theorem dX4_canSing_58 : decode cX4_canSing 58 = .ok (.iconst 0, 1) := by decide +kernel
theorem dX4_canSing_59 : decode cX4_canSing 59 = .ok (.ireturn, 1) := by decide +kernel
theorem dX4_panHears_0 : decode cX4_panHears 0 = .ok (.ldc 127, 2) := by decide +kernel
theorem dX4_panHears_2 : decode cX4_panHears 2 = .ok (.istore_n 2, 1) := by decide +kernel
theorem dX4_panHears_3 : decode cX4_panHears 3 = .ok (.iconst 1, 1) := by decide +kernel
theorem dX4_panHears_4 : decode cX4_panHears 4 = .ok (.istore_n 3, 1) := by decide +kernel
theorem dX4_panHears_5 : decode cX4_panHears 5 = .ok (.iconst 0, 1) := by decide +kernel
theorem dX4_panHears_6 : decode cX4_panHears 6 = .ok (.istore 4, 2) := by decide +kernel
theorem dX4_panHears_8 : decode cX4_panHears 8 = .ok (.iload 4, 2) := by decide +kernel
theorem dX4_panHears_10 : decode cX4_panHears 10 = .ok (.aload_n 0, 1) := by decide +kernel
theorem dX4_panHears_11 : decode cX4_panHears 11 = .ok (.getfield 19, 3) := by decide +kernel
theorem dX4_panHears_14 : decode cX4_panHears 14 = .ok (.iconst 1, 1) := by decide +kernel
theorem dX4_panHears_15 : decode cX4_panHears 15 = .ok (.iaload, 1) := by decide +kernel
theorem dX4_panHears_16 : decode cX4_panHears 16 = .ok (.if_icmp .ge 97, 3) := by decide +kernel
theorem dX4_panHears_19 : decode cX4_panHears 19 = .ok (.aload_n 0, 1) := by decide +kernel
theorem dX4_panHears_20 : decode cX4_panHears 20 = .ok (.getfield 19, 3) := by decide +kernel
theorem dX4_panHears_23 : decode cX4_panHears 23 = .ok (.bipush 31, 2) := by decide +kernel
theorem dX4_panHears_25 : decode cX4_panHears 25 = .ok (.iload_n 1, 1) := by decide +kernel
theorem dX4_panHears_26 : decode cX4_panHears 26 = .ok (.iadd, 1) := by decide +kernel
theorem dX4_panHears_27 : decode cX4_panHears 27 = .ok (.iaload, 1) := by decide +kernel
theorem dX4_panHears_28 : decode cX4_panHears 28 = .ok (.iload 4, 2) := by decide +kernel
theorem dX4_panHears_30 : decode cX4_panHears 30 = .ok (.invokestatic 149, 3) := by decide +kernel
theorem dX4_panHears_33 : decode cX4_panHears 33 = .ok (.ifCond .eq 74, 3) := by decide +kernel
theorem dX4_panHears_36 : decode cX4_panHears 36 = .ok (.aload_n 0, 1) := by decide +kernel
theorem dX4_panHears_37 : decode cX4_panHears 37 = .ok (.getfield 31, 3) := by decide +kernel
theorem dX4_panHears_40 : decode cX4_panHears 40 = .ok (.iload 4, 2) := by decide +kernel
theorem dX4_panHears_42 : decode cX4_panHears 42 = .ok (.iaload, 1) := by decide +kernel
theorem dX4_panHears_43 : decode cX4_panHears 43 = .ok (.bipush 7, 2) := by decide +kernel
theorem dX4_panHears_45 : decode cX4_panHears 45 = .ok (.if_icmp .ge 62, 3) := by decide +kernel
theorem dX4_panHears_48 : decode cX4_panHears 48 = .ok (.iload_n 3, 1) := by decide +kernel
theorem dX4_panHears_49 : decode cX4_panHears 49 = .ok (.ifCond .eq 29, 3) := by decide +kernel
theorem dX4_panHears_52 : decode cX4_panHears 52 = .ok (.aload_n 0, 1) := by decide +kernel
theorem dX4_panHears_53 : decode cX4_panHears 53 = .ok (.getfield 19, 3) := by decide +kernel
theorem dX4_panHears_56 : decode cX4_panHears 56 = .ok (.bipush 21, 2) := by decide +kernel
theorem dX4_panHears_58 : decode cX4_panHears 58 = .ok (.iload_n 1, 1) := by decide +kernel
theorem dX4_panHears_59 : decode cX4_panHears 59 = .ok (.iadd, 1) := by decide +kernel
theorem dX4_panHears_60 : decode cX4_panHears 60 = .ok (.iaload, 1) := by decide +kernel
theorem dX4_panHears_61 : decode cX4_panHears 61 = .ok (.aload_n 0, 1) := by decide +kernel
theorem dX4_panHears_62 : decode cX4_panHears 62 = .ok (.getfield 31, 3) := by decide +kernel
theorem dX4_panHears_65 : decode cX4_panHears 65 = .ok (.iload 4, 2) := by decide +kernel
theorem dX4_panHears_67 : decode cX4_panHears 67 = .ok (.iaload, 1) := by decide +kernel
theorem dX4_panHears_68 : decode cX4_panHears 68 = .ok (.invokestatic 149, 3) := by decide +kernel
theorem dX4_panHears_71 : decode cX4_panHears 71 = .ok (.ifCond .eq 7, 3) := by decide +kernel
theorem dX4_panHears_74 : decode cX4_panHears 74 = .ok (.iconst 1, 1) := by decide +kernel
theorem dX4_panHears_75 : decode cX4_panHears 75 = .ok (.goto 4, 3) := by decide +kernel
theorem dX4_panHears_78 : decode cX4_panHears 78 = .ok (.iconst 0, 1) := by decide +kernel
theorem dX4_panHears_79 : decode cX4_panHears 79 = .ok (.istore_n 3, 1) := by decide +kernel
theorem dX4_panHears_80 : decode cX4_panHears 80 = .ok (.iload_n 2, 1) := by decide +kernel
theorem dX4_panHears_81 : decode cX4_panHears 81 = .ok (.ifCond .lt 14, 3) := by decide +kernel
theorem dX4_panHears_84 : decode cX4_panHears 84 = .ok (.aload_n 0, 1) := by decide +kernel
theorem dX4_panHears_85 : decode cX4_panHears 85 = .ok (.getfield 31, 3) := by decide +kernel
theorem dX4_panHears_88 : decode cX4_panHears 88 = .ok (.iload 4, 2) := by decide +kernel
theorem dX4_panHears_90 : decode cX4_panHears 90 = .ok (.iaload, 1) := by decide +kernel
theorem dX4_panHears_91 : decode cX4_panHears 91 = .ok (.iload_n 2, 1) := by decide +kernel
theorem dX4_panHears_92 : decode cX4_panHears 92 = .ok (.if_icmp .ge 13, 3) := by decide +kernel
theorem dX4_panHears_95 : decode cX4_panHears 95 = .ok (.aload_n 0, 1) := by decide +kernel
theorem dX4_panHears_96 : decode cX4_panHears 96 = .ok (.getfield 31, 3) := by decide +kernel
theorem dX4_panHears_99 : decode cX4_panHears 99 = .ok (.iload 4, 2) := by decide +kernel
theorem dX4_panHears_101 : decode cX4_panHears 101 = .ok (.iaload, 1) := by decide +kernel
theorem dX4_panHears_102 : decode cX4_panHears 102 = .ok (.goto 4, 3) := by decide +kernel
theorem dX4_panHears_105 : decode cX4_panHears 105 = .ok (.iload_n 2, 1) := by decide +kernel
theorem dX4_panHears_106 : decode cX4_panHears 106 = .ok (.istore_n 2, 1) := by decide +kernel
theorem dX4_panHears_107 : decode cX4_panHears 107 = .ok (.iinc 4 1, 3) := by decide +kernel
theorem dX4_panHears_110 : decode cX4_panHears 110 = .ok (.goto (-102), 3) := by decide +kernel
theorem dX4_panHears_113 : decode cX4_panHears 113 = .ok (.aload_n 0, 1) := by decide +kernel
theorem dX4_panHears_114 : decode cX4_panHears 114 = .ok (.getfield 19, 3) := by decide +kernel
theorem dX4_panHears_117 : decode cX4_panHears 117 = .ok (.bipush 16, 2) := by decide +kernel
theorem dX4_panHears_119 : decode cX4_panHears 119 = .ok (.iload_n 1, 1) := by decide +kernel
theorem dX4_panHears_120 : decode cX4_panHears 120 = .ok (.iadd, 1) := by decide +kernel
theorem dX4_panHears_121 : decode cX4_panHears 121 = .ok (.iaload, 1) := by decide +kernel
theorem dX4_panHears_122 : decode cX4_panHears 122 = .ok (.istore 4, 2) := by decide +kernel
theorem dX4_panHears_124 : decode cX4_panHears 124 = .ok (.aload_n 0, 1) := by decide +kernel
theorem dX4_panHears_125 : decode cX4_panHears 125 = .ok (.getfield 19, 3) := by decide +kernel
theorem dX4_panHears_128 : decode cX4_panHears 128 = .ok (.bipush 36, 2) := by decide +kernel
theorem dX4_panHears_130 : decode cX4_panHears 130 = .ok (.iload_n 1, 1) := by decide +kernel
theorem dX4_panHears_131 : decode cX4_panHears 131 = .ok (.iadd, 1) := by decide +kernel
theorem dX4_panHears_132 : decode cX4_panHears 132 = .ok (.iaload, 1) := by decide +kernel
theorem dX4_panHears_133 : decode cX4_panHears 133 = .ok (.istore 5, 2) := by decide +kernel
theorem dX4_panHears_135 : decode cX4_panHears 135 = .ok (.aload_n 0, 1) := by decide +kernel
theorem dX4_panHears_136 : decode cX4_panHears 136 = .ok (.getfield 19, 3) := by decide +kernel
theorem dX4_panHears_139 : decode cX4_panHears 139 = .ok (.bipush 46, 2) := by decide +kernel
theorem dX4_panHears_141 : decode cX4_panHears 141 = .ok (.iload_n 1, 1) := by decide +kernel
theorem dX4_panHears_142 : decode cX4_panHears 142 = .ok (.iadd, 1) := by decide +kernel
theorem dX4_panHears_143 : decode cX4_panHears 143 = .ok (.iaload, 1) := by decide +kernel
theorem dX4_panHears_144 : decode cX4_panHears 144 = .ok (.istore 6, 2) := by decide +kernel
theorem dX4_panHears_146 : decode cX4_panHears 146 = .ok (.iload 4, 2) := by decide +kernel
theorem dX4_panHears_148 : decode cX4_panHears 148 = .ok (.iconst 3, 1) := by decide +kernel
theorem dX4_panHears_149 : decode cX4_panHears 149 = .ok (.if_icmp .ne 34, 3) := by decide +kernel
theorem dX4_panHears_152 : decode cX4_panHears 152 = .ok (.iload_n 3, 1) := by decide +kernel
theorem dX4_panHears_153 : decode cX4_panHears 153 = .ok (.ifCond .eq 28, 3) := by decide +kernel
theorem dX4_panHears_156 : decode cX4_panHears 156 = .ok (.iload 6, 2) := by decide +kernel
theorem dX4_panHears_158 : decode cX4_panHears 158 = .ok (.ifCond .lt 23, 3) := by decide +kernel
theorem dX4_panHears_161 : decode cX4_panHears 161 = .ok (.iload_n 2, 1) := by decide +kernel
theorem dX4_panHears_162 : decode cX4_panHears 162 = .ok (.iload 6, 2) := by decide +kernel
theorem dX4_panHears_164 : decode cX4_panHears 164 = .ok (.iconst 2, 1) := by decide +kernel
theorem dX4_panHears_165 : decode cX4_panHears 165 = .ok (.iadd, 1) := by decide +kernel
theorem dX4_panHears_166 : decode cX4_panHears 166 = .ok (.if_icmp .eq 11, 3) := by decide +kernel
theorem dX4_panHears_169 : decode cX4_panHears 169 = .ok (.iload_n 2, 1) := by decide +kernel
theorem dX4_panHears_170 : decode cX4_panHears 170 = .ok (.iload 6, 2) := by decide +kernel
theorem dX4_panHears_172 : decode cX4_panHears 172 = .ok (.iconst 2, 1) := by decide +kernel
theorem dX4_panHears_173 : decode cX4_panHears 173 = .ok (.isub, 1) := by decide +kernel
theorem dX4_panHears_174 : decode cX4_panHears 174 = .ok (.if_icmp .ne 7, 3) := by decide +kernel
theorem dX4_panHears_177 : decode cX4_panHears 177 = .ok (.iconst 1, 1) := by decide +kernel
theorem dX4_panHears_178 : decode cX4_panHears 178 = .ok (.goto 4, 3) := by decide +kernel
theorem dX4_panHears_181 : decode cX4_panHears 181 = .ok (.iconst 0, 1) := by decide +kernel
theorem dX4_panHears_182 : decode cX4_panHears 182 = .ok (.istore_n 3, 1) := by decide +kernel
theorem dX4_panHears_183 : decode cX4_panHears 183 = .ok (.iload 4, 2) := by decide +kernel
theorem dX4_panHears_185 : decode cX4_panHears 185 = .ok (.iconst 5, 1) := by decide +kernel
theorem dX4_panHears_186 : decode cX4_panHears 186 = .ok (.if_icmp .ne 20, 3) := by decide +kernel
theorem dX4_panHears_189 : decode cX4_panHears 189 = .ok (.iload_n 2, 1) := by decide +kernel
theorem dX4_panHears_190 : decode cX4_panHears 190 = .ok (.ifCond .ge 10, 3) := by decide +kernel
theorem dX4_panHears_193 : decode cX4_panHears 193 = .ok (.iload 5, 2) := by decide +kernel
theorem dX4_panHears_195 : decode cX4_panHears 195 = .ok (.iconst 1, 1) := by decide +kernel
theorem dX4_panHears_196 : decode cX4_panHears 196 = .ok (.iadd, 1) := by decide +kernel
theorem dX4_panHears_197 : decode cX4_panHears 197 = .ok (.goto 4, 3) := by decide +kernel
theorem dX4_panHears_200 : decode cX4_panHears 200 = .ok (.iconst 0, 1) := by decide +kernel
theorem dX4_panHears_201 : decode cX4_panHears 201 = .ok (.istore 5, 2) := by decide +kernel
theorem dX4_panHears_203 : decode cX4_panHears 203 = .ok (.goto 56, 3) := by decide +kernel
theorem dX4_panHears_206 : decode cX4_panHears 206 = .ok (.iload 4, 2) := by decide +kernel
theorem dX4_panHears_208 : decode cX4_panHears 208 = .ok (.iconst 4, 1) := by decide +kernel
theorem dX4_panHears_209 : decode cX4_panHears 209 = .ok (.if_icmp .eq 50, 3) := by decide +kernel
theorem dX4_panHears_212 : decode cX4_panHears 212 = .ok (.iload_n 2, 1) := by decide +kernel
theorem dX4_panHears_213 : decode cX4_panHears 213 = .ok (.ifCond .lt 46, 3) := by decide +kernel
theorem dX4_panHears_216 : decode cX4_panHears 216 = .ok (.iload_n 3, 1) := by decide +kernel
theorem dX4_panHears_217 : decode cX4_panHears 217 = .ok (.ifCond .eq 10, 3) := by decide +kernel
theorem dX4_panHears_220 : decode cX4_panHears 220 = .ok (.iload 5, 2) := by decide +kernel
theorem dX4_panHears_222 : decode cX4_panHears 222 = .ok (.iconst 1, 1) := by decide +kernel
theorem dX4_panHears_223 : decode cX4_panHears 223 = .ok (.iadd, 1) := by decide +kernel
theorem dX4_panHears_224 : decode cX4_panHears 224 = .ok (.goto 33, 3) := by decide +kernel
theorem dX4_panHears_227 : decode cX4_panHears 227 = .ok (.iload 4, 2) := by decide +kernel
theorem dX4_panHears_229 : decode cX4_panHears 229 = .ok (.iconst 2, 1) := by decide +kernel
theorem dX4_panHears_230 : decode cX4_panHears 230 = .ok (.if_icmp .eq 14, 3) := by decide +kernel
theorem dX4_panHears_233 : decode cX4_panHears 233 = .ok (.iload 5, 2) := by decide +kernel
theorem dX4_panHears_235 : decode cX4_panHears 235 = .ok (.aload_n 0, 1) := by decide +kernel
theorem dX4_panHears_236 : decode cX4_panHears 236 = .ok (.getfield 19, 3) := by decide +kernel
theorem dX4_panHears_239 : decode cX4_panHears 239 = .ok (.iconst 0, 1) := by decide +kernel
theorem dX4_panHears_240 : decode cX4_panHears 240 = .ok (.iaload, 1) := by decide +kernel
theorem dX4_panHears_241 : decode cX4_panHears 241 = .ok (.if_icmp .ge 7, 3) := by decide +kernel
theorem dX4_panHears_244 : decode cX4_panHears 244 = .ok (.iconst 0, 1) := by decide +kernel
theorem dX4_panHears_245 : decode cX4_panHears 245 = .ok (.goto 12, 3) := by decide +kernel
theorem dX4_panHears_248 : decode cX4_panHears 248 = .ok (.iload 5, 2) := by decide +kernel
theorem dX4_panHears_250 : decode cX4_panHears 250 = .ok (.aload_n 0, 1) := by decide +kernel
theorem dX4_panHears_251 : decode cX4_panHears 251 = .ok (.getfield 19, 3) := by decide +kernel
theorem dX4_panHears_254 : decode cX4_panHears 254 = .ok (.iconst 0, 1) := by decide +kernel
theorem dX4_panHears_255 : decode cX4_panHears 255 = .ok (.iaload, 1) := by decide +kernel
theorem dX4_panHears_256 : decode cX4_panHears 256 = .ok (.isub, 1) := by decide +kernel
theorem dX4_panHears_257 : decode cX4_panHears 257 = .ok (.istore 5, 2) := by decide +kernel
theorem dX4_panHears_259 : decode cX4_panHears 259 = .ok (.aload_n 0, 1) := by decide +kernel
theorem dX4_panHears_260 : decode cX4_panHears 260 = .ok (.getfield 19, 3) := by decide +kernel
theorem dX4_panHears_263 : decode cX4_panHears 263 = .ok (.bipush 36, 2) := by decide +kernel
theorem dX4_panHears_265 : decode cX4_panHears 265 = .ok (.iload_n 1, 1) := by decide +kernel
theorem dX4_panHears_266 : decode cX4_panHears 266 = .ok (.iadd, 1) := by decide +kernel
theorem dX4_panHears_267 : decode cX4_panHears 267 = .ok (.iload 5, 2) := by decide +kernel
theorem dX4_panHears_269 : decode cX4_panHears 269 = .ok (.iastore, 1) := by decide +kernel
theorem dX4_panHears_270 : decode cX4_panHears 270 = .ok (.aload_n 0, 1) := by decide +kernel
theorem dX4_panHears_271 : decode cX4_panHears 271 = .ok (.getfield 19, 3) := by decide +kernel
theorem dX4_panHears_274 : decode cX4_panHears 274 = .ok (.bipush 41, 2) := by decide +kernel
theorem dX4_panHears_276 : decode cX4_panHears 276 = .ok (.iload_n 1, 1) := by decide +kernel
theorem dX4_panHears_277 : decode cX4_panHears 277 = .ok (.iadd, 1) := by decide +kernel
theorem dX4_panHears_278 : decode cX4_panHears 278 = .ok (.iload 5, 2) := by decide +kernel
theorem dX4_panHears_280 : decode cX4_panHears 280 = .ok (.aload_n 0, 1) := by decide +kernel
theorem dX4_panHears_281 : decode cX4_panHears 281 = .ok (.getfield 19, 3) := by decide +kernel
theorem dX4_panHears_284 : decode cX4_panHears 284 = .ok (.bipush 26, 2) := by decide +kernel
theorem dX4_panHears_286 : decode cX4_panHears 286 = .ok (.iload_n 1, 1) := by decide +kernel
theorem dX4_panHears_287 : decode cX4_panHears 287 = .ok (.iadd, 1) := by decide +kernel
theorem dX4_panHears_288 : decode cX4_panHears 288 = .ok (.iaload, 1) := by decide +kernel
theorem dX4_panHears_289 : decode cX4_panHears 289 = .ok (.if_icmp .lt 7, 3) := by decide +kernel
theorem dX4_panHears_292 : decode cX4_panHears 292 = .ok (.iconst 1, 1) := by decide +kernel
theorem dX4_panHears_293 : decode cX4_panHears 293 = .ok (.goto 4, 3) := by decide +kernel
theorem dX4_panHears_296 : decode cX4_panHears 296 = .ok (.iconst 0, 1) := by decide +kernel
theorem dX4_panHears_297 : decode cX4_panHears 297 = .ok (.iastore, 1) := by decide +kernel
theorem dX4_panHears_298 : decode cX4_panHears 298 = .ok (.aload_n 0, 1) := by decide +kernel
theorem dX4_panHears_299 : decode cX4_panHears 299 = .ok (.getfield 19, 3) := by decide +kernel
theorem dX4_panHears_302 : decode cX4_panHears 302 = .ok (.bipush 46, 2) := by decide +kernel
theorem dX4_panHears_304 : decode cX4_panHears 304 = .ok (.iload_n 1, 1) := by decide +kernel
theorem dX4_panHears_305 : decode cX4_panHears 305 = .ok (.iadd, 1) := by decide +kernel
theorem dX4_panHears_306 : decode cX4_panHears 306 = .ok (.aload_n 0, 1) := by decide +kernel
theorem dX4_panHears_307 : decode cX4_panHears 307 = .ok (.getfield 19, 3) := by decide +kernel
theorem dX4_panHears_310 : decode cX4_panHears 310 = .ok (.bipush 41, 2) := by decide +kernel
theorem dX4_panHears_312 : decode cX4_panHears 312 = .ok (.iload_n 1, 1) := by decide +kernel
theorem dX4_panHears_313 : decode cX4_panHears 313 = .ok (.iadd, 1) := by decide +kernel
theorem dX4_panHears_314 : decode cX4_panHears 314 = .ok (.iaload, 1) := by decide +kernel
theorem dX4_panHears_315 : decode cX4_panHears 315 = .ok (.iconst 1, 1) := by decide +kernel
theorem dX4_panHears_316 : decode cX4_panHears 316 = .ok (.if_icmp .ne 8, 3) := by decide +kernel
theorem dX4_panHears_319 : decode cX4_panHears 319 = .ok (.ldc 127, 2) := by decide +kernel
theorem dX4_panHears_321 : decode cX4_panHears 321 = .ok (.goto 4, 3) := by decide +kernel
theorem dX4_panHears_324 : decode cX4_panHears 324 = .ok (.iload_n 2, 1) := by decide +kernel
theorem dX4_panHears_325 : decode cX4_panHears 325 = .ok (.iastore, 1) := by decide +kernel
theorem dX4_panHears_326 : decode cX4_panHears 326 = .ok (.return_, 1) := by decide +kernel
theorem dX4_oneBar_0 : decode cX4_oneBar 0 = .ok (.iconst 0, 1) := by decide +kernel
theorem dX4_oneBar_1 : decode cX4_oneBar 1 = .ok (.istore_n 1, 1) := by decide +kernel
theorem dX4_oneBar_2 : decode cX4_oneBar 2 = .ok (.iload_n 1, 1) := by decide +kernel
theorem dX4_oneBar_3 : decode cX4_oneBar 3 = .ok (.aload_n 0, 1) := by decide +kernel
theorem dX4_oneBar_4 : decode cX4_oneBar 4 = .ok (.getfield 19, 3) := by decide +kernel
theorem dX4_oneBar_7 : decode cX4_oneBar 7 = .ok (.iconst 2, 1) := by decide +kernel
theorem dX4_oneBar_8 : decode cX4_oneBar 8 = .ok (.iaload, 1) := by decide +kernel
theorem dX4_oneBar_9 : decode cX4_oneBar 9 = .ok (.if_icmp .ge 41, 3) := by decide +kernel
theorem dX4_oneBar_12 : decode cX4_oneBar 12 = .ok (.aload_n 0, 1) := by decide +kernel
theorem dX4_oneBar_13 : decode cX4_oneBar 13 = .ok (.getfield 19, 3) := by decide +kernel
theorem dX4_oneBar_16 : decode cX4_oneBar 16 = .ok (.bipush 41, 2) := by decide +kernel
theorem dX4_oneBar_18 : decode cX4_oneBar 18 = .ok (.iload_n 1, 1) := by decide +kernel
theorem dX4_oneBar_19 : decode cX4_oneBar 19 = .ok (.iadd, 1) := by decide +kernel
theorem dX4_oneBar_20 : decode cX4_oneBar 20 = .ok (.iaload, 1) := by decide +kernel
theorem dX4_oneBar_21 : decode cX4_oneBar 21 = .ok (.iconst 1, 1) := by decide +kernel
theorem dX4_oneBar_22 : decode cX4_oneBar 22 = .ok (.if_icmp .ne 17, 3) := by decide +kernel
theorem dX4_oneBar_25 : decode cX4_oneBar 25 = .ok (.aload_n 0, 1) := by decide +kernel
theorem dX4_oneBar_26 : decode cX4_oneBar 26 = .ok (.getfield 19, 3) := by decide +kernel
theorem dX4_oneBar_29 : decode cX4_oneBar 29 = .ok (.bipush 46, 2) := by decide +kernel
theorem dX4_oneBar_31 : decode cX4_oneBar 31 = .ok (.iload_n 1, 1) := by decide +kernel
theorem dX4_oneBar_32 : decode cX4_oneBar 32 = .ok (.iadd, 1) := by decide +kernel
theorem dX4_oneBar_33 : decode cX4_oneBar 33 = .ok (.ldc 127, 2) := by decide +kernel
theorem dX4_oneBar_35 : decode cX4_oneBar 35 = .ok (.iastore, 1) := by decide +kernel
theorem dX4_oneBar_36 : decode cX4_oneBar 36 = .ok (.goto 8, 3) := by decide +kernel
theorem dX4_oneBar_39 : decode cX4_oneBar 39 = .ok (.aload_n 0, 1) := by decide +kernel
theorem dX4_oneBar_40 : decode cX4_oneBar 40 = .ok (.iload_n 1, 1) := by decide +kernel
theorem dX4_oneBar_41 : decode cX4_oneBar 41 = .ok (.invokevirtual 153, 3) := by decide +kernel
theorem dX4_oneBar_44 : decode cX4_oneBar 44 = .ok (.iinc 1 1, 3) := by decide +kernel
theorem dX4_oneBar_47 : decode cX4_oneBar 47 = .ok (.goto (-45), 3) := by decide +kernel
theorem dX4_oneBar_50 : decode cX4_oneBar 50 = .ok (.iconst 0, 1) := by decide +kernel
theorem dX4_oneBar_51 : decode cX4_oneBar 51 = .ok (.istore_n 1, 1) := by decide +kernel
theorem dX4_oneBar_52 : decode cX4_oneBar 52 = .ok (.iload_n 1, 1) := by decide +kernel
theorem dX4_oneBar_53 : decode cX4_oneBar 53 = .ok (.aload_n 0, 1) := by decide +kernel
theorem dX4_oneBar_54 : decode cX4_oneBar 54 = .ok (.getfield 19, 3) := by decide +kernel
theorem dX4_oneBar_57 : decode cX4_oneBar 57 = .ok (.iconst 1, 1) := by decide +kernel
theorem dX4_oneBar_58 : decode cX4_oneBar 58 = .ok (.iaload, 1) := by decide +kernel
theorem dX4_oneBar_59 : decode cX4_oneBar 59 = .ok (.if_icmp .ge 44, 3) := by decide +kernel
theorem dX4_oneBar_62 : decode cX4_oneBar 62 = .ok (.aload_n 0, 1) := by decide +kernel
theorem dX4_oneBar_63 : decode cX4_oneBar 63 = .ok (.getfield 19, 3) := by decide +kernel
theorem dX4_oneBar_66 : decode cX4_oneBar 66 = .ok (.bipush 13, 2) := by decide +kernel
theorem dX4_oneBar_68 : decode cX4_oneBar 68 = .ok (.iload_n 1, 1) := by decide +kernel
theorem dX4_oneBar_69 : decode cX4_oneBar 69 = .ok (.iadd, 1) := by decide +kernel
theorem dX4_oneBar_70 : decode cX4_oneBar 70 = .ok (.aload_n 0, 1) := by decide +kernel
theorem dX4_oneBar_71 : decode cX4_oneBar 71 = .ok (.getfield 31, 3) := by decide +kernel
theorem dX4_oneBar_74 : decode cX4_oneBar 74 = .ok (.iload_n 1, 1) := by decide +kernel
theorem dX4_oneBar_75 : decode cX4_oneBar 75 = .ok (.iaload, 1) := by decide +kernel
theorem dX4_oneBar_76 : decode cX4_oneBar 76 = .ok (.bipush 7, 2) := by decide +kernel
theorem dX4_oneBar_78 : decode cX4_oneBar 78 = .ok (.if_icmp .ge 17, 3) := by decide +kernel
theorem dX4_oneBar_81 : decode cX4_oneBar 81 = .ok (.aload_n 0, 1) := by decide +kernel
theorem dX4_oneBar_82 : decode cX4_oneBar 82 = .ok (.getfield 19, 3) := by decide +kernel
theorem dX4_oneBar_85 : decode cX4_oneBar 85 = .ok (.bipush 13, 2) := by decide +kernel
theorem dX4_oneBar_87 : decode cX4_oneBar 87 = .ok (.iload_n 1, 1) := by decide +kernel
theorem dX4_oneBar_88 : decode cX4_oneBar 88 = .ok (.iadd, 1) := by decide +kernel
theorem dX4_oneBar_89 : decode cX4_oneBar 89 = .ok (.iaload, 1) := by decide +kernel
theorem dX4_oneBar_90 : decode cX4_oneBar 90 = .ok (.iconst 1, 1) := by decide +kernel
theorem dX4_oneBar_91 : decode cX4_oneBar 91 = .ok (.iadd, 1) := by decide +kernel
theorem dX4_oneBar_92 : decode cX4_oneBar 92 = .ok (.goto 4, 3) := by decide +kernel
theorem dX4_oneBar_95 : decode cX4_oneBar 95 = .ok (.iconst 0, 1) := by decide +kernel
theorem dX4_oneBar_96 : decode cX4_oneBar 96 = .ok (.iastore, 1) := by decide +kernel
theorem dX4_oneBar_97 : decode cX4_oneBar 97 = .ok (.iinc 1 1, 3) := by decide +kernel
theorem dX4_oneBar_100 : decode cX4_oneBar 100 = .ok (.goto (-48), 3) := by decide +kernel
theorem dX4_oneBar_103 : decode cX4_oneBar 103 = .ok (.aload_n 0, 1) := by decide +kernel
theorem dX4_oneBar_104 : decode cX4_oneBar 104 = .ok (.getfield 19, 3) := by decide +kernel
theorem dX4_oneBar_107 : decode cX4_oneBar 107 = .ok (.iconst 3, 1) := by decide +kernel
theorem dX4_oneBar_108 : decode cX4_oneBar 108 = .ok (.dup2, 1) := by decide +kernel
theorem dX4_oneBar_109 : decode cX4_oneBar 109 = .ok (.iaload, 1) := by decide +kernel
theorem dX4_oneBar_110 : decode cX4_oneBar 110 = .ok (.iconst 1, 1) := by decide +kernel
theorem dX4_oneBar_111 : decode cX4_oneBar 111 = .ok (.iadd, 1) := by decide +kernel
theorem dX4_oneBar_112 : decode cX4_oneBar 112 = .ok (.iastore, 1) := by decide +kernel
theorem dX4_oneBar_113 : decode cX4_oneBar 113 = .ok (.return_, 1) := by decide +kernel
theorem dX4_setPans_0 : decode cX4_setPans 0 = .ok (.iconst 0, 1) := by decide +kernel
theorem dX4_setPans_1 : decode cX4_setPans 1 = .ok (.istore_n 1, 1) := by decide +kernel
theorem dX4_setPans_2 : decode cX4_setPans 2 = .ok (.iconst 0, 1) := by decide +kernel
theorem dX4_setPans_3 : decode cX4_setPans 3 = .ok (.istore_n 2, 1) := by decide +kernel
theorem dX4_setPans_4 : decode cX4_setPans 4 = .ok (.iload_n 2, 1) := by decide +kernel
theorem dX4_setPans_5 : decode cX4_setPans 5 = .ok (.aload_n 0, 1) := by decide +kernel
theorem dX4_setPans_6 : decode cX4_setPans 6 = .ok (.getfield 19, 3) := by decide +kernel
theorem dX4_setPans_9 : decode cX4_setPans 9 = .ok (.iconst 2, 1) := by decide +kernel
theorem dX4_setPans_10 : decode cX4_setPans 10 = .ok (.iaload, 1) := by decide +kernel
theorem dX4_setPans_11 : decode cX4_setPans 11 = .ok (.if_icmp .ge 23, 3) := by decide +kernel
theorem dX4_setPans_14 : decode cX4_setPans 14 = .ok (.iload_n 1, 1) := by decide +kernel
theorem dX4_setPans_15 : decode cX4_setPans 15 = .ok (.aload_n 0, 1) := by decide +kernel
theorem dX4_setPans_16 : decode cX4_setPans 16 = .ok (.getfield 19, 3) := by decide +kernel
theorem dX4_setPans_19 : decode cX4_setPans 19 = .ok (.bipush 41, 2) := by decide +kernel
theorem dX4_setPans_21 : decode cX4_setPans 21 = .ok (.iload_n 2, 1) := by decide +kernel
theorem dX4_setPans_22 : decode cX4_setPans 22 = .ok (.iadd, 1) := by decide +kernel
theorem dX4_setPans_23 : decode cX4_setPans 23 = .ok (.iaload, 1) := by decide +kernel
theorem dX4_setPans_24 : decode cX4_setPans 24 = .ok (.iload_n 2, 1) := by decide +kernel
theorem dX4_setPans_25 : decode cX4_setPans 25 = .ok (.ishl, 1) := by decide +kernel
theorem dX4_setPans_26 : decode cX4_setPans 26 = .ok (.ior, 1) := by decide +kernel
theorem dX4_setPans_27 : decode cX4_setPans 27 = .ok (.istore_n 1, 1) := by decide +kernel
theorem dX4_setPans_28 : decode cX4_setPans 28 = .ok (.iinc 2 1, 3) := by decide +kernel
theorem dX4_setPans_31 : decode cX4_setPans 31 = .ok (.goto (-27), 3) := by decide +kernel
theorem dX4_setPans_34 : decode cX4_setPans 34 = .ok (.iload_n 1, 1) := by decide +kernel
theorem dX4_setPans_35 : decode cX4_setPans 35 = .ok (.ireturn, 1) := by decide +kernel
theorem dX4_note_0 : decode cX4_note 0 = .ok (.aload_n 0, 1) := by decide +kernel
theorem dX4_note_1 : decode cX4_note 1 = .ok (.getfield 146, 3) := by decide +kernel
theorem dX4_note_4 : decode cX4_note 4 = .ok (.bipush 24, 2) := by decide +kernel
theorem dX4_note_6 : decode cX4_note 6 = .ok (.if_icmp .ne 43, 3) := by decide +kernel
theorem dX4_note_9 : decode cX4_note 9 = .ok (.iconst 0, 1) := by decide +kernel
theorem dX4_note_10 : decode cX4_note 10 = .ok (.istore_n 1, 1) := by decide +kernel
theorem dX4_note_11 : decode cX4_note 11 = .ok (.iload_n 1, 1) := by decide +kernel
theorem dX4_note_12 : decode cX4_note 12 = .ok (.sipush 1173, 3) := by decide +kernel
theorem dX4_note_15 : decode cX4_note 15 = .ok (.if_icmp .ge 24, 3) := by decide +kernel
theorem dX4_note_18 : decode cX4_note 18 = .ok (.aload_n 0, 1) := by decide +kernel
theorem dX4_note_19 : decode cX4_note 19 = .ok (.getfield 34, 3) := by decide +kernel
theorem dX4_note_22 : decode cX4_note 22 = .ok (.iload_n 1, 1) := by decide +kernel
theorem dX4_note_23 : decode cX4_note 23 = .ok (.aload_n 0, 1) := by decide +kernel
theorem dX4_note_24 : decode cX4_note 24 = .ok (.getfield 34, 3) := by decide +kernel
theorem dX4_note_27 : decode cX4_note 27 = .ok (.iload_n 1, 1) := by decide +kernel
theorem dX4_note_28 : decode cX4_note 28 = .ok (.bipush 51, 2) := by decide +kernel
theorem dX4_note_30 : decode cX4_note 30 = .ok (.iadd, 1) := by decide +kernel
theorem dX4_note_31 : decode cX4_note 31 = .ok (.iaload, 1) := by decide +kernel
theorem dX4_note_32 : decode cX4_note 32 = .ok (.iastore, 1) := by decide +kernel
theorem dX4_note_33 : decode cX4_note 33 = .ok (.iinc 1 1, 3) := by decide +kernel
theorem dX4_note_36 : decode cX4_note 36 = .ok (.goto (-25), 3) := by decide +kernel
theorem dX4_note_39 : decode cX4_note 39 = .ok (.aload_n 0, 1) := by decide +kernel
theorem dX4_note_40 : decode cX4_note 40 = .ok (.dup, 1) := by decide +kernel
theorem dX4_note_41 : decode cX4_note 41 = .ok (.getfield 146, 3) := by decide +kernel
theorem dX4_note_44 : decode cX4_note 44 = .ok (.iconst 1, 1) := by decide +kernel
theorem dX4_note_45 : decode cX4_note 45 = .ok (.isub, 1) := by decide +kernel
theorem dX4_note_46 : decode cX4_note 46 = .ok (.putfield 146, 3) := by decide +kernel
theorem dX4_note_49 : decode cX4_note 49 = .ok (.iconst 0, 1) := by decide +kernel
theorem dX4_note_50 : decode cX4_note 50 = .ok (.istore_n 1, 1) := by decide +kernel
theorem dX4_note_51 : decode cX4_note 51 = .ok (.iload_n 1, 1) := by decide +kernel
theorem dX4_note_52 : decode cX4_note 52 = .ok (.bipush 51, 2) := by decide +kernel
theorem dX4_note_54 : decode cX4_note 54 = .ok (.if_icmp .ge 29, 3) := by decide +kernel
theorem dX4_note_57 : decode cX4_note 57 = .ok (.aload_n 0, 1) := by decide +kernel
theorem dX4_note_58 : decode cX4_note 58 = .ok (.getfield 34, 3) := by decide +kernel
theorem dX4_note_61 : decode cX4_note 61 = .ok (.bipush 51, 2) := by decide +kernel
theorem dX4_note_63 : decode cX4_note 63 = .ok (.aload_n 0, 1) := by decide +kernel
theorem dX4_note_64 : decode cX4_note 64 = .ok (.getfield 146, 3) := by decide +kernel
theorem dX4_note_67 : decode cX4_note 67 = .ok (.imul, 1) := by decide +kernel
theorem dX4_note_68 : decode cX4_note 68 = .ok (.iload_n 1, 1) := by decide +kernel
theorem dX4_note_69 : decode cX4_note 69 = .ok (.iadd, 1) := by decide +kernel
theorem dX4_note_70 : decode cX4_note 70 = .ok (.aload_n 0, 1) := by decide +kernel
theorem dX4_note_71 : decode cX4_note 71 = .ok (.getfield 19, 3) := by decide +kernel
theorem dX4_note_74 : decode cX4_note 74 = .ok (.iload_n 1, 1) := by decide +kernel
theorem dX4_note_75 : decode cX4_note 75 = .ok (.iaload, 1) := by decide +kernel
theorem dX4_note_76 : decode cX4_note 76 = .ok (.iastore, 1) := by decide +kernel
theorem dX4_note_77 : decode cX4_note 77 = .ok (.iinc 1 1, 3) := by decide +kernel
theorem dX4_note_80 : decode cX4_note 80 = .ok (.goto (-29), 3) := by decide +kernel
theorem dX4_note_83 : decode cX4_note 83 = .ok (.aload_n 0, 1) := by decide +kernel
theorem dX4_note_84 : decode cX4_note 84 = .ok (.dup, 1) := by decide +kernel
theorem dX4_note_85 : decode cX4_note 85 = .ok (.getfield 146, 3) := by decide +kernel
theorem dX4_note_88 : decode cX4_note 88 = .ok (.iconst 1, 1) := by decide +kernel
theorem dX4_note_89 : decode cX4_note 89 = .ok (.iadd, 1) := by decide +kernel
theorem dX4_note_90 : decode cX4_note 90 = .ok (.putfield 146, 3) := by decide +kernel
theorem dX4_note_93 : decode cX4_note 93 = .ok (.return_, 1) := by decide +kernel
theorem dX4_bar_0 : decode cX4_bar 0 = .ok (.aload_n 0, 1) := by decide +kernel
theorem dX4_bar_1 : decode cX4_bar 1 = .ok (.getfield 142, 3) := by decide +kernel
theorem dX4_bar_4 : decode cX4_bar 4 = .ok (.ifCond .ne 6, 3) := by decide +kernel
theorem dX4_bar_7 : decode cX4_bar 7 = .ok (.ldc 157, 2) := by decide +kernel
theorem dX4_bar_9 : decode cX4_bar 9 = .ok (.ireturn, 1) := by decide +kernel
theorem dX4_bar_10 : decode cX4_bar 10 = .ok (.aload_n 0, 1) := by decide +kernel
theorem dX4_bar_11 : decode cX4_bar 11 = .ok (.getfield 31, 3) := by decide +kernel
theorem dX4_bar_14 : decode cX4_bar 14 = .ok (.iconst 0, 1) := by decide +kernel
theorem dX4_bar_15 : decode cX4_bar 15 = .ok (.iload_n 1, 1) := by decide +kernel
theorem dX4_bar_16 : decode cX4_bar 16 = .ok (.iastore, 1) := by decide +kernel
theorem dX4_bar_17 : decode cX4_bar 17 = .ok (.aload_n 0, 1) := by decide +kernel
theorem dX4_bar_18 : decode cX4_bar 18 = .ok (.getfield 31, 3) := by decide +kernel
theorem dX4_bar_21 : decode cX4_bar 21 = .ok (.iconst 1, 1) := by decide +kernel
theorem dX4_bar_22 : decode cX4_bar 22 = .ok (.iload_n 2, 1) := by decide +kernel
theorem dX4_bar_23 : decode cX4_bar 23 = .ok (.iastore, 1) := by decide +kernel
theorem dX4_bar_24 : decode cX4_bar 24 = .ok (.aload_n 0, 1) := by decide +kernel
theorem dX4_bar_25 : decode cX4_bar 25 = .ok (.getfield 31, 3) := by decide +kernel
theorem dX4_bar_28 : decode cX4_bar 28 = .ok (.iconst 2, 1) := by decide +kernel
theorem dX4_bar_29 : decode cX4_bar 29 = .ok (.iload_n 3, 1) := by decide +kernel
theorem dX4_bar_30 : decode cX4_bar 30 = .ok (.iastore, 1) := by decide +kernel
theorem dX4_bar_31 : decode cX4_bar 31 = .ok (.iconst 1, 1) := by decide +kernel
theorem dX4_bar_32 : decode cX4_bar 32 = .ok (.istore 4, 2) := by decide +kernel
theorem dX4_bar_34 : decode cX4_bar 34 = .ok (.iconst 0, 1) := by decide +kernel
theorem dX4_bar_35 : decode cX4_bar 35 = .ok (.istore 5, 2) := by decide +kernel
theorem dX4_bar_37 : decode cX4_bar 37 = .ok (.iload 5, 2) := by decide +kernel
theorem dX4_bar_39 : decode cX4_bar 39 = .ok (.iconst 3, 1) := by decide +kernel
theorem dX4_bar_40 : decode cX4_bar 40 = .ok (.if_icmp .ge 92, 3) := by decide +kernel
theorem dX4_bar_43 : decode cX4_bar 43 = .ok (.aload_n 0, 1) := by decide +kernel
theorem dX4_bar_44 : decode cX4_bar 44 = .ok (.getfield 31, 3) := by decide +kernel
theorem dX4_bar_47 : decode cX4_bar 47 = .ok (.iload 5, 2) := by decide +kernel
theorem dX4_bar_49 : decode cX4_bar 49 = .ok (.iaload, 1) := by decide +kernel
theorem dX4_bar_50 : decode cX4_bar 50 = .ok (.i2l, 1) := by decide +kernel
theorem dX4_bar_51 : decode cX4_bar 51 = .ok (.lconst 0, 1) := by decide +kernel
theorem dX4_bar_52 : decode cX4_bar 52 = .ok (.ldc2_w 58, 3) := by decide +kernel
theorem dX4_bar_55 : decode cX4_bar 55 = .ok (.invokestatic 60, 3) := by decide +kernel
theorem dX4_bar_58 : decode cX4_bar 58 = .ok (.ifCond .eq 26, 3) := by decide +kernel
theorem dX4_bar_61 : decode cX4_bar 61 = .ok (.iload 5, 2) := by decide +kernel
theorem dX4_bar_63 : decode cX4_bar 63 = .ok (.aload_n 0, 1) := by decide +kernel
theorem dX4_bar_64 : decode cX4_bar 64 = .ok (.getfield 19, 3) := by decide +kernel
theorem dX4_bar_67 : decode cX4_bar 67 = .ok (.iconst 1, 1) := by decide +kernel
theorem dX4_bar_68 : decode cX4_bar 68 = .ok (.iaload, 1) := by decide +kernel
theorem dX4_bar_69 : decode cX4_bar 69 = .ok (.if_icmp .lt 18, 3) := by decide +kernel
theorem dX4_bar_72 : decode cX4_bar 72 = .ok (.aload_n 0, 1) := by decide +kernel
theorem dX4_bar_73 : decode cX4_bar 73 = .ok (.getfield 31, 3) := by decide +kernel
theorem dX4_bar_76 : decode cX4_bar 76 = .ok (.iload 5, 2) := by decide +kernel
theorem dX4_bar_78 : decode cX4_bar 78 = .ok (.iaload, 1) := by decide +kernel
theorem dX4_bar_79 : decode cX4_bar 79 = .ok (.bipush 7, 2) := by decide +kernel
theorem dX4_bar_81 : decode cX4_bar 81 = .ok (.if_icmp .ge 6, 3) := by decide +kernel
theorem dX4_bar_84 : decode cX4_bar 84 = .ok (.ldc 70, 2) := by decide +kernel
theorem dX4_bar_86 : decode cX4_bar 86 = .ok (.ireturn, 1) := by decide +kernel
theorem dX4_bar_87 : decode cX4_bar 87 = .ok (.iload 4, 2) := by decide +kernel
theorem dX4_bar_89 : decode cX4_bar 89 = .ok (.ifCond .eq 34, 3) := by decide +kernel
theorem dX4_bar_92 : decode cX4_bar 92 = .ok (.iload 5, 2) := by decide +kernel
theorem dX4_bar_94 : decode cX4_bar 94 = .ok (.aload_n 0, 1) := by decide +kernel
theorem dX4_bar_95 : decode cX4_bar 95 = .ok (.getfield 19, 3) := by decide +kernel
theorem dX4_bar_98 : decode cX4_bar 98 = .ok (.iconst 1, 1) := by decide +kernel
theorem dX4_bar_99 : decode cX4_bar 99 = .ok (.iaload, 1) := by decide +kernel
theorem dX4_bar_100 : decode cX4_bar 100 = .ok (.if_icmp .ge 19, 3) := by decide +kernel
theorem dX4_bar_103 : decode cX4_bar 103 = .ok (.aload_n 0, 1) := by decide +kernel
theorem dX4_bar_104 : decode cX4_bar 104 = .ok (.iload 5, 2) := by decide +kernel
theorem dX4_bar_106 : decode cX4_bar 106 = .ok (.aload_n 0, 1) := by decide +kernel
theorem dX4_bar_107 : decode cX4_bar 107 = .ok (.getfield 31, 3) := by decide +kernel
theorem dX4_bar_110 : decode cX4_bar 110 = .ok (.iload 5, 2) := by decide +kernel
theorem dX4_bar_112 : decode cX4_bar 112 = .ok (.iaload, 1) := by decide +kernel
theorem dX4_bar_113 : decode cX4_bar 113 = .ok (.invokevirtual 158, 3) := by decide +kernel
theorem dX4_bar_116 : decode cX4_bar 116 = .ok (.ifCond .eq 7, 3) := by decide +kernel
theorem dX4_bar_119 : decode cX4_bar 119 = .ok (.iconst 1, 1) := by decide +kernel
theorem dX4_bar_120 : decode cX4_bar 120 = .ok (.goto 4, 3) := by decide +kernel
theorem dX4_bar_123 : decode cX4_bar 123 = .ok (.iconst 0, 1) := by decide +kernel
theorem dX4_bar_124 : decode cX4_bar 124 = .ok (.istore 4, 2) := by decide +kernel
theorem dX4_bar_126 : decode cX4_bar 126 = .ok (.iinc 5 1, 3) := by decide +kernel
theorem dX4_bar_129 : decode cX4_bar 129 = .ok (.goto (-92), 3) := by decide +kernel
theorem dX4_bar_132 : decode cX4_bar 132 = .ok (.iload 4, 2) := by decide +kernel
theorem dX4_bar_134 : decode cX4_bar 134 = .ok (.ifCond .ne 6, 3) := by decide +kernel
theorem dX4_bar_137 : decode cX4_bar 137 = .ok (.ldc 157, 2) := by decide +kernel
theorem dX4_bar_139 : decode cX4_bar 139 = .ok (.ireturn, 1) := by decide +kernel
theorem dX4_bar_140 : decode cX4_bar 140 = .ok (.aload_n 0, 1) := by decide +kernel
theorem dX4_bar_141 : decode cX4_bar 141 = .ok (.invokevirtual 161, 3) := by decide +kernel
theorem dX4_bar_144 : decode cX4_bar 144 = .ok (.aload_n 0, 1) := by decide +kernel
theorem dX4_bar_145 : decode cX4_bar 145 = .ok (.invokevirtual 164, 3) := by decide +kernel
theorem dX4_bar_148 : decode cX4_bar 148 = .ok (.aload_n 0, 1) := by decide +kernel
theorem dX4_bar_149 : decode cX4_bar 149 = .ok (.invokevirtual 167, 3) := by decide +kernel
theorem dX4_bar_152 : decode cX4_bar 152 = .ok (.ireturn, 1) := by decide +kernel
theorem dX4_window_0 : decode cX4_window 0 = .ok (.aload_n 0, 1) := by decide +kernel
theorem dX4_window_1 : decode cX4_window 1 = .ok (.iload_n 1, 1) := by decide +kernel
theorem dX4_window_2 : decode cX4_window 2 = .ok (.invokevirtual 171, 3) := by decide +kernel
theorem dX4_window_5 : decode cX4_window 5 = .ok (.ifCond .eq 21, 3) := by decide +kernel
theorem dX4_window_8 : decode cX4_window 8 = .ok (.aload_n 0, 1) := by decide +kernel
theorem dX4_window_9 : decode cX4_window 9 = .ok (.iload_n 2, 1) := by decide +kernel
theorem dX4_window_10 : decode cX4_window 10 = .ok (.invokevirtual 174, 3) := by decide +kernel
theorem dX4_window_13 : decode cX4_window 13 = .ok (.ifCond .eq 13, 3) := by decide +kernel
theorem dX4_window_16 : decode cX4_window 16 = .ok (.iload_n 3, 1) := by decide +kernel
theorem dX4_window_17 : decode cX4_window 17 = .ok (.i2l, 1) := by decide +kernel
theorem dX4_window_18 : decode cX4_window 18 = .ok (.lconst 0, 1) := by decide +kernel
theorem dX4_window_19 : decode cX4_window 19 = .ok (.lconst 1, 1) := by decide +kernel
theorem dX4_window_20 : decode cX4_window 20 = .ok (.invokestatic 60, 3) := by decide +kernel
theorem dX4_window_23 : decode cX4_window 23 = .ok (.ifCond .ne 6, 3) := by decide +kernel
theorem dX4_window_26 : decode cX4_window 26 = .ok (.ldc 70, 2) := by decide +kernel
theorem dX4_window_28 : decode cX4_window 28 = .ok (.ireturn, 1) := by decide +kernel
theorem dX4_window_29 : decode cX4_window 29 = .ok (.aload_n 0, 1) := by decide +kernel
theorem dX4_window_30 : decode cX4_window 30 = .ok (.getfield 19, 3) := by decide +kernel
theorem dX4_window_33 : decode cX4_window 33 = .ok (.bipush 31, 2) := by decide +kernel
theorem dX4_window_35 : decode cX4_window 35 = .ok (.iload_n 1, 1) := by decide +kernel
theorem dX4_window_36 : decode cX4_window 36 = .ok (.iadd, 1) := by decide +kernel
theorem dX4_window_37 : decode cX4_window 37 = .ok (.iaload, 1) := by decide +kernel
theorem dX4_window_38 : decode cX4_window 38 = .ok (.iload_n 2, 1) := by decide +kernel
theorem dX4_window_39 : decode cX4_window 39 = .ok (.ishr, 1) := by decide +kernel
theorem dX4_window_40 : decode cX4_window 40 = .ok (.iconst 1, 1) := by decide +kernel
theorem dX4_window_41 : decode cX4_window 41 = .ok (.iand, 1) := by decide +kernel
theorem dX4_window_42 : decode cX4_window 42 = .ok (.iload_n 3, 1) := by decide +kernel
theorem dX4_window_43 : decode cX4_window 43 = .ok (.if_icmp .ne 6, 3) := by decide +kernel
theorem dX4_window_46 : decode cX4_window 46 = .ok (.ldc 157, 2) := by decide +kernel
theorem dX4_window_48 : decode cX4_window 48 = .ok (.ireturn, 1) := by decide +kernel
theorem dX4_window_49 : decode cX4_window 49 = .ok (.aload_n 0, 1) := by decide +kernel
theorem dX4_window_50 : decode cX4_window 50 = .ok (.invokevirtual 161, 3) := by decide +kernel
theorem dX4_window_53 : decode cX4_window 53 = .ok (.aload_n 0, 1) := by decide +kernel
theorem dX4_window_54 : decode cX4_window 54 = .ok (.getfield 19, 3) := by decide +kernel
theorem dX4_window_57 : decode cX4_window 57 = .ok (.bipush 31, 2) := by decide +kernel
theorem dX4_window_59 : decode cX4_window 59 = .ok (.iload_n 1, 1) := by decide +kernel
theorem dX4_window_60 : decode cX4_window 60 = .ok (.iadd, 1) := by decide +kernel
theorem dX4_window_61 : decode cX4_window 61 = .ok (.dup2, 1) := by decide +kernel
theorem dX4_window_62 : decode cX4_window 62 = .ok (.iaload, 1) := by decide +kernel
theorem dX4_window_63 : decode cX4_window 63 = .ok (.iconst 1, 1) := by decide +kernel
theorem dX4_window_64 : decode cX4_window 64 = .ok (.iload_n 2, 1) := by decide +kernel
theorem dX4_window_65 : decode cX4_window 65 = .ok (.ishl, 1) := by decide +kernel
theorem dX4_window_66 : decode cX4_window 66 = .ok (.ixor, 1) := by decide +kernel
theorem dX4_window_67 : decode cX4_window 67 = .ok (.iastore, 1) := by decide +kernel
theorem dX4_window_68 : decode cX4_window 68 = .ok (.iconst 1, 1) := by decide +kernel
theorem dX4_window_69 : decode cX4_window 69 = .ok (.ireturn, 1) := by decide +kernel
theorem dX4_undo_0 : decode cX4_undo 0 = .ok (.aload_n 0, 1) := by decide +kernel
theorem dX4_undo_1 : decode cX4_undo 1 = .ok (.getfield 146, 3) := by decide +kernel
theorem dX4_undo_4 : decode cX4_undo 4 = .ok (.ifCond .ne 6, 3) := by decide +kernel
theorem dX4_undo_7 : decode cX4_undo 7 = .ok (.ldc 157, 2) := by decide +kernel
theorem dX4_undo_9 : decode cX4_undo 9 = .ok (.ireturn, 1) := by decide +kernel
theorem dX4_undo_10 : decode cX4_undo 10 = .ok (.aload_n 0, 1) := by decide +kernel
theorem dX4_undo_11 : decode cX4_undo 11 = .ok (.dup, 1) := by decide +kernel
theorem dX4_undo_12 : decode cX4_undo 12 = .ok (.getfield 146, 3) := by decide +kernel
theorem dX4_undo_15 : decode cX4_undo 15 = .ok (.iconst 1, 1) := by decide +kernel
theorem dX4_undo_16 : decode cX4_undo 16 = .ok (.isub, 1) := by decide +kernel
theorem dX4_undo_17 : decode cX4_undo 17 = .ok (.putfield 146, 3) := by decide +kernel
theorem dX4_undo_20 : decode cX4_undo 20 = .ok (.iconst 0, 1) := by decide +kernel
theorem dX4_undo_21 : decode cX4_undo 21 = .ok (.istore_n 1, 1) := by decide +kernel
theorem dX4_undo_22 : decode cX4_undo 22 = .ok (.iload_n 1, 1) := by decide +kernel
theorem dX4_undo_23 : decode cX4_undo 23 = .ok (.bipush 51, 2) := by decide +kernel
theorem dX4_undo_25 : decode cX4_undo 25 = .ok (.if_icmp .ge 29, 3) := by decide +kernel
theorem dX4_undo_28 : decode cX4_undo 28 = .ok (.aload_n 0, 1) := by decide +kernel
theorem dX4_undo_29 : decode cX4_undo 29 = .ok (.getfield 19, 3) := by decide +kernel
theorem dX4_undo_32 : decode cX4_undo 32 = .ok (.iload_n 1, 1) := by decide +kernel
theorem dX4_undo_33 : decode cX4_undo 33 = .ok (.aload_n 0, 1) := by decide +kernel
theorem dX4_undo_34 : decode cX4_undo 34 = .ok (.getfield 34, 3) := by decide +kernel
theorem dX4_undo_37 : decode cX4_undo 37 = .ok (.bipush 51, 2) := by decide +kernel
theorem dX4_undo_39 : decode cX4_undo 39 = .ok (.aload_n 0, 1) := by decide +kernel
theorem dX4_undo_40 : decode cX4_undo 40 = .ok (.getfield 146, 3) := by decide +kernel
theorem dX4_undo_43 : decode cX4_undo 43 = .ok (.imul, 1) := by decide +kernel
theorem dX4_undo_44 : decode cX4_undo 44 = .ok (.iload_n 1, 1) := by decide +kernel
theorem dX4_undo_45 : decode cX4_undo 45 = .ok (.iadd, 1) := by decide +kernel
theorem dX4_undo_46 : decode cX4_undo 46 = .ok (.iaload, 1) := by decide +kernel
theorem dX4_undo_47 : decode cX4_undo 47 = .ok (.iastore, 1) := by decide +kernel
theorem dX4_undo_48 : decode cX4_undo 48 = .ok (.iinc 1 1, 3) := by decide +kernel
theorem dX4_undo_51 : decode cX4_undo 51 = .ok (.goto (-29), 3) := by decide +kernel
theorem dX4_undo_54 : decode cX4_undo 54 = .ok (.aload_n 0, 1) := by decide +kernel
theorem dX4_undo_55 : decode cX4_undo 55 = .ok (.getfield 146, 3) := by decide +kernel
theorem dX4_undo_58 : decode cX4_undo 58 = .ok (.ireturn, 1) := by decide +kernel
theorem dX4_pan_0 : decode cX4_pan 0 = .ok (.aload_n 0, 1) := by decide +kernel
theorem dX4_pan_1 : decode cX4_pan 1 = .ok (.iload_n 1, 1) := by decide +kernel
theorem dX4_pan_2 : decode cX4_pan 2 = .ok (.invokevirtual 171, 3) := by decide +kernel
theorem dX4_pan_5 : decode cX4_pan 5 = .ok (.ifCond .ne 6, 3) := by decide +kernel
theorem dX4_pan_8 : decode cX4_pan 8 = .ok (.ldc 70, 2) := by decide +kernel
theorem dX4_pan_10 : decode cX4_pan 10 = .ok (.ireturn, 1) := by decide +kernel
theorem dX4_pan_11 : decode cX4_pan 11 = .ok (.iload_n 2, 1) := by decide +kernel
theorem dX4_pan_12 : decode cX4_pan 12 = .ok (.tableswitch 100 0 5 #[40, 50, 60, 70, 80, 90], 40) := by decide +kernel
theorem dX4_pan_52 : decode cX4_pan 52 = .ok (.aload_n 0, 1) := by decide +kernel
theorem dX4_pan_53 : decode cX4_pan 53 = .ok (.getfield 19, 3) := by decide +kernel
theorem dX4_pan_56 : decode cX4_pan 56 = .ok (.bipush 21, 2) := by decide +kernel
theorem dX4_pan_58 : decode cX4_pan 58 = .ok (.iload_n 1, 1) := by decide +kernel
theorem dX4_pan_59 : decode cX4_pan 59 = .ok (.iadd, 1) := by decide +kernel
theorem dX4_pan_60 : decode cX4_pan 60 = .ok (.iaload, 1) := by decide +kernel
theorem dX4_pan_61 : decode cX4_pan 61 = .ok (.ireturn, 1) := by decide +kernel
theorem dX4_pan_62 : decode cX4_pan 62 = .ok (.aload_n 0, 1) := by decide +kernel
theorem dX4_pan_63 : decode cX4_pan 63 = .ok (.getfield 19, 3) := by decide +kernel
theorem dX4_pan_66 : decode cX4_pan 66 = .ok (.bipush 26, 2) := by decide +kernel
theorem dX4_pan_68 : decode cX4_pan 68 = .ok (.iload_n 1, 1) := by decide +kernel
theorem dX4_pan_69 : decode cX4_pan 69 = .ok (.iadd, 1) := by decide +kernel
theorem dX4_pan_70 : decode cX4_pan 70 = .ok (.iaload, 1) := by decide +kernel
theorem dX4_pan_71 : decode cX4_pan 71 = .ok (.ireturn, 1) := by decide +kernel
theorem dX4_pan_72 : decode cX4_pan 72 = .ok (.aload_n 0, 1) := by decide +kernel
theorem dX4_pan_73 : decode cX4_pan 73 = .ok (.getfield 19, 3) := by decide +kernel
theorem dX4_pan_76 : decode cX4_pan 76 = .ok (.bipush 31, 2) := by decide +kernel
theorem dX4_pan_78 : decode cX4_pan 78 = .ok (.iload_n 1, 1) := by decide +kernel
theorem dX4_pan_79 : decode cX4_pan 79 = .ok (.iadd, 1) := by decide +kernel
theorem dX4_pan_80 : decode cX4_pan 80 = .ok (.iaload, 1) := by decide +kernel
theorem dX4_pan_81 : decode cX4_pan 81 = .ok (.ireturn, 1) := by decide +kernel
theorem dX4_pan_82 : decode cX4_pan 82 = .ok (.aload_n 0, 1) := by decide +kernel
theorem dX4_pan_83 : decode cX4_pan 83 = .ok (.getfield 19, 3) := by decide +kernel
theorem dX4_pan_86 : decode cX4_pan 86 = .ok (.bipush 36, 2) := by decide +kernel
theorem dX4_pan_88 : decode cX4_pan 88 = .ok (.iload_n 1, 1) := by decide +kernel
theorem dX4_pan_89 : decode cX4_pan 89 = .ok (.iadd, 1) := by decide +kernel
theorem dX4_pan_90 : decode cX4_pan 90 = .ok (.iaload, 1) := by decide +kernel
theorem dX4_pan_91 : decode cX4_pan 91 = .ok (.ireturn, 1) := by decide +kernel
theorem dX4_pan_92 : decode cX4_pan 92 = .ok (.aload_n 0, 1) := by decide +kernel
theorem dX4_pan_93 : decode cX4_pan 93 = .ok (.getfield 19, 3) := by decide +kernel
theorem dX4_pan_96 : decode cX4_pan 96 = .ok (.bipush 41, 2) := by decide +kernel
theorem dX4_pan_98 : decode cX4_pan 98 = .ok (.iload_n 1, 1) := by decide +kernel
theorem dX4_pan_99 : decode cX4_pan 99 = .ok (.iadd, 1) := by decide +kernel
theorem dX4_pan_100 : decode cX4_pan 100 = .ok (.iaload, 1) := by decide +kernel
theorem dX4_pan_101 : decode cX4_pan 101 = .ok (.ireturn, 1) := by decide +kernel
theorem dX4_pan_102 : decode cX4_pan 102 = .ok (.aload_n 0, 1) := by decide +kernel
theorem dX4_pan_103 : decode cX4_pan 103 = .ok (.getfield 19, 3) := by decide +kernel
theorem dX4_pan_106 : decode cX4_pan 106 = .ok (.bipush 46, 2) := by decide +kernel
theorem dX4_pan_108 : decode cX4_pan 108 = .ok (.iload_n 1, 1) := by decide +kernel
theorem dX4_pan_109 : decode cX4_pan 109 = .ok (.iadd, 1) := by decide +kernel
theorem dX4_pan_110 : decode cX4_pan 110 = .ok (.iaload, 1) := by decide +kernel
theorem dX4_pan_111 : decode cX4_pan 111 = .ok (.ireturn, 1) := by decide +kernel
theorem dX4_pan_112 : decode cX4_pan 112 = .ok (.ldc 70, 2) := by decide +kernel
theorem dX4_pan_114 : decode cX4_pan 114 = .ok (.ireturn, 1) := by decide +kernel
theorem dX4_singer_0 : decode cX4_singer 0 = .ok (.aload_n 0, 1) := by decide +kernel
theorem dX4_singer_1 : decode cX4_singer 1 = .ok (.iload_n 1, 1) := by decide +kernel
theorem dX4_singer_2 : decode cX4_singer 2 = .ok (.invokevirtual 174, 3) := by decide +kernel
theorem dX4_singer_5 : decode cX4_singer 5 = .ok (.ifCond .ne 6, 3) := by decide +kernel
theorem dX4_singer_8 : decode cX4_singer 8 = .ok (.ldc 70, 2) := by decide +kernel
theorem dX4_singer_10 : decode cX4_singer 10 = .ok (.ireturn, 1) := by decide +kernel
theorem dX4_singer_11 : decode cX4_singer 11 = .ok (.iload_n 2, 1) := by decide +kernel
theorem dX4_singer_12 : decode cX4_singer 12 = .ok (.tableswitch 71 0 3 #[32, 41, 51, 61], 32) := by decide +kernel
theorem dX4_singer_44 : decode cX4_singer 44 = .ok (.aload_n 0, 1) := by decide +kernel
theorem dX4_singer_45 : decode cX4_singer 45 = .ok (.getfield 19, 3) := by decide +kernel
theorem dX4_singer_48 : decode cX4_singer 48 = .ok (.iconst 4, 1) := by decide +kernel
theorem dX4_singer_49 : decode cX4_singer 49 = .ok (.iload_n 1, 1) := by decide +kernel
theorem dX4_singer_50 : decode cX4_singer 50 = .ok (.iadd, 1) := by decide +kernel
theorem dX4_singer_51 : decode cX4_singer 51 = .ok (.iaload, 1) := by decide +kernel
theorem dX4_singer_52 : decode cX4_singer 52 = .ok (.ireturn, 1) := by decide +kernel
theorem dX4_singer_53 : decode cX4_singer 53 = .ok (.aload_n 0, 1) := by decide +kernel
theorem dX4_singer_54 : decode cX4_singer 54 = .ok (.getfield 19, 3) := by decide +kernel
theorem dX4_singer_57 : decode cX4_singer 57 = .ok (.bipush 7, 2) := by decide +kernel
theorem dX4_singer_59 : decode cX4_singer 59 = .ok (.iload_n 1, 1) := by decide +kernel
theorem dX4_singer_60 : decode cX4_singer 60 = .ok (.iadd, 1) := by decide +kernel
theorem dX4_singer_61 : decode cX4_singer 61 = .ok (.iaload, 1) := by decide +kernel
theorem dX4_singer_62 : decode cX4_singer 62 = .ok (.ireturn, 1) := by decide +kernel
theorem dX4_singer_63 : decode cX4_singer 63 = .ok (.aload_n 0, 1) := by decide +kernel
theorem dX4_singer_64 : decode cX4_singer 64 = .ok (.getfield 19, 3) := by decide +kernel
theorem dX4_singer_67 : decode cX4_singer 67 = .ok (.bipush 10, 2) := by decide +kernel
theorem dX4_singer_69 : decode cX4_singer 69 = .ok (.iload_n 1, 1) := by decide +kernel
theorem dX4_singer_70 : decode cX4_singer 70 = .ok (.iadd, 1) := by decide +kernel
theorem dX4_singer_71 : decode cX4_singer 71 = .ok (.iaload, 1) := by decide +kernel
theorem dX4_singer_72 : decode cX4_singer 72 = .ok (.ireturn, 1) := by decide +kernel
theorem dX4_singer_73 : decode cX4_singer 73 = .ok (.aload_n 0, 1) := by decide +kernel
theorem dX4_singer_74 : decode cX4_singer 74 = .ok (.getfield 19, 3) := by decide +kernel
theorem dX4_singer_77 : decode cX4_singer 77 = .ok (.bipush 13, 2) := by decide +kernel
theorem dX4_singer_79 : decode cX4_singer 79 = .ok (.iload_n 1, 1) := by decide +kernel
theorem dX4_singer_80 : decode cX4_singer 80 = .ok (.iadd, 1) := by decide +kernel
theorem dX4_singer_81 : decode cX4_singer 81 = .ok (.iaload, 1) := by decide +kernel
theorem dX4_singer_82 : decode cX4_singer 82 = .ok (.ireturn, 1) := by decide +kernel
theorem dX4_singer_83 : decode cX4_singer 83 = .ok (.ldc 70, 2) := by decide +kernel
theorem dX4_singer_85 : decode cX4_singer 85 = .ok (.ireturn, 1) := by decide +kernel
theorem dX4_putAside_0 : decode cX4_putAside 0 = .ok (.iconst 0, 1) := by decide +kernel
theorem dX4_putAside_1 : decode cX4_putAside 1 = .ok (.istore_n 1, 1) := by decide +kernel
theorem dX4_putAside_2 : decode cX4_putAside 2 = .ok (.iload_n 1, 1) := by decide +kernel
theorem dX4_putAside_3 : decode cX4_putAside 3 = .ok (.bipush 51, 2) := by decide +kernel
theorem dX4_putAside_5 : decode cX4_putAside 5 = .ok (.if_icmp .ge 21, 3) := by decide +kernel
theorem dX4_putAside_8 : decode cX4_putAside 8 = .ok (.aload_n 0, 1) := by decide +kernel
theorem dX4_putAside_9 : decode cX4_putAside 9 = .ok (.getfield 37, 3) := by decide +kernel
theorem dX4_putAside_12 : decode cX4_putAside 12 = .ok (.iload_n 1, 1) := by decide +kernel
theorem dX4_putAside_13 : decode cX4_putAside 13 = .ok (.aload_n 0, 1) := by decide +kernel
theorem dX4_putAside_14 : decode cX4_putAside 14 = .ok (.getfield 19, 3) := by decide +kernel
theorem dX4_putAside_17 : decode cX4_putAside 17 = .ok (.iload_n 1, 1) := by decide +kernel
theorem dX4_putAside_18 : decode cX4_putAside 18 = .ok (.iaload, 1) := by decide +kernel
theorem dX4_putAside_19 : decode cX4_putAside 19 = .ok (.iastore, 1) := by decide +kernel
theorem dX4_putAside_20 : decode cX4_putAside 20 = .ok (.iinc 1 1, 3) := by decide +kernel
theorem dX4_putAside_23 : decode cX4_putAside 23 = .ok (.goto (-21), 3) := by decide +kernel
theorem dX4_putAside_26 : decode cX4_putAside 26 = .ok (.return_, 1) := by decide +kernel
theorem dX4_takeBack_0 : decode cX4_takeBack 0 = .ok (.iconst 0, 1) := by decide +kernel
theorem dX4_takeBack_1 : decode cX4_takeBack 1 = .ok (.istore_n 1, 1) := by decide +kernel
theorem dX4_takeBack_2 : decode cX4_takeBack 2 = .ok (.iload_n 1, 1) := by decide +kernel
theorem dX4_takeBack_3 : decode cX4_takeBack 3 = .ok (.bipush 51, 2) := by decide +kernel
theorem dX4_takeBack_5 : decode cX4_takeBack 5 = .ok (.if_icmp .ge 21, 3) := by decide +kernel
theorem dX4_takeBack_8 : decode cX4_takeBack 8 = .ok (.aload_n 0, 1) := by decide +kernel
theorem dX4_takeBack_9 : decode cX4_takeBack 9 = .ok (.getfield 19, 3) := by decide +kernel
theorem dX4_takeBack_12 : decode cX4_takeBack 12 = .ok (.iload_n 1, 1) := by decide +kernel
theorem dX4_takeBack_13 : decode cX4_takeBack 13 = .ok (.aload_n 0, 1) := by decide +kernel
theorem dX4_takeBack_14 : decode cX4_takeBack 14 = .ok (.getfield 37, 3) := by decide +kernel
theorem dX4_takeBack_17 : decode cX4_takeBack 17 = .ok (.iload_n 1, 1) := by decide +kernel
theorem dX4_takeBack_18 : decode cX4_takeBack 18 = .ok (.iaload, 1) := by decide +kernel
theorem dX4_takeBack_19 : decode cX4_takeBack 19 = .ok (.iastore, 1) := by decide +kernel
theorem dX4_takeBack_20 : decode cX4_takeBack 20 = .ok (.iinc 1 1, 3) := by decide +kernel
theorem dX4_takeBack_23 : decode cX4_takeBack 23 = .ok (.goto (-21), 3) := by decide +kernel
theorem dX4_takeBack_26 : decode cX4_takeBack 26 = .ok (.return_, 1) := by decide +kernel
theorem dX4_allRest_0 : decode cX4_allRest 0 = .ok (.iconst 0, 1) := by decide +kernel
theorem dX4_allRest_1 : decode cX4_allRest 1 = .ok (.istore_n 1, 1) := by decide +kernel
theorem dX4_allRest_2 : decode cX4_allRest 2 = .ok (.iload_n 1, 1) := by decide +kernel
theorem dX4_allRest_3 : decode cX4_allRest 3 = .ok (.iconst 3, 1) := by decide +kernel
theorem dX4_allRest_4 : decode cX4_allRest 4 = .ok (.if_icmp .ge 17, 3) := by decide +kernel
theorem dX4_allRest_7 : decode cX4_allRest 7 = .ok (.aload_n 0, 1) := by decide +kernel
theorem dX4_allRest_8 : decode cX4_allRest 8 = .ok (.getfield 31, 3) := by decide +kernel
theorem dX4_allRest_11 : decode cX4_allRest 11 = .ok (.iload_n 1, 1) := by decide +kernel
theorem dX4_allRest_12 : decode cX4_allRest 12 = .ok (.bipush 7, 2) := by decide +kernel
theorem dX4_allRest_14 : decode cX4_allRest 14 = .ok (.iastore, 1) := by decide +kernel
theorem dX4_allRest_15 : decode cX4_allRest 15 = .ok (.iinc 1 1, 3) := by decide +kernel
theorem dX4_allRest_18 : decode cX4_allRest 18 = .ok (.goto (-16), 3) := by decide +kernel
theorem dX4_allRest_21 : decode cX4_allRest 21 = .ok (.return_, 1) := by decide +kernel
theorem dX4_lacks_0 : decode cX4_lacks 0 = .ok (.aload_n 0, 1) := by decide +kernel
theorem dX4_lacks_1 : decode cX4_lacks 1 = .ok (.getfield 13, 3) := by decide +kernel
theorem dX4_lacks_4 : decode cX4_lacks 4 = .ok (.iload_n 1, 1) := by decide +kernel
theorem dX4_lacks_5 : decode cX4_lacks 5 = .ok (.iaload, 1) := by decide +kernel
theorem dX4_lacks_6 : decode cX4_lacks 6 = .ok (.ifCond .ge 9, 3) := by decide +kernel
theorem dX4_lacks_9 : decode cX4_lacks 9 = .ok (.aload_n 0, 1) := by decide +kernel
theorem dX4_lacks_10 : decode cX4_lacks 10 = .ok (.iconst 1, 1) := by decide +kernel
theorem dX4_lacks_11 : decode cX4_lacks 11 = .ok (.invokevirtual 71, 3) := by decide +kernel
theorem dX4_lacks_14 : decode cX4_lacks 14 = .ok (.ireturn, 1) := by decide +kernel
theorem dX4_lacks_15 : decode cX4_lacks 15 = .ok (.iload_n 2, 1) := by decide +kernel
theorem dX4_lacks_16 : decode cX4_lacks 16 = .ok (.i2l, 1) := by decide +kernel
theorem dX4_lacks_17 : decode cX4_lacks 17 = .ok (.lconst 0, 1) := by decide +kernel
theorem dX4_lacks_18 : decode cX4_lacks 18 = .ok (.aload_n 0, 1) := by decide +kernel
theorem dX4_lacks_19 : decode cX4_lacks 19 = .ok (.getfield 13, 3) := by decide +kernel
theorem dX4_lacks_22 : decode cX4_lacks 22 = .ok (.iload_n 1, 1) := by decide +kernel
theorem dX4_lacks_23 : decode cX4_lacks 23 = .ok (.iaload, 1) := by decide +kernel
theorem dX4_lacks_24 : decode cX4_lacks 24 = .ok (.iload_n 3, 1) := by decide +kernel
theorem dX4_lacks_25 : decode cX4_lacks 25 = .ok (.isub, 1) := by decide +kernel
theorem dX4_lacks_26 : decode cX4_lacks 26 = .ok (.i2l, 1) := by decide +kernel
theorem dX4_lacks_27 : decode cX4_lacks 27 = .ok (.invokestatic 60, 3) := by decide +kernel
theorem dX4_lacks_30 : decode cX4_lacks 30 = .ok (.ifCond .ne 9, 3) := by decide +kernel
theorem dX4_lacks_33 : decode cX4_lacks 33 = .ok (.aload_n 0, 1) := by decide +kernel
theorem dX4_lacks_34 : decode cX4_lacks 34 = .ok (.iconst 2, 1) := by decide +kernel
theorem dX4_lacks_35 : decode cX4_lacks 35 = .ok (.invokevirtual 71, 3) := by decide +kernel
theorem dX4_lacks_38 : decode cX4_lacks 38 = .ok (.ireturn, 1) := by decide +kernel
theorem dX4_lacks_39 : decode cX4_lacks 39 = .ok (.iconst 1, 1) := by decide +kernel
theorem dX4_lacks_40 : decode cX4_lacks 40 = .ok (.istore 4, 2) := by decide +kernel
theorem dX4_lacks_42 : decode cX4_lacks 42 = .ok (.iconst 0, 1) := by decide +kernel
theorem dX4_lacks_43 : decode cX4_lacks 43 = .ok (.istore 5, 2) := by decide +kernel
theorem dX4_lacks_45 : decode cX4_lacks 45 = .ok (.iload 5, 2) := by decide +kernel
theorem dX4_lacks_47 : decode cX4_lacks 47 = .ok (.iload_n 3, 1) := by decide +kernel
theorem dX4_lacks_48 : decode cX4_lacks 48 = .ok (.if_icmp .ge 46, 3) := by decide +kernel
theorem dX4_lacks_51 : decode cX4_lacks 51 = .ok (.iload 4, 2) := by decide +kernel
theorem dX4_lacks_53 : decode cX4_lacks 53 = .ok (.ifCond .eq 32, 3) := by decide +kernel
theorem dX4_lacks_56 : decode cX4_lacks 56 = .ok (.aload_n 0, 1) := by decide +kernel
theorem dX4_lacks_57 : decode cX4_lacks 57 = .ok (.getfield 16, 3) := by decide +kernel
theorem dX4_lacks_60 : decode cX4_lacks 60 = .ok (.bipush 40, 2) := by decide +kernel
theorem dX4_lacks_62 : decode cX4_lacks 62 = .ok (.iload_n 1, 1) := by decide +kernel
theorem dX4_lacks_63 : decode cX4_lacks 63 = .ok (.imul, 1) := by decide +kernel
theorem dX4_lacks_64 : decode cX4_lacks 64 = .ok (.iload_n 2, 1) := by decide +kernel
theorem dX4_lacks_65 : decode cX4_lacks 65 = .ok (.iadd, 1) := by decide +kernel
theorem dX4_lacks_66 : decode cX4_lacks 66 = .ok (.iload 5, 2) := by decide +kernel
theorem dX4_lacks_68 : decode cX4_lacks 68 = .ok (.iadd, 1) := by decide +kernel
theorem dX4_lacks_69 : decode cX4_lacks 69 = .ok (.iaload, 1) := by decide +kernel
theorem dX4_lacks_70 : decode cX4_lacks 70 = .ok (.i2l, 1) := by decide +kernel
theorem dX4_lacks_71 : decode cX4_lacks 71 = .ok (.lconst 0, 1) := by decide +kernel
theorem dX4_lacks_72 : decode cX4_lacks 72 = .ok (.ldc2_w 58, 3) := by decide +kernel
theorem dX4_lacks_75 : decode cX4_lacks 75 = .ok (.invokestatic 60, 3) := by decide +kernel
theorem dX4_lacks_78 : decode cX4_lacks 78 = .ok (.ifCond .eq 7, 3) := by decide +kernel
theorem dX4_lacks_81 : decode cX4_lacks 81 = .ok (.iconst 1, 1) := by decide +kernel
theorem dX4_lacks_82 : decode cX4_lacks 82 = .ok (.goto 4, 3) := by decide +kernel
theorem dX4_lacks_85 : decode cX4_lacks 85 = .ok (.iconst 0, 1) := by decide +kernel
theorem dX4_lacks_86 : decode cX4_lacks 86 = .ok (.istore 4, 2) := by decide +kernel
theorem dX4_lacks_88 : decode cX4_lacks 88 = .ok (.iinc 5 1, 3) := by decide +kernel
theorem dX4_lacks_91 : decode cX4_lacks 91 = .ok (.goto (-46), 3) := by decide +kernel
theorem dX4_lacks_94 : decode cX4_lacks 94 = .ok (.iload 4, 2) := by decide +kernel
theorem dX4_lacks_96 : decode cX4_lacks 96 = .ok (.ifCond .eq 7, 3) := by decide +kernel
theorem dX4_lacks_99 : decode cX4_lacks 99 = .ok (.iconst 0, 1) := by decide +kernel
theorem dX4_lacks_100 : decode cX4_lacks 100 = .ok (.goto 5, 3) := by decide +kernel
theorem dX4_lacks_103 : decode cX4_lacks 103 = .ok (.ldc 70, 2) := by decide +kernel
theorem dX4_lacks_105 : decode cX4_lacks 105 = .ok (.ireturn, 1) := by decide +kernel
theorem dX4_singAlone_0 : decode cX4_singAlone 0 = .ok (.iconst 0, 1) := by decide +kernel
theorem dX4_singAlone_1 : decode cX4_singAlone 1 = .ok (.istore 5, 2) := by decide +kernel
theorem dX4_singAlone_3 : decode cX4_singAlone 3 = .ok (.iload 5, 2) := by decide +kernel
theorem dX4_singAlone_5 : decode cX4_singAlone 5 = .ok (.iload_n 3, 1) := by decide +kernel
theorem dX4_singAlone_6 : decode cX4_singAlone 6 = .ok (.if_icmp .ge 61, 3) := by decide +kernel
theorem dX4_singAlone_9 : decode cX4_singAlone 9 = .ok (.aload_n 0, 1) := by decide +kernel
theorem dX4_singAlone_10 : decode cX4_singAlone 10 = .ok (.invokevirtual 177, 3) := by decide +kernel
theorem dX4_singAlone_13 : decode cX4_singAlone 13 = .ok (.aload_n 0, 1) := by decide +kernel
theorem dX4_singAlone_14 : decode cX4_singAlone 14 = .ok (.getfield 16, 3) := by decide +kernel
theorem dX4_singAlone_17 : decode cX4_singAlone 17 = .ok (.iload_n 2, 1) := by decide +kernel
theorem dX4_singAlone_18 : decode cX4_singAlone 18 = .ok (.iload 5, 2) := by decide +kernel
theorem dX4_singAlone_20 : decode cX4_singAlone 20 = .ok (.iadd, 1) := by decide +kernel
theorem dX4_singAlone_21 : decode cX4_singAlone 21 = .ok (.iaload, 1) := by decide +kernel
theorem dX4_singAlone_22 : decode cX4_singAlone 22 = .ok (.istore 6, 2) := by decide +kernel
theorem dX4_singAlone_24 : decode cX4_singAlone 24 = .ok (.aload_n 0, 1) := by decide +kernel
theorem dX4_singAlone_25 : decode cX4_singAlone 25 = .ok (.getfield 31, 3) := by decide +kernel
theorem dX4_singAlone_28 : decode cX4_singAlone 28 = .ok (.iload_n 1, 1) := by decide +kernel
theorem dX4_singAlone_29 : decode cX4_singAlone 29 = .ok (.iload 4, 2) := by decide +kernel
theorem dX4_singAlone_31 : decode cX4_singAlone 31 = .ok (.iload 5, 2) := by decide +kernel
theorem dX4_singAlone_33 : decode cX4_singAlone 33 = .ok (.invokestatic 149, 3) := by decide +kernel
theorem dX4_singAlone_36 : decode cX4_singAlone 36 = .ok (.ifCond .ne 13, 3) := by decide +kernel
theorem dX4_singAlone_39 : decode cX4_singAlone 39 = .ok (.aload_n 0, 1) := by decide +kernel
theorem dX4_singAlone_40 : decode cX4_singAlone 40 = .ok (.iload_n 1, 1) := by decide +kernel
theorem dX4_singAlone_41 : decode cX4_singAlone 41 = .ok (.iload 6, 2) := by decide +kernel
theorem dX4_singAlone_43 : decode cX4_singAlone 43 = .ok (.invokevirtual 158, 3) := by decide +kernel
theorem dX4_singAlone_46 : decode cX4_singAlone 46 = .ok (.ifCond .ne 8, 3) := by decide +kernel
theorem dX4_singAlone_49 : decode cX4_singAlone 49 = .ok (.bipush 7, 2) := by decide +kernel
theorem dX4_singAlone_51 : decode cX4_singAlone 51 = .ok (.goto 5, 3) := by decide +kernel
theorem dX4_singAlone_54 : decode cX4_singAlone 54 = .ok (.iload 6, 2) := by decide +kernel
theorem dX4_singAlone_56 : decode cX4_singAlone 56 = .ok (.iastore, 1) := by decide +kernel
theorem dX4_singAlone_57 : decode cX4_singAlone 57 = .ok (.aload_n 0, 1) := by decide +kernel
theorem dX4_singAlone_58 : decode cX4_singAlone 58 = .ok (.invokevirtual 164, 3) := by decide +kernel
theorem dX4_singAlone_61 : decode cX4_singAlone 61 = .ok (.iinc 5 1, 3) := by decide +kernel
theorem dX4_singAlone_64 : decode cX4_singAlone 64 = .ok (.goto (-61), 3) := by decide +kernel
theorem dX4_singAlone_67 : decode cX4_singAlone 67 = .ok (.return_, 1) := by decide +kernel
theorem dX4_singRound_0 : decode cX4_singRound 0 = .ok (.aload_n 0, 1) := by decide +kernel
theorem dX4_singRound_1 : decode cX4_singRound 1 = .ok (.getfield 19, 3) := by decide +kernel
theorem dX4_singRound_4 : decode cX4_singRound 4 = .ok (.iconst 1, 1) := by decide +kernel
theorem dX4_singRound_5 : decode cX4_singRound 5 = .ok (.iaload, 1) := by decide +kernel
theorem dX4_singRound_6 : decode cX4_singRound 6 = .ok (.ifCond .ne 7, 3) := by decide +kernel
theorem dX4_singRound_9 : decode cX4_singRound 9 = .ok (.iconst 0, 1) := by decide +kernel
theorem dX4_singRound_10 : decode cX4_singRound 10 = .ok (.goto 13, 3) := by decide +kernel
theorem dX4_singRound_13 : decode cX4_singRound 13 = .ok (.iload_n 1, 1) := by decide +kernel
theorem dX4_singRound_14 : decode cX4_singRound 14 = .ok (.aload_n 0, 1) := by decide +kernel
theorem dX4_singRound_15 : decode cX4_singRound 15 = .ok (.getfield 19, 3) := by decide +kernel
theorem dX4_singRound_18 : decode cX4_singRound 18 = .ok (.iconst 1, 1) := by decide +kernel
theorem dX4_singRound_19 : decode cX4_singRound 19 = .ok (.iaload, 1) := by decide +kernel
theorem dX4_singRound_20 : decode cX4_singRound 20 = .ok (.iconst 1, 1) := by decide +kernel
theorem dX4_singRound_21 : decode cX4_singRound 21 = .ok (.isub, 1) := by decide +kernel
theorem dX4_singRound_22 : decode cX4_singRound 22 = .ok (.imul, 1) := by decide +kernel
theorem dX4_singRound_23 : decode cX4_singRound 23 = .ok (.istore 4, 2) := by decide +kernel
theorem dX4_singRound_25 : decode cX4_singRound 25 = .ok (.iconst 0, 1) := by decide +kernel
theorem dX4_singRound_26 : decode cX4_singRound 26 = .ok (.istore 5, 2) := by decide +kernel
theorem dX4_singRound_28 : decode cX4_singRound 28 = .ok (.iload 5, 2) := by decide +kernel
theorem dX4_singRound_30 : decode cX4_singRound 30 = .ok (.iload_n 3, 1) := by decide +kernel
theorem dX4_singRound_31 : decode cX4_singRound 31 = .ok (.iload 4, 2) := by decide +kernel
theorem dX4_singRound_33 : decode cX4_singRound 33 = .ok (.iadd, 1) := by decide +kernel
theorem dX4_singRound_34 : decode cX4_singRound 34 = .ok (.if_icmp .ge 101, 3) := by decide +kernel
theorem dX4_singRound_37 : decode cX4_singRound 37 = .ok (.aload_n 0, 1) := by decide +kernel
theorem dX4_singRound_38 : decode cX4_singRound 38 = .ok (.invokevirtual 177, 3) := by decide +kernel
theorem dX4_singRound_41 : decode cX4_singRound 41 = .ok (.iconst 0, 1) := by decide +kernel
theorem dX4_singRound_42 : decode cX4_singRound 42 = .ok (.istore 6, 2) := by decide +kernel
theorem dX4_singRound_44 : decode cX4_singRound 44 = .ok (.iload 6, 2) := by decide +kernel
theorem dX4_singRound_46 : decode cX4_singRound 46 = .ok (.aload_n 0, 1) := by decide +kernel
theorem dX4_singRound_47 : decode cX4_singRound 47 = .ok (.getfield 19, 3) := by decide +kernel
theorem dX4_singRound_50 : decode cX4_singRound 50 = .ok (.iconst 1, 1) := by decide +kernel
theorem dX4_singRound_51 : decode cX4_singRound 51 = .ok (.iaload, 1) := by decide +kernel
theorem dX4_singRound_52 : decode cX4_singRound 52 = .ok (.if_icmp .ge 73, 3) := by decide +kernel
theorem dX4_singRound_55 : decode cX4_singRound 55 = .ok (.iload 5, 2) := by decide +kernel
theorem dX4_singRound_57 : decode cX4_singRound 57 = .ok (.iload 6, 2) := by decide +kernel
theorem dX4_singRound_59 : decode cX4_singRound 59 = .ok (.iload_n 1, 1) := by decide +kernel
theorem dX4_singRound_60 : decode cX4_singRound 60 = .ok (.imul, 1) := by decide +kernel
theorem dX4_singRound_61 : decode cX4_singRound 61 = .ok (.isub, 1) := by decide +kernel
theorem dX4_singRound_62 : decode cX4_singRound 62 = .ok (.istore 7, 2) := by decide +kernel
theorem dX4_singRound_64 : decode cX4_singRound 64 = .ok (.iload 7, 2) := by decide +kernel
theorem dX4_singRound_66 : decode cX4_singRound 66 = .ok (.i2l, 1) := by decide +kernel
theorem dX4_singRound_67 : decode cX4_singRound 67 = .ok (.lconst 0, 1) := by decide +kernel
theorem dX4_singRound_68 : decode cX4_singRound 68 = .ok (.iload_n 3, 1) := by decide +kernel
theorem dX4_singRound_69 : decode cX4_singRound 69 = .ok (.iconst 1, 1) := by decide +kernel
theorem dX4_singRound_70 : decode cX4_singRound 70 = .ok (.isub, 1) := by decide +kernel
theorem dX4_singRound_71 : decode cX4_singRound 71 = .ok (.i2l, 1) := by decide +kernel
theorem dX4_singRound_72 : decode cX4_singRound 72 = .ok (.invokestatic 60, 3) := by decide +kernel
theorem dX4_singRound_75 : decode cX4_singRound 75 = .ok (.ifCond .eq 15, 3) := by decide +kernel
theorem dX4_singRound_78 : decode cX4_singRound 78 = .ok (.aload_n 0, 1) := by decide +kernel
theorem dX4_singRound_79 : decode cX4_singRound 79 = .ok (.getfield 16, 3) := by decide +kernel
theorem dX4_singRound_82 : decode cX4_singRound 82 = .ok (.iload_n 2, 1) := by decide +kernel
theorem dX4_singRound_83 : decode cX4_singRound 83 = .ok (.iload 7, 2) := by decide +kernel
theorem dX4_singRound_85 : decode cX4_singRound 85 = .ok (.iadd, 1) := by decide +kernel
theorem dX4_singRound_86 : decode cX4_singRound 86 = .ok (.iaload, 1) := by decide +kernel
theorem dX4_singRound_87 : decode cX4_singRound 87 = .ok (.goto 5, 3) := by decide +kernel
theorem dX4_singRound_90 : decode cX4_singRound 90 = .ok (.bipush 7, 2) := by decide +kernel
theorem dX4_singRound_92 : decode cX4_singRound 92 = .ok (.istore 8, 2) := by decide +kernel
theorem dX4_singRound_94 : decode cX4_singRound 94 = .ok (.aload_n 0, 1) := by decide +kernel
theorem dX4_singRound_95 : decode cX4_singRound 95 = .ok (.getfield 31, 3) := by decide +kernel
theorem dX4_singRound_98 : decode cX4_singRound 98 = .ok (.iload 6, 2) := by decide +kernel
theorem dX4_singRound_100 : decode cX4_singRound 100 = .ok (.aload_n 0, 1) := by decide +kernel
theorem dX4_singRound_101 : decode cX4_singRound 101 = .ok (.iload 6, 2) := by decide +kernel
theorem dX4_singRound_103 : decode cX4_singRound 103 = .ok (.iload 8, 2) := by decide +kernel
theorem dX4_singRound_105 : decode cX4_singRound 105 = .ok (.invokevirtual 158, 3) := by decide +kernel
theorem dX4_singRound_108 : decode cX4_singRound 108 = .ok (.ifCond .eq 8, 3) := by decide +kernel
theorem dX4_singRound_111 : decode cX4_singRound 111 = .ok (.iload 8, 2) := by decide +kernel
theorem dX4_singRound_113 : decode cX4_singRound 113 = .ok (.goto 5, 3) := by decide +kernel
theorem dX4_singRound_116 : decode cX4_singRound 116 = .ok (.bipush 7, 2) := by decide +kernel
theorem dX4_singRound_118 : decode cX4_singRound 118 = .ok (.iastore, 1) := by decide +kernel
theorem dX4_singRound_119 : decode cX4_singRound 119 = .ok (.iinc 6 1, 3) := by decide +kernel
theorem dX4_singRound_122 : decode cX4_singRound 122 = .ok (.goto (-78), 3) := by decide +kernel
theorem dX4_singRound_125 : decode cX4_singRound 125 = .ok (.aload_n 0, 1) := by decide +kernel
theorem dX4_singRound_126 : decode cX4_singRound 126 = .ok (.invokevirtual 164, 3) := by decide +kernel
theorem dX4_singRound_129 : decode cX4_singRound 129 = .ok (.iinc 5 1, 3) := by decide +kernel
theorem dX4_singRound_132 : decode cX4_singRound 132 = .ok (.goto (-104), 3) := by decide +kernel
theorem dX4_singRound_135 : decode cX4_singRound 135 = .ok (.return_, 1) := by decide +kernel
theorem dX4_alone_0 : decode cX4_alone 0 = .ok (.aload_n 0, 1) := by decide +kernel
theorem dX4_alone_1 : decode cX4_alone 1 = .ok (.iload_n 1, 1) := by decide +kernel
theorem dX4_alone_2 : decode cX4_alone 2 = .ok (.invokevirtual 174, 3) := by decide +kernel
theorem dX4_alone_5 : decode cX4_alone 5 = .ok (.ifCond .eq 23, 3) := by decide +kernel
theorem dX4_alone_8 : decode cX4_alone 8 = .ok (.iload_n 2, 1) := by decide +kernel
theorem dX4_alone_9 : decode cX4_alone 9 = .ok (.invokestatic 64, 3) := by decide +kernel
theorem dX4_alone_12 : decode cX4_alone 12 = .ok (.ifCond .eq 16, 3) := by decide +kernel
theorem dX4_alone_15 : decode cX4_alone 15 = .ok (.iload 4, 2) := by decide +kernel
theorem dX4_alone_17 : decode cX4_alone 17 = .ok (.i2l, 1) := by decide +kernel
theorem dX4_alone_18 : decode cX4_alone 18 = .ok (.lconst 0, 1) := by decide +kernel
theorem dX4_alone_19 : decode cX4_alone 19 = .ok (.ldc2_w 180, 3) := by decide +kernel
theorem dX4_alone_22 : decode cX4_alone 22 = .ok (.invokestatic 60, 3) := by decide +kernel
theorem dX4_alone_25 : decode cX4_alone 25 = .ok (.ifCond .ne 6, 3) := by decide +kernel
theorem dX4_alone_28 : decode cX4_alone 28 = .ok (.ldc 70, 2) := by decide +kernel
theorem dX4_alone_30 : decode cX4_alone 30 = .ok (.ireturn, 1) := by decide +kernel
theorem dX4_alone_31 : decode cX4_alone 31 = .ok (.aload_n 0, 1) := by decide +kernel
theorem dX4_alone_32 : decode cX4_alone 32 = .ok (.iload_n 2, 1) := by decide +kernel
theorem dX4_alone_33 : decode cX4_alone 33 = .ok (.iload_n 3, 1) := by decide +kernel
theorem dX4_alone_34 : decode cX4_alone 34 = .ok (.iload 4, 2) := by decide +kernel
theorem dX4_alone_36 : decode cX4_alone 36 = .ok (.invokevirtual 182, 3) := by decide +kernel
theorem dX4_alone_39 : decode cX4_alone 39 = .ok (.istore 5, 2) := by decide +kernel
theorem dX4_alone_41 : decode cX4_alone 41 = .ok (.iload 5, 2) := by decide +kernel
theorem dX4_alone_43 : decode cX4_alone 43 = .ok (.ifCond .ge 6, 3) := by decide +kernel
theorem dX4_alone_46 : decode cX4_alone 46 = .ok (.iload 5, 2) := by decide +kernel
theorem dX4_alone_48 : decode cX4_alone 48 = .ok (.ireturn, 1) := by decide +kernel
theorem dX4_alone_49 : decode cX4_alone 49 = .ok (.aload_n 0, 1) := by decide +kernel
theorem dX4_alone_50 : decode cX4_alone 50 = .ok (.invokevirtual 186, 3) := by decide +kernel
theorem dX4_alone_53 : decode cX4_alone 53 = .ok (.aload_n 0, 1) := by decide +kernel
theorem dX4_alone_54 : decode cX4_alone 54 = .ok (.iload_n 1, 1) := by decide +kernel
theorem dX4_alone_55 : decode cX4_alone 55 = .ok (.bipush 40, 2) := by decide +kernel
theorem dX4_alone_57 : decode cX4_alone 57 = .ok (.iload_n 2, 1) := by decide +kernel
theorem dX4_alone_58 : decode cX4_alone 58 = .ok (.imul, 1) := by decide +kernel
theorem dX4_alone_59 : decode cX4_alone 59 = .ok (.iload_n 3, 1) := by decide +kernel
theorem dX4_alone_60 : decode cX4_alone 60 = .ok (.iadd, 1) := by decide +kernel
theorem dX4_alone_61 : decode cX4_alone 61 = .ok (.iload 4, 2) := by decide +kernel
theorem dX4_alone_63 : decode cX4_alone 63 = .ok (.iconst 0, 1) := by decide +kernel
theorem dX4_alone_64 : decode cX4_alone 64 = .ok (.invokevirtual 189, 3) := by decide +kernel
theorem dX4_alone_67 : decode cX4_alone 67 = .ok (.aload_n 0, 1) := by decide +kernel
theorem dX4_alone_68 : decode cX4_alone 68 = .ok (.invokevirtual 167, 3) := by decide +kernel
theorem dX4_alone_71 : decode cX4_alone 71 = .ok (.istore 6, 2) := by decide +kernel
theorem dX4_alone_73 : decode cX4_alone 73 = .ok (.aload_n 0, 1) := by decide +kernel
theorem dX4_alone_74 : decode cX4_alone 74 = .ok (.invokevirtual 193, 3) := by decide +kernel
theorem dX4_alone_77 : decode cX4_alone 77 = .ok (.aload_n 0, 1) := by decide +kernel
theorem dX4_alone_78 : decode cX4_alone 78 = .ok (.iload 6, 2) := by decide +kernel
theorem dX4_alone_80 : decode cX4_alone 80 = .ok (.invokevirtual 75, 3) := by decide +kernel
theorem dX4_alone_83 : decode cX4_alone 83 = .ok (.ireturn, 1) := by decide +kernel
theorem dX4_round_0 : decode cX4_round 0 = .ok (.aload_n 0, 1) := by decide +kernel
theorem dX4_round_1 : decode cX4_round 1 = .ok (.getfield 142, 3) := by decide +kernel
theorem dX4_round_4 : decode cX4_round 4 = .ok (.ifCond .ne 6, 3) := by decide +kernel
theorem dX4_round_7 : decode cX4_round 7 = .ok (.ldc 157, 2) := by decide +kernel
theorem dX4_round_9 : decode cX4_round 9 = .ok (.ireturn, 1) := by decide +kernel
theorem dX4_round_10 : decode cX4_round 10 = .ok (.iload_n 1, 1) := by decide +kernel
theorem dX4_round_11 : decode cX4_round 11 = .ok (.i2l, 1) := by decide +kernel
theorem dX4_round_12 : decode cX4_round 12 = .ok (.lconst 0, 1) := by decide +kernel
theorem dX4_round_13 : decode cX4_round 13 = .ok (.ldc2_w 196, 3) := by decide +kernel
theorem dX4_round_16 : decode cX4_round 16 = .ok (.invokestatic 60, 3) := by decide +kernel
theorem dX4_round_19 : decode cX4_round 19 = .ok (.ifCond .eq 23, 3) := by decide +kernel
theorem dX4_round_22 : decode cX4_round 22 = .ok (.iload_n 2, 1) := by decide +kernel
theorem dX4_round_23 : decode cX4_round 23 = .ok (.invokestatic 64, 3) := by decide +kernel
theorem dX4_round_26 : decode cX4_round 26 = .ok (.ifCond .eq 16, 3) := by decide +kernel
theorem dX4_round_29 : decode cX4_round 29 = .ok (.iload 4, 2) := by decide +kernel
theorem dX4_round_31 : decode cX4_round 31 = .ok (.i2l, 1) := by decide +kernel
theorem dX4_round_32 : decode cX4_round 32 = .ok (.lconst 0, 1) := by decide +kernel
theorem dX4_round_33 : decode cX4_round 33 = .ok (.ldc2_w 180, 3) := by decide +kernel
theorem dX4_round_36 : decode cX4_round 36 = .ok (.invokestatic 60, 3) := by decide +kernel
theorem dX4_round_39 : decode cX4_round 39 = .ok (.ifCond .ne 6, 3) := by decide +kernel
theorem dX4_round_42 : decode cX4_round 42 = .ok (.ldc 70, 2) := by decide +kernel
theorem dX4_round_44 : decode cX4_round 44 = .ok (.ireturn, 1) := by decide +kernel
theorem dX4_round_45 : decode cX4_round 45 = .ok (.aload_n 0, 1) := by decide +kernel
theorem dX4_round_46 : decode cX4_round 46 = .ok (.iload_n 2, 1) := by decide +kernel
theorem dX4_round_47 : decode cX4_round 47 = .ok (.iload_n 3, 1) := by decide +kernel
theorem dX4_round_48 : decode cX4_round 48 = .ok (.iload 4, 2) := by decide +kernel
theorem dX4_round_50 : decode cX4_round 50 = .ok (.invokevirtual 182, 3) := by decide +kernel
theorem dX4_round_53 : decode cX4_round 53 = .ok (.istore 5, 2) := by decide +kernel
theorem dX4_round_55 : decode cX4_round 55 = .ok (.iload 5, 2) := by decide +kernel
theorem dX4_round_57 : decode cX4_round 57 = .ok (.ifCond .ge 6, 3) := by decide +kernel
theorem dX4_round_60 : decode cX4_round 60 = .ok (.iload 5, 2) := by decide +kernel
theorem dX4_round_62 : decode cX4_round 62 = .ok (.ireturn, 1) := by decide +kernel
theorem dX4_round_63 : decode cX4_round 63 = .ok (.aload_n 0, 1) := by decide +kernel
theorem dX4_round_64 : decode cX4_round 64 = .ok (.invokevirtual 186, 3) := by decide +kernel
theorem dX4_round_67 : decode cX4_round 67 = .ok (.aload_n 0, 1) := by decide +kernel
theorem dX4_round_68 : decode cX4_round 68 = .ok (.iload_n 1, 1) := by decide +kernel
theorem dX4_round_69 : decode cX4_round 69 = .ok (.bipush 40, 2) := by decide +kernel
theorem dX4_round_71 : decode cX4_round 71 = .ok (.iload_n 2, 1) := by decide +kernel
theorem dX4_round_72 : decode cX4_round 72 = .ok (.imul, 1) := by decide +kernel
theorem dX4_round_73 : decode cX4_round 73 = .ok (.iload_n 3, 1) := by decide +kernel
theorem dX4_round_74 : decode cX4_round 74 = .ok (.iadd, 1) := by decide +kernel
theorem dX4_round_75 : decode cX4_round 75 = .ok (.iload 4, 2) := by decide +kernel
theorem dX4_round_77 : decode cX4_round 77 = .ok (.invokevirtual 198, 3) := by decide +kernel
theorem dX4_round_80 : decode cX4_round 80 = .ok (.aload_n 0, 1) := by decide +kernel
theorem dX4_round_81 : decode cX4_round 81 = .ok (.invokevirtual 167, 3) := by decide +kernel
theorem dX4_round_84 : decode cX4_round 84 = .ok (.istore 6, 2) := by decide +kernel
theorem dX4_round_86 : decode cX4_round 86 = .ok (.aload_n 0, 1) := by decide +kernel
theorem dX4_round_87 : decode cX4_round 87 = .ok (.invokevirtual 193, 3) := by decide +kernel
theorem dX4_round_90 : decode cX4_round 90 = .ok (.aload_n 0, 1) := by decide +kernel
theorem dX4_round_91 : decode cX4_round 91 = .ok (.iload 6, 2) := by decide +kernel
theorem dX4_round_93 : decode cX4_round 93 = .ok (.invokevirtual 75, 3) := by decide +kernel
theorem dX4_round_96 : decode cX4_round 96 = .ok (.ireturn, 1) := by decide +kernel
theorem dX4_bestRound_0 : decode cX4_bestRound 0 = .ok (.aload_n 0, 1) := by decide +kernel
theorem dX4_bestRound_1 : decode cX4_bestRound 1 = .ok (.getfield 142, 3) := by decide +kernel
theorem dX4_bestRound_4 : decode cX4_bestRound 4 = .ok (.ifCond .ne 6, 3) := by decide +kernel
theorem dX4_bestRound_7 : decode cX4_bestRound 7 = .ok (.ldc 157, 2) := by decide +kernel
theorem dX4_bestRound_9 : decode cX4_bestRound 9 = .ok (.ireturn, 1) := by decide +kernel
theorem dX4_bestRound_10 : decode cX4_bestRound 10 = .ok (.iload_n 1, 1) := by decide +kernel
theorem dX4_bestRound_11 : decode cX4_bestRound 11 = .ok (.invokestatic 64, 3) := by decide +kernel
theorem dX4_bestRound_14 : decode cX4_bestRound 14 = .ok (.ifCond .eq 26, 3) := by decide +kernel
theorem dX4_bestRound_17 : decode cX4_bestRound 17 = .ok (.iload_n 3, 1) := by decide +kernel
theorem dX4_bestRound_18 : decode cX4_bestRound 18 = .ok (.i2l, 1) := by decide +kernel
theorem dX4_bestRound_19 : decode cX4_bestRound 19 = .ok (.lconst 0, 1) := by decide +kernel
theorem dX4_bestRound_20 : decode cX4_bestRound 20 = .ok (.ldc2_w 180, 3) := by decide +kernel
theorem dX4_bestRound_23 : decode cX4_bestRound 23 = .ok (.invokestatic 60, 3) := by decide +kernel
theorem dX4_bestRound_26 : decode cX4_bestRound 26 = .ok (.ifCond .eq 14, 3) := by decide +kernel
theorem dX4_bestRound_29 : decode cX4_bestRound 29 = .ok (.iload 4, 2) := by decide +kernel
theorem dX4_bestRound_31 : decode cX4_bestRound 31 = .ok (.i2l, 1) := by decide +kernel
theorem dX4_bestRound_32 : decode cX4_bestRound 32 = .ok (.lconst 0, 1) := by decide +kernel
theorem dX4_bestRound_33 : decode cX4_bestRound 33 = .ok (.lconst 1, 1) := by decide +kernel
theorem dX4_bestRound_34 : decode cX4_bestRound 34 = .ok (.invokestatic 60, 3) := by decide +kernel
theorem dX4_bestRound_37 : decode cX4_bestRound 37 = .ok (.ifCond .ne 6, 3) := by decide +kernel
theorem dX4_bestRound_40 : decode cX4_bestRound 40 = .ok (.ldc 70, 2) := by decide +kernel
theorem dX4_bestRound_42 : decode cX4_bestRound 42 = .ok (.ireturn, 1) := by decide +kernel
theorem dX4_bestRound_43 : decode cX4_bestRound 43 = .ok (.aload_n 0, 1) := by decide +kernel
theorem dX4_bestRound_44 : decode cX4_bestRound 44 = .ok (.iload_n 1, 1) := by decide +kernel
theorem dX4_bestRound_45 : decode cX4_bestRound 45 = .ok (.iload_n 2, 1) := by decide +kernel
theorem dX4_bestRound_46 : decode cX4_bestRound 46 = .ok (.iload_n 3, 1) := by decide +kernel
theorem dX4_bestRound_47 : decode cX4_bestRound 47 = .ok (.invokevirtual 182, 3) := by decide +kernel
theorem dX4_bestRound_50 : decode cX4_bestRound 50 = .ok (.istore 5, 2) := by decide +kernel
theorem dX4_bestRound_52 : decode cX4_bestRound 52 = .ok (.iload 5, 2) := by decide +kernel
theorem dX4_bestRound_54 : decode cX4_bestRound 54 = .ok (.ifCond .ge 6, 3) := by decide +kernel
theorem dX4_bestRound_57 : decode cX4_bestRound 57 = .ok (.iload 5, 2) := by decide +kernel
theorem dX4_bestRound_59 : decode cX4_bestRound 59 = .ok (.ireturn, 1) := by decide +kernel
theorem dX4_bestRound_60 : decode cX4_bestRound 60 = .ok (.aload_n 0, 1) := by decide +kernel
theorem dX4_bestRound_61 : decode cX4_bestRound 61 = .ok (.invokevirtual 186, 3) := by decide +kernel
theorem dX4_bestRound_64 : decode cX4_bestRound 64 = .ok (.iconst 0, 1) := by decide +kernel
theorem dX4_bestRound_65 : decode cX4_bestRound 65 = .ok (.istore 6, 2) := by decide +kernel
theorem dX4_bestRound_67 : decode cX4_bestRound 67 = .ok (.iconst (-1), 1) := by decide +kernel
theorem dX4_bestRound_68 : decode cX4_bestRound 68 = .ok (.istore 7, 2) := by decide +kernel
theorem dX4_bestRound_70 : decode cX4_bestRound 70 = .ok (.iconst 0, 1) := by decide +kernel
theorem dX4_bestRound_71 : decode cX4_bestRound 71 = .ok (.istore 8, 2) := by decide +kernel
theorem dX4_bestRound_73 : decode cX4_bestRound 73 = .ok (.iload 8, 2) := by decide +kernel
theorem dX4_bestRound_75 : decode cX4_bestRound 75 = .ok (.bipush 8, 2) := by decide +kernel
theorem dX4_bestRound_77 : decode cX4_bestRound 77 = .ok (.if_icmp .gt 67, 3) := by decide +kernel
theorem dX4_bestRound_80 : decode cX4_bestRound 80 = .ok (.aload_n 0, 1) := by decide +kernel
theorem dX4_bestRound_81 : decode cX4_bestRound 81 = .ok (.iload 8, 2) := by decide +kernel
theorem dX4_bestRound_83 : decode cX4_bestRound 83 = .ok (.bipush 40, 2) := by decide +kernel
theorem dX4_bestRound_85 : decode cX4_bestRound 85 = .ok (.iload_n 1, 1) := by decide +kernel
theorem dX4_bestRound_86 : decode cX4_bestRound 86 = .ok (.imul, 1) := by decide +kernel
theorem dX4_bestRound_87 : decode cX4_bestRound 87 = .ok (.iload_n 2, 1) := by decide +kernel
theorem dX4_bestRound_88 : decode cX4_bestRound 88 = .ok (.iadd, 1) := by decide +kernel
theorem dX4_bestRound_89 : decode cX4_bestRound 89 = .ok (.iload_n 3, 1) := by decide +kernel
theorem dX4_bestRound_90 : decode cX4_bestRound 90 = .ok (.invokevirtual 198, 3) := by decide +kernel
theorem dX4_bestRound_93 : decode cX4_bestRound 93 = .ok (.aload_n 0, 1) := by decide +kernel
theorem dX4_bestRound_94 : decode cX4_bestRound 94 = .ok (.invokevirtual 167, 3) := by decide +kernel
theorem dX4_bestRound_97 : decode cX4_bestRound 97 = .ok (.invokestatic 202, 3) := by decide +kernel
theorem dX4_bestRound_100 : decode cX4_bestRound 100 = .ok (.istore 9, 2) := by decide +kernel
theorem dX4_bestRound_102 : decode cX4_bestRound 102 = .ok (.iload 9, 2) := by decide +kernel
theorem dX4_bestRound_104 : decode cX4_bestRound 104 = .ok (.iload 7, 2) := by decide +kernel
theorem dX4_bestRound_106 : decode cX4_bestRound 106 = .ok (.if_icmp .le 8, 3) := by decide +kernel
theorem dX4_bestRound_109 : decode cX4_bestRound 109 = .ok (.iload 8, 2) := by decide +kernel
theorem dX4_bestRound_111 : decode cX4_bestRound 111 = .ok (.goto 5, 3) := by decide +kernel
theorem dX4_bestRound_114 : decode cX4_bestRound 114 = .ok (.iload 6, 2) := by decide +kernel
theorem dX4_bestRound_116 : decode cX4_bestRound 116 = .ok (.istore 6, 2) := by decide +kernel
theorem dX4_bestRound_118 : decode cX4_bestRound 118 = .ok (.iload 9, 2) := by decide +kernel
theorem dX4_bestRound_120 : decode cX4_bestRound 120 = .ok (.iload 7, 2) := by decide +kernel
theorem dX4_bestRound_122 : decode cX4_bestRound 122 = .ok (.if_icmp .le 8, 3) := by decide +kernel
theorem dX4_bestRound_125 : decode cX4_bestRound 125 = .ok (.iload 9, 2) := by decide +kernel
theorem dX4_bestRound_127 : decode cX4_bestRound 127 = .ok (.goto 5, 3) := by decide +kernel
theorem dX4_bestRound_130 : decode cX4_bestRound 130 = .ok (.iload 7, 2) := by decide +kernel
theorem dX4_bestRound_132 : decode cX4_bestRound 132 = .ok (.istore 7, 2) := by decide +kernel
theorem dX4_bestRound_134 : decode cX4_bestRound 134 = .ok (.aload_n 0, 1) := by decide +kernel
theorem dX4_bestRound_135 : decode cX4_bestRound 135 = .ok (.invokevirtual 193, 3) := by decide +kernel
theorem dX4_bestRound_138 : decode cX4_bestRound 138 = .ok (.iinc 8 1, 3) := by decide +kernel
theorem dX4_bestRound_141 : decode cX4_bestRound 141 = .ok (.goto (-68), 3) := by decide +kernel
theorem dX4_bestRound_144 : decode cX4_bestRound 144 = .ok (.aload_n 0, 1) := by decide +kernel
theorem dX4_bestRound_145 : decode cX4_bestRound 145 = .ok (.iload 4, 2) := by decide +kernel
theorem dX4_bestRound_147 : decode cX4_bestRound 147 = .ok (.ifCond .ne 8, 3) := by decide +kernel
theorem dX4_bestRound_150 : decode cX4_bestRound 150 = .ok (.iload 6, 2) := by decide +kernel
theorem dX4_bestRound_152 : decode cX4_bestRound 152 = .ok (.goto 5, 3) := by decide +kernel
theorem dX4_bestRound_155 : decode cX4_bestRound 155 = .ok (.iload 7, 2) := by decide +kernel
theorem dX4_bestRound_157 : decode cX4_bestRound 157 = .ok (.invokevirtual 75, 3) := by decide +kernel
theorem dX4_bestRound_160 : decode cX4_bestRound 160 = .ok (.ireturn, 1) := by decide +kernel
theorem dX4_singsRow_0 : decode cX4_singsRow 0 = .ok (.aload_n 0, 1) := by decide +kernel
theorem dX4_singsRow_1 : decode cX4_singsRow 1 = .ok (.iconst 0, 1) := by decide +kernel
theorem dX4_singsRow_2 : decode cX4_singsRow 2 = .ok (.putfield 205, 3) := by decide +kernel
theorem dX4_singsRow_5 : decode cX4_singsRow 5 = .ok (.iconst 1, 1) := by decide +kernel
theorem dX4_singsRow_6 : decode cX4_singsRow 6 = .ok (.istore_n 3, 1) := by decide +kernel
theorem dX4_singsRow_7 : decode cX4_singsRow 7 = .ok (.iconst 0, 1) := by decide +kernel
theorem dX4_singsRow_8 : decode cX4_singsRow 8 = .ok (.istore 4, 2) := by decide +kernel
theorem dX4_singsRow_10 : decode cX4_singsRow 10 = .ok (.iload 4, 2) := by decide +kernel
theorem dX4_singsRow_12 : decode cX4_singsRow 12 = .ok (.iload_n 2, 1) := by decide +kernel
theorem dX4_singsRow_13 : decode cX4_singsRow 13 = .ok (.if_icmp .ge 73, 3) := by decide +kernel
theorem dX4_singsRow_16 : decode cX4_singsRow 16 = .ok (.iload_n 3, 1) := by decide +kernel
theorem dX4_singsRow_17 : decode cX4_singsRow 17 = .ok (.ifCond .eq 69, 3) := by decide +kernel
theorem dX4_singsRow_20 : decode cX4_singsRow 20 = .ok (.aload_n 0, 1) := by decide +kernel
theorem dX4_singsRow_21 : decode cX4_singsRow 21 = .ok (.iload_n 1, 1) := by decide +kernel
theorem dX4_singsRow_22 : decode cX4_singsRow 22 = .ok (.aload_n 0, 1) := by decide +kernel
theorem dX4_singsRow_23 : decode cX4_singsRow 23 = .ok (.getfield 40, 3) := by decide +kernel
theorem dX4_singsRow_26 : decode cX4_singsRow 26 = .ok (.iload 4, 2) := by decide +kernel
theorem dX4_singsRow_28 : decode cX4_singsRow 28 = .ok (.iaload, 1) := by decide +kernel
theorem dX4_singsRow_29 : decode cX4_singsRow 29 = .ok (.invokevirtual 158, 3) := by decide +kernel
theorem dX4_singsRow_32 : decode cX4_singsRow 32 = .ok (.istore_n 3, 1) := by decide +kernel
theorem dX4_singsRow_33 : decode cX4_singsRow 33 = .ok (.aload_n 0, 1) := by decide +kernel
theorem dX4_singsRow_34 : decode cX4_singsRow 34 = .ok (.invokevirtual 177, 3) := by decide +kernel
theorem dX4_singsRow_37 : decode cX4_singsRow 37 = .ok (.aload_n 0, 1) := by decide +kernel
theorem dX4_singsRow_38 : decode cX4_singsRow 38 = .ok (.getfield 31, 3) := by decide +kernel
theorem dX4_singsRow_41 : decode cX4_singsRow 41 = .ok (.iload_n 1, 1) := by decide +kernel
theorem dX4_singsRow_42 : decode cX4_singsRow 42 = .ok (.aload_n 0, 1) := by decide +kernel
theorem dX4_singsRow_43 : decode cX4_singsRow 43 = .ok (.getfield 40, 3) := by decide +kernel
theorem dX4_singsRow_46 : decode cX4_singsRow 46 = .ok (.iload 4, 2) := by decide +kernel
theorem dX4_singsRow_48 : decode cX4_singsRow 48 = .ok (.iaload, 1) := by decide +kernel
theorem dX4_singsRow_49 : decode cX4_singsRow 49 = .ok (.iastore, 1) := by decide +kernel
theorem dX4_singsRow_50 : decode cX4_singsRow 50 = .ok (.aload_n 0, 1) := by decide +kernel
theorem dX4_singsRow_51 : decode cX4_singsRow 51 = .ok (.dup, 1) := by decide +kernel
theorem dX4_singsRow_52 : decode cX4_singsRow 52 = .ok (.getfield 205, 3) := by decide +kernel
theorem dX4_singsRow_55 : decode cX4_singsRow 55 = .ok (.aload_n 0, 1) := by decide +kernel
theorem dX4_singsRow_56 : decode cX4_singsRow 56 = .ok (.getfield 40, 3) := by decide +kernel
theorem dX4_singsRow_59 : decode cX4_singsRow 59 = .ok (.iload 4, 2) := by decide +kernel
theorem dX4_singsRow_61 : decode cX4_singsRow 61 = .ok (.iaload, 1) := by decide +kernel
theorem dX4_singsRow_62 : decode cX4_singsRow 62 = .ok (.bipush 7, 2) := by decide +kernel
theorem dX4_singsRow_64 : decode cX4_singsRow 64 = .ok (.if_icmp .ge 7, 3) := by decide +kernel
theorem dX4_singsRow_67 : decode cX4_singsRow 67 = .ok (.iconst 1, 1) := by decide +kernel
theorem dX4_singsRow_68 : decode cX4_singsRow 68 = .ok (.goto 4, 3) := by decide +kernel
theorem dX4_singsRow_71 : decode cX4_singsRow 71 = .ok (.iconst 0, 1) := by decide +kernel
theorem dX4_singsRow_72 : decode cX4_singsRow 72 = .ok (.iadd, 1) := by decide +kernel
theorem dX4_singsRow_73 : decode cX4_singsRow 73 = .ok (.putfield 205, 3) := by decide +kernel
theorem dX4_singsRow_76 : decode cX4_singsRow 76 = .ok (.aload_n 0, 1) := by decide +kernel
theorem dX4_singsRow_77 : decode cX4_singsRow 77 = .ok (.invokevirtual 164, 3) := by decide +kernel
theorem dX4_singsRow_80 : decode cX4_singsRow 80 = .ok (.iinc 4 1, 3) := by decide +kernel
theorem dX4_singsRow_83 : decode cX4_singsRow 83 = .ok (.goto (-73), 3) := by decide +kernel
theorem dX4_singsRow_86 : decode cX4_singsRow 86 = .ok (.iload_n 3, 1) := by decide +kernel
theorem dX4_singsRow_87 : decode cX4_singsRow 87 = .ok (.ireturn, 1) := by decide +kernel
theorem dX4_song_0 : decode cX4_song 0 = .ok (.aload_n 0, 1) := by decide +kernel
theorem dX4_song_1 : decode cX4_song 1 = .ok (.iload_n 1, 1) := by decide +kernel
theorem dX4_song_2 : decode cX4_song 2 = .ok (.invokevirtual 174, 3) := by decide +kernel
theorem dX4_song_5 : decode cX4_song 5 = .ok (.ifCond .eq 30, 3) := by decide +kernel
theorem dX4_song_8 : decode cX4_song 8 = .ok (.iload_n 2, 1) := by decide +kernel
theorem dX4_song_9 : decode cX4_song 9 = .ok (.i2l, 1) := by decide +kernel
theorem dX4_song_10 : decode cX4_song 10 = .ok (.lconst 0, 1) := by decide +kernel
theorem dX4_song_11 : decode cX4_song 11 = .ok (.ldc2_w 208, 3) := by decide +kernel
theorem dX4_song_14 : decode cX4_song 14 = .ok (.invokestatic 60, 3) := by decide +kernel
theorem dX4_song_17 : decode cX4_song 17 = .ok (.ifCond .eq 18, 3) := by decide +kernel
theorem dX4_song_20 : decode cX4_song 20 = .ok (.iload_n 3, 1) := by decide +kernel
theorem dX4_song_21 : decode cX4_song 21 = .ok (.i2l, 1) := by decide +kernel
theorem dX4_song_22 : decode cX4_song 22 = .ok (.ldc2_w 210, 3) := by decide +kernel
theorem dX4_song_25 : decode cX4_song 25 = .ok (.iload_n 2, 1) := by decide +kernel
theorem dX4_song_26 : decode cX4_song 26 = .ok (.iconst 1, 1) := by decide +kernel
theorem dX4_song_27 : decode cX4_song 27 = .ok (.isub, 1) := by decide +kernel
theorem dX4_song_28 : decode cX4_song 28 = .ok (.i2l, 1) := by decide +kernel
theorem dX4_song_29 : decode cX4_song 29 = .ok (.invokestatic 60, 3) := by decide +kernel
theorem dX4_song_32 : decode cX4_song 32 = .ok (.ifCond .ne 6, 3) := by decide +kernel
theorem dX4_song_35 : decode cX4_song 35 = .ok (.ldc 70, 2) := by decide +kernel
theorem dX4_song_37 : decode cX4_song 37 = .ok (.ireturn, 1) := by decide +kernel
theorem dX4_song_38 : decode cX4_song 38 = .ok (.aload_n 0, 1) := by decide +kernel
theorem dX4_song_39 : decode cX4_song 39 = .ok (.invokevirtual 186, 3) := by decide +kernel
theorem dX4_song_42 : decode cX4_song 42 = .ok (.iconst (-1), 1) := by decide +kernel
theorem dX4_song_43 : decode cX4_song 43 = .ok (.istore 4, 2) := by decide +kernel
theorem dX4_song_45 : decode cX4_song 45 = .ok (.iconst 0, 1) := by decide +kernel
theorem dX4_song_46 : decode cX4_song 46 = .ok (.istore 5, 2) := by decide +kernel
theorem dX4_song_48 : decode cX4_song 48 = .ok (.iconst 0, 1) := by decide +kernel
theorem dX4_song_49 : decode cX4_song 49 = .ok (.istore 6, 2) := by decide +kernel
theorem dX4_song_51 : decode cX4_song 51 = .ok (.iconst 0, 1) := by decide +kernel
theorem dX4_song_52 : decode cX4_song 52 = .ok (.istore 7, 2) := by decide +kernel
theorem dX4_song_54 : decode cX4_song 54 = .ok (.iload 7, 2) := by decide +kernel
theorem dX4_song_56 : decode cX4_song 56 = .ok (.iconst 1, 1) := by decide +kernel
theorem dX4_song_57 : decode cX4_song 57 = .ok (.iconst 3, 1) := by decide +kernel
theorem dX4_song_58 : decode cX4_song 58 = .ok (.iload_n 2, 1) := by decide +kernel
theorem dX4_song_59 : decode cX4_song 59 = .ok (.imul, 1) := by decide +kernel
theorem dX4_song_60 : decode cX4_song 60 = .ok (.ishl, 1) := by decide +kernel
theorem dX4_song_61 : decode cX4_song 61 = .ok (.if_icmp .ge 108, 3) := by decide +kernel
theorem dX4_song_64 : decode cX4_song 64 = .ok (.iconst 0, 1) := by decide +kernel
theorem dX4_song_65 : decode cX4_song 65 = .ok (.istore 8, 2) := by decide +kernel
theorem dX4_song_67 : decode cX4_song 67 = .ok (.iload 8, 2) := by decide +kernel
theorem dX4_song_69 : decode cX4_song 69 = .ok (.iload_n 2, 1) := by decide +kernel
theorem dX4_song_70 : decode cX4_song 70 = .ok (.if_icmp .ge 30, 3) := by decide +kernel
theorem dX4_song_73 : decode cX4_song 73 = .ok (.aload_n 0, 1) := by decide +kernel
theorem dX4_song_74 : decode cX4_song 74 = .ok (.getfield 40, 3) := by decide +kernel
theorem dX4_song_77 : decode cX4_song 77 = .ok (.iload 8, 2) := by decide +kernel
theorem dX4_song_79 : decode cX4_song 79 = .ok (.iload 7, 2) := by decide +kernel
theorem dX4_song_81 : decode cX4_song 81 = .ok (.iconst 3, 1) := by decide +kernel
theorem dX4_song_82 : decode cX4_song 82 = .ok (.iload_n 2, 1) := by decide +kernel
theorem dX4_song_83 : decode cX4_song 83 = .ok (.iconst 1, 1) := by decide +kernel
theorem dX4_song_84 : decode cX4_song 84 = .ok (.isub, 1) := by decide +kernel
theorem dX4_song_85 : decode cX4_song 85 = .ok (.iload 8, 2) := by decide +kernel
theorem dX4_song_87 : decode cX4_song 87 = .ok (.isub, 1) := by decide +kernel
theorem dX4_song_88 : decode cX4_song 88 = .ok (.imul, 1) := by decide +kernel
theorem dX4_song_89 : decode cX4_song 89 = .ok (.ishr, 1) := by decide +kernel
theorem dX4_song_90 : decode cX4_song 90 = .ok (.bipush 7, 2) := by decide +kernel
theorem dX4_song_92 : decode cX4_song 92 = .ok (.iand, 1) := by decide +kernel
theorem dX4_song_93 : decode cX4_song 93 = .ok (.iastore, 1) := by decide +kernel
theorem dX4_song_94 : decode cX4_song 94 = .ok (.iinc 8 1, 3) := by decide +kernel
theorem dX4_song_97 : decode cX4_song 97 = .ok (.goto (-30), 3) := by decide +kernel
theorem dX4_song_100 : decode cX4_song 100 = .ok (.aload_n 0, 1) := by decide +kernel
theorem dX4_song_101 : decode cX4_song 101 = .ok (.iload_n 1, 1) := by decide +kernel
theorem dX4_song_102 : decode cX4_song 102 = .ok (.iload_n 2, 1) := by decide +kernel
theorem dX4_song_103 : decode cX4_song 103 = .ok (.invokevirtual 212, 3) := by decide +kernel
theorem dX4_song_106 : decode cX4_song 106 = .ok (.istore 8, 2) := by decide +kernel
theorem dX4_song_108 : decode cX4_song 108 = .ok (.aload_n 0, 1) := by decide +kernel
theorem dX4_song_109 : decode cX4_song 109 = .ok (.invokevirtual 167, 3) := by decide +kernel
theorem dX4_song_112 : decode cX4_song 112 = .ok (.invokestatic 202, 3) := by decide +kernel
theorem dX4_song_115 : decode cX4_song 115 = .ok (.istore 9, 2) := by decide +kernel
theorem dX4_song_117 : decode cX4_song 117 = .ok (.iload 8, 2) := by decide +kernel
theorem dX4_song_119 : decode cX4_song 119 = .ok (.ifCond .eq 40, 3) := by decide +kernel
theorem dX4_song_122 : decode cX4_song 122 = .ok (.iload 9, 2) := by decide +kernel
theorem dX4_song_124 : decode cX4_song 124 = .ok (.iload 4, 2) := by decide +kernel
theorem dX4_song_126 : decode cX4_song 126 = .ok (.if_icmp .gt 19, 3) := by decide +kernel
theorem dX4_song_129 : decode cX4_song 129 = .ok (.iload 9, 2) := by decide +kernel
theorem dX4_song_131 : decode cX4_song 131 = .ok (.iload 4, 2) := by decide +kernel
theorem dX4_song_133 : decode cX4_song 133 = .ok (.if_icmp .ne 26, 3) := by decide +kernel
theorem dX4_song_136 : decode cX4_song 136 = .ok (.aload_n 0, 1) := by decide +kernel
theorem dX4_song_137 : decode cX4_song 137 = .ok (.getfield 205, 3) := by decide +kernel
theorem dX4_song_140 : decode cX4_song 140 = .ok (.iload 5, 2) := by decide +kernel
theorem dX4_song_142 : decode cX4_song 142 = .ok (.if_icmp .ge 17, 3) := by decide +kernel
theorem dX4_song_145 : decode cX4_song 145 = .ok (.iload 9, 2) := by decide +kernel
theorem dX4_song_147 : decode cX4_song 147 = .ok (.istore 4, 2) := by decide +kernel
theorem dX4_song_149 : decode cX4_song 149 = .ok (.aload_n 0, 1) := by decide +kernel
theorem dX4_song_150 : decode cX4_song 150 = .ok (.getfield 205, 3) := by decide +kernel
theorem dX4_song_153 : decode cX4_song 153 = .ok (.istore 5, 2) := by decide +kernel
theorem dX4_song_155 : decode cX4_song 155 = .ok (.iload 7, 2) := by decide +kernel
theorem dX4_song_157 : decode cX4_song 157 = .ok (.istore 6, 2) := by decide +kernel
theorem dX4_song_159 : decode cX4_song 159 = .ok (.aload_n 0, 1) := by decide +kernel
theorem dX4_song_160 : decode cX4_song 160 = .ok (.invokevirtual 193, 3) := by decide +kernel
theorem dX4_song_163 : decode cX4_song 163 = .ok (.iinc 7 1, 3) := by decide +kernel
theorem dX4_song_166 : decode cX4_song 166 = .ok (.goto (-112), 3) := by decide +kernel
theorem dX4_song_169 : decode cX4_song 169 = .ok (.iload_n 3, 1) := by decide +kernel
theorem dX4_song_170 : decode cX4_song 170 = .ok (.ifCond .ge 8, 3) := by decide +kernel
theorem dX4_song_173 : decode cX4_song 173 = .ok (.iload 4, 2) := by decide +kernel
theorem dX4_song_175 : decode cX4_song 175 = .ok (.goto 16, 3) := by decide +kernel
theorem dX4_song_178 : decode cX4_song 178 = .ok (.iload 6, 2) := by decide +kernel
theorem dX4_song_180 : decode cX4_song 180 = .ok (.iconst 3, 1) := by decide +kernel
theorem dX4_song_181 : decode cX4_song 181 = .ok (.iload_n 2, 1) := by decide +kernel
theorem dX4_song_182 : decode cX4_song 182 = .ok (.iconst 1, 1) := by decide +kernel
theorem dX4_song_183 : decode cX4_song 183 = .ok (.isub, 1) := by decide +kernel
theorem dX4_song_184 : decode cX4_song 184 = .ok (.iload_n 3, 1) := by decide +kernel
theorem dX4_song_185 : decode cX4_song 185 = .ok (.isub, 1) := by decide +kernel
theorem dX4_song_186 : decode cX4_song 186 = .ok (.imul, 1) := by decide +kernel
theorem dX4_song_187 : decode cX4_song 187 = .ok (.ishr, 1) := by decide +kernel
theorem dX4_song_188 : decode cX4_song 188 = .ok (.bipush 7, 2) := by decide +kernel
theorem dX4_song_190 : decode cX4_song 190 = .ok (.iand, 1) := by decide +kernel
theorem dX4_song_191 : decode cX4_song 191 = .ok (.ireturn, 1) := by decide +kernel
theorem dX4_toShut_0 : decode cX4_toShut 0 = .ok (.aload_n 0, 1) := by decide +kernel
theorem dX4_toShut_1 : decode cX4_toShut 1 = .ok (.iload_n 1, 1) := by decide +kernel
theorem dX4_toShut_2 : decode cX4_toShut 2 = .ok (.invokevirtual 171, 3) := by decide +kernel
theorem dX4_toShut_5 : decode cX4_toShut 5 = .ok (.ifCond .eq 46, 3) := by decide +kernel
theorem dX4_toShut_8 : decode cX4_toShut 8 = .ok (.iload_n 2, 1) := by decide +kernel
theorem dX4_toShut_9 : decode cX4_toShut 9 = .ok (.i2l, 1) := by decide +kernel
theorem dX4_toShut_10 : decode cX4_toShut 10 = .ok (.lconst 0, 1) := by decide +kernel
theorem dX4_toShut_11 : decode cX4_toShut 11 = .ok (.ldc2_w 196, 3) := by decide +kernel
theorem dX4_toShut_14 : decode cX4_toShut 14 = .ok (.invokestatic 60, 3) := by decide +kernel
theorem dX4_toShut_17 : decode cX4_toShut 17 = .ok (.ifCond .eq 34, 3) := by decide +kernel
theorem dX4_toShut_20 : decode cX4_toShut 20 = .ok (.iload_n 3, 1) := by decide +kernel
theorem dX4_toShut_21 : decode cX4_toShut 21 = .ok (.invokestatic 64, 3) := by decide +kernel
theorem dX4_toShut_24 : decode cX4_toShut 24 = .ok (.ifCond .eq 27, 3) := by decide +kernel
theorem dX4_toShut_27 : decode cX4_toShut 27 = .ok (.iload 5, 2) := by decide +kernel
theorem dX4_toShut_29 : decode cX4_toShut 29 = .ok (.i2l, 1) := by decide +kernel
theorem dX4_toShut_30 : decode cX4_toShut 30 = .ok (.lconst 0, 1) := by decide +kernel
theorem dX4_toShut_31 : decode cX4_toShut 31 = .ok (.ldc2_w 180, 3) := by decide +kernel
theorem dX4_toShut_34 : decode cX4_toShut 34 = .ok (.invokestatic 60, 3) := by decide +kernel
theorem dX4_toShut_37 : decode cX4_toShut 37 = .ok (.ifCond .eq 14, 3) := by decide +kernel
theorem dX4_toShut_40 : decode cX4_toShut 40 = .ok (.iload 6, 2) := by decide +kernel
theorem dX4_toShut_42 : decode cX4_toShut 42 = .ok (.i2l, 1) := by decide +kernel
theorem dX4_toShut_43 : decode cX4_toShut 43 = .ok (.lconst 0, 1) := by decide +kernel
theorem dX4_toShut_44 : decode cX4_toShut 44 = .ok (.lconst 1, 1) := by decide +kernel
theorem dX4_toShut_45 : decode cX4_toShut 45 = .ok (.invokestatic 60, 3) := by decide +kernel
theorem dX4_toShut_48 : decode cX4_toShut 48 = .ok (.ifCond .ne 6, 3) := by decide +kernel
theorem dX4_toShut_51 : decode cX4_toShut 51 = .ok (.ldc 70, 2) := by decide +kernel
theorem dX4_toShut_53 : decode cX4_toShut 53 = .ok (.ireturn, 1) := by decide +kernel
theorem dX4_toShut_54 : decode cX4_toShut 54 = .ok (.aload_n 0, 1) := by decide +kernel
theorem dX4_toShut_55 : decode cX4_toShut 55 = .ok (.iload_n 3, 1) := by decide +kernel
theorem dX4_toShut_56 : decode cX4_toShut 56 = .ok (.iload 4, 2) := by decide +kernel
theorem dX4_toShut_58 : decode cX4_toShut 58 = .ok (.iload 5, 2) := by decide +kernel
theorem dX4_toShut_60 : decode cX4_toShut 60 = .ok (.invokevirtual 182, 3) := by decide +kernel
theorem dX4_toShut_63 : decode cX4_toShut 63 = .ok (.istore 7, 2) := by decide +kernel
theorem dX4_toShut_65 : decode cX4_toShut 65 = .ok (.iload 7, 2) := by decide +kernel
theorem dX4_toShut_67 : decode cX4_toShut 67 = .ok (.ifCond .ge 6, 3) := by decide +kernel
theorem dX4_toShut_70 : decode cX4_toShut 70 = .ok (.iload 7, 2) := by decide +kernel
theorem dX4_toShut_72 : decode cX4_toShut 72 = .ok (.ireturn, 1) := by decide +kernel
theorem dX4_toShut_73 : decode cX4_toShut 73 = .ok (.aload_n 0, 1) := by decide +kernel
theorem dX4_toShut_74 : decode cX4_toShut 74 = .ok (.invokevirtual 186, 3) := by decide +kernel
theorem dX4_toShut_77 : decode cX4_toShut 77 = .ok (.aload_n 0, 1) := by decide +kernel
theorem dX4_toShut_78 : decode cX4_toShut 78 = .ok (.getfield 19, 3) := by decide +kernel
theorem dX4_toShut_81 : decode cX4_toShut 81 = .ok (.bipush 31, 2) := by decide +kernel
theorem dX4_toShut_83 : decode cX4_toShut 83 = .ok (.iload_n 1, 1) := by decide +kernel
theorem dX4_toShut_84 : decode cX4_toShut 84 = .ok (.iadd, 1) := by decide +kernel
theorem dX4_toShut_85 : decode cX4_toShut 85 = .ok (.iaload, 1) := by decide +kernel
theorem dX4_toShut_86 : decode cX4_toShut 86 = .ok (.istore 8, 2) := by decide +kernel
theorem dX4_toShut_88 : decode cX4_toShut 88 = .ok (.iconst (-1), 1) := by decide +kernel
theorem dX4_toShut_89 : decode cX4_toShut 89 = .ok (.istore 9, 2) := by decide +kernel
theorem dX4_toShut_91 : decode cX4_toShut 91 = .ok (.iconst 0, 1) := by decide +kernel
theorem dX4_toShut_92 : decode cX4_toShut 92 = .ok (.istore 10, 2) := by decide +kernel
theorem dX4_toShut_94 : decode cX4_toShut 94 = .ok (.iload 10, 2) := by decide +kernel
theorem dX4_toShut_96 : decode cX4_toShut 96 = .ok (.bipush 8, 2) := by decide +kernel
theorem dX4_toShut_98 : decode cX4_toShut 98 = .ok (.if_icmp .ge 93, 3) := by decide +kernel
theorem dX4_toShut_101 : decode cX4_toShut 101 = .ok (.iload 10, 2) := by decide +kernel
theorem dX4_toShut_103 : decode cX4_toShut 103 = .ok (.iload 8, 2) := by decide +kernel
theorem dX4_toShut_105 : decode cX4_toShut 105 = .ok (.iconst (-1), 1) := by decide +kernel
theorem dX4_toShut_106 : decode cX4_toShut 106 = .ok (.ixor, 1) := by decide +kernel
theorem dX4_toShut_107 : decode cX4_toShut 107 = .ok (.iand, 1) := by decide +kernel
theorem dX4_toShut_108 : decode cX4_toShut 108 = .ok (.ifCond .ne 77, 3) := by decide +kernel
theorem dX4_toShut_111 : decode cX4_toShut 111 = .ok (.iload 9, 2) := by decide +kernel
theorem dX4_toShut_113 : decode cX4_toShut 113 = .ok (.ifCond .lt 16, 3) := by decide +kernel
theorem dX4_toShut_116 : decode cX4_toShut 116 = .ok (.iload 10, 2) := by decide +kernel
theorem dX4_toShut_118 : decode cX4_toShut 118 = .ok (.invokestatic 202, 3) := by decide +kernel
theorem dX4_toShut_121 : decode cX4_toShut 121 = .ok (.iload 9, 2) := by decide +kernel
theorem dX4_toShut_123 : decode cX4_toShut 123 = .ok (.invokestatic 202, 3) := by decide +kernel
theorem dX4_toShut_126 : decode cX4_toShut 126 = .ok (.if_icmp .ge 59, 3) := by decide +kernel
theorem dX4_toShut_129 : decode cX4_toShut 129 = .ok (.aload_n 0, 1) := by decide +kernel
theorem dX4_toShut_130 : decode cX4_toShut 130 = .ok (.getfield 19, 3) := by decide +kernel
theorem dX4_toShut_133 : decode cX4_toShut 133 = .ok (.bipush 31, 2) := by decide +kernel
theorem dX4_toShut_135 : decode cX4_toShut 135 = .ok (.iload_n 1, 1) := by decide +kernel
theorem dX4_toShut_136 : decode cX4_toShut 136 = .ok (.iadd, 1) := by decide +kernel
theorem dX4_toShut_137 : decode cX4_toShut 137 = .ok (.iload 8, 2) := by decide +kernel
theorem dX4_toShut_139 : decode cX4_toShut 139 = .ok (.iload 10, 2) := by decide +kernel
theorem dX4_toShut_141 : decode cX4_toShut 141 = .ok (.iconst (-1), 1) := by decide +kernel
theorem dX4_toShut_142 : decode cX4_toShut 142 = .ok (.ixor, 1) := by decide +kernel
theorem dX4_toShut_143 : decode cX4_toShut 143 = .ok (.iand, 1) := by decide +kernel
theorem dX4_toShut_144 : decode cX4_toShut 144 = .ok (.iastore, 1) := by decide +kernel
theorem dX4_toShut_145 : decode cX4_toShut 145 = .ok (.aload_n 0, 1) := by decide +kernel
theorem dX4_toShut_146 : decode cX4_toShut 146 = .ok (.iload_n 2, 1) := by decide +kernel
theorem dX4_toShut_147 : decode cX4_toShut 147 = .ok (.bipush 40, 2) := by decide +kernel
theorem dX4_toShut_149 : decode cX4_toShut 149 = .ok (.iload_n 3, 1) := by decide +kernel
theorem dX4_toShut_150 : decode cX4_toShut 150 = .ok (.imul, 1) := by decide +kernel
theorem dX4_toShut_151 : decode cX4_toShut 151 = .ok (.iload 4, 2) := by decide +kernel
theorem dX4_toShut_153 : decode cX4_toShut 153 = .ok (.iadd, 1) := by decide +kernel
theorem dX4_toShut_154 : decode cX4_toShut 154 = .ok (.iload 5, 2) := by decide +kernel
theorem dX4_toShut_156 : decode cX4_toShut 156 = .ok (.invokevirtual 198, 3) := by decide +kernel
theorem dX4_toShut_159 : decode cX4_toShut 159 = .ok (.aload_n 0, 1) := by decide +kernel
theorem dX4_toShut_160 : decode cX4_toShut 160 = .ok (.getfield 19, 3) := by decide +kernel
theorem dX4_toShut_163 : decode cX4_toShut 163 = .ok (.bipush 41, 2) := by decide +kernel
theorem dX4_toShut_165 : decode cX4_toShut 165 = .ok (.iload_n 1, 1) := by decide +kernel
theorem dX4_toShut_166 : decode cX4_toShut 166 = .ok (.iadd, 1) := by decide +kernel
theorem dX4_toShut_167 : decode cX4_toShut 167 = .ok (.iaload, 1) := by decide +kernel
theorem dX4_toShut_168 : decode cX4_toShut 168 = .ok (.iconst 1, 1) := by decide +kernel
theorem dX4_toShut_169 : decode cX4_toShut 169 = .ok (.if_icmp .ne 8, 3) := by decide +kernel
theorem dX4_toShut_172 : decode cX4_toShut 172 = .ok (.iload 10, 2) := by decide +kernel
theorem dX4_toShut_174 : decode cX4_toShut 174 = .ok (.goto 5, 3) := by decide +kernel
theorem dX4_toShut_177 : decode cX4_toShut 177 = .ok (.iload 9, 2) := by decide +kernel
theorem dX4_toShut_179 : decode cX4_toShut 179 = .ok (.istore 9, 2) := by decide +kernel
theorem dX4_toShut_181 : decode cX4_toShut 181 = .ok (.aload_n 0, 1) := by decide +kernel
theorem dX4_toShut_182 : decode cX4_toShut 182 = .ok (.invokevirtual 193, 3) := by decide +kernel
theorem dX4_toShut_185 : decode cX4_toShut 185 = .ok (.iinc 10 1, 3) := by decide +kernel
theorem dX4_toShut_188 : decode cX4_toShut 188 = .ok (.goto (-94), 3) := by decide +kernel
theorem dX4_toShut_191 : decode cX4_toShut 191 = .ok (.aload_n 0, 1) := by decide +kernel
theorem dX4_toShut_192 : decode cX4_toShut 192 = .ok (.iload 9, 2) := by decide +kernel
theorem dX4_toShut_194 : decode cX4_toShut 194 = .ok (.ifCond .ge 8, 3) := by decide +kernel
theorem dX4_toShut_197 : decode cX4_toShut 197 = .ok (.ldc 127, 2) := by decide +kernel
theorem dX4_toShut_199 : decode cX4_toShut 199 = .ok (.goto 18, 3) := by decide +kernel
theorem dX4_toShut_202 : decode cX4_toShut 202 = .ok (.iload 6, 2) := by decide +kernel
theorem dX4_toShut_204 : decode cX4_toShut 204 = .ok (.ifCond .ne 11, 3) := by decide +kernel
theorem dX4_toShut_207 : decode cX4_toShut 207 = .ok (.iload 9, 2) := by decide +kernel
theorem dX4_toShut_209 : decode cX4_toShut 209 = .ok (.invokestatic 202, 3) := by decide +kernel
theorem dX4_toShut_212 : decode cX4_toShut 212 = .ok (.goto 5, 3) := by decide +kernel
theorem dX4_toShut_215 : decode cX4_toShut 215 = .ok (.iload 9, 2) := by decide +kernel
theorem dX4_toShut_217 : decode cX4_toShut 217 = .ok (.invokevirtual 75, 3) := by decide +kernel
theorem dX4_toShut_220 : decode cX4_toShut 220 = .ok (.ireturn, 1) := by decide +kernel
theorem dX4_modes_0 : decode cX4_modes 0 = .ok (.aload_n 0, 1) := by decide +kernel
theorem dX4_modes_1 : decode cX4_modes 1 = .ok (.iload_n 1, 1) := by decide +kernel
theorem dX4_modes_2 : decode cX4_modes 2 = .ok (.invokevirtual 171, 3) := by decide +kernel
theorem dX4_modes_5 : decode cX4_modes 5 = .ok (.ifCond .eq 55, 3) := by decide +kernel
theorem dX4_modes_8 : decode cX4_modes 8 = .ok (.aload_n 0, 1) := by decide +kernel
theorem dX4_modes_9 : decode cX4_modes 9 = .ok (.iload_n 2, 1) := by decide +kernel
theorem dX4_modes_10 : decode cX4_modes 10 = .ok (.invokevirtual 174, 3) := by decide +kernel
theorem dX4_modes_13 : decode cX4_modes 13 = .ok (.ifCond .eq 47, 3) := by decide +kernel
theorem dX4_modes_16 : decode cX4_modes 16 = .ok (.iload_n 3, 1) := by decide +kernel
theorem dX4_modes_17 : decode cX4_modes 17 = .ok (.invokestatic 64, 3) := by decide +kernel
theorem dX4_modes_20 : decode cX4_modes 20 = .ok (.ifCond .eq 40, 3) := by decide +kernel
theorem dX4_modes_23 : decode cX4_modes 23 = .ok (.iload 5, 2) := by decide +kernel
theorem dX4_modes_25 : decode cX4_modes 25 = .ok (.i2l, 1) := by decide +kernel
theorem dX4_modes_26 : decode cX4_modes 26 = .ok (.lconst 0, 1) := by decide +kernel
theorem dX4_modes_27 : decode cX4_modes 27 = .ok (.ldc2_w 180, 3) := by decide +kernel
theorem dX4_modes_30 : decode cX4_modes 30 = .ok (.invokestatic 60, 3) := by decide +kernel
theorem dX4_modes_33 : decode cX4_modes 33 = .ok (.ifCond .eq 27, 3) := by decide +kernel
theorem dX4_modes_36 : decode cX4_modes 36 = .ok (.iload 6, 2) := by decide +kernel
theorem dX4_modes_38 : decode cX4_modes 38 = .ok (.i2l, 1) := by decide +kernel
theorem dX4_modes_39 : decode cX4_modes 39 = .ok (.lconst 0, 1) := by decide +kernel
theorem dX4_modes_40 : decode cX4_modes 40 = .ok (.ldc2_w 215, 3) := by decide +kernel
theorem dX4_modes_43 : decode cX4_modes 43 = .ok (.invokestatic 60, 3) := by decide +kernel
theorem dX4_modes_46 : decode cX4_modes 46 = .ok (.ifCond .eq 14, 3) := by decide +kernel
theorem dX4_modes_49 : decode cX4_modes 49 = .ok (.iload 7, 2) := by decide +kernel
theorem dX4_modes_51 : decode cX4_modes 51 = .ok (.i2l, 1) := by decide +kernel
theorem dX4_modes_52 : decode cX4_modes 52 = .ok (.lconst 0, 1) := by decide +kernel
theorem dX4_modes_53 : decode cX4_modes 53 = .ok (.lconst 1, 1) := by decide +kernel
theorem dX4_modes_54 : decode cX4_modes 54 = .ok (.invokestatic 60, 3) := by decide +kernel
theorem dX4_modes_57 : decode cX4_modes 57 = .ok (.ifCond .ne 6, 3) := by decide +kernel
theorem dX4_modes_60 : decode cX4_modes 60 = .ok (.ldc 70, 2) := by decide +kernel
theorem dX4_modes_62 : decode cX4_modes 62 = .ok (.ireturn, 1) := by decide +kernel
theorem dX4_modes_63 : decode cX4_modes 63 = .ok (.aload_n 0, 1) := by decide +kernel
theorem dX4_modes_64 : decode cX4_modes 64 = .ok (.iload_n 3, 1) := by decide +kernel
theorem dX4_modes_65 : decode cX4_modes 65 = .ok (.iload 4, 2) := by decide +kernel
theorem dX4_modes_67 : decode cX4_modes 67 = .ok (.iload 5, 2) := by decide +kernel
theorem dX4_modes_69 : decode cX4_modes 69 = .ok (.invokevirtual 182, 3) := by decide +kernel
theorem dX4_modes_72 : decode cX4_modes 72 = .ok (.istore 8, 2) := by decide +kernel
theorem dX4_modes_74 : decode cX4_modes 74 = .ok (.iload 8, 2) := by decide +kernel
theorem dX4_modes_76 : decode cX4_modes 76 = .ok (.ifCond .ge 6, 3) := by decide +kernel
theorem dX4_modes_79 : decode cX4_modes 79 = .ok (.iload 8, 2) := by decide +kernel
theorem dX4_modes_81 : decode cX4_modes 81 = .ok (.ireturn, 1) := by decide +kernel
theorem dX4_modes_82 : decode cX4_modes 82 = .ok (.aload_n 0, 1) := by decide +kernel
theorem dX4_modes_83 : decode cX4_modes 83 = .ok (.invokevirtual 186, 3) := by decide +kernel
theorem dX4_modes_86 : decode cX4_modes 86 = .ok (.iconst 0, 1) := by decide +kernel
theorem dX4_modes_87 : decode cX4_modes 87 = .ok (.istore 9, 2) := by decide +kernel
theorem dX4_modes_89 : decode cX4_modes 89 = .ok (.ldc 127, 2) := by decide +kernel
theorem dX4_modes_91 : decode cX4_modes 91 = .ok (.istore 10, 2) := by decide +kernel
theorem dX4_modes_93 : decode cX4_modes 93 = .ok (.bipush 127, 2) := by decide +kernel
theorem dX4_modes_95 : decode cX4_modes 95 = .ok (.istore 11, 2) := by decide +kernel
theorem dX4_modes_97 : decode cX4_modes 97 = .ok (.iload 11, 2) := by decide +kernel
theorem dX4_modes_99 : decode cX4_modes 99 = .ok (.ifCond .lt 89, 3) := by decide +kernel
theorem dX4_modes_102 : decode cX4_modes 102 = .ok (.aload_n 0, 1) := by decide +kernel
theorem dX4_modes_103 : decode cX4_modes 103 = .ok (.getfield 19, 3) := by decide +kernel
theorem dX4_modes_106 : decode cX4_modes 106 = .ok (.bipush 21, 2) := by decide +kernel
theorem dX4_modes_108 : decode cX4_modes 108 = .ok (.iload_n 1, 1) := by decide +kernel
theorem dX4_modes_109 : decode cX4_modes 109 = .ok (.iadd, 1) := by decide +kernel
theorem dX4_modes_110 : decode cX4_modes 110 = .ok (.iload 11, 2) := by decide +kernel
theorem dX4_modes_112 : decode cX4_modes 112 = .ok (.iastore, 1) := by decide +kernel
theorem dX4_modes_113 : decode cX4_modes 113 = .ok (.aload_n 0, 1) := by decide +kernel
theorem dX4_modes_114 : decode cX4_modes 114 = .ok (.iload_n 2, 1) := by decide +kernel
theorem dX4_modes_115 : decode cX4_modes 115 = .ok (.bipush 40, 2) := by decide +kernel
theorem dX4_modes_117 : decode cX4_modes 117 = .ok (.iload_n 3, 1) := by decide +kernel
theorem dX4_modes_118 : decode cX4_modes 118 = .ok (.imul, 1) := by decide +kernel
theorem dX4_modes_119 : decode cX4_modes 119 = .ok (.iload 4, 2) := by decide +kernel
theorem dX4_modes_121 : decode cX4_modes 121 = .ok (.iadd, 1) := by decide +kernel
theorem dX4_modes_122 : decode cX4_modes 122 = .ok (.iload 5, 2) := by decide +kernel
theorem dX4_modes_124 : decode cX4_modes 124 = .ok (.iconst 0, 1) := by decide +kernel
theorem dX4_modes_125 : decode cX4_modes 125 = .ok (.invokevirtual 189, 3) := by decide +kernel
theorem dX4_modes_128 : decode cX4_modes 128 = .ok (.aload_n 0, 1) := by decide +kernel
theorem dX4_modes_129 : decode cX4_modes 129 = .ok (.getfield 19, 3) := by decide +kernel
theorem dX4_modes_132 : decode cX4_modes 132 = .ok (.bipush 36, 2) := by decide +kernel
theorem dX4_modes_134 : decode cX4_modes 134 = .ok (.iload_n 1, 1) := by decide +kernel
theorem dX4_modes_135 : decode cX4_modes 135 = .ok (.iadd, 1) := by decide +kernel
theorem dX4_modes_136 : decode cX4_modes 136 = .ok (.iaload, 1) := by decide +kernel
theorem dX4_modes_137 : decode cX4_modes 137 = .ok (.iload 6, 2) := by decide +kernel
theorem dX4_modes_139 : decode cX4_modes 139 = .ok (.if_icmp .ne 7, 3) := by decide +kernel
theorem dX4_modes_142 : decode cX4_modes 142 = .ok (.iconst 1, 1) := by decide +kernel
theorem dX4_modes_143 : decode cX4_modes 143 = .ok (.goto 4, 3) := by decide +kernel
theorem dX4_modes_146 : decode cX4_modes 146 = .ok (.iconst 0, 1) := by decide +kernel
theorem dX4_modes_147 : decode cX4_modes 147 = .ok (.istore 12, 2) := by decide +kernel
theorem dX4_modes_149 : decode cX4_modes 149 = .ok (.iload 9, 2) := by decide +kernel
theorem dX4_modes_151 : decode cX4_modes 151 = .ok (.iload 12, 2) := by decide +kernel
theorem dX4_modes_153 : decode cX4_modes 153 = .ok (.ifCond .eq 7, 3) := by decide +kernel
theorem dX4_modes_156 : decode cX4_modes 156 = .ok (.iconst 1, 1) := by decide +kernel
theorem dX4_modes_157 : decode cX4_modes 157 = .ok (.goto 4, 3) := by decide +kernel
theorem dX4_modes_160 : decode cX4_modes 160 = .ok (.iconst 0, 1) := by decide +kernel
theorem dX4_modes_161 : decode cX4_modes 161 = .ok (.iadd, 1) := by decide +kernel
theorem dX4_modes_162 : decode cX4_modes 162 = .ok (.istore 9, 2) := by decide +kernel
theorem dX4_modes_164 : decode cX4_modes 164 = .ok (.iload 12, 2) := by decide +kernel
theorem dX4_modes_166 : decode cX4_modes 166 = .ok (.ifCond .eq 8, 3) := by decide +kernel
theorem dX4_modes_169 : decode cX4_modes 169 = .ok (.iload 11, 2) := by decide +kernel
theorem dX4_modes_171 : decode cX4_modes 171 = .ok (.goto 5, 3) := by decide +kernel
theorem dX4_modes_174 : decode cX4_modes 174 = .ok (.iload 10, 2) := by decide +kernel
theorem dX4_modes_176 : decode cX4_modes 176 = .ok (.istore 10, 2) := by decide +kernel
theorem dX4_modes_178 : decode cX4_modes 178 = .ok (.aload_n 0, 1) := by decide +kernel
theorem dX4_modes_179 : decode cX4_modes 179 = .ok (.invokevirtual 193, 3) := by decide +kernel
theorem dX4_modes_182 : decode cX4_modes 182 = .ok (.iinc 11 (-1), 3) := by decide +kernel
theorem dX4_modes_185 : decode cX4_modes 185 = .ok (.goto (-88), 3) := by decide +kernel
theorem dX4_modes_188 : decode cX4_modes 188 = .ok (.aload_n 0, 1) := by decide +kernel
theorem dX4_modes_189 : decode cX4_modes 189 = .ok (.iload 7, 2) := by decide +kernel
theorem dX4_modes_191 : decode cX4_modes 191 = .ok (.ifCond .ne 8, 3) := by decide +kernel
theorem dX4_modes_194 : decode cX4_modes 194 = .ok (.iload 9, 2) := by decide +kernel
theorem dX4_modes_196 : decode cX4_modes 196 = .ok (.goto 5, 3) := by decide +kernel
theorem dX4_modes_199 : decode cX4_modes 199 = .ok (.iload 10, 2) := by decide +kernel
theorem dX4_modes_201 : decode cX4_modes 201 = .ok (.invokevirtual 75, 3) := by decide +kernel
theorem dX4_modes_204 : decode cX4_modes 204 = .ok (.ireturn, 1) := by decide +kernel
theorem dX4_coughs_0 : decode cX4_coughs 0 = .ok (.aload_n 0, 1) := by decide +kernel
theorem dX4_coughs_1 : decode cX4_coughs 1 = .ok (.iload_n 1, 1) := by decide +kernel
theorem dX4_coughs_2 : decode cX4_coughs 2 = .ok (.invokevirtual 171, 3) := by decide +kernel
theorem dX4_coughs_5 : decode cX4_coughs 5 = .ok (.ifCond .eq 55, 3) := by decide +kernel
theorem dX4_coughs_8 : decode cX4_coughs 8 = .ok (.aload_n 0, 1) := by decide +kernel
theorem dX4_coughs_9 : decode cX4_coughs 9 = .ok (.iload_n 2, 1) := by decide +kernel
theorem dX4_coughs_10 : decode cX4_coughs 10 = .ok (.invokevirtual 174, 3) := by decide +kernel
theorem dX4_coughs_13 : decode cX4_coughs 13 = .ok (.ifCond .eq 47, 3) := by decide +kernel
theorem dX4_coughs_16 : decode cX4_coughs 16 = .ok (.iload_n 3, 1) := by decide +kernel
theorem dX4_coughs_17 : decode cX4_coughs 17 = .ok (.invokestatic 64, 3) := by decide +kernel
theorem dX4_coughs_20 : decode cX4_coughs 20 = .ok (.ifCond .eq 40, 3) := by decide +kernel
theorem dX4_coughs_23 : decode cX4_coughs 23 = .ok (.iload 5, 2) := by decide +kernel
theorem dX4_coughs_25 : decode cX4_coughs 25 = .ok (.i2l, 1) := by decide +kernel
theorem dX4_coughs_26 : decode cX4_coughs 26 = .ok (.lconst 0, 1) := by decide +kernel
theorem dX4_coughs_27 : decode cX4_coughs 27 = .ok (.ldc2_w 196, 3) := by decide +kernel
theorem dX4_coughs_30 : decode cX4_coughs 30 = .ok (.invokestatic 60, 3) := by decide +kernel
theorem dX4_coughs_33 : decode cX4_coughs 33 = .ok (.ifCond .eq 27, 3) := by decide +kernel
theorem dX4_coughs_36 : decode cX4_coughs 36 = .ok (.iload 6, 2) := by decide +kernel
theorem dX4_coughs_38 : decode cX4_coughs 38 = .ok (.i2l, 1) := by decide +kernel
theorem dX4_coughs_39 : decode cX4_coughs 39 = .ok (.lconst 0, 1) := by decide +kernel
theorem dX4_coughs_40 : decode cX4_coughs 40 = .ok (.ldc2_w 217, 3) := by decide +kernel
theorem dX4_coughs_43 : decode cX4_coughs 43 = .ok (.invokestatic 60, 3) := by decide +kernel
theorem dX4_coughs_46 : decode cX4_coughs 46 = .ok (.ifCond .eq 14, 3) := by decide +kernel
theorem dX4_coughs_49 : decode cX4_coughs 49 = .ok (.iload 7, 2) := by decide +kernel
theorem dX4_coughs_51 : decode cX4_coughs 51 = .ok (.i2l, 1) := by decide +kernel
theorem dX4_coughs_52 : decode cX4_coughs 52 = .ok (.lconst 0, 1) := by decide +kernel
theorem dX4_coughs_53 : decode cX4_coughs 53 = .ok (.lconst 1, 1) := by decide +kernel
theorem dX4_coughs_54 : decode cX4_coughs 54 = .ok (.invokestatic 60, 3) := by decide +kernel
theorem dX4_coughs_57 : decode cX4_coughs 57 = .ok (.ifCond .ne 6, 3) := by decide +kernel
theorem dX4_coughs_60 : decode cX4_coughs 60 = .ok (.ldc 70, 2) := by decide +kernel
theorem dX4_coughs_62 : decode cX4_coughs 62 = .ok (.ireturn, 1) := by decide +kernel
theorem dX4_coughs_63 : decode cX4_coughs 63 = .ok (.aload_n 0, 1) := by decide +kernel
theorem dX4_coughs_64 : decode cX4_coughs 64 = .ok (.iload_n 3, 1) := by decide +kernel
theorem dX4_coughs_65 : decode cX4_coughs 65 = .ok (.iload 4, 2) := by decide +kernel
theorem dX4_coughs_67 : decode cX4_coughs 67 = .ok (.iload 5, 2) := by decide +kernel
theorem dX4_coughs_69 : decode cX4_coughs 69 = .ok (.invokevirtual 182, 3) := by decide +kernel
theorem dX4_coughs_72 : decode cX4_coughs 72 = .ok (.istore 8, 2) := by decide +kernel
theorem dX4_coughs_74 : decode cX4_coughs 74 = .ok (.iload 8, 2) := by decide +kernel
theorem dX4_coughs_76 : decode cX4_coughs 76 = .ok (.ifCond .ge 6, 3) := by decide +kernel
theorem dX4_coughs_79 : decode cX4_coughs 79 = .ok (.iload 8, 2) := by decide +kernel
theorem dX4_coughs_81 : decode cX4_coughs 81 = .ok (.ireturn, 1) := by decide +kernel
theorem dX4_coughs_82 : decode cX4_coughs 82 = .ok (.aload_n 0, 1) := by decide +kernel
theorem dX4_coughs_83 : decode cX4_coughs 83 = .ok (.invokevirtual 186, 3) := by decide +kernel
theorem dX4_coughs_86 : decode cX4_coughs 86 = .ok (.iconst 0, 1) := by decide +kernel
theorem dX4_coughs_87 : decode cX4_coughs 87 = .ok (.istore 9, 2) := by decide +kernel
theorem dX4_coughs_89 : decode cX4_coughs 89 = .ok (.iconst 1, 1) := by decide +kernel
theorem dX4_coughs_90 : decode cX4_coughs 90 = .ok (.istore 10, 2) := by decide +kernel
theorem dX4_coughs_92 : decode cX4_coughs 92 = .ok (.iconst 0, 1) := by decide +kernel
theorem dX4_coughs_93 : decode cX4_coughs 93 = .ok (.istore 11, 2) := by decide +kernel
theorem dX4_coughs_95 : decode cX4_coughs 95 = .ok (.iload 11, 2) := by decide +kernel
theorem dX4_coughs_97 : decode cX4_coughs 97 = .ok (.iload 5, 2) := by decide +kernel
theorem dX4_coughs_99 : decode cX4_coughs 99 = .ok (.if_icmp .ge 16, 3) := by decide +kernel
theorem dX4_coughs_102 : decode cX4_coughs 102 = .ok (.iload 10, 2) := by decide +kernel
theorem dX4_coughs_104 : decode cX4_coughs 104 = .ok (.bipush 10, 2) := by decide +kernel
theorem dX4_coughs_106 : decode cX4_coughs 106 = .ok (.imul, 1) := by decide +kernel
theorem dX4_coughs_107 : decode cX4_coughs 107 = .ok (.istore 10, 2) := by decide +kernel
theorem dX4_coughs_109 : decode cX4_coughs 109 = .ok (.iinc 11 1, 3) := by decide +kernel
theorem dX4_coughs_112 : decode cX4_coughs 112 = .ok (.goto (-17), 3) := by decide +kernel
theorem dX4_coughs_115 : decode cX4_coughs 115 = .ok (.iconst 0, 1) := by decide +kernel
theorem dX4_coughs_116 : decode cX4_coughs 116 = .ok (.istore 11, 2) := by decide +kernel
theorem dX4_coughs_118 : decode cX4_coughs 118 = .ok (.iload 11, 2) := by decide +kernel
theorem dX4_coughs_120 : decode cX4_coughs 120 = .ok (.iconst 1, 1) := by decide +kernel
theorem dX4_coughs_121 : decode cX4_coughs 121 = .ok (.iload 5, 2) := by decide +kernel
theorem dX4_coughs_123 : decode cX4_coughs 123 = .ok (.ishl, 1) := by decide +kernel
theorem dX4_coughs_124 : decode cX4_coughs 124 = .ok (.if_icmp .ge 97, 3) := by decide +kernel
theorem dX4_coughs_127 : decode cX4_coughs 127 = .ok (.iconst 1, 1) := by decide +kernel
theorem dX4_coughs_128 : decode cX4_coughs 128 = .ok (.istore 12, 2) := by decide +kernel
theorem dX4_coughs_130 : decode cX4_coughs 130 = .ok (.iconst 0, 1) := by decide +kernel
theorem dX4_coughs_131 : decode cX4_coughs 131 = .ok (.istore 13, 2) := by decide +kernel
theorem dX4_coughs_133 : decode cX4_coughs 133 = .ok (.iload 13, 2) := by decide +kernel
theorem dX4_coughs_135 : decode cX4_coughs 135 = .ok (.iload 5, 2) := by decide +kernel
theorem dX4_coughs_137 : decode cX4_coughs 137 = .ok (.if_icmp .ge 34, 3) := by decide +kernel
theorem dX4_coughs_140 : decode cX4_coughs 140 = .ok (.iload 12, 2) := by decide +kernel
theorem dX4_coughs_142 : decode cX4_coughs 142 = .ok (.iload 11, 2) := by decide +kernel
theorem dX4_coughs_144 : decode cX4_coughs 144 = .ok (.iload 13, 2) := by decide +kernel
theorem dX4_coughs_146 : decode cX4_coughs 146 = .ok (.invokestatic 149, 3) := by decide +kernel
theorem dX4_coughs_149 : decode cX4_coughs 149 = .ok (.ifCond .eq 8, 3) := by decide +kernel
theorem dX4_coughs_152 : decode cX4_coughs 152 = .ok (.iload 6, 2) := by decide +kernel
theorem dX4_coughs_154 : decode cX4_coughs 154 = .ok (.goto 8, 3) := by decide +kernel
theorem dX4_coughs_157 : decode cX4_coughs 157 = .ok (.bipush 10, 2) := by decide +kernel
theorem dX4_coughs_159 : decode cX4_coughs 159 = .ok (.iload 6, 2) := by decide +kernel
theorem dX4_coughs_161 : decode cX4_coughs 161 = .ok (.isub, 1) := by decide +kernel
theorem dX4_coughs_162 : decode cX4_coughs 162 = .ok (.imul, 1) := by decide +kernel
theorem dX4_coughs_163 : decode cX4_coughs 163 = .ok (.istore 12, 2) := by decide +kernel
theorem dX4_coughs_165 : decode cX4_coughs 165 = .ok (.iinc 13 1, 3) := by decide +kernel
theorem dX4_coughs_168 : decode cX4_coughs 168 = .ok (.goto (-35), 3) := by decide +kernel
theorem dX4_coughs_171 : decode cX4_coughs 171 = .ok (.aload_n 0, 1) := by decide +kernel
theorem dX4_coughs_172 : decode cX4_coughs 172 = .ok (.iload_n 2, 1) := by decide +kernel
theorem dX4_coughs_173 : decode cX4_coughs 173 = .ok (.bipush 40, 2) := by decide +kernel
theorem dX4_coughs_175 : decode cX4_coughs 175 = .ok (.iload_n 3, 1) := by decide +kernel
theorem dX4_coughs_176 : decode cX4_coughs 176 = .ok (.imul, 1) := by decide +kernel
theorem dX4_coughs_177 : decode cX4_coughs 177 = .ok (.iload 4, 2) := by decide +kernel
theorem dX4_coughs_179 : decode cX4_coughs 179 = .ok (.iadd, 1) := by decide +kernel
theorem dX4_coughs_180 : decode cX4_coughs 180 = .ok (.iload 5, 2) := by decide +kernel
theorem dX4_coughs_182 : decode cX4_coughs 182 = .ok (.iload 11, 2) := by decide +kernel
theorem dX4_coughs_184 : decode cX4_coughs 184 = .ok (.invokevirtual 189, 3) := by decide +kernel
theorem dX4_coughs_187 : decode cX4_coughs 187 = .ok (.iload 9, 2) := by decide +kernel
theorem dX4_coughs_189 : decode cX4_coughs 189 = .ok (.aload_n 0, 1) := by decide +kernel
theorem dX4_coughs_190 : decode cX4_coughs 190 = .ok (.getfield 19, 3) := by decide +kernel
theorem dX4_coughs_193 : decode cX4_coughs 193 = .ok (.bipush 41, 2) := by decide +kernel
theorem dX4_coughs_195 : decode cX4_coughs 195 = .ok (.iload_n 1, 1) := by decide +kernel
theorem dX4_coughs_196 : decode cX4_coughs 196 = .ok (.iadd, 1) := by decide +kernel
theorem dX4_coughs_197 : decode cX4_coughs 197 = .ok (.iaload, 1) := by decide +kernel
theorem dX4_coughs_198 : decode cX4_coughs 198 = .ok (.iconst 1, 1) := by decide +kernel
theorem dX4_coughs_199 : decode cX4_coughs 199 = .ok (.if_icmp .ne 8, 3) := by decide +kernel
theorem dX4_coughs_202 : decode cX4_coughs 202 = .ok (.iload 12, 2) := by decide +kernel
theorem dX4_coughs_204 : decode cX4_coughs 204 = .ok (.goto 4, 3) := by decide +kernel
theorem dX4_coughs_207 : decode cX4_coughs 207 = .ok (.iconst 0, 1) := by decide +kernel
theorem dX4_coughs_208 : decode cX4_coughs 208 = .ok (.iadd, 1) := by decide +kernel
theorem dX4_coughs_209 : decode cX4_coughs 209 = .ok (.istore 9, 2) := by decide +kernel
theorem dX4_coughs_211 : decode cX4_coughs 211 = .ok (.aload_n 0, 1) := by decide +kernel
theorem dX4_coughs_212 : decode cX4_coughs 212 = .ok (.invokevirtual 193, 3) := by decide +kernel
theorem dX4_coughs_215 : decode cX4_coughs 215 = .ok (.iinc 11 1, 3) := by decide +kernel
theorem dX4_coughs_218 : decode cX4_coughs 218 = .ok (.goto (-100), 3) := by decide +kernel
theorem dX4_coughs_221 : decode cX4_coughs 221 = .ok (.iload 9, 2) := by decide +kernel
theorem dX4_coughs_223 : decode cX4_coughs 223 = .ok (.istore 11, 2) := by decide +kernel
theorem dX4_coughs_225 : decode cX4_coughs 225 = .ok (.iload 10, 2) := by decide +kernel
theorem dX4_coughs_227 : decode cX4_coughs 227 = .ok (.istore 12, 2) := by decide +kernel
theorem dX4_coughs_229 : decode cX4_coughs 229 = .ok (.iload 12, 2) := by decide +kernel
theorem dX4_coughs_231 : decode cX4_coughs 231 = .ok (.ifCond .eq 21, 3) := by decide +kernel
theorem dX4_coughs_234 : decode cX4_coughs 234 = .ok (.iload 11, 2) := by decide +kernel
theorem dX4_coughs_236 : decode cX4_coughs 236 = .ok (.iload 12, 2) := by decide +kernel
theorem dX4_coughs_238 : decode cX4_coughs 238 = .ok (.irem, 1) := by decide +kernel
theorem dX4_coughs_239 : decode cX4_coughs 239 = .ok (.istore 13, 2) := by decide +kernel
theorem dX4_coughs_241 : decode cX4_coughs 241 = .ok (.iload 12, 2) := by decide +kernel
theorem dX4_coughs_243 : decode cX4_coughs 243 = .ok (.istore 11, 2) := by decide +kernel
theorem dX4_coughs_245 : decode cX4_coughs 245 = .ok (.iload 13, 2) := by decide +kernel
theorem dX4_coughs_247 : decode cX4_coughs 247 = .ok (.istore 12, 2) := by decide +kernel
theorem dX4_coughs_249 : decode cX4_coughs 249 = .ok (.goto (-20), 3) := by decide +kernel
theorem dX4_coughs_252 : decode cX4_coughs 252 = .ok (.aload_n 0, 1) := by decide +kernel
theorem dX4_coughs_253 : decode cX4_coughs 253 = .ok (.iload 7, 2) := by decide +kernel
theorem dX4_coughs_255 : decode cX4_coughs 255 = .ok (.ifCond .ne 11, 3) := by decide +kernel
theorem dX4_coughs_258 : decode cX4_coughs 258 = .ok (.iload 9, 2) := by decide +kernel
theorem dX4_coughs_260 : decode cX4_coughs 260 = .ok (.iload 11, 2) := by decide +kernel
theorem dX4_coughs_262 : decode cX4_coughs 262 = .ok (.idiv, 1) := by decide +kernel
theorem dX4_coughs_263 : decode cX4_coughs 263 = .ok (.goto 8, 3) := by decide +kernel
theorem dX4_coughs_266 : decode cX4_coughs 266 = .ok (.iload 10, 2) := by decide +kernel
theorem dX4_coughs_268 : decode cX4_coughs 268 = .ok (.iload 11, 2) := by decide +kernel
theorem dX4_coughs_270 : decode cX4_coughs 270 = .ok (.idiv, 1) := by decide +kernel
theorem dX4_coughs_271 : decode cX4_coughs 271 = .ok (.invokevirtual 75, 3) := by decide +kernel
theorem dX4_coughs_274 : decode cX4_coughs 274 = .ok (.ireturn, 1) := by decide +kernel
theorem dX4_image_0 : decode cX4_image 0 = .ok (.iload_n 1, 1) := by decide +kernel
theorem dX4_image_1 : decode cX4_image 1 = .ok (.i2l, 1) := by decide +kernel
theorem dX4_image_2 : decode cX4_image 2 = .ok (.lconst 0, 1) := by decide +kernel
theorem dX4_image_3 : decode cX4_image 3 = .ok (.lconst 1, 1) := by decide +kernel
theorem dX4_image_4 : decode cX4_image 4 = .ok (.invokestatic 60, 3) := by decide +kernel
theorem dX4_image_7 : decode cX4_image 7 = .ok (.ifCond .ne 6, 3) := by decide +kernel
theorem dX4_image_10 : decode cX4_image 10 = .ok (.ldc 70, 2) := by decide +kernel
theorem dX4_image_12 : decode cX4_image 12 = .ok (.ireturn, 1) := by decide +kernel
theorem dX4_image_13 : decode cX4_image 13 = .ok (.aload_n 0, 1) := by decide +kernel
theorem dX4_image_14 : decode cX4_image 14 = .ok (.getfield 142, 3) := by decide +kernel
theorem dX4_image_17 : decode cX4_image 17 = .ok (.ifCond .ne 6, 3) := by decide +kernel
theorem dX4_image_20 : decode cX4_image 20 = .ok (.ldc 157, 2) := by decide +kernel
theorem dX4_image_22 : decode cX4_image 22 = .ok (.ireturn, 1) := by decide +kernel
theorem dX4_image_23 : decode cX4_image 23 = .ok (.iconst 0, 1) := by decide +kernel
theorem dX4_image_24 : decode cX4_image 24 = .ok (.istore_n 2, 1) := by decide +kernel
theorem dX4_image_25 : decode cX4_image 25 = .ok (.iload_n 2, 1) := by decide +kernel
theorem dX4_image_26 : decode cX4_image 26 = .ok (.bipush 51, 2) := by decide +kernel
theorem dX4_image_28 : decode cX4_image 28 = .ok (.if_icmp .ge 26, 3) := by decide +kernel
theorem dX4_image_31 : decode cX4_image 31 = .ok (.aload_n 0, 1) := by decide +kernel
theorem dX4_image_32 : decode cX4_image 32 = .ok (.getfield 47, 3) := by decide +kernel
theorem dX4_image_35 : decode cX4_image 35 = .ok (.bipush 51, 2) := by decide +kernel
theorem dX4_image_37 : decode cX4_image 37 = .ok (.iload_n 1, 1) := by decide +kernel
theorem dX4_image_38 : decode cX4_image 38 = .ok (.imul, 1) := by decide +kernel
theorem dX4_image_39 : decode cX4_image 39 = .ok (.iload_n 2, 1) := by decide +kernel
theorem dX4_image_40 : decode cX4_image 40 = .ok (.iadd, 1) := by decide +kernel
theorem dX4_image_41 : decode cX4_image 41 = .ok (.aload_n 0, 1) := by decide +kernel
theorem dX4_image_42 : decode cX4_image 42 = .ok (.getfield 19, 3) := by decide +kernel
theorem dX4_image_45 : decode cX4_image 45 = .ok (.iload_n 2, 1) := by decide +kernel
theorem dX4_image_46 : decode cX4_image 46 = .ok (.iaload, 1) := by decide +kernel
theorem dX4_image_47 : decode cX4_image 47 = .ok (.iastore, 1) := by decide +kernel
theorem dX4_image_48 : decode cX4_image 48 = .ok (.iinc 2 1, 3) := by decide +kernel
theorem dX4_image_51 : decode cX4_image 51 = .ok (.goto (-26), 3) := by decide +kernel
theorem dX4_image_54 : decode cX4_image 54 = .ok (.aload_n 0, 1) := by decide +kernel
theorem dX4_image_55 : decode cX4_image 55 = .ok (.getfield 43, 3) := by decide +kernel
theorem dX4_image_58 : decode cX4_image 58 = .ok (.iload_n 1, 1) := by decide +kernel
theorem dX4_image_59 : decode cX4_image 59 = .ok (.iconst 1, 1) := by decide +kernel
theorem dX4_image_60 : decode cX4_image 60 = .ok (.bastore, 1) := by decide +kernel
theorem dX4_image_61 : decode cX4_image 61 = .ok (.iconst 1, 1) := by decide +kernel
theorem dX4_image_62 : decode cX4_image 62 = .ok (.ireturn, 1) := by decide +kernel
theorem dX4_restore_0 : decode cX4_restore 0 = .ok (.iload_n 1, 1) := by decide +kernel
theorem dX4_restore_1 : decode cX4_restore 1 = .ok (.i2l, 1) := by decide +kernel
theorem dX4_restore_2 : decode cX4_restore 2 = .ok (.lconst 0, 1) := by decide +kernel
theorem dX4_restore_3 : decode cX4_restore 3 = .ok (.lconst 1, 1) := by decide +kernel
theorem dX4_restore_4 : decode cX4_restore 4 = .ok (.invokestatic 60, 3) := by decide +kernel
theorem dX4_restore_7 : decode cX4_restore 7 = .ok (.ifCond .ne 6, 3) := by decide +kernel
theorem dX4_restore_10 : decode cX4_restore 10 = .ok (.ldc 70, 2) := by decide +kernel
theorem dX4_restore_12 : decode cX4_restore 12 = .ok (.ireturn, 1) := by decide +kernel
theorem dX4_restore_13 : decode cX4_restore 13 = .ok (.aload_n 0, 1) := by decide +kernel
theorem dX4_restore_14 : decode cX4_restore 14 = .ok (.getfield 43, 3) := by decide +kernel
theorem dX4_restore_17 : decode cX4_restore 17 = .ok (.iload_n 1, 1) := by decide +kernel
theorem dX4_restore_18 : decode cX4_restore 18 = .ok (.baload, 1) := by decide +kernel
theorem dX4_restore_19 : decode cX4_restore 19 = .ok (.ifCond .ne 6, 3) := by decide +kernel
theorem dX4_restore_22 : decode cX4_restore 22 = .ok (.ldc 157, 2) := by decide +kernel
theorem dX4_restore_24 : decode cX4_restore 24 = .ok (.ireturn, 1) := by decide +kernel
theorem dX4_restore_25 : decode cX4_restore 25 = .ok (.iconst 0, 1) := by decide +kernel
theorem dX4_restore_26 : decode cX4_restore 26 = .ok (.istore_n 2, 1) := by decide +kernel
theorem dX4_restore_27 : decode cX4_restore 27 = .ok (.iload_n 2, 1) := by decide +kernel
theorem dX4_restore_28 : decode cX4_restore 28 = .ok (.bipush 51, 2) := by decide +kernel
theorem dX4_restore_30 : decode cX4_restore 30 = .ok (.if_icmp .ge 26, 3) := by decide +kernel
theorem dX4_restore_33 : decode cX4_restore 33 = .ok (.aload_n 0, 1) := by decide +kernel
theorem dX4_restore_34 : decode cX4_restore 34 = .ok (.getfield 19, 3) := by decide +kernel
theorem dX4_restore_37 : decode cX4_restore 37 = .ok (.iload_n 2, 1) := by decide +kernel
theorem dX4_restore_38 : decode cX4_restore 38 = .ok (.aload_n 0, 1) := by decide +kernel
theorem dX4_restore_39 : decode cX4_restore 39 = .ok (.getfield 47, 3) := by decide +kernel
theorem dX4_restore_42 : decode cX4_restore 42 = .ok (.bipush 51, 2) := by decide +kernel
theorem dX4_restore_44 : decode cX4_restore 44 = .ok (.iload_n 1, 1) := by decide +kernel
theorem dX4_restore_45 : decode cX4_restore 45 = .ok (.imul, 1) := by decide +kernel
theorem dX4_restore_46 : decode cX4_restore 46 = .ok (.iload_n 2, 1) := by decide +kernel
theorem dX4_restore_47 : decode cX4_restore 47 = .ok (.iadd, 1) := by decide +kernel
theorem dX4_restore_48 : decode cX4_restore 48 = .ok (.iaload, 1) := by decide +kernel
theorem dX4_restore_49 : decode cX4_restore 49 = .ok (.iastore, 1) := by decide +kernel
theorem dX4_restore_50 : decode cX4_restore 50 = .ok (.iinc 2 1, 3) := by decide +kernel
theorem dX4_restore_53 : decode cX4_restore 53 = .ok (.goto (-26), 3) := by decide +kernel
theorem dX4_restore_56 : decode cX4_restore 56 = .ok (.aload_n 0, 1) := by decide +kernel
theorem dX4_restore_57 : decode cX4_restore 57 = .ok (.iconst 0, 1) := by decide +kernel
theorem dX4_restore_58 : decode cX4_restore 58 = .ok (.putfield 146, 3) := by decide +kernel
theorem dX4_restore_61 : decode cX4_restore 61 = .ok (.iconst 1, 1) := by decide +kernel
theorem dX4_restore_62 : decode cX4_restore 62 = .ok (.ireturn, 1) := by decide +kernel
theorem dX4_kind_0 : decode cX4_kind 0 = .ok (.aload_n 0, 1) := by decide +kernel
theorem dX4_kind_1 : decode cX4_kind 1 = .ok (.iload_n 1, 1) := by decide +kernel
theorem dX4_kind_2 : decode cX4_kind 2 = .ok (.invokevirtual 171, 3) := by decide +kernel
theorem dX4_kind_5 : decode cX4_kind 5 = .ok (.ifCond .eq 15, 3) := by decide +kernel
theorem dX4_kind_8 : decode cX4_kind 8 = .ok (.aload_n 0, 1) := by decide +kernel
theorem dX4_kind_9 : decode cX4_kind 9 = .ok (.getfield 19, 3) := by decide +kernel
theorem dX4_kind_12 : decode cX4_kind 12 = .ok (.bipush 16, 2) := by decide +kernel
theorem dX4_kind_14 : decode cX4_kind 14 = .ok (.iload_n 1, 1) := by decide +kernel
theorem dX4_kind_15 : decode cX4_kind 15 = .ok (.iadd, 1) := by decide +kernel
theorem dX4_kind_16 : decode cX4_kind 16 = .ok (.iaload, 1) := by decide +kernel
theorem dX4_kind_17 : decode cX4_kind 17 = .ok (.goto 5, 3) := by decide +kernel
theorem dX4_kind_20 : decode cX4_kind 20 = .ok (.ldc 70, 2) := by decide +kernel
theorem dX4_kind_22 : decode cX4_kind 22 = .ok (.ireturn, 1) := by decide +kernel
theorem dX4_isKind_0 : decode cX4_isKind 0 = .ok (.iload_n 1, 1) := by decide +kernel
theorem dX4_isKind_1 : decode cX4_isKind 1 = .ok (.ifCond .eq 28, 3) := by decide +kernel
theorem dX4_isKind_4 : decode cX4_isKind 4 = .ok (.iload_n 0, 1) := by decide +kernel
theorem dX4_isKind_5 : decode cX4_isKind 5 = .ok (.iload_n 1, 1) := by decide +kernel
theorem dX4_isKind_6 : decode cX4_isKind 6 = .ok (.if_icmp .eq 23, 3) := by decide +kernel
theorem dX4_isKind_9 : decode cX4_isKind 9 = .ok (.iload_n 1, 1) := by decide +kernel
theorem dX4_isKind_10 : decode cX4_isKind 10 = .ok (.iconst 1, 1) := by decide +kernel
theorem dX4_isKind_11 : decode cX4_isKind 11 = .ok (.if_icmp .ne 8, 3) := by decide +kernel
theorem dX4_isKind_14 : decode cX4_isKind 14 = .ok (.iload_n 0, 1) := by decide +kernel
theorem dX4_isKind_15 : decode cX4_isKind 15 = .ok (.iconst 4, 1) := by decide +kernel
theorem dX4_isKind_16 : decode cX4_isKind 16 = .ok (.if_icmp .lt 13, 3) := by decide +kernel
theorem dX4_isKind_19 : decode cX4_isKind 19 = .ok (.iload_n 1, 1) := by decide +kernel
theorem dX4_isKind_20 : decode cX4_isKind 20 = .ok (.iconst 4, 1) := by decide +kernel
theorem dX4_isKind_21 : decode cX4_isKind 21 = .ok (.if_icmp .ne 12, 3) := by decide +kernel
theorem dX4_isKind_24 : decode cX4_isKind 24 = .ok (.iload_n 0, 1) := by decide +kernel
theorem dX4_isKind_25 : decode cX4_isKind 25 = .ok (.iconst 5, 1) := by decide +kernel
theorem dX4_isKind_26 : decode cX4_isKind 26 = .ok (.if_icmp .ne 7, 3) := by decide +kernel
theorem dX4_isKind_29 : decode cX4_isKind 29 = .ok (.iconst 1, 1) := by decide +kernel
theorem dX4_isKind_30 : decode cX4_isKind 30 = .ok (.goto 4, 3) := by decide +kernel
theorem dX4_isKind_33 : decode cX4_isKind 33 = .ok (.iconst 0, 1) := by decide +kernel
theorem dX4_isKind_34 : decode cX4_isKind 34 = .ok (.ireturn, 1) := by decide +kernel
theorem dX4_as_0 : decode cX4_as 0 = .ok (.aload_n 0, 1) := by decide +kernel
theorem dX4_as_1 : decode cX4_as 1 = .ok (.iload_n 1, 1) := by decide +kernel
theorem dX4_as_2 : decode cX4_as 2 = .ok (.invokevirtual 171, 3) := by decide +kernel
theorem dX4_as_5 : decode cX4_as 5 = .ok (.ifCond .eq 15, 3) := by decide +kernel
theorem dX4_as_8 : decode cX4_as 8 = .ok (.iload_n 2, 1) := by decide +kernel
theorem dX4_as_9 : decode cX4_as 9 = .ok (.i2l, 1) := by decide +kernel
theorem dX4_as_10 : decode cX4_as 10 = .ok (.lconst 0, 1) := by decide +kernel
theorem dX4_as_11 : decode cX4_as 11 = .ok (.ldc2_w 219, 3) := by decide +kernel
theorem dX4_as_14 : decode cX4_as 14 = .ok (.invokestatic 60, 3) := by decide +kernel
theorem dX4_as_17 : decode cX4_as 17 = .ok (.ifCond .ne 6, 3) := by decide +kernel
theorem dX4_as_20 : decode cX4_as 20 = .ok (.ldc 70, 2) := by decide +kernel
theorem dX4_as_22 : decode cX4_as 22 = .ok (.ireturn, 1) := by decide +kernel
theorem dX4_as_23 : decode cX4_as 23 = .ok (.aload_n 0, 1) := by decide +kernel
theorem dX4_as_24 : decode cX4_as 24 = .ok (.getfield 19, 3) := by decide +kernel
theorem dX4_as_27 : decode cX4_as 27 = .ok (.bipush 16, 2) := by decide +kernel
theorem dX4_as_29 : decode cX4_as 29 = .ok (.iload_n 1, 1) := by decide +kernel
theorem dX4_as_30 : decode cX4_as 30 = .ok (.iadd, 1) := by decide +kernel
theorem dX4_as_31 : decode cX4_as 31 = .ok (.iaload, 1) := by decide +kernel
theorem dX4_as_32 : decode cX4_as 32 = .ok (.iload_n 2, 1) := by decide +kernel
theorem dX4_as_33 : decode cX4_as 33 = .ok (.invokestatic 221, 3) := by decide +kernel
theorem dX4_as_36 : decode cX4_as 36 = .ok (.ifCond .eq 11, 3) := by decide +kernel
theorem dX4_as_39 : decode cX4_as 39 = .ok (.aload_n 0, 1) := by decide +kernel
theorem dX4_as_40 : decode cX4_as 40 = .ok (.iload_n 1, 1) := by decide +kernel
theorem dX4_as_41 : decode cX4_as 41 = .ok (.invokevirtual 75, 3) := by decide +kernel
theorem dX4_as_44 : decode cX4_as 44 = .ok (.goto 8, 3) := by decide +kernel
theorem dX4_as_47 : decode cX4_as 47 = .ok (.aload_n 0, 1) := by decide +kernel
theorem dX4_as_48 : decode cX4_as 48 = .ok (.iconst 3, 1) := by decide +kernel
theorem dX4_as_49 : decode cX4_as 49 = .ok (.invokevirtual 71, 3) := by decide +kernel
theorem dX4_as_52 : decode cX4_as 52 = .ok (.ireturn, 1) := by decide +kernel
theorem dX4_begin_0 : decode cX4_begin 0 = .ok (.aload_n 0, 1) := by decide +kernel
theorem dX4_begin_1 : decode cX4_begin 1 = .ok (.getfield 224, 3) := by decide +kernel
theorem dX4_begin_4 : decode cX4_begin 4 = .ok (.bipush 16, 2) := by decide +kernel
theorem dX4_begin_6 : decode cX4_begin 6 = .ok (.if_icmp .ge 23, 3) := by decide +kernel
theorem dX4_begin_9 : decode cX4_begin 9 = .ok (.aload_n 0, 1) := by decide +kernel
theorem dX4_begin_10 : decode cX4_begin 10 = .ok (.getfield 50, 3) := by decide +kernel
theorem dX4_begin_13 : decode cX4_begin 13 = .ok (.aload_n 0, 1) := by decide +kernel
theorem dX4_begin_14 : decode cX4_begin 14 = .ok (.getfield 224, 3) := by decide +kernel
theorem dX4_begin_17 : decode cX4_begin 17 = .ok (.iload_n 1, 1) := by decide +kernel
theorem dX4_begin_18 : decode cX4_begin 18 = .ok (.iastore, 1) := by decide +kernel
theorem dX4_begin_19 : decode cX4_begin 19 = .ok (.aload_n 0, 1) := by decide +kernel
theorem dX4_begin_20 : decode cX4_begin 20 = .ok (.dup, 1) := by decide +kernel
theorem dX4_begin_21 : decode cX4_begin 21 = .ok (.getfield 224, 3) := by decide +kernel
theorem dX4_begin_24 : decode cX4_begin 24 = .ok (.iconst 1, 1) := by decide +kernel
theorem dX4_begin_25 : decode cX4_begin 25 = .ok (.iadd, 1) := by decide +kernel
theorem dX4_begin_26 : decode cX4_begin 26 = .ok (.putfield 224, 3) := by decide +kernel
theorem dX4_begin_29 : decode cX4_begin 29 = .ok (.return_, 1) := by decide +kernel
theorem dX4_lent_0 : decode cX4_lent 0 = .ok (.aload_n 0, 1) := by decide +kernel
theorem dX4_lent_1 : decode cX4_lent 1 = .ok (.iload_n 2, 1) := by decide +kernel
theorem dX4_lent_2 : decode cX4_lent 2 = .ok (.invokevirtual 227, 3) := by decide +kernel
theorem dX4_lent_5 : decode cX4_lent 5 = .ok (.iload_n 2, 1) := by decide +kernel
theorem dX4_lent_6 : decode cX4_lent 6 = .ok (.bipush 10, 2) := by decide +kernel
theorem dX4_lent_8 : decode cX4_lent 8 = .ok (.if_icmp .ne 15, 3) := by decide +kernel
theorem dX4_lent_11 : decode cX4_lent 11 = .ok (.aload_n 0, 1) := by decide +kernel
theorem dX4_lent_12 : decode cX4_lent 12 = .ok (.getfield 19, 3) := by decide +kernel
theorem dX4_lent_15 : decode cX4_lent 15 = .ok (.bipush 26, 2) := by decide +kernel
theorem dX4_lent_17 : decode cX4_lent 17 = .ok (.iload_n 1, 1) := by decide +kernel
theorem dX4_lent_18 : decode cX4_lent 18 = .ok (.iadd, 1) := by decide +kernel
theorem dX4_lent_19 : decode cX4_lent 19 = .ok (.iaload, 1) := by decide +kernel
theorem dX4_lent_20 : decode cX4_lent 20 = .ok (.goto 4, 3) := by decide +kernel
theorem dX4_lent_23 : decode cX4_lent 23 = .ok (.iload_n 1, 1) := by decide +kernel
theorem dX4_lent_24 : decode cX4_lent 24 = .ok (.ireturn, 1) := by decide +kernel
theorem dX4_plumMark_0 : decode cX4_plumMark 0 = .ok (.aload_n 0, 1) := by decide +kernel
theorem dX4_plumMark_1 : decode cX4_plumMark 1 = .ok (.bipush 21, 2) := by decide +kernel
theorem dX4_plumMark_3 : decode cX4_plumMark 3 = .ok (.invokevirtual 227, 3) := by decide +kernel
theorem dX4_plumMark_6 : decode cX4_plumMark 6 = .ok (.aload_n 0, 1) := by decide +kernel
theorem dX4_plumMark_7 : decode cX4_plumMark 7 = .ok (.iload_n 1, 1) := by decide +kernel
theorem dX4_plumMark_8 : decode cX4_plumMark 8 = .ok (.bipush 20, 2) := by decide +kernel
theorem dX4_plumMark_10 : decode cX4_plumMark 10 = .ok (.invokevirtual 230, 3) := by decide +kernel
theorem dX4_plumMark_13 : decode cX4_plumMark 13 = .ok (.aload_n 0, 1) := by decide +kernel
theorem dX4_plumMark_14 : decode cX4_plumMark 14 = .ok (.getfield 19, 3) := by decide +kernel
theorem dX4_plumMark_17 : decode cX4_plumMark 17 = .ok (.bipush 36, 2) := by decide +kernel
theorem dX4_plumMark_19 : decode cX4_plumMark 19 = .ok (.iload_n 1, 1) := by decide +kernel
theorem dX4_plumMark_20 : decode cX4_plumMark 20 = .ok (.iadd, 1) := by decide +kernel
theorem dX4_plumMark_21 : decode cX4_plumMark 21 = .ok (.iaload, 1) := by decide +kernel
theorem dX4_plumMark_22 : decode cX4_plumMark 22 = .ok (.iadd, 1) := by decide +kernel
theorem dX4_plumMark_23 : decode cX4_plumMark 23 = .ok (.ireturn, 1) := by decide +kernel
theorem dX4_marrowSize_0 : decode cX4_marrowSize 0 = .ok (.aload_n 0, 1) := by decide +kernel
theorem dX4_marrowSize_1 : decode cX4_marrowSize 1 = .ok (.bipush 13, 2) := by decide +kernel
theorem dX4_marrowSize_3 : decode cX4_marrowSize 3 = .ok (.invokevirtual 227, 3) := by decide +kernel
theorem dX4_marrowSize_6 : decode cX4_marrowSize 6 = .ok (.aload_n 0, 1) := by decide +kernel
theorem dX4_marrowSize_7 : decode cX4_marrowSize 7 = .ok (.iload_n 1, 1) := by decide +kernel
theorem dX4_marrowSize_8 : decode cX4_marrowSize 8 = .ok (.bipush 10, 2) := by decide +kernel
theorem dX4_marrowSize_10 : decode cX4_marrowSize 10 = .ok (.invokevirtual 230, 3) := by decide +kernel
theorem dX4_marrowSize_13 : decode cX4_marrowSize 13 = .ok (.bipush 100, 2) := by decide +kernel
theorem dX4_marrowSize_15 : decode cX4_marrowSize 15 = .ok (.isub, 1) := by decide +kernel
theorem dX4_marrowSize_16 : decode cX4_marrowSize 16 = .ok (.ireturn, 1) := by decide +kernel
theorem dX4_sizeOfMarrow_0 : decode cX4_sizeOfMarrow 0 = .ok (.aload_n 0, 1) := by decide +kernel
theorem dX4_sizeOfMarrow_1 : decode cX4_sizeOfMarrow 1 = .ok (.getfield 19, 3) := by decide +kernel
theorem dX4_sizeOfMarrow_4 : decode cX4_sizeOfMarrow 4 = .ok (.bipush 16, 2) := by decide +kernel
theorem dX4_sizeOfMarrow_6 : decode cX4_sizeOfMarrow 6 = .ok (.iload_n 1, 1) := by decide +kernel
theorem dX4_sizeOfMarrow_7 : decode cX4_sizeOfMarrow 7 = .ok (.iadd, 1) := by decide +kernel
theorem dX4_sizeOfMarrow_8 : decode cX4_sizeOfMarrow 8 = .ok (.iaload, 1) := by decide +kernel
theorem dX4_sizeOfMarrow_9 : decode cX4_sizeOfMarrow 9 = .ok (.iconst 5, 1) := by decide +kernel
theorem dX4_sizeOfMarrow_10 : decode cX4_sizeOfMarrow 10 = .ok (.if_icmp .ne 17, 3) := by decide +kernel
theorem dX4_sizeOfMarrow_13 : decode cX4_sizeOfMarrow 13 = .ok (.aload_n 0, 1) := by decide +kernel
theorem dX4_sizeOfMarrow_14 : decode cX4_sizeOfMarrow 14 = .ok (.bipush 14, 2) := by decide +kernel
theorem dX4_sizeOfMarrow_16 : decode cX4_sizeOfMarrow 16 = .ok (.invokevirtual 227, 3) := by decide +kernel
theorem dX4_sizeOfMarrow_19 : decode cX4_sizeOfMarrow 19 = .ok (.iconst 2, 1) := by decide +kernel
theorem dX4_sizeOfMarrow_20 : decode cX4_sizeOfMarrow 20 = .ok (.aload_n 0, 1) := by decide +kernel
theorem dX4_sizeOfMarrow_21 : decode cX4_sizeOfMarrow 21 = .ok (.iload_n 1, 1) := by decide +kernel
theorem dX4_sizeOfMarrow_22 : decode cX4_sizeOfMarrow 22 = .ok (.invokevirtual 233, 3) := by decide +kernel
theorem dX4_sizeOfMarrow_25 : decode cX4_sizeOfMarrow 25 = .ok (.imul, 1) := by decide +kernel
theorem dX4_sizeOfMarrow_26 : decode cX4_sizeOfMarrow 26 = .ok (.ireturn, 1) := by decide +kernel
theorem dX4_sizeOfMarrow_27 : decode cX4_sizeOfMarrow 27 = .ok (.aload_n 0, 1) := by decide +kernel
theorem dX4_sizeOfMarrow_28 : decode cX4_sizeOfMarrow 28 = .ok (.iload_n 1, 1) := by decide +kernel
theorem dX4_sizeOfMarrow_29 : decode cX4_sizeOfMarrow 29 = .ok (.invokevirtual 233, 3) := by decide +kernel
theorem dX4_sizeOfMarrow_32 : decode cX4_sizeOfMarrow 32 = .ok (.ireturn, 1) := by decide +kernel
theorem dX4_markOf_0 : decode cX4_markOf 0 = .ok (.aload_n 0, 1) := by decide +kernel
theorem dX4_markOf_1 : decode cX4_markOf 1 = .ok (.getfield 19, 3) := by decide +kernel
theorem dX4_markOf_4 : decode cX4_markOf 4 = .ok (.bipush 16, 2) := by decide +kernel
theorem dX4_markOf_6 : decode cX4_markOf 6 = .ok (.iload_n 1, 1) := by decide +kernel
theorem dX4_markOf_7 : decode cX4_markOf 7 = .ok (.iadd, 1) := by decide +kernel
theorem dX4_markOf_8 : decode cX4_markOf 8 = .ok (.iaload, 1) := by decide +kernel
theorem dX4_markOf_9 : decode cX4_markOf 9 = .ok (.istore_n 2, 1) := by decide +kernel
theorem dX4_markOf_10 : decode cX4_markOf 10 = .ok (.iload_n 2, 1) := by decide +kernel
theorem dX4_markOf_11 : decode cX4_markOf 11 = .ok (.iconst 2, 1) := by decide +kernel
theorem dX4_markOf_12 : decode cX4_markOf 12 = .ok (.if_icmp .ne 17, 3) := by decide +kernel
theorem dX4_markOf_15 : decode cX4_markOf 15 = .ok (.aload_n 0, 1) := by decide +kernel
theorem dX4_markOf_16 : decode cX4_markOf 16 = .ok (.bipush 24, 2) := by decide +kernel
theorem dX4_markOf_18 : decode cX4_markOf 18 = .ok (.invokevirtual 227, 3) := by decide +kernel
theorem dX4_markOf_21 : decode cX4_markOf 21 = .ok (.iconst 2, 1) := by decide +kernel
theorem dX4_markOf_22 : decode cX4_markOf 22 = .ok (.aload_n 0, 1) := by decide +kernel
theorem dX4_markOf_23 : decode cX4_markOf 23 = .ok (.iload_n 1, 1) := by decide +kernel
theorem dX4_markOf_24 : decode cX4_markOf 24 = .ok (.invokevirtual 236, 3) := by decide +kernel
theorem dX4_markOf_27 : decode cX4_markOf 27 = .ok (.imul, 1) := by decide +kernel
theorem dX4_markOf_28 : decode cX4_markOf 28 = .ok (.ireturn, 1) := by decide +kernel
theorem dX4_markOf_29 : decode cX4_markOf 29 = .ok (.iload_n 2, 1) := by decide +kernel
theorem dX4_markOf_30 : decode cX4_markOf 30 = .ok (.iconst 3, 1) := by decide +kernel
theorem dX4_markOf_31 : decode cX4_markOf 31 = .ok (.if_icmp .ne 19, 3) := by decide +kernel
theorem dX4_markOf_34 : decode cX4_markOf 34 = .ok (.aload_n 0, 1) := by decide +kernel
theorem dX4_markOf_35 : decode cX4_markOf 35 = .ok (.bipush 22, 2) := by decide +kernel
theorem dX4_markOf_37 : decode cX4_markOf 37 = .ok (.invokevirtual 227, 3) := by decide +kernel
theorem dX4_markOf_40 : decode cX4_markOf 40 = .ok (.aload_n 0, 1) := by decide +kernel
theorem dX4_markOf_41 : decode cX4_markOf 41 = .ok (.iload_n 1, 1) := by decide +kernel
theorem dX4_markOf_42 : decode cX4_markOf 42 = .ok (.invokevirtual 236, 3) := by decide +kernel
theorem dX4_markOf_45 : decode cX4_markOf 45 = .ok (.sipush 1000, 3) := by decide +kernel
theorem dX4_markOf_48 : decode cX4_markOf 48 = .ok (.isub, 1) := by decide +kernel
theorem dX4_markOf_49 : decode cX4_markOf 49 = .ok (.ireturn, 1) := by decide +kernel
theorem dX4_markOf_50 : decode cX4_markOf 50 = .ok (.iload_n 2, 1) := by decide +kernel
theorem dX4_markOf_51 : decode cX4_markOf 51 = .ok (.iconst 1, 1) := by decide +kernel
theorem dX4_markOf_52 : decode cX4_markOf 52 = .ok (.if_icmp .ne 9, 3) := by decide +kernel
theorem dX4_markOf_55 : decode cX4_markOf 55 = .ok (.aload_n 0, 1) := by decide +kernel
theorem dX4_markOf_56 : decode cX4_markOf 56 = .ok (.iload_n 1, 1) := by decide +kernel
theorem dX4_markOf_57 : decode cX4_markOf 57 = .ok (.invokevirtual 236, 3) := by decide +kernel
theorem dX4_markOf_60 : decode cX4_markOf 60 = .ok (.ireturn, 1) := by decide +kernel
theorem dX4_markOf_61 : decode cX4_markOf 61 = .ok (.aload_n 0, 1) := by decide +kernel
theorem dX4_markOf_62 : decode cX4_markOf 62 = .ok (.bipush 23, 2) := by decide +kernel
theorem dX4_markOf_64 : decode cX4_markOf 64 = .ok (.invokevirtual 227, 3) := by decide +kernel
theorem dX4_markOf_67 : decode cX4_markOf 67 = .ok (.aload_n 0, 1) := by decide +kernel
theorem dX4_markOf_68 : decode cX4_markOf 68 = .ok (.iload_n 1, 1) := by decide +kernel
theorem dX4_markOf_69 : decode cX4_markOf 69 = .ok (.bipush 20, 2) := by decide +kernel
theorem dX4_markOf_71 : decode cX4_markOf 71 = .ok (.invokevirtual 230, 3) := by decide +kernel
theorem dX4_markOf_74 : decode cX4_markOf 74 = .ok (.istore_n 3, 1) := by decide +kernel
theorem dX4_markOf_75 : decode cX4_markOf 75 = .ok (.iload_n 3, 1) := by decide +kernel
theorem dX4_markOf_76 : decode cX4_markOf 76 = .ok (.aload_n 0, 1) := by decide +kernel
theorem dX4_markOf_77 : decode cX4_markOf 77 = .ok (.iload_n 1, 1) := by decide +kernel
theorem dX4_markOf_78 : decode cX4_markOf 78 = .ok (.invokevirtual 239, 3) := by decide +kernel
theorem dX4_markOf_81 : decode cX4_markOf 81 = .ok (.isub, 1) := by decide +kernel
theorem dX4_markOf_82 : decode cX4_markOf 82 = .ok (.ireturn, 1) := by decide +kernel
theorem dX4_plumSize_0 : decode cX4_plumSize 0 = .ok (.aload_n 0, 1) := by decide +kernel
theorem dX4_plumSize_1 : decode cX4_plumSize 1 = .ok (.bipush 11, 2) := by decide +kernel
theorem dX4_plumSize_3 : decode cX4_plumSize 3 = .ok (.invokevirtual 227, 3) := by decide +kernel
theorem dX4_plumSize_6 : decode cX4_plumSize 6 = .ok (.aload_n 0, 1) := by decide +kernel
theorem dX4_plumSize_7 : decode cX4_plumSize 7 = .ok (.iload_n 1, 1) := by decide +kernel
theorem dX4_plumSize_8 : decode cX4_plumSize 8 = .ok (.bipush 10, 2) := by decide +kernel
theorem dX4_plumSize_10 : decode cX4_plumSize 10 = .ok (.invokevirtual 230, 3) := by decide +kernel
theorem dX4_plumSize_13 : decode cX4_plumSize 13 = .ok (.istore_n 2, 1) := by decide +kernel
theorem dX4_plumSize_14 : decode cX4_plumSize 14 = .ok (.iload_n 2, 1) := by decide +kernel
theorem dX4_plumSize_15 : decode cX4_plumSize 15 = .ok (.aload_n 0, 1) := by decide +kernel
theorem dX4_plumSize_16 : decode cX4_plumSize 16 = .ok (.iload_n 1, 1) := by decide +kernel
theorem dX4_plumSize_17 : decode cX4_plumSize 17 = .ok (.invokevirtual 242, 3) := by decide +kernel
theorem dX4_plumSize_20 : decode cX4_plumSize 20 = .ok (.iadd, 1) := by decide +kernel
theorem dX4_plumSize_21 : decode cX4_plumSize 21 = .ok (.ireturn, 1) := by decide +kernel
theorem dX4_sizeOf_0 : decode cX4_sizeOf 0 = .ok (.aload_n 0, 1) := by decide +kernel
theorem dX4_sizeOf_1 : decode cX4_sizeOf 1 = .ok (.getfield 19, 3) := by decide +kernel
theorem dX4_sizeOf_4 : decode cX4_sizeOf 4 = .ok (.bipush 16, 2) := by decide +kernel
theorem dX4_sizeOf_6 : decode cX4_sizeOf 6 = .ok (.iload_n 1, 1) := by decide +kernel
theorem dX4_sizeOf_7 : decode cX4_sizeOf 7 = .ok (.iadd, 1) := by decide +kernel
theorem dX4_sizeOf_8 : decode cX4_sizeOf 8 = .ok (.iaload, 1) := by decide +kernel
theorem dX4_sizeOf_9 : decode cX4_sizeOf 9 = .ok (.istore_n 2, 1) := by decide +kernel
theorem dX4_sizeOf_10 : decode cX4_sizeOf 10 = .ok (.iload_n 2, 1) := by decide +kernel
theorem dX4_sizeOf_11 : decode cX4_sizeOf 11 = .ok (.iconst 2, 1) := by decide +kernel
theorem dX4_sizeOf_12 : decode cX4_sizeOf 12 = .ok (.if_icmp .ne 16, 3) := by decide +kernel
theorem dX4_sizeOf_15 : decode cX4_sizeOf 15 = .ok (.aload_n 0, 1) := by decide +kernel
theorem dX4_sizeOf_16 : decode cX4_sizeOf 16 = .ok (.bipush 12, 2) := by decide +kernel
theorem dX4_sizeOf_18 : decode cX4_sizeOf 18 = .ok (.invokevirtual 227, 3) := by decide +kernel
theorem dX4_sizeOf_21 : decode cX4_sizeOf 21 = .ok (.aload_n 0, 1) := by decide +kernel
theorem dX4_sizeOf_22 : decode cX4_sizeOf 22 = .ok (.iload_n 1, 1) := by decide +kernel
theorem dX4_sizeOf_23 : decode cX4_sizeOf 23 = .ok (.invokevirtual 245, 3) := by decide +kernel
theorem dX4_sizeOf_26 : decode cX4_sizeOf 26 = .ok (.ineg, 1) := by decide +kernel
theorem dX4_sizeOf_27 : decode cX4_sizeOf 27 = .ok (.ireturn, 1) := by decide +kernel
theorem dX4_sizeOf_28 : decode cX4_sizeOf 28 = .ok (.iload_n 2, 1) := by decide +kernel
theorem dX4_sizeOf_29 : decode cX4_sizeOf 29 = .ok (.iconst 4, 1) := by decide +kernel
theorem dX4_sizeOf_30 : decode cX4_sizeOf 30 = .ok (.if_icmp .lt 11, 3) := by decide +kernel
theorem dX4_sizeOf_33 : decode cX4_sizeOf 33 = .ok (.aload_n 0, 1) := by decide +kernel
theorem dX4_sizeOf_34 : decode cX4_sizeOf 34 = .ok (.iload_n 1, 1) := by decide +kernel
theorem dX4_sizeOf_35 : decode cX4_sizeOf 35 = .ok (.invokevirtual 239, 3) := by decide +kernel
theorem dX4_sizeOf_38 : decode cX4_sizeOf 38 = .ok (.goto 8, 3) := by decide +kernel
theorem dX4_sizeOf_41 : decode cX4_sizeOf 41 = .ok (.aload_n 0, 1) := by decide +kernel
theorem dX4_sizeOf_42 : decode cX4_sizeOf 42 = .ok (.iload_n 1, 1) := by decide +kernel
theorem dX4_sizeOf_43 : decode cX4_sizeOf 43 = .ok (.invokevirtual 245, 3) := by decide +kernel
theorem dX4_sizeOf_46 : decode cX4_sizeOf 46 = .ok (.ireturn, 1) := by decide +kernel
theorem dX4_ask_0 : decode cX4_ask 0 = .ok (.aload_n 0, 1) := by decide +kernel
theorem dX4_ask_1 : decode cX4_ask 1 = .ok (.iload_n 1, 1) := by decide +kernel
theorem dX4_ask_2 : decode cX4_ask 2 = .ok (.invokevirtual 171, 3) := by decide +kernel
theorem dX4_ask_5 : decode cX4_ask 5 = .ok (.ifCond .eq 13, 3) := by decide +kernel
theorem dX4_ask_8 : decode cX4_ask 8 = .ok (.iload_n 2, 1) := by decide +kernel
theorem dX4_ask_9 : decode cX4_ask 9 = .ok (.i2l, 1) := by decide +kernel
theorem dX4_ask_10 : decode cX4_ask 10 = .ok (.lconst 0, 1) := by decide +kernel
theorem dX4_ask_11 : decode cX4_ask 11 = .ok (.lconst 1, 1) := by decide +kernel
theorem dX4_ask_12 : decode cX4_ask 12 = .ok (.invokestatic 60, 3) := by decide +kernel
theorem dX4_ask_15 : decode cX4_ask 15 = .ok (.ifCond .ne 6, 3) := by decide +kernel
theorem dX4_ask_18 : decode cX4_ask 18 = .ok (.ldc 70, 2) := by decide +kernel
theorem dX4_ask_20 : decode cX4_ask 20 = .ok (.ireturn, 1) := by decide +kernel
theorem dX4_ask_21 : decode cX4_ask 21 = .ok (.aload_n 0, 1) := by decide +kernel
theorem dX4_ask_22 : decode cX4_ask 22 = .ok (.iconst 0, 1) := by decide +kernel
theorem dX4_ask_23 : decode cX4_ask 23 = .ok (.putfield 224, 3) := by decide +kernel
theorem dX4_ask_26 : decode cX4_ask 26 = .ok (.iload_n 2, 1) := by decide +kernel
theorem dX4_ask_27 : decode cX4_ask 27 = .ok (.ifCond .ne 11, 3) := by decide +kernel
theorem dX4_ask_30 : decode cX4_ask 30 = .ok (.aload_n 0, 1) := by decide +kernel
theorem dX4_ask_31 : decode cX4_ask 31 = .ok (.iload_n 1, 1) := by decide +kernel
theorem dX4_ask_32 : decode cX4_ask 32 = .ok (.invokevirtual 248, 3) := by decide +kernel
theorem dX4_ask_35 : decode cX4_ask 35 = .ok (.goto 8, 3) := by decide +kernel
theorem dX4_ask_38 : decode cX4_ask 38 = .ok (.aload_n 0, 1) := by decide +kernel
theorem dX4_ask_39 : decode cX4_ask 39 = .ok (.iload_n 1, 1) := by decide +kernel
theorem dX4_ask_40 : decode cX4_ask 40 = .ok (.invokevirtual 242, 3) := by decide +kernel
theorem dX4_ask_43 : decode cX4_ask 43 = .ok (.ireturn, 1) := by decide +kernel
theorem dX4_trace_0 : decode cX4_trace 0 = .ok (.iload_n 1, 1) := by decide +kernel
theorem dX4_trace_1 : decode cX4_trace 1 = .ok (.i2l, 1) := by decide +kernel
theorem dX4_trace_2 : decode cX4_trace 2 = .ok (.lconst 0, 1) := by decide +kernel
theorem dX4_trace_3 : decode cX4_trace 3 = .ok (.aload_n 0, 1) := by decide +kernel
theorem dX4_trace_4 : decode cX4_trace 4 = .ok (.getfield 224, 3) := by decide +kernel
theorem dX4_trace_7 : decode cX4_trace 7 = .ok (.iconst 1, 1) := by decide +kernel
theorem dX4_trace_8 : decode cX4_trace 8 = .ok (.isub, 1) := by decide +kernel
theorem dX4_trace_9 : decode cX4_trace 9 = .ok (.i2l, 1) := by decide +kernel
theorem dX4_trace_10 : decode cX4_trace 10 = .ok (.invokestatic 60, 3) := by decide +kernel
theorem dX4_trace_13 : decode cX4_trace 13 = .ok (.ifCond .eq 12, 3) := by decide +kernel
theorem dX4_trace_16 : decode cX4_trace 16 = .ok (.aload_n 0, 1) := by decide +kernel
theorem dX4_trace_17 : decode cX4_trace 17 = .ok (.getfield 50, 3) := by decide +kernel
theorem dX4_trace_20 : decode cX4_trace 20 = .ok (.iload_n 1, 1) := by decide +kernel
theorem dX4_trace_21 : decode cX4_trace 21 = .ok (.iaload, 1) := by decide +kernel
theorem dX4_trace_22 : decode cX4_trace 22 = .ok (.goto 5, 3) := by decide +kernel
theorem dX4_trace_25 : decode cX4_trace 25 = .ok (.ldc 127, 2) := by decide +kernel
theorem dX4_trace_27 : decode cX4_trace 27 = .ok (.ireturn, 1) := by decide +kernel
theorem dX4_count_0 : decode cX4_count 0 = .ok (.iconst 0, 1) := by decide +kernel
theorem dX4_count_1 : decode cX4_count 1 = .ok (.istore_n 2, 1) := by decide +kernel
theorem dX4_count_2 : decode cX4_count 2 = .ok (.iconst 0, 1) := by decide +kernel
theorem dX4_count_3 : decode cX4_count 3 = .ok (.istore_n 3, 1) := by decide +kernel
theorem dX4_count_4 : decode cX4_count 4 = .ok (.iload_n 3, 1) := by decide +kernel
theorem dX4_count_5 : decode cX4_count 5 = .ok (.bipush 8, 2) := by decide +kernel
theorem dX4_count_7 : decode cX4_count 7 = .ok (.if_icmp .ge 26, 3) := by decide +kernel
theorem dX4_count_10 : decode cX4_count 10 = .ok (.iload_n 2, 1) := by decide +kernel
theorem dX4_count_11 : decode cX4_count 11 = .ok (.aload_n 0, 1) := by decide +kernel
theorem dX4_count_12 : decode cX4_count 12 = .ok (.getfield 13, 3) := by decide +kernel
theorem dX4_count_15 : decode cX4_count 15 = .ok (.iload_n 3, 1) := by decide +kernel
theorem dX4_count_16 : decode cX4_count 16 = .ok (.iaload, 1) := by decide +kernel
theorem dX4_count_17 : decode cX4_count 17 = .ok (.ifCond .lt 7, 3) := by decide +kernel
theorem dX4_count_20 : decode cX4_count 20 = .ok (.iconst 1, 1) := by decide +kernel
theorem dX4_count_21 : decode cX4_count 21 = .ok (.goto 4, 3) := by decide +kernel
theorem dX4_count_24 : decode cX4_count 24 = .ok (.iconst 0, 1) := by decide +kernel
theorem dX4_count_25 : decode cX4_count 25 = .ok (.iadd, 1) := by decide +kernel
theorem dX4_count_26 : decode cX4_count 26 = .ok (.istore_n 2, 1) := by decide +kernel
theorem dX4_count_27 : decode cX4_count 27 = .ok (.iinc 3 1, 3) := by decide +kernel
theorem dX4_count_30 : decode cX4_count 30 = .ok (.goto (-26), 3) := by decide +kernel
theorem dX4_count_33 : decode cX4_count 33 = .ok (.iload_n 1, 1) := by decide +kernel
theorem dX4_count_34 : decode cX4_count 34 = .ok (.tableswitch 91 0 7 #[46, 48, 55, 62, 69, 76, 81, 86], 46) := by decide +kernel
theorem dX4_count_80 : decode cX4_count 80 = .ok (.iload_n 2, 1) := by decide +kernel
theorem dX4_count_81 : decode cX4_count 81 = .ok (.ireturn, 1) := by decide +kernel
theorem dX4_count_82 : decode cX4_count 82 = .ok (.aload_n 0, 1) := by decide +kernel
theorem dX4_count_83 : decode cX4_count 83 = .ok (.getfield 19, 3) := by decide +kernel
theorem dX4_count_86 : decode cX4_count 86 = .ok (.iconst 1, 1) := by decide +kernel
theorem dX4_count_87 : decode cX4_count 87 = .ok (.iaload, 1) := by decide +kernel
theorem dX4_count_88 : decode cX4_count 88 = .ok (.ireturn, 1) := by decide +kernel
theorem dX4_count_89 : decode cX4_count 89 = .ok (.aload_n 0, 1) := by decide +kernel
theorem dX4_count_90 : decode cX4_count 90 = .ok (.getfield 19, 3) := by decide +kernel
theorem dX4_count_93 : decode cX4_count 93 = .ok (.iconst 2, 1) := by decide +kernel
theorem dX4_count_94 : decode cX4_count 94 = .ok (.iaload, 1) := by decide +kernel
theorem dX4_count_95 : decode cX4_count 95 = .ok (.ireturn, 1) := by decide +kernel
theorem dX4_count_96 : decode cX4_count 96 = .ok (.aload_n 0, 1) := by decide +kernel
theorem dX4_count_97 : decode cX4_count 97 = .ok (.getfield 19, 3) := by decide +kernel
theorem dX4_count_100 : decode cX4_count 100 = .ok (.iconst 3, 1) := by decide +kernel
theorem dX4_count_101 : decode cX4_count 101 = .ok (.iaload, 1) := by decide +kernel
theorem dX4_count_102 : decode cX4_count 102 = .ok (.ireturn, 1) := by decide +kernel
theorem dX4_count_103 : decode cX4_count 103 = .ok (.aload_n 0, 1) := by decide +kernel
theorem dX4_count_104 : decode cX4_count 104 = .ok (.getfield 19, 3) := by decide +kernel
theorem dX4_count_107 : decode cX4_count 107 = .ok (.iconst 0, 1) := by decide +kernel
theorem dX4_count_108 : decode cX4_count 108 = .ok (.iaload, 1) := by decide +kernel
theorem dX4_count_109 : decode cX4_count 109 = .ok (.ireturn, 1) := by decide +kernel
theorem dX4_count_110 : decode cX4_count 110 = .ok (.aload_n 0, 1) := by decide +kernel
theorem dX4_count_111 : decode cX4_count 111 = .ok (.invokevirtual 167, 3) := by decide +kernel
theorem dX4_count_114 : decode cX4_count 114 = .ok (.ireturn, 1) := by decide +kernel
theorem dX4_count_115 : decode cX4_count 115 = .ok (.aload_n 0, 1) := by decide +kernel
theorem dX4_count_116 : decode cX4_count 116 = .ok (.getfield 146, 3) := by decide +kernel
theorem dX4_count_119 : decode cX4_count 119 = .ok (.ireturn, 1) := by decide +kernel
theorem dX4_count_120 : decode cX4_count 120 = .ok (.aload_n 0, 1) := by decide +kernel
theorem dX4_count_121 : decode cX4_count 121 = .ok (.getfield 84, 3) := by decide +kernel
theorem dX4_count_124 : decode cX4_count 124 = .ok (.ireturn, 1) := by decide +kernel
theorem dX4_count_125 : decode cX4_count 125 = .ok (.ldc 70, 2) := by decide +kernel
theorem dX4_count_127 : decode cX4_count 127 = .ok (.ireturn, 1) := by decide +kernel
theorem dX4_status_0 : decode cX4_status 0 = .ok (.aload_n 0, 1) := by decide +kernel
theorem dX4_status_1 : decode cX4_status 1 = .ok (.getfield 53, 3) := by decide +kernel
theorem dX4_status_4 : decode cX4_status 4 = .ok (.ireturn, 1) := by decide +kernel
