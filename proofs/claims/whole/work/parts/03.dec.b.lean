theorem dX3_init_0 : decode cX3_init 0 = .ok (.aload_n 0, 1) := by decide +kernel
theorem dX3_init_1 : decode cX3_init 1 = .ok (.invokespecial 1, 3) := by decide +kernel
theorem dX3_init_4 : decode cX3_init 4 = .ok (.aload_n 0, 1) := by decide +kernel
theorem dX3_init_5 : decode cX3_init 5 = .ok (.bipush 8, 2) := by decide +kernel
theorem dX3_init_7 : decode cX3_init 7 = .ok (.anewarray 9, 3) := by decide +kernel
theorem dX3_init_10 : decode cX3_init 10 = .ok (.putfield 11, 3) := by decide +kernel
theorem dX3_init_13 : decode cX3_init 13 = .ok (.aload_n 0, 1) := by decide +kernel
theorem dX3_init_14 : decode cX3_init 14 = .ok (.new 15, 3) := by decide +kernel
theorem dX3_init_17 : decode cX3_init 17 = .ok (.dup, 1) := by decide +kernel
theorem dX3_init_18 : decode cX3_init 18 = .ok (.invokespecial 17, 3) := by decide +kernel
theorem dX3_init_21 : decode cX3_init 21 = .ok (.putfield 18, 3) := by decide +kernel
theorem dX3_init_24 : decode cX3_init 24 = .ok (.aload_n 0, 1) := by decide +kernel
theorem dX3_init_25 : decode cX3_init 25 = .ok (.new 22, 3) := by decide +kernel
theorem dX3_init_28 : decode cX3_init 28 = .ok (.dup, 1) := by decide +kernel
theorem dX3_init_29 : decode cX3_init 29 = .ok (.invokespecial 24, 3) := by decide +kernel
theorem dX3_init_32 : decode cX3_init 32 = .ok (.putfield 25, 3) := by decide +kernel
theorem dX3_init_35 : decode cX3_init 35 = .ok (.aload_n 0, 1) := by decide +kernel
theorem dX3_init_36 : decode cX3_init 36 = .ok (.new 22, 3) := by decide +kernel
theorem dX3_init_39 : decode cX3_init 39 = .ok (.dup, 1) := by decide +kernel
theorem dX3_init_40 : decode cX3_init 40 = .ok (.invokespecial 24, 3) := by decide +kernel
theorem dX3_init_43 : decode cX3_init 43 = .ok (.putfield 29, 3) := by decide +kernel
theorem dX3_init_46 : decode cX3_init 46 = .ok (.aload_n 0, 1) := by decide +kernel
theorem dX3_init_47 : decode cX3_init 47 = .ok (.iconst 2, 1) := by decide +kernel
theorem dX3_init_48 : decode cX3_init 48 = .ok (.anewarray 22, 3) := by decide +kernel
theorem dX3_init_51 : decode cX3_init 51 = .ok (.putfield 32, 3) := by decide +kernel
theorem dX3_init_54 : decode cX3_init 54 = .ok (.aload_n 0, 1) := by decide +kernel
theorem dX3_init_55 : decode cX3_init 55 = .ok (.bipush 24, 2) := by decide +kernel
theorem dX3_init_57 : decode cX3_init 57 = .ok (.bipush 19, 2) := by decide +kernel
theorem dX3_init_59 : decode cX3_init 59 = .ok (.multianewarray 36 2, 4) := by decide +kernel
theorem dX3_init_63 : decode cX3_init 63 = .ok (.putfield 38, 3) := by decide +kernel
theorem dX3_init_66 : decode cX3_init 66 = .ok (.aload_n 0, 1) := by decide +kernel
theorem dX3_init_67 : decode cX3_init 67 = .ok (.iconst 0, 1) := by decide +kernel
theorem dX3_init_68 : decode cX3_init 68 = .ok (.putfield 41, 3) := by decide +kernel
theorem dX3_init_71 : decode cX3_init 71 = .ok (.aload_n 0, 1) := by decide +kernel
theorem dX3_init_72 : decode cX3_init 72 = .ok (.iconst 0, 1) := by decide +kernel
theorem dX3_init_73 : decode cX3_init 73 = .ok (.putfield 45, 3) := by decide +kernel
theorem dX3_init_76 : decode cX3_init 76 = .ok (.aload_n 0, 1) := by decide +kernel
theorem dX3_init_77 : decode cX3_init 77 = .ok (.iconst 3, 1) := by decide +kernel
theorem dX3_init_78 : decode cX3_init 78 = .ok (.newarray .int, 2) := by decide +kernel
theorem dX3_init_80 : decode cX3_init 80 = .ok (.putfield 48, 3) := by decide +kernel
theorem dX3_init_83 : decode cX3_init 83 = .ok (.aload_n 0, 1) := by decide +kernel
theorem dX3_init_84 : decode cX3_init 84 = .ok (.bipush 16, 2) := by decide +kernel
theorem dX3_init_86 : decode cX3_init 86 = .ok (.newarray .int, 2) := by decide +kernel
theorem dX3_init_88 : decode cX3_init 88 = .ok (.putfield 52, 3) := by decide +kernel
theorem dX3_init_91 : decode cX3_init 91 = .ok (.aload_n 0, 1) := by decide +kernel
theorem dX3_init_92 : decode cX3_init 92 = .ok (.iconst 4, 1) := by decide +kernel
theorem dX3_init_93 : decode cX3_init 93 = .ok (.bipush 19, 2) := by decide +kernel
theorem dX3_init_95 : decode cX3_init 95 = .ok (.multianewarray 36 2, 4) := by decide +kernel
theorem dX3_init_99 : decode cX3_init 99 = .ok (.putfield 55, 3) := by decide +kernel
theorem dX3_init_102 : decode cX3_init 102 = .ok (.aload_n 0, 1) := by decide +kernel
theorem dX3_init_103 : decode cX3_init 103 = .ok (.iconst 0, 1) := by decide +kernel
theorem dX3_init_104 : decode cX3_init 104 = .ok (.putfield 58, 3) := by decide +kernel
theorem dX3_init_107 : decode cX3_init 107 = .ok (.aload_n 0, 1) := by decide +kernel
theorem dX3_init_108 : decode cX3_init 108 = .ok (.iconst 0, 1) := by decide +kernel
theorem dX3_init_109 : decode cX3_init 109 = .ok (.putfield 61, 3) := by decide +kernel
theorem dX3_init_112 : decode cX3_init 112 = .ok (.aload_n 0, 1) := by decide +kernel
theorem dX3_init_113 : decode cX3_init 113 = .ok (.iconst 0, 1) := by decide +kernel
theorem dX3_init_114 : decode cX3_init 114 = .ok (.putfield 64, 3) := by decide +kernel
theorem dX3_init_117 : decode cX3_init 117 = .ok (.aload_n 0, 1) := by decide +kernel
theorem dX3_init_118 : decode cX3_init 118 = .ok (.bipush 16, 2) := by decide +kernel
theorem dX3_init_120 : decode cX3_init 120 = .ok (.newarray .int, 2) := by decide +kernel
theorem dX3_init_122 : decode cX3_init 122 = .ok (.putfield 67, 3) := by decide +kernel
theorem dX3_init_125 : decode cX3_init 125 = .ok (.aload_n 0, 1) := by decide +kernel
theorem dX3_init_126 : decode cX3_init 126 = .ok (.iconst 0, 1) := by decide +kernel
theorem dX3_init_127 : decode cX3_init 127 = .ok (.putfield 70, 3) := by decide +kernel
theorem dX3_init_130 : decode cX3_init 130 = .ok (.aload_n 0, 1) := by decide +kernel
theorem dX3_init_131 : decode cX3_init 131 = .ok (.iconst 0, 1) := by decide +kernel
theorem dX3_init_132 : decode cX3_init 132 = .ok (.putfield 73, 3) := by decide +kernel
theorem dX3_init_135 : decode cX3_init 135 = .ok (.aload_n 0, 1) := by decide +kernel
theorem dX3_init_136 : decode cX3_init 136 = .ok (.iconst 0, 1) := by decide +kernel
theorem dX3_init_137 : decode cX3_init 137 = .ok (.putfield 76, 3) := by decide +kernel
theorem dX3_init_140 : decode cX3_init 140 = .ok (.iconst 0, 1) := by decide +kernel
theorem dX3_init_141 : decode cX3_init 141 = .ok (.istore_n 1, 1) := by decide +kernel
theorem dX3_init_142 : decode cX3_init 142 = .ok (.iload_n 1, 1) := by decide +kernel
theorem dX3_init_143 : decode cX3_init 143 = .ok (.bipush 8, 2) := by decide +kernel
theorem dX3_init_145 : decode cX3_init 145 = .ok (.if_icmp .ge 22, 3) := by decide +kernel
theorem dX3_init_148 : decode cX3_init 148 = .ok (.aload_n 0, 1) := by decide +kernel
theorem dX3_init_149 : decode cX3_init 149 = .ok (.getfield 11, 3) := by decide +kernel
theorem dX3_init_152 : decode cX3_init 152 = .ok (.iload_n 1, 1) := by decide +kernel
theorem dX3_init_153 : decode cX3_init 153 = .ok (.new 9, 3) := by decide +kernel
theorem dX3_init_156 : decode cX3_init 156 = .ok (.dup, 1) := by decide +kernel
theorem dX3_init_157 : decode cX3_init 157 = .ok (.invokespecial 79, 3) := by decide +kernel
theorem dX3_init_160 : decode cX3_init 160 = .ok (.aastore, 1) := by decide +kernel
theorem dX3_init_161 : decode cX3_init 161 = .ok (.iinc 1 1, 3) := by decide +kernel
theorem dX3_init_164 : decode cX3_init 164 = .ok (.goto (-22), 3) := by decide +kernel
theorem dX3_init_167 : decode cX3_init 167 = .ok (.iconst 0, 1) := by decide +kernel
theorem dX3_init_168 : decode cX3_init 168 = .ok (.istore_n 1, 1) := by decide +kernel
theorem dX3_init_169 : decode cX3_init 169 = .ok (.iload_n 1, 1) := by decide +kernel
theorem dX3_init_170 : decode cX3_init 170 = .ok (.iconst 2, 1) := by decide +kernel
theorem dX3_init_171 : decode cX3_init 171 = .ok (.if_icmp .ge 22, 3) := by decide +kernel
theorem dX3_init_174 : decode cX3_init 174 = .ok (.aload_n 0, 1) := by decide +kernel
theorem dX3_init_175 : decode cX3_init 175 = .ok (.getfield 32, 3) := by decide +kernel
theorem dX3_init_178 : decode cX3_init 178 = .ok (.iload_n 1, 1) := by decide +kernel
theorem dX3_init_179 : decode cX3_init 179 = .ok (.new 22, 3) := by decide +kernel
theorem dX3_init_182 : decode cX3_init 182 = .ok (.dup, 1) := by decide +kernel
theorem dX3_init_183 : decode cX3_init 183 = .ok (.invokespecial 24, 3) := by decide +kernel
theorem dX3_init_186 : decode cX3_init 186 = .ok (.aastore, 1) := by decide +kernel
theorem dX3_init_187 : decode cX3_init 187 = .ok (.iinc 1 1, 3) := by decide +kernel
theorem dX3_init_190 : decode cX3_init 190 = .ok (.goto (-21), 3) := by decide +kernel
theorem dX3_init_193 : decode cX3_init 193 = .ok (.return_, 1) := by decide +kernel
theorem dX3_row_0 : decode cX3_row 0 = .ok (.iload_n 1, 1) := by decide +kernel
theorem dX3_row_1 : decode cX3_row 1 = .ok (.bipush 8, 2) := by decide +kernel
theorem dX3_row_3 : decode cX3_row 3 = .ok (.invokestatic 80, 3) := by decide +kernel
theorem dX3_row_6 : decode cX3_row 6 = .ok (.ifCond .ne 17, 3) := by decide +kernel
theorem dX3_row_9 : decode cX3_row 9 = .ok (.iload_n 2, 1) := by decide +kernel
theorem dX3_row_10 : decode cX3_row 10 = .ok (.iconst 3, 1) := by decide +kernel
theorem dX3_row_11 : decode cX3_row 11 = .ok (.invokestatic 80, 3) := by decide +kernel
theorem dX3_row_14 : decode cX3_row 14 = .ok (.ifCond .ne 9, 3) := by decide +kernel
theorem dX3_row_17 : decode cX3_row 17 = .ok (.iload_n 3, 1) := by decide +kernel
theorem dX3_row_18 : decode cX3_row 18 = .ok (.bipush 40, 2) := by decide +kernel
theorem dX3_row_20 : decode cX3_row 20 = .ok (.if_icmp .le 6, 3) := by decide +kernel
theorem dX3_row_23 : decode cX3_row 23 = .ok (.ldc 84, 2) := by decide +kernel
theorem dX3_row_25 : decode cX3_row 25 = .ok (.ireturn, 1) := by decide +kernel
theorem dX3_row_26 : decode cX3_row 26 = .ok (.iload_n 3, 1) := by decide +kernel
theorem dX3_row_27 : decode cX3_row 27 = .ok (.ifCond .ge 9, 3) := by decide +kernel
theorem dX3_row_30 : decode cX3_row 30 = .ok (.aload_n 0, 1) := by decide +kernel
theorem dX3_row_31 : decode cX3_row 31 = .ok (.iconst 4, 1) := by decide +kernel
theorem dX3_row_32 : decode cX3_row 32 = .ok (.invokevirtual 85, 3) := by decide +kernel
theorem dX3_row_35 : decode cX3_row 35 = .ok (.ireturn, 1) := by decide +kernel
theorem dX3_row_36 : decode cX3_row 36 = .ok (.aload_n 0, 1) := by decide +kernel
theorem dX3_row_37 : decode cX3_row 37 = .ok (.getfield 11, 3) := by decide +kernel
theorem dX3_row_40 : decode cX3_row 40 = .ok (.iload_n 1, 1) := by decide +kernel
theorem dX3_row_41 : decode cX3_row 41 = .ok (.aaload, 1) := by decide +kernel
theorem dX3_row_42 : decode cX3_row 42 = .ok (.iload_n 2, 1) := by decide +kernel
theorem dX3_row_43 : decode cX3_row 43 = .ok (.iload_n 3, 1) := by decide +kernel
theorem dX3_row_44 : decode cX3_row 44 = .ok (.invokevirtual 89, 3) := by decide +kernel
theorem dX3_row_47 : decode cX3_row 47 = .ok (.aload_n 0, 1) := by decide +kernel
theorem dX3_row_48 : decode cX3_row 48 = .ok (.iload_n 3, 1) := by decide +kernel
theorem dX3_row_49 : decode cX3_row 49 = .ok (.invokevirtual 93, 3) := by decide +kernel
theorem dX3_row_52 : decode cX3_row 52 = .ok (.ireturn, 1) := by decide +kernel
theorem dX3_set_0 : decode cX3_set 0 = .ok (.iload_n 1, 1) := by decide +kernel
theorem dX3_set_1 : decode cX3_set 1 = .ok (.bipush 8, 2) := by decide +kernel
theorem dX3_set_3 : decode cX3_set 3 = .ok (.invokestatic 80, 3) := by decide +kernel
theorem dX3_set_6 : decode cX3_set 6 = .ok (.ifCond .eq 6, 3) := by decide +kernel
theorem dX3_set_9 : decode cX3_set 9 = .ok (.ldc 84, 2) := by decide +kernel
theorem dX3_set_11 : decode cX3_set 11 = .ok (.ireturn, 1) := by decide +kernel
theorem dX3_set_12 : decode cX3_set 12 = .ok (.aload_n 0, 1) := by decide +kernel
theorem dX3_set_13 : decode cX3_set 13 = .ok (.getfield 11, 3) := by decide +kernel
theorem dX3_set_16 : decode cX3_set 16 = .ok (.iload_n 1, 1) := by decide +kernel
theorem dX3_set_17 : decode cX3_set 17 = .ok (.aaload, 1) := by decide +kernel
theorem dX3_set_18 : decode cX3_set 18 = .ok (.astore 4, 2) := by decide +kernel
theorem dX3_set_20 : decode cX3_set 20 = .ok (.aload 4, 2) := by decide +kernel
theorem dX3_set_22 : decode cX3_set 22 = .ok (.getfield 96, 3) := by decide +kernel
theorem dX3_set_25 : decode cX3_set 25 = .ok (.ifCond .ne 9, 3) := by decide +kernel
theorem dX3_set_28 : decode cX3_set 28 = .ok (.aload_n 0, 1) := by decide +kernel
theorem dX3_set_29 : decode cX3_set 29 = .ok (.iconst 1, 1) := by decide +kernel
theorem dX3_set_30 : decode cX3_set 30 = .ok (.invokevirtual 85, 3) := by decide +kernel
theorem dX3_set_33 : decode cX3_set 33 = .ok (.ireturn, 1) := by decide +kernel
theorem dX3_set_34 : decode cX3_set 34 = .ok (.aload 4, 2) := by decide +kernel
theorem dX3_set_36 : decode cX3_set 36 = .ok (.iload_n 2, 1) := by decide +kernel
theorem dX3_set_37 : decode cX3_set 37 = .ok (.iconst 1, 1) := by decide +kernel
theorem dX3_set_38 : decode cX3_set 38 = .ok (.invokevirtual 100, 3) := by decide +kernel
theorem dX3_set_41 : decode cX3_set 41 = .ok (.ifCond .ne 9, 3) := by decide +kernel
theorem dX3_set_44 : decode cX3_set 44 = .ok (.aload_n 0, 1) := by decide +kernel
theorem dX3_set_45 : decode cX3_set 45 = .ok (.iconst 2, 1) := by decide +kernel
theorem dX3_set_46 : decode cX3_set 46 = .ok (.invokevirtual 85, 3) := by decide +kernel
theorem dX3_set_49 : decode cX3_set 49 = .ok (.ireturn, 1) := by decide +kernel
theorem dX3_set_50 : decode cX3_set 50 = .ok (.aload 4, 2) := by decide +kernel
theorem dX3_set_52 : decode cX3_set 52 = .ok (.getfield 103, 3) := by decide +kernel
theorem dX3_set_55 : decode cX3_set 55 = .ok (.iload_n 2, 1) := by decide +kernel
theorem dX3_set_56 : decode cX3_set 56 = .ok (.aload 4, 2) := by decide +kernel
theorem dX3_set_58 : decode cX3_set 58 = .ok (.iload_n 3, 1) := by decide +kernel
theorem dX3_set_59 : decode cX3_set 59 = .ok (.invokevirtual 106, 3) := by decide +kernel
theorem dX3_set_62 : decode cX3_set 62 = .ok (.iastore, 1) := by decide +kernel
theorem dX3_set_63 : decode cX3_set 63 = .ok (.aload_n 0, 1) := by decide +kernel
theorem dX3_set_64 : decode cX3_set 64 = .ok (.aload 4, 2) := by decide +kernel
theorem dX3_set_66 : decode cX3_set 66 = .ok (.getfield 103, 3) := by decide +kernel
theorem dX3_set_69 : decode cX3_set 69 = .ok (.iload_n 2, 1) := by decide +kernel
theorem dX3_set_70 : decode cX3_set 70 = .ok (.iaload, 1) := by decide +kernel
theorem dX3_set_71 : decode cX3_set 71 = .ok (.invokevirtual 93, 3) := by decide +kernel
theorem dX3_set_74 : decode cX3_set 74 = .ok (.ireturn, 1) := by decide +kernel
theorem dX3_copy_0 : decode cX3_copy 0 = .ok (.iload_n 1, 1) := by decide +kernel
theorem dX3_copy_1 : decode cX3_copy 1 = .ok (.bipush 8, 2) := by decide +kernel
theorem dX3_copy_3 : decode cX3_copy 3 = .ok (.invokestatic 80, 3) := by decide +kernel
theorem dX3_copy_6 : decode cX3_copy 6 = .ok (.ifCond .ne 12, 3) := by decide +kernel
theorem dX3_copy_9 : decode cX3_copy 9 = .ok (.iload_n 3, 1) := by decide +kernel
theorem dX3_copy_10 : decode cX3_copy 10 = .ok (.bipush 8, 2) := by decide +kernel
theorem dX3_copy_12 : decode cX3_copy 12 = .ok (.invokestatic 80, 3) := by decide +kernel
theorem dX3_copy_15 : decode cX3_copy 15 = .ok (.ifCond .eq 6, 3) := by decide +kernel
theorem dX3_copy_18 : decode cX3_copy 18 = .ok (.ldc 84, 2) := by decide +kernel
theorem dX3_copy_20 : decode cX3_copy 20 = .ok (.ireturn, 1) := by decide +kernel
theorem dX3_copy_21 : decode cX3_copy 21 = .ok (.aload_n 0, 1) := by decide +kernel
theorem dX3_copy_22 : decode cX3_copy 22 = .ok (.getfield 11, 3) := by decide +kernel
theorem dX3_copy_25 : decode cX3_copy 25 = .ok (.iload_n 1, 1) := by decide +kernel
theorem dX3_copy_26 : decode cX3_copy 26 = .ok (.aaload, 1) := by decide +kernel
theorem dX3_copy_27 : decode cX3_copy 27 = .ok (.astore 6, 2) := by decide +kernel
theorem dX3_copy_29 : decode cX3_copy 29 = .ok (.aload_n 0, 1) := by decide +kernel
theorem dX3_copy_30 : decode cX3_copy 30 = .ok (.getfield 11, 3) := by decide +kernel
theorem dX3_copy_33 : decode cX3_copy 33 = .ok (.iload_n 3, 1) := by decide +kernel
theorem dX3_copy_34 : decode cX3_copy 34 = .ok (.aaload, 1) := by decide +kernel
theorem dX3_copy_35 : decode cX3_copy 35 = .ok (.astore 7, 2) := by decide +kernel
theorem dX3_copy_37 : decode cX3_copy 37 = .ok (.aload 6, 2) := by decide +kernel
theorem dX3_copy_39 : decode cX3_copy 39 = .ok (.getfield 96, 3) := by decide +kernel
theorem dX3_copy_42 : decode cX3_copy 42 = .ok (.ifCond .eq 11, 3) := by decide +kernel
theorem dX3_copy_45 : decode cX3_copy 45 = .ok (.aload 7, 2) := by decide +kernel
theorem dX3_copy_47 : decode cX3_copy 47 = .ok (.getfield 96, 3) := by decide +kernel
theorem dX3_copy_50 : decode cX3_copy 50 = .ok (.ifCond .ne 9, 3) := by decide +kernel
theorem dX3_copy_53 : decode cX3_copy 53 = .ok (.aload_n 0, 1) := by decide +kernel
theorem dX3_copy_54 : decode cX3_copy 54 = .ok (.iconst 1, 1) := by decide +kernel
theorem dX3_copy_55 : decode cX3_copy 55 = .ok (.invokevirtual 85, 3) := by decide +kernel
theorem dX3_copy_58 : decode cX3_copy 58 = .ok (.ireturn, 1) := by decide +kernel
theorem dX3_copy_59 : decode cX3_copy 59 = .ok (.aload 6, 2) := by decide +kernel
theorem dX3_copy_61 : decode cX3_copy 61 = .ok (.getfield 109, 3) := by decide +kernel
theorem dX3_copy_64 : decode cX3_copy 64 = .ok (.aload 7, 2) := by decide +kernel
theorem dX3_copy_66 : decode cX3_copy 66 = .ok (.getfield 109, 3) := by decide +kernel
theorem dX3_copy_69 : decode cX3_copy 69 = .ok (.if_icmp .eq 9, 3) := by decide +kernel
theorem dX3_copy_72 : decode cX3_copy 72 = .ok (.aload_n 0, 1) := by decide +kernel
theorem dX3_copy_73 : decode cX3_copy 73 = .ok (.iconst 5, 1) := by decide +kernel
theorem dX3_copy_74 : decode cX3_copy 74 = .ok (.invokevirtual 85, 3) := by decide +kernel
theorem dX3_copy_77 : decode cX3_copy 77 = .ok (.ireturn, 1) := by decide +kernel
theorem dX3_copy_78 : decode cX3_copy 78 = .ok (.aload 6, 2) := by decide +kernel
theorem dX3_copy_80 : decode cX3_copy 80 = .ok (.iload_n 2, 1) := by decide +kernel
theorem dX3_copy_81 : decode cX3_copy 81 = .ok (.iload 5, 2) := by decide +kernel
theorem dX3_copy_83 : decode cX3_copy 83 = .ok (.invokevirtual 100, 3) := by decide +kernel
theorem dX3_copy_86 : decode cX3_copy 86 = .ok (.ifCond .eq 15, 3) := by decide +kernel
theorem dX3_copy_89 : decode cX3_copy 89 = .ok (.aload 7, 2) := by decide +kernel
theorem dX3_copy_91 : decode cX3_copy 91 = .ok (.iload 4, 2) := by decide +kernel
theorem dX3_copy_93 : decode cX3_copy 93 = .ok (.iload 5, 2) := by decide +kernel
theorem dX3_copy_95 : decode cX3_copy 95 = .ok (.invokevirtual 100, 3) := by decide +kernel
theorem dX3_copy_98 : decode cX3_copy 98 = .ok (.ifCond .ne 9, 3) := by decide +kernel
theorem dX3_copy_101 : decode cX3_copy 101 = .ok (.aload_n 0, 1) := by decide +kernel
theorem dX3_copy_102 : decode cX3_copy 102 = .ok (.iconst 2, 1) := by decide +kernel
theorem dX3_copy_103 : decode cX3_copy 103 = .ok (.invokevirtual 85, 3) := by decide +kernel
theorem dX3_copy_106 : decode cX3_copy 106 = .ok (.ireturn, 1) := by decide +kernel
theorem dX3_copy_107 : decode cX3_copy 107 = .ok (.aload 6, 2) := by decide +kernel
theorem dX3_copy_109 : decode cX3_copy 109 = .ok (.getfield 103, 3) := by decide +kernel
theorem dX3_copy_112 : decode cX3_copy 112 = .ok (.iload_n 2, 1) := by decide +kernel
theorem dX3_copy_113 : decode cX3_copy 113 = .ok (.aload 7, 2) := by decide +kernel
theorem dX3_copy_115 : decode cX3_copy 115 = .ok (.getfield 103, 3) := by decide +kernel
theorem dX3_copy_118 : decode cX3_copy 118 = .ok (.iload 4, 2) := by decide +kernel
theorem dX3_copy_120 : decode cX3_copy 120 = .ok (.iload 5, 2) := by decide +kernel
theorem dX3_copy_122 : decode cX3_copy 122 = .ok (.invokestatic 112, 3) := by decide +kernel
theorem dX3_copy_125 : decode cX3_copy 125 = .ok (.aload_n 0, 1) := by decide +kernel
theorem dX3_copy_126 : decode cX3_copy 126 = .ok (.iload 5, 2) := by decide +kernel
theorem dX3_copy_128 : decode cX3_copy 128 = .ok (.invokevirtual 93, 3) := by decide +kernel
theorem dX3_copy_131 : decode cX3_copy 131 = .ok (.ireturn, 1) := by decide +kernel
theorem dX3_drop_0 : decode cX3_drop 0 = .ok (.iload_n 1, 1) := by decide +kernel
theorem dX3_drop_1 : decode cX3_drop 1 = .ok (.bipush 8, 2) := by decide +kernel
theorem dX3_drop_3 : decode cX3_drop 3 = .ok (.invokestatic 80, 3) := by decide +kernel
theorem dX3_drop_6 : decode cX3_drop 6 = .ok (.ifCond .eq 6, 3) := by decide +kernel
theorem dX3_drop_9 : decode cX3_drop 9 = .ok (.ldc 84, 2) := by decide +kernel
theorem dX3_drop_11 : decode cX3_drop 11 = .ok (.ireturn, 1) := by decide +kernel
theorem dX3_drop_12 : decode cX3_drop 12 = .ok (.aload_n 0, 1) := by decide +kernel
theorem dX3_drop_13 : decode cX3_drop 13 = .ok (.getfield 11, 3) := by decide +kernel
theorem dX3_drop_16 : decode cX3_drop 16 = .ok (.iload_n 1, 1) := by decide +kernel
theorem dX3_drop_17 : decode cX3_drop 17 = .ok (.aaload, 1) := by decide +kernel
theorem dX3_drop_18 : decode cX3_drop 18 = .ok (.astore_n 2, 1) := by decide +kernel
theorem dX3_drop_19 : decode cX3_drop 19 = .ok (.aload_n 2, 1) := by decide +kernel
theorem dX3_drop_20 : decode cX3_drop 20 = .ok (.getfield 96, 3) := by decide +kernel
theorem dX3_drop_23 : decode cX3_drop 23 = .ok (.ifCond .ne 9, 3) := by decide +kernel
theorem dX3_drop_26 : decode cX3_drop 26 = .ok (.aload_n 0, 1) := by decide +kernel
theorem dX3_drop_27 : decode cX3_drop 27 = .ok (.iconst 1, 1) := by decide +kernel
theorem dX3_drop_28 : decode cX3_drop 28 = .ok (.invokevirtual 85, 3) := by decide +kernel
theorem dX3_drop_31 : decode cX3_drop 31 = .ok (.ireturn, 1) := by decide +kernel
theorem dX3_drop_32 : decode cX3_drop 32 = .ok (.aload_n 2, 1) := by decide +kernel
theorem dX3_drop_33 : decode cX3_drop 33 = .ok (.iconst 0, 1) := by decide +kernel
theorem dX3_drop_34 : decode cX3_drop 34 = .ok (.putfield 96, 3) := by decide +kernel
theorem dX3_drop_37 : decode cX3_drop 37 = .ok (.aload_n 0, 1) := by decide +kernel
theorem dX3_drop_38 : decode cX3_drop 38 = .ok (.aload_n 2, 1) := by decide +kernel
theorem dX3_drop_39 : decode cX3_drop 39 = .ok (.getfield 118, 3) := by decide +kernel
theorem dX3_drop_42 : decode cX3_drop 42 = .ok (.invokevirtual 93, 3) := by decide +kernel
theorem dX3_drop_45 : decode cX3_drop 45 = .ok (.ireturn, 1) := by decide +kernel
theorem dX3_feed_0 : decode cX3_feed 0 = .ok (.iload_n 1, 1) := by decide +kernel
theorem dX3_feed_1 : decode cX3_feed 1 = .ok (.sipush 256, 3) := by decide +kernel
theorem dX3_feed_4 : decode cX3_feed 4 = .ok (.invokestatic 80, 3) := by decide +kernel
theorem dX3_feed_7 : decode cX3_feed 7 = .ok (.ifCond .eq 6, 3) := by decide +kernel
theorem dX3_feed_10 : decode cX3_feed 10 = .ok (.ldc 84, 2) := by decide +kernel
theorem dX3_feed_12 : decode cX3_feed 12 = .ok (.ireturn, 1) := by decide +kernel
theorem dX3_feed_13 : decode cX3_feed 13 = .ok (.aload_n 0, 1) := by decide +kernel
theorem dX3_feed_14 : decode cX3_feed 14 = .ok (.getfield 18, 3) := by decide +kernel
theorem dX3_feed_17 : decode cX3_feed 17 = .ok (.getfield 121, 3) := by decide +kernel
theorem dX3_feed_20 : decode cX3_feed 20 = .ok (.bipush 120, 2) := by decide +kernel
theorem dX3_feed_22 : decode cX3_feed 22 = .ok (.if_icmp .lt 6, 3) := by decide +kernel
theorem dX3_feed_25 : decode cX3_feed 25 = .ok (.ldc 122, 2) := by decide +kernel
theorem dX3_feed_27 : decode cX3_feed 27 = .ok (.ireturn, 1) := by decide +kernel
theorem dX3_feed_28 : decode cX3_feed 28 = .ok (.aload_n 0, 1) := by decide +kernel
theorem dX3_feed_29 : decode cX3_feed 29 = .ok (.getfield 18, 3) := by decide +kernel
theorem dX3_feed_32 : decode cX3_feed 32 = .ok (.getfield 123, 3) := by decide +kernel
theorem dX3_feed_35 : decode cX3_feed 35 = .ok (.aload_n 0, 1) := by decide +kernel
theorem dX3_feed_36 : decode cX3_feed 36 = .ok (.getfield 18, 3) := by decide +kernel
theorem dX3_feed_39 : decode cX3_feed 39 = .ok (.getfield 121, 3) := by decide +kernel
theorem dX3_feed_42 : decode cX3_feed 42 = .ok (.iload_n 1, 1) := by decide +kernel
theorem dX3_feed_43 : decode cX3_feed 43 = .ok (.iastore, 1) := by decide +kernel
theorem dX3_feed_44 : decode cX3_feed 44 = .ok (.aload_n 0, 1) := by decide +kernel
theorem dX3_feed_45 : decode cX3_feed 45 = .ok (.getfield 18, 3) := by decide +kernel
theorem dX3_feed_48 : decode cX3_feed 48 = .ok (.dup, 1) := by decide +kernel
theorem dX3_feed_49 : decode cX3_feed 49 = .ok (.getfield 121, 3) := by decide +kernel
theorem dX3_feed_52 : decode cX3_feed 52 = .ok (.iconst 1, 1) := by decide +kernel
theorem dX3_feed_53 : decode cX3_feed 53 = .ok (.iadd, 1) := by decide +kernel
theorem dX3_feed_54 : decode cX3_feed 54 = .ok (.putfield 121, 3) := by decide +kernel
theorem dX3_feed_57 : decode cX3_feed 57 = .ok (.aload_n 0, 1) := by decide +kernel
theorem dX3_feed_58 : decode cX3_feed 58 = .ok (.getfield 18, 3) := by decide +kernel
theorem dX3_feed_61 : decode cX3_feed 61 = .ok (.getfield 121, 3) := by decide +kernel
theorem dX3_feed_64 : decode cX3_feed 64 = .ok (.ireturn, 1) := by decide +kernel
theorem dX3_kitchen_0 : decode cX3_kitchen 0 = .ok (.aload_n 0, 1) := by decide +kernel
theorem dX3_kitchen_1 : decode cX3_kitchen 1 = .ok (.getfield 18, 3) := by decide +kernel
theorem dX3_kitchen_4 : decode cX3_kitchen 4 = .ok (.aload_n 0, 1) := by decide +kernel
theorem dX3_kitchen_5 : decode cX3_kitchen 5 = .ok (.getfield 29, 3) := by decide +kernel
theorem dX3_kitchen_8 : decode cX3_kitchen 8 = .ok (.invokevirtual 126, 3) := by decide +kernel
theorem dX3_kitchen_11 : decode cX3_kitchen 11 = .ok (.aload_n 0, 1) := by decide +kernel
theorem dX3_kitchen_12 : decode cX3_kitchen 12 = .ok (.getfield 18, 3) := by decide +kernel
theorem dX3_kitchen_15 : decode cX3_kitchen 15 = .ok (.iconst 0, 1) := by decide +kernel
theorem dX3_kitchen_16 : decode cX3_kitchen 16 = .ok (.putfield 121, 3) := by decide +kernel
theorem dX3_kitchen_19 : decode cX3_kitchen 19 = .ok (.aload_n 0, 1) := by decide +kernel
theorem dX3_kitchen_20 : decode cX3_kitchen 20 = .ok (.getfield 18, 3) := by decide +kernel
theorem dX3_kitchen_23 : decode cX3_kitchen 23 = .ok (.getfield 130, 3) := by decide +kernel
theorem dX3_kitchen_26 : decode cX3_kitchen 26 = .ok (.ifCond .eq 25, 3) := by decide +kernel
theorem dX3_kitchen_29 : decode cX3_kitchen 29 = .ok (.aload_n 0, 1) := by decide +kernel
theorem dX3_kitchen_30 : decode cX3_kitchen 30 = .ok (.aload_n 0, 1) := by decide +kernel
theorem dX3_kitchen_31 : decode cX3_kitchen 31 = .ok (.getfield 18, 3) := by decide +kernel
theorem dX3_kitchen_34 : decode cX3_kitchen 34 = .ok (.getfield 130, 3) := by decide +kernel
theorem dX3_kitchen_37 : decode cX3_kitchen 37 = .ok (.putfield 73, 3) := by decide +kernel
theorem dX3_kitchen_40 : decode cX3_kitchen 40 = .ok (.ldc 133, 2) := by decide +kernel
theorem dX3_kitchen_42 : decode cX3_kitchen 42 = .ok (.aload_n 0, 1) := by decide +kernel
theorem dX3_kitchen_43 : decode cX3_kitchen 43 = .ok (.getfield 18, 3) := by decide +kernel
theorem dX3_kitchen_46 : decode cX3_kitchen 46 = .ok (.getfield 134, 3) := by decide +kernel
theorem dX3_kitchen_49 : decode cX3_kitchen 49 = .ok (.isub, 1) := by decide +kernel
theorem dX3_kitchen_50 : decode cX3_kitchen 50 = .ok (.ireturn, 1) := by decide +kernel
theorem dX3_kitchen_51 : decode cX3_kitchen 51 = .ok (.aload_n 0, 1) := by decide +kernel
theorem dX3_kitchen_52 : decode cX3_kitchen 52 = .ok (.getfield 25, 3) := by decide +kernel
theorem dX3_kitchen_55 : decode cX3_kitchen 55 = .ok (.aload_n 0, 1) := by decide +kernel
theorem dX3_kitchen_56 : decode cX3_kitchen 56 = .ok (.getfield 29, 3) := by decide +kernel
theorem dX3_kitchen_59 : decode cX3_kitchen 59 = .ok (.invokevirtual 137, 3) := by decide +kernel
theorem dX3_kitchen_62 : decode cX3_kitchen 62 = .ok (.aload_n 0, 1) := by decide +kernel
theorem dX3_kitchen_63 : decode cX3_kitchen 63 = .ok (.iconst 0, 1) := by decide +kernel
theorem dX3_kitchen_64 : decode cX3_kitchen 64 = .ok (.putfield 41, 3) := by decide +kernel
theorem dX3_kitchen_67 : decode cX3_kitchen 67 = .ok (.aload_n 0, 1) := by decide +kernel
theorem dX3_kitchen_68 : decode cX3_kitchen 68 = .ok (.getfield 25, 3) := by decide +kernel
theorem dX3_kitchen_71 : decode cX3_kitchen 71 = .ok (.getfield 140, 3) := by decide +kernel
theorem dX3_kitchen_74 : decode cX3_kitchen 74 = .ok (.ireturn, 1) := by decide +kernel
theorem dX3_fault_0 : decode cX3_fault 0 = .ok (.aload_n 0, 1) := by decide +kernel
theorem dX3_fault_1 : decode cX3_fault 1 = .ok (.getfield 73, 3) := by decide +kernel
theorem dX3_fault_4 : decode cX3_fault 4 = .ok (.ireturn, 1) := by decide +kernel
theorem dX3_bar_0 : decode cX3_bar 0 = .ok (.aload_n 0, 1) := by decide +kernel
theorem dX3_bar_1 : decode cX3_bar 1 = .ok (.getfield 25, 3) := by decide +kernel
theorem dX3_bar_4 : decode cX3_bar 4 = .ok (.getfield 143, 3) := by decide +kernel
theorem dX3_bar_7 : decode cX3_bar 7 = .ok (.ifCond .ne 6, 3) := by decide +kernel
theorem dX3_bar_10 : decode cX3_bar 10 = .ok (.ldc 146, 2) := by decide +kernel
theorem dX3_bar_12 : decode cX3_bar 12 = .ok (.ireturn, 1) := by decide +kernel
theorem dX3_bar_13 : decode cX3_bar 13 = .ok (.aload_n 0, 1) := by decide +kernel
theorem dX3_bar_14 : decode cX3_bar 14 = .ok (.getfield 48, 3) := by decide +kernel
theorem dX3_bar_17 : decode cX3_bar 17 = .ok (.iconst 0, 1) := by decide +kernel
theorem dX3_bar_18 : decode cX3_bar 18 = .ok (.iload_n 1, 1) := by decide +kernel
theorem dX3_bar_19 : decode cX3_bar 19 = .ok (.iastore, 1) := by decide +kernel
theorem dX3_bar_20 : decode cX3_bar 20 = .ok (.aload_n 0, 1) := by decide +kernel
theorem dX3_bar_21 : decode cX3_bar 21 = .ok (.getfield 48, 3) := by decide +kernel
theorem dX3_bar_24 : decode cX3_bar 24 = .ok (.iconst 1, 1) := by decide +kernel
theorem dX3_bar_25 : decode cX3_bar 25 = .ok (.iload_n 2, 1) := by decide +kernel
theorem dX3_bar_26 : decode cX3_bar 26 = .ok (.iastore, 1) := by decide +kernel
theorem dX3_bar_27 : decode cX3_bar 27 = .ok (.aload_n 0, 1) := by decide +kernel
theorem dX3_bar_28 : decode cX3_bar 28 = .ok (.getfield 48, 3) := by decide +kernel
theorem dX3_bar_31 : decode cX3_bar 31 = .ok (.iconst 2, 1) := by decide +kernel
theorem dX3_bar_32 : decode cX3_bar 32 = .ok (.iload_n 3, 1) := by decide +kernel
theorem dX3_bar_33 : decode cX3_bar 33 = .ok (.iastore, 1) := by decide +kernel
theorem dX3_bar_34 : decode cX3_bar 34 = .ok (.iconst 0, 1) := by decide +kernel
theorem dX3_bar_35 : decode cX3_bar 35 = .ok (.istore 4, 2) := by decide +kernel
theorem dX3_bar_37 : decode cX3_bar 37 = .ok (.iload 4, 2) := by decide +kernel
theorem dX3_bar_39 : decode cX3_bar 39 = .ok (.iconst 3, 1) := by decide +kernel
theorem dX3_bar_40 : decode cX3_bar 40 = .ok (.if_icmp .ge 51, 3) := by decide +kernel
theorem dX3_bar_43 : decode cX3_bar 43 = .ok (.aload_n 0, 1) := by decide +kernel
theorem dX3_bar_44 : decode cX3_bar 44 = .ok (.getfield 48, 3) := by decide +kernel
theorem dX3_bar_47 : decode cX3_bar 47 = .ok (.iload 4, 2) := by decide +kernel
theorem dX3_bar_49 : decode cX3_bar 49 = .ok (.iaload, 1) := by decide +kernel
theorem dX3_bar_50 : decode cX3_bar 50 = .ok (.bipush 8, 2) := by decide +kernel
theorem dX3_bar_52 : decode cX3_bar 52 = .ok (.invokestatic 80, 3) := by decide +kernel
theorem dX3_bar_55 : decode cX3_bar 55 = .ok (.ifCond .ne 27, 3) := by decide +kernel
theorem dX3_bar_58 : decode cX3_bar 58 = .ok (.iload 4, 2) := by decide +kernel
theorem dX3_bar_60 : decode cX3_bar 60 = .ok (.aload_n 0, 1) := by decide +kernel
theorem dX3_bar_61 : decode cX3_bar 61 = .ok (.getfield 25, 3) := by decide +kernel
theorem dX3_bar_64 : decode cX3_bar 64 = .ok (.getfield 147, 3) := by decide +kernel
theorem dX3_bar_67 : decode cX3_bar 67 = .ok (.if_icmp .lt 18, 3) := by decide +kernel
theorem dX3_bar_70 : decode cX3_bar 70 = .ok (.aload_n 0, 1) := by decide +kernel
theorem dX3_bar_71 : decode cX3_bar 71 = .ok (.getfield 48, 3) := by decide +kernel
theorem dX3_bar_74 : decode cX3_bar 74 = .ok (.iload 4, 2) := by decide +kernel
theorem dX3_bar_76 : decode cX3_bar 76 = .ok (.iaload, 1) := by decide +kernel
theorem dX3_bar_77 : decode cX3_bar 77 = .ok (.bipush 7, 2) := by decide +kernel
theorem dX3_bar_79 : decode cX3_bar 79 = .ok (.if_icmp .eq 6, 3) := by decide +kernel
theorem dX3_bar_82 : decode cX3_bar 82 = .ok (.ldc 84, 2) := by decide +kernel
theorem dX3_bar_84 : decode cX3_bar 84 = .ok (.ireturn, 1) := by decide +kernel
theorem dX3_bar_85 : decode cX3_bar 85 = .ok (.iinc 4 1, 3) := by decide +kernel
theorem dX3_bar_88 : decode cX3_bar 88 = .ok (.goto (-51), 3) := by decide +kernel
theorem dX3_bar_91 : decode cX3_bar 91 = .ok (.iconst 0, 1) := by decide +kernel
theorem dX3_bar_92 : decode cX3_bar 92 = .ok (.istore 4, 2) := by decide +kernel
theorem dX3_bar_94 : decode cX3_bar 94 = .ok (.iload 4, 2) := by decide +kernel
theorem dX3_bar_96 : decode cX3_bar 96 = .ok (.aload_n 0, 1) := by decide +kernel
theorem dX3_bar_97 : decode cX3_bar 97 = .ok (.getfield 25, 3) := by decide +kernel
theorem dX3_bar_100 : decode cX3_bar 100 = .ok (.getfield 147, 3) := by decide +kernel
theorem dX3_bar_103 : decode cX3_bar 103 = .ok (.if_icmp .ge 31, 3) := by decide +kernel
theorem dX3_bar_106 : decode cX3_bar 106 = .ok (.aload_n 0, 1) := by decide +kernel
theorem dX3_bar_107 : decode cX3_bar 107 = .ok (.getfield 25, 3) := by decide +kernel
theorem dX3_bar_110 : decode cX3_bar 110 = .ok (.iload 4, 2) := by decide +kernel
theorem dX3_bar_112 : decode cX3_bar 112 = .ok (.aload_n 0, 1) := by decide +kernel
theorem dX3_bar_113 : decode cX3_bar 113 = .ok (.getfield 48, 3) := by decide +kernel
theorem dX3_bar_116 : decode cX3_bar 116 = .ok (.iload 4, 2) := by decide +kernel
theorem dX3_bar_118 : decode cX3_bar 118 = .ok (.iaload, 1) := by decide +kernel
theorem dX3_bar_119 : decode cX3_bar 119 = .ok (.invokevirtual 150, 3) := by decide +kernel
theorem dX3_bar_122 : decode cX3_bar 122 = .ok (.ifCond .ne 6, 3) := by decide +kernel
theorem dX3_bar_125 : decode cX3_bar 125 = .ok (.ldc 146, 2) := by decide +kernel
theorem dX3_bar_127 : decode cX3_bar 127 = .ok (.ireturn, 1) := by decide +kernel
theorem dX3_bar_128 : decode cX3_bar 128 = .ok (.iinc 4 1, 3) := by decide +kernel
theorem dX3_bar_131 : decode cX3_bar 131 = .ok (.goto (-37), 3) := by decide +kernel
theorem dX3_bar_134 : decode cX3_bar 134 = .ok (.aload_n 0, 1) := by decide +kernel
theorem dX3_bar_135 : decode cX3_bar 135 = .ok (.invokevirtual 153, 3) := by decide +kernel
theorem dX3_bar_138 : decode cX3_bar 138 = .ok (.aload_n 0, 1) := by decide +kernel
theorem dX3_bar_139 : decode cX3_bar 139 = .ok (.getfield 25, 3) := by decide +kernel
theorem dX3_bar_142 : decode cX3_bar 142 = .ok (.aload_n 0, 1) := by decide +kernel
theorem dX3_bar_143 : decode cX3_bar 143 = .ok (.getfield 48, 3) := by decide +kernel
theorem dX3_bar_146 : decode cX3_bar 146 = .ok (.invokevirtual 156, 3) := by decide +kernel
theorem dX3_bar_149 : decode cX3_bar 149 = .ok (.aload_n 0, 1) := by decide +kernel
theorem dX3_bar_150 : decode cX3_bar 150 = .ok (.getfield 25, 3) := by decide +kernel
theorem dX3_bar_153 : decode cX3_bar 153 = .ok (.invokevirtual 160, 3) := by decide +kernel
theorem dX3_bar_156 : decode cX3_bar 156 = .ok (.ireturn, 1) := by decide +kernel
theorem dX3_window_0 : decode cX3_window 0 = .ok (.iload_n 1, 1) := by decide +kernel
theorem dX3_window_1 : decode cX3_window 1 = .ok (.aload_n 0, 1) := by decide +kernel
theorem dX3_window_2 : decode cX3_window 2 = .ok (.getfield 25, 3) := by decide +kernel
theorem dX3_window_5 : decode cX3_window 5 = .ok (.getfield 140, 3) := by decide +kernel
theorem dX3_window_8 : decode cX3_window 8 = .ok (.invokestatic 80, 3) := by decide +kernel
theorem dX3_window_11 : decode cX3_window 11 = .ok (.ifCond .ne 25, 3) := by decide +kernel
theorem dX3_window_14 : decode cX3_window 14 = .ok (.iload_n 2, 1) := by decide +kernel
theorem dX3_window_15 : decode cX3_window 15 = .ok (.aload_n 0, 1) := by decide +kernel
theorem dX3_window_16 : decode cX3_window 16 = .ok (.getfield 25, 3) := by decide +kernel
theorem dX3_window_19 : decode cX3_window 19 = .ok (.getfield 147, 3) := by decide +kernel
theorem dX3_window_22 : decode cX3_window 22 = .ok (.invokestatic 80, 3) := by decide +kernel
theorem dX3_window_25 : decode cX3_window 25 = .ok (.ifCond .ne 11, 3) := by decide +kernel
theorem dX3_window_28 : decode cX3_window 28 = .ok (.iload_n 3, 1) := by decide +kernel
theorem dX3_window_29 : decode cX3_window 29 = .ok (.iconst 2, 1) := by decide +kernel
theorem dX3_window_30 : decode cX3_window 30 = .ok (.invokestatic 80, 3) := by decide +kernel
theorem dX3_window_33 : decode cX3_window 33 = .ok (.ifCond .eq 6, 3) := by decide +kernel
theorem dX3_window_36 : decode cX3_window 36 = .ok (.ldc 84, 2) := by decide +kernel
theorem dX3_window_38 : decode cX3_window 38 = .ok (.ireturn, 1) := by decide +kernel
theorem dX3_window_39 : decode cX3_window 39 = .ok (.aload_n 0, 1) := by decide +kernel
theorem dX3_window_40 : decode cX3_window 40 = .ok (.getfield 25, 3) := by decide +kernel
theorem dX3_window_43 : decode cX3_window 43 = .ok (.getfield 164, 3) := by decide +kernel
theorem dX3_window_46 : decode cX3_window 46 = .ok (.iload_n 1, 1) := by decide +kernel
theorem dX3_window_47 : decode cX3_window 47 = .ok (.iaload, 1) := by decide +kernel
theorem dX3_window_48 : decode cX3_window 48 = .ok (.iload_n 2, 1) := by decide +kernel
theorem dX3_window_49 : decode cX3_window 49 = .ok (.ishr, 1) := by decide +kernel
theorem dX3_window_50 : decode cX3_window 50 = .ok (.iconst 1, 1) := by decide +kernel
theorem dX3_window_51 : decode cX3_window 51 = .ok (.iand, 1) := by decide +kernel
theorem dX3_window_52 : decode cX3_window 52 = .ok (.iload_n 3, 1) := by decide +kernel
theorem dX3_window_53 : decode cX3_window 53 = .ok (.if_icmp .ne 6, 3) := by decide +kernel
theorem dX3_window_56 : decode cX3_window 56 = .ok (.ldc 146, 2) := by decide +kernel
theorem dX3_window_58 : decode cX3_window 58 = .ok (.ireturn, 1) := by decide +kernel
theorem dX3_window_59 : decode cX3_window 59 = .ok (.aload_n 0, 1) := by decide +kernel
theorem dX3_window_60 : decode cX3_window 60 = .ok (.invokevirtual 153, 3) := by decide +kernel
theorem dX3_window_63 : decode cX3_window 63 = .ok (.aload_n 0, 1) := by decide +kernel
theorem dX3_window_64 : decode cX3_window 64 = .ok (.getfield 25, 3) := by decide +kernel
theorem dX3_window_67 : decode cX3_window 67 = .ok (.getfield 164, 3) := by decide +kernel
theorem dX3_window_70 : decode cX3_window 70 = .ok (.iload_n 1, 1) := by decide +kernel
theorem dX3_window_71 : decode cX3_window 71 = .ok (.dup2, 1) := by decide +kernel
theorem dX3_window_72 : decode cX3_window 72 = .ok (.iaload, 1) := by decide +kernel
theorem dX3_window_73 : decode cX3_window 73 = .ok (.iconst 1, 1) := by decide +kernel
theorem dX3_window_74 : decode cX3_window 74 = .ok (.iload_n 2, 1) := by decide +kernel
theorem dX3_window_75 : decode cX3_window 75 = .ok (.ishl, 1) := by decide +kernel
theorem dX3_window_76 : decode cX3_window 76 = .ok (.ixor, 1) := by decide +kernel
theorem dX3_window_77 : decode cX3_window 77 = .ok (.iastore, 1) := by decide +kernel
theorem dX3_window_78 : decode cX3_window 78 = .ok (.iconst 1, 1) := by decide +kernel
theorem dX3_window_79 : decode cX3_window 79 = .ok (.ireturn, 1) := by decide +kernel
theorem dX3_undo_0 : decode cX3_undo 0 = .ok (.aload_n 0, 1) := by decide +kernel
theorem dX3_undo_1 : decode cX3_undo 1 = .ok (.getfield 41, 3) := by decide +kernel
theorem dX3_undo_4 : decode cX3_undo 4 = .ok (.ifCond .gt 6, 3) := by decide +kernel
theorem dX3_undo_7 : decode cX3_undo 7 = .ok (.ldc 146, 2) := by decide +kernel
theorem dX3_undo_9 : decode cX3_undo 9 = .ok (.ireturn, 1) := by decide +kernel
theorem dX3_undo_10 : decode cX3_undo 10 = .ok (.aload_n 0, 1) := by decide +kernel
theorem dX3_undo_11 : decode cX3_undo 11 = .ok (.dup, 1) := by decide +kernel
theorem dX3_undo_12 : decode cX3_undo 12 = .ok (.getfield 41, 3) := by decide +kernel
theorem dX3_undo_15 : decode cX3_undo 15 = .ok (.iconst 1, 1) := by decide +kernel
theorem dX3_undo_16 : decode cX3_undo 16 = .ok (.isub, 1) := by decide +kernel
theorem dX3_undo_17 : decode cX3_undo 17 = .ok (.putfield 41, 3) := by decide +kernel
theorem dX3_undo_20 : decode cX3_undo 20 = .ok (.aload_n 0, 1) := by decide +kernel
theorem dX3_undo_21 : decode cX3_undo 21 = .ok (.aload_n 0, 1) := by decide +kernel
theorem dX3_undo_22 : decode cX3_undo 22 = .ok (.getfield 45, 3) := by decide +kernel
theorem dX3_undo_25 : decode cX3_undo 25 = .ok (.ifCond .ne 8, 3) := by decide +kernel
theorem dX3_undo_28 : decode cX3_undo 28 = .ok (.bipush 23, 2) := by decide +kernel
theorem dX3_undo_30 : decode cX3_undo 30 = .ok (.goto 9, 3) := by decide +kernel
theorem dX3_undo_33 : decode cX3_undo 33 = .ok (.aload_n 0, 1) := by decide +kernel
theorem dX3_undo_34 : decode cX3_undo 34 = .ok (.getfield 45, 3) := by decide +kernel
theorem dX3_undo_37 : decode cX3_undo 37 = .ok (.iconst 1, 1) := by decide +kernel
theorem dX3_undo_38 : decode cX3_undo 38 = .ok (.isub, 1) := by decide +kernel
theorem dX3_undo_39 : decode cX3_undo 39 = .ok (.putfield 45, 3) := by decide +kernel
theorem dX3_undo_42 : decode cX3_undo 42 = .ok (.aload_n 0, 1) := by decide +kernel
theorem dX3_undo_43 : decode cX3_undo 43 = .ok (.getfield 25, 3) := by decide +kernel
theorem dX3_undo_46 : decode cX3_undo 46 = .ok (.aload_n 0, 1) := by decide +kernel
theorem dX3_undo_47 : decode cX3_undo 47 = .ok (.getfield 38, 3) := by decide +kernel
theorem dX3_undo_50 : decode cX3_undo 50 = .ok (.aload_n 0, 1) := by decide +kernel
theorem dX3_undo_51 : decode cX3_undo 51 = .ok (.getfield 45, 3) := by decide +kernel
theorem dX3_undo_54 : decode cX3_undo 54 = .ok (.aaload, 1) := by decide +kernel
theorem dX3_undo_55 : decode cX3_undo 55 = .ok (.invokevirtual 167, 3) := by decide +kernel
theorem dX3_undo_58 : decode cX3_undo 58 = .ok (.aload_n 0, 1) := by decide +kernel
theorem dX3_undo_59 : decode cX3_undo 59 = .ok (.getfield 41, 3) := by decide +kernel
theorem dX3_undo_62 : decode cX3_undo 62 = .ok (.ireturn, 1) := by decide +kernel
theorem dX3_pan_0 : decode cX3_pan 0 = .ok (.iload_n 1, 1) := by decide +kernel
theorem dX3_pan_1 : decode cX3_pan 1 = .ok (.aload_n 0, 1) := by decide +kernel
theorem dX3_pan_2 : decode cX3_pan 2 = .ok (.getfield 25, 3) := by decide +kernel
theorem dX3_pan_5 : decode cX3_pan 5 = .ok (.getfield 140, 3) := by decide +kernel
theorem dX3_pan_8 : decode cX3_pan 8 = .ok (.invokestatic 80, 3) := by decide +kernel
theorem dX3_pan_11 : decode cX3_pan 11 = .ok (.ifCond .eq 6, 3) := by decide +kernel
theorem dX3_pan_14 : decode cX3_pan 14 = .ok (.ldc 84, 2) := by decide +kernel
theorem dX3_pan_16 : decode cX3_pan 16 = .ok (.ireturn, 1) := by decide +kernel
theorem dX3_pan_17 : decode cX3_pan 17 = .ok (.iload_n 2, 1) := by decide +kernel
theorem dX3_pan_18 : decode cX3_pan 18 = .ok (.tableswitch 105 0 5 #[38, 48, 58, 68, 78, 95], 38) := by decide +kernel
theorem dX3_pan_56 : decode cX3_pan 56 = .ok (.aload_n 0, 1) := by decide +kernel
theorem dX3_pan_57 : decode cX3_pan 57 = .ok (.getfield 25, 3) := by decide +kernel
theorem dX3_pan_60 : decode cX3_pan 60 = .ok (.getfield 170, 3) := by decide +kernel
theorem dX3_pan_63 : decode cX3_pan 63 = .ok (.iload_n 1, 1) := by decide +kernel
theorem dX3_pan_64 : decode cX3_pan 64 = .ok (.iaload, 1) := by decide +kernel
theorem dX3_pan_65 : decode cX3_pan 65 = .ok (.ireturn, 1) := by decide +kernel
theorem dX3_pan_66 : decode cX3_pan 66 = .ok (.aload_n 0, 1) := by decide +kernel
theorem dX3_pan_67 : decode cX3_pan 67 = .ok (.getfield 25, 3) := by decide +kernel
theorem dX3_pan_70 : decode cX3_pan 70 = .ok (.getfield 173, 3) := by decide +kernel
theorem dX3_pan_73 : decode cX3_pan 73 = .ok (.iload_n 1, 1) := by decide +kernel
theorem dX3_pan_74 : decode cX3_pan 74 = .ok (.iaload, 1) := by decide +kernel
theorem dX3_pan_75 : decode cX3_pan 75 = .ok (.ireturn, 1) := by decide +kernel
theorem dX3_pan_76 : decode cX3_pan 76 = .ok (.aload_n 0, 1) := by decide +kernel
theorem dX3_pan_77 : decode cX3_pan 77 = .ok (.getfield 25, 3) := by decide +kernel
theorem dX3_pan_80 : decode cX3_pan 80 = .ok (.getfield 164, 3) := by decide +kernel
theorem dX3_pan_83 : decode cX3_pan 83 = .ok (.iload_n 1, 1) := by decide +kernel
theorem dX3_pan_84 : decode cX3_pan 84 = .ok (.iaload, 1) := by decide +kernel
theorem dX3_pan_85 : decode cX3_pan 85 = .ok (.ireturn, 1) := by decide +kernel
theorem dX3_pan_86 : decode cX3_pan 86 = .ok (.aload_n 0, 1) := by decide +kernel
theorem dX3_pan_87 : decode cX3_pan 87 = .ok (.getfield 25, 3) := by decide +kernel
theorem dX3_pan_90 : decode cX3_pan 90 = .ok (.getfield 176, 3) := by decide +kernel
theorem dX3_pan_93 : decode cX3_pan 93 = .ok (.iload_n 1, 1) := by decide +kernel
theorem dX3_pan_94 : decode cX3_pan 94 = .ok (.iaload, 1) := by decide +kernel
theorem dX3_pan_95 : decode cX3_pan 95 = .ok (.ireturn, 1) := by decide +kernel
theorem dX3_pan_96 : decode cX3_pan 96 = .ok (.aload_n 0, 1) := by decide +kernel
theorem dX3_pan_97 : decode cX3_pan 97 = .ok (.getfield 25, 3) := by decide +kernel
theorem dX3_pan_100 : decode cX3_pan 100 = .ok (.iload_n 1, 1) := by decide +kernel
theorem dX3_pan_101 : decode cX3_pan 101 = .ok (.invokevirtual 179, 3) := by decide +kernel
theorem dX3_pan_104 : decode cX3_pan 104 = .ok (.ifCond .eq 7, 3) := by decide +kernel
theorem dX3_pan_107 : decode cX3_pan 107 = .ok (.iconst 1, 1) := by decide +kernel
theorem dX3_pan_108 : decode cX3_pan 108 = .ok (.goto 4, 3) := by decide +kernel
theorem dX3_pan_111 : decode cX3_pan 111 = .ok (.iconst 0, 1) := by decide +kernel
theorem dX3_pan_112 : decode cX3_pan 112 = .ok (.ireturn, 1) := by decide +kernel
theorem dX3_pan_113 : decode cX3_pan 113 = .ok (.aload_n 0, 1) := by decide +kernel
theorem dX3_pan_114 : decode cX3_pan 114 = .ok (.getfield 25, 3) := by decide +kernel
theorem dX3_pan_117 : decode cX3_pan 117 = .ok (.getfield 183, 3) := by decide +kernel
theorem dX3_pan_120 : decode cX3_pan 120 = .ok (.iload_n 1, 1) := by decide +kernel
theorem dX3_pan_121 : decode cX3_pan 121 = .ok (.iaload, 1) := by decide +kernel
theorem dX3_pan_122 : decode cX3_pan 122 = .ok (.ireturn, 1) := by decide +kernel
theorem dX3_pan_123 : decode cX3_pan 123 = .ok (.ldc 84, 2) := by decide +kernel
theorem dX3_pan_125 : decode cX3_pan 125 = .ok (.ireturn, 1) := by decide +kernel
theorem dX3_singer_0 : decode cX3_singer 0 = .ok (.iload_n 1, 1) := by decide +kernel
theorem dX3_singer_1 : decode cX3_singer 1 = .ok (.aload_n 0, 1) := by decide +kernel
theorem dX3_singer_2 : decode cX3_singer 2 = .ok (.getfield 25, 3) := by decide +kernel
theorem dX3_singer_5 : decode cX3_singer 5 = .ok (.getfield 147, 3) := by decide +kernel
theorem dX3_singer_8 : decode cX3_singer 8 = .ok (.invokestatic 80, 3) := by decide +kernel
theorem dX3_singer_11 : decode cX3_singer 11 = .ok (.ifCond .eq 6, 3) := by decide +kernel
theorem dX3_singer_14 : decode cX3_singer 14 = .ok (.ldc 84, 2) := by decide +kernel
theorem dX3_singer_16 : decode cX3_singer 16 = .ok (.ireturn, 1) := by decide +kernel
theorem dX3_singer_17 : decode cX3_singer 17 = .ok (.iload_n 2, 1) := by decide +kernel
theorem dX3_singer_18 : decode cX3_singer 18 = .ok (.tableswitch 70 0 3 #[30, 40, 50, 60], 30) := by decide +kernel
theorem dX3_singer_48 : decode cX3_singer 48 = .ok (.aload_n 0, 1) := by decide +kernel
theorem dX3_singer_49 : decode cX3_singer 49 = .ok (.getfield 25, 3) := by decide +kernel
theorem dX3_singer_52 : decode cX3_singer 52 = .ok (.getfield 186, 3) := by decide +kernel
theorem dX3_singer_55 : decode cX3_singer 55 = .ok (.iload_n 1, 1) := by decide +kernel
theorem dX3_singer_56 : decode cX3_singer 56 = .ok (.iaload, 1) := by decide +kernel
theorem dX3_singer_57 : decode cX3_singer 57 = .ok (.ireturn, 1) := by decide +kernel
theorem dX3_singer_58 : decode cX3_singer 58 = .ok (.aload_n 0, 1) := by decide +kernel
theorem dX3_singer_59 : decode cX3_singer 59 = .ok (.getfield 25, 3) := by decide +kernel
theorem dX3_singer_62 : decode cX3_singer 62 = .ok (.getfield 189, 3) := by decide +kernel
theorem dX3_singer_65 : decode cX3_singer 65 = .ok (.iload_n 1, 1) := by decide +kernel
theorem dX3_singer_66 : decode cX3_singer 66 = .ok (.iaload, 1) := by decide +kernel
theorem dX3_singer_67 : decode cX3_singer 67 = .ok (.ireturn, 1) := by decide +kernel
theorem dX3_singer_68 : decode cX3_singer 68 = .ok (.aload_n 0, 1) := by decide +kernel
theorem dX3_singer_69 : decode cX3_singer 69 = .ok (.getfield 25, 3) := by decide +kernel
theorem dX3_singer_72 : decode cX3_singer 72 = .ok (.getfield 192, 3) := by decide +kernel
theorem dX3_singer_75 : decode cX3_singer 75 = .ok (.iload_n 1, 1) := by decide +kernel
theorem dX3_singer_76 : decode cX3_singer 76 = .ok (.iaload, 1) := by decide +kernel
theorem dX3_singer_77 : decode cX3_singer 77 = .ok (.ireturn, 1) := by decide +kernel
theorem dX3_singer_78 : decode cX3_singer 78 = .ok (.aload_n 0, 1) := by decide +kernel
theorem dX3_singer_79 : decode cX3_singer 79 = .ok (.getfield 25, 3) := by decide +kernel
theorem dX3_singer_82 : decode cX3_singer 82 = .ok (.getfield 195, 3) := by decide +kernel
theorem dX3_singer_85 : decode cX3_singer 85 = .ok (.iload_n 1, 1) := by decide +kernel
theorem dX3_singer_86 : decode cX3_singer 86 = .ok (.iaload, 1) := by decide +kernel
theorem dX3_singer_87 : decode cX3_singer 87 = .ok (.ireturn, 1) := by decide +kernel
theorem dX3_singer_88 : decode cX3_singer 88 = .ok (.ldc 84, 2) := by decide +kernel
theorem dX3_singer_90 : decode cX3_singer 90 = .ok (.ireturn, 1) := by decide +kernel
theorem dX3_alone_0 : decode cX3_alone 0 = .ok (.iload_n 1, 1) := by decide +kernel
theorem dX3_alone_1 : decode cX3_alone 1 = .ok (.aload_n 0, 1) := by decide +kernel
theorem dX3_alone_2 : decode cX3_alone 2 = .ok (.getfield 25, 3) := by decide +kernel
theorem dX3_alone_5 : decode cX3_alone 5 = .ok (.getfield 147, 3) := by decide +kernel
theorem dX3_alone_8 : decode cX3_alone 8 = .ok (.invokestatic 80, 3) := by decide +kernel
theorem dX3_alone_11 : decode cX3_alone 11 = .ok (.ifCond .ne 22, 3) := by decide +kernel
theorem dX3_alone_14 : decode cX3_alone 14 = .ok (.iload_n 2, 1) := by decide +kernel
theorem dX3_alone_15 : decode cX3_alone 15 = .ok (.bipush 8, 2) := by decide +kernel
theorem dX3_alone_17 : decode cX3_alone 17 = .ok (.invokestatic 80, 3) := by decide +kernel
theorem dX3_alone_20 : decode cX3_alone 20 = .ok (.ifCond .ne 13, 3) := by decide +kernel
theorem dX3_alone_23 : decode cX3_alone 23 = .ok (.iload 4, 2) := by decide +kernel
theorem dX3_alone_25 : decode cX3_alone 25 = .ok (.bipush 17, 2) := by decide +kernel
theorem dX3_alone_27 : decode cX3_alone 27 = .ok (.invokestatic 80, 3) := by decide +kernel
theorem dX3_alone_30 : decode cX3_alone 30 = .ok (.ifCond .eq 6, 3) := by decide +kernel
theorem dX3_alone_33 : decode cX3_alone 33 = .ok (.ldc 84, 2) := by decide +kernel
theorem dX3_alone_35 : decode cX3_alone 35 = .ok (.ireturn, 1) := by decide +kernel
theorem dX3_alone_36 : decode cX3_alone 36 = .ok (.aload_n 0, 1) := by decide +kernel
theorem dX3_alone_37 : decode cX3_alone 37 = .ok (.aload_n 0, 1) := by decide +kernel
theorem dX3_alone_38 : decode cX3_alone 38 = .ok (.getfield 11, 3) := by decide +kernel
theorem dX3_alone_41 : decode cX3_alone 41 = .ok (.iload_n 2, 1) := by decide +kernel
theorem dX3_alone_42 : decode cX3_alone 42 = .ok (.aaload, 1) := by decide +kernel
theorem dX3_alone_43 : decode cX3_alone 43 = .ok (.iload_n 3, 1) := by decide +kernel
theorem dX3_alone_44 : decode cX3_alone 44 = .ok (.iload 4, 2) := by decide +kernel
theorem dX3_alone_46 : decode cX3_alone 46 = .ok (.invokevirtual 198, 3) := by decide +kernel
theorem dX3_alone_49 : decode cX3_alone 49 = .ok (.istore 5, 2) := by decide +kernel
theorem dX3_alone_51 : decode cX3_alone 51 = .ok (.iload 5, 2) := by decide +kernel
theorem dX3_alone_53 : decode cX3_alone 53 = .ok (.ifCond .eq 6, 3) := by decide +kernel
theorem dX3_alone_56 : decode cX3_alone 56 = .ok (.iload 5, 2) := by decide +kernel
theorem dX3_alone_58 : decode cX3_alone 58 = .ok (.ireturn, 1) := by decide +kernel
theorem dX3_alone_59 : decode cX3_alone 59 = .ok (.aload_n 0, 1) := by decide +kernel
theorem dX3_alone_60 : decode cX3_alone 60 = .ok (.getfield 29, 3) := by decide +kernel
theorem dX3_alone_63 : decode cX3_alone 63 = .ok (.aload_n 0, 1) := by decide +kernel
theorem dX3_alone_64 : decode cX3_alone 64 = .ok (.getfield 25, 3) := by decide +kernel
theorem dX3_alone_67 : decode cX3_alone 67 = .ok (.invokevirtual 137, 3) := by decide +kernel
theorem dX3_alone_70 : decode cX3_alone 70 = .ok (.aload_n 0, 1) := by decide +kernel
theorem dX3_alone_71 : decode cX3_alone 71 = .ok (.iload_n 1, 1) := by decide +kernel
theorem dX3_alone_72 : decode cX3_alone 72 = .ok (.iload 4, 2) := by decide +kernel
theorem dX3_alone_74 : decode cX3_alone 74 = .ok (.iconst 0, 1) := by decide +kernel
theorem dX3_alone_75 : decode cX3_alone 75 = .ok (.invokevirtual 202, 3) := by decide +kernel
theorem dX3_alone_78 : decode cX3_alone 78 = .ok (.aload_n 0, 1) := by decide +kernel
theorem dX3_alone_79 : decode cX3_alone 79 = .ok (.aload_n 0, 1) := by decide +kernel
theorem dX3_alone_80 : decode cX3_alone 80 = .ok (.getfield 29, 3) := by decide +kernel
theorem dX3_alone_83 : decode cX3_alone 83 = .ok (.invokevirtual 160, 3) := by decide +kernel
theorem dX3_alone_86 : decode cX3_alone 86 = .ok (.invokevirtual 93, 3) := by decide +kernel
theorem dX3_alone_89 : decode cX3_alone 89 = .ok (.ireturn, 1) := by decide +kernel
theorem dX3_round_0 : decode cX3_round 0 = .ok (.aload_n 0, 1) := by decide +kernel
theorem dX3_round_1 : decode cX3_round 1 = .ok (.getfield 25, 3) := by decide +kernel
theorem dX3_round_4 : decode cX3_round 4 = .ok (.getfield 143, 3) := by decide +kernel
theorem dX3_round_7 : decode cX3_round 7 = .ok (.ifCond .ne 6, 3) := by decide +kernel
theorem dX3_round_10 : decode cX3_round 10 = .ok (.ldc 146, 2) := by decide +kernel
theorem dX3_round_12 : decode cX3_round 12 = .ok (.ireturn, 1) := by decide +kernel
theorem dX3_round_13 : decode cX3_round 13 = .ok (.iload_n 1, 1) := by decide +kernel
theorem dX3_round_14 : decode cX3_round 14 = .ok (.bipush 9, 2) := by decide +kernel
theorem dX3_round_16 : decode cX3_round 16 = .ok (.invokestatic 80, 3) := by decide +kernel
theorem dX3_round_19 : decode cX3_round 19 = .ok (.ifCond .ne 22, 3) := by decide +kernel
theorem dX3_round_22 : decode cX3_round 22 = .ok (.iload_n 2, 1) := by decide +kernel
theorem dX3_round_23 : decode cX3_round 23 = .ok (.bipush 8, 2) := by decide +kernel
theorem dX3_round_25 : decode cX3_round 25 = .ok (.invokestatic 80, 3) := by decide +kernel
theorem dX3_round_28 : decode cX3_round 28 = .ok (.ifCond .ne 13, 3) := by decide +kernel
theorem dX3_round_31 : decode cX3_round 31 = .ok (.iload 4, 2) := by decide +kernel
theorem dX3_round_33 : decode cX3_round 33 = .ok (.bipush 17, 2) := by decide +kernel
theorem dX3_round_35 : decode cX3_round 35 = .ok (.invokestatic 80, 3) := by decide +kernel
theorem dX3_round_38 : decode cX3_round 38 = .ok (.ifCond .eq 6, 3) := by decide +kernel
theorem dX3_round_41 : decode cX3_round 41 = .ok (.ldc 84, 2) := by decide +kernel
theorem dX3_round_43 : decode cX3_round 43 = .ok (.ireturn, 1) := by decide +kernel
theorem dX3_round_44 : decode cX3_round 44 = .ok (.aload_n 0, 1) := by decide +kernel
theorem dX3_round_45 : decode cX3_round 45 = .ok (.aload_n 0, 1) := by decide +kernel
theorem dX3_round_46 : decode cX3_round 46 = .ok (.getfield 11, 3) := by decide +kernel
theorem dX3_round_49 : decode cX3_round 49 = .ok (.iload_n 2, 1) := by decide +kernel
theorem dX3_round_50 : decode cX3_round 50 = .ok (.aaload, 1) := by decide +kernel
theorem dX3_round_51 : decode cX3_round 51 = .ok (.iload_n 3, 1) := by decide +kernel
theorem dX3_round_52 : decode cX3_round 52 = .ok (.iload 4, 2) := by decide +kernel
theorem dX3_round_54 : decode cX3_round 54 = .ok (.invokevirtual 198, 3) := by decide +kernel
theorem dX3_round_57 : decode cX3_round 57 = .ok (.istore 5, 2) := by decide +kernel
theorem dX3_round_59 : decode cX3_round 59 = .ok (.iload 5, 2) := by decide +kernel
theorem dX3_round_61 : decode cX3_round 61 = .ok (.ifCond .eq 6, 3) := by decide +kernel
theorem dX3_round_64 : decode cX3_round 64 = .ok (.iload 5, 2) := by decide +kernel
theorem dX3_round_66 : decode cX3_round 66 = .ok (.ireturn, 1) := by decide +kernel
theorem dX3_round_67 : decode cX3_round 67 = .ok (.aload_n 0, 1) := by decide +kernel
theorem dX3_round_68 : decode cX3_round 68 = .ok (.getfield 29, 3) := by decide +kernel
theorem dX3_round_71 : decode cX3_round 71 = .ok (.aload_n 0, 1) := by decide +kernel
theorem dX3_round_72 : decode cX3_round 72 = .ok (.getfield 25, 3) := by decide +kernel
theorem dX3_round_75 : decode cX3_round 75 = .ok (.invokevirtual 137, 3) := by decide +kernel
theorem dX3_round_78 : decode cX3_round 78 = .ok (.aload_n 0, 1) := by decide +kernel
theorem dX3_round_79 : decode cX3_round 79 = .ok (.iload_n 1, 1) := by decide +kernel
theorem dX3_round_80 : decode cX3_round 80 = .ok (.iload 4, 2) := by decide +kernel
theorem dX3_round_82 : decode cX3_round 82 = .ok (.invokevirtual 206, 3) := by decide +kernel
theorem dX3_round_85 : decode cX3_round 85 = .ok (.aload_n 0, 1) := by decide +kernel
theorem dX3_round_86 : decode cX3_round 86 = .ok (.aload_n 0, 1) := by decide +kernel
theorem dX3_round_87 : decode cX3_round 87 = .ok (.getfield 29, 3) := by decide +kernel
theorem dX3_round_90 : decode cX3_round 90 = .ok (.invokevirtual 160, 3) := by decide +kernel
theorem dX3_round_93 : decode cX3_round 93 = .ok (.invokevirtual 93, 3) := by decide +kernel
theorem dX3_round_96 : decode cX3_round 96 = .ok (.ireturn, 1) := by decide +kernel
theorem dX3_bestRound_0 : decode cX3_bestRound 0 = .ok (.aload_n 0, 1) := by decide +kernel
theorem dX3_bestRound_1 : decode cX3_bestRound 1 = .ok (.getfield 25, 3) := by decide +kernel
theorem dX3_bestRound_4 : decode cX3_bestRound 4 = .ok (.getfield 143, 3) := by decide +kernel
theorem dX3_bestRound_7 : decode cX3_bestRound 7 = .ok (.ifCond .ne 6, 3) := by decide +kernel
theorem dX3_bestRound_10 : decode cX3_bestRound 10 = .ok (.ldc 146, 2) := by decide +kernel
theorem dX3_bestRound_12 : decode cX3_bestRound 12 = .ok (.ireturn, 1) := by decide +kernel
theorem dX3_bestRound_13 : decode cX3_bestRound 13 = .ok (.iload_n 1, 1) := by decide +kernel
theorem dX3_bestRound_14 : decode cX3_bestRound 14 = .ok (.bipush 8, 2) := by decide +kernel
theorem dX3_bestRound_16 : decode cX3_bestRound 16 = .ok (.invokestatic 80, 3) := by decide +kernel
theorem dX3_bestRound_19 : decode cX3_bestRound 19 = .ok (.ifCond .ne 21, 3) := by decide +kernel
theorem dX3_bestRound_22 : decode cX3_bestRound 22 = .ok (.iload_n 3, 1) := by decide +kernel
theorem dX3_bestRound_23 : decode cX3_bestRound 23 = .ok (.bipush 17, 2) := by decide +kernel
theorem dX3_bestRound_25 : decode cX3_bestRound 25 = .ok (.invokestatic 80, 3) := by decide +kernel
theorem dX3_bestRound_28 : decode cX3_bestRound 28 = .ok (.ifCond .ne 12, 3) := by decide +kernel
theorem dX3_bestRound_31 : decode cX3_bestRound 31 = .ok (.iload 4, 2) := by decide +kernel
theorem dX3_bestRound_33 : decode cX3_bestRound 33 = .ok (.iconst 2, 1) := by decide +kernel
theorem dX3_bestRound_34 : decode cX3_bestRound 34 = .ok (.invokestatic 80, 3) := by decide +kernel
theorem dX3_bestRound_37 : decode cX3_bestRound 37 = .ok (.ifCond .eq 6, 3) := by decide +kernel
theorem dX3_bestRound_40 : decode cX3_bestRound 40 = .ok (.ldc 84, 2) := by decide +kernel
theorem dX3_bestRound_42 : decode cX3_bestRound 42 = .ok (.ireturn, 1) := by decide +kernel
theorem dX3_bestRound_43 : decode cX3_bestRound 43 = .ok (.aload_n 0, 1) := by decide +kernel
theorem dX3_bestRound_44 : decode cX3_bestRound 44 = .ok (.aload_n 0, 1) := by decide +kernel
theorem dX3_bestRound_45 : decode cX3_bestRound 45 = .ok (.getfield 11, 3) := by decide +kernel
theorem dX3_bestRound_48 : decode cX3_bestRound 48 = .ok (.iload_n 1, 1) := by decide +kernel
theorem dX3_bestRound_49 : decode cX3_bestRound 49 = .ok (.aaload, 1) := by decide +kernel
theorem dX3_bestRound_50 : decode cX3_bestRound 50 = .ok (.iload_n 2, 1) := by decide +kernel
theorem dX3_bestRound_51 : decode cX3_bestRound 51 = .ok (.iload_n 3, 1) := by decide +kernel
theorem dX3_bestRound_52 : decode cX3_bestRound 52 = .ok (.invokevirtual 198, 3) := by decide +kernel
theorem dX3_bestRound_55 : decode cX3_bestRound 55 = .ok (.istore 5, 2) := by decide +kernel
theorem dX3_bestRound_57 : decode cX3_bestRound 57 = .ok (.iload 5, 2) := by decide +kernel
theorem dX3_bestRound_59 : decode cX3_bestRound 59 = .ok (.ifCond .eq 6, 3) := by decide +kernel
theorem dX3_bestRound_62 : decode cX3_bestRound 62 = .ok (.iload 5, 2) := by decide +kernel
theorem dX3_bestRound_64 : decode cX3_bestRound 64 = .ok (.ireturn, 1) := by decide +kernel
theorem dX3_bestRound_65 : decode cX3_bestRound 65 = .ok (.iconst 0, 1) := by decide +kernel
theorem dX3_bestRound_66 : decode cX3_bestRound 66 = .ok (.istore 6, 2) := by decide +kernel
theorem dX3_bestRound_68 : decode cX3_bestRound 68 = .ok (.iconst (-1), 1) := by decide +kernel
theorem dX3_bestRound_69 : decode cX3_bestRound 69 = .ok (.istore 7, 2) := by decide +kernel
theorem dX3_bestRound_71 : decode cX3_bestRound 71 = .ok (.iconst 0, 1) := by decide +kernel
theorem dX3_bestRound_72 : decode cX3_bestRound 72 = .ok (.istore 8, 2) := by decide +kernel
theorem dX3_bestRound_74 : decode cX3_bestRound 74 = .ok (.iload 8, 2) := by decide +kernel
theorem dX3_bestRound_76 : decode cX3_bestRound 76 = .ok (.bipush 8, 2) := by decide +kernel
theorem dX3_bestRound_78 : decode cX3_bestRound 78 = .ok (.if_icmp .gt 54, 3) := by decide +kernel
theorem dX3_bestRound_81 : decode cX3_bestRound 81 = .ok (.aload_n 0, 1) := by decide +kernel
theorem dX3_bestRound_82 : decode cX3_bestRound 82 = .ok (.getfield 29, 3) := by decide +kernel
theorem dX3_bestRound_85 : decode cX3_bestRound 85 = .ok (.aload_n 0, 1) := by decide +kernel
theorem dX3_bestRound_86 : decode cX3_bestRound 86 = .ok (.getfield 25, 3) := by decide +kernel
theorem dX3_bestRound_89 : decode cX3_bestRound 89 = .ok (.invokevirtual 137, 3) := by decide +kernel
theorem dX3_bestRound_92 : decode cX3_bestRound 92 = .ok (.aload_n 0, 1) := by decide +kernel
theorem dX3_bestRound_93 : decode cX3_bestRound 93 = .ok (.iload 8, 2) := by decide +kernel
theorem dX3_bestRound_95 : decode cX3_bestRound 95 = .ok (.iload_n 3, 1) := by decide +kernel
theorem dX3_bestRound_96 : decode cX3_bestRound 96 = .ok (.invokevirtual 206, 3) := by decide +kernel
theorem dX3_bestRound_99 : decode cX3_bestRound 99 = .ok (.aload_n 0, 1) := by decide +kernel
theorem dX3_bestRound_100 : decode cX3_bestRound 100 = .ok (.getfield 29, 3) := by decide +kernel
theorem dX3_bestRound_103 : decode cX3_bestRound 103 = .ok (.invokevirtual 160, 3) := by decide +kernel
theorem dX3_bestRound_106 : decode cX3_bestRound 106 = .ok (.invokestatic 209, 3) := by decide +kernel
theorem dX3_bestRound_109 : decode cX3_bestRound 109 = .ok (.istore 9, 2) := by decide +kernel
theorem dX3_bestRound_111 : decode cX3_bestRound 111 = .ok (.iload 9, 2) := by decide +kernel
theorem dX3_bestRound_113 : decode cX3_bestRound 113 = .ok (.iload 7, 2) := by decide +kernel
theorem dX3_bestRound_115 : decode cX3_bestRound 115 = .ok (.if_icmp .le 11, 3) := by decide +kernel
theorem dX3_bestRound_118 : decode cX3_bestRound 118 = .ok (.iload 9, 2) := by decide +kernel
theorem dX3_bestRound_120 : decode cX3_bestRound 120 = .ok (.istore 7, 2) := by decide +kernel
theorem dX3_bestRound_122 : decode cX3_bestRound 122 = .ok (.iload 8, 2) := by decide +kernel
theorem dX3_bestRound_124 : decode cX3_bestRound 124 = .ok (.istore 6, 2) := by decide +kernel
theorem dX3_bestRound_126 : decode cX3_bestRound 126 = .ok (.iinc 8 1, 3) := by decide +kernel
theorem dX3_bestRound_129 : decode cX3_bestRound 129 = .ok (.goto (-55), 3) := by decide +kernel
theorem dX3_bestRound_132 : decode cX3_bestRound 132 = .ok (.aload_n 0, 1) := by decide +kernel
theorem dX3_bestRound_133 : decode cX3_bestRound 133 = .ok (.iload 4, 2) := by decide +kernel
theorem dX3_bestRound_135 : decode cX3_bestRound 135 = .ok (.ifCond .ne 8, 3) := by decide +kernel
theorem dX3_bestRound_138 : decode cX3_bestRound 138 = .ok (.iload 6, 2) := by decide +kernel
theorem dX3_bestRound_140 : decode cX3_bestRound 140 = .ok (.goto 5, 3) := by decide +kernel
theorem dX3_bestRound_143 : decode cX3_bestRound 143 = .ok (.iload 7, 2) := by decide +kernel
theorem dX3_bestRound_145 : decode cX3_bestRound 145 = .ok (.invokevirtual 93, 3) := by decide +kernel
theorem dX3_bestRound_148 : decode cX3_bestRound 148 = .ok (.ireturn, 1) := by decide +kernel
theorem dX3_song_0 : decode cX3_song 0 = .ok (.iload_n 1, 1) := by decide +kernel
theorem dX3_song_1 : decode cX3_song 1 = .ok (.aload_n 0, 1) := by decide +kernel
theorem dX3_song_2 : decode cX3_song 2 = .ok (.getfield 25, 3) := by decide +kernel
theorem dX3_song_5 : decode cX3_song 5 = .ok (.getfield 147, 3) := by decide +kernel
theorem dX3_song_8 : decode cX3_song 8 = .ok (.invokestatic 80, 3) := by decide +kernel
theorem dX3_song_11 : decode cX3_song 11 = .ok (.ifCond .ne 21, 3) := by decide +kernel
theorem dX3_song_14 : decode cX3_song 14 = .ok (.iload_n 2, 1) := by decide +kernel
theorem dX3_song_15 : decode cX3_song 15 = .ok (.iconst 5, 1) := by decide +kernel
theorem dX3_song_16 : decode cX3_song 16 = .ok (.invokestatic 80, 3) := by decide +kernel
theorem dX3_song_19 : decode cX3_song 19 = .ok (.ifCond .ne 13, 3) := by decide +kernel
theorem dX3_song_22 : decode cX3_song 22 = .ok (.iload_n 3, 1) := by decide +kernel
theorem dX3_song_23 : decode cX3_song 23 = .ok (.iconst (-1), 1) := by decide +kernel
theorem dX3_song_24 : decode cX3_song 24 = .ok (.if_icmp .lt 8, 3) := by decide +kernel
theorem dX3_song_27 : decode cX3_song 27 = .ok (.iload_n 3, 1) := by decide +kernel
theorem dX3_song_28 : decode cX3_song 28 = .ok (.iload_n 2, 1) := by decide +kernel
theorem dX3_song_29 : decode cX3_song 29 = .ok (.if_icmp .lt 6, 3) := by decide +kernel
theorem dX3_song_32 : decode cX3_song 32 = .ok (.ldc 84, 2) := by decide +kernel
theorem dX3_song_34 : decode cX3_song 34 = .ok (.ireturn, 1) := by decide +kernel
theorem dX3_song_35 : decode cX3_song 35 = .ok (.aload_n 0, 1) := by decide +kernel
theorem dX3_song_36 : decode cX3_song 36 = .ok (.iload_n 1, 1) := by decide +kernel
theorem dX3_song_37 : decode cX3_song 37 = .ok (.iload_n 2, 1) := by decide +kernel
theorem dX3_song_38 : decode cX3_song 38 = .ok (.invokevirtual 214, 3) := by decide +kernel
theorem dX3_song_41 : decode cX3_song 41 = .ok (.iload_n 3, 1) := by decide +kernel
theorem dX3_song_42 : decode cX3_song 42 = .ok (.ifCond .ge 10, 3) := by decide +kernel
theorem dX3_song_45 : decode cX3_song 45 = .ok (.aload_n 0, 1) := by decide +kernel
theorem dX3_song_46 : decode cX3_song 46 = .ok (.getfield 61, 3) := by decide +kernel
theorem dX3_song_49 : decode cX3_song 49 = .ok (.goto 12, 3) := by decide +kernel
theorem dX3_song_52 : decode cX3_song 52 = .ok (.aload_n 0, 1) := by decide +kernel
theorem dX3_song_53 : decode cX3_song 53 = .ok (.getfield 58, 3) := by decide +kernel
theorem dX3_song_56 : decode cX3_song 56 = .ok (.iload_n 2, 1) := by decide +kernel
theorem dX3_song_57 : decode cX3_song 57 = .ok (.iload_n 3, 1) := by decide +kernel
theorem dX3_song_58 : decode cX3_song 58 = .ok (.invokestatic 217, 3) := by decide +kernel
theorem dX3_song_61 : decode cX3_song 61 = .ok (.ireturn, 1) := by decide +kernel
theorem dX3_toShut_0 : decode cX3_toShut 0 = .ok (.iload_n 1, 1) := by decide +kernel
theorem dX3_toShut_1 : decode cX3_toShut 1 = .ok (.aload_n 0, 1) := by decide +kernel
theorem dX3_toShut_2 : decode cX3_toShut 2 = .ok (.getfield 25, 3) := by decide +kernel
theorem dX3_toShut_5 : decode cX3_toShut 5 = .ok (.getfield 140, 3) := by decide +kernel
theorem dX3_toShut_8 : decode cX3_toShut 8 = .ok (.invokestatic 80, 3) := by decide +kernel
theorem dX3_toShut_11 : decode cX3_toShut 11 = .ok (.ifCond .ne 40, 3) := by decide +kernel
theorem dX3_toShut_14 : decode cX3_toShut 14 = .ok (.iload_n 2, 1) := by decide +kernel
theorem dX3_toShut_15 : decode cX3_toShut 15 = .ok (.bipush 9, 2) := by decide +kernel
theorem dX3_toShut_17 : decode cX3_toShut 17 = .ok (.invokestatic 80, 3) := by decide +kernel
theorem dX3_toShut_20 : decode cX3_toShut 20 = .ok (.ifCond .ne 31, 3) := by decide +kernel
theorem dX3_toShut_23 : decode cX3_toShut 23 = .ok (.iload_n 3, 1) := by decide +kernel
theorem dX3_toShut_24 : decode cX3_toShut 24 = .ok (.bipush 8, 2) := by decide +kernel
theorem dX3_toShut_26 : decode cX3_toShut 26 = .ok (.invokestatic 80, 3) := by decide +kernel
theorem dX3_toShut_29 : decode cX3_toShut 29 = .ok (.ifCond .ne 22, 3) := by decide +kernel
theorem dX3_toShut_32 : decode cX3_toShut 32 = .ok (.iload 5, 2) := by decide +kernel
theorem dX3_toShut_34 : decode cX3_toShut 34 = .ok (.bipush 17, 2) := by decide +kernel
theorem dX3_toShut_36 : decode cX3_toShut 36 = .ok (.invokestatic 80, 3) := by decide +kernel
theorem dX3_toShut_39 : decode cX3_toShut 39 = .ok (.ifCond .ne 12, 3) := by decide +kernel
theorem dX3_toShut_42 : decode cX3_toShut 42 = .ok (.iload 6, 2) := by decide +kernel
theorem dX3_toShut_44 : decode cX3_toShut 44 = .ok (.iconst 2, 1) := by decide +kernel
theorem dX3_toShut_45 : decode cX3_toShut 45 = .ok (.invokestatic 80, 3) := by decide +kernel
theorem dX3_toShut_48 : decode cX3_toShut 48 = .ok (.ifCond .eq 6, 3) := by decide +kernel
theorem dX3_toShut_51 : decode cX3_toShut 51 = .ok (.ldc 84, 2) := by decide +kernel
theorem dX3_toShut_53 : decode cX3_toShut 53 = .ok (.ireturn, 1) := by decide +kernel
theorem dX3_toShut_54 : decode cX3_toShut 54 = .ok (.aload_n 0, 1) := by decide +kernel
theorem dX3_toShut_55 : decode cX3_toShut 55 = .ok (.aload_n 0, 1) := by decide +kernel
theorem dX3_toShut_56 : decode cX3_toShut 56 = .ok (.getfield 11, 3) := by decide +kernel
theorem dX3_toShut_59 : decode cX3_toShut 59 = .ok (.iload_n 3, 1) := by decide +kernel
theorem dX3_toShut_60 : decode cX3_toShut 60 = .ok (.aaload, 1) := by decide +kernel
theorem dX3_toShut_61 : decode cX3_toShut 61 = .ok (.iload 4, 2) := by decide +kernel
theorem dX3_toShut_63 : decode cX3_toShut 63 = .ok (.iload 5, 2) := by decide +kernel
theorem dX3_toShut_65 : decode cX3_toShut 65 = .ok (.invokevirtual 198, 3) := by decide +kernel
theorem dX3_toShut_68 : decode cX3_toShut 68 = .ok (.istore 7, 2) := by decide +kernel
theorem dX3_toShut_70 : decode cX3_toShut 70 = .ok (.iload 7, 2) := by decide +kernel
theorem dX3_toShut_72 : decode cX3_toShut 72 = .ok (.ifCond .eq 6, 3) := by decide +kernel
theorem dX3_toShut_75 : decode cX3_toShut 75 = .ok (.iload 7, 2) := by decide +kernel
theorem dX3_toShut_77 : decode cX3_toShut 77 = .ok (.ireturn, 1) := by decide +kernel
theorem dX3_toShut_78 : decode cX3_toShut 78 = .ok (.iconst 4, 1) := by decide +kernel
theorem dX3_toShut_79 : decode cX3_toShut 79 = .ok (.istore 8, 2) := by decide +kernel
theorem dX3_toShut_81 : decode cX3_toShut 81 = .ok (.ldc 221, 2) := by decide +kernel
theorem dX3_toShut_83 : decode cX3_toShut 83 = .ok (.istore 9, 2) := by decide +kernel
theorem dX3_toShut_85 : decode cX3_toShut 85 = .ok (.iconst 0, 1) := by decide +kernel
theorem dX3_toShut_86 : decode cX3_toShut 86 = .ok (.istore 10, 2) := by decide +kernel
theorem dX3_toShut_88 : decode cX3_toShut 88 = .ok (.iload 10, 2) := by decide +kernel
theorem dX3_toShut_90 : decode cX3_toShut 90 = .ok (.bipush 8, 2) := by decide +kernel
theorem dX3_toShut_92 : decode cX3_toShut 92 = .ok (.if_icmp .ge 61, 3) := by decide +kernel
theorem dX3_toShut_95 : decode cX3_toShut 95 = .ok (.iload 10, 2) := by decide +kernel
theorem dX3_toShut_97 : decode cX3_toShut 97 = .ok (.invokestatic 209, 3) := by decide +kernel
theorem dX3_toShut_100 : decode cX3_toShut 100 = .ok (.istore 11, 2) := by decide +kernel
theorem dX3_toShut_102 : decode cX3_toShut 102 = .ok (.iload 10, 2) := by decide +kernel
theorem dX3_toShut_104 : decode cX3_toShut 104 = .ok (.aload_n 0, 1) := by decide +kernel
theorem dX3_toShut_105 : decode cX3_toShut 105 = .ok (.getfield 25, 3) := by decide +kernel
theorem dX3_toShut_108 : decode cX3_toShut 108 = .ok (.getfield 164, 3) := by decide +kernel
theorem dX3_toShut_111 : decode cX3_toShut 111 = .ok (.iload_n 1, 1) := by decide +kernel
theorem dX3_toShut_112 : decode cX3_toShut 112 = .ok (.iaload, 1) := by decide +kernel
theorem dX3_toShut_113 : decode cX3_toShut 113 = .ok (.iconst (-1), 1) := by decide +kernel
theorem dX3_toShut_114 : decode cX3_toShut 114 = .ok (.ixor, 1) := by decide +kernel
theorem dX3_toShut_115 : decode cX3_toShut 115 = .ok (.iand, 1) := by decide +kernel
theorem dX3_toShut_116 : decode cX3_toShut 116 = .ok (.ifCond .ne 31, 3) := by decide +kernel
theorem dX3_toShut_119 : decode cX3_toShut 119 = .ok (.iload 11, 2) := by decide +kernel
theorem dX3_toShut_121 : decode cX3_toShut 121 = .ok (.iload 8, 2) := by decide +kernel
theorem dX3_toShut_123 : decode cX3_toShut 123 = .ok (.if_icmp .ge 24, 3) := by decide +kernel
theorem dX3_toShut_126 : decode cX3_toShut 126 = .ok (.aload_n 0, 1) := by decide +kernel
theorem dX3_toShut_127 : decode cX3_toShut 127 = .ok (.iload_n 1, 1) := by decide +kernel
theorem dX3_toShut_128 : decode cX3_toShut 128 = .ok (.iload 10, 2) := by decide +kernel
theorem dX3_toShut_130 : decode cX3_toShut 130 = .ok (.iload_n 2, 1) := by decide +kernel
theorem dX3_toShut_131 : decode cX3_toShut 131 = .ok (.iload 5, 2) := by decide +kernel
theorem dX3_toShut_133 : decode cX3_toShut 133 = .ok (.invokevirtual 222, 3) := by decide +kernel
theorem dX3_toShut_136 : decode cX3_toShut 136 = .ok (.ifCond .eq 11, 3) := by decide +kernel
theorem dX3_toShut_139 : decode cX3_toShut 139 = .ok (.iload 11, 2) := by decide +kernel
theorem dX3_toShut_141 : decode cX3_toShut 141 = .ok (.istore 8, 2) := by decide +kernel
theorem dX3_toShut_143 : decode cX3_toShut 143 = .ok (.iload 10, 2) := by decide +kernel
theorem dX3_toShut_145 : decode cX3_toShut 145 = .ok (.istore 9, 2) := by decide +kernel
theorem dX3_toShut_147 : decode cX3_toShut 147 = .ok (.iinc 10 1, 3) := by decide +kernel
theorem dX3_toShut_150 : decode cX3_toShut 150 = .ok (.goto (-62), 3) := by decide +kernel
theorem dX3_toShut_153 : decode cX3_toShut 153 = .ok (.aload_n 0, 1) := by decide +kernel
theorem dX3_toShut_154 : decode cX3_toShut 154 = .ok (.iload 6, 2) := by decide +kernel
theorem dX3_toShut_156 : decode cX3_toShut 156 = .ok (.ifCond .ne 15, 3) := by decide +kernel
theorem dX3_toShut_159 : decode cX3_toShut 159 = .ok (.iload 9, 2) := by decide +kernel
theorem dX3_toShut_161 : decode cX3_toShut 161 = .ok (.ldc 221, 2) := by decide +kernel
theorem dX3_toShut_163 : decode cX3_toShut 163 = .ok (.if_icmp .eq 8, 3) := by decide +kernel
theorem dX3_toShut_166 : decode cX3_toShut 166 = .ok (.iload 8, 2) := by decide +kernel
theorem dX3_toShut_168 : decode cX3_toShut 168 = .ok (.goto 5, 3) := by decide +kernel
theorem dX3_toShut_171 : decode cX3_toShut 171 = .ok (.iload 9, 2) := by decide +kernel
theorem dX3_toShut_173 : decode cX3_toShut 173 = .ok (.invokevirtual 93, 3) := by decide +kernel
theorem dX3_toShut_176 : decode cX3_toShut 176 = .ok (.ireturn, 1) := by decide +kernel
theorem dX3_modes_0 : decode cX3_modes 0 = .ok (.iload_n 1, 1) := by decide +kernel
theorem dX3_modes_1 : decode cX3_modes 1 = .ok (.aload_n 0, 1) := by decide +kernel
theorem dX3_modes_2 : decode cX3_modes 2 = .ok (.getfield 25, 3) := by decide +kernel
theorem dX3_modes_5 : decode cX3_modes 5 = .ok (.getfield 140, 3) := by decide +kernel
theorem dX3_modes_8 : decode cX3_modes 8 = .ok (.invokestatic 80, 3) := by decide +kernel
theorem dX3_modes_11 : decode cX3_modes 11 = .ok (.ifCond .ne 55, 3) := by decide +kernel
theorem dX3_modes_14 : decode cX3_modes 14 = .ok (.iload_n 2, 1) := by decide +kernel
theorem dX3_modes_15 : decode cX3_modes 15 = .ok (.aload_n 0, 1) := by decide +kernel
theorem dX3_modes_16 : decode cX3_modes 16 = .ok (.getfield 25, 3) := by decide +kernel
theorem dX3_modes_19 : decode cX3_modes 19 = .ok (.getfield 147, 3) := by decide +kernel
theorem dX3_modes_22 : decode cX3_modes 22 = .ok (.invokestatic 80, 3) := by decide +kernel
theorem dX3_modes_25 : decode cX3_modes 25 = .ok (.ifCond .ne 41, 3) := by decide +kernel
theorem dX3_modes_28 : decode cX3_modes 28 = .ok (.iload_n 3, 1) := by decide +kernel
theorem dX3_modes_29 : decode cX3_modes 29 = .ok (.bipush 8, 2) := by decide +kernel
theorem dX3_modes_31 : decode cX3_modes 31 = .ok (.invokestatic 80, 3) := by decide +kernel
theorem dX3_modes_34 : decode cX3_modes 34 = .ok (.ifCond .ne 32, 3) := by decide +kernel
theorem dX3_modes_37 : decode cX3_modes 37 = .ok (.iload 5, 2) := by decide +kernel
theorem dX3_modes_39 : decode cX3_modes 39 = .ok (.bipush 17, 2) := by decide +kernel
theorem dX3_modes_41 : decode cX3_modes 41 = .ok (.invokestatic 80, 3) := by decide +kernel
theorem dX3_modes_44 : decode cX3_modes 44 = .ok (.ifCond .ne 22, 3) := by decide +kernel
theorem dX3_modes_47 : decode cX3_modes 47 = .ok (.iload 6, 2) := by decide +kernel
theorem dX3_modes_49 : decode cX3_modes 49 = .ok (.bipush 21, 2) := by decide +kernel
theorem dX3_modes_51 : decode cX3_modes 51 = .ok (.invokestatic 80, 3) := by decide +kernel
theorem dX3_modes_54 : decode cX3_modes 54 = .ok (.ifCond .ne 12, 3) := by decide +kernel
theorem dX3_modes_57 : decode cX3_modes 57 = .ok (.iload 7, 2) := by decide +kernel
theorem dX3_modes_59 : decode cX3_modes 59 = .ok (.iconst 2, 1) := by decide +kernel
theorem dX3_modes_60 : decode cX3_modes 60 = .ok (.invokestatic 80, 3) := by decide +kernel
theorem dX3_modes_63 : decode cX3_modes 63 = .ok (.ifCond .eq 6, 3) := by decide +kernel
theorem dX3_modes_66 : decode cX3_modes 66 = .ok (.ldc 84, 2) := by decide +kernel
theorem dX3_modes_68 : decode cX3_modes 68 = .ok (.ireturn, 1) := by decide +kernel
theorem dX3_modes_69 : decode cX3_modes 69 = .ok (.aload_n 0, 1) := by decide +kernel
theorem dX3_modes_70 : decode cX3_modes 70 = .ok (.aload_n 0, 1) := by decide +kernel
theorem dX3_modes_71 : decode cX3_modes 71 = .ok (.getfield 11, 3) := by decide +kernel
theorem dX3_modes_74 : decode cX3_modes 74 = .ok (.iload_n 3, 1) := by decide +kernel
theorem dX3_modes_75 : decode cX3_modes 75 = .ok (.aaload, 1) := by decide +kernel
theorem dX3_modes_76 : decode cX3_modes 76 = .ok (.iload 4, 2) := by decide +kernel
theorem dX3_modes_78 : decode cX3_modes 78 = .ok (.iload 5, 2) := by decide +kernel
theorem dX3_modes_80 : decode cX3_modes 80 = .ok (.invokevirtual 198, 3) := by decide +kernel
theorem dX3_modes_83 : decode cX3_modes 83 = .ok (.istore 8, 2) := by decide +kernel
theorem dX3_modes_85 : decode cX3_modes 85 = .ok (.iload 8, 2) := by decide +kernel
theorem dX3_modes_87 : decode cX3_modes 87 = .ok (.ifCond .eq 6, 3) := by decide +kernel
theorem dX3_modes_90 : decode cX3_modes 90 = .ok (.iload 8, 2) := by decide +kernel
theorem dX3_modes_92 : decode cX3_modes 92 = .ok (.ireturn, 1) := by decide +kernel
theorem dX3_modes_93 : decode cX3_modes 93 = .ok (.iconst 0, 1) := by decide +kernel
theorem dX3_modes_94 : decode cX3_modes 94 = .ok (.istore 9, 2) := by decide +kernel
theorem dX3_modes_96 : decode cX3_modes 96 = .ok (.ldc 221, 2) := by decide +kernel
theorem dX3_modes_98 : decode cX3_modes 98 = .ok (.istore 10, 2) := by decide +kernel
theorem dX3_modes_100 : decode cX3_modes 100 = .ok (.iconst 0, 1) := by decide +kernel
theorem dX3_modes_101 : decode cX3_modes 101 = .ok (.istore 11, 2) := by decide +kernel
theorem dX3_modes_103 : decode cX3_modes 103 = .ok (.iload 11, 2) := by decide +kernel
theorem dX3_modes_105 : decode cX3_modes 105 = .ok (.sipush 128, 3) := by decide +kernel
theorem dX3_modes_108 : decode cX3_modes 108 = .ok (.if_icmp .ge 70, 3) := by decide +kernel
theorem dX3_modes_111 : decode cX3_modes 111 = .ok (.aload_n 0, 1) := by decide +kernel
theorem dX3_modes_112 : decode cX3_modes 112 = .ok (.getfield 29, 3) := by decide +kernel
theorem dX3_modes_115 : decode cX3_modes 115 = .ok (.aload_n 0, 1) := by decide +kernel
theorem dX3_modes_116 : decode cX3_modes 116 = .ok (.getfield 25, 3) := by decide +kernel
theorem dX3_modes_119 : decode cX3_modes 119 = .ok (.invokevirtual 137, 3) := by decide +kernel
theorem dX3_modes_122 : decode cX3_modes 122 = .ok (.aload_n 0, 1) := by decide +kernel
theorem dX3_modes_123 : decode cX3_modes 123 = .ok (.getfield 29, 3) := by decide +kernel
theorem dX3_modes_126 : decode cX3_modes 126 = .ok (.getfield 170, 3) := by decide +kernel
theorem dX3_modes_129 : decode cX3_modes 129 = .ok (.iload_n 1, 1) := by decide +kernel
theorem dX3_modes_130 : decode cX3_modes 130 = .ok (.iload 11, 2) := by decide +kernel
theorem dX3_modes_132 : decode cX3_modes 132 = .ok (.iastore, 1) := by decide +kernel
theorem dX3_modes_133 : decode cX3_modes 133 = .ok (.aload_n 0, 1) := by decide +kernel
theorem dX3_modes_134 : decode cX3_modes 134 = .ok (.iload_n 2, 1) := by decide +kernel
theorem dX3_modes_135 : decode cX3_modes 135 = .ok (.iload 5, 2) := by decide +kernel
theorem dX3_modes_137 : decode cX3_modes 137 = .ok (.iconst 0, 1) := by decide +kernel
theorem dX3_modes_138 : decode cX3_modes 138 = .ok (.invokevirtual 202, 3) := by decide +kernel
theorem dX3_modes_141 : decode cX3_modes 141 = .ok (.aload_n 0, 1) := by decide +kernel
theorem dX3_modes_142 : decode cX3_modes 142 = .ok (.getfield 29, 3) := by decide +kernel
theorem dX3_modes_145 : decode cX3_modes 145 = .ok (.getfield 176, 3) := by decide +kernel
theorem dX3_modes_148 : decode cX3_modes 148 = .ok (.iload_n 1, 1) := by decide +kernel
theorem dX3_modes_149 : decode cX3_modes 149 = .ok (.iaload, 1) := by decide +kernel
theorem dX3_modes_150 : decode cX3_modes 150 = .ok (.iload 6, 2) := by decide +kernel
theorem dX3_modes_152 : decode cX3_modes 152 = .ok (.if_icmp .ne 20, 3) := by decide +kernel
theorem dX3_modes_155 : decode cX3_modes 155 = .ok (.iload 9, 2) := by decide +kernel
theorem dX3_modes_157 : decode cX3_modes 157 = .ok (.ifCond .ne 8, 3) := by decide +kernel
theorem dX3_modes_160 : decode cX3_modes 160 = .ok (.iload 11, 2) := by decide +kernel
theorem dX3_modes_162 : decode cX3_modes 162 = .ok (.goto 5, 3) := by decide +kernel
theorem dX3_modes_165 : decode cX3_modes 165 = .ok (.iload 10, 2) := by decide +kernel
theorem dX3_modes_167 : decode cX3_modes 167 = .ok (.istore 10, 2) := by decide +kernel
theorem dX3_modes_169 : decode cX3_modes 169 = .ok (.iinc 9 1, 3) := by decide +kernel
theorem dX3_modes_172 : decode cX3_modes 172 = .ok (.iinc 11 1, 3) := by decide +kernel
theorem dX3_modes_175 : decode cX3_modes 175 = .ok (.goto (-72), 3) := by decide +kernel
theorem dX3_modes_178 : decode cX3_modes 178 = .ok (.aload_n 0, 1) := by decide +kernel
theorem dX3_modes_179 : decode cX3_modes 179 = .ok (.iload 7, 2) := by decide +kernel
theorem dX3_modes_181 : decode cX3_modes 181 = .ok (.ifCond .ne 8, 3) := by decide +kernel
theorem dX3_modes_184 : decode cX3_modes 184 = .ok (.iload 9, 2) := by decide +kernel
theorem dX3_modes_186 : decode cX3_modes 186 = .ok (.goto 5, 3) := by decide +kernel
theorem dX3_modes_189 : decode cX3_modes 189 = .ok (.iload 10, 2) := by decide +kernel
theorem dX3_modes_191 : decode cX3_modes 191 = .ok (.invokevirtual 93, 3) := by decide +kernel
theorem dX3_modes_194 : decode cX3_modes 194 = .ok (.ireturn, 1) := by decide +kernel
theorem dX3_coughs_0 : decode cX3_coughs 0 = .ok (.iload_n 1, 1) := by decide +kernel
theorem dX3_coughs_1 : decode cX3_coughs 1 = .ok (.aload_n 0, 1) := by decide +kernel
theorem dX3_coughs_2 : decode cX3_coughs 2 = .ok (.getfield 25, 3) := by decide +kernel
theorem dX3_coughs_5 : decode cX3_coughs 5 = .ok (.getfield 140, 3) := by decide +kernel
theorem dX3_coughs_8 : decode cX3_coughs 8 = .ok (.invokestatic 80, 3) := by decide +kernel
theorem dX3_coughs_11 : decode cX3_coughs 11 = .ok (.ifCond .ne 55, 3) := by decide +kernel
theorem dX3_coughs_14 : decode cX3_coughs 14 = .ok (.iload_n 2, 1) := by decide +kernel
theorem dX3_coughs_15 : decode cX3_coughs 15 = .ok (.aload_n 0, 1) := by decide +kernel
theorem dX3_coughs_16 : decode cX3_coughs 16 = .ok (.getfield 25, 3) := by decide +kernel
theorem dX3_coughs_19 : decode cX3_coughs 19 = .ok (.getfield 147, 3) := by decide +kernel
theorem dX3_coughs_22 : decode cX3_coughs 22 = .ok (.invokestatic 80, 3) := by decide +kernel
theorem dX3_coughs_25 : decode cX3_coughs 25 = .ok (.ifCond .ne 41, 3) := by decide +kernel
theorem dX3_coughs_28 : decode cX3_coughs 28 = .ok (.iload_n 3, 1) := by decide +kernel
theorem dX3_coughs_29 : decode cX3_coughs 29 = .ok (.bipush 8, 2) := by decide +kernel
theorem dX3_coughs_31 : decode cX3_coughs 31 = .ok (.invokestatic 80, 3) := by decide +kernel
theorem dX3_coughs_34 : decode cX3_coughs 34 = .ok (.ifCond .ne 32, 3) := by decide +kernel
theorem dX3_coughs_37 : decode cX3_coughs 37 = .ok (.iload 5, 2) := by decide +kernel
theorem dX3_coughs_39 : decode cX3_coughs 39 = .ok (.bipush 9, 2) := by decide +kernel
theorem dX3_coughs_41 : decode cX3_coughs 41 = .ok (.invokestatic 80, 3) := by decide +kernel
theorem dX3_coughs_44 : decode cX3_coughs 44 = .ok (.ifCond .ne 22, 3) := by decide +kernel
theorem dX3_coughs_47 : decode cX3_coughs 47 = .ok (.iload 6, 2) := by decide +kernel
theorem dX3_coughs_49 : decode cX3_coughs 49 = .ok (.bipush 11, 2) := by decide +kernel
theorem dX3_coughs_51 : decode cX3_coughs 51 = .ok (.invokestatic 80, 3) := by decide +kernel
theorem dX3_coughs_54 : decode cX3_coughs 54 = .ok (.ifCond .ne 12, 3) := by decide +kernel
theorem dX3_coughs_57 : decode cX3_coughs 57 = .ok (.iload 7, 2) := by decide +kernel
theorem dX3_coughs_59 : decode cX3_coughs 59 = .ok (.iconst 2, 1) := by decide +kernel
theorem dX3_coughs_60 : decode cX3_coughs 60 = .ok (.invokestatic 80, 3) := by decide +kernel
theorem dX3_coughs_63 : decode cX3_coughs 63 = .ok (.ifCond .eq 6, 3) := by decide +kernel
theorem dX3_coughs_66 : decode cX3_coughs 66 = .ok (.ldc 84, 2) := by decide +kernel
theorem dX3_coughs_68 : decode cX3_coughs 68 = .ok (.ireturn, 1) := by decide +kernel
theorem dX3_coughs_69 : decode cX3_coughs 69 = .ok (.aload_n 0, 1) := by decide +kernel
theorem dX3_coughs_70 : decode cX3_coughs 70 = .ok (.aload_n 0, 1) := by decide +kernel
theorem dX3_coughs_71 : decode cX3_coughs 71 = .ok (.getfield 11, 3) := by decide +kernel
theorem dX3_coughs_74 : decode cX3_coughs 74 = .ok (.iload_n 3, 1) := by decide +kernel
theorem dX3_coughs_75 : decode cX3_coughs 75 = .ok (.aaload, 1) := by decide +kernel
theorem dX3_coughs_76 : decode cX3_coughs 76 = .ok (.iload 4, 2) := by decide +kernel
theorem dX3_coughs_78 : decode cX3_coughs 78 = .ok (.iload 5, 2) := by decide +kernel
theorem dX3_coughs_80 : decode cX3_coughs 80 = .ok (.invokevirtual 198, 3) := by decide +kernel
theorem dX3_coughs_83 : decode cX3_coughs 83 = .ok (.istore 8, 2) := by decide +kernel
theorem dX3_coughs_85 : decode cX3_coughs 85 = .ok (.iload 8, 2) := by decide +kernel
theorem dX3_coughs_87 : decode cX3_coughs 87 = .ok (.ifCond .eq 6, 3) := by decide +kernel
theorem dX3_coughs_90 : decode cX3_coughs 90 = .ok (.iload 8, 2) := by decide +kernel
theorem dX3_coughs_92 : decode cX3_coughs 92 = .ok (.ireturn, 1) := by decide +kernel
theorem dX3_coughs_93 : decode cX3_coughs 93 = .ok (.iconst 0, 1) := by decide +kernel
theorem dX3_coughs_94 : decode cX3_coughs 94 = .ok (.istore 9, 2) := by decide +kernel
theorem dX3_coughs_96 : decode cX3_coughs 96 = .ok (.iconst 0, 1) := by decide +kernel
theorem dX3_coughs_97 : decode cX3_coughs 97 = .ok (.istore 10, 2) := by decide +kernel
theorem dX3_coughs_99 : decode cX3_coughs 99 = .ok (.iload 10, 2) := by decide +kernel
theorem dX3_coughs_101 : decode cX3_coughs 101 = .ok (.iconst 1, 1) := by decide +kernel
theorem dX3_coughs_102 : decode cX3_coughs 102 = .ok (.iload 5, 2) := by decide +kernel
theorem dX3_coughs_104 : decode cX3_coughs 104 = .ok (.ishl, 1) := by decide +kernel
theorem dX3_coughs_105 : decode cX3_coughs 105 = .ok (.if_icmp .ge 67, 3) := by decide +kernel
theorem dX3_coughs_108 : decode cX3_coughs 108 = .ok (.iload 10, 2) := by decide +kernel
theorem dX3_coughs_110 : decode cX3_coughs 110 = .ok (.iload 5, 2) := by decide +kernel
theorem dX3_coughs_112 : decode cX3_coughs 112 = .ok (.iload 6, 2) := by decide +kernel
theorem dX3_coughs_114 : decode cX3_coughs 114 = .ok (.invokestatic 226, 3) := by decide +kernel
theorem dX3_coughs_117 : decode cX3_coughs 117 = .ok (.istore 11, 2) := by decide +kernel
theorem dX3_coughs_119 : decode cX3_coughs 119 = .ok (.iload 11, 2) := by decide +kernel
theorem dX3_coughs_121 : decode cX3_coughs 121 = .ok (.ifCond .le 45, 3) := by decide +kernel
theorem dX3_coughs_124 : decode cX3_coughs 124 = .ok (.aload_n 0, 1) := by decide +kernel
theorem dX3_coughs_125 : decode cX3_coughs 125 = .ok (.getfield 29, 3) := by decide +kernel
theorem dX3_coughs_128 : decode cX3_coughs 128 = .ok (.aload_n 0, 1) := by decide +kernel
theorem dX3_coughs_129 : decode cX3_coughs 129 = .ok (.getfield 25, 3) := by decide +kernel
theorem dX3_coughs_132 : decode cX3_coughs 132 = .ok (.invokevirtual 137, 3) := by decide +kernel
theorem dX3_coughs_135 : decode cX3_coughs 135 = .ok (.aload_n 0, 1) := by decide +kernel
theorem dX3_coughs_136 : decode cX3_coughs 136 = .ok (.iload_n 2, 1) := by decide +kernel
theorem dX3_coughs_137 : decode cX3_coughs 137 = .ok (.iload 5, 2) := by decide +kernel
theorem dX3_coughs_139 : decode cX3_coughs 139 = .ok (.iload 10, 2) := by decide +kernel
theorem dX3_coughs_141 : decode cX3_coughs 141 = .ok (.invokevirtual 202, 3) := by decide +kernel
theorem dX3_coughs_144 : decode cX3_coughs 144 = .ok (.iload 9, 2) := by decide +kernel
theorem dX3_coughs_146 : decode cX3_coughs 146 = .ok (.aload_n 0, 1) := by decide +kernel
theorem dX3_coughs_147 : decode cX3_coughs 147 = .ok (.getfield 29, 3) := by decide +kernel
theorem dX3_coughs_150 : decode cX3_coughs 150 = .ok (.iload_n 1, 1) := by decide +kernel
theorem dX3_coughs_151 : decode cX3_coughs 151 = .ok (.invokevirtual 179, 3) := by decide +kernel
theorem dX3_coughs_154 : decode cX3_coughs 154 = .ok (.ifCond .eq 8, 3) := by decide +kernel
theorem dX3_coughs_157 : decode cX3_coughs 157 = .ok (.iload 11, 2) := by decide +kernel
theorem dX3_coughs_159 : decode cX3_coughs 159 = .ok (.goto 4, 3) := by decide +kernel
theorem dX3_coughs_162 : decode cX3_coughs 162 = .ok (.iconst 0, 1) := by decide +kernel
theorem dX3_coughs_163 : decode cX3_coughs 163 = .ok (.iadd, 1) := by decide +kernel
theorem dX3_coughs_164 : decode cX3_coughs 164 = .ok (.istore 9, 2) := by decide +kernel
theorem dX3_coughs_166 : decode cX3_coughs 166 = .ok (.iinc 10 1, 3) := by decide +kernel
theorem dX3_coughs_169 : decode cX3_coughs 169 = .ok (.goto (-70), 3) := by decide +kernel
theorem dX3_coughs_172 : decode cX3_coughs 172 = .ok (.bipush 10, 2) := by decide +kernel
theorem dX3_coughs_174 : decode cX3_coughs 174 = .ok (.iload 5, 2) := by decide +kernel
theorem dX3_coughs_176 : decode cX3_coughs 176 = .ok (.invokestatic 229, 3) := by decide +kernel
theorem dX3_coughs_179 : decode cX3_coughs 179 = .ok (.istore 10, 2) := by decide +kernel
theorem dX3_coughs_181 : decode cX3_coughs 181 = .ok (.iload 9, 2) := by decide +kernel
theorem dX3_coughs_183 : decode cX3_coughs 183 = .ok (.iload 10, 2) := by decide +kernel
theorem dX3_coughs_185 : decode cX3_coughs 185 = .ok (.invokestatic 233, 3) := by decide +kernel
theorem dX3_coughs_188 : decode cX3_coughs 188 = .ok (.istore 11, 2) := by decide +kernel
theorem dX3_coughs_190 : decode cX3_coughs 190 = .ok (.aload_n 0, 1) := by decide +kernel
theorem dX3_coughs_191 : decode cX3_coughs 191 = .ok (.iload 7, 2) := by decide +kernel
theorem dX3_coughs_193 : decode cX3_coughs 193 = .ok (.ifCond .ne 8, 3) := by decide +kernel
theorem dX3_coughs_196 : decode cX3_coughs 196 = .ok (.iload 9, 2) := by decide +kernel
theorem dX3_coughs_198 : decode cX3_coughs 198 = .ok (.goto 5, 3) := by decide +kernel
theorem dX3_coughs_201 : decode cX3_coughs 201 = .ok (.iload 10, 2) := by decide +kernel
theorem dX3_coughs_203 : decode cX3_coughs 203 = .ok (.iload 11, 2) := by decide +kernel
theorem dX3_coughs_205 : decode cX3_coughs 205 = .ok (.idiv, 1) := by decide +kernel
theorem dX3_coughs_206 : decode cX3_coughs 206 = .ok (.invokevirtual 93, 3) := by decide +kernel
theorem dX3_coughs_209 : decode cX3_coughs 209 = .ok (.ireturn, 1) := by decide +kernel
theorem dX3_image_0 : decode cX3_image 0 = .ok (.iload_n 1, 1) := by decide +kernel
theorem dX3_image_1 : decode cX3_image 1 = .ok (.iconst 2, 1) := by decide +kernel
theorem dX3_image_2 : decode cX3_image 2 = .ok (.invokestatic 80, 3) := by decide +kernel
theorem dX3_image_5 : decode cX3_image 5 = .ok (.ifCond .eq 6, 3) := by decide +kernel
theorem dX3_image_8 : decode cX3_image 8 = .ok (.ldc 84, 2) := by decide +kernel
theorem dX3_image_10 : decode cX3_image 10 = .ok (.ireturn, 1) := by decide +kernel
theorem dX3_image_11 : decode cX3_image 11 = .ok (.aload_n 0, 1) := by decide +kernel
theorem dX3_image_12 : decode cX3_image 12 = .ok (.getfield 25, 3) := by decide +kernel
theorem dX3_image_15 : decode cX3_image 15 = .ok (.getfield 143, 3) := by decide +kernel
theorem dX3_image_18 : decode cX3_image 18 = .ok (.ifCond .ne 6, 3) := by decide +kernel
theorem dX3_image_21 : decode cX3_image 21 = .ok (.ldc 146, 2) := by decide +kernel
theorem dX3_image_23 : decode cX3_image 23 = .ok (.ireturn, 1) := by decide +kernel
theorem dX3_image_24 : decode cX3_image 24 = .ok (.aload_n 0, 1) := by decide +kernel
theorem dX3_image_25 : decode cX3_image 25 = .ok (.getfield 32, 3) := by decide +kernel
theorem dX3_image_28 : decode cX3_image 28 = .ok (.iload_n 1, 1) := by decide +kernel
theorem dX3_image_29 : decode cX3_image 29 = .ok (.aaload, 1) := by decide +kernel
theorem dX3_image_30 : decode cX3_image 30 = .ok (.aload_n 0, 1) := by decide +kernel
theorem dX3_image_31 : decode cX3_image 31 = .ok (.getfield 25, 3) := by decide +kernel
theorem dX3_image_34 : decode cX3_image 34 = .ok (.invokevirtual 137, 3) := by decide +kernel
theorem dX3_image_37 : decode cX3_image 37 = .ok (.iconst 1, 1) := by decide +kernel
theorem dX3_image_38 : decode cX3_image 38 = .ok (.ireturn, 1) := by decide +kernel
theorem dX3_restore_0 : decode cX3_restore 0 = .ok (.iload_n 1, 1) := by decide +kernel
theorem dX3_restore_1 : decode cX3_restore 1 = .ok (.iconst 2, 1) := by decide +kernel
theorem dX3_restore_2 : decode cX3_restore 2 = .ok (.invokestatic 80, 3) := by decide +kernel
theorem dX3_restore_5 : decode cX3_restore 5 = .ok (.ifCond .eq 6, 3) := by decide +kernel
theorem dX3_restore_8 : decode cX3_restore 8 = .ok (.ldc 84, 2) := by decide +kernel
theorem dX3_restore_10 : decode cX3_restore 10 = .ok (.ireturn, 1) := by decide +kernel
theorem dX3_restore_11 : decode cX3_restore 11 = .ok (.aload_n 0, 1) := by decide +kernel
theorem dX3_restore_12 : decode cX3_restore 12 = .ok (.getfield 32, 3) := by decide +kernel
theorem dX3_restore_15 : decode cX3_restore 15 = .ok (.iload_n 1, 1) := by decide +kernel
theorem dX3_restore_16 : decode cX3_restore 16 = .ok (.aaload, 1) := by decide +kernel
theorem dX3_restore_17 : decode cX3_restore 17 = .ok (.getfield 143, 3) := by decide +kernel
theorem dX3_restore_20 : decode cX3_restore 20 = .ok (.ifCond .ne 6, 3) := by decide +kernel
theorem dX3_restore_23 : decode cX3_restore 23 = .ok (.ldc 146, 2) := by decide +kernel
theorem dX3_restore_25 : decode cX3_restore 25 = .ok (.ireturn, 1) := by decide +kernel
theorem dX3_restore_26 : decode cX3_restore 26 = .ok (.aload_n 0, 1) := by decide +kernel
theorem dX3_restore_27 : decode cX3_restore 27 = .ok (.getfield 25, 3) := by decide +kernel
theorem dX3_restore_30 : decode cX3_restore 30 = .ok (.aload_n 0, 1) := by decide +kernel
theorem dX3_restore_31 : decode cX3_restore 31 = .ok (.getfield 32, 3) := by decide +kernel
theorem dX3_restore_34 : decode cX3_restore 34 = .ok (.iload_n 1, 1) := by decide +kernel
theorem dX3_restore_35 : decode cX3_restore 35 = .ok (.aaload, 1) := by decide +kernel
theorem dX3_restore_36 : decode cX3_restore 36 = .ok (.invokevirtual 137, 3) := by decide +kernel
theorem dX3_restore_39 : decode cX3_restore 39 = .ok (.aload_n 0, 1) := by decide +kernel
theorem dX3_restore_40 : decode cX3_restore 40 = .ok (.iconst 0, 1) := by decide +kernel
theorem dX3_restore_41 : decode cX3_restore 41 = .ok (.putfield 41, 3) := by decide +kernel
theorem dX3_restore_44 : decode cX3_restore 44 = .ok (.iconst 1, 1) := by decide +kernel
theorem dX3_restore_45 : decode cX3_restore 45 = .ok (.ireturn, 1) := by decide +kernel
theorem dX3_kind_0 : decode cX3_kind 0 = .ok (.iload_n 1, 1) := by decide +kernel
theorem dX3_kind_1 : decode cX3_kind 1 = .ok (.aload_n 0, 1) := by decide +kernel
theorem dX3_kind_2 : decode cX3_kind 2 = .ok (.getfield 25, 3) := by decide +kernel
theorem dX3_kind_5 : decode cX3_kind 5 = .ok (.getfield 140, 3) := by decide +kernel
theorem dX3_kind_8 : decode cX3_kind 8 = .ok (.invokestatic 80, 3) := by decide +kernel
theorem dX3_kind_11 : decode cX3_kind 11 = .ok (.ifCond .eq 8, 3) := by decide +kernel
theorem dX3_kind_14 : decode cX3_kind 14 = .ok (.ldc 84, 2) := by decide +kernel
theorem dX3_kind_16 : decode cX3_kind 16 = .ok (.goto 12, 3) := by decide +kernel
theorem dX3_kind_19 : decode cX3_kind 19 = .ok (.aload_n 0, 1) := by decide +kernel
theorem dX3_kind_20 : decode cX3_kind 20 = .ok (.getfield 25, 3) := by decide +kernel
theorem dX3_kind_23 : decode cX3_kind 23 = .ok (.getfield 236, 3) := by decide +kernel
theorem dX3_kind_26 : decode cX3_kind 26 = .ok (.iload_n 1, 1) := by decide +kernel
theorem dX3_kind_27 : decode cX3_kind 27 = .ok (.iaload, 1) := by decide +kernel
theorem dX3_kind_28 : decode cX3_kind 28 = .ok (.ireturn, 1) := by decide +kernel
theorem dX3_as_0 : decode cX3_as 0 = .ok (.iload_n 1, 1) := by decide +kernel
theorem dX3_as_1 : decode cX3_as 1 = .ok (.aload_n 0, 1) := by decide +kernel
theorem dX3_as_2 : decode cX3_as 2 = .ok (.getfield 25, 3) := by decide +kernel
theorem dX3_as_5 : decode cX3_as 5 = .ok (.getfield 140, 3) := by decide +kernel
theorem dX3_as_8 : decode cX3_as 8 = .ok (.invokestatic 80, 3) := by decide +kernel
theorem dX3_as_11 : decode cX3_as 11 = .ok (.ifCond .ne 12, 3) := by decide +kernel
theorem dX3_as_14 : decode cX3_as 14 = .ok (.iload_n 2, 1) := by decide +kernel
theorem dX3_as_15 : decode cX3_as 15 = .ok (.bipush 6, 2) := by decide +kernel
theorem dX3_as_17 : decode cX3_as 17 = .ok (.invokestatic 80, 3) := by decide +kernel
theorem dX3_as_20 : decode cX3_as 20 = .ok (.ifCond .eq 6, 3) := by decide +kernel
theorem dX3_as_23 : decode cX3_as 23 = .ok (.ldc 84, 2) := by decide +kernel
theorem dX3_as_25 : decode cX3_as 25 = .ok (.ireturn, 1) := by decide +kernel
theorem dX3_as_26 : decode cX3_as 26 = .ok (.aload_n 0, 1) := by decide +kernel
theorem dX3_as_27 : decode cX3_as 27 = .ok (.getfield 25, 3) := by decide +kernel
theorem dX3_as_30 : decode cX3_as 30 = .ok (.getfield 236, 3) := by decide +kernel
theorem dX3_as_33 : decode cX3_as 33 = .ok (.iload_n 1, 1) := by decide +kernel
theorem dX3_as_34 : decode cX3_as 34 = .ok (.iaload, 1) := by decide +kernel
theorem dX3_as_35 : decode cX3_as 35 = .ok (.iload_n 2, 1) := by decide +kernel
theorem dX3_as_36 : decode cX3_as 36 = .ok (.invokestatic 239, 3) := by decide +kernel
theorem dX3_as_39 : decode cX3_as 39 = .ok (.ifCond .eq 11, 3) := by decide +kernel
theorem dX3_as_42 : decode cX3_as 42 = .ok (.aload_n 0, 1) := by decide +kernel
theorem dX3_as_43 : decode cX3_as 43 = .ok (.iload_n 1, 1) := by decide +kernel
theorem dX3_as_44 : decode cX3_as 44 = .ok (.invokevirtual 93, 3) := by decide +kernel
theorem dX3_as_47 : decode cX3_as 47 = .ok (.goto 8, 3) := by decide +kernel
theorem dX3_as_50 : decode cX3_as 50 = .ok (.aload_n 0, 1) := by decide +kernel
theorem dX3_as_51 : decode cX3_as 51 = .ok (.iconst 3, 1) := by decide +kernel
theorem dX3_as_52 : decode cX3_as 52 = .ok (.invokevirtual 85, 3) := by decide +kernel
theorem dX3_as_55 : decode cX3_as 55 = .ok (.ireturn, 1) := by decide +kernel
theorem dX3_ask_0 : decode cX3_ask 0 = .ok (.iload_n 1, 1) := by decide +kernel
theorem dX3_ask_1 : decode cX3_ask 1 = .ok (.aload_n 0, 1) := by decide +kernel
theorem dX3_ask_2 : decode cX3_ask 2 = .ok (.getfield 25, 3) := by decide +kernel
theorem dX3_ask_5 : decode cX3_ask 5 = .ok (.getfield 140, 3) := by decide +kernel
theorem dX3_ask_8 : decode cX3_ask 8 = .ok (.invokestatic 80, 3) := by decide +kernel
theorem dX3_ask_11 : decode cX3_ask 11 = .ok (.ifCond .ne 11, 3) := by decide +kernel
theorem dX3_ask_14 : decode cX3_ask 14 = .ok (.iload_n 2, 1) := by decide +kernel
theorem dX3_ask_15 : decode cX3_ask 15 = .ok (.iconst 2, 1) := by decide +kernel
theorem dX3_ask_16 : decode cX3_ask 16 = .ok (.invokestatic 80, 3) := by decide +kernel
theorem dX3_ask_19 : decode cX3_ask 19 = .ok (.ifCond .eq 6, 3) := by decide +kernel
theorem dX3_ask_22 : decode cX3_ask 22 = .ok (.ldc 84, 2) := by decide +kernel
theorem dX3_ask_24 : decode cX3_ask 24 = .ok (.ireturn, 1) := by decide +kernel
theorem dX3_ask_25 : decode cX3_ask 25 = .ok (.aload_n 0, 1) := by decide +kernel
theorem dX3_ask_26 : decode cX3_ask 26 = .ok (.iconst 0, 1) := by decide +kernel
theorem dX3_ask_27 : decode cX3_ask 27 = .ok (.putfield 70, 3) := by decide +kernel
theorem dX3_ask_30 : decode cX3_ask 30 = .ok (.aload_n 0, 1) := by decide +kernel
theorem dX3_ask_31 : decode cX3_ask 31 = .ok (.getfield 25, 3) := by decide +kernel
theorem dX3_ask_34 : decode cX3_ask 34 = .ok (.getfield 236, 3) := by decide +kernel
theorem dX3_ask_37 : decode cX3_ask 37 = .ok (.iload_n 1, 1) := by decide +kernel
theorem dX3_ask_38 : decode cX3_ask 38 = .ok (.iaload, 1) := by decide +kernel
theorem dX3_ask_39 : decode cX3_ask 39 = .ok (.iconst 1, 1) := by decide +kernel
theorem dX3_ask_40 : decode cX3_ask 40 = .ok (.invokestatic 239, 3) := by decide +kernel
theorem dX3_ask_43 : decode cX3_ask 43 = .ok (.istore_n 3, 1) := by decide +kernel
theorem dX3_ask_44 : decode cX3_ask 44 = .ok (.iload_n 2, 1) := by decide +kernel
theorem dX3_ask_45 : decode cX3_ask 45 = .ok (.ifCond .ne 21, 3) := by decide +kernel
theorem dX3_ask_48 : decode cX3_ask 48 = .ok (.iload_n 3, 1) := by decide +kernel
theorem dX3_ask_49 : decode cX3_ask 49 = .ok (.ifCond .eq 11, 3) := by decide +kernel
theorem dX3_ask_52 : decode cX3_ask 52 = .ok (.aload_n 0, 1) := by decide +kernel
theorem dX3_ask_53 : decode cX3_ask 53 = .ok (.iload_n 1, 1) := by decide +kernel
theorem dX3_ask_54 : decode cX3_ask 54 = .ok (.invokevirtual 242, 3) := by decide +kernel
theorem dX3_ask_57 : decode cX3_ask 57 = .ok (.goto 8, 3) := by decide +kernel
theorem dX3_ask_60 : decode cX3_ask 60 = .ok (.aload_n 0, 1) := by decide +kernel
theorem dX3_ask_61 : decode cX3_ask 61 = .ok (.iload_n 1, 1) := by decide +kernel
theorem dX3_ask_62 : decode cX3_ask 62 = .ok (.invokevirtual 245, 3) := by decide +kernel
theorem dX3_ask_65 : decode cX3_ask 65 = .ok (.ireturn, 1) := by decide +kernel
theorem dX3_ask_66 : decode cX3_ask 66 = .ok (.iload_n 3, 1) := by decide +kernel
theorem dX3_ask_67 : decode cX3_ask 67 = .ok (.ifCond .eq 11, 3) := by decide +kernel
theorem dX3_ask_70 : decode cX3_ask 70 = .ok (.aload_n 0, 1) := by decide +kernel
theorem dX3_ask_71 : decode cX3_ask 71 = .ok (.iload_n 1, 1) := by decide +kernel
theorem dX3_ask_72 : decode cX3_ask 72 = .ok (.invokevirtual 248, 3) := by decide +kernel
theorem dX3_ask_75 : decode cX3_ask 75 = .ok (.goto 8, 3) := by decide +kernel
theorem dX3_ask_78 : decode cX3_ask 78 = .ok (.aload_n 0, 1) := by decide +kernel
theorem dX3_ask_79 : decode cX3_ask 79 = .ok (.iload_n 1, 1) := by decide +kernel
theorem dX3_ask_80 : decode cX3_ask 80 = .ok (.invokevirtual 251, 3) := by decide +kernel
theorem dX3_ask_83 : decode cX3_ask 83 = .ok (.ireturn, 1) := by decide +kernel
theorem dX3_trace_0 : decode cX3_trace 0 = .ok (.iload_n 1, 1) := by decide +kernel
theorem dX3_trace_1 : decode cX3_trace 1 = .ok (.aload_n 0, 1) := by decide +kernel
theorem dX3_trace_2 : decode cX3_trace 2 = .ok (.getfield 70, 3) := by decide +kernel
theorem dX3_trace_5 : decode cX3_trace 5 = .ok (.invokestatic 80, 3) := by decide +kernel
theorem dX3_trace_8 : decode cX3_trace 8 = .ok (.ifCond .eq 8, 3) := by decide +kernel
theorem dX3_trace_11 : decode cX3_trace 11 = .ok (.ldc 221, 2) := by decide +kernel
theorem dX3_trace_13 : decode cX3_trace 13 = .ok (.goto 9, 3) := by decide +kernel
theorem dX3_trace_16 : decode cX3_trace 16 = .ok (.aload_n 0, 1) := by decide +kernel
theorem dX3_trace_17 : decode cX3_trace 17 = .ok (.getfield 67, 3) := by decide +kernel
theorem dX3_trace_20 : decode cX3_trace 20 = .ok (.iload_n 1, 1) := by decide +kernel
theorem dX3_trace_21 : decode cX3_trace 21 = .ok (.iaload, 1) := by decide +kernel
theorem dX3_trace_22 : decode cX3_trace 22 = .ok (.ireturn, 1) := by decide +kernel
theorem dX3_count_0 : decode cX3_count 0 = .ok (.iload_n 1, 1) := by decide +kernel
theorem dX3_count_1 : decode cX3_count 1 = .ok (.tableswitch 105 0 7 #[47, 52, 60, 68, 76, 84, 92, 97], 47) := by decide +kernel
theorem dX3_count_48 : decode cX3_count 48 = .ok (.aload_n 0, 1) := by decide +kernel
theorem dX3_count_49 : decode cX3_count 49 = .ok (.invokevirtual 254, 3) := by decide +kernel
theorem dX3_count_52 : decode cX3_count 52 = .ok (.ireturn, 1) := by decide +kernel
theorem dX3_count_53 : decode cX3_count 53 = .ok (.aload_n 0, 1) := by decide +kernel
theorem dX3_count_54 : decode cX3_count 54 = .ok (.getfield 25, 3) := by decide +kernel
theorem dX3_count_57 : decode cX3_count 57 = .ok (.getfield 147, 3) := by decide +kernel
theorem dX3_count_60 : decode cX3_count 60 = .ok (.ireturn, 1) := by decide +kernel
theorem dX3_count_61 : decode cX3_count 61 = .ok (.aload_n 0, 1) := by decide +kernel
theorem dX3_count_62 : decode cX3_count 62 = .ok (.getfield 25, 3) := by decide +kernel
theorem dX3_count_65 : decode cX3_count 65 = .ok (.getfield 140, 3) := by decide +kernel
theorem dX3_count_68 : decode cX3_count 68 = .ok (.ireturn, 1) := by decide +kernel
theorem dX3_count_69 : decode cX3_count 69 = .ok (.aload_n 0, 1) := by decide +kernel
theorem dX3_count_70 : decode cX3_count 70 = .ok (.getfield 25, 3) := by decide +kernel
theorem dX3_count_73 : decode cX3_count 73 = .ok (.getfield 257, 3) := by decide +kernel
theorem dX3_count_76 : decode cX3_count 76 = .ok (.ireturn, 1) := by decide +kernel
theorem dX3_count_77 : decode cX3_count 77 = .ok (.aload_n 0, 1) := by decide +kernel
theorem dX3_count_78 : decode cX3_count 78 = .ok (.getfield 25, 3) := by decide +kernel
theorem dX3_count_81 : decode cX3_count 81 = .ok (.getfield 260, 3) := by decide +kernel
theorem dX3_count_84 : decode cX3_count 84 = .ok (.ireturn, 1) := by decide +kernel
theorem dX3_count_85 : decode cX3_count 85 = .ok (.aload_n 0, 1) := by decide +kernel
theorem dX3_count_86 : decode cX3_count 86 = .ok (.getfield 25, 3) := by decide +kernel
theorem dX3_count_89 : decode cX3_count 89 = .ok (.invokevirtual 160, 3) := by decide +kernel
theorem dX3_count_92 : decode cX3_count 92 = .ok (.ireturn, 1) := by decide +kernel
theorem dX3_count_93 : decode cX3_count 93 = .ok (.aload_n 0, 1) := by decide +kernel
theorem dX3_count_94 : decode cX3_count 94 = .ok (.getfield 41, 3) := by decide +kernel
theorem dX3_count_97 : decode cX3_count 97 = .ok (.ireturn, 1) := by decide +kernel
theorem dX3_count_98 : decode cX3_count 98 = .ok (.aload_n 0, 1) := by decide +kernel
theorem dX3_count_99 : decode cX3_count 99 = .ok (.getfield 18, 3) := by decide +kernel
theorem dX3_count_102 : decode cX3_count 102 = .ok (.getfield 121, 3) := by decide +kernel
theorem dX3_count_105 : decode cX3_count 105 = .ok (.ireturn, 1) := by decide +kernel
theorem dX3_count_106 : decode cX3_count 106 = .ok (.ldc 84, 2) := by decide +kernel
theorem dX3_count_108 : decode cX3_count 108 = .ok (.ireturn, 1) := by decide +kernel
theorem dX3_status_0 : decode cX3_status 0 = .ok (.aload_n 0, 1) := by decide +kernel
theorem dX3_status_1 : decode cX3_status 1 = .ok (.getfield 76, 3) := by decide +kernel
theorem dX3_status_4 : decode cX3_status 4 = .ok (.ireturn, 1) := by decide +kernel
theorem dX3_isNot_0 : decode cX3_isNot 0 = .ok (.iload_n 0, 1) := by decide +kernel
theorem dX3_isNot_1 : decode cX3_isNot 1 = .ok (.ifCond .lt 8, 3) := by decide +kernel
theorem dX3_isNot_4 : decode cX3_isNot 4 = .ok (.iload_n 0, 1) := by decide +kernel
theorem dX3_isNot_5 : decode cX3_isNot 5 = .ok (.iload_n 1, 1) := by decide +kernel
theorem dX3_isNot_6 : decode cX3_isNot 6 = .ok (.if_icmp .lt 7, 3) := by decide +kernel
theorem dX3_isNot_9 : decode cX3_isNot 9 = .ok (.iconst 1, 1) := by decide +kernel
theorem dX3_isNot_10 : decode cX3_isNot 10 = .ok (.goto 4, 3) := by decide +kernel
theorem dX3_isNot_13 : decode cX3_isNot 13 = .ok (.iconst 0, 1) := by decide +kernel
theorem dX3_isNot_14 : decode cX3_isNot 14 = .ok (.ireturn, 1) := by decide +kernel
theorem dX3_found_0 : decode cX3_found 0 = .ok (.aload_n 0, 1) := by decide +kernel
theorem dX3_found_1 : decode cX3_found 1 = .ok (.iload_n 1, 1) := by decide +kernel
theorem dX3_found_2 : decode cX3_found 2 = .ok (.putfield 76, 3) := by decide +kernel
theorem dX3_found_5 : decode cX3_found 5 = .ok (.ldc_w 263, 3) := by decide +kernel
theorem dX3_found_8 : decode cX3_found 8 = .ok (.iload_n 1, 1) := by decide +kernel
theorem dX3_found_9 : decode cX3_found 9 = .ok (.isub, 1) := by decide +kernel
theorem dX3_found_10 : decode cX3_found 10 = .ok (.ireturn, 1) := by decide +kernel
theorem dX3_fine_0 : decode cX3_fine 0 = .ok (.aload_n 0, 1) := by decide +kernel
theorem dX3_fine_1 : decode cX3_fine 1 = .ok (.iconst 0, 1) := by decide +kernel
theorem dX3_fine_2 : decode cX3_fine 2 = .ok (.putfield 76, 3) := by decide +kernel
theorem dX3_fine_5 : decode cX3_fine 5 = .ok (.iload_n 1, 1) := by decide +kernel
theorem dX3_fine_6 : decode cX3_fine 6 = .ok (.ireturn, 1) := by decide +kernel
theorem dX3_rowsThere_0 : decode cX3_rowsThere 0 = .ok (.iconst 0, 1) := by decide +kernel
theorem dX3_rowsThere_1 : decode cX3_rowsThere 1 = .ok (.istore_n 1, 1) := by decide +kernel
theorem dX3_rowsThere_2 : decode cX3_rowsThere 2 = .ok (.iconst 0, 1) := by decide +kernel
theorem dX3_rowsThere_3 : decode cX3_rowsThere 3 = .ok (.istore_n 2, 1) := by decide +kernel
theorem dX3_rowsThere_4 : decode cX3_rowsThere 4 = .ok (.iload_n 2, 1) := by decide +kernel
theorem dX3_rowsThere_5 : decode cX3_rowsThere 5 = .ok (.bipush 8, 2) := by decide +kernel
theorem dX3_rowsThere_7 : decode cX3_rowsThere 7 = .ok (.if_icmp .ge 29, 3) := by decide +kernel
theorem dX3_rowsThere_10 : decode cX3_rowsThere 10 = .ok (.iload_n 1, 1) := by decide +kernel
theorem dX3_rowsThere_11 : decode cX3_rowsThere 11 = .ok (.aload_n 0, 1) := by decide +kernel
theorem dX3_rowsThere_12 : decode cX3_rowsThere 12 = .ok (.getfield 11, 3) := by decide +kernel
theorem dX3_rowsThere_15 : decode cX3_rowsThere 15 = .ok (.iload_n 2, 1) := by decide +kernel
theorem dX3_rowsThere_16 : decode cX3_rowsThere 16 = .ok (.aaload, 1) := by decide +kernel
theorem dX3_rowsThere_17 : decode cX3_rowsThere 17 = .ok (.getfield 96, 3) := by decide +kernel
theorem dX3_rowsThere_20 : decode cX3_rowsThere 20 = .ok (.ifCond .eq 7, 3) := by decide +kernel
theorem dX3_rowsThere_23 : decode cX3_rowsThere 23 = .ok (.iconst 1, 1) := by decide +kernel
theorem dX3_rowsThere_24 : decode cX3_rowsThere 24 = .ok (.goto 4, 3) := by decide +kernel
theorem dX3_rowsThere_27 : decode cX3_rowsThere 27 = .ok (.iconst 0, 1) := by decide +kernel
theorem dX3_rowsThere_28 : decode cX3_rowsThere 28 = .ok (.iadd, 1) := by decide +kernel
theorem dX3_rowsThere_29 : decode cX3_rowsThere 29 = .ok (.istore_n 1, 1) := by decide +kernel
theorem dX3_rowsThere_30 : decode cX3_rowsThere 30 = .ok (.iinc 2 1, 3) := by decide +kernel
theorem dX3_rowsThere_33 : decode cX3_rowsThere 33 = .ok (.goto (-29), 3) := by decide +kernel
theorem dX3_rowsThere_36 : decode cX3_rowsThere 36 = .ok (.iload_n 1, 1) := by decide +kernel
theorem dX3_rowsThere_37 : decode cX3_rowsThere 37 = .ok (.ireturn, 1) := by decide +kernel
theorem dX3_keepAct_0 : decode cX3_keepAct 0 = .ok (.aload_n 0, 1) := by decide +kernel
theorem dX3_keepAct_1 : decode cX3_keepAct 1 = .ok (.getfield 25, 3) := by decide +kernel
theorem dX3_keepAct_4 : decode cX3_keepAct 4 = .ok (.aload_n 0, 1) := by decide +kernel
theorem dX3_keepAct_5 : decode cX3_keepAct 5 = .ok (.getfield 38, 3) := by decide +kernel
theorem dX3_keepAct_8 : decode cX3_keepAct 8 = .ok (.aload_n 0, 1) := by decide +kernel
theorem dX3_keepAct_9 : decode cX3_keepAct 9 = .ok (.getfield 45, 3) := by decide +kernel
theorem dX3_keepAct_12 : decode cX3_keepAct 12 = .ok (.aaload, 1) := by decide +kernel
theorem dX3_keepAct_13 : decode cX3_keepAct 13 = .ok (.invokevirtual 264, 3) := by decide +kernel
theorem dX3_keepAct_16 : decode cX3_keepAct 16 = .ok (.aload_n 0, 1) := by decide +kernel
theorem dX3_keepAct_17 : decode cX3_keepAct 17 = .ok (.aload_n 0, 1) := by decide +kernel
theorem dX3_keepAct_18 : decode cX3_keepAct 18 = .ok (.getfield 45, 3) := by decide +kernel
theorem dX3_keepAct_21 : decode cX3_keepAct 21 = .ok (.bipush 23, 2) := by decide +kernel
theorem dX3_keepAct_23 : decode cX3_keepAct 23 = .ok (.if_icmp .ne 7, 3) := by decide +kernel
theorem dX3_keepAct_26 : decode cX3_keepAct 26 = .ok (.iconst 0, 1) := by decide +kernel
theorem dX3_keepAct_27 : decode cX3_keepAct 27 = .ok (.goto 9, 3) := by decide +kernel
theorem dX3_keepAct_30 : decode cX3_keepAct 30 = .ok (.aload_n 0, 1) := by decide +kernel
theorem dX3_keepAct_31 : decode cX3_keepAct 31 = .ok (.getfield 45, 3) := by decide +kernel
theorem dX3_keepAct_34 : decode cX3_keepAct 34 = .ok (.iconst 1, 1) := by decide +kernel
theorem dX3_keepAct_35 : decode cX3_keepAct 35 = .ok (.iadd, 1) := by decide +kernel
theorem dX3_keepAct_36 : decode cX3_keepAct 36 = .ok (.putfield 45, 3) := by decide +kernel
theorem dX3_keepAct_39 : decode cX3_keepAct 39 = .ok (.aload_n 0, 1) := by decide +kernel
theorem dX3_keepAct_40 : decode cX3_keepAct 40 = .ok (.aload_n 0, 1) := by decide +kernel
theorem dX3_keepAct_41 : decode cX3_keepAct 41 = .ok (.getfield 41, 3) := by decide +kernel
theorem dX3_keepAct_44 : decode cX3_keepAct 44 = .ok (.iconst 1, 1) := by decide +kernel
theorem dX3_keepAct_45 : decode cX3_keepAct 45 = .ok (.iadd, 1) := by decide +kernel
theorem dX3_keepAct_46 : decode cX3_keepAct 46 = .ok (.bipush 24, 2) := by decide +kernel
theorem dX3_keepAct_48 : decode cX3_keepAct 48 = .ok (.invokestatic 267, 3) := by decide +kernel
theorem dX3_keepAct_51 : decode cX3_keepAct 51 = .ok (.putfield 41, 3) := by decide +kernel
theorem dX3_keepAct_54 : decode cX3_keepAct 54 = .ok (.return_, 1) := by decide +kernel
theorem dX3_takeTune_0 : decode cX3_takeTune 0 = .ok (.aload_n 1, 1) := by decide +kernel
theorem dX3_takeTune_1 : decode cX3_takeTune 1 = .ok (.getfield 96, 3) := by decide +kernel
theorem dX3_takeTune_4 : decode cX3_takeTune 4 = .ok (.ifCond .ne 9, 3) := by decide +kernel
theorem dX3_takeTune_7 : decode cX3_takeTune 7 = .ok (.aload_n 0, 1) := by decide +kernel
theorem dX3_takeTune_8 : decode cX3_takeTune 8 = .ok (.iconst 1, 1) := by decide +kernel
theorem dX3_takeTune_9 : decode cX3_takeTune 9 = .ok (.invokevirtual 85, 3) := by decide +kernel
theorem dX3_takeTune_12 : decode cX3_takeTune 12 = .ok (.ireturn, 1) := by decide +kernel
theorem dX3_takeTune_13 : decode cX3_takeTune 13 = .ok (.aload_n 1, 1) := by decide +kernel
theorem dX3_takeTune_14 : decode cX3_takeTune 14 = .ok (.iload_n 2, 1) := by decide +kernel
theorem dX3_takeTune_15 : decode cX3_takeTune 15 = .ok (.iload_n 3, 1) := by decide +kernel
theorem dX3_takeTune_16 : decode cX3_takeTune 16 = .ok (.invokevirtual 100, 3) := by decide +kernel
theorem dX3_takeTune_19 : decode cX3_takeTune 19 = .ok (.ifCond .ne 9, 3) := by decide +kernel
theorem dX3_takeTune_22 : decode cX3_takeTune 22 = .ok (.aload_n 0, 1) := by decide +kernel
theorem dX3_takeTune_23 : decode cX3_takeTune 23 = .ok (.iconst 2, 1) := by decide +kernel
theorem dX3_takeTune_24 : decode cX3_takeTune 24 = .ok (.invokevirtual 85, 3) := by decide +kernel
theorem dX3_takeTune_27 : decode cX3_takeTune 27 = .ok (.ireturn, 1) := by decide +kernel
theorem dX3_takeTune_28 : decode cX3_takeTune 28 = .ok (.iconst 0, 1) := by decide +kernel
theorem dX3_takeTune_29 : decode cX3_takeTune 29 = .ok (.istore 4, 2) := by decide +kernel
theorem dX3_takeTune_31 : decode cX3_takeTune 31 = .ok (.iload 4, 2) := by decide +kernel
theorem dX3_takeTune_33 : decode cX3_takeTune 33 = .ok (.iload_n 3, 1) := by decide +kernel
theorem dX3_takeTune_34 : decode cX3_takeTune 34 = .ok (.if_icmp .ge 45, 3) := by decide +kernel
theorem dX3_takeTune_37 : decode cX3_takeTune 37 = .ok (.aload_n 1, 1) := by decide +kernel
theorem dX3_takeTune_38 : decode cX3_takeTune 38 = .ok (.getfield 103, 3) := by decide +kernel
theorem dX3_takeTune_41 : decode cX3_takeTune 41 = .ok (.iload_n 2, 1) := by decide +kernel
theorem dX3_takeTune_42 : decode cX3_takeTune 42 = .ok (.iload 4, 2) := by decide +kernel
theorem dX3_takeTune_44 : decode cX3_takeTune 44 = .ok (.iadd, 1) := by decide +kernel
theorem dX3_takeTune_45 : decode cX3_takeTune 45 = .ok (.iaload, 1) := by decide +kernel
theorem dX3_takeTune_46 : decode cX3_takeTune 46 = .ok (.bipush 8, 2) := by decide +kernel
theorem dX3_takeTune_48 : decode cX3_takeTune 48 = .ok (.invokestatic 80, 3) := by decide +kernel
theorem dX3_takeTune_51 : decode cX3_takeTune 51 = .ok (.ifCond .eq 6, 3) := by decide +kernel
theorem dX3_takeTune_54 : decode cX3_takeTune 54 = .ok (.ldc 84, 2) := by decide +kernel
theorem dX3_takeTune_56 : decode cX3_takeTune 56 = .ok (.ireturn, 1) := by decide +kernel
theorem dX3_takeTune_57 : decode cX3_takeTune 57 = .ok (.aload_n 0, 1) := by decide +kernel
theorem dX3_takeTune_58 : decode cX3_takeTune 58 = .ok (.getfield 52, 3) := by decide +kernel
theorem dX3_takeTune_61 : decode cX3_takeTune 61 = .ok (.iload 4, 2) := by decide +kernel
theorem dX3_takeTune_63 : decode cX3_takeTune 63 = .ok (.aload_n 1, 1) := by decide +kernel
theorem dX3_takeTune_64 : decode cX3_takeTune 64 = .ok (.getfield 103, 3) := by decide +kernel
theorem dX3_takeTune_67 : decode cX3_takeTune 67 = .ok (.iload_n 2, 1) := by decide +kernel
theorem dX3_takeTune_68 : decode cX3_takeTune 68 = .ok (.iload 4, 2) := by decide +kernel
theorem dX3_takeTune_70 : decode cX3_takeTune 70 = .ok (.iadd, 1) := by decide +kernel
theorem dX3_takeTune_71 : decode cX3_takeTune 71 = .ok (.iaload, 1) := by decide +kernel
theorem dX3_takeTune_72 : decode cX3_takeTune 72 = .ok (.iastore, 1) := by decide +kernel
theorem dX3_takeTune_73 : decode cX3_takeTune 73 = .ok (.iinc 4 1, 3) := by decide +kernel
theorem dX3_takeTune_76 : decode cX3_takeTune 76 = .ok (.goto (-45), 3) := by decide +kernel
theorem dX3_takeTune_79 : decode cX3_takeTune 79 = .ok (.iconst 0, 1) := by decide +kernel
theorem dX3_takeTune_80 : decode cX3_takeTune 80 = .ok (.ireturn, 1) := by decide +kernel
theorem dX3_trySolo_0 : decode cX3_trySolo 0 = .ok (.iconst 0, 1) := by decide +kernel
theorem dX3_trySolo_1 : decode cX3_trySolo 1 = .ok (.istore 4, 2) := by decide +kernel
theorem dX3_trySolo_3 : decode cX3_trySolo 3 = .ok (.iload 4, 2) := by decide +kernel
theorem dX3_trySolo_5 : decode cX3_trySolo 5 = .ok (.iload_n 2, 1) := by decide +kernel
theorem dX3_trySolo_6 : decode cX3_trySolo 6 = .ok (.if_icmp .ge 51, 3) := by decide +kernel
theorem dX3_trySolo_9 : decode cX3_trySolo 9 = .ok (.aload_n 0, 1) := by decide +kernel
theorem dX3_trySolo_10 : decode cX3_trySolo 10 = .ok (.getfield 48, 3) := by decide +kernel
theorem dX3_trySolo_13 : decode cX3_trySolo 13 = .ok (.bipush 7, 2) := by decide +kernel
theorem dX3_trySolo_15 : decode cX3_trySolo 15 = .ok (.invokestatic 272, 3) := by decide +kernel
theorem dX3_trySolo_18 : decode cX3_trySolo 18 = .ok (.iload_n 3, 1) := by decide +kernel
theorem dX3_trySolo_19 : decode cX3_trySolo 19 = .ok (.iload 4, 2) := by decide +kernel
theorem dX3_trySolo_21 : decode cX3_trySolo 21 = .ok (.ishr, 1) := by decide +kernel
theorem dX3_trySolo_22 : decode cX3_trySolo 22 = .ok (.iconst 1, 1) := by decide +kernel
theorem dX3_trySolo_23 : decode cX3_trySolo 23 = .ok (.iand, 1) := by decide +kernel
theorem dX3_trySolo_24 : decode cX3_trySolo 24 = .ok (.ifCond .ne 16, 3) := by decide +kernel
theorem dX3_trySolo_27 : decode cX3_trySolo 27 = .ok (.aload_n 0, 1) := by decide +kernel
theorem dX3_trySolo_28 : decode cX3_trySolo 28 = .ok (.getfield 48, 3) := by decide +kernel
theorem dX3_trySolo_31 : decode cX3_trySolo 31 = .ok (.iload_n 1, 1) := by decide +kernel
theorem dX3_trySolo_32 : decode cX3_trySolo 32 = .ok (.aload_n 0, 1) := by decide +kernel
theorem dX3_trySolo_33 : decode cX3_trySolo 33 = .ok (.getfield 52, 3) := by decide +kernel
theorem dX3_trySolo_36 : decode cX3_trySolo 36 = .ok (.iload 4, 2) := by decide +kernel
theorem dX3_trySolo_38 : decode cX3_trySolo 38 = .ok (.iaload, 1) := by decide +kernel
theorem dX3_trySolo_39 : decode cX3_trySolo 39 = .ok (.iastore, 1) := by decide +kernel
theorem dX3_trySolo_40 : decode cX3_trySolo 40 = .ok (.aload_n 0, 1) := by decide +kernel
theorem dX3_trySolo_41 : decode cX3_trySolo 41 = .ok (.getfield 29, 3) := by decide +kernel
theorem dX3_trySolo_44 : decode cX3_trySolo 44 = .ok (.aload_n 0, 1) := by decide +kernel
theorem dX3_trySolo_45 : decode cX3_trySolo 45 = .ok (.getfield 48, 3) := by decide +kernel
theorem dX3_trySolo_48 : decode cX3_trySolo 48 = .ok (.invokevirtual 278, 3) := by decide +kernel
theorem dX3_trySolo_51 : decode cX3_trySolo 51 = .ok (.iinc 4 1, 3) := by decide +kernel
theorem dX3_trySolo_54 : decode cX3_trySolo 54 = .ok (.goto (-51), 3) := by decide +kernel
theorem dX3_trySolo_57 : decode cX3_trySolo 57 = .ok (.return_, 1) := by decide +kernel
theorem dX3_tryRound_0 : decode cX3_tryRound 0 = .ok (.aload_n 0, 1) := by decide +kernel
theorem dX3_tryRound_1 : decode cX3_tryRound 1 = .ok (.getfield 29, 3) := by decide +kernel
theorem dX3_tryRound_4 : decode cX3_tryRound 4 = .ok (.getfield 147, 3) := by decide +kernel
theorem dX3_tryRound_7 : decode cX3_tryRound 7 = .ok (.ifCond .ne 7, 3) := by decide +kernel
theorem dX3_tryRound_10 : decode cX3_tryRound 10 = .ok (.iconst 0, 1) := by decide +kernel
theorem dX3_tryRound_11 : decode cX3_tryRound 11 = .ok (.goto 14, 3) := by decide +kernel
theorem dX3_tryRound_14 : decode cX3_tryRound 14 = .ok (.aload_n 0, 1) := by decide +kernel
theorem dX3_tryRound_15 : decode cX3_tryRound 15 = .ok (.getfield 29, 3) := by decide +kernel
theorem dX3_tryRound_18 : decode cX3_tryRound 18 = .ok (.getfield 147, 3) := by decide +kernel
theorem dX3_tryRound_21 : decode cX3_tryRound 21 = .ok (.iconst 1, 1) := by decide +kernel
theorem dX3_tryRound_22 : decode cX3_tryRound 22 = .ok (.isub, 1) := by decide +kernel
theorem dX3_tryRound_23 : decode cX3_tryRound 23 = .ok (.iload_n 1, 1) := by decide +kernel
theorem dX3_tryRound_24 : decode cX3_tryRound 24 = .ok (.imul, 1) := by decide +kernel
theorem dX3_tryRound_25 : decode cX3_tryRound 25 = .ok (.istore_n 3, 1) := by decide +kernel
theorem dX3_tryRound_26 : decode cX3_tryRound 26 = .ok (.iconst 0, 1) := by decide +kernel
theorem dX3_tryRound_27 : decode cX3_tryRound 27 = .ok (.istore 4, 2) := by decide +kernel
theorem dX3_tryRound_29 : decode cX3_tryRound 29 = .ok (.iload 4, 2) := by decide +kernel
theorem dX3_tryRound_31 : decode cX3_tryRound 31 = .ok (.iload_n 3, 1) := by decide +kernel
theorem dX3_tryRound_32 : decode cX3_tryRound 32 = .ok (.iload_n 2, 1) := by decide +kernel
theorem dX3_tryRound_33 : decode cX3_tryRound 33 = .ok (.iadd, 1) := by decide +kernel
theorem dX3_tryRound_34 : decode cX3_tryRound 34 = .ok (.if_icmp .ge 84, 3) := by decide +kernel
theorem dX3_tryRound_37 : decode cX3_tryRound 37 = .ok (.aload_n 0, 1) := by decide +kernel
theorem dX3_tryRound_38 : decode cX3_tryRound 38 = .ok (.getfield 48, 3) := by decide +kernel
theorem dX3_tryRound_41 : decode cX3_tryRound 41 = .ok (.bipush 7, 2) := by decide +kernel
theorem dX3_tryRound_43 : decode cX3_tryRound 43 = .ok (.invokestatic 272, 3) := by decide +kernel
theorem dX3_tryRound_46 : decode cX3_tryRound 46 = .ok (.iconst 0, 1) := by decide +kernel
theorem dX3_tryRound_47 : decode cX3_tryRound 47 = .ok (.istore 5, 2) := by decide +kernel
theorem dX3_tryRound_49 : decode cX3_tryRound 49 = .ok (.iload 5, 2) := by decide +kernel
theorem dX3_tryRound_51 : decode cX3_tryRound 51 = .ok (.aload_n 0, 1) := by decide +kernel
theorem dX3_tryRound_52 : decode cX3_tryRound 52 = .ok (.getfield 29, 3) := by decide +kernel
theorem dX3_tryRound_55 : decode cX3_tryRound 55 = .ok (.getfield 147, 3) := by decide +kernel
theorem dX3_tryRound_58 : decode cX3_tryRound 58 = .ok (.if_icmp .ge 43, 3) := by decide +kernel
theorem dX3_tryRound_61 : decode cX3_tryRound 61 = .ok (.iload 4, 2) := by decide +kernel
theorem dX3_tryRound_63 : decode cX3_tryRound 63 = .ok (.iload 5, 2) := by decide +kernel
theorem dX3_tryRound_65 : decode cX3_tryRound 65 = .ok (.iload_n 1, 1) := by decide +kernel
theorem dX3_tryRound_66 : decode cX3_tryRound 66 = .ok (.imul, 1) := by decide +kernel
theorem dX3_tryRound_67 : decode cX3_tryRound 67 = .ok (.isub, 1) := by decide +kernel
theorem dX3_tryRound_68 : decode cX3_tryRound 68 = .ok (.istore 6, 2) := by decide +kernel
theorem dX3_tryRound_70 : decode cX3_tryRound 70 = .ok (.iload 6, 2) := by decide +kernel
theorem dX3_tryRound_72 : decode cX3_tryRound 72 = .ok (.ifCond .lt 23, 3) := by decide +kernel
theorem dX3_tryRound_75 : decode cX3_tryRound 75 = .ok (.iload 6, 2) := by decide +kernel
theorem dX3_tryRound_77 : decode cX3_tryRound 77 = .ok (.iload_n 2, 1) := by decide +kernel
theorem dX3_tryRound_78 : decode cX3_tryRound 78 = .ok (.if_icmp .ge 17, 3) := by decide +kernel
theorem dX3_tryRound_81 : decode cX3_tryRound 81 = .ok (.aload_n 0, 1) := by decide +kernel
theorem dX3_tryRound_82 : decode cX3_tryRound 82 = .ok (.getfield 48, 3) := by decide +kernel
theorem dX3_tryRound_85 : decode cX3_tryRound 85 = .ok (.iload 5, 2) := by decide +kernel
theorem dX3_tryRound_87 : decode cX3_tryRound 87 = .ok (.aload_n 0, 1) := by decide +kernel
theorem dX3_tryRound_88 : decode cX3_tryRound 88 = .ok (.getfield 52, 3) := by decide +kernel
theorem dX3_tryRound_91 : decode cX3_tryRound 91 = .ok (.iload 6, 2) := by decide +kernel
theorem dX3_tryRound_93 : decode cX3_tryRound 93 = .ok (.iaload, 1) := by decide +kernel
theorem dX3_tryRound_94 : decode cX3_tryRound 94 = .ok (.iastore, 1) := by decide +kernel
theorem dX3_tryRound_95 : decode cX3_tryRound 95 = .ok (.iinc 5 1, 3) := by decide +kernel
theorem dX3_tryRound_98 : decode cX3_tryRound 98 = .ok (.goto (-49), 3) := by decide +kernel
theorem dX3_tryRound_101 : decode cX3_tryRound 101 = .ok (.aload_n 0, 1) := by decide +kernel
theorem dX3_tryRound_102 : decode cX3_tryRound 102 = .ok (.getfield 29, 3) := by decide +kernel
theorem dX3_tryRound_105 : decode cX3_tryRound 105 = .ok (.aload_n 0, 1) := by decide +kernel
theorem dX3_tryRound_106 : decode cX3_tryRound 106 = .ok (.getfield 48, 3) := by decide +kernel
theorem dX3_tryRound_109 : decode cX3_tryRound 109 = .ok (.invokevirtual 278, 3) := by decide +kernel
theorem dX3_tryRound_112 : decode cX3_tryRound 112 = .ok (.iinc 4 1, 3) := by decide +kernel
theorem dX3_tryRound_115 : decode cX3_tryRound 115 = .ok (.goto (-86), 3) := by decide +kernel
theorem dX3_tryRound_118 : decode cX3_tryRound 118 = .ok (.return_, 1) := by decide +kernel
theorem dX3_setsWithout_0 : decode cX3_setsWithout 0 = .ok (.aload_n 0, 1) := by decide +kernel
theorem dX3_setsWithout_1 : decode cX3_setsWithout 1 = .ok (.getfield 29, 3) := by decide +kernel
theorem dX3_setsWithout_4 : decode cX3_setsWithout 4 = .ok (.aload_n 0, 1) := by decide +kernel
theorem dX3_setsWithout_5 : decode cX3_setsWithout 5 = .ok (.getfield 25, 3) := by decide +kernel
theorem dX3_setsWithout_8 : decode cX3_setsWithout 8 = .ok (.invokevirtual 137, 3) := by decide +kernel
theorem dX3_setsWithout_11 : decode cX3_setsWithout 11 = .ok (.aload_n 0, 1) := by decide +kernel
theorem dX3_setsWithout_12 : decode cX3_setsWithout 12 = .ok (.getfield 29, 3) := by decide +kernel
theorem dX3_setsWithout_15 : decode cX3_setsWithout 15 = .ok (.getfield 164, 3) := by decide +kernel
theorem dX3_setsWithout_18 : decode cX3_setsWithout 18 = .ok (.iload_n 1, 1) := by decide +kernel
theorem dX3_setsWithout_19 : decode cX3_setsWithout 19 = .ok (.dup2, 1) := by decide +kernel
theorem dX3_setsWithout_20 : decode cX3_setsWithout 20 = .ok (.iaload, 1) := by decide +kernel
theorem dX3_setsWithout_21 : decode cX3_setsWithout 21 = .ok (.iload_n 2, 1) := by decide +kernel
theorem dX3_setsWithout_22 : decode cX3_setsWithout 22 = .ok (.iconst (-1), 1) := by decide +kernel
theorem dX3_setsWithout_23 : decode cX3_setsWithout 23 = .ok (.ixor, 1) := by decide +kernel
theorem dX3_setsWithout_24 : decode cX3_setsWithout 24 = .ok (.iand, 1) := by decide +kernel
theorem dX3_setsWithout_25 : decode cX3_setsWithout 25 = .ok (.iastore, 1) := by decide +kernel
theorem dX3_setsWithout_26 : decode cX3_setsWithout 26 = .ok (.aload_n 0, 1) := by decide +kernel
theorem dX3_setsWithout_27 : decode cX3_setsWithout 27 = .ok (.iload_n 3, 1) := by decide +kernel
theorem dX3_setsWithout_28 : decode cX3_setsWithout 28 = .ok (.iload 4, 2) := by decide +kernel
theorem dX3_setsWithout_30 : decode cX3_setsWithout 30 = .ok (.invokevirtual 206, 3) := by decide +kernel
theorem dX3_setsWithout_33 : decode cX3_setsWithout 33 = .ok (.aload_n 0, 1) := by decide +kernel
theorem dX3_setsWithout_34 : decode cX3_setsWithout 34 = .ok (.getfield 29, 3) := by decide +kernel
theorem dX3_setsWithout_37 : decode cX3_setsWithout 37 = .ok (.iload_n 1, 1) := by decide +kernel
theorem dX3_setsWithout_38 : decode cX3_setsWithout 38 = .ok (.invokevirtual 179, 3) := by decide +kernel
theorem dX3_setsWithout_41 : decode cX3_setsWithout 41 = .ok (.ireturn, 1) := by decide +kernel
theorem dX3_seekSong_0 : decode cX3_seekSong 0 = .ok (.aload_n 0, 1) := by decide +kernel
theorem dX3_seekSong_1 : decode cX3_seekSong 1 = .ok (.iconst (-1), 1) := by decide +kernel
theorem dX3_seekSong_2 : decode cX3_seekSong 2 = .ok (.putfield 61, 3) := by decide +kernel
theorem dX3_seekSong_5 : decode cX3_seekSong 5 = .ok (.aload_n 0, 1) := by decide +kernel
theorem dX3_seekSong_6 : decode cX3_seekSong 6 = .ok (.getfield 29, 3) := by decide +kernel
theorem dX3_seekSong_9 : decode cX3_seekSong 9 = .ok (.aload_n 0, 1) := by decide +kernel
theorem dX3_seekSong_10 : decode cX3_seekSong 10 = .ok (.getfield 25, 3) := by decide +kernel
theorem dX3_seekSong_13 : decode cX3_seekSong 13 = .ok (.invokevirtual 137, 3) := by decide +kernel
theorem dX3_seekSong_16 : decode cX3_seekSong 16 = .ok (.aload_n 0, 1) := by decide +kernel
theorem dX3_seekSong_17 : decode cX3_seekSong 17 = .ok (.getfield 29, 3) := by decide +kernel
theorem dX3_seekSong_20 : decode cX3_seekSong 20 = .ok (.aload_n 0, 1) := by decide +kernel
theorem dX3_seekSong_21 : decode cX3_seekSong 21 = .ok (.getfield 55, 3) := by decide +kernel
theorem dX3_seekSong_24 : decode cX3_seekSong 24 = .ok (.iconst 0, 1) := by decide +kernel
theorem dX3_seekSong_25 : decode cX3_seekSong 25 = .ok (.aaload, 1) := by decide +kernel
theorem dX3_seekSong_26 : decode cX3_seekSong 26 = .ok (.invokevirtual 264, 3) := by decide +kernel
theorem dX3_seekSong_29 : decode cX3_seekSong 29 = .ok (.iconst 0, 1) := by decide +kernel
theorem dX3_seekSong_30 : decode cX3_seekSong 30 = .ok (.istore_n 3, 1) := by decide +kernel
theorem dX3_seekSong_31 : decode cX3_seekSong 31 = .ok (.iload_n 3, 1) := by decide +kernel
theorem dX3_seekSong_32 : decode cX3_seekSong 32 = .ok (.iconst 1, 1) := by decide +kernel
theorem dX3_seekSong_33 : decode cX3_seekSong 33 = .ok (.iconst 3, 1) := by decide +kernel
theorem dX3_seekSong_34 : decode cX3_seekSong 34 = .ok (.iload_n 2, 1) := by decide +kernel
theorem dX3_seekSong_35 : decode cX3_seekSong 35 = .ok (.imul, 1) := by decide +kernel
theorem dX3_seekSong_36 : decode cX3_seekSong 36 = .ok (.ishl, 1) := by decide +kernel
theorem dX3_seekSong_37 : decode cX3_seekSong 37 = .ok (.if_icmp .ge 53, 3) := by decide +kernel
theorem dX3_seekSong_40 : decode cX3_seekSong 40 = .ok (.aload_n 0, 1) := by decide +kernel
theorem dX3_seekSong_41 : decode cX3_seekSong 41 = .ok (.iload_n 1, 1) := by decide +kernel
theorem dX3_seekSong_42 : decode cX3_seekSong 42 = .ok (.iload_n 2, 1) := by decide +kernel
theorem dX3_seekSong_43 : decode cX3_seekSong 43 = .ok (.iload_n 3, 1) := by decide +kernel
theorem dX3_seekSong_44 : decode cX3_seekSong 44 = .ok (.invokevirtual 281, 3) := by decide +kernel
theorem dX3_seekSong_47 : decode cX3_seekSong 47 = .ok (.istore 4, 2) := by decide +kernel
theorem dX3_seekSong_49 : decode cX3_seekSong 49 = .ok (.iload 4, 2) := by decide +kernel
theorem dX3_seekSong_51 : decode cX3_seekSong 51 = .ok (.iload_n 2, 1) := by decide +kernel
theorem dX3_seekSong_52 : decode cX3_seekSong 52 = .ok (.if_icmp .lt 15, 3) := by decide +kernel
theorem dX3_seekSong_55 : decode cX3_seekSong 55 = .ok (.aload_n 0, 1) := by decide +kernel
theorem dX3_seekSong_56 : decode cX3_seekSong 56 = .ok (.iload_n 3, 1) := by decide +kernel
theorem dX3_seekSong_57 : decode cX3_seekSong 57 = .ok (.iload_n 2, 1) := by decide +kernel
theorem dX3_seekSong_58 : decode cX3_seekSong 58 = .ok (.invokevirtual 284, 3) := by decide +kernel
theorem dX3_seekSong_61 : decode cX3_seekSong 61 = .ok (.iinc 3 1, 3) := by decide +kernel
theorem dX3_seekSong_64 : decode cX3_seekSong 64 = .ok (.goto 23, 3) := by decide +kernel
theorem dX3_seekSong_67 : decode cX3_seekSong 67 = .ok (.iconst 3, 1) := by decide +kernel
theorem dX3_seekSong_68 : decode cX3_seekSong 68 = .ok (.iload_n 2, 1) := by decide +kernel
theorem dX3_seekSong_69 : decode cX3_seekSong 69 = .ok (.iconst 1, 1) := by decide +kernel
theorem dX3_seekSong_70 : decode cX3_seekSong 70 = .ok (.isub, 1) := by decide +kernel
theorem dX3_seekSong_71 : decode cX3_seekSong 71 = .ok (.iload 4, 2) := by decide +kernel
theorem dX3_seekSong_73 : decode cX3_seekSong 73 = .ok (.isub, 1) := by decide +kernel
theorem dX3_seekSong_74 : decode cX3_seekSong 74 = .ok (.imul, 1) := by decide +kernel
theorem dX3_seekSong_75 : decode cX3_seekSong 75 = .ok (.istore 5, 2) := by decide +kernel
theorem dX3_seekSong_77 : decode cX3_seekSong 77 = .ok (.iload_n 3, 1) := by decide +kernel
theorem dX3_seekSong_78 : decode cX3_seekSong 78 = .ok (.iload 5, 2) := by decide +kernel
theorem dX3_seekSong_80 : decode cX3_seekSong 80 = .ok (.ishr, 1) := by decide +kernel
theorem dX3_seekSong_81 : decode cX3_seekSong 81 = .ok (.iconst 1, 1) := by decide +kernel
theorem dX3_seekSong_82 : decode cX3_seekSong 82 = .ok (.iadd, 1) := by decide +kernel
theorem dX3_seekSong_83 : decode cX3_seekSong 83 = .ok (.iload 5, 2) := by decide +kernel
theorem dX3_seekSong_85 : decode cX3_seekSong 85 = .ok (.ishl, 1) := by decide +kernel
theorem dX3_seekSong_86 : decode cX3_seekSong 86 = .ok (.istore_n 3, 1) := by decide +kernel
theorem dX3_seekSong_87 : decode cX3_seekSong 87 = .ok (.goto (-56), 3) := by decide +kernel
theorem dX3_seekSong_90 : decode cX3_seekSong 90 = .ok (.return_, 1) := by decide +kernel
theorem dX3_trySong_0 : decode cX3_trySong 0 = .ok (.iload_n 3, 1) := by decide +kernel
theorem dX3_trySong_1 : decode cX3_trySong 1 = .ok (.ifCond .ne 7, 3) := by decide +kernel
theorem dX3_trySong_4 : decode cX3_trySong 4 = .ok (.iconst 0, 1) := by decide +kernel
theorem dX3_trySong_5 : decode cX3_trySong 5 = .ok (.goto 13, 3) := by decide +kernel
theorem dX3_trySong_8 : decode cX3_trySong 8 = .ok (.iload_n 2, 1) := by decide +kernel
theorem dX3_trySong_9 : decode cX3_trySong 9 = .ok (.iconst 1, 1) := by decide +kernel
theorem dX3_trySong_10 : decode cX3_trySong 10 = .ok (.isub, 1) := by decide +kernel
theorem dX3_trySong_11 : decode cX3_trySong 11 = .ok (.iload_n 3, 1) := by decide +kernel
theorem dX3_trySong_12 : decode cX3_trySong 12 = .ok (.invokestatic 287, 3) := by decide +kernel
theorem dX3_trySong_15 : decode cX3_trySong 15 = .ok (.iconst 3, 1) := by decide +kernel
theorem dX3_trySong_16 : decode cX3_trySong 16 = .ok (.idiv, 1) := by decide +kernel
theorem dX3_trySong_17 : decode cX3_trySong 17 = .ok (.isub, 1) := by decide +kernel
theorem dX3_trySong_18 : decode cX3_trySong 18 = .ok (.istore 4, 2) := by decide +kernel
theorem dX3_trySong_20 : decode cX3_trySong 20 = .ok (.aload_n 0, 1) := by decide +kernel
theorem dX3_trySong_21 : decode cX3_trySong 21 = .ok (.getfield 29, 3) := by decide +kernel
theorem dX3_trySong_24 : decode cX3_trySong 24 = .ok (.aload_n 0, 1) := by decide +kernel
theorem dX3_trySong_25 : decode cX3_trySong 25 = .ok (.getfield 55, 3) := by decide +kernel
theorem dX3_trySong_28 : decode cX3_trySong 28 = .ok (.iload 4, 2) := by decide +kernel
theorem dX3_trySong_30 : decode cX3_trySong 30 = .ok (.aaload, 1) := by decide +kernel
theorem dX3_trySong_31 : decode cX3_trySong 31 = .ok (.invokevirtual 167, 3) := by decide +kernel
theorem dX3_trySong_34 : decode cX3_trySong 34 = .ok (.iload 4, 2) := by decide +kernel
theorem dX3_trySong_36 : decode cX3_trySong 36 = .ok (.istore 5, 2) := by decide +kernel
theorem dX3_trySong_38 : decode cX3_trySong 38 = .ok (.iload 5, 2) := by decide +kernel
theorem dX3_trySong_40 : decode cX3_trySong 40 = .ok (.iload_n 2, 1) := by decide +kernel
theorem dX3_trySong_41 : decode cX3_trySong 41 = .ok (.if_icmp .ge 76, 3) := by decide +kernel
theorem dX3_trySong_44 : decode cX3_trySong 44 = .ok (.aload_n 0, 1) := by decide +kernel
theorem dX3_trySong_45 : decode cX3_trySong 45 = .ok (.getfield 29, 3) := by decide +kernel
theorem dX3_trySong_48 : decode cX3_trySong 48 = .ok (.aload_n 0, 1) := by decide +kernel
theorem dX3_trySong_49 : decode cX3_trySong 49 = .ok (.getfield 55, 3) := by decide +kernel
theorem dX3_trySong_52 : decode cX3_trySong 52 = .ok (.iload 5, 2) := by decide +kernel
theorem dX3_trySong_54 : decode cX3_trySong 54 = .ok (.aaload, 1) := by decide +kernel
theorem dX3_trySong_55 : decode cX3_trySong 55 = .ok (.invokevirtual 264, 3) := by decide +kernel
theorem dX3_trySong_58 : decode cX3_trySong 58 = .ok (.iload_n 3, 1) := by decide +kernel
theorem dX3_trySong_59 : decode cX3_trySong 59 = .ok (.iload_n 2, 1) := by decide +kernel
theorem dX3_trySong_60 : decode cX3_trySong 60 = .ok (.iload 5, 2) := by decide +kernel
theorem dX3_trySong_62 : decode cX3_trySong 62 = .ok (.invokestatic 217, 3) := by decide +kernel
theorem dX3_trySong_65 : decode cX3_trySong 65 = .ok (.istore 6, 2) := by decide +kernel
theorem dX3_trySong_67 : decode cX3_trySong 67 = .ok (.aload_n 0, 1) := by decide +kernel
theorem dX3_trySong_68 : decode cX3_trySong 68 = .ok (.getfield 29, 3) := by decide +kernel
theorem dX3_trySong_71 : decode cX3_trySong 71 = .ok (.iload_n 1, 1) := by decide +kernel
theorem dX3_trySong_72 : decode cX3_trySong 72 = .ok (.iload 6, 2) := by decide +kernel
theorem dX3_trySong_74 : decode cX3_trySong 74 = .ok (.invokevirtual 150, 3) := by decide +kernel
theorem dX3_trySong_77 : decode cX3_trySong 77 = .ok (.ifCond .ne 6, 3) := by decide +kernel
theorem dX3_trySong_80 : decode cX3_trySong 80 = .ok (.iload 5, 2) := by decide +kernel
theorem dX3_trySong_82 : decode cX3_trySong 82 = .ok (.ireturn, 1) := by decide +kernel
theorem dX3_trySong_83 : decode cX3_trySong 83 = .ok (.aload_n 0, 1) := by decide +kernel
theorem dX3_trySong_84 : decode cX3_trySong 84 = .ok (.getfield 48, 3) := by decide +kernel
theorem dX3_trySong_87 : decode cX3_trySong 87 = .ok (.bipush 7, 2) := by decide +kernel
theorem dX3_trySong_89 : decode cX3_trySong 89 = .ok (.invokestatic 272, 3) := by decide +kernel
theorem dX3_trySong_92 : decode cX3_trySong 92 = .ok (.aload_n 0, 1) := by decide +kernel
theorem dX3_trySong_93 : decode cX3_trySong 93 = .ok (.getfield 48, 3) := by decide +kernel
theorem dX3_trySong_96 : decode cX3_trySong 96 = .ok (.iload_n 1, 1) := by decide +kernel
theorem dX3_trySong_97 : decode cX3_trySong 97 = .ok (.iload 6, 2) := by decide +kernel
theorem dX3_trySong_99 : decode cX3_trySong 99 = .ok (.iastore, 1) := by decide +kernel
theorem dX3_trySong_100 : decode cX3_trySong 100 = .ok (.aload_n 0, 1) := by decide +kernel
theorem dX3_trySong_101 : decode cX3_trySong 101 = .ok (.getfield 29, 3) := by decide +kernel
theorem dX3_trySong_104 : decode cX3_trySong 104 = .ok (.aload_n 0, 1) := by decide +kernel
theorem dX3_trySong_105 : decode cX3_trySong 105 = .ok (.getfield 48, 3) := by decide +kernel
theorem dX3_trySong_108 : decode cX3_trySong 108 = .ok (.invokevirtual 156, 3) := by decide +kernel
theorem dX3_trySong_111 : decode cX3_trySong 111 = .ok (.iinc 5 1, 3) := by decide +kernel
theorem dX3_trySong_114 : decode cX3_trySong 114 = .ok (.goto (-76), 3) := by decide +kernel
theorem dX3_trySong_117 : decode cX3_trySong 117 = .ok (.iload_n 2, 1) := by decide +kernel
theorem dX3_trySong_118 : decode cX3_trySong 118 = .ok (.ireturn, 1) := by decide +kernel
theorem dX3_weighSong_0 : decode cX3_weighSong 0 = .ok (.aload_n 0, 1) := by decide +kernel
theorem dX3_weighSong_1 : decode cX3_weighSong 1 = .ok (.getfield 29, 3) := by decide +kernel
theorem dX3_weighSong_4 : decode cX3_weighSong 4 = .ok (.invokevirtual 160, 3) := by decide +kernel
theorem dX3_weighSong_7 : decode cX3_weighSong 7 = .ok (.invokestatic 209, 3) := by decide +kernel
theorem dX3_weighSong_10 : decode cX3_weighSong 10 = .ok (.istore_n 3, 1) := by decide +kernel
theorem dX3_weighSong_11 : decode cX3_weighSong 11 = .ok (.iconst 0, 1) := by decide +kernel
theorem dX3_weighSong_12 : decode cX3_weighSong 12 = .ok (.istore 4, 2) := by decide +kernel
theorem dX3_weighSong_14 : decode cX3_weighSong 14 = .ok (.iconst 0, 1) := by decide +kernel
theorem dX3_weighSong_15 : decode cX3_weighSong 15 = .ok (.istore 5, 2) := by decide +kernel
theorem dX3_weighSong_17 : decode cX3_weighSong 17 = .ok (.iload 5, 2) := by decide +kernel
theorem dX3_weighSong_19 : decode cX3_weighSong 19 = .ok (.iload_n 2, 1) := by decide +kernel
theorem dX3_weighSong_20 : decode cX3_weighSong 20 = .ok (.if_icmp .ge 31, 3) := by decide +kernel
theorem dX3_weighSong_23 : decode cX3_weighSong 23 = .ok (.iload 4, 2) := by decide +kernel
theorem dX3_weighSong_25 : decode cX3_weighSong 25 = .ok (.iload_n 1, 1) := by decide +kernel
theorem dX3_weighSong_26 : decode cX3_weighSong 26 = .ok (.iload_n 2, 1) := by decide +kernel
theorem dX3_weighSong_27 : decode cX3_weighSong 27 = .ok (.iload 5, 2) := by decide +kernel
theorem dX3_weighSong_29 : decode cX3_weighSong 29 = .ok (.invokestatic 217, 3) := by decide +kernel
theorem dX3_weighSong_32 : decode cX3_weighSong 32 = .ok (.bipush 7, 2) := by decide +kernel
theorem dX3_weighSong_34 : decode cX3_weighSong 34 = .ok (.if_icmp .ne 7, 3) := by decide +kernel
theorem dX3_weighSong_37 : decode cX3_weighSong 37 = .ok (.iconst 0, 1) := by decide +kernel
theorem dX3_weighSong_38 : decode cX3_weighSong 38 = .ok (.goto 4, 3) := by decide +kernel
theorem dX3_weighSong_41 : decode cX3_weighSong 41 = .ok (.iconst 1, 1) := by decide +kernel
theorem dX3_weighSong_42 : decode cX3_weighSong 42 = .ok (.iadd, 1) := by decide +kernel
theorem dX3_weighSong_43 : decode cX3_weighSong 43 = .ok (.istore 4, 2) := by decide +kernel
theorem dX3_weighSong_45 : decode cX3_weighSong 45 = .ok (.iinc 5 1, 3) := by decide +kernel
theorem dX3_weighSong_48 : decode cX3_weighSong 48 = .ok (.goto (-31), 3) := by decide +kernel
theorem dX3_weighSong_51 : decode cX3_weighSong 51 = .ok (.iload_n 3, 1) := by decide +kernel
theorem dX3_weighSong_52 : decode cX3_weighSong 52 = .ok (.aload_n 0, 1) := by decide +kernel
theorem dX3_weighSong_53 : decode cX3_weighSong 53 = .ok (.getfield 61, 3) := by decide +kernel
theorem dX3_weighSong_56 : decode cX3_weighSong 56 = .ok (.if_icmp .gt 20, 3) := by decide +kernel
theorem dX3_weighSong_59 : decode cX3_weighSong 59 = .ok (.iload_n 3, 1) := by decide +kernel
theorem dX3_weighSong_60 : decode cX3_weighSong 60 = .ok (.aload_n 0, 1) := by decide +kernel
theorem dX3_weighSong_61 : decode cX3_weighSong 61 = .ok (.getfield 61, 3) := by decide +kernel
theorem dX3_weighSong_64 : decode cX3_weighSong 64 = .ok (.if_icmp .ne 28, 3) := by decide +kernel
theorem dX3_weighSong_67 : decode cX3_weighSong 67 = .ok (.iload 4, 2) := by decide +kernel
theorem dX3_weighSong_69 : decode cX3_weighSong 69 = .ok (.aload_n 0, 1) := by decide +kernel
theorem dX3_weighSong_70 : decode cX3_weighSong 70 = .ok (.getfield 64, 3) := by decide +kernel
theorem dX3_weighSong_73 : decode cX3_weighSong 73 = .ok (.if_icmp .ge 19, 3) := by decide +kernel
theorem dX3_weighSong_76 : decode cX3_weighSong 76 = .ok (.aload_n 0, 1) := by decide +kernel
theorem dX3_weighSong_77 : decode cX3_weighSong 77 = .ok (.iload_n 1, 1) := by decide +kernel
theorem dX3_weighSong_78 : decode cX3_weighSong 78 = .ok (.putfield 58, 3) := by decide +kernel
theorem dX3_weighSong_81 : decode cX3_weighSong 81 = .ok (.aload_n 0, 1) := by decide +kernel
theorem dX3_weighSong_82 : decode cX3_weighSong 82 = .ok (.iload_n 3, 1) := by decide +kernel
theorem dX3_weighSong_83 : decode cX3_weighSong 83 = .ok (.putfield 61, 3) := by decide +kernel
theorem dX3_weighSong_86 : decode cX3_weighSong 86 = .ok (.aload_n 0, 1) := by decide +kernel
theorem dX3_weighSong_87 : decode cX3_weighSong 87 = .ok (.iload 4, 2) := by decide +kernel
theorem dX3_weighSong_89 : decode cX3_weighSong 89 = .ok (.putfield 64, 3) := by decide +kernel
theorem dX3_weighSong_92 : decode cX3_weighSong 92 = .ok (.return_, 1) := by decide +kernel
theorem dX3_noteOf_0 : decode cX3_noteOf 0 = .ok (.iload_n 0, 1) := by decide +kernel
theorem dX3_noteOf_1 : decode cX3_noteOf 1 = .ok (.iconst 3, 1) := by decide +kernel
theorem dX3_noteOf_2 : decode cX3_noteOf 2 = .ok (.iload_n 1, 1) := by decide +kernel
theorem dX3_noteOf_3 : decode cX3_noteOf 3 = .ok (.iconst 1, 1) := by decide +kernel
theorem dX3_noteOf_4 : decode cX3_noteOf 4 = .ok (.isub, 1) := by decide +kernel
theorem dX3_noteOf_5 : decode cX3_noteOf 5 = .ok (.iload_n 2, 1) := by decide +kernel
theorem dX3_noteOf_6 : decode cX3_noteOf 6 = .ok (.isub, 1) := by decide +kernel
theorem dX3_noteOf_7 : decode cX3_noteOf 7 = .ok (.imul, 1) := by decide +kernel
theorem dX3_noteOf_8 : decode cX3_noteOf 8 = .ok (.ishr, 1) := by decide +kernel
theorem dX3_noteOf_9 : decode cX3_noteOf 9 = .ok (.bipush 7, 2) := by decide +kernel
theorem dX3_noteOf_11 : decode cX3_noteOf 11 = .ok (.iand, 1) := by decide +kernel
theorem dX3_noteOf_12 : decode cX3_noteOf 12 = .ok (.ireturn, 1) := by decide +kernel
theorem dX3_weightOf_0 : decode cX3_weightOf 0 = .ok (.iload_n 0, 1) := by decide +kernel
theorem dX3_weightOf_1 : decode cX3_weightOf 1 = .ok (.invokestatic 209, 3) := by decide +kernel
theorem dX3_weightOf_4 : decode cX3_weightOf 4 = .ok (.istore_n 3, 1) := by decide +kernel
theorem dX3_weightOf_5 : decode cX3_weightOf 5 = .ok (.iload_n 2, 1) := by decide +kernel
theorem dX3_weightOf_6 : decode cX3_weightOf 6 = .ok (.iload_n 3, 1) := by decide +kernel
theorem dX3_weightOf_7 : decode cX3_weightOf 7 = .ok (.invokestatic 229, 3) := by decide +kernel
theorem dX3_weightOf_10 : decode cX3_weightOf 10 = .ok (.bipush 10, 2) := by decide +kernel
theorem dX3_weightOf_12 : decode cX3_weightOf 12 = .ok (.iload_n 2, 1) := by decide +kernel
theorem dX3_weightOf_13 : decode cX3_weightOf 13 = .ok (.isub, 1) := by decide +kernel
theorem dX3_weightOf_14 : decode cX3_weightOf 14 = .ok (.iload_n 1, 1) := by decide +kernel
theorem dX3_weightOf_15 : decode cX3_weightOf 15 = .ok (.iload_n 3, 1) := by decide +kernel
theorem dX3_weightOf_16 : decode cX3_weightOf 16 = .ok (.isub, 1) := by decide +kernel
theorem dX3_weightOf_17 : decode cX3_weightOf 17 = .ok (.invokestatic 229, 3) := by decide +kernel
theorem dX3_weightOf_20 : decode cX3_weightOf 20 = .ok (.imul, 1) := by decide +kernel
theorem dX3_weightOf_21 : decode cX3_weightOf 21 = .ok (.ireturn, 1) := by decide +kernel
theorem dX3_power_0 : decode cX3_power 0 = .ok (.iconst 1, 1) := by decide +kernel
theorem dX3_power_1 : decode cX3_power 1 = .ok (.istore_n 2, 1) := by decide +kernel
theorem dX3_power_2 : decode cX3_power 2 = .ok (.iconst 0, 1) := by decide +kernel
theorem dX3_power_3 : decode cX3_power 3 = .ok (.istore_n 3, 1) := by decide +kernel
theorem dX3_power_4 : decode cX3_power 4 = .ok (.iload_n 3, 1) := by decide +kernel
theorem dX3_power_5 : decode cX3_power 5 = .ok (.iload_n 1, 1) := by decide +kernel
theorem dX3_power_6 : decode cX3_power 6 = .ok (.if_icmp .ge 13, 3) := by decide +kernel
theorem dX3_power_9 : decode cX3_power 9 = .ok (.iload_n 2, 1) := by decide +kernel
theorem dX3_power_10 : decode cX3_power 10 = .ok (.iload_n 0, 1) := by decide +kernel
theorem dX3_power_11 : decode cX3_power 11 = .ok (.imul, 1) := by decide +kernel
theorem dX3_power_12 : decode cX3_power 12 = .ok (.istore_n 2, 1) := by decide +kernel
theorem dX3_power_13 : decode cX3_power 13 = .ok (.iinc 3 1, 3) := by decide +kernel
theorem dX3_power_16 : decode cX3_power 16 = .ok (.goto (-12), 3) := by decide +kernel
theorem dX3_power_19 : decode cX3_power 19 = .ok (.iload_n 2, 1) := by decide +kernel
theorem dX3_power_20 : decode cX3_power 20 = .ok (.ireturn, 1) := by decide +kernel
theorem dX3_commonDivisor_0 : decode cX3_commonDivisor 0 = .ok (.iload_n 0, 1) := by decide +kernel
theorem dX3_commonDivisor_1 : decode cX3_commonDivisor 1 = .ok (.istore_n 2, 1) := by decide +kernel
theorem dX3_commonDivisor_2 : decode cX3_commonDivisor 2 = .ok (.iload_n 1, 1) := by decide +kernel
theorem dX3_commonDivisor_3 : decode cX3_commonDivisor 3 = .ok (.istore_n 3, 1) := by decide +kernel
theorem dX3_commonDivisor_4 : decode cX3_commonDivisor 4 = .ok (.iconst 0, 1) := by decide +kernel
theorem dX3_commonDivisor_5 : decode cX3_commonDivisor 5 = .ok (.istore 4, 2) := by decide +kernel
theorem dX3_commonDivisor_7 : decode cX3_commonDivisor 7 = .ok (.iload 4, 2) := by decide +kernel
theorem dX3_commonDivisor_9 : decode cX3_commonDivisor 9 = .ok (.bipush 100, 2) := by decide +kernel
theorem dX3_commonDivisor_11 : decode cX3_commonDivisor 11 = .ok (.if_icmp .ge 23, 3) := by decide +kernel
theorem dX3_commonDivisor_14 : decode cX3_commonDivisor 14 = .ok (.iload_n 3, 1) := by decide +kernel
theorem dX3_commonDivisor_15 : decode cX3_commonDivisor 15 = .ok (.ifCond .eq 19, 3) := by decide +kernel
theorem dX3_commonDivisor_18 : decode cX3_commonDivisor 18 = .ok (.iload_n 2, 1) := by decide +kernel
theorem dX3_commonDivisor_19 : decode cX3_commonDivisor 19 = .ok (.iload_n 3, 1) := by decide +kernel
theorem dX3_commonDivisor_20 : decode cX3_commonDivisor 20 = .ok (.irem, 1) := by decide +kernel
theorem dX3_commonDivisor_21 : decode cX3_commonDivisor 21 = .ok (.istore 5, 2) := by decide +kernel
theorem dX3_commonDivisor_23 : decode cX3_commonDivisor 23 = .ok (.iload_n 3, 1) := by decide +kernel
theorem dX3_commonDivisor_24 : decode cX3_commonDivisor 24 = .ok (.istore_n 2, 1) := by decide +kernel
theorem dX3_commonDivisor_25 : decode cX3_commonDivisor 25 = .ok (.iload 5, 2) := by decide +kernel
theorem dX3_commonDivisor_27 : decode cX3_commonDivisor 27 = .ok (.istore_n 3, 1) := by decide +kernel
theorem dX3_commonDivisor_28 : decode cX3_commonDivisor 28 = .ok (.iinc 4 1, 3) := by decide +kernel
theorem dX3_commonDivisor_31 : decode cX3_commonDivisor 31 = .ok (.goto (-24), 3) := by decide +kernel
theorem dX3_commonDivisor_34 : decode cX3_commonDivisor 34 = .ok (.iload_n 2, 1) := by decide +kernel
theorem dX3_commonDivisor_35 : decode cX3_commonDivisor 35 = .ok (.iconst 1, 1) := by decide +kernel
theorem dX3_commonDivisor_36 : decode cX3_commonDivisor 36 = .ok (.invokestatic 290, 3) := by decide +kernel
theorem dX3_commonDivisor_39 : decode cX3_commonDivisor 39 = .ok (.ireturn, 1) := by decide +kernel
theorem dX3_isOf_0 : decode cX3_isOf 0 = .ok (.iload_n 0, 1) := by decide +kernel
theorem dX3_isOf_1 : decode cX3_isOf 1 = .ok (.istore_n 2, 1) := by decide +kernel
theorem dX3_isOf_2 : decode cX3_isOf 2 = .ok (.iconst 0, 1) := by decide +kernel
theorem dX3_isOf_3 : decode cX3_isOf 3 = .ok (.istore_n 3, 1) := by decide +kernel
theorem dX3_isOf_4 : decode cX3_isOf 4 = .ok (.iload_n 3, 1) := by decide +kernel
theorem dX3_isOf_5 : decode cX3_isOf 5 = .ok (.getstatic 293, 3) := by decide +kernel
theorem dX3_isOf_8 : decode cX3_isOf 8 = .ok (.arraylength, 1) := by decide +kernel
theorem dX3_isOf_9 : decode cX3_isOf 9 = .ok (.if_icmp .ge 32, 3) := by decide +kernel
theorem dX3_isOf_12 : decode cX3_isOf 12 = .ok (.iload_n 2, 1) := by decide +kernel
theorem dX3_isOf_13 : decode cX3_isOf 13 = .ok (.ifCond .le 28, 3) := by decide +kernel
theorem dX3_isOf_16 : decode cX3_isOf 16 = .ok (.iload_n 2, 1) := by decide +kernel
theorem dX3_isOf_17 : decode cX3_isOf 17 = .ok (.getstatic 293, 3) := by decide +kernel
theorem dX3_isOf_20 : decode cX3_isOf 20 = .ok (.arraylength, 1) := by decide +kernel
theorem dX3_isOf_21 : decode cX3_isOf 21 = .ok (.if_icmp .ge 20, 3) := by decide +kernel
theorem dX3_isOf_24 : decode cX3_isOf 24 = .ok (.iload_n 2, 1) := by decide +kernel
theorem dX3_isOf_25 : decode cX3_isOf 25 = .ok (.iload_n 1, 1) := by decide +kernel
theorem dX3_isOf_26 : decode cX3_isOf 26 = .ok (.if_icmp .eq 15, 3) := by decide +kernel
theorem dX3_isOf_29 : decode cX3_isOf 29 = .ok (.getstatic 293, 3) := by decide +kernel
theorem dX3_isOf_32 : decode cX3_isOf 32 = .ok (.iload_n 2, 1) := by decide +kernel
theorem dX3_isOf_33 : decode cX3_isOf 33 = .ok (.iaload, 1) := by decide +kernel
theorem dX3_isOf_34 : decode cX3_isOf 34 = .ok (.istore_n 2, 1) := by decide +kernel
theorem dX3_isOf_35 : decode cX3_isOf 35 = .ok (.iinc 3 1, 3) := by decide +kernel
theorem dX3_isOf_38 : decode cX3_isOf 38 = .ok (.goto (-34), 3) := by decide +kernel
theorem dX3_isOf_41 : decode cX3_isOf 41 = .ok (.iload_n 2, 1) := by decide +kernel
theorem dX3_isOf_42 : decode cX3_isOf 42 = .ok (.iload_n 1, 1) := by decide +kernel
theorem dX3_isOf_43 : decode cX3_isOf 43 = .ok (.if_icmp .ne 7, 3) := by decide +kernel
theorem dX3_isOf_46 : decode cX3_isOf 46 = .ok (.iconst 1, 1) := by decide +kernel
theorem dX3_isOf_47 : decode cX3_isOf 47 = .ok (.goto 4, 3) := by decide +kernel
theorem dX3_isOf_50 : decode cX3_isOf 50 = .ok (.iconst 0, 1) := by decide +kernel
theorem dX3_isOf_51 : decode cX3_isOf 51 = .ok (.ireturn, 1) := by decide +kernel
theorem dX3_leave_0 : decode cX3_leave 0 = .ok (.aload_n 0, 1) := by decide +kernel
theorem dX3_leave_1 : decode cX3_leave 1 = .ok (.getfield 70, 3) := by decide +kernel
theorem dX3_leave_4 : decode cX3_leave 4 = .ok (.bipush 16, 2) := by decide +kernel
theorem dX3_leave_6 : decode cX3_leave 6 = .ok (.if_icmp .ge 23, 3) := by decide +kernel
theorem dX3_leave_9 : decode cX3_leave 9 = .ok (.aload_n 0, 1) := by decide +kernel
theorem dX3_leave_10 : decode cX3_leave 10 = .ok (.getfield 67, 3) := by decide +kernel
theorem dX3_leave_13 : decode cX3_leave 13 = .ok (.aload_n 0, 1) := by decide +kernel
theorem dX3_leave_14 : decode cX3_leave 14 = .ok (.getfield 70, 3) := by decide +kernel
theorem dX3_leave_17 : decode cX3_leave 17 = .ok (.iload_n 1, 1) := by decide +kernel
theorem dX3_leave_18 : decode cX3_leave 18 = .ok (.iastore, 1) := by decide +kernel
theorem dX3_leave_19 : decode cX3_leave 19 = .ok (.aload_n 0, 1) := by decide +kernel
theorem dX3_leave_20 : decode cX3_leave 20 = .ok (.dup, 1) := by decide +kernel
theorem dX3_leave_21 : decode cX3_leave 21 = .ok (.getfield 70, 3) := by decide +kernel
theorem dX3_leave_24 : decode cX3_leave 24 = .ok (.iconst 1, 1) := by decide +kernel
theorem dX3_leave_25 : decode cX3_leave 25 = .ok (.iadd, 1) := by decide +kernel
theorem dX3_leave_26 : decode cX3_leave 26 = .ok (.putfield 70, 3) := by decide +kernel
theorem dX3_leave_29 : decode cX3_leave 29 = .ok (.return_, 1) := by decide +kernel
theorem dX3_lentSize_0 : decode cX3_lentSize 0 = .ok (.aload_n 0, 1) := by decide +kernel
theorem dX3_lentSize_1 : decode cX3_lentSize 1 = .ok (.bipush 10, 2) := by decide +kernel
theorem dX3_lentSize_3 : decode cX3_lentSize 3 = .ok (.invokevirtual 296, 3) := by decide +kernel
theorem dX3_lentSize_6 : decode cX3_lentSize 6 = .ok (.aload_n 0, 1) := by decide +kernel
theorem dX3_lentSize_7 : decode cX3_lentSize 7 = .ok (.getfield 25, 3) := by decide +kernel
theorem dX3_lentSize_10 : decode cX3_lentSize 10 = .ok (.getfield 173, 3) := by decide +kernel
theorem dX3_lentSize_13 : decode cX3_lentSize 13 = .ok (.iload_n 1, 1) := by decide +kernel
theorem dX3_lentSize_14 : decode cX3_lentSize 14 = .ok (.iaload, 1) := by decide +kernel
theorem dX3_lentSize_15 : decode cX3_lentSize 15 = .ok (.ireturn, 1) := by decide +kernel
theorem dX3_sizeOfPlums_0 : decode cX3_sizeOfPlums 0 = .ok (.aload_n 0, 1) := by decide +kernel
theorem dX3_sizeOfPlums_1 : decode cX3_sizeOfPlums 1 = .ok (.getfield 25, 3) := by decide +kernel
theorem dX3_sizeOfPlums_4 : decode cX3_sizeOfPlums 4 = .ok (.getfield 236, 3) := by decide +kernel
theorem dX3_sizeOfPlums_7 : decode cX3_sizeOfPlums 7 = .ok (.iload_n 1, 1) := by decide +kernel
theorem dX3_sizeOfPlums_8 : decode cX3_sizeOfPlums 8 = .ok (.iaload, 1) := by decide +kernel
theorem dX3_sizeOfPlums_9 : decode cX3_sizeOfPlums 9 = .ok (.iconst 2, 1) := by decide +kernel
theorem dX3_sizeOfPlums_10 : decode cX3_sizeOfPlums 10 = .ok (.if_icmp .ne 16, 3) := by decide +kernel
theorem dX3_sizeOfPlums_13 : decode cX3_sizeOfPlums 13 = .ok (.aload_n 0, 1) := by decide +kernel
theorem dX3_sizeOfPlums_14 : decode cX3_sizeOfPlums 14 = .ok (.bipush 12, 2) := by decide +kernel
theorem dX3_sizeOfPlums_16 : decode cX3_sizeOfPlums 16 = .ok (.invokevirtual 296, 3) := by decide +kernel
theorem dX3_sizeOfPlums_19 : decode cX3_sizeOfPlums 19 = .ok (.aload_n 0, 1) := by decide +kernel
theorem dX3_sizeOfPlums_20 : decode cX3_sizeOfPlums 20 = .ok (.iload_n 1, 1) := by decide +kernel
theorem dX3_sizeOfPlums_21 : decode cX3_sizeOfPlums 21 = .ok (.invokevirtual 300, 3) := by decide +kernel
theorem dX3_sizeOfPlums_24 : decode cX3_sizeOfPlums 24 = .ok (.ineg, 1) := by decide +kernel
theorem dX3_sizeOfPlums_25 : decode cX3_sizeOfPlums 25 = .ok (.ireturn, 1) := by decide +kernel
theorem dX3_sizeOfPlums_26 : decode cX3_sizeOfPlums 26 = .ok (.aload_n 0, 1) := by decide +kernel
theorem dX3_sizeOfPlums_27 : decode cX3_sizeOfPlums 27 = .ok (.iload_n 1, 1) := by decide +kernel
theorem dX3_sizeOfPlums_28 : decode cX3_sizeOfPlums 28 = .ok (.invokevirtual 300, 3) := by decide +kernel
theorem dX3_sizeOfPlums_31 : decode cX3_sizeOfPlums 31 = .ok (.ireturn, 1) := by decide +kernel
theorem dX3_plumSize_0 : decode cX3_plumSize 0 = .ok (.aload_n 0, 1) := by decide +kernel
theorem dX3_plumSize_1 : decode cX3_plumSize 1 = .ok (.bipush 11, 2) := by decide +kernel
theorem dX3_plumSize_3 : decode cX3_plumSize 3 = .ok (.invokevirtual 296, 3) := by decide +kernel
theorem dX3_plumSize_6 : decode cX3_plumSize 6 = .ok (.aload_n 0, 1) := by decide +kernel
theorem dX3_plumSize_7 : decode cX3_plumSize 7 = .ok (.iload_n 1, 1) := by decide +kernel
theorem dX3_plumSize_8 : decode cX3_plumSize 8 = .ok (.invokevirtual 303, 3) := by decide +kernel
theorem dX3_plumSize_11 : decode cX3_plumSize 11 = .ok (.istore_n 2, 1) := by decide +kernel
theorem dX3_plumSize_12 : decode cX3_plumSize 12 = .ok (.iload_n 2, 1) := by decide +kernel
theorem dX3_plumSize_13 : decode cX3_plumSize 13 = .ok (.aload_n 0, 1) := by decide +kernel
theorem dX3_plumSize_14 : decode cX3_plumSize 14 = .ok (.iload_n 1, 1) := by decide +kernel
theorem dX3_plumSize_15 : decode cX3_plumSize 15 = .ok (.invokevirtual 248, 3) := by decide +kernel
theorem dX3_plumSize_18 : decode cX3_plumSize 18 = .ok (.iadd, 1) := by decide +kernel
theorem dX3_plumSize_19 : decode cX3_plumSize 19 = .ok (.ireturn, 1) := by decide +kernel
theorem dX3_sizeOfMarrows_0 : decode cX3_sizeOfMarrows 0 = .ok (.aload_n 0, 1) := by decide +kernel
theorem dX3_sizeOfMarrows_1 : decode cX3_sizeOfMarrows 1 = .ok (.getfield 25, 3) := by decide +kernel
theorem dX3_sizeOfMarrows_4 : decode cX3_sizeOfMarrows 4 = .ok (.getfield 236, 3) := by decide +kernel
theorem dX3_sizeOfMarrows_7 : decode cX3_sizeOfMarrows 7 = .ok (.iload_n 1, 1) := by decide +kernel
theorem dX3_sizeOfMarrows_8 : decode cX3_sizeOfMarrows 8 = .ok (.iaload, 1) := by decide +kernel
theorem dX3_sizeOfMarrows_9 : decode cX3_sizeOfMarrows 9 = .ok (.iconst 5, 1) := by decide +kernel
theorem dX3_sizeOfMarrows_10 : decode cX3_sizeOfMarrows 10 = .ok (.if_icmp .ne 17, 3) := by decide +kernel
theorem dX3_sizeOfMarrows_13 : decode cX3_sizeOfMarrows 13 = .ok (.aload_n 0, 1) := by decide +kernel
theorem dX3_sizeOfMarrows_14 : decode cX3_sizeOfMarrows 14 = .ok (.bipush 14, 2) := by decide +kernel
theorem dX3_sizeOfMarrows_16 : decode cX3_sizeOfMarrows 16 = .ok (.invokevirtual 296, 3) := by decide +kernel
theorem dX3_sizeOfMarrows_19 : decode cX3_sizeOfMarrows 19 = .ok (.iconst 2, 1) := by decide +kernel
theorem dX3_sizeOfMarrows_20 : decode cX3_sizeOfMarrows 20 = .ok (.aload_n 0, 1) := by decide +kernel
theorem dX3_sizeOfMarrows_21 : decode cX3_sizeOfMarrows 21 = .ok (.iload_n 1, 1) := by decide +kernel
theorem dX3_sizeOfMarrows_22 : decode cX3_sizeOfMarrows 22 = .ok (.invokevirtual 306, 3) := by decide +kernel
theorem dX3_sizeOfMarrows_25 : decode cX3_sizeOfMarrows 25 = .ok (.imul, 1) := by decide +kernel
theorem dX3_sizeOfMarrows_26 : decode cX3_sizeOfMarrows 26 = .ok (.ireturn, 1) := by decide +kernel
theorem dX3_sizeOfMarrows_27 : decode cX3_sizeOfMarrows 27 = .ok (.aload_n 0, 1) := by decide +kernel
theorem dX3_sizeOfMarrows_28 : decode cX3_sizeOfMarrows 28 = .ok (.iload_n 1, 1) := by decide +kernel
theorem dX3_sizeOfMarrows_29 : decode cX3_sizeOfMarrows 29 = .ok (.invokevirtual 306, 3) := by decide +kernel
theorem dX3_sizeOfMarrows_32 : decode cX3_sizeOfMarrows 32 = .ok (.ireturn, 1) := by decide +kernel
theorem dX3_marrowSize_0 : decode cX3_marrowSize 0 = .ok (.aload_n 0, 1) := by decide +kernel
theorem dX3_marrowSize_1 : decode cX3_marrowSize 1 = .ok (.bipush 13, 2) := by decide +kernel
theorem dX3_marrowSize_3 : decode cX3_marrowSize 3 = .ok (.invokevirtual 296, 3) := by decide +kernel
theorem dX3_marrowSize_6 : decode cX3_marrowSize 6 = .ok (.aload_n 0, 1) := by decide +kernel
theorem dX3_marrowSize_7 : decode cX3_marrowSize 7 = .ok (.iload_n 1, 1) := by decide +kernel
theorem dX3_marrowSize_8 : decode cX3_marrowSize 8 = .ok (.invokevirtual 303, 3) := by decide +kernel
theorem dX3_marrowSize_11 : decode cX3_marrowSize 11 = .ok (.bipush 100, 2) := by decide +kernel
theorem dX3_marrowSize_13 : decode cX3_marrowSize 13 = .ok (.isub, 1) := by decide +kernel
theorem dX3_marrowSize_14 : decode cX3_marrowSize 14 = .ok (.ireturn, 1) := by decide +kernel
theorem dX3_lentMark_0 : decode cX3_lentMark 0 = .ok (.aload_n 0, 1) := by decide +kernel
theorem dX3_lentMark_1 : decode cX3_lentMark 1 = .ok (.bipush 20, 2) := by decide +kernel
theorem dX3_lentMark_3 : decode cX3_lentMark 3 = .ok (.invokevirtual 296, 3) := by decide +kernel
theorem dX3_lentMark_6 : decode cX3_lentMark 6 = .ok (.iload_n 1, 1) := by decide +kernel
theorem dX3_lentMark_7 : decode cX3_lentMark 7 = .ok (.ireturn, 1) := by decide +kernel
theorem dX3_markOfPlums_0 : decode cX3_markOfPlums 0 = .ok (.aload_n 0, 1) := by decide +kernel
theorem dX3_markOfPlums_1 : decode cX3_markOfPlums 1 = .ok (.getfield 25, 3) := by decide +kernel
theorem dX3_markOfPlums_4 : decode cX3_markOfPlums 4 = .ok (.getfield 236, 3) := by decide +kernel
theorem dX3_markOfPlums_7 : decode cX3_markOfPlums 7 = .ok (.iload_n 1, 1) := by decide +kernel
theorem dX3_markOfPlums_8 : decode cX3_markOfPlums 8 = .ok (.iaload, 1) := by decide +kernel
theorem dX3_markOfPlums_9 : decode cX3_markOfPlums 9 = .ok (.iconst 3, 1) := by decide +kernel
theorem dX3_markOfPlums_10 : decode cX3_markOfPlums 10 = .ok (.if_icmp .ne 19, 3) := by decide +kernel
theorem dX3_markOfPlums_13 : decode cX3_markOfPlums 13 = .ok (.aload_n 0, 1) := by decide +kernel
theorem dX3_markOfPlums_14 : decode cX3_markOfPlums 14 = .ok (.bipush 22, 2) := by decide +kernel
theorem dX3_markOfPlums_16 : decode cX3_markOfPlums 16 = .ok (.invokevirtual 296, 3) := by decide +kernel
theorem dX3_markOfPlums_19 : decode cX3_markOfPlums 19 = .ok (.aload_n 0, 1) := by decide +kernel
theorem dX3_markOfPlums_20 : decode cX3_markOfPlums 20 = .ok (.iload_n 1, 1) := by decide +kernel
theorem dX3_markOfPlums_21 : decode cX3_markOfPlums 21 = .ok (.invokevirtual 309, 3) := by decide +kernel
theorem dX3_markOfPlums_24 : decode cX3_markOfPlums 24 = .ok (.sipush 1000, 3) := by decide +kernel
theorem dX3_markOfPlums_27 : decode cX3_markOfPlums 27 = .ok (.isub, 1) := by decide +kernel
theorem dX3_markOfPlums_28 : decode cX3_markOfPlums 28 = .ok (.ireturn, 1) := by decide +kernel
theorem dX3_markOfPlums_29 : decode cX3_markOfPlums 29 = .ok (.aload_n 0, 1) := by decide +kernel
theorem dX3_markOfPlums_30 : decode cX3_markOfPlums 30 = .ok (.getfield 25, 3) := by decide +kernel
theorem dX3_markOfPlums_33 : decode cX3_markOfPlums 33 = .ok (.getfield 236, 3) := by decide +kernel
theorem dX3_markOfPlums_36 : decode cX3_markOfPlums 36 = .ok (.iload_n 1, 1) := by decide +kernel
theorem dX3_markOfPlums_37 : decode cX3_markOfPlums 37 = .ok (.iaload, 1) := by decide +kernel
theorem dX3_markOfPlums_38 : decode cX3_markOfPlums 38 = .ok (.iconst 2, 1) := by decide +kernel
theorem dX3_markOfPlums_39 : decode cX3_markOfPlums 39 = .ok (.if_icmp .ne 17, 3) := by decide +kernel
theorem dX3_markOfPlums_42 : decode cX3_markOfPlums 42 = .ok (.aload_n 0, 1) := by decide +kernel
theorem dX3_markOfPlums_43 : decode cX3_markOfPlums 43 = .ok (.bipush 24, 2) := by decide +kernel
theorem dX3_markOfPlums_45 : decode cX3_markOfPlums 45 = .ok (.invokevirtual 296, 3) := by decide +kernel
theorem dX3_markOfPlums_48 : decode cX3_markOfPlums 48 = .ok (.iconst 2, 1) := by decide +kernel
theorem dX3_markOfPlums_49 : decode cX3_markOfPlums 49 = .ok (.aload_n 0, 1) := by decide +kernel
theorem dX3_markOfPlums_50 : decode cX3_markOfPlums 50 = .ok (.iload_n 1, 1) := by decide +kernel
theorem dX3_markOfPlums_51 : decode cX3_markOfPlums 51 = .ok (.invokevirtual 309, 3) := by decide +kernel
theorem dX3_markOfPlums_54 : decode cX3_markOfPlums 54 = .ok (.imul, 1) := by decide +kernel
theorem dX3_markOfPlums_55 : decode cX3_markOfPlums 55 = .ok (.ireturn, 1) := by decide +kernel
theorem dX3_markOfPlums_56 : decode cX3_markOfPlums 56 = .ok (.aload_n 0, 1) := by decide +kernel
theorem dX3_markOfPlums_57 : decode cX3_markOfPlums 57 = .ok (.iload_n 1, 1) := by decide +kernel
theorem dX3_markOfPlums_58 : decode cX3_markOfPlums 58 = .ok (.invokevirtual 309, 3) := by decide +kernel
theorem dX3_markOfPlums_61 : decode cX3_markOfPlums 61 = .ok (.ireturn, 1) := by decide +kernel
theorem dX3_plumMark_0 : decode cX3_plumMark 0 = .ok (.aload_n 0, 1) := by decide +kernel
theorem dX3_plumMark_1 : decode cX3_plumMark 1 = .ok (.bipush 21, 2) := by decide +kernel
theorem dX3_plumMark_3 : decode cX3_plumMark 3 = .ok (.invokevirtual 296, 3) := by decide +kernel
theorem dX3_plumMark_6 : decode cX3_plumMark 6 = .ok (.aload_n 0, 1) := by decide +kernel
theorem dX3_plumMark_7 : decode cX3_plumMark 7 = .ok (.iload_n 1, 1) := by decide +kernel
theorem dX3_plumMark_8 : decode cX3_plumMark 8 = .ok (.invokevirtual 312, 3) := by decide +kernel
theorem dX3_plumMark_11 : decode cX3_plumMark 11 = .ok (.aload_n 0, 1) := by decide +kernel
theorem dX3_plumMark_12 : decode cX3_plumMark 12 = .ok (.getfield 25, 3) := by decide +kernel
theorem dX3_plumMark_15 : decode cX3_plumMark 15 = .ok (.getfield 176, 3) := by decide +kernel
theorem dX3_plumMark_18 : decode cX3_plumMark 18 = .ok (.iload_n 1, 1) := by decide +kernel
theorem dX3_plumMark_19 : decode cX3_plumMark 19 = .ok (.iaload, 1) := by decide +kernel
theorem dX3_plumMark_20 : decode cX3_plumMark 20 = .ok (.iadd, 1) := by decide +kernel
theorem dX3_plumMark_21 : decode cX3_plumMark 21 = .ok (.ireturn, 1) := by decide +kernel
theorem dX3_markOfMarrows_0 : decode cX3_markOfMarrows 0 = .ok (.aload_n 0, 1) := by decide +kernel
theorem dX3_markOfMarrows_1 : decode cX3_markOfMarrows 1 = .ok (.bipush 23, 2) := by decide +kernel
theorem dX3_markOfMarrows_3 : decode cX3_markOfMarrows 3 = .ok (.invokevirtual 296, 3) := by decide +kernel
theorem dX3_markOfMarrows_6 : decode cX3_markOfMarrows 6 = .ok (.aload_n 0, 1) := by decide +kernel
theorem dX3_markOfMarrows_7 : decode cX3_markOfMarrows 7 = .ok (.iload_n 1, 1) := by decide +kernel
theorem dX3_markOfMarrows_8 : decode cX3_markOfMarrows 8 = .ok (.invokevirtual 312, 3) := by decide +kernel
theorem dX3_markOfMarrows_11 : decode cX3_markOfMarrows 11 = .ok (.istore_n 2, 1) := by decide +kernel
theorem dX3_markOfMarrows_12 : decode cX3_markOfMarrows 12 = .ok (.iload_n 2, 1) := by decide +kernel
theorem dX3_markOfMarrows_13 : decode cX3_markOfMarrows 13 = .ok (.aload_n 0, 1) := by decide +kernel
theorem dX3_markOfMarrows_14 : decode cX3_markOfMarrows 14 = .ok (.iload_n 1, 1) := by decide +kernel
theorem dX3_markOfMarrows_15 : decode cX3_markOfMarrows 15 = .ok (.invokevirtual 245, 3) := by decide +kernel
theorem dX3_markOfMarrows_18 : decode cX3_markOfMarrows 18 = .ok (.isub, 1) := by decide +kernel
theorem dX3_markOfMarrows_19 : decode cX3_markOfMarrows 19 = .ok (.ireturn, 1) := by decide +kernel
