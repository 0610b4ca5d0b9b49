theorem dX0_init_0 : decode cX0_init 0 = .ok (.aload_n 0, 1) := by decide +kernel
theorem dX0_init_1 : decode cX0_init 1 = .ok (.invokespecial 3, 3) := by decide +kernel
theorem dX0_init_4 : decode cX0_init 4 = .ok (.aload_n 0, 1) := by decide +kernel
theorem dX0_init_5 : decode cX0_init 5 = .ok (.iconst 0, 1) := by decide +kernel
theorem dX0_init_6 : decode cX0_init 6 = .ok (.putfield 9, 3) := by decide +kernel
theorem dX0_init_9 : decode cX0_init 9 = .ok (.aload_n 0, 1) := by decide +kernel
theorem dX0_init_10 : decode cX0_init 10 = .ok (.iconst 0, 1) := by decide +kernel
theorem dX0_init_11 : decode cX0_init 11 = .ok (.putfield 15, 3) := by decide +kernel
theorem dX0_init_14 : decode cX0_init 14 = .ok (.aload_n 0, 1) := by decide +kernel
theorem dX0_init_15 : decode cX0_init 15 = .ok (.iconst 0, 1) := by decide +kernel
theorem dX0_init_16 : decode cX0_init 16 = .ok (.putfield 19, 3) := by decide +kernel
theorem dX0_init_19 : decode cX0_init 19 = .ok (.aload_n 0, 1) := by decide +kernel
theorem dX0_init_20 : decode cX0_init 20 = .ok (.iconst 3, 1) := by decide +kernel
theorem dX0_init_21 : decode cX0_init 21 = .ok (.newarray .int, 2) := by decide +kernel
theorem dX0_init_23 : decode cX0_init 23 = .ok (.putfield 22, 3) := by decide +kernel
theorem dX0_init_26 : decode cX0_init 26 = .ok (.aload_n 0, 1) := by decide +kernel
theorem dX0_init_27 : decode cX0_init 27 = .ok (.iconst 3, 1) := by decide +kernel
theorem dX0_init_28 : decode cX0_init 28 = .ok (.newarray .int, 2) := by decide +kernel
theorem dX0_init_30 : decode cX0_init 30 = .ok (.putfield 26, 3) := by decide +kernel
theorem dX0_init_33 : decode cX0_init 33 = .ok (.aload_n 0, 1) := by decide +kernel
theorem dX0_init_34 : decode cX0_init 34 = .ok (.iconst 3, 1) := by decide +kernel
theorem dX0_init_35 : decode cX0_init 35 = .ok (.newarray .int, 2) := by decide +kernel
theorem dX0_init_37 : decode cX0_init 37 = .ok (.putfield 29, 3) := by decide +kernel
theorem dX0_init_40 : decode cX0_init 40 = .ok (.aload_n 0, 1) := by decide +kernel
theorem dX0_init_41 : decode cX0_init 41 = .ok (.iconst 0, 1) := by decide +kernel
theorem dX0_init_42 : decode cX0_init 42 = .ok (.putfield 32, 3) := by decide +kernel
theorem dX0_init_45 : decode cX0_init 45 = .ok (.aload_n 0, 1) := by decide +kernel
theorem dX0_init_46 : decode cX0_init 46 = .ok (.iconst 5, 1) := by decide +kernel
theorem dX0_init_47 : decode cX0_init 47 = .ok (.newarray .int, 2) := by decide +kernel
theorem dX0_init_49 : decode cX0_init 49 = .ok (.putfield 35, 3) := by decide +kernel
theorem dX0_init_52 : decode cX0_init 52 = .ok (.aload_n 0, 1) := by decide +kernel
theorem dX0_init_53 : decode cX0_init 53 = .ok (.iconst 5, 1) := by decide +kernel
theorem dX0_init_54 : decode cX0_init 54 = .ok (.newarray .int, 2) := by decide +kernel
theorem dX0_init_56 : decode cX0_init 56 = .ok (.putfield 38, 3) := by decide +kernel
theorem dX0_init_59 : decode cX0_init 59 = .ok (.aload_n 0, 1) := by decide +kernel
theorem dX0_init_60 : decode cX0_init 60 = .ok (.iconst 5, 1) := by decide +kernel
theorem dX0_init_61 : decode cX0_init 61 = .ok (.newarray .int, 2) := by decide +kernel
theorem dX0_init_63 : decode cX0_init 63 = .ok (.putfield 41, 3) := by decide +kernel
theorem dX0_init_66 : decode cX0_init 66 = .ok (.aload_n 0, 1) := by decide +kernel
theorem dX0_init_67 : decode cX0_init 67 = .ok (.iconst 0, 1) := by decide +kernel
theorem dX0_init_68 : decode cX0_init 68 = .ok (.putfield 44, 3) := by decide +kernel
theorem dX0_init_71 : decode cX0_init 71 = .ok (.aload_n 0, 1) := by decide +kernel
theorem dX0_init_72 : decode cX0_init 72 = .ok (.iconst 3, 1) := by decide +kernel
theorem dX0_init_73 : decode cX0_init 73 = .ok (.newarray .int, 2) := by decide +kernel
theorem dX0_init_75 : decode cX0_init 75 = .ok (.putfield 47, 3) := by decide +kernel
theorem dX0_init_78 : decode cX0_init 78 = .ok (.aload_n 0, 1) := by decide +kernel
theorem dX0_init_79 : decode cX0_init 79 = .ok (.iconst 5, 1) := by decide +kernel
theorem dX0_init_80 : decode cX0_init 80 = .ok (.newarray .int, 2) := by decide +kernel
theorem dX0_init_82 : decode cX0_init 82 = .ok (.putfield 50, 3) := by decide +kernel
theorem dX0_init_85 : decode cX0_init 85 = .ok (.aload_n 0, 1) := by decide +kernel
theorem dX0_init_86 : decode cX0_init 86 = .ok (.iconst 5, 1) := by decide +kernel
theorem dX0_init_87 : decode cX0_init 87 = .ok (.newarray .int, 2) := by decide +kernel
theorem dX0_init_89 : decode cX0_init 89 = .ok (.putfield 53, 3) := by decide +kernel
theorem dX0_init_92 : decode cX0_init 92 = .ok (.aload_n 0, 1) := by decide +kernel
theorem dX0_init_93 : decode cX0_init 93 = .ok (.iconst 5, 1) := by decide +kernel
theorem dX0_init_94 : decode cX0_init 94 = .ok (.newarray .int, 2) := by decide +kernel
theorem dX0_init_96 : decode cX0_init 96 = .ok (.putfield 56, 3) := by decide +kernel
theorem dX0_init_99 : decode cX0_init 99 = .ok (.return_, 1) := by decide +kernel
theorem dX0_begin_0 : decode cX0_begin 0 = .ok (.aload_n 0, 1) := by decide +kernel
theorem dX0_begin_1 : decode cX0_begin 1 = .ok (.iconst 1, 1) := by decide +kernel
theorem dX0_begin_2 : decode cX0_begin 2 = .ok (.putfield 9, 3) := by decide +kernel
theorem dX0_begin_5 : decode cX0_begin 5 = .ok (.aload_n 0, 1) := by decide +kernel
theorem dX0_begin_6 : decode cX0_begin 6 = .ok (.iconst 0, 1) := by decide +kernel
theorem dX0_begin_7 : decode cX0_begin 7 = .ok (.putfield 19, 3) := by decide +kernel
theorem dX0_begin_10 : decode cX0_begin 10 = .ok (.aload_n 0, 1) := by decide +kernel
theorem dX0_begin_11 : decode cX0_begin 11 = .ok (.iconst 0, 1) := by decide +kernel
theorem dX0_begin_12 : decode cX0_begin 12 = .ok (.putfield 32, 3) := by decide +kernel
theorem dX0_begin_15 : decode cX0_begin 15 = .ok (.aload_n 0, 1) := by decide +kernel
theorem dX0_begin_16 : decode cX0_begin 16 = .ok (.iconst 0, 1) := by decide +kernel
theorem dX0_begin_17 : decode cX0_begin 17 = .ok (.putfield 44, 3) := by decide +kernel
theorem dX0_begin_20 : decode cX0_begin 20 = .ok (.aload_n 0, 1) := by decide +kernel
theorem dX0_begin_21 : decode cX0_begin 21 = .ok (.getfield 47, 3) := by decide +kernel
theorem dX0_begin_24 : decode cX0_begin 24 = .ok (.iconst 0, 1) := by decide +kernel
theorem dX0_begin_25 : decode cX0_begin 25 = .ok (.invokestatic 59, 3) := by decide +kernel
theorem dX0_begin_28 : decode cX0_begin 28 = .ok (.aload_n 0, 1) := by decide +kernel
theorem dX0_begin_29 : decode cX0_begin 29 = .ok (.getfield 53, 3) := by decide +kernel
theorem dX0_begin_32 : decode cX0_begin 32 = .ok (.iconst 0, 1) := by decide +kernel
theorem dX0_begin_33 : decode cX0_begin 33 = .ok (.invokestatic 59, 3) := by decide +kernel
theorem dX0_begin_36 : decode cX0_begin 36 = .ok (.aload_n 0, 1) := by decide +kernel
theorem dX0_begin_37 : decode cX0_begin 37 = .ok (.getfield 56, 3) := by decide +kernel
theorem dX0_begin_40 : decode cX0_begin 40 = .ok (.ldc 65, 2) := by decide +kernel
theorem dX0_begin_42 : decode cX0_begin 42 = .ok (.invokestatic 59, 3) := by decide +kernel
theorem dX0_begin_45 : decode cX0_begin 45 = .ok (.return_, 1) := by decide +kernel
theorem dX0_takeFrom_0 : decode cX0_takeFrom 0 = .ok (.aload_n 0, 1) := by decide +kernel
theorem dX0_takeFrom_1 : decode cX0_takeFrom 1 = .ok (.aload_n 1, 1) := by decide +kernel
theorem dX0_takeFrom_2 : decode cX0_takeFrom 2 = .ok (.getfield 9, 3) := by decide +kernel
theorem dX0_takeFrom_5 : decode cX0_takeFrom 5 = .ok (.putfield 9, 3) := by decide +kernel
theorem dX0_takeFrom_8 : decode cX0_takeFrom 8 = .ok (.aload_n 0, 1) := by decide +kernel
theorem dX0_takeFrom_9 : decode cX0_takeFrom 9 = .ok (.aload_n 1, 1) := by decide +kernel
theorem dX0_takeFrom_10 : decode cX0_takeFrom 10 = .ok (.getfield 15, 3) := by decide +kernel
theorem dX0_takeFrom_13 : decode cX0_takeFrom 13 = .ok (.putfield 15, 3) := by decide +kernel
theorem dX0_takeFrom_16 : decode cX0_takeFrom 16 = .ok (.aload_n 0, 1) := by decide +kernel
theorem dX0_takeFrom_17 : decode cX0_takeFrom 17 = .ok (.aload_n 1, 1) := by decide +kernel
theorem dX0_takeFrom_18 : decode cX0_takeFrom 18 = .ok (.getfield 19, 3) := by decide +kernel
theorem dX0_takeFrom_21 : decode cX0_takeFrom 21 = .ok (.putfield 19, 3) := by decide +kernel
theorem dX0_takeFrom_24 : decode cX0_takeFrom 24 = .ok (.aload_n 0, 1) := by decide +kernel
theorem dX0_takeFrom_25 : decode cX0_takeFrom 25 = .ok (.aload_n 1, 1) := by decide +kernel
theorem dX0_takeFrom_26 : decode cX0_takeFrom 26 = .ok (.getfield 32, 3) := by decide +kernel
theorem dX0_takeFrom_29 : decode cX0_takeFrom 29 = .ok (.putfield 32, 3) := by decide +kernel
theorem dX0_takeFrom_32 : decode cX0_takeFrom 32 = .ok (.aload_n 0, 1) := by decide +kernel
theorem dX0_takeFrom_33 : decode cX0_takeFrom 33 = .ok (.aload_n 1, 1) := by decide +kernel
theorem dX0_takeFrom_34 : decode cX0_takeFrom 34 = .ok (.getfield 44, 3) := by decide +kernel
theorem dX0_takeFrom_37 : decode cX0_takeFrom 37 = .ok (.putfield 44, 3) := by decide +kernel
theorem dX0_takeFrom_40 : decode cX0_takeFrom 40 = .ok (.aload_n 1, 1) := by decide +kernel
theorem dX0_takeFrom_41 : decode cX0_takeFrom 41 = .ok (.getfield 22, 3) := by decide +kernel
theorem dX0_takeFrom_44 : decode cX0_takeFrom 44 = .ok (.iconst 0, 1) := by decide +kernel
theorem dX0_takeFrom_45 : decode cX0_takeFrom 45 = .ok (.aload_n 0, 1) := by decide +kernel
theorem dX0_takeFrom_46 : decode cX0_takeFrom 46 = .ok (.getfield 22, 3) := by decide +kernel
theorem dX0_takeFrom_49 : decode cX0_takeFrom 49 = .ok (.iconst 0, 1) := by decide +kernel
theorem dX0_takeFrom_50 : decode cX0_takeFrom 50 = .ok (.iconst 3, 1) := by decide +kernel
theorem dX0_takeFrom_51 : decode cX0_takeFrom 51 = .ok (.invokestatic 66, 3) := by decide +kernel
theorem dX0_takeFrom_54 : decode cX0_takeFrom 54 = .ok (.aload_n 1, 1) := by decide +kernel
theorem dX0_takeFrom_55 : decode cX0_takeFrom 55 = .ok (.getfield 26, 3) := by decide +kernel
theorem dX0_takeFrom_58 : decode cX0_takeFrom 58 = .ok (.iconst 0, 1) := by decide +kernel
theorem dX0_takeFrom_59 : decode cX0_takeFrom 59 = .ok (.aload_n 0, 1) := by decide +kernel
theorem dX0_takeFrom_60 : decode cX0_takeFrom 60 = .ok (.getfield 26, 3) := by decide +kernel
theorem dX0_takeFrom_63 : decode cX0_takeFrom 63 = .ok (.iconst 0, 1) := by decide +kernel
theorem dX0_takeFrom_64 : decode cX0_takeFrom 64 = .ok (.iconst 3, 1) := by decide +kernel
theorem dX0_takeFrom_65 : decode cX0_takeFrom 65 = .ok (.invokestatic 66, 3) := by decide +kernel
theorem dX0_takeFrom_68 : decode cX0_takeFrom 68 = .ok (.aload_n 1, 1) := by decide +kernel
theorem dX0_takeFrom_69 : decode cX0_takeFrom 69 = .ok (.getfield 29, 3) := by decide +kernel
theorem dX0_takeFrom_72 : decode cX0_takeFrom 72 = .ok (.iconst 0, 1) := by decide +kernel
theorem dX0_takeFrom_73 : decode cX0_takeFrom 73 = .ok (.aload_n 0, 1) := by decide +kernel
theorem dX0_takeFrom_74 : decode cX0_takeFrom 74 = .ok (.getfield 29, 3) := by decide +kernel
theorem dX0_takeFrom_77 : decode cX0_takeFrom 77 = .ok (.iconst 0, 1) := by decide +kernel
theorem dX0_takeFrom_78 : decode cX0_takeFrom 78 = .ok (.iconst 3, 1) := by decide +kernel
theorem dX0_takeFrom_79 : decode cX0_takeFrom 79 = .ok (.invokestatic 66, 3) := by decide +kernel
theorem dX0_takeFrom_82 : decode cX0_takeFrom 82 = .ok (.aload_n 1, 1) := by decide +kernel
theorem dX0_takeFrom_83 : decode cX0_takeFrom 83 = .ok (.getfield 47, 3) := by decide +kernel
theorem dX0_takeFrom_86 : decode cX0_takeFrom 86 = .ok (.iconst 0, 1) := by decide +kernel
theorem dX0_takeFrom_87 : decode cX0_takeFrom 87 = .ok (.aload_n 0, 1) := by decide +kernel
theorem dX0_takeFrom_88 : decode cX0_takeFrom 88 = .ok (.getfield 47, 3) := by decide +kernel
theorem dX0_takeFrom_91 : decode cX0_takeFrom 91 = .ok (.iconst 0, 1) := by decide +kernel
theorem dX0_takeFrom_92 : decode cX0_takeFrom 92 = .ok (.iconst 3, 1) := by decide +kernel
theorem dX0_takeFrom_93 : decode cX0_takeFrom 93 = .ok (.invokestatic 66, 3) := by decide +kernel
theorem dX0_takeFrom_96 : decode cX0_takeFrom 96 = .ok (.aload_n 1, 1) := by decide +kernel
theorem dX0_takeFrom_97 : decode cX0_takeFrom 97 = .ok (.getfield 35, 3) := by decide +kernel
theorem dX0_takeFrom_100 : decode cX0_takeFrom 100 = .ok (.iconst 0, 1) := by decide +kernel
theorem dX0_takeFrom_101 : decode cX0_takeFrom 101 = .ok (.aload_n 0, 1) := by decide +kernel
theorem dX0_takeFrom_102 : decode cX0_takeFrom 102 = .ok (.getfield 35, 3) := by decide +kernel
theorem dX0_takeFrom_105 : decode cX0_takeFrom 105 = .ok (.iconst 0, 1) := by decide +kernel
theorem dX0_takeFrom_106 : decode cX0_takeFrom 106 = .ok (.iconst 5, 1) := by decide +kernel
theorem dX0_takeFrom_107 : decode cX0_takeFrom 107 = .ok (.invokestatic 66, 3) := by decide +kernel
theorem dX0_takeFrom_110 : decode cX0_takeFrom 110 = .ok (.aload_n 1, 1) := by decide +kernel
theorem dX0_takeFrom_111 : decode cX0_takeFrom 111 = .ok (.getfield 38, 3) := by decide +kernel
theorem dX0_takeFrom_114 : decode cX0_takeFrom 114 = .ok (.iconst 0, 1) := by decide +kernel
theorem dX0_takeFrom_115 : decode cX0_takeFrom 115 = .ok (.aload_n 0, 1) := by decide +kernel
theorem dX0_takeFrom_116 : decode cX0_takeFrom 116 = .ok (.getfield 38, 3) := by decide +kernel
theorem dX0_takeFrom_119 : decode cX0_takeFrom 119 = .ok (.iconst 0, 1) := by decide +kernel
theorem dX0_takeFrom_120 : decode cX0_takeFrom 120 = .ok (.iconst 5, 1) := by decide +kernel
theorem dX0_takeFrom_121 : decode cX0_takeFrom 121 = .ok (.invokestatic 66, 3) := by decide +kernel
theorem dX0_takeFrom_124 : decode cX0_takeFrom 124 = .ok (.aload_n 1, 1) := by decide +kernel
theorem dX0_takeFrom_125 : decode cX0_takeFrom 125 = .ok (.getfield 41, 3) := by decide +kernel
theorem dX0_takeFrom_128 : decode cX0_takeFrom 128 = .ok (.iconst 0, 1) := by decide +kernel
theorem dX0_takeFrom_129 : decode cX0_takeFrom 129 = .ok (.aload_n 0, 1) := by decide +kernel
theorem dX0_takeFrom_130 : decode cX0_takeFrom 130 = .ok (.getfield 41, 3) := by decide +kernel
theorem dX0_takeFrom_133 : decode cX0_takeFrom 133 = .ok (.iconst 0, 1) := by decide +kernel
theorem dX0_takeFrom_134 : decode cX0_takeFrom 134 = .ok (.iconst 5, 1) := by decide +kernel
theorem dX0_takeFrom_135 : decode cX0_takeFrom 135 = .ok (.invokestatic 66, 3) := by decide +kernel
theorem dX0_takeFrom_138 : decode cX0_takeFrom 138 = .ok (.aload_n 1, 1) := by decide +kernel
theorem dX0_takeFrom_139 : decode cX0_takeFrom 139 = .ok (.getfield 50, 3) := by decide +kernel
theorem dX0_takeFrom_142 : decode cX0_takeFrom 142 = .ok (.iconst 0, 1) := by decide +kernel
theorem dX0_takeFrom_143 : decode cX0_takeFrom 143 = .ok (.aload_n 0, 1) := by decide +kernel
theorem dX0_takeFrom_144 : decode cX0_takeFrom 144 = .ok (.getfield 50, 3) := by decide +kernel
theorem dX0_takeFrom_147 : decode cX0_takeFrom 147 = .ok (.iconst 0, 1) := by decide +kernel
theorem dX0_takeFrom_148 : decode cX0_takeFrom 148 = .ok (.iconst 5, 1) := by decide +kernel
theorem dX0_takeFrom_149 : decode cX0_takeFrom 149 = .ok (.invokestatic 66, 3) := by decide +kernel
theorem dX0_takeFrom_152 : decode cX0_takeFrom 152 = .ok (.aload_n 1, 1) := by decide +kernel
theorem dX0_takeFrom_153 : decode cX0_takeFrom 153 = .ok (.getfield 53, 3) := by decide +kernel
theorem dX0_takeFrom_156 : decode cX0_takeFrom 156 = .ok (.iconst 0, 1) := by decide +kernel
theorem dX0_takeFrom_157 : decode cX0_takeFrom 157 = .ok (.aload_n 0, 1) := by decide +kernel
theorem dX0_takeFrom_158 : decode cX0_takeFrom 158 = .ok (.getfield 53, 3) := by decide +kernel
theorem dX0_takeFrom_161 : decode cX0_takeFrom 161 = .ok (.iconst 0, 1) := by decide +kernel
theorem dX0_takeFrom_162 : decode cX0_takeFrom 162 = .ok (.iconst 5, 1) := by decide +kernel
theorem dX0_takeFrom_163 : decode cX0_takeFrom 163 = .ok (.invokestatic 66, 3) := by decide +kernel
theorem dX0_takeFrom_166 : decode cX0_takeFrom 166 = .ok (.aload_n 1, 1) := by decide +kernel
theorem dX0_takeFrom_167 : decode cX0_takeFrom 167 = .ok (.getfield 56, 3) := by decide +kernel
theorem dX0_takeFrom_170 : decode cX0_takeFrom 170 = .ok (.iconst 0, 1) := by decide +kernel
theorem dX0_takeFrom_171 : decode cX0_takeFrom 171 = .ok (.aload_n 0, 1) := by decide +kernel
theorem dX0_takeFrom_172 : decode cX0_takeFrom 172 = .ok (.getfield 56, 3) := by decide +kernel
theorem dX0_takeFrom_175 : decode cX0_takeFrom 175 = .ok (.iconst 0, 1) := by decide +kernel
theorem dX0_takeFrom_176 : decode cX0_takeFrom 176 = .ok (.iconst 5, 1) := by decide +kernel
theorem dX0_takeFrom_177 : decode cX0_takeFrom 177 = .ok (.invokestatic 66, 3) := by decide +kernel
theorem dX0_takeFrom_180 : decode cX0_takeFrom 180 = .ok (.return_, 1) := by decide +kernel
theorem dX0_keep_0 : decode cX0_keep 0 = .ok (.aload_n 1, 1) := by decide +kernel
theorem dX0_keep_1 : decode cX0_keep 1 = .ok (.iconst 0, 1) := by decide +kernel
theorem dX0_keep_2 : decode cX0_keep 2 = .ok (.aload_n 0, 1) := by decide +kernel
theorem dX0_keep_3 : decode cX0_keep 3 = .ok (.getfield 44, 3) := by decide +kernel
theorem dX0_keep_6 : decode cX0_keep 6 = .ok (.iastore, 1) := by decide +kernel
theorem dX0_keep_7 : decode cX0_keep 7 = .ok (.aload_n 0, 1) := by decide +kernel
theorem dX0_keep_8 : decode cX0_keep 8 = .ok (.getfield 47, 3) := by decide +kernel
theorem dX0_keep_11 : decode cX0_keep 11 = .ok (.iconst 0, 1) := by decide +kernel
theorem dX0_keep_12 : decode cX0_keep 12 = .ok (.aload_n 1, 1) := by decide +kernel
theorem dX0_keep_13 : decode cX0_keep 13 = .ok (.iconst 1, 1) := by decide +kernel
theorem dX0_keep_14 : decode cX0_keep 14 = .ok (.iconst 3, 1) := by decide +kernel
theorem dX0_keep_15 : decode cX0_keep 15 = .ok (.invokestatic 66, 3) := by decide +kernel
theorem dX0_keep_18 : decode cX0_keep 18 = .ok (.aload_n 0, 1) := by decide +kernel
theorem dX0_keep_19 : decode cX0_keep 19 = .ok (.getfield 50, 3) := by decide +kernel
theorem dX0_keep_22 : decode cX0_keep 22 = .ok (.iconst 0, 1) := by decide +kernel
theorem dX0_keep_23 : decode cX0_keep 23 = .ok (.aload_n 1, 1) := by decide +kernel
theorem dX0_keep_24 : decode cX0_keep 24 = .ok (.iconst 4, 1) := by decide +kernel
theorem dX0_keep_25 : decode cX0_keep 25 = .ok (.iconst 5, 1) := by decide +kernel
theorem dX0_keep_26 : decode cX0_keep 26 = .ok (.invokestatic 66, 3) := by decide +kernel
theorem dX0_keep_29 : decode cX0_keep 29 = .ok (.aload_n 0, 1) := by decide +kernel
theorem dX0_keep_30 : decode cX0_keep 30 = .ok (.getfield 53, 3) := by decide +kernel
theorem dX0_keep_33 : decode cX0_keep 33 = .ok (.iconst 0, 1) := by decide +kernel
theorem dX0_keep_34 : decode cX0_keep 34 = .ok (.aload_n 1, 1) := by decide +kernel
theorem dX0_keep_35 : decode cX0_keep 35 = .ok (.bipush 9, 2) := by decide +kernel
theorem dX0_keep_37 : decode cX0_keep 37 = .ok (.iconst 5, 1) := by decide +kernel
theorem dX0_keep_38 : decode cX0_keep 38 = .ok (.invokestatic 66, 3) := by decide +kernel
theorem dX0_keep_41 : decode cX0_keep 41 = .ok (.aload_n 0, 1) := by decide +kernel
theorem dX0_keep_42 : decode cX0_keep 42 = .ok (.getfield 56, 3) := by decide +kernel
theorem dX0_keep_45 : decode cX0_keep 45 = .ok (.iconst 0, 1) := by decide +kernel
theorem dX0_keep_46 : decode cX0_keep 46 = .ok (.aload_n 1, 1) := by decide +kernel
theorem dX0_keep_47 : decode cX0_keep 47 = .ok (.bipush 14, 2) := by decide +kernel
theorem dX0_keep_49 : decode cX0_keep 49 = .ok (.iconst 5, 1) := by decide +kernel
theorem dX0_keep_50 : decode cX0_keep 50 = .ok (.invokestatic 66, 3) := by decide +kernel
theorem dX0_keep_53 : decode cX0_keep 53 = .ok (.return_, 1) := by decide +kernel
theorem dX0_bring_0 : decode cX0_bring 0 = .ok (.aload_n 0, 1) := by decide +kernel
theorem dX0_bring_1 : decode cX0_bring 1 = .ok (.aload_n 1, 1) := by decide +kernel
theorem dX0_bring_2 : decode cX0_bring 2 = .ok (.iconst 0, 1) := by decide +kernel
theorem dX0_bring_3 : decode cX0_bring 3 = .ok (.iaload, 1) := by decide +kernel
theorem dX0_bring_4 : decode cX0_bring 4 = .ok (.putfield 44, 3) := by decide +kernel
theorem dX0_bring_7 : decode cX0_bring 7 = .ok (.aload_n 1, 1) := by decide +kernel
theorem dX0_bring_8 : decode cX0_bring 8 = .ok (.iconst 1, 1) := by decide +kernel
theorem dX0_bring_9 : decode cX0_bring 9 = .ok (.aload_n 0, 1) := by decide +kernel
theorem dX0_bring_10 : decode cX0_bring 10 = .ok (.getfield 47, 3) := by decide +kernel
theorem dX0_bring_13 : decode cX0_bring 13 = .ok (.iconst 0, 1) := by decide +kernel
theorem dX0_bring_14 : decode cX0_bring 14 = .ok (.iconst 3, 1) := by decide +kernel
theorem dX0_bring_15 : decode cX0_bring 15 = .ok (.invokestatic 66, 3) := by decide +kernel
theorem dX0_bring_18 : decode cX0_bring 18 = .ok (.aload_n 1, 1) := by decide +kernel
theorem dX0_bring_19 : decode cX0_bring 19 = .ok (.iconst 4, 1) := by decide +kernel
theorem dX0_bring_20 : decode cX0_bring 20 = .ok (.aload_n 0, 1) := by decide +kernel
theorem dX0_bring_21 : decode cX0_bring 21 = .ok (.getfield 50, 3) := by decide +kernel
theorem dX0_bring_24 : decode cX0_bring 24 = .ok (.iconst 0, 1) := by decide +kernel
theorem dX0_bring_25 : decode cX0_bring 25 = .ok (.iconst 5, 1) := by decide +kernel
theorem dX0_bring_26 : decode cX0_bring 26 = .ok (.invokestatic 66, 3) := by decide +kernel
theorem dX0_bring_29 : decode cX0_bring 29 = .ok (.aload_n 1, 1) := by decide +kernel
theorem dX0_bring_30 : decode cX0_bring 30 = .ok (.bipush 9, 2) := by decide +kernel
theorem dX0_bring_32 : decode cX0_bring 32 = .ok (.aload_n 0, 1) := by decide +kernel
theorem dX0_bring_33 : decode cX0_bring 33 = .ok (.getfield 53, 3) := by decide +kernel
theorem dX0_bring_36 : decode cX0_bring 36 = .ok (.iconst 0, 1) := by decide +kernel
theorem dX0_bring_37 : decode cX0_bring 37 = .ok (.iconst 5, 1) := by decide +kernel
theorem dX0_bring_38 : decode cX0_bring 38 = .ok (.invokestatic 66, 3) := by decide +kernel
theorem dX0_bring_41 : decode cX0_bring 41 = .ok (.aload_n 1, 1) := by decide +kernel
theorem dX0_bring_42 : decode cX0_bring 42 = .ok (.bipush 14, 2) := by decide +kernel
theorem dX0_bring_44 : decode cX0_bring 44 = .ok (.aload_n 0, 1) := by decide +kernel
theorem dX0_bring_45 : decode cX0_bring 45 = .ok (.getfield 56, 3) := by decide +kernel
theorem dX0_bring_48 : decode cX0_bring 48 = .ok (.iconst 0, 1) := by decide +kernel
theorem dX0_bring_49 : decode cX0_bring 49 = .ok (.iconst 5, 1) := by decide +kernel
theorem dX0_bring_50 : decode cX0_bring 50 = .ok (.invokestatic 66, 3) := by decide +kernel
theorem dX0_bring_53 : decode cX0_bring 53 = .ok (.return_, 1) := by decide +kernel
theorem dX0_can_0 : decode cX0_can 0 = .ok (.iload_n 2, 1) := by decide +kernel
theorem dX0_can_1 : decode cX0_can 1 = .ok (.bipush 7, 2) := by decide +kernel
theorem dX0_can_3 : decode cX0_can 3 = .ok (.if_icmp .eq 38, 3) := by decide +kernel
theorem dX0_can_6 : decode cX0_can 6 = .ok (.iload_n 2, 1) := by decide +kernel
theorem dX0_can_7 : decode cX0_can 7 = .ok (.aload_n 0, 1) := by decide +kernel
theorem dX0_can_8 : decode cX0_can 8 = .ok (.getfield 22, 3) := by decide +kernel
theorem dX0_can_11 : decode cX0_can 11 = .ok (.iload_n 1, 1) := by decide +kernel
theorem dX0_can_12 : decode cX0_can 12 = .ok (.iaload, 1) := by decide +kernel
theorem dX0_can_13 : decode cX0_can 13 = .ok (.if_icmp .lt 32, 3) := by decide +kernel
theorem dX0_can_16 : decode cX0_can 16 = .ok (.iload_n 2, 1) := by decide +kernel
theorem dX0_can_17 : decode cX0_can 17 = .ok (.aload_n 0, 1) := by decide +kernel
theorem dX0_can_18 : decode cX0_can 18 = .ok (.getfield 26, 3) := by decide +kernel
theorem dX0_can_21 : decode cX0_can 21 = .ok (.iload_n 1, 1) := by decide +kernel
theorem dX0_can_22 : decode cX0_can 22 = .ok (.iaload, 1) := by decide +kernel
theorem dX0_can_23 : decode cX0_can 23 = .ok (.if_icmp .gt 22, 3) := by decide +kernel
theorem dX0_can_26 : decode cX0_can 26 = .ok (.aload_n 0, 1) := by decide +kernel
theorem dX0_can_27 : decode cX0_can 27 = .ok (.getfield 47, 3) := by decide +kernel
theorem dX0_can_30 : decode cX0_can 30 = .ok (.iload_n 1, 1) := by decide +kernel
theorem dX0_can_31 : decode cX0_can 31 = .ok (.iaload, 1) := by decide +kernel
theorem dX0_can_32 : decode cX0_can 32 = .ok (.aload_n 0, 1) := by decide +kernel
theorem dX0_can_33 : decode cX0_can 33 = .ok (.getfield 29, 3) := by decide +kernel
theorem dX0_can_36 : decode cX0_can 36 = .ok (.iload_n 1, 1) := by decide +kernel
theorem dX0_can_37 : decode cX0_can 37 = .ok (.iaload, 1) := by decide +kernel
theorem dX0_can_38 : decode cX0_can 38 = .ok (.if_icmp .ge 7, 3) := by decide +kernel
theorem dX0_can_41 : decode cX0_can 41 = .ok (.iconst 1, 1) := by decide +kernel
theorem dX0_can_42 : decode cX0_can 42 = .ok (.goto 4, 3) := by decide +kernel
theorem dX0_can_45 : decode cX0_can 45 = .ok (.iconst 0, 1) := by decide +kernel
theorem dX0_can_46 : decode cX0_can 46 = .ok (.ireturn, 1) := by decide +kernel
theorem dX0_isSet_0 : decode cX0_isSet 0 = .ok (.aload_n 0, 1) := by decide +kernel
theorem dX0_isSet_1 : decode cX0_isSet 1 = .ok (.getfield 53, 3) := by decide +kernel
theorem dX0_isSet_4 : decode cX0_isSet 4 = .ok (.iload_n 1, 1) := by decide +kernel
theorem dX0_isSet_5 : decode cX0_isSet 5 = .ok (.iaload, 1) := by decide +kernel
theorem dX0_isSet_6 : decode cX0_isSet 6 = .ok (.aload_n 0, 1) := by decide +kernel
theorem dX0_isSet_7 : decode cX0_isSet 7 = .ok (.getfield 41, 3) := by decide +kernel
theorem dX0_isSet_10 : decode cX0_isSet 10 = .ok (.iload_n 1, 1) := by decide +kernel
theorem dX0_isSet_11 : decode cX0_isSet 11 = .ok (.iaload, 1) := by decide +kernel
theorem dX0_isSet_12 : decode cX0_isSet 12 = .ok (.if_icmp .lt 7, 3) := by decide +kernel
theorem dX0_isSet_15 : decode cX0_isSet 15 = .ok (.iconst 1, 1) := by decide +kernel
theorem dX0_isSet_16 : decode cX0_isSet 16 = .ok (.goto 4, 3) := by decide +kernel
theorem dX0_isSet_19 : decode cX0_isSet 19 = .ok (.iconst 0, 1) := by decide +kernel
theorem dX0_isSet_20 : decode cX0_isSet 20 = .ok (.ireturn, 1) := by decide +kernel
theorem dX0_setPans_0 : decode cX0_setPans 0 = .ok (.iconst 0, 1) := by decide +kernel
theorem dX0_setPans_1 : decode cX0_setPans 1 = .ok (.istore_n 1, 1) := by decide +kernel
theorem dX0_setPans_2 : decode cX0_setPans 2 = .ok (.iconst 0, 1) := by decide +kernel
theorem dX0_setPans_3 : decode cX0_setPans 3 = .ok (.istore_n 2, 1) := by decide +kernel
theorem dX0_setPans_4 : decode cX0_setPans 4 = .ok (.iload_n 2, 1) := by decide +kernel
theorem dX0_setPans_5 : decode cX0_setPans 5 = .ok (.aload_n 0, 1) := by decide +kernel
theorem dX0_setPans_6 : decode cX0_setPans 6 = .ok (.getfield 32, 3) := by decide +kernel
theorem dX0_setPans_9 : decode cX0_setPans 9 = .ok (.if_icmp .ge 27, 3) := by decide +kernel
theorem dX0_setPans_12 : decode cX0_setPans 12 = .ok (.iload_n 1, 1) := by decide +kernel
theorem dX0_setPans_13 : decode cX0_setPans 13 = .ok (.aload_n 0, 1) := by decide +kernel
theorem dX0_setPans_14 : decode cX0_setPans 14 = .ok (.iload_n 2, 1) := by decide +kernel
theorem dX0_setPans_15 : decode cX0_setPans 15 = .ok (.invokevirtual 72, 3) := by decide +kernel
theorem dX0_setPans_18 : decode cX0_setPans 18 = .ok (.ifCond .eq 9, 3) := by decide +kernel
theorem dX0_setPans_21 : decode cX0_setPans 21 = .ok (.iconst 1, 1) := by decide +kernel
theorem dX0_setPans_22 : decode cX0_setPans 22 = .ok (.iload_n 2, 1) := by decide +kernel
theorem dX0_setPans_23 : decode cX0_setPans 23 = .ok (.ishl, 1) := by decide +kernel
theorem dX0_setPans_24 : decode cX0_setPans 24 = .ok (.goto 4, 3) := by decide +kernel
theorem dX0_setPans_27 : decode cX0_setPans 27 = .ok (.iconst 0, 1) := by decide +kernel
theorem dX0_setPans_28 : decode cX0_setPans 28 = .ok (.ior, 1) := by decide +kernel
theorem dX0_setPans_29 : decode cX0_setPans 29 = .ok (.istore_n 1, 1) := by decide +kernel
theorem dX0_setPans_30 : decode cX0_setPans 30 = .ok (.iinc 2 1, 3) := by decide +kernel
theorem dX0_setPans_33 : decode cX0_setPans 33 = .ok (.goto (-29), 3) := by decide +kernel
theorem dX0_setPans_36 : decode cX0_setPans 36 = .ok (.iload_n 1, 1) := by decide +kernel
theorem dX0_setPans_37 : decode cX0_setPans 37 = .ok (.ireturn, 1) := by decide +kernel
theorem dX0_tryBar_0 : decode cX0_tryBar 0 = .ok (.iconst 0, 1) := by decide +kernel
theorem dX0_tryBar_1 : decode cX0_tryBar 1 = .ok (.istore_n 2, 1) := by decide +kernel
theorem dX0_tryBar_2 : decode cX0_tryBar 2 = .ok (.iload_n 2, 1) := by decide +kernel
theorem dX0_tryBar_3 : decode cX0_tryBar 3 = .ok (.aload_n 0, 1) := by decide +kernel
theorem dX0_tryBar_4 : decode cX0_tryBar 4 = .ok (.getfield 19, 3) := by decide +kernel
theorem dX0_tryBar_7 : decode cX0_tryBar 7 = .ok (.if_icmp .ge 25, 3) := by decide +kernel
theorem dX0_tryBar_10 : decode cX0_tryBar 10 = .ok (.aload_n 0, 1) := by decide +kernel
theorem dX0_tryBar_11 : decode cX0_tryBar 11 = .ok (.iload_n 2, 1) := by decide +kernel
theorem dX0_tryBar_12 : decode cX0_tryBar 12 = .ok (.aload_n 1, 1) := by decide +kernel
theorem dX0_tryBar_13 : decode cX0_tryBar 13 = .ok (.iload_n 2, 1) := by decide +kernel
theorem dX0_tryBar_14 : decode cX0_tryBar 14 = .ok (.iaload, 1) := by decide +kernel
theorem dX0_tryBar_15 : decode cX0_tryBar 15 = .ok (.invokevirtual 76, 3) := by decide +kernel
theorem dX0_tryBar_18 : decode cX0_tryBar 18 = .ok (.ifCond .ne 8, 3) := by decide +kernel
theorem dX0_tryBar_21 : decode cX0_tryBar 21 = .ok (.aload_n 1, 1) := by decide +kernel
theorem dX0_tryBar_22 : decode cX0_tryBar 22 = .ok (.iload_n 2, 1) := by decide +kernel
theorem dX0_tryBar_23 : decode cX0_tryBar 23 = .ok (.bipush 7, 2) := by decide +kernel
theorem dX0_tryBar_25 : decode cX0_tryBar 25 = .ok (.iastore, 1) := by decide +kernel
theorem dX0_tryBar_26 : decode cX0_tryBar 26 = .ok (.iinc 2 1, 3) := by decide +kernel
theorem dX0_tryBar_29 : decode cX0_tryBar 29 = .ok (.goto (-27), 3) := by decide +kernel
theorem dX0_tryBar_32 : decode cX0_tryBar 32 = .ok (.aload_n 0, 1) := by decide +kernel
theorem dX0_tryBar_33 : decode cX0_tryBar 33 = .ok (.aload_n 1, 1) := by decide +kernel
theorem dX0_tryBar_34 : decode cX0_tryBar 34 = .ok (.invokevirtual 80, 3) := by decide +kernel
theorem dX0_tryBar_37 : decode cX0_tryBar 37 = .ok (.return_, 1) := by decide +kernel
theorem dX0_singBar_0 : decode cX0_singBar 0 = .ok (.iconst 0, 1) := by decide +kernel
theorem dX0_singBar_1 : decode cX0_singBar 1 = .ok (.istore_n 2, 1) := by decide +kernel
theorem dX0_singBar_2 : decode cX0_singBar 2 = .ok (.iload_n 2, 1) := by decide +kernel
theorem dX0_singBar_3 : decode cX0_singBar 3 = .ok (.aload_n 0, 1) := by decide +kernel
theorem dX0_singBar_4 : decode cX0_singBar 4 = .ok (.getfield 32, 3) := by decide +kernel
theorem dX0_singBar_7 : decode cX0_singBar 7 = .ok (.if_icmp .ge 23, 3) := by decide +kernel
theorem dX0_singBar_10 : decode cX0_singBar 10 = .ok (.aload_n 0, 1) := by decide +kernel
theorem dX0_singBar_11 : decode cX0_singBar 11 = .ok (.iload_n 2, 1) := by decide +kernel
theorem dX0_singBar_12 : decode cX0_singBar 12 = .ok (.invokevirtual 72, 3) := by decide +kernel
theorem dX0_singBar_15 : decode cX0_singBar 15 = .ok (.ifCond .ne 9, 3) := by decide +kernel
theorem dX0_singBar_18 : decode cX0_singBar 18 = .ok (.aload_n 0, 1) := by decide +kernel
theorem dX0_singBar_19 : decode cX0_singBar 19 = .ok (.iload_n 2, 1) := by decide +kernel
theorem dX0_singBar_20 : decode cX0_singBar 20 = .ok (.aload_n 1, 1) := by decide +kernel
theorem dX0_singBar_21 : decode cX0_singBar 21 = .ok (.invokevirtual 84, 3) := by decide +kernel
theorem dX0_singBar_24 : decode cX0_singBar 24 = .ok (.iinc 2 1, 3) := by decide +kernel
theorem dX0_singBar_27 : decode cX0_singBar 27 = .ok (.goto (-25), 3) := by decide +kernel
theorem dX0_singBar_30 : decode cX0_singBar 30 = .ok (.iconst 0, 1) := by decide +kernel
theorem dX0_singBar_31 : decode cX0_singBar 31 = .ok (.istore_n 2, 1) := by decide +kernel
theorem dX0_singBar_32 : decode cX0_singBar 32 = .ok (.iload_n 2, 1) := by decide +kernel
theorem dX0_singBar_33 : decode cX0_singBar 33 = .ok (.aload_n 0, 1) := by decide +kernel
theorem dX0_singBar_34 : decode cX0_singBar 34 = .ok (.getfield 19, 3) := by decide +kernel
theorem dX0_singBar_37 : decode cX0_singBar 37 = .ok (.if_icmp .ge 35, 3) := by decide +kernel
theorem dX0_singBar_40 : decode cX0_singBar 40 = .ok (.aload_n 0, 1) := by decide +kernel
theorem dX0_singBar_41 : decode cX0_singBar 41 = .ok (.getfield 47, 3) := by decide +kernel
theorem dX0_singBar_44 : decode cX0_singBar 44 = .ok (.iload_n 2, 1) := by decide +kernel
theorem dX0_singBar_45 : decode cX0_singBar 45 = .ok (.aload_n 1, 1) := by decide +kernel
theorem dX0_singBar_46 : decode cX0_singBar 46 = .ok (.iload_n 2, 1) := by decide +kernel
theorem dX0_singBar_47 : decode cX0_singBar 47 = .ok (.iaload, 1) := by decide +kernel
theorem dX0_singBar_48 : decode cX0_singBar 48 = .ok (.bipush 7, 2) := by decide +kernel
theorem dX0_singBar_50 : decode cX0_singBar 50 = .ok (.if_icmp .ne 7, 3) := by decide +kernel
theorem dX0_singBar_53 : decode cX0_singBar 53 = .ok (.iconst 0, 1) := by decide +kernel
theorem dX0_singBar_54 : decode cX0_singBar 54 = .ok (.goto 11, 3) := by decide +kernel
theorem dX0_singBar_57 : decode cX0_singBar 57 = .ok (.aload_n 0, 1) := by decide +kernel
theorem dX0_singBar_58 : decode cX0_singBar 58 = .ok (.getfield 47, 3) := by decide +kernel
theorem dX0_singBar_61 : decode cX0_singBar 61 = .ok (.iload_n 2, 1) := by decide +kernel
theorem dX0_singBar_62 : decode cX0_singBar 62 = .ok (.iaload, 1) := by decide +kernel
theorem dX0_singBar_63 : decode cX0_singBar 63 = .ok (.iconst 1, 1) := by decide +kernel
theorem dX0_singBar_64 : decode cX0_singBar 64 = .ok (.iadd, 1) := by decide +kernel
theorem dX0_singBar_65 : decode cX0_singBar 65 = .ok (.iastore, 1) := by decide +kernel
theorem dX0_singBar_66 : decode cX0_singBar 66 = .ok (.iinc 2 1, 3) := by decide +kernel
theorem dX0_singBar_69 : decode cX0_singBar 69 = .ok (.goto (-37), 3) := by decide +kernel
theorem dX0_singBar_72 : decode cX0_singBar 72 = .ok (.aload_n 0, 1) := by decide +kernel
theorem dX0_singBar_73 : decode cX0_singBar 73 = .ok (.dup, 1) := by decide +kernel
theorem dX0_singBar_74 : decode cX0_singBar 74 = .ok (.getfield 44, 3) := by decide +kernel
theorem dX0_singBar_77 : decode cX0_singBar 77 = .ok (.iconst 1, 1) := by decide +kernel
theorem dX0_singBar_78 : decode cX0_singBar 78 = .ok (.iadd, 1) := by decide +kernel
theorem dX0_singBar_79 : decode cX0_singBar 79 = .ok (.putfield 44, 3) := by decide +kernel
theorem dX0_singBar_82 : decode cX0_singBar 82 = .ok (.return_, 1) := by decide +kernel
theorem dX0_hear_0 : decode cX0_hear 0 = .ok (.iconst 0, 1) := by decide +kernel
theorem dX0_hear_1 : decode cX0_hear 1 = .ok (.istore_n 3, 1) := by decide +kernel
theorem dX0_hear_2 : decode cX0_hear 2 = .ok (.iconst 0, 1) := by decide +kernel
theorem dX0_hear_3 : decode cX0_hear 3 = .ok (.istore 4, 2) := by decide +kernel
theorem dX0_hear_5 : decode cX0_hear 5 = .ok (.iload 4, 2) := by decide +kernel
theorem dX0_hear_7 : decode cX0_hear 7 = .ok (.aload_n 0, 1) := by decide +kernel
theorem dX0_hear_8 : decode cX0_hear 8 = .ok (.getfield 19, 3) := by decide +kernel
theorem dX0_hear_11 : decode cX0_hear 11 = .ok (.if_icmp .ge 42, 3) := by decide +kernel
theorem dX0_hear_14 : decode cX0_hear 14 = .ok (.aload_n 2, 1) := by decide +kernel
theorem dX0_hear_15 : decode cX0_hear 15 = .ok (.iload 4, 2) := by decide +kernel
theorem dX0_hear_17 : decode cX0_hear 17 = .ok (.iaload, 1) := by decide +kernel
theorem dX0_hear_18 : decode cX0_hear 18 = .ok (.bipush 7, 2) := by decide +kernel
theorem dX0_hear_20 : decode cX0_hear 20 = .ok (.if_icmp .eq 27, 3) := by decide +kernel
theorem dX0_hear_23 : decode cX0_hear 23 = .ok (.aload_n 0, 1) := by decide +kernel
theorem dX0_hear_24 : decode cX0_hear 24 = .ok (.getfield 50, 3) := by decide +kernel
theorem dX0_hear_27 : decode cX0_hear 27 = .ok (.iload_n 1, 1) := by decide +kernel
theorem dX0_hear_28 : decode cX0_hear 28 = .ok (.iaload, 1) := by decide +kernel
theorem dX0_hear_29 : decode cX0_hear 29 = .ok (.iload 4, 2) := by decide +kernel
theorem dX0_hear_31 : decode cX0_hear 31 = .ok (.ishr, 1) := by decide +kernel
theorem dX0_hear_32 : decode cX0_hear 32 = .ok (.iconst 1, 1) := by decide +kernel
theorem dX0_hear_33 : decode cX0_hear 33 = .ok (.iand, 1) := by decide +kernel
theorem dX0_hear_34 : decode cX0_hear 34 = .ok (.iconst 1, 1) := by decide +kernel
theorem dX0_hear_35 : decode cX0_hear 35 = .ok (.if_icmp .ne 12, 3) := by decide +kernel
theorem dX0_hear_38 : decode cX0_hear 38 = .ok (.iload_n 3, 1) := by decide +kernel
theorem dX0_hear_39 : decode cX0_hear 39 = .ok (.iconst 1, 1) := by decide +kernel
theorem dX0_hear_40 : decode cX0_hear 40 = .ok (.aload_n 2, 1) := by decide +kernel
theorem dX0_hear_41 : decode cX0_hear 41 = .ok (.iload 4, 2) := by decide +kernel
theorem dX0_hear_43 : decode cX0_hear 43 = .ok (.iaload, 1) := by decide +kernel
theorem dX0_hear_44 : decode cX0_hear 44 = .ok (.ishl, 1) := by decide +kernel
theorem dX0_hear_45 : decode cX0_hear 45 = .ok (.ior, 1) := by decide +kernel
theorem dX0_hear_46 : decode cX0_hear 46 = .ok (.istore_n 3, 1) := by decide +kernel
theorem dX0_hear_47 : decode cX0_hear 47 = .ok (.iinc 4 1, 3) := by decide +kernel
theorem dX0_hear_50 : decode cX0_hear 50 = .ok (.goto (-45), 3) := by decide +kernel
theorem dX0_hear_53 : decode cX0_hear 53 = .ok (.iload_n 3, 1) := by decide +kernel
theorem dX0_hear_54 : decode cX0_hear 54 = .ok (.ifCond .ne 8, 3) := by decide +kernel
theorem dX0_hear_57 : decode cX0_hear 57 = .ok (.ldc 65, 2) := by decide +kernel
theorem dX0_hear_59 : decode cX0_hear 59 = .ok (.goto 7, 3) := by decide +kernel
theorem dX0_hear_62 : decode cX0_hear 62 = .ok (.iload_n 3, 1) := by decide +kernel
theorem dX0_hear_63 : decode cX0_hear 63 = .ok (.invokestatic 88, 3) := by decide +kernel
theorem dX0_hear_66 : decode cX0_hear 66 = .ok (.istore 4, 2) := by decide +kernel
theorem dX0_hear_68 : decode cX0_hear 68 = .ok (.aload_n 0, 1) := by decide +kernel
theorem dX0_hear_69 : decode cX0_hear 69 = .ok (.getfield 53, 3) := by decide +kernel
theorem dX0_hear_72 : decode cX0_hear 72 = .ok (.iload_n 1, 1) := by decide +kernel
theorem dX0_hear_73 : decode cX0_hear 73 = .ok (.aload_n 0, 1) := by decide +kernel
theorem dX0_hear_74 : decode cX0_hear 74 = .ok (.iload_n 1, 1) := by decide +kernel
theorem dX0_hear_75 : decode cX0_hear 75 = .ok (.aload_n 0, 1) := by decide +kernel
theorem dX0_hear_76 : decode cX0_hear 76 = .ok (.iload_n 1, 1) := by decide +kernel
theorem dX0_hear_77 : decode cX0_hear 77 = .ok (.iload_n 3, 1) := by decide +kernel
theorem dX0_hear_78 : decode cX0_hear 78 = .ok (.iload 4, 2) := by decide +kernel
theorem dX0_hear_80 : decode cX0_hear 80 = .ok (.invokevirtual 94, 3) := by decide +kernel
theorem dX0_hear_83 : decode cX0_hear 83 = .ok (.invokevirtual 98, 3) := by decide +kernel
theorem dX0_hear_86 : decode cX0_hear 86 = .ok (.iastore, 1) := by decide +kernel
theorem dX0_hear_87 : decode cX0_hear 87 = .ok (.aload_n 0, 1) := by decide +kernel
theorem dX0_hear_88 : decode cX0_hear 88 = .ok (.getfield 56, 3) := by decide +kernel
theorem dX0_hear_91 : decode cX0_hear 91 = .ok (.iload_n 1, 1) := by decide +kernel
theorem dX0_hear_92 : decode cX0_hear 92 = .ok (.aload_n 0, 1) := by decide +kernel
theorem dX0_hear_93 : decode cX0_hear 93 = .ok (.iload_n 1, 1) := by decide +kernel
theorem dX0_hear_94 : decode cX0_hear 94 = .ok (.invokevirtual 72, 3) := by decide +kernel
theorem dX0_hear_97 : decode cX0_hear 97 = .ok (.ifCond .eq 8, 3) := by decide +kernel
theorem dX0_hear_100 : decode cX0_hear 100 = .ok (.ldc 65, 2) := by decide +kernel
theorem dX0_hear_102 : decode cX0_hear 102 = .ok (.goto 5, 3) := by decide +kernel
theorem dX0_hear_105 : decode cX0_hear 105 = .ok (.iload 4, 2) := by decide +kernel
theorem dX0_hear_107 : decode cX0_hear 107 = .ok (.iastore, 1) := by decide +kernel
theorem dX0_hear_108 : decode cX0_hear 108 = .ok (.return_, 1) := by decide +kernel
theorem dX0_judge_0 : decode cX0_judge 0 = .ok (.iload_n 2, 1) := by decide +kernel
theorem dX0_judge_1 : decode cX0_judge 1 = .ok (.ifCond .ne 5, 3) := by decide +kernel
theorem dX0_judge_4 : decode cX0_judge 4 = .ok (.iconst 0, 1) := by decide +kernel
theorem dX0_judge_5 : decode cX0_judge 5 = .ok (.ireturn, 1) := by decide +kernel
theorem dX0_judge_6 : decode cX0_judge 6 = .ok (.iload_n 2, 1) := by decide +kernel
theorem dX0_judge_7 : decode cX0_judge 7 = .ok (.aload_n 0, 1) := by decide +kernel
theorem dX0_judge_8 : decode cX0_judge 8 = .ok (.getfield 38, 3) := by decide +kernel
theorem dX0_judge_11 : decode cX0_judge 11 = .ok (.iload_n 1, 1) := by decide +kernel
theorem dX0_judge_12 : decode cX0_judge 12 = .ok (.iaload, 1) := by decide +kernel
theorem dX0_judge_13 : decode cX0_judge 13 = .ok (.iconst (-1), 1) := by decide +kernel
theorem dX0_judge_14 : decode cX0_judge 14 = .ok (.ixor, 1) := by decide +kernel
theorem dX0_judge_15 : decode cX0_judge 15 = .ok (.iand, 1) := by decide +kernel
theorem dX0_judge_16 : decode cX0_judge 16 = .ok (.ifCond .eq 5, 3) := by decide +kernel
theorem dX0_judge_19 : decode cX0_judge 19 = .ok (.iconst 2, 1) := by decide +kernel
theorem dX0_judge_20 : decode cX0_judge 20 = .ok (.ireturn, 1) := by decide +kernel
theorem dX0_judge_21 : decode cX0_judge 21 = .ok (.iload_n 3, 1) := by decide +kernel
theorem dX0_judge_22 : decode cX0_judge 22 = .ok (.aload_n 0, 1) := by decide +kernel
theorem dX0_judge_23 : decode cX0_judge 23 = .ok (.getfield 56, 3) := by decide +kernel
theorem dX0_judge_26 : decode cX0_judge 26 = .ok (.iload_n 1, 1) := by decide +kernel
theorem dX0_judge_27 : decode cX0_judge 27 = .ok (.iaload, 1) := by decide +kernel
theorem dX0_judge_28 : decode cX0_judge 28 = .ok (.isub, 1) := by decide +kernel
theorem dX0_judge_29 : decode cX0_judge 29 = .ok (.invokestatic 102, 3) := by decide +kernel
theorem dX0_judge_32 : decode cX0_judge 32 = .ok (.iconst 2, 1) := by decide +kernel
theorem dX0_judge_33 : decode cX0_judge 33 = .ok (.if_icmp .ne 7, 3) := by decide +kernel
theorem dX0_judge_36 : decode cX0_judge 36 = .ok (.iconst 1, 1) := by decide +kernel
theorem dX0_judge_37 : decode cX0_judge 37 = .ok (.goto 4, 3) := by decide +kernel
theorem dX0_judge_40 : decode cX0_judge 40 = .ok (.iconst 0, 1) := by decide +kernel
theorem dX0_judge_41 : decode cX0_judge 41 = .ok (.istore 4, 2) := by decide +kernel
theorem dX0_judge_43 : decode cX0_judge 43 = .ok (.aload_n 0, 1) := by decide +kernel
theorem dX0_judge_44 : decode cX0_judge 44 = .ok (.getfield 35, 3) := by decide +kernel
theorem dX0_judge_47 : decode cX0_judge 47 = .ok (.iload_n 1, 1) := by decide +kernel
theorem dX0_judge_48 : decode cX0_judge 48 = .ok (.iaload, 1) := by decide +kernel
theorem dX0_judge_49 : decode cX0_judge 49 = .ok (.iconst 3, 1) := by decide +kernel
theorem dX0_judge_50 : decode cX0_judge 50 = .ok (.if_icmp .ne 8, 3) := by decide +kernel
theorem dX0_judge_53 : decode cX0_judge 53 = .ok (.iload 4, 2) := by decide +kernel
theorem dX0_judge_55 : decode cX0_judge 55 = .ok (.ifCond .eq 7, 3) := by decide +kernel
theorem dX0_judge_58 : decode cX0_judge 58 = .ok (.iconst 1, 1) := by decide +kernel
theorem dX0_judge_59 : decode cX0_judge 59 = .ok (.goto 4, 3) := by decide +kernel
theorem dX0_judge_62 : decode cX0_judge 62 = .ok (.iconst 2, 1) := by decide +kernel
theorem dX0_judge_63 : decode cX0_judge 63 = .ok (.ireturn, 1) := by decide +kernel
theorem dX0_thickBy_0 : decode cX0_thickBy 0 = .ok (.aload_n 0, 1) := by decide +kernel
theorem dX0_thickBy_1 : decode cX0_thickBy 1 = .ok (.getfield 35, 3) := by decide +kernel
theorem dX0_thickBy_4 : decode cX0_thickBy 4 = .ok (.iload_n 1, 1) := by decide +kernel
theorem dX0_thickBy_5 : decode cX0_thickBy 5 = .ok (.iaload, 1) := by decide +kernel
theorem dX0_thickBy_6 : decode cX0_thickBy 6 = .ok (.iconst 4, 1) := by decide +kernel
theorem dX0_thickBy_7 : decode cX0_thickBy 7 = .ok (.if_icmp .ne 10, 3) := by decide +kernel
theorem dX0_thickBy_10 : decode cX0_thickBy 10 = .ok (.aload_n 0, 1) := by decide +kernel
theorem dX0_thickBy_11 : decode cX0_thickBy 11 = .ok (.getfield 53, 3) := by decide +kernel
theorem dX0_thickBy_14 : decode cX0_thickBy 14 = .ok (.iload_n 1, 1) := by decide +kernel
theorem dX0_thickBy_15 : decode cX0_thickBy 15 = .ok (.iaload, 1) := by decide +kernel
theorem dX0_thickBy_16 : decode cX0_thickBy 16 = .ok (.ireturn, 1) := by decide +kernel
theorem dX0_thickBy_17 : decode cX0_thickBy 17 = .ok (.aload_n 0, 1) := by decide +kernel
theorem dX0_thickBy_18 : decode cX0_thickBy 18 = .ok (.getfield 35, 3) := by decide +kernel
theorem dX0_thickBy_21 : decode cX0_thickBy 21 = .ok (.iload_n 1, 1) := by decide +kernel
theorem dX0_thickBy_22 : decode cX0_thickBy 22 = .ok (.iaload, 1) := by decide +kernel
theorem dX0_thickBy_23 : decode cX0_thickBy 23 = .ok (.iconst 5, 1) := by decide +kernel
theorem dX0_thickBy_24 : decode cX0_thickBy 24 = .ok (.if_icmp .ne 20, 3) := by decide +kernel
theorem dX0_thickBy_27 : decode cX0_thickBy 27 = .ok (.iload_n 2, 1) := by decide +kernel
theorem dX0_thickBy_28 : decode cX0_thickBy 28 = .ok (.ifCond .ne 14, 3) := by decide +kernel
theorem dX0_thickBy_31 : decode cX0_thickBy 31 = .ok (.aload_n 0, 1) := by decide +kernel
theorem dX0_thickBy_32 : decode cX0_thickBy 32 = .ok (.getfield 53, 3) := by decide +kernel
theorem dX0_thickBy_35 : decode cX0_thickBy 35 = .ok (.iload_n 1, 1) := by decide +kernel
theorem dX0_thickBy_36 : decode cX0_thickBy 36 = .ok (.iaload, 1) := by decide +kernel
theorem dX0_thickBy_37 : decode cX0_thickBy 37 = .ok (.iconst 1, 1) := by decide +kernel
theorem dX0_thickBy_38 : decode cX0_thickBy 38 = .ok (.iadd, 1) := by decide +kernel
theorem dX0_thickBy_39 : decode cX0_thickBy 39 = .ok (.goto 4, 3) := by decide +kernel
theorem dX0_thickBy_42 : decode cX0_thickBy 42 = .ok (.iconst 0, 1) := by decide +kernel
theorem dX0_thickBy_43 : decode cX0_thickBy 43 = .ok (.ireturn, 1) := by decide +kernel
theorem dX0_thickBy_44 : decode cX0_thickBy 44 = .ok (.iload_n 2, 1) := by decide +kernel
theorem dX0_thickBy_45 : decode cX0_thickBy 45 = .ok (.iconst 2, 1) := by decide +kernel
theorem dX0_thickBy_46 : decode cX0_thickBy 46 = .ok (.if_icmp .ne 33, 3) := by decide +kernel
theorem dX0_thickBy_49 : decode cX0_thickBy 49 = .ok (.aload_n 0, 1) := by decide +kernel
theorem dX0_thickBy_50 : decode cX0_thickBy 50 = .ok (.getfield 35, 3) := by decide +kernel
theorem dX0_thickBy_53 : decode cX0_thickBy 53 = .ok (.iload_n 1, 1) := by decide +kernel
theorem dX0_thickBy_54 : decode cX0_thickBy 54 = .ok (.iaload, 1) := by decide +kernel
theorem dX0_thickBy_55 : decode cX0_thickBy 55 = .ok (.iconst 2, 1) := by decide +kernel
theorem dX0_thickBy_56 : decode cX0_thickBy 56 = .ok (.if_icmp .ne 7, 3) := by decide +kernel
theorem dX0_thickBy_59 : decode cX0_thickBy 59 = .ok (.iconst 0, 1) := by decide +kernel
theorem dX0_thickBy_60 : decode cX0_thickBy 60 = .ok (.goto 18, 3) := by decide +kernel
theorem dX0_thickBy_63 : decode cX0_thickBy 63 = .ok (.aload_n 0, 1) := by decide +kernel
theorem dX0_thickBy_64 : decode cX0_thickBy 64 = .ok (.getfield 53, 3) := by decide +kernel
theorem dX0_thickBy_67 : decode cX0_thickBy 67 = .ok (.iload_n 1, 1) := by decide +kernel
theorem dX0_thickBy_68 : decode cX0_thickBy 68 = .ok (.iaload, 1) := by decide +kernel
theorem dX0_thickBy_69 : decode cX0_thickBy 69 = .ok (.aload_n 0, 1) := by decide +kernel
theorem dX0_thickBy_70 : decode cX0_thickBy 70 = .ok (.getfield 15, 3) := by decide +kernel
theorem dX0_thickBy_73 : decode cX0_thickBy 73 = .ok (.isub, 1) := by decide +kernel
theorem dX0_thickBy_74 : decode cX0_thickBy 74 = .ok (.iconst 0, 1) := by decide +kernel
theorem dX0_thickBy_75 : decode cX0_thickBy 75 = .ok (.invokestatic 107, 3) := by decide +kernel
theorem dX0_thickBy_78 : decode cX0_thickBy 78 = .ok (.ireturn, 1) := by decide +kernel
theorem dX0_thickBy_79 : decode cX0_thickBy 79 = .ok (.iload_n 2, 1) := by decide +kernel
theorem dX0_thickBy_80 : decode cX0_thickBy 80 = .ok (.iconst 1, 1) := by decide +kernel
theorem dX0_thickBy_81 : decode cX0_thickBy 81 = .ok (.if_icmp .ne 14, 3) := by decide +kernel
theorem dX0_thickBy_84 : decode cX0_thickBy 84 = .ok (.aload_n 0, 1) := by decide +kernel
theorem dX0_thickBy_85 : decode cX0_thickBy 85 = .ok (.getfield 53, 3) := by decide +kernel
theorem dX0_thickBy_88 : decode cX0_thickBy 88 = .ok (.iload_n 1, 1) := by decide +kernel
theorem dX0_thickBy_89 : decode cX0_thickBy 89 = .ok (.iaload, 1) := by decide +kernel
theorem dX0_thickBy_90 : decode cX0_thickBy 90 = .ok (.iconst 1, 1) := by decide +kernel
theorem dX0_thickBy_91 : decode cX0_thickBy 91 = .ok (.iadd, 1) := by decide +kernel
theorem dX0_thickBy_92 : decode cX0_thickBy 92 = .ok (.goto 9, 3) := by decide +kernel
theorem dX0_thickBy_95 : decode cX0_thickBy 95 = .ok (.aload_n 0, 1) := by decide +kernel
theorem dX0_thickBy_96 : decode cX0_thickBy 96 = .ok (.getfield 53, 3) := by decide +kernel
theorem dX0_thickBy_99 : decode cX0_thickBy 99 = .ok (.iload_n 1, 1) := by decide +kernel
theorem dX0_thickBy_100 : decode cX0_thickBy 100 = .ok (.iaload, 1) := by decide +kernel
theorem dX0_thickBy_101 : decode cX0_thickBy 101 = .ok (.ireturn, 1) := by decide +kernel
theorem dX1_init_0 : decode cX1_init 0 = .ok (.aload_n 0, 1) := by decide +kernel
theorem dX1_init_1 : decode cX1_init 1 = .ok (.invokespecial 3, 3) := by decide +kernel
theorem dX1_init_4 : decode cX1_init 4 = .ok (.aload_n 0, 1) := by decide +kernel
theorem dX1_init_5 : decode cX1_init 5 = .ok (.iconst 0, 1) := by decide +kernel
theorem dX1_init_6 : decode cX1_init 6 = .ok (.putfield 9, 3) := by decide +kernel
theorem dX1_init_9 : decode cX1_init 9 = .ok (.aload_n 0, 1) := by decide +kernel
theorem dX1_init_10 : decode cX1_init 10 = .ok (.iconst 0, 1) := by decide +kernel
theorem dX1_init_11 : decode cX1_init 11 = .ok (.putfield 15, 3) := by decide +kernel
theorem dX1_init_14 : decode cX1_init 14 = .ok (.aload_n 0, 1) := by decide +kernel
theorem dX1_init_15 : decode cX1_init 15 = .ok (.iconst 0, 1) := by decide +kernel
theorem dX1_init_16 : decode cX1_init 16 = .ok (.putfield 19, 3) := by decide +kernel
theorem dX1_init_19 : decode cX1_init 19 = .ok (.aload_n 0, 1) := by decide +kernel
theorem dX1_init_20 : decode cX1_init 20 = .ok (.bipush 40, 2) := by decide +kernel
theorem dX1_init_22 : decode cX1_init 22 = .ok (.newarray .int, 2) := by decide +kernel
theorem dX1_init_24 : decode cX1_init 24 = .ok (.putfield 22, 3) := by decide +kernel
theorem dX1_init_27 : decode cX1_init 27 = .ok (.return_, 1) := by decide +kernel
theorem dX1_begin_0 : decode cX1_begin 0 = .ok (.aload_n 0, 1) := by decide +kernel
theorem dX1_begin_1 : decode cX1_begin 1 = .ok (.iconst 1, 1) := by decide +kernel
theorem dX1_begin_2 : decode cX1_begin 2 = .ok (.putfield 9, 3) := by decide +kernel
theorem dX1_begin_5 : decode cX1_begin 5 = .ok (.aload_n 0, 1) := by decide +kernel
theorem dX1_begin_6 : decode cX1_begin 6 = .ok (.iload_n 1, 1) := by decide +kernel
theorem dX1_begin_7 : decode cX1_begin 7 = .ok (.putfield 15, 3) := by decide +kernel
theorem dX1_begin_10 : decode cX1_begin 10 = .ok (.aload_n 0, 1) := by decide +kernel
theorem dX1_begin_11 : decode cX1_begin 11 = .ok (.iload_n 2, 1) := by decide +kernel
theorem dX1_begin_12 : decode cX1_begin 12 = .ok (.putfield 19, 3) := by decide +kernel
theorem dX1_begin_15 : decode cX1_begin 15 = .ok (.aload_n 0, 1) := by decide +kernel
theorem dX1_begin_16 : decode cX1_begin 16 = .ok (.getfield 22, 3) := by decide +kernel
theorem dX1_begin_19 : decode cX1_begin 19 = .ok (.iconst 0, 1) := by decide +kernel
theorem dX1_begin_20 : decode cX1_begin 20 = .ok (.invokestatic 26, 3) := by decide +kernel
theorem dX1_begin_23 : decode cX1_begin 23 = .ok (.return_, 1) := by decide +kernel
theorem dX1_reaches_0 : decode cX1_reaches 0 = .ok (.iload_n 1, 1) := by decide +kernel
theorem dX1_reaches_1 : decode cX1_reaches 1 = .ok (.ifCond .lt 21, 3) := by decide +kernel
theorem dX1_reaches_4 : decode cX1_reaches 4 = .ok (.iload_n 2, 1) := by decide +kernel
theorem dX1_reaches_5 : decode cX1_reaches 5 = .ok (.ifCond .lt 17, 3) := by decide +kernel
theorem dX1_reaches_8 : decode cX1_reaches 8 = .ok (.iload_n 1, 1) := by decide +kernel
theorem dX1_reaches_9 : decode cX1_reaches 9 = .ok (.aload_n 0, 1) := by decide +kernel
theorem dX1_reaches_10 : decode cX1_reaches 10 = .ok (.getfield 19, 3) := by decide +kernel
theorem dX1_reaches_13 : decode cX1_reaches 13 = .ok (.iload_n 2, 1) := by decide +kernel
theorem dX1_reaches_14 : decode cX1_reaches 14 = .ok (.isub, 1) := by decide +kernel
theorem dX1_reaches_15 : decode cX1_reaches 15 = .ok (.if_icmp .gt 7, 3) := by decide +kernel
theorem dX1_reaches_18 : decode cX1_reaches 18 = .ok (.iconst 1, 1) := by decide +kernel
theorem dX1_reaches_19 : decode cX1_reaches 19 = .ok (.goto 4, 3) := by decide +kernel
theorem dX1_reaches_22 : decode cX1_reaches 22 = .ok (.iconst 0, 1) := by decide +kernel
theorem dX1_reaches_23 : decode cX1_reaches 23 = .ok (.ireturn, 1) := by decide +kernel
theorem dX1_cut_0 : decode cX1_cut 0 = .ok (.aload_n 0, 1) := by decide +kernel
theorem dX1_cut_1 : decode cX1_cut 1 = .ok (.getfield 15, 3) := by decide +kernel
theorem dX1_cut_4 : decode cX1_cut 4 = .ok (.ifCond .ne 6, 3) := by decide +kernel
theorem dX1_cut_7 : decode cX1_cut 7 = .ok (.iload_n 1, 1) := by decide +kernel
theorem dX1_cut_8 : decode cX1_cut 8 = .ok (.i2b, 1) := by decide +kernel
theorem dX1_cut_9 : decode cX1_cut 9 = .ok (.ireturn, 1) := by decide +kernel
theorem dX1_cut_10 : decode cX1_cut 10 = .ok (.aload_n 0, 1) := by decide +kernel
theorem dX1_cut_11 : decode cX1_cut 11 = .ok (.getfield 15, 3) := by decide +kernel
theorem dX1_cut_14 : decode cX1_cut 14 = .ok (.iconst 1, 1) := by decide +kernel
theorem dX1_cut_15 : decode cX1_cut 15 = .ok (.if_icmp .ne 8, 3) := by decide +kernel
theorem dX1_cut_18 : decode cX1_cut 18 = .ok (.iload_n 1, 1) := by decide +kernel
theorem dX1_cut_19 : decode cX1_cut 19 = .ok (.i2s, 1) := by decide +kernel
theorem dX1_cut_20 : decode cX1_cut 20 = .ok (.goto 4, 3) := by decide +kernel
theorem dX1_cut_23 : decode cX1_cut 23 = .ok (.iload_n 1, 1) := by decide +kernel
theorem dX1_cut_24 : decode cX1_cut 24 = .ok (.ireturn, 1) := by decide +kernel
theorem dX2_init_0 : decode cX2_init 0 = .ok (.aload_n 0, 1) := by decide +kernel
theorem dX2_init_1 : decode cX2_init 1 = .ok (.invokespecial 3, 3) := by decide +kernel
theorem dX2_init_4 : decode cX2_init 4 = .ok (.aload_n 0, 1) := by decide +kernel
theorem dX2_init_5 : decode cX2_init 5 = .ok (.bipush 120, 2) := by decide +kernel
theorem dX2_init_7 : decode cX2_init 7 = .ok (.newarray .int, 2) := by decide +kernel
theorem dX2_init_9 : decode cX2_init 9 = .ok (.putfield 9, 3) := by decide +kernel
theorem dX2_init_12 : decode cX2_init 12 = .ok (.aload_n 0, 1) := by decide +kernel
theorem dX2_init_13 : decode cX2_init 13 = .ok (.iconst 0, 1) := by decide +kernel
theorem dX2_init_14 : decode cX2_init 14 = .ok (.putfield 15, 3) := by decide +kernel
theorem dX2_init_17 : decode cX2_init 17 = .ok (.aload_n 0, 1) := by decide +kernel
theorem dX2_init_18 : decode cX2_init 18 = .ok (.iconst 0, 1) := by decide +kernel
theorem dX2_init_19 : decode cX2_init 19 = .ok (.putfield 19, 3) := by decide +kernel
theorem dX2_init_22 : decode cX2_init 22 = .ok (.aload_n 0, 1) := by decide +kernel
theorem dX2_init_23 : decode cX2_init 23 = .ok (.iconst 0, 1) := by decide +kernel
theorem dX2_init_24 : decode cX2_init 24 = .ok (.putfield 22, 3) := by decide +kernel
theorem dX2_init_27 : decode cX2_init 27 = .ok (.aload_n 0, 1) := by decide +kernel
theorem dX2_init_28 : decode cX2_init 28 = .ok (.iconst (-1), 1) := by decide +kernel
theorem dX2_init_29 : decode cX2_init 29 = .ok (.putfield 25, 3) := by decide +kernel
theorem dX2_init_32 : decode cX2_init 32 = .ok (.aload_n 0, 1) := by decide +kernel
theorem dX2_init_33 : decode cX2_init 33 = .ok (.iconst 0, 1) := by decide +kernel
theorem dX2_init_34 : decode cX2_init 34 = .ok (.putfield 28, 3) := by decide +kernel
theorem dX2_init_37 : decode cX2_init 37 = .ok (.aload_n 0, 1) := by decide +kernel
theorem dX2_init_38 : decode cX2_init 38 = .ok (.iconst 0, 1) := by decide +kernel
theorem dX2_init_39 : decode cX2_init 39 = .ok (.putfield 31, 3) := by decide +kernel
theorem dX2_init_42 : decode cX2_init 42 = .ok (.return_, 1) := by decide +kernel
theorem dX2_readInto_0 : decode cX2_readInto 0 = .ok (.aload_n 1, 1) := by decide +kernel
theorem dX2_readInto_1 : decode cX2_readInto 1 = .ok (.invokevirtual 34, 3) := by decide +kernel
theorem dX2_readInto_4 : decode cX2_readInto 4 = .ok (.aload_n 0, 1) := by decide +kernel
theorem dX2_readInto_5 : decode cX2_readInto 5 = .ok (.iconst 0, 1) := by decide +kernel
theorem dX2_readInto_6 : decode cX2_readInto 6 = .ok (.putfield 31, 3) := by decide +kernel
theorem dX2_readInto_9 : decode cX2_readInto 9 = .ok (.aload_n 0, 1) := by decide +kernel
theorem dX2_readInto_10 : decode cX2_readInto 10 = .ok (.iconst 0, 1) := by decide +kernel
theorem dX2_readInto_11 : decode cX2_readInto 11 = .ok (.putfield 22, 3) := by decide +kernel
theorem dX2_readInto_14 : decode cX2_readInto 14 = .ok (.aload_n 0, 1) := by decide +kernel
theorem dX2_readInto_15 : decode cX2_readInto 15 = .ok (.invokevirtual 39, 3) := by decide +kernel
theorem dX2_readInto_18 : decode cX2_readInto 18 = .ok (.aload_n 0, 1) := by decide +kernel
theorem dX2_readInto_19 : decode cX2_readInto 19 = .ok (.bipush 106, 2) := by decide +kernel
theorem dX2_readInto_21 : decode cX2_readInto 21 = .ok (.invokevirtual 42, 3) := by decide +kernel
theorem dX2_readInto_24 : decode cX2_readInto 24 = .ok (.aload_n 1, 1) := by decide +kernel
theorem dX2_readInto_25 : decode cX2_readInto 25 = .ok (.aload_n 0, 1) := by decide +kernel
theorem dX2_readInto_26 : decode cX2_readInto 26 = .ok (.iconst 1, 1) := by decide +kernel
theorem dX2_readInto_27 : decode cX2_readInto 27 = .ok (.bipush 9, 2) := by decide +kernel
theorem dX2_readInto_29 : decode cX2_readInto 29 = .ok (.invokevirtual 46, 3) := by decide +kernel
theorem dX2_readInto_32 : decode cX2_readInto 32 = .ok (.putfield 50, 3) := by decide +kernel
theorem dX2_readInto_35 : decode cX2_readInto 35 = .ok (.aload_n 0, 1) := by decide +kernel
theorem dX2_readInto_36 : decode cX2_readInto 36 = .ok (.bipush 59, 2) := by decide +kernel
theorem dX2_readInto_38 : decode cX2_readInto 38 = .ok (.invokevirtual 42, 3) := by decide +kernel
theorem dX2_readInto_41 : decode cX2_readInto 41 = .ok (.iconst 0, 1) := by decide +kernel
theorem dX2_readInto_42 : decode cX2_readInto 42 = .ok (.istore_n 2, 1) := by decide +kernel
theorem dX2_readInto_43 : decode cX2_readInto 43 = .ok (.iload_n 2, 1) := by decide +kernel
theorem dX2_readInto_44 : decode cX2_readInto 44 = .ok (.iconst 3, 1) := by decide +kernel
theorem dX2_readInto_45 : decode cX2_readInto 45 = .ok (.if_icmp .gt 31, 3) := by decide +kernel
theorem dX2_readInto_48 : decode cX2_readInto 48 = .ok (.aload_n 0, 1) := by decide +kernel
theorem dX2_readInto_49 : decode cX2_readInto 49 = .ok (.getfield 31, 3) := by decide +kernel
theorem dX2_readInto_52 : decode cX2_readInto 52 = .ok (.ifCond .ne 24, 3) := by decide +kernel
theorem dX2_readInto_55 : decode cX2_readInto 55 = .ok (.aload_n 0, 1) := by decide +kernel
theorem dX2_readInto_56 : decode cX2_readInto 56 = .ok (.getfield 25, 3) := by decide +kernel
theorem dX2_readInto_59 : decode cX2_readInto 59 = .ok (.bipush 115, 2) := by decide +kernel
theorem dX2_readInto_61 : decode cX2_readInto 61 = .ok (.if_icmp .ne 15, 3) := by decide +kernel
theorem dX2_readInto_64 : decode cX2_readInto 64 = .ok (.aload_n 0, 1) := by decide +kernel
theorem dX2_readInto_65 : decode cX2_readInto 65 = .ok (.aload_n 1, 1) := by decide +kernel
theorem dX2_readInto_66 : decode cX2_readInto 66 = .ok (.iload_n 2, 1) := by decide +kernel
theorem dX2_readInto_67 : decode cX2_readInto 67 = .ok (.invokevirtual 53, 3) := by decide +kernel
theorem dX2_readInto_70 : decode cX2_readInto 70 = .ok (.iinc 2 1, 3) := by decide +kernel
theorem dX2_readInto_73 : decode cX2_readInto 73 = .ok (.goto (-30), 3) := by decide +kernel
theorem dX2_readInto_76 : decode cX2_readInto 76 = .ok (.iconst 0, 1) := by decide +kernel
theorem dX2_readInto_77 : decode cX2_readInto 77 = .ok (.istore_n 2, 1) := by decide +kernel
theorem dX2_readInto_78 : decode cX2_readInto 78 = .ok (.iload_n 2, 1) := by decide +kernel
theorem dX2_readInto_79 : decode cX2_readInto 79 = .ok (.iconst 5, 1) := by decide +kernel
theorem dX2_readInto_80 : decode cX2_readInto 80 = .ok (.if_icmp .gt 32, 3) := by decide +kernel
theorem dX2_readInto_83 : decode cX2_readInto 83 = .ok (.aload_n 0, 1) := by decide +kernel
theorem dX2_readInto_84 : decode cX2_readInto 84 = .ok (.getfield 31, 3) := by decide +kernel
theorem dX2_readInto_87 : decode cX2_readInto 87 = .ok (.ifCond .ne 25, 3) := by decide +kernel
theorem dX2_readInto_90 : decode cX2_readInto 90 = .ok (.aload_n 0, 1) := by decide +kernel
theorem dX2_readInto_91 : decode cX2_readInto 91 = .ok (.getfield 25, 3) := by decide +kernel
theorem dX2_readInto_94 : decode cX2_readInto 94 = .ok (.invokestatic 57, 3) := by decide +kernel
theorem dX2_readInto_97 : decode cX2_readInto 97 = .ok (.ifCond .eq 15, 3) := by decide +kernel
theorem dX2_readInto_100 : decode cX2_readInto 100 = .ok (.aload_n 0, 1) := by decide +kernel
theorem dX2_readInto_101 : decode cX2_readInto 101 = .ok (.aload_n 1, 1) := by decide +kernel
theorem dX2_readInto_102 : decode cX2_readInto 102 = .ok (.iload_n 2, 1) := by decide +kernel
theorem dX2_readInto_103 : decode cX2_readInto 103 = .ok (.invokevirtual 61, 3) := by decide +kernel
theorem dX2_readInto_106 : decode cX2_readInto 106 = .ok (.iinc 2 1, 3) := by decide +kernel
theorem dX2_readInto_109 : decode cX2_readInto 109 = .ok (.goto (-31), 3) := by decide +kernel
theorem dX2_readInto_112 : decode cX2_readInto 112 = .ok (.aload_n 0, 1) := by decide +kernel
theorem dX2_readInto_113 : decode cX2_readInto 113 = .ok (.iconst (-1), 1) := by decide +kernel
theorem dX2_readInto_114 : decode cX2_readInto 114 = .ok (.invokevirtual 42, 3) := by decide +kernel
theorem dX2_readInto_117 : decode cX2_readInto 117 = .ok (.return_, 1) := by decide +kernel
theorem dX2_readSinger_0 : decode cX2_readSinger 0 = .ok (.iload_n 2, 1) := by decide +kernel
theorem dX2_readSinger_1 : decode cX2_readSinger 1 = .ok (.iconst 3, 1) := by decide +kernel
theorem dX2_readSinger_2 : decode cX2_readSinger 2 = .ok (.if_icmp .lt 9, 3) := by decide +kernel
theorem dX2_readSinger_5 : decode cX2_readSinger 5 = .ok (.aload_n 0, 1) := by decide +kernel
theorem dX2_readSinger_6 : decode cX2_readSinger 6 = .ok (.iconst 3, 1) := by decide +kernel
theorem dX2_readSinger_7 : decode cX2_readSinger 7 = .ok (.putfield 31, 3) := by decide +kernel
theorem dX2_readSinger_10 : decode cX2_readSinger 10 = .ok (.return_, 1) := by decide +kernel
theorem dX2_readSinger_11 : decode cX2_readSinger 11 = .ok (.aload_n 0, 1) := by decide +kernel
theorem dX2_readSinger_12 : decode cX2_readSinger 12 = .ok (.invokevirtual 39, 3) := by decide +kernel
theorem dX2_readSinger_15 : decode cX2_readSinger 15 = .ok (.aload_n 1, 1) := by decide +kernel
theorem dX2_readSinger_16 : decode cX2_readSinger 16 = .ok (.getfield 64, 3) := by decide +kernel
theorem dX2_readSinger_19 : decode cX2_readSinger 19 = .ok (.iload_n 2, 1) := by decide +kernel
theorem dX2_readSinger_20 : decode cX2_readSinger 20 = .ok (.aload_n 0, 1) := by decide +kernel
theorem dX2_readSinger_21 : decode cX2_readSinger 21 = .ok (.iconst 0, 1) := by decide +kernel
theorem dX2_readSinger_22 : decode cX2_readSinger 22 = .ok (.bipush 6, 2) := by decide +kernel
theorem dX2_readSinger_24 : decode cX2_readSinger 24 = .ok (.invokevirtual 46, 3) := by decide +kernel
theorem dX2_readSinger_27 : decode cX2_readSinger 27 = .ok (.iastore, 1) := by decide +kernel
theorem dX2_readSinger_28 : decode cX2_readSinger 28 = .ok (.aload_n 0, 1) := by decide +kernel
theorem dX2_readSinger_29 : decode cX2_readSinger 29 = .ok (.bipush 44, 2) := by decide +kernel
theorem dX2_readSinger_31 : decode cX2_readSinger 31 = .ok (.invokevirtual 42, 3) := by decide +kernel
theorem dX2_readSinger_34 : decode cX2_readSinger 34 = .ok (.aload_n 1, 1) := by decide +kernel
theorem dX2_readSinger_35 : decode cX2_readSinger 35 = .ok (.getfield 67, 3) := by decide +kernel
theorem dX2_readSinger_38 : decode cX2_readSinger 38 = .ok (.iload_n 2, 1) := by decide +kernel
theorem dX2_readSinger_39 : decode cX2_readSinger 39 = .ok (.aload_n 0, 1) := by decide +kernel
theorem dX2_readSinger_40 : decode cX2_readSinger 40 = .ok (.aload_n 1, 1) := by decide +kernel
theorem dX2_readSinger_41 : decode cX2_readSinger 41 = .ok (.getfield 64, 3) := by decide +kernel
theorem dX2_readSinger_44 : decode cX2_readSinger 44 = .ok (.iload_n 2, 1) := by decide +kernel
theorem dX2_readSinger_45 : decode cX2_readSinger 45 = .ok (.iaload, 1) := by decide +kernel
theorem dX2_readSinger_46 : decode cX2_readSinger 46 = .ok (.bipush 6, 2) := by decide +kernel
theorem dX2_readSinger_48 : decode cX2_readSinger 48 = .ok (.invokevirtual 46, 3) := by decide +kernel
theorem dX2_readSinger_51 : decode cX2_readSinger 51 = .ok (.iastore, 1) := by decide +kernel
theorem dX2_readSinger_52 : decode cX2_readSinger 52 = .ok (.aload_n 0, 1) := by decide +kernel
theorem dX2_readSinger_53 : decode cX2_readSinger 53 = .ok (.bipush 44, 2) := by decide +kernel
theorem dX2_readSinger_55 : decode cX2_readSinger 55 = .ok (.invokevirtual 42, 3) := by decide +kernel
theorem dX2_readSinger_58 : decode cX2_readSinger 58 = .ok (.aload_n 1, 1) := by decide +kernel
theorem dX2_readSinger_59 : decode cX2_readSinger 59 = .ok (.getfield 70, 3) := by decide +kernel
theorem dX2_readSinger_62 : decode cX2_readSinger 62 = .ok (.iload_n 2, 1) := by decide +kernel
theorem dX2_readSinger_63 : decode cX2_readSinger 63 = .ok (.aload_n 0, 1) := by decide +kernel
theorem dX2_readSinger_64 : decode cX2_readSinger 64 = .ok (.iconst 1, 1) := by decide +kernel
theorem dX2_readSinger_65 : decode cX2_readSinger 65 = .ok (.bipush 9, 2) := by decide +kernel
theorem dX2_readSinger_67 : decode cX2_readSinger 67 = .ok (.invokevirtual 46, 3) := by decide +kernel
theorem dX2_readSinger_70 : decode cX2_readSinger 70 = .ok (.iastore, 1) := by decide +kernel
theorem dX2_readSinger_71 : decode cX2_readSinger 71 = .ok (.aload_n 0, 1) := by decide +kernel
theorem dX2_readSinger_72 : decode cX2_readSinger 72 = .ok (.bipush 59, 2) := by decide +kernel
theorem dX2_readSinger_74 : decode cX2_readSinger 74 = .ok (.invokevirtual 42, 3) := by decide +kernel
theorem dX2_readSinger_77 : decode cX2_readSinger 77 = .ok (.aload_n 1, 1) := by decide +kernel
theorem dX2_readSinger_78 : decode cX2_readSinger 78 = .ok (.iload_n 2, 1) := by decide +kernel
theorem dX2_readSinger_79 : decode cX2_readSinger 79 = .ok (.iconst 1, 1) := by decide +kernel
theorem dX2_readSinger_80 : decode cX2_readSinger 80 = .ok (.iadd, 1) := by decide +kernel
theorem dX2_readSinger_81 : decode cX2_readSinger 81 = .ok (.putfield 73, 3) := by decide +kernel
theorem dX2_readSinger_84 : decode cX2_readSinger 84 = .ok (.return_, 1) := by decide +kernel
theorem dX2_readPan_0 : decode cX2_readPan 0 = .ok (.iload_n 2, 1) := by decide +kernel
theorem dX2_readPan_1 : decode cX2_readPan 1 = .ok (.iconst 5, 1) := by decide +kernel
theorem dX2_readPan_2 : decode cX2_readPan 2 = .ok (.if_icmp .lt 9, 3) := by decide +kernel
theorem dX2_readPan_5 : decode cX2_readPan 5 = .ok (.aload_n 0, 1) := by decide +kernel
theorem dX2_readPan_6 : decode cX2_readPan 6 = .ok (.iconst 3, 1) := by decide +kernel
theorem dX2_readPan_7 : decode cX2_readPan 7 = .ok (.putfield 31, 3) := by decide +kernel
theorem dX2_readPan_10 : decode cX2_readPan 10 = .ok (.return_, 1) := by decide +kernel
theorem dX2_readPan_11 : decode cX2_readPan 11 = .ok (.aload_n 1, 1) := by decide +kernel
theorem dX2_readPan_12 : decode cX2_readPan 12 = .ok (.getfield 76, 3) := by decide +kernel
theorem dX2_readPan_15 : decode cX2_readPan 15 = .ok (.iload_n 2, 1) := by decide +kernel
theorem dX2_readPan_16 : decode cX2_readPan 16 = .ok (.aload_n 0, 1) := by decide +kernel
theorem dX2_readPan_17 : decode cX2_readPan 17 = .ok (.getfield 25, 3) := by decide +kernel
theorem dX2_readPan_20 : decode cX2_readPan 20 = .ok (.invokestatic 57, 3) := by decide +kernel
theorem dX2_readPan_23 : decode cX2_readPan 23 = .ok (.iastore, 1) := by decide +kernel
theorem dX2_readPan_24 : decode cX2_readPan 24 = .ok (.aload_n 0, 1) := by decide +kernel
theorem dX2_readPan_25 : decode cX2_readPan 25 = .ok (.invokevirtual 39, 3) := by decide +kernel
theorem dX2_readPan_28 : decode cX2_readPan 28 = .ok (.aload_n 1, 1) := by decide +kernel
theorem dX2_readPan_29 : decode cX2_readPan 29 = .ok (.getfield 79, 3) := by decide +kernel
theorem dX2_readPan_32 : decode cX2_readPan 32 = .ok (.iload_n 2, 1) := by decide +kernel
theorem dX2_readPan_33 : decode cX2_readPan 33 = .ok (.aload_n 0, 1) := by decide +kernel
theorem dX2_readPan_34 : decode cX2_readPan 34 = .ok (.iconst 0, 1) := by decide +kernel
theorem dX2_readPan_35 : decode cX2_readPan 35 = .ok (.bipush 127, 2) := by decide +kernel
theorem dX2_readPan_37 : decode cX2_readPan 37 = .ok (.invokevirtual 46, 3) := by decide +kernel
theorem dX2_readPan_40 : decode cX2_readPan 40 = .ok (.iastore, 1) := by decide +kernel
theorem dX2_readPan_41 : decode cX2_readPan 41 = .ok (.aload_n 0, 1) := by decide +kernel
theorem dX2_readPan_42 : decode cX2_readPan 42 = .ok (.bipush 44, 2) := by decide +kernel
theorem dX2_readPan_44 : decode cX2_readPan 44 = .ok (.invokevirtual 42, 3) := by decide +kernel
theorem dX2_readPan_47 : decode cX2_readPan 47 = .ok (.aload_n 1, 1) := by decide +kernel
theorem dX2_readPan_48 : decode cX2_readPan 48 = .ok (.getfield 82, 3) := by decide +kernel
theorem dX2_readPan_51 : decode cX2_readPan 51 = .ok (.iload_n 2, 1) := by decide +kernel
theorem dX2_readPan_52 : decode cX2_readPan 52 = .ok (.aload_n 0, 1) := by decide +kernel
theorem dX2_readPan_53 : decode cX2_readPan 53 = .ok (.iconst 1, 1) := by decide +kernel
theorem dX2_readPan_54 : decode cX2_readPan 54 = .ok (.bipush 20, 2) := by decide +kernel
theorem dX2_readPan_56 : decode cX2_readPan 56 = .ok (.invokevirtual 46, 3) := by decide +kernel
theorem dX2_readPan_59 : decode cX2_readPan 59 = .ok (.iastore, 1) := by decide +kernel
theorem dX2_readPan_60 : decode cX2_readPan 60 = .ok (.aload_n 0, 1) := by decide +kernel
theorem dX2_readPan_61 : decode cX2_readPan 61 = .ok (.bipush 44, 2) := by decide +kernel
theorem dX2_readPan_63 : decode cX2_readPan 63 = .ok (.invokevirtual 42, 3) := by decide +kernel
theorem dX2_readPan_66 : decode cX2_readPan 66 = .ok (.aload_n 1, 1) := by decide +kernel
theorem dX2_readPan_67 : decode cX2_readPan 67 = .ok (.getfield 85, 3) := by decide +kernel
theorem dX2_readPan_70 : decode cX2_readPan 70 = .ok (.iload_n 2, 1) := by decide +kernel
theorem dX2_readPan_71 : decode cX2_readPan 71 = .ok (.aload_n 0, 1) := by decide +kernel
theorem dX2_readPan_72 : decode cX2_readPan 72 = .ok (.iconst 0, 1) := by decide +kernel
theorem dX2_readPan_73 : decode cX2_readPan 73 = .ok (.iconst 1, 1) := by decide +kernel
theorem dX2_readPan_74 : decode cX2_readPan 74 = .ok (.aload_n 1, 1) := by decide +kernel
theorem dX2_readPan_75 : decode cX2_readPan 75 = .ok (.getfield 73, 3) := by decide +kernel
theorem dX2_readPan_78 : decode cX2_readPan 78 = .ok (.ishl, 1) := by decide +kernel
theorem dX2_readPan_79 : decode cX2_readPan 79 = .ok (.iconst 1, 1) := by decide +kernel
theorem dX2_readPan_80 : decode cX2_readPan 80 = .ok (.isub, 1) := by decide +kernel
theorem dX2_readPan_81 : decode cX2_readPan 81 = .ok (.invokevirtual 46, 3) := by decide +kernel
theorem dX2_readPan_84 : decode cX2_readPan 84 = .ok (.iastore, 1) := by decide +kernel
theorem dX2_readPan_85 : decode cX2_readPan 85 = .ok (.aload_n 0, 1) := by decide +kernel
theorem dX2_readPan_86 : decode cX2_readPan 86 = .ok (.bipush 59, 2) := by decide +kernel
theorem dX2_readPan_88 : decode cX2_readPan 88 = .ok (.invokevirtual 42, 3) := by decide +kernel
theorem dX2_readPan_91 : decode cX2_readPan 91 = .ok (.aload_n 1, 1) := by decide +kernel
theorem dX2_readPan_92 : decode cX2_readPan 92 = .ok (.iload_n 2, 1) := by decide +kernel
theorem dX2_readPan_93 : decode cX2_readPan 93 = .ok (.iconst 1, 1) := by decide +kernel
theorem dX2_readPan_94 : decode cX2_readPan 94 = .ok (.iadd, 1) := by decide +kernel
theorem dX2_readPan_95 : decode cX2_readPan 95 = .ok (.putfield 88, 3) := by decide +kernel
theorem dX2_readPan_98 : decode cX2_readPan 98 = .ok (.return_, 1) := by decide +kernel
theorem dX2_kindOf_0 : decode cX2_kindOf 0 = .ok (.iload_n 0, 1) := by decide +kernel
theorem dX2_kindOf_1 : decode cX2_kindOf 1 = .ok (.tableswitch 85 99 113 #[77, 83, 85, 85, 85, 85, 85, 85, 85, 85, 81, 85, 85, 75, 79], 75) := by decide +kernel
theorem dX2_kindOf_76 : decode cX2_kindOf 76 = .ok (.iconst 1, 1) := by decide +kernel
theorem dX2_kindOf_77 : decode cX2_kindOf 77 = .ok (.ireturn, 1) := by decide +kernel
theorem dX2_kindOf_78 : decode cX2_kindOf 78 = .ok (.iconst 2, 1) := by decide +kernel
theorem dX2_kindOf_79 : decode cX2_kindOf 79 = .ok (.ireturn, 1) := by decide +kernel
theorem dX2_kindOf_80 : decode cX2_kindOf 80 = .ok (.iconst 3, 1) := by decide +kernel
theorem dX2_kindOf_81 : decode cX2_kindOf 81 = .ok (.ireturn, 1) := by decide +kernel
theorem dX2_kindOf_82 : decode cX2_kindOf 82 = .ok (.iconst 4, 1) := by decide +kernel
theorem dX2_kindOf_83 : decode cX2_kindOf 83 = .ok (.ireturn, 1) := by decide +kernel
theorem dX2_kindOf_84 : decode cX2_kindOf 84 = .ok (.iconst 5, 1) := by decide +kernel
theorem dX2_kindOf_85 : decode cX2_kindOf 85 = .ok (.ireturn, 1) := by decide +kernel
theorem dX2_kindOf_86 : decode cX2_kindOf 86 = .ok (.iconst 0, 1) := by decide +kernel
theorem dX2_kindOf_87 : decode cX2_kindOf 87 = .ok (.ireturn, 1) := by decide +kernel
theorem dX2_take_0 : decode cX2_take 0 = .ok (.aload_n 0, 1) := by decide +kernel
theorem dX2_take_1 : decode cX2_take 1 = .ok (.getfield 31, 3) := by decide +kernel
theorem dX2_take_4 : decode cX2_take 4 = .ok (.ifCond .eq 4, 3) := by decide +kernel
theorem dX2_take_7 : decode cX2_take 7 = .ok (.return_, 1) := by decide +kernel
theorem dX2_take_8 : decode cX2_take 8 = .ok (.aload_n 0, 1) := by decide +kernel
theorem dX2_take_9 : decode cX2_take 9 = .ok (.getfield 25, 3) := by decide +kernel
theorem dX2_take_12 : decode cX2_take 12 = .ok (.iload_n 1, 1) := by decide +kernel
theorem dX2_take_13 : decode cX2_take 13 = .ok (.if_icmp .ne 10, 3) := by decide +kernel
theorem dX2_take_16 : decode cX2_take 16 = .ok (.aload_n 0, 1) := by decide +kernel
theorem dX2_take_17 : decode cX2_take 17 = .ok (.invokevirtual 39, 3) := by decide +kernel
theorem dX2_take_20 : decode cX2_take 20 = .ok (.goto 8, 3) := by decide +kernel
theorem dX2_take_23 : decode cX2_take 23 = .ok (.aload_n 0, 1) := by decide +kernel
theorem dX2_take_24 : decode cX2_take 24 = .ok (.iconst 1, 1) := by decide +kernel
theorem dX2_take_25 : decode cX2_take 25 = .ok (.putfield 31, 3) := by decide +kernel
theorem dX2_take_28 : decode cX2_take 28 = .ok (.return_, 1) := by decide +kernel
theorem dX2_takeNumber_0 : decode cX2_takeNumber 0 = .ok (.aload_n 0, 1) := by decide +kernel
theorem dX2_takeNumber_1 : decode cX2_takeNumber 1 = .ok (.getfield 31, 3) := by decide +kernel
theorem dX2_takeNumber_4 : decode cX2_takeNumber 4 = .ok (.ifCond .eq 5, 3) := by decide +kernel
theorem dX2_takeNumber_7 : decode cX2_takeNumber 7 = .ok (.iload_n 1, 1) := by decide +kernel
theorem dX2_takeNumber_8 : decode cX2_takeNumber 8 = .ok (.ireturn, 1) := by decide +kernel
theorem dX2_takeNumber_9 : decode cX2_takeNumber 9 = .ok (.aload_n 0, 1) := by decide +kernel
theorem dX2_takeNumber_10 : decode cX2_takeNumber 10 = .ok (.getfield 25, 3) := by decide +kernel
theorem dX2_takeNumber_13 : decode cX2_takeNumber 13 = .ok (.bipush (-3), 2) := by decide +kernel
theorem dX2_takeNumber_15 : decode cX2_takeNumber 15 = .ok (.if_icmp .eq 10, 3) := by decide +kernel
theorem dX2_takeNumber_18 : decode cX2_takeNumber 18 = .ok (.aload_n 0, 1) := by decide +kernel
theorem dX2_takeNumber_19 : decode cX2_takeNumber 19 = .ok (.iconst 1, 1) := by decide +kernel
theorem dX2_takeNumber_20 : decode cX2_takeNumber 20 = .ok (.putfield 31, 3) := by decide +kernel
theorem dX2_takeNumber_23 : decode cX2_takeNumber 23 = .ok (.iload_n 1, 1) := by decide +kernel
theorem dX2_takeNumber_24 : decode cX2_takeNumber 24 = .ok (.ireturn, 1) := by decide +kernel
theorem dX2_takeNumber_25 : decode cX2_takeNumber 25 = .ok (.aload_n 0, 1) := by decide +kernel
theorem dX2_takeNumber_26 : decode cX2_takeNumber 26 = .ok (.getfield 28, 3) := by decide +kernel
theorem dX2_takeNumber_29 : decode cX2_takeNumber 29 = .ok (.iload_n 1, 1) := by decide +kernel
theorem dX2_takeNumber_30 : decode cX2_takeNumber 30 = .ok (.if_icmp .lt 11, 3) := by decide +kernel
theorem dX2_takeNumber_33 : decode cX2_takeNumber 33 = .ok (.aload_n 0, 1) := by decide +kernel
theorem dX2_takeNumber_34 : decode cX2_takeNumber 34 = .ok (.getfield 28, 3) := by decide +kernel
theorem dX2_takeNumber_37 : decode cX2_takeNumber 37 = .ok (.iload_n 2, 1) := by decide +kernel
theorem dX2_takeNumber_38 : decode cX2_takeNumber 38 = .ok (.if_icmp .le 10, 3) := by decide +kernel
theorem dX2_takeNumber_41 : decode cX2_takeNumber 41 = .ok (.aload_n 0, 1) := by decide +kernel
theorem dX2_takeNumber_42 : decode cX2_takeNumber 42 = .ok (.iconst 2, 1) := by decide +kernel
theorem dX2_takeNumber_43 : decode cX2_takeNumber 43 = .ok (.putfield 31, 3) := by decide +kernel
theorem dX2_takeNumber_46 : decode cX2_takeNumber 46 = .ok (.iload_n 1, 1) := by decide +kernel
theorem dX2_takeNumber_47 : decode cX2_takeNumber 47 = .ok (.ireturn, 1) := by decide +kernel
theorem dX2_takeNumber_48 : decode cX2_takeNumber 48 = .ok (.aload_n 0, 1) := by decide +kernel
theorem dX2_takeNumber_49 : decode cX2_takeNumber 49 = .ok (.getfield 28, 3) := by decide +kernel
theorem dX2_takeNumber_52 : decode cX2_takeNumber 52 = .ok (.istore_n 3, 1) := by decide +kernel
theorem dX2_takeNumber_53 : decode cX2_takeNumber 53 = .ok (.aload_n 0, 1) := by decide +kernel
theorem dX2_takeNumber_54 : decode cX2_takeNumber 54 = .ok (.invokevirtual 39, 3) := by decide +kernel
theorem dX2_takeNumber_57 : decode cX2_takeNumber 57 = .ok (.iload_n 3, 1) := by decide +kernel
theorem dX2_takeNumber_58 : decode cX2_takeNumber 58 = .ok (.ireturn, 1) := by decide +kernel
theorem dX2_step_0 : decode cX2_step 0 = .ok (.aload_n 0, 1) := by decide +kernel
theorem dX2_step_1 : decode cX2_step 1 = .ok (.aload_n 0, 1) := by decide +kernel
theorem dX2_step_2 : decode cX2_step 2 = .ok (.getfield 22, 3) := by decide +kernel
theorem dX2_step_5 : decode cX2_step 5 = .ok (.putfield 19, 3) := by decide +kernel
theorem dX2_step_8 : decode cX2_step 8 = .ok (.aload_n 0, 1) := by decide +kernel
theorem dX2_step_9 : decode cX2_step 9 = .ok (.getfield 22, 3) := by decide +kernel
theorem dX2_step_12 : decode cX2_step 12 = .ok (.aload_n 0, 1) := by decide +kernel
theorem dX2_step_13 : decode cX2_step 13 = .ok (.getfield 15, 3) := by decide +kernel
theorem dX2_step_16 : decode cX2_step 16 = .ok (.if_icmp .lt 9, 3) := by decide +kernel
theorem dX2_step_19 : decode cX2_step 19 = .ok (.aload_n 0, 1) := by decide +kernel
theorem dX2_step_20 : decode cX2_step 20 = .ok (.iconst (-1), 1) := by decide +kernel
theorem dX2_step_21 : decode cX2_step 21 = .ok (.putfield 25, 3) := by decide +kernel
theorem dX2_step_24 : decode cX2_step 24 = .ok (.return_, 1) := by decide +kernel
theorem dX2_step_25 : decode cX2_step 25 = .ok (.aload_n 0, 1) := by decide +kernel
theorem dX2_step_26 : decode cX2_step 26 = .ok (.getfield 9, 3) := by decide +kernel
theorem dX2_step_29 : decode cX2_step 29 = .ok (.aload_n 0, 1) := by decide +kernel
theorem dX2_step_30 : decode cX2_step 30 = .ok (.getfield 22, 3) := by decide +kernel
theorem dX2_step_33 : decode cX2_step 33 = .ok (.iaload, 1) := by decide +kernel
theorem dX2_step_34 : decode cX2_step 34 = .ok (.istore_n 1, 1) := by decide +kernel
theorem dX2_step_35 : decode cX2_step 35 = .ok (.iload_n 1, 1) := by decide +kernel
theorem dX2_step_36 : decode cX2_step 36 = .ok (.invokestatic 91, 3) := by decide +kernel
theorem dX2_step_39 : decode cX2_step 39 = .ok (.ifCond .eq 8, 3) := by decide +kernel
theorem dX2_step_42 : decode cX2_step 42 = .ok (.aload_n 0, 1) := by decide +kernel
theorem dX2_step_43 : decode cX2_step 43 = .ok (.invokevirtual 95, 3) := by decide +kernel
theorem dX2_step_46 : decode cX2_step 46 = .ok (.return_, 1) := by decide +kernel
theorem dX2_step_47 : decode cX2_step 47 = .ok (.aload_n 0, 1) := by decide +kernel
theorem dX2_step_48 : decode cX2_step 48 = .ok (.dup, 1) := by decide +kernel
theorem dX2_step_49 : decode cX2_step 49 = .ok (.getfield 22, 3) := by decide +kernel
theorem dX2_step_52 : decode cX2_step 52 = .ok (.iconst 1, 1) := by decide +kernel
theorem dX2_step_53 : decode cX2_step 53 = .ok (.iadd, 1) := by decide +kernel
theorem dX2_step_54 : decode cX2_step 54 = .ok (.putfield 22, 3) := by decide +kernel
theorem dX2_step_57 : decode cX2_step 57 = .ok (.iload_n 1, 1) := by decide +kernel
theorem dX2_step_58 : decode cX2_step 58 = .ok (.bipush 97, 2) := by decide +kernel
theorem dX2_step_60 : decode cX2_step 60 = .ok (.if_icmp .lt 9, 3) := by decide +kernel
theorem dX2_step_63 : decode cX2_step 63 = .ok (.iload_n 1, 1) := by decide +kernel
theorem dX2_step_64 : decode cX2_step 64 = .ok (.bipush 122, 2) := by decide +kernel
theorem dX2_step_66 : decode cX2_step 66 = .ok (.if_icmp .le 15, 3) := by decide +kernel
theorem dX2_step_69 : decode cX2_step 69 = .ok (.iload_n 1, 1) := by decide +kernel
theorem dX2_step_70 : decode cX2_step 70 = .ok (.bipush 44, 2) := by decide +kernel
theorem dX2_step_72 : decode cX2_step 72 = .ok (.if_icmp .eq 9, 3) := by decide +kernel
theorem dX2_step_75 : decode cX2_step 75 = .ok (.iload_n 1, 1) := by decide +kernel
theorem dX2_step_76 : decode cX2_step 76 = .ok (.bipush 59, 2) := by decide +kernel
theorem dX2_step_78 : decode cX2_step 78 = .ok (.if_icmp .ne 7, 3) := by decide +kernel
theorem dX2_step_81 : decode cX2_step 81 = .ok (.iconst 1, 1) := by decide +kernel
theorem dX2_step_82 : decode cX2_step 82 = .ok (.goto 4, 3) := by decide +kernel
theorem dX2_step_85 : decode cX2_step 85 = .ok (.iconst 0, 1) := by decide +kernel
theorem dX2_step_86 : decode cX2_step 86 = .ok (.istore_n 2, 1) := by decide +kernel
theorem dX2_step_87 : decode cX2_step 87 = .ok (.aload_n 0, 1) := by decide +kernel
theorem dX2_step_88 : decode cX2_step 88 = .ok (.iload_n 2, 1) := by decide +kernel
theorem dX2_step_89 : decode cX2_step 89 = .ok (.ifCond .eq 7, 3) := by decide +kernel
theorem dX2_step_92 : decode cX2_step 92 = .ok (.iload_n 1, 1) := by decide +kernel
theorem dX2_step_93 : decode cX2_step 93 = .ok (.goto 5, 3) := by decide +kernel
theorem dX2_step_96 : decode cX2_step 96 = .ok (.bipush (-2), 2) := by decide +kernel
theorem dX2_step_98 : decode cX2_step 98 = .ok (.putfield 25, 3) := by decide +kernel
theorem dX2_step_101 : decode cX2_step 101 = .ok (.return_, 1) := by decide +kernel
theorem dX2_stepNumber_0 : decode cX2_stepNumber 0 = .ok (.aload_n 0, 1) := by decide +kernel
theorem dX2_stepNumber_1 : decode cX2_stepNumber 1 = .ok (.iconst 0, 1) := by decide +kernel
theorem dX2_stepNumber_2 : decode cX2_stepNumber 2 = .ok (.putfield 28, 3) := by decide +kernel
theorem dX2_stepNumber_5 : decode cX2_stepNumber 5 = .ok (.aload_n 0, 1) := by decide +kernel
theorem dX2_stepNumber_6 : decode cX2_stepNumber 6 = .ok (.getfield 22, 3) := by decide +kernel
theorem dX2_stepNumber_9 : decode cX2_stepNumber 9 = .ok (.aload_n 0, 1) := by decide +kernel
theorem dX2_stepNumber_10 : decode cX2_stepNumber 10 = .ok (.getfield 15, 3) := by decide +kernel
theorem dX2_stepNumber_13 : decode cX2_stepNumber 13 = .ok (.if_icmp .ge 61, 3) := by decide +kernel
theorem dX2_stepNumber_16 : decode cX2_stepNumber 16 = .ok (.aload_n 0, 1) := by decide +kernel
theorem dX2_stepNumber_17 : decode cX2_stepNumber 17 = .ok (.getfield 9, 3) := by decide +kernel
theorem dX2_stepNumber_20 : decode cX2_stepNumber 20 = .ok (.aload_n 0, 1) := by decide +kernel
theorem dX2_stepNumber_21 : decode cX2_stepNumber 21 = .ok (.getfield 22, 3) := by decide +kernel
theorem dX2_stepNumber_24 : decode cX2_stepNumber 24 = .ok (.iaload, 1) := by decide +kernel
theorem dX2_stepNumber_25 : decode cX2_stepNumber 25 = .ok (.invokestatic 91, 3) := by decide +kernel
theorem dX2_stepNumber_28 : decode cX2_stepNumber 28 = .ok (.ifCond .eq 46, 3) := by decide +kernel
theorem dX2_stepNumber_31 : decode cX2_stepNumber 31 = .ok (.aload_n 0, 1) := by decide +kernel
theorem dX2_stepNumber_32 : decode cX2_stepNumber 32 = .ok (.bipush 10, 2) := by decide +kernel
theorem dX2_stepNumber_34 : decode cX2_stepNumber 34 = .ok (.aload_n 0, 1) := by decide +kernel
theorem dX2_stepNumber_35 : decode cX2_stepNumber 35 = .ok (.getfield 28, 3) := by decide +kernel
theorem dX2_stepNumber_38 : decode cX2_stepNumber 38 = .ok (.imul, 1) := by decide +kernel
theorem dX2_stepNumber_39 : decode cX2_stepNumber 39 = .ok (.aload_n 0, 1) := by decide +kernel
theorem dX2_stepNumber_40 : decode cX2_stepNumber 40 = .ok (.getfield 9, 3) := by decide +kernel
theorem dX2_stepNumber_43 : decode cX2_stepNumber 43 = .ok (.aload_n 0, 1) := by decide +kernel
theorem dX2_stepNumber_44 : decode cX2_stepNumber 44 = .ok (.getfield 22, 3) := by decide +kernel
theorem dX2_stepNumber_47 : decode cX2_stepNumber 47 = .ok (.iaload, 1) := by decide +kernel
theorem dX2_stepNumber_48 : decode cX2_stepNumber 48 = .ok (.iadd, 1) := by decide +kernel
theorem dX2_stepNumber_49 : decode cX2_stepNumber 49 = .ok (.bipush 48, 2) := by decide +kernel
theorem dX2_stepNumber_51 : decode cX2_stepNumber 51 = .ok (.isub, 1) := by decide +kernel
theorem dX2_stepNumber_52 : decode cX2_stepNumber 52 = .ok (.sipush 1000, 3) := by decide +kernel
theorem dX2_stepNumber_55 : decode cX2_stepNumber 55 = .ok (.invokestatic 98, 3) := by decide +kernel
theorem dX2_stepNumber_58 : decode cX2_stepNumber 58 = .ok (.putfield 28, 3) := by decide +kernel
theorem dX2_stepNumber_61 : decode cX2_stepNumber 61 = .ok (.aload_n 0, 1) := by decide +kernel
theorem dX2_stepNumber_62 : decode cX2_stepNumber 62 = .ok (.dup, 1) := by decide +kernel
theorem dX2_stepNumber_63 : decode cX2_stepNumber 63 = .ok (.getfield 22, 3) := by decide +kernel
theorem dX2_stepNumber_66 : decode cX2_stepNumber 66 = .ok (.iconst 1, 1) := by decide +kernel
theorem dX2_stepNumber_67 : decode cX2_stepNumber 67 = .ok (.iadd, 1) := by decide +kernel
theorem dX2_stepNumber_68 : decode cX2_stepNumber 68 = .ok (.putfield 22, 3) := by decide +kernel
theorem dX2_stepNumber_71 : decode cX2_stepNumber 71 = .ok (.goto (-66), 3) := by decide +kernel
theorem dX2_stepNumber_74 : decode cX2_stepNumber 74 = .ok (.aload_n 0, 1) := by decide +kernel
theorem dX2_stepNumber_75 : decode cX2_stepNumber 75 = .ok (.aload_n 0, 1) := by decide +kernel
theorem dX2_stepNumber_76 : decode cX2_stepNumber 76 = .ok (.getfield 22, 3) := by decide +kernel
theorem dX2_stepNumber_79 : decode cX2_stepNumber 79 = .ok (.aload_n 0, 1) := by decide +kernel
theorem dX2_stepNumber_80 : decode cX2_stepNumber 80 = .ok (.getfield 19, 3) := by decide +kernel
theorem dX2_stepNumber_83 : decode cX2_stepNumber 83 = .ok (.isub, 1) := by decide +kernel
theorem dX2_stepNumber_84 : decode cX2_stepNumber 84 = .ok (.iconst 3, 1) := by decide +kernel
theorem dX2_stepNumber_85 : decode cX2_stepNumber 85 = .ok (.if_icmp .gt 8, 3) := by decide +kernel
theorem dX2_stepNumber_88 : decode cX2_stepNumber 88 = .ok (.bipush (-3), 2) := by decide +kernel
theorem dX2_stepNumber_90 : decode cX2_stepNumber 90 = .ok (.goto 5, 3) := by decide +kernel
theorem dX2_stepNumber_93 : decode cX2_stepNumber 93 = .ok (.bipush (-2), 2) := by decide +kernel
theorem dX2_stepNumber_95 : decode cX2_stepNumber 95 = .ok (.putfield 25, 3) := by decide +kernel
theorem dX2_stepNumber_98 : decode cX2_stepNumber 98 = .ok (.return_, 1) := by decide +kernel
theorem dX2_isFigure_0 : decode cX2_isFigure 0 = .ok (.iload_n 0, 1) := by decide +kernel
theorem dX2_isFigure_1 : decode cX2_isFigure 1 = .ok (.bipush 48, 2) := by decide +kernel
theorem dX2_isFigure_3 : decode cX2_isFigure 3 = .ok (.if_icmp .lt 13, 3) := by decide +kernel
theorem dX2_isFigure_6 : decode cX2_isFigure 6 = .ok (.iload_n 0, 1) := by decide +kernel
theorem dX2_isFigure_7 : decode cX2_isFigure 7 = .ok (.bipush 57, 2) := by decide +kernel
theorem dX2_isFigure_9 : decode cX2_isFigure 9 = .ok (.if_icmp .gt 7, 3) := by decide +kernel
theorem dX2_isFigure_12 : decode cX2_isFigure 12 = .ok (.iconst 1, 1) := by decide +kernel
theorem dX2_isFigure_13 : decode cX2_isFigure 13 = .ok (.goto 4, 3) := by decide +kernel
theorem dX2_isFigure_16 : decode cX2_isFigure 16 = .ok (.iconst 0, 1) := by decide +kernel
theorem dX2_isFigure_17 : decode cX2_isFigure 17 = .ok (.ireturn, 1) := by decide +kernel
