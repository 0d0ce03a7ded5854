theorem dX9_init_0 : decode cX9_init 0 = .ok (.aload_n 0, 1) := by decide +kernel
theorem dX9_init_1 : decode cX9_init 1 = .ok (.invokespecial 1, 3) := by decide +kernel
theorem dX9_init_4 : decode cX9_init 4 = .ok (.aload_n 0, 1) := by decide +kernel
theorem dX9_init_5 : decode cX9_init 5 = .ok (.bipush 36, 2) := by decide +kernel
theorem dX9_init_7 : decode cX9_init 7 = .ok (.newarray .int, 2) := by decide +kernel
theorem dX9_init_9 : decode cX9_init 9 = .ok (.putfield 7, 3) := by decide +kernel
theorem dX9_init_12 : decode cX9_init 12 = .ok (.aload_n 0, 1) := by decide +kernel
theorem dX9_init_13 : decode cX9_init 13 = .ok (.bipush 36, 2) := by decide +kernel
theorem dX9_init_15 : decode cX9_init 15 = .ok (.newarray .int, 2) := by decide +kernel
theorem dX9_init_17 : decode cX9_init 17 = .ok (.putfield 13, 3) := by decide +kernel
theorem dX9_init_20 : decode cX9_init 20 = .ok (.aload_n 0, 1) := by decide +kernel
theorem dX9_init_21 : decode cX9_init 21 = .ok (.bipush 12, 2) := by decide +kernel
theorem dX9_init_23 : decode cX9_init 23 = .ok (.newarray .int, 2) := by decide +kernel
theorem dX9_init_25 : decode cX9_init 25 = .ok (.putfield 16, 3) := by decide +kernel
theorem dX9_init_28 : decode cX9_init 28 = .ok (.aload_n 0, 1) := by decide +kernel
theorem dX9_init_29 : decode cX9_init 29 = .ok (.bipush 12, 2) := by decide +kernel
theorem dX9_init_31 : decode cX9_init 31 = .ok (.newarray .int, 2) := by decide +kernel
theorem dX9_init_33 : decode cX9_init 33 = .ok (.putfield 19, 3) := by decide +kernel
theorem dX9_init_36 : decode cX9_init 36 = .ok (.aload_n 0, 1) := by decide +kernel
theorem dX9_init_37 : decode cX9_init 37 = .ok (.bipush 12, 2) := by decide +kernel
theorem dX9_init_39 : decode cX9_init 39 = .ok (.newarray .int, 2) := by decide +kernel
theorem dX9_init_41 : decode cX9_init 41 = .ok (.putfield 22, 3) := by decide +kernel
theorem dX9_init_44 : decode cX9_init 44 = .ok (.aload_n 0, 1) := by decide +kernel
theorem dX9_init_45 : decode cX9_init 45 = .ok (.bipush 6, 2) := by decide +kernel
theorem dX9_init_47 : decode cX9_init 47 = .ok (.newarray .boolean, 2) := by decide +kernel
theorem dX9_init_49 : decode cX9_init 49 = .ok (.putfield 25, 3) := by decide +kernel
theorem dX9_init_52 : decode cX9_init 52 = .ok (.aload_n 0, 1) := by decide +kernel
theorem dX9_init_53 : decode cX9_init 53 = .ok (.bipush 6, 2) := by decide +kernel
theorem dX9_init_55 : decode cX9_init 55 = .ok (.newarray .int, 2) := by decide +kernel
theorem dX9_init_57 : decode cX9_init 57 = .ok (.putfield 29, 3) := by decide +kernel
theorem dX9_init_60 : decode cX9_init 60 = .ok (.aload_n 0, 1) := by decide +kernel
theorem dX9_init_61 : decode cX9_init 61 = .ok (.bipush 6, 2) := by decide +kernel
theorem dX9_init_63 : decode cX9_init 63 = .ok (.newarray .int, 2) := by decide +kernel
theorem dX9_init_65 : decode cX9_init 65 = .ok (.putfield 32, 3) := by decide +kernel
theorem dX9_init_68 : decode cX9_init 68 = .ok (.aload_n 0, 1) := by decide +kernel
theorem dX9_init_69 : decode cX9_init 69 = .ok (.bipush 6, 2) := by decide +kernel
theorem dX9_init_71 : decode cX9_init 71 = .ok (.newarray .int, 2) := by decide +kernel
theorem dX9_init_73 : decode cX9_init 73 = .ok (.putfield 35, 3) := by decide +kernel
theorem dX9_init_76 : decode cX9_init 76 = .ok (.aload_n 0, 1) := by decide +kernel
theorem dX9_init_77 : decode cX9_init 77 = .ok (.bipush 6, 2) := by decide +kernel
theorem dX9_init_79 : decode cX9_init 79 = .ok (.newarray .int, 2) := by decide +kernel
theorem dX9_init_81 : decode cX9_init 81 = .ok (.putfield 38, 3) := by decide +kernel
theorem dX9_init_84 : decode cX9_init 84 = .ok (.aload_n 0, 1) := by decide +kernel
theorem dX9_init_85 : decode cX9_init 85 = .ok (.sipush 216, 3) := by decide +kernel
theorem dX9_init_88 : decode cX9_init 88 = .ok (.newarray .int, 2) := by decide +kernel
theorem dX9_init_90 : decode cX9_init 90 = .ok (.putfield 41, 3) := by decide +kernel
theorem dX9_init_93 : decode cX9_init 93 = .ok (.aload_n 0, 1) := by decide +kernel
theorem dX9_init_94 : decode cX9_init 94 = .ok (.sipush 216, 3) := by decide +kernel
theorem dX9_init_97 : decode cX9_init 97 = .ok (.newarray .int, 2) := by decide +kernel
theorem dX9_init_99 : decode cX9_init 99 = .ok (.putfield 44, 3) := by decide +kernel
theorem dX9_init_102 : decode cX9_init 102 = .ok (.aload_n 0, 1) := by decide +kernel
theorem dX9_init_103 : decode cX9_init 103 = .ok (.iconst 3, 1) := by decide +kernel
theorem dX9_init_104 : decode cX9_init 104 = .ok (.newarray .int, 2) := by decide +kernel
theorem dX9_init_106 : decode cX9_init 106 = .ok (.putfield 47, 3) := by decide +kernel
theorem dX9_init_109 : decode cX9_init 109 = .ok (.aload_n 0, 1) := by decide +kernel
theorem dX9_init_110 : decode cX9_init 110 = .ok (.bipush 18, 2) := by decide +kernel
theorem dX9_init_112 : decode cX9_init 112 = .ok (.newarray .int, 2) := by decide +kernel
theorem dX9_init_114 : decode cX9_init 114 = .ok (.putfield 50, 3) := by decide +kernel
theorem dX9_init_117 : decode cX9_init 117 = .ok (.aload_n 0, 1) := by decide +kernel
theorem dX9_init_118 : decode cX9_init 118 = .ok (.bipush 6, 2) := by decide +kernel
theorem dX9_init_120 : decode cX9_init 120 = .ok (.newarray .int, 2) := by decide +kernel
theorem dX9_init_122 : decode cX9_init 122 = .ok (.putfield 53, 3) := by decide +kernel
theorem dX9_init_125 : decode cX9_init 125 = .ok (.aload_n 0, 1) := by decide +kernel
theorem dX9_init_126 : decode cX9_init 126 = .ok (.bipush 12, 2) := by decide +kernel
theorem dX9_init_128 : decode cX9_init 128 = .ok (.newarray .int, 2) := by decide +kernel
theorem dX9_init_130 : decode cX9_init 130 = .ok (.putfield 56, 3) := by decide +kernel
theorem dX9_init_133 : decode cX9_init 133 = .ok (.aload_n 0, 1) := by decide +kernel
theorem dX9_init_134 : decode cX9_init 134 = .ok (.bipush 12, 2) := by decide +kernel
theorem dX9_init_136 : decode cX9_init 136 = .ok (.newarray .int, 2) := by decide +kernel
theorem dX9_init_138 : decode cX9_init 138 = .ok (.putfield 59, 3) := by decide +kernel
theorem dX9_init_141 : decode cX9_init 141 = .ok (.aload_n 0, 1) := by decide +kernel
theorem dX9_init_142 : decode cX9_init 142 = .ok (.bipush 12, 2) := by decide +kernel
theorem dX9_init_144 : decode cX9_init 144 = .ok (.newarray .int, 2) := by decide +kernel
theorem dX9_init_146 : decode cX9_init 146 = .ok (.putfield 62, 3) := by decide +kernel
theorem dX9_init_149 : decode cX9_init 149 = .ok (.aload_n 0, 1) := by decide +kernel
theorem dX9_init_150 : decode cX9_init 150 = .ok (.bipush 12, 2) := by decide +kernel
theorem dX9_init_152 : decode cX9_init 152 = .ok (.newarray .int, 2) := by decide +kernel
theorem dX9_init_154 : decode cX9_init 154 = .ok (.putfield 65, 3) := by decide +kernel
theorem dX9_init_157 : decode cX9_init 157 = .ok (.aload_n 0, 1) := by decide +kernel
theorem dX9_init_158 : decode cX9_init 158 = .ok (.iconst 3, 1) := by decide +kernel
theorem dX9_init_159 : decode cX9_init 159 = .ok (.newarray .int, 2) := by decide +kernel
theorem dX9_init_161 : decode cX9_init 161 = .ok (.putfield 68, 3) := by decide +kernel
theorem dX9_init_164 : decode cX9_init 164 = .ok (.aload_n 0, 1) := by decide +kernel
theorem dX9_init_165 : decode cX9_init 165 = .ok (.sipush 252, 3) := by decide +kernel
theorem dX9_init_168 : decode cX9_init 168 = .ok (.newarray .boolean, 2) := by decide +kernel
theorem dX9_init_170 : decode cX9_init 170 = .ok (.putfield 71, 3) := by decide +kernel
theorem dX9_init_173 : decode cX9_init 173 = .ok (.aload_n 0, 1) := by decide +kernel
theorem dX9_init_174 : decode cX9_init 174 = .ok (.bipush 36, 2) := by decide +kernel
theorem dX9_init_176 : decode cX9_init 176 = .ok (.newarray .int, 2) := by decide +kernel
theorem dX9_init_178 : decode cX9_init 178 = .ok (.putfield 74, 3) := by decide +kernel
theorem dX9_init_181 : decode cX9_init 181 = .ok (.aload_n 0, 1) := by decide +kernel
theorem dX9_init_182 : decode cX9_init 182 = .ok (.bipush 10, 2) := by decide +kernel
theorem dX9_init_184 : decode cX9_init 184 = .ok (.newarray .int, 2) := by decide +kernel
theorem dX9_init_186 : decode cX9_init 186 = .ok (.putfield 77, 3) := by decide +kernel
theorem dX9_init_189 : decode cX9_init 189 = .ok (.aload_n 0, 1) := by decide +kernel
theorem dX9_init_190 : decode cX9_init 190 = .ok (.bipush 10, 2) := by decide +kernel
theorem dX9_init_192 : decode cX9_init 192 = .ok (.newarray .int, 2) := by decide +kernel
theorem dX9_init_194 : decode cX9_init 194 = .ok (.putfield 80, 3) := by decide +kernel
theorem dX9_init_197 : decode cX9_init 197 = .ok (.aload_n 0, 1) := by decide +kernel
theorem dX9_init_198 : decode cX9_init 198 = .ok (.iconst 4, 1) := by decide +kernel
theorem dX9_init_199 : decode cX9_init 199 = .ok (.iconst 4, 1) := by decide +kernel
theorem dX9_init_200 : decode cX9_init 200 = .ok (.invokevirtual 83, 3) := by decide +kernel
theorem dX9_init_203 : decode cX9_init 203 = .ok (.return_, 1) := by decide +kernel
theorem dX9_in_0 : decode cX9_in 0 = .ok (.lload_n 0, 1) := by decide +kernel
theorem dX9_in_1 : decode cX9_in 1 = .ok (.lload_n 2, 1) := by decide +kernel
theorem dX9_in_2 : decode cX9_in 2 = .ok (.lcmp, 1) := by decide +kernel
theorem dX9_in_3 : decode cX9_in 3 = .ok (.ifCond .lt 14, 3) := by decide +kernel
theorem dX9_in_6 : decode cX9_in 6 = .ok (.lload_n 0, 1) := by decide +kernel
theorem dX9_in_7 : decode cX9_in 7 = .ok (.lload 4, 2) := by decide +kernel
theorem dX9_in_9 : decode cX9_in 9 = .ok (.lcmp, 1) := by decide +kernel
theorem dX9_in_10 : decode cX9_in 10 = .ok (.ifCond .gt 7, 3) := by decide +kernel
theorem dX9_in_13 : decode cX9_in 13 = .ok (.iconst 1, 1) := by decide +kernel
theorem dX9_in_14 : decode cX9_in 14 = .ok (.goto 4, 3) := by decide +kernel
theorem dX9_in_17 : decode cX9_in 17 = .ok (.iconst 0, 1) := by decide +kernel
theorem dX9_in_18 : decode cX9_in 18 = .ok (.ireturn, 1) := by decide +kernel
theorem dX9_layLand_0 : decode cX9_layLand 0 = .ok (.aload_n 0, 1) := by decide +kernel
theorem dX9_layLand_1 : decode cX9_layLand 1 = .ok (.iload_n 1, 1) := by decide +kernel
theorem dX9_layLand_2 : decode cX9_layLand 2 = .ok (.putfield 87, 3) := by decide +kernel
theorem dX9_layLand_5 : decode cX9_layLand 5 = .ok (.aload_n 0, 1) := by decide +kernel
theorem dX9_layLand_6 : decode cX9_layLand 6 = .ok (.iload_n 2, 1) := by decide +kernel
theorem dX9_layLand_7 : decode cX9_layLand 7 = .ok (.putfield 91, 3) := by decide +kernel
theorem dX9_layLand_10 : decode cX9_layLand 10 = .ok (.iconst 0, 1) := by decide +kernel
theorem dX9_layLand_11 : decode cX9_layLand 11 = .ok (.istore_n 3, 1) := by decide +kernel
theorem dX9_layLand_12 : decode cX9_layLand 12 = .ok (.iload_n 3, 1) := by decide +kernel
theorem dX9_layLand_13 : decode cX9_layLand 13 = .ok (.bipush 36, 2) := by decide +kernel
theorem dX9_layLand_15 : decode cX9_layLand 15 = .ok (.if_icmp .ge 23, 3) := by decide +kernel
theorem dX9_layLand_18 : decode cX9_layLand 18 = .ok (.aload_n 0, 1) := by decide +kernel
theorem dX9_layLand_19 : decode cX9_layLand 19 = .ok (.getfield 7, 3) := by decide +kernel
theorem dX9_layLand_22 : decode cX9_layLand 22 = .ok (.iload_n 3, 1) := by decide +kernel
theorem dX9_layLand_23 : decode cX9_layLand 23 = .ok (.iconst 0, 1) := by decide +kernel
theorem dX9_layLand_24 : decode cX9_layLand 24 = .ok (.iastore, 1) := by decide +kernel
theorem dX9_layLand_25 : decode cX9_layLand 25 = .ok (.aload_n 0, 1) := by decide +kernel
theorem dX9_layLand_26 : decode cX9_layLand 26 = .ok (.getfield 13, 3) := by decide +kernel
theorem dX9_layLand_29 : decode cX9_layLand 29 = .ok (.iload_n 3, 1) := by decide +kernel
theorem dX9_layLand_30 : decode cX9_layLand 30 = .ok (.iconst 0, 1) := by decide +kernel
theorem dX9_layLand_31 : decode cX9_layLand 31 = .ok (.iastore, 1) := by decide +kernel
theorem dX9_layLand_32 : decode cX9_layLand 32 = .ok (.iinc 3 1, 3) := by decide +kernel
theorem dX9_layLand_35 : decode cX9_layLand 35 = .ok (.goto (-23), 3) := by decide +kernel
theorem dX9_layLand_38 : decode cX9_layLand 38 = .ok (.aload_n 0, 1) := by decide +kernel
theorem dX9_layLand_39 : decode cX9_layLand 39 = .ok (.iconst 0, 1) := by decide +kernel
theorem dX9_layLand_40 : decode cX9_layLand 40 = .ok (.putfield 94, 3) := by decide +kernel
theorem dX9_layLand_43 : decode cX9_layLand 43 = .ok (.aload_n 0, 1) := by decide +kernel
theorem dX9_layLand_44 : decode cX9_layLand 44 = .ok (.iconst 0, 1) := by decide +kernel
theorem dX9_layLand_45 : decode cX9_layLand 45 = .ok (.putfield 97, 3) := by decide +kernel
theorem dX9_layLand_48 : decode cX9_layLand 48 = .ok (.aload_n 0, 1) := by decide +kernel
theorem dX9_layLand_49 : decode cX9_layLand 49 = .ok (.iconst 0, 1) := by decide +kernel
theorem dX9_layLand_50 : decode cX9_layLand 50 = .ok (.putfield 100, 3) := by decide +kernel
theorem dX9_layLand_53 : decode cX9_layLand 53 = .ok (.iconst 0, 1) := by decide +kernel
theorem dX9_layLand_54 : decode cX9_layLand 54 = .ok (.istore_n 3, 1) := by decide +kernel
theorem dX9_layLand_55 : decode cX9_layLand 55 = .ok (.iload_n 3, 1) := by decide +kernel
theorem dX9_layLand_56 : decode cX9_layLand 56 = .ok (.iconst 3, 1) := by decide +kernel
theorem dX9_layLand_57 : decode cX9_layLand 57 = .ok (.if_icmp .ge 16, 3) := by decide +kernel
theorem dX9_layLand_60 : decode cX9_layLand 60 = .ok (.aload_n 0, 1) := by decide +kernel
theorem dX9_layLand_61 : decode cX9_layLand 61 = .ok (.getfield 47, 3) := by decide +kernel
theorem dX9_layLand_64 : decode cX9_layLand 64 = .ok (.iload_n 3, 1) := by decide +kernel
theorem dX9_layLand_65 : decode cX9_layLand 65 = .ok (.iconst 0, 1) := by decide +kernel
theorem dX9_layLand_66 : decode cX9_layLand 66 = .ok (.iastore, 1) := by decide +kernel
theorem dX9_layLand_67 : decode cX9_layLand 67 = .ok (.iinc 3 1, 3) := by decide +kernel
theorem dX9_layLand_70 : decode cX9_layLand 70 = .ok (.goto (-15), 3) := by decide +kernel
theorem dX9_layLand_73 : decode cX9_layLand 73 = .ok (.return_, 1) := by decide +kernel
theorem dX9_cells_0 : decode cX9_cells 0 = .ok (.aload_n 0, 1) := by decide +kernel
theorem dX9_cells_1 : decode cX9_cells 1 = .ok (.getfield 87, 3) := by decide +kernel
theorem dX9_cells_4 : decode cX9_cells 4 = .ok (.aload_n 0, 1) := by decide +kernel
theorem dX9_cells_5 : decode cX9_cells 5 = .ok (.getfield 91, 3) := by decide +kernel
theorem dX9_cells_8 : decode cX9_cells 8 = .ok (.imul, 1) := by decide +kernel
theorem dX9_cells_9 : decode cX9_cells 9 = .ok (.ireturn, 1) := by decide +kernel
theorem dX9_isCell_0 : decode cX9_isCell 0 = .ok (.iload_n 1, 1) := by decide +kernel
theorem dX9_isCell_1 : decode cX9_isCell 1 = .ok (.i2l, 1) := by decide +kernel
theorem dX9_isCell_2 : decode cX9_isCell 2 = .ok (.lconst 0, 1) := by decide +kernel
theorem dX9_isCell_3 : decode cX9_isCell 3 = .ok (.aload_n 0, 1) := by decide +kernel
theorem dX9_isCell_4 : decode cX9_isCell 4 = .ok (.invokevirtual 103, 3) := by decide +kernel
theorem dX9_isCell_7 : decode cX9_isCell 7 = .ok (.iconst 1, 1) := by decide +kernel
theorem dX9_isCell_8 : decode cX9_isCell 8 = .ok (.isub, 1) := by decide +kernel
theorem dX9_isCell_9 : decode cX9_isCell 9 = .ok (.i2l, 1) := by decide +kernel
theorem dX9_isCell_10 : decode cX9_isCell 10 = .ok (.invokestatic 107, 3) := by decide +kernel
theorem dX9_isCell_13 : decode cX9_isCell 13 = .ok (.ireturn, 1) := by decide +kernel
theorem dX9_isStone_0 : decode cX9_isStone 0 = .ok (.iload_n 1, 1) := by decide +kernel
theorem dX9_isStone_1 : decode cX9_isStone 1 = .ok (.i2l, 1) := by decide +kernel
theorem dX9_isStone_2 : decode cX9_isStone 2 = .ok (.lconst 0, 1) := by decide +kernel
theorem dX9_isStone_3 : decode cX9_isStone 3 = .ok (.aload_n 0, 1) := by decide +kernel
theorem dX9_isStone_4 : decode cX9_isStone 4 = .ok (.getfield 94, 3) := by decide +kernel
theorem dX9_isStone_7 : decode cX9_isStone 7 = .ok (.iconst 1, 1) := by decide +kernel
theorem dX9_isStone_8 : decode cX9_isStone 8 = .ok (.isub, 1) := by decide +kernel
theorem dX9_isStone_9 : decode cX9_isStone 9 = .ok (.i2l, 1) := by decide +kernel
theorem dX9_isStone_10 : decode cX9_isStone 10 = .ok (.invokestatic 107, 3) := by decide +kernel
theorem dX9_isStone_13 : decode cX9_isStone 13 = .ok (.ireturn, 1) := by decide +kernel
theorem dX9_isWeight_0 : decode cX9_isWeight 0 = .ok (.iload_n 0, 1) := by decide +kernel
theorem dX9_isWeight_1 : decode cX9_isWeight 1 = .ok (.i2l, 1) := by decide +kernel
theorem dX9_isWeight_2 : decode cX9_isWeight 2 = .ok (.lconst 1, 1) := by decide +kernel
theorem dX9_isWeight_3 : decode cX9_isWeight 3 = .ok (.ldc2_w 111, 3) := by decide +kernel
theorem dX9_isWeight_6 : decode cX9_isWeight 6 = .ok (.invokestatic 107, 3) := by decide +kernel
theorem dX9_isWeight_9 : decode cX9_isWeight 9 = .ok (.ireturn, 1) := by decide +kernel
theorem dX9_land_0 : decode cX9_land 0 = .ok (.iload_n 1, 1) := by decide +kernel
theorem dX9_land_1 : decode cX9_land 1 = .ok (.i2l, 1) := by decide +kernel
theorem dX9_land_2 : decode cX9_land 2 = .ok (.ldc2_w 113, 3) := by decide +kernel
theorem dX9_land_5 : decode cX9_land 5 = .ok (.ldc2_w 115, 3) := by decide +kernel
theorem dX9_land_8 : decode cX9_land 8 = .ok (.invokestatic 107, 3) := by decide +kernel
theorem dX9_land_11 : decode cX9_land 11 = .ok (.ifCond .eq 17, 3) := by decide +kernel
theorem dX9_land_14 : decode cX9_land 14 = .ok (.iload_n 2, 1) := by decide +kernel
theorem dX9_land_15 : decode cX9_land 15 = .ok (.i2l, 1) := by decide +kernel
theorem dX9_land_16 : decode cX9_land 16 = .ok (.ldc2_w 113, 3) := by decide +kernel
theorem dX9_land_19 : decode cX9_land 19 = .ok (.ldc2_w 115, 3) := by decide +kernel
theorem dX9_land_22 : decode cX9_land 22 = .ok (.invokestatic 107, 3) := by decide +kernel
theorem dX9_land_25 : decode cX9_land 25 = .ok (.ifCond .ne 6, 3) := by decide +kernel
theorem dX9_land_28 : decode cX9_land 28 = .ok (.ldc 117, 2) := by decide +kernel
theorem dX9_land_30 : decode cX9_land 30 = .ok (.ireturn, 1) := by decide +kernel
theorem dX9_land_31 : decode cX9_land 31 = .ok (.aload_n 0, 1) := by decide +kernel
theorem dX9_land_32 : decode cX9_land 32 = .ok (.iload_n 1, 1) := by decide +kernel
theorem dX9_land_33 : decode cX9_land 33 = .ok (.iload_n 2, 1) := by decide +kernel
theorem dX9_land_34 : decode cX9_land 34 = .ok (.invokevirtual 83, 3) := by decide +kernel
theorem dX9_land_37 : decode cX9_land 37 = .ok (.iload_n 1, 1) := by decide +kernel
theorem dX9_land_38 : decode cX9_land 38 = .ok (.iload_n 2, 1) := by decide +kernel
theorem dX9_land_39 : decode cX9_land 39 = .ok (.imul, 1) := by decide +kernel
theorem dX9_land_40 : decode cX9_land 40 = .ok (.ireturn, 1) := by decide +kernel
theorem dX9_cell_0 : decode cX9_cell 0 = .ok (.aload_n 0, 1) := by decide +kernel
theorem dX9_cell_1 : decode cX9_cell 1 = .ok (.iload_n 1, 1) := by decide +kernel
theorem dX9_cell_2 : decode cX9_cell 2 = .ok (.invokevirtual 118, 3) := by decide +kernel
theorem dX9_cell_5 : decode cX9_cell 5 = .ok (.ifCond .ne 6, 3) := by decide +kernel
theorem dX9_cell_8 : decode cX9_cell 8 = .ok (.ldc 122, 2) := by decide +kernel
theorem dX9_cell_10 : decode cX9_cell 10 = .ok (.ireturn, 1) := by decide +kernel
theorem dX9_cell_11 : decode cX9_cell 11 = .ok (.iload_n 2, 1) := by decide +kernel
theorem dX9_cell_12 : decode cX9_cell 12 = .ok (.ifCond .ne 15, 3) := by decide +kernel
theorem dX9_cell_15 : decode cX9_cell 15 = .ok (.iload_n 3, 1) := by decide +kernel
theorem dX9_cell_16 : decode cX9_cell 16 = .ok (.i2l, 1) := by decide +kernel
theorem dX9_cell_17 : decode cX9_cell 17 = .ok (.lconst 0, 1) := by decide +kernel
theorem dX9_cell_18 : decode cX9_cell 18 = .ok (.ldc2_w 123, 3) := by decide +kernel
theorem dX9_cell_21 : decode cX9_cell 21 = .ok (.invokestatic 107, 3) := by decide +kernel
theorem dX9_cell_24 : decode cX9_cell 24 = .ok (.ifCond .ne 23, 3) := by decide +kernel
theorem dX9_cell_27 : decode cX9_cell 27 = .ok (.iload_n 2, 1) := by decide +kernel
theorem dX9_cell_28 : decode cX9_cell 28 = .ok (.iconst 1, 1) := by decide +kernel
theorem dX9_cell_29 : decode cX9_cell 29 = .ok (.if_icmp .ne 15, 3) := by decide +kernel
theorem dX9_cell_32 : decode cX9_cell 32 = .ok (.iload_n 3, 1) := by decide +kernel
theorem dX9_cell_33 : decode cX9_cell 33 = .ok (.i2l, 1) := by decide +kernel
theorem dX9_cell_34 : decode cX9_cell 34 = .ok (.lconst 0, 1) := by decide +kernel
theorem dX9_cell_35 : decode cX9_cell 35 = .ok (.ldc2_w 125, 3) := by decide +kernel
theorem dX9_cell_38 : decode cX9_cell 38 = .ok (.invokestatic 107, 3) := by decide +kernel
theorem dX9_cell_41 : decode cX9_cell 41 = .ok (.ifCond .ne 6, 3) := by decide +kernel
theorem dX9_cell_44 : decode cX9_cell 44 = .ok (.ldc 117, 2) := by decide +kernel
theorem dX9_cell_46 : decode cX9_cell 46 = .ok (.ireturn, 1) := by decide +kernel
theorem dX9_cell_47 : decode cX9_cell 47 = .ok (.iload_n 2, 1) := by decide +kernel
theorem dX9_cell_48 : decode cX9_cell 48 = .ok (.ifCond .ne 12, 3) := by decide +kernel
theorem dX9_cell_51 : decode cX9_cell 51 = .ok (.aload_n 0, 1) := by decide +kernel
theorem dX9_cell_52 : decode cX9_cell 52 = .ok (.getfield 7, 3) := by decide +kernel
theorem dX9_cell_55 : decode cX9_cell 55 = .ok (.iload_n 1, 1) := by decide +kernel
theorem dX9_cell_56 : decode cX9_cell 56 = .ok (.iaload, 1) := by decide +kernel
theorem dX9_cell_57 : decode cX9_cell 57 = .ok (.goto 9, 3) := by decide +kernel
theorem dX9_cell_60 : decode cX9_cell 60 = .ok (.aload_n 0, 1) := by decide +kernel
theorem dX9_cell_61 : decode cX9_cell 61 = .ok (.getfield 13, 3) := by decide +kernel
theorem dX9_cell_64 : decode cX9_cell 64 = .ok (.iload_n 1, 1) := by decide +kernel
theorem dX9_cell_65 : decode cX9_cell 65 = .ok (.iaload, 1) := by decide +kernel
theorem dX9_cell_66 : decode cX9_cell 66 = .ok (.istore 4, 2) := by decide +kernel
theorem dX9_cell_68 : decode cX9_cell 68 = .ok (.iload_n 2, 1) := by decide +kernel
theorem dX9_cell_69 : decode cX9_cell 69 = .ok (.ifCond .ne 13, 3) := by decide +kernel
theorem dX9_cell_72 : decode cX9_cell 72 = .ok (.aload_n 0, 1) := by decide +kernel
theorem dX9_cell_73 : decode cX9_cell 73 = .ok (.getfield 7, 3) := by decide +kernel
theorem dX9_cell_76 : decode cX9_cell 76 = .ok (.iload_n 1, 1) := by decide +kernel
theorem dX9_cell_77 : decode cX9_cell 77 = .ok (.iload_n 3, 1) := by decide +kernel
theorem dX9_cell_78 : decode cX9_cell 78 = .ok (.iastore, 1) := by decide +kernel
theorem dX9_cell_79 : decode cX9_cell 79 = .ok (.goto 10, 3) := by decide +kernel
theorem dX9_cell_82 : decode cX9_cell 82 = .ok (.aload_n 0, 1) := by decide +kernel
theorem dX9_cell_83 : decode cX9_cell 83 = .ok (.getfield 13, 3) := by decide +kernel
theorem dX9_cell_86 : decode cX9_cell 86 = .ok (.iload_n 1, 1) := by decide +kernel
theorem dX9_cell_87 : decode cX9_cell 87 = .ok (.iload_n 3, 1) := by decide +kernel
theorem dX9_cell_88 : decode cX9_cell 88 = .ok (.iastore, 1) := by decide +kernel
theorem dX9_cell_89 : decode cX9_cell 89 = .ok (.iload 4, 2) := by decide +kernel
theorem dX9_cell_91 : decode cX9_cell 91 = .ok (.ireturn, 1) := by decide +kernel
theorem dX9_stone_0 : decode cX9_stone 0 = .ok (.aload_n 0, 1) := by decide +kernel
theorem dX9_stone_1 : decode cX9_stone 1 = .ok (.iload_n 1, 1) := by decide +kernel
theorem dX9_stone_2 : decode cX9_stone 2 = .ok (.invokevirtual 118, 3) := by decide +kernel
theorem dX9_stone_5 : decode cX9_stone 5 = .ok (.ifCond .ne 6, 3) := by decide +kernel
theorem dX9_stone_8 : decode cX9_stone 8 = .ok (.ldc 122, 2) := by decide +kernel
theorem dX9_stone_10 : decode cX9_stone 10 = .ok (.ireturn, 1) := by decide +kernel
theorem dX9_stone_11 : decode cX9_stone 11 = .ok (.iload_n 2, 1) := by decide +kernel
theorem dX9_stone_12 : decode cX9_stone 12 = .ok (.i2l, 1) := by decide +kernel
theorem dX9_stone_13 : decode cX9_stone 13 = .ok (.lconst 0, 1) := by decide +kernel
theorem dX9_stone_14 : decode cX9_stone 14 = .ok (.ldc2_w 125, 3) := by decide +kernel
theorem dX9_stone_17 : decode cX9_stone 17 = .ok (.invokestatic 107, 3) := by decide +kernel
theorem dX9_stone_20 : decode cX9_stone 20 = .ok (.ifCond .eq 10, 3) := by decide +kernel
theorem dX9_stone_23 : decode cX9_stone 23 = .ok (.iload_n 3, 1) := by decide +kernel
theorem dX9_stone_24 : decode cX9_stone 24 = .ok (.invokestatic 127, 3) := by decide +kernel
theorem dX9_stone_27 : decode cX9_stone 27 = .ok (.ifCond .ne 6, 3) := by decide +kernel
theorem dX9_stone_30 : decode cX9_stone 30 = .ok (.ldc 117, 2) := by decide +kernel
theorem dX9_stone_32 : decode cX9_stone 32 = .ok (.ireturn, 1) := by decide +kernel
theorem dX9_stone_33 : decode cX9_stone 33 = .ok (.aload_n 0, 1) := by decide +kernel
theorem dX9_stone_34 : decode cX9_stone 34 = .ok (.getfield 94, 3) := by decide +kernel
theorem dX9_stone_37 : decode cX9_stone 37 = .ok (.bipush 12, 2) := by decide +kernel
theorem dX9_stone_39 : decode cX9_stone 39 = .ok (.if_icmp .ne 6, 3) := by decide +kernel
theorem dX9_stone_42 : decode cX9_stone 42 = .ok (.ldc 130, 2) := by decide +kernel
theorem dX9_stone_44 : decode cX9_stone 44 = .ok (.ireturn, 1) := by decide +kernel
theorem dX9_stone_45 : decode cX9_stone 45 = .ok (.aload_n 0, 1) := by decide +kernel
theorem dX9_stone_46 : decode cX9_stone 46 = .ok (.getfield 16, 3) := by decide +kernel
theorem dX9_stone_49 : decode cX9_stone 49 = .ok (.aload_n 0, 1) := by decide +kernel
theorem dX9_stone_50 : decode cX9_stone 50 = .ok (.getfield 94, 3) := by decide +kernel
theorem dX9_stone_53 : decode cX9_stone 53 = .ok (.iload_n 1, 1) := by decide +kernel
theorem dX9_stone_54 : decode cX9_stone 54 = .ok (.iastore, 1) := by decide +kernel
theorem dX9_stone_55 : decode cX9_stone 55 = .ok (.aload_n 0, 1) := by decide +kernel
theorem dX9_stone_56 : decode cX9_stone 56 = .ok (.getfield 19, 3) := by decide +kernel
theorem dX9_stone_59 : decode cX9_stone 59 = .ok (.aload_n 0, 1) := by decide +kernel
theorem dX9_stone_60 : decode cX9_stone 60 = .ok (.getfield 94, 3) := by decide +kernel
theorem dX9_stone_63 : decode cX9_stone 63 = .ok (.iload_n 2, 1) := by decide +kernel
theorem dX9_stone_64 : decode cX9_stone 64 = .ok (.iastore, 1) := by decide +kernel
theorem dX9_stone_65 : decode cX9_stone 65 = .ok (.aload_n 0, 1) := by decide +kernel
theorem dX9_stone_66 : decode cX9_stone 66 = .ok (.getfield 22, 3) := by decide +kernel
theorem dX9_stone_69 : decode cX9_stone 69 = .ok (.aload_n 0, 1) := by decide +kernel
theorem dX9_stone_70 : decode cX9_stone 70 = .ok (.getfield 94, 3) := by decide +kernel
theorem dX9_stone_73 : decode cX9_stone 73 = .ok (.iload_n 3, 1) := by decide +kernel
theorem dX9_stone_74 : decode cX9_stone 74 = .ok (.iastore, 1) := by decide +kernel
theorem dX9_stone_75 : decode cX9_stone 75 = .ok (.aload_n 0, 1) := by decide +kernel
theorem dX9_stone_76 : decode cX9_stone 76 = .ok (.dup, 1) := by decide +kernel
theorem dX9_stone_77 : decode cX9_stone 77 = .ok (.getfield 94, 3) := by decide +kernel
theorem dX9_stone_80 : decode cX9_stone 80 = .ok (.iconst 1, 1) := by decide +kernel
theorem dX9_stone_81 : decode cX9_stone 81 = .ok (.iadd, 1) := by decide +kernel
theorem dX9_stone_82 : decode cX9_stone 82 = .ok (.putfield 94, 3) := by decide +kernel
theorem dX9_stone_85 : decode cX9_stone 85 = .ok (.aload_n 0, 1) := by decide +kernel
theorem dX9_stone_86 : decode cX9_stone 86 = .ok (.getfield 94, 3) := by decide +kernel
theorem dX9_stone_89 : decode cX9_stone 89 = .ok (.iconst 1, 1) := by decide +kernel
theorem dX9_stone_90 : decode cX9_stone 90 = .ok (.isub, 1) := by decide +kernel
theorem dX9_stone_91 : decode cX9_stone 91 = .ok (.ireturn, 1) := by decide +kernel
theorem dX9_dug_0 : decode cX9_dug 0 = .ok (.aload_n 0, 1) := by decide +kernel
theorem dX9_dug_1 : decode cX9_dug 1 = .ok (.iload_n 1, 1) := by decide +kernel
theorem dX9_dug_2 : decode cX9_dug 2 = .ok (.invokevirtual 131, 3) := by decide +kernel
theorem dX9_dug_5 : decode cX9_dug 5 = .ok (.ifCond .eq 11, 3) := by decide +kernel
theorem dX9_dug_8 : decode cX9_dug 8 = .ok (.aload_n 0, 1) := by decide +kernel
theorem dX9_dug_9 : decode cX9_dug 9 = .ok (.iload_n 2, 1) := by decide +kernel
theorem dX9_dug_10 : decode cX9_dug 10 = .ok (.invokevirtual 118, 3) := by decide +kernel
theorem dX9_dug_13 : decode cX9_dug 13 = .ok (.ifCond .ne 6, 3) := by decide +kernel
theorem dX9_dug_16 : decode cX9_dug 16 = .ok (.ldc 122, 2) := by decide +kernel
theorem dX9_dug_18 : decode cX9_dug 18 = .ok (.ireturn, 1) := by decide +kernel
theorem dX9_dug_19 : decode cX9_dug 19 = .ok (.aload_n 0, 1) := by decide +kernel
theorem dX9_dug_20 : decode cX9_dug 20 = .ok (.getfield 16, 3) := by decide +kernel
theorem dX9_dug_23 : decode cX9_dug 23 = .ok (.iload_n 1, 1) := by decide +kernel
theorem dX9_dug_24 : decode cX9_dug 24 = .ok (.iaload, 1) := by decide +kernel
theorem dX9_dug_25 : decode cX9_dug 25 = .ok (.istore_n 3, 1) := by decide +kernel
theorem dX9_dug_26 : decode cX9_dug 26 = .ok (.aload_n 0, 1) := by decide +kernel
theorem dX9_dug_27 : decode cX9_dug 27 = .ok (.getfield 16, 3) := by decide +kernel
theorem dX9_dug_30 : decode cX9_dug 30 = .ok (.iload_n 1, 1) := by decide +kernel
theorem dX9_dug_31 : decode cX9_dug 31 = .ok (.iload_n 2, 1) := by decide +kernel
theorem dX9_dug_32 : decode cX9_dug 32 = .ok (.iastore, 1) := by decide +kernel
theorem dX9_dug_33 : decode cX9_dug 33 = .ok (.iload_n 3, 1) := by decide +kernel
theorem dX9_dug_34 : decode cX9_dug 34 = .ok (.ireturn, 1) := by decide +kernel
theorem dX9_beside_0 : decode cX9_beside 0 = .ok (.iload_n 1, 1) := by decide +kernel
theorem dX9_beside_1 : decode cX9_beside 1 = .ok (.aload_n 0, 1) := by decide +kernel
theorem dX9_beside_2 : decode cX9_beside 2 = .ok (.getfield 87, 3) := by decide +kernel
theorem dX9_beside_5 : decode cX9_beside 5 = .ok (.irem, 1) := by decide +kernel
theorem dX9_beside_6 : decode cX9_beside 6 = .ok (.iload_n 2, 1) := by decide +kernel
theorem dX9_beside_7 : decode cX9_beside 7 = .ok (.ifCond .ne 7, 3) := by decide +kernel
theorem dX9_beside_10 : decode cX9_beside 10 = .ok (.iconst 1, 1) := by decide +kernel
theorem dX9_beside_11 : decode cX9_beside 11 = .ok (.goto 13, 3) := by decide +kernel
theorem dX9_beside_14 : decode cX9_beside 14 = .ok (.iload_n 2, 1) := by decide +kernel
theorem dX9_beside_15 : decode cX9_beside 15 = .ok (.iconst 2, 1) := by decide +kernel
theorem dX9_beside_16 : decode cX9_beside 16 = .ok (.if_icmp .ne 7, 3) := by decide +kernel
theorem dX9_beside_19 : decode cX9_beside 19 = .ok (.iconst (-1), 1) := by decide +kernel
theorem dX9_beside_20 : decode cX9_beside 20 = .ok (.goto 4, 3) := by decide +kernel
theorem dX9_beside_23 : decode cX9_beside 23 = .ok (.iconst 0, 1) := by decide +kernel
theorem dX9_beside_24 : decode cX9_beside 24 = .ok (.iadd, 1) := by decide +kernel
theorem dX9_beside_25 : decode cX9_beside 25 = .ok (.istore_n 3, 1) := by decide +kernel
theorem dX9_beside_26 : decode cX9_beside 26 = .ok (.iload_n 1, 1) := by decide +kernel
theorem dX9_beside_27 : decode cX9_beside 27 = .ok (.aload_n 0, 1) := by decide +kernel
theorem dX9_beside_28 : decode cX9_beside 28 = .ok (.getfield 87, 3) := by decide +kernel
theorem dX9_beside_31 : decode cX9_beside 31 = .ok (.idiv, 1) := by decide +kernel
theorem dX9_beside_32 : decode cX9_beside 32 = .ok (.iload_n 2, 1) := by decide +kernel
theorem dX9_beside_33 : decode cX9_beside 33 = .ok (.iconst 1, 1) := by decide +kernel
theorem dX9_beside_34 : decode cX9_beside 34 = .ok (.if_icmp .ne 7, 3) := by decide +kernel
theorem dX9_beside_37 : decode cX9_beside 37 = .ok (.iconst 1, 1) := by decide +kernel
theorem dX9_beside_38 : decode cX9_beside 38 = .ok (.goto 13, 3) := by decide +kernel
theorem dX9_beside_41 : decode cX9_beside 41 = .ok (.iload_n 2, 1) := by decide +kernel
theorem dX9_beside_42 : decode cX9_beside 42 = .ok (.iconst 3, 1) := by decide +kernel
theorem dX9_beside_43 : decode cX9_beside 43 = .ok (.if_icmp .ne 7, 3) := by decide +kernel
theorem dX9_beside_46 : decode cX9_beside 46 = .ok (.iconst (-1), 1) := by decide +kernel
theorem dX9_beside_47 : decode cX9_beside 47 = .ok (.goto 4, 3) := by decide +kernel
theorem dX9_beside_50 : decode cX9_beside 50 = .ok (.iconst 0, 1) := by decide +kernel
theorem dX9_beside_51 : decode cX9_beside 51 = .ok (.iadd, 1) := by decide +kernel
theorem dX9_beside_52 : decode cX9_beside 52 = .ok (.istore 4, 2) := by decide +kernel
theorem dX9_beside_54 : decode cX9_beside 54 = .ok (.iload_n 3, 1) := by decide +kernel
theorem dX9_beside_55 : decode cX9_beside 55 = .ok (.i2l, 1) := by decide +kernel
theorem dX9_beside_56 : decode cX9_beside 56 = .ok (.lconst 0, 1) := by decide +kernel
theorem dX9_beside_57 : decode cX9_beside 57 = .ok (.aload_n 0, 1) := by decide +kernel
theorem dX9_beside_58 : decode cX9_beside 58 = .ok (.getfield 87, 3) := by decide +kernel
theorem dX9_beside_61 : decode cX9_beside 61 = .ok (.iconst 1, 1) := by decide +kernel
theorem dX9_beside_62 : decode cX9_beside 62 = .ok (.isub, 1) := by decide +kernel
theorem dX9_beside_63 : decode cX9_beside 63 = .ok (.i2l, 1) := by decide +kernel
theorem dX9_beside_64 : decode cX9_beside 64 = .ok (.invokestatic 107, 3) := by decide +kernel
theorem dX9_beside_67 : decode cX9_beside 67 = .ok (.ifCond .eq 32, 3) := by decide +kernel
theorem dX9_beside_70 : decode cX9_beside 70 = .ok (.iload 4, 2) := by decide +kernel
theorem dX9_beside_72 : decode cX9_beside 72 = .ok (.i2l, 1) := by decide +kernel
theorem dX9_beside_73 : decode cX9_beside 73 = .ok (.lconst 0, 1) := by decide +kernel
theorem dX9_beside_74 : decode cX9_beside 74 = .ok (.aload_n 0, 1) := by decide +kernel
theorem dX9_beside_75 : decode cX9_beside 75 = .ok (.getfield 91, 3) := by decide +kernel
theorem dX9_beside_78 : decode cX9_beside 78 = .ok (.iconst 1, 1) := by decide +kernel
theorem dX9_beside_79 : decode cX9_beside 79 = .ok (.isub, 1) := by decide +kernel
theorem dX9_beside_80 : decode cX9_beside 80 = .ok (.i2l, 1) := by decide +kernel
theorem dX9_beside_81 : decode cX9_beside 81 = .ok (.invokestatic 107, 3) := by decide +kernel
theorem dX9_beside_84 : decode cX9_beside 84 = .ok (.ifCond .eq 15, 3) := by decide +kernel
theorem dX9_beside_87 : decode cX9_beside 87 = .ok (.iload 4, 2) := by decide +kernel
theorem dX9_beside_89 : decode cX9_beside 89 = .ok (.aload_n 0, 1) := by decide +kernel
theorem dX9_beside_90 : decode cX9_beside 90 = .ok (.getfield 87, 3) := by decide +kernel
theorem dX9_beside_93 : decode cX9_beside 93 = .ok (.imul, 1) := by decide +kernel
theorem dX9_beside_94 : decode cX9_beside 94 = .ok (.iload_n 3, 1) := by decide +kernel
theorem dX9_beside_95 : decode cX9_beside 95 = .ok (.iadd, 1) := by decide +kernel
theorem dX9_beside_96 : decode cX9_beside 96 = .ok (.goto 5, 3) := by decide +kernel
theorem dX9_beside_99 : decode cX9_beside 99 = .ok (.ldc 134, 2) := by decide +kernel
theorem dX9_beside_101 : decode cX9_beside 101 = .ok (.ireturn, 1) := by decide +kernel
theorem dX9_isEdge_0 : decode cX9_isEdge 0 = .ok (.iload_n 1, 1) := by decide +kernel
theorem dX9_isEdge_1 : decode cX9_isEdge 1 = .ok (.aload_n 0, 1) := by decide +kernel
theorem dX9_isEdge_2 : decode cX9_isEdge 2 = .ok (.getfield 87, 3) := by decide +kernel
theorem dX9_isEdge_5 : decode cX9_isEdge 5 = .ok (.irem, 1) := by decide +kernel
theorem dX9_isEdge_6 : decode cX9_isEdge 6 = .ok (.ifCond .eq 42, 3) := by decide +kernel
theorem dX9_isEdge_9 : decode cX9_isEdge 9 = .ok (.iload_n 1, 1) := by decide +kernel
theorem dX9_isEdge_10 : decode cX9_isEdge 10 = .ok (.aload_n 0, 1) := by decide +kernel
theorem dX9_isEdge_11 : decode cX9_isEdge 11 = .ok (.getfield 87, 3) := by decide +kernel
theorem dX9_isEdge_14 : decode cX9_isEdge 14 = .ok (.irem, 1) := by decide +kernel
theorem dX9_isEdge_15 : decode cX9_isEdge 15 = .ok (.aload_n 0, 1) := by decide +kernel
theorem dX9_isEdge_16 : decode cX9_isEdge 16 = .ok (.getfield 87, 3) := by decide +kernel
theorem dX9_isEdge_19 : decode cX9_isEdge 19 = .ok (.iconst 1, 1) := by decide +kernel
theorem dX9_isEdge_20 : decode cX9_isEdge 20 = .ok (.isub, 1) := by decide +kernel
theorem dX9_isEdge_21 : decode cX9_isEdge 21 = .ok (.if_icmp .eq 27, 3) := by decide +kernel
theorem dX9_isEdge_24 : decode cX9_isEdge 24 = .ok (.iload_n 1, 1) := by decide +kernel
theorem dX9_isEdge_25 : decode cX9_isEdge 25 = .ok (.aload_n 0, 1) := by decide +kernel
theorem dX9_isEdge_26 : decode cX9_isEdge 26 = .ok (.getfield 87, 3) := by decide +kernel
theorem dX9_isEdge_29 : decode cX9_isEdge 29 = .ok (.idiv, 1) := by decide +kernel
theorem dX9_isEdge_30 : decode cX9_isEdge 30 = .ok (.ifCond .eq 18, 3) := by decide +kernel
theorem dX9_isEdge_33 : decode cX9_isEdge 33 = .ok (.iload_n 1, 1) := by decide +kernel
theorem dX9_isEdge_34 : decode cX9_isEdge 34 = .ok (.aload_n 0, 1) := by decide +kernel
theorem dX9_isEdge_35 : decode cX9_isEdge 35 = .ok (.getfield 87, 3) := by decide +kernel
theorem dX9_isEdge_38 : decode cX9_isEdge 38 = .ok (.idiv, 1) := by decide +kernel
theorem dX9_isEdge_39 : decode cX9_isEdge 39 = .ok (.aload_n 0, 1) := by decide +kernel
theorem dX9_isEdge_40 : decode cX9_isEdge 40 = .ok (.getfield 91, 3) := by decide +kernel
theorem dX9_isEdge_43 : decode cX9_isEdge 43 = .ok (.iconst 1, 1) := by decide +kernel
theorem dX9_isEdge_44 : decode cX9_isEdge 44 = .ok (.isub, 1) := by decide +kernel
theorem dX9_isEdge_45 : decode cX9_isEdge 45 = .ok (.if_icmp .ne 7, 3) := by decide +kernel
theorem dX9_isEdge_48 : decode cX9_isEdge 48 = .ok (.iconst 1, 1) := by decide +kernel
theorem dX9_isEdge_49 : decode cX9_isEdge 49 = .ok (.goto 4, 3) := by decide +kernel
theorem dX9_isEdge_52 : decode cX9_isEdge 52 = .ok (.iconst 0, 1) := by decide +kernel
theorem dX9_isEdge_53 : decode cX9_isEdge 53 = .ok (.ireturn, 1) := by decide +kernel
theorem dX9_isGo_0 : decode cX9_isGo 0 = .ok (.iload_n 1, 1) := by decide +kernel
theorem dX9_isGo_1 : decode cX9_isGo 1 = .ok (.i2l, 1) := by decide +kernel
theorem dX9_isGo_2 : decode cX9_isGo 2 = .ok (.lconst 0, 1) := by decide +kernel
theorem dX9_isGo_3 : decode cX9_isGo 3 = .ok (.aload_n 0, 1) := by decide +kernel
theorem dX9_isGo_4 : decode cX9_isGo 4 = .ok (.getfield 97, 3) := by decide +kernel
theorem dX9_isGo_7 : decode cX9_isGo 7 = .ok (.iconst 1, 1) := by decide +kernel
theorem dX9_isGo_8 : decode cX9_isGo 8 = .ok (.isub, 1) := by decide +kernel
theorem dX9_isGo_9 : decode cX9_isGo 9 = .ok (.i2l, 1) := by decide +kernel
theorem dX9_isGo_10 : decode cX9_isGo 10 = .ok (.invokestatic 107, 3) := by decide +kernel
theorem dX9_isGo_13 : decode cX9_isGo 13 = .ok (.ireturn, 1) := by decide +kernel
theorem dX9_ice_0 : decode cX9_ice 0 = .ok (.aload_n 0, 1) := by decide +kernel
theorem dX9_ice_1 : decode cX9_ice 1 = .ok (.iload_n 1, 1) := by decide +kernel
theorem dX9_ice_2 : decode cX9_ice 2 = .ok (.invokevirtual 118, 3) := by decide +kernel
theorem dX9_ice_5 : decode cX9_ice 5 = .ok (.ifCond .ne 6, 3) := by decide +kernel
theorem dX9_ice_8 : decode cX9_ice 8 = .ok (.ldc 122, 2) := by decide +kernel
theorem dX9_ice_10 : decode cX9_ice 10 = .ok (.ireturn, 1) := by decide +kernel
theorem dX9_ice_11 : decode cX9_ice 11 = .ok (.iload_n 2, 1) := by decide +kernel
theorem dX9_ice_12 : decode cX9_ice 12 = .ok (.i2l, 1) := by decide +kernel
theorem dX9_ice_13 : decode cX9_ice 13 = .ok (.lconst 1, 1) := by decide +kernel
theorem dX9_ice_14 : decode cX9_ice 14 = .ok (.ldc2_w 135, 3) := by decide +kernel
theorem dX9_ice_17 : decode cX9_ice 17 = .ok (.invokestatic 107, 3) := by decide +kernel
theorem dX9_ice_20 : decode cX9_ice 20 = .ok (.ifCond .eq 28, 3) := by decide +kernel
theorem dX9_ice_23 : decode cX9_ice 23 = .ok (.iload_n 3, 1) := by decide +kernel
theorem dX9_ice_24 : decode cX9_ice 24 = .ok (.i2l, 1) := by decide +kernel
theorem dX9_ice_25 : decode cX9_ice 25 = .ok (.lconst 1, 1) := by decide +kernel
theorem dX9_ice_26 : decode cX9_ice 26 = .ok (.ldc2_w 137, 3) := by decide +kernel
theorem dX9_ice_29 : decode cX9_ice 29 = .ok (.invokestatic 107, 3) := by decide +kernel
theorem dX9_ice_32 : decode cX9_ice 32 = .ok (.ifCond .eq 16, 3) := by decide +kernel
theorem dX9_ice_35 : decode cX9_ice 35 = .ok (.iload 4, 2) := by decide +kernel
theorem dX9_ice_37 : decode cX9_ice 37 = .ok (.i2l, 1) := by decide +kernel
theorem dX9_ice_38 : decode cX9_ice 38 = .ok (.lconst 0, 1) := by decide +kernel
theorem dX9_ice_39 : decode cX9_ice 39 = .ok (.ldc2_w 137, 3) := by decide +kernel
theorem dX9_ice_42 : decode cX9_ice 42 = .ok (.invokestatic 107, 3) := by decide +kernel
theorem dX9_ice_45 : decode cX9_ice 45 = .ok (.ifCond .ne 6, 3) := by decide +kernel
theorem dX9_ice_48 : decode cX9_ice 48 = .ok (.ldc 117, 2) := by decide +kernel
theorem dX9_ice_50 : decode cX9_ice 50 = .ok (.ireturn, 1) := by decide +kernel
theorem dX9_ice_51 : decode cX9_ice 51 = .ok (.aload_n 0, 1) := by decide +kernel
theorem dX9_ice_52 : decode cX9_ice 52 = .ok (.getfield 97, 3) := by decide +kernel
theorem dX9_ice_55 : decode cX9_ice 55 = .ok (.bipush 6, 2) := by decide +kernel
theorem dX9_ice_57 : decode cX9_ice 57 = .ok (.if_icmp .ne 6, 3) := by decide +kernel
theorem dX9_ice_60 : decode cX9_ice 60 = .ok (.ldc 130, 2) := by decide +kernel
theorem dX9_ice_62 : decode cX9_ice 62 = .ok (.ireturn, 1) := by decide +kernel
theorem dX9_ice_63 : decode cX9_ice 63 = .ok (.aload_n 0, 1) := by decide +kernel
theorem dX9_ice_64 : decode cX9_ice 64 = .ok (.getfield 25, 3) := by decide +kernel
theorem dX9_ice_67 : decode cX9_ice 67 = .ok (.aload_n 0, 1) := by decide +kernel
theorem dX9_ice_68 : decode cX9_ice 68 = .ok (.getfield 97, 3) := by decide +kernel
theorem dX9_ice_71 : decode cX9_ice 71 = .ok (.iconst 1, 1) := by decide +kernel
theorem dX9_ice_72 : decode cX9_ice 72 = .ok (.bastore, 1) := by decide +kernel
theorem dX9_ice_73 : decode cX9_ice 73 = .ok (.aload_n 0, 1) := by decide +kernel
theorem dX9_ice_74 : decode cX9_ice 74 = .ok (.getfield 29, 3) := by decide +kernel
theorem dX9_ice_77 : decode cX9_ice 77 = .ok (.aload_n 0, 1) := by decide +kernel
theorem dX9_ice_78 : decode cX9_ice 78 = .ok (.getfield 97, 3) := by decide +kernel
theorem dX9_ice_81 : decode cX9_ice 81 = .ok (.iload_n 1, 1) := by decide +kernel
theorem dX9_ice_82 : decode cX9_ice 82 = .ok (.iastore, 1) := by decide +kernel
theorem dX9_ice_83 : decode cX9_ice 83 = .ok (.aload_n 0, 1) := by decide +kernel
theorem dX9_ice_84 : decode cX9_ice 84 = .ok (.getfield 32, 3) := by decide +kernel
theorem dX9_ice_87 : decode cX9_ice 87 = .ok (.aload_n 0, 1) := by decide +kernel
theorem dX9_ice_88 : decode cX9_ice 88 = .ok (.getfield 97, 3) := by decide +kernel
theorem dX9_ice_91 : decode cX9_ice 91 = .ok (.iload_n 2, 1) := by decide +kernel
theorem dX9_ice_92 : decode cX9_ice 92 = .ok (.iastore, 1) := by decide +kernel
theorem dX9_ice_93 : decode cX9_ice 93 = .ok (.aload_n 0, 1) := by decide +kernel
theorem dX9_ice_94 : decode cX9_ice 94 = .ok (.getfield 35, 3) := by decide +kernel
theorem dX9_ice_97 : decode cX9_ice 97 = .ok (.aload_n 0, 1) := by decide +kernel
theorem dX9_ice_98 : decode cX9_ice 98 = .ok (.getfield 97, 3) := by decide +kernel
theorem dX9_ice_101 : decode cX9_ice 101 = .ok (.iload_n 3, 1) := by decide +kernel
theorem dX9_ice_102 : decode cX9_ice 102 = .ok (.iastore, 1) := by decide +kernel
theorem dX9_ice_103 : decode cX9_ice 103 = .ok (.aload_n 0, 1) := by decide +kernel
theorem dX9_ice_104 : decode cX9_ice 104 = .ok (.getfield 38, 3) := by decide +kernel
theorem dX9_ice_107 : decode cX9_ice 107 = .ok (.aload_n 0, 1) := by decide +kernel
theorem dX9_ice_108 : decode cX9_ice 108 = .ok (.getfield 97, 3) := by decide +kernel
theorem dX9_ice_111 : decode cX9_ice 111 = .ok (.iload 4, 2) := by decide +kernel
theorem dX9_ice_113 : decode cX9_ice 113 = .ok (.iastore, 1) := by decide +kernel
theorem dX9_ice_114 : decode cX9_ice 114 = .ok (.aload_n 0, 1) := by decide +kernel
theorem dX9_ice_115 : decode cX9_ice 115 = .ok (.dup, 1) := by decide +kernel
theorem dX9_ice_116 : decode cX9_ice 116 = .ok (.getfield 97, 3) := by decide +kernel
theorem dX9_ice_119 : decode cX9_ice 119 = .ok (.iconst 1, 1) := by decide +kernel
theorem dX9_ice_120 : decode cX9_ice 120 = .ok (.iadd, 1) := by decide +kernel
theorem dX9_ice_121 : decode cX9_ice 121 = .ok (.putfield 97, 3) := by decide +kernel
theorem dX9_ice_124 : decode cX9_ice 124 = .ok (.aload_n 0, 1) := by decide +kernel
theorem dX9_ice_125 : decode cX9_ice 125 = .ok (.getfield 97, 3) := by decide +kernel
theorem dX9_ice_128 : decode cX9_ice 128 = .ok (.iconst 1, 1) := by decide +kernel
theorem dX9_ice_129 : decode cX9_ice 129 = .ok (.isub, 1) := by decide +kernel
theorem dX9_ice_130 : decode cX9_ice 130 = .ok (.ireturn, 1) := by decide +kernel
theorem dX9_flood_0 : decode cX9_flood 0 = .ok (.iload_n 1, 1) := by decide +kernel
theorem dX9_flood_1 : decode cX9_flood 1 = .ok (.i2l, 1) := by decide +kernel
theorem dX9_flood_2 : decode cX9_flood 2 = .ok (.lconst 1, 1) := by decide +kernel
theorem dX9_flood_3 : decode cX9_flood 3 = .ok (.ldc2_w 123, 3) := by decide +kernel
theorem dX9_flood_6 : decode cX9_flood 6 = .ok (.invokestatic 107, 3) := by decide +kernel
theorem dX9_flood_9 : decode cX9_flood 9 = .ok (.ifCond .ne 6, 3) := by decide +kernel
theorem dX9_flood_12 : decode cX9_flood 12 = .ok (.ldc 117, 2) := by decide +kernel
theorem dX9_flood_14 : decode cX9_flood 14 = .ok (.ireturn, 1) := by decide +kernel
theorem dX9_flood_15 : decode cX9_flood 15 = .ok (.aload_n 0, 1) := by decide +kernel
theorem dX9_flood_16 : decode cX9_flood 16 = .ok (.getfield 97, 3) := by decide +kernel
theorem dX9_flood_19 : decode cX9_flood 19 = .ok (.bipush 6, 2) := by decide +kernel
theorem dX9_flood_21 : decode cX9_flood 21 = .ok (.if_icmp .ne 6, 3) := by decide +kernel
theorem dX9_flood_24 : decode cX9_flood 24 = .ok (.ldc 130, 2) := by decide +kernel
theorem dX9_flood_26 : decode cX9_flood 26 = .ok (.ireturn, 1) := by decide +kernel
theorem dX9_flood_27 : decode cX9_flood 27 = .ok (.aload_n 0, 1) := by decide +kernel
theorem dX9_flood_28 : decode cX9_flood 28 = .ok (.getfield 25, 3) := by decide +kernel
theorem dX9_flood_31 : decode cX9_flood 31 = .ok (.aload_n 0, 1) := by decide +kernel
theorem dX9_flood_32 : decode cX9_flood 32 = .ok (.getfield 97, 3) := by decide +kernel
theorem dX9_flood_35 : decode cX9_flood 35 = .ok (.iconst 0, 1) := by decide +kernel
theorem dX9_flood_36 : decode cX9_flood 36 = .ok (.bastore, 1) := by decide +kernel
theorem dX9_flood_37 : decode cX9_flood 37 = .ok (.aload_n 0, 1) := by decide +kernel
theorem dX9_flood_38 : decode cX9_flood 38 = .ok (.getfield 32, 3) := by decide +kernel
theorem dX9_flood_41 : decode cX9_flood 41 = .ok (.aload_n 0, 1) := by decide +kernel
theorem dX9_flood_42 : decode cX9_flood 42 = .ok (.getfield 97, 3) := by decide +kernel
theorem dX9_flood_45 : decode cX9_flood 45 = .ok (.iload_n 1, 1) := by decide +kernel
theorem dX9_flood_46 : decode cX9_flood 46 = .ok (.iastore, 1) := by decide +kernel
theorem dX9_flood_47 : decode cX9_flood 47 = .ok (.aload_n 0, 1) := by decide +kernel
theorem dX9_flood_48 : decode cX9_flood 48 = .ok (.dup, 1) := by decide +kernel
theorem dX9_flood_49 : decode cX9_flood 49 = .ok (.getfield 97, 3) := by decide +kernel
theorem dX9_flood_52 : decode cX9_flood 52 = .ok (.iconst 1, 1) := by decide +kernel
theorem dX9_flood_53 : decode cX9_flood 53 = .ok (.iadd, 1) := by decide +kernel
theorem dX9_flood_54 : decode cX9_flood 54 = .ok (.putfield 97, 3) := by decide +kernel
theorem dX9_flood_57 : decode cX9_flood 57 = .ok (.aload_n 0, 1) := by decide +kernel
theorem dX9_flood_58 : decode cX9_flood 58 = .ok (.getfield 97, 3) := by decide +kernel
theorem dX9_flood_61 : decode cX9_flood 61 = .ok (.iconst 1, 1) := by decide +kernel
theorem dX9_flood_62 : decode cX9_flood 62 = .ok (.isub, 1) := by decide +kernel
theorem dX9_flood_63 : decode cX9_flood 63 = .ok (.ireturn, 1) := by decide +kernel
theorem dX9_layIce_0 : decode cX9_layIce 0 = .ok (.bipush 36, 2) := by decide +kernel
theorem dX9_layIce_2 : decode cX9_layIce 2 = .ok (.iload_n 1, 1) := by decide +kernel
theorem dX9_layIce_3 : decode cX9_layIce 3 = .ok (.imul, 1) := by decide +kernel
theorem dX9_layIce_4 : decode cX9_layIce 4 = .ok (.istore_n 2, 1) := by decide +kernel
theorem dX9_layIce_5 : decode cX9_layIce 5 = .ok (.aload_n 0, 1) := by decide +kernel
theorem dX9_layIce_6 : decode cX9_layIce 6 = .ok (.getfield 32, 3) := by decide +kernel
theorem dX9_layIce_9 : decode cX9_layIce 9 = .ok (.iload_n 1, 1) := by decide +kernel
theorem dX9_layIce_10 : decode cX9_layIce 10 = .ok (.iaload, 1) := by decide +kernel
theorem dX9_layIce_11 : decode cX9_layIce 11 = .ok (.aload_n 0, 1) := by decide +kernel
theorem dX9_layIce_12 : decode cX9_layIce 12 = .ok (.getfield 7, 3) := by decide +kernel
theorem dX9_layIce_15 : decode cX9_layIce 15 = .ok (.aload_n 0, 1) := by decide +kernel
theorem dX9_layIce_16 : decode cX9_layIce 16 = .ok (.getfield 29, 3) := by decide +kernel
theorem dX9_layIce_19 : decode cX9_layIce 19 = .ok (.iload_n 1, 1) := by decide +kernel
theorem dX9_layIce_20 : decode cX9_layIce 20 = .ok (.iaload, 1) := by decide +kernel
theorem dX9_layIce_21 : decode cX9_layIce 21 = .ok (.iaload, 1) := by decide +kernel
theorem dX9_layIce_22 : decode cX9_layIce 22 = .ok (.if_icmp .le 17, 3) := by decide +kernel
theorem dX9_layIce_25 : decode cX9_layIce 25 = .ok (.aload_n 0, 1) := by decide +kernel
theorem dX9_layIce_26 : decode cX9_layIce 26 = .ok (.getfield 41, 3) := by decide +kernel
theorem dX9_layIce_29 : decode cX9_layIce 29 = .ok (.iload_n 2, 1) := by decide +kernel
theorem dX9_layIce_30 : decode cX9_layIce 30 = .ok (.aload_n 0, 1) := by decide +kernel
theorem dX9_layIce_31 : decode cX9_layIce 31 = .ok (.getfield 29, 3) := by decide +kernel
theorem dX9_layIce_34 : decode cX9_layIce 34 = .ok (.iload_n 1, 1) := by decide +kernel
theorem dX9_layIce_35 : decode cX9_layIce 35 = .ok (.iaload, 1) := by decide +kernel
theorem dX9_layIce_36 : decode cX9_layIce 36 = .ok (.iadd, 1) := by decide +kernel
theorem dX9_layIce_37 : decode cX9_layIce 37 = .ok (.iconst 0, 1) := by decide +kernel
theorem dX9_layIce_38 : decode cX9_layIce 38 = .ok (.iastore, 1) := by decide +kernel
theorem dX9_layIce_39 : decode cX9_layIce 39 = .ok (.iconst 0, 1) := by decide +kernel
theorem dX9_layIce_40 : decode cX9_layIce 40 = .ok (.istore_n 3, 1) := by decide +kernel
theorem dX9_layIce_41 : decode cX9_layIce 41 = .ok (.iload_n 3, 1) := by decide +kernel
theorem dX9_layIce_42 : decode cX9_layIce 42 = .ok (.aload_n 0, 1) := by decide +kernel
theorem dX9_layIce_43 : decode cX9_layIce 43 = .ok (.invokevirtual 103, 3) := by decide +kernel
theorem dX9_layIce_46 : decode cX9_layIce 46 = .ok (.if_icmp .ge 130, 3) := by decide +kernel
theorem dX9_layIce_49 : decode cX9_layIce 49 = .ok (.iconst 0, 1) := by decide +kernel
theorem dX9_layIce_50 : decode cX9_layIce 50 = .ok (.istore 4, 2) := by decide +kernel
theorem dX9_layIce_52 : decode cX9_layIce 52 = .ok (.iload 4, 2) := by decide +kernel
theorem dX9_layIce_54 : decode cX9_layIce 54 = .ok (.iconst 4, 1) := by decide +kernel
theorem dX9_layIce_55 : decode cX9_layIce 55 = .ok (.aload_n 0, 1) := by decide +kernel
theorem dX9_layIce_56 : decode cX9_layIce 56 = .ok (.invokevirtual 103, 3) := by decide +kernel
theorem dX9_layIce_59 : decode cX9_layIce 59 = .ok (.imul, 1) := by decide +kernel
theorem dX9_layIce_60 : decode cX9_layIce 60 = .ok (.if_icmp .ge 110, 3) := by decide +kernel
theorem dX9_layIce_63 : decode cX9_layIce 63 = .ok (.aload_n 0, 1) := by decide +kernel
theorem dX9_layIce_64 : decode cX9_layIce 64 = .ok (.iload 4, 2) := by decide +kernel
theorem dX9_layIce_66 : decode cX9_layIce 66 = .ok (.iconst 4, 1) := by decide +kernel
theorem dX9_layIce_67 : decode cX9_layIce 67 = .ok (.idiv, 1) := by decide +kernel
theorem dX9_layIce_68 : decode cX9_layIce 68 = .ok (.iload 4, 2) := by decide +kernel
theorem dX9_layIce_70 : decode cX9_layIce 70 = .ok (.iconst 4, 1) := by decide +kernel
theorem dX9_layIce_71 : decode cX9_layIce 71 = .ok (.irem, 1) := by decide +kernel
theorem dX9_layIce_72 : decode cX9_layIce 72 = .ok (.invokevirtual 139, 3) := by decide +kernel
theorem dX9_layIce_75 : decode cX9_layIce 75 = .ok (.istore 5, 2) := by decide +kernel
theorem dX9_layIce_77 : decode cX9_layIce 77 = .ok (.iload 5, 2) := by decide +kernel
theorem dX9_layIce_79 : decode cX9_layIce 79 = .ok (.ldc 134, 2) := by decide +kernel
theorem dX9_layIce_81 : decode cX9_layIce 81 = .ok (.if_icmp .eq 36, 3) := by decide +kernel
theorem dX9_layIce_84 : decode cX9_layIce 84 = .ok (.aload_n 0, 1) := by decide +kernel
theorem dX9_layIce_85 : decode cX9_layIce 85 = .ok (.getfield 41, 3) := by decide +kernel
theorem dX9_layIce_88 : decode cX9_layIce 88 = .ok (.iload_n 2, 1) := by decide +kernel
theorem dX9_layIce_89 : decode cX9_layIce 89 = .ok (.iload 4, 2) := by decide +kernel
theorem dX9_layIce_91 : decode cX9_layIce 91 = .ok (.iconst 4, 1) := by decide +kernel
theorem dX9_layIce_92 : decode cX9_layIce 92 = .ok (.idiv, 1) := by decide +kernel
theorem dX9_layIce_93 : decode cX9_layIce 93 = .ok (.iadd, 1) := by decide +kernel
theorem dX9_layIce_94 : decode cX9_layIce 94 = .ok (.iaload, 1) := by decide +kernel
theorem dX9_layIce_95 : decode cX9_layIce 95 = .ok (.iload_n 3, 1) := by decide +kernel
theorem dX9_layIce_96 : decode cX9_layIce 96 = .ok (.if_icmp .ne 21, 3) := by decide +kernel
theorem dX9_layIce_99 : decode cX9_layIce 99 = .ok (.aload_n 0, 1) := by decide +kernel
theorem dX9_layIce_100 : decode cX9_layIce 100 = .ok (.getfield 41, 3) := by decide +kernel
theorem dX9_layIce_103 : decode cX9_layIce 103 = .ok (.iload_n 2, 1) := by decide +kernel
theorem dX9_layIce_104 : decode cX9_layIce 104 = .ok (.iload 5, 2) := by decide +kernel
theorem dX9_layIce_106 : decode cX9_layIce 106 = .ok (.iadd, 1) := by decide +kernel
theorem dX9_layIce_107 : decode cX9_layIce 107 = .ok (.iaload, 1) := by decide +kernel
theorem dX9_layIce_108 : decode cX9_layIce 108 = .ok (.ldc 134, 2) := by decide +kernel
theorem dX9_layIce_110 : decode cX9_layIce 110 = .ok (.if_icmp .ne 7, 3) := by decide +kernel
theorem dX9_layIce_113 : decode cX9_layIce 113 = .ok (.iconst 1, 1) := by decide +kernel
theorem dX9_layIce_114 : decode cX9_layIce 114 = .ok (.goto 4, 3) := by decide +kernel
theorem dX9_layIce_117 : decode cX9_layIce 117 = .ok (.iconst 0, 1) := by decide +kernel
theorem dX9_layIce_118 : decode cX9_layIce 118 = .ok (.istore 6, 2) := by decide +kernel
theorem dX9_layIce_120 : decode cX9_layIce 120 = .ok (.iload 6, 2) := by decide +kernel
theorem dX9_layIce_122 : decode cX9_layIce 122 = .ok (.ifCond .eq 42, 3) := by decide +kernel
theorem dX9_layIce_125 : decode cX9_layIce 125 = .ok (.aload_n 0, 1) := by decide +kernel
theorem dX9_layIce_126 : decode cX9_layIce 126 = .ok (.getfield 32, 3) := by decide +kernel
theorem dX9_layIce_129 : decode cX9_layIce 129 = .ok (.iload_n 1, 1) := by decide +kernel
theorem dX9_layIce_130 : decode cX9_layIce 130 = .ok (.iaload, 1) := by decide +kernel
theorem dX9_layIce_131 : decode cX9_layIce 131 = .ok (.aload_n 0, 1) := by decide +kernel
theorem dX9_layIce_132 : decode cX9_layIce 132 = .ok (.getfield 35, 3) := by decide +kernel
theorem dX9_layIce_135 : decode cX9_layIce 135 = .ok (.iload_n 1, 1) := by decide +kernel
theorem dX9_layIce_136 : decode cX9_layIce 136 = .ok (.iaload, 1) := by decide +kernel
theorem dX9_layIce_137 : decode cX9_layIce 137 = .ok (.iload_n 3, 1) := by decide +kernel
theorem dX9_layIce_138 : decode cX9_layIce 138 = .ok (.iconst 1, 1) := by decide +kernel
theorem dX9_layIce_139 : decode cX9_layIce 139 = .ok (.iadd, 1) := by decide +kernel
theorem dX9_layIce_140 : decode cX9_layIce 140 = .ok (.imul, 1) := by decide +kernel
theorem dX9_layIce_141 : decode cX9_layIce 141 = .ok (.isub, 1) := by decide +kernel
theorem dX9_layIce_142 : decode cX9_layIce 142 = .ok (.aload_n 0, 1) := by decide +kernel
theorem dX9_layIce_143 : decode cX9_layIce 143 = .ok (.getfield 7, 3) := by decide +kernel
theorem dX9_layIce_146 : decode cX9_layIce 146 = .ok (.iload 5, 2) := by decide +kernel
theorem dX9_layIce_148 : decode cX9_layIce 148 = .ok (.iaload, 1) := by decide +kernel
theorem dX9_layIce_149 : decode cX9_layIce 149 = .ok (.if_icmp .le 15, 3) := by decide +kernel
theorem dX9_layIce_152 : decode cX9_layIce 152 = .ok (.aload_n 0, 1) := by decide +kernel
theorem dX9_layIce_153 : decode cX9_layIce 153 = .ok (.getfield 41, 3) := by decide +kernel
theorem dX9_layIce_156 : decode cX9_layIce 156 = .ok (.iload_n 2, 1) := by decide +kernel
theorem dX9_layIce_157 : decode cX9_layIce 157 = .ok (.iload 5, 2) := by decide +kernel
theorem dX9_layIce_159 : decode cX9_layIce 159 = .ok (.iadd, 1) := by decide +kernel
theorem dX9_layIce_160 : decode cX9_layIce 160 = .ok (.iload_n 3, 1) := by decide +kernel
theorem dX9_layIce_161 : decode cX9_layIce 161 = .ok (.iconst 1, 1) := by decide +kernel
theorem dX9_layIce_162 : decode cX9_layIce 162 = .ok (.iadd, 1) := by decide +kernel
theorem dX9_layIce_163 : decode cX9_layIce 163 = .ok (.iastore, 1) := by decide +kernel
theorem dX9_layIce_164 : decode cX9_layIce 164 = .ok (.iinc 4 1, 3) := by decide +kernel
theorem dX9_layIce_167 : decode cX9_layIce 167 = .ok (.goto (-115), 3) := by decide +kernel
theorem dX9_layIce_170 : decode cX9_layIce 170 = .ok (.iinc 3 1, 3) := by decide +kernel
theorem dX9_layIce_173 : decode cX9_layIce 173 = .ok (.goto (-132), 3) := by decide +kernel
theorem dX9_layIce_176 : decode cX9_layIce 176 = .ok (.iconst 0, 1) := by decide +kernel
theorem dX9_layIce_177 : decode cX9_layIce 177 = .ok (.istore_n 3, 1) := by decide +kernel
theorem dX9_layIce_178 : decode cX9_layIce 178 = .ok (.iload_n 3, 1) := by decide +kernel
theorem dX9_layIce_179 : decode cX9_layIce 179 = .ok (.aload_n 0, 1) := by decide +kernel
theorem dX9_layIce_180 : decode cX9_layIce 180 = .ok (.invokevirtual 103, 3) := by decide +kernel
theorem dX9_layIce_183 : decode cX9_layIce 183 = .ok (.if_icmp .ge 149, 3) := by decide +kernel
theorem dX9_layIce_186 : decode cX9_layIce 186 = .ok (.ldc 134, 2) := by decide +kernel
theorem dX9_layIce_188 : decode cX9_layIce 188 = .ok (.istore 4, 2) := by decide +kernel
theorem dX9_layIce_190 : decode cX9_layIce 190 = .ok (.iconst 0, 1) := by decide +kernel
theorem dX9_layIce_191 : decode cX9_layIce 191 = .ok (.istore 5, 2) := by decide +kernel
theorem dX9_layIce_193 : decode cX9_layIce 193 = .ok (.iload 5, 2) := by decide +kernel
theorem dX9_layIce_195 : decode cX9_layIce 195 = .ok (.iconst 4, 1) := by decide +kernel
theorem dX9_layIce_196 : decode cX9_layIce 196 = .ok (.if_icmp .ge 120, 3) := by decide +kernel
theorem dX9_layIce_199 : decode cX9_layIce 199 = .ok (.iload 5, 2) := by decide +kernel
theorem dX9_layIce_201 : decode cX9_layIce 201 = .ok (.ifCond .ne 7, 3) := by decide +kernel
theorem dX9_layIce_204 : decode cX9_layIce 204 = .ok (.iconst 3, 1) := by decide +kernel
theorem dX9_layIce_205 : decode cX9_layIce 205 = .ok (.goto 24, 3) := by decide +kernel
theorem dX9_layIce_208 : decode cX9_layIce 208 = .ok (.iload 5, 2) := by decide +kernel
theorem dX9_layIce_210 : decode cX9_layIce 210 = .ok (.iconst 1, 1) := by decide +kernel
theorem dX9_layIce_211 : decode cX9_layIce 211 = .ok (.if_icmp .ne 7, 3) := by decide +kernel
theorem dX9_layIce_214 : decode cX9_layIce 214 = .ok (.iconst 2, 1) := by decide +kernel
theorem dX9_layIce_215 : decode cX9_layIce 215 = .ok (.goto 14, 3) := by decide +kernel
theorem dX9_layIce_218 : decode cX9_layIce 218 = .ok (.iload 5, 2) := by decide +kernel
theorem dX9_layIce_220 : decode cX9_layIce 220 = .ok (.iconst 2, 1) := by decide +kernel
theorem dX9_layIce_221 : decode cX9_layIce 221 = .ok (.if_icmp .ne 7, 3) := by decide +kernel
theorem dX9_layIce_224 : decode cX9_layIce 224 = .ok (.iconst 0, 1) := by decide +kernel
theorem dX9_layIce_225 : decode cX9_layIce 225 = .ok (.goto 4, 3) := by decide +kernel
theorem dX9_layIce_228 : decode cX9_layIce 228 = .ok (.iconst 1, 1) := by decide +kernel
theorem dX9_layIce_229 : decode cX9_layIce 229 = .ok (.istore 6, 2) := by decide +kernel
theorem dX9_layIce_231 : decode cX9_layIce 231 = .ok (.aload_n 0, 1) := by decide +kernel
theorem dX9_layIce_232 : decode cX9_layIce 232 = .ok (.iload_n 3, 1) := by decide +kernel
theorem dX9_layIce_233 : decode cX9_layIce 233 = .ok (.iload 6, 2) := by decide +kernel
theorem dX9_layIce_235 : decode cX9_layIce 235 = .ok (.invokevirtual 139, 3) := by decide +kernel
theorem dX9_layIce_238 : decode cX9_layIce 238 = .ok (.istore 7, 2) := by decide +kernel
theorem dX9_layIce_240 : decode cX9_layIce 240 = .ok (.iload 7, 2) := by decide +kernel
theorem dX9_layIce_242 : decode cX9_layIce 242 = .ok (.ldc 134, 2) := by decide +kernel
theorem dX9_layIce_244 : decode cX9_layIce 244 = .ok (.if_icmp .eq 42, 3) := by decide +kernel
theorem dX9_layIce_247 : decode cX9_layIce 247 = .ok (.aload_n 0, 1) := by decide +kernel
theorem dX9_layIce_248 : decode cX9_layIce 248 = .ok (.getfield 41, 3) := by decide +kernel
theorem dX9_layIce_251 : decode cX9_layIce 251 = .ok (.iload_n 2, 1) := by decide +kernel
theorem dX9_layIce_252 : decode cX9_layIce 252 = .ok (.iload_n 3, 1) := by decide +kernel
theorem dX9_layIce_253 : decode cX9_layIce 253 = .ok (.iadd, 1) := by decide +kernel
theorem dX9_layIce_254 : decode cX9_layIce 254 = .ok (.iaload, 1) := by decide +kernel
theorem dX9_layIce_255 : decode cX9_layIce 255 = .ok (.ldc 134, 2) := by decide +kernel
theorem dX9_layIce_257 : decode cX9_layIce 257 = .ok (.if_icmp .eq 29, 3) := by decide +kernel
theorem dX9_layIce_260 : decode cX9_layIce 260 = .ok (.aload_n 0, 1) := by decide +kernel
theorem dX9_layIce_261 : decode cX9_layIce 261 = .ok (.getfield 41, 3) := by decide +kernel
theorem dX9_layIce_264 : decode cX9_layIce 264 = .ok (.iload_n 2, 1) := by decide +kernel
theorem dX9_layIce_265 : decode cX9_layIce 265 = .ok (.iload 7, 2) := by decide +kernel
theorem dX9_layIce_267 : decode cX9_layIce 267 = .ok (.iadd, 1) := by decide +kernel
theorem dX9_layIce_268 : decode cX9_layIce 268 = .ok (.iaload, 1) := by decide +kernel
theorem dX9_layIce_269 : decode cX9_layIce 269 = .ok (.aload_n 0, 1) := by decide +kernel
theorem dX9_layIce_270 : decode cX9_layIce 270 = .ok (.getfield 41, 3) := by decide +kernel
theorem dX9_layIce_273 : decode cX9_layIce 273 = .ok (.iload_n 2, 1) := by decide +kernel
theorem dX9_layIce_274 : decode cX9_layIce 274 = .ok (.iload_n 3, 1) := by decide +kernel
theorem dX9_layIce_275 : decode cX9_layIce 275 = .ok (.iadd, 1) := by decide +kernel
theorem dX9_layIce_276 : decode cX9_layIce 276 = .ok (.iaload, 1) := by decide +kernel
theorem dX9_layIce_277 : decode cX9_layIce 277 = .ok (.iconst 1, 1) := by decide +kernel
theorem dX9_layIce_278 : decode cX9_layIce 278 = .ok (.iadd, 1) := by decide +kernel
theorem dX9_layIce_279 : decode cX9_layIce 279 = .ok (.if_icmp .ne 7, 3) := by decide +kernel
theorem dX9_layIce_282 : decode cX9_layIce 282 = .ok (.iconst 1, 1) := by decide +kernel
theorem dX9_layIce_283 : decode cX9_layIce 283 = .ok (.goto 4, 3) := by decide +kernel
theorem dX9_layIce_286 : decode cX9_layIce 286 = .ok (.iconst 0, 1) := by decide +kernel
theorem dX9_layIce_287 : decode cX9_layIce 287 = .ok (.istore 8, 2) := by decide +kernel
theorem dX9_layIce_289 : decode cX9_layIce 289 = .ok (.iload 8, 2) := by decide +kernel
theorem dX9_layIce_291 : decode cX9_layIce 291 = .ok (.ifCond .eq 15, 3) := by decide +kernel
theorem dX9_layIce_294 : decode cX9_layIce 294 = .ok (.iload 4, 2) := by decide +kernel
theorem dX9_layIce_296 : decode cX9_layIce 296 = .ok (.ldc 134, 2) := by decide +kernel
theorem dX9_layIce_298 : decode cX9_layIce 298 = .ok (.if_icmp .ne 8, 3) := by decide +kernel
theorem dX9_layIce_301 : decode cX9_layIce 301 = .ok (.iload 6, 2) := by decide +kernel
theorem dX9_layIce_303 : decode cX9_layIce 303 = .ok (.goto 5, 3) := by decide +kernel
theorem dX9_layIce_306 : decode cX9_layIce 306 = .ok (.iload 4, 2) := by decide +kernel
theorem dX9_layIce_308 : decode cX9_layIce 308 = .ok (.istore 4, 2) := by decide +kernel
theorem dX9_layIce_310 : decode cX9_layIce 310 = .ok (.iinc 5 1, 3) := by decide +kernel
theorem dX9_layIce_313 : decode cX9_layIce 313 = .ok (.goto (-120), 3) := by decide +kernel
theorem dX9_layIce_316 : decode cX9_layIce 316 = .ok (.aload_n 0, 1) := by decide +kernel
theorem dX9_layIce_317 : decode cX9_layIce 317 = .ok (.getfield 44, 3) := by decide +kernel
theorem dX9_layIce_320 : decode cX9_layIce 320 = .ok (.iload_n 2, 1) := by decide +kernel
theorem dX9_layIce_321 : decode cX9_layIce 321 = .ok (.iload_n 3, 1) := by decide +kernel
theorem dX9_layIce_322 : decode cX9_layIce 322 = .ok (.iadd, 1) := by decide +kernel
theorem dX9_layIce_323 : decode cX9_layIce 323 = .ok (.iload 4, 2) := by decide +kernel
theorem dX9_layIce_325 : decode cX9_layIce 325 = .ok (.iastore, 1) := by decide +kernel
theorem dX9_layIce_326 : decode cX9_layIce 326 = .ok (.iinc 3 1, 3) := by decide +kernel
theorem dX9_layIce_329 : decode cX9_layIce 329 = .ok (.goto (-151), 3) := by decide +kernel
theorem dX9_layIce_332 : decode cX9_layIce 332 = .ok (.return_, 1) := by decide +kernel
theorem dX9_layFlood_0 : decode cX9_layFlood 0 = .ok (.bipush 36, 2) := by decide +kernel
theorem dX9_layFlood_2 : decode cX9_layFlood 2 = .ok (.iload_n 1, 1) := by decide +kernel
theorem dX9_layFlood_3 : decode cX9_layFlood 3 = .ok (.imul, 1) := by decide +kernel
theorem dX9_layFlood_4 : decode cX9_layFlood 4 = .ok (.istore_n 2, 1) := by decide +kernel
theorem dX9_layFlood_5 : decode cX9_layFlood 5 = .ok (.iconst 0, 1) := by decide +kernel
theorem dX9_layFlood_6 : decode cX9_layFlood 6 = .ok (.istore_n 3, 1) := by decide +kernel
theorem dX9_layFlood_7 : decode cX9_layFlood 7 = .ok (.iload_n 3, 1) := by decide +kernel
theorem dX9_layFlood_8 : decode cX9_layFlood 8 = .ok (.aload_n 0, 1) := by decide +kernel
theorem dX9_layFlood_9 : decode cX9_layFlood 9 = .ok (.invokevirtual 103, 3) := by decide +kernel
theorem dX9_layFlood_12 : decode cX9_layFlood 12 = .ok (.if_icmp .ge 46, 3) := by decide +kernel
theorem dX9_layFlood_15 : decode cX9_layFlood 15 = .ok (.aload_n 0, 1) := by decide +kernel
theorem dX9_layFlood_16 : decode cX9_layFlood 16 = .ok (.getfield 41, 3) := by decide +kernel
theorem dX9_layFlood_19 : decode cX9_layFlood 19 = .ok (.iload_n 2, 1) := by decide +kernel
theorem dX9_layFlood_20 : decode cX9_layFlood 20 = .ok (.iload_n 3, 1) := by decide +kernel
theorem dX9_layFlood_21 : decode cX9_layFlood 21 = .ok (.iadd, 1) := by decide +kernel
theorem dX9_layFlood_22 : decode cX9_layFlood 22 = .ok (.aload_n 0, 1) := by decide +kernel
theorem dX9_layFlood_23 : decode cX9_layFlood 23 = .ok (.iload_n 3, 1) := by decide +kernel
theorem dX9_layFlood_24 : decode cX9_layFlood 24 = .ok (.invokevirtual 143, 3) := by decide +kernel
theorem dX9_layFlood_27 : decode cX9_layFlood 27 = .ok (.ifCond .eq 22, 3) := by decide +kernel
theorem dX9_layFlood_30 : decode cX9_layFlood 30 = .ok (.aload_n 0, 1) := by decide +kernel
theorem dX9_layFlood_31 : decode cX9_layFlood 31 = .ok (.getfield 7, 3) := by decide +kernel
theorem dX9_layFlood_34 : decode cX9_layFlood 34 = .ok (.iload_n 3, 1) := by decide +kernel
theorem dX9_layFlood_35 : decode cX9_layFlood 35 = .ok (.iaload, 1) := by decide +kernel
theorem dX9_layFlood_36 : decode cX9_layFlood 36 = .ok (.aload_n 0, 1) := by decide +kernel
theorem dX9_layFlood_37 : decode cX9_layFlood 37 = .ok (.getfield 32, 3) := by decide +kernel
theorem dX9_layFlood_40 : decode cX9_layFlood 40 = .ok (.iload_n 1, 1) := by decide +kernel
theorem dX9_layFlood_41 : decode cX9_layFlood 41 = .ok (.iaload, 1) := by decide +kernel
theorem dX9_layFlood_42 : decode cX9_layFlood 42 = .ok (.if_icmp .ge 7, 3) := by decide +kernel
theorem dX9_layFlood_45 : decode cX9_layFlood 45 = .ok (.iconst 0, 1) := by decide +kernel
theorem dX9_layFlood_46 : decode cX9_layFlood 46 = .ok (.goto 5, 3) := by decide +kernel
theorem dX9_layFlood_49 : decode cX9_layFlood 49 = .ok (.ldc 134, 2) := by decide +kernel
theorem dX9_layFlood_51 : decode cX9_layFlood 51 = .ok (.iastore, 1) := by decide +kernel
theorem dX9_layFlood_52 : decode cX9_layFlood 52 = .ok (.iinc 3 1, 3) := by decide +kernel
theorem dX9_layFlood_55 : decode cX9_layFlood 55 = .ok (.goto (-48), 3) := by decide +kernel
theorem dX9_layFlood_58 : decode cX9_layFlood 58 = .ok (.iconst 1, 1) := by decide +kernel
theorem dX9_layFlood_59 : decode cX9_layFlood 59 = .ok (.istore_n 3, 1) := by decide +kernel
theorem dX9_layFlood_60 : decode cX9_layFlood 60 = .ok (.iload_n 3, 1) := by decide +kernel
theorem dX9_layFlood_61 : decode cX9_layFlood 61 = .ok (.ifCond .eq 105, 3) := by decide +kernel
theorem dX9_layFlood_64 : decode cX9_layFlood 64 = .ok (.iconst 0, 1) := by decide +kernel
theorem dX9_layFlood_65 : decode cX9_layFlood 65 = .ok (.istore_n 3, 1) := by decide +kernel
theorem dX9_layFlood_66 : decode cX9_layFlood 66 = .ok (.iconst 0, 1) := by decide +kernel
theorem dX9_layFlood_67 : decode cX9_layFlood 67 = .ok (.istore 4, 2) := by decide +kernel
theorem dX9_layFlood_69 : decode cX9_layFlood 69 = .ok (.iload 4, 2) := by decide +kernel
theorem dX9_layFlood_71 : decode cX9_layFlood 71 = .ok (.iconst 4, 1) := by decide +kernel
theorem dX9_layFlood_72 : decode cX9_layFlood 72 = .ok (.aload_n 0, 1) := by decide +kernel
theorem dX9_layFlood_73 : decode cX9_layFlood 73 = .ok (.invokevirtual 103, 3) := by decide +kernel
theorem dX9_layFlood_76 : decode cX9_layFlood 76 = .ok (.imul, 1) := by decide +kernel
theorem dX9_layFlood_77 : decode cX9_layFlood 77 = .ok (.if_icmp .ge 86, 3) := by decide +kernel
theorem dX9_layFlood_80 : decode cX9_layFlood 80 = .ok (.aload_n 0, 1) := by decide +kernel
theorem dX9_layFlood_81 : decode cX9_layFlood 81 = .ok (.iload 4, 2) := by decide +kernel
theorem dX9_layFlood_83 : decode cX9_layFlood 83 = .ok (.iconst 4, 1) := by decide +kernel
theorem dX9_layFlood_84 : decode cX9_layFlood 84 = .ok (.idiv, 1) := by decide +kernel
theorem dX9_layFlood_85 : decode cX9_layFlood 85 = .ok (.iload 4, 2) := by decide +kernel
theorem dX9_layFlood_87 : decode cX9_layFlood 87 = .ok (.iconst 4, 1) := by decide +kernel
theorem dX9_layFlood_88 : decode cX9_layFlood 88 = .ok (.irem, 1) := by decide +kernel
theorem dX9_layFlood_89 : decode cX9_layFlood 89 = .ok (.invokevirtual 139, 3) := by decide +kernel
theorem dX9_layFlood_92 : decode cX9_layFlood 92 = .ok (.istore 5, 2) := by decide +kernel
theorem dX9_layFlood_94 : decode cX9_layFlood 94 = .ok (.iload 5, 2) := by decide +kernel
theorem dX9_layFlood_96 : decode cX9_layFlood 96 = .ok (.ldc 134, 2) := by decide +kernel
theorem dX9_layFlood_98 : decode cX9_layFlood 98 = .ok (.if_icmp .eq 59, 3) := by decide +kernel
theorem dX9_layFlood_101 : decode cX9_layFlood 101 = .ok (.aload_n 0, 1) := by decide +kernel
theorem dX9_layFlood_102 : decode cX9_layFlood 102 = .ok (.getfield 41, 3) := by decide +kernel
theorem dX9_layFlood_105 : decode cX9_layFlood 105 = .ok (.iload_n 2, 1) := by decide +kernel
theorem dX9_layFlood_106 : decode cX9_layFlood 106 = .ok (.iload 4, 2) := by decide +kernel
theorem dX9_layFlood_108 : decode cX9_layFlood 108 = .ok (.iconst 4, 1) := by decide +kernel
theorem dX9_layFlood_109 : decode cX9_layFlood 109 = .ok (.idiv, 1) := by decide +kernel
theorem dX9_layFlood_110 : decode cX9_layFlood 110 = .ok (.iadd, 1) := by decide +kernel
theorem dX9_layFlood_111 : decode cX9_layFlood 111 = .ok (.iaload, 1) := by decide +kernel
theorem dX9_layFlood_112 : decode cX9_layFlood 112 = .ok (.ifCond .ne 45, 3) := by decide +kernel
theorem dX9_layFlood_115 : decode cX9_layFlood 115 = .ok (.aload_n 0, 1) := by decide +kernel
theorem dX9_layFlood_116 : decode cX9_layFlood 116 = .ok (.getfield 41, 3) := by decide +kernel
theorem dX9_layFlood_119 : decode cX9_layFlood 119 = .ok (.iload_n 2, 1) := by decide +kernel
theorem dX9_layFlood_120 : decode cX9_layFlood 120 = .ok (.iload 5, 2) := by decide +kernel
theorem dX9_layFlood_122 : decode cX9_layFlood 122 = .ok (.iadd, 1) := by decide +kernel
theorem dX9_layFlood_123 : decode cX9_layFlood 123 = .ok (.iaload, 1) := by decide +kernel
theorem dX9_layFlood_124 : decode cX9_layFlood 124 = .ok (.ldc 134, 2) := by decide +kernel
theorem dX9_layFlood_126 : decode cX9_layFlood 126 = .ok (.if_icmp .ne 31, 3) := by decide +kernel
theorem dX9_layFlood_129 : decode cX9_layFlood 129 = .ok (.aload_n 0, 1) := by decide +kernel
theorem dX9_layFlood_130 : decode cX9_layFlood 130 = .ok (.getfield 7, 3) := by decide +kernel
theorem dX9_layFlood_133 : decode cX9_layFlood 133 = .ok (.iload 5, 2) := by decide +kernel
theorem dX9_layFlood_135 : decode cX9_layFlood 135 = .ok (.iaload, 1) := by decide +kernel
theorem dX9_layFlood_136 : decode cX9_layFlood 136 = .ok (.aload_n 0, 1) := by decide +kernel
theorem dX9_layFlood_137 : decode cX9_layFlood 137 = .ok (.getfield 32, 3) := by decide +kernel
theorem dX9_layFlood_140 : decode cX9_layFlood 140 = .ok (.iload_n 1, 1) := by decide +kernel
theorem dX9_layFlood_141 : decode cX9_layFlood 141 = .ok (.iaload, 1) := by decide +kernel
theorem dX9_layFlood_142 : decode cX9_layFlood 142 = .ok (.if_icmp .ge 15, 3) := by decide +kernel
theorem dX9_layFlood_145 : decode cX9_layFlood 145 = .ok (.aload_n 0, 1) := by decide +kernel
theorem dX9_layFlood_146 : decode cX9_layFlood 146 = .ok (.getfield 41, 3) := by decide +kernel
theorem dX9_layFlood_149 : decode cX9_layFlood 149 = .ok (.iload_n 2, 1) := by decide +kernel
theorem dX9_layFlood_150 : decode cX9_layFlood 150 = .ok (.iload 5, 2) := by decide +kernel
theorem dX9_layFlood_152 : decode cX9_layFlood 152 = .ok (.iadd, 1) := by decide +kernel
theorem dX9_layFlood_153 : decode cX9_layFlood 153 = .ok (.iconst 0, 1) := by decide +kernel
theorem dX9_layFlood_154 : decode cX9_layFlood 154 = .ok (.iastore, 1) := by decide +kernel
theorem dX9_layFlood_155 : decode cX9_layFlood 155 = .ok (.iconst 1, 1) := by decide +kernel
theorem dX9_layFlood_156 : decode cX9_layFlood 156 = .ok (.istore_n 3, 1) := by decide +kernel
theorem dX9_layFlood_157 : decode cX9_layFlood 157 = .ok (.iinc 4 1, 3) := by decide +kernel
theorem dX9_layFlood_160 : decode cX9_layFlood 160 = .ok (.goto (-91), 3) := by decide +kernel
theorem dX9_layFlood_163 : decode cX9_layFlood 163 = .ok (.goto (-103), 3) := by decide +kernel
theorem dX9_layFlood_166 : decode cX9_layFlood 166 = .ok (.return_, 1) := by decide +kernel
theorem dX9_layGoes_0 : decode cX9_layGoes 0 = .ok (.iconst 0, 1) := by decide +kernel
theorem dX9_layGoes_1 : decode cX9_layGoes 1 = .ok (.istore_n 1, 1) := by decide +kernel
theorem dX9_layGoes_2 : decode cX9_layGoes 2 = .ok (.iload_n 1, 1) := by decide +kernel
theorem dX9_layGoes_3 : decode cX9_layGoes 3 = .ok (.sipush 216, 3) := by decide +kernel
theorem dX9_layGoes_6 : decode cX9_layGoes 6 = .ok (.if_icmp .ge 25, 3) := by decide +kernel
theorem dX9_layGoes_9 : decode cX9_layGoes 9 = .ok (.aload_n 0, 1) := by decide +kernel
theorem dX9_layGoes_10 : decode cX9_layGoes 10 = .ok (.getfield 41, 3) := by decide +kernel
theorem dX9_layGoes_13 : decode cX9_layGoes 13 = .ok (.iload_n 1, 1) := by decide +kernel
theorem dX9_layGoes_14 : decode cX9_layGoes 14 = .ok (.ldc 134, 2) := by decide +kernel
theorem dX9_layGoes_16 : decode cX9_layGoes 16 = .ok (.iastore, 1) := by decide +kernel
theorem dX9_layGoes_17 : decode cX9_layGoes 17 = .ok (.aload_n 0, 1) := by decide +kernel
theorem dX9_layGoes_18 : decode cX9_layGoes 18 = .ok (.getfield 44, 3) := by decide +kernel
theorem dX9_layGoes_21 : decode cX9_layGoes 21 = .ok (.iload_n 1, 1) := by decide +kernel
theorem dX9_layGoes_22 : decode cX9_layGoes 22 = .ok (.ldc 134, 2) := by decide +kernel
theorem dX9_layGoes_24 : decode cX9_layGoes 24 = .ok (.iastore, 1) := by decide +kernel
theorem dX9_layGoes_25 : decode cX9_layGoes 25 = .ok (.iinc 1 1, 3) := by decide +kernel
theorem dX9_layGoes_28 : decode cX9_layGoes 28 = .ok (.goto (-26), 3) := by decide +kernel
theorem dX9_layGoes_31 : decode cX9_layGoes 31 = .ok (.iconst 0, 1) := by decide +kernel
theorem dX9_layGoes_32 : decode cX9_layGoes 32 = .ok (.istore_n 1, 1) := by decide +kernel
theorem dX9_layGoes_33 : decode cX9_layGoes 33 = .ok (.iload_n 1, 1) := by decide +kernel
theorem dX9_layGoes_34 : decode cX9_layGoes 34 = .ok (.aload_n 0, 1) := by decide +kernel
theorem dX9_layGoes_35 : decode cX9_layGoes 35 = .ok (.getfield 97, 3) := by decide +kernel
theorem dX9_layGoes_38 : decode cX9_layGoes 38 = .ok (.if_icmp .ge 31, 3) := by decide +kernel
theorem dX9_layGoes_41 : decode cX9_layGoes 41 = .ok (.aload_n 0, 1) := by decide +kernel
theorem dX9_layGoes_42 : decode cX9_layGoes 42 = .ok (.getfield 25, 3) := by decide +kernel
theorem dX9_layGoes_45 : decode cX9_layGoes 45 = .ok (.iload_n 1, 1) := by decide +kernel
theorem dX9_layGoes_46 : decode cX9_layGoes 46 = .ok (.baload, 1) := by decide +kernel
theorem dX9_layGoes_47 : decode cX9_layGoes 47 = .ok (.ifCond .eq 11, 3) := by decide +kernel
theorem dX9_layGoes_50 : decode cX9_layGoes 50 = .ok (.aload_n 0, 1) := by decide +kernel
theorem dX9_layGoes_51 : decode cX9_layGoes 51 = .ok (.iload_n 1, 1) := by decide +kernel
theorem dX9_layGoes_52 : decode cX9_layGoes 52 = .ok (.invokevirtual 146, 3) := by decide +kernel
theorem dX9_layGoes_55 : decode cX9_layGoes 55 = .ok (.goto 8, 3) := by decide +kernel
theorem dX9_layGoes_58 : decode cX9_layGoes 58 = .ok (.aload_n 0, 1) := by decide +kernel
theorem dX9_layGoes_59 : decode cX9_layGoes 59 = .ok (.iload_n 1, 1) := by decide +kernel
theorem dX9_layGoes_60 : decode cX9_layGoes 60 = .ok (.invokevirtual 150, 3) := by decide +kernel
theorem dX9_layGoes_63 : decode cX9_layGoes 63 = .ok (.iinc 1 1, 3) := by decide +kernel
theorem dX9_layGoes_66 : decode cX9_layGoes 66 = .ok (.goto (-33), 3) := by decide +kernel
theorem dX9_layGoes_69 : decode cX9_layGoes 69 = .ok (.return_, 1) := by decide +kernel
theorem dX9_isCovered_0 : decode cX9_isCovered 0 = .ok (.aload_n 0, 1) := by decide +kernel
theorem dX9_isCovered_1 : decode cX9_isCovered 1 = .ok (.getfield 41, 3) := by decide +kernel
theorem dX9_isCovered_4 : decode cX9_isCovered 4 = .ok (.bipush 36, 2) := by decide +kernel
theorem dX9_isCovered_6 : decode cX9_isCovered 6 = .ok (.iload_n 1, 1) := by decide +kernel
theorem dX9_isCovered_7 : decode cX9_isCovered 7 = .ok (.imul, 1) := by decide +kernel
theorem dX9_isCovered_8 : decode cX9_isCovered 8 = .ok (.iload_n 2, 1) := by decide +kernel
theorem dX9_isCovered_9 : decode cX9_isCovered 9 = .ok (.iadd, 1) := by decide +kernel
theorem dX9_isCovered_10 : decode cX9_isCovered 10 = .ok (.iaload, 1) := by decide +kernel
theorem dX9_isCovered_11 : decode cX9_isCovered 11 = .ok (.ldc 134, 2) := by decide +kernel
theorem dX9_isCovered_13 : decode cX9_isCovered 13 = .ok (.if_icmp .eq 7, 3) := by decide +kernel
theorem dX9_isCovered_16 : decode cX9_isCovered 16 = .ok (.iconst 1, 1) := by decide +kernel
theorem dX9_isCovered_17 : decode cX9_isCovered 17 = .ok (.goto 4, 3) := by decide +kernel
theorem dX9_isCovered_20 : decode cX9_isCovered 20 = .ok (.iconst 0, 1) := by decide +kernel
theorem dX9_isCovered_21 : decode cX9_isCovered 21 = .ok (.ireturn, 1) := by decide +kernel
theorem dX9_thick_0 : decode cX9_thick 0 = .ok (.aload_n 0, 1) := by decide +kernel
theorem dX9_thick_1 : decode cX9_thick 1 = .ok (.getfield 32, 3) := by decide +kernel
theorem dX9_thick_4 : decode cX9_thick 4 = .ok (.iload_n 1, 1) := by decide +kernel
theorem dX9_thick_5 : decode cX9_thick 5 = .ok (.iaload, 1) := by decide +kernel
theorem dX9_thick_6 : decode cX9_thick 6 = .ok (.aload_n 0, 1) := by decide +kernel
theorem dX9_thick_7 : decode cX9_thick 7 = .ok (.getfield 35, 3) := by decide +kernel
theorem dX9_thick_10 : decode cX9_thick 10 = .ok (.iload_n 1, 1) := by decide +kernel
theorem dX9_thick_11 : decode cX9_thick 11 = .ok (.iaload, 1) := by decide +kernel
theorem dX9_thick_12 : decode cX9_thick 12 = .ok (.aload_n 0, 1) := by decide +kernel
theorem dX9_thick_13 : decode cX9_thick 13 = .ok (.getfield 41, 3) := by decide +kernel
theorem dX9_thick_16 : decode cX9_thick 16 = .ok (.bipush 36, 2) := by decide +kernel
theorem dX9_thick_18 : decode cX9_thick 18 = .ok (.iload_n 1, 1) := by decide +kernel
theorem dX9_thick_19 : decode cX9_thick 19 = .ok (.imul, 1) := by decide +kernel
theorem dX9_thick_20 : decode cX9_thick 20 = .ok (.iload_n 2, 1) := by decide +kernel
theorem dX9_thick_21 : decode cX9_thick 21 = .ok (.iadd, 1) := by decide +kernel
theorem dX9_thick_22 : decode cX9_thick 22 = .ok (.iaload, 1) := by decide +kernel
theorem dX9_thick_23 : decode cX9_thick 23 = .ok (.imul, 1) := by decide +kernel
theorem dX9_thick_24 : decode cX9_thick 24 = .ok (.isub, 1) := by decide +kernel
theorem dX9_thick_25 : decode cX9_thick 25 = .ok (.aload_n 0, 1) := by decide +kernel
theorem dX9_thick_26 : decode cX9_thick 26 = .ok (.getfield 7, 3) := by decide +kernel
theorem dX9_thick_29 : decode cX9_thick 29 = .ok (.iload_n 2, 1) := by decide +kernel
theorem dX9_thick_30 : decode cX9_thick 30 = .ok (.iaload, 1) := by decide +kernel
theorem dX9_thick_31 : decode cX9_thick 31 = .ok (.isub, 1) := by decide +kernel
theorem dX9_thick_32 : decode cX9_thick 32 = .ok (.ireturn, 1) := by decide +kernel
theorem dX9_isHeap_0 : decode cX9_isHeap 0 = .ok (.aload_n 0, 1) := by decide +kernel
theorem dX9_isHeap_1 : decode cX9_isHeap 1 = .ok (.getfield 25, 3) := by decide +kernel
theorem dX9_isHeap_4 : decode cX9_isHeap 4 = .ok (.iload_n 1, 1) := by decide +kernel
theorem dX9_isHeap_5 : decode cX9_isHeap 5 = .ok (.baload, 1) := by decide +kernel
theorem dX9_isHeap_6 : decode cX9_isHeap 6 = .ok (.ifCond .eq 32, 3) := by decide +kernel
theorem dX9_isHeap_9 : decode cX9_isHeap 9 = .ok (.aload_n 0, 1) := by decide +kernel
theorem dX9_isHeap_10 : decode cX9_isHeap 10 = .ok (.iload_n 1, 1) := by decide +kernel
theorem dX9_isHeap_11 : decode cX9_isHeap 11 = .ok (.iload_n 2, 1) := by decide +kernel
theorem dX9_isHeap_12 : decode cX9_isHeap 12 = .ok (.invokevirtual 153, 3) := by decide +kernel
theorem dX9_isHeap_15 : decode cX9_isHeap 15 = .ok (.ifCond .eq 23, 3) := by decide +kernel
theorem dX9_isHeap_18 : decode cX9_isHeap 18 = .ok (.aload_n 0, 1) := by decide +kernel
theorem dX9_isHeap_19 : decode cX9_isHeap 19 = .ok (.getfield 44, 3) := by decide +kernel
theorem dX9_isHeap_22 : decode cX9_isHeap 22 = .ok (.bipush 36, 2) := by decide +kernel
theorem dX9_isHeap_24 : decode cX9_isHeap 24 = .ok (.iload_n 1, 1) := by decide +kernel
theorem dX9_isHeap_25 : decode cX9_isHeap 25 = .ok (.imul, 1) := by decide +kernel
theorem dX9_isHeap_26 : decode cX9_isHeap 26 = .ok (.iload_n 2, 1) := by decide +kernel
theorem dX9_isHeap_27 : decode cX9_isHeap 27 = .ok (.iadd, 1) := by decide +kernel
theorem dX9_isHeap_28 : decode cX9_isHeap 28 = .ok (.iaload, 1) := by decide +kernel
theorem dX9_isHeap_29 : decode cX9_isHeap 29 = .ok (.ldc 134, 2) := by decide +kernel
theorem dX9_isHeap_31 : decode cX9_isHeap 31 = .ok (.if_icmp .ne 7, 3) := by decide +kernel
theorem dX9_isHeap_34 : decode cX9_isHeap 34 = .ok (.iconst 1, 1) := by decide +kernel
theorem dX9_isHeap_35 : decode cX9_isHeap 35 = .ok (.goto 4, 3) := by decide +kernel
theorem dX9_isHeap_38 : decode cX9_isHeap 38 = .ok (.iconst 0, 1) := by decide +kernel
theorem dX9_isHeap_39 : decode cX9_isHeap 39 = .ok (.ireturn, 1) := by decide +kernel
theorem dX9_covers_0 : decode cX9_covers 0 = .ok (.aload_n 0, 1) := by decide +kernel
theorem dX9_covers_1 : decode cX9_covers 1 = .ok (.iload_n 1, 1) := by decide +kernel
theorem dX9_covers_2 : decode cX9_covers 2 = .ok (.invokevirtual 157, 3) := by decide +kernel
theorem dX9_covers_5 : decode cX9_covers 5 = .ok (.ifCond .ne 6, 3) := by decide +kernel
theorem dX9_covers_8 : decode cX9_covers 8 = .ok (.ldc 122, 2) := by decide +kernel
theorem dX9_covers_10 : decode cX9_covers 10 = .ok (.ireturn, 1) := by decide +kernel
theorem dX9_covers_11 : decode cX9_covers 11 = .ok (.aload_n 0, 1) := by decide +kernel
theorem dX9_covers_12 : decode cX9_covers 12 = .ok (.invokevirtual 160, 3) := by decide +kernel
theorem dX9_covers_15 : decode cX9_covers 15 = .ok (.iconst 0, 1) := by decide +kernel
theorem dX9_covers_16 : decode cX9_covers 16 = .ok (.istore_n 2, 1) := by decide +kernel
theorem dX9_covers_17 : decode cX9_covers 17 = .ok (.iconst 0, 1) := by decide +kernel
theorem dX9_covers_18 : decode cX9_covers 18 = .ok (.istore_n 3, 1) := by decide +kernel
theorem dX9_covers_19 : decode cX9_covers 19 = .ok (.iload_n 3, 1) := by decide +kernel
theorem dX9_covers_20 : decode cX9_covers 20 = .ok (.aload_n 0, 1) := by decide +kernel
theorem dX9_covers_21 : decode cX9_covers 21 = .ok (.invokevirtual 103, 3) := by decide +kernel
theorem dX9_covers_24 : decode cX9_covers 24 = .ok (.if_icmp .ge 26, 3) := by decide +kernel
theorem dX9_covers_27 : decode cX9_covers 27 = .ok (.iload_n 2, 1) := by decide +kernel
theorem dX9_covers_28 : decode cX9_covers 28 = .ok (.aload_n 0, 1) := by decide +kernel
theorem dX9_covers_29 : decode cX9_covers 29 = .ok (.iload_n 1, 1) := by decide +kernel
theorem dX9_covers_30 : decode cX9_covers 30 = .ok (.iload_n 3, 1) := by decide +kernel
theorem dX9_covers_31 : decode cX9_covers 31 = .ok (.invokevirtual 153, 3) := by decide +kernel
theorem dX9_covers_34 : decode cX9_covers 34 = .ok (.ifCond .eq 7, 3) := by decide +kernel
theorem dX9_covers_37 : decode cX9_covers 37 = .ok (.iconst 1, 1) := by decide +kernel
theorem dX9_covers_38 : decode cX9_covers 38 = .ok (.goto 4, 3) := by decide +kernel
theorem dX9_covers_41 : decode cX9_covers 41 = .ok (.iconst 0, 1) := by decide +kernel
theorem dX9_covers_42 : decode cX9_covers 42 = .ok (.iadd, 1) := by decide +kernel
theorem dX9_covers_43 : decode cX9_covers 43 = .ok (.istore_n 2, 1) := by decide +kernel
theorem dX9_covers_44 : decode cX9_covers 44 = .ok (.iinc 3 1, 3) := by decide +kernel
theorem dX9_covers_47 : decode cX9_covers 47 = .ok (.goto (-28), 3) := by decide +kernel
theorem dX9_covers_50 : decode cX9_covers 50 = .ok (.iload_n 2, 1) := by decide +kernel
theorem dX9_covers_51 : decode cX9_covers 51 = .ok (.ireturn, 1) := by decide +kernel
theorem dX9_by_0 : decode cX9_by 0 = .ok (.aload_n 0, 1) := by decide +kernel
theorem dX9_by_1 : decode cX9_by 1 = .ok (.iload_n 1, 1) := by decide +kernel
theorem dX9_by_2 : decode cX9_by 2 = .ok (.invokevirtual 157, 3) := by decide +kernel
theorem dX9_by_5 : decode cX9_by 5 = .ok (.ifCond .eq 11, 3) := by decide +kernel
theorem dX9_by_8 : decode cX9_by 8 = .ok (.aload_n 0, 1) := by decide +kernel
theorem dX9_by_9 : decode cX9_by 9 = .ok (.iload_n 2, 1) := by decide +kernel
theorem dX9_by_10 : decode cX9_by 10 = .ok (.invokevirtual 118, 3) := by decide +kernel
theorem dX9_by_13 : decode cX9_by 13 = .ok (.ifCond .ne 6, 3) := by decide +kernel
theorem dX9_by_16 : decode cX9_by 16 = .ok (.ldc 122, 2) := by decide +kernel
theorem dX9_by_18 : decode cX9_by 18 = .ok (.ireturn, 1) := by decide +kernel
theorem dX9_by_19 : decode cX9_by 19 = .ok (.aload_n 0, 1) := by decide +kernel
theorem dX9_by_20 : decode cX9_by 20 = .ok (.invokevirtual 160, 3) := by decide +kernel
theorem dX9_by_23 : decode cX9_by 23 = .ok (.aload_n 0, 1) := by decide +kernel
theorem dX9_by_24 : decode cX9_by 24 = .ok (.getfield 25, 3) := by decide +kernel
theorem dX9_by_27 : decode cX9_by 27 = .ok (.iload_n 1, 1) := by decide +kernel
theorem dX9_by_28 : decode cX9_by 28 = .ok (.baload, 1) := by decide +kernel
theorem dX9_by_29 : decode cX9_by 29 = .ok (.ifCond .eq 16, 3) := by decide +kernel
theorem dX9_by_32 : decode cX9_by 32 = .ok (.aload_n 0, 1) := by decide +kernel
theorem dX9_by_33 : decode cX9_by 33 = .ok (.iload_n 1, 1) := by decide +kernel
theorem dX9_by_34 : decode cX9_by 34 = .ok (.iload_n 2, 1) := by decide +kernel
theorem dX9_by_35 : decode cX9_by 35 = .ok (.invokevirtual 153, 3) := by decide +kernel
theorem dX9_by_38 : decode cX9_by 38 = .ok (.ifCond .eq 7, 3) := by decide +kernel
theorem dX9_by_41 : decode cX9_by 41 = .ok (.iconst 1, 1) := by decide +kernel
theorem dX9_by_42 : decode cX9_by 42 = .ok (.goto 4, 3) := by decide +kernel
theorem dX9_by_45 : decode cX9_by 45 = .ok (.iconst 0, 1) := by decide +kernel
theorem dX9_by_46 : decode cX9_by 46 = .ok (.istore 4, 2) := by decide +kernel
theorem dX9_by_48 : decode cX9_by 48 = .ok (.iload_n 3, 1) := by decide +kernel
theorem dX9_by_49 : decode cX9_by 49 = .ok (.tableswitch 126 0 4 #[35, 50, 72, 89, 111], 35) := by decide +kernel
theorem dX9_by_84 : decode cX9_by 84 = .ok (.aload_n 0, 1) := by decide +kernel
theorem dX9_by_85 : decode cX9_by 85 = .ok (.iload_n 1, 1) := by decide +kernel
theorem dX9_by_86 : decode cX9_by 86 = .ok (.iload_n 2, 1) := by decide +kernel
theorem dX9_by_87 : decode cX9_by 87 = .ok (.invokevirtual 153, 3) := by decide +kernel
theorem dX9_by_90 : decode cX9_by 90 = .ok (.ifCond .eq 7, 3) := by decide +kernel
theorem dX9_by_93 : decode cX9_by 93 = .ok (.iconst 1, 1) := by decide +kernel
theorem dX9_by_94 : decode cX9_by 94 = .ok (.goto 4, 3) := by decide +kernel
theorem dX9_by_97 : decode cX9_by 97 = .ok (.iconst 0, 1) := by decide +kernel
theorem dX9_by_98 : decode cX9_by 98 = .ok (.ireturn, 1) := by decide +kernel
theorem dX9_by_99 : decode cX9_by 99 = .ok (.iload 4, 2) := by decide +kernel
theorem dX9_by_101 : decode cX9_by 101 = .ok (.ifCond .eq 17, 3) := by decide +kernel
theorem dX9_by_104 : decode cX9_by 104 = .ok (.aload_n 0, 1) := by decide +kernel
theorem dX9_by_105 : decode cX9_by 105 = .ok (.getfield 41, 3) := by decide +kernel
theorem dX9_by_108 : decode cX9_by 108 = .ok (.bipush 36, 2) := by decide +kernel
theorem dX9_by_110 : decode cX9_by 110 = .ok (.iload_n 1, 1) := by decide +kernel
theorem dX9_by_111 : decode cX9_by 111 = .ok (.imul, 1) := by decide +kernel
theorem dX9_by_112 : decode cX9_by 112 = .ok (.iload_n 2, 1) := by decide +kernel
theorem dX9_by_113 : decode cX9_by 113 = .ok (.iadd, 1) := by decide +kernel
theorem dX9_by_114 : decode cX9_by 114 = .ok (.iaload, 1) := by decide +kernel
theorem dX9_by_115 : decode cX9_by 115 = .ok (.goto 5, 3) := by decide +kernel
theorem dX9_by_118 : decode cX9_by 118 = .ok (.ldc 134, 2) := by decide +kernel
theorem dX9_by_120 : decode cX9_by 120 = .ok (.ireturn, 1) := by decide +kernel
theorem dX9_by_121 : decode cX9_by 121 = .ok (.iload 4, 2) := by decide +kernel
theorem dX9_by_123 : decode cX9_by 123 = .ok (.ifCond .eq 12, 3) := by decide +kernel
theorem dX9_by_126 : decode cX9_by 126 = .ok (.aload_n 0, 1) := by decide +kernel
theorem dX9_by_127 : decode cX9_by 127 = .ok (.iload_n 1, 1) := by decide +kernel
theorem dX9_by_128 : decode cX9_by 128 = .ok (.iload_n 2, 1) := by decide +kernel
theorem dX9_by_129 : decode cX9_by 129 = .ok (.invokevirtual 163, 3) := by decide +kernel
theorem dX9_by_132 : decode cX9_by 132 = .ok (.goto 5, 3) := by decide +kernel
theorem dX9_by_135 : decode cX9_by 135 = .ok (.ldc 134, 2) := by decide +kernel
theorem dX9_by_137 : decode cX9_by 137 = .ok (.ireturn, 1) := by decide +kernel
theorem dX9_by_138 : decode cX9_by 138 = .ok (.iload 4, 2) := by decide +kernel
theorem dX9_by_140 : decode cX9_by 140 = .ok (.ifCond .eq 17, 3) := by decide +kernel
theorem dX9_by_143 : decode cX9_by 143 = .ok (.aload_n 0, 1) := by decide +kernel
theorem dX9_by_144 : decode cX9_by 144 = .ok (.getfield 44, 3) := by decide +kernel
theorem dX9_by_147 : decode cX9_by 147 = .ok (.bipush 36, 2) := by decide +kernel
theorem dX9_by_149 : decode cX9_by 149 = .ok (.iload_n 1, 1) := by decide +kernel
theorem dX9_by_150 : decode cX9_by 150 = .ok (.imul, 1) := by decide +kernel
theorem dX9_by_151 : decode cX9_by 151 = .ok (.iload_n 2, 1) := by decide +kernel
theorem dX9_by_152 : decode cX9_by 152 = .ok (.iadd, 1) := by decide +kernel
theorem dX9_by_153 : decode cX9_by 153 = .ok (.iaload, 1) := by decide +kernel
theorem dX9_by_154 : decode cX9_by 154 = .ok (.goto 5, 3) := by decide +kernel
theorem dX9_by_157 : decode cX9_by 157 = .ok (.ldc 134, 2) := by decide +kernel
theorem dX9_by_159 : decode cX9_by 159 = .ok (.ireturn, 1) := by decide +kernel
theorem dX9_by_160 : decode cX9_by 160 = .ok (.aload_n 0, 1) := by decide +kernel
theorem dX9_by_161 : decode cX9_by 161 = .ok (.iload_n 1, 1) := by decide +kernel
theorem dX9_by_162 : decode cX9_by 162 = .ok (.iload_n 2, 1) := by decide +kernel
theorem dX9_by_163 : decode cX9_by 163 = .ok (.invokevirtual 166, 3) := by decide +kernel
theorem dX9_by_166 : decode cX9_by 166 = .ok (.ifCond .eq 7, 3) := by decide +kernel
theorem dX9_by_169 : decode cX9_by 169 = .ok (.iconst 1, 1) := by decide +kernel
theorem dX9_by_170 : decode cX9_by 170 = .ok (.goto 4, 3) := by decide +kernel
theorem dX9_by_173 : decode cX9_by 173 = .ok (.iconst 0, 1) := by decide +kernel
theorem dX9_by_174 : decode cX9_by 174 = .ok (.ireturn, 1) := by decide +kernel
theorem dX9_by_175 : decode cX9_by 175 = .ok (.ldc 117, 2) := by decide +kernel
theorem dX9_by_177 : decode cX9_by 177 = .ok (.ireturn, 1) := by decide +kernel
theorem dX9_broughtBy_0 : decode cX9_broughtBy 0 = .ok (.iload_n 2, 1) := by decide +kernel
theorem dX9_broughtBy_1 : decode cX9_broughtBy 1 = .ok (.istore 4, 2) := by decide +kernel
theorem dX9_broughtBy_3 : decode cX9_broughtBy 3 = .ok (.aload_n 0, 1) := by decide +kernel
theorem dX9_broughtBy_4 : decode cX9_broughtBy 4 = .ok (.iload_n 1, 1) := by decide +kernel
theorem dX9_broughtBy_5 : decode cX9_broughtBy 5 = .ok (.iload_n 2, 1) := by decide +kernel
theorem dX9_broughtBy_6 : decode cX9_broughtBy 6 = .ok (.invokevirtual 153, 3) := by decide +kernel
theorem dX9_broughtBy_9 : decode cX9_broughtBy 9 = .ok (.ifCond .ne 5, 3) := by decide +kernel
theorem dX9_broughtBy_12 : decode cX9_broughtBy 12 = .ok (.iload_n 2, 1) := by decide +kernel
theorem dX9_broughtBy_13 : decode cX9_broughtBy 13 = .ok (.ireturn, 1) := by decide +kernel
theorem dX9_broughtBy_14 : decode cX9_broughtBy 14 = .ok (.aload_n 0, 1) := by decide +kernel
theorem dX9_broughtBy_15 : decode cX9_broughtBy 15 = .ok (.getfield 25, 3) := by decide +kernel
theorem dX9_broughtBy_18 : decode cX9_broughtBy 18 = .ok (.iload_n 1, 1) := by decide +kernel
theorem dX9_broughtBy_19 : decode cX9_broughtBy 19 = .ok (.baload, 1) := by decide +kernel
theorem dX9_broughtBy_20 : decode cX9_broughtBy 20 = .ok (.ifCond .eq 65, 3) := by decide +kernel
theorem dX9_broughtBy_23 : decode cX9_broughtBy 23 = .ok (.iconst 0, 1) := by decide +kernel
theorem dX9_broughtBy_24 : decode cX9_broughtBy 24 = .ok (.istore 5, 2) := by decide +kernel
theorem dX9_broughtBy_26 : decode cX9_broughtBy 26 = .ok (.iload 5, 2) := by decide +kernel
theorem dX9_broughtBy_28 : decode cX9_broughtBy 28 = .ok (.aload_n 0, 1) := by decide +kernel
theorem dX9_broughtBy_29 : decode cX9_broughtBy 29 = .ok (.getfield 38, 3) := by decide +kernel
theorem dX9_broughtBy_32 : decode cX9_broughtBy 32 = .ok (.iload_n 1, 1) := by decide +kernel
theorem dX9_broughtBy_33 : decode cX9_broughtBy 33 = .ok (.iaload, 1) := by decide +kernel
theorem dX9_broughtBy_34 : decode cX9_broughtBy 34 = .ok (.iload_n 3, 1) := by decide +kernel
theorem dX9_broughtBy_35 : decode cX9_broughtBy 35 = .ok (.idiv, 1) := by decide +kernel
theorem dX9_broughtBy_36 : decode cX9_broughtBy 36 = .ok (.if_icmp .ge 46, 3) := by decide +kernel
theorem dX9_broughtBy_39 : decode cX9_broughtBy 39 = .ok (.aload_n 0, 1) := by decide +kernel
theorem dX9_broughtBy_40 : decode cX9_broughtBy 40 = .ok (.getfield 44, 3) := by decide +kernel
theorem dX9_broughtBy_43 : decode cX9_broughtBy 43 = .ok (.bipush 36, 2) := by decide +kernel
theorem dX9_broughtBy_45 : decode cX9_broughtBy 45 = .ok (.iload_n 1, 1) := by decide +kernel
theorem dX9_broughtBy_46 : decode cX9_broughtBy 46 = .ok (.imul, 1) := by decide +kernel
theorem dX9_broughtBy_47 : decode cX9_broughtBy 47 = .ok (.iload 4, 2) := by decide +kernel
theorem dX9_broughtBy_49 : decode cX9_broughtBy 49 = .ok (.iadd, 1) := by decide +kernel
theorem dX9_broughtBy_50 : decode cX9_broughtBy 50 = .ok (.iaload, 1) := by decide +kernel
theorem dX9_broughtBy_51 : decode cX9_broughtBy 51 = .ok (.ldc 134, 2) := by decide +kernel
theorem dX9_broughtBy_53 : decode cX9_broughtBy 53 = .ok (.if_icmp .eq 29, 3) := by decide +kernel
theorem dX9_broughtBy_56 : decode cX9_broughtBy 56 = .ok (.aload_n 0, 1) := by decide +kernel
theorem dX9_broughtBy_57 : decode cX9_broughtBy 57 = .ok (.iload 4, 2) := by decide +kernel
theorem dX9_broughtBy_59 : decode cX9_broughtBy 59 = .ok (.aload_n 0, 1) := by decide +kernel
theorem dX9_broughtBy_60 : decode cX9_broughtBy 60 = .ok (.getfield 44, 3) := by decide +kernel
theorem dX9_broughtBy_63 : decode cX9_broughtBy 63 = .ok (.bipush 36, 2) := by decide +kernel
theorem dX9_broughtBy_65 : decode cX9_broughtBy 65 = .ok (.iload_n 1, 1) := by decide +kernel
theorem dX9_broughtBy_66 : decode cX9_broughtBy 66 = .ok (.imul, 1) := by decide +kernel
theorem dX9_broughtBy_67 : decode cX9_broughtBy 67 = .ok (.iload 4, 2) := by decide +kernel
theorem dX9_broughtBy_69 : decode cX9_broughtBy 69 = .ok (.iadd, 1) := by decide +kernel
theorem dX9_broughtBy_70 : decode cX9_broughtBy 70 = .ok (.iaload, 1) := by decide +kernel
theorem dX9_broughtBy_71 : decode cX9_broughtBy 71 = .ok (.invokevirtual 139, 3) := by decide +kernel
theorem dX9_broughtBy_74 : decode cX9_broughtBy 74 = .ok (.istore 4, 2) := by decide +kernel
theorem dX9_broughtBy_76 : decode cX9_broughtBy 76 = .ok (.iinc 5 1, 3) := by decide +kernel
theorem dX9_broughtBy_79 : decode cX9_broughtBy 79 = .ok (.goto (-53), 3) := by decide +kernel
theorem dX9_broughtBy_82 : decode cX9_broughtBy 82 = .ok (.iload 4, 2) := by decide +kernel
theorem dX9_broughtBy_84 : decode cX9_broughtBy 84 = .ok (.ireturn, 1) := by decide +kernel
theorem dX9_broughtBy_85 : decode cX9_broughtBy 85 = .ok (.iload_n 2, 1) := by decide +kernel
theorem dX9_broughtBy_86 : decode cX9_broughtBy 86 = .ok (.istore 5, 2) := by decide +kernel
theorem dX9_broughtBy_88 : decode cX9_broughtBy 88 = .ok (.iconst 0, 1) := by decide +kernel
theorem dX9_broughtBy_89 : decode cX9_broughtBy 89 = .ok (.istore 6, 2) := by decide +kernel
theorem dX9_broughtBy_91 : decode cX9_broughtBy 91 = .ok (.iload 6, 2) := by decide +kernel
theorem dX9_broughtBy_93 : decode cX9_broughtBy 93 = .ok (.aload_n 0, 1) := by decide +kernel
theorem dX9_broughtBy_94 : decode cX9_broughtBy 94 = .ok (.invokevirtual 103, 3) := by decide +kernel
theorem dX9_broughtBy_97 : decode cX9_broughtBy 97 = .ok (.if_icmp .ge 109, 3) := by decide +kernel
theorem dX9_broughtBy_100 : decode cX9_broughtBy 100 = .ok (.iload_n 3, 1) := by decide +kernel
theorem dX9_broughtBy_101 : decode cX9_broughtBy 101 = .ok (.iconst 3, 1) := by decide +kernel
theorem dX9_broughtBy_102 : decode cX9_broughtBy 102 = .ok (.if_icmp .ge 104, 3) := by decide +kernel
theorem dX9_broughtBy_105 : decode cX9_broughtBy 105 = .ok (.iload 6, 2) := by decide +kernel
theorem dX9_broughtBy_107 : decode cX9_broughtBy 107 = .ok (.aload_n 0, 1) := by decide +kernel
theorem dX9_broughtBy_108 : decode cX9_broughtBy 108 = .ok (.getfield 87, 3) := by decide +kernel
theorem dX9_broughtBy_111 : decode cX9_broughtBy 111 = .ok (.irem, 1) := by decide +kernel
theorem dX9_broughtBy_112 : decode cX9_broughtBy 112 = .ok (.iload_n 2, 1) := by decide +kernel
theorem dX9_broughtBy_113 : decode cX9_broughtBy 113 = .ok (.aload_n 0, 1) := by decide +kernel
theorem dX9_broughtBy_114 : decode cX9_broughtBy 114 = .ok (.getfield 87, 3) := by decide +kernel
theorem dX9_broughtBy_117 : decode cX9_broughtBy 117 = .ok (.irem, 1) := by decide +kernel
theorem dX9_broughtBy_118 : decode cX9_broughtBy 118 = .ok (.isub, 1) := by decide +kernel
theorem dX9_broughtBy_119 : decode cX9_broughtBy 119 = .ok (.istore 7, 2) := by decide +kernel
theorem dX9_broughtBy_121 : decode cX9_broughtBy 121 = .ok (.iload 6, 2) := by decide +kernel
theorem dX9_broughtBy_123 : decode cX9_broughtBy 123 = .ok (.aload_n 0, 1) := by decide +kernel
theorem dX9_broughtBy_124 : decode cX9_broughtBy 124 = .ok (.getfield 87, 3) := by decide +kernel
theorem dX9_broughtBy_127 : decode cX9_broughtBy 127 = .ok (.idiv, 1) := by decide +kernel
theorem dX9_broughtBy_128 : decode cX9_broughtBy 128 = .ok (.iload_n 2, 1) := by decide +kernel
theorem dX9_broughtBy_129 : decode cX9_broughtBy 129 = .ok (.aload_n 0, 1) := by decide +kernel
theorem dX9_broughtBy_130 : decode cX9_broughtBy 130 = .ok (.getfield 87, 3) := by decide +kernel
theorem dX9_broughtBy_133 : decode cX9_broughtBy 133 = .ok (.idiv, 1) := by decide +kernel
theorem dX9_broughtBy_134 : decode cX9_broughtBy 134 = .ok (.isub, 1) := by decide +kernel
theorem dX9_broughtBy_135 : decode cX9_broughtBy 135 = .ok (.istore 8, 2) := by decide +kernel
theorem dX9_broughtBy_137 : decode cX9_broughtBy 137 = .ok (.iload 7, 2) := by decide +kernel
theorem dX9_broughtBy_139 : decode cX9_broughtBy 139 = .ok (.iload 7, 2) := by decide +kernel
theorem dX9_broughtBy_141 : decode cX9_broughtBy 141 = .ok (.imul, 1) := by decide +kernel
theorem dX9_broughtBy_142 : decode cX9_broughtBy 142 = .ok (.iload 8, 2) := by decide +kernel
theorem dX9_broughtBy_144 : decode cX9_broughtBy 144 = .ok (.iload 8, 2) := by decide +kernel
theorem dX9_broughtBy_146 : decode cX9_broughtBy 146 = .ok (.imul, 1) := by decide +kernel
theorem dX9_broughtBy_147 : decode cX9_broughtBy 147 = .ok (.iadd, 1) := by decide +kernel
theorem dX9_broughtBy_148 : decode cX9_broughtBy 148 = .ok (.iconst 1, 1) := by decide +kernel
theorem dX9_broughtBy_149 : decode cX9_broughtBy 149 = .ok (.if_icmp .ne 17, 3) := by decide +kernel
theorem dX9_broughtBy_152 : decode cX9_broughtBy 152 = .ok (.aload_n 0, 1) := by decide +kernel
theorem dX9_broughtBy_153 : decode cX9_broughtBy 153 = .ok (.iload_n 1, 1) := by decide +kernel
theorem dX9_broughtBy_154 : decode cX9_broughtBy 154 = .ok (.iload 6, 2) := by decide +kernel
theorem dX9_broughtBy_156 : decode cX9_broughtBy 156 = .ok (.invokevirtual 153, 3) := by decide +kernel
theorem dX9_broughtBy_159 : decode cX9_broughtBy 159 = .ok (.ifCond .eq 7, 3) := by decide +kernel
theorem dX9_broughtBy_162 : decode cX9_broughtBy 162 = .ok (.iconst 1, 1) := by decide +kernel
theorem dX9_broughtBy_163 : decode cX9_broughtBy 163 = .ok (.goto 4, 3) := by decide +kernel
theorem dX9_broughtBy_166 : decode cX9_broughtBy 166 = .ok (.iconst 0, 1) := by decide +kernel
theorem dX9_broughtBy_167 : decode cX9_broughtBy 167 = .ok (.istore 9, 2) := by decide +kernel
theorem dX9_broughtBy_169 : decode cX9_broughtBy 169 = .ok (.iload 9, 2) := by decide +kernel
theorem dX9_broughtBy_171 : decode cX9_broughtBy 171 = .ok (.ifCond .eq 25, 3) := by decide +kernel
theorem dX9_broughtBy_174 : decode cX9_broughtBy 174 = .ok (.aload_n 0, 1) := by decide +kernel
theorem dX9_broughtBy_175 : decode cX9_broughtBy 175 = .ok (.getfield 7, 3) := by decide +kernel
theorem dX9_broughtBy_178 : decode cX9_broughtBy 178 = .ok (.iload 6, 2) := by decide +kernel
theorem dX9_broughtBy_180 : decode cX9_broughtBy 180 = .ok (.iaload, 1) := by decide +kernel
theorem dX9_broughtBy_181 : decode cX9_broughtBy 181 = .ok (.aload_n 0, 1) := by decide +kernel
theorem dX9_broughtBy_182 : decode cX9_broughtBy 182 = .ok (.getfield 7, 3) := by decide +kernel
theorem dX9_broughtBy_185 : decode cX9_broughtBy 185 = .ok (.iload 5, 2) := by decide +kernel
theorem dX9_broughtBy_187 : decode cX9_broughtBy 187 = .ok (.iaload, 1) := by decide +kernel
theorem dX9_broughtBy_188 : decode cX9_broughtBy 188 = .ok (.if_icmp .ge 8, 3) := by decide +kernel
theorem dX9_broughtBy_191 : decode cX9_broughtBy 191 = .ok (.iload 6, 2) := by decide +kernel
theorem dX9_broughtBy_193 : decode cX9_broughtBy 193 = .ok (.goto 5, 3) := by decide +kernel
theorem dX9_broughtBy_196 : decode cX9_broughtBy 196 = .ok (.iload 5, 2) := by decide +kernel
theorem dX9_broughtBy_198 : decode cX9_broughtBy 198 = .ok (.istore 5, 2) := by decide +kernel
theorem dX9_broughtBy_200 : decode cX9_broughtBy 200 = .ok (.iinc 6 1, 3) := by decide +kernel
theorem dX9_broughtBy_203 : decode cX9_broughtBy 203 = .ok (.goto (-112), 3) := by decide +kernel
theorem dX9_broughtBy_206 : decode cX9_broughtBy 206 = .ok (.iload 5, 2) := by decide +kernel
theorem dX9_broughtBy_208 : decode cX9_broughtBy 208 = .ok (.ireturn, 1) := by decide +kernel
theorem dX9_brings_0 : decode cX9_brings 0 = .ok (.aload_n 0, 1) := by decide +kernel
theorem dX9_brings_1 : decode cX9_brings 1 = .ok (.iload_n 1, 1) := by decide +kernel
theorem dX9_brings_2 : decode cX9_brings 2 = .ok (.invokevirtual 157, 3) := by decide +kernel
theorem dX9_brings_5 : decode cX9_brings 5 = .ok (.ifCond .eq 11, 3) := by decide +kernel
theorem dX9_brings_8 : decode cX9_brings 8 = .ok (.aload_n 0, 1) := by decide +kernel
theorem dX9_brings_9 : decode cX9_brings 9 = .ok (.iload_n 2, 1) := by decide +kernel
theorem dX9_brings_10 : decode cX9_brings 10 = .ok (.invokevirtual 118, 3) := by decide +kernel
theorem dX9_brings_13 : decode cX9_brings 13 = .ok (.ifCond .ne 6, 3) := by decide +kernel
theorem dX9_brings_16 : decode cX9_brings 16 = .ok (.ldc 122, 2) := by decide +kernel
theorem dX9_brings_18 : decode cX9_brings 18 = .ok (.ireturn, 1) := by decide +kernel
theorem dX9_brings_19 : decode cX9_brings 19 = .ok (.iload_n 3, 1) := by decide +kernel
theorem dX9_brings_20 : decode cX9_brings 20 = .ok (.invokestatic 127, 3) := by decide +kernel
theorem dX9_brings_23 : decode cX9_brings 23 = .ok (.ifCond .ne 6, 3) := by decide +kernel
theorem dX9_brings_26 : decode cX9_brings 26 = .ok (.ldc 117, 2) := by decide +kernel
theorem dX9_brings_28 : decode cX9_brings 28 = .ok (.ireturn, 1) := by decide +kernel
theorem dX9_brings_29 : decode cX9_brings 29 = .ok (.aload_n 0, 1) := by decide +kernel
theorem dX9_brings_30 : decode cX9_brings 30 = .ok (.invokevirtual 160, 3) := by decide +kernel
theorem dX9_brings_33 : decode cX9_brings 33 = .ok (.aload_n 0, 1) := by decide +kernel
theorem dX9_brings_34 : decode cX9_brings 34 = .ok (.iload_n 1, 1) := by decide +kernel
theorem dX9_brings_35 : decode cX9_brings 35 = .ok (.iload_n 2, 1) := by decide +kernel
theorem dX9_brings_36 : decode cX9_brings 36 = .ok (.iload_n 3, 1) := by decide +kernel
theorem dX9_brings_37 : decode cX9_brings 37 = .ok (.invokevirtual 169, 3) := by decide +kernel
theorem dX9_brings_40 : decode cX9_brings 40 = .ok (.ireturn, 1) := by decide +kernel
theorem dX9_isSlot_0 : decode cX9_isSlot 0 = .ok (.iload_n 0, 1) := by decide +kernel
theorem dX9_isSlot_1 : decode cX9_isSlot 1 = .ok (.i2l, 1) := by decide +kernel
theorem dX9_isSlot_2 : decode cX9_isSlot 2 = .ok (.lconst 0, 1) := by decide +kernel
theorem dX9_isSlot_3 : decode cX9_isSlot 3 = .ok (.ldc2_w 113, 3) := by decide +kernel
theorem dX9_isSlot_6 : decode cX9_isSlot 6 = .ok (.invokestatic 107, 3) := by decide +kernel
theorem dX9_isSlot_9 : decode cX9_isSlot 9 = .ok (.ireturn, 1) := by decide +kernel
theorem dX9_then_0 : decode cX9_then 0 = .ok (.iload_n 1, 1) := by decide +kernel
theorem dX9_then_1 : decode cX9_then 1 = .ok (.invokestatic 173, 3) := by decide +kernel
theorem dX9_then_4 : decode cX9_then 4 = .ok (.ifCond .eq 11, 3) := by decide +kernel
theorem dX9_then_7 : decode cX9_then 7 = .ok (.aload_n 0, 1) := by decide +kernel
theorem dX9_then_8 : decode cX9_then 8 = .ok (.iload_n 2, 1) := by decide +kernel
theorem dX9_then_9 : decode cX9_then 9 = .ok (.invokevirtual 157, 3) := by decide +kernel
theorem dX9_then_12 : decode cX9_then 12 = .ok (.ifCond .ne 6, 3) := by decide +kernel
theorem dX9_then_15 : decode cX9_then 15 = .ok (.ldc 122, 2) := by decide +kernel
theorem dX9_then_17 : decode cX9_then 17 = .ok (.ireturn, 1) := by decide +kernel
theorem dX9_then_18 : decode cX9_then 18 = .ok (.iconst 0, 1) := by decide +kernel
theorem dX9_then_19 : decode cX9_then 19 = .ok (.istore_n 3, 1) := by decide +kernel
theorem dX9_then_20 : decode cX9_then 20 = .ok (.iload_n 3, 1) := by decide +kernel
theorem dX9_then_21 : decode cX9_then 21 = .ok (.aload_n 0, 1) := by decide +kernel
theorem dX9_then_22 : decode cX9_then 22 = .ok (.getfield 47, 3) := by decide +kernel
theorem dX9_then_25 : decode cX9_then 25 = .ok (.iload_n 1, 1) := by decide +kernel
theorem dX9_then_26 : decode cX9_then 26 = .ok (.iaload, 1) := by decide +kernel
theorem dX9_then_27 : decode cX9_then 27 = .ok (.if_icmp .ge 27, 3) := by decide +kernel
theorem dX9_then_30 : decode cX9_then 30 = .ok (.aload_n 0, 1) := by decide +kernel
theorem dX9_then_31 : decode cX9_then 31 = .ok (.getfield 50, 3) := by decide +kernel
theorem dX9_then_34 : decode cX9_then 34 = .ok (.bipush 6, 2) := by decide +kernel
theorem dX9_then_36 : decode cX9_then 36 = .ok (.iload_n 1, 1) := by decide +kernel
theorem dX9_then_37 : decode cX9_then 37 = .ok (.imul, 1) := by decide +kernel
theorem dX9_then_38 : decode cX9_then 38 = .ok (.iload_n 3, 1) := by decide +kernel
theorem dX9_then_39 : decode cX9_then 39 = .ok (.iadd, 1) := by decide +kernel
theorem dX9_then_40 : decode cX9_then 40 = .ok (.iaload, 1) := by decide +kernel
theorem dX9_then_41 : decode cX9_then 41 = .ok (.iload_n 2, 1) := by decide +kernel
theorem dX9_then_42 : decode cX9_then 42 = .ok (.if_icmp .ne 6, 3) := by decide +kernel
theorem dX9_then_45 : decode cX9_then 45 = .ok (.ldc 176, 2) := by decide +kernel
theorem dX9_then_47 : decode cX9_then 47 = .ok (.ireturn, 1) := by decide +kernel
theorem dX9_then_48 : decode cX9_then 48 = .ok (.iinc 3 1, 3) := by decide +kernel
theorem dX9_then_51 : decode cX9_then 51 = .ok (.goto (-31), 3) := by decide +kernel
theorem dX9_then_54 : decode cX9_then 54 = .ok (.aload_n 0, 1) := by decide +kernel
theorem dX9_then_55 : decode cX9_then 55 = .ok (.getfield 50, 3) := by decide +kernel
theorem dX9_then_58 : decode cX9_then 58 = .ok (.bipush 6, 2) := by decide +kernel
theorem dX9_then_60 : decode cX9_then 60 = .ok (.iload_n 1, 1) := by decide +kernel
theorem dX9_then_61 : decode cX9_then 61 = .ok (.imul, 1) := by decide +kernel
theorem dX9_then_62 : decode cX9_then 62 = .ok (.aload_n 0, 1) := by decide +kernel
theorem dX9_then_63 : decode cX9_then 63 = .ok (.getfield 47, 3) := by decide +kernel
theorem dX9_then_66 : decode cX9_then 66 = .ok (.iload_n 1, 1) := by decide +kernel
theorem dX9_then_67 : decode cX9_then 67 = .ok (.iaload, 1) := by decide +kernel
theorem dX9_then_68 : decode cX9_then 68 = .ok (.iadd, 1) := by decide +kernel
theorem dX9_then_69 : decode cX9_then 69 = .ok (.iload_n 2, 1) := by decide +kernel
theorem dX9_then_70 : decode cX9_then 70 = .ok (.iastore, 1) := by decide +kernel
theorem dX9_then_71 : decode cX9_then 71 = .ok (.aload_n 0, 1) := by decide +kernel
theorem dX9_then_72 : decode cX9_then 72 = .ok (.getfield 47, 3) := by decide +kernel
theorem dX9_then_75 : decode cX9_then 75 = .ok (.iload_n 1, 1) := by decide +kernel
theorem dX9_then_76 : decode cX9_then 76 = .ok (.dup2, 1) := by decide +kernel
theorem dX9_then_77 : decode cX9_then 77 = .ok (.iaload, 1) := by decide +kernel
theorem dX9_then_78 : decode cX9_then 78 = .ok (.iconst 1, 1) := by decide +kernel
theorem dX9_then_79 : decode cX9_then 79 = .ok (.iadd, 1) := by decide +kernel
theorem dX9_then_80 : decode cX9_then 80 = .ok (.iastore, 1) := by decide +kernel
theorem dX9_then_81 : decode cX9_then 81 = .ok (.aload_n 0, 1) := by decide +kernel
theorem dX9_then_82 : decode cX9_then 82 = .ok (.getfield 47, 3) := by decide +kernel
theorem dX9_then_85 : decode cX9_then 85 = .ok (.iload_n 1, 1) := by decide +kernel
theorem dX9_then_86 : decode cX9_then 86 = .ok (.iaload, 1) := by decide +kernel
theorem dX9_then_87 : decode cX9_then 87 = .ok (.ireturn, 1) := by decide +kernel
theorem dX9_clear_0 : decode cX9_clear 0 = .ok (.iload_n 1, 1) := by decide +kernel
theorem dX9_clear_1 : decode cX9_clear 1 = .ok (.invokestatic 173, 3) := by decide +kernel
theorem dX9_clear_4 : decode cX9_clear 4 = .ok (.ifCond .ne 6, 3) := by decide +kernel
theorem dX9_clear_7 : decode cX9_clear 7 = .ok (.ldc 122, 2) := by decide +kernel
theorem dX9_clear_9 : decode cX9_clear 9 = .ok (.ireturn, 1) := by decide +kernel
theorem dX9_clear_10 : decode cX9_clear 10 = .ok (.aload_n 0, 1) := by decide +kernel
theorem dX9_clear_11 : decode cX9_clear 11 = .ok (.getfield 47, 3) := by decide +kernel
theorem dX9_clear_14 : decode cX9_clear 14 = .ok (.iload_n 1, 1) := by decide +kernel
theorem dX9_clear_15 : decode cX9_clear 15 = .ok (.iaload, 1) := by decide +kernel
theorem dX9_clear_16 : decode cX9_clear 16 = .ok (.istore_n 2, 1) := by decide +kernel
theorem dX9_clear_17 : decode cX9_clear 17 = .ok (.aload_n 0, 1) := by decide +kernel
theorem dX9_clear_18 : decode cX9_clear 18 = .ok (.getfield 47, 3) := by decide +kernel
theorem dX9_clear_21 : decode cX9_clear 21 = .ok (.iload_n 1, 1) := by decide +kernel
theorem dX9_clear_22 : decode cX9_clear 22 = .ok (.iconst 0, 1) := by decide +kernel
theorem dX9_clear_23 : decode cX9_clear 23 = .ok (.iastore, 1) := by decide +kernel
theorem dX9_clear_24 : decode cX9_clear 24 = .ok (.iload_n 2, 1) := by decide +kernel
theorem dX9_clear_25 : decode cX9_clear 25 = .ok (.ireturn, 1) := by decide +kernel
theorem dX9_told_0 : decode cX9_told 0 = .ok (.iload_n 1, 1) := by decide +kernel
theorem dX9_told_1 : decode cX9_told 1 = .ok (.invokestatic 173, 3) := by decide +kernel
theorem dX9_told_4 : decode cX9_told 4 = .ok (.ifCond .ne 6, 3) := by decide +kernel
theorem dX9_told_7 : decode cX9_told 7 = .ok (.ldc 122, 2) := by decide +kernel
theorem dX9_told_9 : decode cX9_told 9 = .ok (.ireturn, 1) := by decide +kernel
theorem dX9_told_10 : decode cX9_told 10 = .ok (.iload_n 2, 1) := by decide +kernel
theorem dX9_told_11 : decode cX9_told 11 = .ok (.i2l, 1) := by decide +kernel
theorem dX9_told_12 : decode cX9_told 12 = .ok (.lconst 0, 1) := by decide +kernel
theorem dX9_told_13 : decode cX9_told 13 = .ok (.aload_n 0, 1) := by decide +kernel
theorem dX9_told_14 : decode cX9_told 14 = .ok (.getfield 47, 3) := by decide +kernel
theorem dX9_told_17 : decode cX9_told 17 = .ok (.iload_n 1, 1) := by decide +kernel
theorem dX9_told_18 : decode cX9_told 18 = .ok (.iaload, 1) := by decide +kernel
theorem dX9_told_19 : decode cX9_told 19 = .ok (.iconst 1, 1) := by decide +kernel
theorem dX9_told_20 : decode cX9_told 20 = .ok (.isub, 1) := by decide +kernel
theorem dX9_told_21 : decode cX9_told 21 = .ok (.i2l, 1) := by decide +kernel
theorem dX9_told_22 : decode cX9_told 22 = .ok (.invokestatic 107, 3) := by decide +kernel
theorem dX9_told_25 : decode cX9_told 25 = .ok (.ifCond .eq 17, 3) := by decide +kernel
theorem dX9_told_28 : decode cX9_told 28 = .ok (.aload_n 0, 1) := by decide +kernel
theorem dX9_told_29 : decode cX9_told 29 = .ok (.getfield 50, 3) := by decide +kernel
theorem dX9_told_32 : decode cX9_told 32 = .ok (.bipush 6, 2) := by decide +kernel
theorem dX9_told_34 : decode cX9_told 34 = .ok (.iload_n 1, 1) := by decide +kernel
theorem dX9_told_35 : decode cX9_told 35 = .ok (.imul, 1) := by decide +kernel
theorem dX9_told_36 : decode cX9_told 36 = .ok (.iload_n 2, 1) := by decide +kernel
theorem dX9_told_37 : decode cX9_told 37 = .ok (.iadd, 1) := by decide +kernel
theorem dX9_told_38 : decode cX9_told 38 = .ok (.iaload, 1) := by decide +kernel
theorem dX9_told_39 : decode cX9_told 39 = .ok (.goto 5, 3) := by decide +kernel
theorem dX9_told_42 : decode cX9_told 42 = .ok (.ldc 134, 2) := by decide +kernel
theorem dX9_told_44 : decode cX9_told 44 = .ok (.ireturn, 1) := by decide +kernel
theorem dX9_layRow_0 : decode cX9_layRow 0 = .ok (.aload_n 0, 1) := by decide +kernel
theorem dX9_layRow_1 : decode cX9_layRow 1 = .ok (.invokevirtual 160, 3) := by decide +kernel
theorem dX9_layRow_4 : decode cX9_layRow 4 = .ok (.aload_n 0, 1) := by decide +kernel
theorem dX9_layRow_5 : decode cX9_layRow 5 = .ok (.aload_n 0, 1) := by decide +kernel
theorem dX9_layRow_6 : decode cX9_layRow 6 = .ok (.getfield 47, 3) := by decide +kernel
theorem dX9_layRow_9 : decode cX9_layRow 9 = .ok (.iload_n 1, 1) := by decide +kernel
theorem dX9_layRow_10 : decode cX9_layRow 10 = .ok (.iaload, 1) := by decide +kernel
theorem dX9_layRow_11 : decode cX9_layRow 11 = .ok (.putfield 177, 3) := by decide +kernel
theorem dX9_layRow_14 : decode cX9_layRow 14 = .ok (.iconst 0, 1) := by decide +kernel
theorem dX9_layRow_15 : decode cX9_layRow 15 = .ok (.istore_n 2, 1) := by decide +kernel
theorem dX9_layRow_16 : decode cX9_layRow 16 = .ok (.iload_n 2, 1) := by decide +kernel
theorem dX9_layRow_17 : decode cX9_layRow 17 = .ok (.aload_n 0, 1) := by decide +kernel
theorem dX9_layRow_18 : decode cX9_layRow 18 = .ok (.getfield 177, 3) := by decide +kernel
theorem dX9_layRow_21 : decode cX9_layRow 21 = .ok (.if_icmp .ge 26, 3) := by decide +kernel
theorem dX9_layRow_24 : decode cX9_layRow 24 = .ok (.aload_n 0, 1) := by decide +kernel
theorem dX9_layRow_25 : decode cX9_layRow 25 = .ok (.getfield 53, 3) := by decide +kernel
theorem dX9_layRow_28 : decode cX9_layRow 28 = .ok (.iload_n 2, 1) := by decide +kernel
theorem dX9_layRow_29 : decode cX9_layRow 29 = .ok (.aload_n 0, 1) := by decide +kernel
theorem dX9_layRow_30 : decode cX9_layRow 30 = .ok (.getfield 50, 3) := by decide +kernel
theorem dX9_layRow_33 : decode cX9_layRow 33 = .ok (.bipush 6, 2) := by decide +kernel
theorem dX9_layRow_35 : decode cX9_layRow 35 = .ok (.iload_n 1, 1) := by decide +kernel
theorem dX9_layRow_36 : decode cX9_layRow 36 = .ok (.imul, 1) := by decide +kernel
theorem dX9_layRow_37 : decode cX9_layRow 37 = .ok (.iload_n 2, 1) := by decide +kernel
theorem dX9_layRow_38 : decode cX9_layRow 38 = .ok (.iadd, 1) := by decide +kernel
theorem dX9_layRow_39 : decode cX9_layRow 39 = .ok (.iaload, 1) := by decide +kernel
theorem dX9_layRow_40 : decode cX9_layRow 40 = .ok (.iastore, 1) := by decide +kernel
theorem dX9_layRow_41 : decode cX9_layRow 41 = .ok (.iinc 2 1, 3) := by decide +kernel
theorem dX9_layRow_44 : decode cX9_layRow 44 = .ok (.goto (-28), 3) := by decide +kernel
theorem dX9_layRow_47 : decode cX9_layRow 47 = .ok (.return_, 1) := by decide +kernel
theorem dX9_endOf_0 : decode cX9_endOf 0 = .ok (.iload_n 1, 1) := by decide +kernel
theorem dX9_endOf_1 : decode cX9_endOf 1 = .ok (.istore_n 3, 1) := by decide +kernel
theorem dX9_endOf_2 : decode cX9_endOf 2 = .ok (.iconst 0, 1) := by decide +kernel
theorem dX9_endOf_3 : decode cX9_endOf 3 = .ok (.istore 4, 2) := by decide +kernel
theorem dX9_endOf_5 : decode cX9_endOf 5 = .ok (.iload 4, 2) := by decide +kernel
theorem dX9_endOf_7 : decode cX9_endOf 7 = .ok (.aload_n 0, 1) := by decide +kernel
theorem dX9_endOf_8 : decode cX9_endOf 8 = .ok (.getfield 177, 3) := by decide +kernel
theorem dX9_endOf_11 : decode cX9_endOf 11 = .ok (.if_icmp .ge 23, 3) := by decide +kernel
theorem dX9_endOf_14 : decode cX9_endOf 14 = .ok (.aload_n 0, 1) := by decide +kernel
theorem dX9_endOf_15 : decode cX9_endOf 15 = .ok (.aload_n 0, 1) := by decide +kernel
theorem dX9_endOf_16 : decode cX9_endOf 16 = .ok (.getfield 53, 3) := by decide +kernel
theorem dX9_endOf_19 : decode cX9_endOf 19 = .ok (.iload 4, 2) := by decide +kernel
theorem dX9_endOf_21 : decode cX9_endOf 21 = .ok (.iaload, 1) := by decide +kernel
theorem dX9_endOf_22 : decode cX9_endOf 22 = .ok (.iload_n 3, 1) := by decide +kernel
theorem dX9_endOf_23 : decode cX9_endOf 23 = .ok (.iload_n 2, 1) := by decide +kernel
theorem dX9_endOf_24 : decode cX9_endOf 24 = .ok (.invokevirtual 169, 3) := by decide +kernel
theorem dX9_endOf_27 : decode cX9_endOf 27 = .ok (.istore_n 3, 1) := by decide +kernel
theorem dX9_endOf_28 : decode cX9_endOf 28 = .ok (.iinc 4 1, 3) := by decide +kernel
theorem dX9_endOf_31 : decode cX9_endOf 31 = .ok (.goto (-26), 3) := by decide +kernel
theorem dX9_endOf_34 : decode cX9_endOf 34 = .ok (.iload_n 3, 1) := by decide +kernel
theorem dX9_endOf_35 : decode cX9_endOf 35 = .ok (.ireturn, 1) := by decide +kernel
theorem dX9_ends_0 : decode cX9_ends 0 = .ok (.iload_n 1, 1) := by decide +kernel
theorem dX9_ends_1 : decode cX9_ends 1 = .ok (.invokestatic 173, 3) := by decide +kernel
theorem dX9_ends_4 : decode cX9_ends 4 = .ok (.ifCond .eq 11, 3) := by decide +kernel
theorem dX9_ends_7 : decode cX9_ends 7 = .ok (.aload_n 0, 1) := by decide +kernel
theorem dX9_ends_8 : decode cX9_ends 8 = .ok (.iload_n 2, 1) := by decide +kernel
theorem dX9_ends_9 : decode cX9_ends 9 = .ok (.invokevirtual 118, 3) := by decide +kernel
theorem dX9_ends_12 : decode cX9_ends 12 = .ok (.ifCond .ne 6, 3) := by decide +kernel
theorem dX9_ends_15 : decode cX9_ends 15 = .ok (.ldc 122, 2) := by decide +kernel
theorem dX9_ends_17 : decode cX9_ends 17 = .ok (.ireturn, 1) := by decide +kernel
theorem dX9_ends_18 : decode cX9_ends 18 = .ok (.iload_n 3, 1) := by decide +kernel
theorem dX9_ends_19 : decode cX9_ends 19 = .ok (.invokestatic 127, 3) := by decide +kernel
theorem dX9_ends_22 : decode cX9_ends 22 = .ok (.ifCond .ne 6, 3) := by decide +kernel
theorem dX9_ends_25 : decode cX9_ends 25 = .ok (.ldc 117, 2) := by decide +kernel
theorem dX9_ends_27 : decode cX9_ends 27 = .ok (.ireturn, 1) := by decide +kernel
theorem dX9_ends_28 : decode cX9_ends 28 = .ok (.aload_n 0, 1) := by decide +kernel
theorem dX9_ends_29 : decode cX9_ends 29 = .ok (.iload_n 1, 1) := by decide +kernel
theorem dX9_ends_30 : decode cX9_ends 30 = .ok (.invokevirtual 180, 3) := by decide +kernel
theorem dX9_ends_33 : decode cX9_ends 33 = .ok (.aload_n 0, 1) := by decide +kernel
theorem dX9_ends_34 : decode cX9_ends 34 = .ok (.iload_n 2, 1) := by decide +kernel
theorem dX9_ends_35 : decode cX9_ends 35 = .ok (.iload_n 3, 1) := by decide +kernel
theorem dX9_ends_36 : decode cX9_ends 36 = .ok (.invokevirtual 183, 3) := by decide +kernel
theorem dX9_ends_39 : decode cX9_ends 39 = .ok (.ireturn, 1) := by decide +kernel
theorem dX9_isWhence_0 : decode cX9_isWhence 0 = .ok (.aload_n 0, 1) := by decide +kernel
theorem dX9_isWhence_1 : decode cX9_isWhence 1 = .ok (.getfield 13, 3) := by decide +kernel
theorem dX9_isWhence_4 : decode cX9_isWhence 4 = .ok (.iload_n 2, 1) := by decide +kernel
theorem dX9_isWhence_5 : decode cX9_isWhence 5 = .ok (.iaload, 1) := by decide +kernel
theorem dX9_isWhence_6 : decode cX9_isWhence 6 = .ok (.aload_n 0, 1) := by decide +kernel
theorem dX9_isWhence_7 : decode cX9_isWhence 7 = .ok (.getfield 19, 3) := by decide +kernel
theorem dX9_isWhence_10 : decode cX9_isWhence 10 = .ok (.iload_n 1, 1) := by decide +kernel
theorem dX9_isWhence_11 : decode cX9_isWhence 11 = .ok (.iaload, 1) := by decide +kernel
theorem dX9_isWhence_12 : decode cX9_isWhence 12 = .ok (.if_icmp .ne 27, 3) := by decide +kernel
theorem dX9_isWhence_15 : decode cX9_isWhence 15 = .ok (.aload_n 0, 1) := by decide +kernel
theorem dX9_isWhence_16 : decode cX9_isWhence 16 = .ok (.iload_n 2, 1) := by decide +kernel
theorem dX9_isWhence_17 : decode cX9_isWhence 17 = .ok (.aload_n 0, 1) := by decide +kernel
theorem dX9_isWhence_18 : decode cX9_isWhence 18 = .ok (.getfield 22, 3) := by decide +kernel
theorem dX9_isWhence_21 : decode cX9_isWhence 21 = .ok (.iload_n 1, 1) := by decide +kernel
theorem dX9_isWhence_22 : decode cX9_isWhence 22 = .ok (.iaload, 1) := by decide +kernel
theorem dX9_isWhence_23 : decode cX9_isWhence 23 = .ok (.invokevirtual 183, 3) := by decide +kernel
theorem dX9_isWhence_26 : decode cX9_isWhence 26 = .ok (.aload_n 0, 1) := by decide +kernel
theorem dX9_isWhence_27 : decode cX9_isWhence 27 = .ok (.getfield 16, 3) := by decide +kernel
theorem dX9_isWhence_30 : decode cX9_isWhence 30 = .ok (.iload_n 1, 1) := by decide +kernel
theorem dX9_isWhence_31 : decode cX9_isWhence 31 = .ok (.iaload, 1) := by decide +kernel
theorem dX9_isWhence_32 : decode cX9_isWhence 32 = .ok (.if_icmp .ne 7, 3) := by decide +kernel
theorem dX9_isWhence_35 : decode cX9_isWhence 35 = .ok (.iconst 1, 1) := by decide +kernel
theorem dX9_isWhence_36 : decode cX9_isWhence 36 = .ok (.goto 4, 3) := by decide +kernel
theorem dX9_isWhence_39 : decode cX9_isWhence 39 = .ok (.iconst 0, 1) := by decide +kernel
theorem dX9_isWhence_40 : decode cX9_isWhence 40 = .ok (.ireturn, 1) := by decide +kernel
theorem dX9_whenceOf_0 : decode cX9_whenceOf 0 = .ok (.iconst 0, 1) := by decide +kernel
theorem dX9_whenceOf_1 : decode cX9_whenceOf 1 = .ok (.istore_n 2, 1) := by decide +kernel
theorem dX9_whenceOf_2 : decode cX9_whenceOf 2 = .ok (.iconst 0, 1) := by decide +kernel
theorem dX9_whenceOf_3 : decode cX9_whenceOf 3 = .ok (.istore_n 3, 1) := by decide +kernel
theorem dX9_whenceOf_4 : decode cX9_whenceOf 4 = .ok (.iload_n 3, 1) := by decide +kernel
theorem dX9_whenceOf_5 : decode cX9_whenceOf 5 = .ok (.aload_n 0, 1) := by decide +kernel
theorem dX9_whenceOf_6 : decode cX9_whenceOf 6 = .ok (.invokevirtual 103, 3) := by decide +kernel
theorem dX9_whenceOf_9 : decode cX9_whenceOf 9 = .ok (.if_icmp .ge 26, 3) := by decide +kernel
theorem dX9_whenceOf_12 : decode cX9_whenceOf 12 = .ok (.iload_n 2, 1) := by decide +kernel
theorem dX9_whenceOf_13 : decode cX9_whenceOf 13 = .ok (.aload_n 0, 1) := by decide +kernel
theorem dX9_whenceOf_14 : decode cX9_whenceOf 14 = .ok (.iload_n 1, 1) := by decide +kernel
theorem dX9_whenceOf_15 : decode cX9_whenceOf 15 = .ok (.iload_n 3, 1) := by decide +kernel
theorem dX9_whenceOf_16 : decode cX9_whenceOf 16 = .ok (.invokevirtual 186, 3) := by decide +kernel
theorem dX9_whenceOf_19 : decode cX9_whenceOf 19 = .ok (.ifCond .eq 7, 3) := by decide +kernel
theorem dX9_whenceOf_22 : decode cX9_whenceOf 22 = .ok (.iconst 1, 1) := by decide +kernel
theorem dX9_whenceOf_23 : decode cX9_whenceOf 23 = .ok (.goto 4, 3) := by decide +kernel
theorem dX9_whenceOf_26 : decode cX9_whenceOf 26 = .ok (.iconst 0, 1) := by decide +kernel
theorem dX9_whenceOf_27 : decode cX9_whenceOf 27 = .ok (.iadd, 1) := by decide +kernel
theorem dX9_whenceOf_28 : decode cX9_whenceOf 28 = .ok (.istore_n 2, 1) := by decide +kernel
theorem dX9_whenceOf_29 : decode cX9_whenceOf 29 = .ok (.iinc 3 1, 3) := by decide +kernel
theorem dX9_whenceOf_32 : decode cX9_whenceOf 32 = .ok (.goto (-28), 3) := by decide +kernel
theorem dX9_whenceOf_35 : decode cX9_whenceOf 35 = .ok (.iload_n 2, 1) := by decide +kernel
theorem dX9_whenceOf_36 : decode cX9_whenceOf 36 = .ok (.ireturn, 1) := by decide +kernel
theorem dX9_whence_0 : decode cX9_whence 0 = .ok (.iload_n 1, 1) := by decide +kernel
theorem dX9_whence_1 : decode cX9_whence 1 = .ok (.invokestatic 173, 3) := by decide +kernel
theorem dX9_whence_4 : decode cX9_whence 4 = .ok (.ifCond .eq 11, 3) := by decide +kernel
theorem dX9_whence_7 : decode cX9_whence 7 = .ok (.aload_n 0, 1) := by decide +kernel
theorem dX9_whence_8 : decode cX9_whence 8 = .ok (.iload_n 2, 1) := by decide +kernel
theorem dX9_whence_9 : decode cX9_whence 9 = .ok (.invokevirtual 131, 3) := by decide +kernel
theorem dX9_whence_12 : decode cX9_whence 12 = .ok (.ifCond .ne 6, 3) := by decide +kernel
theorem dX9_whence_15 : decode cX9_whence 15 = .ok (.ldc 122, 2) := by decide +kernel
theorem dX9_whence_17 : decode cX9_whence 17 = .ok (.ireturn, 1) := by decide +kernel
theorem dX9_whence_18 : decode cX9_whence 18 = .ok (.aload_n 0, 1) := by decide +kernel
theorem dX9_whence_19 : decode cX9_whence 19 = .ok (.iload_n 1, 1) := by decide +kernel
theorem dX9_whence_20 : decode cX9_whence 20 = .ok (.invokevirtual 180, 3) := by decide +kernel
theorem dX9_whence_23 : decode cX9_whence 23 = .ok (.aload_n 0, 1) := by decide +kernel
theorem dX9_whence_24 : decode cX9_whence 24 = .ok (.iload_n 2, 1) := by decide +kernel
theorem dX9_whence_25 : decode cX9_whence 25 = .ok (.invokevirtual 189, 3) := by decide +kernel
theorem dX9_whence_28 : decode cX9_whence 28 = .ok (.ireturn, 1) := by decide +kernel
theorem dX9_from_0 : decode cX9_from 0 = .ok (.iload_n 1, 1) := by decide +kernel
theorem dX9_from_1 : decode cX9_from 1 = .ok (.invokestatic 173, 3) := by decide +kernel
theorem dX9_from_4 : decode cX9_from 4 = .ok (.ifCond .eq 11, 3) := by decide +kernel
theorem dX9_from_7 : decode cX9_from 7 = .ok (.aload_n 0, 1) := by decide +kernel
theorem dX9_from_8 : decode cX9_from 8 = .ok (.iload_n 2, 1) := by decide +kernel
theorem dX9_from_9 : decode cX9_from 9 = .ok (.invokevirtual 131, 3) := by decide +kernel
theorem dX9_from_12 : decode cX9_from 12 = .ok (.ifCond .ne 6, 3) := by decide +kernel
theorem dX9_from_15 : decode cX9_from 15 = .ok (.ldc 122, 2) := by decide +kernel
theorem dX9_from_17 : decode cX9_from 17 = .ok (.ireturn, 1) := by decide +kernel
theorem dX9_from_18 : decode cX9_from 18 = .ok (.aload_n 0, 1) := by decide +kernel
theorem dX9_from_19 : decode cX9_from 19 = .ok (.iload_n 1, 1) := by decide +kernel
theorem dX9_from_20 : decode cX9_from 20 = .ok (.invokevirtual 180, 3) := by decide +kernel
theorem dX9_from_23 : decode cX9_from 23 = .ok (.iconst 0, 1) := by decide +kernel
theorem dX9_from_24 : decode cX9_from 24 = .ok (.istore 4, 2) := by decide +kernel
theorem dX9_from_26 : decode cX9_from 26 = .ok (.iconst 0, 1) := by decide +kernel
theorem dX9_from_27 : decode cX9_from 27 = .ok (.istore 5, 2) := by decide +kernel
theorem dX9_from_29 : decode cX9_from 29 = .ok (.iload 5, 2) := by decide +kernel
theorem dX9_from_31 : decode cX9_from 31 = .ok (.aload_n 0, 1) := by decide +kernel
theorem dX9_from_32 : decode cX9_from 32 = .ok (.invokevirtual 103, 3) := by decide +kernel
theorem dX9_from_35 : decode cX9_from 35 = .ok (.if_icmp .ge 31, 3) := by decide +kernel
theorem dX9_from_38 : decode cX9_from 38 = .ok (.aload_n 0, 1) := by decide +kernel
theorem dX9_from_39 : decode cX9_from 39 = .ok (.iload_n 2, 1) := by decide +kernel
theorem dX9_from_40 : decode cX9_from 40 = .ok (.iload 5, 2) := by decide +kernel
theorem dX9_from_42 : decode cX9_from 42 = .ok (.invokevirtual 186, 3) := by decide +kernel
theorem dX9_from_45 : decode cX9_from 45 = .ok (.ifCond .eq 15, 3) := by decide +kernel
theorem dX9_from_48 : decode cX9_from 48 = .ok (.iload 4, 2) := by decide +kernel
theorem dX9_from_50 : decode cX9_from 50 = .ok (.iload_n 3, 1) := by decide +kernel
theorem dX9_from_51 : decode cX9_from 51 = .ok (.if_icmp .ne 6, 3) := by decide +kernel
theorem dX9_from_54 : decode cX9_from 54 = .ok (.iload 5, 2) := by decide +kernel
theorem dX9_from_56 : decode cX9_from 56 = .ok (.ireturn, 1) := by decide +kernel
theorem dX9_from_57 : decode cX9_from 57 = .ok (.iinc 4 1, 3) := by decide +kernel
theorem dX9_from_60 : decode cX9_from 60 = .ok (.iinc 5 1, 3) := by decide +kernel
theorem dX9_from_63 : decode cX9_from 63 = .ok (.goto (-34), 3) := by decide +kernel
theorem dX9_from_66 : decode cX9_from 66 = .ok (.ldc 134, 2) := by decide +kernel
theorem dX9_from_68 : decode cX9_from 68 = .ok (.ireturn, 1) := by decide +kernel
theorem dX9_sign_0 : decode cX9_sign 0 = .ok (.iload_n 1, 1) := by decide +kernel
theorem dX9_sign_1 : decode cX9_sign 1 = .ok (.i2l, 1) := by decide +kernel
theorem dX9_sign_2 : decode cX9_sign 2 = .ok (.lconst 0, 1) := by decide +kernel
theorem dX9_sign_3 : decode cX9_sign 3 = .ok (.ldc2_w 125, 3) := by decide +kernel
theorem dX9_sign_6 : decode cX9_sign 6 = .ok (.invokestatic 107, 3) := by decide +kernel
theorem dX9_sign_9 : decode cX9_sign 9 = .ok (.ifCond .ne 6, 3) := by decide +kernel
theorem dX9_sign_12 : decode cX9_sign 12 = .ok (.ldc 117, 2) := by decide +kernel
theorem dX9_sign_14 : decode cX9_sign 14 = .ok (.ireturn, 1) := by decide +kernel
theorem dX9_sign_15 : decode cX9_sign 15 = .ok (.iload_n 1, 1) := by decide +kernel
theorem dX9_sign_16 : decode cX9_sign 16 = .ok (.iconst 4, 1) := by decide +kernel
theorem dX9_sign_17 : decode cX9_sign 17 = .ok (.if_icmp .ne 14, 3) := by decide +kernel
theorem dX9_sign_20 : decode cX9_sign 20 = .ok (.aload_n 0, 1) := by decide +kernel
theorem dX9_sign_21 : decode cX9_sign 21 = .ok (.iload_n 3, 1) := by decide +kernel
theorem dX9_sign_22 : decode cX9_sign 22 = .ok (.invokevirtual 131, 3) := by decide +kernel
theorem dX9_sign_25 : decode cX9_sign 25 = .ok (.ifCond .ne 17, 3) := by decide +kernel
theorem dX9_sign_28 : decode cX9_sign 28 = .ok (.goto 11, 3) := by decide +kernel
theorem dX9_sign_31 : decode cX9_sign 31 = .ok (.aload_n 0, 1) := by decide +kernel
theorem dX9_sign_32 : decode cX9_sign 32 = .ok (.iload_n 2, 1) := by decide +kernel
theorem dX9_sign_33 : decode cX9_sign 33 = .ok (.invokevirtual 118, 3) := by decide +kernel
theorem dX9_sign_36 : decode cX9_sign 36 = .ok (.ifCond .ne 6, 3) := by decide +kernel
theorem dX9_sign_39 : decode cX9_sign 39 = .ok (.ldc 122, 2) := by decide +kernel
theorem dX9_sign_41 : decode cX9_sign 41 = .ok (.ireturn, 1) := by decide +kernel
theorem dX9_sign_42 : decode cX9_sign 42 = .ok (.iload_n 1, 1) := by decide +kernel
theorem dX9_sign_43 : decode cX9_sign 43 = .ok (.iconst 4, 1) := by decide +kernel
theorem dX9_sign_44 : decode cX9_sign 44 = .ok (.if_icmp .eq 46, 3) := by decide +kernel
theorem dX9_sign_47 : decode cX9_sign 47 = .ok (.iload_n 1, 1) := by decide +kernel
theorem dX9_sign_48 : decode cX9_sign 48 = .ok (.ifCond .ne 18, 3) := by decide +kernel
theorem dX9_sign_51 : decode cX9_sign 51 = .ok (.iload_n 3, 1) := by decide +kernel
theorem dX9_sign_52 : decode cX9_sign 52 = .ok (.i2l, 1) := by decide +kernel
theorem dX9_sign_53 : decode cX9_sign 53 = .ok (.lconst 0, 1) := by decide +kernel
theorem dX9_sign_54 : decode cX9_sign 54 = .ok (.ldc2_w 193, 3) := by decide +kernel
theorem dX9_sign_57 : decode cX9_sign 57 = .ok (.invokestatic 107, 3) := by decide +kernel
theorem dX9_sign_60 : decode cX9_sign 60 = .ok (.ifCond .eq 34, 3) := by decide +kernel
theorem dX9_sign_63 : decode cX9_sign 63 = .ok (.goto 27, 3) := by decide +kernel
theorem dX9_sign_66 : decode cX9_sign 66 = .ok (.iload_n 1, 1) := by decide +kernel
theorem dX9_sign_67 : decode cX9_sign 67 = .ok (.iconst 5, 1) := by decide +kernel
theorem dX9_sign_68 : decode cX9_sign 68 = .ok (.if_icmp .ne 18, 3) := by decide +kernel
theorem dX9_sign_71 : decode cX9_sign 71 = .ok (.iload_n 3, 1) := by decide +kernel
theorem dX9_sign_72 : decode cX9_sign 72 = .ok (.i2l, 1) := by decide +kernel
theorem dX9_sign_73 : decode cX9_sign 73 = .ok (.lconst 0, 1) := by decide +kernel
theorem dX9_sign_74 : decode cX9_sign 74 = .ok (.ldc2_w 195, 3) := by decide +kernel
theorem dX9_sign_77 : decode cX9_sign 77 = .ok (.invokestatic 107, 3) := by decide +kernel
theorem dX9_sign_80 : decode cX9_sign 80 = .ok (.ifCond .eq 14, 3) := by decide +kernel
theorem dX9_sign_83 : decode cX9_sign 83 = .ok (.goto 7, 3) := by decide +kernel
theorem dX9_sign_86 : decode cX9_sign 86 = .ok (.iload_n 3, 1) := by decide +kernel
theorem dX9_sign_87 : decode cX9_sign 87 = .ok (.ifCond .ne 7, 3) := by decide +kernel
theorem dX9_sign_90 : decode cX9_sign 90 = .ok (.iconst 1, 1) := by decide +kernel
theorem dX9_sign_91 : decode cX9_sign 91 = .ok (.goto 4, 3) := by decide +kernel
theorem dX9_sign_94 : decode cX9_sign 94 = .ok (.iconst 0, 1) := by decide +kernel
theorem dX9_sign_95 : decode cX9_sign 95 = .ok (.istore 5, 2) := by decide +kernel
theorem dX9_sign_97 : decode cX9_sign 97 = .ok (.iload 5, 2) := by decide +kernel
theorem dX9_sign_99 : decode cX9_sign 99 = .ok (.ifCond .eq 16, 3) := by decide +kernel
theorem dX9_sign_102 : decode cX9_sign 102 = .ok (.iload 4, 2) := by decide +kernel
theorem dX9_sign_104 : decode cX9_sign 104 = .ok (.i2l, 1) := by decide +kernel
theorem dX9_sign_105 : decode cX9_sign 105 = .ok (.lconst 1, 1) := by decide +kernel
theorem dX9_sign_106 : decode cX9_sign 106 = .ok (.ldc2_w 123, 3) := by decide +kernel
theorem dX9_sign_109 : decode cX9_sign 109 = .ok (.invokestatic 107, 3) := by decide +kernel
theorem dX9_sign_112 : decode cX9_sign 112 = .ok (.ifCond .ne 6, 3) := by decide +kernel
theorem dX9_sign_115 : decode cX9_sign 115 = .ok (.ldc 117, 2) := by decide +kernel
theorem dX9_sign_117 : decode cX9_sign 117 = .ok (.ireturn, 1) := by decide +kernel
theorem dX9_sign_118 : decode cX9_sign 118 = .ok (.aload_n 0, 1) := by decide +kernel
theorem dX9_sign_119 : decode cX9_sign 119 = .ok (.getfield 100, 3) := by decide +kernel
theorem dX9_sign_122 : decode cX9_sign 122 = .ok (.bipush 12, 2) := by decide +kernel
theorem dX9_sign_124 : decode cX9_sign 124 = .ok (.if_icmp .ne 6, 3) := by decide +kernel
theorem dX9_sign_127 : decode cX9_sign 127 = .ok (.ldc 130, 2) := by decide +kernel
theorem dX9_sign_129 : decode cX9_sign 129 = .ok (.ireturn, 1) := by decide +kernel
theorem dX9_sign_130 : decode cX9_sign 130 = .ok (.aload_n 0, 1) := by decide +kernel
theorem dX9_sign_131 : decode cX9_sign 131 = .ok (.getfield 56, 3) := by decide +kernel
theorem dX9_sign_134 : decode cX9_sign 134 = .ok (.aload_n 0, 1) := by decide +kernel
theorem dX9_sign_135 : decode cX9_sign 135 = .ok (.getfield 100, 3) := by decide +kernel
theorem dX9_sign_138 : decode cX9_sign 138 = .ok (.iload_n 1, 1) := by decide +kernel
theorem dX9_sign_139 : decode cX9_sign 139 = .ok (.iastore, 1) := by decide +kernel
theorem dX9_sign_140 : decode cX9_sign 140 = .ok (.aload_n 0, 1) := by decide +kernel
theorem dX9_sign_141 : decode cX9_sign 141 = .ok (.getfield 59, 3) := by decide +kernel
theorem dX9_sign_144 : decode cX9_sign 144 = .ok (.aload_n 0, 1) := by decide +kernel
theorem dX9_sign_145 : decode cX9_sign 145 = .ok (.getfield 100, 3) := by decide +kernel
theorem dX9_sign_148 : decode cX9_sign 148 = .ok (.iload_n 2, 1) := by decide +kernel
theorem dX9_sign_149 : decode cX9_sign 149 = .ok (.iastore, 1) := by decide +kernel
theorem dX9_sign_150 : decode cX9_sign 150 = .ok (.aload_n 0, 1) := by decide +kernel
theorem dX9_sign_151 : decode cX9_sign 151 = .ok (.getfield 62, 3) := by decide +kernel
theorem dX9_sign_154 : decode cX9_sign 154 = .ok (.aload_n 0, 1) := by decide +kernel
theorem dX9_sign_155 : decode cX9_sign 155 = .ok (.getfield 100, 3) := by decide +kernel
theorem dX9_sign_158 : decode cX9_sign 158 = .ok (.iload_n 3, 1) := by decide +kernel
theorem dX9_sign_159 : decode cX9_sign 159 = .ok (.iastore, 1) := by decide +kernel
theorem dX9_sign_160 : decode cX9_sign 160 = .ok (.aload_n 0, 1) := by decide +kernel
theorem dX9_sign_161 : decode cX9_sign 161 = .ok (.getfield 65, 3) := by decide +kernel
theorem dX9_sign_164 : decode cX9_sign 164 = .ok (.aload_n 0, 1) := by decide +kernel
theorem dX9_sign_165 : decode cX9_sign 165 = .ok (.getfield 100, 3) := by decide +kernel
theorem dX9_sign_168 : decode cX9_sign 168 = .ok (.iload 4, 2) := by decide +kernel
theorem dX9_sign_170 : decode cX9_sign 170 = .ok (.iastore, 1) := by decide +kernel
theorem dX9_sign_171 : decode cX9_sign 171 = .ok (.aload_n 0, 1) := by decide +kernel
theorem dX9_sign_172 : decode cX9_sign 172 = .ok (.dup, 1) := by decide +kernel
theorem dX9_sign_173 : decode cX9_sign 173 = .ok (.getfield 100, 3) := by decide +kernel
theorem dX9_sign_176 : decode cX9_sign 176 = .ok (.iconst 1, 1) := by decide +kernel
theorem dX9_sign_177 : decode cX9_sign 177 = .ok (.iadd, 1) := by decide +kernel
theorem dX9_sign_178 : decode cX9_sign 178 = .ok (.putfield 100, 3) := by decide +kernel
theorem dX9_sign_181 : decode cX9_sign 181 = .ok (.aload_n 0, 1) := by decide +kernel
theorem dX9_sign_182 : decode cX9_sign 182 = .ok (.getfield 100, 3) := by decide +kernel
theorem dX9_sign_185 : decode cX9_sign 185 = .ok (.iconst 1, 1) := by decide +kernel
theorem dX9_sign_186 : decode cX9_sign 186 = .ok (.isub, 1) := by decide +kernel
theorem dX9_sign_187 : decode cX9_sign 187 = .ok (.ireturn, 1) := by decide +kernel
theorem dX9_isSign_0 : decode cX9_isSign 0 = .ok (.iload_n 1, 1) := by decide +kernel
theorem dX9_isSign_1 : decode cX9_isSign 1 = .ok (.i2l, 1) := by decide +kernel
theorem dX9_isSign_2 : decode cX9_isSign 2 = .ok (.lconst 0, 1) := by decide +kernel
theorem dX9_isSign_3 : decode cX9_isSign 3 = .ok (.aload_n 0, 1) := by decide +kernel
theorem dX9_isSign_4 : decode cX9_isSign 4 = .ok (.getfield 100, 3) := by decide +kernel
theorem dX9_isSign_7 : decode cX9_isSign 7 = .ok (.iconst 1, 1) := by decide +kernel
theorem dX9_isSign_8 : decode cX9_isSign 8 = .ok (.isub, 1) := by decide +kernel
theorem dX9_isSign_9 : decode cX9_isSign 9 = .ok (.i2l, 1) := by decide +kernel
theorem dX9_isSign_10 : decode cX9_isSign 10 = .ok (.invokestatic 107, 3) := by decide +kernel
theorem dX9_isSign_13 : decode cX9_isSign 13 = .ok (.ireturn, 1) := by decide +kernel
theorem dX9_forget_0 : decode cX9_forget 0 = .ok (.aload_n 0, 1) := by decide +kernel
theorem dX9_forget_1 : decode cX9_forget 1 = .ok (.iload_n 1, 1) := by decide +kernel
theorem dX9_forget_2 : decode cX9_forget 2 = .ok (.invokevirtual 197, 3) := by decide +kernel
theorem dX9_forget_5 : decode cX9_forget 5 = .ok (.ifCond .ne 6, 3) := by decide +kernel
theorem dX9_forget_8 : decode cX9_forget 8 = .ok (.ldc 122, 2) := by decide +kernel
theorem dX9_forget_10 : decode cX9_forget 10 = .ok (.ireturn, 1) := by decide +kernel
theorem dX9_forget_11 : decode cX9_forget 11 = .ok (.aload_n 0, 1) := by decide +kernel
theorem dX9_forget_12 : decode cX9_forget 12 = .ok (.getfield 65, 3) := by decide +kernel
theorem dX9_forget_15 : decode cX9_forget 15 = .ok (.iload_n 1, 1) := by decide +kernel
theorem dX9_forget_16 : decode cX9_forget 16 = .ok (.iaload, 1) := by decide +kernel
theorem dX9_forget_17 : decode cX9_forget 17 = .ok (.istore_n 2, 1) := by decide +kernel
theorem dX9_forget_18 : decode cX9_forget 18 = .ok (.aload_n 0, 1) := by decide +kernel
theorem dX9_forget_19 : decode cX9_forget 19 = .ok (.dup, 1) := by decide +kernel
theorem dX9_forget_20 : decode cX9_forget 20 = .ok (.getfield 100, 3) := by decide +kernel
theorem dX9_forget_23 : decode cX9_forget 23 = .ok (.iconst 1, 1) := by decide +kernel
theorem dX9_forget_24 : decode cX9_forget 24 = .ok (.isub, 1) := by decide +kernel
theorem dX9_forget_25 : decode cX9_forget 25 = .ok (.putfield 100, 3) := by decide +kernel
theorem dX9_forget_28 : decode cX9_forget 28 = .ok (.iload_n 1, 1) := by decide +kernel
theorem dX9_forget_29 : decode cX9_forget 29 = .ok (.istore_n 3, 1) := by decide +kernel
theorem dX9_forget_30 : decode cX9_forget 30 = .ok (.iload_n 3, 1) := by decide +kernel
theorem dX9_forget_31 : decode cX9_forget 31 = .ok (.aload_n 0, 1) := by decide +kernel
theorem dX9_forget_32 : decode cX9_forget 32 = .ok (.getfield 100, 3) := by decide +kernel
theorem dX9_forget_35 : decode cX9_forget 35 = .ok (.if_icmp .ge 65, 3) := by decide +kernel
theorem dX9_forget_38 : decode cX9_forget 38 = .ok (.aload_n 0, 1) := by decide +kernel
theorem dX9_forget_39 : decode cX9_forget 39 = .ok (.getfield 56, 3) := by decide +kernel
theorem dX9_forget_42 : decode cX9_forget 42 = .ok (.iload_n 3, 1) := by decide +kernel
theorem dX9_forget_43 : decode cX9_forget 43 = .ok (.aload_n 0, 1) := by decide +kernel
theorem dX9_forget_44 : decode cX9_forget 44 = .ok (.getfield 56, 3) := by decide +kernel
theorem dX9_forget_47 : decode cX9_forget 47 = .ok (.iload_n 3, 1) := by decide +kernel
theorem dX9_forget_48 : decode cX9_forget 48 = .ok (.iconst 1, 1) := by decide +kernel
theorem dX9_forget_49 : decode cX9_forget 49 = .ok (.iadd, 1) := by decide +kernel
theorem dX9_forget_50 : decode cX9_forget 50 = .ok (.iaload, 1) := by decide +kernel
theorem dX9_forget_51 : decode cX9_forget 51 = .ok (.iastore, 1) := by decide +kernel
theorem dX9_forget_52 : decode cX9_forget 52 = .ok (.aload_n 0, 1) := by decide +kernel
theorem dX9_forget_53 : decode cX9_forget 53 = .ok (.getfield 59, 3) := by decide +kernel
theorem dX9_forget_56 : decode cX9_forget 56 = .ok (.iload_n 3, 1) := by decide +kernel
theorem dX9_forget_57 : decode cX9_forget 57 = .ok (.aload_n 0, 1) := by decide +kernel
theorem dX9_forget_58 : decode cX9_forget 58 = .ok (.getfield 59, 3) := by decide +kernel
theorem dX9_forget_61 : decode cX9_forget 61 = .ok (.iload_n 3, 1) := by decide +kernel
theorem dX9_forget_62 : decode cX9_forget 62 = .ok (.iconst 1, 1) := by decide +kernel
theorem dX9_forget_63 : decode cX9_forget 63 = .ok (.iadd, 1) := by decide +kernel
theorem dX9_forget_64 : decode cX9_forget 64 = .ok (.iaload, 1) := by decide +kernel
theorem dX9_forget_65 : decode cX9_forget 65 = .ok (.iastore, 1) := by decide +kernel
theorem dX9_forget_66 : decode cX9_forget 66 = .ok (.aload_n 0, 1) := by decide +kernel
theorem dX9_forget_67 : decode cX9_forget 67 = .ok (.getfield 62, 3) := by decide +kernel
theorem dX9_forget_70 : decode cX9_forget 70 = .ok (.iload_n 3, 1) := by decide +kernel
theorem dX9_forget_71 : decode cX9_forget 71 = .ok (.aload_n 0, 1) := by decide +kernel
theorem dX9_forget_72 : decode cX9_forget 72 = .ok (.getfield 62, 3) := by decide +kernel
theorem dX9_forget_75 : decode cX9_forget 75 = .ok (.iload_n 3, 1) := by decide +kernel
theorem dX9_forget_76 : decode cX9_forget 76 = .ok (.iconst 1, 1) := by decide +kernel
theorem dX9_forget_77 : decode cX9_forget 77 = .ok (.iadd, 1) := by decide +kernel
theorem dX9_forget_78 : decode cX9_forget 78 = .ok (.iaload, 1) := by decide +kernel
theorem dX9_forget_79 : decode cX9_forget 79 = .ok (.iastore, 1) := by decide +kernel
theorem dX9_forget_80 : decode cX9_forget 80 = .ok (.aload_n 0, 1) := by decide +kernel
theorem dX9_forget_81 : decode cX9_forget 81 = .ok (.getfield 65, 3) := by decide +kernel
theorem dX9_forget_84 : decode cX9_forget 84 = .ok (.iload_n 3, 1) := by decide +kernel
theorem dX9_forget_85 : decode cX9_forget 85 = .ok (.aload_n 0, 1) := by decide +kernel
theorem dX9_forget_86 : decode cX9_forget 86 = .ok (.getfield 65, 3) := by decide +kernel
theorem dX9_forget_89 : decode cX9_forget 89 = .ok (.iload_n 3, 1) := by decide +kernel
theorem dX9_forget_90 : decode cX9_forget 90 = .ok (.iconst 1, 1) := by decide +kernel
theorem dX9_forget_91 : decode cX9_forget 91 = .ok (.iadd, 1) := by decide +kernel
theorem dX9_forget_92 : decode cX9_forget 92 = .ok (.iaload, 1) := by decide +kernel
theorem dX9_forget_93 : decode cX9_forget 93 = .ok (.iastore, 1) := by decide +kernel
theorem dX9_forget_94 : decode cX9_forget 94 = .ok (.iinc 3 1, 3) := by decide +kernel
theorem dX9_forget_97 : decode cX9_forget 97 = .ok (.goto (-67), 3) := by decide +kernel
theorem dX9_forget_100 : decode cX9_forget 100 = .ok (.iload_n 2, 1) := by decide +kernel
theorem dX9_forget_101 : decode cX9_forget 101 = .ok (.ireturn, 1) := by decide +kernel
theorem dX9_flowsIn_0 : decode cX9_flowsIn 0 = .ok (.aload_n 0, 1) := by decide +kernel
theorem dX9_flowsIn_1 : decode cX9_flowsIn 1 = .ok (.getfield 25, 3) := by decide +kernel
theorem dX9_flowsIn_4 : decode cX9_flowsIn 4 = .ok (.iload_n 1, 1) := by decide +kernel
theorem dX9_flowsIn_5 : decode cX9_flowsIn 5 = .ok (.baload, 1) := by decide +kernel
theorem dX9_flowsIn_6 : decode cX9_flowsIn 6 = .ok (.ifCond .eq 22, 3) := by decide +kernel
theorem dX9_flowsIn_9 : decode cX9_flowsIn 9 = .ok (.aload_n 0, 1) := by decide +kernel
theorem dX9_flowsIn_10 : decode cX9_flowsIn 10 = .ok (.getfield 44, 3) := by decide +kernel
theorem dX9_flowsIn_13 : decode cX9_flowsIn 13 = .ok (.bipush 36, 2) := by decide +kernel
theorem dX9_flowsIn_15 : decode cX9_flowsIn 15 = .ok (.iload_n 1, 1) := by decide +kernel
theorem dX9_flowsIn_16 : decode cX9_flowsIn 16 = .ok (.imul, 1) := by decide +kernel
theorem dX9_flowsIn_17 : decode cX9_flowsIn 17 = .ok (.iload_n 2, 1) := by decide +kernel
theorem dX9_flowsIn_18 : decode cX9_flowsIn 18 = .ok (.iadd, 1) := by decide +kernel
theorem dX9_flowsIn_19 : decode cX9_flowsIn 19 = .ok (.iaload, 1) := by decide +kernel
theorem dX9_flowsIn_20 : decode cX9_flowsIn 20 = .ok (.iload_n 3, 1) := by decide +kernel
theorem dX9_flowsIn_21 : decode cX9_flowsIn 21 = .ok (.if_icmp .ne 7, 3) := by decide +kernel
theorem dX9_flowsIn_24 : decode cX9_flowsIn 24 = .ok (.iconst 1, 1) := by decide +kernel
theorem dX9_flowsIn_25 : decode cX9_flowsIn 25 = .ok (.goto 4, 3) := by decide +kernel
theorem dX9_flowsIn_28 : decode cX9_flowsIn 28 = .ok (.iconst 0, 1) := by decide +kernel
theorem dX9_flowsIn_29 : decode cX9_flowsIn 29 = .ok (.ireturn, 1) := by decide +kernel
theorem dX9_hasThing_0 : decode cX9_hasThing 0 = .ok (.iconst 0, 1) := by decide +kernel
theorem dX9_hasThing_1 : decode cX9_hasThing 1 = .ok (.istore_n 3, 1) := by decide +kernel
theorem dX9_hasThing_2 : decode cX9_hasThing 2 = .ok (.iconst 0, 1) := by decide +kernel
theorem dX9_hasThing_3 : decode cX9_hasThing 3 = .ok (.istore 4, 2) := by decide +kernel
theorem dX9_hasThing_5 : decode cX9_hasThing 5 = .ok (.iconst 0, 1) := by decide +kernel
theorem dX9_hasThing_6 : decode cX9_hasThing 6 = .ok (.istore 5, 2) := by decide +kernel
theorem dX9_hasThing_8 : decode cX9_hasThing 8 = .ok (.iload 5, 2) := by decide +kernel
theorem dX9_hasThing_10 : decode cX9_hasThing 10 = .ok (.aload_n 0, 1) := by decide +kernel
theorem dX9_hasThing_11 : decode cX9_hasThing 11 = .ok (.getfield 177, 3) := by decide +kernel
theorem dX9_hasThing_14 : decode cX9_hasThing 14 = .ok (.if_icmp .ge 122, 3) := by decide +kernel
theorem dX9_hasThing_17 : decode cX9_hasThing 17 = .ok (.aload_n 0, 1) := by decide +kernel
theorem dX9_hasThing_18 : decode cX9_hasThing 18 = .ok (.getfield 53, 3) := by decide +kernel
theorem dX9_hasThing_21 : decode cX9_hasThing 21 = .ok (.iload 5, 2) := by decide +kernel
theorem dX9_hasThing_23 : decode cX9_hasThing 23 = .ok (.iaload, 1) := by decide +kernel
theorem dX9_hasThing_24 : decode cX9_hasThing 24 = .ok (.istore 6, 2) := by decide +kernel
theorem dX9_hasThing_26 : decode cX9_hasThing 26 = .ok (.iload 4, 2) := by decide +kernel
theorem dX9_hasThing_28 : decode cX9_hasThing 28 = .ok (.ifCond .ne 23, 3) := by decide +kernel
theorem dX9_hasThing_31 : decode cX9_hasThing 31 = .ok (.aload_n 0, 1) := by decide +kernel
theorem dX9_hasThing_32 : decode cX9_hasThing 32 = .ok (.getfield 25, 3) := by decide +kernel
theorem dX9_hasThing_35 : decode cX9_hasThing 35 = .ok (.iload 6, 2) := by decide +kernel
theorem dX9_hasThing_37 : decode cX9_hasThing 37 = .ok (.baload, 1) := by decide +kernel
theorem dX9_hasThing_38 : decode cX9_hasThing 38 = .ok (.ifCond .eq 17, 3) := by decide +kernel
theorem dX9_hasThing_41 : decode cX9_hasThing 41 = .ok (.aload_n 0, 1) := by decide +kernel
theorem dX9_hasThing_42 : decode cX9_hasThing 42 = .ok (.iload 6, 2) := by decide +kernel
theorem dX9_hasThing_44 : decode cX9_hasThing 44 = .ok (.iload_n 1, 1) := by decide +kernel
theorem dX9_hasThing_45 : decode cX9_hasThing 45 = .ok (.invokevirtual 153, 3) := by decide +kernel
theorem dX9_hasThing_48 : decode cX9_hasThing 48 = .ok (.ifCond .eq 7, 3) := by decide +kernel
theorem dX9_hasThing_51 : decode cX9_hasThing 51 = .ok (.iconst 1, 1) := by decide +kernel
theorem dX9_hasThing_52 : decode cX9_hasThing 52 = .ok (.goto 4, 3) := by decide +kernel
theorem dX9_hasThing_55 : decode cX9_hasThing 55 = .ok (.iconst 0, 1) := by decide +kernel
theorem dX9_hasThing_56 : decode cX9_hasThing 56 = .ok (.istore 4, 2) := by decide +kernel
theorem dX9_hasThing_58 : decode cX9_hasThing 58 = .ok (.iload_n 3, 1) := by decide +kernel
theorem dX9_hasThing_59 : decode cX9_hasThing 59 = .ok (.ifCond .ne 65, 3) := by decide +kernel
theorem dX9_hasThing_62 : decode cX9_hasThing 62 = .ok (.iload_n 2, 1) := by decide +kernel
theorem dX9_hasThing_63 : decode cX9_hasThing 63 = .ok (.iconst 4, 1) := by decide +kernel
theorem dX9_hasThing_64 : decode cX9_hasThing 64 = .ok (.if_icmp .ge 17, 3) := by decide +kernel
theorem dX9_hasThing_67 : decode cX9_hasThing 67 = .ok (.aload_n 0, 1) := by decide +kernel
theorem dX9_hasThing_68 : decode cX9_hasThing 68 = .ok (.iload 6, 2) := by decide +kernel
theorem dX9_hasThing_70 : decode cX9_hasThing 70 = .ok (.iload_n 1, 1) := by decide +kernel
theorem dX9_hasThing_71 : decode cX9_hasThing 71 = .ok (.iload_n 2, 1) := by decide +kernel
theorem dX9_hasThing_72 : decode cX9_hasThing 72 = .ok (.invokevirtual 200, 3) := by decide +kernel
theorem dX9_hasThing_75 : decode cX9_hasThing 75 = .ok (.ifCond .eq 53, 3) := by decide +kernel
theorem dX9_hasThing_78 : decode cX9_hasThing 78 = .ok (.goto 46, 3) := by decide +kernel
theorem dX9_hasThing_81 : decode cX9_hasThing 81 = .ok (.iload_n 2, 1) := by decide +kernel
theorem dX9_hasThing_82 : decode cX9_hasThing 82 = .ok (.iconst 4, 1) := by decide +kernel
theorem dX9_hasThing_83 : decode cX9_hasThing 83 = .ok (.if_icmp .ne 16, 3) := by decide +kernel
theorem dX9_hasThing_86 : decode cX9_hasThing 86 = .ok (.aload_n 0, 1) := by decide +kernel
theorem dX9_hasThing_87 : decode cX9_hasThing 87 = .ok (.iload 6, 2) := by decide +kernel
theorem dX9_hasThing_89 : decode cX9_hasThing 89 = .ok (.iload_n 1, 1) := by decide +kernel
theorem dX9_hasThing_90 : decode cX9_hasThing 90 = .ok (.invokevirtual 166, 3) := by decide +kernel
theorem dX9_hasThing_93 : decode cX9_hasThing 93 = .ok (.ifCond .eq 35, 3) := by decide +kernel
theorem dX9_hasThing_96 : decode cX9_hasThing 96 = .ok (.goto 28, 3) := by decide +kernel
theorem dX9_hasThing_99 : decode cX9_hasThing 99 = .ok (.iload_n 2, 1) := by decide +kernel
theorem dX9_hasThing_100 : decode cX9_hasThing 100 = .ok (.iconst 5, 1) := by decide +kernel
theorem dX9_hasThing_101 : decode cX9_hasThing 101 = .ok (.if_icmp .ne 27, 3) := by decide +kernel
theorem dX9_hasThing_104 : decode cX9_hasThing 104 = .ok (.aload_n 0, 1) := by decide +kernel
theorem dX9_hasThing_105 : decode cX9_hasThing 105 = .ok (.getfield 25, 3) := by decide +kernel
theorem dX9_hasThing_108 : decode cX9_hasThing 108 = .ok (.iload 6, 2) := by decide +kernel
theorem dX9_hasThing_110 : decode cX9_hasThing 110 = .ok (.baload, 1) := by decide +kernel
theorem dX9_hasThing_111 : decode cX9_hasThing 111 = .ok (.ifCond .ne 17, 3) := by decide +kernel
theorem dX9_hasThing_114 : decode cX9_hasThing 114 = .ok (.aload_n 0, 1) := by decide +kernel
theorem dX9_hasThing_115 : decode cX9_hasThing 115 = .ok (.iload 6, 2) := by decide +kernel
theorem dX9_hasThing_117 : decode cX9_hasThing 117 = .ok (.iload_n 1, 1) := by decide +kernel
theorem dX9_hasThing_118 : decode cX9_hasThing 118 = .ok (.invokevirtual 153, 3) := by decide +kernel
theorem dX9_hasThing_121 : decode cX9_hasThing 121 = .ok (.ifCond .eq 7, 3) := by decide +kernel
theorem dX9_hasThing_124 : decode cX9_hasThing 124 = .ok (.iconst 1, 1) := by decide +kernel
theorem dX9_hasThing_125 : decode cX9_hasThing 125 = .ok (.goto 4, 3) := by decide +kernel
theorem dX9_hasThing_128 : decode cX9_hasThing 128 = .ok (.iconst 0, 1) := by decide +kernel
theorem dX9_hasThing_129 : decode cX9_hasThing 129 = .ok (.istore_n 3, 1) := by decide +kernel
theorem dX9_hasThing_130 : decode cX9_hasThing 130 = .ok (.iinc 5 1, 3) := by decide +kernel
theorem dX9_hasThing_133 : decode cX9_hasThing 133 = .ok (.goto (-125), 3) := by decide +kernel
theorem dX9_hasThing_136 : decode cX9_hasThing 136 = .ok (.iload_n 2, 1) := by decide +kernel
theorem dX9_hasThing_137 : decode cX9_hasThing 137 = .ok (.bipush 6, 2) := by decide +kernel
theorem dX9_hasThing_139 : decode cX9_hasThing 139 = .ok (.if_icmp .ne 16, 3) := by decide +kernel
theorem dX9_hasThing_142 : decode cX9_hasThing 142 = .ok (.iload 4, 2) := by decide +kernel
theorem dX9_hasThing_144 : decode cX9_hasThing 144 = .ok (.ifCond .ne 7, 3) := by decide +kernel
theorem dX9_hasThing_147 : decode cX9_hasThing 147 = .ok (.iconst 1, 1) := by decide +kernel
theorem dX9_hasThing_148 : decode cX9_hasThing 148 = .ok (.goto 8, 3) := by decide +kernel
theorem dX9_hasThing_151 : decode cX9_hasThing 151 = .ok (.iconst 0, 1) := by decide +kernel
theorem dX9_hasThing_152 : decode cX9_hasThing 152 = .ok (.goto 4, 3) := by decide +kernel
theorem dX9_hasThing_155 : decode cX9_hasThing 155 = .ok (.iload_n 3, 1) := by decide +kernel
theorem dX9_hasThing_156 : decode cX9_hasThing 156 = .ok (.ireturn, 1) := by decide +kernel
theorem dX9_hasCross_0 : decode cX9_hasCross 0 = .ok (.iconst 0, 1) := by decide +kernel
theorem dX9_hasCross_1 : decode cX9_hasCross 1 = .ok (.istore_n 3, 1) := by decide +kernel
theorem dX9_hasCross_2 : decode cX9_hasCross 2 = .ok (.iconst 0, 1) := by decide +kernel
theorem dX9_hasCross_3 : decode cX9_hasCross 3 = .ok (.istore 4, 2) := by decide +kernel
theorem dX9_hasCross_5 : decode cX9_hasCross 5 = .ok (.iconst 0, 1) := by decide +kernel
theorem dX9_hasCross_6 : decode cX9_hasCross 6 = .ok (.istore 5, 2) := by decide +kernel
theorem dX9_hasCross_8 : decode cX9_hasCross 8 = .ok (.iload 5, 2) := by decide +kernel
theorem dX9_hasCross_10 : decode cX9_hasCross 10 = .ok (.aload_n 0, 1) := by decide +kernel
theorem dX9_hasCross_11 : decode cX9_hasCross 11 = .ok (.getfield 177, 3) := by decide +kernel
theorem dX9_hasCross_14 : decode cX9_hasCross 14 = .ok (.if_icmp .ge 72, 3) := by decide +kernel
theorem dX9_hasCross_17 : decode cX9_hasCross 17 = .ok (.iload_n 3, 1) := by decide +kernel
theorem dX9_hasCross_18 : decode cX9_hasCross 18 = .ok (.ifCond .ne 26, 3) := by decide +kernel
theorem dX9_hasCross_21 : decode cX9_hasCross 21 = .ok (.iload 4, 2) := by decide +kernel
theorem dX9_hasCross_23 : decode cX9_hasCross 23 = .ok (.ifCond .eq 25, 3) := by decide +kernel
theorem dX9_hasCross_26 : decode cX9_hasCross 26 = .ok (.aload_n 0, 1) := by decide +kernel
theorem dX9_hasCross_27 : decode cX9_hasCross 27 = .ok (.aload_n 0, 1) := by decide +kernel
theorem dX9_hasCross_28 : decode cX9_hasCross 28 = .ok (.getfield 53, 3) := by decide +kernel
theorem dX9_hasCross_31 : decode cX9_hasCross 31 = .ok (.iload 5, 2) := by decide +kernel
theorem dX9_hasCross_33 : decode cX9_hasCross 33 = .ok (.iaload, 1) := by decide +kernel
theorem dX9_hasCross_34 : decode cX9_hasCross 34 = .ok (.iload_n 1, 1) := by decide +kernel
theorem dX9_hasCross_35 : decode cX9_hasCross 35 = .ok (.iload_n 2, 1) := by decide +kernel
theorem dX9_hasCross_36 : decode cX9_hasCross 36 = .ok (.iconst 4, 1) := by decide +kernel
theorem dX9_hasCross_37 : decode cX9_hasCross 37 = .ok (.idiv, 1) := by decide +kernel
theorem dX9_hasCross_38 : decode cX9_hasCross 38 = .ok (.invokevirtual 200, 3) := by decide +kernel
theorem dX9_hasCross_41 : decode cX9_hasCross 41 = .ok (.ifCond .eq 7, 3) := by decide +kernel
theorem dX9_hasCross_44 : decode cX9_hasCross 44 = .ok (.iconst 1, 1) := by decide +kernel
theorem dX9_hasCross_45 : decode cX9_hasCross 45 = .ok (.goto 4, 3) := by decide +kernel
theorem dX9_hasCross_48 : decode cX9_hasCross 48 = .ok (.iconst 0, 1) := by decide +kernel
theorem dX9_hasCross_49 : decode cX9_hasCross 49 = .ok (.istore_n 3, 1) := by decide +kernel
theorem dX9_hasCross_50 : decode cX9_hasCross 50 = .ok (.iload 4, 2) := by decide +kernel
theorem dX9_hasCross_52 : decode cX9_hasCross 52 = .ok (.ifCond .ne 21, 3) := by decide +kernel
theorem dX9_hasCross_55 : decode cX9_hasCross 55 = .ok (.aload_n 0, 1) := by decide +kernel
theorem dX9_hasCross_56 : decode cX9_hasCross 56 = .ok (.aload_n 0, 1) := by decide +kernel
theorem dX9_hasCross_57 : decode cX9_hasCross 57 = .ok (.getfield 53, 3) := by decide +kernel
theorem dX9_hasCross_60 : decode cX9_hasCross 60 = .ok (.iload 5, 2) := by decide +kernel
theorem dX9_hasCross_62 : decode cX9_hasCross 62 = .ok (.iaload, 1) := by decide +kernel
theorem dX9_hasCross_63 : decode cX9_hasCross 63 = .ok (.iload_n 1, 1) := by decide +kernel
theorem dX9_hasCross_64 : decode cX9_hasCross 64 = .ok (.iload_n 2, 1) := by decide +kernel
theorem dX9_hasCross_65 : decode cX9_hasCross 65 = .ok (.iconst 4, 1) := by decide +kernel
theorem dX9_hasCross_66 : decode cX9_hasCross 66 = .ok (.irem, 1) := by decide +kernel
theorem dX9_hasCross_67 : decode cX9_hasCross 67 = .ok (.invokevirtual 200, 3) := by decide +kernel
theorem dX9_hasCross_70 : decode cX9_hasCross 70 = .ok (.ifCond .eq 7, 3) := by decide +kernel
theorem dX9_hasCross_73 : decode cX9_hasCross 73 = .ok (.iconst 1, 1) := by decide +kernel
theorem dX9_hasCross_74 : decode cX9_hasCross 74 = .ok (.goto 4, 3) := by decide +kernel
theorem dX9_hasCross_77 : decode cX9_hasCross 77 = .ok (.iconst 0, 1) := by decide +kernel
theorem dX9_hasCross_78 : decode cX9_hasCross 78 = .ok (.istore 4, 2) := by decide +kernel
theorem dX9_hasCross_80 : decode cX9_hasCross 80 = .ok (.iinc 5 1, 3) := by decide +kernel
theorem dX9_hasCross_83 : decode cX9_hasCross 83 = .ok (.goto (-75), 3) := by decide +kernel
theorem dX9_hasCross_86 : decode cX9_hasCross 86 = .ok (.iload_n 3, 1) := by decide +kernel
theorem dX9_hasCross_87 : decode cX9_hasCross 87 = .ok (.ireturn, 1) := by decide +kernel
theorem dX9_isExplained_0 : decode cX9_isExplained 0 = .ok (.aload_n 0, 1) := by decide +kernel
theorem dX9_isExplained_1 : decode cX9_isExplained 1 = .ok (.getfield 56, 3) := by decide +kernel
theorem dX9_isExplained_4 : decode cX9_isExplained 4 = .ok (.iload_n 1, 1) := by decide +kernel
theorem dX9_isExplained_5 : decode cX9_isExplained 5 = .ok (.iaload, 1) := by decide +kernel
theorem dX9_isExplained_6 : decode cX9_isExplained 6 = .ok (.tableswitch 107 0 4 #[34, 51, 63, 75, 88], 34) := by decide +kernel
theorem dX9_isExplained_40 : decode cX9_isExplained 40 = .ok (.aload_n 0, 1) := by decide +kernel
theorem dX9_isExplained_41 : decode cX9_isExplained 41 = .ok (.aload_n 0, 1) := by decide +kernel
theorem dX9_isExplained_42 : decode cX9_isExplained 42 = .ok (.getfield 59, 3) := by decide +kernel
theorem dX9_isExplained_45 : decode cX9_isExplained 45 = .ok (.iload_n 1, 1) := by decide +kernel
theorem dX9_isExplained_46 : decode cX9_isExplained 46 = .ok (.iaload, 1) := by decide +kernel
theorem dX9_isExplained_47 : decode cX9_isExplained 47 = .ok (.aload_n 0, 1) := by decide +kernel
theorem dX9_isExplained_48 : decode cX9_isExplained 48 = .ok (.getfield 62, 3) := by decide +kernel
theorem dX9_isExplained_51 : decode cX9_isExplained 51 = .ok (.iload_n 1, 1) := by decide +kernel
theorem dX9_isExplained_52 : decode cX9_isExplained 52 = .ok (.iaload, 1) := by decide +kernel
theorem dX9_isExplained_53 : decode cX9_isExplained 53 = .ok (.invokevirtual 204, 3) := by decide +kernel
theorem dX9_isExplained_56 : decode cX9_isExplained 56 = .ok (.ireturn, 1) := by decide +kernel
theorem dX9_isExplained_57 : decode cX9_isExplained 57 = .ok (.aload_n 0, 1) := by decide +kernel
theorem dX9_isExplained_58 : decode cX9_isExplained 58 = .ok (.aload_n 0, 1) := by decide +kernel
theorem dX9_isExplained_59 : decode cX9_isExplained 59 = .ok (.getfield 59, 3) := by decide +kernel
theorem dX9_isExplained_62 : decode cX9_isExplained 62 = .ok (.iload_n 1, 1) := by decide +kernel
theorem dX9_isExplained_63 : decode cX9_isExplained 63 = .ok (.iaload, 1) := by decide +kernel
theorem dX9_isExplained_64 : decode cX9_isExplained 64 = .ok (.iconst 4, 1) := by decide +kernel
theorem dX9_isExplained_65 : decode cX9_isExplained 65 = .ok (.invokevirtual 204, 3) := by decide +kernel
theorem dX9_isExplained_68 : decode cX9_isExplained 68 = .ok (.ireturn, 1) := by decide +kernel
theorem dX9_isExplained_69 : decode cX9_isExplained 69 = .ok (.aload_n 0, 1) := by decide +kernel
theorem dX9_isExplained_70 : decode cX9_isExplained 70 = .ok (.aload_n 0, 1) := by decide +kernel
theorem dX9_isExplained_71 : decode cX9_isExplained 71 = .ok (.getfield 59, 3) := by decide +kernel
theorem dX9_isExplained_74 : decode cX9_isExplained 74 = .ok (.iload_n 1, 1) := by decide +kernel
theorem dX9_isExplained_75 : decode cX9_isExplained 75 = .ok (.iaload, 1) := by decide +kernel
theorem dX9_isExplained_76 : decode cX9_isExplained 76 = .ok (.iconst 5, 1) := by decide +kernel
theorem dX9_isExplained_77 : decode cX9_isExplained 77 = .ok (.invokevirtual 204, 3) := by decide +kernel
theorem dX9_isExplained_80 : decode cX9_isExplained 80 = .ok (.ireturn, 1) := by decide +kernel
theorem dX9_isExplained_81 : decode cX9_isExplained 81 = .ok (.aload_n 0, 1) := by decide +kernel
theorem dX9_isExplained_82 : decode cX9_isExplained 82 = .ok (.aload_n 0, 1) := by decide +kernel
theorem dX9_isExplained_83 : decode cX9_isExplained 83 = .ok (.getfield 59, 3) := by decide +kernel
theorem dX9_isExplained_86 : decode cX9_isExplained 86 = .ok (.iload_n 1, 1) := by decide +kernel
theorem dX9_isExplained_87 : decode cX9_isExplained 87 = .ok (.iaload, 1) := by decide +kernel
theorem dX9_isExplained_88 : decode cX9_isExplained 88 = .ok (.bipush 6, 2) := by decide +kernel
theorem dX9_isExplained_90 : decode cX9_isExplained 90 = .ok (.invokevirtual 204, 3) := by decide +kernel
theorem dX9_isExplained_93 : decode cX9_isExplained 93 = .ok (.ireturn, 1) := by decide +kernel
theorem dX9_isExplained_94 : decode cX9_isExplained 94 = .ok (.aload_n 0, 1) := by decide +kernel
theorem dX9_isExplained_95 : decode cX9_isExplained 95 = .ok (.aload_n 0, 1) := by decide +kernel
theorem dX9_isExplained_96 : decode cX9_isExplained 96 = .ok (.getfield 62, 3) := by decide +kernel
theorem dX9_isExplained_99 : decode cX9_isExplained 99 = .ok (.iload_n 1, 1) := by decide +kernel
theorem dX9_isExplained_100 : decode cX9_isExplained 100 = .ok (.iaload, 1) := by decide +kernel
theorem dX9_isExplained_101 : decode cX9_isExplained 101 = .ok (.invokevirtual 189, 3) := by decide +kernel
theorem dX9_isExplained_104 : decode cX9_isExplained 104 = .ok (.ifCond .le 7, 3) := by decide +kernel
theorem dX9_isExplained_107 : decode cX9_isExplained 107 = .ok (.iconst 1, 1) := by decide +kernel
theorem dX9_isExplained_108 : decode cX9_isExplained 108 = .ok (.goto 4, 3) := by decide +kernel
theorem dX9_isExplained_111 : decode cX9_isExplained 111 = .ok (.iconst 0, 1) := by decide +kernel
theorem dX9_isExplained_112 : decode cX9_isExplained 112 = .ok (.ireturn, 1) := by decide +kernel
theorem dX9_isExplained_113 : decode cX9_isExplained 113 = .ok (.aload_n 0, 1) := by decide +kernel
theorem dX9_isExplained_114 : decode cX9_isExplained 114 = .ok (.aload_n 0, 1) := by decide +kernel
theorem dX9_isExplained_115 : decode cX9_isExplained 115 = .ok (.getfield 59, 3) := by decide +kernel
theorem dX9_isExplained_118 : decode cX9_isExplained 118 = .ok (.iload_n 1, 1) := by decide +kernel
theorem dX9_isExplained_119 : decode cX9_isExplained 119 = .ok (.iaload, 1) := by decide +kernel
theorem dX9_isExplained_120 : decode cX9_isExplained 120 = .ok (.aload_n 0, 1) := by decide +kernel
theorem dX9_isExplained_121 : decode cX9_isExplained 121 = .ok (.getfield 62, 3) := by decide +kernel
theorem dX9_isExplained_124 : decode cX9_isExplained 124 = .ok (.iload_n 1, 1) := by decide +kernel
theorem dX9_isExplained_125 : decode cX9_isExplained 125 = .ok (.iaload, 1) := by decide +kernel
theorem dX9_isExplained_126 : decode cX9_isExplained 126 = .ok (.invokevirtual 207, 3) := by decide +kernel
theorem dX9_isExplained_129 : decode cX9_isExplained 129 = .ok (.ireturn, 1) := by decide +kernel
theorem dX9_explains_0 : decode cX9_explains 0 = .ok (.iload_n 1, 1) := by decide +kernel
theorem dX9_explains_1 : decode cX9_explains 1 = .ok (.invokestatic 173, 3) := by decide +kernel
theorem dX9_explains_4 : decode cX9_explains 4 = .ok (.ifCond .eq 11, 3) := by decide +kernel
theorem dX9_explains_7 : decode cX9_explains 7 = .ok (.aload_n 0, 1) := by decide +kernel
theorem dX9_explains_8 : decode cX9_explains 8 = .ok (.iload_n 2, 1) := by decide +kernel
theorem dX9_explains_9 : decode cX9_explains 9 = .ok (.invokevirtual 197, 3) := by decide +kernel
theorem dX9_explains_12 : decode cX9_explains 12 = .ok (.ifCond .ne 6, 3) := by decide +kernel
theorem dX9_explains_15 : decode cX9_explains 15 = .ok (.ldc 122, 2) := by decide +kernel
theorem dX9_explains_17 : decode cX9_explains 17 = .ok (.ireturn, 1) := by decide +kernel
theorem dX9_explains_18 : decode cX9_explains 18 = .ok (.aload_n 0, 1) := by decide +kernel
theorem dX9_explains_19 : decode cX9_explains 19 = .ok (.iload_n 1, 1) := by decide +kernel
theorem dX9_explains_20 : decode cX9_explains 20 = .ok (.invokevirtual 180, 3) := by decide +kernel
theorem dX9_explains_23 : decode cX9_explains 23 = .ok (.aload_n 0, 1) := by decide +kernel
theorem dX9_explains_24 : decode cX9_explains 24 = .ok (.iload_n 2, 1) := by decide +kernel
theorem dX9_explains_25 : decode cX9_explains 25 = .ok (.invokevirtual 210, 3) := by decide +kernel
theorem dX9_explains_28 : decode cX9_explains 28 = .ok (.ifCond .eq 7, 3) := by decide +kernel
theorem dX9_explains_31 : decode cX9_explains 31 = .ok (.iconst 1, 1) := by decide +kernel
theorem dX9_explains_32 : decode cX9_explains 32 = .ok (.goto 4, 3) := by decide +kernel
theorem dX9_explains_35 : decode cX9_explains 35 = .ok (.iconst 0, 1) := by decide +kernel
theorem dX9_explains_36 : decode cX9_explains 36 = .ok (.ireturn, 1) := by decide +kernel
theorem dX9_costOf_0 : decode cX9_costOf 0 = .ok (.iconst 0, 1) := by decide +kernel
theorem dX9_costOf_1 : decode cX9_costOf 1 = .ok (.istore_n 1, 1) := by decide +kernel
theorem dX9_costOf_2 : decode cX9_costOf 2 = .ok (.iconst 0, 1) := by decide +kernel
theorem dX9_costOf_3 : decode cX9_costOf 3 = .ok (.istore_n 2, 1) := by decide +kernel
theorem dX9_costOf_4 : decode cX9_costOf 4 = .ok (.iload_n 2, 1) := by decide +kernel
theorem dX9_costOf_5 : decode cX9_costOf 5 = .ok (.aload_n 0, 1) := by decide +kernel
theorem dX9_costOf_6 : decode cX9_costOf 6 = .ok (.getfield 100, 3) := by decide +kernel
theorem dX9_costOf_9 : decode cX9_costOf 9 = .ok (.if_icmp .ge 30, 3) := by decide +kernel
theorem dX9_costOf_12 : decode cX9_costOf 12 = .ok (.iload_n 1, 1) := by decide +kernel
theorem dX9_costOf_13 : decode cX9_costOf 13 = .ok (.aload_n 0, 1) := by decide +kernel
theorem dX9_costOf_14 : decode cX9_costOf 14 = .ok (.iload_n 2, 1) := by decide +kernel
theorem dX9_costOf_15 : decode cX9_costOf 15 = .ok (.invokevirtual 210, 3) := by decide +kernel
theorem dX9_costOf_18 : decode cX9_costOf 18 = .ok (.ifCond .eq 7, 3) := by decide +kernel
theorem dX9_costOf_21 : decode cX9_costOf 21 = .ok (.iconst 0, 1) := by decide +kernel
theorem dX9_costOf_22 : decode cX9_costOf 22 = .ok (.goto 9, 3) := by decide +kernel
theorem dX9_costOf_25 : decode cX9_costOf 25 = .ok (.aload_n 0, 1) := by decide +kernel
theorem dX9_costOf_26 : decode cX9_costOf 26 = .ok (.getfield 65, 3) := by decide +kernel
theorem dX9_costOf_29 : decode cX9_costOf 29 = .ok (.iload_n 2, 1) := by decide +kernel
theorem dX9_costOf_30 : decode cX9_costOf 30 = .ok (.iaload, 1) := by decide +kernel
theorem dX9_costOf_31 : decode cX9_costOf 31 = .ok (.iadd, 1) := by decide +kernel
theorem dX9_costOf_32 : decode cX9_costOf 32 = .ok (.istore_n 1, 1) := by decide +kernel
theorem dX9_costOf_33 : decode cX9_costOf 33 = .ok (.iinc 2 1, 3) := by decide +kernel
theorem dX9_costOf_36 : decode cX9_costOf 36 = .ok (.goto (-32), 3) := by decide +kernel
theorem dX9_costOf_39 : decode cX9_costOf 39 = .ok (.iload_n 1, 1) := by decide +kernel
theorem dX9_costOf_40 : decode cX9_costOf 40 = .ok (.ireturn, 1) := by decide +kernel
theorem dX9_costs_0 : decode cX9_costs 0 = .ok (.iload_n 1, 1) := by decide +kernel
theorem dX9_costs_1 : decode cX9_costs 1 = .ok (.invokestatic 173, 3) := by decide +kernel
theorem dX9_costs_4 : decode cX9_costs 4 = .ok (.ifCond .ne 6, 3) := by decide +kernel
theorem dX9_costs_7 : decode cX9_costs 7 = .ok (.ldc 122, 2) := by decide +kernel
theorem dX9_costs_9 : decode cX9_costs 9 = .ok (.ireturn, 1) := by decide +kernel
theorem dX9_costs_10 : decode cX9_costs 10 = .ok (.aload_n 0, 1) := by decide +kernel
theorem dX9_costs_11 : decode cX9_costs 11 = .ok (.iload_n 1, 1) := by decide +kernel
theorem dX9_costs_12 : decode cX9_costs 12 = .ok (.invokevirtual 180, 3) := by decide +kernel
theorem dX9_costs_15 : decode cX9_costs 15 = .ok (.aload_n 0, 1) := by decide +kernel
theorem dX9_costs_16 : decode cX9_costs 16 = .ok (.invokevirtual 213, 3) := by decide +kernel
theorem dX9_costs_19 : decode cX9_costs 19 = .ok (.ireturn, 1) := by decide +kernel
theorem dX9_layCode_0 : decode cX9_layCode 0 = .ok (.aload_n 0, 1) := by decide +kernel
theorem dX9_layCode_1 : decode cX9_layCode 1 = .ok (.iconst 0, 1) := by decide +kernel
theorem dX9_layCode_2 : decode cX9_layCode 2 = .ok (.putfield 177, 3) := by decide +kernel
theorem dX9_layCode_5 : decode cX9_layCode 5 = .ok (.iconst 1, 1) := by decide +kernel
theorem dX9_layCode_6 : decode cX9_layCode 6 = .ok (.istore_n 2, 1) := by decide +kernel
theorem dX9_layCode_7 : decode cX9_layCode 7 = .ok (.iconst 0, 1) := by decide +kernel
theorem dX9_layCode_8 : decode cX9_layCode 8 = .ok (.istore_n 3, 1) := by decide +kernel
theorem dX9_layCode_9 : decode cX9_layCode 9 = .ok (.iconst 0, 1) := by decide +kernel
theorem dX9_layCode_10 : decode cX9_layCode 10 = .ok (.istore 4, 2) := by decide +kernel
theorem dX9_layCode_12 : decode cX9_layCode 12 = .ok (.iload 4, 2) := by decide +kernel
theorem dX9_layCode_14 : decode cX9_layCode 14 = .ok (.iconst 3, 1) := by decide +kernel
theorem dX9_layCode_15 : decode cX9_layCode 15 = .ok (.if_icmp .ge 149, 3) := by decide +kernel
theorem dX9_layCode_18 : decode cX9_layCode 18 = .ok (.iload_n 1, 1) := by decide +kernel
theorem dX9_layCode_19 : decode cX9_layCode 19 = .ok (.iload 4, 2) := by decide +kernel
theorem dX9_layCode_21 : decode cX9_layCode 21 = .ok (.ifCond .ne 8, 3) := by decide +kernel
theorem dX9_layCode_24 : decode cX9_layCode 24 = .ok (.bipush 49, 2) := by decide +kernel
theorem dX9_layCode_26 : decode cX9_layCode 26 = .ok (.goto 15, 3) := by decide +kernel
theorem dX9_layCode_29 : decode cX9_layCode 29 = .ok (.iload 4, 2) := by decide +kernel
theorem dX9_layCode_31 : decode cX9_layCode 31 = .ok (.iconst 1, 1) := by decide +kernel
theorem dX9_layCode_32 : decode cX9_layCode 32 = .ok (.if_icmp .ne 8, 3) := by decide +kernel
theorem dX9_layCode_35 : decode cX9_layCode 35 = .ok (.bipush 7, 2) := by decide +kernel
theorem dX9_layCode_37 : decode cX9_layCode 37 = .ok (.goto 4, 3) := by decide +kernel
theorem dX9_layCode_40 : decode cX9_layCode 40 = .ok (.iconst 1, 1) := by decide +kernel
theorem dX9_layCode_41 : decode cX9_layCode 41 = .ok (.idiv, 1) := by decide +kernel
theorem dX9_layCode_42 : decode cX9_layCode 42 = .ok (.bipush 7, 2) := by decide +kernel
theorem dX9_layCode_44 : decode cX9_layCode 44 = .ok (.irem, 1) := by decide +kernel
theorem dX9_layCode_45 : decode cX9_layCode 45 = .ok (.iconst 1, 1) := by decide +kernel
theorem dX9_layCode_46 : decode cX9_layCode 46 = .ok (.isub, 1) := by decide +kernel
theorem dX9_layCode_47 : decode cX9_layCode 47 = .ok (.istore 5, 2) := by decide +kernel
theorem dX9_layCode_49 : decode cX9_layCode 49 = .ok (.iload_n 2, 1) := by decide +kernel
theorem dX9_layCode_50 : decode cX9_layCode 50 = .ok (.ifCond .eq 25, 3) := by decide +kernel
theorem dX9_layCode_53 : decode cX9_layCode 53 = .ok (.iload 5, 2) := by decide +kernel
theorem dX9_layCode_55 : decode cX9_layCode 55 = .ok (.aload_n 0, 1) := by decide +kernel
theorem dX9_layCode_56 : decode cX9_layCode 56 = .ok (.getfield 97, 3) := by decide +kernel
theorem dX9_layCode_59 : decode cX9_layCode 59 = .ok (.if_icmp .ge 16, 3) := by decide +kernel
theorem dX9_layCode_62 : decode cX9_layCode 62 = .ok (.iload_n 3, 1) := by decide +kernel
theorem dX9_layCode_63 : decode cX9_layCode 63 = .ok (.ifCond .eq 8, 3) := by decide +kernel
theorem dX9_layCode_66 : decode cX9_layCode 66 = .ok (.iload 5, 2) := by decide +kernel
theorem dX9_layCode_68 : decode cX9_layCode 68 = .ok (.ifCond .ge 7, 3) := by decide +kernel
theorem dX9_layCode_71 : decode cX9_layCode 71 = .ok (.iconst 1, 1) := by decide +kernel
theorem dX9_layCode_72 : decode cX9_layCode 72 = .ok (.goto 4, 3) := by decide +kernel
theorem dX9_layCode_75 : decode cX9_layCode 75 = .ok (.iconst 0, 1) := by decide +kernel
theorem dX9_layCode_76 : decode cX9_layCode 76 = .ok (.istore_n 2, 1) := by decide +kernel
theorem dX9_layCode_77 : decode cX9_layCode 77 = .ok (.iload_n 3, 1) := by decide +kernel
theorem dX9_layCode_78 : decode cX9_layCode 78 = .ok (.ifCond .ne 8, 3) := by decide +kernel
theorem dX9_layCode_81 : decode cX9_layCode 81 = .ok (.iload 5, 2) := by decide +kernel
theorem dX9_layCode_83 : decode cX9_layCode 83 = .ok (.ifCond .ge 7, 3) := by decide +kernel
theorem dX9_layCode_86 : decode cX9_layCode 86 = .ok (.iconst 1, 1) := by decide +kernel
theorem dX9_layCode_87 : decode cX9_layCode 87 = .ok (.goto 4, 3) := by decide +kernel
theorem dX9_layCode_90 : decode cX9_layCode 90 = .ok (.iconst 0, 1) := by decide +kernel
theorem dX9_layCode_91 : decode cX9_layCode 91 = .ok (.istore_n 3, 1) := by decide +kernel
theorem dX9_layCode_92 : decode cX9_layCode 92 = .ok (.iload 5, 2) := by decide +kernel
theorem dX9_layCode_94 : decode cX9_layCode 94 = .ok (.ifCond .lt 64, 3) := by decide +kernel
theorem dX9_layCode_97 : decode cX9_layCode 97 = .ok (.iconst 0, 1) := by decide +kernel
theorem dX9_layCode_98 : decode cX9_layCode 98 = .ok (.istore 6, 2) := by decide +kernel
theorem dX9_layCode_100 : decode cX9_layCode 100 = .ok (.iload 6, 2) := by decide +kernel
theorem dX9_layCode_102 : decode cX9_layCode 102 = .ok (.aload_n 0, 1) := by decide +kernel
theorem dX9_layCode_103 : decode cX9_layCode 103 = .ok (.getfield 177, 3) := by decide +kernel
theorem dX9_layCode_106 : decode cX9_layCode 106 = .ok (.if_icmp .ge 31, 3) := by decide +kernel
theorem dX9_layCode_109 : decode cX9_layCode 109 = .ok (.iload_n 2, 1) := by decide +kernel
theorem dX9_layCode_110 : decode cX9_layCode 110 = .ok (.ifCond .eq 19, 3) := by decide +kernel
theorem dX9_layCode_113 : decode cX9_layCode 113 = .ok (.aload_n 0, 1) := by decide +kernel
theorem dX9_layCode_114 : decode cX9_layCode 114 = .ok (.getfield 53, 3) := by decide +kernel
theorem dX9_layCode_117 : decode cX9_layCode 117 = .ok (.iload 6, 2) := by decide +kernel
theorem dX9_layCode_119 : decode cX9_layCode 119 = .ok (.iaload, 1) := by decide +kernel
theorem dX9_layCode_120 : decode cX9_layCode 120 = .ok (.iload 5, 2) := by decide +kernel
theorem dX9_layCode_122 : decode cX9_layCode 122 = .ok (.if_icmp .eq 7, 3) := by decide +kernel
theorem dX9_layCode_125 : decode cX9_layCode 125 = .ok (.iconst 1, 1) := by decide +kernel
theorem dX9_layCode_126 : decode cX9_layCode 126 = .ok (.goto 4, 3) := by decide +kernel
theorem dX9_layCode_129 : decode cX9_layCode 129 = .ok (.iconst 0, 1) := by decide +kernel
theorem dX9_layCode_130 : decode cX9_layCode 130 = .ok (.istore_n 2, 1) := by decide +kernel
theorem dX9_layCode_131 : decode cX9_layCode 131 = .ok (.iinc 6 1, 3) := by decide +kernel
theorem dX9_layCode_134 : decode cX9_layCode 134 = .ok (.goto (-34), 3) := by decide +kernel
theorem dX9_layCode_137 : decode cX9_layCode 137 = .ok (.aload_n 0, 1) := by decide +kernel
theorem dX9_layCode_138 : decode cX9_layCode 138 = .ok (.getfield 53, 3) := by decide +kernel
theorem dX9_layCode_141 : decode cX9_layCode 141 = .ok (.aload_n 0, 1) := by decide +kernel
theorem dX9_layCode_142 : decode cX9_layCode 142 = .ok (.getfield 177, 3) := by decide +kernel
theorem dX9_layCode_145 : decode cX9_layCode 145 = .ok (.iload 5, 2) := by decide +kernel
theorem dX9_layCode_147 : decode cX9_layCode 147 = .ok (.iastore, 1) := by decide +kernel
theorem dX9_layCode_148 : decode cX9_layCode 148 = .ok (.aload_n 0, 1) := by decide +kernel
theorem dX9_layCode_149 : decode cX9_layCode 149 = .ok (.dup, 1) := by decide +kernel
theorem dX9_layCode_150 : decode cX9_layCode 150 = .ok (.getfield 177, 3) := by decide +kernel
theorem dX9_layCode_153 : decode cX9_layCode 153 = .ok (.iconst 1, 1) := by decide +kernel
theorem dX9_layCode_154 : decode cX9_layCode 154 = .ok (.iadd, 1) := by decide +kernel
theorem dX9_layCode_155 : decode cX9_layCode 155 = .ok (.putfield 177, 3) := by decide +kernel
theorem dX9_layCode_158 : decode cX9_layCode 158 = .ok (.iinc 4 1, 3) := by decide +kernel
theorem dX9_layCode_161 : decode cX9_layCode 161 = .ok (.goto (-149), 3) := by decide +kernel
theorem dX9_layCode_164 : decode cX9_layCode 164 = .ok (.iload_n 2, 1) := by decide +kernel
theorem dX9_layCode_165 : decode cX9_layCode 165 = .ok (.ireturn, 1) := by decide +kernel
theorem dX9_layBest_0 : decode cX9_layBest 0 = .ok (.aload_n 0, 1) := by decide +kernel
theorem dX9_layBest_1 : decode cX9_layBest 1 = .ok (.invokevirtual 160, 3) := by decide +kernel
theorem dX9_layBest_4 : decode cX9_layBest 4 = .ok (.aload_n 0, 1) := by decide +kernel
theorem dX9_layBest_5 : decode cX9_layBest 5 = .ok (.iconst 0, 1) := by decide +kernel
theorem dX9_layBest_6 : decode cX9_layBest 6 = .ok (.putfield 216, 3) := by decide +kernel
theorem dX9_layBest_9 : decode cX9_layBest 9 = .ok (.aload_n 0, 1) := by decide +kernel
theorem dX9_layBest_10 : decode cX9_layBest 10 = .ok (.ldc 219, 2) := by decide +kernel
theorem dX9_layBest_12 : decode cX9_layBest 12 = .ok (.putfield 220, 3) := by decide +kernel
theorem dX9_layBest_15 : decode cX9_layBest 15 = .ok (.iconst 0, 1) := by decide +kernel
theorem dX9_layBest_16 : decode cX9_layBest 16 = .ok (.istore_n 1, 1) := by decide +kernel
theorem dX9_layBest_17 : decode cX9_layBest 17 = .ok (.iload_n 1, 1) := by decide +kernel
theorem dX9_layBest_18 : decode cX9_layBest 18 = .ok (.sipush 343, 3) := by decide +kernel
theorem dX9_layBest_21 : decode cX9_layBest 21 = .ok (.if_icmp .ge 108, 3) := by decide +kernel
theorem dX9_layBest_24 : decode cX9_layBest 24 = .ok (.aload_n 0, 1) := by decide +kernel
theorem dX9_layBest_25 : decode cX9_layBest 25 = .ok (.iload_n 1, 1) := by decide +kernel
theorem dX9_layBest_26 : decode cX9_layBest 26 = .ok (.invokevirtual 223, 3) := by decide +kernel
theorem dX9_layBest_29 : decode cX9_layBest 29 = .ok (.ifCond .eq 94, 3) := by decide +kernel
theorem dX9_layBest_32 : decode cX9_layBest 32 = .ok (.aload_n 0, 1) := by decide +kernel
theorem dX9_layBest_33 : decode cX9_layBest 33 = .ok (.invokevirtual 213, 3) := by decide +kernel
theorem dX9_layBest_36 : decode cX9_layBest 36 = .ok (.istore_n 2, 1) := by decide +kernel
theorem dX9_layBest_37 : decode cX9_layBest 37 = .ok (.aload_n 0, 1) := by decide +kernel
theorem dX9_layBest_38 : decode cX9_layBest 38 = .ok (.dup, 1) := by decide +kernel
theorem dX9_layBest_39 : decode cX9_layBest 39 = .ok (.getfield 216, 3) := by decide +kernel
theorem dX9_layBest_42 : decode cX9_layBest 42 = .ok (.iload_n 2, 1) := by decide +kernel
theorem dX9_layBest_43 : decode cX9_layBest 43 = .ok (.ifCond .ne 7, 3) := by decide +kernel
theorem dX9_layBest_46 : decode cX9_layBest 46 = .ok (.iconst 1, 1) := by decide +kernel
theorem dX9_layBest_47 : decode cX9_layBest 47 = .ok (.goto 4, 3) := by decide +kernel
theorem dX9_layBest_50 : decode cX9_layBest 50 = .ok (.iconst 0, 1) := by decide +kernel
theorem dX9_layBest_51 : decode cX9_layBest 51 = .ok (.iadd, 1) := by decide +kernel
theorem dX9_layBest_52 : decode cX9_layBest 52 = .ok (.putfield 216, 3) := by decide +kernel
theorem dX9_layBest_55 : decode cX9_layBest 55 = .ok (.iload_n 2, 1) := by decide +kernel
theorem dX9_layBest_56 : decode cX9_layBest 56 = .ok (.aload_n 0, 1) := by decide +kernel
theorem dX9_layBest_57 : decode cX9_layBest 57 = .ok (.getfield 220, 3) := by decide +kernel
theorem dX9_layBest_60 : decode cX9_layBest 60 = .ok (.if_icmp .lt 22, 3) := by decide +kernel
theorem dX9_layBest_63 : decode cX9_layBest 63 = .ok (.iload_n 2, 1) := by decide +kernel
theorem dX9_layBest_64 : decode cX9_layBest 64 = .ok (.aload_n 0, 1) := by decide +kernel
theorem dX9_layBest_65 : decode cX9_layBest 65 = .ok (.getfield 220, 3) := by decide +kernel
theorem dX9_layBest_68 : decode cX9_layBest 68 = .ok (.if_icmp .ne 55, 3) := by decide +kernel
theorem dX9_layBest_71 : decode cX9_layBest 71 = .ok (.aload_n 0, 1) := by decide +kernel
theorem dX9_layBest_72 : decode cX9_layBest 72 = .ok (.getfield 177, 3) := by decide +kernel
theorem dX9_layBest_75 : decode cX9_layBest 75 = .ok (.aload_n 0, 1) := by decide +kernel
theorem dX9_layBest_76 : decode cX9_layBest 76 = .ok (.getfield 226, 3) := by decide +kernel
theorem dX9_layBest_79 : decode cX9_layBest 79 = .ok (.if_icmp .ge 44, 3) := by decide +kernel
theorem dX9_layBest_82 : decode cX9_layBest 82 = .ok (.aload_n 0, 1) := by decide +kernel
theorem dX9_layBest_83 : decode cX9_layBest 83 = .ok (.iload_n 2, 1) := by decide +kernel
theorem dX9_layBest_84 : decode cX9_layBest 84 = .ok (.putfield 220, 3) := by decide +kernel
theorem dX9_layBest_87 : decode cX9_layBest 87 = .ok (.aload_n 0, 1) := by decide +kernel
theorem dX9_layBest_88 : decode cX9_layBest 88 = .ok (.aload_n 0, 1) := by decide +kernel
theorem dX9_layBest_89 : decode cX9_layBest 89 = .ok (.getfield 177, 3) := by decide +kernel
theorem dX9_layBest_92 : decode cX9_layBest 92 = .ok (.putfield 226, 3) := by decide +kernel
theorem dX9_layBest_95 : decode cX9_layBest 95 = .ok (.iconst 0, 1) := by decide +kernel
theorem dX9_layBest_96 : decode cX9_layBest 96 = .ok (.istore_n 3, 1) := by decide +kernel
theorem dX9_layBest_97 : decode cX9_layBest 97 = .ok (.iload_n 3, 1) := by decide +kernel
theorem dX9_layBest_98 : decode cX9_layBest 98 = .ok (.aload_n 0, 1) := by decide +kernel
theorem dX9_layBest_99 : decode cX9_layBest 99 = .ok (.getfield 177, 3) := by decide +kernel
theorem dX9_layBest_102 : decode cX9_layBest 102 = .ok (.if_icmp .ge 21, 3) := by decide +kernel
theorem dX9_layBest_105 : decode cX9_layBest 105 = .ok (.aload_n 0, 1) := by decide +kernel
theorem dX9_layBest_106 : decode cX9_layBest 106 = .ok (.getfield 68, 3) := by decide +kernel
theorem dX9_layBest_109 : decode cX9_layBest 109 = .ok (.iload_n 3, 1) := by decide +kernel
theorem dX9_layBest_110 : decode cX9_layBest 110 = .ok (.aload_n 0, 1) := by decide +kernel
theorem dX9_layBest_111 : decode cX9_layBest 111 = .ok (.getfield 53, 3) := by decide +kernel
theorem dX9_layBest_114 : decode cX9_layBest 114 = .ok (.iload_n 3, 1) := by decide +kernel
theorem dX9_layBest_115 : decode cX9_layBest 115 = .ok (.iaload, 1) := by decide +kernel
theorem dX9_layBest_116 : decode cX9_layBest 116 = .ok (.iastore, 1) := by decide +kernel
theorem dX9_layBest_117 : decode cX9_layBest 117 = .ok (.iinc 3 1, 3) := by decide +kernel
theorem dX9_layBest_120 : decode cX9_layBest 120 = .ok (.goto (-23), 3) := by decide +kernel
theorem dX9_layBest_123 : decode cX9_layBest 123 = .ok (.iinc 1 1, 3) := by decide +kernel
theorem dX9_layBest_126 : decode cX9_layBest 126 = .ok (.goto (-109), 3) := by decide +kernel
theorem dX9_layBest_129 : decode cX9_layBest 129 = .ok (.return_, 1) := by decide +kernel
theorem dX9_fits_0 : decode cX9_fits 0 = .ok (.aload_n 0, 1) := by decide +kernel
theorem dX9_fits_1 : decode cX9_fits 1 = .ok (.invokevirtual 229, 3) := by decide +kernel
theorem dX9_fits_4 : decode cX9_fits 4 = .ok (.aload_n 0, 1) := by decide +kernel
theorem dX9_fits_5 : decode cX9_fits 5 = .ok (.getfield 216, 3) := by decide +kernel
theorem dX9_fits_8 : decode cX9_fits 8 = .ok (.ireturn, 1) := by decide +kernel
theorem dX9_best_0 : decode cX9_best 0 = .ok (.aload_n 0, 1) := by decide +kernel
theorem dX9_best_1 : decode cX9_best 1 = .ok (.invokevirtual 229, 3) := by decide +kernel
theorem dX9_best_4 : decode cX9_best 4 = .ok (.aload_n 0, 1) := by decide +kernel
theorem dX9_best_5 : decode cX9_best 5 = .ok (.getfield 220, 3) := by decide +kernel
theorem dX9_best_8 : decode cX9_best 8 = .ok (.ireturn, 1) := by decide +kernel
theorem dX9_bestGo_0 : decode cX9_bestGo 0 = .ok (.aload_n 0, 1) := by decide +kernel
theorem dX9_bestGo_1 : decode cX9_bestGo 1 = .ok (.invokevirtual 229, 3) := by decide +kernel
theorem dX9_bestGo_4 : decode cX9_bestGo 4 = .ok (.iload_n 1, 1) := by decide +kernel
theorem dX9_bestGo_5 : decode cX9_bestGo 5 = .ok (.i2l, 1) := by decide +kernel
theorem dX9_bestGo_6 : decode cX9_bestGo 6 = .ok (.lconst 0, 1) := by decide +kernel
theorem dX9_bestGo_7 : decode cX9_bestGo 7 = .ok (.aload_n 0, 1) := by decide +kernel
theorem dX9_bestGo_8 : decode cX9_bestGo 8 = .ok (.getfield 226, 3) := by decide +kernel
theorem dX9_bestGo_11 : decode cX9_bestGo 11 = .ok (.iconst 1, 1) := by decide +kernel
theorem dX9_bestGo_12 : decode cX9_bestGo 12 = .ok (.isub, 1) := by decide +kernel
theorem dX9_bestGo_13 : decode cX9_bestGo 13 = .ok (.i2l, 1) := by decide +kernel
theorem dX9_bestGo_14 : decode cX9_bestGo 14 = .ok (.invokestatic 107, 3) := by decide +kernel
theorem dX9_bestGo_17 : decode cX9_bestGo 17 = .ok (.ifCond .eq 12, 3) := by decide +kernel
theorem dX9_bestGo_20 : decode cX9_bestGo 20 = .ok (.aload_n 0, 1) := by decide +kernel
theorem dX9_bestGo_21 : decode cX9_bestGo 21 = .ok (.getfield 68, 3) := by decide +kernel
theorem dX9_bestGo_24 : decode cX9_bestGo 24 = .ok (.iload_n 1, 1) := by decide +kernel
theorem dX9_bestGo_25 : decode cX9_bestGo 25 = .ok (.iaload, 1) := by decide +kernel
theorem dX9_bestGo_26 : decode cX9_bestGo 26 = .ok (.goto 5, 3) := by decide +kernel
theorem dX9_bestGo_29 : decode cX9_bestGo 29 = .ok (.ldc 134, 2) := by decide +kernel
theorem dX9_bestGo_31 : decode cX9_bestGo 31 = .ok (.ireturn, 1) := by decide +kernel
theorem dX9_take_0 : decode cX9_take 0 = .ok (.iload_n 1, 1) := by decide +kernel
theorem dX9_take_1 : decode cX9_take 1 = .ok (.invokestatic 173, 3) := by decide +kernel
theorem dX9_take_4 : decode cX9_take 4 = .ok (.ifCond .ne 6, 3) := by decide +kernel
theorem dX9_take_7 : decode cX9_take 7 = .ok (.ldc 122, 2) := by decide +kernel
theorem dX9_take_9 : decode cX9_take 9 = .ok (.ireturn, 1) := by decide +kernel
theorem dX9_take_10 : decode cX9_take 10 = .ok (.aload_n 0, 1) := by decide +kernel
theorem dX9_take_11 : decode cX9_take 11 = .ok (.invokevirtual 229, 3) := by decide +kernel
theorem dX9_take_14 : decode cX9_take 14 = .ok (.aload_n 0, 1) := by decide +kernel
theorem dX9_take_15 : decode cX9_take 15 = .ok (.getfield 47, 3) := by decide +kernel
theorem dX9_take_18 : decode cX9_take 18 = .ok (.iload_n 1, 1) := by decide +kernel
theorem dX9_take_19 : decode cX9_take 19 = .ok (.aload_n 0, 1) := by decide +kernel
theorem dX9_take_20 : decode cX9_take 20 = .ok (.getfield 226, 3) := by decide +kernel
theorem dX9_take_23 : decode cX9_take 23 = .ok (.iastore, 1) := by decide +kernel
theorem dX9_take_24 : decode cX9_take 24 = .ok (.iconst 0, 1) := by decide +kernel
theorem dX9_take_25 : decode cX9_take 25 = .ok (.istore_n 2, 1) := by decide +kernel
theorem dX9_take_26 : decode cX9_take 26 = .ok (.iload_n 2, 1) := by decide +kernel
theorem dX9_take_27 : decode cX9_take 27 = .ok (.aload_n 0, 1) := by decide +kernel
theorem dX9_take_28 : decode cX9_take 28 = .ok (.getfield 226, 3) := by decide +kernel
theorem dX9_take_31 : decode cX9_take 31 = .ok (.if_icmp .ge 26, 3) := by decide +kernel
theorem dX9_take_34 : decode cX9_take 34 = .ok (.aload_n 0, 1) := by decide +kernel
theorem dX9_take_35 : decode cX9_take 35 = .ok (.getfield 50, 3) := by decide +kernel
theorem dX9_take_38 : decode cX9_take 38 = .ok (.bipush 6, 2) := by decide +kernel
theorem dX9_take_40 : decode cX9_take 40 = .ok (.iload_n 1, 1) := by decide +kernel
theorem dX9_take_41 : decode cX9_take 41 = .ok (.imul, 1) := by decide +kernel
theorem dX9_take_42 : decode cX9_take 42 = .ok (.iload_n 2, 1) := by decide +kernel
theorem dX9_take_43 : decode cX9_take 43 = .ok (.iadd, 1) := by decide +kernel
theorem dX9_take_44 : decode cX9_take 44 = .ok (.aload_n 0, 1) := by decide +kernel
theorem dX9_take_45 : decode cX9_take 45 = .ok (.getfield 68, 3) := by decide +kernel
theorem dX9_take_48 : decode cX9_take 48 = .ok (.iload_n 2, 1) := by decide +kernel
theorem dX9_take_49 : decode cX9_take 49 = .ok (.iaload, 1) := by decide +kernel
theorem dX9_take_50 : decode cX9_take 50 = .ok (.iastore, 1) := by decide +kernel
theorem dX9_take_51 : decode cX9_take 51 = .ok (.iinc 2 1, 3) := by decide +kernel
theorem dX9_take_54 : decode cX9_take 54 = .ok (.goto (-28), 3) := by decide +kernel
theorem dX9_take_57 : decode cX9_take 57 = .ok (.aload_n 0, 1) := by decide +kernel
theorem dX9_take_58 : decode cX9_take 58 = .ok (.getfield 226, 3) := by decide +kernel
theorem dX9_take_61 : decode cX9_take 61 = .ok (.ireturn, 1) := by decide +kernel
theorem dX9_layThings_0 : decode cX9_layThings 0 = .ok (.aload_n 0, 1) := by decide +kernel
theorem dX9_layThings_1 : decode cX9_layThings 1 = .ok (.iload_n 1, 1) := by decide +kernel
theorem dX9_layThings_2 : decode cX9_layThings 2 = .ok (.invokevirtual 180, 3) := by decide +kernel
theorem dX9_layThings_5 : decode cX9_layThings 5 = .ok (.iconst 0, 1) := by decide +kernel
theorem dX9_layThings_6 : decode cX9_layThings 6 = .ok (.istore_n 2, 1) := by decide +kernel
theorem dX9_layThings_7 : decode cX9_layThings 7 = .ok (.iload_n 2, 1) := by decide +kernel
theorem dX9_layThings_8 : decode cX9_layThings 8 = .ok (.bipush 7, 2) := by decide +kernel
theorem dX9_layThings_10 : decode cX9_layThings 10 = .ok (.aload_n 0, 1) := by decide +kernel
theorem dX9_layThings_11 : decode cX9_layThings 11 = .ok (.invokevirtual 103, 3) := by decide +kernel
theorem dX9_layThings_14 : decode cX9_layThings 14 = .ok (.imul, 1) := by decide +kernel
theorem dX9_layThings_15 : decode cX9_layThings 15 = .ok (.if_icmp .ge 27, 3) := by decide +kernel
theorem dX9_layThings_18 : decode cX9_layThings 18 = .ok (.aload_n 0, 1) := by decide +kernel
theorem dX9_layThings_19 : decode cX9_layThings 19 = .ok (.getfield 71, 3) := by decide +kernel
theorem dX9_layThings_22 : decode cX9_layThings 22 = .ok (.iload_n 2, 1) := by decide +kernel
theorem dX9_layThings_23 : decode cX9_layThings 23 = .ok (.aload_n 0, 1) := by decide +kernel
theorem dX9_layThings_24 : decode cX9_layThings 24 = .ok (.iload_n 2, 1) := by decide +kernel
theorem dX9_layThings_25 : decode cX9_layThings 25 = .ok (.bipush 7, 2) := by decide +kernel
theorem dX9_layThings_27 : decode cX9_layThings 27 = .ok (.idiv, 1) := by decide +kernel
theorem dX9_layThings_28 : decode cX9_layThings 28 = .ok (.iload_n 2, 1) := by decide +kernel
theorem dX9_layThings_29 : decode cX9_layThings 29 = .ok (.bipush 7, 2) := by decide +kernel
theorem dX9_layThings_31 : decode cX9_layThings 31 = .ok (.irem, 1) := by decide +kernel
theorem dX9_layThings_32 : decode cX9_layThings 32 = .ok (.invokevirtual 204, 3) := by decide +kernel
theorem dX9_layThings_35 : decode cX9_layThings 35 = .ok (.bastore, 1) := by decide +kernel
theorem dX9_layThings_36 : decode cX9_layThings 36 = .ok (.iinc 2 1, 3) := by decide +kernel
theorem dX9_layThings_39 : decode cX9_layThings 39 = .ok (.goto (-32), 3) := by decide +kernel
theorem dX9_layThings_42 : decode cX9_layThings 42 = .ok (.return_, 1) := by decide +kernel
theorem dX9_unlike_0 : decode cX9_unlike 0 = .ok (.iload_n 1, 1) := by decide +kernel
theorem dX9_unlike_1 : decode cX9_unlike 1 = .ok (.invokestatic 173, 3) := by decide +kernel
theorem dX9_unlike_4 : decode cX9_unlike 4 = .ok (.ifCond .eq 10, 3) := by decide +kernel
theorem dX9_unlike_7 : decode cX9_unlike 7 = .ok (.iload_n 2, 1) := by decide +kernel
theorem dX9_unlike_8 : decode cX9_unlike 8 = .ok (.invokestatic 173, 3) := by decide +kernel
theorem dX9_unlike_11 : decode cX9_unlike 11 = .ok (.ifCond .ne 6, 3) := by decide +kernel
theorem dX9_unlike_14 : decode cX9_unlike 14 = .ok (.ldc 122, 2) := by decide +kernel
theorem dX9_unlike_16 : decode cX9_unlike 16 = .ok (.ireturn, 1) := by decide +kernel
theorem dX9_unlike_17 : decode cX9_unlike 17 = .ok (.aload_n 0, 1) := by decide +kernel
theorem dX9_unlike_18 : decode cX9_unlike 18 = .ok (.iload_n 1, 1) := by decide +kernel
theorem dX9_unlike_19 : decode cX9_unlike 19 = .ok (.invokevirtual 232, 3) := by decide +kernel
theorem dX9_unlike_22 : decode cX9_unlike 22 = .ok (.aload_n 0, 1) := by decide +kernel
theorem dX9_unlike_23 : decode cX9_unlike 23 = .ok (.iload_n 2, 1) := by decide +kernel
theorem dX9_unlike_24 : decode cX9_unlike 24 = .ok (.invokevirtual 180, 3) := by decide +kernel
theorem dX9_unlike_27 : decode cX9_unlike 27 = .ok (.iconst 0, 1) := by decide +kernel
theorem dX9_unlike_28 : decode cX9_unlike 28 = .ok (.istore_n 3, 1) := by decide +kernel
theorem dX9_unlike_29 : decode cX9_unlike 29 = .ok (.iconst 0, 1) := by decide +kernel
theorem dX9_unlike_30 : decode cX9_unlike 30 = .ok (.istore 4, 2) := by decide +kernel
theorem dX9_unlike_32 : decode cX9_unlike 32 = .ok (.iload 4, 2) := by decide +kernel
theorem dX9_unlike_34 : decode cX9_unlike 34 = .ok (.bipush 7, 2) := by decide +kernel
theorem dX9_unlike_36 : decode cX9_unlike 36 = .ok (.aload_n 0, 1) := by decide +kernel
theorem dX9_unlike_37 : decode cX9_unlike 37 = .ok (.invokevirtual 103, 3) := by decide +kernel
theorem dX9_unlike_40 : decode cX9_unlike 40 = .ok (.imul, 1) := by decide +kernel
theorem dX9_unlike_41 : decode cX9_unlike 41 = .ok (.if_icmp .ge 41, 3) := by decide +kernel
theorem dX9_unlike_44 : decode cX9_unlike 44 = .ok (.iload_n 3, 1) := by decide +kernel
theorem dX9_unlike_45 : decode cX9_unlike 45 = .ok (.aload_n 0, 1) := by decide +kernel
theorem dX9_unlike_46 : decode cX9_unlike 46 = .ok (.getfield 71, 3) := by decide +kernel
theorem dX9_unlike_49 : decode cX9_unlike 49 = .ok (.iload 4, 2) := by decide +kernel
theorem dX9_unlike_51 : decode cX9_unlike 51 = .ok (.baload, 1) := by decide +kernel
theorem dX9_unlike_52 : decode cX9_unlike 52 = .ok (.aload_n 0, 1) := by decide +kernel
theorem dX9_unlike_53 : decode cX9_unlike 53 = .ok (.iload 4, 2) := by decide +kernel
theorem dX9_unlike_55 : decode cX9_unlike 55 = .ok (.bipush 7, 2) := by decide +kernel
theorem dX9_unlike_57 : decode cX9_unlike 57 = .ok (.idiv, 1) := by decide +kernel
theorem dX9_unlike_58 : decode cX9_unlike 58 = .ok (.iload 4, 2) := by decide +kernel
theorem dX9_unlike_60 : decode cX9_unlike 60 = .ok (.bipush 7, 2) := by decide +kernel
theorem dX9_unlike_62 : decode cX9_unlike 62 = .ok (.irem, 1) := by decide +kernel
theorem dX9_unlike_63 : decode cX9_unlike 63 = .ok (.invokevirtual 204, 3) := by decide +kernel
theorem dX9_unlike_66 : decode cX9_unlike 66 = .ok (.if_icmp .eq 7, 3) := by decide +kernel
theorem dX9_unlike_69 : decode cX9_unlike 69 = .ok (.iconst 1, 1) := by decide +kernel
theorem dX9_unlike_70 : decode cX9_unlike 70 = .ok (.goto 4, 3) := by decide +kernel
theorem dX9_unlike_73 : decode cX9_unlike 73 = .ok (.iconst 0, 1) := by decide +kernel
theorem dX9_unlike_74 : decode cX9_unlike 74 = .ok (.iadd, 1) := by decide +kernel
theorem dX9_unlike_75 : decode cX9_unlike 75 = .ok (.istore_n 3, 1) := by decide +kernel
theorem dX9_unlike_76 : decode cX9_unlike 76 = .ok (.iinc 4 1, 3) := by decide +kernel
theorem dX9_unlike_79 : decode cX9_unlike 79 = .ok (.goto (-47), 3) := by decide +kernel
theorem dX9_unlike_82 : decode cX9_unlike 82 = .ok (.iload_n 3, 1) := by decide +kernel
theorem dX9_unlike_83 : decode cX9_unlike 83 = .ok (.ireturn, 1) := by decide +kernel
theorem dX9_look_0 : decode cX9_look 0 = .ok (.iload_n 1, 1) := by decide +kernel
theorem dX9_look_1 : decode cX9_look 1 = .ok (.invokestatic 173, 3) := by decide +kernel
theorem dX9_look_4 : decode cX9_look 4 = .ok (.ifCond .eq 10, 3) := by decide +kernel
theorem dX9_look_7 : decode cX9_look 7 = .ok (.iload_n 2, 1) := by decide +kernel
theorem dX9_look_8 : decode cX9_look 8 = .ok (.invokestatic 173, 3) := by decide +kernel
theorem dX9_look_11 : decode cX9_look 11 = .ok (.ifCond .ne 6, 3) := by decide +kernel
theorem dX9_look_14 : decode cX9_look 14 = .ok (.ldc 122, 2) := by decide +kernel
theorem dX9_look_16 : decode cX9_look 16 = .ok (.ireturn, 1) := by decide +kernel
theorem dX9_look_17 : decode cX9_look 17 = .ok (.aload_n 0, 1) := by decide +kernel
theorem dX9_look_18 : decode cX9_look 18 = .ok (.iload_n 1, 1) := by decide +kernel
theorem dX9_look_19 : decode cX9_look 19 = .ok (.invokevirtual 232, 3) := by decide +kernel
theorem dX9_look_22 : decode cX9_look 22 = .ok (.aload_n 0, 1) := by decide +kernel
theorem dX9_look_23 : decode cX9_look 23 = .ok (.iload_n 2, 1) := by decide +kernel
theorem dX9_look_24 : decode cX9_look 24 = .ok (.invokevirtual 180, 3) := by decide +kernel
theorem dX9_look_27 : decode cX9_look 27 = .ok (.iconst 0, 1) := by decide +kernel
theorem dX9_look_28 : decode cX9_look 28 = .ok (.istore 4, 2) := by decide +kernel
theorem dX9_look_30 : decode cX9_look 30 = .ok (.iconst 0, 1) := by decide +kernel
theorem dX9_look_31 : decode cX9_look 31 = .ok (.istore 5, 2) := by decide +kernel
theorem dX9_look_33 : decode cX9_look 33 = .ok (.iload 5, 2) := by decide +kernel
theorem dX9_look_35 : decode cX9_look 35 = .ok (.bipush 7, 2) := by decide +kernel
theorem dX9_look_37 : decode cX9_look 37 = .ok (.aload_n 0, 1) := by decide +kernel
theorem dX9_look_38 : decode cX9_look 38 = .ok (.invokevirtual 103, 3) := by decide +kernel
theorem dX9_look_41 : decode cX9_look 41 = .ok (.imul, 1) := by decide +kernel
theorem dX9_look_42 : decode cX9_look 42 = .ok (.if_icmp .ge 57, 3) := by decide +kernel
theorem dX9_look_45 : decode cX9_look 45 = .ok (.aload_n 0, 1) := by decide +kernel
theorem dX9_look_46 : decode cX9_look 46 = .ok (.getfield 71, 3) := by decide +kernel
theorem dX9_look_49 : decode cX9_look 49 = .ok (.iload 5, 2) := by decide +kernel
theorem dX9_look_51 : decode cX9_look 51 = .ok (.baload, 1) := by decide +kernel
theorem dX9_look_52 : decode cX9_look 52 = .ok (.aload_n 0, 1) := by decide +kernel
theorem dX9_look_53 : decode cX9_look 53 = .ok (.iload 5, 2) := by decide +kernel
theorem dX9_look_55 : decode cX9_look 55 = .ok (.bipush 7, 2) := by decide +kernel
theorem dX9_look_57 : decode cX9_look 57 = .ok (.idiv, 1) := by decide +kernel
theorem dX9_look_58 : decode cX9_look 58 = .ok (.iload 5, 2) := by decide +kernel
theorem dX9_look_60 : decode cX9_look 60 = .ok (.bipush 7, 2) := by decide +kernel
theorem dX9_look_62 : decode cX9_look 62 = .ok (.irem, 1) := by decide +kernel
theorem dX9_look_63 : decode cX9_look 63 = .ok (.invokevirtual 204, 3) := by decide +kernel
theorem dX9_look_66 : decode cX9_look 66 = .ok (.if_icmp .eq 27, 3) := by decide +kernel
theorem dX9_look_69 : decode cX9_look 69 = .ok (.iload 4, 2) := by decide +kernel
theorem dX9_look_71 : decode cX9_look 71 = .ok (.iload_n 3, 1) := by decide +kernel
theorem dX9_look_72 : decode cX9_look 72 = .ok (.if_icmp .ne 18, 3) := by decide +kernel
theorem dX9_look_75 : decode cX9_look 75 = .ok (.iload 5, 2) := by decide +kernel
theorem dX9_look_77 : decode cX9_look 77 = .ok (.bipush 7, 2) := by decide +kernel
theorem dX9_look_79 : decode cX9_look 79 = .ok (.idiv, 1) := by decide +kernel
theorem dX9_look_80 : decode cX9_look 80 = .ok (.bipush 10, 2) := by decide +kernel
theorem dX9_look_82 : decode cX9_look 82 = .ok (.imul, 1) := by decide +kernel
theorem dX9_look_83 : decode cX9_look 83 = .ok (.iload 5, 2) := by decide +kernel
theorem dX9_look_85 : decode cX9_look 85 = .ok (.bipush 7, 2) := by decide +kernel
theorem dX9_look_87 : decode cX9_look 87 = .ok (.irem, 1) := by decide +kernel
theorem dX9_look_88 : decode cX9_look 88 = .ok (.iadd, 1) := by decide +kernel
theorem dX9_look_89 : decode cX9_look 89 = .ok (.ireturn, 1) := by decide +kernel
theorem dX9_look_90 : decode cX9_look 90 = .ok (.iinc 4 1, 3) := by decide +kernel
theorem dX9_look_93 : decode cX9_look 93 = .ok (.iinc 5 1, 3) := by decide +kernel
theorem dX9_look_96 : decode cX9_look 96 = .ok (.goto (-63), 3) := by decide +kernel
theorem dX9_look_99 : decode cX9_look 99 = .ok (.ldc 134, 2) := by decide +kernel
theorem dX9_look_101 : decode cX9_look 101 = .ok (.ireturn, 1) := by decide +kernel
theorem dX9_layLake_0 : decode cX9_layLake 0 = .ok (.iconst 0, 1) := by decide +kernel
theorem dX9_layLake_1 : decode cX9_layLake 1 = .ok (.istore_n 2, 1) := by decide +kernel
theorem dX9_layLake_2 : decode cX9_layLake 2 = .ok (.iload_n 2, 1) := by decide +kernel
theorem dX9_layLake_3 : decode cX9_layLake 3 = .ok (.aload_n 0, 1) := by decide +kernel
theorem dX9_layLake_4 : decode cX9_layLake 4 = .ok (.invokevirtual 103, 3) := by decide +kernel
theorem dX9_layLake_7 : decode cX9_layLake 7 = .ok (.if_icmp .ge 43, 3) := by decide +kernel
theorem dX9_layLake_10 : decode cX9_layLake 10 = .ok (.aload_n 0, 1) := by decide +kernel
theorem dX9_layLake_11 : decode cX9_layLake 11 = .ok (.getfield 74, 3) := by decide +kernel
theorem dX9_layLake_14 : decode cX9_layLake 14 = .ok (.iload_n 2, 1) := by decide +kernel
theorem dX9_layLake_15 : decode cX9_layLake 15 = .ok (.aload_n 0, 1) := by decide +kernel
theorem dX9_layLake_16 : decode cX9_layLake 16 = .ok (.iload_n 1, 1) := by decide +kernel
theorem dX9_layLake_17 : decode cX9_layLake 17 = .ok (.iload_n 2, 1) := by decide +kernel
theorem dX9_layLake_18 : decode cX9_layLake 18 = .ok (.invokevirtual 153, 3) := by decide +kernel
theorem dX9_layLake_21 : decode cX9_layLake 21 = .ok (.ifCond .ne 20, 3) := by decide +kernel
theorem dX9_layLake_24 : decode cX9_layLake 24 = .ok (.aload_n 0, 1) := by decide +kernel
theorem dX9_layLake_25 : decode cX9_layLake 25 = .ok (.iload_n 2, 1) := by decide +kernel
theorem dX9_layLake_26 : decode cX9_layLake 26 = .ok (.invokevirtual 143, 3) := by decide +kernel
theorem dX9_layLake_29 : decode cX9_layLake 29 = .ok (.ifCond .eq 12, 3) := by decide +kernel
theorem dX9_layLake_32 : decode cX9_layLake 32 = .ok (.aload_n 0, 1) := by decide +kernel
theorem dX9_layLake_33 : decode cX9_layLake 33 = .ok (.getfield 7, 3) := by decide +kernel
theorem dX9_layLake_36 : decode cX9_layLake 36 = .ok (.iload_n 2, 1) := by decide +kernel
theorem dX9_layLake_37 : decode cX9_layLake 37 = .ok (.iaload, 1) := by decide +kernel
theorem dX9_layLake_38 : decode cX9_layLake 38 = .ok (.goto 5, 3) := by decide +kernel
theorem dX9_layLake_41 : decode cX9_layLake 41 = .ok (.ldc 219, 2) := by decide +kernel
theorem dX9_layLake_43 : decode cX9_layLake 43 = .ok (.iastore, 1) := by decide +kernel
theorem dX9_layLake_44 : decode cX9_layLake 44 = .ok (.iinc 2 1, 3) := by decide +kernel
theorem dX9_layLake_47 : decode cX9_layLake 47 = .ok (.goto (-45), 3) := by decide +kernel
theorem dX9_layLake_50 : decode cX9_layLake 50 = .ok (.iconst 1, 1) := by decide +kernel
theorem dX9_layLake_51 : decode cX9_layLake 51 = .ok (.istore_n 2, 1) := by decide +kernel
theorem dX9_layLake_52 : decode cX9_layLake 52 = .ok (.iload_n 2, 1) := by decide +kernel
theorem dX9_layLake_53 : decode cX9_layLake 53 = .ok (.ifCond .eq 123, 3) := by decide +kernel
theorem dX9_layLake_56 : decode cX9_layLake 56 = .ok (.iconst 0, 1) := by decide +kernel
theorem dX9_layLake_57 : decode cX9_layLake 57 = .ok (.istore_n 2, 1) := by decide +kernel
theorem dX9_layLake_58 : decode cX9_layLake 58 = .ok (.iconst 0, 1) := by decide +kernel
theorem dX9_layLake_59 : decode cX9_layLake 59 = .ok (.istore_n 3, 1) := by decide +kernel
theorem dX9_layLake_60 : decode cX9_layLake 60 = .ok (.iload_n 3, 1) := by decide +kernel
theorem dX9_layLake_61 : decode cX9_layLake 61 = .ok (.iconst 4, 1) := by decide +kernel
theorem dX9_layLake_62 : decode cX9_layLake 62 = .ok (.aload_n 0, 1) := by decide +kernel
theorem dX9_layLake_63 : decode cX9_layLake 63 = .ok (.invokevirtual 103, 3) := by decide +kernel
theorem dX9_layLake_66 : decode cX9_layLake 66 = .ok (.imul, 1) := by decide +kernel
theorem dX9_layLake_67 : decode cX9_layLake 67 = .ok (.if_icmp .ge 106, 3) := by decide +kernel
theorem dX9_layLake_70 : decode cX9_layLake 70 = .ok (.iload_n 3, 1) := by decide +kernel
theorem dX9_layLake_71 : decode cX9_layLake 71 = .ok (.iconst 4, 1) := by decide +kernel
theorem dX9_layLake_72 : decode cX9_layLake 72 = .ok (.idiv, 1) := by decide +kernel
theorem dX9_layLake_73 : decode cX9_layLake 73 = .ok (.istore 4, 2) := by decide +kernel
theorem dX9_layLake_75 : decode cX9_layLake 75 = .ok (.aload_n 0, 1) := by decide +kernel
theorem dX9_layLake_76 : decode cX9_layLake 76 = .ok (.iload 4, 2) := by decide +kernel
theorem dX9_layLake_78 : decode cX9_layLake 78 = .ok (.iload_n 3, 1) := by decide +kernel
theorem dX9_layLake_79 : decode cX9_layLake 79 = .ok (.iconst 4, 1) := by decide +kernel
theorem dX9_layLake_80 : decode cX9_layLake 80 = .ok (.irem, 1) := by decide +kernel
theorem dX9_layLake_81 : decode cX9_layLake 81 = .ok (.invokevirtual 139, 3) := by decide +kernel
theorem dX9_layLake_84 : decode cX9_layLake 84 = .ok (.istore 5, 2) := by decide +kernel
theorem dX9_layLake_86 : decode cX9_layLake 86 = .ok (.iload 5, 2) := by decide +kernel
theorem dX9_layLake_88 : decode cX9_layLake 88 = .ok (.ldc 134, 2) := by decide +kernel
theorem dX9_layLake_90 : decode cX9_layLake 90 = .ok (.if_icmp .eq 13, 3) := by decide +kernel
theorem dX9_layLake_93 : decode cX9_layLake 93 = .ok (.aload_n 0, 1) := by decide +kernel
theorem dX9_layLake_94 : decode cX9_layLake 94 = .ok (.iload_n 1, 1) := by decide +kernel
theorem dX9_layLake_95 : decode cX9_layLake 95 = .ok (.iload 4, 2) := by decide +kernel
theorem dX9_layLake_97 : decode cX9_layLake 97 = .ok (.invokevirtual 153, 3) := by decide +kernel
theorem dX9_layLake_100 : decode cX9_layLake 100 = .ok (.ifCond .eq 8, 3) := by decide +kernel
theorem dX9_layLake_103 : decode cX9_layLake 103 = .ok (.ldc 219, 2) := by decide +kernel
theorem dX9_layLake_105 : decode cX9_layLake 105 = .ok (.goto 37, 3) := by decide +kernel
theorem dX9_layLake_108 : decode cX9_layLake 108 = .ok (.aload_n 0, 1) := by decide +kernel
theorem dX9_layLake_109 : decode cX9_layLake 109 = .ok (.getfield 74, 3) := by decide +kernel
theorem dX9_layLake_112 : decode cX9_layLake 112 = .ok (.iload 5, 2) := by decide +kernel
theorem dX9_layLake_114 : decode cX9_layLake 114 = .ok (.iaload, 1) := by decide +kernel
theorem dX9_layLake_115 : decode cX9_layLake 115 = .ok (.aload_n 0, 1) := by decide +kernel
theorem dX9_layLake_116 : decode cX9_layLake 116 = .ok (.getfield 7, 3) := by decide +kernel
theorem dX9_layLake_119 : decode cX9_layLake 119 = .ok (.iload 4, 2) := by decide +kernel
theorem dX9_layLake_121 : decode cX9_layLake 121 = .ok (.iaload, 1) := by decide +kernel
theorem dX9_layLake_122 : decode cX9_layLake 122 = .ok (.if_icmp .le 13, 3) := by decide +kernel
theorem dX9_layLake_125 : decode cX9_layLake 125 = .ok (.aload_n 0, 1) := by decide +kernel
theorem dX9_layLake_126 : decode cX9_layLake 126 = .ok (.getfield 74, 3) := by decide +kernel
theorem dX9_layLake_129 : decode cX9_layLake 129 = .ok (.iload 5, 2) := by decide +kernel
theorem dX9_layLake_131 : decode cX9_layLake 131 = .ok (.iaload, 1) := by decide +kernel
theorem dX9_layLake_132 : decode cX9_layLake 132 = .ok (.goto 10, 3) := by decide +kernel
theorem dX9_layLake_135 : decode cX9_layLake 135 = .ok (.aload_n 0, 1) := by decide +kernel
theorem dX9_layLake_136 : decode cX9_layLake 136 = .ok (.getfield 7, 3) := by decide +kernel
theorem dX9_layLake_139 : decode cX9_layLake 139 = .ok (.iload 4, 2) := by decide +kernel
theorem dX9_layLake_141 : decode cX9_layLake 141 = .ok (.iaload, 1) := by decide +kernel
theorem dX9_layLake_142 : decode cX9_layLake 142 = .ok (.istore 6, 2) := by decide +kernel
theorem dX9_layLake_144 : decode cX9_layLake 144 = .ok (.iload 6, 2) := by decide +kernel
theorem dX9_layLake_146 : decode cX9_layLake 146 = .ok (.aload_n 0, 1) := by decide +kernel
theorem dX9_layLake_147 : decode cX9_layLake 147 = .ok (.getfield 74, 3) := by decide +kernel
theorem dX9_layLake_150 : decode cX9_layLake 150 = .ok (.iload 4, 2) := by decide +kernel
theorem dX9_layLake_152 : decode cX9_layLake 152 = .ok (.iaload, 1) := by decide +kernel
theorem dX9_layLake_153 : decode cX9_layLake 153 = .ok (.if_icmp .ge 14, 3) := by decide +kernel
theorem dX9_layLake_156 : decode cX9_layLake 156 = .ok (.aload_n 0, 1) := by decide +kernel
theorem dX9_layLake_157 : decode cX9_layLake 157 = .ok (.getfield 74, 3) := by decide +kernel
theorem dX9_layLake_160 : decode cX9_layLake 160 = .ok (.iload 4, 2) := by decide +kernel
theorem dX9_layLake_162 : decode cX9_layLake 162 = .ok (.iload 6, 2) := by decide +kernel
theorem dX9_layLake_164 : decode cX9_layLake 164 = .ok (.iastore, 1) := by decide +kernel
theorem dX9_layLake_165 : decode cX9_layLake 165 = .ok (.iconst 1, 1) := by decide +kernel
theorem dX9_layLake_166 : decode cX9_layLake 166 = .ok (.istore_n 2, 1) := by decide +kernel
theorem dX9_layLake_167 : decode cX9_layLake 167 = .ok (.iinc 3 1, 3) := by decide +kernel
theorem dX9_layLake_170 : decode cX9_layLake 170 = .ok (.goto (-110), 3) := by decide +kernel
theorem dX9_layLake_173 : decode cX9_layLake 173 = .ok (.goto (-121), 3) := by decide +kernel
theorem dX9_layLake_176 : decode cX9_layLake 176 = .ok (.return_, 1) := by decide +kernel
theorem dX9_level_0 : decode cX9_level 0 = .ok (.aload_n 0, 1) := by decide +kernel
theorem dX9_level_1 : decode cX9_level 1 = .ok (.iload_n 1, 1) := by decide +kernel
theorem dX9_level_2 : decode cX9_level 2 = .ok (.invokevirtual 157, 3) := by decide +kernel
theorem dX9_level_5 : decode cX9_level 5 = .ok (.ifCond .eq 11, 3) := by decide +kernel
theorem dX9_level_8 : decode cX9_level 8 = .ok (.aload_n 0, 1) := by decide +kernel
theorem dX9_level_9 : decode cX9_level 9 = .ok (.iload_n 2, 1) := by decide +kernel
theorem dX9_level_10 : decode cX9_level 10 = .ok (.invokevirtual 118, 3) := by decide +kernel
theorem dX9_level_13 : decode cX9_level 13 = .ok (.ifCond .ne 6, 3) := by decide +kernel
theorem dX9_level_16 : decode cX9_level 16 = .ok (.ldc 122, 2) := by decide +kernel
theorem dX9_level_18 : decode cX9_level 18 = .ok (.ireturn, 1) := by decide +kernel
theorem dX9_level_19 : decode cX9_level 19 = .ok (.aload_n 0, 1) := by decide +kernel
theorem dX9_level_20 : decode cX9_level 20 = .ok (.invokevirtual 160, 3) := by decide +kernel
theorem dX9_level_23 : decode cX9_level 23 = .ok (.aload_n 0, 1) := by decide +kernel
theorem dX9_level_24 : decode cX9_level 24 = .ok (.getfield 25, 3) := by decide +kernel
theorem dX9_level_27 : decode cX9_level 27 = .ok (.iload_n 1, 1) := by decide +kernel
theorem dX9_level_28 : decode cX9_level 28 = .ok (.baload, 1) := by decide +kernel
theorem dX9_level_29 : decode cX9_level 29 = .ok (.ifCond .eq 12, 3) := by decide +kernel
theorem dX9_level_32 : decode cX9_level 32 = .ok (.aload_n 0, 1) := by decide +kernel
theorem dX9_level_33 : decode cX9_level 33 = .ok (.iload_n 1, 1) := by decide +kernel
theorem dX9_level_34 : decode cX9_level 34 = .ok (.iload_n 2, 1) := by decide +kernel
theorem dX9_level_35 : decode cX9_level 35 = .ok (.invokevirtual 153, 3) := by decide +kernel
theorem dX9_level_38 : decode cX9_level 38 = .ok (.ifCond .eq 6, 3) := by decide +kernel
theorem dX9_level_41 : decode cX9_level 41 = .ok (.ldc 176, 2) := by decide +kernel
theorem dX9_level_43 : decode cX9_level 43 = .ok (.ireturn, 1) := by decide +kernel
theorem dX9_level_44 : decode cX9_level 44 = .ok (.aload_n 0, 1) := by decide +kernel
theorem dX9_level_45 : decode cX9_level 45 = .ok (.iload_n 1, 1) := by decide +kernel
theorem dX9_level_46 : decode cX9_level 46 = .ok (.invokevirtual 235, 3) := by decide +kernel
theorem dX9_level_49 : decode cX9_level 49 = .ok (.aload_n 0, 1) := by decide +kernel
theorem dX9_level_50 : decode cX9_level 50 = .ok (.getfield 74, 3) := by decide +kernel
theorem dX9_level_53 : decode cX9_level 53 = .ok (.iload_n 2, 1) := by decide +kernel
theorem dX9_level_54 : decode cX9_level 54 = .ok (.iaload, 1) := by decide +kernel
theorem dX9_level_55 : decode cX9_level 55 = .ok (.ldc 219, 2) := by decide +kernel
theorem dX9_level_57 : decode cX9_level 57 = .ok (.if_icmp .ne 8, 3) := by decide +kernel
theorem dX9_level_60 : decode cX9_level 60 = .ok (.ldc 134, 2) := by decide +kernel
theorem dX9_level_62 : decode cX9_level 62 = .ok (.goto 9, 3) := by decide +kernel
theorem dX9_level_65 : decode cX9_level 65 = .ok (.aload_n 0, 1) := by decide +kernel
theorem dX9_level_66 : decode cX9_level 66 = .ok (.getfield 74, 3) := by decide +kernel
theorem dX9_level_69 : decode cX9_level 69 = .ok (.iload_n 2, 1) := by decide +kernel
theorem dX9_level_70 : decode cX9_level 70 = .ok (.iaload, 1) := by decide +kernel
theorem dX9_level_71 : decode cX9_level 71 = .ok (.ireturn, 1) := by decide +kernel
theorem dX9_lake_0 : decode cX9_lake 0 = .ok (.aload_n 0, 1) := by decide +kernel
theorem dX9_lake_1 : decode cX9_lake 1 = .ok (.iload_n 1, 1) := by decide +kernel
theorem dX9_lake_2 : decode cX9_lake 2 = .ok (.invokevirtual 157, 3) := by decide +kernel
theorem dX9_lake_5 : decode cX9_lake 5 = .ok (.ifCond .ne 6, 3) := by decide +kernel
theorem dX9_lake_8 : decode cX9_lake 8 = .ok (.ldc 122, 2) := by decide +kernel
theorem dX9_lake_10 : decode cX9_lake 10 = .ok (.ireturn, 1) := by decide +kernel
theorem dX9_lake_11 : decode cX9_lake 11 = .ok (.aload_n 0, 1) := by decide +kernel
theorem dX9_lake_12 : decode cX9_lake 12 = .ok (.getfield 25, 3) := by decide +kernel
theorem dX9_lake_15 : decode cX9_lake 15 = .ok (.iload_n 1, 1) := by decide +kernel
theorem dX9_lake_16 : decode cX9_lake 16 = .ok (.baload, 1) := by decide +kernel
theorem dX9_lake_17 : decode cX9_lake 17 = .ok (.ifCond .ne 6, 3) := by decide +kernel
theorem dX9_lake_20 : decode cX9_lake 20 = .ok (.ldc 176, 2) := by decide +kernel
theorem dX9_lake_22 : decode cX9_lake 22 = .ok (.ireturn, 1) := by decide +kernel
theorem dX9_lake_23 : decode cX9_lake 23 = .ok (.aload_n 0, 1) := by decide +kernel
theorem dX9_lake_24 : decode cX9_lake 24 = .ok (.invokevirtual 160, 3) := by decide +kernel
theorem dX9_lake_27 : decode cX9_lake 27 = .ok (.aload_n 0, 1) := by decide +kernel
theorem dX9_lake_28 : decode cX9_lake 28 = .ok (.iload_n 1, 1) := by decide +kernel
theorem dX9_lake_29 : decode cX9_lake 29 = .ok (.invokevirtual 235, 3) := by decide +kernel
theorem dX9_lake_32 : decode cX9_lake 32 = .ok (.iconst 0, 1) := by decide +kernel
theorem dX9_lake_33 : decode cX9_lake 33 = .ok (.istore_n 2, 1) := by decide +kernel
theorem dX9_lake_34 : decode cX9_lake 34 = .ok (.iconst 0, 1) := by decide +kernel
theorem dX9_lake_35 : decode cX9_lake 35 = .ok (.istore_n 3, 1) := by decide +kernel
theorem dX9_lake_36 : decode cX9_lake 36 = .ok (.iload_n 3, 1) := by decide +kernel
theorem dX9_lake_37 : decode cX9_lake 37 = .ok (.aload_n 0, 1) := by decide +kernel
theorem dX9_lake_38 : decode cX9_lake 38 = .ok (.invokevirtual 103, 3) := by decide +kernel
theorem dX9_lake_41 : decode cX9_lake 41 = .ok (.if_icmp .ge 40, 3) := by decide +kernel
theorem dX9_lake_44 : decode cX9_lake 44 = .ok (.iload_n 2, 1) := by decide +kernel
theorem dX9_lake_45 : decode cX9_lake 45 = .ok (.aload_n 0, 1) := by decide +kernel
theorem dX9_lake_46 : decode cX9_lake 46 = .ok (.getfield 74, 3) := by decide +kernel
theorem dX9_lake_49 : decode cX9_lake 49 = .ok (.iload_n 3, 1) := by decide +kernel
theorem dX9_lake_50 : decode cX9_lake 50 = .ok (.iaload, 1) := by decide +kernel
theorem dX9_lake_51 : decode cX9_lake 51 = .ok (.ldc 219, 2) := by decide +kernel
theorem dX9_lake_53 : decode cX9_lake 53 = .ok (.if_icmp .ne 7, 3) := by decide +kernel
theorem dX9_lake_56 : decode cX9_lake 56 = .ok (.iconst 0, 1) := by decide +kernel
theorem dX9_lake_57 : decode cX9_lake 57 = .ok (.goto 16, 3) := by decide +kernel
theorem dX9_lake_60 : decode cX9_lake 60 = .ok (.aload_n 0, 1) := by decide +kernel
theorem dX9_lake_61 : decode cX9_lake 61 = .ok (.getfield 74, 3) := by decide +kernel
theorem dX9_lake_64 : decode cX9_lake 64 = .ok (.iload_n 3, 1) := by decide +kernel
theorem dX9_lake_65 : decode cX9_lake 65 = .ok (.iaload, 1) := by decide +kernel
theorem dX9_lake_66 : decode cX9_lake 66 = .ok (.aload_n 0, 1) := by decide +kernel
theorem dX9_lake_67 : decode cX9_lake 67 = .ok (.getfield 7, 3) := by decide +kernel
theorem dX9_lake_70 : decode cX9_lake 70 = .ok (.iload_n 3, 1) := by decide +kernel
theorem dX9_lake_71 : decode cX9_lake 71 = .ok (.iaload, 1) := by decide +kernel
theorem dX9_lake_72 : decode cX9_lake 72 = .ok (.isub, 1) := by decide +kernel
theorem dX9_lake_73 : decode cX9_lake 73 = .ok (.iadd, 1) := by decide +kernel
theorem dX9_lake_74 : decode cX9_lake 74 = .ok (.istore_n 2, 1) := by decide +kernel
theorem dX9_lake_75 : decode cX9_lake 75 = .ok (.iinc 3 1, 3) := by decide +kernel
theorem dX9_lake_78 : decode cX9_lake 78 = .ok (.goto (-42), 3) := by decide +kernel
theorem dX9_lake_81 : decode cX9_lake 81 = .ok (.iload_n 2, 1) := by decide +kernel
theorem dX9_lake_82 : decode cX9_lake 82 = .ok (.ireturn, 1) := by decide +kernel
theorem dX9_sunk_0 : decode cX9_sunk 0 = .ok (.iload_n 1, 1) := by decide +kernel
theorem dX9_sunk_1 : decode cX9_sunk 1 = .ok (.invokestatic 173, 3) := by decide +kernel
theorem dX9_sunk_4 : decode cX9_sunk 4 = .ok (.ifCond .eq 11, 3) := by decide +kernel
theorem dX9_sunk_7 : decode cX9_sunk 7 = .ok (.aload_n 0, 1) := by decide +kernel
theorem dX9_sunk_8 : decode cX9_sunk 8 = .ok (.iload_n 2, 1) := by decide +kernel
theorem dX9_sunk_9 : decode cX9_sunk 9 = .ok (.invokevirtual 118, 3) := by decide +kernel
theorem dX9_sunk_12 : decode cX9_sunk 12 = .ok (.ifCond .ne 6, 3) := by decide +kernel
theorem dX9_sunk_15 : decode cX9_sunk 15 = .ok (.ldc 122, 2) := by decide +kernel
theorem dX9_sunk_17 : decode cX9_sunk 17 = .ok (.ireturn, 1) := by decide +kernel
theorem dX9_sunk_18 : decode cX9_sunk 18 = .ok (.iload_n 3, 1) := by decide +kernel
theorem dX9_sunk_19 : decode cX9_sunk 19 = .ok (.i2l, 1) := by decide +kernel
theorem dX9_sunk_20 : decode cX9_sunk 20 = .ok (.lconst 0, 1) := by decide +kernel
theorem dX9_sunk_21 : decode cX9_sunk 21 = .ok (.aload_n 0, 1) := by decide +kernel
theorem dX9_sunk_22 : decode cX9_sunk 22 = .ok (.getfield 47, 3) := by decide +kernel
theorem dX9_sunk_25 : decode cX9_sunk 25 = .ok (.iload_n 1, 1) := by decide +kernel
theorem dX9_sunk_26 : decode cX9_sunk 26 = .ok (.iaload, 1) := by decide +kernel
theorem dX9_sunk_27 : decode cX9_sunk 27 = .ok (.i2l, 1) := by decide +kernel
theorem dX9_sunk_28 : decode cX9_sunk 28 = .ok (.invokestatic 107, 3) := by decide +kernel
theorem dX9_sunk_31 : decode cX9_sunk 31 = .ok (.ifCond .ne 6, 3) := by decide +kernel
theorem dX9_sunk_34 : decode cX9_sunk 34 = .ok (.ldc 117, 2) := by decide +kernel
theorem dX9_sunk_36 : decode cX9_sunk 36 = .ok (.ireturn, 1) := by decide +kernel
theorem dX9_sunk_37 : decode cX9_sunk 37 = .ok (.aload_n 0, 1) := by decide +kernel
theorem dX9_sunk_38 : decode cX9_sunk 38 = .ok (.iload_n 1, 1) := by decide +kernel
theorem dX9_sunk_39 : decode cX9_sunk 39 = .ok (.invokevirtual 180, 3) := by decide +kernel
theorem dX9_sunk_42 : decode cX9_sunk 42 = .ok (.iconst 0, 1) := by decide +kernel
theorem dX9_sunk_43 : decode cX9_sunk 43 = .ok (.istore 4, 2) := by decide +kernel
theorem dX9_sunk_45 : decode cX9_sunk 45 = .ok (.iconst 0, 1) := by decide +kernel
theorem dX9_sunk_46 : decode cX9_sunk 46 = .ok (.istore 5, 2) := by decide +kernel
theorem dX9_sunk_48 : decode cX9_sunk 48 = .ok (.iload 5, 2) := by decide +kernel
theorem dX9_sunk_50 : decode cX9_sunk 50 = .ok (.iload_n 3, 1) := by decide +kernel
theorem dX9_sunk_51 : decode cX9_sunk 51 = .ok (.if_icmp .ge 68, 3) := by decide +kernel
theorem dX9_sunk_54 : decode cX9_sunk 54 = .ok (.iload 4, 2) := by decide +kernel
theorem dX9_sunk_56 : decode cX9_sunk 56 = .ok (.iconst 2, 1) := by decide +kernel
theorem dX9_sunk_57 : decode cX9_sunk 57 = .ok (.idiv, 1) := by decide +kernel
theorem dX9_sunk_58 : decode cX9_sunk 58 = .ok (.istore 4, 2) := by decide +kernel
theorem dX9_sunk_60 : decode cX9_sunk 60 = .ok (.iload 4, 2) := by decide +kernel
theorem dX9_sunk_62 : decode cX9_sunk 62 = .ok (.aload_n 0, 1) := by decide +kernel
theorem dX9_sunk_63 : decode cX9_sunk 63 = .ok (.getfield 25, 3) := by decide +kernel
theorem dX9_sunk_66 : decode cX9_sunk 66 = .ok (.aload_n 0, 1) := by decide +kernel
theorem dX9_sunk_67 : decode cX9_sunk 67 = .ok (.getfield 53, 3) := by decide +kernel
theorem dX9_sunk_70 : decode cX9_sunk 70 = .ok (.iload 5, 2) := by decide +kernel
theorem dX9_sunk_72 : decode cX9_sunk 72 = .ok (.iaload, 1) := by decide +kernel
theorem dX9_sunk_73 : decode cX9_sunk 73 = .ok (.baload, 1) := by decide +kernel
theorem dX9_sunk_74 : decode cX9_sunk 74 = .ok (.ifCond .eq 35, 3) := by decide +kernel
theorem dX9_sunk_77 : decode cX9_sunk 77 = .ok (.aload_n 0, 1) := by decide +kernel
theorem dX9_sunk_78 : decode cX9_sunk 78 = .ok (.aload_n 0, 1) := by decide +kernel
theorem dX9_sunk_79 : decode cX9_sunk 79 = .ok (.getfield 53, 3) := by decide +kernel
theorem dX9_sunk_82 : decode cX9_sunk 82 = .ok (.iload 5, 2) := by decide +kernel
theorem dX9_sunk_84 : decode cX9_sunk 84 = .ok (.iaload, 1) := by decide +kernel
theorem dX9_sunk_85 : decode cX9_sunk 85 = .ok (.iload_n 2, 1) := by decide +kernel
theorem dX9_sunk_86 : decode cX9_sunk 86 = .ok (.invokevirtual 153, 3) := by decide +kernel
theorem dX9_sunk_89 : decode cX9_sunk 89 = .ok (.ifCond .eq 20, 3) := by decide +kernel
theorem dX9_sunk_92 : decode cX9_sunk 92 = .ok (.aload_n 0, 1) := by decide +kernel
theorem dX9_sunk_93 : decode cX9_sunk 93 = .ok (.aload_n 0, 1) := by decide +kernel
theorem dX9_sunk_94 : decode cX9_sunk 94 = .ok (.getfield 53, 3) := by decide +kernel
theorem dX9_sunk_97 : decode cX9_sunk 97 = .ok (.iload 5, 2) := by decide +kernel
theorem dX9_sunk_99 : decode cX9_sunk 99 = .ok (.iaload, 1) := by decide +kernel
theorem dX9_sunk_100 : decode cX9_sunk 100 = .ok (.iload_n 2, 1) := by decide +kernel
theorem dX9_sunk_101 : decode cX9_sunk 101 = .ok (.invokevirtual 163, 3) := by decide +kernel
theorem dX9_sunk_104 : decode cX9_sunk 104 = .ok (.iconst 4, 1) := by decide +kernel
theorem dX9_sunk_105 : decode cX9_sunk 105 = .ok (.idiv, 1) := by decide +kernel
theorem dX9_sunk_106 : decode cX9_sunk 106 = .ok (.goto 4, 3) := by decide +kernel
theorem dX9_sunk_109 : decode cX9_sunk 109 = .ok (.iconst 0, 1) := by decide +kernel
theorem dX9_sunk_110 : decode cX9_sunk 110 = .ok (.iadd, 1) := by decide +kernel
theorem dX9_sunk_111 : decode cX9_sunk 111 = .ok (.istore 4, 2) := by decide +kernel
theorem dX9_sunk_113 : decode cX9_sunk 113 = .ok (.iinc 5 1, 3) := by decide +kernel
theorem dX9_sunk_116 : decode cX9_sunk 116 = .ok (.goto (-68), 3) := by decide +kernel
theorem dX9_sunk_119 : decode cX9_sunk 119 = .ok (.iload 4, 2) := by decide +kernel
theorem dX9_sunk_121 : decode cX9_sunk 121 = .ok (.ireturn, 1) := by decide +kernel
theorem dX9_isLayer_0 : decode cX9_isLayer 0 = .ok (.iload_n 0, 1) := by decide +kernel
theorem dX9_isLayer_1 : decode cX9_isLayer 1 = .ok (.i2l, 1) := by decide +kernel
theorem dX9_isLayer_2 : decode cX9_isLayer 2 = .ok (.lconst 0, 1) := by decide +kernel
theorem dX9_isLayer_3 : decode cX9_isLayer 3 = .ok (.ldc2_w 111, 3) := by decide +kernel
theorem dX9_isLayer_6 : decode cX9_isLayer 6 = .ok (.invokestatic 107, 3) := by decide +kernel
theorem dX9_isLayer_9 : decode cX9_isLayer 9 = .ok (.ireturn, 1) := by decide +kernel
theorem dX9_over_0 : decode cX9_over 0 = .ok (.iload_n 1, 1) := by decide +kernel
theorem dX9_over_1 : decode cX9_over 1 = .ok (.invokestatic 238, 3) := by decide +kernel
theorem dX9_over_4 : decode cX9_over 4 = .ok (.ifCond .eq 10, 3) := by decide +kernel
theorem dX9_over_7 : decode cX9_over 7 = .ok (.iload_n 2, 1) := by decide +kernel
theorem dX9_over_8 : decode cX9_over 8 = .ok (.invokestatic 238, 3) := by decide +kernel
theorem dX9_over_11 : decode cX9_over 11 = .ok (.ifCond .ne 6, 3) := by decide +kernel
theorem dX9_over_14 : decode cX9_over 14 = .ok (.ldc 122, 2) := by decide +kernel
theorem dX9_over_16 : decode cX9_over 16 = .ok (.ireturn, 1) := by decide +kernel
theorem dX9_over_17 : decode cX9_over 17 = .ok (.iload_n 1, 1) := by decide +kernel
theorem dX9_over_18 : decode cX9_over 18 = .ok (.iload_n 2, 1) := by decide +kernel
theorem dX9_over_19 : decode cX9_over 19 = .ok (.if_icmp .ne 6, 3) := by decide +kernel
theorem dX9_over_22 : decode cX9_over 22 = .ok (.ldc 176, 2) := by decide +kernel
theorem dX9_over_24 : decode cX9_over 24 = .ok (.ireturn, 1) := by decide +kernel
theorem dX9_over_25 : decode cX9_over 25 = .ok (.aload_n 0, 1) := by decide +kernel
theorem dX9_over_26 : decode cX9_over 26 = .ok (.getfield 77, 3) := by decide +kernel
theorem dX9_over_29 : decode cX9_over 29 = .ok (.iload_n 1, 1) := by decide +kernel
theorem dX9_over_30 : decode cX9_over 30 = .ok (.iaload, 1) := by decide +kernel
theorem dX9_over_31 : decode cX9_over 31 = .ok (.iload_n 2, 1) := by decide +kernel
theorem dX9_over_32 : decode cX9_over 32 = .ok (.ishr, 1) := by decide +kernel
theorem dX9_over_33 : decode cX9_over 33 = .ok (.iconst 1, 1) := by decide +kernel
theorem dX9_over_34 : decode cX9_over 34 = .ok (.iand, 1) := by decide +kernel
theorem dX9_over_35 : decode cX9_over 35 = .ok (.istore 4, 2) := by decide +kernel
theorem dX9_over_37 : decode cX9_over 37 = .ok (.aload_n 0, 1) := by decide +kernel
theorem dX9_over_38 : decode cX9_over 38 = .ok (.getfield 77, 3) := by decide +kernel
theorem dX9_over_41 : decode cX9_over 41 = .ok (.iload_n 1, 1) := by decide +kernel
theorem dX9_over_42 : decode cX9_over 42 = .ok (.iload_n 3, 1) := by decide +kernel
theorem dX9_over_43 : decode cX9_over 43 = .ok (.ifCond .eq 16, 3) := by decide +kernel
theorem dX9_over_46 : decode cX9_over 46 = .ok (.aload_n 0, 1) := by decide +kernel
theorem dX9_over_47 : decode cX9_over 47 = .ok (.getfield 77, 3) := by decide +kernel
theorem dX9_over_50 : decode cX9_over 50 = .ok (.iload_n 1, 1) := by decide +kernel
theorem dX9_over_51 : decode cX9_over 51 = .ok (.iaload, 1) := by decide +kernel
theorem dX9_over_52 : decode cX9_over 52 = .ok (.iconst 1, 1) := by decide +kernel
theorem dX9_over_53 : decode cX9_over 53 = .ok (.iload_n 2, 1) := by decide +kernel
theorem dX9_over_54 : decode cX9_over 54 = .ok (.ishl, 1) := by decide +kernel
theorem dX9_over_55 : decode cX9_over 55 = .ok (.ior, 1) := by decide +kernel
theorem dX9_over_56 : decode cX9_over 56 = .ok (.goto 15, 3) := by decide +kernel
theorem dX9_over_59 : decode cX9_over 59 = .ok (.aload_n 0, 1) := by decide +kernel
theorem dX9_over_60 : decode cX9_over 60 = .ok (.getfield 77, 3) := by decide +kernel
theorem dX9_over_63 : decode cX9_over 63 = .ok (.iload_n 1, 1) := by decide +kernel
theorem dX9_over_64 : decode cX9_over 64 = .ok (.iaload, 1) := by decide +kernel
theorem dX9_over_65 : decode cX9_over 65 = .ok (.iconst 1, 1) := by decide +kernel
theorem dX9_over_66 : decode cX9_over 66 = .ok (.iload_n 2, 1) := by decide +kernel
theorem dX9_over_67 : decode cX9_over 67 = .ok (.ishl, 1) := by decide +kernel
theorem dX9_over_68 : decode cX9_over 68 = .ok (.iconst (-1), 1) := by decide +kernel
theorem dX9_over_69 : decode cX9_over 69 = .ok (.ixor, 1) := by decide +kernel
theorem dX9_over_70 : decode cX9_over 70 = .ok (.iand, 1) := by decide +kernel
theorem dX9_over_71 : decode cX9_over 71 = .ok (.iastore, 1) := by decide +kernel
theorem dX9_over_72 : decode cX9_over 72 = .ok (.iload 4, 2) := by decide +kernel
theorem dX9_over_74 : decode cX9_over 74 = .ok (.ireturn, 1) := by decide +kernel
theorem dX9_layUnder_0 : decode cX9_layUnder 0 = .ok (.iconst 0, 1) := by decide +kernel
theorem dX9_layUnder_1 : decode cX9_layUnder 1 = .ok (.istore_n 2, 1) := by decide +kernel
theorem dX9_layUnder_2 : decode cX9_layUnder 2 = .ok (.iload_n 2, 1) := by decide +kernel
theorem dX9_layUnder_3 : decode cX9_layUnder 3 = .ok (.bipush 10, 2) := by decide +kernel
theorem dX9_layUnder_5 : decode cX9_layUnder 5 = .ok (.if_icmp .ge 38, 3) := by decide +kernel
theorem dX9_layUnder_8 : decode cX9_layUnder 8 = .ok (.aload_n 0, 1) := by decide +kernel
theorem dX9_layUnder_9 : decode cX9_layUnder 9 = .ok (.getfield 80, 3) := by decide +kernel
theorem dX9_layUnder_12 : decode cX9_layUnder 12 = .ok (.iload_n 2, 1) := by decide +kernel
theorem dX9_layUnder_13 : decode cX9_layUnder 13 = .ok (.iload_n 1, 1) := by decide +kernel
theorem dX9_layUnder_14 : decode cX9_layUnder 14 = .ok (.iload_n 2, 1) := by decide +kernel
theorem dX9_layUnder_15 : decode cX9_layUnder 15 = .ok (.ishr, 1) := by decide +kernel
theorem dX9_layUnder_16 : decode cX9_layUnder 16 = .ok (.iconst 1, 1) := by decide +kernel
theorem dX9_layUnder_17 : decode cX9_layUnder 17 = .ok (.iand, 1) := by decide +kernel
theorem dX9_layUnder_18 : decode cX9_layUnder 18 = .ok (.iconst 1, 1) := by decide +kernel
theorem dX9_layUnder_19 : decode cX9_layUnder 19 = .ok (.if_icmp .ne 7, 3) := by decide +kernel
theorem dX9_layUnder_22 : decode cX9_layUnder 22 = .ok (.iconst 0, 1) := by decide +kernel
theorem dX9_layUnder_23 : decode cX9_layUnder 23 = .ok (.goto 13, 3) := by decide +kernel
theorem dX9_layUnder_26 : decode cX9_layUnder 26 = .ok (.aload_n 0, 1) := by decide +kernel
theorem dX9_layUnder_27 : decode cX9_layUnder 27 = .ok (.getfield 77, 3) := by decide +kernel
theorem dX9_layUnder_30 : decode cX9_layUnder 30 = .ok (.iload_n 2, 1) := by decide +kernel
theorem dX9_layUnder_31 : decode cX9_layUnder 31 = .ok (.iaload, 1) := by decide +kernel
theorem dX9_layUnder_32 : decode cX9_layUnder 32 = .ok (.iload_n 1, 1) := by decide +kernel
theorem dX9_layUnder_33 : decode cX9_layUnder 33 = .ok (.iconst (-1), 1) := by decide +kernel
theorem dX9_layUnder_34 : decode cX9_layUnder 34 = .ok (.ixor, 1) := by decide +kernel
theorem dX9_layUnder_35 : decode cX9_layUnder 35 = .ok (.iand, 1) := by decide +kernel
theorem dX9_layUnder_36 : decode cX9_layUnder 36 = .ok (.iastore, 1) := by decide +kernel
theorem dX9_layUnder_37 : decode cX9_layUnder 37 = .ok (.iinc 2 1, 3) := by decide +kernel
theorem dX9_layUnder_40 : decode cX9_layUnder 40 = .ok (.goto (-38), 3) := by decide +kernel
theorem dX9_layUnder_43 : decode cX9_layUnder 43 = .ok (.iconst 0, 1) := by decide +kernel
theorem dX9_layUnder_44 : decode cX9_layUnder 44 = .ok (.istore_n 2, 1) := by decide +kernel
theorem dX9_layUnder_45 : decode cX9_layUnder 45 = .ok (.iload_n 2, 1) := by decide +kernel
theorem dX9_layUnder_46 : decode cX9_layUnder 46 = .ok (.sipush 1000, 3) := by decide +kernel
theorem dX9_layUnder_49 : decode cX9_layUnder 49 = .ok (.if_icmp .ge 56, 3) := by decide +kernel
theorem dX9_layUnder_52 : decode cX9_layUnder 52 = .ok (.iload_n 2, 1) := by decide +kernel
theorem dX9_layUnder_53 : decode cX9_layUnder 53 = .ok (.bipush 10, 2) := by decide +kernel
theorem dX9_layUnder_55 : decode cX9_layUnder 55 = .ok (.idiv, 1) := by decide +kernel
theorem dX9_layUnder_56 : decode cX9_layUnder 56 = .ok (.bipush 10, 2) := by decide +kernel
theorem dX9_layUnder_58 : decode cX9_layUnder 58 = .ok (.irem, 1) := by decide +kernel
theorem dX9_layUnder_59 : decode cX9_layUnder 59 = .ok (.istore_n 3, 1) := by decide +kernel
theorem dX9_layUnder_60 : decode cX9_layUnder 60 = .ok (.aload_n 0, 1) := by decide +kernel
theorem dX9_layUnder_61 : decode cX9_layUnder 61 = .ok (.getfield 80, 3) := by decide +kernel
theorem dX9_layUnder_64 : decode cX9_layUnder 64 = .ok (.iload_n 3, 1) := by decide +kernel
theorem dX9_layUnder_65 : decode cX9_layUnder 65 = .ok (.dup2, 1) := by decide +kernel
theorem dX9_layUnder_66 : decode cX9_layUnder 66 = .ok (.iaload, 1) := by decide +kernel
theorem dX9_layUnder_67 : decode cX9_layUnder 67 = .ok (.aload_n 0, 1) := by decide +kernel
theorem dX9_layUnder_68 : decode cX9_layUnder 68 = .ok (.getfield 80, 3) := by decide +kernel
theorem dX9_layUnder_71 : decode cX9_layUnder 71 = .ok (.iload_n 3, 1) := by decide +kernel
theorem dX9_layUnder_72 : decode cX9_layUnder 72 = .ok (.iaload, 1) := by decide +kernel
theorem dX9_layUnder_73 : decode cX9_layUnder 73 = .ok (.iload_n 2, 1) := by decide +kernel
theorem dX9_layUnder_74 : decode cX9_layUnder 74 = .ok (.bipush 10, 2) := by decide +kernel
theorem dX9_layUnder_76 : decode cX9_layUnder 76 = .ok (.irem, 1) := by decide +kernel
theorem dX9_layUnder_77 : decode cX9_layUnder 77 = .ok (.ishr, 1) := by decide +kernel
theorem dX9_layUnder_78 : decode cX9_layUnder 78 = .ok (.iconst 1, 1) := by decide +kernel
theorem dX9_layUnder_79 : decode cX9_layUnder 79 = .ok (.iand, 1) := by decide +kernel
theorem dX9_layUnder_80 : decode cX9_layUnder 80 = .ok (.iconst 1, 1) := by decide +kernel
theorem dX9_layUnder_81 : decode cX9_layUnder 81 = .ok (.if_icmp .ne 15, 3) := by decide +kernel
theorem dX9_layUnder_84 : decode cX9_layUnder 84 = .ok (.aload_n 0, 1) := by decide +kernel
theorem dX9_layUnder_85 : decode cX9_layUnder 85 = .ok (.getfield 80, 3) := by decide +kernel
theorem dX9_layUnder_88 : decode cX9_layUnder 88 = .ok (.iload_n 2, 1) := by decide +kernel
theorem dX9_layUnder_89 : decode cX9_layUnder 89 = .ok (.bipush 10, 2) := by decide +kernel
theorem dX9_layUnder_91 : decode cX9_layUnder 91 = .ok (.irem, 1) := by decide +kernel
theorem dX9_layUnder_92 : decode cX9_layUnder 92 = .ok (.iaload, 1) := by decide +kernel
theorem dX9_layUnder_93 : decode cX9_layUnder 93 = .ok (.goto 4, 3) := by decide +kernel
theorem dX9_layUnder_96 : decode cX9_layUnder 96 = .ok (.iconst 0, 1) := by decide +kernel
theorem dX9_layUnder_97 : decode cX9_layUnder 97 = .ok (.ior, 1) := by decide +kernel
theorem dX9_layUnder_98 : decode cX9_layUnder 98 = .ok (.iastore, 1) := by decide +kernel
theorem dX9_layUnder_99 : decode cX9_layUnder 99 = .ok (.iinc 2 1, 3) := by decide +kernel
theorem dX9_layUnder_102 : decode cX9_layUnder 102 = .ok (.goto (-57), 3) := by decide +kernel
theorem dX9_layUnder_105 : decode cX9_layUnder 105 = .ok (.iconst 0, 1) := by decide +kernel
theorem dX9_layUnder_106 : decode cX9_layUnder 106 = .ok (.istore_n 2, 1) := by decide +kernel
theorem dX9_layUnder_107 : decode cX9_layUnder 107 = .ok (.iconst 0, 1) := by decide +kernel
theorem dX9_layUnder_108 : decode cX9_layUnder 108 = .ok (.istore_n 3, 1) := by decide +kernel
theorem dX9_layUnder_109 : decode cX9_layUnder 109 = .ok (.iload_n 3, 1) := by decide +kernel
theorem dX9_layUnder_110 : decode cX9_layUnder 110 = .ok (.bipush 10, 2) := by decide +kernel
theorem dX9_layUnder_112 : decode cX9_layUnder 112 = .ok (.if_icmp .ge 22, 3) := by decide +kernel
theorem dX9_layUnder_115 : decode cX9_layUnder 115 = .ok (.iload_n 2, 1) := by decide +kernel
theorem dX9_layUnder_116 : decode cX9_layUnder 116 = .ok (.aload_n 0, 1) := by decide +kernel
theorem dX9_layUnder_117 : decode cX9_layUnder 117 = .ok (.getfield 80, 3) := by decide +kernel
theorem dX9_layUnder_120 : decode cX9_layUnder 120 = .ok (.iload_n 3, 1) := by decide +kernel
theorem dX9_layUnder_121 : decode cX9_layUnder 121 = .ok (.iaload, 1) := by decide +kernel
theorem dX9_layUnder_122 : decode cX9_layUnder 122 = .ok (.iload_n 3, 1) := by decide +kernel
theorem dX9_layUnder_123 : decode cX9_layUnder 123 = .ok (.ishr, 1) := by decide +kernel
theorem dX9_layUnder_124 : decode cX9_layUnder 124 = .ok (.iconst 1, 1) := by decide +kernel
theorem dX9_layUnder_125 : decode cX9_layUnder 125 = .ok (.iand, 1) := by decide +kernel
theorem dX9_layUnder_126 : decode cX9_layUnder 126 = .ok (.iadd, 1) := by decide +kernel
theorem dX9_layUnder_127 : decode cX9_layUnder 127 = .ok (.istore_n 2, 1) := by decide +kernel
theorem dX9_layUnder_128 : decode cX9_layUnder 128 = .ok (.iinc 3 1, 3) := by decide +kernel
theorem dX9_layUnder_131 : decode cX9_layUnder 131 = .ok (.goto (-22), 3) := by decide +kernel
theorem dX9_layUnder_134 : decode cX9_layUnder 134 = .ok (.iload_n 2, 1) := by decide +kernel
theorem dX9_layUnder_135 : decode cX9_layUnder 135 = .ok (.ireturn, 1) := by decide +kernel
theorem dX9_above_0 : decode cX9_above 0 = .ok (.iload_n 1, 1) := by decide +kernel
theorem dX9_above_1 : decode cX9_above 1 = .ok (.invokestatic 238, 3) := by decide +kernel
theorem dX9_above_4 : decode cX9_above 4 = .ok (.ifCond .eq 10, 3) := by decide +kernel
theorem dX9_above_7 : decode cX9_above 7 = .ok (.iload_n 2, 1) := by decide +kernel
theorem dX9_above_8 : decode cX9_above 8 = .ok (.invokestatic 238, 3) := by decide +kernel
theorem dX9_above_11 : decode cX9_above 11 = .ok (.ifCond .ne 6, 3) := by decide +kernel
theorem dX9_above_14 : decode cX9_above 14 = .ok (.ldc 122, 2) := by decide +kernel
theorem dX9_above_16 : decode cX9_above 16 = .ok (.ireturn, 1) := by decide +kernel
theorem dX9_above_17 : decode cX9_above 17 = .ok (.aload_n 0, 1) := by decide +kernel
theorem dX9_above_18 : decode cX9_above 18 = .ok (.iconst 0, 1) := by decide +kernel
theorem dX9_above_19 : decode cX9_above 19 = .ok (.invokevirtual 241, 3) := by decide +kernel
theorem dX9_above_22 : decode cX9_above 22 = .ok (.istore_n 3, 1) := by decide +kernel
theorem dX9_above_23 : decode cX9_above 23 = .ok (.aload_n 0, 1) := by decide +kernel
theorem dX9_above_24 : decode cX9_above 24 = .ok (.getfield 80, 3) := by decide +kernel
theorem dX9_above_27 : decode cX9_above 27 = .ok (.iload_n 1, 1) := by decide +kernel
theorem dX9_above_28 : decode cX9_above 28 = .ok (.iaload, 1) := by decide +kernel
theorem dX9_above_29 : decode cX9_above 29 = .ok (.iload_n 2, 1) := by decide +kernel
theorem dX9_above_30 : decode cX9_above 30 = .ok (.ishr, 1) := by decide +kernel
theorem dX9_above_31 : decode cX9_above 31 = .ok (.iconst 1, 1) := by decide +kernel
theorem dX9_above_32 : decode cX9_above 32 = .ok (.iand, 1) := by decide +kernel
theorem dX9_above_33 : decode cX9_above 33 = .ok (.ireturn, 1) := by decide +kernel
theorem dX9_ring_0 : decode cX9_ring 0 = .ok (.aload_n 0, 1) := by decide +kernel
theorem dX9_ring_1 : decode cX9_ring 1 = .ok (.iconst 0, 1) := by decide +kernel
theorem dX9_ring_2 : decode cX9_ring 2 = .ok (.invokevirtual 241, 3) := by decide +kernel
theorem dX9_ring_5 : decode cX9_ring 5 = .ok (.ireturn, 1) := by decide +kernel
theorem dX9_ones_0 : decode cX9_ones 0 = .ok (.iconst 0, 1) := by decide +kernel
theorem dX9_ones_1 : decode cX9_ones 1 = .ok (.istore_n 1, 1) := by decide +kernel
theorem dX9_ones_2 : decode cX9_ones 2 = .ok (.iconst 0, 1) := by decide +kernel
theorem dX9_ones_3 : decode cX9_ones 3 = .ok (.istore_n 2, 1) := by decide +kernel
theorem dX9_ones_4 : decode cX9_ones 4 = .ok (.iload_n 2, 1) := by decide +kernel
theorem dX9_ones_5 : decode cX9_ones 5 = .ok (.bipush 10, 2) := by decide +kernel
theorem dX9_ones_7 : decode cX9_ones 7 = .ok (.if_icmp .ge 17, 3) := by decide +kernel
theorem dX9_ones_10 : decode cX9_ones 10 = .ok (.iload_n 1, 1) := by decide +kernel
theorem dX9_ones_11 : decode cX9_ones 11 = .ok (.iload_n 0, 1) := by decide +kernel
theorem dX9_ones_12 : decode cX9_ones 12 = .ok (.iload_n 2, 1) := by decide +kernel
theorem dX9_ones_13 : decode cX9_ones 13 = .ok (.ishr, 1) := by decide +kernel
theorem dX9_ones_14 : decode cX9_ones 14 = .ok (.iconst 1, 1) := by decide +kernel
theorem dX9_ones_15 : decode cX9_ones 15 = .ok (.iand, 1) := by decide +kernel
theorem dX9_ones_16 : decode cX9_ones 16 = .ok (.iadd, 1) := by decide +kernel
theorem dX9_ones_17 : decode cX9_ones 17 = .ok (.istore_n 1, 1) := by decide +kernel
theorem dX9_ones_18 : decode cX9_ones 18 = .ok (.iinc 2 1, 3) := by decide +kernel
theorem dX9_ones_21 : decode cX9_ones 21 = .ok (.goto (-17), 3) := by decide +kernel
theorem dX9_ones_24 : decode cX9_ones 24 = .ok (.iload_n 1, 1) := by decide +kernel
theorem dX9_ones_25 : decode cX9_ones 25 = .ok (.ireturn, 1) := by decide +kernel
theorem dX9_fewest_0 : decode cX9_fewest 0 = .ok (.sipush 1023, 3) := by decide +kernel
theorem dX9_fewest_3 : decode cX9_fewest 3 = .ok (.istore_n 1, 1) := by decide +kernel
theorem dX9_fewest_4 : decode cX9_fewest 4 = .ok (.iconst 0, 1) := by decide +kernel
theorem dX9_fewest_5 : decode cX9_fewest 5 = .ok (.istore_n 2, 1) := by decide +kernel
theorem dX9_fewest_6 : decode cX9_fewest 6 = .ok (.iload_n 2, 1) := by decide +kernel
theorem dX9_fewest_7 : decode cX9_fewest 7 = .ok (.sipush 1023, 3) := by decide +kernel
theorem dX9_fewest_10 : decode cX9_fewest 10 = .ok (.if_icmp .ge 82, 3) := by decide +kernel
theorem dX9_fewest_13 : decode cX9_fewest 13 = .ok (.iload_n 2, 1) := by decide +kernel
theorem dX9_fewest_14 : decode cX9_fewest 14 = .ok (.iload_n 1, 1) := by decide +kernel
theorem dX9_fewest_15 : decode cX9_fewest 15 = .ok (.ixor, 1) := by decide +kernel
theorem dX9_fewest_16 : decode cX9_fewest 16 = .ok (.istore_n 3, 1) := by decide +kernel
theorem dX9_fewest_17 : decode cX9_fewest 17 = .ok (.iload_n 2, 1) := by decide +kernel
theorem dX9_fewest_18 : decode cX9_fewest 18 = .ok (.iload_n 3, 1) := by decide +kernel
theorem dX9_fewest_19 : decode cX9_fewest 19 = .ok (.iand, 1) := by decide +kernel
theorem dX9_fewest_20 : decode cX9_fewest 20 = .ok (.iload_n 3, 1) := by decide +kernel
theorem dX9_fewest_21 : decode cX9_fewest 21 = .ok (.ineg, 1) := by decide +kernel
theorem dX9_fewest_22 : decode cX9_fewest 22 = .ok (.iand, 1) := by decide +kernel
theorem dX9_fewest_23 : decode cX9_fewest 23 = .ok (.ifCond .eq 7, 3) := by decide +kernel
theorem dX9_fewest_26 : decode cX9_fewest 26 = .ok (.iconst 1, 1) := by decide +kernel
theorem dX9_fewest_27 : decode cX9_fewest 27 = .ok (.goto 4, 3) := by decide +kernel
theorem dX9_fewest_30 : decode cX9_fewest 30 = .ok (.iconst 0, 1) := by decide +kernel
theorem dX9_fewest_31 : decode cX9_fewest 31 = .ok (.istore 4, 2) := by decide +kernel
theorem dX9_fewest_33 : decode cX9_fewest 33 = .ok (.iload_n 2, 1) := by decide +kernel
theorem dX9_fewest_34 : decode cX9_fewest 34 = .ok (.invokestatic 244, 3) := by decide +kernel
theorem dX9_fewest_37 : decode cX9_fewest 37 = .ok (.iload_n 1, 1) := by decide +kernel
theorem dX9_fewest_38 : decode cX9_fewest 38 = .ok (.invokestatic 244, 3) := by decide +kernel
theorem dX9_fewest_41 : decode cX9_fewest 41 = .ok (.if_icmp .lt 19, 3) := by decide +kernel
theorem dX9_fewest_44 : decode cX9_fewest 44 = .ok (.iload_n 2, 1) := by decide +kernel
theorem dX9_fewest_45 : decode cX9_fewest 45 = .ok (.invokestatic 244, 3) := by decide +kernel
theorem dX9_fewest_48 : decode cX9_fewest 48 = .ok (.iload_n 1, 1) := by decide +kernel
theorem dX9_fewest_49 : decode cX9_fewest 49 = .ok (.invokestatic 244, 3) := by decide +kernel
theorem dX9_fewest_52 : decode cX9_fewest 52 = .ok (.if_icmp .ne 12, 3) := by decide +kernel
theorem dX9_fewest_55 : decode cX9_fewest 55 = .ok (.iload 4, 2) := by decide +kernel
theorem dX9_fewest_57 : decode cX9_fewest 57 = .ok (.ifCond .eq 7, 3) := by decide +kernel
theorem dX9_fewest_60 : decode cX9_fewest 60 = .ok (.iconst 1, 1) := by decide +kernel
theorem dX9_fewest_61 : decode cX9_fewest 61 = .ok (.goto 4, 3) := by decide +kernel
theorem dX9_fewest_64 : decode cX9_fewest 64 = .ok (.iconst 0, 1) := by decide +kernel
theorem dX9_fewest_65 : decode cX9_fewest 65 = .ok (.istore 5, 2) := by decide +kernel
theorem dX9_fewest_67 : decode cX9_fewest 67 = .ok (.iload 5, 2) := by decide +kernel
theorem dX9_fewest_69 : decode cX9_fewest 69 = .ok (.ifCond .eq 15, 3) := by decide +kernel
theorem dX9_fewest_72 : decode cX9_fewest 72 = .ok (.aload_n 0, 1) := by decide +kernel
theorem dX9_fewest_73 : decode cX9_fewest 73 = .ok (.iload_n 2, 1) := by decide +kernel
theorem dX9_fewest_74 : decode cX9_fewest 74 = .ok (.invokevirtual 241, 3) := by decide +kernel
theorem dX9_fewest_77 : decode cX9_fewest 77 = .ok (.ifCond .ne 7, 3) := by decide +kernel
theorem dX9_fewest_80 : decode cX9_fewest 80 = .ok (.iload_n 2, 1) := by decide +kernel
theorem dX9_fewest_81 : decode cX9_fewest 81 = .ok (.goto 4, 3) := by decide +kernel
theorem dX9_fewest_84 : decode cX9_fewest 84 = .ok (.iload_n 1, 1) := by decide +kernel
theorem dX9_fewest_85 : decode cX9_fewest 85 = .ok (.istore_n 1, 1) := by decide +kernel
theorem dX9_fewest_86 : decode cX9_fewest 86 = .ok (.iinc 2 1, 3) := by decide +kernel
theorem dX9_fewest_89 : decode cX9_fewest 89 = .ok (.goto (-83), 3) := by decide +kernel
theorem dX9_fewest_92 : decode cX9_fewest 92 = .ok (.iload_n 1, 1) := by decide +kernel
theorem dX9_fewest_93 : decode cX9_fewest 93 = .ok (.ireturn, 1) := by decide +kernel
theorem dX9_drops_0 : decode cX9_drops 0 = .ok (.aload_n 0, 1) := by decide +kernel
theorem dX9_drops_1 : decode cX9_drops 1 = .ok (.invokevirtual 247, 3) := by decide +kernel
theorem dX9_drops_4 : decode cX9_drops 4 = .ok (.invokestatic 244, 3) := by decide +kernel
theorem dX9_drops_7 : decode cX9_drops 7 = .ok (.ireturn, 1) := by decide +kernel
theorem dX9_drop_0 : decode cX9_drop 0 = .ok (.aload_n 0, 1) := by decide +kernel
theorem dX9_drop_1 : decode cX9_drop 1 = .ok (.invokevirtual 247, 3) := by decide +kernel
theorem dX9_drop_4 : decode cX9_drop 4 = .ok (.istore_n 2, 1) := by decide +kernel
theorem dX9_drop_5 : decode cX9_drop 5 = .ok (.iload_n 1, 1) := by decide +kernel
theorem dX9_drop_6 : decode cX9_drop 6 = .ok (.istore_n 3, 1) := by decide +kernel
theorem dX9_drop_7 : decode cX9_drop 7 = .ok (.iconst 0, 1) := by decide +kernel
theorem dX9_drop_8 : decode cX9_drop 8 = .ok (.istore 4, 2) := by decide +kernel
theorem dX9_drop_10 : decode cX9_drop 10 = .ok (.iload 4, 2) := by decide +kernel
theorem dX9_drop_12 : decode cX9_drop 12 = .ok (.bipush 10, 2) := by decide +kernel
theorem dX9_drop_14 : decode cX9_drop 14 = .ok (.if_icmp .ge 33, 3) := by decide +kernel
theorem dX9_drop_17 : decode cX9_drop 17 = .ok (.iload_n 1, 1) := by decide +kernel
theorem dX9_drop_18 : decode cX9_drop 18 = .ok (.ifCond .lt 29, 3) := by decide +kernel
theorem dX9_drop_21 : decode cX9_drop 21 = .ok (.iload_n 2, 1) := by decide +kernel
theorem dX9_drop_22 : decode cX9_drop 22 = .ok (.iload 4, 2) := by decide +kernel
theorem dX9_drop_24 : decode cX9_drop 24 = .ok (.ishr, 1) := by decide +kernel
theorem dX9_drop_25 : decode cX9_drop 25 = .ok (.iconst 1, 1) := by decide +kernel
theorem dX9_drop_26 : decode cX9_drop 26 = .ok (.iand, 1) := by decide +kernel
theorem dX9_drop_27 : decode cX9_drop 27 = .ok (.iconst 1, 1) := by decide +kernel
theorem dX9_drop_28 : decode cX9_drop 28 = .ok (.if_icmp .ne 13, 3) := by decide +kernel
theorem dX9_drop_31 : decode cX9_drop 31 = .ok (.iload_n 3, 1) := by decide +kernel
theorem dX9_drop_32 : decode cX9_drop 32 = .ok (.ifCond .ne 6, 3) := by decide +kernel
theorem dX9_drop_35 : decode cX9_drop 35 = .ok (.iload 4, 2) := by decide +kernel
theorem dX9_drop_37 : decode cX9_drop 37 = .ok (.ireturn, 1) := by decide +kernel
theorem dX9_drop_38 : decode cX9_drop 38 = .ok (.iinc 3 (-1), 3) := by decide +kernel
theorem dX9_drop_41 : decode cX9_drop 41 = .ok (.iinc 4 1, 3) := by decide +kernel
theorem dX9_drop_44 : decode cX9_drop 44 = .ok (.goto (-34), 3) := by decide +kernel
theorem dX9_drop_47 : decode cX9_drop 47 = .ok (.ldc 134, 2) := by decide +kernel
theorem dX9_drop_49 : decode cX9_drop 49 = .ok (.ireturn, 1) := by decide +kernel
theorem dX9_count_0 : decode cX9_count 0 = .ok (.iconst 0, 1) := by decide +kernel
theorem dX9_count_1 : decode cX9_count 1 = .ok (.istore_n 2, 1) := by decide +kernel
theorem dX9_count_2 : decode cX9_count 2 = .ok (.iconst 0, 1) := by decide +kernel
theorem dX9_count_3 : decode cX9_count 3 = .ok (.istore_n 3, 1) := by decide +kernel
theorem dX9_count_4 : decode cX9_count 4 = .ok (.iload_n 3, 1) := by decide +kernel
theorem dX9_count_5 : decode cX9_count 5 = .ok (.bipush 10, 2) := by decide +kernel
theorem dX9_count_7 : decode cX9_count 7 = .ok (.if_icmp .ge 21, 3) := by decide +kernel
theorem dX9_count_10 : decode cX9_count 10 = .ok (.iload_n 2, 1) := by decide +kernel
theorem dX9_count_11 : decode cX9_count 11 = .ok (.aload_n 0, 1) := by decide +kernel
theorem dX9_count_12 : decode cX9_count 12 = .ok (.getfield 77, 3) := by decide +kernel
theorem dX9_count_15 : decode cX9_count 15 = .ok (.iload_n 3, 1) := by decide +kernel
theorem dX9_count_16 : decode cX9_count 16 = .ok (.iaload, 1) := by decide +kernel
theorem dX9_count_17 : decode cX9_count 17 = .ok (.invokestatic 244, 3) := by decide +kernel
theorem dX9_count_20 : decode cX9_count 20 = .ok (.iadd, 1) := by decide +kernel
theorem dX9_count_21 : decode cX9_count 21 = .ok (.istore_n 2, 1) := by decide +kernel
theorem dX9_count_22 : decode cX9_count 22 = .ok (.iinc 3 1, 3) := by decide +kernel
theorem dX9_count_25 : decode cX9_count 25 = .ok (.goto (-21), 3) := by decide +kernel
theorem dX9_count_28 : decode cX9_count 28 = .ok (.iload_n 1, 1) := by decide +kernel
theorem dX9_count_29 : decode cX9_count 29 = .ok (.tableswitch 57 0 4 #[35, 40, 45, 50, 55], 35) := by decide +kernel
theorem dX9_count_64 : decode cX9_count 64 = .ok (.aload_n 0, 1) := by decide +kernel
theorem dX9_count_65 : decode cX9_count 65 = .ok (.invokevirtual 103, 3) := by decide +kernel
theorem dX9_count_68 : decode cX9_count 68 = .ok (.ireturn, 1) := by decide +kernel
theorem dX9_count_69 : decode cX9_count 69 = .ok (.aload_n 0, 1) := by decide +kernel
theorem dX9_count_70 : decode cX9_count 70 = .ok (.getfield 94, 3) := by decide +kernel
theorem dX9_count_73 : decode cX9_count 73 = .ok (.ireturn, 1) := by decide +kernel
theorem dX9_count_74 : decode cX9_count 74 = .ok (.aload_n 0, 1) := by decide +kernel
theorem dX9_count_75 : decode cX9_count 75 = .ok (.getfield 97, 3) := by decide +kernel
theorem dX9_count_78 : decode cX9_count 78 = .ok (.ireturn, 1) := by decide +kernel
theorem dX9_count_79 : decode cX9_count 79 = .ok (.aload_n 0, 1) := by decide +kernel
theorem dX9_count_80 : decode cX9_count 80 = .ok (.getfield 100, 3) := by decide +kernel
theorem dX9_count_83 : decode cX9_count 83 = .ok (.ireturn, 1) := by decide +kernel
theorem dX9_count_84 : decode cX9_count 84 = .ok (.iload_n 2, 1) := by decide +kernel
theorem dX9_count_85 : decode cX9_count 85 = .ok (.ireturn, 1) := by decide +kernel
theorem dX9_count_86 : decode cX9_count 86 = .ok (.ldc 117, 2) := by decide +kernel
theorem dX9_count_88 : decode cX9_count 88 = .ok (.ireturn, 1) := by decide +kernel
