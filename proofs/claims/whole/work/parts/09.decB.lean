theorem dX8_init_0 : decode cX8_init 0 = .ok (.aload_n 0, 1) := by decide +kernel
theorem dX8_init_1 : decode cX8_init 1 = .ok (.invokespecial 1, 3) := by decide +kernel
theorem dX8_init_4 : decode cX8_init 4 = .ok (.aload_n 0, 1) := by decide +kernel
theorem dX8_init_5 : decode cX8_init 5 = .ok (.new 7, 3) := by decide +kernel
theorem dX8_init_8 : decode cX8_init 8 = .ok (.dup, 1) := by decide +kernel
theorem dX8_init_9 : decode cX8_init 9 = .ok (.invokespecial 9, 3) := by decide +kernel
theorem dX8_init_12 : decode cX8_init 12 = .ok (.putfield 10, 3) := by decide +kernel
theorem dX8_init_15 : decode cX8_init 15 = .ok (.aload_n 0, 1) := by decide +kernel
theorem dX8_init_16 : decode cX8_init 16 = .ok (.new 16, 3) := by decide +kernel
theorem dX8_init_19 : decode cX8_init 19 = .ok (.dup, 1) := by decide +kernel
theorem dX8_init_20 : decode cX8_init 20 = .ok (.invokespecial 18, 3) := by decide +kernel
theorem dX8_init_23 : decode cX8_init 23 = .ok (.putfield 19, 3) := by decide +kernel
theorem dX8_init_26 : decode cX8_init 26 = .ok (.aload_n 0, 1) := by decide +kernel
theorem dX8_init_27 : decode cX8_init 27 = .ok (.new 23, 3) := by decide +kernel
theorem dX8_init_30 : decode cX8_init 30 = .ok (.dup, 1) := by decide +kernel
theorem dX8_init_31 : decode cX8_init 31 = .ok (.aload_n 0, 1) := by decide +kernel
theorem dX8_init_32 : decode cX8_init 32 = .ok (.getfield 10, 3) := by decide +kernel
theorem dX8_init_35 : decode cX8_init 35 = .ok (.invokespecial 25, 3) := by decide +kernel
theorem dX8_init_38 : decode cX8_init 38 = .ok (.putfield 28, 3) := by decide +kernel
theorem dX8_init_41 : decode cX8_init 41 = .ok (.aload_n 0, 1) := by decide +kernel
theorem dX8_init_42 : decode cX8_init 42 = .ok (.new 32, 3) := by decide +kernel
theorem dX8_init_45 : decode cX8_init 45 = .ok (.dup, 1) := by decide +kernel
theorem dX8_init_46 : decode cX8_init 46 = .ok (.invokespecial 34, 3) := by decide +kernel
theorem dX8_init_49 : decode cX8_init 49 = .ok (.putfield 35, 3) := by decide +kernel
theorem dX8_init_52 : decode cX8_init 52 = .ok (.aload_n 0, 1) := by decide +kernel
theorem dX8_init_53 : decode cX8_init 53 = .ok (.new 32, 3) := by decide +kernel
theorem dX8_init_56 : decode cX8_init 56 = .ok (.dup, 1) := by decide +kernel
theorem dX8_init_57 : decode cX8_init 57 = .ok (.invokespecial 34, 3) := by decide +kernel
theorem dX8_init_60 : decode cX8_init 60 = .ok (.putfield 39, 3) := by decide +kernel
theorem dX8_init_63 : decode cX8_init 63 = .ok (.aload_n 0, 1) := by decide +kernel
theorem dX8_init_64 : decode cX8_init 64 = .ok (.new 32, 3) := by decide +kernel
theorem dX8_init_67 : decode cX8_init 67 = .ok (.dup, 1) := by decide +kernel
theorem dX8_init_68 : decode cX8_init 68 = .ok (.invokespecial 34, 3) := by decide +kernel
theorem dX8_init_71 : decode cX8_init 71 = .ok (.putfield 42, 3) := by decide +kernel
theorem dX8_init_74 : decode cX8_init 74 = .ok (.aload_n 0, 1) := by decide +kernel
theorem dX8_init_75 : decode cX8_init 75 = .ok (.new 45, 3) := by decide +kernel
theorem dX8_init_78 : decode cX8_init 78 = .ok (.dup, 1) := by decide +kernel
theorem dX8_init_79 : decode cX8_init 79 = .ok (.aload_n 0, 1) := by decide +kernel
theorem dX8_init_80 : decode cX8_init 80 = .ok (.getfield 10, 3) := by decide +kernel
theorem dX8_init_83 : decode cX8_init 83 = .ok (.aload_n 0, 1) := by decide +kernel
theorem dX8_init_84 : decode cX8_init 84 = .ok (.getfield 19, 3) := by decide +kernel
theorem dX8_init_87 : decode cX8_init 87 = .ok (.aload_n 0, 1) := by decide +kernel
theorem dX8_init_88 : decode cX8_init 88 = .ok (.getfield 28, 3) := by decide +kernel
theorem dX8_init_91 : decode cX8_init 91 = .ok (.invokespecial 47, 3) := by decide +kernel
theorem dX8_init_94 : decode cX8_init 94 = .ok (.putfield 50, 3) := by decide +kernel
theorem dX8_init_97 : decode cX8_init 97 = .ok (.aload_n 0, 1) := by decide +kernel
theorem dX8_init_98 : decode cX8_init 98 = .ok (.new 54, 3) := by decide +kernel
theorem dX8_init_101 : decode cX8_init 101 = .ok (.dup, 1) := by decide +kernel
theorem dX8_init_102 : decode cX8_init 102 = .ok (.aload_n 0, 1) := by decide +kernel
theorem dX8_init_103 : decode cX8_init 103 = .ok (.getfield 28, 3) := by decide +kernel
theorem dX8_init_106 : decode cX8_init 106 = .ok (.aload_n 0, 1) := by decide +kernel
theorem dX8_init_107 : decode cX8_init 107 = .ok (.getfield 50, 3) := by decide +kernel
theorem dX8_init_110 : decode cX8_init 110 = .ok (.invokespecial 56, 3) := by decide +kernel
theorem dX8_init_113 : decode cX8_init 113 = .ok (.putfield 59, 3) := by decide +kernel
theorem dX8_init_116 : decode cX8_init 116 = .ok (.aload_n 0, 1) := by decide +kernel
theorem dX8_init_117 : decode cX8_init 117 = .ok (.new 63, 3) := by decide +kernel
theorem dX8_init_120 : decode cX8_init 120 = .ok (.dup, 1) := by decide +kernel
theorem dX8_init_121 : decode cX8_init 121 = .ok (.aload_n 0, 1) := by decide +kernel
theorem dX8_init_122 : decode cX8_init 122 = .ok (.getfield 10, 3) := by decide +kernel
theorem dX8_init_125 : decode cX8_init 125 = .ok (.aload_n 0, 1) := by decide +kernel
theorem dX8_init_126 : decode cX8_init 126 = .ok (.getfield 28, 3) := by decide +kernel
theorem dX8_init_129 : decode cX8_init 129 = .ok (.invokespecial 65, 3) := by decide +kernel
theorem dX8_init_132 : decode cX8_init 132 = .ok (.putfield 68, 3) := by decide +kernel
theorem dX8_init_135 : decode cX8_init 135 = .ok (.aload_n 0, 1) := by decide +kernel
theorem dX8_init_136 : decode cX8_init 136 = .ok (.new 72, 3) := by decide +kernel
theorem dX8_init_139 : decode cX8_init 139 = .ok (.dup, 1) := by decide +kernel
theorem dX8_init_140 : decode cX8_init 140 = .ok (.invokespecial 74, 3) := by decide +kernel
theorem dX8_init_143 : decode cX8_init 143 = .ok (.putfield 75, 3) := by decide +kernel
theorem dX8_init_146 : decode cX8_init 146 = .ok (.return_, 1) := by decide +kernel
theorem dX8_land_0 : decode cX8_land 0 = .ok (.iload_n 1, 1) := by decide +kernel
theorem dX8_land_1 : decode cX8_land 1 = .ok (.iconst 2, 1) := by decide +kernel
theorem dX8_land_2 : decode cX8_land 2 = .ok (.bipush 6, 2) := by decide +kernel
theorem dX8_land_4 : decode cX8_land 4 = .ok (.invokestatic 79, 3) := by decide +kernel
theorem dX8_land_7 : decode cX8_land 7 = .ok (.ifCond .eq 13, 3) := by decide +kernel
theorem dX8_land_10 : decode cX8_land 10 = .ok (.iload_n 2, 1) := by decide +kernel
theorem dX8_land_11 : decode cX8_land 11 = .ok (.iconst 2, 1) := by decide +kernel
theorem dX8_land_12 : decode cX8_land 12 = .ok (.bipush 6, 2) := by decide +kernel
theorem dX8_land_14 : decode cX8_land 14 = .ok (.invokestatic 79, 3) := by decide +kernel
theorem dX8_land_17 : decode cX8_land 17 = .ok (.ifCond .ne 6, 3) := by decide +kernel
theorem dX8_land_20 : decode cX8_land 20 = .ok (.ldc 83, 2) := by decide +kernel
theorem dX8_land_22 : decode cX8_land 22 = .ok (.ireturn, 1) := by decide +kernel
theorem dX8_land_23 : decode cX8_land 23 = .ok (.aload_n 0, 1) := by decide +kernel
theorem dX8_land_24 : decode cX8_land 24 = .ok (.getfield 10, 3) := by decide +kernel
theorem dX8_land_27 : decode cX8_land 27 = .ok (.iload_n 1, 1) := by decide +kernel
theorem dX8_land_28 : decode cX8_land 28 = .ok (.iload_n 2, 1) := by decide +kernel
theorem dX8_land_29 : decode cX8_land 29 = .ok (.invokevirtual 84, 3) := by decide +kernel
theorem dX8_land_32 : decode cX8_land 32 = .ok (.aload_n 0, 1) := by decide +kernel
theorem dX8_land_33 : decode cX8_land 33 = .ok (.getfield 19, 3) := by decide +kernel
theorem dX8_land_36 : decode cX8_land 36 = .ok (.iconst 0, 1) := by decide +kernel
theorem dX8_land_37 : decode cX8_land 37 = .ok (.putfield 88, 3) := by decide +kernel
theorem dX8_land_40 : decode cX8_land 40 = .ok (.aload_n 0, 1) := by decide +kernel
theorem dX8_land_41 : decode cX8_land 41 = .ok (.getfield 28, 3) := by decide +kernel
theorem dX8_land_44 : decode cX8_land 44 = .ok (.iconst 0, 1) := by decide +kernel
theorem dX8_land_45 : decode cX8_land 45 = .ok (.putfield 92, 3) := by decide +kernel
theorem dX8_land_48 : decode cX8_land 48 = .ok (.aload_n 0, 1) := by decide +kernel
theorem dX8_land_49 : decode cX8_land 49 = .ok (.getfield 50, 3) := by decide +kernel
theorem dX8_land_52 : decode cX8_land 52 = .ok (.iconst 0, 1) := by decide +kernel
theorem dX8_land_53 : decode cX8_land 53 = .ok (.putfield 93, 3) := by decide +kernel
theorem dX8_land_56 : decode cX8_land 56 = .ok (.aload_n 0, 1) := by decide +kernel
theorem dX8_land_57 : decode cX8_land 57 = .ok (.getfield 35, 3) := by decide +kernel
theorem dX8_land_60 : decode cX8_land 60 = .ok (.iconst 0, 1) := by decide +kernel
theorem dX8_land_61 : decode cX8_land 61 = .ok (.putfield 94, 3) := by decide +kernel
theorem dX8_land_64 : decode cX8_land 64 = .ok (.aload_n 0, 1) := by decide +kernel
theorem dX8_land_65 : decode cX8_land 65 = .ok (.getfield 39, 3) := by decide +kernel
theorem dX8_land_68 : decode cX8_land 68 = .ok (.iconst 0, 1) := by decide +kernel
theorem dX8_land_69 : decode cX8_land 69 = .ok (.putfield 94, 3) := by decide +kernel
theorem dX8_land_72 : decode cX8_land 72 = .ok (.aload_n 0, 1) := by decide +kernel
theorem dX8_land_73 : decode cX8_land 73 = .ok (.getfield 42, 3) := by decide +kernel
theorem dX8_land_76 : decode cX8_land 76 = .ok (.iconst 0, 1) := by decide +kernel
theorem dX8_land_77 : decode cX8_land 77 = .ok (.putfield 94, 3) := by decide +kernel
theorem dX8_land_80 : decode cX8_land 80 = .ok (.aload_n 0, 1) := by decide +kernel
theorem dX8_land_81 : decode cX8_land 81 = .ok (.getfield 59, 3) := by decide +kernel
theorem dX8_land_84 : decode cX8_land 84 = .ok (.iconst 1, 1) := by decide +kernel
theorem dX8_land_85 : decode cX8_land 85 = .ok (.putfield 95, 3) := by decide +kernel
theorem dX8_land_88 : decode cX8_land 88 = .ok (.aload_n 0, 1) := by decide +kernel
theorem dX8_land_89 : decode cX8_land 89 = .ok (.getfield 10, 3) := by decide +kernel
theorem dX8_land_92 : decode cX8_land 92 = .ok (.getfield 99, 3) := by decide +kernel
theorem dX8_land_95 : decode cX8_land 95 = .ok (.ireturn, 1) := by decide +kernel
theorem dX8_cell_0 : decode cX8_cell 0 = .ok (.aload_n 0, 1) := by decide +kernel
theorem dX8_cell_1 : decode cX8_cell 1 = .ok (.getfield 10, 3) := by decide +kernel
theorem dX8_cell_4 : decode cX8_cell 4 = .ok (.iload_n 1, 1) := by decide +kernel
theorem dX8_cell_5 : decode cX8_cell 5 = .ok (.invokevirtual 100, 3) := by decide +kernel
theorem dX8_cell_8 : decode cX8_cell 8 = .ok (.ifCond .ne 6, 3) := by decide +kernel
theorem dX8_cell_11 : decode cX8_cell 11 = .ok (.ldc 104, 2) := by decide +kernel
theorem dX8_cell_13 : decode cX8_cell 13 = .ok (.ireturn, 1) := by decide +kernel
theorem dX8_cell_14 : decode cX8_cell 14 = .ok (.iload_n 2, 1) := by decide +kernel
theorem dX8_cell_15 : decode cX8_cell 15 = .ok (.iconst 0, 1) := by decide +kernel
theorem dX8_cell_16 : decode cX8_cell 16 = .ok (.iconst 1, 1) := by decide +kernel
theorem dX8_cell_17 : decode cX8_cell 17 = .ok (.invokestatic 79, 3) := by decide +kernel
theorem dX8_cell_20 : decode cX8_cell 20 = .ok (.ifCond .eq 21, 3) := by decide +kernel
theorem dX8_cell_23 : decode cX8_cell 23 = .ok (.iload_n 3, 1) := by decide +kernel
theorem dX8_cell_24 : decode cX8_cell 24 = .ok (.iconst 0, 1) := by decide +kernel
theorem dX8_cell_25 : decode cX8_cell 25 = .ok (.iload_n 2, 1) := by decide +kernel
theorem dX8_cell_26 : decode cX8_cell 26 = .ok (.ifCond .ne 8, 3) := by decide +kernel
theorem dX8_cell_29 : decode cX8_cell 29 = .ok (.bipush 99, 2) := by decide +kernel
theorem dX8_cell_31 : decode cX8_cell 31 = .ok (.goto 4, 3) := by decide +kernel
theorem dX8_cell_34 : decode cX8_cell 34 = .ok (.iconst 5, 1) := by decide +kernel
theorem dX8_cell_35 : decode cX8_cell 35 = .ok (.invokestatic 79, 3) := by decide +kernel
theorem dX8_cell_38 : decode cX8_cell 38 = .ok (.ifCond .ne 6, 3) := by decide +kernel
theorem dX8_cell_41 : decode cX8_cell 41 = .ok (.ldc 83, 2) := by decide +kernel
theorem dX8_cell_43 : decode cX8_cell 43 = .ok (.ireturn, 1) := by decide +kernel
theorem dX8_cell_44 : decode cX8_cell 44 = .ok (.iload_n 2, 1) := by decide +kernel
theorem dX8_cell_45 : decode cX8_cell 45 = .ok (.ifCond .ne 13, 3) := by decide +kernel
theorem dX8_cell_48 : decode cX8_cell 48 = .ok (.aload_n 0, 1) := by decide +kernel
theorem dX8_cell_49 : decode cX8_cell 49 = .ok (.getfield 10, 3) := by decide +kernel
theorem dX8_cell_52 : decode cX8_cell 52 = .ok (.getfield 105, 3) := by decide +kernel
theorem dX8_cell_55 : decode cX8_cell 55 = .ok (.goto 10, 3) := by decide +kernel
theorem dX8_cell_58 : decode cX8_cell 58 = .ok (.aload_n 0, 1) := by decide +kernel
theorem dX8_cell_59 : decode cX8_cell 59 = .ok (.getfield 10, 3) := by decide +kernel
theorem dX8_cell_62 : decode cX8_cell 62 = .ok (.getfield 109, 3) := by decide +kernel
theorem dX8_cell_65 : decode cX8_cell 65 = .ok (.astore 4, 2) := by decide +kernel
theorem dX8_cell_67 : decode cX8_cell 67 = .ok (.aload 4, 2) := by decide +kernel
theorem dX8_cell_69 : decode cX8_cell 69 = .ok (.iload_n 1, 1) := by decide +kernel
theorem dX8_cell_70 : decode cX8_cell 70 = .ok (.iaload, 1) := by decide +kernel
theorem dX8_cell_71 : decode cX8_cell 71 = .ok (.istore 5, 2) := by decide +kernel
theorem dX8_cell_73 : decode cX8_cell 73 = .ok (.aload 4, 2) := by decide +kernel
theorem dX8_cell_75 : decode cX8_cell 75 = .ok (.iload_n 1, 1) := by decide +kernel
theorem dX8_cell_76 : decode cX8_cell 76 = .ok (.iload_n 3, 1) := by decide +kernel
theorem dX8_cell_77 : decode cX8_cell 77 = .ok (.iastore, 1) := by decide +kernel
theorem dX8_cell_78 : decode cX8_cell 78 = .ok (.iload_n 2, 1) := by decide +kernel
theorem dX8_cell_79 : decode cX8_cell 79 = .ok (.ifCond .ne 16, 3) := by decide +kernel
theorem dX8_cell_82 : decode cX8_cell 82 = .ok (.iload 5, 2) := by decide +kernel
theorem dX8_cell_84 : decode cX8_cell 84 = .ok (.iload_n 3, 1) := by decide +kernel
theorem dX8_cell_85 : decode cX8_cell 85 = .ok (.if_icmp .eq 10, 3) := by decide +kernel
theorem dX8_cell_88 : decode cX8_cell 88 = .ok (.aload_n 0, 1) := by decide +kernel
theorem dX8_cell_89 : decode cX8_cell 89 = .ok (.getfield 28, 3) := by decide +kernel
theorem dX8_cell_92 : decode cX8_cell 92 = .ok (.invokevirtual 112, 3) := by decide +kernel
theorem dX8_cell_95 : decode cX8_cell 95 = .ok (.aload_n 0, 1) := by decide +kernel
theorem dX8_cell_96 : decode cX8_cell 96 = .ok (.getfield 59, 3) := by decide +kernel
theorem dX8_cell_99 : decode cX8_cell 99 = .ok (.iconst 1, 1) := by decide +kernel
theorem dX8_cell_100 : decode cX8_cell 100 = .ok (.putfield 95, 3) := by decide +kernel
theorem dX8_cell_103 : decode cX8_cell 103 = .ok (.iload 5, 2) := by decide +kernel
theorem dX8_cell_105 : decode cX8_cell 105 = .ok (.ireturn, 1) := by decide +kernel
theorem dX8_stone_0 : decode cX8_stone 0 = .ok (.aload_n 0, 1) := by decide +kernel
theorem dX8_stone_1 : decode cX8_stone 1 = .ok (.getfield 10, 3) := by decide +kernel
theorem dX8_stone_4 : decode cX8_stone 4 = .ok (.iload_n 1, 1) := by decide +kernel
theorem dX8_stone_5 : decode cX8_stone 5 = .ok (.invokevirtual 100, 3) := by decide +kernel
theorem dX8_stone_8 : decode cX8_stone 8 = .ok (.ifCond .ne 6, 3) := by decide +kernel
theorem dX8_stone_11 : decode cX8_stone 11 = .ok (.ldc 104, 2) := by decide +kernel
theorem dX8_stone_13 : decode cX8_stone 13 = .ok (.ireturn, 1) := by decide +kernel
theorem dX8_stone_14 : decode cX8_stone 14 = .ok (.iload_n 2, 1) := by decide +kernel
theorem dX8_stone_15 : decode cX8_stone 15 = .ok (.iconst 0, 1) := by decide +kernel
theorem dX8_stone_16 : decode cX8_stone 16 = .ok (.iconst 5, 1) := by decide +kernel
theorem dX8_stone_17 : decode cX8_stone 17 = .ok (.invokestatic 79, 3) := by decide +kernel
theorem dX8_stone_20 : decode cX8_stone 20 = .ok (.ifCond .eq 13, 3) := by decide +kernel
theorem dX8_stone_23 : decode cX8_stone 23 = .ok (.iload_n 3, 1) := by decide +kernel
theorem dX8_stone_24 : decode cX8_stone 24 = .ok (.iconst 1, 1) := by decide +kernel
theorem dX8_stone_25 : decode cX8_stone 25 = .ok (.bipush 9, 2) := by decide +kernel
theorem dX8_stone_27 : decode cX8_stone 27 = .ok (.invokestatic 79, 3) := by decide +kernel
theorem dX8_stone_30 : decode cX8_stone 30 = .ok (.ifCond .ne 6, 3) := by decide +kernel
theorem dX8_stone_33 : decode cX8_stone 33 = .ok (.ldc 83, 2) := by decide +kernel
theorem dX8_stone_35 : decode cX8_stone 35 = .ok (.ireturn, 1) := by decide +kernel
theorem dX8_stone_36 : decode cX8_stone 36 = .ok (.aload_n 0, 1) := by decide +kernel
theorem dX8_stone_37 : decode cX8_stone 37 = .ok (.getfield 19, 3) := by decide +kernel
theorem dX8_stone_40 : decode cX8_stone 40 = .ok (.iload_n 1, 1) := by decide +kernel
theorem dX8_stone_41 : decode cX8_stone 41 = .ok (.iload_n 2, 1) := by decide +kernel
theorem dX8_stone_42 : decode cX8_stone 42 = .ok (.iload_n 3, 1) := by decide +kernel
theorem dX8_stone_43 : decode cX8_stone 43 = .ok (.invokevirtual 115, 3) := by decide +kernel
theorem dX8_stone_46 : decode cX8_stone 46 = .ok (.ireturn, 1) := by decide +kernel
theorem dX8_dug_0 : decode cX8_dug 0 = .ok (.aload_n 0, 1) := by decide +kernel
theorem dX8_dug_1 : decode cX8_dug 1 = .ok (.getfield 19, 3) := by decide +kernel
theorem dX8_dug_4 : decode cX8_dug 4 = .ok (.iload_n 1, 1) := by decide +kernel
theorem dX8_dug_5 : decode cX8_dug 5 = .ok (.invokevirtual 119, 3) := by decide +kernel
theorem dX8_dug_8 : decode cX8_dug 8 = .ok (.ifCond .eq 14, 3) := by decide +kernel
theorem dX8_dug_11 : decode cX8_dug 11 = .ok (.aload_n 0, 1) := by decide +kernel
theorem dX8_dug_12 : decode cX8_dug 12 = .ok (.getfield 10, 3) := by decide +kernel
theorem dX8_dug_15 : decode cX8_dug 15 = .ok (.iload_n 2, 1) := by decide +kernel
theorem dX8_dug_16 : decode cX8_dug 16 = .ok (.invokevirtual 100, 3) := by decide +kernel
theorem dX8_dug_19 : decode cX8_dug 19 = .ok (.ifCond .ne 6, 3) := by decide +kernel
theorem dX8_dug_22 : decode cX8_dug 22 = .ok (.ldc 104, 2) := by decide +kernel
theorem dX8_dug_24 : decode cX8_dug 24 = .ok (.ireturn, 1) := by decide +kernel
theorem dX8_dug_25 : decode cX8_dug 25 = .ok (.aload_n 0, 1) := by decide +kernel
theorem dX8_dug_26 : decode cX8_dug 26 = .ok (.getfield 19, 3) := by decide +kernel
theorem dX8_dug_29 : decode cX8_dug 29 = .ok (.getfield 120, 3) := by decide +kernel
theorem dX8_dug_32 : decode cX8_dug 32 = .ok (.iload_n 1, 1) := by decide +kernel
theorem dX8_dug_33 : decode cX8_dug 33 = .ok (.iaload, 1) := by decide +kernel
theorem dX8_dug_34 : decode cX8_dug 34 = .ok (.istore_n 3, 1) := by decide +kernel
theorem dX8_dug_35 : decode cX8_dug 35 = .ok (.aload_n 0, 1) := by decide +kernel
theorem dX8_dug_36 : decode cX8_dug 36 = .ok (.getfield 19, 3) := by decide +kernel
theorem dX8_dug_39 : decode cX8_dug 39 = .ok (.getfield 120, 3) := by decide +kernel
theorem dX8_dug_42 : decode cX8_dug 42 = .ok (.iload_n 1, 1) := by decide +kernel
theorem dX8_dug_43 : decode cX8_dug 43 = .ok (.iload_n 2, 1) := by decide +kernel
theorem dX8_dug_44 : decode cX8_dug 44 = .ok (.iastore, 1) := by decide +kernel
theorem dX8_dug_45 : decode cX8_dug 45 = .ok (.aload_n 0, 1) := by decide +kernel
theorem dX8_dug_46 : decode cX8_dug 46 = .ok (.getfield 59, 3) := by decide +kernel
theorem dX8_dug_49 : decode cX8_dug 49 = .ok (.iconst 1, 1) := by decide +kernel
theorem dX8_dug_50 : decode cX8_dug 50 = .ok (.putfield 95, 3) := by decide +kernel
theorem dX8_dug_53 : decode cX8_dug 53 = .ok (.iload_n 3, 1) := by decide +kernel
theorem dX8_dug_54 : decode cX8_dug 54 = .ok (.ireturn, 1) := by decide +kernel
theorem dX8_ice_0 : decode cX8_ice 0 = .ok (.aload_n 0, 1) := by decide +kernel
theorem dX8_ice_1 : decode cX8_ice 1 = .ok (.getfield 10, 3) := by decide +kernel
theorem dX8_ice_4 : decode cX8_ice 4 = .ok (.iload_n 1, 1) := by decide +kernel
theorem dX8_ice_5 : decode cX8_ice 5 = .ok (.invokevirtual 100, 3) := by decide +kernel
theorem dX8_ice_8 : decode cX8_ice 8 = .ok (.ifCond .ne 6, 3) := by decide +kernel
theorem dX8_ice_11 : decode cX8_ice 11 = .ok (.ldc 104, 2) := by decide +kernel
theorem dX8_ice_13 : decode cX8_ice 13 = .ok (.ireturn, 1) := by decide +kernel
theorem dX8_ice_14 : decode cX8_ice 14 = .ok (.iload_n 2, 1) := by decide +kernel
theorem dX8_ice_15 : decode cX8_ice 15 = .ok (.iconst 1, 1) := by decide +kernel
theorem dX8_ice_16 : decode cX8_ice 16 = .ok (.sipush 199, 3) := by decide +kernel
theorem dX8_ice_19 : decode cX8_ice 19 = .ok (.invokestatic 79, 3) := by decide +kernel
theorem dX8_ice_22 : decode cX8_ice 22 = .ok (.ifCond .eq 24, 3) := by decide +kernel
theorem dX8_ice_25 : decode cX8_ice 25 = .ok (.iload_n 3, 1) := by decide +kernel
theorem dX8_ice_26 : decode cX8_ice 26 = .ok (.iconst 1, 1) := by decide +kernel
theorem dX8_ice_27 : decode cX8_ice 27 = .ok (.bipush 20, 2) := by decide +kernel
theorem dX8_ice_29 : decode cX8_ice 29 = .ok (.invokestatic 79, 3) := by decide +kernel
theorem dX8_ice_32 : decode cX8_ice 32 = .ok (.ifCond .eq 14, 3) := by decide +kernel
theorem dX8_ice_35 : decode cX8_ice 35 = .ok (.iload 4, 2) := by decide +kernel
theorem dX8_ice_37 : decode cX8_ice 37 = .ok (.iconst 0, 1) := by decide +kernel
theorem dX8_ice_38 : decode cX8_ice 38 = .ok (.bipush 20, 2) := by decide +kernel
theorem dX8_ice_40 : decode cX8_ice 40 = .ok (.invokestatic 79, 3) := by decide +kernel
theorem dX8_ice_43 : decode cX8_ice 43 = .ok (.ifCond .ne 6, 3) := by decide +kernel
theorem dX8_ice_46 : decode cX8_ice 46 = .ok (.ldc 83, 2) := by decide +kernel
theorem dX8_ice_48 : decode cX8_ice 48 = .ok (.ireturn, 1) := by decide +kernel
theorem dX8_ice_49 : decode cX8_ice 49 = .ok (.aload_n 0, 1) := by decide +kernel
theorem dX8_ice_50 : decode cX8_ice 50 = .ok (.getfield 59, 3) := by decide +kernel
theorem dX8_ice_53 : decode cX8_ice 53 = .ok (.iconst 1, 1) := by decide +kernel
theorem dX8_ice_54 : decode cX8_ice 54 = .ok (.putfield 95, 3) := by decide +kernel
theorem dX8_ice_57 : decode cX8_ice 57 = .ok (.aload_n 0, 1) := by decide +kernel
theorem dX8_ice_58 : decode cX8_ice 58 = .ok (.getfield 28, 3) := by decide +kernel
theorem dX8_ice_61 : decode cX8_ice 61 = .ok (.iload_n 1, 1) := by decide +kernel
theorem dX8_ice_62 : decode cX8_ice 62 = .ok (.iload_n 2, 1) := by decide +kernel
theorem dX8_ice_63 : decode cX8_ice 63 = .ok (.iload_n 3, 1) := by decide +kernel
theorem dX8_ice_64 : decode cX8_ice 64 = .ok (.iload 4, 2) := by decide +kernel
theorem dX8_ice_66 : decode cX8_ice 66 = .ok (.invokevirtual 123, 3) := by decide +kernel
theorem dX8_ice_69 : decode cX8_ice 69 = .ok (.ireturn, 1) := by decide +kernel
theorem dX8_flood_0 : decode cX8_flood 0 = .ok (.iload_n 1, 1) := by decide +kernel
theorem dX8_flood_1 : decode cX8_flood 1 = .ok (.iconst 1, 1) := by decide +kernel
theorem dX8_flood_2 : decode cX8_flood 2 = .ok (.bipush 99, 2) := by decide +kernel
theorem dX8_flood_4 : decode cX8_flood 4 = .ok (.invokestatic 79, 3) := by decide +kernel
theorem dX8_flood_7 : decode cX8_flood 7 = .ok (.ifCond .ne 6, 3) := by decide +kernel
theorem dX8_flood_10 : decode cX8_flood 10 = .ok (.ldc 83, 2) := by decide +kernel
theorem dX8_flood_12 : decode cX8_flood 12 = .ok (.ireturn, 1) := by decide +kernel
theorem dX8_flood_13 : decode cX8_flood 13 = .ok (.aload_n 0, 1) := by decide +kernel
theorem dX8_flood_14 : decode cX8_flood 14 = .ok (.getfield 59, 3) := by decide +kernel
theorem dX8_flood_17 : decode cX8_flood 17 = .ok (.iconst 1, 1) := by decide +kernel
theorem dX8_flood_18 : decode cX8_flood 18 = .ok (.putfield 95, 3) := by decide +kernel
theorem dX8_flood_21 : decode cX8_flood 21 = .ok (.aload_n 0, 1) := by decide +kernel
theorem dX8_flood_22 : decode cX8_flood 22 = .ok (.getfield 28, 3) := by decide +kernel
theorem dX8_flood_25 : decode cX8_flood 25 = .ok (.iload_n 1, 1) := by decide +kernel
theorem dX8_flood_26 : decode cX8_flood 26 = .ok (.invokevirtual 127, 3) := by decide +kernel
theorem dX8_flood_29 : decode cX8_flood 29 = .ok (.ireturn, 1) := by decide +kernel
theorem dX8_covers_0 : decode cX8_covers 0 = .ok (.aload_n 0, 1) := by decide +kernel
theorem dX8_covers_1 : decode cX8_covers 1 = .ok (.getfield 28, 3) := by decide +kernel
theorem dX8_covers_4 : decode cX8_covers 4 = .ok (.iload_n 1, 1) := by decide +kernel
theorem dX8_covers_5 : decode cX8_covers 5 = .ok (.invokevirtual 131, 3) := by decide +kernel
theorem dX8_covers_8 : decode cX8_covers 8 = .ok (.ifCond .eq 14, 3) := by decide +kernel
theorem dX8_covers_11 : decode cX8_covers 11 = .ok (.aload_n 0, 1) := by decide +kernel
theorem dX8_covers_12 : decode cX8_covers 12 = .ok (.getfield 28, 3) := by decide +kernel
theorem dX8_covers_15 : decode cX8_covers 15 = .ok (.iload_n 1, 1) := by decide +kernel
theorem dX8_covers_16 : decode cX8_covers 16 = .ok (.invokevirtual 132, 3) := by decide +kernel
theorem dX8_covers_19 : decode cX8_covers 19 = .ok (.goto 5, 3) := by decide +kernel
theorem dX8_covers_22 : decode cX8_covers 22 = .ok (.ldc 104, 2) := by decide +kernel
theorem dX8_covers_24 : decode cX8_covers 24 = .ok (.ireturn, 1) := by decide +kernel
theorem dX8_by_0 : decode cX8_by 0 = .ok (.aload_n 0, 1) := by decide +kernel
theorem dX8_by_1 : decode cX8_by 1 = .ok (.getfield 28, 3) := by decide +kernel
theorem dX8_by_4 : decode cX8_by 4 = .ok (.iload_n 1, 1) := by decide +kernel
theorem dX8_by_5 : decode cX8_by 5 = .ok (.invokevirtual 131, 3) := by decide +kernel
theorem dX8_by_8 : decode cX8_by 8 = .ok (.ifCond .eq 14, 3) := by decide +kernel
theorem dX8_by_11 : decode cX8_by 11 = .ok (.aload_n 0, 1) := by decide +kernel
theorem dX8_by_12 : decode cX8_by 12 = .ok (.getfield 10, 3) := by decide +kernel
theorem dX8_by_15 : decode cX8_by 15 = .ok (.iload_n 2, 1) := by decide +kernel
theorem dX8_by_16 : decode cX8_by 16 = .ok (.invokevirtual 100, 3) := by decide +kernel
theorem dX8_by_19 : decode cX8_by 19 = .ok (.ifCond .ne 6, 3) := by decide +kernel
theorem dX8_by_22 : decode cX8_by 22 = .ok (.ldc 104, 2) := by decide +kernel
theorem dX8_by_24 : decode cX8_by 24 = .ok (.ireturn, 1) := by decide +kernel
theorem dX8_by_25 : decode cX8_by 25 = .ok (.iload_n 3, 1) := by decide +kernel
theorem dX8_by_26 : decode cX8_by 26 = .ok (.tableswitch 153 0 4 #[34, 47, 74, 101, 140], 34) := by decide +kernel
theorem dX8_by_60 : decode cX8_by 60 = .ok (.aload_n 0, 1) := by decide +kernel
theorem dX8_by_61 : decode cX8_by 61 = .ok (.getfield 28, 3) := by decide +kernel
theorem dX8_by_64 : decode cX8_by 64 = .ok (.iload_n 1, 1) := by decide +kernel
theorem dX8_by_65 : decode cX8_by 65 = .ok (.iload_n 2, 1) := by decide +kernel
theorem dX8_by_66 : decode cX8_by 66 = .ok (.invokevirtual 135, 3) := by decide +kernel
theorem dX8_by_69 : decode cX8_by 69 = .ok (.invokestatic 139, 3) := by decide +kernel
theorem dX8_by_72 : decode cX8_by 72 = .ok (.ireturn, 1) := by decide +kernel
theorem dX8_by_73 : decode cX8_by 73 = .ok (.aload_n 0, 1) := by decide +kernel
theorem dX8_by_74 : decode cX8_by 74 = .ok (.getfield 28, 3) := by decide +kernel
theorem dX8_by_77 : decode cX8_by 77 = .ok (.iload_n 1, 1) := by decide +kernel
theorem dX8_by_78 : decode cX8_by 78 = .ok (.iload_n 2, 1) := by decide +kernel
theorem dX8_by_79 : decode cX8_by 79 = .ok (.invokevirtual 143, 3) := by decide +kernel
theorem dX8_by_82 : decode cX8_by 82 = .ok (.ifCond .eq 15, 3) := by decide +kernel
theorem dX8_by_85 : decode cX8_by 85 = .ok (.aload_n 0, 1) := by decide +kernel
theorem dX8_by_86 : decode cX8_by 86 = .ok (.getfield 28, 3) := by decide +kernel
theorem dX8_by_89 : decode cX8_by 89 = .ok (.iload_n 1, 1) := by decide +kernel
theorem dX8_by_90 : decode cX8_by 90 = .ok (.iload_n 2, 1) := by decide +kernel
theorem dX8_by_91 : decode cX8_by 91 = .ok (.invokevirtual 146, 3) := by decide +kernel
theorem dX8_by_94 : decode cX8_by 94 = .ok (.goto 5, 3) := by decide +kernel
theorem dX8_by_97 : decode cX8_by 97 = .ok (.ldc 150, 2) := by decide +kernel
theorem dX8_by_99 : decode cX8_by 99 = .ok (.ireturn, 1) := by decide +kernel
theorem dX8_by_100 : decode cX8_by 100 = .ok (.aload_n 0, 1) := by decide +kernel
theorem dX8_by_101 : decode cX8_by 101 = .ok (.getfield 28, 3) := by decide +kernel
theorem dX8_by_104 : decode cX8_by 104 = .ok (.iload_n 1, 1) := by decide +kernel
theorem dX8_by_105 : decode cX8_by 105 = .ok (.iload_n 2, 1) := by decide +kernel
theorem dX8_by_106 : decode cX8_by 106 = .ok (.invokevirtual 143, 3) := by decide +kernel
theorem dX8_by_109 : decode cX8_by 109 = .ok (.ifCond .eq 15, 3) := by decide +kernel
theorem dX8_by_112 : decode cX8_by 112 = .ok (.aload_n 0, 1) := by decide +kernel
theorem dX8_by_113 : decode cX8_by 113 = .ok (.getfield 28, 3) := by decide +kernel
theorem dX8_by_116 : decode cX8_by 116 = .ok (.iload_n 1, 1) := by decide +kernel
theorem dX8_by_117 : decode cX8_by 117 = .ok (.iload_n 2, 1) := by decide +kernel
theorem dX8_by_118 : decode cX8_by 118 = .ok (.invokevirtual 151, 3) := by decide +kernel
theorem dX8_by_121 : decode cX8_by 121 = .ok (.goto 5, 3) := by decide +kernel
theorem dX8_by_124 : decode cX8_by 124 = .ok (.ldc 150, 2) := by decide +kernel
theorem dX8_by_126 : decode cX8_by 126 = .ok (.ireturn, 1) := by decide +kernel
theorem dX8_by_127 : decode cX8_by 127 = .ok (.aload_n 0, 1) := by decide +kernel
theorem dX8_by_128 : decode cX8_by 128 = .ok (.getfield 28, 3) := by decide +kernel
theorem dX8_by_131 : decode cX8_by 131 = .ok (.iload_n 1, 1) := by decide +kernel
theorem dX8_by_132 : decode cX8_by 132 = .ok (.iload_n 2, 1) := by decide +kernel
theorem dX8_by_133 : decode cX8_by 133 = .ok (.invokevirtual 143, 3) := by decide +kernel
theorem dX8_by_136 : decode cX8_by 136 = .ok (.ifCond .eq 27, 3) := by decide +kernel
theorem dX8_by_139 : decode cX8_by 139 = .ok (.aload_n 0, 1) := by decide +kernel
theorem dX8_by_140 : decode cX8_by 140 = .ok (.getfield 28, 3) := by decide +kernel
theorem dX8_by_143 : decode cX8_by 143 = .ok (.iload_n 1, 1) := by decide +kernel
theorem dX8_by_144 : decode cX8_by 144 = .ok (.iload_n 2, 1) := by decide +kernel
theorem dX8_by_145 : decode cX8_by 145 = .ok (.invokevirtual 154, 3) := by decide +kernel
theorem dX8_by_148 : decode cX8_by 148 = .ok (.ifCond .lt 15, 3) := by decide +kernel
theorem dX8_by_151 : decode cX8_by 151 = .ok (.aload_n 0, 1) := by decide +kernel
theorem dX8_by_152 : decode cX8_by 152 = .ok (.getfield 28, 3) := by decide +kernel
theorem dX8_by_155 : decode cX8_by 155 = .ok (.iload_n 1, 1) := by decide +kernel
theorem dX8_by_156 : decode cX8_by 156 = .ok (.iload_n 2, 1) := by decide +kernel
theorem dX8_by_157 : decode cX8_by 157 = .ok (.invokevirtual 154, 3) := by decide +kernel
theorem dX8_by_160 : decode cX8_by 160 = .ok (.goto 5, 3) := by decide +kernel
theorem dX8_by_163 : decode cX8_by 163 = .ok (.ldc 150, 2) := by decide +kernel
theorem dX8_by_165 : decode cX8_by 165 = .ok (.ireturn, 1) := by decide +kernel
theorem dX8_by_166 : decode cX8_by 166 = .ok (.aload_n 0, 1) := by decide +kernel
theorem dX8_by_167 : decode cX8_by 167 = .ok (.getfield 28, 3) := by decide +kernel
theorem dX8_by_170 : decode cX8_by 170 = .ok (.iload_n 1, 1) := by decide +kernel
theorem dX8_by_171 : decode cX8_by 171 = .ok (.iload_n 2, 1) := by decide +kernel
theorem dX8_by_172 : decode cX8_by 172 = .ok (.invokevirtual 157, 3) := by decide +kernel
theorem dX8_by_175 : decode cX8_by 175 = .ok (.invokestatic 139, 3) := by decide +kernel
theorem dX8_by_178 : decode cX8_by 178 = .ok (.ireturn, 1) := by decide +kernel
theorem dX8_by_179 : decode cX8_by 179 = .ok (.ldc 83, 2) := by decide +kernel
theorem dX8_by_181 : decode cX8_by 181 = .ok (.ireturn, 1) := by decide +kernel
theorem dX8_brings_0 : decode cX8_brings 0 = .ok (.aload_n 0, 1) := by decide +kernel
theorem dX8_brings_1 : decode cX8_brings 1 = .ok (.getfield 28, 3) := by decide +kernel
theorem dX8_brings_4 : decode cX8_brings 4 = .ok (.iload_n 1, 1) := by decide +kernel
theorem dX8_brings_5 : decode cX8_brings 5 = .ok (.invokevirtual 131, 3) := by decide +kernel
theorem dX8_brings_8 : decode cX8_brings 8 = .ok (.ifCond .eq 14, 3) := by decide +kernel
theorem dX8_brings_11 : decode cX8_brings 11 = .ok (.aload_n 0, 1) := by decide +kernel
theorem dX8_brings_12 : decode cX8_brings 12 = .ok (.getfield 10, 3) := by decide +kernel
theorem dX8_brings_15 : decode cX8_brings 15 = .ok (.iload_n 2, 1) := by decide +kernel
theorem dX8_brings_16 : decode cX8_brings 16 = .ok (.invokevirtual 100, 3) := by decide +kernel
theorem dX8_brings_19 : decode cX8_brings 19 = .ok (.ifCond .ne 6, 3) := by decide +kernel
theorem dX8_brings_22 : decode cX8_brings 22 = .ok (.ldc 104, 2) := by decide +kernel
theorem dX8_brings_24 : decode cX8_brings 24 = .ok (.ireturn, 1) := by decide +kernel
theorem dX8_brings_25 : decode cX8_brings 25 = .ok (.iload_n 3, 1) := by decide +kernel
theorem dX8_brings_26 : decode cX8_brings 26 = .ok (.iconst 1, 1) := by decide +kernel
theorem dX8_brings_27 : decode cX8_brings 27 = .ok (.bipush 9, 2) := by decide +kernel
theorem dX8_brings_29 : decode cX8_brings 29 = .ok (.invokestatic 79, 3) := by decide +kernel
theorem dX8_brings_32 : decode cX8_brings 32 = .ok (.ifCond .eq 16, 3) := by decide +kernel
theorem dX8_brings_35 : decode cX8_brings 35 = .ok (.aload_n 0, 1) := by decide +kernel
theorem dX8_brings_36 : decode cX8_brings 36 = .ok (.getfield 28, 3) := by decide +kernel
theorem dX8_brings_39 : decode cX8_brings 39 = .ok (.iload_n 1, 1) := by decide +kernel
theorem dX8_brings_40 : decode cX8_brings 40 = .ok (.iload_n 2, 1) := by decide +kernel
theorem dX8_brings_41 : decode cX8_brings 41 = .ok (.iload_n 3, 1) := by decide +kernel
theorem dX8_brings_42 : decode cX8_brings 42 = .ok (.invokevirtual 160, 3) := by decide +kernel
theorem dX8_brings_45 : decode cX8_brings 45 = .ok (.goto 5, 3) := by decide +kernel
theorem dX8_brings_48 : decode cX8_brings 48 = .ok (.ldc 83, 2) := by decide +kernel
theorem dX8_brings_50 : decode cX8_brings 50 = .ok (.ireturn, 1) := by decide +kernel
theorem dX8_then_0 : decode cX8_then 0 = .ok (.iload_n 1, 1) := by decide +kernel
theorem dX8_then_1 : decode cX8_then 1 = .ok (.invokestatic 163, 3) := by decide +kernel
theorem dX8_then_4 : decode cX8_then 4 = .ok (.ifCond .eq 14, 3) := by decide +kernel
theorem dX8_then_7 : decode cX8_then 7 = .ok (.aload_n 0, 1) := by decide +kernel
theorem dX8_then_8 : decode cX8_then 8 = .ok (.getfield 28, 3) := by decide +kernel
theorem dX8_then_11 : decode cX8_then 11 = .ok (.iload_n 2, 1) := by decide +kernel
theorem dX8_then_12 : decode cX8_then 12 = .ok (.invokevirtual 131, 3) := by decide +kernel
theorem dX8_then_15 : decode cX8_then 15 = .ok (.ifCond .ne 6, 3) := by decide +kernel
theorem dX8_then_18 : decode cX8_then 18 = .ok (.ldc 104, 2) := by decide +kernel
theorem dX8_then_20 : decode cX8_then 20 = .ok (.ireturn, 1) := by decide +kernel
theorem dX8_then_21 : decode cX8_then 21 = .ok (.aload_n 0, 1) := by decide +kernel
theorem dX8_then_22 : decode cX8_then 22 = .ok (.iload_n 1, 1) := by decide +kernel
theorem dX8_then_23 : decode cX8_then 23 = .ok (.invokevirtual 166, 3) := by decide +kernel
theorem dX8_then_26 : decode cX8_then 26 = .ok (.astore_n 3, 1) := by decide +kernel
theorem dX8_then_27 : decode cX8_then 27 = .ok (.aload_n 3, 1) := by decide +kernel
theorem dX8_then_28 : decode cX8_then 28 = .ok (.iload_n 2, 1) := by decide +kernel
theorem dX8_then_29 : decode cX8_then 29 = .ok (.invokevirtual 170, 3) := by decide +kernel
theorem dX8_then_32 : decode cX8_then 32 = .ok (.ifCond .eq 6, 3) := by decide +kernel
theorem dX8_then_35 : decode cX8_then 35 = .ok (.ldc 171, 2) := by decide +kernel
theorem dX8_then_37 : decode cX8_then 37 = .ok (.ireturn, 1) := by decide +kernel
theorem dX8_then_38 : decode cX8_then 38 = .ok (.aload_n 3, 1) := by decide +kernel
theorem dX8_then_39 : decode cX8_then 39 = .ok (.iload_n 2, 1) := by decide +kernel
theorem dX8_then_40 : decode cX8_then 40 = .ok (.invokevirtual 172, 3) := by decide +kernel
theorem dX8_then_43 : decode cX8_then 43 = .ok (.aload_n 3, 1) := by decide +kernel
theorem dX8_then_44 : decode cX8_then 44 = .ok (.getfield 94, 3) := by decide +kernel
theorem dX8_then_47 : decode cX8_then 47 = .ok (.ireturn, 1) := by decide +kernel
theorem dX8_clear_0 : decode cX8_clear 0 = .ok (.iload_n 1, 1) := by decide +kernel
theorem dX8_clear_1 : decode cX8_clear 1 = .ok (.invokestatic 163, 3) := by decide +kernel
theorem dX8_clear_4 : decode cX8_clear 4 = .ok (.ifCond .ne 6, 3) := by decide +kernel
theorem dX8_clear_7 : decode cX8_clear 7 = .ok (.ldc 104, 2) := by decide +kernel
theorem dX8_clear_9 : decode cX8_clear 9 = .ok (.ireturn, 1) := by decide +kernel
theorem dX8_clear_10 : decode cX8_clear 10 = .ok (.aload_n 0, 1) := by decide +kernel
theorem dX8_clear_11 : decode cX8_clear 11 = .ok (.iload_n 1, 1) := by decide +kernel
theorem dX8_clear_12 : decode cX8_clear 12 = .ok (.invokevirtual 166, 3) := by decide +kernel
theorem dX8_clear_15 : decode cX8_clear 15 = .ok (.astore_n 2, 1) := by decide +kernel
theorem dX8_clear_16 : decode cX8_clear 16 = .ok (.aload_n 2, 1) := by decide +kernel
theorem dX8_clear_17 : decode cX8_clear 17 = .ok (.getfield 94, 3) := by decide +kernel
theorem dX8_clear_20 : decode cX8_clear 20 = .ok (.istore_n 3, 1) := by decide +kernel
theorem dX8_clear_21 : decode cX8_clear 21 = .ok (.aload_n 2, 1) := by decide +kernel
theorem dX8_clear_22 : decode cX8_clear 22 = .ok (.iconst 0, 1) := by decide +kernel
theorem dX8_clear_23 : decode cX8_clear 23 = .ok (.putfield 94, 3) := by decide +kernel
theorem dX8_clear_26 : decode cX8_clear 26 = .ok (.iload_n 3, 1) := by decide +kernel
theorem dX8_clear_27 : decode cX8_clear 27 = .ok (.ireturn, 1) := by decide +kernel
theorem dX8_told_0 : decode cX8_told 0 = .ok (.iload_n 1, 1) := by decide +kernel
theorem dX8_told_1 : decode cX8_told 1 = .ok (.invokestatic 163, 3) := by decide +kernel
theorem dX8_told_4 : decode cX8_told 4 = .ok (.ifCond .eq 15, 3) := by decide +kernel
theorem dX8_told_7 : decode cX8_told 7 = .ok (.aload_n 0, 1) := by decide +kernel
theorem dX8_told_8 : decode cX8_told 8 = .ok (.iload_n 1, 1) := by decide +kernel
theorem dX8_told_9 : decode cX8_told 9 = .ok (.invokevirtual 166, 3) := by decide +kernel
theorem dX8_told_12 : decode cX8_told 12 = .ok (.iload_n 2, 1) := by decide +kernel
theorem dX8_told_13 : decode cX8_told 13 = .ok (.invokevirtual 175, 3) := by decide +kernel
theorem dX8_told_16 : decode cX8_told 16 = .ok (.goto 5, 3) := by decide +kernel
theorem dX8_told_19 : decode cX8_told 19 = .ok (.ldc 104, 2) := by decide +kernel
theorem dX8_told_21 : decode cX8_told 21 = .ok (.ireturn, 1) := by decide +kernel
theorem dX8_ends_0 : decode cX8_ends 0 = .ok (.iload_n 1, 1) := by decide +kernel
theorem dX8_ends_1 : decode cX8_ends 1 = .ok (.invokestatic 163, 3) := by decide +kernel
theorem dX8_ends_4 : decode cX8_ends 4 = .ok (.ifCond .eq 14, 3) := by decide +kernel
theorem dX8_ends_7 : decode cX8_ends 7 = .ok (.aload_n 0, 1) := by decide +kernel
theorem dX8_ends_8 : decode cX8_ends 8 = .ok (.getfield 10, 3) := by decide +kernel
theorem dX8_ends_11 : decode cX8_ends 11 = .ok (.iload_n 2, 1) := by decide +kernel
theorem dX8_ends_12 : decode cX8_ends 12 = .ok (.invokevirtual 100, 3) := by decide +kernel
theorem dX8_ends_15 : decode cX8_ends 15 = .ok (.ifCond .ne 6, 3) := by decide +kernel
theorem dX8_ends_18 : decode cX8_ends 18 = .ok (.ldc 104, 2) := by decide +kernel
theorem dX8_ends_20 : decode cX8_ends 20 = .ok (.ireturn, 1) := by decide +kernel
theorem dX8_ends_21 : decode cX8_ends 21 = .ok (.iload_n 3, 1) := by decide +kernel
theorem dX8_ends_22 : decode cX8_ends 22 = .ok (.iconst 1, 1) := by decide +kernel
theorem dX8_ends_23 : decode cX8_ends 23 = .ok (.bipush 9, 2) := by decide +kernel
theorem dX8_ends_25 : decode cX8_ends 25 = .ok (.invokestatic 79, 3) := by decide +kernel
theorem dX8_ends_28 : decode cX8_ends 28 = .ok (.ifCond .eq 20, 3) := by decide +kernel
theorem dX8_ends_31 : decode cX8_ends 31 = .ok (.aload_n 0, 1) := by decide +kernel
theorem dX8_ends_32 : decode cX8_ends 32 = .ok (.getfield 28, 3) := by decide +kernel
theorem dX8_ends_35 : decode cX8_ends 35 = .ok (.aload_n 0, 1) := by decide +kernel
theorem dX8_ends_36 : decode cX8_ends 36 = .ok (.iload_n 1, 1) := by decide +kernel
theorem dX8_ends_37 : decode cX8_ends 37 = .ok (.invokevirtual 166, 3) := by decide +kernel
theorem dX8_ends_40 : decode cX8_ends 40 = .ok (.iload_n 2, 1) := by decide +kernel
theorem dX8_ends_41 : decode cX8_ends 41 = .ok (.iload_n 3, 1) := by decide +kernel
theorem dX8_ends_42 : decode cX8_ends 42 = .ok (.invokevirtual 178, 3) := by decide +kernel
theorem dX8_ends_45 : decode cX8_ends 45 = .ok (.goto 5, 3) := by decide +kernel
theorem dX8_ends_48 : decode cX8_ends 48 = .ok (.ldc 83, 2) := by decide +kernel
theorem dX8_ends_50 : decode cX8_ends 50 = .ok (.ireturn, 1) := by decide +kernel
theorem dX8_whence_0 : decode cX8_whence 0 = .ok (.iload_n 1, 1) := by decide +kernel
theorem dX8_whence_1 : decode cX8_whence 1 = .ok (.invokestatic 163, 3) := by decide +kernel
theorem dX8_whence_4 : decode cX8_whence 4 = .ok (.ifCond .eq 14, 3) := by decide +kernel
theorem dX8_whence_7 : decode cX8_whence 7 = .ok (.aload_n 0, 1) := by decide +kernel
theorem dX8_whence_8 : decode cX8_whence 8 = .ok (.getfield 19, 3) := by decide +kernel
theorem dX8_whence_11 : decode cX8_whence 11 = .ok (.iload_n 2, 1) := by decide +kernel
theorem dX8_whence_12 : decode cX8_whence 12 = .ok (.invokevirtual 119, 3) := by decide +kernel
theorem dX8_whence_15 : decode cX8_whence 15 = .ok (.ifCond .ne 6, 3) := by decide +kernel
theorem dX8_whence_18 : decode cX8_whence 18 = .ok (.ldc 104, 2) := by decide +kernel
theorem dX8_whence_20 : decode cX8_whence 20 = .ok (.ireturn, 1) := by decide +kernel
theorem dX8_whence_21 : decode cX8_whence 21 = .ok (.aload_n 0, 1) := by decide +kernel
theorem dX8_whence_22 : decode cX8_whence 22 = .ok (.iload_n 1, 1) := by decide +kernel
theorem dX8_whence_23 : decode cX8_whence 23 = .ok (.invokevirtual 166, 3) := by decide +kernel
theorem dX8_whence_26 : decode cX8_whence 26 = .ok (.astore_n 3, 1) := by decide +kernel
theorem dX8_whence_27 : decode cX8_whence 27 = .ok (.iconst 0, 1) := by decide +kernel
theorem dX8_whence_28 : decode cX8_whence 28 = .ok (.istore 4, 2) := by decide +kernel
theorem dX8_whence_30 : decode cX8_whence 30 = .ok (.iconst 0, 1) := by decide +kernel
theorem dX8_whence_31 : decode cX8_whence 31 = .ok (.istore 5, 2) := by decide +kernel
theorem dX8_whence_33 : decode cX8_whence 33 = .ok (.iload 5, 2) := by decide +kernel
theorem dX8_whence_35 : decode cX8_whence 35 = .ok (.aload_n 0, 1) := by decide +kernel
theorem dX8_whence_36 : decode cX8_whence 36 = .ok (.getfield 10, 3) := by decide +kernel
theorem dX8_whence_39 : decode cX8_whence 39 = .ok (.getfield 99, 3) := by decide +kernel
theorem dX8_whence_42 : decode cX8_whence 42 = .ok (.if_icmp .ge 28, 3) := by decide +kernel
theorem dX8_whence_45 : decode cX8_whence 45 = .ok (.iload 4, 2) := by decide +kernel
theorem dX8_whence_47 : decode cX8_whence 47 = .ok (.aload_n 0, 1) := by decide +kernel
theorem dX8_whence_48 : decode cX8_whence 48 = .ok (.getfield 50, 3) := by decide +kernel
theorem dX8_whence_51 : decode cX8_whence 51 = .ok (.aload_n 3, 1) := by decide +kernel
theorem dX8_whence_52 : decode cX8_whence 52 = .ok (.iload_n 2, 1) := by decide +kernel
theorem dX8_whence_53 : decode cX8_whence 53 = .ok (.iload 5, 2) := by decide +kernel
theorem dX8_whence_55 : decode cX8_whence 55 = .ok (.invokevirtual 182, 3) := by decide +kernel
theorem dX8_whence_58 : decode cX8_whence 58 = .ok (.invokestatic 139, 3) := by decide +kernel
theorem dX8_whence_61 : decode cX8_whence 61 = .ok (.iadd, 1) := by decide +kernel
theorem dX8_whence_62 : decode cX8_whence 62 = .ok (.istore 4, 2) := by decide +kernel
theorem dX8_whence_64 : decode cX8_whence 64 = .ok (.iinc 5 1, 3) := by decide +kernel
theorem dX8_whence_67 : decode cX8_whence 67 = .ok (.goto (-34), 3) := by decide +kernel
theorem dX8_whence_70 : decode cX8_whence 70 = .ok (.iload 4, 2) := by decide +kernel
theorem dX8_whence_72 : decode cX8_whence 72 = .ok (.ireturn, 1) := by decide +kernel
theorem dX8_from_0 : decode cX8_from 0 = .ok (.iload_n 1, 1) := by decide +kernel
theorem dX8_from_1 : decode cX8_from 1 = .ok (.invokestatic 163, 3) := by decide +kernel
theorem dX8_from_4 : decode cX8_from 4 = .ok (.ifCond .eq 14, 3) := by decide +kernel
theorem dX8_from_7 : decode cX8_from 7 = .ok (.aload_n 0, 1) := by decide +kernel
theorem dX8_from_8 : decode cX8_from 8 = .ok (.getfield 19, 3) := by decide +kernel
theorem dX8_from_11 : decode cX8_from 11 = .ok (.iload_n 2, 1) := by decide +kernel
theorem dX8_from_12 : decode cX8_from 12 = .ok (.invokevirtual 119, 3) := by decide +kernel
theorem dX8_from_15 : decode cX8_from 15 = .ok (.ifCond .ne 6, 3) := by decide +kernel
theorem dX8_from_18 : decode cX8_from 18 = .ok (.ldc 104, 2) := by decide +kernel
theorem dX8_from_20 : decode cX8_from 20 = .ok (.ireturn, 1) := by decide +kernel
theorem dX8_from_21 : decode cX8_from 21 = .ok (.aload_n 0, 1) := by decide +kernel
theorem dX8_from_22 : decode cX8_from 22 = .ok (.iload_n 1, 1) := by decide +kernel
theorem dX8_from_23 : decode cX8_from 23 = .ok (.invokevirtual 166, 3) := by decide +kernel
theorem dX8_from_26 : decode cX8_from 26 = .ok (.astore 4, 2) := by decide +kernel
theorem dX8_from_28 : decode cX8_from 28 = .ok (.iconst 0, 1) := by decide +kernel
theorem dX8_from_29 : decode cX8_from 29 = .ok (.istore 5, 2) := by decide +kernel
theorem dX8_from_31 : decode cX8_from 31 = .ok (.iconst 0, 1) := by decide +kernel
theorem dX8_from_32 : decode cX8_from 32 = .ok (.istore 6, 2) := by decide +kernel
theorem dX8_from_34 : decode cX8_from 34 = .ok (.iload 6, 2) := by decide +kernel
theorem dX8_from_36 : decode cX8_from 36 = .ok (.aload_n 0, 1) := by decide +kernel
theorem dX8_from_37 : decode cX8_from 37 = .ok (.getfield 10, 3) := by decide +kernel
theorem dX8_from_40 : decode cX8_from 40 = .ok (.getfield 99, 3) := by decide +kernel
theorem dX8_from_43 : decode cX8_from 43 = .ok (.if_icmp .ge 36, 3) := by decide +kernel
theorem dX8_from_46 : decode cX8_from 46 = .ok (.aload_n 0, 1) := by decide +kernel
theorem dX8_from_47 : decode cX8_from 47 = .ok (.getfield 50, 3) := by decide +kernel
theorem dX8_from_50 : decode cX8_from 50 = .ok (.aload 4, 2) := by decide +kernel
theorem dX8_from_52 : decode cX8_from 52 = .ok (.iload_n 2, 1) := by decide +kernel
theorem dX8_from_53 : decode cX8_from 53 = .ok (.iload 6, 2) := by decide +kernel
theorem dX8_from_55 : decode cX8_from 55 = .ok (.invokevirtual 182, 3) := by decide +kernel
theorem dX8_from_58 : decode cX8_from 58 = .ok (.ifCond .eq 15, 3) := by decide +kernel
theorem dX8_from_61 : decode cX8_from 61 = .ok (.iload 5, 2) := by decide +kernel
theorem dX8_from_63 : decode cX8_from 63 = .ok (.iload_n 3, 1) := by decide +kernel
theorem dX8_from_64 : decode cX8_from 64 = .ok (.if_icmp .ne 6, 3) := by decide +kernel
theorem dX8_from_67 : decode cX8_from 67 = .ok (.iload 6, 2) := by decide +kernel
theorem dX8_from_69 : decode cX8_from 69 = .ok (.ireturn, 1) := by decide +kernel
theorem dX8_from_70 : decode cX8_from 70 = .ok (.iinc 5 1, 3) := by decide +kernel
theorem dX8_from_73 : decode cX8_from 73 = .ok (.iinc 6 1, 3) := by decide +kernel
theorem dX8_from_76 : decode cX8_from 76 = .ok (.goto (-42), 3) := by decide +kernel
theorem dX8_from_79 : decode cX8_from 79 = .ok (.ldc 150, 2) := by decide +kernel
theorem dX8_from_81 : decode cX8_from 81 = .ok (.ireturn, 1) := by decide +kernel
theorem dX8_sign_0 : decode cX8_sign 0 = .ok (.iload_n 1, 1) := by decide +kernel
theorem dX8_sign_1 : decode cX8_sign 1 = .ok (.iconst 0, 1) := by decide +kernel
theorem dX8_sign_2 : decode cX8_sign 2 = .ok (.iconst 5, 1) := by decide +kernel
theorem dX8_sign_3 : decode cX8_sign 3 = .ok (.invokestatic 79, 3) := by decide +kernel
theorem dX8_sign_6 : decode cX8_sign 6 = .ok (.ifCond .ne 6, 3) := by decide +kernel
theorem dX8_sign_9 : decode cX8_sign 9 = .ok (.ldc 83, 2) := by decide +kernel
theorem dX8_sign_11 : decode cX8_sign 11 = .ok (.ireturn, 1) := by decide +kernel
theorem dX8_sign_12 : decode cX8_sign 12 = .ok (.iload_n 1, 1) := by decide +kernel
theorem dX8_sign_13 : decode cX8_sign 13 = .ok (.iconst 4, 1) := by decide +kernel
theorem dX8_sign_14 : decode cX8_sign 14 = .ok (.if_icmp .ne 17, 3) := by decide +kernel
theorem dX8_sign_17 : decode cX8_sign 17 = .ok (.aload_n 0, 1) := by decide +kernel
theorem dX8_sign_18 : decode cX8_sign 18 = .ok (.getfield 19, 3) := by decide +kernel
theorem dX8_sign_21 : decode cX8_sign 21 = .ok (.iload_n 3, 1) := by decide +kernel
theorem dX8_sign_22 : decode cX8_sign 22 = .ok (.invokevirtual 119, 3) := by decide +kernel
theorem dX8_sign_25 : decode cX8_sign 25 = .ok (.ifCond .ne 20, 3) := by decide +kernel
theorem dX8_sign_28 : decode cX8_sign 28 = .ok (.goto 14, 3) := by decide +kernel
theorem dX8_sign_31 : decode cX8_sign 31 = .ok (.aload_n 0, 1) := by decide +kernel
theorem dX8_sign_32 : decode cX8_sign 32 = .ok (.getfield 10, 3) := by decide +kernel
theorem dX8_sign_35 : decode cX8_sign 35 = .ok (.iload_n 2, 1) := by decide +kernel
theorem dX8_sign_36 : decode cX8_sign 36 = .ok (.invokevirtual 100, 3) := by decide +kernel
theorem dX8_sign_39 : decode cX8_sign 39 = .ok (.ifCond .ne 6, 3) := by decide +kernel
theorem dX8_sign_42 : decode cX8_sign 42 = .ok (.ldc 104, 2) := by decide +kernel
theorem dX8_sign_44 : decode cX8_sign 44 = .ok (.ireturn, 1) := by decide +kernel
theorem dX8_sign_45 : decode cX8_sign 45 = .ok (.iload_n 3, 1) := by decide +kernel
theorem dX8_sign_46 : decode cX8_sign 46 = .ok (.iconst 0, 1) := by decide +kernel
theorem dX8_sign_47 : decode cX8_sign 47 = .ok (.iload_n 1, 1) := by decide +kernel
theorem dX8_sign_48 : decode cX8_sign 48 = .ok (.invokestatic 186, 3) := by decide +kernel
theorem dX8_sign_51 : decode cX8_sign 51 = .ok (.invokestatic 79, 3) := by decide +kernel
theorem dX8_sign_54 : decode cX8_sign 54 = .ok (.ifCond .eq 14, 3) := by decide +kernel
theorem dX8_sign_57 : decode cX8_sign 57 = .ok (.iload 4, 2) := by decide +kernel
theorem dX8_sign_59 : decode cX8_sign 59 = .ok (.iconst 1, 1) := by decide +kernel
theorem dX8_sign_60 : decode cX8_sign 60 = .ok (.bipush 99, 2) := by decide +kernel
theorem dX8_sign_62 : decode cX8_sign 62 = .ok (.invokestatic 79, 3) := by decide +kernel
theorem dX8_sign_65 : decode cX8_sign 65 = .ok (.ifCond .ne 6, 3) := by decide +kernel
theorem dX8_sign_68 : decode cX8_sign 68 = .ok (.ldc 83, 2) := by decide +kernel
theorem dX8_sign_70 : decode cX8_sign 70 = .ok (.ireturn, 1) := by decide +kernel
theorem dX8_sign_71 : decode cX8_sign 71 = .ok (.aload_n 0, 1) := by decide +kernel
theorem dX8_sign_72 : decode cX8_sign 72 = .ok (.getfield 59, 3) := by decide +kernel
theorem dX8_sign_75 : decode cX8_sign 75 = .ok (.iconst 1, 1) := by decide +kernel
theorem dX8_sign_76 : decode cX8_sign 76 = .ok (.putfield 95, 3) := by decide +kernel
theorem dX8_sign_79 : decode cX8_sign 79 = .ok (.aload_n 0, 1) := by decide +kernel
theorem dX8_sign_80 : decode cX8_sign 80 = .ok (.getfield 50, 3) := by decide +kernel
theorem dX8_sign_83 : decode cX8_sign 83 = .ok (.iload_n 1, 1) := by decide +kernel
theorem dX8_sign_84 : decode cX8_sign 84 = .ok (.iload_n 2, 1) := by decide +kernel
theorem dX8_sign_85 : decode cX8_sign 85 = .ok (.iload_n 3, 1) := by decide +kernel
theorem dX8_sign_86 : decode cX8_sign 86 = .ok (.iload 4, 2) := by decide +kernel
theorem dX8_sign_88 : decode cX8_sign 88 = .ok (.invokevirtual 189, 3) := by decide +kernel
theorem dX8_sign_91 : decode cX8_sign 91 = .ok (.ireturn, 1) := by decide +kernel
theorem dX8_forget_0 : decode cX8_forget 0 = .ok (.aload_n 0, 1) := by decide +kernel
theorem dX8_forget_1 : decode cX8_forget 1 = .ok (.getfield 50, 3) := by decide +kernel
theorem dX8_forget_4 : decode cX8_forget 4 = .ok (.iload_n 1, 1) := by decide +kernel
theorem dX8_forget_5 : decode cX8_forget 5 = .ok (.invokevirtual 191, 3) := by decide +kernel
theorem dX8_forget_8 : decode cX8_forget 8 = .ok (.ifCond .ne 6, 3) := by decide +kernel
theorem dX8_forget_11 : decode cX8_forget 11 = .ok (.ldc 104, 2) := by decide +kernel
theorem dX8_forget_13 : decode cX8_forget 13 = .ok (.ireturn, 1) := by decide +kernel
theorem dX8_forget_14 : decode cX8_forget 14 = .ok (.aload_n 0, 1) := by decide +kernel
theorem dX8_forget_15 : decode cX8_forget 15 = .ok (.getfield 59, 3) := by decide +kernel
theorem dX8_forget_18 : decode cX8_forget 18 = .ok (.iconst 1, 1) := by decide +kernel
theorem dX8_forget_19 : decode cX8_forget 19 = .ok (.putfield 95, 3) := by decide +kernel
theorem dX8_forget_22 : decode cX8_forget 22 = .ok (.aload_n 0, 1) := by decide +kernel
theorem dX8_forget_23 : decode cX8_forget 23 = .ok (.getfield 50, 3) := by decide +kernel
theorem dX8_forget_26 : decode cX8_forget 26 = .ok (.iload_n 1, 1) := by decide +kernel
theorem dX8_forget_27 : decode cX8_forget 27 = .ok (.invokevirtual 192, 3) := by decide +kernel
theorem dX8_forget_30 : decode cX8_forget 30 = .ok (.ireturn, 1) := by decide +kernel
theorem dX8_explains_0 : decode cX8_explains 0 = .ok (.iload_n 1, 1) := by decide +kernel
theorem dX8_explains_1 : decode cX8_explains 1 = .ok (.invokestatic 163, 3) := by decide +kernel
theorem dX8_explains_4 : decode cX8_explains 4 = .ok (.ifCond .eq 14, 3) := by decide +kernel
theorem dX8_explains_7 : decode cX8_explains 7 = .ok (.aload_n 0, 1) := by decide +kernel
theorem dX8_explains_8 : decode cX8_explains 8 = .ok (.getfield 50, 3) := by decide +kernel
theorem dX8_explains_11 : decode cX8_explains 11 = .ok (.iload_n 2, 1) := by decide +kernel
theorem dX8_explains_12 : decode cX8_explains 12 = .ok (.invokevirtual 191, 3) := by decide +kernel
theorem dX8_explains_15 : decode cX8_explains 15 = .ok (.ifCond .ne 6, 3) := by decide +kernel
theorem dX8_explains_18 : decode cX8_explains 18 = .ok (.ldc 104, 2) := by decide +kernel
theorem dX8_explains_20 : decode cX8_explains 20 = .ok (.ireturn, 1) := by decide +kernel
theorem dX8_explains_21 : decode cX8_explains 21 = .ok (.aload_n 0, 1) := by decide +kernel
theorem dX8_explains_22 : decode cX8_explains 22 = .ok (.getfield 50, 3) := by decide +kernel
theorem dX8_explains_25 : decode cX8_explains 25 = .ok (.aload_n 0, 1) := by decide +kernel
theorem dX8_explains_26 : decode cX8_explains 26 = .ok (.iload_n 1, 1) := by decide +kernel
theorem dX8_explains_27 : decode cX8_explains 27 = .ok (.invokevirtual 166, 3) := by decide +kernel
theorem dX8_explains_30 : decode cX8_explains 30 = .ok (.iload_n 2, 1) := by decide +kernel
theorem dX8_explains_31 : decode cX8_explains 31 = .ok (.invokevirtual 195, 3) := by decide +kernel
theorem dX8_explains_34 : decode cX8_explains 34 = .ok (.invokestatic 139, 3) := by decide +kernel
theorem dX8_explains_37 : decode cX8_explains 37 = .ok (.ireturn, 1) := by decide +kernel
theorem dX8_costs_0 : decode cX8_costs 0 = .ok (.iload_n 1, 1) := by decide +kernel
theorem dX8_costs_1 : decode cX8_costs 1 = .ok (.invokestatic 163, 3) := by decide +kernel
theorem dX8_costs_4 : decode cX8_costs 4 = .ok (.ifCond .eq 18, 3) := by decide +kernel
theorem dX8_costs_7 : decode cX8_costs 7 = .ok (.aload_n 0, 1) := by decide +kernel
theorem dX8_costs_8 : decode cX8_costs 8 = .ok (.getfield 50, 3) := by decide +kernel
theorem dX8_costs_11 : decode cX8_costs 11 = .ok (.aload_n 0, 1) := by decide +kernel
theorem dX8_costs_12 : decode cX8_costs 12 = .ok (.iload_n 1, 1) := by decide +kernel
theorem dX8_costs_13 : decode cX8_costs 13 = .ok (.invokevirtual 166, 3) := by decide +kernel
theorem dX8_costs_16 : decode cX8_costs 16 = .ok (.invokevirtual 199, 3) := by decide +kernel
theorem dX8_costs_19 : decode cX8_costs 19 = .ok (.goto 5, 3) := by decide +kernel
theorem dX8_costs_22 : decode cX8_costs 22 = .ok (.ldc 104, 2) := by decide +kernel
theorem dX8_costs_24 : decode cX8_costs 24 = .ok (.ireturn, 1) := by decide +kernel
theorem dX8_fits_0 : decode cX8_fits 0 = .ok (.aload_n 0, 1) := by decide +kernel
theorem dX8_fits_1 : decode cX8_fits 1 = .ok (.getfield 59, 3) := by decide +kernel
theorem dX8_fits_4 : decode cX8_fits 4 = .ok (.invokevirtual 203, 3) := by decide +kernel
theorem dX8_fits_7 : decode cX8_fits 7 = .ok (.aload_n 0, 1) := by decide +kernel
theorem dX8_fits_8 : decode cX8_fits 8 = .ok (.getfield 59, 3) := by decide +kernel
theorem dX8_fits_11 : decode cX8_fits 11 = .ok (.getfield 206, 3) := by decide +kernel
theorem dX8_fits_14 : decode cX8_fits 14 = .ok (.ireturn, 1) := by decide +kernel
theorem dX8_best_0 : decode cX8_best 0 = .ok (.aload_n 0, 1) := by decide +kernel
theorem dX8_best_1 : decode cX8_best 1 = .ok (.getfield 59, 3) := by decide +kernel
theorem dX8_best_4 : decode cX8_best 4 = .ok (.invokevirtual 203, 3) := by decide +kernel
theorem dX8_best_7 : decode cX8_best 7 = .ok (.aload_n 0, 1) := by decide +kernel
theorem dX8_best_8 : decode cX8_best 8 = .ok (.getfield 59, 3) := by decide +kernel
theorem dX8_best_11 : decode cX8_best 11 = .ok (.getfield 209, 3) := by decide +kernel
theorem dX8_best_14 : decode cX8_best 14 = .ok (.ireturn, 1) := by decide +kernel
theorem dX8_bestGo_0 : decode cX8_bestGo 0 = .ok (.aload_n 0, 1) := by decide +kernel
theorem dX8_bestGo_1 : decode cX8_bestGo 1 = .ok (.getfield 59, 3) := by decide +kernel
theorem dX8_bestGo_4 : decode cX8_bestGo 4 = .ok (.invokevirtual 203, 3) := by decide +kernel
theorem dX8_bestGo_7 : decode cX8_bestGo 7 = .ok (.aload_n 0, 1) := by decide +kernel
theorem dX8_bestGo_8 : decode cX8_bestGo 8 = .ok (.getfield 59, 3) := by decide +kernel
theorem dX8_bestGo_11 : decode cX8_bestGo 11 = .ok (.getfield 212, 3) := by decide +kernel
theorem dX8_bestGo_14 : decode cX8_bestGo 14 = .ok (.iload_n 1, 1) := by decide +kernel
theorem dX8_bestGo_15 : decode cX8_bestGo 15 = .ok (.invokevirtual 175, 3) := by decide +kernel
theorem dX8_bestGo_18 : decode cX8_bestGo 18 = .ok (.ireturn, 1) := by decide +kernel
theorem dX8_take_0 : decode cX8_take 0 = .ok (.iload_n 1, 1) := by decide +kernel
theorem dX8_take_1 : decode cX8_take 1 = .ok (.invokestatic 163, 3) := by decide +kernel
theorem dX8_take_4 : decode cX8_take 4 = .ok (.ifCond .ne 6, 3) := by decide +kernel
theorem dX8_take_7 : decode cX8_take 7 = .ok (.ldc 104, 2) := by decide +kernel
theorem dX8_take_9 : decode cX8_take 9 = .ok (.ireturn, 1) := by decide +kernel
theorem dX8_take_10 : decode cX8_take 10 = .ok (.aload_n 0, 1) := by decide +kernel
theorem dX8_take_11 : decode cX8_take 11 = .ok (.getfield 59, 3) := by decide +kernel
theorem dX8_take_14 : decode cX8_take 14 = .ok (.invokevirtual 203, 3) := by decide +kernel
theorem dX8_take_17 : decode cX8_take 17 = .ok (.aload_n 0, 1) := by decide +kernel
theorem dX8_take_18 : decode cX8_take 18 = .ok (.iload_n 1, 1) := by decide +kernel
theorem dX8_take_19 : decode cX8_take 19 = .ok (.invokevirtual 166, 3) := by decide +kernel
theorem dX8_take_22 : decode cX8_take 22 = .ok (.astore_n 2, 1) := by decide +kernel
theorem dX8_take_23 : decode cX8_take 23 = .ok (.aload_n 2, 1) := by decide +kernel
theorem dX8_take_24 : decode cX8_take 24 = .ok (.aload_n 0, 1) := by decide +kernel
theorem dX8_take_25 : decode cX8_take 25 = .ok (.getfield 59, 3) := by decide +kernel
theorem dX8_take_28 : decode cX8_take 28 = .ok (.getfield 212, 3) := by decide +kernel
theorem dX8_take_31 : decode cX8_take 31 = .ok (.invokevirtual 215, 3) := by decide +kernel
theorem dX8_take_34 : decode cX8_take 34 = .ok (.aload_n 2, 1) := by decide +kernel
theorem dX8_take_35 : decode cX8_take 35 = .ok (.getfield 94, 3) := by decide +kernel
theorem dX8_take_38 : decode cX8_take 38 = .ok (.ireturn, 1) := by decide +kernel
theorem dX8_unlike_0 : decode cX8_unlike 0 = .ok (.iload_n 1, 1) := by decide +kernel
theorem dX8_unlike_1 : decode cX8_unlike 1 = .ok (.invokestatic 163, 3) := by decide +kernel
theorem dX8_unlike_4 : decode cX8_unlike 4 = .ok (.ifCond .eq 10, 3) := by decide +kernel
theorem dX8_unlike_7 : decode cX8_unlike 7 = .ok (.iload_n 2, 1) := by decide +kernel
theorem dX8_unlike_8 : decode cX8_unlike 8 = .ok (.invokestatic 163, 3) := by decide +kernel
theorem dX8_unlike_11 : decode cX8_unlike 11 = .ok (.ifCond .ne 6, 3) := by decide +kernel
theorem dX8_unlike_14 : decode cX8_unlike 14 = .ok (.ldc 104, 2) := by decide +kernel
theorem dX8_unlike_16 : decode cX8_unlike 16 = .ok (.ireturn, 1) := by decide +kernel
theorem dX8_unlike_17 : decode cX8_unlike 17 = .ok (.aload_n 0, 1) := by decide +kernel
theorem dX8_unlike_18 : decode cX8_unlike 18 = .ok (.iload_n 1, 1) := by decide +kernel
theorem dX8_unlike_19 : decode cX8_unlike 19 = .ok (.invokevirtual 166, 3) := by decide +kernel
theorem dX8_unlike_22 : decode cX8_unlike 22 = .ok (.astore_n 3, 1) := by decide +kernel
theorem dX8_unlike_23 : decode cX8_unlike 23 = .ok (.aload_n 0, 1) := by decide +kernel
theorem dX8_unlike_24 : decode cX8_unlike 24 = .ok (.iload_n 2, 1) := by decide +kernel
theorem dX8_unlike_25 : decode cX8_unlike 25 = .ok (.invokevirtual 166, 3) := by decide +kernel
theorem dX8_unlike_28 : decode cX8_unlike 28 = .ok (.astore 4, 2) := by decide +kernel
theorem dX8_unlike_30 : decode cX8_unlike 30 = .ok (.iconst 0, 1) := by decide +kernel
theorem dX8_unlike_31 : decode cX8_unlike 31 = .ok (.istore 5, 2) := by decide +kernel
theorem dX8_unlike_33 : decode cX8_unlike 33 = .ok (.iconst 0, 1) := by decide +kernel
theorem dX8_unlike_34 : decode cX8_unlike 34 = .ok (.istore 6, 2) := by decide +kernel
theorem dX8_unlike_36 : decode cX8_unlike 36 = .ok (.iload 6, 2) := by decide +kernel
theorem dX8_unlike_38 : decode cX8_unlike 38 = .ok (.aload_n 0, 1) := by decide +kernel
theorem dX8_unlike_39 : decode cX8_unlike 39 = .ok (.getfield 10, 3) := by decide +kernel
theorem dX8_unlike_42 : decode cX8_unlike 42 = .ok (.getfield 99, 3) := by decide +kernel
theorem dX8_unlike_45 : decode cX8_unlike 45 = .ok (.bipush 7, 2) := by decide +kernel
theorem dX8_unlike_47 : decode cX8_unlike 47 = .ok (.imul, 1) := by decide +kernel
theorem dX8_unlike_48 : decode cX8_unlike 48 = .ok (.if_icmp .ge 37, 3) := by decide +kernel
theorem dX8_unlike_51 : decode cX8_unlike 51 = .ok (.iload 5, 2) := by decide +kernel
theorem dX8_unlike_53 : decode cX8_unlike 53 = .ok (.aload_n 0, 1) := by decide +kernel
theorem dX8_unlike_54 : decode cX8_unlike 54 = .ok (.getfield 50, 3) := by decide +kernel
theorem dX8_unlike_57 : decode cX8_unlike 57 = .ok (.aload_n 3, 1) := by decide +kernel
theorem dX8_unlike_58 : decode cX8_unlike 58 = .ok (.aload 4, 2) := by decide +kernel
theorem dX8_unlike_60 : decode cX8_unlike 60 = .ok (.iload 6, 2) := by decide +kernel
theorem dX8_unlike_62 : decode cX8_unlike 62 = .ok (.bipush 7, 2) := by decide +kernel
theorem dX8_unlike_64 : decode cX8_unlike 64 = .ok (.idiv, 1) := by decide +kernel
theorem dX8_unlike_65 : decode cX8_unlike 65 = .ok (.iload 6, 2) := by decide +kernel
theorem dX8_unlike_67 : decode cX8_unlike 67 = .ok (.bipush 7, 2) := by decide +kernel
theorem dX8_unlike_69 : decode cX8_unlike 69 = .ok (.irem, 1) := by decide +kernel
theorem dX8_unlike_70 : decode cX8_unlike 70 = .ok (.invokevirtual 219, 3) := by decide +kernel
theorem dX8_unlike_73 : decode cX8_unlike 73 = .ok (.invokestatic 139, 3) := by decide +kernel
theorem dX8_unlike_76 : decode cX8_unlike 76 = .ok (.iadd, 1) := by decide +kernel
theorem dX8_unlike_77 : decode cX8_unlike 77 = .ok (.istore 5, 2) := by decide +kernel
theorem dX8_unlike_79 : decode cX8_unlike 79 = .ok (.iinc 6 1, 3) := by decide +kernel
theorem dX8_unlike_82 : decode cX8_unlike 82 = .ok (.goto (-46), 3) := by decide +kernel
theorem dX8_unlike_85 : decode cX8_unlike 85 = .ok (.iload 5, 2) := by decide +kernel
theorem dX8_unlike_87 : decode cX8_unlike 87 = .ok (.ireturn, 1) := by decide +kernel
theorem dX8_look_0 : decode cX8_look 0 = .ok (.iload_n 1, 1) := by decide +kernel
theorem dX8_look_1 : decode cX8_look 1 = .ok (.invokestatic 163, 3) := by decide +kernel
theorem dX8_look_4 : decode cX8_look 4 = .ok (.ifCond .eq 10, 3) := by decide +kernel
theorem dX8_look_7 : decode cX8_look 7 = .ok (.iload_n 2, 1) := by decide +kernel
theorem dX8_look_8 : decode cX8_look 8 = .ok (.invokestatic 163, 3) := by decide +kernel
theorem dX8_look_11 : decode cX8_look 11 = .ok (.ifCond .ne 6, 3) := by decide +kernel
theorem dX8_look_14 : decode cX8_look 14 = .ok (.ldc 104, 2) := by decide +kernel
theorem dX8_look_16 : decode cX8_look 16 = .ok (.ireturn, 1) := by decide +kernel
theorem dX8_look_17 : decode cX8_look 17 = .ok (.aload_n 0, 1) := by decide +kernel
theorem dX8_look_18 : decode cX8_look 18 = .ok (.iload_n 1, 1) := by decide +kernel
theorem dX8_look_19 : decode cX8_look 19 = .ok (.invokevirtual 166, 3) := by decide +kernel
theorem dX8_look_22 : decode cX8_look 22 = .ok (.astore 4, 2) := by decide +kernel
theorem dX8_look_24 : decode cX8_look 24 = .ok (.aload_n 0, 1) := by decide +kernel
theorem dX8_look_25 : decode cX8_look 25 = .ok (.iload_n 2, 1) := by decide +kernel
theorem dX8_look_26 : decode cX8_look 26 = .ok (.invokevirtual 166, 3) := by decide +kernel
theorem dX8_look_29 : decode cX8_look 29 = .ok (.astore 5, 2) := by decide +kernel
theorem dX8_look_31 : decode cX8_look 31 = .ok (.iconst 0, 1) := by decide +kernel
theorem dX8_look_32 : decode cX8_look 32 = .ok (.istore 6, 2) := by decide +kernel
theorem dX8_look_34 : decode cX8_look 34 = .ok (.iconst 0, 1) := by decide +kernel
theorem dX8_look_35 : decode cX8_look 35 = .ok (.istore 7, 2) := by decide +kernel
theorem dX8_look_37 : decode cX8_look 37 = .ok (.iload 7, 2) := by decide +kernel
theorem dX8_look_39 : decode cX8_look 39 = .ok (.aload_n 0, 1) := by decide +kernel
theorem dX8_look_40 : decode cX8_look 40 = .ok (.getfield 10, 3) := by decide +kernel
theorem dX8_look_43 : decode cX8_look 43 = .ok (.getfield 99, 3) := by decide +kernel
theorem dX8_look_46 : decode cX8_look 46 = .ok (.bipush 7, 2) := by decide +kernel
theorem dX8_look_48 : decode cX8_look 48 = .ok (.imul, 1) := by decide +kernel
theorem dX8_look_49 : decode cX8_look 49 = .ok (.if_icmp .ge 57, 3) := by decide +kernel
theorem dX8_look_52 : decode cX8_look 52 = .ok (.aload_n 0, 1) := by decide +kernel
theorem dX8_look_53 : decode cX8_look 53 = .ok (.getfield 50, 3) := by decide +kernel
theorem dX8_look_56 : decode cX8_look 56 = .ok (.aload 4, 2) := by decide +kernel
theorem dX8_look_58 : decode cX8_look 58 = .ok (.aload 5, 2) := by decide +kernel
theorem dX8_look_60 : decode cX8_look 60 = .ok (.iload 7, 2) := by decide +kernel
theorem dX8_look_62 : decode cX8_look 62 = .ok (.bipush 7, 2) := by decide +kernel
theorem dX8_look_64 : decode cX8_look 64 = .ok (.idiv, 1) := by decide +kernel
theorem dX8_look_65 : decode cX8_look 65 = .ok (.iload 7, 2) := by decide +kernel
theorem dX8_look_67 : decode cX8_look 67 = .ok (.bipush 7, 2) := by decide +kernel
theorem dX8_look_69 : decode cX8_look 69 = .ok (.irem, 1) := by decide +kernel
theorem dX8_look_70 : decode cX8_look 70 = .ok (.invokevirtual 219, 3) := by decide +kernel
theorem dX8_look_73 : decode cX8_look 73 = .ok (.ifCond .eq 27, 3) := by decide +kernel
theorem dX8_look_76 : decode cX8_look 76 = .ok (.iload 6, 2) := by decide +kernel
theorem dX8_look_78 : decode cX8_look 78 = .ok (.iload_n 3, 1) := by decide +kernel
theorem dX8_look_79 : decode cX8_look 79 = .ok (.if_icmp .ne 18, 3) := by decide +kernel
theorem dX8_look_82 : decode cX8_look 82 = .ok (.bipush 10, 2) := by decide +kernel
theorem dX8_look_84 : decode cX8_look 84 = .ok (.iload 7, 2) := by decide +kernel
theorem dX8_look_86 : decode cX8_look 86 = .ok (.bipush 7, 2) := by decide +kernel
theorem dX8_look_88 : decode cX8_look 88 = .ok (.idiv, 1) := by decide +kernel
theorem dX8_look_89 : decode cX8_look 89 = .ok (.imul, 1) := by decide +kernel
theorem dX8_look_90 : decode cX8_look 90 = .ok (.iload 7, 2) := by decide +kernel
theorem dX8_look_92 : decode cX8_look 92 = .ok (.bipush 7, 2) := by decide +kernel
theorem dX8_look_94 : decode cX8_look 94 = .ok (.irem, 1) := by decide +kernel
theorem dX8_look_95 : decode cX8_look 95 = .ok (.iadd, 1) := by decide +kernel
theorem dX8_look_96 : decode cX8_look 96 = .ok (.ireturn, 1) := by decide +kernel
theorem dX8_look_97 : decode cX8_look 97 = .ok (.iinc 6 1, 3) := by decide +kernel
theorem dX8_look_100 : decode cX8_look 100 = .ok (.iinc 7 1, 3) := by decide +kernel
theorem dX8_look_103 : decode cX8_look 103 = .ok (.goto (-66), 3) := by decide +kernel
theorem dX8_look_106 : decode cX8_look 106 = .ok (.ldc 150, 2) := by decide +kernel
theorem dX8_look_108 : decode cX8_look 108 = .ok (.ireturn, 1) := by decide +kernel
theorem dX8_level_0 : decode cX8_level 0 = .ok (.aload_n 0, 1) := by decide +kernel
theorem dX8_level_1 : decode cX8_level 1 = .ok (.getfield 28, 3) := by decide +kernel
theorem dX8_level_4 : decode cX8_level 4 = .ok (.iload_n 1, 1) := by decide +kernel
theorem dX8_level_5 : decode cX8_level 5 = .ok (.invokevirtual 131, 3) := by decide +kernel
theorem dX8_level_8 : decode cX8_level 8 = .ok (.ifCond .eq 14, 3) := by decide +kernel
theorem dX8_level_11 : decode cX8_level 11 = .ok (.aload_n 0, 1) := by decide +kernel
theorem dX8_level_12 : decode cX8_level 12 = .ok (.getfield 10, 3) := by decide +kernel
theorem dX8_level_15 : decode cX8_level 15 = .ok (.iload_n 2, 1) := by decide +kernel
theorem dX8_level_16 : decode cX8_level 16 = .ok (.invokevirtual 100, 3) := by decide +kernel
theorem dX8_level_19 : decode cX8_level 19 = .ok (.ifCond .ne 6, 3) := by decide +kernel
theorem dX8_level_22 : decode cX8_level 22 = .ok (.ldc 104, 2) := by decide +kernel
theorem dX8_level_24 : decode cX8_level 24 = .ok (.ireturn, 1) := by decide +kernel
theorem dX8_level_25 : decode cX8_level 25 = .ok (.aload_n 0, 1) := by decide +kernel
theorem dX8_level_26 : decode cX8_level 26 = .ok (.getfield 28, 3) := by decide +kernel
theorem dX8_level_29 : decode cX8_level 29 = .ok (.getfield 223, 3) := by decide +kernel
theorem dX8_level_32 : decode cX8_level 32 = .ok (.iload_n 1, 1) := by decide +kernel
theorem dX8_level_33 : decode cX8_level 33 = .ok (.baload, 1) := by decide +kernel
theorem dX8_level_34 : decode cX8_level 34 = .ok (.ifCond .eq 15, 3) := by decide +kernel
theorem dX8_level_37 : decode cX8_level 37 = .ok (.aload_n 0, 1) := by decide +kernel
theorem dX8_level_38 : decode cX8_level 38 = .ok (.getfield 28, 3) := by decide +kernel
theorem dX8_level_41 : decode cX8_level 41 = .ok (.iload_n 1, 1) := by decide +kernel
theorem dX8_level_42 : decode cX8_level 42 = .ok (.iload_n 2, 1) := by decide +kernel
theorem dX8_level_43 : decode cX8_level 43 = .ok (.invokevirtual 135, 3) := by decide +kernel
theorem dX8_level_46 : decode cX8_level 46 = .ok (.ifCond .eq 6, 3) := by decide +kernel
theorem dX8_level_49 : decode cX8_level 49 = .ok (.ldc 171, 2) := by decide +kernel
theorem dX8_level_51 : decode cX8_level 51 = .ok (.ireturn, 1) := by decide +kernel
theorem dX8_level_52 : decode cX8_level 52 = .ok (.aload_n 0, 1) := by decide +kernel
theorem dX8_level_53 : decode cX8_level 53 = .ok (.getfield 68, 3) := by decide +kernel
theorem dX8_level_56 : decode cX8_level 56 = .ok (.iload_n 1, 1) := by decide +kernel
theorem dX8_level_57 : decode cX8_level 57 = .ok (.invokevirtual 227, 3) := by decide +kernel
theorem dX8_level_60 : decode cX8_level 60 = .ok (.aload_n 0, 1) := by decide +kernel
theorem dX8_level_61 : decode cX8_level 61 = .ok (.getfield 68, 3) := by decide +kernel
theorem dX8_level_64 : decode cX8_level 64 = .ok (.iload_n 2, 1) := by decide +kernel
theorem dX8_level_65 : decode cX8_level 65 = .ok (.invokevirtual 230, 3) := by decide +kernel
theorem dX8_level_68 : decode cX8_level 68 = .ok (.ifCond .eq 8, 3) := by decide +kernel
theorem dX8_level_71 : decode cX8_level 71 = .ok (.ldc 150, 2) := by decide +kernel
theorem dX8_level_73 : decode cX8_level 73 = .ok (.goto 12, 3) := by decide +kernel
theorem dX8_level_76 : decode cX8_level 76 = .ok (.aload_n 0, 1) := by decide +kernel
theorem dX8_level_77 : decode cX8_level 77 = .ok (.getfield 68, 3) := by decide +kernel
theorem dX8_level_80 : decode cX8_level 80 = .ok (.getfield 233, 3) := by decide +kernel
theorem dX8_level_83 : decode cX8_level 83 = .ok (.iload_n 2, 1) := by decide +kernel
theorem dX8_level_84 : decode cX8_level 84 = .ok (.iaload, 1) := by decide +kernel
theorem dX8_level_85 : decode cX8_level 85 = .ok (.ireturn, 1) := by decide +kernel
theorem dX8_lake_0 : decode cX8_lake 0 = .ok (.aload_n 0, 1) := by decide +kernel
theorem dX8_lake_1 : decode cX8_lake 1 = .ok (.getfield 28, 3) := by decide +kernel
theorem dX8_lake_4 : decode cX8_lake 4 = .ok (.iload_n 1, 1) := by decide +kernel
theorem dX8_lake_5 : decode cX8_lake 5 = .ok (.invokevirtual 131, 3) := by decide +kernel
theorem dX8_lake_8 : decode cX8_lake 8 = .ok (.ifCond .ne 6, 3) := by decide +kernel
theorem dX8_lake_11 : decode cX8_lake 11 = .ok (.ldc 104, 2) := by decide +kernel
theorem dX8_lake_13 : decode cX8_lake 13 = .ok (.ireturn, 1) := by decide +kernel
theorem dX8_lake_14 : decode cX8_lake 14 = .ok (.aload_n 0, 1) := by decide +kernel
theorem dX8_lake_15 : decode cX8_lake 15 = .ok (.getfield 28, 3) := by decide +kernel
theorem dX8_lake_18 : decode cX8_lake 18 = .ok (.getfield 223, 3) := by decide +kernel
theorem dX8_lake_21 : decode cX8_lake 21 = .ok (.iload_n 1, 1) := by decide +kernel
theorem dX8_lake_22 : decode cX8_lake 22 = .ok (.baload, 1) := by decide +kernel
theorem dX8_lake_23 : decode cX8_lake 23 = .ok (.ifCond .ne 6, 3) := by decide +kernel
theorem dX8_lake_26 : decode cX8_lake 26 = .ok (.ldc 171, 2) := by decide +kernel
theorem dX8_lake_28 : decode cX8_lake 28 = .ok (.ireturn, 1) := by decide +kernel
theorem dX8_lake_29 : decode cX8_lake 29 = .ok (.aload_n 0, 1) := by decide +kernel
theorem dX8_lake_30 : decode cX8_lake 30 = .ok (.getfield 68, 3) := by decide +kernel
theorem dX8_lake_33 : decode cX8_lake 33 = .ok (.iload_n 1, 1) := by decide +kernel
theorem dX8_lake_34 : decode cX8_lake 34 = .ok (.invokevirtual 227, 3) := by decide +kernel
theorem dX8_lake_37 : decode cX8_lake 37 = .ok (.aload_n 0, 1) := by decide +kernel
theorem dX8_lake_38 : decode cX8_lake 38 = .ok (.getfield 68, 3) := by decide +kernel
theorem dX8_lake_41 : decode cX8_lake 41 = .ok (.invokevirtual 236, 3) := by decide +kernel
theorem dX8_lake_44 : decode cX8_lake 44 = .ok (.ireturn, 1) := by decide +kernel
theorem dX8_sunk_0 : decode cX8_sunk 0 = .ok (.iload_n 1, 1) := by decide +kernel
theorem dX8_sunk_1 : decode cX8_sunk 1 = .ok (.invokestatic 163, 3) := by decide +kernel
theorem dX8_sunk_4 : decode cX8_sunk 4 = .ok (.ifCond .eq 14, 3) := by decide +kernel
theorem dX8_sunk_7 : decode cX8_sunk 7 = .ok (.aload_n 0, 1) := by decide +kernel
theorem dX8_sunk_8 : decode cX8_sunk 8 = .ok (.getfield 10, 3) := by decide +kernel
theorem dX8_sunk_11 : decode cX8_sunk 11 = .ok (.iload_n 2, 1) := by decide +kernel
theorem dX8_sunk_12 : decode cX8_sunk 12 = .ok (.invokevirtual 100, 3) := by decide +kernel
theorem dX8_sunk_15 : decode cX8_sunk 15 = .ok (.ifCond .ne 6, 3) := by decide +kernel
theorem dX8_sunk_18 : decode cX8_sunk 18 = .ok (.ldc 104, 2) := by decide +kernel
theorem dX8_sunk_20 : decode cX8_sunk 20 = .ok (.ireturn, 1) := by decide +kernel
theorem dX8_sunk_21 : decode cX8_sunk 21 = .ok (.aload_n 0, 1) := by decide +kernel
theorem dX8_sunk_22 : decode cX8_sunk 22 = .ok (.iload_n 1, 1) := by decide +kernel
theorem dX8_sunk_23 : decode cX8_sunk 23 = .ok (.invokevirtual 166, 3) := by decide +kernel
theorem dX8_sunk_26 : decode cX8_sunk 26 = .ok (.astore 4, 2) := by decide +kernel
theorem dX8_sunk_28 : decode cX8_sunk 28 = .ok (.iload_n 3, 1) := by decide +kernel
theorem dX8_sunk_29 : decode cX8_sunk 29 = .ok (.iconst 0, 1) := by decide +kernel
theorem dX8_sunk_30 : decode cX8_sunk 30 = .ok (.aload 4, 2) := by decide +kernel
theorem dX8_sunk_32 : decode cX8_sunk 32 = .ok (.getfield 94, 3) := by decide +kernel
theorem dX8_sunk_35 : decode cX8_sunk 35 = .ok (.invokestatic 79, 3) := by decide +kernel
theorem dX8_sunk_38 : decode cX8_sunk 38 = .ok (.ifCond .ne 6, 3) := by decide +kernel
theorem dX8_sunk_41 : decode cX8_sunk 41 = .ok (.ldc 83, 2) := by decide +kernel
theorem dX8_sunk_43 : decode cX8_sunk 43 = .ok (.ireturn, 1) := by decide +kernel
theorem dX8_sunk_44 : decode cX8_sunk 44 = .ok (.iconst 0, 1) := by decide +kernel
theorem dX8_sunk_45 : decode cX8_sunk 45 = .ok (.istore 5, 2) := by decide +kernel
theorem dX8_sunk_47 : decode cX8_sunk 47 = .ok (.iconst 0, 1) := by decide +kernel
theorem dX8_sunk_48 : decode cX8_sunk 48 = .ok (.istore 6, 2) := by decide +kernel
theorem dX8_sunk_50 : decode cX8_sunk 50 = .ok (.iload 6, 2) := by decide +kernel
theorem dX8_sunk_52 : decode cX8_sunk 52 = .ok (.iload_n 3, 1) := by decide +kernel
theorem dX8_sunk_53 : decode cX8_sunk 53 = .ok (.if_icmp .ge 55, 3) := by decide +kernel
theorem dX8_sunk_56 : decode cX8_sunk 56 = .ok (.aload 4, 2) := by decide +kernel
theorem dX8_sunk_58 : decode cX8_sunk 58 = .ok (.getfield 240, 3) := by decide +kernel
theorem dX8_sunk_61 : decode cX8_sunk 61 = .ok (.iload 6, 2) := by decide +kernel
theorem dX8_sunk_63 : decode cX8_sunk 63 = .ok (.iaload, 1) := by decide +kernel
theorem dX8_sunk_64 : decode cX8_sunk 64 = .ok (.istore 7, 2) := by decide +kernel
theorem dX8_sunk_66 : decode cX8_sunk 66 = .ok (.iload 5, 2) := by decide +kernel
theorem dX8_sunk_68 : decode cX8_sunk 68 = .ok (.iconst 2, 1) := by decide +kernel
theorem dX8_sunk_69 : decode cX8_sunk 69 = .ok (.idiv, 1) := by decide +kernel
theorem dX8_sunk_70 : decode cX8_sunk 70 = .ok (.aload_n 0, 1) := by decide +kernel
theorem dX8_sunk_71 : decode cX8_sunk 71 = .ok (.getfield 28, 3) := by decide +kernel
theorem dX8_sunk_74 : decode cX8_sunk 74 = .ok (.iload 7, 2) := by decide +kernel
theorem dX8_sunk_76 : decode cX8_sunk 76 = .ok (.iload_n 2, 1) := by decide +kernel
theorem dX8_sunk_77 : decode cX8_sunk 77 = .ok (.invokevirtual 143, 3) := by decide +kernel
theorem dX8_sunk_80 : decode cX8_sunk 80 = .ok (.ifCond .eq 18, 3) := by decide +kernel
theorem dX8_sunk_83 : decode cX8_sunk 83 = .ok (.aload_n 0, 1) := by decide +kernel
theorem dX8_sunk_84 : decode cX8_sunk 84 = .ok (.getfield 28, 3) := by decide +kernel
theorem dX8_sunk_87 : decode cX8_sunk 87 = .ok (.iload 7, 2) := by decide +kernel
theorem dX8_sunk_89 : decode cX8_sunk 89 = .ok (.iload_n 2, 1) := by decide +kernel
theorem dX8_sunk_90 : decode cX8_sunk 90 = .ok (.invokevirtual 151, 3) := by decide +kernel
theorem dX8_sunk_93 : decode cX8_sunk 93 = .ok (.iconst 4, 1) := by decide +kernel
theorem dX8_sunk_94 : decode cX8_sunk 94 = .ok (.idiv, 1) := by decide +kernel
theorem dX8_sunk_95 : decode cX8_sunk 95 = .ok (.goto 4, 3) := by decide +kernel
theorem dX8_sunk_98 : decode cX8_sunk 98 = .ok (.iconst 0, 1) := by decide +kernel
theorem dX8_sunk_99 : decode cX8_sunk 99 = .ok (.iadd, 1) := by decide +kernel
theorem dX8_sunk_100 : decode cX8_sunk 100 = .ok (.istore 5, 2) := by decide +kernel
theorem dX8_sunk_102 : decode cX8_sunk 102 = .ok (.iinc 6 1, 3) := by decide +kernel
theorem dX8_sunk_105 : decode cX8_sunk 105 = .ok (.goto (-55), 3) := by decide +kernel
theorem dX8_sunk_108 : decode cX8_sunk 108 = .ok (.iload 5, 2) := by decide +kernel
theorem dX8_sunk_110 : decode cX8_sunk 110 = .ok (.ireturn, 1) := by decide +kernel
theorem dX8_over_0 : decode cX8_over 0 = .ok (.iload_n 1, 1) := by decide +kernel
theorem dX8_over_1 : decode cX8_over 1 = .ok (.invokestatic 243, 3) := by decide +kernel
theorem dX8_over_4 : decode cX8_over 4 = .ok (.ifCond .eq 10, 3) := by decide +kernel
theorem dX8_over_7 : decode cX8_over 7 = .ok (.iload_n 2, 1) := by decide +kernel
theorem dX8_over_8 : decode cX8_over 8 = .ok (.invokestatic 243, 3) := by decide +kernel
theorem dX8_over_11 : decode cX8_over 11 = .ok (.ifCond .ne 6, 3) := by decide +kernel
theorem dX8_over_14 : decode cX8_over 14 = .ok (.ldc 104, 2) := by decide +kernel
theorem dX8_over_16 : decode cX8_over 16 = .ok (.ireturn, 1) := by decide +kernel
theorem dX8_over_17 : decode cX8_over 17 = .ok (.iload_n 1, 1) := by decide +kernel
theorem dX8_over_18 : decode cX8_over 18 = .ok (.iload_n 2, 1) := by decide +kernel
theorem dX8_over_19 : decode cX8_over 19 = .ok (.if_icmp .ne 6, 3) := by decide +kernel
theorem dX8_over_22 : decode cX8_over 22 = .ok (.ldc 171, 2) := by decide +kernel
theorem dX8_over_24 : decode cX8_over 24 = .ok (.ireturn, 1) := by decide +kernel
theorem dX8_over_25 : decode cX8_over 25 = .ok (.aload_n 0, 1) := by decide +kernel
theorem dX8_over_26 : decode cX8_over 26 = .ok (.getfield 75, 3) := by decide +kernel
theorem dX8_over_29 : decode cX8_over 29 = .ok (.iload_n 1, 1) := by decide +kernel
theorem dX8_over_30 : decode cX8_over 30 = .ok (.iload_n 2, 1) := by decide +kernel
theorem dX8_over_31 : decode cX8_over 31 = .ok (.invokevirtual 246, 3) := by decide +kernel
theorem dX8_over_34 : decode cX8_over 34 = .ok (.istore 4, 2) := by decide +kernel
theorem dX8_over_36 : decode cX8_over 36 = .ok (.iload 4, 2) := by decide +kernel
theorem dX8_over_38 : decode cX8_over 38 = .ok (.iload_n 3, 1) := by decide +kernel
theorem dX8_over_39 : decode cX8_over 39 = .ok (.if_icmp .eq 12, 3) := by decide +kernel
theorem dX8_over_42 : decode cX8_over 42 = .ok (.aload_n 0, 1) := by decide +kernel
theorem dX8_over_43 : decode cX8_over 43 = .ok (.getfield 75, 3) := by decide +kernel
theorem dX8_over_46 : decode cX8_over 46 = .ok (.iload_n 1, 1) := by decide +kernel
theorem dX8_over_47 : decode cX8_over 47 = .ok (.iload_n 2, 1) := by decide +kernel
theorem dX8_over_48 : decode cX8_over 48 = .ok (.invokevirtual 249, 3) := by decide +kernel
theorem dX8_over_51 : decode cX8_over 51 = .ok (.iload 4, 2) := by decide +kernel
theorem dX8_over_53 : decode cX8_over 53 = .ok (.invokestatic 139, 3) := by decide +kernel
theorem dX8_over_56 : decode cX8_over 56 = .ok (.ireturn, 1) := by decide +kernel
theorem dX8_above_0 : decode cX8_above 0 = .ok (.iload_n 1, 1) := by decide +kernel
theorem dX8_above_1 : decode cX8_above 1 = .ok (.invokestatic 243, 3) := by decide +kernel
theorem dX8_above_4 : decode cX8_above 4 = .ok (.ifCond .eq 10, 3) := by decide +kernel
theorem dX8_above_7 : decode cX8_above 7 = .ok (.iload_n 2, 1) := by decide +kernel
theorem dX8_above_8 : decode cX8_above 8 = .ok (.invokestatic 243, 3) := by decide +kernel
theorem dX8_above_11 : decode cX8_above 11 = .ok (.ifCond .ne 6, 3) := by decide +kernel
theorem dX8_above_14 : decode cX8_above 14 = .ok (.ldc 104, 2) := by decide +kernel
theorem dX8_above_16 : decode cX8_above 16 = .ok (.ireturn, 1) := by decide +kernel
theorem dX8_above_17 : decode cX8_above 17 = .ok (.aload_n 0, 1) := by decide +kernel
theorem dX8_above_18 : decode cX8_above 18 = .ok (.getfield 75, 3) := by decide +kernel
theorem dX8_above_21 : decode cX8_above 21 = .ok (.iload_n 1, 1) := by decide +kernel
theorem dX8_above_22 : decode cX8_above 22 = .ok (.iload_n 2, 1) := by decide +kernel
theorem dX8_above_23 : decode cX8_above 23 = .ok (.invokevirtual 252, 3) := by decide +kernel
theorem dX8_above_26 : decode cX8_above 26 = .ok (.invokestatic 139, 3) := by decide +kernel
theorem dX8_above_29 : decode cX8_above 29 = .ok (.ireturn, 1) := by decide +kernel
theorem dX8_ring_0 : decode cX8_ring 0 = .ok (.iconst 0, 1) := by decide +kernel
theorem dX8_ring_1 : decode cX8_ring 1 = .ok (.istore_n 1, 1) := by decide +kernel
theorem dX8_ring_2 : decode cX8_ring 2 = .ok (.iconst 0, 1) := by decide +kernel
theorem dX8_ring_3 : decode cX8_ring 3 = .ok (.istore_n 2, 1) := by decide +kernel
theorem dX8_ring_4 : decode cX8_ring 4 = .ok (.iload_n 2, 1) := by decide +kernel
theorem dX8_ring_5 : decode cX8_ring 5 = .ok (.bipush 10, 2) := by decide +kernel
theorem dX8_ring_7 : decode cX8_ring 7 = .ok (.if_icmp .ge 24, 3) := by decide +kernel
theorem dX8_ring_10 : decode cX8_ring 10 = .ok (.iload_n 1, 1) := by decide +kernel
theorem dX8_ring_11 : decode cX8_ring 11 = .ok (.aload_n 0, 1) := by decide +kernel
theorem dX8_ring_12 : decode cX8_ring 12 = .ok (.getfield 75, 3) := by decide +kernel
theorem dX8_ring_15 : decode cX8_ring 15 = .ok (.iload_n 2, 1) := by decide +kernel
theorem dX8_ring_16 : decode cX8_ring 16 = .ok (.iload_n 2, 1) := by decide +kernel
theorem dX8_ring_17 : decode cX8_ring 17 = .ok (.invokevirtual 252, 3) := by decide +kernel
theorem dX8_ring_20 : decode cX8_ring 20 = .ok (.invokestatic 139, 3) := by decide +kernel
theorem dX8_ring_23 : decode cX8_ring 23 = .ok (.iadd, 1) := by decide +kernel
theorem dX8_ring_24 : decode cX8_ring 24 = .ok (.istore_n 1, 1) := by decide +kernel
theorem dX8_ring_25 : decode cX8_ring 25 = .ok (.iinc 2 1, 3) := by decide +kernel
theorem dX8_ring_28 : decode cX8_ring 28 = .ok (.goto (-24), 3) := by decide +kernel
theorem dX8_ring_31 : decode cX8_ring 31 = .ok (.iload_n 1, 1) := by decide +kernel
theorem dX8_ring_32 : decode cX8_ring 32 = .ok (.ireturn, 1) := by decide +kernel
theorem dX8_drops_0 : decode cX8_drops 0 = .ok (.aload_n 0, 1) := by decide +kernel
theorem dX8_drops_1 : decode cX8_drops 1 = .ok (.getfield 75, 3) := by decide +kernel
theorem dX8_drops_4 : decode cX8_drops 4 = .ok (.invokevirtual 255, 3) := by decide +kernel
theorem dX8_drops_7 : decode cX8_drops 7 = .ok (.invokestatic 258, 3) := by decide +kernel
theorem dX8_drops_10 : decode cX8_drops 10 = .ok (.ireturn, 1) := by decide +kernel
theorem dX8_drop_0 : decode cX8_drop 0 = .ok (.aload_n 0, 1) := by decide +kernel
theorem dX8_drop_1 : decode cX8_drop 1 = .ok (.getfield 75, 3) := by decide +kernel
theorem dX8_drop_4 : decode cX8_drop 4 = .ok (.invokevirtual 255, 3) := by decide +kernel
theorem dX8_drop_7 : decode cX8_drop 7 = .ok (.istore_n 2, 1) := by decide +kernel
theorem dX8_drop_8 : decode cX8_drop 8 = .ok (.iconst 0, 1) := by decide +kernel
theorem dX8_drop_9 : decode cX8_drop 9 = .ok (.istore_n 3, 1) := by decide +kernel
theorem dX8_drop_10 : decode cX8_drop 10 = .ok (.iconst 0, 1) := by decide +kernel
theorem dX8_drop_11 : decode cX8_drop 11 = .ok (.istore 4, 2) := by decide +kernel
theorem dX8_drop_13 : decode cX8_drop 13 = .ok (.iload 4, 2) := by decide +kernel
theorem dX8_drop_15 : decode cX8_drop 15 = .ok (.bipush 10, 2) := by decide +kernel
theorem dX8_drop_17 : decode cX8_drop 17 = .ok (.if_icmp .ge 30, 3) := by decide +kernel
theorem dX8_drop_20 : decode cX8_drop 20 = .ok (.iload_n 2, 1) := by decide +kernel
theorem dX8_drop_21 : decode cX8_drop 21 = .ok (.iload 4, 2) := by decide +kernel
theorem dX8_drop_23 : decode cX8_drop 23 = .ok (.invokestatic 263, 3) := by decide +kernel
theorem dX8_drop_26 : decode cX8_drop 26 = .ok (.iand, 1) := by decide +kernel
theorem dX8_drop_27 : decode cX8_drop 27 = .ok (.ifCond .eq 14, 3) := by decide +kernel
theorem dX8_drop_30 : decode cX8_drop 30 = .ok (.iload_n 3, 1) := by decide +kernel
theorem dX8_drop_31 : decode cX8_drop 31 = .ok (.iload_n 1, 1) := by decide +kernel
theorem dX8_drop_32 : decode cX8_drop 32 = .ok (.if_icmp .ne 6, 3) := by decide +kernel
theorem dX8_drop_35 : decode cX8_drop 35 = .ok (.iload 4, 2) := by decide +kernel
theorem dX8_drop_37 : decode cX8_drop 37 = .ok (.ireturn, 1) := by decide +kernel
theorem dX8_drop_38 : decode cX8_drop 38 = .ok (.iinc 3 1, 3) := by decide +kernel
theorem dX8_drop_41 : decode cX8_drop 41 = .ok (.iinc 4 1, 3) := by decide +kernel
theorem dX8_drop_44 : decode cX8_drop 44 = .ok (.goto (-31), 3) := by decide +kernel
theorem dX8_drop_47 : decode cX8_drop 47 = .ok (.ldc 150, 2) := by decide +kernel
theorem dX8_drop_49 : decode cX8_drop 49 = .ok (.ireturn, 1) := by decide +kernel
theorem dX8_count_0 : decode cX8_count 0 = .ok (.iload_n 1, 1) := by decide +kernel
theorem dX8_count_1 : decode cX8_count 1 = .ok (.tableswitch 75 0 4 #[35, 43, 51, 59, 67], 35) := by decide +kernel
theorem dX8_count_36 : decode cX8_count 36 = .ok (.aload_n 0, 1) := by decide +kernel
theorem dX8_count_37 : decode cX8_count 37 = .ok (.getfield 10, 3) := by decide +kernel
theorem dX8_count_40 : decode cX8_count 40 = .ok (.getfield 99, 3) := by decide +kernel
theorem dX8_count_43 : decode cX8_count 43 = .ok (.ireturn, 1) := by decide +kernel
theorem dX8_count_44 : decode cX8_count 44 = .ok (.aload_n 0, 1) := by decide +kernel
theorem dX8_count_45 : decode cX8_count 45 = .ok (.getfield 19, 3) := by decide +kernel
theorem dX8_count_48 : decode cX8_count 48 = .ok (.getfield 88, 3) := by decide +kernel
theorem dX8_count_51 : decode cX8_count 51 = .ok (.ireturn, 1) := by decide +kernel
theorem dX8_count_52 : decode cX8_count 52 = .ok (.aload_n 0, 1) := by decide +kernel
theorem dX8_count_53 : decode cX8_count 53 = .ok (.getfield 28, 3) := by decide +kernel
theorem dX8_count_56 : decode cX8_count 56 = .ok (.getfield 92, 3) := by decide +kernel
theorem dX8_count_59 : decode cX8_count 59 = .ok (.ireturn, 1) := by decide +kernel
theorem dX8_count_60 : decode cX8_count 60 = .ok (.aload_n 0, 1) := by decide +kernel
theorem dX8_count_61 : decode cX8_count 61 = .ok (.getfield 50, 3) := by decide +kernel
theorem dX8_count_64 : decode cX8_count 64 = .ok (.getfield 93, 3) := by decide +kernel
theorem dX8_count_67 : decode cX8_count 67 = .ok (.ireturn, 1) := by decide +kernel
theorem dX8_count_68 : decode cX8_count 68 = .ok (.aload_n 0, 1) := by decide +kernel
theorem dX8_count_69 : decode cX8_count 69 = .ok (.getfield 75, 3) := by decide +kernel
theorem dX8_count_72 : decode cX8_count 72 = .ok (.getfield 266, 3) := by decide +kernel
theorem dX8_count_75 : decode cX8_count 75 = .ok (.ireturn, 1) := by decide +kernel
theorem dX8_count_76 : decode cX8_count 76 = .ok (.ldc 83, 2) := by decide +kernel
theorem dX8_count_78 : decode cX8_count 78 = .ok (.ireturn, 1) := by decide +kernel
theorem dX8_rowOf_0 : decode cX8_rowOf 0 = .ok (.iload_n 1, 1) := by decide +kernel
theorem dX8_rowOf_1 : decode cX8_rowOf 1 = .ok (.ifCond .ne 8, 3) := by decide +kernel
theorem dX8_rowOf_4 : decode cX8_rowOf 4 = .ok (.aload_n 0, 1) := by decide +kernel
theorem dX8_rowOf_5 : decode cX8_rowOf 5 = .ok (.getfield 35, 3) := by decide +kernel
theorem dX8_rowOf_8 : decode cX8_rowOf 8 = .ok (.areturn, 1) := by decide +kernel
theorem dX8_rowOf_9 : decode cX8_rowOf 9 = .ok (.iload_n 1, 1) := by decide +kernel
theorem dX8_rowOf_10 : decode cX8_rowOf 10 = .ok (.iconst 1, 1) := by decide +kernel
theorem dX8_rowOf_11 : decode cX8_rowOf 11 = .ok (.if_icmp .ne 10, 3) := by decide +kernel
theorem dX8_rowOf_14 : decode cX8_rowOf 14 = .ok (.aload_n 0, 1) := by decide +kernel
theorem dX8_rowOf_15 : decode cX8_rowOf 15 = .ok (.getfield 39, 3) := by decide +kernel
theorem dX8_rowOf_18 : decode cX8_rowOf 18 = .ok (.goto 7, 3) := by decide +kernel
theorem dX8_rowOf_21 : decode cX8_rowOf 21 = .ok (.aload_n 0, 1) := by decide +kernel
theorem dX8_rowOf_22 : decode cX8_rowOf 22 = .ok (.getfield 42, 3) := by decide +kernel
theorem dX8_rowOf_25 : decode cX8_rowOf 25 = .ok (.areturn, 1) := by decide +kernel
theorem dX8_mostExtra_0 : decode cX8_mostExtra 0 = .ok (.iload_n 0, 1) := by decide +kernel
theorem dX8_mostExtra_1 : decode cX8_mostExtra 1 = .ok (.lookupswitch 43 #[(0, 35), (4, 37), (5, 40)], 35) := by decide +kernel
theorem dX8_mostExtra_36 : decode cX8_mostExtra 36 = .ok (.iconst 3, 1) := by decide +kernel
theorem dX8_mostExtra_37 : decode cX8_mostExtra 37 = .ok (.ireturn, 1) := by decide +kernel
theorem dX8_mostExtra_38 : decode cX8_mostExtra 38 = .ok (.bipush 11, 2) := by decide +kernel
theorem dX8_mostExtra_40 : decode cX8_mostExtra 40 = .ok (.ireturn, 1) := by decide +kernel
theorem dX8_mostExtra_41 : decode cX8_mostExtra 41 = .ok (.bipush 15, 2) := by decide +kernel
theorem dX8_mostExtra_43 : decode cX8_mostExtra 43 = .ok (.ireturn, 1) := by decide +kernel
theorem dX8_mostExtra_44 : decode cX8_mostExtra 44 = .ok (.iconst 0, 1) := by decide +kernel
theorem dX8_mostExtra_45 : decode cX8_mostExtra 45 = .ok (.ireturn, 1) := by decide +kernel
theorem dX8_isSlot_0 : decode cX8_isSlot 0 = .ok (.iload_n 0, 1) := by decide +kernel
theorem dX8_isSlot_1 : decode cX8_isSlot 1 = .ok (.iconst 0, 1) := by decide +kernel
theorem dX8_isSlot_2 : decode cX8_isSlot 2 = .ok (.iconst 2, 1) := by decide +kernel
theorem dX8_isSlot_3 : decode cX8_isSlot 3 = .ok (.invokestatic 79, 3) := by decide +kernel
theorem dX8_isSlot_6 : decode cX8_isSlot 6 = .ok (.ireturn, 1) := by decide +kernel
theorem dX8_isLayer_0 : decode cX8_isLayer 0 = .ok (.iload_n 0, 1) := by decide +kernel
theorem dX8_isLayer_1 : decode cX8_isLayer 1 = .ok (.iconst 0, 1) := by decide +kernel
theorem dX8_isLayer_2 : decode cX8_isLayer 2 = .ok (.bipush 9, 2) := by decide +kernel
theorem dX8_isLayer_4 : decode cX8_isLayer 4 = .ok (.invokestatic 79, 3) := by decide +kernel
theorem dX8_isLayer_7 : decode cX8_isLayer 7 = .ok (.ireturn, 1) := by decide +kernel
theorem dX8_within_0 : decode cX8_within 0 = .ok (.iload_n 1, 1) := by decide +kernel
theorem dX8_within_1 : decode cX8_within 1 = .ok (.iload_n 0, 1) := by decide +kernel
theorem dX8_within_2 : decode cX8_within 2 = .ok (.if_icmp .gt 12, 3) := by decide +kernel
theorem dX8_within_5 : decode cX8_within 5 = .ok (.iload_n 0, 1) := by decide +kernel
theorem dX8_within_6 : decode cX8_within 6 = .ok (.iload_n 2, 1) := by decide +kernel
theorem dX8_within_7 : decode cX8_within 7 = .ok (.if_icmp .gt 7, 3) := by decide +kernel
theorem dX8_within_10 : decode cX8_within 10 = .ok (.iconst 1, 1) := by decide +kernel
theorem dX8_within_11 : decode cX8_within 11 = .ok (.goto 4, 3) := by decide +kernel
theorem dX8_within_14 : decode cX8_within 14 = .ok (.iconst 0, 1) := by decide +kernel
theorem dX8_within_15 : decode cX8_within 15 = .ok (.ireturn, 1) := by decide +kernel
theorem dX8_bit_0 : decode cX8_bit 0 = .ok (.iload_n 0, 1) := by decide +kernel
theorem dX8_bit_1 : decode cX8_bit 1 = .ok (.ifCond .eq 7, 3) := by decide +kernel
theorem dX8_bit_4 : decode cX8_bit 4 = .ok (.iconst 1, 1) := by decide +kernel
theorem dX8_bit_5 : decode cX8_bit 5 = .ok (.goto 4, 3) := by decide +kernel
theorem dX8_bit_8 : decode cX8_bit 8 = .ok (.iconst 0, 1) := by decide +kernel
theorem dX8_bit_9 : decode cX8_bit 9 = .ok (.ireturn, 1) := by decide +kernel
