theorem dX0_init_0 : decode cX0_init 0 = .ok (.aload_n 0, 1) := by decide +kernel
theorem dX0_init_1 : decode cX0_init 1 = .ok (.invokespecial 3, 3) := by decide +kernel
theorem dX0_init_4 : decode cX0_init 4 = .ok (.aload_n 0, 1) := by decide +kernel
theorem dX0_init_5 : decode cX0_init 5 = .ok (.bipush 6, 2) := by decide +kernel
theorem dX0_init_7 : decode cX0_init 7 = .ok (.newarray .boolean, 2) := by decide +kernel
theorem dX0_init_9 : decode cX0_init 9 = .ok (.putfield 9, 3) := by decide +kernel
theorem dX0_init_12 : decode cX0_init 12 = .ok (.aload_n 0, 1) := by decide +kernel
theorem dX0_init_13 : decode cX0_init 13 = .ok (.bipush 6, 2) := by decide +kernel
theorem dX0_init_15 : decode cX0_init 15 = .ok (.newarray .int, 2) := by decide +kernel
theorem dX0_init_17 : decode cX0_init 17 = .ok (.putfield 15, 3) := by decide +kernel
theorem dX0_init_20 : decode cX0_init 20 = .ok (.aload_n 0, 1) := by decide +kernel
theorem dX0_init_21 : decode cX0_init 21 = .ok (.bipush 6, 2) := by decide +kernel
theorem dX0_init_23 : decode cX0_init 23 = .ok (.newarray .int, 2) := by decide +kernel
theorem dX0_init_25 : decode cX0_init 25 = .ok (.putfield 19, 3) := by decide +kernel
theorem dX0_init_28 : decode cX0_init 28 = .ok (.aload_n 0, 1) := by decide +kernel
theorem dX0_init_29 : decode cX0_init 29 = .ok (.bipush 6, 2) := by decide +kernel
theorem dX0_init_31 : decode cX0_init 31 = .ok (.newarray .int, 2) := by decide +kernel
theorem dX0_init_33 : decode cX0_init 33 = .ok (.putfield 22, 3) := by decide +kernel
theorem dX0_init_36 : decode cX0_init 36 = .ok (.aload_n 0, 1) := by decide +kernel
theorem dX0_init_37 : decode cX0_init 37 = .ok (.bipush 6, 2) := by decide +kernel
theorem dX0_init_39 : decode cX0_init 39 = .ok (.newarray .int, 2) := by decide +kernel
theorem dX0_init_41 : decode cX0_init 41 = .ok (.putfield 25, 3) := by decide +kernel
theorem dX0_init_44 : decode cX0_init 44 = .ok (.aload_n 0, 1) := by decide +kernel
theorem dX0_init_45 : decode cX0_init 45 = .ok (.sipush 216, 3) := by decide +kernel
theorem dX0_init_48 : decode cX0_init 48 = .ok (.newarray .int, 2) := by decide +kernel
theorem dX0_init_50 : decode cX0_init 50 = .ok (.putfield 28, 3) := by decide +kernel
theorem dX0_init_53 : decode cX0_init 53 = .ok (.aload_n 0, 1) := by decide +kernel
theorem dX0_init_54 : decode cX0_init 54 = .ok (.sipush 216, 3) := by decide +kernel
theorem dX0_init_57 : decode cX0_init 57 = .ok (.newarray .int, 2) := by decide +kernel
theorem dX0_init_59 : decode cX0_init 59 = .ok (.putfield 31, 3) := by decide +kernel
theorem dX0_init_62 : decode cX0_init 62 = .ok (.aload_n 0, 1) := by decide +kernel
theorem dX0_init_63 : decode cX0_init 63 = .ok (.bipush 36, 2) := by decide +kernel
theorem dX0_init_65 : decode cX0_init 65 = .ok (.newarray .int, 2) := by decide +kernel
theorem dX0_init_67 : decode cX0_init 67 = .ok (.putfield 34, 3) := by decide +kernel
theorem dX0_init_70 : decode cX0_init 70 = .ok (.aload_n 0, 1) := by decide +kernel
theorem dX0_init_71 : decode cX0_init 71 = .ok (.aload_n 1, 1) := by decide +kernel
theorem dX0_init_72 : decode cX0_init 72 = .ok (.putfield 37, 3) := by decide +kernel
theorem dX0_init_75 : decode cX0_init 75 = .ok (.return_, 1) := by decide +kernel
theorem dX0_has_0 : decode cX0_has 0 = .ok (.iload_n 1, 1) := by decide +kernel
theorem dX0_has_1 : decode cX0_has 1 = .ok (.iconst 0, 1) := by decide +kernel
theorem dX0_has_2 : decode cX0_has 2 = .ok (.aload_n 0, 1) := by decide +kernel
theorem dX0_has_3 : decode cX0_has 3 = .ok (.getfield 41, 3) := by decide +kernel
theorem dX0_has_6 : decode cX0_has 6 = .ok (.iconst 1, 1) := by decide +kernel
theorem dX0_has_7 : decode cX0_has 7 = .ok (.isub, 1) := by decide +kernel
theorem dX0_has_8 : decode cX0_has 8 = .ok (.invokestatic 45, 3) := by decide +kernel
theorem dX0_has_11 : decode cX0_has 11 = .ok (.ireturn, 1) := by decide +kernel
theorem dX0_addIce_0 : decode cX0_addIce 0 = .ok (.aload_n 0, 1) := by decide +kernel
theorem dX0_addIce_1 : decode cX0_addIce 1 = .ok (.getfield 41, 3) := by decide +kernel
theorem dX0_addIce_4 : decode cX0_addIce 4 = .ok (.bipush 6, 2) := by decide +kernel
theorem dX0_addIce_6 : decode cX0_addIce 6 = .ok (.if_icmp .lt 6, 3) := by decide +kernel
theorem dX0_addIce_9 : decode cX0_addIce 9 = .ok (.ldc 49, 2) := by decide +kernel
theorem dX0_addIce_11 : decode cX0_addIce 11 = .ok (.ireturn, 1) := by decide +kernel
theorem dX0_addIce_12 : decode cX0_addIce 12 = .ok (.aload_n 0, 1) := by decide +kernel
theorem dX0_addIce_13 : decode cX0_addIce 13 = .ok (.getfield 9, 3) := by decide +kernel
theorem dX0_addIce_16 : decode cX0_addIce 16 = .ok (.aload_n 0, 1) := by decide +kernel
theorem dX0_addIce_17 : decode cX0_addIce 17 = .ok (.getfield 41, 3) := by decide +kernel
theorem dX0_addIce_20 : decode cX0_addIce 20 = .ok (.iconst 1, 1) := by decide +kernel
theorem dX0_addIce_21 : decode cX0_addIce 21 = .ok (.bastore, 1) := by decide +kernel
theorem dX0_addIce_22 : decode cX0_addIce 22 = .ok (.aload_n 0, 1) := by decide +kernel
theorem dX0_addIce_23 : decode cX0_addIce 23 = .ok (.getfield 15, 3) := by decide +kernel
theorem dX0_addIce_26 : decode cX0_addIce 26 = .ok (.aload_n 0, 1) := by decide +kernel
theorem dX0_addIce_27 : decode cX0_addIce 27 = .ok (.getfield 41, 3) := by decide +kernel
theorem dX0_addIce_30 : decode cX0_addIce 30 = .ok (.iload_n 1, 1) := by decide +kernel
theorem dX0_addIce_31 : decode cX0_addIce 31 = .ok (.iastore, 1) := by decide +kernel
theorem dX0_addIce_32 : decode cX0_addIce 32 = .ok (.aload_n 0, 1) := by decide +kernel
theorem dX0_addIce_33 : decode cX0_addIce 33 = .ok (.getfield 19, 3) := by decide +kernel
theorem dX0_addIce_36 : decode cX0_addIce 36 = .ok (.aload_n 0, 1) := by decide +kernel
theorem dX0_addIce_37 : decode cX0_addIce 37 = .ok (.getfield 41, 3) := by decide +kernel
theorem dX0_addIce_40 : decode cX0_addIce 40 = .ok (.iload_n 2, 1) := by decide +kernel
theorem dX0_addIce_41 : decode cX0_addIce 41 = .ok (.iastore, 1) := by decide +kernel
theorem dX0_addIce_42 : decode cX0_addIce 42 = .ok (.aload_n 0, 1) := by decide +kernel
theorem dX0_addIce_43 : decode cX0_addIce 43 = .ok (.getfield 22, 3) := by decide +kernel
theorem dX0_addIce_46 : decode cX0_addIce 46 = .ok (.aload_n 0, 1) := by decide +kernel
theorem dX0_addIce_47 : decode cX0_addIce 47 = .ok (.getfield 41, 3) := by decide +kernel
theorem dX0_addIce_50 : decode cX0_addIce 50 = .ok (.iload_n 3, 1) := by decide +kernel
theorem dX0_addIce_51 : decode cX0_addIce 51 = .ok (.iastore, 1) := by decide +kernel
theorem dX0_addIce_52 : decode cX0_addIce 52 = .ok (.aload_n 0, 1) := by decide +kernel
theorem dX0_addIce_53 : decode cX0_addIce 53 = .ok (.getfield 25, 3) := by decide +kernel
theorem dX0_addIce_56 : decode cX0_addIce 56 = .ok (.aload_n 0, 1) := by decide +kernel
theorem dX0_addIce_57 : decode cX0_addIce 57 = .ok (.getfield 41, 3) := by decide +kernel
theorem dX0_addIce_60 : decode cX0_addIce 60 = .ok (.iload 4, 2) := by decide +kernel
theorem dX0_addIce_62 : decode cX0_addIce 62 = .ok (.iastore, 1) := by decide +kernel
theorem dX0_addIce_63 : decode cX0_addIce 63 = .ok (.aload_n 0, 1) := by decide +kernel
theorem dX0_addIce_64 : decode cX0_addIce 64 = .ok (.aload_n 0, 1) := by decide +kernel
theorem dX0_addIce_65 : decode cX0_addIce 65 = .ok (.getfield 41, 3) := by decide +kernel
theorem dX0_addIce_68 : decode cX0_addIce 68 = .ok (.invokevirtual 50, 3) := by decide +kernel
theorem dX0_addIce_71 : decode cX0_addIce 71 = .ok (.aload_n 0, 1) := by decide +kernel
theorem dX0_addIce_72 : decode cX0_addIce 72 = .ok (.dup, 1) := by decide +kernel
theorem dX0_addIce_73 : decode cX0_addIce 73 = .ok (.getfield 41, 3) := by decide +kernel
theorem dX0_addIce_76 : decode cX0_addIce 76 = .ok (.dup_x1, 1) := by decide +kernel
theorem dX0_addIce_77 : decode cX0_addIce 77 = .ok (.iconst 1, 1) := by decide +kernel
theorem dX0_addIce_78 : decode cX0_addIce 78 = .ok (.iadd, 1) := by decide +kernel
theorem dX0_addIce_79 : decode cX0_addIce 79 = .ok (.putfield 41, 3) := by decide +kernel
theorem dX0_addIce_82 : decode cX0_addIce 82 = .ok (.ireturn, 1) := by decide +kernel
theorem dX0_addFlood_0 : decode cX0_addFlood 0 = .ok (.aload_n 0, 1) := by decide +kernel
theorem dX0_addFlood_1 : decode cX0_addFlood 1 = .ok (.getfield 41, 3) := by decide +kernel
theorem dX0_addFlood_4 : decode cX0_addFlood 4 = .ok (.bipush 6, 2) := by decide +kernel
theorem dX0_addFlood_6 : decode cX0_addFlood 6 = .ok (.if_icmp .lt 6, 3) := by decide +kernel
theorem dX0_addFlood_9 : decode cX0_addFlood 9 = .ok (.ldc 49, 2) := by decide +kernel
theorem dX0_addFlood_11 : decode cX0_addFlood 11 = .ok (.ireturn, 1) := by decide +kernel
theorem dX0_addFlood_12 : decode cX0_addFlood 12 = .ok (.aload_n 0, 1) := by decide +kernel
theorem dX0_addFlood_13 : decode cX0_addFlood 13 = .ok (.getfield 9, 3) := by decide +kernel
theorem dX0_addFlood_16 : decode cX0_addFlood 16 = .ok (.aload_n 0, 1) := by decide +kernel
theorem dX0_addFlood_17 : decode cX0_addFlood 17 = .ok (.getfield 41, 3) := by decide +kernel
theorem dX0_addFlood_20 : decode cX0_addFlood 20 = .ok (.iconst 0, 1) := by decide +kernel
theorem dX0_addFlood_21 : decode cX0_addFlood 21 = .ok (.bastore, 1) := by decide +kernel
theorem dX0_addFlood_22 : decode cX0_addFlood 22 = .ok (.aload_n 0, 1) := by decide +kernel
theorem dX0_addFlood_23 : decode cX0_addFlood 23 = .ok (.getfield 19, 3) := by decide +kernel
theorem dX0_addFlood_26 : decode cX0_addFlood 26 = .ok (.aload_n 0, 1) := by decide +kernel
theorem dX0_addFlood_27 : decode cX0_addFlood 27 = .ok (.getfield 41, 3) := by decide +kernel
theorem dX0_addFlood_30 : decode cX0_addFlood 30 = .ok (.iload_n 1, 1) := by decide +kernel
theorem dX0_addFlood_31 : decode cX0_addFlood 31 = .ok (.iastore, 1) := by decide +kernel
theorem dX0_addFlood_32 : decode cX0_addFlood 32 = .ok (.aload_n 0, 1) := by decide +kernel
theorem dX0_addFlood_33 : decode cX0_addFlood 33 = .ok (.getfield 22, 3) := by decide +kernel
theorem dX0_addFlood_36 : decode cX0_addFlood 36 = .ok (.aload_n 0, 1) := by decide +kernel
theorem dX0_addFlood_37 : decode cX0_addFlood 37 = .ok (.getfield 41, 3) := by decide +kernel
theorem dX0_addFlood_40 : decode cX0_addFlood 40 = .ok (.iconst 0, 1) := by decide +kernel
theorem dX0_addFlood_41 : decode cX0_addFlood 41 = .ok (.iastore, 1) := by decide +kernel
theorem dX0_addFlood_42 : decode cX0_addFlood 42 = .ok (.aload_n 0, 1) := by decide +kernel
theorem dX0_addFlood_43 : decode cX0_addFlood 43 = .ok (.aload_n 0, 1) := by decide +kernel
theorem dX0_addFlood_44 : decode cX0_addFlood 44 = .ok (.getfield 41, 3) := by decide +kernel
theorem dX0_addFlood_47 : decode cX0_addFlood 47 = .ok (.invokevirtual 50, 3) := by decide +kernel
theorem dX0_addFlood_50 : decode cX0_addFlood 50 = .ok (.aload_n 0, 1) := by decide +kernel
theorem dX0_addFlood_51 : decode cX0_addFlood 51 = .ok (.dup, 1) := by decide +kernel
theorem dX0_addFlood_52 : decode cX0_addFlood 52 = .ok (.getfield 41, 3) := by decide +kernel
theorem dX0_addFlood_55 : decode cX0_addFlood 55 = .ok (.dup_x1, 1) := by decide +kernel
theorem dX0_addFlood_56 : decode cX0_addFlood 56 = .ok (.iconst 1, 1) := by decide +kernel
theorem dX0_addFlood_57 : decode cX0_addFlood 57 = .ok (.iadd, 1) := by decide +kernel
theorem dX0_addFlood_58 : decode cX0_addFlood 58 = .ok (.putfield 41, 3) := by decide +kernel
theorem dX0_addFlood_61 : decode cX0_addFlood 61 = .ok (.ireturn, 1) := by decide +kernel
theorem dX0_spreadAll_0 : decode cX0_spreadAll 0 = .ok (.iconst 0, 1) := by decide +kernel
theorem dX0_spreadAll_1 : decode cX0_spreadAll 1 = .ok (.istore_n 1, 1) := by decide +kernel
theorem dX0_spreadAll_2 : decode cX0_spreadAll 2 = .ok (.iload_n 1, 1) := by decide +kernel
theorem dX0_spreadAll_3 : decode cX0_spreadAll 3 = .ok (.aload_n 0, 1) := by decide +kernel
theorem dX0_spreadAll_4 : decode cX0_spreadAll 4 = .ok (.getfield 41, 3) := by decide +kernel
theorem dX0_spreadAll_7 : decode cX0_spreadAll 7 = .ok (.if_icmp .ge 14, 3) := by decide +kernel
theorem dX0_spreadAll_10 : decode cX0_spreadAll 10 = .ok (.aload_n 0, 1) := by decide +kernel
theorem dX0_spreadAll_11 : decode cX0_spreadAll 11 = .ok (.iload_n 1, 1) := by decide +kernel
theorem dX0_spreadAll_12 : decode cX0_spreadAll 12 = .ok (.invokevirtual 50, 3) := by decide +kernel
theorem dX0_spreadAll_15 : decode cX0_spreadAll 15 = .ok (.iinc 1 1, 3) := by decide +kernel
theorem dX0_spreadAll_18 : decode cX0_spreadAll 18 = .ok (.goto (-16), 3) := by decide +kernel
theorem dX0_spreadAll_21 : decode cX0_spreadAll 21 = .ok (.return_, 1) := by decide +kernel
theorem dX0_spread_0 : decode cX0_spread 0 = .ok (.aload_n 0, 1) := by decide +kernel
theorem dX0_spread_1 : decode cX0_spread 1 = .ok (.iconst 0, 1) := by decide +kernel
theorem dX0_spread_2 : decode cX0_spread 2 = .ok (.putfield 54, 3) := by decide +kernel
theorem dX0_spread_5 : decode cX0_spread 5 = .ok (.iconst 0, 1) := by decide +kernel
theorem dX0_spread_6 : decode cX0_spread 6 = .ok (.istore_n 2, 1) := by decide +kernel
theorem dX0_spread_7 : decode cX0_spread 7 = .ok (.iload_n 2, 1) := by decide +kernel
theorem dX0_spread_8 : decode cX0_spread 8 = .ok (.aload_n 0, 1) := by decide +kernel
theorem dX0_spread_9 : decode cX0_spread 9 = .ok (.getfield 37, 3) := by decide +kernel
theorem dX0_spread_12 : decode cX0_spread 12 = .ok (.getfield 57, 3) := by decide +kernel
theorem dX0_spread_15 : decode cX0_spread 15 = .ok (.if_icmp .ge 21, 3) := by decide +kernel
theorem dX0_spread_18 : decode cX0_spread 18 = .ok (.aload_n 0, 1) := by decide +kernel
theorem dX0_spread_19 : decode cX0_spread 19 = .ok (.getfield 28, 3) := by decide +kernel
theorem dX0_spread_22 : decode cX0_spread 22 = .ok (.bipush 36, 2) := by decide +kernel
theorem dX0_spread_24 : decode cX0_spread 24 = .ok (.iload_n 1, 1) := by decide +kernel
theorem dX0_spread_25 : decode cX0_spread 25 = .ok (.imul, 1) := by decide +kernel
theorem dX0_spread_26 : decode cX0_spread 26 = .ok (.iload_n 2, 1) := by decide +kernel
theorem dX0_spread_27 : decode cX0_spread 27 = .ok (.iadd, 1) := by decide +kernel
theorem dX0_spread_28 : decode cX0_spread 28 = .ok (.iconst (-1), 1) := by decide +kernel
theorem dX0_spread_29 : decode cX0_spread 29 = .ok (.iastore, 1) := by decide +kernel
theorem dX0_spread_30 : decode cX0_spread 30 = .ok (.iinc 2 1, 3) := by decide +kernel
theorem dX0_spread_33 : decode cX0_spread 33 = .ok (.goto (-26), 3) := by decide +kernel
theorem dX0_spread_36 : decode cX0_spread 36 = .ok (.iconst 0, 1) := by decide +kernel
theorem dX0_spread_37 : decode cX0_spread 37 = .ok (.istore_n 2, 1) := by decide +kernel
theorem dX0_spread_38 : decode cX0_spread 38 = .ok (.iload_n 2, 1) := by decide +kernel
theorem dX0_spread_39 : decode cX0_spread 39 = .ok (.aload_n 0, 1) := by decide +kernel
theorem dX0_spread_40 : decode cX0_spread 40 = .ok (.getfield 37, 3) := by decide +kernel
theorem dX0_spread_43 : decode cX0_spread 43 = .ok (.getfield 57, 3) := by decide +kernel
theorem dX0_spread_46 : decode cX0_spread 46 = .ok (.if_icmp .ge 49, 3) := by decide +kernel
theorem dX0_spread_49 : decode cX0_spread 49 = .ok (.aload_n 0, 1) := by decide +kernel
theorem dX0_spread_50 : decode cX0_spread 50 = .ok (.getfield 9, 3) := by decide +kernel
theorem dX0_spread_53 : decode cX0_spread 53 = .ok (.iload_n 1, 1) := by decide +kernel
theorem dX0_spread_54 : decode cX0_spread 54 = .ok (.baload, 1) := by decide +kernel
theorem dX0_spread_55 : decode cX0_spread 55 = .ok (.ifCond .eq 16, 3) := by decide +kernel
theorem dX0_spread_58 : decode cX0_spread 58 = .ok (.aload_n 0, 1) := by decide +kernel
theorem dX0_spread_59 : decode cX0_spread 59 = .ok (.getfield 15, 3) := by decide +kernel
theorem dX0_spread_62 : decode cX0_spread 62 = .ok (.iload_n 1, 1) := by decide +kernel
theorem dX0_spread_63 : decode cX0_spread 63 = .ok (.iaload, 1) := by decide +kernel
theorem dX0_spread_64 : decode cX0_spread 64 = .ok (.iload_n 2, 1) := by decide +kernel
theorem dX0_spread_65 : decode cX0_spread 65 = .ok (.if_icmp .ne 24, 3) := by decide +kernel
theorem dX0_spread_68 : decode cX0_spread 68 = .ok (.goto 14, 3) := by decide +kernel
theorem dX0_spread_71 : decode cX0_spread 71 = .ok (.aload_n 0, 1) := by decide +kernel
theorem dX0_spread_72 : decode cX0_spread 72 = .ok (.getfield 37, 3) := by decide +kernel
theorem dX0_spread_75 : decode cX0_spread 75 = .ok (.iload_n 2, 1) := by decide +kernel
theorem dX0_spread_76 : decode cX0_spread 76 = .ok (.invokevirtual 60, 3) := by decide +kernel
theorem dX0_spread_79 : decode cX0_spread 79 = .ok (.ifCond .eq 10, 3) := by decide +kernel
theorem dX0_spread_82 : decode cX0_spread 82 = .ok (.aload_n 0, 1) := by decide +kernel
theorem dX0_spread_83 : decode cX0_spread 83 = .ok (.iload_n 1, 1) := by decide +kernel
theorem dX0_spread_84 : decode cX0_spread 84 = .ok (.iload_n 2, 1) := by decide +kernel
theorem dX0_spread_85 : decode cX0_spread 85 = .ok (.iconst 0, 1) := by decide +kernel
theorem dX0_spread_86 : decode cX0_spread 86 = .ok (.invokevirtual 64, 3) := by decide +kernel
theorem dX0_spread_89 : decode cX0_spread 89 = .ok (.iinc 2 1, 3) := by decide +kernel
theorem dX0_spread_92 : decode cX0_spread 92 = .ok (.goto (-54), 3) := by decide +kernel
theorem dX0_spread_95 : decode cX0_spread 95 = .ok (.iconst 0, 1) := by decide +kernel
theorem dX0_spread_96 : decode cX0_spread 96 = .ok (.istore_n 2, 1) := by decide +kernel
theorem dX0_spread_97 : decode cX0_spread 97 = .ok (.iload_n 2, 1) := by decide +kernel
theorem dX0_spread_98 : decode cX0_spread 98 = .ok (.aload_n 0, 1) := by decide +kernel
theorem dX0_spread_99 : decode cX0_spread 99 = .ok (.getfield 54, 3) := by decide +kernel
theorem dX0_spread_102 : decode cX0_spread 102 = .ok (.if_icmp .ge 64, 3) := by decide +kernel
theorem dX0_spread_105 : decode cX0_spread 105 = .ok (.iload_n 2, 1) := by decide +kernel
theorem dX0_spread_106 : decode cX0_spread 106 = .ok (.bipush 36, 2) := by decide +kernel
theorem dX0_spread_108 : decode cX0_spread 108 = .ok (.if_icmp .ge 58, 3) := by decide +kernel
theorem dX0_spread_111 : decode cX0_spread 111 = .ok (.aload_n 0, 1) := by decide +kernel
theorem dX0_spread_112 : decode cX0_spread 112 = .ok (.getfield 34, 3) := by decide +kernel
theorem dX0_spread_115 : decode cX0_spread 115 = .ok (.iload_n 2, 1) := by decide +kernel
theorem dX0_spread_116 : decode cX0_spread 116 = .ok (.iaload, 1) := by decide +kernel
theorem dX0_spread_117 : decode cX0_spread 117 = .ok (.istore_n 3, 1) := by decide +kernel
theorem dX0_spread_118 : decode cX0_spread 118 = .ok (.iconst 0, 1) := by decide +kernel
theorem dX0_spread_119 : decode cX0_spread 119 = .ok (.istore 4, 2) := by decide +kernel
theorem dX0_spread_121 : decode cX0_spread 121 = .ok (.iload 4, 2) := by decide +kernel
theorem dX0_spread_123 : decode cX0_spread 123 = .ok (.iconst 4, 1) := by decide +kernel
theorem dX0_spread_124 : decode cX0_spread 124 = .ok (.if_icmp .ge 36, 3) := by decide +kernel
theorem dX0_spread_127 : decode cX0_spread 127 = .ok (.aload_n 0, 1) := by decide +kernel
theorem dX0_spread_128 : decode cX0_spread 128 = .ok (.iload_n 1, 1) := by decide +kernel
theorem dX0_spread_129 : decode cX0_spread 129 = .ok (.aload_n 0, 1) := by decide +kernel
theorem dX0_spread_130 : decode cX0_spread 130 = .ok (.getfield 37, 3) := by decide +kernel
theorem dX0_spread_133 : decode cX0_spread 133 = .ok (.getfield 68, 3) := by decide +kernel
theorem dX0_spread_136 : decode cX0_spread 136 = .ok (.iconst 4, 1) := by decide +kernel
theorem dX0_spread_137 : decode cX0_spread 137 = .ok (.iload_n 3, 1) := by decide +kernel
theorem dX0_spread_138 : decode cX0_spread 138 = .ok (.imul, 1) := by decide +kernel
theorem dX0_spread_139 : decode cX0_spread 139 = .ok (.iload 4, 2) := by decide +kernel
theorem dX0_spread_141 : decode cX0_spread 141 = .ok (.iadd, 1) := by decide +kernel
theorem dX0_spread_142 : decode cX0_spread 142 = .ok (.iaload, 1) := by decide +kernel
theorem dX0_spread_143 : decode cX0_spread 143 = .ok (.aload_n 0, 1) := by decide +kernel
theorem dX0_spread_144 : decode cX0_spread 144 = .ok (.iload_n 1, 1) := by decide +kernel
theorem dX0_spread_145 : decode cX0_spread 145 = .ok (.iload_n 3, 1) := by decide +kernel
theorem dX0_spread_146 : decode cX0_spread 146 = .ok (.invokevirtual 71, 3) := by decide +kernel
theorem dX0_spread_149 : decode cX0_spread 149 = .ok (.iconst 1, 1) := by decide +kernel
theorem dX0_spread_150 : decode cX0_spread 150 = .ok (.iadd, 1) := by decide +kernel
theorem dX0_spread_151 : decode cX0_spread 151 = .ok (.invokevirtual 64, 3) := by decide +kernel
theorem dX0_spread_154 : decode cX0_spread 154 = .ok (.iinc 4 1, 3) := by decide +kernel
theorem dX0_spread_157 : decode cX0_spread 157 = .ok (.goto (-36), 3) := by decide +kernel
theorem dX0_spread_160 : decode cX0_spread 160 = .ok (.iinc 2 1, 3) := by decide +kernel
theorem dX0_spread_163 : decode cX0_spread 163 = .ok (.goto (-66), 3) := by decide +kernel
theorem dX0_spread_166 : decode cX0_spread 166 = .ok (.iconst 0, 1) := by decide +kernel
theorem dX0_spread_167 : decode cX0_spread 167 = .ok (.istore_n 2, 1) := by decide +kernel
theorem dX0_spread_168 : decode cX0_spread 168 = .ok (.iload_n 2, 1) := by decide +kernel
theorem dX0_spread_169 : decode cX0_spread 169 = .ok (.aload_n 0, 1) := by decide +kernel
theorem dX0_spread_170 : decode cX0_spread 170 = .ok (.getfield 37, 3) := by decide +kernel
theorem dX0_spread_173 : decode cX0_spread 173 = .ok (.getfield 57, 3) := by decide +kernel
theorem dX0_spread_176 : decode cX0_spread 176 = .ok (.if_icmp .ge 26, 3) := by decide +kernel
theorem dX0_spread_179 : decode cX0_spread 179 = .ok (.aload_n 0, 1) := by decide +kernel
theorem dX0_spread_180 : decode cX0_spread 180 = .ok (.getfield 31, 3) := by decide +kernel
theorem dX0_spread_183 : decode cX0_spread 183 = .ok (.bipush 36, 2) := by decide +kernel
theorem dX0_spread_185 : decode cX0_spread 185 = .ok (.iload_n 1, 1) := by decide +kernel
theorem dX0_spread_186 : decode cX0_spread 186 = .ok (.imul, 1) := by decide +kernel
theorem dX0_spread_187 : decode cX0_spread 187 = .ok (.iload_n 2, 1) := by decide +kernel
theorem dX0_spread_188 : decode cX0_spread 188 = .ok (.iadd, 1) := by decide +kernel
theorem dX0_spread_189 : decode cX0_spread 189 = .ok (.aload_n 0, 1) := by decide +kernel
theorem dX0_spread_190 : decode cX0_spread 190 = .ok (.iload_n 1, 1) := by decide +kernel
theorem dX0_spread_191 : decode cX0_spread 191 = .ok (.iload_n 2, 1) := by decide +kernel
theorem dX0_spread_192 : decode cX0_spread 192 = .ok (.invokevirtual 75, 3) := by decide +kernel
theorem dX0_spread_195 : decode cX0_spread 195 = .ok (.iastore, 1) := by decide +kernel
theorem dX0_spread_196 : decode cX0_spread 196 = .ok (.iinc 2 1, 3) := by decide +kernel
theorem dX0_spread_199 : decode cX0_spread 199 = .ok (.goto (-31), 3) := by decide +kernel
theorem dX0_spread_202 : decode cX0_spread 202 = .ok (.return_, 1) := by decide +kernel
theorem dX0_reach_0 : decode cX0_reach 0 = .ok (.iload_n 2, 1) := by decide +kernel
theorem dX0_reach_1 : decode cX0_reach 1 = .ok (.ifCond .lt 21, 3) := by decide +kernel
theorem dX0_reach_4 : decode cX0_reach 4 = .ok (.aload_n 0, 1) := by decide +kernel
theorem dX0_reach_5 : decode cX0_reach 5 = .ok (.iload_n 1, 1) := by decide +kernel
theorem dX0_reach_6 : decode cX0_reach 6 = .ok (.iload_n 2, 1) := by decide +kernel
theorem dX0_reach_7 : decode cX0_reach 7 = .ok (.invokevirtual 78, 3) := by decide +kernel
theorem dX0_reach_10 : decode cX0_reach 10 = .ok (.ifCond .ne 12, 3) := by decide +kernel
theorem dX0_reach_13 : decode cX0_reach 13 = .ok (.aload_n 0, 1) := by decide +kernel
theorem dX0_reach_14 : decode cX0_reach 14 = .ok (.getfield 54, 3) := by decide +kernel
theorem dX0_reach_17 : decode cX0_reach 17 = .ok (.bipush 36, 2) := by decide +kernel
theorem dX0_reach_19 : decode cX0_reach 19 = .ok (.if_icmp .lt 4, 3) := by decide +kernel
theorem dX0_reach_22 : decode cX0_reach 22 = .ok (.return_, 1) := by decide +kernel
theorem dX0_reach_23 : decode cX0_reach 23 = .ok (.aload_n 0, 1) := by decide +kernel
theorem dX0_reach_24 : decode cX0_reach 24 = .ok (.getfield 19, 3) := by decide +kernel
theorem dX0_reach_27 : decode cX0_reach 27 = .ok (.iload_n 1, 1) := by decide +kernel
theorem dX0_reach_28 : decode cX0_reach 28 = .ok (.iaload, 1) := by decide +kernel
theorem dX0_reach_29 : decode cX0_reach 29 = .ok (.aload_n 0, 1) := by decide +kernel
theorem dX0_reach_30 : decode cX0_reach 30 = .ok (.getfield 22, 3) := by decide +kernel
theorem dX0_reach_33 : decode cX0_reach 33 = .ok (.iload_n 1, 1) := by decide +kernel
theorem dX0_reach_34 : decode cX0_reach 34 = .ok (.iaload, 1) := by decide +kernel
theorem dX0_reach_35 : decode cX0_reach 35 = .ok (.iload_n 3, 1) := by decide +kernel
theorem dX0_reach_36 : decode cX0_reach 36 = .ok (.imul, 1) := by decide +kernel
theorem dX0_reach_37 : decode cX0_reach 37 = .ok (.isub, 1) := by decide +kernel
theorem dX0_reach_38 : decode cX0_reach 38 = .ok (.aload_n 0, 1) := by decide +kernel
theorem dX0_reach_39 : decode cX0_reach 39 = .ok (.getfield 37, 3) := by decide +kernel
theorem dX0_reach_42 : decode cX0_reach 42 = .ok (.getfield 82, 3) := by decide +kernel
theorem dX0_reach_45 : decode cX0_reach 45 = .ok (.iload_n 2, 1) := by decide +kernel
theorem dX0_reach_46 : decode cX0_reach 46 = .ok (.iaload, 1) := by decide +kernel
theorem dX0_reach_47 : decode cX0_reach 47 = .ok (.if_icmp .le 32, 3) := by decide +kernel
theorem dX0_reach_50 : decode cX0_reach 50 = .ok (.aload_n 0, 1) := by decide +kernel
theorem dX0_reach_51 : decode cX0_reach 51 = .ok (.getfield 28, 3) := by decide +kernel
theorem dX0_reach_54 : decode cX0_reach 54 = .ok (.bipush 36, 2) := by decide +kernel
theorem dX0_reach_56 : decode cX0_reach 56 = .ok (.iload_n 1, 1) := by decide +kernel
theorem dX0_reach_57 : decode cX0_reach 57 = .ok (.imul, 1) := by decide +kernel
theorem dX0_reach_58 : decode cX0_reach 58 = .ok (.iload_n 2, 1) := by decide +kernel
theorem dX0_reach_59 : decode cX0_reach 59 = .ok (.iadd, 1) := by decide +kernel
theorem dX0_reach_60 : decode cX0_reach 60 = .ok (.iload_n 3, 1) := by decide +kernel
theorem dX0_reach_61 : decode cX0_reach 61 = .ok (.iastore, 1) := by decide +kernel
theorem dX0_reach_62 : decode cX0_reach 62 = .ok (.aload_n 0, 1) := by decide +kernel
theorem dX0_reach_63 : decode cX0_reach 63 = .ok (.getfield 34, 3) := by decide +kernel
theorem dX0_reach_66 : decode cX0_reach 66 = .ok (.aload_n 0, 1) := by decide +kernel
theorem dX0_reach_67 : decode cX0_reach 67 = .ok (.dup, 1) := by decide +kernel
theorem dX0_reach_68 : decode cX0_reach 68 = .ok (.getfield 54, 3) := by decide +kernel
theorem dX0_reach_71 : decode cX0_reach 71 = .ok (.dup_x1, 1) := by decide +kernel
theorem dX0_reach_72 : decode cX0_reach 72 = .ok (.iconst 1, 1) := by decide +kernel
theorem dX0_reach_73 : decode cX0_reach 73 = .ok (.iadd, 1) := by decide +kernel
theorem dX0_reach_74 : decode cX0_reach 74 = .ok (.putfield 54, 3) := by decide +kernel
theorem dX0_reach_77 : decode cX0_reach 77 = .ok (.iload_n 2, 1) := by decide +kernel
theorem dX0_reach_78 : decode cX0_reach 78 = .ok (.iastore, 1) := by decide +kernel
theorem dX0_reach_79 : decode cX0_reach 79 = .ok (.return_, 1) := by decide +kernel
theorem dX0_findCourse_0 : decode cX0_findCourse 0 = .ok (.iconst (-1), 1) := by decide +kernel
theorem dX0_findCourse_1 : decode cX0_findCourse 1 = .ok (.istore_n 3, 1) := by decide +kernel
theorem dX0_findCourse_2 : decode cX0_findCourse 2 = .ok (.iconst (-1), 1) := by decide +kernel
theorem dX0_findCourse_3 : decode cX0_findCourse 3 = .ok (.istore 4, 2) := by decide +kernel
theorem dX0_findCourse_5 : decode cX0_findCourse 5 = .ok (.iconst 0, 1) := by decide +kernel
theorem dX0_findCourse_6 : decode cX0_findCourse 6 = .ok (.istore 5, 2) := by decide +kernel
theorem dX0_findCourse_8 : decode cX0_findCourse 8 = .ok (.iload 5, 2) := by decide +kernel
theorem dX0_findCourse_10 : decode cX0_findCourse 10 = .ok (.iconst 4, 1) := by decide +kernel
theorem dX0_findCourse_11 : decode cX0_findCourse 11 = .ok (.if_icmp .ge 60, 3) := by decide +kernel
theorem dX0_findCourse_14 : decode cX0_findCourse 14 = .ok (.aload_n 0, 1) := by decide +kernel
theorem dX0_findCourse_15 : decode cX0_findCourse 15 = .ok (.getfield 37, 3) := by decide +kernel
theorem dX0_findCourse_18 : decode cX0_findCourse 18 = .ok (.getfield 68, 3) := by decide +kernel
theorem dX0_findCourse_21 : decode cX0_findCourse 21 = .ok (.iconst 4, 1) := by decide +kernel
theorem dX0_findCourse_22 : decode cX0_findCourse 22 = .ok (.iload_n 2, 1) := by decide +kernel
theorem dX0_findCourse_23 : decode cX0_findCourse 23 = .ok (.imul, 1) := by decide +kernel
theorem dX0_findCourse_24 : decode cX0_findCourse 24 = .ok (.iload 5, 2) := by decide +kernel
theorem dX0_findCourse_26 : decode cX0_findCourse 26 = .ok (.iadd, 1) := by decide +kernel
theorem dX0_findCourse_27 : decode cX0_findCourse 27 = .ok (.iaload, 1) := by decide +kernel
theorem dX0_findCourse_28 : decode cX0_findCourse 28 = .ok (.istore 6, 2) := by decide +kernel
theorem dX0_findCourse_30 : decode cX0_findCourse 30 = .ok (.aload_n 0, 1) := by decide +kernel
theorem dX0_findCourse_31 : decode cX0_findCourse 31 = .ok (.iload_n 1, 1) := by decide +kernel
theorem dX0_findCourse_32 : decode cX0_findCourse 32 = .ok (.iload_n 2, 1) := by decide +kernel
theorem dX0_findCourse_33 : decode cX0_findCourse 33 = .ok (.iload 6, 2) := by decide +kernel
theorem dX0_findCourse_35 : decode cX0_findCourse 35 = .ok (.invokevirtual 85, 3) := by decide +kernel
theorem dX0_findCourse_38 : decode cX0_findCourse 38 = .ok (.ifCond .eq 27, 3) := by decide +kernel
theorem dX0_findCourse_41 : decode cX0_findCourse 41 = .ok (.iload 4, 2) := by decide +kernel
theorem dX0_findCourse_43 : decode cX0_findCourse 43 = .ok (.ifCond .lt 15, 3) := by decide +kernel
theorem dX0_findCourse_46 : decode cX0_findCourse 46 = .ok (.aload_n 0, 1) := by decide +kernel
theorem dX0_findCourse_47 : decode cX0_findCourse 47 = .ok (.iload_n 1, 1) := by decide +kernel
theorem dX0_findCourse_48 : decode cX0_findCourse 48 = .ok (.iload 6, 2) := by decide +kernel
theorem dX0_findCourse_50 : decode cX0_findCourse 50 = .ok (.iload 4, 2) := by decide +kernel
theorem dX0_findCourse_52 : decode cX0_findCourse 52 = .ok (.invokevirtual 88, 3) := by decide +kernel
theorem dX0_findCourse_55 : decode cX0_findCourse 55 = .ok (.ifCond .eq 10, 3) := by decide +kernel
theorem dX0_findCourse_58 : decode cX0_findCourse 58 = .ok (.iload 5, 2) := by decide +kernel
theorem dX0_findCourse_60 : decode cX0_findCourse 60 = .ok (.istore_n 3, 1) := by decide +kernel
theorem dX0_findCourse_61 : decode cX0_findCourse 61 = .ok (.iload 6, 2) := by decide +kernel
theorem dX0_findCourse_63 : decode cX0_findCourse 63 = .ok (.istore 4, 2) := by decide +kernel
theorem dX0_findCourse_65 : decode cX0_findCourse 65 = .ok (.iinc 5 1, 3) := by decide +kernel
theorem dX0_findCourse_68 : decode cX0_findCourse 68 = .ok (.goto (-60), 3) := by decide +kernel
theorem dX0_findCourse_71 : decode cX0_findCourse 71 = .ok (.iload_n 3, 1) := by decide +kernel
theorem dX0_findCourse_72 : decode cX0_findCourse 72 = .ok (.ireturn, 1) := by decide +kernel
theorem dX0_leads_0 : decode cX0_leads 0 = .ok (.iload_n 3, 1) := by decide +kernel
theorem dX0_leads_1 : decode cX0_leads 1 = .ok (.ifCond .lt 21, 3) := by decide +kernel
theorem dX0_leads_4 : decode cX0_leads 4 = .ok (.aload_n 0, 1) := by decide +kernel
theorem dX0_leads_5 : decode cX0_leads 5 = .ok (.iload_n 1, 1) := by decide +kernel
theorem dX0_leads_6 : decode cX0_leads 6 = .ok (.iload_n 2, 1) := by decide +kernel
theorem dX0_leads_7 : decode cX0_leads 7 = .ok (.invokevirtual 78, 3) := by decide +kernel
theorem dX0_leads_10 : decode cX0_leads 10 = .ok (.ifCond .eq 12, 3) := by decide +kernel
theorem dX0_leads_13 : decode cX0_leads 13 = .ok (.aload_n 0, 1) := by decide +kernel
theorem dX0_leads_14 : decode cX0_leads 14 = .ok (.iload_n 1, 1) := by decide +kernel
theorem dX0_leads_15 : decode cX0_leads 15 = .ok (.iload_n 3, 1) := by decide +kernel
theorem dX0_leads_16 : decode cX0_leads 16 = .ok (.invokevirtual 78, 3) := by decide +kernel
theorem dX0_leads_19 : decode cX0_leads 19 = .ok (.ifCond .ne 5, 3) := by decide +kernel
theorem dX0_leads_22 : decode cX0_leads 22 = .ok (.iconst 0, 1) := by decide +kernel
theorem dX0_leads_23 : decode cX0_leads 23 = .ok (.ireturn, 1) := by decide +kernel
theorem dX0_leads_24 : decode cX0_leads 24 = .ok (.aload_n 0, 1) := by decide +kernel
theorem dX0_leads_25 : decode cX0_leads 25 = .ok (.getfield 9, 3) := by decide +kernel
theorem dX0_leads_28 : decode cX0_leads 28 = .ok (.iload_n 1, 1) := by decide +kernel
theorem dX0_leads_29 : decode cX0_leads 29 = .ok (.baload, 1) := by decide +kernel
theorem dX0_leads_30 : decode cX0_leads 30 = .ok (.ifCond .eq 26, 3) := by decide +kernel
theorem dX0_leads_33 : decode cX0_leads 33 = .ok (.aload_n 0, 1) := by decide +kernel
theorem dX0_leads_34 : decode cX0_leads 34 = .ok (.iload_n 1, 1) := by decide +kernel
theorem dX0_leads_35 : decode cX0_leads 35 = .ok (.iload_n 3, 1) := by decide +kernel
theorem dX0_leads_36 : decode cX0_leads 36 = .ok (.invokevirtual 71, 3) := by decide +kernel
theorem dX0_leads_39 : decode cX0_leads 39 = .ok (.aload_n 0, 1) := by decide +kernel
theorem dX0_leads_40 : decode cX0_leads 40 = .ok (.iload_n 1, 1) := by decide +kernel
theorem dX0_leads_41 : decode cX0_leads 41 = .ok (.iload_n 2, 1) := by decide +kernel
theorem dX0_leads_42 : decode cX0_leads 42 = .ok (.invokevirtual 71, 3) := by decide +kernel
theorem dX0_leads_45 : decode cX0_leads 45 = .ok (.iconst 1, 1) := by decide +kernel
theorem dX0_leads_46 : decode cX0_leads 46 = .ok (.iadd, 1) := by decide +kernel
theorem dX0_leads_47 : decode cX0_leads 47 = .ok (.if_icmp .ne 7, 3) := by decide +kernel
theorem dX0_leads_50 : decode cX0_leads 50 = .ok (.iconst 1, 1) := by decide +kernel
theorem dX0_leads_51 : decode cX0_leads 51 = .ok (.goto 4, 3) := by decide +kernel
theorem dX0_leads_54 : decode cX0_leads 54 = .ok (.iconst 0, 1) := by decide +kernel
theorem dX0_leads_55 : decode cX0_leads 55 = .ok (.ireturn, 1) := by decide +kernel
theorem dX0_leads_56 : decode cX0_leads 56 = .ok (.aload_n 0, 1) := by decide +kernel
theorem dX0_leads_57 : decode cX0_leads 57 = .ok (.getfield 37, 3) := by decide +kernel
theorem dX0_leads_60 : decode cX0_leads 60 = .ok (.getfield 82, 3) := by decide +kernel
theorem dX0_leads_63 : decode cX0_leads 63 = .ok (.iload_n 3, 1) := by decide +kernel
theorem dX0_leads_64 : decode cX0_leads 64 = .ok (.iaload, 1) := by decide +kernel
theorem dX0_leads_65 : decode cX0_leads 65 = .ok (.aload_n 0, 1) := by decide +kernel
theorem dX0_leads_66 : decode cX0_leads 66 = .ok (.getfield 37, 3) := by decide +kernel
theorem dX0_leads_69 : decode cX0_leads 69 = .ok (.getfield 82, 3) := by decide +kernel
theorem dX0_leads_72 : decode cX0_leads 72 = .ok (.iload_n 2, 1) := by decide +kernel
theorem dX0_leads_73 : decode cX0_leads 73 = .ok (.iaload, 1) := by decide +kernel
theorem dX0_leads_74 : decode cX0_leads 74 = .ok (.if_icmp .ge 7, 3) := by decide +kernel
theorem dX0_leads_77 : decode cX0_leads 77 = .ok (.iconst 1, 1) := by decide +kernel
theorem dX0_leads_78 : decode cX0_leads 78 = .ok (.goto 4, 3) := by decide +kernel
theorem dX0_leads_81 : decode cX0_leads 81 = .ok (.iconst 0, 1) := by decide +kernel
theorem dX0_leads_82 : decode cX0_leads 82 = .ok (.ireturn, 1) := by decide +kernel
theorem dX0_isBefore_0 : decode cX0_isBefore 0 = .ok (.aload_n 0, 1) := by decide +kernel
theorem dX0_isBefore_1 : decode cX0_isBefore 1 = .ok (.getfield 9, 3) := by decide +kernel
theorem dX0_isBefore_4 : decode cX0_isBefore 4 = .ok (.iload_n 1, 1) := by decide +kernel
theorem dX0_isBefore_5 : decode cX0_isBefore 5 = .ok (.baload, 1) := by decide +kernel
theorem dX0_isBefore_6 : decode cX0_isBefore 6 = .ok (.ifCond .ne 24, 3) := by decide +kernel
theorem dX0_isBefore_9 : decode cX0_isBefore 9 = .ok (.aload_n 0, 1) := by decide +kernel
theorem dX0_isBefore_10 : decode cX0_isBefore 10 = .ok (.getfield 37, 3) := by decide +kernel
theorem dX0_isBefore_13 : decode cX0_isBefore 13 = .ok (.getfield 82, 3) := by decide +kernel
theorem dX0_isBefore_16 : decode cX0_isBefore 16 = .ok (.iload_n 2, 1) := by decide +kernel
theorem dX0_isBefore_17 : decode cX0_isBefore 17 = .ok (.iaload, 1) := by decide +kernel
theorem dX0_isBefore_18 : decode cX0_isBefore 18 = .ok (.aload_n 0, 1) := by decide +kernel
theorem dX0_isBefore_19 : decode cX0_isBefore 19 = .ok (.getfield 37, 3) := by decide +kernel
theorem dX0_isBefore_22 : decode cX0_isBefore 22 = .ok (.getfield 82, 3) := by decide +kernel
theorem dX0_isBefore_25 : decode cX0_isBefore 25 = .ok (.iload_n 3, 1) := by decide +kernel
theorem dX0_isBefore_26 : decode cX0_isBefore 26 = .ok (.iaload, 1) := by decide +kernel
theorem dX0_isBefore_27 : decode cX0_isBefore 27 = .ok (.if_icmp .ne 14, 3) := by decide +kernel
theorem dX0_isBefore_30 : decode cX0_isBefore 30 = .ok (.iload_n 2, 1) := by decide +kernel
theorem dX0_isBefore_31 : decode cX0_isBefore 31 = .ok (.iload_n 3, 1) := by decide +kernel
theorem dX0_isBefore_32 : decode cX0_isBefore 32 = .ok (.if_icmp .ge 7, 3) := by decide +kernel
theorem dX0_isBefore_35 : decode cX0_isBefore 35 = .ok (.iconst 1, 1) := by decide +kernel
theorem dX0_isBefore_36 : decode cX0_isBefore 36 = .ok (.goto 4, 3) := by decide +kernel
theorem dX0_isBefore_39 : decode cX0_isBefore 39 = .ok (.iconst 0, 1) := by decide +kernel
theorem dX0_isBefore_40 : decode cX0_isBefore 40 = .ok (.ireturn, 1) := by decide +kernel
theorem dX0_isBefore_41 : decode cX0_isBefore 41 = .ok (.aload_n 0, 1) := by decide +kernel
theorem dX0_isBefore_42 : decode cX0_isBefore 42 = .ok (.getfield 37, 3) := by decide +kernel
theorem dX0_isBefore_45 : decode cX0_isBefore 45 = .ok (.getfield 82, 3) := by decide +kernel
theorem dX0_isBefore_48 : decode cX0_isBefore 48 = .ok (.iload_n 2, 1) := by decide +kernel
theorem dX0_isBefore_49 : decode cX0_isBefore 49 = .ok (.iaload, 1) := by decide +kernel
theorem dX0_isBefore_50 : decode cX0_isBefore 50 = .ok (.aload_n 0, 1) := by decide +kernel
theorem dX0_isBefore_51 : decode cX0_isBefore 51 = .ok (.getfield 37, 3) := by decide +kernel
theorem dX0_isBefore_54 : decode cX0_isBefore 54 = .ok (.getfield 82, 3) := by decide +kernel
theorem dX0_isBefore_57 : decode cX0_isBefore 57 = .ok (.iload_n 3, 1) := by decide +kernel
theorem dX0_isBefore_58 : decode cX0_isBefore 58 = .ok (.iaload, 1) := by decide +kernel
theorem dX0_isBefore_59 : decode cX0_isBefore 59 = .ok (.if_icmp .ge 7, 3) := by decide +kernel
theorem dX0_isBefore_62 : decode cX0_isBefore 62 = .ok (.iconst 1, 1) := by decide +kernel
theorem dX0_isBefore_63 : decode cX0_isBefore 63 = .ok (.goto 4, 3) := by decide +kernel
theorem dX0_isBefore_66 : decode cX0_isBefore 66 = .ok (.iconst 0, 1) := by decide +kernel
theorem dX0_isBefore_67 : decode cX0_isBefore 67 = .ok (.ireturn, 1) := by decide +kernel
theorem dX0_isCovered_0 : decode cX0_isCovered 0 = .ok (.aload_n 0, 1) := by decide +kernel
theorem dX0_isCovered_1 : decode cX0_isCovered 1 = .ok (.getfield 28, 3) := by decide +kernel
theorem dX0_isCovered_4 : decode cX0_isCovered 4 = .ok (.bipush 36, 2) := by decide +kernel
theorem dX0_isCovered_6 : decode cX0_isCovered 6 = .ok (.iload_n 1, 1) := by decide +kernel
theorem dX0_isCovered_7 : decode cX0_isCovered 7 = .ok (.imul, 1) := by decide +kernel
theorem dX0_isCovered_8 : decode cX0_isCovered 8 = .ok (.iload_n 2, 1) := by decide +kernel
theorem dX0_isCovered_9 : decode cX0_isCovered 9 = .ok (.iadd, 1) := by decide +kernel
theorem dX0_isCovered_10 : decode cX0_isCovered 10 = .ok (.iaload, 1) := by decide +kernel
theorem dX0_isCovered_11 : decode cX0_isCovered 11 = .ok (.ifCond .lt 7, 3) := by decide +kernel
theorem dX0_isCovered_14 : decode cX0_isCovered 14 = .ok (.iconst 1, 1) := by decide +kernel
theorem dX0_isCovered_15 : decode cX0_isCovered 15 = .ok (.goto 4, 3) := by decide +kernel
theorem dX0_isCovered_18 : decode cX0_isCovered 18 = .ok (.iconst 0, 1) := by decide +kernel
theorem dX0_isCovered_19 : decode cX0_isCovered 19 = .ok (.ireturn, 1) := by decide +kernel
theorem dX0_isIced_0 : decode cX0_isIced 0 = .ok (.aload_n 0, 1) := by decide +kernel
theorem dX0_isIced_1 : decode cX0_isIced 1 = .ok (.getfield 9, 3) := by decide +kernel
theorem dX0_isIced_4 : decode cX0_isIced 4 = .ok (.iload_n 1, 1) := by decide +kernel
theorem dX0_isIced_5 : decode cX0_isIced 5 = .ok (.baload, 1) := by decide +kernel
theorem dX0_isIced_6 : decode cX0_isIced 6 = .ok (.ifCond .eq 16, 3) := by decide +kernel
theorem dX0_isIced_9 : decode cX0_isIced 9 = .ok (.aload_n 0, 1) := by decide +kernel
theorem dX0_isIced_10 : decode cX0_isIced 10 = .ok (.iload_n 1, 1) := by decide +kernel
theorem dX0_isIced_11 : decode cX0_isIced 11 = .ok (.iload_n 2, 1) := by decide +kernel
theorem dX0_isIced_12 : decode cX0_isIced 12 = .ok (.invokevirtual 78, 3) := by decide +kernel
theorem dX0_isIced_15 : decode cX0_isIced 15 = .ok (.ifCond .eq 7, 3) := by decide +kernel
theorem dX0_isIced_18 : decode cX0_isIced 18 = .ok (.iconst 1, 1) := by decide +kernel
theorem dX0_isIced_19 : decode cX0_isIced 19 = .ok (.goto 4, 3) := by decide +kernel
theorem dX0_isIced_22 : decode cX0_isIced 22 = .ok (.iconst 0, 1) := by decide +kernel
theorem dX0_isIced_23 : decode cX0_isIced 23 = .ok (.ireturn, 1) := by decide +kernel
theorem dX0_isHeap_0 : decode cX0_isHeap 0 = .ok (.aload_n 0, 1) := by decide +kernel
theorem dX0_isHeap_1 : decode cX0_isHeap 1 = .ok (.getfield 9, 3) := by decide +kernel
theorem dX0_isHeap_4 : decode cX0_isHeap 4 = .ok (.iload_n 1, 1) := by decide +kernel
theorem dX0_isHeap_5 : decode cX0_isHeap 5 = .ok (.baload, 1) := by decide +kernel
theorem dX0_isHeap_6 : decode cX0_isHeap 6 = .ok (.ifCond .eq 25, 3) := by decide +kernel
theorem dX0_isHeap_9 : decode cX0_isHeap 9 = .ok (.aload_n 0, 1) := by decide +kernel
theorem dX0_isHeap_10 : decode cX0_isHeap 10 = .ok (.iload_n 1, 1) := by decide +kernel
theorem dX0_isHeap_11 : decode cX0_isHeap 11 = .ok (.iload_n 2, 1) := by decide +kernel
theorem dX0_isHeap_12 : decode cX0_isHeap 12 = .ok (.invokevirtual 78, 3) := by decide +kernel
theorem dX0_isHeap_15 : decode cX0_isHeap 15 = .ok (.ifCond .eq 16, 3) := by decide +kernel
theorem dX0_isHeap_18 : decode cX0_isHeap 18 = .ok (.aload_n 0, 1) := by decide +kernel
theorem dX0_isHeap_19 : decode cX0_isHeap 19 = .ok (.iload_n 1, 1) := by decide +kernel
theorem dX0_isHeap_20 : decode cX0_isHeap 20 = .ok (.iload_n 2, 1) := by decide +kernel
theorem dX0_isHeap_21 : decode cX0_isHeap 21 = .ok (.invokevirtual 91, 3) := by decide +kernel
theorem dX0_isHeap_24 : decode cX0_isHeap 24 = .ok (.ifCond .ge 7, 3) := by decide +kernel
theorem dX0_isHeap_27 : decode cX0_isHeap 27 = .ok (.iconst 1, 1) := by decide +kernel
theorem dX0_isHeap_28 : decode cX0_isHeap 28 = .ok (.goto 4, 3) := by decide +kernel
theorem dX0_isHeap_31 : decode cX0_isHeap 31 = .ok (.iconst 0, 1) := by decide +kernel
theorem dX0_isHeap_32 : decode cX0_isHeap 32 = .ok (.ireturn, 1) := by decide +kernel
theorem dX0_isFlowing_0 : decode cX0_isFlowing 0 = .ok (.aload_n 0, 1) := by decide +kernel
theorem dX0_isFlowing_1 : decode cX0_isFlowing 1 = .ok (.getfield 9, 3) := by decide +kernel
theorem dX0_isFlowing_4 : decode cX0_isFlowing 4 = .ok (.iload_n 1, 1) := by decide +kernel
theorem dX0_isFlowing_5 : decode cX0_isFlowing 5 = .ok (.baload, 1) := by decide +kernel
theorem dX0_isFlowing_6 : decode cX0_isFlowing 6 = .ok (.ifCond .eq 17, 3) := by decide +kernel
theorem dX0_isFlowing_9 : decode cX0_isFlowing 9 = .ok (.aload_n 0, 1) := by decide +kernel
theorem dX0_isFlowing_10 : decode cX0_isFlowing 10 = .ok (.iload_n 1, 1) := by decide +kernel
theorem dX0_isFlowing_11 : decode cX0_isFlowing 11 = .ok (.iload_n 2, 1) := by decide +kernel
theorem dX0_isFlowing_12 : decode cX0_isFlowing 12 = .ok (.invokevirtual 91, 3) := by decide +kernel
theorem dX0_isFlowing_15 : decode cX0_isFlowing 15 = .ok (.iload_n 3, 1) := by decide +kernel
theorem dX0_isFlowing_16 : decode cX0_isFlowing 16 = .ok (.if_icmp .ne 7, 3) := by decide +kernel
theorem dX0_isFlowing_19 : decode cX0_isFlowing 19 = .ok (.iconst 1, 1) := by decide +kernel
theorem dX0_isFlowing_20 : decode cX0_isFlowing 20 = .ok (.goto 4, 3) := by decide +kernel
theorem dX0_isFlowing_23 : decode cX0_isFlowing 23 = .ok (.iconst 0, 1) := by decide +kernel
theorem dX0_isFlowing_24 : decode cX0_isFlowing 24 = .ok (.ireturn, 1) := by decide +kernel
theorem dX0_distAt_0 : decode cX0_distAt 0 = .ok (.aload_n 0, 1) := by decide +kernel
theorem dX0_distAt_1 : decode cX0_distAt 1 = .ok (.getfield 28, 3) := by decide +kernel
theorem dX0_distAt_4 : decode cX0_distAt 4 = .ok (.bipush 36, 2) := by decide +kernel
theorem dX0_distAt_6 : decode cX0_distAt 6 = .ok (.iload_n 1, 1) := by decide +kernel
theorem dX0_distAt_7 : decode cX0_distAt 7 = .ok (.imul, 1) := by decide +kernel
theorem dX0_distAt_8 : decode cX0_distAt 8 = .ok (.iload_n 2, 1) := by decide +kernel
theorem dX0_distAt_9 : decode cX0_distAt 9 = .ok (.iadd, 1) := by decide +kernel
theorem dX0_distAt_10 : decode cX0_distAt 10 = .ok (.iaload, 1) := by decide +kernel
theorem dX0_distAt_11 : decode cX0_distAt 11 = .ok (.ireturn, 1) := by decide +kernel
theorem dX0_thickAt_0 : decode cX0_thickAt 0 = .ok (.aload_n 0, 1) := by decide +kernel
theorem dX0_thickAt_1 : decode cX0_thickAt 1 = .ok (.getfield 19, 3) := by decide +kernel
theorem dX0_thickAt_4 : decode cX0_thickAt 4 = .ok (.iload_n 1, 1) := by decide +kernel
theorem dX0_thickAt_5 : decode cX0_thickAt 5 = .ok (.iaload, 1) := by decide +kernel
theorem dX0_thickAt_6 : decode cX0_thickAt 6 = .ok (.aload_n 0, 1) := by decide +kernel
theorem dX0_thickAt_7 : decode cX0_thickAt 7 = .ok (.getfield 22, 3) := by decide +kernel
theorem dX0_thickAt_10 : decode cX0_thickAt 10 = .ok (.iload_n 1, 1) := by decide +kernel
theorem dX0_thickAt_11 : decode cX0_thickAt 11 = .ok (.iaload, 1) := by decide +kernel
theorem dX0_thickAt_12 : decode cX0_thickAt 12 = .ok (.aload_n 0, 1) := by decide +kernel
theorem dX0_thickAt_13 : decode cX0_thickAt 13 = .ok (.iload_n 1, 1) := by decide +kernel
theorem dX0_thickAt_14 : decode cX0_thickAt 14 = .ok (.iload_n 2, 1) := by decide +kernel
theorem dX0_thickAt_15 : decode cX0_thickAt 15 = .ok (.invokevirtual 71, 3) := by decide +kernel
theorem dX0_thickAt_18 : decode cX0_thickAt 18 = .ok (.imul, 1) := by decide +kernel
theorem dX0_thickAt_19 : decode cX0_thickAt 19 = .ok (.isub, 1) := by decide +kernel
theorem dX0_thickAt_20 : decode cX0_thickAt 20 = .ok (.aload_n 0, 1) := by decide +kernel
theorem dX0_thickAt_21 : decode cX0_thickAt 21 = .ok (.getfield 37, 3) := by decide +kernel
theorem dX0_thickAt_24 : decode cX0_thickAt 24 = .ok (.getfield 82, 3) := by decide +kernel
theorem dX0_thickAt_27 : decode cX0_thickAt 27 = .ok (.iload_n 2, 1) := by decide +kernel
theorem dX0_thickAt_28 : decode cX0_thickAt 28 = .ok (.iaload, 1) := by decide +kernel
theorem dX0_thickAt_29 : decode cX0_thickAt 29 = .ok (.isub, 1) := by decide +kernel
theorem dX0_thickAt_30 : decode cX0_thickAt 30 = .ok (.ireturn, 1) := by decide +kernel
theorem dX0_courseAt_0 : decode cX0_courseAt 0 = .ok (.aload_n 0, 1) := by decide +kernel
theorem dX0_courseAt_1 : decode cX0_courseAt 1 = .ok (.getfield 31, 3) := by decide +kernel
theorem dX0_courseAt_4 : decode cX0_courseAt 4 = .ok (.bipush 36, 2) := by decide +kernel
theorem dX0_courseAt_6 : decode cX0_courseAt 6 = .ok (.iload_n 1, 1) := by decide +kernel
theorem dX0_courseAt_7 : decode cX0_courseAt 7 = .ok (.imul, 1) := by decide +kernel
theorem dX0_courseAt_8 : decode cX0_courseAt 8 = .ok (.iload_n 2, 1) := by decide +kernel
theorem dX0_courseAt_9 : decode cX0_courseAt 9 = .ok (.iadd, 1) := by decide +kernel
theorem dX0_courseAt_10 : decode cX0_courseAt 10 = .ok (.iaload, 1) := by decide +kernel
theorem dX0_courseAt_11 : decode cX0_courseAt 11 = .ok (.ireturn, 1) := by decide +kernel
theorem dX0_countCovered_0 : decode cX0_countCovered 0 = .ok (.iconst 0, 1) := by decide +kernel
theorem dX0_countCovered_1 : decode cX0_countCovered 1 = .ok (.istore_n 2, 1) := by decide +kernel
theorem dX0_countCovered_2 : decode cX0_countCovered 2 = .ok (.iconst 0, 1) := by decide +kernel
theorem dX0_countCovered_3 : decode cX0_countCovered 3 = .ok (.istore_n 3, 1) := by decide +kernel
theorem dX0_countCovered_4 : decode cX0_countCovered 4 = .ok (.iload_n 3, 1) := by decide +kernel
theorem dX0_countCovered_5 : decode cX0_countCovered 5 = .ok (.aload_n 0, 1) := by decide +kernel
theorem dX0_countCovered_6 : decode cX0_countCovered 6 = .ok (.getfield 37, 3) := by decide +kernel
theorem dX0_countCovered_9 : decode cX0_countCovered 9 = .ok (.getfield 57, 3) := by decide +kernel
theorem dX0_countCovered_12 : decode cX0_countCovered 12 = .ok (.if_icmp .ge 21, 3) := by decide +kernel
theorem dX0_countCovered_15 : decode cX0_countCovered 15 = .ok (.iload_n 2, 1) := by decide +kernel
theorem dX0_countCovered_16 : decode cX0_countCovered 16 = .ok (.aload_n 0, 1) := by decide +kernel
theorem dX0_countCovered_17 : decode cX0_countCovered 17 = .ok (.iload_n 1, 1) := by decide +kernel
theorem dX0_countCovered_18 : decode cX0_countCovered 18 = .ok (.iload_n 3, 1) := by decide +kernel
theorem dX0_countCovered_19 : decode cX0_countCovered 19 = .ok (.invokevirtual 78, 3) := by decide +kernel
theorem dX0_countCovered_22 : decode cX0_countCovered 22 = .ok (.invokestatic 94, 3) := by decide +kernel
theorem dX0_countCovered_25 : decode cX0_countCovered 25 = .ok (.iadd, 1) := by decide +kernel
theorem dX0_countCovered_26 : decode cX0_countCovered 26 = .ok (.istore_n 2, 1) := by decide +kernel
theorem dX0_countCovered_27 : decode cX0_countCovered 27 = .ok (.iinc 3 1, 3) := by decide +kernel
theorem dX0_countCovered_30 : decode cX0_countCovered 30 = .ok (.goto (-26), 3) := by decide +kernel
theorem dX0_countCovered_33 : decode cX0_countCovered 33 = .ok (.iload_n 2, 1) := by decide +kernel
theorem dX0_countCovered_34 : decode cX0_countCovered 34 = .ok (.ireturn, 1) := by decide +kernel
theorem dX0_carry_0 : decode cX0_carry 0 = .ok (.iload_n 3, 1) := by decide +kernel
theorem dX0_carry_1 : decode cX0_carry 1 = .ok (.iconst 2, 1) := by decide +kernel
theorem dX0_carry_2 : decode cX0_carry 2 = .ok (.if_icmp .gt 7, 3) := by decide +kernel
theorem dX0_carry_5 : decode cX0_carry 5 = .ok (.iconst 1, 1) := by decide +kernel
theorem dX0_carry_6 : decode cX0_carry 6 = .ok (.goto 4, 3) := by decide +kernel
theorem dX0_carry_9 : decode cX0_carry 9 = .ok (.iconst 0, 1) := by decide +kernel
theorem dX0_carry_10 : decode cX0_carry 10 = .ok (.istore 4, 2) := by decide +kernel
theorem dX0_carry_12 : decode cX0_carry 12 = .ok (.aload_n 0, 1) := by decide +kernel
theorem dX0_carry_13 : decode cX0_carry 13 = .ok (.getfield 9, 3) := by decide +kernel
theorem dX0_carry_16 : decode cX0_carry 16 = .ok (.iload_n 1, 1) := by decide +kernel
theorem dX0_carry_17 : decode cX0_carry 17 = .ok (.baload, 1) := by decide +kernel
theorem dX0_carry_18 : decode cX0_carry 18 = .ok (.ifCond .eq 22, 3) := by decide +kernel
theorem dX0_carry_21 : decode cX0_carry 21 = .ok (.iload_n 3, 1) := by decide +kernel
theorem dX0_carry_22 : decode cX0_carry 22 = .ok (.iconst 1, 1) := by decide +kernel
theorem dX0_carry_23 : decode cX0_carry 23 = .ok (.if_icmp .ge 7, 3) := by decide +kernel
theorem dX0_carry_26 : decode cX0_carry 26 = .ok (.iconst 0, 1) := by decide +kernel
theorem dX0_carry_27 : decode cX0_carry 27 = .ok (.goto 11, 3) := by decide +kernel
theorem dX0_carry_30 : decode cX0_carry 30 = .ok (.aload_n 0, 1) := by decide +kernel
theorem dX0_carry_31 : decode cX0_carry 31 = .ok (.getfield 25, 3) := by decide +kernel
theorem dX0_carry_34 : decode cX0_carry 34 = .ok (.iload_n 1, 1) := by decide +kernel
theorem dX0_carry_35 : decode cX0_carry 35 = .ok (.iaload, 1) := by decide +kernel
theorem dX0_carry_36 : decode cX0_carry 36 = .ok (.iload_n 3, 1) := by decide +kernel
theorem dX0_carry_37 : decode cX0_carry 37 = .ok (.idiv, 1) := by decide +kernel
theorem dX0_carry_38 : decode cX0_carry 38 = .ok (.istore 4, 2) := by decide +kernel
theorem dX0_carry_40 : decode cX0_carry 40 = .ok (.iload_n 2, 1) := by decide +kernel
theorem dX0_carry_41 : decode cX0_carry 41 = .ok (.istore 5, 2) := by decide +kernel
theorem dX0_carry_43 : decode cX0_carry 43 = .ok (.iconst 0, 1) := by decide +kernel
theorem dX0_carry_44 : decode cX0_carry 44 = .ok (.istore 6, 2) := by decide +kernel
theorem dX0_carry_46 : decode cX0_carry 46 = .ok (.iload 6, 2) := by decide +kernel
theorem dX0_carry_48 : decode cX0_carry 48 = .ok (.iload 4, 2) := by decide +kernel
theorem dX0_carry_50 : decode cX0_carry 50 = .ok (.if_icmp .ge 48, 3) := by decide +kernel
theorem dX0_carry_53 : decode cX0_carry 53 = .ok (.aload_n 0, 1) := by decide +kernel
theorem dX0_carry_54 : decode cX0_carry 54 = .ok (.getfield 31, 3) := by decide +kernel
theorem dX0_carry_57 : decode cX0_carry 57 = .ok (.bipush 36, 2) := by decide +kernel
theorem dX0_carry_59 : decode cX0_carry 59 = .ok (.iload_n 1, 1) := by decide +kernel
theorem dX0_carry_60 : decode cX0_carry 60 = .ok (.imul, 1) := by decide +kernel
theorem dX0_carry_61 : decode cX0_carry 61 = .ok (.iload 5, 2) := by decide +kernel
theorem dX0_carry_63 : decode cX0_carry 63 = .ok (.iadd, 1) := by decide +kernel
theorem dX0_carry_64 : decode cX0_carry 64 = .ok (.iaload, 1) := by decide +kernel
theorem dX0_carry_65 : decode cX0_carry 65 = .ok (.istore 7, 2) := by decide +kernel
theorem dX0_carry_67 : decode cX0_carry 67 = .ok (.iload 7, 2) := by decide +kernel
theorem dX0_carry_69 : decode cX0_carry 69 = .ok (.ifCond .ge 6, 3) := by decide +kernel
theorem dX0_carry_72 : decode cX0_carry 72 = .ok (.iload 5, 2) := by decide +kernel
theorem dX0_carry_74 : decode cX0_carry 74 = .ok (.ireturn, 1) := by decide +kernel
theorem dX0_carry_75 : decode cX0_carry 75 = .ok (.aload_n 0, 1) := by decide +kernel
theorem dX0_carry_76 : decode cX0_carry 76 = .ok (.getfield 37, 3) := by decide +kernel
theorem dX0_carry_79 : decode cX0_carry 79 = .ok (.getfield 68, 3) := by decide +kernel
theorem dX0_carry_82 : decode cX0_carry 82 = .ok (.iconst 4, 1) := by decide +kernel
theorem dX0_carry_83 : decode cX0_carry 83 = .ok (.iload 5, 2) := by decide +kernel
theorem dX0_carry_85 : decode cX0_carry 85 = .ok (.imul, 1) := by decide +kernel
theorem dX0_carry_86 : decode cX0_carry 86 = .ok (.iload 7, 2) := by decide +kernel
theorem dX0_carry_88 : decode cX0_carry 88 = .ok (.iadd, 1) := by decide +kernel
theorem dX0_carry_89 : decode cX0_carry 89 = .ok (.iaload, 1) := by decide +kernel
theorem dX0_carry_90 : decode cX0_carry 90 = .ok (.istore 5, 2) := by decide +kernel
theorem dX0_carry_92 : decode cX0_carry 92 = .ok (.iinc 6 1, 3) := by decide +kernel
theorem dX0_carry_95 : decode cX0_carry 95 = .ok (.goto (-49), 3) := by decide +kernel
theorem dX0_carry_98 : decode cX0_carry 98 = .ok (.iload 5, 2) := by decide +kernel
theorem dX0_carry_100 : decode cX0_carry 100 = .ok (.ireturn, 1) := by decide +kernel
theorem dX0_carryAlong_0 : decode cX0_carryAlong 0 = .ok (.iload_n 2, 1) := by decide +kernel
theorem dX0_carryAlong_1 : decode cX0_carryAlong 1 = .ok (.istore 4, 2) := by decide +kernel
theorem dX0_carryAlong_3 : decode cX0_carryAlong 3 = .ok (.iconst 0, 1) := by decide +kernel
theorem dX0_carryAlong_4 : decode cX0_carryAlong 4 = .ok (.istore 5, 2) := by decide +kernel
theorem dX0_carryAlong_6 : decode cX0_carryAlong 6 = .ok (.iload 5, 2) := by decide +kernel
theorem dX0_carryAlong_8 : decode cX0_carryAlong 8 = .ok (.aload_n 1, 1) := by decide +kernel
theorem dX0_carryAlong_9 : decode cX0_carryAlong 9 = .ok (.getfield 98, 3) := by decide +kernel
theorem dX0_carryAlong_12 : decode cX0_carryAlong 12 = .ok (.if_icmp .ge 25, 3) := by decide +kernel
theorem dX0_carryAlong_15 : decode cX0_carryAlong 15 = .ok (.aload_n 0, 1) := by decide +kernel
theorem dX0_carryAlong_16 : decode cX0_carryAlong 16 = .ok (.aload_n 1, 1) := by decide +kernel
theorem dX0_carryAlong_17 : decode cX0_carryAlong 17 = .ok (.getfield 101, 3) := by decide +kernel
theorem dX0_carryAlong_20 : decode cX0_carryAlong 20 = .ok (.iload 5, 2) := by decide +kernel
theorem dX0_carryAlong_22 : decode cX0_carryAlong 22 = .ok (.iaload, 1) := by decide +kernel
theorem dX0_carryAlong_23 : decode cX0_carryAlong 23 = .ok (.iload 4, 2) := by decide +kernel
theorem dX0_carryAlong_25 : decode cX0_carryAlong 25 = .ok (.iload_n 3, 1) := by decide +kernel
theorem dX0_carryAlong_26 : decode cX0_carryAlong 26 = .ok (.invokevirtual 104, 3) := by decide +kernel
theorem dX0_carryAlong_29 : decode cX0_carryAlong 29 = .ok (.istore 4, 2) := by decide +kernel
theorem dX0_carryAlong_31 : decode cX0_carryAlong 31 = .ok (.iinc 5 1, 3) := by decide +kernel
theorem dX0_carryAlong_34 : decode cX0_carryAlong 34 = .ok (.goto (-28), 3) := by decide +kernel
theorem dX0_carryAlong_37 : decode cX0_carryAlong 37 = .ok (.iload 4, 2) := by decide +kernel
theorem dX0_carryAlong_39 : decode cX0_carryAlong 39 = .ok (.ireturn, 1) := by decide +kernel
theorem dX1_init_0 : decode cX1_init 0 = .ok (.aload_n 0, 1) := by decide +kernel
theorem dX1_init_1 : decode cX1_init 1 = .ok (.invokespecial 3, 3) := by decide +kernel
theorem dX1_init_4 : decode cX1_init 4 = .ok (.aload_n 0, 1) := by decide +kernel
theorem dX1_init_5 : decode cX1_init 5 = .ok (.bipush 36, 2) := by decide +kernel
theorem dX1_init_7 : decode cX1_init 7 = .ok (.newarray .int, 2) := by decide +kernel
theorem dX1_init_9 : decode cX1_init 9 = .ok (.putfield 9, 3) := by decide +kernel
theorem dX1_init_12 : decode cX1_init 12 = .ok (.aload_n 0, 1) := by decide +kernel
theorem dX1_init_13 : decode cX1_init 13 = .ok (.bipush 36, 2) := by decide +kernel
theorem dX1_init_15 : decode cX1_init 15 = .ok (.newarray .int, 2) := by decide +kernel
theorem dX1_init_17 : decode cX1_init 17 = .ok (.putfield 15, 3) := by decide +kernel
theorem dX1_init_20 : decode cX1_init 20 = .ok (.aload_n 0, 1) := by decide +kernel
theorem dX1_init_21 : decode cX1_init 21 = .ok (.sipush 144, 3) := by decide +kernel
theorem dX1_init_24 : decode cX1_init 24 = .ok (.newarray .int, 2) := by decide +kernel
theorem dX1_init_26 : decode cX1_init 26 = .ok (.putfield 18, 3) := by decide +kernel
theorem dX1_init_29 : decode cX1_init 29 = .ok (.aload_n 0, 1) := by decide +kernel
theorem dX1_init_30 : decode cX1_init 30 = .ok (.iconst 4, 1) := by decide +kernel
theorem dX1_init_31 : decode cX1_init 31 = .ok (.iconst 4, 1) := by decide +kernel
theorem dX1_init_32 : decode cX1_init 32 = .ok (.invokevirtual 21, 3) := by decide +kernel
theorem dX1_init_35 : decode cX1_init 35 = .ok (.return_, 1) := by decide +kernel
theorem dX1_lay_0 : decode cX1_lay 0 = .ok (.aload_n 0, 1) := by decide +kernel
theorem dX1_lay_1 : decode cX1_lay 1 = .ok (.iload_n 1, 1) := by decide +kernel
theorem dX1_lay_2 : decode cX1_lay 2 = .ok (.iload_n 2, 1) := by decide +kernel
theorem dX1_lay_3 : decode cX1_lay 3 = .ok (.imul, 1) := by decide +kernel
theorem dX1_lay_4 : decode cX1_lay 4 = .ok (.putfield 25, 3) := by decide +kernel
theorem dX1_lay_7 : decode cX1_lay 7 = .ok (.aload_n 0, 1) := by decide +kernel
theorem dX1_lay_8 : decode cX1_lay 8 = .ok (.getfield 9, 3) := by decide +kernel
theorem dX1_lay_11 : decode cX1_lay 11 = .ok (.iconst 0, 1) := by decide +kernel
theorem dX1_lay_12 : decode cX1_lay 12 = .ok (.invokestatic 29, 3) := by decide +kernel
theorem dX1_lay_15 : decode cX1_lay 15 = .ok (.aload_n 0, 1) := by decide +kernel
theorem dX1_lay_16 : decode cX1_lay 16 = .ok (.getfield 15, 3) := by decide +kernel
theorem dX1_lay_19 : decode cX1_lay 19 = .ok (.iconst 0, 1) := by decide +kernel
theorem dX1_lay_20 : decode cX1_lay 20 = .ok (.invokestatic 29, 3) := by decide +kernel
theorem dX1_lay_23 : decode cX1_lay 23 = .ok (.iconst 0, 1) := by decide +kernel
theorem dX1_lay_24 : decode cX1_lay 24 = .ok (.istore_n 3, 1) := by decide +kernel
theorem dX1_lay_25 : decode cX1_lay 25 = .ok (.iload_n 3, 1) := by decide +kernel
theorem dX1_lay_26 : decode cX1_lay 26 = .ok (.iload_n 2, 1) := by decide +kernel
theorem dX1_lay_27 : decode cX1_lay 27 = .ok (.if_icmp .ge 33, 3) := by decide +kernel
theorem dX1_lay_30 : decode cX1_lay 30 = .ok (.iconst 0, 1) := by decide +kernel
theorem dX1_lay_31 : decode cX1_lay 31 = .ok (.istore 4, 2) := by decide +kernel
theorem dX1_lay_33 : decode cX1_lay 33 = .ok (.iload 4, 2) := by decide +kernel
theorem dX1_lay_35 : decode cX1_lay 35 = .ok (.iload_n 1, 1) := by decide +kernel
theorem dX1_lay_36 : decode cX1_lay 36 = .ok (.if_icmp .ge 18, 3) := by decide +kernel
theorem dX1_lay_39 : decode cX1_lay 39 = .ok (.aload_n 0, 1) := by decide +kernel
theorem dX1_lay_40 : decode cX1_lay 40 = .ok (.iload 4, 2) := by decide +kernel
theorem dX1_lay_42 : decode cX1_lay 42 = .ok (.iload_n 3, 1) := by decide +kernel
theorem dX1_lay_43 : decode cX1_lay 43 = .ok (.iload_n 1, 1) := by decide +kernel
theorem dX1_lay_44 : decode cX1_lay 44 = .ok (.iload_n 2, 1) := by decide +kernel
theorem dX1_lay_45 : decode cX1_lay 45 = .ok (.invokevirtual 35, 3) := by decide +kernel
theorem dX1_lay_48 : decode cX1_lay 48 = .ok (.iinc 4 1, 3) := by decide +kernel
theorem dX1_lay_51 : decode cX1_lay 51 = .ok (.goto (-18), 3) := by decide +kernel
theorem dX1_lay_54 : decode cX1_lay 54 = .ok (.iinc 3 1, 3) := by decide +kernel
theorem dX1_lay_57 : decode cX1_lay 57 = .ok (.goto (-32), 3) := by decide +kernel
theorem dX1_lay_60 : decode cX1_lay 60 = .ok (.return_, 1) := by decide +kernel
theorem dX1_layBeside_0 : decode cX1_layBeside 0 = .ok (.iconst 0, 1) := by decide +kernel
theorem dX1_layBeside_1 : decode cX1_layBeside 1 = .ok (.istore 5, 2) := by decide +kernel
theorem dX1_layBeside_3 : decode cX1_layBeside 3 = .ok (.iload 5, 2) := by decide +kernel
theorem dX1_layBeside_5 : decode cX1_layBeside 5 = .ok (.iconst 4, 1) := by decide +kernel
theorem dX1_layBeside_6 : decode cX1_layBeside 6 = .ok (.if_icmp .ge 92, 3) := by decide +kernel
theorem dX1_layBeside_9 : decode cX1_layBeside 9 = .ok (.iload_n 1, 1) := by decide +kernel
theorem dX1_layBeside_10 : decode cX1_layBeside 10 = .ok (.getstatic 39, 3) := by decide +kernel
theorem dX1_layBeside_13 : decode cX1_layBeside 13 = .ok (.iload 5, 2) := by decide +kernel
theorem dX1_layBeside_15 : decode cX1_layBeside 15 = .ok (.iaload, 1) := by decide +kernel
theorem dX1_layBeside_16 : decode cX1_layBeside 16 = .ok (.iadd, 1) := by decide +kernel
theorem dX1_layBeside_17 : decode cX1_layBeside 17 = .ok (.istore 6, 2) := by decide +kernel
theorem dX1_layBeside_19 : decode cX1_layBeside 19 = .ok (.iload_n 2, 1) := by decide +kernel
theorem dX1_layBeside_20 : decode cX1_layBeside 20 = .ok (.getstatic 42, 3) := by decide +kernel
theorem dX1_layBeside_23 : decode cX1_layBeside 23 = .ok (.iload 5, 2) := by decide +kernel
theorem dX1_layBeside_25 : decode cX1_layBeside 25 = .ok (.iaload, 1) := by decide +kernel
theorem dX1_layBeside_26 : decode cX1_layBeside 26 = .ok (.iadd, 1) := by decide +kernel
theorem dX1_layBeside_27 : decode cX1_layBeside 27 = .ok (.istore 7, 2) := by decide +kernel
theorem dX1_layBeside_29 : decode cX1_layBeside 29 = .ok (.iload 6, 2) := by decide +kernel
theorem dX1_layBeside_31 : decode cX1_layBeside 31 = .ok (.iconst 0, 1) := by decide +kernel
theorem dX1_layBeside_32 : decode cX1_layBeside 32 = .ok (.iload_n 3, 1) := by decide +kernel
theorem dX1_layBeside_33 : decode cX1_layBeside 33 = .ok (.iconst 1, 1) := by decide +kernel
theorem dX1_layBeside_34 : decode cX1_layBeside 34 = .ok (.isub, 1) := by decide +kernel
theorem dX1_layBeside_35 : decode cX1_layBeside 35 = .ok (.invokestatic 45, 3) := by decide +kernel
theorem dX1_layBeside_38 : decode cX1_layBeside 38 = .ok (.ifCond .eq 20, 3) := by decide +kernel
theorem dX1_layBeside_41 : decode cX1_layBeside 41 = .ok (.iload 7, 2) := by decide +kernel
theorem dX1_layBeside_43 : decode cX1_layBeside 43 = .ok (.iconst 0, 1) := by decide +kernel
theorem dX1_layBeside_44 : decode cX1_layBeside 44 = .ok (.iload 4, 2) := by decide +kernel
theorem dX1_layBeside_46 : decode cX1_layBeside 46 = .ok (.iconst 1, 1) := by decide +kernel
theorem dX1_layBeside_47 : decode cX1_layBeside 47 = .ok (.isub, 1) := by decide +kernel
theorem dX1_layBeside_48 : decode cX1_layBeside 48 = .ok (.invokestatic 45, 3) := by decide +kernel
theorem dX1_layBeside_51 : decode cX1_layBeside 51 = .ok (.ifCond .eq 7, 3) := by decide +kernel
theorem dX1_layBeside_54 : decode cX1_layBeside 54 = .ok (.iconst 1, 1) := by decide +kernel
theorem dX1_layBeside_55 : decode cX1_layBeside 55 = .ok (.goto 4, 3) := by decide +kernel
theorem dX1_layBeside_58 : decode cX1_layBeside 58 = .ok (.iconst 0, 1) := by decide +kernel
theorem dX1_layBeside_59 : decode cX1_layBeside 59 = .ok (.istore 8, 2) := by decide +kernel
theorem dX1_layBeside_61 : decode cX1_layBeside 61 = .ok (.aload_n 0, 1) := by decide +kernel
theorem dX1_layBeside_62 : decode cX1_layBeside 62 = .ok (.getfield 18, 3) := by decide +kernel
theorem dX1_layBeside_65 : decode cX1_layBeside 65 = .ok (.iconst 4, 1) := by decide +kernel
theorem dX1_layBeside_66 : decode cX1_layBeside 66 = .ok (.iload_n 2, 1) := by decide +kernel
theorem dX1_layBeside_67 : decode cX1_layBeside 67 = .ok (.iload_n 3, 1) := by decide +kernel
theorem dX1_layBeside_68 : decode cX1_layBeside 68 = .ok (.imul, 1) := by decide +kernel
theorem dX1_layBeside_69 : decode cX1_layBeside 69 = .ok (.iload_n 1, 1) := by decide +kernel
theorem dX1_layBeside_70 : decode cX1_layBeside 70 = .ok (.iadd, 1) := by decide +kernel
theorem dX1_layBeside_71 : decode cX1_layBeside 71 = .ok (.imul, 1) := by decide +kernel
theorem dX1_layBeside_72 : decode cX1_layBeside 72 = .ok (.iload 5, 2) := by decide +kernel
theorem dX1_layBeside_74 : decode cX1_layBeside 74 = .ok (.iadd, 1) := by decide +kernel
theorem dX1_layBeside_75 : decode cX1_layBeside 75 = .ok (.iload 8, 2) := by decide +kernel
theorem dX1_layBeside_77 : decode cX1_layBeside 77 = .ok (.ifCond .eq 13, 3) := by decide +kernel
theorem dX1_layBeside_80 : decode cX1_layBeside 80 = .ok (.iload 7, 2) := by decide +kernel
theorem dX1_layBeside_82 : decode cX1_layBeside 82 = .ok (.iload_n 3, 1) := by decide +kernel
theorem dX1_layBeside_83 : decode cX1_layBeside 83 = .ok (.imul, 1) := by decide +kernel
theorem dX1_layBeside_84 : decode cX1_layBeside 84 = .ok (.iload 6, 2) := by decide +kernel
theorem dX1_layBeside_86 : decode cX1_layBeside 86 = .ok (.iadd, 1) := by decide +kernel
theorem dX1_layBeside_87 : decode cX1_layBeside 87 = .ok (.goto 4, 3) := by decide +kernel
theorem dX1_layBeside_90 : decode cX1_layBeside 90 = .ok (.iconst (-1), 1) := by decide +kernel
theorem dX1_layBeside_91 : decode cX1_layBeside 91 = .ok (.iastore, 1) := by decide +kernel
theorem dX1_layBeside_92 : decode cX1_layBeside 92 = .ok (.iinc 5 1, 3) := by decide +kernel
theorem dX1_layBeside_95 : decode cX1_layBeside 95 = .ok (.goto (-92), 3) := by decide +kernel
theorem dX1_layBeside_98 : decode cX1_layBeside 98 = .ok (.return_, 1) := by decide +kernel
theorem dX1_has_0 : decode cX1_has 0 = .ok (.iload_n 1, 1) := by decide +kernel
theorem dX1_has_1 : decode cX1_has 1 = .ok (.iconst 0, 1) := by decide +kernel
theorem dX1_has_2 : decode cX1_has 2 = .ok (.aload_n 0, 1) := by decide +kernel
theorem dX1_has_3 : decode cX1_has 3 = .ok (.getfield 25, 3) := by decide +kernel
theorem dX1_has_6 : decode cX1_has 6 = .ok (.iconst 1, 1) := by decide +kernel
theorem dX1_has_7 : decode cX1_has 7 = .ok (.isub, 1) := by decide +kernel
theorem dX1_has_8 : decode cX1_has 8 = .ok (.invokestatic 45, 3) := by decide +kernel
theorem dX1_has_11 : decode cX1_has 11 = .ok (.ireturn, 1) := by decide +kernel
theorem dX1_isEdge_0 : decode cX1_isEdge 0 = .ok (.iconst 0, 1) := by decide +kernel
theorem dX1_isEdge_1 : decode cX1_isEdge 1 = .ok (.istore_n 2, 1) := by decide +kernel
theorem dX1_isEdge_2 : decode cX1_isEdge 2 = .ok (.iload_n 2, 1) := by decide +kernel
theorem dX1_isEdge_3 : decode cX1_isEdge 3 = .ok (.iconst 4, 1) := by decide +kernel
theorem dX1_isEdge_4 : decode cX1_isEdge 4 = .ok (.if_icmp .ge 24, 3) := by decide +kernel
theorem dX1_isEdge_7 : decode cX1_isEdge 7 = .ok (.aload_n 0, 1) := by decide +kernel
theorem dX1_isEdge_8 : decode cX1_isEdge 8 = .ok (.getfield 18, 3) := by decide +kernel
theorem dX1_isEdge_11 : decode cX1_isEdge 11 = .ok (.iconst 4, 1) := by decide +kernel
theorem dX1_isEdge_12 : decode cX1_isEdge 12 = .ok (.iload_n 1, 1) := by decide +kernel
theorem dX1_isEdge_13 : decode cX1_isEdge 13 = .ok (.imul, 1) := by decide +kernel
theorem dX1_isEdge_14 : decode cX1_isEdge 14 = .ok (.iload_n 2, 1) := by decide +kernel
theorem dX1_isEdge_15 : decode cX1_isEdge 15 = .ok (.iadd, 1) := by decide +kernel
theorem dX1_isEdge_16 : decode cX1_isEdge 16 = .ok (.iaload, 1) := by decide +kernel
theorem dX1_isEdge_17 : decode cX1_isEdge 17 = .ok (.ifCond .ge 5, 3) := by decide +kernel
theorem dX1_isEdge_20 : decode cX1_isEdge 20 = .ok (.iconst 1, 1) := by decide +kernel
theorem dX1_isEdge_21 : decode cX1_isEdge 21 = .ok (.ireturn, 1) := by decide +kernel
theorem dX1_isEdge_22 : decode cX1_isEdge 22 = .ok (.iinc 2 1, 3) := by decide +kernel
theorem dX1_isEdge_25 : decode cX1_isEdge 25 = .ok (.goto (-23), 3) := by decide +kernel
theorem dX1_isEdge_28 : decode cX1_isEdge 28 = .ok (.iconst 0, 1) := by decide +kernel
theorem dX1_isEdge_29 : decode cX1_isEdge 29 = .ok (.ireturn, 1) := by decide +kernel
theorem dX2_init_0 : decode cX2_init 0 = .ok (.aload_n 0, 1) := by decide +kernel
theorem dX2_init_1 : decode cX2_init 1 = .ok (.invokespecial 3, 3) := by decide +kernel
theorem dX2_init_4 : decode cX2_init 4 = .ok (.aload_n 0, 1) := by decide +kernel
theorem dX2_init_5 : decode cX2_init 5 = .ok (.bipush 10, 2) := by decide +kernel
theorem dX2_init_7 : decode cX2_init 7 = .ok (.newarray .int, 2) := by decide +kernel
theorem dX2_init_9 : decode cX2_init 9 = .ok (.putfield 9, 3) := by decide +kernel
theorem dX2_init_12 : decode cX2_init 12 = .ok (.aload_n 0, 1) := by decide +kernel
theorem dX2_init_13 : decode cX2_init 13 = .ok (.bipush 10, 2) := by decide +kernel
theorem dX2_init_15 : decode cX2_init 15 = .ok (.newarray .int, 2) := by decide +kernel
theorem dX2_init_17 : decode cX2_init 17 = .ok (.putfield 15, 3) := by decide +kernel
theorem dX2_init_20 : decode cX2_init 20 = .ok (.return_, 1) := by decide +kernel
theorem dX2_mask_0 : decode cX2_mask 0 = .ok (.iconst 1, 1) := by decide +kernel
theorem dX2_mask_1 : decode cX2_mask 1 = .ok (.bipush 9, 2) := by decide +kernel
theorem dX2_mask_3 : decode cX2_mask 3 = .ok (.iload_n 0, 1) := by decide +kernel
theorem dX2_mask_4 : decode cX2_mask 4 = .ok (.isub, 1) := by decide +kernel
theorem dX2_mask_5 : decode cX2_mask 5 = .ok (.ishl, 1) := by decide +kernel
theorem dX2_mask_6 : decode cX2_mask 6 = .ok (.ireturn, 1) := by decide +kernel
theorem dX2_isToldOver_0 : decode cX2_isToldOver 0 = .ok (.aload_n 0, 1) := by decide +kernel
theorem dX2_isToldOver_1 : decode cX2_isToldOver 1 = .ok (.getfield 9, 3) := by decide +kernel
theorem dX2_isToldOver_4 : decode cX2_isToldOver 4 = .ok (.iload_n 1, 1) := by decide +kernel
theorem dX2_isToldOver_5 : decode cX2_isToldOver 5 = .ok (.iaload, 1) := by decide +kernel
theorem dX2_isToldOver_6 : decode cX2_isToldOver 6 = .ok (.iload_n 2, 1) := by decide +kernel
theorem dX2_isToldOver_7 : decode cX2_isToldOver 7 = .ok (.invokestatic 18, 3) := by decide +kernel
theorem dX2_isToldOver_10 : decode cX2_isToldOver 10 = .ok (.iand, 1) := by decide +kernel
theorem dX2_isToldOver_11 : decode cX2_isToldOver 11 = .ok (.ifCond .eq 7, 3) := by decide +kernel
theorem dX2_isToldOver_14 : decode cX2_isToldOver 14 = .ok (.iconst 1, 1) := by decide +kernel
theorem dX2_isToldOver_15 : decode cX2_isToldOver 15 = .ok (.goto 4, 3) := by decide +kernel
theorem dX2_isToldOver_18 : decode cX2_isToldOver 18 = .ok (.iconst 0, 1) := by decide +kernel
theorem dX2_isToldOver_19 : decode cX2_isToldOver 19 = .ok (.ireturn, 1) := by decide +kernel
theorem dX2_isRoundAbout_0 : decode cX2_isRoundAbout 0 = .ok (.aload_n 0, 1) := by decide +kernel
theorem dX2_isRoundAbout_1 : decode cX2_isRoundAbout 1 = .ok (.getfield 15, 3) := by decide +kernel
theorem dX2_isRoundAbout_4 : decode cX2_isRoundAbout 4 = .ok (.iload_n 1, 1) := by decide +kernel
theorem dX2_isRoundAbout_5 : decode cX2_isRoundAbout 5 = .ok (.iaload, 1) := by decide +kernel
theorem dX2_isRoundAbout_6 : decode cX2_isRoundAbout 6 = .ok (.iload_n 2, 1) := by decide +kernel
theorem dX2_isRoundAbout_7 : decode cX2_isRoundAbout 7 = .ok (.invokestatic 18, 3) := by decide +kernel
theorem dX2_isRoundAbout_10 : decode cX2_isRoundAbout 10 = .ok (.iand, 1) := by decide +kernel
theorem dX2_isRoundAbout_11 : decode cX2_isRoundAbout 11 = .ok (.ifCond .eq 7, 3) := by decide +kernel
theorem dX2_isRoundAbout_14 : decode cX2_isRoundAbout 14 = .ok (.iconst 1, 1) := by decide +kernel
theorem dX2_isRoundAbout_15 : decode cX2_isRoundAbout 15 = .ok (.goto 4, 3) := by decide +kernel
theorem dX2_isRoundAbout_18 : decode cX2_isRoundAbout 18 = .ok (.iconst 0, 1) := by decide +kernel
theorem dX2_isRoundAbout_19 : decode cX2_isRoundAbout 19 = .ok (.ireturn, 1) := by decide +kernel
theorem dX2_turn_0 : decode cX2_turn 0 = .ok (.aload_n 0, 1) := by decide +kernel
theorem dX2_turn_1 : decode cX2_turn 1 = .ok (.dup, 1) := by decide +kernel
theorem dX2_turn_2 : decode cX2_turn 2 = .ok (.getfield 22, 3) := by decide +kernel
theorem dX2_turn_5 : decode cX2_turn 5 = .ok (.aload_n 0, 1) := by decide +kernel
theorem dX2_turn_6 : decode cX2_turn 6 = .ok (.iload_n 1, 1) := by decide +kernel
theorem dX2_turn_7 : decode cX2_turn 7 = .ok (.iload_n 2, 1) := by decide +kernel
theorem dX2_turn_8 : decode cX2_turn 8 = .ok (.invokevirtual 26, 3) := by decide +kernel
theorem dX2_turn_11 : decode cX2_turn 11 = .ok (.ifCond .eq 7, 3) := by decide +kernel
theorem dX2_turn_14 : decode cX2_turn 14 = .ok (.iconst (-1), 1) := by decide +kernel
theorem dX2_turn_15 : decode cX2_turn 15 = .ok (.goto 4, 3) := by decide +kernel
theorem dX2_turn_18 : decode cX2_turn 18 = .ok (.iconst 1, 1) := by decide +kernel
theorem dX2_turn_19 : decode cX2_turn 19 = .ok (.iadd, 1) := by decide +kernel
theorem dX2_turn_20 : decode cX2_turn 20 = .ok (.putfield 22, 3) := by decide +kernel
theorem dX2_turn_23 : decode cX2_turn 23 = .ok (.aload_n 0, 1) := by decide +kernel
theorem dX2_turn_24 : decode cX2_turn 24 = .ok (.getfield 9, 3) := by decide +kernel
theorem dX2_turn_27 : decode cX2_turn 27 = .ok (.iload_n 1, 1) := by decide +kernel
theorem dX2_turn_28 : decode cX2_turn 28 = .ok (.dup2, 1) := by decide +kernel
theorem dX2_turn_29 : decode cX2_turn 29 = .ok (.iaload, 1) := by decide +kernel
theorem dX2_turn_30 : decode cX2_turn 30 = .ok (.iload_n 2, 1) := by decide +kernel
theorem dX2_turn_31 : decode cX2_turn 31 = .ok (.invokestatic 18, 3) := by decide +kernel
theorem dX2_turn_34 : decode cX2_turn 34 = .ok (.ixor, 1) := by decide +kernel
theorem dX2_turn_35 : decode cX2_turn 35 = .ok (.iastore, 1) := by decide +kernel
theorem dX2_turn_36 : decode cX2_turn 36 = .ok (.aload_n 0, 1) := by decide +kernel
theorem dX2_turn_37 : decode cX2_turn 37 = .ok (.iconst 1, 1) := by decide +kernel
theorem dX2_turn_38 : decode cX2_turn 38 = .ok (.putfield 30, 3) := by decide +kernel
theorem dX2_turn_41 : decode cX2_turn 41 = .ok (.aload_n 0, 1) := by decide +kernel
theorem dX2_turn_42 : decode cX2_turn 42 = .ok (.getfield 9, 3) := by decide +kernel
theorem dX2_turn_45 : decode cX2_turn 45 = .ok (.iconst 0, 1) := by decide +kernel
theorem dX2_turn_46 : decode cX2_turn 46 = .ok (.aload_n 0, 1) := by decide +kernel
theorem dX2_turn_47 : decode cX2_turn 47 = .ok (.getfield 15, 3) := by decide +kernel
theorem dX2_turn_50 : decode cX2_turn 50 = .ok (.iconst 0, 1) := by decide +kernel
theorem dX2_turn_51 : decode cX2_turn 51 = .ok (.bipush 10, 2) := by decide +kernel
theorem dX2_turn_53 : decode cX2_turn 53 = .ok (.invokestatic 34, 3) := by decide +kernel
theorem dX2_turn_56 : decode cX2_turn 56 = .ok (.iconst 0, 1) := by decide +kernel
theorem dX2_turn_57 : decode cX2_turn 57 = .ok (.istore_n 3, 1) := by decide +kernel
theorem dX2_turn_58 : decode cX2_turn 58 = .ok (.iload_n 3, 1) := by decide +kernel
theorem dX2_turn_59 : decode cX2_turn 59 = .ok (.bipush 10, 2) := by decide +kernel
theorem dX2_turn_61 : decode cX2_turn 61 = .ok (.if_icmp .ge 51, 3) := by decide +kernel
theorem dX2_turn_64 : decode cX2_turn 64 = .ok (.iconst 0, 1) := by decide +kernel
theorem dX2_turn_65 : decode cX2_turn 65 = .ok (.istore 4, 2) := by decide +kernel
theorem dX2_turn_67 : decode cX2_turn 67 = .ok (.iload 4, 2) := by decide +kernel
theorem dX2_turn_69 : decode cX2_turn 69 = .ok (.bipush 10, 2) := by decide +kernel
theorem dX2_turn_71 : decode cX2_turn 71 = .ok (.if_icmp .ge 35, 3) := by decide +kernel
theorem dX2_turn_74 : decode cX2_turn 74 = .ok (.aload_n 0, 1) := by decide +kernel
theorem dX2_turn_75 : decode cX2_turn 75 = .ok (.iload 4, 2) := by decide +kernel
theorem dX2_turn_77 : decode cX2_turn 77 = .ok (.iload_n 3, 1) := by decide +kernel
theorem dX2_turn_78 : decode cX2_turn 78 = .ok (.invokevirtual 40, 3) := by decide +kernel
theorem dX2_turn_81 : decode cX2_turn 81 = .ok (.ifCond .eq 19, 3) := by decide +kernel
theorem dX2_turn_84 : decode cX2_turn 84 = .ok (.aload_n 0, 1) := by decide +kernel
theorem dX2_turn_85 : decode cX2_turn 85 = .ok (.getfield 15, 3) := by decide +kernel
theorem dX2_turn_88 : decode cX2_turn 88 = .ok (.iload 4, 2) := by decide +kernel
theorem dX2_turn_90 : decode cX2_turn 90 = .ok (.dup2, 1) := by decide +kernel
theorem dX2_turn_91 : decode cX2_turn 91 = .ok (.iaload, 1) := by decide +kernel
theorem dX2_turn_92 : decode cX2_turn 92 = .ok (.aload_n 0, 1) := by decide +kernel
theorem dX2_turn_93 : decode cX2_turn 93 = .ok (.getfield 15, 3) := by decide +kernel
theorem dX2_turn_96 : decode cX2_turn 96 = .ok (.iload_n 3, 1) := by decide +kernel
theorem dX2_turn_97 : decode cX2_turn 97 = .ok (.iaload, 1) := by decide +kernel
theorem dX2_turn_98 : decode cX2_turn 98 = .ok (.ior, 1) := by decide +kernel
theorem dX2_turn_99 : decode cX2_turn 99 = .ok (.iastore, 1) := by decide +kernel
theorem dX2_turn_100 : decode cX2_turn 100 = .ok (.iinc 4 1, 3) := by decide +kernel
theorem dX2_turn_103 : decode cX2_turn 103 = .ok (.goto (-36), 3) := by decide +kernel
theorem dX2_turn_106 : decode cX2_turn 106 = .ok (.iinc 3 1, 3) := by decide +kernel
theorem dX2_turn_109 : decode cX2_turn 109 = .ok (.goto (-51), 3) := by decide +kernel
theorem dX2_turn_112 : decode cX2_turn 112 = .ok (.return_, 1) := by decide +kernel
theorem dX2_fewestDropped_0 : decode cX2_fewestDropped 0 = .ok (.aload_n 0, 1) := by decide +kernel
theorem dX2_fewestDropped_1 : decode cX2_fewestDropped 1 = .ok (.getfield 30, 3) := by decide +kernel
theorem dX2_fewestDropped_4 : decode cX2_fewestDropped 4 = .ok (.ifCond .ne 8, 3) := by decide +kernel
theorem dX2_fewestDropped_7 : decode cX2_fewestDropped 7 = .ok (.aload_n 0, 1) := by decide +kernel
theorem dX2_fewestDropped_8 : decode cX2_fewestDropped 8 = .ok (.getfield 43, 3) := by decide +kernel
theorem dX2_fewestDropped_11 : decode cX2_fewestDropped 11 = .ok (.ireturn, 1) := by decide +kernel
theorem dX2_fewestDropped_12 : decode cX2_fewestDropped 12 = .ok (.aload_n 0, 1) := by decide +kernel
theorem dX2_fewestDropped_13 : decode cX2_fewestDropped 13 = .ok (.iconst 0, 1) := by decide +kernel
theorem dX2_fewestDropped_14 : decode cX2_fewestDropped 14 = .ok (.putfield 30, 3) := by decide +kernel
theorem dX2_fewestDropped_17 : decode cX2_fewestDropped 17 = .ok (.aload_n 0, 1) := by decide +kernel
theorem dX2_fewestDropped_18 : decode cX2_fewestDropped 18 = .ok (.sipush 1023, 3) := by decide +kernel
theorem dX2_fewestDropped_21 : decode cX2_fewestDropped 21 = .ok (.putfield 43, 3) := by decide +kernel
theorem dX2_fewestDropped_24 : decode cX2_fewestDropped 24 = .ok (.sipush 1023, 3) := by decide +kernel
theorem dX2_fewestDropped_27 : decode cX2_fewestDropped 27 = .ok (.istore_n 1, 1) := by decide +kernel
theorem dX2_fewestDropped_28 : decode cX2_fewestDropped 28 = .ok (.iload_n 1, 1) := by decide +kernel
theorem dX2_fewestDropped_29 : decode cX2_fewestDropped 29 = .ok (.ifCond .lt 42, 3) := by decide +kernel
theorem dX2_fewestDropped_32 : decode cX2_fewestDropped 32 = .ok (.iload_n 1, 1) := by decide +kernel
theorem dX2_fewestDropped_33 : decode cX2_fewestDropped 33 = .ok (.invokestatic 46, 3) := by decide +kernel
theorem dX2_fewestDropped_36 : decode cX2_fewestDropped 36 = .ok (.aload_n 0, 1) := by decide +kernel
theorem dX2_fewestDropped_37 : decode cX2_fewestDropped 37 = .ok (.getfield 43, 3) := by decide +kernel
theorem dX2_fewestDropped_40 : decode cX2_fewestDropped 40 = .ok (.invokestatic 46, 3) := by decide +kernel
theorem dX2_fewestDropped_43 : decode cX2_fewestDropped 43 = .ok (.if_icmp .ge 22, 3) := by decide +kernel
theorem dX2_fewestDropped_46 : decode cX2_fewestDropped 46 = .ok (.aload_n 0, 1) := by decide +kernel
theorem dX2_fewestDropped_47 : decode cX2_fewestDropped 47 = .ok (.sipush 1023, 3) := by decide +kernel
theorem dX2_fewestDropped_50 : decode cX2_fewestDropped 50 = .ok (.iload_n 1, 1) := by decide +kernel
theorem dX2_fewestDropped_51 : decode cX2_fewestDropped 51 = .ok (.iconst (-1), 1) := by decide +kernel
theorem dX2_fewestDropped_52 : decode cX2_fewestDropped 52 = .ok (.ixor, 1) := by decide +kernel
theorem dX2_fewestDropped_53 : decode cX2_fewestDropped 53 = .ok (.iand, 1) := by decide +kernel
theorem dX2_fewestDropped_54 : decode cX2_fewestDropped 54 = .ok (.invokevirtual 51, 3) := by decide +kernel
theorem dX2_fewestDropped_57 : decode cX2_fewestDropped 57 = .ok (.ifCond .eq 8, 3) := by decide +kernel
theorem dX2_fewestDropped_60 : decode cX2_fewestDropped 60 = .ok (.aload_n 0, 1) := by decide +kernel
theorem dX2_fewestDropped_61 : decode cX2_fewestDropped 61 = .ok (.iload_n 1, 1) := by decide +kernel
theorem dX2_fewestDropped_62 : decode cX2_fewestDropped 62 = .ok (.putfield 43, 3) := by decide +kernel
theorem dX2_fewestDropped_65 : decode cX2_fewestDropped 65 = .ok (.iinc 1 (-1), 3) := by decide +kernel
theorem dX2_fewestDropped_68 : decode cX2_fewestDropped 68 = .ok (.goto (-40), 3) := by decide +kernel
theorem dX2_fewestDropped_71 : decode cX2_fewestDropped 71 = .ok (.aload_n 0, 1) := by decide +kernel
theorem dX2_fewestDropped_72 : decode cX2_fewestDropped 72 = .ok (.getfield 43, 3) := by decide +kernel
theorem dX2_fewestDropped_75 : decode cX2_fewestDropped 75 = .ok (.ireturn, 1) := by decide +kernel
theorem dX2_isWithoutRing_0 : decode cX2_isWithoutRing 0 = .ok (.iload_n 1, 1) := by decide +kernel
theorem dX2_isWithoutRing_1 : decode cX2_isWithoutRing 1 = .ok (.istore_n 2, 1) := by decide +kernel
theorem dX2_isWithoutRing_2 : decode cX2_isWithoutRing 2 = .ok (.iconst 0, 1) := by decide +kernel
theorem dX2_isWithoutRing_3 : decode cX2_isWithoutRing 3 = .ok (.istore_n 3, 1) := by decide +kernel
theorem dX2_isWithoutRing_4 : decode cX2_isWithoutRing 4 = .ok (.iload_n 3, 1) := by decide +kernel
theorem dX2_isWithoutRing_5 : decode cX2_isWithoutRing 5 = .ok (.bipush 10, 2) := by decide +kernel
theorem dX2_isWithoutRing_7 : decode cX2_isWithoutRing 7 = .ok (.if_icmp .ge 62, 3) := by decide +kernel
theorem dX2_isWithoutRing_10 : decode cX2_isWithoutRing 10 = .ok (.iload_n 2, 1) := by decide +kernel
theorem dX2_isWithoutRing_11 : decode cX2_isWithoutRing 11 = .ok (.ifCond .eq 58, 3) := by decide +kernel
theorem dX2_isWithoutRing_14 : decode cX2_isWithoutRing 14 = .ok (.iload_n 2, 1) := by decide +kernel
theorem dX2_isWithoutRing_15 : decode cX2_isWithoutRing 15 = .ok (.istore 4, 2) := by decide +kernel
theorem dX2_isWithoutRing_17 : decode cX2_isWithoutRing 17 = .ok (.iconst 0, 1) := by decide +kernel
theorem dX2_isWithoutRing_18 : decode cX2_isWithoutRing 18 = .ok (.istore 5, 2) := by decide +kernel
theorem dX2_isWithoutRing_20 : decode cX2_isWithoutRing 20 = .ok (.iload 5, 2) := by decide +kernel
theorem dX2_isWithoutRing_22 : decode cX2_isWithoutRing 22 = .ok (.bipush 10, 2) := by decide +kernel
theorem dX2_isWithoutRing_24 : decode cX2_isWithoutRing 24 = .ok (.if_icmp .ge 31, 3) := by decide +kernel
theorem dX2_isWithoutRing_27 : decode cX2_isWithoutRing 27 = .ok (.aload_n 0, 1) := by decide +kernel
theorem dX2_isWithoutRing_28 : decode cX2_isWithoutRing 28 = .ok (.getfield 9, 3) := by decide +kernel
theorem dX2_isWithoutRing_31 : decode cX2_isWithoutRing 31 = .ok (.iload 5, 2) := by decide +kernel
theorem dX2_isWithoutRing_33 : decode cX2_isWithoutRing 33 = .ok (.iaload, 1) := by decide +kernel
theorem dX2_isWithoutRing_34 : decode cX2_isWithoutRing 34 = .ok (.iload_n 2, 1) := by decide +kernel
theorem dX2_isWithoutRing_35 : decode cX2_isWithoutRing 35 = .ok (.iand, 1) := by decide +kernel
theorem dX2_isWithoutRing_36 : decode cX2_isWithoutRing 36 = .ok (.ifCond .ne 13, 3) := by decide +kernel
theorem dX2_isWithoutRing_39 : decode cX2_isWithoutRing 39 = .ok (.iload_n 2, 1) := by decide +kernel
theorem dX2_isWithoutRing_40 : decode cX2_isWithoutRing 40 = .ok (.iload 5, 2) := by decide +kernel
theorem dX2_isWithoutRing_42 : decode cX2_isWithoutRing 42 = .ok (.invokestatic 18, 3) := by decide +kernel
theorem dX2_isWithoutRing_45 : decode cX2_isWithoutRing 45 = .ok (.iconst (-1), 1) := by decide +kernel
theorem dX2_isWithoutRing_46 : decode cX2_isWithoutRing 46 = .ok (.ixor, 1) := by decide +kernel
theorem dX2_isWithoutRing_47 : decode cX2_isWithoutRing 47 = .ok (.iand, 1) := by decide +kernel
theorem dX2_isWithoutRing_48 : decode cX2_isWithoutRing 48 = .ok (.istore_n 2, 1) := by decide +kernel
theorem dX2_isWithoutRing_49 : decode cX2_isWithoutRing 49 = .ok (.iinc 5 1, 3) := by decide +kernel
theorem dX2_isWithoutRing_52 : decode cX2_isWithoutRing 52 = .ok (.goto (-32), 3) := by decide +kernel
theorem dX2_isWithoutRing_55 : decode cX2_isWithoutRing 55 = .ok (.iload_n 2, 1) := by decide +kernel
theorem dX2_isWithoutRing_56 : decode cX2_isWithoutRing 56 = .ok (.iload 4, 2) := by decide +kernel
theorem dX2_isWithoutRing_58 : decode cX2_isWithoutRing 58 = .ok (.if_icmp .ne 5, 3) := by decide +kernel
theorem dX2_isWithoutRing_61 : decode cX2_isWithoutRing 61 = .ok (.iconst 0, 1) := by decide +kernel
theorem dX2_isWithoutRing_62 : decode cX2_isWithoutRing 62 = .ok (.ireturn, 1) := by decide +kernel
theorem dX2_isWithoutRing_63 : decode cX2_isWithoutRing 63 = .ok (.iinc 3 1, 3) := by decide +kernel
theorem dX2_isWithoutRing_66 : decode cX2_isWithoutRing 66 = .ok (.goto (-62), 3) := by decide +kernel
theorem dX2_isWithoutRing_69 : decode cX2_isWithoutRing 69 = .ok (.iload_n 2, 1) := by decide +kernel
theorem dX2_isWithoutRing_70 : decode cX2_isWithoutRing 70 = .ok (.ifCond .ne 7, 3) := by decide +kernel
theorem dX2_isWithoutRing_73 : decode cX2_isWithoutRing 73 = .ok (.iconst 1, 1) := by decide +kernel
theorem dX2_isWithoutRing_74 : decode cX2_isWithoutRing 74 = .ok (.goto 4, 3) := by decide +kernel
theorem dX2_isWithoutRing_77 : decode cX2_isWithoutRing 77 = .ok (.iconst 0, 1) := by decide +kernel
theorem dX2_isWithoutRing_78 : decode cX2_isWithoutRing 78 = .ok (.ireturn, 1) := by decide +kernel
theorem dX3_init_0 : decode cX3_init 0 = .ok (.aload_n 0, 1) := by decide +kernel
theorem dX3_init_1 : decode cX3_init 1 = .ok (.invokespecial 3, 3) := by decide +kernel
theorem dX3_init_4 : decode cX3_init 4 = .ok (.aload_n 0, 1) := by decide +kernel
theorem dX3_init_5 : decode cX3_init 5 = .ok (.bipush 6, 2) := by decide +kernel
theorem dX3_init_7 : decode cX3_init 7 = .ok (.newarray .int, 2) := by decide +kernel
theorem dX3_init_9 : decode cX3_init 9 = .ok (.putfield 9, 3) := by decide +kernel
theorem dX3_init_12 : decode cX3_init 12 = .ok (.return_, 1) := by decide +kernel
theorem dX3_has_0 : decode cX3_has 0 = .ok (.iconst 0, 1) := by decide +kernel
theorem dX3_has_1 : decode cX3_has 1 = .ok (.istore_n 2, 1) := by decide +kernel
theorem dX3_has_2 : decode cX3_has 2 = .ok (.iload_n 2, 1) := by decide +kernel
theorem dX3_has_3 : decode cX3_has 3 = .ok (.aload_n 0, 1) := by decide +kernel
theorem dX3_has_4 : decode cX3_has 4 = .ok (.getfield 15, 3) := by decide +kernel
theorem dX3_has_7 : decode cX3_has 7 = .ok (.if_icmp .ge 21, 3) := by decide +kernel
theorem dX3_has_10 : decode cX3_has 10 = .ok (.aload_n 0, 1) := by decide +kernel
theorem dX3_has_11 : decode cX3_has 11 = .ok (.getfield 9, 3) := by decide +kernel
theorem dX3_has_14 : decode cX3_has 14 = .ok (.iload_n 2, 1) := by decide +kernel
theorem dX3_has_15 : decode cX3_has 15 = .ok (.iaload, 1) := by decide +kernel
theorem dX3_has_16 : decode cX3_has 16 = .ok (.iload_n 1, 1) := by decide +kernel
theorem dX3_has_17 : decode cX3_has 17 = .ok (.if_icmp .ne 5, 3) := by decide +kernel
theorem dX3_has_20 : decode cX3_has 20 = .ok (.iconst 1, 1) := by decide +kernel
theorem dX3_has_21 : decode cX3_has 21 = .ok (.ireturn, 1) := by decide +kernel
theorem dX3_has_22 : decode cX3_has 22 = .ok (.iinc 2 1, 3) := by decide +kernel
theorem dX3_has_25 : decode cX3_has 25 = .ok (.goto (-23), 3) := by decide +kernel
theorem dX3_has_28 : decode cX3_has 28 = .ok (.iconst 0, 1) := by decide +kernel
theorem dX3_has_29 : decode cX3_has 29 = .ok (.ireturn, 1) := by decide +kernel
theorem dX3_add_0 : decode cX3_add 0 = .ok (.aload_n 0, 1) := by decide +kernel
theorem dX3_add_1 : decode cX3_add 1 = .ok (.getfield 15, 3) := by decide +kernel
theorem dX3_add_4 : decode cX3_add 4 = .ok (.bipush 6, 2) := by decide +kernel
theorem dX3_add_6 : decode cX3_add 6 = .ok (.if_icmp .ge 20, 3) := by decide +kernel
theorem dX3_add_9 : decode cX3_add 9 = .ok (.aload_n 0, 1) := by decide +kernel
theorem dX3_add_10 : decode cX3_add 10 = .ok (.getfield 9, 3) := by decide +kernel
theorem dX3_add_13 : decode cX3_add 13 = .ok (.aload_n 0, 1) := by decide +kernel
theorem dX3_add_14 : decode cX3_add 14 = .ok (.dup, 1) := by decide +kernel
theorem dX3_add_15 : decode cX3_add 15 = .ok (.getfield 15, 3) := by decide +kernel
theorem dX3_add_18 : decode cX3_add 18 = .ok (.dup_x1, 1) := by decide +kernel
theorem dX3_add_19 : decode cX3_add 19 = .ok (.iconst 1, 1) := by decide +kernel
theorem dX3_add_20 : decode cX3_add 20 = .ok (.iadd, 1) := by decide +kernel
theorem dX3_add_21 : decode cX3_add 21 = .ok (.putfield 15, 3) := by decide +kernel
theorem dX3_add_24 : decode cX3_add 24 = .ok (.iload_n 1, 1) := by decide +kernel
theorem dX3_add_25 : decode cX3_add 25 = .ok (.iastore, 1) := by decide +kernel
theorem dX3_add_26 : decode cX3_add 26 = .ok (.return_, 1) := by decide +kernel
theorem dX3_at_0 : decode cX3_at 0 = .ok (.iload_n 1, 1) := by decide +kernel
theorem dX3_at_1 : decode cX3_at 1 = .ok (.iconst 0, 1) := by decide +kernel
theorem dX3_at_2 : decode cX3_at 2 = .ok (.aload_n 0, 1) := by decide +kernel
theorem dX3_at_3 : decode cX3_at 3 = .ok (.getfield 15, 3) := by decide +kernel
theorem dX3_at_6 : decode cX3_at 6 = .ok (.iconst 1, 1) := by decide +kernel
theorem dX3_at_7 : decode cX3_at 7 = .ok (.isub, 1) := by decide +kernel
theorem dX3_at_8 : decode cX3_at 8 = .ok (.invokestatic 19, 3) := by decide +kernel
theorem dX3_at_11 : decode cX3_at 11 = .ok (.ifCond .eq 12, 3) := by decide +kernel
theorem dX3_at_14 : decode cX3_at 14 = .ok (.aload_n 0, 1) := by decide +kernel
theorem dX3_at_15 : decode cX3_at 15 = .ok (.getfield 9, 3) := by decide +kernel
theorem dX3_at_18 : decode cX3_at 18 = .ok (.iload_n 1, 1) := by decide +kernel
theorem dX3_at_19 : decode cX3_at 19 = .ok (.iaload, 1) := by decide +kernel
theorem dX3_at_20 : decode cX3_at 20 = .ok (.goto 5, 3) := by decide +kernel
theorem dX3_at_23 : decode cX3_at 23 = .ok (.ldc 23, 2) := by decide +kernel
theorem dX3_at_25 : decode cX3_at 25 = .ok (.ireturn, 1) := by decide +kernel
theorem dX3_copy_0 : decode cX3_copy 0 = .ok (.aload_n 0, 1) := by decide +kernel
theorem dX3_copy_1 : decode cX3_copy 1 = .ok (.aload_n 1, 1) := by decide +kernel
theorem dX3_copy_2 : decode cX3_copy 2 = .ok (.getfield 15, 3) := by decide +kernel
theorem dX3_copy_5 : decode cX3_copy 5 = .ok (.putfield 15, 3) := by decide +kernel
theorem dX3_copy_8 : decode cX3_copy 8 = .ok (.aload_n 1, 1) := by decide +kernel
theorem dX3_copy_9 : decode cX3_copy 9 = .ok (.getfield 9, 3) := by decide +kernel
theorem dX3_copy_12 : decode cX3_copy 12 = .ok (.iconst 0, 1) := by decide +kernel
theorem dX3_copy_13 : decode cX3_copy 13 = .ok (.aload_n 0, 1) := by decide +kernel
theorem dX3_copy_14 : decode cX3_copy 14 = .ok (.getfield 9, 3) := by decide +kernel
theorem dX3_copy_17 : decode cX3_copy 17 = .ok (.iconst 0, 1) := by decide +kernel
theorem dX3_copy_18 : decode cX3_copy 18 = .ok (.bipush 6, 2) := by decide +kernel
theorem dX3_copy_20 : decode cX3_copy 20 = .ok (.invokestatic 24, 3) := by decide +kernel
theorem dX3_copy_23 : decode cX3_copy 23 = .ok (.return_, 1) := by decide +kernel
theorem dX3_spell_0 : decode cX3_spell 0 = .ok (.aload_n 0, 1) := by decide +kernel
theorem dX3_spell_1 : decode cX3_spell 1 = .ok (.iconst 0, 1) := by decide +kernel
theorem dX3_spell_2 : decode cX3_spell 2 = .ok (.putfield 15, 3) := by decide +kernel
theorem dX3_spell_5 : decode cX3_spell 5 = .ok (.iload_n 2, 1) := by decide +kernel
theorem dX3_spell_6 : decode cX3_spell 6 = .ok (.bipush 6, 2) := by decide +kernel
theorem dX3_spell_8 : decode cX3_spell 8 = .ok (.if_icmp .gt 8, 3) := by decide +kernel
theorem dX3_spell_11 : decode cX3_spell 11 = .ok (.iload_n 3, 1) := by decide +kernel
theorem dX3_spell_12 : decode cX3_spell 12 = .ok (.iconst 1, 1) := by decide +kernel
theorem dX3_spell_13 : decode cX3_spell 13 = .ok (.if_icmp .ge 13, 3) := by decide +kernel
theorem dX3_spell_16 : decode cX3_spell 16 = .ok (.iload_n 2, 1) := by decide +kernel
theorem dX3_spell_17 : decode cX3_spell 17 = .ok (.ifCond .ne 7, 3) := by decide +kernel
theorem dX3_spell_20 : decode cX3_spell 20 = .ok (.iconst 1, 1) := by decide +kernel
theorem dX3_spell_21 : decode cX3_spell 21 = .ok (.goto 4, 3) := by decide +kernel
theorem dX3_spell_24 : decode cX3_spell 24 = .ok (.iconst 0, 1) := by decide +kernel
theorem dX3_spell_25 : decode cX3_spell 25 = .ok (.ireturn, 1) := by decide +kernel
theorem dX3_spell_26 : decode cX3_spell 26 = .ok (.iload_n 1, 1) := by decide +kernel
theorem dX3_spell_27 : decode cX3_spell 27 = .ok (.istore 4, 2) := by decide +kernel
theorem dX3_spell_29 : decode cX3_spell 29 = .ok (.iload_n 2, 1) := by decide +kernel
theorem dX3_spell_30 : decode cX3_spell 30 = .ok (.iconst 1, 1) := by decide +kernel
theorem dX3_spell_31 : decode cX3_spell 31 = .ok (.isub, 1) := by decide +kernel
theorem dX3_spell_32 : decode cX3_spell 32 = .ok (.istore 5, 2) := by decide +kernel
theorem dX3_spell_34 : decode cX3_spell 34 = .ok (.iload 5, 2) := by decide +kernel
theorem dX3_spell_36 : decode cX3_spell 36 = .ok (.ifCond .lt 26, 3) := by decide +kernel
theorem dX3_spell_39 : decode cX3_spell 39 = .ok (.aload_n 0, 1) := by decide +kernel
theorem dX3_spell_40 : decode cX3_spell 40 = .ok (.getfield 9, 3) := by decide +kernel
theorem dX3_spell_43 : decode cX3_spell 43 = .ok (.iload 5, 2) := by decide +kernel
theorem dX3_spell_45 : decode cX3_spell 45 = .ok (.iload 4, 2) := by decide +kernel
theorem dX3_spell_47 : decode cX3_spell 47 = .ok (.iload_n 3, 1) := by decide +kernel
theorem dX3_spell_48 : decode cX3_spell 48 = .ok (.irem, 1) := by decide +kernel
theorem dX3_spell_49 : decode cX3_spell 49 = .ok (.iastore, 1) := by decide +kernel
theorem dX3_spell_50 : decode cX3_spell 50 = .ok (.iload 4, 2) := by decide +kernel
theorem dX3_spell_52 : decode cX3_spell 52 = .ok (.iload_n 3, 1) := by decide +kernel
theorem dX3_spell_53 : decode cX3_spell 53 = .ok (.idiv, 1) := by decide +kernel
theorem dX3_spell_54 : decode cX3_spell 54 = .ok (.istore 4, 2) := by decide +kernel
theorem dX3_spell_56 : decode cX3_spell 56 = .ok (.iinc 5 (-1), 3) := by decide +kernel
theorem dX3_spell_59 : decode cX3_spell 59 = .ok (.goto (-25), 3) := by decide +kernel
theorem dX3_spell_62 : decode cX3_spell 62 = .ok (.iconst 0, 1) := by decide +kernel
theorem dX3_spell_63 : decode cX3_spell 63 = .ok (.istore 5, 2) := by decide +kernel
theorem dX3_spell_65 : decode cX3_spell 65 = .ok (.iload 5, 2) := by decide +kernel
theorem dX3_spell_67 : decode cX3_spell 67 = .ok (.iload_n 2, 1) := by decide +kernel
theorem dX3_spell_68 : decode cX3_spell 68 = .ok (.if_icmp .ge 35, 3) := by decide +kernel
theorem dX3_spell_71 : decode cX3_spell 71 = .ok (.aload_n 0, 1) := by decide +kernel
theorem dX3_spell_72 : decode cX3_spell 72 = .ok (.aload_n 0, 1) := by decide +kernel
theorem dX3_spell_73 : decode cX3_spell 73 = .ok (.getfield 9, 3) := by decide +kernel
theorem dX3_spell_76 : decode cX3_spell 76 = .ok (.iload 5, 2) := by decide +kernel
theorem dX3_spell_78 : decode cX3_spell 78 = .ok (.iaload, 1) := by decide +kernel
theorem dX3_spell_79 : decode cX3_spell 79 = .ok (.invokevirtual 30, 3) := by decide +kernel
theorem dX3_spell_82 : decode cX3_spell 82 = .ok (.ifCond .eq 5, 3) := by decide +kernel
theorem dX3_spell_85 : decode cX3_spell 85 = .ok (.iconst 0, 1) := by decide +kernel
theorem dX3_spell_86 : decode cX3_spell 86 = .ok (.ireturn, 1) := by decide +kernel
theorem dX3_spell_87 : decode cX3_spell 87 = .ok (.aload_n 0, 1) := by decide +kernel
theorem dX3_spell_88 : decode cX3_spell 88 = .ok (.dup, 1) := by decide +kernel
theorem dX3_spell_89 : decode cX3_spell 89 = .ok (.getfield 15, 3) := by decide +kernel
theorem dX3_spell_92 : decode cX3_spell 92 = .ok (.iconst 1, 1) := by decide +kernel
theorem dX3_spell_93 : decode cX3_spell 93 = .ok (.iadd, 1) := by decide +kernel
theorem dX3_spell_94 : decode cX3_spell 94 = .ok (.putfield 15, 3) := by decide +kernel
theorem dX3_spell_97 : decode cX3_spell 97 = .ok (.iinc 5 1, 3) := by decide +kernel
theorem dX3_spell_100 : decode cX3_spell 100 = .ok (.goto (-35), 3) := by decide +kernel
theorem dX3_spell_103 : decode cX3_spell 103 = .ok (.iconst 1, 1) := by decide +kernel
theorem dX3_spell_104 : decode cX3_spell 104 = .ok (.ireturn, 1) := by decide +kernel
theorem dX4_init_0 : decode cX4_init 0 = .ok (.aload_n 0, 1) := by decide +kernel
theorem dX4_init_1 : decode cX4_init 1 = .ok (.invokespecial 3, 3) := by decide +kernel
theorem dX4_init_4 : decode cX4_init 4 = .ok (.aload_n 0, 1) := by decide +kernel
theorem dX4_init_5 : decode cX4_init 5 = .ok (.bipush 12, 2) := by decide +kernel
theorem dX4_init_7 : decode cX4_init 7 = .ok (.newarray .int, 2) := by decide +kernel
theorem dX4_init_9 : decode cX4_init 9 = .ok (.putfield 9, 3) := by decide +kernel
theorem dX4_init_12 : decode cX4_init 12 = .ok (.aload_n 0, 1) := by decide +kernel
theorem dX4_init_13 : decode cX4_init 13 = .ok (.bipush 12, 2) := by decide +kernel
theorem dX4_init_15 : decode cX4_init 15 = .ok (.newarray .int, 2) := by decide +kernel
theorem dX4_init_17 : decode cX4_init 17 = .ok (.putfield 15, 3) := by decide +kernel
theorem dX4_init_20 : decode cX4_init 20 = .ok (.aload_n 0, 1) := by decide +kernel
theorem dX4_init_21 : decode cX4_init 21 = .ok (.bipush 12, 2) := by decide +kernel
theorem dX4_init_23 : decode cX4_init 23 = .ok (.newarray .int, 2) := by decide +kernel
theorem dX4_init_25 : decode cX4_init 25 = .ok (.putfield 18, 3) := by decide +kernel
theorem dX4_init_28 : decode cX4_init 28 = .ok (.aload_n 0, 1) := by decide +kernel
theorem dX4_init_29 : decode cX4_init 29 = .ok (.bipush 12, 2) := by decide +kernel
theorem dX4_init_31 : decode cX4_init 31 = .ok (.newarray .int, 2) := by decide +kernel
theorem dX4_init_33 : decode cX4_init 33 = .ok (.putfield 21, 3) := by decide +kernel
theorem dX4_init_36 : decode cX4_init 36 = .ok (.aload_n 0, 1) := by decide +kernel
theorem dX4_init_37 : decode cX4_init 37 = .ok (.aload_n 1, 1) := by decide +kernel
theorem dX4_init_38 : decode cX4_init 38 = .ok (.putfield 24, 3) := by decide +kernel
theorem dX4_init_41 : decode cX4_init 41 = .ok (.aload_n 0, 1) := by decide +kernel
theorem dX4_init_42 : decode cX4_init 42 = .ok (.aload_n 2, 1) := by decide +kernel
theorem dX4_init_43 : decode cX4_init 43 = .ok (.putfield 28, 3) := by decide +kernel
theorem dX4_init_46 : decode cX4_init 46 = .ok (.aload_n 0, 1) := by decide +kernel
theorem dX4_init_47 : decode cX4_init 47 = .ok (.aload_n 3, 1) := by decide +kernel
theorem dX4_init_48 : decode cX4_init 48 = .ok (.putfield 32, 3) := by decide +kernel
theorem dX4_init_51 : decode cX4_init 51 = .ok (.return_, 1) := by decide +kernel
theorem dX4_has_0 : decode cX4_has 0 = .ok (.iload_n 1, 1) := by decide +kernel
theorem dX4_has_1 : decode cX4_has 1 = .ok (.iconst 0, 1) := by decide +kernel
theorem dX4_has_2 : decode cX4_has 2 = .ok (.aload_n 0, 1) := by decide +kernel
theorem dX4_has_3 : decode cX4_has 3 = .ok (.getfield 36, 3) := by decide +kernel
theorem dX4_has_6 : decode cX4_has 6 = .ok (.iconst 1, 1) := by decide +kernel
theorem dX4_has_7 : decode cX4_has 7 = .ok (.isub, 1) := by decide +kernel
theorem dX4_has_8 : decode cX4_has 8 = .ok (.invokestatic 40, 3) := by decide +kernel
theorem dX4_has_11 : decode cX4_has 11 = .ok (.ireturn, 1) := by decide +kernel
theorem dX4_add_0 : decode cX4_add 0 = .ok (.aload_n 0, 1) := by decide +kernel
theorem dX4_add_1 : decode cX4_add 1 = .ok (.getfield 36, 3) := by decide +kernel
theorem dX4_add_4 : decode cX4_add 4 = .ok (.bipush 12, 2) := by decide +kernel
theorem dX4_add_6 : decode cX4_add 6 = .ok (.if_icmp .lt 6, 3) := by decide +kernel
theorem dX4_add_9 : decode cX4_add 9 = .ok (.ldc 44, 2) := by decide +kernel
theorem dX4_add_11 : decode cX4_add 11 = .ok (.ireturn, 1) := by decide +kernel
theorem dX4_add_12 : decode cX4_add 12 = .ok (.aload_n 0, 1) := by decide +kernel
theorem dX4_add_13 : decode cX4_add 13 = .ok (.getfield 9, 3) := by decide +kernel
theorem dX4_add_16 : decode cX4_add 16 = .ok (.aload_n 0, 1) := by decide +kernel
theorem dX4_add_17 : decode cX4_add 17 = .ok (.getfield 36, 3) := by decide +kernel
theorem dX4_add_20 : decode cX4_add 20 = .ok (.iload_n 1, 1) := by decide +kernel
theorem dX4_add_21 : decode cX4_add 21 = .ok (.iastore, 1) := by decide +kernel
theorem dX4_add_22 : decode cX4_add 22 = .ok (.aload_n 0, 1) := by decide +kernel
theorem dX4_add_23 : decode cX4_add 23 = .ok (.getfield 15, 3) := by decide +kernel
theorem dX4_add_26 : decode cX4_add 26 = .ok (.aload_n 0, 1) := by decide +kernel
theorem dX4_add_27 : decode cX4_add 27 = .ok (.getfield 36, 3) := by decide +kernel
theorem dX4_add_30 : decode cX4_add 30 = .ok (.iload_n 2, 1) := by decide +kernel
theorem dX4_add_31 : decode cX4_add 31 = .ok (.iastore, 1) := by decide +kernel
theorem dX4_add_32 : decode cX4_add 32 = .ok (.aload_n 0, 1) := by decide +kernel
theorem dX4_add_33 : decode cX4_add 33 = .ok (.getfield 18, 3) := by decide +kernel
theorem dX4_add_36 : decode cX4_add 36 = .ok (.aload_n 0, 1) := by decide +kernel
theorem dX4_add_37 : decode cX4_add 37 = .ok (.getfield 36, 3) := by decide +kernel
theorem dX4_add_40 : decode cX4_add 40 = .ok (.iload_n 3, 1) := by decide +kernel
theorem dX4_add_41 : decode cX4_add 41 = .ok (.iastore, 1) := by decide +kernel
theorem dX4_add_42 : decode cX4_add 42 = .ok (.aload_n 0, 1) := by decide +kernel
theorem dX4_add_43 : decode cX4_add 43 = .ok (.getfield 21, 3) := by decide +kernel
theorem dX4_add_46 : decode cX4_add 46 = .ok (.aload_n 0, 1) := by decide +kernel
theorem dX4_add_47 : decode cX4_add 47 = .ok (.getfield 36, 3) := by decide +kernel
theorem dX4_add_50 : decode cX4_add 50 = .ok (.iload 4, 2) := by decide +kernel
theorem dX4_add_52 : decode cX4_add 52 = .ok (.iastore, 1) := by decide +kernel
theorem dX4_add_53 : decode cX4_add 53 = .ok (.aload_n 0, 1) := by decide +kernel
theorem dX4_add_54 : decode cX4_add 54 = .ok (.dup, 1) := by decide +kernel
theorem dX4_add_55 : decode cX4_add 55 = .ok (.getfield 36, 3) := by decide +kernel
theorem dX4_add_58 : decode cX4_add 58 = .ok (.dup_x1, 1) := by decide +kernel
theorem dX4_add_59 : decode cX4_add 59 = .ok (.iconst 1, 1) := by decide +kernel
theorem dX4_add_60 : decode cX4_add 60 = .ok (.iadd, 1) := by decide +kernel
theorem dX4_add_61 : decode cX4_add 61 = .ok (.putfield 36, 3) := by decide +kernel
theorem dX4_add_64 : decode cX4_add 64 = .ok (.ireturn, 1) := by decide +kernel
theorem dX4_remove_0 : decode cX4_remove 0 = .ok (.aload_n 0, 1) := by decide +kernel
theorem dX4_remove_1 : decode cX4_remove 1 = .ok (.getfield 21, 3) := by decide +kernel
theorem dX4_remove_4 : decode cX4_remove 4 = .ok (.iload_n 1, 1) := by decide +kernel
theorem dX4_remove_5 : decode cX4_remove 5 = .ok (.iaload, 1) := by decide +kernel
theorem dX4_remove_6 : decode cX4_remove 6 = .ok (.istore_n 2, 1) := by decide +kernel
theorem dX4_remove_7 : decode cX4_remove 7 = .ok (.aload_n 0, 1) := by decide +kernel
theorem dX4_remove_8 : decode cX4_remove 8 = .ok (.dup, 1) := by decide +kernel
theorem dX4_remove_9 : decode cX4_remove 9 = .ok (.getfield 36, 3) := by decide +kernel
theorem dX4_remove_12 : decode cX4_remove 12 = .ok (.iconst 1, 1) := by decide +kernel
theorem dX4_remove_13 : decode cX4_remove 13 = .ok (.isub, 1) := by decide +kernel
theorem dX4_remove_14 : decode cX4_remove 14 = .ok (.putfield 36, 3) := by decide +kernel
theorem dX4_remove_17 : decode cX4_remove 17 = .ok (.iload_n 1, 1) := by decide +kernel
theorem dX4_remove_18 : decode cX4_remove 18 = .ok (.istore_n 3, 1) := by decide +kernel
theorem dX4_remove_19 : decode cX4_remove 19 = .ok (.iload_n 3, 1) := by decide +kernel
theorem dX4_remove_20 : decode cX4_remove 20 = .ok (.aload_n 0, 1) := by decide +kernel
theorem dX4_remove_21 : decode cX4_remove 21 = .ok (.getfield 36, 3) := by decide +kernel
theorem dX4_remove_24 : decode cX4_remove 24 = .ok (.if_icmp .ge 65, 3) := by decide +kernel
theorem dX4_remove_27 : decode cX4_remove 27 = .ok (.aload_n 0, 1) := by decide +kernel
theorem dX4_remove_28 : decode cX4_remove 28 = .ok (.getfield 9, 3) := by decide +kernel
theorem dX4_remove_31 : decode cX4_remove 31 = .ok (.iload_n 3, 1) := by decide +kernel
theorem dX4_remove_32 : decode cX4_remove 32 = .ok (.aload_n 0, 1) := by decide +kernel
theorem dX4_remove_33 : decode cX4_remove 33 = .ok (.getfield 9, 3) := by decide +kernel
theorem dX4_remove_36 : decode cX4_remove 36 = .ok (.iload_n 3, 1) := by decide +kernel
theorem dX4_remove_37 : decode cX4_remove 37 = .ok (.iconst 1, 1) := by decide +kernel
theorem dX4_remove_38 : decode cX4_remove 38 = .ok (.iadd, 1) := by decide +kernel
theorem dX4_remove_39 : decode cX4_remove 39 = .ok (.iaload, 1) := by decide +kernel
theorem dX4_remove_40 : decode cX4_remove 40 = .ok (.iastore, 1) := by decide +kernel
theorem dX4_remove_41 : decode cX4_remove 41 = .ok (.aload_n 0, 1) := by decide +kernel
theorem dX4_remove_42 : decode cX4_remove 42 = .ok (.getfield 15, 3) := by decide +kernel
theorem dX4_remove_45 : decode cX4_remove 45 = .ok (.iload_n 3, 1) := by decide +kernel
theorem dX4_remove_46 : decode cX4_remove 46 = .ok (.aload_n 0, 1) := by decide +kernel
theorem dX4_remove_47 : decode cX4_remove 47 = .ok (.getfield 15, 3) := by decide +kernel
theorem dX4_remove_50 : decode cX4_remove 50 = .ok (.iload_n 3, 1) := by decide +kernel
theorem dX4_remove_51 : decode cX4_remove 51 = .ok (.iconst 1, 1) := by decide +kernel
theorem dX4_remove_52 : decode cX4_remove 52 = .ok (.iadd, 1) := by decide +kernel
theorem dX4_remove_53 : decode cX4_remove 53 = .ok (.iaload, 1) := by decide +kernel
theorem dX4_remove_54 : decode cX4_remove 54 = .ok (.iastore, 1) := by decide +kernel
theorem dX4_remove_55 : decode cX4_remove 55 = .ok (.aload_n 0, 1) := by decide +kernel
theorem dX4_remove_56 : decode cX4_remove 56 = .ok (.getfield 18, 3) := by decide +kernel
theorem dX4_remove_59 : decode cX4_remove 59 = .ok (.iload_n 3, 1) := by decide +kernel
theorem dX4_remove_60 : decode cX4_remove 60 = .ok (.aload_n 0, 1) := by decide +kernel
theorem dX4_remove_61 : decode cX4_remove 61 = .ok (.getfield 18, 3) := by decide +kernel
theorem dX4_remove_64 : decode cX4_remove 64 = .ok (.iload_n 3, 1) := by decide +kernel
theorem dX4_remove_65 : decode cX4_remove 65 = .ok (.iconst 1, 1) := by decide +kernel
theorem dX4_remove_66 : decode cX4_remove 66 = .ok (.iadd, 1) := by decide +kernel
theorem dX4_remove_67 : decode cX4_remove 67 = .ok (.iaload, 1) := by decide +kernel
theorem dX4_remove_68 : decode cX4_remove 68 = .ok (.iastore, 1) := by decide +kernel
theorem dX4_remove_69 : decode cX4_remove 69 = .ok (.aload_n 0, 1) := by decide +kernel
theorem dX4_remove_70 : decode cX4_remove 70 = .ok (.getfield 21, 3) := by decide +kernel
theorem dX4_remove_73 : decode cX4_remove 73 = .ok (.iload_n 3, 1) := by decide +kernel
theorem dX4_remove_74 : decode cX4_remove 74 = .ok (.aload_n 0, 1) := by decide +kernel
theorem dX4_remove_75 : decode cX4_remove 75 = .ok (.getfield 21, 3) := by decide +kernel
theorem dX4_remove_78 : decode cX4_remove 78 = .ok (.iload_n 3, 1) := by decide +kernel
theorem dX4_remove_79 : decode cX4_remove 79 = .ok (.iconst 1, 1) := by decide +kernel
theorem dX4_remove_80 : decode cX4_remove 80 = .ok (.iadd, 1) := by decide +kernel
theorem dX4_remove_81 : decode cX4_remove 81 = .ok (.iaload, 1) := by decide +kernel
theorem dX4_remove_82 : decode cX4_remove 82 = .ok (.iastore, 1) := by decide +kernel
theorem dX4_remove_83 : decode cX4_remove 83 = .ok (.iinc 3 1, 3) := by decide +kernel
theorem dX4_remove_86 : decode cX4_remove 86 = .ok (.goto (-67), 3) := by decide +kernel
theorem dX4_remove_89 : decode cX4_remove 89 = .ok (.iload_n 2, 1) := by decide +kernel
theorem dX4_remove_90 : decode cX4_remove 90 = .ok (.ireturn, 1) := by decide +kernel
theorem dX4_costOf_0 : decode cX4_costOf 0 = .ok (.iconst 0, 1) := by decide +kernel
theorem dX4_costOf_1 : decode cX4_costOf 1 = .ok (.istore_n 2, 1) := by decide +kernel
theorem dX4_costOf_2 : decode cX4_costOf 2 = .ok (.iconst 0, 1) := by decide +kernel
theorem dX4_costOf_3 : decode cX4_costOf 3 = .ok (.istore_n 3, 1) := by decide +kernel
theorem dX4_costOf_4 : decode cX4_costOf 4 = .ok (.iload_n 3, 1) := by decide +kernel
theorem dX4_costOf_5 : decode cX4_costOf 5 = .ok (.aload_n 0, 1) := by decide +kernel
theorem dX4_costOf_6 : decode cX4_costOf 6 = .ok (.getfield 36, 3) := by decide +kernel
theorem dX4_costOf_9 : decode cX4_costOf 9 = .ok (.if_icmp .ge 48, 3) := by decide +kernel
theorem dX4_costOf_12 : decode cX4_costOf 12 = .ok (.iload_n 2, 1) := by decide +kernel
theorem dX4_costOf_13 : decode cX4_costOf 13 = .ok (.aload_n 0, 1) := by decide +kernel
theorem dX4_costOf_14 : decode cX4_costOf 14 = .ok (.aload_n 1, 1) := by decide +kernel
theorem dX4_costOf_15 : decode cX4_costOf 15 = .ok (.aload_n 0, 1) := by decide +kernel
theorem dX4_costOf_16 : decode cX4_costOf 16 = .ok (.getfield 9, 3) := by decide +kernel
theorem dX4_costOf_19 : decode cX4_costOf 19 = .ok (.iload_n 3, 1) := by decide +kernel
theorem dX4_costOf_20 : decode cX4_costOf 20 = .ok (.iaload, 1) := by decide +kernel
theorem dX4_costOf_21 : decode cX4_costOf 21 = .ok (.aload_n 0, 1) := by decide +kernel
theorem dX4_costOf_22 : decode cX4_costOf 22 = .ok (.getfield 15, 3) := by decide +kernel
theorem dX4_costOf_25 : decode cX4_costOf 25 = .ok (.iload_n 3, 1) := by decide +kernel
theorem dX4_costOf_26 : decode cX4_costOf 26 = .ok (.iaload, 1) := by decide +kernel
theorem dX4_costOf_27 : decode cX4_costOf 27 = .ok (.aload_n 0, 1) := by decide +kernel
theorem dX4_costOf_28 : decode cX4_costOf 28 = .ok (.getfield 18, 3) := by decide +kernel
theorem dX4_costOf_31 : decode cX4_costOf 31 = .ok (.iload_n 3, 1) := by decide +kernel
theorem dX4_costOf_32 : decode cX4_costOf 32 = .ok (.iaload, 1) := by decide +kernel
theorem dX4_costOf_33 : decode cX4_costOf 33 = .ok (.invokevirtual 45, 3) := by decide +kernel
theorem dX4_costOf_36 : decode cX4_costOf 36 = .ok (.ifCond .eq 7, 3) := by decide +kernel
theorem dX4_costOf_39 : decode cX4_costOf 39 = .ok (.iconst 0, 1) := by decide +kernel
theorem dX4_costOf_40 : decode cX4_costOf 40 = .ok (.goto 9, 3) := by decide +kernel
theorem dX4_costOf_43 : decode cX4_costOf 43 = .ok (.aload_n 0, 1) := by decide +kernel
theorem dX4_costOf_44 : decode cX4_costOf 44 = .ok (.getfield 21, 3) := by decide +kernel
theorem dX4_costOf_47 : decode cX4_costOf 47 = .ok (.iload_n 3, 1) := by decide +kernel
theorem dX4_costOf_48 : decode cX4_costOf 48 = .ok (.iaload, 1) := by decide +kernel
theorem dX4_costOf_49 : decode cX4_costOf 49 = .ok (.iadd, 1) := by decide +kernel
theorem dX4_costOf_50 : decode cX4_costOf 50 = .ok (.istore_n 2, 1) := by decide +kernel
theorem dX4_costOf_51 : decode cX4_costOf 51 = .ok (.iinc 3 1, 3) := by decide +kernel
theorem dX4_costOf_54 : decode cX4_costOf 54 = .ok (.goto (-50), 3) := by decide +kernel
theorem dX4_costOf_57 : decode cX4_costOf 57 = .ok (.iload_n 2, 1) := by decide +kernel
theorem dX4_costOf_58 : decode cX4_costOf 58 = .ok (.ireturn, 1) := by decide +kernel
theorem dX4_isExplained_0 : decode cX4_isExplained 0 = .ok (.aload_n 0, 1) := by decide +kernel
theorem dX4_isExplained_1 : decode cX4_isExplained 1 = .ok (.aload_n 1, 1) := by decide +kernel
theorem dX4_isExplained_2 : decode cX4_isExplained 2 = .ok (.aload_n 0, 1) := by decide +kernel
theorem dX4_isExplained_3 : decode cX4_isExplained 3 = .ok (.getfield 9, 3) := by decide +kernel
theorem dX4_isExplained_6 : decode cX4_isExplained 6 = .ok (.iload_n 2, 1) := by decide +kernel
theorem dX4_isExplained_7 : decode cX4_isExplained 7 = .ok (.iaload, 1) := by decide +kernel
theorem dX4_isExplained_8 : decode cX4_isExplained 8 = .ok (.aload_n 0, 1) := by decide +kernel
theorem dX4_isExplained_9 : decode cX4_isExplained 9 = .ok (.getfield 15, 3) := by decide +kernel
theorem dX4_isExplained_12 : decode cX4_isExplained 12 = .ok (.iload_n 2, 1) := by decide +kernel
theorem dX4_isExplained_13 : decode cX4_isExplained 13 = .ok (.iaload, 1) := by decide +kernel
theorem dX4_isExplained_14 : decode cX4_isExplained 14 = .ok (.aload_n 0, 1) := by decide +kernel
theorem dX4_isExplained_15 : decode cX4_isExplained 15 = .ok (.getfield 18, 3) := by decide +kernel
theorem dX4_isExplained_18 : decode cX4_isExplained 18 = .ok (.iload_n 2, 1) := by decide +kernel
theorem dX4_isExplained_19 : decode cX4_isExplained 19 = .ok (.iaload, 1) := by decide +kernel
theorem dX4_isExplained_20 : decode cX4_isExplained 20 = .ok (.invokevirtual 45, 3) := by decide +kernel
theorem dX4_isExplained_23 : decode cX4_isExplained 23 = .ok (.ireturn, 1) := by decide +kernel
theorem dX4_tellApart_0 : decode cX4_tellApart 0 = .ok (.iload 4, 2) := by decide +kernel
theorem dX4_tellApart_2 : decode cX4_tellApart 2 = .ok (.iconst 4, 1) := by decide +kernel
theorem dX4_tellApart_3 : decode cX4_tellApart 3 = .ok (.if_icmp .ge 7, 3) := by decide +kernel
theorem dX4_tellApart_6 : decode cX4_tellApart 6 = .ok (.iconst 0, 1) := by decide +kernel
theorem dX4_tellApart_7 : decode cX4_tellApart 7 = .ok (.goto 9, 3) := by decide +kernel
theorem dX4_tellApart_10 : decode cX4_tellApart 10 = .ok (.iload 4, 2) := by decide +kernel
theorem dX4_tellApart_12 : decode cX4_tellApart 12 = .ok (.iconst 4, 1) := by decide +kernel
theorem dX4_tellApart_13 : decode cX4_tellApart 13 = .ok (.isub, 1) := by decide +kernel
theorem dX4_tellApart_14 : decode cX4_tellApart 14 = .ok (.iconst 1, 1) := by decide +kernel
theorem dX4_tellApart_15 : decode cX4_tellApart 15 = .ok (.iadd, 1) := by decide +kernel
theorem dX4_tellApart_16 : decode cX4_tellApart 16 = .ok (.istore 5, 2) := by decide +kernel
theorem dX4_tellApart_18 : decode cX4_tellApart 18 = .ok (.aload_n 0, 1) := by decide +kernel
theorem dX4_tellApart_19 : decode cX4_tellApart 19 = .ok (.aload_n 1, 1) := by decide +kernel
theorem dX4_tellApart_20 : decode cX4_tellApart 20 = .ok (.iload 5, 2) := by decide +kernel
theorem dX4_tellApart_22 : decode cX4_tellApart 22 = .ok (.iload_n 3, 1) := by decide +kernel
theorem dX4_tellApart_23 : decode cX4_tellApart 23 = .ok (.iload 4, 2) := by decide +kernel
theorem dX4_tellApart_25 : decode cX4_tellApart 25 = .ok (.invokevirtual 45, 3) := by decide +kernel
theorem dX4_tellApart_28 : decode cX4_tellApart 28 = .ok (.aload_n 0, 1) := by decide +kernel
theorem dX4_tellApart_29 : decode cX4_tellApart 29 = .ok (.aload_n 2, 1) := by decide +kernel
theorem dX4_tellApart_30 : decode cX4_tellApart 30 = .ok (.iload 5, 2) := by decide +kernel
theorem dX4_tellApart_32 : decode cX4_tellApart 32 = .ok (.iload_n 3, 1) := by decide +kernel
theorem dX4_tellApart_33 : decode cX4_tellApart 33 = .ok (.iload 4, 2) := by decide +kernel
theorem dX4_tellApart_35 : decode cX4_tellApart 35 = .ok (.invokevirtual 45, 3) := by decide +kernel
theorem dX4_tellApart_38 : decode cX4_tellApart 38 = .ok (.if_icmp .eq 7, 3) := by decide +kernel
theorem dX4_tellApart_41 : decode cX4_tellApart 41 = .ok (.iconst 1, 1) := by decide +kernel
theorem dX4_tellApart_42 : decode cX4_tellApart 42 = .ok (.goto 4, 3) := by decide +kernel
theorem dX4_tellApart_45 : decode cX4_tellApart 45 = .ok (.iconst 0, 1) := by decide +kernel
theorem dX4_tellApart_46 : decode cX4_tellApart 46 = .ok (.ireturn, 1) := by decide +kernel
theorem dX4_canComeFrom_0 : decode cX4_canComeFrom 0 = .ok (.aload_n 0, 1) := by decide +kernel
theorem dX4_canComeFrom_1 : decode cX4_canComeFrom 1 = .ok (.getfield 24, 3) := by decide +kernel
theorem dX4_canComeFrom_4 : decode cX4_canComeFrom 4 = .ok (.getfield 49, 3) := by decide +kernel
theorem dX4_canComeFrom_7 : decode cX4_canComeFrom 7 = .ok (.iload_n 3, 1) := by decide +kernel
theorem dX4_canComeFrom_8 : decode cX4_canComeFrom 8 = .ok (.iaload, 1) := by decide +kernel
theorem dX4_canComeFrom_9 : decode cX4_canComeFrom 9 = .ok (.aload_n 0, 1) := by decide +kernel
theorem dX4_canComeFrom_10 : decode cX4_canComeFrom 10 = .ok (.getfield 28, 3) := by decide +kernel
theorem dX4_canComeFrom_13 : decode cX4_canComeFrom 13 = .ok (.getfield 54, 3) := by decide +kernel
theorem dX4_canComeFrom_16 : decode cX4_canComeFrom 16 = .ok (.iload_n 2, 1) := by decide +kernel
theorem dX4_canComeFrom_17 : decode cX4_canComeFrom 17 = .ok (.iaload, 1) := by decide +kernel
theorem dX4_canComeFrom_18 : decode cX4_canComeFrom 18 = .ok (.if_icmp .ne 37, 3) := by decide +kernel
theorem dX4_canComeFrom_21 : decode cX4_canComeFrom 21 = .ok (.aload_n 0, 1) := by decide +kernel
theorem dX4_canComeFrom_22 : decode cX4_canComeFrom 22 = .ok (.getfield 32, 3) := by decide +kernel
theorem dX4_canComeFrom_25 : decode cX4_canComeFrom 25 = .ok (.aload_n 1, 1) := by decide +kernel
theorem dX4_canComeFrom_26 : decode cX4_canComeFrom 26 = .ok (.iload_n 3, 1) := by decide +kernel
theorem dX4_canComeFrom_27 : decode cX4_canComeFrom 27 = .ok (.aload_n 0, 1) := by decide +kernel
theorem dX4_canComeFrom_28 : decode cX4_canComeFrom 28 = .ok (.getfield 28, 3) := by decide +kernel
theorem dX4_canComeFrom_31 : decode cX4_canComeFrom 31 = .ok (.getfield 57, 3) := by decide +kernel
theorem dX4_canComeFrom_34 : decode cX4_canComeFrom 34 = .ok (.iload_n 2, 1) := by decide +kernel
theorem dX4_canComeFrom_35 : decode cX4_canComeFrom 35 = .ok (.iaload, 1) := by decide +kernel
theorem dX4_canComeFrom_36 : decode cX4_canComeFrom 36 = .ok (.invokevirtual 60, 3) := by decide +kernel
theorem dX4_canComeFrom_39 : decode cX4_canComeFrom 39 = .ok (.aload_n 0, 1) := by decide +kernel
theorem dX4_canComeFrom_40 : decode cX4_canComeFrom 40 = .ok (.getfield 28, 3) := by decide +kernel
theorem dX4_canComeFrom_43 : decode cX4_canComeFrom 43 = .ok (.getfield 66, 3) := by decide +kernel
theorem dX4_canComeFrom_46 : decode cX4_canComeFrom 46 = .ok (.iload_n 2, 1) := by decide +kernel
theorem dX4_canComeFrom_47 : decode cX4_canComeFrom 47 = .ok (.iaload, 1) := by decide +kernel
theorem dX4_canComeFrom_48 : decode cX4_canComeFrom 48 = .ok (.if_icmp .ne 7, 3) := by decide +kernel
theorem dX4_canComeFrom_51 : decode cX4_canComeFrom 51 = .ok (.iconst 1, 1) := by decide +kernel
theorem dX4_canComeFrom_52 : decode cX4_canComeFrom 52 = .ok (.goto 4, 3) := by decide +kernel
theorem dX4_canComeFrom_55 : decode cX4_canComeFrom 55 = .ok (.iconst 0, 1) := by decide +kernel
theorem dX4_canComeFrom_56 : decode cX4_canComeFrom 56 = .ok (.ireturn, 1) := by decide +kernel
theorem dX4_holds_0 : decode cX4_holds 0 = .ok (.iload_n 2, 1) := by decide +kernel
theorem dX4_holds_1 : decode cX4_holds 1 = .ok (.iconst 4, 1) := by decide +kernel
theorem dX4_holds_2 : decode cX4_holds 2 = .ok (.if_icmp .ne 11, 3) := by decide +kernel
theorem dX4_holds_5 : decode cX4_holds 5 = .ok (.aload_n 0, 1) := by decide +kernel
theorem dX4_holds_6 : decode cX4_holds 6 = .ok (.aload_n 1, 1) := by decide +kernel
theorem dX4_holds_7 : decode cX4_holds 7 = .ok (.iload 4, 2) := by decide +kernel
theorem dX4_holds_9 : decode cX4_holds 9 = .ok (.invokevirtual 67, 3) := by decide +kernel
theorem dX4_holds_12 : decode cX4_holds 12 = .ok (.ireturn, 1) := by decide +kernel
theorem dX4_holds_13 : decode cX4_holds 13 = .ok (.iload_n 2, 1) := by decide +kernel
theorem dX4_holds_14 : decode cX4_holds 14 = .ok (.iconst 5, 1) := by decide +kernel
theorem dX4_holds_15 : decode cX4_holds 15 = .ok (.if_icmp .ne 18, 3) := by decide +kernel
theorem dX4_holds_18 : decode cX4_holds 18 = .ok (.aload_n 0, 1) := by decide +kernel
theorem dX4_holds_19 : decode cX4_holds 19 = .ok (.aload_n 1, 1) := by decide +kernel
theorem dX4_holds_20 : decode cX4_holds 20 = .ok (.iload_n 3, 1) := by decide +kernel
theorem dX4_holds_21 : decode cX4_holds 21 = .ok (.iload 4, 2) := by decide +kernel
theorem dX4_holds_23 : decode cX4_holds 23 = .ok (.iconst 4, 1) := by decide +kernel
theorem dX4_holds_24 : decode cX4_holds 24 = .ok (.idiv, 1) := by decide +kernel
theorem dX4_holds_25 : decode cX4_holds 25 = .ok (.iload 4, 2) := by decide +kernel
theorem dX4_holds_27 : decode cX4_holds 27 = .ok (.iconst 4, 1) := by decide +kernel
theorem dX4_holds_28 : decode cX4_holds 28 = .ok (.irem, 1) := by decide +kernel
theorem dX4_holds_29 : decode cX4_holds 29 = .ok (.invokevirtual 71, 3) := by decide +kernel
theorem dX4_holds_32 : decode cX4_holds 32 = .ok (.ireturn, 1) := by decide +kernel
theorem dX4_holds_33 : decode cX4_holds 33 = .ok (.iconst 0, 1) := by decide +kernel
theorem dX4_holds_34 : decode cX4_holds 34 = .ok (.istore 5, 2) := by decide +kernel
theorem dX4_holds_36 : decode cX4_holds 36 = .ok (.iload 5, 2) := by decide +kernel
theorem dX4_holds_38 : decode cX4_holds 38 = .ok (.aload_n 1, 1) := by decide +kernel
theorem dX4_holds_39 : decode cX4_holds 39 = .ok (.getfield 74, 3) := by decide +kernel
theorem dX4_holds_42 : decode cX4_holds 42 = .ok (.if_icmp .ge 38, 3) := by decide +kernel
theorem dX4_holds_45 : decode cX4_holds 45 = .ok (.aload_n 0, 1) := by decide +kernel
theorem dX4_holds_46 : decode cX4_holds 46 = .ok (.aload_n 1, 1) := by decide +kernel
theorem dX4_holds_47 : decode cX4_holds 47 = .ok (.getfield 77, 3) := by decide +kernel
theorem dX4_holds_50 : decode cX4_holds 50 = .ok (.iload 5, 2) := by decide +kernel
theorem dX4_holds_52 : decode cX4_holds 52 = .ok (.iaload, 1) := by decide +kernel
theorem dX4_holds_53 : decode cX4_holds 53 = .ok (.iload_n 2, 1) := by decide +kernel
theorem dX4_holds_54 : decode cX4_holds 54 = .ok (.iload_n 3, 1) := by decide +kernel
theorem dX4_holds_55 : decode cX4_holds 55 = .ok (.iload 4, 2) := by decide +kernel
theorem dX4_holds_57 : decode cX4_holds 57 = .ok (.invokevirtual 80, 3) := by decide +kernel
theorem dX4_holds_60 : decode cX4_holds 60 = .ok (.ifCond .eq 14, 3) := by decide +kernel
theorem dX4_holds_63 : decode cX4_holds 63 = .ok (.iload_n 2, 1) := by decide +kernel
theorem dX4_holds_64 : decode cX4_holds 64 = .ok (.iconst 3, 1) := by decide +kernel
theorem dX4_holds_65 : decode cX4_holds 65 = .ok (.if_icmp .eq 7, 3) := by decide +kernel
theorem dX4_holds_68 : decode cX4_holds 68 = .ok (.iconst 1, 1) := by decide +kernel
theorem dX4_holds_69 : decode cX4_holds 69 = .ok (.goto 4, 3) := by decide +kernel
theorem dX4_holds_72 : decode cX4_holds 72 = .ok (.iconst 0, 1) := by decide +kernel
theorem dX4_holds_73 : decode cX4_holds 73 = .ok (.ireturn, 1) := by decide +kernel
theorem dX4_holds_74 : decode cX4_holds 74 = .ok (.iinc 5 1, 3) := by decide +kernel
theorem dX4_holds_77 : decode cX4_holds 77 = .ok (.goto (-41), 3) := by decide +kernel
theorem dX4_holds_80 : decode cX4_holds 80 = .ok (.iload_n 2, 1) := by decide +kernel
theorem dX4_holds_81 : decode cX4_holds 81 = .ok (.iconst 3, 1) := by decide +kernel
theorem dX4_holds_82 : decode cX4_holds 82 = .ok (.if_icmp .ne 7, 3) := by decide +kernel
theorem dX4_holds_85 : decode cX4_holds 85 = .ok (.iconst 1, 1) := by decide +kernel
theorem dX4_holds_86 : decode cX4_holds 86 = .ok (.goto 4, 3) := by decide +kernel
theorem dX4_holds_89 : decode cX4_holds 89 = .ok (.iconst 0, 1) := by decide +kernel
theorem dX4_holds_90 : decode cX4_holds 90 = .ok (.ireturn, 1) := by decide +kernel
theorem dX4_isDoneBy_0 : decode cX4_isDoneBy 0 = .ok (.iload_n 2, 1) := by decide +kernel
theorem dX4_isDoneBy_1 : decode cX4_isDoneBy 1 = .ok (.tableswitch 93 0 3 #[31, 43, 53, 83], 31) := by decide +kernel
theorem dX4_isDoneBy_32 : decode cX4_isDoneBy 32 = .ok (.aload_n 0, 1) := by decide +kernel
theorem dX4_isDoneBy_33 : decode cX4_isDoneBy 33 = .ok (.getfield 32, 3) := by decide +kernel
theorem dX4_isDoneBy_36 : decode cX4_isDoneBy 36 = .ok (.iload_n 1, 1) := by decide +kernel
theorem dX4_isDoneBy_37 : decode cX4_isDoneBy 37 = .ok (.iload_n 3, 1) := by decide +kernel
theorem dX4_isDoneBy_38 : decode cX4_isDoneBy 38 = .ok (.iload 4, 2) := by decide +kernel
theorem dX4_isDoneBy_40 : decode cX4_isDoneBy 40 = .ok (.invokevirtual 84, 3) := by decide +kernel
theorem dX4_isDoneBy_43 : decode cX4_isDoneBy 43 = .ok (.ireturn, 1) := by decide +kernel
theorem dX4_isDoneBy_44 : decode cX4_isDoneBy 44 = .ok (.aload_n 0, 1) := by decide +kernel
theorem dX4_isDoneBy_45 : decode cX4_isDoneBy 45 = .ok (.getfield 32, 3) := by decide +kernel
theorem dX4_isDoneBy_48 : decode cX4_isDoneBy 48 = .ok (.iload_n 1, 1) := by decide +kernel
theorem dX4_isDoneBy_49 : decode cX4_isDoneBy 49 = .ok (.iload_n 3, 1) := by decide +kernel
theorem dX4_isDoneBy_50 : decode cX4_isDoneBy 50 = .ok (.invokevirtual 87, 3) := by decide +kernel
theorem dX4_isDoneBy_53 : decode cX4_isDoneBy 53 = .ok (.ireturn, 1) := by decide +kernel
theorem dX4_isDoneBy_54 : decode cX4_isDoneBy 54 = .ok (.aload_n 0, 1) := by decide +kernel
theorem dX4_isDoneBy_55 : decode cX4_isDoneBy 55 = .ok (.getfield 32, 3) := by decide +kernel
theorem dX4_isDoneBy_58 : decode cX4_isDoneBy 58 = .ok (.getfield 91, 3) := by decide +kernel
theorem dX4_isDoneBy_61 : decode cX4_isDoneBy 61 = .ok (.iload_n 1, 1) := by decide +kernel
theorem dX4_isDoneBy_62 : decode cX4_isDoneBy 62 = .ok (.baload, 1) := by decide +kernel
theorem dX4_isDoneBy_63 : decode cX4_isDoneBy 63 = .ok (.ifCond .ne 19, 3) := by decide +kernel
theorem dX4_isDoneBy_66 : decode cX4_isDoneBy 66 = .ok (.aload_n 0, 1) := by decide +kernel
theorem dX4_isDoneBy_67 : decode cX4_isDoneBy 67 = .ok (.getfield 32, 3) := by decide +kernel
theorem dX4_isDoneBy_70 : decode cX4_isDoneBy 70 = .ok (.iload_n 1, 1) := by decide +kernel
theorem dX4_isDoneBy_71 : decode cX4_isDoneBy 71 = .ok (.iload_n 3, 1) := by decide +kernel
theorem dX4_isDoneBy_72 : decode cX4_isDoneBy 72 = .ok (.invokevirtual 95, 3) := by decide +kernel
theorem dX4_isDoneBy_75 : decode cX4_isDoneBy 75 = .ok (.ifCond .eq 7, 3) := by decide +kernel
theorem dX4_isDoneBy_78 : decode cX4_isDoneBy 78 = .ok (.iconst 1, 1) := by decide +kernel
theorem dX4_isDoneBy_79 : decode cX4_isDoneBy 79 = .ok (.goto 4, 3) := by decide +kernel
theorem dX4_isDoneBy_82 : decode cX4_isDoneBy 82 = .ok (.iconst 0, 1) := by decide +kernel
theorem dX4_isDoneBy_83 : decode cX4_isDoneBy 83 = .ok (.ireturn, 1) := by decide +kernel
theorem dX4_isDoneBy_84 : decode cX4_isDoneBy 84 = .ok (.aload_n 0, 1) := by decide +kernel
theorem dX4_isDoneBy_85 : decode cX4_isDoneBy 85 = .ok (.getfield 32, 3) := by decide +kernel
theorem dX4_isDoneBy_88 : decode cX4_isDoneBy 88 = .ok (.iload_n 1, 1) := by decide +kernel
theorem dX4_isDoneBy_89 : decode cX4_isDoneBy 89 = .ok (.iload_n 3, 1) := by decide +kernel
theorem dX4_isDoneBy_90 : decode cX4_isDoneBy 90 = .ok (.invokevirtual 98, 3) := by decide +kernel
theorem dX4_isDoneBy_93 : decode cX4_isDoneBy 93 = .ok (.ireturn, 1) := by decide +kernel
theorem dX4_isDoneBy_94 : decode cX4_isDoneBy 94 = .ok (.iconst 0, 1) := by decide +kernel
theorem dX4_isDoneBy_95 : decode cX4_isDoneBy 95 = .ok (.ireturn, 1) := by decide +kernel
theorem dX4_isCrossed_0 : decode cX4_isCrossed 0 = .ok (.iconst 0, 1) := by decide +kernel
theorem dX4_isCrossed_1 : decode cX4_isCrossed 1 = .ok (.istore 5, 2) := by decide +kernel
theorem dX4_isCrossed_3 : decode cX4_isCrossed 3 = .ok (.iconst 0, 1) := by decide +kernel
theorem dX4_isCrossed_4 : decode cX4_isCrossed 4 = .ok (.istore 6, 2) := by decide +kernel
theorem dX4_isCrossed_6 : decode cX4_isCrossed 6 = .ok (.iload 6, 2) := by decide +kernel
theorem dX4_isCrossed_8 : decode cX4_isCrossed 8 = .ok (.aload_n 1, 1) := by decide +kernel
theorem dX4_isCrossed_9 : decode cX4_isCrossed 9 = .ok (.getfield 74, 3) := by decide +kernel
theorem dX4_isCrossed_12 : decode cX4_isCrossed 12 = .ok (.if_icmp .ge 67, 3) := by decide +kernel
theorem dX4_isCrossed_15 : decode cX4_isCrossed 15 = .ok (.iload 5, 2) := by decide +kernel
theorem dX4_isCrossed_17 : decode cX4_isCrossed 17 = .ok (.ifCond .eq 24, 3) := by decide +kernel
theorem dX4_isCrossed_20 : decode cX4_isCrossed 20 = .ok (.aload_n 0, 1) := by decide +kernel
theorem dX4_isCrossed_21 : decode cX4_isCrossed 21 = .ok (.getfield 32, 3) := by decide +kernel
theorem dX4_isCrossed_24 : decode cX4_isCrossed 24 = .ok (.aload_n 1, 1) := by decide +kernel
theorem dX4_isCrossed_25 : decode cX4_isCrossed 25 = .ok (.getfield 77, 3) := by decide +kernel
theorem dX4_isCrossed_28 : decode cX4_isCrossed 28 = .ok (.iload 6, 2) := by decide +kernel
theorem dX4_isCrossed_30 : decode cX4_isCrossed 30 = .ok (.iaload, 1) := by decide +kernel
theorem dX4_isCrossed_31 : decode cX4_isCrossed 31 = .ok (.iload_n 2, 1) := by decide +kernel
theorem dX4_isCrossed_32 : decode cX4_isCrossed 32 = .ok (.iload_n 3, 1) := by decide +kernel
theorem dX4_isCrossed_33 : decode cX4_isCrossed 33 = .ok (.invokevirtual 84, 3) := by decide +kernel
theorem dX4_isCrossed_36 : decode cX4_isCrossed 36 = .ok (.ifCond .eq 5, 3) := by decide +kernel
theorem dX4_isCrossed_39 : decode cX4_isCrossed 39 = .ok (.iconst 1, 1) := by decide +kernel
theorem dX4_isCrossed_40 : decode cX4_isCrossed 40 = .ok (.ireturn, 1) := by decide +kernel
theorem dX4_isCrossed_41 : decode cX4_isCrossed 41 = .ok (.iload 5, 2) := by decide +kernel
theorem dX4_isCrossed_43 : decode cX4_isCrossed 43 = .ok (.ifCond .ne 23, 3) := by decide +kernel
theorem dX4_isCrossed_46 : decode cX4_isCrossed 46 = .ok (.aload_n 0, 1) := by decide +kernel
theorem dX4_isCrossed_47 : decode cX4_isCrossed 47 = .ok (.getfield 32, 3) := by decide +kernel
theorem dX4_isCrossed_50 : decode cX4_isCrossed 50 = .ok (.aload_n 1, 1) := by decide +kernel
theorem dX4_isCrossed_51 : decode cX4_isCrossed 51 = .ok (.getfield 77, 3) := by decide +kernel
theorem dX4_isCrossed_54 : decode cX4_isCrossed 54 = .ok (.iload 6, 2) := by decide +kernel
theorem dX4_isCrossed_56 : decode cX4_isCrossed 56 = .ok (.iaload, 1) := by decide +kernel
theorem dX4_isCrossed_57 : decode cX4_isCrossed 57 = .ok (.iload_n 2, 1) := by decide +kernel
theorem dX4_isCrossed_58 : decode cX4_isCrossed 58 = .ok (.iload 4, 2) := by decide +kernel
theorem dX4_isCrossed_60 : decode cX4_isCrossed 60 = .ok (.invokevirtual 84, 3) := by decide +kernel
theorem dX4_isCrossed_63 : decode cX4_isCrossed 63 = .ok (.ifCond .eq 7, 3) := by decide +kernel
theorem dX4_isCrossed_66 : decode cX4_isCrossed 66 = .ok (.iconst 1, 1) := by decide +kernel
theorem dX4_isCrossed_67 : decode cX4_isCrossed 67 = .ok (.goto 4, 3) := by decide +kernel
theorem dX4_isCrossed_70 : decode cX4_isCrossed 70 = .ok (.iconst 0, 1) := by decide +kernel
theorem dX4_isCrossed_71 : decode cX4_isCrossed 71 = .ok (.istore 5, 2) := by decide +kernel
theorem dX4_isCrossed_73 : decode cX4_isCrossed 73 = .ok (.iinc 6 1, 3) := by decide +kernel
theorem dX4_isCrossed_76 : decode cX4_isCrossed 76 = .ok (.goto (-70), 3) := by decide +kernel
theorem dX4_isCrossed_79 : decode cX4_isCrossed 79 = .ok (.iconst 0, 1) := by decide +kernel
theorem dX4_isCrossed_80 : decode cX4_isCrossed 80 = .ok (.ireturn, 1) := by decide +kernel
theorem dX4_comesFromSomewhere_0 : decode cX4_comesFromSomewhere 0 = .ok (.iconst 0, 1) := by decide +kernel
theorem dX4_comesFromSomewhere_1 : decode cX4_comesFromSomewhere 1 = .ok (.istore_n 3, 1) := by decide +kernel
theorem dX4_comesFromSomewhere_2 : decode cX4_comesFromSomewhere 2 = .ok (.iload_n 3, 1) := by decide +kernel
theorem dX4_comesFromSomewhere_3 : decode cX4_comesFromSomewhere 3 = .ok (.aload_n 0, 1) := by decide +kernel
theorem dX4_comesFromSomewhere_4 : decode cX4_comesFromSomewhere 4 = .ok (.getfield 24, 3) := by decide +kernel
theorem dX4_comesFromSomewhere_7 : decode cX4_comesFromSomewhere 7 = .ok (.getfield 101, 3) := by decide +kernel
theorem dX4_comesFromSomewhere_10 : decode cX4_comesFromSomewhere 10 = .ok (.if_icmp .ge 21, 3) := by decide +kernel
theorem dX4_comesFromSomewhere_13 : decode cX4_comesFromSomewhere 13 = .ok (.aload_n 0, 1) := by decide +kernel
theorem dX4_comesFromSomewhere_14 : decode cX4_comesFromSomewhere 14 = .ok (.aload_n 1, 1) := by decide +kernel
theorem dX4_comesFromSomewhere_15 : decode cX4_comesFromSomewhere 15 = .ok (.iload_n 2, 1) := by decide +kernel
theorem dX4_comesFromSomewhere_16 : decode cX4_comesFromSomewhere 16 = .ok (.iload_n 3, 1) := by decide +kernel
theorem dX4_comesFromSomewhere_17 : decode cX4_comesFromSomewhere 17 = .ok (.invokevirtual 102, 3) := by decide +kernel
theorem dX4_comesFromSomewhere_20 : decode cX4_comesFromSomewhere 20 = .ok (.ifCond .eq 5, 3) := by decide +kernel
theorem dX4_comesFromSomewhere_23 : decode cX4_comesFromSomewhere 23 = .ok (.iconst 1, 1) := by decide +kernel
theorem dX4_comesFromSomewhere_24 : decode cX4_comesFromSomewhere 24 = .ok (.ireturn, 1) := by decide +kernel
theorem dX4_comesFromSomewhere_25 : decode cX4_comesFromSomewhere 25 = .ok (.iinc 3 1, 3) := by decide +kernel
theorem dX4_comesFromSomewhere_28 : decode cX4_comesFromSomewhere 28 = .ok (.goto (-26), 3) := by decide +kernel
theorem dX4_comesFromSomewhere_31 : decode cX4_comesFromSomewhere 31 = .ok (.iconst 0, 1) := by decide +kernel
theorem dX4_comesFromSomewhere_32 : decode cX4_comesFromSomewhere 32 = .ok (.ireturn, 1) := by decide +kernel
theorem dX5_init_0 : decode cX5_init 0 = .ok (.aload_n 0, 1) := by decide +kernel
theorem dX5_init_1 : decode cX5_init 1 = .ok (.invokespecial 3, 3) := by decide +kernel
theorem dX5_init_4 : decode cX5_init 4 = .ok (.aload_n 0, 1) := by decide +kernel
theorem dX5_init_5 : decode cX5_init 5 = .ok (.bipush 12, 2) := by decide +kernel
theorem dX5_init_7 : decode cX5_init 7 = .ok (.newarray .int, 2) := by decide +kernel
theorem dX5_init_9 : decode cX5_init 9 = .ok (.putfield 9, 3) := by decide +kernel
theorem dX5_init_12 : decode cX5_init 12 = .ok (.aload_n 0, 1) := by decide +kernel
theorem dX5_init_13 : decode cX5_init 13 = .ok (.bipush 12, 2) := by decide +kernel
theorem dX5_init_15 : decode cX5_init 15 = .ok (.newarray .int, 2) := by decide +kernel
theorem dX5_init_17 : decode cX5_init 17 = .ok (.putfield 15, 3) := by decide +kernel
theorem dX5_init_20 : decode cX5_init 20 = .ok (.aload_n 0, 1) := by decide +kernel
theorem dX5_init_21 : decode cX5_init 21 = .ok (.bipush 12, 2) := by decide +kernel
theorem dX5_init_23 : decode cX5_init 23 = .ok (.newarray .int, 2) := by decide +kernel
theorem dX5_init_25 : decode cX5_init 25 = .ok (.putfield 18, 3) := by decide +kernel
theorem dX5_init_28 : decode cX5_init 28 = .ok (.return_, 1) := by decide +kernel
theorem dX5_has_0 : decode cX5_has 0 = .ok (.iload_n 1, 1) := by decide +kernel
theorem dX5_has_1 : decode cX5_has 1 = .ok (.iconst 0, 1) := by decide +kernel
theorem dX5_has_2 : decode cX5_has 2 = .ok (.aload_n 0, 1) := by decide +kernel
theorem dX5_has_3 : decode cX5_has 3 = .ok (.getfield 21, 3) := by decide +kernel
theorem dX5_has_6 : decode cX5_has 6 = .ok (.iconst 1, 1) := by decide +kernel
theorem dX5_has_7 : decode cX5_has 7 = .ok (.isub, 1) := by decide +kernel
theorem dX5_has_8 : decode cX5_has 8 = .ok (.invokestatic 25, 3) := by decide +kernel
theorem dX5_has_11 : decode cX5_has 11 = .ok (.ireturn, 1) := by decide +kernel
theorem dX5_add_0 : decode cX5_add 0 = .ok (.aload_n 0, 1) := by decide +kernel
theorem dX5_add_1 : decode cX5_add 1 = .ok (.getfield 21, 3) := by decide +kernel
theorem dX5_add_4 : decode cX5_add 4 = .ok (.bipush 12, 2) := by decide +kernel
theorem dX5_add_6 : decode cX5_add 6 = .ok (.if_icmp .lt 6, 3) := by decide +kernel
theorem dX5_add_9 : decode cX5_add 9 = .ok (.ldc 29, 2) := by decide +kernel
theorem dX5_add_11 : decode cX5_add 11 = .ok (.ireturn, 1) := by decide +kernel
theorem dX5_add_12 : decode cX5_add 12 = .ok (.aload_n 0, 1) := by decide +kernel
theorem dX5_add_13 : decode cX5_add 13 = .ok (.getfield 9, 3) := by decide +kernel
theorem dX5_add_16 : decode cX5_add 16 = .ok (.aload_n 0, 1) := by decide +kernel
theorem dX5_add_17 : decode cX5_add 17 = .ok (.getfield 21, 3) := by decide +kernel
theorem dX5_add_20 : decode cX5_add 20 = .ok (.iload_n 1, 1) := by decide +kernel
theorem dX5_add_21 : decode cX5_add 21 = .ok (.iastore, 1) := by decide +kernel
theorem dX5_add_22 : decode cX5_add 22 = .ok (.aload_n 0, 1) := by decide +kernel
theorem dX5_add_23 : decode cX5_add 23 = .ok (.getfield 15, 3) := by decide +kernel
theorem dX5_add_26 : decode cX5_add 26 = .ok (.aload_n 0, 1) := by decide +kernel
theorem dX5_add_27 : decode cX5_add 27 = .ok (.getfield 21, 3) := by decide +kernel
theorem dX5_add_30 : decode cX5_add 30 = .ok (.iload_n 2, 1) := by decide +kernel
theorem dX5_add_31 : decode cX5_add 31 = .ok (.iastore, 1) := by decide +kernel
theorem dX5_add_32 : decode cX5_add 32 = .ok (.aload_n 0, 1) := by decide +kernel
theorem dX5_add_33 : decode cX5_add 33 = .ok (.getfield 18, 3) := by decide +kernel
theorem dX5_add_36 : decode cX5_add 36 = .ok (.aload_n 0, 1) := by decide +kernel
theorem dX5_add_37 : decode cX5_add 37 = .ok (.getfield 21, 3) := by decide +kernel
theorem dX5_add_40 : decode cX5_add 40 = .ok (.iload_n 3, 1) := by decide +kernel
theorem dX5_add_41 : decode cX5_add 41 = .ok (.iastore, 1) := by decide +kernel
theorem dX5_add_42 : decode cX5_add 42 = .ok (.aload_n 0, 1) := by decide +kernel
theorem dX5_add_43 : decode cX5_add 43 = .ok (.dup, 1) := by decide +kernel
theorem dX5_add_44 : decode cX5_add 44 = .ok (.getfield 21, 3) := by decide +kernel
theorem dX5_add_47 : decode cX5_add 47 = .ok (.dup_x1, 1) := by decide +kernel
theorem dX5_add_48 : decode cX5_add 48 = .ok (.iconst 1, 1) := by decide +kernel
theorem dX5_add_49 : decode cX5_add 49 = .ok (.iadd, 1) := by decide +kernel
theorem dX5_add_50 : decode cX5_add 50 = .ok (.putfield 21, 3) := by decide +kernel
theorem dX5_add_53 : decode cX5_add 53 = .ok (.ireturn, 1) := by decide +kernel
theorem dX6_init_0 : decode cX6_init 0 = .ok (.aload_n 0, 1) := by decide +kernel
theorem dX6_init_1 : decode cX6_init 1 = .ok (.invokespecial 3, 3) := by decide +kernel
theorem dX6_init_4 : decode cX6_init 4 = .ok (.aload_n 0, 1) := by decide +kernel
theorem dX6_init_5 : decode cX6_init 5 = .ok (.new 9, 3) := by decide +kernel
theorem dX6_init_8 : decode cX6_init 8 = .ok (.dup, 1) := by decide +kernel
theorem dX6_init_9 : decode cX6_init 9 = .ok (.invokespecial 11, 3) := by decide +kernel
theorem dX6_init_12 : decode cX6_init 12 = .ok (.putfield 12, 3) := by decide +kernel
theorem dX6_init_15 : decode cX6_init 15 = .ok (.aload_n 0, 1) := by decide +kernel
theorem dX6_init_16 : decode cX6_init 16 = .ok (.new 9, 3) := by decide +kernel
theorem dX6_init_19 : decode cX6_init 19 = .ok (.dup, 1) := by decide +kernel
theorem dX6_init_20 : decode cX6_init 20 = .ok (.invokespecial 11, 3) := by decide +kernel
theorem dX6_init_23 : decode cX6_init 23 = .ok (.putfield 18, 3) := by decide +kernel
theorem dX6_init_26 : decode cX6_init 26 = .ok (.aload_n 0, 1) := by decide +kernel
theorem dX6_init_27 : decode cX6_init 27 = .ok (.iconst 1, 1) := by decide +kernel
theorem dX6_init_28 : decode cX6_init 28 = .ok (.putfield 21, 3) := by decide +kernel
theorem dX6_init_31 : decode cX6_init 31 = .ok (.aload_n 0, 1) := by decide +kernel
theorem dX6_init_32 : decode cX6_init 32 = .ok (.aload_n 1, 1) := by decide +kernel
theorem dX6_init_33 : decode cX6_init 33 = .ok (.putfield 25, 3) := by decide +kernel
theorem dX6_init_36 : decode cX6_init 36 = .ok (.aload_n 0, 1) := by decide +kernel
theorem dX6_init_37 : decode cX6_init 37 = .ok (.aload_n 2, 1) := by decide +kernel
theorem dX6_init_38 : decode cX6_init 38 = .ok (.putfield 29, 3) := by decide +kernel
theorem dX6_init_41 : decode cX6_init 41 = .ok (.return_, 1) := by decide +kernel
theorem dX6_renew_0 : decode cX6_renew 0 = .ok (.aload_n 0, 1) := by decide +kernel
theorem dX6_renew_1 : decode cX6_renew 1 = .ok (.getfield 21, 3) := by decide +kernel
theorem dX6_renew_4 : decode cX6_renew 4 = .ok (.ifCond .ne 4, 3) := by decide +kernel
theorem dX6_renew_7 : decode cX6_renew 7 = .ok (.return_, 1) := by decide +kernel
theorem dX6_renew_8 : decode cX6_renew 8 = .ok (.aload_n 0, 1) := by decide +kernel
theorem dX6_renew_9 : decode cX6_renew 9 = .ok (.iconst 0, 1) := by decide +kernel
theorem dX6_renew_10 : decode cX6_renew 10 = .ok (.putfield 21, 3) := by decide +kernel
theorem dX6_renew_13 : decode cX6_renew 13 = .ok (.aload_n 0, 1) := by decide +kernel
theorem dX6_renew_14 : decode cX6_renew 14 = .ok (.iconst 0, 1) := by decide +kernel
theorem dX6_renew_15 : decode cX6_renew 15 = .ok (.putfield 33, 3) := by decide +kernel
theorem dX6_renew_18 : decode cX6_renew 18 = .ok (.aload_n 0, 1) := by decide +kernel
theorem dX6_renew_19 : decode cX6_renew 19 = .ok (.iconst (-1), 1) := by decide +kernel
theorem dX6_renew_20 : decode cX6_renew 20 = .ok (.putfield 37, 3) := by decide +kernel
theorem dX6_renew_23 : decode cX6_renew 23 = .ok (.iconst 1, 1) := by decide +kernel
theorem dX6_renew_24 : decode cX6_renew 24 = .ok (.istore_n 1, 1) := by decide +kernel
theorem dX6_renew_25 : decode cX6_renew 25 = .ok (.iconst 0, 1) := by decide +kernel
theorem dX6_renew_26 : decode cX6_renew 26 = .ok (.istore_n 2, 1) := by decide +kernel
theorem dX6_renew_27 : decode cX6_renew 27 = .ok (.iload_n 2, 1) := by decide +kernel
theorem dX6_renew_28 : decode cX6_renew 28 = .ok (.iconst 3, 1) := by decide +kernel
theorem dX6_renew_29 : decode cX6_renew 29 = .ok (.if_icmp .gt 66, 3) := by decide +kernel
theorem dX6_renew_32 : decode cX6_renew 32 = .ok (.iconst 0, 1) := by decide +kernel
theorem dX6_renew_33 : decode cX6_renew 33 = .ok (.istore_n 3, 1) := by decide +kernel
theorem dX6_renew_34 : decode cX6_renew 34 = .ok (.iload_n 3, 1) := by decide +kernel
theorem dX6_renew_35 : decode cX6_renew 35 = .ok (.iload_n 1, 1) := by decide +kernel
theorem dX6_renew_36 : decode cX6_renew 36 = .ok (.if_icmp .ge 43, 3) := by decide +kernel
theorem dX6_renew_39 : decode cX6_renew 39 = .ok (.aload_n 0, 1) := by decide +kernel
theorem dX6_renew_40 : decode cX6_renew 40 = .ok (.getfield 12, 3) := by decide +kernel
theorem dX6_renew_43 : decode cX6_renew 43 = .ok (.iload_n 3, 1) := by decide +kernel
theorem dX6_renew_44 : decode cX6_renew 44 = .ok (.iload_n 2, 1) := by decide +kernel
theorem dX6_renew_45 : decode cX6_renew 45 = .ok (.aload_n 0, 1) := by decide +kernel
theorem dX6_renew_46 : decode cX6_renew 46 = .ok (.getfield 25, 3) := by decide +kernel
theorem dX6_renew_49 : decode cX6_renew 49 = .ok (.getfield 40, 3) := by decide +kernel
theorem dX6_renew_52 : decode cX6_renew 52 = .ok (.invokevirtual 45, 3) := by decide +kernel
theorem dX6_renew_55 : decode cX6_renew 55 = .ok (.ifCond .eq 18, 3) := by decide +kernel
theorem dX6_renew_58 : decode cX6_renew 58 = .ok (.aload_n 0, 1) := by decide +kernel
theorem dX6_renew_59 : decode cX6_renew 59 = .ok (.aload_n 0, 1) := by decide +kernel
theorem dX6_renew_60 : decode cX6_renew 60 = .ok (.getfield 29, 3) := by decide +kernel
theorem dX6_renew_63 : decode cX6_renew 63 = .ok (.aload_n 0, 1) := by decide +kernel
theorem dX6_renew_64 : decode cX6_renew 64 = .ok (.getfield 12, 3) := by decide +kernel
theorem dX6_renew_67 : decode cX6_renew 67 = .ok (.invokevirtual 49, 3) := by decide +kernel
theorem dX6_renew_70 : decode cX6_renew 70 = .ok (.invokevirtual 55, 3) := by decide +kernel
theorem dX6_renew_73 : decode cX6_renew 73 = .ok (.iinc 3 1, 3) := by decide +kernel
theorem dX6_renew_76 : decode cX6_renew 76 = .ok (.goto (-42), 3) := by decide +kernel
theorem dX6_renew_79 : decode cX6_renew 79 = .ok (.iload_n 1, 1) := by decide +kernel
theorem dX6_renew_80 : decode cX6_renew 80 = .ok (.aload_n 0, 1) := by decide +kernel
theorem dX6_renew_81 : decode cX6_renew 81 = .ok (.getfield 25, 3) := by decide +kernel
theorem dX6_renew_84 : decode cX6_renew 84 = .ok (.getfield 40, 3) := by decide +kernel
theorem dX6_renew_87 : decode cX6_renew 87 = .ok (.imul, 1) := by decide +kernel
theorem dX6_renew_88 : decode cX6_renew 88 = .ok (.istore_n 1, 1) := by decide +kernel
theorem dX6_renew_89 : decode cX6_renew 89 = .ok (.iinc 2 1, 3) := by decide +kernel
theorem dX6_renew_92 : decode cX6_renew 92 = .ok (.goto (-65), 3) := by decide +kernel
theorem dX6_renew_95 : decode cX6_renew 95 = .ok (.return_, 1) := by decide +kernel
theorem dX6_weigh_0 : decode cX6_weigh 0 = .ok (.aload_n 0, 1) := by decide +kernel
theorem dX6_weigh_1 : decode cX6_weigh 1 = .ok (.dup, 1) := by decide +kernel
theorem dX6_weigh_2 : decode cX6_weigh 2 = .ok (.getfield 33, 3) := by decide +kernel
theorem dX6_weigh_5 : decode cX6_weigh 5 = .ok (.iload_n 1, 1) := by decide +kernel
theorem dX6_weigh_6 : decode cX6_weigh 6 = .ok (.ifCond .ne 7, 3) := by decide +kernel
theorem dX6_weigh_9 : decode cX6_weigh 9 = .ok (.iconst 1, 1) := by decide +kernel
theorem dX6_weigh_10 : decode cX6_weigh 10 = .ok (.goto 4, 3) := by decide +kernel
theorem dX6_weigh_13 : decode cX6_weigh 13 = .ok (.iconst 0, 1) := by decide +kernel
theorem dX6_weigh_14 : decode cX6_weigh 14 = .ok (.invokestatic 59, 3) := by decide +kernel
theorem dX6_weigh_17 : decode cX6_weigh 17 = .ok (.iadd, 1) := by decide +kernel
theorem dX6_weigh_18 : decode cX6_weigh 18 = .ok (.putfield 33, 3) := by decide +kernel
theorem dX6_weigh_21 : decode cX6_weigh 21 = .ok (.aload_n 0, 1) := by decide +kernel
theorem dX6_weigh_22 : decode cX6_weigh 22 = .ok (.getfield 37, 3) := by decide +kernel
theorem dX6_weigh_25 : decode cX6_weigh 25 = .ok (.ifCond .lt 11, 3) := by decide +kernel
theorem dX6_weigh_28 : decode cX6_weigh 28 = .ok (.iload_n 1, 1) := by decide +kernel
theorem dX6_weigh_29 : decode cX6_weigh 29 = .ok (.aload_n 0, 1) := by decide +kernel
theorem dX6_weigh_30 : decode cX6_weigh 30 = .ok (.getfield 37, 3) := by decide +kernel
theorem dX6_weigh_33 : decode cX6_weigh 33 = .ok (.if_icmp .ge 19, 3) := by decide +kernel
theorem dX6_weigh_36 : decode cX6_weigh 36 = .ok (.aload_n 0, 1) := by decide +kernel
theorem dX6_weigh_37 : decode cX6_weigh 37 = .ok (.iload_n 1, 1) := by decide +kernel
theorem dX6_weigh_38 : decode cX6_weigh 38 = .ok (.putfield 37, 3) := by decide +kernel
theorem dX6_weigh_41 : decode cX6_weigh 41 = .ok (.aload_n 0, 1) := by decide +kernel
theorem dX6_weigh_42 : decode cX6_weigh 42 = .ok (.getfield 18, 3) := by decide +kernel
theorem dX6_weigh_45 : decode cX6_weigh 45 = .ok (.aload_n 0, 1) := by decide +kernel
theorem dX6_weigh_46 : decode cX6_weigh 46 = .ok (.getfield 12, 3) := by decide +kernel
theorem dX6_weigh_49 : decode cX6_weigh 49 = .ok (.invokevirtual 63, 3) := by decide +kernel
theorem dX6_weigh_52 : decode cX6_weigh 52 = .ok (.return_, 1) := by decide +kernel
theorem dX7_init_0 : decode cX7_init 0 = .ok (.aload_n 0, 1) := by decide +kernel
theorem dX7_init_1 : decode cX7_init 1 = .ok (.invokespecial 3, 3) := by decide +kernel
theorem dX7_init_4 : decode cX7_init 4 = .ok (.aload_n 0, 1) := by decide +kernel
theorem dX7_init_5 : decode cX7_init 5 = .ok (.bipush 36, 2) := by decide +kernel
theorem dX7_init_7 : decode cX7_init 7 = .ok (.newarray .int, 2) := by decide +kernel
theorem dX7_init_9 : decode cX7_init 9 = .ok (.putfield 9, 3) := by decide +kernel
theorem dX7_init_12 : decode cX7_init 12 = .ok (.aload_n 0, 1) := by decide +kernel
theorem dX7_init_13 : decode cX7_init 13 = .ok (.aload_n 1, 1) := by decide +kernel
theorem dX7_init_14 : decode cX7_init 14 = .ok (.putfield 15, 3) := by decide +kernel
theorem dX7_init_17 : decode cX7_init 17 = .ok (.aload_n 0, 1) := by decide +kernel
theorem dX7_init_18 : decode cX7_init 18 = .ok (.aload_n 2, 1) := by decide +kernel
theorem dX7_init_19 : decode cX7_init 19 = .ok (.putfield 19, 3) := by decide +kernel
theorem dX7_init_22 : decode cX7_init 22 = .ok (.return_, 1) := by decide +kernel
theorem dX7_isClosed_0 : decode cX7_isClosed 0 = .ok (.aload_n 0, 1) := by decide +kernel
theorem dX7_isClosed_1 : decode cX7_isClosed 1 = .ok (.getfield 9, 3) := by decide +kernel
theorem dX7_isClosed_4 : decode cX7_isClosed 4 = .ok (.iload_n 1, 1) := by decide +kernel
theorem dX7_isClosed_5 : decode cX7_isClosed 5 = .ok (.iaload, 1) := by decide +kernel
theorem dX7_isClosed_6 : decode cX7_isClosed 6 = .ok (.bipush 100, 2) := by decide +kernel
theorem dX7_isClosed_8 : decode cX7_isClosed 8 = .ok (.if_icmp .ne 7, 3) := by decide +kernel
theorem dX7_isClosed_11 : decode cX7_isClosed 11 = .ok (.iconst 1, 1) := by decide +kernel
theorem dX7_isClosed_12 : decode cX7_isClosed 12 = .ok (.goto 4, 3) := by decide +kernel
theorem dX7_isClosed_15 : decode cX7_isClosed 15 = .ok (.iconst 0, 1) := by decide +kernel
theorem dX7_isClosed_16 : decode cX7_isClosed 16 = .ok (.ireturn, 1) := by decide +kernel
theorem dX7_stand_0 : decode cX7_stand 0 = .ok (.iconst 0, 1) := by decide +kernel
theorem dX7_stand_1 : decode cX7_stand 1 = .ok (.istore_n 2, 1) := by decide +kernel
theorem dX7_stand_2 : decode cX7_stand 2 = .ok (.iload_n 2, 1) := by decide +kernel
theorem dX7_stand_3 : decode cX7_stand 3 = .ok (.aload_n 0, 1) := by decide +kernel
theorem dX7_stand_4 : decode cX7_stand 4 = .ok (.getfield 15, 3) := by decide +kernel
theorem dX7_stand_7 : decode cX7_stand 7 = .ok (.getfield 23, 3) := by decide +kernel
theorem dX7_stand_10 : decode cX7_stand 10 = .ok (.if_icmp .ge 62, 3) := by decide +kernel
theorem dX7_stand_13 : decode cX7_stand 13 = .ok (.aload_n 0, 1) := by decide +kernel
theorem dX7_stand_14 : decode cX7_stand 14 = .ok (.getfield 15, 3) := by decide +kernel
theorem dX7_stand_17 : decode cX7_stand 17 = .ok (.iload_n 2, 1) := by decide +kernel
theorem dX7_stand_18 : decode cX7_stand 18 = .ok (.invokevirtual 29, 3) := by decide +kernel
theorem dX7_stand_21 : decode cX7_stand 21 = .ok (.ifCond .eq 19, 3) := by decide +kernel
theorem dX7_stand_24 : decode cX7_stand 24 = .ok (.aload_n 0, 1) := by decide +kernel
theorem dX7_stand_25 : decode cX7_stand 25 = .ok (.getfield 19, 3) := by decide +kernel
theorem dX7_stand_28 : decode cX7_stand 28 = .ok (.iload_n 1, 1) := by decide +kernel
theorem dX7_stand_29 : decode cX7_stand 29 = .ok (.iload_n 2, 1) := by decide +kernel
theorem dX7_stand_30 : decode cX7_stand 30 = .ok (.invokevirtual 33, 3) := by decide +kernel
theorem dX7_stand_33 : decode cX7_stand 33 = .ok (.ifCond .ne 7, 3) := by decide +kernel
theorem dX7_stand_36 : decode cX7_stand 36 = .ok (.iconst 1, 1) := by decide +kernel
theorem dX7_stand_37 : decode cX7_stand 37 = .ok (.goto 4, 3) := by decide +kernel
theorem dX7_stand_40 : decode cX7_stand 40 = .ok (.iconst 0, 1) := by decide +kernel
theorem dX7_stand_41 : decode cX7_stand 41 = .ok (.istore_n 3, 1) := by decide +kernel
theorem dX7_stand_42 : decode cX7_stand 42 = .ok (.aload_n 0, 1) := by decide +kernel
theorem dX7_stand_43 : decode cX7_stand 43 = .ok (.getfield 9, 3) := by decide +kernel
theorem dX7_stand_46 : decode cX7_stand 46 = .ok (.iload_n 2, 1) := by decide +kernel
theorem dX7_stand_47 : decode cX7_stand 47 = .ok (.iload_n 3, 1) := by decide +kernel
theorem dX7_stand_48 : decode cX7_stand 48 = .ok (.ifCond .eq 15, 3) := by decide +kernel
theorem dX7_stand_51 : decode cX7_stand 51 = .ok (.aload_n 0, 1) := by decide +kernel
theorem dX7_stand_52 : decode cX7_stand 52 = .ok (.getfield 15, 3) := by decide +kernel
theorem dX7_stand_55 : decode cX7_stand 55 = .ok (.getfield 39, 3) := by decide +kernel
theorem dX7_stand_58 : decode cX7_stand 58 = .ok (.iload_n 2, 1) := by decide +kernel
theorem dX7_stand_59 : decode cX7_stand 59 = .ok (.iaload, 1) := by decide +kernel
theorem dX7_stand_60 : decode cX7_stand 60 = .ok (.goto 5, 3) := by decide +kernel
theorem dX7_stand_63 : decode cX7_stand 63 = .ok (.bipush 100, 2) := by decide +kernel
theorem dX7_stand_65 : decode cX7_stand 65 = .ok (.iastore, 1) := by decide +kernel
theorem dX7_stand_66 : decode cX7_stand 66 = .ok (.iinc 2 1, 3) := by decide +kernel
theorem dX7_stand_69 : decode cX7_stand 69 = .ok (.goto (-67), 3) := by decide +kernel
theorem dX7_stand_72 : decode cX7_stand 72 = .ok (.iconst 1, 1) := by decide +kernel
theorem dX7_stand_73 : decode cX7_stand 73 = .ok (.istore_n 2, 1) := by decide +kernel
theorem dX7_stand_74 : decode cX7_stand 74 = .ok (.iconst 0, 1) := by decide +kernel
theorem dX7_stand_75 : decode cX7_stand 75 = .ok (.istore_n 3, 1) := by decide +kernel
theorem dX7_stand_76 : decode cX7_stand 76 = .ok (.iload_n 3, 1) := by decide +kernel
theorem dX7_stand_77 : decode cX7_stand 77 = .ok (.bipush 36, 2) := by decide +kernel
theorem dX7_stand_79 : decode cX7_stand 79 = .ok (.if_icmp .ge 68, 3) := by decide +kernel
theorem dX7_stand_82 : decode cX7_stand 82 = .ok (.iload_n 2, 1) := by decide +kernel
theorem dX7_stand_83 : decode cX7_stand 83 = .ok (.ifCond .eq 64, 3) := by decide +kernel
theorem dX7_stand_86 : decode cX7_stand 86 = .ok (.iconst 0, 1) := by decide +kernel
theorem dX7_stand_87 : decode cX7_stand 87 = .ok (.istore_n 2, 1) := by decide +kernel
theorem dX7_stand_88 : decode cX7_stand 88 = .ok (.iconst 0, 1) := by decide +kernel
theorem dX7_stand_89 : decode cX7_stand 89 = .ok (.istore 4, 2) := by decide +kernel
theorem dX7_stand_91 : decode cX7_stand 91 = .ok (.iload 4, 2) := by decide +kernel
theorem dX7_stand_93 : decode cX7_stand 93 = .ok (.aload_n 0, 1) := by decide +kernel
theorem dX7_stand_94 : decode cX7_stand 94 = .ok (.getfield 15, 3) := by decide +kernel
theorem dX7_stand_97 : decode cX7_stand 97 = .ok (.getfield 23, 3) := by decide +kernel
theorem dX7_stand_100 : decode cX7_stand 100 = .ok (.if_icmp .ge 41, 3) := by decide +kernel
theorem dX7_stand_103 : decode cX7_stand 103 = .ok (.aload_n 0, 1) := by decide +kernel
theorem dX7_stand_104 : decode cX7_stand 104 = .ok (.getfield 19, 3) := by decide +kernel
theorem dX7_stand_107 : decode cX7_stand 107 = .ok (.iload_n 1, 1) := by decide +kernel
theorem dX7_stand_108 : decode cX7_stand 108 = .ok (.iload 4, 2) := by decide +kernel
theorem dX7_stand_110 : decode cX7_stand 110 = .ok (.invokevirtual 33, 3) := by decide +kernel
theorem dX7_stand_113 : decode cX7_stand 113 = .ok (.ifCond .ne 12, 3) := by decide +kernel
theorem dX7_stand_116 : decode cX7_stand 116 = .ok (.aload_n 0, 1) := by decide +kernel
theorem dX7_stand_117 : decode cX7_stand 117 = .ok (.iload 4, 2) := by decide +kernel
theorem dX7_stand_119 : decode cX7_stand 119 = .ok (.invokevirtual 42, 3) := by decide +kernel
theorem dX7_stand_122 : decode cX7_stand 122 = .ok (.ifCond .ne 7, 3) := by decide +kernel
theorem dX7_stand_125 : decode cX7_stand 125 = .ok (.iload_n 2, 1) := by decide +kernel
theorem dX7_stand_126 : decode cX7_stand 126 = .ok (.ifCond .eq 7, 3) := by decide +kernel
theorem dX7_stand_129 : decode cX7_stand 129 = .ok (.iconst 1, 1) := by decide +kernel
theorem dX7_stand_130 : decode cX7_stand 130 = .ok (.goto 4, 3) := by decide +kernel
theorem dX7_stand_133 : decode cX7_stand 133 = .ok (.iconst 0, 1) := by decide +kernel
theorem dX7_stand_134 : decode cX7_stand 134 = .ok (.istore_n 2, 1) := by decide +kernel
theorem dX7_stand_135 : decode cX7_stand 135 = .ok (.iinc 4 1, 3) := by decide +kernel
theorem dX7_stand_138 : decode cX7_stand 138 = .ok (.goto (-47), 3) := by decide +kernel
theorem dX7_stand_141 : decode cX7_stand 141 = .ok (.iinc 3 1, 3) := by decide +kernel
theorem dX7_stand_144 : decode cX7_stand 144 = .ok (.goto (-68), 3) := by decide +kernel
theorem dX7_stand_147 : decode cX7_stand 147 = .ok (.return_, 1) := by decide +kernel
theorem dX7_runOut_0 : decode cX7_runOut 0 = .ok (.aload_n 0, 1) := by decide +kernel
theorem dX7_runOut_1 : decode cX7_runOut 1 = .ok (.getfield 9, 3) := by decide +kernel
theorem dX7_runOut_4 : decode cX7_runOut 4 = .ok (.iload_n 1, 1) := by decide +kernel
theorem dX7_runOut_5 : decode cX7_runOut 5 = .ok (.iaload, 1) := by decide +kernel
theorem dX7_runOut_6 : decode cX7_runOut 6 = .ok (.istore_n 2, 1) := by decide +kernel
theorem dX7_runOut_7 : decode cX7_runOut 7 = .ok (.iconst 0, 1) := by decide +kernel
theorem dX7_runOut_8 : decode cX7_runOut 8 = .ok (.istore_n 3, 1) := by decide +kernel
theorem dX7_runOut_9 : decode cX7_runOut 9 = .ok (.iload_n 3, 1) := by decide +kernel
theorem dX7_runOut_10 : decode cX7_runOut 10 = .ok (.iconst 4, 1) := by decide +kernel
theorem dX7_runOut_11 : decode cX7_runOut 11 = .ok (.if_icmp .ge 63, 3) := by decide +kernel
theorem dX7_runOut_14 : decode cX7_runOut 14 = .ok (.aload_n 0, 1) := by decide +kernel
theorem dX7_runOut_15 : decode cX7_runOut 15 = .ok (.getfield 15, 3) := by decide +kernel
theorem dX7_runOut_18 : decode cX7_runOut 18 = .ok (.getfield 45, 3) := by decide +kernel
theorem dX7_runOut_21 : decode cX7_runOut 21 = .ok (.iconst 4, 1) := by decide +kernel
theorem dX7_runOut_22 : decode cX7_runOut 22 = .ok (.iload_n 1, 1) := by decide +kernel
theorem dX7_runOut_23 : decode cX7_runOut 23 = .ok (.imul, 1) := by decide +kernel
theorem dX7_runOut_24 : decode cX7_runOut 24 = .ok (.iload_n 3, 1) := by decide +kernel
theorem dX7_runOut_25 : decode cX7_runOut 25 = .ok (.iadd, 1) := by decide +kernel
theorem dX7_runOut_26 : decode cX7_runOut 26 = .ok (.iaload, 1) := by decide +kernel
theorem dX7_runOut_27 : decode cX7_runOut 27 = .ok (.istore 4, 2) := by decide +kernel
theorem dX7_runOut_29 : decode cX7_runOut 29 = .ok (.iload 4, 2) := by decide +kernel
theorem dX7_runOut_31 : decode cX7_runOut 31 = .ok (.ifCond .lt 37, 3) := by decide +kernel
theorem dX7_runOut_34 : decode cX7_runOut 34 = .ok (.aload_n 0, 1) := by decide +kernel
theorem dX7_runOut_35 : decode cX7_runOut 35 = .ok (.getfield 9, 3) := by decide +kernel
theorem dX7_runOut_38 : decode cX7_runOut 38 = .ok (.iload_n 1, 1) := by decide +kernel
theorem dX7_runOut_39 : decode cX7_runOut 39 = .ok (.aload_n 0, 1) := by decide +kernel
theorem dX7_runOut_40 : decode cX7_runOut 40 = .ok (.getfield 9, 3) := by decide +kernel
theorem dX7_runOut_43 : decode cX7_runOut 43 = .ok (.iload_n 1, 1) := by decide +kernel
theorem dX7_runOut_44 : decode cX7_runOut 44 = .ok (.iaload, 1) := by decide +kernel
theorem dX7_runOut_45 : decode cX7_runOut 45 = .ok (.aload_n 0, 1) := by decide +kernel
theorem dX7_runOut_46 : decode cX7_runOut 46 = .ok (.getfield 9, 3) := by decide +kernel
theorem dX7_runOut_49 : decode cX7_runOut 49 = .ok (.iload 4, 2) := by decide +kernel
theorem dX7_runOut_51 : decode cX7_runOut 51 = .ok (.iaload, 1) := by decide +kernel
theorem dX7_runOut_52 : decode cX7_runOut 52 = .ok (.aload_n 0, 1) := by decide +kernel
theorem dX7_runOut_53 : decode cX7_runOut 53 = .ok (.getfield 15, 3) := by decide +kernel
theorem dX7_runOut_56 : decode cX7_runOut 56 = .ok (.getfield 39, 3) := by decide +kernel
theorem dX7_runOut_59 : decode cX7_runOut 59 = .ok (.iload_n 1, 1) := by decide +kernel
theorem dX7_runOut_60 : decode cX7_runOut 60 = .ok (.iaload, 1) := by decide +kernel
theorem dX7_runOut_61 : decode cX7_runOut 61 = .ok (.invokestatic 48, 3) := by decide +kernel
theorem dX7_runOut_64 : decode cX7_runOut 64 = .ok (.invokestatic 54, 3) := by decide +kernel
theorem dX7_runOut_67 : decode cX7_runOut 67 = .ok (.iastore, 1) := by decide +kernel
theorem dX7_runOut_68 : decode cX7_runOut 68 = .ok (.iinc 3 1, 3) := by decide +kernel
theorem dX7_runOut_71 : decode cX7_runOut 71 = .ok (.goto (-62), 3) := by decide +kernel
theorem dX7_runOut_74 : decode cX7_runOut 74 = .ok (.aload_n 0, 1) := by decide +kernel
theorem dX7_runOut_75 : decode cX7_runOut 75 = .ok (.getfield 9, 3) := by decide +kernel
theorem dX7_runOut_78 : decode cX7_runOut 78 = .ok (.iload_n 1, 1) := by decide +kernel
theorem dX7_runOut_79 : decode cX7_runOut 79 = .ok (.iaload, 1) := by decide +kernel
theorem dX7_runOut_80 : decode cX7_runOut 80 = .ok (.iload_n 2, 1) := by decide +kernel
theorem dX7_runOut_81 : decode cX7_runOut 81 = .ok (.if_icmp .ge 7, 3) := by decide +kernel
theorem dX7_runOut_84 : decode cX7_runOut 84 = .ok (.iconst 1, 1) := by decide +kernel
theorem dX7_runOut_85 : decode cX7_runOut 85 = .ok (.goto 4, 3) := by decide +kernel
theorem dX7_runOut_88 : decode cX7_runOut 88 = .ok (.iconst 0, 1) := by decide +kernel
theorem dX7_runOut_89 : decode cX7_runOut 89 = .ok (.ireturn, 1) := by decide +kernel
theorem dX7_sumDeep_0 : decode cX7_sumDeep 0 = .ok (.iconst 0, 1) := by decide +kernel
theorem dX7_sumDeep_1 : decode cX7_sumDeep 1 = .ok (.istore_n 1, 1) := by decide +kernel
theorem dX7_sumDeep_2 : decode cX7_sumDeep 2 = .ok (.iconst 0, 1) := by decide +kernel
theorem dX7_sumDeep_3 : decode cX7_sumDeep 3 = .ok (.istore_n 2, 1) := by decide +kernel
theorem dX7_sumDeep_4 : decode cX7_sumDeep 4 = .ok (.iload_n 2, 1) := by decide +kernel
theorem dX7_sumDeep_5 : decode cX7_sumDeep 5 = .ok (.aload_n 0, 1) := by decide +kernel
theorem dX7_sumDeep_6 : decode cX7_sumDeep 6 = .ok (.getfield 15, 3) := by decide +kernel
theorem dX7_sumDeep_9 : decode cX7_sumDeep 9 = .ok (.getfield 23, 3) := by decide +kernel
theorem dX7_sumDeep_12 : decode cX7_sumDeep 12 = .ok (.if_icmp .ge 40, 3) := by decide +kernel
theorem dX7_sumDeep_15 : decode cX7_sumDeep 15 = .ok (.iload_n 1, 1) := by decide +kernel
theorem dX7_sumDeep_16 : decode cX7_sumDeep 16 = .ok (.aload_n 0, 1) := by decide +kernel
theorem dX7_sumDeep_17 : decode cX7_sumDeep 17 = .ok (.iload_n 2, 1) := by decide +kernel
theorem dX7_sumDeep_18 : decode cX7_sumDeep 18 = .ok (.invokevirtual 57, 3) := by decide +kernel
theorem dX7_sumDeep_21 : decode cX7_sumDeep 21 = .ok (.ifCond .eq 7, 3) := by decide +kernel
theorem dX7_sumDeep_24 : decode cX7_sumDeep 24 = .ok (.iconst 0, 1) := by decide +kernel
theorem dX7_sumDeep_25 : decode cX7_sumDeep 25 = .ok (.goto 19, 3) := by decide +kernel
theorem dX7_sumDeep_28 : decode cX7_sumDeep 28 = .ok (.aload_n 0, 1) := by decide +kernel
theorem dX7_sumDeep_29 : decode cX7_sumDeep 29 = .ok (.getfield 9, 3) := by decide +kernel
theorem dX7_sumDeep_32 : decode cX7_sumDeep 32 = .ok (.iload_n 2, 1) := by decide +kernel
theorem dX7_sumDeep_33 : decode cX7_sumDeep 33 = .ok (.iaload, 1) := by decide +kernel
theorem dX7_sumDeep_34 : decode cX7_sumDeep 34 = .ok (.aload_n 0, 1) := by decide +kernel
theorem dX7_sumDeep_35 : decode cX7_sumDeep 35 = .ok (.getfield 15, 3) := by decide +kernel
theorem dX7_sumDeep_38 : decode cX7_sumDeep 38 = .ok (.getfield 39, 3) := by decide +kernel
theorem dX7_sumDeep_41 : decode cX7_sumDeep 41 = .ok (.iload_n 2, 1) := by decide +kernel
theorem dX7_sumDeep_42 : decode cX7_sumDeep 42 = .ok (.iaload, 1) := by decide +kernel
theorem dX7_sumDeep_43 : decode cX7_sumDeep 43 = .ok (.isub, 1) := by decide +kernel
theorem dX7_sumDeep_44 : decode cX7_sumDeep 44 = .ok (.iadd, 1) := by decide +kernel
theorem dX7_sumDeep_45 : decode cX7_sumDeep 45 = .ok (.istore_n 1, 1) := by decide +kernel
theorem dX7_sumDeep_46 : decode cX7_sumDeep 46 = .ok (.iinc 2 1, 3) := by decide +kernel
theorem dX7_sumDeep_49 : decode cX7_sumDeep 49 = .ok (.goto (-45), 3) := by decide +kernel
theorem dX7_sumDeep_52 : decode cX7_sumDeep 52 = .ok (.iload_n 1, 1) := by decide +kernel
theorem dX7_sumDeep_53 : decode cX7_sumDeep 53 = .ok (.ireturn, 1) := by decide +kernel
theorem dJ6_bitCount_0f7a4_0 : decode cJ6_bitCount_0f7a4 0 = .ok (.iload_n 0, 1) := by decide +kernel
theorem dJ6_bitCount_0f7a4_1 : decode cJ6_bitCount_0f7a4 1 = .ok (.iload_n 0, 1) := by decide +kernel
theorem dJ6_bitCount_0f7a4_2 : decode cJ6_bitCount_0f7a4 2 = .ok (.iconst 1, 1) := by decide +kernel
theorem dJ6_bitCount_0f7a4_3 : decode cJ6_bitCount_0f7a4 3 = .ok (.iushr, 1) := by decide +kernel
theorem dJ6_bitCount_0f7a4_4 : decode cJ6_bitCount_0f7a4 4 = .ok (.ldc_w 265, 3) := by decide +kernel
theorem dJ6_bitCount_0f7a4_7 : decode cJ6_bitCount_0f7a4 7 = .ok (.iand, 1) := by decide +kernel
theorem dJ6_bitCount_0f7a4_8 : decode cJ6_bitCount_0f7a4 8 = .ok (.isub, 1) := by decide +kernel
theorem dJ6_bitCount_0f7a4_9 : decode cJ6_bitCount_0f7a4 9 = .ok (.istore_n 0, 1) := by decide +kernel
theorem dJ6_bitCount_0f7a4_10 : decode cJ6_bitCount_0f7a4 10 = .ok (.iload_n 0, 1) := by decide +kernel
theorem dJ6_bitCount_0f7a4_11 : decode cJ6_bitCount_0f7a4 11 = .ok (.ldc_w 266, 3) := by decide +kernel
theorem dJ6_bitCount_0f7a4_14 : decode cJ6_bitCount_0f7a4 14 = .ok (.iand, 1) := by decide +kernel
theorem dJ6_bitCount_0f7a4_15 : decode cJ6_bitCount_0f7a4 15 = .ok (.iload_n 0, 1) := by decide +kernel
theorem dJ6_bitCount_0f7a4_16 : decode cJ6_bitCount_0f7a4 16 = .ok (.iconst 2, 1) := by decide +kernel
theorem dJ6_bitCount_0f7a4_17 : decode cJ6_bitCount_0f7a4 17 = .ok (.iushr, 1) := by decide +kernel
theorem dJ6_bitCount_0f7a4_18 : decode cJ6_bitCount_0f7a4 18 = .ok (.ldc_w 266, 3) := by decide +kernel
theorem dJ6_bitCount_0f7a4_21 : decode cJ6_bitCount_0f7a4 21 = .ok (.iand, 1) := by decide +kernel
theorem dJ6_bitCount_0f7a4_22 : decode cJ6_bitCount_0f7a4 22 = .ok (.iadd, 1) := by decide +kernel
theorem dJ6_bitCount_0f7a4_23 : decode cJ6_bitCount_0f7a4 23 = .ok (.istore_n 0, 1) := by decide +kernel
theorem dJ6_bitCount_0f7a4_24 : decode cJ6_bitCount_0f7a4 24 = .ok (.iload_n 0, 1) := by decide +kernel
theorem dJ6_bitCount_0f7a4_25 : decode cJ6_bitCount_0f7a4 25 = .ok (.iload_n 0, 1) := by decide +kernel
theorem dJ6_bitCount_0f7a4_26 : decode cJ6_bitCount_0f7a4 26 = .ok (.iconst 4, 1) := by decide +kernel
theorem dJ6_bitCount_0f7a4_27 : decode cJ6_bitCount_0f7a4 27 = .ok (.iushr, 1) := by decide +kernel
theorem dJ6_bitCount_0f7a4_28 : decode cJ6_bitCount_0f7a4 28 = .ok (.iadd, 1) := by decide +kernel
theorem dJ6_bitCount_0f7a4_29 : decode cJ6_bitCount_0f7a4 29 = .ok (.ldc_w 267, 3) := by decide +kernel
theorem dJ6_bitCount_0f7a4_32 : decode cJ6_bitCount_0f7a4 32 = .ok (.iand, 1) := by decide +kernel
theorem dJ6_bitCount_0f7a4_33 : decode cJ6_bitCount_0f7a4 33 = .ok (.istore_n 0, 1) := by decide +kernel
theorem dJ6_bitCount_0f7a4_34 : decode cJ6_bitCount_0f7a4 34 = .ok (.iload_n 0, 1) := by decide +kernel
theorem dJ6_bitCount_0f7a4_35 : decode cJ6_bitCount_0f7a4 35 = .ok (.iload_n 0, 1) := by decide +kernel
theorem dJ6_bitCount_0f7a4_36 : decode cJ6_bitCount_0f7a4 36 = .ok (.bipush 8, 2) := by decide +kernel
theorem dJ6_bitCount_0f7a4_38 : decode cJ6_bitCount_0f7a4 38 = .ok (.iushr, 1) := by decide +kernel
theorem dJ6_bitCount_0f7a4_39 : decode cJ6_bitCount_0f7a4 39 = .ok (.iadd, 1) := by decide +kernel
theorem dJ6_bitCount_0f7a4_40 : decode cJ6_bitCount_0f7a4 40 = .ok (.istore_n 0, 1) := by decide +kernel
theorem dJ6_bitCount_0f7a4_41 : decode cJ6_bitCount_0f7a4 41 = .ok (.iload_n 0, 1) := by decide +kernel
theorem dJ6_bitCount_0f7a4_42 : decode cJ6_bitCount_0f7a4 42 = .ok (.iload_n 0, 1) := by decide +kernel
theorem dJ6_bitCount_0f7a4_43 : decode cJ6_bitCount_0f7a4 43 = .ok (.bipush 16, 2) := by decide +kernel
theorem dJ6_bitCount_0f7a4_45 : decode cJ6_bitCount_0f7a4 45 = .ok (.iushr, 1) := by decide +kernel
theorem dJ6_bitCount_0f7a4_46 : decode cJ6_bitCount_0f7a4 46 = .ok (.iadd, 1) := by decide +kernel
theorem dJ6_bitCount_0f7a4_47 : decode cJ6_bitCount_0f7a4 47 = .ok (.istore_n 0, 1) := by decide +kernel
theorem dJ6_bitCount_0f7a4_48 : decode cJ6_bitCount_0f7a4 48 = .ok (.iload_n 0, 1) := by decide +kernel
theorem dJ6_bitCount_0f7a4_49 : decode cJ6_bitCount_0f7a4 49 = .ok (.bipush 63, 2) := by decide +kernel
theorem dJ6_bitCount_0f7a4_51 : decode cJ6_bitCount_0f7a4 51 = .ok (.iand, 1) := by decide +kernel
theorem dJ6_bitCount_0f7a4_52 : decode cJ6_bitCount_0f7a4 52 = .ok (.ireturn, 1) := by decide +kernel
theorem dJ9_max_7cf53_0 : decode cJ9_max_7cf53 0 = .ok (.iload_n 0, 1) := by decide +kernel
theorem dJ9_max_7cf53_1 : decode cJ9_max_7cf53 1 = .ok (.iload_n 1, 1) := by decide +kernel
theorem dJ9_max_7cf53_2 : decode cJ9_max_7cf53 2 = .ok (.if_icmp .lt 7, 3) := by decide +kernel
theorem dJ9_max_7cf53_5 : decode cJ9_max_7cf53 5 = .ok (.iload_n 0, 1) := by decide +kernel
theorem dJ9_max_7cf53_6 : decode cJ9_max_7cf53 6 = .ok (.goto 4, 3) := by decide +kernel
theorem dJ9_max_7cf53_9 : decode cJ9_max_7cf53 9 = .ok (.iload_n 1, 1) := by decide +kernel
theorem dJ9_max_7cf53_10 : decode cJ9_max_7cf53 10 = .ok (.ireturn, 1) := by decide +kernel
theorem dJ9_min_7cf53_0 : decode cJ9_min_7cf53 0 = .ok (.iload_n 0, 1) := by decide +kernel
theorem dJ9_min_7cf53_1 : decode cJ9_min_7cf53 1 = .ok (.iload_n 1, 1) := by decide +kernel
theorem dJ9_min_7cf53_2 : decode cJ9_min_7cf53 2 = .ok (.if_icmp .gt 7, 3) := by decide +kernel
theorem dJ9_min_7cf53_5 : decode cJ9_min_7cf53 5 = .ok (.iload_n 0, 1) := by decide +kernel
theorem dJ9_min_7cf53_6 : decode cJ9_min_7cf53 6 = .ok (.goto 4, 3) := by decide +kernel
theorem dJ9_min_7cf53_9 : decode cJ9_min_7cf53 9 = .ok (.iload_n 1, 1) := by decide +kernel
theorem dJ9_min_7cf53_10 : decode cJ9_min_7cf53 10 = .ok (.ireturn, 1) := by decide +kernel
theorem dJ7_fill_53178_0 : decode cJ7_fill_53178 0 = .ok (.iconst 0, 1) := by decide +kernel
theorem dJ7_fill_53178_1 : decode cJ7_fill_53178 1 = .ok (.istore_n 2, 1) := by decide +kernel
theorem dJ7_fill_53178_2 : decode cJ7_fill_53178 2 = .ok (.aload_n 0, 1) := by decide +kernel
theorem dJ7_fill_53178_3 : decode cJ7_fill_53178 3 = .ok (.arraylength, 1) := by decide +kernel
theorem dJ7_fill_53178_4 : decode cJ7_fill_53178 4 = .ok (.istore_n 3, 1) := by decide +kernel
theorem dJ7_fill_53178_5 : decode cJ7_fill_53178 5 = .ok (.iload_n 2, 1) := by decide +kernel
theorem dJ7_fill_53178_6 : decode cJ7_fill_53178 6 = .ok (.iload_n 3, 1) := by decide +kernel
theorem dJ7_fill_53178_7 : decode cJ7_fill_53178 7 = .ok (.if_icmp .ge 13, 3) := by decide +kernel
theorem dJ7_fill_53178_10 : decode cJ7_fill_53178 10 = .ok (.aload_n 0, 1) := by decide +kernel
theorem dJ7_fill_53178_11 : decode cJ7_fill_53178 11 = .ok (.iload_n 2, 1) := by decide +kernel
theorem dJ7_fill_53178_12 : decode cJ7_fill_53178 12 = .ok (.iload_n 1, 1) := by decide +kernel
theorem dJ7_fill_53178_13 : decode cJ7_fill_53178 13 = .ok (.iastore, 1) := by decide +kernel
theorem dJ7_fill_53178_14 : decode cJ7_fill_53178 14 = .ok (.iinc 2 1, 3) := by decide +kernel
theorem dJ7_fill_53178_17 : decode cJ7_fill_53178 17 = .ok (.goto (-12), 3) := by decide +kernel
theorem dJ7_fill_53178_20 : decode cJ7_fill_53178 20 = .ok (.return_, 1) := by decide +kernel
