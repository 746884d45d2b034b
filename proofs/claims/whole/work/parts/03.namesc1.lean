theorem dX0_init_0 : decode cX0_init 0 = .ok (.aload_n 0, 1) := by decide +kernel
theorem dX0_init_1 : decode cX0_init 1 = .ok (.invokespecial 1, 3) := by decide +kernel
theorem dX0_init_4 : decode cX0_init 4 = .ok (.aload_n 0, 1) := by decide +kernel
theorem dX0_init_5 : decode cX0_init 5 = .ok (.lconst 0, 1) := by decide +kernel
theorem dX0_init_6 : decode cX0_init 6 = .ok (.putfield 7, 3) := by decide +kernel
theorem dX0_init_9 : decode cX0_init 9 = .ok (.aload_n 0, 1) := by decide +kernel
theorem dX0_init_10 : decode cX0_init 10 = .ok (.iconst 0, 1) := by decide +kernel
theorem dX0_init_11 : decode cX0_init 11 = .ok (.putfield 13, 3) := by decide +kernel
theorem dX0_init_14 : decode cX0_init 14 = .ok (.aload_n 0, 1) := by decide +kernel
theorem dX0_init_15 : decode cX0_init 15 = .ok (.iload_n 1, 1) := by decide +kernel
theorem dX0_init_16 : decode cX0_init 16 = .ok (.putfield 17, 3) := by decide +kernel
theorem dX0_init_19 : decode cX0_init 19 = .ok (.aload_n 0, 1) := by decide +kernel
theorem dX0_init_20 : decode cX0_init 20 = .ok (.iload_n 2, 1) := by decide +kernel
theorem dX0_init_21 : decode cX0_init 21 = .ok (.putfield 20, 3) := by decide +kernel
theorem dX0_init_24 : decode cX0_init 24 = .ok (.aload_n 0, 1) := by decide +kernel
theorem dX0_init_25 : decode cX0_init 25 = .ok (.iload_n 3, 1) := by decide +kernel
theorem dX0_init_26 : decode cX0_init 26 = .ok (.putfield 23, 3) := by decide +kernel
theorem dX0_init_29 : decode cX0_init 29 = .ok (.aload_n 0, 1) := by decide +kernel
theorem dX0_init_30 : decode cX0_init 30 = .ok (.iload 4, 2) := by decide +kernel
theorem dX0_init_32 : decode cX0_init 32 = .ok (.putfield 26, 3) := by decide +kernel
theorem dX0_init_35 : decode cX0_init 35 = .ok (.aload_n 0, 1) := by decide +kernel
theorem dX0_init_36 : decode cX0_init 36 = .ok (.iload 5, 2) := by decide +kernel
theorem dX0_init_38 : decode cX0_init 38 = .ok (.putfield 29, 3) := by decide +kernel
theorem dX0_init_41 : decode cX0_init 41 = .ok (.aload_n 0, 1) := by decide +kernel
theorem dX0_init_42 : decode cX0_init 42 = .ok (.iload 6, 2) := by decide +kernel
theorem dX0_init_44 : decode cX0_init 44 = .ok (.putfield 32, 3) := by decide +kernel
theorem dX0_init_47 : decode cX0_init 47 = .ok (.return_, 1) := by decide +kernel
theorem dX1_init_0 : decode cX1_init 0 = .ok (.aload_n 0, 1) := by decide +kernel
theorem dX1_init_1 : decode cX1_init 1 = .ok (.invokespecial 1, 3) := by decide +kernel
theorem dX1_init_4 : decode cX1_init 4 = .ok (.aload_n 0, 1) := by decide +kernel
theorem dX1_init_5 : decode cX1_init 5 = .ok (.iload_n 1, 1) := by decide +kernel
theorem dX1_init_6 : decode cX1_init 6 = .ok (.putfield 7, 3) := by decide +kernel
theorem dX1_init_9 : decode cX1_init 9 = .ok (.aload_n 0, 1) := by decide +kernel
theorem dX1_init_10 : decode cX1_init 10 = .ok (.iload_n 2, 1) := by decide +kernel
theorem dX1_init_11 : decode cX1_init 11 = .ok (.putfield 13, 3) := by decide +kernel
theorem dX1_init_14 : decode cX1_init 14 = .ok (.aload_n 0, 1) := by decide +kernel
theorem dX1_init_15 : decode cX1_init 15 = .ok (.iload_n 3, 1) := by decide +kernel
theorem dX1_init_16 : decode cX1_init 16 = .ok (.putfield 16, 3) := by decide +kernel
theorem dX1_init_19 : decode cX1_init 19 = .ok (.return_, 1) := by decide +kernel
theorem dX2_init_0 : decode cX2_init 0 = .ok (.aload_n 0, 1) := by decide +kernel
theorem dX2_init_1 : decode cX2_init 1 = .ok (.invokespecial 1, 3) := by decide +kernel
theorem dX2_init_4 : decode cX2_init 4 = .ok (.aload_n 0, 1) := by decide +kernel
theorem dX2_init_5 : decode cX2_init 5 = .ok (.bipush 8, 2) := by decide +kernel
theorem dX2_init_7 : decode cX2_init 7 = .ok (.newarray .int, 2) := by decide +kernel
theorem dX2_init_9 : decode cX2_init 9 = .ok (.putfield 9, 3) := by decide +kernel
theorem dX2_init_12 : decode cX2_init 12 = .ok (.aload_n 0, 1) := by decide +kernel
theorem dX2_init_13 : decode cX2_init 13 = .ok (.iconst 0, 1) := by decide +kernel
theorem dX2_init_14 : decode cX2_init 14 = .ok (.putfield 13, 3) := by decide +kernel
theorem dX2_init_17 : decode cX2_init 17 = .ok (.aload_n 0, 1) := by decide +kernel
theorem dX2_init_18 : decode cX2_init 18 = .ok (.iconst 1, 1) := by decide +kernel
theorem dX2_init_19 : decode cX2_init 19 = .ok (.putfield 17, 3) := by decide +kernel
theorem dX2_init_22 : decode cX2_init 22 = .ok (.aload_n 0, 1) := by decide +kernel
theorem dX2_init_23 : decode cX2_init 23 = .ok (.bipush 8, 2) := by decide +kernel
theorem dX2_init_25 : decode cX2_init 25 = .ok (.newarray .int, 2) := by decide +kernel
theorem dX2_init_27 : decode cX2_init 27 = .ok (.putfield 20, 3) := by decide +kernel
theorem dX2_init_30 : decode cX2_init 30 = .ok (.aload_n 0, 1) := by decide +kernel
theorem dX2_init_31 : decode cX2_init 31 = .ok (.bipush 40, 2) := by decide +kernel
theorem dX2_init_33 : decode cX2_init 33 = .ok (.anewarray 23, 3) := by decide +kernel
theorem dX2_init_36 : decode cX2_init 36 = .ok (.putfield 25, 3) := by decide +kernel
theorem dX2_init_39 : decode cX2_init 39 = .ok (.aload_n 0, 1) := by decide +kernel
theorem dX2_init_40 : decode cX2_init 40 = .ok (.iconst 0, 1) := by decide +kernel
theorem dX2_init_41 : decode cX2_init 41 = .ok (.putfield 29, 3) := by decide +kernel
theorem dX2_init_44 : decode cX2_init 44 = .ok (.aload_n 0, 1) := by decide +kernel
theorem dX2_init_45 : decode cX2_init 45 = .ok (.bipush 8, 2) := by decide +kernel
theorem dX2_init_47 : decode cX2_init 47 = .ok (.anewarray 32, 3) := by decide +kernel
theorem dX2_init_50 : decode cX2_init 50 = .ok (.putfield 34, 3) := by decide +kernel
theorem dX2_init_53 : decode cX2_init 53 = .ok (.aload_n 0, 1) := by decide +kernel
theorem dX2_init_54 : decode cX2_init 54 = .ok (.iconst 0, 1) := by decide +kernel
theorem dX2_init_55 : decode cX2_init 55 = .ok (.putfield 38, 3) := by decide +kernel
theorem dX2_init_58 : decode cX2_init 58 = .ok (.aload_n 0, 1) := by decide +kernel
theorem dX2_init_59 : decode cX2_init 59 = .ok (.iconst 0, 1) := by decide +kernel
theorem dX2_init_60 : decode cX2_init 60 = .ok (.putfield 41, 3) := by decide +kernel
theorem dX2_init_63 : decode cX2_init 63 = .ok (.aload_n 0, 1) := by decide +kernel
theorem dX2_init_64 : decode cX2_init 64 = .ok (.iconst 0, 1) := by decide +kernel
theorem dX2_init_65 : decode cX2_init 65 = .ok (.putfield 44, 3) := by decide +kernel
theorem dX2_init_68 : decode cX2_init 68 = .ok (.aload_n 0, 1) := by decide +kernel
theorem dX2_init_69 : decode cX2_init 69 = .ok (.lconst 0, 1) := by decide +kernel
theorem dX2_init_70 : decode cX2_init 70 = .ok (.putfield 47, 3) := by decide +kernel
theorem dX2_init_73 : decode cX2_init 73 = .ok (.aload_n 0, 1) := by decide +kernel
theorem dX2_init_74 : decode cX2_init 74 = .ok (.iconst (-1), 1) := by decide +kernel
theorem dX2_init_75 : decode cX2_init 75 = .ok (.putfield 51, 3) := by decide +kernel
theorem dX2_init_78 : decode cX2_init 78 = .ok (.aload_n 0, 1) := by decide +kernel
theorem dX2_init_79 : decode cX2_init 79 = .ok (.iconst 0, 1) := by decide +kernel
theorem dX2_init_80 : decode cX2_init 80 = .ok (.putfield 54, 3) := by decide +kernel
theorem dX2_init_83 : decode cX2_init 83 = .ok (.aload_n 0, 1) := by decide +kernel
theorem dX2_init_84 : decode cX2_init 84 = .ok (.iconst 0, 1) := by decide +kernel
theorem dX2_init_85 : decode cX2_init 85 = .ok (.putfield 57, 3) := by decide +kernel
theorem dX2_init_88 : decode cX2_init 88 = .ok (.iconst 0, 1) := by decide +kernel
theorem dX2_init_89 : decode cX2_init 89 = .ok (.istore_n 1, 1) := by decide +kernel
theorem dX2_init_90 : decode cX2_init 90 = .ok (.iload_n 1, 1) := by decide +kernel
theorem dX2_init_91 : decode cX2_init 91 = .ok (.aload_n 0, 1) := by decide +kernel
theorem dX2_init_92 : decode cX2_init 92 = .ok (.getfield 20, 3) := by decide +kernel
theorem dX2_init_95 : decode cX2_init 95 = .ok (.arraylength, 1) := by decide +kernel
theorem dX2_init_96 : decode cX2_init 96 = .ok (.if_icmp .ge 16, 3) := by decide +kernel
theorem dX2_init_99 : decode cX2_init 99 = .ok (.aload_n 0, 1) := by decide +kernel
theorem dX2_init_100 : decode cX2_init 100 = .ok (.getfield 20, 3) := by decide +kernel
theorem dX2_init_103 : decode cX2_init 103 = .ok (.iload_n 1, 1) := by decide +kernel
theorem dX2_init_104 : decode cX2_init 104 = .ok (.iconst (-1), 1) := by decide +kernel
theorem dX2_init_105 : decode cX2_init 105 = .ok (.iastore, 1) := by decide +kernel
theorem dX2_init_106 : decode cX2_init 106 = .ok (.iinc 1 1, 3) := by decide +kernel
theorem dX2_init_109 : decode cX2_init 109 = .ok (.goto (-19), 3) := by decide +kernel
theorem dX2_init_112 : decode cX2_init 112 = .ok (.return_, 1) := by decide +kernel
theorem dX2_basin_0 : decode cX2_basin 0 = .ok (.iload_n 1, 1) := by decide +kernel
theorem dX2_basin_1 : decode cX2_basin 1 = .ok (.invokestatic 60, 3) := by decide +kernel
theorem dX2_basin_4 : decode cX2_basin 4 = .ok (.ifCond .ne 6, 3) := by decide +kernel
theorem dX2_basin_7 : decode cX2_basin 7 = .ok (.bipush (-102), 2) := by decide +kernel
theorem dX2_basin_9 : decode cX2_basin 9 = .ok (.ireturn, 1) := by decide +kernel
theorem dX2_basin_10 : decode cX2_basin 10 = .ok (.aload_n 0, 1) := by decide +kernel
theorem dX2_basin_11 : decode cX2_basin 11 = .ok (.getfield 13, 3) := by decide +kernel
theorem dX2_basin_14 : decode cX2_basin 14 = .ok (.aload_n 0, 1) := by decide +kernel
theorem dX2_basin_15 : decode cX2_basin 15 = .ok (.getfield 9, 3) := by decide +kernel
theorem dX2_basin_18 : decode cX2_basin 18 = .ok (.arraylength, 1) := by decide +kernel
theorem dX2_basin_19 : decode cX2_basin 19 = .ok (.if_icmp .lt 6, 3) := by decide +kernel
theorem dX2_basin_22 : decode cX2_basin 22 = .ok (.bipush (-103), 2) := by decide +kernel
theorem dX2_basin_24 : decode cX2_basin 24 = .ok (.ireturn, 1) := by decide +kernel
theorem dX2_basin_25 : decode cX2_basin 25 = .ok (.aload_n 0, 1) := by decide +kernel
theorem dX2_basin_26 : decode cX2_basin 26 = .ok (.getfield 9, 3) := by decide +kernel
theorem dX2_basin_29 : decode cX2_basin 29 = .ok (.aload_n 0, 1) := by decide +kernel
theorem dX2_basin_30 : decode cX2_basin 30 = .ok (.getfield 13, 3) := by decide +kernel
theorem dX2_basin_33 : decode cX2_basin 33 = .ok (.iload_n 1, 1) := by decide +kernel
theorem dX2_basin_34 : decode cX2_basin 34 = .ok (.iastore, 1) := by decide +kernel
theorem dX2_basin_35 : decode cX2_basin 35 = .ok (.aload_n 0, 1) := by decide +kernel
theorem dX2_basin_36 : decode cX2_basin 36 = .ok (.dup, 1) := by decide +kernel
theorem dX2_basin_37 : decode cX2_basin 37 = .ok (.getfield 13, 3) := by decide +kernel
theorem dX2_basin_40 : decode cX2_basin 40 = .ok (.iconst 1, 1) := by decide +kernel
theorem dX2_basin_41 : decode cX2_basin 41 = .ok (.iadd, 1) := by decide +kernel
theorem dX2_basin_42 : decode cX2_basin 42 = .ok (.putfield 13, 3) := by decide +kernel
theorem dX2_basin_45 : decode cX2_basin 45 = .ok (.aload_n 0, 1) := by decide +kernel
theorem dX2_basin_46 : decode cX2_basin 46 = .ok (.getfield 13, 3) := by decide +kernel
theorem dX2_basin_49 : decode cX2_basin 49 = .ok (.iconst 1, 1) := by decide +kernel
theorem dX2_basin_50 : decode cX2_basin 50 = .ok (.isub, 1) := by decide +kernel
theorem dX2_basin_51 : decode cX2_basin 51 = .ok (.ireturn, 1) := by decide +kernel
theorem dX2_fill_0 : decode cX2_fill 0 = .ok (.aload_n 0, 1) := by decide +kernel
theorem dX2_fill_1 : decode cX2_fill 1 = .ok (.iload_n 1, 1) := by decide +kernel
theorem dX2_fill_2 : decode cX2_fill 2 = .ok (.invokevirtual 64, 3) := by decide +kernel
theorem dX2_fill_5 : decode cX2_fill 5 = .ok (.ifCond .ne 6, 3) := by decide +kernel
theorem dX2_fill_8 : decode cX2_fill 8 = .ok (.bipush (-101), 2) := by decide +kernel
theorem dX2_fill_10 : decode cX2_fill 10 = .ok (.ireturn, 1) := by decide +kernel
theorem dX2_fill_11 : decode cX2_fill 11 = .ok (.iload_n 2, 1) := by decide +kernel
theorem dX2_fill_12 : decode cX2_fill 12 = .ok (.invokestatic 60, 3) := by decide +kernel
theorem dX2_fill_15 : decode cX2_fill 15 = .ok (.ifCond .ne 6, 3) := by decide +kernel
theorem dX2_fill_18 : decode cX2_fill 18 = .ok (.bipush (-102), 2) := by decide +kernel
theorem dX2_fill_20 : decode cX2_fill 20 = .ok (.ireturn, 1) := by decide +kernel
theorem dX2_fill_21 : decode cX2_fill 21 = .ok (.aload_n 0, 1) := by decide +kernel
theorem dX2_fill_22 : decode cX2_fill 22 = .ok (.getfield 9, 3) := by decide +kernel
theorem dX2_fill_25 : decode cX2_fill 25 = .ok (.iload_n 1, 1) := by decide +kernel
theorem dX2_fill_26 : decode cX2_fill 26 = .ok (.iaload, 1) := by decide +kernel
theorem dX2_fill_27 : decode cX2_fill 27 = .ok (.istore_n 3, 1) := by decide +kernel
theorem dX2_fill_28 : decode cX2_fill 28 = .ok (.aload_n 0, 1) := by decide +kernel
theorem dX2_fill_29 : decode cX2_fill 29 = .ok (.getfield 9, 3) := by decide +kernel
theorem dX2_fill_32 : decode cX2_fill 32 = .ok (.iload_n 1, 1) := by decide +kernel
theorem dX2_fill_33 : decode cX2_fill 33 = .ok (.iload_n 2, 1) := by decide +kernel
theorem dX2_fill_34 : decode cX2_fill 34 = .ok (.iastore, 1) := by decide +kernel
theorem dX2_fill_35 : decode cX2_fill 35 = .ok (.iload_n 3, 1) := by decide +kernel
theorem dX2_fill_36 : decode cX2_fill 36 = .ok (.ireturn, 1) := by decide +kernel
theorem dX2_moon_0 : decode cX2_moon 0 = .ok (.iload_n 1, 1) := by decide +kernel
theorem dX2_moon_1 : decode cX2_moon 1 = .ok (.ifCond .lt 9, 3) := by decide +kernel
theorem dX2_moon_4 : decode cX2_moon 4 = .ok (.iload_n 1, 1) := by decide +kernel
theorem dX2_moon_5 : decode cX2_moon 5 = .ok (.bipush 12, 2) := by decide +kernel
theorem dX2_moon_7 : decode cX2_moon 7 = .ok (.if_icmp .lt 6, 3) := by decide +kernel
theorem dX2_moon_10 : decode cX2_moon 10 = .ok (.bipush (-102), 2) := by decide +kernel
theorem dX2_moon_12 : decode cX2_moon 12 = .ok (.ireturn, 1) := by decide +kernel
theorem dX2_moon_13 : decode cX2_moon 13 = .ok (.aload_n 0, 1) := by decide +kernel
theorem dX2_moon_14 : decode cX2_moon 14 = .ok (.getfield 17, 3) := by decide +kernel
theorem dX2_moon_17 : decode cX2_moon 17 = .ok (.istore_n 2, 1) := by decide +kernel
theorem dX2_moon_18 : decode cX2_moon 18 = .ok (.aload_n 0, 1) := by decide +kernel
theorem dX2_moon_19 : decode cX2_moon 19 = .ok (.iload_n 1, 1) := by decide +kernel
theorem dX2_moon_20 : decode cX2_moon 20 = .ok (.putfield 17, 3) := by decide +kernel
theorem dX2_moon_23 : decode cX2_moon 23 = .ok (.iload_n 2, 1) := by decide +kernel
theorem dX2_moon_24 : decode cX2_moon 24 = .ok (.ireturn, 1) := by decide +kernel
theorem dX2_make_0 : decode cX2_make 0 = .ok (.aload_n 0, 1) := by decide +kernel
theorem dX2_make_1 : decode cX2_make 1 = .ok (.iload_n 1, 1) := by decide +kernel
theorem dX2_make_2 : decode cX2_make 2 = .ok (.iload_n 2, 1) := by decide +kernel
theorem dX2_make_3 : decode cX2_make 3 = .ok (.iload_n 3, 1) := by decide +kernel
theorem dX2_make_4 : decode cX2_make 4 = .ok (.iload 4, 2) := by decide +kernel
theorem dX2_make_6 : decode cX2_make 6 = .ok (.invokevirtual 67, 3) := by decide +kernel
theorem dX2_make_9 : decode cX2_make 9 = .ok (.ifCond .ne 6, 3) := by decide +kernel
theorem dX2_make_12 : decode cX2_make 12 = .ok (.bipush (-101), 2) := by decide +kernel
theorem dX2_make_14 : decode cX2_make 14 = .ok (.ireturn, 1) := by decide +kernel
theorem dX2_make_15 : decode cX2_make 15 = .ok (.iload_n 1, 1) := by decide +kernel
theorem dX2_make_16 : decode cX2_make 16 = .ok (.iload_n 2, 1) := by decide +kernel
theorem dX2_make_17 : decode cX2_make 17 = .ok (.iload_n 3, 1) := by decide +kernel
theorem dX2_make_18 : decode cX2_make 18 = .ok (.iload 4, 2) := by decide +kernel
theorem dX2_make_20 : decode cX2_make 20 = .ok (.iload 5, 2) := by decide +kernel
theorem dX2_make_22 : decode cX2_make 22 = .ok (.iload 6, 2) := by decide +kernel
theorem dX2_make_24 : decode cX2_make 24 = .ok (.invokestatic 71, 3) := by decide +kernel
theorem dX2_make_27 : decode cX2_make 27 = .ok (.ifCond .ne 6, 3) := by decide +kernel
theorem dX2_make_30 : decode cX2_make 30 = .ok (.bipush (-102), 2) := by decide +kernel
theorem dX2_make_32 : decode cX2_make 32 = .ok (.ireturn, 1) := by decide +kernel
theorem dX2_make_33 : decode cX2_make 33 = .ok (.aload_n 0, 1) := by decide +kernel
theorem dX2_make_34 : decode cX2_make 34 = .ok (.getfield 29, 3) := by decide +kernel
theorem dX2_make_37 : decode cX2_make 37 = .ok (.aload_n 0, 1) := by decide +kernel
theorem dX2_make_38 : decode cX2_make 38 = .ok (.getfield 25, 3) := by decide +kernel
theorem dX2_make_41 : decode cX2_make 41 = .ok (.arraylength, 1) := by decide +kernel
theorem dX2_make_42 : decode cX2_make 42 = .ok (.if_icmp .lt 6, 3) := by decide +kernel
theorem dX2_make_45 : decode cX2_make 45 = .ok (.bipush (-103), 2) := by decide +kernel
theorem dX2_make_47 : decode cX2_make 47 = .ok (.ireturn, 1) := by decide +kernel
theorem dX2_make_48 : decode cX2_make 48 = .ok (.lconst 0, 1) := by decide +kernel
theorem dX2_make_49 : decode cX2_make 49 = .ok (.lstore 7, 2) := by decide +kernel
theorem dX2_make_51 : decode cX2_make 51 = .ok (.iload_n 1, 1) := by decide +kernel
theorem dX2_make_52 : decode cX2_make 52 = .ok (.bipush 12, 2) := by decide +kernel
theorem dX2_make_54 : decode cX2_make 54 = .ok (.if_icmp .ne 23, 3) := by decide +kernel
theorem dX2_make_57 : decode cX2_make 57 = .ok (.aload_n 0, 1) := by decide +kernel
theorem dX2_make_58 : decode cX2_make 58 = .ok (.iload_n 2, 1) := by decide +kernel
theorem dX2_make_59 : decode cX2_make 59 = .ok (.iload_n 3, 1) := by decide +kernel
theorem dX2_make_60 : decode cX2_make 60 = .ok (.invokevirtual 75, 3) := by decide +kernel
theorem dX2_make_63 : decode cX2_make 63 = .ok (.lstore 7, 2) := by decide +kernel
theorem dX2_make_65 : decode cX2_make 65 = .ok (.aload_n 0, 1) := by decide +kernel
theorem dX2_make_66 : decode cX2_make 66 = .ok (.getfield 44, 3) := by decide +kernel
theorem dX2_make_69 : decode cX2_make 69 = .ok (.ifCond .eq 8, 3) := by decide +kernel
theorem dX2_make_72 : decode cX2_make 72 = .ok (.aload_n 0, 1) := by decide +kernel
theorem dX2_make_73 : decode cX2_make 73 = .ok (.getfield 44, 3) := by decide +kernel
theorem dX2_make_76 : decode cX2_make 76 = .ok (.ireturn, 1) := by decide +kernel
theorem dX2_make_77 : decode cX2_make 77 = .ok (.new 23, 3) := by decide +kernel
theorem dX2_make_80 : decode cX2_make 80 = .ok (.dup, 1) := by decide +kernel
theorem dX2_make_81 : decode cX2_make 81 = .ok (.iload_n 1, 1) := by decide +kernel
theorem dX2_make_82 : decode cX2_make 82 = .ok (.iload_n 2, 1) := by decide +kernel
theorem dX2_make_83 : decode cX2_make 83 = .ok (.iload_n 3, 1) := by decide +kernel
theorem dX2_make_84 : decode cX2_make 84 = .ok (.iload 4, 2) := by decide +kernel
theorem dX2_make_86 : decode cX2_make 86 = .ok (.iload 5, 2) := by decide +kernel
theorem dX2_make_88 : decode cX2_make 88 = .ok (.iload 6, 2) := by decide +kernel
theorem dX2_make_90 : decode cX2_make 90 = .ok (.invokespecial 79, 3) := by decide +kernel
theorem dX2_make_93 : decode cX2_make 93 = .ok (.astore 9, 2) := by decide +kernel
theorem dX2_make_95 : decode cX2_make 95 = .ok (.aload 9, 2) := by decide +kernel
theorem dX2_make_97 : decode cX2_make 97 = .ok (.lload 7, 2) := by decide +kernel
theorem dX2_make_99 : decode cX2_make 99 = .ok (.putfield 82, 3) := by decide +kernel
theorem dX2_make_102 : decode cX2_make 102 = .ok (.aload_n 0, 1) := by decide +kernel
theorem dX2_make_103 : decode cX2_make 103 = .ok (.getfield 25, 3) := by decide +kernel
theorem dX2_make_106 : decode cX2_make 106 = .ok (.aload_n 0, 1) := by decide +kernel
theorem dX2_make_107 : decode cX2_make 107 = .ok (.getfield 29, 3) := by decide +kernel
theorem dX2_make_110 : decode cX2_make 110 = .ok (.aload 9, 2) := by decide +kernel
theorem dX2_make_112 : decode cX2_make 112 = .ok (.aastore, 1) := by decide +kernel
theorem dX2_make_113 : decode cX2_make 113 = .ok (.aload_n 0, 1) := by decide +kernel
theorem dX2_make_114 : decode cX2_make 114 = .ok (.dup, 1) := by decide +kernel
theorem dX2_make_115 : decode cX2_make 115 = .ok (.getfield 29, 3) := by decide +kernel
theorem dX2_make_118 : decode cX2_make 118 = .ok (.iconst 1, 1) := by decide +kernel
theorem dX2_make_119 : decode cX2_make 119 = .ok (.iadd, 1) := by decide +kernel
theorem dX2_make_120 : decode cX2_make 120 = .ok (.putfield 29, 3) := by decide +kernel
theorem dX2_make_123 : decode cX2_make 123 = .ok (.aload_n 0, 1) := by decide +kernel
theorem dX2_make_124 : decode cX2_make 124 = .ok (.getfield 29, 3) := by decide +kernel
theorem dX2_make_127 : decode cX2_make 127 = .ok (.iconst 1, 1) := by decide +kernel
theorem dX2_make_128 : decode cX2_make 128 = .ok (.isub, 1) := by decide +kernel
theorem dX2_make_129 : decode cX2_make 129 = .ok (.ireturn, 1) := by decide +kernel
theorem dX2_put_0 : decode cX2_put 0 = .ok (.aload_n 0, 1) := by decide +kernel
theorem dX2_put_1 : decode cX2_put 1 = .ok (.iload_n 1, 1) := by decide +kernel
theorem dX2_put_2 : decode cX2_put 2 = .ok (.invokevirtual 85, 3) := by decide +kernel
theorem dX2_put_5 : decode cX2_put 5 = .ok (.ifCond .eq 11, 3) := by decide +kernel
theorem dX2_put_8 : decode cX2_put 8 = .ok (.aload_n 0, 1) := by decide +kernel
theorem dX2_put_9 : decode cX2_put 9 = .ok (.iload_n 2, 1) := by decide +kernel
theorem dX2_put_10 : decode cX2_put 10 = .ok (.invokevirtual 88, 3) := by decide +kernel
theorem dX2_put_13 : decode cX2_put 13 = .ok (.ifCond .ne 6, 3) := by decide +kernel
theorem dX2_put_16 : decode cX2_put 16 = .ok (.bipush (-101), 2) := by decide +kernel
theorem dX2_put_18 : decode cX2_put 18 = .ok (.ireturn, 1) := by decide +kernel
theorem dX2_put_19 : decode cX2_put 19 = .ok (.aload_n 0, 1) := by decide +kernel
theorem dX2_put_20 : decode cX2_put 20 = .ok (.getfield 20, 3) := by decide +kernel
theorem dX2_put_23 : decode cX2_put 23 = .ok (.iload_n 1, 1) := by decide +kernel
theorem dX2_put_24 : decode cX2_put 24 = .ok (.iaload, 1) := by decide +kernel
theorem dX2_put_25 : decode cX2_put 25 = .ok (.istore_n 3, 1) := by decide +kernel
theorem dX2_put_26 : decode cX2_put 26 = .ok (.aload_n 0, 1) := by decide +kernel
theorem dX2_put_27 : decode cX2_put 27 = .ok (.getfield 20, 3) := by decide +kernel
theorem dX2_put_30 : decode cX2_put 30 = .ok (.iload_n 1, 1) := by decide +kernel
theorem dX2_put_31 : decode cX2_put 31 = .ok (.iload_n 2, 1) := by decide +kernel
theorem dX2_put_32 : decode cX2_put 32 = .ok (.iastore, 1) := by decide +kernel
theorem dX2_put_33 : decode cX2_put 33 = .ok (.iload_n 3, 1) := by decide +kernel
theorem dX2_put_34 : decode cX2_put 34 = .ok (.ireturn, 1) := by decide +kernel
theorem dX2_ask_0 : decode cX2_ask 0 = .ok (.aload_n 0, 1) := by decide +kernel
theorem dX2_ask_1 : decode cX2_ask 1 = .ok (.iload_n 1, 1) := by decide +kernel
theorem dX2_ask_2 : decode cX2_ask 2 = .ok (.invokevirtual 91, 3) := by decide +kernel
theorem dX2_ask_5 : decode cX2_ask 5 = .ok (.ifnonnull 6, 3) := by decide +kernel
theorem dX2_ask_8 : decode cX2_ask 8 = .ok (.bipush (-101), 2) := by decide +kernel
theorem dX2_ask_10 : decode cX2_ask 10 = .ok (.ireturn, 1) := by decide +kernel
theorem dX2_ask_11 : decode cX2_ask 11 = .ok (.aload_n 0, 1) := by decide +kernel
theorem dX2_ask_12 : decode cX2_ask 12 = .ok (.iload_n 1, 1) := by decide +kernel
theorem dX2_ask_13 : decode cX2_ask 13 = .ok (.iload_n 2, 1) := by decide +kernel
theorem dX2_ask_14 : decode cX2_ask 14 = .ok (.invokevirtual 75, 3) := by decide +kernel
theorem dX2_ask_17 : decode cX2_ask 17 = .ok (.lstore_n 3, 1) := by decide +kernel
theorem dX2_ask_18 : decode cX2_ask 18 = .ok (.aload_n 0, 1) := by decide +kernel
theorem dX2_ask_19 : decode cX2_ask 19 = .ok (.getfield 44, 3) := by decide +kernel
theorem dX2_ask_22 : decode cX2_ask 22 = .ok (.ifCond .eq 8, 3) := by decide +kernel
theorem dX2_ask_25 : decode cX2_ask 25 = .ok (.aload_n 0, 1) := by decide +kernel
theorem dX2_ask_26 : decode cX2_ask 26 = .ok (.getfield 44, 3) := by decide +kernel
theorem dX2_ask_29 : decode cX2_ask 29 = .ok (.ireturn, 1) := by decide +kernel
theorem dX2_ask_30 : decode cX2_ask 30 = .ok (.aload_n 0, 1) := by decide +kernel
theorem dX2_ask_31 : decode cX2_ask 31 = .ok (.lload_n 3, 1) := by decide +kernel
theorem dX2_ask_32 : decode cX2_ask 32 = .ok (.putfield 47, 3) := by decide +kernel
theorem dX2_ask_35 : decode cX2_ask 35 = .ok (.iconst 1, 1) := by decide +kernel
theorem dX2_ask_36 : decode cX2_ask 36 = .ok (.ireturn, 1) := by decide +kernel
theorem dX2_given_0 : decode cX2_given 0 = .ok (.aload_n 0, 1) := by decide +kernel
theorem dX2_given_1 : decode cX2_given 1 = .ok (.getfield 47, 3) := by decide +kernel
theorem dX2_given_4 : decode cX2_given 4 = .ok (.lreturn, 1) := by decide +kernel
theorem dX2_sluice_0 : decode cX2_sluice 0 = .ok (.aload_n 0, 1) := by decide +kernel
theorem dX2_sluice_1 : decode cX2_sluice 1 = .ok (.iload_n 1, 1) := by decide +kernel
theorem dX2_sluice_2 : decode cX2_sluice 2 = .ok (.invokevirtual 64, 3) := by decide +kernel
theorem dX2_sluice_5 : decode cX2_sluice 5 = .ok (.ifCond .eq 19, 3) := by decide +kernel
theorem dX2_sluice_8 : decode cX2_sluice 8 = .ok (.aload_n 0, 1) := by decide +kernel
theorem dX2_sluice_9 : decode cX2_sluice 9 = .ok (.iload_n 2, 1) := by decide +kernel
theorem dX2_sluice_10 : decode cX2_sluice 10 = .ok (.invokevirtual 64, 3) := by decide +kernel
theorem dX2_sluice_13 : decode cX2_sluice 13 = .ok (.ifCond .eq 11, 3) := by decide +kernel
theorem dX2_sluice_16 : decode cX2_sluice 16 = .ok (.aload_n 0, 1) := by decide +kernel
theorem dX2_sluice_17 : decode cX2_sluice 17 = .ok (.iload_n 3, 1) := by decide +kernel
theorem dX2_sluice_18 : decode cX2_sluice 18 = .ok (.invokevirtual 91, 3) := by decide +kernel
theorem dX2_sluice_21 : decode cX2_sluice 21 = .ok (.ifnonnull 6, 3) := by decide +kernel
theorem dX2_sluice_24 : decode cX2_sluice 24 = .ok (.bipush (-101), 2) := by decide +kernel
theorem dX2_sluice_26 : decode cX2_sluice 26 = .ok (.ireturn, 1) := by decide +kernel
theorem dX2_sluice_27 : decode cX2_sluice 27 = .ok (.iload_n 1, 1) := by decide +kernel
theorem dX2_sluice_28 : decode cX2_sluice 28 = .ok (.iload_n 2, 1) := by decide +kernel
theorem dX2_sluice_29 : decode cX2_sluice 29 = .ok (.if_icmp .ne 6, 3) := by decide +kernel
theorem dX2_sluice_32 : decode cX2_sluice 32 = .ok (.bipush (-102), 2) := by decide +kernel
theorem dX2_sluice_34 : decode cX2_sluice 34 = .ok (.ireturn, 1) := by decide +kernel
theorem dX2_sluice_35 : decode cX2_sluice 35 = .ok (.aload_n 0, 1) := by decide +kernel
theorem dX2_sluice_36 : decode cX2_sluice 36 = .ok (.getfield 38, 3) := by decide +kernel
theorem dX2_sluice_39 : decode cX2_sluice 39 = .ok (.aload_n 0, 1) := by decide +kernel
theorem dX2_sluice_40 : decode cX2_sluice 40 = .ok (.getfield 34, 3) := by decide +kernel
theorem dX2_sluice_43 : decode cX2_sluice 43 = .ok (.arraylength, 1) := by decide +kernel
theorem dX2_sluice_44 : decode cX2_sluice 44 = .ok (.if_icmp .lt 6, 3) := by decide +kernel
theorem dX2_sluice_47 : decode cX2_sluice 47 = .ok (.bipush (-103), 2) := by decide +kernel
theorem dX2_sluice_49 : decode cX2_sluice 49 = .ok (.ireturn, 1) := by decide +kernel
theorem dX2_sluice_50 : decode cX2_sluice 50 = .ok (.aload_n 0, 1) := by decide +kernel
theorem dX2_sluice_51 : decode cX2_sluice 51 = .ok (.getfield 34, 3) := by decide +kernel
theorem dX2_sluice_54 : decode cX2_sluice 54 = .ok (.aload_n 0, 1) := by decide +kernel
theorem dX2_sluice_55 : decode cX2_sluice 55 = .ok (.getfield 38, 3) := by decide +kernel
theorem dX2_sluice_58 : decode cX2_sluice 58 = .ok (.new 32, 3) := by decide +kernel
theorem dX2_sluice_61 : decode cX2_sluice 61 = .ok (.dup, 1) := by decide +kernel
theorem dX2_sluice_62 : decode cX2_sluice 62 = .ok (.iload_n 1, 1) := by decide +kernel
theorem dX2_sluice_63 : decode cX2_sluice 63 = .ok (.iload_n 2, 1) := by decide +kernel
theorem dX2_sluice_64 : decode cX2_sluice 64 = .ok (.iload_n 3, 1) := by decide +kernel
theorem dX2_sluice_65 : decode cX2_sluice 65 = .ok (.invokespecial 95, 3) := by decide +kernel
theorem dX2_sluice_68 : decode cX2_sluice 68 = .ok (.aastore, 1) := by decide +kernel
theorem dX2_sluice_69 : decode cX2_sluice 69 = .ok (.aload_n 0, 1) := by decide +kernel
theorem dX2_sluice_70 : decode cX2_sluice 70 = .ok (.dup, 1) := by decide +kernel
theorem dX2_sluice_71 : decode cX2_sluice 71 = .ok (.getfield 38, 3) := by decide +kernel
theorem dX2_sluice_74 : decode cX2_sluice 74 = .ok (.iconst 1, 1) := by decide +kernel
theorem dX2_sluice_75 : decode cX2_sluice 75 = .ok (.iadd, 1) := by decide +kernel
theorem dX2_sluice_76 : decode cX2_sluice 76 = .ok (.putfield 38, 3) := by decide +kernel
theorem dX2_sluice_79 : decode cX2_sluice 79 = .ok (.aload_n 0, 1) := by decide +kernel
theorem dX2_sluice_80 : decode cX2_sluice 80 = .ok (.getfield 38, 3) := by decide +kernel
theorem dX2_sluice_83 : decode cX2_sluice 83 = .ok (.iconst 1, 1) := by decide +kernel
theorem dX2_sluice_84 : decode cX2_sluice 84 = .ok (.isub, 1) := by decide +kernel
theorem dX2_sluice_85 : decode cX2_sluice 85 = .ok (.ireturn, 1) := by decide +kernel
theorem dX2_run_0 : decode cX2_run 0 = .ok (.iload_n 2, 1) := by decide +kernel
theorem dX2_run_1 : decode cX2_run 1 = .ok (.ifCond .lt 9, 3) := by decide +kernel
theorem dX2_run_4 : decode cX2_run 4 = .ok (.iload_n 2, 1) := by decide +kernel
theorem dX2_run_5 : decode cX2_run 5 = .ok (.bipush 100, 2) := by decide +kernel
theorem dX2_run_7 : decode cX2_run 7 = .ok (.if_icmp .le 6, 3) := by decide +kernel
theorem dX2_run_10 : decode cX2_run 10 = .ok (.bipush (-102), 2) := by decide +kernel
theorem dX2_run_12 : decode cX2_run 12 = .ok (.ireturn, 1) := by decide +kernel
theorem dX2_run_13 : decode cX2_run 13 = .ok (.aload_n 0, 1) := by decide +kernel
theorem dX2_run_14 : decode cX2_run 14 = .ok (.iconst (-1), 1) := by decide +kernel
theorem dX2_run_15 : decode cX2_run 15 = .ok (.putfield 51, 3) := by decide +kernel
theorem dX2_run_18 : decode cX2_run 18 = .ok (.aload_n 0, 1) := by decide +kernel
theorem dX2_run_19 : decode cX2_run 19 = .ok (.iconst 0, 1) := by decide +kernel
theorem dX2_run_20 : decode cX2_run 20 = .ok (.putfield 54, 3) := by decide +kernel
theorem dX2_run_23 : decode cX2_run 23 = .ok (.aload_n 0, 1) := by decide +kernel
theorem dX2_run_24 : decode cX2_run 24 = .ok (.iconst 0, 1) := by decide +kernel
theorem dX2_run_25 : decode cX2_run 25 = .ok (.putfield 57, 3) := by decide +kernel
theorem dX2_run_28 : decode cX2_run 28 = .ok (.iconst 0, 1) := by decide +kernel
theorem dX2_run_29 : decode cX2_run 29 = .ok (.istore_n 3, 1) := by decide +kernel
theorem dX2_run_30 : decode cX2_run 30 = .ok (.iload_n 3, 1) := by decide +kernel
theorem dX2_run_31 : decode cX2_run 31 = .ok (.iload_n 2, 1) := by decide +kernel
theorem dX2_run_32 : decode cX2_run 32 = .ok (.if_icmp .ge 21, 3) := by decide +kernel
theorem dX2_run_35 : decode cX2_run 35 = .ok (.aload_n 0, 1) := by decide +kernel
theorem dX2_run_36 : decode cX2_run 36 = .ok (.iload_n 1, 1) := by decide +kernel
theorem dX2_run_37 : decode cX2_run 37 = .ok (.iload_n 3, 1) := by decide +kernel
theorem dX2_run_38 : decode cX2_run 38 = .ok (.iadd, 1) := by decide +kernel
theorem dX2_run_39 : decode cX2_run 39 = .ok (.invokevirtual 98, 3) := by decide +kernel
theorem dX2_run_42 : decode cX2_run 42 = .ok (.ifCond .ne 5, 3) := by decide +kernel
theorem dX2_run_45 : decode cX2_run 45 = .ok (.iload_n 3, 1) := by decide +kernel
theorem dX2_run_46 : decode cX2_run 46 = .ok (.ireturn, 1) := by decide +kernel
theorem dX2_run_47 : decode cX2_run 47 = .ok (.iinc 3 1, 3) := by decide +kernel
theorem dX2_run_50 : decode cX2_run 50 = .ok (.goto (-20), 3) := by decide +kernel
theorem dX2_run_53 : decode cX2_run 53 = .ok (.iload_n 2, 1) := by decide +kernel
theorem dX2_run_54 : decode cX2_run 54 = .ok (.ireturn, 1) := by decide +kernel
theorem dX2_told_0 : decode cX2_told 0 = .ok (.iload_n 1, 1) := by decide +kernel
theorem dX2_told_1 : decode cX2_told 1 = .ok (.tableswitch 42 0 2 #[27, 32, 37], 27) := by decide +kernel
theorem dX2_told_28 : decode cX2_told 28 = .ok (.aload_n 0, 1) := by decide +kernel
theorem dX2_told_29 : decode cX2_told 29 = .ok (.getfield 51, 3) := by decide +kernel
theorem dX2_told_32 : decode cX2_told 32 = .ok (.ireturn, 1) := by decide +kernel
theorem dX2_told_33 : decode cX2_told 33 = .ok (.aload_n 0, 1) := by decide +kernel
theorem dX2_told_34 : decode cX2_told 34 = .ok (.getfield 54, 3) := by decide +kernel
theorem dX2_told_37 : decode cX2_told 37 = .ok (.ireturn, 1) := by decide +kernel
theorem dX2_told_38 : decode cX2_told 38 = .ok (.aload_n 0, 1) := by decide +kernel
theorem dX2_told_39 : decode cX2_told 39 = .ok (.getfield 57, 3) := by decide +kernel
theorem dX2_told_42 : decode cX2_told 42 = .ok (.ireturn, 1) := by decide +kernel
theorem dX2_told_43 : decode cX2_told 43 = .ok (.bipush (-101), 2) := by decide +kernel
theorem dX2_told_45 : decode cX2_told 45 = .ok (.ireturn, 1) := by decide +kernel
theorem dX2_level_0 : decode cX2_level 0 = .ok (.aload_n 0, 1) := by decide +kernel
theorem dX2_level_1 : decode cX2_level 1 = .ok (.iload_n 1, 1) := by decide +kernel
theorem dX2_level_2 : decode cX2_level 2 = .ok (.invokevirtual 64, 3) := by decide +kernel
theorem dX2_level_5 : decode cX2_level 5 = .ok (.ifCond .eq 12, 3) := by decide +kernel
theorem dX2_level_8 : decode cX2_level 8 = .ok (.aload_n 0, 1) := by decide +kernel
theorem dX2_level_9 : decode cX2_level 9 = .ok (.getfield 9, 3) := by decide +kernel
theorem dX2_level_12 : decode cX2_level 12 = .ok (.iload_n 1, 1) := by decide +kernel
theorem dX2_level_13 : decode cX2_level 13 = .ok (.iaload, 1) := by decide +kernel
theorem dX2_level_14 : decode cX2_level 14 = .ok (.goto 5, 3) := by decide +kernel
theorem dX2_level_17 : decode cX2_level 17 = .ok (.bipush (-101), 2) := by decide +kernel
theorem dX2_level_19 : decode cX2_level 19 = .ok (.ireturn, 1) := by decide +kernel
theorem dX2_counted_0 : decode cX2_counted 0 = .ok (.aload_n 0, 1) := by decide +kernel
theorem dX2_counted_1 : decode cX2_counted 1 = .ok (.iload_n 1, 1) := by decide +kernel
theorem dX2_counted_2 : decode cX2_counted 2 = .ok (.invokevirtual 101, 3) := by decide +kernel
theorem dX2_counted_5 : decode cX2_counted 5 = .ok (.astore_n 2, 1) := by decide +kernel
theorem dX2_counted_6 : decode cX2_counted 6 = .ok (.aload_n 2, 1) := by decide +kernel
theorem dX2_counted_7 : decode cX2_counted 7 = .ok (.ifnull 10, 3) := by decide +kernel
theorem dX2_counted_10 : decode cX2_counted 10 = .ok (.aload_n 2, 1) := by decide +kernel
theorem dX2_counted_11 : decode cX2_counted 11 = .ok (.getfield 104, 3) := by decide +kernel
theorem dX2_counted_14 : decode cX2_counted 14 = .ok (.goto 5, 3) := by decide +kernel
theorem dX2_counted_17 : decode cX2_counted 17 = .ok (.bipush (-101), 2) := by decide +kernel
theorem dX2_counted_19 : decode cX2_counted 19 = .ok (.ireturn, 1) := by decide +kernel
theorem dX2_count_0 : decode cX2_count 0 = .ok (.iload_n 1, 1) := by decide +kernel
theorem dX2_count_1 : decode cX2_count 1 = .ok (.tableswitch 51 0 3 #[31, 36, 41, 46], 31) := by decide +kernel
theorem dX2_count_32 : decode cX2_count 32 = .ok (.aload_n 0, 1) := by decide +kernel
theorem dX2_count_33 : decode cX2_count 33 = .ok (.getfield 13, 3) := by decide +kernel
theorem dX2_count_36 : decode cX2_count 36 = .ok (.ireturn, 1) := by decide +kernel
theorem dX2_count_37 : decode cX2_count 37 = .ok (.aload_n 0, 1) := by decide +kernel
theorem dX2_count_38 : decode cX2_count 38 = .ok (.getfield 29, 3) := by decide +kernel
theorem dX2_count_41 : decode cX2_count 41 = .ok (.ireturn, 1) := by decide +kernel
theorem dX2_count_42 : decode cX2_count 42 = .ok (.aload_n 0, 1) := by decide +kernel
theorem dX2_count_43 : decode cX2_count 43 = .ok (.getfield 38, 3) := by decide +kernel
theorem dX2_count_46 : decode cX2_count 46 = .ok (.ireturn, 1) := by decide +kernel
theorem dX2_count_47 : decode cX2_count 47 = .ok (.aload_n 0, 1) := by decide +kernel
theorem dX2_count_48 : decode cX2_count 48 = .ok (.getfield 41, 3) := by decide +kernel
theorem dX2_count_51 : decode cX2_count 51 = .ok (.ireturn, 1) := by decide +kernel
theorem dX2_count_52 : decode cX2_count 52 = .ok (.iload_n 1, 1) := by decide +kernel
theorem dX2_count_53 : decode cX2_count 53 = .ok (.bipush 8, 2) := by decide +kernel
theorem dX2_count_55 : decode cX2_count 55 = .ok (.isub, 1) := by decide +kernel
theorem dX2_count_56 : decode cX2_count 56 = .ok (.istore_n 2, 1) := by decide +kernel
theorem dX2_count_57 : decode cX2_count 57 = .ok (.aload_n 0, 1) := by decide +kernel
theorem dX2_count_58 : decode cX2_count 58 = .ok (.iload_n 2, 1) := by decide +kernel
theorem dX2_count_59 : decode cX2_count 59 = .ok (.invokevirtual 85, 3) := by decide +kernel
theorem dX2_count_62 : decode cX2_count 62 = .ok (.ifCond .eq 12, 3) := by decide +kernel
theorem dX2_count_65 : decode cX2_count 65 = .ok (.aload_n 0, 1) := by decide +kernel
theorem dX2_count_66 : decode cX2_count 66 = .ok (.getfield 20, 3) := by decide +kernel
theorem dX2_count_69 : decode cX2_count 69 = .ok (.iload_n 2, 1) := by decide +kernel
theorem dX2_count_70 : decode cX2_count 70 = .ok (.iaload, 1) := by decide +kernel
theorem dX2_count_71 : decode cX2_count 71 = .ok (.goto 5, 3) := by decide +kernel
theorem dX2_count_74 : decode cX2_count 74 = .ok (.bipush (-101), 2) := by decide +kernel
theorem dX2_count_76 : decode cX2_count 76 = .ok (.ireturn, 1) := by decide +kernel
theorem dX2_isLevel_0 : decode cX2_isLevel 0 = .ok (.iload_n 0, 1) := by decide +kernel
theorem dX2_isLevel_1 : decode cX2_isLevel 1 = .ok (.ifCond .lt 13, 3) := by decide +kernel
theorem dX2_isLevel_4 : decode cX2_isLevel 4 = .ok (.iload_n 0, 1) := by decide +kernel
theorem dX2_isLevel_5 : decode cX2_isLevel 5 = .ok (.ldc 107, 2) := by decide +kernel
theorem dX2_isLevel_7 : decode cX2_isLevel 7 = .ok (.if_icmp .gt 7, 3) := by decide +kernel
theorem dX2_isLevel_10 : decode cX2_isLevel 10 = .ok (.iconst 1, 1) := by decide +kernel
theorem dX2_isLevel_11 : decode cX2_isLevel 11 = .ok (.goto 4, 3) := by decide +kernel
theorem dX2_isLevel_14 : decode cX2_isLevel 14 = .ok (.iconst 0, 1) := by decide +kernel
theorem dX2_isLevel_15 : decode cX2_isLevel 15 = .ok (.ireturn, 1) := by decide +kernel
theorem dX2_isBasin_0 : decode cX2_isBasin 0 = .ok (.iload_n 1, 1) := by decide +kernel
theorem dX2_isBasin_1 : decode cX2_isBasin 1 = .ok (.ifCond .lt 24, 3) := by decide +kernel
theorem dX2_isBasin_4 : decode cX2_isBasin 4 = .ok (.iload_n 1, 1) := by decide +kernel
theorem dX2_isBasin_5 : decode cX2_isBasin 5 = .ok (.aload_n 0, 1) := by decide +kernel
theorem dX2_isBasin_6 : decode cX2_isBasin 6 = .ok (.getfield 13, 3) := by decide +kernel
theorem dX2_isBasin_9 : decode cX2_isBasin 9 = .ok (.if_icmp .ge 16, 3) := by decide +kernel
theorem dX2_isBasin_12 : decode cX2_isBasin 12 = .ok (.iload_n 1, 1) := by decide +kernel
theorem dX2_isBasin_13 : decode cX2_isBasin 13 = .ok (.aload_n 0, 1) := by decide +kernel
theorem dX2_isBasin_14 : decode cX2_isBasin 14 = .ok (.getfield 9, 3) := by decide +kernel
theorem dX2_isBasin_17 : decode cX2_isBasin 17 = .ok (.arraylength, 1) := by decide +kernel
theorem dX2_isBasin_18 : decode cX2_isBasin 18 = .ok (.if_icmp .ge 7, 3) := by decide +kernel
theorem dX2_isBasin_21 : decode cX2_isBasin 21 = .ok (.iconst 1, 1) := by decide +kernel
theorem dX2_isBasin_22 : decode cX2_isBasin 22 = .ok (.goto 4, 3) := by decide +kernel
theorem dX2_isBasin_25 : decode cX2_isBasin 25 = .ok (.iconst 0, 1) := by decide +kernel
theorem dX2_isBasin_26 : decode cX2_isBasin 26 = .ok (.ireturn, 1) := by decide +kernel
theorem dX2_isSlot_0 : decode cX2_isSlot 0 = .ok (.iload_n 1, 1) := by decide +kernel
theorem dX2_isSlot_1 : decode cX2_isSlot 1 = .ok (.ifCond .lt 16, 3) := by decide +kernel
theorem dX2_isSlot_4 : decode cX2_isSlot 4 = .ok (.iload_n 1, 1) := by decide +kernel
theorem dX2_isSlot_5 : decode cX2_isSlot 5 = .ok (.aload_n 0, 1) := by decide +kernel
theorem dX2_isSlot_6 : decode cX2_isSlot 6 = .ok (.getfield 20, 3) := by decide +kernel
theorem dX2_isSlot_9 : decode cX2_isSlot 9 = .ok (.arraylength, 1) := by decide +kernel
theorem dX2_isSlot_10 : decode cX2_isSlot 10 = .ok (.if_icmp .ge 7, 3) := by decide +kernel
theorem dX2_isSlot_13 : decode cX2_isSlot 13 = .ok (.iconst 1, 1) := by decide +kernel
theorem dX2_isSlot_14 : decode cX2_isSlot 14 = .ok (.goto 4, 3) := by decide +kernel
theorem dX2_isSlot_17 : decode cX2_isSlot 17 = .ok (.iconst 0, 1) := by decide +kernel
theorem dX2_isSlot_18 : decode cX2_isSlot 18 = .ok (.ireturn, 1) := by decide +kernel
theorem dX2_isRuleOrNone_0 : decode cX2_isRuleOrNone 0 = .ok (.iload_n 1, 1) := by decide +kernel
theorem dX2_isRuleOrNone_1 : decode cX2_isRuleOrNone 1 = .ok (.iconst (-1), 1) := by decide +kernel
theorem dX2_isRuleOrNone_2 : decode cX2_isRuleOrNone 2 = .ok (.if_icmp .eq 11, 3) := by decide +kernel
theorem dX2_isRuleOrNone_5 : decode cX2_isRuleOrNone 5 = .ok (.aload_n 0, 1) := by decide +kernel
theorem dX2_isRuleOrNone_6 : decode cX2_isRuleOrNone 6 = .ok (.iload_n 1, 1) := by decide +kernel
theorem dX2_isRuleOrNone_7 : decode cX2_isRuleOrNone 7 = .ok (.invokevirtual 91, 3) := by decide +kernel
theorem dX2_isRuleOrNone_10 : decode cX2_isRuleOrNone 10 = .ok (.ifnull 7, 3) := by decide +kernel
theorem dX2_isRuleOrNone_13 : decode cX2_isRuleOrNone 13 = .ok (.iconst 1, 1) := by decide +kernel
theorem dX2_isRuleOrNone_14 : decode cX2_isRuleOrNone 14 = .ok (.goto 4, 3) := by decide +kernel
theorem dX2_isRuleOrNone_17 : decode cX2_isRuleOrNone 17 = .ok (.iconst 0, 1) := by decide +kernel
theorem dX2_isRuleOrNone_18 : decode cX2_isRuleOrNone 18 = .ok (.ireturn, 1) := by decide +kernel
theorem dX2_ruleAt_0 : decode cX2_ruleAt 0 = .ok (.iload_n 1, 1) := by decide +kernel
theorem dX2_ruleAt_1 : decode cX2_ruleAt 1 = .ok (.ifCond .lt 21, 3) := by decide +kernel
theorem dX2_ruleAt_4 : decode cX2_ruleAt 4 = .ok (.iload_n 1, 1) := by decide +kernel
theorem dX2_ruleAt_5 : decode cX2_ruleAt 5 = .ok (.aload_n 0, 1) := by decide +kernel
theorem dX2_ruleAt_6 : decode cX2_ruleAt 6 = .ok (.getfield 25, 3) := by decide +kernel
theorem dX2_ruleAt_9 : decode cX2_ruleAt 9 = .ok (.arraylength, 1) := by decide +kernel
theorem dX2_ruleAt_10 : decode cX2_ruleAt 10 = .ok (.if_icmp .ge 12, 3) := by decide +kernel
theorem dX2_ruleAt_13 : decode cX2_ruleAt 13 = .ok (.aload_n 0, 1) := by decide +kernel
theorem dX2_ruleAt_14 : decode cX2_ruleAt 14 = .ok (.getfield 25, 3) := by decide +kernel
theorem dX2_ruleAt_17 : decode cX2_ruleAt 17 = .ok (.iload_n 1, 1) := by decide +kernel
theorem dX2_ruleAt_18 : decode cX2_ruleAt 18 = .ok (.aaload, 1) := by decide +kernel
theorem dX2_ruleAt_19 : decode cX2_ruleAt 19 = .ok (.goto 4, 3) := by decide +kernel
theorem dX2_ruleAt_22 : decode cX2_ruleAt 22 = .ok (.aconst_null, 1) := by decide +kernel
theorem dX2_ruleAt_23 : decode cX2_ruleAt 23 = .ok (.areturn, 1) := by decide +kernel
theorem dX2_countedAt_0 : decode cX2_countedAt 0 = .ok (.aload_n 0, 1) := by decide +kernel
theorem dX2_countedAt_1 : decode cX2_countedAt 1 = .ok (.iload_n 1, 1) := by decide +kernel
theorem dX2_countedAt_2 : decode cX2_countedAt 2 = .ok (.invokevirtual 91, 3) := by decide +kernel
theorem dX2_countedAt_5 : decode cX2_countedAt 5 = .ok (.astore_n 2, 1) := by decide +kernel
theorem dX2_countedAt_6 : decode cX2_countedAt 6 = .ok (.aload_n 2, 1) := by decide +kernel
theorem dX2_countedAt_7 : decode cX2_countedAt 7 = .ok (.ifnull 16, 3) := by decide +kernel
theorem dX2_countedAt_10 : decode cX2_countedAt 10 = .ok (.aload_n 2, 1) := by decide +kernel
theorem dX2_countedAt_11 : decode cX2_countedAt 11 = .ok (.getfield 108, 3) := by decide +kernel
theorem dX2_countedAt_14 : decode cX2_countedAt 14 = .ok (.bipush 13, 2) := by decide +kernel
theorem dX2_countedAt_16 : decode cX2_countedAt 16 = .ok (.if_icmp .ne 7, 3) := by decide +kernel
theorem dX2_countedAt_19 : decode cX2_countedAt 19 = .ok (.aload_n 2, 1) := by decide +kernel
theorem dX2_countedAt_20 : decode cX2_countedAt 20 = .ok (.goto 4, 3) := by decide +kernel
theorem dX2_countedAt_23 : decode cX2_countedAt 23 = .ok (.aconst_null, 1) := by decide +kernel
theorem dX2_countedAt_24 : decode cX2_countedAt 24 = .ok (.areturn, 1) := by decide +kernel
theorem dX2_ruleInSlot_0 : decode cX2_ruleInSlot 0 = .ok (.aload_n 0, 1) := by decide +kernel
theorem dX2_ruleInSlot_1 : decode cX2_ruleInSlot 1 = .ok (.iload_n 1, 1) := by decide +kernel
theorem dX2_ruleInSlot_2 : decode cX2_ruleInSlot 2 = .ok (.invokevirtual 85, 3) := by decide +kernel
theorem dX2_ruleInSlot_5 : decode cX2_ruleInSlot 5 = .ok (.ifCond .eq 12, 3) := by decide +kernel
theorem dX2_ruleInSlot_8 : decode cX2_ruleInSlot 8 = .ok (.aload_n 0, 1) := by decide +kernel
theorem dX2_ruleInSlot_9 : decode cX2_ruleInSlot 9 = .ok (.getfield 20, 3) := by decide +kernel
theorem dX2_ruleInSlot_12 : decode cX2_ruleInSlot 12 = .ok (.iload_n 1, 1) := by decide +kernel
theorem dX2_ruleInSlot_13 : decode cX2_ruleInSlot 13 = .ok (.iaload, 1) := by decide +kernel
theorem dX2_ruleInSlot_14 : decode cX2_ruleInSlot 14 = .ok (.goto 4, 3) := by decide +kernel
theorem dX2_ruleInSlot_17 : decode cX2_ruleInSlot 17 = .ok (.iconst (-1), 1) := by decide +kernel
theorem dX2_ruleInSlot_18 : decode cX2_ruleInSlot 18 = .ok (.ireturn, 1) := by decide +kernel
theorem dX2_hasKnownParts_0 : decode cX2_hasKnownParts 0 = .ok (.iload_n 1, 1) := by decide +kernel
theorem dX2_hasKnownParts_1 : decode cX2_hasKnownParts 1 = .ok (.tableswitch 192 0 16 #[83, 85, 83, 83, 91, 91, 91, 91, 144, 113, 144, 144, 144, 144, 150, 164, 170], 83) := by decide +kernel
theorem dX2_hasKnownParts_84 : decode cX2_hasKnownParts 84 = .ok (.iconst 1, 1) := by decide +kernel
theorem dX2_hasKnownParts_85 : decode cX2_hasKnownParts 85 = .ok (.ireturn, 1) := by decide +kernel
theorem dX2_hasKnownParts_86 : decode cX2_hasKnownParts 86 = .ok (.aload_n 0, 1) := by decide +kernel
theorem dX2_hasKnownParts_87 : decode cX2_hasKnownParts 87 = .ok (.iload_n 2, 1) := by decide +kernel
theorem dX2_hasKnownParts_88 : decode cX2_hasKnownParts 88 = .ok (.invokevirtual 64, 3) := by decide +kernel
theorem dX2_hasKnownParts_91 : decode cX2_hasKnownParts 91 = .ok (.ireturn, 1) := by decide +kernel
theorem dX2_hasKnownParts_92 : decode cX2_hasKnownParts 92 = .ok (.aload_n 0, 1) := by decide +kernel
theorem dX2_hasKnownParts_93 : decode cX2_hasKnownParts 93 = .ok (.iload_n 2, 1) := by decide +kernel
theorem dX2_hasKnownParts_94 : decode cX2_hasKnownParts 94 = .ok (.invokevirtual 88, 3) := by decide +kernel
theorem dX2_hasKnownParts_97 : decode cX2_hasKnownParts 97 = .ok (.ifCond .eq 15, 3) := by decide +kernel
theorem dX2_hasKnownParts_100 : decode cX2_hasKnownParts 100 = .ok (.aload_n 0, 1) := by decide +kernel
theorem dX2_hasKnownParts_101 : decode cX2_hasKnownParts 101 = .ok (.iload_n 3, 1) := by decide +kernel
theorem dX2_hasKnownParts_102 : decode cX2_hasKnownParts 102 = .ok (.invokevirtual 88, 3) := by decide +kernel
theorem dX2_hasKnownParts_105 : decode cX2_hasKnownParts 105 = .ok (.ifCond .eq 7, 3) := by decide +kernel
theorem dX2_hasKnownParts_108 : decode cX2_hasKnownParts 108 = .ok (.iconst 1, 1) := by decide +kernel
theorem dX2_hasKnownParts_109 : decode cX2_hasKnownParts 109 = .ok (.goto 4, 3) := by decide +kernel
theorem dX2_hasKnownParts_112 : decode cX2_hasKnownParts 112 = .ok (.iconst 0, 1) := by decide +kernel
theorem dX2_hasKnownParts_113 : decode cX2_hasKnownParts 113 = .ok (.ireturn, 1) := by decide +kernel
theorem dX2_hasKnownParts_114 : decode cX2_hasKnownParts 114 = .ok (.aload_n 0, 1) := by decide +kernel
theorem dX2_hasKnownParts_115 : decode cX2_hasKnownParts 115 = .ok (.iload_n 2, 1) := by decide +kernel
theorem dX2_hasKnownParts_116 : decode cX2_hasKnownParts 116 = .ok (.invokevirtual 88, 3) := by decide +kernel
theorem dX2_hasKnownParts_119 : decode cX2_hasKnownParts 119 = .ok (.ifCond .eq 24, 3) := by decide +kernel
theorem dX2_hasKnownParts_122 : decode cX2_hasKnownParts 122 = .ok (.aload_n 0, 1) := by decide +kernel
theorem dX2_hasKnownParts_123 : decode cX2_hasKnownParts 123 = .ok (.iload_n 3, 1) := by decide +kernel
theorem dX2_hasKnownParts_124 : decode cX2_hasKnownParts 124 = .ok (.invokevirtual 88, 3) := by decide +kernel
theorem dX2_hasKnownParts_127 : decode cX2_hasKnownParts 127 = .ok (.ifCond .eq 16, 3) := by decide +kernel
theorem dX2_hasKnownParts_130 : decode cX2_hasKnownParts 130 = .ok (.aload_n 0, 1) := by decide +kernel
theorem dX2_hasKnownParts_131 : decode cX2_hasKnownParts 131 = .ok (.iload 4, 2) := by decide +kernel
theorem dX2_hasKnownParts_133 : decode cX2_hasKnownParts 133 = .ok (.invokevirtual 88, 3) := by decide +kernel
theorem dX2_hasKnownParts_136 : decode cX2_hasKnownParts 136 = .ok (.ifCond .eq 7, 3) := by decide +kernel
theorem dX2_hasKnownParts_139 : decode cX2_hasKnownParts 139 = .ok (.iconst 1, 1) := by decide +kernel
theorem dX2_hasKnownParts_140 : decode cX2_hasKnownParts 140 = .ok (.goto 4, 3) := by decide +kernel
theorem dX2_hasKnownParts_143 : decode cX2_hasKnownParts 143 = .ok (.iconst 0, 1) := by decide +kernel
theorem dX2_hasKnownParts_144 : decode cX2_hasKnownParts 144 = .ok (.ireturn, 1) := by decide +kernel
theorem dX2_hasKnownParts_145 : decode cX2_hasKnownParts 145 = .ok (.aload_n 0, 1) := by decide +kernel
theorem dX2_hasKnownParts_146 : decode cX2_hasKnownParts 146 = .ok (.iload_n 2, 1) := by decide +kernel
theorem dX2_hasKnownParts_147 : decode cX2_hasKnownParts 147 = .ok (.invokevirtual 88, 3) := by decide +kernel
theorem dX2_hasKnownParts_150 : decode cX2_hasKnownParts 150 = .ok (.ireturn, 1) := by decide +kernel
theorem dX2_hasKnownParts_151 : decode cX2_hasKnownParts 151 = .ok (.aload_n 0, 1) := by decide +kernel
theorem dX2_hasKnownParts_152 : decode cX2_hasKnownParts 152 = .ok (.iload_n 2, 1) := by decide +kernel
theorem dX2_hasKnownParts_153 : decode cX2_hasKnownParts 153 = .ok (.invokevirtual 101, 3) := by decide +kernel
theorem dX2_hasKnownParts_156 : decode cX2_hasKnownParts 156 = .ok (.ifnull 7, 3) := by decide +kernel
theorem dX2_hasKnownParts_159 : decode cX2_hasKnownParts 159 = .ok (.iconst 1, 1) := by decide +kernel
theorem dX2_hasKnownParts_160 : decode cX2_hasKnownParts 160 = .ok (.goto 4, 3) := by decide +kernel
theorem dX2_hasKnownParts_163 : decode cX2_hasKnownParts 163 = .ok (.iconst 0, 1) := by decide +kernel
theorem dX2_hasKnownParts_164 : decode cX2_hasKnownParts 164 = .ok (.ireturn, 1) := by decide +kernel
theorem dX2_hasKnownParts_165 : decode cX2_hasKnownParts 165 = .ok (.aload_n 0, 1) := by decide +kernel
theorem dX2_hasKnownParts_166 : decode cX2_hasKnownParts 166 = .ok (.iload_n 2, 1) := by decide +kernel
theorem dX2_hasKnownParts_167 : decode cX2_hasKnownParts 167 = .ok (.invokevirtual 85, 3) := by decide +kernel
theorem dX2_hasKnownParts_170 : decode cX2_hasKnownParts 170 = .ok (.ireturn, 1) := by decide +kernel
theorem dX2_hasKnownParts_171 : decode cX2_hasKnownParts 171 = .ok (.aload_n 0, 1) := by decide +kernel
theorem dX2_hasKnownParts_172 : decode cX2_hasKnownParts 172 = .ok (.iload_n 2, 1) := by decide +kernel
theorem dX2_hasKnownParts_173 : decode cX2_hasKnownParts 173 = .ok (.invokevirtual 85, 3) := by decide +kernel
theorem dX2_hasKnownParts_176 : decode cX2_hasKnownParts 176 = .ok (.ifCond .eq 15, 3) := by decide +kernel
theorem dX2_hasKnownParts_179 : decode cX2_hasKnownParts 179 = .ok (.aload_n 0, 1) := by decide +kernel
theorem dX2_hasKnownParts_180 : decode cX2_hasKnownParts 180 = .ok (.iload_n 3, 1) := by decide +kernel
theorem dX2_hasKnownParts_181 : decode cX2_hasKnownParts 181 = .ok (.invokevirtual 85, 3) := by decide +kernel
theorem dX2_hasKnownParts_184 : decode cX2_hasKnownParts 184 = .ok (.ifCond .eq 7, 3) := by decide +kernel
theorem dX2_hasKnownParts_187 : decode cX2_hasKnownParts 187 = .ok (.iconst 1, 1) := by decide +kernel
theorem dX2_hasKnownParts_188 : decode cX2_hasKnownParts 188 = .ok (.goto 4, 3) := by decide +kernel
theorem dX2_hasKnownParts_191 : decode cX2_hasKnownParts 191 = .ok (.iconst 0, 1) := by decide +kernel
theorem dX2_hasKnownParts_192 : decode cX2_hasKnownParts 192 = .ok (.ireturn, 1) := by decide +kernel
theorem dX2_hasKnownParts_193 : decode cX2_hasKnownParts 193 = .ok (.iconst 0, 1) := by decide +kernel
theorem dX2_hasKnownParts_194 : decode cX2_hasKnownParts 194 = .ok (.ireturn, 1) := by decide +kernel
theorem dX2_hasFitNumbers_0 : decode cX2_hasFitNumbers 0 = .ok (.iload_n 0, 1) := by decide +kernel
theorem dX2_hasFitNumbers_1 : decode cX2_hasFitNumbers 1 = .ok (.lookupswitch 77 #[(8, 35), (11, 53), (16, 66)], 35) := by decide +kernel
theorem dX2_hasFitNumbers_36 : decode cX2_hasFitNumbers 36 = .ok (.iload_n 3, 1) := by decide +kernel
theorem dX2_hasFitNumbers_37 : decode cX2_hasFitNumbers 37 = .ok (.iconst 1, 1) := by decide +kernel
theorem dX2_hasFitNumbers_38 : decode cX2_hasFitNumbers 38 = .ok (.if_icmp .lt 14, 3) := by decide +kernel
theorem dX2_hasFitNumbers_41 : decode cX2_hasFitNumbers 41 = .ok (.iload_n 3, 1) := by decide +kernel
theorem dX2_hasFitNumbers_42 : decode cX2_hasFitNumbers 42 = .ok (.sipush 1000, 3) := by decide +kernel
theorem dX2_hasFitNumbers_45 : decode cX2_hasFitNumbers 45 = .ok (.if_icmp .gt 7, 3) := by decide +kernel
theorem dX2_hasFitNumbers_48 : decode cX2_hasFitNumbers 48 = .ok (.iconst 1, 1) := by decide +kernel
theorem dX2_hasFitNumbers_49 : decode cX2_hasFitNumbers 49 = .ok (.goto 4, 3) := by decide +kernel
theorem dX2_hasFitNumbers_52 : decode cX2_hasFitNumbers 52 = .ok (.iconst 0, 1) := by decide +kernel
theorem dX2_hasFitNumbers_53 : decode cX2_hasFitNumbers 53 = .ok (.ireturn, 1) := by decide +kernel
theorem dX2_hasFitNumbers_54 : decode cX2_hasFitNumbers 54 = .ok (.iload 4, 2) := by decide +kernel
theorem dX2_hasFitNumbers_56 : decode cX2_hasFitNumbers 56 = .ok (.iload 5, 2) := by decide +kernel
theorem dX2_hasFitNumbers_58 : decode cX2_hasFitNumbers 58 = .ok (.if_icmp .gt 7, 3) := by decide +kernel
theorem dX2_hasFitNumbers_61 : decode cX2_hasFitNumbers 61 = .ok (.iconst 1, 1) := by decide +kernel
theorem dX2_hasFitNumbers_62 : decode cX2_hasFitNumbers 62 = .ok (.goto 4, 3) := by decide +kernel
theorem dX2_hasFitNumbers_65 : decode cX2_hasFitNumbers 65 = .ok (.iconst 0, 1) := by decide +kernel
theorem dX2_hasFitNumbers_66 : decode cX2_hasFitNumbers 66 = .ok (.ireturn, 1) := by decide +kernel
theorem dX2_hasFitNumbers_67 : decode cX2_hasFitNumbers 67 = .ok (.iload_n 1, 1) := by decide +kernel
theorem dX2_hasFitNumbers_68 : decode cX2_hasFitNumbers 68 = .ok (.iload_n 2, 1) := by decide +kernel
theorem dX2_hasFitNumbers_69 : decode cX2_hasFitNumbers 69 = .ok (.if_icmp .gt 7, 3) := by decide +kernel
theorem dX2_hasFitNumbers_72 : decode cX2_hasFitNumbers 72 = .ok (.iconst 1, 1) := by decide +kernel
theorem dX2_hasFitNumbers_73 : decode cX2_hasFitNumbers 73 = .ok (.goto 4, 3) := by decide +kernel
theorem dX2_hasFitNumbers_76 : decode cX2_hasFitNumbers 76 = .ok (.iconst 0, 1) := by decide +kernel
theorem dX2_hasFitNumbers_77 : decode cX2_hasFitNumbers 77 = .ok (.ireturn, 1) := by decide +kernel
theorem dX2_hasFitNumbers_78 : decode cX2_hasFitNumbers 78 = .ok (.iconst 1, 1) := by decide +kernel
theorem dX2_hasFitNumbers_79 : decode cX2_hasFitNumbers 79 = .ok (.ireturn, 1) := by decide +kernel
theorem dX2_askByCall_0 : decode cX2_askByCall 0 = .ok (.aload_n 0, 1) := by decide +kernel
theorem dX2_askByCall_1 : decode cX2_askByCall 1 = .ok (.iconst 0, 1) := by decide +kernel
theorem dX2_askByCall_2 : decode cX2_askByCall 2 = .ok (.putfield 41, 3) := by decide +kernel
theorem dX2_askByCall_5 : decode cX2_askByCall 5 = .ok (.aload_n 0, 1) := by decide +kernel
theorem dX2_askByCall_6 : decode cX2_askByCall 6 = .ok (.iconst 0, 1) := by decide +kernel
theorem dX2_askByCall_7 : decode cX2_askByCall 7 = .ok (.putfield 44, 3) := by decide +kernel
theorem dX2_askByCall_10 : decode cX2_askByCall 10 = .ok (.aload_n 0, 1) := by decide +kernel
theorem dX2_askByCall_11 : decode cX2_askByCall 11 = .ok (.iload_n 1, 1) := by decide +kernel
theorem dX2_askByCall_12 : decode cX2_askByCall 12 = .ok (.iload_n 2, 1) := by decide +kernel
theorem dX2_askByCall_13 : decode cX2_askByCall 13 = .ok (.invokevirtual 111, 3) := by decide +kernel
theorem dX2_askByCall_16 : decode cX2_askByCall 16 = .ok (.lreturn, 1) := by decide +kernel
theorem dX2_valueOf_0 : decode cX2_valueOf 0 = .ok (.aload_n 0, 1) := by decide +kernel
theorem dX2_valueOf_1 : decode cX2_valueOf 1 = .ok (.iload_n 1, 1) := by decide +kernel
theorem dX2_valueOf_2 : decode cX2_valueOf 2 = .ok (.invokevirtual 114, 3) := by decide +kernel
theorem dX2_valueOf_5 : decode cX2_valueOf 5 = .ok (.astore_n 3, 1) := by decide +kernel
theorem dX2_valueOf_6 : decode cX2_valueOf 6 = .ok (.aload_n 3, 1) := by decide +kernel
theorem dX2_valueOf_7 : decode cX2_valueOf 7 = .ok (.ifnonnull 5, 3) := by decide +kernel
theorem dX2_valueOf_10 : decode cX2_valueOf 10 = .ok (.lconst 0, 1) := by decide +kernel
theorem dX2_valueOf_11 : decode cX2_valueOf 11 = .ok (.lreturn, 1) := by decide +kernel
theorem dX2_valueOf_12 : decode cX2_valueOf 12 = .ok (.aload_n 3, 1) := by decide +kernel
theorem dX2_valueOf_13 : decode cX2_valueOf 13 = .ok (.getfield 108, 3) := by decide +kernel
theorem dX2_valueOf_16 : decode cX2_valueOf 16 = .ok (.tableswitch 317 4 16 #[68, 88, 108, 130, 152, 173, 204, 219, 317, 233, 317, 253, 267], 68) := by decide +kernel
theorem dX2_valueOf_84 : decode cX2_valueOf 84 = .ok (.aload_n 0, 1) := by decide +kernel
theorem dX2_valueOf_85 : decode cX2_valueOf 85 = .ok (.aload_n 3, 1) := by decide +kernel
theorem dX2_valueOf_86 : decode cX2_valueOf 86 = .ok (.getfield 117, 3) := by decide +kernel
theorem dX2_valueOf_89 : decode cX2_valueOf 89 = .ok (.iload_n 2, 1) := by decide +kernel
theorem dX2_valueOf_90 : decode cX2_valueOf 90 = .ok (.invokevirtual 111, 3) := by decide +kernel
theorem dX2_valueOf_93 : decode cX2_valueOf 93 = .ok (.aload_n 0, 1) := by decide +kernel
theorem dX2_valueOf_94 : decode cX2_valueOf 94 = .ok (.aload_n 3, 1) := by decide +kernel
theorem dX2_valueOf_95 : decode cX2_valueOf 95 = .ok (.getfield 120, 3) := by decide +kernel
theorem dX2_valueOf_98 : decode cX2_valueOf 98 = .ok (.iload_n 2, 1) := by decide +kernel
theorem dX2_valueOf_99 : decode cX2_valueOf 99 = .ok (.invokevirtual 111, 3) := by decide +kernel
theorem dX2_valueOf_102 : decode cX2_valueOf 102 = .ok (.ladd, 1) := by decide +kernel
theorem dX2_valueOf_103 : decode cX2_valueOf 103 = .ok (.lreturn, 1) := by decide +kernel
theorem dX2_valueOf_104 : decode cX2_valueOf 104 = .ok (.aload_n 0, 1) := by decide +kernel
theorem dX2_valueOf_105 : decode cX2_valueOf 105 = .ok (.aload_n 3, 1) := by decide +kernel
theorem dX2_valueOf_106 : decode cX2_valueOf 106 = .ok (.getfield 117, 3) := by decide +kernel
theorem dX2_valueOf_109 : decode cX2_valueOf 109 = .ok (.iload_n 2, 1) := by decide +kernel
theorem dX2_valueOf_110 : decode cX2_valueOf 110 = .ok (.invokevirtual 111, 3) := by decide +kernel
theorem dX2_valueOf_113 : decode cX2_valueOf 113 = .ok (.aload_n 0, 1) := by decide +kernel
theorem dX2_valueOf_114 : decode cX2_valueOf 114 = .ok (.aload_n 3, 1) := by decide +kernel
theorem dX2_valueOf_115 : decode cX2_valueOf 115 = .ok (.getfield 120, 3) := by decide +kernel
theorem dX2_valueOf_118 : decode cX2_valueOf 118 = .ok (.iload_n 2, 1) := by decide +kernel
theorem dX2_valueOf_119 : decode cX2_valueOf 119 = .ok (.invokevirtual 111, 3) := by decide +kernel
theorem dX2_valueOf_122 : decode cX2_valueOf 122 = .ok (.lsub, 1) := by decide +kernel
theorem dX2_valueOf_123 : decode cX2_valueOf 123 = .ok (.lreturn, 1) := by decide +kernel
theorem dX2_valueOf_124 : decode cX2_valueOf 124 = .ok (.aload_n 0, 1) := by decide +kernel
theorem dX2_valueOf_125 : decode cX2_valueOf 125 = .ok (.aload_n 3, 1) := by decide +kernel
theorem dX2_valueOf_126 : decode cX2_valueOf 126 = .ok (.getfield 117, 3) := by decide +kernel
theorem dX2_valueOf_129 : decode cX2_valueOf 129 = .ok (.iload_n 2, 1) := by decide +kernel
theorem dX2_valueOf_130 : decode cX2_valueOf 130 = .ok (.invokevirtual 111, 3) := by decide +kernel
theorem dX2_valueOf_133 : decode cX2_valueOf 133 = .ok (.aload_n 0, 1) := by decide +kernel
theorem dX2_valueOf_134 : decode cX2_valueOf 134 = .ok (.aload_n 3, 1) := by decide +kernel
theorem dX2_valueOf_135 : decode cX2_valueOf 135 = .ok (.getfield 120, 3) := by decide +kernel
theorem dX2_valueOf_138 : decode cX2_valueOf 138 = .ok (.iload_n 2, 1) := by decide +kernel
theorem dX2_valueOf_139 : decode cX2_valueOf 139 = .ok (.invokevirtual 111, 3) := by decide +kernel
theorem dX2_valueOf_142 : decode cX2_valueOf 142 = .ok (.invokestatic 123, 3) := by decide +kernel
theorem dX2_valueOf_145 : decode cX2_valueOf 145 = .ok (.lreturn, 1) := by decide +kernel
theorem dX2_valueOf_146 : decode cX2_valueOf 146 = .ok (.aload_n 0, 1) := by decide +kernel
theorem dX2_valueOf_147 : decode cX2_valueOf 147 = .ok (.aload_n 3, 1) := by decide +kernel
theorem dX2_valueOf_148 : decode cX2_valueOf 148 = .ok (.getfield 117, 3) := by decide +kernel
theorem dX2_valueOf_151 : decode cX2_valueOf 151 = .ok (.iload_n 2, 1) := by decide +kernel
theorem dX2_valueOf_152 : decode cX2_valueOf 152 = .ok (.invokevirtual 111, 3) := by decide +kernel
theorem dX2_valueOf_155 : decode cX2_valueOf 155 = .ok (.aload_n 0, 1) := by decide +kernel
theorem dX2_valueOf_156 : decode cX2_valueOf 156 = .ok (.aload_n 3, 1) := by decide +kernel
theorem dX2_valueOf_157 : decode cX2_valueOf 157 = .ok (.getfield 120, 3) := by decide +kernel
theorem dX2_valueOf_160 : decode cX2_valueOf 160 = .ok (.iload_n 2, 1) := by decide +kernel
theorem dX2_valueOf_161 : decode cX2_valueOf 161 = .ok (.invokevirtual 111, 3) := by decide +kernel
theorem dX2_valueOf_164 : decode cX2_valueOf 164 = .ok (.invokestatic 129, 3) := by decide +kernel
theorem dX2_valueOf_167 : decode cX2_valueOf 167 = .ok (.lreturn, 1) := by decide +kernel
theorem dX2_valueOf_168 : decode cX2_valueOf 168 = .ok (.aload_n 0, 1) := by decide +kernel
theorem dX2_valueOf_169 : decode cX2_valueOf 169 = .ok (.aload_n 3, 1) := by decide +kernel
theorem dX2_valueOf_170 : decode cX2_valueOf 170 = .ok (.getfield 117, 3) := by decide +kernel
theorem dX2_valueOf_173 : decode cX2_valueOf 173 = .ok (.iload_n 2, 1) := by decide +kernel
theorem dX2_valueOf_174 : decode cX2_valueOf 174 = .ok (.invokevirtual 111, 3) := by decide +kernel
theorem dX2_valueOf_177 : decode cX2_valueOf 177 = .ok (.aload_n 3, 1) := by decide +kernel
theorem dX2_valueOf_178 : decode cX2_valueOf 178 = .ok (.getfield 120, 3) := by decide +kernel
theorem dX2_valueOf_181 : decode cX2_valueOf 181 = .ok (.aload_n 3, 1) := by decide +kernel
theorem dX2_valueOf_182 : decode cX2_valueOf 182 = .ok (.getfield 132, 3) := by decide +kernel
theorem dX2_valueOf_185 : decode cX2_valueOf 185 = .ok (.invokestatic 135, 3) := by decide +kernel
theorem dX2_valueOf_188 : decode cX2_valueOf 188 = .ok (.lreturn, 1) := by decide +kernel
theorem dX2_valueOf_189 : decode cX2_valueOf 189 = .ok (.aload_n 0, 1) := by decide +kernel
theorem dX2_valueOf_190 : decode cX2_valueOf 190 = .ok (.aload_n 0, 1) := by decide +kernel
theorem dX2_valueOf_191 : decode cX2_valueOf 191 = .ok (.aload_n 3, 1) := by decide +kernel
theorem dX2_valueOf_192 : decode cX2_valueOf 192 = .ok (.getfield 117, 3) := by decide +kernel
theorem dX2_valueOf_195 : decode cX2_valueOf 195 = .ok (.iload_n 2, 1) := by decide +kernel
theorem dX2_valueOf_196 : decode cX2_valueOf 196 = .ok (.invokevirtual 111, 3) := by decide +kernel
theorem dX2_valueOf_199 : decode cX2_valueOf 199 = .ok (.lconst 0, 1) := by decide +kernel
theorem dX2_valueOf_200 : decode cX2_valueOf 200 = .ok (.lcmp, 1) := by decide +kernel
theorem dX2_valueOf_201 : decode cX2_valueOf 201 = .ok (.ifCond .le 10, 3) := by decide +kernel
theorem dX2_valueOf_204 : decode cX2_valueOf 204 = .ok (.aload_n 3, 1) := by decide +kernel
theorem dX2_valueOf_205 : decode cX2_valueOf 205 = .ok (.getfield 120, 3) := by decide +kernel
theorem dX2_valueOf_208 : decode cX2_valueOf 208 = .ok (.goto 7, 3) := by decide +kernel
theorem dX2_valueOf_211 : decode cX2_valueOf 211 = .ok (.aload_n 3, 1) := by decide +kernel
theorem dX2_valueOf_212 : decode cX2_valueOf 212 = .ok (.getfield 132, 3) := by decide +kernel
theorem dX2_valueOf_215 : decode cX2_valueOf 215 = .ok (.iload_n 2, 1) := by decide +kernel
theorem dX2_valueOf_216 : decode cX2_valueOf 216 = .ok (.invokevirtual 111, 3) := by decide +kernel
theorem dX2_valueOf_219 : decode cX2_valueOf 219 = .ok (.lreturn, 1) := by decide +kernel
theorem dX2_valueOf_220 : decode cX2_valueOf 220 = .ok (.aload_n 0, 1) := by decide +kernel
theorem dX2_valueOf_221 : decode cX2_valueOf 221 = .ok (.aload_n 3, 1) := by decide +kernel
theorem dX2_valueOf_222 : decode cX2_valueOf 222 = .ok (.getfield 117, 3) := by decide +kernel
theorem dX2_valueOf_225 : decode cX2_valueOf 225 = .ok (.iload_n 2, 1) := by decide +kernel
theorem dX2_valueOf_226 : decode cX2_valueOf 226 = .ok (.aload_n 3, 1) := by decide +kernel
theorem dX2_valueOf_227 : decode cX2_valueOf 227 = .ok (.getfield 120, 3) := by decide +kernel
theorem dX2_valueOf_230 : decode cX2_valueOf 230 = .ok (.iadd, 1) := by decide +kernel
theorem dX2_valueOf_231 : decode cX2_valueOf 231 = .ok (.invokevirtual 111, 3) := by decide +kernel
theorem dX2_valueOf_234 : decode cX2_valueOf 234 = .ok (.lreturn, 1) := by decide +kernel
theorem dX2_valueOf_235 : decode cX2_valueOf 235 = .ok (.aload_n 0, 1) := by decide +kernel
theorem dX2_valueOf_236 : decode cX2_valueOf 236 = .ok (.aload_n 3, 1) := by decide +kernel
theorem dX2_valueOf_237 : decode cX2_valueOf 237 = .ok (.getfield 117, 3) := by decide +kernel
theorem dX2_valueOf_240 : decode cX2_valueOf 240 = .ok (.iload_n 2, 1) := by decide +kernel
theorem dX2_valueOf_241 : decode cX2_valueOf 241 = .ok (.invokevirtual 111, 3) := by decide +kernel
theorem dX2_valueOf_244 : decode cX2_valueOf 244 = .ok (.aload_n 3, 1) := by decide +kernel
theorem dX2_valueOf_245 : decode cX2_valueOf 245 = .ok (.invokestatic 139, 3) := by decide +kernel
theorem dX2_valueOf_248 : decode cX2_valueOf 248 = .ok (.lreturn, 1) := by decide +kernel
theorem dX2_valueOf_249 : decode cX2_valueOf 249 = .ok (.aload_n 3, 1) := by decide +kernel
theorem dX2_valueOf_250 : decode cX2_valueOf 250 = .ok (.dup, 1) := by decide +kernel
theorem dX2_valueOf_251 : decode cX2_valueOf 251 = .ok (.getfield 104, 3) := by decide +kernel
theorem dX2_valueOf_254 : decode cX2_valueOf 254 = .ok (.iconst 1, 1) := by decide +kernel
theorem dX2_valueOf_255 : decode cX2_valueOf 255 = .ok (.iadd, 1) := by decide +kernel
theorem dX2_valueOf_256 : decode cX2_valueOf 256 = .ok (.putfield 104, 3) := by decide +kernel
theorem dX2_valueOf_259 : decode cX2_valueOf 259 = .ok (.aload_n 0, 1) := by decide +kernel
theorem dX2_valueOf_260 : decode cX2_valueOf 260 = .ok (.aload_n 3, 1) := by decide +kernel
theorem dX2_valueOf_261 : decode cX2_valueOf 261 = .ok (.getfield 117, 3) := by decide +kernel
theorem dX2_valueOf_264 : decode cX2_valueOf 264 = .ok (.iload_n 2, 1) := by decide +kernel
theorem dX2_valueOf_265 : decode cX2_valueOf 265 = .ok (.invokevirtual 111, 3) := by decide +kernel
theorem dX2_valueOf_268 : decode cX2_valueOf 268 = .ok (.lreturn, 1) := by decide +kernel
theorem dX2_valueOf_269 : decode cX2_valueOf 269 = .ok (.aload_n 0, 1) := by decide +kernel
theorem dX2_valueOf_270 : decode cX2_valueOf 270 = .ok (.aload_n 0, 1) := by decide +kernel
theorem dX2_valueOf_271 : decode cX2_valueOf 271 = .ok (.aload_n 3, 1) := by decide +kernel
theorem dX2_valueOf_272 : decode cX2_valueOf 272 = .ok (.getfield 117, 3) := by decide +kernel
theorem dX2_valueOf_275 : decode cX2_valueOf 275 = .ok (.invokevirtual 143, 3) := by decide +kernel
theorem dX2_valueOf_278 : decode cX2_valueOf 278 = .ok (.iload_n 2, 1) := by decide +kernel
theorem dX2_valueOf_279 : decode cX2_valueOf 279 = .ok (.invokevirtual 111, 3) := by decide +kernel
theorem dX2_valueOf_282 : decode cX2_valueOf 282 = .ok (.lreturn, 1) := by decide +kernel
theorem dX2_valueOf_283 : decode cX2_valueOf 283 = .ok (.lconst 0, 1) := by decide +kernel
theorem dX2_valueOf_284 : decode cX2_valueOf 284 = .ok (.lstore 4, 2) := by decide +kernel
theorem dX2_valueOf_286 : decode cX2_valueOf 286 = .ok (.aload_n 3, 1) := by decide +kernel
theorem dX2_valueOf_287 : decode cX2_valueOf 287 = .ok (.getfield 117, 3) := by decide +kernel
theorem dX2_valueOf_290 : decode cX2_valueOf 290 = .ok (.istore 6, 2) := by decide +kernel
theorem dX2_valueOf_292 : decode cX2_valueOf 292 = .ok (.iload 6, 2) := by decide +kernel
theorem dX2_valueOf_294 : decode cX2_valueOf 294 = .ok (.aload_n 3, 1) := by decide +kernel
theorem dX2_valueOf_295 : decode cX2_valueOf 295 = .ok (.getfield 120, 3) := by decide +kernel
theorem dX2_valueOf_298 : decode cX2_valueOf 298 = .ok (.if_icmp .gt 32, 3) := by decide +kernel
theorem dX2_valueOf_301 : decode cX2_valueOf 301 = .ok (.iload 6, 2) := by decide +kernel
theorem dX2_valueOf_303 : decode cX2_valueOf 303 = .ok (.bipush 8, 2) := by decide +kernel
theorem dX2_valueOf_305 : decode cX2_valueOf 305 = .ok (.if_icmp .ge 25, 3) := by decide +kernel
theorem dX2_valueOf_308 : decode cX2_valueOf 308 = .ok (.lload 4, 2) := by decide +kernel
theorem dX2_valueOf_310 : decode cX2_valueOf 310 = .ok (.aload_n 0, 1) := by decide +kernel
theorem dX2_valueOf_311 : decode cX2_valueOf 311 = .ok (.aload_n 0, 1) := by decide +kernel
theorem dX2_valueOf_312 : decode cX2_valueOf 312 = .ok (.iload 6, 2) := by decide +kernel
theorem dX2_valueOf_314 : decode cX2_valueOf 314 = .ok (.invokevirtual 143, 3) := by decide +kernel
theorem dX2_valueOf_317 : decode cX2_valueOf 317 = .ok (.iload_n 2, 1) := by decide +kernel
theorem dX2_valueOf_318 : decode cX2_valueOf 318 = .ok (.invokevirtual 111, 3) := by decide +kernel
theorem dX2_valueOf_321 : decode cX2_valueOf 321 = .ok (.ladd, 1) := by decide +kernel
theorem dX2_valueOf_322 : decode cX2_valueOf 322 = .ok (.lstore 4, 2) := by decide +kernel
theorem dX2_valueOf_324 : decode cX2_valueOf 324 = .ok (.iinc 6 1, 3) := by decide +kernel
theorem dX2_valueOf_327 : decode cX2_valueOf 327 = .ok (.goto (-35), 3) := by decide +kernel
theorem dX2_valueOf_330 : decode cX2_valueOf 330 = .ok (.lload 4, 2) := by decide +kernel
theorem dX2_valueOf_332 : decode cX2_valueOf 332 = .ok (.lreturn, 1) := by decide +kernel
theorem dX2_valueOf_333 : decode cX2_valueOf 333 = .ok (.aload_n 0, 1) := by decide +kernel
theorem dX2_valueOf_334 : decode cX2_valueOf 334 = .ok (.aload_n 3, 1) := by decide +kernel
theorem dX2_valueOf_335 : decode cX2_valueOf 335 = .ok (.iload_n 2, 1) := by decide +kernel
theorem dX2_valueOf_336 : decode cX2_valueOf 336 = .ok (.invokevirtual 147, 3) := by decide +kernel
theorem dX2_valueOf_339 : decode cX2_valueOf 339 = .ok (.lreturn, 1) := by decide +kernel
theorem dX2_stepTo_0 : decode cX2_stepTo 0 = .ok (.aload_n 0, 1) := by decide +kernel
theorem dX2_stepTo_1 : decode cX2_stepTo 1 = .ok (.getfield 44, 3) := by decide +kernel
theorem dX2_stepTo_4 : decode cX2_stepTo 4 = .ok (.ifCond .eq 5, 3) := by decide +kernel
theorem dX2_stepTo_7 : decode cX2_stepTo 7 = .ok (.aconst_null, 1) := by decide +kernel
theorem dX2_stepTo_8 : decode cX2_stepTo 8 = .ok (.areturn, 1) := by decide +kernel
theorem dX2_stepTo_9 : decode cX2_stepTo 9 = .ok (.aload_n 0, 1) := by decide +kernel
theorem dX2_stepTo_10 : decode cX2_stepTo 10 = .ok (.iload_n 1, 1) := by decide +kernel
theorem dX2_stepTo_11 : decode cX2_stepTo 11 = .ok (.invokevirtual 91, 3) := by decide +kernel
theorem dX2_stepTo_14 : decode cX2_stepTo 14 = .ok (.astore_n 2, 1) := by decide +kernel
theorem dX2_stepTo_15 : decode cX2_stepTo 15 = .ok (.aload_n 2, 1) := by decide +kernel
theorem dX2_stepTo_16 : decode cX2_stepTo 16 = .ok (.ifnonnull 12, 3) := by decide +kernel
theorem dX2_stepTo_19 : decode cX2_stepTo 19 = .ok (.aload_n 0, 1) := by decide +kernel
theorem dX2_stepTo_20 : decode cX2_stepTo 20 = .ok (.sipush (-201), 3) := by decide +kernel
theorem dX2_stepTo_23 : decode cX2_stepTo 23 = .ok (.putfield 44, 3) := by decide +kernel
theorem dX2_stepTo_26 : decode cX2_stepTo 26 = .ok (.aconst_null, 1) := by decide +kernel
theorem dX2_stepTo_27 : decode cX2_stepTo 27 = .ok (.areturn, 1) := by decide +kernel
theorem dX2_stepTo_28 : decode cX2_stepTo 28 = .ok (.aload_n 0, 1) := by decide +kernel
theorem dX2_stepTo_29 : decode cX2_stepTo 29 = .ok (.getfield 41, 3) := by decide +kernel
theorem dX2_stepTo_32 : decode cX2_stepTo 32 = .ok (.bipush 120, 2) := by decide +kernel
theorem dX2_stepTo_34 : decode cX2_stepTo 34 = .ok (.if_icmp .lt 12, 3) := by decide +kernel
theorem dX2_stepTo_37 : decode cX2_stepTo 37 = .ok (.aload_n 0, 1) := by decide +kernel
theorem dX2_stepTo_38 : decode cX2_stepTo 38 = .ok (.sipush (-202), 3) := by decide +kernel
theorem dX2_stepTo_41 : decode cX2_stepTo 41 = .ok (.putfield 44, 3) := by decide +kernel
theorem dX2_stepTo_44 : decode cX2_stepTo 44 = .ok (.aconst_null, 1) := by decide +kernel
theorem dX2_stepTo_45 : decode cX2_stepTo 45 = .ok (.areturn, 1) := by decide +kernel
theorem dX2_stepTo_46 : decode cX2_stepTo 46 = .ok (.aload_n 0, 1) := by decide +kernel
theorem dX2_stepTo_47 : decode cX2_stepTo 47 = .ok (.dup, 1) := by decide +kernel
theorem dX2_stepTo_48 : decode cX2_stepTo 48 = .ok (.getfield 41, 3) := by decide +kernel
theorem dX2_stepTo_51 : decode cX2_stepTo 51 = .ok (.iconst 1, 1) := by decide +kernel
theorem dX2_stepTo_52 : decode cX2_stepTo 52 = .ok (.iadd, 1) := by decide +kernel
theorem dX2_stepTo_53 : decode cX2_stepTo 53 = .ok (.putfield 41, 3) := by decide +kernel
theorem dX2_stepTo_56 : decode cX2_stepTo 56 = .ok (.aload_n 2, 1) := by decide +kernel
theorem dX2_stepTo_57 : decode cX2_stepTo 57 = .ok (.areturn, 1) := by decide +kernel
theorem dX2_valueOfLeaf_0 : decode cX2_valueOfLeaf 0 = .ok (.aload_n 1, 1) := by decide +kernel
theorem dX2_valueOfLeaf_1 : decode cX2_valueOfLeaf 1 = .ok (.getfield 108, 3) := by decide +kernel
theorem dX2_valueOfLeaf_4 : decode cX2_valueOfLeaf 4 = .ok (.tableswitch 116 0 14 #[76, 82, 92, 98, 116, 116, 116, 116, 116, 116, 116, 116, 101, 116, 106], 76) := by decide +kernel
theorem dX2_valueOfLeaf_80 : decode cX2_valueOfLeaf 80 = .ok (.aload_n 1, 1) := by decide +kernel
theorem dX2_valueOfLeaf_81 : decode cX2_valueOfLeaf 81 = .ok (.getfield 117, 3) := by decide +kernel
theorem dX2_valueOfLeaf_84 : decode cX2_valueOfLeaf 84 = .ok (.i2l, 1) := by decide +kernel
theorem dX2_valueOfLeaf_85 : decode cX2_valueOfLeaf 85 = .ok (.lreturn, 1) := by decide +kernel
theorem dX2_valueOfLeaf_86 : decode cX2_valueOfLeaf 86 = .ok (.aload_n 0, 1) := by decide +kernel
theorem dX2_valueOfLeaf_87 : decode cX2_valueOfLeaf 87 = .ok (.aload_n 1, 1) := by decide +kernel
theorem dX2_valueOfLeaf_88 : decode cX2_valueOfLeaf 88 = .ok (.getfield 117, 3) := by decide +kernel
theorem dX2_valueOfLeaf_91 : decode cX2_valueOfLeaf 91 = .ok (.invokevirtual 151, 3) := by decide +kernel
theorem dX2_valueOfLeaf_94 : decode cX2_valueOfLeaf 94 = .ok (.i2l, 1) := by decide +kernel
theorem dX2_valueOfLeaf_95 : decode cX2_valueOfLeaf 95 = .ok (.lreturn, 1) := by decide +kernel
theorem dX2_valueOfLeaf_96 : decode cX2_valueOfLeaf 96 = .ok (.aload_n 0, 1) := by decide +kernel
theorem dX2_valueOfLeaf_97 : decode cX2_valueOfLeaf 97 = .ok (.iload_n 2, 1) := by decide +kernel
theorem dX2_valueOfLeaf_98 : decode cX2_valueOfLeaf 98 = .ok (.invokevirtual 154, 3) := by decide +kernel
theorem dX2_valueOfLeaf_101 : decode cX2_valueOfLeaf 101 = .ok (.lreturn, 1) := by decide +kernel
theorem dX2_valueOfLeaf_102 : decode cX2_valueOfLeaf 102 = .ok (.iload_n 2, 1) := by decide +kernel
theorem dX2_valueOfLeaf_103 : decode cX2_valueOfLeaf 103 = .ok (.i2l, 1) := by decide +kernel
theorem dX2_valueOfLeaf_104 : decode cX2_valueOfLeaf 104 = .ok (.lreturn, 1) := by decide +kernel
theorem dX2_valueOfLeaf_105 : decode cX2_valueOfLeaf 105 = .ok (.aload_n 1, 1) := by decide +kernel
theorem dX2_valueOfLeaf_106 : decode cX2_valueOfLeaf 106 = .ok (.getfield 82, 3) := by decide +kernel
theorem dX2_valueOfLeaf_109 : decode cX2_valueOfLeaf 109 = .ok (.lreturn, 1) := by decide +kernel
theorem dX2_valueOfLeaf_110 : decode cX2_valueOfLeaf 110 = .ok (.aload_n 0, 1) := by decide +kernel
theorem dX2_valueOfLeaf_111 : decode cX2_valueOfLeaf 111 = .ok (.aload_n 1, 1) := by decide +kernel
theorem dX2_valueOfLeaf_112 : decode cX2_valueOfLeaf 112 = .ok (.getfield 117, 3) := by decide +kernel
theorem dX2_valueOfLeaf_115 : decode cX2_valueOfLeaf 115 = .ok (.invokevirtual 158, 3) := by decide +kernel
theorem dX2_valueOfLeaf_118 : decode cX2_valueOfLeaf 118 = .ok (.i2l, 1) := by decide +kernel
theorem dX2_valueOfLeaf_119 : decode cX2_valueOfLeaf 119 = .ok (.lreturn, 1) := by decide +kernel
theorem dX2_valueOfLeaf_120 : decode cX2_valueOfLeaf 120 = .ok (.lconst 0, 1) := by decide +kernel
theorem dX2_valueOfLeaf_121 : decode cX2_valueOfLeaf 121 = .ok (.lreturn, 1) := by decide +kernel
theorem dX2_tide_0 : decode cX2_tide 0 = .ok (.iload_n 1, 1) := by decide +kernel
theorem dX2_tide_1 : decode cX2_tide 1 = .ok (.i2l, 1) := by decide +kernel
theorem dX2_tide_2 : decode cX2_tide 2 = .ok (.aload_n 0, 1) := by decide +kernel
theorem dX2_tide_3 : decode cX2_tide 3 = .ok (.getfield 17, 3) := by decide +kernel
theorem dX2_tide_6 : decode cX2_tide 6 = .ok (.i2l, 1) := by decide +kernel
theorem dX2_tide_7 : decode cX2_tide 7 = .ok (.lmul, 1) := by decide +kernel
theorem dX2_tide_8 : decode cX2_tide 8 = .ok (.ldc2_w 161, 3) := by decide +kernel
theorem dX2_tide_11 : decode cX2_tide 11 = .ok (.invokestatic 163, 3) := by decide +kernel
theorem dX2_tide_14 : decode cX2_tide 14 = .ok (.lstore_n 2, 1) := by decide +kernel
theorem dX2_tide_15 : decode cX2_tide 15 = .ok (.ldc2_w 166, 3) := by decide +kernel
theorem dX2_tide_18 : decode cX2_tide 18 = .ok (.lload_n 2, 1) := by decide +kernel
theorem dX2_tide_19 : decode cX2_tide 19 = .ok (.ldc2_w 166, 3) := by decide +kernel
theorem dX2_tide_22 : decode cX2_tide 22 = .ok (.lsub, 1) := by decide +kernel
theorem dX2_tide_23 : decode cX2_tide 23 = .ok (.invokestatic 168, 3) := by decide +kernel
theorem dX2_tide_26 : decode cX2_tide 26 = .ok (.lsub, 1) := by decide +kernel
theorem dX2_tide_27 : decode cX2_tide 27 = .ok (.lreturn, 1) := by decide +kernel
theorem dX2_scaled_0 : decode cX2_scaled 0 = .ok (.iload_n 3, 1) := by decide +kernel
theorem dX2_scaled_1 : decode cX2_scaled 1 = .ok (.iconst 1, 1) := by decide +kernel
theorem dX2_scaled_2 : decode cX2_scaled 2 = .ok (.if_icmp .ge 7, 3) := by decide +kernel
theorem dX2_scaled_5 : decode cX2_scaled 5 = .ok (.lconst 0, 1) := by decide +kernel
theorem dX2_scaled_6 : decode cX2_scaled 6 = .ok (.goto 12, 3) := by decide +kernel
theorem dX2_scaled_9 : decode cX2_scaled 9 = .ok (.lload_n 0, 1) := by decide +kernel
theorem dX2_scaled_10 : decode cX2_scaled 10 = .ok (.iload_n 2, 1) := by decide +kernel
theorem dX2_scaled_11 : decode cX2_scaled 11 = .ok (.i2l, 1) := by decide +kernel
theorem dX2_scaled_12 : decode cX2_scaled 12 = .ok (.lmul, 1) := by decide +kernel
theorem dX2_scaled_13 : decode cX2_scaled 13 = .ok (.iload_n 3, 1) := by decide +kernel
theorem dX2_scaled_14 : decode cX2_scaled 14 = .ok (.i2l, 1) := by decide +kernel
theorem dX2_scaled_15 : decode cX2_scaled 15 = .ok (.invokestatic 172, 3) := by decide +kernel
theorem dX2_scaled_18 : decode cX2_scaled 18 = .ok (.lreturn, 1) := by decide +kernel
theorem dX2_banded_0 : decode cX2_banded 0 = .ok (.lload_n 0, 1) := by decide +kernel
theorem dX2_banded_1 : decode cX2_banded 1 = .ok (.aload_n 2, 1) := by decide +kernel
theorem dX2_banded_2 : decode cX2_banded 2 = .ok (.getfield 175, 3) := by decide +kernel
theorem dX2_banded_5 : decode cX2_banded 5 = .ok (.i2l, 1) := by decide +kernel
theorem dX2_banded_6 : decode cX2_banded 6 = .ok (.lcmp, 1) := by decide +kernel
theorem dX2_banded_7 : decode cX2_banded 7 = .ok (.ifCond .ge 9, 3) := by decide +kernel
theorem dX2_banded_10 : decode cX2_banded 10 = .ok (.aload_n 2, 1) := by decide +kernel
theorem dX2_banded_11 : decode cX2_banded 11 = .ok (.getfield 120, 3) := by decide +kernel
theorem dX2_banded_14 : decode cX2_banded 14 = .ok (.i2l, 1) := by decide +kernel
theorem dX2_banded_15 : decode cX2_banded 15 = .ok (.lreturn, 1) := by decide +kernel
theorem dX2_banded_16 : decode cX2_banded 16 = .ok (.lload_n 0, 1) := by decide +kernel
theorem dX2_banded_17 : decode cX2_banded 17 = .ok (.aload_n 2, 1) := by decide +kernel
theorem dX2_banded_18 : decode cX2_banded 18 = .ok (.getfield 178, 3) := by decide +kernel
theorem dX2_banded_21 : decode cX2_banded 21 = .ok (.i2l, 1) := by decide +kernel
theorem dX2_banded_22 : decode cX2_banded 22 = .ok (.lcmp, 1) := by decide +kernel
theorem dX2_banded_23 : decode cX2_banded 23 = .ok (.ifCond .le 11, 3) := by decide +kernel
theorem dX2_banded_26 : decode cX2_banded 26 = .ok (.aload_n 2, 1) := by decide +kernel
theorem dX2_banded_27 : decode cX2_banded 27 = .ok (.getfield 132, 3) := by decide +kernel
theorem dX2_banded_30 : decode cX2_banded 30 = .ok (.i2l, 1) := by decide +kernel
theorem dX2_banded_31 : decode cX2_banded 31 = .ok (.goto 4, 3) := by decide +kernel
theorem dX2_banded_34 : decode cX2_banded 34 = .ok (.lload_n 0, 1) := by decide +kernel
theorem dX2_banded_35 : decode cX2_banded 35 = .ok (.lreturn, 1) := by decide +kernel
theorem dX2_goesWhole_0 : decode cX2_goesWhole 0 = .ok (.iconst 0, 1) := by decide +kernel
theorem dX2_goesWhole_1 : decode cX2_goesWhole 1 = .ok (.istore_n 2, 1) := by decide +kernel
theorem dX2_goesWhole_2 : decode cX2_goesWhole 2 = .ok (.iload_n 2, 1) := by decide +kernel
theorem dX2_goesWhole_3 : decode cX2_goesWhole 3 = .ok (.aload_n 0, 1) := by decide +kernel
theorem dX2_goesWhole_4 : decode cX2_goesWhole 4 = .ok (.getfield 34, 3) := by decide +kernel
theorem dX2_goesWhole_7 : decode cX2_goesWhole 7 = .ok (.arraylength, 1) := by decide +kernel
theorem dX2_goesWhole_8 : decode cX2_goesWhole 8 = .ok (.if_icmp .ge 69, 3) := by decide +kernel
theorem dX2_goesWhole_11 : decode cX2_goesWhole 11 = .ok (.aload_n 0, 1) := by decide +kernel
theorem dX2_goesWhole_12 : decode cX2_goesWhole 12 = .ok (.getfield 34, 3) := by decide +kernel
theorem dX2_goesWhole_15 : decode cX2_goesWhole 15 = .ok (.iload_n 2, 1) := by decide +kernel
theorem dX2_goesWhole_16 : decode cX2_goesWhole 16 = .ok (.aaload, 1) := by decide +kernel
theorem dX2_goesWhole_17 : decode cX2_goesWhole 17 = .ok (.ifnull 60, 3) := by decide +kernel
theorem dX2_goesWhole_20 : decode cX2_goesWhole 20 = .ok (.aload_n 0, 1) := by decide +kernel
theorem dX2_goesWhole_21 : decode cX2_goesWhole 21 = .ok (.getfield 34, 3) := by decide +kernel
theorem dX2_goesWhole_24 : decode cX2_goesWhole 24 = .ok (.iload_n 2, 1) := by decide +kernel
theorem dX2_goesWhole_25 : decode cX2_goesWhole 25 = .ok (.aaload, 1) := by decide +kernel
theorem dX2_goesWhole_26 : decode cX2_goesWhole 26 = .ok (.astore_n 3, 1) := by decide +kernel
theorem dX2_goesWhole_27 : decode cX2_goesWhole 27 = .ok (.aload_n 0, 1) := by decide +kernel
theorem dX2_goesWhole_28 : decode cX2_goesWhole 28 = .ok (.aload_n 3, 1) := by decide +kernel
theorem dX2_goesWhole_29 : decode cX2_goesWhole 29 = .ok (.getfield 181, 3) := by decide +kernel
theorem dX2_goesWhole_32 : decode cX2_goesWhole 32 = .ok (.iload_n 1, 1) := by decide +kernel
theorem dX2_goesWhole_33 : decode cX2_goesWhole 33 = .ok (.invokevirtual 75, 3) := by decide +kernel
theorem dX2_goesWhole_36 : decode cX2_goesWhole 36 = .ok (.lstore 4, 2) := by decide +kernel
theorem dX2_goesWhole_38 : decode cX2_goesWhole 38 = .ok (.aload_n 0, 1) := by decide +kernel
theorem dX2_goesWhole_39 : decode cX2_goesWhole 39 = .ok (.getfield 44, 3) := by decide +kernel
theorem dX2_goesWhole_42 : decode cX2_goesWhole 42 = .ok (.ifCond .eq 18, 3) := by decide +kernel
theorem dX2_goesWhole_45 : decode cX2_goesWhole 45 = .ok (.aload_n 0, 1) := by decide +kernel
theorem dX2_goesWhole_46 : decode cX2_goesWhole 46 = .ok (.iload_n 2, 1) := by decide +kernel
theorem dX2_goesWhole_47 : decode cX2_goesWhole 47 = .ok (.putfield 51, 3) := by decide +kernel
theorem dX2_goesWhole_50 : decode cX2_goesWhole 50 = .ok (.aload_n 0, 1) := by decide +kernel
theorem dX2_goesWhole_51 : decode cX2_goesWhole 51 = .ok (.aload_n 0, 1) := by decide +kernel
theorem dX2_goesWhole_52 : decode cX2_goesWhole 52 = .ok (.getfield 44, 3) := by decide +kernel
theorem dX2_goesWhole_55 : decode cX2_goesWhole 55 = .ok (.putfield 54, 3) := by decide +kernel
theorem dX2_goesWhole_58 : decode cX2_goesWhole 58 = .ok (.iconst 0, 1) := by decide +kernel
theorem dX2_goesWhole_59 : decode cX2_goesWhole 59 = .ok (.ireturn, 1) := by decide +kernel
theorem dX2_goesWhole_60 : decode cX2_goesWhole 60 = .ok (.aload_n 0, 1) := by decide +kernel
theorem dX2_goesWhole_61 : decode cX2_goesWhole 61 = .ok (.aload_n 0, 1) := by decide +kernel
theorem dX2_goesWhole_62 : decode cX2_goesWhole 62 = .ok (.aload_n 3, 1) := by decide +kernel
theorem dX2_goesWhole_63 : decode cX2_goesWhole 63 = .ok (.lload 4, 2) := by decide +kernel
theorem dX2_goesWhole_65 : decode cX2_goesWhole 65 = .ok (.invokevirtual 184, 3) := by decide +kernel
theorem dX2_goesWhole_68 : decode cX2_goesWhole 68 = .ok (.putfield 57, 3) := by decide +kernel
theorem dX2_goesWhole_71 : decode cX2_goesWhole 71 = .ok (.iinc 2 1, 3) := by decide +kernel
theorem dX2_goesWhole_74 : decode cX2_goesWhole 74 = .ok (.goto (-72), 3) := by decide +kernel
theorem dX2_goesWhole_77 : decode cX2_goesWhole 77 = .ok (.iconst 1, 1) := by decide +kernel
theorem dX2_goesWhole_78 : decode cX2_goesWhole 78 = .ok (.ireturn, 1) := by decide +kernel
theorem dX2_letOver_0 : decode cX2_letOver 0 = .ok (.aload_n 0, 1) := by decide +kernel
theorem dX2_letOver_1 : decode cX2_letOver 1 = .ok (.aload_n 1, 1) := by decide +kernel
theorem dX2_letOver_2 : decode cX2_letOver 2 = .ok (.getfield 188, 3) := by decide +kernel
theorem dX2_letOver_5 : decode cX2_letOver 5 = .ok (.invokevirtual 151, 3) := by decide +kernel
theorem dX2_letOver_8 : decode cX2_letOver 8 = .ok (.istore 4, 2) := by decide +kernel
theorem dX2_letOver_10 : decode cX2_letOver 10 = .ok (.ldc 107, 2) := by decide +kernel
theorem dX2_letOver_12 : decode cX2_letOver 12 = .ok (.aload_n 0, 1) := by decide +kernel
theorem dX2_letOver_13 : decode cX2_letOver 13 = .ok (.aload_n 1, 1) := by decide +kernel
theorem dX2_letOver_14 : decode cX2_letOver 14 = .ok (.getfield 191, 3) := by decide +kernel
theorem dX2_letOver_17 : decode cX2_letOver 17 = .ok (.invokevirtual 151, 3) := by decide +kernel
theorem dX2_letOver_20 : decode cX2_letOver 20 = .ok (.isub, 1) := by decide +kernel
theorem dX2_letOver_21 : decode cX2_letOver 21 = .ok (.istore 5, 2) := by decide +kernel
theorem dX2_letOver_23 : decode cX2_letOver 23 = .ok (.lconst 0, 1) := by decide +kernel
theorem dX2_letOver_24 : decode cX2_letOver 24 = .ok (.lload_n 2, 1) := by decide +kernel
theorem dX2_letOver_25 : decode cX2_letOver 25 = .ok (.iload 4, 2) := by decide +kernel
theorem dX2_letOver_27 : decode cX2_letOver 27 = .ok (.iload 5, 2) := by decide +kernel
theorem dX2_letOver_29 : decode cX2_letOver 29 = .ok (.invokestatic 194, 3) := by decide +kernel
theorem dX2_letOver_32 : decode cX2_letOver 32 = .ok (.i2l, 1) := by decide +kernel
theorem dX2_letOver_33 : decode cX2_letOver 33 = .ok (.invokestatic 123, 3) := by decide +kernel
theorem dX2_letOver_36 : decode cX2_letOver 36 = .ok (.invokestatic 129, 3) := by decide +kernel
theorem dX2_letOver_39 : decode cX2_letOver 39 = .ok (.l2i, 1) := by decide +kernel
theorem dX2_letOver_40 : decode cX2_letOver 40 = .ok (.istore 6, 2) := by decide +kernel
theorem dX2_letOver_42 : decode cX2_letOver 42 = .ok (.aload_n 0, 1) := by decide +kernel
theorem dX2_letOver_43 : decode cX2_letOver 43 = .ok (.aload_n 1, 1) := by decide +kernel
theorem dX2_letOver_44 : decode cX2_letOver 44 = .ok (.getfield 188, 3) := by decide +kernel
theorem dX2_letOver_47 : decode cX2_letOver 47 = .ok (.iload 4, 2) := by decide +kernel
theorem dX2_letOver_49 : decode cX2_letOver 49 = .ok (.iload 6, 2) := by decide +kernel
theorem dX2_letOver_51 : decode cX2_letOver 51 = .ok (.isub, 1) := by decide +kernel
theorem dX2_letOver_52 : decode cX2_letOver 52 = .ok (.invokevirtual 197, 3) := by decide +kernel
theorem dX2_letOver_55 : decode cX2_letOver 55 = .ok (.pop, 1) := by decide +kernel
theorem dX2_letOver_56 : decode cX2_letOver 56 = .ok (.aload_n 0, 1) := by decide +kernel
theorem dX2_letOver_57 : decode cX2_letOver 57 = .ok (.aload_n 1, 1) := by decide +kernel
theorem dX2_letOver_58 : decode cX2_letOver 58 = .ok (.getfield 191, 3) := by decide +kernel
theorem dX2_letOver_61 : decode cX2_letOver 61 = .ok (.aload_n 0, 1) := by decide +kernel
theorem dX2_letOver_62 : decode cX2_letOver 62 = .ok (.aload_n 1, 1) := by decide +kernel
theorem dX2_letOver_63 : decode cX2_letOver 63 = .ok (.getfield 191, 3) := by decide +kernel
theorem dX2_letOver_66 : decode cX2_letOver 66 = .ok (.invokevirtual 151, 3) := by decide +kernel
theorem dX2_letOver_69 : decode cX2_letOver 69 = .ok (.iload 6, 2) := by decide +kernel
theorem dX2_letOver_71 : decode cX2_letOver 71 = .ok (.iadd, 1) := by decide +kernel
theorem dX2_letOver_72 : decode cX2_letOver 72 = .ok (.invokevirtual 197, 3) := by decide +kernel
theorem dX2_letOver_75 : decode cX2_letOver 75 = .ok (.pop, 1) := by decide +kernel
theorem dX2_letOver_76 : decode cX2_letOver 76 = .ok (.iload 6, 2) := by decide +kernel
theorem dX2_letOver_78 : decode cX2_letOver 78 = .ok (.ireturn, 1) := by decide +kernel
