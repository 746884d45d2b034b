theorem dX3_init_0 : decode cX3_init 0 = .ok (.aload_n 0, 1) := by decide +kernel
theorem dX3_init_1 : decode cX3_init 1 = .ok (.invokespecial 1, 3) := by decide +kernel
theorem dX3_init_4 : decode cX3_init 4 = .ok (.aload_n 0, 1) := by decide +kernel
theorem dX3_init_5 : decode cX3_init 5 = .ok (.bipush 8, 2) := by decide +kernel
theorem dX3_init_7 : decode cX3_init 7 = .ok (.newarray .int, 2) := by decide +kernel
theorem dX3_init_9 : decode cX3_init 9 = .ok (.putfield 7, 3) := by decide +kernel
theorem dX3_init_12 : decode cX3_init 12 = .ok (.aload_n 0, 1) := by decide +kernel
theorem dX3_init_13 : decode cX3_init 13 = .ok (.iconst 1, 1) := by decide +kernel
theorem dX3_init_14 : decode cX3_init 14 = .ok (.putfield 13, 3) := by decide +kernel
theorem dX3_init_17 : decode cX3_init 17 = .ok (.aload_n 0, 1) := by decide +kernel
theorem dX3_init_18 : decode cX3_init 18 = .ok (.bipush 8, 2) := by decide +kernel
theorem dX3_init_20 : decode cX3_init 20 = .ok (.newarray .int, 2) := by decide +kernel
theorem dX3_init_22 : decode cX3_init 22 = .ok (.putfield 17, 3) := by decide +kernel
theorem dX3_init_25 : decode cX3_init 25 = .ok (.aload_n 0, 1) := by decide +kernel
theorem dX3_init_26 : decode cX3_init 26 = .ok (.bipush 40, 2) := by decide +kernel
theorem dX3_init_28 : decode cX3_init 28 = .ok (.newarray .int, 2) := by decide +kernel
theorem dX3_init_30 : decode cX3_init 30 = .ok (.putfield 20, 3) := by decide +kernel
theorem dX3_init_33 : decode cX3_init 33 = .ok (.aload_n 0, 1) := by decide +kernel
theorem dX3_init_34 : decode cX3_init 34 = .ok (.sipush 200, 3) := by decide +kernel
theorem dX3_init_37 : decode cX3_init 37 = .ok (.newarray .int, 2) := by decide +kernel
theorem dX3_init_39 : decode cX3_init 39 = .ok (.putfield 23, 3) := by decide +kernel
theorem dX3_init_42 : decode cX3_init 42 = .ok (.aload_n 0, 1) := by decide +kernel
theorem dX3_init_43 : decode cX3_init 43 = .ok (.bipush 40, 2) := by decide +kernel
theorem dX3_init_45 : decode cX3_init 45 = .ok (.newarray .long, 2) := by decide +kernel
theorem dX3_init_47 : decode cX3_init 47 = .ok (.putfield 26, 3) := by decide +kernel
theorem dX3_init_50 : decode cX3_init 50 = .ok (.aload_n 0, 1) := by decide +kernel
theorem dX3_init_51 : decode cX3_init 51 = .ok (.bipush 40, 2) := by decide +kernel
theorem dX3_init_53 : decode cX3_init 53 = .ok (.newarray .int, 2) := by decide +kernel
theorem dX3_init_55 : decode cX3_init 55 = .ok (.putfield 30, 3) := by decide +kernel
theorem dX3_init_58 : decode cX3_init 58 = .ok (.aload_n 0, 1) := by decide +kernel
theorem dX3_init_59 : decode cX3_init 59 = .ok (.bipush 8, 2) := by decide +kernel
theorem dX3_init_61 : decode cX3_init 61 = .ok (.newarray .int, 2) := by decide +kernel
theorem dX3_init_63 : decode cX3_init 63 = .ok (.putfield 33, 3) := by decide +kernel
theorem dX3_init_66 : decode cX3_init 66 = .ok (.aload_n 0, 1) := by decide +kernel
theorem dX3_init_67 : decode cX3_init 67 = .ok (.bipush 8, 2) := by decide +kernel
theorem dX3_init_69 : decode cX3_init 69 = .ok (.newarray .int, 2) := by decide +kernel
theorem dX3_init_71 : decode cX3_init 71 = .ok (.putfield 36, 3) := by decide +kernel
theorem dX3_init_74 : decode cX3_init 74 = .ok (.aload_n 0, 1) := by decide +kernel
theorem dX3_init_75 : decode cX3_init 75 = .ok (.bipush 8, 2) := by decide +kernel
theorem dX3_init_77 : decode cX3_init 77 = .ok (.newarray .int, 2) := by decide +kernel
theorem dX3_init_79 : decode cX3_init 79 = .ok (.putfield 39, 3) := by decide +kernel
theorem dX3_init_82 : decode cX3_init 82 = .ok (.aload_n 0, 1) := by decide +kernel
theorem dX3_init_83 : decode cX3_init 83 = .ok (.bipush 120, 2) := by decide +kernel
theorem dX3_init_85 : decode cX3_init 85 = .ok (.newarray .int, 2) := by decide +kernel
theorem dX3_init_87 : decode cX3_init 87 = .ok (.putfield 42, 3) := by decide +kernel
theorem dX3_init_90 : decode cX3_init 90 = .ok (.aload_n 0, 1) := by decide +kernel
theorem dX3_init_91 : decode cX3_init 91 = .ok (.bipush 120, 2) := by decide +kernel
theorem dX3_init_93 : decode cX3_init 93 = .ok (.newarray .int, 2) := by decide +kernel
theorem dX3_init_95 : decode cX3_init 95 = .ok (.putfield 45, 3) := by decide +kernel
theorem dX3_init_98 : decode cX3_init 98 = .ok (.aload_n 0, 1) := by decide +kernel
theorem dX3_init_99 : decode cX3_init 99 = .ok (.bipush 120, 2) := by decide +kernel
theorem dX3_init_101 : decode cX3_init 101 = .ok (.newarray .int, 2) := by decide +kernel
theorem dX3_init_103 : decode cX3_init 103 = .ok (.putfield 48, 3) := by decide +kernel
theorem dX3_init_106 : decode cX3_init 106 = .ok (.aload_n 0, 1) := by decide +kernel
theorem dX3_init_107 : decode cX3_init 107 = .ok (.bipush 120, 2) := by decide +kernel
theorem dX3_init_109 : decode cX3_init 109 = .ok (.newarray .long, 2) := by decide +kernel
theorem dX3_init_111 : decode cX3_init 111 = .ok (.putfield 51, 3) := by decide +kernel
theorem dX3_init_114 : decode cX3_init 114 = .ok (.aload_n 0, 1) := by decide +kernel
theorem dX3_init_115 : decode cX3_init 115 = .ok (.iconst (-1), 1) := by decide +kernel
theorem dX3_init_116 : decode cX3_init 116 = .ok (.putfield 54, 3) := by decide +kernel
theorem dX3_init_119 : decode cX3_init 119 = .ok (.iconst 0, 1) := by decide +kernel
theorem dX3_init_120 : decode cX3_init 120 = .ok (.istore_n 1, 1) := by decide +kernel
theorem dX3_init_121 : decode cX3_init 121 = .ok (.iload_n 1, 1) := by decide +kernel
theorem dX3_init_122 : decode cX3_init 122 = .ok (.bipush 8, 2) := by decide +kernel
theorem dX3_init_124 : decode cX3_init 124 = .ok (.if_icmp .ge 16, 3) := by decide +kernel
theorem dX3_init_127 : decode cX3_init 127 = .ok (.aload_n 0, 1) := by decide +kernel
theorem dX3_init_128 : decode cX3_init 128 = .ok (.getfield 17, 3) := by decide +kernel
theorem dX3_init_131 : decode cX3_init 131 = .ok (.iload_n 1, 1) := by decide +kernel
theorem dX3_init_132 : decode cX3_init 132 = .ok (.iconst (-1), 1) := by decide +kernel
theorem dX3_init_133 : decode cX3_init 133 = .ok (.iastore, 1) := by decide +kernel
theorem dX3_init_134 : decode cX3_init 134 = .ok (.iinc 1 1, 3) := by decide +kernel
theorem dX3_init_137 : decode cX3_init 137 = .ok (.goto (-16), 3) := by decide +kernel
theorem dX3_init_140 : decode cX3_init 140 = .ok (.return_, 1) := by decide +kernel
theorem dX3_in_0 : decode cX3_in 0 = .ok (.iload_n 0, 1) := by decide +kernel
theorem dX3_in_1 : decode cX3_in 1 = .ok (.iload_n 1, 1) := by decide +kernel
theorem dX3_in_2 : decode cX3_in 2 = .ok (.if_icmp .lt 12, 3) := by decide +kernel
theorem dX3_in_5 : decode cX3_in 5 = .ok (.iload_n 0, 1) := by decide +kernel
theorem dX3_in_6 : decode cX3_in 6 = .ok (.iload_n 2, 1) := by decide +kernel
theorem dX3_in_7 : decode cX3_in 7 = .ok (.if_icmp .gt 7, 3) := by decide +kernel
theorem dX3_in_10 : decode cX3_in 10 = .ok (.iconst 1, 1) := by decide +kernel
theorem dX3_in_11 : decode cX3_in 11 = .ok (.goto 4, 3) := by decide +kernel
theorem dX3_in_14 : decode cX3_in 14 = .ok (.iconst 0, 1) := by decide +kernel
theorem dX3_in_15 : decode cX3_in 15 = .ok (.ireturn, 1) := by decide +kernel
theorem dX3_isBasin_0 : decode cX3_isBasin 0 = .ok (.iload_n 1, 1) := by decide +kernel
theorem dX3_isBasin_1 : decode cX3_isBasin 1 = .ok (.iconst 0, 1) := by decide +kernel
theorem dX3_isBasin_2 : decode cX3_isBasin 2 = .ok (.aload_n 0, 1) := by decide +kernel
theorem dX3_isBasin_3 : decode cX3_isBasin 3 = .ok (.getfield 57, 3) := by decide +kernel
theorem dX3_isBasin_6 : decode cX3_isBasin 6 = .ok (.iconst 1, 1) := by decide +kernel
theorem dX3_isBasin_7 : decode cX3_isBasin 7 = .ok (.isub, 1) := by decide +kernel
theorem dX3_isBasin_8 : decode cX3_isBasin 8 = .ok (.invokestatic 60, 3) := by decide +kernel
theorem dX3_isBasin_11 : decode cX3_isBasin 11 = .ok (.ireturn, 1) := by decide +kernel
theorem dX3_isRule_0 : decode cX3_isRule 0 = .ok (.iload_n 1, 1) := by decide +kernel
theorem dX3_isRule_1 : decode cX3_isRule 1 = .ok (.iconst 0, 1) := by decide +kernel
theorem dX3_isRule_2 : decode cX3_isRule 2 = .ok (.aload_n 0, 1) := by decide +kernel
theorem dX3_isRule_3 : decode cX3_isRule 3 = .ok (.getfield 64, 3) := by decide +kernel
theorem dX3_isRule_6 : decode cX3_isRule 6 = .ok (.iconst 1, 1) := by decide +kernel
theorem dX3_isRule_7 : decode cX3_isRule 7 = .ok (.isub, 1) := by decide +kernel
theorem dX3_isRule_8 : decode cX3_isRule 8 = .ok (.invokestatic 60, 3) := by decide +kernel
theorem dX3_isRule_11 : decode cX3_isRule 11 = .ok (.ireturn, 1) := by decide +kernel
theorem dX3_isPart_0 : decode cX3_isPart 0 = .ok (.iload_n 1, 1) := by decide +kernel
theorem dX3_isPart_1 : decode cX3_isPart 1 = .ok (.iconst (-1), 1) := by decide +kernel
theorem dX3_isPart_2 : decode cX3_isPart 2 = .ok (.if_icmp .eq 11, 3) := by decide +kernel
theorem dX3_isPart_5 : decode cX3_isPart 5 = .ok (.aload_n 0, 1) := by decide +kernel
theorem dX3_isPart_6 : decode cX3_isPart 6 = .ok (.iload_n 1, 1) := by decide +kernel
theorem dX3_isPart_7 : decode cX3_isPart 7 = .ok (.invokevirtual 67, 3) := by decide +kernel
theorem dX3_isPart_10 : decode cX3_isPart 10 = .ok (.ifCond .eq 7, 3) := by decide +kernel
theorem dX3_isPart_13 : decode cX3_isPart 13 = .ok (.iconst 1, 1) := by decide +kernel
theorem dX3_isPart_14 : decode cX3_isPart 14 = .ok (.goto 4, 3) := by decide +kernel
theorem dX3_isPart_17 : decode cX3_isPart 17 = .ok (.iconst 0, 1) := by decide +kernel
theorem dX3_isPart_18 : decode cX3_isPart 18 = .ok (.ireturn, 1) := by decide +kernel
theorem dX3_isSlot_0 : decode cX3_isSlot 0 = .ok (.iload_n 0, 1) := by decide +kernel
theorem dX3_isSlot_1 : decode cX3_isSlot 1 = .ok (.iconst 0, 1) := by decide +kernel
theorem dX3_isSlot_2 : decode cX3_isSlot 2 = .ok (.bipush 7, 2) := by decide +kernel
theorem dX3_isSlot_4 : decode cX3_isSlot 4 = .ok (.invokestatic 60, 3) := by decide +kernel
theorem dX3_isSlot_7 : decode cX3_isSlot 7 = .ok (.ireturn, 1) := by decide +kernel
theorem dX3_basin_0 : decode cX3_basin 0 = .ok (.iload_n 1, 1) := by decide +kernel
theorem dX3_basin_1 : decode cX3_basin 1 = .ok (.iconst 0, 1) := by decide +kernel
theorem dX3_basin_2 : decode cX3_basin 2 = .ok (.ldc 71, 2) := by decide +kernel
theorem dX3_basin_4 : decode cX3_basin 4 = .ok (.invokestatic 60, 3) := by decide +kernel
theorem dX3_basin_7 : decode cX3_basin 7 = .ok (.ifCond .ne 6, 3) := by decide +kernel
theorem dX3_basin_10 : decode cX3_basin 10 = .ok (.bipush (-102), 2) := by decide +kernel
theorem dX3_basin_12 : decode cX3_basin 12 = .ok (.ireturn, 1) := by decide +kernel
theorem dX3_basin_13 : decode cX3_basin 13 = .ok (.aload_n 0, 1) := by decide +kernel
theorem dX3_basin_14 : decode cX3_basin 14 = .ok (.getfield 57, 3) := by decide +kernel
theorem dX3_basin_17 : decode cX3_basin 17 = .ok (.bipush 8, 2) := by decide +kernel
theorem dX3_basin_19 : decode cX3_basin 19 = .ok (.if_icmp .ne 6, 3) := by decide +kernel
theorem dX3_basin_22 : decode cX3_basin 22 = .ok (.bipush (-103), 2) := by decide +kernel
theorem dX3_basin_24 : decode cX3_basin 24 = .ok (.ireturn, 1) := by decide +kernel
theorem dX3_basin_25 : decode cX3_basin 25 = .ok (.aload_n 0, 1) := by decide +kernel
theorem dX3_basin_26 : decode cX3_basin 26 = .ok (.getfield 7, 3) := by decide +kernel
theorem dX3_basin_29 : decode cX3_basin 29 = .ok (.aload_n 0, 1) := by decide +kernel
theorem dX3_basin_30 : decode cX3_basin 30 = .ok (.getfield 57, 3) := by decide +kernel
theorem dX3_basin_33 : decode cX3_basin 33 = .ok (.iload_n 1, 1) := by decide +kernel
theorem dX3_basin_34 : decode cX3_basin 34 = .ok (.iastore, 1) := by decide +kernel
theorem dX3_basin_35 : decode cX3_basin 35 = .ok (.aload_n 0, 1) := by decide +kernel
theorem dX3_basin_36 : decode cX3_basin 36 = .ok (.dup, 1) := by decide +kernel
theorem dX3_basin_37 : decode cX3_basin 37 = .ok (.getfield 57, 3) := by decide +kernel
theorem dX3_basin_40 : decode cX3_basin 40 = .ok (.iconst 1, 1) := by decide +kernel
theorem dX3_basin_41 : decode cX3_basin 41 = .ok (.iadd, 1) := by decide +kernel
theorem dX3_basin_42 : decode cX3_basin 42 = .ok (.putfield 57, 3) := by decide +kernel
theorem dX3_basin_45 : decode cX3_basin 45 = .ok (.aload_n 0, 1) := by decide +kernel
theorem dX3_basin_46 : decode cX3_basin 46 = .ok (.getfield 57, 3) := by decide +kernel
theorem dX3_basin_49 : decode cX3_basin 49 = .ok (.iconst 1, 1) := by decide +kernel
theorem dX3_basin_50 : decode cX3_basin 50 = .ok (.isub, 1) := by decide +kernel
theorem dX3_basin_51 : decode cX3_basin 51 = .ok (.ireturn, 1) := by decide +kernel
theorem dX3_fill_0 : decode cX3_fill 0 = .ok (.aload_n 0, 1) := by decide +kernel
theorem dX3_fill_1 : decode cX3_fill 1 = .ok (.iload_n 1, 1) := by decide +kernel
theorem dX3_fill_2 : decode cX3_fill 2 = .ok (.invokevirtual 72, 3) := by decide +kernel
theorem dX3_fill_5 : decode cX3_fill 5 = .ok (.ifCond .ne 6, 3) := by decide +kernel
theorem dX3_fill_8 : decode cX3_fill 8 = .ok (.bipush (-101), 2) := by decide +kernel
theorem dX3_fill_10 : decode cX3_fill 10 = .ok (.ireturn, 1) := by decide +kernel
theorem dX3_fill_11 : decode cX3_fill 11 = .ok (.iload_n 2, 1) := by decide +kernel
theorem dX3_fill_12 : decode cX3_fill 12 = .ok (.iconst 0, 1) := by decide +kernel
theorem dX3_fill_13 : decode cX3_fill 13 = .ok (.ldc 71, 2) := by decide +kernel
theorem dX3_fill_15 : decode cX3_fill 15 = .ok (.invokestatic 60, 3) := by decide +kernel
theorem dX3_fill_18 : decode cX3_fill 18 = .ok (.ifCond .ne 6, 3) := by decide +kernel
theorem dX3_fill_21 : decode cX3_fill 21 = .ok (.bipush (-102), 2) := by decide +kernel
theorem dX3_fill_23 : decode cX3_fill 23 = .ok (.ireturn, 1) := by decide +kernel
theorem dX3_fill_24 : decode cX3_fill 24 = .ok (.aload_n 0, 1) := by decide +kernel
theorem dX3_fill_25 : decode cX3_fill 25 = .ok (.getfield 7, 3) := by decide +kernel
theorem dX3_fill_28 : decode cX3_fill 28 = .ok (.iload_n 1, 1) := by decide +kernel
theorem dX3_fill_29 : decode cX3_fill 29 = .ok (.iaload, 1) := by decide +kernel
theorem dX3_fill_30 : decode cX3_fill 30 = .ok (.istore_n 3, 1) := by decide +kernel
theorem dX3_fill_31 : decode cX3_fill 31 = .ok (.aload_n 0, 1) := by decide +kernel
theorem dX3_fill_32 : decode cX3_fill 32 = .ok (.getfield 7, 3) := by decide +kernel
theorem dX3_fill_35 : decode cX3_fill 35 = .ok (.iload_n 1, 1) := by decide +kernel
theorem dX3_fill_36 : decode cX3_fill 36 = .ok (.iload_n 2, 1) := by decide +kernel
theorem dX3_fill_37 : decode cX3_fill 37 = .ok (.iastore, 1) := by decide +kernel
theorem dX3_fill_38 : decode cX3_fill 38 = .ok (.iload_n 3, 1) := by decide +kernel
theorem dX3_fill_39 : decode cX3_fill 39 = .ok (.ireturn, 1) := by decide +kernel
theorem dX3_moon_0 : decode cX3_moon 0 = .ok (.iload_n 1, 1) := by decide +kernel
theorem dX3_moon_1 : decode cX3_moon 1 = .ok (.iconst 0, 1) := by decide +kernel
theorem dX3_moon_2 : decode cX3_moon 2 = .ok (.bipush 11, 2) := by decide +kernel
theorem dX3_moon_4 : decode cX3_moon 4 = .ok (.invokestatic 60, 3) := by decide +kernel
theorem dX3_moon_7 : decode cX3_moon 7 = .ok (.ifCond .ne 6, 3) := by decide +kernel
theorem dX3_moon_10 : decode cX3_moon 10 = .ok (.bipush (-102), 2) := by decide +kernel
theorem dX3_moon_12 : decode cX3_moon 12 = .ok (.ireturn, 1) := by decide +kernel
theorem dX3_moon_13 : decode cX3_moon 13 = .ok (.aload_n 0, 1) := by decide +kernel
theorem dX3_moon_14 : decode cX3_moon 14 = .ok (.getfield 13, 3) := by decide +kernel
theorem dX3_moon_17 : decode cX3_moon 17 = .ok (.istore_n 2, 1) := by decide +kernel
theorem dX3_moon_18 : decode cX3_moon 18 = .ok (.aload_n 0, 1) := by decide +kernel
theorem dX3_moon_19 : decode cX3_moon 19 = .ok (.iload_n 1, 1) := by decide +kernel
theorem dX3_moon_20 : decode cX3_moon 20 = .ok (.putfield 13, 3) := by decide +kernel
theorem dX3_moon_23 : decode cX3_moon 23 = .ok (.iload_n 2, 1) := by decide +kernel
theorem dX3_moon_24 : decode cX3_moon 24 = .ok (.ireturn, 1) := by decide +kernel
theorem dX3_areKnown_0 : decode cX3_areKnown 0 = .ok (.iload_n 1, 1) := by decide +kernel
theorem dX3_areKnown_1 : decode cX3_areKnown 1 = .ok (.tableswitch 194 1 16 #[79, 194, 194, 85, 85, 85, 85, 138, 107, 138, 138, 138, 138, 144, 169, 174], 79) := by decide +kernel
theorem dX3_areKnown_80 : decode cX3_areKnown 80 = .ok (.aload_n 0, 1) := by decide +kernel
theorem dX3_areKnown_81 : decode cX3_areKnown 81 = .ok (.iload_n 2, 1) := by decide +kernel
theorem dX3_areKnown_82 : decode cX3_areKnown 82 = .ok (.invokevirtual 72, 3) := by decide +kernel
theorem dX3_areKnown_85 : decode cX3_areKnown 85 = .ok (.ireturn, 1) := by decide +kernel
theorem dX3_areKnown_86 : decode cX3_areKnown 86 = .ok (.aload_n 0, 1) := by decide +kernel
theorem dX3_areKnown_87 : decode cX3_areKnown 87 = .ok (.iload_n 2, 1) := by decide +kernel
theorem dX3_areKnown_88 : decode cX3_areKnown 88 = .ok (.invokevirtual 75, 3) := by decide +kernel
theorem dX3_areKnown_91 : decode cX3_areKnown 91 = .ok (.ifCond .eq 15, 3) := by decide +kernel
theorem dX3_areKnown_94 : decode cX3_areKnown 94 = .ok (.aload_n 0, 1) := by decide +kernel
theorem dX3_areKnown_95 : decode cX3_areKnown 95 = .ok (.iload_n 3, 1) := by decide +kernel
theorem dX3_areKnown_96 : decode cX3_areKnown 96 = .ok (.invokevirtual 75, 3) := by decide +kernel
theorem dX3_areKnown_99 : decode cX3_areKnown 99 = .ok (.ifCond .eq 7, 3) := by decide +kernel
theorem dX3_areKnown_102 : decode cX3_areKnown 102 = .ok (.iconst 1, 1) := by decide +kernel
theorem dX3_areKnown_103 : decode cX3_areKnown 103 = .ok (.goto 4, 3) := by decide +kernel
theorem dX3_areKnown_106 : decode cX3_areKnown 106 = .ok (.iconst 0, 1) := by decide +kernel
theorem dX3_areKnown_107 : decode cX3_areKnown 107 = .ok (.ireturn, 1) := by decide +kernel
theorem dX3_areKnown_108 : decode cX3_areKnown 108 = .ok (.aload_n 0, 1) := by decide +kernel
theorem dX3_areKnown_109 : decode cX3_areKnown 109 = .ok (.iload_n 2, 1) := by decide +kernel
theorem dX3_areKnown_110 : decode cX3_areKnown 110 = .ok (.invokevirtual 75, 3) := by decide +kernel
theorem dX3_areKnown_113 : decode cX3_areKnown 113 = .ok (.ifCond .eq 24, 3) := by decide +kernel
theorem dX3_areKnown_116 : decode cX3_areKnown 116 = .ok (.aload_n 0, 1) := by decide +kernel
theorem dX3_areKnown_117 : decode cX3_areKnown 117 = .ok (.iload_n 3, 1) := by decide +kernel
theorem dX3_areKnown_118 : decode cX3_areKnown 118 = .ok (.invokevirtual 75, 3) := by decide +kernel
theorem dX3_areKnown_121 : decode cX3_areKnown 121 = .ok (.ifCond .eq 16, 3) := by decide +kernel
theorem dX3_areKnown_124 : decode cX3_areKnown 124 = .ok (.aload_n 0, 1) := by decide +kernel
theorem dX3_areKnown_125 : decode cX3_areKnown 125 = .ok (.iload 4, 2) := by decide +kernel
theorem dX3_areKnown_127 : decode cX3_areKnown 127 = .ok (.invokevirtual 75, 3) := by decide +kernel
theorem dX3_areKnown_130 : decode cX3_areKnown 130 = .ok (.ifCond .eq 7, 3) := by decide +kernel
theorem dX3_areKnown_133 : decode cX3_areKnown 133 = .ok (.iconst 1, 1) := by decide +kernel
theorem dX3_areKnown_134 : decode cX3_areKnown 134 = .ok (.goto 4, 3) := by decide +kernel
theorem dX3_areKnown_137 : decode cX3_areKnown 137 = .ok (.iconst 0, 1) := by decide +kernel
theorem dX3_areKnown_138 : decode cX3_areKnown 138 = .ok (.ireturn, 1) := by decide +kernel
theorem dX3_areKnown_139 : decode cX3_areKnown 139 = .ok (.aload_n 0, 1) := by decide +kernel
theorem dX3_areKnown_140 : decode cX3_areKnown 140 = .ok (.iload_n 2, 1) := by decide +kernel
theorem dX3_areKnown_141 : decode cX3_areKnown 141 = .ok (.invokevirtual 75, 3) := by decide +kernel
theorem dX3_areKnown_144 : decode cX3_areKnown 144 = .ok (.ireturn, 1) := by decide +kernel
theorem dX3_areKnown_145 : decode cX3_areKnown 145 = .ok (.aload_n 0, 1) := by decide +kernel
theorem dX3_areKnown_146 : decode cX3_areKnown 146 = .ok (.iload_n 2, 1) := by decide +kernel
theorem dX3_areKnown_147 : decode cX3_areKnown 147 = .ok (.invokevirtual 67, 3) := by decide +kernel
theorem dX3_areKnown_150 : decode cX3_areKnown 150 = .ok (.ifCond .eq 18, 3) := by decide +kernel
theorem dX3_areKnown_153 : decode cX3_areKnown 153 = .ok (.aload_n 0, 1) := by decide +kernel
theorem dX3_areKnown_154 : decode cX3_areKnown 154 = .ok (.getfield 20, 3) := by decide +kernel
theorem dX3_areKnown_157 : decode cX3_areKnown 157 = .ok (.iload_n 2, 1) := by decide +kernel
theorem dX3_areKnown_158 : decode cX3_areKnown 158 = .ok (.iaload, 1) := by decide +kernel
theorem dX3_areKnown_159 : decode cX3_areKnown 159 = .ok (.bipush 13, 2) := by decide +kernel
theorem dX3_areKnown_161 : decode cX3_areKnown 161 = .ok (.if_icmp .ne 7, 3) := by decide +kernel
theorem dX3_areKnown_164 : decode cX3_areKnown 164 = .ok (.iconst 1, 1) := by decide +kernel
theorem dX3_areKnown_165 : decode cX3_areKnown 165 = .ok (.goto 4, 3) := by decide +kernel
theorem dX3_areKnown_168 : decode cX3_areKnown 168 = .ok (.iconst 0, 1) := by decide +kernel
theorem dX3_areKnown_169 : decode cX3_areKnown 169 = .ok (.ireturn, 1) := by decide +kernel
theorem dX3_areKnown_170 : decode cX3_areKnown 170 = .ok (.iload_n 2, 1) := by decide +kernel
theorem dX3_areKnown_171 : decode cX3_areKnown 171 = .ok (.invokestatic 78, 3) := by decide +kernel
theorem dX3_areKnown_174 : decode cX3_areKnown 174 = .ok (.ireturn, 1) := by decide +kernel
theorem dX3_areKnown_175 : decode cX3_areKnown 175 = .ok (.iload_n 2, 1) := by decide +kernel
theorem dX3_areKnown_176 : decode cX3_areKnown 176 = .ok (.invokestatic 78, 3) := by decide +kernel
theorem dX3_areKnown_179 : decode cX3_areKnown 179 = .ok (.ifCond .eq 14, 3) := by decide +kernel
theorem dX3_areKnown_182 : decode cX3_areKnown 182 = .ok (.iload_n 3, 1) := by decide +kernel
theorem dX3_areKnown_183 : decode cX3_areKnown 183 = .ok (.invokestatic 78, 3) := by decide +kernel
theorem dX3_areKnown_186 : decode cX3_areKnown 186 = .ok (.ifCond .eq 7, 3) := by decide +kernel
theorem dX3_areKnown_189 : decode cX3_areKnown 189 = .ok (.iconst 1, 1) := by decide +kernel
theorem dX3_areKnown_190 : decode cX3_areKnown 190 = .ok (.goto 4, 3) := by decide +kernel
theorem dX3_areKnown_193 : decode cX3_areKnown 193 = .ok (.iconst 0, 1) := by decide +kernel
theorem dX3_areKnown_194 : decode cX3_areKnown 194 = .ok (.ireturn, 1) := by decide +kernel
theorem dX3_areKnown_195 : decode cX3_areKnown 195 = .ok (.iload_n 1, 1) := by decide +kernel
theorem dX3_areKnown_196 : decode cX3_areKnown 196 = .ok (.iconst 0, 1) := by decide +kernel
theorem dX3_areKnown_197 : decode cX3_areKnown 197 = .ok (.bipush 16, 2) := by decide +kernel
theorem dX3_areKnown_199 : decode cX3_areKnown 199 = .ok (.invokestatic 60, 3) := by decide +kernel
theorem dX3_areKnown_202 : decode cX3_areKnown 202 = .ok (.ireturn, 1) := by decide +kernel
theorem dX3_make_0 : decode cX3_make 0 = .ok (.aload_n 0, 1) := by decide +kernel
theorem dX3_make_1 : decode cX3_make 1 = .ok (.iload_n 1, 1) := by decide +kernel
theorem dX3_make_2 : decode cX3_make 2 = .ok (.iload_n 2, 1) := by decide +kernel
theorem dX3_make_3 : decode cX3_make 3 = .ok (.iload_n 3, 1) := by decide +kernel
theorem dX3_make_4 : decode cX3_make 4 = .ok (.iload 4, 2) := by decide +kernel
theorem dX3_make_6 : decode cX3_make 6 = .ok (.invokevirtual 81, 3) := by decide +kernel
theorem dX3_make_9 : decode cX3_make 9 = .ok (.ifCond .ne 6, 3) := by decide +kernel
theorem dX3_make_12 : decode cX3_make 12 = .ok (.bipush (-101), 2) := by decide +kernel
theorem dX3_make_14 : decode cX3_make 14 = .ok (.ireturn, 1) := by decide +kernel
theorem dX3_make_15 : decode cX3_make 15 = .ok (.iload_n 1, 1) := by decide +kernel
theorem dX3_make_16 : decode cX3_make 16 = .ok (.bipush 8, 2) := by decide +kernel
theorem dX3_make_18 : decode cX3_make 18 = .ok (.if_icmp .ne 15, 3) := by decide +kernel
theorem dX3_make_21 : decode cX3_make 21 = .ok (.iload 4, 2) := by decide +kernel
theorem dX3_make_23 : decode cX3_make 23 = .ok (.iconst 1, 1) := by decide +kernel
theorem dX3_make_24 : decode cX3_make 24 = .ok (.sipush 1000, 3) := by decide +kernel
theorem dX3_make_27 : decode cX3_make 27 = .ok (.invokestatic 60, 3) := by decide +kernel
theorem dX3_make_30 : decode cX3_make 30 = .ok (.ifCond .eq 27, 3) := by decide +kernel
theorem dX3_make_33 : decode cX3_make 33 = .ok (.iload_n 1, 1) := by decide +kernel
theorem dX3_make_34 : decode cX3_make 34 = .ok (.bipush 11, 2) := by decide +kernel
theorem dX3_make_36 : decode cX3_make 36 = .ok (.if_icmp .ne 10, 3) := by decide +kernel
theorem dX3_make_39 : decode cX3_make 39 = .ok (.iload 5, 2) := by decide +kernel
theorem dX3_make_41 : decode cX3_make 41 = .ok (.iload 6, 2) := by decide +kernel
theorem dX3_make_43 : decode cX3_make 43 = .ok (.if_icmp .gt 14, 3) := by decide +kernel
theorem dX3_make_46 : decode cX3_make 46 = .ok (.iload_n 1, 1) := by decide +kernel
theorem dX3_make_47 : decode cX3_make 47 = .ok (.bipush 16, 2) := by decide +kernel
theorem dX3_make_49 : decode cX3_make 49 = .ok (.if_icmp .ne 11, 3) := by decide +kernel
theorem dX3_make_52 : decode cX3_make 52 = .ok (.iload_n 2, 1) := by decide +kernel
theorem dX3_make_53 : decode cX3_make 53 = .ok (.iload_n 3, 1) := by decide +kernel
theorem dX3_make_54 : decode cX3_make 54 = .ok (.if_icmp .le 6, 3) := by decide +kernel
theorem dX3_make_57 : decode cX3_make 57 = .ok (.bipush (-102), 2) := by decide +kernel
theorem dX3_make_59 : decode cX3_make 59 = .ok (.ireturn, 1) := by decide +kernel
theorem dX3_make_60 : decode cX3_make 60 = .ok (.aload_n 0, 1) := by decide +kernel
theorem dX3_make_61 : decode cX3_make 61 = .ok (.getfield 64, 3) := by decide +kernel
theorem dX3_make_64 : decode cX3_make 64 = .ok (.bipush 40, 2) := by decide +kernel
theorem dX3_make_66 : decode cX3_make 66 = .ok (.if_icmp .ne 6, 3) := by decide +kernel
theorem dX3_make_69 : decode cX3_make 69 = .ok (.bipush (-103), 2) := by decide +kernel
theorem dX3_make_71 : decode cX3_make 71 = .ok (.ireturn, 1) := by decide +kernel
theorem dX3_make_72 : decode cX3_make 72 = .ok (.iload_n 1, 1) := by decide +kernel
theorem dX3_make_73 : decode cX3_make 73 = .ok (.bipush 12, 2) := by decide +kernel
theorem dX3_make_75 : decode cX3_make 75 = .ok (.if_icmp .ne 17, 3) := by decide +kernel
theorem dX3_make_78 : decode cX3_make 78 = .ok (.aload_n 0, 1) := by decide +kernel
theorem dX3_make_79 : decode cX3_make 79 = .ok (.iload_n 2, 1) := by decide +kernel
theorem dX3_make_80 : decode cX3_make 80 = .ok (.iload_n 3, 1) := by decide +kernel
theorem dX3_make_81 : decode cX3_make 81 = .ok (.invokevirtual 85, 3) := by decide +kernel
theorem dX3_make_84 : decode cX3_make 84 = .ok (.ifCond .ne 8, 3) := by decide +kernel
theorem dX3_make_87 : decode cX3_make 87 = .ok (.aload_n 0, 1) := by decide +kernel
theorem dX3_make_88 : decode cX3_make 88 = .ok (.getfield 89, 3) := by decide +kernel
theorem dX3_make_91 : decode cX3_make 91 = .ok (.ireturn, 1) := by decide +kernel
theorem dX3_make_92 : decode cX3_make 92 = .ok (.aload_n 0, 1) := by decide +kernel
theorem dX3_make_93 : decode cX3_make 93 = .ok (.getfield 20, 3) := by decide +kernel
theorem dX3_make_96 : decode cX3_make 96 = .ok (.aload_n 0, 1) := by decide +kernel
theorem dX3_make_97 : decode cX3_make 97 = .ok (.getfield 64, 3) := by decide +kernel
theorem dX3_make_100 : decode cX3_make 100 = .ok (.iload_n 1, 1) := by decide +kernel
theorem dX3_make_101 : decode cX3_make 101 = .ok (.iastore, 1) := by decide +kernel
theorem dX3_make_102 : decode cX3_make 102 = .ok (.aload_n 0, 1) := by decide +kernel
theorem dX3_make_103 : decode cX3_make 103 = .ok (.getfield 23, 3) := by decide +kernel
theorem dX3_make_106 : decode cX3_make 106 = .ok (.iconst 5, 1) := by decide +kernel
theorem dX3_make_107 : decode cX3_make 107 = .ok (.aload_n 0, 1) := by decide +kernel
theorem dX3_make_108 : decode cX3_make 108 = .ok (.getfield 64, 3) := by decide +kernel
theorem dX3_make_111 : decode cX3_make 111 = .ok (.imul, 1) := by decide +kernel
theorem dX3_make_112 : decode cX3_make 112 = .ok (.iload_n 2, 1) := by decide +kernel
theorem dX3_make_113 : decode cX3_make 113 = .ok (.iastore, 1) := by decide +kernel
theorem dX3_make_114 : decode cX3_make 114 = .ok (.aload_n 0, 1) := by decide +kernel
theorem dX3_make_115 : decode cX3_make 115 = .ok (.getfield 23, 3) := by decide +kernel
theorem dX3_make_118 : decode cX3_make 118 = .ok (.iconst 5, 1) := by decide +kernel
theorem dX3_make_119 : decode cX3_make 119 = .ok (.aload_n 0, 1) := by decide +kernel
theorem dX3_make_120 : decode cX3_make 120 = .ok (.getfield 64, 3) := by decide +kernel
theorem dX3_make_123 : decode cX3_make 123 = .ok (.imul, 1) := by decide +kernel
theorem dX3_make_124 : decode cX3_make 124 = .ok (.iconst 1, 1) := by decide +kernel
theorem dX3_make_125 : decode cX3_make 125 = .ok (.iadd, 1) := by decide +kernel
theorem dX3_make_126 : decode cX3_make 126 = .ok (.iload_n 3, 1) := by decide +kernel
theorem dX3_make_127 : decode cX3_make 127 = .ok (.iastore, 1) := by decide +kernel
theorem dX3_make_128 : decode cX3_make 128 = .ok (.aload_n 0, 1) := by decide +kernel
theorem dX3_make_129 : decode cX3_make 129 = .ok (.getfield 23, 3) := by decide +kernel
theorem dX3_make_132 : decode cX3_make 132 = .ok (.iconst 5, 1) := by decide +kernel
theorem dX3_make_133 : decode cX3_make 133 = .ok (.aload_n 0, 1) := by decide +kernel
theorem dX3_make_134 : decode cX3_make 134 = .ok (.getfield 64, 3) := by decide +kernel
theorem dX3_make_137 : decode cX3_make 137 = .ok (.imul, 1) := by decide +kernel
theorem dX3_make_138 : decode cX3_make 138 = .ok (.iconst 2, 1) := by decide +kernel
theorem dX3_make_139 : decode cX3_make 139 = .ok (.iadd, 1) := by decide +kernel
theorem dX3_make_140 : decode cX3_make 140 = .ok (.iload 4, 2) := by decide +kernel
theorem dX3_make_142 : decode cX3_make 142 = .ok (.iastore, 1) := by decide +kernel
theorem dX3_make_143 : decode cX3_make 143 = .ok (.aload_n 0, 1) := by decide +kernel
theorem dX3_make_144 : decode cX3_make 144 = .ok (.getfield 23, 3) := by decide +kernel
theorem dX3_make_147 : decode cX3_make 147 = .ok (.iconst 5, 1) := by decide +kernel
theorem dX3_make_148 : decode cX3_make 148 = .ok (.aload_n 0, 1) := by decide +kernel
theorem dX3_make_149 : decode cX3_make 149 = .ok (.getfield 64, 3) := by decide +kernel
theorem dX3_make_152 : decode cX3_make 152 = .ok (.imul, 1) := by decide +kernel
theorem dX3_make_153 : decode cX3_make 153 = .ok (.iconst 3, 1) := by decide +kernel
theorem dX3_make_154 : decode cX3_make 154 = .ok (.iadd, 1) := by decide +kernel
theorem dX3_make_155 : decode cX3_make 155 = .ok (.iload 5, 2) := by decide +kernel
theorem dX3_make_157 : decode cX3_make 157 = .ok (.iastore, 1) := by decide +kernel
theorem dX3_make_158 : decode cX3_make 158 = .ok (.aload_n 0, 1) := by decide +kernel
theorem dX3_make_159 : decode cX3_make 159 = .ok (.getfield 23, 3) := by decide +kernel
theorem dX3_make_162 : decode cX3_make 162 = .ok (.iconst 5, 1) := by decide +kernel
theorem dX3_make_163 : decode cX3_make 163 = .ok (.aload_n 0, 1) := by decide +kernel
theorem dX3_make_164 : decode cX3_make 164 = .ok (.getfield 64, 3) := by decide +kernel
theorem dX3_make_167 : decode cX3_make 167 = .ok (.imul, 1) := by decide +kernel
theorem dX3_make_168 : decode cX3_make 168 = .ok (.iconst 4, 1) := by decide +kernel
theorem dX3_make_169 : decode cX3_make 169 = .ok (.iadd, 1) := by decide +kernel
theorem dX3_make_170 : decode cX3_make 170 = .ok (.iload 6, 2) := by decide +kernel
theorem dX3_make_172 : decode cX3_make 172 = .ok (.iastore, 1) := by decide +kernel
theorem dX3_make_173 : decode cX3_make 173 = .ok (.aload_n 0, 1) := by decide +kernel
theorem dX3_make_174 : decode cX3_make 174 = .ok (.getfield 26, 3) := by decide +kernel
theorem dX3_make_177 : decode cX3_make 177 = .ok (.aload_n 0, 1) := by decide +kernel
theorem dX3_make_178 : decode cX3_make 178 = .ok (.getfield 64, 3) := by decide +kernel
theorem dX3_make_181 : decode cX3_make 181 = .ok (.iload_n 1, 1) := by decide +kernel
theorem dX3_make_182 : decode cX3_make 182 = .ok (.bipush 12, 2) := by decide +kernel
theorem dX3_make_184 : decode cX3_make 184 = .ok (.if_icmp .ne 10, 3) := by decide +kernel
theorem dX3_make_187 : decode cX3_make 187 = .ok (.aload_n 0, 1) := by decide +kernel
theorem dX3_make_188 : decode cX3_make 188 = .ok (.getfield 92, 3) := by decide +kernel
theorem dX3_make_191 : decode cX3_make 191 = .ok (.goto 4, 3) := by decide +kernel
theorem dX3_make_194 : decode cX3_make 194 = .ok (.lconst 0, 1) := by decide +kernel
theorem dX3_make_195 : decode cX3_make 195 = .ok (.lastore, 1) := by decide +kernel
theorem dX3_make_196 : decode cX3_make 196 = .ok (.aload_n 0, 1) := by decide +kernel
theorem dX3_make_197 : decode cX3_make 197 = .ok (.getfield 30, 3) := by decide +kernel
theorem dX3_make_200 : decode cX3_make 200 = .ok (.aload_n 0, 1) := by decide +kernel
theorem dX3_make_201 : decode cX3_make 201 = .ok (.getfield 64, 3) := by decide +kernel
theorem dX3_make_204 : decode cX3_make 204 = .ok (.iconst 0, 1) := by decide +kernel
theorem dX3_make_205 : decode cX3_make 205 = .ok (.iastore, 1) := by decide +kernel
theorem dX3_make_206 : decode cX3_make 206 = .ok (.aload_n 0, 1) := by decide +kernel
theorem dX3_make_207 : decode cX3_make 207 = .ok (.dup, 1) := by decide +kernel
theorem dX3_make_208 : decode cX3_make 208 = .ok (.getfield 64, 3) := by decide +kernel
theorem dX3_make_211 : decode cX3_make 211 = .ok (.iconst 1, 1) := by decide +kernel
theorem dX3_make_212 : decode cX3_make 212 = .ok (.iadd, 1) := by decide +kernel
theorem dX3_make_213 : decode cX3_make 213 = .ok (.putfield 64, 3) := by decide +kernel
theorem dX3_make_216 : decode cX3_make 216 = .ok (.aload_n 0, 1) := by decide +kernel
theorem dX3_make_217 : decode cX3_make 217 = .ok (.getfield 64, 3) := by decide +kernel
theorem dX3_make_220 : decode cX3_make 220 = .ok (.iconst 1, 1) := by decide +kernel
theorem dX3_make_221 : decode cX3_make 221 = .ok (.isub, 1) := by decide +kernel
theorem dX3_make_222 : decode cX3_make 222 = .ok (.ireturn, 1) := by decide +kernel
theorem dX3_put_0 : decode cX3_put 0 = .ok (.iload_n 1, 1) := by decide +kernel
theorem dX3_put_1 : decode cX3_put 1 = .ok (.invokestatic 78, 3) := by decide +kernel
theorem dX3_put_4 : decode cX3_put 4 = .ok (.ifCond .eq 11, 3) := by decide +kernel
theorem dX3_put_7 : decode cX3_put 7 = .ok (.aload_n 0, 1) := by decide +kernel
theorem dX3_put_8 : decode cX3_put 8 = .ok (.iload_n 2, 1) := by decide +kernel
theorem dX3_put_9 : decode cX3_put 9 = .ok (.invokevirtual 75, 3) := by decide +kernel
theorem dX3_put_12 : decode cX3_put 12 = .ok (.ifCond .ne 6, 3) := by decide +kernel
theorem dX3_put_15 : decode cX3_put 15 = .ok (.bipush (-101), 2) := by decide +kernel
theorem dX3_put_17 : decode cX3_put 17 = .ok (.ireturn, 1) := by decide +kernel
theorem dX3_put_18 : decode cX3_put 18 = .ok (.aload_n 0, 1) := by decide +kernel
theorem dX3_put_19 : decode cX3_put 19 = .ok (.getfield 17, 3) := by decide +kernel
theorem dX3_put_22 : decode cX3_put 22 = .ok (.iload_n 1, 1) := by decide +kernel
theorem dX3_put_23 : decode cX3_put 23 = .ok (.iaload, 1) := by decide +kernel
theorem dX3_put_24 : decode cX3_put 24 = .ok (.istore_n 3, 1) := by decide +kernel
theorem dX3_put_25 : decode cX3_put 25 = .ok (.aload_n 0, 1) := by decide +kernel
theorem dX3_put_26 : decode cX3_put 26 = .ok (.getfield 17, 3) := by decide +kernel
theorem dX3_put_29 : decode cX3_put 29 = .ok (.iload_n 1, 1) := by decide +kernel
theorem dX3_put_30 : decode cX3_put 30 = .ok (.iload_n 2, 1) := by decide +kernel
theorem dX3_put_31 : decode cX3_put 31 = .ok (.iastore, 1) := by decide +kernel
theorem dX3_put_32 : decode cX3_put 32 = .ok (.iload_n 3, 1) := by decide +kernel
theorem dX3_put_33 : decode cX3_put 33 = .ok (.ireturn, 1) := by decide +kernel
theorem dX3_enter_0 : decode cX3_enter 0 = .ok (.iload_n 1, 1) := by decide +kernel
theorem dX3_enter_1 : decode cX3_enter 1 = .ok (.iconst (-1), 1) := by decide +kernel
theorem dX3_enter_2 : decode cX3_enter 2 = .ok (.if_icmp .ne 13, 3) := by decide +kernel
theorem dX3_enter_5 : decode cX3_enter 5 = .ok (.aload_n 0, 1) := by decide +kernel
theorem dX3_enter_6 : decode cX3_enter 6 = .ok (.sipush (-201), 3) := by decide +kernel
theorem dX3_enter_9 : decode cX3_enter 9 = .ok (.putfield 89, 3) := by decide +kernel
theorem dX3_enter_12 : decode cX3_enter 12 = .ok (.goto 82, 3) := by decide +kernel
theorem dX3_enter_15 : decode cX3_enter 15 = .ok (.aload_n 0, 1) := by decide +kernel
theorem dX3_enter_16 : decode cX3_enter 16 = .ok (.getfield 96, 3) := by decide +kernel
theorem dX3_enter_19 : decode cX3_enter 19 = .ok (.bipush 120, 2) := by decide +kernel
theorem dX3_enter_21 : decode cX3_enter 21 = .ok (.if_icmp .ne 13, 3) := by decide +kernel
theorem dX3_enter_24 : decode cX3_enter 24 = .ok (.aload_n 0, 1) := by decide +kernel
theorem dX3_enter_25 : decode cX3_enter 25 = .ok (.sipush (-202), 3) := by decide +kernel
theorem dX3_enter_28 : decode cX3_enter 28 = .ok (.putfield 89, 3) := by decide +kernel
theorem dX3_enter_31 : decode cX3_enter 31 = .ok (.goto 63, 3) := by decide +kernel
theorem dX3_enter_34 : decode cX3_enter 34 = .ok (.aload_n 0, 1) := by decide +kernel
theorem dX3_enter_35 : decode cX3_enter 35 = .ok (.dup, 1) := by decide +kernel
theorem dX3_enter_36 : decode cX3_enter 36 = .ok (.getfield 96, 3) := by decide +kernel
theorem dX3_enter_39 : decode cX3_enter 39 = .ok (.iconst 1, 1) := by decide +kernel
theorem dX3_enter_40 : decode cX3_enter 40 = .ok (.iadd, 1) := by decide +kernel
theorem dX3_enter_41 : decode cX3_enter 41 = .ok (.putfield 96, 3) := by decide +kernel
theorem dX3_enter_44 : decode cX3_enter 44 = .ok (.aload_n 0, 1) := by decide +kernel
theorem dX3_enter_45 : decode cX3_enter 45 = .ok (.dup, 1) := by decide +kernel
theorem dX3_enter_46 : decode cX3_enter 46 = .ok (.getfield 99, 3) := by decide +kernel
theorem dX3_enter_49 : decode cX3_enter 49 = .ok (.iconst 1, 1) := by decide +kernel
theorem dX3_enter_50 : decode cX3_enter 50 = .ok (.iadd, 1) := by decide +kernel
theorem dX3_enter_51 : decode cX3_enter 51 = .ok (.putfield 99, 3) := by decide +kernel
theorem dX3_enter_54 : decode cX3_enter 54 = .ok (.aload_n 0, 1) := by decide +kernel
theorem dX3_enter_55 : decode cX3_enter 55 = .ok (.getfield 42, 3) := by decide +kernel
theorem dX3_enter_58 : decode cX3_enter 58 = .ok (.aload_n 0, 1) := by decide +kernel
theorem dX3_enter_59 : decode cX3_enter 59 = .ok (.getfield 99, 3) := by decide +kernel
theorem dX3_enter_62 : decode cX3_enter 62 = .ok (.iload_n 1, 1) := by decide +kernel
theorem dX3_enter_63 : decode cX3_enter 63 = .ok (.iastore, 1) := by decide +kernel
theorem dX3_enter_64 : decode cX3_enter 64 = .ok (.aload_n 0, 1) := by decide +kernel
theorem dX3_enter_65 : decode cX3_enter 65 = .ok (.getfield 45, 3) := by decide +kernel
theorem dX3_enter_68 : decode cX3_enter 68 = .ok (.aload_n 0, 1) := by decide +kernel
theorem dX3_enter_69 : decode cX3_enter 69 = .ok (.getfield 99, 3) := by decide +kernel
theorem dX3_enter_72 : decode cX3_enter 72 = .ok (.iload_n 2, 1) := by decide +kernel
theorem dX3_enter_73 : decode cX3_enter 73 = .ok (.iastore, 1) := by decide +kernel
theorem dX3_enter_74 : decode cX3_enter 74 = .ok (.aload_n 0, 1) := by decide +kernel
theorem dX3_enter_75 : decode cX3_enter 75 = .ok (.getfield 48, 3) := by decide +kernel
theorem dX3_enter_78 : decode cX3_enter 78 = .ok (.aload_n 0, 1) := by decide +kernel
theorem dX3_enter_79 : decode cX3_enter 79 = .ok (.getfield 99, 3) := by decide +kernel
theorem dX3_enter_82 : decode cX3_enter 82 = .ok (.iconst 0, 1) := by decide +kernel
theorem dX3_enter_83 : decode cX3_enter 83 = .ok (.iastore, 1) := by decide +kernel
theorem dX3_enter_84 : decode cX3_enter 84 = .ok (.aload_n 0, 1) := by decide +kernel
theorem dX3_enter_85 : decode cX3_enter 85 = .ok (.getfield 51, 3) := by decide +kernel
theorem dX3_enter_88 : decode cX3_enter 88 = .ok (.aload_n 0, 1) := by decide +kernel
theorem dX3_enter_89 : decode cX3_enter 89 = .ok (.getfield 99, 3) := by decide +kernel
theorem dX3_enter_92 : decode cX3_enter 92 = .ok (.lconst 0, 1) := by decide +kernel
theorem dX3_enter_93 : decode cX3_enter 93 = .ok (.lastore, 1) := by decide +kernel
theorem dX3_enter_94 : decode cX3_enter 94 = .ok (.return_, 1) := by decide +kernel
theorem dX3_gives_0 : decode cX3_gives 0 = .ok (.aload_n 0, 1) := by decide +kernel
theorem dX3_gives_1 : decode cX3_gives 1 = .ok (.lload_n 1, 1) := by decide +kernel
theorem dX3_gives_2 : decode cX3_gives 2 = .ok (.putfield 92, 3) := by decide +kernel
theorem dX3_gives_5 : decode cX3_gives 5 = .ok (.aload_n 0, 1) := by decide +kernel
theorem dX3_gives_6 : decode cX3_gives 6 = .ok (.dup, 1) := by decide +kernel
theorem dX3_gives_7 : decode cX3_gives 7 = .ok (.getfield 99, 3) := by decide +kernel
theorem dX3_gives_10 : decode cX3_gives 10 = .ok (.iconst 1, 1) := by decide +kernel
theorem dX3_gives_11 : decode cX3_gives 11 = .ok (.isub, 1) := by decide +kernel
theorem dX3_gives_12 : decode cX3_gives 12 = .ok (.putfield 99, 3) := by decide +kernel
theorem dX3_gives_15 : decode cX3_gives 15 = .ok (.return_, 1) := by decide +kernel
theorem dX3_downward_0 : decode cX3_downward 0 = .ok (.lload_n 0, 1) := by decide +kernel
theorem dX3_downward_1 : decode cX3_downward 1 = .ok (.lload_n 2, 1) := by decide +kernel
theorem dX3_downward_2 : decode cX3_downward 2 = .ok (.ldiv, 1) := by decide +kernel
theorem dX3_downward_3 : decode cX3_downward 3 = .ok (.lstore 4, 2) := by decide +kernel
theorem dX3_downward_5 : decode cX3_downward 5 = .ok (.lload_n 0, 1) := by decide +kernel
theorem dX3_downward_6 : decode cX3_downward 6 = .ok (.lload_n 2, 1) := by decide +kernel
theorem dX3_downward_7 : decode cX3_downward 7 = .ok (.lrem, 1) := by decide +kernel
theorem dX3_downward_8 : decode cX3_downward 8 = .ok (.lconst 0, 1) := by decide +kernel
theorem dX3_downward_9 : decode cX3_downward 9 = .ok (.lcmp, 1) := by decide +kernel
theorem dX3_downward_10 : decode cX3_downward 10 = .ok (.ifCond .ge 10, 3) := by decide +kernel
theorem dX3_downward_13 : decode cX3_downward 13 = .ok (.lload 4, 2) := by decide +kernel
theorem dX3_downward_15 : decode cX3_downward 15 = .ok (.lconst 1, 1) := by decide +kernel
theorem dX3_downward_16 : decode cX3_downward 16 = .ok (.lsub, 1) := by decide +kernel
theorem dX3_downward_17 : decode cX3_downward 17 = .ok (.goto 5, 3) := by decide +kernel
theorem dX3_downward_20 : decode cX3_downward 20 = .ok (.lload 4, 2) := by decide +kernel
theorem dX3_downward_22 : decode cX3_downward 22 = .ok (.lreturn, 1) := by decide +kernel
theorem dX3_tide_0 : decode cX3_tide 0 = .ok (.iload_n 1, 1) := by decide +kernel
theorem dX3_tide_1 : decode cX3_tide 1 = .ok (.i2l, 1) := by decide +kernel
theorem dX3_tide_2 : decode cX3_tide 2 = .ok (.aload_n 0, 1) := by decide +kernel
theorem dX3_tide_3 : decode cX3_tide 3 = .ok (.getfield 13, 3) := by decide +kernel
theorem dX3_tide_6 : decode cX3_tide 6 = .ok (.i2l, 1) := by decide +kernel
theorem dX3_tide_7 : decode cX3_tide 7 = .ok (.lmul, 1) := by decide +kernel
theorem dX3_tide_8 : decode cX3_tide 8 = .ok (.ldc2_w 102, 3) := by decide +kernel
theorem dX3_tide_11 : decode cX3_tide 11 = .ok (.lrem, 1) := by decide +kernel
theorem dX3_tide_12 : decode cX3_tide 12 = .ok (.lstore_n 2, 1) := by decide +kernel
theorem dX3_tide_13 : decode cX3_tide 13 = .ok (.lload_n 2, 1) := by decide +kernel
theorem dX3_tide_14 : decode cX3_tide 14 = .ok (.lconst 0, 1) := by decide +kernel
theorem dX3_tide_15 : decode cX3_tide 15 = .ok (.lcmp, 1) := by decide +kernel
theorem dX3_tide_16 : decode cX3_tide 16 = .ok (.ifCond .ge 11, 3) := by decide +kernel
theorem dX3_tide_19 : decode cX3_tide 19 = .ok (.lload_n 2, 1) := by decide +kernel
theorem dX3_tide_20 : decode cX3_tide 20 = .ok (.ldc2_w 102, 3) := by decide +kernel
theorem dX3_tide_23 : decode cX3_tide 23 = .ok (.ladd, 1) := by decide +kernel
theorem dX3_tide_24 : decode cX3_tide 24 = .ok (.goto 4, 3) := by decide +kernel
theorem dX3_tide_27 : decode cX3_tide 27 = .ok (.lload_n 2, 1) := by decide +kernel
theorem dX3_tide_28 : decode cX3_tide 28 = .ok (.lstore_n 2, 1) := by decide +kernel
theorem dX3_tide_29 : decode cX3_tide 29 = .ok (.lload_n 2, 1) := by decide +kernel
theorem dX3_tide_30 : decode cX3_tide 30 = .ok (.ldc2_w 104, 3) := by decide +kernel
theorem dX3_tide_33 : decode cX3_tide 33 = .ok (.lcmp, 1) := by decide +kernel
theorem dX3_tide_34 : decode cX3_tide 34 = .ok (.ifCond .ge 7, 3) := by decide +kernel
theorem dX3_tide_37 : decode cX3_tide 37 = .ok (.lload_n 2, 1) := by decide +kernel
theorem dX3_tide_38 : decode cX3_tide 38 = .ok (.goto 8, 3) := by decide +kernel
theorem dX3_tide_41 : decode cX3_tide 41 = .ok (.ldc2_w 102, 3) := by decide +kernel
theorem dX3_tide_44 : decode cX3_tide 44 = .ok (.lload_n 2, 1) := by decide +kernel
theorem dX3_tide_45 : decode cX3_tide 45 = .ok (.lsub, 1) := by decide +kernel
theorem dX3_tide_46 : decode cX3_tide 46 = .ok (.lreturn, 1) := by decide +kernel
theorem dX3_joined_0 : decode cX3_joined 0 = .ok (.iload_n 0, 1) := by decide +kernel
theorem dX3_joined_1 : decode cX3_joined 1 = .ok (.iconst 4, 1) := by decide +kernel
theorem dX3_joined_2 : decode cX3_joined 2 = .ok (.if_icmp .ne 9, 3) := by decide +kernel
theorem dX3_joined_5 : decode cX3_joined 5 = .ok (.lload_n 1, 1) := by decide +kernel
theorem dX3_joined_6 : decode cX3_joined 6 = .ok (.lload_n 3, 1) := by decide +kernel
theorem dX3_joined_7 : decode cX3_joined 7 = .ok (.ladd, 1) := by decide +kernel
theorem dX3_joined_8 : decode cX3_joined 8 = .ok (.goto 45, 3) := by decide +kernel
theorem dX3_joined_11 : decode cX3_joined 11 = .ok (.iload_n 0, 1) := by decide +kernel
theorem dX3_joined_12 : decode cX3_joined 12 = .ok (.iconst 5, 1) := by decide +kernel
theorem dX3_joined_13 : decode cX3_joined 13 = .ok (.if_icmp .ne 9, 3) := by decide +kernel
theorem dX3_joined_16 : decode cX3_joined 16 = .ok (.lload_n 1, 1) := by decide +kernel
theorem dX3_joined_17 : decode cX3_joined 17 = .ok (.lload_n 3, 1) := by decide +kernel
theorem dX3_joined_18 : decode cX3_joined 18 = .ok (.lsub, 1) := by decide +kernel
theorem dX3_joined_19 : decode cX3_joined 19 = .ok (.goto 34, 3) := by decide +kernel
theorem dX3_joined_22 : decode cX3_joined 22 = .ok (.iload_n 0, 1) := by decide +kernel
theorem dX3_joined_23 : decode cX3_joined 23 = .ok (.bipush 6, 2) := by decide +kernel
theorem dX3_joined_25 : decode cX3_joined 25 = .ok (.if_icmp .ne 17, 3) := by decide +kernel
theorem dX3_joined_28 : decode cX3_joined 28 = .ok (.lload_n 1, 1) := by decide +kernel
theorem dX3_joined_29 : decode cX3_joined 29 = .ok (.lload_n 3, 1) := by decide +kernel
theorem dX3_joined_30 : decode cX3_joined 30 = .ok (.lcmp, 1) := by decide +kernel
theorem dX3_joined_31 : decode cX3_joined 31 = .ok (.ifCond .ge 7, 3) := by decide +kernel
theorem dX3_joined_34 : decode cX3_joined 34 = .ok (.lload_n 1, 1) := by decide +kernel
theorem dX3_joined_35 : decode cX3_joined 35 = .ok (.goto 18, 3) := by decide +kernel
theorem dX3_joined_38 : decode cX3_joined 38 = .ok (.lload_n 3, 1) := by decide +kernel
theorem dX3_joined_39 : decode cX3_joined 39 = .ok (.goto 14, 3) := by decide +kernel
theorem dX3_joined_42 : decode cX3_joined 42 = .ok (.lload_n 1, 1) := by decide +kernel
theorem dX3_joined_43 : decode cX3_joined 43 = .ok (.lload_n 3, 1) := by decide +kernel
theorem dX3_joined_44 : decode cX3_joined 44 = .ok (.lcmp, 1) := by decide +kernel
theorem dX3_joined_45 : decode cX3_joined 45 = .ok (.ifCond .le 7, 3) := by decide +kernel
theorem dX3_joined_48 : decode cX3_joined 48 = .ok (.lload_n 1, 1) := by decide +kernel
theorem dX3_joined_49 : decode cX3_joined 49 = .ok (.goto 4, 3) := by decide +kernel
theorem dX3_joined_52 : decode cX3_joined 52 = .ok (.lload_n 3, 1) := by decide +kernel
theorem dX3_joined_53 : decode cX3_joined 53 = .ok (.lreturn, 1) := by decide +kernel
theorem dX3_plain_0 : decode cX3_plain 0 = .ok (.aload_n 0, 1) := by decide +kernel
theorem dX3_plain_1 : decode cX3_plain 1 = .ok (.getfield 23, 3) := by decide +kernel
theorem dX3_plain_4 : decode cX3_plain 4 = .ok (.iconst 5, 1) := by decide +kernel
theorem dX3_plain_5 : decode cX3_plain 5 = .ok (.iload_n 1, 1) := by decide +kernel
theorem dX3_plain_6 : decode cX3_plain 6 = .ok (.imul, 1) := by decide +kernel
theorem dX3_plain_7 : decode cX3_plain 7 = .ok (.iaload, 1) := by decide +kernel
theorem dX3_plain_8 : decode cX3_plain 8 = .ok (.istore_n 3, 1) := by decide +kernel
theorem dX3_plain_9 : decode cX3_plain 9 = .ok (.aload_n 0, 1) := by decide +kernel
theorem dX3_plain_10 : decode cX3_plain 10 = .ok (.getfield 20, 3) := by decide +kernel
theorem dX3_plain_13 : decode cX3_plain 13 = .ok (.iload_n 1, 1) := by decide +kernel
theorem dX3_plain_14 : decode cX3_plain 14 = .ok (.iaload, 1) := by decide +kernel
theorem dX3_plain_15 : decode cX3_plain 15 = .ok (.tableswitch 122 0 12 #[65, 74, 88, 100, 122, 122, 122, 122, 122, 122, 122, 122, 109], 65) := by decide +kernel
theorem dX3_plain_80 : decode cX3_plain 80 = .ok (.aload_n 0, 1) := by decide +kernel
theorem dX3_plain_81 : decode cX3_plain 81 = .ok (.iload_n 3, 1) := by decide +kernel
theorem dX3_plain_82 : decode cX3_plain 82 = .ok (.i2l, 1) := by decide +kernel
theorem dX3_plain_83 : decode cX3_plain 83 = .ok (.invokevirtual 106, 3) := by decide +kernel
theorem dX3_plain_86 : decode cX3_plain 86 = .ok (.goto 62, 3) := by decide +kernel
theorem dX3_plain_89 : decode cX3_plain 89 = .ok (.aload_n 0, 1) := by decide +kernel
theorem dX3_plain_90 : decode cX3_plain 90 = .ok (.aload_n 0, 1) := by decide +kernel
theorem dX3_plain_91 : decode cX3_plain 91 = .ok (.getfield 7, 3) := by decide +kernel
theorem dX3_plain_94 : decode cX3_plain 94 = .ok (.iload_n 3, 1) := by decide +kernel
theorem dX3_plain_95 : decode cX3_plain 95 = .ok (.iaload, 1) := by decide +kernel
theorem dX3_plain_96 : decode cX3_plain 96 = .ok (.i2l, 1) := by decide +kernel
theorem dX3_plain_97 : decode cX3_plain 97 = .ok (.invokevirtual 106, 3) := by decide +kernel
theorem dX3_plain_100 : decode cX3_plain 100 = .ok (.goto 48, 3) := by decide +kernel
theorem dX3_plain_103 : decode cX3_plain 103 = .ok (.aload_n 0, 1) := by decide +kernel
theorem dX3_plain_104 : decode cX3_plain 104 = .ok (.aload_n 0, 1) := by decide +kernel
theorem dX3_plain_105 : decode cX3_plain 105 = .ok (.iload_n 2, 1) := by decide +kernel
theorem dX3_plain_106 : decode cX3_plain 106 = .ok (.invokevirtual 110, 3) := by decide +kernel
theorem dX3_plain_109 : decode cX3_plain 109 = .ok (.invokevirtual 106, 3) := by decide +kernel
theorem dX3_plain_112 : decode cX3_plain 112 = .ok (.goto 36, 3) := by decide +kernel
theorem dX3_plain_115 : decode cX3_plain 115 = .ok (.aload_n 0, 1) := by decide +kernel
theorem dX3_plain_116 : decode cX3_plain 116 = .ok (.iload_n 2, 1) := by decide +kernel
theorem dX3_plain_117 : decode cX3_plain 117 = .ok (.i2l, 1) := by decide +kernel
theorem dX3_plain_118 : decode cX3_plain 118 = .ok (.invokevirtual 106, 3) := by decide +kernel
theorem dX3_plain_121 : decode cX3_plain 121 = .ok (.goto 27, 3) := by decide +kernel
theorem dX3_plain_124 : decode cX3_plain 124 = .ok (.aload_n 0, 1) := by decide +kernel
theorem dX3_plain_125 : decode cX3_plain 125 = .ok (.aload_n 0, 1) := by decide +kernel
theorem dX3_plain_126 : decode cX3_plain 126 = .ok (.getfield 26, 3) := by decide +kernel
theorem dX3_plain_129 : decode cX3_plain 129 = .ok (.iload_n 1, 1) := by decide +kernel
theorem dX3_plain_130 : decode cX3_plain 130 = .ok (.laload, 1) := by decide +kernel
theorem dX3_plain_131 : decode cX3_plain 131 = .ok (.invokevirtual 106, 3) := by decide +kernel
theorem dX3_plain_134 : decode cX3_plain 134 = .ok (.goto 14, 3) := by decide +kernel
theorem dX3_plain_137 : decode cX3_plain 137 = .ok (.aload_n 0, 1) := by decide +kernel
theorem dX3_plain_138 : decode cX3_plain 138 = .ok (.aload_n 0, 1) := by decide +kernel
theorem dX3_plain_139 : decode cX3_plain 139 = .ok (.getfield 30, 3) := by decide +kernel
theorem dX3_plain_142 : decode cX3_plain 142 = .ok (.iload_n 3, 1) := by decide +kernel
theorem dX3_plain_143 : decode cX3_plain 143 = .ok (.iaload, 1) := by decide +kernel
theorem dX3_plain_144 : decode cX3_plain 144 = .ok (.i2l, 1) := by decide +kernel
theorem dX3_plain_145 : decode cX3_plain 145 = .ok (.invokevirtual 106, 3) := by decide +kernel
theorem dX3_plain_148 : decode cX3_plain 148 = .ok (.return_, 1) := by decide +kernel
theorem dX3_behind_0 : decode cX3_behind 0 = .ok (.aload_n 0, 1) := by decide +kernel
theorem dX3_behind_1 : decode cX3_behind 1 = .ok (.getfield 23, 3) := by decide +kernel
theorem dX3_behind_4 : decode cX3_behind 4 = .ok (.iconst 5, 1) := by decide +kernel
theorem dX3_behind_5 : decode cX3_behind 5 = .ok (.iload_n 1, 1) := by decide +kernel
theorem dX3_behind_6 : decode cX3_behind 6 = .ok (.imul, 1) := by decide +kernel
theorem dX3_behind_7 : decode cX3_behind 7 = .ok (.iconst 1, 1) := by decide +kernel
theorem dX3_behind_8 : decode cX3_behind 8 = .ok (.iadd, 1) := by decide +kernel
theorem dX3_behind_9 : decode cX3_behind 9 = .ok (.iaload, 1) := by decide +kernel
theorem dX3_behind_10 : decode cX3_behind 10 = .ok (.istore_n 2, 1) := by decide +kernel
theorem dX3_behind_11 : decode cX3_behind 11 = .ok (.aload_n 0, 1) := by decide +kernel
theorem dX3_behind_12 : decode cX3_behind 12 = .ok (.getfield 23, 3) := by decide +kernel
theorem dX3_behind_15 : decode cX3_behind 15 = .ok (.iconst 5, 1) := by decide +kernel
theorem dX3_behind_16 : decode cX3_behind 16 = .ok (.iload_n 1, 1) := by decide +kernel
theorem dX3_behind_17 : decode cX3_behind 17 = .ok (.imul, 1) := by decide +kernel
theorem dX3_behind_18 : decode cX3_behind 18 = .ok (.iconst 2, 1) := by decide +kernel
theorem dX3_behind_19 : decode cX3_behind 19 = .ok (.iadd, 1) := by decide +kernel
theorem dX3_behind_20 : decode cX3_behind 20 = .ok (.iaload, 1) := by decide +kernel
theorem dX3_behind_21 : decode cX3_behind 21 = .ok (.istore_n 3, 1) := by decide +kernel
theorem dX3_behind_22 : decode cX3_behind 22 = .ok (.aload_n 0, 1) := by decide +kernel
theorem dX3_behind_23 : decode cX3_behind 23 = .ok (.getfield 20, 3) := by decide +kernel
theorem dX3_behind_26 : decode cX3_behind 26 = .ok (.iload_n 1, 1) := by decide +kernel
theorem dX3_behind_27 : decode cX3_behind 27 = .ok (.iaload, 1) := by decide +kernel
theorem dX3_behind_28 : decode cX3_behind 28 = .ok (.bipush 8, 2) := by decide +kernel
theorem dX3_behind_30 : decode cX3_behind 30 = .ok (.if_icmp .ne 22, 3) := by decide +kernel
theorem dX3_behind_33 : decode cX3_behind 33 = .ok (.aload_n 0, 1) := by decide +kernel
theorem dX3_behind_34 : decode cX3_behind 34 = .ok (.aload_n 0, 1) := by decide +kernel
theorem dX3_behind_35 : decode cX3_behind 35 = .ok (.getfield 92, 3) := by decide +kernel
theorem dX3_behind_38 : decode cX3_behind 38 = .ok (.iload_n 2, 1) := by decide +kernel
theorem dX3_behind_39 : decode cX3_behind 39 = .ok (.i2l, 1) := by decide +kernel
theorem dX3_behind_40 : decode cX3_behind 40 = .ok (.lmul, 1) := by decide +kernel
theorem dX3_behind_41 : decode cX3_behind 41 = .ok (.iload_n 3, 1) := by decide +kernel
theorem dX3_behind_42 : decode cX3_behind 42 = .ok (.i2l, 1) := by decide +kernel
theorem dX3_behind_43 : decode cX3_behind 43 = .ok (.invokestatic 114, 3) := by decide +kernel
theorem dX3_behind_46 : decode cX3_behind 46 = .ok (.invokevirtual 106, 3) := by decide +kernel
theorem dX3_behind_49 : decode cX3_behind 49 = .ok (.goto 81, 3) := by decide +kernel
theorem dX3_behind_52 : decode cX3_behind 52 = .ok (.aload_n 0, 1) := by decide +kernel
theorem dX3_behind_53 : decode cX3_behind 53 = .ok (.getfield 20, 3) := by decide +kernel
theorem dX3_behind_56 : decode cX3_behind 56 = .ok (.iload_n 1, 1) := by decide +kernel
theorem dX3_behind_57 : decode cX3_behind 57 = .ok (.iaload, 1) := by decide +kernel
theorem dX3_behind_58 : decode cX3_behind 58 = .ok (.bipush 11, 2) := by decide +kernel
theorem dX3_behind_60 : decode cX3_behind 60 = .ok (.if_icmp .ne 62, 3) := by decide +kernel
theorem dX3_behind_63 : decode cX3_behind 63 = .ok (.aload_n 0, 1) := by decide +kernel
theorem dX3_behind_64 : decode cX3_behind 64 = .ok (.aload_n 0, 1) := by decide +kernel
theorem dX3_behind_65 : decode cX3_behind 65 = .ok (.getfield 92, 3) := by decide +kernel
theorem dX3_behind_68 : decode cX3_behind 68 = .ok (.aload_n 0, 1) := by decide +kernel
theorem dX3_behind_69 : decode cX3_behind 69 = .ok (.getfield 23, 3) := by decide +kernel
theorem dX3_behind_72 : decode cX3_behind 72 = .ok (.iconst 5, 1) := by decide +kernel
theorem dX3_behind_73 : decode cX3_behind 73 = .ok (.iload_n 1, 1) := by decide +kernel
theorem dX3_behind_74 : decode cX3_behind 74 = .ok (.imul, 1) := by decide +kernel
theorem dX3_behind_75 : decode cX3_behind 75 = .ok (.iconst 3, 1) := by decide +kernel
theorem dX3_behind_76 : decode cX3_behind 76 = .ok (.iadd, 1) := by decide +kernel
theorem dX3_behind_77 : decode cX3_behind 77 = .ok (.iaload, 1) := by decide +kernel
theorem dX3_behind_78 : decode cX3_behind 78 = .ok (.i2l, 1) := by decide +kernel
theorem dX3_behind_79 : decode cX3_behind 79 = .ok (.lcmp, 1) := by decide +kernel
theorem dX3_behind_80 : decode cX3_behind 80 = .ok (.ifCond .ge 8, 3) := by decide +kernel
theorem dX3_behind_83 : decode cX3_behind 83 = .ok (.iload_n 2, 1) := by decide +kernel
theorem dX3_behind_84 : decode cX3_behind 84 = .ok (.i2l, 1) := by decide +kernel
theorem dX3_behind_85 : decode cX3_behind 85 = .ok (.goto 31, 3) := by decide +kernel
theorem dX3_behind_88 : decode cX3_behind 88 = .ok (.aload_n 0, 1) := by decide +kernel
theorem dX3_behind_89 : decode cX3_behind 89 = .ok (.getfield 92, 3) := by decide +kernel
theorem dX3_behind_92 : decode cX3_behind 92 = .ok (.aload_n 0, 1) := by decide +kernel
theorem dX3_behind_93 : decode cX3_behind 93 = .ok (.getfield 23, 3) := by decide +kernel
theorem dX3_behind_96 : decode cX3_behind 96 = .ok (.iconst 5, 1) := by decide +kernel
theorem dX3_behind_97 : decode cX3_behind 97 = .ok (.iload_n 1, 1) := by decide +kernel
theorem dX3_behind_98 : decode cX3_behind 98 = .ok (.imul, 1) := by decide +kernel
theorem dX3_behind_99 : decode cX3_behind 99 = .ok (.iconst 4, 1) := by decide +kernel
theorem dX3_behind_100 : decode cX3_behind 100 = .ok (.iadd, 1) := by decide +kernel
theorem dX3_behind_101 : decode cX3_behind 101 = .ok (.iaload, 1) := by decide +kernel
theorem dX3_behind_102 : decode cX3_behind 102 = .ok (.i2l, 1) := by decide +kernel
theorem dX3_behind_103 : decode cX3_behind 103 = .ok (.lcmp, 1) := by decide +kernel
theorem dX3_behind_104 : decode cX3_behind 104 = .ok (.ifCond .le 8, 3) := by decide +kernel
theorem dX3_behind_107 : decode cX3_behind 107 = .ok (.iload_n 3, 1) := by decide +kernel
theorem dX3_behind_108 : decode cX3_behind 108 = .ok (.i2l, 1) := by decide +kernel
theorem dX3_behind_109 : decode cX3_behind 109 = .ok (.goto 7, 3) := by decide +kernel
theorem dX3_behind_112 : decode cX3_behind 112 = .ok (.aload_n 0, 1) := by decide +kernel
theorem dX3_behind_113 : decode cX3_behind 113 = .ok (.getfield 92, 3) := by decide +kernel
theorem dX3_behind_116 : decode cX3_behind 116 = .ok (.invokevirtual 106, 3) := by decide +kernel
theorem dX3_behind_119 : decode cX3_behind 119 = .ok (.goto 11, 3) := by decide +kernel
theorem dX3_behind_122 : decode cX3_behind 122 = .ok (.aload_n 0, 1) := by decide +kernel
theorem dX3_behind_123 : decode cX3_behind 123 = .ok (.aload_n 0, 1) := by decide +kernel
theorem dX3_behind_124 : decode cX3_behind 124 = .ok (.getfield 92, 3) := by decide +kernel
theorem dX3_behind_127 : decode cX3_behind 127 = .ok (.invokevirtual 106, 3) := by decide +kernel
theorem dX3_behind_130 : decode cX3_behind 130 = .ok (.return_, 1) := by decide +kernel
theorem dX3_pair_0 : decode cX3_pair 0 = .ok (.iload_n 3, 1) := by decide +kernel
theorem dX3_pair_1 : decode cX3_pair 1 = .ok (.iconst 1, 1) := by decide +kernel
theorem dX3_pair_2 : decode cX3_pair 2 = .ok (.if_icmp .ne 34, 3) := by decide +kernel
theorem dX3_pair_5 : decode cX3_pair 5 = .ok (.aload_n 0, 1) := by decide +kernel
theorem dX3_pair_6 : decode cX3_pair 6 = .ok (.getfield 51, 3) := by decide +kernel
theorem dX3_pair_9 : decode cX3_pair 9 = .ok (.aload_n 0, 1) := by decide +kernel
theorem dX3_pair_10 : decode cX3_pair 10 = .ok (.getfield 99, 3) := by decide +kernel
theorem dX3_pair_13 : decode cX3_pair 13 = .ok (.aload_n 0, 1) := by decide +kernel
theorem dX3_pair_14 : decode cX3_pair 14 = .ok (.getfield 92, 3) := by decide +kernel
theorem dX3_pair_17 : decode cX3_pair 17 = .ok (.lastore, 1) := by decide +kernel
theorem dX3_pair_18 : decode cX3_pair 18 = .ok (.aload_n 0, 1) := by decide +kernel
theorem dX3_pair_19 : decode cX3_pair 19 = .ok (.aload_n 0, 1) := by decide +kernel
theorem dX3_pair_20 : decode cX3_pair 20 = .ok (.getfield 23, 3) := by decide +kernel
theorem dX3_pair_23 : decode cX3_pair 23 = .ok (.iconst 5, 1) := by decide +kernel
theorem dX3_pair_24 : decode cX3_pair 24 = .ok (.iload_n 1, 1) := by decide +kernel
theorem dX3_pair_25 : decode cX3_pair 25 = .ok (.imul, 1) := by decide +kernel
theorem dX3_pair_26 : decode cX3_pair 26 = .ok (.iconst 1, 1) := by decide +kernel
theorem dX3_pair_27 : decode cX3_pair 27 = .ok (.iadd, 1) := by decide +kernel
theorem dX3_pair_28 : decode cX3_pair 28 = .ok (.iaload, 1) := by decide +kernel
theorem dX3_pair_29 : decode cX3_pair 29 = .ok (.iload_n 2, 1) := by decide +kernel
theorem dX3_pair_30 : decode cX3_pair 30 = .ok (.invokevirtual 118, 3) := by decide +kernel
theorem dX3_pair_33 : decode cX3_pair 33 = .ok (.goto 29, 3) := by decide +kernel
theorem dX3_pair_36 : decode cX3_pair 36 = .ok (.aload_n 0, 1) := by decide +kernel
theorem dX3_pair_37 : decode cX3_pair 37 = .ok (.aload_n 0, 1) := by decide +kernel
theorem dX3_pair_38 : decode cX3_pair 38 = .ok (.getfield 20, 3) := by decide +kernel
theorem dX3_pair_41 : decode cX3_pair 41 = .ok (.iload_n 1, 1) := by decide +kernel
theorem dX3_pair_42 : decode cX3_pair 42 = .ok (.iaload, 1) := by decide +kernel
theorem dX3_pair_43 : decode cX3_pair 43 = .ok (.aload_n 0, 1) := by decide +kernel
theorem dX3_pair_44 : decode cX3_pair 44 = .ok (.getfield 51, 3) := by decide +kernel
theorem dX3_pair_47 : decode cX3_pair 47 = .ok (.aload_n 0, 1) := by decide +kernel
theorem dX3_pair_48 : decode cX3_pair 48 = .ok (.getfield 99, 3) := by decide +kernel
theorem dX3_pair_51 : decode cX3_pair 51 = .ok (.laload, 1) := by decide +kernel
theorem dX3_pair_52 : decode cX3_pair 52 = .ok (.aload_n 0, 1) := by decide +kernel
theorem dX3_pair_53 : decode cX3_pair 53 = .ok (.getfield 92, 3) := by decide +kernel
theorem dX3_pair_56 : decode cX3_pair 56 = .ok (.invokestatic 122, 3) := by decide +kernel
theorem dX3_pair_59 : decode cX3_pair 59 = .ok (.invokevirtual 106, 3) := by decide +kernel
theorem dX3_pair_62 : decode cX3_pair 62 = .ok (.return_, 1) := by decide +kernel
theorem dX3_choice_0 : decode cX3_choice 0 = .ok (.iload_n 3, 1) := by decide +kernel
theorem dX3_choice_1 : decode cX3_choice 1 = .ok (.iconst 1, 1) := by decide +kernel
theorem dX3_choice_2 : decode cX3_choice 2 = .ok (.if_icmp .ne 43, 3) := by decide +kernel
theorem dX3_choice_5 : decode cX3_choice 5 = .ok (.aload_n 0, 1) := by decide +kernel
theorem dX3_choice_6 : decode cX3_choice 6 = .ok (.aload_n 0, 1) := by decide +kernel
theorem dX3_choice_7 : decode cX3_choice 7 = .ok (.getfield 92, 3) := by decide +kernel
theorem dX3_choice_10 : decode cX3_choice 10 = .ok (.lconst 0, 1) := by decide +kernel
theorem dX3_choice_11 : decode cX3_choice 11 = .ok (.lcmp, 1) := by decide +kernel
theorem dX3_choice_12 : decode cX3_choice 12 = .ok (.ifCond .le 16, 3) := by decide +kernel
theorem dX3_choice_15 : decode cX3_choice 15 = .ok (.aload_n 0, 1) := by decide +kernel
theorem dX3_choice_16 : decode cX3_choice 16 = .ok (.getfield 23, 3) := by decide +kernel
theorem dX3_choice_19 : decode cX3_choice 19 = .ok (.iconst 5, 1) := by decide +kernel
theorem dX3_choice_20 : decode cX3_choice 20 = .ok (.iload_n 1, 1) := by decide +kernel
theorem dX3_choice_21 : decode cX3_choice 21 = .ok (.imul, 1) := by decide +kernel
theorem dX3_choice_22 : decode cX3_choice 22 = .ok (.iconst 1, 1) := by decide +kernel
theorem dX3_choice_23 : decode cX3_choice 23 = .ok (.iadd, 1) := by decide +kernel
theorem dX3_choice_24 : decode cX3_choice 24 = .ok (.iaload, 1) := by decide +kernel
theorem dX3_choice_25 : decode cX3_choice 25 = .ok (.goto 13, 3) := by decide +kernel
theorem dX3_choice_28 : decode cX3_choice 28 = .ok (.aload_n 0, 1) := by decide +kernel
theorem dX3_choice_29 : decode cX3_choice 29 = .ok (.getfield 23, 3) := by decide +kernel
theorem dX3_choice_32 : decode cX3_choice 32 = .ok (.iconst 5, 1) := by decide +kernel
theorem dX3_choice_33 : decode cX3_choice 33 = .ok (.iload_n 1, 1) := by decide +kernel
theorem dX3_choice_34 : decode cX3_choice 34 = .ok (.imul, 1) := by decide +kernel
theorem dX3_choice_35 : decode cX3_choice 35 = .ok (.iconst 2, 1) := by decide +kernel
theorem dX3_choice_36 : decode cX3_choice 36 = .ok (.iadd, 1) := by decide +kernel
theorem dX3_choice_37 : decode cX3_choice 37 = .ok (.iaload, 1) := by decide +kernel
theorem dX3_choice_38 : decode cX3_choice 38 = .ok (.iload_n 2, 1) := by decide +kernel
theorem dX3_choice_39 : decode cX3_choice 39 = .ok (.invokevirtual 118, 3) := by decide +kernel
theorem dX3_choice_42 : decode cX3_choice 42 = .ok (.goto 11, 3) := by decide +kernel
theorem dX3_choice_45 : decode cX3_choice 45 = .ok (.aload_n 0, 1) := by decide +kernel
theorem dX3_choice_46 : decode cX3_choice 46 = .ok (.aload_n 0, 1) := by decide +kernel
theorem dX3_choice_47 : decode cX3_choice 47 = .ok (.getfield 92, 3) := by decide +kernel
theorem dX3_choice_50 : decode cX3_choice 50 = .ok (.invokevirtual 106, 3) := by decide +kernel
theorem dX3_choice_53 : decode cX3_choice 53 = .ok (.return_, 1) := by decide +kernel
theorem dX3_slots_0 : decode cX3_slots 0 = .ok (.aload_n 0, 1) := by decide +kernel
theorem dX3_slots_1 : decode cX3_slots 1 = .ok (.getfield 51, 3) := by decide +kernel
theorem dX3_slots_4 : decode cX3_slots 4 = .ok (.aload_n 0, 1) := by decide +kernel
theorem dX3_slots_5 : decode cX3_slots 5 = .ok (.getfield 99, 3) := by decide +kernel
theorem dX3_slots_8 : decode cX3_slots 8 = .ok (.dup2, 1) := by decide +kernel
theorem dX3_slots_9 : decode cX3_slots 9 = .ok (.laload, 1) := by decide +kernel
theorem dX3_slots_10 : decode cX3_slots 10 = .ok (.iload_n 3, 1) := by decide +kernel
theorem dX3_slots_11 : decode cX3_slots 11 = .ok (.ifCond .le 10, 3) := by decide +kernel
theorem dX3_slots_14 : decode cX3_slots 14 = .ok (.aload_n 0, 1) := by decide +kernel
theorem dX3_slots_15 : decode cX3_slots 15 = .ok (.getfield 92, 3) := by decide +kernel
theorem dX3_slots_18 : decode cX3_slots 18 = .ok (.goto 4, 3) := by decide +kernel
theorem dX3_slots_21 : decode cX3_slots 21 = .ok (.lconst 0, 1) := by decide +kernel
theorem dX3_slots_22 : decode cX3_slots 22 = .ok (.ladd, 1) := by decide +kernel
theorem dX3_slots_23 : decode cX3_slots 23 = .ok (.lastore, 1) := by decide +kernel
theorem dX3_slots_24 : decode cX3_slots 24 = .ok (.aload_n 0, 1) := by decide +kernel
theorem dX3_slots_25 : decode cX3_slots 25 = .ok (.getfield 23, 3) := by decide +kernel
theorem dX3_slots_28 : decode cX3_slots 28 = .ok (.iconst 5, 1) := by decide +kernel
theorem dX3_slots_29 : decode cX3_slots 29 = .ok (.iload_n 1, 1) := by decide +kernel
theorem dX3_slots_30 : decode cX3_slots 30 = .ok (.imul, 1) := by decide +kernel
theorem dX3_slots_31 : decode cX3_slots 31 = .ok (.iaload, 1) := by decide +kernel
theorem dX3_slots_32 : decode cX3_slots 32 = .ok (.iload_n 3, 1) := by decide +kernel
theorem dX3_slots_33 : decode cX3_slots 33 = .ok (.iadd, 1) := by decide +kernel
theorem dX3_slots_34 : decode cX3_slots 34 = .ok (.istore 4, 2) := by decide +kernel
theorem dX3_slots_36 : decode cX3_slots 36 = .ok (.iload 4, 2) := by decide +kernel
theorem dX3_slots_38 : decode cX3_slots 38 = .ok (.aload_n 0, 1) := by decide +kernel
theorem dX3_slots_39 : decode cX3_slots 39 = .ok (.getfield 23, 3) := by decide +kernel
theorem dX3_slots_42 : decode cX3_slots 42 = .ok (.iconst 5, 1) := by decide +kernel
theorem dX3_slots_43 : decode cX3_slots 43 = .ok (.iload_n 1, 1) := by decide +kernel
theorem dX3_slots_44 : decode cX3_slots 44 = .ok (.imul, 1) := by decide +kernel
theorem dX3_slots_45 : decode cX3_slots 45 = .ok (.iconst 1, 1) := by decide +kernel
theorem dX3_slots_46 : decode cX3_slots 46 = .ok (.iadd, 1) := by decide +kernel
theorem dX3_slots_47 : decode cX3_slots 47 = .ok (.iaload, 1) := by decide +kernel
theorem dX3_slots_48 : decode cX3_slots 48 = .ok (.if_icmp .le 19, 3) := by decide +kernel
theorem dX3_slots_51 : decode cX3_slots 51 = .ok (.aload_n 0, 1) := by decide +kernel
theorem dX3_slots_52 : decode cX3_slots 52 = .ok (.aload_n 0, 1) := by decide +kernel
theorem dX3_slots_53 : decode cX3_slots 53 = .ok (.getfield 51, 3) := by decide +kernel
theorem dX3_slots_56 : decode cX3_slots 56 = .ok (.aload_n 0, 1) := by decide +kernel
theorem dX3_slots_57 : decode cX3_slots 57 = .ok (.getfield 99, 3) := by decide +kernel
theorem dX3_slots_60 : decode cX3_slots 60 = .ok (.laload, 1) := by decide +kernel
theorem dX3_slots_61 : decode cX3_slots 61 = .ok (.invokevirtual 106, 3) := by decide +kernel
theorem dX3_slots_64 : decode cX3_slots 64 = .ok (.goto 15, 3) := by decide +kernel
theorem dX3_slots_67 : decode cX3_slots 67 = .ok (.aload_n 0, 1) := by decide +kernel
theorem dX3_slots_68 : decode cX3_slots 68 = .ok (.aload_n 0, 1) := by decide +kernel
theorem dX3_slots_69 : decode cX3_slots 69 = .ok (.getfield 17, 3) := by decide +kernel
theorem dX3_slots_72 : decode cX3_slots 72 = .ok (.iload 4, 2) := by decide +kernel
theorem dX3_slots_74 : decode cX3_slots 74 = .ok (.iaload, 1) := by decide +kernel
theorem dX3_slots_75 : decode cX3_slots 75 = .ok (.iload_n 2, 1) := by decide +kernel
theorem dX3_slots_76 : decode cX3_slots 76 = .ok (.invokevirtual 118, 3) := by decide +kernel
theorem dX3_slots_79 : decode cX3_slots 79 = .ok (.return_, 1) := by decide +kernel
theorem dX3_go_0 : decode cX3_go 0 = .ok (.aload_n 0, 1) := by decide +kernel
theorem dX3_go_1 : decode cX3_go 1 = .ok (.getfield 42, 3) := by decide +kernel
theorem dX3_go_4 : decode cX3_go 4 = .ok (.aload_n 0, 1) := by decide +kernel
theorem dX3_go_5 : decode cX3_go 5 = .ok (.getfield 99, 3) := by decide +kernel
theorem dX3_go_8 : decode cX3_go 8 = .ok (.iaload, 1) := by decide +kernel
theorem dX3_go_9 : decode cX3_go 9 = .ok (.istore_n 1, 1) := by decide +kernel
theorem dX3_go_10 : decode cX3_go 10 = .ok (.aload_n 0, 1) := by decide +kernel
theorem dX3_go_11 : decode cX3_go 11 = .ok (.getfield 45, 3) := by decide +kernel
theorem dX3_go_14 : decode cX3_go 14 = .ok (.aload_n 0, 1) := by decide +kernel
theorem dX3_go_15 : decode cX3_go 15 = .ok (.getfield 99, 3) := by decide +kernel
theorem dX3_go_18 : decode cX3_go 18 = .ok (.iaload, 1) := by decide +kernel
theorem dX3_go_19 : decode cX3_go 19 = .ok (.istore_n 2, 1) := by decide +kernel
theorem dX3_go_20 : decode cX3_go 20 = .ok (.aload_n 0, 1) := by decide +kernel
theorem dX3_go_21 : decode cX3_go 21 = .ok (.getfield 48, 3) := by decide +kernel
theorem dX3_go_24 : decode cX3_go 24 = .ok (.aload_n 0, 1) := by decide +kernel
theorem dX3_go_25 : decode cX3_go 25 = .ok (.getfield 99, 3) := by decide +kernel
theorem dX3_go_28 : decode cX3_go 28 = .ok (.iaload, 1) := by decide +kernel
theorem dX3_go_29 : decode cX3_go 29 = .ok (.istore_n 3, 1) := by decide +kernel
theorem dX3_go_30 : decode cX3_go 30 = .ok (.aload_n 0, 1) := by decide +kernel
theorem dX3_go_31 : decode cX3_go 31 = .ok (.getfield 48, 3) := by decide +kernel
theorem dX3_go_34 : decode cX3_go 34 = .ok (.aload_n 0, 1) := by decide +kernel
theorem dX3_go_35 : decode cX3_go 35 = .ok (.getfield 99, 3) := by decide +kernel
theorem dX3_go_38 : decode cX3_go 38 = .ok (.dup2, 1) := by decide +kernel
theorem dX3_go_39 : decode cX3_go 39 = .ok (.iaload, 1) := by decide +kernel
theorem dX3_go_40 : decode cX3_go 40 = .ok (.iconst 1, 1) := by decide +kernel
theorem dX3_go_41 : decode cX3_go 41 = .ok (.iadd, 1) := by decide +kernel
theorem dX3_go_42 : decode cX3_go 42 = .ok (.iastore, 1) := by decide +kernel
theorem dX3_go_43 : decode cX3_go 43 = .ok (.aload_n 0, 1) := by decide +kernel
theorem dX3_go_44 : decode cX3_go 44 = .ok (.getfield 20, 3) := by decide +kernel
theorem dX3_go_47 : decode cX3_go 47 = .ok (.iload_n 1, 1) := by decide +kernel
theorem dX3_go_48 : decode cX3_go 48 = .ok (.iaload, 1) := by decide +kernel
theorem dX3_go_49 : decode cX3_go 49 = .ok (.istore 4, 2) := by decide +kernel
theorem dX3_go_51 : decode cX3_go 51 = .ok (.iload 4, 2) := by decide +kernel
theorem dX3_go_53 : decode cX3_go 53 = .ok (.iconst 3, 1) := by decide +kernel
theorem dX3_go_54 : decode cX3_go 54 = .ok (.if_icmp .le 17, 3) := by decide +kernel
theorem dX3_go_57 : decode cX3_go 57 = .ok (.iload 4, 2) := by decide +kernel
theorem dX3_go_59 : decode cX3_go 59 = .ok (.bipush 12, 2) := by decide +kernel
theorem dX3_go_61 : decode cX3_go 61 = .ok (.if_icmp .eq 10, 3) := by decide +kernel
theorem dX3_go_64 : decode cX3_go 64 = .ok (.iload 4, 2) := by decide +kernel
theorem dX3_go_66 : decode cX3_go 66 = .ok (.bipush 14, 2) := by decide +kernel
theorem dX3_go_68 : decode cX3_go 68 = .ok (.if_icmp .ne 12, 3) := by decide +kernel
theorem dX3_go_71 : decode cX3_go 71 = .ok (.aload_n 0, 1) := by decide +kernel
theorem dX3_go_72 : decode cX3_go 72 = .ok (.iload_n 1, 1) := by decide +kernel
theorem dX3_go_73 : decode cX3_go 73 = .ok (.iload_n 2, 1) := by decide +kernel
theorem dX3_go_74 : decode cX3_go 74 = .ok (.invokevirtual 126, 3) := by decide +kernel
theorem dX3_go_77 : decode cX3_go 77 = .ok (.goto 145, 3) := by decide +kernel
theorem dX3_go_80 : decode cX3_go 80 = .ok (.iload 4, 2) := by decide +kernel
theorem dX3_go_82 : decode cX3_go 82 = .ok (.bipush 16, 2) := by decide +kernel
theorem dX3_go_84 : decode cX3_go 84 = .ok (.if_icmp .ne 13, 3) := by decide +kernel
theorem dX3_go_87 : decode cX3_go 87 = .ok (.aload_n 0, 1) := by decide +kernel
theorem dX3_go_88 : decode cX3_go 88 = .ok (.iload_n 1, 1) := by decide +kernel
theorem dX3_go_89 : decode cX3_go 89 = .ok (.iload_n 2, 1) := by decide +kernel
theorem dX3_go_90 : decode cX3_go 90 = .ok (.iload_n 3, 1) := by decide +kernel
theorem dX3_go_91 : decode cX3_go 91 = .ok (.invokevirtual 129, 3) := by decide +kernel
theorem dX3_go_94 : decode cX3_go 94 = .ok (.goto 128, 3) := by decide +kernel
theorem dX3_go_97 : decode cX3_go 97 = .ok (.iload_n 3, 1) := by decide +kernel
theorem dX3_go_98 : decode cX3_go 98 = .ok (.ifCond .ne 85, 3) := by decide +kernel
theorem dX3_go_101 : decode cX3_go 101 = .ok (.aload_n 0, 1) := by decide +kernel
theorem dX3_go_102 : decode cX3_go 102 = .ok (.getfield 30, 3) := by decide +kernel
theorem dX3_go_105 : decode cX3_go 105 = .ok (.iload_n 1, 1) := by decide +kernel
theorem dX3_go_106 : decode cX3_go 106 = .ok (.dup2, 1) := by decide +kernel
theorem dX3_go_107 : decode cX3_go 107 = .ok (.iaload, 1) := by decide +kernel
theorem dX3_go_108 : decode cX3_go 108 = .ok (.iload 4, 2) := by decide +kernel
theorem dX3_go_110 : decode cX3_go 110 = .ok (.bipush 13, 2) := by decide +kernel
theorem dX3_go_112 : decode cX3_go 112 = .ok (.if_icmp .ne 7, 3) := by decide +kernel
theorem dX3_go_115 : decode cX3_go 115 = .ok (.iconst 1, 1) := by decide +kernel
theorem dX3_go_116 : decode cX3_go 116 = .ok (.goto 4, 3) := by decide +kernel
theorem dX3_go_119 : decode cX3_go 119 = .ok (.iconst 0, 1) := by decide +kernel
theorem dX3_go_120 : decode cX3_go 120 = .ok (.iadd, 1) := by decide +kernel
theorem dX3_go_121 : decode cX3_go 121 = .ok (.iastore, 1) := by decide +kernel
theorem dX3_go_122 : decode cX3_go 122 = .ok (.aload_n 0, 1) := by decide +kernel
theorem dX3_go_123 : decode cX3_go 123 = .ok (.iload 4, 2) := by decide +kernel
theorem dX3_go_125 : decode cX3_go 125 = .ok (.bipush 15, 2) := by decide +kernel
theorem dX3_go_127 : decode cX3_go 127 = .ok (.if_icmp .ne 19, 3) := by decide +kernel
theorem dX3_go_130 : decode cX3_go 130 = .ok (.aload_n 0, 1) := by decide +kernel
theorem dX3_go_131 : decode cX3_go 131 = .ok (.getfield 17, 3) := by decide +kernel
theorem dX3_go_134 : decode cX3_go 134 = .ok (.aload_n 0, 1) := by decide +kernel
theorem dX3_go_135 : decode cX3_go 135 = .ok (.getfield 23, 3) := by decide +kernel
theorem dX3_go_138 : decode cX3_go 138 = .ok (.iconst 5, 1) := by decide +kernel
theorem dX3_go_139 : decode cX3_go 139 = .ok (.iload_n 1, 1) := by decide +kernel
theorem dX3_go_140 : decode cX3_go 140 = .ok (.imul, 1) := by decide +kernel
theorem dX3_go_141 : decode cX3_go 141 = .ok (.iaload, 1) := by decide +kernel
theorem dX3_go_142 : decode cX3_go 142 = .ok (.iaload, 1) := by decide +kernel
theorem dX3_go_143 : decode cX3_go 143 = .ok (.goto 11, 3) := by decide +kernel
theorem dX3_go_146 : decode cX3_go 146 = .ok (.aload_n 0, 1) := by decide +kernel
theorem dX3_go_147 : decode cX3_go 147 = .ok (.getfield 23, 3) := by decide +kernel
theorem dX3_go_150 : decode cX3_go 150 = .ok (.iconst 5, 1) := by decide +kernel
theorem dX3_go_151 : decode cX3_go 151 = .ok (.iload_n 1, 1) := by decide +kernel
theorem dX3_go_152 : decode cX3_go 152 = .ok (.imul, 1) := by decide +kernel
theorem dX3_go_153 : decode cX3_go 153 = .ok (.iaload, 1) := by decide +kernel
theorem dX3_go_154 : decode cX3_go 154 = .ok (.iload 4, 2) := by decide +kernel
theorem dX3_go_156 : decode cX3_go 156 = .ok (.bipush 10, 2) := by decide +kernel
theorem dX3_go_158 : decode cX3_go 158 = .ok (.if_icmp .ne 18, 3) := by decide +kernel
theorem dX3_go_161 : decode cX3_go 161 = .ok (.iload_n 2, 1) := by decide +kernel
theorem dX3_go_162 : decode cX3_go 162 = .ok (.aload_n 0, 1) := by decide +kernel
theorem dX3_go_163 : decode cX3_go 163 = .ok (.getfield 23, 3) := by decide +kernel
theorem dX3_go_166 : decode cX3_go 166 = .ok (.iconst 5, 1) := by decide +kernel
theorem dX3_go_167 : decode cX3_go 167 = .ok (.iload_n 1, 1) := by decide +kernel
theorem dX3_go_168 : decode cX3_go 168 = .ok (.imul, 1) := by decide +kernel
theorem dX3_go_169 : decode cX3_go 169 = .ok (.iconst 1, 1) := by decide +kernel
theorem dX3_go_170 : decode cX3_go 170 = .ok (.iadd, 1) := by decide +kernel
theorem dX3_go_171 : decode cX3_go 171 = .ok (.iaload, 1) := by decide +kernel
theorem dX3_go_172 : decode cX3_go 172 = .ok (.iadd, 1) := by decide +kernel
theorem dX3_go_173 : decode cX3_go 173 = .ok (.goto 4, 3) := by decide +kernel
theorem dX3_go_176 : decode cX3_go 176 = .ok (.iload_n 2, 1) := by decide +kernel
theorem dX3_go_177 : decode cX3_go 177 = .ok (.invokevirtual 118, 3) := by decide +kernel
theorem dX3_go_180 : decode cX3_go 180 = .ok (.goto 42, 3) := by decide +kernel
theorem dX3_go_183 : decode cX3_go 183 = .ok (.iload 4, 2) := by decide +kernel
theorem dX3_go_185 : decode cX3_go 185 = .ok (.bipush 7, 2) := by decide +kernel
theorem dX3_go_187 : decode cX3_go 187 = .ok (.if_icmp .gt 13, 3) := by decide +kernel
theorem dX3_go_190 : decode cX3_go 190 = .ok (.aload_n 0, 1) := by decide +kernel
theorem dX3_go_191 : decode cX3_go 191 = .ok (.iload_n 1, 1) := by decide +kernel
theorem dX3_go_192 : decode cX3_go 192 = .ok (.iload_n 2, 1) := by decide +kernel
theorem dX3_go_193 : decode cX3_go 193 = .ok (.iload_n 3, 1) := by decide +kernel
theorem dX3_go_194 : decode cX3_go 194 = .ok (.invokevirtual 133, 3) := by decide +kernel
theorem dX3_go_197 : decode cX3_go 197 = .ok (.goto 25, 3) := by decide +kernel
theorem dX3_go_200 : decode cX3_go 200 = .ok (.iload 4, 2) := by decide +kernel
theorem dX3_go_202 : decode cX3_go 202 = .ok (.bipush 9, 2) := by decide +kernel
theorem dX3_go_204 : decode cX3_go 204 = .ok (.if_icmp .ne 13, 3) := by decide +kernel
theorem dX3_go_207 : decode cX3_go 207 = .ok (.aload_n 0, 1) := by decide +kernel
theorem dX3_go_208 : decode cX3_go 208 = .ok (.iload_n 1, 1) := by decide +kernel
theorem dX3_go_209 : decode cX3_go 209 = .ok (.iload_n 2, 1) := by decide +kernel
theorem dX3_go_210 : decode cX3_go 210 = .ok (.iload_n 3, 1) := by decide +kernel
theorem dX3_go_211 : decode cX3_go 211 = .ok (.invokevirtual 136, 3) := by decide +kernel
theorem dX3_go_214 : decode cX3_go 214 = .ok (.goto 8, 3) := by decide +kernel
theorem dX3_go_217 : decode cX3_go 217 = .ok (.aload_n 0, 1) := by decide +kernel
theorem dX3_go_218 : decode cX3_go 218 = .ok (.iload_n 1, 1) := by decide +kernel
theorem dX3_go_219 : decode cX3_go 219 = .ok (.invokevirtual 139, 3) := by decide +kernel
theorem dX3_go_222 : decode cX3_go 222 = .ok (.return_, 1) := by decide +kernel
theorem dX3_asks_0 : decode cX3_asks 0 = .ok (.aload_n 0, 1) := by decide +kernel
theorem dX3_asks_1 : decode cX3_asks 1 = .ok (.iconst 0, 1) := by decide +kernel
theorem dX3_asks_2 : decode cX3_asks 2 = .ok (.putfield 96, 3) := by decide +kernel
theorem dX3_asks_5 : decode cX3_asks 5 = .ok (.aload_n 0, 1) := by decide +kernel
theorem dX3_asks_6 : decode cX3_asks 6 = .ok (.iconst 0, 1) := by decide +kernel
theorem dX3_asks_7 : decode cX3_asks 7 = .ok (.putfield 89, 3) := by decide +kernel
theorem dX3_asks_10 : decode cX3_asks 10 = .ok (.aload_n 0, 1) := by decide +kernel
theorem dX3_asks_11 : decode cX3_asks 11 = .ok (.iconst (-1), 1) := by decide +kernel
theorem dX3_asks_12 : decode cX3_asks 12 = .ok (.putfield 99, 3) := by decide +kernel
theorem dX3_asks_15 : decode cX3_asks 15 = .ok (.aload_n 0, 1) := by decide +kernel
theorem dX3_asks_16 : decode cX3_asks 16 = .ok (.iload_n 1, 1) := by decide +kernel
theorem dX3_asks_17 : decode cX3_asks 17 = .ok (.iload_n 2, 1) := by decide +kernel
theorem dX3_asks_18 : decode cX3_asks 18 = .ok (.invokevirtual 118, 3) := by decide +kernel
theorem dX3_asks_21 : decode cX3_asks 21 = .ok (.aload_n 0, 1) := by decide +kernel
theorem dX3_asks_22 : decode cX3_asks 22 = .ok (.getfield 89, 3) := by decide +kernel
theorem dX3_asks_25 : decode cX3_asks 25 = .ok (.ifCond .ne 17, 3) := by decide +kernel
theorem dX3_asks_28 : decode cX3_asks 28 = .ok (.aload_n 0, 1) := by decide +kernel
theorem dX3_asks_29 : decode cX3_asks 29 = .ok (.getfield 99, 3) := by decide +kernel
theorem dX3_asks_32 : decode cX3_asks 32 = .ok (.ifCond .lt 10, 3) := by decide +kernel
theorem dX3_asks_35 : decode cX3_asks 35 = .ok (.aload_n 0, 1) := by decide +kernel
theorem dX3_asks_36 : decode cX3_asks 36 = .ok (.invokevirtual 143, 3) := by decide +kernel
theorem dX3_asks_39 : decode cX3_asks 39 = .ok (.goto (-18), 3) := by decide +kernel
theorem dX3_asks_42 : decode cX3_asks 42 = .ok (.aload_n 0, 1) := by decide +kernel
theorem dX3_asks_43 : decode cX3_asks 43 = .ok (.getfield 89, 3) := by decide +kernel
theorem dX3_asks_46 : decode cX3_asks 46 = .ok (.ifCond .ne 7, 3) := by decide +kernel
theorem dX3_asks_49 : decode cX3_asks 49 = .ok (.iconst 1, 1) := by decide +kernel
theorem dX3_asks_50 : decode cX3_asks 50 = .ok (.goto 4, 3) := by decide +kernel
theorem dX3_asks_53 : decode cX3_asks 53 = .ok (.iconst 0, 1) := by decide +kernel
theorem dX3_asks_54 : decode cX3_asks 54 = .ok (.ireturn, 1) := by decide +kernel
theorem dX3_ask_0 : decode cX3_ask 0 = .ok (.aload_n 0, 1) := by decide +kernel
theorem dX3_ask_1 : decode cX3_ask 1 = .ok (.iload_n 1, 1) := by decide +kernel
theorem dX3_ask_2 : decode cX3_ask 2 = .ok (.invokevirtual 67, 3) := by decide +kernel
theorem dX3_ask_5 : decode cX3_ask 5 = .ok (.ifCond .ne 6, 3) := by decide +kernel
theorem dX3_ask_8 : decode cX3_ask 8 = .ok (.bipush (-101), 2) := by decide +kernel
theorem dX3_ask_10 : decode cX3_ask 10 = .ok (.ireturn, 1) := by decide +kernel
theorem dX3_ask_11 : decode cX3_ask 11 = .ok (.aload_n 0, 1) := by decide +kernel
theorem dX3_ask_12 : decode cX3_ask 12 = .ok (.iload_n 1, 1) := by decide +kernel
theorem dX3_ask_13 : decode cX3_ask 13 = .ok (.iload_n 2, 1) := by decide +kernel
theorem dX3_ask_14 : decode cX3_ask 14 = .ok (.invokevirtual 85, 3) := by decide +kernel
theorem dX3_ask_17 : decode cX3_ask 17 = .ok (.ifCond .ne 8, 3) := by decide +kernel
theorem dX3_ask_20 : decode cX3_ask 20 = .ok (.aload_n 0, 1) := by decide +kernel
theorem dX3_ask_21 : decode cX3_ask 21 = .ok (.getfield 89, 3) := by decide +kernel
theorem dX3_ask_24 : decode cX3_ask 24 = .ok (.ireturn, 1) := by decide +kernel
theorem dX3_ask_25 : decode cX3_ask 25 = .ok (.aload_n 0, 1) := by decide +kernel
theorem dX3_ask_26 : decode cX3_ask 26 = .ok (.aload_n 0, 1) := by decide +kernel
theorem dX3_ask_27 : decode cX3_ask 27 = .ok (.getfield 92, 3) := by decide +kernel
theorem dX3_ask_30 : decode cX3_ask 30 = .ok (.putfield 146, 3) := by decide +kernel
theorem dX3_ask_33 : decode cX3_ask 33 = .ok (.iconst 1, 1) := by decide +kernel
theorem dX3_ask_34 : decode cX3_ask 34 = .ok (.ireturn, 1) := by decide +kernel
theorem dX3_given_0 : decode cX3_given 0 = .ok (.aload_n 0, 1) := by decide +kernel
theorem dX3_given_1 : decode cX3_given 1 = .ok (.getfield 146, 3) := by decide +kernel
theorem dX3_given_4 : decode cX3_given 4 = .ok (.lreturn, 1) := by decide +kernel
theorem dX3_sluice_0 : decode cX3_sluice 0 = .ok (.aload_n 0, 1) := by decide +kernel
theorem dX3_sluice_1 : decode cX3_sluice 1 = .ok (.iload_n 1, 1) := by decide +kernel
theorem dX3_sluice_2 : decode cX3_sluice 2 = .ok (.invokevirtual 72, 3) := by decide +kernel
theorem dX3_sluice_5 : decode cX3_sluice 5 = .ok (.ifCond .eq 19, 3) := by decide +kernel
theorem dX3_sluice_8 : decode cX3_sluice 8 = .ok (.aload_n 0, 1) := by decide +kernel
theorem dX3_sluice_9 : decode cX3_sluice 9 = .ok (.iload_n 2, 1) := by decide +kernel
theorem dX3_sluice_10 : decode cX3_sluice 10 = .ok (.invokevirtual 72, 3) := by decide +kernel
theorem dX3_sluice_13 : decode cX3_sluice 13 = .ok (.ifCond .eq 11, 3) := by decide +kernel
theorem dX3_sluice_16 : decode cX3_sluice 16 = .ok (.aload_n 0, 1) := by decide +kernel
theorem dX3_sluice_17 : decode cX3_sluice 17 = .ok (.iload_n 3, 1) := by decide +kernel
theorem dX3_sluice_18 : decode cX3_sluice 18 = .ok (.invokevirtual 67, 3) := by decide +kernel
theorem dX3_sluice_21 : decode cX3_sluice 21 = .ok (.ifCond .ne 6, 3) := by decide +kernel
theorem dX3_sluice_24 : decode cX3_sluice 24 = .ok (.bipush (-101), 2) := by decide +kernel
theorem dX3_sluice_26 : decode cX3_sluice 26 = .ok (.ireturn, 1) := by decide +kernel
theorem dX3_sluice_27 : decode cX3_sluice 27 = .ok (.iload_n 1, 1) := by decide +kernel
theorem dX3_sluice_28 : decode cX3_sluice 28 = .ok (.iload_n 2, 1) := by decide +kernel
theorem dX3_sluice_29 : decode cX3_sluice 29 = .ok (.if_icmp .ne 6, 3) := by decide +kernel
theorem dX3_sluice_32 : decode cX3_sluice 32 = .ok (.bipush (-102), 2) := by decide +kernel
theorem dX3_sluice_34 : decode cX3_sluice 34 = .ok (.ireturn, 1) := by decide +kernel
theorem dX3_sluice_35 : decode cX3_sluice 35 = .ok (.aload_n 0, 1) := by decide +kernel
theorem dX3_sluice_36 : decode cX3_sluice 36 = .ok (.getfield 149, 3) := by decide +kernel
theorem dX3_sluice_39 : decode cX3_sluice 39 = .ok (.bipush 8, 2) := by decide +kernel
theorem dX3_sluice_41 : decode cX3_sluice 41 = .ok (.if_icmp .ne 6, 3) := by decide +kernel
theorem dX3_sluice_44 : decode cX3_sluice 44 = .ok (.bipush (-103), 2) := by decide +kernel
theorem dX3_sluice_46 : decode cX3_sluice 46 = .ok (.ireturn, 1) := by decide +kernel
theorem dX3_sluice_47 : decode cX3_sluice 47 = .ok (.aload_n 0, 1) := by decide +kernel
theorem dX3_sluice_48 : decode cX3_sluice 48 = .ok (.getfield 33, 3) := by decide +kernel
theorem dX3_sluice_51 : decode cX3_sluice 51 = .ok (.aload_n 0, 1) := by decide +kernel
theorem dX3_sluice_52 : decode cX3_sluice 52 = .ok (.getfield 149, 3) := by decide +kernel
theorem dX3_sluice_55 : decode cX3_sluice 55 = .ok (.iload_n 1, 1) := by decide +kernel
theorem dX3_sluice_56 : decode cX3_sluice 56 = .ok (.iastore, 1) := by decide +kernel
theorem dX3_sluice_57 : decode cX3_sluice 57 = .ok (.aload_n 0, 1) := by decide +kernel
theorem dX3_sluice_58 : decode cX3_sluice 58 = .ok (.getfield 36, 3) := by decide +kernel
theorem dX3_sluice_61 : decode cX3_sluice 61 = .ok (.aload_n 0, 1) := by decide +kernel
theorem dX3_sluice_62 : decode cX3_sluice 62 = .ok (.getfield 149, 3) := by decide +kernel
theorem dX3_sluice_65 : decode cX3_sluice 65 = .ok (.iload_n 2, 1) := by decide +kernel
theorem dX3_sluice_66 : decode cX3_sluice 66 = .ok (.iastore, 1) := by decide +kernel
theorem dX3_sluice_67 : decode cX3_sluice 67 = .ok (.aload_n 0, 1) := by decide +kernel
theorem dX3_sluice_68 : decode cX3_sluice 68 = .ok (.getfield 39, 3) := by decide +kernel
theorem dX3_sluice_71 : decode cX3_sluice 71 = .ok (.aload_n 0, 1) := by decide +kernel
theorem dX3_sluice_72 : decode cX3_sluice 72 = .ok (.getfield 149, 3) := by decide +kernel
theorem dX3_sluice_75 : decode cX3_sluice 75 = .ok (.iload_n 3, 1) := by decide +kernel
theorem dX3_sluice_76 : decode cX3_sluice 76 = .ok (.iastore, 1) := by decide +kernel
theorem dX3_sluice_77 : decode cX3_sluice 77 = .ok (.aload_n 0, 1) := by decide +kernel
theorem dX3_sluice_78 : decode cX3_sluice 78 = .ok (.dup, 1) := by decide +kernel
theorem dX3_sluice_79 : decode cX3_sluice 79 = .ok (.getfield 149, 3) := by decide +kernel
theorem dX3_sluice_82 : decode cX3_sluice 82 = .ok (.iconst 1, 1) := by decide +kernel
theorem dX3_sluice_83 : decode cX3_sluice 83 = .ok (.iadd, 1) := by decide +kernel
theorem dX3_sluice_84 : decode cX3_sluice 84 = .ok (.putfield 149, 3) := by decide +kernel
theorem dX3_sluice_87 : decode cX3_sluice 87 = .ok (.aload_n 0, 1) := by decide +kernel
theorem dX3_sluice_88 : decode cX3_sluice 88 = .ok (.getfield 149, 3) := by decide +kernel
theorem dX3_sluice_91 : decode cX3_sluice 91 = .ok (.iconst 1, 1) := by decide +kernel
theorem dX3_sluice_92 : decode cX3_sluice 92 = .ok (.isub, 1) := by decide +kernel
theorem dX3_sluice_93 : decode cX3_sluice 93 = .ok (.ireturn, 1) := by decide +kernel
theorem dX3_flows_0 : decode cX3_flows 0 = .ok (.aload_n 0, 1) := by decide +kernel
theorem dX3_flows_1 : decode cX3_flows 1 = .ok (.aload_n 0, 1) := by decide +kernel
theorem dX3_flows_2 : decode cX3_flows 2 = .ok (.getfield 39, 3) := by decide +kernel
theorem dX3_flows_5 : decode cX3_flows 5 = .ok (.iload_n 1, 1) := by decide +kernel
theorem dX3_flows_6 : decode cX3_flows 6 = .ok (.iaload, 1) := by decide +kernel
theorem dX3_flows_7 : decode cX3_flows 7 = .ok (.iload_n 2, 1) := by decide +kernel
theorem dX3_flows_8 : decode cX3_flows 8 = .ok (.invokevirtual 85, 3) := by decide +kernel
theorem dX3_flows_11 : decode cX3_flows 11 = .ok (.ifCond .ne 18, 3) := by decide +kernel
theorem dX3_flows_14 : decode cX3_flows 14 = .ok (.aload_n 0, 1) := by decide +kernel
theorem dX3_flows_15 : decode cX3_flows 15 = .ok (.iload_n 1, 1) := by decide +kernel
theorem dX3_flows_16 : decode cX3_flows 16 = .ok (.putfield 54, 3) := by decide +kernel
theorem dX3_flows_19 : decode cX3_flows 19 = .ok (.aload_n 0, 1) := by decide +kernel
theorem dX3_flows_20 : decode cX3_flows 20 = .ok (.aload_n 0, 1) := by decide +kernel
theorem dX3_flows_21 : decode cX3_flows 21 = .ok (.getfield 89, 3) := by decide +kernel
theorem dX3_flows_24 : decode cX3_flows 24 = .ok (.putfield 152, 3) := by decide +kernel
theorem dX3_flows_27 : decode cX3_flows 27 = .ok (.iconst 0, 1) := by decide +kernel
theorem dX3_flows_28 : decode cX3_flows 28 = .ok (.ireturn, 1) := by decide +kernel
theorem dX3_flows_29 : decode cX3_flows 29 = .ok (.ldc 71, 2) := by decide +kernel
theorem dX3_flows_31 : decode cX3_flows 31 = .ok (.aload_n 0, 1) := by decide +kernel
theorem dX3_flows_32 : decode cX3_flows 32 = .ok (.getfield 7, 3) := by decide +kernel
theorem dX3_flows_35 : decode cX3_flows 35 = .ok (.aload_n 0, 1) := by decide +kernel
theorem dX3_flows_36 : decode cX3_flows 36 = .ok (.getfield 36, 3) := by decide +kernel
theorem dX3_flows_39 : decode cX3_flows 39 = .ok (.iload_n 1, 1) := by decide +kernel
theorem dX3_flows_40 : decode cX3_flows 40 = .ok (.iaload, 1) := by decide +kernel
theorem dX3_flows_41 : decode cX3_flows 41 = .ok (.iaload, 1) := by decide +kernel
theorem dX3_flows_42 : decode cX3_flows 42 = .ok (.isub, 1) := by decide +kernel
theorem dX3_flows_43 : decode cX3_flows 43 = .ok (.istore_n 3, 1) := by decide +kernel
theorem dX3_flows_44 : decode cX3_flows 44 = .ok (.aload_n 0, 1) := by decide +kernel
theorem dX3_flows_45 : decode cX3_flows 45 = .ok (.getfield 7, 3) := by decide +kernel
theorem dX3_flows_48 : decode cX3_flows 48 = .ok (.aload_n 0, 1) := by decide +kernel
theorem dX3_flows_49 : decode cX3_flows 49 = .ok (.getfield 33, 3) := by decide +kernel
theorem dX3_flows_52 : decode cX3_flows 52 = .ok (.iload_n 1, 1) := by decide +kernel
theorem dX3_flows_53 : decode cX3_flows 53 = .ok (.iaload, 1) := by decide +kernel
theorem dX3_flows_54 : decode cX3_flows 54 = .ok (.iaload, 1) := by decide +kernel
theorem dX3_flows_55 : decode cX3_flows 55 = .ok (.iload_n 3, 1) := by decide +kernel
theorem dX3_flows_56 : decode cX3_flows 56 = .ok (.if_icmp .ge 17, 3) := by decide +kernel
theorem dX3_flows_59 : decode cX3_flows 59 = .ok (.aload_n 0, 1) := by decide +kernel
theorem dX3_flows_60 : decode cX3_flows 60 = .ok (.getfield 7, 3) := by decide +kernel
theorem dX3_flows_63 : decode cX3_flows 63 = .ok (.aload_n 0, 1) := by decide +kernel
theorem dX3_flows_64 : decode cX3_flows 64 = .ok (.getfield 33, 3) := by decide +kernel
theorem dX3_flows_67 : decode cX3_flows 67 = .ok (.iload_n 1, 1) := by decide +kernel
theorem dX3_flows_68 : decode cX3_flows 68 = .ok (.iaload, 1) := by decide +kernel
theorem dX3_flows_69 : decode cX3_flows 69 = .ok (.iaload, 1) := by decide +kernel
theorem dX3_flows_70 : decode cX3_flows 70 = .ok (.goto 4, 3) := by decide +kernel
theorem dX3_flows_73 : decode cX3_flows 73 = .ok (.iload_n 3, 1) := by decide +kernel
theorem dX3_flows_74 : decode cX3_flows 74 = .ok (.istore 4, 2) := by decide +kernel
theorem dX3_flows_76 : decode cX3_flows 76 = .ok (.aload_n 0, 1) := by decide +kernel
theorem dX3_flows_77 : decode cX3_flows 77 = .ok (.getfield 92, 3) := by decide +kernel
theorem dX3_flows_80 : decode cX3_flows 80 = .ok (.lconst 0, 1) := by decide +kernel
theorem dX3_flows_81 : decode cX3_flows 81 = .ok (.lcmp, 1) := by decide +kernel
theorem dX3_flows_82 : decode cX3_flows 82 = .ok (.ifCond .ge 7, 3) := by decide +kernel
theorem dX3_flows_85 : decode cX3_flows 85 = .ok (.iconst 0, 1) := by decide +kernel
theorem dX3_flows_86 : decode cX3_flows 86 = .ok (.goto 24, 3) := by decide +kernel
theorem dX3_flows_89 : decode cX3_flows 89 = .ok (.aload_n 0, 1) := by decide +kernel
theorem dX3_flows_90 : decode cX3_flows 90 = .ok (.getfield 92, 3) := by decide +kernel
theorem dX3_flows_93 : decode cX3_flows 93 = .ok (.iload 4, 2) := by decide +kernel
theorem dX3_flows_95 : decode cX3_flows 95 = .ok (.i2l, 1) := by decide +kernel
theorem dX3_flows_96 : decode cX3_flows 96 = .ok (.lcmp, 1) := by decide +kernel
theorem dX3_flows_97 : decode cX3_flows 97 = .ok (.ifCond .le 8, 3) := by decide +kernel
theorem dX3_flows_100 : decode cX3_flows 100 = .ok (.iload 4, 2) := by decide +kernel
theorem dX3_flows_102 : decode cX3_flows 102 = .ok (.goto 8, 3) := by decide +kernel
theorem dX3_flows_105 : decode cX3_flows 105 = .ok (.aload_n 0, 1) := by decide +kernel
theorem dX3_flows_106 : decode cX3_flows 106 = .ok (.getfield 92, 3) := by decide +kernel
theorem dX3_flows_109 : decode cX3_flows 109 = .ok (.l2i, 1) := by decide +kernel
theorem dX3_flows_110 : decode cX3_flows 110 = .ok (.istore 5, 2) := by decide +kernel
theorem dX3_flows_112 : decode cX3_flows 112 = .ok (.aload_n 0, 1) := by decide +kernel
theorem dX3_flows_113 : decode cX3_flows 113 = .ok (.getfield 7, 3) := by decide +kernel
theorem dX3_flows_116 : decode cX3_flows 116 = .ok (.aload_n 0, 1) := by decide +kernel
theorem dX3_flows_117 : decode cX3_flows 117 = .ok (.getfield 33, 3) := by decide +kernel
theorem dX3_flows_120 : decode cX3_flows 120 = .ok (.iload_n 1, 1) := by decide +kernel
theorem dX3_flows_121 : decode cX3_flows 121 = .ok (.iaload, 1) := by decide +kernel
theorem dX3_flows_122 : decode cX3_flows 122 = .ok (.dup2, 1) := by decide +kernel
theorem dX3_flows_123 : decode cX3_flows 123 = .ok (.iaload, 1) := by decide +kernel
theorem dX3_flows_124 : decode cX3_flows 124 = .ok (.iload 5, 2) := by decide +kernel
theorem dX3_flows_126 : decode cX3_flows 126 = .ok (.isub, 1) := by decide +kernel
theorem dX3_flows_127 : decode cX3_flows 127 = .ok (.iastore, 1) := by decide +kernel
theorem dX3_flows_128 : decode cX3_flows 128 = .ok (.aload_n 0, 1) := by decide +kernel
theorem dX3_flows_129 : decode cX3_flows 129 = .ok (.getfield 7, 3) := by decide +kernel
theorem dX3_flows_132 : decode cX3_flows 132 = .ok (.aload_n 0, 1) := by decide +kernel
theorem dX3_flows_133 : decode cX3_flows 133 = .ok (.getfield 36, 3) := by decide +kernel
theorem dX3_flows_136 : decode cX3_flows 136 = .ok (.iload_n 1, 1) := by decide +kernel
theorem dX3_flows_137 : decode cX3_flows 137 = .ok (.iaload, 1) := by decide +kernel
theorem dX3_flows_138 : decode cX3_flows 138 = .ok (.dup2, 1) := by decide +kernel
theorem dX3_flows_139 : decode cX3_flows 139 = .ok (.iaload, 1) := by decide +kernel
theorem dX3_flows_140 : decode cX3_flows 140 = .ok (.iload 5, 2) := by decide +kernel
theorem dX3_flows_142 : decode cX3_flows 142 = .ok (.iadd, 1) := by decide +kernel
theorem dX3_flows_143 : decode cX3_flows 143 = .ok (.iastore, 1) := by decide +kernel
theorem dX3_flows_144 : decode cX3_flows 144 = .ok (.aload_n 0, 1) := by decide +kernel
theorem dX3_flows_145 : decode cX3_flows 145 = .ok (.iload 5, 2) := by decide +kernel
theorem dX3_flows_147 : decode cX3_flows 147 = .ok (.putfield 155, 3) := by decide +kernel
theorem dX3_flows_150 : decode cX3_flows 150 = .ok (.iconst 1, 1) := by decide +kernel
theorem dX3_flows_151 : decode cX3_flows 151 = .ok (.ireturn, 1) := by decide +kernel
theorem dX3_run_0 : decode cX3_run 0 = .ok (.iload_n 2, 1) := by decide +kernel
theorem dX3_run_1 : decode cX3_run 1 = .ok (.iconst 0, 1) := by decide +kernel
theorem dX3_run_2 : decode cX3_run 2 = .ok (.bipush 100, 2) := by decide +kernel
theorem dX3_run_4 : decode cX3_run 4 = .ok (.invokestatic 60, 3) := by decide +kernel
theorem dX3_run_7 : decode cX3_run 7 = .ok (.ifCond .ne 6, 3) := by decide +kernel
theorem dX3_run_10 : decode cX3_run 10 = .ok (.bipush (-102), 2) := by decide +kernel
theorem dX3_run_12 : decode cX3_run 12 = .ok (.ireturn, 1) := by decide +kernel
theorem dX3_run_13 : decode cX3_run 13 = .ok (.aload_n 0, 1) := by decide +kernel
theorem dX3_run_14 : decode cX3_run 14 = .ok (.iconst (-1), 1) := by decide +kernel
theorem dX3_run_15 : decode cX3_run 15 = .ok (.putfield 54, 3) := by decide +kernel
theorem dX3_run_18 : decode cX3_run 18 = .ok (.aload_n 0, 1) := by decide +kernel
theorem dX3_run_19 : decode cX3_run 19 = .ok (.iconst 0, 1) := by decide +kernel
theorem dX3_run_20 : decode cX3_run 20 = .ok (.putfield 152, 3) := by decide +kernel
theorem dX3_run_23 : decode cX3_run 23 = .ok (.aload_n 0, 1) := by decide +kernel
theorem dX3_run_24 : decode cX3_run 24 = .ok (.iconst 0, 1) := by decide +kernel
theorem dX3_run_25 : decode cX3_run 25 = .ok (.putfield 155, 3) := by decide +kernel
theorem dX3_run_28 : decode cX3_run 28 = .ok (.iconst 0, 1) := by decide +kernel
theorem dX3_run_29 : decode cX3_run 29 = .ok (.istore_n 3, 1) := by decide +kernel
theorem dX3_run_30 : decode cX3_run 30 = .ok (.iconst 1, 1) := by decide +kernel
theorem dX3_run_31 : decode cX3_run 31 = .ok (.istore 4, 2) := by decide +kernel
theorem dX3_run_33 : decode cX3_run 33 = .ok (.iload 4, 2) := by decide +kernel
theorem dX3_run_35 : decode cX3_run 35 = .ok (.ifCond .eq 58, 3) := by decide +kernel
theorem dX3_run_38 : decode cX3_run 38 = .ok (.iload_n 3, 1) := by decide +kernel
theorem dX3_run_39 : decode cX3_run 39 = .ok (.iload_n 2, 1) := by decide +kernel
theorem dX3_run_40 : decode cX3_run 40 = .ok (.if_icmp .ge 53, 3) := by decide +kernel
theorem dX3_run_43 : decode cX3_run 43 = .ok (.iconst 0, 1) := by decide +kernel
theorem dX3_run_44 : decode cX3_run 44 = .ok (.istore 5, 2) := by decide +kernel
theorem dX3_run_46 : decode cX3_run 46 = .ok (.iload 5, 2) := by decide +kernel
theorem dX3_run_48 : decode cX3_run 48 = .ok (.aload_n 0, 1) := by decide +kernel
theorem dX3_run_49 : decode cX3_run 49 = .ok (.getfield 149, 3) := by decide +kernel
theorem dX3_run_52 : decode cX3_run 52 = .ok (.if_icmp .ge 25, 3) := by decide +kernel
theorem dX3_run_55 : decode cX3_run 55 = .ok (.iload 4, 2) := by decide +kernel
theorem dX3_run_57 : decode cX3_run 57 = .ok (.ifCond .eq 20, 3) := by decide +kernel
theorem dX3_run_60 : decode cX3_run 60 = .ok (.aload_n 0, 1) := by decide +kernel
theorem dX3_run_61 : decode cX3_run 61 = .ok (.iload 5, 2) := by decide +kernel
theorem dX3_run_63 : decode cX3_run 63 = .ok (.iload_n 1, 1) := by decide +kernel
theorem dX3_run_64 : decode cX3_run 64 = .ok (.iload_n 3, 1) := by decide +kernel
theorem dX3_run_65 : decode cX3_run 65 = .ok (.iadd, 1) := by decide +kernel
theorem dX3_run_66 : decode cX3_run 66 = .ok (.invokevirtual 158, 3) := by decide +kernel
theorem dX3_run_69 : decode cX3_run 69 = .ok (.istore 4, 2) := by decide +kernel
theorem dX3_run_71 : decode cX3_run 71 = .ok (.iinc 5 1, 3) := by decide +kernel
theorem dX3_run_74 : decode cX3_run 74 = .ok (.goto (-28), 3) := by decide +kernel
theorem dX3_run_77 : decode cX3_run 77 = .ok (.iload_n 3, 1) := by decide +kernel
theorem dX3_run_78 : decode cX3_run 78 = .ok (.iload 4, 2) := by decide +kernel
theorem dX3_run_80 : decode cX3_run 80 = .ok (.ifCond .eq 7, 3) := by decide +kernel
theorem dX3_run_83 : decode cX3_run 83 = .ok (.iconst 1, 1) := by decide +kernel
theorem dX3_run_84 : decode cX3_run 84 = .ok (.goto 4, 3) := by decide +kernel
theorem dX3_run_87 : decode cX3_run 87 = .ok (.iconst 0, 1) := by decide +kernel
theorem dX3_run_88 : decode cX3_run 88 = .ok (.iadd, 1) := by decide +kernel
theorem dX3_run_89 : decode cX3_run 89 = .ok (.istore_n 3, 1) := by decide +kernel
theorem dX3_run_90 : decode cX3_run 90 = .ok (.goto (-57), 3) := by decide +kernel
theorem dX3_run_93 : decode cX3_run 93 = .ok (.iload_n 3, 1) := by decide +kernel
theorem dX3_run_94 : decode cX3_run 94 = .ok (.ireturn, 1) := by decide +kernel
theorem dX3_told_0 : decode cX3_told 0 = .ok (.iload_n 1, 1) := by decide +kernel
theorem dX3_told_1 : decode cX3_told 1 = .ok (.ifCond .ne 10, 3) := by decide +kernel
theorem dX3_told_4 : decode cX3_told 4 = .ok (.aload_n 0, 1) := by decide +kernel
theorem dX3_told_5 : decode cX3_told 5 = .ok (.getfield 54, 3) := by decide +kernel
theorem dX3_told_8 : decode cX3_told 8 = .ok (.goto 29, 3) := by decide +kernel
theorem dX3_told_11 : decode cX3_told 11 = .ok (.iload_n 1, 1) := by decide +kernel
theorem dX3_told_12 : decode cX3_told 12 = .ok (.iconst 1, 1) := by decide +kernel
theorem dX3_told_13 : decode cX3_told 13 = .ok (.if_icmp .ne 10, 3) := by decide +kernel
theorem dX3_told_16 : decode cX3_told 16 = .ok (.aload_n 0, 1) := by decide +kernel
theorem dX3_told_17 : decode cX3_told 17 = .ok (.getfield 152, 3) := by decide +kernel
theorem dX3_told_20 : decode cX3_told 20 = .ok (.goto 17, 3) := by decide +kernel
theorem dX3_told_23 : decode cX3_told 23 = .ok (.iload_n 1, 1) := by decide +kernel
theorem dX3_told_24 : decode cX3_told 24 = .ok (.iconst 2, 1) := by decide +kernel
theorem dX3_told_25 : decode cX3_told 25 = .ok (.if_icmp .ne 10, 3) := by decide +kernel
theorem dX3_told_28 : decode cX3_told 28 = .ok (.aload_n 0, 1) := by decide +kernel
theorem dX3_told_29 : decode cX3_told 29 = .ok (.getfield 155, 3) := by decide +kernel
theorem dX3_told_32 : decode cX3_told 32 = .ok (.goto 5, 3) := by decide +kernel
theorem dX3_told_35 : decode cX3_told 35 = .ok (.bipush (-101), 2) := by decide +kernel
theorem dX3_told_37 : decode cX3_told 37 = .ok (.ireturn, 1) := by decide +kernel
theorem dX3_level_0 : decode cX3_level 0 = .ok (.aload_n 0, 1) := by decide +kernel
theorem dX3_level_1 : decode cX3_level 1 = .ok (.iload_n 1, 1) := by decide +kernel
theorem dX3_level_2 : decode cX3_level 2 = .ok (.invokevirtual 72, 3) := by decide +kernel
theorem dX3_level_5 : decode cX3_level 5 = .ok (.ifCond .eq 12, 3) := by decide +kernel
theorem dX3_level_8 : decode cX3_level 8 = .ok (.aload_n 0, 1) := by decide +kernel
theorem dX3_level_9 : decode cX3_level 9 = .ok (.getfield 7, 3) := by decide +kernel
theorem dX3_level_12 : decode cX3_level 12 = .ok (.iload_n 1, 1) := by decide +kernel
theorem dX3_level_13 : decode cX3_level 13 = .ok (.iaload, 1) := by decide +kernel
theorem dX3_level_14 : decode cX3_level 14 = .ok (.goto 5, 3) := by decide +kernel
theorem dX3_level_17 : decode cX3_level 17 = .ok (.bipush (-101), 2) := by decide +kernel
theorem dX3_level_19 : decode cX3_level 19 = .ok (.ireturn, 1) := by decide +kernel
theorem dX3_counted_0 : decode cX3_counted 0 = .ok (.aload_n 0, 1) := by decide +kernel
theorem dX3_counted_1 : decode cX3_counted 1 = .ok (.iload_n 1, 1) := by decide +kernel
theorem dX3_counted_2 : decode cX3_counted 2 = .ok (.invokevirtual 67, 3) := by decide +kernel
theorem dX3_counted_5 : decode cX3_counted 5 = .ok (.ifCond .eq 23, 3) := by decide +kernel
theorem dX3_counted_8 : decode cX3_counted 8 = .ok (.aload_n 0, 1) := by decide +kernel
theorem dX3_counted_9 : decode cX3_counted 9 = .ok (.getfield 20, 3) := by decide +kernel
theorem dX3_counted_12 : decode cX3_counted 12 = .ok (.iload_n 1, 1) := by decide +kernel
theorem dX3_counted_13 : decode cX3_counted 13 = .ok (.iaload, 1) := by decide +kernel
theorem dX3_counted_14 : decode cX3_counted 14 = .ok (.bipush 13, 2) := by decide +kernel
theorem dX3_counted_16 : decode cX3_counted 16 = .ok (.if_icmp .ne 12, 3) := by decide +kernel
theorem dX3_counted_19 : decode cX3_counted 19 = .ok (.aload_n 0, 1) := by decide +kernel
theorem dX3_counted_20 : decode cX3_counted 20 = .ok (.getfield 30, 3) := by decide +kernel
theorem dX3_counted_23 : decode cX3_counted 23 = .ok (.iload_n 1, 1) := by decide +kernel
theorem dX3_counted_24 : decode cX3_counted 24 = .ok (.iaload, 1) := by decide +kernel
theorem dX3_counted_25 : decode cX3_counted 25 = .ok (.goto 5, 3) := by decide +kernel
theorem dX3_counted_28 : decode cX3_counted 28 = .ok (.bipush (-101), 2) := by decide +kernel
theorem dX3_counted_30 : decode cX3_counted 30 = .ok (.ireturn, 1) := by decide +kernel
theorem dX3_count_0 : decode cX3_count 0 = .ok (.iload_n 1, 1) := by decide +kernel
theorem dX3_count_1 : decode cX3_count 1 = .ok (.bipush 8, 2) := by decide +kernel
theorem dX3_count_3 : decode cX3_count 3 = .ok (.bipush 15, 2) := by decide +kernel
theorem dX3_count_5 : decode cX3_count 5 = .ok (.invokestatic 60, 3) := by decide +kernel
theorem dX3_count_8 : decode cX3_count 8 = .ok (.ifCond .eq 13, 3) := by decide +kernel
theorem dX3_count_11 : decode cX3_count 11 = .ok (.aload_n 0, 1) := by decide +kernel
theorem dX3_count_12 : decode cX3_count 12 = .ok (.getfield 17, 3) := by decide +kernel
theorem dX3_count_15 : decode cX3_count 15 = .ok (.iload_n 1, 1) := by decide +kernel
theorem dX3_count_16 : decode cX3_count 16 = .ok (.bipush 8, 2) := by decide +kernel
theorem dX3_count_18 : decode cX3_count 18 = .ok (.isub, 1) := by decide +kernel
theorem dX3_count_19 : decode cX3_count 19 = .ok (.iaload, 1) := by decide +kernel
theorem dX3_count_20 : decode cX3_count 20 = .ok (.ireturn, 1) := by decide +kernel
theorem dX3_count_21 : decode cX3_count 21 = .ok (.iload_n 1, 1) := by decide +kernel
theorem dX3_count_22 : decode cX3_count 22 = .ok (.ifCond .ne 10, 3) := by decide +kernel
theorem dX3_count_25 : decode cX3_count 25 = .ok (.aload_n 0, 1) := by decide +kernel
theorem dX3_count_26 : decode cX3_count 26 = .ok (.getfield 57, 3) := by decide +kernel
theorem dX3_count_29 : decode cX3_count 29 = .ok (.goto 41, 3) := by decide +kernel
theorem dX3_count_32 : decode cX3_count 32 = .ok (.iload_n 1, 1) := by decide +kernel
theorem dX3_count_33 : decode cX3_count 33 = .ok (.iconst 1, 1) := by decide +kernel
theorem dX3_count_34 : decode cX3_count 34 = .ok (.if_icmp .ne 10, 3) := by decide +kernel
theorem dX3_count_37 : decode cX3_count 37 = .ok (.aload_n 0, 1) := by decide +kernel
theorem dX3_count_38 : decode cX3_count 38 = .ok (.getfield 64, 3) := by decide +kernel
theorem dX3_count_41 : decode cX3_count 41 = .ok (.goto 29, 3) := by decide +kernel
theorem dX3_count_44 : decode cX3_count 44 = .ok (.iload_n 1, 1) := by decide +kernel
theorem dX3_count_45 : decode cX3_count 45 = .ok (.iconst 2, 1) := by decide +kernel
theorem dX3_count_46 : decode cX3_count 46 = .ok (.if_icmp .ne 10, 3) := by decide +kernel
theorem dX3_count_49 : decode cX3_count 49 = .ok (.aload_n 0, 1) := by decide +kernel
theorem dX3_count_50 : decode cX3_count 50 = .ok (.getfield 149, 3) := by decide +kernel
theorem dX3_count_53 : decode cX3_count 53 = .ok (.goto 17, 3) := by decide +kernel
theorem dX3_count_56 : decode cX3_count 56 = .ok (.iload_n 1, 1) := by decide +kernel
theorem dX3_count_57 : decode cX3_count 57 = .ok (.iconst 3, 1) := by decide +kernel
theorem dX3_count_58 : decode cX3_count 58 = .ok (.if_icmp .ne 10, 3) := by decide +kernel
theorem dX3_count_61 : decode cX3_count 61 = .ok (.aload_n 0, 1) := by decide +kernel
theorem dX3_count_62 : decode cX3_count 62 = .ok (.getfield 96, 3) := by decide +kernel
theorem dX3_count_65 : decode cX3_count 65 = .ok (.goto 5, 3) := by decide +kernel
theorem dX3_count_68 : decode cX3_count 68 = .ok (.bipush (-101), 2) := by decide +kernel
theorem dX3_count_70 : decode cX3_count 70 = .ok (.ireturn, 1) := by decide +kernel
