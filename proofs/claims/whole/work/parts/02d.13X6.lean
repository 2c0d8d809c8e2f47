theorem dX6_init_0 : decode cX6_init 0 = .ok (.aload_n 0, 1) := by decide +kernel
theorem dX6_init_1 : decode cX6_init 1 = .ok (.invokespecial 3, 3) := by decide +kernel
theorem dX6_init_4 : decode cX6_init 4 = .ok (.aload_n 0, 1) := by decide +kernel
theorem dX6_init_5 : decode cX6_init 5 = .ok (.bipush 6, 2) := by decide +kernel
theorem dX6_init_7 : decode cX6_init 7 = .ok (.newarray .int, 2) := by decide +kernel
theorem dX6_init_9 : decode cX6_init 9 = .ok (.putfield 9, 3) := by decide +kernel
theorem dX6_init_12 : decode cX6_init 12 = .ok (.aload_n 0, 1) := by decide +kernel
theorem dX6_init_13 : decode cX6_init 13 = .ok (.bipush 8, 2) := by decide +kernel
theorem dX6_init_15 : decode cX6_init 15 = .ok (.newarray .int, 2) := by decide +kernel
theorem dX6_init_17 : decode cX6_init 17 = .ok (.putfield 15, 3) := by decide +kernel
theorem dX6_init_20 : decode cX6_init 20 = .ok (.aload_n 0, 1) := by decide +kernel
theorem dX6_init_21 : decode cX6_init 21 = .ok (.bipush 6, 2) := by decide +kernel
theorem dX6_init_23 : decode cX6_init 23 = .ok (.newarray .int, 2) := by decide +kernel
theorem dX6_init_25 : decode cX6_init 25 = .ok (.putfield 18, 3) := by decide +kernel
theorem dX6_init_28 : decode cX6_init 28 = .ok (.aload_n 0, 1) := by decide +kernel
theorem dX6_init_29 : decode cX6_init 29 = .ok (.sipush 720, 3) := by decide +kernel
theorem dX6_init_32 : decode cX6_init 32 = .ok (.newarray .int, 2) := by decide +kernel
theorem dX6_init_34 : decode cX6_init 34 = .ok (.putfield 21, 3) := by decide +kernel
theorem dX6_init_37 : decode cX6_init 37 = .ok (.aload_n 0, 1) := by decide +kernel
theorem dX6_init_38 : decode cX6_init 38 = .ok (.bipush 8, 2) := by decide +kernel
theorem dX6_init_40 : decode cX6_init 40 = .ok (.newarray .int, 2) := by decide +kernel
theorem dX6_init_42 : decode cX6_init 42 = .ok (.putfield 24, 3) := by decide +kernel
theorem dX6_init_45 : decode cX6_init 45 = .ok (.aload_n 0, 1) := by decide +kernel
theorem dX6_init_46 : decode cX6_init 46 = .ok (.aload_n 1, 1) := by decide +kernel
theorem dX6_init_47 : decode cX6_init 47 = .ok (.putfield 27, 3) := by decide +kernel
theorem dX6_init_50 : decode cX6_init 50 = .ok (.aload_n 0, 1) := by decide +kernel
theorem dX6_init_51 : decode cX6_init 51 = .ok (.aload_n 2, 1) := by decide +kernel
theorem dX6_init_52 : decode cX6_init 52 = .ok (.putfield 31, 3) := by decide +kernel
theorem dX6_init_55 : decode cX6_init 55 = .ok (.return_, 1) := by decide +kernel
theorem dX6_markStale_0 : decode cX6_markStale 0 = .ok (.aload_n 0, 1) := by decide +kernel
theorem dX6_markStale_1 : decode cX6_markStale 1 = .ok (.iconst 0, 1) := by decide +kernel
theorem dX6_markStale_2 : decode cX6_markStale 2 = .ok (.putfield 35, 3) := by decide +kernel
theorem dX6_markStale_5 : decode cX6_markStale 5 = .ok (.aload_n 0, 1) := by decide +kernel
theorem dX6_markStale_6 : decode cX6_markStale 6 = .ok (.iconst 0, 1) := by decide +kernel
theorem dX6_markStale_7 : decode cX6_markStale 7 = .ok (.putfield 39, 3) := by decide +kernel
theorem dX6_markStale_10 : decode cX6_markStale 10 = .ok (.return_, 1) := by decide +kernel
theorem dX6_findAbout_0 : decode cX6_findAbout 0 = .ok (.aload_n 0, 1) := by decide +kernel
theorem dX6_findAbout_1 : decode cX6_findAbout 1 = .ok (.getfield 35, 3) := by decide +kernel
theorem dX6_findAbout_4 : decode cX6_findAbout 4 = .ok (.ifCond .eq 4, 3) := by decide +kernel
theorem dX6_findAbout_7 : decode cX6_findAbout 7 = .ok (.return_, 1) := by decide +kernel
theorem dX6_findAbout_8 : decode cX6_findAbout 8 = .ok (.aload_n 0, 1) := by decide +kernel
theorem dX6_findAbout_9 : decode cX6_findAbout 9 = .ok (.iconst (-1), 1) := by decide +kernel
theorem dX6_findAbout_10 : decode cX6_findAbout 10 = .ok (.putfield 42, 3) := by decide +kernel
theorem dX6_findAbout_13 : decode cX6_findAbout 13 = .ok (.aload_n 0, 1) := by decide +kernel
theorem dX6_findAbout_14 : decode cX6_findAbout 14 = .ok (.iconst 0, 1) := by decide +kernel
theorem dX6_findAbout_15 : decode cX6_findAbout 15 = .ok (.putfield 46, 3) := by decide +kernel
theorem dX6_findAbout_18 : decode cX6_findAbout 18 = .ok (.aload_n 0, 1) := by decide +kernel
theorem dX6_findAbout_19 : decode cX6_findAbout 19 = .ok (.iconst 0, 1) := by decide +kernel
theorem dX6_findAbout_20 : decode cX6_findAbout 20 = .ok (.putfield 49, 3) := by decide +kernel
theorem dX6_findAbout_23 : decode cX6_findAbout 23 = .ok (.aload_n 0, 1) := by decide +kernel
theorem dX6_findAbout_24 : decode cX6_findAbout 24 = .ok (.aload_n 1, 1) := by decide +kernel
theorem dX6_findAbout_25 : decode cX6_findAbout 25 = .ok (.invokevirtual 52, 3) := by decide +kernel
theorem dX6_findAbout_28 : decode cX6_findAbout 28 = .ok (.aload_n 0, 1) := by decide +kernel
theorem dX6_findAbout_29 : decode cX6_findAbout 29 = .ok (.iconst 0, 1) := by decide +kernel
theorem dX6_findAbout_30 : decode cX6_findAbout 30 = .ok (.invokevirtual 56, 3) := by decide +kernel
theorem dX6_findAbout_33 : decode cX6_findAbout 33 = .ok (.aload_n 0, 1) := by decide +kernel
theorem dX6_findAbout_34 : decode cX6_findAbout 34 = .ok (.iconst 1, 1) := by decide +kernel
theorem dX6_findAbout_35 : decode cX6_findAbout 35 = .ok (.putfield 35, 3) := by decide +kernel
theorem dX6_findAbout_38 : decode cX6_findAbout 38 = .ok (.return_, 1) := by decide +kernel
theorem dX6_findWays_0 : decode cX6_findWays 0 = .ok (.aload_n 0, 1) := by decide +kernel
theorem dX6_findWays_1 : decode cX6_findWays 1 = .ok (.getfield 39, 3) := by decide +kernel
theorem dX6_findWays_4 : decode cX6_findWays 4 = .ok (.ifCond .eq 4, 3) := by decide +kernel
theorem dX6_findWays_7 : decode cX6_findWays 7 = .ok (.return_, 1) := by decide +kernel
theorem dX6_findWays_8 : decode cX6_findWays 8 = .ok (.aload_n 0, 1) := by decide +kernel
theorem dX6_findWays_9 : decode cX6_findWays 9 = .ok (.iconst 0, 1) := by decide +kernel
theorem dX6_findWays_10 : decode cX6_findWays 10 = .ok (.putfield 60, 3) := by decide +kernel
theorem dX6_findWays_13 : decode cX6_findWays 13 = .ok (.aload_n 0, 1) := by decide +kernel
theorem dX6_findWays_14 : decode cX6_findWays 14 = .ok (.iconst 1, 1) := by decide +kernel
theorem dX6_findWays_15 : decode cX6_findWays 15 = .ok (.putfield 49, 3) := by decide +kernel
theorem dX6_findWays_18 : decode cX6_findWays 18 = .ok (.aload_n 0, 1) := by decide +kernel
theorem dX6_findWays_19 : decode cX6_findWays 19 = .ok (.aload_n 1, 1) := by decide +kernel
theorem dX6_findWays_20 : decode cX6_findWays 20 = .ok (.invokevirtual 52, 3) := by decide +kernel
theorem dX6_findWays_23 : decode cX6_findWays 23 = .ok (.aload_n 0, 1) := by decide +kernel
theorem dX6_findWays_24 : decode cX6_findWays 24 = .ok (.iconst 0, 1) := by decide +kernel
theorem dX6_findWays_25 : decode cX6_findWays 25 = .ok (.invokevirtual 56, 3) := by decide +kernel
theorem dX6_findWays_28 : decode cX6_findWays 28 = .ok (.aload_n 0, 1) := by decide +kernel
theorem dX6_findWays_29 : decode cX6_findWays 29 = .ok (.iconst 1, 1) := by decide +kernel
theorem dX6_findWays_30 : decode cX6_findWays 30 = .ok (.putfield 39, 3) := by decide +kernel
theorem dX6_findWays_33 : decode cX6_findWays 33 = .ok (.return_, 1) := by decide +kernel
theorem dX6_startOver_0 : decode cX6_startOver 0 = .ok (.aload_n 0, 1) := by decide +kernel
theorem dX6_startOver_1 : decode cX6_startOver 1 = .ok (.getfield 27, 3) := by decide +kernel
theorem dX6_startOver_4 : decode cX6_startOver 4 = .ok (.aload_n 1, 1) := by decide +kernel
theorem dX6_startOver_5 : decode cX6_startOver 5 = .ok (.aload_n 1, 1) := by decide +kernel
theorem dX6_startOver_6 : decode cX6_startOver 6 = .ok (.invokevirtual 63, 3) := by decide +kernel
theorem dX6_startOver_9 : decode cX6_startOver 9 = .ok (.invokevirtual 69, 3) := by decide +kernel
theorem dX6_startOver_12 : decode cX6_startOver 12 = .ok (.aload_n 0, 1) := by decide +kernel
theorem dX6_startOver_13 : decode cX6_startOver 13 = .ok (.getfield 31, 3) := by decide +kernel
theorem dX6_startOver_16 : decode cX6_startOver 16 = .ok (.aload_n 1, 1) := by decide +kernel
theorem dX6_startOver_17 : decode cX6_startOver 17 = .ok (.invokevirtual 75, 3) := by decide +kernel
theorem dX6_startOver_20 : decode cX6_startOver 20 = .ok (.aload_n 0, 1) := by decide +kernel
theorem dX6_startOver_21 : decode cX6_startOver 21 = .ok (.getfield 9, 3) := by decide +kernel
theorem dX6_startOver_24 : decode cX6_startOver 24 = .ok (.iconst (-1), 1) := by decide +kernel
theorem dX6_startOver_25 : decode cX6_startOver 25 = .ok (.invokestatic 80, 3) := by decide +kernel
theorem dX6_startOver_28 : decode cX6_startOver 28 = .ok (.aload_n 0, 1) := by decide +kernel
theorem dX6_startOver_29 : decode cX6_startOver 29 = .ok (.getfield 15, 3) := by decide +kernel
theorem dX6_startOver_32 : decode cX6_startOver 32 = .ok (.iconst (-1), 1) := by decide +kernel
theorem dX6_startOver_33 : decode cX6_startOver 33 = .ok (.invokestatic 80, 3) := by decide +kernel
theorem dX6_startOver_36 : decode cX6_startOver 36 = .ok (.return_, 1) := by decide +kernel
theorem dX6_place_0 : decode cX6_place 0 = .ok (.aload_n 0, 1) := by decide +kernel
theorem dX6_place_1 : decode cX6_place 1 = .ok (.getfield 27, 3) := by decide +kernel
theorem dX6_place_4 : decode cX6_place 4 = .ok (.getfield 86, 3) := by decide +kernel
theorem dX6_place_7 : decode cX6_place 7 = .ok (.astore_n 2, 1) := by decide +kernel
theorem dX6_place_8 : decode cX6_place 8 = .ok (.iload_n 1, 1) := by decide +kernel
theorem dX6_place_9 : decode cX6_place 9 = .ok (.aload_n 2, 1) := by decide +kernel
theorem dX6_place_10 : decode cX6_place 10 = .ok (.getfield 90, 3) := by decide +kernel
theorem dX6_place_13 : decode cX6_place 13 = .ok (.if_icmp .lt 22, 3) := by decide +kernel
theorem dX6_place_16 : decode cX6_place 16 = .ok (.aload_n 0, 1) := by decide +kernel
theorem dX6_place_17 : decode cX6_place 17 = .ok (.getfield 49, 3) := by decide +kernel
theorem dX6_place_20 : decode cX6_place 20 = .ok (.ifCond .eq 10, 3) := by decide +kernel
theorem dX6_place_23 : decode cX6_place 23 = .ok (.aload_n 0, 1) := by decide +kernel
theorem dX6_place_24 : decode cX6_place 24 = .ok (.invokevirtual 93, 3) := by decide +kernel
theorem dX6_place_27 : decode cX6_place 27 = .ok (.goto 7, 3) := by decide +kernel
theorem dX6_place_30 : decode cX6_place 30 = .ok (.aload_n 0, 1) := by decide +kernel
theorem dX6_place_31 : decode cX6_place 31 = .ok (.invokevirtual 96, 3) := by decide +kernel
theorem dX6_place_34 : decode cX6_place 34 = .ok (.return_, 1) := by decide +kernel
theorem dX6_place_35 : decode cX6_place 35 = .ok (.aload_n 2, 1) := by decide +kernel
theorem dX6_place_36 : decode cX6_place 36 = .ok (.getfield 99, 3) := by decide +kernel
theorem dX6_place_39 : decode cX6_place 39 = .ok (.iload_n 1, 1) := by decide +kernel
theorem dX6_place_40 : decode cX6_place 40 = .ok (.iaload, 1) := by decide +kernel
theorem dX6_place_41 : decode cX6_place 41 = .ok (.iconst (-1), 1) := by decide +kernel
theorem dX6_place_42 : decode cX6_place 42 = .ok (.if_icmp .ne 11, 3) := by decide +kernel
theorem dX6_place_45 : decode cX6_place 45 = .ok (.aload_n 0, 1) := by decide +kernel
theorem dX6_place_46 : decode cX6_place 46 = .ok (.iload_n 1, 1) := by decide +kernel
theorem dX6_place_47 : decode cX6_place 47 = .ok (.iconst 1, 1) := by decide +kernel
theorem dX6_place_48 : decode cX6_place 48 = .ok (.iadd, 1) := by decide +kernel
theorem dX6_place_49 : decode cX6_place 49 = .ok (.invokevirtual 56, 3) := by decide +kernel
theorem dX6_place_52 : decode cX6_place 52 = .ok (.return_, 1) := by decide +kernel
theorem dX6_place_53 : decode cX6_place 53 = .ok (.iconst 0, 1) := by decide +kernel
theorem dX6_place_54 : decode cX6_place 54 = .ok (.istore_n 3, 1) := by decide +kernel
theorem dX6_place_55 : decode cX6_place 55 = .ok (.iload_n 3, 1) := by decide +kernel
theorem dX6_place_56 : decode cX6_place 56 = .ok (.aload_n 2, 1) := by decide +kernel
theorem dX6_place_57 : decode cX6_place 57 = .ok (.getfield 102, 3) := by decide +kernel
theorem dX6_place_60 : decode cX6_place 60 = .ok (.if_icmp .ge 66, 3) := by decide +kernel
theorem dX6_place_63 : decode cX6_place 63 = .ok (.aload_n 2, 1) := by decide +kernel
theorem dX6_place_64 : decode cX6_place 64 = .ok (.getfield 105, 3) := by decide +kernel
theorem dX6_place_67 : decode cX6_place 67 = .ok (.iload_n 3, 1) := by decide +kernel
theorem dX6_place_68 : decode cX6_place 68 = .ok (.iaload, 1) := by decide +kernel
theorem dX6_place_69 : decode cX6_place 69 = .ok (.iconst (-1), 1) := by decide +kernel
theorem dX6_place_70 : decode cX6_place 70 = .ok (.if_icmp .eq 50, 3) := by decide +kernel
theorem dX6_place_73 : decode cX6_place 73 = .ok (.aload_n 0, 1) := by decide +kernel
theorem dX6_place_74 : decode cX6_place 74 = .ok (.getfield 15, 3) := by decide +kernel
theorem dX6_place_77 : decode cX6_place 77 = .ok (.iload_n 3, 1) := by decide +kernel
theorem dX6_place_78 : decode cX6_place 78 = .ok (.iaload, 1) := by decide +kernel
theorem dX6_place_79 : decode cX6_place 79 = .ok (.iconst (-1), 1) := by decide +kernel
theorem dX6_place_80 : decode cX6_place 80 = .ok (.if_icmp .ne 40, 3) := by decide +kernel
theorem dX6_place_83 : decode cX6_place 83 = .ok (.aload_n 0, 1) := by decide +kernel
theorem dX6_place_84 : decode cX6_place 84 = .ok (.iload_n 1, 1) := by decide +kernel
theorem dX6_place_85 : decode cX6_place 85 = .ok (.iload_n 3, 1) := by decide +kernel
theorem dX6_place_86 : decode cX6_place 86 = .ok (.invokevirtual 108, 3) := by decide +kernel
theorem dX6_place_89 : decode cX6_place 89 = .ok (.ifCond .eq 31, 3) := by decide +kernel
theorem dX6_place_92 : decode cX6_place 92 = .ok (.aload_n 0, 1) := by decide +kernel
theorem dX6_place_93 : decode cX6_place 93 = .ok (.getfield 9, 3) := by decide +kernel
theorem dX6_place_96 : decode cX6_place 96 = .ok (.iload_n 1, 1) := by decide +kernel
theorem dX6_place_97 : decode cX6_place 97 = .ok (.iload_n 3, 1) := by decide +kernel
theorem dX6_place_98 : decode cX6_place 98 = .ok (.iastore, 1) := by decide +kernel
theorem dX6_place_99 : decode cX6_place 99 = .ok (.aload_n 0, 1) := by decide +kernel
theorem dX6_place_100 : decode cX6_place 100 = .ok (.getfield 15, 3) := by decide +kernel
theorem dX6_place_103 : decode cX6_place 103 = .ok (.iload_n 3, 1) := by decide +kernel
theorem dX6_place_104 : decode cX6_place 104 = .ok (.iload_n 1, 1) := by decide +kernel
theorem dX6_place_105 : decode cX6_place 105 = .ok (.iastore, 1) := by decide +kernel
theorem dX6_place_106 : decode cX6_place 106 = .ok (.aload_n 0, 1) := by decide +kernel
theorem dX6_place_107 : decode cX6_place 107 = .ok (.iload_n 1, 1) := by decide +kernel
theorem dX6_place_108 : decode cX6_place 108 = .ok (.iconst 1, 1) := by decide +kernel
theorem dX6_place_109 : decode cX6_place 109 = .ok (.iadd, 1) := by decide +kernel
theorem dX6_place_110 : decode cX6_place 110 = .ok (.invokevirtual 56, 3) := by decide +kernel
theorem dX6_place_113 : decode cX6_place 113 = .ok (.aload_n 0, 1) := by decide +kernel
theorem dX6_place_114 : decode cX6_place 114 = .ok (.getfield 15, 3) := by decide +kernel
theorem dX6_place_117 : decode cX6_place 117 = .ok (.iload_n 3, 1) := by decide +kernel
theorem dX6_place_118 : decode cX6_place 118 = .ok (.iconst (-1), 1) := by decide +kernel
theorem dX6_place_119 : decode cX6_place 119 = .ok (.iastore, 1) := by decide +kernel
theorem dX6_place_120 : decode cX6_place 120 = .ok (.iinc 3 1, 3) := by decide +kernel
theorem dX6_place_123 : decode cX6_place 123 = .ok (.goto (-68), 3) := by decide +kernel
theorem dX6_place_126 : decode cX6_place 126 = .ok (.aload_n 0, 1) := by decide +kernel
theorem dX6_place_127 : decode cX6_place 127 = .ok (.getfield 9, 3) := by decide +kernel
theorem dX6_place_130 : decode cX6_place 130 = .ok (.iload_n 1, 1) := by decide +kernel
theorem dX6_place_131 : decode cX6_place 131 = .ok (.iconst (-1), 1) := by decide +kernel
theorem dX6_place_132 : decode cX6_place 132 = .ok (.iastore, 1) := by decide +kernel
theorem dX6_place_133 : decode cX6_place 133 = .ok (.return_, 1) := by decide +kernel
theorem dX6_mayHave_0 : decode cX6_mayHave 0 = .ok (.aload_n 0, 1) := by decide +kernel
theorem dX6_mayHave_1 : decode cX6_mayHave 1 = .ok (.getfield 49, 3) := by decide +kernel
theorem dX6_mayHave_4 : decode cX6_mayHave 4 = .ok (.ifCond .ne 15, 3) := by decide +kernel
theorem dX6_mayHave_7 : decode cX6_mayHave 7 = .ok (.aload_n 0, 1) := by decide +kernel
theorem dX6_mayHave_8 : decode cX6_mayHave 8 = .ok (.getfield 27, 3) := by decide +kernel
theorem dX6_mayHave_11 : decode cX6_mayHave 11 = .ok (.iload_n 1, 1) := by decide +kernel
theorem dX6_mayHave_12 : decode cX6_mayHave 12 = .ok (.iload_n 2, 1) := by decide +kernel
theorem dX6_mayHave_13 : decode cX6_mayHave 13 = .ok (.invokevirtual 112, 3) := by decide +kernel
theorem dX6_mayHave_16 : decode cX6_mayHave 16 = .ok (.ifCond .ne 7, 3) := by decide +kernel
theorem dX6_mayHave_19 : decode cX6_mayHave 19 = .ok (.iconst 1, 1) := by decide +kernel
theorem dX6_mayHave_20 : decode cX6_mayHave 20 = .ok (.goto 4, 3) := by decide +kernel
theorem dX6_mayHave_23 : decode cX6_mayHave 23 = .ok (.iconst 0, 1) := by decide +kernel
theorem dX6_mayHave_24 : decode cX6_mayHave 24 = .ok (.ireturn, 1) := by decide +kernel
theorem dX6_keepIfBetter_0 : decode cX6_keepIfBetter 0 = .ok (.iconst 0, 1) := by decide +kernel
theorem dX6_keepIfBetter_1 : decode cX6_keepIfBetter 1 = .ok (.istore_n 1, 1) := by decide +kernel
theorem dX6_keepIfBetter_2 : decode cX6_keepIfBetter 2 = .ok (.iconst 0, 1) := by decide +kernel
theorem dX6_keepIfBetter_3 : decode cX6_keepIfBetter 3 = .ok (.istore_n 2, 1) := by decide +kernel
theorem dX6_keepIfBetter_4 : decode cX6_keepIfBetter 4 = .ok (.iload_n 2, 1) := by decide +kernel
theorem dX6_keepIfBetter_5 : decode cX6_keepIfBetter 5 = .ok (.aload_n 0, 1) := by decide +kernel
theorem dX6_keepIfBetter_6 : decode cX6_keepIfBetter 6 = .ok (.getfield 27, 3) := by decide +kernel
theorem dX6_keepIfBetter_9 : decode cX6_keepIfBetter 9 = .ok (.getfield 86, 3) := by decide +kernel
theorem dX6_keepIfBetter_12 : decode cX6_keepIfBetter 12 = .ok (.getfield 90, 3) := by decide +kernel
theorem dX6_keepIfBetter_15 : decode cX6_keepIfBetter 15 = .ok (.if_icmp .ge 39, 3) := by decide +kernel
theorem dX6_keepIfBetter_18 : decode cX6_keepIfBetter 18 = .ok (.aload_n 0, 1) := by decide +kernel
theorem dX6_keepIfBetter_19 : decode cX6_keepIfBetter 19 = .ok (.getfield 9, 3) := by decide +kernel
theorem dX6_keepIfBetter_22 : decode cX6_keepIfBetter 22 = .ok (.iload_n 2, 1) := by decide +kernel
theorem dX6_keepIfBetter_23 : decode cX6_keepIfBetter 23 = .ok (.iaload, 1) := by decide +kernel
theorem dX6_keepIfBetter_24 : decode cX6_keepIfBetter 24 = .ok (.iconst (-1), 1) := by decide +kernel
theorem dX6_keepIfBetter_25 : decode cX6_keepIfBetter 25 = .ok (.if_icmp .eq 23, 3) := by decide +kernel
theorem dX6_keepIfBetter_28 : decode cX6_keepIfBetter 28 = .ok (.aload_n 0, 1) := by decide +kernel
theorem dX6_keepIfBetter_29 : decode cX6_keepIfBetter 29 = .ok (.getfield 27, 3) := by decide +kernel
theorem dX6_keepIfBetter_32 : decode cX6_keepIfBetter 32 = .ok (.iload_n 2, 1) := by decide +kernel
theorem dX6_keepIfBetter_33 : decode cX6_keepIfBetter 33 = .ok (.aload_n 0, 1) := by decide +kernel
theorem dX6_keepIfBetter_34 : decode cX6_keepIfBetter 34 = .ok (.getfield 9, 3) := by decide +kernel
theorem dX6_keepIfBetter_37 : decode cX6_keepIfBetter 37 = .ok (.iload_n 2, 1) := by decide +kernel
theorem dX6_keepIfBetter_38 : decode cX6_keepIfBetter 38 = .ok (.iaload, 1) := by decide +kernel
theorem dX6_keepIfBetter_39 : decode cX6_keepIfBetter 39 = .ok (.invokevirtual 115, 3) := by decide +kernel
theorem dX6_keepIfBetter_42 : decode cX6_keepIfBetter 42 = .ok (.ifCond .eq 6, 3) := by decide +kernel
theorem dX6_keepIfBetter_45 : decode cX6_keepIfBetter 45 = .ok (.iinc 1 1, 3) := by decide +kernel
theorem dX6_keepIfBetter_48 : decode cX6_keepIfBetter 48 = .ok (.iinc 2 1, 3) := by decide +kernel
theorem dX6_keepIfBetter_51 : decode cX6_keepIfBetter 51 = .ok (.goto (-47), 3) := by decide +kernel
theorem dX6_keepIfBetter_54 : decode cX6_keepIfBetter 54 = .ok (.iload_n 1, 1) := by decide +kernel
theorem dX6_keepIfBetter_55 : decode cX6_keepIfBetter 55 = .ok (.aload_n 0, 1) := by decide +kernel
theorem dX6_keepIfBetter_56 : decode cX6_keepIfBetter 56 = .ok (.getfield 42, 3) := by decide +kernel
theorem dX6_keepIfBetter_59 : decode cX6_keepIfBetter 59 = .ok (.if_icmp .ge 4, 3) := by decide +kernel
theorem dX6_keepIfBetter_62 : decode cX6_keepIfBetter 62 = .ok (.return_, 1) := by decide +kernel
theorem dX6_keepIfBetter_63 : decode cX6_keepIfBetter 63 = .ok (.aload_n 0, 1) := by decide +kernel
theorem dX6_keepIfBetter_64 : decode cX6_keepIfBetter 64 = .ok (.getfield 31, 3) := by decide +kernel
theorem dX6_keepIfBetter_67 : decode cX6_keepIfBetter 67 = .ok (.aload_n 0, 1) := by decide +kernel
theorem dX6_keepIfBetter_68 : decode cX6_keepIfBetter 68 = .ok (.getfield 27, 3) := by decide +kernel
theorem dX6_keepIfBetter_71 : decode cX6_keepIfBetter 71 = .ok (.aload_n 0, 1) := by decide +kernel
theorem dX6_keepIfBetter_72 : decode cX6_keepIfBetter 72 = .ok (.getfield 15, 3) := by decide +kernel
theorem dX6_keepIfBetter_75 : decode cX6_keepIfBetter 75 = .ok (.bipush 7, 2) := by decide +kernel
theorem dX6_keepIfBetter_77 : decode cX6_keepIfBetter 77 = .ok (.invokevirtual 118, 3) := by decide +kernel
theorem dX6_keepIfBetter_80 : decode cX6_keepIfBetter 80 = .ok (.aload_n 0, 1) := by decide +kernel
theorem dX6_keepIfBetter_81 : decode cX6_keepIfBetter 81 = .ok (.getfield 31, 3) := by decide +kernel
theorem dX6_keepIfBetter_84 : decode cX6_keepIfBetter 84 = .ok (.aload_n 0, 1) := by decide +kernel
theorem dX6_keepIfBetter_85 : decode cX6_keepIfBetter 85 = .ok (.getfield 27, 3) := by decide +kernel
theorem dX6_keepIfBetter_88 : decode cX6_keepIfBetter 88 = .ok (.invokevirtual 122, 3) := by decide +kernel
theorem dX6_keepIfBetter_91 : decode cX6_keepIfBetter 91 = .ok (.istore_n 2, 1) := by decide +kernel
theorem dX6_keepIfBetter_92 : decode cX6_keepIfBetter 92 = .ok (.iload_n 1, 1) := by decide +kernel
theorem dX6_keepIfBetter_93 : decode cX6_keepIfBetter 93 = .ok (.aload_n 0, 1) := by decide +kernel
theorem dX6_keepIfBetter_94 : decode cX6_keepIfBetter 94 = .ok (.getfield 42, 3) := by decide +kernel
theorem dX6_keepIfBetter_97 : decode cX6_keepIfBetter 97 = .ok (.if_icmp .gt 11, 3) := by decide +kernel
theorem dX6_keepIfBetter_100 : decode cX6_keepIfBetter 100 = .ok (.iload_n 2, 1) := by decide +kernel
theorem dX6_keepIfBetter_101 : decode cX6_keepIfBetter 101 = .ok (.aload_n 0, 1) := by decide +kernel
theorem dX6_keepIfBetter_102 : decode cX6_keepIfBetter 102 = .ok (.getfield 46, 3) := by decide +kernel
theorem dX6_keepIfBetter_105 : decode cX6_keepIfBetter 105 = .ok (.if_icmp .ge 28, 3) := by decide +kernel
theorem dX6_keepIfBetter_108 : decode cX6_keepIfBetter 108 = .ok (.aload_n 0, 1) := by decide +kernel
theorem dX6_keepIfBetter_109 : decode cX6_keepIfBetter 109 = .ok (.iload_n 1, 1) := by decide +kernel
theorem dX6_keepIfBetter_110 : decode cX6_keepIfBetter 110 = .ok (.putfield 42, 3) := by decide +kernel
theorem dX6_keepIfBetter_113 : decode cX6_keepIfBetter 113 = .ok (.aload_n 0, 1) := by decide +kernel
theorem dX6_keepIfBetter_114 : decode cX6_keepIfBetter 114 = .ok (.iload_n 2, 1) := by decide +kernel
theorem dX6_keepIfBetter_115 : decode cX6_keepIfBetter 115 = .ok (.putfield 46, 3) := by decide +kernel
theorem dX6_keepIfBetter_118 : decode cX6_keepIfBetter 118 = .ok (.aload_n 0, 1) := by decide +kernel
theorem dX6_keepIfBetter_119 : decode cX6_keepIfBetter 119 = .ok (.getfield 9, 3) := by decide +kernel
theorem dX6_keepIfBetter_122 : decode cX6_keepIfBetter 122 = .ok (.iconst 0, 1) := by decide +kernel
theorem dX6_keepIfBetter_123 : decode cX6_keepIfBetter 123 = .ok (.aload_n 0, 1) := by decide +kernel
theorem dX6_keepIfBetter_124 : decode cX6_keepIfBetter 124 = .ok (.getfield 18, 3) := by decide +kernel
theorem dX6_keepIfBetter_127 : decode cX6_keepIfBetter 127 = .ok (.iconst 0, 1) := by decide +kernel
theorem dX6_keepIfBetter_128 : decode cX6_keepIfBetter 128 = .ok (.bipush 6, 2) := by decide +kernel
theorem dX6_keepIfBetter_130 : decode cX6_keepIfBetter 130 = .ok (.invokestatic 126, 3) := by decide +kernel
theorem dX6_keepIfBetter_133 : decode cX6_keepIfBetter 133 = .ok (.return_, 1) := by decide +kernel
theorem dX6_keepIfAsTold_0 : decode cX6_keepIfAsTold 0 = .ok (.aload_n 0, 1) := by decide +kernel
theorem dX6_keepIfAsTold_1 : decode cX6_keepIfAsTold 1 = .ok (.getfield 27, 3) := by decide +kernel
theorem dX6_keepIfAsTold_4 : decode cX6_keepIfAsTold 4 = .ok (.getfield 86, 3) := by decide +kernel
theorem dX6_keepIfAsTold_7 : decode cX6_keepIfAsTold 7 = .ok (.astore_n 1, 1) := by decide +kernel
theorem dX6_keepIfAsTold_8 : decode cX6_keepIfAsTold 8 = .ok (.aload_n 1, 1) := by decide +kernel
theorem dX6_keepIfAsTold_9 : decode cX6_keepIfAsTold 9 = .ok (.getfield 132, 3) := by decide +kernel
theorem dX6_keepIfAsTold_12 : decode cX6_keepIfAsTold 12 = .ok (.ifCond .le 20, 3) := by decide +kernel
theorem dX6_keepIfAsTold_15 : decode cX6_keepIfAsTold 15 = .ok (.aload_n 0, 1) := by decide +kernel
theorem dX6_keepIfAsTold_16 : decode cX6_keepIfAsTold 16 = .ok (.getfield 31, 3) := by decide +kernel
theorem dX6_keepIfAsTold_19 : decode cX6_keepIfAsTold 19 = .ok (.aload_n 0, 1) := by decide +kernel
theorem dX6_keepIfAsTold_20 : decode cX6_keepIfAsTold 20 = .ok (.getfield 27, 3) := by decide +kernel
theorem dX6_keepIfAsTold_23 : decode cX6_keepIfAsTold 23 = .ok (.aload_n 0, 1) := by decide +kernel
theorem dX6_keepIfAsTold_24 : decode cX6_keepIfAsTold 24 = .ok (.getfield 15, 3) := by decide +kernel
theorem dX6_keepIfAsTold_27 : decode cX6_keepIfAsTold 27 = .ok (.bipush 7, 2) := by decide +kernel
theorem dX6_keepIfAsTold_29 : decode cX6_keepIfAsTold 29 = .ok (.invokevirtual 118, 3) := by decide +kernel
theorem dX6_keepIfAsTold_32 : decode cX6_keepIfAsTold 32 = .ok (.iconst 0, 1) := by decide +kernel
theorem dX6_keepIfAsTold_33 : decode cX6_keepIfAsTold 33 = .ok (.istore_n 2, 1) := by decide +kernel
theorem dX6_keepIfAsTold_34 : decode cX6_keepIfAsTold 34 = .ok (.iload_n 2, 1) := by decide +kernel
theorem dX6_keepIfAsTold_35 : decode cX6_keepIfAsTold 35 = .ok (.aload_n 1, 1) := by decide +kernel
theorem dX6_keepIfAsTold_36 : decode cX6_keepIfAsTold 36 = .ok (.getfield 132, 3) := by decide +kernel
theorem dX6_keepIfAsTold_39 : decode cX6_keepIfAsTold 39 = .ok (.if_icmp .ge 33, 3) := by decide +kernel
theorem dX6_keepIfAsTold_42 : decode cX6_keepIfAsTold 42 = .ok (.aload_n 0, 1) := by decide +kernel
theorem dX6_keepIfAsTold_43 : decode cX6_keepIfAsTold 43 = .ok (.getfield 31, 3) := by decide +kernel
theorem dX6_keepIfAsTold_46 : decode cX6_keepIfAsTold 46 = .ok (.getfield 135, 3) := by decide +kernel
theorem dX6_keepIfAsTold_49 : decode cX6_keepIfAsTold 49 = .ok (.aload_n 1, 1) := by decide +kernel
theorem dX6_keepIfAsTold_50 : decode cX6_keepIfAsTold 50 = .ok (.getfield 138, 3) := by decide +kernel
theorem dX6_keepIfAsTold_53 : decode cX6_keepIfAsTold 53 = .ok (.iload_n 2, 1) := by decide +kernel
theorem dX6_keepIfAsTold_54 : decode cX6_keepIfAsTold 54 = .ok (.iaload, 1) := by decide +kernel
theorem dX6_keepIfAsTold_55 : decode cX6_keepIfAsTold 55 = .ok (.iaload, 1) := by decide +kernel
theorem dX6_keepIfAsTold_56 : decode cX6_keepIfAsTold 56 = .ok (.aload_n 1, 1) := by decide +kernel
theorem dX6_keepIfAsTold_57 : decode cX6_keepIfAsTold 57 = .ok (.getfield 141, 3) := by decide +kernel
theorem dX6_keepIfAsTold_60 : decode cX6_keepIfAsTold 60 = .ok (.iload_n 2, 1) := by decide +kernel
theorem dX6_keepIfAsTold_61 : decode cX6_keepIfAsTold 61 = .ok (.iaload, 1) := by decide +kernel
theorem dX6_keepIfAsTold_62 : decode cX6_keepIfAsTold 62 = .ok (.if_icmp .eq 4, 3) := by decide +kernel
theorem dX6_keepIfAsTold_65 : decode cX6_keepIfAsTold 65 = .ok (.return_, 1) := by decide +kernel
theorem dX6_keepIfAsTold_66 : decode cX6_keepIfAsTold 66 = .ok (.iinc 2 1, 3) := by decide +kernel
theorem dX6_keepIfAsTold_69 : decode cX6_keepIfAsTold 69 = .ok (.goto (-35), 3) := by decide +kernel
theorem dX6_keepIfAsTold_72 : decode cX6_keepIfAsTold 72 = .ok (.iconst 0, 1) := by decide +kernel
theorem dX6_keepIfAsTold_73 : decode cX6_keepIfAsTold 73 = .ok (.istore_n 2, 1) := by decide +kernel
theorem dX6_keepIfAsTold_74 : decode cX6_keepIfAsTold 74 = .ok (.iconst 0, 1) := by decide +kernel
theorem dX6_keepIfAsTold_75 : decode cX6_keepIfAsTold 75 = .ok (.istore_n 3, 1) := by decide +kernel
theorem dX6_keepIfAsTold_76 : decode cX6_keepIfAsTold 76 = .ok (.iload_n 3, 1) := by decide +kernel
theorem dX6_keepIfAsTold_77 : decode cX6_keepIfAsTold 77 = .ok (.aload_n 1, 1) := by decide +kernel
theorem dX6_keepIfAsTold_78 : decode cX6_keepIfAsTold 78 = .ok (.getfield 90, 3) := by decide +kernel
theorem dX6_keepIfAsTold_81 : decode cX6_keepIfAsTold 81 = .ok (.if_icmp .ge 26, 3) := by decide +kernel
theorem dX6_keepIfAsTold_84 : decode cX6_keepIfAsTold 84 = .ok (.iload_n 2, 1) := by decide +kernel
theorem dX6_keepIfAsTold_85 : decode cX6_keepIfAsTold 85 = .ok (.aload_n 0, 1) := by decide +kernel
theorem dX6_keepIfAsTold_86 : decode cX6_keepIfAsTold 86 = .ok (.getfield 9, 3) := by decide +kernel
theorem dX6_keepIfAsTold_89 : decode cX6_keepIfAsTold 89 = .ok (.iload_n 3, 1) := by decide +kernel
theorem dX6_keepIfAsTold_90 : decode cX6_keepIfAsTold 90 = .ok (.iaload, 1) := by decide +kernel
theorem dX6_keepIfAsTold_91 : decode cX6_keepIfAsTold 91 = .ok (.iconst 0, 1) := by decide +kernel
theorem dX6_keepIfAsTold_92 : decode cX6_keepIfAsTold 92 = .ok (.invokestatic 144, 3) := by decide +kernel
theorem dX6_keepIfAsTold_95 : decode cX6_keepIfAsTold 95 = .ok (.iconst 3, 1) := by decide +kernel
theorem dX6_keepIfAsTold_96 : decode cX6_keepIfAsTold 96 = .ok (.iload_n 3, 1) := by decide +kernel
theorem dX6_keepIfAsTold_97 : decode cX6_keepIfAsTold 97 = .ok (.imul, 1) := by decide +kernel
theorem dX6_keepIfAsTold_98 : decode cX6_keepIfAsTold 98 = .ok (.ishl, 1) := by decide +kernel
theorem dX6_keepIfAsTold_99 : decode cX6_keepIfAsTold 99 = .ok (.ior, 1) := by decide +kernel
theorem dX6_keepIfAsTold_100 : decode cX6_keepIfAsTold 100 = .ok (.istore_n 2, 1) := by decide +kernel
theorem dX6_keepIfAsTold_101 : decode cX6_keepIfAsTold 101 = .ok (.iinc 3 1, 3) := by decide +kernel
theorem dX6_keepIfAsTold_104 : decode cX6_keepIfAsTold 104 = .ok (.goto (-28), 3) := by decide +kernel
theorem dX6_keepIfAsTold_107 : decode cX6_keepIfAsTold 107 = .ok (.aload_n 0, 1) := by decide +kernel
theorem dX6_keepIfAsTold_108 : decode cX6_keepIfAsTold 108 = .ok (.getfield 60, 3) := by decide +kernel
theorem dX6_keepIfAsTold_111 : decode cX6_keepIfAsTold 111 = .ok (.sipush 720, 3) := by decide +kernel
theorem dX6_keepIfAsTold_114 : decode cX6_keepIfAsTold 114 = .ok (.if_icmp .ge 23, 3) := by decide +kernel
theorem dX6_keepIfAsTold_117 : decode cX6_keepIfAsTold 117 = .ok (.aload_n 0, 1) := by decide +kernel
theorem dX6_keepIfAsTold_118 : decode cX6_keepIfAsTold 118 = .ok (.getfield 21, 3) := by decide +kernel
theorem dX6_keepIfAsTold_121 : decode cX6_keepIfAsTold 121 = .ok (.aload_n 0, 1) := by decide +kernel
theorem dX6_keepIfAsTold_122 : decode cX6_keepIfAsTold 122 = .ok (.getfield 60, 3) := by decide +kernel
theorem dX6_keepIfAsTold_125 : decode cX6_keepIfAsTold 125 = .ok (.iload_n 2, 1) := by decide +kernel
theorem dX6_keepIfAsTold_126 : decode cX6_keepIfAsTold 126 = .ok (.iastore, 1) := by decide +kernel
theorem dX6_keepIfAsTold_127 : decode cX6_keepIfAsTold 127 = .ok (.aload_n 0, 1) := by decide +kernel
theorem dX6_keepIfAsTold_128 : decode cX6_keepIfAsTold 128 = .ok (.dup, 1) := by decide +kernel
theorem dX6_keepIfAsTold_129 : decode cX6_keepIfAsTold 129 = .ok (.getfield 60, 3) := by decide +kernel
theorem dX6_keepIfAsTold_132 : decode cX6_keepIfAsTold 132 = .ok (.iconst 1, 1) := by decide +kernel
theorem dX6_keepIfAsTold_133 : decode cX6_keepIfAsTold 133 = .ok (.iadd, 1) := by decide +kernel
theorem dX6_keepIfAsTold_134 : decode cX6_keepIfAsTold 134 = .ok (.putfield 60, 3) := by decide +kernel
theorem dX6_keepIfAsTold_137 : decode cX6_keepIfAsTold 137 = .ok (.return_, 1) := by decide +kernel
theorem dX6_ticketIn_0 : decode cX6_ticketIn 0 = .ok (.aload_n 0, 1) := by decide +kernel
theorem dX6_ticketIn_1 : decode cX6_ticketIn 1 = .ok (.getfield 21, 3) := by decide +kernel
theorem dX6_ticketIn_4 : decode cX6_ticketIn 4 = .ok (.iload_n 1, 1) := by decide +kernel
theorem dX6_ticketIn_5 : decode cX6_ticketIn 5 = .ok (.iaload, 1) := by decide +kernel
theorem dX6_ticketIn_6 : decode cX6_ticketIn 6 = .ok (.iconst 3, 1) := by decide +kernel
theorem dX6_ticketIn_7 : decode cX6_ticketIn 7 = .ok (.iload_n 2, 1) := by decide +kernel
theorem dX6_ticketIn_8 : decode cX6_ticketIn 8 = .ok (.imul, 1) := by decide +kernel
theorem dX6_ticketIn_9 : decode cX6_ticketIn 9 = .ok (.ishr, 1) := by decide +kernel
theorem dX6_ticketIn_10 : decode cX6_ticketIn 10 = .ok (.bipush 7, 2) := by decide +kernel
theorem dX6_ticketIn_12 : decode cX6_ticketIn 12 = .ok (.iand, 1) := by decide +kernel
theorem dX6_ticketIn_13 : decode cX6_ticketIn 13 = .ok (.ireturn, 1) := by decide +kernel
theorem dX6_mostWaysAlike_0 : decode cX6_mostWaysAlike 0 = .ok (.aload_n 0, 1) := by decide +kernel
theorem dX6_mostWaysAlike_1 : decode cX6_mostWaysAlike 1 = .ok (.getfield 24, 3) := by decide +kernel
theorem dX6_mostWaysAlike_4 : decode cX6_mostWaysAlike 4 = .ok (.iconst 0, 1) := by decide +kernel
theorem dX6_mostWaysAlike_5 : decode cX6_mostWaysAlike 5 = .ok (.invokestatic 80, 3) := by decide +kernel
theorem dX6_mostWaysAlike_8 : decode cX6_mostWaysAlike 8 = .ok (.iconst 0, 1) := by decide +kernel
theorem dX6_mostWaysAlike_9 : decode cX6_mostWaysAlike 9 = .ok (.istore_n 2, 1) := by decide +kernel
theorem dX6_mostWaysAlike_10 : decode cX6_mostWaysAlike 10 = .ok (.iconst 0, 1) := by decide +kernel
theorem dX6_mostWaysAlike_11 : decode cX6_mostWaysAlike 11 = .ok (.istore_n 3, 1) := by decide +kernel
theorem dX6_mostWaysAlike_12 : decode cX6_mostWaysAlike 12 = .ok (.iload_n 3, 1) := by decide +kernel
theorem dX6_mostWaysAlike_13 : decode cX6_mostWaysAlike 13 = .ok (.aload_n 0, 1) := by decide +kernel
theorem dX6_mostWaysAlike_14 : decode cX6_mostWaysAlike 14 = .ok (.getfield 60, 3) := by decide +kernel
theorem dX6_mostWaysAlike_17 : decode cX6_mostWaysAlike 17 = .ok (.if_icmp .ge 40, 3) := by decide +kernel
theorem dX6_mostWaysAlike_20 : decode cX6_mostWaysAlike 20 = .ok (.aload_n 0, 1) := by decide +kernel
theorem dX6_mostWaysAlike_21 : decode cX6_mostWaysAlike 21 = .ok (.iload_n 3, 1) := by decide +kernel
theorem dX6_mostWaysAlike_22 : decode cX6_mostWaysAlike 22 = .ok (.iload_n 1, 1) := by decide +kernel
theorem dX6_mostWaysAlike_23 : decode cX6_mostWaysAlike 23 = .ok (.invokevirtual 150, 3) := by decide +kernel
theorem dX6_mostWaysAlike_26 : decode cX6_mostWaysAlike 26 = .ok (.istore 4, 2) := by decide +kernel
theorem dX6_mostWaysAlike_28 : decode cX6_mostWaysAlike 28 = .ok (.aload_n 0, 1) := by decide +kernel
theorem dX6_mostWaysAlike_29 : decode cX6_mostWaysAlike 29 = .ok (.getfield 24, 3) := by decide +kernel
theorem dX6_mostWaysAlike_32 : decode cX6_mostWaysAlike 32 = .ok (.iload 4, 2) := by decide +kernel
theorem dX6_mostWaysAlike_34 : decode cX6_mostWaysAlike 34 = .ok (.dup2, 1) := by decide +kernel
theorem dX6_mostWaysAlike_35 : decode cX6_mostWaysAlike 35 = .ok (.iaload, 1) := by decide +kernel
theorem dX6_mostWaysAlike_36 : decode cX6_mostWaysAlike 36 = .ok (.iconst 1, 1) := by decide +kernel
theorem dX6_mostWaysAlike_37 : decode cX6_mostWaysAlike 37 = .ok (.iadd, 1) := by decide +kernel
theorem dX6_mostWaysAlike_38 : decode cX6_mostWaysAlike 38 = .ok (.iastore, 1) := by decide +kernel
theorem dX6_mostWaysAlike_39 : decode cX6_mostWaysAlike 39 = .ok (.iload_n 2, 1) := by decide +kernel
theorem dX6_mostWaysAlike_40 : decode cX6_mostWaysAlike 40 = .ok (.aload_n 0, 1) := by decide +kernel
theorem dX6_mostWaysAlike_41 : decode cX6_mostWaysAlike 41 = .ok (.getfield 24, 3) := by decide +kernel
theorem dX6_mostWaysAlike_44 : decode cX6_mostWaysAlike 44 = .ok (.iload 4, 2) := by decide +kernel
theorem dX6_mostWaysAlike_46 : decode cX6_mostWaysAlike 46 = .ok (.iaload, 1) := by decide +kernel
theorem dX6_mostWaysAlike_47 : decode cX6_mostWaysAlike 47 = .ok (.invokestatic 144, 3) := by decide +kernel
theorem dX6_mostWaysAlike_50 : decode cX6_mostWaysAlike 50 = .ok (.istore_n 2, 1) := by decide +kernel
theorem dX6_mostWaysAlike_51 : decode cX6_mostWaysAlike 51 = .ok (.iinc 3 1, 3) := by decide +kernel
theorem dX6_mostWaysAlike_54 : decode cX6_mostWaysAlike 54 = .ok (.goto (-42), 3) := by decide +kernel
theorem dX6_mostWaysAlike_57 : decode cX6_mostWaysAlike 57 = .ok (.iload_n 2, 1) := by decide +kernel
theorem dX6_mostWaysAlike_58 : decode cX6_mostWaysAlike 58 = .ok (.ireturn, 1) := by decide +kernel
theorem dX6_earliestDone_0 : decode cX6_earliestDone 0 = .ok (.aload_n 0, 1) := by decide +kernel
theorem dX6_earliestDone_1 : decode cX6_earliestDone 1 = .ok (.getfield 27, 3) := by decide +kernel
theorem dX6_earliestDone_4 : decode cX6_earliestDone 4 = .ok (.getfield 86, 3) := by decide +kernel
theorem dX6_earliestDone_7 : decode cX6_earliestDone 7 = .ok (.astore_n 2, 1) := by decide +kernel
theorem dX6_earliestDone_8 : decode cX6_earliestDone 8 = .ok (.aload_n 2, 1) := by decide +kernel
theorem dX6_earliestDone_9 : decode cX6_earliestDone 9 = .ok (.getfield 105, 3) := by decide +kernel
theorem dX6_earliestDone_12 : decode cX6_earliestDone 12 = .ok (.iconst 0, 1) := by decide +kernel
theorem dX6_earliestDone_13 : decode cX6_earliestDone 13 = .ok (.aload_n 0, 1) := by decide +kernel
theorem dX6_earliestDone_14 : decode cX6_earliestDone 14 = .ok (.getfield 15, 3) := by decide +kernel
theorem dX6_earliestDone_17 : decode cX6_earliestDone 17 = .ok (.iconst 0, 1) := by decide +kernel
theorem dX6_earliestDone_18 : decode cX6_earliestDone 18 = .ok (.bipush 8, 2) := by decide +kernel
theorem dX6_earliestDone_20 : decode cX6_earliestDone 20 = .ok (.invokestatic 126, 3) := by decide +kernel
theorem dX6_earliestDone_23 : decode cX6_earliestDone 23 = .ok (.iconst (-1), 1) := by decide +kernel
theorem dX6_earliestDone_24 : decode cX6_earliestDone 24 = .ok (.istore_n 3, 1) := by decide +kernel
theorem dX6_earliestDone_25 : decode cX6_earliestDone 25 = .ok (.iconst 0, 1) := by decide +kernel
theorem dX6_earliestDone_26 : decode cX6_earliestDone 26 = .ok (.istore 4, 2) := by decide +kernel
theorem dX6_earliestDone_28 : decode cX6_earliestDone 28 = .ok (.iconst 0, 1) := by decide +kernel
theorem dX6_earliestDone_29 : decode cX6_earliestDone 29 = .ok (.istore 5, 2) := by decide +kernel
theorem dX6_earliestDone_31 : decode cX6_earliestDone 31 = .ok (.iload 5, 2) := by decide +kernel
theorem dX6_earliestDone_33 : decode cX6_earliestDone 33 = .ok (.aload_n 2, 1) := by decide +kernel
theorem dX6_earliestDone_34 : decode cX6_earliestDone 34 = .ok (.getfield 102, 3) := by decide +kernel
theorem dX6_earliestDone_37 : decode cX6_earliestDone 37 = .ok (.if_icmp .ge 105, 3) := by decide +kernel
theorem dX6_earliestDone_40 : decode cX6_earliestDone 40 = .ok (.aload_n 2, 1) := by decide +kernel
theorem dX6_earliestDone_41 : decode cX6_earliestDone 41 = .ok (.getfield 105, 3) := by decide +kernel
theorem dX6_earliestDone_44 : decode cX6_earliestDone 44 = .ok (.iload 5, 2) := by decide +kernel
theorem dX6_earliestDone_46 : decode cX6_earliestDone 46 = .ok (.iaload, 1) := by decide +kernel
theorem dX6_earliestDone_47 : decode cX6_earliestDone 47 = .ok (.iconst (-1), 1) := by decide +kernel
theorem dX6_earliestDone_48 : decode cX6_earliestDone 48 = .ok (.if_icmp .ne 88, 3) := by decide +kernel
theorem dX6_earliestDone_51 : decode cX6_earliestDone 51 = .ok (.aload_n 0, 1) := by decide +kernel
theorem dX6_earliestDone_52 : decode cX6_earliestDone 52 = .ok (.getfield 27, 3) := by decide +kernel
theorem dX6_earliestDone_55 : decode cX6_earliestDone 55 = .ok (.iload_n 1, 1) := by decide +kernel
theorem dX6_earliestDone_56 : decode cX6_earliestDone 56 = .ok (.iload 5, 2) := by decide +kernel
theorem dX6_earliestDone_58 : decode cX6_earliestDone 58 = .ok (.invokevirtual 112, 3) := by decide +kernel
theorem dX6_earliestDone_61 : decode cX6_earliestDone 61 = .ok (.ifCond .eq 6, 3) := by decide +kernel
theorem dX6_earliestDone_64 : decode cX6_earliestDone 64 = .ok (.goto 72, 3) := by decide +kernel
theorem dX6_earliestDone_67 : decode cX6_earliestDone 67 = .ok (.aload_n 0, 1) := by decide +kernel
theorem dX6_earliestDone_68 : decode cX6_earliestDone 68 = .ok (.getfield 15, 3) := by decide +kernel
theorem dX6_earliestDone_71 : decode cX6_earliestDone 71 = .ok (.iload 5, 2) := by decide +kernel
theorem dX6_earliestDone_73 : decode cX6_earliestDone 73 = .ok (.iload_n 1, 1) := by decide +kernel
theorem dX6_earliestDone_74 : decode cX6_earliestDone 74 = .ok (.iastore, 1) := by decide +kernel
theorem dX6_earliestDone_75 : decode cX6_earliestDone 75 = .ok (.aload_n 0, 1) := by decide +kernel
theorem dX6_earliestDone_76 : decode cX6_earliestDone 76 = .ok (.getfield 31, 3) := by decide +kernel
theorem dX6_earliestDone_79 : decode cX6_earliestDone 79 = .ok (.aload_n 0, 1) := by decide +kernel
theorem dX6_earliestDone_80 : decode cX6_earliestDone 80 = .ok (.getfield 27, 3) := by decide +kernel
theorem dX6_earliestDone_83 : decode cX6_earliestDone 83 = .ok (.aload_n 0, 1) := by decide +kernel
theorem dX6_earliestDone_84 : decode cX6_earliestDone 84 = .ok (.getfield 15, 3) := by decide +kernel
theorem dX6_earliestDone_87 : decode cX6_earliestDone 87 = .ok (.bipush 7, 2) := by decide +kernel
theorem dX6_earliestDone_89 : decode cX6_earliestDone 89 = .ok (.invokevirtual 118, 3) := by decide +kernel
theorem dX6_earliestDone_92 : decode cX6_earliestDone 92 = .ok (.aload_n 0, 1) := by decide +kernel
theorem dX6_earliestDone_93 : decode cX6_earliestDone 93 = .ok (.getfield 15, 3) := by decide +kernel
theorem dX6_earliestDone_96 : decode cX6_earliestDone 96 = .ok (.iload 5, 2) := by decide +kernel
theorem dX6_earliestDone_98 : decode cX6_earliestDone 98 = .ok (.iconst (-1), 1) := by decide +kernel
theorem dX6_earliestDone_99 : decode cX6_earliestDone 99 = .ok (.iastore, 1) := by decide +kernel
theorem dX6_earliestDone_100 : decode cX6_earliestDone 100 = .ok (.aload_n 0, 1) := by decide +kernel
theorem dX6_earliestDone_101 : decode cX6_earliestDone 101 = .ok (.getfield 31, 3) := by decide +kernel
theorem dX6_earliestDone_104 : decode cX6_earliestDone 104 = .ok (.getfield 135, 3) := by decide +kernel
theorem dX6_earliestDone_107 : decode cX6_earliestDone 107 = .ok (.iload_n 1, 1) := by decide +kernel
theorem dX6_earliestDone_108 : decode cX6_earliestDone 108 = .ok (.iaload, 1) := by decide +kernel
theorem dX6_earliestDone_109 : decode cX6_earliestDone 109 = .ok (.istore 6, 2) := by decide +kernel
theorem dX6_earliestDone_111 : decode cX6_earliestDone 111 = .ok (.iload 6, 2) := by decide +kernel
theorem dX6_earliestDone_113 : decode cX6_earliestDone 113 = .ok (.iconst (-1), 1) := by decide +kernel
theorem dX6_earliestDone_114 : decode cX6_earliestDone 114 = .ok (.if_icmp .eq 22, 3) := by decide +kernel
theorem dX6_earliestDone_117 : decode cX6_earliestDone 117 = .ok (.iload_n 3, 1) := by decide +kernel
theorem dX6_earliestDone_118 : decode cX6_earliestDone 118 = .ok (.iconst (-1), 1) := by decide +kernel
theorem dX6_earliestDone_119 : decode cX6_earliestDone 119 = .ok (.if_icmp .eq 10, 3) := by decide +kernel
theorem dX6_earliestDone_122 : decode cX6_earliestDone 122 = .ok (.iload 6, 2) := by decide +kernel
theorem dX6_earliestDone_124 : decode cX6_earliestDone 124 = .ok (.iload 4, 2) := by decide +kernel
theorem dX6_earliestDone_126 : decode cX6_earliestDone 126 = .ok (.if_icmp .ge 10, 3) := by decide +kernel
theorem dX6_earliestDone_129 : decode cX6_earliestDone 129 = .ok (.iload 5, 2) := by decide +kernel
theorem dX6_earliestDone_131 : decode cX6_earliestDone 131 = .ok (.istore_n 3, 1) := by decide +kernel
theorem dX6_earliestDone_132 : decode cX6_earliestDone 132 = .ok (.iload 6, 2) := by decide +kernel
theorem dX6_earliestDone_134 : decode cX6_earliestDone 134 = .ok (.istore 4, 2) := by decide +kernel
theorem dX6_earliestDone_136 : decode cX6_earliestDone 136 = .ok (.iinc 5 1, 3) := by decide +kernel
theorem dX6_earliestDone_139 : decode cX6_earliestDone 139 = .ok (.goto (-108), 3) := by decide +kernel
theorem dX6_earliestDone_142 : decode cX6_earliestDone 142 = .ok (.iload_n 3, 1) := by decide +kernel
theorem dX6_earliestDone_143 : decode cX6_earliestDone 143 = .ok (.ireturn, 1) := by decide +kernel
theorem dX6_fewestDesks_0 : decode cX6_fewestDesks 0 = .ok (.iconst 1, 1) := by decide +kernel
theorem dX6_fewestDesks_1 : decode cX6_fewestDesks 1 = .ok (.aload_n 0, 1) := by decide +kernel
theorem dX6_fewestDesks_2 : decode cX6_fewestDesks 2 = .ok (.getfield 27, 3) := by decide +kernel
theorem dX6_fewestDesks_5 : decode cX6_fewestDesks 5 = .ok (.getfield 86, 3) := by decide +kernel
theorem dX6_fewestDesks_8 : decode cX6_fewestDesks 8 = .ok (.getfield 153, 3) := by decide +kernel
theorem dX6_fewestDesks_11 : decode cX6_fewestDesks 11 = .ok (.ishl, 1) := by decide +kernel
theorem dX6_fewestDesks_12 : decode cX6_fewestDesks 12 = .ok (.istore_n 2, 1) := by decide +kernel
theorem dX6_fewestDesks_13 : decode cX6_fewestDesks 13 = .ok (.iconst 0, 1) := by decide +kernel
theorem dX6_fewestDesks_14 : decode cX6_fewestDesks 14 = .ok (.istore_n 3, 1) := by decide +kernel
theorem dX6_fewestDesks_15 : decode cX6_fewestDesks 15 = .ok (.iload_n 3, 1) := by decide +kernel
theorem dX6_fewestDesks_16 : decode cX6_fewestDesks 16 = .ok (.aload_n 0, 1) := by decide +kernel
theorem dX6_fewestDesks_17 : decode cX6_fewestDesks 17 = .ok (.getfield 27, 3) := by decide +kernel
theorem dX6_fewestDesks_20 : decode cX6_fewestDesks 20 = .ok (.getfield 86, 3) := by decide +kernel
theorem dX6_fewestDesks_23 : decode cX6_fewestDesks 23 = .ok (.getfield 153, 3) := by decide +kernel
theorem dX6_fewestDesks_26 : decode cX6_fewestDesks 26 = .ok (.if_icmp .gt 46, 3) := by decide +kernel
theorem dX6_fewestDesks_29 : decode cX6_fewestDesks 29 = .ok (.iconst 0, 1) := by decide +kernel
theorem dX6_fewestDesks_30 : decode cX6_fewestDesks 30 = .ok (.istore 4, 2) := by decide +kernel
theorem dX6_fewestDesks_32 : decode cX6_fewestDesks 32 = .ok (.iload 4, 2) := by decide +kernel
theorem dX6_fewestDesks_34 : decode cX6_fewestDesks 34 = .ok (.iload_n 2, 1) := by decide +kernel
theorem dX6_fewestDesks_35 : decode cX6_fewestDesks 35 = .ok (.if_icmp .ge 31, 3) := by decide +kernel
theorem dX6_fewestDesks_38 : decode cX6_fewestDesks 38 = .ok (.iload 4, 2) := by decide +kernel
theorem dX6_fewestDesks_40 : decode cX6_fewestDesks 40 = .ok (.invokestatic 156, 3) := by decide +kernel
theorem dX6_fewestDesks_43 : decode cX6_fewestDesks 43 = .ok (.iload_n 3, 1) := by decide +kernel
theorem dX6_fewestDesks_44 : decode cX6_fewestDesks 44 = .ok (.if_icmp .ne 16, 3) := by decide +kernel
theorem dX6_fewestDesks_47 : decode cX6_fewestDesks 47 = .ok (.aload_n 0, 1) := by decide +kernel
theorem dX6_fewestDesks_48 : decode cX6_fewestDesks 48 = .ok (.iload 4, 2) := by decide +kernel
theorem dX6_fewestDesks_50 : decode cX6_fewestDesks 50 = .ok (.iload_n 1, 1) := by decide +kernel
theorem dX6_fewestDesks_51 : decode cX6_fewestDesks 51 = .ok (.invokevirtual 162, 3) := by decide +kernel
theorem dX6_fewestDesks_54 : decode cX6_fewestDesks 54 = .ok (.ifCond .eq 6, 3) := by decide +kernel
theorem dX6_fewestDesks_57 : decode cX6_fewestDesks 57 = .ok (.iload 4, 2) := by decide +kernel
theorem dX6_fewestDesks_59 : decode cX6_fewestDesks 59 = .ok (.ireturn, 1) := by decide +kernel
theorem dX6_fewestDesks_60 : decode cX6_fewestDesks 60 = .ok (.iinc 4 1, 3) := by decide +kernel
theorem dX6_fewestDesks_63 : decode cX6_fewestDesks 63 = .ok (.goto (-31), 3) := by decide +kernel
theorem dX6_fewestDesks_66 : decode cX6_fewestDesks 66 = .ok (.iinc 3 1, 3) := by decide +kernel
theorem dX6_fewestDesks_69 : decode cX6_fewestDesks 69 = .ok (.goto (-54), 3) := by decide +kernel
theorem dX6_fewestDesks_72 : decode cX6_fewestDesks 72 = .ok (.iconst (-1), 1) := by decide +kernel
theorem dX6_fewestDesks_73 : decode cX6_fewestDesks 73 = .ok (.ireturn, 1) := by decide +kernel
theorem dX6_areDone_0 : decode cX6_areDone 0 = .ok (.aload_n 0, 1) := by decide +kernel
theorem dX6_areDone_1 : decode cX6_areDone 1 = .ok (.getfield 27, 3) := by decide +kernel
theorem dX6_areDone_4 : decode cX6_areDone 4 = .ok (.getfield 86, 3) := by decide +kernel
theorem dX6_areDone_7 : decode cX6_areDone 7 = .ok (.astore_n 3, 1) := by decide +kernel
theorem dX6_areDone_8 : decode cX6_areDone 8 = .ok (.aload_n 0, 1) := by decide +kernel
theorem dX6_areDone_9 : decode cX6_areDone 9 = .ok (.getfield 31, 3) := by decide +kernel
theorem dX6_areDone_12 : decode cX6_areDone 12 = .ok (.aload_n 0, 1) := by decide +kernel
theorem dX6_areDone_13 : decode cX6_areDone 13 = .ok (.getfield 27, 3) := by decide +kernel
theorem dX6_areDone_16 : decode cX6_areDone 16 = .ok (.aload_n 3, 1) := by decide +kernel
theorem dX6_areDone_17 : decode cX6_areDone 17 = .ok (.getfield 105, 3) := by decide +kernel
theorem dX6_areDone_20 : decode cX6_areDone 20 = .ok (.iload_n 1, 1) := by decide +kernel
theorem dX6_areDone_21 : decode cX6_areDone 21 = .ok (.invokevirtual 118, 3) := by decide +kernel
theorem dX6_areDone_24 : decode cX6_areDone 24 = .ok (.iconst 0, 1) := by decide +kernel
theorem dX6_areDone_25 : decode cX6_areDone 25 = .ok (.istore 4, 2) := by decide +kernel
theorem dX6_areDone_27 : decode cX6_areDone 27 = .ok (.iload 4, 2) := by decide +kernel
theorem dX6_areDone_29 : decode cX6_areDone 29 = .ok (.aload_n 3, 1) := by decide +kernel
theorem dX6_areDone_30 : decode cX6_areDone 30 = .ok (.getfield 90, 3) := by decide +kernel
theorem dX6_areDone_33 : decode cX6_areDone 33 = .ok (.if_icmp .ge 50, 3) := by decide +kernel
theorem dX6_areDone_36 : decode cX6_areDone 36 = .ok (.aload_n 3, 1) := by decide +kernel
theorem dX6_areDone_37 : decode cX6_areDone 37 = .ok (.getfield 99, 3) := by decide +kernel
theorem dX6_areDone_40 : decode cX6_areDone 40 = .ok (.iload 4, 2) := by decide +kernel
theorem dX6_areDone_42 : decode cX6_areDone 42 = .ok (.iaload, 1) := by decide +kernel
theorem dX6_areDone_43 : decode cX6_areDone 43 = .ok (.iconst (-1), 1) := by decide +kernel
theorem dX6_areDone_44 : decode cX6_areDone 44 = .ok (.if_icmp .eq 33, 3) := by decide +kernel
theorem dX6_areDone_47 : decode cX6_areDone 47 = .ok (.aload_n 0, 1) := by decide +kernel
theorem dX6_areDone_48 : decode cX6_areDone 48 = .ok (.getfield 31, 3) := by decide +kernel
theorem dX6_areDone_51 : decode cX6_areDone 51 = .ok (.getfield 135, 3) := by decide +kernel
theorem dX6_areDone_54 : decode cX6_areDone 54 = .ok (.iload 4, 2) := by decide +kernel
theorem dX6_areDone_56 : decode cX6_areDone 56 = .ok (.iaload, 1) := by decide +kernel
theorem dX6_areDone_57 : decode cX6_areDone 57 = .ok (.iconst (-1), 1) := by decide +kernel
theorem dX6_areDone_58 : decode cX6_areDone 58 = .ok (.if_icmp .eq 17, 3) := by decide +kernel
theorem dX6_areDone_61 : decode cX6_areDone 61 = .ok (.aload_n 0, 1) := by decide +kernel
theorem dX6_areDone_62 : decode cX6_areDone 62 = .ok (.getfield 31, 3) := by decide +kernel
theorem dX6_areDone_65 : decode cX6_areDone 65 = .ok (.getfield 135, 3) := by decide +kernel
theorem dX6_areDone_68 : decode cX6_areDone 68 = .ok (.iload 4, 2) := by decide +kernel
theorem dX6_areDone_70 : decode cX6_areDone 70 = .ok (.iaload, 1) := by decide +kernel
theorem dX6_areDone_71 : decode cX6_areDone 71 = .ok (.iload_n 2, 1) := by decide +kernel
theorem dX6_areDone_72 : decode cX6_areDone 72 = .ok (.if_icmp .le 5, 3) := by decide +kernel
theorem dX6_areDone_75 : decode cX6_areDone 75 = .ok (.iconst 0, 1) := by decide +kernel
theorem dX6_areDone_76 : decode cX6_areDone 76 = .ok (.ireturn, 1) := by decide +kernel
theorem dX6_areDone_77 : decode cX6_areDone 77 = .ok (.iinc 4 1, 3) := by decide +kernel
theorem dX6_areDone_80 : decode cX6_areDone 80 = .ok (.goto (-53), 3) := by decide +kernel
theorem dX6_areDone_83 : decode cX6_areDone 83 = .ok (.iconst 1, 1) := by decide +kernel
theorem dX6_areDone_84 : decode cX6_areDone 84 = .ok (.ireturn, 1) := by decide +kernel
