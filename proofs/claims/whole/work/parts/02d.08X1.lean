theorem dX1_init_0 : decode cX1_init 0 = .ok (.aload_n 0, 1) := by decide +kernel
theorem dX1_init_1 : decode cX1_init 1 = .ok (.invokespecial 3, 3) := by decide +kernel
theorem dX1_init_4 : decode cX1_init 4 = .ok (.aload_n 0, 1) := by decide +kernel
theorem dX1_init_5 : decode cX1_init 5 = .ok (.bipush 8, 2) := by decide +kernel
theorem dX1_init_7 : decode cX1_init 7 = .ok (.newarray .int, 2) := by decide +kernel
theorem dX1_init_9 : decode cX1_init 9 = .ok (.putfield 9, 3) := by decide +kernel
theorem dX1_init_12 : decode cX1_init 12 = .ok (.aload_n 0, 1) := by decide +kernel
theorem dX1_init_13 : decode cX1_init 13 = .ok (.iconst 3, 1) := by decide +kernel
theorem dX1_init_14 : decode cX1_init 14 = .ok (.newarray .int, 2) := by decide +kernel
theorem dX1_init_16 : decode cX1_init 16 = .ok (.putfield 15, 3) := by decide +kernel
theorem dX1_init_19 : decode cX1_init 19 = .ok (.aload_n 0, 1) := by decide +kernel
theorem dX1_init_20 : decode cX1_init 20 = .ok (.bipush 6, 2) := by decide +kernel
theorem dX1_init_22 : decode cX1_init 22 = .ok (.newarray .int, 2) := by decide +kernel
theorem dX1_init_24 : decode cX1_init 24 = .ok (.putfield 18, 3) := by decide +kernel
theorem dX1_init_27 : decode cX1_init 27 = .ok (.aload_n 0, 1) := by decide +kernel
theorem dX1_init_28 : decode cX1_init 28 = .ok (.bipush 6, 2) := by decide +kernel
theorem dX1_init_30 : decode cX1_init 30 = .ok (.newarray .int, 2) := by decide +kernel
theorem dX1_init_32 : decode cX1_init 32 = .ok (.putfield 21, 3) := by decide +kernel
theorem dX1_init_35 : decode cX1_init 35 = .ok (.aload_n 0, 1) := by decide +kernel
theorem dX1_init_36 : decode cX1_init 36 = .ok (.bipush 6, 2) := by decide +kernel
theorem dX1_init_38 : decode cX1_init 38 = .ok (.newarray .int, 2) := by decide +kernel
theorem dX1_init_40 : decode cX1_init 40 = .ok (.putfield 24, 3) := by decide +kernel
theorem dX1_init_43 : decode cX1_init 43 = .ok (.return_, 1) := by decide +kernel
theorem dX1_line_0 : decode cX1_line 0 = .ok (.iconst 0, 1) := by decide +kernel
theorem dX1_line_1 : decode cX1_line 1 = .ok (.istore_n 2, 1) := by decide +kernel
theorem dX1_line_2 : decode cX1_line 2 = .ok (.iload_n 2, 1) := by decide +kernel
theorem dX1_line_3 : decode cX1_line 3 = .ok (.aload_n 1, 1) := by decide +kernel
theorem dX1_line_4 : decode cX1_line 4 = .ok (.getfield 27, 3) := by decide +kernel
theorem dX1_line_7 : decode cX1_line 7 = .ok (.if_icmp .ge 55, 3) := by decide +kernel
theorem dX1_line_10 : decode cX1_line 10 = .ok (.iconst 0, 1) := by decide +kernel
theorem dX1_line_11 : decode cX1_line 11 = .ok (.istore_n 3, 1) := by decide +kernel
theorem dX1_line_12 : decode cX1_line 12 = .ok (.iconst 0, 1) := by decide +kernel
theorem dX1_line_13 : decode cX1_line 13 = .ok (.istore 4, 2) := by decide +kernel
theorem dX1_line_15 : decode cX1_line 15 = .ok (.iload 4, 2) := by decide +kernel
theorem dX1_line_17 : decode cX1_line 17 = .ok (.aload_n 1, 1) := by decide +kernel
theorem dX1_line_18 : decode cX1_line 18 = .ok (.getfield 27, 3) := by decide +kernel
theorem dX1_line_21 : decode cX1_line 21 = .ok (.if_icmp .ge 28, 3) := by decide +kernel
theorem dX1_line_24 : decode cX1_line 24 = .ok (.aload_n 1, 1) := by decide +kernel
theorem dX1_line_25 : decode cX1_line 25 = .ok (.getfield 33, 3) := by decide +kernel
theorem dX1_line_28 : decode cX1_line 28 = .ok (.iload 4, 2) := by decide +kernel
theorem dX1_line_30 : decode cX1_line 30 = .ok (.iaload, 1) := by decide +kernel
theorem dX1_line_31 : decode cX1_line 31 = .ok (.aload_n 1, 1) := by decide +kernel
theorem dX1_line_32 : decode cX1_line 32 = .ok (.getfield 33, 3) := by decide +kernel
theorem dX1_line_35 : decode cX1_line 35 = .ok (.iload_n 2, 1) := by decide +kernel
theorem dX1_line_36 : decode cX1_line 36 = .ok (.iaload, 1) := by decide +kernel
theorem dX1_line_37 : decode cX1_line 37 = .ok (.if_icmp .ge 6, 3) := by decide +kernel
theorem dX1_line_40 : decode cX1_line 40 = .ok (.iinc 3 1, 3) := by decide +kernel
theorem dX1_line_43 : decode cX1_line 43 = .ok (.iinc 4 1, 3) := by decide +kernel
theorem dX1_line_46 : decode cX1_line 46 = .ok (.goto (-31), 3) := by decide +kernel
theorem dX1_line_49 : decode cX1_line 49 = .ok (.aload_n 0, 1) := by decide +kernel
theorem dX1_line_50 : decode cX1_line 50 = .ok (.getfield 9, 3) := by decide +kernel
theorem dX1_line_53 : decode cX1_line 53 = .ok (.iload_n 3, 1) := by decide +kernel
theorem dX1_line_54 : decode cX1_line 54 = .ok (.iload_n 2, 1) := by decide +kernel
theorem dX1_line_55 : decode cX1_line 55 = .ok (.iastore, 1) := by decide +kernel
theorem dX1_line_56 : decode cX1_line 56 = .ok (.iinc 2 1, 3) := by decide +kernel
theorem dX1_line_59 : decode cX1_line 59 = .ok (.goto (-57), 3) := by decide +kernel
theorem dX1_line_62 : decode cX1_line 62 = .ok (.return_, 1) := by decide +kernel
theorem dX1_play_0 : decode cX1_play 0 = .ok (.aload_n 1, 1) := by decide +kernel
theorem dX1_play_1 : decode cX1_play 1 = .ok (.getfield 36, 3) := by decide +kernel
theorem dX1_play_4 : decode cX1_play 4 = .ok (.astore 4, 2) := by decide +kernel
theorem dX1_play_6 : decode cX1_play 6 = .ok (.aload_n 0, 1) := by decide +kernel
theorem dX1_play_7 : decode cX1_play 7 = .ok (.getfield 15, 3) := by decide +kernel
theorem dX1_play_10 : decode cX1_play 10 = .ok (.iconst 0, 1) := by decide +kernel
theorem dX1_play_11 : decode cX1_play 11 = .ok (.invokestatic 42, 3) := by decide +kernel
theorem dX1_play_14 : decode cX1_play 14 = .ok (.aload_n 0, 1) := by decide +kernel
theorem dX1_play_15 : decode cX1_play 15 = .ok (.getfield 18, 3) := by decide +kernel
theorem dX1_play_18 : decode cX1_play 18 = .ok (.iconst (-1), 1) := by decide +kernel
theorem dX1_play_19 : decode cX1_play 19 = .ok (.invokestatic 42, 3) := by decide +kernel
theorem dX1_play_22 : decode cX1_play 22 = .ok (.aload_n 0, 1) := by decide +kernel
theorem dX1_play_23 : decode cX1_play 23 = .ok (.getfield 21, 3) := by decide +kernel
theorem dX1_play_26 : decode cX1_play 26 = .ok (.iconst (-1), 1) := by decide +kernel
theorem dX1_play_27 : decode cX1_play 27 = .ok (.invokestatic 42, 3) := by decide +kernel
theorem dX1_play_30 : decode cX1_play 30 = .ok (.aload_n 0, 1) := by decide +kernel
theorem dX1_play_31 : decode cX1_play 31 = .ok (.getfield 24, 3) := by decide +kernel
theorem dX1_play_34 : decode cX1_play 34 = .ok (.iconst (-1), 1) := by decide +kernel
theorem dX1_play_35 : decode cX1_play 35 = .ok (.invokestatic 42, 3) := by decide +kernel
theorem dX1_play_38 : decode cX1_play 38 = .ok (.iconst 0, 1) := by decide +kernel
theorem dX1_play_39 : decode cX1_play 39 = .ok (.istore 5, 2) := by decide +kernel
theorem dX1_play_41 : decode cX1_play 41 = .ok (.iload 5, 2) := by decide +kernel
theorem dX1_play_43 : decode cX1_play 43 = .ok (.aload 4, 2) := by decide +kernel
theorem dX1_play_45 : decode cX1_play 45 = .ok (.getfield 27, 3) := by decide +kernel
theorem dX1_play_48 : decode cX1_play 48 = .ok (.if_icmp .ge 113, 3) := by decide +kernel
theorem dX1_play_51 : decode cX1_play 51 = .ok (.aload_n 0, 1) := by decide +kernel
theorem dX1_play_52 : decode cX1_play 52 = .ok (.getfield 9, 3) := by decide +kernel
theorem dX1_play_55 : decode cX1_play 55 = .ok (.iload 5, 2) := by decide +kernel
theorem dX1_play_57 : decode cX1_play 57 = .ok (.iaload, 1) := by decide +kernel
theorem dX1_play_58 : decode cX1_play 58 = .ok (.istore 6, 2) := by decide +kernel
theorem dX1_play_60 : decode cX1_play 60 = .ok (.aload_n 2, 1) := by decide +kernel
theorem dX1_play_61 : decode cX1_play 61 = .ok (.iload 6, 2) := by decide +kernel
theorem dX1_play_63 : decode cX1_play 63 = .ok (.iaload, 1) := by decide +kernel
theorem dX1_play_64 : decode cX1_play 64 = .ok (.istore 7, 2) := by decide +kernel
theorem dX1_play_66 : decode cX1_play 66 = .ok (.iload 7, 2) := by decide +kernel
theorem dX1_play_68 : decode cX1_play 68 = .ok (.iconst (-1), 1) := by decide +kernel
theorem dX1_play_69 : decode cX1_play 69 = .ok (.if_icmp .ne 6, 3) := by decide +kernel
theorem dX1_play_72 : decode cX1_play 72 = .ok (.goto 83, 3) := by decide +kernel
theorem dX1_play_75 : decode cX1_play 75 = .ok (.aload_n 0, 1) := by decide +kernel
theorem dX1_play_76 : decode cX1_play 76 = .ok (.aload 4, 2) := by decide +kernel
theorem dX1_play_78 : decode cX1_play 78 = .ok (.aload 4, 2) := by decide +kernel
theorem dX1_play_80 : decode cX1_play 80 = .ok (.getfield 48, 3) := by decide +kernel
theorem dX1_play_83 : decode cX1_play 83 = .ok (.iload 6, 2) := by decide +kernel
theorem dX1_play_85 : decode cX1_play 85 = .ok (.iaload, 1) := by decide +kernel
theorem dX1_play_86 : decode cX1_play 86 = .ok (.iload_n 3, 1) := by decide +kernel
theorem dX1_play_87 : decode cX1_play 87 = .ok (.invokevirtual 51, 3) := by decide +kernel
theorem dX1_play_90 : decode cX1_play 90 = .ok (.istore 8, 2) := by decide +kernel
theorem dX1_play_92 : decode cX1_play 92 = .ok (.iload 8, 2) := by decide +kernel
theorem dX1_play_94 : decode cX1_play 94 = .ok (.iconst (-1), 1) := by decide +kernel
theorem dX1_play_95 : decode cX1_play 95 = .ok (.if_icmp .eq 60, 3) := by decide +kernel
theorem dX1_play_98 : decode cX1_play 98 = .ok (.aload_n 0, 1) := by decide +kernel
theorem dX1_play_99 : decode cX1_play 99 = .ok (.getfield 24, 3) := by decide +kernel
theorem dX1_play_102 : decode cX1_play 102 = .ok (.iload 7, 2) := by decide +kernel
theorem dX1_play_104 : decode cX1_play 104 = .ok (.iload 8, 2) := by decide +kernel
theorem dX1_play_106 : decode cX1_play 106 = .ok (.iastore, 1) := by decide +kernel
theorem dX1_play_107 : decode cX1_play 107 = .ok (.aload_n 0, 1) := by decide +kernel
theorem dX1_play_108 : decode cX1_play 108 = .ok (.getfield 18, 3) := by decide +kernel
theorem dX1_play_111 : decode cX1_play 111 = .ok (.iload 7, 2) := by decide +kernel
theorem dX1_play_113 : decode cX1_play 113 = .ok (.aload_n 0, 1) := by decide +kernel
theorem dX1_play_114 : decode cX1_play 114 = .ok (.getfield 15, 3) := by decide +kernel
theorem dX1_play_117 : decode cX1_play 117 = .ok (.iload 8, 2) := by decide +kernel
theorem dX1_play_119 : decode cX1_play 119 = .ok (.iaload, 1) := by decide +kernel
theorem dX1_play_120 : decode cX1_play 120 = .ok (.iastore, 1) := by decide +kernel
theorem dX1_play_121 : decode cX1_play 121 = .ok (.aload_n 0, 1) := by decide +kernel
theorem dX1_play_122 : decode cX1_play 122 = .ok (.getfield 15, 3) := by decide +kernel
theorem dX1_play_125 : decode cX1_play 125 = .ok (.iload 8, 2) := by decide +kernel
theorem dX1_play_127 : decode cX1_play 127 = .ok (.dup2, 1) := by decide +kernel
theorem dX1_play_128 : decode cX1_play 128 = .ok (.iaload, 1) := by decide +kernel
theorem dX1_play_129 : decode cX1_play 129 = .ok (.aload_n 1, 1) := by decide +kernel
theorem dX1_play_130 : decode cX1_play 130 = .ok (.iload 7, 2) := by decide +kernel
theorem dX1_play_132 : decode cX1_play 132 = .ok (.iload 6, 2) := by decide +kernel
theorem dX1_play_134 : decode cX1_play 134 = .ok (.iload 8, 2) := by decide +kernel
theorem dX1_play_136 : decode cX1_play 136 = .ok (.invokevirtual 55, 3) := by decide +kernel
theorem dX1_play_139 : decode cX1_play 139 = .ok (.iadd, 1) := by decide +kernel
theorem dX1_play_140 : decode cX1_play 140 = .ok (.iastore, 1) := by decide +kernel
theorem dX1_play_141 : decode cX1_play 141 = .ok (.aload_n 0, 1) := by decide +kernel
theorem dX1_play_142 : decode cX1_play 142 = .ok (.getfield 21, 3) := by decide +kernel
theorem dX1_play_145 : decode cX1_play 145 = .ok (.iload 7, 2) := by decide +kernel
theorem dX1_play_147 : decode cX1_play 147 = .ok (.aload_n 0, 1) := by decide +kernel
theorem dX1_play_148 : decode cX1_play 148 = .ok (.getfield 15, 3) := by decide +kernel
theorem dX1_play_151 : decode cX1_play 151 = .ok (.iload 8, 2) := by decide +kernel
theorem dX1_play_153 : decode cX1_play 153 = .ok (.iaload, 1) := by decide +kernel
theorem dX1_play_154 : decode cX1_play 154 = .ok (.iastore, 1) := by decide +kernel
theorem dX1_play_155 : decode cX1_play 155 = .ok (.iinc 5 1, 3) := by decide +kernel
theorem dX1_play_158 : decode cX1_play 158 = .ok (.goto (-117), 3) := by decide +kernel
theorem dX1_play_161 : decode cX1_play 161 = .ok (.return_, 1) := by decide +kernel
theorem dX1_earliest_0 : decode cX1_earliest 0 = .ok (.iconst (-1), 1) := by decide +kernel
theorem dX1_earliest_1 : decode cX1_earliest 1 = .ok (.istore 4, 2) := by decide +kernel
theorem dX1_earliest_3 : decode cX1_earliest 3 = .ok (.iconst 0, 1) := by decide +kernel
theorem dX1_earliest_4 : decode cX1_earliest 4 = .ok (.istore 5, 2) := by decide +kernel
theorem dX1_earliest_6 : decode cX1_earliest 6 = .ok (.iload 5, 2) := by decide +kernel
theorem dX1_earliest_8 : decode cX1_earliest 8 = .ok (.aload_n 1, 1) := by decide +kernel
theorem dX1_earliest_9 : decode cX1_earliest 9 = .ok (.getfield 59, 3) := by decide +kernel
theorem dX1_earliest_12 : decode cX1_earliest 12 = .ok (.if_icmp .ge 73, 3) := by decide +kernel
theorem dX1_earliest_15 : decode cX1_earliest 15 = .ok (.iload_n 3, 1) := by decide +kernel
theorem dX1_earliest_16 : decode cX1_earliest 16 = .ok (.iload 5, 2) := by decide +kernel
theorem dX1_earliest_18 : decode cX1_earliest 18 = .ok (.ishr, 1) := by decide +kernel
theorem dX1_earliest_19 : decode cX1_earliest 19 = .ok (.iconst 1, 1) := by decide +kernel
theorem dX1_earliest_20 : decode cX1_earliest 20 = .ok (.iand, 1) := by decide +kernel
theorem dX1_earliest_21 : decode cX1_earliest 21 = .ok (.iconst 1, 1) := by decide +kernel
theorem dX1_earliest_22 : decode cX1_earliest 22 = .ok (.if_icmp .ne 22, 3) := by decide +kernel
theorem dX1_earliest_25 : decode cX1_earliest 25 = .ok (.aload_n 1, 1) := by decide +kernel
theorem dX1_earliest_26 : decode cX1_earliest 26 = .ok (.getfield 62, 3) := by decide +kernel
theorem dX1_earliest_29 : decode cX1_earliest 29 = .ok (.iload 5, 2) := by decide +kernel
theorem dX1_earliest_31 : decode cX1_earliest 31 = .ok (.iaload, 1) := by decide +kernel
theorem dX1_earliest_32 : decode cX1_earliest 32 = .ok (.iload_n 2, 1) := by decide +kernel
theorem dX1_earliest_33 : decode cX1_earliest 33 = .ok (.ishr, 1) := by decide +kernel
theorem dX1_earliest_34 : decode cX1_earliest 34 = .ok (.iconst 1, 1) := by decide +kernel
theorem dX1_earliest_35 : decode cX1_earliest 35 = .ok (.iand, 1) := by decide +kernel
theorem dX1_earliest_36 : decode cX1_earliest 36 = .ok (.iconst 1, 1) := by decide +kernel
theorem dX1_earliest_37 : decode cX1_earliest 37 = .ok (.if_icmp .ne 7, 3) := by decide +kernel
theorem dX1_earliest_40 : decode cX1_earliest 40 = .ok (.iconst 1, 1) := by decide +kernel
theorem dX1_earliest_41 : decode cX1_earliest 41 = .ok (.goto 4, 3) := by decide +kernel
theorem dX1_earliest_44 : decode cX1_earliest 44 = .ok (.iconst 0, 1) := by decide +kernel
theorem dX1_earliest_45 : decode cX1_earliest 45 = .ok (.istore 6, 2) := by decide +kernel
theorem dX1_earliest_47 : decode cX1_earliest 47 = .ok (.iload 6, 2) := by decide +kernel
theorem dX1_earliest_49 : decode cX1_earliest 49 = .ok (.ifCond .eq 30, 3) := by decide +kernel
theorem dX1_earliest_52 : decode cX1_earliest 52 = .ok (.iload 4, 2) := by decide +kernel
theorem dX1_earliest_54 : decode cX1_earliest 54 = .ok (.iconst (-1), 1) := by decide +kernel
theorem dX1_earliest_55 : decode cX1_earliest 55 = .ok (.if_icmp .eq 20, 3) := by decide +kernel
theorem dX1_earliest_58 : decode cX1_earliest 58 = .ok (.aload_n 0, 1) := by decide +kernel
theorem dX1_earliest_59 : decode cX1_earliest 59 = .ok (.getfield 15, 3) := by decide +kernel
theorem dX1_earliest_62 : decode cX1_earliest 62 = .ok (.iload 5, 2) := by decide +kernel
theorem dX1_earliest_64 : decode cX1_earliest 64 = .ok (.iaload, 1) := by decide +kernel
theorem dX1_earliest_65 : decode cX1_earliest 65 = .ok (.aload_n 0, 1) := by decide +kernel
theorem dX1_earliest_66 : decode cX1_earliest 66 = .ok (.getfield 15, 3) := by decide +kernel
theorem dX1_earliest_69 : decode cX1_earliest 69 = .ok (.iload 4, 2) := by decide +kernel
theorem dX1_earliest_71 : decode cX1_earliest 71 = .ok (.iaload, 1) := by decide +kernel
theorem dX1_earliest_72 : decode cX1_earliest 72 = .ok (.if_icmp .ge 7, 3) := by decide +kernel
theorem dX1_earliest_75 : decode cX1_earliest 75 = .ok (.iload 5, 2) := by decide +kernel
theorem dX1_earliest_77 : decode cX1_earliest 77 = .ok (.istore 4, 2) := by decide +kernel
theorem dX1_earliest_79 : decode cX1_earliest 79 = .ok (.iinc 5 1, 3) := by decide +kernel
theorem dX1_earliest_82 : decode cX1_earliest 82 = .ok (.goto (-76), 3) := by decide +kernel
theorem dX1_earliest_85 : decode cX1_earliest 85 = .ok (.iload 4, 2) := by decide +kernel
theorem dX1_earliest_87 : decode cX1_earliest 87 = .ok (.ireturn, 1) := by decide +kernel
theorem dX1_waitOf_0 : decode cX1_waitOf 0 = .ok (.aload_n 0, 1) := by decide +kernel
theorem dX1_waitOf_1 : decode cX1_waitOf 1 = .ok (.getfield 18, 3) := by decide +kernel
theorem dX1_waitOf_4 : decode cX1_waitOf 4 = .ok (.iload_n 2, 1) := by decide +kernel
theorem dX1_waitOf_5 : decode cX1_waitOf 5 = .ok (.iaload, 1) := by decide +kernel
theorem dX1_waitOf_6 : decode cX1_waitOf 6 = .ok (.iconst (-1), 1) := by decide +kernel
theorem dX1_waitOf_7 : decode cX1_waitOf 7 = .ok (.if_icmp .ne 9, 3) := by decide +kernel
theorem dX1_waitOf_10 : decode cX1_waitOf 10 = .ok (.sipush 1000, 3) := by decide +kernel
theorem dX1_waitOf_13 : decode cX1_waitOf 13 = .ok (.goto 15, 3) := by decide +kernel
theorem dX1_waitOf_16 : decode cX1_waitOf 16 = .ok (.aload_n 1, 1) := by decide +kernel
theorem dX1_waitOf_17 : decode cX1_waitOf 17 = .ok (.iload_n 2, 1) := by decide +kernel
theorem dX1_waitOf_18 : decode cX1_waitOf 18 = .ok (.invokevirtual 65, 3) := by decide +kernel
theorem dX1_waitOf_21 : decode cX1_waitOf 21 = .ok (.aload_n 0, 1) := by decide +kernel
theorem dX1_waitOf_22 : decode cX1_waitOf 22 = .ok (.getfield 18, 3) := by decide +kernel
theorem dX1_waitOf_25 : decode cX1_waitOf 25 = .ok (.iload_n 2, 1) := by decide +kernel
theorem dX1_waitOf_26 : decode cX1_waitOf 26 = .ok (.iaload, 1) := by decide +kernel
theorem dX1_waitOf_27 : decode cX1_waitOf 27 = .ok (.imul, 1) := by decide +kernel
theorem dX1_waitOf_28 : decode cX1_waitOf 28 = .ok (.ireturn, 1) := by decide +kernel
theorem dX1_waitOfAll_0 : decode cX1_waitOfAll 0 = .ok (.iconst 0, 1) := by decide +kernel
theorem dX1_waitOfAll_1 : decode cX1_waitOfAll 1 = .ok (.istore_n 2, 1) := by decide +kernel
theorem dX1_waitOfAll_2 : decode cX1_waitOfAll 2 = .ok (.iconst 0, 1) := by decide +kernel
theorem dX1_waitOfAll_3 : decode cX1_waitOfAll 3 = .ok (.istore_n 3, 1) := by decide +kernel
theorem dX1_waitOfAll_4 : decode cX1_waitOfAll 4 = .ok (.iload_n 3, 1) := by decide +kernel
theorem dX1_waitOfAll_5 : decode cX1_waitOfAll 5 = .ok (.aload_n 1, 1) := by decide +kernel
theorem dX1_waitOfAll_6 : decode cX1_waitOfAll 6 = .ok (.getfield 36, 3) := by decide +kernel
theorem dX1_waitOfAll_9 : decode cX1_waitOfAll 9 = .ok (.getfield 69, 3) := by decide +kernel
theorem dX1_waitOfAll_12 : decode cX1_waitOfAll 12 = .ok (.if_icmp .ge 53, 3) := by decide +kernel
theorem dX1_waitOfAll_15 : decode cX1_waitOfAll 15 = .ok (.aload_n 1, 1) := by decide +kernel
theorem dX1_waitOfAll_16 : decode cX1_waitOfAll 16 = .ok (.getfield 36, 3) := by decide +kernel
theorem dX1_waitOfAll_19 : decode cX1_waitOfAll 19 = .ok (.getfield 72, 3) := by decide +kernel
theorem dX1_waitOfAll_22 : decode cX1_waitOfAll 22 = .ok (.iload_n 3, 1) := by decide +kernel
theorem dX1_waitOfAll_23 : decode cX1_waitOfAll 23 = .ok (.iaload, 1) := by decide +kernel
theorem dX1_waitOfAll_24 : decode cX1_waitOfAll 24 = .ok (.iconst (-1), 1) := by decide +kernel
theorem dX1_waitOfAll_25 : decode cX1_waitOfAll 25 = .ok (.if_icmp .eq 34, 3) := by decide +kernel
theorem dX1_waitOfAll_28 : decode cX1_waitOfAll 28 = .ok (.iload_n 2, 1) := by decide +kernel
theorem dX1_waitOfAll_29 : decode cX1_waitOfAll 29 = .ok (.aload_n 0, 1) := by decide +kernel
theorem dX1_waitOfAll_30 : decode cX1_waitOfAll 30 = .ok (.getfield 18, 3) := by decide +kernel
theorem dX1_waitOfAll_33 : decode cX1_waitOfAll 33 = .ok (.iload_n 3, 1) := by decide +kernel
theorem dX1_waitOfAll_34 : decode cX1_waitOfAll 34 = .ok (.iaload, 1) := by decide +kernel
theorem dX1_waitOfAll_35 : decode cX1_waitOfAll 35 = .ok (.iconst (-1), 1) := by decide +kernel
theorem dX1_waitOfAll_36 : decode cX1_waitOfAll 36 = .ok (.if_icmp .ne 9, 3) := by decide +kernel
theorem dX1_waitOfAll_39 : decode cX1_waitOfAll 39 = .ok (.sipush 1000, 3) := by decide +kernel
theorem dX1_waitOfAll_42 : decode cX1_waitOfAll 42 = .ok (.goto 15, 3) := by decide +kernel
theorem dX1_waitOfAll_45 : decode cX1_waitOfAll 45 = .ok (.aload_n 1, 1) := by decide +kernel
theorem dX1_waitOfAll_46 : decode cX1_waitOfAll 46 = .ok (.iload_n 3, 1) := by decide +kernel
theorem dX1_waitOfAll_47 : decode cX1_waitOfAll 47 = .ok (.invokevirtual 65, 3) := by decide +kernel
theorem dX1_waitOfAll_50 : decode cX1_waitOfAll 50 = .ok (.aload_n 0, 1) := by decide +kernel
theorem dX1_waitOfAll_51 : decode cX1_waitOfAll 51 = .ok (.getfield 18, 3) := by decide +kernel
theorem dX1_waitOfAll_54 : decode cX1_waitOfAll 54 = .ok (.iload_n 3, 1) := by decide +kernel
theorem dX1_waitOfAll_55 : decode cX1_waitOfAll 55 = .ok (.iaload, 1) := by decide +kernel
theorem dX1_waitOfAll_56 : decode cX1_waitOfAll 56 = .ok (.imul, 1) := by decide +kernel
theorem dX1_waitOfAll_57 : decode cX1_waitOfAll 57 = .ok (.iadd, 1) := by decide +kernel
theorem dX1_waitOfAll_58 : decode cX1_waitOfAll 58 = .ok (.istore_n 2, 1) := by decide +kernel
theorem dX1_waitOfAll_59 : decode cX1_waitOfAll 59 = .ok (.iinc 3 1, 3) := by decide +kernel
theorem dX1_waitOfAll_62 : decode cX1_waitOfAll 62 = .ok (.goto (-58), 3) := by decide +kernel
theorem dX1_waitOfAll_65 : decode cX1_waitOfAll 65 = .ok (.iload_n 2, 1) := by decide +kernel
theorem dX1_waitOfAll_66 : decode cX1_waitOfAll 66 = .ok (.ireturn, 1) := by decide +kernel
