theorem dX12_positiveOf_81 : decode cX12_positiveOf 81 = .ok (.if_icmp .ne 13, 3) := by decide +kernel
theorem dX12_positiveOf_84 : decode cX12_positiveOf 84 = .ok (.lload_n 2, 1) := by decide +kernel
theorem dX12_positiveOf_85 : decode cX12_positiveOf 85 = .ok (.lload 5, 2) := by decide +kernel
theorem dX12_positiveOf_87 : decode cX12_positiveOf 87 = .ok (.lcmp, 1) := by decide +kernel
theorem dX12_positiveOf_88 : decode cX12_positiveOf 88 = .ok (.ifCond .ge 37, 3) := by decide +kernel
theorem dX12_positiveOf_91 : decode cX12_positiveOf 91 = .ok (.goto 30, 3) := by decide +kernel
theorem dX12_positiveOf_94 : decode cX12_positiveOf 94 = .ok (.iload 4, 2) := by decide +kernel
theorem dX12_positiveOf_96 : decode cX12_positiveOf 96 = .ok (.bipush 62, 2) := by decide +kernel
theorem dX12_positiveOf_98 : decode cX12_positiveOf 98 = .ok (.invokestatic 241, 3) := by decide +kernel
theorem dX12_positiveOf_101 : decode cX12_positiveOf 101 = .ok (.if_icmp .ne 13, 3) := by decide +kernel
theorem dX12_positiveOf_104 : decode cX12_positiveOf 104 = .ok (.lload_n 2, 1) := by decide +kernel
theorem dX12_positiveOf_105 : decode cX12_positiveOf 105 = .ok (.lload 5, 2) := by decide +kernel
theorem dX12_positiveOf_107 : decode cX12_positiveOf 107 = .ok (.lcmp, 1) := by decide +kernel
theorem dX12_positiveOf_108 : decode cX12_positiveOf 108 = .ok (.ifCond .le 17, 3) := by decide +kernel
theorem dX12_positiveOf_111 : decode cX12_positiveOf 111 = .ok (.goto 10, 3) := by decide +kernel
theorem dX12_positiveOf_114 : decode cX12_positiveOf 114 = .ok (.lload_n 2, 1) := by decide +kernel
theorem dX12_positiveOf_115 : decode cX12_positiveOf 115 = .ok (.lload 5, 2) := by decide +kernel
theorem dX12_positiveOf_117 : decode cX12_positiveOf 117 = .ok (.lcmp, 1) := by decide +kernel
theorem dX12_positiveOf_118 : decode cX12_positiveOf 118 = .ok (.ifCond .ne 7, 3) := by decide +kernel
theorem dX12_positiveOf_121 : decode cX12_positiveOf 121 = .ok (.iconst 1, 1) := by decide +kernel
theorem dX12_positiveOf_122 : decode cX12_positiveOf 122 = .ok (.goto 4, 3) := by decide +kernel
theorem dX12_positiveOf_125 : decode cX12_positiveOf 125 = .ok (.iconst 0, 1) := by decide +kernel
theorem dX12_positiveOf_126 : decode cX12_positiveOf 126 = .ok (.ireturn, 1) := by decide +kernel
theorem dX12_setsAsked_0 : decode cX12_setsAsked 0 = .ok (.aload_n 0, 1) := by decide +kernel
theorem dX12_setsAsked_1 : decode cX12_setsAsked 1 = .ok (.getfield 59, 3) := by decide +kernel
theorem dX12_setsAsked_4 : decode cX12_setsAsked 4 = .ok (.iconst 0, 1) := by decide +kernel
theorem dX12_setsAsked_5 : decode cX12_setsAsked 5 = .ok (.iload_n 1, 1) := by decide +kernel
theorem dX12_setsAsked_6 : decode cX12_setsAsked 6 = .ok (.iastore, 1) := by decide +kernel
theorem dX12_setsAsked_7 : decode cX12_setsAsked 7 = .ok (.aload_n 0, 1) := by decide +kernel
theorem dX12_setsAsked_8 : decode cX12_setsAsked 8 = .ok (.getfield 59, 3) := by decide +kernel
theorem dX12_setsAsked_11 : decode cX12_setsAsked 11 = .ok (.iconst 1, 1) := by decide +kernel
theorem dX12_setsAsked_12 : decode cX12_setsAsked 12 = .ok (.aload_n 0, 1) := by decide +kernel
theorem dX12_setsAsked_13 : decode cX12_setsAsked 13 = .ok (.getfield 24, 3) := by decide +kernel
theorem dX12_setsAsked_16 : decode cX12_setsAsked 16 = .ok (.bipush 7, 2) := by decide +kernel
theorem dX12_setsAsked_18 : decode cX12_setsAsked 18 = .ok (.iload_n 1, 1) := by decide +kernel
theorem dX12_setsAsked_19 : decode cX12_setsAsked 19 = .ok (.iadd, 1) := by decide +kernel
theorem dX12_setsAsked_20 : decode cX12_setsAsked 20 = .ok (.iaload, 1) := by decide +kernel
theorem dX12_setsAsked_21 : decode cX12_setsAsked 21 = .ok (.iastore, 1) := by decide +kernel
theorem dX12_setsAsked_22 : decode cX12_setsAsked 22 = .ok (.aload_n 0, 1) := by decide +kernel
theorem dX12_setsAsked_23 : decode cX12_setsAsked 23 = .ok (.getfield 59, 3) := by decide +kernel
theorem dX12_setsAsked_26 : decode cX12_setsAsked 26 = .ok (.iconst 2, 1) := by decide +kernel
theorem dX12_setsAsked_27 : decode cX12_setsAsked 27 = .ok (.iload_n 2, 1) := by decide +kernel
theorem dX12_setsAsked_28 : decode cX12_setsAsked 28 = .ok (.iastore, 1) := by decide +kernel
theorem dX12_setsAsked_29 : decode cX12_setsAsked 29 = .ok (.aload_n 0, 1) := by decide +kernel
theorem dX12_setsAsked_30 : decode cX12_setsAsked 30 = .ok (.getfield 59, 3) := by decide +kernel
theorem dX12_setsAsked_33 : decode cX12_setsAsked 33 = .ok (.iconst 3, 1) := by decide +kernel
theorem dX12_setsAsked_34 : decode cX12_setsAsked 34 = .ok (.iload_n 2, 1) := by decide +kernel
theorem dX12_setsAsked_35 : decode cX12_setsAsked 35 = .ok (.iconst (-1), 1) := by decide +kernel
theorem dX12_setsAsked_36 : decode cX12_setsAsked 36 = .ok (.if_icmp .ne 7, 3) := by decide +kernel
theorem dX12_setsAsked_39 : decode cX12_setsAsked 39 = .ok (.iconst (-1), 1) := by decide +kernel
theorem dX12_setsAsked_40 : decode cX12_setsAsked 40 = .ok (.goto 12, 3) := by decide +kernel
theorem dX12_setsAsked_43 : decode cX12_setsAsked 43 = .ok (.aload_n 0, 1) := by decide +kernel
theorem dX12_setsAsked_44 : decode cX12_setsAsked 44 = .ok (.getfield 24, 3) := by decide +kernel
theorem dX12_setsAsked_47 : decode cX12_setsAsked 47 = .ok (.bipush 67, 2) := by decide +kernel
theorem dX12_setsAsked_49 : decode cX12_setsAsked 49 = .ok (.iload_n 2, 1) := by decide +kernel
theorem dX12_setsAsked_50 : decode cX12_setsAsked 50 = .ok (.iadd, 1) := by decide +kernel
theorem dX12_setsAsked_51 : decode cX12_setsAsked 51 = .ok (.iaload, 1) := by decide +kernel
theorem dX12_setsAsked_52 : decode cX12_setsAsked 52 = .ok (.iastore, 1) := by decide +kernel
theorem dX12_setsAsked_53 : decode cX12_setsAsked 53 = .ok (.aload_n 0, 1) := by decide +kernel
theorem dX12_setsAsked_54 : decode cX12_setsAsked 54 = .ok (.getfield 59, 3) := by decide +kernel
theorem dX12_setsAsked_57 : decode cX12_setsAsked 57 = .ok (.iconst 4, 1) := by decide +kernel
theorem dX12_setsAsked_58 : decode cX12_setsAsked 58 = .ok (.iload_n 2, 1) := by decide +kernel
theorem dX12_setsAsked_59 : decode cX12_setsAsked 59 = .ok (.iconst (-1), 1) := by decide +kernel
theorem dX12_setsAsked_60 : decode cX12_setsAsked 60 = .ok (.if_icmp .ne 7, 3) := by decide +kernel
theorem dX12_setsAsked_63 : decode cX12_setsAsked 63 = .ok (.iconst (-1), 1) := by decide +kernel
theorem dX12_setsAsked_64 : decode cX12_setsAsked 64 = .ok (.goto 12, 3) := by decide +kernel
theorem dX12_setsAsked_67 : decode cX12_setsAsked 67 = .ok (.aload_n 0, 1) := by decide +kernel
theorem dX12_setsAsked_68 : decode cX12_setsAsked 68 = .ok (.getfield 24, 3) := by decide +kernel
theorem dX12_setsAsked_71 : decode cX12_setsAsked 71 = .ok (.bipush 75, 2) := by decide +kernel
theorem dX12_setsAsked_73 : decode cX12_setsAsked 73 = .ok (.iload_n 2, 1) := by decide +kernel
theorem dX12_setsAsked_74 : decode cX12_setsAsked 74 = .ok (.iadd, 1) := by decide +kernel
theorem dX12_setsAsked_75 : decode cX12_setsAsked 75 = .ok (.iaload, 1) := by decide +kernel
theorem dX12_setsAsked_76 : decode cX12_setsAsked 76 = .ok (.iastore, 1) := by decide +kernel
theorem dX12_setsAsked_77 : decode cX12_setsAsked 77 = .ok (.aload_n 0, 1) := by decide +kernel
theorem dX12_setsAsked_78 : decode cX12_setsAsked 78 = .ok (.getfield 59, 3) := by decide +kernel
theorem dX12_setsAsked_81 : decode cX12_setsAsked 81 = .ok (.iconst 5, 1) := by decide +kernel
theorem dX12_setsAsked_82 : decode cX12_setsAsked 82 = .ok (.iload_n 3, 1) := by decide +kernel
theorem dX12_setsAsked_83 : decode cX12_setsAsked 83 = .ok (.iconst (-1), 1) := by decide +kernel
theorem dX12_setsAsked_84 : decode cX12_setsAsked 84 = .ok (.if_icmp .ne 7, 3) := by decide +kernel
theorem dX12_setsAsked_87 : decode cX12_setsAsked 87 = .ok (.iconst (-1), 1) := by decide +kernel
theorem dX12_setsAsked_88 : decode cX12_setsAsked 88 = .ok (.goto 12, 3) := by decide +kernel
theorem dX12_setsAsked_91 : decode cX12_setsAsked 91 = .ok (.aload_n 0, 1) := by decide +kernel
theorem dX12_setsAsked_92 : decode cX12_setsAsked 92 = .ok (.getfield 24, 3) := by decide +kernel
theorem dX12_setsAsked_95 : decode cX12_setsAsked 95 = .ok (.bipush 86, 2) := by decide +kernel
theorem dX12_setsAsked_97 : decode cX12_setsAsked 97 = .ok (.iload_n 3, 1) := by decide +kernel
theorem dX12_setsAsked_98 : decode cX12_setsAsked 98 = .ok (.iadd, 1) := by decide +kernel
theorem dX12_setsAsked_99 : decode cX12_setsAsked 99 = .ok (.iaload, 1) := by decide +kernel
theorem dX12_setsAsked_100 : decode cX12_setsAsked 100 = .ok (.iastore, 1) := by decide +kernel
theorem dX12_setsAsked_101 : decode cX12_setsAsked 101 = .ok (.aload_n 0, 1) := by decide +kernel
theorem dX12_setsAsked_102 : decode cX12_setsAsked 102 = .ok (.getfield 59, 3) := by decide +kernel
theorem dX12_setsAsked_105 : decode cX12_setsAsked 105 = .ok (.bipush 6, 2) := by decide +kernel
theorem dX12_setsAsked_107 : decode cX12_setsAsked 107 = .ok (.aload_n 0, 1) := by decide +kernel
theorem dX12_setsAsked_108 : decode cX12_setsAsked 108 = .ok (.getfield 24, 3) := by decide +kernel
theorem dX12_setsAsked_111 : decode cX12_setsAsked 111 = .ok (.bipush 102, 2) := by decide +kernel
theorem dX12_setsAsked_113 : decode cX12_setsAsked 113 = .ok (.iaload, 1) := by decide +kernel
theorem dX12_setsAsked_114 : decode cX12_setsAsked 114 = .ok (.iastore, 1) := by decide +kernel
theorem dX12_setsAsked_115 : decode cX12_setsAsked 115 = .ok (.aload_n 0, 1) := by decide +kernel
theorem dX12_setsAsked_116 : decode cX12_setsAsked 116 = .ok (.getfield 59, 3) := by decide +kernel
theorem dX12_setsAsked_119 : decode cX12_setsAsked 119 = .ok (.bipush 7, 2) := by decide +kernel
theorem dX12_setsAsked_121 : decode cX12_setsAsked 121 = .ok (.aload_n 0, 1) := by decide +kernel
theorem dX12_setsAsked_122 : decode cX12_setsAsked 122 = .ok (.getfield 24, 3) := by decide +kernel
theorem dX12_setsAsked_125 : decode cX12_setsAsked 125 = .ok (.bipush 13, 2) := by decide +kernel
theorem dX12_setsAsked_127 : decode cX12_setsAsked 127 = .ok (.iload_n 1, 1) := by decide +kernel
theorem dX12_setsAsked_128 : decode cX12_setsAsked 128 = .ok (.iadd, 1) := by decide +kernel
theorem dX12_setsAsked_129 : decode cX12_setsAsked 129 = .ok (.iaload, 1) := by decide +kernel
theorem dX12_setsAsked_130 : decode cX12_setsAsked 130 = .ok (.iastore, 1) := by decide +kernel
theorem dX12_setsAsked_131 : decode cX12_setsAsked 131 = .ok (.aload_n 0, 1) := by decide +kernel
theorem dX12_setsAsked_132 : decode cX12_setsAsked 132 = .ok (.getfield 59, 3) := by decide +kernel
theorem dX12_setsAsked_135 : decode cX12_setsAsked 135 = .ok (.bipush 8, 2) := by decide +kernel
theorem dX12_setsAsked_137 : decode cX12_setsAsked 137 = .ok (.aload_n 0, 1) := by decide +kernel
theorem dX12_setsAsked_138 : decode cX12_setsAsked 138 = .ok (.getfield 24, 3) := by decide +kernel
theorem dX12_setsAsked_141 : decode cX12_setsAsked 141 = .ok (.bipush 6, 2) := by decide +kernel
theorem dX12_setsAsked_143 : decode cX12_setsAsked 143 = .ok (.iaload, 1) := by decide +kernel
theorem dX12_setsAsked_144 : decode cX12_setsAsked 144 = .ok (.iastore, 1) := by decide +kernel
theorem dX12_setsAsked_145 : decode cX12_setsAsked 145 = .ok (.return_, 1) := by decide +kernel
theorem dX12_tells_0 : decode cX12_tells 0 = .ok (.aload_n 0, 1) := by decide +kernel
theorem dX12_tells_1 : decode cX12_tells 1 = .ok (.getfield 24, 3) := by decide +kernel
theorem dX12_tells_4 : decode cX12_tells 4 = .ok (.bipush 108, 2) := by decide +kernel
theorem dX12_tells_6 : decode cX12_tells 6 = .ok (.iaload, 1) := by decide +kernel
theorem dX12_tells_7 : decode cX12_tells 7 = .ok (.iconst (-1), 1) := by decide +kernel
theorem dX12_tells_8 : decode cX12_tells 8 = .ok (.if_icmp .ne 6, 3) := by decide +kernel
theorem dX12_tells_11 : decode cX12_tells 11 = .ok (.iload 7, 2) := by decide +kernel
theorem dX12_tells_13 : decode cX12_tells 13 = .ok (.ireturn, 1) := by decide +kernel
theorem dX12_tells_14 : decode cX12_tells 14 = .ok (.aload_n 0, 1) := by decide +kernel
theorem dX12_tells_15 : decode cX12_tells 15 = .ok (.iload_n 2, 1) := by decide +kernel
theorem dX12_tells_16 : decode cX12_tells 16 = .ok (.iload_n 3, 1) := by decide +kernel
theorem dX12_tells_17 : decode cX12_tells 17 = .ok (.iload 4, 2) := by decide +kernel
theorem dX12_tells_19 : decode cX12_tells 19 = .ok (.invokevirtual 343, 3) := by decide +kernel
theorem dX12_tells_22 : decode cX12_tells 22 = .ok (.aload_n 0, 1) := by decide +kernel
theorem dX12_tells_23 : decode cX12_tells 23 = .ok (.iconst 0, 1) := by decide +kernel
theorem dX12_tells_24 : decode cX12_tells 24 = .ok (.putfield 312, 3) := by decide +kernel
theorem dX12_tells_27 : decode cX12_tells 27 = .ok (.iload 7, 2) := by decide +kernel
theorem dX12_tells_29 : decode cX12_tells 29 = .ok (.i2l, 1) := by decide +kernel
theorem dX12_tells_30 : decode cX12_tells 30 = .ok (.lstore 8, 2) := by decide +kernel
theorem dX12_tells_32 : decode cX12_tells 32 = .ok (.aload_n 0, 1) := by decide +kernel
theorem dX12_tells_33 : decode cX12_tells 33 = .ok (.sipush 400, 3) := by decide +kernel
theorem dX12_tells_36 : decode cX12_tells 36 = .ok (.aload_n 0, 1) := by decide +kernel
theorem dX12_tells_37 : decode cX12_tells 37 = .ok (.getfield 24, 3) := by decide +kernel
theorem dX12_tells_40 : decode cX12_tells 40 = .ok (.bipush 108, 2) := by decide +kernel
theorem dX12_tells_42 : decode cX12_tells 42 = .ok (.iaload, 1) := by decide +kernel
theorem dX12_tells_43 : decode cX12_tells 43 = .ok (.imul, 1) := by decide +kernel
theorem dX12_tells_44 : decode cX12_tells 44 = .ok (.putfield 282, 3) := by decide +kernel
theorem dX12_tells_47 : decode cX12_tells 47 = .ok (.aload_n 0, 1) := by decide +kernel
theorem dX12_tells_48 : decode cX12_tells 48 = .ok (.aload_n 0, 1) := by decide +kernel
theorem dX12_tells_49 : decode cX12_tells 49 = .ok (.getfield 282, 3) := by decide +kernel
theorem dX12_tells_52 : decode cX12_tells 52 = .ok (.aload_n 0, 1) := by decide +kernel
theorem dX12_tells_53 : decode cX12_tells 53 = .ok (.getfield 24, 3) := by decide +kernel
theorem dX12_tells_56 : decode cX12_tells 56 = .ok (.bipush 109, 2) := by decide +kernel
theorem dX12_tells_58 : decode cX12_tells 58 = .ok (.aload_n 0, 1) := by decide +kernel
theorem dX12_tells_59 : decode cX12_tells 59 = .ok (.getfield 24, 3) := by decide +kernel
theorem dX12_tells_62 : decode cX12_tells 62 = .ok (.bipush 108, 2) := by decide +kernel
theorem dX12_tells_64 : decode cX12_tells 64 = .ok (.iaload, 1) := by decide +kernel
theorem dX12_tells_65 : decode cX12_tells 65 = .ok (.iadd, 1) := by decide +kernel
theorem dX12_tells_66 : decode cX12_tells 66 = .ok (.iaload, 1) := by decide +kernel
theorem dX12_tells_67 : decode cX12_tells 67 = .ok (.iadd, 1) := by decide +kernel
theorem dX12_tells_68 : decode cX12_tells 68 = .ok (.putfield 279, 3) := by decide +kernel
theorem dX12_tells_71 : decode cX12_tells 71 = .ok (.aload_n 0, 1) := by decide +kernel
theorem dX12_tells_72 : decode cX12_tells 72 = .ok (.getfield 282, 3) := by decide +kernel
theorem dX12_tells_75 : decode cX12_tells 75 = .ok (.aload_n 0, 1) := by decide +kernel
theorem dX12_tells_76 : decode cX12_tells 76 = .ok (.getfield 279, 3) := by decide +kernel
theorem dX12_tells_79 : decode cX12_tells 79 = .ok (.if_icmp .ge 155, 3) := by decide +kernel
theorem dX12_tells_82 : decode cX12_tells 82 = .ok (.aload_n 0, 1) := by decide +kernel
theorem dX12_tells_83 : decode cX12_tells 83 = .ok (.aload_n 0, 1) := by decide +kernel
theorem dX12_tells_84 : decode cX12_tells 84 = .ok (.getfield 282, 3) := by decide +kernel
theorem dX12_tells_87 : decode cX12_tells 87 = .ok (.invokevirtual 285, 3) := by decide +kernel
theorem dX12_tells_90 : decode cX12_tells 90 = .ok (.istore 10, 2) := by decide +kernel
theorem dX12_tells_92 : decode cX12_tells 92 = .ok (.aload_n 0, 1) := by decide +kernel
theorem dX12_tells_93 : decode cX12_tells 93 = .ok (.iconst 0, 1) := by decide +kernel
theorem dX12_tells_94 : decode cX12_tells 94 = .ok (.putfield 292, 3) := by decide +kernel
theorem dX12_tells_97 : decode cX12_tells 97 = .ok (.aload_n 0, 1) := by decide +kernel
theorem dX12_tells_98 : decode cX12_tells 98 = .ok (.dup, 1) := by decide +kernel
theorem dX12_tells_99 : decode cX12_tells 99 = .ok (.getfield 282, 3) := by decide +kernel
theorem dX12_tells_102 : decode cX12_tells 102 = .ok (.iconst 1, 1) := by decide +kernel
theorem dX12_tells_103 : decode cX12_tells 103 = .ok (.iadd, 1) := by decide +kernel
theorem dX12_tells_104 : decode cX12_tells 104 = .ok (.putfield 282, 3) := by decide +kernel
theorem dX12_tells_107 : decode cX12_tells 107 = .ok (.iload 10, 2) := by decide +kernel
theorem dX12_tells_109 : decode cX12_tells 109 = .ok (.iconst 3, 1) := by decide +kernel
theorem dX12_tells_110 : decode cX12_tells 110 = .ok (.if_icmp .eq 9, 3) := by decide +kernel
theorem dX12_tells_113 : decode cX12_tells 113 = .ok (.iload 10, 2) := by decide +kernel
theorem dX12_tells_115 : decode cX12_tells 115 = .ok (.iconst 4, 1) := by decide +kernel
theorem dX12_tells_116 : decode cX12_tells 116 = .ok (.if_icmp .ne 7, 3) := by decide +kernel
theorem dX12_tells_119 : decode cX12_tells 119 = .ok (.lconst 1, 1) := by decide +kernel
theorem dX12_tells_120 : decode cX12_tells 120 = .ok (.goto 8, 3) := by decide +kernel
theorem dX12_tells_123 : decode cX12_tells 123 = .ok (.aload_n 0, 1) := by decide +kernel
theorem dX12_tells_124 : decode cX12_tells 124 = .ok (.iconst 1, 1) := by decide +kernel
theorem dX12_tells_125 : decode cX12_tells 125 = .ok (.invokevirtual 309, 3) := by decide +kernel
theorem dX12_tells_128 : decode cX12_tells 128 = .ok (.lstore 11, 2) := by decide +kernel
theorem dX12_tells_130 : decode cX12_tells 130 = .ok (.aload_n 0, 1) := by decide +kernel
theorem dX12_tells_131 : decode cX12_tells 131 = .ok (.getfield 292, 3) := by decide +kernel
theorem dX12_tells_134 : decode cX12_tells 134 = .ok (.istore 13, 2) := by decide +kernel
theorem dX12_tells_136 : decode cX12_tells 136 = .ok (.aload_n 0, 1) := by decide +kernel
theorem dX12_tells_137 : decode cX12_tells 137 = .ok (.iconst 0, 1) := by decide +kernel
theorem dX12_tells_138 : decode cX12_tells 138 = .ok (.putfield 292, 3) := by decide +kernel
theorem dX12_tells_141 : decode cX12_tells 141 = .ok (.aload_n 0, 1) := by decide +kernel
theorem dX12_tells_142 : decode cX12_tells 142 = .ok (.iconst 5, 1) := by decide +kernel
theorem dX12_tells_143 : decode cX12_tells 143 = .ok (.invokevirtual 306, 3) := by decide +kernel
theorem dX12_tells_146 : decode cX12_tells 146 = .ok (.ifCond .eq 11, 3) := by decide +kernel
theorem dX12_tells_149 : decode cX12_tells 149 = .ok (.aload_n 0, 1) := by decide +kernel
theorem dX12_tells_150 : decode cX12_tells 150 = .ok (.iconst 1, 1) := by decide +kernel
theorem dX12_tells_151 : decode cX12_tells 151 = .ok (.invokevirtual 340, 3) := by decide +kernel
theorem dX12_tells_154 : decode cX12_tells 154 = .ok (.ifCond .eq 7, 3) := by decide +kernel
theorem dX12_tells_157 : decode cX12_tells 157 = .ok (.iconst 1, 1) := by decide +kernel
theorem dX12_tells_158 : decode cX12_tells 158 = .ok (.goto 4, 3) := by decide +kernel
theorem dX12_tells_161 : decode cX12_tells 161 = .ok (.iconst 0, 1) := by decide +kernel
theorem dX12_tells_162 : decode cX12_tells 162 = .ok (.istore 14, 2) := by decide +kernel
theorem dX12_tells_164 : decode cX12_tells 164 = .ok (.iload 10, 2) := by decide +kernel
theorem dX12_tells_166 : decode cX12_tells 166 = .ok (.iload_n 1, 1) := by decide +kernel
theorem dX12_tells_167 : decode cX12_tells 167 = .ok (.if_icmp .ne 54, 3) := by decide +kernel
theorem dX12_tells_170 : decode cX12_tells 170 = .ok (.iload 14, 2) := by decide +kernel
theorem dX12_tells_172 : decode cX12_tells 172 = .ok (.ifCond .eq 49, 3) := by decide +kernel
theorem dX12_tells_175 : decode cX12_tells 175 = .ok (.aload_n 0, 1) := by decide +kernel
theorem dX12_tells_176 : decode cX12_tells 176 = .ok (.getfield 292, 3) := by decide +kernel
theorem dX12_tells_179 : decode cX12_tells 179 = .ok (.ifCond .ne 42, 3) := by decide +kernel
theorem dX12_tells_182 : decode cX12_tells 182 = .ok (.iload 13, 2) := by decide +kernel
theorem dX12_tells_184 : decode cX12_tells 184 = .ok (.ifCond .ne 37, 3) := by decide +kernel
theorem dX12_tells_187 : decode cX12_tells 187 = .ok (.lload 11, 2) := by decide +kernel
theorem dX12_tells_189 : decode cX12_tells 189 = .ok (.iload 5, 2) := by decide +kernel
theorem dX12_tells_191 : decode cX12_tells 191 = .ok (.i2l, 1) := by decide +kernel
theorem dX12_tells_192 : decode cX12_tells 192 = .ok (.lcmp, 1) := by decide +kernel
theorem dX12_tells_193 : decode cX12_tells 193 = .ok (.ifCond .ge 9, 3) := by decide +kernel
theorem dX12_tells_196 : decode cX12_tells 196 = .ok (.iload 5, 2) := by decide +kernel
theorem dX12_tells_198 : decode cX12_tells 198 = .ok (.i2l, 1) := by decide +kernel
theorem dX12_tells_199 : decode cX12_tells 199 = .ok (.goto 20, 3) := by decide +kernel
theorem dX12_tells_202 : decode cX12_tells 202 = .ok (.lload 11, 2) := by decide +kernel
theorem dX12_tells_204 : decode cX12_tells 204 = .ok (.iload 6, 2) := by decide +kernel
theorem dX12_tells_206 : decode cX12_tells 206 = .ok (.i2l, 1) := by decide +kernel
theorem dX12_tells_207 : decode cX12_tells 207 = .ok (.lcmp, 1) := by decide +kernel
theorem dX12_tells_208 : decode cX12_tells 208 = .ok (.ifCond .le 9, 3) := by decide +kernel
theorem dX12_tells_211 : decode cX12_tells 211 = .ok (.iload 6, 2) := by decide +kernel
theorem dX12_tells_213 : decode cX12_tells 213 = .ok (.i2l, 1) := by decide +kernel
theorem dX12_tells_214 : decode cX12_tells 214 = .ok (.goto 5, 3) := by decide +kernel
theorem dX12_tells_217 : decode cX12_tells 217 = .ok (.lload 11, 2) := by decide +kernel
theorem dX12_tells_219 : decode cX12_tells 219 = .ok (.lstore 8, 2) := by decide +kernel
theorem dX12_tells_221 : decode cX12_tells 221 = .ok (.aload_n 0, 1) := by decide +kernel
theorem dX12_tells_222 : decode cX12_tells 222 = .ok (.dup, 1) := by decide +kernel
theorem dX12_tells_223 : decode cX12_tells 223 = .ok (.getfield 282, 3) := by decide +kernel
theorem dX12_tells_226 : decode cX12_tells 226 = .ok (.iconst 1, 1) := by decide +kernel
theorem dX12_tells_227 : decode cX12_tells 227 = .ok (.iadd, 1) := by decide +kernel
theorem dX12_tells_228 : decode cX12_tells 228 = .ok (.putfield 282, 3) := by decide +kernel
theorem dX12_tells_231 : decode cX12_tells 231 = .ok (.goto (-160), 3) := by decide +kernel
theorem dX12_tells_234 : decode cX12_tells 234 = .ok (.lload 8, 2) := by decide +kernel
theorem dX12_tells_236 : decode cX12_tells 236 = .ok (.l2i, 1) := by decide +kernel
theorem dX12_tells_237 : decode cX12_tells 237 = .ok (.ireturn, 1) := by decide +kernel
theorem dX12_takesAt_0 : decode cX12_takesAt 0 = .ok (.aload_n 0, 1) := by decide +kernel
theorem dX12_takesAt_1 : decode cX12_takesAt 1 = .ok (.iconst 1, 1) := by decide +kernel
theorem dX12_takesAt_2 : decode cX12_takesAt 2 = .ok (.iload_n 1, 1) := by decide +kernel
theorem dX12_takesAt_3 : decode cX12_takesAt 3 = .ok (.iload_n 2, 1) := by decide +kernel
theorem dX12_takesAt_4 : decode cX12_takesAt 4 = .ok (.iload_n 3, 1) := by decide +kernel
theorem dX12_takesAt_5 : decode cX12_takesAt 5 = .ok (.iconst 1, 1) := by decide +kernel
theorem dX12_takesAt_6 : decode cX12_takesAt 6 = .ok (.bipush 60, 2) := by decide +kernel
theorem dX12_takesAt_8 : decode cX12_takesAt 8 = .ok (.iconst 1, 1) := by decide +kernel
theorem dX12_takesAt_9 : decode cX12_takesAt 9 = .ok (.bipush 20, 2) := by decide +kernel
theorem dX12_takesAt_11 : decode cX12_takesAt 11 = .ok (.aload_n 0, 1) := by decide +kernel
theorem dX12_takesAt_12 : decode cX12_takesAt 12 = .ok (.getfield 24, 3) := by decide +kernel
theorem dX12_takesAt_15 : decode cX12_takesAt 15 = .ok (.bipush 86, 2) := by decide +kernel
theorem dX12_takesAt_17 : decode cX12_takesAt 17 = .ok (.iload_n 3, 1) := by decide +kernel
theorem dX12_takesAt_18 : decode cX12_takesAt 18 = .ok (.iadd, 1) := by decide +kernel
theorem dX12_takesAt_19 : decode cX12_takesAt 19 = .ok (.iaload, 1) := by decide +kernel
theorem dX12_takesAt_20 : decode cX12_takesAt 20 = .ok (.idiv, 1) := by decide +kernel
theorem dX12_takesAt_21 : decode cX12_takesAt 21 = .ok (.iadd, 1) := by decide +kernel
theorem dX12_takesAt_22 : decode cX12_takesAt 22 = .ok (.invokevirtual 347, 3) := by decide +kernel
theorem dX12_takesAt_25 : decode cX12_takesAt 25 = .ok (.ireturn, 1) := by decide +kernel
theorem dX12_costOf_0 : decode cX12_costOf 0 = .ok (.aload_n 0, 1) := by decide +kernel
theorem dX12_costOf_1 : decode cX12_costOf 1 = .ok (.iconst 2, 1) := by decide +kernel
theorem dX12_costOf_2 : decode cX12_costOf 2 = .ok (.iload_n 1, 1) := by decide +kernel
theorem dX12_costOf_3 : decode cX12_costOf 3 = .ok (.iconst (-1), 1) := by decide +kernel
theorem dX12_costOf_4 : decode cX12_costOf 4 = .ok (.iconst (-1), 1) := by decide +kernel
theorem dX12_costOf_5 : decode cX12_costOf 5 = .ok (.iconst 0, 1) := by decide +kernel
theorem dX12_costOf_6 : decode cX12_costOf 6 = .ok (.bipush 9, 2) := by decide +kernel
theorem dX12_costOf_8 : decode cX12_costOf 8 = .ok (.iconst 1, 1) := by decide +kernel
theorem dX12_costOf_9 : decode cX12_costOf 9 = .ok (.invokevirtual 347, 3) := by decide +kernel
theorem dX12_costOf_12 : decode cX12_costOf 12 = .ok (.ireturn, 1) := by decide +kernel
theorem dX12_isFit_0 : decode cX12_isFit 0 = .ok (.aload_n 0, 1) := by decide +kernel
theorem dX12_isFit_1 : decode cX12_isFit 1 = .ok (.getfield 24, 3) := by decide +kernel
theorem dX12_isFit_4 : decode cX12_isFit 4 = .ok (.bipush 75, 2) := by decide +kernel
theorem dX12_isFit_6 : decode cX12_isFit 6 = .ok (.iload_n 2, 1) := by decide +kernel
theorem dX12_isFit_7 : decode cX12_isFit 7 = .ok (.iadd, 1) := by decide +kernel
theorem dX12_isFit_8 : decode cX12_isFit 8 = .ok (.iaload, 1) := by decide +kernel
theorem dX12_isFit_9 : decode cX12_isFit 9 = .ok (.aload_n 0, 1) := by decide +kernel
theorem dX12_isFit_10 : decode cX12_isFit 10 = .ok (.getfield 24, 3) := by decide +kernel
theorem dX12_isFit_13 : decode cX12_isFit 13 = .ok (.bipush 7, 2) := by decide +kernel
theorem dX12_isFit_15 : decode cX12_isFit 15 = .ok (.iload_n 1, 1) := by decide +kernel
theorem dX12_isFit_16 : decode cX12_isFit 16 = .ok (.iadd, 1) := by decide +kernel
theorem dX12_isFit_17 : decode cX12_isFit 17 = .ok (.iaload, 1) := by decide +kernel
theorem dX12_isFit_18 : decode cX12_isFit 18 = .ok (.if_icmp .eq 18, 3) := by decide +kernel
theorem dX12_isFit_21 : decode cX12_isFit 21 = .ok (.aload_n 0, 1) := by decide +kernel
theorem dX12_isFit_22 : decode cX12_isFit 22 = .ok (.iconst 3, 1) := by decide +kernel
theorem dX12_isFit_23 : decode cX12_isFit 23 = .ok (.iload_n 1, 1) := by decide +kernel
theorem dX12_isFit_24 : decode cX12_isFit 24 = .ok (.iload_n 2, 1) := by decide +kernel
theorem dX12_isFit_25 : decode cX12_isFit 25 = .ok (.iconst (-1), 1) := by decide +kernel
theorem dX12_isFit_26 : decode cX12_isFit 26 = .ok (.iconst 0, 1) := by decide +kernel
theorem dX12_isFit_27 : decode cX12_isFit 27 = .ok (.iconst 1, 1) := by decide +kernel
theorem dX12_isFit_28 : decode cX12_isFit 28 = .ok (.iconst 0, 1) := by decide +kernel
theorem dX12_isFit_29 : decode cX12_isFit 29 = .ok (.invokevirtual 347, 3) := by decide +kernel
theorem dX12_isFit_32 : decode cX12_isFit 32 = .ok (.iconst 1, 1) := by decide +kernel
theorem dX12_isFit_33 : decode cX12_isFit 33 = .ok (.if_icmp .ne 7, 3) := by decide +kernel
theorem dX12_isFit_36 : decode cX12_isFit 36 = .ok (.iconst 1, 1) := by decide +kernel
theorem dX12_isFit_37 : decode cX12_isFit 37 = .ok (.goto 4, 3) := by decide +kernel
theorem dX12_isFit_40 : decode cX12_isFit 40 = .ok (.iconst 0, 1) := by decide +kernel
theorem dX12_isFit_41 : decode cX12_isFit 41 = .ok (.ireturn, 1) := by decide +kernel
theorem dX12_isBarred_0 : decode cX12_isBarred 0 = .ok (.aload_n 0, 1) := by decide +kernel
theorem dX12_isBarred_1 : decode cX12_isBarred 1 = .ok (.iconst 4, 1) := by decide +kernel
theorem dX12_isBarred_2 : decode cX12_isBarred 2 = .ok (.iload_n 1, 1) := by decide +kernel
theorem dX12_isBarred_3 : decode cX12_isBarred 3 = .ok (.iload_n 2, 1) := by decide +kernel
theorem dX12_isBarred_4 : decode cX12_isBarred 4 = .ok (.iconst (-1), 1) := by decide +kernel
theorem dX12_isBarred_5 : decode cX12_isBarred 5 = .ok (.iconst 0, 1) := by decide +kernel
theorem dX12_isBarred_6 : decode cX12_isBarred 6 = .ok (.iconst 1, 1) := by decide +kernel
theorem dX12_isBarred_7 : decode cX12_isBarred 7 = .ok (.iconst 0, 1) := by decide +kernel
theorem dX12_isBarred_8 : decode cX12_isBarred 8 = .ok (.invokevirtual 347, 3) := by decide +kernel
theorem dX12_isBarred_11 : decode cX12_isBarred 11 = .ok (.iconst 1, 1) := by decide +kernel
theorem dX12_isBarred_12 : decode cX12_isBarred 12 = .ok (.if_icmp .ne 7, 3) := by decide +kernel
theorem dX12_isBarred_15 : decode cX12_isBarred 15 = .ok (.iconst 1, 1) := by decide +kernel
theorem dX12_isBarred_16 : decode cX12_isBarred 16 = .ok (.goto 4, 3) := by decide +kernel
theorem dX12_isBarred_19 : decode cX12_isBarred 19 = .ok (.iconst 0, 1) := by decide +kernel
theorem dX12_isBarred_20 : decode cX12_isBarred 20 = .ok (.ireturn, 1) := by decide +kernel
theorem dX12_heldMany_0 : decode cX12_heldMany 0 = .ok (.iconst 0, 1) := by decide +kernel
theorem dX12_heldMany_1 : decode cX12_heldMany 1 = .ok (.istore_n 1, 1) := by decide +kernel
theorem dX12_heldMany_2 : decode cX12_heldMany 2 = .ok (.iconst 0, 1) := by decide +kernel
theorem dX12_heldMany_3 : decode cX12_heldMany 3 = .ok (.istore_n 2, 1) := by decide +kernel
theorem dX12_heldMany_4 : decode cX12_heldMany 4 = .ok (.iload_n 2, 1) := by decide +kernel
theorem dX12_heldMany_5 : decode cX12_heldMany 5 = .ok (.aload_n 0, 1) := by decide +kernel
theorem dX12_heldMany_6 : decode cX12_heldMany 6 = .ok (.getfield 24, 3) := by decide +kernel
theorem dX12_heldMany_9 : decode cX12_heldMany 9 = .ok (.bipush 103, 2) := by decide +kernel
theorem dX12_heldMany_11 : decode cX12_heldMany 11 = .ok (.iaload, 1) := by decide +kernel
theorem dX12_heldMany_12 : decode cX12_heldMany 12 = .ok (.if_icmp .ge 25, 3) := by decide +kernel
theorem dX12_heldMany_15 : decode cX12_heldMany 15 = .ok (.iload_n 1, 1) := by decide +kernel
theorem dX12_heldMany_16 : decode cX12_heldMany 16 = .ok (.aload_n 0, 1) := by decide +kernel
theorem dX12_heldMany_17 : decode cX12_heldMany 17 = .ok (.iload_n 2, 1) := by decide +kernel
theorem dX12_heldMany_18 : decode cX12_heldMany 18 = .ok (.invokevirtual 351, 3) := by decide +kernel
theorem dX12_heldMany_21 : decode cX12_heldMany 21 = .ok (.ifCond .eq 7, 3) := by decide +kernel
theorem dX12_heldMany_24 : decode cX12_heldMany 24 = .ok (.iconst 1, 1) := by decide +kernel
theorem dX12_heldMany_25 : decode cX12_heldMany 25 = .ok (.goto 4, 3) := by decide +kernel
theorem dX12_heldMany_28 : decode cX12_heldMany 28 = .ok (.iconst 0, 1) := by decide +kernel
theorem dX12_heldMany_29 : decode cX12_heldMany 29 = .ok (.iadd, 1) := by decide +kernel
theorem dX12_heldMany_30 : decode cX12_heldMany 30 = .ok (.istore_n 1, 1) := by decide +kernel
theorem dX12_heldMany_31 : decode cX12_heldMany 31 = .ok (.iinc 2 1, 3) := by decide +kernel
theorem dX12_heldMany_34 : decode cX12_heldMany 34 = .ok (.goto (-30), 3) := by decide +kernel
theorem dX12_heldMany_37 : decode cX12_heldMany 37 = .ok (.iload_n 1, 1) := by decide +kernel
theorem dX12_heldMany_38 : decode cX12_heldMany 38 = .ok (.ireturn, 1) := by decide +kernel
theorem dX12_fitMany_0 : decode cX12_fitMany 0 = .ok (.iconst 0, 1) := by decide +kernel
theorem dX12_fitMany_1 : decode cX12_fitMany 1 = .ok (.istore_n 1, 1) := by decide +kernel
theorem dX12_fitMany_2 : decode cX12_fitMany 2 = .ok (.iconst 0, 1) := by decide +kernel
theorem dX12_fitMany_3 : decode cX12_fitMany 3 = .ok (.istore_n 2, 1) := by decide +kernel
theorem dX12_fitMany_4 : decode cX12_fitMany 4 = .ok (.iload_n 2, 1) := by decide +kernel
theorem dX12_fitMany_5 : decode cX12_fitMany 5 = .ok (.aload_n 0, 1) := by decide +kernel
theorem dX12_fitMany_6 : decode cX12_fitMany 6 = .ok (.getfield 24, 3) := by decide +kernel
theorem dX12_fitMany_9 : decode cX12_fitMany 9 = .ok (.bipush 103, 2) := by decide +kernel
theorem dX12_fitMany_11 : decode cX12_fitMany 11 = .ok (.iaload, 1) := by decide +kernel
theorem dX12_fitMany_12 : decode cX12_fitMany 12 = .ok (.if_icmp .ge 41, 3) := by decide +kernel
theorem dX12_fitMany_15 : decode cX12_fitMany 15 = .ok (.iload_n 1, 1) := by decide +kernel
theorem dX12_fitMany_16 : decode cX12_fitMany 16 = .ok (.aload_n 0, 1) := by decide +kernel
theorem dX12_fitMany_17 : decode cX12_fitMany 17 = .ok (.iload_n 2, 1) := by decide +kernel
theorem dX12_fitMany_18 : decode cX12_fitMany 18 = .ok (.invokevirtual 351, 3) := by decide +kernel
theorem dX12_fitMany_21 : decode cX12_fitMany 21 = .ok (.ifCond .eq 23, 3) := by decide +kernel
theorem dX12_fitMany_24 : decode cX12_fitMany 24 = .ok (.aload_n 0, 1) := by decide +kernel
theorem dX12_fitMany_25 : decode cX12_fitMany 25 = .ok (.iload_n 2, 1) := by decide +kernel
theorem dX12_fitMany_26 : decode cX12_fitMany 26 = .ok (.aload_n 0, 1) := by decide +kernel
theorem dX12_fitMany_27 : decode cX12_fitMany 27 = .ok (.getfield 24, 3) := by decide +kernel
theorem dX12_fitMany_30 : decode cX12_fitMany 30 = .ok (.iconst 0, 1) := by decide +kernel
theorem dX12_fitMany_31 : decode cX12_fitMany 31 = .ok (.iload_n 2, 1) := by decide +kernel
theorem dX12_fitMany_32 : decode cX12_fitMany 32 = .ok (.iadd, 1) := by decide +kernel
theorem dX12_fitMany_33 : decode cX12_fitMany 33 = .ok (.iaload, 1) := by decide +kernel
theorem dX12_fitMany_34 : decode cX12_fitMany 34 = .ok (.invokevirtual 158, 3) := by decide +kernel
theorem dX12_fitMany_37 : decode cX12_fitMany 37 = .ok (.ifCond .eq 7, 3) := by decide +kernel
theorem dX12_fitMany_40 : decode cX12_fitMany 40 = .ok (.iconst 1, 1) := by decide +kernel
theorem dX12_fitMany_41 : decode cX12_fitMany 41 = .ok (.goto 4, 3) := by decide +kernel
theorem dX12_fitMany_44 : decode cX12_fitMany 44 = .ok (.iconst 0, 1) := by decide +kernel
theorem dX12_fitMany_45 : decode cX12_fitMany 45 = .ok (.iadd, 1) := by decide +kernel
theorem dX12_fitMany_46 : decode cX12_fitMany 46 = .ok (.istore_n 1, 1) := by decide +kernel
theorem dX12_fitMany_47 : decode cX12_fitMany 47 = .ok (.iinc 2 1, 3) := by decide +kernel
theorem dX12_fitMany_50 : decode cX12_fitMany 50 = .ok (.goto (-46), 3) := by decide +kernel
theorem dX12_fitMany_53 : decode cX12_fitMany 53 = .ok (.iload_n 1, 1) := by decide +kernel
theorem dX12_fitMany_54 : decode cX12_fitMany 54 = .ok (.ireturn, 1) := by decide +kernel
theorem dX12_canDraw_0 : decode cX12_canDraw 0 = .ok (.aload_n 0, 1) := by decide +kernel
theorem dX12_canDraw_1 : decode cX12_canDraw 1 = .ok (.iload_n 2, 1) := by decide +kernel
theorem dX12_canDraw_2 : decode cX12_canDraw 2 = .ok (.invokevirtual 351, 3) := by decide +kernel
theorem dX12_canDraw_5 : decode cX12_canDraw 5 = .ok (.ifCond .ne 25, 3) := by decide +kernel
theorem dX12_canDraw_8 : decode cX12_canDraw 8 = .ok (.aload_n 0, 1) := by decide +kernel
theorem dX12_canDraw_9 : decode cX12_canDraw 9 = .ok (.iload_n 1, 1) := by decide +kernel
theorem dX12_canDraw_10 : decode cX12_canDraw 10 = .ok (.invokevirtual 151, 3) := by decide +kernel
theorem dX12_canDraw_13 : decode cX12_canDraw 13 = .ok (.iconst (-1), 1) := by decide +kernel
theorem dX12_canDraw_14 : decode cX12_canDraw 14 = .ok (.if_icmp .ne 16, 3) := by decide +kernel
theorem dX12_canDraw_17 : decode cX12_canDraw 17 = .ok (.aload_n 0, 1) := by decide +kernel
theorem dX12_canDraw_18 : decode cX12_canDraw 18 = .ok (.iload_n 2, 1) := by decide +kernel
theorem dX12_canDraw_19 : decode cX12_canDraw 19 = .ok (.iload_n 1, 1) := by decide +kernel
theorem dX12_canDraw_20 : decode cX12_canDraw 20 = .ok (.invokevirtual 161, 3) := by decide +kernel
theorem dX12_canDraw_23 : decode cX12_canDraw 23 = .ok (.ifCond .ne 7, 3) := by decide +kernel
theorem dX12_canDraw_26 : decode cX12_canDraw 26 = .ok (.iconst 1, 1) := by decide +kernel
theorem dX12_canDraw_27 : decode cX12_canDraw 27 = .ok (.goto 4, 3) := by decide +kernel
theorem dX12_canDraw_30 : decode cX12_canDraw 30 = .ok (.iconst 0, 1) := by decide +kernel
theorem dX12_canDraw_31 : decode cX12_canDraw 31 = .ok (.ireturn, 1) := by decide +kernel
theorem dX12_canSwap_0 : decode cX12_canSwap 0 = .ok (.iload_n 1, 1) := by decide +kernel
theorem dX12_canSwap_1 : decode cX12_canSwap 1 = .ok (.iload_n 2, 1) := by decide +kernel
theorem dX12_canSwap_2 : decode cX12_canSwap 2 = .ok (.if_icmp .eq 55, 3) := by decide +kernel
theorem dX12_canSwap_5 : decode cX12_canSwap 5 = .ok (.aload_n 0, 1) := by decide +kernel
theorem dX12_canSwap_6 : decode cX12_canSwap 6 = .ok (.iload_n 1, 1) := by decide +kernel
theorem dX12_canSwap_7 : decode cX12_canSwap 7 = .ok (.invokevirtual 351, 3) := by decide +kernel
theorem dX12_canSwap_10 : decode cX12_canSwap 10 = .ok (.ifCond .eq 47, 3) := by decide +kernel
theorem dX12_canSwap_13 : decode cX12_canSwap 13 = .ok (.aload_n 0, 1) := by decide +kernel
theorem dX12_canSwap_14 : decode cX12_canSwap 14 = .ok (.iload_n 2, 1) := by decide +kernel
theorem dX12_canSwap_15 : decode cX12_canSwap 15 = .ok (.invokevirtual 351, 3) := by decide +kernel
theorem dX12_canSwap_18 : decode cX12_canSwap 18 = .ok (.ifCond .eq 39, 3) := by decide +kernel
theorem dX12_canSwap_21 : decode cX12_canSwap 21 = .ok (.aload_n 0, 1) := by decide +kernel
theorem dX12_canSwap_22 : decode cX12_canSwap 22 = .ok (.iload_n 1, 1) := by decide +kernel
theorem dX12_canSwap_23 : decode cX12_canSwap 23 = .ok (.aload_n 0, 1) := by decide +kernel
theorem dX12_canSwap_24 : decode cX12_canSwap 24 = .ok (.getfield 24, 3) := by decide +kernel
theorem dX12_canSwap_27 : decode cX12_canSwap 27 = .ok (.iconst 0, 1) := by decide +kernel
theorem dX12_canSwap_28 : decode cX12_canSwap 28 = .ok (.iload_n 2, 1) := by decide +kernel
theorem dX12_canSwap_29 : decode cX12_canSwap 29 = .ok (.iadd, 1) := by decide +kernel
theorem dX12_canSwap_30 : decode cX12_canSwap 30 = .ok (.iaload, 1) := by decide +kernel
theorem dX12_canSwap_31 : decode cX12_canSwap 31 = .ok (.invokevirtual 161, 3) := by decide +kernel
theorem dX12_canSwap_34 : decode cX12_canSwap 34 = .ok (.ifCond .ne 23, 3) := by decide +kernel
theorem dX12_canSwap_37 : decode cX12_canSwap 37 = .ok (.aload_n 0, 1) := by decide +kernel
theorem dX12_canSwap_38 : decode cX12_canSwap 38 = .ok (.iload_n 2, 1) := by decide +kernel
theorem dX12_canSwap_39 : decode cX12_canSwap 39 = .ok (.aload_n 0, 1) := by decide +kernel
theorem dX12_canSwap_40 : decode cX12_canSwap 40 = .ok (.getfield 24, 3) := by decide +kernel
theorem dX12_canSwap_43 : decode cX12_canSwap 43 = .ok (.iconst 0, 1) := by decide +kernel
theorem dX12_canSwap_44 : decode cX12_canSwap 44 = .ok (.iload_n 1, 1) := by decide +kernel
theorem dX12_canSwap_45 : decode cX12_canSwap 45 = .ok (.iadd, 1) := by decide +kernel
theorem dX12_canSwap_46 : decode cX12_canSwap 46 = .ok (.iaload, 1) := by decide +kernel
theorem dX12_canSwap_47 : decode cX12_canSwap 47 = .ok (.invokevirtual 161, 3) := by decide +kernel
theorem dX12_canSwap_50 : decode cX12_canSwap 50 = .ok (.ifCond .ne 7, 3) := by decide +kernel
theorem dX12_canSwap_53 : decode cX12_canSwap 53 = .ok (.iconst 1, 1) := by decide +kernel
theorem dX12_canSwap_54 : decode cX12_canSwap 54 = .ok (.goto 4, 3) := by decide +kernel
theorem dX12_canSwap_57 : decode cX12_canSwap 57 = .ok (.iconst 0, 1) := by decide +kernel
theorem dX12_canSwap_58 : decode cX12_canSwap 58 = .ok (.ireturn, 1) := by decide +kernel
theorem dX12_swapsNow_0 : decode cX12_swapsNow 0 = .ok (.aload_n 0, 1) := by decide +kernel
theorem dX12_swapsNow_1 : decode cX12_swapsNow 1 = .ok (.getfield 24, 3) := by decide +kernel
theorem dX12_swapsNow_4 : decode cX12_swapsNow 4 = .ok (.iconst 0, 1) := by decide +kernel
theorem dX12_swapsNow_5 : decode cX12_swapsNow 5 = .ok (.iload_n 1, 1) := by decide +kernel
theorem dX12_swapsNow_6 : decode cX12_swapsNow 6 = .ok (.iadd, 1) := by decide +kernel
theorem dX12_swapsNow_7 : decode cX12_swapsNow 7 = .ok (.iaload, 1) := by decide +kernel
theorem dX12_swapsNow_8 : decode cX12_swapsNow 8 = .ok (.istore_n 3, 1) := by decide +kernel
theorem dX12_swapsNow_9 : decode cX12_swapsNow 9 = .ok (.aload_n 0, 1) := by decide +kernel
theorem dX12_swapsNow_10 : decode cX12_swapsNow 10 = .ok (.getfield 24, 3) := by decide +kernel
theorem dX12_swapsNow_13 : decode cX12_swapsNow 13 = .ok (.iconst 0, 1) := by decide +kernel
theorem dX12_swapsNow_14 : decode cX12_swapsNow 14 = .ok (.iload_n 1, 1) := by decide +kernel
theorem dX12_swapsNow_15 : decode cX12_swapsNow 15 = .ok (.iadd, 1) := by decide +kernel
theorem dX12_swapsNow_16 : decode cX12_swapsNow 16 = .ok (.aload_n 0, 1) := by decide +kernel
theorem dX12_swapsNow_17 : decode cX12_swapsNow 17 = .ok (.getfield 24, 3) := by decide +kernel
theorem dX12_swapsNow_20 : decode cX12_swapsNow 20 = .ok (.iconst 0, 1) := by decide +kernel
theorem dX12_swapsNow_21 : decode cX12_swapsNow 21 = .ok (.iload_n 2, 1) := by decide +kernel
theorem dX12_swapsNow_22 : decode cX12_swapsNow 22 = .ok (.iadd, 1) := by decide +kernel
theorem dX12_swapsNow_23 : decode cX12_swapsNow 23 = .ok (.iaload, 1) := by decide +kernel
theorem dX12_swapsNow_24 : decode cX12_swapsNow 24 = .ok (.iastore, 1) := by decide +kernel
theorem dX12_swapsNow_25 : decode cX12_swapsNow 25 = .ok (.aload_n 0, 1) := by decide +kernel
theorem dX12_swapsNow_26 : decode cX12_swapsNow 26 = .ok (.getfield 24, 3) := by decide +kernel
theorem dX12_swapsNow_29 : decode cX12_swapsNow 29 = .ok (.iconst 0, 1) := by decide +kernel
theorem dX12_swapsNow_30 : decode cX12_swapsNow 30 = .ok (.iload_n 2, 1) := by decide +kernel
theorem dX12_swapsNow_31 : decode cX12_swapsNow 31 = .ok (.iadd, 1) := by decide +kernel
theorem dX12_swapsNow_32 : decode cX12_swapsNow 32 = .ok (.iload_n 3, 1) := by decide +kernel
theorem dX12_swapsNow_33 : decode cX12_swapsNow 33 = .ok (.iastore, 1) := by decide +kernel
theorem dX12_swapsNow_34 : decode cX12_swapsNow 34 = .ok (.return_, 1) := by decide +kernel
theorem dX12_keeps_0 : decode cX12_keeps 0 = .ok (.bipush 8, 2) := by decide +kernel
theorem dX12_keeps_2 : decode cX12_keeps 2 = .ok (.istore_n 2, 1) := by decide +kernel
theorem dX12_keeps_3 : decode cX12_keeps 3 = .ok (.aload_n 0, 1) := by decide +kernel
theorem dX12_keeps_4 : decode cX12_keeps 4 = .ok (.getfield 11, 3) := by decide +kernel
theorem dX12_keeps_7 : decode cX12_keeps 7 = .ok (.bipush 16, 2) := by decide +kernel
theorem dX12_keeps_9 : decode cX12_keeps 9 = .ok (.if_icmp .ne 43, 3) := by decide +kernel
theorem dX12_keeps_12 : decode cX12_keeps 12 = .ok (.iconst 0, 1) := by decide +kernel
theorem dX12_keeps_13 : decode cX12_keeps 13 = .ok (.istore_n 3, 1) := by decide +kernel
theorem dX12_keeps_14 : decode cX12_keeps 14 = .ok (.iload_n 3, 1) := by decide +kernel
theorem dX12_keeps_15 : decode cX12_keeps 15 = .ok (.bipush 15, 2) := by decide +kernel
theorem dX12_keeps_17 : decode cX12_keeps 17 = .ok (.iload_n 2, 1) := by decide +kernel
theorem dX12_keeps_18 : decode cX12_keeps 18 = .ok (.imul, 1) := by decide +kernel
theorem dX12_keeps_19 : decode cX12_keeps 19 = .ok (.if_icmp .ge 23, 3) := by decide +kernel
theorem dX12_keeps_22 : decode cX12_keeps 22 = .ok (.aload_n 0, 1) := by decide +kernel
theorem dX12_keeps_23 : decode cX12_keeps 23 = .ok (.getfield 62, 3) := by decide +kernel
theorem dX12_keeps_26 : decode cX12_keeps 26 = .ok (.iload_n 3, 1) := by decide +kernel
theorem dX12_keeps_27 : decode cX12_keeps 27 = .ok (.aload_n 0, 1) := by decide +kernel
theorem dX12_keeps_28 : decode cX12_keeps 28 = .ok (.getfield 62, 3) := by decide +kernel
theorem dX12_keeps_31 : decode cX12_keeps 31 = .ok (.iload_n 3, 1) := by decide +kernel
theorem dX12_keeps_32 : decode cX12_keeps 32 = .ok (.iload_n 2, 1) := by decide +kernel
theorem dX12_keeps_33 : decode cX12_keeps 33 = .ok (.iadd, 1) := by decide +kernel
theorem dX12_keeps_34 : decode cX12_keeps 34 = .ok (.iaload, 1) := by decide +kernel
theorem dX12_keeps_35 : decode cX12_keeps 35 = .ok (.iastore, 1) := by decide +kernel
theorem dX12_keeps_36 : decode cX12_keeps 36 = .ok (.iinc 3 1, 3) := by decide +kernel
theorem dX12_keeps_39 : decode cX12_keeps 39 = .ok (.goto (-25), 3) := by decide +kernel
theorem dX12_keeps_42 : decode cX12_keeps 42 = .ok (.aload_n 0, 1) := by decide +kernel
theorem dX12_keeps_43 : decode cX12_keeps 43 = .ok (.dup, 1) := by decide +kernel
theorem dX12_keeps_44 : decode cX12_keeps 44 = .ok (.getfield 11, 3) := by decide +kernel
theorem dX12_keeps_47 : decode cX12_keeps 47 = .ok (.iconst 1, 1) := by decide +kernel
theorem dX12_keeps_48 : decode cX12_keeps 48 = .ok (.isub, 1) := by decide +kernel
theorem dX12_keeps_49 : decode cX12_keeps 49 = .ok (.putfield 11, 3) := by decide +kernel
theorem dX12_keeps_52 : decode cX12_keeps 52 = .ok (.iconst 0, 1) := by decide +kernel
theorem dX12_keeps_53 : decode cX12_keeps 53 = .ok (.istore_n 3, 1) := by decide +kernel
theorem dX12_keeps_54 : decode cX12_keeps 54 = .ok (.iload_n 3, 1) := by decide +kernel
theorem dX12_keeps_55 : decode cX12_keeps 55 = .ok (.bipush 7, 2) := by decide +kernel
theorem dX12_keeps_57 : decode cX12_keeps 57 = .ok (.if_icmp .ge 28, 3) := by decide +kernel
theorem dX12_keeps_60 : decode cX12_keeps 60 = .ok (.aload_n 0, 1) := by decide +kernel
theorem dX12_keeps_61 : decode cX12_keeps 61 = .ok (.getfield 62, 3) := by decide +kernel
theorem dX12_keeps_64 : decode cX12_keeps 64 = .ok (.iload_n 2, 1) := by decide +kernel
theorem dX12_keeps_65 : decode cX12_keeps 65 = .ok (.aload_n 0, 1) := by decide +kernel
theorem dX12_keeps_66 : decode cX12_keeps 66 = .ok (.getfield 11, 3) := by decide +kernel
theorem dX12_keeps_69 : decode cX12_keeps 69 = .ok (.imul, 1) := by decide +kernel
theorem dX12_keeps_70 : decode cX12_keeps 70 = .ok (.iload_n 3, 1) := by decide +kernel
theorem dX12_keeps_71 : decode cX12_keeps 71 = .ok (.iadd, 1) := by decide +kernel
theorem dX12_keeps_72 : decode cX12_keeps 72 = .ok (.aload_n 0, 1) := by decide +kernel
theorem dX12_keeps_73 : decode cX12_keeps 73 = .ok (.getfield 24, 3) := by decide +kernel
theorem dX12_keeps_76 : decode cX12_keeps 76 = .ok (.iload_n 3, 1) := by decide +kernel
theorem dX12_keeps_77 : decode cX12_keeps 77 = .ok (.iaload, 1) := by decide +kernel
theorem dX12_keeps_78 : decode cX12_keeps 78 = .ok (.iastore, 1) := by decide +kernel
theorem dX12_keeps_79 : decode cX12_keeps 79 = .ok (.iinc 3 1, 3) := by decide +kernel
theorem dX12_keeps_82 : decode cX12_keeps 82 = .ok (.goto (-28), 3) := by decide +kernel
theorem dX12_keeps_85 : decode cX12_keeps 85 = .ok (.aload_n 0, 1) := by decide +kernel
theorem dX12_keeps_86 : decode cX12_keeps 86 = .ok (.getfield 62, 3) := by decide +kernel
theorem dX12_keeps_89 : decode cX12_keeps 89 = .ok (.iload_n 2, 1) := by decide +kernel
theorem dX12_keeps_90 : decode cX12_keeps 90 = .ok (.aload_n 0, 1) := by decide +kernel
theorem dX12_keeps_91 : decode cX12_keeps 91 = .ok (.getfield 11, 3) := by decide +kernel
theorem dX12_keeps_94 : decode cX12_keeps 94 = .ok (.imul, 1) := by decide +kernel
theorem dX12_keeps_95 : decode cX12_keeps 95 = .ok (.bipush 7, 2) := by decide +kernel
theorem dX12_keeps_97 : decode cX12_keeps 97 = .ok (.iadd, 1) := by decide +kernel
theorem dX12_keeps_98 : decode cX12_keeps 98 = .ok (.iload_n 1, 1) := by decide +kernel
theorem dX12_keeps_99 : decode cX12_keeps 99 = .ok (.iastore, 1) := by decide +kernel
theorem dX12_keeps_100 : decode cX12_keeps 100 = .ok (.aload_n 0, 1) := by decide +kernel
theorem dX12_keeps_101 : decode cX12_keeps 101 = .ok (.dup, 1) := by decide +kernel
theorem dX12_keeps_102 : decode cX12_keeps 102 = .ok (.getfield 11, 3) := by decide +kernel
theorem dX12_keeps_105 : decode cX12_keeps 105 = .ok (.iconst 1, 1) := by decide +kernel
theorem dX12_keeps_106 : decode cX12_keeps 106 = .ok (.iadd, 1) := by decide +kernel
theorem dX12_keeps_107 : decode cX12_keeps 107 = .ok (.putfield 11, 3) := by decide +kernel
theorem dX12_keeps_110 : decode cX12_keeps 110 = .ok (.return_, 1) := by decide +kernel
theorem dX12_undo_0 : decode cX12_undo 0 = .ok (.aload_n 0, 1) := by decide +kernel
theorem dX12_undo_1 : decode cX12_undo 1 = .ok (.getfield 11, 3) := by decide +kernel
theorem dX12_undo_4 : decode cX12_undo 4 = .ok (.ifCond .ne 10, 3) := by decide +kernel
theorem dX12_undo_7 : decode cX12_undo 7 = .ok (.aload_n 0, 1) := by decide +kernel
theorem dX12_undo_8 : decode cX12_undo 8 = .ok (.bipush (-3), 2) := by decide +kernel
theorem dX12_undo_10 : decode cX12_undo 10 = .ok (.invokevirtual 121, 3) := by decide +kernel
theorem dX12_undo_13 : decode cX12_undo 13 = .ok (.ireturn, 1) := by decide +kernel
theorem dX12_undo_14 : decode cX12_undo 14 = .ok (.aload_n 0, 1) := by decide +kernel
theorem dX12_undo_15 : decode cX12_undo 15 = .ok (.dup, 1) := by decide +kernel
theorem dX12_undo_16 : decode cX12_undo 16 = .ok (.getfield 11, 3) := by decide +kernel
theorem dX12_undo_19 : decode cX12_undo 19 = .ok (.iconst 1, 1) := by decide +kernel
theorem dX12_undo_20 : decode cX12_undo 20 = .ok (.isub, 1) := by decide +kernel
theorem dX12_undo_21 : decode cX12_undo 21 = .ok (.putfield 11, 3) := by decide +kernel
theorem dX12_undo_24 : decode cX12_undo 24 = .ok (.bipush 8, 2) := by decide +kernel
theorem dX12_undo_26 : decode cX12_undo 26 = .ok (.aload_n 0, 1) := by decide +kernel
theorem dX12_undo_27 : decode cX12_undo 27 = .ok (.getfield 11, 3) := by decide +kernel
theorem dX12_undo_30 : decode cX12_undo 30 = .ok (.imul, 1) := by decide +kernel
theorem dX12_undo_31 : decode cX12_undo 31 = .ok (.istore_n 1, 1) := by decide +kernel
theorem dX12_undo_32 : decode cX12_undo 32 = .ok (.iconst 0, 1) := by decide +kernel
theorem dX12_undo_33 : decode cX12_undo 33 = .ok (.istore_n 2, 1) := by decide +kernel
theorem dX12_undo_34 : decode cX12_undo 34 = .ok (.iload_n 2, 1) := by decide +kernel
theorem dX12_undo_35 : decode cX12_undo 35 = .ok (.bipush 7, 2) := by decide +kernel
theorem dX12_undo_37 : decode cX12_undo 37 = .ok (.if_icmp .ge 23, 3) := by decide +kernel
theorem dX12_undo_40 : decode cX12_undo 40 = .ok (.aload_n 0, 1) := by decide +kernel
theorem dX12_undo_41 : decode cX12_undo 41 = .ok (.getfield 24, 3) := by decide +kernel
theorem dX12_undo_44 : decode cX12_undo 44 = .ok (.iload_n 2, 1) := by decide +kernel
theorem dX12_undo_45 : decode cX12_undo 45 = .ok (.aload_n 0, 1) := by decide +kernel
theorem dX12_undo_46 : decode cX12_undo 46 = .ok (.getfield 62, 3) := by decide +kernel
theorem dX12_undo_49 : decode cX12_undo 49 = .ok (.iload_n 1, 1) := by decide +kernel
theorem dX12_undo_50 : decode cX12_undo 50 = .ok (.iload_n 2, 1) := by decide +kernel
theorem dX12_undo_51 : decode cX12_undo 51 = .ok (.iadd, 1) := by decide +kernel
theorem dX12_undo_52 : decode cX12_undo 52 = .ok (.iaload, 1) := by decide +kernel
theorem dX12_undo_53 : decode cX12_undo 53 = .ok (.iastore, 1) := by decide +kernel
theorem dX12_undo_54 : decode cX12_undo 54 = .ok (.iinc 2 1, 3) := by decide +kernel
theorem dX12_undo_57 : decode cX12_undo 57 = .ok (.goto (-23), 3) := by decide +kernel
theorem dX12_undo_60 : decode cX12_undo 60 = .ok (.aload_n 0, 1) := by decide +kernel
theorem dX12_undo_61 : decode cX12_undo 61 = .ok (.aload_n 0, 1) := by decide +kernel
theorem dX12_undo_62 : decode cX12_undo 62 = .ok (.getfield 62, 3) := by decide +kernel
theorem dX12_undo_65 : decode cX12_undo 65 = .ok (.iload_n 1, 1) := by decide +kernel
theorem dX12_undo_66 : decode cX12_undo 66 = .ok (.bipush 7, 2) := by decide +kernel
theorem dX12_undo_68 : decode cX12_undo 68 = .ok (.iadd, 1) := by decide +kernel
theorem dX12_undo_69 : decode cX12_undo 69 = .ok (.iaload, 1) := by decide +kernel
theorem dX12_undo_70 : decode cX12_undo 70 = .ok (.invokevirtual 14, 3) := by decide +kernel
theorem dX12_undo_73 : decode cX12_undo 73 = .ok (.ireturn, 1) := by decide +kernel
theorem dX12_goodOr_0 : decode cX12_goodOr 0 = .ok (.iload_n 1, 1) := by decide +kernel
theorem dX12_goodOr_1 : decode cX12_goodOr 1 = .ok (.ifCond .ge 11, 3) := by decide +kernel
theorem dX12_goodOr_4 : decode cX12_goodOr 4 = .ok (.aload_n 0, 1) := by decide +kernel
theorem dX12_goodOr_5 : decode cX12_goodOr 5 = .ok (.iload_n 1, 1) := by decide +kernel
theorem dX12_goodOr_6 : decode cX12_goodOr 6 = .ok (.invokevirtual 121, 3) := by decide +kernel
theorem dX12_goodOr_9 : decode cX12_goodOr 9 = .ok (.goto 8, 3) := by decide +kernel
theorem dX12_goodOr_12 : decode cX12_goodOr 12 = .ok (.aload_n 0, 1) := by decide +kernel
theorem dX12_goodOr_13 : decode cX12_goodOr 13 = .ok (.iload_n 1, 1) := by decide +kernel
theorem dX12_goodOr_14 : decode cX12_goodOr 14 = .ok (.invokevirtual 14, 3) := by decide +kernel
theorem dX12_goodOr_17 : decode cX12_goodOr 17 = .ok (.ireturn, 1) := by decide +kernel
theorem dX12_drawsKept_0 : decode cX12_drawsKept 0 = .ok (.aload_n 0, 1) := by decide +kernel
theorem dX12_drawsKept_1 : decode cX12_drawsKept 1 = .ok (.iload_n 1, 1) := by decide +kernel
theorem dX12_drawsKept_2 : decode cX12_drawsKept 2 = .ok (.invokevirtual 148, 3) := by decide +kernel
theorem dX12_drawsKept_5 : decode cX12_drawsKept 5 = .ok (.ifCond .eq 11, 3) := by decide +kernel
theorem dX12_drawsKept_8 : decode cX12_drawsKept 8 = .ok (.aload_n 0, 1) := by decide +kernel
theorem dX12_drawsKept_9 : decode cX12_drawsKept 9 = .ok (.iload_n 2, 1) := by decide +kernel
theorem dX12_drawsKept_10 : decode cX12_drawsKept 10 = .ok (.invokevirtual 131, 3) := by decide +kernel
theorem dX12_drawsKept_13 : decode cX12_drawsKept 13 = .ok (.ifCond .ne 6, 3) := by decide +kernel
theorem dX12_drawsKept_16 : decode cX12_drawsKept 16 = .ok (.bipush (-2), 2) := by decide +kernel
theorem dX12_drawsKept_18 : decode cX12_drawsKept 18 = .ok (.ireturn, 1) := by decide +kernel
theorem dX12_drawsKept_19 : decode cX12_drawsKept 19 = .ok (.aload_n 0, 1) := by decide +kernel
theorem dX12_drawsKept_20 : decode cX12_drawsKept 20 = .ok (.iload_n 1, 1) := by decide +kernel
theorem dX12_drawsKept_21 : decode cX12_drawsKept 21 = .ok (.iload_n 2, 1) := by decide +kernel
theorem dX12_drawsKept_22 : decode cX12_drawsKept 22 = .ok (.invokevirtual 354, 3) := by decide +kernel
theorem dX12_drawsKept_25 : decode cX12_drawsKept 25 = .ok (.ifCond .ne 6, 3) := by decide +kernel
theorem dX12_drawsKept_28 : decode cX12_drawsKept 28 = .ok (.bipush (-3), 2) := by decide +kernel
theorem dX12_drawsKept_30 : decode cX12_drawsKept 30 = .ok (.ireturn, 1) := by decide +kernel
theorem dX12_drawsKept_31 : decode cX12_drawsKept 31 = .ok (.aload_n 0, 1) := by decide +kernel
theorem dX12_drawsKept_32 : decode cX12_drawsKept 32 = .ok (.iconst 0, 1) := by decide +kernel
theorem dX12_drawsKept_33 : decode cX12_drawsKept 33 = .ok (.invokevirtual 357, 3) := by decide +kernel
theorem dX12_drawsKept_36 : decode cX12_drawsKept 36 = .ok (.aload_n 0, 1) := by decide +kernel
theorem dX12_drawsKept_37 : decode cX12_drawsKept 37 = .ok (.getfield 24, 3) := by decide +kernel
theorem dX12_drawsKept_40 : decode cX12_drawsKept 40 = .ok (.iconst 0, 1) := by decide +kernel
theorem dX12_drawsKept_41 : decode cX12_drawsKept 41 = .ok (.iload_n 2, 1) := by decide +kernel
theorem dX12_drawsKept_42 : decode cX12_drawsKept 42 = .ok (.iadd, 1) := by decide +kernel
theorem dX12_drawsKept_43 : decode cX12_drawsKept 43 = .ok (.iload_n 1, 1) := by decide +kernel
theorem dX12_drawsKept_44 : decode cX12_drawsKept 44 = .ok (.iastore, 1) := by decide +kernel
theorem dX12_drawsKept_45 : decode cX12_drawsKept 45 = .ok (.aload_n 0, 1) := by decide +kernel
theorem dX12_drawsKept_46 : decode cX12_drawsKept 46 = .ok (.getfield 24, 3) := by decide +kernel
theorem dX12_drawsKept_49 : decode cX12_drawsKept 49 = .ok (.bipush 67, 2) := by decide +kernel
theorem dX12_drawsKept_51 : decode cX12_drawsKept 51 = .ok (.iload_n 1, 1) := by decide +kernel
theorem dX12_drawsKept_52 : decode cX12_drawsKept 52 = .ok (.iadd, 1) := by decide +kernel
theorem dX12_drawsKept_53 : decode cX12_drawsKept 53 = .ok (.iaload, 1) := by decide +kernel
theorem dX12_drawsKept_54 : decode cX12_drawsKept 54 = .ok (.ireturn, 1) := by decide +kernel
theorem dX12_swapsKept_0 : decode cX12_swapsKept 0 = .ok (.aload_n 0, 1) := by decide +kernel
theorem dX12_swapsKept_1 : decode cX12_swapsKept 1 = .ok (.iload_n 1, 1) := by decide +kernel
theorem dX12_swapsKept_2 : decode cX12_swapsKept 2 = .ok (.invokevirtual 131, 3) := by decide +kernel
theorem dX12_swapsKept_5 : decode cX12_swapsKept 5 = .ok (.ifCond .eq 11, 3) := by decide +kernel
theorem dX12_swapsKept_8 : decode cX12_swapsKept 8 = .ok (.aload_n 0, 1) := by decide +kernel
theorem dX12_swapsKept_9 : decode cX12_swapsKept 9 = .ok (.iload_n 2, 1) := by decide +kernel
theorem dX12_swapsKept_10 : decode cX12_swapsKept 10 = .ok (.invokevirtual 131, 3) := by decide +kernel
theorem dX12_swapsKept_13 : decode cX12_swapsKept 13 = .ok (.ifCond .ne 6, 3) := by decide +kernel
theorem dX12_swapsKept_16 : decode cX12_swapsKept 16 = .ok (.bipush (-2), 2) := by decide +kernel
theorem dX12_swapsKept_18 : decode cX12_swapsKept 18 = .ok (.ireturn, 1) := by decide +kernel
theorem dX12_swapsKept_19 : decode cX12_swapsKept 19 = .ok (.aload_n 0, 1) := by decide +kernel
theorem dX12_swapsKept_20 : decode cX12_swapsKept 20 = .ok (.iload_n 1, 1) := by decide +kernel
theorem dX12_swapsKept_21 : decode cX12_swapsKept 21 = .ok (.iload_n 2, 1) := by decide +kernel
theorem dX12_swapsKept_22 : decode cX12_swapsKept 22 = .ok (.invokevirtual 360, 3) := by decide +kernel
theorem dX12_swapsKept_25 : decode cX12_swapsKept 25 = .ok (.ifCond .ne 6, 3) := by decide +kernel
theorem dX12_swapsKept_28 : decode cX12_swapsKept 28 = .ok (.bipush (-3), 2) := by decide +kernel
theorem dX12_swapsKept_30 : decode cX12_swapsKept 30 = .ok (.ireturn, 1) := by decide +kernel
theorem dX12_swapsKept_31 : decode cX12_swapsKept 31 = .ok (.aload_n 0, 1) := by decide +kernel
theorem dX12_swapsKept_32 : decode cX12_swapsKept 32 = .ok (.iconst 1, 1) := by decide +kernel
theorem dX12_swapsKept_33 : decode cX12_swapsKept 33 = .ok (.invokevirtual 357, 3) := by decide +kernel
theorem dX12_swapsKept_36 : decode cX12_swapsKept 36 = .ok (.aload_n 0, 1) := by decide +kernel
theorem dX12_swapsKept_37 : decode cX12_swapsKept 37 = .ok (.iload_n 1, 1) := by decide +kernel
theorem dX12_swapsKept_38 : decode cX12_swapsKept 38 = .ok (.iload_n 2, 1) := by decide +kernel
theorem dX12_swapsKept_39 : decode cX12_swapsKept 39 = .ok (.invokevirtual 363, 3) := by decide +kernel
theorem dX12_swapsKept_42 : decode cX12_swapsKept 42 = .ok (.aload_n 0, 1) := by decide +kernel
theorem dX12_swapsKept_43 : decode cX12_swapsKept 43 = .ok (.getfield 24, 3) := by decide +kernel
theorem dX12_swapsKept_46 : decode cX12_swapsKept 46 = .ok (.iconst 0, 1) := by decide +kernel
theorem dX12_swapsKept_47 : decode cX12_swapsKept 47 = .ok (.iload_n 1, 1) := by decide +kernel
theorem dX12_swapsKept_48 : decode cX12_swapsKept 48 = .ok (.iadd, 1) := by decide +kernel
theorem dX12_swapsKept_49 : decode cX12_swapsKept 49 = .ok (.iaload, 1) := by decide +kernel
theorem dX12_swapsKept_50 : decode cX12_swapsKept 50 = .ok (.ireturn, 1) := by decide +kernel
theorem dX12_dropsKept_0 : decode cX12_dropsKept 0 = .ok (.aload_n 0, 1) := by decide +kernel
theorem dX12_dropsKept_1 : decode cX12_dropsKept 1 = .ok (.iload_n 1, 1) := by decide +kernel
theorem dX12_dropsKept_2 : decode cX12_dropsKept 2 = .ok (.invokevirtual 131, 3) := by decide +kernel
theorem dX12_dropsKept_5 : decode cX12_dropsKept 5 = .ok (.ifCond .ne 6, 3) := by decide +kernel
theorem dX12_dropsKept_8 : decode cX12_dropsKept 8 = .ok (.bipush (-2), 2) := by decide +kernel
theorem dX12_dropsKept_10 : decode cX12_dropsKept 10 = .ok (.ireturn, 1) := by decide +kernel
theorem dX12_dropsKept_11 : decode cX12_dropsKept 11 = .ok (.aload_n 0, 1) := by decide +kernel
theorem dX12_dropsKept_12 : decode cX12_dropsKept 12 = .ok (.iload_n 1, 1) := by decide +kernel
theorem dX12_dropsKept_13 : decode cX12_dropsKept 13 = .ok (.invokevirtual 351, 3) := by decide +kernel
theorem dX12_dropsKept_16 : decode cX12_dropsKept 16 = .ok (.ifCond .ne 6, 3) := by decide +kernel
theorem dX12_dropsKept_19 : decode cX12_dropsKept 19 = .ok (.bipush (-3), 2) := by decide +kernel
theorem dX12_dropsKept_21 : decode cX12_dropsKept 21 = .ok (.ireturn, 1) := by decide +kernel
theorem dX12_dropsKept_22 : decode cX12_dropsKept 22 = .ok (.aload_n 0, 1) := by decide +kernel
theorem dX12_dropsKept_23 : decode cX12_dropsKept 23 = .ok (.iconst 2, 1) := by decide +kernel
theorem dX12_dropsKept_24 : decode cX12_dropsKept 24 = .ok (.invokevirtual 357, 3) := by decide +kernel
theorem dX12_dropsKept_27 : decode cX12_dropsKept 27 = .ok (.aload_n 0, 1) := by decide +kernel
theorem dX12_dropsKept_28 : decode cX12_dropsKept 28 = .ok (.getfield 24, 3) := by decide +kernel
theorem dX12_dropsKept_31 : decode cX12_dropsKept 31 = .ok (.iconst 0, 1) := by decide +kernel
theorem dX12_dropsKept_32 : decode cX12_dropsKept 32 = .ok (.iload_n 1, 1) := by decide +kernel
theorem dX12_dropsKept_33 : decode cX12_dropsKept 33 = .ok (.iadd, 1) := by decide +kernel
theorem dX12_dropsKept_34 : decode cX12_dropsKept 34 = .ok (.iaload, 1) := by decide +kernel
theorem dX12_dropsKept_35 : decode cX12_dropsKept 35 = .ok (.istore_n 2, 1) := by decide +kernel
theorem dX12_dropsKept_36 : decode cX12_dropsKept 36 = .ok (.aload_n 0, 1) := by decide +kernel
theorem dX12_dropsKept_37 : decode cX12_dropsKept 37 = .ok (.getfield 24, 3) := by decide +kernel
theorem dX12_dropsKept_40 : decode cX12_dropsKept 40 = .ok (.iconst 0, 1) := by decide +kernel
theorem dX12_dropsKept_41 : decode cX12_dropsKept 41 = .ok (.iload_n 1, 1) := by decide +kernel
theorem dX12_dropsKept_42 : decode cX12_dropsKept 42 = .ok (.iadd, 1) := by decide +kernel
theorem dX12_dropsKept_43 : decode cX12_dropsKept 43 = .ok (.iconst (-1), 1) := by decide +kernel
theorem dX12_dropsKept_44 : decode cX12_dropsKept 44 = .ok (.iastore, 1) := by decide +kernel
theorem dX12_dropsKept_45 : decode cX12_dropsKept 45 = .ok (.iload_n 2, 1) := by decide +kernel
theorem dX12_dropsKept_46 : decode cX12_dropsKept 46 = .ok (.ireturn, 1) := by decide +kernel
theorem dX12_passesKept_0 : decode cX12_passesKept 0 = .ok (.aload_n 0, 1) := by decide +kernel
theorem dX12_passesKept_1 : decode cX12_passesKept 1 = .ok (.getfield 24, 3) := by decide +kernel
theorem dX12_passesKept_4 : decode cX12_passesKept 4 = .ok (.bipush 6, 2) := by decide +kernel
theorem dX12_passesKept_6 : decode cX12_passesKept 6 = .ok (.iaload, 1) := by decide +kernel
theorem dX12_passesKept_7 : decode cX12_passesKept 7 = .ok (.sipush 999, 3) := by decide +kernel
theorem dX12_passesKept_10 : decode cX12_passesKept 10 = .ok (.if_icmp .ne 6, 3) := by decide +kernel
theorem dX12_passesKept_13 : decode cX12_passesKept 13 = .ok (.bipush (-3), 2) := by decide +kernel
theorem dX12_passesKept_15 : decode cX12_passesKept 15 = .ok (.ireturn, 1) := by decide +kernel
theorem dX12_passesKept_16 : decode cX12_passesKept 16 = .ok (.aload_n 0, 1) := by decide +kernel
theorem dX12_passesKept_17 : decode cX12_passesKept 17 = .ok (.iconst 3, 1) := by decide +kernel
theorem dX12_passesKept_18 : decode cX12_passesKept 18 = .ok (.invokevirtual 357, 3) := by decide +kernel
theorem dX12_passesKept_21 : decode cX12_passesKept 21 = .ok (.aload_n 0, 1) := by decide +kernel
theorem dX12_passesKept_22 : decode cX12_passesKept 22 = .ok (.getfield 24, 3) := by decide +kernel
theorem dX12_passesKept_25 : decode cX12_passesKept 25 = .ok (.bipush 6, 2) := by decide +kernel
theorem dX12_passesKept_27 : decode cX12_passesKept 27 = .ok (.dup2, 1) := by decide +kernel
theorem dX12_passesKept_28 : decode cX12_passesKept 28 = .ok (.iaload, 1) := by decide +kernel
theorem dX12_passesKept_29 : decode cX12_passesKept 29 = .ok (.iconst 1, 1) := by decide +kernel
theorem dX12_passesKept_30 : decode cX12_passesKept 30 = .ok (.iadd, 1) := by decide +kernel
theorem dX12_passesKept_31 : decode cX12_passesKept 31 = .ok (.iastore, 1) := by decide +kernel
theorem dX12_passesKept_32 : decode cX12_passesKept 32 = .ok (.aload_n 0, 1) := by decide +kernel
theorem dX12_passesKept_33 : decode cX12_passesKept 33 = .ok (.getfield 24, 3) := by decide +kernel
theorem dX12_passesKept_36 : decode cX12_passesKept 36 = .ok (.bipush 6, 2) := by decide +kernel
theorem dX12_passesKept_38 : decode cX12_passesKept 38 = .ok (.iaload, 1) := by decide +kernel
theorem dX12_passesKept_39 : decode cX12_passesKept 39 = .ok (.ireturn, 1) := by decide +kernel
theorem dX12_draw_0 : decode cX12_draw 0 = .ok (.aload_n 0, 1) := by decide +kernel
theorem dX12_draw_1 : decode cX12_draw 1 = .ok (.aload_n 0, 1) := by decide +kernel
theorem dX12_draw_2 : decode cX12_draw 2 = .ok (.iload_n 1, 1) := by decide +kernel
theorem dX12_draw_3 : decode cX12_draw 3 = .ok (.iload_n 2, 1) := by decide +kernel
theorem dX12_draw_4 : decode cX12_draw 4 = .ok (.invokevirtual 366, 3) := by decide +kernel
theorem dX12_draw_7 : decode cX12_draw 7 = .ok (.invokevirtual 369, 3) := by decide +kernel
theorem dX12_draw_10 : decode cX12_draw 10 = .ok (.ireturn, 1) := by decide +kernel
theorem dX12_swap_0 : decode cX12_swap 0 = .ok (.aload_n 0, 1) := by decide +kernel
theorem dX12_swap_1 : decode cX12_swap 1 = .ok (.aload_n 0, 1) := by decide +kernel
theorem dX12_swap_2 : decode cX12_swap 2 = .ok (.iload_n 1, 1) := by decide +kernel
theorem dX12_swap_3 : decode cX12_swap 3 = .ok (.iload_n 2, 1) := by decide +kernel
theorem dX12_swap_4 : decode cX12_swap 4 = .ok (.invokevirtual 372, 3) := by decide +kernel
theorem dX12_swap_7 : decode cX12_swap 7 = .ok (.invokevirtual 369, 3) := by decide +kernel
theorem dX12_swap_10 : decode cX12_swap 10 = .ok (.ireturn, 1) := by decide +kernel
theorem dX12_drop_0 : decode cX12_drop 0 = .ok (.aload_n 0, 1) := by decide +kernel
theorem dX12_drop_1 : decode cX12_drop 1 = .ok (.aload_n 0, 1) := by decide +kernel
theorem dX12_drop_2 : decode cX12_drop 2 = .ok (.iload_n 1, 1) := by decide +kernel
theorem dX12_drop_3 : decode cX12_drop 3 = .ok (.invokevirtual 375, 3) := by decide +kernel
theorem dX12_drop_6 : decode cX12_drop 6 = .ok (.invokevirtual 369, 3) := by decide +kernel
theorem dX12_drop_9 : decode cX12_drop 9 = .ok (.ireturn, 1) := by decide +kernel
theorem dX12_pass_0 : decode cX12_pass 0 = .ok (.aload_n 0, 1) := by decide +kernel
theorem dX12_pass_1 : decode cX12_pass 1 = .ok (.aload_n 0, 1) := by decide +kernel
theorem dX12_pass_2 : decode cX12_pass 2 = .ok (.invokevirtual 378, 3) := by decide +kernel
theorem dX12_pass_5 : decode cX12_pass 5 = .ok (.invokevirtual 369, 3) := by decide +kernel
theorem dX12_pass_8 : decode cX12_pass 8 = .ok (.ireturn, 1) := by decide +kernel
theorem dX12_nextCalled_0 : decode cX12_nextCalled 0 = .ok (.iconst (-1), 1) := by decide +kernel
theorem dX12_nextCalled_1 : decode cX12_nextCalled 1 = .ok (.istore_n 2, 1) := by decide +kernel
theorem dX12_nextCalled_2 : decode cX12_nextCalled 2 = .ok (.iconst 0, 1) := by decide +kernel
theorem dX12_nextCalled_3 : decode cX12_nextCalled 3 = .ok (.istore_n 3, 1) := by decide +kernel
theorem dX12_nextCalled_4 : decode cX12_nextCalled 4 = .ok (.iload_n 3, 1) := by decide +kernel
theorem dX12_nextCalled_5 : decode cX12_nextCalled 5 = .ok (.aload_n 0, 1) := by decide +kernel
theorem dX12_nextCalled_6 : decode cX12_nextCalled 6 = .ok (.getfield 24, 3) := by decide +kernel
theorem dX12_nextCalled_9 : decode cX12_nextCalled 9 = .ok (.bipush 103, 2) := by decide +kernel
theorem dX12_nextCalled_11 : decode cX12_nextCalled 11 = .ok (.iaload, 1) := by decide +kernel
theorem dX12_nextCalled_12 : decode cX12_nextCalled 12 = .ok (.if_icmp .ge 82, 3) := by decide +kernel
theorem dX12_nextCalled_15 : decode cX12_nextCalled 15 = .ok (.aload_n 0, 1) := by decide +kernel
theorem dX12_nextCalled_16 : decode cX12_nextCalled 16 = .ok (.iload_n 3, 1) := by decide +kernel
theorem dX12_nextCalled_17 : decode cX12_nextCalled 17 = .ok (.invokevirtual 351, 3) := by decide +kernel
theorem dX12_nextCalled_20 : decode cX12_nextCalled 20 = .ok (.ifCond .eq 68, 3) := by decide +kernel
theorem dX12_nextCalled_23 : decode cX12_nextCalled 23 = .ok (.aload_n 0, 1) := by decide +kernel
theorem dX12_nextCalled_24 : decode cX12_nextCalled 24 = .ok (.getfield 24, 3) := by decide +kernel
theorem dX12_nextCalled_27 : decode cX12_nextCalled 27 = .ok (.bipush 67, 2) := by decide +kernel
theorem dX12_nextCalled_29 : decode cX12_nextCalled 29 = .ok (.aload_n 0, 1) := by decide +kernel
theorem dX12_nextCalled_30 : decode cX12_nextCalled 30 = .ok (.getfield 24, 3) := by decide +kernel
theorem dX12_nextCalled_33 : decode cX12_nextCalled 33 = .ok (.iconst 0, 1) := by decide +kernel
theorem dX12_nextCalled_34 : decode cX12_nextCalled 34 = .ok (.iload_n 3, 1) := by decide +kernel
theorem dX12_nextCalled_35 : decode cX12_nextCalled 35 = .ok (.iadd, 1) := by decide +kernel
theorem dX12_nextCalled_36 : decode cX12_nextCalled 36 = .ok (.iaload, 1) := by decide +kernel
theorem dX12_nextCalled_37 : decode cX12_nextCalled 37 = .ok (.iadd, 1) := by decide +kernel
theorem dX12_nextCalled_38 : decode cX12_nextCalled 38 = .ok (.iaload, 1) := by decide +kernel
theorem dX12_nextCalled_39 : decode cX12_nextCalled 39 = .ok (.iload_n 1, 1) := by decide +kernel
theorem dX12_nextCalled_40 : decode cX12_nextCalled 40 = .ok (.if_icmp .gt 6, 3) := by decide +kernel
theorem dX12_nextCalled_43 : decode cX12_nextCalled 43 = .ok (.goto 45, 3) := by decide +kernel
theorem dX12_nextCalled_46 : decode cX12_nextCalled 46 = .ok (.iload_n 2, 1) := by decide +kernel
theorem dX12_nextCalled_47 : decode cX12_nextCalled 47 = .ok (.iconst (-1), 1) := by decide +kernel
theorem dX12_nextCalled_48 : decode cX12_nextCalled 48 = .ok (.if_icmp .eq 38, 3) := by decide +kernel
theorem dX12_nextCalled_51 : decode cX12_nextCalled 51 = .ok (.aload_n 0, 1) := by decide +kernel
theorem dX12_nextCalled_52 : decode cX12_nextCalled 52 = .ok (.getfield 24, 3) := by decide +kernel
theorem dX12_nextCalled_55 : decode cX12_nextCalled 55 = .ok (.bipush 67, 2) := by decide +kernel
theorem dX12_nextCalled_57 : decode cX12_nextCalled 57 = .ok (.aload_n 0, 1) := by decide +kernel
theorem dX12_nextCalled_58 : decode cX12_nextCalled 58 = .ok (.getfield 24, 3) := by decide +kernel
theorem dX12_nextCalled_61 : decode cX12_nextCalled 61 = .ok (.iconst 0, 1) := by decide +kernel
theorem dX12_nextCalled_62 : decode cX12_nextCalled 62 = .ok (.iload_n 3, 1) := by decide +kernel
theorem dX12_nextCalled_63 : decode cX12_nextCalled 63 = .ok (.iadd, 1) := by decide +kernel
theorem dX12_nextCalled_64 : decode cX12_nextCalled 64 = .ok (.iaload, 1) := by decide +kernel
theorem dX12_nextCalled_65 : decode cX12_nextCalled 65 = .ok (.iadd, 1) := by decide +kernel
theorem dX12_nextCalled_66 : decode cX12_nextCalled 66 = .ok (.iaload, 1) := by decide +kernel
theorem dX12_nextCalled_67 : decode cX12_nextCalled 67 = .ok (.aload_n 0, 1) := by decide +kernel
theorem dX12_nextCalled_68 : decode cX12_nextCalled 68 = .ok (.getfield 24, 3) := by decide +kernel
theorem dX12_nextCalled_71 : decode cX12_nextCalled 71 = .ok (.bipush 67, 2) := by decide +kernel
theorem dX12_nextCalled_73 : decode cX12_nextCalled 73 = .ok (.aload_n 0, 1) := by decide +kernel
theorem dX12_nextCalled_74 : decode cX12_nextCalled 74 = .ok (.getfield 24, 3) := by decide +kernel
theorem dX12_nextCalled_77 : decode cX12_nextCalled 77 = .ok (.iconst 0, 1) := by decide +kernel
theorem dX12_nextCalled_78 : decode cX12_nextCalled 78 = .ok (.iload_n 2, 1) := by decide +kernel
theorem dX12_nextCalled_79 : decode cX12_nextCalled 79 = .ok (.iadd, 1) := by decide +kernel
theorem dX12_nextCalled_80 : decode cX12_nextCalled 80 = .ok (.iaload, 1) := by decide +kernel
theorem dX12_nextCalled_81 : decode cX12_nextCalled 81 = .ok (.iadd, 1) := by decide +kernel
theorem dX12_nextCalled_82 : decode cX12_nextCalled 82 = .ok (.iaload, 1) := by decide +kernel
theorem dX12_nextCalled_83 : decode cX12_nextCalled 83 = .ok (.if_icmp .ge 5, 3) := by decide +kernel
theorem dX12_nextCalled_86 : decode cX12_nextCalled 86 = .ok (.iload_n 3, 1) := by decide +kernel
theorem dX12_nextCalled_87 : decode cX12_nextCalled 87 = .ok (.istore_n 2, 1) := by decide +kernel
theorem dX12_nextCalled_88 : decode cX12_nextCalled 88 = .ok (.iinc 3 1, 3) := by decide +kernel
theorem dX12_nextCalled_91 : decode cX12_nextCalled 91 = .ok (.goto (-87), 3) := by decide +kernel
theorem dX12_nextCalled_94 : decode cX12_nextCalled 94 = .ok (.iload_n 2, 1) := by decide +kernel
theorem dX12_nextCalled_95 : decode cX12_nextCalled 95 = .ok (.ireturn, 1) := by decide +kernel
theorem dX12_deskFor_0 : decode cX12_deskFor 0 = .ok (.iconst (-1), 1) := by decide +kernel
theorem dX12_deskFor_1 : decode cX12_deskFor 1 = .ok (.istore_n 3, 1) := by decide +kernel
theorem dX12_deskFor_2 : decode cX12_deskFor 2 = .ok (.iconst 0, 1) := by decide +kernel
theorem dX12_deskFor_3 : decode cX12_deskFor 3 = .ok (.istore 4, 2) := by decide +kernel
theorem dX12_deskFor_5 : decode cX12_deskFor 5 = .ok (.iload 4, 2) := by decide +kernel
theorem dX12_deskFor_7 : decode cX12_deskFor 7 = .ok (.aload_n 0, 1) := by decide +kernel
theorem dX12_deskFor_8 : decode cX12_deskFor 8 = .ok (.getfield 24, 3) := by decide +kernel
theorem dX12_deskFor_11 : decode cX12_deskFor 11 = .ok (.bipush 105, 2) := by decide +kernel
theorem dX12_deskFor_13 : decode cX12_deskFor 13 = .ok (.iaload, 1) := by decide +kernel
theorem dX12_deskFor_14 : decode cX12_deskFor 14 = .ok (.if_icmp .ge 62, 3) := by decide +kernel
theorem dX12_deskFor_17 : decode cX12_deskFor 17 = .ok (.iload_n 2, 1) := by decide +kernel
theorem dX12_deskFor_18 : decode cX12_deskFor 18 = .ok (.iload 4, 2) := by decide +kernel
theorem dX12_deskFor_20 : decode cX12_deskFor 20 = .ok (.invokestatic 381, 3) := by decide +kernel
theorem dX12_deskFor_23 : decode cX12_deskFor 23 = .ok (.ifCond .eq 47, 3) := by decide +kernel
theorem dX12_deskFor_26 : decode cX12_deskFor 26 = .ok (.aload_n 0, 1) := by decide +kernel
theorem dX12_deskFor_27 : decode cX12_deskFor 27 = .ok (.getfield 24, 3) := by decide +kernel
theorem dX12_deskFor_30 : decode cX12_deskFor 30 = .ok (.bipush 83, 2) := by decide +kernel
theorem dX12_deskFor_32 : decode cX12_deskFor 32 = .ok (.iload 4, 2) := by decide +kernel
theorem dX12_deskFor_34 : decode cX12_deskFor 34 = .ok (.iadd, 1) := by decide +kernel
theorem dX12_deskFor_35 : decode cX12_deskFor 35 = .ok (.iaload, 1) := by decide +kernel
theorem dX12_deskFor_36 : decode cX12_deskFor 36 = .ok (.iload_n 1, 1) := by decide +kernel
theorem dX12_deskFor_37 : decode cX12_deskFor 37 = .ok (.invokestatic 381, 3) := by decide +kernel
theorem dX12_deskFor_40 : decode cX12_deskFor 40 = .ok (.ifCond .ne 6, 3) := by decide +kernel
theorem dX12_deskFor_43 : decode cX12_deskFor 43 = .ok (.goto 27, 3) := by decide +kernel
theorem dX12_deskFor_46 : decode cX12_deskFor 46 = .ok (.iload_n 3, 1) := by decide +kernel
theorem dX12_deskFor_47 : decode cX12_deskFor 47 = .ok (.iconst (-1), 1) := by decide +kernel
theorem dX12_deskFor_48 : decode cX12_deskFor 48 = .ok (.if_icmp .eq 19, 3) := by decide +kernel
theorem dX12_deskFor_51 : decode cX12_deskFor 51 = .ok (.aload_n 0, 1) := by decide +kernel
theorem dX12_deskFor_52 : decode cX12_deskFor 52 = .ok (.getfield 77, 3) := by decide +kernel
theorem dX12_deskFor_55 : decode cX12_deskFor 55 = .ok (.iload 4, 2) := by decide +kernel
theorem dX12_deskFor_57 : decode cX12_deskFor 57 = .ok (.iaload, 1) := by decide +kernel
theorem dX12_deskFor_58 : decode cX12_deskFor 58 = .ok (.aload_n 0, 1) := by decide +kernel
theorem dX12_deskFor_59 : decode cX12_deskFor 59 = .ok (.getfield 77, 3) := by decide +kernel
theorem dX12_deskFor_62 : decode cX12_deskFor 62 = .ok (.iload_n 3, 1) := by decide +kernel
theorem dX12_deskFor_63 : decode cX12_deskFor 63 = .ok (.iaload, 1) := by decide +kernel
theorem dX12_deskFor_64 : decode cX12_deskFor 64 = .ok (.if_icmp .ge 6, 3) := by decide +kernel
theorem dX12_deskFor_67 : decode cX12_deskFor 67 = .ok (.iload 4, 2) := by decide +kernel
theorem dX12_deskFor_69 : decode cX12_deskFor 69 = .ok (.istore_n 3, 1) := by decide +kernel
theorem dX12_deskFor_70 : decode cX12_deskFor 70 = .ok (.iinc 4 1, 3) := by decide +kernel
theorem dX12_deskFor_73 : decode cX12_deskFor 73 = .ok (.goto (-68), 3) := by decide +kernel
theorem dX12_deskFor_76 : decode cX12_deskFor 76 = .ok (.iload_n 3, 1) := by decide +kernel
theorem dX12_deskFor_77 : decode cX12_deskFor 77 = .ok (.ireturn, 1) := by decide +kernel
theorem dX12_calls_0 : decode cX12_calls 0 = .ok (.aload_n 0, 1) := by decide +kernel
theorem dX12_calls_1 : decode cX12_calls 1 = .ok (.getfield 24, 3) := by decide +kernel
theorem dX12_calls_4 : decode cX12_calls 4 = .ok (.iconst 0, 1) := by decide +kernel
theorem dX12_calls_5 : decode cX12_calls 5 = .ok (.iload_n 1, 1) := by decide +kernel
theorem dX12_calls_6 : decode cX12_calls 6 = .ok (.iadd, 1) := by decide +kernel
theorem dX12_calls_7 : decode cX12_calls 7 = .ok (.iaload, 1) := by decide +kernel
theorem dX12_calls_8 : decode cX12_calls 8 = .ok (.istore_n 3, 1) := by decide +kernel
theorem dX12_calls_9 : decode cX12_calls 9 = .ok (.aload_n 0, 1) := by decide +kernel
theorem dX12_calls_10 : decode cX12_calls 10 = .ok (.aload_n 0, 1) := by decide +kernel
theorem dX12_calls_11 : decode cX12_calls 11 = .ok (.getfield 24, 3) := by decide +kernel
theorem dX12_calls_14 : decode cX12_calls 14 = .ok (.bipush 75, 2) := by decide +kernel
theorem dX12_calls_16 : decode cX12_calls 16 = .ok (.iload_n 3, 1) := by decide +kernel
theorem dX12_calls_17 : decode cX12_calls 17 = .ok (.iadd, 1) := by decide +kernel
theorem dX12_calls_18 : decode cX12_calls 18 = .ok (.iaload, 1) := by decide +kernel
theorem dX12_calls_19 : decode cX12_calls 19 = .ok (.iload_n 2, 1) := by decide +kernel
theorem dX12_calls_20 : decode cX12_calls 20 = .ok (.invokevirtual 384, 3) := by decide +kernel
theorem dX12_calls_23 : decode cX12_calls 23 = .ok (.istore 4, 2) := by decide +kernel
theorem dX12_calls_25 : decode cX12_calls 25 = .ok (.aload_n 0, 1) := by decide +kernel
theorem dX12_calls_26 : decode cX12_calls 26 = .ok (.getfield 74, 3) := by decide +kernel
theorem dX12_calls_29 : decode cX12_calls 29 = .ok (.iload_n 1, 1) := by decide +kernel
theorem dX12_calls_30 : decode cX12_calls 30 = .ok (.iload 4, 2) := by decide +kernel
theorem dX12_calls_32 : decode cX12_calls 32 = .ok (.iastore, 1) := by decide +kernel
theorem dX12_calls_33 : decode cX12_calls 33 = .ok (.aload_n 0, 1) := by decide +kernel
theorem dX12_calls_34 : decode cX12_calls 34 = .ok (.getfield 68, 3) := by decide +kernel
theorem dX12_calls_37 : decode cX12_calls 37 = .ok (.iload_n 1, 1) := by decide +kernel
theorem dX12_calls_38 : decode cX12_calls 38 = .ok (.iload 4, 2) := by decide +kernel
theorem dX12_calls_40 : decode cX12_calls 40 = .ok (.iconst (-1), 1) := by decide +kernel
theorem dX12_calls_41 : decode cX12_calls 41 = .ok (.if_icmp .ne 7, 3) := by decide +kernel
theorem dX12_calls_44 : decode cX12_calls 44 = .ok (.iconst (-1), 1) := by decide +kernel
theorem dX12_calls_45 : decode cX12_calls 45 = .ok (.goto 10, 3) := by decide +kernel
theorem dX12_calls_48 : decode cX12_calls 48 = .ok (.aload_n 0, 1) := by decide +kernel
theorem dX12_calls_49 : decode cX12_calls 49 = .ok (.getfield 77, 3) := by decide +kernel
theorem dX12_calls_52 : decode cX12_calls 52 = .ok (.iload 4, 2) := by decide +kernel
theorem dX12_calls_54 : decode cX12_calls 54 = .ok (.iaload, 1) := by decide +kernel
theorem dX12_calls_55 : decode cX12_calls 55 = .ok (.iastore, 1) := by decide +kernel
theorem dX12_calls_56 : decode cX12_calls 56 = .ok (.aload_n 0, 1) := by decide +kernel
theorem dX12_calls_57 : decode cX12_calls 57 = .ok (.getfield 71, 3) := by decide +kernel
theorem dX12_calls_60 : decode cX12_calls 60 = .ok (.iload_n 1, 1) := by decide +kernel
theorem dX12_calls_61 : decode cX12_calls 61 = .ok (.iload 4, 2) := by decide +kernel
theorem dX12_calls_63 : decode cX12_calls 63 = .ok (.iconst (-1), 1) := by decide +kernel
theorem dX12_calls_64 : decode cX12_calls 64 = .ok (.if_icmp .ne 7, 3) := by decide +kernel
theorem dX12_calls_67 : decode cX12_calls 67 = .ok (.iconst (-1), 1) := by decide +kernel
theorem dX12_calls_68 : decode cX12_calls 68 = .ok (.goto 19, 3) := by decide +kernel
theorem dX12_calls_71 : decode cX12_calls 71 = .ok (.aload_n 0, 1) := by decide +kernel
theorem dX12_calls_72 : decode cX12_calls 72 = .ok (.getfield 77, 3) := by decide +kernel
theorem dX12_calls_75 : decode cX12_calls 75 = .ok (.iload 4, 2) := by decide +kernel
theorem dX12_calls_77 : decode cX12_calls 77 = .ok (.iaload, 1) := by decide +kernel
theorem dX12_calls_78 : decode cX12_calls 78 = .ok (.aload_n 0, 1) := by decide +kernel
theorem dX12_calls_79 : decode cX12_calls 79 = .ok (.iload_n 1, 1) := by decide +kernel
theorem dX12_calls_80 : decode cX12_calls 80 = .ok (.iload_n 3, 1) := by decide +kernel
theorem dX12_calls_81 : decode cX12_calls 81 = .ok (.iload 4, 2) := by decide +kernel
theorem dX12_calls_83 : decode cX12_calls 83 = .ok (.invokevirtual 164, 3) := by decide +kernel
theorem dX12_calls_86 : decode cX12_calls 86 = .ok (.iadd, 1) := by decide +kernel
theorem dX12_calls_87 : decode cX12_calls 87 = .ok (.iastore, 1) := by decide +kernel
theorem dX12_calls_88 : decode cX12_calls 88 = .ok (.iload 4, 2) := by decide +kernel
theorem dX12_calls_90 : decode cX12_calls 90 = .ok (.iconst (-1), 1) := by decide +kernel
theorem dX12_calls_91 : decode cX12_calls 91 = .ok (.if_icmp .eq 16, 3) := by decide +kernel
theorem dX12_calls_94 : decode cX12_calls 94 = .ok (.aload_n 0, 1) := by decide +kernel
theorem dX12_calls_95 : decode cX12_calls 95 = .ok (.getfield 77, 3) := by decide +kernel
theorem dX12_calls_98 : decode cX12_calls 98 = .ok (.iload 4, 2) := by decide +kernel
theorem dX12_calls_100 : decode cX12_calls 100 = .ok (.aload_n 0, 1) := by decide +kernel
theorem dX12_calls_101 : decode cX12_calls 101 = .ok (.getfield 71, 3) := by decide +kernel
theorem dX12_calls_104 : decode cX12_calls 104 = .ok (.iload_n 1, 1) := by decide +kernel
theorem dX12_calls_105 : decode cX12_calls 105 = .ok (.iaload, 1) := by decide +kernel
theorem dX12_calls_106 : decode cX12_calls 106 = .ok (.iastore, 1) := by decide +kernel
theorem dX12_calls_107 : decode cX12_calls 107 = .ok (.return_, 1) := by decide +kernel
theorem dX12_laysDay_0 : decode cX12_laysDay 0 = .ok (.iconst 0, 1) := by decide +kernel
theorem dX12_laysDay_1 : decode cX12_laysDay 1 = .ok (.istore_n 2, 1) := by decide +kernel
theorem dX12_laysDay_2 : decode cX12_laysDay 2 = .ok (.iload_n 2, 1) := by decide +kernel
theorem dX12_laysDay_3 : decode cX12_laysDay 3 = .ok (.iconst 3, 1) := by decide +kernel
theorem dX12_laysDay_4 : decode cX12_laysDay 4 = .ok (.if_icmp .ge 16, 3) := by decide +kernel
theorem dX12_laysDay_7 : decode cX12_laysDay 7 = .ok (.aload_n 0, 1) := by decide +kernel
theorem dX12_laysDay_8 : decode cX12_laysDay 8 = .ok (.getfield 77, 3) := by decide +kernel
theorem dX12_laysDay_11 : decode cX12_laysDay 11 = .ok (.iload_n 2, 1) := by decide +kernel
theorem dX12_laysDay_12 : decode cX12_laysDay 12 = .ok (.iconst 0, 1) := by decide +kernel
theorem dX12_laysDay_13 : decode cX12_laysDay 13 = .ok (.iastore, 1) := by decide +kernel
theorem dX12_laysDay_14 : decode cX12_laysDay 14 = .ok (.iinc 2 1, 3) := by decide +kernel
theorem dX12_laysDay_17 : decode cX12_laysDay 17 = .ok (.goto (-15), 3) := by decide +kernel
theorem dX12_laysDay_20 : decode cX12_laysDay 20 = .ok (.iconst 0, 1) := by decide +kernel
theorem dX12_laysDay_21 : decode cX12_laysDay 21 = .ok (.istore_n 2, 1) := by decide +kernel
theorem dX12_laysDay_22 : decode cX12_laysDay 22 = .ok (.iload_n 2, 1) := by decide +kernel
theorem dX12_laysDay_23 : decode cX12_laysDay 23 = .ok (.bipush 6, 2) := by decide +kernel
theorem dX12_laysDay_25 : decode cX12_laysDay 25 = .ok (.if_icmp .ge 30, 3) := by decide +kernel
theorem dX12_laysDay_28 : decode cX12_laysDay 28 = .ok (.aload_n 0, 1) := by decide +kernel
theorem dX12_laysDay_29 : decode cX12_laysDay 29 = .ok (.getfield 74, 3) := by decide +kernel
theorem dX12_laysDay_32 : decode cX12_laysDay 32 = .ok (.iload_n 2, 1) := by decide +kernel
theorem dX12_laysDay_33 : decode cX12_laysDay 33 = .ok (.iconst (-1), 1) := by decide +kernel
theorem dX12_laysDay_34 : decode cX12_laysDay 34 = .ok (.iastore, 1) := by decide +kernel
theorem dX12_laysDay_35 : decode cX12_laysDay 35 = .ok (.aload_n 0, 1) := by decide +kernel
theorem dX12_laysDay_36 : decode cX12_laysDay 36 = .ok (.getfield 68, 3) := by decide +kernel
theorem dX12_laysDay_39 : decode cX12_laysDay 39 = .ok (.iload_n 2, 1) := by decide +kernel
theorem dX12_laysDay_40 : decode cX12_laysDay 40 = .ok (.iconst (-1), 1) := by decide +kernel
theorem dX12_laysDay_41 : decode cX12_laysDay 41 = .ok (.iastore, 1) := by decide +kernel
theorem dX12_laysDay_42 : decode cX12_laysDay 42 = .ok (.aload_n 0, 1) := by decide +kernel
theorem dX12_laysDay_43 : decode cX12_laysDay 43 = .ok (.getfield 71, 3) := by decide +kernel
theorem dX12_laysDay_46 : decode cX12_laysDay 46 = .ok (.iload_n 2, 1) := by decide +kernel
theorem dX12_laysDay_47 : decode cX12_laysDay 47 = .ok (.iconst (-1), 1) := by decide +kernel
theorem dX12_laysDay_48 : decode cX12_laysDay 48 = .ok (.iastore, 1) := by decide +kernel
theorem dX12_laysDay_49 : decode cX12_laysDay 49 = .ok (.iinc 2 1, 3) := by decide +kernel
theorem dX12_laysDay_52 : decode cX12_laysDay 52 = .ok (.goto (-30), 3) := by decide +kernel
theorem dX12_laysDay_55 : decode cX12_laysDay 55 = .ok (.aload_n 0, 1) := by decide +kernel
theorem dX12_laysDay_56 : decode cX12_laysDay 56 = .ok (.iconst 0, 1) := by decide +kernel
theorem dX12_laysDay_57 : decode cX12_laysDay 57 = .ok (.invokevirtual 387, 3) := by decide +kernel
theorem dX12_laysDay_60 : decode cX12_laysDay 60 = .ok (.istore_n 2, 1) := by decide +kernel
theorem dX12_laysDay_61 : decode cX12_laysDay 61 = .ok (.iload_n 2, 1) := by decide +kernel
theorem dX12_laysDay_62 : decode cX12_laysDay 62 = .ok (.iconst (-1), 1) := by decide +kernel
theorem dX12_laysDay_63 : decode cX12_laysDay 63 = .ok (.if_icmp .eq 33, 3) := by decide +kernel
theorem dX12_laysDay_66 : decode cX12_laysDay 66 = .ok (.aload_n 0, 1) := by decide +kernel
theorem dX12_laysDay_67 : decode cX12_laysDay 67 = .ok (.iload_n 2, 1) := by decide +kernel
theorem dX12_laysDay_68 : decode cX12_laysDay 68 = .ok (.iload_n 1, 1) := by decide +kernel
theorem dX12_laysDay_69 : decode cX12_laysDay 69 = .ok (.invokevirtual 390, 3) := by decide +kernel
theorem dX12_laysDay_72 : decode cX12_laysDay 72 = .ok (.aload_n 0, 1) := by decide +kernel
theorem dX12_laysDay_73 : decode cX12_laysDay 73 = .ok (.aload_n 0, 1) := by decide +kernel
theorem dX12_laysDay_74 : decode cX12_laysDay 74 = .ok (.getfield 24, 3) := by decide +kernel
theorem dX12_laysDay_77 : decode cX12_laysDay 77 = .ok (.bipush 67, 2) := by decide +kernel
theorem dX12_laysDay_79 : decode cX12_laysDay 79 = .ok (.aload_n 0, 1) := by decide +kernel
theorem dX12_laysDay_80 : decode cX12_laysDay 80 = .ok (.getfield 24, 3) := by decide +kernel
theorem dX12_laysDay_83 : decode cX12_laysDay 83 = .ok (.iconst 0, 1) := by decide +kernel
theorem dX12_laysDay_84 : decode cX12_laysDay 84 = .ok (.iload_n 2, 1) := by decide +kernel
theorem dX12_laysDay_85 : decode cX12_laysDay 85 = .ok (.iadd, 1) := by decide +kernel
theorem dX12_laysDay_86 : decode cX12_laysDay 86 = .ok (.iaload, 1) := by decide +kernel
theorem dX12_laysDay_87 : decode cX12_laysDay 87 = .ok (.iadd, 1) := by decide +kernel
theorem dX12_laysDay_88 : decode cX12_laysDay 88 = .ok (.iaload, 1) := by decide +kernel
theorem dX12_laysDay_89 : decode cX12_laysDay 89 = .ok (.invokevirtual 387, 3) := by decide +kernel
theorem dX12_laysDay_92 : decode cX12_laysDay 92 = .ok (.istore_n 2, 1) := by decide +kernel
theorem dX12_laysDay_93 : decode cX12_laysDay 93 = .ok (.goto (-32), 3) := by decide +kernel
theorem dX12_laysDay_96 : decode cX12_laysDay 96 = .ok (.return_, 1) := by decide +kernel
theorem dX12_allDesks_0 : decode cX12_allDesks 0 = .ok (.iconst 1, 1) := by decide +kernel
theorem dX12_allDesks_1 : decode cX12_allDesks 1 = .ok (.aload_n 0, 1) := by decide +kernel
theorem dX12_allDesks_2 : decode cX12_allDesks 2 = .ok (.getfield 24, 3) := by decide +kernel
theorem dX12_allDesks_5 : decode cX12_allDesks 5 = .ok (.bipush 105, 2) := by decide +kernel
theorem dX12_allDesks_7 : decode cX12_allDesks 7 = .ok (.iaload, 1) := by decide +kernel
theorem dX12_allDesks_8 : decode cX12_allDesks 8 = .ok (.ishl, 1) := by decide +kernel
theorem dX12_allDesks_9 : decode cX12_allDesks 9 = .ok (.iconst 1, 1) := by decide +kernel
theorem dX12_allDesks_10 : decode cX12_allDesks 10 = .ok (.isub, 1) := by decide +kernel
theorem dX12_allDesks_11 : decode cX12_allDesks 11 = .ok (.ireturn, 1) := by decide +kernel
theorem dX12_day_0 : decode cX12_day 0 = .ok (.aload_n 0, 1) := by decide +kernel
theorem dX12_day_1 : decode cX12_day 1 = .ok (.iload_n 1, 1) := by decide +kernel
theorem dX12_day_2 : decode cX12_day 2 = .ok (.invokevirtual 131, 3) := by decide +kernel
theorem dX12_day_5 : decode cX12_day 5 = .ok (.ifCond .ne 5, 3) := by decide +kernel
theorem dX12_day_8 : decode cX12_day 8 = .ok (.iconst (-1), 1) := by decide +kernel
theorem dX12_day_9 : decode cX12_day 9 = .ok (.ireturn, 1) := by decide +kernel
theorem dX12_day_10 : decode cX12_day 10 = .ok (.aload_n 0, 1) := by decide +kernel
theorem dX12_day_11 : decode cX12_day 11 = .ok (.aload_n 0, 1) := by decide +kernel
theorem dX12_day_12 : decode cX12_day 12 = .ok (.invokevirtual 393, 3) := by decide +kernel
theorem dX12_day_15 : decode cX12_day 15 = .ok (.invokevirtual 396, 3) := by decide +kernel
theorem dX12_day_18 : decode cX12_day 18 = .ok (.iload_n 2, 1) := by decide +kernel
theorem dX12_day_19 : decode cX12_day 19 = .ok (.tableswitch 46 0 2 #[25, 32, 39], 25) := by decide +kernel
theorem dX12_day_44 : decode cX12_day 44 = .ok (.aload_n 0, 1) := by decide +kernel
theorem dX12_day_45 : decode cX12_day 45 = .ok (.getfield 68, 3) := by decide +kernel
theorem dX12_day_48 : decode cX12_day 48 = .ok (.iload_n 1, 1) := by decide +kernel
theorem dX12_day_49 : decode cX12_day 49 = .ok (.iaload, 1) := by decide +kernel
theorem dX12_day_50 : decode cX12_day 50 = .ok (.ireturn, 1) := by decide +kernel
theorem dX12_day_51 : decode cX12_day 51 = .ok (.aload_n 0, 1) := by decide +kernel
theorem dX12_day_52 : decode cX12_day 52 = .ok (.getfield 71, 3) := by decide +kernel
theorem dX12_day_55 : decode cX12_day 55 = .ok (.iload_n 1, 1) := by decide +kernel
theorem dX12_day_56 : decode cX12_day 56 = .ok (.iaload, 1) := by decide +kernel
theorem dX12_day_57 : decode cX12_day 57 = .ok (.ireturn, 1) := by decide +kernel
theorem dX12_day_58 : decode cX12_day 58 = .ok (.aload_n 0, 1) := by decide +kernel
theorem dX12_day_59 : decode cX12_day 59 = .ok (.getfield 74, 3) := by decide +kernel
theorem dX12_day_62 : decode cX12_day 62 = .ok (.iload_n 1, 1) := by decide +kernel
theorem dX12_day_63 : decode cX12_day 63 = .ok (.iaload, 1) := by decide +kernel
theorem dX12_day_64 : decode cX12_day 64 = .ok (.ireturn, 1) := by decide +kernel
theorem dX12_day_65 : decode cX12_day 65 = .ok (.iconst (-1), 1) := by decide +kernel
theorem dX12_day_66 : decode cX12_day 66 = .ok (.ireturn, 1) := by decide +kernel
theorem dX12_waitOf_0 : decode cX12_waitOf 0 = .ok (.aload_n 0, 1) := by decide +kernel
theorem dX12_waitOf_1 : decode cX12_waitOf 1 = .ok (.getfield 74, 3) := by decide +kernel
theorem dX12_waitOf_4 : decode cX12_waitOf 4 = .ok (.iload_n 1, 1) := by decide +kernel
theorem dX12_waitOf_5 : decode cX12_waitOf 5 = .ok (.iaload, 1) := by decide +kernel
theorem dX12_waitOf_6 : decode cX12_waitOf 6 = .ok (.iconst (-1), 1) := by decide +kernel
theorem dX12_waitOf_7 : decode cX12_waitOf 7 = .ok (.if_icmp .ne 9, 3) := by decide +kernel
theorem dX12_waitOf_10 : decode cX12_waitOf 10 = .ok (.sipush 1000, 3) := by decide +kernel
theorem dX12_waitOf_13 : decode cX12_waitOf 13 = .ok (.goto 15, 3) := by decide +kernel
theorem dX12_waitOf_16 : decode cX12_waitOf 16 = .ok (.aload_n 0, 1) := by decide +kernel
theorem dX12_waitOf_17 : decode cX12_waitOf 17 = .ok (.iload_n 1, 1) := by decide +kernel
theorem dX12_waitOf_18 : decode cX12_waitOf 18 = .ok (.invokevirtual 134, 3) := by decide +kernel
theorem dX12_waitOf_21 : decode cX12_waitOf 21 = .ok (.aload_n 0, 1) := by decide +kernel
theorem dX12_waitOf_22 : decode cX12_waitOf 22 = .ok (.getfield 68, 3) := by decide +kernel
theorem dX12_waitOf_25 : decode cX12_waitOf 25 = .ok (.iload_n 1, 1) := by decide +kernel
theorem dX12_waitOf_26 : decode cX12_waitOf 26 = .ok (.iaload, 1) := by decide +kernel
theorem dX12_waitOf_27 : decode cX12_waitOf 27 = .ok (.imul, 1) := by decide +kernel
theorem dX12_waitOf_28 : decode cX12_waitOf 28 = .ok (.ireturn, 1) := by decide +kernel
theorem dX12_waitOfAll_0 : decode cX12_waitOfAll 0 = .ok (.aload_n 0, 1) := by decide +kernel
theorem dX12_waitOfAll_1 : decode cX12_waitOfAll 1 = .ok (.aload_n 0, 1) := by decide +kernel
theorem dX12_waitOfAll_2 : decode cX12_waitOfAll 2 = .ok (.invokevirtual 393, 3) := by decide +kernel
theorem dX12_waitOfAll_5 : decode cX12_waitOfAll 5 = .ok (.invokevirtual 396, 3) := by decide +kernel
theorem dX12_waitOfAll_8 : decode cX12_waitOfAll 8 = .ok (.iconst 0, 1) := by decide +kernel
theorem dX12_waitOfAll_9 : decode cX12_waitOfAll 9 = .ok (.istore_n 1, 1) := by decide +kernel
theorem dX12_waitOfAll_10 : decode cX12_waitOfAll 10 = .ok (.iconst 0, 1) := by decide +kernel
theorem dX12_waitOfAll_11 : decode cX12_waitOfAll 11 = .ok (.istore_n 2, 1) := by decide +kernel
theorem dX12_waitOfAll_12 : decode cX12_waitOfAll 12 = .ok (.iload_n 2, 1) := by decide +kernel
theorem dX12_waitOfAll_13 : decode cX12_waitOfAll 13 = .ok (.aload_n 0, 1) := by decide +kernel
theorem dX12_waitOfAll_14 : decode cX12_waitOfAll 14 = .ok (.getfield 24, 3) := by decide +kernel
theorem dX12_waitOfAll_17 : decode cX12_waitOfAll 17 = .ok (.bipush 103, 2) := by decide +kernel
theorem dX12_waitOfAll_19 : decode cX12_waitOfAll 19 = .ok (.iaload, 1) := by decide +kernel
theorem dX12_waitOfAll_20 : decode cX12_waitOfAll 20 = .ok (.if_icmp .ge 29, 3) := by decide +kernel
theorem dX12_waitOfAll_23 : decode cX12_waitOfAll 23 = .ok (.iload_n 1, 1) := by decide +kernel
theorem dX12_waitOfAll_24 : decode cX12_waitOfAll 24 = .ok (.aload_n 0, 1) := by decide +kernel
theorem dX12_waitOfAll_25 : decode cX12_waitOfAll 25 = .ok (.iload_n 2, 1) := by decide +kernel
theorem dX12_waitOfAll_26 : decode cX12_waitOfAll 26 = .ok (.invokevirtual 351, 3) := by decide +kernel
theorem dX12_waitOfAll_29 : decode cX12_waitOfAll 29 = .ok (.ifCond .eq 11, 3) := by decide +kernel
theorem dX12_waitOfAll_32 : decode cX12_waitOfAll 32 = .ok (.aload_n 0, 1) := by decide +kernel
theorem dX12_waitOfAll_33 : decode cX12_waitOfAll 33 = .ok (.iload_n 2, 1) := by decide +kernel
theorem dX12_waitOfAll_34 : decode cX12_waitOfAll 34 = .ok (.invokevirtual 399, 3) := by decide +kernel
theorem dX12_waitOfAll_37 : decode cX12_waitOfAll 37 = .ok (.goto 4, 3) := by decide +kernel
theorem dX12_waitOfAll_40 : decode cX12_waitOfAll 40 = .ok (.iconst 0, 1) := by decide +kernel
theorem dX12_waitOfAll_41 : decode cX12_waitOfAll 41 = .ok (.iadd, 1) := by decide +kernel
theorem dX12_waitOfAll_42 : decode cX12_waitOfAll 42 = .ok (.istore_n 1, 1) := by decide +kernel
theorem dX12_waitOfAll_43 : decode cX12_waitOfAll 43 = .ok (.iinc 2 1, 3) := by decide +kernel
theorem dX12_waitOfAll_46 : decode cX12_waitOfAll 46 = .ok (.goto (-34), 3) := by decide +kernel
theorem dX12_waitOfAll_49 : decode cX12_waitOfAll 49 = .ok (.iload_n 1, 1) := by decide +kernel
theorem dX12_waitOfAll_50 : decode cX12_waitOfAll 50 = .ok (.ireturn, 1) := by decide +kernel
theorem dX12_waiting_0 : decode cX12_waiting 0 = .ok (.iload_n 1, 1) := by decide +kernel
theorem dX12_waiting_1 : decode cX12_waiting 1 = .ok (.iconst (-1), 1) := by decide +kernel
theorem dX12_waiting_2 : decode cX12_waiting 2 = .ok (.if_icmp .ne 8, 3) := by decide +kernel
theorem dX12_waiting_5 : decode cX12_waiting 5 = .ok (.aload_n 0, 1) := by decide +kernel
theorem dX12_waiting_6 : decode cX12_waiting 6 = .ok (.invokevirtual 402, 3) := by decide +kernel
theorem dX12_waiting_9 : decode cX12_waiting 9 = .ok (.ireturn, 1) := by decide +kernel
theorem dX12_waiting_10 : decode cX12_waiting 10 = .ok (.aload_n 0, 1) := by decide +kernel
theorem dX12_waiting_11 : decode cX12_waiting 11 = .ok (.iload_n 1, 1) := by decide +kernel
theorem dX12_waiting_12 : decode cX12_waiting 12 = .ok (.invokevirtual 131, 3) := by decide +kernel
theorem dX12_waiting_15 : decode cX12_waiting 15 = .ok (.ifCond .eq 11, 3) := by decide +kernel
theorem dX12_waiting_18 : decode cX12_waiting 18 = .ok (.aload_n 0, 1) := by decide +kernel
theorem dX12_waiting_19 : decode cX12_waiting 19 = .ok (.iload_n 1, 1) := by decide +kernel
theorem dX12_waiting_20 : decode cX12_waiting 20 = .ok (.invokevirtual 351, 3) := by decide +kernel
theorem dX12_waiting_23 : decode cX12_waiting 23 = .ok (.ifCond .ne 5, 3) := by decide +kernel
theorem dX12_waiting_26 : decode cX12_waiting 26 = .ok (.iconst (-1), 1) := by decide +kernel
theorem dX12_waiting_27 : decode cX12_waiting 27 = .ok (.ireturn, 1) := by decide +kernel
theorem dX12_waiting_28 : decode cX12_waiting 28 = .ok (.aload_n 0, 1) := by decide +kernel
theorem dX12_waiting_29 : decode cX12_waiting 29 = .ok (.aload_n 0, 1) := by decide +kernel
theorem dX12_waiting_30 : decode cX12_waiting 30 = .ok (.invokevirtual 393, 3) := by decide +kernel
theorem dX12_waiting_33 : decode cX12_waiting 33 = .ok (.invokevirtual 396, 3) := by decide +kernel
theorem dX12_waiting_36 : decode cX12_waiting 36 = .ok (.aload_n 0, 1) := by decide +kernel
theorem dX12_waiting_37 : decode cX12_waiting 37 = .ok (.iload_n 1, 1) := by decide +kernel
theorem dX12_waiting_38 : decode cX12_waiting 38 = .ok (.invokevirtual 399, 3) := by decide +kernel
theorem dX12_waiting_41 : decode cX12_waiting 41 = .ok (.ireturn, 1) := by decide +kernel
theorem dX12_compare_0 : decode cX12_compare 0 = .ok (.aload_n 0, 1) := by decide +kernel
theorem dX12_compare_1 : decode cX12_compare 1 = .ok (.iload_n 1, 1) := by decide +kernel
theorem dX12_compare_2 : decode cX12_compare 2 = .ok (.invokevirtual 276, 3) := by decide +kernel
theorem dX12_compare_5 : decode cX12_compare 5 = .ok (.ifCond .ne 5, 3) := by decide +kernel
theorem dX12_compare_8 : decode cX12_compare 8 = .ok (.iconst (-1), 1) := by decide +kernel
theorem dX12_compare_9 : decode cX12_compare 9 = .ok (.ireturn, 1) := by decide +kernel
theorem dX12_compare_10 : decode cX12_compare 10 = .ok (.aload_n 0, 1) := by decide +kernel
theorem dX12_compare_11 : decode cX12_compare 11 = .ok (.getfield 24, 3) := by decide +kernel
theorem dX12_compare_14 : decode cX12_compare 14 = .ok (.bipush 108, 2) := by decide +kernel
theorem dX12_compare_16 : decode cX12_compare 16 = .ok (.iaload, 1) := by decide +kernel
theorem dX12_compare_17 : decode cX12_compare 17 = .ok (.istore_n 2, 1) := by decide +kernel
theorem dX12_compare_18 : decode cX12_compare 18 = .ok (.aload_n 0, 1) := by decide +kernel
theorem dX12_compare_19 : decode cX12_compare 19 = .ok (.getfield 24, 3) := by decide +kernel
theorem dX12_compare_22 : decode cX12_compare 22 = .ok (.bipush 108, 2) := by decide +kernel
theorem dX12_compare_24 : decode cX12_compare 24 = .ok (.iload_n 1, 1) := by decide +kernel
theorem dX12_compare_25 : decode cX12_compare 25 = .ok (.iastore, 1) := by decide +kernel
theorem dX12_compare_26 : decode cX12_compare 26 = .ok (.aload_n 0, 1) := by decide +kernel
theorem dX12_compare_27 : decode cX12_compare 27 = .ok (.invokevirtual 402, 3) := by decide +kernel
theorem dX12_compare_30 : decode cX12_compare 30 = .ok (.istore_n 3, 1) := by decide +kernel
theorem dX12_compare_31 : decode cX12_compare 31 = .ok (.aload_n 0, 1) := by decide +kernel
theorem dX12_compare_32 : decode cX12_compare 32 = .ok (.getfield 24, 3) := by decide +kernel
theorem dX12_compare_35 : decode cX12_compare 35 = .ok (.bipush 108, 2) := by decide +kernel
theorem dX12_compare_37 : decode cX12_compare 37 = .ok (.iload_n 2, 1) := by decide +kernel
theorem dX12_compare_38 : decode cX12_compare 38 = .ok (.iastore, 1) := by decide +kernel
theorem dX12_compare_39 : decode cX12_compare 39 = .ok (.iload_n 3, 1) := by decide +kernel
theorem dX12_compare_40 : decode cX12_compare 40 = .ok (.ireturn, 1) := by decide +kernel
theorem dX12_laysHolders_0 : decode cX12_laysHolders 0 = .ok (.aload_n 0, 1) := by decide +kernel
theorem dX12_laysHolders_1 : decode cX12_laysHolders 1 = .ok (.iconst 0, 1) := by decide +kernel
theorem dX12_laysHolders_2 : decode cX12_laysHolders 2 = .ok (.putfield 405, 3) := by decide +kernel
theorem dX12_laysHolders_5 : decode cX12_laysHolders 5 = .ok (.iconst 0, 1) := by decide +kernel
theorem dX12_laysHolders_6 : decode cX12_laysHolders 6 = .ok (.istore_n 1, 1) := by decide +kernel
theorem dX12_laysHolders_7 : decode cX12_laysHolders 7 = .ok (.iload_n 1, 1) := by decide +kernel
theorem dX12_laysHolders_8 : decode cX12_laysHolders 8 = .ok (.aload_n 0, 1) := by decide +kernel
theorem dX12_laysHolders_9 : decode cX12_laysHolders 9 = .ok (.getfield 24, 3) := by decide +kernel
theorem dX12_laysHolders_12 : decode cX12_laysHolders 12 = .ok (.bipush 103, 2) := by decide +kernel
theorem dX12_laysHolders_14 : decode cX12_laysHolders 14 = .ok (.iaload, 1) := by decide +kernel
theorem dX12_laysHolders_15 : decode cX12_laysHolders 15 = .ok (.if_icmp .ge 40, 3) := by decide +kernel
theorem dX12_laysHolders_18 : decode cX12_laysHolders 18 = .ok (.aload_n 0, 1) := by decide +kernel
theorem dX12_laysHolders_19 : decode cX12_laysHolders 19 = .ok (.iload_n 1, 1) := by decide +kernel
theorem dX12_laysHolders_20 : decode cX12_laysHolders 20 = .ok (.invokevirtual 351, 3) := by decide +kernel
theorem dX12_laysHolders_23 : decode cX12_laysHolders 23 = .ok (.ifCond .ne 6, 3) := by decide +kernel
theorem dX12_laysHolders_26 : decode cX12_laysHolders 26 = .ok (.goto 23, 3) := by decide +kernel
theorem dX12_laysHolders_29 : decode cX12_laysHolders 29 = .ok (.aload_n 0, 1) := by decide +kernel
theorem dX12_laysHolders_30 : decode cX12_laysHolders 30 = .ok (.getfield 80, 3) := by decide +kernel
theorem dX12_laysHolders_33 : decode cX12_laysHolders 33 = .ok (.aload_n 0, 1) := by decide +kernel
theorem dX12_laysHolders_34 : decode cX12_laysHolders 34 = .ok (.getfield 405, 3) := by decide +kernel
theorem dX12_laysHolders_37 : decode cX12_laysHolders 37 = .ok (.iload_n 1, 1) := by decide +kernel
theorem dX12_laysHolders_38 : decode cX12_laysHolders 38 = .ok (.iastore, 1) := by decide +kernel
theorem dX12_laysHolders_39 : decode cX12_laysHolders 39 = .ok (.aload_n 0, 1) := by decide +kernel
theorem dX12_laysHolders_40 : decode cX12_laysHolders 40 = .ok (.dup, 1) := by decide +kernel
theorem dX12_laysHolders_41 : decode cX12_laysHolders 41 = .ok (.getfield 405, 3) := by decide +kernel
theorem dX12_laysHolders_44 : decode cX12_laysHolders 44 = .ok (.iconst 1, 1) := by decide +kernel
theorem dX12_laysHolders_45 : decode cX12_laysHolders 45 = .ok (.iadd, 1) := by decide +kernel
theorem dX12_laysHolders_46 : decode cX12_laysHolders 46 = .ok (.putfield 405, 3) := by decide +kernel
theorem dX12_laysHolders_49 : decode cX12_laysHolders 49 = .ok (.iinc 1 1, 3) := by decide +kernel
theorem dX12_laysHolders_52 : decode cX12_laysHolders 52 = .ok (.goto (-45), 3) := by decide +kernel
theorem dX12_laysHolders_55 : decode cX12_laysHolders 55 = .ok (.iconst 0, 1) := by decide +kernel
theorem dX12_laysHolders_56 : decode cX12_laysHolders 56 = .ok (.istore_n 1, 1) := by decide +kernel
theorem dX12_laysHolders_57 : decode cX12_laysHolders 57 = .ok (.iconst 0, 1) := by decide +kernel
theorem dX12_laysHolders_58 : decode cX12_laysHolders 58 = .ok (.istore_n 2, 1) := by decide +kernel
theorem dX12_laysHolders_59 : decode cX12_laysHolders 59 = .ok (.iload_n 2, 1) := by decide +kernel
theorem dX12_laysHolders_60 : decode cX12_laysHolders 60 = .ok (.aload_n 0, 1) := by decide +kernel
theorem dX12_laysHolders_61 : decode cX12_laysHolders 61 = .ok (.getfield 24, 3) := by decide +kernel
theorem dX12_laysHolders_64 : decode cX12_laysHolders 64 = .ok (.bipush 104, 2) := by decide +kernel
theorem dX12_laysHolders_66 : decode cX12_laysHolders 66 = .ok (.iaload, 1) := by decide +kernel
theorem dX12_laysHolders_67 : decode cX12_laysHolders 67 = .ok (.if_icmp .ge 31, 3) := by decide +kernel
theorem dX12_laysHolders_70 : decode cX12_laysHolders 70 = .ok (.aload_n 0, 1) := by decide +kernel
theorem dX12_laysHolders_71 : decode cX12_laysHolders 71 = .ok (.iload_n 2, 1) := by decide +kernel
theorem dX12_laysHolders_72 : decode cX12_laysHolders 72 = .ok (.invokevirtual 151, 3) := by decide +kernel
theorem dX12_laysHolders_75 : decode cX12_laysHolders 75 = .ok (.iconst (-1), 1) := by decide +kernel
theorem dX12_laysHolders_76 : decode cX12_laysHolders 76 = .ok (.if_icmp .ne 6, 3) := by decide +kernel
theorem dX12_laysHolders_79 : decode cX12_laysHolders 79 = .ok (.goto 13, 3) := by decide +kernel
theorem dX12_laysHolders_82 : decode cX12_laysHolders 82 = .ok (.aload_n 0, 1) := by decide +kernel
theorem dX12_laysHolders_83 : decode cX12_laysHolders 83 = .ok (.getfield 83, 3) := by decide +kernel
theorem dX12_laysHolders_86 : decode cX12_laysHolders 86 = .ok (.iload_n 1, 1) := by decide +kernel
theorem dX12_laysHolders_87 : decode cX12_laysHolders 87 = .ok (.iload_n 2, 1) := by decide +kernel
theorem dX12_laysHolders_88 : decode cX12_laysHolders 88 = .ok (.iastore, 1) := by decide +kernel
theorem dX12_laysHolders_89 : decode cX12_laysHolders 89 = .ok (.iinc 1 1, 3) := by decide +kernel
theorem dX12_laysHolders_92 : decode cX12_laysHolders 92 = .ok (.iinc 2 1, 3) := by decide +kernel
theorem dX12_laysHolders_95 : decode cX12_laysHolders 95 = .ok (.goto (-36), 3) := by decide +kernel
theorem dX12_laysHolders_98 : decode cX12_laysHolders 98 = .ok (.return_, 1) := by decide +kernel
theorem dX12_judges_0 : decode cX12_judges 0 = .ok (.aload_n 0, 1) := by decide +kernel
theorem dX12_judges_1 : decode cX12_judges 1 = .ok (.invokevirtual 408, 3) := by decide +kernel
theorem dX12_judges_4 : decode cX12_judges 4 = .ok (.istore_n 1, 1) := by decide +kernel
theorem dX12_judges_5 : decode cX12_judges 5 = .ok (.iload_n 1, 1) := by decide +kernel
theorem dX12_judges_6 : decode cX12_judges 6 = .ok (.aload_n 0, 1) := by decide +kernel
theorem dX12_judges_7 : decode cX12_judges 7 = .ok (.getfield 411, 3) := by decide +kernel
theorem dX12_judges_10 : decode cX12_judges 10 = .ok (.if_icmp .ge 4, 3) := by decide +kernel
theorem dX12_judges_13 : decode cX12_judges 13 = .ok (.return_, 1) := by decide +kernel
theorem dX12_judges_14 : decode cX12_judges 14 = .ok (.aload_n 0, 1) := by decide +kernel
theorem dX12_judges_15 : decode cX12_judges 15 = .ok (.invokevirtual 402, 3) := by decide +kernel
theorem dX12_judges_18 : decode cX12_judges 18 = .ok (.istore_n 2, 1) := by decide +kernel
theorem dX12_judges_19 : decode cX12_judges 19 = .ok (.iload_n 1, 1) := by decide +kernel
theorem dX12_judges_20 : decode cX12_judges 20 = .ok (.aload_n 0, 1) := by decide +kernel
theorem dX12_judges_21 : decode cX12_judges 21 = .ok (.getfield 411, 3) := by decide +kernel
theorem dX12_judges_24 : decode cX12_judges 24 = .ok (.if_icmp .ne 12, 3) := by decide +kernel
theorem dX12_judges_27 : decode cX12_judges 27 = .ok (.iload_n 2, 1) := by decide +kernel
theorem dX12_judges_28 : decode cX12_judges 28 = .ok (.aload_n 0, 1) := by decide +kernel
theorem dX12_judges_29 : decode cX12_judges 29 = .ok (.getfield 414, 3) := by decide +kernel
theorem dX12_judges_32 : decode cX12_judges 32 = .ok (.if_icmp .lt 4, 3) := by decide +kernel
theorem dX12_judges_35 : decode cX12_judges 35 = .ok (.return_, 1) := by decide +kernel
theorem dX12_judges_36 : decode cX12_judges 36 = .ok (.aload_n 0, 1) := by decide +kernel
theorem dX12_judges_37 : decode cX12_judges 37 = .ok (.iload_n 1, 1) := by decide +kernel
theorem dX12_judges_38 : decode cX12_judges 38 = .ok (.putfield 411, 3) := by decide +kernel
theorem dX12_judges_41 : decode cX12_judges 41 = .ok (.aload_n 0, 1) := by decide +kernel
theorem dX12_judges_42 : decode cX12_judges 42 = .ok (.iload_n 2, 1) := by decide +kernel
theorem dX12_judges_43 : decode cX12_judges 43 = .ok (.putfield 414, 3) := by decide +kernel
theorem dX12_judges_46 : decode cX12_judges 46 = .ok (.iconst 0, 1) := by decide +kernel
theorem dX12_judges_47 : decode cX12_judges 47 = .ok (.istore_n 3, 1) := by decide +kernel
theorem dX12_judges_48 : decode cX12_judges 48 = .ok (.iload_n 3, 1) := by decide +kernel
theorem dX12_judges_49 : decode cX12_judges 49 = .ok (.bipush 6, 2) := by decide +kernel
theorem dX12_judges_51 : decode cX12_judges 51 = .ok (.if_icmp .ge 23, 3) := by decide +kernel
theorem dX12_judges_54 : decode cX12_judges 54 = .ok (.aload_n 0, 1) := by decide +kernel
theorem dX12_judges_55 : decode cX12_judges 55 = .ok (.getfield 86, 3) := by decide +kernel
theorem dX12_judges_58 : decode cX12_judges 58 = .ok (.iload_n 3, 1) := by decide +kernel
theorem dX12_judges_59 : decode cX12_judges 59 = .ok (.aload_n 0, 1) := by decide +kernel
theorem dX12_judges_60 : decode cX12_judges 60 = .ok (.getfield 24, 3) := by decide +kernel
theorem dX12_judges_63 : decode cX12_judges 63 = .ok (.iconst 0, 1) := by decide +kernel
theorem dX12_judges_64 : decode cX12_judges 64 = .ok (.iload_n 3, 1) := by decide +kernel
theorem dX12_judges_65 : decode cX12_judges 65 = .ok (.iadd, 1) := by decide +kernel
theorem dX12_judges_66 : decode cX12_judges 66 = .ok (.iaload, 1) := by decide +kernel
theorem dX12_judges_67 : decode cX12_judges 67 = .ok (.iastore, 1) := by decide +kernel
theorem dX12_judges_68 : decode cX12_judges 68 = .ok (.iinc 3 1, 3) := by decide +kernel
theorem dX12_judges_71 : decode cX12_judges 71 = .ok (.goto (-23), 3) := by decide +kernel
theorem dX12_judges_74 : decode cX12_judges 74 = .ok (.return_, 1) := by decide +kernel
theorem dX12_triesAbout_0 : decode cX12_triesAbout 0 = .ok (.iload_n 1, 1) := by decide +kernel
theorem dX12_triesAbout_1 : decode cX12_triesAbout 1 = .ok (.aload_n 0, 1) := by decide +kernel
theorem dX12_triesAbout_2 : decode cX12_triesAbout 2 = .ok (.getfield 405, 3) := by decide +kernel
theorem dX12_triesAbout_5 : decode cX12_triesAbout 5 = .ok (.if_icmp .ne 8, 3) := by decide +kernel
theorem dX12_triesAbout_8 : decode cX12_triesAbout 8 = .ok (.aload_n 0, 1) := by decide +kernel
theorem dX12_triesAbout_9 : decode cX12_triesAbout 9 = .ok (.invokevirtual 417, 3) := by decide +kernel
theorem dX12_triesAbout_12 : decode cX12_triesAbout 12 = .ok (.return_, 1) := by decide +kernel
theorem dX12_triesAbout_13 : decode cX12_triesAbout 13 = .ok (.iconst 0, 1) := by decide +kernel
theorem dX12_triesAbout_14 : decode cX12_triesAbout 14 = .ok (.istore_n 3, 1) := by decide +kernel
theorem dX12_triesAbout_15 : decode cX12_triesAbout 15 = .ok (.iload_n 3, 1) := by decide +kernel
theorem dX12_triesAbout_16 : decode cX12_triesAbout 16 = .ok (.aload_n 0, 1) := by decide +kernel
theorem dX12_triesAbout_17 : decode cX12_triesAbout 17 = .ok (.getfield 405, 3) := by decide +kernel
theorem dX12_triesAbout_20 : decode cX12_triesAbout 20 = .ok (.if_icmp .ge 70, 3) := by decide +kernel
theorem dX12_triesAbout_23 : decode cX12_triesAbout 23 = .ok (.iload_n 2, 1) := by decide +kernel
theorem dX12_triesAbout_24 : decode cX12_triesAbout 24 = .ok (.iload_n 3, 1) := by decide +kernel
theorem dX12_triesAbout_25 : decode cX12_triesAbout 25 = .ok (.invokestatic 381, 3) := by decide +kernel
theorem dX12_triesAbout_28 : decode cX12_triesAbout 28 = .ok (.ifCond .ne 56, 3) := by decide +kernel
theorem dX12_triesAbout_31 : decode cX12_triesAbout 31 = .ok (.aload_n 0, 1) := by decide +kernel
theorem dX12_triesAbout_32 : decode cX12_triesAbout 32 = .ok (.aload_n 0, 1) := by decide +kernel
theorem dX12_triesAbout_33 : decode cX12_triesAbout 33 = .ok (.getfield 80, 3) := by decide +kernel
theorem dX12_triesAbout_36 : decode cX12_triesAbout 36 = .ok (.iload_n 1, 1) := by decide +kernel
theorem dX12_triesAbout_37 : decode cX12_triesAbout 37 = .ok (.iaload, 1) := by decide +kernel
theorem dX12_triesAbout_38 : decode cX12_triesAbout 38 = .ok (.aload_n 0, 1) := by decide +kernel
theorem dX12_triesAbout_39 : decode cX12_triesAbout 39 = .ok (.getfield 83, 3) := by decide +kernel
theorem dX12_triesAbout_42 : decode cX12_triesAbout 42 = .ok (.iload_n 3, 1) := by decide +kernel
theorem dX12_triesAbout_43 : decode cX12_triesAbout 43 = .ok (.iaload, 1) := by decide +kernel
theorem dX12_triesAbout_44 : decode cX12_triesAbout 44 = .ok (.invokevirtual 161, 3) := by decide +kernel
theorem dX12_triesAbout_47 : decode cX12_triesAbout 47 = .ok (.ifCond .eq 6, 3) := by decide +kernel
theorem dX12_triesAbout_50 : decode cX12_triesAbout 50 = .ok (.goto 34, 3) := by decide +kernel
theorem dX12_triesAbout_53 : decode cX12_triesAbout 53 = .ok (.aload_n 0, 1) := by decide +kernel
theorem dX12_triesAbout_54 : decode cX12_triesAbout 54 = .ok (.getfield 24, 3) := by decide +kernel
theorem dX12_triesAbout_57 : decode cX12_triesAbout 57 = .ok (.iconst 0, 1) := by decide +kernel
theorem dX12_triesAbout_58 : decode cX12_triesAbout 58 = .ok (.aload_n 0, 1) := by decide +kernel
theorem dX12_triesAbout_59 : decode cX12_triesAbout 59 = .ok (.getfield 80, 3) := by decide +kernel
theorem dX12_triesAbout_62 : decode cX12_triesAbout 62 = .ok (.iload_n 1, 1) := by decide +kernel
theorem dX12_triesAbout_63 : decode cX12_triesAbout 63 = .ok (.iaload, 1) := by decide +kernel
theorem dX12_triesAbout_64 : decode cX12_triesAbout 64 = .ok (.iadd, 1) := by decide +kernel
theorem dX12_triesAbout_65 : decode cX12_triesAbout 65 = .ok (.aload_n 0, 1) := by decide +kernel
theorem dX12_triesAbout_66 : decode cX12_triesAbout 66 = .ok (.getfield 83, 3) := by decide +kernel
theorem dX12_triesAbout_69 : decode cX12_triesAbout 69 = .ok (.iload_n 3, 1) := by decide +kernel
theorem dX12_triesAbout_70 : decode cX12_triesAbout 70 = .ok (.iaload, 1) := by decide +kernel
theorem dX12_triesAbout_71 : decode cX12_triesAbout 71 = .ok (.iastore, 1) := by decide +kernel
theorem dX12_triesAbout_72 : decode cX12_triesAbout 72 = .ok (.aload_n 0, 1) := by decide +kernel
theorem dX12_triesAbout_73 : decode cX12_triesAbout 73 = .ok (.iload_n 1, 1) := by decide +kernel
theorem dX12_triesAbout_74 : decode cX12_triesAbout 74 = .ok (.iconst 1, 1) := by decide +kernel
theorem dX12_triesAbout_75 : decode cX12_triesAbout 75 = .ok (.iadd, 1) := by decide +kernel
theorem dX12_triesAbout_76 : decode cX12_triesAbout 76 = .ok (.iload_n 2, 1) := by decide +kernel
theorem dX12_triesAbout_77 : decode cX12_triesAbout 77 = .ok (.iconst 1, 1) := by decide +kernel
theorem dX12_triesAbout_78 : decode cX12_triesAbout 78 = .ok (.iload_n 3, 1) := by decide +kernel
theorem dX12_triesAbout_79 : decode cX12_triesAbout 79 = .ok (.ishl, 1) := by decide +kernel
theorem dX12_triesAbout_80 : decode cX12_triesAbout 80 = .ok (.ior, 1) := by decide +kernel
theorem dX12_triesAbout_81 : decode cX12_triesAbout 81 = .ok (.invokevirtual 420, 3) := by decide +kernel
theorem dX12_triesAbout_84 : decode cX12_triesAbout 84 = .ok (.iinc 3 1, 3) := by decide +kernel
theorem dX12_triesAbout_87 : decode cX12_triesAbout 87 = .ok (.goto (-72), 3) := by decide +kernel
theorem dX12_triesAbout_90 : decode cX12_triesAbout 90 = .ok (.return_, 1) := by decide +kernel
theorem dX12_about_0 : decode cX12_about 0 = .ok (.iload_n 1, 1) := by decide +kernel
theorem dX12_about_1 : decode cX12_about 1 = .ok (.iconst 0, 1) := by decide +kernel
theorem dX12_about_2 : decode cX12_about 2 = .ok (.aload_n 0, 1) := by decide +kernel
theorem dX12_about_3 : decode cX12_about 3 = .ok (.getfield 24, 3) := by decide +kernel
theorem dX12_about_6 : decode cX12_about 6 = .ok (.bipush 103, 2) := by decide +kernel
theorem dX12_about_8 : decode cX12_about 8 = .ok (.iaload, 1) := by decide +kernel
theorem dX12_about_9 : decode cX12_about 9 = .ok (.iconst 1, 1) := by decide +kernel
theorem dX12_about_10 : decode cX12_about 10 = .ok (.iadd, 1) := by decide +kernel
theorem dX12_about_11 : decode cX12_about 11 = .ok (.invokestatic 117, 3) := by decide +kernel
theorem dX12_about_14 : decode cX12_about 14 = .ok (.ifCond .ne 5, 3) := by decide +kernel
theorem dX12_about_17 : decode cX12_about 17 = .ok (.iconst (-1), 1) := by decide +kernel
theorem dX12_about_18 : decode cX12_about 18 = .ok (.ireturn, 1) := by decide +kernel
theorem dX12_about_19 : decode cX12_about 19 = .ok (.aload_n 0, 1) := by decide +kernel
theorem dX12_about_20 : decode cX12_about 20 = .ok (.invokevirtual 423, 3) := by decide +kernel
theorem dX12_about_23 : decode cX12_about 23 = .ok (.aload_n 0, 1) := by decide +kernel
theorem dX12_about_24 : decode cX12_about 24 = .ok (.iconst 0, 1) := by decide +kernel
theorem dX12_about_25 : decode cX12_about 25 = .ok (.invokevirtual 426, 3) := by decide +kernel
theorem dX12_about_28 : decode cX12_about 28 = .ok (.aload_n 0, 1) := by decide +kernel
theorem dX12_about_29 : decode cX12_about 29 = .ok (.iconst (-1), 1) := by decide +kernel
theorem dX12_about_30 : decode cX12_about 30 = .ok (.putfield 411, 3) := by decide +kernel
theorem dX12_about_33 : decode cX12_about 33 = .ok (.aload_n 0, 1) := by decide +kernel
theorem dX12_about_34 : decode cX12_about 34 = .ok (.ldc 192, 2) := by decide +kernel
theorem dX12_about_36 : decode cX12_about 36 = .ok (.putfield 414, 3) := by decide +kernel
theorem dX12_about_39 : decode cX12_about 39 = .ok (.aload_n 0, 1) := by decide +kernel
theorem dX12_about_40 : decode cX12_about 40 = .ok (.iconst 0, 1) := by decide +kernel
theorem dX12_about_41 : decode cX12_about 41 = .ok (.iconst 0, 1) := by decide +kernel
theorem dX12_about_42 : decode cX12_about 42 = .ok (.invokevirtual 420, 3) := by decide +kernel
theorem dX12_about_45 : decode cX12_about 45 = .ok (.aload_n 0, 1) := by decide +kernel
theorem dX12_about_46 : decode cX12_about 46 = .ok (.iconst 0, 1) := by decide +kernel
theorem dX12_about_47 : decode cX12_about 47 = .ok (.invokevirtual 429, 3) := by decide +kernel
theorem dX12_about_50 : decode cX12_about 50 = .ok (.aload_n 0, 1) := by decide +kernel
theorem dX12_about_51 : decode cX12_about 51 = .ok (.getfield 411, 3) := by decide +kernel
theorem dX12_about_54 : decode cX12_about 54 = .ok (.iconst (-1), 1) := by decide +kernel
theorem dX12_about_55 : decode cX12_about 55 = .ok (.if_icmp .ne 5, 3) := by decide +kernel
theorem dX12_about_58 : decode cX12_about 58 = .ok (.iconst (-1), 1) := by decide +kernel
theorem dX12_about_59 : decode cX12_about 59 = .ok (.ireturn, 1) := by decide +kernel
theorem dX12_about_60 : decode cX12_about 60 = .ok (.iload_n 1, 1) := by decide +kernel
theorem dX12_about_61 : decode cX12_about 61 = .ok (.ifCond .ne 10, 3) := by decide +kernel
theorem dX12_about_64 : decode cX12_about 64 = .ok (.aload_n 0, 1) := by decide +kernel
theorem dX12_about_65 : decode cX12_about 65 = .ok (.getfield 411, 3) := by decide +kernel
theorem dX12_about_68 : decode cX12_about 68 = .ok (.goto 23, 3) := by decide +kernel
theorem dX12_about_71 : decode cX12_about 71 = .ok (.iload_n 1, 1) := by decide +kernel
theorem dX12_about_72 : decode cX12_about 72 = .ok (.iconst 1, 1) := by decide +kernel
theorem dX12_about_73 : decode cX12_about 73 = .ok (.if_icmp .ne 10, 3) := by decide +kernel
theorem dX12_about_76 : decode cX12_about 76 = .ok (.aload_n 0, 1) := by decide +kernel
theorem dX12_about_77 : decode cX12_about 77 = .ok (.getfield 414, 3) := by decide +kernel
theorem dX12_about_80 : decode cX12_about 80 = .ok (.goto 11, 3) := by decide +kernel
theorem dX12_about_83 : decode cX12_about 83 = .ok (.aload_n 0, 1) := by decide +kernel
theorem dX12_about_84 : decode cX12_about 84 = .ok (.getfield 86, 3) := by decide +kernel
theorem dX12_about_87 : decode cX12_about 87 = .ok (.iload_n 1, 1) := by decide +kernel
theorem dX12_about_88 : decode cX12_about 88 = .ok (.iconst 2, 1) := by decide +kernel
theorem dX12_about_89 : decode cX12_about 89 = .ok (.isub, 1) := by decide +kernel
theorem dX12_about_90 : decode cX12_about 90 = .ok (.iaload, 1) := by decide +kernel
theorem dX12_about_91 : decode cX12_about 91 = .ok (.ireturn, 1) := by decide +kernel
theorem dX12_wishedMost_0 : decode cX12_wishedMost 0 = .ok (.iconst (-1), 1) := by decide +kernel
theorem dX12_wishedMost_1 : decode cX12_wishedMost 1 = .ok (.istore_n 3, 1) := by decide +kernel
theorem dX12_wishedMost_2 : decode cX12_wishedMost 2 = .ok (.iconst 0, 1) := by decide +kernel
theorem dX12_wishedMost_3 : decode cX12_wishedMost 3 = .ok (.istore 4, 2) := by decide +kernel
theorem dX12_wishedMost_5 : decode cX12_wishedMost 5 = .ok (.iload 4, 2) := by decide +kernel
theorem dX12_wishedMost_7 : decode cX12_wishedMost 7 = .ok (.aload_n 0, 1) := by decide +kernel
theorem dX12_wishedMost_8 : decode cX12_wishedMost 8 = .ok (.getfield 24, 3) := by decide +kernel
theorem dX12_wishedMost_11 : decode cX12_wishedMost 11 = .ok (.bipush 104, 2) := by decide +kernel
theorem dX12_wishedMost_13 : decode cX12_wishedMost 13 = .ok (.iaload, 1) := by decide +kernel
theorem dX12_wishedMost_14 : decode cX12_wishedMost 14 = .ok (.if_icmp .ge 75, 3) := by decide +kernel
theorem dX12_wishedMost_17 : decode cX12_wishedMost 17 = .ok (.aload_n 0, 1) := by decide +kernel
theorem dX12_wishedMost_18 : decode cX12_wishedMost 18 = .ok (.iload 4, 2) := by decide +kernel
theorem dX12_wishedMost_20 : decode cX12_wishedMost 20 = .ok (.invokevirtual 151, 3) := by decide +kernel
theorem dX12_wishedMost_23 : decode cX12_wishedMost 23 = .ok (.istore 5, 2) := by decide +kernel
theorem dX12_wishedMost_25 : decode cX12_wishedMost 25 = .ok (.iload 5, 2) := by decide +kernel
theorem dX12_wishedMost_27 : decode cX12_wishedMost 27 = .ok (.iconst (-1), 1) := by decide +kernel
theorem dX12_wishedMost_28 : decode cX12_wishedMost 28 = .ok (.if_icmp .eq 55, 3) := by decide +kernel
theorem dX12_wishedMost_31 : decode cX12_wishedMost 31 = .ok (.iload_n 2, 1) := by decide +kernel
theorem dX12_wishedMost_32 : decode cX12_wishedMost 32 = .ok (.iload 5, 2) := by decide +kernel
theorem dX12_wishedMost_34 : decode cX12_wishedMost 34 = .ok (.invokestatic 381, 3) := by decide +kernel
theorem dX12_wishedMost_37 : decode cX12_wishedMost 37 = .ok (.ifCond .eq 46, 3) := by decide +kernel
theorem dX12_wishedMost_40 : decode cX12_wishedMost 40 = .ok (.iload 5, 2) := by decide +kernel
theorem dX12_wishedMost_42 : decode cX12_wishedMost 42 = .ok (.iload_n 1, 1) := by decide +kernel
theorem dX12_wishedMost_43 : decode cX12_wishedMost 43 = .ok (.if_icmp .eq 16, 3) := by decide +kernel
theorem dX12_wishedMost_46 : decode cX12_wishedMost 46 = .ok (.aload_n 0, 1) := by decide +kernel
theorem dX12_wishedMost_47 : decode cX12_wishedMost 47 = .ok (.iload_n 1, 1) := by decide +kernel
theorem dX12_wishedMost_48 : decode cX12_wishedMost 48 = .ok (.iload 4, 2) := by decide +kernel
theorem dX12_wishedMost_50 : decode cX12_wishedMost 50 = .ok (.invokevirtual 161, 3) := by decide +kernel
theorem dX12_wishedMost_53 : decode cX12_wishedMost 53 = .ok (.ifCond .eq 6, 3) := by decide +kernel
theorem dX12_wishedMost_56 : decode cX12_wishedMost 56 = .ok (.goto 27, 3) := by decide +kernel
theorem dX12_wishedMost_59 : decode cX12_wishedMost 59 = .ok (.iload_n 3, 1) := by decide +kernel
theorem dX12_wishedMost_60 : decode cX12_wishedMost 60 = .ok (.iconst (-1), 1) := by decide +kernel
theorem dX12_wishedMost_61 : decode cX12_wishedMost 61 = .ok (.if_icmp .eq 19, 3) := by decide +kernel
theorem dX12_wishedMost_64 : decode cX12_wishedMost 64 = .ok (.aload_n 0, 1) := by decide +kernel
theorem dX12_wishedMost_65 : decode cX12_wishedMost 65 = .ok (.iload_n 1, 1) := by decide +kernel
theorem dX12_wishedMost_66 : decode cX12_wishedMost 66 = .ok (.iload 4, 2) := by decide +kernel
theorem dX12_wishedMost_68 : decode cX12_wishedMost 68 = .ok (.invokevirtual 154, 3) := by decide +kernel
theorem dX12_wishedMost_71 : decode cX12_wishedMost 71 = .ok (.aload_n 0, 1) := by decide +kernel
theorem dX12_wishedMost_72 : decode cX12_wishedMost 72 = .ok (.iload_n 1, 1) := by decide +kernel
theorem dX12_wishedMost_73 : decode cX12_wishedMost 73 = .ok (.iload_n 3, 1) := by decide +kernel
theorem dX12_wishedMost_74 : decode cX12_wishedMost 74 = .ok (.invokevirtual 154, 3) := by decide +kernel
theorem dX12_wishedMost_77 : decode cX12_wishedMost 77 = .ok (.if_icmp .le 6, 3) := by decide +kernel
theorem dX12_wishedMost_80 : decode cX12_wishedMost 80 = .ok (.iload 4, 2) := by decide +kernel
theorem dX12_wishedMost_82 : decode cX12_wishedMost 82 = .ok (.istore_n 3, 1) := by decide +kernel
theorem dX12_wishedMost_83 : decode cX12_wishedMost 83 = .ok (.iinc 4 1, 3) := by decide +kernel
theorem dX12_wishedMost_86 : decode cX12_wishedMost 86 = .ok (.goto (-81), 3) := by decide +kernel
theorem dX12_wishedMost_89 : decode cX12_wishedMost 89 = .ok (.iload_n 3, 1) := by decide +kernel
theorem dX12_wishedMost_90 : decode cX12_wishedMost 90 = .ok (.ireturn, 1) := by decide +kernel
theorem dX12_isOnRing_0 : decode cX12_isOnRing 0 = .ok (.aload_n 0, 1) := by decide +kernel
theorem dX12_isOnRing_1 : decode cX12_isOnRing 1 = .ok (.getfield 92, 3) := by decide +kernel
theorem dX12_isOnRing_4 : decode cX12_isOnRing 4 = .ok (.iload_n 1, 1) := by decide +kernel
theorem dX12_isOnRing_5 : decode cX12_isOnRing 5 = .ok (.iaload, 1) := by decide +kernel
theorem dX12_isOnRing_6 : decode cX12_isOnRing 6 = .ok (.istore_n 2, 1) := by decide +kernel
theorem dX12_isOnRing_7 : decode cX12_isOnRing 7 = .ok (.iconst 0, 1) := by decide +kernel
theorem dX12_isOnRing_8 : decode cX12_isOnRing 8 = .ok (.istore_n 3, 1) := by decide +kernel
theorem dX12_isOnRing_9 : decode cX12_isOnRing 9 = .ok (.iload_n 3, 1) := by decide +kernel
theorem dX12_isOnRing_10 : decode cX12_isOnRing 10 = .ok (.bipush 6, 2) := by decide +kernel
theorem dX12_isOnRing_12 : decode cX12_isOnRing 12 = .ok (.if_icmp .ge 21, 3) := by decide +kernel
theorem dX12_isOnRing_15 : decode cX12_isOnRing 15 = .ok (.iload_n 2, 1) := by decide +kernel
theorem dX12_isOnRing_16 : decode cX12_isOnRing 16 = .ok (.iload_n 1, 1) := by decide +kernel
theorem dX12_isOnRing_17 : decode cX12_isOnRing 17 = .ok (.if_icmp .eq 16, 3) := by decide +kernel
theorem dX12_isOnRing_20 : decode cX12_isOnRing 20 = .ok (.aload_n 0, 1) := by decide +kernel
theorem dX12_isOnRing_21 : decode cX12_isOnRing 21 = .ok (.getfield 92, 3) := by decide +kernel
theorem dX12_isOnRing_24 : decode cX12_isOnRing 24 = .ok (.iload_n 2, 1) := by decide +kernel
theorem dX12_isOnRing_25 : decode cX12_isOnRing 25 = .ok (.iaload, 1) := by decide +kernel
theorem dX12_isOnRing_26 : decode cX12_isOnRing 26 = .ok (.istore_n 2, 1) := by decide +kernel
theorem dX12_isOnRing_27 : decode cX12_isOnRing 27 = .ok (.iinc 3 1, 3) := by decide +kernel
theorem dX12_isOnRing_30 : decode cX12_isOnRing 30 = .ok (.goto (-21), 3) := by decide +kernel
theorem dX12_isOnRing_33 : decode cX12_isOnRing 33 = .ok (.iload_n 2, 1) := by decide +kernel
theorem dX12_isOnRing_34 : decode cX12_isOnRing 34 = .ok (.iload_n 1, 1) := by decide +kernel
theorem dX12_isOnRing_35 : decode cX12_isOnRing 35 = .ok (.if_icmp .ne 7, 3) := by decide +kernel
theorem dX12_isOnRing_38 : decode cX12_isOnRing 38 = .ok (.iconst 1, 1) := by decide +kernel
theorem dX12_isOnRing_39 : decode cX12_isOnRing 39 = .ok (.goto 4, 3) := by decide +kernel
theorem dX12_isOnRing_42 : decode cX12_isOnRing 42 = .ok (.iconst 0, 1) := by decide +kernel
theorem dX12_isOnRing_43 : decode cX12_isOnRing 43 = .ok (.ireturn, 1) := by decide +kernel
theorem dX12_leaves_0 : decode cX12_leaves 0 = .ok (.iload_n 2, 1) := by decide +kernel
theorem dX12_leaves_1 : decode cX12_leaves 1 = .ok (.istore_n 3, 1) := by decide +kernel
theorem dX12_leaves_2 : decode cX12_leaves 2 = .ok (.iload_n 1, 1) := by decide +kernel
theorem dX12_leaves_3 : decode cX12_leaves 3 = .ok (.istore 4, 2) := by decide +kernel
theorem dX12_leaves_5 : decode cX12_leaves 5 = .ok (.iload_n 3, 1) := by decide +kernel
theorem dX12_leaves_6 : decode cX12_leaves 6 = .ok (.iload 4, 2) := by decide +kernel
theorem dX12_leaves_8 : decode cX12_leaves 8 = .ok (.invokestatic 381, 3) := by decide +kernel
theorem dX12_leaves_11 : decode cX12_leaves 11 = .ok (.ifCond .eq 45, 3) := by decide +kernel
theorem dX12_leaves_14 : decode cX12_leaves 14 = .ok (.aload_n 0, 1) := by decide +kernel
theorem dX12_leaves_15 : decode cX12_leaves 15 = .ok (.getfield 89, 3) := by decide +kernel
theorem dX12_leaves_18 : decode cX12_leaves 18 = .ok (.iload 4, 2) := by decide +kernel
theorem dX12_leaves_20 : decode cX12_leaves 20 = .ok (.aload_n 0, 1) := by decide +kernel
theorem dX12_leaves_21 : decode cX12_leaves 21 = .ok (.getfield 24, 3) := by decide +kernel
theorem dX12_leaves_24 : decode cX12_leaves 24 = .ok (.iconst 0, 1) := by decide +kernel
theorem dX12_leaves_25 : decode cX12_leaves 25 = .ok (.aload_n 0, 1) := by decide +kernel
theorem dX12_leaves_26 : decode cX12_leaves 26 = .ok (.getfield 92, 3) := by decide +kernel
theorem dX12_leaves_29 : decode cX12_leaves 29 = .ok (.iload 4, 2) := by decide +kernel
theorem dX12_leaves_31 : decode cX12_leaves 31 = .ok (.iaload, 1) := by decide +kernel
theorem dX12_leaves_32 : decode cX12_leaves 32 = .ok (.iadd, 1) := by decide +kernel
theorem dX12_leaves_33 : decode cX12_leaves 33 = .ok (.iaload, 1) := by decide +kernel
theorem dX12_leaves_34 : decode cX12_leaves 34 = .ok (.iastore, 1) := by decide +kernel
theorem dX12_leaves_35 : decode cX12_leaves 35 = .ok (.iload_n 3, 1) := by decide +kernel
theorem dX12_leaves_36 : decode cX12_leaves 36 = .ok (.iconst 1, 1) := by decide +kernel
theorem dX12_leaves_37 : decode cX12_leaves 37 = .ok (.iload 4, 2) := by decide +kernel
theorem dX12_leaves_39 : decode cX12_leaves 39 = .ok (.ishl, 1) := by decide +kernel
theorem dX12_leaves_40 : decode cX12_leaves 40 = .ok (.iconst (-1), 1) := by decide +kernel
theorem dX12_leaves_41 : decode cX12_leaves 41 = .ok (.ixor, 1) := by decide +kernel
theorem dX12_leaves_42 : decode cX12_leaves 42 = .ok (.iand, 1) := by decide +kernel
theorem dX12_leaves_43 : decode cX12_leaves 43 = .ok (.istore_n 3, 1) := by decide +kernel
theorem dX12_leaves_44 : decode cX12_leaves 44 = .ok (.aload_n 0, 1) := by decide +kernel
theorem dX12_leaves_45 : decode cX12_leaves 45 = .ok (.getfield 92, 3) := by decide +kernel
theorem dX12_leaves_48 : decode cX12_leaves 48 = .ok (.iload 4, 2) := by decide +kernel
theorem dX12_leaves_50 : decode cX12_leaves 50 = .ok (.iaload, 1) := by decide +kernel
theorem dX12_leaves_51 : decode cX12_leaves 51 = .ok (.istore 4, 2) := by decide +kernel
theorem dX12_leaves_53 : decode cX12_leaves 53 = .ok (.goto (-48), 3) := by decide +kernel
theorem dX12_leaves_56 : decode cX12_leaves 56 = .ok (.iload_n 3, 1) := by decide +kernel
theorem dX12_leaves_57 : decode cX12_leaves 57 = .ok (.ireturn, 1) := by decide +kernel
theorem dX12_laysTrade_0 : decode cX12_laysTrade 0 = .ok (.iconst 0, 1) := by decide +kernel
theorem dX12_laysTrade_1 : decode cX12_laysTrade 1 = .ok (.istore_n 1, 1) := by decide +kernel
theorem dX12_laysTrade_2 : decode cX12_laysTrade 2 = .ok (.iconst 0, 1) := by decide +kernel
theorem dX12_laysTrade_3 : decode cX12_laysTrade 3 = .ok (.istore_n 2, 1) := by decide +kernel
theorem dX12_laysTrade_4 : decode cX12_laysTrade 4 = .ok (.iconst 0, 1) := by decide +kernel
theorem dX12_laysTrade_5 : decode cX12_laysTrade 5 = .ok (.istore_n 3, 1) := by decide +kernel
theorem dX12_laysTrade_6 : decode cX12_laysTrade 6 = .ok (.iload_n 3, 1) := by decide +kernel
theorem dX12_laysTrade_7 : decode cX12_laysTrade 7 = .ok (.bipush 6, 2) := by decide +kernel
theorem dX12_laysTrade_9 : decode cX12_laysTrade 9 = .ok (.if_icmp .ge 45, 3) := by decide +kernel
theorem dX12_laysTrade_12 : decode cX12_laysTrade 12 = .ok (.aload_n 0, 1) := by decide +kernel
theorem dX12_laysTrade_13 : decode cX12_laysTrade 13 = .ok (.getfield 89, 3) := by decide +kernel
theorem dX12_laysTrade_16 : decode cX12_laysTrade 16 = .ok (.iload_n 3, 1) := by decide +kernel
theorem dX12_laysTrade_17 : decode cX12_laysTrade 17 = .ok (.iconst (-1), 1) := by decide +kernel
theorem dX12_laysTrade_18 : decode cX12_laysTrade 18 = .ok (.iastore, 1) := by decide +kernel
theorem dX12_laysTrade_19 : decode cX12_laysTrade 19 = .ok (.iload_n 1, 1) := by decide +kernel
theorem dX12_laysTrade_20 : decode cX12_laysTrade 20 = .ok (.iload_n 3, 1) := by decide +kernel
theorem dX12_laysTrade_21 : decode cX12_laysTrade 21 = .ok (.aload_n 0, 1) := by decide +kernel
theorem dX12_laysTrade_22 : decode cX12_laysTrade 22 = .ok (.getfield 24, 3) := by decide +kernel
theorem dX12_laysTrade_25 : decode cX12_laysTrade 25 = .ok (.bipush 103, 2) := by decide +kernel
theorem dX12_laysTrade_27 : decode cX12_laysTrade 27 = .ok (.iaload, 1) := by decide +kernel
theorem dX12_laysTrade_28 : decode cX12_laysTrade 28 = .ok (.if_icmp .ge 17, 3) := by decide +kernel
theorem dX12_laysTrade_31 : decode cX12_laysTrade 31 = .ok (.aload_n 0, 1) := by decide +kernel
theorem dX12_laysTrade_32 : decode cX12_laysTrade 32 = .ok (.iload_n 3, 1) := by decide +kernel
theorem dX12_laysTrade_33 : decode cX12_laysTrade 33 = .ok (.invokevirtual 351, 3) := by decide +kernel
theorem dX12_laysTrade_36 : decode cX12_laysTrade 36 = .ok (.ifCond .eq 9, 3) := by decide +kernel
theorem dX12_laysTrade_39 : decode cX12_laysTrade 39 = .ok (.iconst 1, 1) := by decide +kernel
theorem dX12_laysTrade_40 : decode cX12_laysTrade 40 = .ok (.iload_n 3, 1) := by decide +kernel
theorem dX12_laysTrade_41 : decode cX12_laysTrade 41 = .ok (.ishl, 1) := by decide +kernel
theorem dX12_laysTrade_42 : decode cX12_laysTrade 42 = .ok (.goto 4, 3) := by decide +kernel
theorem dX12_laysTrade_45 : decode cX12_laysTrade 45 = .ok (.iconst 0, 1) := by decide +kernel
theorem dX12_laysTrade_46 : decode cX12_laysTrade 46 = .ok (.ior, 1) := by decide +kernel
theorem dX12_laysTrade_47 : decode cX12_laysTrade 47 = .ok (.istore_n 1, 1) := by decide +kernel
theorem dX12_laysTrade_48 : decode cX12_laysTrade 48 = .ok (.iinc 3 1, 3) := by decide +kernel
theorem dX12_laysTrade_51 : decode cX12_laysTrade 51 = .ok (.goto (-45), 3) := by decide +kernel
theorem dX12_laysTrade_54 : decode cX12_laysTrade 54 = .ok (.iload_n 1, 1) := by decide +kernel
theorem dX12_laysTrade_55 : decode cX12_laysTrade 55 = .ok (.ifCond .eq 106, 3) := by decide +kernel
theorem dX12_laysTrade_58 : decode cX12_laysTrade 58 = .ok (.iconst 0, 1) := by decide +kernel
theorem dX12_laysTrade_59 : decode cX12_laysTrade 59 = .ok (.istore_n 3, 1) := by decide +kernel
theorem dX12_laysTrade_60 : decode cX12_laysTrade 60 = .ok (.iload_n 3, 1) := by decide +kernel
theorem dX12_laysTrade_61 : decode cX12_laysTrade 61 = .ok (.aload_n 0, 1) := by decide +kernel
theorem dX12_laysTrade_62 : decode cX12_laysTrade 62 = .ok (.getfield 24, 3) := by decide +kernel
theorem dX12_laysTrade_65 : decode cX12_laysTrade 65 = .ok (.bipush 103, 2) := by decide +kernel
theorem dX12_laysTrade_67 : decode cX12_laysTrade 67 = .ok (.iaload, 1) := by decide +kernel
theorem dX12_laysTrade_68 : decode cX12_laysTrade 68 = .ok (.if_icmp .ge 33, 3) := by decide +kernel
theorem dX12_laysTrade_71 : decode cX12_laysTrade 71 = .ok (.iload_n 1, 1) := by decide +kernel
theorem dX12_laysTrade_72 : decode cX12_laysTrade 72 = .ok (.iload_n 3, 1) := by decide +kernel
theorem dX12_laysTrade_73 : decode cX12_laysTrade 73 = .ok (.invokestatic 381, 3) := by decide +kernel
theorem dX12_laysTrade_76 : decode cX12_laysTrade 76 = .ok (.ifCond .eq 19, 3) := by decide +kernel
theorem dX12_laysTrade_79 : decode cX12_laysTrade 79 = .ok (.aload_n 0, 1) := by decide +kernel
theorem dX12_laysTrade_80 : decode cX12_laysTrade 80 = .ok (.getfield 92, 3) := by decide +kernel
theorem dX12_laysTrade_83 : decode cX12_laysTrade 83 = .ok (.iload_n 3, 1) := by decide +kernel
theorem dX12_laysTrade_84 : decode cX12_laysTrade 84 = .ok (.aload_n 0, 1) := by decide +kernel
theorem dX12_laysTrade_85 : decode cX12_laysTrade 85 = .ok (.aload_n 0, 1) := by decide +kernel
theorem dX12_laysTrade_86 : decode cX12_laysTrade 86 = .ok (.iload_n 3, 1) := by decide +kernel
theorem dX12_laysTrade_87 : decode cX12_laysTrade 87 = .ok (.iload_n 1, 1) := by decide +kernel
theorem dX12_laysTrade_88 : decode cX12_laysTrade 88 = .ok (.invokevirtual 432, 3) := by decide +kernel
theorem dX12_laysTrade_91 : decode cX12_laysTrade 91 = .ok (.invokevirtual 151, 3) := by decide +kernel
theorem dX12_laysTrade_94 : decode cX12_laysTrade 94 = .ok (.iastore, 1) := by decide +kernel
theorem dX12_laysTrade_95 : decode cX12_laysTrade 95 = .ok (.iinc 3 1, 3) := by decide +kernel
theorem dX12_laysTrade_98 : decode cX12_laysTrade 98 = .ok (.goto (-38), 3) := by decide +kernel
theorem dX12_laysTrade_101 : decode cX12_laysTrade 101 = .ok (.iload_n 1, 1) := by decide +kernel
theorem dX12_laysTrade_102 : decode cX12_laysTrade 102 = .ok (.istore_n 3, 1) := by decide +kernel
theorem dX12_laysTrade_103 : decode cX12_laysTrade 103 = .ok (.iconst 0, 1) := by decide +kernel
theorem dX12_laysTrade_104 : decode cX12_laysTrade 104 = .ok (.istore 4, 2) := by decide +kernel
theorem dX12_laysTrade_106 : decode cX12_laysTrade 106 = .ok (.iload 4, 2) := by decide +kernel
theorem dX12_laysTrade_108 : decode cX12_laysTrade 108 = .ok (.aload_n 0, 1) := by decide +kernel
theorem dX12_laysTrade_109 : decode cX12_laysTrade 109 = .ok (.getfield 24, 3) := by decide +kernel
theorem dX12_laysTrade_112 : decode cX12_laysTrade 112 = .ok (.bipush 103, 2) := by decide +kernel
theorem dX12_laysTrade_114 : decode cX12_laysTrade 114 = .ok (.iaload, 1) := by decide +kernel
theorem dX12_laysTrade_115 : decode cX12_laysTrade 115 = .ok (.if_icmp .ge 41, 3) := by decide +kernel
theorem dX12_laysTrade_118 : decode cX12_laysTrade 118 = .ok (.iload_n 3, 1) := by decide +kernel
theorem dX12_laysTrade_119 : decode cX12_laysTrade 119 = .ok (.iload 4, 2) := by decide +kernel
theorem dX12_laysTrade_121 : decode cX12_laysTrade 121 = .ok (.invokestatic 381, 3) := by decide +kernel
theorem dX12_laysTrade_124 : decode cX12_laysTrade 124 = .ok (.ifCond .eq 26, 3) := by decide +kernel
theorem dX12_laysTrade_127 : decode cX12_laysTrade 127 = .ok (.aload_n 0, 1) := by decide +kernel
theorem dX12_laysTrade_128 : decode cX12_laysTrade 128 = .ok (.iload 4, 2) := by decide +kernel
theorem dX12_laysTrade_130 : decode cX12_laysTrade 130 = .ok (.invokevirtual 435, 3) := by decide +kernel
theorem dX12_laysTrade_133 : decode cX12_laysTrade 133 = .ok (.ifCond .ne 6, 3) := by decide +kernel
theorem dX12_laysTrade_136 : decode cX12_laysTrade 136 = .ok (.goto 14, 3) := by decide +kernel
theorem dX12_laysTrade_139 : decode cX12_laysTrade 139 = .ok (.iinc 2 1, 3) := by decide +kernel
theorem dX12_laysTrade_142 : decode cX12_laysTrade 142 = .ok (.aload_n 0, 1) := by decide +kernel
theorem dX12_laysTrade_143 : decode cX12_laysTrade 143 = .ok (.iload 4, 2) := by decide +kernel
theorem dX12_laysTrade_145 : decode cX12_laysTrade 145 = .ok (.iload_n 3, 1) := by decide +kernel
theorem dX12_laysTrade_146 : decode cX12_laysTrade 146 = .ok (.invokevirtual 438, 3) := by decide +kernel
theorem dX12_laysTrade_149 : decode cX12_laysTrade 149 = .ok (.istore_n 3, 1) := by decide +kernel
theorem dX12_laysTrade_150 : decode cX12_laysTrade 150 = .ok (.iinc 4 1, 3) := by decide +kernel
theorem dX12_laysTrade_153 : decode cX12_laysTrade 153 = .ok (.goto (-47), 3) := by decide +kernel
theorem dX12_laysTrade_156 : decode cX12_laysTrade 156 = .ok (.iload_n 3, 1) := by decide +kernel
theorem dX12_laysTrade_157 : decode cX12_laysTrade 157 = .ok (.istore_n 1, 1) := by decide +kernel
theorem dX12_laysTrade_158 : decode cX12_laysTrade 158 = .ok (.goto (-104), 3) := by decide +kernel
theorem dX12_laysTrade_161 : decode cX12_laysTrade 161 = .ok (.iload_n 2, 1) := by decide +kernel
theorem dX12_laysTrade_162 : decode cX12_laysTrade 162 = .ok (.ireturn, 1) := by decide +kernel
theorem dX12_trade_0 : decode cX12_trade 0 = .ok (.iload_n 1, 1) := by decide +kernel
theorem dX12_trade_1 : decode cX12_trade 1 = .ok (.iconst (-1), 1) := by decide +kernel
theorem dX12_trade_2 : decode cX12_trade 2 = .ok (.if_icmp .eq 13, 3) := by decide +kernel
theorem dX12_trade_5 : decode cX12_trade 5 = .ok (.aload_n 0, 1) := by decide +kernel
