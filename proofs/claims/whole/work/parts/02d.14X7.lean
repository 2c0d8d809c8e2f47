theorem dX7_init_0 : decode cX7_init 0 = .ok (.aload_n 0, 1) := by decide +kernel
theorem dX7_init_1 : decode cX7_init 1 = .ok (.invokespecial 3, 3) := by decide +kernel
theorem dX7_init_4 : decode cX7_init 4 = .ok (.aload_n 0, 1) := by decide +kernel
theorem dX7_init_5 : decode cX7_init 5 = .ok (.sipush 400, 3) := by decide +kernel
theorem dX7_init_8 : decode cX7_init 8 = .ok (.newarray .byte, 2) := by decide +kernel
theorem dX7_init_10 : decode cX7_init 10 = .ok (.putfield 9, 3) := by decide +kernel
theorem dX7_init_13 : decode cX7_init 13 = .ok (.aload_n 0, 1) := by decide +kernel
theorem dX7_init_14 : decode cX7_init 14 = .ok (.new 15, 3) := by decide +kernel
theorem dX7_init_17 : decode cX7_init 17 = .ok (.dup, 1) := by decide +kernel
theorem dX7_init_18 : decode cX7_init 18 = .ok (.invokespecial 17, 3) := by decide +kernel
theorem dX7_init_21 : decode cX7_init 21 = .ok (.putfield 18, 3) := by decide +kernel
theorem dX7_init_24 : decode cX7_init 24 = .ok (.aload_n 0, 1) := by decide +kernel
theorem dX7_init_25 : decode cX7_init 25 = .ok (.iconst (-1), 1) := by decide +kernel
theorem dX7_init_26 : decode cX7_init 26 = .ok (.putfield 22, 3) := by decide +kernel
theorem dX7_init_29 : decode cX7_init 29 = .ok (.return_, 1) := by decide +kernel
theorem dX7_write_0 : decode cX7_write 0 = .ok (.bipush 24, 2) := by decide +kernel
theorem dX7_write_2 : decode cX7_write 2 = .ok (.istore_n 2, 1) := by decide +kernel
theorem dX7_write_3 : decode cX7_write 3 = .ok (.iload_n 2, 1) := by decide +kernel
theorem dX7_write_4 : decode cX7_write 4 = .ok (.ifCond .lt 42, 3) := by decide +kernel
theorem dX7_write_7 : decode cX7_write 7 = .ok (.aload_n 0, 1) := by decide +kernel
theorem dX7_write_8 : decode cX7_write 8 = .ok (.getfield 26, 3) := by decide +kernel
theorem dX7_write_11 : decode cX7_write 11 = .ok (.sipush 400, 3) := by decide +kernel
theorem dX7_write_14 : decode cX7_write 14 = .ok (.if_icmp .ge 26, 3) := by decide +kernel
theorem dX7_write_17 : decode cX7_write 17 = .ok (.aload_n 0, 1) := by decide +kernel
theorem dX7_write_18 : decode cX7_write 18 = .ok (.getfield 9, 3) := by decide +kernel
theorem dX7_write_21 : decode cX7_write 21 = .ok (.aload_n 0, 1) := by decide +kernel
theorem dX7_write_22 : decode cX7_write 22 = .ok (.getfield 26, 3) := by decide +kernel
theorem dX7_write_25 : decode cX7_write 25 = .ok (.iload_n 1, 1) := by decide +kernel
theorem dX7_write_26 : decode cX7_write 26 = .ok (.iload_n 2, 1) := by decide +kernel
theorem dX7_write_27 : decode cX7_write 27 = .ok (.ishr, 1) := by decide +kernel
theorem dX7_write_28 : decode cX7_write 28 = .ok (.i2b, 1) := by decide +kernel
theorem dX7_write_29 : decode cX7_write 29 = .ok (.bastore, 1) := by decide +kernel
theorem dX7_write_30 : decode cX7_write 30 = .ok (.aload_n 0, 1) := by decide +kernel
theorem dX7_write_31 : decode cX7_write 31 = .ok (.dup, 1) := by decide +kernel
theorem dX7_write_32 : decode cX7_write 32 = .ok (.getfield 26, 3) := by decide +kernel
theorem dX7_write_35 : decode cX7_write 35 = .ok (.iconst 1, 1) := by decide +kernel
theorem dX7_write_36 : decode cX7_write 36 = .ok (.iadd, 1) := by decide +kernel
theorem dX7_write_37 : decode cX7_write 37 = .ok (.putfield 26, 3) := by decide +kernel
theorem dX7_write_40 : decode cX7_write 40 = .ok (.iinc 2 (-8), 3) := by decide +kernel
theorem dX7_write_43 : decode cX7_write 43 = .ok (.goto (-40), 3) := by decide +kernel
theorem dX7_write_46 : decode cX7_write 46 = .ok (.return_, 1) := by decide +kernel
theorem dX7_byteAt_0 : decode cX7_byteAt 0 = .ok (.iload_n 1, 1) := by decide +kernel
theorem dX7_byteAt_1 : decode cX7_byteAt 1 = .ok (.ifCond .lt 24, 3) := by decide +kernel
theorem dX7_byteAt_4 : decode cX7_byteAt 4 = .ok (.iload_n 1, 1) := by decide +kernel
theorem dX7_byteAt_5 : decode cX7_byteAt 5 = .ok (.aload_n 0, 1) := by decide +kernel
theorem dX7_byteAt_6 : decode cX7_byteAt 6 = .ok (.getfield 26, 3) := by decide +kernel
theorem dX7_byteAt_9 : decode cX7_byteAt 9 = .ok (.if_icmp .ge 16, 3) := by decide +kernel
theorem dX7_byteAt_12 : decode cX7_byteAt 12 = .ok (.aload_n 0, 1) := by decide +kernel
theorem dX7_byteAt_13 : decode cX7_byteAt 13 = .ok (.getfield 9, 3) := by decide +kernel
theorem dX7_byteAt_16 : decode cX7_byteAt 16 = .ok (.iload_n 1, 1) := by decide +kernel
theorem dX7_byteAt_17 : decode cX7_byteAt 17 = .ok (.baload, 1) := by decide +kernel
theorem dX7_byteAt_18 : decode cX7_byteAt 18 = .ok (.sipush 255, 3) := by decide +kernel
theorem dX7_byteAt_21 : decode cX7_byteAt 21 = .ok (.iand, 1) := by decide +kernel
theorem dX7_byteAt_22 : decode cX7_byteAt 22 = .ok (.goto 4, 3) := by decide +kernel
theorem dX7_byteAt_25 : decode cX7_byteAt 25 = .ok (.iconst 0, 1) := by decide +kernel
theorem dX7_byteAt_26 : decode cX7_byteAt 26 = .ok (.ireturn, 1) := by decide +kernel
theorem dX7_read_0 : decode cX7_read 0 = .ok (.aload_n 0, 1) := by decide +kernel
theorem dX7_read_1 : decode cX7_read 1 = .ok (.iload_n 1, 1) := by decide +kernel
theorem dX7_read_2 : decode cX7_read 2 = .ok (.putfield 29, 3) := by decide +kernel
theorem dX7_read_5 : decode cX7_read 5 = .ok (.aload_n 0, 1) := by decide +kernel
theorem dX7_read_6 : decode cX7_read 6 = .ok (.getfield 18, 3) := by decide +kernel
theorem dX7_read_9 : decode cX7_read 9 = .ok (.invokevirtual 33, 3) := by decide +kernel
theorem dX7_read_12 : decode cX7_read 12 = .ok (.aload_n 0, 1) := by decide +kernel
theorem dX7_read_13 : decode cX7_read 13 = .ok (.iconst 0, 1) := by decide +kernel
theorem dX7_read_14 : decode cX7_read 14 = .ok (.putfield 36, 3) := by decide +kernel
theorem dX7_read_17 : decode cX7_read 17 = .ok (.aload_n 0, 1) := by decide +kernel
theorem dX7_read_18 : decode cX7_read 18 = .ok (.iconst (-1), 1) := by decide +kernel
theorem dX7_read_19 : decode cX7_read 19 = .ok (.putfield 22, 3) := by decide +kernel
theorem dX7_read_22 : decode cX7_read 22 = .ok (.aload_n 0, 1) := by decide +kernel
theorem dX7_read_23 : decode cX7_read 23 = .ok (.iconst 0, 1) := by decide +kernel
theorem dX7_read_24 : decode cX7_read 24 = .ok (.putfield 39, 3) := by decide +kernel
theorem dX7_read_27 : decode cX7_read 27 = .ok (.aload_n 0, 1) := by decide +kernel
theorem dX7_read_28 : decode cX7_read 28 = .ok (.invokevirtual 42, 3) := by decide +kernel
theorem dX7_read_31 : decode cX7_read 31 = .ok (.iconst 1, 1) := by decide +kernel
theorem dX7_read_32 : decode cX7_read 32 = .ok (.istore_n 2, 1) := by decide +kernel
theorem dX7_read_33 : decode cX7_read 33 = .ok (.iconst 0, 1) := by decide +kernel
theorem dX7_read_34 : decode cX7_read 34 = .ok (.istore_n 3, 1) := by decide +kernel
theorem dX7_read_35 : decode cX7_read 35 = .ok (.iload_n 3, 1) := by decide +kernel
theorem dX7_read_36 : decode cX7_read 36 = .ok (.bipush 12, 2) := by decide +kernel
theorem dX7_read_38 : decode cX7_read 38 = .ok (.if_icmp .ge 48, 3) := by decide +kernel
theorem dX7_read_41 : decode cX7_read 41 = .ok (.iload_n 2, 1) := by decide +kernel
theorem dX7_read_42 : decode cX7_read 42 = .ok (.ifCond .eq 44, 3) := by decide +kernel
theorem dX7_read_45 : decode cX7_read 45 = .ok (.aload_n 0, 1) := by decide +kernel
theorem dX7_read_46 : decode cX7_read 46 = .ok (.invokevirtual 45, 3) := by decide +kernel
theorem dX7_read_49 : decode cX7_read 49 = .ok (.aload_n 0, 1) := by decide +kernel
theorem dX7_read_50 : decode cX7_read 50 = .ok (.getfield 22, 3) := by decide +kernel
theorem dX7_read_53 : decode cX7_read 53 = .ok (.iconst (-1), 1) := by decide +kernel
theorem dX7_read_54 : decode cX7_read 54 = .ok (.if_icmp .ne 16, 3) := by decide +kernel
theorem dX7_read_57 : decode cX7_read 57 = .ok (.aload_n 0, 1) := by decide +kernel
theorem dX7_read_58 : decode cX7_read 58 = .ok (.getfield 48, 3) := by decide +kernel
theorem dX7_read_61 : decode cX7_read 61 = .ok (.bipush 59, 2) := by decide +kernel
theorem dX7_read_63 : decode cX7_read 63 = .ok (.if_icmp .ne 7, 3) := by decide +kernel
theorem dX7_read_66 : decode cX7_read 66 = .ok (.iconst 1, 1) := by decide +kernel
theorem dX7_read_67 : decode cX7_read 67 = .ok (.goto 4, 3) := by decide +kernel
theorem dX7_read_70 : decode cX7_read 70 = .ok (.iconst 0, 1) := by decide +kernel
theorem dX7_read_71 : decode cX7_read 71 = .ok (.istore_n 2, 1) := by decide +kernel
theorem dX7_read_72 : decode cX7_read 72 = .ok (.iload_n 2, 1) := by decide +kernel
theorem dX7_read_73 : decode cX7_read 73 = .ok (.ifCond .eq 7, 3) := by decide +kernel
theorem dX7_read_76 : decode cX7_read 76 = .ok (.aload_n 0, 1) := by decide +kernel
theorem dX7_read_77 : decode cX7_read 77 = .ok (.invokevirtual 42, 3) := by decide +kernel
theorem dX7_read_80 : decode cX7_read 80 = .ok (.iinc 3 1, 3) := by decide +kernel
theorem dX7_read_83 : decode cX7_read 83 = .ok (.goto (-48), 3) := by decide +kernel
theorem dX7_read_86 : decode cX7_read 86 = .ok (.iload_n 2, 1) := by decide +kernel
theorem dX7_read_87 : decode cX7_read 87 = .ok (.ifCond .ne 11, 3) := by decide +kernel
theorem dX7_read_90 : decode cX7_read 90 = .ok (.aload_n 0, 1) := by decide +kernel
theorem dX7_read_91 : decode cX7_read 91 = .ok (.getfield 48, 3) := by decide +kernel
theorem dX7_read_94 : decode cX7_read 94 = .ok (.iconst (-1), 1) := by decide +kernel
theorem dX7_read_95 : decode cX7_read 95 = .ok (.if_icmp .eq 7, 3) := by decide +kernel
theorem dX7_read_98 : decode cX7_read 98 = .ok (.aload_n 0, 1) := by decide +kernel
theorem dX7_read_99 : decode cX7_read 99 = .ok (.invokevirtual 51, 3) := by decide +kernel
theorem dX7_read_102 : decode cX7_read 102 = .ok (.aload_n 0, 1) := by decide +kernel
theorem dX7_read_103 : decode cX7_read 103 = .ok (.iconst 0, 1) := by decide +kernel
theorem dX7_read_104 : decode cX7_read 104 = .ok (.putfield 26, 3) := by decide +kernel
theorem dX7_read_107 : decode cX7_read 107 = .ok (.aload_n 0, 1) := by decide +kernel
theorem dX7_read_108 : decode cX7_read 108 = .ok (.getfield 22, 3) := by decide +kernel
theorem dX7_read_111 : decode cX7_read 111 = .ok (.iconst (-1), 1) := by decide +kernel
theorem dX7_read_112 : decode cX7_read 112 = .ok (.if_icmp .ne 7, 3) := by decide +kernel
theorem dX7_read_115 : decode cX7_read 115 = .ok (.iconst 1, 1) := by decide +kernel
theorem dX7_read_116 : decode cX7_read 116 = .ok (.goto 4, 3) := by decide +kernel
theorem dX7_read_119 : decode cX7_read 119 = .ok (.iconst 0, 1) := by decide +kernel
theorem dX7_read_120 : decode cX7_read 120 = .ok (.ireturn, 1) := by decide +kernel
theorem dX7_wrong_0 : decode cX7_wrong 0 = .ok (.aload_n 0, 1) := by decide +kernel
theorem dX7_wrong_1 : decode cX7_wrong 1 = .ok (.getfield 22, 3) := by decide +kernel
theorem dX7_wrong_4 : decode cX7_wrong 4 = .ok (.iconst (-1), 1) := by decide +kernel
theorem dX7_wrong_5 : decode cX7_wrong 5 = .ok (.if_icmp .ne 11, 3) := by decide +kernel
theorem dX7_wrong_8 : decode cX7_wrong 8 = .ok (.aload_n 0, 1) := by decide +kernel
theorem dX7_wrong_9 : decode cX7_wrong 9 = .ok (.aload_n 0, 1) := by decide +kernel
theorem dX7_wrong_10 : decode cX7_wrong 10 = .ok (.getfield 54, 3) := by decide +kernel
theorem dX7_wrong_13 : decode cX7_wrong 13 = .ok (.putfield 22, 3) := by decide +kernel
theorem dX7_wrong_16 : decode cX7_wrong 16 = .ok (.return_, 1) := by decide +kernel
theorem dX7_clause_0 : decode cX7_clause 0 = .ok (.aload_n 0, 1) := by decide +kernel
theorem dX7_clause_1 : decode cX7_clause 1 = .ok (.aload_n 0, 1) := by decide +kernel
theorem dX7_clause_2 : decode cX7_clause 2 = .ok (.getfield 29, 3) := by decide +kernel
theorem dX7_clause_5 : decode cX7_clause 5 = .ok (.ifCond .eq 8, 3) := by decide +kernel
theorem dX7_clause_8 : decode cX7_clause 8 = .ok (.ldc 57, 2) := by decide +kernel
theorem dX7_clause_10 : decode cX7_clause 10 = .ok (.goto 5, 3) := by decide +kernel
theorem dX7_clause_13 : decode cX7_clause 13 = .ok (.ldc 59, 2) := by decide +kernel
theorem dX7_clause_15 : decode cX7_clause 15 = .ok (.invokevirtual 61, 3) := by decide +kernel
theorem dX7_clause_18 : decode cX7_clause 18 = .ok (.istore_n 1, 1) := by decide +kernel
theorem dX7_clause_19 : decode cX7_clause 19 = .ok (.iload_n 1, 1) := by decide +kernel
theorem dX7_clause_20 : decode cX7_clause 20 = .ok (.iconst (-1), 1) := by decide +kernel
theorem dX7_clause_21 : decode cX7_clause 21 = .ok (.if_icmp .ne 8, 3) := by decide +kernel
theorem dX7_clause_24 : decode cX7_clause 24 = .ok (.aload_n 0, 1) := by decide +kernel
theorem dX7_clause_25 : decode cX7_clause 25 = .ok (.invokevirtual 51, 3) := by decide +kernel
theorem dX7_clause_28 : decode cX7_clause 28 = .ok (.return_, 1) := by decide +kernel
theorem dX7_clause_29 : decode cX7_clause 29 = .ok (.aload_n 0, 1) := by decide +kernel
theorem dX7_clause_30 : decode cX7_clause 30 = .ok (.getfield 18, 3) := by decide +kernel
theorem dX7_clause_33 : decode cX7_clause 33 = .ok (.iload_n 1, 1) := by decide +kernel
theorem dX7_clause_34 : decode cX7_clause 34 = .ok (.invokevirtual 65, 3) := by decide +kernel
theorem dX7_clause_37 : decode cX7_clause 37 = .ok (.aload_n 0, 1) := by decide +kernel
theorem dX7_clause_38 : decode cX7_clause 38 = .ok (.invokevirtual 42, 3) := by decide +kernel
theorem dX7_clause_41 : decode cX7_clause 41 = .ok (.aload_n 0, 1) := by decide +kernel
theorem dX7_clause_42 : decode cX7_clause 42 = .ok (.getfield 29, 3) := by decide +kernel
theorem dX7_clause_45 : decode cX7_clause 45 = .ok (.ifCond .eq 11, 3) := by decide +kernel
theorem dX7_clause_48 : decode cX7_clause 48 = .ok (.iload_n 1, 1) := by decide +kernel
theorem dX7_clause_49 : decode cX7_clause 49 = .ok (.iconst 3, 1) := by decide +kernel
theorem dX7_clause_50 : decode cX7_clause 50 = .ok (.if_icmp .eq 16, 3) := by decide +kernel
theorem dX7_clause_53 : decode cX7_clause 53 = .ok (.goto 8, 3) := by decide +kernel
theorem dX7_clause_56 : decode cX7_clause 56 = .ok (.iload_n 1, 1) := by decide +kernel
theorem dX7_clause_57 : decode cX7_clause 57 = .ok (.iconst 1, 1) := by decide +kernel
theorem dX7_clause_58 : decode cX7_clause 58 = .ok (.if_icmp .gt 8, 3) := by decide +kernel
theorem dX7_clause_61 : decode cX7_clause 61 = .ok (.aload_n 0, 1) := by decide +kernel
theorem dX7_clause_62 : decode cX7_clause 62 = .ok (.iconst 3, 1) := by decide +kernel
theorem dX7_clause_63 : decode cX7_clause 63 = .ok (.invokevirtual 69, 3) := by decide +kernel
theorem dX7_clause_66 : decode cX7_clause 66 = .ok (.aload_n 0, 1) := by decide +kernel
theorem dX7_clause_67 : decode cX7_clause 67 = .ok (.getfield 29, 3) := by decide +kernel
theorem dX7_clause_70 : decode cX7_clause 70 = .ok (.ifCond .eq 38, 3) := by decide +kernel
theorem dX7_clause_73 : decode cX7_clause 73 = .ok (.iload_n 1, 1) := by decide +kernel
theorem dX7_clause_74 : decode cX7_clause 74 = .ok (.iconst 1, 1) := by decide +kernel
theorem dX7_clause_75 : decode cX7_clause 75 = .ok (.if_icmp .gt 33, 3) := by decide +kernel
theorem dX7_clause_78 : decode cX7_clause 78 = .ok (.aload_n 0, 1) := by decide +kernel
theorem dX7_clause_79 : decode cX7_clause 79 = .ok (.iload_n 1, 1) := by decide +kernel
theorem dX7_clause_80 : decode cX7_clause 80 = .ok (.ifCond .ne 8, 3) := by decide +kernel
theorem dX7_clause_83 : decode cX7_clause 83 = .ok (.ldc 72, 2) := by decide +kernel
theorem dX7_clause_85 : decode cX7_clause 85 = .ok (.goto 5, 3) := by decide +kernel
theorem dX7_clause_88 : decode cX7_clause 88 = .ok (.ldc 74, 2) := by decide +kernel
theorem dX7_clause_90 : decode cX7_clause 90 = .ok (.invokevirtual 76, 3) := by decide +kernel
theorem dX7_clause_93 : decode cX7_clause 93 = .ok (.ifCond .eq 11, 3) := by decide +kernel
theorem dX7_clause_96 : decode cX7_clause 96 = .ok (.aload_n 0, 1) := by decide +kernel
theorem dX7_clause_97 : decode cX7_clause 97 = .ok (.iconst 4, 1) := by decide +kernel
theorem dX7_clause_98 : decode cX7_clause 98 = .ok (.invokevirtual 69, 3) := by decide +kernel
theorem dX7_clause_101 : decode cX7_clause 101 = .ok (.goto 7, 3) := by decide +kernel
theorem dX7_clause_104 : decode cX7_clause 104 = .ok (.aload_n 0, 1) := by decide +kernel
theorem dX7_clause_105 : decode cX7_clause 105 = .ok (.invokevirtual 51, 3) := by decide +kernel
theorem dX7_clause_108 : decode cX7_clause 108 = .ok (.aload_n 0, 1) := by decide +kernel
theorem dX7_clause_109 : decode cX7_clause 109 = .ok (.getfield 29, 3) := by decide +kernel
theorem dX7_clause_112 : decode cX7_clause 112 = .ok (.ifCond .eq 16, 3) := by decide +kernel
theorem dX7_clause_115 : decode cX7_clause 115 = .ok (.aload_n 0, 1) := by decide +kernel
theorem dX7_clause_116 : decode cX7_clause 116 = .ok (.ldc 80, 2) := by decide +kernel
theorem dX7_clause_118 : decode cX7_clause 118 = .ok (.invokevirtual 76, 3) := by decide +kernel
theorem dX7_clause_121 : decode cX7_clause 121 = .ok (.ifCond .eq 7, 3) := by decide +kernel
theorem dX7_clause_124 : decode cX7_clause 124 = .ok (.aload_n 0, 1) := by decide +kernel
theorem dX7_clause_125 : decode cX7_clause 125 = .ok (.invokevirtual 82, 3) := by decide +kernel
theorem dX7_clause_128 : decode cX7_clause 128 = .ok (.aload_n 0, 1) := by decide +kernel
theorem dX7_clause_129 : decode cX7_clause 129 = .ok (.ldc 84, 2) := by decide +kernel
theorem dX7_clause_131 : decode cX7_clause 131 = .ok (.invokevirtual 76, 3) := by decide +kernel
theorem dX7_clause_134 : decode cX7_clause 134 = .ok (.ifCond .eq 33, 3) := by decide +kernel
theorem dX7_clause_137 : decode cX7_clause 137 = .ok (.aload_n 0, 1) := by decide +kernel
theorem dX7_clause_138 : decode cX7_clause 138 = .ok (.getfield 18, 3) := by decide +kernel
theorem dX7_clause_141 : decode cX7_clause 141 = .ok (.iconst 2, 1) := by decide +kernel
theorem dX7_clause_142 : decode cX7_clause 142 = .ok (.aload_n 0, 1) := by decide +kernel
theorem dX7_clause_143 : decode cX7_clause 143 = .ok (.getfield 18, 3) := by decide +kernel
theorem dX7_clause_146 : decode cX7_clause 146 = .ok (.getfield 86, 3) := by decide +kernel
theorem dX7_clause_149 : decode cX7_clause 149 = .ok (.invokevirtual 89, 3) := by decide +kernel
theorem dX7_clause_152 : decode cX7_clause 152 = .ok (.aload_n 0, 1) := by decide +kernel
theorem dX7_clause_153 : decode cX7_clause 153 = .ok (.iconst 0, 1) := by decide +kernel
theorem dX7_clause_154 : decode cX7_clause 154 = .ok (.invokevirtual 93, 3) := by decide +kernel
theorem dX7_clause_157 : decode cX7_clause 157 = .ok (.aload_n 0, 1) := by decide +kernel
theorem dX7_clause_158 : decode cX7_clause 158 = .ok (.getfield 18, 3) := by decide +kernel
theorem dX7_clause_161 : decode cX7_clause 161 = .ok (.iconst 0, 1) := by decide +kernel
theorem dX7_clause_162 : decode cX7_clause 162 = .ok (.iconst 0, 1) := by decide +kernel
theorem dX7_clause_163 : decode cX7_clause 163 = .ok (.invokevirtual 98, 3) := by decide +kernel
theorem dX7_clause_166 : decode cX7_clause 166 = .ok (.pop, 1) := by decide +kernel
theorem dX7_clause_167 : decode cX7_clause 167 = .ok (.return_, 1) := by decide +kernel
theorem dX7_times_0 : decode cX7_times 0 = .ok (.aload_n 0, 1) := by decide +kernel
theorem dX7_times_1 : decode cX7_times 1 = .ok (.getfield 48, 3) := by decide +kernel
theorem dX7_times_4 : decode cX7_times 4 = .ok (.bipush (-3), 2) := by decide +kernel
theorem dX7_times_6 : decode cX7_times 6 = .ok (.if_icmp .ne 39, 3) := by decide +kernel
theorem dX7_times_9 : decode cX7_times 9 = .ok (.aload_n 0, 1) := by decide +kernel
theorem dX7_times_10 : decode cX7_times 10 = .ok (.getfield 102, 3) := by decide +kernel
theorem dX7_times_13 : decode cX7_times 13 = .ok (.iconst 1, 1) := by decide +kernel
theorem dX7_times_14 : decode cX7_times 14 = .ok (.if_icmp .lt 31, 3) := by decide +kernel
theorem dX7_times_17 : decode cX7_times 17 = .ok (.aload_n 0, 1) := by decide +kernel
theorem dX7_times_18 : decode cX7_times 18 = .ok (.getfield 102, 3) := by decide +kernel
theorem dX7_times_21 : decode cX7_times 21 = .ok (.bipush 20, 2) := by decide +kernel
theorem dX7_times_23 : decode cX7_times 23 = .ok (.if_icmp .gt 22, 3) := by decide +kernel
theorem dX7_times_26 : decode cX7_times 26 = .ok (.aload_n 0, 1) := by decide +kernel
theorem dX7_times_27 : decode cX7_times 27 = .ok (.getfield 18, 3) := by decide +kernel
theorem dX7_times_30 : decode cX7_times 30 = .ok (.iconst 1, 1) := by decide +kernel
theorem dX7_times_31 : decode cX7_times 31 = .ok (.aload_n 0, 1) := by decide +kernel
theorem dX7_times_32 : decode cX7_times 32 = .ok (.getfield 102, 3) := by decide +kernel
theorem dX7_times_35 : decode cX7_times 35 = .ok (.invokevirtual 89, 3) := by decide +kernel
theorem dX7_times_38 : decode cX7_times 38 = .ok (.aload_n 0, 1) := by decide +kernel
theorem dX7_times_39 : decode cX7_times 39 = .ok (.invokevirtual 42, 3) := by decide +kernel
theorem dX7_times_42 : decode cX7_times 42 = .ok (.goto 7, 3) := by decide +kernel
theorem dX7_times_45 : decode cX7_times 45 = .ok (.aload_n 0, 1) := by decide +kernel
theorem dX7_times_46 : decode cX7_times 46 = .ok (.invokevirtual 51, 3) := by decide +kernel
theorem dX7_times_49 : decode cX7_times 49 = .ok (.return_, 1) := by decide +kernel
theorem dX7_markedSum_0 : decode cX7_markedSum 0 = .ok (.aload_n 0, 1) := by decide +kernel
theorem dX7_markedSum_1 : decode cX7_markedSum 1 = .ok (.getfield 18, 3) := by decide +kernel
theorem dX7_markedSum_4 : decode cX7_markedSum 4 = .ok (.iload_n 1, 1) := by decide +kernel
theorem dX7_markedSum_5 : decode cX7_markedSum 5 = .ok (.aload_n 0, 1) := by decide +kernel
theorem dX7_markedSum_6 : decode cX7_markedSum 6 = .ok (.getfield 18, 3) := by decide +kernel
theorem dX7_markedSum_9 : decode cX7_markedSum 9 = .ok (.getfield 86, 3) := by decide +kernel
theorem dX7_markedSum_12 : decode cX7_markedSum 12 = .ok (.invokevirtual 89, 3) := by decide +kernel
theorem dX7_markedSum_15 : decode cX7_markedSum 15 = .ok (.aload_n 0, 1) := by decide +kernel
theorem dX7_markedSum_16 : decode cX7_markedSum 16 = .ok (.iconst 0, 1) := by decide +kernel
theorem dX7_markedSum_17 : decode cX7_markedSum 17 = .ok (.invokevirtual 105, 3) := by decide +kernel
theorem dX7_markedSum_20 : decode cX7_markedSum 20 = .ok (.aload_n 0, 1) := by decide +kernel
theorem dX7_markedSum_21 : decode cX7_markedSum 21 = .ok (.getfield 18, 3) := by decide +kernel
theorem dX7_markedSum_24 : decode cX7_markedSum 24 = .ok (.iconst 0, 1) := by decide +kernel
theorem dX7_markedSum_25 : decode cX7_markedSum 25 = .ok (.iconst 0, 1) := by decide +kernel
theorem dX7_markedSum_26 : decode cX7_markedSum 26 = .ok (.invokevirtual 98, 3) := by decide +kernel
theorem dX7_markedSum_29 : decode cX7_markedSum 29 = .ok (.pop, 1) := by decide +kernel
theorem dX7_markedSum_30 : decode cX7_markedSum 30 = .ok (.return_, 1) := by decide +kernel
theorem dX7_anyOf_0 : decode cX7_anyOf 0 = .ok (.aload_n 0, 1) := by decide +kernel
theorem dX7_anyOf_1 : decode cX7_anyOf 1 = .ok (.iload_n 1, 1) := by decide +kernel
theorem dX7_anyOf_2 : decode cX7_anyOf 2 = .ok (.invokevirtual 108, 3) := by decide +kernel
theorem dX7_anyOf_5 : decode cX7_anyOf 5 = .ok (.iconst 0, 1) := by decide +kernel
theorem dX7_anyOf_6 : decode cX7_anyOf 6 = .ok (.istore_n 2, 1) := by decide +kernel
theorem dX7_anyOf_7 : decode cX7_anyOf 7 = .ok (.iload_n 2, 1) := by decide +kernel
theorem dX7_anyOf_8 : decode cX7_anyOf 8 = .ok (.sipush 400, 3) := by decide +kernel
theorem dX7_anyOf_11 : decode cX7_anyOf 11 = .ok (.if_icmp .ge 41, 3) := by decide +kernel
theorem dX7_anyOf_14 : decode cX7_anyOf 14 = .ok (.aload_n 0, 1) := by decide +kernel
theorem dX7_anyOf_15 : decode cX7_anyOf 15 = .ok (.ldc 111, 2) := by decide +kernel
theorem dX7_anyOf_17 : decode cX7_anyOf 17 = .ok (.invokevirtual 76, 3) := by decide +kernel
theorem dX7_anyOf_20 : decode cX7_anyOf 20 = .ok (.ifCond .eq 32, 3) := by decide +kernel
theorem dX7_anyOf_23 : decode cX7_anyOf 23 = .ok (.aload_n 0, 1) := by decide +kernel
theorem dX7_anyOf_24 : decode cX7_anyOf 24 = .ok (.getfield 18, 3) := by decide +kernel
theorem dX7_anyOf_27 : decode cX7_anyOf 27 = .ok (.iconst 4, 1) := by decide +kernel
theorem dX7_anyOf_28 : decode cX7_anyOf 28 = .ok (.iconst 0, 1) := by decide +kernel
theorem dX7_anyOf_29 : decode cX7_anyOf 29 = .ok (.invokevirtual 98, 3) := by decide +kernel
theorem dX7_anyOf_32 : decode cX7_anyOf 32 = .ok (.istore_n 3, 1) := by decide +kernel
theorem dX7_anyOf_33 : decode cX7_anyOf 33 = .ok (.aload_n 0, 1) := by decide +kernel
theorem dX7_anyOf_34 : decode cX7_anyOf 34 = .ok (.iload_n 1, 1) := by decide +kernel
theorem dX7_anyOf_35 : decode cX7_anyOf 35 = .ok (.invokevirtual 108, 3) := by decide +kernel
theorem dX7_anyOf_38 : decode cX7_anyOf 38 = .ok (.aload_n 0, 1) := by decide +kernel
theorem dX7_anyOf_39 : decode cX7_anyOf 39 = .ok (.getfield 18, 3) := by decide +kernel
theorem dX7_anyOf_42 : decode cX7_anyOf 42 = .ok (.iload_n 3, 1) := by decide +kernel
theorem dX7_anyOf_43 : decode cX7_anyOf 43 = .ok (.invokevirtual 113, 3) := by decide +kernel
theorem dX7_anyOf_46 : decode cX7_anyOf 46 = .ok (.iinc 2 1, 3) := by decide +kernel
theorem dX7_anyOf_49 : decode cX7_anyOf 49 = .ok (.goto (-42), 3) := by decide +kernel
theorem dX7_anyOf_52 : decode cX7_anyOf 52 = .ok (.return_, 1) := by decide +kernel
theorem dX7_allOf_0 : decode cX7_allOf 0 = .ok (.aload_n 0, 1) := by decide +kernel
theorem dX7_allOf_1 : decode cX7_allOf 1 = .ok (.iload_n 1, 1) := by decide +kernel
theorem dX7_allOf_2 : decode cX7_allOf 2 = .ok (.invokevirtual 116, 3) := by decide +kernel
theorem dX7_allOf_5 : decode cX7_allOf 5 = .ok (.iconst 0, 1) := by decide +kernel
theorem dX7_allOf_6 : decode cX7_allOf 6 = .ok (.istore_n 2, 1) := by decide +kernel
theorem dX7_allOf_7 : decode cX7_allOf 7 = .ok (.iload_n 2, 1) := by decide +kernel
theorem dX7_allOf_8 : decode cX7_allOf 8 = .ok (.sipush 400, 3) := by decide +kernel
theorem dX7_allOf_11 : decode cX7_allOf 11 = .ok (.if_icmp .ge 41, 3) := by decide +kernel
theorem dX7_allOf_14 : decode cX7_allOf 14 = .ok (.aload_n 0, 1) := by decide +kernel
theorem dX7_allOf_15 : decode cX7_allOf 15 = .ok (.ldc 119, 2) := by decide +kernel
theorem dX7_allOf_17 : decode cX7_allOf 17 = .ok (.invokevirtual 76, 3) := by decide +kernel
theorem dX7_allOf_20 : decode cX7_allOf 20 = .ok (.ifCond .eq 32, 3) := by decide +kernel
theorem dX7_allOf_23 : decode cX7_allOf 23 = .ok (.aload_n 0, 1) := by decide +kernel
theorem dX7_allOf_24 : decode cX7_allOf 24 = .ok (.getfield 18, 3) := by decide +kernel
theorem dX7_allOf_27 : decode cX7_allOf 27 = .ok (.iconst 3, 1) := by decide +kernel
theorem dX7_allOf_28 : decode cX7_allOf 28 = .ok (.iconst 0, 1) := by decide +kernel
theorem dX7_allOf_29 : decode cX7_allOf 29 = .ok (.invokevirtual 98, 3) := by decide +kernel
theorem dX7_allOf_32 : decode cX7_allOf 32 = .ok (.istore_n 3, 1) := by decide +kernel
theorem dX7_allOf_33 : decode cX7_allOf 33 = .ok (.aload_n 0, 1) := by decide +kernel
theorem dX7_allOf_34 : decode cX7_allOf 34 = .ok (.iload_n 1, 1) := by decide +kernel
theorem dX7_allOf_35 : decode cX7_allOf 35 = .ok (.invokevirtual 116, 3) := by decide +kernel
theorem dX7_allOf_38 : decode cX7_allOf 38 = .ok (.aload_n 0, 1) := by decide +kernel
theorem dX7_allOf_39 : decode cX7_allOf 39 = .ok (.getfield 18, 3) := by decide +kernel
theorem dX7_allOf_42 : decode cX7_allOf 42 = .ok (.iload_n 3, 1) := by decide +kernel
theorem dX7_allOf_43 : decode cX7_allOf 43 = .ok (.invokevirtual 113, 3) := by decide +kernel
theorem dX7_allOf_46 : decode cX7_allOf 46 = .ok (.iinc 2 1, 3) := by decide +kernel
theorem dX7_allOf_49 : decode cX7_allOf 49 = .ok (.goto (-42), 3) := by decide +kernel
theorem dX7_allOf_52 : decode cX7_allOf 52 = .ok (.return_, 1) := by decide +kernel
theorem dX7_plain_0 : decode cX7_plain 0 = .ok (.iconst 0, 1) := by decide +kernel
theorem dX7_plain_1 : decode cX7_plain 1 = .ok (.istore_n 2, 1) := by decide +kernel
theorem dX7_plain_2 : decode cX7_plain 2 = .ok (.iconst 0, 1) := by decide +kernel
theorem dX7_plain_3 : decode cX7_plain 3 = .ok (.istore_n 3, 1) := by decide +kernel
theorem dX7_plain_4 : decode cX7_plain 4 = .ok (.iload_n 3, 1) := by decide +kernel
theorem dX7_plain_5 : decode cX7_plain 5 = .ok (.sipush 400, 3) := by decide +kernel
theorem dX7_plain_8 : decode cX7_plain 8 = .ok (.if_icmp .ge 28, 3) := by decide +kernel
theorem dX7_plain_11 : decode cX7_plain 11 = .ok (.aload_n 0, 1) := by decide +kernel
theorem dX7_plain_12 : decode cX7_plain 12 = .ok (.ldc 121, 2) := by decide +kernel
theorem dX7_plain_14 : decode cX7_plain 14 = .ok (.invokevirtual 76, 3) := by decide +kernel
theorem dX7_plain_17 : decode cX7_plain 17 = .ok (.ifCond .eq 19, 3) := by decide +kernel
theorem dX7_plain_20 : decode cX7_plain 20 = .ok (.iload_n 2, 1) := by decide +kernel
theorem dX7_plain_21 : decode cX7_plain 21 = .ok (.ifCond .ne 7, 3) := by decide +kernel
theorem dX7_plain_24 : decode cX7_plain 24 = .ok (.iconst 1, 1) := by decide +kernel
theorem dX7_plain_25 : decode cX7_plain 25 = .ok (.goto 4, 3) := by decide +kernel
theorem dX7_plain_28 : decode cX7_plain 28 = .ok (.iconst 0, 1) := by decide +kernel
theorem dX7_plain_29 : decode cX7_plain 29 = .ok (.istore_n 2, 1) := by decide +kernel
theorem dX7_plain_30 : decode cX7_plain 30 = .ok (.iinc 3 1, 3) := by decide +kernel
theorem dX7_plain_33 : decode cX7_plain 33 = .ok (.goto (-29), 3) := by decide +kernel
theorem dX7_plain_36 : decode cX7_plain 36 = .ok (.aload_n 0, 1) := by decide +kernel
theorem dX7_plain_37 : decode cX7_plain 37 = .ok (.getfield 48, 3) := by decide +kernel
theorem dX7_plain_40 : decode cX7_plain 40 = .ok (.bipush 40, 2) := by decide +kernel
theorem dX7_plain_42 : decode cX7_plain 42 = .ok (.if_icmp .ne 27, 3) := by decide +kernel
theorem dX7_plain_45 : decode cX7_plain 45 = .ok (.aload_n 0, 1) := by decide +kernel
theorem dX7_plain_46 : decode cX7_plain 46 = .ok (.iload_n 1, 1) := by decide +kernel
theorem dX7_plain_47 : decode cX7_plain 47 = .ok (.invokevirtual 123, 3) := by decide +kernel
theorem dX7_plain_50 : decode cX7_plain 50 = .ok (.ifCond .eq 24, 3) := by decide +kernel
theorem dX7_plain_53 : decode cX7_plain 53 = .ok (.aload_n 0, 1) := by decide +kernel
theorem dX7_plain_54 : decode cX7_plain 54 = .ok (.iload_n 1, 1) := by decide +kernel
theorem dX7_plain_55 : decode cX7_plain 55 = .ok (.iconst 1, 1) := by decide +kernel
theorem dX7_plain_56 : decode cX7_plain 56 = .ok (.iadd, 1) := by decide +kernel
theorem dX7_plain_57 : decode cX7_plain 57 = .ok (.invokevirtual 93, 3) := by decide +kernel
theorem dX7_plain_60 : decode cX7_plain 60 = .ok (.aload_n 0, 1) := by decide +kernel
theorem dX7_plain_61 : decode cX7_plain 61 = .ok (.bipush 41, 2) := by decide +kernel
theorem dX7_plain_63 : decode cX7_plain 63 = .ok (.invokevirtual 127, 3) := by decide +kernel
theorem dX7_plain_66 : decode cX7_plain 66 = .ok (.goto 8, 3) := by decide +kernel
theorem dX7_plain_69 : decode cX7_plain 69 = .ok (.aload_n 0, 1) := by decide +kernel
theorem dX7_plain_70 : decode cX7_plain 70 = .ok (.iload_n 1, 1) := by decide +kernel
theorem dX7_plain_71 : decode cX7_plain 71 = .ok (.invokevirtual 130, 3) := by decide +kernel
theorem dX7_plain_74 : decode cX7_plain 74 = .ok (.iload_n 2, 1) := by decide +kernel
theorem dX7_plain_75 : decode cX7_plain 75 = .ok (.ifCond .eq 13, 3) := by decide +kernel
theorem dX7_plain_78 : decode cX7_plain 78 = .ok (.aload_n 0, 1) := by decide +kernel
theorem dX7_plain_79 : decode cX7_plain 79 = .ok (.getfield 18, 3) := by decide +kernel
theorem dX7_plain_82 : decode cX7_plain 82 = .ok (.iconst 5, 1) := by decide +kernel
theorem dX7_plain_83 : decode cX7_plain 83 = .ok (.iconst 0, 1) := by decide +kernel
theorem dX7_plain_84 : decode cX7_plain 84 = .ok (.invokevirtual 98, 3) := by decide +kernel
theorem dX7_plain_87 : decode cX7_plain 87 = .ok (.pop, 1) := by decide +kernel
theorem dX7_plain_88 : decode cX7_plain 88 = .ok (.return_, 1) := by decide +kernel
theorem dX7_comparison_0 : decode cX7_comparison 0 = .ok (.aload_n 0, 1) := by decide +kernel
theorem dX7_comparison_1 : decode cX7_comparison 1 = .ok (.iload_n 1, 1) := by decide +kernel
theorem dX7_comparison_2 : decode cX7_comparison 2 = .ok (.invokevirtual 105, 3) := by decide +kernel
theorem dX7_comparison_5 : decode cX7_comparison 5 = .ok (.aload_n 0, 1) := by decide +kernel
theorem dX7_comparison_6 : decode cX7_comparison 6 = .ok (.getfield 22, 3) := by decide +kernel
theorem dX7_comparison_9 : decode cX7_comparison 9 = .ok (.iconst (-1), 1) := by decide +kernel
theorem dX7_comparison_10 : decode cX7_comparison 10 = .ok (.if_icmp .eq 4, 3) := by decide +kernel
theorem dX7_comparison_13 : decode cX7_comparison 13 = .ok (.return_, 1) := by decide +kernel
theorem dX7_comparison_14 : decode cX7_comparison 14 = .ok (.iconst (-1), 1) := by decide +kernel
theorem dX7_comparison_15 : decode cX7_comparison 15 = .ok (.istore_n 2, 1) := by decide +kernel
theorem dX7_comparison_16 : decode cX7_comparison 16 = .ok (.aload_n 0, 1) := by decide +kernel
theorem dX7_comparison_17 : decode cX7_comparison 17 = .ok (.getfield 48, 3) := by decide +kernel
theorem dX7_comparison_20 : decode cX7_comparison 20 = .ok (.bipush 60, 2) := by decide +kernel
theorem dX7_comparison_22 : decode cX7_comparison 22 = .ok (.if_icmp .ne 9, 3) := by decide +kernel
theorem dX7_comparison_25 : decode cX7_comparison 25 = .ok (.bipush 6, 2) := by decide +kernel
theorem dX7_comparison_27 : decode cX7_comparison 27 = .ok (.istore_n 2, 1) := by decide +kernel
theorem dX7_comparison_28 : decode cX7_comparison 28 = .ok (.goto 30, 3) := by decide +kernel
theorem dX7_comparison_31 : decode cX7_comparison 31 = .ok (.aload_n 0, 1) := by decide +kernel
theorem dX7_comparison_32 : decode cX7_comparison 32 = .ok (.getfield 48, 3) := by decide +kernel
theorem dX7_comparison_35 : decode cX7_comparison 35 = .ok (.bipush 62, 2) := by decide +kernel
theorem dX7_comparison_37 : decode cX7_comparison 37 = .ok (.if_icmp .ne 9, 3) := by decide +kernel
theorem dX7_comparison_40 : decode cX7_comparison 40 = .ok (.bipush 7, 2) := by decide +kernel
theorem dX7_comparison_42 : decode cX7_comparison 42 = .ok (.istore_n 2, 1) := by decide +kernel
theorem dX7_comparison_43 : decode cX7_comparison 43 = .ok (.goto 15, 3) := by decide +kernel
theorem dX7_comparison_46 : decode cX7_comparison 46 = .ok (.aload_n 0, 1) := by decide +kernel
theorem dX7_comparison_47 : decode cX7_comparison 47 = .ok (.getfield 48, 3) := by decide +kernel
theorem dX7_comparison_50 : decode cX7_comparison 50 = .ok (.bipush 61, 2) := by decide +kernel
theorem dX7_comparison_52 : decode cX7_comparison 52 = .ok (.if_icmp .ne 6, 3) := by decide +kernel
theorem dX7_comparison_55 : decode cX7_comparison 55 = .ok (.bipush 8, 2) := by decide +kernel
theorem dX7_comparison_57 : decode cX7_comparison 57 = .ok (.istore_n 2, 1) := by decide +kernel
theorem dX7_comparison_58 : decode cX7_comparison 58 = .ok (.iload_n 2, 1) := by decide +kernel
theorem dX7_comparison_59 : decode cX7_comparison 59 = .ok (.iconst (-1), 1) := by decide +kernel
theorem dX7_comparison_60 : decode cX7_comparison 60 = .ok (.if_icmp .ne 8, 3) := by decide +kernel
theorem dX7_comparison_63 : decode cX7_comparison 63 = .ok (.aload_n 0, 1) := by decide +kernel
theorem dX7_comparison_64 : decode cX7_comparison 64 = .ok (.invokevirtual 51, 3) := by decide +kernel
theorem dX7_comparison_67 : decode cX7_comparison 67 = .ok (.return_, 1) := by decide +kernel
theorem dX7_comparison_68 : decode cX7_comparison 68 = .ok (.aload_n 0, 1) := by decide +kernel
theorem dX7_comparison_69 : decode cX7_comparison 69 = .ok (.invokevirtual 42, 3) := by decide +kernel
theorem dX7_comparison_72 : decode cX7_comparison 72 = .ok (.aload_n 0, 1) := by decide +kernel
theorem dX7_comparison_73 : decode cX7_comparison 73 = .ok (.iload_n 1, 1) := by decide +kernel
theorem dX7_comparison_74 : decode cX7_comparison 74 = .ok (.invokevirtual 105, 3) := by decide +kernel
theorem dX7_comparison_77 : decode cX7_comparison 77 = .ok (.aload_n 0, 1) := by decide +kernel
theorem dX7_comparison_78 : decode cX7_comparison 78 = .ok (.getfield 18, 3) := by decide +kernel
theorem dX7_comparison_81 : decode cX7_comparison 81 = .ok (.iload_n 2, 1) := by decide +kernel
theorem dX7_comparison_82 : decode cX7_comparison 82 = .ok (.iconst 0, 1) := by decide +kernel
theorem dX7_comparison_83 : decode cX7_comparison 83 = .ok (.invokevirtual 98, 3) := by decide +kernel
theorem dX7_comparison_86 : decode cX7_comparison 86 = .ok (.pop, 1) := by decide +kernel
theorem dX7_comparison_87 : decode cX7_comparison 87 = .ok (.return_, 1) := by decide +kernel
theorem dX7_sum_0 : decode cX7_sum 0 = .ok (.aload_n 0, 1) := by decide +kernel
theorem dX7_sum_1 : decode cX7_sum 1 = .ok (.iload_n 1, 1) := by decide +kernel
theorem dX7_sum_2 : decode cX7_sum 2 = .ok (.invokevirtual 133, 3) := by decide +kernel
theorem dX7_sum_5 : decode cX7_sum 5 = .ok (.iconst 0, 1) := by decide +kernel
theorem dX7_sum_6 : decode cX7_sum 6 = .ok (.istore_n 2, 1) := by decide +kernel
theorem dX7_sum_7 : decode cX7_sum 7 = .ok (.iload_n 2, 1) := by decide +kernel
theorem dX7_sum_8 : decode cX7_sum 8 = .ok (.sipush 400, 3) := by decide +kernel
theorem dX7_sum_11 : decode cX7_sum 11 = .ok (.if_icmp .ge 71, 3) := by decide +kernel
theorem dX7_sum_14 : decode cX7_sum 14 = .ok (.aload_n 0, 1) := by decide +kernel
theorem dX7_sum_15 : decode cX7_sum 15 = .ok (.getfield 22, 3) := by decide +kernel
theorem dX7_sum_18 : decode cX7_sum 18 = .ok (.iconst (-1), 1) := by decide +kernel
theorem dX7_sum_19 : decode cX7_sum 19 = .ok (.if_icmp .ne 63, 3) := by decide +kernel
theorem dX7_sum_22 : decode cX7_sum 22 = .ok (.aload_n 0, 1) := by decide +kernel
theorem dX7_sum_23 : decode cX7_sum 23 = .ok (.getfield 48, 3) := by decide +kernel
theorem dX7_sum_26 : decode cX7_sum 26 = .ok (.bipush 43, 2) := by decide +kernel
theorem dX7_sum_28 : decode cX7_sum 28 = .ok (.if_icmp .eq 12, 3) := by decide +kernel
theorem dX7_sum_31 : decode cX7_sum 31 = .ok (.aload_n 0, 1) := by decide +kernel
theorem dX7_sum_32 : decode cX7_sum 32 = .ok (.getfield 48, 3) := by decide +kernel
theorem dX7_sum_35 : decode cX7_sum 35 = .ok (.bipush 45, 2) := by decide +kernel
theorem dX7_sum_37 : decode cX7_sum 37 = .ok (.if_icmp .ne 45, 3) := by decide +kernel
theorem dX7_sum_40 : decode cX7_sum 40 = .ok (.aload_n 0, 1) := by decide +kernel
theorem dX7_sum_41 : decode cX7_sum 41 = .ok (.getfield 48, 3) := by decide +kernel
theorem dX7_sum_44 : decode cX7_sum 44 = .ok (.bipush 43, 2) := by decide +kernel
theorem dX7_sum_46 : decode cX7_sum 46 = .ok (.if_icmp .ne 8, 3) := by decide +kernel
theorem dX7_sum_49 : decode cX7_sum 49 = .ok (.bipush 9, 2) := by decide +kernel
theorem dX7_sum_51 : decode cX7_sum 51 = .ok (.goto 5, 3) := by decide +kernel
theorem dX7_sum_54 : decode cX7_sum 54 = .ok (.bipush 10, 2) := by decide +kernel
theorem dX7_sum_56 : decode cX7_sum 56 = .ok (.istore_n 3, 1) := by decide +kernel
theorem dX7_sum_57 : decode cX7_sum 57 = .ok (.aload_n 0, 1) := by decide +kernel
theorem dX7_sum_58 : decode cX7_sum 58 = .ok (.invokevirtual 42, 3) := by decide +kernel
theorem dX7_sum_61 : decode cX7_sum 61 = .ok (.aload_n 0, 1) := by decide +kernel
theorem dX7_sum_62 : decode cX7_sum 62 = .ok (.iload_n 1, 1) := by decide +kernel
theorem dX7_sum_63 : decode cX7_sum 63 = .ok (.invokevirtual 133, 3) := by decide +kernel
theorem dX7_sum_66 : decode cX7_sum 66 = .ok (.aload_n 0, 1) := by decide +kernel
theorem dX7_sum_67 : decode cX7_sum 67 = .ok (.getfield 18, 3) := by decide +kernel
theorem dX7_sum_70 : decode cX7_sum 70 = .ok (.iload_n 3, 1) := by decide +kernel
theorem dX7_sum_71 : decode cX7_sum 71 = .ok (.iconst 0, 1) := by decide +kernel
theorem dX7_sum_72 : decode cX7_sum 72 = .ok (.invokevirtual 98, 3) := by decide +kernel
theorem dX7_sum_75 : decode cX7_sum 75 = .ok (.pop, 1) := by decide +kernel
theorem dX7_sum_76 : decode cX7_sum 76 = .ok (.iinc 2 1, 3) := by decide +kernel
theorem dX7_sum_79 : decode cX7_sum 79 = .ok (.goto (-72), 3) := by decide +kernel
theorem dX7_sum_82 : decode cX7_sum 82 = .ok (.return_, 1) := by decide +kernel
theorem dX7_term_0 : decode cX7_term 0 = .ok (.aload_n 0, 1) := by decide +kernel
theorem dX7_term_1 : decode cX7_term 1 = .ok (.iload_n 1, 1) := by decide +kernel
theorem dX7_term_2 : decode cX7_term 2 = .ok (.invokevirtual 136, 3) := by decide +kernel
theorem dX7_term_5 : decode cX7_term 5 = .ok (.iconst 0, 1) := by decide +kernel
theorem dX7_term_6 : decode cX7_term 6 = .ok (.istore_n 2, 1) := by decide +kernel
theorem dX7_term_7 : decode cX7_term 7 = .ok (.iload_n 2, 1) := by decide +kernel
theorem dX7_term_8 : decode cX7_term 8 = .ok (.sipush 400, 3) := by decide +kernel
theorem dX7_term_11 : decode cX7_term 11 = .ok (.if_icmp .ge 93, 3) := by decide +kernel
theorem dX7_term_14 : decode cX7_term 14 = .ok (.aload_n 0, 1) := by decide +kernel
theorem dX7_term_15 : decode cX7_term 15 = .ok (.getfield 22, 3) := by decide +kernel
theorem dX7_term_18 : decode cX7_term 18 = .ok (.iconst (-1), 1) := by decide +kernel
theorem dX7_term_19 : decode cX7_term 19 = .ok (.if_icmp .ne 85, 3) := by decide +kernel
theorem dX7_term_22 : decode cX7_term 22 = .ok (.aload_n 0, 1) := by decide +kernel
theorem dX7_term_23 : decode cX7_term 23 = .ok (.getfield 48, 3) := by decide +kernel
theorem dX7_term_26 : decode cX7_term 26 = .ok (.bipush 42, 2) := by decide +kernel
theorem dX7_term_28 : decode cX7_term 28 = .ok (.if_icmp .eq 21, 3) := by decide +kernel
theorem dX7_term_31 : decode cX7_term 31 = .ok (.aload_n 0, 1) := by decide +kernel
theorem dX7_term_32 : decode cX7_term 32 = .ok (.getfield 48, 3) := by decide +kernel
theorem dX7_term_35 : decode cX7_term 35 = .ok (.bipush 47, 2) := by decide +kernel
theorem dX7_term_37 : decode cX7_term 37 = .ok (.if_icmp .eq 12, 3) := by decide +kernel
theorem dX7_term_40 : decode cX7_term 40 = .ok (.aload_n 0, 1) := by decide +kernel
theorem dX7_term_41 : decode cX7_term 41 = .ok (.getfield 48, 3) := by decide +kernel
theorem dX7_term_44 : decode cX7_term 44 = .ok (.bipush 37, 2) := by decide +kernel
theorem dX7_term_46 : decode cX7_term 46 = .ok (.if_icmp .ne 58, 3) := by decide +kernel
theorem dX7_term_49 : decode cX7_term 49 = .ok (.bipush 11, 2) := by decide +kernel
theorem dX7_term_51 : decode cX7_term 51 = .ok (.istore_n 3, 1) := by decide +kernel
theorem dX7_term_52 : decode cX7_term 52 = .ok (.aload_n 0, 1) := by decide +kernel
theorem dX7_term_53 : decode cX7_term 53 = .ok (.getfield 48, 3) := by decide +kernel
theorem dX7_term_56 : decode cX7_term 56 = .ok (.bipush 47, 2) := by decide +kernel
theorem dX7_term_58 : decode cX7_term 58 = .ok (.if_icmp .ne 9, 3) := by decide +kernel
theorem dX7_term_61 : decode cX7_term 61 = .ok (.bipush 12, 2) := by decide +kernel
theorem dX7_term_63 : decode cX7_term 63 = .ok (.istore_n 3, 1) := by decide +kernel
theorem dX7_term_64 : decode cX7_term 64 = .ok (.goto 15, 3) := by decide +kernel
theorem dX7_term_67 : decode cX7_term 67 = .ok (.aload_n 0, 1) := by decide +kernel
theorem dX7_term_68 : decode cX7_term 68 = .ok (.getfield 48, 3) := by decide +kernel
theorem dX7_term_71 : decode cX7_term 71 = .ok (.bipush 37, 2) := by decide +kernel
theorem dX7_term_73 : decode cX7_term 73 = .ok (.if_icmp .ne 6, 3) := by decide +kernel
theorem dX7_term_76 : decode cX7_term 76 = .ok (.bipush 13, 2) := by decide +kernel
theorem dX7_term_78 : decode cX7_term 78 = .ok (.istore_n 3, 1) := by decide +kernel
theorem dX7_term_79 : decode cX7_term 79 = .ok (.aload_n 0, 1) := by decide +kernel
theorem dX7_term_80 : decode cX7_term 80 = .ok (.invokevirtual 42, 3) := by decide +kernel
theorem dX7_term_83 : decode cX7_term 83 = .ok (.aload_n 0, 1) := by decide +kernel
theorem dX7_term_84 : decode cX7_term 84 = .ok (.iload_n 1, 1) := by decide +kernel
theorem dX7_term_85 : decode cX7_term 85 = .ok (.invokevirtual 136, 3) := by decide +kernel
theorem dX7_term_88 : decode cX7_term 88 = .ok (.aload_n 0, 1) := by decide +kernel
theorem dX7_term_89 : decode cX7_term 89 = .ok (.getfield 18, 3) := by decide +kernel
theorem dX7_term_92 : decode cX7_term 92 = .ok (.iload_n 3, 1) := by decide +kernel
theorem dX7_term_93 : decode cX7_term 93 = .ok (.iconst 0, 1) := by decide +kernel
theorem dX7_term_94 : decode cX7_term 94 = .ok (.invokevirtual 98, 3) := by decide +kernel
theorem dX7_term_97 : decode cX7_term 97 = .ok (.pop, 1) := by decide +kernel
theorem dX7_term_98 : decode cX7_term 98 = .ok (.iinc 2 1, 3) := by decide +kernel
theorem dX7_term_101 : decode cX7_term 101 = .ok (.goto (-94), 3) := by decide +kernel
theorem dX7_term_104 : decode cX7_term 104 = .ok (.return_, 1) := by decide +kernel
theorem dX7_part_0 : decode cX7_part 0 = .ok (.aload_n 0, 1) := by decide +kernel
theorem dX7_part_1 : decode cX7_part 1 = .ok (.getfield 48, 3) := by decide +kernel
theorem dX7_part_4 : decode cX7_part 4 = .ok (.bipush 91, 2) := by decide +kernel
theorem dX7_part_6 : decode cX7_part 6 = .ok (.if_icmp .ne 25, 3) := by decide +kernel
theorem dX7_part_9 : decode cX7_part 9 = .ok (.aload_n 0, 1) := by decide +kernel
theorem dX7_part_10 : decode cX7_part 10 = .ok (.iload_n 1, 1) := by decide +kernel
theorem dX7_part_11 : decode cX7_part 11 = .ok (.invokevirtual 123, 3) := by decide +kernel
theorem dX7_part_14 : decode cX7_part 14 = .ok (.ifCond .eq 16, 3) := by decide +kernel
theorem dX7_part_17 : decode cX7_part 17 = .ok (.aload_n 0, 1) := by decide +kernel
theorem dX7_part_18 : decode cX7_part 18 = .ok (.iload_n 1, 1) := by decide +kernel
theorem dX7_part_19 : decode cX7_part 19 = .ok (.iconst 1, 1) := by decide +kernel
theorem dX7_part_20 : decode cX7_part 20 = .ok (.iadd, 1) := by decide +kernel
theorem dX7_part_21 : decode cX7_part 21 = .ok (.invokevirtual 105, 3) := by decide +kernel
theorem dX7_part_24 : decode cX7_part 24 = .ok (.aload_n 0, 1) := by decide +kernel
theorem dX7_part_25 : decode cX7_part 25 = .ok (.bipush 93, 2) := by decide +kernel
theorem dX7_part_27 : decode cX7_part 27 = .ok (.invokevirtual 127, 3) := by decide +kernel
theorem dX7_part_30 : decode cX7_part 30 = .ok (.return_, 1) := by decide +kernel
theorem dX7_part_31 : decode cX7_part 31 = .ok (.aload_n 0, 1) := by decide +kernel
theorem dX7_part_32 : decode cX7_part 32 = .ok (.aload_n 0, 1) := by decide +kernel
theorem dX7_part_33 : decode cX7_part 33 = .ok (.getfield 29, 3) := by decide +kernel
theorem dX7_part_36 : decode cX7_part 36 = .ok (.ifCond .eq 8, 3) := by decide +kernel
theorem dX7_part_39 : decode cX7_part 39 = .ok (.ldc 139, 2) := by decide +kernel
theorem dX7_part_41 : decode cX7_part 41 = .ok (.goto 5, 3) := by decide +kernel
theorem dX7_part_44 : decode cX7_part 44 = .ok (.ldc 141, 2) := by decide +kernel
theorem dX7_part_46 : decode cX7_part 46 = .ok (.invokevirtual 61, 3) := by decide +kernel
theorem dX7_part_49 : decode cX7_part 49 = .ok (.istore_n 2, 1) := by decide +kernel
theorem dX7_part_50 : decode cX7_part 50 = .ok (.aload_n 0, 1) := by decide +kernel
theorem dX7_part_51 : decode cX7_part 51 = .ok (.getfield 48, 3) := by decide +kernel
theorem dX7_part_54 : decode cX7_part 54 = .ok (.bipush (-3), 2) := by decide +kernel
theorem dX7_part_56 : decode cX7_part 56 = .ok (.if_icmp .ne 17, 3) := by decide +kernel
theorem dX7_part_59 : decode cX7_part 59 = .ok (.aload_n 0, 1) := by decide +kernel
theorem dX7_part_60 : decode cX7_part 60 = .ok (.getfield 102, 3) := by decide +kernel
theorem dX7_part_63 : decode cX7_part 63 = .ok (.sipush 1000, 3) := by decide +kernel
theorem dX7_part_66 : decode cX7_part 66 = .ok (.if_icmp .gt 7, 3) := by decide +kernel
theorem dX7_part_69 : decode cX7_part 69 = .ok (.iconst 1, 1) := by decide +kernel
theorem dX7_part_70 : decode cX7_part 70 = .ok (.goto 4, 3) := by decide +kernel
theorem dX7_part_73 : decode cX7_part 73 = .ok (.iconst 0, 1) := by decide +kernel
theorem dX7_part_74 : decode cX7_part 74 = .ok (.istore_n 3, 1) := by decide +kernel
theorem dX7_part_75 : decode cX7_part 75 = .ok (.aload_n 0, 1) := by decide +kernel
theorem dX7_part_76 : decode cX7_part 76 = .ok (.getfield 36, 3) := by decide +kernel
theorem dX7_part_79 : decode cX7_part 79 = .ok (.bipush 50, 2) := by decide +kernel
theorem dX7_part_81 : decode cX7_part 81 = .ok (.if_icmp .ge 12, 3) := by decide +kernel
theorem dX7_part_84 : decode cX7_part 84 = .ok (.iload_n 2, 1) := by decide +kernel
theorem dX7_part_85 : decode cX7_part 85 = .ok (.iconst (-1), 1) := by decide +kernel
theorem dX7_part_86 : decode cX7_part 86 = .ok (.if_icmp .ne 12, 3) := by decide +kernel
theorem dX7_part_89 : decode cX7_part 89 = .ok (.iload_n 3, 1) := by decide +kernel
theorem dX7_part_90 : decode cX7_part 90 = .ok (.ifCond .ne 8, 3) := by decide +kernel
theorem dX7_part_93 : decode cX7_part 93 = .ok (.aload_n 0, 1) := by decide +kernel
theorem dX7_part_94 : decode cX7_part 94 = .ok (.invokevirtual 51, 3) := by decide +kernel
theorem dX7_part_97 : decode cX7_part 97 = .ok (.return_, 1) := by decide +kernel
theorem dX7_part_98 : decode cX7_part 98 = .ok (.aload_n 0, 1) := by decide +kernel
theorem dX7_part_99 : decode cX7_part 99 = .ok (.dup, 1) := by decide +kernel
theorem dX7_part_100 : decode cX7_part 100 = .ok (.getfield 36, 3) := by decide +kernel
theorem dX7_part_103 : decode cX7_part 103 = .ok (.iconst 1, 1) := by decide +kernel
theorem dX7_part_104 : decode cX7_part 104 = .ok (.iadd, 1) := by decide +kernel
theorem dX7_part_105 : decode cX7_part 105 = .ok (.putfield 36, 3) := by decide +kernel
theorem dX7_part_108 : decode cX7_part 108 = .ok (.iload_n 3, 1) := by decide +kernel
theorem dX7_part_109 : decode cX7_part 109 = .ok (.ifCond .eq 23, 3) := by decide +kernel
theorem dX7_part_112 : decode cX7_part 112 = .ok (.aload_n 0, 1) := by decide +kernel
theorem dX7_part_113 : decode cX7_part 113 = .ok (.getfield 18, 3) := by decide +kernel
theorem dX7_part_116 : decode cX7_part 116 = .ok (.iconst 1, 1) := by decide +kernel
theorem dX7_part_117 : decode cX7_part 117 = .ok (.aload_n 0, 1) := by decide +kernel
theorem dX7_part_118 : decode cX7_part 118 = .ok (.getfield 102, 3) := by decide +kernel
theorem dX7_part_121 : decode cX7_part 121 = .ok (.invokevirtual 98, 3) := by decide +kernel
theorem dX7_part_124 : decode cX7_part 124 = .ok (.pop, 1) := by decide +kernel
theorem dX7_part_125 : decode cX7_part 125 = .ok (.aload_n 0, 1) := by decide +kernel
theorem dX7_part_126 : decode cX7_part 126 = .ok (.invokevirtual 42, 3) := by decide +kernel
theorem dX7_part_129 : decode cX7_part 129 = .ok (.goto 12, 3) := by decide +kernel
theorem dX7_part_132 : decode cX7_part 132 = .ok (.aload_n 0, 1) := by decide +kernel
theorem dX7_part_133 : decode cX7_part 133 = .ok (.invokevirtual 42, 3) := by decide +kernel
theorem dX7_part_136 : decode cX7_part 136 = .ok (.aload_n 0, 1) := by decide +kernel
theorem dX7_part_137 : decode cX7_part 137 = .ok (.iload_n 2, 1) := by decide +kernel
theorem dX7_part_138 : decode cX7_part 138 = .ok (.invokevirtual 143, 3) := by decide +kernel
theorem dX7_part_141 : decode cX7_part 141 = .ok (.return_, 1) := by decide +kernel
theorem dX7_word_0 : decode cX7_word 0 = .ok (.aload_n 0, 1) := by decide +kernel
theorem dX7_word_1 : decode cX7_word 1 = .ok (.getfield 29, 3) := by decide +kernel
theorem dX7_word_4 : decode cX7_word 4 = .ok (.ifCond .eq 8, 3) := by decide +kernel
theorem dX7_word_7 : decode cX7_word 7 = .ok (.iload_n 1, 1) := by decide +kernel
theorem dX7_word_8 : decode cX7_word 8 = .ok (.iconst 5, 1) := by decide +kernel
theorem dX7_word_9 : decode cX7_word 9 = .ok (.if_icmp .ge 43, 3) := by decide +kernel
theorem dX7_word_12 : decode cX7_word 12 = .ok (.aload_n 0, 1) := by decide +kernel
theorem dX7_word_13 : decode cX7_word 13 = .ok (.getfield 18, 3) := by decide +kernel
theorem dX7_word_16 : decode cX7_word 16 = .ok (.dup, 1) := by decide +kernel
theorem dX7_word_17 : decode cX7_word 17 = .ok (.getfield 148, 3) := by decide +kernel
theorem dX7_word_20 : decode cX7_word 20 = .ok (.aload_n 0, 1) := by decide +kernel
theorem dX7_word_21 : decode cX7_word 21 = .ok (.getfield 29, 3) := by decide +kernel
theorem dX7_word_24 : decode cX7_word 24 = .ok (.ifCond .eq 12, 3) := by decide +kernel
theorem dX7_word_27 : decode cX7_word 27 = .ok (.iload_n 1, 1) := by decide +kernel
theorem dX7_word_28 : decode cX7_word 28 = .ok (.iconst 3, 1) := by decide +kernel
theorem dX7_word_29 : decode cX7_word 29 = .ok (.if_icmp .ne 7, 3) := by decide +kernel
theorem dX7_word_32 : decode cX7_word 32 = .ok (.iconst 1, 1) := by decide +kernel
theorem dX7_word_33 : decode cX7_word 33 = .ok (.goto 4, 3) := by decide +kernel
theorem dX7_word_36 : decode cX7_word 36 = .ok (.iconst 0, 1) := by decide +kernel
theorem dX7_word_37 : decode cX7_word 37 = .ok (.ior, 1) := by decide +kernel
theorem dX7_word_38 : decode cX7_word 38 = .ok (.putfield 148, 3) := by decide +kernel
theorem dX7_word_41 : decode cX7_word 41 = .ok (.aload_n 0, 1) := by decide +kernel
theorem dX7_word_42 : decode cX7_word 42 = .ok (.getfield 18, 3) := by decide +kernel
theorem dX7_word_45 : decode cX7_word 45 = .ok (.iconst 2, 1) := by decide +kernel
theorem dX7_word_46 : decode cX7_word 46 = .ok (.iload_n 1, 1) := by decide +kernel
theorem dX7_word_47 : decode cX7_word 47 = .ok (.invokevirtual 98, 3) := by decide +kernel
theorem dX7_word_50 : decode cX7_word 50 = .ok (.pop, 1) := by decide +kernel
theorem dX7_word_51 : decode cX7_word 51 = .ok (.return_, 1) := by decide +kernel
theorem dX7_word_52 : decode cX7_word 52 = .ok (.aload_n 0, 1) := by decide +kernel
theorem dX7_word_53 : decode cX7_word 53 = .ok (.getfield 48, 3) := by decide +kernel
theorem dX7_word_56 : decode cX7_word 56 = .ok (.bipush (-3), 2) := by decide +kernel
theorem dX7_word_58 : decode cX7_word 58 = .ok (.if_icmp .ne 12, 3) := by decide +kernel
theorem dX7_word_61 : decode cX7_word 61 = .ok (.aload_n 0, 1) := by decide +kernel
theorem dX7_word_62 : decode cX7_word 62 = .ok (.getfield 102, 3) := by decide +kernel
theorem dX7_word_65 : decode cX7_word 65 = .ok (.bipush 6, 2) := by decide +kernel
theorem dX7_word_67 : decode cX7_word 67 = .ok (.if_icmp .lt 8, 3) := by decide +kernel
theorem dX7_word_70 : decode cX7_word 70 = .ok (.aload_n 0, 1) := by decide +kernel
theorem dX7_word_71 : decode cX7_word 71 = .ok (.invokevirtual 51, 3) := by decide +kernel
theorem dX7_word_74 : decode cX7_word 74 = .ok (.return_, 1) := by decide +kernel
theorem dX7_word_75 : decode cX7_word 75 = .ok (.iload_n 1, 1) := by decide +kernel
theorem dX7_word_76 : decode cX7_word 76 = .ok (.iconst 5, 1) := by decide +kernel
theorem dX7_word_77 : decode cX7_word 77 = .ok (.if_icmp .ne 7, 3) := by decide +kernel
theorem dX7_word_80 : decode cX7_word 80 = .ok (.iconst 5, 1) := by decide +kernel
theorem dX7_word_81 : decode cX7_word 81 = .ok (.goto 5, 3) := by decide +kernel
theorem dX7_word_84 : decode cX7_word 84 = .ok (.bipush 11, 2) := by decide +kernel
theorem dX7_word_86 : decode cX7_word 86 = .ok (.istore_n 2, 1) := by decide +kernel
theorem dX7_word_87 : decode cX7_word 87 = .ok (.aload_n 0, 1) := by decide +kernel
theorem dX7_word_88 : decode cX7_word 88 = .ok (.getfield 18, 3) := by decide +kernel
theorem dX7_word_91 : decode cX7_word 91 = .ok (.iconst 2, 1) := by decide +kernel
theorem dX7_word_92 : decode cX7_word 92 = .ok (.iload_n 2, 1) := by decide +kernel
theorem dX7_word_93 : decode cX7_word 93 = .ok (.aload_n 0, 1) := by decide +kernel
theorem dX7_word_94 : decode cX7_word 94 = .ok (.getfield 102, 3) := by decide +kernel
theorem dX7_word_97 : decode cX7_word 97 = .ok (.iadd, 1) := by decide +kernel
theorem dX7_word_98 : decode cX7_word 98 = .ok (.invokevirtual 98, 3) := by decide +kernel
theorem dX7_word_101 : decode cX7_word 101 = .ok (.pop, 1) := by decide +kernel
theorem dX7_word_102 : decode cX7_word 102 = .ok (.aload_n 0, 1) := by decide +kernel
theorem dX7_word_103 : decode cX7_word 103 = .ok (.invokevirtual 42, 3) := by decide +kernel
theorem dX7_word_106 : decode cX7_word 106 = .ok (.return_, 1) := by decide +kernel
theorem dX7_opens_0 : decode cX7_opens 0 = .ok (.iload_n 1, 1) := by decide +kernel
theorem dX7_opens_1 : decode cX7_opens 1 = .ok (.bipush 8, 2) := by decide +kernel
theorem dX7_opens_3 : decode cX7_opens 3 = .ok (.if_icmp .lt 9, 3) := by decide +kernel
theorem dX7_opens_6 : decode cX7_opens 6 = .ok (.aload_n 0, 1) := by decide +kernel
theorem dX7_opens_7 : decode cX7_opens 7 = .ok (.invokevirtual 51, 3) := by decide +kernel
theorem dX7_opens_10 : decode cX7_opens 10 = .ok (.iconst 0, 1) := by decide +kernel
theorem dX7_opens_11 : decode cX7_opens 11 = .ok (.ireturn, 1) := by decide +kernel
theorem dX7_opens_12 : decode cX7_opens 12 = .ok (.aload_n 0, 1) := by decide +kernel
theorem dX7_opens_13 : decode cX7_opens 13 = .ok (.invokevirtual 42, 3) := by decide +kernel
theorem dX7_opens_16 : decode cX7_opens 16 = .ok (.iconst 1, 1) := by decide +kernel
theorem dX7_opens_17 : decode cX7_opens 17 = .ok (.ireturn, 1) := by decide +kernel
theorem dX7_close_0 : decode cX7_close 0 = .ok (.aload_n 0, 1) := by decide +kernel
theorem dX7_close_1 : decode cX7_close 1 = .ok (.getfield 22, 3) := by decide +kernel
theorem dX7_close_4 : decode cX7_close 4 = .ok (.iconst (-1), 1) := by decide +kernel
theorem dX7_close_5 : decode cX7_close 5 = .ok (.if_icmp .eq 4, 3) := by decide +kernel
theorem dX7_close_8 : decode cX7_close 8 = .ok (.return_, 1) := by decide +kernel
theorem dX7_close_9 : decode cX7_close 9 = .ok (.aload_n 0, 1) := by decide +kernel
theorem dX7_close_10 : decode cX7_close 10 = .ok (.getfield 48, 3) := by decide +kernel
theorem dX7_close_13 : decode cX7_close 13 = .ok (.iload_n 1, 1) := by decide +kernel
theorem dX7_close_14 : decode cX7_close 14 = .ok (.if_icmp .ne 10, 3) := by decide +kernel
theorem dX7_close_17 : decode cX7_close 17 = .ok (.aload_n 0, 1) := by decide +kernel
theorem dX7_close_18 : decode cX7_close 18 = .ok (.invokevirtual 42, 3) := by decide +kernel
theorem dX7_close_21 : decode cX7_close 21 = .ok (.goto 7, 3) := by decide +kernel
theorem dX7_close_24 : decode cX7_close 24 = .ok (.aload_n 0, 1) := by decide +kernel
theorem dX7_close_25 : decode cX7_close 25 = .ok (.invokevirtual 51, 3) := by decide +kernel
theorem dX7_close_28 : decode cX7_close 28 = .ok (.return_, 1) := by decide +kernel
theorem dX7_advance_0 : decode cX7_advance 0 = .ok (.aload_n 0, 1) := by decide +kernel
theorem dX7_advance_1 : decode cX7_advance 1 = .ok (.getfield 39, 3) := by decide +kernel
theorem dX7_advance_4 : decode cX7_advance 4 = .ok (.aload_n 0, 1) := by decide +kernel
theorem dX7_advance_5 : decode cX7_advance 5 = .ok (.getfield 26, 3) := by decide +kernel
theorem dX7_advance_8 : decode cX7_advance 8 = .ok (.if_icmp .ge 30, 3) := by decide +kernel
theorem dX7_advance_11 : decode cX7_advance 11 = .ok (.aload_n 0, 1) := by decide +kernel
theorem dX7_advance_12 : decode cX7_advance 12 = .ok (.getfield 9, 3) := by decide +kernel
theorem dX7_advance_15 : decode cX7_advance 15 = .ok (.aload_n 0, 1) := by decide +kernel
theorem dX7_advance_16 : decode cX7_advance 16 = .ok (.getfield 39, 3) := by decide +kernel
theorem dX7_advance_19 : decode cX7_advance 19 = .ok (.baload, 1) := by decide +kernel
theorem dX7_advance_20 : decode cX7_advance 20 = .ok (.bipush 32, 2) := by decide +kernel
theorem dX7_advance_22 : decode cX7_advance 22 = .ok (.if_icmp .ne 16, 3) := by decide +kernel
theorem dX7_advance_25 : decode cX7_advance 25 = .ok (.aload_n 0, 1) := by decide +kernel
theorem dX7_advance_26 : decode cX7_advance 26 = .ok (.dup, 1) := by decide +kernel
theorem dX7_advance_27 : decode cX7_advance 27 = .ok (.getfield 39, 3) := by decide +kernel
theorem dX7_advance_30 : decode cX7_advance 30 = .ok (.iconst 1, 1) := by decide +kernel
theorem dX7_advance_31 : decode cX7_advance 31 = .ok (.iadd, 1) := by decide +kernel
theorem dX7_advance_32 : decode cX7_advance 32 = .ok (.putfield 39, 3) := by decide +kernel
theorem dX7_advance_35 : decode cX7_advance 35 = .ok (.goto (-35), 3) := by decide +kernel
theorem dX7_advance_38 : decode cX7_advance 38 = .ok (.aload_n 0, 1) := by decide +kernel
theorem dX7_advance_39 : decode cX7_advance 39 = .ok (.aload_n 0, 1) := by decide +kernel
theorem dX7_advance_40 : decode cX7_advance 40 = .ok (.getfield 39, 3) := by decide +kernel
theorem dX7_advance_43 : decode cX7_advance 43 = .ok (.putfield 54, 3) := by decide +kernel
theorem dX7_advance_46 : decode cX7_advance 46 = .ok (.aload_n 0, 1) := by decide +kernel
theorem dX7_advance_47 : decode cX7_advance 47 = .ok (.getfield 39, 3) := by decide +kernel
theorem dX7_advance_50 : decode cX7_advance 50 = .ok (.aload_n 0, 1) := by decide +kernel
theorem dX7_advance_51 : decode cX7_advance 51 = .ok (.getfield 26, 3) := by decide +kernel
theorem dX7_advance_54 : decode cX7_advance 54 = .ok (.if_icmp .lt 9, 3) := by decide +kernel
theorem dX7_advance_57 : decode cX7_advance 57 = .ok (.aload_n 0, 1) := by decide +kernel
theorem dX7_advance_58 : decode cX7_advance 58 = .ok (.iconst (-1), 1) := by decide +kernel
theorem dX7_advance_59 : decode cX7_advance 59 = .ok (.putfield 48, 3) := by decide +kernel
theorem dX7_advance_62 : decode cX7_advance 62 = .ok (.return_, 1) := by decide +kernel
theorem dX7_advance_63 : decode cX7_advance 63 = .ok (.aload_n 0, 1) := by decide +kernel
theorem dX7_advance_64 : decode cX7_advance 64 = .ok (.getfield 9, 3) := by decide +kernel
theorem dX7_advance_67 : decode cX7_advance 67 = .ok (.aload_n 0, 1) := by decide +kernel
theorem dX7_advance_68 : decode cX7_advance 68 = .ok (.getfield 39, 3) := by decide +kernel
theorem dX7_advance_71 : decode cX7_advance 71 = .ok (.baload, 1) := by decide +kernel
theorem dX7_advance_72 : decode cX7_advance 72 = .ok (.istore_n 1, 1) := by decide +kernel
theorem dX7_advance_73 : decode cX7_advance 73 = .ok (.aload_n 0, 1) := by decide +kernel
theorem dX7_advance_74 : decode cX7_advance 74 = .ok (.dup, 1) := by decide +kernel
theorem dX7_advance_75 : decode cX7_advance 75 = .ok (.getfield 39, 3) := by decide +kernel
theorem dX7_advance_78 : decode cX7_advance 78 = .ok (.iconst 1, 1) := by decide +kernel
theorem dX7_advance_79 : decode cX7_advance 79 = .ok (.iadd, 1) := by decide +kernel
theorem dX7_advance_80 : decode cX7_advance 80 = .ok (.putfield 39, 3) := by decide +kernel
theorem dX7_advance_83 : decode cX7_advance 83 = .ok (.iload_n 1, 1) := by decide +kernel
theorem dX7_advance_84 : decode cX7_advance 84 = .ok (.bipush 97, 2) := by decide +kernel
theorem dX7_advance_86 : decode cX7_advance 86 = .ok (.if_icmp .lt 67, 3) := by decide +kernel
theorem dX7_advance_89 : decode cX7_advance 89 = .ok (.iload_n 1, 1) := by decide +kernel
theorem dX7_advance_90 : decode cX7_advance 90 = .ok (.bipush 122, 2) := by decide +kernel
theorem dX7_advance_92 : decode cX7_advance 92 = .ok (.if_icmp .gt 61, 3) := by decide +kernel
theorem dX7_advance_95 : decode cX7_advance 95 = .ok (.aload_n 0, 1) := by decide +kernel
theorem dX7_advance_96 : decode cX7_advance 96 = .ok (.bipush (-2), 2) := by decide +kernel
theorem dX7_advance_98 : decode cX7_advance 98 = .ok (.putfield 48, 3) := by decide +kernel
theorem dX7_advance_101 : decode cX7_advance 101 = .ok (.aload_n 0, 1) := by decide +kernel
theorem dX7_advance_102 : decode cX7_advance 102 = .ok (.getfield 39, 3) := by decide +kernel
theorem dX7_advance_105 : decode cX7_advance 105 = .ok (.aload_n 0, 1) := by decide +kernel
theorem dX7_advance_106 : decode cX7_advance 106 = .ok (.getfield 26, 3) := by decide +kernel
theorem dX7_advance_109 : decode cX7_advance 109 = .ok (.if_icmp .ge 161, 3) := by decide +kernel
theorem dX7_advance_112 : decode cX7_advance 112 = .ok (.aload_n 0, 1) := by decide +kernel
theorem dX7_advance_113 : decode cX7_advance 113 = .ok (.getfield 9, 3) := by decide +kernel
theorem dX7_advance_116 : decode cX7_advance 116 = .ok (.aload_n 0, 1) := by decide +kernel
theorem dX7_advance_117 : decode cX7_advance 117 = .ok (.getfield 39, 3) := by decide +kernel
theorem dX7_advance_120 : decode cX7_advance 120 = .ok (.baload, 1) := by decide +kernel
theorem dX7_advance_121 : decode cX7_advance 121 = .ok (.bipush 97, 2) := by decide +kernel
theorem dX7_advance_123 : decode cX7_advance 123 = .ok (.if_icmp .lt 147, 3) := by decide +kernel
theorem dX7_advance_126 : decode cX7_advance 126 = .ok (.aload_n 0, 1) := by decide +kernel
theorem dX7_advance_127 : decode cX7_advance 127 = .ok (.getfield 9, 3) := by decide +kernel
theorem dX7_advance_130 : decode cX7_advance 130 = .ok (.aload_n 0, 1) := by decide +kernel
theorem dX7_advance_131 : decode cX7_advance 131 = .ok (.getfield 39, 3) := by decide +kernel
theorem dX7_advance_134 : decode cX7_advance 134 = .ok (.baload, 1) := by decide +kernel
theorem dX7_advance_135 : decode cX7_advance 135 = .ok (.bipush 122, 2) := by decide +kernel
theorem dX7_advance_137 : decode cX7_advance 137 = .ok (.if_icmp .gt 133, 3) := by decide +kernel
theorem dX7_advance_140 : decode cX7_advance 140 = .ok (.aload_n 0, 1) := by decide +kernel
theorem dX7_advance_141 : decode cX7_advance 141 = .ok (.dup, 1) := by decide +kernel
theorem dX7_advance_142 : decode cX7_advance 142 = .ok (.getfield 39, 3) := by decide +kernel
theorem dX7_advance_145 : decode cX7_advance 145 = .ok (.iconst 1, 1) := by decide +kernel
theorem dX7_advance_146 : decode cX7_advance 146 = .ok (.iadd, 1) := by decide +kernel
theorem dX7_advance_147 : decode cX7_advance 147 = .ok (.putfield 39, 3) := by decide +kernel
theorem dX7_advance_150 : decode cX7_advance 150 = .ok (.goto (-49), 3) := by decide +kernel
theorem dX7_advance_153 : decode cX7_advance 153 = .ok (.iload_n 1, 1) := by decide +kernel
theorem dX7_advance_154 : decode cX7_advance 154 = .ok (.bipush 48, 2) := by decide +kernel
theorem dX7_advance_156 : decode cX7_advance 156 = .ok (.if_icmp .lt 105, 3) := by decide +kernel
theorem dX7_advance_159 : decode cX7_advance 159 = .ok (.iload_n 1, 1) := by decide +kernel
theorem dX7_advance_160 : decode cX7_advance 160 = .ok (.bipush 57, 2) := by decide +kernel
theorem dX7_advance_162 : decode cX7_advance 162 = .ok (.if_icmp .gt 99, 3) := by decide +kernel
theorem dX7_advance_165 : decode cX7_advance 165 = .ok (.aload_n 0, 1) := by decide +kernel
theorem dX7_advance_166 : decode cX7_advance 166 = .ok (.bipush (-3), 2) := by decide +kernel
theorem dX7_advance_168 : decode cX7_advance 168 = .ok (.putfield 48, 3) := by decide +kernel
theorem dX7_advance_171 : decode cX7_advance 171 = .ok (.aload_n 0, 1) := by decide +kernel
theorem dX7_advance_172 : decode cX7_advance 172 = .ok (.iload_n 1, 1) := by decide +kernel
theorem dX7_advance_173 : decode cX7_advance 173 = .ok (.bipush 48, 2) := by decide +kernel
theorem dX7_advance_175 : decode cX7_advance 175 = .ok (.isub, 1) := by decide +kernel
theorem dX7_advance_176 : decode cX7_advance 176 = .ok (.putfield 102, 3) := by decide +kernel
theorem dX7_advance_179 : decode cX7_advance 179 = .ok (.aload_n 0, 1) := by decide +kernel
theorem dX7_advance_180 : decode cX7_advance 180 = .ok (.getfield 39, 3) := by decide +kernel
theorem dX7_advance_183 : decode cX7_advance 183 = .ok (.aload_n 0, 1) := by decide +kernel
theorem dX7_advance_184 : decode cX7_advance 184 = .ok (.getfield 26, 3) := by decide +kernel
theorem dX7_advance_187 : decode cX7_advance 187 = .ok (.if_icmp .ge 83, 3) := by decide +kernel
theorem dX7_advance_190 : decode cX7_advance 190 = .ok (.aload_n 0, 1) := by decide +kernel
theorem dX7_advance_191 : decode cX7_advance 191 = .ok (.getfield 9, 3) := by decide +kernel
theorem dX7_advance_194 : decode cX7_advance 194 = .ok (.aload_n 0, 1) := by decide +kernel
theorem dX7_advance_195 : decode cX7_advance 195 = .ok (.getfield 39, 3) := by decide +kernel
theorem dX7_advance_198 : decode cX7_advance 198 = .ok (.baload, 1) := by decide +kernel
theorem dX7_advance_199 : decode cX7_advance 199 = .ok (.bipush 48, 2) := by decide +kernel
theorem dX7_advance_201 : decode cX7_advance 201 = .ok (.if_icmp .lt 69, 3) := by decide +kernel
theorem dX7_advance_204 : decode cX7_advance 204 = .ok (.aload_n 0, 1) := by decide +kernel
theorem dX7_advance_205 : decode cX7_advance 205 = .ok (.getfield 9, 3) := by decide +kernel
theorem dX7_advance_208 : decode cX7_advance 208 = .ok (.aload_n 0, 1) := by decide +kernel
theorem dX7_advance_209 : decode cX7_advance 209 = .ok (.getfield 39, 3) := by decide +kernel
theorem dX7_advance_212 : decode cX7_advance 212 = .ok (.baload, 1) := by decide +kernel
theorem dX7_advance_213 : decode cX7_advance 213 = .ok (.bipush 57, 2) := by decide +kernel
theorem dX7_advance_215 : decode cX7_advance 215 = .ok (.if_icmp .gt 55, 3) := by decide +kernel
theorem dX7_advance_218 : decode cX7_advance 218 = .ok (.aload_n 0, 1) := by decide +kernel
theorem dX7_advance_219 : decode cX7_advance 219 = .ok (.aload_n 0, 1) := by decide +kernel
theorem dX7_advance_220 : decode cX7_advance 220 = .ok (.getfield 102, 3) := by decide +kernel
theorem dX7_advance_223 : decode cX7_advance 223 = .ok (.bipush 10, 2) := by decide +kernel
theorem dX7_advance_225 : decode cX7_advance 225 = .ok (.imul, 1) := by decide +kernel
theorem dX7_advance_226 : decode cX7_advance 226 = .ok (.aload_n 0, 1) := by decide +kernel
theorem dX7_advance_227 : decode cX7_advance 227 = .ok (.getfield 9, 3) := by decide +kernel
theorem dX7_advance_230 : decode cX7_advance 230 = .ok (.aload_n 0, 1) := by decide +kernel
theorem dX7_advance_231 : decode cX7_advance 231 = .ok (.getfield 39, 3) := by decide +kernel
theorem dX7_advance_234 : decode cX7_advance 234 = .ok (.baload, 1) := by decide +kernel
theorem dX7_advance_235 : decode cX7_advance 235 = .ok (.iadd, 1) := by decide +kernel
theorem dX7_advance_236 : decode cX7_advance 236 = .ok (.bipush 48, 2) := by decide +kernel
theorem dX7_advance_238 : decode cX7_advance 238 = .ok (.isub, 1) := by decide +kernel
theorem dX7_advance_239 : decode cX7_advance 239 = .ok (.sipush 1001, 3) := by decide +kernel
theorem dX7_advance_242 : decode cX7_advance 242 = .ok (.invokestatic 151, 3) := by decide +kernel
theorem dX7_advance_245 : decode cX7_advance 245 = .ok (.putfield 102, 3) := by decide +kernel
theorem dX7_advance_248 : decode cX7_advance 248 = .ok (.aload_n 0, 1) := by decide +kernel
theorem dX7_advance_249 : decode cX7_advance 249 = .ok (.dup, 1) := by decide +kernel
theorem dX7_advance_250 : decode cX7_advance 250 = .ok (.getfield 39, 3) := by decide +kernel
theorem dX7_advance_253 : decode cX7_advance 253 = .ok (.iconst 1, 1) := by decide +kernel
theorem dX7_advance_254 : decode cX7_advance 254 = .ok (.iadd, 1) := by decide +kernel
theorem dX7_advance_255 : decode cX7_advance 255 = .ok (.putfield 39, 3) := by decide +kernel
theorem dX7_advance_258 : decode cX7_advance 258 = .ok (.goto (-79), 3) := by decide +kernel
theorem dX7_advance_261 : decode cX7_advance 261 = .ok (.aload_n 0, 1) := by decide +kernel
theorem dX7_advance_262 : decode cX7_advance 262 = .ok (.iload_n 1, 1) := by decide +kernel
theorem dX7_advance_263 : decode cX7_advance 263 = .ok (.sipush 255, 3) := by decide +kernel
theorem dX7_advance_266 : decode cX7_advance 266 = .ok (.iand, 1) := by decide +kernel
theorem dX7_advance_267 : decode cX7_advance 267 = .ok (.putfield 48, 3) := by decide +kernel
theorem dX7_advance_270 : decode cX7_advance 270 = .ok (.return_, 1) := by decide +kernel
theorem dX7_goesOnWith_0 : decode cX7_goesOnWith 0 = .ok (.aload_n 0, 1) := by decide +kernel
theorem dX7_goesOnWith_1 : decode cX7_goesOnWith 1 = .ok (.getfield 22, 3) := by decide +kernel
theorem dX7_goesOnWith_4 : decode cX7_goesOnWith 4 = .ok (.iconst (-1), 1) := by decide +kernel
theorem dX7_goesOnWith_5 : decode cX7_goesOnWith 5 = .ok (.if_icmp .ne 15, 3) := by decide +kernel
theorem dX7_goesOnWith_8 : decode cX7_goesOnWith 8 = .ok (.aload_n 0, 1) := by decide +kernel
theorem dX7_goesOnWith_9 : decode cX7_goesOnWith 9 = .ok (.aload_n 1, 1) := by decide +kernel
theorem dX7_goesOnWith_10 : decode cX7_goesOnWith 10 = .ok (.invokevirtual 61, 3) := by decide +kernel
theorem dX7_goesOnWith_13 : decode cX7_goesOnWith 13 = .ok (.ifCond .ne 7, 3) := by decide +kernel
theorem dX7_goesOnWith_16 : decode cX7_goesOnWith 16 = .ok (.iconst 1, 1) := by decide +kernel
theorem dX7_goesOnWith_17 : decode cX7_goesOnWith 17 = .ok (.goto 4, 3) := by decide +kernel
theorem dX7_goesOnWith_20 : decode cX7_goesOnWith 20 = .ok (.iconst 0, 1) := by decide +kernel
theorem dX7_goesOnWith_21 : decode cX7_goesOnWith 21 = .ok (.istore_n 2, 1) := by decide +kernel
theorem dX7_goesOnWith_22 : decode cX7_goesOnWith 22 = .ok (.iload_n 2, 1) := by decide +kernel
theorem dX7_goesOnWith_23 : decode cX7_goesOnWith 23 = .ok (.ifCond .eq 7, 3) := by decide +kernel
theorem dX7_goesOnWith_26 : decode cX7_goesOnWith 26 = .ok (.aload_n 0, 1) := by decide +kernel
theorem dX7_goesOnWith_27 : decode cX7_goesOnWith 27 = .ok (.invokevirtual 42, 3) := by decide +kernel
theorem dX7_goesOnWith_30 : decode cX7_goesOnWith 30 = .ok (.iload_n 2, 1) := by decide +kernel
theorem dX7_goesOnWith_31 : decode cX7_goesOnWith 31 = .ok (.ireturn, 1) := by decide +kernel
theorem dX7_placeIn_0 : decode cX7_placeIn 0 = .ok (.aload_n 0, 1) := by decide +kernel
theorem dX7_placeIn_1 : decode cX7_placeIn 1 = .ok (.getfield 48, 3) := by decide +kernel
theorem dX7_placeIn_4 : decode cX7_placeIn 4 = .ok (.bipush (-2), 2) := by decide +kernel
theorem dX7_placeIn_6 : decode cX7_placeIn 6 = .ok (.if_icmp .eq 5, 3) := by decide +kernel
theorem dX7_placeIn_9 : decode cX7_placeIn 9 = .ok (.iconst (-1), 1) := by decide +kernel
theorem dX7_placeIn_10 : decode cX7_placeIn 10 = .ok (.ireturn, 1) := by decide +kernel
theorem dX7_placeIn_11 : decode cX7_placeIn 11 = .ok (.iconst 0, 1) := by decide +kernel
theorem dX7_placeIn_12 : decode cX7_placeIn 12 = .ok (.istore_n 2, 1) := by decide +kernel
theorem dX7_placeIn_13 : decode cX7_placeIn 13 = .ok (.iconst 0, 1) := by decide +kernel
theorem dX7_placeIn_14 : decode cX7_placeIn 14 = .ok (.istore_n 3, 1) := by decide +kernel
theorem dX7_placeIn_15 : decode cX7_placeIn 15 = .ok (.iconst 0, 1) := by decide +kernel
theorem dX7_placeIn_16 : decode cX7_placeIn 16 = .ok (.istore 4, 2) := by decide +kernel
theorem dX7_placeIn_18 : decode cX7_placeIn 18 = .ok (.iload 4, 2) := by decide +kernel
theorem dX7_placeIn_20 : decode cX7_placeIn 20 = .ok (.aload_n 1, 1) := by decide +kernel
theorem dX7_placeIn_21 : decode cX7_placeIn 21 = .ok (.invokevirtual 156, 3) := by decide +kernel
theorem dX7_placeIn_24 : decode cX7_placeIn 24 = .ok (.if_icmp .gt 104, 3) := by decide +kernel
theorem dX7_placeIn_27 : decode cX7_placeIn 27 = .ok (.iload 4, 2) := by decide +kernel
theorem dX7_placeIn_29 : decode cX7_placeIn 29 = .ok (.aload_n 1, 1) := by decide +kernel
theorem dX7_placeIn_30 : decode cX7_placeIn 30 = .ok (.invokevirtual 156, 3) := by decide +kernel
theorem dX7_placeIn_33 : decode cX7_placeIn 33 = .ok (.if_icmp .ge 12, 3) := by decide +kernel
theorem dX7_placeIn_36 : decode cX7_placeIn 36 = .ok (.aload_n 1, 1) := by decide +kernel
theorem dX7_placeIn_37 : decode cX7_placeIn 37 = .ok (.iload 4, 2) := by decide +kernel
theorem dX7_placeIn_39 : decode cX7_placeIn 39 = .ok (.invokevirtual 161, 3) := by decide +kernel
theorem dX7_placeIn_42 : decode cX7_placeIn 42 = .ok (.goto 5, 3) := by decide +kernel
theorem dX7_placeIn_45 : decode cX7_placeIn 45 = .ok (.bipush 32, 2) := by decide +kernel
theorem dX7_placeIn_47 : decode cX7_placeIn 47 = .ok (.istore 5, 2) := by decide +kernel
theorem dX7_placeIn_49 : decode cX7_placeIn 49 = .ok (.iload 5, 2) := by decide +kernel
theorem dX7_placeIn_51 : decode cX7_placeIn 51 = .ok (.bipush 32, 2) := by decide +kernel
theorem dX7_placeIn_53 : decode cX7_placeIn 53 = .ok (.if_icmp .ne 26, 3) := by decide +kernel
theorem dX7_placeIn_56 : decode cX7_placeIn 56 = .ok (.aload_n 0, 1) := by decide +kernel
theorem dX7_placeIn_57 : decode cX7_placeIn 57 = .ok (.getfield 54, 3) := by decide +kernel
theorem dX7_placeIn_60 : decode cX7_placeIn 60 = .ok (.iload_n 3, 1) := by decide +kernel
theorem dX7_placeIn_61 : decode cX7_placeIn 61 = .ok (.iadd, 1) := by decide +kernel
theorem dX7_placeIn_62 : decode cX7_placeIn 62 = .ok (.aload_n 0, 1) := by decide +kernel
theorem dX7_placeIn_63 : decode cX7_placeIn 63 = .ok (.getfield 39, 3) := by decide +kernel
theorem dX7_placeIn_66 : decode cX7_placeIn 66 = .ok (.if_icmp .ne 5, 3) := by decide +kernel
theorem dX7_placeIn_69 : decode cX7_placeIn 69 = .ok (.iload_n 2, 1) := by decide +kernel
theorem dX7_placeIn_70 : decode cX7_placeIn 70 = .ok (.ireturn, 1) := by decide +kernel
theorem dX7_placeIn_71 : decode cX7_placeIn 71 = .ok (.iinc 2 1, 3) := by decide +kernel
theorem dX7_placeIn_74 : decode cX7_placeIn 74 = .ok (.iconst 0, 1) := by decide +kernel
theorem dX7_placeIn_75 : decode cX7_placeIn 75 = .ok (.istore_n 3, 1) := by decide +kernel
theorem dX7_placeIn_76 : decode cX7_placeIn 76 = .ok (.goto 46, 3) := by decide +kernel
theorem dX7_placeIn_79 : decode cX7_placeIn 79 = .ok (.iload_n 3, 1) := by decide +kernel
theorem dX7_placeIn_80 : decode cX7_placeIn 80 = .ok (.ifCond .lt 38, 3) := by decide +kernel
theorem dX7_placeIn_83 : decode cX7_placeIn 83 = .ok (.aload_n 0, 1) := by decide +kernel
theorem dX7_placeIn_84 : decode cX7_placeIn 84 = .ok (.getfield 54, 3) := by decide +kernel
theorem dX7_placeIn_87 : decode cX7_placeIn 87 = .ok (.iload_n 3, 1) := by decide +kernel
theorem dX7_placeIn_88 : decode cX7_placeIn 88 = .ok (.iadd, 1) := by decide +kernel
theorem dX7_placeIn_89 : decode cX7_placeIn 89 = .ok (.aload_n 0, 1) := by decide +kernel
theorem dX7_placeIn_90 : decode cX7_placeIn 90 = .ok (.getfield 39, 3) := by decide +kernel
theorem dX7_placeIn_93 : decode cX7_placeIn 93 = .ok (.if_icmp .ge 25, 3) := by decide +kernel
theorem dX7_placeIn_96 : decode cX7_placeIn 96 = .ok (.aload_n 0, 1) := by decide +kernel
theorem dX7_placeIn_97 : decode cX7_placeIn 97 = .ok (.getfield 9, 3) := by decide +kernel
theorem dX7_placeIn_100 : decode cX7_placeIn 100 = .ok (.aload_n 0, 1) := by decide +kernel
theorem dX7_placeIn_101 : decode cX7_placeIn 101 = .ok (.getfield 54, 3) := by decide +kernel
theorem dX7_placeIn_104 : decode cX7_placeIn 104 = .ok (.iload_n 3, 1) := by decide +kernel
theorem dX7_placeIn_105 : decode cX7_placeIn 105 = .ok (.iadd, 1) := by decide +kernel
theorem dX7_placeIn_106 : decode cX7_placeIn 106 = .ok (.baload, 1) := by decide +kernel
theorem dX7_placeIn_107 : decode cX7_placeIn 107 = .ok (.iload 5, 2) := by decide +kernel
theorem dX7_placeIn_109 : decode cX7_placeIn 109 = .ok (.if_icmp .ne 9, 3) := by decide +kernel
theorem dX7_placeIn_112 : decode cX7_placeIn 112 = .ok (.iinc 3 1, 3) := by decide +kernel
theorem dX7_placeIn_115 : decode cX7_placeIn 115 = .ok (.goto 7, 3) := by decide +kernel
theorem dX7_placeIn_118 : decode cX7_placeIn 118 = .ok (.sipush (-400), 3) := by decide +kernel
theorem dX7_placeIn_121 : decode cX7_placeIn 121 = .ok (.istore_n 3, 1) := by decide +kernel
theorem dX7_placeIn_122 : decode cX7_placeIn 122 = .ok (.iinc 4 1, 3) := by decide +kernel
theorem dX7_placeIn_125 : decode cX7_placeIn 125 = .ok (.goto (-107), 3) := by decide +kernel
theorem dX7_placeIn_128 : decode cX7_placeIn 128 = .ok (.iconst (-1), 1) := by decide +kernel
theorem dX7_placeIn_129 : decode cX7_placeIn 129 = .ok (.ireturn, 1) := by decide +kernel
