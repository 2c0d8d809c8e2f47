theorem dX12_lies_0 : decode cX12_lies 0 = .ok (.iload_n 0, 1) := by decide +kernel
theorem dX12_lies_1 : decode cX12_lies 1 = .ok (.iload_n 1, 1) := by decide +kernel
theorem dX12_lies_2 : decode cX12_lies 2 = .ok (.if_icmp .lt 12, 3) := by decide +kernel
theorem dX12_lies_5 : decode cX12_lies 5 = .ok (.iload_n 0, 1) := by decide +kernel
theorem dX12_lies_6 : decode cX12_lies 6 = .ok (.iload_n 2, 1) := by decide +kernel
theorem dX12_lies_7 : decode cX12_lies 7 = .ok (.if_icmp .gt 7, 3) := by decide +kernel
theorem dX12_lies_10 : decode cX12_lies 10 = .ok (.iconst 1, 1) := by decide +kernel
theorem dX12_lies_11 : decode cX12_lies 11 = .ok (.goto 4, 3) := by decide +kernel
theorem dX12_lies_14 : decode cX12_lies 14 = .ok (.iconst 0, 1) := by decide +kernel
theorem dX12_lies_15 : decode cX12_lies 15 = .ok (.ireturn, 1) := by decide +kernel
theorem dX12_greater_0 : decode cX12_greater 0 = .ok (.iload_n 0, 1) := by decide +kernel
theorem dX12_greater_1 : decode cX12_greater 1 = .ok (.iload_n 1, 1) := by decide +kernel
theorem dX12_greater_2 : decode cX12_greater 2 = .ok (.if_icmp .le 7, 3) := by decide +kernel
theorem dX12_greater_5 : decode cX12_greater 5 = .ok (.iload_n 0, 1) := by decide +kernel
theorem dX12_greater_6 : decode cX12_greater 6 = .ok (.goto 4, 3) := by decide +kernel
theorem dX12_greater_9 : decode cX12_greater 9 = .ok (.iload_n 1, 1) := by decide +kernel
theorem dX12_greater_10 : decode cX12_greater 10 = .ok (.ireturn, 1) := by decide +kernel
theorem dX12_refuses_0 : decode cX12_refuses 0 = .ok (.aload_n 0, 1) := by decide +kernel
theorem dX12_refuses_1 : decode cX12_refuses 1 = .ok (.iload_n 1, 1) := by decide +kernel
theorem dX12_refuses_2 : decode cX12_refuses 2 = .ok (.putfield 3, 3) := by decide +kernel
theorem dX12_refuses_5 : decode cX12_refuses 5 = .ok (.aload_n 0, 1) := by decide +kernel
theorem dX12_refuses_6 : decode cX12_refuses 6 = .ok (.getfield 7, 3) := by decide +kernel
theorem dX12_refuses_9 : decode cX12_refuses 9 = .ok (.iload_n 1, 1) := by decide +kernel
theorem dX12_refuses_10 : decode cX12_refuses 10 = .ok (.ineg, 1) := by decide +kernel
theorem dX12_refuses_11 : decode cX12_refuses 11 = .ok (.dup2, 1) := by decide +kernel
theorem dX12_refuses_12 : decode cX12_refuses 12 = .ok (.iaload, 1) := by decide +kernel
theorem dX12_refuses_13 : decode cX12_refuses 13 = .ok (.iconst 1, 1) := by decide +kernel
theorem dX12_refuses_14 : decode cX12_refuses 14 = .ok (.iadd, 1) := by decide +kernel
theorem dX12_refuses_15 : decode cX12_refuses 15 = .ok (.iastore, 1) := by decide +kernel
theorem dX12_refuses_16 : decode cX12_refuses 16 = .ok (.iload_n 1, 1) := by decide +kernel
theorem dX12_refuses_17 : decode cX12_refuses 17 = .ok (.ireturn, 1) := by decide +kernel
theorem dX12_good_0 : decode cX12_good 0 = .ok (.aload_n 0, 1) := by decide +kernel
theorem dX12_good_1 : decode cX12_good 1 = .ok (.iconst 0, 1) := by decide +kernel
theorem dX12_good_2 : decode cX12_good 2 = .ok (.putfield 3, 3) := by decide +kernel
theorem dX12_good_5 : decode cX12_good 5 = .ok (.iload_n 1, 1) := by decide +kernel
theorem dX12_good_6 : decode cX12_good 6 = .ok (.ireturn, 1) := by decide +kernel
theorem dX12_goodAnew_0 : decode cX12_goodAnew 0 = .ok (.aload_n 0, 1) := by decide +kernel
theorem dX12_goodAnew_1 : decode cX12_goodAnew 1 = .ok (.iconst 0, 1) := by decide +kernel
theorem dX12_goodAnew_2 : decode cX12_goodAnew 2 = .ok (.putfield 11, 3) := by decide +kernel
theorem dX12_goodAnew_5 : decode cX12_goodAnew 5 = .ok (.aload_n 0, 1) := by decide +kernel
theorem dX12_goodAnew_6 : decode cX12_goodAnew 6 = .ok (.iload_n 1, 1) := by decide +kernel
theorem dX12_goodAnew_7 : decode cX12_goodAnew 7 = .ok (.invokevirtual 14, 3) := by decide +kernel
theorem dX12_goodAnew_10 : decode cX12_goodAnew 10 = .ok (.ireturn, 1) := by decide +kernel
theorem dX12_isIn_0 : decode cX12_isIn 0 = .ok (.iload_n 0, 1) := by decide +kernel
theorem dX12_isIn_1 : decode cX12_isIn 1 = .ok (.iload_n 1, 1) := by decide +kernel
theorem dX12_isIn_2 : decode cX12_isIn 2 = .ok (.ishr, 1) := by decide +kernel
theorem dX12_isIn_3 : decode cX12_isIn 3 = .ok (.iconst 1, 1) := by decide +kernel
theorem dX12_isIn_4 : decode cX12_isIn 4 = .ok (.iand, 1) := by decide +kernel
theorem dX12_isIn_5 : decode cX12_isIn 5 = .ok (.iconst 1, 1) := by decide +kernel
theorem dX12_isIn_6 : decode cX12_isIn 6 = .ok (.if_icmp .ne 7, 3) := by decide +kernel
theorem dX12_isIn_9 : decode cX12_isIn 9 = .ok (.iconst 1, 1) := by decide +kernel
theorem dX12_isIn_10 : decode cX12_isIn 10 = .ok (.goto 4, 3) := by decide +kernel
theorem dX12_isIn_13 : decode cX12_isIn 13 = .ok (.iconst 0, 1) := by decide +kernel
theorem dX12_isIn_14 : decode cX12_isIn 14 = .ok (.ireturn, 1) := by decide +kernel
theorem dX12_ones_0 : decode cX12_ones 0 = .ok (.iconst 0, 1) := by decide +kernel
theorem dX12_ones_1 : decode cX12_ones 1 = .ok (.istore_n 1, 1) := by decide +kernel
theorem dX12_ones_2 : decode cX12_ones 2 = .ok (.iconst 0, 1) := by decide +kernel
theorem dX12_ones_3 : decode cX12_ones 3 = .ok (.istore_n 2, 1) := by decide +kernel
theorem dX12_ones_4 : decode cX12_ones 4 = .ok (.iload_n 2, 1) := by decide +kernel
theorem dX12_ones_5 : decode cX12_ones 5 = .ok (.bipush 8, 2) := by decide +kernel
theorem dX12_ones_7 : decode cX12_ones 7 = .ok (.if_icmp .ge 17, 3) := by decide +kernel
theorem dX12_ones_10 : decode cX12_ones 10 = .ok (.iload_n 1, 1) := by decide +kernel
theorem dX12_ones_11 : decode cX12_ones 11 = .ok (.iload_n 0, 1) := by decide +kernel
theorem dX12_ones_12 : decode cX12_ones 12 = .ok (.iload_n 2, 1) := by decide +kernel
theorem dX12_ones_13 : decode cX12_ones 13 = .ok (.ishr, 1) := by decide +kernel
theorem dX12_ones_14 : decode cX12_ones 14 = .ok (.iconst 1, 1) := by decide +kernel
theorem dX12_ones_15 : decode cX12_ones 15 = .ok (.iand, 1) := by decide +kernel
theorem dX12_ones_16 : decode cX12_ones 16 = .ok (.iadd, 1) := by decide +kernel
theorem dX12_ones_17 : decode cX12_ones 17 = .ok (.istore_n 1, 1) := by decide +kernel
theorem dX12_ones_18 : decode cX12_ones 18 = .ok (.iinc 2 1, 3) := by decide +kernel
theorem dX12_ones_21 : decode cX12_ones 21 = .ok (.goto (-17), 3) := by decide +kernel
theorem dX12_ones_24 : decode cX12_ones 24 = .ok (.iload_n 1, 1) := by decide +kernel
theorem dX12_ones_25 : decode cX12_ones 25 = .ok (.ireturn, 1) := by decide +kernel
theorem dX12_init_0 : decode cX12_init 0 = .ok (.aload_n 0, 1) := by decide +kernel
theorem dX12_init_1 : decode cX12_init 1 = .ok (.invokespecial 18, 3) := by decide +kernel
theorem dX12_init_4 : decode cX12_init 4 = .ok (.aload_n 0, 1) := by decide +kernel
theorem dX12_init_5 : decode cX12_init 5 = .ok (.bipush 7, 2) := by decide +kernel
theorem dX12_init_7 : decode cX12_init 7 = .ok (.newarray .int, 2) := by decide +kernel
theorem dX12_init_9 : decode cX12_init 9 = .ok (.putfield 7, 3) := by decide +kernel
theorem dX12_init_12 : decode cX12_init 12 = .ok (.aload_n 0, 1) := by decide +kernel
theorem dX12_init_13 : decode cX12_init 13 = .ok (.sipush 5716, 3) := by decide +kernel
theorem dX12_init_16 : decode cX12_init 16 = .ok (.newarray .int, 2) := by decide +kernel
theorem dX12_init_18 : decode cX12_init 18 = .ok (.putfield 24, 3) := by decide +kernel
theorem dX12_init_21 : decode cX12_init 21 = .ok (.aload_n 0, 1) := by decide +kernel
theorem dX12_init_22 : decode cX12_init 22 = .ok (.sipush 11432, 3) := by decide +kernel
theorem dX12_init_25 : decode cX12_init 25 = .ok (.newarray .int, 2) := by decide +kernel
theorem dX12_init_27 : decode cX12_init 27 = .ok (.putfield 27, 3) := by decide +kernel
theorem dX12_init_30 : decode cX12_init 30 = .ok (.aload_n 0, 1) := by decide +kernel
theorem dX12_init_31 : decode cX12_init 31 = .ok (.iconst 2, 1) := by decide +kernel
theorem dX12_init_32 : decode cX12_init 32 = .ok (.newarray .boolean, 2) := by decide +kernel
theorem dX12_init_34 : decode cX12_init 34 = .ok (.putfield 30, 3) := by decide +kernel
theorem dX12_init_37 : decode cX12_init 37 = .ok (.aload_n 0, 1) := by decide +kernel
theorem dX12_init_38 : decode cX12_init 38 = .ok (.bipush 14, 2) := by decide +kernel
theorem dX12_init_40 : decode cX12_init 40 = .ok (.newarray .int, 2) := by decide +kernel
theorem dX12_init_42 : decode cX12_init 42 = .ok (.putfield 34, 3) := by decide +kernel
theorem dX12_init_45 : decode cX12_init 45 = .ok (.aload_n 0, 1) := by decide +kernel
theorem dX12_init_46 : decode cX12_init 46 = .ok (.sipush 157, 3) := by decide +kernel
theorem dX12_init_49 : decode cX12_init 49 = .ok (.newarray .byte, 2) := by decide +kernel
theorem dX12_init_51 : decode cX12_init 51 = .ok (.dup, 1) := by decide +kernel
theorem dX12_init_52 : decode cX12_init 52 = .ok (.iconst 0, 1) := by decide +kernel
theorem dX12_init_53 : decode cX12_init 53 = .ok (.bipush 116, 2) := by decide +kernel
theorem dX12_init_55 : decode cX12_init 55 = .ok (.bastore, 1) := by decide +kernel
theorem dX12_init_56 : decode cX12_init 56 = .ok (.dup, 1) := by decide +kernel
theorem dX12_init_57 : decode cX12_init 57 = .ok (.iconst 1, 1) := by decide +kernel
theorem dX12_init_58 : decode cX12_init 58 = .ok (.bipush 97, 2) := by decide +kernel
theorem dX12_init_60 : decode cX12_init 60 = .ok (.bastore, 1) := by decide +kernel
theorem dX12_init_61 : decode cX12_init 61 = .ok (.dup, 1) := by decide +kernel
theorem dX12_init_62 : decode cX12_init 62 = .ok (.iconst 2, 1) := by decide +kernel
theorem dX12_init_63 : decode cX12_init 63 = .ok (.bipush 107, 2) := by decide +kernel
theorem dX12_init_65 : decode cX12_init 65 = .ok (.bastore, 1) := by decide +kernel
theorem dX12_init_66 : decode cX12_init 66 = .ok (.dup, 1) := by decide +kernel
theorem dX12_init_67 : decode cX12_init 67 = .ok (.iconst 3, 1) := by decide +kernel
theorem dX12_init_68 : decode cX12_init 68 = .ok (.bipush 101, 2) := by decide +kernel
theorem dX12_init_70 : decode cX12_init 70 = .ok (.bastore, 1) := by decide +kernel
theorem dX12_init_71 : decode cX12_init 71 = .ok (.dup, 1) := by decide +kernel
theorem dX12_init_72 : decode cX12_init 72 = .ok (.iconst 4, 1) := by decide +kernel
theorem dX12_init_73 : decode cX12_init 73 = .ok (.bipush 115, 2) := by decide +kernel
theorem dX12_init_75 : decode cX12_init 75 = .ok (.bastore, 1) := by decide +kernel
theorem dX12_init_76 : decode cX12_init 76 = .ok (.dup, 1) := by decide +kernel
theorem dX12_init_77 : decode cX12_init 77 = .ok (.iconst 5, 1) := by decide +kernel
theorem dX12_init_78 : decode cX12_init 78 = .ok (.bipush 32, 2) := by decide +kernel
theorem dX12_init_80 : decode cX12_init 80 = .ok (.bastore, 1) := by decide +kernel
theorem dX12_init_81 : decode cX12_init 81 = .ok (.dup, 1) := by decide +kernel
theorem dX12_init_82 : decode cX12_init 82 = .ok (.bipush 6, 2) := by decide +kernel
theorem dX12_init_84 : decode cX12_init 84 = .ok (.bipush 99, 2) := by decide +kernel
theorem dX12_init_86 : decode cX12_init 86 = .ok (.bastore, 1) := by decide +kernel
theorem dX12_init_87 : decode cX12_init 87 = .ok (.dup, 1) := by decide +kernel
theorem dX12_init_88 : decode cX12_init 88 = .ok (.bipush 7, 2) := by decide +kernel
theorem dX12_init_90 : decode cX12_init 90 = .ok (.bipush 111, 2) := by decide +kernel
theorem dX12_init_92 : decode cX12_init 92 = .ok (.bastore, 1) := by decide +kernel
theorem dX12_init_93 : decode cX12_init 93 = .ok (.dup, 1) := by decide +kernel
theorem dX12_init_94 : decode cX12_init 94 = .ok (.bipush 8, 2) := by decide +kernel
theorem dX12_init_96 : decode cX12_init 96 = .ok (.bipush 115, 2) := by decide +kernel
theorem dX12_init_98 : decode cX12_init 98 = .ok (.bastore, 1) := by decide +kernel
theorem dX12_init_99 : decode cX12_init 99 = .ok (.dup, 1) := by decide +kernel
theorem dX12_init_100 : decode cX12_init 100 = .ok (.bipush 9, 2) := by decide +kernel
theorem dX12_init_102 : decode cX12_init 102 = .ok (.bipush 116, 2) := by decide +kernel
theorem dX12_init_104 : decode cX12_init 104 = .ok (.bastore, 1) := by decide +kernel
theorem dX12_init_105 : decode cX12_init 105 = .ok (.dup, 1) := by decide +kernel
theorem dX12_init_106 : decode cX12_init 106 = .ok (.bipush 10, 2) := by decide +kernel
theorem dX12_init_108 : decode cX12_init 108 = .ok (.bipush 115, 2) := by decide +kernel
theorem dX12_init_110 : decode cX12_init 110 = .ok (.bastore, 1) := by decide +kernel
theorem dX12_init_111 : decode cX12_init 111 = .ok (.dup, 1) := by decide +kernel
theorem dX12_init_112 : decode cX12_init 112 = .ok (.bipush 11, 2) := by decide +kernel
theorem dX12_init_114 : decode cX12_init 114 = .ok (.bipush 32, 2) := by decide +kernel
theorem dX12_init_116 : decode cX12_init 116 = .ok (.bastore, 1) := by decide +kernel
theorem dX12_init_117 : decode cX12_init 117 = .ok (.dup, 1) := by decide +kernel
theorem dX12_init_118 : decode cX12_init 118 = .ok (.bipush 12, 2) := by decide +kernel
theorem dX12_init_120 : decode cX12_init 120 = .ok (.bipush 102, 2) := by decide +kernel
theorem dX12_init_122 : decode cX12_init 122 = .ok (.bastore, 1) := by decide +kernel
theorem dX12_init_123 : decode cX12_init 123 = .ok (.dup, 1) := by decide +kernel
theorem dX12_init_124 : decode cX12_init 124 = .ok (.bipush 13, 2) := by decide +kernel
theorem dX12_init_126 : decode cX12_init 126 = .ok (.bipush 105, 2) := by decide +kernel
theorem dX12_init_128 : decode cX12_init 128 = .ok (.bastore, 1) := by decide +kernel
theorem dX12_init_129 : decode cX12_init 129 = .ok (.dup, 1) := by decide +kernel
theorem dX12_init_130 : decode cX12_init 130 = .ok (.bipush 14, 2) := by decide +kernel
theorem dX12_init_132 : decode cX12_init 132 = .ok (.bipush 116, 2) := by decide +kernel
theorem dX12_init_134 : decode cX12_init 134 = .ok (.bastore, 1) := by decide +kernel
theorem dX12_init_135 : decode cX12_init 135 = .ok (.dup, 1) := by decide +kernel
theorem dX12_init_136 : decode cX12_init 136 = .ok (.bipush 15, 2) := by decide +kernel
theorem dX12_init_138 : decode cX12_init 138 = .ok (.bipush 115, 2) := by decide +kernel
theorem dX12_init_140 : decode cX12_init 140 = .ok (.bastore, 1) := by decide +kernel
theorem dX12_init_141 : decode cX12_init 141 = .ok (.dup, 1) := by decide +kernel
theorem dX12_init_142 : decode cX12_init 142 = .ok (.bipush 16, 2) := by decide +kernel
theorem dX12_init_144 : decode cX12_init 144 = .ok (.bipush 32, 2) := by decide +kernel
theorem dX12_init_146 : decode cX12_init 146 = .ok (.bastore, 1) := by decide +kernel
theorem dX12_init_147 : decode cX12_init 147 = .ok (.dup, 1) := by decide +kernel
theorem dX12_init_148 : decode cX12_init 148 = .ok (.bipush 17, 2) := by decide +kernel
theorem dX12_init_150 : decode cX12_init 150 = .ok (.bipush 98, 2) := by decide +kernel
theorem dX12_init_152 : decode cX12_init 152 = .ok (.bastore, 1) := by decide +kernel
theorem dX12_init_153 : decode cX12_init 153 = .ok (.dup, 1) := by decide +kernel
theorem dX12_init_154 : decode cX12_init 154 = .ok (.bipush 18, 2) := by decide +kernel
theorem dX12_init_156 : decode cX12_init 156 = .ok (.bipush 97, 2) := by decide +kernel
theorem dX12_init_158 : decode cX12_init 158 = .ok (.bastore, 1) := by decide +kernel
theorem dX12_init_159 : decode cX12_init 159 = .ok (.dup, 1) := by decide +kernel
theorem dX12_init_160 : decode cX12_init 160 = .ok (.bipush 19, 2) := by decide +kernel
theorem dX12_init_162 : decode cX12_init 162 = .ok (.bipush 114, 2) := by decide +kernel
theorem dX12_init_164 : decode cX12_init 164 = .ok (.bastore, 1) := by decide +kernel
theorem dX12_init_165 : decode cX12_init 165 = .ok (.dup, 1) := by decide +kernel
theorem dX12_init_166 : decode cX12_init 166 = .ok (.bipush 20, 2) := by decide +kernel
theorem dX12_init_168 : decode cX12_init 168 = .ok (.bipush 115, 2) := by decide +kernel
theorem dX12_init_170 : decode cX12_init 170 = .ok (.bastore, 1) := by decide +kernel
theorem dX12_init_171 : decode cX12_init 171 = .ok (.dup, 1) := by decide +kernel
theorem dX12_init_172 : decode cX12_init 172 = .ok (.bipush 21, 2) := by decide +kernel
theorem dX12_init_174 : decode cX12_init 174 = .ok (.bipush 32, 2) := by decide +kernel
theorem dX12_init_176 : decode cX12_init 176 = .ok (.bastore, 1) := by decide +kernel
theorem dX12_init_177 : decode cX12_init 177 = .ok (.dup, 1) := by decide +kernel
theorem dX12_init_178 : decode cX12_init 178 = .ok (.bipush 22, 2) := by decide +kernel
theorem dX12_init_180 : decode cX12_init 180 = .ok (.bipush 105, 2) := by decide +kernel
theorem dX12_init_182 : decode cX12_init 182 = .ok (.bastore, 1) := by decide +kernel
theorem dX12_init_183 : decode cX12_init 183 = .ok (.dup, 1) := by decide +kernel
theorem dX12_init_184 : decode cX12_init 184 = .ok (.bipush 23, 2) := by decide +kernel
theorem dX12_init_186 : decode cX12_init 186 = .ok (.bipush 102, 2) := by decide +kernel
theorem dX12_init_188 : decode cX12_init 188 = .ok (.bastore, 1) := by decide +kernel
theorem dX12_init_189 : decode cX12_init 189 = .ok (.dup, 1) := by decide +kernel
theorem dX12_init_190 : decode cX12_init 190 = .ok (.bipush 24, 2) := by decide +kernel
theorem dX12_init_192 : decode cX12_init 192 = .ok (.bipush 32, 2) := by decide +kernel
theorem dX12_init_194 : decode cX12_init 194 = .ok (.bastore, 1) := by decide +kernel
theorem dX12_init_195 : decode cX12_init 195 = .ok (.dup, 1) := by decide +kernel
theorem dX12_init_196 : decode cX12_init 196 = .ok (.bipush 25, 2) := by decide +kernel
theorem dX12_init_198 : decode cX12_init 198 = .ok (.bipush 111, 2) := by decide +kernel
theorem dX12_init_200 : decode cX12_init 200 = .ok (.bastore, 1) := by decide +kernel
theorem dX12_init_201 : decode cX12_init 201 = .ok (.dup, 1) := by decide +kernel
theorem dX12_init_202 : decode cX12_init 202 = .ok (.bipush 26, 2) := by decide +kernel
theorem dX12_init_204 : decode cX12_init 204 = .ok (.bipush 114, 2) := by decide +kernel
theorem dX12_init_206 : decode cX12_init 206 = .ok (.bastore, 1) := by decide +kernel
theorem dX12_init_207 : decode cX12_init 207 = .ok (.dup, 1) := by decide +kernel
theorem dX12_init_208 : decode cX12_init 208 = .ok (.bipush 27, 2) := by decide +kernel
theorem dX12_init_210 : decode cX12_init 210 = .ok (.bipush 32, 2) := by decide +kernel
theorem dX12_init_212 : decode cX12_init 212 = .ok (.bastore, 1) := by decide +kernel
theorem dX12_init_213 : decode cX12_init 213 = .ok (.dup, 1) := by decide +kernel
theorem dX12_init_214 : decode cX12_init 214 = .ok (.bipush 28, 2) := by decide +kernel
theorem dX12_init_216 : decode cX12_init 216 = .ok (.bipush 97, 2) := by decide +kernel
theorem dX12_init_218 : decode cX12_init 218 = .ok (.bastore, 1) := by decide +kernel
theorem dX12_init_219 : decode cX12_init 219 = .ok (.dup, 1) := by decide +kernel
theorem dX12_init_220 : decode cX12_init 220 = .ok (.bipush 29, 2) := by decide +kernel
theorem dX12_init_222 : decode cX12_init 222 = .ok (.bipush 110, 2) := by decide +kernel
theorem dX12_init_224 : decode cX12_init 224 = .ok (.bastore, 1) := by decide +kernel
theorem dX12_init_225 : decode cX12_init 225 = .ok (.dup, 1) := by decide +kernel
theorem dX12_init_226 : decode cX12_init 226 = .ok (.bipush 30, 2) := by decide +kernel
theorem dX12_init_228 : decode cX12_init 228 = .ok (.bipush 100, 2) := by decide +kernel
theorem dX12_init_230 : decode cX12_init 230 = .ok (.bastore, 1) := by decide +kernel
theorem dX12_init_231 : decode cX12_init 231 = .ok (.dup, 1) := by decide +kernel
theorem dX12_init_232 : decode cX12_init 232 = .ok (.bipush 31, 2) := by decide +kernel
theorem dX12_init_234 : decode cX12_init 234 = .ok (.bipush 32, 2) := by decide +kernel
theorem dX12_init_236 : decode cX12_init 236 = .ok (.bastore, 1) := by decide +kernel
theorem dX12_init_237 : decode cX12_init 237 = .ok (.dup, 1) := by decide +kernel
theorem dX12_init_238 : decode cX12_init 238 = .ok (.bipush 32, 2) := by decide +kernel
theorem dX12_init_240 : decode cX12_init 240 = .ok (.bipush 110, 2) := by decide +kernel
theorem dX12_init_242 : decode cX12_init 242 = .ok (.bastore, 1) := by decide +kernel
theorem dX12_init_243 : decode cX12_init 243 = .ok (.dup, 1) := by decide +kernel
theorem dX12_init_244 : decode cX12_init 244 = .ok (.bipush 33, 2) := by decide +kernel
theorem dX12_init_246 : decode cX12_init 246 = .ok (.bipush 111, 2) := by decide +kernel
theorem dX12_init_248 : decode cX12_init 248 = .ok (.bastore, 1) := by decide +kernel
theorem dX12_init_249 : decode cX12_init 249 = .ok (.dup, 1) := by decide +kernel
theorem dX12_init_250 : decode cX12_init 250 = .ok (.bipush 34, 2) := by decide +kernel
theorem dX12_init_252 : decode cX12_init 252 = .ok (.bipush 116, 2) := by decide +kernel
theorem dX12_init_254 : decode cX12_init 254 = .ok (.bastore, 1) := by decide +kernel
theorem dX12_init_255 : decode cX12_init 255 = .ok (.dup, 1) := by decide +kernel
theorem dX12_init_256 : decode cX12_init 256 = .ok (.bipush 35, 2) := by decide +kernel
theorem dX12_init_258 : decode cX12_init 258 = .ok (.bipush 32, 2) := by decide +kernel
theorem dX12_init_260 : decode cX12_init 260 = .ok (.bastore, 1) := by decide +kernel
theorem dX12_init_261 : decode cX12_init 261 = .ok (.dup, 1) := by decide +kernel
theorem dX12_init_262 : decode cX12_init 262 = .ok (.bipush 36, 2) := by decide +kernel
theorem dX12_init_264 : decode cX12_init 264 = .ok (.bipush 112, 2) := by decide +kernel
theorem dX12_init_266 : decode cX12_init 266 = .ok (.bastore, 1) := by decide +kernel
theorem dX12_init_267 : decode cX12_init 267 = .ok (.dup, 1) := by decide +kernel
theorem dX12_init_268 : decode cX12_init 268 = .ok (.bipush 37, 2) := by decide +kernel
theorem dX12_init_270 : decode cX12_init 270 = .ok (.bipush 101, 2) := by decide +kernel
theorem dX12_init_272 : decode cX12_init 272 = .ok (.bastore, 1) := by decide +kernel
theorem dX12_init_273 : decode cX12_init 273 = .ok (.dup, 1) := by decide +kernel
theorem dX12_init_274 : decode cX12_init 274 = .ok (.bipush 38, 2) := by decide +kernel
theorem dX12_init_276 : decode cX12_init 276 = .ok (.bipush 114, 2) := by decide +kernel
theorem dX12_init_278 : decode cX12_init 278 = .ok (.bastore, 1) := by decide +kernel
theorem dX12_init_279 : decode cX12_init 279 = .ok (.dup, 1) := by decide +kernel
theorem dX12_init_280 : decode cX12_init 280 = .ok (.bipush 39, 2) := by decide +kernel
theorem dX12_init_282 : decode cX12_init 282 = .ok (.bipush 115, 2) := by decide +kernel
theorem dX12_init_284 : decode cX12_init 284 = .ok (.bastore, 1) := by decide +kernel
theorem dX12_init_285 : decode cX12_init 285 = .ok (.dup, 1) := by decide +kernel
theorem dX12_init_286 : decode cX12_init 286 = .ok (.bipush 40, 2) := by decide +kernel
theorem dX12_init_288 : decode cX12_init 288 = .ok (.bipush 111, 2) := by decide +kernel
theorem dX12_init_290 : decode cX12_init 290 = .ok (.bastore, 1) := by decide +kernel
theorem dX12_init_291 : decode cX12_init 291 = .ok (.dup, 1) := by decide +kernel
theorem dX12_init_292 : decode cX12_init 292 = .ok (.bipush 41, 2) := by decide +kernel
theorem dX12_init_294 : decode cX12_init 294 = .ok (.bipush 110, 2) := by decide +kernel
theorem dX12_init_296 : decode cX12_init 296 = .ok (.bastore, 1) := by decide +kernel
theorem dX12_init_297 : decode cX12_init 297 = .ok (.dup, 1) := by decide +kernel
theorem dX12_init_298 : decode cX12_init 298 = .ok (.bipush 42, 2) := by decide +kernel
theorem dX12_init_300 : decode cX12_init 300 = .ok (.bipush 32, 2) := by decide +kernel
theorem dX12_init_302 : decode cX12_init 302 = .ok (.bastore, 1) := by decide +kernel
theorem dX12_init_303 : decode cX12_init 303 = .ok (.dup, 1) := by decide +kernel
theorem dX12_init_304 : decode cX12_init 304 = .ok (.bipush 43, 2) := by decide +kernel
theorem dX12_init_306 : decode cX12_init 306 = .ok (.bipush 98, 2) := by decide +kernel
theorem dX12_init_308 : decode cX12_init 308 = .ok (.bastore, 1) := by decide +kernel
theorem dX12_init_309 : decode cX12_init 309 = .ok (.dup, 1) := by decide +kernel
theorem dX12_init_310 : decode cX12_init 310 = .ok (.bipush 44, 2) := by decide +kernel
theorem dX12_init_312 : decode cX12_init 312 = .ok (.bipush 117, 2) := by decide +kernel
theorem dX12_init_314 : decode cX12_init 314 = .ok (.bastore, 1) := by decide +kernel
theorem dX12_init_315 : decode cX12_init 315 = .ok (.dup, 1) := by decide +kernel
theorem dX12_init_316 : decode cX12_init 316 = .ok (.bipush 45, 2) := by decide +kernel
theorem dX12_init_318 : decode cX12_init 318 = .ok (.bipush 115, 2) := by decide +kernel
theorem dX12_init_320 : decode cX12_init 320 = .ok (.bastore, 1) := by decide +kernel
theorem dX12_init_321 : decode cX12_init 321 = .ok (.dup, 1) := by decide +kernel
theorem dX12_init_322 : decode cX12_init 322 = .ok (.bipush 46, 2) := by decide +kernel
theorem dX12_init_324 : decode cX12_init 324 = .ok (.bipush 105, 2) := by decide +kernel
theorem dX12_init_326 : decode cX12_init 326 = .ok (.bastore, 1) := by decide +kernel
theorem dX12_init_327 : decode cX12_init 327 = .ok (.dup, 1) := by decide +kernel
theorem dX12_init_328 : decode cX12_init 328 = .ok (.bipush 47, 2) := by decide +kernel
theorem dX12_init_330 : decode cX12_init 330 = .ok (.bipush 110, 2) := by decide +kernel
theorem dX12_init_332 : decode cX12_init 332 = .ok (.bastore, 1) := by decide +kernel
theorem dX12_init_333 : decode cX12_init 333 = .ok (.dup, 1) := by decide +kernel
theorem dX12_init_334 : decode cX12_init 334 = .ok (.bipush 48, 2) := by decide +kernel
theorem dX12_init_336 : decode cX12_init 336 = .ok (.bipush 101, 2) := by decide +kernel
theorem dX12_init_338 : decode cX12_init 338 = .ok (.bastore, 1) := by decide +kernel
theorem dX12_init_339 : decode cX12_init 339 = .ok (.dup, 1) := by decide +kernel
theorem dX12_init_340 : decode cX12_init 340 = .ok (.bipush 49, 2) := by decide +kernel
theorem dX12_init_342 : decode cX12_init 342 = .ok (.bipush 115, 2) := by decide +kernel
theorem dX12_init_344 : decode cX12_init 344 = .ok (.bastore, 1) := by decide +kernel
theorem dX12_init_345 : decode cX12_init 345 = .ok (.dup, 1) := by decide +kernel
theorem dX12_init_346 : decode cX12_init 346 = .ok (.bipush 50, 2) := by decide +kernel
theorem dX12_init_348 : decode cX12_init 348 = .ok (.bipush 115, 2) := by decide +kernel
theorem dX12_init_350 : decode cX12_init 350 = .ok (.bastore, 1) := by decide +kernel
theorem dX12_init_351 : decode cX12_init 351 = .ok (.dup, 1) := by decide +kernel
theorem dX12_init_352 : decode cX12_init 352 = .ok (.bipush 51, 2) := by decide +kernel
theorem dX12_init_354 : decode cX12_init 354 = .ok (.bipush 32, 2) := by decide +kernel
theorem dX12_init_356 : decode cX12_init 356 = .ok (.bastore, 1) := by decide +kernel
theorem dX12_init_357 : decode cX12_init 357 = .ok (.dup, 1) := by decide +kernel
theorem dX12_init_358 : decode cX12_init 358 = .ok (.bipush 52, 2) := by decide +kernel
theorem dX12_init_360 : decode cX12_init 360 = .ok (.bipush 116, 2) := by decide +kernel
theorem dX12_init_362 : decode cX12_init 362 = .ok (.bastore, 1) := by decide +kernel
theorem dX12_init_363 : decode cX12_init 363 = .ok (.dup, 1) := by decide +kernel
theorem dX12_init_364 : decode cX12_init 364 = .ok (.bipush 53, 2) := by decide +kernel
theorem dX12_init_366 : decode cX12_init 366 = .ok (.bipush 105, 2) := by decide +kernel
theorem dX12_init_368 : decode cX12_init 368 = .ok (.bastore, 1) := by decide +kernel
theorem dX12_init_369 : decode cX12_init 369 = .ok (.dup, 1) := by decide +kernel
theorem dX12_init_370 : decode cX12_init 370 = .ok (.bipush 54, 2) := by decide +kernel
theorem dX12_init_372 : decode cX12_init 372 = .ok (.bipush 99, 2) := by decide +kernel
theorem dX12_init_374 : decode cX12_init 374 = .ok (.bastore, 1) := by decide +kernel
theorem dX12_init_375 : decode cX12_init 375 = .ok (.dup, 1) := by decide +kernel
theorem dX12_init_376 : decode cX12_init 376 = .ok (.bipush 55, 2) := by decide +kernel
theorem dX12_init_378 : decode cX12_init 378 = .ok (.bipush 107, 2) := by decide +kernel
theorem dX12_init_380 : decode cX12_init 380 = .ok (.bastore, 1) := by decide +kernel
theorem dX12_init_381 : decode cX12_init 381 = .ok (.dup, 1) := by decide +kernel
theorem dX12_init_382 : decode cX12_init 382 = .ok (.bipush 56, 2) := by decide +kernel
theorem dX12_init_384 : decode cX12_init 384 = .ok (.bipush 101, 2) := by decide +kernel
theorem dX12_init_386 : decode cX12_init 386 = .ok (.bastore, 1) := by decide +kernel
theorem dX12_init_387 : decode cX12_init 387 = .ok (.dup, 1) := by decide +kernel
theorem dX12_init_388 : decode cX12_init 388 = .ok (.bipush 57, 2) := by decide +kernel
theorem dX12_init_390 : decode cX12_init 390 = .ok (.bipush 116, 2) := by decide +kernel
theorem dX12_init_392 : decode cX12_init 392 = .ok (.bastore, 1) := by decide +kernel
theorem dX12_init_393 : decode cX12_init 393 = .ok (.dup, 1) := by decide +kernel
theorem dX12_init_394 : decode cX12_init 394 = .ok (.bipush 58, 2) := by decide +kernel
theorem dX12_init_396 : decode cX12_init 396 = .ok (.bipush 32, 2) := by decide +kernel
theorem dX12_init_398 : decode cX12_init 398 = .ok (.bastore, 1) := by decide +kernel
theorem dX12_init_399 : decode cX12_init 399 = .ok (.dup, 1) := by decide +kernel
theorem dX12_init_400 : decode cX12_init 400 = .ok (.bipush 59, 2) := by decide +kernel
theorem dX12_init_402 : decode cX12_init 402 = .ok (.bipush 110, 2) := by decide +kernel
theorem dX12_init_404 : decode cX12_init 404 = .ok (.bastore, 1) := by decide +kernel
theorem dX12_init_405 : decode cX12_init 405 = .ok (.dup, 1) := by decide +kernel
theorem dX12_init_406 : decode cX12_init 406 = .ok (.bipush 60, 2) := by decide +kernel
theorem dX12_init_408 : decode cX12_init 408 = .ok (.bipush 117, 2) := by decide +kernel
theorem dX12_init_410 : decode cX12_init 410 = .ok (.bastore, 1) := by decide +kernel
theorem dX12_init_411 : decode cX12_init 411 = .ok (.dup, 1) := by decide +kernel
theorem dX12_init_412 : decode cX12_init 412 = .ok (.bipush 61, 2) := by decide +kernel
theorem dX12_init_414 : decode cX12_init 414 = .ok (.bipush 109, 2) := by decide +kernel
theorem dX12_init_416 : decode cX12_init 416 = .ok (.bastore, 1) := by decide +kernel
theorem dX12_init_417 : decode cX12_init 417 = .ok (.dup, 1) := by decide +kernel
theorem dX12_init_418 : decode cX12_init 418 = .ok (.bipush 62, 2) := by decide +kernel
theorem dX12_init_420 : decode cX12_init 420 = .ok (.bipush 98, 2) := by decide +kernel
theorem dX12_init_422 : decode cX12_init 422 = .ok (.bastore, 1) := by decide +kernel
theorem dX12_init_423 : decode cX12_init 423 = .ok (.dup, 1) := by decide +kernel
theorem dX12_init_424 : decode cX12_init 424 = .ok (.bipush 63, 2) := by decide +kernel
theorem dX12_init_426 : decode cX12_init 426 = .ok (.bipush 101, 2) := by decide +kernel
theorem dX12_init_428 : decode cX12_init 428 = .ok (.bastore, 1) := by decide +kernel
theorem dX12_init_429 : decode cX12_init 429 = .ok (.dup, 1) := by decide +kernel
theorem dX12_init_430 : decode cX12_init 430 = .ok (.bipush 64, 2) := by decide +kernel
theorem dX12_init_432 : decode cX12_init 432 = .ok (.bipush 114, 2) := by decide +kernel
theorem dX12_init_434 : decode cX12_init 434 = .ok (.bastore, 1) := by decide +kernel
theorem dX12_init_435 : decode cX12_init 435 = .ok (.dup, 1) := by decide +kernel
theorem dX12_init_436 : decode cX12_init 436 = .ok (.bipush 65, 2) := by decide +kernel
theorem dX12_init_438 : decode cX12_init 438 = .ok (.bipush 32, 2) := by decide +kernel
theorem dX12_init_440 : decode cX12_init 440 = .ok (.bastore, 1) := by decide +kernel
theorem dX12_init_441 : decode cX12_init 441 = .ok (.dup, 1) := by decide +kernel
theorem dX12_init_442 : decode cX12_init 442 = .ok (.bipush 66, 2) := by decide +kernel
theorem dX12_init_444 : decode cX12_init 444 = .ok (.bipush 107, 2) := by decide +kernel
theorem dX12_init_446 : decode cX12_init 446 = .ok (.bastore, 1) := by decide +kernel
theorem dX12_init_447 : decode cX12_init 447 = .ok (.dup, 1) := by decide +kernel
theorem dX12_init_448 : decode cX12_init 448 = .ok (.bipush 67, 2) := by decide +kernel
theorem dX12_init_450 : decode cX12_init 450 = .ok (.bipush 105, 2) := by decide +kernel
theorem dX12_init_452 : decode cX12_init 452 = .ok (.bastore, 1) := by decide +kernel
theorem dX12_init_453 : decode cX12_init 453 = .ok (.dup, 1) := by decide +kernel
theorem dX12_init_454 : decode cX12_init 454 = .ok (.bipush 68, 2) := by decide +kernel
theorem dX12_init_456 : decode cX12_init 456 = .ok (.bipush 110, 2) := by decide +kernel
theorem dX12_init_458 : decode cX12_init 458 = .ok (.bastore, 1) := by decide +kernel
theorem dX12_init_459 : decode cX12_init 459 = .ok (.dup, 1) := by decide +kernel
theorem dX12_init_460 : decode cX12_init 460 = .ok (.bipush 69, 2) := by decide +kernel
theorem dX12_init_462 : decode cX12_init 462 = .ok (.bipush 100, 2) := by decide +kernel
theorem dX12_init_464 : decode cX12_init 464 = .ok (.bastore, 1) := by decide +kernel
theorem dX12_init_465 : decode cX12_init 465 = .ok (.dup, 1) := by decide +kernel
theorem dX12_init_466 : decode cX12_init 466 = .ok (.bipush 70, 2) := by decide +kernel
theorem dX12_init_468 : decode cX12_init 468 = .ok (.bipush 32, 2) := by decide +kernel
theorem dX12_init_470 : decode cX12_init 470 = .ok (.bastore, 1) := by decide +kernel
theorem dX12_init_471 : decode cX12_init 471 = .ok (.dup, 1) := by decide +kernel
theorem dX12_init_472 : decode cX12_init 472 = .ok (.bipush 71, 2) := by decide +kernel
theorem dX12_init_474 : decode cX12_init 474 = .ok (.bipush 115, 2) := by decide +kernel
theorem dX12_init_476 : decode cX12_init 476 = .ok (.bastore, 1) := by decide +kernel
theorem dX12_init_477 : decode cX12_init 477 = .ok (.dup, 1) := by decide +kernel
theorem dX12_init_478 : decode cX12_init 478 = .ok (.bipush 72, 2) := by decide +kernel
theorem dX12_init_480 : decode cX12_init 480 = .ok (.bipush 112, 2) := by decide +kernel
theorem dX12_init_482 : decode cX12_init 482 = .ok (.bastore, 1) := by decide +kernel
theorem dX12_init_483 : decode cX12_init 483 = .ok (.dup, 1) := by decide +kernel
theorem dX12_init_484 : decode cX12_init 484 = .ok (.bipush 73, 2) := by decide +kernel
theorem dX12_init_486 : decode cX12_init 486 = .ok (.bipush 101, 2) := by decide +kernel
theorem dX12_init_488 : decode cX12_init 488 = .ok (.bastore, 1) := by decide +kernel
theorem dX12_init_489 : decode cX12_init 489 = .ok (.dup, 1) := by decide +kernel
theorem dX12_init_490 : decode cX12_init 490 = .ok (.bipush 74, 2) := by decide +kernel
theorem dX12_init_492 : decode cX12_init 492 = .ok (.bipush 101, 2) := by decide +kernel
theorem dX12_init_494 : decode cX12_init 494 = .ok (.bastore, 1) := by decide +kernel
theorem dX12_init_495 : decode cX12_init 495 = .ok (.dup, 1) := by decide +kernel
theorem dX12_init_496 : decode cX12_init 496 = .ok (.bipush 75, 2) := by decide +kernel
theorem dX12_init_498 : decode cX12_init 498 = .ok (.bipush 100, 2) := by decide +kernel
theorem dX12_init_500 : decode cX12_init 500 = .ok (.bastore, 1) := by decide +kernel
theorem dX12_init_501 : decode cX12_init 501 = .ok (.dup, 1) := by decide +kernel
theorem dX12_init_502 : decode cX12_init 502 = .ok (.bipush 76, 2) := by decide +kernel
theorem dX12_init_504 : decode cX12_init 504 = .ok (.bipush 32, 2) := by decide +kernel
theorem dX12_init_506 : decode cX12_init 506 = .ok (.bastore, 1) := by decide +kernel
theorem dX12_init_507 : decode cX12_init 507 = .ok (.dup, 1) := by decide +kernel
theorem dX12_init_508 : decode cX12_init 508 = .ok (.bipush 77, 2) := by decide +kernel
theorem dX12_init_510 : decode cX12_init 510 = .ok (.bipush 109, 2) := by decide +kernel
theorem dX12_init_512 : decode cX12_init 512 = .ok (.bastore, 1) := by decide +kernel
theorem dX12_init_513 : decode cX12_init 513 = .ok (.dup, 1) := by decide +kernel
theorem dX12_init_514 : decode cX12_init 514 = .ok (.bipush 78, 2) := by decide +kernel
theorem dX12_init_516 : decode cX12_init 516 = .ok (.bipush 111, 2) := by decide +kernel
theorem dX12_init_518 : decode cX12_init 518 = .ok (.bastore, 1) := by decide +kernel
theorem dX12_init_519 : decode cX12_init 519 = .ok (.dup, 1) := by decide +kernel
theorem dX12_init_520 : decode cX12_init 520 = .ok (.bipush 79, 2) := by decide +kernel
theorem dX12_init_522 : decode cX12_init 522 = .ok (.bipush 111, 2) := by decide +kernel
theorem dX12_init_524 : decode cX12_init 524 = .ok (.bastore, 1) := by decide +kernel
theorem dX12_init_525 : decode cX12_init 525 = .ok (.dup, 1) := by decide +kernel
theorem dX12_init_526 : decode cX12_init 526 = .ok (.bipush 80, 2) := by decide +kernel
theorem dX12_init_528 : decode cX12_init 528 = .ok (.bipush 100, 2) := by decide +kernel
theorem dX12_init_530 : decode cX12_init 530 = .ok (.bastore, 1) := by decide +kernel
theorem dX12_init_531 : decode cX12_init 531 = .ok (.dup, 1) := by decide +kernel
theorem dX12_init_532 : decode cX12_init 532 = .ok (.bipush 81, 2) := by decide +kernel
theorem dX12_init_534 : decode cX12_init 534 = .ok (.bipush 32, 2) := by decide +kernel
theorem dX12_init_536 : decode cX12_init 536 = .ok (.bastore, 1) := by decide +kernel
theorem dX12_init_537 : decode cX12_init 537 = .ok (.dup, 1) := by decide +kernel
theorem dX12_init_538 : decode cX12_init 538 = .ok (.bipush 82, 2) := by decide +kernel
theorem dX12_init_540 : decode cX12_init 540 = .ok (.bipush 112, 2) := by decide +kernel
theorem dX12_init_542 : decode cX12_init 542 = .ok (.bastore, 1) := by decide +kernel
theorem dX12_init_543 : decode cX12_init 543 = .ok (.dup, 1) := by decide +kernel
theorem dX12_init_544 : decode cX12_init 544 = .ok (.bipush 83, 2) := by decide +kernel
theorem dX12_init_546 : decode cX12_init 546 = .ok (.bipush 97, 2) := by decide +kernel
theorem dX12_init_548 : decode cX12_init 548 = .ok (.bastore, 1) := by decide +kernel
theorem dX12_init_549 : decode cX12_init 549 = .ok (.dup, 1) := by decide +kernel
theorem dX12_init_550 : decode cX12_init 550 = .ok (.bipush 84, 2) := by decide +kernel
theorem dX12_init_552 : decode cX12_init 552 = .ok (.bipush 116, 2) := by decide +kernel
theorem dX12_init_554 : decode cX12_init 554 = .ok (.bastore, 1) := by decide +kernel
theorem dX12_init_555 : decode cX12_init 555 = .ok (.dup, 1) := by decide +kernel
theorem dX12_init_556 : decode cX12_init 556 = .ok (.bipush 85, 2) := by decide +kernel
theorem dX12_init_558 : decode cX12_init 558 = .ok (.bipush 105, 2) := by decide +kernel
theorem dX12_init_560 : decode cX12_init 560 = .ok (.bastore, 1) := by decide +kernel
theorem dX12_init_561 : decode cX12_init 561 = .ok (.dup, 1) := by decide +kernel
theorem dX12_init_562 : decode cX12_init 562 = .ok (.bipush 86, 2) := by decide +kernel
theorem dX12_init_564 : decode cX12_init 564 = .ok (.bipush 101, 2) := by decide +kernel
theorem dX12_init_566 : decode cX12_init 566 = .ok (.bastore, 1) := by decide +kernel
theorem dX12_init_567 : decode cX12_init 567 = .ok (.dup, 1) := by decide +kernel
theorem dX12_init_568 : decode cX12_init 568 = .ok (.bipush 87, 2) := by decide +kernel
theorem dX12_init_570 : decode cX12_init 570 = .ok (.bipush 110, 2) := by decide +kernel
theorem dX12_init_572 : decode cX12_init 572 = .ok (.bastore, 1) := by decide +kernel
theorem dX12_init_573 : decode cX12_init 573 = .ok (.dup, 1) := by decide +kernel
theorem dX12_init_574 : decode cX12_init 574 = .ok (.bipush 88, 2) := by decide +kernel
theorem dX12_init_576 : decode cX12_init 576 = .ok (.bipush 99, 2) := by decide +kernel
theorem dX12_init_578 : decode cX12_init 578 = .ok (.bastore, 1) := by decide +kernel
theorem dX12_init_579 : decode cX12_init 579 = .ok (.dup, 1) := by decide +kernel
theorem dX12_init_580 : decode cX12_init 580 = .ok (.bipush 89, 2) := by decide +kernel
theorem dX12_init_582 : decode cX12_init 582 = .ok (.bipush 101, 2) := by decide +kernel
theorem dX12_init_584 : decode cX12_init 584 = .ok (.bastore, 1) := by decide +kernel
theorem dX12_init_585 : decode cX12_init 585 = .ok (.dup, 1) := by decide +kernel
theorem dX12_init_586 : decode cX12_init 586 = .ok (.bipush 90, 2) := by decide +kernel
theorem dX12_init_588 : decode cX12_init 588 = .ok (.bipush 32, 2) := by decide +kernel
theorem dX12_init_590 : decode cX12_init 590 = .ok (.bastore, 1) := by decide +kernel
theorem dX12_init_591 : decode cX12_init 591 = .ok (.dup, 1) := by decide +kernel
theorem dX12_init_592 : decode cX12_init 592 = .ok (.bipush 91, 2) := by decide +kernel
theorem dX12_init_594 : decode cX12_init 594 = .ok (.bipush 109, 2) := by decide +kernel
theorem dX12_init_596 : decode cX12_init 596 = .ok (.bastore, 1) := by decide +kernel
theorem dX12_init_597 : decode cX12_init 597 = .ok (.dup, 1) := by decide +kernel
theorem dX12_init_598 : decode cX12_init 598 = .ok (.bipush 92, 2) := by decide +kernel
theorem dX12_init_600 : decode cX12_init 600 = .ok (.bipush 105, 2) := by decide +kernel
theorem dX12_init_602 : decode cX12_init 602 = .ok (.bastore, 1) := by decide +kernel
theorem dX12_init_603 : decode cX12_init 603 = .ok (.dup, 1) := by decide +kernel
theorem dX12_init_604 : decode cX12_init 604 = .ok (.bipush 93, 2) := by decide +kernel
theorem dX12_init_606 : decode cX12_init 606 = .ok (.bipush 110, 2) := by decide +kernel
theorem dX12_init_608 : decode cX12_init 608 = .ok (.bastore, 1) := by decide +kernel
theorem dX12_init_609 : decode cX12_init 609 = .ok (.dup, 1) := by decide +kernel
theorem dX12_init_610 : decode cX12_init 610 = .ok (.bipush 94, 2) := by decide +kernel
theorem dX12_init_612 : decode cX12_init 612 = .ok (.bipush 117, 2) := by decide +kernel
theorem dX12_init_614 : decode cX12_init 614 = .ok (.bastore, 1) := by decide +kernel
theorem dX12_init_615 : decode cX12_init 615 = .ok (.dup, 1) := by decide +kernel
theorem dX12_init_616 : decode cX12_init 616 = .ok (.bipush 95, 2) := by decide +kernel
theorem dX12_init_618 : decode cX12_init 618 = .ok (.bipush 116, 2) := by decide +kernel
theorem dX12_init_620 : decode cX12_init 620 = .ok (.bastore, 1) := by decide +kernel
theorem dX12_init_621 : decode cX12_init 621 = .ok (.dup, 1) := by decide +kernel
theorem dX12_init_622 : decode cX12_init 622 = .ok (.bipush 96, 2) := by decide +kernel
theorem dX12_init_624 : decode cX12_init 624 = .ok (.bipush 101, 2) := by decide +kernel
theorem dX12_init_626 : decode cX12_init 626 = .ok (.bastore, 1) := by decide +kernel
theorem dX12_init_627 : decode cX12_init 627 = .ok (.dup, 1) := by decide +kernel
theorem dX12_init_628 : decode cX12_init 628 = .ok (.bipush 97, 2) := by decide +kernel
theorem dX12_init_630 : decode cX12_init 630 = .ok (.bipush 32, 2) := by decide +kernel
theorem dX12_init_632 : decode cX12_init 632 = .ok (.bastore, 1) := by decide +kernel
theorem dX12_init_633 : decode cX12_init 633 = .ok (.dup, 1) := by decide +kernel
theorem dX12_init_634 : decode cX12_init 634 = .ok (.bipush 98, 2) := by decide +kernel
theorem dX12_init_636 : decode cX12_init 636 = .ok (.bipush 100, 2) := by decide +kernel
theorem dX12_init_638 : decode cX12_init 638 = .ok (.bastore, 1) := by decide +kernel
theorem dX12_init_639 : decode cX12_init 639 = .ok (.dup, 1) := by decide +kernel
theorem dX12_init_640 : decode cX12_init 640 = .ok (.bipush 99, 2) := by decide +kernel
theorem dX12_init_642 : decode cX12_init 642 = .ok (.bipush 111, 2) := by decide +kernel
theorem dX12_init_644 : decode cX12_init 644 = .ok (.bastore, 1) := by decide +kernel
theorem dX12_init_645 : decode cX12_init 645 = .ok (.dup, 1) := by decide +kernel
theorem dX12_init_646 : decode cX12_init 646 = .ok (.bipush 100, 2) := by decide +kernel
theorem dX12_init_648 : decode cX12_init 648 = .ok (.bipush 110, 2) := by decide +kernel
theorem dX12_init_650 : decode cX12_init 650 = .ok (.bastore, 1) := by decide +kernel
theorem dX12_init_651 : decode cX12_init 651 = .ok (.dup, 1) := by decide +kernel
theorem dX12_init_652 : decode cX12_init 652 = .ok (.bipush 101, 2) := by decide +kernel
theorem dX12_init_654 : decode cX12_init 654 = .ok (.bipush 101, 2) := by decide +kernel
theorem dX12_init_656 : decode cX12_init 656 = .ok (.bastore, 1) := by decide +kernel
theorem dX12_init_657 : decode cX12_init 657 = .ok (.dup, 1) := by decide +kernel
theorem dX12_init_658 : decode cX12_init 658 = .ok (.bipush 102, 2) := by decide +kernel
theorem dX12_init_660 : decode cX12_init 660 = .ok (.bipush 32, 2) := by decide +kernel
theorem dX12_init_662 : decode cX12_init 662 = .ok (.bastore, 1) := by decide +kernel
theorem dX12_init_663 : decode cX12_init 663 = .ok (.dup, 1) := by decide +kernel
theorem dX12_init_664 : decode cX12_init 664 = .ok (.bipush 103, 2) := by decide +kernel
theorem dX12_init_666 : decode cX12_init 666 = .ok (.bipush 108, 2) := by decide +kernel
theorem dX12_init_668 : decode cX12_init 668 = .ok (.bastore, 1) := by decide +kernel
theorem dX12_init_669 : decode cX12_init 669 = .ok (.dup, 1) := by decide +kernel
theorem dX12_init_670 : decode cX12_init 670 = .ok (.bipush 104, 2) := by decide +kernel
theorem dX12_init_672 : decode cX12_init 672 = .ok (.bipush 97, 2) := by decide +kernel
theorem dX12_init_674 : decode cX12_init 674 = .ok (.bastore, 1) := by decide +kernel
theorem dX12_init_675 : decode cX12_init 675 = .ok (.dup, 1) := by decide +kernel
theorem dX12_init_676 : decode cX12_init 676 = .ok (.bipush 105, 2) := by decide +kernel
theorem dX12_init_678 : decode cX12_init 678 = .ok (.bipush 116, 2) := by decide +kernel
theorem dX12_init_680 : decode cX12_init 680 = .ok (.bastore, 1) := by decide +kernel
theorem dX12_init_681 : decode cX12_init 681 = .ok (.dup, 1) := by decide +kernel
theorem dX12_init_682 : decode cX12_init 682 = .ok (.bipush 106, 2) := by decide +kernel
theorem dX12_init_684 : decode cX12_init 684 = .ok (.bipush 101, 2) := by decide +kernel
theorem dX12_init_686 : decode cX12_init 686 = .ok (.bastore, 1) := by decide +kernel
theorem dX12_init_687 : decode cX12_init 687 = .ok (.dup, 1) := by decide +kernel
theorem dX12_init_688 : decode cX12_init 688 = .ok (.bipush 107, 2) := by decide +kernel
theorem dX12_init_690 : decode cX12_init 690 = .ok (.bipush 115, 2) := by decide +kernel
theorem dX12_init_692 : decode cX12_init 692 = .ok (.bastore, 1) := by decide +kernel
theorem dX12_init_693 : decode cX12_init 693 = .ok (.dup, 1) := by decide +kernel
theorem dX12_init_694 : decode cX12_init 694 = .ok (.bipush 108, 2) := by decide +kernel
theorem dX12_init_696 : decode cX12_init 696 = .ok (.bipush 116, 2) := by decide +kernel
theorem dX12_init_698 : decode cX12_init 698 = .ok (.bastore, 1) := by decide +kernel
theorem dX12_init_699 : decode cX12_init 699 = .ok (.dup, 1) := by decide +kernel
theorem dX12_init_700 : decode cX12_init 700 = .ok (.bipush 109, 2) := by decide +kernel
theorem dX12_init_702 : decode cX12_init 702 = .ok (.bipush 32, 2) := by decide +kernel
theorem dX12_init_704 : decode cX12_init 704 = .ok (.bastore, 1) := by decide +kernel
theorem dX12_init_705 : decode cX12_init 705 = .ok (.dup, 1) := by decide +kernel
theorem dX12_init_706 : decode cX12_init 706 = .ok (.bipush 110, 2) := by decide +kernel
theorem dX12_init_708 : decode cX12_init 708 = .ok (.bipush 102, 2) := by decide +kernel
theorem dX12_init_710 : decode cX12_init 710 = .ok (.bastore, 1) := by decide +kernel
theorem dX12_init_711 : decode cX12_init 711 = .ok (.dup, 1) := by decide +kernel
theorem dX12_init_712 : decode cX12_init 712 = .ok (.bipush 111, 2) := by decide +kernel
theorem dX12_init_714 : decode cX12_init 714 = .ok (.bipush 105, 2) := by decide +kernel
theorem dX12_init_716 : decode cX12_init 716 = .ok (.bastore, 1) := by decide +kernel
theorem dX12_init_717 : decode cX12_init 717 = .ok (.dup, 1) := by decide +kernel
theorem dX12_init_718 : decode cX12_init 718 = .ok (.bipush 112, 2) := by decide +kernel
theorem dX12_init_720 : decode cX12_init 720 = .ok (.bipush 116, 2) := by decide +kernel
theorem dX12_init_722 : decode cX12_init 722 = .ok (.bastore, 1) := by decide +kernel
theorem dX12_init_723 : decode cX12_init 723 = .ok (.dup, 1) := by decide +kernel
theorem dX12_init_724 : decode cX12_init 724 = .ok (.bipush 113, 2) := by decide +kernel
theorem dX12_init_726 : decode cX12_init 726 = .ok (.bipush 32, 2) := by decide +kernel
theorem dX12_init_728 : decode cX12_init 728 = .ok (.bastore, 1) := by decide +kernel
theorem dX12_init_729 : decode cX12_init 729 = .ok (.dup, 1) := by decide +kernel
theorem dX12_init_730 : decode cX12_init 730 = .ok (.bipush 114, 2) := by decide +kernel
theorem dX12_init_732 : decode cX12_init 732 = .ok (.bipush 102, 2) := by decide +kernel
theorem dX12_init_734 : decode cX12_init 734 = .ok (.bastore, 1) := by decide +kernel
theorem dX12_init_735 : decode cX12_init 735 = .ok (.dup, 1) := by decide +kernel
theorem dX12_init_736 : decode cX12_init 736 = .ok (.bipush 115, 2) := by decide +kernel
theorem dX12_init_738 : decode cX12_init 738 = .ok (.bipush 114, 2) := by decide +kernel
theorem dX12_init_740 : decode cX12_init 740 = .ok (.bastore, 1) := by decide +kernel
theorem dX12_init_741 : decode cX12_init 741 = .ok (.dup, 1) := by decide +kernel
theorem dX12_init_742 : decode cX12_init 742 = .ok (.bipush 116, 2) := by decide +kernel
theorem dX12_init_744 : decode cX12_init 744 = .ok (.bipush 101, 2) := by decide +kernel
theorem dX12_init_746 : decode cX12_init 746 = .ok (.bastore, 1) := by decide +kernel
theorem dX12_init_747 : decode cX12_init 747 = .ok (.dup, 1) := by decide +kernel
theorem dX12_init_748 : decode cX12_init 748 = .ok (.bipush 117, 2) := by decide +kernel
theorem dX12_init_750 : decode cX12_init 750 = .ok (.bipush 101, 2) := by decide +kernel
theorem dX12_init_752 : decode cX12_init 752 = .ok (.bastore, 1) := by decide +kernel
theorem dX12_init_753 : decode cX12_init 753 = .ok (.dup, 1) := by decide +kernel
theorem dX12_init_754 : decode cX12_init 754 = .ok (.bipush 118, 2) := by decide +kernel
theorem dX12_init_756 : decode cX12_init 756 = .ok (.bipush 32, 2) := by decide +kernel
theorem dX12_init_758 : decode cX12_init 758 = .ok (.bastore, 1) := by decide +kernel
theorem dX12_init_759 : decode cX12_init 759 = .ok (.dup, 1) := by decide +kernel
theorem dX12_init_760 : decode cX12_init 760 = .ok (.bipush 119, 2) := by decide +kernel
theorem dX12_init_762 : decode cX12_init 762 = .ok (.bipush 104, 2) := by decide +kernel
theorem dX12_init_764 : decode cX12_init 764 = .ok (.bastore, 1) := by decide +kernel
theorem dX12_init_765 : decode cX12_init 765 = .ok (.dup, 1) := by decide +kernel
theorem dX12_init_766 : decode cX12_init 766 = .ok (.bipush 120, 2) := by decide +kernel
theorem dX12_init_768 : decode cX12_init 768 = .ok (.bipush 97, 2) := by decide +kernel
theorem dX12_init_770 : decode cX12_init 770 = .ok (.bastore, 1) := by decide +kernel
theorem dX12_init_771 : decode cX12_init 771 = .ok (.dup, 1) := by decide +kernel
theorem dX12_init_772 : decode cX12_init 772 = .ok (.bipush 121, 2) := by decide +kernel
theorem dX12_init_774 : decode cX12_init 774 = .ok (.bipush 115, 2) := by decide +kernel
theorem dX12_init_776 : decode cX12_init 776 = .ok (.bastore, 1) := by decide +kernel
theorem dX12_init_777 : decode cX12_init 777 = .ok (.dup, 1) := by decide +kernel
theorem dX12_init_778 : decode cX12_init 778 = .ok (.bipush 122, 2) := by decide +kernel
theorem dX12_init_780 : decode cX12_init 780 = .ok (.bipush 32, 2) := by decide +kernel
theorem dX12_init_782 : decode cX12_init 782 = .ok (.bastore, 1) := by decide +kernel
theorem dX12_init_783 : decode cX12_init 783 = .ok (.dup, 1) := by decide +kernel
theorem dX12_init_784 : decode cX12_init 784 = .ok (.bipush 123, 2) := by decide +kernel
theorem dX12_init_786 : decode cX12_init 786 = .ok (.bipush 100, 2) := by decide +kernel
theorem dX12_init_788 : decode cX12_init 788 = .ok (.bastore, 1) := by decide +kernel
theorem dX12_init_789 : decode cX12_init 789 = .ok (.dup, 1) := by decide +kernel
theorem dX12_init_790 : decode cX12_init 790 = .ok (.bipush 124, 2) := by decide +kernel
theorem dX12_init_792 : decode cX12_init 792 = .ok (.bipush 114, 2) := by decide +kernel
theorem dX12_init_794 : decode cX12_init 794 = .ok (.bastore, 1) := by decide +kernel
theorem dX12_init_795 : decode cX12_init 795 = .ok (.dup, 1) := by decide +kernel
theorem dX12_init_796 : decode cX12_init 796 = .ok (.bipush 125, 2) := by decide +kernel
theorem dX12_init_798 : decode cX12_init 798 = .ok (.bipush 97, 2) := by decide +kernel
theorem dX12_init_800 : decode cX12_init 800 = .ok (.bastore, 1) := by decide +kernel
theorem dX12_init_801 : decode cX12_init 801 = .ok (.dup, 1) := by decide +kernel
theorem dX12_init_802 : decode cX12_init 802 = .ok (.bipush 126, 2) := by decide +kernel
theorem dX12_init_804 : decode cX12_init 804 = .ok (.bipush 119, 2) := by decide +kernel
theorem dX12_init_806 : decode cX12_init 806 = .ok (.bastore, 1) := by decide +kernel
theorem dX12_init_807 : decode cX12_init 807 = .ok (.dup, 1) := by decide +kernel
theorem dX12_init_808 : decode cX12_init 808 = .ok (.bipush 127, 2) := by decide +kernel
theorem dX12_init_810 : decode cX12_init 810 = .ok (.bipush 32, 2) := by decide +kernel
theorem dX12_init_812 : decode cX12_init 812 = .ok (.bastore, 1) := by decide +kernel
theorem dX12_init_813 : decode cX12_init 813 = .ok (.dup, 1) := by decide +kernel
theorem dX12_init_814 : decode cX12_init 814 = .ok (.sipush 128, 3) := by decide +kernel
theorem dX12_init_817 : decode cX12_init 817 = .ok (.bipush 98, 2) := by decide +kernel
theorem dX12_init_819 : decode cX12_init 819 = .ok (.bastore, 1) := by decide +kernel
theorem dX12_init_820 : decode cX12_init 820 = .ok (.dup, 1) := by decide +kernel
theorem dX12_init_821 : decode cX12_init 821 = .ok (.sipush 129, 3) := by decide +kernel
theorem dX12_init_824 : decode cX12_init 824 = .ok (.bipush 121, 2) := by decide +kernel
theorem dX12_init_826 : decode cX12_init 826 = .ok (.bastore, 1) := by decide +kernel
theorem dX12_init_827 : decode cX12_init 827 = .ok (.dup, 1) := by decide +kernel
theorem dX12_init_828 : decode cX12_init 828 = .ok (.sipush 130, 3) := by decide +kernel
theorem dX12_init_831 : decode cX12_init 831 = .ok (.bipush 32, 2) := by decide +kernel
theorem dX12_init_833 : decode cX12_init 833 = .ok (.bastore, 1) := by decide +kernel
theorem dX12_init_834 : decode cX12_init 834 = .ok (.dup, 1) := by decide +kernel
theorem dX12_init_835 : decode cX12_init 835 = .ok (.sipush 131, 3) := by decide +kernel
theorem dX12_init_838 : decode cX12_init 838 = .ok (.bipush 115, 2) := by decide +kernel
theorem dX12_init_840 : decode cX12_init 840 = .ok (.bastore, 1) := by decide +kernel
theorem dX12_init_841 : decode cX12_init 841 = .ok (.dup, 1) := by decide +kernel
theorem dX12_init_842 : decode cX12_init 842 = .ok (.sipush 132, 3) := by decide +kernel
theorem dX12_init_845 : decode cX12_init 845 = .ok (.bipush 119, 2) := by decide +kernel
theorem dX12_init_847 : decode cX12_init 847 = .ok (.bastore, 1) := by decide +kernel
theorem dX12_init_848 : decode cX12_init 848 = .ok (.dup, 1) := by decide +kernel
theorem dX12_init_849 : decode cX12_init 849 = .ok (.sipush 133, 3) := by decide +kernel
theorem dX12_init_852 : decode cX12_init 852 = .ok (.bipush 97, 2) := by decide +kernel
theorem dX12_init_854 : decode cX12_init 854 = .ok (.bastore, 1) := by decide +kernel
theorem dX12_init_855 : decode cX12_init 855 = .ok (.dup, 1) := by decide +kernel
theorem dX12_init_856 : decode cX12_init 856 = .ok (.sipush 134, 3) := by decide +kernel
theorem dX12_init_859 : decode cX12_init 859 = .ok (.bipush 112, 2) := by decide +kernel
theorem dX12_init_861 : decode cX12_init 861 = .ok (.bastore, 1) := by decide +kernel
theorem dX12_init_862 : decode cX12_init 862 = .ok (.dup, 1) := by decide +kernel
theorem dX12_init_863 : decode cX12_init 863 = .ok (.sipush 135, 3) := by decide +kernel
theorem dX12_init_866 : decode cX12_init 866 = .ok (.bipush 32, 2) := by decide +kernel
theorem dX12_init_868 : decode cX12_init 868 = .ok (.bastore, 1) := by decide +kernel
theorem dX12_init_869 : decode cX12_init 869 = .ok (.dup, 1) := by decide +kernel
theorem dX12_init_870 : decode cX12_init 870 = .ok (.sipush 136, 3) := by decide +kernel
theorem dX12_init_873 : decode cX12_init 873 = .ok (.bipush 119, 2) := by decide +kernel
theorem dX12_init_875 : decode cX12_init 875 = .ok (.bastore, 1) := by decide +kernel
theorem dX12_init_876 : decode cX12_init 876 = .ok (.dup, 1) := by decide +kernel
theorem dX12_init_877 : decode cX12_init 877 = .ok (.sipush 137, 3) := by decide +kernel
theorem dX12_init_880 : decode cX12_init 880 = .ok (.bipush 105, 2) := by decide +kernel
theorem dX12_init_882 : decode cX12_init 882 = .ok (.bastore, 1) := by decide +kernel
theorem dX12_init_883 : decode cX12_init 883 = .ok (.dup, 1) := by decide +kernel
theorem dX12_init_884 : decode cX12_init 884 = .ok (.sipush 138, 3) := by decide +kernel
theorem dX12_init_887 : decode cX12_init 887 = .ok (.bipush 116, 2) := by decide +kernel
theorem dX12_init_889 : decode cX12_init 889 = .ok (.bastore, 1) := by decide +kernel
theorem dX12_init_890 : decode cX12_init 890 = .ok (.dup, 1) := by decide +kernel
theorem dX12_init_891 : decode cX12_init 891 = .ok (.sipush 139, 3) := by decide +kernel
theorem dX12_init_894 : decode cX12_init 894 = .ok (.bipush 104, 2) := by decide +kernel
theorem dX12_init_896 : decode cX12_init 896 = .ok (.bastore, 1) := by decide +kernel
theorem dX12_init_897 : decode cX12_init 897 = .ok (.dup, 1) := by decide +kernel
theorem dX12_init_898 : decode cX12_init 898 = .ok (.sipush 140, 3) := by decide +kernel
theorem dX12_init_901 : decode cX12_init 901 = .ok (.bipush 32, 2) := by decide +kernel
theorem dX12_init_903 : decode cX12_init 903 = .ok (.bastore, 1) := by decide +kernel
theorem dX12_init_904 : decode cX12_init 904 = .ok (.dup, 1) := by decide +kernel
theorem dX12_init_905 : decode cX12_init 905 = .ok (.sipush 141, 3) := by decide +kernel
theorem dX12_init_908 : decode cX12_init 908 = .ok (.bipush 100, 2) := by decide +kernel
theorem dX12_init_910 : decode cX12_init 910 = .ok (.bastore, 1) := by decide +kernel
theorem dX12_init_911 : decode cX12_init 911 = .ok (.dup, 1) := by decide +kernel
theorem dX12_init_912 : decode cX12_init 912 = .ok (.sipush 142, 3) := by decide +kernel
theorem dX12_init_915 : decode cX12_init 915 = .ok (.bipush 114, 2) := by decide +kernel
theorem dX12_init_917 : decode cX12_init 917 = .ok (.bastore, 1) := by decide +kernel
theorem dX12_init_918 : decode cX12_init 918 = .ok (.dup, 1) := by decide +kernel
theorem dX12_init_919 : decode cX12_init 919 = .ok (.sipush 143, 3) := by decide +kernel
theorem dX12_init_922 : decode cX12_init 922 = .ok (.bipush 111, 2) := by decide +kernel
theorem dX12_init_924 : decode cX12_init 924 = .ok (.bastore, 1) := by decide +kernel
theorem dX12_init_925 : decode cX12_init 925 = .ok (.dup, 1) := by decide +kernel
theorem dX12_init_926 : decode cX12_init 926 = .ok (.sipush 144, 3) := by decide +kernel
theorem dX12_init_929 : decode cX12_init 929 = .ok (.bipush 112, 2) := by decide +kernel
theorem dX12_init_931 : decode cX12_init 931 = .ok (.bastore, 1) := by decide +kernel
theorem dX12_init_932 : decode cX12_init 932 = .ok (.dup, 1) := by decide +kernel
theorem dX12_init_933 : decode cX12_init 933 = .ok (.sipush 145, 3) := by decide +kernel
theorem dX12_init_936 : decode cX12_init 936 = .ok (.bipush 32, 2) := by decide +kernel
theorem dX12_init_938 : decode cX12_init 938 = .ok (.bastore, 1) := by decide +kernel
theorem dX12_init_939 : decode cX12_init 939 = .ok (.dup, 1) := by decide +kernel
theorem dX12_init_940 : decode cX12_init 940 = .ok (.sipush 146, 3) := by decide +kernel
theorem dX12_init_943 : decode cX12_init 943 = .ok (.bipush 112, 2) := by decide +kernel
theorem dX12_init_945 : decode cX12_init 945 = .ok (.bastore, 1) := by decide +kernel
theorem dX12_init_946 : decode cX12_init 946 = .ok (.dup, 1) := by decide +kernel
theorem dX12_init_947 : decode cX12_init 947 = .ok (.sipush 147, 3) := by decide +kernel
theorem dX12_init_950 : decode cX12_init 950 = .ok (.bipush 97, 2) := by decide +kernel
theorem dX12_init_952 : decode cX12_init 952 = .ok (.bastore, 1) := by decide +kernel
theorem dX12_init_953 : decode cX12_init 953 = .ok (.dup, 1) := by decide +kernel
theorem dX12_init_954 : decode cX12_init 954 = .ok (.sipush 148, 3) := by decide +kernel
theorem dX12_init_957 : decode cX12_init 957 = .ok (.bipush 115, 2) := by decide +kernel
theorem dX12_init_959 : decode cX12_init 959 = .ok (.bastore, 1) := by decide +kernel
theorem dX12_init_960 : decode cX12_init 960 = .ok (.dup, 1) := by decide +kernel
theorem dX12_init_961 : decode cX12_init 961 = .ok (.sipush 149, 3) := by decide +kernel
theorem dX12_init_964 : decode cX12_init 964 = .ok (.bipush 115, 2) := by decide +kernel
theorem dX12_init_966 : decode cX12_init 966 = .ok (.bastore, 1) := by decide +kernel
theorem dX12_init_967 : decode cX12_init 967 = .ok (.dup, 1) := by decide +kernel
theorem dX12_init_968 : decode cX12_init 968 = .ok (.sipush 150, 3) := by decide +kernel
theorem dX12_init_971 : decode cX12_init 971 = .ok (.bipush 32, 2) := by decide +kernel
theorem dX12_init_973 : decode cX12_init 973 = .ok (.bastore, 1) := by decide +kernel
theorem dX12_init_974 : decode cX12_init 974 = .ok (.dup, 1) := by decide +kernel
theorem dX12_init_975 : decode cX12_init 975 = .ok (.sipush 151, 3) := by decide +kernel
theorem dX12_init_978 : decode cX12_init 978 = .ok (.bipush 116, 2) := by decide +kernel
theorem dX12_init_980 : decode cX12_init 980 = .ok (.bastore, 1) := by decide +kernel
theorem dX12_init_981 : decode cX12_init 981 = .ok (.dup, 1) := by decide +kernel
theorem dX12_init_982 : decode cX12_init 982 = .ok (.sipush 152, 3) := by decide +kernel
theorem dX12_init_985 : decode cX12_init 985 = .ok (.bipush 105, 2) := by decide +kernel
theorem dX12_init_987 : decode cX12_init 987 = .ok (.bastore, 1) := by decide +kernel
theorem dX12_init_988 : decode cX12_init 988 = .ok (.dup, 1) := by decide +kernel
theorem dX12_init_989 : decode cX12_init 989 = .ok (.sipush 153, 3) := by decide +kernel
theorem dX12_init_992 : decode cX12_init 992 = .ok (.bipush 109, 2) := by decide +kernel
theorem dX12_init_994 : decode cX12_init 994 = .ok (.bastore, 1) := by decide +kernel
theorem dX12_init_995 : decode cX12_init 995 = .ok (.dup, 1) := by decide +kernel
theorem dX12_init_996 : decode cX12_init 996 = .ok (.sipush 154, 3) := by decide +kernel
theorem dX12_init_999 : decode cX12_init 999 = .ok (.bipush 101, 2) := by decide +kernel
theorem dX12_init_1001 : decode cX12_init 1001 = .ok (.bastore, 1) := by decide +kernel
theorem dX12_init_1002 : decode cX12_init 1002 = .ok (.dup, 1) := by decide +kernel
theorem dX12_init_1003 : decode cX12_init 1003 = .ok (.sipush 155, 3) := by decide +kernel
theorem dX12_init_1006 : decode cX12_init 1006 = .ok (.bipush 115, 2) := by decide +kernel
theorem dX12_init_1008 : decode cX12_init 1008 = .ok (.bastore, 1) := by decide +kernel
theorem dX12_init_1009 : decode cX12_init 1009 = .ok (.dup, 1) := by decide +kernel
theorem dX12_init_1010 : decode cX12_init 1010 = .ok (.sipush 156, 3) := by decide +kernel
theorem dX12_init_1013 : decode cX12_init 1013 = .ok (.bipush 32, 2) := by decide +kernel
theorem dX12_init_1015 : decode cX12_init 1015 = .ok (.bastore, 1) := by decide +kernel
theorem dX12_init_1016 : decode cX12_init 1016 = .ok (.putfield 37, 3) := by decide +kernel
theorem dX12_init_1019 : decode cX12_init 1019 = .ok (.aload_n 0, 1) := by decide +kernel
theorem dX12_init_1020 : decode cX12_init 1020 = .ok (.sipush 400, 3) := by decide +kernel
theorem dX12_init_1023 : decode cX12_init 1023 = .ok (.newarray .byte, 2) := by decide +kernel
theorem dX12_init_1025 : decode cX12_init 1025 = .ok (.putfield 41, 3) := by decide +kernel
theorem dX12_init_1028 : decode cX12_init 1028 = .ok (.aload_n 0, 1) := by decide +kernel
theorem dX12_init_1029 : decode cX12_init 1029 = .ok (.iconst 5, 1) := by decide +kernel
theorem dX12_init_1030 : decode cX12_init 1030 = .ok (.newarray .int, 2) := by decide +kernel
theorem dX12_init_1032 : decode cX12_init 1032 = .ok (.putfield 44, 3) := by decide +kernel
theorem dX12_init_1035 : decode cX12_init 1035 = .ok (.aload_n 0, 1) := by decide +kernel
theorem dX12_init_1036 : decode cX12_init 1036 = .ok (.iconst (-1), 1) := by decide +kernel
theorem dX12_init_1037 : decode cX12_init 1037 = .ok (.putfield 47, 3) := by decide +kernel
theorem dX12_init_1040 : decode cX12_init 1040 = .ok (.aload_n 0, 1) := by decide +kernel
theorem dX12_init_1041 : decode cX12_init 1041 = .ok (.sipush 401, 3) := by decide +kernel
theorem dX12_init_1044 : decode cX12_init 1044 = .ok (.newarray .int, 2) := by decide +kernel
theorem dX12_init_1046 : decode cX12_init 1046 = .ok (.putfield 50, 3) := by decide +kernel
theorem dX12_init_1049 : decode cX12_init 1049 = .ok (.aload_n 0, 1) := by decide +kernel
theorem dX12_init_1050 : decode cX12_init 1050 = .ok (.sipush 401, 3) := by decide +kernel
theorem dX12_init_1053 : decode cX12_init 1053 = .ok (.newarray .int, 2) := by decide +kernel
theorem dX12_init_1055 : decode cX12_init 1055 = .ok (.putfield 53, 3) := by decide +kernel
theorem dX12_init_1058 : decode cX12_init 1058 = .ok (.aload_n 0, 1) := by decide +kernel
theorem dX12_init_1059 : decode cX12_init 1059 = .ok (.sipush 401, 3) := by decide +kernel
theorem dX12_init_1062 : decode cX12_init 1062 = .ok (.newarray .int, 2) := by decide +kernel
theorem dX12_init_1064 : decode cX12_init 1064 = .ok (.putfield 56, 3) := by decide +kernel
theorem dX12_init_1067 : decode cX12_init 1067 = .ok (.aload_n 0, 1) := by decide +kernel
theorem dX12_init_1068 : decode cX12_init 1068 = .ok (.bipush 9, 2) := by decide +kernel
theorem dX12_init_1070 : decode cX12_init 1070 = .ok (.newarray .int, 2) := by decide +kernel
theorem dX12_init_1072 : decode cX12_init 1072 = .ok (.putfield 59, 3) := by decide +kernel
theorem dX12_init_1075 : decode cX12_init 1075 = .ok (.aload_n 0, 1) := by decide +kernel
theorem dX12_init_1076 : decode cX12_init 1076 = .ok (.sipush 128, 3) := by decide +kernel
theorem dX12_init_1079 : decode cX12_init 1079 = .ok (.newarray .int, 2) := by decide +kernel
theorem dX12_init_1081 : decode cX12_init 1081 = .ok (.putfield 62, 3) := by decide +kernel
theorem dX12_init_1084 : decode cX12_init 1084 = .ok (.aload_n 0, 1) := by decide +kernel
theorem dX12_init_1085 : decode cX12_init 1085 = .ok (.sipush 128, 3) := by decide +kernel
theorem dX12_init_1088 : decode cX12_init 1088 = .ok (.newarray .int, 2) := by decide +kernel
theorem dX12_init_1090 : decode cX12_init 1090 = .ok (.putfield 65, 3) := by decide +kernel
theorem dX12_init_1093 : decode cX12_init 1093 = .ok (.aload_n 0, 1) := by decide +kernel
theorem dX12_init_1094 : decode cX12_init 1094 = .ok (.bipush 6, 2) := by decide +kernel
theorem dX12_init_1096 : decode cX12_init 1096 = .ok (.newarray .int, 2) := by decide +kernel
theorem dX12_init_1098 : decode cX12_init 1098 = .ok (.putfield 68, 3) := by decide +kernel
theorem dX12_init_1101 : decode cX12_init 1101 = .ok (.aload_n 0, 1) := by decide +kernel
theorem dX12_init_1102 : decode cX12_init 1102 = .ok (.bipush 6, 2) := by decide +kernel
theorem dX12_init_1104 : decode cX12_init 1104 = .ok (.newarray .int, 2) := by decide +kernel
theorem dX12_init_1106 : decode cX12_init 1106 = .ok (.putfield 71, 3) := by decide +kernel
theorem dX12_init_1109 : decode cX12_init 1109 = .ok (.aload_n 0, 1) := by decide +kernel
theorem dX12_init_1110 : decode cX12_init 1110 = .ok (.bipush 6, 2) := by decide +kernel
theorem dX12_init_1112 : decode cX12_init 1112 = .ok (.newarray .int, 2) := by decide +kernel
theorem dX12_init_1114 : decode cX12_init 1114 = .ok (.putfield 74, 3) := by decide +kernel
theorem dX12_init_1117 : decode cX12_init 1117 = .ok (.aload_n 0, 1) := by decide +kernel
theorem dX12_init_1118 : decode cX12_init 1118 = .ok (.iconst 3, 1) := by decide +kernel
theorem dX12_init_1119 : decode cX12_init 1119 = .ok (.newarray .int, 2) := by decide +kernel
theorem dX12_init_1121 : decode cX12_init 1121 = .ok (.putfield 77, 3) := by decide +kernel
theorem dX12_init_1124 : decode cX12_init 1124 = .ok (.aload_n 0, 1) := by decide +kernel
theorem dX12_init_1125 : decode cX12_init 1125 = .ok (.bipush 6, 2) := by decide +kernel
theorem dX12_init_1127 : decode cX12_init 1127 = .ok (.newarray .int, 2) := by decide +kernel
theorem dX12_init_1129 : decode cX12_init 1129 = .ok (.putfield 80, 3) := by decide +kernel
theorem dX12_init_1132 : decode cX12_init 1132 = .ok (.aload_n 0, 1) := by decide +kernel
theorem dX12_init_1133 : decode cX12_init 1133 = .ok (.bipush 6, 2) := by decide +kernel
theorem dX12_init_1135 : decode cX12_init 1135 = .ok (.newarray .int, 2) := by decide +kernel
theorem dX12_init_1137 : decode cX12_init 1137 = .ok (.putfield 83, 3) := by decide +kernel
theorem dX12_init_1140 : decode cX12_init 1140 = .ok (.aload_n 0, 1) := by decide +kernel
theorem dX12_init_1141 : decode cX12_init 1141 = .ok (.bipush 6, 2) := by decide +kernel
theorem dX12_init_1143 : decode cX12_init 1143 = .ok (.newarray .int, 2) := by decide +kernel
theorem dX12_init_1145 : decode cX12_init 1145 = .ok (.putfield 86, 3) := by decide +kernel
theorem dX12_init_1148 : decode cX12_init 1148 = .ok (.aload_n 0, 1) := by decide +kernel
theorem dX12_init_1149 : decode cX12_init 1149 = .ok (.bipush 6, 2) := by decide +kernel
theorem dX12_init_1151 : decode cX12_init 1151 = .ok (.newarray .int, 2) := by decide +kernel
theorem dX12_init_1153 : decode cX12_init 1153 = .ok (.putfield 89, 3) := by decide +kernel
theorem dX12_init_1156 : decode cX12_init 1156 = .ok (.aload_n 0, 1) := by decide +kernel
theorem dX12_init_1157 : decode cX12_init 1157 = .ok (.bipush 6, 2) := by decide +kernel
theorem dX12_init_1159 : decode cX12_init 1159 = .ok (.newarray .int, 2) := by decide +kernel
theorem dX12_init_1161 : decode cX12_init 1161 = .ok (.putfield 92, 3) := by decide +kernel
theorem dX12_init_1164 : decode cX12_init 1164 = .ok (.aload_n 0, 1) := by decide +kernel
theorem dX12_init_1165 : decode cX12_init 1165 = .ok (.bipush 6, 2) := by decide +kernel
theorem dX12_init_1167 : decode cX12_init 1167 = .ok (.newarray .int, 2) := by decide +kernel
theorem dX12_init_1169 : decode cX12_init 1169 = .ok (.putfield 95, 3) := by decide +kernel
theorem dX12_init_1172 : decode cX12_init 1172 = .ok (.aload_n 0, 1) := by decide +kernel
theorem dX12_init_1173 : decode cX12_init 1173 = .ok (.bipush 48, 2) := by decide +kernel
theorem dX12_init_1175 : decode cX12_init 1175 = .ok (.newarray .int, 2) := by decide +kernel
theorem dX12_init_1177 : decode cX12_init 1177 = .ok (.putfield 98, 3) := by decide +kernel
theorem dX12_init_1180 : decode cX12_init 1180 = .ok (.aload_n 0, 1) := by decide +kernel
theorem dX12_init_1181 : decode cX12_init 1181 = .ok (.bipush 21, 2) := by decide +kernel
theorem dX12_init_1183 : decode cX12_init 1183 = .ok (.newarray .long, 2) := by decide +kernel
theorem dX12_init_1185 : decode cX12_init 1185 = .ok (.putfield 101, 3) := by decide +kernel
theorem dX12_init_1188 : decode cX12_init 1188 = .ok (.aload_n 0, 1) := by decide +kernel
theorem dX12_init_1189 : decode cX12_init 1189 = .ok (.iconst (-1), 1) := by decide +kernel
theorem dX12_init_1190 : decode cX12_init 1190 = .ok (.putfield 105, 3) := by decide +kernel
theorem dX12_init_1193 : decode cX12_init 1193 = .ok (.aload_n 0, 1) := by decide +kernel
theorem dX12_init_1194 : decode cX12_init 1194 = .ok (.iconst 2, 1) := by decide +kernel
theorem dX12_init_1195 : decode cX12_init 1195 = .ok (.newarray .long, 2) := by decide +kernel
theorem dX12_init_1197 : decode cX12_init 1197 = .ok (.putfield 108, 3) := by decide +kernel
theorem dX12_init_1200 : decode cX12_init 1200 = .ok (.aload_n 0, 1) := by decide +kernel
theorem dX12_init_1201 : decode cX12_init 1201 = .ok (.bipush 7, 2) := by decide +kernel
theorem dX12_init_1203 : decode cX12_init 1203 = .ok (.newarray .int, 2) := by decide +kernel
theorem dX12_init_1205 : decode cX12_init 1205 = .ok (.putfield 111, 3) := by decide +kernel
theorem dX12_init_1208 : decode cX12_init 1208 = .ok (.aload_n 0, 1) := by decide +kernel
theorem dX12_init_1209 : decode cX12_init 1209 = .ok (.iconst (-1), 1) := by decide +kernel
theorem dX12_init_1210 : decode cX12_init 1210 = .ok (.putfield 114, 3) := by decide +kernel
theorem dX12_init_1213 : decode cX12_init 1213 = .ok (.aload_n 0, 1) := by decide +kernel
theorem dX12_init_1214 : decode cX12_init 1214 = .ok (.getfield 24, 3) := by decide +kernel
theorem dX12_init_1217 : decode cX12_init 1217 = .ok (.bipush 101, 2) := by decide +kernel
theorem dX12_init_1219 : decode cX12_init 1219 = .ok (.bipush 9, 2) := by decide +kernel
theorem dX12_init_1221 : decode cX12_init 1221 = .ok (.iastore, 1) := by decide +kernel
theorem dX12_init_1222 : decode cX12_init 1222 = .ok (.aload_n 0, 1) := by decide +kernel
theorem dX12_init_1223 : decode cX12_init 1223 = .ok (.getfield 24, 3) := by decide +kernel
theorem dX12_init_1226 : decode cX12_init 1226 = .ok (.bipush 108, 2) := by decide +kernel
theorem dX12_init_1228 : decode cX12_init 1228 = .ok (.iconst (-1), 1) := by decide +kernel
theorem dX12_init_1229 : decode cX12_init 1229 = .ok (.iastore, 1) := by decide +kernel
theorem dX12_init_1230 : decode cX12_init 1230 = .ok (.iconst 0, 1) := by decide +kernel
theorem dX12_init_1231 : decode cX12_init 1231 = .ok (.istore_n 1, 1) := by decide +kernel
theorem dX12_init_1232 : decode cX12_init 1232 = .ok (.iload_n 1, 1) := by decide +kernel
theorem dX12_init_1233 : decode cX12_init 1233 = .ok (.bipush 6, 2) := by decide +kernel
theorem dX12_init_1235 : decode cX12_init 1235 = .ok (.if_icmp .ge 18, 3) := by decide +kernel
theorem dX12_init_1238 : decode cX12_init 1238 = .ok (.aload_n 0, 1) := by decide +kernel
theorem dX12_init_1239 : decode cX12_init 1239 = .ok (.getfield 24, 3) := by decide +kernel
theorem dX12_init_1242 : decode cX12_init 1242 = .ok (.iconst 0, 1) := by decide +kernel
theorem dX12_init_1243 : decode cX12_init 1243 = .ok (.iload_n 1, 1) := by decide +kernel
theorem dX12_init_1244 : decode cX12_init 1244 = .ok (.iadd, 1) := by decide +kernel
theorem dX12_init_1245 : decode cX12_init 1245 = .ok (.iconst (-1), 1) := by decide +kernel
theorem dX12_init_1246 : decode cX12_init 1246 = .ok (.iastore, 1) := by decide +kernel
theorem dX12_init_1247 : decode cX12_init 1247 = .ok (.iinc 1 1, 3) := by decide +kernel
theorem dX12_init_1250 : decode cX12_init 1250 = .ok (.goto (-18), 3) := by decide +kernel
theorem dX12_init_1253 : decode cX12_init 1253 = .ok (.return_, 1) := by decide +kernel
theorem dX12_laysAside_0 : decode cX12_laysAside 0 = .ok (.iconst 0, 1) := by decide +kernel
theorem dX12_laysAside_1 : decode cX12_laysAside 1 = .ok (.istore_n 2, 1) := by decide +kernel
theorem dX12_laysAside_2 : decode cX12_laysAside 2 = .ok (.iload_n 2, 1) := by decide +kernel
theorem dX12_laysAside_3 : decode cX12_laysAside 3 = .ok (.bipush 7, 2) := by decide +kernel
theorem dX12_laysAside_5 : decode cX12_laysAside 5 = .ok (.if_icmp .ge 26, 3) := by decide +kernel
theorem dX12_laysAside_8 : decode cX12_laysAside 8 = .ok (.aload_n 0, 1) := by decide +kernel
theorem dX12_laysAside_9 : decode cX12_laysAside 9 = .ok (.getfield 34, 3) := by decide +kernel
theorem dX12_laysAside_12 : decode cX12_laysAside 12 = .ok (.bipush 7, 2) := by decide +kernel
theorem dX12_laysAside_14 : decode cX12_laysAside 14 = .ok (.iload_n 1, 1) := by decide +kernel
theorem dX12_laysAside_15 : decode cX12_laysAside 15 = .ok (.imul, 1) := by decide +kernel
theorem dX12_laysAside_16 : decode cX12_laysAside 16 = .ok (.iload_n 2, 1) := by decide +kernel
theorem dX12_laysAside_17 : decode cX12_laysAside 17 = .ok (.iadd, 1) := by decide +kernel
theorem dX12_laysAside_18 : decode cX12_laysAside 18 = .ok (.aload_n 0, 1) := by decide +kernel
theorem dX12_laysAside_19 : decode cX12_laysAside 19 = .ok (.getfield 24, 3) := by decide +kernel
theorem dX12_laysAside_22 : decode cX12_laysAside 22 = .ok (.iload_n 2, 1) := by decide +kernel
theorem dX12_laysAside_23 : decode cX12_laysAside 23 = .ok (.iaload, 1) := by decide +kernel
theorem dX12_laysAside_24 : decode cX12_laysAside 24 = .ok (.iastore, 1) := by decide +kernel
theorem dX12_laysAside_25 : decode cX12_laysAside 25 = .ok (.iinc 2 1, 3) := by decide +kernel
theorem dX12_laysAside_28 : decode cX12_laysAside 28 = .ok (.goto (-26), 3) := by decide +kernel
theorem dX12_laysAside_31 : decode cX12_laysAside 31 = .ok (.return_, 1) := by decide +kernel
theorem dX12_takesBack_0 : decode cX12_takesBack 0 = .ok (.iconst 0, 1) := by decide +kernel
theorem dX12_takesBack_1 : decode cX12_takesBack 1 = .ok (.istore_n 2, 1) := by decide +kernel
theorem dX12_takesBack_2 : decode cX12_takesBack 2 = .ok (.iload_n 2, 1) := by decide +kernel
theorem dX12_takesBack_3 : decode cX12_takesBack 3 = .ok (.bipush 7, 2) := by decide +kernel
theorem dX12_takesBack_5 : decode cX12_takesBack 5 = .ok (.if_icmp .ge 26, 3) := by decide +kernel
theorem dX12_takesBack_8 : decode cX12_takesBack 8 = .ok (.aload_n 0, 1) := by decide +kernel
theorem dX12_takesBack_9 : decode cX12_takesBack 9 = .ok (.getfield 24, 3) := by decide +kernel
theorem dX12_takesBack_12 : decode cX12_takesBack 12 = .ok (.iload_n 2, 1) := by decide +kernel
theorem dX12_takesBack_13 : decode cX12_takesBack 13 = .ok (.aload_n 0, 1) := by decide +kernel
theorem dX12_takesBack_14 : decode cX12_takesBack 14 = .ok (.getfield 34, 3) := by decide +kernel
theorem dX12_takesBack_17 : decode cX12_takesBack 17 = .ok (.bipush 7, 2) := by decide +kernel
theorem dX12_takesBack_19 : decode cX12_takesBack 19 = .ok (.iload_n 1, 1) := by decide +kernel
theorem dX12_takesBack_20 : decode cX12_takesBack 20 = .ok (.imul, 1) := by decide +kernel
theorem dX12_takesBack_21 : decode cX12_takesBack 21 = .ok (.iload_n 2, 1) := by decide +kernel
theorem dX12_takesBack_22 : decode cX12_takesBack 22 = .ok (.iadd, 1) := by decide +kernel
theorem dX12_takesBack_23 : decode cX12_takesBack 23 = .ok (.iaload, 1) := by decide +kernel
theorem dX12_takesBack_24 : decode cX12_takesBack 24 = .ok (.iastore, 1) := by decide +kernel
theorem dX12_takesBack_25 : decode cX12_takesBack 25 = .ok (.iinc 2 1, 3) := by decide +kernel
theorem dX12_takesBack_28 : decode cX12_takesBack 28 = .ok (.goto (-26), 3) := by decide +kernel
theorem dX12_takesBack_31 : decode cX12_takesBack 31 = .ok (.return_, 1) := by decide +kernel
theorem dX12_image_0 : decode cX12_image 0 = .ok (.iload_n 1, 1) := by decide +kernel
theorem dX12_image_1 : decode cX12_image 1 = .ok (.iconst 0, 1) := by decide +kernel
theorem dX12_image_2 : decode cX12_image 2 = .ok (.iconst 1, 1) := by decide +kernel
theorem dX12_image_3 : decode cX12_image 3 = .ok (.invokestatic 117, 3) := by decide +kernel
theorem dX12_image_6 : decode cX12_image 6 = .ok (.ifCond .ne 9, 3) := by decide +kernel
theorem dX12_image_9 : decode cX12_image 9 = .ok (.aload_n 0, 1) := by decide +kernel
theorem dX12_image_10 : decode cX12_image 10 = .ok (.iconst (-1), 1) := by decide +kernel
theorem dX12_image_11 : decode cX12_image 11 = .ok (.invokevirtual 121, 3) := by decide +kernel
theorem dX12_image_14 : decode cX12_image 14 = .ok (.ireturn, 1) := by decide +kernel
theorem dX12_image_15 : decode cX12_image 15 = .ok (.iconst 0, 1) := by decide +kernel
theorem dX12_image_16 : decode cX12_image 16 = .ok (.istore_n 2, 1) := by decide +kernel
theorem dX12_image_17 : decode cX12_image 17 = .ok (.iload_n 2, 1) := by decide +kernel
theorem dX12_image_18 : decode cX12_image 18 = .ok (.sipush 5716, 3) := by decide +kernel
theorem dX12_image_21 : decode cX12_image 21 = .ok (.if_icmp .ge 27, 3) := by decide +kernel
theorem dX12_image_24 : decode cX12_image 24 = .ok (.aload_n 0, 1) := by decide +kernel
theorem dX12_image_25 : decode cX12_image 25 = .ok (.getfield 27, 3) := by decide +kernel
theorem dX12_image_28 : decode cX12_image 28 = .ok (.sipush 5716, 3) := by decide +kernel
theorem dX12_image_31 : decode cX12_image 31 = .ok (.iload_n 1, 1) := by decide +kernel
theorem dX12_image_32 : decode cX12_image 32 = .ok (.imul, 1) := by decide +kernel
theorem dX12_image_33 : decode cX12_image 33 = .ok (.iload_n 2, 1) := by decide +kernel
theorem dX12_image_34 : decode cX12_image 34 = .ok (.iadd, 1) := by decide +kernel
theorem dX12_image_35 : decode cX12_image 35 = .ok (.aload_n 0, 1) := by decide +kernel
theorem dX12_image_36 : decode cX12_image 36 = .ok (.getfield 24, 3) := by decide +kernel
theorem dX12_image_39 : decode cX12_image 39 = .ok (.iload_n 2, 1) := by decide +kernel
theorem dX12_image_40 : decode cX12_image 40 = .ok (.iaload, 1) := by decide +kernel
theorem dX12_image_41 : decode cX12_image 41 = .ok (.iastore, 1) := by decide +kernel
theorem dX12_image_42 : decode cX12_image 42 = .ok (.iinc 2 1, 3) := by decide +kernel
theorem dX12_image_45 : decode cX12_image 45 = .ok (.goto (-28), 3) := by decide +kernel
theorem dX12_image_48 : decode cX12_image 48 = .ok (.aload_n 0, 1) := by decide +kernel
theorem dX12_image_49 : decode cX12_image 49 = .ok (.getfield 30, 3) := by decide +kernel
theorem dX12_image_52 : decode cX12_image 52 = .ok (.iload_n 1, 1) := by decide +kernel
theorem dX12_image_53 : decode cX12_image 53 = .ok (.iconst 1, 1) := by decide +kernel
theorem dX12_image_54 : decode cX12_image 54 = .ok (.bastore, 1) := by decide +kernel
theorem dX12_image_55 : decode cX12_image 55 = .ok (.aload_n 0, 1) := by decide +kernel
theorem dX12_image_56 : decode cX12_image 56 = .ok (.iconst 0, 1) := by decide +kernel
theorem dX12_image_57 : decode cX12_image 57 = .ok (.invokevirtual 14, 3) := by decide +kernel
theorem dX12_image_60 : decode cX12_image 60 = .ok (.ireturn, 1) := by decide +kernel
theorem dX12_back_0 : decode cX12_back 0 = .ok (.iload_n 1, 1) := by decide +kernel
theorem dX12_back_1 : decode cX12_back 1 = .ok (.iconst 0, 1) := by decide +kernel
theorem dX12_back_2 : decode cX12_back 2 = .ok (.iconst 1, 1) := by decide +kernel
theorem dX12_back_3 : decode cX12_back 3 = .ok (.invokestatic 117, 3) := by decide +kernel
theorem dX12_back_6 : decode cX12_back 6 = .ok (.ifCond .ne 9, 3) := by decide +kernel
theorem dX12_back_9 : decode cX12_back 9 = .ok (.aload_n 0, 1) := by decide +kernel
theorem dX12_back_10 : decode cX12_back 10 = .ok (.iconst (-1), 1) := by decide +kernel
theorem dX12_back_11 : decode cX12_back 11 = .ok (.invokevirtual 121, 3) := by decide +kernel
theorem dX12_back_14 : decode cX12_back 14 = .ok (.ireturn, 1) := by decide +kernel
theorem dX12_back_15 : decode cX12_back 15 = .ok (.aload_n 0, 1) := by decide +kernel
theorem dX12_back_16 : decode cX12_back 16 = .ok (.getfield 30, 3) := by decide +kernel
theorem dX12_back_19 : decode cX12_back 19 = .ok (.iload_n 1, 1) := by decide +kernel
theorem dX12_back_20 : decode cX12_back 20 = .ok (.baload, 1) := by decide +kernel
theorem dX12_back_21 : decode cX12_back 21 = .ok (.ifCond .ne 10, 3) := by decide +kernel
theorem dX12_back_24 : decode cX12_back 24 = .ok (.aload_n 0, 1) := by decide +kernel
theorem dX12_back_25 : decode cX12_back 25 = .ok (.bipush (-2), 2) := by decide +kernel
theorem dX12_back_27 : decode cX12_back 27 = .ok (.invokevirtual 121, 3) := by decide +kernel
theorem dX12_back_30 : decode cX12_back 30 = .ok (.ireturn, 1) := by decide +kernel
theorem dX12_back_31 : decode cX12_back 31 = .ok (.iconst 0, 1) := by decide +kernel
theorem dX12_back_32 : decode cX12_back 32 = .ok (.istore_n 2, 1) := by decide +kernel
theorem dX12_back_33 : decode cX12_back 33 = .ok (.iload_n 2, 1) := by decide +kernel
theorem dX12_back_34 : decode cX12_back 34 = .ok (.sipush 5716, 3) := by decide +kernel
theorem dX12_back_37 : decode cX12_back 37 = .ok (.if_icmp .ge 27, 3) := by decide +kernel
theorem dX12_back_40 : decode cX12_back 40 = .ok (.aload_n 0, 1) := by decide +kernel
theorem dX12_back_41 : decode cX12_back 41 = .ok (.getfield 24, 3) := by decide +kernel
theorem dX12_back_44 : decode cX12_back 44 = .ok (.iload_n 2, 1) := by decide +kernel
theorem dX12_back_45 : decode cX12_back 45 = .ok (.aload_n 0, 1) := by decide +kernel
theorem dX12_back_46 : decode cX12_back 46 = .ok (.getfield 27, 3) := by decide +kernel
theorem dX12_back_49 : decode cX12_back 49 = .ok (.sipush 5716, 3) := by decide +kernel
theorem dX12_back_52 : decode cX12_back 52 = .ok (.iload_n 1, 1) := by decide +kernel
theorem dX12_back_53 : decode cX12_back 53 = .ok (.imul, 1) := by decide +kernel
theorem dX12_back_54 : decode cX12_back 54 = .ok (.iload_n 2, 1) := by decide +kernel
theorem dX12_back_55 : decode cX12_back 55 = .ok (.iadd, 1) := by decide +kernel
theorem dX12_back_56 : decode cX12_back 56 = .ok (.iaload, 1) := by decide +kernel
theorem dX12_back_57 : decode cX12_back 57 = .ok (.iastore, 1) := by decide +kernel
theorem dX12_back_58 : decode cX12_back 58 = .ok (.iinc 2 1, 3) := by decide +kernel
theorem dX12_back_61 : decode cX12_back 61 = .ok (.goto (-28), 3) := by decide +kernel
theorem dX12_back_64 : decode cX12_back 64 = .ok (.aload_n 0, 1) := by decide +kernel
theorem dX12_back_65 : decode cX12_back 65 = .ok (.iconst 0, 1) := by decide +kernel
theorem dX12_back_66 : decode cX12_back 66 = .ok (.invokevirtual 124, 3) := by decide +kernel
theorem dX12_back_69 : decode cX12_back 69 = .ok (.ireturn, 1) := by decide +kernel
theorem dX12_isPerson_0 : decode cX12_isPerson 0 = .ok (.iload_n 1, 1) := by decide +kernel
theorem dX12_isPerson_1 : decode cX12_isPerson 1 = .ok (.iconst 0, 1) := by decide +kernel
theorem dX12_isPerson_2 : decode cX12_isPerson 2 = .ok (.aload_n 0, 1) := by decide +kernel
theorem dX12_isPerson_3 : decode cX12_isPerson 3 = .ok (.getfield 24, 3) := by decide +kernel
theorem dX12_isPerson_6 : decode cX12_isPerson 6 = .ok (.bipush 103, 2) := by decide +kernel
theorem dX12_isPerson_8 : decode cX12_isPerson 8 = .ok (.iaload, 1) := by decide +kernel
theorem dX12_isPerson_9 : decode cX12_isPerson 9 = .ok (.iconst 1, 1) := by decide +kernel
theorem dX12_isPerson_10 : decode cX12_isPerson 10 = .ok (.isub, 1) := by decide +kernel
theorem dX12_isPerson_11 : decode cX12_isPerson 11 = .ok (.invokestatic 117, 3) := by decide +kernel
theorem dX12_isPerson_14 : decode cX12_isPerson 14 = .ok (.ireturn, 1) := by decide +kernel
theorem dX12_isTicket_0 : decode cX12_isTicket 0 = .ok (.iload_n 1, 1) := by decide +kernel
theorem dX12_isTicket_1 : decode cX12_isTicket 1 = .ok (.iconst 0, 1) := by decide +kernel
theorem dX12_isTicket_2 : decode cX12_isTicket 2 = .ok (.aload_n 0, 1) := by decide +kernel
theorem dX12_isTicket_3 : decode cX12_isTicket 3 = .ok (.getfield 24, 3) := by decide +kernel
theorem dX12_isTicket_6 : decode cX12_isTicket 6 = .ok (.bipush 104, 2) := by decide +kernel
theorem dX12_isTicket_8 : decode cX12_isTicket 8 = .ok (.iaload, 1) := by decide +kernel
theorem dX12_isTicket_9 : decode cX12_isTicket 9 = .ok (.iconst 1, 1) := by decide +kernel
theorem dX12_isTicket_10 : decode cX12_isTicket 10 = .ok (.isub, 1) := by decide +kernel
theorem dX12_isTicket_11 : decode cX12_isTicket 11 = .ok (.invokestatic 117, 3) := by decide +kernel
theorem dX12_isTicket_14 : decode cX12_isTicket 14 = .ok (.ireturn, 1) := by decide +kernel
theorem dX12_isKind_0 : decode cX12_isKind 0 = .ok (.iload_n 0, 1) := by decide +kernel
theorem dX12_isKind_1 : decode cX12_isKind 1 = .ok (.iconst 0, 1) := by decide +kernel
theorem dX12_isKind_2 : decode cX12_isKind 2 = .ok (.iconst 4, 1) := by decide +kernel
theorem dX12_isKind_3 : decode cX12_isKind 3 = .ok (.invokestatic 117, 3) := by decide +kernel
theorem dX12_isKind_6 : decode cX12_isKind 6 = .ok (.ireturn, 1) := by decide +kernel
theorem dX12_holds_0 : decode cX12_holds 0 = .ok (.aload_n 0, 1) := by decide +kernel
theorem dX12_holds_1 : decode cX12_holds 1 = .ok (.getfield 24, 3) := by decide +kernel
theorem dX12_holds_4 : decode cX12_holds 4 = .ok (.iconst 0, 1) := by decide +kernel
theorem dX12_holds_5 : decode cX12_holds 5 = .ok (.iload_n 1, 1) := by decide +kernel
theorem dX12_holds_6 : decode cX12_holds 6 = .ok (.iadd, 1) := by decide +kernel
theorem dX12_holds_7 : decode cX12_holds 7 = .ok (.iaload, 1) := by decide +kernel
theorem dX12_holds_8 : decode cX12_holds 8 = .ok (.iconst (-1), 1) := by decide +kernel
theorem dX12_holds_9 : decode cX12_holds 9 = .ok (.if_icmp .eq 7, 3) := by decide +kernel
theorem dX12_holds_12 : decode cX12_holds 12 = .ok (.iconst 1, 1) := by decide +kernel
theorem dX12_holds_13 : decode cX12_holds 13 = .ok (.goto 4, 3) := by decide +kernel
theorem dX12_holds_16 : decode cX12_holds 16 = .ok (.iconst 0, 1) := by decide +kernel
theorem dX12_holds_17 : decode cX12_holds 17 = .ok (.ireturn, 1) := by decide +kernel
theorem dX12_holderOf_0 : decode cX12_holderOf 0 = .ok (.iconst (-1), 1) := by decide +kernel
theorem dX12_holderOf_1 : decode cX12_holderOf 1 = .ok (.istore_n 2, 1) := by decide +kernel
theorem dX12_holderOf_2 : decode cX12_holderOf 2 = .ok (.iconst 0, 1) := by decide +kernel
theorem dX12_holderOf_3 : decode cX12_holderOf 3 = .ok (.istore_n 3, 1) := by decide +kernel
theorem dX12_holderOf_4 : decode cX12_holderOf 4 = .ok (.iload_n 3, 1) := by decide +kernel
theorem dX12_holderOf_5 : decode cX12_holderOf 5 = .ok (.aload_n 0, 1) := by decide +kernel
theorem dX12_holderOf_6 : decode cX12_holderOf 6 = .ok (.getfield 24, 3) := by decide +kernel
theorem dX12_holderOf_9 : decode cX12_holderOf 9 = .ok (.bipush 103, 2) := by decide +kernel
theorem dX12_holderOf_11 : decode cX12_holderOf 11 = .ok (.iaload, 1) := by decide +kernel
theorem dX12_holderOf_12 : decode cX12_holderOf 12 = .ok (.if_icmp .ge 27, 3) := by decide +kernel
theorem dX12_holderOf_15 : decode cX12_holderOf 15 = .ok (.aload_n 0, 1) := by decide +kernel
theorem dX12_holderOf_16 : decode cX12_holderOf 16 = .ok (.getfield 24, 3) := by decide +kernel
theorem dX12_holderOf_19 : decode cX12_holderOf 19 = .ok (.iconst 0, 1) := by decide +kernel
theorem dX12_holderOf_20 : decode cX12_holderOf 20 = .ok (.iload_n 3, 1) := by decide +kernel
theorem dX12_holderOf_21 : decode cX12_holderOf 21 = .ok (.iadd, 1) := by decide +kernel
theorem dX12_holderOf_22 : decode cX12_holderOf 22 = .ok (.iaload, 1) := by decide +kernel
theorem dX12_holderOf_23 : decode cX12_holderOf 23 = .ok (.iload_n 1, 1) := by decide +kernel
theorem dX12_holderOf_24 : decode cX12_holderOf 24 = .ok (.if_icmp .ne 7, 3) := by decide +kernel
theorem dX12_holderOf_27 : decode cX12_holderOf 27 = .ok (.iload_n 3, 1) := by decide +kernel
theorem dX12_holderOf_28 : decode cX12_holderOf 28 = .ok (.goto 4, 3) := by decide +kernel
theorem dX12_holderOf_31 : decode cX12_holderOf 31 = .ok (.iload_n 2, 1) := by decide +kernel
theorem dX12_holderOf_32 : decode cX12_holderOf 32 = .ok (.istore_n 2, 1) := by decide +kernel
theorem dX12_holderOf_33 : decode cX12_holderOf 33 = .ok (.iinc 3 1, 3) := by decide +kernel
theorem dX12_holderOf_36 : decode cX12_holderOf 36 = .ok (.goto (-32), 3) := by decide +kernel
theorem dX12_holderOf_39 : decode cX12_holderOf 39 = .ok (.iload_n 2, 1) := by decide +kernel
theorem dX12_holderOf_40 : decode cX12_holderOf 40 = .ok (.ireturn, 1) := by decide +kernel
theorem dX12_person_0 : decode cX12_person 0 = .ok (.iload_n 1, 1) := by decide +kernel
theorem dX12_person_1 : decode cX12_person 1 = .ok (.invokestatic 127, 3) := by decide +kernel
theorem dX12_person_4 : decode cX12_person 4 = .ok (.ifCond .eq 13, 3) := by decide +kernel
theorem dX12_person_7 : decode cX12_person 7 = .ok (.iload_n 2, 1) := by decide +kernel
theorem dX12_person_8 : decode cX12_person 8 = .ok (.iconst 0, 1) := by decide +kernel
theorem dX12_person_9 : decode cX12_person 9 = .ok (.bipush 99, 2) := by decide +kernel
theorem dX12_person_11 : decode cX12_person 11 = .ok (.invokestatic 117, 3) := by decide +kernel
theorem dX12_person_14 : decode cX12_person 14 = .ok (.ifCond .ne 9, 3) := by decide +kernel
theorem dX12_person_17 : decode cX12_person 17 = .ok (.aload_n 0, 1) := by decide +kernel
theorem dX12_person_18 : decode cX12_person 18 = .ok (.iconst (-1), 1) := by decide +kernel
theorem dX12_person_19 : decode cX12_person 19 = .ok (.invokevirtual 121, 3) := by decide +kernel
theorem dX12_person_22 : decode cX12_person 22 = .ok (.ireturn, 1) := by decide +kernel
theorem dX12_person_23 : decode cX12_person 23 = .ok (.aload_n 0, 1) := by decide +kernel
theorem dX12_person_24 : decode cX12_person 24 = .ok (.getfield 24, 3) := by decide +kernel
theorem dX12_person_27 : decode cX12_person 27 = .ok (.bipush 103, 2) := by decide +kernel
theorem dX12_person_29 : decode cX12_person 29 = .ok (.iaload, 1) := by decide +kernel
theorem dX12_person_30 : decode cX12_person 30 = .ok (.istore_n 3, 1) := by decide +kernel
theorem dX12_person_31 : decode cX12_person 31 = .ok (.iload_n 3, 1) := by decide +kernel
theorem dX12_person_32 : decode cX12_person 32 = .ok (.bipush 6, 2) := by decide +kernel
theorem dX12_person_34 : decode cX12_person 34 = .ok (.if_icmp .ne 10, 3) := by decide +kernel
theorem dX12_person_37 : decode cX12_person 37 = .ok (.aload_n 0, 1) := by decide +kernel
theorem dX12_person_38 : decode cX12_person 38 = .ok (.bipush (-5), 2) := by decide +kernel
theorem dX12_person_40 : decode cX12_person 40 = .ok (.invokevirtual 121, 3) := by decide +kernel
theorem dX12_person_43 : decode cX12_person 43 = .ok (.ireturn, 1) := by decide +kernel
theorem dX12_person_44 : decode cX12_person 44 = .ok (.aload_n 0, 1) := by decide +kernel
theorem dX12_person_45 : decode cX12_person 45 = .ok (.getfield 24, 3) := by decide +kernel
theorem dX12_person_48 : decode cX12_person 48 = .ok (.bipush 7, 2) := by decide +kernel
theorem dX12_person_50 : decode cX12_person 50 = .ok (.iload_n 3, 1) := by decide +kernel
theorem dX12_person_51 : decode cX12_person 51 = .ok (.iadd, 1) := by decide +kernel
theorem dX12_person_52 : decode cX12_person 52 = .ok (.iload_n 1, 1) := by decide +kernel
theorem dX12_person_53 : decode cX12_person 53 = .ok (.iastore, 1) := by decide +kernel
theorem dX12_person_54 : decode cX12_person 54 = .ok (.aload_n 0, 1) := by decide +kernel
theorem dX12_person_55 : decode cX12_person 55 = .ok (.getfield 24, 3) := by decide +kernel
theorem dX12_person_58 : decode cX12_person 58 = .ok (.bipush 13, 2) := by decide +kernel
theorem dX12_person_60 : decode cX12_person 60 = .ok (.iload_n 3, 1) := by decide +kernel
theorem dX12_person_61 : decode cX12_person 61 = .ok (.iadd, 1) := by decide +kernel
theorem dX12_person_62 : decode cX12_person 62 = .ok (.iload_n 2, 1) := by decide +kernel
theorem dX12_person_63 : decode cX12_person 63 = .ok (.iastore, 1) := by decide +kernel
theorem dX12_person_64 : decode cX12_person 64 = .ok (.aload_n 0, 1) := by decide +kernel
theorem dX12_person_65 : decode cX12_person 65 = .ok (.getfield 24, 3) := by decide +kernel
theorem dX12_person_68 : decode cX12_person 68 = .ok (.iconst 0, 1) := by decide +kernel
theorem dX12_person_69 : decode cX12_person 69 = .ok (.iload_n 3, 1) := by decide +kernel
theorem dX12_person_70 : decode cX12_person 70 = .ok (.iadd, 1) := by decide +kernel
theorem dX12_person_71 : decode cX12_person 71 = .ok (.iconst (-1), 1) := by decide +kernel
theorem dX12_person_72 : decode cX12_person 72 = .ok (.iastore, 1) := by decide +kernel
theorem dX12_person_73 : decode cX12_person 73 = .ok (.iconst 0, 1) := by decide +kernel
theorem dX12_person_74 : decode cX12_person 74 = .ok (.istore 4, 2) := by decide +kernel
theorem dX12_person_76 : decode cX12_person 76 = .ok (.iload 4, 2) := by decide +kernel
theorem dX12_person_78 : decode cX12_person 78 = .ok (.bipush 8, 2) := by decide +kernel
theorem dX12_person_80 : decode cX12_person 80 = .ok (.if_icmp .ge 25, 3) := by decide +kernel
theorem dX12_person_83 : decode cX12_person 83 = .ok (.aload_n 0, 1) := by decide +kernel
theorem dX12_person_84 : decode cX12_person 84 = .ok (.getfield 24, 3) := by decide +kernel
theorem dX12_person_87 : decode cX12_person 87 = .ok (.bipush 19, 2) := by decide +kernel
theorem dX12_person_89 : decode cX12_person 89 = .ok (.bipush 8, 2) := by decide +kernel
theorem dX12_person_91 : decode cX12_person 91 = .ok (.iload_n 3, 1) := by decide +kernel
theorem dX12_person_92 : decode cX12_person 92 = .ok (.imul, 1) := by decide +kernel
theorem dX12_person_93 : decode cX12_person 93 = .ok (.iadd, 1) := by decide +kernel
theorem dX12_person_94 : decode cX12_person 94 = .ok (.iload 4, 2) := by decide +kernel
theorem dX12_person_96 : decode cX12_person 96 = .ok (.iadd, 1) := by decide +kernel
theorem dX12_person_97 : decode cX12_person 97 = .ok (.iconst 0, 1) := by decide +kernel
theorem dX12_person_98 : decode cX12_person 98 = .ok (.iastore, 1) := by decide +kernel
theorem dX12_person_99 : decode cX12_person 99 = .ok (.iinc 4 1, 3) := by decide +kernel
theorem dX12_person_102 : decode cX12_person 102 = .ok (.goto (-26), 3) := by decide +kernel
theorem dX12_person_105 : decode cX12_person 105 = .ok (.aload_n 0, 1) := by decide +kernel
theorem dX12_person_106 : decode cX12_person 106 = .ok (.getfield 24, 3) := by decide +kernel
theorem dX12_person_109 : decode cX12_person 109 = .ok (.bipush 103, 2) := by decide +kernel
theorem dX12_person_111 : decode cX12_person 111 = .ok (.dup2, 1) := by decide +kernel
theorem dX12_person_112 : decode cX12_person 112 = .ok (.iaload, 1) := by decide +kernel
theorem dX12_person_113 : decode cX12_person 113 = .ok (.iconst 1, 1) := by decide +kernel
theorem dX12_person_114 : decode cX12_person 114 = .ok (.iadd, 1) := by decide +kernel
theorem dX12_person_115 : decode cX12_person 115 = .ok (.iastore, 1) := by decide +kernel
theorem dX12_person_116 : decode cX12_person 116 = .ok (.aload_n 0, 1) := by decide +kernel
theorem dX12_person_117 : decode cX12_person 117 = .ok (.iload_n 3, 1) := by decide +kernel
theorem dX12_person_118 : decode cX12_person 118 = .ok (.invokevirtual 124, 3) := by decide +kernel
theorem dX12_person_121 : decode cX12_person 121 = .ok (.ireturn, 1) := by decide +kernel
theorem dX12_of_0 : decode cX12_of 0 = .ok (.aload_n 0, 1) := by decide +kernel
theorem dX12_of_1 : decode cX12_of 1 = .ok (.iload_n 1, 1) := by decide +kernel
theorem dX12_of_2 : decode cX12_of 2 = .ok (.invokevirtual 131, 3) := by decide +kernel
theorem dX12_of_5 : decode cX12_of 5 = .ok (.ifCond .ne 5, 3) := by decide +kernel
theorem dX12_of_8 : decode cX12_of 8 = .ok (.iconst (-1), 1) := by decide +kernel
theorem dX12_of_9 : decode cX12_of 9 = .ok (.ireturn, 1) := by decide +kernel
theorem dX12_of_10 : decode cX12_of 10 = .ok (.iload_n 2, 1) := by decide +kernel
theorem dX12_of_11 : decode cX12_of 11 = .ok (.tableswitch 64 0 3 #[29, 39, 49, 58], 29) := by decide +kernel
theorem dX12_of_40 : decode cX12_of 40 = .ok (.aload_n 0, 1) := by decide +kernel
theorem dX12_of_41 : decode cX12_of 41 = .ok (.getfield 24, 3) := by decide +kernel
theorem dX12_of_44 : decode cX12_of 44 = .ok (.bipush 7, 2) := by decide +kernel
theorem dX12_of_46 : decode cX12_of 46 = .ok (.iload_n 1, 1) := by decide +kernel
theorem dX12_of_47 : decode cX12_of 47 = .ok (.iadd, 1) := by decide +kernel
theorem dX12_of_48 : decode cX12_of 48 = .ok (.iaload, 1) := by decide +kernel
theorem dX12_of_49 : decode cX12_of 49 = .ok (.ireturn, 1) := by decide +kernel
theorem dX12_of_50 : decode cX12_of 50 = .ok (.aload_n 0, 1) := by decide +kernel
theorem dX12_of_51 : decode cX12_of 51 = .ok (.getfield 24, 3) := by decide +kernel
theorem dX12_of_54 : decode cX12_of 54 = .ok (.bipush 13, 2) := by decide +kernel
theorem dX12_of_56 : decode cX12_of 56 = .ok (.iload_n 1, 1) := by decide +kernel
theorem dX12_of_57 : decode cX12_of 57 = .ok (.iadd, 1) := by decide +kernel
theorem dX12_of_58 : decode cX12_of 58 = .ok (.iaload, 1) := by decide +kernel
theorem dX12_of_59 : decode cX12_of 59 = .ok (.ireturn, 1) := by decide +kernel
theorem dX12_of_60 : decode cX12_of 60 = .ok (.aload_n 0, 1) := by decide +kernel
theorem dX12_of_61 : decode cX12_of 61 = .ok (.getfield 24, 3) := by decide +kernel
theorem dX12_of_64 : decode cX12_of 64 = .ok (.iconst 0, 1) := by decide +kernel
theorem dX12_of_65 : decode cX12_of 65 = .ok (.iload_n 1, 1) := by decide +kernel
theorem dX12_of_66 : decode cX12_of 66 = .ok (.iadd, 1) := by decide +kernel
theorem dX12_of_67 : decode cX12_of 67 = .ok (.iaload, 1) := by decide +kernel
theorem dX12_of_68 : decode cX12_of 68 = .ok (.ireturn, 1) := by decide +kernel
theorem dX12_of_69 : decode cX12_of 69 = .ok (.aload_n 0, 1) := by decide +kernel
theorem dX12_of_70 : decode cX12_of 70 = .ok (.iload_n 1, 1) := by decide +kernel
theorem dX12_of_71 : decode cX12_of 71 = .ok (.invokevirtual 134, 3) := by decide +kernel
theorem dX12_of_74 : decode cX12_of 74 = .ok (.ireturn, 1) := by decide +kernel
theorem dX12_of_75 : decode cX12_of 75 = .ok (.iconst (-1), 1) := by decide +kernel
theorem dX12_of_76 : decode cX12_of 76 = .ok (.ireturn, 1) := by decide +kernel
theorem dX12_canTicket_0 : decode cX12_canTicket 0 = .ok (.iload_n 1, 1) := by decide +kernel
theorem dX12_canTicket_1 : decode cX12_canTicket 1 = .ok (.iconst 1, 1) := by decide +kernel
theorem dX12_canTicket_2 : decode cX12_canTicket 2 = .ok (.bipush 99, 2) := by decide +kernel
theorem dX12_canTicket_4 : decode cX12_canTicket 4 = .ok (.invokestatic 117, 3) := by decide +kernel
theorem dX12_canTicket_7 : decode cX12_canTicket 7 = .ok (.ifCond .eq 14, 3) := by decide +kernel
theorem dX12_canTicket_10 : decode cX12_canTicket 10 = .ok (.iload_n 2, 1) := by decide +kernel
theorem dX12_canTicket_11 : decode cX12_canTicket 11 = .ok (.invokestatic 127, 3) := by decide +kernel
theorem dX12_canTicket_14 : decode cX12_canTicket 14 = .ok (.ifCond .eq 7, 3) := by decide +kernel
theorem dX12_canTicket_17 : decode cX12_canTicket 17 = .ok (.iconst 1, 1) := by decide +kernel
theorem dX12_canTicket_18 : decode cX12_canTicket 18 = .ok (.goto 4, 3) := by decide +kernel
theorem dX12_canTicket_21 : decode cX12_canTicket 21 = .ok (.iconst 0, 1) := by decide +kernel
theorem dX12_canTicket_22 : decode cX12_canTicket 22 = .ok (.ireturn, 1) := by decide +kernel
theorem dX12_isNumbered_0 : decode cX12_isNumbered 0 = .ok (.iconst 0, 1) := by decide +kernel
theorem dX12_isNumbered_1 : decode cX12_isNumbered 1 = .ok (.istore_n 2, 1) := by decide +kernel
theorem dX12_isNumbered_2 : decode cX12_isNumbered 2 = .ok (.iconst 0, 1) := by decide +kernel
theorem dX12_isNumbered_3 : decode cX12_isNumbered 3 = .ok (.istore_n 3, 1) := by decide +kernel
theorem dX12_isNumbered_4 : decode cX12_isNumbered 4 = .ok (.iload_n 3, 1) := by decide +kernel
theorem dX12_isNumbered_5 : decode cX12_isNumbered 5 = .ok (.aload_n 0, 1) := by decide +kernel
theorem dX12_isNumbered_6 : decode cX12_isNumbered 6 = .ok (.getfield 24, 3) := by decide +kernel
theorem dX12_isNumbered_9 : decode cX12_isNumbered 9 = .ok (.bipush 104, 2) := by decide +kernel
theorem dX12_isNumbered_11 : decode cX12_isNumbered 11 = .ok (.iaload, 1) := by decide +kernel
theorem dX12_isNumbered_12 : decode cX12_isNumbered 12 = .ok (.if_icmp .ge 32, 3) := by decide +kernel
theorem dX12_isNumbered_15 : decode cX12_isNumbered 15 = .ok (.iload_n 2, 1) := by decide +kernel
theorem dX12_isNumbered_16 : decode cX12_isNumbered 16 = .ok (.ifCond .ne 16, 3) := by decide +kernel
theorem dX12_isNumbered_19 : decode cX12_isNumbered 19 = .ok (.aload_n 0, 1) := by decide +kernel
theorem dX12_isNumbered_20 : decode cX12_isNumbered 20 = .ok (.getfield 24, 3) := by decide +kernel
theorem dX12_isNumbered_23 : decode cX12_isNumbered 23 = .ok (.bipush 67, 2) := by decide +kernel
theorem dX12_isNumbered_25 : decode cX12_isNumbered 25 = .ok (.iload_n 3, 1) := by decide +kernel
theorem dX12_isNumbered_26 : decode cX12_isNumbered 26 = .ok (.iadd, 1) := by decide +kernel
theorem dX12_isNumbered_27 : decode cX12_isNumbered 27 = .ok (.iaload, 1) := by decide +kernel
theorem dX12_isNumbered_28 : decode cX12_isNumbered 28 = .ok (.iload_n 1, 1) := by decide +kernel
theorem dX12_isNumbered_29 : decode cX12_isNumbered 29 = .ok (.if_icmp .ne 7, 3) := by decide +kernel
theorem dX12_isNumbered_32 : decode cX12_isNumbered 32 = .ok (.iconst 1, 1) := by decide +kernel
theorem dX12_isNumbered_33 : decode cX12_isNumbered 33 = .ok (.goto 4, 3) := by decide +kernel
theorem dX12_isNumbered_36 : decode cX12_isNumbered 36 = .ok (.iconst 0, 1) := by decide +kernel
theorem dX12_isNumbered_37 : decode cX12_isNumbered 37 = .ok (.istore_n 2, 1) := by decide +kernel
theorem dX12_isNumbered_38 : decode cX12_isNumbered 38 = .ok (.iinc 3 1, 3) := by decide +kernel
theorem dX12_isNumbered_41 : decode cX12_isNumbered 41 = .ok (.goto (-37), 3) := by decide +kernel
theorem dX12_isNumbered_44 : decode cX12_isNumbered 44 = .ok (.iload_n 2, 1) := by decide +kernel
theorem dX12_isNumbered_45 : decode cX12_isNumbered 45 = .ok (.ireturn, 1) := by decide +kernel
theorem dX12_addsTicket_0 : decode cX12_addsTicket 0 = .ok (.aload_n 0, 1) := by decide +kernel
theorem dX12_addsTicket_1 : decode cX12_addsTicket 1 = .ok (.getfield 24, 3) := by decide +kernel
theorem dX12_addsTicket_4 : decode cX12_addsTicket 4 = .ok (.bipush 104, 2) := by decide +kernel
theorem dX12_addsTicket_6 : decode cX12_addsTicket 6 = .ok (.iaload, 1) := by decide +kernel
theorem dX12_addsTicket_7 : decode cX12_addsTicket 7 = .ok (.istore_n 3, 1) := by decide +kernel
theorem dX12_addsTicket_8 : decode cX12_addsTicket 8 = .ok (.aload_n 0, 1) := by decide +kernel
theorem dX12_addsTicket_9 : decode cX12_addsTicket 9 = .ok (.getfield 24, 3) := by decide +kernel
theorem dX12_addsTicket_12 : decode cX12_addsTicket 12 = .ok (.bipush 67, 2) := by decide +kernel
theorem dX12_addsTicket_14 : decode cX12_addsTicket 14 = .ok (.iload_n 3, 1) := by decide +kernel
theorem dX12_addsTicket_15 : decode cX12_addsTicket 15 = .ok (.iadd, 1) := by decide +kernel
theorem dX12_addsTicket_16 : decode cX12_addsTicket 16 = .ok (.iload_n 1, 1) := by decide +kernel
theorem dX12_addsTicket_17 : decode cX12_addsTicket 17 = .ok (.iastore, 1) := by decide +kernel
theorem dX12_addsTicket_18 : decode cX12_addsTicket 18 = .ok (.aload_n 0, 1) := by decide +kernel
theorem dX12_addsTicket_19 : decode cX12_addsTicket 19 = .ok (.getfield 24, 3) := by decide +kernel
theorem dX12_addsTicket_22 : decode cX12_addsTicket 22 = .ok (.bipush 75, 2) := by decide +kernel
theorem dX12_addsTicket_24 : decode cX12_addsTicket 24 = .ok (.iload_n 3, 1) := by decide +kernel
theorem dX12_addsTicket_25 : decode cX12_addsTicket 25 = .ok (.iadd, 1) := by decide +kernel
theorem dX12_addsTicket_26 : decode cX12_addsTicket 26 = .ok (.iload_n 2, 1) := by decide +kernel
theorem dX12_addsTicket_27 : decode cX12_addsTicket 27 = .ok (.iastore, 1) := by decide +kernel
theorem dX12_addsTicket_28 : decode cX12_addsTicket 28 = .ok (.iconst 0, 1) := by decide +kernel
theorem dX12_addsTicket_29 : decode cX12_addsTicket 29 = .ok (.istore 4, 2) := by decide +kernel
theorem dX12_addsTicket_31 : decode cX12_addsTicket 31 = .ok (.iload 4, 2) := by decide +kernel
theorem dX12_addsTicket_33 : decode cX12_addsTicket 33 = .ok (.bipush 6, 2) := by decide +kernel
theorem dX12_addsTicket_35 : decode cX12_addsTicket 35 = .ok (.if_icmp .ge 25, 3) := by decide +kernel
theorem dX12_addsTicket_38 : decode cX12_addsTicket 38 = .ok (.aload_n 0, 1) := by decide +kernel
theorem dX12_addsTicket_39 : decode cX12_addsTicket 39 = .ok (.getfield 24, 3) := by decide +kernel
theorem dX12_addsTicket_42 : decode cX12_addsTicket 42 = .ok (.bipush 19, 2) := by decide +kernel
theorem dX12_addsTicket_44 : decode cX12_addsTicket 44 = .ok (.bipush 8, 2) := by decide +kernel
theorem dX12_addsTicket_46 : decode cX12_addsTicket 46 = .ok (.iload 4, 2) := by decide +kernel
theorem dX12_addsTicket_48 : decode cX12_addsTicket 48 = .ok (.imul, 1) := by decide +kernel
theorem dX12_addsTicket_49 : decode cX12_addsTicket 49 = .ok (.iadd, 1) := by decide +kernel
theorem dX12_addsTicket_50 : decode cX12_addsTicket 50 = .ok (.iload_n 3, 1) := by decide +kernel
theorem dX12_addsTicket_51 : decode cX12_addsTicket 51 = .ok (.iadd, 1) := by decide +kernel
theorem dX12_addsTicket_52 : decode cX12_addsTicket 52 = .ok (.iconst 0, 1) := by decide +kernel
theorem dX12_addsTicket_53 : decode cX12_addsTicket 53 = .ok (.iastore, 1) := by decide +kernel
theorem dX12_addsTicket_54 : decode cX12_addsTicket 54 = .ok (.iinc 4 1, 3) := by decide +kernel
theorem dX12_addsTicket_57 : decode cX12_addsTicket 57 = .ok (.goto (-26), 3) := by decide +kernel
theorem dX12_addsTicket_60 : decode cX12_addsTicket 60 = .ok (.aload_n 0, 1) := by decide +kernel
theorem dX12_addsTicket_61 : decode cX12_addsTicket 61 = .ok (.getfield 24, 3) := by decide +kernel
theorem dX12_addsTicket_64 : decode cX12_addsTicket 64 = .ok (.bipush 104, 2) := by decide +kernel
theorem dX12_addsTicket_66 : decode cX12_addsTicket 66 = .ok (.dup2, 1) := by decide +kernel
theorem dX12_addsTicket_67 : decode cX12_addsTicket 67 = .ok (.iaload, 1) := by decide +kernel
theorem dX12_addsTicket_68 : decode cX12_addsTicket 68 = .ok (.iconst 1, 1) := by decide +kernel
theorem dX12_addsTicket_69 : decode cX12_addsTicket 69 = .ok (.iadd, 1) := by decide +kernel
theorem dX12_addsTicket_70 : decode cX12_addsTicket 70 = .ok (.iastore, 1) := by decide +kernel
theorem dX12_addsTicket_71 : decode cX12_addsTicket 71 = .ok (.return_, 1) := by decide +kernel
theorem dX12_ticket_0 : decode cX12_ticket 0 = .ok (.aload_n 0, 1) := by decide +kernel
theorem dX12_ticket_1 : decode cX12_ticket 1 = .ok (.iload_n 1, 1) := by decide +kernel
theorem dX12_ticket_2 : decode cX12_ticket 2 = .ok (.iload_n 2, 1) := by decide +kernel
theorem dX12_ticket_3 : decode cX12_ticket 3 = .ok (.invokevirtual 137, 3) := by decide +kernel
theorem dX12_ticket_6 : decode cX12_ticket 6 = .ok (.ifCond .ne 9, 3) := by decide +kernel
theorem dX12_ticket_9 : decode cX12_ticket 9 = .ok (.aload_n 0, 1) := by decide +kernel
theorem dX12_ticket_10 : decode cX12_ticket 10 = .ok (.iconst (-1), 1) := by decide +kernel
theorem dX12_ticket_11 : decode cX12_ticket 11 = .ok (.invokevirtual 121, 3) := by decide +kernel
theorem dX12_ticket_14 : decode cX12_ticket 14 = .ok (.ireturn, 1) := by decide +kernel
theorem dX12_ticket_15 : decode cX12_ticket 15 = .ok (.aload_n 0, 1) := by decide +kernel
theorem dX12_ticket_16 : decode cX12_ticket 16 = .ok (.iload_n 1, 1) := by decide +kernel
theorem dX12_ticket_17 : decode cX12_ticket 17 = .ok (.invokevirtual 141, 3) := by decide +kernel
theorem dX12_ticket_20 : decode cX12_ticket 20 = .ok (.ifCond .eq 10, 3) := by decide +kernel
theorem dX12_ticket_23 : decode cX12_ticket 23 = .ok (.aload_n 0, 1) := by decide +kernel
theorem dX12_ticket_24 : decode cX12_ticket 24 = .ok (.bipush (-3), 2) := by decide +kernel
theorem dX12_ticket_26 : decode cX12_ticket 26 = .ok (.invokevirtual 121, 3) := by decide +kernel
theorem dX12_ticket_29 : decode cX12_ticket 29 = .ok (.ireturn, 1) := by decide +kernel
theorem dX12_ticket_30 : decode cX12_ticket 30 = .ok (.aload_n 0, 1) := by decide +kernel
theorem dX12_ticket_31 : decode cX12_ticket 31 = .ok (.getfield 24, 3) := by decide +kernel
theorem dX12_ticket_34 : decode cX12_ticket 34 = .ok (.bipush 104, 2) := by decide +kernel
theorem dX12_ticket_36 : decode cX12_ticket 36 = .ok (.iaload, 1) := by decide +kernel
theorem dX12_ticket_37 : decode cX12_ticket 37 = .ok (.bipush 8, 2) := by decide +kernel
theorem dX12_ticket_39 : decode cX12_ticket 39 = .ok (.if_icmp .ne 10, 3) := by decide +kernel
theorem dX12_ticket_42 : decode cX12_ticket 42 = .ok (.aload_n 0, 1) := by decide +kernel
theorem dX12_ticket_43 : decode cX12_ticket 43 = .ok (.bipush (-5), 2) := by decide +kernel
theorem dX12_ticket_45 : decode cX12_ticket 45 = .ok (.invokevirtual 121, 3) := by decide +kernel
theorem dX12_ticket_48 : decode cX12_ticket 48 = .ok (.ireturn, 1) := by decide +kernel
theorem dX12_ticket_49 : decode cX12_ticket 49 = .ok (.aload_n 0, 1) := by decide +kernel
theorem dX12_ticket_50 : decode cX12_ticket 50 = .ok (.iload_n 1, 1) := by decide +kernel
theorem dX12_ticket_51 : decode cX12_ticket 51 = .ok (.iload_n 2, 1) := by decide +kernel
theorem dX12_ticket_52 : decode cX12_ticket 52 = .ok (.invokevirtual 144, 3) := by decide +kernel
theorem dX12_ticket_55 : decode cX12_ticket 55 = .ok (.aload_n 0, 1) := by decide +kernel
theorem dX12_ticket_56 : decode cX12_ticket 56 = .ok (.aload_n 0, 1) := by decide +kernel
theorem dX12_ticket_57 : decode cX12_ticket 57 = .ok (.getfield 24, 3) := by decide +kernel
theorem dX12_ticket_60 : decode cX12_ticket 60 = .ok (.bipush 104, 2) := by decide +kernel
theorem dX12_ticket_62 : decode cX12_ticket 62 = .ok (.iaload, 1) := by decide +kernel
theorem dX12_ticket_63 : decode cX12_ticket 63 = .ok (.iconst 1, 1) := by decide +kernel
theorem dX12_ticket_64 : decode cX12_ticket 64 = .ok (.isub, 1) := by decide +kernel
theorem dX12_ticket_65 : decode cX12_ticket 65 = .ok (.invokevirtual 124, 3) := by decide +kernel
theorem dX12_ticket_68 : decode cX12_ticket 68 = .ok (.ireturn, 1) := by decide +kernel
theorem dX12_at_0 : decode cX12_at 0 = .ok (.aload_n 0, 1) := by decide +kernel
theorem dX12_at_1 : decode cX12_at 1 = .ok (.iload_n 1, 1) := by decide +kernel
theorem dX12_at_2 : decode cX12_at 2 = .ok (.invokevirtual 148, 3) := by decide +kernel
theorem dX12_at_5 : decode cX12_at 5 = .ok (.ifCond .ne 5, 3) := by decide +kernel
theorem dX12_at_8 : decode cX12_at 8 = .ok (.iconst (-1), 1) := by decide +kernel
theorem dX12_at_9 : decode cX12_at 9 = .ok (.ireturn, 1) := by decide +kernel
theorem dX12_at_10 : decode cX12_at 10 = .ok (.iload_n 2, 1) := by decide +kernel
theorem dX12_at_11 : decode cX12_at 11 = .ok (.tableswitch 51 0 2 #[25, 35, 45], 25) := by decide +kernel
theorem dX12_at_36 : decode cX12_at 36 = .ok (.aload_n 0, 1) := by decide +kernel
theorem dX12_at_37 : decode cX12_at 37 = .ok (.getfield 24, 3) := by decide +kernel
theorem dX12_at_40 : decode cX12_at 40 = .ok (.bipush 67, 2) := by decide +kernel
theorem dX12_at_42 : decode cX12_at 42 = .ok (.iload_n 1, 1) := by decide +kernel
theorem dX12_at_43 : decode cX12_at 43 = .ok (.iadd, 1) := by decide +kernel
theorem dX12_at_44 : decode cX12_at 44 = .ok (.iaload, 1) := by decide +kernel
theorem dX12_at_45 : decode cX12_at 45 = .ok (.ireturn, 1) := by decide +kernel
theorem dX12_at_46 : decode cX12_at 46 = .ok (.aload_n 0, 1) := by decide +kernel
theorem dX12_at_47 : decode cX12_at 47 = .ok (.getfield 24, 3) := by decide +kernel
theorem dX12_at_50 : decode cX12_at 50 = .ok (.bipush 75, 2) := by decide +kernel
theorem dX12_at_52 : decode cX12_at 52 = .ok (.iload_n 1, 1) := by decide +kernel
theorem dX12_at_53 : decode cX12_at 53 = .ok (.iadd, 1) := by decide +kernel
theorem dX12_at_54 : decode cX12_at 54 = .ok (.iaload, 1) := by decide +kernel
theorem dX12_at_55 : decode cX12_at 55 = .ok (.ireturn, 1) := by decide +kernel
theorem dX12_at_56 : decode cX12_at 56 = .ok (.aload_n 0, 1) := by decide +kernel
theorem dX12_at_57 : decode cX12_at 57 = .ok (.iload_n 1, 1) := by decide +kernel
theorem dX12_at_58 : decode cX12_at 58 = .ok (.invokevirtual 151, 3) := by decide +kernel
theorem dX12_at_61 : decode cX12_at 61 = .ok (.ireturn, 1) := by decide +kernel
theorem dX12_at_62 : decode cX12_at 62 = .ok (.iconst (-1), 1) := by decide +kernel
theorem dX12_at_63 : decode cX12_at 63 = .ok (.ireturn, 1) := by decide +kernel
theorem dX12_wishOf_0 : decode cX12_wishOf 0 = .ok (.aload_n 0, 1) := by decide +kernel
theorem dX12_wishOf_1 : decode cX12_wishOf 1 = .ok (.getfield 24, 3) := by decide +kernel
theorem dX12_wishOf_4 : decode cX12_wishOf 4 = .ok (.bipush 19, 2) := by decide +kernel
theorem dX12_wishOf_6 : decode cX12_wishOf 6 = .ok (.bipush 8, 2) := by decide +kernel
theorem dX12_wishOf_8 : decode cX12_wishOf 8 = .ok (.iload_n 1, 1) := by decide +kernel
theorem dX12_wishOf_9 : decode cX12_wishOf 9 = .ok (.imul, 1) := by decide +kernel
theorem dX12_wishOf_10 : decode cX12_wishOf 10 = .ok (.iadd, 1) := by decide +kernel
theorem dX12_wishOf_11 : decode cX12_wishOf 11 = .ok (.iload_n 2, 1) := by decide +kernel
theorem dX12_wishOf_12 : decode cX12_wishOf 12 = .ok (.iadd, 1) := by decide +kernel
theorem dX12_wishOf_13 : decode cX12_wishOf 13 = .ok (.iaload, 1) := by decide +kernel
theorem dX12_wishOf_14 : decode cX12_wishOf 14 = .ok (.ireturn, 1) := by decide +kernel
theorem dX12_wish_0 : decode cX12_wish 0 = .ok (.iload_n 3, 1) := by decide +kernel
theorem dX12_wish_1 : decode cX12_wish 1 = .ok (.iconst 0, 1) := by decide +kernel
theorem dX12_wish_2 : decode cX12_wish 2 = .ok (.bipush 9, 2) := by decide +kernel
theorem dX12_wish_4 : decode cX12_wish 4 = .ok (.invokestatic 117, 3) := by decide +kernel
theorem dX12_wish_7 : decode cX12_wish 7 = .ok (.ifCond .ne 9, 3) := by decide +kernel
theorem dX12_wish_10 : decode cX12_wish 10 = .ok (.aload_n 0, 1) := by decide +kernel
theorem dX12_wish_11 : decode cX12_wish 11 = .ok (.iconst (-1), 1) := by decide +kernel
theorem dX12_wish_12 : decode cX12_wish 12 = .ok (.invokevirtual 121, 3) := by decide +kernel
theorem dX12_wish_15 : decode cX12_wish 15 = .ok (.ireturn, 1) := by decide +kernel
theorem dX12_wish_16 : decode cX12_wish 16 = .ok (.aload_n 0, 1) := by decide +kernel
theorem dX12_wish_17 : decode cX12_wish 17 = .ok (.iload_n 1, 1) := by decide +kernel
theorem dX12_wish_18 : decode cX12_wish 18 = .ok (.invokevirtual 131, 3) := by decide +kernel
theorem dX12_wish_21 : decode cX12_wish 21 = .ok (.ifCond .eq 11, 3) := by decide +kernel
theorem dX12_wish_24 : decode cX12_wish 24 = .ok (.aload_n 0, 1) := by decide +kernel
theorem dX12_wish_25 : decode cX12_wish 25 = .ok (.iload_n 2, 1) := by decide +kernel
theorem dX12_wish_26 : decode cX12_wish 26 = .ok (.invokevirtual 148, 3) := by decide +kernel
theorem dX12_wish_29 : decode cX12_wish 29 = .ok (.ifCond .ne 10, 3) := by decide +kernel
theorem dX12_wish_32 : decode cX12_wish 32 = .ok (.aload_n 0, 1) := by decide +kernel
theorem dX12_wish_33 : decode cX12_wish 33 = .ok (.bipush (-2), 2) := by decide +kernel
theorem dX12_wish_35 : decode cX12_wish 35 = .ok (.invokevirtual 121, 3) := by decide +kernel
theorem dX12_wish_38 : decode cX12_wish 38 = .ok (.ireturn, 1) := by decide +kernel
theorem dX12_wish_39 : decode cX12_wish 39 = .ok (.aload_n 0, 1) := by decide +kernel
theorem dX12_wish_40 : decode cX12_wish 40 = .ok (.iload_n 1, 1) := by decide +kernel
theorem dX12_wish_41 : decode cX12_wish 41 = .ok (.iload_n 2, 1) := by decide +kernel
theorem dX12_wish_42 : decode cX12_wish 42 = .ok (.invokevirtual 154, 3) := by decide +kernel
theorem dX12_wish_45 : decode cX12_wish 45 = .ok (.istore 4, 2) := by decide +kernel
theorem dX12_wish_47 : decode cX12_wish 47 = .ok (.aload_n 0, 1) := by decide +kernel
theorem dX12_wish_48 : decode cX12_wish 48 = .ok (.getfield 24, 3) := by decide +kernel
theorem dX12_wish_51 : decode cX12_wish 51 = .ok (.bipush 19, 2) := by decide +kernel
theorem dX12_wish_53 : decode cX12_wish 53 = .ok (.bipush 8, 2) := by decide +kernel
theorem dX12_wish_55 : decode cX12_wish 55 = .ok (.iload_n 1, 1) := by decide +kernel
theorem dX12_wish_56 : decode cX12_wish 56 = .ok (.imul, 1) := by decide +kernel
theorem dX12_wish_57 : decode cX12_wish 57 = .ok (.iadd, 1) := by decide +kernel
theorem dX12_wish_58 : decode cX12_wish 58 = .ok (.iload_n 2, 1) := by decide +kernel
theorem dX12_wish_59 : decode cX12_wish 59 = .ok (.iadd, 1) := by decide +kernel
theorem dX12_wish_60 : decode cX12_wish 60 = .ok (.iload_n 3, 1) := by decide +kernel
theorem dX12_wish_61 : decode cX12_wish 61 = .ok (.iastore, 1) := by decide +kernel
theorem dX12_wish_62 : decode cX12_wish 62 = .ok (.aload_n 0, 1) := by decide +kernel
theorem dX12_wish_63 : decode cX12_wish 63 = .ok (.iload 4, 2) := by decide +kernel
theorem dX12_wish_65 : decode cX12_wish 65 = .ok (.invokevirtual 14, 3) := by decide +kernel
theorem dX12_wish_68 : decode cX12_wish 68 = .ok (.ireturn, 1) := by decide +kernel
theorem dX12_desk_0 : decode cX12_desk 0 = .ok (.iload_n 1, 1) := by decide +kernel
theorem dX12_desk_1 : decode cX12_desk 1 = .ok (.iconst 0, 1) := by decide +kernel
theorem dX12_desk_2 : decode cX12_desk 2 = .ok (.bipush 31, 2) := by decide +kernel
theorem dX12_desk_4 : decode cX12_desk 4 = .ok (.invokestatic 117, 3) := by decide +kernel
theorem dX12_desk_7 : decode cX12_desk 7 = .ok (.ifCond .eq 13, 3) := by decide +kernel
theorem dX12_desk_10 : decode cX12_desk 10 = .ok (.iload_n 2, 1) := by decide +kernel
theorem dX12_desk_11 : decode cX12_desk 11 = .ok (.iconst 1, 1) := by decide +kernel
theorem dX12_desk_12 : decode cX12_desk 12 = .ok (.bipush 9, 2) := by decide +kernel
theorem dX12_desk_14 : decode cX12_desk 14 = .ok (.invokestatic 117, 3) := by decide +kernel
theorem dX12_desk_17 : decode cX12_desk 17 = .ok (.ifCond .ne 9, 3) := by decide +kernel
theorem dX12_desk_20 : decode cX12_desk 20 = .ok (.aload_n 0, 1) := by decide +kernel
theorem dX12_desk_21 : decode cX12_desk 21 = .ok (.iconst (-1), 1) := by decide +kernel
theorem dX12_desk_22 : decode cX12_desk 22 = .ok (.invokevirtual 121, 3) := by decide +kernel
theorem dX12_desk_25 : decode cX12_desk 25 = .ok (.ireturn, 1) := by decide +kernel
theorem dX12_desk_26 : decode cX12_desk 26 = .ok (.aload_n 0, 1) := by decide +kernel
theorem dX12_desk_27 : decode cX12_desk 27 = .ok (.getfield 24, 3) := by decide +kernel
theorem dX12_desk_30 : decode cX12_desk 30 = .ok (.bipush 105, 2) := by decide +kernel
theorem dX12_desk_32 : decode cX12_desk 32 = .ok (.iaload, 1) := by decide +kernel
theorem dX12_desk_33 : decode cX12_desk 33 = .ok (.istore_n 3, 1) := by decide +kernel
theorem dX12_desk_34 : decode cX12_desk 34 = .ok (.iload_n 3, 1) := by decide +kernel
theorem dX12_desk_35 : decode cX12_desk 35 = .ok (.iconst 3, 1) := by decide +kernel
theorem dX12_desk_36 : decode cX12_desk 36 = .ok (.if_icmp .ne 10, 3) := by decide +kernel
theorem dX12_desk_39 : decode cX12_desk 39 = .ok (.aload_n 0, 1) := by decide +kernel
theorem dX12_desk_40 : decode cX12_desk 40 = .ok (.bipush (-5), 2) := by decide +kernel
theorem dX12_desk_42 : decode cX12_desk 42 = .ok (.invokevirtual 121, 3) := by decide +kernel
theorem dX12_desk_45 : decode cX12_desk 45 = .ok (.ireturn, 1) := by decide +kernel
theorem dX12_desk_46 : decode cX12_desk 46 = .ok (.aload_n 0, 1) := by decide +kernel
theorem dX12_desk_47 : decode cX12_desk 47 = .ok (.getfield 24, 3) := by decide +kernel
theorem dX12_desk_50 : decode cX12_desk 50 = .ok (.bipush 83, 2) := by decide +kernel
theorem dX12_desk_52 : decode cX12_desk 52 = .ok (.iload_n 3, 1) := by decide +kernel
theorem dX12_desk_53 : decode cX12_desk 53 = .ok (.iadd, 1) := by decide +kernel
theorem dX12_desk_54 : decode cX12_desk 54 = .ok (.iload_n 1, 1) := by decide +kernel
theorem dX12_desk_55 : decode cX12_desk 55 = .ok (.iastore, 1) := by decide +kernel
theorem dX12_desk_56 : decode cX12_desk 56 = .ok (.aload_n 0, 1) := by decide +kernel
theorem dX12_desk_57 : decode cX12_desk 57 = .ok (.getfield 24, 3) := by decide +kernel
theorem dX12_desk_60 : decode cX12_desk 60 = .ok (.bipush 86, 2) := by decide +kernel
theorem dX12_desk_62 : decode cX12_desk 62 = .ok (.iload_n 3, 1) := by decide +kernel
theorem dX12_desk_63 : decode cX12_desk 63 = .ok (.iadd, 1) := by decide +kernel
theorem dX12_desk_64 : decode cX12_desk 64 = .ok (.iload_n 2, 1) := by decide +kernel
theorem dX12_desk_65 : decode cX12_desk 65 = .ok (.iastore, 1) := by decide +kernel
theorem dX12_desk_66 : decode cX12_desk 66 = .ok (.aload_n 0, 1) := by decide +kernel
theorem dX12_desk_67 : decode cX12_desk 67 = .ok (.getfield 24, 3) := by decide +kernel
theorem dX12_desk_70 : decode cX12_desk 70 = .ok (.bipush 105, 2) := by decide +kernel
theorem dX12_desk_72 : decode cX12_desk 72 = .ok (.dup2, 1) := by decide +kernel
theorem dX12_desk_73 : decode cX12_desk 73 = .ok (.iaload, 1) := by decide +kernel
theorem dX12_desk_74 : decode cX12_desk 74 = .ok (.iconst 1, 1) := by decide +kernel
theorem dX12_desk_75 : decode cX12_desk 75 = .ok (.iadd, 1) := by decide +kernel
theorem dX12_desk_76 : decode cX12_desk 76 = .ok (.iastore, 1) := by decide +kernel
theorem dX12_desk_77 : decode cX12_desk 77 = .ok (.aload_n 0, 1) := by decide +kernel
theorem dX12_desk_78 : decode cX12_desk 78 = .ok (.iload_n 3, 1) := by decide +kernel
theorem dX12_desk_79 : decode cX12_desk 79 = .ok (.invokevirtual 14, 3) := by decide +kernel
theorem dX12_desk_82 : decode cX12_desk 82 = .ok (.ireturn, 1) := by decide +kernel
theorem dX12_asks_0 : decode cX12_asks 0 = .ok (.aload_n 0, 1) := by decide +kernel
theorem dX12_asks_1 : decode cX12_asks 1 = .ok (.iload_n 1, 1) := by decide +kernel
theorem dX12_asks_2 : decode cX12_asks 2 = .ok (.invokevirtual 131, 3) := by decide +kernel
theorem dX12_asks_5 : decode cX12_asks 5 = .ok (.ifCond .eq 11, 3) := by decide +kernel
theorem dX12_asks_8 : decode cX12_asks 8 = .ok (.aload_n 0, 1) := by decide +kernel
theorem dX12_asks_9 : decode cX12_asks 9 = .ok (.iload_n 2, 1) := by decide +kernel
theorem dX12_asks_10 : decode cX12_asks 10 = .ok (.invokevirtual 148, 3) := by decide +kernel
theorem dX12_asks_13 : decode cX12_asks 13 = .ok (.ifCond .ne 5, 3) := by decide +kernel
theorem dX12_asks_16 : decode cX12_asks 16 = .ok (.iconst (-1), 1) := by decide +kernel
theorem dX12_asks_17 : decode cX12_asks 17 = .ok (.ireturn, 1) := by decide +kernel
theorem dX12_asks_18 : decode cX12_asks 18 = .ok (.iload_n 3, 1) := by decide +kernel
theorem dX12_asks_19 : decode cX12_asks 19 = .ok (.tableswitch 62 0 2 #[25, 32, 47], 25) := by decide +kernel
theorem dX12_asks_44 : decode cX12_asks 44 = .ok (.aload_n 0, 1) := by decide +kernel
theorem dX12_asks_45 : decode cX12_asks 45 = .ok (.iload_n 1, 1) := by decide +kernel
theorem dX12_asks_46 : decode cX12_asks 46 = .ok (.iload_n 2, 1) := by decide +kernel
theorem dX12_asks_47 : decode cX12_asks 47 = .ok (.invokevirtual 154, 3) := by decide +kernel
theorem dX12_asks_50 : decode cX12_asks 50 = .ok (.ireturn, 1) := by decide +kernel
theorem dX12_asks_51 : decode cX12_asks 51 = .ok (.aload_n 0, 1) := by decide +kernel
theorem dX12_asks_52 : decode cX12_asks 52 = .ok (.iload_n 1, 1) := by decide +kernel
theorem dX12_asks_53 : decode cX12_asks 53 = .ok (.iload_n 2, 1) := by decide +kernel
theorem dX12_asks_54 : decode cX12_asks 54 = .ok (.invokevirtual 158, 3) := by decide +kernel
theorem dX12_asks_57 : decode cX12_asks 57 = .ok (.ifCond .eq 7, 3) := by decide +kernel
theorem dX12_asks_60 : decode cX12_asks 60 = .ok (.iconst 1, 1) := by decide +kernel
theorem dX12_asks_61 : decode cX12_asks 61 = .ok (.goto 4, 3) := by decide +kernel
theorem dX12_asks_64 : decode cX12_asks 64 = .ok (.iconst 0, 1) := by decide +kernel
theorem dX12_asks_65 : decode cX12_asks 65 = .ok (.ireturn, 1) := by decide +kernel
theorem dX12_asks_66 : decode cX12_asks 66 = .ok (.aload_n 0, 1) := by decide +kernel
theorem dX12_asks_67 : decode cX12_asks 67 = .ok (.iload_n 1, 1) := by decide +kernel
theorem dX12_asks_68 : decode cX12_asks 68 = .ok (.iload_n 2, 1) := by decide +kernel
theorem dX12_asks_69 : decode cX12_asks 69 = .ok (.invokevirtual 161, 3) := by decide +kernel
theorem dX12_asks_72 : decode cX12_asks 72 = .ok (.ifCond .eq 7, 3) := by decide +kernel
theorem dX12_asks_75 : decode cX12_asks 75 = .ok (.iconst 1, 1) := by decide +kernel
theorem dX12_asks_76 : decode cX12_asks 76 = .ok (.goto 4, 3) := by decide +kernel
theorem dX12_asks_79 : decode cX12_asks 79 = .ok (.iconst 0, 1) := by decide +kernel
theorem dX12_asks_80 : decode cX12_asks 80 = .ok (.ireturn, 1) := by decide +kernel
theorem dX12_asks_81 : decode cX12_asks 81 = .ok (.iload_n 3, 1) := by decide +kernel
theorem dX12_asks_82 : decode cX12_asks 82 = .ok (.iconst 3, 1) := by decide +kernel
theorem dX12_asks_83 : decode cX12_asks 83 = .ok (.isub, 1) := by decide +kernel
theorem dX12_asks_84 : decode cX12_asks 84 = .ok (.iconst 0, 1) := by decide +kernel
theorem dX12_asks_85 : decode cX12_asks 85 = .ok (.aload_n 0, 1) := by decide +kernel
theorem dX12_asks_86 : decode cX12_asks 86 = .ok (.getfield 24, 3) := by decide +kernel
theorem dX12_asks_89 : decode cX12_asks 89 = .ok (.bipush 105, 2) := by decide +kernel
theorem dX12_asks_91 : decode cX12_asks 91 = .ok (.iaload, 1) := by decide +kernel
theorem dX12_asks_92 : decode cX12_asks 92 = .ok (.iconst 1, 1) := by decide +kernel
theorem dX12_asks_93 : decode cX12_asks 93 = .ok (.isub, 1) := by decide +kernel
theorem dX12_asks_94 : decode cX12_asks 94 = .ok (.invokestatic 117, 3) := by decide +kernel
theorem dX12_asks_97 : decode cX12_asks 97 = .ok (.ifCond .eq 15, 3) := by decide +kernel
theorem dX12_asks_100 : decode cX12_asks 100 = .ok (.aload_n 0, 1) := by decide +kernel
theorem dX12_asks_101 : decode cX12_asks 101 = .ok (.iload_n 1, 1) := by decide +kernel
theorem dX12_asks_102 : decode cX12_asks 102 = .ok (.iload_n 2, 1) := by decide +kernel
theorem dX12_asks_103 : decode cX12_asks 103 = .ok (.iload_n 3, 1) := by decide +kernel
theorem dX12_asks_104 : decode cX12_asks 104 = .ok (.iconst 3, 1) := by decide +kernel
theorem dX12_asks_105 : decode cX12_asks 105 = .ok (.isub, 1) := by decide +kernel
theorem dX12_asks_106 : decode cX12_asks 106 = .ok (.invokevirtual 164, 3) := by decide +kernel
theorem dX12_asks_109 : decode cX12_asks 109 = .ok (.goto 4, 3) := by decide +kernel
theorem dX12_asks_112 : decode cX12_asks 112 = .ok (.iconst (-1), 1) := by decide +kernel
theorem dX12_asks_113 : decode cX12_asks 113 = .ok (.ireturn, 1) := by decide +kernel
theorem dX12_isTerm_0 : decode cX12_isTerm 0 = .ok (.iload_n 0, 1) := by decide +kernel
theorem dX12_isTerm_1 : decode cX12_isTerm 1 = .ok (.tableswitch 52 0 2 #[27, 36, 44], 27) := by decide +kernel
theorem dX12_isTerm_28 : decode cX12_isTerm 28 = .ok (.iload_n 1, 1) := by decide +kernel
theorem dX12_isTerm_29 : decode cX12_isTerm 29 = .ok (.iconst 0, 1) := by decide +kernel
theorem dX12_isTerm_30 : decode cX12_isTerm 30 = .ok (.sipush 999, 3) := by decide +kernel
theorem dX12_isTerm_33 : decode cX12_isTerm 33 = .ok (.invokestatic 117, 3) := by decide +kernel
theorem dX12_isTerm_36 : decode cX12_isTerm 36 = .ok (.ireturn, 1) := by decide +kernel
theorem dX12_isTerm_37 : decode cX12_isTerm 37 = .ok (.iload_n 1, 1) := by decide +kernel
theorem dX12_isTerm_38 : decode cX12_isTerm 38 = .ok (.iconst 0, 1) := by decide +kernel
theorem dX12_isTerm_39 : decode cX12_isTerm 39 = .ok (.bipush 10, 2) := by decide +kernel
theorem dX12_isTerm_41 : decode cX12_isTerm 41 = .ok (.invokestatic 117, 3) := by decide +kernel
theorem dX12_isTerm_44 : decode cX12_isTerm 44 = .ok (.ireturn, 1) := by decide +kernel
theorem dX12_isTerm_45 : decode cX12_isTerm 45 = .ok (.iload_n 1, 1) := by decide +kernel
theorem dX12_isTerm_46 : decode cX12_isTerm 46 = .ok (.iconst 0, 1) := by decide +kernel
theorem dX12_isTerm_47 : decode cX12_isTerm 47 = .ok (.bipush 9, 2) := by decide +kernel
theorem dX12_isTerm_49 : decode cX12_isTerm 49 = .ok (.invokestatic 117, 3) := by decide +kernel
theorem dX12_isTerm_52 : decode cX12_isTerm 52 = .ok (.ireturn, 1) := by decide +kernel
theorem dX12_isTerm_53 : decode cX12_isTerm 53 = .ok (.iconst 0, 1) := by decide +kernel
theorem dX12_isTerm_54 : decode cX12_isTerm 54 = .ok (.ireturn, 1) := by decide +kernel
theorem dX12_termAt_0 : decode cX12_termAt 0 = .ok (.iload_n 0, 1) := by decide +kernel
theorem dX12_termAt_1 : decode cX12_termAt 1 = .ok (.ifCond .ne 8, 3) := by decide +kernel
theorem dX12_termAt_4 : decode cX12_termAt 4 = .ok (.bipush 6, 2) := by decide +kernel
theorem dX12_termAt_6 : decode cX12_termAt 6 = .ok (.goto 15, 3) := by decide +kernel
theorem dX12_termAt_9 : decode cX12_termAt 9 = .ok (.iload_n 0, 1) := by decide +kernel
theorem dX12_termAt_10 : decode cX12_termAt 10 = .ok (.iconst 1, 1) := by decide +kernel
theorem dX12_termAt_11 : decode cX12_termAt 11 = .ok (.if_icmp .ne 8, 3) := by decide +kernel
theorem dX12_termAt_14 : decode cX12_termAt 14 = .ok (.bipush 101, 2) := by decide +kernel
theorem dX12_termAt_16 : decode cX12_termAt 16 = .ok (.goto 5, 3) := by decide +kernel
theorem dX12_termAt_19 : decode cX12_termAt 19 = .ok (.bipush 102, 2) := by decide +kernel
theorem dX12_termAt_21 : decode cX12_termAt 21 = .ok (.ireturn, 1) := by decide +kernel
theorem dX12_terms_0 : decode cX12_terms 0 = .ok (.iload_n 1, 1) := by decide +kernel
theorem dX12_terms_1 : decode cX12_terms 1 = .ok (.iload_n 2, 1) := by decide +kernel
theorem dX12_terms_2 : decode cX12_terms 2 = .ok (.invokestatic 168, 3) := by decide +kernel
theorem dX12_terms_5 : decode cX12_terms 5 = .ok (.ifCond .ne 9, 3) := by decide +kernel
theorem dX12_terms_8 : decode cX12_terms 8 = .ok (.aload_n 0, 1) := by decide +kernel
theorem dX12_terms_9 : decode cX12_terms 9 = .ok (.iconst (-1), 1) := by decide +kernel
theorem dX12_terms_10 : decode cX12_terms 10 = .ok (.invokevirtual 121, 3) := by decide +kernel
theorem dX12_terms_13 : decode cX12_terms 13 = .ok (.ireturn, 1) := by decide +kernel
theorem dX12_terms_14 : decode cX12_terms 14 = .ok (.aload_n 0, 1) := by decide +kernel
theorem dX12_terms_15 : decode cX12_terms 15 = .ok (.getfield 24, 3) := by decide +kernel
theorem dX12_terms_18 : decode cX12_terms 18 = .ok (.iload_n 1, 1) := by decide +kernel
theorem dX12_terms_19 : decode cX12_terms 19 = .ok (.invokestatic 171, 3) := by decide +kernel
theorem dX12_terms_22 : decode cX12_terms 22 = .ok (.iaload, 1) := by decide +kernel
theorem dX12_terms_23 : decode cX12_terms 23 = .ok (.istore_n 3, 1) := by decide +kernel
theorem dX12_terms_24 : decode cX12_terms 24 = .ok (.aload_n 0, 1) := by decide +kernel
