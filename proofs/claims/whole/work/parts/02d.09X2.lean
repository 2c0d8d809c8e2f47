theorem dX2_init_0 : decode cX2_init 0 = .ok (.aload_n 0, 1) := by decide +kernel
theorem dX2_init_1 : decode cX2_init 1 = .ok (.invokespecial 3, 3) := by decide +kernel
theorem dX2_init_4 : decode cX2_init 4 = .ok (.aload_n 0, 1) := by decide +kernel
theorem dX2_init_5 : decode cX2_init 5 = .ok (.bipush 6, 2) := by decide +kernel
theorem dX2_init_7 : decode cX2_init 7 = .ok (.newarray .int, 2) := by decide +kernel
theorem dX2_init_9 : decode cX2_init 9 = .ok (.putfield 9, 3) := by decide +kernel
theorem dX2_init_12 : decode cX2_init 12 = .ok (.aload_n 0, 1) := by decide +kernel
theorem dX2_init_13 : decode cX2_init 13 = .ok (.bipush 6, 2) := by decide +kernel
theorem dX2_init_15 : decode cX2_init 15 = .ok (.newarray .int, 2) := by decide +kernel
theorem dX2_init_17 : decode cX2_init 17 = .ok (.putfield 15, 3) := by decide +kernel
theorem dX2_init_20 : decode cX2_init 20 = .ok (.aload_n 0, 1) := by decide +kernel
theorem dX2_init_21 : decode cX2_init 21 = .ok (.bipush 6, 2) := by decide +kernel
theorem dX2_init_23 : decode cX2_init 23 = .ok (.newarray .int, 2) := by decide +kernel
theorem dX2_init_25 : decode cX2_init 25 = .ok (.putfield 18, 3) := by decide +kernel
theorem dX2_init_28 : decode cX2_init 28 = .ok (.aload_n 0, 1) := by decide +kernel
theorem dX2_init_29 : decode cX2_init 29 = .ok (.bipush 48, 2) := by decide +kernel
theorem dX2_init_31 : decode cX2_init 31 = .ok (.newarray .int, 2) := by decide +kernel
theorem dX2_init_33 : decode cX2_init 33 = .ok (.putfield 21, 3) := by decide +kernel
theorem dX2_init_36 : decode cX2_init 36 = .ok (.aload_n 0, 1) := by decide +kernel
theorem dX2_init_37 : decode cX2_init 37 = .ok (.bipush 8, 2) := by decide +kernel
theorem dX2_init_39 : decode cX2_init 39 = .ok (.newarray .int, 2) := by decide +kernel
theorem dX2_init_41 : decode cX2_init 41 = .ok (.putfield 24, 3) := by decide +kernel
theorem dX2_init_44 : decode cX2_init 44 = .ok (.aload_n 0, 1) := by decide +kernel
theorem dX2_init_45 : decode cX2_init 45 = .ok (.bipush 8, 2) := by decide +kernel
theorem dX2_init_47 : decode cX2_init 47 = .ok (.newarray .int, 2) := by decide +kernel
theorem dX2_init_49 : decode cX2_init 49 = .ok (.putfield 27, 3) := by decide +kernel
theorem dX2_init_52 : decode cX2_init 52 = .ok (.aload_n 0, 1) := by decide +kernel
theorem dX2_init_53 : decode cX2_init 53 = .ok (.bipush 8, 2) := by decide +kernel
theorem dX2_init_55 : decode cX2_init 55 = .ok (.newarray .int, 2) := by decide +kernel
theorem dX2_init_57 : decode cX2_init 57 = .ok (.putfield 30, 3) := by decide +kernel
theorem dX2_init_60 : decode cX2_init 60 = .ok (.aload_n 0, 1) := by decide +kernel
theorem dX2_init_61 : decode cX2_init 61 = .ok (.iconst 3, 1) := by decide +kernel
theorem dX2_init_62 : decode cX2_init 62 = .ok (.newarray .int, 2) := by decide +kernel
theorem dX2_init_64 : decode cX2_init 64 = .ok (.putfield 33, 3) := by decide +kernel
theorem dX2_init_67 : decode cX2_init 67 = .ok (.aload_n 0, 1) := by decide +kernel
theorem dX2_init_68 : decode cX2_init 68 = .ok (.iconst 3, 1) := by decide +kernel
theorem dX2_init_69 : decode cX2_init 69 = .ok (.newarray .int, 2) := by decide +kernel
theorem dX2_init_71 : decode cX2_init 71 = .ok (.putfield 36, 3) := by decide +kernel
theorem dX2_init_74 : decode cX2_init 74 = .ok (.aload_n 0, 1) := by decide +kernel
theorem dX2_init_75 : decode cX2_init 75 = .ok (.bipush 6, 2) := by decide +kernel
theorem dX2_init_77 : decode cX2_init 77 = .ok (.newarray .int, 2) := by decide +kernel
theorem dX2_init_79 : decode cX2_init 79 = .ok (.putfield 39, 3) := by decide +kernel
theorem dX2_init_82 : decode cX2_init 82 = .ok (.aload_n 0, 1) := by decide +kernel
theorem dX2_init_83 : decode cX2_init 83 = .ok (.bipush 6, 2) := by decide +kernel
theorem dX2_init_85 : decode cX2_init 85 = .ok (.newarray .int, 2) := by decide +kernel
theorem dX2_init_87 : decode cX2_init 87 = .ok (.putfield 42, 3) := by decide +kernel
theorem dX2_init_90 : decode cX2_init 90 = .ok (.aload_n 0, 1) := by decide +kernel
theorem dX2_init_91 : decode cX2_init 91 = .ok (.iconst 3, 1) := by decide +kernel
theorem dX2_init_92 : decode cX2_init 92 = .ok (.newarray .int, 2) := by decide +kernel
theorem dX2_init_94 : decode cX2_init 94 = .ok (.putfield 45, 3) := by decide +kernel
theorem dX2_init_97 : decode cX2_init 97 = .ok (.aload_n 0, 1) := by decide +kernel
theorem dX2_init_98 : decode cX2_init 98 = .ok (.bipush 6, 2) := by decide +kernel
theorem dX2_init_100 : decode cX2_init 100 = .ok (.anewarray 48, 3) := by decide +kernel
theorem dX2_init_103 : decode cX2_init 103 = .ok (.putfield 50, 3) := by decide +kernel
theorem dX2_init_106 : decode cX2_init 106 = .ok (.aload_n 0, 1) := by decide +kernel
theorem dX2_init_107 : decode cX2_init 107 = .ok (.iconst (-1), 1) := by decide +kernel
theorem dX2_init_108 : decode cX2_init 108 = .ok (.putfield 54, 3) := by decide +kernel
theorem dX2_init_111 : decode cX2_init 111 = .ok (.aload_n 0, 1) := by decide +kernel
theorem dX2_init_112 : decode cX2_init 112 = .ok (.new 58, 3) := by decide +kernel
theorem dX2_init_115 : decode cX2_init 115 = .ok (.dup, 1) := by decide +kernel
theorem dX2_init_116 : decode cX2_init 116 = .ok (.invokespecial 60, 3) := by decide +kernel
theorem dX2_init_119 : decode cX2_init 119 = .ok (.putfield 61, 3) := by decide +kernel
theorem dX2_init_122 : decode cX2_init 122 = .ok (.aload_n 0, 1) := by decide +kernel
theorem dX2_init_123 : decode cX2_init 123 = .ok (.getfield 18, 3) := by decide +kernel
theorem dX2_init_126 : decode cX2_init 126 = .ok (.iconst (-1), 1) := by decide +kernel
theorem dX2_init_127 : decode cX2_init 127 = .ok (.invokestatic 65, 3) := by decide +kernel
theorem dX2_init_130 : decode cX2_init 130 = .ok (.aload_n 0, 1) := by decide +kernel
theorem dX2_init_131 : decode cX2_init 131 = .ok (.getfield 30, 3) := by decide +kernel
theorem dX2_init_134 : decode cX2_init 134 = .ok (.iconst (-1), 1) := by decide +kernel
theorem dX2_init_135 : decode cX2_init 135 = .ok (.invokestatic 65, 3) := by decide +kernel
theorem dX2_init_138 : decode cX2_init 138 = .ok (.aload_n 0, 1) := by decide +kernel
theorem dX2_init_139 : decode cX2_init 139 = .ok (.getfield 45, 3) := by decide +kernel
theorem dX2_init_142 : decode cX2_init 142 = .ok (.iconst 1, 1) := by decide +kernel
theorem dX2_init_143 : decode cX2_init 143 = .ok (.bipush 9, 2) := by decide +kernel
theorem dX2_init_145 : decode cX2_init 145 = .ok (.iastore, 1) := by decide +kernel
theorem dX2_init_146 : decode cX2_init 146 = .ok (.return_, 1) := by decide +kernel
theorem dX2_copyFrom_0 : decode cX2_copyFrom 0 = .ok (.aload_n 0, 1) := by decide +kernel
theorem dX2_copyFrom_1 : decode cX2_copyFrom 1 = .ok (.aload_n 1, 1) := by decide +kernel
theorem dX2_copyFrom_2 : decode cX2_copyFrom 2 = .ok (.getfield 71, 3) := by decide +kernel
theorem dX2_copyFrom_5 : decode cX2_copyFrom 5 = .ok (.putfield 71, 3) := by decide +kernel
theorem dX2_copyFrom_8 : decode cX2_copyFrom 8 = .ok (.aload_n 1, 1) := by decide +kernel
theorem dX2_copyFrom_9 : decode cX2_copyFrom 9 = .ok (.getfield 9, 3) := by decide +kernel
theorem dX2_copyFrom_12 : decode cX2_copyFrom 12 = .ok (.iconst 0, 1) := by decide +kernel
theorem dX2_copyFrom_13 : decode cX2_copyFrom 13 = .ok (.aload_n 0, 1) := by decide +kernel
theorem dX2_copyFrom_14 : decode cX2_copyFrom 14 = .ok (.getfield 9, 3) := by decide +kernel
theorem dX2_copyFrom_17 : decode cX2_copyFrom 17 = .ok (.iconst 0, 1) := by decide +kernel
theorem dX2_copyFrom_18 : decode cX2_copyFrom 18 = .ok (.bipush 6, 2) := by decide +kernel
theorem dX2_copyFrom_20 : decode cX2_copyFrom 20 = .ok (.invokestatic 74, 3) := by decide +kernel
theorem dX2_copyFrom_23 : decode cX2_copyFrom 23 = .ok (.aload_n 1, 1) := by decide +kernel
theorem dX2_copyFrom_24 : decode cX2_copyFrom 24 = .ok (.getfield 15, 3) := by decide +kernel
theorem dX2_copyFrom_27 : decode cX2_copyFrom 27 = .ok (.iconst 0, 1) := by decide +kernel
theorem dX2_copyFrom_28 : decode cX2_copyFrom 28 = .ok (.aload_n 0, 1) := by decide +kernel
theorem dX2_copyFrom_29 : decode cX2_copyFrom 29 = .ok (.getfield 15, 3) := by decide +kernel
theorem dX2_copyFrom_32 : decode cX2_copyFrom 32 = .ok (.iconst 0, 1) := by decide +kernel
theorem dX2_copyFrom_33 : decode cX2_copyFrom 33 = .ok (.bipush 6, 2) := by decide +kernel
theorem dX2_copyFrom_35 : decode cX2_copyFrom 35 = .ok (.invokestatic 74, 3) := by decide +kernel
theorem dX2_copyFrom_38 : decode cX2_copyFrom 38 = .ok (.aload_n 1, 1) := by decide +kernel
theorem dX2_copyFrom_39 : decode cX2_copyFrom 39 = .ok (.getfield 18, 3) := by decide +kernel
theorem dX2_copyFrom_42 : decode cX2_copyFrom 42 = .ok (.iconst 0, 1) := by decide +kernel
theorem dX2_copyFrom_43 : decode cX2_copyFrom 43 = .ok (.aload_n 0, 1) := by decide +kernel
theorem dX2_copyFrom_44 : decode cX2_copyFrom 44 = .ok (.getfield 18, 3) := by decide +kernel
theorem dX2_copyFrom_47 : decode cX2_copyFrom 47 = .ok (.iconst 0, 1) := by decide +kernel
theorem dX2_copyFrom_48 : decode cX2_copyFrom 48 = .ok (.bipush 6, 2) := by decide +kernel
theorem dX2_copyFrom_50 : decode cX2_copyFrom 50 = .ok (.invokestatic 74, 3) := by decide +kernel
theorem dX2_copyFrom_53 : decode cX2_copyFrom 53 = .ok (.aload_n 1, 1) := by decide +kernel
theorem dX2_copyFrom_54 : decode cX2_copyFrom 54 = .ok (.getfield 21, 3) := by decide +kernel
theorem dX2_copyFrom_57 : decode cX2_copyFrom 57 = .ok (.iconst 0, 1) := by decide +kernel
theorem dX2_copyFrom_58 : decode cX2_copyFrom 58 = .ok (.aload_n 0, 1) := by decide +kernel
theorem dX2_copyFrom_59 : decode cX2_copyFrom 59 = .ok (.getfield 21, 3) := by decide +kernel
theorem dX2_copyFrom_62 : decode cX2_copyFrom 62 = .ok (.iconst 0, 1) := by decide +kernel
theorem dX2_copyFrom_63 : decode cX2_copyFrom 63 = .ok (.bipush 48, 2) := by decide +kernel
theorem dX2_copyFrom_65 : decode cX2_copyFrom 65 = .ok (.invokestatic 74, 3) := by decide +kernel
theorem dX2_copyFrom_68 : decode cX2_copyFrom 68 = .ok (.aload_n 0, 1) := by decide +kernel
theorem dX2_copyFrom_69 : decode cX2_copyFrom 69 = .ok (.aload_n 1, 1) := by decide +kernel
theorem dX2_copyFrom_70 : decode cX2_copyFrom 70 = .ok (.getfield 80, 3) := by decide +kernel
theorem dX2_copyFrom_73 : decode cX2_copyFrom 73 = .ok (.putfield 80, 3) := by decide +kernel
theorem dX2_copyFrom_76 : decode cX2_copyFrom 76 = .ok (.aload_n 1, 1) := by decide +kernel
theorem dX2_copyFrom_77 : decode cX2_copyFrom 77 = .ok (.getfield 24, 3) := by decide +kernel
theorem dX2_copyFrom_80 : decode cX2_copyFrom 80 = .ok (.iconst 0, 1) := by decide +kernel
theorem dX2_copyFrom_81 : decode cX2_copyFrom 81 = .ok (.aload_n 0, 1) := by decide +kernel
theorem dX2_copyFrom_82 : decode cX2_copyFrom 82 = .ok (.getfield 24, 3) := by decide +kernel
theorem dX2_copyFrom_85 : decode cX2_copyFrom 85 = .ok (.iconst 0, 1) := by decide +kernel
theorem dX2_copyFrom_86 : decode cX2_copyFrom 86 = .ok (.bipush 8, 2) := by decide +kernel
theorem dX2_copyFrom_88 : decode cX2_copyFrom 88 = .ok (.invokestatic 74, 3) := by decide +kernel
theorem dX2_copyFrom_91 : decode cX2_copyFrom 91 = .ok (.aload_n 1, 1) := by decide +kernel
theorem dX2_copyFrom_92 : decode cX2_copyFrom 92 = .ok (.getfield 27, 3) := by decide +kernel
theorem dX2_copyFrom_95 : decode cX2_copyFrom 95 = .ok (.iconst 0, 1) := by decide +kernel
theorem dX2_copyFrom_96 : decode cX2_copyFrom 96 = .ok (.aload_n 0, 1) := by decide +kernel
theorem dX2_copyFrom_97 : decode cX2_copyFrom 97 = .ok (.getfield 27, 3) := by decide +kernel
theorem dX2_copyFrom_100 : decode cX2_copyFrom 100 = .ok (.iconst 0, 1) := by decide +kernel
theorem dX2_copyFrom_101 : decode cX2_copyFrom 101 = .ok (.bipush 8, 2) := by decide +kernel
theorem dX2_copyFrom_103 : decode cX2_copyFrom 103 = .ok (.invokestatic 74, 3) := by decide +kernel
theorem dX2_copyFrom_106 : decode cX2_copyFrom 106 = .ok (.aload_n 1, 1) := by decide +kernel
theorem dX2_copyFrom_107 : decode cX2_copyFrom 107 = .ok (.getfield 30, 3) := by decide +kernel
theorem dX2_copyFrom_110 : decode cX2_copyFrom 110 = .ok (.iconst 0, 1) := by decide +kernel
theorem dX2_copyFrom_111 : decode cX2_copyFrom 111 = .ok (.aload_n 0, 1) := by decide +kernel
theorem dX2_copyFrom_112 : decode cX2_copyFrom 112 = .ok (.getfield 30, 3) := by decide +kernel
theorem dX2_copyFrom_115 : decode cX2_copyFrom 115 = .ok (.iconst 0, 1) := by decide +kernel
theorem dX2_copyFrom_116 : decode cX2_copyFrom 116 = .ok (.bipush 8, 2) := by decide +kernel
theorem dX2_copyFrom_118 : decode cX2_copyFrom 118 = .ok (.invokestatic 74, 3) := by decide +kernel
theorem dX2_copyFrom_121 : decode cX2_copyFrom 121 = .ok (.aload_n 0, 1) := by decide +kernel
theorem dX2_copyFrom_122 : decode cX2_copyFrom 122 = .ok (.aload_n 1, 1) := by decide +kernel
theorem dX2_copyFrom_123 : decode cX2_copyFrom 123 = .ok (.getfield 83, 3) := by decide +kernel
theorem dX2_copyFrom_126 : decode cX2_copyFrom 126 = .ok (.putfield 83, 3) := by decide +kernel
theorem dX2_copyFrom_129 : decode cX2_copyFrom 129 = .ok (.aload_n 1, 1) := by decide +kernel
theorem dX2_copyFrom_130 : decode cX2_copyFrom 130 = .ok (.getfield 33, 3) := by decide +kernel
theorem dX2_copyFrom_133 : decode cX2_copyFrom 133 = .ok (.iconst 0, 1) := by decide +kernel
theorem dX2_copyFrom_134 : decode cX2_copyFrom 134 = .ok (.aload_n 0, 1) := by decide +kernel
theorem dX2_copyFrom_135 : decode cX2_copyFrom 135 = .ok (.getfield 33, 3) := by decide +kernel
theorem dX2_copyFrom_138 : decode cX2_copyFrom 138 = .ok (.iconst 0, 1) := by decide +kernel
theorem dX2_copyFrom_139 : decode cX2_copyFrom 139 = .ok (.iconst 3, 1) := by decide +kernel
theorem dX2_copyFrom_140 : decode cX2_copyFrom 140 = .ok (.invokestatic 74, 3) := by decide +kernel
theorem dX2_copyFrom_143 : decode cX2_copyFrom 143 = .ok (.aload_n 1, 1) := by decide +kernel
theorem dX2_copyFrom_144 : decode cX2_copyFrom 144 = .ok (.getfield 36, 3) := by decide +kernel
theorem dX2_copyFrom_147 : decode cX2_copyFrom 147 = .ok (.iconst 0, 1) := by decide +kernel
theorem dX2_copyFrom_148 : decode cX2_copyFrom 148 = .ok (.aload_n 0, 1) := by decide +kernel
theorem dX2_copyFrom_149 : decode cX2_copyFrom 149 = .ok (.getfield 36, 3) := by decide +kernel
theorem dX2_copyFrom_152 : decode cX2_copyFrom 152 = .ok (.iconst 0, 1) := by decide +kernel
theorem dX2_copyFrom_153 : decode cX2_copyFrom 153 = .ok (.iconst 3, 1) := by decide +kernel
theorem dX2_copyFrom_154 : decode cX2_copyFrom 154 = .ok (.invokestatic 74, 3) := by decide +kernel
theorem dX2_copyFrom_157 : decode cX2_copyFrom 157 = .ok (.aload_n 0, 1) := by decide +kernel
theorem dX2_copyFrom_158 : decode cX2_copyFrom 158 = .ok (.aload_n 1, 1) := by decide +kernel
theorem dX2_copyFrom_159 : decode cX2_copyFrom 159 = .ok (.getfield 86, 3) := by decide +kernel
theorem dX2_copyFrom_162 : decode cX2_copyFrom 162 = .ok (.putfield 86, 3) := by decide +kernel
theorem dX2_copyFrom_165 : decode cX2_copyFrom 165 = .ok (.aload_n 1, 1) := by decide +kernel
theorem dX2_copyFrom_166 : decode cX2_copyFrom 166 = .ok (.getfield 39, 3) := by decide +kernel
theorem dX2_copyFrom_169 : decode cX2_copyFrom 169 = .ok (.iconst 0, 1) := by decide +kernel
theorem dX2_copyFrom_170 : decode cX2_copyFrom 170 = .ok (.aload_n 0, 1) := by decide +kernel
theorem dX2_copyFrom_171 : decode cX2_copyFrom 171 = .ok (.getfield 39, 3) := by decide +kernel
theorem dX2_copyFrom_174 : decode cX2_copyFrom 174 = .ok (.iconst 0, 1) := by decide +kernel
theorem dX2_copyFrom_175 : decode cX2_copyFrom 175 = .ok (.bipush 6, 2) := by decide +kernel
theorem dX2_copyFrom_177 : decode cX2_copyFrom 177 = .ok (.invokestatic 74, 3) := by decide +kernel
theorem dX2_copyFrom_180 : decode cX2_copyFrom 180 = .ok (.aload_n 1, 1) := by decide +kernel
theorem dX2_copyFrom_181 : decode cX2_copyFrom 181 = .ok (.getfield 42, 3) := by decide +kernel
theorem dX2_copyFrom_184 : decode cX2_copyFrom 184 = .ok (.iconst 0, 1) := by decide +kernel
theorem dX2_copyFrom_185 : decode cX2_copyFrom 185 = .ok (.aload_n 0, 1) := by decide +kernel
theorem dX2_copyFrom_186 : decode cX2_copyFrom 186 = .ok (.getfield 42, 3) := by decide +kernel
theorem dX2_copyFrom_189 : decode cX2_copyFrom 189 = .ok (.iconst 0, 1) := by decide +kernel
theorem dX2_copyFrom_190 : decode cX2_copyFrom 190 = .ok (.bipush 6, 2) := by decide +kernel
theorem dX2_copyFrom_192 : decode cX2_copyFrom 192 = .ok (.invokestatic 74, 3) := by decide +kernel
theorem dX2_copyFrom_195 : decode cX2_copyFrom 195 = .ok (.aload_n 1, 1) := by decide +kernel
theorem dX2_copyFrom_196 : decode cX2_copyFrom 196 = .ok (.getfield 45, 3) := by decide +kernel
theorem dX2_copyFrom_199 : decode cX2_copyFrom 199 = .ok (.iconst 0, 1) := by decide +kernel
theorem dX2_copyFrom_200 : decode cX2_copyFrom 200 = .ok (.aload_n 0, 1) := by decide +kernel
theorem dX2_copyFrom_201 : decode cX2_copyFrom 201 = .ok (.getfield 45, 3) := by decide +kernel
theorem dX2_copyFrom_204 : decode cX2_copyFrom 204 = .ok (.iconst 0, 1) := by decide +kernel
theorem dX2_copyFrom_205 : decode cX2_copyFrom 205 = .ok (.iconst 3, 1) := by decide +kernel
theorem dX2_copyFrom_206 : decode cX2_copyFrom 206 = .ok (.invokestatic 74, 3) := by decide +kernel
theorem dX2_copyFrom_209 : decode cX2_copyFrom 209 = .ok (.aload_n 0, 1) := by decide +kernel
theorem dX2_copyFrom_210 : decode cX2_copyFrom 210 = .ok (.aload_n 1, 1) := by decide +kernel
theorem dX2_copyFrom_211 : decode cX2_copyFrom 211 = .ok (.getfield 89, 3) := by decide +kernel
theorem dX2_copyFrom_214 : decode cX2_copyFrom 214 = .ok (.putfield 89, 3) := by decide +kernel
theorem dX2_copyFrom_217 : decode cX2_copyFrom 217 = .ok (.iconst 0, 1) := by decide +kernel
theorem dX2_copyFrom_218 : decode cX2_copyFrom 218 = .ok (.istore_n 2, 1) := by decide +kernel
theorem dX2_copyFrom_219 : decode cX2_copyFrom 219 = .ok (.iload_n 2, 1) := by decide +kernel
theorem dX2_copyFrom_220 : decode cX2_copyFrom 220 = .ok (.bipush 6, 2) := by decide +kernel
theorem dX2_copyFrom_222 : decode cX2_copyFrom 222 = .ok (.if_icmp .ge 21, 3) := by decide +kernel
theorem dX2_copyFrom_225 : decode cX2_copyFrom 225 = .ok (.aload_n 0, 1) := by decide +kernel
theorem dX2_copyFrom_226 : decode cX2_copyFrom 226 = .ok (.getfield 50, 3) := by decide +kernel
theorem dX2_copyFrom_229 : decode cX2_copyFrom 229 = .ok (.iload_n 2, 1) := by decide +kernel
theorem dX2_copyFrom_230 : decode cX2_copyFrom 230 = .ok (.aload_n 1, 1) := by decide +kernel
theorem dX2_copyFrom_231 : decode cX2_copyFrom 231 = .ok (.getfield 50, 3) := by decide +kernel
theorem dX2_copyFrom_234 : decode cX2_copyFrom 234 = .ok (.iload_n 2, 1) := by decide +kernel
theorem dX2_copyFrom_235 : decode cX2_copyFrom 235 = .ok (.aaload, 1) := by decide +kernel
theorem dX2_copyFrom_236 : decode cX2_copyFrom 236 = .ok (.aastore, 1) := by decide +kernel
theorem dX2_copyFrom_237 : decode cX2_copyFrom 237 = .ok (.iinc 2 1, 3) := by decide +kernel
theorem dX2_copyFrom_240 : decode cX2_copyFrom 240 = .ok (.goto (-21), 3) := by decide +kernel
theorem dX2_copyFrom_243 : decode cX2_copyFrom 243 = .ok (.aload_n 0, 1) := by decide +kernel
theorem dX2_copyFrom_244 : decode cX2_copyFrom 244 = .ok (.aload_n 1, 1) := by decide +kernel
theorem dX2_copyFrom_245 : decode cX2_copyFrom 245 = .ok (.getfield 54, 3) := by decide +kernel
theorem dX2_copyFrom_248 : decode cX2_copyFrom 248 = .ok (.putfield 54, 3) := by decide +kernel
theorem dX2_copyFrom_251 : decode cX2_copyFrom 251 = .ok (.aload_n 0, 1) := by decide +kernel
theorem dX2_copyFrom_252 : decode cX2_copyFrom 252 = .ok (.getfield 61, 3) := by decide +kernel
theorem dX2_copyFrom_255 : decode cX2_copyFrom 255 = .ok (.aload_n 1, 1) := by decide +kernel
theorem dX2_copyFrom_256 : decode cX2_copyFrom 256 = .ok (.getfield 61, 3) := by decide +kernel
theorem dX2_copyFrom_259 : decode cX2_copyFrom 259 = .ok (.invokevirtual 92, 3) := by decide +kernel
theorem dX2_copyFrom_262 : decode cX2_copyFrom 262 = .ok (.return_, 1) := by decide +kernel
theorem dX2_isPerson_0 : decode cX2_isPerson 0 = .ok (.iload_n 1, 1) := by decide +kernel
theorem dX2_isPerson_1 : decode cX2_isPerson 1 = .ok (.ifCond .lt 15, 3) := by decide +kernel
theorem dX2_isPerson_4 : decode cX2_isPerson 4 = .ok (.iload_n 1, 1) := by decide +kernel
theorem dX2_isPerson_5 : decode cX2_isPerson 5 = .ok (.aload_n 0, 1) := by decide +kernel
theorem dX2_isPerson_6 : decode cX2_isPerson 6 = .ok (.getfield 71, 3) := by decide +kernel
theorem dX2_isPerson_9 : decode cX2_isPerson 9 = .ok (.if_icmp .ge 7, 3) := by decide +kernel
theorem dX2_isPerson_12 : decode cX2_isPerson 12 = .ok (.iconst 1, 1) := by decide +kernel
theorem dX2_isPerson_13 : decode cX2_isPerson 13 = .ok (.goto 4, 3) := by decide +kernel
theorem dX2_isPerson_16 : decode cX2_isPerson 16 = .ok (.iconst 0, 1) := by decide +kernel
theorem dX2_isPerson_17 : decode cX2_isPerson 17 = .ok (.ireturn, 1) := by decide +kernel
theorem dX2_isTicket_0 : decode cX2_isTicket 0 = .ok (.iload_n 1, 1) := by decide +kernel
theorem dX2_isTicket_1 : decode cX2_isTicket 1 = .ok (.ifCond .lt 15, 3) := by decide +kernel
theorem dX2_isTicket_4 : decode cX2_isTicket 4 = .ok (.iload_n 1, 1) := by decide +kernel
theorem dX2_isTicket_5 : decode cX2_isTicket 5 = .ok (.aload_n 0, 1) := by decide +kernel
theorem dX2_isTicket_6 : decode cX2_isTicket 6 = .ok (.getfield 80, 3) := by decide +kernel
theorem dX2_isTicket_9 : decode cX2_isTicket 9 = .ok (.if_icmp .ge 7, 3) := by decide +kernel
theorem dX2_isTicket_12 : decode cX2_isTicket 12 = .ok (.iconst 1, 1) := by decide +kernel
theorem dX2_isTicket_13 : decode cX2_isTicket 13 = .ok (.goto 4, 3) := by decide +kernel
theorem dX2_isTicket_16 : decode cX2_isTicket 16 = .ok (.iconst 0, 1) := by decide +kernel
theorem dX2_isTicket_17 : decode cX2_isTicket 17 = .ok (.ireturn, 1) := by decide +kernel
theorem dX2_isLaw_0 : decode cX2_isLaw 0 = .ok (.iload_n 1, 1) := by decide +kernel
theorem dX2_isLaw_1 : decode cX2_isLaw 1 = .ok (.ifCond .lt 15, 3) := by decide +kernel
theorem dX2_isLaw_4 : decode cX2_isLaw 4 = .ok (.iload_n 1, 1) := by decide +kernel
theorem dX2_isLaw_5 : decode cX2_isLaw 5 = .ok (.aload_n 0, 1) := by decide +kernel
theorem dX2_isLaw_6 : decode cX2_isLaw 6 = .ok (.getfield 89, 3) := by decide +kernel
theorem dX2_isLaw_9 : decode cX2_isLaw 9 = .ok (.if_icmp .ge 7, 3) := by decide +kernel
theorem dX2_isLaw_12 : decode cX2_isLaw 12 = .ok (.iconst 1, 1) := by decide +kernel
theorem dX2_isLaw_13 : decode cX2_isLaw 13 = .ok (.goto 4, 3) := by decide +kernel
theorem dX2_isLaw_16 : decode cX2_isLaw 16 = .ok (.iconst 0, 1) := by decide +kernel
theorem dX2_isLaw_17 : decode cX2_isLaw 17 = .ok (.ireturn, 1) := by decide +kernel
theorem dX2_lawOf_0 : decode cX2_lawOf 0 = .ok (.aload_n 0, 1) := by decide +kernel
theorem dX2_lawOf_1 : decode cX2_lawOf 1 = .ok (.iload_n 1, 1) := by decide +kernel
theorem dX2_lawOf_2 : decode cX2_lawOf 2 = .ok (.invokevirtual 96, 3) := by decide +kernel
theorem dX2_lawOf_5 : decode cX2_lawOf 5 = .ok (.ifCond .eq 12, 3) := by decide +kernel
theorem dX2_lawOf_8 : decode cX2_lawOf 8 = .ok (.aload_n 0, 1) := by decide +kernel
theorem dX2_lawOf_9 : decode cX2_lawOf 9 = .ok (.getfield 50, 3) := by decide +kernel
theorem dX2_lawOf_12 : decode cX2_lawOf 12 = .ok (.iload_n 1, 1) := by decide +kernel
theorem dX2_lawOf_13 : decode cX2_lawOf 13 = .ok (.aaload, 1) := by decide +kernel
theorem dX2_lawOf_14 : decode cX2_lawOf 14 = .ok (.goto 4, 3) := by decide +kernel
theorem dX2_lawOf_17 : decode cX2_lawOf 17 = .ok (.aconst_null, 1) := by decide +kernel
theorem dX2_lawOf_18 : decode cX2_lawOf 18 = .ok (.areturn, 1) := by decide +kernel
theorem dX2_lawInForce_0 : decode cX2_lawInForce 0 = .ok (.aload_n 0, 1) := by decide +kernel
theorem dX2_lawInForce_1 : decode cX2_lawInForce 1 = .ok (.aload_n 0, 1) := by decide +kernel
theorem dX2_lawInForce_2 : decode cX2_lawInForce 2 = .ok (.getfield 54, 3) := by decide +kernel
theorem dX2_lawInForce_5 : decode cX2_lawInForce 5 = .ok (.invokevirtual 100, 3) := by decide +kernel
theorem dX2_lawInForce_8 : decode cX2_lawInForce 8 = .ok (.areturn, 1) := by decide +kernel
theorem dX2_addPerson_0 : decode cX2_addPerson 0 = .ok (.iload_n 1, 1) := by decide +kernel
theorem dX2_addPerson_1 : decode cX2_addPerson 1 = .ok (.ifCond .lt 18, 3) := by decide +kernel
theorem dX2_addPerson_4 : decode cX2_addPerson 4 = .ok (.iload_n 1, 1) := by decide +kernel
theorem dX2_addPerson_5 : decode cX2_addPerson 5 = .ok (.iconst 4, 1) := by decide +kernel
theorem dX2_addPerson_6 : decode cX2_addPerson 6 = .ok (.if_icmp .gt 13, 3) := by decide +kernel
theorem dX2_addPerson_9 : decode cX2_addPerson 9 = .ok (.iload_n 2, 1) := by decide +kernel
theorem dX2_addPerson_10 : decode cX2_addPerson 10 = .ok (.ifCond .lt 9, 3) := by decide +kernel
theorem dX2_addPerson_13 : decode cX2_addPerson 13 = .ok (.iload_n 2, 1) := by decide +kernel
theorem dX2_addPerson_14 : decode cX2_addPerson 14 = .ok (.bipush 99, 2) := by decide +kernel
theorem dX2_addPerson_16 : decode cX2_addPerson 16 = .ok (.if_icmp .le 5, 3) := by decide +kernel
theorem dX2_addPerson_19 : decode cX2_addPerson 19 = .ok (.iconst (-1), 1) := by decide +kernel
theorem dX2_addPerson_20 : decode cX2_addPerson 20 = .ok (.ireturn, 1) := by decide +kernel
theorem dX2_addPerson_21 : decode cX2_addPerson 21 = .ok (.aload_n 0, 1) := by decide +kernel
theorem dX2_addPerson_22 : decode cX2_addPerson 22 = .ok (.getfield 71, 3) := by decide +kernel
theorem dX2_addPerson_25 : decode cX2_addPerson 25 = .ok (.bipush 6, 2) := by decide +kernel
theorem dX2_addPerson_27 : decode cX2_addPerson 27 = .ok (.if_icmp .lt 6, 3) := by decide +kernel
theorem dX2_addPerson_30 : decode cX2_addPerson 30 = .ok (.bipush (-5), 2) := by decide +kernel
theorem dX2_addPerson_32 : decode cX2_addPerson 32 = .ok (.ireturn, 1) := by decide +kernel
theorem dX2_addPerson_33 : decode cX2_addPerson 33 = .ok (.aload_n 0, 1) := by decide +kernel
theorem dX2_addPerson_34 : decode cX2_addPerson 34 = .ok (.getfield 9, 3) := by decide +kernel
theorem dX2_addPerson_37 : decode cX2_addPerson 37 = .ok (.aload_n 0, 1) := by decide +kernel
theorem dX2_addPerson_38 : decode cX2_addPerson 38 = .ok (.getfield 71, 3) := by decide +kernel
theorem dX2_addPerson_41 : decode cX2_addPerson 41 = .ok (.iload_n 1, 1) := by decide +kernel
theorem dX2_addPerson_42 : decode cX2_addPerson 42 = .ok (.iastore, 1) := by decide +kernel
theorem dX2_addPerson_43 : decode cX2_addPerson 43 = .ok (.aload_n 0, 1) := by decide +kernel
theorem dX2_addPerson_44 : decode cX2_addPerson 44 = .ok (.getfield 15, 3) := by decide +kernel
theorem dX2_addPerson_47 : decode cX2_addPerson 47 = .ok (.aload_n 0, 1) := by decide +kernel
theorem dX2_addPerson_48 : decode cX2_addPerson 48 = .ok (.getfield 71, 3) := by decide +kernel
theorem dX2_addPerson_51 : decode cX2_addPerson 51 = .ok (.iload_n 2, 1) := by decide +kernel
theorem dX2_addPerson_52 : decode cX2_addPerson 52 = .ok (.iastore, 1) := by decide +kernel
theorem dX2_addPerson_53 : decode cX2_addPerson 53 = .ok (.aload_n 0, 1) := by decide +kernel
theorem dX2_addPerson_54 : decode cX2_addPerson 54 = .ok (.dup, 1) := by decide +kernel
theorem dX2_addPerson_55 : decode cX2_addPerson 55 = .ok (.getfield 71, 3) := by decide +kernel
theorem dX2_addPerson_58 : decode cX2_addPerson 58 = .ok (.iconst 1, 1) := by decide +kernel
theorem dX2_addPerson_59 : decode cX2_addPerson 59 = .ok (.iadd, 1) := by decide +kernel
theorem dX2_addPerson_60 : decode cX2_addPerson 60 = .ok (.putfield 71, 3) := by decide +kernel
theorem dX2_addPerson_63 : decode cX2_addPerson 63 = .ok (.aload_n 0, 1) := by decide +kernel
theorem dX2_addPerson_64 : decode cX2_addPerson 64 = .ok (.getfield 71, 3) := by decide +kernel
theorem dX2_addPerson_67 : decode cX2_addPerson 67 = .ok (.iconst 1, 1) := by decide +kernel
theorem dX2_addPerson_68 : decode cX2_addPerson 68 = .ok (.isub, 1) := by decide +kernel
theorem dX2_addPerson_69 : decode cX2_addPerson 69 = .ok (.ireturn, 1) := by decide +kernel
theorem dX2_addTicket_0 : decode cX2_addTicket 0 = .ok (.iload_n 1, 1) := by decide +kernel
theorem dX2_addTicket_1 : decode cX2_addTicket 1 = .ok (.iconst 1, 1) := by decide +kernel
theorem dX2_addTicket_2 : decode cX2_addTicket 2 = .ok (.if_icmp .lt 18, 3) := by decide +kernel
theorem dX2_addTicket_5 : decode cX2_addTicket 5 = .ok (.iload_n 1, 1) := by decide +kernel
theorem dX2_addTicket_6 : decode cX2_addTicket 6 = .ok (.bipush 99, 2) := by decide +kernel
theorem dX2_addTicket_8 : decode cX2_addTicket 8 = .ok (.if_icmp .gt 12, 3) := by decide +kernel
theorem dX2_addTicket_11 : decode cX2_addTicket 11 = .ok (.iload_n 2, 1) := by decide +kernel
theorem dX2_addTicket_12 : decode cX2_addTicket 12 = .ok (.ifCond .lt 8, 3) := by decide +kernel
theorem dX2_addTicket_15 : decode cX2_addTicket 15 = .ok (.iload_n 2, 1) := by decide +kernel
theorem dX2_addTicket_16 : decode cX2_addTicket 16 = .ok (.iconst 4, 1) := by decide +kernel
theorem dX2_addTicket_17 : decode cX2_addTicket 17 = .ok (.if_icmp .le 5, 3) := by decide +kernel
theorem dX2_addTicket_20 : decode cX2_addTicket 20 = .ok (.iconst (-1), 1) := by decide +kernel
theorem dX2_addTicket_21 : decode cX2_addTicket 21 = .ok (.ireturn, 1) := by decide +kernel
theorem dX2_addTicket_22 : decode cX2_addTicket 22 = .ok (.iconst 0, 1) := by decide +kernel
theorem dX2_addTicket_23 : decode cX2_addTicket 23 = .ok (.istore_n 3, 1) := by decide +kernel
theorem dX2_addTicket_24 : decode cX2_addTicket 24 = .ok (.iload_n 3, 1) := by decide +kernel
theorem dX2_addTicket_25 : decode cX2_addTicket 25 = .ok (.aload_n 0, 1) := by decide +kernel
theorem dX2_addTicket_26 : decode cX2_addTicket 26 = .ok (.getfield 80, 3) := by decide +kernel
theorem dX2_addTicket_29 : decode cX2_addTicket 29 = .ok (.if_icmp .ge 22, 3) := by decide +kernel
theorem dX2_addTicket_32 : decode cX2_addTicket 32 = .ok (.aload_n 0, 1) := by decide +kernel
theorem dX2_addTicket_33 : decode cX2_addTicket 33 = .ok (.getfield 24, 3) := by decide +kernel
theorem dX2_addTicket_36 : decode cX2_addTicket 36 = .ok (.iload_n 3, 1) := by decide +kernel
theorem dX2_addTicket_37 : decode cX2_addTicket 37 = .ok (.iaload, 1) := by decide +kernel
theorem dX2_addTicket_38 : decode cX2_addTicket 38 = .ok (.iload_n 1, 1) := by decide +kernel
theorem dX2_addTicket_39 : decode cX2_addTicket 39 = .ok (.if_icmp .ne 6, 3) := by decide +kernel
theorem dX2_addTicket_42 : decode cX2_addTicket 42 = .ok (.bipush (-3), 2) := by decide +kernel
theorem dX2_addTicket_44 : decode cX2_addTicket 44 = .ok (.ireturn, 1) := by decide +kernel
theorem dX2_addTicket_45 : decode cX2_addTicket 45 = .ok (.iinc 3 1, 3) := by decide +kernel
theorem dX2_addTicket_48 : decode cX2_addTicket 48 = .ok (.goto (-24), 3) := by decide +kernel
theorem dX2_addTicket_51 : decode cX2_addTicket 51 = .ok (.aload_n 0, 1) := by decide +kernel
theorem dX2_addTicket_52 : decode cX2_addTicket 52 = .ok (.getfield 80, 3) := by decide +kernel
theorem dX2_addTicket_55 : decode cX2_addTicket 55 = .ok (.bipush 8, 2) := by decide +kernel
theorem dX2_addTicket_57 : decode cX2_addTicket 57 = .ok (.if_icmp .lt 6, 3) := by decide +kernel
theorem dX2_addTicket_60 : decode cX2_addTicket 60 = .ok (.bipush (-5), 2) := by decide +kernel
theorem dX2_addTicket_62 : decode cX2_addTicket 62 = .ok (.ireturn, 1) := by decide +kernel
theorem dX2_addTicket_63 : decode cX2_addTicket 63 = .ok (.aload_n 0, 1) := by decide +kernel
theorem dX2_addTicket_64 : decode cX2_addTicket 64 = .ok (.getfield 24, 3) := by decide +kernel
theorem dX2_addTicket_67 : decode cX2_addTicket 67 = .ok (.aload_n 0, 1) := by decide +kernel
theorem dX2_addTicket_68 : decode cX2_addTicket 68 = .ok (.getfield 80, 3) := by decide +kernel
theorem dX2_addTicket_71 : decode cX2_addTicket 71 = .ok (.iload_n 1, 1) := by decide +kernel
theorem dX2_addTicket_72 : decode cX2_addTicket 72 = .ok (.iastore, 1) := by decide +kernel
theorem dX2_addTicket_73 : decode cX2_addTicket 73 = .ok (.aload_n 0, 1) := by decide +kernel
theorem dX2_addTicket_74 : decode cX2_addTicket 74 = .ok (.getfield 27, 3) := by decide +kernel
theorem dX2_addTicket_77 : decode cX2_addTicket 77 = .ok (.aload_n 0, 1) := by decide +kernel
theorem dX2_addTicket_78 : decode cX2_addTicket 78 = .ok (.getfield 80, 3) := by decide +kernel
theorem dX2_addTicket_81 : decode cX2_addTicket 81 = .ok (.iload_n 2, 1) := by decide +kernel
theorem dX2_addTicket_82 : decode cX2_addTicket 82 = .ok (.iastore, 1) := by decide +kernel
theorem dX2_addTicket_83 : decode cX2_addTicket 83 = .ok (.aload_n 0, 1) := by decide +kernel
theorem dX2_addTicket_84 : decode cX2_addTicket 84 = .ok (.dup, 1) := by decide +kernel
theorem dX2_addTicket_85 : decode cX2_addTicket 85 = .ok (.getfield 80, 3) := by decide +kernel
theorem dX2_addTicket_88 : decode cX2_addTicket 88 = .ok (.iconst 1, 1) := by decide +kernel
theorem dX2_addTicket_89 : decode cX2_addTicket 89 = .ok (.iadd, 1) := by decide +kernel
theorem dX2_addTicket_90 : decode cX2_addTicket 90 = .ok (.putfield 80, 3) := by decide +kernel
theorem dX2_addTicket_93 : decode cX2_addTicket 93 = .ok (.aload_n 0, 1) := by decide +kernel
theorem dX2_addTicket_94 : decode cX2_addTicket 94 = .ok (.getfield 80, 3) := by decide +kernel
theorem dX2_addTicket_97 : decode cX2_addTicket 97 = .ok (.iconst 1, 1) := by decide +kernel
theorem dX2_addTicket_98 : decode cX2_addTicket 98 = .ok (.isub, 1) := by decide +kernel
theorem dX2_addTicket_99 : decode cX2_addTicket 99 = .ok (.ireturn, 1) := by decide +kernel
theorem dX2_addDesk_0 : decode cX2_addDesk 0 = .ok (.iload_n 1, 1) := by decide +kernel
theorem dX2_addDesk_1 : decode cX2_addDesk 1 = .ok (.ifCond .lt 20, 3) := by decide +kernel
theorem dX2_addDesk_4 : decode cX2_addDesk 4 = .ok (.iload_n 1, 1) := by decide +kernel
theorem dX2_addDesk_5 : decode cX2_addDesk 5 = .ok (.bipush 31, 2) := by decide +kernel
theorem dX2_addDesk_7 : decode cX2_addDesk 7 = .ok (.if_icmp .gt 14, 3) := by decide +kernel
theorem dX2_addDesk_10 : decode cX2_addDesk 10 = .ok (.iload_n 2, 1) := by decide +kernel
theorem dX2_addDesk_11 : decode cX2_addDesk 11 = .ok (.iconst 1, 1) := by decide +kernel
theorem dX2_addDesk_12 : decode cX2_addDesk 12 = .ok (.if_icmp .lt 9, 3) := by decide +kernel
theorem dX2_addDesk_15 : decode cX2_addDesk 15 = .ok (.iload_n 2, 1) := by decide +kernel
theorem dX2_addDesk_16 : decode cX2_addDesk 16 = .ok (.bipush 9, 2) := by decide +kernel
theorem dX2_addDesk_18 : decode cX2_addDesk 18 = .ok (.if_icmp .le 5, 3) := by decide +kernel
theorem dX2_addDesk_21 : decode cX2_addDesk 21 = .ok (.iconst (-1), 1) := by decide +kernel
theorem dX2_addDesk_22 : decode cX2_addDesk 22 = .ok (.ireturn, 1) := by decide +kernel
theorem dX2_addDesk_23 : decode cX2_addDesk 23 = .ok (.aload_n 0, 1) := by decide +kernel
theorem dX2_addDesk_24 : decode cX2_addDesk 24 = .ok (.getfield 83, 3) := by decide +kernel
theorem dX2_addDesk_27 : decode cX2_addDesk 27 = .ok (.iconst 3, 1) := by decide +kernel
theorem dX2_addDesk_28 : decode cX2_addDesk 28 = .ok (.if_icmp .lt 6, 3) := by decide +kernel
theorem dX2_addDesk_31 : decode cX2_addDesk 31 = .ok (.bipush (-5), 2) := by decide +kernel
theorem dX2_addDesk_33 : decode cX2_addDesk 33 = .ok (.ireturn, 1) := by decide +kernel
theorem dX2_addDesk_34 : decode cX2_addDesk 34 = .ok (.aload_n 0, 1) := by decide +kernel
theorem dX2_addDesk_35 : decode cX2_addDesk 35 = .ok (.getfield 33, 3) := by decide +kernel
theorem dX2_addDesk_38 : decode cX2_addDesk 38 = .ok (.aload_n 0, 1) := by decide +kernel
theorem dX2_addDesk_39 : decode cX2_addDesk 39 = .ok (.getfield 83, 3) := by decide +kernel
theorem dX2_addDesk_42 : decode cX2_addDesk 42 = .ok (.iload_n 1, 1) := by decide +kernel
theorem dX2_addDesk_43 : decode cX2_addDesk 43 = .ok (.iastore, 1) := by decide +kernel
theorem dX2_addDesk_44 : decode cX2_addDesk 44 = .ok (.aload_n 0, 1) := by decide +kernel
theorem dX2_addDesk_45 : decode cX2_addDesk 45 = .ok (.getfield 36, 3) := by decide +kernel
theorem dX2_addDesk_48 : decode cX2_addDesk 48 = .ok (.aload_n 0, 1) := by decide +kernel
theorem dX2_addDesk_49 : decode cX2_addDesk 49 = .ok (.getfield 83, 3) := by decide +kernel
theorem dX2_addDesk_52 : decode cX2_addDesk 52 = .ok (.iload_n 2, 1) := by decide +kernel
theorem dX2_addDesk_53 : decode cX2_addDesk 53 = .ok (.iastore, 1) := by decide +kernel
theorem dX2_addDesk_54 : decode cX2_addDesk 54 = .ok (.aload_n 0, 1) := by decide +kernel
theorem dX2_addDesk_55 : decode cX2_addDesk 55 = .ok (.dup, 1) := by decide +kernel
theorem dX2_addDesk_56 : decode cX2_addDesk 56 = .ok (.getfield 83, 3) := by decide +kernel
theorem dX2_addDesk_59 : decode cX2_addDesk 59 = .ok (.iconst 1, 1) := by decide +kernel
theorem dX2_addDesk_60 : decode cX2_addDesk 60 = .ok (.iadd, 1) := by decide +kernel
theorem dX2_addDesk_61 : decode cX2_addDesk 61 = .ok (.putfield 83, 3) := by decide +kernel
theorem dX2_addDesk_64 : decode cX2_addDesk 64 = .ok (.aload_n 0, 1) := by decide +kernel
theorem dX2_addDesk_65 : decode cX2_addDesk 65 = .ok (.getfield 83, 3) := by decide +kernel
theorem dX2_addDesk_68 : decode cX2_addDesk 68 = .ok (.iconst 1, 1) := by decide +kernel
theorem dX2_addDesk_69 : decode cX2_addDesk 69 = .ok (.isub, 1) := by decide +kernel
theorem dX2_addDesk_70 : decode cX2_addDesk 70 = .ok (.ireturn, 1) := by decide +kernel
theorem dX2_addLaw_0 : decode cX2_addLaw 0 = .ok (.aload_n 0, 1) := by decide +kernel
theorem dX2_addLaw_1 : decode cX2_addLaw 1 = .ok (.getfield 89, 3) := by decide +kernel
theorem dX2_addLaw_4 : decode cX2_addLaw 4 = .ok (.bipush 6, 2) := by decide +kernel
theorem dX2_addLaw_6 : decode cX2_addLaw 6 = .ok (.if_icmp .lt 6, 3) := by decide +kernel
theorem dX2_addLaw_9 : decode cX2_addLaw 9 = .ok (.bipush (-5), 2) := by decide +kernel
theorem dX2_addLaw_11 : decode cX2_addLaw 11 = .ok (.ireturn, 1) := by decide +kernel
theorem dX2_addLaw_12 : decode cX2_addLaw 12 = .ok (.aload_n 0, 1) := by decide +kernel
theorem dX2_addLaw_13 : decode cX2_addLaw 13 = .ok (.getfield 50, 3) := by decide +kernel
theorem dX2_addLaw_16 : decode cX2_addLaw 16 = .ok (.aload_n 0, 1) := by decide +kernel
theorem dX2_addLaw_17 : decode cX2_addLaw 17 = .ok (.getfield 89, 3) := by decide +kernel
theorem dX2_addLaw_20 : decode cX2_addLaw 20 = .ok (.aload_n 1, 1) := by decide +kernel
theorem dX2_addLaw_21 : decode cX2_addLaw 21 = .ok (.aastore, 1) := by decide +kernel
theorem dX2_addLaw_22 : decode cX2_addLaw 22 = .ok (.aload_n 0, 1) := by decide +kernel
theorem dX2_addLaw_23 : decode cX2_addLaw 23 = .ok (.dup, 1) := by decide +kernel
theorem dX2_addLaw_24 : decode cX2_addLaw 24 = .ok (.getfield 89, 3) := by decide +kernel
theorem dX2_addLaw_27 : decode cX2_addLaw 27 = .ok (.iconst 1, 1) := by decide +kernel
theorem dX2_addLaw_28 : decode cX2_addLaw 28 = .ok (.iadd, 1) := by decide +kernel
theorem dX2_addLaw_29 : decode cX2_addLaw 29 = .ok (.putfield 89, 3) := by decide +kernel
theorem dX2_addLaw_32 : decode cX2_addLaw 32 = .ok (.aload_n 0, 1) := by decide +kernel
theorem dX2_addLaw_33 : decode cX2_addLaw 33 = .ok (.getfield 89, 3) := by decide +kernel
theorem dX2_addLaw_36 : decode cX2_addLaw 36 = .ok (.iconst 1, 1) := by decide +kernel
theorem dX2_addLaw_37 : decode cX2_addLaw 37 = .ok (.isub, 1) := by decide +kernel
theorem dX2_addLaw_38 : decode cX2_addLaw 38 = .ok (.ireturn, 1) := by decide +kernel
theorem dX2_free_0 : decode cX2_free 0 = .ok (.iconst 0, 1) := by decide +kernel
theorem dX2_free_1 : decode cX2_free 1 = .ok (.istore_n 1, 1) := by decide +kernel
theorem dX2_free_2 : decode cX2_free 2 = .ok (.iconst 0, 1) := by decide +kernel
theorem dX2_free_3 : decode cX2_free 3 = .ok (.istore_n 2, 1) := by decide +kernel
theorem dX2_free_4 : decode cX2_free 4 = .ok (.iload_n 2, 1) := by decide +kernel
theorem dX2_free_5 : decode cX2_free 5 = .ok (.aload_n 0, 1) := by decide +kernel
theorem dX2_free_6 : decode cX2_free 6 = .ok (.getfield 80, 3) := by decide +kernel
theorem dX2_free_9 : decode cX2_free 9 = .ok (.if_icmp .ge 22, 3) := by decide +kernel
theorem dX2_free_12 : decode cX2_free 12 = .ok (.aload_n 0, 1) := by decide +kernel
theorem dX2_free_13 : decode cX2_free 13 = .ok (.getfield 30, 3) := by decide +kernel
theorem dX2_free_16 : decode cX2_free 16 = .ok (.iload_n 2, 1) := by decide +kernel
theorem dX2_free_17 : decode cX2_free 17 = .ok (.iaload, 1) := by decide +kernel
theorem dX2_free_18 : decode cX2_free 18 = .ok (.iconst (-1), 1) := by decide +kernel
theorem dX2_free_19 : decode cX2_free 19 = .ok (.if_icmp .ne 6, 3) := by decide +kernel
theorem dX2_free_22 : decode cX2_free 22 = .ok (.iinc 1 1, 3) := by decide +kernel
theorem dX2_free_25 : decode cX2_free 25 = .ok (.iinc 2 1, 3) := by decide +kernel
theorem dX2_free_28 : decode cX2_free 28 = .ok (.goto (-24), 3) := by decide +kernel
theorem dX2_free_31 : decode cX2_free 31 = .ok (.iload_n 1, 1) := by decide +kernel
theorem dX2_free_32 : decode cX2_free 32 = .ok (.ireturn, 1) := by decide +kernel
theorem dX2_give_0 : decode cX2_give 0 = .ok (.aload_n 0, 1) := by decide +kernel
theorem dX2_give_1 : decode cX2_give 1 = .ok (.getfield 30, 3) := by decide +kernel
theorem dX2_give_4 : decode cX2_give 4 = .ok (.iload_n 1, 1) := by decide +kernel
theorem dX2_give_5 : decode cX2_give 5 = .ok (.iload_n 2, 1) := by decide +kernel
theorem dX2_give_6 : decode cX2_give 6 = .ok (.iastore, 1) := by decide +kernel
theorem dX2_give_7 : decode cX2_give 7 = .ok (.aload_n 0, 1) := by decide +kernel
theorem dX2_give_8 : decode cX2_give 8 = .ok (.getfield 18, 3) := by decide +kernel
theorem dX2_give_11 : decode cX2_give 11 = .ok (.iload_n 2, 1) := by decide +kernel
theorem dX2_give_12 : decode cX2_give 12 = .ok (.iload_n 1, 1) := by decide +kernel
theorem dX2_give_13 : decode cX2_give 13 = .ok (.iastore, 1) := by decide +kernel
theorem dX2_give_14 : decode cX2_give 14 = .ok (.return_, 1) := by decide +kernel
theorem dX2_ungive_0 : decode cX2_ungive 0 = .ok (.aload_n 0, 1) := by decide +kernel
theorem dX2_ungive_1 : decode cX2_ungive 1 = .ok (.getfield 30, 3) := by decide +kernel
theorem dX2_ungive_4 : decode cX2_ungive 4 = .ok (.iload_n 1, 1) := by decide +kernel
theorem dX2_ungive_5 : decode cX2_ungive 5 = .ok (.iconst (-1), 1) := by decide +kernel
theorem dX2_ungive_6 : decode cX2_ungive 6 = .ok (.iastore, 1) := by decide +kernel
theorem dX2_ungive_7 : decode cX2_ungive 7 = .ok (.aload_n 0, 1) := by decide +kernel
theorem dX2_ungive_8 : decode cX2_ungive 8 = .ok (.getfield 18, 3) := by decide +kernel
theorem dX2_ungive_11 : decode cX2_ungive 11 = .ok (.iload_n 2, 1) := by decide +kernel
theorem dX2_ungive_12 : decode cX2_ungive 12 = .ok (.iconst (-1), 1) := by decide +kernel
theorem dX2_ungive_13 : decode cX2_ungive 13 = .ok (.iastore, 1) := by decide +kernel
theorem dX2_ungive_14 : decode cX2_ungive 14 = .ok (.return_, 1) := by decide +kernel
theorem dX2_cross_0 : decode cX2_cross 0 = .ok (.aload_n 0, 1) := by decide +kernel
theorem dX2_cross_1 : decode cX2_cross 1 = .ok (.getfield 18, 3) := by decide +kernel
theorem dX2_cross_4 : decode cX2_cross 4 = .ok (.iload_n 1, 1) := by decide +kernel
theorem dX2_cross_5 : decode cX2_cross 5 = .ok (.iaload, 1) := by decide +kernel
theorem dX2_cross_6 : decode cX2_cross 6 = .ok (.istore_n 3, 1) := by decide +kernel
theorem dX2_cross_7 : decode cX2_cross 7 = .ok (.aload_n 0, 1) := by decide +kernel
theorem dX2_cross_8 : decode cX2_cross 8 = .ok (.aload_n 0, 1) := by decide +kernel
theorem dX2_cross_9 : decode cX2_cross 9 = .ok (.getfield 18, 3) := by decide +kernel
theorem dX2_cross_12 : decode cX2_cross 12 = .ok (.iload_n 2, 1) := by decide +kernel
theorem dX2_cross_13 : decode cX2_cross 13 = .ok (.iaload, 1) := by decide +kernel
theorem dX2_cross_14 : decode cX2_cross 14 = .ok (.iload_n 1, 1) := by decide +kernel
theorem dX2_cross_15 : decode cX2_cross 15 = .ok (.invokevirtual 104, 3) := by decide +kernel
theorem dX2_cross_18 : decode cX2_cross 18 = .ok (.aload_n 0, 1) := by decide +kernel
theorem dX2_cross_19 : decode cX2_cross 19 = .ok (.iload_n 3, 1) := by decide +kernel
theorem dX2_cross_20 : decode cX2_cross 20 = .ok (.iload_n 2, 1) := by decide +kernel
theorem dX2_cross_21 : decode cX2_cross 21 = .ok (.invokevirtual 104, 3) := by decide +kernel
theorem dX2_cross_24 : decode cX2_cross 24 = .ok (.return_, 1) := by decide +kernel
theorem dX2_takeBack_0 : decode cX2_takeBack 0 = .ok (.aload_n 0, 1) := by decide +kernel
theorem dX2_takeBack_1 : decode cX2_takeBack 1 = .ok (.getfield 61, 3) := by decide +kernel
theorem dX2_takeBack_4 : decode cX2_takeBack 4 = .ok (.getfield 108, 3) := by decide +kernel
theorem dX2_takeBack_7 : decode cX2_takeBack 7 = .ok (.ifCond .ne 6, 3) := by decide +kernel
theorem dX2_takeBack_10 : decode cX2_takeBack 10 = .ok (.bipush (-3), 2) := by decide +kernel
theorem dX2_takeBack_12 : decode cX2_takeBack 12 = .ok (.ireturn, 1) := by decide +kernel
theorem dX2_takeBack_13 : decode cX2_takeBack 13 = .ok (.aload_n 0, 1) := by decide +kernel
theorem dX2_takeBack_14 : decode cX2_takeBack 14 = .ok (.getfield 61, 3) := by decide +kernel
theorem dX2_takeBack_17 : decode cX2_takeBack 17 = .ok (.invokevirtual 111, 3) := by decide +kernel
theorem dX2_takeBack_20 : decode cX2_takeBack 20 = .ok (.istore_n 1, 1) := by decide +kernel
theorem dX2_takeBack_21 : decode cX2_takeBack 21 = .ok (.iload_n 1, 1) := by decide +kernel
theorem dX2_takeBack_22 : decode cX2_takeBack 22 = .ok (.iconst 4, 1) := by decide +kernel
theorem dX2_takeBack_23 : decode cX2_takeBack 23 = .ok (.ishr, 1) := by decide +kernel
theorem dX2_takeBack_24 : decode cX2_takeBack 24 = .ok (.bipush 15, 2) := by decide +kernel
theorem dX2_takeBack_26 : decode cX2_takeBack 26 = .ok (.iand, 1) := by decide +kernel
theorem dX2_takeBack_27 : decode cX2_takeBack 27 = .ok (.istore_n 2, 1) := by decide +kernel
theorem dX2_takeBack_28 : decode cX2_takeBack 28 = .ok (.iload_n 1, 1) := by decide +kernel
theorem dX2_takeBack_29 : decode cX2_takeBack 29 = .ok (.bipush 15, 2) := by decide +kernel
theorem dX2_takeBack_31 : decode cX2_takeBack 31 = .ok (.iand, 1) := by decide +kernel
theorem dX2_takeBack_32 : decode cX2_takeBack 32 = .ok (.istore_n 3, 1) := by decide +kernel
theorem dX2_takeBack_33 : decode cX2_takeBack 33 = .ok (.iload_n 1, 1) := by decide +kernel
theorem dX2_takeBack_34 : decode cX2_takeBack 34 = .ok (.bipush 8, 2) := by decide +kernel
theorem dX2_takeBack_36 : decode cX2_takeBack 36 = .ok (.ishr, 1) := by decide +kernel
theorem dX2_takeBack_37 : decode cX2_takeBack 37 = .ok (.istore 4, 2) := by decide +kernel
theorem dX2_takeBack_39 : decode cX2_takeBack 39 = .ok (.iload 4, 2) := by decide +kernel
theorem dX2_takeBack_41 : decode cX2_takeBack 41 = .ok (.tableswitch 54 0 2 #[27, 36, 45], 27) := by decide +kernel
theorem dX2_takeBack_68 : decode cX2_takeBack 68 = .ok (.aload_n 0, 1) := by decide +kernel
theorem dX2_takeBack_69 : decode cX2_takeBack 69 = .ok (.iload_n 2, 1) := by decide +kernel
theorem dX2_takeBack_70 : decode cX2_takeBack 70 = .ok (.iload_n 3, 1) := by decide +kernel
theorem dX2_takeBack_71 : decode cX2_takeBack 71 = .ok (.invokevirtual 115, 3) := by decide +kernel
theorem dX2_takeBack_74 : decode cX2_takeBack 74 = .ok (.goto 31, 3) := by decide +kernel
theorem dX2_takeBack_77 : decode cX2_takeBack 77 = .ok (.aload_n 0, 1) := by decide +kernel
theorem dX2_takeBack_78 : decode cX2_takeBack 78 = .ok (.iload_n 2, 1) := by decide +kernel
theorem dX2_takeBack_79 : decode cX2_takeBack 79 = .ok (.iload_n 3, 1) := by decide +kernel
theorem dX2_takeBack_80 : decode cX2_takeBack 80 = .ok (.invokevirtual 118, 3) := by decide +kernel
theorem dX2_takeBack_83 : decode cX2_takeBack 83 = .ok (.goto 22, 3) := by decide +kernel
theorem dX2_takeBack_86 : decode cX2_takeBack 86 = .ok (.aload_n 0, 1) := by decide +kernel
theorem dX2_takeBack_87 : decode cX2_takeBack 87 = .ok (.iload_n 2, 1) := by decide +kernel
theorem dX2_takeBack_88 : decode cX2_takeBack 88 = .ok (.iload_n 3, 1) := by decide +kernel
theorem dX2_takeBack_89 : decode cX2_takeBack 89 = .ok (.invokevirtual 104, 3) := by decide +kernel
theorem dX2_takeBack_92 : decode cX2_takeBack 92 = .ok (.goto 13, 3) := by decide +kernel
theorem dX2_takeBack_95 : decode cX2_takeBack 95 = .ok (.aload_n 0, 1) := by decide +kernel
theorem dX2_takeBack_96 : decode cX2_takeBack 96 = .ok (.getfield 45, 3) := by decide +kernel
theorem dX2_takeBack_99 : decode cX2_takeBack 99 = .ok (.iconst 0, 1) := by decide +kernel
theorem dX2_takeBack_100 : decode cX2_takeBack 100 = .ok (.dup2, 1) := by decide +kernel
theorem dX2_takeBack_101 : decode cX2_takeBack 101 = .ok (.iaload, 1) := by decide +kernel
theorem dX2_takeBack_102 : decode cX2_takeBack 102 = .ok (.iconst 1, 1) := by decide +kernel
theorem dX2_takeBack_103 : decode cX2_takeBack 103 = .ok (.isub, 1) := by decide +kernel
theorem dX2_takeBack_104 : decode cX2_takeBack 104 = .ok (.iastore, 1) := by decide +kernel
theorem dX2_takeBack_105 : decode cX2_takeBack 105 = .ok (.aload_n 0, 1) := by decide +kernel
theorem dX2_takeBack_106 : decode cX2_takeBack 106 = .ok (.getfield 61, 3) := by decide +kernel
theorem dX2_takeBack_109 : decode cX2_takeBack 109 = .ok (.dup, 1) := by decide +kernel
theorem dX2_takeBack_110 : decode cX2_takeBack 110 = .ok (.getfield 108, 3) := by decide +kernel
theorem dX2_takeBack_113 : decode cX2_takeBack 113 = .ok (.iconst 1, 1) := by decide +kernel
theorem dX2_takeBack_114 : decode cX2_takeBack 114 = .ok (.isub, 1) := by decide +kernel
theorem dX2_takeBack_115 : decode cX2_takeBack 115 = .ok (.putfield 108, 3) := by decide +kernel
theorem dX2_takeBack_118 : decode cX2_takeBack 118 = .ok (.iload 4, 2) := by decide +kernel
theorem dX2_takeBack_120 : decode cX2_takeBack 120 = .ok (.ireturn, 1) := by decide +kernel
