theorem dX11_count_136 : decode cX11_count 136 = .ok (.aload_n 0, 1) := by decide +kernel
theorem dX11_count_137 : decode cX11_count 137 = .ok (.getfield 10, 3) := by decide +kernel
theorem dX11_count_140 : decode cX11_count 140 = .ok (.getfield 360, 3) := by decide +kernel
theorem dX11_count_143 : decode cX11_count 143 = .ok (.aload_n 0, 1) := by decide +kernel
theorem dX11_count_144 : decode cX11_count 144 = .ok (.getfield 10, 3) := by decide +kernel
theorem dX11_count_147 : decode cX11_count 147 = .ok (.invokevirtual 376, 3) := by decide +kernel
theorem dX11_count_150 : decode cX11_count 150 = .ok (.isub, 1) := by decide +kernel
theorem dX11_count_151 : decode cX11_count 151 = .ok (.ireturn, 1) := by decide +kernel
theorem dX11_count_152 : decode cX11_count 152 = .ok (.aload_n 0, 1) := by decide +kernel
theorem dX11_count_153 : decode cX11_count 153 = .ok (.getfield 10, 3) := by decide +kernel
theorem dX11_count_156 : decode cX11_count 156 = .ok (.getfield 177, 3) := by decide +kernel
theorem dX11_count_159 : decode cX11_count 159 = .ok (.ireturn, 1) := by decide +kernel
theorem dX11_count_160 : decode cX11_count 160 = .ok (.aload_n 0, 1) := by decide +kernel
theorem dX11_count_161 : decode cX11_count 161 = .ok (.getfield 10, 3) := by decide +kernel
theorem dX11_count_164 : decode cX11_count 164 = .ok (.getfield 322, 3) := by decide +kernel
theorem dX11_count_167 : decode cX11_count 167 = .ok (.ireturn, 1) := by decide +kernel
theorem dX11_count_168 : decode cX11_count 168 = .ok (.aload_n 0, 1) := by decide +kernel
theorem dX11_count_169 : decode cX11_count 169 = .ok (.getfield 10, 3) := by decide +kernel
theorem dX11_count_172 : decode cX11_count 172 = .ok (.getfield 203, 3) := by decide +kernel
theorem dX11_count_175 : decode cX11_count 175 = .ok (.ireturn, 1) := by decide +kernel
theorem dX11_count_176 : decode cX11_count 176 = .ok (.aload_n 0, 1) := by decide +kernel
theorem dX11_count_177 : decode cX11_count 177 = .ok (.getfield 10, 3) := by decide +kernel
theorem dX11_count_180 : decode cX11_count 180 = .ok (.getfield 113, 3) := by decide +kernel
theorem dX11_count_183 : decode cX11_count 183 = .ok (.getfield 379, 3) := by decide +kernel
theorem dX11_count_186 : decode cX11_count 186 = .ok (.ireturn, 1) := by decide +kernel
theorem dX11_count_187 : decode cX11_count 187 = .ok (.aload_n 0, 1) := by decide +kernel
theorem dX11_count_188 : decode cX11_count 188 = .ok (.getfield 30, 3) := by decide +kernel
theorem dX11_count_191 : decode cX11_count 191 = .ok (.getfield 190, 3) := by decide +kernel
theorem dX11_count_194 : decode cX11_count 194 = .ok (.ireturn, 1) := by decide +kernel
theorem dX11_count_195 : decode cX11_count 195 = .ok (.aload_n 0, 1) := by decide +kernel
theorem dX11_count_196 : decode cX11_count 196 = .ok (.getfield 10, 3) := by decide +kernel
theorem dX11_count_199 : decode cX11_count 199 = .ok (.getfield 239, 3) := by decide +kernel
theorem dX11_count_202 : decode cX11_count 202 = .ok (.ireturn, 1) := by decide +kernel
theorem dX11_count_203 : decode cX11_count 203 = .ok (.iconst (-1), 1) := by decide +kernel
theorem dX11_count_204 : decode cX11_count 204 = .ok (.ireturn, 1) := by decide +kernel
theorem dX11_status_0 : decode cX11_status 0 = .ok (.aload_n 0, 1) := by decide +kernel
theorem dX11_status_1 : decode cX11_status 1 = .ok (.getfield 382, 3) := by decide +kernel
theorem dX11_status_4 : decode cX11_status 4 = .ok (.ireturn, 1) := by decide +kernel
theorem dX11_accepted_0 : decode cX11_accepted 0 = .ok (.aload_n 0, 1) := by decide +kernel
theorem dX11_accepted_1 : decode cX11_accepted 1 = .ok (.iconst 0, 1) := by decide +kernel
theorem dX11_accepted_2 : decode cX11_accepted 2 = .ok (.putfield 382, 3) := by decide +kernel
theorem dX11_accepted_5 : decode cX11_accepted 5 = .ok (.aload_n 0, 1) := by decide +kernel
theorem dX11_accepted_6 : decode cX11_accepted 6 = .ok (.getfield 64, 3) := by decide +kernel
theorem dX11_accepted_9 : decode cX11_accepted 9 = .ok (.invokevirtual 331, 3) := by decide +kernel
theorem dX11_accepted_12 : decode cX11_accepted 12 = .ok (.iload_n 1, 1) := by decide +kernel
theorem dX11_accepted_13 : decode cX11_accepted 13 = .ok (.ireturn, 1) := by decide +kernel
theorem dX11_refused_0 : decode cX11_refused 0 = .ok (.aload_n 0, 1) := by decide +kernel
theorem dX11_refused_1 : decode cX11_refused 1 = .ok (.iload_n 1, 1) := by decide +kernel
theorem dX11_refused_2 : decode cX11_refused 2 = .ok (.putfield 382, 3) := by decide +kernel
theorem dX11_refused_5 : decode cX11_refused 5 = .ok (.iload_n 1, 1) := by decide +kernel
theorem dX11_refused_6 : decode cX11_refused 6 = .ok (.bipush (-3), 2) := by decide +kernel
theorem dX11_refused_8 : decode cX11_refused 8 = .ok (.if_icmp .lt 9, 3) := by decide +kernel
theorem dX11_refused_11 : decode cX11_refused 11 = .ok (.iconst (-1), 1) := by decide +kernel
theorem dX11_refused_12 : decode cX11_refused 12 = .ok (.iload_n 1, 1) := by decide +kernel
theorem dX11_refused_13 : decode cX11_refused 13 = .ok (.isub, 1) := by decide +kernel
theorem dX11_refused_14 : decode cX11_refused 14 = .ok (.goto 7, 3) := by decide +kernel
theorem dX11_refused_17 : decode cX11_refused 17 = .ok (.bipush (-2), 2) := by decide +kernel
theorem dX11_refused_19 : decode cX11_refused 19 = .ok (.iload_n 1, 1) := by decide +kernel
theorem dX11_refused_20 : decode cX11_refused 20 = .ok (.isub, 1) := by decide +kernel
theorem dX11_refused_21 : decode cX11_refused 21 = .ok (.istore_n 2, 1) := by decide +kernel
theorem dX11_refused_22 : decode cX11_refused 22 = .ok (.iload_n 2, 1) := by decide +kernel
theorem dX11_refused_23 : decode cX11_refused 23 = .ok (.ifCond .lt 22, 3) := by decide +kernel
theorem dX11_refused_26 : decode cX11_refused 26 = .ok (.iload_n 2, 1) := by decide +kernel
theorem dX11_refused_27 : decode cX11_refused 27 = .ok (.aload_n 0, 1) := by decide +kernel
theorem dX11_refused_28 : decode cX11_refused 28 = .ok (.getfield 84, 3) := by decide +kernel
theorem dX11_refused_31 : decode cX11_refused 31 = .ok (.arraylength, 1) := by decide +kernel
theorem dX11_refused_32 : decode cX11_refused 32 = .ok (.if_icmp .ge 13, 3) := by decide +kernel
theorem dX11_refused_35 : decode cX11_refused 35 = .ok (.aload_n 0, 1) := by decide +kernel
theorem dX11_refused_36 : decode cX11_refused 36 = .ok (.getfield 84, 3) := by decide +kernel
theorem dX11_refused_39 : decode cX11_refused 39 = .ok (.iload_n 2, 1) := by decide +kernel
theorem dX11_refused_40 : decode cX11_refused 40 = .ok (.dup2, 1) := by decide +kernel
theorem dX11_refused_41 : decode cX11_refused 41 = .ok (.iaload, 1) := by decide +kernel
theorem dX11_refused_42 : decode cX11_refused 42 = .ok (.iconst 1, 1) := by decide +kernel
theorem dX11_refused_43 : decode cX11_refused 43 = .ok (.iadd, 1) := by decide +kernel
theorem dX11_refused_44 : decode cX11_refused 44 = .ok (.iastore, 1) := by decide +kernel
theorem dX11_refused_45 : decode cX11_refused 45 = .ok (.iload_n 1, 1) := by decide +kernel
theorem dX11_refused_46 : decode cX11_refused 46 = .ok (.ireturn, 1) := by decide +kernel
theorem dX11_playDay_0 : decode cX11_playDay 0 = .ok (.aload_n 0, 1) := by decide +kernel
theorem dX11_playDay_1 : decode cX11_playDay 1 = .ok (.getfield 39, 3) := by decide +kernel
theorem dX11_playDay_4 : decode cX11_playDay 4 = .ok (.aload_n 0, 1) := by decide +kernel
theorem dX11_playDay_5 : decode cX11_playDay 5 = .ok (.getfield 10, 3) := by decide +kernel
theorem dX11_playDay_8 : decode cX11_playDay 8 = .ok (.aload_n 1, 1) := by decide +kernel
theorem dX11_playDay_9 : decode cX11_playDay 9 = .ok (.invokevirtual 142, 3) := by decide +kernel
theorem dX11_playDay_12 : decode cX11_playDay 12 = .ok (.aload_n 0, 1) := by decide +kernel
theorem dX11_playDay_13 : decode cX11_playDay 13 = .ok (.getfield 55, 3) := by decide +kernel
theorem dX11_playDay_16 : decode cX11_playDay 16 = .ok (.aload_n 0, 1) := by decide +kernel
theorem dX11_playDay_17 : decode cX11_playDay 17 = .ok (.getfield 10, 3) := by decide +kernel
theorem dX11_playDay_20 : decode cX11_playDay 20 = .ok (.invokevirtual 308, 3) := by decide +kernel
theorem dX11_playDay_23 : decode cX11_playDay 23 = .ok (.aload_n 0, 1) := by decide +kernel
theorem dX11_playDay_24 : decode cX11_playDay 24 = .ok (.getfield 55, 3) := by decide +kernel
theorem dX11_playDay_27 : decode cX11_playDay 27 = .ok (.aload_n 0, 1) := by decide +kernel
theorem dX11_playDay_28 : decode cX11_playDay 28 = .ok (.getfield 39, 3) := by decide +kernel
theorem dX11_playDay_31 : decode cX11_playDay 31 = .ok (.aload_n 0, 1) := by decide +kernel
theorem dX11_playDay_32 : decode cX11_playDay 32 = .ok (.getfield 10, 3) := by decide +kernel
theorem dX11_playDay_35 : decode cX11_playDay 35 = .ok (.getfield 161, 3) := by decide +kernel
theorem dX11_playDay_38 : decode cX11_playDay 38 = .ok (.bipush 7, 2) := by decide +kernel
theorem dX11_playDay_40 : decode cX11_playDay 40 = .ok (.invokevirtual 385, 3) := by decide +kernel
theorem dX11_playDay_43 : decode cX11_playDay 43 = .ok (.return_, 1) := by decide +kernel
theorem dX11_mostOfTerm_0 : decode cX11_mostOfTerm 0 = .ok (.iload_n 0, 1) := by decide +kernel
theorem dX11_mostOfTerm_1 : decode cX11_mostOfTerm 1 = .ok (.ifCond .ne 7, 3) := by decide +kernel
theorem dX11_mostOfTerm_4 : decode cX11_mostOfTerm 4 = .ok (.sipush 999, 3) := by decide +kernel
theorem dX11_mostOfTerm_7 : decode cX11_mostOfTerm 7 = .ok (.ireturn, 1) := by decide +kernel
theorem dX11_mostOfTerm_8 : decode cX11_mostOfTerm 8 = .ok (.iload_n 0, 1) := by decide +kernel
theorem dX11_mostOfTerm_9 : decode cX11_mostOfTerm 9 = .ok (.iconst 1, 1) := by decide +kernel
theorem dX11_mostOfTerm_10 : decode cX11_mostOfTerm 10 = .ok (.if_icmp .ne 8, 3) := by decide +kernel
theorem dX11_mostOfTerm_13 : decode cX11_mostOfTerm 13 = .ok (.bipush 10, 2) := by decide +kernel
theorem dX11_mostOfTerm_15 : decode cX11_mostOfTerm 15 = .ok (.goto 5, 3) := by decide +kernel
theorem dX11_mostOfTerm_18 : decode cX11_mostOfTerm 18 = .ok (.bipush 9, 2) := by decide +kernel
theorem dX11_mostOfTerm_20 : decode cX11_mostOfTerm 20 = .ok (.ireturn, 1) := by decide +kernel
